theorem dX0_numberHeld_0 : decode cX0_numberHeld 0 = .ok (.aload_n 0, 1) := by decide +kernel
theorem dX0_numberHeld_1 : decode cX0_numberHeld 1 = .ok (.getfield 21, 3) := by decide +kernel
theorem dX0_numberHeld_4 : decode cX0_numberHeld 4 = .ok (.ifnonnull 7, 3) := by decide +kernel
theorem dX0_numberHeld_7 : decode cX0_numberHeld 7 = .ok (.iconst (-1), 1) := by decide +kernel
theorem dX0_numberHeld_8 : decode cX0_numberHeld 8 = .ok (.goto 10, 3) := by decide +kernel
theorem dX0_numberHeld_18 : decode cX0_numberHeld 18 = .ok (.ireturn, 1) := by decide +kernel
theorem dX1_greatestTop_0 : decode cX1_greatestTop 0 = .ok (.iconst 0, 1) := by decide +kernel
theorem dX1_greatestTop_1 : decode cX1_greatestTop 1 = .ok (.istore 5, 2) := by decide +kernel
theorem dX1_greatestTop_3 : decode cX1_greatestTop 3 = .ok (.iload_n 2, 1) := by decide +kernel
theorem dX1_greatestTop_4 : decode cX1_greatestTop 4 = .ok (.istore 6, 2) := by decide +kernel
theorem dX1_greatestTop_6 : decode cX1_greatestTop 6 = .ok (.iload 6, 2) := by decide +kernel
theorem dX1_greatestTop_8 : decode cX1_greatestTop 8 = .ok (.iload_n 2, 1) := by decide +kernel
theorem dX1_greatestTop_9 : decode cX1_greatestTop 9 = .ok (.iload 4, 2) := by decide +kernel
theorem dX1_greatestTop_11 : decode cX1_greatestTop 11 = .ok (.iadd, 1) := by decide +kernel
theorem dX1_greatestTop_12 : decode cX1_greatestTop 12 = .ok (.if_icmp .ge 72, 3) := by decide +kernel
theorem dX1_greatestTop_15 : decode cX1_greatestTop 15 = .ok (.iload_n 1, 1) := by decide +kernel
theorem dX1_greatestTop_16 : decode cX1_greatestTop 16 = .ok (.istore 7, 2) := by decide +kernel
theorem dX1_greatestTop_18 : decode cX1_greatestTop 18 = .ok (.iload 7, 2) := by decide +kernel
theorem dX1_greatestTop_20 : decode cX1_greatestTop 20 = .ok (.iload_n 1, 1) := by decide +kernel
theorem dX1_greatestTop_21 : decode cX1_greatestTop 21 = .ok (.iload_n 3, 1) := by decide +kernel
theorem dX1_greatestTop_22 : decode cX1_greatestTop 22 = .ok (.iadd, 1) := by decide +kernel
theorem dX1_greatestTop_23 : decode cX1_greatestTop 23 = .ok (.if_icmp .ge 55, 3) := by decide +kernel
theorem dX1_greatestTop_26 : decode cX1_greatestTop 26 = .ok (.iload 6, 2) := by decide +kernel
theorem dX1_greatestTop_28 : decode cX1_greatestTop 28 = .ok (.bipush 6, 2) := by decide +kernel
theorem dX1_greatestTop_30 : decode cX1_greatestTop 30 = .ok (.imul, 1) := by decide +kernel
theorem dX1_greatestTop_31 : decode cX1_greatestTop 31 = .ok (.iload 7, 2) := by decide +kernel
theorem dX1_greatestTop_33 : decode cX1_greatestTop 33 = .ok (.iadd, 1) := by decide +kernel
theorem dX1_greatestTop_34 : decode cX1_greatestTop 34 = .ok (.istore 8, 2) := by decide +kernel
theorem dX1_greatestTop_36 : decode cX1_greatestTop 36 = .ok (.iload 8, 2) := by decide +kernel
theorem dX1_greatestTop_38 : decode cX1_greatestTop 38 = .ok (.ifCond .lt 34, 3) := by decide +kernel
theorem dX1_greatestTop_41 : decode cX1_greatestTop 41 = .ok (.iload 8, 2) := by decide +kernel
theorem dX1_greatestTop_43 : decode cX1_greatestTop 43 = .ok (.aload_n 0, 1) := by decide +kernel
theorem dX1_greatestTop_44 : decode cX1_greatestTop 44 = .ok (.getfield 18, 3) := by decide +kernel
theorem dX1_greatestTop_47 : decode cX1_greatestTop 47 = .ok (.arraylength, 1) := by decide +kernel
theorem dX1_greatestTop_48 : decode cX1_greatestTop 48 = .ok (.if_icmp .ge 24, 3) := by decide +kernel
theorem dX1_greatestTop_51 : decode cX1_greatestTop 51 = .ok (.aload_n 0, 1) := by decide +kernel
theorem dX1_greatestTop_52 : decode cX1_greatestTop 52 = .ok (.getfield 18, 3) := by decide +kernel
theorem dX1_greatestTop_55 : decode cX1_greatestTop 55 = .ok (.iload 8, 2) := by decide +kernel
theorem dX1_greatestTop_57 : decode cX1_greatestTop 57 = .ok (.iaload, 1) := by decide +kernel
theorem dX1_greatestTop_58 : decode cX1_greatestTop 58 = .ok (.iload 5, 2) := by decide +kernel
theorem dX1_greatestTop_60 : decode cX1_greatestTop 60 = .ok (.if_icmp .le 12, 3) := by decide +kernel
theorem dX1_greatestTop_72 : decode cX1_greatestTop 72 = .ok (.iinc 7 1, 3) := by decide +kernel
theorem dX1_greatestTop_75 : decode cX1_greatestTop 75 = .ok (.goto (-57), 3) := by decide +kernel
theorem dX1_greatestTop_78 : decode cX1_greatestTop 78 = .ok (.iinc 6 1, 3) := by decide +kernel
theorem dX1_greatestTop_81 : decode cX1_greatestTop 81 = .ok (.goto (-75), 3) := by decide +kernel
theorem dX1_greatestTop_84 : decode cX1_greatestTop 84 = .ok (.iload 5, 2) := by decide +kernel
theorem dX1_greatestTop_86 : decode cX1_greatestTop 86 = .ok (.ireturn, 1) := by decide +kernel
set_option maxRecDepth 20000 in
theorem ggX1_manyInBin_Jx4a65c_size_8abf5 : GoodIn wsX1_manyInBin wsJx4a65c_size_8abf5 := goodIn_r _ [7, 8, 36, 37, 38] (by decide +kernel) (by decide +kernel)
set_option maxRecDepth 20000 in
theorem gX1_manyInBin_Jx4a65c_size_8abf5 : GoodIn wsX1_manyInBin (wsV RX1 88 RJx4a65c yJx4a65c_size_8abf5 wsJx4a65c_size_8abf5) := goodIn_app (goodIn_of _ (by decide +kernel)) ggX1_manyInBin_Jx4a65c_size_8abf5
theorem dX1_manyInBin_0 : decode cX1_manyInBin 0 = .ok (.iconst 0, 1) := by decide +kernel
theorem dX1_manyInBin_1 : decode cX1_manyInBin 1 = .ok (.istore_n 1, 1) := by decide +kernel
theorem dX1_manyInBin_2 : decode cX1_manyInBin 2 = .ok (.iconst 0, 1) := by decide +kernel
theorem dX1_manyInBin_3 : decode cX1_manyInBin 3 = .ok (.istore_n 2, 1) := by decide +kernel
theorem dX1_manyInBin_4 : decode cX1_manyInBin 4 = .ok (.iload_n 2, 1) := by decide +kernel
theorem dX1_manyInBin_5 : decode cX1_manyInBin 5 = .ok (.aload_n 0, 1) := by decide +kernel
theorem dX1_manyInBin_6 : decode cX1_manyInBin 6 = .ok (.getfield 12, 3) := by decide +kernel
theorem dX1_manyInBin_9 : decode cX1_manyInBin 9 = .ok (.invokevirtual 88, 3) := by decide +kernel
theorem dX1_manyInBin_12 : decode cX1_manyInBin 12 = .ok (.if_icmp .ge 29, 3) := by decide +kernel
theorem dX1_manyInBin_41 : decode cX1_manyInBin 41 = .ok (.iload_n 1, 1) := by decide +kernel
theorem dX1_manyInBin_42 : decode cX1_manyInBin 42 = .ok (.ireturn, 1) := by decide +kernel
set_option maxRecDepth 20000 in
theorem ggX5_many_Jx4a65c_size_8abf5 : GoodIn wsX5_many wsJx4a65c_size_8abf5 := goodIn_r _ [18, 19, 96, 97, 98] (by decide +kernel) (by decide +kernel)
set_option maxRecDepth 20000 in
theorem gX5_many_Jx4a65c_size_8abf5 : GoodIn wsX5_many (wsV RX5 58 RJx4a65c yJx4a65c_size_8abf5 wsJx4a65c_size_8abf5) := goodIn_app (goodIn_of _ (by decide +kernel)) ggX5_many_Jx4a65c_size_8abf5
set_option maxRecDepth 20000 in
theorem ggX5_many_X1_manyInBin : GoodIn wsX5_many wsX1_manyInBin := goodIn_r _ [24, 25, 26, 27, 15, 16, 17, 18, 19, 28, 29, 30, 31, 32, 33, 34, 35, 36, 37, 38, 39, 40, 41, 42, 43, 44, 45, 46, 47, 48, 49, 50, 86, 87, 88, 89, 96, 97, 98, 99, 100, 101, 102, 103, 104, 105, 106, 107, 108] (by decide +kernel) (by decide +kernel)
set_option maxRecDepth 20000 in
theorem gX5_many_X1_manyInBin : GoodIn wsX5_many (wsV RX5 290 RX1 yX1_manyInBin wsX1_manyInBin) := goodIn_app (goodIn_of _ (by decide +kernel)) ggX5_many_X1_manyInBin
set_option maxRecDepth 20000 in
theorem ggX5_many_X5_fullBoxes : GoodIn wsX5_many wsX5_fullBoxes := goodIn_r _ [55, 6, 56, 14, 15, 16, 17, 18, 19, 57, 29, 30, 31, 32, 33, 34, 35, 36, 37, 38, 39, 40, 41, 42, 43, 44, 58, 59, 60, 61, 62, 63, 64, 65, 78, 79, 80, 81, 82, 83, 84, 85, 96, 97, 98, 109, 110, 111, 112] (by decide +kernel) (by decide +kernel)
set_option maxRecDepth 20000 in
theorem gX5_many_X5_fullBoxes : GoodIn wsX5_many (wsV RX5 293 RX5 yX5_fullBoxes wsX5_fullBoxes) := goodIn_app (goodIn_of _ (by decide +kernel)) ggX5_many_X5_fullBoxes
set_option maxRecDepth 20000 in
theorem ggX5_many_X0_numberHeld : GoodIn wsX5_many wsX0_numberHeld := goodIn_r _ [70, 71, 72, 90, 91, 92, 93, 94, 95, 99, 100, 101, 102, 103, 104, 105, 106, 107, 108] (by decide +kernel) (by decide +kernel)
set_option maxRecDepth 20000 in
theorem gX5_many_X0_numberHeld : GoodIn wsX5_many (wsV RX5 296 RX0 yX0_numberHeld wsX0_numberHeld) := goodIn_app (goodIn_of _ (by decide +kernel)) ggX5_many_X0_numberHeld
set_option maxRecDepth 20000 in
theorem ggX5_many_X1_greatestTop : GoodIn wsX5_many wsX1_greatestTop := goodIn_r _ [76, 77, 86, 87, 88, 89] (by decide +kernel) (by decide +kernel)
set_option maxRecDepth 20000 in
theorem gX5_many_X1_greatestTop : GoodIn wsX5_many (wsV RX5 304 RX1 yX1_greatestTop wsX1_greatestTop) := goodIn_app (goodIn_of _ (by decide +kernel)) ggX5_many_X1_greatestTop
theorem dX5_many_0 : decode cX5_many 0 = .ok (.iload_n 1, 1) := by decide +kernel
theorem dX5_many_1 : decode cX5_many 1 = .ok (.tableswitch 168 0 12 #[67, 75, 86, 94, 102, 107, 115, 123, 131, 139, 144, 149, 154], 67) := by decide +kernel
theorem dX5_many_68 : decode cX5_many 68 = .ok (.aload_n 0, 1) := by decide +kernel
theorem dX5_many_69 : decode cX5_many 69 = .ok (.getfield 10, 3) := by decide +kernel
theorem dX5_many_72 : decode cX5_many 72 = .ok (.invokevirtual 58, 3) := by decide +kernel
theorem dX5_many_75 : decode cX5_many 75 = .ok (.ireturn, 1) := by decide +kernel
theorem dX5_many_76 : decode cX5_many 76 = .ok (.aload_n 0, 1) := by decide +kernel
theorem dX5_many_77 : decode cX5_many 77 = .ok (.getfield 19, 3) := by decide +kernel
theorem dX5_many_80 : decode cX5_many 80 = .ok (.getfield 92, 3) := by decide +kernel
theorem dX5_many_83 : decode cX5_many 83 = .ok (.invokevirtual 58, 3) := by decide +kernel
theorem dX5_many_86 : decode cX5_many 86 = .ok (.ireturn, 1) := by decide +kernel
theorem dX5_many_87 : decode cX5_many 87 = .ok (.aload_n 0, 1) := by decide +kernel
theorem dX5_many_88 : decode cX5_many 88 = .ok (.getfield 19, 3) := by decide +kernel
theorem dX5_many_91 : decode cX5_many 91 = .ok (.invokevirtual 290, 3) := by decide +kernel
theorem dX5_many_94 : decode cX5_many 94 = .ok (.ireturn, 1) := by decide +kernel
theorem dX5_many_95 : decode cX5_many 95 = .ok (.aload_n 0, 1) := by decide +kernel
theorem dX5_many_96 : decode cX5_many 96 = .ok (.getfield 23, 3) := by decide +kernel
theorem dX5_many_99 : decode cX5_many 99 = .ok (.invokevirtual 58, 3) := by decide +kernel
theorem dX5_many_102 : decode cX5_many 102 = .ok (.ireturn, 1) := by decide +kernel
theorem dX5_many_103 : decode cX5_many 103 = .ok (.aload_n 0, 1) := by decide +kernel
theorem dX5_many_104 : decode cX5_many 104 = .ok (.invokevirtual 293, 3) := by decide +kernel
theorem dX5_many_107 : decode cX5_many 107 = .ok (.ireturn, 1) := by decide +kernel
theorem dX5_many_108 : decode cX5_many 108 = .ok (.aload_n 0, 1) := by decide +kernel
theorem dX5_many_109 : decode cX5_many 109 = .ok (.getfield 29, 3) := by decide +kernel
theorem dX5_many_112 : decode cX5_many 112 = .ok (.invokevirtual 296, 3) := by decide +kernel
theorem dX5_many_115 : decode cX5_many 115 = .ok (.ireturn, 1) := by decide +kernel
theorem dX5_many_116 : decode cX5_many 116 = .ok (.aload_n 0, 1) := by decide +kernel
theorem dX5_many_117 : decode cX5_many 117 = .ok (.getfield 29, 3) := by decide +kernel
theorem dX5_many_120 : decode cX5_many 120 = .ok (.getfield 299, 3) := by decide +kernel
theorem dX5_many_123 : decode cX5_many 123 = .ok (.ireturn, 1) := by decide +kernel
theorem dX5_many_124 : decode cX5_many 124 = .ok (.aload_n 0, 1) := by decide +kernel
theorem dX5_many_125 : decode cX5_many 125 = .ok (.getfield 29, 3) := by decide +kernel
theorem dX5_many_128 : decode cX5_many 128 = .ok (.getfield 302, 3) := by decide +kernel
theorem dX5_many_131 : decode cX5_many 131 = .ok (.ireturn, 1) := by decide +kernel
theorem dX5_many_132 : decode cX5_many 132 = .ok (.aload_n 0, 1) := by decide +kernel
theorem dX5_many_133 : decode cX5_many 133 = .ok (.getfield 29, 3) := by decide +kernel
theorem dX5_many_136 : decode cX5_many 136 = .ok (.getfield 303, 3) := by decide +kernel
theorem dX5_many_139 : decode cX5_many 139 = .ok (.ireturn, 1) := by decide +kernel
theorem dX5_many_140 : decode cX5_many 140 = .ok (.aload_n 0, 1) := by decide +kernel
theorem dX5_many_141 : decode cX5_many 141 = .ok (.getfield 37, 3) := by decide +kernel
theorem dX5_many_144 : decode cX5_many 144 = .ok (.ireturn, 1) := by decide +kernel
theorem dX5_many_145 : decode cX5_many 145 = .ok (.aload_n 0, 1) := by decide +kernel
theorem dX5_many_146 : decode cX5_many 146 = .ok (.getfield 41, 3) := by decide +kernel
theorem dX5_many_149 : decode cX5_many 149 = .ok (.ireturn, 1) := by decide +kernel
theorem dX5_many_150 : decode cX5_many 150 = .ok (.aload_n 0, 1) := by decide +kernel
theorem dX5_many_151 : decode cX5_many 151 = .ok (.getfield 44, 3) := by decide +kernel
theorem dX5_many_154 : decode cX5_many 154 = .ok (.ireturn, 1) := by decide +kernel
theorem dX5_many_155 : decode cX5_many 155 = .ok (.aload_n 0, 1) := by decide +kernel
theorem dX5_many_156 : decode cX5_many 156 = .ok (.getfield 19, 3) := by decide +kernel
theorem dX5_many_159 : decode cX5_many 159 = .ok (.iconst 0, 1) := by decide +kernel
theorem dX5_many_160 : decode cX5_many 160 = .ok (.iconst 0, 1) := by decide +kernel
theorem dX5_many_161 : decode cX5_many 161 = .ok (.bipush 6, 2) := by decide +kernel
theorem dX5_many_163 : decode cX5_many 163 = .ok (.bipush 6, 2) := by decide +kernel
theorem dX5_many_165 : decode cX5_many 165 = .ok (.invokevirtual 304, 3) := by decide +kernel
theorem dX5_many_168 : decode cX5_many 168 = .ok (.ireturn, 1) := by decide +kernel
theorem dX5_many_169 : decode cX5_many 169 = .ok (.new 51, 3) := by decide +kernel
theorem dX5_many_172 : decode cX5_many 172 = .ok (.dup, 1) := by decide +kernel
theorem dX5_many_173 : decode cX5_many 173 = .ok (.ldc_w 308, 3) := by decide +kernel
theorem dX5_many_176 : decode cX5_many 176 = .ok (.invokespecial 55, 3) := by decide +kernel
theorem dX5_many_179 : decode cX5_many 179 = .ok (.athrow, 1) := by decide +kernel
set_option maxRecDepth 20000 in
theorem ggX5_fullBoxes_Jx4a65c_size_8abf5 : GoodIn wsX5_fullBoxes wsJx4a65c_size_8abf5 := goodIn_r _ [7, 8, 42, 43, 44] (by decide +kernel) (by decide +kernel)
set_option maxRecDepth 20000 in
theorem gX5_fullBoxes_Jx4a65c_size_8abf5 : GoodIn wsX5_fullBoxes (wsV RX5 58 RJx4a65c yJx4a65c_size_8abf5 wsJx4a65c_size_8abf5) := goodIn_app (goodIn_of _ (by decide +kernel)) ggX5_fullBoxes_Jx4a65c_size_8abf5
theorem dX5_fullBoxes_0 : decode cX5_fullBoxes 0 = .ok (.iconst 0, 1) := by decide +kernel
theorem dX5_fullBoxes_1 : decode cX5_fullBoxes 1 = .ok (.istore_n 1, 1) := by decide +kernel
theorem dX5_fullBoxes_2 : decode cX5_fullBoxes 2 = .ok (.iconst 0, 1) := by decide +kernel
theorem dX5_fullBoxes_3 : decode cX5_fullBoxes 3 = .ok (.istore_n 2, 1) := by decide +kernel
theorem dX5_fullBoxes_4 : decode cX5_fullBoxes 4 = .ok (.iload_n 2, 1) := by decide +kernel
theorem dX5_fullBoxes_5 : decode cX5_fullBoxes 5 = .ok (.aload_n 0, 1) := by decide +kernel
theorem dX5_fullBoxes_6 : decode cX5_fullBoxes 6 = .ok (.getfield 23, 3) := by decide +kernel
theorem dX5_fullBoxes_9 : decode cX5_fullBoxes 9 = .ok (.invokevirtual 58, 3) := by decide +kernel
theorem dX5_fullBoxes_12 : decode cX5_fullBoxes 12 = .ok (.if_icmp .ge 29, 3) := by decide +kernel
theorem dX5_fullBoxes_41 : decode cX5_fullBoxes 41 = .ok (.iload_n 1, 1) := by decide +kernel
theorem dX5_fullBoxes_42 : decode cX5_fullBoxes 42 = .ok (.ireturn, 1) := by decide +kernel
set_option maxHeartbeats 4000000 in
set_option maxRecDepth 100000 in
/-- greatestTop(0, 0, 6, 6) with all tops 0 -/
theorem c_greatestTop0 (l : Launch) (D : va_G) (e0 sz : Nat) (xb xt xp xs : Nat) (cxp : ClassId) : Ki (S := Unit) l yX1_greatestTop wsX1_greatestTop ({ frames := 0, cells := 0, slots := 0, locals := 0 } : Room) [.ref xb, .int 0, .int 0, .int 6, .int 6] D [(xb, .inr (3, [.ref xt, .ref xp, .ref xs, .int 0])), (xp, .inl (cxp, 36, .inl (fun _ => 0)))] [(cxp, .int)] e0 sz (fun r _ => r = 0) (fun _ => [(xb, .inr (3, [.ref xt, .ref xp, .ref xs, .int 0])), (xp, .inl (cxp, 36, .inl (fun _ => 0)))]) (fun _ => []) 0 0 := by
  refine Met.ofW (cc := cX1_greatestTop) (maxL := 9) (ret := (some .int)) (by decide) rfl ?_
  intro p e s m args below meth c s₁ B hml hv
  obtain ⟨rfl, hsz, hP, hK, hD0, hE⟩ := hv
  have hx := B.exec
  have hb := B.bytes
  have hr := B.returns
  have hts := atoms_spec (ws := wsX1_greatestTop) B.pre
  have hown : s.vm.findClass RX1 = some m.cls := findClass_of_methodNamed B.named
  have hlocks := B.notSynchronized
  subst hsz
  have hD := hD0.self (sz := s.heap.size)
  generalize hAe : va_A [(xb, .inr (3, [.ref xt, .ref xp, .ref xs, .int 0])), (xp, .inl (cxp, 36, .inl (fun _ => 0)))] s.heap.size = A at hD hE ⊢
  have hA : ∀ q : Nat, s.heap.size ≤ q → A q := fun q h => by rw [← hAe]; exact Or.inr h
  have hS : va_S A s.heap s.heap [] := va_S.rf
  have hP : va_P D vwCl [(xb, .inr (3, [.ref xt, .ref xp, .ref xs, .int 0])), (xp, .inl (cxp, 36, .inl (fun _ => 0)))] s.heap := hP
  have hl := lv_entry ([.ref xb, .int 0, .int 0, .int 6, .int 6]) (n := 9) (Nat.le_of_ble_eq_true rfl)
  rw [lg_entry_eq]
  generalize (lg_sl ([.ref xb, .int 0, .int 0, .int 6, .int 6]) ++ List.replicate (9 - (lg_sl ([.ref xb, .int 0, .int 0, .int 6, .int 6])).length) Slot.unset).toArray = ls at hl ⊢
  have hl : lv_has ls 9 [(0, .ref xb), (1, .int 0), (2, .int 0), (3, .int 6), (4, .int 6)] := hl
  refine lv_iconst (v := 0) hx hb dX1_greatestTop_0 (by decide) ?_
  refine lv_istore (lv' := [(5, .int 0), (0, .ref xb), (1, .int 0), (2, .int 0), (3, .int 6), (4, .int 6)]) hx hb dX1_greatestTop_1 hl (by decide) rfl (fun ls hl => ?_)
  refine lv_iload_n hx hb dX1_greatestTop_3 rfl (lv_at hl 3 rfl) ?_
  refine lv_istore (lv' := [(6, .int 0), (5, .int 0), (0, .ref xb), (1, .int 0), (2, .int 0), (3, .int 6), (4, .int 6)]) hx hb dX1_greatestTop_4 hl (by decide) rfl (fun ls hl => ?_)
  refine asG (P := fun f => W p l e _ s m _ below meth c s.heap [] 0 0 _ f) (fun G gi go => ?_)
  have inn : ∀ (j : Nat), j < 6 → (∀ ls : Array Slot, lv_has ls 9 [(6, .int (nI j)), (5, .int 0), (0, .ref xb), (1, .int 0), (2, .int 0), (3, .int 6), (4, .int 6)] → G (F0 m 78 ls [])) → ∀ (k i : Nat) (ls : Array Slot), i + k = 6 → lv_has ls 9 [(7, .int (nI i)), (6, .int (nI j)), (5, .int 0), (0, .ref xb), (1, .int 0), (2, .int 0), (3, .int 6), (4, .int 6)] → G (F0 m 18 ls []) := by
    intro j hj cont k
    induction k with
    | zero =>
      intro i ls hik hl
      have hi6 : i = 6 := hik
      subst hi6
      refine go _ ?_
      refine lv_iload hx hb dX1_greatestTop_18 (lv_at hl 0 rfl) ?_
      refine lv_iload_n hx hb dX1_greatestTop_20 rfl (lv_at hl 4 rfl) ?_
      refine lv_iload_n hx hb dX1_greatestTop_21 rfl (lv_at hl 6 rfl) ?_
      refine lv_iadd hx hb dX1_greatestTop_22 ?_
      refine lv_topi (fun x_1 ex_1 => ?_)
      obtain rfl : x_1 = 6 := ex_1.trans (by decide)
      refine lv_icmp_ge (tgt := 78) hx hb dX1_greatestTop_23 (by decide) (fun c_23 => ?_) (fun h9 => False.elim (h9 (by decide)))
      exact gi _ (cont ls (lv_sub hl [1, 2, 3, 4, 5, 6, 7] rfl))
    | succ k ih =>
      intro i ls hik hl
      have hi : i < 6 := by omega
      have hk9 : j * 6 + i < 36 := by omega
      refine go _ ?_
      refine lv_iload hx hb dX1_greatestTop_18 (lv_at hl 0 rfl) ?_
      refine lv_iload_n hx hb dX1_greatestTop_20 rfl (lv_at hl 4 rfl) ?_
      refine lv_iload_n hx hb dX1_greatestTop_21 rfl (lv_at hl 6 rfl) ?_
      refine lv_iadd hx hb dX1_greatestTop_22 ?_
      refine lv_topi (fun x_2 ex_2 => ?_)
      obtain rfl : x_2 = 6 := ex_2.trans (by decide)
      refine lv_icmp_ge (tgt := 78) hx hb dX1_greatestTop_23 (by decide) (fun h9 => False.elim ((show ¬ nI 6 ≤ nI i from nI_ge hi (by decide)) h9)) (fun c_23 => ?_)
      refine lv_iload hx hb dX1_greatestTop_26 (lv_at hl 1 rfl) ?_
      refine lv_bipush (v := 6) hx hb dX1_greatestTop_28 (by decide) ?_
      refine lv_imul hx hb dX1_greatestTop_30 ?_
      refine lv_topi (fun x_3 ex_3 => ?_)
      obtain rfl : x_3 = (nI (j * 6)) := ex_3.trans (pk_mul j 6)
      refine lv_iload hx hb dX1_greatestTop_31 (lv_at hl 0 rfl) ?_
      refine lv_iadd hx hb dX1_greatestTop_33 ?_
      refine lv_topi (fun x_4 ex_4 => ?_)
      obtain rfl : x_4 = (nI (j * 6 + i)) := ex_4.trans (nI_add (j * 6) i)
      refine lv_istore (lv' := [(8, .int (nI (j * 6 + i))), (7, .int (nI i)), (6, .int (nI j)), (5, .int 0), (0, .ref xb), (1, .int 0), (2, .int 0), (3, .int 6), (4, .int 6)]) hx hb dX1_greatestTop_34 hl (by decide) rfl (fun ls hl => ?_)
      refine lv_iload hx hb dX1_greatestTop_36 (lv_at hl 0 rfl) ?_
      refine lv_if_lt (tgt := 72) hx hb dX1_greatestTop_38 (by decide) (fun h9 => False.elim (nI_pos (by omega) h9)) (fun c_38 => ?_)
      refine lv_iload hx hb dX1_greatestTop_41 (lv_at hl 0 rfl) ?_
      refine lv_aload_n hx hb dX1_greatestTop_43 rfl (lv_at hl 4 rfl) ?_
      refine va_get (D := D) (ci := 3) (v := .ref xp) (C := RX1) (T := TX1) (N := 4) hx hb hts (by decide +kernel) hown hK hP 0 rfl rfl 1 (by decide) (hts (.fieldLink RX1 18 "PickCell$Bin" "tops" "[I") (by decide +kernel)) (fun _ h9 => h9) rfl dX1_greatestTop_44 ?_
      refine va_alen (v := 36) hx hb hK hP 1 0 rfl rfl (by decide) dX1_greatestTop_47 ?_
      refine lv_icmp_ge (tgt := 72) hx hb dX1_greatestTop_48 (by decide) (fun h9 => False.elim ((show ¬ nI 36 ≤ nI (j * 6 + i) from nI_ge hk9 (by decide)) h9)) (fun c_48 => ?_)
      refine lv_aload_n hx hb dX1_greatestTop_51 rfl (lv_at hl 4 rfl) ?_
      refine va_get (D := D) (ci := 3) (v := .ref xp) (C := RX1) (T := TX1) (N := 4) hx hb hts (by decide +kernel) hown hK hP 0 rfl rfl 1 (by decide) (hts (.fieldLink RX1 18 "PickCell$Bin" "tops" "[I") (by decide +kernel)) (fun _ h9 => h9) rfl dX1_greatestTop_52 ?_
      refine lv_iload hx hb dX1_greatestTop_55 (lv_at hl 0 rfl) ?_
      refine va_iald hx hb hK hP 1 0 rfl rfl (vp_in_nI hk9 (by decide)) dX1_greatestTop_57 ?_
      refine lv_topi (fun x_5 ex_5 => ?_)
      obtain rfl : x_5 = 0 := ex_5
      refine lv_iload hx hb dX1_greatestTop_58 (lv_at hl 3 rfl) ?_
      refine lv_icmp_le (tgt := 72) hx hb dX1_greatestTop_60 (by decide) (fun _ => ?_) (fun h9 => absurd (by decide) h9)
      refine lv_iinc (v := (nI (i + 1))) (lv' := [(7, .int (nI (i + 1))), (8, .int (nI (j * 6 + i))), (6, .int (nI j)), (5, .int 0), (0, .ref xb), (1, .int 0), (2, .int 0), (3, .int 6), (4, .int 6)]) hx hb dX1_greatestTop_72 hl (k := 1) rfl (by show nI i + 1 = _; exact nI_1 i) (by decide) rfl (fun ls hl => ?_)
      refine lv_goto (tgt := 18) hx hb dX1_greatestTop_75 (by decide) ?_
      exact gi _ (ih (i + 1) ls (by omega) (lv_sub hl [0, 2, 3, 4, 5, 6, 7, 8] rfl))
  suffices out : ∀ (k j : Nat) (ls : Array Slot), j + k = 6 → lv_has ls 9 [(6, .int (nI j)), (5, .int 0), (0, .ref xb), (1, .int 0), (2, .int 0), (3, .int 6), (4, .int 6)] → G (F0 m 6 ls []) from out 6 0 ls rfl (lv_sub hl [0, 1, 2, 3, 4, 5, 6] rfl)
  intro k
  induction k with
  | zero =>
    intro j ls hjk hl
    have hj6 : j = 6 := hjk
    subst hj6
    refine go _ ?_
    refine lv_iload hx hb dX1_greatestTop_6 (lv_at hl 0 rfl) ?_
    refine lv_iload_n hx hb dX1_greatestTop_8 rfl (lv_at hl 4 rfl) ?_
    refine lv_iload hx hb dX1_greatestTop_9 (lv_at hl 6 rfl) ?_
    refine lv_iadd hx hb dX1_greatestTop_11 ?_
    refine lv_topi (fun x_6 ex_6 => ?_)
    obtain rfl : x_6 = 6 := ex_6.trans (by decide)
    refine lv_icmp_ge (tgt := 84) hx hb dX1_greatestTop_12 (by decide) (fun c_12 => ?_) (fun h9 => False.elim (h9 (by decide)))
    refine lv_iload hx hb dX1_greatestTop_84 (lv_at hl 1 rfl) ?_
    exact end_i (v := 0) hx hb hr rfl hlocks hP hD hK hS () rfl [0, 1] [] rfl (by decide) rfl (Nat.le_of_ble_eq_true rfl) (Nat.le_of_ble_eq_true rfl) dX1_greatestTop_86
  | succ k ih =>
    intro j ls hjk hl
    have hj : j < 6 := by omega
    refine go _ ?_
    refine lv_iload hx hb dX1_greatestTop_6 (lv_at hl 0 rfl) ?_
    refine lv_iload_n hx hb dX1_greatestTop_8 rfl (lv_at hl 4 rfl) ?_
    refine lv_iload hx hb dX1_greatestTop_9 (lv_at hl 6 rfl) ?_
    refine lv_iadd hx hb dX1_greatestTop_11 ?_
    refine lv_topi (fun x_7 ex_7 => ?_)
    obtain rfl : x_7 = 6 := ex_7.trans (by decide)
    refine lv_icmp_ge (tgt := 84) hx hb dX1_greatestTop_12 (by decide) (fun h9 => False.elim ((show ¬ nI 6 ≤ nI j from nI_ge hj (by decide)) h9)) (fun c_12 => ?_)
    refine lv_iload_n hx hb dX1_greatestTop_15 rfl (lv_at hl 3 rfl) ?_
    refine lv_istore (lv' := [(7, .int 0), (6, .int (nI j)), (5, .int 0), (0, .ref xb), (1, .int 0), (2, .int 0), (3, .int 6), (4, .int 6)]) hx hb dX1_greatestTop_16 hl (by decide) rfl (fun ls hl => ?_)
    refine gi _ (inn j hj ?_ 6 0 ls rfl (lv_sub hl [0, 1, 2, 3, 4, 5, 6, 7] rfl))
    intro ls hl
    refine go _ ?_
    refine lv_iinc (v := (nI (j + 1))) (lv' := [(6, .int (nI (j + 1))), (5, .int 0), (0, .ref xb), (1, .int 0), (2, .int 0), (3, .int 6), (4, .int 6)]) hx hb dX1_greatestTop_78 hl (k := 0) rfl (by show nI j + 1 = _; exact nI_1 j) (by decide) rfl (fun ls hl => ?_)
    refine lv_goto (tgt := 6) hx hb dX1_greatestTop_81 (by decide) ?_
    exact gi _ (ih (j + 1) ls (by omega) (lv_sub hl [0, 1, 2, 3, 4, 5, 6] rfl))
set_option maxHeartbeats 4000000 in
set_option maxRecDepth 100000 in
theorem c_manyInBin (l : Launch) (D : va_G) (e0 sz : Nat) (xb xt xp xs : Nat) : Ki (S := Unit) l yX1_manyInBin wsX1_manyInBin ({ frames := 1, cells := 0, slots := 0, locals := 20 } : Room) [.ref xb] D [(xb, .inr (3, [.ref xt, .ref xp, .ref xs, .int 0])), (xt, .inr (1, [.int 0, .ref e0, .int 0]))] [] e0 sz (fun r _ => r = 0) (fun _ => [(xb, .inr (3, [.ref xt, .ref xp, .ref xs, .int 0])), (xt, .inr (1, [.int 0, .ref e0, .int 0]))]) (fun _ => []) 0 0 := by
  refine Met.ofW (cc := cX1_manyInBin) (maxL := 3) (ret := (some .int)) (by decide) rfl ?_
  intro p e s m args below meth c s₁ B hml hv
  obtain ⟨rfl, hsz, hP, hK, hD0, hE⟩ := hv
  have hx := B.exec
  have hb := B.bytes
  have hr := B.returns
  have hts := atoms_spec (ws := wsX1_manyInBin) B.pre
  have hown : s.vm.findClass RX1 = some m.cls := findClass_of_methodNamed B.named
  have hlocks := B.notSynchronized
  subst hsz
  have hD := hD0.self (sz := s.heap.size)
  generalize hAe : va_A [(xb, .inr (3, [.ref xt, .ref xp, .ref xs, .int 0])), (xt, .inr (1, [.int 0, .ref e0, .int 0]))] s.heap.size = A at hD hE ⊢
  have hA : ∀ q : Nat, s.heap.size ≤ q → A q := fun q h => by rw [← hAe]; exact Or.inr h
  have hS : va_S A s.heap s.heap [] := va_S.rf
  have hP : va_P D vwCl [(xb, .inr (3, [.ref xt, .ref xp, .ref xs, .int 0])), (xt, .inr (1, [.int 0, .ref e0, .int 0]))] s.heap := hP
  have hl := lv_entry ([.ref xb]) (n := 3) (Nat.le_of_ble_eq_true rfl)
  rw [lg_entry_eq]
  generalize (lg_sl ([.ref xb]) ++ List.replicate (3 - (lg_sl ([.ref xb])).length) Slot.unset).toArray = ls at hl ⊢
  have hl : lv_has ls 3 [(0, .ref xb)] := hl
  refine lv_iconst (v := 0) hx hb dX1_manyInBin_0 (by decide) ?_
  refine lv_istore_n (lv' := [(1, .int 0), (0, .ref xb)]) hx hb dX1_manyInBin_1 rfl hl (by decide) rfl (fun ls hl => ?_)
  refine lv_iconst (v := 0) hx hb dX1_manyInBin_2 (by decide) ?_
  refine lv_istore_n (lv' := [(2, .int 0), (1, .int 0), (0, .ref xb)]) hx hb dX1_manyInBin_3 rfl hl (by decide) rfl (fun ls hl => ?_)
  refine lv_iload_n hx hb dX1_manyInBin_4 rfl (lv_at hl 0 rfl) ?_
  refine lv_aload_n hx hb dX1_manyInBin_5 rfl (lv_at hl 2 rfl) ?_
  refine va_get (D := D) (ci := 3) (v := .ref xt) (C := RX1) (T := TX1) (N := 4) hx hb hts (by decide +kernel) hown hK hP 0 rfl rfl 0 (by decide) (hts (.fieldLink RX1 12 "PickCell$Bin" "things" "Ljava/util/ArrayList;") (by decide +kernel)) (fun _ h9 => h9) rfl dX1_manyInBin_6 ?_
  refine kV_i (As := []) (rest := [.int 0]) (wr := [(xb, .inr (3, [.ref xt, .ref xp, .ref xs, .int 0]))]) ⟨hx, hb, hml, hown, hts⟩ (c_size l D e0 _ xt 0 0 (.ref e0)) (cwV 0 hts gX1_manyInBin_Jx4a65c_size_8abf5 rfl rfl rfl (by decide +kernel) ⟨Nat.le_of_ble_eq_true rfl, Nat.le_of_ble_eq_true rfl⟩) hP hD hK hS hA hE rfl [1] [0] [] rfl rfl (by decide) (by decide) (by decide) rfl 1 1 rfl rfl rfl rfl hl.1 (Nat.le_of_ble_eq_true rfl) dX1_manyInBin_9 ⟨Nat.le_of_ble_eq_true rfl, Nat.le_of_ble_eq_true rfl⟩ (fun r_1 u9 H locs hw hP hD hK hS => ?_)
  have hw : r_1 = 0 := hw
  subst hw
  have hP : va_P D vwCl [(xb, .inr (3, [.ref xt, .ref xp, .ref xs, .int 0])), (xt, .inr (1, [.int 0, .ref e0, .int 0]))] H := hP
  have hD : va_D A [(xb, .inr (3, [.ref xt, .ref xp, .ref xs, .int 0])), (xt, .inr (1, [.int 0, .ref e0, .int 0]))] := hD
  have hK : va_K D vwCl [] s := hK
  refine lv_icmp_ge (tgt := 41) hx hb dX1_manyInBin_12 (by decide) (fun _ => ?_) (fun h9 => absurd (by decide) h9)
  refine lv_iload_n hx hb dX1_manyInBin_41 rfl (lv_at hl 1 rfl) ?_
  exact end_i (v := 0) hx hb hr rfl hlocks hP hD hK hS () rfl [0, 1] [] rfl (by decide) rfl (Nat.le_of_ble_eq_true rfl) (Nat.le_of_ble_eq_true rfl) dX1_manyInBin_42
set_option maxHeartbeats 4000000 in
set_option maxRecDepth 100000 in
theorem c_fullBoxes (l : Launch) (D : va_G) (e0 sz : Nat) (x xk xb xo xa : Nat) (near : Int32) : Ki (S := Unit) l yX5_fullBoxes wsX5_fullBoxes ({ frames := 1, cells := 0, slots := 0, locals := 20 } : Room) [.ref x] D [(x, .inr (7, [.ref xk, .ref xb, .ref xo, .ref xa, .int near, .int 0, .int 0, .int 0])), (xo, .inr (1, [.int 0, .ref e0, .int 0]))] [] e0 sz (fun r _ => r = 0) (fun _ => [(x, .inr (7, [.ref xk, .ref xb, .ref xo, .ref xa, .int near, .int 0, .int 0, .int 0])), (xo, .inr (1, [.int 0, .ref e0, .int 0]))]) (fun _ => []) 0 0 := by
  refine Met.ofW (cc := cX5_fullBoxes) (maxL := 3) (ret := (some .int)) (by decide) rfl ?_
  intro p e s m args below meth c s₁ B hml hv
  obtain ⟨rfl, hsz, hP, hK, hD0, hE⟩ := hv
  have hx := B.exec
  have hb := B.bytes
  have hr := B.returns
  have hts := atoms_spec (ws := wsX5_fullBoxes) B.pre
  have hown : s.vm.findClass RX5 = some m.cls := findClass_of_methodNamed B.named
  have hlocks := B.notSynchronized
  subst hsz
  have hD := hD0.self (sz := s.heap.size)
  generalize hAe : va_A [(x, .inr (7, [.ref xk, .ref xb, .ref xo, .ref xa, .int near, .int 0, .int 0, .int 0])), (xo, .inr (1, [.int 0, .ref e0, .int 0]))] s.heap.size = A at hD hE ⊢
  have hA : ∀ q : Nat, s.heap.size ≤ q → A q := fun q h => by rw [← hAe]; exact Or.inr h
  have hS : va_S A s.heap s.heap [] := va_S.rf
  have hP : va_P D vwCl [(x, .inr (7, [.ref xk, .ref xb, .ref xo, .ref xa, .int near, .int 0, .int 0, .int 0])), (xo, .inr (1, [.int 0, .ref e0, .int 0]))] s.heap := hP
  have hl := lv_entry ([.ref x]) (n := 3) (Nat.le_of_ble_eq_true rfl)
  rw [lg_entry_eq]
  generalize (lg_sl ([.ref x]) ++ List.replicate (3 - (lg_sl ([.ref x])).length) Slot.unset).toArray = ls at hl ⊢
  have hl : lv_has ls 3 [(0, .ref x)] := hl
  refine lv_iconst (v := 0) hx hb dX5_fullBoxes_0 (by decide) ?_
  refine lv_istore_n (lv' := [(1, .int 0), (0, .ref x)]) hx hb dX5_fullBoxes_1 rfl hl (by decide) rfl (fun ls hl => ?_)
  refine lv_iconst (v := 0) hx hb dX5_fullBoxes_2 (by decide) ?_
  refine lv_istore_n (lv' := [(2, .int 0), (1, .int 0), (0, .ref x)]) hx hb dX5_fullBoxes_3 rfl hl (by decide) rfl (fun ls hl => ?_)
  refine lv_iload_n hx hb dX5_fullBoxes_4 rfl (lv_at hl 0 rfl) ?_
  refine lv_aload_n hx hb dX5_fullBoxes_5 rfl (lv_at hl 2 rfl) ?_
  refine va_get (D := D) (ci := 7) (v := .ref xo) (C := RX5) (T := TX5) (N := 8) hx hb hts (by decide +kernel) hown hK hP 0 rfl rfl 2 (by decide) (hts (.fieldLink RX5 23 "PickCell" "boxes" "Ljava/util/ArrayList;") (by decide +kernel)) (fun _ h9 => h9) rfl dX5_fullBoxes_6 ?_
  refine kV_i (As := []) (rest := [.int 0]) (wr := [(x, .inr (7, [.ref xk, .ref xb, .ref xo, .ref xa, .int near, .int 0, .int 0, .int 0]))]) ⟨hx, hb, hml, hown, hts⟩ (c_size l D e0 _ xo 0 0 (.ref e0)) (cwV 0 hts gX5_fullBoxes_Jx4a65c_size_8abf5 rfl rfl rfl (by decide +kernel) ⟨Nat.le_of_ble_eq_true rfl, Nat.le_of_ble_eq_true rfl⟩) hP hD hK hS hA hE rfl [1] [0] [] rfl rfl (by decide) (by decide) (by decide) rfl 1 1 rfl rfl rfl rfl hl.1 (Nat.le_of_ble_eq_true rfl) dX5_fullBoxes_9 ⟨Nat.le_of_ble_eq_true rfl, Nat.le_of_ble_eq_true rfl⟩ (fun r_1 u9 H locs hw hP hD hK hS => ?_)
  have hw : r_1 = 0 := hw
  subst hw
  have hP : va_P D vwCl [(x, .inr (7, [.ref xk, .ref xb, .ref xo, .ref xa, .int near, .int 0, .int 0, .int 0])), (xo, .inr (1, [.int 0, .ref e0, .int 0]))] H := hP
  have hD : va_D A [(x, .inr (7, [.ref xk, .ref xb, .ref xo, .ref xa, .int near, .int 0, .int 0, .int 0])), (xo, .inr (1, [.int 0, .ref e0, .int 0]))] := hD
  have hK : va_K D vwCl [] s := hK
  refine lv_icmp_ge (tgt := 41) hx hb dX5_fullBoxes_12 (by decide) (fun _ => ?_) (fun h9 => absurd (by decide) h9)
  refine lv_iload_n hx hb dX5_fullBoxes_41 rfl (lv_at hl 1 rfl) ?_
  exact end_i (v := 0) hx hb hr rfl hlocks hP hD hK hS () rfl [0, 1] [] rfl (by decide) rfl (Nat.le_of_ble_eq_true rfl) (Nat.le_of_ble_eq_true rfl) dX5_fullBoxes_42
set_option maxHeartbeats 4000000 in
set_option maxRecDepth 100000 in
theorem c_numberHeld (l : Launch) (D : va_G) (e0 sz : Nat) (xa : Nat) : Ki (S := Unit) l yX0_numberHeld wsX0_numberHeld ({ frames := 0, cells := 0, slots := 0, locals := 0 } : Room) [.ref xa] D [(xa, .inr (2, [.int 0, .int 0, .int 0, .null, .int 0, .double 0]))] [] e0 sz (fun r _ => r = -1) (fun _ => [(xa, .inr (2, [.int 0, .int 0, .int 0, .null, .int 0, .double 0]))]) (fun _ => []) 0 0 := by
  refine Met.ofW (cc := cX0_numberHeld) (maxL := 1) (ret := (some .int)) (by decide) rfl ?_
  intro p e s m args below meth c s₁ B hml hv
  obtain ⟨rfl, hsz, hP, hK, hD0, hE⟩ := hv
  have hx := B.exec
  have hb := B.bytes
  have hr := B.returns
  have hts := atoms_spec (ws := wsX0_numberHeld) B.pre
  have hown : s.vm.findClass RX0 = some m.cls := findClass_of_methodNamed B.named
  have hlocks := B.notSynchronized
  subst hsz
  have hD := hD0.self (sz := s.heap.size)
  generalize hAe : va_A [(xa, .inr (2, [.int 0, .int 0, .int 0, .null, .int 0, .double 0]))] s.heap.size = A at hD hE ⊢
  have hA : ∀ q : Nat, s.heap.size ≤ q → A q := fun q h => by rw [← hAe]; exact Or.inr h
  have hS : va_S A s.heap s.heap [] := va_S.rf
  have hP : va_P D vwCl [(xa, .inr (2, [.int 0, .int 0, .int 0, .null, .int 0, .double 0]))] s.heap := hP
  have hl := lv_entry ([.ref xa]) (n := 1) (Nat.le_of_ble_eq_true rfl)
  rw [lg_entry_eq]
  generalize (lg_sl ([.ref xa]) ++ List.replicate (1 - (lg_sl ([.ref xa])).length) Slot.unset).toArray = ls at hl ⊢
  have hl : lv_has ls 1 [(0, .ref xa)] := hl
  refine lv_aload_n hx hb dX0_numberHeld_0 rfl (lv_at hl 0 rfl) ?_
  refine va_get (D := D) (ci := 2) (v := .null) (C := RX0) (T := TX0) (N := 6) hx hb hts (by decide +kernel) hown hK hP 0 rfl rfl 3 (by decide) (hts (.fieldLink RX0 21 "PickCell$Arm" "held" "LPickCell$Thing;") (by decide +kernel)) (fun _ h9 => h9) rfl dX0_numberHeld_1 ?_
  refine lv_ifnonnullN hx hb dX0_numberHeld_4 ?_
  refine lv_iconst (v := (-1)) hx hb dX0_numberHeld_7 (by decide) ?_
  refine lv_goto (tgt := 18) hx hb dX0_numberHeld_8 (by decide) ?_
  exact end_i (v := (-1)) hx hb hr rfl hlocks hP hD hK hS () rfl [0] [] rfl (by decide) rfl (Nat.le_of_ble_eq_true rfl) (Nat.le_of_ble_eq_true rfl) dX0_numberHeld_18
set_option maxHeartbeats 4000000 in
set_option maxRecDepth 100000 in
/-- many -/
theorem c_many (l : Launch) (hl9 : l.stackTraces = false) (D : va_G) (e0 sz : Nat) (x xk xb xo xa xt xp xs : Nat) (cxp : ClassId) (near : Int32) (p0 : Int32) : KXi (S := Unit) l yX5_many wsX5_many ({ frames := 6, cells := 1, slots := 6, locals := 84 } : Room) [.ref x, .int p0] D [(x, .inr (7, [.ref xk, .ref xb, .ref xo, .ref xa, .int near, .int 0, .int 0, .int 0])), (xk, .inr (1, [.int 0, .ref e0, .int 0])), (xb, .inr (3, [.ref xt, .ref xp, .ref xs, .int 0])), (xt, .inr (1, [.int 0, .ref e0, .int 0])), (xp, .inl (cxp, 36, .inl (fun _ => 0))), (xo, .inr (1, [.int 0, .ref e0, .int 0])), (xa, .inr (2, [.int 0, .int 0, .int 0, .null, .int 0, .double 0]))] [(cxp, .int)] e0 sz (fun r _ => (0 ≤ p0 ∧ p0 ≤ 12) ∧ r = manyF p0) (fun _ => [(x, .inr (7, [.ref xk, .ref xb, .ref xo, .ref xa, .int near, .int 0, .int 0, .int 0])), (xk, .inr (1, [.int 0, .ref e0, .int 0])), (xb, .inr (3, [.ref xt, .ref xp, .ref xs, .int 0])), (xt, .inr (1, [.int 0, .ref e0, .int 0])), (xp, .inl (cxp, 36, .inl (fun _ => 0))), (xo, .inr (1, [.int 0, .ref e0, .int 0])), (xa, .inr (2, [.int 0, .int 0, .int 0, .null, .int 0, .double 0]))]) (fun _ => []) "java/lang/IllegalArgumentException" (¬ (0 ≤ p0 ∧ p0 ≤ 12)) 1 6 := by
  refine vx_ofW (cc := cX5_many) (maxL := 2) (ret := (some .int)) (by decide) rfl ?_
  intro p e s m args below meth c s₁ B hml ht0 hv
  obtain ⟨rfl, hsz, hP, hK, hD0, hE⟩ := hv
  have hx := B.exec
  have hb := B.bytes
  have hr := B.returns
  have hts := atoms_spec (ws := wsX5_many) B.pre
  have hown : s.vm.findClass RX5 = some m.cls := findClass_of_methodNamed B.named
  have hlocks := B.notSynchronized
  subst hsz
  have hD := hD0.self (sz := s.heap.size)
  generalize hAe : va_A [(x, .inr (7, [.ref xk, .ref xb, .ref xo, .ref xa, .int near, .int 0, .int 0, .int 0])), (xk, .inr (1, [.int 0, .ref e0, .int 0])), (xb, .inr (3, [.ref xt, .ref xp, .ref xs, .int 0])), (xt, .inr (1, [.int 0, .ref e0, .int 0])), (xp, .inl (cxp, 36, .inl (fun _ => 0))), (xo, .inr (1, [.int 0, .ref e0, .int 0])), (xa, .inr (2, [.int 0, .int 0, .int 0, .null, .int 0, .double 0]))] s.heap.size = A at hD hE ⊢
  have hA : ∀ q : Nat, s.heap.size ≤ q → A q := fun q h => by rw [← hAe]; exact Or.inr h
  have hS : va_S A s.heap s.heap [] := va_S.rf
  have hP : va_P D vwCl [(x, .inr (7, [.ref xk, .ref xb, .ref xo, .ref xa, .int near, .int 0, .int 0, .int 0])), (xk, .inr (1, [.int 0, .ref e0, .int 0])), (xb, .inr (3, [.ref xt, .ref xp, .ref xs, .int 0])), (xt, .inr (1, [.int 0, .ref e0, .int 0])), (xp, .inl (cxp, 36, .inl (fun _ => 0))), (xo, .inr (1, [.int 0, .ref e0, .int 0])), (xa, .inr (2, [.int 0, .int 0, .int 0, .null, .int 0, .double 0]))] s.heap := hP
  have hl := lv_entry ([.ref x, .int p0]) (n := 2) (Nat.le_of_ble_eq_true rfl)
  rw [lg_entry_eq]
  generalize (lg_sl ([.ref x, .int p0]) ++ List.replicate (2 - (lg_sl ([.ref x, .int p0])).length) Slot.unset).toArray = ls at hl ⊢
  have hl : lv_has ls 2 [(0, .ref x), (1, .int p0)] := hl
  refine lv_iload_n hx hb dX5_many_0 rfl (lv_at hl 1 rfl) ?_
  by_cases hv : 0 ≤ p0 ∧ p0 ≤ 12
  · obtain ⟨j, hj, rfl⟩ := in13 hv.1 hv.2
    rcases (show j = 0 ∨ j = 1 ∨ j = 2 ∨ j = 3 ∨ j = 4 ∨ j = 5 ∨ j = 6 ∨ j = 7 ∨ j = 8 ∨ j = 9 ∨ j = 10 ∨ j = 11 ∨ j = 12 by omega) with rfl | rfl | rfl | rfl | rfl | rfl | rfl | rfl | rfl | rfl | rfl | rfl | rfl
    · refine lv_tableIn (off := 67) (tgt := 68) hx hb dX5_many_1 (by decide) (by decide) (by decide) (by decide) ?_
      refine lv_aload_n hx hb dX5_many_68 rfl (lv_at hl 0 rfl) ?_
      refine va_get (D := D) (ci := 7) (v := .ref xk) (C := RX5) (T := TX5) (N := 8) hx hb hts (by decide +kernel) hown hK hP 0 rfl rfl 0 (by decide) (hts (.fieldLink RX5 10 "PickCell" "kinds" "Ljava/util/ArrayList;") (by decide +kernel)) (fun _ h9 => h9) rfl dX5_many_69 ?_
      refine kV_i (As := []) (rest := []) (wr := [(x, .inr (7, [.ref xk, .ref xb, .ref xo, .ref xa, .int near, .int 0, .int 0, .int 0])), (xb, .inr (3, [.ref xt, .ref xp, .ref xs, .int 0])), (xt, .inr (1, [.int 0, .ref e0, .int 0])), (xp, .inl (cxp, 36, .inl (fun _ => 0))), (xo, .inr (1, [.int 0, .ref e0, .int 0])), (xa, .inr (2, [.int 0, .int 0, .int 0, .null, .int 0, .double 0]))]) ⟨hx, hb, hml, hown, hts⟩ (c_size l D e0 _ xk 0 0 (.ref e0)) (cwV 0 hts gX5_many_Jx4a65c_size_8abf5 rfl rfl rfl (by decide +kernel) ⟨Nat.le_of_ble_eq_true rfl, Nat.le_of_ble_eq_true rfl⟩) hP hD hK hS hA hE rfl [1] [0, 2, 3, 4, 5, 6] [] rfl rfl (by decide) (by decide) (by decide) rfl 1 1 rfl rfl rfl rfl hl.1 (Nat.le_of_ble_eq_true rfl) dX5_many_72 ⟨Nat.le_of_ble_eq_true rfl, Nat.le_of_ble_eq_true rfl⟩ (fun r_1 u9 H locs hw hP hD hK hS => ?_)
      have hw : r_1 = 0 := hw
      subst hw
      have hP : va_P D vwCl [(x, .inr (7, [.ref xk, .ref xb, .ref xo, .ref xa, .int near, .int 0, .int 0, .int 0])), (xb, .inr (3, [.ref xt, .ref xp, .ref xs, .int 0])), (xt, .inr (1, [.int 0, .ref e0, .int 0])), (xp, .inl (cxp, 36, .inl (fun _ => 0))), (xo, .inr (1, [.int 0, .ref e0, .int 0])), (xa, .inr (2, [.int 0, .int 0, .int 0, .null, .int 0, .double 0])), (xk, .inr (1, [.int 0, .ref e0, .int 0]))] H := hP
      have hD : va_D A [(x, .inr (7, [.ref xk, .ref xb, .ref xo, .ref xa, .int near, .int 0, .int 0, .int 0])), (xb, .inr (3, [.ref xt, .ref xp, .ref xs, .int 0])), (xt, .inr (1, [.int 0, .ref e0, .int 0])), (xp, .inl (cxp, 36, .inl (fun _ => 0))), (xo, .inr (1, [.int 0, .ref e0, .int 0])), (xa, .inr (2, [.int 0, .int 0, .int 0, .null, .int 0, .double 0])), (xk, .inr (1, [.int 0, .ref e0, .int 0]))] := hD
      have hK : va_K D vwCl [(cxp, .int)] s := hK
      exact vx_ret (end_i (v := 0) hx hb hr rfl hlocks hP hD hK hS () (⟨hv, by decide⟩) [0, 6, 1, 2, 3, 4, 5] [] rfl (by decide) rfl (Nat.le_of_ble_eq_true rfl) (Nat.le_of_ble_eq_true rfl) dX5_many_75)
    · refine lv_tableIn (off := 75) (tgt := 76) hx hb dX5_many_1 (by decide) (by decide) (by decide) (by decide) ?_
      refine lv_aload_n hx hb dX5_many_76 rfl (lv_at hl 0 rfl) ?_
      refine va_get (D := D) (ci := 7) (v := .ref xb) (C := RX5) (T := TX5) (N := 8) hx hb hts (by decide +kernel) hown hK hP 0 rfl rfl 1 (by decide) (hts (.fieldLink RX5 19 "PickCell" "bin" "LPickCell$Bin;") (by decide +kernel)) (fun _ h9 => h9) rfl dX5_many_77 ?_
      refine va_get (D := D) (ci := 3) (v := .ref xt) (C := RX1) (T := TX1) (N := 4) hx hb hts (by decide +kernel) hown hK hP 2 rfl rfl 0 (by decide) (hts (.fieldLink RX5 92 "PickCell$Bin" "things" "Ljava/util/ArrayList;") (by decide +kernel)) (fun _ h9 => h9) rfl dX5_many_80 ?_
      refine kV_i (As := []) (rest := []) (wr := [(x, .inr (7, [.ref xk, .ref xb, .ref xo, .ref xa, .int near, .int 0, .int 0, .int 0])), (xk, .inr (1, [.int 0, .ref e0, .int 0])), (xb, .inr (3, [.ref xt, .ref xp, .ref xs, .int 0])), (xp, .inl (cxp, 36, .inl (fun _ => 0))), (xo, .inr (1, [.int 0, .ref e0, .int 0])), (xa, .inr (2, [.int 0, .int 0, .int 0, .null, .int 0, .double 0]))]) ⟨hx, hb, hml, hown, hts⟩ (c_size l D e0 _ xt 0 0 (.ref e0)) (cwV 0 hts gX5_many_Jx4a65c_size_8abf5 rfl rfl rfl (by decide +kernel) ⟨Nat.le_of_ble_eq_true rfl, Nat.le_of_ble_eq_true rfl⟩) hP hD hK hS hA hE rfl [3] [0, 1, 2, 4, 5, 6] [] rfl rfl (by decide) (by decide) (by decide) rfl 1 3 rfl rfl rfl rfl hl.1 (Nat.le_of_ble_eq_true rfl) dX5_many_83 ⟨Nat.le_of_ble_eq_true rfl, Nat.le_of_ble_eq_true rfl⟩ (fun r_2 u9 H locs hw hP hD hK hS => ?_)
      have hw : r_2 = 0 := hw
      subst hw
      have hP : va_P D vwCl [(x, .inr (7, [.ref xk, .ref xb, .ref xo, .ref xa, .int near, .int 0, .int 0, .int 0])), (xk, .inr (1, [.int 0, .ref e0, .int 0])), (xb, .inr (3, [.ref xt, .ref xp, .ref xs, .int 0])), (xp, .inl (cxp, 36, .inl (fun _ => 0))), (xo, .inr (1, [.int 0, .ref e0, .int 0])), (xa, .inr (2, [.int 0, .int 0, .int 0, .null, .int 0, .double 0])), (xt, .inr (1, [.int 0, .ref e0, .int 0]))] H := hP
      have hD : va_D A [(x, .inr (7, [.ref xk, .ref xb, .ref xo, .ref xa, .int near, .int 0, .int 0, .int 0])), (xk, .inr (1, [.int 0, .ref e0, .int 0])), (xb, .inr (3, [.ref xt, .ref xp, .ref xs, .int 0])), (xp, .inl (cxp, 36, .inl (fun _ => 0))), (xo, .inr (1, [.int 0, .ref e0, .int 0])), (xa, .inr (2, [.int 0, .int 0, .int 0, .null, .int 0, .double 0])), (xt, .inr (1, [.int 0, .ref e0, .int 0]))] := hD
      have hK : va_K D vwCl [(cxp, .int)] s := hK
      exact vx_ret (end_i (v := 0) hx hb hr rfl hlocks hP hD hK hS () (⟨hv, by decide⟩) [0, 1, 2, 6, 3, 4, 5] [] rfl (by decide) rfl (Nat.le_of_ble_eq_true rfl) (Nat.le_of_ble_eq_true rfl) dX5_many_86)
    · refine lv_tableIn (off := 86) (tgt := 87) hx hb dX5_many_1 (by decide) (by decide) (by decide) (by decide) ?_
      refine lv_aload_n hx hb dX5_many_87 rfl (lv_at hl 0 rfl) ?_
      refine va_get (D := D) (ci := 7) (v := .ref xb) (C := RX5) (T := TX5) (N := 8) hx hb hts (by decide +kernel) hown hK hP 0 rfl rfl 1 (by decide) (hts (.fieldLink RX5 19 "PickCell" "bin" "LPickCell$Bin;") (by decide +kernel)) (fun _ h9 => h9) rfl dX5_many_88 ?_
      refine kV_i (As := []) (rest := []) (wr := [(x, .inr (7, [.ref xk, .ref xb, .ref xo, .ref xa, .int near, .int 0, .int 0, .int 0])), (xk, .inr (1, [.int 0, .ref e0, .int 0])), (xp, .inl (cxp, 36, .inl (fun _ => 0))), (xo, .inr (1, [.int 0, .ref e0, .int 0])), (xa, .inr (2, [.int 0, .int 0, .int 0, .null, .int 0, .double 0]))]) ⟨hx, hb, hml, hown, hts⟩ (c_manyInBin l D e0 _ xb xt xp xs) (cwV 0 hts gX5_many_X1_manyInBin rfl rfl rfl (by decide +kernel) ⟨Nat.le_of_ble_eq_true rfl, Nat.le_of_ble_eq_true rfl⟩) hP hD hK hS hA hE rfl [2, 3] [0, 1, 4, 5, 6] [] rfl rfl (by decide) (by decide) (by decide) rfl 3 2 rfl rfl rfl rfl hl.1 (Nat.le_of_ble_eq_true rfl) dX5_many_91 ⟨Nat.le_of_ble_eq_true rfl, Nat.le_of_ble_eq_true rfl⟩ (fun r_3 u9 H locs hw hP hD hK hS => ?_)
      have hw : r_3 = 0 := hw
      subst hw
      have hP : va_P D vwCl [(x, .inr (7, [.ref xk, .ref xb, .ref xo, .ref xa, .int near, .int 0, .int 0, .int 0])), (xk, .inr (1, [.int 0, .ref e0, .int 0])), (xp, .inl (cxp, 36, .inl (fun _ => 0))), (xo, .inr (1, [.int 0, .ref e0, .int 0])), (xa, .inr (2, [.int 0, .int 0, .int 0, .null, .int 0, .double 0])), (xb, .inr (3, [.ref xt, .ref xp, .ref xs, .int 0])), (xt, .inr (1, [.int 0, .ref e0, .int 0]))] H := hP
      have hD : va_D A [(x, .inr (7, [.ref xk, .ref xb, .ref xo, .ref xa, .int near, .int 0, .int 0, .int 0])), (xk, .inr (1, [.int 0, .ref e0, .int 0])), (xp, .inl (cxp, 36, .inl (fun _ => 0))), (xo, .inr (1, [.int 0, .ref e0, .int 0])), (xa, .inr (2, [.int 0, .int 0, .int 0, .null, .int 0, .double 0])), (xb, .inr (3, [.ref xt, .ref xp, .ref xs, .int 0])), (xt, .inr (1, [.int 0, .ref e0, .int 0]))] := hD
      have hK : va_K D vwCl [(cxp, .int)] s := hK
      exact vx_ret (end_i (v := 0) hx hb hr rfl hlocks hP hD hK hS () (⟨hv, by decide⟩) [0, 1, 5, 6, 2, 3, 4] [] rfl (by decide) rfl (Nat.le_of_ble_eq_true rfl) (Nat.le_of_ble_eq_true rfl) dX5_many_94)
    · refine lv_tableIn (off := 94) (tgt := 95) hx hb dX5_many_1 (by decide) (by decide) (by decide) (by decide) ?_
      refine lv_aload_n hx hb dX5_many_95 rfl (lv_at hl 0 rfl) ?_
      refine va_get (D := D) (ci := 7) (v := .ref xo) (C := RX5) (T := TX5) (N := 8) hx hb hts (by decide +kernel) hown hK hP 0 rfl rfl 2 (by decide) (hts (.fieldLink RX5 23 "PickCell" "boxes" "Ljava/util/ArrayList;") (by decide +kernel)) (fun _ h9 => h9) rfl dX5_many_96 ?_
      refine kV_i (As := []) (rest := []) (wr := [(x, .inr (7, [.ref xk, .ref xb, .ref xo, .ref xa, .int near, .int 0, .int 0, .int 0])), (xk, .inr (1, [.int 0, .ref e0, .int 0])), (xb, .inr (3, [.ref xt, .ref xp, .ref xs, .int 0])), (xt, .inr (1, [.int 0, .ref e0, .int 0])), (xp, .inl (cxp, 36, .inl (fun _ => 0))), (xa, .inr (2, [.int 0, .int 0, .int 0, .null, .int 0, .double 0]))]) ⟨hx, hb, hml, hown, hts⟩ (c_size l D e0 _ xo 0 0 (.ref e0)) (cwV 0 hts gX5_many_Jx4a65c_size_8abf5 rfl rfl rfl (by decide +kernel) ⟨Nat.le_of_ble_eq_true rfl, Nat.le_of_ble_eq_true rfl⟩) hP hD hK hS hA hE rfl [5] [0, 1, 2, 3, 4, 6] [] rfl rfl (by decide) (by decide) (by decide) rfl 1 5 rfl rfl rfl rfl hl.1 (Nat.le_of_ble_eq_true rfl) dX5_many_99 ⟨Nat.le_of_ble_eq_true rfl, Nat.le_of_ble_eq_true rfl⟩ (fun r_4 u9 H locs hw hP hD hK hS => ?_)
      have hw : r_4 = 0 := hw
      subst hw
      have hP : va_P D vwCl [(x, .inr (7, [.ref xk, .ref xb, .ref xo, .ref xa, .int near, .int 0, .int 0, .int 0])), (xk, .inr (1, [.int 0, .ref e0, .int 0])), (xb, .inr (3, [.ref xt, .ref xp, .ref xs, .int 0])), (xt, .inr (1, [.int 0, .ref e0, .int 0])), (xp, .inl (cxp, 36, .inl (fun _ => 0))), (xa, .inr (2, [.int 0, .int 0, .int 0, .null, .int 0, .double 0])), (xo, .inr (1, [.int 0, .ref e0, .int 0]))] H := hP
      have hD : va_D A [(x, .inr (7, [.ref xk, .ref xb, .ref xo, .ref xa, .int near, .int 0, .int 0, .int 0])), (xk, .inr (1, [.int 0, .ref e0, .int 0])), (xb, .inr (3, [.ref xt, .ref xp, .ref xs, .int 0])), (xt, .inr (1, [.int 0, .ref e0, .int 0])), (xp, .inl (cxp, 36, .inl (fun _ => 0))), (xa, .inr (2, [.int 0, .int 0, .int 0, .null, .int 0, .double 0])), (xo, .inr (1, [.int 0, .ref e0, .int 0]))] := hD
      have hK : va_K D vwCl [(cxp, .int)] s := hK
      exact vx_ret (end_i (v := 0) hx hb hr rfl hlocks hP hD hK hS () (⟨hv, by decide⟩) [0, 1, 2, 3, 4, 6, 5] [] rfl (by decide) rfl (Nat.le_of_ble_eq_true rfl) (Nat.le_of_ble_eq_true rfl) dX5_many_102)
    · refine lv_tableIn (off := 102) (tgt := 103) hx hb dX5_many_1 (by decide) (by decide) (by decide) (by decide) ?_
      refine lv_aload_n hx hb dX5_many_103 rfl (lv_at hl 0 rfl) ?_
      refine kV_i (As := []) (rest := []) (wr := [(xk, .inr (1, [.int 0, .ref e0, .int 0])), (xb, .inr (3, [.ref xt, .ref xp, .ref xs, .int 0])), (xt, .inr (1, [.int 0, .ref e0, .int 0])), (xp, .inl (cxp, 36, .inl (fun _ => 0))), (xa, .inr (2, [.int 0, .int 0, .int 0, .null, .int 0, .double 0]))]) ⟨hx, hb, hml, hown, hts⟩ (c_fullBoxes l D e0 _ x xk xb xo xa near) (cwV 0 hts gX5_many_X5_fullBoxes rfl rfl rfl (by decide +kernel) ⟨Nat.le_of_ble_eq_true rfl, Nat.le_of_ble_eq_true rfl⟩) hP hD hK hS hA hE rfl [0, 5] [1, 2, 3, 4, 6] [] rfl rfl (by decide) (by decide) (by decide) rfl 7 0 rfl rfl rfl rfl hl.1 (Nat.le_of_ble_eq_true rfl) dX5_many_104 ⟨Nat.le_of_ble_eq_true rfl, Nat.le_of_ble_eq_true rfl⟩ (fun r_5 u9 H locs hw hP hD hK hS => ?_)
      have hw : r_5 = 0 := hw
      subst hw
      have hP : va_P D vwCl [(xk, .inr (1, [.int 0, .ref e0, .int 0])), (xb, .inr (3, [.ref xt, .ref xp, .ref xs, .int 0])), (xt, .inr (1, [.int 0, .ref e0, .int 0])), (xp, .inl (cxp, 36, .inl (fun _ => 0))), (xa, .inr (2, [.int 0, .int 0, .int 0, .null, .int 0, .double 0])), (x, .inr (7, [.ref xk, .ref xb, .ref xo, .ref xa, .int near, .int 0, .int 0, .int 0])), (xo, .inr (1, [.int 0, .ref e0, .int 0]))] H := hP
      have hD : va_D A [(xk, .inr (1, [.int 0, .ref e0, .int 0])), (xb, .inr (3, [.ref xt, .ref xp, .ref xs, .int 0])), (xt, .inr (1, [.int 0, .ref e0, .int 0])), (xp, .inl (cxp, 36, .inl (fun _ => 0))), (xa, .inr (2, [.int 0, .int 0, .int 0, .null, .int 0, .double 0])), (x, .inr (7, [.ref xk, .ref xb, .ref xo, .ref xa, .int near, .int 0, .int 0, .int 0])), (xo, .inr (1, [.int 0, .ref e0, .int 0]))] := hD
      have hK : va_K D vwCl [(cxp, .int)] s := hK
      exact vx_ret (end_i (v := 0) hx hb hr rfl hlocks hP hD hK hS () (⟨hv, by decide⟩) [5, 0, 1, 2, 3, 6, 4] [] rfl (by decide) rfl (Nat.le_of_ble_eq_true rfl) (Nat.le_of_ble_eq_true rfl) dX5_many_107)
    · refine lv_tableIn (off := 107) (tgt := 108) hx hb dX5_many_1 (by decide) (by decide) (by decide) (by decide) ?_
      refine lv_aload_n hx hb dX5_many_108 rfl (lv_at hl 0 rfl) ?_
      refine va_get (D := D) (ci := 7) (v := .ref xa) (C := RX5) (T := TX5) (N := 8) hx hb hts (by decide +kernel) hown hK hP 0 rfl rfl 3 (by decide) (hts (.fieldLink RX5 29 "PickCell" "arm" "LPickCell$Arm;") (by decide +kernel)) (fun _ h9 => h9) rfl dX5_many_109 ?_
      refine kV_i (As := []) (rest := []) (wr := [(x, .inr (7, [.ref xk, .ref xb, .ref xo, .ref xa, .int near, .int 0, .int 0, .int 0])), (xk, .inr (1, [.int 0, .ref e0, .int 0])), (xb, .inr (3, [.ref xt, .ref xp, .ref xs, .int 0])), (xt, .inr (1, [.int 0, .ref e0, .int 0])), (xp, .inl (cxp, 36, .inl (fun _ => 0))), (xo, .inr (1, [.int 0, .ref e0, .int 0]))]) ⟨hx, hb, hml, hown, hts⟩ (c_numberHeld l D e0 _ xa) (cwV 0 hts gX5_many_X0_numberHeld rfl rfl rfl (by decide +kernel) ⟨Nat.le_of_ble_eq_true rfl, Nat.le_of_ble_eq_true rfl⟩) hP hD hK hS hA hE rfl [6] [0, 1, 2, 3, 4, 5] [] rfl rfl (by decide) (by decide) (by decide) rfl 2 6 rfl rfl rfl rfl hl.1 (Nat.le_of_ble_eq_true rfl) dX5_many_112 ⟨Nat.le_of_ble_eq_true rfl, Nat.le_of_ble_eq_true rfl⟩ (fun r_6 u9 H locs hw hP hD hK hS => ?_)
      have hw : r_6 = (-1) := hw
      subst hw
      have hP : va_P D vwCl [(x, .inr (7, [.ref xk, .ref xb, .ref xo, .ref xa, .int near, .int 0, .int 0, .int 0])), (xk, .inr (1, [.int 0, .ref e0, .int 0])), (xb, .inr (3, [.ref xt, .ref xp, .ref xs, .int 0])), (xt, .inr (1, [.int 0, .ref e0, .int 0])), (xp, .inl (cxp, 36, .inl (fun _ => 0))), (xo, .inr (1, [.int 0, .ref e0, .int 0])), (xa, .inr (2, [.int 0, .int 0, .int 0, .null, .int 0, .double 0]))] H := hP
      have hD : va_D A [(x, .inr (7, [.ref xk, .ref xb, .ref xo, .ref xa, .int near, .int 0, .int 0, .int 0])), (xk, .inr (1, [.int 0, .ref e0, .int 0])), (xb, .inr (3, [.ref xt, .ref xp, .ref xs, .int 0])), (xt, .inr (1, [.int 0, .ref e0, .int 0])), (xp, .inl (cxp, 36, .inl (fun _ => 0))), (xo, .inr (1, [.int 0, .ref e0, .int 0])), (xa, .inr (2, [.int 0, .int 0, .int 0, .null, .int 0, .double 0]))] := hD
      have hK : va_K D vwCl [(cxp, .int)] s := hK
      exact vx_ret (end_i (v := (-1)) hx hb hr rfl hlocks hP hD hK hS () (⟨hv, by decide⟩) [0, 1, 2, 3, 4, 5, 6] [] rfl (by decide) rfl (Nat.le_of_ble_eq_true rfl) (Nat.le_of_ble_eq_true rfl) dX5_many_115)
    · refine lv_tableIn (off := 115) (tgt := 116) hx hb dX5_many_1 (by decide) (by decide) (by decide) (by decide) ?_
      refine lv_aload_n hx hb dX5_many_116 rfl (lv_at hl 0 rfl) ?_
      refine va_get (D := D) (ci := 7) (v := .ref xa) (C := RX5) (T := TX5) (N := 8) hx hb hts (by decide +kernel) hown hK hP 0 rfl rfl 3 (by decide) (hts (.fieldLink RX5 29 "PickCell" "arm" "LPickCell$Arm;") (by decide +kernel)) (fun _ h9 => h9) rfl dX5_many_117 ?_
      refine va_get (D := D) (ci := 2) (v := .int 0) (C := RX0) (T := TX0) (N := 6) hx hb hts (by decide +kernel) hown hK hP 6 rfl rfl 2 (by decide) (hts (.fieldLink RX5 299 "PickCell$Arm" "tool" "I") (by decide +kernel)) (fun _ h9 => h9) rfl dX5_many_120 ?_
      exact vx_ret (end_i (v := 0) hx hb hr rfl hlocks hP hD hK hS () (⟨hv, by decide⟩) [0, 1, 2, 3, 4, 5, 6] [] rfl (by decide) rfl (Nat.le_of_ble_eq_true rfl) (Nat.le_of_ble_eq_true rfl) dX5_many_123)
    · refine lv_tableIn (off := 123) (tgt := 124) hx hb dX5_many_1 (by decide) (by decide) (by decide) (by decide) ?_
      refine lv_aload_n hx hb dX5_many_124 rfl (lv_at hl 0 rfl) ?_
      refine va_get (D := D) (ci := 7) (v := .ref xa) (C := RX5) (T := TX5) (N := 8) hx hb hts (by decide +kernel) hown hK hP 0 rfl rfl 3 (by decide) (hts (.fieldLink RX5 29 "PickCell" "arm" "LPickCell$Arm;") (by decide +kernel)) (fun _ h9 => h9) rfl dX5_many_125 ?_
      refine va_get (D := D) (ci := 2) (v := .int 0) (C := RX0) (T := TX0) (N := 6) hx hb hts (by decide +kernel) hown hK hP 6 rfl rfl 0 (by decide) (hts (.fieldLink RX5 302 "PickCell$Arm" "x" "I") (by decide +kernel)) (fun _ h9 => h9) rfl dX5_many_128 ?_
      exact vx_ret (end_i (v := 0) hx hb hr rfl hlocks hP hD hK hS () (⟨hv, by decide⟩) [0, 1, 2, 3, 4, 5, 6] [] rfl (by decide) rfl (Nat.le_of_ble_eq_true rfl) (Nat.le_of_ble_eq_true rfl) dX5_many_131)
    · refine lv_tableIn (off := 131) (tgt := 132) hx hb dX5_many_1 (by decide) (by decide) (by decide) (by decide) ?_
      refine lv_aload_n hx hb dX5_many_132 rfl (lv_at hl 0 rfl) ?_
      refine va_get (D := D) (ci := 7) (v := .ref xa) (C := RX5) (T := TX5) (N := 8) hx hb hts (by decide +kernel) hown hK hP 0 rfl rfl 3 (by decide) (hts (.fieldLink RX5 29 "PickCell" "arm" "LPickCell$Arm;") (by decide +kernel)) (fun _ h9 => h9) rfl dX5_many_133 ?_
      refine va_get (D := D) (ci := 2) (v := .int 0) (C := RX0) (T := TX0) (N := 6) hx hb hts (by decide +kernel) hown hK hP 6 rfl rfl 1 (by decide) (hts (.fieldLink RX5 303 "PickCell$Arm" "y" "I") (by decide +kernel)) (fun _ h9 => h9) rfl dX5_many_136 ?_
      exact vx_ret (end_i (v := 0) hx hb hr rfl hlocks hP hD hK hS () (⟨hv, by decide⟩) [0, 1, 2, 3, 4, 5, 6] [] rfl (by decide) rfl (Nat.le_of_ble_eq_true rfl) (Nat.le_of_ble_eq_true rfl) dX5_many_139)
    · refine lv_tableIn (off := 139) (tgt := 140) hx hb dX5_many_1 (by decide) (by decide) (by decide) (by decide) ?_
      refine lv_aload_n hx hb dX5_many_140 rfl (lv_at hl 0 rfl) ?_
      refine va_get (D := D) (ci := 7) (v := .int 0) (C := RX5) (T := TX5) (N := 8) hx hb hts (by decide +kernel) hown hK hP 0 rfl rfl 5 (by decide) (hts (.fieldLink RX5 37 "PickCell" "draw" "I") (by decide +kernel)) (fun _ h9 => h9) rfl dX5_many_141 ?_
      exact vx_ret (end_i (v := 0) hx hb hr rfl hlocks hP hD hK hS () (⟨hv, by decide⟩) [0, 1, 2, 3, 4, 5, 6] [] rfl (by decide) rfl (Nat.le_of_ble_eq_true rfl) (Nat.le_of_ble_eq_true rfl) dX5_many_144)
    · refine lv_tableIn (off := 144) (tgt := 145) hx hb dX5_many_1 (by decide) (by decide) (by decide) (by decide) ?_
      refine lv_aload_n hx hb dX5_many_145 rfl (lv_at hl 0 rfl) ?_
      refine va_get (D := D) (ci := 7) (v := .int 0) (C := RX5) (T := TX5) (N := 8) hx hb hts (by decide +kernel) hown hK hP 0 rfl rfl 6 (by decide) (hts (.fieldLink RX5 41 "PickCell" "slips" "I") (by decide +kernel)) (fun _ h9 => h9) rfl dX5_many_146 ?_
      exact vx_ret (end_i (v := 0) hx hb hr rfl hlocks hP hD hK hS () (⟨hv, by decide⟩) [0, 1, 2, 3, 4, 5, 6] [] rfl (by decide) rfl (Nat.le_of_ble_eq_true rfl) (Nat.le_of_ble_eq_true rfl) dX5_many_149)
    · refine lv_tableIn (off := 149) (tgt := 150) hx hb dX5_many_1 (by decide) (by decide) (by decide) (by decide) ?_
      refine lv_aload_n hx hb dX5_many_150 rfl (lv_at hl 0 rfl) ?_
      refine va_get (D := D) (ci := 7) (v := .int 0) (C := RX5) (T := TX5) (N := 8) hx hb hts (by decide +kernel) hown hK hP 0 rfl rfl 7 (by decide) (hts (.fieldLink RX5 44 "PickCell" "hinderedPicks" "I") (by decide +kernel)) (fun _ h9 => h9) rfl dX5_many_151 ?_
      exact vx_ret (end_i (v := 0) hx hb hr rfl hlocks hP hD hK hS () (⟨hv, by decide⟩) [0, 1, 2, 3, 4, 5, 6] [] rfl (by decide) rfl (Nat.le_of_ble_eq_true rfl) (Nat.le_of_ble_eq_true rfl) dX5_many_154)
    · refine lv_tableIn (off := 154) (tgt := 155) hx hb dX5_many_1 (by decide) (by decide) (by decide) (by decide) ?_
      refine lv_aload_n hx hb dX5_many_155 rfl (lv_at hl 0 rfl) ?_
      refine va_get (D := D) (ci := 7) (v := .ref xb) (C := RX5) (T := TX5) (N := 8) hx hb hts (by decide +kernel) hown hK hP 0 rfl rfl 1 (by decide) (hts (.fieldLink RX5 19 "PickCell" "bin" "LPickCell$Bin;") (by decide +kernel)) (fun _ h9 => h9) rfl dX5_many_156 ?_
      refine lv_iconst (v := 0) hx hb dX5_many_159 (by decide) ?_
      refine lv_iconst (v := 0) hx hb dX5_many_160 (by decide) ?_
      refine lv_bipush (v := 6) hx hb dX5_many_161 (by decide) ?_
      refine lv_bipush (v := 6) hx hb dX5_many_163 (by decide) ?_
      refine kV_i (As := [.int 0, .int 0, .int 6, .int 6]) (rest := []) (wr := [(x, .inr (7, [.ref xk, .ref xb, .ref xo, .ref xa, .int near, .int 0, .int 0, .int 0])), (xk, .inr (1, [.int 0, .ref e0, .int 0])), (xt, .inr (1, [.int 0, .ref e0, .int 0])), (xo, .inr (1, [.int 0, .ref e0, .int 0])), (xa, .inr (2, [.int 0, .int 0, .int 0, .null, .int 0, .double 0]))]) ⟨hx, hb, hml, hown, hts⟩ (c_greatestTop0 l D e0 _ xb xt xp xs cxp) (cwV 4 hts gX5_many_X1_greatestTop rfl rfl rfl (by decide +kernel) ⟨Nat.le_of_ble_eq_true rfl, Nat.le_of_ble_eq_true rfl⟩) hP hD hK hS hA hE rfl [2, 4] [0, 1, 3, 5, 6] [0] rfl rfl (by decide) (by decide) (by decide) rfl 3 2 rfl rfl rfl rfl hl.1 (Nat.le_of_ble_eq_true rfl) dX5_many_165 ⟨Nat.le_of_ble_eq_true rfl, Nat.le_of_ble_eq_true rfl⟩ (fun r_7 u9 H locs hw hP hD hK hS => ?_)
      have hw : r_7 = 0 := hw
      subst hw
      have hP : va_P D vwCl [(x, .inr (7, [.ref xk, .ref xb, .ref xo, .ref xa, .int near, .int 0, .int 0, .int 0])), (xk, .inr (1, [.int 0, .ref e0, .int 0])), (xt, .inr (1, [.int 0, .ref e0, .int 0])), (xo, .inr (1, [.int 0, .ref e0, .int 0])), (xa, .inr (2, [.int 0, .int 0, .int 0, .null, .int 0, .double 0])), (xb, .inr (3, [.ref xt, .ref xp, .ref xs, .int 0])), (xp, .inl (cxp, 36, .inl (fun _ => 0)))] H := hP
      have hD : va_D A [(x, .inr (7, [.ref xk, .ref xb, .ref xo, .ref xa, .int near, .int 0, .int 0, .int 0])), (xk, .inr (1, [.int 0, .ref e0, .int 0])), (xt, .inr (1, [.int 0, .ref e0, .int 0])), (xo, .inr (1, [.int 0, .ref e0, .int 0])), (xa, .inr (2, [.int 0, .int 0, .int 0, .null, .int 0, .double 0])), (xb, .inr (3, [.ref xt, .ref xp, .ref xs, .int 0])), (xp, .inl (cxp, 36, .inl (fun _ => 0)))] := hD
      have hK : va_K D vwCl [(cxp, .int)] s := hK
      exact vx_ret (end_i (v := 0) hx hb hr rfl hlocks hP hD hK hS () (⟨hv, by decide⟩) [0, 1, 5, 2, 6, 3, 4] [] rfl (by decide) rfl (Nat.le_of_ble_eq_true rfl) (Nat.le_of_ble_eq_true rfl) dX5_many_168)
  · refine lv_tableOut (tgt := 169) hx hb dX5_many_1 (out13 hv) (by decide) ?_
    exact kthrowW (X := "java/lang/IllegalArgumentException") (tx := "what is not 0 to 12") (ik := 51) (is := 308) (ic := 55) ⟨hx, hb, hml, hown, hts⟩ hl9 hS hE (by decide) (by decide +kernel) (by decide +kernel) (by decide +kernel) (by decide +kernel) (by decide +kernel) (by decide +kernel) hl.1 dX5_many_169 dX5_many_172 dX5_many_173 dX5_many_176 dX5_many_179 ht0 (Nat.le_of_ble_eq_true rfl) (Nat.le_of_ble_eq_true rfl) (Nat.le_of_ble_eq_true rfl) (Nat.le_of_ble_eq_true rfl) hlocks hv (Nat.le_of_ble_eq_true rfl) (Nat.le_of_ble_eq_true rfl)
