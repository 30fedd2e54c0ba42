theorem kd_or {a b c d e f : Int32} (h : ¬ kdT a b c d e f = 0) : kdT a b c d e f = 1 := by
  unfold kdT at h ⊢
  by_cases k : isW a 1 3 = 0 ∨ isW b 1 3 = 0 ∨ isW c 1 4 = 0 ∨ isW d 1 60 = 0 ∨ isW e 0 2 = 0 ∨ isW f 0 200 = 0
  · exact if_pos k
  · rw [if_neg k] at h; exact absurd rfl h
theorem isW_of {v a b : Int32} (h : a ≤ v ∧ v ≤ b) : ¬ isW v a b = 0 := by
  unfold isW
  rw [if_pos h]
  decide
theorem isW_no {v a b : Int32} (h : ¬ (a ≤ v ∧ v ≤ b)) : isW v a b = 0 := if_neg h
theorem seen_c {x y : Int32} (h : 0 ≤ x ∧ 0 ≤ y ∧ x ≤ 5 ∧ y ≤ 5) : ¬ (isW x 0 5 = 0 ∨ isW y 0 5 = 0) := fun k => k.elim (isW_of ⟨h.1, h.2.2.1⟩) (isW_of ⟨h.2.1, h.2.2.2⟩)
theorem seen_c_n {x y : Int32} (h : ¬ (0 ≤ x ∧ 0 ≤ y ∧ x ≤ 5 ∧ y ≤ 5)) : isW x 0 5 = 0 ∨ isW y 0 5 = 0 := by
  by_cases k : 0 ≤ x ∧ x ≤ 5
  · exact Or.inr (isW_no (fun k2 => h ⟨k.1, k2.1, k.2, k2.2⟩))
  · exact Or.inl (isW_no k)
theorem many_c {x : Int32} (h : 0 ≤ x ∧ x ≤ 12) : ¬ isW x 0 12 = 0 := isW_of h
theorem many_c_n {x : Int32} (h : ¬ (0 ≤ x ∧ x ≤ 12)) : isW x 0 12 = 0 := isW_no h
set_option maxHeartbeats 4000000 in
set_option maxRecDepth 100000 in
theorem law_tail {p : Program} {l : Launch} {e : Env} {s : State} {m : MethodId} {below : List Frame} {meth : Method} {c : Code} {b : Nat} {sc : Nat → Int32} {A : Nat → Prop} {H : Heap} {locs : List Loc} {ls : Array Slot} {cells slots : Nat} (hx : p.tables.exec = Jvm.exec) (hb : c.code = cL_law) (hr : meth.sig.returnType = ret) (hlocks : meth.locks = false) (hX : va_X b 7 sc s s.heap) (hbl : b < s.heap.size) (hbA : ¬ A b) (hAs : ∀ q, A q → s.heap.size ≤ q) (hS : va_S A s.heap H locs) (hc : cells ≤ 632229) (hs : slots ≤ 7205549) (hl : lv_has ls 10 [(5, .int 0), (0, .ref b)]) : W p l e room_1 s m #[Value.ref b] below meth c H locs cells slots (lw_Z below #[Value.ref b] s) (F0 m 1632 ls []) := by
  refine lv_iinc (v := 7) (lv' := [(5, .int 7), (0, .ref b)]) hx hb dL_law_1632 hl (k := 0) rfl (by decide) (by decide) rfl (fun ls hl => ?_)
  refine lv_goto (tgt := 28) hx hb dL_law_1635 (by decide) ?_
  refine lv_iload hx hb dL_law_28 (lv_at hl 0 rfl) ?_
  refine lv_aload_n hx hb dL_law_30 rfl (lv_at hl 1 rfl) ?_
  refine va_slen hx hb hX hbl hbA hS dL_law_31 ?_
  refine lv_topi (fun x_1 ex_1 => ?_)
  obtain rfl : x_1 = 7 := ex_1
  refine lv_bipush (v := 7) hx hb dL_law_32 (by decide) ?_
  refine lv_isub hx hb dL_law_34 ?_
  refine lv_topi (fun x_2 ex_2 => ?_)
  obtain rfl : x_2 = 0 := ex_2.trans (by decide)
  refine lv_icmp_gt (tgt := 1638) hx hb dL_law_35 (by decide) (fun _ => ?_) (fun h9 => absurd (by decide) h9)
  refine lv_iconst (v := 1) hx hb dL_law_1638 (by decide) ?_
  refine va_forget (fun q hq => hAs _ (hS.2.2 q hq)) ?_
  refine W.widen (k := 632229) (n := 7205549) hc hs ?_
  exact lw_ret (d0 := s.drawn) (Drawn.sameBut.refl s.drawn lw_cs) hx hb hr hlocks dL_law_1639
set_option maxHeartbeats 4000000 in
set_option maxRecDepth 100000 in
theorem law_case_0 {p : Program} {l : Launch} {e : Env} {s : State} {m : MethodId} {below : List Frame} {meth : Method} {c : Code} {b : Nat} {sc : Nat → Int32} {A : Nat → Prop} {H : Heap} {locs : List Loc} {ls : Array Slot} {D : va_G} {e0 x xk xb xt xp xs xo xa mm mk9 mt mb o od : Nat} {cxp cxs co cod : ClassId} {g : Nat → Int32} (hl9 : l.stackTraces = false) (hx : p.tables.exec = Jvm.exec) (hb : c.code = cL_law) (hr : meth.sig.returnType = ret) (hlocks : meth.locks = false) (hX : va_X b 7 sc s s.heap) (hbl : b < s.heap.size) (hbA : ¬ A b) (hAs : ∀ q, A q → s.heap.size ≤ q) (hS : va_S A s.heap H locs) (hml : c.maxLocals = 10) (hown : s.vm.findClass RL = some m.cls) (hts0 : ∀ w ∈ lw_tbl, w.before #[Value.ref b] s = true) (hts : ∀ w ∈ wsL_law, w.before #[Value.ref b] s = true) (hA : ∀ q, s.heap.size ≤ q → A q) (hE : EV e0 A s s.heap) (hg : ∀ j, j < 36 → g j = -1) (hP : va_P D vwCl [(x, .inr (7, [.ref xk, .ref xb, .ref xo, .ref xa, .int 0, .int 0, .int 0, .int 0])), (xk, .inr (1, [.int 0, .ref e0, .int 0])), (xb, .inr (3, [.ref xt, .ref xp, .ref xs, .int 0])), (xt, .inr (1, [.int 0, .ref e0, .int 0])), (xp, .inl (cxp, 36, .inl (fun _ => 0))), (xs, .inl (cxs, 36, .inl g)), (xo, .inr (1, [.int 0, .ref e0, .int 0])), (xa, .inr (2, [.int 0, .int 0, .int 0, .null, .int 0, .double 0])), (mm, .inr (11, [.int 0, .ref mk9, .ref mt, .ref mb, .int 0, .int 0, .int 0, .int 0, .null, .int 0, .int 0, .double 0, .int 0, .int 0, .int 0])), (mk9, .inr (1, [.int 0, .ref e0, .int 0])), (mt, .inr (1, [.int 0, .ref e0, .int 0])), (mb, .inr (1, [.int 0, .ref e0, .int 0])), (o, .inl (co, 1, .inr (.inl (fun _ => 0)))), (od, .inl (cod, 1, .inr (.inr (.inr (.inl (fun _ => 0))))))] H) (hD : va_D A [(x, .inr (7, [.ref xk, .ref xb, .ref xo, .ref xa, .int 0, .int 0, .int 0, .int 0])), (xk, .inr (1, [.int 0, .ref e0, .int 0])), (xb, .inr (3, [.ref xt, .ref xp, .ref xs, .int 0])), (xt, .inr (1, [.int 0, .ref e0, .int 0])), (xp, .inl (cxp, 36, .inl (fun _ => 0))), (xs, .inl (cxs, 36, .inl g)), (xo, .inr (1, [.int 0, .ref e0, .int 0])), (xa, .inr (2, [.int 0, .int 0, .int 0, .null, .int 0, .double 0])), (mm, .inr (11, [.int 0, .ref mk9, .ref mt, .ref mb, .int 0, .int 0, .int 0, .int 0, .null, .int 0, .int 0, .double 0, .int 0, .int 0, .int 0])), (mk9, .inr (1, [.int 0, .ref e0, .int 0])), (mt, .inr (1, [.int 0, .ref e0, .int 0])), (mb, .inr (1, [.int 0, .ref e0, .int 0])), (o, .inl (co, 1, .inr (.inl (fun _ => 0)))), (od, .inl (cod, 1, .inr (.inr (.inr (.inl (fun _ => 0))))))]) (hK : va_K D vwCl [(cxp, .int), (cxs, .int), (co, .long), (cod, .double)] s) (hl : lv_has ls 10 [(5, .int 0), (4, .ref od), (3, .ref o), (2, .ref mm), (1, .ref x), (0, .ref b)]) : W p l e room_1 s m #[Value.ref b] below meth c H locs 14 125 (lw_Z below #[Value.ref b] s) (F0 m 152 ls []) := by
  by_cases hq0 : kdT (sc 1) (sc 2) (sc 3) (sc 4) (sc 5) (sc 6) = 0
  · refine lv_aload_n hx hb dL_law_152 rfl (lv_at hl 4 rfl) ?_
    refine lv_aload_n hx hb dL_law_153 rfl (lv_at hl 5 rfl) ?_
    refine lv_iload hx hb dL_law_154 (lv_at hl 0 rfl) ?_
    refine lv_iconst (v := 1) hx hb dL_law_156 (by decide) ?_
    refine lv_iadd hx hb dL_law_157 ?_
    refine lv_topi (fun x_1 ex_1 => ?_)
    obtain rfl : x_1 = 1 := ex_1.trans (by decide)
    refine va_sld hx hb hX hbl hbA hS (by unfold vp_in; decide) dL_law_158 ?_
    refine lv_topi (fun x_2 ex_2 => ?_)
    obtain rfl : x_2 = sc 1 := ex_2.trans (congrArg sc (by decide))
    refine lv_aload_n hx hb dL_law_159 rfl (lv_at hl 5 rfl) ?_
    refine lv_iload hx hb dL_law_160 (lv_at hl 0 rfl) ?_
    refine lv_iconst (v := 2) hx hb dL_law_162 (by decide) ?_
    refine lv_iadd hx hb dL_law_163 ?_
    refine lv_topi (fun x_3 ex_3 => ?_)
    obtain rfl : x_3 = 2 := ex_3.trans (by decide)
    refine va_sld hx hb hX hbl hbA hS (by unfold vp_in; decide) dL_law_164 ?_
    refine lv_topi (fun x_4 ex_4 => ?_)
    obtain rfl : x_4 = sc 2 := ex_4.trans (congrArg sc (by decide))
    refine lv_aload_n hx hb dL_law_165 rfl (lv_at hl 5 rfl) ?_
    refine lv_iload hx hb dL_law_166 (lv_at hl 0 rfl) ?_
    refine lv_iconst (v := 3) hx hb dL_law_168 (by decide) ?_
    refine lv_iadd hx hb dL_law_169 ?_
    refine lv_topi (fun x_5 ex_5 => ?_)
    obtain rfl : x_5 = 3 := ex_5.trans (by decide)
    refine va_sld hx hb hX hbl hbA hS (by unfold vp_in; decide) dL_law_170 ?_
    refine lv_topi (fun x_6 ex_6 => ?_)
    obtain rfl : x_6 = sc 3 := ex_6.trans (congrArg sc (by decide))
    refine lv_aload_n hx hb dL_law_171 rfl (lv_at hl 5 rfl) ?_
    refine lv_iload hx hb dL_law_172 (lv_at hl 0 rfl) ?_
    refine lv_iconst (v := 4) hx hb dL_law_174 (by decide) ?_
    refine lv_iadd hx hb dL_law_175 ?_
    refine lv_topi (fun x_7 ex_7 => ?_)
    obtain rfl : x_7 = 4 := ex_7.trans (by decide)
    refine va_sld hx hb hX hbl hbA hS (by unfold vp_in; decide) dL_law_176 ?_
    refine lv_topi (fun x_8 ex_8 => ?_)
    obtain rfl : x_8 = sc 4 := ex_8.trans (congrArg sc (by decide))
    refine lv_aload_n hx hb dL_law_177 rfl (lv_at hl 5 rfl) ?_
    refine lv_iload hx hb dL_law_178 (lv_at hl 0 rfl) ?_
    refine lv_iconst (v := 5) hx hb dL_law_180 (by decide) ?_
    refine lv_iadd hx hb dL_law_181 ?_
    refine lv_topi (fun x_9 ex_9 => ?_)
    obtain rfl : x_9 = 5 := ex_9.trans (by decide)
    refine va_sld hx hb hX hbl hbA hS (by unfold vp_in; decide) dL_law_182 ?_
    refine lv_topi (fun x_10 ex_10 => ?_)
    obtain rfl : x_10 = sc 5 := ex_10.trans (congrArg sc (by decide))
    refine lv_aload_n hx hb dL_law_183 rfl (lv_at hl 5 rfl) ?_
    refine lv_iload hx hb dL_law_184 (lv_at hl 0 rfl) ?_
    refine lv_bipush (v := 6) hx hb dL_law_186 (by decide) ?_
    refine lv_iadd hx hb dL_law_188 ?_
    refine lv_topi (fun x_11 ex_11 => ?_)
    obtain rfl : x_11 = 6 := ex_11.trans (by decide)
    refine va_sld hx hb hX hbl hbA hS (by unfold vp_in; decide) dL_law_189 ?_
    refine lv_topi (fun x_12 ex_12 => ?_)
    obtain rfl : x_12 = sc 6 := ex_12.trans (congrArg sc (by decide))
    refine lv_aload_n hx hb dL_law_190 rfl (lv_at hl 2 rfl) ?_
    refine kSW_i (As := [.ref x, .int (sc 1), .int (sc 2), .int (sc 3), .int (sc 4), .int (sc 5), .int (sc 6), .ref o]) (rest := []) (wr := [(xb, .inr (3, [.ref xt, .ref xp, .ref xs, .int 0])), (xt, .inr (1, [.int 0, .ref e0, .int 0])), (xp, .inl (cxp, 36, .inl (fun _ => 0))), (xs, .inl (cxs, 36, .inl g)), (xo, .inr (1, [.int 0, .ref e0, .int 0])), (xa, .inr (2, [.int 0, .int 0, .int 0, .null, .int 0, .double 0])), (mm, .inr (11, [.int 0, .ref mk9, .ref mt, .ref mb, .int 0, .int 0, .int 0, .int 0, .null, .int 0, .int 0, .double 0, .int 0, .int 0, .int 0])), (mk9, .inr (1, [.int 0, .ref e0, .int 0])), (mt, .inr (1, [.int 0, .ref e0, .int 0])), (mb, .inr (1, [.int 0, .ref e0, .int 0])), (od, .inl (cod, 1, .inr (.inr (.inr (.inl (fun _ => 0))))))]) ⟨hx, hb, hml, hown, hts⟩ (c_w_kind l hl9 D e0 _ x xk xb xo xa 0 o co (fun _ => 0) (sc 1) (sc 2) (sc 3) (sc 4) (sc 5) (sc 6)) (vx_cwSW 8 hts gL_law_L_kind rfl rfl rfl (by decide +kernel) ⟨Nat.le_of_ble_eq_true rfl, Nat.le_of_ble_eq_true rfl⟩) hP hD hK hS hA hE rfl [0, 1, 12] [2, 3, 4, 5, 6, 7, 8, 9, 10, 11, 13] [2] rfl rfl (by decide) (by decide) (by decide) rfl rfl hl.1 (Nat.le_of_ble_eq_true rfl) dL_law_191 ⟨Nat.le_of_ble_eq_true rfl, Nat.le_of_ble_eq_true rfl⟩ (fun r_13 u9 H locs hw hP hD hK hS => ?_)
    obtain ⟨uo, huo⟩ : ∃ z : Nat → Int64, z = u9 := ⟨_, rfl⟩
    rw [← huo] at hw hP hD
    have hw : r_13 = 0 ∧ uo 0 = 0 := hw.elim (fun h => h.2) (fun h => absurd (hq0.symm.trans h.1) (by decide))
    obtain ⟨hwr, huv⟩ := hw
    subst hwr
    have hP : va_P D vwCl [(xb, .inr (3, [.ref xt, .ref xp, .ref xs, .int 0])), (xt, .inr (1, [.int 0, .ref e0, .int 0])), (xp, .inl (cxp, 36, .inl (fun _ => 0))), (xs, .inl (cxs, 36, .inl g)), (xo, .inr (1, [.int 0, .ref e0, .int 0])), (xa, .inr (2, [.int 0, .int 0, .int 0, .null, .int 0, .double 0])), (mm, .inr (11, [.int 0, .ref mk9, .ref mt, .ref mb, .int 0, .int 0, .int 0, .int 0, .null, .int 0, .int 0, .double 0, .int 0, .int 0, .int 0])), (mk9, .inr (1, [.int 0, .ref e0, .int 0])), (mt, .inr (1, [.int 0, .ref e0, .int 0])), (mb, .inr (1, [.int 0, .ref e0, .int 0])), (od, .inl (cod, 1, .inr (.inr (.inr (.inl (fun _ => 0)))))), (o, .inl (co, 1, .inr (.inl uo)))] H := hP
    have hD : va_D A [(xb, .inr (3, [.ref xt, .ref xp, .ref xs, .int 0])), (xt, .inr (1, [.int 0, .ref e0, .int 0])), (xp, .inl (cxp, 36, .inl (fun _ => 0))), (xs, .inl (cxs, 36, .inl g)), (xo, .inr (1, [.int 0, .ref e0, .int 0])), (xa, .inr (2, [.int 0, .int 0, .int 0, .null, .int 0, .double 0])), (mm, .inr (11, [.int 0, .ref mk9, .ref mt, .ref mb, .int 0, .int 0, .int 0, .int 0, .null, .int 0, .int 0, .double 0, .int 0, .int 0, .int 0])), (mk9, .inr (1, [.int 0, .ref e0, .int 0])), (mt, .inr (1, [.int 0, .ref e0, .int 0])), (mb, .inr (1, [.int 0, .ref e0, .int 0])), (od, .inl (cod, 1, .inr (.inr (.inr (.inl (fun _ => 0)))))), (o, .inl (co, 1, .inr (.inl uo)))] := hD
    have hK : va_K D vwCl [(cxp, .int), (cxs, .int), (co, .long), (cod, .double)] s := hK
    refine lv_istore (lv' := [(6, .int 0), (5, .int 0), (4, .ref od), (3, .ref o), (2, .ref mm), (1, .ref x), (0, .ref b)]) hx hb dL_law_194 hl (by decide) rfl (fun ls hl => ?_)
    refine lv_aload_n hx hb dL_law_196 rfl (lv_at hl 4 rfl) ?_
    refine lv_aload_n hx hb dL_law_197 rfl (lv_at hl 6 rfl) ?_
    refine lv_iload hx hb dL_law_198 (lv_at hl 1 rfl) ?_
    refine lv_iconst (v := 1) hx hb dL_law_200 (by decide) ?_
    refine lv_iadd hx hb dL_law_201 ?_
    refine lv_topi (fun x_14 ex_14 => ?_)
    obtain rfl : x_14 = 1 := ex_14.trans (by decide)
    refine va_sld hx hb hX hbl hbA hS (by unfold vp_in; decide) dL_law_202 ?_
    refine lv_topi (fun x_15 ex_15 => ?_)
    obtain rfl : x_15 = sc 1 := ex_15.trans (congrArg sc (by decide))
    refine lv_aload_n hx hb dL_law_203 rfl (lv_at hl 6 rfl) ?_
    refine lv_iload hx hb dL_law_204 (lv_at hl 1 rfl) ?_
    refine lv_iconst (v := 2) hx hb dL_law_206 (by decide) ?_
    refine lv_iadd hx hb dL_law_207 ?_
    refine lv_topi (fun x_16 ex_16 => ?_)
    obtain rfl : x_16 = 2 := ex_16.trans (by decide)
    refine va_sld hx hb hX hbl hbA hS (by unfold vp_in; decide) dL_law_208 ?_
    refine lv_topi (fun x_17 ex_17 => ?_)
    obtain rfl : x_17 = sc 2 := ex_17.trans (congrArg sc (by decide))
    refine lv_aload_n hx hb dL_law_209 rfl (lv_at hl 6 rfl) ?_
    refine lv_iload hx hb dL_law_210 (lv_at hl 1 rfl) ?_
    refine lv_iconst (v := 3) hx hb dL_law_212 (by decide) ?_
    refine lv_iadd hx hb dL_law_213 ?_
    refine lv_topi (fun x_18 ex_18 => ?_)
    obtain rfl : x_18 = 3 := ex_18.trans (by decide)
    refine va_sld hx hb hX hbl hbA hS (by unfold vp_in; decide) dL_law_214 ?_
    refine lv_topi (fun x_19 ex_19 => ?_)
    obtain rfl : x_19 = sc 3 := ex_19.trans (congrArg sc (by decide))
    refine lv_aload_n hx hb dL_law_215 rfl (lv_at hl 6 rfl) ?_
    refine lv_iload hx hb dL_law_216 (lv_at hl 1 rfl) ?_
    refine lv_iconst (v := 4) hx hb dL_law_218 (by decide) ?_
    refine lv_iadd hx hb dL_law_219 ?_
    refine lv_topi (fun x_20 ex_20 => ?_)
    obtain rfl : x_20 = 4 := ex_20.trans (by decide)
    refine va_sld hx hb hX hbl hbA hS (by unfold vp_in; decide) dL_law_220 ?_
    refine lv_topi (fun x_21 ex_21 => ?_)
    obtain rfl : x_21 = sc 4 := ex_21.trans (congrArg sc (by decide))
    refine lv_aload_n hx hb dL_law_221 rfl (lv_at hl 6 rfl) ?_
    refine lv_iload hx hb dL_law_222 (lv_at hl 1 rfl) ?_
    refine lv_iconst (v := 5) hx hb dL_law_224 (by decide) ?_
    refine lv_iadd hx hb dL_law_225 ?_
    refine lv_topi (fun x_22 ex_22 => ?_)
    obtain rfl : x_22 = 5 := ex_22.trans (by decide)
    refine va_sld hx hb hX hbl hbA hS (by unfold vp_in; decide) dL_law_226 ?_
    refine lv_topi (fun x_23 ex_23 => ?_)
    obtain rfl : x_23 = sc 5 := ex_23.trans (congrArg sc (by decide))
    refine lv_aload_n hx hb dL_law_227 rfl (lv_at hl 6 rfl) ?_
    refine lv_iload hx hb dL_law_228 (lv_at hl 1 rfl) ?_
    refine lv_bipush (v := 6) hx hb dL_law_230 (by decide) ?_
    refine lv_iadd hx hb dL_law_232 ?_
    refine lv_topi (fun x_24 ex_24 => ?_)
    obtain rfl : x_24 = 6 := ex_24.trans (by decide)
    refine va_sld hx hb hX hbl hbA hS (by unfold vp_in; decide) dL_law_233 ?_
    refine lv_topi (fun x_25 ex_25 => ?_)
    obtain rfl : x_25 = sc 6 := ex_25.trans (congrArg sc (by decide))
    refine kV_i (As := [.int (sc 1), .int (sc 2), .int (sc 3), .int (sc 4), .int (sc 5), .int (sc 6)]) (rest := []) (wr := [(xb, .inr (3, [.ref xt, .ref xp, .ref xs, .int 0])), (xt, .inr (1, [.int 0, .ref e0, .int 0])), (xp, .inl (cxp, 36, .inl (fun _ => 0))), (xs, .inl (cxs, 36, .inl g)), (xo, .inr (1, [.int 0, .ref e0, .int 0])), (xa, .inr (2, [.int 0, .int 0, .int 0, .null, .int 0, .double 0])), (mt, .inr (1, [.int 0, .ref e0, .int 0])), (mb, .inr (1, [.int 0, .ref e0, .int 0])), (od, .inl (cod, 1, .inr (.inr (.inr (.inl (fun _ => 0)))))), (o, .inl (co, 1, .inr (.inl uo)))]) ⟨hx, hb, hml, hown, hts⟩ (c_m_kind l D e0 _ mm mk9 mt mb (sc 1) (sc 2) (sc 3) (sc 4) (sc 5) (sc 6)) (cwV 6 hts gL_law_X9_kind rfl rfl rfl (by decide +kernel) ⟨Nat.le_of_ble_eq_true rfl, Nat.le_of_ble_eq_true rfl⟩) hP hD hK hS hA hE rfl [6, 7] [0, 1, 2, 3, 4, 5, 8, 9, 10, 11] [] rfl rfl (by decide) (by decide) (by decide) rfl 11 6 rfl rfl rfl rfl hl.1 (Nat.le_of_ble_eq_true rfl) dL_law_234 ⟨Nat.le_of_ble_eq_true rfl, Nat.le_of_ble_eq_true rfl⟩ (fun r_26 u9 H locs hw hP hD hK hS => ?_)
    obtain ⟨ut, hut⟩ : ∃ z : Int32, z = u9 := ⟨_, rfl⟩
    rw [← hut] at hw hP hD
    obtain ⟨hm1, hm2⟩ : r_26 = 0 ∧ ut = 0 := ⟨hw.1, hw.2.trans hq0⟩
    subst hm1
    subst hm2
    have hP : va_P D vwCl [(xb, .inr (3, [.ref xt, .ref xp, .ref xs, .int 0])), (xt, .inr (1, [.int 0, .ref e0, .int 0])), (xp, .inl (cxp, 36, .inl (fun _ => 0))), (xs, .inl (cxs, 36, .inl g)), (xo, .inr (1, [.int 0, .ref e0, .int 0])), (xa, .inr (2, [.int 0, .int 0, .int 0, .null, .int 0, .double 0])), (mt, .inr (1, [.int 0, .ref e0, .int 0])), (mb, .inr (1, [.int 0, .ref e0, .int 0])), (od, .inl (cod, 1, .inr (.inr (.inr (.inl (fun _ => 0)))))), (o, .inl (co, 1, .inr (.inl uo))), (mm, .inr (11, [.int 0, .ref mk9, .ref mt, .ref mb, .int 0, .int 0, .int 0, .int 0, .null, .int 0, .int 0, .double 0, .int 0, .int 0, .int 0]))] H := hP
    have hD : va_D A [(xb, .inr (3, [.ref xt, .ref xp, .ref xs, .int 0])), (xt, .inr (1, [.int 0, .ref e0, .int 0])), (xp, .inl (cxp, 36, .inl (fun _ => 0))), (xs, .inl (cxs, 36, .inl g)), (xo, .inr (1, [.int 0, .ref e0, .int 0])), (xa, .inr (2, [.int 0, .int 0, .int 0, .null, .int 0, .double 0])), (mt, .inr (1, [.int 0, .ref e0, .int 0])), (mb, .inr (1, [.int 0, .ref e0, .int 0])), (od, .inl (cod, 1, .inr (.inr (.inr (.inl (fun _ => 0)))))), (o, .inl (co, 1, .inr (.inl uo))), (mm, .inr (11, [.int 0, .ref mk9, .ref mt, .ref mb, .int 0, .int 0, .int 0, .int 0, .null, .int 0, .int 0, .double 0, .int 0, .int 0, .int 0]))] := hD
    have hK : va_K D vwCl [(cxp, .int), (cxs, .int), (co, .long), (cod, .double)] s := hK
    refine lv_istore (lv' := [(7, .int 0), (6, .int 0), (5, .int 0), (4, .ref od), (3, .ref o), (2, .ref mm), (1, .ref x), (0, .ref b)]) hx hb dL_law_237 hl (by decide) rfl (fun ls hl => ?_)
    refine lv_aload_n hx hb dL_law_239 rfl (lv_at hl 5 rfl) ?_
    refine kV_i (As := []) (rest := []) (wr := [(xb, .inr (3, [.ref xt, .ref xp, .ref xs, .int 0])), (xt, .inr (1, [.int 0, .ref e0, .int 0])), (xp, .inl (cxp, 36, .inl (fun _ => 0))), (xs, .inl (cxs, 36, .inl g)), (xo, .inr (1, [.int 0, .ref e0, .int 0])), (xa, .inr (2, [.int 0, .int 0, .int 0, .null, .int 0, .double 0])), (mt, .inr (1, [.int 0, .ref e0, .int 0])), (mb, .inr (1, [.int 0, .ref e0, .int 0])), (od, .inl (cod, 1, .inr (.inr (.inr (.inl (fun _ => 0)))))), (o, .inl (co, 1, .inr (.inl uo)))]) ⟨hx, hb, hml, hown, hts⟩ (c_thrown l D e0 _ mm mk9 mt mb 0) (cwV 0 hts gL_law_X9_thrown rfl rfl rfl (by decide +kernel) ⟨Nat.le_of_ble_eq_true rfl, Nat.le_of_ble_eq_true rfl⟩) hP hD hK hS hA hE rfl [10] [0, 1, 2, 3, 4, 5, 6, 7, 8, 9] [] rfl rfl (by decide) (by decide) (by decide) rfl 11 10 rfl rfl rfl rfl hl.1 (Nat.le_of_ble_eq_true rfl) dL_law_240 ⟨Nat.le_of_ble_eq_true rfl, Nat.le_of_ble_eq_true rfl⟩ (fun r_27 u9 H locs hw hP hD hK hS => ?_)
    have hw : r_27 = 0 := hw
    subst hw
    have hP : va_P D vwCl [(xb, .inr (3, [.ref xt, .ref xp, .ref xs, .int 0])), (xt, .inr (1, [.int 0, .ref e0, .int 0])), (xp, .inl (cxp, 36, .inl (fun _ => 0))), (xs, .inl (cxs, 36, .inl g)), (xo, .inr (1, [.int 0, .ref e0, .int 0])), (xa, .inr (2, [.int 0, .int 0, .int 0, .null, .int 0, .double 0])), (mt, .inr (1, [.int 0, .ref e0, .int 0])), (mb, .inr (1, [.int 0, .ref e0, .int 0])), (od, .inl (cod, 1, .inr (.inr (.inr (.inl (fun _ => 0)))))), (o, .inl (co, 1, .inr (.inl uo))), (mm, .inr (11, [.int 0, .ref mk9, .ref mt, .ref mb, .int 0, .int 0, .int 0, .int 0, .null, .int 0, .int 0, .double 0, .int 0, .int 0, .int 0]))] H := hP
    have hD : va_D A [(xb, .inr (3, [.ref xt, .ref xp, .ref xs, .int 0])), (xt, .inr (1, [.int 0, .ref e0, .int 0])), (xp, .inl (cxp, 36, .inl (fun _ => 0))), (xs, .inl (cxs, 36, .inl g)), (xo, .inr (1, [.int 0, .ref e0, .int 0])), (xa, .inr (2, [.int 0, .int 0, .int 0, .null, .int 0, .double 0])), (mt, .inr (1, [.int 0, .ref e0, .int 0])), (mb, .inr (1, [.int 0, .ref e0, .int 0])), (od, .inl (cod, 1, .inr (.inr (.inr (.inl (fun _ => 0)))))), (o, .inl (co, 1, .inr (.inl uo))), (mm, .inr (11, [.int 0, .ref mk9, .ref mt, .ref mb, .int 0, .int 0, .int 0, .int 0, .null, .int 0, .int 0, .double 0, .int 0, .int 0, .int 0]))] := hD
    have hK : va_K D vwCl [(cxp, .int), (cxs, .int), (co, .long), (cod, .double)] s := hK
    refine lv_iload hx hb dL_law_243 (lv_at hl 1 rfl) ?_
    refine lv_icmp_eq (tgt := 250) hx hb dL_law_245 (by decide) (fun _ => ?_) (fun h9 => absurd (by decide) h9)
    refine lv_iload hx hb dL_law_250 (lv_at hl 1 rfl) ?_
    refine lv_if_ne (tgt := 267) hx hb dL_law_252 (by decide) (fun h9 => absurd (by decide) h9) (fun _ => ?_)
    refine lv_aload_n hx hb dL_law_255 rfl (lv_at hl 4 rfl) ?_
    refine lv_iconst (v := 0) hx hb dL_law_256 (by decide) ?_
    refine va_lald hx hb hK hP 9 2 rfl rfl (by unfold vp_in; decide) dL_law_257 ?_
    refine lv_topl (fun x_28 ex_28 => ?_)
    obtain rfl : x_28 = 0 := ex_28.trans ((congrArg uo (by decide)).trans huv)
    refine lv_iload hx hb dL_law_258 (lv_at hl 0 rfl) ?_
    refine lv_i2l (v := 0) hx hb dL_law_260 (by decide) ?_
    refine W.lcmp hx hb dL_law_261 ?_
    refine lv_topi (fun x_29 ex_29 => ?_)
    obtain rfl : x_29 = 0 := ex_29.trans (by decide)
    refine lv_if_eq (tgt := 267) hx hb dL_law_262 (by decide) (fun _ => ?_) (fun h9 => absurd (by decide) h9)
    refine lv_goto (tgt := 1632) hx hb dL_law_267 (by decide) ?_
    exact law_tail hx hb hr hlocks hX hbl hbA hAs hS (Nat.le_of_ble_eq_true rfl) (Nat.le_of_ble_eq_true rfl) (lv_sub hl [2, 7] rfl)
  · have hq1 : kdT (sc 1) (sc 2) (sc 3) (sc 4) (sc 5) (sc 6) = 1 := kd_or hq0
    refine lv_aload_n hx hb dL_law_152 rfl (lv_at hl 4 rfl) ?_
    refine lv_aload_n hx hb dL_law_153 rfl (lv_at hl 5 rfl) ?_
    refine lv_iload hx hb dL_law_154 (lv_at hl 0 rfl) ?_
    refine lv_iconst (v := 1) hx hb dL_law_156 (by decide) ?_
    refine lv_iadd hx hb dL_law_157 ?_
    refine lv_topi (fun x_1 ex_1 => ?_)
    obtain rfl : x_1 = 1 := ex_1.trans (by decide)
    refine va_sld hx hb hX hbl hbA hS (by unfold vp_in; decide) dL_law_158 ?_
    refine lv_topi (fun x_2 ex_2 => ?_)
    obtain rfl : x_2 = sc 1 := ex_2.trans (congrArg sc (by decide))
    refine lv_aload_n hx hb dL_law_159 rfl (lv_at hl 5 rfl) ?_
    refine lv_iload hx hb dL_law_160 (lv_at hl 0 rfl) ?_
    refine lv_iconst (v := 2) hx hb dL_law_162 (by decide) ?_
    refine lv_iadd hx hb dL_law_163 ?_
    refine lv_topi (fun x_3 ex_3 => ?_)
    obtain rfl : x_3 = 2 := ex_3.trans (by decide)
    refine va_sld hx hb hX hbl hbA hS (by unfold vp_in; decide) dL_law_164 ?_
    refine lv_topi (fun x_4 ex_4 => ?_)
    obtain rfl : x_4 = sc 2 := ex_4.trans (congrArg sc (by decide))
    refine lv_aload_n hx hb dL_law_165 rfl (lv_at hl 5 rfl) ?_
    refine lv_iload hx hb dL_law_166 (lv_at hl 0 rfl) ?_
    refine lv_iconst (v := 3) hx hb dL_law_168 (by decide) ?_
    refine lv_iadd hx hb dL_law_169 ?_
    refine lv_topi (fun x_5 ex_5 => ?_)
    obtain rfl : x_5 = 3 := ex_5.trans (by decide)
    refine va_sld hx hb hX hbl hbA hS (by unfold vp_in; decide) dL_law_170 ?_
    refine lv_topi (fun x_6 ex_6 => ?_)
    obtain rfl : x_6 = sc 3 := ex_6.trans (congrArg sc (by decide))
    refine lv_aload_n hx hb dL_law_171 rfl (lv_at hl 5 rfl) ?_
    refine lv_iload hx hb dL_law_172 (lv_at hl 0 rfl) ?_
    refine lv_iconst (v := 4) hx hb dL_law_174 (by decide) ?_
    refine lv_iadd hx hb dL_law_175 ?_
    refine lv_topi (fun x_7 ex_7 => ?_)
    obtain rfl : x_7 = 4 := ex_7.trans (by decide)
    refine va_sld hx hb hX hbl hbA hS (by unfold vp_in; decide) dL_law_176 ?_
    refine lv_topi (fun x_8 ex_8 => ?_)
    obtain rfl : x_8 = sc 4 := ex_8.trans (congrArg sc (by decide))
    refine lv_aload_n hx hb dL_law_177 rfl (lv_at hl 5 rfl) ?_
    refine lv_iload hx hb dL_law_178 (lv_at hl 0 rfl) ?_
    refine lv_iconst (v := 5) hx hb dL_law_180 (by decide) ?_
    refine lv_iadd hx hb dL_law_181 ?_
    refine lv_topi (fun x_9 ex_9 => ?_)
    obtain rfl : x_9 = 5 := ex_9.trans (by decide)
    refine va_sld hx hb hX hbl hbA hS (by unfold vp_in; decide) dL_law_182 ?_
    refine lv_topi (fun x_10 ex_10 => ?_)
    obtain rfl : x_10 = sc 5 := ex_10.trans (congrArg sc (by decide))
    refine lv_aload_n hx hb dL_law_183 rfl (lv_at hl 5 rfl) ?_
    refine lv_iload hx hb dL_law_184 (lv_at hl 0 rfl) ?_
    refine lv_bipush (v := 6) hx hb dL_law_186 (by decide) ?_
    refine lv_iadd hx hb dL_law_188 ?_
    refine lv_topi (fun x_11 ex_11 => ?_)
    obtain rfl : x_11 = 6 := ex_11.trans (by decide)
    refine va_sld hx hb hX hbl hbA hS (by unfold vp_in; decide) dL_law_189 ?_
    refine lv_topi (fun x_12 ex_12 => ?_)
    obtain rfl : x_12 = sc 6 := ex_12.trans (congrArg sc (by decide))
    refine lv_aload_n hx hb dL_law_190 rfl (lv_at hl 2 rfl) ?_
    refine kSW_i (As := [.ref x, .int (sc 1), .int (sc 2), .int (sc 3), .int (sc 4), .int (sc 5), .int (sc 6), .ref o]) (rest := []) (wr := [(xb, .inr (3, [.ref xt, .ref xp, .ref xs, .int 0])), (xt, .inr (1, [.int 0, .ref e0, .int 0])), (xp, .inl (cxp, 36, .inl (fun _ => 0))), (xs, .inl (cxs, 36, .inl g)), (xo, .inr (1, [.int 0, .ref e0, .int 0])), (xa, .inr (2, [.int 0, .int 0, .int 0, .null, .int 0, .double 0])), (mm, .inr (11, [.int 0, .ref mk9, .ref mt, .ref mb, .int 0, .int 0, .int 0, .int 0, .null, .int 0, .int 0, .double 0, .int 0, .int 0, .int 0])), (mk9, .inr (1, [.int 0, .ref e0, .int 0])), (mt, .inr (1, [.int 0, .ref e0, .int 0])), (mb, .inr (1, [.int 0, .ref e0, .int 0])), (od, .inl (cod, 1, .inr (.inr (.inr (.inl (fun _ => 0))))))]) ⟨hx, hb, hml, hown, hts⟩ (c_w_kind l hl9 D e0 _ x xk xb xo xa 0 o co (fun _ => 0) (sc 1) (sc 2) (sc 3) (sc 4) (sc 5) (sc 6)) (vx_cwSW 8 hts gL_law_L_kind rfl rfl rfl (by decide +kernel) ⟨Nat.le_of_ble_eq_true rfl, Nat.le_of_ble_eq_true rfl⟩) hP hD hK hS hA hE rfl [0, 1, 12] [2, 3, 4, 5, 6, 7, 8, 9, 10, 11, 13] [2] rfl rfl (by decide) (by decide) (by decide) rfl rfl hl.1 (Nat.le_of_ble_eq_true rfl) dL_law_191 ⟨Nat.le_of_ble_eq_true rfl, Nat.le_of_ble_eq_true rfl⟩ (fun r_13 u9 H locs hw hP hD hK hS => ?_)
    obtain ⟨uo, huo⟩ : ∃ z : Nat → Int64, z = u9 := ⟨_, rfl⟩
    rw [← huo] at hw hP hD
    have hw : r_13 = 1 := hw.elim (fun h => absurd h.1 hq0) (fun h => h.2)
    subst hw
    have hP : va_P D vwCl [(xb, .inr (3, [.ref xt, .ref xp, .ref xs, .int 0])), (xt, .inr (1, [.int 0, .ref e0, .int 0])), (xp, .inl (cxp, 36, .inl (fun _ => 0))), (xs, .inl (cxs, 36, .inl g)), (xo, .inr (1, [.int 0, .ref e0, .int 0])), (xa, .inr (2, [.int 0, .int 0, .int 0, .null, .int 0, .double 0])), (mm, .inr (11, [.int 0, .ref mk9, .ref mt, .ref mb, .int 0, .int 0, .int 0, .int 0, .null, .int 0, .int 0, .double 0, .int 0, .int 0, .int 0])), (mk9, .inr (1, [.int 0, .ref e0, .int 0])), (mt, .inr (1, [.int 0, .ref e0, .int 0])), (mb, .inr (1, [.int 0, .ref e0, .int 0])), (od, .inl (cod, 1, .inr (.inr (.inr (.inl (fun _ => 0)))))), (o, .inl (co, 1, .inr (.inl uo)))] H := hP
    have hD : va_D A [(xb, .inr (3, [.ref xt, .ref xp, .ref xs, .int 0])), (xt, .inr (1, [.int 0, .ref e0, .int 0])), (xp, .inl (cxp, 36, .inl (fun _ => 0))), (xs, .inl (cxs, 36, .inl g)), (xo, .inr (1, [.int 0, .ref e0, .int 0])), (xa, .inr (2, [.int 0, .int 0, .int 0, .null, .int 0, .double 0])), (mm, .inr (11, [.int 0, .ref mk9, .ref mt, .ref mb, .int 0, .int 0, .int 0, .int 0, .null, .int 0, .int 0, .double 0, .int 0, .int 0, .int 0])), (mk9, .inr (1, [.int 0, .ref e0, .int 0])), (mt, .inr (1, [.int 0, .ref e0, .int 0])), (mb, .inr (1, [.int 0, .ref e0, .int 0])), (od, .inl (cod, 1, .inr (.inr (.inr (.inl (fun _ => 0)))))), (o, .inl (co, 1, .inr (.inl uo)))] := hD
    have hK : va_K D vwCl [(cxp, .int), (cxs, .int), (co, .long), (cod, .double)] s := hK
    refine lv_istore (lv' := [(6, .int 1), (5, .int 0), (4, .ref od), (3, .ref o), (2, .ref mm), (1, .ref x), (0, .ref b)]) hx hb dL_law_194 hl (by decide) rfl (fun ls hl => ?_)
    refine lv_aload_n hx hb dL_law_196 rfl (lv_at hl 4 rfl) ?_
    refine lv_aload_n hx hb dL_law_197 rfl (lv_at hl 6 rfl) ?_
    refine lv_iload hx hb dL_law_198 (lv_at hl 1 rfl) ?_
    refine lv_iconst (v := 1) hx hb dL_law_200 (by decide) ?_
    refine lv_iadd hx hb dL_law_201 ?_
    refine lv_topi (fun x_14 ex_14 => ?_)
    obtain rfl : x_14 = 1 := ex_14.trans (by decide)
    refine va_sld hx hb hX hbl hbA hS (by unfold vp_in; decide) dL_law_202 ?_
    refine lv_topi (fun x_15 ex_15 => ?_)
    obtain rfl : x_15 = sc 1 := ex_15.trans (congrArg sc (by decide))
    refine lv_aload_n hx hb dL_law_203 rfl (lv_at hl 6 rfl) ?_
    refine lv_iload hx hb dL_law_204 (lv_at hl 1 rfl) ?_
    refine lv_iconst (v := 2) hx hb dL_law_206 (by decide) ?_
    refine lv_iadd hx hb dL_law_207 ?_
    refine lv_topi (fun x_16 ex_16 => ?_)
    obtain rfl : x_16 = 2 := ex_16.trans (by decide)
    refine va_sld hx hb hX hbl hbA hS (by unfold vp_in; decide) dL_law_208 ?_
    refine lv_topi (fun x_17 ex_17 => ?_)
    obtain rfl : x_17 = sc 2 := ex_17.trans (congrArg sc (by decide))
    refine lv_aload_n hx hb dL_law_209 rfl (lv_at hl 6 rfl) ?_
    refine lv_iload hx hb dL_law_210 (lv_at hl 1 rfl) ?_
    refine lv_iconst (v := 3) hx hb dL_law_212 (by decide) ?_
    refine lv_iadd hx hb dL_law_213 ?_
    refine lv_topi (fun x_18 ex_18 => ?_)
    obtain rfl : x_18 = 3 := ex_18.trans (by decide)
    refine va_sld hx hb hX hbl hbA hS (by unfold vp_in; decide) dL_law_214 ?_
    refine lv_topi (fun x_19 ex_19 => ?_)
    obtain rfl : x_19 = sc 3 := ex_19.trans (congrArg sc (by decide))
    refine lv_aload_n hx hb dL_law_215 rfl (lv_at hl 6 rfl) ?_
    refine lv_iload hx hb dL_law_216 (lv_at hl 1 rfl) ?_
    refine lv_iconst (v := 4) hx hb dL_law_218 (by decide) ?_
    refine lv_iadd hx hb dL_law_219 ?_
    refine lv_topi (fun x_20 ex_20 => ?_)
    obtain rfl : x_20 = 4 := ex_20.trans (by decide)
    refine va_sld hx hb hX hbl hbA hS (by unfold vp_in; decide) dL_law_220 ?_
    refine lv_topi (fun x_21 ex_21 => ?_)
    obtain rfl : x_21 = sc 4 := ex_21.trans (congrArg sc (by decide))
    refine lv_aload_n hx hb dL_law_221 rfl (lv_at hl 6 rfl) ?_
    refine lv_iload hx hb dL_law_222 (lv_at hl 1 rfl) ?_
    refine lv_iconst (v := 5) hx hb dL_law_224 (by decide) ?_
    refine lv_iadd hx hb dL_law_225 ?_
    refine lv_topi (fun x_22 ex_22 => ?_)
    obtain rfl : x_22 = 5 := ex_22.trans (by decide)
    refine va_sld hx hb hX hbl hbA hS (by unfold vp_in; decide) dL_law_226 ?_
    refine lv_topi (fun x_23 ex_23 => ?_)
    obtain rfl : x_23 = sc 5 := ex_23.trans (congrArg sc (by decide))
    refine lv_aload_n hx hb dL_law_227 rfl (lv_at hl 6 rfl) ?_
    refine lv_iload hx hb dL_law_228 (lv_at hl 1 rfl) ?_
    refine lv_bipush (v := 6) hx hb dL_law_230 (by decide) ?_
    refine lv_iadd hx hb dL_law_232 ?_
    refine lv_topi (fun x_24 ex_24 => ?_)
    obtain rfl : x_24 = 6 := ex_24.trans (by decide)
    refine va_sld hx hb hX hbl hbA hS (by unfold vp_in; decide) dL_law_233 ?_
    refine lv_topi (fun x_25 ex_25 => ?_)
    obtain rfl : x_25 = sc 6 := ex_25.trans (congrArg sc (by decide))
    refine kV_i (As := [.int (sc 1), .int (sc 2), .int (sc 3), .int (sc 4), .int (sc 5), .int (sc 6)]) (rest := []) (wr := [(xb, .inr (3, [.ref xt, .ref xp, .ref xs, .int 0])), (xt, .inr (1, [.int 0, .ref e0, .int 0])), (xp, .inl (cxp, 36, .inl (fun _ => 0))), (xs, .inl (cxs, 36, .inl g)), (xo, .inr (1, [.int 0, .ref e0, .int 0])), (xa, .inr (2, [.int 0, .int 0, .int 0, .null, .int 0, .double 0])), (mt, .inr (1, [.int 0, .ref e0, .int 0])), (mb, .inr (1, [.int 0, .ref e0, .int 0])), (od, .inl (cod, 1, .inr (.inr (.inr (.inl (fun _ => 0)))))), (o, .inl (co, 1, .inr (.inl uo)))]) ⟨hx, hb, hml, hown, hts⟩ (c_m_kind l D e0 _ mm mk9 mt mb (sc 1) (sc 2) (sc 3) (sc 4) (sc 5) (sc 6)) (cwV 6 hts gL_law_X9_kind rfl rfl rfl (by decide +kernel) ⟨Nat.le_of_ble_eq_true rfl, Nat.le_of_ble_eq_true rfl⟩) hP hD hK hS hA hE rfl [6, 7] [0, 1, 2, 3, 4, 5, 8, 9, 10, 11] [] rfl rfl (by decide) (by decide) (by decide) rfl 11 6 rfl rfl rfl rfl hl.1 (Nat.le_of_ble_eq_true rfl) dL_law_234 ⟨Nat.le_of_ble_eq_true rfl, Nat.le_of_ble_eq_true rfl⟩ (fun r_26 u9 H locs hw hP hD hK hS => ?_)
    obtain ⟨ut, hut⟩ : ∃ z : Int32, z = u9 := ⟨_, rfl⟩
    rw [← hut] at hw hP hD
    obtain ⟨hm1, hm2⟩ : r_26 = 0 ∧ ut = 1 := ⟨hw.1, hw.2.trans hq1⟩
    subst hm1
    subst hm2
    have hP : va_P D vwCl [(xb, .inr (3, [.ref xt, .ref xp, .ref xs, .int 0])), (xt, .inr (1, [.int 0, .ref e0, .int 0])), (xp, .inl (cxp, 36, .inl (fun _ => 0))), (xs, .inl (cxs, 36, .inl g)), (xo, .inr (1, [.int 0, .ref e0, .int 0])), (xa, .inr (2, [.int 0, .int 0, .int 0, .null, .int 0, .double 0])), (mt, .inr (1, [.int 0, .ref e0, .int 0])), (mb, .inr (1, [.int 0, .ref e0, .int 0])), (od, .inl (cod, 1, .inr (.inr (.inr (.inl (fun _ => 0)))))), (o, .inl (co, 1, .inr (.inl uo))), (mm, .inr (11, [.int 1, .ref mk9, .ref mt, .ref mb, .int 0, .int 0, .int 0, .int 0, .null, .int 0, .int 0, .double 0, .int 0, .int 0, .int 0]))] H := hP
    have hD : va_D A [(xb, .inr (3, [.ref xt, .ref xp, .ref xs, .int 0])), (xt, .inr (1, [.int 0, .ref e0, .int 0])), (xp, .inl (cxp, 36, .inl (fun _ => 0))), (xs, .inl (cxs, 36, .inl g)), (xo, .inr (1, [.int 0, .ref e0, .int 0])), (xa, .inr (2, [.int 0, .int 0, .int 0, .null, .int 0, .double 0])), (mt, .inr (1, [.int 0, .ref e0, .int 0])), (mb, .inr (1, [.int 0, .ref e0, .int 0])), (od, .inl (cod, 1, .inr (.inr (.inr (.inl (fun _ => 0)))))), (o, .inl (co, 1, .inr (.inl uo))), (mm, .inr (11, [.int 1, .ref mk9, .ref mt, .ref mb, .int 0, .int 0, .int 0, .int 0, .null, .int 0, .int 0, .double 0, .int 0, .int 0, .int 0]))] := hD
    have hK : va_K D vwCl [(cxp, .int), (cxs, .int), (co, .long), (cod, .double)] s := hK
    refine lv_istore (lv' := [(7, .int 0), (6, .int 1), (5, .int 0), (4, .ref od), (3, .ref o), (2, .ref mm), (1, .ref x), (0, .ref b)]) hx hb dL_law_237 hl (by decide) rfl (fun ls hl => ?_)
    refine lv_aload_n hx hb dL_law_239 rfl (lv_at hl 5 rfl) ?_
    refine kV_i (As := []) (rest := []) (wr := [(xb, .inr (3, [.ref xt, .ref xp, .ref xs, .int 0])), (xt, .inr (1, [.int 0, .ref e0, .int 0])), (xp, .inl (cxp, 36, .inl (fun _ => 0))), (xs, .inl (cxs, 36, .inl g)), (xo, .inr (1, [.int 0, .ref e0, .int 0])), (xa, .inr (2, [.int 0, .int 0, .int 0, .null, .int 0, .double 0])), (mt, .inr (1, [.int 0, .ref e0, .int 0])), (mb, .inr (1, [.int 0, .ref e0, .int 0])), (od, .inl (cod, 1, .inr (.inr (.inr (.inl (fun _ => 0)))))), (o, .inl (co, 1, .inr (.inl uo)))]) ⟨hx, hb, hml, hown, hts⟩ (c_thrown l D e0 _ mm mk9 mt mb 1) (cwV 0 hts gL_law_X9_thrown rfl rfl rfl (by decide +kernel) ⟨Nat.le_of_ble_eq_true rfl, Nat.le_of_ble_eq_true rfl⟩) hP hD hK hS hA hE rfl [10] [0, 1, 2, 3, 4, 5, 6, 7, 8, 9] [] rfl rfl (by decide) (by decide) (by decide) rfl 11 10 rfl rfl rfl rfl hl.1 (Nat.le_of_ble_eq_true rfl) dL_law_240 ⟨Nat.le_of_ble_eq_true rfl, Nat.le_of_ble_eq_true rfl⟩ (fun r_27 u9 H locs hw hP hD hK hS => ?_)
    have hw : r_27 = 1 := hw
    subst hw
    have hP : va_P D vwCl [(xb, .inr (3, [.ref xt, .ref xp, .ref xs, .int 0])), (xt, .inr (1, [.int 0, .ref e0, .int 0])), (xp, .inl (cxp, 36, .inl (fun _ => 0))), (xs, .inl (cxs, 36, .inl g)), (xo, .inr (1, [.int 0, .ref e0, .int 0])), (xa, .inr (2, [.int 0, .int 0, .int 0, .null, .int 0, .double 0])), (mt, .inr (1, [.int 0, .ref e0, .int 0])), (mb, .inr (1, [.int 0, .ref e0, .int 0])), (od, .inl (cod, 1, .inr (.inr (.inr (.inl (fun _ => 0)))))), (o, .inl (co, 1, .inr (.inl uo))), (mm, .inr (11, [.int 1, .ref mk9, .ref mt, .ref mb, .int 0, .int 0, .int 0, .int 0, .null, .int 0, .int 0, .double 0, .int 0, .int 0, .int 0]))] H := hP
    have hD : va_D A [(xb, .inr (3, [.ref xt, .ref xp, .ref xs, .int 0])), (xt, .inr (1, [.int 0, .ref e0, .int 0])), (xp, .inl (cxp, 36, .inl (fun _ => 0))), (xs, .inl (cxs, 36, .inl g)), (xo, .inr (1, [.int 0, .ref e0, .int 0])), (xa, .inr (2, [.int 0, .int 0, .int 0, .null, .int 0, .double 0])), (mt, .inr (1, [.int 0, .ref e0, .int 0])), (mb, .inr (1, [.int 0, .ref e0, .int 0])), (od, .inl (cod, 1, .inr (.inr (.inr (.inl (fun _ => 0)))))), (o, .inl (co, 1, .inr (.inl uo))), (mm, .inr (11, [.int 1, .ref mk9, .ref mt, .ref mb, .int 0, .int 0, .int 0, .int 0, .null, .int 0, .int 0, .double 0, .int 0, .int 0, .int 0]))] := hD
    have hK : va_K D vwCl [(cxp, .int), (cxs, .int), (co, .long), (cod, .double)] s := hK
    refine lv_iload hx hb dL_law_243 (lv_at hl 1 rfl) ?_
    refine lv_icmp_eq (tgt := 250) hx hb dL_law_245 (by decide) (fun _ => ?_) (fun h9 => absurd (by decide) h9)
    refine lv_iload hx hb dL_law_250 (lv_at hl 1 rfl) ?_
    refine lv_if_ne (tgt := 267) hx hb dL_law_252 (by decide) (fun _ => ?_) (fun h9 => absurd h9 (by decide))
    refine lv_goto (tgt := 1632) hx hb dL_law_267 (by decide) ?_
    exact law_tail hx hb hr hlocks hX hbl hbA hAs hS (Nat.le_of_ble_eq_true rfl) (Nat.le_of_ble_eq_true rfl) (lv_sub hl [2, 7] rfl)
set_option maxHeartbeats 4000000 in
set_option maxRecDepth 100000 in
theorem law_case_1 {p : Program} {l : Launch} {e : Env} {s : State} {m : MethodId} {below : List Frame} {meth : Method} {c : Code} {b : Nat} {sc : Nat → Int32} {A : Nat → Prop} {H : Heap} {locs : List Loc} {ls : Array Slot} {D : va_G} {e0 x xk xb xt xp xs xo xa mm mk9 mt mb o od : Nat} {cxp cxs co cod : ClassId} {g : Nat → Int32} (hl9 : l.stackTraces = false) (hx : p.tables.exec = Jvm.exec) (hb : c.code = cL_law) (hr : meth.sig.returnType = ret) (hlocks : meth.locks = false) (hX : va_X b 7 sc s s.heap) (hbl : b < s.heap.size) (hbA : ¬ A b) (hAs : ∀ q, A q → s.heap.size ≤ q) (hS : va_S A s.heap H locs) (hml : c.maxLocals = 10) (hown : s.vm.findClass RL = some m.cls) (hts0 : ∀ w ∈ lw_tbl, w.before #[Value.ref b] s = true) (hts : ∀ w ∈ wsL_law, w.before #[Value.ref b] s = true) (hA : ∀ q, s.heap.size ≤ q → A q) (hE : EV e0 A s s.heap) (hg : ∀ j, j < 36 → g j = -1) (hP : va_P D vwCl [(x, .inr (7, [.ref xk, .ref xb, .ref xo, .ref xa, .int 0, .int 0, .int 0, .int 0])), (xk, .inr (1, [.int 0, .ref e0, .int 0])), (xb, .inr (3, [.ref xt, .ref xp, .ref xs, .int 0])), (xt, .inr (1, [.int 0, .ref e0, .int 0])), (xp, .inl (cxp, 36, .inl (fun _ => 0))), (xs, .inl (cxs, 36, .inl g)), (xo, .inr (1, [.int 0, .ref e0, .int 0])), (xa, .inr (2, [.int 0, .int 0, .int 0, .null, .int 0, .double 0])), (mm, .inr (11, [.int 0, .ref mk9, .ref mt, .ref mb, .int 0, .int 0, .int 0, .int 0, .null, .int 0, .int 0, .double 0, .int 0, .int 0, .int 0])), (mk9, .inr (1, [.int 0, .ref e0, .int 0])), (mt, .inr (1, [.int 0, .ref e0, .int 0])), (mb, .inr (1, [.int 0, .ref e0, .int 0])), (o, .inl (co, 1, .inr (.inl (fun _ => 0)))), (od, .inl (cod, 1, .inr (.inr (.inr (.inl (fun _ => 0))))))] H) (hD : va_D A [(x, .inr (7, [.ref xk, .ref xb, .ref xo, .ref xa, .int 0, .int 0, .int 0, .int 0])), (xk, .inr (1, [.int 0, .ref e0, .int 0])), (xb, .inr (3, [.ref xt, .ref xp, .ref xs, .int 0])), (xt, .inr (1, [.int 0, .ref e0, .int 0])), (xp, .inl (cxp, 36, .inl (fun _ => 0))), (xs, .inl (cxs, 36, .inl g)), (xo, .inr (1, [.int 0, .ref e0, .int 0])), (xa, .inr (2, [.int 0, .int 0, .int 0, .null, .int 0, .double 0])), (mm, .inr (11, [.int 0, .ref mk9, .ref mt, .ref mb, .int 0, .int 0, .int 0, .int 0, .null, .int 0, .int 0, .double 0, .int 0, .int 0, .int 0])), (mk9, .inr (1, [.int 0, .ref e0, .int 0])), (mt, .inr (1, [.int 0, .ref e0, .int 0])), (mb, .inr (1, [.int 0, .ref e0, .int 0])), (o, .inl (co, 1, .inr (.inl (fun _ => 0)))), (od, .inl (cod, 1, .inr (.inr (.inr (.inl (fun _ => 0))))))]) (hK : va_K D vwCl [(cxp, .int), (cxs, .int), (co, .long), (cod, .double)] s) (hl : lv_has ls 10 [(5, .int 0), (4, .ref od), (3, .ref o), (2, .ref mm), (1, .ref x), (0, .ref b)]) : W p l e room_1 s m #[Value.ref b] below meth c H locs 14 125 (lw_Z below #[Value.ref b] s) (F0 m 270 ls []) := by
  refine lv_aload_n hx hb dL_law_270 rfl (lv_at hl 4 rfl) ?_
  refine lv_aload_n hx hb dL_law_271 rfl (lv_at hl 5 rfl) ?_
  refine lv_iload hx hb dL_law_272 (lv_at hl 0 rfl) ?_
  refine lv_iconst (v := 1) hx hb dL_law_274 (by decide) ?_
  refine lv_iadd hx hb dL_law_275 ?_
  refine lv_topi (fun x_1 ex_1 => ?_)
  obtain rfl : x_1 = 1 := ex_1.trans (by decide)
  refine va_sld hx hb hX hbl hbA hS (by unfold vp_in; decide) dL_law_276 ?_
  refine lv_topi (fun x_2 ex_2 => ?_)
  obtain rfl : x_2 = sc 1 := ex_2.trans (congrArg sc (by decide))
  refine lv_aload_n hx hb dL_law_277 rfl (lv_at hl 5 rfl) ?_
  refine lv_iload hx hb dL_law_278 (lv_at hl 0 rfl) ?_
  refine lv_iconst (v := 2) hx hb dL_law_280 (by decide) ?_
  refine lv_iadd hx hb dL_law_281 ?_
  refine lv_topi (fun x_3 ex_3 => ?_)
  obtain rfl : x_3 = 2 := ex_3.trans (by decide)
  refine va_sld hx hb hX hbl hbA hS (by unfold vp_in; decide) dL_law_282 ?_
  refine lv_topi (fun x_4 ex_4 => ?_)
  obtain rfl : x_4 = sc 2 := ex_4.trans (congrArg sc (by decide))
  refine lv_aload_n hx hb dL_law_283 rfl (lv_at hl 5 rfl) ?_
  refine lv_iload hx hb dL_law_284 (lv_at hl 0 rfl) ?_
  refine lv_iconst (v := 3) hx hb dL_law_286 (by decide) ?_
  refine lv_iadd hx hb dL_law_287 ?_
  refine lv_topi (fun x_5 ex_5 => ?_)
  obtain rfl : x_5 = 3 := ex_5.trans (by decide)
  refine va_sld hx hb hX hbl hbA hS (by unfold vp_in; decide) dL_law_288 ?_
  refine lv_topi (fun x_6 ex_6 => ?_)
  obtain rfl : x_6 = sc 3 := ex_6.trans (congrArg sc (by decide))
  refine lv_aload_n hx hb dL_law_289 rfl (lv_at hl 2 rfl) ?_
  refine kSW_i (As := [.ref x, .int (sc 1), .int (sc 2), .int (sc 3), .ref o]) (rest := []) (wr := [(xb, .inr (3, [.ref xt, .ref xp, .ref xs, .int 0])), (xt, .inr (1, [.int 0, .ref e0, .int 0])), (xp, .inl (cxp, 36, .inl (fun _ => 0))), (xs, .inl (cxs, 36, .inl g)), (xo, .inr (1, [.int 0, .ref e0, .int 0])), (xa, .inr (2, [.int 0, .int 0, .int 0, .null, .int 0, .double 0])), (mm, .inr (11, [.int 0, .ref mk9, .ref mt, .ref mb, .int 0, .int 0, .int 0, .int 0, .null, .int 0, .int 0, .double 0, .int 0, .int 0, .int 0])), (mk9, .inr (1, [.int 0, .ref e0, .int 0])), (mt, .inr (1, [.int 0, .ref e0, .int 0])), (mb, .inr (1, [.int 0, .ref e0, .int 0])), (od, .inl (cod, 1, .inr (.inr (.inr (.inl (fun _ => 0))))))]) ⟨hx, hb, hml, hown, hts⟩ (c_w_fall l hl9 D e0 _ x xk xb xo xa 0 o co (fun _ => 0) (sc 1) (sc 2) (sc 3)) (vx_cwSW 5 hts gL_law_L_fall rfl rfl rfl (by decide +kernel) ⟨Nat.le_of_ble_eq_true rfl, Nat.le_of_ble_eq_true rfl⟩) hP hD hK hS hA hE rfl [0, 1, 12] [2, 3, 4, 5, 6, 7, 8, 9, 10, 11, 13] [2] rfl rfl (by decide) (by decide) (by decide) rfl rfl hl.1 (Nat.le_of_ble_eq_true rfl) dL_law_290 ⟨Nat.le_of_ble_eq_true rfl, Nat.le_of_ble_eq_true rfl⟩ (fun r_7 u9 H locs hw hP hD hK hS => ?_)
  have hw : r_7 = 1 := hw
  subst hw
  have hP : va_P D vwCl [(xb, .inr (3, [.ref xt, .ref xp, .ref xs, .int 0])), (xt, .inr (1, [.int 0, .ref e0, .int 0])), (xp, .inl (cxp, 36, .inl (fun _ => 0))), (xs, .inl (cxs, 36, .inl g)), (xo, .inr (1, [.int 0, .ref e0, .int 0])), (xa, .inr (2, [.int 0, .int 0, .int 0, .null, .int 0, .double 0])), (mm, .inr (11, [.int 0, .ref mk9, .ref mt, .ref mb, .int 0, .int 0, .int 0, .int 0, .null, .int 0, .int 0, .double 0, .int 0, .int 0, .int 0])), (mk9, .inr (1, [.int 0, .ref e0, .int 0])), (mt, .inr (1, [.int 0, .ref e0, .int 0])), (mb, .inr (1, [.int 0, .ref e0, .int 0])), (od, .inl (cod, 1, .inr (.inr (.inr (.inl (fun _ => 0))))))] H := hP
  have hD : va_D A [(xb, .inr (3, [.ref xt, .ref xp, .ref xs, .int 0])), (xt, .inr (1, [.int 0, .ref e0, .int 0])), (xp, .inl (cxp, 36, .inl (fun _ => 0))), (xs, .inl (cxs, 36, .inl g)), (xo, .inr (1, [.int 0, .ref e0, .int 0])), (xa, .inr (2, [.int 0, .int 0, .int 0, .null, .int 0, .double 0])), (mm, .inr (11, [.int 0, .ref mk9, .ref mt, .ref mb, .int 0, .int 0, .int 0, .int 0, .null, .int 0, .int 0, .double 0, .int 0, .int 0, .int 0])), (mk9, .inr (1, [.int 0, .ref e0, .int 0])), (mt, .inr (1, [.int 0, .ref e0, .int 0])), (mb, .inr (1, [.int 0, .ref e0, .int 0])), (od, .inl (cod, 1, .inr (.inr (.inr (.inl (fun _ => 0))))))] := hD
  have hK : va_K D vwCl [(cxp, .int), (cxs, .int), (co, .long), (cod, .double)] s := hK
  refine lv_istore (lv' := [(6, .int 1), (5, .int 0), (4, .ref od), (3, .ref o), (2, .ref mm), (1, .ref x), (0, .ref b)]) hx hb dL_law_293 hl (by decide) rfl (fun ls hl => ?_)
  refine lv_aload_n hx hb dL_law_295 rfl (lv_at hl 4 rfl) ?_
  refine lv_aload_n hx hb dL_law_296 rfl (lv_at hl 6 rfl) ?_
  refine lv_iload hx hb dL_law_297 (lv_at hl 1 rfl) ?_
  refine lv_iconst (v := 1) hx hb dL_law_299 (by decide) ?_
  refine lv_iadd hx hb dL_law_300 ?_
  refine lv_topi (fun x_8 ex_8 => ?_)
  obtain rfl : x_8 = 1 := ex_8.trans (by decide)
  refine va_sld hx hb hX hbl hbA hS (by unfold vp_in; decide) dL_law_301 ?_
  refine lv_topi (fun x_9 ex_9 => ?_)
  obtain rfl : x_9 = sc 1 := ex_9.trans (congrArg sc (by decide))
  refine lv_aload_n hx hb dL_law_302 rfl (lv_at hl 6 rfl) ?_
  refine lv_iload hx hb dL_law_303 (lv_at hl 1 rfl) ?_
  refine lv_iconst (v := 2) hx hb dL_law_305 (by decide) ?_
  refine lv_iadd hx hb dL_law_306 ?_
  refine lv_topi (fun x_10 ex_10 => ?_)
  obtain rfl : x_10 = 2 := ex_10.trans (by decide)
  refine va_sld hx hb hX hbl hbA hS (by unfold vp_in; decide) dL_law_307 ?_
  refine lv_topi (fun x_11 ex_11 => ?_)
  obtain rfl : x_11 = sc 2 := ex_11.trans (congrArg sc (by decide))
  refine lv_aload_n hx hb dL_law_308 rfl (lv_at hl 6 rfl) ?_
  refine lv_iload hx hb dL_law_309 (lv_at hl 1 rfl) ?_
  refine lv_iconst (v := 3) hx hb dL_law_311 (by decide) ?_
  refine lv_iadd hx hb dL_law_312 ?_
  refine lv_topi (fun x_12 ex_12 => ?_)
  obtain rfl : x_12 = 3 := ex_12.trans (by decide)
  refine va_sld hx hb hX hbl hbA hS (by unfold vp_in; decide) dL_law_313 ?_
  refine lv_topi (fun x_13 ex_13 => ?_)
  obtain rfl : x_13 = sc 3 := ex_13.trans (congrArg sc (by decide))
  refine kV_i (As := [.int (sc 1), .int (sc 2), .int (sc 3)]) (rest := []) (wr := [(xb, .inr (3, [.ref xt, .ref xp, .ref xs, .int 0])), (xt, .inr (1, [.int 0, .ref e0, .int 0])), (xp, .inl (cxp, 36, .inl (fun _ => 0))), (xs, .inl (cxs, 36, .inl g)), (xo, .inr (1, [.int 0, .ref e0, .int 0])), (xa, .inr (2, [.int 0, .int 0, .int 0, .null, .int 0, .double 0])), (mt, .inr (1, [.int 0, .ref e0, .int 0])), (mb, .inr (1, [.int 0, .ref e0, .int 0])), (od, .inl (cod, 1, .inr (.inr (.inr (.inl (fun _ => 0))))))]) ⟨hx, hb, hml, hown, hts⟩ (c_m_fall l D e0 _ mm mk9 mt mb (sc 1) (sc 2) (sc 3)) (cwV 3 hts gL_law_X9_fall_ rfl rfl rfl (by decide +kernel) ⟨Nat.le_of_ble_eq_true rfl, Nat.le_of_ble_eq_true rfl⟩) hP hD hK hS hA hE rfl [6, 7] [0, 1, 2, 3, 4, 5, 8, 9, 10] [] rfl rfl (by decide) (by decide) (by decide) rfl 11 6 rfl rfl rfl rfl hl.1 (Nat.le_of_ble_eq_true rfl) dL_law_314 ⟨Nat.le_of_ble_eq_true rfl, Nat.le_of_ble_eq_true rfl⟩ (fun r_14 u9 H locs hw hP hD hK hS => ?_)
  have hw : r_14 = 0 := hw
  subst hw
  have hP : va_P D vwCl [(xb, .inr (3, [.ref xt, .ref xp, .ref xs, .int 0])), (xt, .inr (1, [.int 0, .ref e0, .int 0])), (xp, .inl (cxp, 36, .inl (fun _ => 0))), (xs, .inl (cxs, 36, .inl g)), (xo, .inr (1, [.int 0, .ref e0, .int 0])), (xa, .inr (2, [.int 0, .int 0, .int 0, .null, .int 0, .double 0])), (mt, .inr (1, [.int 0, .ref e0, .int 0])), (mb, .inr (1, [.int 0, .ref e0, .int 0])), (od, .inl (cod, 1, .inr (.inr (.inr (.inl (fun _ => 0)))))), (mm, .inr (11, [.int 1, .ref mk9, .ref mt, .ref mb, .int 0, .int 0, .int 0, .int 0, .null, .int 0, .int 0, .double 0, .int 0, .int 0, .int 0]))] H := hP
  have hD : va_D A [(xb, .inr (3, [.ref xt, .ref xp, .ref xs, .int 0])), (xt, .inr (1, [.int 0, .ref e0, .int 0])), (xp, .inl (cxp, 36, .inl (fun _ => 0))), (xs, .inl (cxs, 36, .inl g)), (xo, .inr (1, [.int 0, .ref e0, .int 0])), (xa, .inr (2, [.int 0, .int 0, .int 0, .null, .int 0, .double 0])), (mt, .inr (1, [.int 0, .ref e0, .int 0])), (mb, .inr (1, [.int 0, .ref e0, .int 0])), (od, .inl (cod, 1, .inr (.inr (.inr (.inl (fun _ => 0)))))), (mm, .inr (11, [.int 1, .ref mk9, .ref mt, .ref mb, .int 0, .int 0, .int 0, .int 0, .null, .int 0, .int 0, .double 0, .int 0, .int 0, .int 0]))] := hD
  have hK : va_K D vwCl [(cxp, .int), (cxs, .int), (co, .long), (cod, .double)] s := hK
  refine lv_istore (lv' := [(7, .int 0), (6, .int 1), (5, .int 0), (4, .ref od), (3, .ref o), (2, .ref mm), (1, .ref x), (0, .ref b)]) hx hb dL_law_317 hl (by decide) rfl (fun ls hl => ?_)
  refine lv_aload_n hx hb dL_law_319 rfl (lv_at hl 5 rfl) ?_
  refine kV_i (As := []) (rest := []) (wr := [(xb, .inr (3, [.ref xt, .ref xp, .ref xs, .int 0])), (xt, .inr (1, [.int 0, .ref e0, .int 0])), (xp, .inl (cxp, 36, .inl (fun _ => 0))), (xs, .inl (cxs, 36, .inl g)), (xo, .inr (1, [.int 0, .ref e0, .int 0])), (xa, .inr (2, [.int 0, .int 0, .int 0, .null, .int 0, .double 0])), (mt, .inr (1, [.int 0, .ref e0, .int 0])), (mb, .inr (1, [.int 0, .ref e0, .int 0])), (od, .inl (cod, 1, .inr (.inr (.inr (.inl (fun _ => 0))))))]) ⟨hx, hb, hml, hown, hts⟩ (c_thrown l D e0 _ mm mk9 mt mb 1) (cwV 0 hts gL_law_X9_thrown rfl rfl rfl (by decide +kernel) ⟨Nat.le_of_ble_eq_true rfl, Nat.le_of_ble_eq_true rfl⟩) hP hD hK hS hA hE rfl [9] [0, 1, 2, 3, 4, 5, 6, 7, 8] [] rfl rfl (by decide) (by decide) (by decide) rfl 11 9 rfl rfl rfl rfl hl.1 (Nat.le_of_ble_eq_true rfl) dL_law_320 ⟨Nat.le_of_ble_eq_true rfl, Nat.le_of_ble_eq_true rfl⟩ (fun r_15 u9 H locs hw hP hD hK hS => ?_)
  have hw : r_15 = 1 := hw
  subst hw
  have hP : va_P D vwCl [(xb, .inr (3, [.ref xt, .ref xp, .ref xs, .int 0])), (xt, .inr (1, [.int 0, .ref e0, .int 0])), (xp, .inl (cxp, 36, .inl (fun _ => 0))), (xs, .inl (cxs, 36, .inl g)), (xo, .inr (1, [.int 0, .ref e0, .int 0])), (xa, .inr (2, [.int 0, .int 0, .int 0, .null, .int 0, .double 0])), (mt, .inr (1, [.int 0, .ref e0, .int 0])), (mb, .inr (1, [.int 0, .ref e0, .int 0])), (od, .inl (cod, 1, .inr (.inr (.inr (.inl (fun _ => 0)))))), (mm, .inr (11, [.int 1, .ref mk9, .ref mt, .ref mb, .int 0, .int 0, .int 0, .int 0, .null, .int 0, .int 0, .double 0, .int 0, .int 0, .int 0]))] H := hP
  have hD : va_D A [(xb, .inr (3, [.ref xt, .ref xp, .ref xs, .int 0])), (xt, .inr (1, [.int 0, .ref e0, .int 0])), (xp, .inl (cxp, 36, .inl (fun _ => 0))), (xs, .inl (cxs, 36, .inl g)), (xo, .inr (1, [.int 0, .ref e0, .int 0])), (xa, .inr (2, [.int 0, .int 0, .int 0, .null, .int 0, .double 0])), (mt, .inr (1, [.int 0, .ref e0, .int 0])), (mb, .inr (1, [.int 0, .ref e0, .int 0])), (od, .inl (cod, 1, .inr (.inr (.inr (.inl (fun _ => 0)))))), (mm, .inr (11, [.int 1, .ref mk9, .ref mt, .ref mb, .int 0, .int 0, .int 0, .int 0, .null, .int 0, .int 0, .double 0, .int 0, .int 0, .int 0]))] := hD
  have hK : va_K D vwCl [(cxp, .int), (cxs, .int), (co, .long), (cod, .double)] s := hK
  refine lv_iload hx hb dL_law_323 (lv_at hl 1 rfl) ?_
  refine lv_icmp_eq (tgt := 330) hx hb dL_law_325 (by decide) (fun _ => ?_) (fun h9 => absurd (by decide) h9)
  refine lv_iload hx hb dL_law_330 (lv_at hl 1 rfl) ?_
  refine lv_if_ne (tgt := 347) hx hb dL_law_332 (by decide) (fun _ => ?_) (fun h9 => absurd h9 (by decide))
  refine lv_goto (tgt := 1632) hx hb dL_law_347 (by decide) ?_
  exact law_tail hx hb hr hlocks hX hbl hbA hAs hS (Nat.le_of_ble_eq_true rfl) (Nat.le_of_ble_eq_true rfl) (lv_sub hl [2, 7] rfl)
set_option maxHeartbeats 4000000 in
set_option maxRecDepth 100000 in
theorem law_case_2 {p : Program} {l : Launch} {e : Env} {s : State} {m : MethodId} {below : List Frame} {meth : Method} {c : Code} {b : Nat} {sc : Nat → Int32} {A : Nat → Prop} {H : Heap} {locs : List Loc} {ls : Array Slot} {D : va_G} {e0 x xk xb xt xp xs xo xa mm mk9 mt mb o od : Nat} {cxp cxs co cod : ClassId} {g : Nat → Int32} (hl9 : l.stackTraces = false) (hx : p.tables.exec = Jvm.exec) (hb : c.code = cL_law) (hr : meth.sig.returnType = ret) (hlocks : meth.locks = false) (hX : va_X b 7 sc s s.heap) (hbl : b < s.heap.size) (hbA : ¬ A b) (hAs : ∀ q, A q → s.heap.size ≤ q) (hS : va_S A s.heap H locs) (hml : c.maxLocals = 10) (hown : s.vm.findClass RL = some m.cls) (hts0 : ∀ w ∈ lw_tbl, w.before #[Value.ref b] s = true) (hts : ∀ w ∈ wsL_law, w.before #[Value.ref b] s = true) (hA : ∀ q, s.heap.size ≤ q → A q) (hE : EV e0 A s s.heap) (hg : ∀ j, j < 36 → g j = -1) (hP : va_P D vwCl [(x, .inr (7, [.ref xk, .ref xb, .ref xo, .ref xa, .int 0, .int 0, .int 0, .int 0])), (xk, .inr (1, [.int 0, .ref e0, .int 0])), (xb, .inr (3, [.ref xt, .ref xp, .ref xs, .int 0])), (xt, .inr (1, [.int 0, .ref e0, .int 0])), (xp, .inl (cxp, 36, .inl (fun _ => 0))), (xs, .inl (cxs, 36, .inl g)), (xo, .inr (1, [.int 0, .ref e0, .int 0])), (xa, .inr (2, [.int 0, .int 0, .int 0, .null, .int 0, .double 0])), (mm, .inr (11, [.int 0, .ref mk9, .ref mt, .ref mb, .int 0, .int 0, .int 0, .int 0, .null, .int 0, .int 0, .double 0, .int 0, .int 0, .int 0])), (mk9, .inr (1, [.int 0, .ref e0, .int 0])), (mt, .inr (1, [.int 0, .ref e0, .int 0])), (mb, .inr (1, [.int 0, .ref e0, .int 0])), (o, .inl (co, 1, .inr (.inl (fun _ => 0)))), (od, .inl (cod, 1, .inr (.inr (.inr (.inl (fun _ => 0))))))] H) (hD : va_D A [(x, .inr (7, [.ref xk, .ref xb, .ref xo, .ref xa, .int 0, .int 0, .int 0, .int 0])), (xk, .inr (1, [.int 0, .ref e0, .int 0])), (xb, .inr (3, [.ref xt, .ref xp, .ref xs, .int 0])), (xt, .inr (1, [.int 0, .ref e0, .int 0])), (xp, .inl (cxp, 36, .inl (fun _ => 0))), (xs, .inl (cxs, 36, .inl g)), (xo, .inr (1, [.int 0, .ref e0, .int 0])), (xa, .inr (2, [.int 0, .int 0, .int 0, .null, .int 0, .double 0])), (mm, .inr (11, [.int 0, .ref mk9, .ref mt, .ref mb, .int 0, .int 0, .int 0, .int 0, .null, .int 0, .int 0, .double 0, .int 0, .int 0, .int 0])), (mk9, .inr (1, [.int 0, .ref e0, .int 0])), (mt, .inr (1, [.int 0, .ref e0, .int 0])), (mb, .inr (1, [.int 0, .ref e0, .int 0])), (o, .inl (co, 1, .inr (.inl (fun _ => 0)))), (od, .inl (cod, 1, .inr (.inr (.inr (.inl (fun _ => 0))))))]) (hK : va_K D vwCl [(cxp, .int), (cxs, .int), (co, .long), (cod, .double)] s) (hl : lv_has ls 10 [(5, .int 0), (4, .ref od), (3, .ref o), (2, .ref mm), (1, .ref x), (0, .ref b)]) : W p l e room_1 s m #[Value.ref b] below meth c H locs 14 125 (lw_Z below #[Value.ref b] s) (F0 m 350 ls []) := by
  refine lv_aload_n hx hb dL_law_350 rfl (lv_at hl 4 rfl) ?_
  refine lv_aload_n hx hb dL_law_351 rfl (lv_at hl 5 rfl) ?_
  refine lv_iload hx hb dL_law_352 (lv_at hl 0 rfl) ?_
  refine lv_iconst (v := 1) hx hb dL_law_354 (by decide) ?_
  refine lv_iadd hx hb dL_law_355 ?_
  refine lv_topi (fun x_1 ex_1 => ?_)
  obtain rfl : x_1 = 1 := ex_1.trans (by decide)
  refine va_sld hx hb hX hbl hbA hS (by unfold vp_in; decide) dL_law_356 ?_
  refine lv_topi (fun x_2 ex_2 => ?_)
  obtain rfl : x_2 = sc 1 := ex_2.trans (congrArg sc (by decide))
  refine lv_aload_n hx hb dL_law_357 rfl (lv_at hl 5 rfl) ?_
  refine lv_iload hx hb dL_law_358 (lv_at hl 0 rfl) ?_
  refine lv_iconst (v := 2) hx hb dL_law_360 (by decide) ?_
  refine lv_iadd hx hb dL_law_361 ?_
  refine lv_topi (fun x_3 ex_3 => ?_)
  obtain rfl : x_3 = 2 := ex_3.trans (by decide)
  refine va_sld hx hb hX hbl hbA hS (by unfold vp_in; decide) dL_law_362 ?_
  refine lv_topi (fun x_4 ex_4 => ?_)
  obtain rfl : x_4 = sc 2 := ex_4.trans (congrArg sc (by decide))
  refine lv_aload_n hx hb dL_law_363 rfl (lv_at hl 2 rfl) ?_
  refine kSW_i (As := [.ref x, .int (sc 1), .int (sc 2), .ref o]) (rest := []) (wr := [(xk, .inr (1, [.int 0, .ref e0, .int 0])), (xp, .inl (cxp, 36, .inl (fun _ => 0))), (xs, .inl (cxs, 36, .inl g)), (xo, .inr (1, [.int 0, .ref e0, .int 0])), (xa, .inr (2, [.int 0, .int 0, .int 0, .null, .int 0, .double 0])), (mm, .inr (11, [.int 0, .ref mk9, .ref mt, .ref mb, .int 0, .int 0, .int 0, .int 0, .null, .int 0, .int 0, .double 0, .int 0, .int 0, .int 0])), (mk9, .inr (1, [.int 0, .ref e0, .int 0])), (mt, .inr (1, [.int 0, .ref e0, .int 0])), (mb, .inr (1, [.int 0, .ref e0, .int 0])), (od, .inl (cod, 1, .inr (.inr (.inr (.inl (fun _ => 0))))))]) ⟨hx, hb, hml, hown, hts⟩ (c_w_tangle l hl9 D e0 _ x xk xb xo xa xt xp xs 0 o co (fun _ => 0) (sc 1) (sc 2)) (vx_cwSW 4 hts gL_law_L_tangle rfl rfl rfl (by decide +kernel) ⟨Nat.le_of_ble_eq_true rfl, Nat.le_of_ble_eq_true rfl⟩) hP hD hK hS hA hE rfl [0, 2, 3, 12] [1, 4, 5, 6, 7, 8, 9, 10, 11, 13] [2] rfl rfl (by decide) (by decide) (by decide) rfl rfl hl.1 (Nat.le_of_ble_eq_true rfl) dL_law_364 ⟨Nat.le_of_ble_eq_true rfl, Nat.le_of_ble_eq_true rfl⟩ (fun r_5 u9 H locs hw hP hD hK hS => ?_)
  have hw : r_5 = 1 := hw
  subst hw
  have hP : va_P D vwCl [(xk, .inr (1, [.int 0, .ref e0, .int 0])), (xp, .inl (cxp, 36, .inl (fun _ => 0))), (xs, .inl (cxs, 36, .inl g)), (xo, .inr (1, [.int 0, .ref e0, .int 0])), (xa, .inr (2, [.int 0, .int 0, .int 0, .null, .int 0, .double 0])), (mm, .inr (11, [.int 0, .ref mk9, .ref mt, .ref mb, .int 0, .int 0, .int 0, .int 0, .null, .int 0, .int 0, .double 0, .int 0, .int 0, .int 0])), (mk9, .inr (1, [.int 0, .ref e0, .int 0])), (mt, .inr (1, [.int 0, .ref e0, .int 0])), (mb, .inr (1, [.int 0, .ref e0, .int 0])), (od, .inl (cod, 1, .inr (.inr (.inr (.inl (fun _ => 0))))))] H := hP
  have hD : va_D A [(xk, .inr (1, [.int 0, .ref e0, .int 0])), (xp, .inl (cxp, 36, .inl (fun _ => 0))), (xs, .inl (cxs, 36, .inl g)), (xo, .inr (1, [.int 0, .ref e0, .int 0])), (xa, .inr (2, [.int 0, .int 0, .int 0, .null, .int 0, .double 0])), (mm, .inr (11, [.int 0, .ref mk9, .ref mt, .ref mb, .int 0, .int 0, .int 0, .int 0, .null, .int 0, .int 0, .double 0, .int 0, .int 0, .int 0])), (mk9, .inr (1, [.int 0, .ref e0, .int 0])), (mt, .inr (1, [.int 0, .ref e0, .int 0])), (mb, .inr (1, [.int 0, .ref e0, .int 0])), (od, .inl (cod, 1, .inr (.inr (.inr (.inl (fun _ => 0))))))] := hD
  have hK : va_K D vwCl [(cxp, .int), (cxs, .int), (co, .long), (cod, .double)] s := hK
  refine lv_istore (lv' := [(6, .int 1), (5, .int 0), (4, .ref od), (3, .ref o), (2, .ref mm), (1, .ref x), (0, .ref b)]) hx hb dL_law_367 hl (by decide) rfl (fun ls hl => ?_)
  refine lv_aload_n hx hb dL_law_369 rfl (lv_at hl 4 rfl) ?_
  refine lv_aload_n hx hb dL_law_370 rfl (lv_at hl 6 rfl) ?_
  refine lv_iload hx hb dL_law_371 (lv_at hl 1 rfl) ?_
  refine lv_iconst (v := 1) hx hb dL_law_373 (by decide) ?_
  refine lv_iadd hx hb dL_law_374 ?_
  refine lv_topi (fun x_6 ex_6 => ?_)
  obtain rfl : x_6 = 1 := ex_6.trans (by decide)
  refine va_sld hx hb hX hbl hbA hS (by unfold vp_in; decide) dL_law_375 ?_
  refine lv_topi (fun x_7 ex_7 => ?_)
  obtain rfl : x_7 = sc 1 := ex_7.trans (congrArg sc (by decide))
  refine lv_aload_n hx hb dL_law_376 rfl (lv_at hl 6 rfl) ?_
  refine lv_iload hx hb dL_law_377 (lv_at hl 1 rfl) ?_
  refine lv_iconst (v := 2) hx hb dL_law_379 (by decide) ?_
  refine lv_iadd hx hb dL_law_380 ?_
  refine lv_topi (fun x_8 ex_8 => ?_)
  obtain rfl : x_8 = 2 := ex_8.trans (by decide)
  refine va_sld hx hb hX hbl hbA hS (by unfold vp_in; decide) dL_law_381 ?_
  refine lv_topi (fun x_9 ex_9 => ?_)
  obtain rfl : x_9 = sc 2 := ex_9.trans (congrArg sc (by decide))
  refine kV_i (As := [.int (sc 1), .int (sc 2)]) (rest := []) (wr := [(xk, .inr (1, [.int 0, .ref e0, .int 0])), (xp, .inl (cxp, 36, .inl (fun _ => 0))), (xs, .inl (cxs, 36, .inl g)), (xo, .inr (1, [.int 0, .ref e0, .int 0])), (xa, .inr (2, [.int 0, .int 0, .int 0, .null, .int 0, .double 0])), (mk9, .inr (1, [.int 0, .ref e0, .int 0])), (mb, .inr (1, [.int 0, .ref e0, .int 0])), (od, .inl (cod, 1, .inr (.inr (.inr (.inl (fun _ => 0))))))]) ⟨hx, hb, hml, hown, hts⟩ (c_m_tangle l D e0 _ mm mk9 mt mb (sc 1) (sc 2)) (cwV 2 hts gL_law_X9_tangle rfl rfl rfl (by decide +kernel) ⟨Nat.le_of_ble_eq_true rfl, Nat.le_of_ble_eq_true rfl⟩) hP hD hK hS hA hE rfl [5, 7] [0, 1, 2, 3, 4, 6, 8, 9] [] rfl rfl (by decide) (by decide) (by decide) rfl 11 5 rfl rfl rfl rfl hl.1 (Nat.le_of_ble_eq_true rfl) dL_law_382 ⟨Nat.le_of_ble_eq_true rfl, Nat.le_of_ble_eq_true rfl⟩ (fun r_10 u9 H locs hw hP hD hK hS => ?_)
  have hw : r_10 = 0 := hw
  subst hw
  have hP : va_P D vwCl [(xk, .inr (1, [.int 0, .ref e0, .int 0])), (xp, .inl (cxp, 36, .inl (fun _ => 0))), (xs, .inl (cxs, 36, .inl g)), (xo, .inr (1, [.int 0, .ref e0, .int 0])), (xa, .inr (2, [.int 0, .int 0, .int 0, .null, .int 0, .double 0])), (mk9, .inr (1, [.int 0, .ref e0, .int 0])), (mb, .inr (1, [.int 0, .ref e0, .int 0])), (od, .inl (cod, 1, .inr (.inr (.inr (.inl (fun _ => 0)))))), (mm, .inr (11, [.int 1, .ref mk9, .ref mt, .ref mb, .int 0, .int 0, .int 0, .int 0, .null, .int 0, .int 0, .double 0, .int 0, .int 0, .int 0]))] H := hP
  have hD : va_D A [(xk, .inr (1, [.int 0, .ref e0, .int 0])), (xp, .inl (cxp, 36, .inl (fun _ => 0))), (xs, .inl (cxs, 36, .inl g)), (xo, .inr (1, [.int 0, .ref e0, .int 0])), (xa, .inr (2, [.int 0, .int 0, .int 0, .null, .int 0, .double 0])), (mk9, .inr (1, [.int 0, .ref e0, .int 0])), (mb, .inr (1, [.int 0, .ref e0, .int 0])), (od, .inl (cod, 1, .inr (.inr (.inr (.inl (fun _ => 0)))))), (mm, .inr (11, [.int 1, .ref mk9, .ref mt, .ref mb, .int 0, .int 0, .int 0, .int 0, .null, .int 0, .int 0, .double 0, .int 0, .int 0, .int 0]))] := hD
  have hK : va_K D vwCl [(cxp, .int), (cxs, .int), (co, .long), (cod, .double)] s := hK
  refine lv_istore (lv' := [(7, .int 0), (6, .int 1), (5, .int 0), (4, .ref od), (3, .ref o), (2, .ref mm), (1, .ref x), (0, .ref b)]) hx hb dL_law_385 hl (by decide) rfl (fun ls hl => ?_)
  refine lv_aload_n hx hb dL_law_387 rfl (lv_at hl 5 rfl) ?_
  refine kV_i (As := []) (rest := []) (wr := [(xk, .inr (1, [.int 0, .ref e0, .int 0])), (xp, .inl (cxp, 36, .inl (fun _ => 0))), (xs, .inl (cxs, 36, .inl g)), (xo, .inr (1, [.int 0, .ref e0, .int 0])), (xa, .inr (2, [.int 0, .int 0, .int 0, .null, .int 0, .double 0])), (mk9, .inr (1, [.int 0, .ref e0, .int 0])), (mb, .inr (1, [.int 0, .ref e0, .int 0])), (od, .inl (cod, 1, .inr (.inr (.inr (.inl (fun _ => 0))))))]) ⟨hx, hb, hml, hown, hts⟩ (c_thrown l D e0 _ mm mk9 mt mb 1) (cwV 0 hts gL_law_X9_thrown rfl rfl rfl (by decide +kernel) ⟨Nat.le_of_ble_eq_true rfl, Nat.le_of_ble_eq_true rfl⟩) hP hD hK hS hA hE rfl [8] [0, 1, 2, 3, 4, 5, 6, 7] [] rfl rfl (by decide) (by decide) (by decide) rfl 11 8 rfl rfl rfl rfl hl.1 (Nat.le_of_ble_eq_true rfl) dL_law_388 ⟨Nat.le_of_ble_eq_true rfl, Nat.le_of_ble_eq_true rfl⟩ (fun r_11 u9 H locs hw hP hD hK hS => ?_)
  have hw : r_11 = 1 := hw
  subst hw
  have hP : va_P D vwCl [(xk, .inr (1, [.int 0, .ref e0, .int 0])), (xp, .inl (cxp, 36, .inl (fun _ => 0))), (xs, .inl (cxs, 36, .inl g)), (xo, .inr (1, [.int 0, .ref e0, .int 0])), (xa, .inr (2, [.int 0, .int 0, .int 0, .null, .int 0, .double 0])), (mk9, .inr (1, [.int 0, .ref e0, .int 0])), (mb, .inr (1, [.int 0, .ref e0, .int 0])), (od, .inl (cod, 1, .inr (.inr (.inr (.inl (fun _ => 0)))))), (mm, .inr (11, [.int 1, .ref mk9, .ref mt, .ref mb, .int 0, .int 0, .int 0, .int 0, .null, .int 0, .int 0, .double 0, .int 0, .int 0, .int 0]))] H := hP
  have hD : va_D A [(xk, .inr (1, [.int 0, .ref e0, .int 0])), (xp, .inl (cxp, 36, .inl (fun _ => 0))), (xs, .inl (cxs, 36, .inl g)), (xo, .inr (1, [.int 0, .ref e0, .int 0])), (xa, .inr (2, [.int 0, .int 0, .int 0, .null, .int 0, .double 0])), (mk9, .inr (1, [.int 0, .ref e0, .int 0])), (mb, .inr (1, [.int 0, .ref e0, .int 0])), (od, .inl (cod, 1, .inr (.inr (.inr (.inl (fun _ => 0)))))), (mm, .inr (11, [.int 1, .ref mk9, .ref mt, .ref mb, .int 0, .int 0, .int 0, .int 0, .null, .int 0, .int 0, .double 0, .int 0, .int 0, .int 0]))] := hD
  have hK : va_K D vwCl [(cxp, .int), (cxs, .int), (co, .long), (cod, .double)] s := hK
  refine lv_iload hx hb dL_law_391 (lv_at hl 1 rfl) ?_
  refine lv_icmp_eq (tgt := 398) hx hb dL_law_393 (by decide) (fun _ => ?_) (fun h9 => absurd (by decide) h9)
  refine lv_iload hx hb dL_law_398 (lv_at hl 1 rfl) ?_
  refine lv_if_ne (tgt := 415) hx hb dL_law_400 (by decide) (fun _ => ?_) (fun h9 => absurd h9 (by decide))
  refine lv_goto (tgt := 1632) hx hb dL_law_415 (by decide) ?_
  exact law_tail hx hb hr hlocks hX hbl hbA hAs hS (Nat.le_of_ble_eq_true rfl) (Nat.le_of_ble_eq_true rfl) (lv_sub hl [2, 7] rfl)
set_option maxHeartbeats 4000000 in
set_option maxRecDepth 100000 in
theorem law_case_3 {p : Program} {l : Launch} {e : Env} {s : State} {m : MethodId} {below : List Frame} {meth : Method} {c : Code} {b : Nat} {sc : Nat → Int32} {A : Nat → Prop} {H : Heap} {locs : List Loc} {ls : Array Slot} {D : va_G} {e0 x xk xb xt xp xs xo xa mm mk9 mt mb o od : Nat} {cxp cxs co cod : ClassId} {g : Nat → Int32} (hl9 : l.stackTraces = false) (hx : p.tables.exec = Jvm.exec) (hb : c.code = cL_law) (hr : meth.sig.returnType = ret) (hlocks : meth.locks = false) (hX : va_X b 7 sc s s.heap) (hbl : b < s.heap.size) (hbA : ¬ A b) (hAs : ∀ q, A q → s.heap.size ≤ q) (hS : va_S A s.heap H locs) (hml : c.maxLocals = 10) (hown : s.vm.findClass RL = some m.cls) (hts0 : ∀ w ∈ lw_tbl, w.before #[Value.ref b] s = true) (hts : ∀ w ∈ wsL_law, w.before #[Value.ref b] s = true) (hA : ∀ q, s.heap.size ≤ q → A q) (hE : EV e0 A s s.heap) (hg : ∀ j, j < 36 → g j = -1) (hP : va_P D vwCl [(x, .inr (7, [.ref xk, .ref xb, .ref xo, .ref xa, .int 0, .int 0, .int 0, .int 0])), (xk, .inr (1, [.int 0, .ref e0, .int 0])), (xb, .inr (3, [.ref xt, .ref xp, .ref xs, .int 0])), (xt, .inr (1, [.int 0, .ref e0, .int 0])), (xp, .inl (cxp, 36, .inl (fun _ => 0))), (xs, .inl (cxs, 36, .inl g)), (xo, .inr (1, [.int 0, .ref e0, .int 0])), (xa, .inr (2, [.int 0, .int 0, .int 0, .null, .int 0, .double 0])), (mm, .inr (11, [.int 0, .ref mk9, .ref mt, .ref mb, .int 0, .int 0, .int 0, .int 0, .null, .int 0, .int 0, .double 0, .int 0, .int 0, .int 0])), (mk9, .inr (1, [.int 0, .ref e0, .int 0])), (mt, .inr (1, [.int 0, .ref e0, .int 0])), (mb, .inr (1, [.int 0, .ref e0, .int 0])), (o, .inl (co, 1, .inr (.inl (fun _ => 0)))), (od, .inl (cod, 1, .inr (.inr (.inr (.inl (fun _ => 0))))))] H) (hD : va_D A [(x, .inr (7, [.ref xk, .ref xb, .ref xo, .ref xa, .int 0, .int 0, .int 0, .int 0])), (xk, .inr (1, [.int 0, .ref e0, .int 0])), (xb, .inr (3, [.ref xt, .ref xp, .ref xs, .int 0])), (xt, .inr (1, [.int 0, .ref e0, .int 0])), (xp, .inl (cxp, 36, .inl (fun _ => 0))), (xs, .inl (cxs, 36, .inl g)), (xo, .inr (1, [.int 0, .ref e0, .int 0])), (xa, .inr (2, [.int 0, .int 0, .int 0, .null, .int 0, .double 0])), (mm, .inr (11, [.int 0, .ref mk9, .ref mt, .ref mb, .int 0, .int 0, .int 0, .int 0, .null, .int 0, .int 0, .double 0, .int 0, .int 0, .int 0])), (mk9, .inr (1, [.int 0, .ref e0, .int 0])), (mt, .inr (1, [.int 0, .ref e0, .int 0])), (mb, .inr (1, [.int 0, .ref e0, .int 0])), (o, .inl (co, 1, .inr (.inl (fun _ => 0)))), (od, .inl (cod, 1, .inr (.inr (.inr (.inl (fun _ => 0))))))]) (hK : va_K D vwCl [(cxp, .int), (cxs, .int), (co, .long), (cod, .double)] s) (hl : lv_has ls 10 [(5, .int 0), (4, .ref od), (3, .ref o), (2, .ref mm), (1, .ref x), (0, .ref b)]) : W p l e room_1 s m #[Value.ref b] below meth c H locs 14 125 (lw_Z below #[Value.ref b] s) (F0 m 418 ls []) := by
  refine lv_aload_n hx hb dL_law_418 rfl (lv_at hl 4 rfl) ?_
  refine lv_aload_n hx hb dL_law_419 rfl (lv_at hl 5 rfl) ?_
  refine lv_iload hx hb dL_law_420 (lv_at hl 0 rfl) ?_
  refine lv_iconst (v := 1) hx hb dL_law_422 (by decide) ?_
  refine lv_iadd hx hb dL_law_423 ?_
  refine lv_topi (fun x_1 ex_1 => ?_)
  obtain rfl : x_1 = 1 := ex_1.trans (by decide)
  refine va_sld hx hb hX hbl hbA hS (by unfold vp_in; decide) dL_law_424 ?_
  refine lv_topi (fun x_2 ex_2 => ?_)
  obtain rfl : x_2 = sc 1 := ex_2.trans (congrArg sc (by decide))
  refine lv_aload_n hx hb dL_law_425 rfl (lv_at hl 2 rfl) ?_
  refine kSW_i (As := [.ref x, .int (sc 1), .ref o]) (rest := []) (wr := [(xk, .inr (1, [.int 0, .ref e0, .int 0])), (xp, .inl (cxp, 36, .inl (fun _ => 0))), (xs, .inl (cxs, 36, .inl g)), (xo, .inr (1, [.int 0, .ref e0, .int 0])), (xa, .inr (2, [.int 0, .int 0, .int 0, .null, .int 0, .double 0])), (mm, .inr (11, [.int 0, .ref mk9, .ref mt, .ref mb, .int 0, .int 0, .int 0, .int 0, .null, .int 0, .int 0, .double 0, .int 0, .int 0, .int 0])), (mk9, .inr (1, [.int 0, .ref e0, .int 0])), (mt, .inr (1, [.int 0, .ref e0, .int 0])), (mb, .inr (1, [.int 0, .ref e0, .int 0])), (od, .inl (cod, 1, .inr (.inr (.inr (.inl (fun _ => 0))))))]) ⟨hx, hb, hml, hown, hts⟩ (c_w_shake l hl9 D e0 _ x xk xb xo xa xt xp xs 0 o co (fun _ => 0) (sc 1)) (vx_cwSW 3 hts gL_law_L_shake rfl rfl rfl (by decide +kernel) ⟨Nat.le_of_ble_eq_true rfl, Nat.le_of_ble_eq_true rfl⟩) hP hD hK hS hA hE rfl [0, 2, 3, 12] [1, 4, 5, 6, 7, 8, 9, 10, 11, 13] [2] rfl rfl (by decide) (by decide) (by decide) rfl rfl hl.1 (Nat.le_of_ble_eq_true rfl) dL_law_426 ⟨Nat.le_of_ble_eq_true rfl, Nat.le_of_ble_eq_true rfl⟩ (fun r_3 u9 H locs hw hP hD hK hS => ?_)
  have hw : r_3 = 1 := hw
  subst hw
  have hP : va_P D vwCl [(xk, .inr (1, [.int 0, .ref e0, .int 0])), (xp, .inl (cxp, 36, .inl (fun _ => 0))), (xs, .inl (cxs, 36, .inl g)), (xo, .inr (1, [.int 0, .ref e0, .int 0])), (xa, .inr (2, [.int 0, .int 0, .int 0, .null, .int 0, .double 0])), (mm, .inr (11, [.int 0, .ref mk9, .ref mt, .ref mb, .int 0, .int 0, .int 0, .int 0, .null, .int 0, .int 0, .double 0, .int 0, .int 0, .int 0])), (mk9, .inr (1, [.int 0, .ref e0, .int 0])), (mt, .inr (1, [.int 0, .ref e0, .int 0])), (mb, .inr (1, [.int 0, .ref e0, .int 0])), (od, .inl (cod, 1, .inr (.inr (.inr (.inl (fun _ => 0))))))] H := hP
  have hD : va_D A [(xk, .inr (1, [.int 0, .ref e0, .int 0])), (xp, .inl (cxp, 36, .inl (fun _ => 0))), (xs, .inl (cxs, 36, .inl g)), (xo, .inr (1, [.int 0, .ref e0, .int 0])), (xa, .inr (2, [.int 0, .int 0, .int 0, .null, .int 0, .double 0])), (mm, .inr (11, [.int 0, .ref mk9, .ref mt, .ref mb, .int 0, .int 0, .int 0, .int 0, .null, .int 0, .int 0, .double 0, .int 0, .int 0, .int 0])), (mk9, .inr (1, [.int 0, .ref e0, .int 0])), (mt, .inr (1, [.int 0, .ref e0, .int 0])), (mb, .inr (1, [.int 0, .ref e0, .int 0])), (od, .inl (cod, 1, .inr (.inr (.inr (.inl (fun _ => 0))))))] := hD
  have hK : va_K D vwCl [(cxp, .int), (cxs, .int), (co, .long), (cod, .double)] s := hK
  refine lv_istore (lv' := [(6, .int 1), (5, .int 0), (4, .ref od), (3, .ref o), (2, .ref mm), (1, .ref x), (0, .ref b)]) hx hb dL_law_429 hl (by decide) rfl (fun ls hl => ?_)
  refine lv_aload_n hx hb dL_law_431 rfl (lv_at hl 4 rfl) ?_
  refine lv_aload_n hx hb dL_law_432 rfl (lv_at hl 6 rfl) ?_
  refine lv_iload hx hb dL_law_433 (lv_at hl 1 rfl) ?_
  refine lv_iconst (v := 1) hx hb dL_law_435 (by decide) ?_
  refine lv_iadd hx hb dL_law_436 ?_
  refine lv_topi (fun x_4 ex_4 => ?_)
  obtain rfl : x_4 = 1 := ex_4.trans (by decide)
  refine va_sld hx hb hX hbl hbA hS (by unfold vp_in; decide) dL_law_437 ?_
  refine lv_topi (fun x_5 ex_5 => ?_)
  obtain rfl : x_5 = sc 1 := ex_5.trans (congrArg sc (by decide))
  refine kV_i (As := [.int (sc 1)]) (rest := []) (wr := [(xk, .inr (1, [.int 0, .ref e0, .int 0])), (xp, .inl (cxp, 36, .inl (fun _ => 0))), (xs, .inl (cxs, 36, .inl g)), (xo, .inr (1, [.int 0, .ref e0, .int 0])), (xa, .inr (2, [.int 0, .int 0, .int 0, .null, .int 0, .double 0])), (mk9, .inr (1, [.int 0, .ref e0, .int 0])), (mb, .inr (1, [.int 0, .ref e0, .int 0])), (od, .inl (cod, 1, .inr (.inr (.inr (.inl (fun _ => 0))))))]) ⟨hx, hb, hml, hown, hts⟩ (c_m_shake l D e0 _ mm mk9 mt mb (sc 1)) (cwV 1 hts gL_law_X9_shake rfl rfl rfl (by decide +kernel) ⟨Nat.le_of_ble_eq_true rfl, Nat.le_of_ble_eq_true rfl⟩) hP hD hK hS hA hE rfl [5, 7] [0, 1, 2, 3, 4, 6, 8, 9] [] rfl rfl (by decide) (by decide) (by decide) rfl 11 5 rfl rfl rfl rfl hl.1 (Nat.le_of_ble_eq_true rfl) dL_law_438 ⟨Nat.le_of_ble_eq_true rfl, Nat.le_of_ble_eq_true rfl⟩ (fun r_6 u9 H locs hw hP hD hK hS => ?_)
  have hw : r_6 = 0 := hw
  subst hw
  have hP : va_P D vwCl [(xk, .inr (1, [.int 0, .ref e0, .int 0])), (xp, .inl (cxp, 36, .inl (fun _ => 0))), (xs, .inl (cxs, 36, .inl g)), (xo, .inr (1, [.int 0, .ref e0, .int 0])), (xa, .inr (2, [.int 0, .int 0, .int 0, .null, .int 0, .double 0])), (mk9, .inr (1, [.int 0, .ref e0, .int 0])), (mb, .inr (1, [.int 0, .ref e0, .int 0])), (od, .inl (cod, 1, .inr (.inr (.inr (.inl (fun _ => 0)))))), (mm, .inr (11, [.int 1, .ref mk9, .ref mt, .ref mb, .int 0, .int 0, .int 0, .int 0, .null, .int 0, .int 0, .double 0, .int 0, .int 0, .int 0]))] H := hP
  have hD : va_D A [(xk, .inr (1, [.int 0, .ref e0, .int 0])), (xp, .inl (cxp, 36, .inl (fun _ => 0))), (xs, .inl (cxs, 36, .inl g)), (xo, .inr (1, [.int 0, .ref e0, .int 0])), (xa, .inr (2, [.int 0, .int 0, .int 0, .null, .int 0, .double 0])), (mk9, .inr (1, [.int 0, .ref e0, .int 0])), (mb, .inr (1, [.int 0, .ref e0, .int 0])), (od, .inl (cod, 1, .inr (.inr (.inr (.inl (fun _ => 0)))))), (mm, .inr (11, [.int 1, .ref mk9, .ref mt, .ref mb, .int 0, .int 0, .int 0, .int 0, .null, .int 0, .int 0, .double 0, .int 0, .int 0, .int 0]))] := hD
  have hK : va_K D vwCl [(cxp, .int), (cxs, .int), (co, .long), (cod, .double)] s := hK
  refine lv_istore (lv' := [(7, .int 0), (6, .int 1), (5, .int 0), (4, .ref od), (3, .ref o), (2, .ref mm), (1, .ref x), (0, .ref b)]) hx hb dL_law_441 hl (by decide) rfl (fun ls hl => ?_)
  refine lv_aload_n hx hb dL_law_443 rfl (lv_at hl 5 rfl) ?_
  refine kV_i (As := []) (rest := []) (wr := [(xk, .inr (1, [.int 0, .ref e0, .int 0])), (xp, .inl (cxp, 36, .inl (fun _ => 0))), (xs, .inl (cxs, 36, .inl g)), (xo, .inr (1, [.int 0, .ref e0, .int 0])), (xa, .inr (2, [.int 0, .int 0, .int 0, .null, .int 0, .double 0])), (mk9, .inr (1, [.int 0, .ref e0, .int 0])), (mb, .inr (1, [.int 0, .ref e0, .int 0])), (od, .inl (cod, 1, .inr (.inr (.inr (.inl (fun _ => 0))))))]) ⟨hx, hb, hml, hown, hts⟩ (c_thrown l D e0 _ mm mk9 mt mb 1) (cwV 0 hts gL_law_X9_thrown rfl rfl rfl (by decide +kernel) ⟨Nat.le_of_ble_eq_true rfl, Nat.le_of_ble_eq_true rfl⟩) hP hD hK hS hA hE rfl [8] [0, 1, 2, 3, 4, 5, 6, 7] [] rfl rfl (by decide) (by decide) (by decide) rfl 11 8 rfl rfl rfl rfl hl.1 (Nat.le_of_ble_eq_true rfl) dL_law_444 ⟨Nat.le_of_ble_eq_true rfl, Nat.le_of_ble_eq_true rfl⟩ (fun r_7 u9 H locs hw hP hD hK hS => ?_)
  have hw : r_7 = 1 := hw
  subst hw
  have hP : va_P D vwCl [(xk, .inr (1, [.int 0, .ref e0, .int 0])), (xp, .inl (cxp, 36, .inl (fun _ => 0))), (xs, .inl (cxs, 36, .inl g)), (xo, .inr (1, [.int 0, .ref e0, .int 0])), (xa, .inr (2, [.int 0, .int 0, .int 0, .null, .int 0, .double 0])), (mk9, .inr (1, [.int 0, .ref e0, .int 0])), (mb, .inr (1, [.int 0, .ref e0, .int 0])), (od, .inl (cod, 1, .inr (.inr (.inr (.inl (fun _ => 0)))))), (mm, .inr (11, [.int 1, .ref mk9, .ref mt, .ref mb, .int 0, .int 0, .int 0, .int 0, .null, .int 0, .int 0, .double 0, .int 0, .int 0, .int 0]))] H := hP
  have hD : va_D A [(xk, .inr (1, [.int 0, .ref e0, .int 0])), (xp, .inl (cxp, 36, .inl (fun _ => 0))), (xs, .inl (cxs, 36, .inl g)), (xo, .inr (1, [.int 0, .ref e0, .int 0])), (xa, .inr (2, [.int 0, .int 0, .int 0, .null, .int 0, .double 0])), (mk9, .inr (1, [.int 0, .ref e0, .int 0])), (mb, .inr (1, [.int 0, .ref e0, .int 0])), (od, .inl (cod, 1, .inr (.inr (.inr (.inl (fun _ => 0)))))), (mm, .inr (11, [.int 1, .ref mk9, .ref mt, .ref mb, .int 0, .int 0, .int 0, .int 0, .null, .int 0, .int 0, .double 0, .int 0, .int 0, .int 0]))] := hD
  have hK : va_K D vwCl [(cxp, .int), (cxs, .int), (co, .long), (cod, .double)] s := hK
  refine lv_iload hx hb dL_law_447 (lv_at hl 1 rfl) ?_
  refine lv_icmp_eq (tgt := 454) hx hb dL_law_449 (by decide) (fun _ => ?_) (fun h9 => absurd (by decide) h9)
  refine lv_iload hx hb dL_law_454 (lv_at hl 1 rfl) ?_
  refine lv_if_ne (tgt := 471) hx hb dL_law_456 (by decide) (fun _ => ?_) (fun h9 => absurd h9 (by decide))
  refine lv_goto (tgt := 1632) hx hb dL_law_471 (by decide) ?_
  exact law_tail hx hb hr hlocks hX hbl hbA hAs hS (Nat.le_of_ble_eq_true rfl) (Nat.le_of_ble_eq_true rfl) (lv_sub hl [2, 7] rfl)
set_option maxHeartbeats 4000000 in
set_option maxRecDepth 100000 in
theorem law_case_4 {p : Program} {l : Launch} {e : Env} {s : State} {m : MethodId} {below : List Frame} {meth : Method} {c : Code} {b : Nat} {sc : Nat → Int32} {A : Nat → Prop} {H : Heap} {locs : List Loc} {ls : Array Slot} {D : va_G} {e0 x xk xb xt xp xs xo xa mm mk9 mt mb o od : Nat} {cxp cxs co cod : ClassId} {g : Nat → Int32} (hl9 : l.stackTraces = false) (hx : p.tables.exec = Jvm.exec) (hb : c.code = cL_law) (hr : meth.sig.returnType = ret) (hlocks : meth.locks = false) (hX : va_X b 7 sc s s.heap) (hbl : b < s.heap.size) (hbA : ¬ A b) (hAs : ∀ q, A q → s.heap.size ≤ q) (hS : va_S A s.heap H locs) (hml : c.maxLocals = 10) (hown : s.vm.findClass RL = some m.cls) (hts0 : ∀ w ∈ lw_tbl, w.before #[Value.ref b] s = true) (hts : ∀ w ∈ wsL_law, w.before #[Value.ref b] s = true) (hA : ∀ q, s.heap.size ≤ q → A q) (hE : EV e0 A s s.heap) (hg : ∀ j, j < 36 → g j = -1) (hP : va_P D vwCl [(x, .inr (7, [.ref xk, .ref xb, .ref xo, .ref xa, .int 0, .int 0, .int 0, .int 0])), (xk, .inr (1, [.int 0, .ref e0, .int 0])), (xb, .inr (3, [.ref xt, .ref xp, .ref xs, .int 0])), (xt, .inr (1, [.int 0, .ref e0, .int 0])), (xp, .inl (cxp, 36, .inl (fun _ => 0))), (xs, .inl (cxs, 36, .inl g)), (xo, .inr (1, [.int 0, .ref e0, .int 0])), (xa, .inr (2, [.int 0, .int 0, .int 0, .null, .int 0, .double 0])), (mm, .inr (11, [.int 0, .ref mk9, .ref mt, .ref mb, .int 0, .int 0, .int 0, .int 0, .null, .int 0, .int 0, .double 0, .int 0, .int 0, .int 0])), (mk9, .inr (1, [.int 0, .ref e0, .int 0])), (mt, .inr (1, [.int 0, .ref e0, .int 0])), (mb, .inr (1, [.int 0, .ref e0, .int 0])), (o, .inl (co, 1, .inr (.inl (fun _ => 0)))), (od, .inl (cod, 1, .inr (.inr (.inr (.inl (fun _ => 0))))))] H) (hD : va_D A [(x, .inr (7, [.ref xk, .ref xb, .ref xo, .ref xa, .int 0, .int 0, .int 0, .int 0])), (xk, .inr (1, [.int 0, .ref e0, .int 0])), (xb, .inr (3, [.ref xt, .ref xp, .ref xs, .int 0])), (xt, .inr (1, [.int 0, .ref e0, .int 0])), (xp, .inl (cxp, 36, .inl (fun _ => 0))), (xs, .inl (cxs, 36, .inl g)), (xo, .inr (1, [.int 0, .ref e0, .int 0])), (xa, .inr (2, [.int 0, .int 0, .int 0, .null, .int 0, .double 0])), (mm, .inr (11, [.int 0, .ref mk9, .ref mt, .ref mb, .int 0, .int 0, .int 0, .int 0, .null, .int 0, .int 0, .double 0, .int 0, .int 0, .int 0])), (mk9, .inr (1, [.int 0, .ref e0, .int 0])), (mt, .inr (1, [.int 0, .ref e0, .int 0])), (mb, .inr (1, [.int 0, .ref e0, .int 0])), (o, .inl (co, 1, .inr (.inl (fun _ => 0)))), (od, .inl (cod, 1, .inr (.inr (.inr (.inl (fun _ => 0))))))]) (hK : va_K D vwCl [(cxp, .int), (cxs, .int), (co, .long), (cod, .double)] s) (hl : lv_has ls 10 [(5, .int 0), (4, .ref od), (3, .ref o), (2, .ref mm), (1, .ref x), (0, .ref b)]) : W p l e room_1 s m #[Value.ref b] below meth c H locs 14 125 (lw_Z below #[Value.ref b] s) (F0 m 474 ls []) := by
  refine lv_aload_n hx hb dL_law_474 rfl (lv_at hl 4 rfl) ?_
  refine lv_aload_n hx hb dL_law_475 rfl (lv_at hl 5 rfl) ?_
  refine lv_iload hx hb dL_law_476 (lv_at hl 0 rfl) ?_
  refine lv_iconst (v := 1) hx hb dL_law_478 (by decide) ?_
  refine lv_iadd hx hb dL_law_479 ?_
  refine lv_topi (fun x_1 ex_1 => ?_)
  obtain rfl : x_1 = 1 := ex_1.trans (by decide)
  refine va_sld hx hb hX hbl hbA hS (by unfold vp_in; decide) dL_law_480 ?_
  refine lv_topi (fun x_2 ex_2 => ?_)
  obtain rfl : x_2 = sc 1 := ex_2.trans (congrArg sc (by decide))
  refine lv_if_eq (tgt := 488) hx hb dL_law_481 (by decide) (fun c_481 => ?_) (fun c_481 => ?_)
  · refine lv_iconst (v := 0) hx hb dL_law_488 (by decide) ?_
    refine lv_aload_n hx hb dL_law_489 rfl (lv_at hl 5 rfl) ?_
    refine lv_iload hx hb dL_law_490 (lv_at hl 0 rfl) ?_
    refine lv_iconst (v := 2) hx hb dL_law_492 (by decide) ?_
    refine lv_iadd hx hb dL_law_493 ?_
    refine lv_topi (fun x_3 ex_3 => ?_)
    obtain rfl : x_3 = 2 := ex_3.trans (by decide)
    refine va_sld hx hb hX hbl hbA hS (by unfold vp_in; decide) dL_law_494 ?_
    refine lv_topi (fun x_4 ex_4 => ?_)
    obtain rfl : x_4 = sc 2 := ex_4.trans (congrArg sc (by decide))
    refine lv_if_eq (tgt := 502) hx hb dL_law_495 (by decide) (fun c_495 => ?_) (fun c_495 => ?_)
    · refine lv_iconst (v := 0) hx hb dL_law_502 (by decide) ?_
      refine kV_i (As := [.int 0, .int 0]) (rest := []) (wr := [(xk, .inr (1, [.int 0, .ref e0, .int 0])), (xb, .inr (3, [.ref xt, .ref xp, .ref xs, .int 0])), (xt, .inr (1, [.int 0, .ref e0, .int 0])), (xp, .inl (cxp, 36, .inl (fun _ => 0))), (xs, .inl (cxs, 36, .inl g)), (xo, .inr (1, [.int 0, .ref e0, .int 0])), (mm, .inr (11, [.int 0, .ref mk9, .ref mt, .ref mb, .int 0, .int 0, .int 0, .int 0, .null, .int 0, .int 0, .double 0, .int 0, .int 0, .int 0])), (mk9, .inr (1, [.int 0, .ref e0, .int 0])), (mt, .inr (1, [.int 0, .ref e0, .int 0])), (mb, .inr (1, [.int 0, .ref e0, .int 0])), (o, .inl (co, 1, .inr (.inl (fun _ => 0)))), (od, .inl (cod, 1, .inr (.inr (.inr (.inl (fun _ => 0))))))]) ⟨hx, hb, hml, hown, hts⟩ (c_person l D e0 _ x xk xb xo xa 0 0 (Or.inl rfl) (Or.inl rfl)) (cwV 2 hts gL_law_X5_person rfl rfl rfl (by decide +kernel) ⟨Nat.le_of_ble_eq_true rfl, Nat.le_of_ble_eq_true rfl⟩) hP hD hK hS hA hE rfl [0, 7] [1, 2, 3, 4, 5, 6, 8, 9, 10, 11, 12, 13] [] rfl rfl (by decide) (by decide) (by decide) rfl 7 0 rfl rfl rfl rfl hl.1 (Nat.le_of_ble_eq_true rfl) dL_law_503 ⟨Nat.le_of_ble_eq_true rfl, Nat.le_of_ble_eq_true rfl⟩ (fun r_5 u9 H locs hw hP hD hK hS => ?_)
      have hw : r_5 = 0 := hw
      subst hw
      have hP : va_P D vwCl [(xk, .inr (1, [.int 0, .ref e0, .int 0])), (xb, .inr (3, [.ref xt, .ref xp, .ref xs, .int 0])), (xt, .inr (1, [.int 0, .ref e0, .int 0])), (xp, .inl (cxp, 36, .inl (fun _ => 0))), (xs, .inl (cxs, 36, .inl g)), (xo, .inr (1, [.int 0, .ref e0, .int 0])), (mm, .inr (11, [.int 0, .ref mk9, .ref mt, .ref mb, .int 0, .int 0, .int 0, .int 0, .null, .int 0, .int 0, .double 0, .int 0, .int 0, .int 0])), (mk9, .inr (1, [.int 0, .ref e0, .int 0])), (mt, .inr (1, [.int 0, .ref e0, .int 0])), (mb, .inr (1, [.int 0, .ref e0, .int 0])), (o, .inl (co, 1, .inr (.inl (fun _ => 0)))), (od, .inl (cod, 1, .inr (.inr (.inr (.inl (fun _ => 0))))))] H := hP
      have hD : va_D A [(xk, .inr (1, [.int 0, .ref e0, .int 0])), (xb, .inr (3, [.ref xt, .ref xp, .ref xs, .int 0])), (xt, .inr (1, [.int 0, .ref e0, .int 0])), (xp, .inl (cxp, 36, .inl (fun _ => 0))), (xs, .inl (cxs, 36, .inl g)), (xo, .inr (1, [.int 0, .ref e0, .int 0])), (mm, .inr (11, [.int 0, .ref mk9, .ref mt, .ref mb, .int 0, .int 0, .int 0, .int 0, .null, .int 0, .int 0, .double 0, .int 0, .int 0, .int 0])), (mk9, .inr (1, [.int 0, .ref e0, .int 0])), (mt, .inr (1, [.int 0, .ref e0, .int 0])), (mb, .inr (1, [.int 0, .ref e0, .int 0])), (o, .inl (co, 1, .inr (.inl (fun _ => 0)))), (od, .inl (cod, 1, .inr (.inr (.inr (.inl (fun _ => 0))))))] := hD
      have hK : va_K D vwCl [(cxp, .int), (cxs, .int), (co, .long), (cod, .double)] s := hK
      refine lv_aload_n hx hb dL_law_506 rfl (lv_at hl 3 rfl) ?_
      refine lv_aload_n hx hb dL_law_507 rfl (lv_at hl 5 rfl) ?_
      refine lv_iload hx hb dL_law_508 (lv_at hl 0 rfl) ?_
      refine lv_iconst (v := 1) hx hb dL_law_510 (by decide) ?_
      refine lv_iadd hx hb dL_law_511 ?_
      refine lv_topi (fun x_6 ex_6 => ?_)
      obtain rfl : x_6 = 1 := ex_6.trans (by decide)
      refine va_sld hx hb hX hbl hbA hS (by unfold vp_in; decide) dL_law_512 ?_
      refine lv_topi (fun x_7 ex_7 => ?_)
      obtain rfl : x_7 = sc 1 := ex_7.trans (congrArg sc (by decide))
      refine lv_if_eq (tgt := 520) hx hb dL_law_513 (by decide) (fun c_513 => ?_) (fun h9 => False.elim (h9 c_481))
      refine lv_iconst (v := 0) hx hb dL_law_520 (by decide) ?_
      refine lv_aload_n hx hb dL_law_521 rfl (lv_at hl 5 rfl) ?_
      refine lv_iload hx hb dL_law_522 (lv_at hl 0 rfl) ?_
      refine lv_iconst (v := 2) hx hb dL_law_524 (by decide) ?_
      refine lv_iadd hx hb dL_law_525 ?_
      refine lv_topi (fun x_8 ex_8 => ?_)
      obtain rfl : x_8 = 2 := ex_8.trans (by decide)
      refine va_sld hx hb hX hbl hbA hS (by unfold vp_in; decide) dL_law_526 ?_
      refine lv_topi (fun x_9 ex_9 => ?_)
      obtain rfl : x_9 = sc 2 := ex_9.trans (congrArg sc (by decide))
      refine lv_if_eq (tgt := 534) hx hb dL_law_527 (by decide) (fun c_527 => ?_) (fun h9 => False.elim (h9 c_495))
      refine lv_iconst (v := 0) hx hb dL_law_534 (by decide) ?_
      refine kV_i (As := [.int 0, .int 0]) (rest := [.int 0]) (wr := [(xk, .inr (1, [.int 0, .ref e0, .int 0])), (xb, .inr (3, [.ref xt, .ref xp, .ref xs, .int 0])), (xt, .inr (1, [.int 0, .ref e0, .int 0])), (xp, .inl (cxp, 36, .inl (fun _ => 0))), (xs, .inl (cxs, 36, .inl g)), (xo, .inr (1, [.int 0, .ref e0, .int 0])), (mk9, .inr (1, [.int 0, .ref e0, .int 0])), (mt, .inr (1, [.int 0, .ref e0, .int 0])), (mb, .inr (1, [.int 0, .ref e0, .int 0])), (o, .inl (co, 1, .inr (.inl (fun _ => 0)))), (od, .inl (cod, 1, .inr (.inr (.inr (.inl (fun _ => 0))))))]) ⟨hx, hb, hml, hown, hts⟩ (c_m_person l D e0 _ mm mk9 mt mb 0 0 (Or.inl rfl) (Or.inl rfl)) (cwV 2 hts gL_law_X9_person rfl rfl rfl (by decide +kernel) ⟨Nat.le_of_ble_eq_true rfl, Nat.le_of_ble_eq_true rfl⟩) hP hD hK hS hA hE rfl [6] [0, 1, 2, 3, 4, 5, 7, 8, 9, 10, 11] [] rfl rfl (by decide) (by decide) (by decide) rfl 11 6 rfl rfl rfl rfl hl.1 (Nat.le_of_ble_eq_true rfl) dL_law_535 ⟨Nat.le_of_ble_eq_true rfl, Nat.le_of_ble_eq_true rfl⟩ (fun r_10 u9 H locs hw hP hD hK hS => ?_)
      have hw : r_10 = 0 := hw
      subst hw
      have hP : va_P D vwCl [(xk, .inr (1, [.int 0, .ref e0, .int 0])), (xb, .inr (3, [.ref xt, .ref xp, .ref xs, .int 0])), (xt, .inr (1, [.int 0, .ref e0, .int 0])), (xp, .inl (cxp, 36, .inl (fun _ => 0))), (xs, .inl (cxs, 36, .inl g)), (xo, .inr (1, [.int 0, .ref e0, .int 0])), (mk9, .inr (1, [.int 0, .ref e0, .int 0])), (mt, .inr (1, [.int 0, .ref e0, .int 0])), (mb, .inr (1, [.int 0, .ref e0, .int 0])), (o, .inl (co, 1, .inr (.inl (fun _ => 0)))), (od, .inl (cod, 1, .inr (.inr (.inr (.inl (fun _ => 0))))))] H := hP
      have hD : va_D A [(xk, .inr (1, [.int 0, .ref e0, .int 0])), (xb, .inr (3, [.ref xt, .ref xp, .ref xs, .int 0])), (xt, .inr (1, [.int 0, .ref e0, .int 0])), (xp, .inl (cxp, 36, .inl (fun _ => 0))), (xs, .inl (cxs, 36, .inl g)), (xo, .inr (1, [.int 0, .ref e0, .int 0])), (mk9, .inr (1, [.int 0, .ref e0, .int 0])), (mt, .inr (1, [.int 0, .ref e0, .int 0])), (mb, .inr (1, [.int 0, .ref e0, .int 0])), (o, .inl (co, 1, .inr (.inl (fun _ => 0)))), (od, .inl (cod, 1, .inr (.inr (.inr (.inl (fun _ => 0))))))] := hD
      have hK : va_K D vwCl [(cxp, .int), (cxs, .int), (co, .long), (cod, .double)] s := hK
      refine lv_icmp_eq (tgt := 1632) hx hb dL_law_538 (by decide) (fun _ => ?_) (fun h9 => absurd (by decide) h9)
      exact law_tail hx hb hr hlocks hX hbl hbA hAs hS (Nat.le_of_ble_eq_true rfl) (Nat.le_of_ble_eq_true rfl) (lv_sub hl [0, 5] rfl)
    · refine lv_iconst (v := 1) hx hb dL_law_498 (by decide) ?_
      refine lv_goto (tgt := 503) hx hb dL_law_499 (by decide) ?_
      refine kV_i (As := [.int 0, .int 1]) (rest := []) (wr := [(xk, .inr (1, [.int 0, .ref e0, .int 0])), (xb, .inr (3, [.ref xt, .ref xp, .ref xs, .int 0])), (xt, .inr (1, [.int 0, .ref e0, .int 0])), (xp, .inl (cxp, 36, .inl (fun _ => 0))), (xs, .inl (cxs, 36, .inl g)), (xo, .inr (1, [.int 0, .ref e0, .int 0])), (mm, .inr (11, [.int 0, .ref mk9, .ref mt, .ref mb, .int 0, .int 0, .int 0, .int 0, .null, .int 0, .int 0, .double 0, .int 0, .int 0, .int 0])), (mk9, .inr (1, [.int 0, .ref e0, .int 0])), (mt, .inr (1, [.int 0, .ref e0, .int 0])), (mb, .inr (1, [.int 0, .ref e0, .int 0])), (o, .inl (co, 1, .inr (.inl (fun _ => 0)))), (od, .inl (cod, 1, .inr (.inr (.inr (.inl (fun _ => 0))))))]) ⟨hx, hb, hml, hown, hts⟩ (c_person l D e0 _ x xk xb xo xa 0 1 (Or.inl rfl) (Or.inr rfl)) (cwV 2 hts gL_law_X5_person rfl rfl rfl (by decide +kernel) ⟨Nat.le_of_ble_eq_true rfl, Nat.le_of_ble_eq_true rfl⟩) hP hD hK hS hA hE rfl [0, 7] [1, 2, 3, 4, 5, 6, 8, 9, 10, 11, 12, 13] [] rfl rfl (by decide) (by decide) (by decide) rfl 7 0 rfl rfl rfl rfl hl.1 (Nat.le_of_ble_eq_true rfl) dL_law_503 ⟨Nat.le_of_ble_eq_true rfl, Nat.le_of_ble_eq_true rfl⟩ (fun r_11 u9 H locs hw hP hD hK hS => ?_)
      have hw : r_11 = 0 := hw
      subst hw
      have hP : va_P D vwCl [(xk, .inr (1, [.int 0, .ref e0, .int 0])), (xb, .inr (3, [.ref xt, .ref xp, .ref xs, .int 0])), (xt, .inr (1, [.int 0, .ref e0, .int 0])), (xp, .inl (cxp, 36, .inl (fun _ => 0))), (xs, .inl (cxs, 36, .inl g)), (xo, .inr (1, [.int 0, .ref e0, .int 0])), (mm, .inr (11, [.int 0, .ref mk9, .ref mt, .ref mb, .int 0, .int 0, .int 0, .int 0, .null, .int 0, .int 0, .double 0, .int 0, .int 0, .int 0])), (mk9, .inr (1, [.int 0, .ref e0, .int 0])), (mt, .inr (1, [.int 0, .ref e0, .int 0])), (mb, .inr (1, [.int 0, .ref e0, .int 0])), (o, .inl (co, 1, .inr (.inl (fun _ => 0)))), (od, .inl (cod, 1, .inr (.inr (.inr (.inl (fun _ => 0))))))] H := hP
      have hD : va_D A [(xk, .inr (1, [.int 0, .ref e0, .int 0])), (xb, .inr (3, [.ref xt, .ref xp, .ref xs, .int 0])), (xt, .inr (1, [.int 0, .ref e0, .int 0])), (xp, .inl (cxp, 36, .inl (fun _ => 0))), (xs, .inl (cxs, 36, .inl g)), (xo, .inr (1, [.int 0, .ref e0, .int 0])), (mm, .inr (11, [.int 0, .ref mk9, .ref mt, .ref mb, .int 0, .int 0, .int 0, .int 0, .null, .int 0, .int 0, .double 0, .int 0, .int 0, .int 0])), (mk9, .inr (1, [.int 0, .ref e0, .int 0])), (mt, .inr (1, [.int 0, .ref e0, .int 0])), (mb, .inr (1, [.int 0, .ref e0, .int 0])), (o, .inl (co, 1, .inr (.inl (fun _ => 0)))), (od, .inl (cod, 1, .inr (.inr (.inr (.inl (fun _ => 0))))))] := hD
      have hK : va_K D vwCl [(cxp, .int), (cxs, .int), (co, .long), (cod, .double)] s := hK
      refine lv_aload_n hx hb dL_law_506 rfl (lv_at hl 3 rfl) ?_
      refine lv_aload_n hx hb dL_law_507 rfl (lv_at hl 5 rfl) ?_
      refine lv_iload hx hb dL_law_508 (lv_at hl 0 rfl) ?_
      refine lv_iconst (v := 1) hx hb dL_law_510 (by decide) ?_
      refine lv_iadd hx hb dL_law_511 ?_
      refine lv_topi (fun x_12 ex_12 => ?_)
      obtain rfl : x_12 = 1 := ex_12.trans (by decide)
      refine va_sld hx hb hX hbl hbA hS (by unfold vp_in; decide) dL_law_512 ?_
      refine lv_topi (fun x_13 ex_13 => ?_)
      obtain rfl : x_13 = sc 1 := ex_13.trans (congrArg sc (by decide))
      refine lv_if_eq (tgt := 520) hx hb dL_law_513 (by decide) (fun c_513 => ?_) (fun h9 => False.elim (h9 c_481))
      refine lv_iconst (v := 0) hx hb dL_law_520 (by decide) ?_
      refine lv_aload_n hx hb dL_law_521 rfl (lv_at hl 5 rfl) ?_
      refine lv_iload hx hb dL_law_522 (lv_at hl 0 rfl) ?_
      refine lv_iconst (v := 2) hx hb dL_law_524 (by decide) ?_
      refine lv_iadd hx hb dL_law_525 ?_
      refine lv_topi (fun x_14 ex_14 => ?_)
      obtain rfl : x_14 = 2 := ex_14.trans (by decide)
      refine va_sld hx hb hX hbl hbA hS (by unfold vp_in; decide) dL_law_526 ?_
      refine lv_topi (fun x_15 ex_15 => ?_)
      obtain rfl : x_15 = sc 2 := ex_15.trans (congrArg sc (by decide))
      refine lv_if_eq (tgt := 534) hx hb dL_law_527 (by decide) (fun h9 => False.elim (c_495 h9)) (fun c_527 => ?_)
      refine lv_iconst (v := 1) hx hb dL_law_530 (by decide) ?_
      refine lv_goto (tgt := 535) hx hb dL_law_531 (by decide) ?_
      refine kV_i (As := [.int 0, .int 1]) (rest := [.int 0]) (wr := [(xk, .inr (1, [.int 0, .ref e0, .int 0])), (xb, .inr (3, [.ref xt, .ref xp, .ref xs, .int 0])), (xt, .inr (1, [.int 0, .ref e0, .int 0])), (xp, .inl (cxp, 36, .inl (fun _ => 0))), (xs, .inl (cxs, 36, .inl g)), (xo, .inr (1, [.int 0, .ref e0, .int 0])), (mk9, .inr (1, [.int 0, .ref e0, .int 0])), (mt, .inr (1, [.int 0, .ref e0, .int 0])), (mb, .inr (1, [.int 0, .ref e0, .int 0])), (o, .inl (co, 1, .inr (.inl (fun _ => 0)))), (od, .inl (cod, 1, .inr (.inr (.inr (.inl (fun _ => 0))))))]) ⟨hx, hb, hml, hown, hts⟩ (c_m_person l D e0 _ mm mk9 mt mb 0 1 (Or.inl rfl) (Or.inr rfl)) (cwV 2 hts gL_law_X9_person rfl rfl rfl (by decide +kernel) ⟨Nat.le_of_ble_eq_true rfl, Nat.le_of_ble_eq_true rfl⟩) hP hD hK hS hA hE rfl [6] [0, 1, 2, 3, 4, 5, 7, 8, 9, 10, 11] [] rfl rfl (by decide) (by decide) (by decide) rfl 11 6 rfl rfl rfl rfl hl.1 (Nat.le_of_ble_eq_true rfl) dL_law_535 ⟨Nat.le_of_ble_eq_true rfl, Nat.le_of_ble_eq_true rfl⟩ (fun r_16 u9 H locs hw hP hD hK hS => ?_)
      have hw : r_16 = 0 := hw
      subst hw
      have hP : va_P D vwCl [(xk, .inr (1, [.int 0, .ref e0, .int 0])), (xb, .inr (3, [.ref xt, .ref xp, .ref xs, .int 0])), (xt, .inr (1, [.int 0, .ref e0, .int 0])), (xp, .inl (cxp, 36, .inl (fun _ => 0))), (xs, .inl (cxs, 36, .inl g)), (xo, .inr (1, [.int 0, .ref e0, .int 0])), (mk9, .inr (1, [.int 0, .ref e0, .int 0])), (mt, .inr (1, [.int 0, .ref e0, .int 0])), (mb, .inr (1, [.int 0, .ref e0, .int 0])), (o, .inl (co, 1, .inr (.inl (fun _ => 0)))), (od, .inl (cod, 1, .inr (.inr (.inr (.inl (fun _ => 0))))))] H := hP
      have hD : va_D A [(xk, .inr (1, [.int 0, .ref e0, .int 0])), (xb, .inr (3, [.ref xt, .ref xp, .ref xs, .int 0])), (xt, .inr (1, [.int 0, .ref e0, .int 0])), (xp, .inl (cxp, 36, .inl (fun _ => 0))), (xs, .inl (cxs, 36, .inl g)), (xo, .inr (1, [.int 0, .ref e0, .int 0])), (mk9, .inr (1, [.int 0, .ref e0, .int 0])), (mt, .inr (1, [.int 0, .ref e0, .int 0])), (mb, .inr (1, [.int 0, .ref e0, .int 0])), (o, .inl (co, 1, .inr (.inl (fun _ => 0)))), (od, .inl (cod, 1, .inr (.inr (.inr (.inl (fun _ => 0))))))] := hD
      have hK : va_K D vwCl [(cxp, .int), (cxs, .int), (co, .long), (cod, .double)] s := hK
      refine lv_icmp_eq (tgt := 1632) hx hb dL_law_538 (by decide) (fun _ => ?_) (fun h9 => absurd (by decide) h9)
      exact law_tail hx hb hr hlocks hX hbl hbA hAs hS (Nat.le_of_ble_eq_true rfl) (Nat.le_of_ble_eq_true rfl) (lv_sub hl [0, 5] rfl)
  · refine lv_iconst (v := 1) hx hb dL_law_484 (by decide) ?_
    refine lv_goto (tgt := 489) hx hb dL_law_485 (by decide) ?_
    refine lv_aload_n hx hb dL_law_489 rfl (lv_at hl 5 rfl) ?_
    refine lv_iload hx hb dL_law_490 (lv_at hl 0 rfl) ?_
    refine lv_iconst (v := 2) hx hb dL_law_492 (by decide) ?_
    refine lv_iadd hx hb dL_law_493 ?_
    refine lv_topi (fun x_17 ex_17 => ?_)
    obtain rfl : x_17 = 2 := ex_17.trans (by decide)
    refine va_sld hx hb hX hbl hbA hS (by unfold vp_in; decide) dL_law_494 ?_
    refine lv_topi (fun x_18 ex_18 => ?_)
    obtain rfl : x_18 = sc 2 := ex_18.trans (congrArg sc (by decide))
    refine lv_if_eq (tgt := 502) hx hb dL_law_495 (by decide) (fun c_495 => ?_) (fun c_495 => ?_)
    · refine lv_iconst (v := 0) hx hb dL_law_502 (by decide) ?_
      refine kV_i (As := [.int 1, .int 0]) (rest := []) (wr := [(xk, .inr (1, [.int 0, .ref e0, .int 0])), (xb, .inr (3, [.ref xt, .ref xp, .ref xs, .int 0])), (xt, .inr (1, [.int 0, .ref e0, .int 0])), (xp, .inl (cxp, 36, .inl (fun _ => 0))), (xs, .inl (cxs, 36, .inl g)), (xo, .inr (1, [.int 0, .ref e0, .int 0])), (mm, .inr (11, [.int 0, .ref mk9, .ref mt, .ref mb, .int 0, .int 0, .int 0, .int 0, .null, .int 0, .int 0, .double 0, .int 0, .int 0, .int 0])), (mk9, .inr (1, [.int 0, .ref e0, .int 0])), (mt, .inr (1, [.int 0, .ref e0, .int 0])), (mb, .inr (1, [.int 0, .ref e0, .int 0])), (o, .inl (co, 1, .inr (.inl (fun _ => 0)))), (od, .inl (cod, 1, .inr (.inr (.inr (.inl (fun _ => 0))))))]) ⟨hx, hb, hml, hown, hts⟩ (c_person l D e0 _ x xk xb xo xa 1 0 (Or.inr rfl) (Or.inl rfl)) (cwV 2 hts gL_law_X5_person rfl rfl rfl (by decide +kernel) ⟨Nat.le_of_ble_eq_true rfl, Nat.le_of_ble_eq_true rfl⟩) hP hD hK hS hA hE rfl [0, 7] [1, 2, 3, 4, 5, 6, 8, 9, 10, 11, 12, 13] [] rfl rfl (by decide) (by decide) (by decide) rfl 7 0 rfl rfl rfl rfl hl.1 (Nat.le_of_ble_eq_true rfl) dL_law_503 ⟨Nat.le_of_ble_eq_true rfl, Nat.le_of_ble_eq_true rfl⟩ (fun r_19 u9 H locs hw hP hD hK hS => ?_)
      have hw : r_19 = 0 := hw
      subst hw
      have hP : va_P D vwCl [(xk, .inr (1, [.int 0, .ref e0, .int 0])), (xb, .inr (3, [.ref xt, .ref xp, .ref xs, .int 0])), (xt, .inr (1, [.int 0, .ref e0, .int 0])), (xp, .inl (cxp, 36, .inl (fun _ => 0))), (xs, .inl (cxs, 36, .inl g)), (xo, .inr (1, [.int 0, .ref e0, .int 0])), (mm, .inr (11, [.int 0, .ref mk9, .ref mt, .ref mb, .int 0, .int 0, .int 0, .int 0, .null, .int 0, .int 0, .double 0, .int 0, .int 0, .int 0])), (mk9, .inr (1, [.int 0, .ref e0, .int 0])), (mt, .inr (1, [.int 0, .ref e0, .int 0])), (mb, .inr (1, [.int 0, .ref e0, .int 0])), (o, .inl (co, 1, .inr (.inl (fun _ => 0)))), (od, .inl (cod, 1, .inr (.inr (.inr (.inl (fun _ => 0))))))] H := hP
      have hD : va_D A [(xk, .inr (1, [.int 0, .ref e0, .int 0])), (xb, .inr (3, [.ref xt, .ref xp, .ref xs, .int 0])), (xt, .inr (1, [.int 0, .ref e0, .int 0])), (xp, .inl (cxp, 36, .inl (fun _ => 0))), (xs, .inl (cxs, 36, .inl g)), (xo, .inr (1, [.int 0, .ref e0, .int 0])), (mm, .inr (11, [.int 0, .ref mk9, .ref mt, .ref mb, .int 0, .int 0, .int 0, .int 0, .null, .int 0, .int 0, .double 0, .int 0, .int 0, .int 0])), (mk9, .inr (1, [.int 0, .ref e0, .int 0])), (mt, .inr (1, [.int 0, .ref e0, .int 0])), (mb, .inr (1, [.int 0, .ref e0, .int 0])), (o, .inl (co, 1, .inr (.inl (fun _ => 0)))), (od, .inl (cod, 1, .inr (.inr (.inr (.inl (fun _ => 0))))))] := hD
      have hK : va_K D vwCl [(cxp, .int), (cxs, .int), (co, .long), (cod, .double)] s := hK
      refine lv_aload_n hx hb dL_law_506 rfl (lv_at hl 3 rfl) ?_
      refine lv_aload_n hx hb dL_law_507 rfl (lv_at hl 5 rfl) ?_
      refine lv_iload hx hb dL_law_508 (lv_at hl 0 rfl) ?_
      refine lv_iconst (v := 1) hx hb dL_law_510 (by decide) ?_
      refine lv_iadd hx hb dL_law_511 ?_
      refine lv_topi (fun x_20 ex_20 => ?_)
      obtain rfl : x_20 = 1 := ex_20.trans (by decide)
      refine va_sld hx hb hX hbl hbA hS (by unfold vp_in; decide) dL_law_512 ?_
      refine lv_topi (fun x_21 ex_21 => ?_)
      obtain rfl : x_21 = sc 1 := ex_21.trans (congrArg sc (by decide))
      refine lv_if_eq (tgt := 520) hx hb dL_law_513 (by decide) (fun h9 => False.elim (c_481 h9)) (fun c_513 => ?_)
      refine lv_iconst (v := 1) hx hb dL_law_516 (by decide) ?_
      refine lv_goto (tgt := 521) hx hb dL_law_517 (by decide) ?_
      refine lv_aload_n hx hb dL_law_521 rfl (lv_at hl 5 rfl) ?_
      refine lv_iload hx hb dL_law_522 (lv_at hl 0 rfl) ?_
      refine lv_iconst (v := 2) hx hb dL_law_524 (by decide) ?_
      refine lv_iadd hx hb dL_law_525 ?_
      refine lv_topi (fun x_22 ex_22 => ?_)
      obtain rfl : x_22 = 2 := ex_22.trans (by decide)
      refine va_sld hx hb hX hbl hbA hS (by unfold vp_in; decide) dL_law_526 ?_
      refine lv_topi (fun x_23 ex_23 => ?_)
      obtain rfl : x_23 = sc 2 := ex_23.trans (congrArg sc (by decide))
      refine lv_if_eq (tgt := 534) hx hb dL_law_527 (by decide) (fun c_527 => ?_) (fun h9 => False.elim (h9 c_495))
      refine lv_iconst (v := 0) hx hb dL_law_534 (by decide) ?_
      refine kV_i (As := [.int 1, .int 0]) (rest := [.int 0]) (wr := [(xk, .inr (1, [.int 0, .ref e0, .int 0])), (xb, .inr (3, [.ref xt, .ref xp, .ref xs, .int 0])), (xt, .inr (1, [.int 0, .ref e0, .int 0])), (xp, .inl (cxp, 36, .inl (fun _ => 0))), (xs, .inl (cxs, 36, .inl g)), (xo, .inr (1, [.int 0, .ref e0, .int 0])), (mk9, .inr (1, [.int 0, .ref e0, .int 0])), (mt, .inr (1, [.int 0, .ref e0, .int 0])), (mb, .inr (1, [.int 0, .ref e0, .int 0])), (o, .inl (co, 1, .inr (.inl (fun _ => 0)))), (od, .inl (cod, 1, .inr (.inr (.inr (.inl (fun _ => 0))))))]) ⟨hx, hb, hml, hown, hts⟩ (c_m_person l D e0 _ mm mk9 mt mb 1 0 (Or.inr rfl) (Or.inl rfl)) (cwV 2 hts gL_law_X9_person rfl rfl rfl (by decide +kernel) ⟨Nat.le_of_ble_eq_true rfl, Nat.le_of_ble_eq_true rfl⟩) hP hD hK hS hA hE rfl [6] [0, 1, 2, 3, 4, 5, 7, 8, 9, 10, 11] [] rfl rfl (by decide) (by decide) (by decide) rfl 11 6 rfl rfl rfl rfl hl.1 (Nat.le_of_ble_eq_true rfl) dL_law_535 ⟨Nat.le_of_ble_eq_true rfl, Nat.le_of_ble_eq_true rfl⟩ (fun r_24 u9 H locs hw hP hD hK hS => ?_)
      have hw : r_24 = 0 := hw
      subst hw
      have hP : va_P D vwCl [(xk, .inr (1, [.int 0, .ref e0, .int 0])), (xb, .inr (3, [.ref xt, .ref xp, .ref xs, .int 0])), (xt, .inr (1, [.int 0, .ref e0, .int 0])), (xp, .inl (cxp, 36, .inl (fun _ => 0))), (xs, .inl (cxs, 36, .inl g)), (xo, .inr (1, [.int 0, .ref e0, .int 0])), (mk9, .inr (1, [.int 0, .ref e0, .int 0])), (mt, .inr (1, [.int 0, .ref e0, .int 0])), (mb, .inr (1, [.int 0, .ref e0, .int 0])), (o, .inl (co, 1, .inr (.inl (fun _ => 0)))), (od, .inl (cod, 1, .inr (.inr (.inr (.inl (fun _ => 0))))))] H := hP
      have hD : va_D A [(xk, .inr (1, [.int 0, .ref e0, .int 0])), (xb, .inr (3, [.ref xt, .ref xp, .ref xs, .int 0])), (xt, .inr (1, [.int 0, .ref e0, .int 0])), (xp, .inl (cxp, 36, .inl (fun _ => 0))), (xs, .inl (cxs, 36, .inl g)), (xo, .inr (1, [.int 0, .ref e0, .int 0])), (mk9, .inr (1, [.int 0, .ref e0, .int 0])), (mt, .inr (1, [.int 0, .ref e0, .int 0])), (mb, .inr (1, [.int 0, .ref e0, .int 0])), (o, .inl (co, 1, .inr (.inl (fun _ => 0)))), (od, .inl (cod, 1, .inr (.inr (.inr (.inl (fun _ => 0))))))] := hD
      have hK : va_K D vwCl [(cxp, .int), (cxs, .int), (co, .long), (cod, .double)] s := hK
      refine lv_icmp_eq (tgt := 1632) hx hb dL_law_538 (by decide) (fun _ => ?_) (fun h9 => absurd (by decide) h9)
      exact law_tail hx hb hr hlocks hX hbl hbA hAs hS (Nat.le_of_ble_eq_true rfl) (Nat.le_of_ble_eq_true rfl) (lv_sub hl [0, 5] rfl)
    · refine lv_iconst (v := 1) hx hb dL_law_498 (by decide) ?_
      refine lv_goto (tgt := 503) hx hb dL_law_499 (by decide) ?_
      refine kV_i (As := [.int 1, .int 1]) (rest := []) (wr := [(xk, .inr (1, [.int 0, .ref e0, .int 0])), (xb, .inr (3, [.ref xt, .ref xp, .ref xs, .int 0])), (xt, .inr (1, [.int 0, .ref e0, .int 0])), (xp, .inl (cxp, 36, .inl (fun _ => 0))), (xs, .inl (cxs, 36, .inl g)), (xo, .inr (1, [.int 0, .ref e0, .int 0])), (mm, .inr (11, [.int 0, .ref mk9, .ref mt, .ref mb, .int 0, .int 0, .int 0, .int 0, .null, .int 0, .int 0, .double 0, .int 0, .int 0, .int 0])), (mk9, .inr (1, [.int 0, .ref e0, .int 0])), (mt, .inr (1, [.int 0, .ref e0, .int 0])), (mb, .inr (1, [.int 0, .ref e0, .int 0])), (o, .inl (co, 1, .inr (.inl (fun _ => 0)))), (od, .inl (cod, 1, .inr (.inr (.inr (.inl (fun _ => 0))))))]) ⟨hx, hb, hml, hown, hts⟩ (c_person l D e0 _ x xk xb xo xa 1 1 (Or.inr rfl) (Or.inr rfl)) (cwV 2 hts gL_law_X5_person rfl rfl rfl (by decide +kernel) ⟨Nat.le_of_ble_eq_true rfl, Nat.le_of_ble_eq_true rfl⟩) hP hD hK hS hA hE rfl [0, 7] [1, 2, 3, 4, 5, 6, 8, 9, 10, 11, 12, 13] [] rfl rfl (by decide) (by decide) (by decide) rfl 7 0 rfl rfl rfl rfl hl.1 (Nat.le_of_ble_eq_true rfl) dL_law_503 ⟨Nat.le_of_ble_eq_true rfl, Nat.le_of_ble_eq_true rfl⟩ (fun r_25 u9 H locs hw hP hD hK hS => ?_)
      have hw : r_25 = 0 := hw
      subst hw
      have hP : va_P D vwCl [(xk, .inr (1, [.int 0, .ref e0, .int 0])), (xb, .inr (3, [.ref xt, .ref xp, .ref xs, .int 0])), (xt, .inr (1, [.int 0, .ref e0, .int 0])), (xp, .inl (cxp, 36, .inl (fun _ => 0))), (xs, .inl (cxs, 36, .inl g)), (xo, .inr (1, [.int 0, .ref e0, .int 0])), (mm, .inr (11, [.int 0, .ref mk9, .ref mt, .ref mb, .int 0, .int 0, .int 0, .int 0, .null, .int 0, .int 0, .double 0, .int 0, .int 0, .int 0])), (mk9, .inr (1, [.int 0, .ref e0, .int 0])), (mt, .inr (1, [.int 0, .ref e0, .int 0])), (mb, .inr (1, [.int 0, .ref e0, .int 0])), (o, .inl (co, 1, .inr (.inl (fun _ => 0)))), (od, .inl (cod, 1, .inr (.inr (.inr (.inl (fun _ => 0))))))] H := hP
      have hD : va_D A [(xk, .inr (1, [.int 0, .ref e0, .int 0])), (xb, .inr (3, [.ref xt, .ref xp, .ref xs, .int 0])), (xt, .inr (1, [.int 0, .ref e0, .int 0])), (xp, .inl (cxp, 36, .inl (fun _ => 0))), (xs, .inl (cxs, 36, .inl g)), (xo, .inr (1, [.int 0, .ref e0, .int 0])), (mm, .inr (11, [.int 0, .ref mk9, .ref mt, .ref mb, .int 0, .int 0, .int 0, .int 0, .null, .int 0, .int 0, .double 0, .int 0, .int 0, .int 0])), (mk9, .inr (1, [.int 0, .ref e0, .int 0])), (mt, .inr (1, [.int 0, .ref e0, .int 0])), (mb, .inr (1, [.int 0, .ref e0, .int 0])), (o, .inl (co, 1, .inr (.inl (fun _ => 0)))), (od, .inl (cod, 1, .inr (.inr (.inr (.inl (fun _ => 0))))))] := hD
      have hK : va_K D vwCl [(cxp, .int), (cxs, .int), (co, .long), (cod, .double)] s := hK
      refine lv_aload_n hx hb dL_law_506 rfl (lv_at hl 3 rfl) ?_
      refine lv_aload_n hx hb dL_law_507 rfl (lv_at hl 5 rfl) ?_
      refine lv_iload hx hb dL_law_508 (lv_at hl 0 rfl) ?_
      refine lv_iconst (v := 1) hx hb dL_law_510 (by decide) ?_
      refine lv_iadd hx hb dL_law_511 ?_
      refine lv_topi (fun x_26 ex_26 => ?_)
      obtain rfl : x_26 = 1 := ex_26.trans (by decide)
      refine va_sld hx hb hX hbl hbA hS (by unfold vp_in; decide) dL_law_512 ?_
      refine lv_topi (fun x_27 ex_27 => ?_)
      obtain rfl : x_27 = sc 1 := ex_27.trans (congrArg sc (by decide))
      refine lv_if_eq (tgt := 520) hx hb dL_law_513 (by decide) (fun h9 => False.elim (c_481 h9)) (fun c_513 => ?_)
      refine lv_iconst (v := 1) hx hb dL_law_516 (by decide) ?_
      refine lv_goto (tgt := 521) hx hb dL_law_517 (by decide) ?_
      refine lv_aload_n hx hb dL_law_521 rfl (lv_at hl 5 rfl) ?_
      refine lv_iload hx hb dL_law_522 (lv_at hl 0 rfl) ?_
      refine lv_iconst (v := 2) hx hb dL_law_524 (by decide) ?_
      refine lv_iadd hx hb dL_law_525 ?_
      refine lv_topi (fun x_28 ex_28 => ?_)
      obtain rfl : x_28 = 2 := ex_28.trans (by decide)
      refine va_sld hx hb hX hbl hbA hS (by unfold vp_in; decide) dL_law_526 ?_
      refine lv_topi (fun x_29 ex_29 => ?_)
      obtain rfl : x_29 = sc 2 := ex_29.trans (congrArg sc (by decide))
      refine lv_if_eq (tgt := 534) hx hb dL_law_527 (by decide) (fun h9 => False.elim (c_495 h9)) (fun c_527 => ?_)
      refine lv_iconst (v := 1) hx hb dL_law_530 (by decide) ?_
      refine lv_goto (tgt := 535) hx hb dL_law_531 (by decide) ?_
      refine kV_i (As := [.int 1, .int 1]) (rest := [.int 0]) (wr := [(xk, .inr (1, [.int 0, .ref e0, .int 0])), (xb, .inr (3, [.ref xt, .ref xp, .ref xs, .int 0])), (xt, .inr (1, [.int 0, .ref e0, .int 0])), (xp, .inl (cxp, 36, .inl (fun _ => 0))), (xs, .inl (cxs, 36, .inl g)), (xo, .inr (1, [.int 0, .ref e0, .int 0])), (mk9, .inr (1, [.int 0, .ref e0, .int 0])), (mt, .inr (1, [.int 0, .ref e0, .int 0])), (mb, .inr (1, [.int 0, .ref e0, .int 0])), (o, .inl (co, 1, .inr (.inl (fun _ => 0)))), (od, .inl (cod, 1, .inr (.inr (.inr (.inl (fun _ => 0))))))]) ⟨hx, hb, hml, hown, hts⟩ (c_m_person l D e0 _ mm mk9 mt mb 1 1 (Or.inr rfl) (Or.inr rfl)) (cwV 2 hts gL_law_X9_person rfl rfl rfl (by decide +kernel) ⟨Nat.le_of_ble_eq_true rfl, Nat.le_of_ble_eq_true rfl⟩) hP hD hK hS hA hE rfl [6] [0, 1, 2, 3, 4, 5, 7, 8, 9, 10, 11] [] rfl rfl (by decide) (by decide) (by decide) rfl 11 6 rfl rfl rfl rfl hl.1 (Nat.le_of_ble_eq_true rfl) dL_law_535 ⟨Nat.le_of_ble_eq_true rfl, Nat.le_of_ble_eq_true rfl⟩ (fun r_30 u9 H locs hw hP hD hK hS => ?_)
      have hw : r_30 = 0 := hw
      subst hw
      have hP : va_P D vwCl [(xk, .inr (1, [.int 0, .ref e0, .int 0])), (xb, .inr (3, [.ref xt, .ref xp, .ref xs, .int 0])), (xt, .inr (1, [.int 0, .ref e0, .int 0])), (xp, .inl (cxp, 36, .inl (fun _ => 0))), (xs, .inl (cxs, 36, .inl g)), (xo, .inr (1, [.int 0, .ref e0, .int 0])), (mk9, .inr (1, [.int 0, .ref e0, .int 0])), (mt, .inr (1, [.int 0, .ref e0, .int 0])), (mb, .inr (1, [.int 0, .ref e0, .int 0])), (o, .inl (co, 1, .inr (.inl (fun _ => 0)))), (od, .inl (cod, 1, .inr (.inr (.inr (.inl (fun _ => 0))))))] H := hP
      have hD : va_D A [(xk, .inr (1, [.int 0, .ref e0, .int 0])), (xb, .inr (3, [.ref xt, .ref xp, .ref xs, .int 0])), (xt, .inr (1, [.int 0, .ref e0, .int 0])), (xp, .inl (cxp, 36, .inl (fun _ => 0))), (xs, .inl (cxs, 36, .inl g)), (xo, .inr (1, [.int 0, .ref e0, .int 0])), (mk9, .inr (1, [.int 0, .ref e0, .int 0])), (mt, .inr (1, [.int 0, .ref e0, .int 0])), (mb, .inr (1, [.int 0, .ref e0, .int 0])), (o, .inl (co, 1, .inr (.inl (fun _ => 0)))), (od, .inl (cod, 1, .inr (.inr (.inr (.inl (fun _ => 0))))))] := hD
      have hK : va_K D vwCl [(cxp, .int), (cxs, .int), (co, .long), (cod, .double)] s := hK
      refine lv_icmp_eq (tgt := 1632) hx hb dL_law_538 (by decide) (fun _ => ?_) (fun h9 => absurd (by decide) h9)
      exact law_tail hx hb hr hlocks hX hbl hbA hAs hS (Nat.le_of_ble_eq_true rfl) (Nat.le_of_ble_eq_true rfl) (lv_sub hl [0, 5] rfl)
set_option maxHeartbeats 4000000 in
set_option maxRecDepth 100000 in
theorem law_case_5 {p : Program} {l : Launch} {e : Env} {s : State} {m : MethodId} {below : List Frame} {meth : Method} {c : Code} {b : Nat} {sc : Nat → Int32} {A : Nat → Prop} {H : Heap} {locs : List Loc} {ls : Array Slot} {D : va_G} {e0 x xk xb xt xp xs xo xa mm mk9 mt mb o od : Nat} {cxp cxs co cod : ClassId} {g : Nat → Int32} (hl9 : l.stackTraces = false) (hx : p.tables.exec = Jvm.exec) (hb : c.code = cL_law) (hr : meth.sig.returnType = ret) (hlocks : meth.locks = false) (hX : va_X b 7 sc s s.heap) (hbl : b < s.heap.size) (hbA : ¬ A b) (hAs : ∀ q, A q → s.heap.size ≤ q) (hS : va_S A s.heap H locs) (hml : c.maxLocals = 10) (hown : s.vm.findClass RL = some m.cls) (hts0 : ∀ w ∈ lw_tbl, w.before #[Value.ref b] s = true) (hts : ∀ w ∈ wsL_law, w.before #[Value.ref b] s = true) (hA : ∀ q, s.heap.size ≤ q → A q) (hE : EV e0 A s s.heap) (hg : ∀ j, j < 36 → g j = -1) (hP : va_P D vwCl [(x, .inr (7, [.ref xk, .ref xb, .ref xo, .ref xa, .int 0, .int 0, .int 0, .int 0])), (xk, .inr (1, [.int 0, .ref e0, .int 0])), (xb, .inr (3, [.ref xt, .ref xp, .ref xs, .int 0])), (xt, .inr (1, [.int 0, .ref e0, .int 0])), (xp, .inl (cxp, 36, .inl (fun _ => 0))), (xs, .inl (cxs, 36, .inl g)), (xo, .inr (1, [.int 0, .ref e0, .int 0])), (xa, .inr (2, [.int 0, .int 0, .int 0, .null, .int 0, .double 0])), (mm, .inr (11, [.int 0, .ref mk9, .ref mt, .ref mb, .int 0, .int 0, .int 0, .int 0, .null, .int 0, .int 0, .double 0, .int 0, .int 0, .int 0])), (mk9, .inr (1, [.int 0, .ref e0, .int 0])), (mt, .inr (1, [.int 0, .ref e0, .int 0])), (mb, .inr (1, [.int 0, .ref e0, .int 0])), (o, .inl (co, 1, .inr (.inl (fun _ => 0)))), (od, .inl (cod, 1, .inr (.inr (.inr (.inl (fun _ => 0))))))] H) (hD : va_D A [(x, .inr (7, [.ref xk, .ref xb, .ref xo, .ref xa, .int 0, .int 0, .int 0, .int 0])), (xk, .inr (1, [.int 0, .ref e0, .int 0])), (xb, .inr (3, [.ref xt, .ref xp, .ref xs, .int 0])), (xt, .inr (1, [.int 0, .ref e0, .int 0])), (xp, .inl (cxp, 36, .inl (fun _ => 0))), (xs, .inl (cxs, 36, .inl g)), (xo, .inr (1, [.int 0, .ref e0, .int 0])), (xa, .inr (2, [.int 0, .int 0, .int 0, .null, .int 0, .double 0])), (mm, .inr (11, [.int 0, .ref mk9, .ref mt, .ref mb, .int 0, .int 0, .int 0, .int 0, .null, .int 0, .int 0, .double 0, .int 0, .int 0, .int 0])), (mk9, .inr (1, [.int 0, .ref e0, .int 0])), (mt, .inr (1, [.int 0, .ref e0, .int 0])), (mb, .inr (1, [.int 0, .ref e0, .int 0])), (o, .inl (co, 1, .inr (.inl (fun _ => 0)))), (od, .inl (cod, 1, .inr (.inr (.inr (.inl (fun _ => 0))))))]) (hK : va_K D vwCl [(cxp, .int), (cxs, .int), (co, .long), (cod, .double)] s) (hl : lv_has ls 10 [(5, .int 0), (4, .ref od), (3, .ref o), (2, .ref mm), (1, .ref x), (0, .ref b)]) : W p l e room_1 s m #[Value.ref b] below meth c H locs 14 125 (lw_Z below #[Value.ref b] s) (F0 m 543 ls []) := by
  refine lv_aload_n hx hb dL_law_543 rfl (lv_at hl 4 rfl) ?_
  refine lv_aload_n hx hb dL_law_544 rfl (lv_at hl 5 rfl) ?_
  refine lv_iload hx hb dL_law_545 (lv_at hl 0 rfl) ?_
  refine lv_iconst (v := 1) hx hb dL_law_547 (by decide) ?_
  refine lv_iadd hx hb dL_law_548 ?_
  refine lv_topi (fun x_1 ex_1 => ?_)
  obtain rfl : x_1 = 1 := ex_1.trans (by decide)
  refine va_sld hx hb hX hbl hbA hS (by unfold vp_in; decide) dL_law_549 ?_
  refine lv_topi (fun x_2 ex_2 => ?_)
  obtain rfl : x_2 = sc 1 := ex_2.trans (congrArg sc (by decide))
  refine lv_aload_n hx hb dL_law_550 rfl (lv_at hl 2 rfl) ?_
  refine kSW_i (As := [.ref x, .int (sc 1), .ref o]) (rest := []) (wr := [(xb, .inr (3, [.ref xt, .ref xp, .ref xs, .int 0])), (xt, .inr (1, [.int 0, .ref e0, .int 0])), (xp, .inl (cxp, 36, .inl (fun _ => 0))), (xs, .inl (cxs, 36, .inl g)), (xo, .inr (1, [.int 0, .ref e0, .int 0])), (xa, .inr (2, [.int 0, .int 0, .int 0, .null, .int 0, .double 0])), (mm, .inr (11, [.int 0, .ref mk9, .ref mt, .ref mb, .int 0, .int 0, .int 0, .int 0, .null, .int 0, .int 0, .double 0, .int 0, .int 0, .int 0])), (mk9, .inr (1, [.int 0, .ref e0, .int 0])), (mt, .inr (1, [.int 0, .ref e0, .int 0])), (mb, .inr (1, [.int 0, .ref e0, .int 0])), (od, .inl (cod, 1, .inr (.inr (.inr (.inl (fun _ => 0))))))]) ⟨hx, hb, hml, hown, hts⟩ (c_w_box l hl9 D e0 _ x xk xb xo xa 0 o co (fun _ => 0) (sc 1)) (vx_cwSW 3 hts gL_law_L_box rfl rfl rfl (by decide +kernel) ⟨Nat.le_of_ble_eq_true rfl, Nat.le_of_ble_eq_true rfl⟩) hP hD hK hS hA hE rfl [0, 1, 12] [2, 3, 4, 5, 6, 7, 8, 9, 10, 11, 13] [2] rfl rfl (by decide) (by decide) (by decide) rfl rfl hl.1 (Nat.le_of_ble_eq_true rfl) dL_law_551 ⟨Nat.le_of_ble_eq_true rfl, Nat.le_of_ble_eq_true rfl⟩ (fun r_3 u9 H locs hw hP hD hK hS => ?_)
  have hw : r_3 = 1 := hw
  subst hw
  have hP : va_P D vwCl [(xb, .inr (3, [.ref xt, .ref xp, .ref xs, .int 0])), (xt, .inr (1, [.int 0, .ref e0, .int 0])), (xp, .inl (cxp, 36, .inl (fun _ => 0))), (xs, .inl (cxs, 36, .inl g)), (xo, .inr (1, [.int 0, .ref e0, .int 0])), (xa, .inr (2, [.int 0, .int 0, .int 0, .null, .int 0, .double 0])), (mm, .inr (11, [.int 0, .ref mk9, .ref mt, .ref mb, .int 0, .int 0, .int 0, .int 0, .null, .int 0, .int 0, .double 0, .int 0, .int 0, .int 0])), (mk9, .inr (1, [.int 0, .ref e0, .int 0])), (mt, .inr (1, [.int 0, .ref e0, .int 0])), (mb, .inr (1, [.int 0, .ref e0, .int 0])), (od, .inl (cod, 1, .inr (.inr (.inr (.inl (fun _ => 0))))))] H := hP
  have hD : va_D A [(xb, .inr (3, [.ref xt, .ref xp, .ref xs, .int 0])), (xt, .inr (1, [.int 0, .ref e0, .int 0])), (xp, .inl (cxp, 36, .inl (fun _ => 0))), (xs, .inl (cxs, 36, .inl g)), (xo, .inr (1, [.int 0, .ref e0, .int 0])), (xa, .inr (2, [.int 0, .int 0, .int 0, .null, .int 0, .double 0])), (mm, .inr (11, [.int 0, .ref mk9, .ref mt, .ref mb, .int 0, .int 0, .int 0, .int 0, .null, .int 0, .int 0, .double 0, .int 0, .int 0, .int 0])), (mk9, .inr (1, [.int 0, .ref e0, .int 0])), (mt, .inr (1, [.int 0, .ref e0, .int 0])), (mb, .inr (1, [.int 0, .ref e0, .int 0])), (od, .inl (cod, 1, .inr (.inr (.inr (.inl (fun _ => 0))))))] := hD
  have hK : va_K D vwCl [(cxp, .int), (cxs, .int), (co, .long), (cod, .double)] s := hK
  refine lv_istore (lv' := [(6, .int 1), (5, .int 0), (4, .ref od), (3, .ref o), (2, .ref mm), (1, .ref x), (0, .ref b)]) hx hb dL_law_554 hl (by decide) rfl (fun ls hl => ?_)
  refine lv_aload_n hx hb dL_law_556 rfl (lv_at hl 4 rfl) ?_
  refine lv_aload_n hx hb dL_law_557 rfl (lv_at hl 6 rfl) ?_
  refine lv_iload hx hb dL_law_558 (lv_at hl 1 rfl) ?_
  refine lv_iconst (v := 1) hx hb dL_law_560 (by decide) ?_
  refine lv_iadd hx hb dL_law_561 ?_
  refine lv_topi (fun x_4 ex_4 => ?_)
  obtain rfl : x_4 = 1 := ex_4.trans (by decide)
  refine va_sld hx hb hX hbl hbA hS (by unfold vp_in; decide) dL_law_562 ?_
  refine lv_topi (fun x_5 ex_5 => ?_)
  obtain rfl : x_5 = sc 1 := ex_5.trans (congrArg sc (by decide))
  refine kV_i (As := [.int (sc 1)]) (rest := []) (wr := [(xb, .inr (3, [.ref xt, .ref xp, .ref xs, .int 0])), (xt, .inr (1, [.int 0, .ref e0, .int 0])), (xp, .inl (cxp, 36, .inl (fun _ => 0))), (xs, .inl (cxs, 36, .inl g)), (xo, .inr (1, [.int 0, .ref e0, .int 0])), (xa, .inr (2, [.int 0, .int 0, .int 0, .null, .int 0, .double 0])), (mt, .inr (1, [.int 0, .ref e0, .int 0])), (mb, .inr (1, [.int 0, .ref e0, .int 0])), (od, .inl (cod, 1, .inr (.inr (.inr (.inl (fun _ => 0))))))]) ⟨hx, hb, hml, hown, hts⟩ (c_m_box l D e0 _ mm mk9 mt mb (sc 1)) (cwV 1 hts gL_law_X9_box rfl rfl rfl (by decide +kernel) ⟨Nat.le_of_ble_eq_true rfl, Nat.le_of_ble_eq_true rfl⟩) hP hD hK hS hA hE rfl [6, 7] [0, 1, 2, 3, 4, 5, 8, 9, 10] [] rfl rfl (by decide) (by decide) (by decide) rfl 11 6 rfl rfl rfl rfl hl.1 (Nat.le_of_ble_eq_true rfl) dL_law_563 ⟨Nat.le_of_ble_eq_true rfl, Nat.le_of_ble_eq_true rfl⟩ (fun r_6 u9 H locs hw hP hD hK hS => ?_)
  have hw : r_6 = 0 := hw
  subst hw
  have hP : va_P D vwCl [(xb, .inr (3, [.ref xt, .ref xp, .ref xs, .int 0])), (xt, .inr (1, [.int 0, .ref e0, .int 0])), (xp, .inl (cxp, 36, .inl (fun _ => 0))), (xs, .inl (cxs, 36, .inl g)), (xo, .inr (1, [.int 0, .ref e0, .int 0])), (xa, .inr (2, [.int 0, .int 0, .int 0, .null, .int 0, .double 0])), (mt, .inr (1, [.int 0, .ref e0, .int 0])), (mb, .inr (1, [.int 0, .ref e0, .int 0])), (od, .inl (cod, 1, .inr (.inr (.inr (.inl (fun _ => 0)))))), (mm, .inr (11, [.int 1, .ref mk9, .ref mt, .ref mb, .int 0, .int 0, .int 0, .int 0, .null, .int 0, .int 0, .double 0, .int 0, .int 0, .int 0]))] H := hP
  have hD : va_D A [(xb, .inr (3, [.ref xt, .ref xp, .ref xs, .int 0])), (xt, .inr (1, [.int 0, .ref e0, .int 0])), (xp, .inl (cxp, 36, .inl (fun _ => 0))), (xs, .inl (cxs, 36, .inl g)), (xo, .inr (1, [.int 0, .ref e0, .int 0])), (xa, .inr (2, [.int 0, .int 0, .int 0, .null, .int 0, .double 0])), (mt, .inr (1, [.int 0, .ref e0, .int 0])), (mb, .inr (1, [.int 0, .ref e0, .int 0])), (od, .inl (cod, 1, .inr (.inr (.inr (.inl (fun _ => 0)))))), (mm, .inr (11, [.int 1, .ref mk9, .ref mt, .ref mb, .int 0, .int 0, .int 0, .int 0, .null, .int 0, .int 0, .double 0, .int 0, .int 0, .int 0]))] := hD
  have hK : va_K D vwCl [(cxp, .int), (cxs, .int), (co, .long), (cod, .double)] s := hK
  refine lv_istore (lv' := [(7, .int 0), (6, .int 1), (5, .int 0), (4, .ref od), (3, .ref o), (2, .ref mm), (1, .ref x), (0, .ref b)]) hx hb dL_law_566 hl (by decide) rfl (fun ls hl => ?_)
  refine lv_aload_n hx hb dL_law_568 rfl (lv_at hl 5 rfl) ?_
  refine kV_i (As := []) (rest := []) (wr := [(xb, .inr (3, [.ref xt, .ref xp, .ref xs, .int 0])), (xt, .inr (1, [.int 0, .ref e0, .int 0])), (xp, .inl (cxp, 36, .inl (fun _ => 0))), (xs, .inl (cxs, 36, .inl g)), (xo, .inr (1, [.int 0, .ref e0, .int 0])), (xa, .inr (2, [.int 0, .int 0, .int 0, .null, .int 0, .double 0])), (mt, .inr (1, [.int 0, .ref e0, .int 0])), (mb, .inr (1, [.int 0, .ref e0, .int 0])), (od, .inl (cod, 1, .inr (.inr (.inr (.inl (fun _ => 0))))))]) ⟨hx, hb, hml, hown, hts⟩ (c_thrown l D e0 _ mm mk9 mt mb 1) (cwV 0 hts gL_law_X9_thrown rfl rfl rfl (by decide +kernel) ⟨Nat.le_of_ble_eq_true rfl, Nat.le_of_ble_eq_true rfl⟩) hP hD hK hS hA hE rfl [9] [0, 1, 2, 3, 4, 5, 6, 7, 8] [] rfl rfl (by decide) (by decide) (by decide) rfl 11 9 rfl rfl rfl rfl hl.1 (Nat.le_of_ble_eq_true rfl) dL_law_569 ⟨Nat.le_of_ble_eq_true rfl, Nat.le_of_ble_eq_true rfl⟩ (fun r_7 u9 H locs hw hP hD hK hS => ?_)
  have hw : r_7 = 1 := hw
  subst hw
  have hP : va_P D vwCl [(xb, .inr (3, [.ref xt, .ref xp, .ref xs, .int 0])), (xt, .inr (1, [.int 0, .ref e0, .int 0])), (xp, .inl (cxp, 36, .inl (fun _ => 0))), (xs, .inl (cxs, 36, .inl g)), (xo, .inr (1, [.int 0, .ref e0, .int 0])), (xa, .inr (2, [.int 0, .int 0, .int 0, .null, .int 0, .double 0])), (mt, .inr (1, [.int 0, .ref e0, .int 0])), (mb, .inr (1, [.int 0, .ref e0, .int 0])), (od, .inl (cod, 1, .inr (.inr (.inr (.inl (fun _ => 0)))))), (mm, .inr (11, [.int 1, .ref mk9, .ref mt, .ref mb, .int 0, .int 0, .int 0, .int 0, .null, .int 0, .int 0, .double 0, .int 0, .int 0, .int 0]))] H := hP
  have hD : va_D A [(xb, .inr (3, [.ref xt, .ref xp, .ref xs, .int 0])), (xt, .inr (1, [.int 0, .ref e0, .int 0])), (xp, .inl (cxp, 36, .inl (fun _ => 0))), (xs, .inl (cxs, 36, .inl g)), (xo, .inr (1, [.int 0, .ref e0, .int 0])), (xa, .inr (2, [.int 0, .int 0, .int 0, .null, .int 0, .double 0])), (mt, .inr (1, [.int 0, .ref e0, .int 0])), (mb, .inr (1, [.int 0, .ref e0, .int 0])), (od, .inl (cod, 1, .inr (.inr (.inr (.inl (fun _ => 0)))))), (mm, .inr (11, [.int 1, .ref mk9, .ref mt, .ref mb, .int 0, .int 0, .int 0, .int 0, .null, .int 0, .int 0, .double 0, .int 0, .int 0, .int 0]))] := hD
  have hK : va_K D vwCl [(cxp, .int), (cxs, .int), (co, .long), (cod, .double)] s := hK
  refine lv_iload hx hb dL_law_572 (lv_at hl 1 rfl) ?_
  refine lv_icmp_eq (tgt := 579) hx hb dL_law_574 (by decide) (fun _ => ?_) (fun h9 => absurd (by decide) h9)
  refine lv_iload hx hb dL_law_579 (lv_at hl 1 rfl) ?_
  refine lv_if_ne (tgt := 596) hx hb dL_law_581 (by decide) (fun _ => ?_) (fun h9 => absurd h9 (by decide))
  refine lv_goto (tgt := 1632) hx hb dL_law_596 (by decide) ?_
  exact law_tail hx hb hr hlocks hX hbl hbA hAs hS (Nat.le_of_ble_eq_true rfl) (Nat.le_of_ble_eq_true rfl) (lv_sub hl [2, 7] rfl)
set_option maxHeartbeats 4000000 in
set_option maxRecDepth 100000 in
theorem law_case_6 {p : Program} {l : Launch} {e : Env} {s : State} {m : MethodId} {below : List Frame} {meth : Method} {c : Code} {b : Nat} {sc : Nat → Int32} {A : Nat → Prop} {H : Heap} {locs : List Loc} {ls : Array Slot} {D : va_G} {e0 x xk xb xt xp xs xo xa mm mk9 mt mb o od : Nat} {cxp cxs co cod : ClassId} {g : Nat → Int32} (hl9 : l.stackTraces = false) (hx : p.tables.exec = Jvm.exec) (hb : c.code = cL_law) (hr : meth.sig.returnType = ret) (hlocks : meth.locks = false) (hX : va_X b 7 sc s s.heap) (hbl : b < s.heap.size) (hbA : ¬ A b) (hAs : ∀ q, A q → s.heap.size ≤ q) (hS : va_S A s.heap H locs) (hml : c.maxLocals = 10) (hown : s.vm.findClass RL = some m.cls) (hts0 : ∀ w ∈ lw_tbl, w.before #[Value.ref b] s = true) (hts : ∀ w ∈ wsL_law, w.before #[Value.ref b] s = true) (hA : ∀ q, s.heap.size ≤ q → A q) (hE : EV e0 A s s.heap) (hg : ∀ j, j < 36 → g j = -1) (hP : va_P D vwCl [(x, .inr (7, [.ref xk, .ref xb, .ref xo, .ref xa, .int 0, .int 0, .int 0, .int 0])), (xk, .inr (1, [.int 0, .ref e0, .int 0])), (xb, .inr (3, [.ref xt, .ref xp, .ref xs, .int 0])), (xt, .inr (1, [.int 0, .ref e0, .int 0])), (xp, .inl (cxp, 36, .inl (fun _ => 0))), (xs, .inl (cxs, 36, .inl g)), (xo, .inr (1, [.int 0, .ref e0, .int 0])), (xa, .inr (2, [.int 0, .int 0, .int 0, .null, .int 0, .double 0])), (mm, .inr (11, [.int 0, .ref mk9, .ref mt, .ref mb, .int 0, .int 0, .int 0, .int 0, .null, .int 0, .int 0, .double 0, .int 0, .int 0, .int 0])), (mk9, .inr (1, [.int 0, .ref e0, .int 0])), (mt, .inr (1, [.int 0, .ref e0, .int 0])), (mb, .inr (1, [.int 0, .ref e0, .int 0])), (o, .inl (co, 1, .inr (.inl (fun _ => 0)))), (od, .inl (cod, 1, .inr (.inr (.inr (.inl (fun _ => 0))))))] H) (hD : va_D A [(x, .inr (7, [.ref xk, .ref xb, .ref xo, .ref xa, .int 0, .int 0, .int 0, .int 0])), (xk, .inr (1, [.int 0, .ref e0, .int 0])), (xb, .inr (3, [.ref xt, .ref xp, .ref xs, .int 0])), (xt, .inr (1, [.int 0, .ref e0, .int 0])), (xp, .inl (cxp, 36, .inl (fun _ => 0))), (xs, .inl (cxs, 36, .inl g)), (xo, .inr (1, [.int 0, .ref e0, .int 0])), (xa, .inr (2, [.int 0, .int 0, .int 0, .null, .int 0, .double 0])), (mm, .inr (11, [.int 0, .ref mk9, .ref mt, .ref mb, .int 0, .int 0, .int 0, .int 0, .null, .int 0, .int 0, .double 0, .int 0, .int 0, .int 0])), (mk9, .inr (1, [.int 0, .ref e0, .int 0])), (mt, .inr (1, [.int 0, .ref e0, .int 0])), (mb, .inr (1, [.int 0, .ref e0, .int 0])), (o, .inl (co, 1, .inr (.inl (fun _ => 0)))), (od, .inl (cod, 1, .inr (.inr (.inr (.inl (fun _ => 0))))))]) (hK : va_K D vwCl [(cxp, .int), (cxs, .int), (co, .long), (cod, .double)] s) (hl : lv_has ls 10 [(5, .int 0), (4, .ref od), (3, .ref o), (2, .ref mm), (1, .ref x), (0, .ref b)]) : W p l e room_1 s m #[Value.ref b] below meth c H locs 14 125 (lw_Z below #[Value.ref b] s) (F0 m 599 ls []) := by
  refine lv_aload_n hx hb dL_law_599 rfl (lv_at hl 4 rfl) ?_
  refine lv_aload_n hx hb dL_law_600 rfl (lv_at hl 5 rfl) ?_
  refine lv_iload hx hb dL_law_601 (lv_at hl 0 rfl) ?_
  refine lv_iconst (v := 1) hx hb dL_law_603 (by decide) ?_
  refine lv_iadd hx hb dL_law_604 ?_
  refine lv_topi (fun x_1 ex_1 => ?_)
  obtain rfl : x_1 = 1 := ex_1.trans (by decide)
  refine va_sld hx hb hX hbl hbA hS (by unfold vp_in; decide) dL_law_605 ?_
  refine lv_topi (fun x_2 ex_2 => ?_)
  obtain rfl : x_2 = sc 1 := ex_2.trans (congrArg sc (by decide))
  refine lv_aload_n hx hb dL_law_606 rfl (lv_at hl 5 rfl) ?_
  refine lv_iload hx hb dL_law_607 (lv_at hl 0 rfl) ?_
  refine lv_iconst (v := 2) hx hb dL_law_609 (by decide) ?_
  refine lv_iadd hx hb dL_law_610 ?_
  refine lv_topi (fun x_3 ex_3 => ?_)
  obtain rfl : x_3 = 2 := ex_3.trans (by decide)
  refine va_sld hx hb hX hbl hbA hS (by unfold vp_in; decide) dL_law_611 ?_
  refine lv_topi (fun x_4 ex_4 => ?_)
  obtain rfl : x_4 = sc 2 := ex_4.trans (congrArg sc (by decide))
  refine lv_aload_n hx hb dL_law_612 rfl (lv_at hl 2 rfl) ?_
  refine kSW_i (As := [.ref x, .int (sc 1), .int (sc 2), .ref o]) (rest := []) (wr := [(xk, .inr (1, [.int 0, .ref e0, .int 0])), (xp, .inl (cxp, 36, .inl (fun _ => 0))), (xs, .inl (cxs, 36, .inl g)), (xo, .inr (1, [.int 0, .ref e0, .int 0])), (xa, .inr (2, [.int 0, .int 0, .int 0, .null, .int 0, .double 0])), (mm, .inr (11, [.int 0, .ref mk9, .ref mt, .ref mb, .int 0, .int 0, .int 0, .int 0, .null, .int 0, .int 0, .double 0, .int 0, .int 0, .int 0])), (mk9, .inr (1, [.int 0, .ref e0, .int 0])), (mt, .inr (1, [.int 0, .ref e0, .int 0])), (mb, .inr (1, [.int 0, .ref e0, .int 0])), (od, .inl (cod, 1, .inr (.inr (.inr (.inl (fun _ => 0))))))]) ⟨hx, hb, hml, hown, hts⟩ (c_w_pick l hl9 D e0 _ x xk xb xo xa xt xp xs 0 o co (fun _ => 0) (sc 1) (sc 2)) (vx_cwSW 4 hts gL_law_L_pick rfl rfl rfl (by decide +kernel) ⟨Nat.le_of_ble_eq_true rfl, Nat.le_of_ble_eq_true rfl⟩) hP hD hK hS hA hE rfl [0, 2, 3, 12] [1, 4, 5, 6, 7, 8, 9, 10, 11, 13] [2] rfl rfl (by decide) (by decide) (by decide) rfl rfl hl.1 (Nat.le_of_ble_eq_true rfl) dL_law_613 ⟨Nat.le_of_ble_eq_true rfl, Nat.le_of_ble_eq_true rfl⟩ (fun r_5 u9 H locs hw hP hD hK hS => ?_)
  have hw : r_5 = 1 := hw
  subst hw
  have hP : va_P D vwCl [(xk, .inr (1, [.int 0, .ref e0, .int 0])), (xp, .inl (cxp, 36, .inl (fun _ => 0))), (xs, .inl (cxs, 36, .inl g)), (xo, .inr (1, [.int 0, .ref e0, .int 0])), (xa, .inr (2, [.int 0, .int 0, .int 0, .null, .int 0, .double 0])), (mm, .inr (11, [.int 0, .ref mk9, .ref mt, .ref mb, .int 0, .int 0, .int 0, .int 0, .null, .int 0, .int 0, .double 0, .int 0, .int 0, .int 0])), (mk9, .inr (1, [.int 0, .ref e0, .int 0])), (mt, .inr (1, [.int 0, .ref e0, .int 0])), (mb, .inr (1, [.int 0, .ref e0, .int 0])), (od, .inl (cod, 1, .inr (.inr (.inr (.inl (fun _ => 0))))))] H := hP
  have hD : va_D A [(xk, .inr (1, [.int 0, .ref e0, .int 0])), (xp, .inl (cxp, 36, .inl (fun _ => 0))), (xs, .inl (cxs, 36, .inl g)), (xo, .inr (1, [.int 0, .ref e0, .int 0])), (xa, .inr (2, [.int 0, .int 0, .int 0, .null, .int 0, .double 0])), (mm, .inr (11, [.int 0, .ref mk9, .ref mt, .ref mb, .int 0, .int 0, .int 0, .int 0, .null, .int 0, .int 0, .double 0, .int 0, .int 0, .int 0])), (mk9, .inr (1, [.int 0, .ref e0, .int 0])), (mt, .inr (1, [.int 0, .ref e0, .int 0])), (mb, .inr (1, [.int 0, .ref e0, .int 0])), (od, .inl (cod, 1, .inr (.inr (.inr (.inl (fun _ => 0))))))] := hD
  have hK : va_K D vwCl [(cxp, .int), (cxs, .int), (co, .long), (cod, .double)] s := hK
  refine lv_istore (lv' := [(6, .int 1), (5, .int 0), (4, .ref od), (3, .ref o), (2, .ref mm), (1, .ref x), (0, .ref b)]) hx hb dL_law_616 hl (by decide) rfl (fun ls hl => ?_)
  refine lv_aload_n hx hb dL_law_618 rfl (lv_at hl 4 rfl) ?_
  refine lv_aload_n hx hb dL_law_619 rfl (lv_at hl 6 rfl) ?_
  refine lv_iload hx hb dL_law_620 (lv_at hl 1 rfl) ?_
  refine lv_iconst (v := 1) hx hb dL_law_622 (by decide) ?_
  refine lv_iadd hx hb dL_law_623 ?_
  refine lv_topi (fun x_6 ex_6 => ?_)
  obtain rfl : x_6 = 1 := ex_6.trans (by decide)
  refine va_sld hx hb hX hbl hbA hS (by unfold vp_in; decide) dL_law_624 ?_
  refine lv_topi (fun x_7 ex_7 => ?_)
  obtain rfl : x_7 = sc 1 := ex_7.trans (congrArg sc (by decide))
  refine lv_aload_n hx hb dL_law_625 rfl (lv_at hl 6 rfl) ?_
  refine lv_iload hx hb dL_law_626 (lv_at hl 1 rfl) ?_
  refine lv_iconst (v := 2) hx hb dL_law_628 (by decide) ?_
  refine lv_iadd hx hb dL_law_629 ?_
  refine lv_topi (fun x_8 ex_8 => ?_)
  obtain rfl : x_8 = 2 := ex_8.trans (by decide)
  refine va_sld hx hb hX hbl hbA hS (by unfold vp_in; decide) dL_law_630 ?_
  refine lv_topi (fun x_9 ex_9 => ?_)
  obtain rfl : x_9 = sc 2 := ex_9.trans (congrArg sc (by decide))
  refine kV_i (As := [.int (sc 1), .int (sc 2)]) (rest := []) (wr := [(xk, .inr (1, [.int 0, .ref e0, .int 0])), (xp, .inl (cxp, 36, .inl (fun _ => 0))), (xs, .inl (cxs, 36, .inl g)), (xo, .inr (1, [.int 0, .ref e0, .int 0])), (xa, .inr (2, [.int 0, .int 0, .int 0, .null, .int 0, .double 0])), (mk9, .inr (1, [.int 0, .ref e0, .int 0])), (mb, .inr (1, [.int 0, .ref e0, .int 0])), (od, .inl (cod, 1, .inr (.inr (.inr (.inl (fun _ => 0))))))]) ⟨hx, hb, hml, hown, hts⟩ (c_m_pick l D e0 _ mm mk9 mt mb (sc 1) (sc 2)) (cwV 2 hts gL_law_X9_pick rfl rfl rfl (by decide +kernel) ⟨Nat.le_of_ble_eq_true rfl, Nat.le_of_ble_eq_true rfl⟩) hP hD hK hS hA hE rfl [5, 7] [0, 1, 2, 3, 4, 6, 8, 9] [] rfl rfl (by decide) (by decide) (by decide) rfl 11 5 rfl rfl rfl rfl hl.1 (Nat.le_of_ble_eq_true rfl) dL_law_631 ⟨Nat.le_of_ble_eq_true rfl, Nat.le_of_ble_eq_true rfl⟩ (fun r_10 u9 H locs hw hP hD hK hS => ?_)
  have hw : r_10 = 0 := hw
  subst hw
  have hP : va_P D vwCl [(xk, .inr (1, [.int 0, .ref e0, .int 0])), (xp, .inl (cxp, 36, .inl (fun _ => 0))), (xs, .inl (cxs, 36, .inl g)), (xo, .inr (1, [.int 0, .ref e0, .int 0])), (xa, .inr (2, [.int 0, .int 0, .int 0, .null, .int 0, .double 0])), (mk9, .inr (1, [.int 0, .ref e0, .int 0])), (mb, .inr (1, [.int 0, .ref e0, .int 0])), (od, .inl (cod, 1, .inr (.inr (.inr (.inl (fun _ => 0)))))), (mm, .inr (11, [.int 1, .ref mk9, .ref mt, .ref mb, .int 0, .int 0, .int 0, .int 0, .null, .int 0, .int 0, .double 0, .int 0, .int 0, .int 0]))] H := hP
  have hD : va_D A [(xk, .inr (1, [.int 0, .ref e0, .int 0])), (xp, .inl (cxp, 36, .inl (fun _ => 0))), (xs, .inl (cxs, 36, .inl g)), (xo, .inr (1, [.int 0, .ref e0, .int 0])), (xa, .inr (2, [.int 0, .int 0, .int 0, .null, .int 0, .double 0])), (mk9, .inr (1, [.int 0, .ref e0, .int 0])), (mb, .inr (1, [.int 0, .ref e0, .int 0])), (od, .inl (cod, 1, .inr (.inr (.inr (.inl (fun _ => 0)))))), (mm, .inr (11, [.int 1, .ref mk9, .ref mt, .ref mb, .int 0, .int 0, .int 0, .int 0, .null, .int 0, .int 0, .double 0, .int 0, .int 0, .int 0]))] := hD
  have hK : va_K D vwCl [(cxp, .int), (cxs, .int), (co, .long), (cod, .double)] s := hK
  refine lv_istore (lv' := [(7, .int 0), (6, .int 1), (5, .int 0), (4, .ref od), (3, .ref o), (2, .ref mm), (1, .ref x), (0, .ref b)]) hx hb dL_law_634 hl (by decide) rfl (fun ls hl => ?_)
  refine lv_aload_n hx hb dL_law_636 rfl (lv_at hl 5 rfl) ?_
  refine kV_i (As := []) (rest := []) (wr := [(xk, .inr (1, [.int 0, .ref e0, .int 0])), (xp, .inl (cxp, 36, .inl (fun _ => 0))), (xs, .inl (cxs, 36, .inl g)), (xo, .inr (1, [.int 0, .ref e0, .int 0])), (xa, .inr (2, [.int 0, .int 0, .int 0, .null, .int 0, .double 0])), (mk9, .inr (1, [.int 0, .ref e0, .int 0])), (mb, .inr (1, [.int 0, .ref e0, .int 0])), (od, .inl (cod, 1, .inr (.inr (.inr (.inl (fun _ => 0))))))]) ⟨hx, hb, hml, hown, hts⟩ (c_thrown l D e0 _ mm mk9 mt mb 1) (cwV 0 hts gL_law_X9_thrown rfl rfl rfl (by decide +kernel) ⟨Nat.le_of_ble_eq_true rfl, Nat.le_of_ble_eq_true rfl⟩) hP hD hK hS hA hE rfl [8] [0, 1, 2, 3, 4, 5, 6, 7] [] rfl rfl (by decide) (by decide) (by decide) rfl 11 8 rfl rfl rfl rfl hl.1 (Nat.le_of_ble_eq_true rfl) dL_law_637 ⟨Nat.le_of_ble_eq_true rfl, Nat.le_of_ble_eq_true rfl⟩ (fun r_11 u9 H locs hw hP hD hK hS => ?_)
  have hw : r_11 = 1 := hw
  subst hw
  have hP : va_P D vwCl [(xk, .inr (1, [.int 0, .ref e0, .int 0])), (xp, .inl (cxp, 36, .inl (fun _ => 0))), (xs, .inl (cxs, 36, .inl g)), (xo, .inr (1, [.int 0, .ref e0, .int 0])), (xa, .inr (2, [.int 0, .int 0, .int 0, .null, .int 0, .double 0])), (mk9, .inr (1, [.int 0, .ref e0, .int 0])), (mb, .inr (1, [.int 0, .ref e0, .int 0])), (od, .inl (cod, 1, .inr (.inr (.inr (.inl (fun _ => 0)))))), (mm, .inr (11, [.int 1, .ref mk9, .ref mt, .ref mb, .int 0, .int 0, .int 0, .int 0, .null, .int 0, .int 0, .double 0, .int 0, .int 0, .int 0]))] H := hP
  have hD : va_D A [(xk, .inr (1, [.int 0, .ref e0, .int 0])), (xp, .inl (cxp, 36, .inl (fun _ => 0))), (xs, .inl (cxs, 36, .inl g)), (xo, .inr (1, [.int 0, .ref e0, .int 0])), (xa, .inr (2, [.int 0, .int 0, .int 0, .null, .int 0, .double 0])), (mk9, .inr (1, [.int 0, .ref e0, .int 0])), (mb, .inr (1, [.int 0, .ref e0, .int 0])), (od, .inl (cod, 1, .inr (.inr (.inr (.inl (fun _ => 0)))))), (mm, .inr (11, [.int 1, .ref mk9, .ref mt, .ref mb, .int 0, .int 0, .int 0, .int 0, .null, .int 0, .int 0, .double 0, .int 0, .int 0, .int 0]))] := hD
  have hK : va_K D vwCl [(cxp, .int), (cxs, .int), (co, .long), (cod, .double)] s := hK
  refine lv_iload hx hb dL_law_640 (lv_at hl 1 rfl) ?_
  refine lv_icmp_eq (tgt := 647) hx hb dL_law_642 (by decide) (fun _ => ?_) (fun h9 => absurd (by decide) h9)
  refine lv_iload hx hb dL_law_647 (lv_at hl 1 rfl) ?_
  refine lv_if_ne (tgt := 664) hx hb dL_law_649 (by decide) (fun _ => ?_) (fun h9 => absurd h9 (by decide))
  refine lv_goto (tgt := 1632) hx hb dL_law_664 (by decide) ?_
  exact law_tail hx hb hr hlocks hX hbl hbA hAs hS (Nat.le_of_ble_eq_true rfl) (Nat.le_of_ble_eq_true rfl) (lv_sub hl [2, 7] rfl)
set_option maxHeartbeats 4000000 in
set_option maxRecDepth 100000 in
theorem law_case_7 {p : Program} {l : Launch} {e : Env} {s : State} {m : MethodId} {below : List Frame} {meth : Method} {c : Code} {b : Nat} {sc : Nat → Int32} {A : Nat → Prop} {H : Heap} {locs : List Loc} {ls : Array Slot} {D : va_G} {e0 x xk xb xt xp xs xo xa mm mk9 mt mb o od : Nat} {cxp cxs co cod : ClassId} {g : Nat → Int32} (hl9 : l.stackTraces = false) (hx : p.tables.exec = Jvm.exec) (hb : c.code = cL_law) (hr : meth.sig.returnType = ret) (hlocks : meth.locks = false) (hX : va_X b 7 sc s s.heap) (hbl : b < s.heap.size) (hbA : ¬ A b) (hAs : ∀ q, A q → s.heap.size ≤ q) (hS : va_S A s.heap H locs) (hml : c.maxLocals = 10) (hown : s.vm.findClass RL = some m.cls) (hts0 : ∀ w ∈ lw_tbl, w.before #[Value.ref b] s = true) (hts : ∀ w ∈ wsL_law, w.before #[Value.ref b] s = true) (hA : ∀ q, s.heap.size ≤ q → A q) (hE : EV e0 A s s.heap) (hg : ∀ j, j < 36 → g j = -1) (hP : va_P D vwCl [(x, .inr (7, [.ref xk, .ref xb, .ref xo, .ref xa, .int 0, .int 0, .int 0, .int 0])), (xk, .inr (1, [.int 0, .ref e0, .int 0])), (xb, .inr (3, [.ref xt, .ref xp, .ref xs, .int 0])), (xt, .inr (1, [.int 0, .ref e0, .int 0])), (xp, .inl (cxp, 36, .inl (fun _ => 0))), (xs, .inl (cxs, 36, .inl g)), (xo, .inr (1, [.int 0, .ref e0, .int 0])), (xa, .inr (2, [.int 0, .int 0, .int 0, .null, .int 0, .double 0])), (mm, .inr (11, [.int 0, .ref mk9, .ref mt, .ref mb, .int 0, .int 0, .int 0, .int 0, .null, .int 0, .int 0, .double 0, .int 0, .int 0, .int 0])), (mk9, .inr (1, [.int 0, .ref e0, .int 0])), (mt, .inr (1, [.int 0, .ref e0, .int 0])), (mb, .inr (1, [.int 0, .ref e0, .int 0])), (o, .inl (co, 1, .inr (.inl (fun _ => 0)))), (od, .inl (cod, 1, .inr (.inr (.inr (.inl (fun _ => 0))))))] H) (hD : va_D A [(x, .inr (7, [.ref xk, .ref xb, .ref xo, .ref xa, .int 0, .int 0, .int 0, .int 0])), (xk, .inr (1, [.int 0, .ref e0, .int 0])), (xb, .inr (3, [.ref xt, .ref xp, .ref xs, .int 0])), (xt, .inr (1, [.int 0, .ref e0, .int 0])), (xp, .inl (cxp, 36, .inl (fun _ => 0))), (xs, .inl (cxs, 36, .inl g)), (xo, .inr (1, [.int 0, .ref e0, .int 0])), (xa, .inr (2, [.int 0, .int 0, .int 0, .null, .int 0, .double 0])), (mm, .inr (11, [.int 0, .ref mk9, .ref mt, .ref mb, .int 0, .int 0, .int 0, .int 0, .null, .int 0, .int 0, .double 0, .int 0, .int 0, .int 0])), (mk9, .inr (1, [.int 0, .ref e0, .int 0])), (mt, .inr (1, [.int 0, .ref e0, .int 0])), (mb, .inr (1, [.int 0, .ref e0, .int 0])), (o, .inl (co, 1, .inr (.inl (fun _ => 0)))), (od, .inl (cod, 1, .inr (.inr (.inr (.inl (fun _ => 0))))))]) (hK : va_K D vwCl [(cxp, .int), (cxs, .int), (co, .long), (cod, .double)] s) (hl : lv_has ls 10 [(5, .int 0), (4, .ref od), (3, .ref o), (2, .ref mm), (1, .ref x), (0, .ref b)]) : W p l e room_1 s m #[Value.ref b] below meth c H locs 14 125 (lw_Z below #[Value.ref b] s) (F0 m 667 ls []) := by
  refine lv_aload_n hx hb dL_law_667 rfl (lv_at hl 4 rfl) ?_
  refine lv_aload_n hx hb dL_law_668 rfl (lv_at hl 5 rfl) ?_
  refine lv_iload hx hb dL_law_669 (lv_at hl 0 rfl) ?_
  refine lv_iconst (v := 1) hx hb dL_law_671 (by decide) ?_
  refine lv_iadd hx hb dL_law_672 ?_
  refine lv_topi (fun x_1 ex_1 => ?_)
  obtain rfl : x_1 = 1 := ex_1.trans (by decide)
  refine va_sld hx hb hX hbl hbA hS (by unfold vp_in; decide) dL_law_673 ?_
  refine lv_topi (fun x_2 ex_2 => ?_)
  obtain rfl : x_2 = sc 1 := ex_2.trans (congrArg sc (by decide))
  refine lv_aload_n hx hb dL_law_674 rfl (lv_at hl 2 rfl) ?_
  refine kSW_i (As := [.ref x, .int (sc 1), .ref o]) (rest := []) (wr := [(xk, .inr (1, [.int 0, .ref e0, .int 0])), (xb, .inr (3, [.ref xt, .ref xp, .ref xs, .int 0])), (xt, .inr (1, [.int 0, .ref e0, .int 0])), (xp, .inl (cxp, 36, .inl (fun _ => 0))), (xs, .inl (cxs, 36, .inl g)), (xa, .inr (2, [.int 0, .int 0, .int 0, .null, .int 0, .double 0])), (mm, .inr (11, [.int 0, .ref mk9, .ref mt, .ref mb, .int 0, .int 0, .int 0, .int 0, .null, .int 0, .int 0, .double 0, .int 0, .int 0, .int 0])), (mk9, .inr (1, [.int 0, .ref e0, .int 0])), (mt, .inr (1, [.int 0, .ref e0, .int 0])), (mb, .inr (1, [.int 0, .ref e0, .int 0])), (od, .inl (cod, 1, .inr (.inr (.inr (.inl (fun _ => 0))))))]) ⟨hx, hb, hml, hown, hts⟩ (c_w_put l hl9 D e0 _ x xk xb xo xa 0 o co (fun _ => 0) (sc 1)) (vx_cwSW 3 hts gL_law_L_put rfl rfl rfl (by decide +kernel) ⟨Nat.le_of_ble_eq_true rfl, Nat.le_of_ble_eq_true rfl⟩) hP hD hK hS hA hE rfl [0, 6, 12] [1, 2, 3, 4, 5, 7, 8, 9, 10, 11, 13] [2] rfl rfl (by decide) (by decide) (by decide) rfl rfl hl.1 (Nat.le_of_ble_eq_true rfl) dL_law_675 ⟨Nat.le_of_ble_eq_true rfl, Nat.le_of_ble_eq_true rfl⟩ (fun r_3 u9 H locs hw hP hD hK hS => ?_)
  have hw : r_3 = 1 := hw
  subst hw
  have hP : va_P D vwCl [(xk, .inr (1, [.int 0, .ref e0, .int 0])), (xb, .inr (3, [.ref xt, .ref xp, .ref xs, .int 0])), (xt, .inr (1, [.int 0, .ref e0, .int 0])), (xp, .inl (cxp, 36, .inl (fun _ => 0))), (xs, .inl (cxs, 36, .inl g)), (xa, .inr (2, [.int 0, .int 0, .int 0, .null, .int 0, .double 0])), (mm, .inr (11, [.int 0, .ref mk9, .ref mt, .ref mb, .int 0, .int 0, .int 0, .int 0, .null, .int 0, .int 0, .double 0, .int 0, .int 0, .int 0])), (mk9, .inr (1, [.int 0, .ref e0, .int 0])), (mt, .inr (1, [.int 0, .ref e0, .int 0])), (mb, .inr (1, [.int 0, .ref e0, .int 0])), (od, .inl (cod, 1, .inr (.inr (.inr (.inl (fun _ => 0))))))] H := hP
  have hD : va_D A [(xk, .inr (1, [.int 0, .ref e0, .int 0])), (xb, .inr (3, [.ref xt, .ref xp, .ref xs, .int 0])), (xt, .inr (1, [.int 0, .ref e0, .int 0])), (xp, .inl (cxp, 36, .inl (fun _ => 0))), (xs, .inl (cxs, 36, .inl g)), (xa, .inr (2, [.int 0, .int 0, .int 0, .null, .int 0, .double 0])), (mm, .inr (11, [.int 0, .ref mk9, .ref mt, .ref mb, .int 0, .int 0, .int 0, .int 0, .null, .int 0, .int 0, .double 0, .int 0, .int 0, .int 0])), (mk9, .inr (1, [.int 0, .ref e0, .int 0])), (mt, .inr (1, [.int 0, .ref e0, .int 0])), (mb, .inr (1, [.int 0, .ref e0, .int 0])), (od, .inl (cod, 1, .inr (.inr (.inr (.inl (fun _ => 0))))))] := hD
  have hK : va_K D vwCl [(cxp, .int), (cxs, .int), (co, .long), (cod, .double)] s := hK
  refine lv_istore (lv' := [(6, .int 1), (5, .int 0), (4, .ref od), (3, .ref o), (2, .ref mm), (1, .ref x), (0, .ref b)]) hx hb dL_law_678 hl (by decide) rfl (fun ls hl => ?_)
  refine lv_aload_n hx hb dL_law_680 rfl (lv_at hl 4 rfl) ?_
  refine lv_aload_n hx hb dL_law_681 rfl (lv_at hl 6 rfl) ?_
  refine lv_iload hx hb dL_law_682 (lv_at hl 1 rfl) ?_
  refine lv_iconst (v := 1) hx hb dL_law_684 (by decide) ?_
  refine lv_iadd hx hb dL_law_685 ?_
  refine lv_topi (fun x_4 ex_4 => ?_)
  obtain rfl : x_4 = 1 := ex_4.trans (by decide)
  refine va_sld hx hb hX hbl hbA hS (by unfold vp_in; decide) dL_law_686 ?_
  refine lv_topi (fun x_5 ex_5 => ?_)
  obtain rfl : x_5 = sc 1 := ex_5.trans (congrArg sc (by decide))
  refine kV_i (As := [.int (sc 1)]) (rest := []) (wr := [(xk, .inr (1, [.int 0, .ref e0, .int 0])), (xb, .inr (3, [.ref xt, .ref xp, .ref xs, .int 0])), (xt, .inr (1, [.int 0, .ref e0, .int 0])), (xp, .inl (cxp, 36, .inl (fun _ => 0))), (xs, .inl (cxs, 36, .inl g)), (xa, .inr (2, [.int 0, .int 0, .int 0, .null, .int 0, .double 0])), (mk9, .inr (1, [.int 0, .ref e0, .int 0])), (mt, .inr (1, [.int 0, .ref e0, .int 0])), (od, .inl (cod, 1, .inr (.inr (.inr (.inl (fun _ => 0))))))]) ⟨hx, hb, hml, hown, hts⟩ (c_m_put l D e0 _ mm mk9 mt mb (sc 1)) (cwV 1 hts gL_law_X9_put rfl rfl rfl (by decide +kernel) ⟨Nat.le_of_ble_eq_true rfl, Nat.le_of_ble_eq_true rfl⟩) hP hD hK hS hA hE rfl [6, 9] [0, 1, 2, 3, 4, 5, 7, 8, 10] [] rfl rfl (by decide) (by decide) (by decide) rfl 11 6 rfl rfl rfl rfl hl.1 (Nat.le_of_ble_eq_true rfl) dL_law_687 ⟨Nat.le_of_ble_eq_true rfl, Nat.le_of_ble_eq_true rfl⟩ (fun r_6 u9 H locs hw hP hD hK hS => ?_)
  have hw : r_6 = 0 := hw
  subst hw
  have hP : va_P D vwCl [(xk, .inr (1, [.int 0, .ref e0, .int 0])), (xb, .inr (3, [.ref xt, .ref xp, .ref xs, .int 0])), (xt, .inr (1, [.int 0, .ref e0, .int 0])), (xp, .inl (cxp, 36, .inl (fun _ => 0))), (xs, .inl (cxs, 36, .inl g)), (xa, .inr (2, [.int 0, .int 0, .int 0, .null, .int 0, .double 0])), (mk9, .inr (1, [.int 0, .ref e0, .int 0])), (mt, .inr (1, [.int 0, .ref e0, .int 0])), (od, .inl (cod, 1, .inr (.inr (.inr (.inl (fun _ => 0)))))), (mm, .inr (11, [.int 1, .ref mk9, .ref mt, .ref mb, .int 0, .int 0, .int 0, .int 0, .null, .int 0, .int 0, .double 0, .int 0, .int 0, .int 0]))] H := hP
  have hD : va_D A [(xk, .inr (1, [.int 0, .ref e0, .int 0])), (xb, .inr (3, [.ref xt, .ref xp, .ref xs, .int 0])), (xt, .inr (1, [.int 0, .ref e0, .int 0])), (xp, .inl (cxp, 36, .inl (fun _ => 0))), (xs, .inl (cxs, 36, .inl g)), (xa, .inr (2, [.int 0, .int 0, .int 0, .null, .int 0, .double 0])), (mk9, .inr (1, [.int 0, .ref e0, .int 0])), (mt, .inr (1, [.int 0, .ref e0, .int 0])), (od, .inl (cod, 1, .inr (.inr (.inr (.inl (fun _ => 0)))))), (mm, .inr (11, [.int 1, .ref mk9, .ref mt, .ref mb, .int 0, .int 0, .int 0, .int 0, .null, .int 0, .int 0, .double 0, .int 0, .int 0, .int 0]))] := hD
  have hK : va_K D vwCl [(cxp, .int), (cxs, .int), (co, .long), (cod, .double)] s := hK
  refine lv_istore (lv' := [(7, .int 0), (6, .int 1), (5, .int 0), (4, .ref od), (3, .ref o), (2, .ref mm), (1, .ref x), (0, .ref b)]) hx hb dL_law_690 hl (by decide) rfl (fun ls hl => ?_)
  refine lv_aload_n hx hb dL_law_692 rfl (lv_at hl 5 rfl) ?_
  refine kV_i (As := []) (rest := []) (wr := [(xk, .inr (1, [.int 0, .ref e0, .int 0])), (xb, .inr (3, [.ref xt, .ref xp, .ref xs, .int 0])), (xt, .inr (1, [.int 0, .ref e0, .int 0])), (xp, .inl (cxp, 36, .inl (fun _ => 0))), (xs, .inl (cxs, 36, .inl g)), (xa, .inr (2, [.int 0, .int 0, .int 0, .null, .int 0, .double 0])), (mk9, .inr (1, [.int 0, .ref e0, .int 0])), (mt, .inr (1, [.int 0, .ref e0, .int 0])), (od, .inl (cod, 1, .inr (.inr (.inr (.inl (fun _ => 0))))))]) ⟨hx, hb, hml, hown, hts⟩ (c_thrown l D e0 _ mm mk9 mt mb 1) (cwV 0 hts gL_law_X9_thrown rfl rfl rfl (by decide +kernel) ⟨Nat.le_of_ble_eq_true rfl, Nat.le_of_ble_eq_true rfl⟩) hP hD hK hS hA hE rfl [9] [0, 1, 2, 3, 4, 5, 6, 7, 8] [] rfl rfl (by decide) (by decide) (by decide) rfl 11 9 rfl rfl rfl rfl hl.1 (Nat.le_of_ble_eq_true rfl) dL_law_693 ⟨Nat.le_of_ble_eq_true rfl, Nat.le_of_ble_eq_true rfl⟩ (fun r_7 u9 H locs hw hP hD hK hS => ?_)
  have hw : r_7 = 1 := hw
  subst hw
  have hP : va_P D vwCl [(xk, .inr (1, [.int 0, .ref e0, .int 0])), (xb, .inr (3, [.ref xt, .ref xp, .ref xs, .int 0])), (xt, .inr (1, [.int 0, .ref e0, .int 0])), (xp, .inl (cxp, 36, .inl (fun _ => 0))), (xs, .inl (cxs, 36, .inl g)), (xa, .inr (2, [.int 0, .int 0, .int 0, .null, .int 0, .double 0])), (mk9, .inr (1, [.int 0, .ref e0, .int 0])), (mt, .inr (1, [.int 0, .ref e0, .int 0])), (od, .inl (cod, 1, .inr (.inr (.inr (.inl (fun _ => 0)))))), (mm, .inr (11, [.int 1, .ref mk9, .ref mt, .ref mb, .int 0, .int 0, .int 0, .int 0, .null, .int 0, .int 0, .double 0, .int 0, .int 0, .int 0]))] H := hP
  have hD : va_D A [(xk, .inr (1, [.int 0, .ref e0, .int 0])), (xb, .inr (3, [.ref xt, .ref xp, .ref xs, .int 0])), (xt, .inr (1, [.int 0, .ref e0, .int 0])), (xp, .inl (cxp, 36, .inl (fun _ => 0))), (xs, .inl (cxs, 36, .inl g)), (xa, .inr (2, [.int 0, .int 0, .int 0, .null, .int 0, .double 0])), (mk9, .inr (1, [.int 0, .ref e0, .int 0])), (mt, .inr (1, [.int 0, .ref e0, .int 0])), (od, .inl (cod, 1, .inr (.inr (.inr (.inl (fun _ => 0)))))), (mm, .inr (11, [.int 1, .ref mk9, .ref mt, .ref mb, .int 0, .int 0, .int 0, .int 0, .null, .int 0, .int 0, .double 0, .int 0, .int 0, .int 0]))] := hD
  have hK : va_K D vwCl [(cxp, .int), (cxs, .int), (co, .long), (cod, .double)] s := hK
  refine lv_iload hx hb dL_law_696 (lv_at hl 1 rfl) ?_
  refine lv_icmp_eq (tgt := 703) hx hb dL_law_698 (by decide) (fun _ => ?_) (fun h9 => absurd (by decide) h9)
  refine lv_iload hx hb dL_law_703 (lv_at hl 1 rfl) ?_
  refine lv_if_ne (tgt := 720) hx hb dL_law_705 (by decide) (fun _ => ?_) (fun h9 => absurd h9 (by decide))
  refine lv_goto (tgt := 1632) hx hb dL_law_720 (by decide) ?_
  exact law_tail hx hb hr hlocks hX hbl hbA hAs hS (Nat.le_of_ble_eq_true rfl) (Nat.le_of_ble_eq_true rfl) (lv_sub hl [2, 7] rfl)
set_option maxHeartbeats 4000000 in
set_option maxRecDepth 100000 in
theorem law_case_8 {p : Program} {l : Launch} {e : Env} {s : State} {m : MethodId} {below : List Frame} {meth : Method} {c : Code} {b : Nat} {sc : Nat → Int32} {A : Nat → Prop} {H : Heap} {locs : List Loc} {ls : Array Slot} {D : va_G} {e0 x xk xb xt xp xs xo xa mm mk9 mt mb o od : Nat} {cxp cxs co cod : ClassId} {g : Nat → Int32} (hl9 : l.stackTraces = false) (hx : p.tables.exec = Jvm.exec) (hb : c.code = cL_law) (hr : meth.sig.returnType = ret) (hlocks : meth.locks = false) (hX : va_X b 7 sc s s.heap) (hbl : b < s.heap.size) (hbA : ¬ A b) (hAs : ∀ q, A q → s.heap.size ≤ q) (hS : va_S A s.heap H locs) (hml : c.maxLocals = 10) (hown : s.vm.findClass RL = some m.cls) (hts0 : ∀ w ∈ lw_tbl, w.before #[Value.ref b] s = true) (hts : ∀ w ∈ wsL_law, w.before #[Value.ref b] s = true) (hA : ∀ q, s.heap.size ≤ q → A q) (hE : EV e0 A s s.heap) (hg : ∀ j, j < 36 → g j = -1) (hP : va_P D vwCl [(x, .inr (7, [.ref xk, .ref xb, .ref xo, .ref xa, .int 0, .int 0, .int 0, .int 0])), (xk, .inr (1, [.int 0, .ref e0, .int 0])), (xb, .inr (3, [.ref xt, .ref xp, .ref xs, .int 0])), (xt, .inr (1, [.int 0, .ref e0, .int 0])), (xp, .inl (cxp, 36, .inl (fun _ => 0))), (xs, .inl (cxs, 36, .inl g)), (xo, .inr (1, [.int 0, .ref e0, .int 0])), (xa, .inr (2, [.int 0, .int 0, .int 0, .null, .int 0, .double 0])), (mm, .inr (11, [.int 0, .ref mk9, .ref mt, .ref mb, .int 0, .int 0, .int 0, .int 0, .null, .int 0, .int 0, .double 0, .int 0, .int 0, .int 0])), (mk9, .inr (1, [.int 0, .ref e0, .int 0])), (mt, .inr (1, [.int 0, .ref e0, .int 0])), (mb, .inr (1, [.int 0, .ref e0, .int 0])), (o, .inl (co, 1, .inr (.inl (fun _ => 0)))), (od, .inl (cod, 1, .inr (.inr (.inr (.inl (fun _ => 0))))))] H) (hD : va_D A [(x, .inr (7, [.ref xk, .ref xb, .ref xo, .ref xa, .int 0, .int 0, .int 0, .int 0])), (xk, .inr (1, [.int 0, .ref e0, .int 0])), (xb, .inr (3, [.ref xt, .ref xp, .ref xs, .int 0])), (xt, .inr (1, [.int 0, .ref e0, .int 0])), (xp, .inl (cxp, 36, .inl (fun _ => 0))), (xs, .inl (cxs, 36, .inl g)), (xo, .inr (1, [.int 0, .ref e0, .int 0])), (xa, .inr (2, [.int 0, .int 0, .int 0, .null, .int 0, .double 0])), (mm, .inr (11, [.int 0, .ref mk9, .ref mt, .ref mb, .int 0, .int 0, .int 0, .int 0, .null, .int 0, .int 0, .double 0, .int 0, .int 0, .int 0])), (mk9, .inr (1, [.int 0, .ref e0, .int 0])), (mt, .inr (1, [.int 0, .ref e0, .int 0])), (mb, .inr (1, [.int 0, .ref e0, .int 0])), (o, .inl (co, 1, .inr (.inl (fun _ => 0)))), (od, .inl (cod, 1, .inr (.inr (.inr (.inl (fun _ => 0))))))]) (hK : va_K D vwCl [(cxp, .int), (cxs, .int), (co, .long), (cod, .double)] s) (hl : lv_has ls 10 [(5, .int 0), (4, .ref od), (3, .ref o), (2, .ref mm), (1, .ref x), (0, .ref b)]) : W p l e room_1 s m #[Value.ref b] below meth c H locs 14 125 (lw_Z below #[Value.ref b] s) (F0 m 723 ls []) := by
  refine lv_aload_n hx hb dL_law_723 rfl (lv_at hl 4 rfl) ?_
  refine lv_aload_n hx hb dL_law_724 rfl (lv_at hl 2 rfl) ?_
  refine kSW_i (As := [.ref x, .ref o]) (rest := []) (wr := [(xk, .inr (1, [.int 0, .ref e0, .int 0])), (xb, .inr (3, [.ref xt, .ref xp, .ref xs, .int 0])), (xt, .inr (1, [.int 0, .ref e0, .int 0])), (xp, .inl (cxp, 36, .inl (fun _ => 0))), (xs, .inl (cxs, 36, .inl g)), (xo, .inr (1, [.int 0, .ref e0, .int 0])), (mm, .inr (11, [.int 0, .ref mk9, .ref mt, .ref mb, .int 0, .int 0, .int 0, .int 0, .null, .int 0, .int 0, .double 0, .int 0, .int 0, .int 0])), (mk9, .inr (1, [.int 0, .ref e0, .int 0])), (mt, .inr (1, [.int 0, .ref e0, .int 0])), (mb, .inr (1, [.int 0, .ref e0, .int 0])), (od, .inl (cod, 1, .inr (.inr (.inr (.inl (fun _ => 0))))))]) ⟨hx, hb, hml, hown, hts⟩ (c_w_back l hl9 D e0 _ x xk xb xo xa 0 o co (fun _ => 0)) (vx_cwSW 2 hts gL_law_L_back rfl rfl rfl (by decide +kernel) ⟨Nat.le_of_ble_eq_true rfl, Nat.le_of_ble_eq_true rfl⟩) hP hD hK hS hA hE rfl [0, 7, 12] [1, 2, 3, 4, 5, 6, 8, 9, 10, 11, 13] [2] rfl rfl (by decide) (by decide) (by decide) rfl rfl hl.1 (Nat.le_of_ble_eq_true rfl) dL_law_725 ⟨Nat.le_of_ble_eq_true rfl, Nat.le_of_ble_eq_true rfl⟩ (fun r_1 u9 H locs hw hP hD hK hS => ?_)
  have hw : r_1 = 1 := hw
  subst hw
  have hP : va_P D vwCl [(xk, .inr (1, [.int 0, .ref e0, .int 0])), (xb, .inr (3, [.ref xt, .ref xp, .ref xs, .int 0])), (xt, .inr (1, [.int 0, .ref e0, .int 0])), (xp, .inl (cxp, 36, .inl (fun _ => 0))), (xs, .inl (cxs, 36, .inl g)), (xo, .inr (1, [.int 0, .ref e0, .int 0])), (mm, .inr (11, [.int 0, .ref mk9, .ref mt, .ref mb, .int 0, .int 0, .int 0, .int 0, .null, .int 0, .int 0, .double 0, .int 0, .int 0, .int 0])), (mk9, .inr (1, [.int 0, .ref e0, .int 0])), (mt, .inr (1, [.int 0, .ref e0, .int 0])), (mb, .inr (1, [.int 0, .ref e0, .int 0])), (od, .inl (cod, 1, .inr (.inr (.inr (.inl (fun _ => 0))))))] H := hP
  have hD : va_D A [(xk, .inr (1, [.int 0, .ref e0, .int 0])), (xb, .inr (3, [.ref xt, .ref xp, .ref xs, .int 0])), (xt, .inr (1, [.int 0, .ref e0, .int 0])), (xp, .inl (cxp, 36, .inl (fun _ => 0))), (xs, .inl (cxs, 36, .inl g)), (xo, .inr (1, [.int 0, .ref e0, .int 0])), (mm, .inr (11, [.int 0, .ref mk9, .ref mt, .ref mb, .int 0, .int 0, .int 0, .int 0, .null, .int 0, .int 0, .double 0, .int 0, .int 0, .int 0])), (mk9, .inr (1, [.int 0, .ref e0, .int 0])), (mt, .inr (1, [.int 0, .ref e0, .int 0])), (mb, .inr (1, [.int 0, .ref e0, .int 0])), (od, .inl (cod, 1, .inr (.inr (.inr (.inl (fun _ => 0))))))] := hD
  have hK : va_K D vwCl [(cxp, .int), (cxs, .int), (co, .long), (cod, .double)] s := hK
  refine lv_istore (lv' := [(6, .int 1), (5, .int 0), (4, .ref od), (3, .ref o), (2, .ref mm), (1, .ref x), (0, .ref b)]) hx hb dL_law_728 hl (by decide) rfl (fun ls hl => ?_)
  refine lv_aload_n hx hb dL_law_730 rfl (lv_at hl 4 rfl) ?_
  refine kV_i (As := []) (rest := []) (wr := [(xk, .inr (1, [.int 0, .ref e0, .int 0])), (xb, .inr (3, [.ref xt, .ref xp, .ref xs, .int 0])), (xt, .inr (1, [.int 0, .ref e0, .int 0])), (xp, .inl (cxp, 36, .inl (fun _ => 0))), (xs, .inl (cxs, 36, .inl g)), (xo, .inr (1, [.int 0, .ref e0, .int 0])), (mk9, .inr (1, [.int 0, .ref e0, .int 0])), (mt, .inr (1, [.int 0, .ref e0, .int 0])), (mb, .inr (1, [.int 0, .ref e0, .int 0])), (od, .inl (cod, 1, .inr (.inr (.inr (.inl (fun _ => 0))))))]) ⟨hx, hb, hml, hown, hts⟩ (c_m_back l D e0 _ mm mk9 mt mb) (cwV 0 hts gL_law_X9_back rfl rfl rfl (by decide +kernel) ⟨Nat.le_of_ble_eq_true rfl, Nat.le_of_ble_eq_true rfl⟩) hP hD hK hS hA hE rfl [6] [0, 1, 2, 3, 4, 5, 7, 8, 9, 10] [] rfl rfl (by decide) (by decide) (by decide) rfl 11 6 rfl rfl rfl rfl hl.1 (Nat.le_of_ble_eq_true rfl) dL_law_731 ⟨Nat.le_of_ble_eq_true rfl, Nat.le_of_ble_eq_true rfl⟩ (fun r_2 u9 H locs hw hP hD hK hS => ?_)
  have hw : r_2 = 0 := hw
  subst hw
  have hP : va_P D vwCl [(xk, .inr (1, [.int 0, .ref e0, .int 0])), (xb, .inr (3, [.ref xt, .ref xp, .ref xs, .int 0])), (xt, .inr (1, [.int 0, .ref e0, .int 0])), (xp, .inl (cxp, 36, .inl (fun _ => 0))), (xs, .inl (cxs, 36, .inl g)), (xo, .inr (1, [.int 0, .ref e0, .int 0])), (mk9, .inr (1, [.int 0, .ref e0, .int 0])), (mt, .inr (1, [.int 0, .ref e0, .int 0])), (mb, .inr (1, [.int 0, .ref e0, .int 0])), (od, .inl (cod, 1, .inr (.inr (.inr (.inl (fun _ => 0)))))), (mm, .inr (11, [.int 1, .ref mk9, .ref mt, .ref mb, .int 0, .int 0, .int 0, .int 0, .null, .int 0, .int 0, .double 0, .int 0, .int 0, .int 0]))] H := hP
  have hD : va_D A [(xk, .inr (1, [.int 0, .ref e0, .int 0])), (xb, .inr (3, [.ref xt, .ref xp, .ref xs, .int 0])), (xt, .inr (1, [.int 0, .ref e0, .int 0])), (xp, .inl (cxp, 36, .inl (fun _ => 0))), (xs, .inl (cxs, 36, .inl g)), (xo, .inr (1, [.int 0, .ref e0, .int 0])), (mk9, .inr (1, [.int 0, .ref e0, .int 0])), (mt, .inr (1, [.int 0, .ref e0, .int 0])), (mb, .inr (1, [.int 0, .ref e0, .int 0])), (od, .inl (cod, 1, .inr (.inr (.inr (.inl (fun _ => 0)))))), (mm, .inr (11, [.int 1, .ref mk9, .ref mt, .ref mb, .int 0, .int 0, .int 0, .int 0, .null, .int 0, .int 0, .double 0, .int 0, .int 0, .int 0]))] := hD
  have hK : va_K D vwCl [(cxp, .int), (cxs, .int), (co, .long), (cod, .double)] s := hK
  refine lv_istore (lv' := [(7, .int 0), (6, .int 1), (5, .int 0), (4, .ref od), (3, .ref o), (2, .ref mm), (1, .ref x), (0, .ref b)]) hx hb dL_law_734 hl (by decide) rfl (fun ls hl => ?_)
  refine lv_aload_n hx hb dL_law_736 rfl (lv_at hl 5 rfl) ?_
  refine kV_i (As := []) (rest := []) (wr := [(xk, .inr (1, [.int 0, .ref e0, .int 0])), (xb, .inr (3, [.ref xt, .ref xp, .ref xs, .int 0])), (xt, .inr (1, [.int 0, .ref e0, .int 0])), (xp, .inl (cxp, 36, .inl (fun _ => 0))), (xs, .inl (cxs, 36, .inl g)), (xo, .inr (1, [.int 0, .ref e0, .int 0])), (mk9, .inr (1, [.int 0, .ref e0, .int 0])), (mt, .inr (1, [.int 0, .ref e0, .int 0])), (mb, .inr (1, [.int 0, .ref e0, .int 0])), (od, .inl (cod, 1, .inr (.inr (.inr (.inl (fun _ => 0))))))]) ⟨hx, hb, hml, hown, hts⟩ (c_thrown l D e0 _ mm mk9 mt mb 1) (cwV 0 hts gL_law_X9_thrown rfl rfl rfl (by decide +kernel) ⟨Nat.le_of_ble_eq_true rfl, Nat.le_of_ble_eq_true rfl⟩) hP hD hK hS hA hE rfl [10] [0, 1, 2, 3, 4, 5, 6, 7, 8, 9] [] rfl rfl (by decide) (by decide) (by decide) rfl 11 10 rfl rfl rfl rfl hl.1 (Nat.le_of_ble_eq_true rfl) dL_law_737 ⟨Nat.le_of_ble_eq_true rfl, Nat.le_of_ble_eq_true rfl⟩ (fun r_3 u9 H locs hw hP hD hK hS => ?_)
  have hw : r_3 = 1 := hw
  subst hw
  have hP : va_P D vwCl [(xk, .inr (1, [.int 0, .ref e0, .int 0])), (xb, .inr (3, [.ref xt, .ref xp, .ref xs, .int 0])), (xt, .inr (1, [.int 0, .ref e0, .int 0])), (xp, .inl (cxp, 36, .inl (fun _ => 0))), (xs, .inl (cxs, 36, .inl g)), (xo, .inr (1, [.int 0, .ref e0, .int 0])), (mk9, .inr (1, [.int 0, .ref e0, .int 0])), (mt, .inr (1, [.int 0, .ref e0, .int 0])), (mb, .inr (1, [.int 0, .ref e0, .int 0])), (od, .inl (cod, 1, .inr (.inr (.inr (.inl (fun _ => 0)))))), (mm, .inr (11, [.int 1, .ref mk9, .ref mt, .ref mb, .int 0, .int 0, .int 0, .int 0, .null, .int 0, .int 0, .double 0, .int 0, .int 0, .int 0]))] H := hP
  have hD : va_D A [(xk, .inr (1, [.int 0, .ref e0, .int 0])), (xb, .inr (3, [.ref xt, .ref xp, .ref xs, .int 0])), (xt, .inr (1, [.int 0, .ref e0, .int 0])), (xp, .inl (cxp, 36, .inl (fun _ => 0))), (xs, .inl (cxs, 36, .inl g)), (xo, .inr (1, [.int 0, .ref e0, .int 0])), (mk9, .inr (1, [.int 0, .ref e0, .int 0])), (mt, .inr (1, [.int 0, .ref e0, .int 0])), (mb, .inr (1, [.int 0, .ref e0, .int 0])), (od, .inl (cod, 1, .inr (.inr (.inr (.inl (fun _ => 0)))))), (mm, .inr (11, [.int 1, .ref mk9, .ref mt, .ref mb, .int 0, .int 0, .int 0, .int 0, .null, .int 0, .int 0, .double 0, .int 0, .int 0, .int 0]))] := hD
  have hK : va_K D vwCl [(cxp, .int), (cxs, .int), (co, .long), (cod, .double)] s := hK
  refine lv_iload hx hb dL_law_740 (lv_at hl 1 rfl) ?_
  refine lv_icmp_eq (tgt := 747) hx hb dL_law_742 (by decide) (fun _ => ?_) (fun h9 => absurd (by decide) h9)
  refine lv_iload hx hb dL_law_747 (lv_at hl 1 rfl) ?_
  refine lv_if_ne (tgt := 764) hx hb dL_law_749 (by decide) (fun _ => ?_) (fun h9 => absurd h9 (by decide))
  refine lv_goto (tgt := 1632) hx hb dL_law_764 (by decide) ?_
  exact law_tail hx hb hr hlocks hX hbl hbA hAs hS (Nat.le_of_ble_eq_true rfl) (Nat.le_of_ble_eq_true rfl) (lv_sub hl [2, 7] rfl)
set_option maxHeartbeats 4000000 in
set_option maxRecDepth 100000 in
theorem law_case_9 {p : Program} {l : Launch} {e : Env} {s : State} {m : MethodId} {below : List Frame} {meth : Method} {c : Code} {b : Nat} {sc : Nat → Int32} {A : Nat → Prop} {H : Heap} {locs : List Loc} {ls : Array Slot} {D : va_G} {e0 x xk xb xt xp xs xo xa mm mk9 mt mb o od : Nat} {cxp cxs co cod : ClassId} {g : Nat → Int32} (hl9 : l.stackTraces = false) (hx : p.tables.exec = Jvm.exec) (hb : c.code = cL_law) (hr : meth.sig.returnType = ret) (hlocks : meth.locks = false) (hX : va_X b 7 sc s s.heap) (hbl : b < s.heap.size) (hbA : ¬ A b) (hAs : ∀ q, A q → s.heap.size ≤ q) (hS : va_S A s.heap H locs) (hml : c.maxLocals = 10) (hown : s.vm.findClass RL = some m.cls) (hts0 : ∀ w ∈ lw_tbl, w.before #[Value.ref b] s = true) (hts : ∀ w ∈ wsL_law, w.before #[Value.ref b] s = true) (hA : ∀ q, s.heap.size ≤ q → A q) (hE : EV e0 A s s.heap) (hg : ∀ j, j < 36 → g j = -1) (hP : va_P D vwCl [(x, .inr (7, [.ref xk, .ref xb, .ref xo, .ref xa, .int 0, .int 0, .int 0, .int 0])), (xk, .inr (1, [.int 0, .ref e0, .int 0])), (xb, .inr (3, [.ref xt, .ref xp, .ref xs, .int 0])), (xt, .inr (1, [.int 0, .ref e0, .int 0])), (xp, .inl (cxp, 36, .inl (fun _ => 0))), (xs, .inl (cxs, 36, .inl g)), (xo, .inr (1, [.int 0, .ref e0, .int 0])), (xa, .inr (2, [.int 0, .int 0, .int 0, .null, .int 0, .double 0])), (mm, .inr (11, [.int 0, .ref mk9, .ref mt, .ref mb, .int 0, .int 0, .int 0, .int 0, .null, .int 0, .int 0, .double 0, .int 0, .int 0, .int 0])), (mk9, .inr (1, [.int 0, .ref e0, .int 0])), (mt, .inr (1, [.int 0, .ref e0, .int 0])), (mb, .inr (1, [.int 0, .ref e0, .int 0])), (o, .inl (co, 1, .inr (.inl (fun _ => 0)))), (od, .inl (cod, 1, .inr (.inr (.inr (.inl (fun _ => 0))))))] H) (hD : va_D A [(x, .inr (7, [.ref xk, .ref xb, .ref xo, .ref xa, .int 0, .int 0, .int 0, .int 0])), (xk, .inr (1, [.int 0, .ref e0, .int 0])), (xb, .inr (3, [.ref xt, .ref xp, .ref xs, .int 0])), (xt, .inr (1, [.int 0, .ref e0, .int 0])), (xp, .inl (cxp, 36, .inl (fun _ => 0))), (xs, .inl (cxs, 36, .inl g)), (xo, .inr (1, [.int 0, .ref e0, .int 0])), (xa, .inr (2, [.int 0, .int 0, .int 0, .null, .int 0, .double 0])), (mm, .inr (11, [.int 0, .ref mk9, .ref mt, .ref mb, .int 0, .int 0, .int 0, .int 0, .null, .int 0, .int 0, .double 0, .int 0, .int 0, .int 0])), (mk9, .inr (1, [.int 0, .ref e0, .int 0])), (mt, .inr (1, [.int 0, .ref e0, .int 0])), (mb, .inr (1, [.int 0, .ref e0, .int 0])), (o, .inl (co, 1, .inr (.inl (fun _ => 0)))), (od, .inl (cod, 1, .inr (.inr (.inr (.inl (fun _ => 0))))))]) (hK : va_K D vwCl [(cxp, .int), (cxs, .int), (co, .long), (cod, .double)] s) (hl : lv_has ls 10 [(5, .int 0), (4, .ref od), (3, .ref o), (2, .ref mm), (1, .ref x), (0, .ref b)]) : W p l e room_1 s m #[Value.ref b] below meth c H locs 14 125 (lw_Z below #[Value.ref b] s) (F0 m 767 ls []) := by
  refine lv_aload_n hx hb dL_law_767 rfl (lv_at hl 4 rfl) ?_
  refine lv_aload_n hx hb dL_law_768 rfl (lv_at hl 5 rfl) ?_
  refine lv_iload hx hb dL_law_769 (lv_at hl 0 rfl) ?_
  refine lv_iconst (v := 1) hx hb dL_law_771 (by decide) ?_
  refine lv_iadd hx hb dL_law_772 ?_
  refine lv_topi (fun x_1 ex_1 => ?_)
  obtain rfl : x_1 = 1 := ex_1.trans (by decide)
  refine va_sld hx hb hX hbl hbA hS (by unfold vp_in; decide) dL_law_773 ?_
  refine lv_topi (fun x_2 ex_2 => ?_)
  obtain rfl : x_2 = sc 1 := ex_2.trans (congrArg sc (by decide))
  refine lv_aload_n hx hb dL_law_774 rfl (lv_at hl 2 rfl) ?_
  refine kSW_i (As := [.ref x, .int (sc 1), .ref o]) (rest := []) (wr := [(xk, .inr (1, [.int 0, .ref e0, .int 0])), (xb, .inr (3, [.ref xt, .ref xp, .ref xs, .int 0])), (xt, .inr (1, [.int 0, .ref e0, .int 0])), (xp, .inl (cxp, 36, .inl (fun _ => 0))), (xs, .inl (cxs, 36, .inl g)), (xa, .inr (2, [.int 0, .int 0, .int 0, .null, .int 0, .double 0])), (mm, .inr (11, [.int 0, .ref mk9, .ref mt, .ref mb, .int 0, .int 0, .int 0, .int 0, .null, .int 0, .int 0, .double 0, .int 0, .int 0, .int 0])), (mk9, .inr (1, [.int 0, .ref e0, .int 0])), (mt, .inr (1, [.int 0, .ref e0, .int 0])), (mb, .inr (1, [.int 0, .ref e0, .int 0])), (od, .inl (cod, 1, .inr (.inr (.inr (.inl (fun _ => 0))))))]) ⟨hx, hb, hml, hown, hts⟩ (c_w_close l hl9 D e0 _ x xk xb xo xa 0 o co (fun _ => 0) (sc 1)) (vx_cwSW 3 hts gL_law_L_close rfl rfl rfl (by decide +kernel) ⟨Nat.le_of_ble_eq_true rfl, Nat.le_of_ble_eq_true rfl⟩) hP hD hK hS hA hE rfl [0, 6, 12] [1, 2, 3, 4, 5, 7, 8, 9, 10, 11, 13] [2] rfl rfl (by decide) (by decide) (by decide) rfl rfl hl.1 (Nat.le_of_ble_eq_true rfl) dL_law_775 ⟨Nat.le_of_ble_eq_true rfl, Nat.le_of_ble_eq_true rfl⟩ (fun r_3 u9 H locs hw hP hD hK hS => ?_)
  have hw : r_3 = 1 := hw
  subst hw
  have hP : va_P D vwCl [(xk, .inr (1, [.int 0, .ref e0, .int 0])), (xb, .inr (3, [.ref xt, .ref xp, .ref xs, .int 0])), (xt, .inr (1, [.int 0, .ref e0, .int 0])), (xp, .inl (cxp, 36, .inl (fun _ => 0))), (xs, .inl (cxs, 36, .inl g)), (xa, .inr (2, [.int 0, .int 0, .int 0, .null, .int 0, .double 0])), (mm, .inr (11, [.int 0, .ref mk9, .ref mt, .ref mb, .int 0, .int 0, .int 0, .int 0, .null, .int 0, .int 0, .double 0, .int 0, .int 0, .int 0])), (mk9, .inr (1, [.int 0, .ref e0, .int 0])), (mt, .inr (1, [.int 0, .ref e0, .int 0])), (mb, .inr (1, [.int 0, .ref e0, .int 0])), (od, .inl (cod, 1, .inr (.inr (.inr (.inl (fun _ => 0))))))] H := hP
  have hD : va_D A [(xk, .inr (1, [.int 0, .ref e0, .int 0])), (xb, .inr (3, [.ref xt, .ref xp, .ref xs, .int 0])), (xt, .inr (1, [.int 0, .ref e0, .int 0])), (xp, .inl (cxp, 36, .inl (fun _ => 0))), (xs, .inl (cxs, 36, .inl g)), (xa, .inr (2, [.int 0, .int 0, .int 0, .null, .int 0, .double 0])), (mm, .inr (11, [.int 0, .ref mk9, .ref mt, .ref mb, .int 0, .int 0, .int 0, .int 0, .null, .int 0, .int 0, .double 0, .int 0, .int 0, .int 0])), (mk9, .inr (1, [.int 0, .ref e0, .int 0])), (mt, .inr (1, [.int 0, .ref e0, .int 0])), (mb, .inr (1, [.int 0, .ref e0, .int 0])), (od, .inl (cod, 1, .inr (.inr (.inr (.inl (fun _ => 0))))))] := hD
  have hK : va_K D vwCl [(cxp, .int), (cxs, .int), (co, .long), (cod, .double)] s := hK
  refine lv_istore (lv' := [(6, .int 1), (5, .int 0), (4, .ref od), (3, .ref o), (2, .ref mm), (1, .ref x), (0, .ref b)]) hx hb dL_law_778 hl (by decide) rfl (fun ls hl => ?_)
  refine lv_aload_n hx hb dL_law_780 rfl (lv_at hl 4 rfl) ?_
  refine lv_aload_n hx hb dL_law_781 rfl (lv_at hl 6 rfl) ?_
  refine lv_iload hx hb dL_law_782 (lv_at hl 1 rfl) ?_
  refine lv_iconst (v := 1) hx hb dL_law_784 (by decide) ?_
  refine lv_iadd hx hb dL_law_785 ?_
  refine lv_topi (fun x_4 ex_4 => ?_)
  obtain rfl : x_4 = 1 := ex_4.trans (by decide)
  refine va_sld hx hb hX hbl hbA hS (by unfold vp_in; decide) dL_law_786 ?_
  refine lv_topi (fun x_5 ex_5 => ?_)
  obtain rfl : x_5 = sc 1 := ex_5.trans (congrArg sc (by decide))
  refine kV_i (As := [.int (sc 1)]) (rest := []) (wr := [(xk, .inr (1, [.int 0, .ref e0, .int 0])), (xb, .inr (3, [.ref xt, .ref xp, .ref xs, .int 0])), (xt, .inr (1, [.int 0, .ref e0, .int 0])), (xp, .inl (cxp, 36, .inl (fun _ => 0))), (xs, .inl (cxs, 36, .inl g)), (xa, .inr (2, [.int 0, .int 0, .int 0, .null, .int 0, .double 0])), (mk9, .inr (1, [.int 0, .ref e0, .int 0])), (mt, .inr (1, [.int 0, .ref e0, .int 0])), (od, .inl (cod, 1, .inr (.inr (.inr (.inl (fun _ => 0))))))]) ⟨hx, hb, hml, hown, hts⟩ (c_m_close l D e0 _ mm mk9 mt mb (sc 1)) (cwV 1 hts gL_law_X9_close rfl rfl rfl (by decide +kernel) ⟨Nat.le_of_ble_eq_true rfl, Nat.le_of_ble_eq_true rfl⟩) hP hD hK hS hA hE rfl [6, 9] [0, 1, 2, 3, 4, 5, 7, 8, 10] [] rfl rfl (by decide) (by decide) (by decide) rfl 11 6 rfl rfl rfl rfl hl.1 (Nat.le_of_ble_eq_true rfl) dL_law_787 ⟨Nat.le_of_ble_eq_true rfl, Nat.le_of_ble_eq_true rfl⟩ (fun r_6 u9 H locs hw hP hD hK hS => ?_)
  have hw : r_6 = 0 := hw
  subst hw
  have hP : va_P D vwCl [(xk, .inr (1, [.int 0, .ref e0, .int 0])), (xb, .inr (3, [.ref xt, .ref xp, .ref xs, .int 0])), (xt, .inr (1, [.int 0, .ref e0, .int 0])), (xp, .inl (cxp, 36, .inl (fun _ => 0))), (xs, .inl (cxs, 36, .inl g)), (xa, .inr (2, [.int 0, .int 0, .int 0, .null, .int 0, .double 0])), (mk9, .inr (1, [.int 0, .ref e0, .int 0])), (mt, .inr (1, [.int 0, .ref e0, .int 0])), (od, .inl (cod, 1, .inr (.inr (.inr (.inl (fun _ => 0)))))), (mm, .inr (11, [.int 1, .ref mk9, .ref mt, .ref mb, .int 0, .int 0, .int 0, .int 0, .null, .int 0, .int 0, .double 0, .int 0, .int 0, .int 0]))] H := hP
  have hD : va_D A [(xk, .inr (1, [.int 0, .ref e0, .int 0])), (xb, .inr (3, [.ref xt, .ref xp, .ref xs, .int 0])), (xt, .inr (1, [.int 0, .ref e0, .int 0])), (xp, .inl (cxp, 36, .inl (fun _ => 0))), (xs, .inl (cxs, 36, .inl g)), (xa, .inr (2, [.int 0, .int 0, .int 0, .null, .int 0, .double 0])), (mk9, .inr (1, [.int 0, .ref e0, .int 0])), (mt, .inr (1, [.int 0, .ref e0, .int 0])), (od, .inl (cod, 1, .inr (.inr (.inr (.inl (fun _ => 0)))))), (mm, .inr (11, [.int 1, .ref mk9, .ref mt, .ref mb, .int 0, .int 0, .int 0, .int 0, .null, .int 0, .int 0, .double 0, .int 0, .int 0, .int 0]))] := hD
  have hK : va_K D vwCl [(cxp, .int), (cxs, .int), (co, .long), (cod, .double)] s := hK
  refine lv_istore (lv' := [(7, .int 0), (6, .int 1), (5, .int 0), (4, .ref od), (3, .ref o), (2, .ref mm), (1, .ref x), (0, .ref b)]) hx hb dL_law_790 hl (by decide) rfl (fun ls hl => ?_)
  refine lv_aload_n hx hb dL_law_792 rfl (lv_at hl 5 rfl) ?_
  refine kV_i (As := []) (rest := []) (wr := [(xk, .inr (1, [.int 0, .ref e0, .int 0])), (xb, .inr (3, [.ref xt, .ref xp, .ref xs, .int 0])), (xt, .inr (1, [.int 0, .ref e0, .int 0])), (xp, .inl (cxp, 36, .inl (fun _ => 0))), (xs, .inl (cxs, 36, .inl g)), (xa, .inr (2, [.int 0, .int 0, .int 0, .null, .int 0, .double 0])), (mk9, .inr (1, [.int 0, .ref e0, .int 0])), (mt, .inr (1, [.int 0, .ref e0, .int 0])), (od, .inl (cod, 1, .inr (.inr (.inr (.inl (fun _ => 0))))))]) ⟨hx, hb, hml, hown, hts⟩ (c_thrown l D e0 _ mm mk9 mt mb 1) (cwV 0 hts gL_law_X9_thrown rfl rfl rfl (by decide +kernel) ⟨Nat.le_of_ble_eq_true rfl, Nat.le_of_ble_eq_true rfl⟩) hP hD hK hS hA hE rfl [9] [0, 1, 2, 3, 4, 5, 6, 7, 8] [] rfl rfl (by decide) (by decide) (by decide) rfl 11 9 rfl rfl rfl rfl hl.1 (Nat.le_of_ble_eq_true rfl) dL_law_793 ⟨Nat.le_of_ble_eq_true rfl, Nat.le_of_ble_eq_true rfl⟩ (fun r_7 u9 H locs hw hP hD hK hS => ?_)
  have hw : r_7 = 1 := hw
  subst hw
  have hP : va_P D vwCl [(xk, .inr (1, [.int 0, .ref e0, .int 0])), (xb, .inr (3, [.ref xt, .ref xp, .ref xs, .int 0])), (xt, .inr (1, [.int 0, .ref e0, .int 0])), (xp, .inl (cxp, 36, .inl (fun _ => 0))), (xs, .inl (cxs, 36, .inl g)), (xa, .inr (2, [.int 0, .int 0, .int 0, .null, .int 0, .double 0])), (mk9, .inr (1, [.int 0, .ref e0, .int 0])), (mt, .inr (1, [.int 0, .ref e0, .int 0])), (od, .inl (cod, 1, .inr (.inr (.inr (.inl (fun _ => 0)))))), (mm, .inr (11, [.int 1, .ref mk9, .ref mt, .ref mb, .int 0, .int 0, .int 0, .int 0, .null, .int 0, .int 0, .double 0, .int 0, .int 0, .int 0]))] H := hP
  have hD : va_D A [(xk, .inr (1, [.int 0, .ref e0, .int 0])), (xb, .inr (3, [.ref xt, .ref xp, .ref xs, .int 0])), (xt, .inr (1, [.int 0, .ref e0, .int 0])), (xp, .inl (cxp, 36, .inl (fun _ => 0))), (xs, .inl (cxs, 36, .inl g)), (xa, .inr (2, [.int 0, .int 0, .int 0, .null, .int 0, .double 0])), (mk9, .inr (1, [.int 0, .ref e0, .int 0])), (mt, .inr (1, [.int 0, .ref e0, .int 0])), (od, .inl (cod, 1, .inr (.inr (.inr (.inl (fun _ => 0)))))), (mm, .inr (11, [.int 1, .ref mk9, .ref mt, .ref mb, .int 0, .int 0, .int 0, .int 0, .null, .int 0, .int 0, .double 0, .int 0, .int 0, .int 0]))] := hD
  have hK : va_K D vwCl [(cxp, .int), (cxs, .int), (co, .long), (cod, .double)] s := hK
  refine lv_iload hx hb dL_law_796 (lv_at hl 1 rfl) ?_
  refine lv_icmp_eq (tgt := 803) hx hb dL_law_798 (by decide) (fun _ => ?_) (fun h9 => absurd (by decide) h9)
  refine lv_iload hx hb dL_law_803 (lv_at hl 1 rfl) ?_
  refine lv_if_ne (tgt := 820) hx hb dL_law_805 (by decide) (fun _ => ?_) (fun h9 => absurd h9 (by decide))
  refine lv_goto (tgt := 1632) hx hb dL_law_820 (by decide) ?_
  exact law_tail hx hb hr hlocks hX hbl hbA hAs hS (Nat.le_of_ble_eq_true rfl) (Nat.le_of_ble_eq_true rfl) (lv_sub hl [2, 7] rfl)
set_option maxHeartbeats 4000000 in
set_option maxRecDepth 100000 in
theorem law_case_10 {p : Program} {l : Launch} {e : Env} {s : State} {m : MethodId} {below : List Frame} {meth : Method} {c : Code} {b : Nat} {sc : Nat → Int32} {A : Nat → Prop} {H : Heap} {locs : List Loc} {ls : Array Slot} {D : va_G} {e0 x xk xb xt xp xs xo xa mm mk9 mt mb o od : Nat} {cxp cxs co cod : ClassId} {g : Nat → Int32} (hl9 : l.stackTraces = false) (hx : p.tables.exec = Jvm.exec) (hb : c.code = cL_law) (hr : meth.sig.returnType = ret) (hlocks : meth.locks = false) (hX : va_X b 7 sc s s.heap) (hbl : b < s.heap.size) (hbA : ¬ A b) (hAs : ∀ q, A q → s.heap.size ≤ q) (hS : va_S A s.heap H locs) (hml : c.maxLocals = 10) (hown : s.vm.findClass RL = some m.cls) (hts0 : ∀ w ∈ lw_tbl, w.before #[Value.ref b] s = true) (hts : ∀ w ∈ wsL_law, w.before #[Value.ref b] s = true) (hA : ∀ q, s.heap.size ≤ q → A q) (hE : EV e0 A s s.heap) (hg : ∀ j, j < 36 → g j = -1) (hP : va_P D vwCl [(x, .inr (7, [.ref xk, .ref xb, .ref xo, .ref xa, .int 0, .int 0, .int 0, .int 0])), (xk, .inr (1, [.int 0, .ref e0, .int 0])), (xb, .inr (3, [.ref xt, .ref xp, .ref xs, .int 0])), (xt, .inr (1, [.int 0, .ref e0, .int 0])), (xp, .inl (cxp, 36, .inl (fun _ => 0))), (xs, .inl (cxs, 36, .inl g)), (xo, .inr (1, [.int 0, .ref e0, .int 0])), (xa, .inr (2, [.int 0, .int 0, .int 0, .null, .int 0, .double 0])), (mm, .inr (11, [.int 0, .ref mk9, .ref mt, .ref mb, .int 0, .int 0, .int 0, .int 0, .null, .int 0, .int 0, .double 0, .int 0, .int 0, .int 0])), (mk9, .inr (1, [.int 0, .ref e0, .int 0])), (mt, .inr (1, [.int 0, .ref e0, .int 0])), (mb, .inr (1, [.int 0, .ref e0, .int 0])), (o, .inl (co, 1, .inr (.inl (fun _ => 0)))), (od, .inl (cod, 1, .inr (.inr (.inr (.inl (fun _ => 0))))))] H) (hD : va_D A [(x, .inr (7, [.ref xk, .ref xb, .ref xo, .ref xa, .int 0, .int 0, .int 0, .int 0])), (xk, .inr (1, [.int 0, .ref e0, .int 0])), (xb, .inr (3, [.ref xt, .ref xp, .ref xs, .int 0])), (xt, .inr (1, [.int 0, .ref e0, .int 0])), (xp, .inl (cxp, 36, .inl (fun _ => 0))), (xs, .inl (cxs, 36, .inl g)), (xo, .inr (1, [.int 0, .ref e0, .int 0])), (xa, .inr (2, [.int 0, .int 0, .int 0, .null, .int 0, .double 0])), (mm, .inr (11, [.int 0, .ref mk9, .ref mt, .ref mb, .int 0, .int 0, .int 0, .int 0, .null, .int 0, .int 0, .double 0, .int 0, .int 0, .int 0])), (mk9, .inr (1, [.int 0, .ref e0, .int 0])), (mt, .inr (1, [.int 0, .ref e0, .int 0])), (mb, .inr (1, [.int 0, .ref e0, .int 0])), (o, .inl (co, 1, .inr (.inl (fun _ => 0)))), (od, .inl (cod, 1, .inr (.inr (.inr (.inl (fun _ => 0))))))]) (hK : va_K D vwCl [(cxp, .int), (cxs, .int), (co, .long), (cod, .double)] s) (hl : lv_has ls 10 [(5, .int 0), (4, .ref od), (3, .ref o), (2, .ref mm), (1, .ref x), (0, .ref b)]) : W p l e room_1 s m #[Value.ref b] below meth c H locs 14 125 (lw_Z below #[Value.ref b] s) (F0 m 823 ls []) := by
  refine lv_aload_n hx hb dL_law_823 rfl (lv_at hl 4 rfl) ?_
  refine lv_aload_n hx hb dL_law_824 rfl (lv_at hl 5 rfl) ?_
  refine lv_iload hx hb dL_law_825 (lv_at hl 0 rfl) ?_
  refine lv_iconst (v := 1) hx hb dL_law_827 (by decide) ?_
  refine lv_iadd hx hb dL_law_828 ?_
  refine lv_topi (fun x_1 ex_1 => ?_)
  obtain rfl : x_1 = 1 := ex_1.trans (by decide)
  refine va_sld hx hb hX hbl hbA hS (by unfold vp_in; decide) dL_law_829 ?_
  refine lv_topi (fun x_2 ex_2 => ?_)
  obtain rfl : x_2 = sc 1 := ex_2.trans (congrArg sc (by decide))
  refine lv_aload_n hx hb dL_law_830 rfl (lv_at hl 5 rfl) ?_
  refine lv_iload hx hb dL_law_831 (lv_at hl 0 rfl) ?_
  refine lv_iconst (v := 2) hx hb dL_law_833 (by decide) ?_
  refine lv_iadd hx hb dL_law_834 ?_
  refine lv_topi (fun x_3 ex_3 => ?_)
  obtain rfl : x_3 = 2 := ex_3.trans (by decide)
  refine va_sld hx hb hX hbl hbA hS (by unfold vp_in; decide) dL_law_835 ?_
  refine lv_topi (fun x_4 ex_4 => ?_)
  obtain rfl : x_4 = sc 2 := ex_4.trans (congrArg sc (by decide))
  refine lv_aload_n hx hb dL_law_836 rfl (lv_at hl 2 rfl) ?_
  refine kSW_i (As := [.ref x, .int (sc 1), .int (sc 2), .ref o]) (rest := []) (wr := [(xb, .inr (3, [.ref xt, .ref xp, .ref xs, .int 0])), (xt, .inr (1, [.int 0, .ref e0, .int 0])), (xp, .inl (cxp, 36, .inl (fun _ => 0))), (xs, .inl (cxs, 36, .inl g)), (xo, .inr (1, [.int 0, .ref e0, .int 0])), (xa, .inr (2, [.int 0, .int 0, .int 0, .null, .int 0, .double 0])), (mm, .inr (11, [.int 0, .ref mk9, .ref mt, .ref mb, .int 0, .int 0, .int 0, .int 0, .null, .int 0, .int 0, .double 0, .int 0, .int 0, .int 0])), (mk9, .inr (1, [.int 0, .ref e0, .int 0])), (mt, .inr (1, [.int 0, .ref e0, .int 0])), (mb, .inr (1, [.int 0, .ref e0, .int 0])), (od, .inl (cod, 1, .inr (.inr (.inr (.inl (fun _ => 0))))))]) ⟨hx, hb, hml, hown, hts⟩ (c_w_ofKind l hl9 D e0 _ x xk xb xo xa 0 o co (fun _ => 0) (sc 1) (sc 2)) (vx_cwSW 4 hts gL_law_L_ofKind rfl rfl rfl (by decide +kernel) ⟨Nat.le_of_ble_eq_true rfl, Nat.le_of_ble_eq_true rfl⟩) hP hD hK hS hA hE rfl [0, 1, 12] [2, 3, 4, 5, 6, 7, 8, 9, 10, 11, 13] [2] rfl rfl (by decide) (by decide) (by decide) rfl rfl hl.1 (Nat.le_of_ble_eq_true rfl) dL_law_837 ⟨Nat.le_of_ble_eq_true rfl, Nat.le_of_ble_eq_true rfl⟩ (fun r_5 u9 H locs hw hP hD hK hS => ?_)
  have hw : r_5 = 1 := hw
  subst hw
  have hP : va_P D vwCl [(xb, .inr (3, [.ref xt, .ref xp, .ref xs, .int 0])), (xt, .inr (1, [.int 0, .ref e0, .int 0])), (xp, .inl (cxp, 36, .inl (fun _ => 0))), (xs, .inl (cxs, 36, .inl g)), (xo, .inr (1, [.int 0, .ref e0, .int 0])), (xa, .inr (2, [.int 0, .int 0, .int 0, .null, .int 0, .double 0])), (mm, .inr (11, [.int 0, .ref mk9, .ref mt, .ref mb, .int 0, .int 0, .int 0, .int 0, .null, .int 0, .int 0, .double 0, .int 0, .int 0, .int 0])), (mk9, .inr (1, [.int 0, .ref e0, .int 0])), (mt, .inr (1, [.int 0, .ref e0, .int 0])), (mb, .inr (1, [.int 0, .ref e0, .int 0])), (od, .inl (cod, 1, .inr (.inr (.inr (.inl (fun _ => 0))))))] H := hP
  have hD : va_D A [(xb, .inr (3, [.ref xt, .ref xp, .ref xs, .int 0])), (xt, .inr (1, [.int 0, .ref e0, .int 0])), (xp, .inl (cxp, 36, .inl (fun _ => 0))), (xs, .inl (cxs, 36, .inl g)), (xo, .inr (1, [.int 0, .ref e0, .int 0])), (xa, .inr (2, [.int 0, .int 0, .int 0, .null, .int 0, .double 0])), (mm, .inr (11, [.int 0, .ref mk9, .ref mt, .ref mb, .int 0, .int 0, .int 0, .int 0, .null, .int 0, .int 0, .double 0, .int 0, .int 0, .int 0])), (mk9, .inr (1, [.int 0, .ref e0, .int 0])), (mt, .inr (1, [.int 0, .ref e0, .int 0])), (mb, .inr (1, [.int 0, .ref e0, .int 0])), (od, .inl (cod, 1, .inr (.inr (.inr (.inl (fun _ => 0))))))] := hD
  have hK : va_K D vwCl [(cxp, .int), (cxs, .int), (co, .long), (cod, .double)] s := hK
  refine lv_istore (lv' := [(6, .int 1), (5, .int 0), (4, .ref od), (3, .ref o), (2, .ref mm), (1, .ref x), (0, .ref b)]) hx hb dL_law_840 hl (by decide) rfl (fun ls hl => ?_)
  refine lv_aload_n hx hb dL_law_842 rfl (lv_at hl 4 rfl) ?_
  refine lv_aload_n hx hb dL_law_843 rfl (lv_at hl 6 rfl) ?_
  refine lv_iload hx hb dL_law_844 (lv_at hl 1 rfl) ?_
  refine lv_iconst (v := 1) hx hb dL_law_846 (by decide) ?_
  refine lv_iadd hx hb dL_law_847 ?_
  refine lv_topi (fun x_6 ex_6 => ?_)
  obtain rfl : x_6 = 1 := ex_6.trans (by decide)
  refine va_sld hx hb hX hbl hbA hS (by unfold vp_in; decide) dL_law_848 ?_
  refine lv_topi (fun x_7 ex_7 => ?_)
  obtain rfl : x_7 = sc 1 := ex_7.trans (congrArg sc (by decide))
  refine lv_aload_n hx hb dL_law_849 rfl (lv_at hl 6 rfl) ?_
  refine lv_iload hx hb dL_law_850 (lv_at hl 1 rfl) ?_
  refine lv_iconst (v := 2) hx hb dL_law_852 (by decide) ?_
  refine lv_iadd hx hb dL_law_853 ?_
  refine lv_topi (fun x_8 ex_8 => ?_)
  obtain rfl : x_8 = 2 := ex_8.trans (by decide)
  refine va_sld hx hb hX hbl hbA hS (by unfold vp_in; decide) dL_law_854 ?_
  refine lv_topi (fun x_9 ex_9 => ?_)
  obtain rfl : x_9 = sc 2 := ex_9.trans (congrArg sc (by decide))
  refine kV_i (As := [.int (sc 1), .int (sc 2)]) (rest := []) (wr := [(xb, .inr (3, [.ref xt, .ref xp, .ref xs, .int 0])), (xt, .inr (1, [.int 0, .ref e0, .int 0])), (xp, .inl (cxp, 36, .inl (fun _ => 0))), (xs, .inl (cxs, 36, .inl g)), (xo, .inr (1, [.int 0, .ref e0, .int 0])), (xa, .inr (2, [.int 0, .int 0, .int 0, .null, .int 0, .double 0])), (mt, .inr (1, [.int 0, .ref e0, .int 0])), (mb, .inr (1, [.int 0, .ref e0, .int 0])), (od, .inl (cod, 1, .inr (.inr (.inr (.inl (fun _ => 0))))))]) ⟨hx, hb, hml, hown, hts⟩ (c_m_ofKind l D e0 _ mm mk9 mt mb (sc 1) (sc 2)) (cwV 2 hts gL_law_X9_ofKind rfl rfl rfl (by decide +kernel) ⟨Nat.le_of_ble_eq_true rfl, Nat.le_of_ble_eq_true rfl⟩) hP hD hK hS hA hE rfl [6, 7] [0, 1, 2, 3, 4, 5, 8, 9, 10] [] rfl rfl (by decide) (by decide) (by decide) rfl 11 6 rfl rfl rfl rfl hl.1 (Nat.le_of_ble_eq_true rfl) dL_law_855 ⟨Nat.le_of_ble_eq_true rfl, Nat.le_of_ble_eq_true rfl⟩ (fun r_10 u9 H locs hw hP hD hK hS => ?_)
  have hw : r_10 = 0 := hw
  subst hw
  have hP : va_P D vwCl [(xb, .inr (3, [.ref xt, .ref xp, .ref xs, .int 0])), (xt, .inr (1, [.int 0, .ref e0, .int 0])), (xp, .inl (cxp, 36, .inl (fun _ => 0))), (xs, .inl (cxs, 36, .inl g)), (xo, .inr (1, [.int 0, .ref e0, .int 0])), (xa, .inr (2, [.int 0, .int 0, .int 0, .null, .int 0, .double 0])), (mt, .inr (1, [.int 0, .ref e0, .int 0])), (mb, .inr (1, [.int 0, .ref e0, .int 0])), (od, .inl (cod, 1, .inr (.inr (.inr (.inl (fun _ => 0)))))), (mm, .inr (11, [.int 1, .ref mk9, .ref mt, .ref mb, .int 0, .int 0, .int 0, .int 0, .null, .int 0, .int 0, .double 0, .int 0, .int 0, .int 0]))] H := hP
  have hD : va_D A [(xb, .inr (3, [.ref xt, .ref xp, .ref xs, .int 0])), (xt, .inr (1, [.int 0, .ref e0, .int 0])), (xp, .inl (cxp, 36, .inl (fun _ => 0))), (xs, .inl (cxs, 36, .inl g)), (xo, .inr (1, [.int 0, .ref e0, .int 0])), (xa, .inr (2, [.int 0, .int 0, .int 0, .null, .int 0, .double 0])), (mt, .inr (1, [.int 0, .ref e0, .int 0])), (mb, .inr (1, [.int 0, .ref e0, .int 0])), (od, .inl (cod, 1, .inr (.inr (.inr (.inl (fun _ => 0)))))), (mm, .inr (11, [.int 1, .ref mk9, .ref mt, .ref mb, .int 0, .int 0, .int 0, .int 0, .null, .int 0, .int 0, .double 0, .int 0, .int 0, .int 0]))] := hD
  have hK : va_K D vwCl [(cxp, .int), (cxs, .int), (co, .long), (cod, .double)] s := hK
  refine lv_istore (lv' := [(7, .int 0), (6, .int 1), (5, .int 0), (4, .ref od), (3, .ref o), (2, .ref mm), (1, .ref x), (0, .ref b)]) hx hb dL_law_858 hl (by decide) rfl (fun ls hl => ?_)
  refine lv_aload_n hx hb dL_law_860 rfl (lv_at hl 5 rfl) ?_
  refine kV_i (As := []) (rest := []) (wr := [(xb, .inr (3, [.ref xt, .ref xp, .ref xs, .int 0])), (xt, .inr (1, [.int 0, .ref e0, .int 0])), (xp, .inl (cxp, 36, .inl (fun _ => 0))), (xs, .inl (cxs, 36, .inl g)), (xo, .inr (1, [.int 0, .ref e0, .int 0])), (xa, .inr (2, [.int 0, .int 0, .int 0, .null, .int 0, .double 0])), (mt, .inr (1, [.int 0, .ref e0, .int 0])), (mb, .inr (1, [.int 0, .ref e0, .int 0])), (od, .inl (cod, 1, .inr (.inr (.inr (.inl (fun _ => 0))))))]) ⟨hx, hb, hml, hown, hts⟩ (c_thrown l D e0 _ mm mk9 mt mb 1) (cwV 0 hts gL_law_X9_thrown rfl rfl rfl (by decide +kernel) ⟨Nat.le_of_ble_eq_true rfl, Nat.le_of_ble_eq_true rfl⟩) hP hD hK hS hA hE rfl [9] [0, 1, 2, 3, 4, 5, 6, 7, 8] [] rfl rfl (by decide) (by decide) (by decide) rfl 11 9 rfl rfl rfl rfl hl.1 (Nat.le_of_ble_eq_true rfl) dL_law_861 ⟨Nat.le_of_ble_eq_true rfl, Nat.le_of_ble_eq_true rfl⟩ (fun r_11 u9 H locs hw hP hD hK hS => ?_)
  have hw : r_11 = 1 := hw
  subst hw
  have hP : va_P D vwCl [(xb, .inr (3, [.ref xt, .ref xp, .ref xs, .int 0])), (xt, .inr (1, [.int 0, .ref e0, .int 0])), (xp, .inl (cxp, 36, .inl (fun _ => 0))), (xs, .inl (cxs, 36, .inl g)), (xo, .inr (1, [.int 0, .ref e0, .int 0])), (xa, .inr (2, [.int 0, .int 0, .int 0, .null, .int 0, .double 0])), (mt, .inr (1, [.int 0, .ref e0, .int 0])), (mb, .inr (1, [.int 0, .ref e0, .int 0])), (od, .inl (cod, 1, .inr (.inr (.inr (.inl (fun _ => 0)))))), (mm, .inr (11, [.int 1, .ref mk9, .ref mt, .ref mb, .int 0, .int 0, .int 0, .int 0, .null, .int 0, .int 0, .double 0, .int 0, .int 0, .int 0]))] H := hP
  have hD : va_D A [(xb, .inr (3, [.ref xt, .ref xp, .ref xs, .int 0])), (xt, .inr (1, [.int 0, .ref e0, .int 0])), (xp, .inl (cxp, 36, .inl (fun _ => 0))), (xs, .inl (cxs, 36, .inl g)), (xo, .inr (1, [.int 0, .ref e0, .int 0])), (xa, .inr (2, [.int 0, .int 0, .int 0, .null, .int 0, .double 0])), (mt, .inr (1, [.int 0, .ref e0, .int 0])), (mb, .inr (1, [.int 0, .ref e0, .int 0])), (od, .inl (cod, 1, .inr (.inr (.inr (.inl (fun _ => 0)))))), (mm, .inr (11, [.int 1, .ref mk9, .ref mt, .ref mb, .int 0, .int 0, .int 0, .int 0, .null, .int 0, .int 0, .double 0, .int 0, .int 0, .int 0]))] := hD
  have hK : va_K D vwCl [(cxp, .int), (cxs, .int), (co, .long), (cod, .double)] s := hK
  refine lv_iload hx hb dL_law_864 (lv_at hl 1 rfl) ?_
  refine lv_icmp_eq (tgt := 871) hx hb dL_law_866 (by decide) (fun _ => ?_) (fun h9 => absurd (by decide) h9)
  refine lv_iload hx hb dL_law_871 (lv_at hl 1 rfl) ?_
  refine lv_if_ne (tgt := 888) hx hb dL_law_873 (by decide) (fun _ => ?_) (fun h9 => absurd h9 (by decide))
  refine lv_goto (tgt := 1632) hx hb dL_law_888 (by decide) ?_
  exact law_tail hx hb hr hlocks hX hbl hbA hAs hS (Nat.le_of_ble_eq_true rfl) (Nat.le_of_ble_eq_true rfl) (lv_sub hl [2, 7] rfl)
set_option maxHeartbeats 4000000 in
set_option maxRecDepth 100000 in
theorem law_case_11 {p : Program} {l : Launch} {e : Env} {s : State} {m : MethodId} {below : List Frame} {meth : Method} {c : Code} {b : Nat} {sc : Nat → Int32} {A : Nat → Prop} {H : Heap} {locs : List Loc} {ls : Array Slot} {D : va_G} {e0 x xk xb xt xp xs xo xa mm mk9 mt mb o od : Nat} {cxp cxs co cod : ClassId} {g : Nat → Int32} (hl9 : l.stackTraces = false) (hx : p.tables.exec = Jvm.exec) (hb : c.code = cL_law) (hr : meth.sig.returnType = ret) (hlocks : meth.locks = false) (hX : va_X b 7 sc s s.heap) (hbl : b < s.heap.size) (hbA : ¬ A b) (hAs : ∀ q, A q → s.heap.size ≤ q) (hS : va_S A s.heap H locs) (hml : c.maxLocals = 10) (hown : s.vm.findClass RL = some m.cls) (hts0 : ∀ w ∈ lw_tbl, w.before #[Value.ref b] s = true) (hts : ∀ w ∈ wsL_law, w.before #[Value.ref b] s = true) (hA : ∀ q, s.heap.size ≤ q → A q) (hE : EV e0 A s s.heap) (hg : ∀ j, j < 36 → g j = -1) (hP : va_P D vwCl [(x, .inr (7, [.ref xk, .ref xb, .ref xo, .ref xa, .int 0, .int 0, .int 0, .int 0])), (xk, .inr (1, [.int 0, .ref e0, .int 0])), (xb, .inr (3, [.ref xt, .ref xp, .ref xs, .int 0])), (xt, .inr (1, [.int 0, .ref e0, .int 0])), (xp, .inl (cxp, 36, .inl (fun _ => 0))), (xs, .inl (cxs, 36, .inl g)), (xo, .inr (1, [.int 0, .ref e0, .int 0])), (xa, .inr (2, [.int 0, .int 0, .int 0, .null, .int 0, .double 0])), (mm, .inr (11, [.int 0, .ref mk9, .ref mt, .ref mb, .int 0, .int 0, .int 0, .int 0, .null, .int 0, .int 0, .double 0, .int 0, .int 0, .int 0])), (mk9, .inr (1, [.int 0, .ref e0, .int 0])), (mt, .inr (1, [.int 0, .ref e0, .int 0])), (mb, .inr (1, [.int 0, .ref e0, .int 0])), (o, .inl (co, 1, .inr (.inl (fun _ => 0)))), (od, .inl (cod, 1, .inr (.inr (.inr (.inl (fun _ => 0))))))] H) (hD : va_D A [(x, .inr (7, [.ref xk, .ref xb, .ref xo, .ref xa, .int 0, .int 0, .int 0, .int 0])), (xk, .inr (1, [.int 0, .ref e0, .int 0])), (xb, .inr (3, [.ref xt, .ref xp, .ref xs, .int 0])), (xt, .inr (1, [.int 0, .ref e0, .int 0])), (xp, .inl (cxp, 36, .inl (fun _ => 0))), (xs, .inl (cxs, 36, .inl g)), (xo, .inr (1, [.int 0, .ref e0, .int 0])), (xa, .inr (2, [.int 0, .int 0, .int 0, .null, .int 0, .double 0])), (mm, .inr (11, [.int 0, .ref mk9, .ref mt, .ref mb, .int 0, .int 0, .int 0, .int 0, .null, .int 0, .int 0, .double 0, .int 0, .int 0, .int 0])), (mk9, .inr (1, [.int 0, .ref e0, .int 0])), (mt, .inr (1, [.int 0, .ref e0, .int 0])), (mb, .inr (1, [.int 0, .ref e0, .int 0])), (o, .inl (co, 1, .inr (.inl (fun _ => 0)))), (od, .inl (cod, 1, .inr (.inr (.inr (.inl (fun _ => 0))))))]) (hK : va_K D vwCl [(cxp, .int), (cxs, .int), (co, .long), (cod, .double)] s) (hl : lv_has ls 10 [(5, .int 0), (4, .ref od), (3, .ref o), (2, .ref mm), (1, .ref x), (0, .ref b)]) : W p l e room_1 s m #[Value.ref b] below meth c H locs 14 125 (lw_Z below #[Value.ref b] s) (F0 m 891 ls []) := by
  refine lv_aload_n hx hb dL_law_891 rfl (lv_at hl 4 rfl) ?_
  refine lv_aload_n hx hb dL_law_892 rfl (lv_at hl 5 rfl) ?_
  refine lv_iload hx hb dL_law_893 (lv_at hl 0 rfl) ?_
  refine lv_iconst (v := 1) hx hb dL_law_895 (by decide) ?_
  refine lv_iadd hx hb dL_law_896 ?_
  refine lv_topi (fun x_1 ex_1 => ?_)
  obtain rfl : x_1 = 1 := ex_1.trans (by decide)
  refine va_sld hx hb hX hbl hbA hS (by unfold vp_in; decide) dL_law_897 ?_
  refine lv_topi (fun x_2 ex_2 => ?_)
  obtain rfl : x_2 = sc 1 := ex_2.trans (congrArg sc (by decide))
  refine lv_aload_n hx hb dL_law_898 rfl (lv_at hl 5 rfl) ?_
  refine lv_iload hx hb dL_law_899 (lv_at hl 0 rfl) ?_
  refine lv_iconst (v := 2) hx hb dL_law_901 (by decide) ?_
  refine lv_iadd hx hb dL_law_902 ?_
  refine lv_topi (fun x_3 ex_3 => ?_)
  obtain rfl : x_3 = 2 := ex_3.trans (by decide)
  refine va_sld hx hb hX hbl hbA hS (by unfold vp_in; decide) dL_law_903 ?_
  refine lv_topi (fun x_4 ex_4 => ?_)
  obtain rfl : x_4 = sc 2 := ex_4.trans (congrArg sc (by decide))
  refine lv_aload_n hx hb dL_law_904 rfl (lv_at hl 2 rfl) ?_
  refine kSW_i (As := [.ref x, .int (sc 1), .int (sc 2), .ref o]) (rest := []) (wr := [(xk, .inr (1, [.int 0, .ref e0, .int 0])), (xp, .inl (cxp, 36, .inl (fun _ => 0))), (xs, .inl (cxs, 36, .inl g)), (xo, .inr (1, [.int 0, .ref e0, .int 0])), (xa, .inr (2, [.int 0, .int 0, .int 0, .null, .int 0, .double 0])), (mm, .inr (11, [.int 0, .ref mk9, .ref mt, .ref mb, .int 0, .int 0, .int 0, .int 0, .null, .int 0, .int 0, .double 0, .int 0, .int 0, .int 0])), (mk9, .inr (1, [.int 0, .ref e0, .int 0])), (mt, .inr (1, [.int 0, .ref e0, .int 0])), (mb, .inr (1, [.int 0, .ref e0, .int 0])), (od, .inl (cod, 1, .inr (.inr (.inr (.inl (fun _ => 0))))))]) ⟨hx, hb, hml, hown, hts⟩ (c_w_ofThing l hl9 D e0 _ x xk xb xo xa xt xp xs 0 o co (fun _ => 0) (sc 1) (sc 2)) (vx_cwSW 4 hts gL_law_L_ofThing rfl rfl rfl (by decide +kernel) ⟨Nat.le_of_ble_eq_true rfl, Nat.le_of_ble_eq_true rfl⟩) hP hD hK hS hA hE rfl [0, 2, 3, 12] [1, 4, 5, 6, 7, 8, 9, 10, 11, 13] [2] rfl rfl (by decide) (by decide) (by decide) rfl rfl hl.1 (Nat.le_of_ble_eq_true rfl) dL_law_905 ⟨Nat.le_of_ble_eq_true rfl, Nat.le_of_ble_eq_true rfl⟩ (fun r_5 u9 H locs hw hP hD hK hS => ?_)
  have hw : r_5 = 1 := hw
  subst hw
  have hP : va_P D vwCl [(xk, .inr (1, [.int 0, .ref e0, .int 0])), (xp, .inl (cxp, 36, .inl (fun _ => 0))), (xs, .inl (cxs, 36, .inl g)), (xo, .inr (1, [.int 0, .ref e0, .int 0])), (xa, .inr (2, [.int 0, .int 0, .int 0, .null, .int 0, .double 0])), (mm, .inr (11, [.int 0, .ref mk9, .ref mt, .ref mb, .int 0, .int 0, .int 0, .int 0, .null, .int 0, .int 0, .double 0, .int 0, .int 0, .int 0])), (mk9, .inr (1, [.int 0, .ref e0, .int 0])), (mt, .inr (1, [.int 0, .ref e0, .int 0])), (mb, .inr (1, [.int 0, .ref e0, .int 0])), (od, .inl (cod, 1, .inr (.inr (.inr (.inl (fun _ => 0))))))] H := hP
  have hD : va_D A [(xk, .inr (1, [.int 0, .ref e0, .int 0])), (xp, .inl (cxp, 36, .inl (fun _ => 0))), (xs, .inl (cxs, 36, .inl g)), (xo, .inr (1, [.int 0, .ref e0, .int 0])), (xa, .inr (2, [.int 0, .int 0, .int 0, .null, .int 0, .double 0])), (mm, .inr (11, [.int 0, .ref mk9, .ref mt, .ref mb, .int 0, .int 0, .int 0, .int 0, .null, .int 0, .int 0, .double 0, .int 0, .int 0, .int 0])), (mk9, .inr (1, [.int 0, .ref e0, .int 0])), (mt, .inr (1, [.int 0, .ref e0, .int 0])), (mb, .inr (1, [.int 0, .ref e0, .int 0])), (od, .inl (cod, 1, .inr (.inr (.inr (.inl (fun _ => 0))))))] := hD
  have hK : va_K D vwCl [(cxp, .int), (cxs, .int), (co, .long), (cod, .double)] s := hK
  refine lv_istore (lv' := [(6, .int 1), (5, .int 0), (4, .ref od), (3, .ref o), (2, .ref mm), (1, .ref x), (0, .ref b)]) hx hb dL_law_908 hl (by decide) rfl (fun ls hl => ?_)
  refine lv_aload_n hx hb dL_law_910 rfl (lv_at hl 4 rfl) ?_
  refine lv_aload_n hx hb dL_law_911 rfl (lv_at hl 6 rfl) ?_
  refine lv_iload hx hb dL_law_912 (lv_at hl 1 rfl) ?_
  refine lv_iconst (v := 1) hx hb dL_law_914 (by decide) ?_
  refine lv_iadd hx hb dL_law_915 ?_
  refine lv_topi (fun x_6 ex_6 => ?_)
  obtain rfl : x_6 = 1 := ex_6.trans (by decide)
  refine va_sld hx hb hX hbl hbA hS (by unfold vp_in; decide) dL_law_916 ?_
  refine lv_topi (fun x_7 ex_7 => ?_)
  obtain rfl : x_7 = sc 1 := ex_7.trans (congrArg sc (by decide))
  refine lv_aload_n hx hb dL_law_917 rfl (lv_at hl 6 rfl) ?_
  refine lv_iload hx hb dL_law_918 (lv_at hl 1 rfl) ?_
  refine lv_iconst (v := 2) hx hb dL_law_920 (by decide) ?_
  refine lv_iadd hx hb dL_law_921 ?_
  refine lv_topi (fun x_8 ex_8 => ?_)
  obtain rfl : x_8 = 2 := ex_8.trans (by decide)
  refine va_sld hx hb hX hbl hbA hS (by unfold vp_in; decide) dL_law_922 ?_
  refine lv_topi (fun x_9 ex_9 => ?_)
  obtain rfl : x_9 = sc 2 := ex_9.trans (congrArg sc (by decide))
  refine kV_i (As := [.int (sc 1), .int (sc 2)]) (rest := []) (wr := [(xk, .inr (1, [.int 0, .ref e0, .int 0])), (xp, .inl (cxp, 36, .inl (fun _ => 0))), (xs, .inl (cxs, 36, .inl g)), (xo, .inr (1, [.int 0, .ref e0, .int 0])), (xa, .inr (2, [.int 0, .int 0, .int 0, .null, .int 0, .double 0])), (mk9, .inr (1, [.int 0, .ref e0, .int 0])), (mb, .inr (1, [.int 0, .ref e0, .int 0])), (od, .inl (cod, 1, .inr (.inr (.inr (.inl (fun _ => 0))))))]) ⟨hx, hb, hml, hown, hts⟩ (c_m_ofThing l D e0 _ mm mk9 mt mb (sc 1) (sc 2)) (cwV 2 hts gL_law_X9_ofThing rfl rfl rfl (by decide +kernel) ⟨Nat.le_of_ble_eq_true rfl, Nat.le_of_ble_eq_true rfl⟩) hP hD hK hS hA hE rfl [5, 7] [0, 1, 2, 3, 4, 6, 8, 9] [] rfl rfl (by decide) (by decide) (by decide) rfl 11 5 rfl rfl rfl rfl hl.1 (Nat.le_of_ble_eq_true rfl) dL_law_923 ⟨Nat.le_of_ble_eq_true rfl, Nat.le_of_ble_eq_true rfl⟩ (fun r_10 u9 H locs hw hP hD hK hS => ?_)
  have hw : r_10 = 0 := hw
  subst hw
  have hP : va_P D vwCl [(xk, .inr (1, [.int 0, .ref e0, .int 0])), (xp, .inl (cxp, 36, .inl (fun _ => 0))), (xs, .inl (cxs, 36, .inl g)), (xo, .inr (1, [.int 0, .ref e0, .int 0])), (xa, .inr (2, [.int 0, .int 0, .int 0, .null, .int 0, .double 0])), (mk9, .inr (1, [.int 0, .ref e0, .int 0])), (mb, .inr (1, [.int 0, .ref e0, .int 0])), (od, .inl (cod, 1, .inr (.inr (.inr (.inl (fun _ => 0)))))), (mm, .inr (11, [.int 1, .ref mk9, .ref mt, .ref mb, .int 0, .int 0, .int 0, .int 0, .null, .int 0, .int 0, .double 0, .int 0, .int 0, .int 0]))] H := hP
  have hD : va_D A [(xk, .inr (1, [.int 0, .ref e0, .int 0])), (xp, .inl (cxp, 36, .inl (fun _ => 0))), (xs, .inl (cxs, 36, .inl g)), (xo, .inr (1, [.int 0, .ref e0, .int 0])), (xa, .inr (2, [.int 0, .int 0, .int 0, .null, .int 0, .double 0])), (mk9, .inr (1, [.int 0, .ref e0, .int 0])), (mb, .inr (1, [.int 0, .ref e0, .int 0])), (od, .inl (cod, 1, .inr (.inr (.inr (.inl (fun _ => 0)))))), (mm, .inr (11, [.int 1, .ref mk9, .ref mt, .ref mb, .int 0, .int 0, .int 0, .int 0, .null, .int 0, .int 0, .double 0, .int 0, .int 0, .int 0]))] := hD
  have hK : va_K D vwCl [(cxp, .int), (cxs, .int), (co, .long), (cod, .double)] s := hK
  refine lv_istore (lv' := [(7, .int 0), (6, .int 1), (5, .int 0), (4, .ref od), (3, .ref o), (2, .ref mm), (1, .ref x), (0, .ref b)]) hx hb dL_law_926 hl (by decide) rfl (fun ls hl => ?_)
  refine lv_aload_n hx hb dL_law_928 rfl (lv_at hl 5 rfl) ?_
  refine kV_i (As := []) (rest := []) (wr := [(xk, .inr (1, [.int 0, .ref e0, .int 0])), (xp, .inl (cxp, 36, .inl (fun _ => 0))), (xs, .inl (cxs, 36, .inl g)), (xo, .inr (1, [.int 0, .ref e0, .int 0])), (xa, .inr (2, [.int 0, .int 0, .int 0, .null, .int 0, .double 0])), (mk9, .inr (1, [.int 0, .ref e0, .int 0])), (mb, .inr (1, [.int 0, .ref e0, .int 0])), (od, .inl (cod, 1, .inr (.inr (.inr (.inl (fun _ => 0))))))]) ⟨hx, hb, hml, hown, hts⟩ (c_thrown l D e0 _ mm mk9 mt mb 1) (cwV 0 hts gL_law_X9_thrown rfl rfl rfl (by decide +kernel) ⟨Nat.le_of_ble_eq_true rfl, Nat.le_of_ble_eq_true rfl⟩) hP hD hK hS hA hE rfl [8] [0, 1, 2, 3, 4, 5, 6, 7] [] rfl rfl (by decide) (by decide) (by decide) rfl 11 8 rfl rfl rfl rfl hl.1 (Nat.le_of_ble_eq_true rfl) dL_law_929 ⟨Nat.le_of_ble_eq_true rfl, Nat.le_of_ble_eq_true rfl⟩ (fun r_11 u9 H locs hw hP hD hK hS => ?_)
  have hw : r_11 = 1 := hw
  subst hw
  have hP : va_P D vwCl [(xk, .inr (1, [.int 0, .ref e0, .int 0])), (xp, .inl (cxp, 36, .inl (fun _ => 0))), (xs, .inl (cxs, 36, .inl g)), (xo, .inr (1, [.int 0, .ref e0, .int 0])), (xa, .inr (2, [.int 0, .int 0, .int 0, .null, .int 0, .double 0])), (mk9, .inr (1, [.int 0, .ref e0, .int 0])), (mb, .inr (1, [.int 0, .ref e0, .int 0])), (od, .inl (cod, 1, .inr (.inr (.inr (.inl (fun _ => 0)))))), (mm, .inr (11, [.int 1, .ref mk9, .ref mt, .ref mb, .int 0, .int 0, .int 0, .int 0, .null, .int 0, .int 0, .double 0, .int 0, .int 0, .int 0]))] H := hP
  have hD : va_D A [(xk, .inr (1, [.int 0, .ref e0, .int 0])), (xp, .inl (cxp, 36, .inl (fun _ => 0))), (xs, .inl (cxs, 36, .inl g)), (xo, .inr (1, [.int 0, .ref e0, .int 0])), (xa, .inr (2, [.int 0, .int 0, .int 0, .null, .int 0, .double 0])), (mk9, .inr (1, [.int 0, .ref e0, .int 0])), (mb, .inr (1, [.int 0, .ref e0, .int 0])), (od, .inl (cod, 1, .inr (.inr (.inr (.inl (fun _ => 0)))))), (mm, .inr (11, [.int 1, .ref mk9, .ref mt, .ref mb, .int 0, .int 0, .int 0, .int 0, .null, .int 0, .int 0, .double 0, .int 0, .int 0, .int 0]))] := hD
  have hK : va_K D vwCl [(cxp, .int), (cxs, .int), (co, .long), (cod, .double)] s := hK
  refine lv_iload hx hb dL_law_932 (lv_at hl 1 rfl) ?_
  refine lv_icmp_eq (tgt := 939) hx hb dL_law_934 (by decide) (fun _ => ?_) (fun h9 => absurd (by decide) h9)
  refine lv_iload hx hb dL_law_939 (lv_at hl 1 rfl) ?_
  refine lv_if_ne (tgt := 956) hx hb dL_law_941 (by decide) (fun _ => ?_) (fun h9 => absurd h9 (by decide))
  refine lv_goto (tgt := 1632) hx hb dL_law_956 (by decide) ?_
  exact law_tail hx hb hr hlocks hX hbl hbA hAs hS (Nat.le_of_ble_eq_true rfl) (Nat.le_of_ble_eq_true rfl) (lv_sub hl [2, 7] rfl)
set_option maxHeartbeats 4000000 in
set_option maxRecDepth 100000 in
theorem law_case_12 {p : Program} {l : Launch} {e : Env} {s : State} {m : MethodId} {below : List Frame} {meth : Method} {c : Code} {b : Nat} {sc : Nat → Int32} {A : Nat → Prop} {H : Heap} {locs : List Loc} {ls : Array Slot} {D : va_G} {e0 x xk xb xt xp xs xo xa mm mk9 mt mb o od : Nat} {cxp cxs co cod : ClassId} {g : Nat → Int32} (hl9 : l.stackTraces = false) (hx : p.tables.exec = Jvm.exec) (hb : c.code = cL_law) (hr : meth.sig.returnType = ret) (hlocks : meth.locks = false) (hX : va_X b 7 sc s s.heap) (hbl : b < s.heap.size) (hbA : ¬ A b) (hAs : ∀ q, A q → s.heap.size ≤ q) (hS : va_S A s.heap H locs) (hml : c.maxLocals = 10) (hown : s.vm.findClass RL = some m.cls) (hts0 : ∀ w ∈ lw_tbl, w.before #[Value.ref b] s = true) (hts : ∀ w ∈ wsL_law, w.before #[Value.ref b] s = true) (hA : ∀ q, s.heap.size ≤ q → A q) (hE : EV e0 A s s.heap) (hg : ∀ j, j < 36 → g j = -1) (hP : va_P D vwCl [(x, .inr (7, [.ref xk, .ref xb, .ref xo, .ref xa, .int 0, .int 0, .int 0, .int 0])), (xk, .inr (1, [.int 0, .ref e0, .int 0])), (xb, .inr (3, [.ref xt, .ref xp, .ref xs, .int 0])), (xt, .inr (1, [.int 0, .ref e0, .int 0])), (xp, .inl (cxp, 36, .inl (fun _ => 0))), (xs, .inl (cxs, 36, .inl g)), (xo, .inr (1, [.int 0, .ref e0, .int 0])), (xa, .inr (2, [.int 0, .int 0, .int 0, .null, .int 0, .double 0])), (mm, .inr (11, [.int 0, .ref mk9, .ref mt, .ref mb, .int 0, .int 0, .int 0, .int 0, .null, .int 0, .int 0, .double 0, .int 0, .int 0, .int 0])), (mk9, .inr (1, [.int 0, .ref e0, .int 0])), (mt, .inr (1, [.int 0, .ref e0, .int 0])), (mb, .inr (1, [.int 0, .ref e0, .int 0])), (o, .inl (co, 1, .inr (.inl (fun _ => 0)))), (od, .inl (cod, 1, .inr (.inr (.inr (.inl (fun _ => 0))))))] H) (hD : va_D A [(x, .inr (7, [.ref xk, .ref xb, .ref xo, .ref xa, .int 0, .int 0, .int 0, .int 0])), (xk, .inr (1, [.int 0, .ref e0, .int 0])), (xb, .inr (3, [.ref xt, .ref xp, .ref xs, .int 0])), (xt, .inr (1, [.int 0, .ref e0, .int 0])), (xp, .inl (cxp, 36, .inl (fun _ => 0))), (xs, .inl (cxs, 36, .inl g)), (xo, .inr (1, [.int 0, .ref e0, .int 0])), (xa, .inr (2, [.int 0, .int 0, .int 0, .null, .int 0, .double 0])), (mm, .inr (11, [.int 0, .ref mk9, .ref mt, .ref mb, .int 0, .int 0, .int 0, .int 0, .null, .int 0, .int 0, .double 0, .int 0, .int 0, .int 0])), (mk9, .inr (1, [.int 0, .ref e0, .int 0])), (mt, .inr (1, [.int 0, .ref e0, .int 0])), (mb, .inr (1, [.int 0, .ref e0, .int 0])), (o, .inl (co, 1, .inr (.inl (fun _ => 0)))), (od, .inl (cod, 1, .inr (.inr (.inr (.inl (fun _ => 0))))))]) (hK : va_K D vwCl [(cxp, .int), (cxs, .int), (co, .long), (cod, .double)] s) (hl : lv_has ls 10 [(5, .int 0), (4, .ref od), (3, .ref o), (2, .ref mm), (1, .ref x), (0, .ref b)]) : W p l e room_1 s m #[Value.ref b] below meth c H locs 14 125 (lw_Z below #[Value.ref b] s) (F0 m 959 ls []) := by
  refine lv_aload_n hx hb dL_law_959 rfl (lv_at hl 4 rfl) ?_
  refine lv_aload_n hx hb dL_law_960 rfl (lv_at hl 5 rfl) ?_
  refine lv_iload hx hb dL_law_961 (lv_at hl 0 rfl) ?_
  refine lv_iconst (v := 1) hx hb dL_law_963 (by decide) ?_
  refine lv_iadd hx hb dL_law_964 ?_
  refine lv_topi (fun x_1 ex_1 => ?_)
  obtain rfl : x_1 = 1 := ex_1.trans (by decide)
  refine va_sld hx hb hX hbl hbA hS (by unfold vp_in; decide) dL_law_965 ?_
  refine lv_topi (fun x_2 ex_2 => ?_)
  obtain rfl : x_2 = sc 1 := ex_2.trans (congrArg sc (by decide))
  refine lv_aload_n hx hb dL_law_966 rfl (lv_at hl 5 rfl) ?_
  refine lv_iload hx hb dL_law_967 (lv_at hl 0 rfl) ?_
  refine lv_iconst (v := 2) hx hb dL_law_969 (by decide) ?_
  refine lv_iadd hx hb dL_law_970 ?_
  refine lv_topi (fun x_3 ex_3 => ?_)
  obtain rfl : x_3 = 2 := ex_3.trans (by decide)
  refine va_sld hx hb hX hbl hbA hS (by unfold vp_in; decide) dL_law_971 ?_
  refine lv_topi (fun x_4 ex_4 => ?_)
  obtain rfl : x_4 = sc 2 := ex_4.trans (congrArg sc (by decide))
  refine lv_aload_n hx hb dL_law_972 rfl (lv_at hl 2 rfl) ?_
  refine kSW_i (As := [.ref x, .int (sc 1), .int (sc 2), .ref o]) (rest := []) (wr := [(xk, .inr (1, [.int 0, .ref e0, .int 0])), (xp, .inl (cxp, 36, .inl (fun _ => 0))), (xs, .inl (cxs, 36, .inl g)), (xo, .inr (1, [.int 0, .ref e0, .int 0])), (xa, .inr (2, [.int 0, .int 0, .int 0, .null, .int 0, .double 0])), (mm, .inr (11, [.int 0, .ref mk9, .ref mt, .ref mb, .int 0, .int 0, .int 0, .int 0, .null, .int 0, .int 0, .double 0, .int 0, .int 0, .int 0])), (mk9, .inr (1, [.int 0, .ref e0, .int 0])), (mt, .inr (1, [.int 0, .ref e0, .int 0])), (mb, .inr (1, [.int 0, .ref e0, .int 0])), (od, .inl (cod, 1, .inr (.inr (.inr (.inl (fun _ => 0))))))]) ⟨hx, hb, hml, hown, hts⟩ (c_w_hinders l hl9 D e0 _ x xk xb xo xa xt xp xs 0 o co (fun _ => 0) (sc 1) (sc 2)) (vx_cwSW 4 hts gL_law_L_hinders rfl rfl rfl (by decide +kernel) ⟨Nat.le_of_ble_eq_true rfl, Nat.le_of_ble_eq_true rfl⟩) hP hD hK hS hA hE rfl [0, 2, 3, 12] [1, 4, 5, 6, 7, 8, 9, 10, 11, 13] [2] rfl rfl (by decide) (by decide) (by decide) rfl rfl hl.1 (Nat.le_of_ble_eq_true rfl) dL_law_973 ⟨Nat.le_of_ble_eq_true rfl, Nat.le_of_ble_eq_true rfl⟩ (fun r_5 u9 H locs hw hP hD hK hS => ?_)
  have hw : r_5 = 1 := hw
  subst hw
  have hP : va_P D vwCl [(xk, .inr (1, [.int 0, .ref e0, .int 0])), (xp, .inl (cxp, 36, .inl (fun _ => 0))), (xs, .inl (cxs, 36, .inl g)), (xo, .inr (1, [.int 0, .ref e0, .int 0])), (xa, .inr (2, [.int 0, .int 0, .int 0, .null, .int 0, .double 0])), (mm, .inr (11, [.int 0, .ref mk9, .ref mt, .ref mb, .int 0, .int 0, .int 0, .int 0, .null, .int 0, .int 0, .double 0, .int 0, .int 0, .int 0])), (mk9, .inr (1, [.int 0, .ref e0, .int 0])), (mt, .inr (1, [.int 0, .ref e0, .int 0])), (mb, .inr (1, [.int 0, .ref e0, .int 0])), (od, .inl (cod, 1, .inr (.inr (.inr (.inl (fun _ => 0))))))] H := hP
  have hD : va_D A [(xk, .inr (1, [.int 0, .ref e0, .int 0])), (xp, .inl (cxp, 36, .inl (fun _ => 0))), (xs, .inl (cxs, 36, .inl g)), (xo, .inr (1, [.int 0, .ref e0, .int 0])), (xa, .inr (2, [.int 0, .int 0, .int 0, .null, .int 0, .double 0])), (mm, .inr (11, [.int 0, .ref mk9, .ref mt, .ref mb, .int 0, .int 0, .int 0, .int 0, .null, .int 0, .int 0, .double 0, .int 0, .int 0, .int 0])), (mk9, .inr (1, [.int 0, .ref e0, .int 0])), (mt, .inr (1, [.int 0, .ref e0, .int 0])), (mb, .inr (1, [.int 0, .ref e0, .int 0])), (od, .inl (cod, 1, .inr (.inr (.inr (.inl (fun _ => 0))))))] := hD
  have hK : va_K D vwCl [(cxp, .int), (cxs, .int), (co, .long), (cod, .double)] s := hK
  refine lv_istore (lv' := [(6, .int 1), (5, .int 0), (4, .ref od), (3, .ref o), (2, .ref mm), (1, .ref x), (0, .ref b)]) hx hb dL_law_976 hl (by decide) rfl (fun ls hl => ?_)
  refine lv_aload_n hx hb dL_law_978 rfl (lv_at hl 4 rfl) ?_
  refine lv_aload_n hx hb dL_law_979 rfl (lv_at hl 6 rfl) ?_
  refine lv_iload hx hb dL_law_980 (lv_at hl 1 rfl) ?_
  refine lv_iconst (v := 1) hx hb dL_law_982 (by decide) ?_
  refine lv_iadd hx hb dL_law_983 ?_
  refine lv_topi (fun x_6 ex_6 => ?_)
  obtain rfl : x_6 = 1 := ex_6.trans (by decide)
  refine va_sld hx hb hX hbl hbA hS (by unfold vp_in; decide) dL_law_984 ?_
  refine lv_topi (fun x_7 ex_7 => ?_)
  obtain rfl : x_7 = sc 1 := ex_7.trans (congrArg sc (by decide))
  refine lv_aload_n hx hb dL_law_985 rfl (lv_at hl 6 rfl) ?_
  refine lv_iload hx hb dL_law_986 (lv_at hl 1 rfl) ?_
  refine lv_iconst (v := 2) hx hb dL_law_988 (by decide) ?_
  refine lv_iadd hx hb dL_law_989 ?_
  refine lv_topi (fun x_8 ex_8 => ?_)
  obtain rfl : x_8 = 2 := ex_8.trans (by decide)
  refine va_sld hx hb hX hbl hbA hS (by unfold vp_in; decide) dL_law_990 ?_
  refine lv_topi (fun x_9 ex_9 => ?_)
  obtain rfl : x_9 = sc 2 := ex_9.trans (congrArg sc (by decide))
  refine kV_i (As := [.int (sc 1), .int (sc 2)]) (rest := []) (wr := [(xk, .inr (1, [.int 0, .ref e0, .int 0])), (xp, .inl (cxp, 36, .inl (fun _ => 0))), (xs, .inl (cxs, 36, .inl g)), (xo, .inr (1, [.int 0, .ref e0, .int 0])), (xa, .inr (2, [.int 0, .int 0, .int 0, .null, .int 0, .double 0])), (mk9, .inr (1, [.int 0, .ref e0, .int 0])), (mb, .inr (1, [.int 0, .ref e0, .int 0])), (od, .inl (cod, 1, .inr (.inr (.inr (.inl (fun _ => 0))))))]) ⟨hx, hb, hml, hown, hts⟩ (c_m_hinders l D e0 _ mm mk9 mt mb (sc 1) (sc 2)) (cwV 2 hts gL_law_X9_hinders rfl rfl rfl (by decide +kernel) ⟨Nat.le_of_ble_eq_true rfl, Nat.le_of_ble_eq_true rfl⟩) hP hD hK hS hA hE rfl [5, 7] [0, 1, 2, 3, 4, 6, 8, 9] [] rfl rfl (by decide) (by decide) (by decide) rfl 11 5 rfl rfl rfl rfl hl.1 (Nat.le_of_ble_eq_true rfl) dL_law_991 ⟨Nat.le_of_ble_eq_true rfl, Nat.le_of_ble_eq_true rfl⟩ (fun r_10 u9 H locs hw hP hD hK hS => ?_)
  have hw : r_10 = 0 := hw
  subst hw
  have hP : va_P D vwCl [(xk, .inr (1, [.int 0, .ref e0, .int 0])), (xp, .inl (cxp, 36, .inl (fun _ => 0))), (xs, .inl (cxs, 36, .inl g)), (xo, .inr (1, [.int 0, .ref e0, .int 0])), (xa, .inr (2, [.int 0, .int 0, .int 0, .null, .int 0, .double 0])), (mk9, .inr (1, [.int 0, .ref e0, .int 0])), (mb, .inr (1, [.int 0, .ref e0, .int 0])), (od, .inl (cod, 1, .inr (.inr (.inr (.inl (fun _ => 0)))))), (mm, .inr (11, [.int 1, .ref mk9, .ref mt, .ref mb, .int 0, .int 0, .int 0, .int 0, .null, .int 0, .int 0, .double 0, .int 0, .int 0, .int 0]))] H := hP
  have hD : va_D A [(xk, .inr (1, [.int 0, .ref e0, .int 0])), (xp, .inl (cxp, 36, .inl (fun _ => 0))), (xs, .inl (cxs, 36, .inl g)), (xo, .inr (1, [.int 0, .ref e0, .int 0])), (xa, .inr (2, [.int 0, .int 0, .int 0, .null, .int 0, .double 0])), (mk9, .inr (1, [.int 0, .ref e0, .int 0])), (mb, .inr (1, [.int 0, .ref e0, .int 0])), (od, .inl (cod, 1, .inr (.inr (.inr (.inl (fun _ => 0)))))), (mm, .inr (11, [.int 1, .ref mk9, .ref mt, .ref mb, .int 0, .int 0, .int 0, .int 0, .null, .int 0, .int 0, .double 0, .int 0, .int 0, .int 0]))] := hD
  have hK : va_K D vwCl [(cxp, .int), (cxs, .int), (co, .long), (cod, .double)] s := hK
  refine lv_istore (lv' := [(7, .int 0), (6, .int 1), (5, .int 0), (4, .ref od), (3, .ref o), (2, .ref mm), (1, .ref x), (0, .ref b)]) hx hb dL_law_994 hl (by decide) rfl (fun ls hl => ?_)
  refine lv_aload_n hx hb dL_law_996 rfl (lv_at hl 5 rfl) ?_
  refine kV_i (As := []) (rest := []) (wr := [(xk, .inr (1, [.int 0, .ref e0, .int 0])), (xp, .inl (cxp, 36, .inl (fun _ => 0))), (xs, .inl (cxs, 36, .inl g)), (xo, .inr (1, [.int 0, .ref e0, .int 0])), (xa, .inr (2, [.int 0, .int 0, .int 0, .null, .int 0, .double 0])), (mk9, .inr (1, [.int 0, .ref e0, .int 0])), (mb, .inr (1, [.int 0, .ref e0, .int 0])), (od, .inl (cod, 1, .inr (.inr (.inr (.inl (fun _ => 0))))))]) ⟨hx, hb, hml, hown, hts⟩ (c_thrown l D e0 _ mm mk9 mt mb 1) (cwV 0 hts gL_law_X9_thrown rfl rfl rfl (by decide +kernel) ⟨Nat.le_of_ble_eq_true rfl, Nat.le_of_ble_eq_true rfl⟩) hP hD hK hS hA hE rfl [8] [0, 1, 2, 3, 4, 5, 6, 7] [] rfl rfl (by decide) (by decide) (by decide) rfl 11 8 rfl rfl rfl rfl hl.1 (Nat.le_of_ble_eq_true rfl) dL_law_997 ⟨Nat.le_of_ble_eq_true rfl, Nat.le_of_ble_eq_true rfl⟩ (fun r_11 u9 H locs hw hP hD hK hS => ?_)
  have hw : r_11 = 1 := hw
  subst hw
  have hP : va_P D vwCl [(xk, .inr (1, [.int 0, .ref e0, .int 0])), (xp, .inl (cxp, 36, .inl (fun _ => 0))), (xs, .inl (cxs, 36, .inl g)), (xo, .inr (1, [.int 0, .ref e0, .int 0])), (xa, .inr (2, [.int 0, .int 0, .int 0, .null, .int 0, .double 0])), (mk9, .inr (1, [.int 0, .ref e0, .int 0])), (mb, .inr (1, [.int 0, .ref e0, .int 0])), (od, .inl (cod, 1, .inr (.inr (.inr (.inl (fun _ => 0)))))), (mm, .inr (11, [.int 1, .ref mk9, .ref mt, .ref mb, .int 0, .int 0, .int 0, .int 0, .null, .int 0, .int 0, .double 0, .int 0, .int 0, .int 0]))] H := hP
  have hD : va_D A [(xk, .inr (1, [.int 0, .ref e0, .int 0])), (xp, .inl (cxp, 36, .inl (fun _ => 0))), (xs, .inl (cxs, 36, .inl g)), (xo, .inr (1, [.int 0, .ref e0, .int 0])), (xa, .inr (2, [.int 0, .int 0, .int 0, .null, .int 0, .double 0])), (mk9, .inr (1, [.int 0, .ref e0, .int 0])), (mb, .inr (1, [.int 0, .ref e0, .int 0])), (od, .inl (cod, 1, .inr (.inr (.inr (.inl (fun _ => 0)))))), (mm, .inr (11, [.int 1, .ref mk9, .ref mt, .ref mb, .int 0, .int 0, .int 0, .int 0, .null, .int 0, .int 0, .double 0, .int 0, .int 0, .int 0]))] := hD
  have hK : va_K D vwCl [(cxp, .int), (cxs, .int), (co, .long), (cod, .double)] s := hK
  refine lv_iload hx hb dL_law_1000 (lv_at hl 1 rfl) ?_
  refine lv_icmp_eq (tgt := 1007) hx hb dL_law_1002 (by decide) (fun _ => ?_) (fun h9 => absurd (by decide) h9)
  refine lv_iload hx hb dL_law_1007 (lv_at hl 1 rfl) ?_
  refine lv_if_ne (tgt := 1024) hx hb dL_law_1009 (by decide) (fun _ => ?_) (fun h9 => absurd h9 (by decide))
  refine lv_goto (tgt := 1632) hx hb dL_law_1024 (by decide) ?_
  exact law_tail hx hb hr hlocks hX hbl hbA hAs hS (Nat.le_of_ble_eq_true rfl) (Nat.le_of_ble_eq_true rfl) (lv_sub hl [2, 7] rfl)
set_option maxHeartbeats 4000000 in
set_option maxRecDepth 100000 in
theorem law_case_13 {p : Program} {l : Launch} {e : Env} {s : State} {m : MethodId} {below : List Frame} {meth : Method} {c : Code} {b : Nat} {sc : Nat → Int32} {A : Nat → Prop} {H : Heap} {locs : List Loc} {ls : Array Slot} {D : va_G} {e0 x xk xb xt xp xs xo xa mm mk9 mt mb o od : Nat} {cxp cxs co cod : ClassId} {g : Nat → Int32} (hl9 : l.stackTraces = false) (hx : p.tables.exec = Jvm.exec) (hb : c.code = cL_law) (hr : meth.sig.returnType = ret) (hlocks : meth.locks = false) (hX : va_X b 7 sc s s.heap) (hbl : b < s.heap.size) (hbA : ¬ A b) (hAs : ∀ q, A q → s.heap.size ≤ q) (hS : va_S A s.heap H locs) (hml : c.maxLocals = 10) (hown : s.vm.findClass RL = some m.cls) (hts0 : ∀ w ∈ lw_tbl, w.before #[Value.ref b] s = true) (hts : ∀ w ∈ wsL_law, w.before #[Value.ref b] s = true) (hA : ∀ q, s.heap.size ≤ q → A q) (hE : EV e0 A s s.heap) (hg : ∀ j, j < 36 → g j = -1) (hP : va_P D vwCl [(x, .inr (7, [.ref xk, .ref xb, .ref xo, .ref xa, .int 0, .int 0, .int 0, .int 0])), (xk, .inr (1, [.int 0, .ref e0, .int 0])), (xb, .inr (3, [.ref xt, .ref xp, .ref xs, .int 0])), (xt, .inr (1, [.int 0, .ref e0, .int 0])), (xp, .inl (cxp, 36, .inl (fun _ => 0))), (xs, .inl (cxs, 36, .inl g)), (xo, .inr (1, [.int 0, .ref e0, .int 0])), (xa, .inr (2, [.int 0, .int 0, .int 0, .null, .int 0, .double 0])), (mm, .inr (11, [.int 0, .ref mk9, .ref mt, .ref mb, .int 0, .int 0, .int 0, .int 0, .null, .int 0, .int 0, .double 0, .int 0, .int 0, .int 0])), (mk9, .inr (1, [.int 0, .ref e0, .int 0])), (mt, .inr (1, [.int 0, .ref e0, .int 0])), (mb, .inr (1, [.int 0, .ref e0, .int 0])), (o, .inl (co, 1, .inr (.inl (fun _ => 0)))), (od, .inl (cod, 1, .inr (.inr (.inr (.inl (fun _ => 0))))))] H) (hD : va_D A [(x, .inr (7, [.ref xk, .ref xb, .ref xo, .ref xa, .int 0, .int 0, .int 0, .int 0])), (xk, .inr (1, [.int 0, .ref e0, .int 0])), (xb, .inr (3, [.ref xt, .ref xp, .ref xs, .int 0])), (xt, .inr (1, [.int 0, .ref e0, .int 0])), (xp, .inl (cxp, 36, .inl (fun _ => 0))), (xs, .inl (cxs, 36, .inl g)), (xo, .inr (1, [.int 0, .ref e0, .int 0])), (xa, .inr (2, [.int 0, .int 0, .int 0, .null, .int 0, .double 0])), (mm, .inr (11, [.int 0, .ref mk9, .ref mt, .ref mb, .int 0, .int 0, .int 0, .int 0, .null, .int 0, .int 0, .double 0, .int 0, .int 0, .int 0])), (mk9, .inr (1, [.int 0, .ref e0, .int 0])), (mt, .inr (1, [.int 0, .ref e0, .int 0])), (mb, .inr (1, [.int 0, .ref e0, .int 0])), (o, .inl (co, 1, .inr (.inl (fun _ => 0)))), (od, .inl (cod, 1, .inr (.inr (.inr (.inl (fun _ => 0))))))]) (hK : va_K D vwCl [(cxp, .int), (cxs, .int), (co, .long), (cod, .double)] s) (hl : lv_has ls 10 [(5, .int 0), (4, .ref od), (3, .ref o), (2, .ref mm), (1, .ref x), (0, .ref b)]) : W p l e room_1 s m #[Value.ref b] below meth c H locs 14 125 (lw_Z below #[Value.ref b] s) (F0 m 1027 ls []) := by
  refine lv_aload_n hx hb dL_law_1027 rfl (lv_at hl 4 rfl) ?_
  refine lv_aload_n hx hb dL_law_1028 rfl (lv_at hl 5 rfl) ?_
  refine lv_iload hx hb dL_law_1029 (lv_at hl 0 rfl) ?_
  refine lv_iconst (v := 1) hx hb dL_law_1031 (by decide) ?_
  refine lv_iadd hx hb dL_law_1032 ?_
  refine lv_topi (fun x_1 ex_1 => ?_)
  obtain rfl : x_1 = 1 := ex_1.trans (by decide)
  refine va_sld hx hb hX hbl hbA hS (by unfold vp_in; decide) dL_law_1033 ?_
  refine lv_topi (fun x_2 ex_2 => ?_)
  obtain rfl : x_2 = sc 1 := ex_2.trans (congrArg sc (by decide))
  refine lv_aload_n hx hb dL_law_1034 rfl (lv_at hl 5 rfl) ?_
  refine lv_iload hx hb dL_law_1035 (lv_at hl 0 rfl) ?_
  refine lv_iconst (v := 2) hx hb dL_law_1037 (by decide) ?_
  refine lv_iadd hx hb dL_law_1038 ?_
  refine lv_topi (fun x_3 ex_3 => ?_)
  obtain rfl : x_3 = 2 := ex_3.trans (by decide)
  refine va_sld hx hb hX hbl hbA hS (by unfold vp_in; decide) dL_law_1039 ?_
  refine lv_topi (fun x_4 ex_4 => ?_)
  obtain rfl : x_4 = sc 2 := ex_4.trans (congrArg sc (by decide))
  refine lv_aload hx hb dL_law_1040 (lv_at hl 1 rfl) ?_
  refine kSW_i (As := [.ref x, .int (sc 1), .int (sc 2), .ref od]) (rest := []) (wr := [(xk, .inr (1, [.int 0, .ref e0, .int 0])), (xp, .inl (cxp, 36, .inl (fun _ => 0))), (xs, .inl (cxs, 36, .inl g)), (xo, .inr (1, [.int 0, .ref e0, .int 0])), (xa, .inr (2, [.int 0, .int 0, .int 0, .null, .int 0, .double 0])), (mm, .inr (11, [.int 0, .ref mk9, .ref mt, .ref mb, .int 0, .int 0, .int 0, .int 0, .null, .int 0, .int 0, .double 0, .int 0, .int 0, .int 0])), (mk9, .inr (1, [.int 0, .ref e0, .int 0])), (mt, .inr (1, [.int 0, .ref e0, .int 0])), (mb, .inr (1, [.int 0, .ref e0, .int 0])), (o, .inl (co, 1, .inr (.inl (fun _ => 0))))]) ⟨hx, hb, hml, hown, hts⟩ (c_w_force l hl9 D e0 _ x xk xb xo xa xt xp xs 0 od cod (fun _ => 0) (sc 1) (sc 2)) (vx_cwSW 4 hts gL_law_L_force rfl rfl rfl (by decide +kernel) ⟨Nat.le_of_ble_eq_true rfl, Nat.le_of_ble_eq_true rfl⟩) hP hD hK hS hA hE rfl [0, 2, 3, 13] [1, 4, 5, 6, 7, 8, 9, 10, 11, 12] [3] rfl rfl (by decide) (by decide) (by decide) rfl rfl hl.1 (Nat.le_of_ble_eq_true rfl) dL_law_1042 ⟨Nat.le_of_ble_eq_true rfl, Nat.le_of_ble_eq_true rfl⟩ (fun r_5 u9 H locs hw hP hD hK hS => ?_)
  have hw : r_5 = 1 := hw
  subst hw
  have hP : va_P D vwCl [(xk, .inr (1, [.int 0, .ref e0, .int 0])), (xp, .inl (cxp, 36, .inl (fun _ => 0))), (xs, .inl (cxs, 36, .inl g)), (xo, .inr (1, [.int 0, .ref e0, .int 0])), (xa, .inr (2, [.int 0, .int 0, .int 0, .null, .int 0, .double 0])), (mm, .inr (11, [.int 0, .ref mk9, .ref mt, .ref mb, .int 0, .int 0, .int 0, .int 0, .null, .int 0, .int 0, .double 0, .int 0, .int 0, .int 0])), (mk9, .inr (1, [.int 0, .ref e0, .int 0])), (mt, .inr (1, [.int 0, .ref e0, .int 0])), (mb, .inr (1, [.int 0, .ref e0, .int 0])), (o, .inl (co, 1, .inr (.inl (fun _ => 0))))] H := hP
  have hD : va_D A [(xk, .inr (1, [.int 0, .ref e0, .int 0])), (xp, .inl (cxp, 36, .inl (fun _ => 0))), (xs, .inl (cxs, 36, .inl g)), (xo, .inr (1, [.int 0, .ref e0, .int 0])), (xa, .inr (2, [.int 0, .int 0, .int 0, .null, .int 0, .double 0])), (mm, .inr (11, [.int 0, .ref mk9, .ref mt, .ref mb, .int 0, .int 0, .int 0, .int 0, .null, .int 0, .int 0, .double 0, .int 0, .int 0, .int 0])), (mk9, .inr (1, [.int 0, .ref e0, .int 0])), (mt, .inr (1, [.int 0, .ref e0, .int 0])), (mb, .inr (1, [.int 0, .ref e0, .int 0])), (o, .inl (co, 1, .inr (.inl (fun _ => 0))))] := hD
  have hK : va_K D vwCl [(cxp, .int), (cxs, .int), (co, .long), (cod, .double)] s := hK
  refine lv_istore (lv' := [(6, .int 1), (5, .int 0), (4, .ref od), (3, .ref o), (2, .ref mm), (1, .ref x), (0, .ref b)]) hx hb dL_law_1045 hl (by decide) rfl (fun ls hl => ?_)
  refine lv_aload_n hx hb dL_law_1047 rfl (lv_at hl 4 rfl) ?_
  refine lv_aload_n hx hb dL_law_1048 rfl (lv_at hl 6 rfl) ?_
  refine lv_iload hx hb dL_law_1049 (lv_at hl 1 rfl) ?_
  refine lv_iconst (v := 1) hx hb dL_law_1051 (by decide) ?_
  refine lv_iadd hx hb dL_law_1052 ?_
  refine lv_topi (fun x_6 ex_6 => ?_)
  obtain rfl : x_6 = 1 := ex_6.trans (by decide)
  refine va_sld hx hb hX hbl hbA hS (by unfold vp_in; decide) dL_law_1053 ?_
  refine lv_topi (fun x_7 ex_7 => ?_)
  obtain rfl : x_7 = sc 1 := ex_7.trans (congrArg sc (by decide))
  refine lv_aload_n hx hb dL_law_1054 rfl (lv_at hl 6 rfl) ?_
  refine lv_iload hx hb dL_law_1055 (lv_at hl 1 rfl) ?_
  refine lv_iconst (v := 2) hx hb dL_law_1057 (by decide) ?_
  refine lv_iadd hx hb dL_law_1058 ?_
  refine lv_topi (fun x_8 ex_8 => ?_)
  obtain rfl : x_8 = 2 := ex_8.trans (by decide)
  refine va_sld hx hb hX hbl hbA hS (by unfold vp_in; decide) dL_law_1059 ?_
  refine lv_topi (fun x_9 ex_9 => ?_)
  obtain rfl : x_9 = sc 2 := ex_9.trans (congrArg sc (by decide))
  refine kV_d (As := [.int (sc 1), .int (sc 2)]) (rest := []) (wr := [(xk, .inr (1, [.int 0, .ref e0, .int 0])), (xp, .inl (cxp, 36, .inl (fun _ => 0))), (xs, .inl (cxs, 36, .inl g)), (xo, .inr (1, [.int 0, .ref e0, .int 0])), (xa, .inr (2, [.int 0, .int 0, .int 0, .null, .int 0, .double 0])), (mk9, .inr (1, [.int 0, .ref e0, .int 0])), (mb, .inr (1, [.int 0, .ref e0, .int 0])), (o, .inl (co, 1, .inr (.inl (fun _ => 0))))]) ⟨hx, hb, hml, hown, hts⟩ (c_m_force l D e0 _ mm mk9 mt mb (sc 1) (sc 2)) (cwV 2 hts gL_law_X9_force rfl rfl rfl (by decide +kernel) ⟨Nat.le_of_ble_eq_true rfl, Nat.le_of_ble_eq_true rfl⟩) hP hD hK hS hA hE rfl [5, 7] [0, 1, 2, 3, 4, 6, 8, 9] [] rfl rfl (by decide) (by decide) (by decide) rfl 11 5 rfl rfl rfl rfl hl.1 (Nat.le_of_ble_eq_true rfl) dL_law_1060 ⟨Nat.le_of_ble_eq_true rfl, Nat.le_of_ble_eq_true rfl⟩ (fun r_10 u9 H locs hw hP hD hK hS => ?_)
  have hw : r_10 = 0 := hw
  subst hw
  have hP : va_P D vwCl [(xk, .inr (1, [.int 0, .ref e0, .int 0])), (xp, .inl (cxp, 36, .inl (fun _ => 0))), (xs, .inl (cxs, 36, .inl g)), (xo, .inr (1, [.int 0, .ref e0, .int 0])), (xa, .inr (2, [.int 0, .int 0, .int 0, .null, .int 0, .double 0])), (mk9, .inr (1, [.int 0, .ref e0, .int 0])), (mb, .inr (1, [.int 0, .ref e0, .int 0])), (o, .inl (co, 1, .inr (.inl (fun _ => 0)))), (mm, .inr (11, [.int 1, .ref mk9, .ref mt, .ref mb, .int 0, .int 0, .int 0, .int 0, .null, .int 0, .int 0, .double 0, .int 0, .int 0, .int 0]))] H := hP
  have hD : va_D A [(xk, .inr (1, [.int 0, .ref e0, .int 0])), (xp, .inl (cxp, 36, .inl (fun _ => 0))), (xs, .inl (cxs, 36, .inl g)), (xo, .inr (1, [.int 0, .ref e0, .int 0])), (xa, .inr (2, [.int 0, .int 0, .int 0, .null, .int 0, .double 0])), (mk9, .inr (1, [.int 0, .ref e0, .int 0])), (mb, .inr (1, [.int 0, .ref e0, .int 0])), (o, .inl (co, 1, .inr (.inl (fun _ => 0)))), (mm, .inr (11, [.int 1, .ref mk9, .ref mt, .ref mb, .int 0, .int 0, .int 0, .int 0, .null, .int 0, .int 0, .double 0, .int 0, .int 0, .int 0]))] := hD
  have hK : va_K D vwCl [(cxp, .int), (cxs, .int), (co, .long), (cod, .double)] s := hK
  refine lv_dstore (lv' := [(7, .double 0), (6, .int 1), (5, .int 0), (4, .ref od), (3, .ref o), (2, .ref mm), (1, .ref x), (0, .ref b)]) hx hb dL_law_1063 hl (by decide) rfl (fun ls hl => ?_)
  refine lv_aload_n hx hb dL_law_1065 rfl (lv_at hl 5 rfl) ?_
  refine kV_i (As := []) (rest := []) (wr := [(xk, .inr (1, [.int 0, .ref e0, .int 0])), (xp, .inl (cxp, 36, .inl (fun _ => 0))), (xs, .inl (cxs, 36, .inl g)), (xo, .inr (1, [.int 0, .ref e0, .int 0])), (xa, .inr (2, [.int 0, .int 0, .int 0, .null, .int 0, .double 0])), (mk9, .inr (1, [.int 0, .ref e0, .int 0])), (mb, .inr (1, [.int 0, .ref e0, .int 0])), (o, .inl (co, 1, .inr (.inl (fun _ => 0))))]) ⟨hx, hb, hml, hown, hts⟩ (c_thrown l D e0 _ mm mk9 mt mb 1) (cwV 0 hts gL_law_X9_thrown rfl rfl rfl (by decide +kernel) ⟨Nat.le_of_ble_eq_true rfl, Nat.le_of_ble_eq_true rfl⟩) hP hD hK hS hA hE rfl [8] [0, 1, 2, 3, 4, 5, 6, 7] [] rfl rfl (by decide) (by decide) (by decide) rfl 11 8 rfl rfl rfl rfl hl.1 (Nat.le_of_ble_eq_true rfl) dL_law_1066 ⟨Nat.le_of_ble_eq_true rfl, Nat.le_of_ble_eq_true rfl⟩ (fun r_11 u9 H locs hw hP hD hK hS => ?_)
  have hw : r_11 = 1 := hw
  subst hw
  have hP : va_P D vwCl [(xk, .inr (1, [.int 0, .ref e0, .int 0])), (xp, .inl (cxp, 36, .inl (fun _ => 0))), (xs, .inl (cxs, 36, .inl g)), (xo, .inr (1, [.int 0, .ref e0, .int 0])), (xa, .inr (2, [.int 0, .int 0, .int 0, .null, .int 0, .double 0])), (mk9, .inr (1, [.int 0, .ref e0, .int 0])), (mb, .inr (1, [.int 0, .ref e0, .int 0])), (o, .inl (co, 1, .inr (.inl (fun _ => 0)))), (mm, .inr (11, [.int 1, .ref mk9, .ref mt, .ref mb, .int 0, .int 0, .int 0, .int 0, .null, .int 0, .int 0, .double 0, .int 0, .int 0, .int 0]))] H := hP
  have hD : va_D A [(xk, .inr (1, [.int 0, .ref e0, .int 0])), (xp, .inl (cxp, 36, .inl (fun _ => 0))), (xs, .inl (cxs, 36, .inl g)), (xo, .inr (1, [.int 0, .ref e0, .int 0])), (xa, .inr (2, [.int 0, .int 0, .int 0, .null, .int 0, .double 0])), (mk9, .inr (1, [.int 0, .ref e0, .int 0])), (mb, .inr (1, [.int 0, .ref e0, .int 0])), (o, .inl (co, 1, .inr (.inl (fun _ => 0)))), (mm, .inr (11, [.int 1, .ref mk9, .ref mt, .ref mb, .int 0, .int 0, .int 0, .int 0, .null, .int 0, .int 0, .double 0, .int 0, .int 0, .int 0]))] := hD
  have hK : va_K D vwCl [(cxp, .int), (cxs, .int), (co, .long), (cod, .double)] s := hK
  refine lv_iload hx hb dL_law_1069 (lv_at hl 1 rfl) ?_
  refine lv_icmp_eq (tgt := 1076) hx hb dL_law_1071 (by decide) (fun _ => ?_) (fun h9 => absurd (by decide) h9)
  refine lv_iload hx hb dL_law_1076 (lv_at hl 1 rfl) ?_
  refine lv_if_ne (tgt := 1113) hx hb dL_law_1078 (by decide) (fun _ => ?_) (fun h9 => absurd h9 (by decide))
  refine lv_goto (tgt := 1632) hx hb dL_law_1113 (by decide) ?_
  exact law_tail hx hb hr hlocks hX hbl hbA hAs hS (Nat.le_of_ble_eq_true rfl) (Nat.le_of_ble_eq_true rfl) (lv_sub hl [2, 7] rfl)
set_option maxHeartbeats 4000000 in
set_option maxRecDepth 100000 in
theorem law_case_14 {p : Program} {l : Launch} {e : Env} {s : State} {m : MethodId} {below : List Frame} {meth : Method} {c : Code} {b : Nat} {sc : Nat → Int32} {A : Nat → Prop} {H : Heap} {locs : List Loc} {ls : Array Slot} {D : va_G} {e0 x xk xb xt xp xs xo xa mm mk9 mt mb o od : Nat} {cxp cxs co cod : ClassId} {g : Nat → Int32} (hl9 : l.stackTraces = false) (hx : p.tables.exec = Jvm.exec) (hb : c.code = cL_law) (hr : meth.sig.returnType = ret) (hlocks : meth.locks = false) (hX : va_X b 7 sc s s.heap) (hbl : b < s.heap.size) (hbA : ¬ A b) (hAs : ∀ q, A q → s.heap.size ≤ q) (hS : va_S A s.heap H locs) (hml : c.maxLocals = 10) (hown : s.vm.findClass RL = some m.cls) (hts0 : ∀ w ∈ lw_tbl, w.before #[Value.ref b] s = true) (hts : ∀ w ∈ wsL_law, w.before #[Value.ref b] s = true) (hA : ∀ q, s.heap.size ≤ q → A q) (hE : EV e0 A s s.heap) (hg : ∀ j, j < 36 → g j = -1) (hP : va_P D vwCl [(x, .inr (7, [.ref xk, .ref xb, .ref xo, .ref xa, .int 0, .int 0, .int 0, .int 0])), (xk, .inr (1, [.int 0, .ref e0, .int 0])), (xb, .inr (3, [.ref xt, .ref xp, .ref xs, .int 0])), (xt, .inr (1, [.int 0, .ref e0, .int 0])), (xp, .inl (cxp, 36, .inl (fun _ => 0))), (xs, .inl (cxs, 36, .inl g)), (xo, .inr (1, [.int 0, .ref e0, .int 0])), (xa, .inr (2, [.int 0, .int 0, .int 0, .null, .int 0, .double 0])), (mm, .inr (11, [.int 0, .ref mk9, .ref mt, .ref mb, .int 0, .int 0, .int 0, .int 0, .null, .int 0, .int 0, .double 0, .int 0, .int 0, .int 0])), (mk9, .inr (1, [.int 0, .ref e0, .int 0])), (mt, .inr (1, [.int 0, .ref e0, .int 0])), (mb, .inr (1, [.int 0, .ref e0, .int 0])), (o, .inl (co, 1, .inr (.inl (fun _ => 0)))), (od, .inl (cod, 1, .inr (.inr (.inr (.inl (fun _ => 0))))))] H) (hD : va_D A [(x, .inr (7, [.ref xk, .ref xb, .ref xo, .ref xa, .int 0, .int 0, .int 0, .int 0])), (xk, .inr (1, [.int 0, .ref e0, .int 0])), (xb, .inr (3, [.ref xt, .ref xp, .ref xs, .int 0])), (xt, .inr (1, [.int 0, .ref e0, .int 0])), (xp, .inl (cxp, 36, .inl (fun _ => 0))), (xs, .inl (cxs, 36, .inl g)), (xo, .inr (1, [.int 0, .ref e0, .int 0])), (xa, .inr (2, [.int 0, .int 0, .int 0, .null, .int 0, .double 0])), (mm, .inr (11, [.int 0, .ref mk9, .ref mt, .ref mb, .int 0, .int 0, .int 0, .int 0, .null, .int 0, .int 0, .double 0, .int 0, .int 0, .int 0])), (mk9, .inr (1, [.int 0, .ref e0, .int 0])), (mt, .inr (1, [.int 0, .ref e0, .int 0])), (mb, .inr (1, [.int 0, .ref e0, .int 0])), (o, .inl (co, 1, .inr (.inl (fun _ => 0)))), (od, .inl (cod, 1, .inr (.inr (.inr (.inl (fun _ => 0))))))]) (hK : va_K D vwCl [(cxp, .int), (cxs, .int), (co, .long), (cod, .double)] s) (hl : lv_has ls 10 [(5, .int 0), (4, .ref od), (3, .ref o), (2, .ref mm), (1, .ref x), (0, .ref b)]) : W p l e room_1 s m #[Value.ref b] below meth c H locs 14 125 (lw_Z below #[Value.ref b] s) (F0 m 1116 ls []) := by
  refine lv_aload_n hx hb dL_law_1116 rfl (lv_at hl 4 rfl) ?_
  refine lv_aload_n hx hb dL_law_1117 rfl (lv_at hl 5 rfl) ?_
  refine lv_iload hx hb dL_law_1118 (lv_at hl 0 rfl) ?_
  refine lv_iconst (v := 1) hx hb dL_law_1120 (by decide) ?_
  refine lv_iadd hx hb dL_law_1121 ?_
  refine lv_topi (fun x_1 ex_1 => ?_)
  obtain rfl : x_1 = 1 := ex_1.trans (by decide)
  refine va_sld hx hb hX hbl hbA hS (by unfold vp_in; decide) dL_law_1122 ?_
  refine lv_topi (fun x_2 ex_2 => ?_)
  obtain rfl : x_2 = sc 1 := ex_2.trans (congrArg sc (by decide))
  refine lv_aload_n hx hb dL_law_1123 rfl (lv_at hl 5 rfl) ?_
  refine lv_iload hx hb dL_law_1124 (lv_at hl 0 rfl) ?_
  refine lv_iconst (v := 2) hx hb dL_law_1126 (by decide) ?_
  refine lv_iadd hx hb dL_law_1127 ?_
  refine lv_topi (fun x_3 ex_3 => ?_)
  obtain rfl : x_3 = 2 := ex_3.trans (by decide)
  refine va_sld hx hb hX hbl hbA hS (by unfold vp_in; decide) dL_law_1128 ?_
  refine lv_topi (fun x_4 ex_4 => ?_)
  obtain rfl : x_4 = sc 2 := ex_4.trans (congrArg sc (by decide))
  refine lv_aload hx hb dL_law_1129 (lv_at hl 1 rfl) ?_
  refine kSW_i (As := [.ref x, .int (sc 1), .int (sc 2), .ref od]) (rest := []) (wr := [(xk, .inr (1, [.int 0, .ref e0, .int 0])), (xp, .inl (cxp, 36, .inl (fun _ => 0))), (xs, .inl (cxs, 36, .inl g)), (xo, .inr (1, [.int 0, .ref e0, .int 0])), (xa, .inr (2, [.int 0, .int 0, .int 0, .null, .int 0, .double 0])), (mm, .inr (11, [.int 0, .ref mk9, .ref mt, .ref mb, .int 0, .int 0, .int 0, .int 0, .null, .int 0, .int 0, .double 0, .int 0, .int 0, .int 0])), (mk9, .inr (1, [.int 0, .ref e0, .int 0])), (mt, .inr (1, [.int 0, .ref e0, .int 0])), (mb, .inr (1, [.int 0, .ref e0, .int 0])), (o, .inl (co, 1, .inr (.inl (fun _ => 0))))]) ⟨hx, hb, hml, hown, hts⟩ (c_w_ticks l hl9 D e0 _ x xk xb xo xa xt xp xs 0 od cod (fun _ => 0) (sc 1) (sc 2)) (vx_cwSW 4 hts gL_law_L_ticks rfl rfl rfl (by decide +kernel) ⟨Nat.le_of_ble_eq_true rfl, Nat.le_of_ble_eq_true rfl⟩) hP hD hK hS hA hE rfl [0, 2, 3, 13] [1, 4, 5, 6, 7, 8, 9, 10, 11, 12] [3] rfl rfl (by decide) (by decide) (by decide) rfl rfl hl.1 (Nat.le_of_ble_eq_true rfl) dL_law_1131 ⟨Nat.le_of_ble_eq_true rfl, Nat.le_of_ble_eq_true rfl⟩ (fun r_5 u9 H locs hw hP hD hK hS => ?_)
  have hw : r_5 = 1 := hw
  subst hw
  have hP : va_P D vwCl [(xk, .inr (1, [.int 0, .ref e0, .int 0])), (xp, .inl (cxp, 36, .inl (fun _ => 0))), (xs, .inl (cxs, 36, .inl g)), (xo, .inr (1, [.int 0, .ref e0, .int 0])), (xa, .inr (2, [.int 0, .int 0, .int 0, .null, .int 0, .double 0])), (mm, .inr (11, [.int 0, .ref mk9, .ref mt, .ref mb, .int 0, .int 0, .int 0, .int 0, .null, .int 0, .int 0, .double 0, .int 0, .int 0, .int 0])), (mk9, .inr (1, [.int 0, .ref e0, .int 0])), (mt, .inr (1, [.int 0, .ref e0, .int 0])), (mb, .inr (1, [.int 0, .ref e0, .int 0])), (o, .inl (co, 1, .inr (.inl (fun _ => 0))))] H := hP
  have hD : va_D A [(xk, .inr (1, [.int 0, .ref e0, .int 0])), (xp, .inl (cxp, 36, .inl (fun _ => 0))), (xs, .inl (cxs, 36, .inl g)), (xo, .inr (1, [.int 0, .ref e0, .int 0])), (xa, .inr (2, [.int 0, .int 0, .int 0, .null, .int 0, .double 0])), (mm, .inr (11, [.int 0, .ref mk9, .ref mt, .ref mb, .int 0, .int 0, .int 0, .int 0, .null, .int 0, .int 0, .double 0, .int 0, .int 0, .int 0])), (mk9, .inr (1, [.int 0, .ref e0, .int 0])), (mt, .inr (1, [.int 0, .ref e0, .int 0])), (mb, .inr (1, [.int 0, .ref e0, .int 0])), (o, .inl (co, 1, .inr (.inl (fun _ => 0))))] := hD
  have hK : va_K D vwCl [(cxp, .int), (cxs, .int), (co, .long), (cod, .double)] s := hK
  refine lv_istore (lv' := [(6, .int 1), (5, .int 0), (4, .ref od), (3, .ref o), (2, .ref mm), (1, .ref x), (0, .ref b)]) hx hb dL_law_1134 hl (by decide) rfl (fun ls hl => ?_)
  refine lv_aload_n hx hb dL_law_1136 rfl (lv_at hl 4 rfl) ?_
  refine lv_aload_n hx hb dL_law_1137 rfl (lv_at hl 6 rfl) ?_
  refine lv_iload hx hb dL_law_1138 (lv_at hl 1 rfl) ?_
  refine lv_iconst (v := 1) hx hb dL_law_1140 (by decide) ?_
  refine lv_iadd hx hb dL_law_1141 ?_
  refine lv_topi (fun x_6 ex_6 => ?_)
  obtain rfl : x_6 = 1 := ex_6.trans (by decide)
  refine va_sld hx hb hX hbl hbA hS (by unfold vp_in; decide) dL_law_1142 ?_
  refine lv_topi (fun x_7 ex_7 => ?_)
  obtain rfl : x_7 = sc 1 := ex_7.trans (congrArg sc (by decide))
  refine lv_aload_n hx hb dL_law_1143 rfl (lv_at hl 6 rfl) ?_
  refine lv_iload hx hb dL_law_1144 (lv_at hl 1 rfl) ?_
  refine lv_iconst (v := 2) hx hb dL_law_1146 (by decide) ?_
  refine lv_iadd hx hb dL_law_1147 ?_
  refine lv_topi (fun x_8 ex_8 => ?_)
  obtain rfl : x_8 = 2 := ex_8.trans (by decide)
  refine va_sld hx hb hX hbl hbA hS (by unfold vp_in; decide) dL_law_1148 ?_
  refine lv_topi (fun x_9 ex_9 => ?_)
  obtain rfl : x_9 = sc 2 := ex_9.trans (congrArg sc (by decide))
  refine kV_d (As := [.int (sc 1), .int (sc 2)]) (rest := []) (wr := [(xk, .inr (1, [.int 0, .ref e0, .int 0])), (xp, .inl (cxp, 36, .inl (fun _ => 0))), (xs, .inl (cxs, 36, .inl g)), (xo, .inr (1, [.int 0, .ref e0, .int 0])), (xa, .inr (2, [.int 0, .int 0, .int 0, .null, .int 0, .double 0])), (mk9, .inr (1, [.int 0, .ref e0, .int 0])), (mb, .inr (1, [.int 0, .ref e0, .int 0])), (o, .inl (co, 1, .inr (.inl (fun _ => 0))))]) ⟨hx, hb, hml, hown, hts⟩ (c_m_ticks l D e0 _ mm mk9 mt mb (sc 1) (sc 2)) (cwV 2 hts gL_law_X9_ticks rfl rfl rfl (by decide +kernel) ⟨Nat.le_of_ble_eq_true rfl, Nat.le_of_ble_eq_true rfl⟩) hP hD hK hS hA hE rfl [5, 7] [0, 1, 2, 3, 4, 6, 8, 9] [] rfl rfl (by decide) (by decide) (by decide) rfl 11 5 rfl rfl rfl rfl hl.1 (Nat.le_of_ble_eq_true rfl) dL_law_1149 ⟨Nat.le_of_ble_eq_true rfl, Nat.le_of_ble_eq_true rfl⟩ (fun r_10 u9 H locs hw hP hD hK hS => ?_)
  have hw : r_10 = 0 := hw
  subst hw
  have hP : va_P D vwCl [(xk, .inr (1, [.int 0, .ref e0, .int 0])), (xp, .inl (cxp, 36, .inl (fun _ => 0))), (xs, .inl (cxs, 36, .inl g)), (xo, .inr (1, [.int 0, .ref e0, .int 0])), (xa, .inr (2, [.int 0, .int 0, .int 0, .null, .int 0, .double 0])), (mk9, .inr (1, [.int 0, .ref e0, .int 0])), (mb, .inr (1, [.int 0, .ref e0, .int 0])), (o, .inl (co, 1, .inr (.inl (fun _ => 0)))), (mm, .inr (11, [.int 1, .ref mk9, .ref mt, .ref mb, .int 0, .int 0, .int 0, .int 0, .null, .int 0, .int 0, .double 0, .int 0, .int 0, .int 0]))] H := hP
  have hD : va_D A [(xk, .inr (1, [.int 0, .ref e0, .int 0])), (xp, .inl (cxp, 36, .inl (fun _ => 0))), (xs, .inl (cxs, 36, .inl g)), (xo, .inr (1, [.int 0, .ref e0, .int 0])), (xa, .inr (2, [.int 0, .int 0, .int 0, .null, .int 0, .double 0])), (mk9, .inr (1, [.int 0, .ref e0, .int 0])), (mb, .inr (1, [.int 0, .ref e0, .int 0])), (o, .inl (co, 1, .inr (.inl (fun _ => 0)))), (mm, .inr (11, [.int 1, .ref mk9, .ref mt, .ref mb, .int 0, .int 0, .int 0, .int 0, .null, .int 0, .int 0, .double 0, .int 0, .int 0, .int 0]))] := hD
  have hK : va_K D vwCl [(cxp, .int), (cxs, .int), (co, .long), (cod, .double)] s := hK
  refine lv_dstore (lv' := [(7, .double 0), (6, .int 1), (5, .int 0), (4, .ref od), (3, .ref o), (2, .ref mm), (1, .ref x), (0, .ref b)]) hx hb dL_law_1152 hl (by decide) rfl (fun ls hl => ?_)
  refine lv_aload_n hx hb dL_law_1154 rfl (lv_at hl 5 rfl) ?_
  refine kV_i (As := []) (rest := []) (wr := [(xk, .inr (1, [.int 0, .ref e0, .int 0])), (xp, .inl (cxp, 36, .inl (fun _ => 0))), (xs, .inl (cxs, 36, .inl g)), (xo, .inr (1, [.int 0, .ref e0, .int 0])), (xa, .inr (2, [.int 0, .int 0, .int 0, .null, .int 0, .double 0])), (mk9, .inr (1, [.int 0, .ref e0, .int 0])), (mb, .inr (1, [.int 0, .ref e0, .int 0])), (o, .inl (co, 1, .inr (.inl (fun _ => 0))))]) ⟨hx, hb, hml, hown, hts⟩ (c_thrown l D e0 _ mm mk9 mt mb 1) (cwV 0 hts gL_law_X9_thrown rfl rfl rfl (by decide +kernel) ⟨Nat.le_of_ble_eq_true rfl, Nat.le_of_ble_eq_true rfl⟩) hP hD hK hS hA hE rfl [8] [0, 1, 2, 3, 4, 5, 6, 7] [] rfl rfl (by decide) (by decide) (by decide) rfl 11 8 rfl rfl rfl rfl hl.1 (Nat.le_of_ble_eq_true rfl) dL_law_1155 ⟨Nat.le_of_ble_eq_true rfl, Nat.le_of_ble_eq_true rfl⟩ (fun r_11 u9 H locs hw hP hD hK hS => ?_)
  have hw : r_11 = 1 := hw
  subst hw
  have hP : va_P D vwCl [(xk, .inr (1, [.int 0, .ref e0, .int 0])), (xp, .inl (cxp, 36, .inl (fun _ => 0))), (xs, .inl (cxs, 36, .inl g)), (xo, .inr (1, [.int 0, .ref e0, .int 0])), (xa, .inr (2, [.int 0, .int 0, .int 0, .null, .int 0, .double 0])), (mk9, .inr (1, [.int 0, .ref e0, .int 0])), (mb, .inr (1, [.int 0, .ref e0, .int 0])), (o, .inl (co, 1, .inr (.inl (fun _ => 0)))), (mm, .inr (11, [.int 1, .ref mk9, .ref mt, .ref mb, .int 0, .int 0, .int 0, .int 0, .null, .int 0, .int 0, .double 0, .int 0, .int 0, .int 0]))] H := hP
  have hD : va_D A [(xk, .inr (1, [.int 0, .ref e0, .int 0])), (xp, .inl (cxp, 36, .inl (fun _ => 0))), (xs, .inl (cxs, 36, .inl g)), (xo, .inr (1, [.int 0, .ref e0, .int 0])), (xa, .inr (2, [.int 0, .int 0, .int 0, .null, .int 0, .double 0])), (mk9, .inr (1, [.int 0, .ref e0, .int 0])), (mb, .inr (1, [.int 0, .ref e0, .int 0])), (o, .inl (co, 1, .inr (.inl (fun _ => 0)))), (mm, .inr (11, [.int 1, .ref mk9, .ref mt, .ref mb, .int 0, .int 0, .int 0, .int 0, .null, .int 0, .int 0, .double 0, .int 0, .int 0, .int 0]))] := hD
  have hK : va_K D vwCl [(cxp, .int), (cxs, .int), (co, .long), (cod, .double)] s := hK
  refine lv_iload hx hb dL_law_1158 (lv_at hl 1 rfl) ?_
  refine lv_icmp_eq (tgt := 1165) hx hb dL_law_1160 (by decide) (fun _ => ?_) (fun h9 => absurd (by decide) h9)
  refine lv_iload hx hb dL_law_1165 (lv_at hl 1 rfl) ?_
  refine lv_if_ne (tgt := 1202) hx hb dL_law_1167 (by decide) (fun _ => ?_) (fun h9 => absurd h9 (by decide))
  refine lv_goto (tgt := 1632) hx hb dL_law_1202 (by decide) ?_
  exact law_tail hx hb hr hlocks hX hbl hbA hAs hS (Nat.le_of_ble_eq_true rfl) (Nat.le_of_ble_eq_true rfl) (lv_sub hl [2, 7] rfl)
set_option maxHeartbeats 4000000 in
set_option maxRecDepth 100000 in
theorem law_case_15 {p : Program} {l : Launch} {e : Env} {s : State} {m : MethodId} {below : List Frame} {meth : Method} {c : Code} {b : Nat} {sc : Nat → Int32} {A : Nat → Prop} {H : Heap} {locs : List Loc} {ls : Array Slot} {D : va_G} {e0 x xk xb xt xp xs xo xa mm mk9 mt mb o od : Nat} {cxp cxs co cod : ClassId} {g : Nat → Int32} (hl9 : l.stackTraces = false) (hx : p.tables.exec = Jvm.exec) (hb : c.code = cL_law) (hr : meth.sig.returnType = ret) (hlocks : meth.locks = false) (hX : va_X b 7 sc s s.heap) (hbl : b < s.heap.size) (hbA : ¬ A b) (hAs : ∀ q, A q → s.heap.size ≤ q) (hS : va_S A s.heap H locs) (hml : c.maxLocals = 10) (hown : s.vm.findClass RL = some m.cls) (hts0 : ∀ w ∈ lw_tbl, w.before #[Value.ref b] s = true) (hts : ∀ w ∈ wsL_law, w.before #[Value.ref b] s = true) (hA : ∀ q, s.heap.size ≤ q → A q) (hE : EV e0 A s s.heap) (hg : ∀ j, j < 36 → g j = -1) (hP : va_P D vwCl [(x, .inr (7, [.ref xk, .ref xb, .ref xo, .ref xa, .int 0, .int 0, .int 0, .int 0])), (xk, .inr (1, [.int 0, .ref e0, .int 0])), (xb, .inr (3, [.ref xt, .ref xp, .ref xs, .int 0])), (xt, .inr (1, [.int 0, .ref e0, .int 0])), (xp, .inl (cxp, 36, .inl (fun _ => 0))), (xs, .inl (cxs, 36, .inl g)), (xo, .inr (1, [.int 0, .ref e0, .int 0])), (xa, .inr (2, [.int 0, .int 0, .int 0, .null, .int 0, .double 0])), (mm, .inr (11, [.int 0, .ref mk9, .ref mt, .ref mb, .int 0, .int 0, .int 0, .int 0, .null, .int 0, .int 0, .double 0, .int 0, .int 0, .int 0])), (mk9, .inr (1, [.int 0, .ref e0, .int 0])), (mt, .inr (1, [.int 0, .ref e0, .int 0])), (mb, .inr (1, [.int 0, .ref e0, .int 0])), (o, .inl (co, 1, .inr (.inl (fun _ => 0)))), (od, .inl (cod, 1, .inr (.inr (.inr (.inl (fun _ => 0))))))] H) (hD : va_D A [(x, .inr (7, [.ref xk, .ref xb, .ref xo, .ref xa, .int 0, .int 0, .int 0, .int 0])), (xk, .inr (1, [.int 0, .ref e0, .int 0])), (xb, .inr (3, [.ref xt, .ref xp, .ref xs, .int 0])), (xt, .inr (1, [.int 0, .ref e0, .int 0])), (xp, .inl (cxp, 36, .inl (fun _ => 0))), (xs, .inl (cxs, 36, .inl g)), (xo, .inr (1, [.int 0, .ref e0, .int 0])), (xa, .inr (2, [.int 0, .int 0, .int 0, .null, .int 0, .double 0])), (mm, .inr (11, [.int 0, .ref mk9, .ref mt, .ref mb, .int 0, .int 0, .int 0, .int 0, .null, .int 0, .int 0, .double 0, .int 0, .int 0, .int 0])), (mk9, .inr (1, [.int 0, .ref e0, .int 0])), (mt, .inr (1, [.int 0, .ref e0, .int 0])), (mb, .inr (1, [.int 0, .ref e0, .int 0])), (o, .inl (co, 1, .inr (.inl (fun _ => 0)))), (od, .inl (cod, 1, .inr (.inr (.inr (.inl (fun _ => 0))))))]) (hK : va_K D vwCl [(cxp, .int), (cxs, .int), (co, .long), (cod, .double)] s) (hl : lv_has ls 10 [(5, .int 0), (4, .ref od), (3, .ref o), (2, .ref mm), (1, .ref x), (0, .ref b)]) : W p l e room_1 s m #[Value.ref b] below meth c H locs 14 125 (lw_Z below #[Value.ref b] s) (F0 m 1205 ls []) := by
  refine lv_aload_n hx hb dL_law_1205 rfl (lv_at hl 4 rfl) ?_
  refine kV_d (As := []) (rest := []) (wr := [(xk, .inr (1, [.int 0, .ref e0, .int 0])), (xb, .inr (3, [.ref xt, .ref xp, .ref xs, .int 0])), (xt, .inr (1, [.int 0, .ref e0, .int 0])), (xp, .inl (cxp, 36, .inl (fun _ => 0))), (xs, .inl (cxs, 36, .inl g)), (xo, .inr (1, [.int 0, .ref e0, .int 0])), (mm, .inr (11, [.int 0, .ref mk9, .ref mt, .ref mb, .int 0, .int 0, .int 0, .int 0, .null, .int 0, .int 0, .double 0, .int 0, .int 0, .int 0])), (mk9, .inr (1, [.int 0, .ref e0, .int 0])), (mt, .inr (1, [.int 0, .ref e0, .int 0])), (mb, .inr (1, [.int 0, .ref e0, .int 0])), (o, .inl (co, 1, .inr (.inl (fun _ => 0)))), (od, .inl (cod, 1, .inr (.inr (.inr (.inl (fun _ => 0))))))]) ⟨hx, hb, hml, hown, hts⟩ (c_clock l D e0 _ x xk xb xo xa 0) (cwV 0 hts gL_law_X5_clock rfl rfl rfl (by decide +kernel) ⟨Nat.le_of_ble_eq_true rfl, Nat.le_of_ble_eq_true rfl⟩) hP hD hK hS hA hE rfl [0, 7] [1, 2, 3, 4, 5, 6, 8, 9, 10, 11, 12, 13] [] rfl rfl (by decide) (by decide) (by decide) rfl 7 0 rfl rfl rfl rfl hl.1 (Nat.le_of_ble_eq_true rfl) dL_law_1206 ⟨Nat.le_of_ble_eq_true rfl, Nat.le_of_ble_eq_true rfl⟩ (fun r_1 u9 H locs hw hP hD hK hS => ?_)
  have hw : r_1 = 0 := hw
  subst hw
  have hP : va_P D vwCl [(xk, .inr (1, [.int 0, .ref e0, .int 0])), (xb, .inr (3, [.ref xt, .ref xp, .ref xs, .int 0])), (xt, .inr (1, [.int 0, .ref e0, .int 0])), (xp, .inl (cxp, 36, .inl (fun _ => 0))), (xs, .inl (cxs, 36, .inl g)), (xo, .inr (1, [.int 0, .ref e0, .int 0])), (mm, .inr (11, [.int 0, .ref mk9, .ref mt, .ref mb, .int 0, .int 0, .int 0, .int 0, .null, .int 0, .int 0, .double 0, .int 0, .int 0, .int 0])), (mk9, .inr (1, [.int 0, .ref e0, .int 0])), (mt, .inr (1, [.int 0, .ref e0, .int 0])), (mb, .inr (1, [.int 0, .ref e0, .int 0])), (o, .inl (co, 1, .inr (.inl (fun _ => 0)))), (od, .inl (cod, 1, .inr (.inr (.inr (.inl (fun _ => 0))))))] H := hP
  have hD : va_D A [(xk, .inr (1, [.int 0, .ref e0, .int 0])), (xb, .inr (3, [.ref xt, .ref xp, .ref xs, .int 0])), (xt, .inr (1, [.int 0, .ref e0, .int 0])), (xp, .inl (cxp, 36, .inl (fun _ => 0))), (xs, .inl (cxs, 36, .inl g)), (xo, .inr (1, [.int 0, .ref e0, .int 0])), (mm, .inr (11, [.int 0, .ref mk9, .ref mt, .ref mb, .int 0, .int 0, .int 0, .int 0, .null, .int 0, .int 0, .double 0, .int 0, .int 0, .int 0])), (mk9, .inr (1, [.int 0, .ref e0, .int 0])), (mt, .inr (1, [.int 0, .ref e0, .int 0])), (mb, .inr (1, [.int 0, .ref e0, .int 0])), (o, .inl (co, 1, .inr (.inl (fun _ => 0)))), (od, .inl (cod, 1, .inr (.inr (.inr (.inl (fun _ => 0))))))] := hD
  have hK : va_K D vwCl [(cxp, .int), (cxs, .int), (co, .long), (cod, .double)] s := hK
  refine lv_dstore (lv' := [(6, .double 0), (5, .int 0), (4, .ref od), (3, .ref o), (2, .ref mm), (1, .ref x), (0, .ref b)]) hx hb dL_law_1209 hl (by decide) rfl (fun ls hl => ?_)
  refine lv_aload_n hx hb dL_law_1211 rfl (lv_at hl 4 rfl) ?_
  refine kV_d (As := []) (rest := []) (wr := [(xk, .inr (1, [.int 0, .ref e0, .int 0])), (xb, .inr (3, [.ref xt, .ref xp, .ref xs, .int 0])), (xt, .inr (1, [.int 0, .ref e0, .int 0])), (xp, .inl (cxp, 36, .inl (fun _ => 0))), (xs, .inl (cxs, 36, .inl g)), (xo, .inr (1, [.int 0, .ref e0, .int 0])), (mk9, .inr (1, [.int 0, .ref e0, .int 0])), (mt, .inr (1, [.int 0, .ref e0, .int 0])), (mb, .inr (1, [.int 0, .ref e0, .int 0])), (o, .inl (co, 1, .inr (.inl (fun _ => 0)))), (od, .inl (cod, 1, .inr (.inr (.inr (.inl (fun _ => 0))))))]) ⟨hx, hb, hml, hown, hts⟩ (c_m_clock l D e0 _ mm mk9 mt mb) (cwV 0 hts gL_law_X9_clock rfl rfl rfl (by decide +kernel) ⟨Nat.le_of_ble_eq_true rfl, Nat.le_of_ble_eq_true rfl⟩) hP hD hK hS hA hE rfl [6] [0, 1, 2, 3, 4, 5, 7, 8, 9, 10, 11] [] rfl rfl (by decide) (by decide) (by decide) rfl 11 6 rfl rfl rfl rfl hl.1 (Nat.le_of_ble_eq_true rfl) dL_law_1212 ⟨Nat.le_of_ble_eq_true rfl, Nat.le_of_ble_eq_true rfl⟩ (fun r_2 u9 H locs hw hP hD hK hS => ?_)
  have hw : r_2 = 0 := hw
  subst hw
  have hP : va_P D vwCl [(xk, .inr (1, [.int 0, .ref e0, .int 0])), (xb, .inr (3, [.ref xt, .ref xp, .ref xs, .int 0])), (xt, .inr (1, [.int 0, .ref e0, .int 0])), (xp, .inl (cxp, 36, .inl (fun _ => 0))), (xs, .inl (cxs, 36, .inl g)), (xo, .inr (1, [.int 0, .ref e0, .int 0])), (mk9, .inr (1, [.int 0, .ref e0, .int 0])), (mt, .inr (1, [.int 0, .ref e0, .int 0])), (mb, .inr (1, [.int 0, .ref e0, .int 0])), (o, .inl (co, 1, .inr (.inl (fun _ => 0)))), (od, .inl (cod, 1, .inr (.inr (.inr (.inl (fun _ => 0)))))), (mm, .inr (11, [.int 0, .ref mk9, .ref mt, .ref mb, .int 0, .int 0, .int 0, .int 0, .null, .int 0, .int 0, .double 0, .int 0, .int 0, .int 0]))] H := hP
  have hD : va_D A [(xk, .inr (1, [.int 0, .ref e0, .int 0])), (xb, .inr (3, [.ref xt, .ref xp, .ref xs, .int 0])), (xt, .inr (1, [.int 0, .ref e0, .int 0])), (xp, .inl (cxp, 36, .inl (fun _ => 0))), (xs, .inl (cxs, 36, .inl g)), (xo, .inr (1, [.int 0, .ref e0, .int 0])), (mk9, .inr (1, [.int 0, .ref e0, .int 0])), (mt, .inr (1, [.int 0, .ref e0, .int 0])), (mb, .inr (1, [.int 0, .ref e0, .int 0])), (o, .inl (co, 1, .inr (.inl (fun _ => 0)))), (od, .inl (cod, 1, .inr (.inr (.inr (.inl (fun _ => 0)))))), (mm, .inr (11, [.int 0, .ref mk9, .ref mt, .ref mb, .int 0, .int 0, .int 0, .int 0, .null, .int 0, .int 0, .double 0, .int 0, .int 0, .int 0]))] := hD
  have hK : va_K D vwCl [(cxp, .int), (cxs, .int), (co, .long), (cod, .double)] s := hK
  refine lv_dstore (lv' := [(8, .double 0), (6, .double 0), (5, .int 0), (4, .ref od), (3, .ref o), (2, .ref mm), (1, .ref x), (0, .ref b)]) hx hb dL_law_1215 hl (by decide) rfl (fun ls hl => ?_)
  refine lv_dload hx hb dL_law_1217 (lv_at hl 1 rfl) ?_
  refine lv_dload hx hb dL_law_1219 (lv_at hl 0 rfl) ?_
  refine lv_dcmp hx hb dL_law_1221 ?_
  refine lv_topi (fun x_3 ex_3 => ?_)
  obtain rfl : x_3 = 0 := ex_3.trans (by decide +kernel)
  refine lv_if_eq (tgt := 1243) hx hb dL_law_1222 (by decide) (fun _ => ?_) (fun h9 => absurd (by decide) h9)
  refine lv_goto (tgt := 1632) hx hb dL_law_1243 (by decide) ?_
  exact law_tail hx hb hr hlocks hX hbl hbA hAs hS (Nat.le_of_ble_eq_true rfl) (Nat.le_of_ble_eq_true rfl) (lv_sub hl [2, 7] rfl)
set_option maxHeartbeats 4000000 in
set_option maxRecDepth 100000 in
theorem law_case_16 {p : Program} {l : Launch} {e : Env} {s : State} {m : MethodId} {below : List Frame} {meth : Method} {c : Code} {b : Nat} {sc : Nat → Int32} {A : Nat → Prop} {H : Heap} {locs : List Loc} {ls : Array Slot} {D : va_G} {e0 x xk xb xt xp xs xo xa mm mk9 mt mb o od : Nat} {cxp cxs co cod : ClassId} {g : Nat → Int32} (hl9 : l.stackTraces = false) (hx : p.tables.exec = Jvm.exec) (hb : c.code = cL_law) (hr : meth.sig.returnType = ret) (hlocks : meth.locks = false) (hX : va_X b 7 sc s s.heap) (hbl : b < s.heap.size) (hbA : ¬ A b) (hAs : ∀ q, A q → s.heap.size ≤ q) (hS : va_S A s.heap H locs) (hml : c.maxLocals = 10) (hown : s.vm.findClass RL = some m.cls) (hts0 : ∀ w ∈ lw_tbl, w.before #[Value.ref b] s = true) (hts : ∀ w ∈ wsL_law, w.before #[Value.ref b] s = true) (hA : ∀ q, s.heap.size ≤ q → A q) (hE : EV e0 A s s.heap) (hg : ∀ j, j < 36 → g j = -1) (hP : va_P D vwCl [(x, .inr (7, [.ref xk, .ref xb, .ref xo, .ref xa, .int 0, .int 0, .int 0, .int 0])), (xk, .inr (1, [.int 0, .ref e0, .int 0])), (xb, .inr (3, [.ref xt, .ref xp, .ref xs, .int 0])), (xt, .inr (1, [.int 0, .ref e0, .int 0])), (xp, .inl (cxp, 36, .inl (fun _ => 0))), (xs, .inl (cxs, 36, .inl g)), (xo, .inr (1, [.int 0, .ref e0, .int 0])), (xa, .inr (2, [.int 0, .int 0, .int 0, .null, .int 0, .double 0])), (mm, .inr (11, [.int 0, .ref mk9, .ref mt, .ref mb, .int 0, .int 0, .int 0, .int 0, .null, .int 0, .int 0, .double 0, .int 0, .int 0, .int 0])), (mk9, .inr (1, [.int 0, .ref e0, .int 0])), (mt, .inr (1, [.int 0, .ref e0, .int 0])), (mb, .inr (1, [.int 0, .ref e0, .int 0])), (o, .inl (co, 1, .inr (.inl (fun _ => 0)))), (od, .inl (cod, 1, .inr (.inr (.inr (.inl (fun _ => 0))))))] H) (hD : va_D A [(x, .inr (7, [.ref xk, .ref xb, .ref xo, .ref xa, .int 0, .int 0, .int 0, .int 0])), (xk, .inr (1, [.int 0, .ref e0, .int 0])), (xb, .inr (3, [.ref xt, .ref xp, .ref xs, .int 0])), (xt, .inr (1, [.int 0, .ref e0, .int 0])), (xp, .inl (cxp, 36, .inl (fun _ => 0))), (xs, .inl (cxs, 36, .inl g)), (xo, .inr (1, [.int 0, .ref e0, .int 0])), (xa, .inr (2, [.int 0, .int 0, .int 0, .null, .int 0, .double 0])), (mm, .inr (11, [.int 0, .ref mk9, .ref mt, .ref mb, .int 0, .int 0, .int 0, .int 0, .null, .int 0, .int 0, .double 0, .int 0, .int 0, .int 0])), (mk9, .inr (1, [.int 0, .ref e0, .int 0])), (mt, .inr (1, [.int 0, .ref e0, .int 0])), (mb, .inr (1, [.int 0, .ref e0, .int 0])), (o, .inl (co, 1, .inr (.inl (fun _ => 0)))), (od, .inl (cod, 1, .inr (.inr (.inr (.inl (fun _ => 0))))))]) (hK : va_K D vwCl [(cxp, .int), (cxs, .int), (co, .long), (cod, .double)] s) (hl : lv_has ls 10 [(5, .int 0), (4, .ref od), (3, .ref o), (2, .ref mm), (1, .ref x), (0, .ref b)]) : W p l e room_1 s m #[Value.ref b] below meth c H locs 14 125 (lw_Z below #[Value.ref b] s) (F0 m 1246 ls []) := by
  by_cases hq0 : 0 ≤ (sc 1) ∧ 0 ≤ (sc 2) ∧ (sc 1) ≤ 5 ∧ (sc 2) ≤ 5
  · refine lv_aload_n hx hb dL_law_1246 rfl (lv_at hl 4 rfl) ?_
    refine lv_aload_n hx hb dL_law_1247 rfl (lv_at hl 5 rfl) ?_
    refine lv_iload hx hb dL_law_1248 (lv_at hl 0 rfl) ?_
    refine lv_iconst (v := 1) hx hb dL_law_1250 (by decide) ?_
    refine lv_iadd hx hb dL_law_1251 ?_
    refine lv_topi (fun x_1 ex_1 => ?_)
    obtain rfl : x_1 = 1 := ex_1.trans (by decide)
    refine va_sld hx hb hX hbl hbA hS (by unfold vp_in; decide) dL_law_1252 ?_
    refine lv_topi (fun x_2 ex_2 => ?_)
    obtain rfl : x_2 = sc 1 := ex_2.trans (congrArg sc (by decide))
    refine lv_aload_n hx hb dL_law_1253 rfl (lv_at hl 5 rfl) ?_
    refine lv_iload hx hb dL_law_1254 (lv_at hl 0 rfl) ?_
    refine lv_iconst (v := 2) hx hb dL_law_1256 (by decide) ?_
    refine lv_iadd hx hb dL_law_1257 ?_
    refine lv_topi (fun x_3 ex_3 => ?_)
    obtain rfl : x_3 = 2 := ex_3.trans (by decide)
    refine va_sld hx hb hX hbl hbA hS (by unfold vp_in; decide) dL_law_1258 ?_
    refine lv_topi (fun x_4 ex_4 => ?_)
    obtain rfl : x_4 = sc 2 := ex_4.trans (congrArg sc (by decide))
    refine lv_aload_n hx hb dL_law_1259 rfl (lv_at hl 2 rfl) ?_
    refine kSW_i (As := [.ref x, .int (sc 1), .int (sc 2), .ref o]) (rest := []) (wr := [(xk, .inr (1, [.int 0, .ref e0, .int 0])), (xt, .inr (1, [.int 0, .ref e0, .int 0])), (xp, .inl (cxp, 36, .inl (fun _ => 0))), (xo, .inr (1, [.int 0, .ref e0, .int 0])), (xa, .inr (2, [.int 0, .int 0, .int 0, .null, .int 0, .double 0])), (mm, .inr (11, [.int 0, .ref mk9, .ref mt, .ref mb, .int 0, .int 0, .int 0, .int 0, .null, .int 0, .int 0, .double 0, .int 0, .int 0, .int 0])), (mk9, .inr (1, [.int 0, .ref e0, .int 0])), (mt, .inr (1, [.int 0, .ref e0, .int 0])), (mb, .inr (1, [.int 0, .ref e0, .int 0])), (od, .inl (cod, 1, .inr (.inr (.inr (.inl (fun _ => 0))))))]) ⟨hx, hb, hml, hown, hts⟩ (c_w_seen l hl9 D e0 _ x xk xb xo xa xt xp xs cxs g 0 o co (fun _ => 0) (sc 1) (sc 2) hg) (vx_cwSW 4 hts gL_law_L_seen rfl rfl rfl (by decide +kernel) ⟨Nat.le_of_ble_eq_true rfl, Nat.le_of_ble_eq_true rfl⟩) hP hD hK hS hA hE rfl [0, 2, 5, 12] [1, 3, 4, 6, 7, 8, 9, 10, 11, 13] [1, 2] rfl rfl (by decide) (by decide) (by decide) rfl rfl hl.1 (Nat.le_of_ble_eq_true rfl) dL_law_1260 ⟨Nat.le_of_ble_eq_true rfl, Nat.le_of_ble_eq_true rfl⟩ (fun r_5 u9 H locs hw hP hD hK hS => ?_)
    obtain ⟨uo, huo⟩ : ∃ z : Nat → Int64, z = u9 := ⟨_, rfl⟩
    rw [← huo] at hw hP hD
    have hw : r_5 = 0 ∧ uo 0 = (-1) := hw.elim (fun h => h.2) (fun h => absurd hq0 h.1)
    obtain ⟨hwr, huv⟩ := hw
    subst hwr
    have hP : va_P D vwCl [(xk, .inr (1, [.int 0, .ref e0, .int 0])), (xt, .inr (1, [.int 0, .ref e0, .int 0])), (xp, .inl (cxp, 36, .inl (fun _ => 0))), (xo, .inr (1, [.int 0, .ref e0, .int 0])), (xa, .inr (2, [.int 0, .int 0, .int 0, .null, .int 0, .double 0])), (mm, .inr (11, [.int 0, .ref mk9, .ref mt, .ref mb, .int 0, .int 0, .int 0, .int 0, .null, .int 0, .int 0, .double 0, .int 0, .int 0, .int 0])), (mk9, .inr (1, [.int 0, .ref e0, .int 0])), (mt, .inr (1, [.int 0, .ref e0, .int 0])), (mb, .inr (1, [.int 0, .ref e0, .int 0])), (od, .inl (cod, 1, .inr (.inr (.inr (.inl (fun _ => 0)))))), (o, .inl (co, 1, .inr (.inl uo)))] H := hP
    have hD : va_D A [(xk, .inr (1, [.int 0, .ref e0, .int 0])), (xt, .inr (1, [.int 0, .ref e0, .int 0])), (xp, .inl (cxp, 36, .inl (fun _ => 0))), (xo, .inr (1, [.int 0, .ref e0, .int 0])), (xa, .inr (2, [.int 0, .int 0, .int 0, .null, .int 0, .double 0])), (mm, .inr (11, [.int 0, .ref mk9, .ref mt, .ref mb, .int 0, .int 0, .int 0, .int 0, .null, .int 0, .int 0, .double 0, .int 0, .int 0, .int 0])), (mk9, .inr (1, [.int 0, .ref e0, .int 0])), (mt, .inr (1, [.int 0, .ref e0, .int 0])), (mb, .inr (1, [.int 0, .ref e0, .int 0])), (od, .inl (cod, 1, .inr (.inr (.inr (.inl (fun _ => 0)))))), (o, .inl (co, 1, .inr (.inl uo)))] := hD
    have hK : va_K D vwCl [(cxp, .int), (cxs, .int), (co, .long), (cod, .double)] s := hK
    refine lv_istore (lv' := [(6, .int 0), (5, .int 0), (4, .ref od), (3, .ref o), (2, .ref mm), (1, .ref x), (0, .ref b)]) hx hb dL_law_1263 hl (by decide) rfl (fun ls hl => ?_)
    refine lv_aload_n hx hb dL_law_1265 rfl (lv_at hl 4 rfl) ?_
    refine lv_aload_n hx hb dL_law_1266 rfl (lv_at hl 6 rfl) ?_
    refine lv_iload hx hb dL_law_1267 (lv_at hl 1 rfl) ?_
    refine lv_iconst (v := 1) hx hb dL_law_1269 (by decide) ?_
    refine lv_iadd hx hb dL_law_1270 ?_
    refine lv_topi (fun x_6 ex_6 => ?_)
    obtain rfl : x_6 = 1 := ex_6.trans (by decide)
    refine va_sld hx hb hX hbl hbA hS (by unfold vp_in; decide) dL_law_1271 ?_
    refine lv_topi (fun x_7 ex_7 => ?_)
    obtain rfl : x_7 = sc 1 := ex_7.trans (congrArg sc (by decide))
    refine lv_aload_n hx hb dL_law_1272 rfl (lv_at hl 6 rfl) ?_
    refine lv_iload hx hb dL_law_1273 (lv_at hl 1 rfl) ?_
    refine lv_iconst (v := 2) hx hb dL_law_1275 (by decide) ?_
    refine lv_iadd hx hb dL_law_1276 ?_
    refine lv_topi (fun x_8 ex_8 => ?_)
    obtain rfl : x_8 = 2 := ex_8.trans (by decide)
    refine va_sld hx hb hX hbl hbA hS (by unfold vp_in; decide) dL_law_1277 ?_
    refine lv_topi (fun x_9 ex_9 => ?_)
    obtain rfl : x_9 = sc 2 := ex_9.trans (congrArg sc (by decide))
    refine kV_i (As := [.int (sc 1), .int (sc 2)]) (rest := []) (wr := [(xk, .inr (1, [.int 0, .ref e0, .int 0])), (xt, .inr (1, [.int 0, .ref e0, .int 0])), (xp, .inl (cxp, 36, .inl (fun _ => 0))), (xo, .inr (1, [.int 0, .ref e0, .int 0])), (xa, .inr (2, [.int 0, .int 0, .int 0, .null, .int 0, .double 0])), (mk9, .inr (1, [.int 0, .ref e0, .int 0])), (mb, .inr (1, [.int 0, .ref e0, .int 0])), (od, .inl (cod, 1, .inr (.inr (.inr (.inl (fun _ => 0)))))), (o, .inl (co, 1, .inr (.inl uo)))]) ⟨hx, hb, hml, hown, hts⟩ (c_m_seen l D e0 _ mm mk9 mt mb (sc 1) (sc 2)) (cwV 2 hts gL_law_X9_seen rfl rfl rfl (by decide +kernel) ⟨Nat.le_of_ble_eq_true rfl, Nat.le_of_ble_eq_true rfl⟩) hP hD hK hS hA hE rfl [5, 7] [0, 1, 2, 3, 4, 6, 8, 9, 10] [] rfl rfl (by decide) (by decide) (by decide) rfl 11 5 rfl rfl rfl rfl hl.1 (Nat.le_of_ble_eq_true rfl) dL_law_1278 ⟨Nat.le_of_ble_eq_true rfl, Nat.le_of_ble_eq_true rfl⟩ (fun r_10 u9 H locs hw hP hD hK hS => ?_)
    obtain ⟨ut, hut⟩ : ∃ z : Int32, z = u9 := ⟨_, rfl⟩
    rw [← hut] at hw hP hD
    obtain ⟨hm1, hm2⟩ : r_10 = (-1) ∧ ut = 0 := ⟨hw.1.trans (if_neg (seen_c hq0)), hw.2.trans (if_neg (seen_c hq0))⟩
    subst hm1
    subst hm2
    have hP : va_P D vwCl [(xk, .inr (1, [.int 0, .ref e0, .int 0])), (xt, .inr (1, [.int 0, .ref e0, .int 0])), (xp, .inl (cxp, 36, .inl (fun _ => 0))), (xo, .inr (1, [.int 0, .ref e0, .int 0])), (xa, .inr (2, [.int 0, .int 0, .int 0, .null, .int 0, .double 0])), (mk9, .inr (1, [.int 0, .ref e0, .int 0])), (mb, .inr (1, [.int 0, .ref e0, .int 0])), (od, .inl (cod, 1, .inr (.inr (.inr (.inl (fun _ => 0)))))), (o, .inl (co, 1, .inr (.inl uo))), (mm, .inr (11, [.int 0, .ref mk9, .ref mt, .ref mb, .int 0, .int 0, .int 0, .int 0, .null, .int 0, .int 0, .double 0, .int 0, .int 0, .int 0]))] H := hP
    have hD : va_D A [(xk, .inr (1, [.int 0, .ref e0, .int 0])), (xt, .inr (1, [.int 0, .ref e0, .int 0])), (xp, .inl (cxp, 36, .inl (fun _ => 0))), (xo, .inr (1, [.int 0, .ref e0, .int 0])), (xa, .inr (2, [.int 0, .int 0, .int 0, .null, .int 0, .double 0])), (mk9, .inr (1, [.int 0, .ref e0, .int 0])), (mb, .inr (1, [.int 0, .ref e0, .int 0])), (od, .inl (cod, 1, .inr (.inr (.inr (.inl (fun _ => 0)))))), (o, .inl (co, 1, .inr (.inl uo))), (mm, .inr (11, [.int 0, .ref mk9, .ref mt, .ref mb, .int 0, .int 0, .int 0, .int 0, .null, .int 0, .int 0, .double 0, .int 0, .int 0, .int 0]))] := hD
    have hK : va_K D vwCl [(cxp, .int), (cxs, .int), (co, .long), (cod, .double)] s := hK
    refine lv_istore (lv' := [(7, .int (-1)), (6, .int 0), (5, .int 0), (4, .ref od), (3, .ref o), (2, .ref mm), (1, .ref x), (0, .ref b)]) hx hb dL_law_1281 hl (by decide) rfl (fun ls hl => ?_)
    refine lv_aload_n hx hb dL_law_1283 rfl (lv_at hl 5 rfl) ?_
    refine kV_i (As := []) (rest := []) (wr := [(xk, .inr (1, [.int 0, .ref e0, .int 0])), (xt, .inr (1, [.int 0, .ref e0, .int 0])), (xp, .inl (cxp, 36, .inl (fun _ => 0))), (xo, .inr (1, [.int 0, .ref e0, .int 0])), (xa, .inr (2, [.int 0, .int 0, .int 0, .null, .int 0, .double 0])), (mk9, .inr (1, [.int 0, .ref e0, .int 0])), (mb, .inr (1, [.int 0, .ref e0, .int 0])), (od, .inl (cod, 1, .inr (.inr (.inr (.inl (fun _ => 0)))))), (o, .inl (co, 1, .inr (.inl uo)))]) ⟨hx, hb, hml, hown, hts⟩ (c_thrown l D e0 _ mm mk9 mt mb 0) (cwV 0 hts gL_law_X9_thrown rfl rfl rfl (by decide +kernel) ⟨Nat.le_of_ble_eq_true rfl, Nat.le_of_ble_eq_true rfl⟩) hP hD hK hS hA hE rfl [9] [0, 1, 2, 3, 4, 5, 6, 7, 8] [] rfl rfl (by decide) (by decide) (by decide) rfl 11 9 rfl rfl rfl rfl hl.1 (Nat.le_of_ble_eq_true rfl) dL_law_1284 ⟨Nat.le_of_ble_eq_true rfl, Nat.le_of_ble_eq_true rfl⟩ (fun r_11 u9 H locs hw hP hD hK hS => ?_)
    have hw : r_11 = 0 := hw
    subst hw
    have hP : va_P D vwCl [(xk, .inr (1, [.int 0, .ref e0, .int 0])), (xt, .inr (1, [.int 0, .ref e0, .int 0])), (xp, .inl (cxp, 36, .inl (fun _ => 0))), (xo, .inr (1, [.int 0, .ref e0, .int 0])), (xa, .inr (2, [.int 0, .int 0, .int 0, .null, .int 0, .double 0])), (mk9, .inr (1, [.int 0, .ref e0, .int 0])), (mb, .inr (1, [.int 0, .ref e0, .int 0])), (od, .inl (cod, 1, .inr (.inr (.inr (.inl (fun _ => 0)))))), (o, .inl (co, 1, .inr (.inl uo))), (mm, .inr (11, [.int 0, .ref mk9, .ref mt, .ref mb, .int 0, .int 0, .int 0, .int 0, .null, .int 0, .int 0, .double 0, .int 0, .int 0, .int 0]))] H := hP
    have hD : va_D A [(xk, .inr (1, [.int 0, .ref e0, .int 0])), (xt, .inr (1, [.int 0, .ref e0, .int 0])), (xp, .inl (cxp, 36, .inl (fun _ => 0))), (xo, .inr (1, [.int 0, .ref e0, .int 0])), (xa, .inr (2, [.int 0, .int 0, .int 0, .null, .int 0, .double 0])), (mk9, .inr (1, [.int 0, .ref e0, .int 0])), (mb, .inr (1, [.int 0, .ref e0, .int 0])), (od, .inl (cod, 1, .inr (.inr (.inr (.inl (fun _ => 0)))))), (o, .inl (co, 1, .inr (.inl uo))), (mm, .inr (11, [.int 0, .ref mk9, .ref mt, .ref mb, .int 0, .int 0, .int 0, .int 0, .null, .int 0, .int 0, .double 0, .int 0, .int 0, .int 0]))] := hD
    have hK : va_K D vwCl [(cxp, .int), (cxs, .int), (co, .long), (cod, .double)] s := hK
    refine lv_iload hx hb dL_law_1287 (lv_at hl 1 rfl) ?_
    refine lv_icmp_eq (tgt := 1294) hx hb dL_law_1289 (by decide) (fun _ => ?_) (fun h9 => absurd (by decide) h9)
    refine lv_iload hx hb dL_law_1294 (lv_at hl 1 rfl) ?_
    refine lv_if_ne (tgt := 1311) hx hb dL_law_1296 (by decide) (fun h9 => absurd (by decide) h9) (fun _ => ?_)
    refine lv_aload_n hx hb dL_law_1299 rfl (lv_at hl 4 rfl) ?_
    refine lv_iconst (v := 0) hx hb dL_law_1300 (by decide) ?_
    refine va_lald hx hb hK hP 8 2 rfl rfl (by unfold vp_in; decide) dL_law_1301 ?_
    refine lv_topl (fun x_12 ex_12 => ?_)
    obtain rfl : x_12 = (-1) := ex_12.trans ((congrArg uo (by decide)).trans huv)
    refine lv_iload hx hb dL_law_1302 (lv_at hl 0 rfl) ?_
    refine lv_i2l (v := (-1)) hx hb dL_law_1304 (by decide) ?_
    refine W.lcmp hx hb dL_law_1305 ?_
    refine lv_topi (fun x_13 ex_13 => ?_)
    obtain rfl : x_13 = 0 := ex_13.trans (by decide)
    refine lv_if_eq (tgt := 1311) hx hb dL_law_1306 (by decide) (fun _ => ?_) (fun h9 => absurd (by decide) h9)
    refine lv_goto (tgt := 1632) hx hb dL_law_1311 (by decide) ?_
    exact law_tail hx hb hr hlocks hX hbl hbA hAs hS (Nat.le_of_ble_eq_true rfl) (Nat.le_of_ble_eq_true rfl) (lv_sub hl [2, 7] rfl)
  · refine lv_aload_n hx hb dL_law_1246 rfl (lv_at hl 4 rfl) ?_
    refine lv_aload_n hx hb dL_law_1247 rfl (lv_at hl 5 rfl) ?_
    refine lv_iload hx hb dL_law_1248 (lv_at hl 0 rfl) ?_
    refine lv_iconst (v := 1) hx hb dL_law_1250 (by decide) ?_
    refine lv_iadd hx hb dL_law_1251 ?_
    refine lv_topi (fun x_1 ex_1 => ?_)
    obtain rfl : x_1 = 1 := ex_1.trans (by decide)
    refine va_sld hx hb hX hbl hbA hS (by unfold vp_in; decide) dL_law_1252 ?_
    refine lv_topi (fun x_2 ex_2 => ?_)
    obtain rfl : x_2 = sc 1 := ex_2.trans (congrArg sc (by decide))
    refine lv_aload_n hx hb dL_law_1253 rfl (lv_at hl 5 rfl) ?_
    refine lv_iload hx hb dL_law_1254 (lv_at hl 0 rfl) ?_
    refine lv_iconst (v := 2) hx hb dL_law_1256 (by decide) ?_
    refine lv_iadd hx hb dL_law_1257 ?_
    refine lv_topi (fun x_3 ex_3 => ?_)
    obtain rfl : x_3 = 2 := ex_3.trans (by decide)
    refine va_sld hx hb hX hbl hbA hS (by unfold vp_in; decide) dL_law_1258 ?_
    refine lv_topi (fun x_4 ex_4 => ?_)
    obtain rfl : x_4 = sc 2 := ex_4.trans (congrArg sc (by decide))
    refine lv_aload_n hx hb dL_law_1259 rfl (lv_at hl 2 rfl) ?_
    refine kSW_i (As := [.ref x, .int (sc 1), .int (sc 2), .ref o]) (rest := []) (wr := [(xk, .inr (1, [.int 0, .ref e0, .int 0])), (xt, .inr (1, [.int 0, .ref e0, .int 0])), (xp, .inl (cxp, 36, .inl (fun _ => 0))), (xo, .inr (1, [.int 0, .ref e0, .int 0])), (xa, .inr (2, [.int 0, .int 0, .int 0, .null, .int 0, .double 0])), (mm, .inr (11, [.int 0, .ref mk9, .ref mt, .ref mb, .int 0, .int 0, .int 0, .int 0, .null, .int 0, .int 0, .double 0, .int 0, .int 0, .int 0])), (mk9, .inr (1, [.int 0, .ref e0, .int 0])), (mt, .inr (1, [.int 0, .ref e0, .int 0])), (mb, .inr (1, [.int 0, .ref e0, .int 0])), (od, .inl (cod, 1, .inr (.inr (.inr (.inl (fun _ => 0))))))]) ⟨hx, hb, hml, hown, hts⟩ (c_w_seen l hl9 D e0 _ x xk xb xo xa xt xp xs cxs g 0 o co (fun _ => 0) (sc 1) (sc 2) hg) (vx_cwSW 4 hts gL_law_L_seen rfl rfl rfl (by decide +kernel) ⟨Nat.le_of_ble_eq_true rfl, Nat.le_of_ble_eq_true rfl⟩) hP hD hK hS hA hE rfl [0, 2, 5, 12] [1, 3, 4, 6, 7, 8, 9, 10, 11, 13] [1, 2] rfl rfl (by decide) (by decide) (by decide) rfl rfl hl.1 (Nat.le_of_ble_eq_true rfl) dL_law_1260 ⟨Nat.le_of_ble_eq_true rfl, Nat.le_of_ble_eq_true rfl⟩ (fun r_5 u9 H locs hw hP hD hK hS => ?_)
    obtain ⟨uo, huo⟩ : ∃ z : Nat → Int64, z = u9 := ⟨_, rfl⟩
    rw [← huo] at hw hP hD
    have hw : r_5 = 1 := hw.elim (fun h => absurd h.1 hq0) (fun h => h.2)
    subst hw
    have hP : va_P D vwCl [(xk, .inr (1, [.int 0, .ref e0, .int 0])), (xt, .inr (1, [.int 0, .ref e0, .int 0])), (xp, .inl (cxp, 36, .inl (fun _ => 0))), (xo, .inr (1, [.int 0, .ref e0, .int 0])), (xa, .inr (2, [.int 0, .int 0, .int 0, .null, .int 0, .double 0])), (mm, .inr (11, [.int 0, .ref mk9, .ref mt, .ref mb, .int 0, .int 0, .int 0, .int 0, .null, .int 0, .int 0, .double 0, .int 0, .int 0, .int 0])), (mk9, .inr (1, [.int 0, .ref e0, .int 0])), (mt, .inr (1, [.int 0, .ref e0, .int 0])), (mb, .inr (1, [.int 0, .ref e0, .int 0])), (od, .inl (cod, 1, .inr (.inr (.inr (.inl (fun _ => 0)))))), (o, .inl (co, 1, .inr (.inl uo)))] H := hP
    have hD : va_D A [(xk, .inr (1, [.int 0, .ref e0, .int 0])), (xt, .inr (1, [.int 0, .ref e0, .int 0])), (xp, .inl (cxp, 36, .inl (fun _ => 0))), (xo, .inr (1, [.int 0, .ref e0, .int 0])), (xa, .inr (2, [.int 0, .int 0, .int 0, .null, .int 0, .double 0])), (mm, .inr (11, [.int 0, .ref mk9, .ref mt, .ref mb, .int 0, .int 0, .int 0, .int 0, .null, .int 0, .int 0, .double 0, .int 0, .int 0, .int 0])), (mk9, .inr (1, [.int 0, .ref e0, .int 0])), (mt, .inr (1, [.int 0, .ref e0, .int 0])), (mb, .inr (1, [.int 0, .ref e0, .int 0])), (od, .inl (cod, 1, .inr (.inr (.inr (.inl (fun _ => 0)))))), (o, .inl (co, 1, .inr (.inl uo)))] := hD
    have hK : va_K D vwCl [(cxp, .int), (cxs, .int), (co, .long), (cod, .double)] s := hK
    refine lv_istore (lv' := [(6, .int 1), (5, .int 0), (4, .ref od), (3, .ref o), (2, .ref mm), (1, .ref x), (0, .ref b)]) hx hb dL_law_1263 hl (by decide) rfl (fun ls hl => ?_)
    refine lv_aload_n hx hb dL_law_1265 rfl (lv_at hl 4 rfl) ?_
    refine lv_aload_n hx hb dL_law_1266 rfl (lv_at hl 6 rfl) ?_
    refine lv_iload hx hb dL_law_1267 (lv_at hl 1 rfl) ?_
    refine lv_iconst (v := 1) hx hb dL_law_1269 (by decide) ?_
    refine lv_iadd hx hb dL_law_1270 ?_
    refine lv_topi (fun x_6 ex_6 => ?_)
    obtain rfl : x_6 = 1 := ex_6.trans (by decide)
    refine va_sld hx hb hX hbl hbA hS (by unfold vp_in; decide) dL_law_1271 ?_
    refine lv_topi (fun x_7 ex_7 => ?_)
    obtain rfl : x_7 = sc 1 := ex_7.trans (congrArg sc (by decide))
    refine lv_aload_n hx hb dL_law_1272 rfl (lv_at hl 6 rfl) ?_
    refine lv_iload hx hb dL_law_1273 (lv_at hl 1 rfl) ?_
    refine lv_iconst (v := 2) hx hb dL_law_1275 (by decide) ?_
    refine lv_iadd hx hb dL_law_1276 ?_
    refine lv_topi (fun x_8 ex_8 => ?_)
    obtain rfl : x_8 = 2 := ex_8.trans (by decide)
    refine va_sld hx hb hX hbl hbA hS (by unfold vp_in; decide) dL_law_1277 ?_
    refine lv_topi (fun x_9 ex_9 => ?_)
    obtain rfl : x_9 = sc 2 := ex_9.trans (congrArg sc (by decide))
    refine kV_i (As := [.int (sc 1), .int (sc 2)]) (rest := []) (wr := [(xk, .inr (1, [.int 0, .ref e0, .int 0])), (xt, .inr (1, [.int 0, .ref e0, .int 0])), (xp, .inl (cxp, 36, .inl (fun _ => 0))), (xo, .inr (1, [.int 0, .ref e0, .int 0])), (xa, .inr (2, [.int 0, .int 0, .int 0, .null, .int 0, .double 0])), (mk9, .inr (1, [.int 0, .ref e0, .int 0])), (mb, .inr (1, [.int 0, .ref e0, .int 0])), (od, .inl (cod, 1, .inr (.inr (.inr (.inl (fun _ => 0)))))), (o, .inl (co, 1, .inr (.inl uo)))]) ⟨hx, hb, hml, hown, hts⟩ (c_m_seen l D e0 _ mm mk9 mt mb (sc 1) (sc 2)) (cwV 2 hts gL_law_X9_seen rfl rfl rfl (by decide +kernel) ⟨Nat.le_of_ble_eq_true rfl, Nat.le_of_ble_eq_true rfl⟩) hP hD hK hS hA hE rfl [5, 7] [0, 1, 2, 3, 4, 6, 8, 9, 10] [] rfl rfl (by decide) (by decide) (by decide) rfl 11 5 rfl rfl rfl rfl hl.1 (Nat.le_of_ble_eq_true rfl) dL_law_1278 ⟨Nat.le_of_ble_eq_true rfl, Nat.le_of_ble_eq_true rfl⟩ (fun r_10 u9 H locs hw hP hD hK hS => ?_)
    obtain ⟨ut, hut⟩ : ∃ z : Int32, z = u9 := ⟨_, rfl⟩
    rw [← hut] at hw hP hD
    obtain ⟨hm1, hm2⟩ : r_10 = 0 ∧ ut = 1 := ⟨hw.1.trans (if_pos (seen_c_n hq0)), hw.2.trans (if_pos (seen_c_n hq0))⟩
    subst hm1
    subst hm2
    have hP : va_P D vwCl [(xk, .inr (1, [.int 0, .ref e0, .int 0])), (xt, .inr (1, [.int 0, .ref e0, .int 0])), (xp, .inl (cxp, 36, .inl (fun _ => 0))), (xo, .inr (1, [.int 0, .ref e0, .int 0])), (xa, .inr (2, [.int 0, .int 0, .int 0, .null, .int 0, .double 0])), (mk9, .inr (1, [.int 0, .ref e0, .int 0])), (mb, .inr (1, [.int 0, .ref e0, .int 0])), (od, .inl (cod, 1, .inr (.inr (.inr (.inl (fun _ => 0)))))), (o, .inl (co, 1, .inr (.inl uo))), (mm, .inr (11, [.int 1, .ref mk9, .ref mt, .ref mb, .int 0, .int 0, .int 0, .int 0, .null, .int 0, .int 0, .double 0, .int 0, .int 0, .int 0]))] H := hP
    have hD : va_D A [(xk, .inr (1, [.int 0, .ref e0, .int 0])), (xt, .inr (1, [.int 0, .ref e0, .int 0])), (xp, .inl (cxp, 36, .inl (fun _ => 0))), (xo, .inr (1, [.int 0, .ref e0, .int 0])), (xa, .inr (2, [.int 0, .int 0, .int 0, .null, .int 0, .double 0])), (mk9, .inr (1, [.int 0, .ref e0, .int 0])), (mb, .inr (1, [.int 0, .ref e0, .int 0])), (od, .inl (cod, 1, .inr (.inr (.inr (.inl (fun _ => 0)))))), (o, .inl (co, 1, .inr (.inl uo))), (mm, .inr (11, [.int 1, .ref mk9, .ref mt, .ref mb, .int 0, .int 0, .int 0, .int 0, .null, .int 0, .int 0, .double 0, .int 0, .int 0, .int 0]))] := hD
    have hK : va_K D vwCl [(cxp, .int), (cxs, .int), (co, .long), (cod, .double)] s := hK
    refine lv_istore (lv' := [(7, .int 0), (6, .int 1), (5, .int 0), (4, .ref od), (3, .ref o), (2, .ref mm), (1, .ref x), (0, .ref b)]) hx hb dL_law_1281 hl (by decide) rfl (fun ls hl => ?_)
    refine lv_aload_n hx hb dL_law_1283 rfl (lv_at hl 5 rfl) ?_
    refine kV_i (As := []) (rest := []) (wr := [(xk, .inr (1, [.int 0, .ref e0, .int 0])), (xt, .inr (1, [.int 0, .ref e0, .int 0])), (xp, .inl (cxp, 36, .inl (fun _ => 0))), (xo, .inr (1, [.int 0, .ref e0, .int 0])), (xa, .inr (2, [.int 0, .int 0, .int 0, .null, .int 0, .double 0])), (mk9, .inr (1, [.int 0, .ref e0, .int 0])), (mb, .inr (1, [.int 0, .ref e0, .int 0])), (od, .inl (cod, 1, .inr (.inr (.inr (.inl (fun _ => 0)))))), (o, .inl (co, 1, .inr (.inl uo)))]) ⟨hx, hb, hml, hown, hts⟩ (c_thrown l D e0 _ mm mk9 mt mb 1) (cwV 0 hts gL_law_X9_thrown rfl rfl rfl (by decide +kernel) ⟨Nat.le_of_ble_eq_true rfl, Nat.le_of_ble_eq_true rfl⟩) hP hD hK hS hA hE rfl [9] [0, 1, 2, 3, 4, 5, 6, 7, 8] [] rfl rfl (by decide) (by decide) (by decide) rfl 11 9 rfl rfl rfl rfl hl.1 (Nat.le_of_ble_eq_true rfl) dL_law_1284 ⟨Nat.le_of_ble_eq_true rfl, Nat.le_of_ble_eq_true rfl⟩ (fun r_11 u9 H locs hw hP hD hK hS => ?_)
    have hw : r_11 = 1 := hw
    subst hw
    have hP : va_P D vwCl [(xk, .inr (1, [.int 0, .ref e0, .int 0])), (xt, .inr (1, [.int 0, .ref e0, .int 0])), (xp, .inl (cxp, 36, .inl (fun _ => 0))), (xo, .inr (1, [.int 0, .ref e0, .int 0])), (xa, .inr (2, [.int 0, .int 0, .int 0, .null, .int 0, .double 0])), (mk9, .inr (1, [.int 0, .ref e0, .int 0])), (mb, .inr (1, [.int 0, .ref e0, .int 0])), (od, .inl (cod, 1, .inr (.inr (.inr (.inl (fun _ => 0)))))), (o, .inl (co, 1, .inr (.inl uo))), (mm, .inr (11, [.int 1, .ref mk9, .ref mt, .ref mb, .int 0, .int 0, .int 0, .int 0, .null, .int 0, .int 0, .double 0, .int 0, .int 0, .int 0]))] H := hP
    have hD : va_D A [(xk, .inr (1, [.int 0, .ref e0, .int 0])), (xt, .inr (1, [.int 0, .ref e0, .int 0])), (xp, .inl (cxp, 36, .inl (fun _ => 0))), (xo, .inr (1, [.int 0, .ref e0, .int 0])), (xa, .inr (2, [.int 0, .int 0, .int 0, .null, .int 0, .double 0])), (mk9, .inr (1, [.int 0, .ref e0, .int 0])), (mb, .inr (1, [.int 0, .ref e0, .int 0])), (od, .inl (cod, 1, .inr (.inr (.inr (.inl (fun _ => 0)))))), (o, .inl (co, 1, .inr (.inl uo))), (mm, .inr (11, [.int 1, .ref mk9, .ref mt, .ref mb, .int 0, .int 0, .int 0, .int 0, .null, .int 0, .int 0, .double 0, .int 0, .int 0, .int 0]))] := hD
    have hK : va_K D vwCl [(cxp, .int), (cxs, .int), (co, .long), (cod, .double)] s := hK
    refine lv_iload hx hb dL_law_1287 (lv_at hl 1 rfl) ?_
    refine lv_icmp_eq (tgt := 1294) hx hb dL_law_1289 (by decide) (fun _ => ?_) (fun h9 => absurd (by decide) h9)
    refine lv_iload hx hb dL_law_1294 (lv_at hl 1 rfl) ?_
    refine lv_if_ne (tgt := 1311) hx hb dL_law_1296 (by decide) (fun _ => ?_) (fun h9 => absurd h9 (by decide))
    refine lv_goto (tgt := 1632) hx hb dL_law_1311 (by decide) ?_
    exact law_tail hx hb hr hlocks hX hbl hbA hAs hS (Nat.le_of_ble_eq_true rfl) (Nat.le_of_ble_eq_true rfl) (lv_sub hl [2, 7] rfl)
set_option maxHeartbeats 4000000 in
set_option maxRecDepth 100000 in
theorem law_case_17 {p : Program} {l : Launch} {e : Env} {s : State} {m : MethodId} {below : List Frame} {meth : Method} {c : Code} {b : Nat} {sc : Nat → Int32} {A : Nat → Prop} {H : Heap} {locs : List Loc} {ls : Array Slot} {D : va_G} {e0 x xk xb xt xp xs xo xa mm mk9 mt mb o od : Nat} {cxp cxs co cod : ClassId} {g : Nat → Int32} (hl9 : l.stackTraces = false) (hx : p.tables.exec = Jvm.exec) (hb : c.code = cL_law) (hr : meth.sig.returnType = ret) (hlocks : meth.locks = false) (hX : va_X b 7 sc s s.heap) (hbl : b < s.heap.size) (hbA : ¬ A b) (hAs : ∀ q, A q → s.heap.size ≤ q) (hS : va_S A s.heap H locs) (hml : c.maxLocals = 10) (hown : s.vm.findClass RL = some m.cls) (hts0 : ∀ w ∈ lw_tbl, w.before #[Value.ref b] s = true) (hts : ∀ w ∈ wsL_law, w.before #[Value.ref b] s = true) (hA : ∀ q, s.heap.size ≤ q → A q) (hE : EV e0 A s s.heap) (hg : ∀ j, j < 36 → g j = -1) (hP : va_P D vwCl [(x, .inr (7, [.ref xk, .ref xb, .ref xo, .ref xa, .int 0, .int 0, .int 0, .int 0])), (xk, .inr (1, [.int 0, .ref e0, .int 0])), (xb, .inr (3, [.ref xt, .ref xp, .ref xs, .int 0])), (xt, .inr (1, [.int 0, .ref e0, .int 0])), (xp, .inl (cxp, 36, .inl (fun _ => 0))), (xs, .inl (cxs, 36, .inl g)), (xo, .inr (1, [.int 0, .ref e0, .int 0])), (xa, .inr (2, [.int 0, .int 0, .int 0, .null, .int 0, .double 0])), (mm, .inr (11, [.int 0, .ref mk9, .ref mt, .ref mb, .int 0, .int 0, .int 0, .int 0, .null, .int 0, .int 0, .double 0, .int 0, .int 0, .int 0])), (mk9, .inr (1, [.int 0, .ref e0, .int 0])), (mt, .inr (1, [.int 0, .ref e0, .int 0])), (mb, .inr (1, [.int 0, .ref e0, .int 0])), (o, .inl (co, 1, .inr (.inl (fun _ => 0)))), (od, .inl (cod, 1, .inr (.inr (.inr (.inl (fun _ => 0))))))] H) (hD : va_D A [(x, .inr (7, [.ref xk, .ref xb, .ref xo, .ref xa, .int 0, .int 0, .int 0, .int 0])), (xk, .inr (1, [.int 0, .ref e0, .int 0])), (xb, .inr (3, [.ref xt, .ref xp, .ref xs, .int 0])), (xt, .inr (1, [.int 0, .ref e0, .int 0])), (xp, .inl (cxp, 36, .inl (fun _ => 0))), (xs, .inl (cxs, 36, .inl g)), (xo, .inr (1, [.int 0, .ref e0, .int 0])), (xa, .inr (2, [.int 0, .int 0, .int 0, .null, .int 0, .double 0])), (mm, .inr (11, [.int 0, .ref mk9, .ref mt, .ref mb, .int 0, .int 0, .int 0, .int 0, .null, .int 0, .int 0, .double 0, .int 0, .int 0, .int 0])), (mk9, .inr (1, [.int 0, .ref e0, .int 0])), (mt, .inr (1, [.int 0, .ref e0, .int 0])), (mb, .inr (1, [.int 0, .ref e0, .int 0])), (o, .inl (co, 1, .inr (.inl (fun _ => 0)))), (od, .inl (cod, 1, .inr (.inr (.inr (.inl (fun _ => 0))))))]) (hK : va_K D vwCl [(cxp, .int), (cxs, .int), (co, .long), (cod, .double)] s) (hl : lv_has ls 10 [(5, .int 0), (4, .ref od), (3, .ref o), (2, .ref mm), (1, .ref x), (0, .ref b)]) : W p l e room_1 s m #[Value.ref b] below meth c H locs 14 125 (lw_Z below #[Value.ref b] s) (F0 m 1314 ls []) := by
  refine lv_aload_n hx hb dL_law_1314 rfl (lv_at hl 4 rfl) ?_
  refine lv_aload_n hx hb dL_law_1315 rfl (lv_at hl 5 rfl) ?_
  refine lv_iload hx hb dL_law_1316 (lv_at hl 0 rfl) ?_
  refine lv_iconst (v := 1) hx hb dL_law_1318 (by decide) ?_
  refine lv_iadd hx hb dL_law_1319 ?_
  refine lv_topi (fun x_1 ex_1 => ?_)
  obtain rfl : x_1 = 1 := ex_1.trans (by decide)
  refine va_sld hx hb hX hbl hbA hS (by unfold vp_in; decide) dL_law_1320 ?_
  refine lv_topi (fun x_2 ex_2 => ?_)
  obtain rfl : x_2 = sc 1 := ex_2.trans (congrArg sc (by decide))
  refine lv_aload_n hx hb dL_law_1321 rfl (lv_at hl 5 rfl) ?_
  refine lv_iload hx hb dL_law_1322 (lv_at hl 0 rfl) ?_
  refine lv_iconst (v := 2) hx hb dL_law_1324 (by decide) ?_
  refine lv_iadd hx hb dL_law_1325 ?_
  refine lv_topi (fun x_3 ex_3 => ?_)
  obtain rfl : x_3 = 2 := ex_3.trans (by decide)
  refine va_sld hx hb hX hbl hbA hS (by unfold vp_in; decide) dL_law_1326 ?_
  refine lv_topi (fun x_4 ex_4 => ?_)
  obtain rfl : x_4 = sc 2 := ex_4.trans (congrArg sc (by decide))
  refine lv_aload_n hx hb dL_law_1327 rfl (lv_at hl 2 rfl) ?_
  refine kSW_i (As := [.ref x, .int (sc 1), .int (sc 2), .ref o]) (rest := []) (wr := [(xk, .inr (1, [.int 0, .ref e0, .int 0])), (xb, .inr (3, [.ref xt, .ref xp, .ref xs, .int 0])), (xt, .inr (1, [.int 0, .ref e0, .int 0])), (xp, .inl (cxp, 36, .inl (fun _ => 0))), (xs, .inl (cxs, 36, .inl g)), (xa, .inr (2, [.int 0, .int 0, .int 0, .null, .int 0, .double 0])), (mm, .inr (11, [.int 0, .ref mk9, .ref mt, .ref mb, .int 0, .int 0, .int 0, .int 0, .null, .int 0, .int 0, .double 0, .int 0, .int 0, .int 0])), (mk9, .inr (1, [.int 0, .ref e0, .int 0])), (mt, .inr (1, [.int 0, .ref e0, .int 0])), (mb, .inr (1, [.int 0, .ref e0, .int 0])), (od, .inl (cod, 1, .inr (.inr (.inr (.inl (fun _ => 0))))))]) ⟨hx, hb, hml, hown, hts⟩ (c_w_ofBox l hl9 D e0 _ x xk xb xo xa 0 o co (fun _ => 0) (sc 1) (sc 2)) (vx_cwSW 4 hts gL_law_L_ofBox rfl rfl rfl (by decide +kernel) ⟨Nat.le_of_ble_eq_true rfl, Nat.le_of_ble_eq_true rfl⟩) hP hD hK hS hA hE rfl [0, 6, 12] [1, 2, 3, 4, 5, 7, 8, 9, 10, 11, 13] [2] rfl rfl (by decide) (by decide) (by decide) rfl rfl hl.1 (Nat.le_of_ble_eq_true rfl) dL_law_1328 ⟨Nat.le_of_ble_eq_true rfl, Nat.le_of_ble_eq_true rfl⟩ (fun r_5 u9 H locs hw hP hD hK hS => ?_)
  have hw : r_5 = 1 := hw
  subst hw
  have hP : va_P D vwCl [(xk, .inr (1, [.int 0, .ref e0, .int 0])), (xb, .inr (3, [.ref xt, .ref xp, .ref xs, .int 0])), (xt, .inr (1, [.int 0, .ref e0, .int 0])), (xp, .inl (cxp, 36, .inl (fun _ => 0))), (xs, .inl (cxs, 36, .inl g)), (xa, .inr (2, [.int 0, .int 0, .int 0, .null, .int 0, .double 0])), (mm, .inr (11, [.int 0, .ref mk9, .ref mt, .ref mb, .int 0, .int 0, .int 0, .int 0, .null, .int 0, .int 0, .double 0, .int 0, .int 0, .int 0])), (mk9, .inr (1, [.int 0, .ref e0, .int 0])), (mt, .inr (1, [.int 0, .ref e0, .int 0])), (mb, .inr (1, [.int 0, .ref e0, .int 0])), (od, .inl (cod, 1, .inr (.inr (.inr (.inl (fun _ => 0))))))] H := hP
  have hD : va_D A [(xk, .inr (1, [.int 0, .ref e0, .int 0])), (xb, .inr (3, [.ref xt, .ref xp, .ref xs, .int 0])), (xt, .inr (1, [.int 0, .ref e0, .int 0])), (xp, .inl (cxp, 36, .inl (fun _ => 0))), (xs, .inl (cxs, 36, .inl g)), (xa, .inr (2, [.int 0, .int 0, .int 0, .null, .int 0, .double 0])), (mm, .inr (11, [.int 0, .ref mk9, .ref mt, .ref mb, .int 0, .int 0, .int 0, .int 0, .null, .int 0, .int 0, .double 0, .int 0, .int 0, .int 0])), (mk9, .inr (1, [.int 0, .ref e0, .int 0])), (mt, .inr (1, [.int 0, .ref e0, .int 0])), (mb, .inr (1, [.int 0, .ref e0, .int 0])), (od, .inl (cod, 1, .inr (.inr (.inr (.inl (fun _ => 0))))))] := hD
  have hK : va_K D vwCl [(cxp, .int), (cxs, .int), (co, .long), (cod, .double)] s := hK
  refine lv_istore (lv' := [(6, .int 1), (5, .int 0), (4, .ref od), (3, .ref o), (2, .ref mm), (1, .ref x), (0, .ref b)]) hx hb dL_law_1331 hl (by decide) rfl (fun ls hl => ?_)
  refine lv_aload_n hx hb dL_law_1333 rfl (lv_at hl 4 rfl) ?_
  refine lv_aload_n hx hb dL_law_1334 rfl (lv_at hl 6 rfl) ?_
  refine lv_iload hx hb dL_law_1335 (lv_at hl 1 rfl) ?_
  refine lv_iconst (v := 1) hx hb dL_law_1337 (by decide) ?_
  refine lv_iadd hx hb dL_law_1338 ?_
  refine lv_topi (fun x_6 ex_6 => ?_)
  obtain rfl : x_6 = 1 := ex_6.trans (by decide)
  refine va_sld hx hb hX hbl hbA hS (by unfold vp_in; decide) dL_law_1339 ?_
  refine lv_topi (fun x_7 ex_7 => ?_)
  obtain rfl : x_7 = sc 1 := ex_7.trans (congrArg sc (by decide))
  refine lv_aload_n hx hb dL_law_1340 rfl (lv_at hl 6 rfl) ?_
  refine lv_iload hx hb dL_law_1341 (lv_at hl 1 rfl) ?_
  refine lv_iconst (v := 2) hx hb dL_law_1343 (by decide) ?_
  refine lv_iadd hx hb dL_law_1344 ?_
  refine lv_topi (fun x_8 ex_8 => ?_)
  obtain rfl : x_8 = 2 := ex_8.trans (by decide)
  refine va_sld hx hb hX hbl hbA hS (by unfold vp_in; decide) dL_law_1345 ?_
  refine lv_topi (fun x_9 ex_9 => ?_)
  obtain rfl : x_9 = sc 2 := ex_9.trans (congrArg sc (by decide))
  refine kV_i (As := [.int (sc 1), .int (sc 2)]) (rest := []) (wr := [(xk, .inr (1, [.int 0, .ref e0, .int 0])), (xb, .inr (3, [.ref xt, .ref xp, .ref xs, .int 0])), (xt, .inr (1, [.int 0, .ref e0, .int 0])), (xp, .inl (cxp, 36, .inl (fun _ => 0))), (xs, .inl (cxs, 36, .inl g)), (xa, .inr (2, [.int 0, .int 0, .int 0, .null, .int 0, .double 0])), (mk9, .inr (1, [.int 0, .ref e0, .int 0])), (mt, .inr (1, [.int 0, .ref e0, .int 0])), (od, .inl (cod, 1, .inr (.inr (.inr (.inl (fun _ => 0))))))]) ⟨hx, hb, hml, hown, hts⟩ (c_m_ofBox l D e0 _ mm mk9 mt mb (sc 1) (sc 2)) (cwV 2 hts gL_law_X9_ofBox rfl rfl rfl (by decide +kernel) ⟨Nat.le_of_ble_eq_true rfl, Nat.le_of_ble_eq_true rfl⟩) hP hD hK hS hA hE rfl [6, 9] [0, 1, 2, 3, 4, 5, 7, 8, 10] [] rfl rfl (by decide) (by decide) (by decide) rfl 11 6 rfl rfl rfl rfl hl.1 (Nat.le_of_ble_eq_true rfl) dL_law_1346 ⟨Nat.le_of_ble_eq_true rfl, Nat.le_of_ble_eq_true rfl⟩ (fun r_10 u9 H locs hw hP hD hK hS => ?_)
  have hw : r_10 = 0 := hw
  subst hw
  have hP : va_P D vwCl [(xk, .inr (1, [.int 0, .ref e0, .int 0])), (xb, .inr (3, [.ref xt, .ref xp, .ref xs, .int 0])), (xt, .inr (1, [.int 0, .ref e0, .int 0])), (xp, .inl (cxp, 36, .inl (fun _ => 0))), (xs, .inl (cxs, 36, .inl g)), (xa, .inr (2, [.int 0, .int 0, .int 0, .null, .int 0, .double 0])), (mk9, .inr (1, [.int 0, .ref e0, .int 0])), (mt, .inr (1, [.int 0, .ref e0, .int 0])), (od, .inl (cod, 1, .inr (.inr (.inr (.inl (fun _ => 0)))))), (mm, .inr (11, [.int 1, .ref mk9, .ref mt, .ref mb, .int 0, .int 0, .int 0, .int 0, .null, .int 0, .int 0, .double 0, .int 0, .int 0, .int 0]))] H := hP
  have hD : va_D A [(xk, .inr (1, [.int 0, .ref e0, .int 0])), (xb, .inr (3, [.ref xt, .ref xp, .ref xs, .int 0])), (xt, .inr (1, [.int 0, .ref e0, .int 0])), (xp, .inl (cxp, 36, .inl (fun _ => 0))), (xs, .inl (cxs, 36, .inl g)), (xa, .inr (2, [.int 0, .int 0, .int 0, .null, .int 0, .double 0])), (mk9, .inr (1, [.int 0, .ref e0, .int 0])), (mt, .inr (1, [.int 0, .ref e0, .int 0])), (od, .inl (cod, 1, .inr (.inr (.inr (.inl (fun _ => 0)))))), (mm, .inr (11, [.int 1, .ref mk9, .ref mt, .ref mb, .int 0, .int 0, .int 0, .int 0, .null, .int 0, .int 0, .double 0, .int 0, .int 0, .int 0]))] := hD
  have hK : va_K D vwCl [(cxp, .int), (cxs, .int), (co, .long), (cod, .double)] s := hK
  refine lv_istore (lv' := [(7, .int 0), (6, .int 1), (5, .int 0), (4, .ref od), (3, .ref o), (2, .ref mm), (1, .ref x), (0, .ref b)]) hx hb dL_law_1349 hl (by decide) rfl (fun ls hl => ?_)
  refine lv_aload_n hx hb dL_law_1351 rfl (lv_at hl 5 rfl) ?_
  refine kV_i (As := []) (rest := []) (wr := [(xk, .inr (1, [.int 0, .ref e0, .int 0])), (xb, .inr (3, [.ref xt, .ref xp, .ref xs, .int 0])), (xt, .inr (1, [.int 0, .ref e0, .int 0])), (xp, .inl (cxp, 36, .inl (fun _ => 0))), (xs, .inl (cxs, 36, .inl g)), (xa, .inr (2, [.int 0, .int 0, .int 0, .null, .int 0, .double 0])), (mk9, .inr (1, [.int 0, .ref e0, .int 0])), (mt, .inr (1, [.int 0, .ref e0, .int 0])), (od, .inl (cod, 1, .inr (.inr (.inr (.inl (fun _ => 0))))))]) ⟨hx, hb, hml, hown, hts⟩ (c_thrown l D e0 _ mm mk9 mt mb 1) (cwV 0 hts gL_law_X9_thrown rfl rfl rfl (by decide +kernel) ⟨Nat.le_of_ble_eq_true rfl, Nat.le_of_ble_eq_true rfl⟩) hP hD hK hS hA hE rfl [9] [0, 1, 2, 3, 4, 5, 6, 7, 8] [] rfl rfl (by decide) (by decide) (by decide) rfl 11 9 rfl rfl rfl rfl hl.1 (Nat.le_of_ble_eq_true rfl) dL_law_1352 ⟨Nat.le_of_ble_eq_true rfl, Nat.le_of_ble_eq_true rfl⟩ (fun r_11 u9 H locs hw hP hD hK hS => ?_)
  have hw : r_11 = 1 := hw
  subst hw
  have hP : va_P D vwCl [(xk, .inr (1, [.int 0, .ref e0, .int 0])), (xb, .inr (3, [.ref xt, .ref xp, .ref xs, .int 0])), (xt, .inr (1, [.int 0, .ref e0, .int 0])), (xp, .inl (cxp, 36, .inl (fun _ => 0))), (xs, .inl (cxs, 36, .inl g)), (xa, .inr (2, [.int 0, .int 0, .int 0, .null, .int 0, .double 0])), (mk9, .inr (1, [.int 0, .ref e0, .int 0])), (mt, .inr (1, [.int 0, .ref e0, .int 0])), (od, .inl (cod, 1, .inr (.inr (.inr (.inl (fun _ => 0)))))), (mm, .inr (11, [.int 1, .ref mk9, .ref mt, .ref mb, .int 0, .int 0, .int 0, .int 0, .null, .int 0, .int 0, .double 0, .int 0, .int 0, .int 0]))] H := hP
  have hD : va_D A [(xk, .inr (1, [.int 0, .ref e0, .int 0])), (xb, .inr (3, [.ref xt, .ref xp, .ref xs, .int 0])), (xt, .inr (1, [.int 0, .ref e0, .int 0])), (xp, .inl (cxp, 36, .inl (fun _ => 0))), (xs, .inl (cxs, 36, .inl g)), (xa, .inr (2, [.int 0, .int 0, .int 0, .null, .int 0, .double 0])), (mk9, .inr (1, [.int 0, .ref e0, .int 0])), (mt, .inr (1, [.int 0, .ref e0, .int 0])), (od, .inl (cod, 1, .inr (.inr (.inr (.inl (fun _ => 0)))))), (mm, .inr (11, [.int 1, .ref mk9, .ref mt, .ref mb, .int 0, .int 0, .int 0, .int 0, .null, .int 0, .int 0, .double 0, .int 0, .int 0, .int 0]))] := hD
  have hK : va_K D vwCl [(cxp, .int), (cxs, .int), (co, .long), (cod, .double)] s := hK
  refine lv_iload hx hb dL_law_1355 (lv_at hl 1 rfl) ?_
  refine lv_icmp_eq (tgt := 1362) hx hb dL_law_1357 (by decide) (fun _ => ?_) (fun h9 => absurd (by decide) h9)
  refine lv_iload hx hb dL_law_1362 (lv_at hl 1 rfl) ?_
  refine lv_if_ne (tgt := 1379) hx hb dL_law_1364 (by decide) (fun _ => ?_) (fun h9 => absurd h9 (by decide))
  refine lv_goto (tgt := 1632) hx hb dL_law_1379 (by decide) ?_
  exact law_tail hx hb hr hlocks hX hbl hbA hAs hS (Nat.le_of_ble_eq_true rfl) (Nat.le_of_ble_eq_true rfl) (lv_sub hl [2, 7] rfl)
set_option maxHeartbeats 4000000 in
set_option maxRecDepth 100000 in
theorem law_case_18 {p : Program} {l : Launch} {e : Env} {s : State} {m : MethodId} {below : List Frame} {meth : Method} {c : Code} {b : Nat} {sc : Nat → Int32} {A : Nat → Prop} {H : Heap} {locs : List Loc} {ls : Array Slot} {D : va_G} {e0 x xk xb xt xp xs xo xa mm mk9 mt mb o od : Nat} {cxp cxs co cod : ClassId} {g : Nat → Int32} (hl9 : l.stackTraces = false) (hx : p.tables.exec = Jvm.exec) (hb : c.code = cL_law) (hr : meth.sig.returnType = ret) (hlocks : meth.locks = false) (hX : va_X b 7 sc s s.heap) (hbl : b < s.heap.size) (hbA : ¬ A b) (hAs : ∀ q, A q → s.heap.size ≤ q) (hS : va_S A s.heap H locs) (hml : c.maxLocals = 10) (hown : s.vm.findClass RL = some m.cls) (hts0 : ∀ w ∈ lw_tbl, w.before #[Value.ref b] s = true) (hts : ∀ w ∈ wsL_law, w.before #[Value.ref b] s = true) (hA : ∀ q, s.heap.size ≤ q → A q) (hE : EV e0 A s s.heap) (hg : ∀ j, j < 36 → g j = -1) (hP : va_P D vwCl [(x, .inr (7, [.ref xk, .ref xb, .ref xo, .ref xa, .int 0, .int 0, .int 0, .int 0])), (xk, .inr (1, [.int 0, .ref e0, .int 0])), (xb, .inr (3, [.ref xt, .ref xp, .ref xs, .int 0])), (xt, .inr (1, [.int 0, .ref e0, .int 0])), (xp, .inl (cxp, 36, .inl (fun _ => 0))), (xs, .inl (cxs, 36, .inl g)), (xo, .inr (1, [.int 0, .ref e0, .int 0])), (xa, .inr (2, [.int 0, .int 0, .int 0, .null, .int 0, .double 0])), (mm, .inr (11, [.int 0, .ref mk9, .ref mt, .ref mb, .int 0, .int 0, .int 0, .int 0, .null, .int 0, .int 0, .double 0, .int 0, .int 0, .int 0])), (mk9, .inr (1, [.int 0, .ref e0, .int 0])), (mt, .inr (1, [.int 0, .ref e0, .int 0])), (mb, .inr (1, [.int 0, .ref e0, .int 0])), (o, .inl (co, 1, .inr (.inl (fun _ => 0)))), (od, .inl (cod, 1, .inr (.inr (.inr (.inl (fun _ => 0))))))] H) (hD : va_D A [(x, .inr (7, [.ref xk, .ref xb, .ref xo, .ref xa, .int 0, .int 0, .int 0, .int 0])), (xk, .inr (1, [.int 0, .ref e0, .int 0])), (xb, .inr (3, [.ref xt, .ref xp, .ref xs, .int 0])), (xt, .inr (1, [.int 0, .ref e0, .int 0])), (xp, .inl (cxp, 36, .inl (fun _ => 0))), (xs, .inl (cxs, 36, .inl g)), (xo, .inr (1, [.int 0, .ref e0, .int 0])), (xa, .inr (2, [.int 0, .int 0, .int 0, .null, .int 0, .double 0])), (mm, .inr (11, [.int 0, .ref mk9, .ref mt, .ref mb, .int 0, .int 0, .int 0, .int 0, .null, .int 0, .int 0, .double 0, .int 0, .int 0, .int 0])), (mk9, .inr (1, [.int 0, .ref e0, .int 0])), (mt, .inr (1, [.int 0, .ref e0, .int 0])), (mb, .inr (1, [.int 0, .ref e0, .int 0])), (o, .inl (co, 1, .inr (.inl (fun _ => 0)))), (od, .inl (cod, 1, .inr (.inr (.inr (.inl (fun _ => 0))))))]) (hK : va_K D vwCl [(cxp, .int), (cxs, .int), (co, .long), (cod, .double)] s) (hl : lv_has ls 10 [(5, .int 0), (4, .ref od), (3, .ref o), (2, .ref mm), (1, .ref x), (0, .ref b)]) : W p l e room_1 s m #[Value.ref b] below meth c H locs 14 125 (lw_Z below #[Value.ref b] s) (F0 m 1382 ls []) := by
  by_cases hq0 : 0 ≤ (sc 1) ∧ (sc 1) ≤ 12
  · refine lv_aload_n hx hb dL_law_1382 rfl (lv_at hl 4 rfl) ?_
    refine lv_aload_n hx hb dL_law_1383 rfl (lv_at hl 5 rfl) ?_
    refine lv_iload hx hb dL_law_1384 (lv_at hl 0 rfl) ?_
    refine lv_iconst (v := 1) hx hb dL_law_1386 (by decide) ?_
    refine lv_iadd hx hb dL_law_1387 ?_
    refine lv_topi (fun x_1 ex_1 => ?_)
    obtain rfl : x_1 = 1 := ex_1.trans (by decide)
    refine va_sld hx hb hX hbl hbA hS (by unfold vp_in; decide) dL_law_1388 ?_
    refine lv_topi (fun x_2 ex_2 => ?_)
    obtain rfl : x_2 = sc 1 := ex_2.trans (congrArg sc (by decide))
    refine lv_aload_n hx hb dL_law_1389 rfl (lv_at hl 2 rfl) ?_
    refine kSW_i (As := [.ref x, .int (sc 1), .ref o]) (rest := []) (wr := [(xs, .inl (cxs, 36, .inl g)), (mm, .inr (11, [.int 0, .ref mk9, .ref mt, .ref mb, .int 0, .int 0, .int 0, .int 0, .null, .int 0, .int 0, .double 0, .int 0, .int 0, .int 0])), (mk9, .inr (1, [.int 0, .ref e0, .int 0])), (mt, .inr (1, [.int 0, .ref e0, .int 0])), (mb, .inr (1, [.int 0, .ref e0, .int 0])), (od, .inl (cod, 1, .inr (.inr (.inr (.inl (fun _ => 0))))))]) ⟨hx, hb, hml, hown, hts⟩ (c_w_many l hl9 D e0 _ x xk xb xo xa xt xp xs cxp 0 o co (fun _ => 0) (sc 1)) (vx_cwSW 3 hts gL_law_L_many rfl rfl rfl (by decide +kernel) ⟨Nat.le_of_ble_eq_true rfl, Nat.le_of_ble_eq_true rfl⟩) hP hD hK hS hA hE rfl [0, 1, 2, 3, 4, 6, 7, 12] [5, 8, 9, 10, 11, 13] [0, 2] rfl rfl (by decide) (by decide) (by decide) rfl rfl hl.1 (Nat.le_of_ble_eq_true rfl) dL_law_1390 ⟨Nat.le_of_ble_eq_true rfl, Nat.le_of_ble_eq_true rfl⟩ (fun r_3 u9 H locs hw hP hD hK hS => ?_)
    obtain ⟨uo, huo⟩ : ∃ z : Nat → Int64, z = u9 := ⟨_, rfl⟩
    rw [← huo] at hw hP hD
    have hw : r_3 = 0 ∧ uo 0 = (manyF (sc 1)).toInt64 := hw.elim (fun h => h.2) (fun h => absurd hq0 h.1)
    obtain ⟨hwr, huv⟩ := hw
    subst hwr
    have hP : va_P D vwCl [(xs, .inl (cxs, 36, .inl g)), (mm, .inr (11, [.int 0, .ref mk9, .ref mt, .ref mb, .int 0, .int 0, .int 0, .int 0, .null, .int 0, .int 0, .double 0, .int 0, .int 0, .int 0])), (mk9, .inr (1, [.int 0, .ref e0, .int 0])), (mt, .inr (1, [.int 0, .ref e0, .int 0])), (mb, .inr (1, [.int 0, .ref e0, .int 0])), (od, .inl (cod, 1, .inr (.inr (.inr (.inl (fun _ => 0)))))), (o, .inl (co, 1, .inr (.inl uo)))] H := hP
    have hD : va_D A [(xs, .inl (cxs, 36, .inl g)), (mm, .inr (11, [.int 0, .ref mk9, .ref mt, .ref mb, .int 0, .int 0, .int 0, .int 0, .null, .int 0, .int 0, .double 0, .int 0, .int 0, .int 0])), (mk9, .inr (1, [.int 0, .ref e0, .int 0])), (mt, .inr (1, [.int 0, .ref e0, .int 0])), (mb, .inr (1, [.int 0, .ref e0, .int 0])), (od, .inl (cod, 1, .inr (.inr (.inr (.inl (fun _ => 0)))))), (o, .inl (co, 1, .inr (.inl uo)))] := hD
    have hK : va_K D vwCl [(cxp, .int), (cxs, .int), (co, .long), (cod, .double)] s := hK
    refine lv_istore (lv' := [(6, .int 0), (5, .int 0), (4, .ref od), (3, .ref o), (2, .ref mm), (1, .ref x), (0, .ref b)]) hx hb dL_law_1393 hl (by decide) rfl (fun ls hl => ?_)
    refine lv_aload_n hx hb dL_law_1395 rfl (lv_at hl 4 rfl) ?_
    refine lv_aload_n hx hb dL_law_1396 rfl (lv_at hl 6 rfl) ?_
    refine lv_iload hx hb dL_law_1397 (lv_at hl 1 rfl) ?_
    refine lv_iconst (v := 1) hx hb dL_law_1399 (by decide) ?_
    refine lv_iadd hx hb dL_law_1400 ?_
    refine lv_topi (fun x_4 ex_4 => ?_)
    obtain rfl : x_4 = 1 := ex_4.trans (by decide)
    refine va_sld hx hb hX hbl hbA hS (by unfold vp_in; decide) dL_law_1401 ?_
    refine lv_topi (fun x_5 ex_5 => ?_)
    obtain rfl : x_5 = sc 1 := ex_5.trans (congrArg sc (by decide))
    refine kV_i (As := [.int (sc 1)]) (rest := []) (wr := [(xs, .inl (cxs, 36, .inl g)), (od, .inl (cod, 1, .inr (.inr (.inr (.inl (fun _ => 0)))))), (o, .inl (co, 1, .inr (.inl uo)))]) ⟨hx, hb, hml, hown, hts⟩ (c_m_many l D e0 _ mm mk9 mt mb (sc 1)) (cwV 1 hts gL_law_X9_many rfl rfl rfl (by decide +kernel) ⟨Nat.le_of_ble_eq_true rfl, Nat.le_of_ble_eq_true rfl⟩) hP hD hK hS hA hE rfl [1, 2, 3, 4] [0, 5, 6] [] rfl rfl (by decide) (by decide) (by decide) rfl 11 1 rfl rfl rfl rfl hl.1 (Nat.le_of_ble_eq_true rfl) dL_law_1402 ⟨Nat.le_of_ble_eq_true rfl, Nat.le_of_ble_eq_true rfl⟩ (fun r_6 u9 H locs hw hP hD hK hS => ?_)
    obtain ⟨ut, hut⟩ : ∃ z : Int32, z = u9 := ⟨_, rfl⟩
    rw [← hut] at hw hP hD
    obtain ⟨hm1, hm2⟩ : r_6 = (manyF (sc 1)) ∧ ut = 0 := ⟨hw.1.trans (if_neg (many_c hq0)), hw.2.trans (if_neg (many_c hq0))⟩
    subst hm1
    subst hm2
    have hP : va_P D vwCl [(xs, .inl (cxs, 36, .inl g)), (od, .inl (cod, 1, .inr (.inr (.inr (.inl (fun _ => 0)))))), (o, .inl (co, 1, .inr (.inl uo))), (mm, .inr (11, [.int 0, .ref mk9, .ref mt, .ref mb, .int 0, .int 0, .int 0, .int 0, .null, .int 0, .int 0, .double 0, .int 0, .int 0, .int 0]))] H := hP
    have hD : va_D A [(xs, .inl (cxs, 36, .inl g)), (od, .inl (cod, 1, .inr (.inr (.inr (.inl (fun _ => 0)))))), (o, .inl (co, 1, .inr (.inl uo))), (mm, .inr (11, [.int 0, .ref mk9, .ref mt, .ref mb, .int 0, .int 0, .int 0, .int 0, .null, .int 0, .int 0, .double 0, .int 0, .int 0, .int 0]))] := hD
    have hK : va_K D vwCl [(cxp, .int), (cxs, .int), (co, .long), (cod, .double)] s := hK
    refine lv_istore (lv' := [(7, .int (manyF (sc 1))), (6, .int 0), (5, .int 0), (4, .ref od), (3, .ref o), (2, .ref mm), (1, .ref x), (0, .ref b)]) hx hb dL_law_1405 hl (by decide) rfl (fun ls hl => ?_)
    refine lv_aload_n hx hb dL_law_1407 rfl (lv_at hl 5 rfl) ?_
    refine kV_i (As := []) (rest := []) (wr := [(xs, .inl (cxs, 36, .inl g)), (od, .inl (cod, 1, .inr (.inr (.inr (.inl (fun _ => 0)))))), (o, .inl (co, 1, .inr (.inl uo)))]) ⟨hx, hb, hml, hown, hts⟩ (c_thrown l D e0 _ mm mk9 mt mb 0) (cwV 0 hts gL_law_X9_thrown rfl rfl rfl (by decide +kernel) ⟨Nat.le_of_ble_eq_true rfl, Nat.le_of_ble_eq_true rfl⟩) hP hD hK hS hA hE rfl [3] [0, 1, 2] [] rfl rfl (by decide) (by decide) (by decide) rfl 11 3 rfl rfl rfl rfl hl.1 (Nat.le_of_ble_eq_true rfl) dL_law_1408 ⟨Nat.le_of_ble_eq_true rfl, Nat.le_of_ble_eq_true rfl⟩ (fun r_7 u9 H locs hw hP hD hK hS => ?_)
    have hw : r_7 = 0 := hw
    subst hw
    have hP : va_P D vwCl [(xs, .inl (cxs, 36, .inl g)), (od, .inl (cod, 1, .inr (.inr (.inr (.inl (fun _ => 0)))))), (o, .inl (co, 1, .inr (.inl uo))), (mm, .inr (11, [.int 0, .ref mk9, .ref mt, .ref mb, .int 0, .int 0, .int 0, .int 0, .null, .int 0, .int 0, .double 0, .int 0, .int 0, .int 0]))] H := hP
    have hD : va_D A [(xs, .inl (cxs, 36, .inl g)), (od, .inl (cod, 1, .inr (.inr (.inr (.inl (fun _ => 0)))))), (o, .inl (co, 1, .inr (.inl uo))), (mm, .inr (11, [.int 0, .ref mk9, .ref mt, .ref mb, .int 0, .int 0, .int 0, .int 0, .null, .int 0, .int 0, .double 0, .int 0, .int 0, .int 0]))] := hD
    have hK : va_K D vwCl [(cxp, .int), (cxs, .int), (co, .long), (cod, .double)] s := hK
    refine lv_iload hx hb dL_law_1411 (lv_at hl 1 rfl) ?_
    refine lv_icmp_eq (tgt := 1418) hx hb dL_law_1413 (by decide) (fun _ => ?_) (fun h9 => absurd (by decide) h9)
    refine lv_iload hx hb dL_law_1418 (lv_at hl 1 rfl) ?_
    refine lv_if_ne (tgt := 1435) hx hb dL_law_1420 (by decide) (fun h9 => absurd (by decide) h9) (fun _ => ?_)
    refine lv_aload_n hx hb dL_law_1423 rfl (lv_at hl 4 rfl) ?_
    refine lv_iconst (v := 0) hx hb dL_law_1424 (by decide) ?_
    refine va_lald hx hb hK hP 2 2 rfl rfl (by unfold vp_in; decide) dL_law_1425 ?_
    refine lv_topl (fun x_8 ex_8 => ?_)
    obtain rfl : x_8 = (manyF (sc 1)).toInt64 := ex_8.trans ((congrArg uo (by decide)).trans huv)
    refine lv_iload hx hb dL_law_1426 (lv_at hl 0 rfl) ?_
    refine lv_i2l (v := (manyF (sc 1)).toInt64) hx hb dL_law_1428 rfl ?_
    refine W.lcmp hx hb dL_law_1429 ?_
    refine lv_topi (fun x_9 ex_9 => ?_)
    obtain rfl : x_9 = 0 := ex_9.trans (lg_cmp_self _)
    refine lv_if_eq (tgt := 1435) hx hb dL_law_1430 (by decide) (fun _ => ?_) (fun h9 => absurd (by decide) h9)
    refine lv_goto (tgt := 1632) hx hb dL_law_1435 (by decide) ?_
    exact law_tail hx hb hr hlocks hX hbl hbA hAs hS (Nat.le_of_ble_eq_true rfl) (Nat.le_of_ble_eq_true rfl) (lv_sub hl [2, 7] rfl)
  · refine lv_aload_n hx hb dL_law_1382 rfl (lv_at hl 4 rfl) ?_
    refine lv_aload_n hx hb dL_law_1383 rfl (lv_at hl 5 rfl) ?_
    refine lv_iload hx hb dL_law_1384 (lv_at hl 0 rfl) ?_
    refine lv_iconst (v := 1) hx hb dL_law_1386 (by decide) ?_
    refine lv_iadd hx hb dL_law_1387 ?_
    refine lv_topi (fun x_1 ex_1 => ?_)
    obtain rfl : x_1 = 1 := ex_1.trans (by decide)
    refine va_sld hx hb hX hbl hbA hS (by unfold vp_in; decide) dL_law_1388 ?_
    refine lv_topi (fun x_2 ex_2 => ?_)
    obtain rfl : x_2 = sc 1 := ex_2.trans (congrArg sc (by decide))
    refine lv_aload_n hx hb dL_law_1389 rfl (lv_at hl 2 rfl) ?_
    refine kSW_i (As := [.ref x, .int (sc 1), .ref o]) (rest := []) (wr := [(xs, .inl (cxs, 36, .inl g)), (mm, .inr (11, [.int 0, .ref mk9, .ref mt, .ref mb, .int 0, .int 0, .int 0, .int 0, .null, .int 0, .int 0, .double 0, .int 0, .int 0, .int 0])), (mk9, .inr (1, [.int 0, .ref e0, .int 0])), (mt, .inr (1, [.int 0, .ref e0, .int 0])), (mb, .inr (1, [.int 0, .ref e0, .int 0])), (od, .inl (cod, 1, .inr (.inr (.inr (.inl (fun _ => 0))))))]) ⟨hx, hb, hml, hown, hts⟩ (c_w_many l hl9 D e0 _ x xk xb xo xa xt xp xs cxp 0 o co (fun _ => 0) (sc 1)) (vx_cwSW 3 hts gL_law_L_many rfl rfl rfl (by decide +kernel) ⟨Nat.le_of_ble_eq_true rfl, Nat.le_of_ble_eq_true rfl⟩) hP hD hK hS hA hE rfl [0, 1, 2, 3, 4, 6, 7, 12] [5, 8, 9, 10, 11, 13] [0, 2] rfl rfl (by decide) (by decide) (by decide) rfl rfl hl.1 (Nat.le_of_ble_eq_true rfl) dL_law_1390 ⟨Nat.le_of_ble_eq_true rfl, Nat.le_of_ble_eq_true rfl⟩ (fun r_3 u9 H locs hw hP hD hK hS => ?_)
    obtain ⟨uo, huo⟩ : ∃ z : Nat → Int64, z = u9 := ⟨_, rfl⟩
    rw [← huo] at hw hP hD
    have hw : r_3 = 1 := hw.elim (fun h => absurd h.1 hq0) (fun h => h.2)
    subst hw
    have hP : va_P D vwCl [(xs, .inl (cxs, 36, .inl g)), (mm, .inr (11, [.int 0, .ref mk9, .ref mt, .ref mb, .int 0, .int 0, .int 0, .int 0, .null, .int 0, .int 0, .double 0, .int 0, .int 0, .int 0])), (mk9, .inr (1, [.int 0, .ref e0, .int 0])), (mt, .inr (1, [.int 0, .ref e0, .int 0])), (mb, .inr (1, [.int 0, .ref e0, .int 0])), (od, .inl (cod, 1, .inr (.inr (.inr (.inl (fun _ => 0)))))), (o, .inl (co, 1, .inr (.inl uo)))] H := hP
    have hD : va_D A [(xs, .inl (cxs, 36, .inl g)), (mm, .inr (11, [.int 0, .ref mk9, .ref mt, .ref mb, .int 0, .int 0, .int 0, .int 0, .null, .int 0, .int 0, .double 0, .int 0, .int 0, .int 0])), (mk9, .inr (1, [.int 0, .ref e0, .int 0])), (mt, .inr (1, [.int 0, .ref e0, .int 0])), (mb, .inr (1, [.int 0, .ref e0, .int 0])), (od, .inl (cod, 1, .inr (.inr (.inr (.inl (fun _ => 0)))))), (o, .inl (co, 1, .inr (.inl uo)))] := hD
    have hK : va_K D vwCl [(cxp, .int), (cxs, .int), (co, .long), (cod, .double)] s := hK
    refine lv_istore (lv' := [(6, .int 1), (5, .int 0), (4, .ref od), (3, .ref o), (2, .ref mm), (1, .ref x), (0, .ref b)]) hx hb dL_law_1393 hl (by decide) rfl (fun ls hl => ?_)
    refine lv_aload_n hx hb dL_law_1395 rfl (lv_at hl 4 rfl) ?_
    refine lv_aload_n hx hb dL_law_1396 rfl (lv_at hl 6 rfl) ?_
    refine lv_iload hx hb dL_law_1397 (lv_at hl 1 rfl) ?_
    refine lv_iconst (v := 1) hx hb dL_law_1399 (by decide) ?_
    refine lv_iadd hx hb dL_law_1400 ?_
    refine lv_topi (fun x_4 ex_4 => ?_)
    obtain rfl : x_4 = 1 := ex_4.trans (by decide)
    refine va_sld hx hb hX hbl hbA hS (by unfold vp_in; decide) dL_law_1401 ?_
    refine lv_topi (fun x_5 ex_5 => ?_)
    obtain rfl : x_5 = sc 1 := ex_5.trans (congrArg sc (by decide))
    refine kV_i (As := [.int (sc 1)]) (rest := []) (wr := [(xs, .inl (cxs, 36, .inl g)), (od, .inl (cod, 1, .inr (.inr (.inr (.inl (fun _ => 0)))))), (o, .inl (co, 1, .inr (.inl uo)))]) ⟨hx, hb, hml, hown, hts⟩ (c_m_many l D e0 _ mm mk9 mt mb (sc 1)) (cwV 1 hts gL_law_X9_many rfl rfl rfl (by decide +kernel) ⟨Nat.le_of_ble_eq_true rfl, Nat.le_of_ble_eq_true rfl⟩) hP hD hK hS hA hE rfl [1, 2, 3, 4] [0, 5, 6] [] rfl rfl (by decide) (by decide) (by decide) rfl 11 1 rfl rfl rfl rfl hl.1 (Nat.le_of_ble_eq_true rfl) dL_law_1402 ⟨Nat.le_of_ble_eq_true rfl, Nat.le_of_ble_eq_true rfl⟩ (fun r_6 u9 H locs hw hP hD hK hS => ?_)
    obtain ⟨ut, hut⟩ : ∃ z : Int32, z = u9 := ⟨_, rfl⟩
    rw [← hut] at hw hP hD
    obtain ⟨hm1, hm2⟩ : r_6 = 0 ∧ ut = 1 := ⟨hw.1.trans (if_pos (many_c_n hq0)), hw.2.trans (if_pos (many_c_n hq0))⟩
    subst hm1
    subst hm2
    have hP : va_P D vwCl [(xs, .inl (cxs, 36, .inl g)), (od, .inl (cod, 1, .inr (.inr (.inr (.inl (fun _ => 0)))))), (o, .inl (co, 1, .inr (.inl uo))), (mm, .inr (11, [.int 1, .ref mk9, .ref mt, .ref mb, .int 0, .int 0, .int 0, .int 0, .null, .int 0, .int 0, .double 0, .int 0, .int 0, .int 0]))] H := hP
    have hD : va_D A [(xs, .inl (cxs, 36, .inl g)), (od, .inl (cod, 1, .inr (.inr (.inr (.inl (fun _ => 0)))))), (o, .inl (co, 1, .inr (.inl uo))), (mm, .inr (11, [.int 1, .ref mk9, .ref mt, .ref mb, .int 0, .int 0, .int 0, .int 0, .null, .int 0, .int 0, .double 0, .int 0, .int 0, .int 0]))] := hD
    have hK : va_K D vwCl [(cxp, .int), (cxs, .int), (co, .long), (cod, .double)] s := hK
    refine lv_istore (lv' := [(7, .int 0), (6, .int 1), (5, .int 0), (4, .ref od), (3, .ref o), (2, .ref mm), (1, .ref x), (0, .ref b)]) hx hb dL_law_1405 hl (by decide) rfl (fun ls hl => ?_)
    refine lv_aload_n hx hb dL_law_1407 rfl (lv_at hl 5 rfl) ?_
    refine kV_i (As := []) (rest := []) (wr := [(xs, .inl (cxs, 36, .inl g)), (od, .inl (cod, 1, .inr (.inr (.inr (.inl (fun _ => 0)))))), (o, .inl (co, 1, .inr (.inl uo)))]) ⟨hx, hb, hml, hown, hts⟩ (c_thrown l D e0 _ mm mk9 mt mb 1) (cwV 0 hts gL_law_X9_thrown rfl rfl rfl (by decide +kernel) ⟨Nat.le_of_ble_eq_true rfl, Nat.le_of_ble_eq_true rfl⟩) hP hD hK hS hA hE rfl [3] [0, 1, 2] [] rfl rfl (by decide) (by decide) (by decide) rfl 11 3 rfl rfl rfl rfl hl.1 (Nat.le_of_ble_eq_true rfl) dL_law_1408 ⟨Nat.le_of_ble_eq_true rfl, Nat.le_of_ble_eq_true rfl⟩ (fun r_7 u9 H locs hw hP hD hK hS => ?_)
    have hw : r_7 = 1 := hw
    subst hw
    have hP : va_P D vwCl [(xs, .inl (cxs, 36, .inl g)), (od, .inl (cod, 1, .inr (.inr (.inr (.inl (fun _ => 0)))))), (o, .inl (co, 1, .inr (.inl uo))), (mm, .inr (11, [.int 1, .ref mk9, .ref mt, .ref mb, .int 0, .int 0, .int 0, .int 0, .null, .int 0, .int 0, .double 0, .int 0, .int 0, .int 0]))] H := hP
    have hD : va_D A [(xs, .inl (cxs, 36, .inl g)), (od, .inl (cod, 1, .inr (.inr (.inr (.inl (fun _ => 0)))))), (o, .inl (co, 1, .inr (.inl uo))), (mm, .inr (11, [.int 1, .ref mk9, .ref mt, .ref mb, .int 0, .int 0, .int 0, .int 0, .null, .int 0, .int 0, .double 0, .int 0, .int 0, .int 0]))] := hD
    have hK : va_K D vwCl [(cxp, .int), (cxs, .int), (co, .long), (cod, .double)] s := hK
    refine lv_iload hx hb dL_law_1411 (lv_at hl 1 rfl) ?_
    refine lv_icmp_eq (tgt := 1418) hx hb dL_law_1413 (by decide) (fun _ => ?_) (fun h9 => absurd (by decide) h9)
    refine lv_iload hx hb dL_law_1418 (lv_at hl 1 rfl) ?_
    refine lv_if_ne (tgt := 1435) hx hb dL_law_1420 (by decide) (fun _ => ?_) (fun h9 => absurd h9 (by decide))
    refine lv_goto (tgt := 1632) hx hb dL_law_1435 (by decide) ?_
    exact law_tail hx hb hr hlocks hX hbl hbA hAs hS (Nat.le_of_ble_eq_true rfl) (Nat.le_of_ble_eq_true rfl) (lv_sub hl [2, 7] rfl)
set_option maxHeartbeats 4000000 in
set_option maxRecDepth 100000 in
theorem law_case_19 {p : Program} {l : Launch} {e : Env} {s : State} {m : MethodId} {below : List Frame} {meth : Method} {c : Code} {b : Nat} {sc : Nat → Int32} {A : Nat → Prop} {H : Heap} {locs : List Loc} {ls : Array Slot} {D : va_G} {e0 x xk xb xt xp xs xo xa mm mk9 mt mb o od : Nat} {cxp cxs co cod : ClassId} {g : Nat → Int32} (hl9 : l.stackTraces = false) (hx : p.tables.exec = Jvm.exec) (hb : c.code = cL_law) (hr : meth.sig.returnType = ret) (hlocks : meth.locks = false) (hX : va_X b 7 sc s s.heap) (hbl : b < s.heap.size) (hbA : ¬ A b) (hAs : ∀ q, A q → s.heap.size ≤ q) (hS : va_S A s.heap H locs) (hml : c.maxLocals = 10) (hown : s.vm.findClass RL = some m.cls) (hts0 : ∀ w ∈ lw_tbl, w.before #[Value.ref b] s = true) (hts : ∀ w ∈ wsL_law, w.before #[Value.ref b] s = true) (hA : ∀ q, s.heap.size ≤ q → A q) (hE : EV e0 A s s.heap) (hg : ∀ j, j < 36 → g j = -1) (hP : va_P D vwCl [(x, .inr (7, [.ref xk, .ref xb, .ref xo, .ref xa, .int 0, .int 0, .int 0, .int 0])), (xk, .inr (1, [.int 0, .ref e0, .int 0])), (xb, .inr (3, [.ref xt, .ref xp, .ref xs, .int 0])), (xt, .inr (1, [.int 0, .ref e0, .int 0])), (xp, .inl (cxp, 36, .inl (fun _ => 0))), (xs, .inl (cxs, 36, .inl g)), (xo, .inr (1, [.int 0, .ref e0, .int 0])), (xa, .inr (2, [.int 0, .int 0, .int 0, .null, .int 0, .double 0])), (mm, .inr (11, [.int 0, .ref mk9, .ref mt, .ref mb, .int 0, .int 0, .int 0, .int 0, .null, .int 0, .int 0, .double 0, .int 0, .int 0, .int 0])), (mk9, .inr (1, [.int 0, .ref e0, .int 0])), (mt, .inr (1, [.int 0, .ref e0, .int 0])), (mb, .inr (1, [.int 0, .ref e0, .int 0])), (o, .inl (co, 1, .inr (.inl (fun _ => 0)))), (od, .inl (cod, 1, .inr (.inr (.inr (.inl (fun _ => 0))))))] H) (hD : va_D A [(x, .inr (7, [.ref xk, .ref xb, .ref xo, .ref xa, .int 0, .int 0, .int 0, .int 0])), (xk, .inr (1, [.int 0, .ref e0, .int 0])), (xb, .inr (3, [.ref xt, .ref xp, .ref xs, .int 0])), (xt, .inr (1, [.int 0, .ref e0, .int 0])), (xp, .inl (cxp, 36, .inl (fun _ => 0))), (xs, .inl (cxs, 36, .inl g)), (xo, .inr (1, [.int 0, .ref e0, .int 0])), (xa, .inr (2, [.int 0, .int 0, .int 0, .null, .int 0, .double 0])), (mm, .inr (11, [.int 0, .ref mk9, .ref mt, .ref mb, .int 0, .int 0, .int 0, .int 0, .null, .int 0, .int 0, .double 0, .int 0, .int 0, .int 0])), (mk9, .inr (1, [.int 0, .ref e0, .int 0])), (mt, .inr (1, [.int 0, .ref e0, .int 0])), (mb, .inr (1, [.int 0, .ref e0, .int 0])), (o, .inl (co, 1, .inr (.inl (fun _ => 0)))), (od, .inl (cod, 1, .inr (.inr (.inr (.inl (fun _ => 0))))))]) (hK : va_K D vwCl [(cxp, .int), (cxs, .int), (co, .long), (cod, .double)] s) (hl : lv_has ls 10 [(5, .int 0), (4, .ref od), (3, .ref o), (2, .ref mm), (1, .ref x), (0, .ref b)]) : W p l e room_1 s m #[Value.ref b] below meth c H locs 14 125 (lw_Z below #[Value.ref b] s) (F0 m 1438 ls []) := by
  refine lv_aload_n hx hb dL_law_1438 rfl (lv_at hl 4 rfl) ?_
  refine lv_aload_n hx hb dL_law_1439 rfl (lv_at hl 5 rfl) ?_
  refine lv_iload hx hb dL_law_1440 (lv_at hl 0 rfl) ?_
  refine lv_iconst (v := 1) hx hb dL_law_1442 (by decide) ?_
  refine lv_iadd hx hb dL_law_1443 ?_
  refine lv_topi (fun x_1 ex_1 => ?_)
  obtain rfl : x_1 = 1 := ex_1.trans (by decide)
  refine va_sld hx hb hX hbl hbA hS (by unfold vp_in; decide) dL_law_1444 ?_
  refine lv_topi (fun x_2 ex_2 => ?_)
  obtain rfl : x_2 = sc 1 := ex_2.trans (congrArg sc (by decide))
  refine lv_aload_n hx hb dL_law_1445 rfl (lv_at hl 2 rfl) ?_
  refine kSW_i (As := [.ref x, .int (sc 1), .ref o]) (rest := []) (wr := [(xk, .inr (1, [.int 0, .ref e0, .int 0])), (xp, .inl (cxp, 36, .inl (fun _ => 0))), (xs, .inl (cxs, 36, .inl g)), (xo, .inr (1, [.int 0, .ref e0, .int 0])), (xa, .inr (2, [.int 0, .int 0, .int 0, .null, .int 0, .double 0])), (mm, .inr (11, [.int 0, .ref mk9, .ref mt, .ref mb, .int 0, .int 0, .int 0, .int 0, .null, .int 0, .int 0, .double 0, .int 0, .int 0, .int 0])), (mk9, .inr (1, [.int 0, .ref e0, .int 0])), (mt, .inr (1, [.int 0, .ref e0, .int 0])), (mb, .inr (1, [.int 0, .ref e0, .int 0])), (od, .inl (cod, 1, .inr (.inr (.inr (.inl (fun _ => 0))))))]) ⟨hx, hb, hml, hown, hts⟩ (c_w_ahead l hl9 D e0 _ x xk xb xo xa xt xp xs 0 o co (fun _ => 0) (sc 1)) (vx_cwSW 3 hts gL_law_L_ahead rfl rfl rfl (by decide +kernel) ⟨Nat.le_of_ble_eq_true rfl, Nat.le_of_ble_eq_true rfl⟩) hP hD hK hS hA hE rfl [0, 2, 3, 12] [1, 4, 5, 6, 7, 8, 9, 10, 11, 13] [2] rfl rfl (by decide) (by decide) (by decide) rfl rfl hl.1 (Nat.le_of_ble_eq_true rfl) dL_law_1446 ⟨Nat.le_of_ble_eq_true rfl, Nat.le_of_ble_eq_true rfl⟩ (fun r_3 u9 H locs hw hP hD hK hS => ?_)
  have hw : r_3 = 1 := hw
  subst hw
  have hP : va_P D vwCl [(xk, .inr (1, [.int 0, .ref e0, .int 0])), (xp, .inl (cxp, 36, .inl (fun _ => 0))), (xs, .inl (cxs, 36, .inl g)), (xo, .inr (1, [.int 0, .ref e0, .int 0])), (xa, .inr (2, [.int 0, .int 0, .int 0, .null, .int 0, .double 0])), (mm, .inr (11, [.int 0, .ref mk9, .ref mt, .ref mb, .int 0, .int 0, .int 0, .int 0, .null, .int 0, .int 0, .double 0, .int 0, .int 0, .int 0])), (mk9, .inr (1, [.int 0, .ref e0, .int 0])), (mt, .inr (1, [.int 0, .ref e0, .int 0])), (mb, .inr (1, [.int 0, .ref e0, .int 0])), (od, .inl (cod, 1, .inr (.inr (.inr (.inl (fun _ => 0))))))] H := hP
  have hD : va_D A [(xk, .inr (1, [.int 0, .ref e0, .int 0])), (xp, .inl (cxp, 36, .inl (fun _ => 0))), (xs, .inl (cxs, 36, .inl g)), (xo, .inr (1, [.int 0, .ref e0, .int 0])), (xa, .inr (2, [.int 0, .int 0, .int 0, .null, .int 0, .double 0])), (mm, .inr (11, [.int 0, .ref mk9, .ref mt, .ref mb, .int 0, .int 0, .int 0, .int 0, .null, .int 0, .int 0, .double 0, .int 0, .int 0, .int 0])), (mk9, .inr (1, [.int 0, .ref e0, .int 0])), (mt, .inr (1, [.int 0, .ref e0, .int 0])), (mb, .inr (1, [.int 0, .ref e0, .int 0])), (od, .inl (cod, 1, .inr (.inr (.inr (.inl (fun _ => 0))))))] := hD
  have hK : va_K D vwCl [(cxp, .int), (cxs, .int), (co, .long), (cod, .double)] s := hK
  refine lv_istore (lv' := [(6, .int 1), (5, .int 0), (4, .ref od), (3, .ref o), (2, .ref mm), (1, .ref x), (0, .ref b)]) hx hb dL_law_1449 hl (by decide) rfl (fun ls hl => ?_)
  refine lv_aload_n hx hb dL_law_1451 rfl (lv_at hl 4 rfl) ?_
  refine lv_aload_n hx hb dL_law_1452 rfl (lv_at hl 6 rfl) ?_
  refine lv_iload hx hb dL_law_1453 (lv_at hl 1 rfl) ?_
  refine lv_iconst (v := 1) hx hb dL_law_1455 (by decide) ?_
  refine lv_iadd hx hb dL_law_1456 ?_
  refine lv_topi (fun x_4 ex_4 => ?_)
  obtain rfl : x_4 = 1 := ex_4.trans (by decide)
  refine va_sld hx hb hX hbl hbA hS (by unfold vp_in; decide) dL_law_1457 ?_
  refine lv_topi (fun x_5 ex_5 => ?_)
  obtain rfl : x_5 = sc 1 := ex_5.trans (congrArg sc (by decide))
  refine kV_i (As := [.int (sc 1)]) (rest := []) (wr := [(xk, .inr (1, [.int 0, .ref e0, .int 0])), (xp, .inl (cxp, 36, .inl (fun _ => 0))), (xs, .inl (cxs, 36, .inl g)), (xo, .inr (1, [.int 0, .ref e0, .int 0])), (xa, .inr (2, [.int 0, .int 0, .int 0, .null, .int 0, .double 0])), (mk9, .inr (1, [.int 0, .ref e0, .int 0])), (mb, .inr (1, [.int 0, .ref e0, .int 0])), (od, .inl (cod, 1, .inr (.inr (.inr (.inl (fun _ => 0))))))]) ⟨hx, hb, hml, hown, hts⟩ (c_m_ahead l D e0 _ mm mk9 mt mb (sc 1)) (cwV 1 hts gL_law_X9_ahead rfl rfl rfl (by decide +kernel) ⟨Nat.le_of_ble_eq_true rfl, Nat.le_of_ble_eq_true rfl⟩) hP hD hK hS hA hE rfl [5, 7] [0, 1, 2, 3, 4, 6, 8, 9] [] rfl rfl (by decide) (by decide) (by decide) rfl 11 5 rfl rfl rfl rfl hl.1 (Nat.le_of_ble_eq_true rfl) dL_law_1458 ⟨Nat.le_of_ble_eq_true rfl, Nat.le_of_ble_eq_true rfl⟩ (fun r_6 u9 H locs hw hP hD hK hS => ?_)
  have hw : r_6 = 0 := hw
  subst hw
  have hP : va_P D vwCl [(xk, .inr (1, [.int 0, .ref e0, .int 0])), (xp, .inl (cxp, 36, .inl (fun _ => 0))), (xs, .inl (cxs, 36, .inl g)), (xo, .inr (1, [.int 0, .ref e0, .int 0])), (xa, .inr (2, [.int 0, .int 0, .int 0, .null, .int 0, .double 0])), (mk9, .inr (1, [.int 0, .ref e0, .int 0])), (mb, .inr (1, [.int 0, .ref e0, .int 0])), (od, .inl (cod, 1, .inr (.inr (.inr (.inl (fun _ => 0)))))), (mm, .inr (11, [.int 1, .ref mk9, .ref mt, .ref mb, .int 0, .int 0, .int 0, .int 0, .null, .int 0, .int 0, .double 0, .int 0, .int 0, .int 0]))] H := hP
  have hD : va_D A [(xk, .inr (1, [.int 0, .ref e0, .int 0])), (xp, .inl (cxp, 36, .inl (fun _ => 0))), (xs, .inl (cxs, 36, .inl g)), (xo, .inr (1, [.int 0, .ref e0, .int 0])), (xa, .inr (2, [.int 0, .int 0, .int 0, .null, .int 0, .double 0])), (mk9, .inr (1, [.int 0, .ref e0, .int 0])), (mb, .inr (1, [.int 0, .ref e0, .int 0])), (od, .inl (cod, 1, .inr (.inr (.inr (.inl (fun _ => 0)))))), (mm, .inr (11, [.int 1, .ref mk9, .ref mt, .ref mb, .int 0, .int 0, .int 0, .int 0, .null, .int 0, .int 0, .double 0, .int 0, .int 0, .int 0]))] := hD
  have hK : va_K D vwCl [(cxp, .int), (cxs, .int), (co, .long), (cod, .double)] s := hK
  refine lv_istore (lv' := [(7, .int 0), (6, .int 1), (5, .int 0), (4, .ref od), (3, .ref o), (2, .ref mm), (1, .ref x), (0, .ref b)]) hx hb dL_law_1461 hl (by decide) rfl (fun ls hl => ?_)
  refine lv_aload_n hx hb dL_law_1463 rfl (lv_at hl 5 rfl) ?_
  refine kV_i (As := []) (rest := []) (wr := [(xk, .inr (1, [.int 0, .ref e0, .int 0])), (xp, .inl (cxp, 36, .inl (fun _ => 0))), (xs, .inl (cxs, 36, .inl g)), (xo, .inr (1, [.int 0, .ref e0, .int 0])), (xa, .inr (2, [.int 0, .int 0, .int 0, .null, .int 0, .double 0])), (mk9, .inr (1, [.int 0, .ref e0, .int 0])), (mb, .inr (1, [.int 0, .ref e0, .int 0])), (od, .inl (cod, 1, .inr (.inr (.inr (.inl (fun _ => 0))))))]) ⟨hx, hb, hml, hown, hts⟩ (c_thrown l D e0 _ mm mk9 mt mb 1) (cwV 0 hts gL_law_X9_thrown rfl rfl rfl (by decide +kernel) ⟨Nat.le_of_ble_eq_true rfl, Nat.le_of_ble_eq_true rfl⟩) hP hD hK hS hA hE rfl [8] [0, 1, 2, 3, 4, 5, 6, 7] [] rfl rfl (by decide) (by decide) (by decide) rfl 11 8 rfl rfl rfl rfl hl.1 (Nat.le_of_ble_eq_true rfl) dL_law_1464 ⟨Nat.le_of_ble_eq_true rfl, Nat.le_of_ble_eq_true rfl⟩ (fun r_7 u9 H locs hw hP hD hK hS => ?_)
  have hw : r_7 = 1 := hw
  subst hw
  have hP : va_P D vwCl [(xk, .inr (1, [.int 0, .ref e0, .int 0])), (xp, .inl (cxp, 36, .inl (fun _ => 0))), (xs, .inl (cxs, 36, .inl g)), (xo, .inr (1, [.int 0, .ref e0, .int 0])), (xa, .inr (2, [.int 0, .int 0, .int 0, .null, .int 0, .double 0])), (mk9, .inr (1, [.int 0, .ref e0, .int 0])), (mb, .inr (1, [.int 0, .ref e0, .int 0])), (od, .inl (cod, 1, .inr (.inr (.inr (.inl (fun _ => 0)))))), (mm, .inr (11, [.int 1, .ref mk9, .ref mt, .ref mb, .int 0, .int 0, .int 0, .int 0, .null, .int 0, .int 0, .double 0, .int 0, .int 0, .int 0]))] H := hP
  have hD : va_D A [(xk, .inr (1, [.int 0, .ref e0, .int 0])), (xp, .inl (cxp, 36, .inl (fun _ => 0))), (xs, .inl (cxs, 36, .inl g)), (xo, .inr (1, [.int 0, .ref e0, .int 0])), (xa, .inr (2, [.int 0, .int 0, .int 0, .null, .int 0, .double 0])), (mk9, .inr (1, [.int 0, .ref e0, .int 0])), (mb, .inr (1, [.int 0, .ref e0, .int 0])), (od, .inl (cod, 1, .inr (.inr (.inr (.inl (fun _ => 0)))))), (mm, .inr (11, [.int 1, .ref mk9, .ref mt, .ref mb, .int 0, .int 0, .int 0, .int 0, .null, .int 0, .int 0, .double 0, .int 0, .int 0, .int 0]))] := hD
  have hK : va_K D vwCl [(cxp, .int), (cxs, .int), (co, .long), (cod, .double)] s := hK
  refine lv_iload hx hb dL_law_1467 (lv_at hl 1 rfl) ?_
  refine lv_icmp_eq (tgt := 1474) hx hb dL_law_1469 (by decide) (fun _ => ?_) (fun h9 => absurd (by decide) h9)
  refine lv_iload hx hb dL_law_1474 (lv_at hl 1 rfl) ?_
  refine lv_if_ne (tgt := 1491) hx hb dL_law_1476 (by decide) (fun _ => ?_) (fun h9 => absurd h9 (by decide))
  refine lv_goto (tgt := 1632) hx hb dL_law_1491 (by decide) ?_
  exact law_tail hx hb hr hlocks hX hbl hbA hAs hS (Nat.le_of_ble_eq_true rfl) (Nat.le_of_ble_eq_true rfl) (lv_sub hl [2, 7] rfl)
set_option maxHeartbeats 4000000 in
set_option maxRecDepth 100000 in
theorem law_case_20 {p : Program} {l : Launch} {e : Env} {s : State} {m : MethodId} {below : List Frame} {meth : Method} {c : Code} {b : Nat} {sc : Nat → Int32} {A : Nat → Prop} {H : Heap} {locs : List Loc} {ls : Array Slot} {D : va_G} {e0 x xk xb xt xp xs xo xa mm mk9 mt mb o od : Nat} {cxp cxs co cod : ClassId} {g : Nat → Int32} (hl9 : l.stackTraces = false) (hx : p.tables.exec = Jvm.exec) (hb : c.code = cL_law) (hr : meth.sig.returnType = ret) (hlocks : meth.locks = false) (hX : va_X b 7 sc s s.heap) (hbl : b < s.heap.size) (hbA : ¬ A b) (hAs : ∀ q, A q → s.heap.size ≤ q) (hS : va_S A s.heap H locs) (hml : c.maxLocals = 10) (hown : s.vm.findClass RL = some m.cls) (hts0 : ∀ w ∈ lw_tbl, w.before #[Value.ref b] s = true) (hts : ∀ w ∈ wsL_law, w.before #[Value.ref b] s = true) (hA : ∀ q, s.heap.size ≤ q → A q) (hE : EV e0 A s s.heap) (hg : ∀ j, j < 36 → g j = -1) (hP : va_P D vwCl [(x, .inr (7, [.ref xk, .ref xb, .ref xo, .ref xa, .int 0, .int 0, .int 0, .int 0])), (xk, .inr (1, [.int 0, .ref e0, .int 0])), (xb, .inr (3, [.ref xt, .ref xp, .ref xs, .int 0])), (xt, .inr (1, [.int 0, .ref e0, .int 0])), (xp, .inl (cxp, 36, .inl (fun _ => 0))), (xs, .inl (cxs, 36, .inl g)), (xo, .inr (1, [.int 0, .ref e0, .int 0])), (xa, .inr (2, [.int 0, .int 0, .int 0, .null, .int 0, .double 0])), (mm, .inr (11, [.int 0, .ref mk9, .ref mt, .ref mb, .int 0, .int 0, .int 0, .int 0, .null, .int 0, .int 0, .double 0, .int 0, .int 0, .int 0])), (mk9, .inr (1, [.int 0, .ref e0, .int 0])), (mt, .inr (1, [.int 0, .ref e0, .int 0])), (mb, .inr (1, [.int 0, .ref e0, .int 0])), (o, .inl (co, 1, .inr (.inl (fun _ => 0)))), (od, .inl (cod, 1, .inr (.inr (.inr (.inl (fun _ => 0))))))] H) (hD : va_D A [(x, .inr (7, [.ref xk, .ref xb, .ref xo, .ref xa, .int 0, .int 0, .int 0, .int 0])), (xk, .inr (1, [.int 0, .ref e0, .int 0])), (xb, .inr (3, [.ref xt, .ref xp, .ref xs, .int 0])), (xt, .inr (1, [.int 0, .ref e0, .int 0])), (xp, .inl (cxp, 36, .inl (fun _ => 0))), (xs, .inl (cxs, 36, .inl g)), (xo, .inr (1, [.int 0, .ref e0, .int 0])), (xa, .inr (2, [.int 0, .int 0, .int 0, .null, .int 0, .double 0])), (mm, .inr (11, [.int 0, .ref mk9, .ref mt, .ref mb, .int 0, .int 0, .int 0, .int 0, .null, .int 0, .int 0, .double 0, .int 0, .int 0, .int 0])), (mk9, .inr (1, [.int 0, .ref e0, .int 0])), (mt, .inr (1, [.int 0, .ref e0, .int 0])), (mb, .inr (1, [.int 0, .ref e0, .int 0])), (o, .inl (co, 1, .inr (.inl (fun _ => 0)))), (od, .inl (cod, 1, .inr (.inr (.inr (.inl (fun _ => 0))))))]) (hK : va_K D vwCl [(cxp, .int), (cxs, .int), (co, .long), (cod, .double)] s) (hl : lv_has ls 10 [(5, .int 0), (4, .ref od), (3, .ref o), (2, .ref mm), (1, .ref x), (0, .ref b)]) : W p l e room_1 s m #[Value.ref b] below meth c H locs 14 125 (lw_Z below #[Value.ref b] s) (F0 m 1494 ls []) := by
  refine lv_aload_n hx hb dL_law_1494 rfl (lv_at hl 4 rfl) ?_
  refine lv_aload_n hx hb dL_law_1495 rfl (lv_at hl 5 rfl) ?_
  refine lv_iload hx hb dL_law_1496 (lv_at hl 0 rfl) ?_
  refine lv_iconst (v := 1) hx hb dL_law_1498 (by decide) ?_
  refine lv_iadd hx hb dL_law_1499 ?_
  refine lv_topi (fun x_1 ex_1 => ?_)
  obtain rfl : x_1 = 1 := ex_1.trans (by decide)
  refine va_sld hx hb hX hbl hbA hS (by unfold vp_in; decide) dL_law_1500 ?_
  refine lv_topi (fun x_2 ex_2 => ?_)
  obtain rfl : x_2 = sc 1 := ex_2.trans (congrArg sc (by decide))
  refine lv_aload_n hx hb dL_law_1501 rfl (lv_at hl 2 rfl) ?_
  refine kSW_i (As := [.ref x, .int (sc 1), .ref o]) (rest := []) (wr := [(xb, .inr (3, [.ref xt, .ref xp, .ref xs, .int 0])), (xt, .inr (1, [.int 0, .ref e0, .int 0])), (xp, .inl (cxp, 36, .inl (fun _ => 0))), (xs, .inl (cxs, 36, .inl g)), (xo, .inr (1, [.int 0, .ref e0, .int 0])), (xa, .inr (2, [.int 0, .int 0, .int 0, .null, .int 0, .double 0])), (mm, .inr (11, [.int 0, .ref mk9, .ref mt, .ref mb, .int 0, .int 0, .int 0, .int 0, .null, .int 0, .int 0, .double 0, .int 0, .int 0, .int 0])), (mk9, .inr (1, [.int 0, .ref e0, .int 0])), (mt, .inr (1, [.int 0, .ref e0, .int 0])), (mb, .inr (1, [.int 0, .ref e0, .int 0])), (od, .inl (cod, 1, .inr (.inr (.inr (.inl (fun _ => 0))))))]) ⟨hx, hb, hml, hown, hts⟩ (c_w_next l hl9 D e0 _ x xk xb xo xa 0 o co (fun _ => 0) (sc 1)) (vx_cwSW 3 hts gL_law_L_next rfl rfl rfl (by decide +kernel) ⟨Nat.le_of_ble_eq_true rfl, Nat.le_of_ble_eq_true rfl⟩) hP hD hK hS hA hE rfl [0, 1, 12] [2, 3, 4, 5, 6, 7, 8, 9, 10, 11, 13] [2] rfl rfl (by decide) (by decide) (by decide) rfl rfl hl.1 (Nat.le_of_ble_eq_true rfl) dL_law_1502 ⟨Nat.le_of_ble_eq_true rfl, Nat.le_of_ble_eq_true rfl⟩ (fun r_3 u9 H locs hw hP hD hK hS => ?_)
  have hw : r_3 = 1 := hw
  subst hw
  have hP : va_P D vwCl [(xb, .inr (3, [.ref xt, .ref xp, .ref xs, .int 0])), (xt, .inr (1, [.int 0, .ref e0, .int 0])), (xp, .inl (cxp, 36, .inl (fun _ => 0))), (xs, .inl (cxs, 36, .inl g)), (xo, .inr (1, [.int 0, .ref e0, .int 0])), (xa, .inr (2, [.int 0, .int 0, .int 0, .null, .int 0, .double 0])), (mm, .inr (11, [.int 0, .ref mk9, .ref mt, .ref mb, .int 0, .int 0, .int 0, .int 0, .null, .int 0, .int 0, .double 0, .int 0, .int 0, .int 0])), (mk9, .inr (1, [.int 0, .ref e0, .int 0])), (mt, .inr (1, [.int 0, .ref e0, .int 0])), (mb, .inr (1, [.int 0, .ref e0, .int 0])), (od, .inl (cod, 1, .inr (.inr (.inr (.inl (fun _ => 0))))))] H := hP
  have hD : va_D A [(xb, .inr (3, [.ref xt, .ref xp, .ref xs, .int 0])), (xt, .inr (1, [.int 0, .ref e0, .int 0])), (xp, .inl (cxp, 36, .inl (fun _ => 0))), (xs, .inl (cxs, 36, .inl g)), (xo, .inr (1, [.int 0, .ref e0, .int 0])), (xa, .inr (2, [.int 0, .int 0, .int 0, .null, .int 0, .double 0])), (mm, .inr (11, [.int 0, .ref mk9, .ref mt, .ref mb, .int 0, .int 0, .int 0, .int 0, .null, .int 0, .int 0, .double 0, .int 0, .int 0, .int 0])), (mk9, .inr (1, [.int 0, .ref e0, .int 0])), (mt, .inr (1, [.int 0, .ref e0, .int 0])), (mb, .inr (1, [.int 0, .ref e0, .int 0])), (od, .inl (cod, 1, .inr (.inr (.inr (.inl (fun _ => 0))))))] := hD
  have hK : va_K D vwCl [(cxp, .int), (cxs, .int), (co, .long), (cod, .double)] s := hK
  refine lv_istore (lv' := [(6, .int 1), (5, .int 0), (4, .ref od), (3, .ref o), (2, .ref mm), (1, .ref x), (0, .ref b)]) hx hb dL_law_1505 hl (by decide) rfl (fun ls hl => ?_)
  refine lv_aload_n hx hb dL_law_1507 rfl (lv_at hl 4 rfl) ?_
  refine lv_aload_n hx hb dL_law_1508 rfl (lv_at hl 6 rfl) ?_
  refine lv_iload hx hb dL_law_1509 (lv_at hl 1 rfl) ?_
  refine lv_iconst (v := 1) hx hb dL_law_1511 (by decide) ?_
  refine lv_iadd hx hb dL_law_1512 ?_
  refine lv_topi (fun x_4 ex_4 => ?_)
  obtain rfl : x_4 = 1 := ex_4.trans (by decide)
  refine va_sld hx hb hX hbl hbA hS (by unfold vp_in; decide) dL_law_1513 ?_
  refine lv_topi (fun x_5 ex_5 => ?_)
  obtain rfl : x_5 = sc 1 := ex_5.trans (congrArg sc (by decide))
  refine kV_i (As := [.int (sc 1)]) (rest := []) (wr := [(xb, .inr (3, [.ref xt, .ref xp, .ref xs, .int 0])), (xt, .inr (1, [.int 0, .ref e0, .int 0])), (xp, .inl (cxp, 36, .inl (fun _ => 0))), (xs, .inl (cxs, 36, .inl g)), (xo, .inr (1, [.int 0, .ref e0, .int 0])), (xa, .inr (2, [.int 0, .int 0, .int 0, .null, .int 0, .double 0])), (mt, .inr (1, [.int 0, .ref e0, .int 0])), (mb, .inr (1, [.int 0, .ref e0, .int 0])), (od, .inl (cod, 1, .inr (.inr (.inr (.inl (fun _ => 0))))))]) ⟨hx, hb, hml, hown, hts⟩ (c_m_next l D e0 _ mm mk9 mt mb (sc 1)) (cwV 1 hts gL_law_X9_next rfl rfl rfl (by decide +kernel) ⟨Nat.le_of_ble_eq_true rfl, Nat.le_of_ble_eq_true rfl⟩) hP hD hK hS hA hE rfl [6, 7] [0, 1, 2, 3, 4, 5, 8, 9, 10] [] rfl rfl (by decide) (by decide) (by decide) rfl 11 6 rfl rfl rfl rfl hl.1 (Nat.le_of_ble_eq_true rfl) dL_law_1514 ⟨Nat.le_of_ble_eq_true rfl, Nat.le_of_ble_eq_true rfl⟩ (fun r_6 u9 H locs hw hP hD hK hS => ?_)
  have hw : r_6 = 0 := hw
  subst hw
  have hP : va_P D vwCl [(xb, .inr (3, [.ref xt, .ref xp, .ref xs, .int 0])), (xt, .inr (1, [.int 0, .ref e0, .int 0])), (xp, .inl (cxp, 36, .inl (fun _ => 0))), (xs, .inl (cxs, 36, .inl g)), (xo, .inr (1, [.int 0, .ref e0, .int 0])), (xa, .inr (2, [.int 0, .int 0, .int 0, .null, .int 0, .double 0])), (mt, .inr (1, [.int 0, .ref e0, .int 0])), (mb, .inr (1, [.int 0, .ref e0, .int 0])), (od, .inl (cod, 1, .inr (.inr (.inr (.inl (fun _ => 0)))))), (mm, .inr (11, [.int 1, .ref mk9, .ref mt, .ref mb, .int 0, .int 0, .int 0, .int 0, .null, .int 0, .int 0, .double 0, .int 0, .int 0, .int 0]))] H := hP
  have hD : va_D A [(xb, .inr (3, [.ref xt, .ref xp, .ref xs, .int 0])), (xt, .inr (1, [.int 0, .ref e0, .int 0])), (xp, .inl (cxp, 36, .inl (fun _ => 0))), (xs, .inl (cxs, 36, .inl g)), (xo, .inr (1, [.int 0, .ref e0, .int 0])), (xa, .inr (2, [.int 0, .int 0, .int 0, .null, .int 0, .double 0])), (mt, .inr (1, [.int 0, .ref e0, .int 0])), (mb, .inr (1, [.int 0, .ref e0, .int 0])), (od, .inl (cod, 1, .inr (.inr (.inr (.inl (fun _ => 0)))))), (mm, .inr (11, [.int 1, .ref mk9, .ref mt, .ref mb, .int 0, .int 0, .int 0, .int 0, .null, .int 0, .int 0, .double 0, .int 0, .int 0, .int 0]))] := hD
  have hK : va_K D vwCl [(cxp, .int), (cxs, .int), (co, .long), (cod, .double)] s := hK
  refine lv_istore (lv' := [(7, .int 0), (6, .int 1), (5, .int 0), (4, .ref od), (3, .ref o), (2, .ref mm), (1, .ref x), (0, .ref b)]) hx hb dL_law_1517 hl (by decide) rfl (fun ls hl => ?_)
  refine lv_aload_n hx hb dL_law_1519 rfl (lv_at hl 5 rfl) ?_
  refine kV_i (As := []) (rest := []) (wr := [(xb, .inr (3, [.ref xt, .ref xp, .ref xs, .int 0])), (xt, .inr (1, [.int 0, .ref e0, .int 0])), (xp, .inl (cxp, 36, .inl (fun _ => 0))), (xs, .inl (cxs, 36, .inl g)), (xo, .inr (1, [.int 0, .ref e0, .int 0])), (xa, .inr (2, [.int 0, .int 0, .int 0, .null, .int 0, .double 0])), (mt, .inr (1, [.int 0, .ref e0, .int 0])), (mb, .inr (1, [.int 0, .ref e0, .int 0])), (od, .inl (cod, 1, .inr (.inr (.inr (.inl (fun _ => 0))))))]) ⟨hx, hb, hml, hown, hts⟩ (c_thrown l D e0 _ mm mk9 mt mb 1) (cwV 0 hts gL_law_X9_thrown rfl rfl rfl (by decide +kernel) ⟨Nat.le_of_ble_eq_true rfl, Nat.le_of_ble_eq_true rfl⟩) hP hD hK hS hA hE rfl [9] [0, 1, 2, 3, 4, 5, 6, 7, 8] [] rfl rfl (by decide) (by decide) (by decide) rfl 11 9 rfl rfl rfl rfl hl.1 (Nat.le_of_ble_eq_true rfl) dL_law_1520 ⟨Nat.le_of_ble_eq_true rfl, Nat.le_of_ble_eq_true rfl⟩ (fun r_7 u9 H locs hw hP hD hK hS => ?_)
  have hw : r_7 = 1 := hw
  subst hw
  have hP : va_P D vwCl [(xb, .inr (3, [.ref xt, .ref xp, .ref xs, .int 0])), (xt, .inr (1, [.int 0, .ref e0, .int 0])), (xp, .inl (cxp, 36, .inl (fun _ => 0))), (xs, .inl (cxs, 36, .inl g)), (xo, .inr (1, [.int 0, .ref e0, .int 0])), (xa, .inr (2, [.int 0, .int 0, .int 0, .null, .int 0, .double 0])), (mt, .inr (1, [.int 0, .ref e0, .int 0])), (mb, .inr (1, [.int 0, .ref e0, .int 0])), (od, .inl (cod, 1, .inr (.inr (.inr (.inl (fun _ => 0)))))), (mm, .inr (11, [.int 1, .ref mk9, .ref mt, .ref mb, .int 0, .int 0, .int 0, .int 0, .null, .int 0, .int 0, .double 0, .int 0, .int 0, .int 0]))] H := hP
  have hD : va_D A [(xb, .inr (3, [.ref xt, .ref xp, .ref xs, .int 0])), (xt, .inr (1, [.int 0, .ref e0, .int 0])), (xp, .inl (cxp, 36, .inl (fun _ => 0))), (xs, .inl (cxs, 36, .inl g)), (xo, .inr (1, [.int 0, .ref e0, .int 0])), (xa, .inr (2, [.int 0, .int 0, .int 0, .null, .int 0, .double 0])), (mt, .inr (1, [.int 0, .ref e0, .int 0])), (mb, .inr (1, [.int 0, .ref e0, .int 0])), (od, .inl (cod, 1, .inr (.inr (.inr (.inl (fun _ => 0)))))), (mm, .inr (11, [.int 1, .ref mk9, .ref mt, .ref mb, .int 0, .int 0, .int 0, .int 0, .null, .int 0, .int 0, .double 0, .int 0, .int 0, .int 0]))] := hD
  have hK : va_K D vwCl [(cxp, .int), (cxs, .int), (co, .long), (cod, .double)] s := hK
  refine lv_iload hx hb dL_law_1523 (lv_at hl 1 rfl) ?_
  refine lv_icmp_eq (tgt := 1530) hx hb dL_law_1525 (by decide) (fun _ => ?_) (fun h9 => absurd (by decide) h9)
  refine lv_iload hx hb dL_law_1530 (lv_at hl 1 rfl) ?_
  refine lv_if_ne (tgt := 1547) hx hb dL_law_1532 (by decide) (fun _ => ?_) (fun h9 => absurd h9 (by decide))
  refine lv_goto (tgt := 1632) hx hb dL_law_1547 (by decide) ?_
  exact law_tail hx hb hr hlocks hX hbl hbA hAs hS (Nat.le_of_ble_eq_true rfl) (Nat.le_of_ble_eq_true rfl) (lv_sub hl [2, 7] rfl)
set_option maxHeartbeats 4000000 in
set_option maxRecDepth 100000 in
theorem law_case_21 {p : Program} {l : Launch} {e : Env} {s : State} {m : MethodId} {below : List Frame} {meth : Method} {c : Code} {b : Nat} {sc : Nat → Int32} {A : Nat → Prop} {H : Heap} {locs : List Loc} {ls : Array Slot} {D : va_G} {e0 x xk xb xt xp xs xo xa mm mk9 mt mb o od : Nat} {cxp cxs co cod : ClassId} {g : Nat → Int32} (hl9 : l.stackTraces = false) (hx : p.tables.exec = Jvm.exec) (hb : c.code = cL_law) (hr : meth.sig.returnType = ret) (hlocks : meth.locks = false) (hX : va_X b 7 sc s s.heap) (hbl : b < s.heap.size) (hbA : ¬ A b) (hAs : ∀ q, A q → s.heap.size ≤ q) (hS : va_S A s.heap H locs) (hml : c.maxLocals = 10) (hown : s.vm.findClass RL = some m.cls) (hts0 : ∀ w ∈ lw_tbl, w.before #[Value.ref b] s = true) (hts : ∀ w ∈ wsL_law, w.before #[Value.ref b] s = true) (hA : ∀ q, s.heap.size ≤ q → A q) (hE : EV e0 A s s.heap) (hg : ∀ j, j < 36 → g j = -1) (hP : va_P D vwCl [(x, .inr (7, [.ref xk, .ref xb, .ref xo, .ref xa, .int 0, .int 0, .int 0, .int 0])), (xk, .inr (1, [.int 0, .ref e0, .int 0])), (xb, .inr (3, [.ref xt, .ref xp, .ref xs, .int 0])), (xt, .inr (1, [.int 0, .ref e0, .int 0])), (xp, .inl (cxp, 36, .inl (fun _ => 0))), (xs, .inl (cxs, 36, .inl g)), (xo, .inr (1, [.int 0, .ref e0, .int 0])), (xa, .inr (2, [.int 0, .int 0, .int 0, .null, .int 0, .double 0])), (mm, .inr (11, [.int 0, .ref mk9, .ref mt, .ref mb, .int 0, .int 0, .int 0, .int 0, .null, .int 0, .int 0, .double 0, .int 0, .int 0, .int 0])), (mk9, .inr (1, [.int 0, .ref e0, .int 0])), (mt, .inr (1, [.int 0, .ref e0, .int 0])), (mb, .inr (1, [.int 0, .ref e0, .int 0])), (o, .inl (co, 1, .inr (.inl (fun _ => 0)))), (od, .inl (cod, 1, .inr (.inr (.inr (.inl (fun _ => 0))))))] H) (hD : va_D A [(x, .inr (7, [.ref xk, .ref xb, .ref xo, .ref xa, .int 0, .int 0, .int 0, .int 0])), (xk, .inr (1, [.int 0, .ref e0, .int 0])), (xb, .inr (3, [.ref xt, .ref xp, .ref xs, .int 0])), (xt, .inr (1, [.int 0, .ref e0, .int 0])), (xp, .inl (cxp, 36, .inl (fun _ => 0))), (xs, .inl (cxs, 36, .inl g)), (xo, .inr (1, [.int 0, .ref e0, .int 0])), (xa, .inr (2, [.int 0, .int 0, .int 0, .null, .int 0, .double 0])), (mm, .inr (11, [.int 0, .ref mk9, .ref mt, .ref mb, .int 0, .int 0, .int 0, .int 0, .null, .int 0, .int 0, .double 0, .int 0, .int 0, .int 0])), (mk9, .inr (1, [.int 0, .ref e0, .int 0])), (mt, .inr (1, [.int 0, .ref e0, .int 0])), (mb, .inr (1, [.int 0, .ref e0, .int 0])), (o, .inl (co, 1, .inr (.inl (fun _ => 0)))), (od, .inl (cod, 1, .inr (.inr (.inr (.inl (fun _ => 0))))))]) (hK : va_K D vwCl [(cxp, .int), (cxs, .int), (co, .long), (cod, .double)] s) (hl : lv_has ls 10 [(5, .int 0), (4, .ref od), (3, .ref o), (2, .ref mm), (1, .ref x), (0, .ref b)]) : W p l e room_1 s m #[Value.ref b] below meth c H locs 14 125 (lw_Z below #[Value.ref b] s) (F0 m 1550 ls []) := by
  refine lv_aload_n hx hb dL_law_1550 rfl (lv_at hl 4 rfl) ?_
  refine lv_aload_n hx hb dL_law_1551 rfl (lv_at hl 5 rfl) ?_
  refine lv_iload hx hb dL_law_1552 (lv_at hl 0 rfl) ?_
  refine lv_iconst (v := 1) hx hb dL_law_1554 (by decide) ?_
  refine lv_iadd hx hb dL_law_1555 ?_
  refine lv_topi (fun x_1 ex_1 => ?_)
  obtain rfl : x_1 = 1 := ex_1.trans (by decide)
  refine va_sld hx hb hX hbl hbA hS (by unfold vp_in; decide) dL_law_1556 ?_
  refine lv_topi (fun x_2 ex_2 => ?_)
  obtain rfl : x_2 = sc 1 := ex_2.trans (congrArg sc (by decide))
  refine lv_aload_n hx hb dL_law_1557 rfl (lv_at hl 5 rfl) ?_
  refine lv_iload hx hb dL_law_1558 (lv_at hl 0 rfl) ?_
  refine lv_iconst (v := 2) hx hb dL_law_1560 (by decide) ?_
  refine lv_iadd hx hb dL_law_1561 ?_
  refine lv_topi (fun x_3 ex_3 => ?_)
  obtain rfl : x_3 = 2 := ex_3.trans (by decide)
  refine va_sld hx hb hX hbl hbA hS (by unfold vp_in; decide) dL_law_1562 ?_
  refine lv_topi (fun x_4 ex_4 => ?_)
  obtain rfl : x_4 = sc 2 := ex_4.trans (congrArg sc (by decide))
  refine lv_aload_n hx hb dL_law_1563 rfl (lv_at hl 2 rfl) ?_
  refine kSW_i (As := [.ref x, .int (sc 1), .int (sc 2), .ref o]) (rest := []) (wr := [(xk, .inr (1, [.int 0, .ref e0, .int 0])), (xp, .inl (cxp, 36, .inl (fun _ => 0))), (xs, .inl (cxs, 36, .inl g)), (xo, .inr (1, [.int 0, .ref e0, .int 0])), (xa, .inr (2, [.int 0, .int 0, .int 0, .null, .int 0, .double 0])), (mm, .inr (11, [.int 0, .ref mk9, .ref mt, .ref mb, .int 0, .int 0, .int 0, .int 0, .null, .int 0, .int 0, .double 0, .int 0, .int 0, .int 0])), (mk9, .inr (1, [.int 0, .ref e0, .int 0])), (mt, .inr (1, [.int 0, .ref e0, .int 0])), (mb, .inr (1, [.int 0, .ref e0, .int 0])), (od, .inl (cod, 1, .inr (.inr (.inr (.inl (fun _ => 0))))))]) ⟨hx, hb, hml, hown, hts⟩ (c_w_wouldFit l hl9 D e0 _ x xk xb xo xa xt xp xs 0 o co (fun _ => 0) (sc 1) (sc 2)) (vx_cwSW 4 hts gL_law_L_wouldFit rfl rfl rfl (by decide +kernel) ⟨Nat.le_of_ble_eq_true rfl, Nat.le_of_ble_eq_true rfl⟩) hP hD hK hS hA hE rfl [0, 2, 3, 12] [1, 4, 5, 6, 7, 8, 9, 10, 11, 13] [2] rfl rfl (by decide) (by decide) (by decide) rfl rfl hl.1 (Nat.le_of_ble_eq_true rfl) dL_law_1564 ⟨Nat.le_of_ble_eq_true rfl, Nat.le_of_ble_eq_true rfl⟩ (fun r_5 u9 H locs hw hP hD hK hS => ?_)
  have hw : r_5 = 1 := hw
  subst hw
  have hP : va_P D vwCl [(xk, .inr (1, [.int 0, .ref e0, .int 0])), (xp, .inl (cxp, 36, .inl (fun _ => 0))), (xs, .inl (cxs, 36, .inl g)), (xo, .inr (1, [.int 0, .ref e0, .int 0])), (xa, .inr (2, [.int 0, .int 0, .int 0, .null, .int 0, .double 0])), (mm, .inr (11, [.int 0, .ref mk9, .ref mt, .ref mb, .int 0, .int 0, .int 0, .int 0, .null, .int 0, .int 0, .double 0, .int 0, .int 0, .int 0])), (mk9, .inr (1, [.int 0, .ref e0, .int 0])), (mt, .inr (1, [.int 0, .ref e0, .int 0])), (mb, .inr (1, [.int 0, .ref e0, .int 0])), (od, .inl (cod, 1, .inr (.inr (.inr (.inl (fun _ => 0))))))] H := hP
  have hD : va_D A [(xk, .inr (1, [.int 0, .ref e0, .int 0])), (xp, .inl (cxp, 36, .inl (fun _ => 0))), (xs, .inl (cxs, 36, .inl g)), (xo, .inr (1, [.int 0, .ref e0, .int 0])), (xa, .inr (2, [.int 0, .int 0, .int 0, .null, .int 0, .double 0])), (mm, .inr (11, [.int 0, .ref mk9, .ref mt, .ref mb, .int 0, .int 0, .int 0, .int 0, .null, .int 0, .int 0, .double 0, .int 0, .int 0, .int 0])), (mk9, .inr (1, [.int 0, .ref e0, .int 0])), (mt, .inr (1, [.int 0, .ref e0, .int 0])), (mb, .inr (1, [.int 0, .ref e0, .int 0])), (od, .inl (cod, 1, .inr (.inr (.inr (.inl (fun _ => 0))))))] := hD
  have hK : va_K D vwCl [(cxp, .int), (cxs, .int), (co, .long), (cod, .double)] s := hK
  refine lv_istore (lv' := [(6, .int 1), (5, .int 0), (4, .ref od), (3, .ref o), (2, .ref mm), (1, .ref x), (0, .ref b)]) hx hb dL_law_1567 hl (by decide) rfl (fun ls hl => ?_)
  refine lv_aload_n hx hb dL_law_1569 rfl (lv_at hl 4 rfl) ?_
  refine lv_aload_n hx hb dL_law_1570 rfl (lv_at hl 6 rfl) ?_
  refine lv_iload hx hb dL_law_1571 (lv_at hl 1 rfl) ?_
  refine lv_iconst (v := 1) hx hb dL_law_1573 (by decide) ?_
  refine lv_iadd hx hb dL_law_1574 ?_
  refine lv_topi (fun x_6 ex_6 => ?_)
  obtain rfl : x_6 = 1 := ex_6.trans (by decide)
  refine va_sld hx hb hX hbl hbA hS (by unfold vp_in; decide) dL_law_1575 ?_
  refine lv_topi (fun x_7 ex_7 => ?_)
  obtain rfl : x_7 = sc 1 := ex_7.trans (congrArg sc (by decide))
  refine lv_aload_n hx hb dL_law_1576 rfl (lv_at hl 6 rfl) ?_
  refine lv_iload hx hb dL_law_1577 (lv_at hl 1 rfl) ?_
  refine lv_iconst (v := 2) hx hb dL_law_1579 (by decide) ?_
  refine lv_iadd hx hb dL_law_1580 ?_
  refine lv_topi (fun x_8 ex_8 => ?_)
  obtain rfl : x_8 = 2 := ex_8.trans (by decide)
  refine va_sld hx hb hX hbl hbA hS (by unfold vp_in; decide) dL_law_1581 ?_
  refine lv_topi (fun x_9 ex_9 => ?_)
  obtain rfl : x_9 = sc 2 := ex_9.trans (congrArg sc (by decide))
  refine kV_i (As := [.int (sc 1), .int (sc 2)]) (rest := []) (wr := [(xk, .inr (1, [.int 0, .ref e0, .int 0])), (xp, .inl (cxp, 36, .inl (fun _ => 0))), (xs, .inl (cxs, 36, .inl g)), (xo, .inr (1, [.int 0, .ref e0, .int 0])), (xa, .inr (2, [.int 0, .int 0, .int 0, .null, .int 0, .double 0])), (mk9, .inr (1, [.int 0, .ref e0, .int 0])), (mb, .inr (1, [.int 0, .ref e0, .int 0])), (od, .inl (cod, 1, .inr (.inr (.inr (.inl (fun _ => 0))))))]) ⟨hx, hb, hml, hown, hts⟩ (c_m_wouldFit l D e0 _ mm mk9 mt mb (sc 1) (sc 2)) (cwV 2 hts gL_law_X9_wouldFit rfl rfl rfl (by decide +kernel) ⟨Nat.le_of_ble_eq_true rfl, Nat.le_of_ble_eq_true rfl⟩) hP hD hK hS hA hE rfl [5, 7] [0, 1, 2, 3, 4, 6, 8, 9] [] rfl rfl (by decide) (by decide) (by decide) rfl 11 5 rfl rfl rfl rfl hl.1 (Nat.le_of_ble_eq_true rfl) dL_law_1582 ⟨Nat.le_of_ble_eq_true rfl, Nat.le_of_ble_eq_true rfl⟩ (fun r_10 u9 H locs hw hP hD hK hS => ?_)
  have hw : r_10 = 0 := hw
  subst hw
  have hP : va_P D vwCl [(xk, .inr (1, [.int 0, .ref e0, .int 0])), (xp, .inl (cxp, 36, .inl (fun _ => 0))), (xs, .inl (cxs, 36, .inl g)), (xo, .inr (1, [.int 0, .ref e0, .int 0])), (xa, .inr (2, [.int 0, .int 0, .int 0, .null, .int 0, .double 0])), (mk9, .inr (1, [.int 0, .ref e0, .int 0])), (mb, .inr (1, [.int 0, .ref e0, .int 0])), (od, .inl (cod, 1, .inr (.inr (.inr (.inl (fun _ => 0)))))), (mm, .inr (11, [.int 1, .ref mk9, .ref mt, .ref mb, .int 0, .int 0, .int 0, .int 0, .null, .int 0, .int 0, .double 0, .int 0, .int 0, .int 0]))] H := hP
  have hD : va_D A [(xk, .inr (1, [.int 0, .ref e0, .int 0])), (xp, .inl (cxp, 36, .inl (fun _ => 0))), (xs, .inl (cxs, 36, .inl g)), (xo, .inr (1, [.int 0, .ref e0, .int 0])), (xa, .inr (2, [.int 0, .int 0, .int 0, .null, .int 0, .double 0])), (mk9, .inr (1, [.int 0, .ref e0, .int 0])), (mb, .inr (1, [.int 0, .ref e0, .int 0])), (od, .inl (cod, 1, .inr (.inr (.inr (.inl (fun _ => 0)))))), (mm, .inr (11, [.int 1, .ref mk9, .ref mt, .ref mb, .int 0, .int 0, .int 0, .int 0, .null, .int 0, .int 0, .double 0, .int 0, .int 0, .int 0]))] := hD
  have hK : va_K D vwCl [(cxp, .int), (cxs, .int), (co, .long), (cod, .double)] s := hK
  refine lv_istore (lv' := [(7, .int 0), (6, .int 1), (5, .int 0), (4, .ref od), (3, .ref o), (2, .ref mm), (1, .ref x), (0, .ref b)]) hx hb dL_law_1585 hl (by decide) rfl (fun ls hl => ?_)
  refine lv_aload_n hx hb dL_law_1587 rfl (lv_at hl 5 rfl) ?_
  refine kV_i (As := []) (rest := []) (wr := [(xk, .inr (1, [.int 0, .ref e0, .int 0])), (xp, .inl (cxp, 36, .inl (fun _ => 0))), (xs, .inl (cxs, 36, .inl g)), (xo, .inr (1, [.int 0, .ref e0, .int 0])), (xa, .inr (2, [.int 0, .int 0, .int 0, .null, .int 0, .double 0])), (mk9, .inr (1, [.int 0, .ref e0, .int 0])), (mb, .inr (1, [.int 0, .ref e0, .int 0])), (od, .inl (cod, 1, .inr (.inr (.inr (.inl (fun _ => 0))))))]) ⟨hx, hb, hml, hown, hts⟩ (c_thrown l D e0 _ mm mk9 mt mb 1) (cwV 0 hts gL_law_X9_thrown rfl rfl rfl (by decide +kernel) ⟨Nat.le_of_ble_eq_true rfl, Nat.le_of_ble_eq_true rfl⟩) hP hD hK hS hA hE rfl [8] [0, 1, 2, 3, 4, 5, 6, 7] [] rfl rfl (by decide) (by decide) (by decide) rfl 11 8 rfl rfl rfl rfl hl.1 (Nat.le_of_ble_eq_true rfl) dL_law_1588 ⟨Nat.le_of_ble_eq_true rfl, Nat.le_of_ble_eq_true rfl⟩ (fun r_11 u9 H locs hw hP hD hK hS => ?_)
  have hw : r_11 = 1 := hw
  subst hw
  have hP : va_P D vwCl [(xk, .inr (1, [.int 0, .ref e0, .int 0])), (xp, .inl (cxp, 36, .inl (fun _ => 0))), (xs, .inl (cxs, 36, .inl g)), (xo, .inr (1, [.int 0, .ref e0, .int 0])), (xa, .inr (2, [.int 0, .int 0, .int 0, .null, .int 0, .double 0])), (mk9, .inr (1, [.int 0, .ref e0, .int 0])), (mb, .inr (1, [.int 0, .ref e0, .int 0])), (od, .inl (cod, 1, .inr (.inr (.inr (.inl (fun _ => 0)))))), (mm, .inr (11, [.int 1, .ref mk9, .ref mt, .ref mb, .int 0, .int 0, .int 0, .int 0, .null, .int 0, .int 0, .double 0, .int 0, .int 0, .int 0]))] H := hP
  have hD : va_D A [(xk, .inr (1, [.int 0, .ref e0, .int 0])), (xp, .inl (cxp, 36, .inl (fun _ => 0))), (xs, .inl (cxs, 36, .inl g)), (xo, .inr (1, [.int 0, .ref e0, .int 0])), (xa, .inr (2, [.int 0, .int 0, .int 0, .null, .int 0, .double 0])), (mk9, .inr (1, [.int 0, .ref e0, .int 0])), (mb, .inr (1, [.int 0, .ref e0, .int 0])), (od, .inl (cod, 1, .inr (.inr (.inr (.inl (fun _ => 0)))))), (mm, .inr (11, [.int 1, .ref mk9, .ref mt, .ref mb, .int 0, .int 0, .int 0, .int 0, .null, .int 0, .int 0, .double 0, .int 0, .int 0, .int 0]))] := hD
  have hK : va_K D vwCl [(cxp, .int), (cxs, .int), (co, .long), (cod, .double)] s := hK
  refine lv_iload hx hb dL_law_1591 (lv_at hl 1 rfl) ?_
  refine lv_icmp_eq (tgt := 1598) hx hb dL_law_1593 (by decide) (fun _ => ?_) (fun h9 => absurd (by decide) h9)
  refine lv_iload hx hb dL_law_1598 (lv_at hl 1 rfl) ?_
  refine lv_if_ne (tgt := 1615) hx hb dL_law_1600 (by decide) (fun _ => ?_) (fun h9 => absurd h9 (by decide))
  refine lv_goto (tgt := 1632) hx hb dL_law_1615 (by decide) ?_
  exact law_tail hx hb hr hlocks hX hbl hbA hAs hS (Nat.le_of_ble_eq_true rfl) (Nat.le_of_ble_eq_true rfl) (lv_sub hl [2, 7] rfl)
set_option maxHeartbeats 4000000 in
set_option maxRecDepth 100000 in
theorem law_case_22 {p : Program} {l : Launch} {e : Env} {s : State} {m : MethodId} {below : List Frame} {meth : Method} {c : Code} {b : Nat} {sc : Nat → Int32} {A : Nat → Prop} {H : Heap} {locs : List Loc} {ls : Array Slot} {D : va_G} {e0 x xk xb xt xp xs xo xa mm mk9 mt mb o od : Nat} {cxp cxs co cod : ClassId} {g : Nat → Int32} (hl9 : l.stackTraces = false) (hx : p.tables.exec = Jvm.exec) (hb : c.code = cL_law) (hr : meth.sig.returnType = ret) (hlocks : meth.locks = false) (hX : va_X b 7 sc s s.heap) (hbl : b < s.heap.size) (hbA : ¬ A b) (hAs : ∀ q, A q → s.heap.size ≤ q) (hS : va_S A s.heap H locs) (hml : c.maxLocals = 10) (hown : s.vm.findClass RL = some m.cls) (hts0 : ∀ w ∈ lw_tbl, w.before #[Value.ref b] s = true) (hts : ∀ w ∈ wsL_law, w.before #[Value.ref b] s = true) (hA : ∀ q, s.heap.size ≤ q → A q) (hE : EV e0 A s s.heap) (hg : ∀ j, j < 36 → g j = -1) (hP : va_P D vwCl [(x, .inr (7, [.ref xk, .ref xb, .ref xo, .ref xa, .int 0, .int 0, .int 0, .int 0])), (xk, .inr (1, [.int 0, .ref e0, .int 0])), (xb, .inr (3, [.ref xt, .ref xp, .ref xs, .int 0])), (xt, .inr (1, [.int 0, .ref e0, .int 0])), (xp, .inl (cxp, 36, .inl (fun _ => 0))), (xs, .inl (cxs, 36, .inl g)), (xo, .inr (1, [.int 0, .ref e0, .int 0])), (xa, .inr (2, [.int 0, .int 0, .int 0, .null, .int 0, .double 0])), (mm, .inr (11, [.int 0, .ref mk9, .ref mt, .ref mb, .int 0, .int 0, .int 0, .int 0, .null, .int 0, .int 0, .double 0, .int 0, .int 0, .int 0])), (mk9, .inr (1, [.int 0, .ref e0, .int 0])), (mt, .inr (1, [.int 0, .ref e0, .int 0])), (mb, .inr (1, [.int 0, .ref e0, .int 0])), (o, .inl (co, 1, .inr (.inl (fun _ => 0)))), (od, .inl (cod, 1, .inr (.inr (.inr (.inl (fun _ => 0))))))] H) (hD : va_D A [(x, .inr (7, [.ref xk, .ref xb, .ref xo, .ref xa, .int 0, .int 0, .int 0, .int 0])), (xk, .inr (1, [.int 0, .ref e0, .int 0])), (xb, .inr (3, [.ref xt, .ref xp, .ref xs, .int 0])), (xt, .inr (1, [.int 0, .ref e0, .int 0])), (xp, .inl (cxp, 36, .inl (fun _ => 0))), (xs, .inl (cxs, 36, .inl g)), (xo, .inr (1, [.int 0, .ref e0, .int 0])), (xa, .inr (2, [.int 0, .int 0, .int 0, .null, .int 0, .double 0])), (mm, .inr (11, [.int 0, .ref mk9, .ref mt, .ref mb, .int 0, .int 0, .int 0, .int 0, .null, .int 0, .int 0, .double 0, .int 0, .int 0, .int 0])), (mk9, .inr (1, [.int 0, .ref e0, .int 0])), (mt, .inr (1, [.int 0, .ref e0, .int 0])), (mb, .inr (1, [.int 0, .ref e0, .int 0])), (o, .inl (co, 1, .inr (.inl (fun _ => 0)))), (od, .inl (cod, 1, .inr (.inr (.inr (.inl (fun _ => 0))))))]) (hK : va_K D vwCl [(cxp, .int), (cxs, .int), (co, .long), (cod, .double)] s) (hl : lv_has ls 10 [(5, .int 0), (4, .ref od), (3, .ref o), (2, .ref mm), (1, .ref x), (0, .ref b)]) : W p l e room_1 s m #[Value.ref b] below meth c H locs 14 125 (lw_Z below #[Value.ref b] s) (F0 m 1618 ls []) := by
  refine lv_aload_n hx hb dL_law_1618 rfl (lv_at hl 4 rfl) ?_
  refine kV_l (As := []) (rest := []) (wr := [(xs, .inl (cxs, 36, .inl g)), (mm, .inr (11, [.int 0, .ref mk9, .ref mt, .ref mb, .int 0, .int 0, .int 0, .int 0, .null, .int 0, .int 0, .double 0, .int 0, .int 0, .int 0])), (mk9, .inr (1, [.int 0, .ref e0, .int 0])), (mt, .inr (1, [.int 0, .ref e0, .int 0])), (mb, .inr (1, [.int 0, .ref e0, .int 0])), (o, .inl (co, 1, .inr (.inl (fun _ => 0)))), (od, .inl (cod, 1, .inr (.inr (.inr (.inl (fun _ => 0))))))]) ⟨hx, hb, hml, hown, hts0⟩ (c_digest l hl9 D e0 _ x xk xb xo xa xt xp xs cxp 0) (cwV 0 hts0 gD_law_X5_digest rfl rfl rfl (by decide +kernel) ⟨Nat.le_of_ble_eq_true rfl, Nat.le_of_ble_eq_true rfl⟩) hP hD hK hS hA hE rfl [0, 1, 2, 3, 4, 6, 7] [5, 8, 9, 10, 11, 12, 13] [0] rfl rfl (by decide) (by decide) (by decide) rfl 7 0 rfl rfl rfl rfl hl.1 (Nat.le_of_ble_eq_true rfl) dL_law_1619 ⟨Nat.le_of_ble_eq_true rfl, Nat.le_of_ble_eq_true rfl⟩ (fun r_1 u9 H locs hw hP hD hK hS => ?_)
  have hw : r_1 = (-3127751602413055288) := hw
  subst hw
  have hP : va_P D vwCl [(xs, .inl (cxs, 36, .inl g)), (mm, .inr (11, [.int 0, .ref mk9, .ref mt, .ref mb, .int 0, .int 0, .int 0, .int 0, .null, .int 0, .int 0, .double 0, .int 0, .int 0, .int 0])), (mk9, .inr (1, [.int 0, .ref e0, .int 0])), (mt, .inr (1, [.int 0, .ref e0, .int 0])), (mb, .inr (1, [.int 0, .ref e0, .int 0])), (o, .inl (co, 1, .inr (.inl (fun _ => 0)))), (od, .inl (cod, 1, .inr (.inr (.inr (.inl (fun _ => 0))))))] H := hP
  have hD : va_D A [(xs, .inl (cxs, 36, .inl g)), (mm, .inr (11, [.int 0, .ref mk9, .ref mt, .ref mb, .int 0, .int 0, .int 0, .int 0, .null, .int 0, .int 0, .double 0, .int 0, .int 0, .int 0])), (mk9, .inr (1, [.int 0, .ref e0, .int 0])), (mt, .inr (1, [.int 0, .ref e0, .int 0])), (mb, .inr (1, [.int 0, .ref e0, .int 0])), (o, .inl (co, 1, .inr (.inl (fun _ => 0)))), (od, .inl (cod, 1, .inr (.inr (.inr (.inl (fun _ => 0))))))] := hD
  have hK : va_K D vwCl [(cxp, .int), (cxs, .int), (co, .long), (cod, .double)] s := hK
  refine lv_aload_n hx hb dL_law_1622 rfl (lv_at hl 3 rfl) ?_
  refine kV_l (As := []) (rest := [.long (-3127751602413055288)]) (wr := [(xs, .inl (cxs, 36, .inl g)), (o, .inl (co, 1, .inr (.inl (fun _ => 0)))), (od, .inl (cod, 1, .inr (.inr (.inr (.inl (fun _ => 0))))))]) ⟨hx, hb, hml, hown, hts0⟩ (c_m_digest l D e0 _ mm mk9 mt mb) (cwV 0 hts0 gD_law_X9_digest rfl rfl rfl (by decide +kernel) ⟨Nat.le_of_ble_eq_true rfl, Nat.le_of_ble_eq_true rfl⟩) hP hD hK hS hA hE rfl [1, 2, 3, 4] [0, 5, 6] [] rfl rfl (by decide) (by decide) (by decide) rfl 11 1 rfl rfl rfl rfl hl.1 (Nat.le_of_ble_eq_true rfl) dL_law_1623 ⟨Nat.le_of_ble_eq_true rfl, Nat.le_of_ble_eq_true rfl⟩ (fun r_2 u9 H locs hw hP hD hK hS => ?_)
  have hw : r_2 = (-3127751602413055288) := hw
  subst hw
  have hP : va_P D vwCl [(xs, .inl (cxs, 36, .inl g)), (o, .inl (co, 1, .inr (.inl (fun _ => 0)))), (od, .inl (cod, 1, .inr (.inr (.inr (.inl (fun _ => 0)))))), (mm, .inr (11, [.int 0, .ref mk9, .ref mt, .ref mb, .int 0, .int 0, .int 0, .int 0, .null, .int 0, .int 0, .double 0, .int 0, .int 0, .int 0]))] H := hP
  have hD : va_D A [(xs, .inl (cxs, 36, .inl g)), (o, .inl (co, 1, .inr (.inl (fun _ => 0)))), (od, .inl (cod, 1, .inr (.inr (.inr (.inl (fun _ => 0)))))), (mm, .inr (11, [.int 0, .ref mk9, .ref mt, .ref mb, .int 0, .int 0, .int 0, .int 0, .null, .int 0, .int 0, .double 0, .int 0, .int 0, .int 0]))] := hD
  have hK : va_K D vwCl [(cxp, .int), (cxs, .int), (co, .long), (cod, .double)] s := hK
  refine W.lcmp hx hb dL_law_1626 ?_
  refine lv_topi (fun x_3 ex_3 => ?_)
  obtain rfl : x_3 = 0 := ex_3.trans (by decide)
  refine lv_if_eq (tgt := 1632) hx hb dL_law_1627 (by decide) (fun _ => ?_) (fun h9 => absurd (by decide) h9)
  exact law_tail hx hb hr hlocks hX hbl hbA hAs hS (Nat.le_of_ble_eq_true rfl) (Nat.le_of_ble_eq_true rfl) (lv_sub hl [0, 5] rfl)
