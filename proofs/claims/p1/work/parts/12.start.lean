set_option maxHeartbeats 4000000 in
set_option maxRecDepth 100000 in
/-- THE LAW, from its entry -/
theorem whole_start {p : Program} {e : Env} {s : State} {m : MethodId} {below : List Frame} {meth : Method} {c : Code} (l : Launch) (hflags : l.flags = flags0) {b L : Nat} {sc : Nat → Int32} (hL : L ≤ 7) (C0 : lw_At p s m meth c b L sc) : W p l e room_1 s m #[Value.ref b] below meth c s.heap [] 0 0 (lw_Z below #[Value.ref b] s) (entryFrame m ([Value.ref b] : List Value).toArray 10) := by
  obtain ⟨hx, hb, hr, hml, hown, hts0, hX, hbl, hlocks, hgv⟩ := id C0
  have hts : ∀ w ∈ wsL_law, w.before #[Value.ref b] s = true := fun w h => hts0 w (wsL_law_in w h)
  have hl9 : l.stackTraces = false := by unfold Launch.stackTraces; rw [hflags]; decide
  obtain ⟨A, hAe⟩ : ∃ A : Nat → Prop, A = fun q => s.heap.size ≤ q := ⟨_, rfl⟩
  have hA : ∀ q, s.heap.size ≤ q → A q := fun q h => by rw [hAe]; exact h
  have hAs : ∀ q, A q → s.heap.size ≤ q := fun q h => by rw [hAe] at h; exact h
  have hbA : ¬ A b := fun h => absurd (hAs b h) (Nat.not_le.mpr hbl)
  obtain ⟨e0, hE⟩ := EV_at hts0 hgv
  rw [← hAe] at hE
  obtain ⟨c0, i0, hKn0⟩ := u_known (C := RJx35411) (T := TJx35411) (N := 4) (n := 4) hts inlJx35411 (hts (.instantiable RJx35411 4) (by decide +kernel))
  obtain ⟨c1, i1, hKn1⟩ := u_known (C := RJx4a65c) (T := TJx4a65c) (N := 3) (n := 3) hts inlJx4a65c (hts (.instantiable RJx4a65c 3) (by decide +kernel))
  obtain ⟨c2, i2, hKn2⟩ := u_known (C := RX0) (T := TX0) (N := 6) (n := 6) hts inlX0 (hts (.instantiable RX0 6) (by decide +kernel))
  obtain ⟨c3, i3, hKn3⟩ := u_known (C := RX1) (T := TX1) (N := 4) (n := 4) hts inlX1 (hts (.instantiable RX1 4) (by decide +kernel))
  obtain ⟨c4, i4, hKn4⟩ := u_known (C := RX2) (T := TX2) (N := 4) (n := 4) hts inlX2 (hts (.instantiable RX2 4) (by decide +kernel))
  obtain ⟨c5, i5, hKn5⟩ := u_known (C := RX3) (T := TX3) (N := 7) (n := 7) hts inlX3 (hts (.instantiable RX3 7) (by decide +kernel))
  obtain ⟨c6, i6, hKn6⟩ := u_known (C := RX4) (T := TX4) (N := 10) (n := 10) hts inlX4 (hts (.instantiable RX4 10) (by decide +kernel))
  obtain ⟨c7, i7, hKn7⟩ := u_known (C := RX5) (T := TX5) (N := 8) (n := 8) hts inlX5 (hts (.instantiable RX5 8) (by decide +kernel))
  obtain ⟨c8, i8, hKn8⟩ := u_known (C := RX6) (T := TX6) (N := 3) (n := 3) hts inlX6 (hts (.instantiable RX6 3) (by decide +kernel))
  obtain ⟨c9, i9, hKn9⟩ := u_known (C := RX7) (T := TX7) (N := 6) (n := 6) hts inlX7 (hts (.instantiable RX7 6) (by decide +kernel))
  obtain ⟨c10, i10, hKn10⟩ := u_known (C := RX8) (T := TX8) (N := 10) (n := 10) hts inlX8 (hts (.instantiable RX8 10) (by decide +kernel))
  obtain ⟨c11, i11, hKn11⟩ := u_known (C := RX9) (T := TX9) (N := 15) (n := 15) hts inlX9 (hts (.instantiable RX9 15) (by decide +kernel))
  obtain ⟨D, hKc⟩ : ∃ D : va_G, ∀ (k : Nat) (q : vw_C), vwCl[k]? = some q → u_Kn s q.1 q.2.1 q.2.2 (D.1 k) (D.2 k) := by
    refine ⟨(fun k => match k with | 0 => c0 | 1 => c1 | 2 => c2 | 3 => c3 | 4 => c4 | 5 => c5 | 6 => c6 | 7 => c7 | 8 => c8 | 9 => c9 | 10 => c10 | _ => c11, fun k => match k with | 0 => i0 | 1 => i1 | 2 => i2 | 3 => i3 | 4 => i4 | 5 => i5 | 6 => i6 | 7 => i7 | 8 => i8 | 9 => i9 | 10 => i10 | _ => i11), ?_⟩
    intro k q hq
    match k, hq with
    | 0, hq => cases hq; exact hKn0
    | 1, hq => cases hq; exact hKn1
    | 2, hq => cases hq; exact hKn2
    | 3, hq => cases hq; exact hKn3
    | 4, hq => cases hq; exact hKn4
    | 5, hq => cases hq; exact hKn5
    | 6, hq => cases hq; exact hKn6
    | 7, hq => cases hq; exact hKn7
    | 8, hq => cases hq; exact hKn8
    | 9, hq => cases hq; exact hKn9
    | 10, hq => cases hq; exact hKn10
    | 11, hq => cases hq; exact hKn11
    | k + 12, hq => simp [vwCl] at hq
  have hS : va_S A s.heap s.heap [] := va_S.rf
  have hK : va_K D vwCl [] s := ⟨hKc, fun k q h => by simp at h⟩
  have hP : va_P D vwCl [] s.heap := fun k q h => by simp at h
  have hD : va_D A [] := ⟨fun i j p q h => by simp at h, fun k q h => by simp at h⟩
  have hl := lv_entry ([.ref b]) (n := 10) (Nat.le_of_ble_eq_true rfl)
  rw [lg_entry_eq]
  generalize (lg_sl ([.ref b]) ++ List.replicate (10 - (lg_sl ([.ref b])).length) Slot.unset).toArray = ls at hl ⊢
  have hl : lv_has ls 10 [(0, .ref b)] := hl
  refine va_new (ci := 7) (fs := [.null, .null, .null, .null, .int 0, .int 0, .int 0, .int 0]) (C := RX5) (T := TX5) (N := 8) hx hb hts (by decide +kernel) tyX5 tyX5_ok hown (hts (.classLink RL 8 RX5) (by decide +kernel)) (hts (.instantiable RX5 8) (by decide +kernel)) (hts (.initialized RX5) (by decide +kernel)) hK hP hD hS hA rfl (fun j hj => by rcases (show j = 0 ∨ j = 1 ∨ j = 2 ∨ j = 3 ∨ j = 4 ∨ j = 5 ∨ j = 6 ∨ j = 7 by omega) with rfl | rfl | rfl | rfl | rfl | rfl | rfl | rfl <;> rfl) (Nat.le_of_ble_eq_true rfl) (Nat.le_of_ble_eq_true rfl) dL_law_0 (fun x H hP hD hS => ?_)
  have hP : va_P D vwCl [(x, .inr (7, [.null, .null, .null, .null, .int 0, .int 0, .int 0, .int 0]))] H := hP
  have hD : va_D A [(x, .inr (7, [.null, .null, .null, .null, .int 0, .int 0, .int 0, .int 0]))] := hD
  refine lv_dup hx hb dL_law_3 rfl ?_
  refine kI_v (As := []) (rest := [.ref x]) (wr := []) ⟨hx, hb, hml, hown, hts⟩ (c_pc_init l D e0 _ x) (cwI 0 hts gL_law_X5_init rfl rfl rfl (hts (.initialized RX5) (by decide +kernel)) (hts (.methodLink RL 81 yX5_init) (by decide +kernel)) (hts (.instanceMethod yX5_init) (by decide +kernel)) rfl (by decide +kernel) ⟨Nat.le_of_ble_eq_true rfl, Nat.le_of_ble_eq_true rfl⟩) hP hD hK hS hA hE rfl [0] [] [] rfl rfl (by decide) (by decide) (by decide) rfl rfl hl.1 (Nat.le_of_ble_eq_true rfl) dL_law_4 ⟨Nat.le_of_ble_eq_true rfl, Nat.le_of_ble_eq_true rfl⟩ (fun u9 H locs hw hP hD hK hS => ?_)
  obtain ⟨xk, xb, xt, xp, cxp, xs, cxs, g, xo, xa⟩ := u9
  have hg : ∀ j, j < 36 → g j = -1 := hw
  have hP : va_P D vwCl [(x, .inr (7, [.ref xk, .ref xb, .ref xo, .ref xa, .int 0, .int 0, .int 0, .int 0])), (xk, .inr (1, [.int 0, .ref e0, .int 0])), (xb, .inr (3, [.ref xt, .ref xp, .ref xs, .int 0])), (xt, .inr (1, [.int 0, .ref e0, .int 0])), (xp, .inl (cxp, 36, .inl (fun _ => 0))), (xs, .inl (cxs, 36, .inl g)), (xo, .inr (1, [.int 0, .ref e0, .int 0])), (xa, .inr (2, [.int 0, .int 0, .int 0, .null, .int 0, .double 0]))] H := hP
  have hD : va_D A [(x, .inr (7, [.ref xk, .ref xb, .ref xo, .ref xa, .int 0, .int 0, .int 0, .int 0])), (xk, .inr (1, [.int 0, .ref e0, .int 0])), (xb, .inr (3, [.ref xt, .ref xp, .ref xs, .int 0])), (xt, .inr (1, [.int 0, .ref e0, .int 0])), (xp, .inl (cxp, 36, .inl (fun _ => 0))), (xs, .inl (cxs, 36, .inl g)), (xo, .inr (1, [.int 0, .ref e0, .int 0])), (xa, .inr (2, [.int 0, .int 0, .int 0, .null, .int 0, .double 0]))] := hD
  have hK : va_K D vwCl [(cxp, .int), (cxs, .int)] s := hK
  refine lv_astore_n (lv' := [(1, .ref x), (0, .ref b)]) hx hb dL_law_7 rfl hl (by decide) rfl (fun ls hl => ?_)
  refine va_new (ci := 11) (fs := [.int 0, .null, .null, .null, .int 0, .int 0, .int 0, .int 0, .null, .int 0, .int 0, .double 0, .int 0, .int 0, .int 0]) (C := RX9) (T := TX9) (N := 15) hx hb hts (by decide +kernel) tyX9 tyX9_ok hown (hts (.classLink RL 82 RX9) (by decide +kernel)) (hts (.instantiable RX9 15) (by decide +kernel)) (hts (.initialized RX9) (by decide +kernel)) hK hP hD hS hA rfl (fun j hj => by rcases (show j = 0 ∨ j = 1 ∨ j = 2 ∨ j = 3 ∨ j = 4 ∨ j = 5 ∨ j = 6 ∨ j = 7 ∨ j = 8 ∨ j = 9 ∨ j = 10 ∨ j = 11 ∨ j = 12 ∨ j = 13 ∨ j = 14 by omega) with rfl | rfl | rfl | rfl | rfl | rfl | rfl | rfl | rfl | rfl | rfl | rfl | rfl | rfl | rfl <;> rfl) (Nat.le_of_ble_eq_true rfl) (Nat.le_of_ble_eq_true rfl) dL_law_8 (fun mm H hP hD hS => ?_)
  have hP : va_P D vwCl [(x, .inr (7, [.ref xk, .ref xb, .ref xo, .ref xa, .int 0, .int 0, .int 0, .int 0])), (xk, .inr (1, [.int 0, .ref e0, .int 0])), (xb, .inr (3, [.ref xt, .ref xp, .ref xs, .int 0])), (xt, .inr (1, [.int 0, .ref e0, .int 0])), (xp, .inl (cxp, 36, .inl (fun _ => 0))), (xs, .inl (cxs, 36, .inl g)), (xo, .inr (1, [.int 0, .ref e0, .int 0])), (xa, .inr (2, [.int 0, .int 0, .int 0, .null, .int 0, .double 0])), (mm, .inr (11, [.int 0, .null, .null, .null, .int 0, .int 0, .int 0, .int 0, .null, .int 0, .int 0, .double 0, .int 0, .int 0, .int 0]))] H := hP
  have hD : va_D A [(x, .inr (7, [.ref xk, .ref xb, .ref xo, .ref xa, .int 0, .int 0, .int 0, .int 0])), (xk, .inr (1, [.int 0, .ref e0, .int 0])), (xb, .inr (3, [.ref xt, .ref xp, .ref xs, .int 0])), (xt, .inr (1, [.int 0, .ref e0, .int 0])), (xp, .inl (cxp, 36, .inl (fun _ => 0))), (xs, .inl (cxs, 36, .inl g)), (xo, .inr (1, [.int 0, .ref e0, .int 0])), (xa, .inr (2, [.int 0, .int 0, .int 0, .null, .int 0, .double 0])), (mm, .inr (11, [.int 0, .null, .null, .null, .int 0, .int 0, .int 0, .int 0, .null, .int 0, .int 0, .double 0, .int 0, .int 0, .int 0]))] := hD
  refine lv_dup hx hb dL_law_11 rfl ?_
  refine kI_v (As := []) (rest := [.ref mm]) (wr := [(x, .inr (7, [.ref xk, .ref xb, .ref xo, .ref xa, .int 0, .int 0, .int 0, .int 0])), (xk, .inr (1, [.int 0, .ref e0, .int 0])), (xb, .inr (3, [.ref xt, .ref xp, .ref xs, .int 0])), (xt, .inr (1, [.int 0, .ref e0, .int 0])), (xp, .inl (cxp, 36, .inl (fun _ => 0))), (xs, .inl (cxs, 36, .inl g)), (xo, .inr (1, [.int 0, .ref e0, .int 0])), (xa, .inr (2, [.int 0, .int 0, .int 0, .null, .int 0, .double 0]))]) ⟨hx, hb, hml, hown, hts⟩ (c_m_init l D e0 _ mm) (cwI 0 hts gL_law_X9_init rfl rfl rfl (hts (.initialized RX9) (by decide +kernel)) (hts (.methodLink RL 84 yX9_init) (by decide +kernel)) (hts (.instanceMethod yX9_init) (by decide +kernel)) rfl (by decide +kernel) ⟨Nat.le_of_ble_eq_true rfl, Nat.le_of_ble_eq_true rfl⟩) hP hD hK hS hA hE rfl [8] [0, 1, 2, 3, 4, 5, 6, 7] [] rfl rfl (by decide) (by decide) (by decide) rfl rfl hl.1 (Nat.le_of_ble_eq_true rfl) dL_law_12 ⟨Nat.le_of_ble_eq_true rfl, Nat.le_of_ble_eq_true rfl⟩ (fun u9 H locs hw hP hD hK hS => ?_)
  obtain ⟨mk9, mt, mb⟩ := u9
  have hP : va_P D vwCl [(x, .inr (7, [.ref xk, .ref xb, .ref xo, .ref xa, .int 0, .int 0, .int 0, .int 0])), (xk, .inr (1, [.int 0, .ref e0, .int 0])), (xb, .inr (3, [.ref xt, .ref xp, .ref xs, .int 0])), (xt, .inr (1, [.int 0, .ref e0, .int 0])), (xp, .inl (cxp, 36, .inl (fun _ => 0))), (xs, .inl (cxs, 36, .inl g)), (xo, .inr (1, [.int 0, .ref e0, .int 0])), (xa, .inr (2, [.int 0, .int 0, .int 0, .null, .int 0, .double 0])), (mm, .inr (11, [.int 0, .ref mk9, .ref mt, .ref mb, .int 0, .int 0, .int 0, .int 0, .null, .int 0, .int 0, .double 0, .int 0, .int 0, .int 0])), (mk9, .inr (1, [.int 0, .ref e0, .int 0])), (mt, .inr (1, [.int 0, .ref e0, .int 0])), (mb, .inr (1, [.int 0, .ref e0, .int 0]))] H := hP
  have hD : va_D A [(x, .inr (7, [.ref xk, .ref xb, .ref xo, .ref xa, .int 0, .int 0, .int 0, .int 0])), (xk, .inr (1, [.int 0, .ref e0, .int 0])), (xb, .inr (3, [.ref xt, .ref xp, .ref xs, .int 0])), (xt, .inr (1, [.int 0, .ref e0, .int 0])), (xp, .inl (cxp, 36, .inl (fun _ => 0))), (xs, .inl (cxs, 36, .inl g)), (xo, .inr (1, [.int 0, .ref e0, .int 0])), (xa, .inr (2, [.int 0, .int 0, .int 0, .null, .int 0, .double 0])), (mm, .inr (11, [.int 0, .ref mk9, .ref mt, .ref mb, .int 0, .int 0, .int 0, .int 0, .null, .int 0, .int 0, .double 0, .int 0, .int 0, .int 0])), (mk9, .inr (1, [.int 0, .ref e0, .int 0])), (mt, .inr (1, [.int 0, .ref e0, .int 0])), (mb, .inr (1, [.int 0, .ref e0, .int 0]))] := hD
  have hK : va_K D vwCl [(cxp, .int), (cxs, .int)] s := hK
  refine lv_astore_n (lv' := [(2, .ref mm), (1, .ref x), (0, .ref b)]) hx hb dL_law_15 rfl hl (by decide) rfl (fun ls hl => ?_)
  refine lv_iconst (v := 1) hx hb dL_law_16 (by decide) ?_
  refine va_newa (atype := .long) (ty := .long) (N' := 1) (a0 := (1, .inr (.inl (fun _ => 0)))) hx hb (hts (.arrayClass .long) (by decide +kernel)) rfl hK hP hD hS hA (fun cA => rfl) (by decide) (by decide) (Nat.le_of_ble_eq_true rfl) (Nat.le_of_ble_eq_true rfl) (Nat.le_of_ble_eq_true rfl) dL_law_17 (fun o co H hK hP hD hS => ?_)
  have hP : va_P D vwCl [(x, .inr (7, [.ref xk, .ref xb, .ref xo, .ref xa, .int 0, .int 0, .int 0, .int 0])), (xk, .inr (1, [.int 0, .ref e0, .int 0])), (xb, .inr (3, [.ref xt, .ref xp, .ref xs, .int 0])), (xt, .inr (1, [.int 0, .ref e0, .int 0])), (xp, .inl (cxp, 36, .inl (fun _ => 0))), (xs, .inl (cxs, 36, .inl g)), (xo, .inr (1, [.int 0, .ref e0, .int 0])), (xa, .inr (2, [.int 0, .int 0, .int 0, .null, .int 0, .double 0])), (mm, .inr (11, [.int 0, .ref mk9, .ref mt, .ref mb, .int 0, .int 0, .int 0, .int 0, .null, .int 0, .int 0, .double 0, .int 0, .int 0, .int 0])), (mk9, .inr (1, [.int 0, .ref e0, .int 0])), (mt, .inr (1, [.int 0, .ref e0, .int 0])), (mb, .inr (1, [.int 0, .ref e0, .int 0])), (o, .inl (co, 1, .inr (.inl (fun _ => 0))))] H := hP
  have hD : va_D A [(x, .inr (7, [.ref xk, .ref xb, .ref xo, .ref xa, .int 0, .int 0, .int 0, .int 0])), (xk, .inr (1, [.int 0, .ref e0, .int 0])), (xb, .inr (3, [.ref xt, .ref xp, .ref xs, .int 0])), (xt, .inr (1, [.int 0, .ref e0, .int 0])), (xp, .inl (cxp, 36, .inl (fun _ => 0))), (xs, .inl (cxs, 36, .inl g)), (xo, .inr (1, [.int 0, .ref e0, .int 0])), (xa, .inr (2, [.int 0, .int 0, .int 0, .null, .int 0, .double 0])), (mm, .inr (11, [.int 0, .ref mk9, .ref mt, .ref mb, .int 0, .int 0, .int 0, .int 0, .null, .int 0, .int 0, .double 0, .int 0, .int 0, .int 0])), (mk9, .inr (1, [.int 0, .ref e0, .int 0])), (mt, .inr (1, [.int 0, .ref e0, .int 0])), (mb, .inr (1, [.int 0, .ref e0, .int 0])), (o, .inl (co, 1, .inr (.inl (fun _ => 0))))] := hD
  have hK : va_K D vwCl [(cxp, .int), (cxs, .int), (co, .long)] s := hK
  refine lv_astore_n (lv' := [(3, .ref o), (2, .ref mm), (1, .ref x), (0, .ref b)]) hx hb dL_law_19 rfl hl (by decide) rfl (fun ls hl => ?_)
  refine lv_iconst (v := 1) hx hb dL_law_20 (by decide) ?_
  refine va_newa (atype := .double) (ty := .double) (N' := 1) (a0 := (1, .inr (.inr (.inr (.inl (fun _ => 0)))))) hx hb (hts (.arrayClass .double) (by decide +kernel)) rfl hK hP hD hS hA (fun cA => rfl) (by decide) (by decide) (Nat.le_of_ble_eq_true rfl) (Nat.le_of_ble_eq_true rfl) (Nat.le_of_ble_eq_true rfl) dL_law_21 (fun od cod H hK hP hD hS => ?_)
  have hP : va_P D vwCl [(x, .inr (7, [.ref xk, .ref xb, .ref xo, .ref xa, .int 0, .int 0, .int 0, .int 0])), (xk, .inr (1, [.int 0, .ref e0, .int 0])), (xb, .inr (3, [.ref xt, .ref xp, .ref xs, .int 0])), (xt, .inr (1, [.int 0, .ref e0, .int 0])), (xp, .inl (cxp, 36, .inl (fun _ => 0))), (xs, .inl (cxs, 36, .inl g)), (xo, .inr (1, [.int 0, .ref e0, .int 0])), (xa, .inr (2, [.int 0, .int 0, .int 0, .null, .int 0, .double 0])), (mm, .inr (11, [.int 0, .ref mk9, .ref mt, .ref mb, .int 0, .int 0, .int 0, .int 0, .null, .int 0, .int 0, .double 0, .int 0, .int 0, .int 0])), (mk9, .inr (1, [.int 0, .ref e0, .int 0])), (mt, .inr (1, [.int 0, .ref e0, .int 0])), (mb, .inr (1, [.int 0, .ref e0, .int 0])), (o, .inl (co, 1, .inr (.inl (fun _ => 0)))), (od, .inl (cod, 1, .inr (.inr (.inr (.inl (fun _ => 0))))))] H := hP
  have hD : va_D A [(x, .inr (7, [.ref xk, .ref xb, .ref xo, .ref xa, .int 0, .int 0, .int 0, .int 0])), (xk, .inr (1, [.int 0, .ref e0, .int 0])), (xb, .inr (3, [.ref xt, .ref xp, .ref xs, .int 0])), (xt, .inr (1, [.int 0, .ref e0, .int 0])), (xp, .inl (cxp, 36, .inl (fun _ => 0))), (xs, .inl (cxs, 36, .inl g)), (xo, .inr (1, [.int 0, .ref e0, .int 0])), (xa, .inr (2, [.int 0, .int 0, .int 0, .null, .int 0, .double 0])), (mm, .inr (11, [.int 0, .ref mk9, .ref mt, .ref mb, .int 0, .int 0, .int 0, .int 0, .null, .int 0, .int 0, .double 0, .int 0, .int 0, .int 0])), (mk9, .inr (1, [.int 0, .ref e0, .int 0])), (mt, .inr (1, [.int 0, .ref e0, .int 0])), (mb, .inr (1, [.int 0, .ref e0, .int 0])), (o, .inl (co, 1, .inr (.inl (fun _ => 0)))), (od, .inl (cod, 1, .inr (.inr (.inr (.inl (fun _ => 0))))))] := hD
  have hK : va_K D vwCl [(cxp, .int), (cxs, .int), (co, .long), (cod, .double)] s := hK
  refine lv_astore (lv' := [(4, .ref od), (3, .ref o), (2, .ref mm), (1, .ref x), (0, .ref b)]) hx hb dL_law_23 hl (by decide) rfl (fun ls hl => ?_)
  refine lv_iconst (v := 0) hx hb dL_law_25 (by decide) ?_
  refine lv_istore (lv' := [(5, .int 0), (4, .ref od), (3, .ref o), (2, .ref mm), (1, .ref x), (0, .ref b)]) hx hb dL_law_26 hl (by decide) rfl (fun ls hl => ?_)
  refine W.widen (k := 14) (n := 125) (Nat.le_of_ble_eq_true rfl) (Nat.le_of_ble_eq_true rfl) ?_
  have hP := hP.cut (wc := [(x, .inr (7, [.ref xk, .ref xb, .ref xo, .ref xa, .int 0, .int 0, .int 0, .int 0])), (xk, .inr (1, [.int 0, .ref e0, .int 0])), (xb, .inr (3, [.ref xt, .ref xp, .ref xs, .int 0])), (xt, .inr (1, [.int 0, .ref e0, .int 0])), (xp, .inl (cxp, 36, .inl (fun _ => 0))), (xs, .inl (cxs, 36, .inl g)), (xo, .inr (1, [.int 0, .ref e0, .int 0])), (xa, .inr (2, [.int 0, .int 0, .int 0, .null, .int 0, .double 0])), (mm, .inr (11, [.int 0, .ref mk9, .ref mt, .ref mb, .int 0, .int 0, .int 0, .int 0, .null, .int 0, .int 0, .double 0, .int 0, .int 0, .int 0])), (mk9, .inr (1, [.int 0, .ref e0, .int 0])), (mt, .inr (1, [.int 0, .ref e0, .int 0])), (mb, .inr (1, [.int 0, .ref e0, .int 0])), (o, .inl (co, 1, .inr (.inl (fun _ => 0)))), (od, .inl (cod, 1, .inr (.inr (.inr (.inl (fun _ => 0))))))]) [0, 1, 2, 3, 4, 5, 6, 7, 8, 9, 10, 11, 12, 13] rfl
  have hD := hD.sub (ws' := [(x, .inr (7, [.ref xk, .ref xb, .ref xo, .ref xa, .int 0, .int 0, .int 0, .int 0])), (xk, .inr (1, [.int 0, .ref e0, .int 0])), (xb, .inr (3, [.ref xt, .ref xp, .ref xs, .int 0])), (xt, .inr (1, [.int 0, .ref e0, .int 0])), (xp, .inl (cxp, 36, .inl (fun _ => 0))), (xs, .inl (cxs, 36, .inl g)), (xo, .inr (1, [.int 0, .ref e0, .int 0])), (xa, .inr (2, [.int 0, .int 0, .int 0, .null, .int 0, .double 0])), (mm, .inr (11, [.int 0, .ref mk9, .ref mt, .ref mb, .int 0, .int 0, .int 0, .int 0, .null, .int 0, .int 0, .double 0, .int 0, .int 0, .int 0])), (mk9, .inr (1, [.int 0, .ref e0, .int 0])), (mt, .inr (1, [.int 0, .ref e0, .int 0])), (mb, .inr (1, [.int 0, .ref e0, .int 0])), (o, .inl (co, 1, .inr (.inl (fun _ => 0)))), (od, .inl (cod, 1, .inr (.inr (.inr (.inl (fun _ => 0))))))]) [0, 1, 2, 3, 4, 5, 6, 7, 8, 9, 10, 11, 12, 13] (by decide) rfl
  rcases (show L = 0 ∨ L = 1 ∨ L = 2 ∨ L = 3 ∨ L = 4 ∨ L = 5 ∨ L = 6 ∨ L = 7 by omega) with rfl | rfl | rfl | rfl | rfl | rfl | rfl | rfl
  · refine lv_iload hx hb dL_law_28 (lv_at hl 0 rfl) ?_
    refine lv_aload_n hx hb dL_law_30 rfl (lv_at hl 5 rfl) ?_
    refine va_slen hx hb hX hbl hbA hS dL_law_31 ?_
    refine lv_topi (fun x_1 ex_1 => ?_)
    obtain rfl : x_1 = 0 := ex_1.trans (by decide)
    refine lv_bipush (v := 7) hx hb dL_law_32 (by decide) ?_
    refine lv_isub hx hb dL_law_34 ?_
    refine lv_topi (fun x_2 ex_2 => ?_)
    obtain rfl : x_2 = (-7) := ex_2.trans (by decide)
    refine lv_icmp_gt (tgt := 1638) hx hb dL_law_35 (by decide) (fun _ => ?_) (fun h9 => absurd (by decide) h9)
    refine lv_iconst (v := 1) hx hb dL_law_1638 (by decide) ?_
    refine va_forget (fun q hq => hAs _ (hS.2.2 q hq)) ?_
    refine W.widen (k := 632229) (n := 7205549) (Nat.le_of_ble_eq_true rfl) (Nat.le_of_ble_eq_true rfl) ?_
    exact lw_ret (d0 := s.drawn) (Drawn.sameBut.refl s.drawn lw_cs) hx hb hr hlocks dL_law_1639
  · refine lv_iload hx hb dL_law_28 (lv_at hl 0 rfl) ?_
    refine lv_aload_n hx hb dL_law_30 rfl (lv_at hl 5 rfl) ?_
    refine va_slen hx hb hX hbl hbA hS dL_law_31 ?_
    refine lv_topi (fun x_3 ex_3 => ?_)
    obtain rfl : x_3 = 1 := ex_3.trans (by decide)
    refine lv_bipush (v := 7) hx hb dL_law_32 (by decide) ?_
    refine lv_isub hx hb dL_law_34 ?_
    refine lv_topi (fun x_4 ex_4 => ?_)
    obtain rfl : x_4 = (-6) := ex_4.trans (by decide)
    refine lv_icmp_gt (tgt := 1638) hx hb dL_law_35 (by decide) (fun _ => ?_) (fun h9 => absurd (by decide) h9)
    refine lv_iconst (v := 1) hx hb dL_law_1638 (by decide) ?_
    refine va_forget (fun q hq => hAs _ (hS.2.2 q hq)) ?_
    refine W.widen (k := 632229) (n := 7205549) (Nat.le_of_ble_eq_true rfl) (Nat.le_of_ble_eq_true rfl) ?_
    exact lw_ret (d0 := s.drawn) (Drawn.sameBut.refl s.drawn lw_cs) hx hb hr hlocks dL_law_1639
  · refine lv_iload hx hb dL_law_28 (lv_at hl 0 rfl) ?_
    refine lv_aload_n hx hb dL_law_30 rfl (lv_at hl 5 rfl) ?_
    refine va_slen hx hb hX hbl hbA hS dL_law_31 ?_
    refine lv_topi (fun x_5 ex_5 => ?_)
    obtain rfl : x_5 = 2 := ex_5.trans (by decide)
    refine lv_bipush (v := 7) hx hb dL_law_32 (by decide) ?_
    refine lv_isub hx hb dL_law_34 ?_
    refine lv_topi (fun x_6 ex_6 => ?_)
    obtain rfl : x_6 = (-5) := ex_6.trans (by decide)
    refine lv_icmp_gt (tgt := 1638) hx hb dL_law_35 (by decide) (fun _ => ?_) (fun h9 => absurd (by decide) h9)
    refine lv_iconst (v := 1) hx hb dL_law_1638 (by decide) ?_
    refine va_forget (fun q hq => hAs _ (hS.2.2 q hq)) ?_
    refine W.widen (k := 632229) (n := 7205549) (Nat.le_of_ble_eq_true rfl) (Nat.le_of_ble_eq_true rfl) ?_
    exact lw_ret (d0 := s.drawn) (Drawn.sameBut.refl s.drawn lw_cs) hx hb hr hlocks dL_law_1639
  · refine lv_iload hx hb dL_law_28 (lv_at hl 0 rfl) ?_
    refine lv_aload_n hx hb dL_law_30 rfl (lv_at hl 5 rfl) ?_
    refine va_slen hx hb hX hbl hbA hS dL_law_31 ?_
    refine lv_topi (fun x_7 ex_7 => ?_)
    obtain rfl : x_7 = 3 := ex_7.trans (by decide)
    refine lv_bipush (v := 7) hx hb dL_law_32 (by decide) ?_
    refine lv_isub hx hb dL_law_34 ?_
    refine lv_topi (fun x_8 ex_8 => ?_)
    obtain rfl : x_8 = (-4) := ex_8.trans (by decide)
    refine lv_icmp_gt (tgt := 1638) hx hb dL_law_35 (by decide) (fun _ => ?_) (fun h9 => absurd (by decide) h9)
    refine lv_iconst (v := 1) hx hb dL_law_1638 (by decide) ?_
    refine va_forget (fun q hq => hAs _ (hS.2.2 q hq)) ?_
    refine W.widen (k := 632229) (n := 7205549) (Nat.le_of_ble_eq_true rfl) (Nat.le_of_ble_eq_true rfl) ?_
    exact lw_ret (d0 := s.drawn) (Drawn.sameBut.refl s.drawn lw_cs) hx hb hr hlocks dL_law_1639
  · refine lv_iload hx hb dL_law_28 (lv_at hl 0 rfl) ?_
    refine lv_aload_n hx hb dL_law_30 rfl (lv_at hl 5 rfl) ?_
    refine va_slen hx hb hX hbl hbA hS dL_law_31 ?_
    refine lv_topi (fun x_9 ex_9 => ?_)
    obtain rfl : x_9 = 4 := ex_9.trans (by decide)
    refine lv_bipush (v := 7) hx hb dL_law_32 (by decide) ?_
    refine lv_isub hx hb dL_law_34 ?_
    refine lv_topi (fun x_10 ex_10 => ?_)
    obtain rfl : x_10 = (-3) := ex_10.trans (by decide)
    refine lv_icmp_gt (tgt := 1638) hx hb dL_law_35 (by decide) (fun _ => ?_) (fun h9 => absurd (by decide) h9)
    refine lv_iconst (v := 1) hx hb dL_law_1638 (by decide) ?_
    refine va_forget (fun q hq => hAs _ (hS.2.2 q hq)) ?_
    refine W.widen (k := 632229) (n := 7205549) (Nat.le_of_ble_eq_true rfl) (Nat.le_of_ble_eq_true rfl) ?_
    exact lw_ret (d0 := s.drawn) (Drawn.sameBut.refl s.drawn lw_cs) hx hb hr hlocks dL_law_1639
  · refine lv_iload hx hb dL_law_28 (lv_at hl 0 rfl) ?_
    refine lv_aload_n hx hb dL_law_30 rfl (lv_at hl 5 rfl) ?_
    refine va_slen hx hb hX hbl hbA hS dL_law_31 ?_
    refine lv_topi (fun x_11 ex_11 => ?_)
    obtain rfl : x_11 = 5 := ex_11.trans (by decide)
    refine lv_bipush (v := 7) hx hb dL_law_32 (by decide) ?_
    refine lv_isub hx hb dL_law_34 ?_
    refine lv_topi (fun x_12 ex_12 => ?_)
    obtain rfl : x_12 = (-2) := ex_12.trans (by decide)
    refine lv_icmp_gt (tgt := 1638) hx hb dL_law_35 (by decide) (fun _ => ?_) (fun h9 => absurd (by decide) h9)
    refine lv_iconst (v := 1) hx hb dL_law_1638 (by decide) ?_
    refine va_forget (fun q hq => hAs _ (hS.2.2 q hq)) ?_
    refine W.widen (k := 632229) (n := 7205549) (Nat.le_of_ble_eq_true rfl) (Nat.le_of_ble_eq_true rfl) ?_
    exact lw_ret (d0 := s.drawn) (Drawn.sameBut.refl s.drawn lw_cs) hx hb hr hlocks dL_law_1639
  · refine lv_iload hx hb dL_law_28 (lv_at hl 0 rfl) ?_
    refine lv_aload_n hx hb dL_law_30 rfl (lv_at hl 5 rfl) ?_
    refine va_slen hx hb hX hbl hbA hS dL_law_31 ?_
    refine lv_topi (fun x_13 ex_13 => ?_)
    obtain rfl : x_13 = 6 := ex_13.trans (by decide)
    refine lv_bipush (v := 7) hx hb dL_law_32 (by decide) ?_
    refine lv_isub hx hb dL_law_34 ?_
    refine lv_topi (fun x_14 ex_14 => ?_)
    obtain rfl : x_14 = (-1) := ex_14.trans (by decide)
    refine lv_icmp_gt (tgt := 1638) hx hb dL_law_35 (by decide) (fun _ => ?_) (fun h9 => absurd (by decide) h9)
    refine lv_iconst (v := 1) hx hb dL_law_1638 (by decide) ?_
    refine va_forget (fun q hq => hAs _ (hS.2.2 q hq)) ?_
    refine W.widen (k := 632229) (n := 7205549) (Nat.le_of_ble_eq_true rfl) (Nat.le_of_ble_eq_true rfl) ?_
    exact lw_ret (d0 := s.drawn) (Drawn.sameBut.refl s.drawn lw_cs) hx hb hr hlocks dL_law_1639
  · refine lv_iload hx hb dL_law_28 (lv_at hl 0 rfl) ?_
    refine lv_aload_n hx hb dL_law_30 rfl (lv_at hl 5 rfl) ?_
    refine va_slen hx hb hX hbl hbA hS dL_law_31 ?_
    refine lv_topi (fun x_15 ex_15 => ?_)
    obtain rfl : x_15 = 7 := ex_15.trans (by decide)
    refine lv_bipush (v := 7) hx hb dL_law_32 (by decide) ?_
    refine lv_isub hx hb dL_law_34 ?_
    refine lv_topi (fun x_16 ex_16 => ?_)
    obtain rfl : x_16 = 0 := ex_16.trans (by decide)
    refine lv_icmp_gt (tgt := 1638) hx hb dL_law_35 (by decide) (fun h9 => absurd h9 (by decide)) (fun _ => ?_)
    refine lv_aload_n hx hb dL_law_38 rfl (lv_at hl 5 rfl) ?_
    refine lv_iload hx hb dL_law_39 (lv_at hl 0 rfl) ?_
    refine va_sld hx hb hX hbl hbA hS (by unfold vp_in; decide) dL_law_41 ?_
    refine lv_topi (fun x_17 ex_17 => ?_)
    obtain rfl : x_17 = sc 0 := ex_17.trans (congrArg sc (by decide))
    refine lv_bipush (v := 31) hx hb dL_law_42 (by decide) ?_
    refine lv_iand hx hb dL_law_44 ?_
    refine lv_topi (fun x_18 ex_18 => ?_)
    obtain ⟨j, hj, ej⟩ := pk_andE (sc 0) (m := 31) 5 (by decide)
    obtain rfl : x_18 = nI j := ex_18.trans ej
    have hl := lv_sub hl (l' := [(5, .int 0), (4, .ref od), (3, .ref o), (2, .ref mm), (1, .ref x), (0, .ref b)]) [0, 1, 2, 3, 4, 5] rfl
    rcases (show j = 0 ∨ j = 1 ∨ j = 2 ∨ j = 3 ∨ j = 4 ∨ j = 5 ∨ j = 6 ∨ j = 7 ∨ j = 8 ∨ j = 9 ∨ j = 10 ∨ j = 11 ∨ j = 12 ∨ j = 13 ∨ j = 14 ∨ j = 15 ∨ j = 16 ∨ j = 17 ∨ j = 18 ∨ j = 19 ∨ j = 20 ∨ j = 21 ∨ j = 22 ∨ j = 23 ∨ j = 24 ∨ j = 25 ∨ j = 26 ∨ j = 27 ∨ j = 28 ∨ j = 29 ∨ j = 30 ∨ j = 31 by omega) with rfl | rfl | rfl | rfl | rfl | rfl | rfl | rfl | rfl | rfl | rfl | rfl | rfl | rfl | rfl | rfl | rfl | rfl | rfl | rfl | rfl | rfl | rfl | rfl | rfl | rfl | rfl | rfl | rfl | rfl | rfl | rfl
    · refine lv_tableIn (off := 107) (tgt := 152) hx hb dL_law_45 (by decide) (by decide) (by decide) (by decide) ?_
      exact law_case_0 hl9 hx hb hr hlocks hX hbl hbA hAs hS hml hown hts0 hts hA hE hg hP hD hK hl
    · refine lv_tableIn (off := 225) (tgt := 270) hx hb dL_law_45 (by decide) (by decide) (by decide) (by decide) ?_
      exact law_case_1 hl9 hx hb hr hlocks hX hbl hbA hAs hS hml hown hts0 hts hA hE hg hP hD hK hl
    · refine lv_tableIn (off := 305) (tgt := 350) hx hb dL_law_45 (by decide) (by decide) (by decide) (by decide) ?_
      exact law_case_2 hl9 hx hb hr hlocks hX hbl hbA hAs hS hml hown hts0 hts hA hE hg hP hD hK hl
    · refine lv_tableIn (off := 373) (tgt := 418) hx hb dL_law_45 (by decide) (by decide) (by decide) (by decide) ?_
      exact law_case_3 hl9 hx hb hr hlocks hX hbl hbA hAs hS hml hown hts0 hts hA hE hg hP hD hK hl
    · refine lv_tableIn (off := 429) (tgt := 474) hx hb dL_law_45 (by decide) (by decide) (by decide) (by decide) ?_
      exact law_case_4 hl9 hx hb hr hlocks hX hbl hbA hAs hS hml hown hts0 hts hA hE hg hP hD hK hl
    · refine lv_tableIn (off := 498) (tgt := 543) hx hb dL_law_45 (by decide) (by decide) (by decide) (by decide) ?_
      exact law_case_5 hl9 hx hb hr hlocks hX hbl hbA hAs hS hml hown hts0 hts hA hE hg hP hD hK hl
    · refine lv_tableIn (off := 554) (tgt := 599) hx hb dL_law_45 (by decide) (by decide) (by decide) (by decide) ?_
      exact law_case_6 hl9 hx hb hr hlocks hX hbl hbA hAs hS hml hown hts0 hts hA hE hg hP hD hK hl
    · refine lv_tableIn (off := 622) (tgt := 667) hx hb dL_law_45 (by decide) (by decide) (by decide) (by decide) ?_
      exact law_case_7 hl9 hx hb hr hlocks hX hbl hbA hAs hS hml hown hts0 hts hA hE hg hP hD hK hl
    · refine lv_tableIn (off := 678) (tgt := 723) hx hb dL_law_45 (by decide) (by decide) (by decide) (by decide) ?_
      exact law_case_8 hl9 hx hb hr hlocks hX hbl hbA hAs hS hml hown hts0 hts hA hE hg hP hD hK hl
    · refine lv_tableIn (off := 722) (tgt := 767) hx hb dL_law_45 (by decide) (by decide) (by decide) (by decide) ?_
      exact law_case_9 hl9 hx hb hr hlocks hX hbl hbA hAs hS hml hown hts0 hts hA hE hg hP hD hK hl
    · refine lv_tableIn (off := 778) (tgt := 823) hx hb dL_law_45 (by decide) (by decide) (by decide) (by decide) ?_
      exact law_case_10 hl9 hx hb hr hlocks hX hbl hbA hAs hS hml hown hts0 hts hA hE hg hP hD hK hl
    · refine lv_tableIn (off := 846) (tgt := 891) hx hb dL_law_45 (by decide) (by decide) (by decide) (by decide) ?_
      exact law_case_11 hl9 hx hb hr hlocks hX hbl hbA hAs hS hml hown hts0 hts hA hE hg hP hD hK hl
    · refine lv_tableIn (off := 914) (tgt := 959) hx hb dL_law_45 (by decide) (by decide) (by decide) (by decide) ?_
      exact law_case_12 hl9 hx hb hr hlocks hX hbl hbA hAs hS hml hown hts0 hts hA hE hg hP hD hK hl
    · refine lv_tableIn (off := 982) (tgt := 1027) hx hb dL_law_45 (by decide) (by decide) (by decide) (by decide) ?_
      exact law_case_13 hl9 hx hb hr hlocks hX hbl hbA hAs hS hml hown hts0 hts hA hE hg hP hD hK hl
    · refine lv_tableIn (off := 1071) (tgt := 1116) hx hb dL_law_45 (by decide) (by decide) (by decide) (by decide) ?_
      exact law_case_14 hl9 hx hb hr hlocks hX hbl hbA hAs hS hml hown hts0 hts hA hE hg hP hD hK hl
    · refine lv_tableIn (off := 1160) (tgt := 1205) hx hb dL_law_45 (by decide) (by decide) (by decide) (by decide) ?_
      exact law_case_15 hl9 hx hb hr hlocks hX hbl hbA hAs hS hml hown hts0 hts hA hE hg hP hD hK hl
    · refine lv_tableIn (off := 1201) (tgt := 1246) hx hb dL_law_45 (by decide) (by decide) (by decide) (by decide) ?_
      exact law_case_16 hl9 hx hb hr hlocks hX hbl hbA hAs hS hml hown hts0 hts hA hE hg hP hD hK hl
    · refine lv_tableIn (off := 1269) (tgt := 1314) hx hb dL_law_45 (by decide) (by decide) (by decide) (by decide) ?_
      exact law_case_17 hl9 hx hb hr hlocks hX hbl hbA hAs hS hml hown hts0 hts hA hE hg hP hD hK hl
    · refine lv_tableIn (off := 1337) (tgt := 1382) hx hb dL_law_45 (by decide) (by decide) (by decide) (by decide) ?_
      exact law_case_18 hl9 hx hb hr hlocks hX hbl hbA hAs hS hml hown hts0 hts hA hE hg hP hD hK hl
    · refine lv_tableIn (off := 1393) (tgt := 1438) hx hb dL_law_45 (by decide) (by decide) (by decide) (by decide) ?_
      exact law_case_19 hl9 hx hb hr hlocks hX hbl hbA hAs hS hml hown hts0 hts hA hE hg hP hD hK hl
    · refine lv_tableIn (off := 1449) (tgt := 1494) hx hb dL_law_45 (by decide) (by decide) (by decide) (by decide) ?_
      exact law_case_20 hl9 hx hb hr hlocks hX hbl hbA hAs hS hml hown hts0 hts hA hE hg hP hD hK hl
    · refine lv_tableIn (off := 1505) (tgt := 1550) hx hb dL_law_45 (by decide) (by decide) (by decide) (by decide) ?_
      exact law_case_21 hl9 hx hb hr hlocks hX hbl hbA hAs hS hml hown hts0 hts hA hE hg hP hD hK hl
    · refine lv_tableIn (off := 1573) (tgt := 1618) hx hb dL_law_45 (by decide) (by decide) (by decide) (by decide) ?_
      exact law_case_22 hl9 hx hb hr hlocks hX hbl hbA hAs hS hml hown hts0 hts hA hE hg hP hD hK hl
    · refine lv_tableOut (tgt := 1632) hx hb dL_law_45 (Or.inr (by decide)) (by decide) ?_
      exact law_tail hx hb hr hlocks hX hbl hbA hAs hS (Nat.le_of_ble_eq_true rfl) (Nat.le_of_ble_eq_true rfl) (lv_sub hl [0, 5] rfl)
    · refine lv_tableOut (tgt := 1632) hx hb dL_law_45 (Or.inr (by decide)) (by decide) ?_
      exact law_tail hx hb hr hlocks hX hbl hbA hAs hS (Nat.le_of_ble_eq_true rfl) (Nat.le_of_ble_eq_true rfl) (lv_sub hl [0, 5] rfl)
    · refine lv_tableOut (tgt := 1632) hx hb dL_law_45 (Or.inr (by decide)) (by decide) ?_
      exact law_tail hx hb hr hlocks hX hbl hbA hAs hS (Nat.le_of_ble_eq_true rfl) (Nat.le_of_ble_eq_true rfl) (lv_sub hl [0, 5] rfl)
    · refine lv_tableOut (tgt := 1632) hx hb dL_law_45 (Or.inr (by decide)) (by decide) ?_
      exact law_tail hx hb hr hlocks hX hbl hbA hAs hS (Nat.le_of_ble_eq_true rfl) (Nat.le_of_ble_eq_true rfl) (lv_sub hl [0, 5] rfl)
    · refine lv_tableOut (tgt := 1632) hx hb dL_law_45 (Or.inr (by decide)) (by decide) ?_
      exact law_tail hx hb hr hlocks hX hbl hbA hAs hS (Nat.le_of_ble_eq_true rfl) (Nat.le_of_ble_eq_true rfl) (lv_sub hl [0, 5] rfl)
    · refine lv_tableOut (tgt := 1632) hx hb dL_law_45 (Or.inr (by decide)) (by decide) ?_
      exact law_tail hx hb hr hlocks hX hbl hbA hAs hS (Nat.le_of_ble_eq_true rfl) (Nat.le_of_ble_eq_true rfl) (lv_sub hl [0, 5] rfl)
    · refine lv_tableOut (tgt := 1632) hx hb dL_law_45 (Or.inr (by decide)) (by decide) ?_
      exact law_tail hx hb hr hlocks hX hbl hbA hAs hS (Nat.le_of_ble_eq_true rfl) (Nat.le_of_ble_eq_true rfl) (lv_sub hl [0, 5] rfl)
    · refine lv_tableOut (tgt := 1632) hx hb dL_law_45 (Or.inr (by decide)) (by decide) ?_
      exact law_tail hx hb hr hlocks hX hbl hbA hAs hS (Nat.le_of_ble_eq_true rfl) (Nat.le_of_ble_eq_true rfl) (lv_sub hl [0, 5] rfl)
    · refine lv_tableOut (tgt := 1632) hx hb dL_law_45 (Or.inr (by decide)) (by decide) ?_
      exact law_tail hx hb hr hlocks hX hbl hbA hAs hS (Nat.le_of_ble_eq_true rfl) (Nat.le_of_ble_eq_true rfl) (lv_sub hl [0, 5] rfl)
-- ===== YOUR PART ENDS =====
set_option maxHeartbeats 4000000 in
theorem lw_walk (l : Launch) (hflags : l.flags = flags0) (b : Addr) (xs : List Int32) : MetFree l x (headSpec (Jvm.Cond.code x code maxLocals ret :: tables_1) room_1) (lw_P b xs) (fun _ _ _ _ _ => True) lw_Q := by
  refine MetFree.of_bodyS (code := code) (maxLocals := maxLocals) (ret := ret) (by decide) ?_ ?_
  · intro args s m h hn
    obtain ⟨meth, c, h1, h2, h3, h4, h5, h6, -, -⟩ := Cond.code_spec hn (atoms_spec (ws := Jvm.Cond.code x code maxLocals ret :: tables_1) h _ List.mem_cons_self)
    exact ⟨meth, c, h1, h2, h3, h4, h5, h6⟩
  · intro p e s m args below meth c s₁ B hml0 hP _
    obtain ⟨rfl, hx, hbd, hgv⟩ := hP
    obtain ⟨scr, harrAt, hlist, hof, hsmall⟩ := hx
    obtain ⟨hcb, hkn, -, -⟩ := State.arrayAt?_spec harrAt
    have hown : s.vm.findClass R_law = some m.cls := findClass_of_methodNamed B.named
    have hts0 : ∀ c ∈ (Jvm.Cond.code x code maxLocals ret :: tables_1), c.before #[Value.ref b] s = true := atoms_spec (ws := Jvm.Cond.code x code maxLocals ret :: tables_1) B.pre
    have hts : ∀ w ∈ lw_tbl, w.before #[Value.ref b] s = true := k2_hts_sels lw_privs (fun w hw => hts0 w (List.mem_cons_of_mem _ hw)) lw_privs_ok
    have hml : c.maxLocals = 10 := B.maxLocals_eq (hts0 _ List.mem_cons_self)
    have X₀ : Stand p l e room_1 s m #[Value.ref b] below meth c s₁ [] 0 0 := Stand.of_body B
    have hh0 : s₁.heap = s.heap := by rw [B.state]; rfl
    have hsz : scr.slots.size = xs.length := by rw [← Array.length_toList, hlist, List.length_map]
    have hval : ∀ j : Nat, j < xs.length → scr.slots[j]? = some (.int (xs.getD j 0)) := fun j hj => by
      rw [← Array.getElem?_toList, hlist]
      simp [hj]
    have hbl : b < s.heap.size := (Array.getElem?_eq_some_iff.mp hcb).1
    have hX : va_X b xs.length (fun j => xs.getD j 0) s s.heap := ⟨scr, hcb, hof, hkn, hsz, hval⟩
    have K : W p l e room_1 s m #[Value.ref b] below meth c s₁.heap [] 0 0 (lw_Z below #[Value.ref b] s) (entryFrame m ([Value.ref b] : List Value).toArray 10) := by
      rw [hh0]
      exact whole_start l hflags hbd ⟨B.exec, B.bytes, B.returns, hml, hown, hts, hX, hbl, B.notSynchronized, hgv⟩
    obtain ⟨t, a1, o, b1, b2, b3⟩ := K s₁ rfl X₀
    exact ⟨t, o, a1, b1, b2, b3⟩
theorem lw_pre_spec {args : Array Value} {s : State} (h : (Jvm.Cond.and given_1 narrow_1).before args s = true) (hr : rest_1_c.before args s = true) : ∃ (b : Addr) (xs : List Int32), lw_P b xs args s := by
  have hs := flat_of_before _ h
  have hq := flat_of_before _ hr
  have hc : (Cond.count 1).before args s = true := hs _ (by decide +kernel)
  have harr : (Cond.arrayOf (.arg 0) .int).before args s = true := hs _ (by decide +kernel)
  have hle : (Cond.le (.length (.arg 0)) (.int 7)).before args s = true := hs _ (by decide +kernel)
  have hlen : (Cond.isInt (.length (.arg 0))).before args s = true := hq _ (by decide +kernel)
  have hall : (Cond.all (.arg 0) (.isInt (.elem (.arg 0) (.index 0)))).before args s = true := hq _ (by decide +kernel)
  obtain ⟨b, xs, hb, hx⟩ := State.ints_of_pre rfl harr hlen hall
  have hsm : xs.length < 2 ^ 31 := hx.choose_spec.2.2.2
  have hev : (Term.length (.arg 0)).eval args s none [] s = some (.int xs.length.toInt32) := hx.length_eval hb
  have hv := Cond.le_ints hev (show (Term.int 7).eval args s none [] s = some (.int 7) from rfl)
  have hd : xs.length.toInt32 ≤ 7 := by
    simpa [Cond.before, Cond.holds, hv] using hle
  have hN : xs.length ≤ 7 := (Int32.ofNat_le_ofNat hsm (by decide)).mp (show Int32.ofNat xs.length ≤ Int32.ofNat 7 from hd)
  exact ⟨b, xs, Cond.one_arg hc (show args[0]? = some (.ref b) from hb), hx, hN, h⟩
theorem lw_comes (l : Launch) (hflags : l.flags = flags0) : Comes l x (Jvm.Cond.code x code maxLocals ret :: tables_1) room_1 (fun tb e args s => Calls_1 tb e args s ∧ rest_1 tb e args s ∧ Pre_1 tb e args s)
    (fun _ _ args s o t => lw_Q args s o t) := by
  intro p e ha hc hk s m args below hf hfit hheap happ hpre
  obtain ⟨b, xs, hP⟩ := lw_pre_spec hpre.2.2 hpre.2.1
  obtain ⟨k, o, h1, h2, h3, hQ⟩ := lw_walk l hflags b xs p e ha hc hk s m args below hf ((Spec.applies_iff_loose hf).mp happ).1 hP trivial
  exact ⟨k, o, h1, h2, h3, hQ⟩
theorem lw_frame {s t : State} {o : Outcome} {args : Array Value} (h : State.butDraws s t lw_cs (fun t1 => Framed s o t1 [] 632229 7205549)) :
    State.butDraws s t [Jvm.Choice.named "NaN.bits", Jvm.Choice.named "NaN.copy"] (fun t1 => Framed s o t1 (fieldLocs frame_1_writes args s ++ arrayLocs frame_1_arrays args s ++ staticLocs frame_1_statics s) 632229 7205549) := h
theorem lw_limb (L : Cond) (hL : ∀ (args : Array Value) (s t : State), L.after args s (.returned (some (.int 1))) t = true) :
    ArmFor flags0 classFile x code maxLocals ret World_1 tables_1 room_1 Calls_1 rest_1 Pre_1
      (fun tb e a s o t => postC L tb e a s o t ∧ State.butDraws s t [Jvm.Choice.named "NaN.bits", Jvm.Choice.named "NaN.copy"] (fun t1 => Framed s o t1 (fieldLocs frame_1_writes a s ++ arrayLocs frame_1_arrays a s ++ staticLocs frame_1_statics s) 632229 7205549)) := by
  intro l hflags _ _ p e ha hc hk s m args below hf hfit hheap happ hpre
  obtain ⟨k, o, h1, h2, h3, rfl, hF⟩ := lw_comes l hflags p e ha hc hk s m args below hf hfit hheap happ hpre
  exact ⟨k, _, h1, h2, h3, hL args s _, lw_frame hF⟩
theorem i_vc : Claimed_1_1 ∧ Claimed_1_2 := ⟨lw_limb limb_1_1 (fun args s t => by simp [limb_1_1, Cond.after, Cond.holds, Cond.value]), lw_limb limb_1_2 (fun args s t => Cond.after_iff.mpr (by
  first | (rw [show limb_1_2 = Cond.eq .result (.int 1) from rfl, Cond.eq_ints (x := 1) (y := 1) rfl rfl]; simp; done) | (simp [limb_1_2, Cond.value, Term.eval]; done)))⟩

