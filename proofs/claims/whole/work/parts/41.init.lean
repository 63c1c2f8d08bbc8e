/-! constructors -/
def x_up (a : Nat) : Addr → Prop := fun q => a ≤ q
theorem x_up_in {a q : Nat} (h : a ≤ q) : x_up a q := h
theorem x_up_le {a q : Nat} (h : x_up a q) : a ≤ q := h
def x_lo (a : Nat) (H H1 : Heap) : Prop := ∀ q : Nat, q < a → H1[q]? = H[q]?
theorem x_lo.rf {a : Nat} {H : Heap} : x_lo a H H := fun _ _ => rfl
theorem x_lo.n {a : Nat} {H H1 H2 : Heap} (h : x_lo a H H1) (h2 : x_n H1 H2) (hs : a ≤ H1.size) : x_lo a H H2 := fun q hq => (h2.2 q (by omega)).trans (h q hq)
theorem x_lo.o {a b : Nat} {H H1 H2 : Heap} (h : x_lo a H H1) (h2 : x_1 b H1 H2) (hb : a ≤ b) : x_lo a H H2 := fun q hq => (h2.2 q (by omega)).trans (h q hq)
theorem x_lo.t {a b : Nat} {H H1 H2 : Heap} (h : x_lo a H H1) (h2 : x_lo b H1 H2) (hb : a ≤ b) : x_lo a H H2 := fun q hq => (h2 q (by omega)).trans (h q hq)
def s_0 : s_T := (0, 0, 0, 0, none)
def d_0 : d_T := (0, -1, fun _ => 0, fun _ => 0, fun _ => 0, fun _ => 0, fun _ => false, fun _ => 0, fun _ _ => s_0)
set_option maxHeartbeats 4000000 in
set_option maxRecDepth 100000 in
theorem c_Statement_init (l : Launch) (D : va_G) (cA : Nat → ClassId) (a : Nat) : Met l y_Statement_init [.code y_Statement_init b_Statement_init 1 none] (x_rm 1 0 0) (x_P D cA [.ref a] (fun _ => True)) (x_Q (none) (x_same)) 0 0 (fun _ => False) := by
  refine x_met (own := "DecisionLayers$Statement") (by decide) rfl (Nat.le_of_ble_eq_true rfl) ?_
  intro pp ee s mm below mt cd ls hx hb hr hlk hnm hml hown hts hE hP hl
  have hl : lv_has ls 1 [(0, .ref a)] := hl
  refine lv_aload_n hx hb d_Statement_init_0 rfl (lv_at hl 0 rfl) ?_
  refine W.objInit hx hb hown (hts _ w_1_50) (hts _ w_1_18) (hts _ w_1_19) rfl (by rw [hml]; exact hl.1) rfl d_Statement_init_1 (Nat.le_of_ble_eq_true rfl) (Nat.le_of_ble_eq_true rfl) ?_
  refine W.eq (g2 := F0 mm 4 ls []) rfl ?_
  exact W.vret hx hb hr (fun t ht hW => ⟨rfl, ht⟩) (fun q h => by cases h) d_Statement_init_4
set_option maxHeartbeats 4000000 in
set_option maxRecDepth 100000 in
theorem c_Values_init (l : Launch) (D : va_G) (cA : Nat → ClassId) (a : Nat) : Met l y_Values_init [.code y_Values_init b_Values_init 1 none] (x_rm 1 2 40) (x_P D cA [.ref a] (fun H => H.size = a + 1 ∧ va_at D x_cl (a, .inr (0, [.null, .null])) H)) (x_Q (none) (fun H H1 => H1.size = a + 3 ∧ v_W D cA a (fun _ => 0) (fun _ => 0) H1 ∧ x_lo a H H1)) 2 40 (x_up a) := by
  refine x_met (own := "DecisionLayers$Values") (by decide) rfl (Nat.le_of_ble_eq_true rfl) ?_
  intro pp ee s mm below mt cd ls hx hb hr hlk hnm hml hown hts hE hP hl
  have hl : lv_has ls 1 [(0, .ref a)] := hl
  obtain ⟨hs, hO⟩ := hP
  have hF : ∀ q ∈ ([] : List Loc), x_up a q.base := t_nil
  refine lv_aload_n hx hb d_Values_init_0 rfl (lv_at hl 0 rfl) ?_
  refine W.objInit hx hb hown (hts _ w_1_25) (hts _ w_1_18) (hts _ w_1_19) rfl (by rw [hml]; exact hl.1) rfl d_Values_init_1 (Nat.le_of_ble_eq_true rfl) (Nat.le_of_ble_eq_true rfl) ?_
  refine W.eq (g2 := F0 mm 4 ls []) rfl ?_
  refine lv_aload_n hx hb d_Values_init_4 rfl (lv_at hl 0 rfl) ?_
  refine lv_bipush (v := 32) hx hb d_Values_init_5 (by decide) ?_
  refine x_newa (atype := .long) (a0 := (32, .inr (.inl (fun _ => 0)))) (ty := .long) hx hb (hts _ w_1_33) rfl hE.2.2 1 rfl (fun _ => rfl) (by decide) (by decide) (by decide) (Nat.le_of_ble_eq_true rfl) (Nat.le_of_ble_eq_true rfl) d_Values_init_7 (fun H1 g1 n1 => ?_)
  rw [hs] at g1 ⊢
  have hs1 : H1.size = a + 2 := by rw [n1.1, hs]
  have hO := hO.kn n1
  have hx1 := (x_lo.rf (a := a) (H := s.heap)).n n1 (by omega)
  refine fp_Values_9_Values hx hb hown hts hE hnm hO rfl rfl (Nat.le_of_ble_eq_true rfl) d_Values_init_9 (fun H2 k2 g2 o2 => ?_)
  have hF := t_lc (a := a) (i := k2) hF (x_up_in (Nat.le_refl _))
  have g1 := g1.k1 o2 (show a + 1 ≠ a by omega)
  have hs2 : H2.size = a + 2 := by rw [o2.1, hs1]
  have hx2 := hx1.o o2 (Nat.le_refl _)
  refine lv_aload_n hx hb d_Values_init_12 rfl (lv_at hl 0 rfl) ?_
  refine lv_bipush (v := 8) hx hb d_Values_init_13 (by decide) ?_
  refine x_newa (atype := .int) (a0 := (8, .inl (fun _ => 0))) (ty := .int) hx hb (hts _ w_1_34) rfl hE.2.2 0 rfl (fun _ => rfl) (by decide) (by decide) (by decide) (Nat.le_of_ble_eq_true rfl) (Nat.le_of_ble_eq_true rfl) d_Values_init_15 (fun H3 g3 n3 => ?_)
  rw [hs2] at g3 ⊢
  have hs3 : H3.size = a + 3 := by rw [n3.1, hs2]
  have g2 := g2.kn n3
  have g1 := g1.kn n3
  have hx3 := hx2.n n3 (by omega)
  refine fp_Values_13_Values hx hb hown hts hE hnm g2 rfl rfl (Nat.le_of_ble_eq_true rfl) d_Values_init_17 (fun H4 k4 g4 o4 => ?_)
  have hF := t_lc (a := a) (i := k4) hF (x_up_in (Nat.le_refl _))
  have g1 := g1.k1 o4 (show a + 1 ≠ a by omega)
  have g3 := g3.k1 o4 (show a + 2 ≠ a by omega)
  exact W.vret hx hb hr (fun t ht hW => ⟨rfl, by rw [ht]; exact ⟨by rw [o4.1, hs3], ⟨g4, g1, g3⟩, hx3.o o4 (Nat.le_refl _)⟩⟩) hF d_Values_init_20
set_option maxHeartbeats 4000000 in
set_option maxRecDepth 100000 in
theorem c_Layer_init (l : Launch) (D : va_G) (cA : Nat → ClassId) (N : n_T) (L : Nat) : Met l y_Layer_init [.code y_Layer_init b_Layer_init 2 none] (x_rm 2 7 36) (x_P D cA [.ref L] (fun H => H.size = L + 1 ∧ va_at D x_cl (L, .inr (1, [.null, .int 0, .int 0, .int 0])) H)) (x_Q (none) (fun H H1 => H1.size = L + 8 ∧ l_W D cA N L 0 false 0 (fun _ => s_0) H1 ∧ x_lo L H H1)) 7 36 (x_up L) := by
  refine x_met (own := "DecisionLayers$Layer") (by decide) rfl (Nat.le_of_ble_eq_true rfl) ?_
  intro pp ee s mm below mt cd ls hx hb hr hlk hnm hml hown hts hE hP hl
  have hl : lv_has ls 2 [(0, .ref L)] := hl
  obtain ⟨hs, hO⟩ := hP
  have hF : ∀ q ∈ ([] : List Loc), x_up L q.base := t_nil
  refine lv_aload_n hx hb d_Layer_init_0 rfl (lv_at hl 0 rfl) ?_
  refine W.objInit hx hb hown (hts _ w_1_43) (hts _ w_1_18) (hts _ w_1_19) rfl (by rw [hml]; exact hl.1) rfl d_Layer_init_1 (Nat.le_of_ble_eq_true rfl) (Nat.le_of_ble_eq_true rfl) ?_
  refine W.eq (g2 := F0 mm 4 ls []) rfl ?_
  refine lv_aload_n hx hb d_Layer_init_4 rfl (lv_at hl 0 rfl) ?_
  refine lv_bipush (v := 6) hx hb d_Layer_init_5 (by decide) ?_
  refine x_newq (N' := 6) hx hb hown (hts _ w_1_44) hE.2.1.2.2.2.2.2.2.2.2.1 hE.2.2 6 rfl (by decide) (by decide) (by decide) (Nat.le_of_ble_eq_true rfl) (Nat.le_of_ble_eq_true rfl) d_Layer_init_7 (fun H1 g1 n1 => ?_)
  rw [hs] at g1 ⊢
  have hs1 : H1.size = L + 2 := by rw [n1.1, hs]
  have hO := hO.kn n1
  have hx1 := (x_lo.rf (a := L) (H := s.heap)).n n1 (by omega)
  refine fp_Layer_13_Layer hx hb hown hts hE hnm hO rfl rfl (Nat.le_of_ble_eq_true rfl) d_Layer_init_10 (fun H2 k2 g2 o2 => ?_)
  have hF := t_lc (a := L) (i := k2) hF (x_up_in (Nat.le_refl _))
  have g1 := g1.k1 o2 (show L + 1 ≠ L by omega)
  have hs2 : H2.size = L + 2 := by rw [o2.1, hs1]
  have hx2 := hx1.o o2 (Nat.le_refl _)
  refine lv_iconst (v := 0) hx hb d_Layer_init_13 (by decide) ?_
  refine lv_istore_n (lv' := [(1, .int 0), (0, .ref L)]) hx hb d_Layer_init_14 rfl hl (by decide) rfl (fun ls hl => ?_)
  refine x_loopG (I := fun r ls H locs cells slots => ∃ k, k + r = 6 ∧ cells = 1 + k ∧ slots = 6 + 5 * k ∧ lv_has ls 2 [(1, .int (nI k)), (0, .ref L)] ∧ H.size = L + 2 + k ∧ va_at D x_cl (L, .inr (1, [.ref (L + 1), .int 0, .int 0, .int 0])) H ∧ va_at D x_cl (L + 1, .inl (cA 6, 6, .inr (.inr (.inr (.inr (fun j => if j < k then some (L + 2 + j) else none)))))) H ∧ (∀ j, j < k → va_at D x_cl (L + 2 + j, .inr (2, s_fs N s_0)) H) ∧ x_lo L s.heap H ∧ ∀ q ∈ locs, x_up L q.base) (fun r ls H locs cells slots ih h => ?_) 6 ⟨0, rfl, rfl, rfl, (lv_sub hl [0, 1] rfl), hs2, g2, g1.refs (fun j hj => by rw [if_neg (by omega)]), fun j hj => absurd hj (Nat.not_lt_zero j), hx2, hF⟩
  obtain ⟨k, hkr, rfl, rfl, hl, hHs, hO, hA, hS, hx0, hF⟩ := h
  refine lv_iload_n hx hb d_Layer_init_15 rfl (lv_at hl 0 rfl) ?_
  refine lv_bipush (v := 6) hx hb d_Layer_init_16 (by decide) ?_
  refine lv_icmp_ge (tgt := 40) hx hb d_Layer_init_18 (by decide) (fun c1 => ?_) (fun c1 => ?_)
  · have c1 := n_ge (k := 6) c1 (by decide) (by omega)
    obtain rfl : k = 6 := by omega
    exact W.vret hx hb hr (fun t ht hW => ⟨rfl, by rw [ht]; exact ⟨hHs, ⟨hO, hA.refs (fun j hj => by rw [if_pos hj]), hS⟩, hx0⟩⟩) hF d_Layer_init_40
  · have c1 := n_lt (k := 6) c1 (by decide) (by omega)
    refine lv_aload_n hx hb d_Layer_init_21 rfl (lv_at hl 1 rfl) ?_
    refine fg_Layer_13_Layer hx hb hown hts hE hO rfl d_Layer_init_22 ?_
    refine lv_iload_n hx hb d_Layer_init_25 rfl (lv_at hl 0 rfl) ?_
    refine x_new (ci := 2) (fs := [.int 0, .long 0, .long 0, .int 0, .null]) hx hb hts in_Statement t_Statement t_Statement_ok hown (hts _ w_1_44) (hts _ w_1_46) (hts _ w_1_4) hE.2.2 rfl (fun j hj => by rcases (show j = 0 ∨ j = 1 ∨ j = 2 ∨ j = 3 ∨ j = 4 by omega) with rfl | rfl | rfl | rfl | rfl <;> rfl) (show 1 + k + 1 ≤ 7 by omega) (show 6 + 5 * k + 5 ≤ 36 by omega) d_Layer_init_26 (fun H3 g3 n3 => ?_)
    rw [hHs] at g3 ⊢
    refine lv_dup hx hb d_Layer_init_29 rfl ?_
    refine x_cv (k_Layer_17 (As := []) (rest := [.ref (L + 2 + k), .int (nI k), .ref (L + 1)]) hx hb hml hown hts hE (c_Statement_init l D cA (L + 2 + k)) (x_preS hE trivial) rfl hl.1 rfl (Nat.le_of_ble_eq_true rfl) d_Layer_init_30 (by decide) ⟨(show 1 + k + 1 + 0 ≤ 7 by omega), (show 6 + 5 * k + 5 + 0 ≤ 36 by omega)⟩) (fun H4 L4 p4 f4 => ?_)
    have hF := t_lL hF (fun q h => (show ∀ q : Nat, False → x_up L q from fun q h => h.elim) q.base (f4 q h))
    obtain rfl : H4 = H3 := p4
    refine x_aast hx hb hE.2.2 (hA.kn n3) 6 rfl (va_rAny (q0 := 0) (ci := 2) hE.2.2 (x_one g3) rfl rfl (fun comp c0 h1 h2 => vb_asgS comp c0 h1 h2)) c1 (by decide) d_Layer_init_33 (fun H5 k5 g5 o5 => ?_)
    have hF := t_lc (a := L + 1) (i := k5) hF (x_up_in (by omega))
    refine lv_iinc (k := 0) (v := nI (k + 1)) (lv' := [(1, .int (nI (k + 1))), (0, .ref L)]) hx hb d_Layer_init_34 hl rfl (x_inc _) (by decide) rfl (fun ls hl => ?_)
    refine lv_goto (tgt := 15) hx hb d_Layer_init_37 (by decide) ?_
    exact ih (r - 1) _ _ _ _ _ (by omega) ⟨k + 1, by omega, by omega, by omega, (lv_sub hl [0, 1] rfl), by rw [o5.1, n3.1, hHs]; omega, (hO.kn n3).k1 o5 (show L ≠ L + 1 by omega), g5.refs (fun j hj => by
      by_cases e : j = k
      · subst e; simp [va_up]
      · by_cases h9 : j < k
        · simp [va_up, e, h9, show j < k + 1 by omega]
        · simp [va_up, e, h9, show ¬ j < k + 1 by omega]), fun j hj => by
      by_cases e : j = k
      · subst e; exact g3.k1 o5 (show L + 2 + j ≠ L + 1 by omega)
      · exact ((hS j (by omega)).kn n3).k1 o5 (show L + 2 + j ≠ L + 1 by omega), (hx0.n n3 (by omega)).o o5 (by omega), hF⟩
set_option maxHeartbeats 4000000 in
set_option maxRecDepth 100000 in
theorem c_DL_init (l : Launch) (D : va_G) (cA : Nat → ClassId) (N : n_T) (o : Nat) : Met l y_DL_init [.code y_DL_init b_DL_init 2 none] (x_rm 3 53 296) (x_P D cA [.ref o] (fun H => H.size = o + 1 ∧ va_at D x_cl (o, .inr (5, [.null, .null, .null, .int 0, .int 0])) H)) (x_Q (none) (fun H H1 => H1.size = o + 54 ∧ d_W D cA N o d_0 H1 ∧ x_lo o H H1)) 53 296 (x_up o) := by
  refine x_met (own := "DecisionLayers") (by decide) rfl (Nat.le_of_ble_eq_true rfl) ?_
  intro pp ee s mm below mt cd ls hx hb hr hlk hnm hml hown hts hE hP hl
  have hl : lv_has ls 2 [(0, .ref o)] := hl
  obtain ⟨hs, hO⟩ := hP
  have hF : ∀ q ∈ ([] : List Loc), x_up o q.base := t_nil
  refine lv_aload_n hx hb d_DL_init_0 rfl (lv_at hl 0 rfl) ?_
  refine W.objInit hx hb hown (hts _ w_1_17) (hts _ w_1_18) (hts _ w_1_19) rfl (by rw [hml]; exact hl.1) rfl d_DL_init_1 (Nat.le_of_ble_eq_true rfl) (Nat.le_of_ble_eq_true rfl) ?_
  refine W.eq (g2 := F0 mm 4 ls []) rfl ?_
  refine lv_aload_n hx hb d_DL_init_4 rfl (lv_at hl 0 rfl) ?_
  refine x_new (ci := 0) (fs := [.null, .null]) hx hb hts in_Values t_Values t_Values_ok hown (hts _ w_1_20) (hts _ w_1_21) (hts _ w_1_2) hE.2.2 rfl (fun j hj => by rcases (show j = 0 ∨ j = 1 by omega) with rfl | rfl <;> rfl) (Nat.le_of_ble_eq_true rfl) (Nat.le_of_ble_eq_true rfl) d_DL_init_5 (fun H1 g1 n1 => ?_)
  rw [hs] at g1 ⊢
  have hs1 : H1.size = o + 2 := by rw [n1.1, hs]
  have hO := hO.kn n1
  have hx1 := (x_lo.rf (a := o) (H := s.heap)).n n1 (by omega)
  refine lv_dup hx hb d_DL_init_8 rfl ?_
  refine x_cv (k_DL_9 (As := []) (rest := [.ref (o + 1), .ref o]) hx hb hml hown hts hE (c_Values_init l D cA (o + 1)) (x_preS hE ⟨hs1, g1⟩) rfl hl.1 rfl (Nat.le_of_ble_eq_true rfl) d_DL_init_9 (by decide) ⟨Nat.le_of_ble_eq_true rfl, Nat.le_of_ble_eq_true rfl⟩) (fun H2 L2 p2 f2 => ?_)
  have hF := t_lL hF (fun q h => (show ∀ q : Nat, x_up (o + 1) q → x_up o q from fun q h => x_up_in (by have := x_up_le h; omega)) q.base (f2 q h))
  obtain ⟨hs2, hV, hx2⟩ := p2
  have hs2 : H2.size = o + 4 := hs2
  have hO := hO.kept (hx2 o (by omega))
  have hx2 := hx1.t hx2 (by omega)
  refine fp_DL_10_DL hx hb hown hts hE hnm hO rfl rfl (Nat.le_of_ble_eq_true rfl) d_DL_init_12 (fun H3 k3 g3 o3 => ?_)
  have hF := t_lc (a := o) (i := k3) hF (x_up_in (Nat.le_refl _))
  have hs3 : H3.size = o + 4 := by rw [o3.1, hs2]
  have hV := hV.kept (H1 := H3) (fun q a b => o3.2 q (by omega))
  have hx3 := hx2.o o3 (Nat.le_refl _)
  refine lv_aload_n hx hb d_DL_init_15 rfl (lv_at hl 0 rfl) ?_
  refine lv_bipush (v := 8) hx hb d_DL_init_16 (by decide) ?_
  refine x_newq (N' := 8) hx hb hown (hts _ w_1_35) hE.2.1.2.2.2.2.2.2.1 hE.2.2 4 rfl (by decide) (by decide) (by decide) (Nat.le_of_ble_eq_true rfl) (Nat.le_of_ble_eq_true rfl) d_DL_init_18 (fun H4 g4 n4 => ?_)
  rw [hs3] at g4 ⊢
  have hs4 : H4.size = o + 5 := by rw [n4.1, hs3]
  have hV := hV.kept (H1 := H4) (fun q a b => n4.2 q (by omega))
  have hx4 := hx3.n n4 (by omega)
  refine fp_DL_18_DL hx hb hown hts hE hnm (g3.kn n4) rfl rfl (Nat.le_of_ble_eq_true rfl) d_DL_init_21 (fun H5 k5 g5 o5 => ?_)
  have hF := t_lc (a := o) (i := k5) hF (x_up_in (Nat.le_refl _))
  have hs5 : H5.size = o + 5 := by rw [o5.1, hs4]
  have hV := hV.kept (H1 := H5) (fun q a b => o5.2 q (by omega))
  have g4 := g4.k1 o5 (show o + 4 ≠ o by omega)
  have hx5 := hx4.o o5 (Nat.le_refl _)
  refine lv_aload_n hx hb d_DL_init_24 rfl (lv_at hl 0 rfl) ?_
  refine lv_bipush (v := 6) hx hb d_DL_init_25 (by decide) ?_
  refine x_newq (N' := 6) hx hb hown (hts _ w_1_37) hE.2.1.2.2.2.2.2.2.2.1 hE.2.2 5 rfl (by decide) (by decide) (by decide) (Nat.le_of_ble_eq_true rfl) (Nat.le_of_ble_eq_true rfl) d_DL_init_27 (fun H6 g6 n6 => ?_)
  rw [hs5] at g6 ⊢
  have hs6 : H6.size = o + 6 := by rw [n6.1, hs5]
  have hV := hV.kept (H1 := H6) (fun q a b => n6.2 q (by omega))
  have g4 := g4.kn n6
  have hx6 := hx5.n n6 (by omega)
  refine fp_DL_24_DL hx hb hown hts hE hnm (g5.kn n6) rfl rfl (Nat.le_of_ble_eq_true rfl) d_DL_init_30 (fun H7 k7 g7 o7 => ?_)
  have hF := t_lc (a := o) (i := k7) hF (x_up_in (Nat.le_refl _))
  have hs7 : H7.size = o + 6 := by rw [o7.1, hs6]
  have hV := hV.kept (H1 := H7) (fun q a b => o7.2 q (by omega))
  have g4 := g4.k1 o7 (show o + 4 ≠ o by omega)
  have g6 := g6.k1 o7 (show o + 5 ≠ o by omega)
  have hx7 := hx6.o o7 (Nat.le_refl _)
  refine lv_iconst (v := 0) hx hb d_DL_init_33 (by decide) ?_
  refine lv_istore_n (lv' := [(1, .int 0), (0, .ref o)]) hx hb d_DL_init_34 rfl hl (by decide) rfl (fun ls hl => ?_)
  refine x_loopG (I := fun r ls H locs cells slots => ∃ k, k + r = 6 ∧ cells = 5 + 8 * k ∧ slots = 56 + 40 * k ∧ lv_has ls 2 [(1, .int (nI k)), (0, .ref o)] ∧ H.size = o + 6 + 8 * k ∧ va_at D x_cl (o, .inr (5, [.ref (o + 1), .ref (o + 4), .ref (o + 5), .int 0, .int 0])) H ∧ (v_W D cA (o + 1) (fun _ => 0) (fun _ => 0) H ∧ va_at D x_cl (o + 4, .inl (cA 4, 8, .inr (.inr (.inr (.inr (fun _ => none)))))) H) ∧ va_at D x_cl (o + 5, .inl (cA 5, 6, .inr (.inr (.inr (.inr (fun j => if j < k then some (o + 6 + 8 * j) else none)))))) H ∧ (∀ j, j < k → l_W D cA N (o + 6 + 8 * j) 0 false 0 (fun _ => s_0) H) ∧ x_lo o s.heap H ∧ ∀ q ∈ locs, x_up o q.base) (fun r ls H locs cells slots ih h => ?_) 6 ⟨0, rfl, rfl, rfl, (lv_sub hl [0, 1] rfl), hs7, g7, ⟨hV, g4⟩, g6.refs (fun j hj => by rw [if_neg (by omega)]), fun j hj => absurd hj (Nat.not_lt_zero j), hx7, hF⟩
  obtain ⟨k, hkr, rfl, rfl, hl, hHs, hO, ⟨hV, hC⟩, hA, hS, hx0, hF⟩ := h
  refine lv_iload_n hx hb d_DL_init_35 rfl (lv_at hl 0 rfl) ?_
  refine lv_bipush (v := 6) hx hb d_DL_init_36 (by decide) ?_
  refine lv_icmp_ge (tgt := 60) hx hb d_DL_init_38 (by decide) (fun c1 => ?_) (fun c1 => ?_)
  · have c1 := n_ge (k := 6) c1 (by decide) (by omega)
    obtain rfl : k = 6 := by omega
    refine lv_aload_n hx hb d_DL_init_60 rfl (lv_at hl 1 rfl) ?_
    refine lv_iconst (v := 0) hx hb d_DL_init_61 (by decide) ?_
    refine fp_DL_29_DL hx hb hown hts hE hO rfl rfl (Nat.le_of_ble_eq_true rfl) d_DL_init_62 (fun H8 k8 g8 o8 => ?_)
    have hF := t_lc (a := o) (i := k8) hF (x_up_in (Nat.le_refl _))
    refine lv_aload_n hx hb d_DL_init_65 rfl (lv_at hl 1 rfl) ?_
    refine lv_iconst (v := (-1)) hx hb d_DL_init_66 (by decide) ?_
    refine fp_DL_33_DL hx hb hown hts hE g8 rfl rfl (Nat.le_of_ble_eq_true rfl) d_DL_init_67 (fun H9 k9 g9 o9 => ?_)
    have hF := t_lc (a := o) (i := k9) hF (x_up_in (Nat.le_refl _))
    have hk9 : ∀ q : Nat, q ≠ o → H9[q]? = H[q]? := fun q hq => (o9.2 q hq).trans (o8.2 q hq)
    exact W.vret hx hb hr (fun t ht hW => ⟨rfl, by rw [ht]; exact ⟨by rw [o9.1, o8.1, hHs], ⟨g9, hV.kept (fun q a b => hk9 q (by omega)), (hC.kept (hk9 _ (show o + 4 ≠ o by omega))).refs (fun j _ => rfl), (hA.kept (hk9 _ (show o + 5 ≠ o by omega))).refs (fun j hj => by rw [if_pos hj]), fun l hl => (hS l hl).kept (fun q a b => hk9 q (by omega))⟩, (hx0.o o8 (Nat.le_refl _)).o o9 (Nat.le_refl _)⟩⟩) hF d_DL_init_70
  · have c1 := n_lt (k := 6) c1 (by decide) (by omega)
    refine lv_aload_n hx hb d_DL_init_41 rfl (lv_at hl 1 rfl) ?_
    refine fg_DL_24_DL hx hb hown hts hE hO rfl d_DL_init_42 ?_
    refine lv_iload_n hx hb d_DL_init_45 rfl (lv_at hl 0 rfl) ?_
    refine x_new (ci := 1) (fs := [.null, .int 0, .int 0, .int 0]) hx hb hts in_Layer t_Layer t_Layer_ok hown (hts _ w_1_37) (hts _ w_1_39) (hts _ w_1_3) hE.2.2 rfl (fun j hj => by rcases (show j = 0 ∨ j = 1 ∨ j = 2 ∨ j = 3 by omega) with rfl | rfl | rfl | rfl <;> rfl) (show 5 + 8 * k + 1 ≤ 53 by omega) (show 56 + 40 * k + 4 ≤ 296 by omega) d_DL_init_46 (fun H3 g3 n3 => ?_)
    rw [hHs] at g3 ⊢
    refine lv_dup hx hb d_DL_init_49 rfl ?_
    refine x_cv (k_DL_28 (As := []) (rest := [.ref (o + 6 + 8 * k), .int (nI k), .ref (o + 5)]) hx hb hml hown hts (c_Layer_init l D cA N (o + 6 + 8 * k)) (x_preS hE ⟨by rw [n3.1, hHs], g3⟩) rfl hl.1 rfl (Nat.le_of_ble_eq_true rfl) d_DL_init_50 (by decide) ⟨(show 5 + 8 * k + 1 + 7 ≤ 53 by omega), (show 56 + 40 * k + 4 + 36 ≤ 296 by omega)⟩) (fun H4 L4 p4 f4 => ?_)
    have hF := t_lL hF (fun q h => (show ∀ q : Nat, x_up (o + 6 + 8 * k) q → x_up o q from fun q h => x_up_in (by have := x_up_le h; omega)) q.base (f4 q h))
    obtain ⟨hs4, hL4, hx4⟩ := p4
    have hk4 : ∀ q : Nat, q < o + 6 + 8 * k → H4[q]? = H[q]? := fun q hq => (hx4 q hq).trans (n3.2 q (by omega))
    refine x_aast hx hb hE.2.2 (hA.kept (hk4 _ (show o + 5 < o + 6 + 8 * k by omega))) 5 rfl (va_rAny (q0 := 0) (ci := 1) hE.2.2 (x_one hL4.1) rfl rfl (fun comp c0 h1 h2 => vb_asgS comp c0 h1 h2)) c1 (by decide) d_DL_init_53 (fun H5 k5 g5 o5 => ?_)
    have hF := t_lc (a := o + 5) (i := k5) hF (x_up_in (by omega))
    have hk5 : ∀ q : Nat, q < o + 6 + 8 * k → q ≠ o + 5 → H5[q]? = H[q]? := fun q hq he => (o5.2 q he).trans (hk4 q hq)
    refine lv_iinc (k := 0) (v := nI (k + 1)) (lv' := [(1, .int (nI (k + 1))), (0, .ref o)]) hx hb d_DL_init_54 hl rfl (x_inc _) (by decide) rfl (fun ls hl => ?_)
    refine lv_goto (tgt := 35) hx hb d_DL_init_57 (by decide) ?_
    exact ih (r - 1) _ _ _ _ _ (by omega) ⟨k + 1, by omega, by omega, by omega, (lv_sub hl [0, 1] rfl), by rw [o5.1, hs4]; omega, hO.kept (hk5 _ (show o < o + 6 + 8 * k by omega) (show o ≠ o + 5 by omega)), ⟨hV.kept (fun q a b => hk5 q (by omega) (by omega)), hC.kept (hk5 _ (show o + 4 < o + 6 + 8 * k by omega) (show o + 4 ≠ o + 5 by omega))⟩, g5.refs (fun j hj => by
      by_cases e : j = k
      · subst e; simp [va_up]
      · by_cases h9 : j < k
        · simp [va_up, e, h9, show j < k + 1 by omega]
        · simp [va_up, e, h9, show ¬ j < k + 1 by omega]), fun j hj => by
      by_cases e : j = k
      · subst e; exact hL4.kept (fun q a b => o5.2 q (by omega))
      · exact (hS j (by omega)).kept (fun q a b => hk5 q (by omega) (by omega)), fun q hq => (hk5 q (by omega) (by omega)).trans (hx0 q hq), hF⟩
