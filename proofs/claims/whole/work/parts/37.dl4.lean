/-! the pile: pushing, popping; a new condition in the table -/
def n_ext (N : n_T) (i kd op ky : Nat) (tt : Int64) (mk dp : Nat) (ch : List Nat) (ad : Nat) : n_T := (va_up (n_kd N) i kd, va_up (n_op N) i op, va_up (n_ky N) i ky, va_up (n_tt N) i tt, va_up (n_mk N) i mk, va_up (n_dp N) i dp, va_up (n_ch N) i ch, va_up (n_ad N) i ad)
def d_push (X : d_T) (i : Nat) : d_T := (d_n X + 1, X.2.1, va_up (d_p X) (d_n X) i, X.2.2.2)
def d_setN (X : d_T) (n : Nat) : d_T := (n, X.2)
theorem n_W.any {D : va_G} {cA : Nat → ClassId} {s : State} {made : Nat} {N : n_T} {H : Heap} (hE : x_E D cA s) (hN : n_W D cA made N H) {i : Nat} (hi : i < made) : va_Any "DecisionLayers$Condition" s H (n_ad N i) := by
  by_cases hk : n_kd N i = 3
  · exact va_rAny (q0 := 0) (ci := 3) hE.2.2 (x_one ((hN i hi).1 hk)) rfl rfl (fun comp c0 h1 h2 => vb_asgC (hE.2.1.2.2.2.2.2.2.2.2.2.2) comp c0 h1 h2)
  · exact va_rAny (q0 := 0) (ci := 4) hE.2.2 (x_one ((hN i hi).2 hk).1) rfl rfl (fun comp c0 h1 h2 => vb_asgC (hE.2.1.2.2.2.2.2.2.2.2.2.1) comp c0 h1 h2)
theorem d_pc_push {N : n_T} {n i : Nat} {p : Nat → Nat} (k : Nat) : va_up (d_pc N n p) n (some (n_ad N i)) k = d_pc N (n + 1) (va_up p n i) k := by
  unfold d_pc va_up
  by_cases e : k = n
  · subst e; simp
  · by_cases h : k < n
    · simp [e, h, show k < n + 1 by omega]
    · simp [e, h, show ¬ k < n + 1 by omega]
theorem d_pc_pop {N : n_T} {n : Nat} {p : Nat → Nat} (k : Nat) : va_up (d_pc N (n + 1) p) n none k = d_pc N n p k := by
  unfold d_pc va_up
  by_cases e : k = n
  · subst e; simp
  · by_cases h : k < n
    · simp [e, h, show k < n + 1 by omega]
    · simp [e, h, show ¬ k < n + 1 by omega]
/-- the object and the pile's cells become others -/
theorem d_W.pil {D : va_G} {cA : Nat → ClassId} {N : n_T} {o : Nat} {X : d_T} {H H1 : Heap} (h : d_W D cA N o X H) (h1 : x_F (x_A [o, o + 4]) H H1) {n : Nat} {p : Nat → Nat} (hO : va_at D x_cl (o, .inr (5, [.ref (o + 1), .ref (o + 4), .ref (o + 5), .int (nI n), .int (d_e X)])) H1) (hC : va_at D x_cl (o + 4, .inl (cA 4, 8, .inr (.inr (.inr (.inr (d_pc N n p)))))) H1) : d_W D cA N o (n, X.2.1, p, X.2.2.2) H1 :=
  ⟨hO, h.2.1.kF h1 (fun q a b z => by have := x_A2.mp z; omega), hC, h.2.2.2.1.kF h1 (fun z => by have := x_A2.mp z; omega), fun l hl => (h.2.2.2.2 l hl).kept (fun q a b => h1.2 q (fun z => by have := x_A2.mp z; omega))⟩
def d_mx (f : Nat → Nat) (a : Nat) : Nat → Nat
  | 0 => 0
  | k + 1 => max (d_mx f a k) (f (a + k))
theorem d_mx_le {f : Nat → Nat} {a n b : Nat} (h : ∀ k, k < n → f (a + k) ≤ b) : d_mx f a n ≤ b := by
  induction n with
  | zero => exact Nat.zero_le _
  | succ n ih => exact Nat.max_le.mpr ⟨ih (fun k hk => h k (by omega)), h n (by omega)⟩
theorem d_mx_ge {f : Nat → Nat} {a n k : Nat} (hk : k < n) : f (a + k) ≤ d_mx f a n := by
  induction n with
  | zero => omega
  | succ n ih =>
    by_cases e : k = n
    · subst e; exact Nat.le_max_right _ _
    · exact Nat.le_trans (ih (by omega)) (Nat.le_max_left _ _)
theorem x_max {a b : Nat} (ha : a < 2 ^ 31) (hb : b < 2 ^ 31) : (if nI a < nI b then nI b else nI a) = nI (max a b) := by
  by_cases h : a < b
  · rw [if_pos ((nI_ltI ha hb).mpr h), Nat.max_eq_right (by omega)]
  · rw [if_neg (fun z => h ((nI_ltI ha hb).mp z)), Nat.max_eq_left (by omega)]
theorem x_n.F {A : Addr → Prop} {H H1 H2 : Heap} (h : x_n H H1) (h2 : x_F A H1 H2) : H2.size = H.size + 1 ∧ ∀ q : Nat, q < H.size → ¬ A q → H2[q]? = H[q]? := ⟨h2.1.trans h.1, fun q a b => (h2.2 q b).trans (h.2 q a)⟩
set_option maxHeartbeats 4000000 in
set_option maxRecDepth 100000 in
theorem c_Condition_init_Test (l : Launch) (D : va_G) (cA : Nat → ClassId) (a : Nat) (f0 f1 f2 : Int32) (f3 : Int64) (f4 d : Int32) : Met l y_Condition_init [.code y_Condition_init b_Condition_init 2 none] (x_rm 1 0 0) (x_P D cA [.ref a, .int d] (fun H => va_at D x_cl (a, .inr (3, [.int f0, .int f1, .int f2, .long f3, .int f4])) H)) (x_Q (none) (fun H H1 => x_F (x_A [a]) H H1 ∧ va_at D x_cl (a, .inr (3, [.int d, .int f1, .int f2, .long f3, .int f4])) H1)) 0 0 (x_A [a]) := by
  refine x_met (own := "DecisionLayers$Condition") (by decide) rfl (Nat.le_of_ble_eq_true rfl) ?_
  intro pp ee s mm below mt cd ls hx hb hr hlk hnm hml hown hts hE hP hl
  have hl : lv_has ls 2 [(0, .ref a), (1, .int d)] := hl
  have hF : ∀ q ∈ ([] : List Loc), x_A [a] q.base := t_nil
  refine lv_aload_n hx hb d_Condition_init_0 rfl (lv_at hl 0 rfl) ?_
  refine W.objInit hx hb hown (hts _ w_1_114) (hts _ w_1_18) (hts _ w_1_19) rfl (by rw [hml]; exact hl.1) rfl d_Condition_init_1 (Nat.le_of_ble_eq_true rfl) (Nat.le_of_ble_eq_true rfl) ?_
  refine W.eq (g2 := F0 mm 4 ls []) rfl ?_
  refine lv_aload_n hx hb d_Condition_init_4 rfl (lv_at hl 0 rfl) ?_
  refine lv_iload_n hx hb d_Condition_init_5 rfl (lv_at hl 1 rfl) ?_
  refine fp_Condition_7_Test hx hb hown hts hE hnm hP rfl rfl (Nat.le_of_ble_eq_true rfl) d_Condition_init_6 (fun H1 k1 g1 o1 => ?_)
  have hF := t_lc (a := a) (i := k1) hF (x_A1.mpr rfl)
  exact W.vret hx hb hr (fun t ht hW => ⟨rfl, by rw [ht]; exact ⟨x_F.of1 o1 (x_A1.mpr rfl), g1⟩⟩) hF d_Condition_init_9
set_option maxHeartbeats 4000000 in
set_option maxRecDepth 100000 in
theorem c_Condition_init_Joined (l : Launch) (D : va_G) (cA : Nat → ClassId) (a : Nat) (f0 f1 : Int32) (f2 : Value) (d : Int32) : Met l y_Condition_init [.code y_Condition_init b_Condition_init 2 none] (x_rm 1 0 0) (x_P D cA [.ref a, .int d] (fun H => va_at D x_cl (a, .inr (4, [.int f0, .int f1, f2])) H)) (x_Q (none) (fun H H1 => x_F (x_A [a]) H H1 ∧ va_at D x_cl (a, .inr (4, [.int d, .int f1, f2])) H1)) 0 0 (x_A [a]) := by
  refine x_met (own := "DecisionLayers$Condition") (by decide) rfl (Nat.le_of_ble_eq_true rfl) ?_
  intro pp ee s mm below mt cd ls hx hb hr hlk hnm hml hown hts hE hP hl
  have hl : lv_has ls 2 [(0, .ref a), (1, .int d)] := hl
  have hF : ∀ q ∈ ([] : List Loc), x_A [a] q.base := t_nil
  refine lv_aload_n hx hb d_Condition_init_0 rfl (lv_at hl 0 rfl) ?_
  refine W.objInit hx hb hown (hts _ w_1_114) (hts _ w_1_18) (hts _ w_1_19) rfl (by rw [hml]; exact hl.1) rfl d_Condition_init_1 (Nat.le_of_ble_eq_true rfl) (Nat.le_of_ble_eq_true rfl) ?_
  refine W.eq (g2 := F0 mm 4 ls []) rfl ?_
  refine lv_aload_n hx hb d_Condition_init_4 rfl (lv_at hl 0 rfl) ?_
  refine lv_iload_n hx hb d_Condition_init_5 rfl (lv_at hl 1 rfl) ?_
  refine fp_Condition_7_Joined hx hb hown hts hE hnm hP rfl rfl (Nat.le_of_ble_eq_true rfl) d_Condition_init_6 (fun H1 k1 g1 o1 => ?_)
  have hF := t_lc (a := a) (i := k1) hF (x_A1.mpr rfl)
  exact W.vret hx hb hr (fun t ht hW => ⟨rfl, by rw [ht]; exact ⟨x_F.of1 o1 (x_A1.mpr rfl), g1⟩⟩) hF d_Condition_init_9
set_option maxHeartbeats 4000000 in
set_option maxRecDepth 100000 in
theorem c_Test_init (l : Launch) (D : va_G) (cA : Nat → ClassId) (a : Nat) (o k : Int32) (t : Int64) (mk : Int32) : Met l y_Test_init [.code y_Test_init b_Test_init 6 none] (x_rm 2 0 0) (x_P D cA [.ref a, .int o, .int k, .long t, .int mk] (fun H => va_at D x_cl (a, .inr (3, [.int 0, .int 0, .int 0, .long 0, .int 0])) H)) (x_Q (none) (fun H H1 => x_F (x_A [a]) H H1 ∧ va_at D x_cl (a, .inr (3, [.int 1, .int o, .int k, .long t, .int mk])) H1)) 0 0 (x_A [a]) := by
  refine x_met (own := "DecisionLayers$Test") (by decide) rfl (Nat.le_of_ble_eq_true rfl) ?_
  intro pp ee s mm below mt cd ls hx hb hr hlk hnm hml hown hts hE hP hl
  have hl : lv_has ls 6 [(0, .ref a), (1, .int o), (2, .int k), (3, .long t), (5, .int mk)] := hl
  have hF : ∀ q ∈ ([] : List Loc), x_A [a] q.base := t_nil
  refine lv_aload_n hx hb d_Test_init_0 rfl (lv_at hl 0 rfl) ?_
  refine lv_iconst (v := 1) hx hb d_Test_init_1 (by decide) ?_
  refine x_cv (k_Test_1 (As := [.int 1]) (rest := []) hx hb hml hown hts (c_Condition_init_Test l D cA a 0 0 0 0 0 1) (x_preS hE hP) rfl hl.1 rfl (Nat.le_of_ble_eq_true rfl) d_Test_init_2 (by decide) ⟨Nat.zero_le _, Nat.zero_le _⟩) (fun H0 L0 p0 f0 => ?_)
  have hF := t_lL hF (fun q h => (fun q h => h) q.base (f0 q h))
  obtain ⟨e0, g0⟩ := p0
  refine lv_aload_n hx hb d_Test_init_5 rfl (lv_at hl 0 rfl) ?_
  refine lv_iload_n hx hb d_Test_init_6 rfl (lv_at hl 1 rfl) ?_
  refine fp_Test_7_Test hx hb hown hts hE hnm g0 rfl rfl (Nat.le_of_ble_eq_true rfl) d_Test_init_7 (fun H1 k1 g1 o1 => ?_)
  have hF := t_lc (a := a) (i := k1) hF (x_A1.mpr rfl)
  refine lv_aload_n hx hb d_Test_init_10 rfl (lv_at hl 0 rfl) ?_
  refine lv_iload_n hx hb d_Test_init_11 rfl (lv_at hl 2 rfl) ?_
  refine fp_Test_13_Test hx hb hown hts hE hnm g1 rfl rfl (Nat.le_of_ble_eq_true rfl) d_Test_init_12 (fun H2 k2 g2 o2 => ?_)
  have hF := t_lc (a := a) (i := k2) hF (x_A1.mpr rfl)
  refine lv_aload_n hx hb d_Test_init_15 rfl (lv_at hl 0 rfl) ?_
  refine lv_lload_n hx hb d_Test_init_16 rfl (lv_at hl 3 rfl) ?_
  refine fp_Test_16_Test hx hb hown hts hE hnm g2 rfl rfl (Nat.le_of_ble_eq_true rfl) d_Test_init_17 (fun H3 k3 g3 o3 => ?_)
  have hF := t_lc (a := a) (i := k3) hF (x_A1.mpr rfl)
  refine lv_aload_n hx hb d_Test_init_20 rfl (lv_at hl 0 rfl) ?_
  refine lv_iload hx hb d_Test_init_21 (lv_at hl 4 rfl) ?_
  refine fp_Test_20_Test hx hb hown hts hE hnm g3 rfl rfl (Nat.le_of_ble_eq_true rfl) d_Test_init_23 (fun H4 k4 g4 o4 => ?_)
  have hF := t_lc (a := a) (i := k4) hF (x_A1.mpr rfl)
  exact W.vret hx hb hr (fun t ht hW => ⟨rfl, by rw [ht]; exact ⟨((((e0.trans (x_F.of1 o1 (x_A1.mpr rfl))).trans (x_F.of1 o2 (x_A1.mpr rfl))).trans (x_F.of1 o3 (x_A1.mpr rfl))).trans (x_F.of1 o4 (x_A1.mpr rfl))), g4⟩⟩) hF d_Test_init_26
set_option maxHeartbeats 4000000 in
set_option maxRecDepth 100000 in
theorem c_Joined_init (l : Launch) (D : va_G) (cA : Nat → ClassId) (a : Nat) (k : Int32) (r : Nat) (d : Int32) : Met l y_Joined_init [.code y_Joined_init b_Joined_init 4 none] (x_rm 2 0 0) (x_P D cA [.ref a, .int k, .ref r, .int d] (fun H => va_at D x_cl (a, .inr (4, [.int 0, .int 0, .null])) H)) (x_Q (none) (fun H H1 => x_F (x_A [a]) H H1 ∧ va_at D x_cl (a, .inr (4, [.int d, .int k, .ref r])) H1)) 0 0 (x_A [a]) := by
  refine x_met (own := "DecisionLayers$Joined") (by decide) rfl (Nat.le_of_ble_eq_true rfl) ?_
  intro pp ee s mm below mt cd ls hx hb hr hlk hnm hml hown hts hE hP hl
  have hl : lv_has ls 4 [(0, .ref a), (1, .int k), (2, .ref r), (3, .int d)] := hl
  have hF : ∀ q ∈ ([] : List Loc), x_A [a] q.base := t_nil
  refine lv_aload_n hx hb d_Joined_init_0 rfl (lv_at hl 0 rfl) ?_
  refine lv_iload_n hx hb d_Joined_init_1 rfl (lv_at hl 3 rfl) ?_
  refine x_cv (k_Joined_1 (As := [.int d]) (rest := []) hx hb hml hown hts (c_Condition_init_Joined l D cA a 0 0 .null d) (x_preS hE hP) rfl hl.1 rfl (Nat.le_of_ble_eq_true rfl) d_Joined_init_2 (by decide) ⟨Nat.zero_le _, Nat.zero_le _⟩) (fun H0 L0 p0 f0 => ?_)
  have hF := t_lL hF (fun q h => (fun q h => h) q.base (f0 q h))
  obtain ⟨e0, g0⟩ := p0
  refine lv_aload_n hx hb d_Joined_init_5 rfl (lv_at hl 0 rfl) ?_
  refine lv_iload_n hx hb d_Joined_init_6 rfl (lv_at hl 1 rfl) ?_
  refine fp_Joined_7_Joined hx hb hown hts hE hnm g0 rfl rfl (Nat.le_of_ble_eq_true rfl) d_Joined_init_7 (fun H1 k1 g1 o1 => ?_)
  have hF := t_lc (a := a) (i := k1) hF (x_A1.mpr rfl)
  refine lv_aload_n hx hb d_Joined_init_10 rfl (lv_at hl 0 rfl) ?_
  refine lv_aload_n hx hb d_Joined_init_11 rfl (lv_at hl 2 rfl) ?_
  refine fp_Joined_13_Joined hx hb hown hts hE hnm g1 rfl rfl (Nat.le_of_ble_eq_true rfl) d_Joined_init_12 (fun H2 k2 g2 o2 => ?_)
  have hF := t_lc (a := a) (i := k2) hF (x_A1.mpr rfl)
  exact W.vret hx hb hr (fun t ht hW => ⟨rfl, by rw [ht]; exact ⟨((e0.trans (x_F.of1 o1 (x_A1.mpr rfl))).trans (x_F.of1 o2 (x_A1.mpr rfl))), g2⟩⟩) hF d_Joined_init_15
set_option maxHeartbeats 4000000 in
set_option maxRecDepth 100000 in
theorem c_DL_push (l : Launch) (D : va_G) (cA : Nat → ClassId) (N : n_T) (o : Nat) (X : d_T) (made i : Nat) (hi : i < made) (h8 : d_n X < 8) : Met l y_DL_push [.code y_DL_push b_DL_push 2 (some .int)] (x_rm 0 0 0) (x_P D cA [.ref o, .ref (n_ad N i)] (fun H => d_W D cA N o X H ∧ n_W D cA made N H)) (x_Q (some (.int (nI (d_n X + 1)))) (fun H H1 => x_F (x_A [o, o + 4]) H H1 ∧ d_W D cA N o (d_push X i) H1)) 0 0 (x_A [o, o + 4]) := by
  refine x_met (own := "DecisionLayers") (by decide) rfl (Nat.le_of_ble_eq_true rfl) ?_
  intro pp ee s mm below mt cd ls hx hb hr hlk hnm hml hown hts hE hP hl
  have hl : lv_has ls 2 [(0, .ref o), (1, .ref (n_ad N i))] := hl
  obtain ⟨hP1, hN⟩ := hP
  obtain ⟨hO, hV, hC, hLa, hLy⟩ := id hP1
  have hF : ∀ q ∈ ([] : List Loc), x_A [o, o + 4] q.base := t_nil
  refine lv_aload_n hx hb d_DL_push_0 rfl (lv_at hl 0 rfl) ?_
  refine fg_DL_29_DL hx hb hown hts hE hO rfl d_DL_push_1 ?_
  refine lv_bipush (v := 8) hx hb d_DL_push_4 (by decide) ?_
  refine lv_icmp_ge (tgt := 29) hx hb d_DL_push_6 (by decide) (fun h1 => ?_) (fun h1 => ?_)
  · exact absurd (n_ge (k := 8) h1 (by decide) (by omega)) (by omega)
  · refine lv_aload_n hx hb d_DL_push_9 rfl (lv_at hl 0 rfl) ?_
    refine fg_DL_18_DL hx hb hown hts hE hO rfl d_DL_push_10 ?_
    refine lv_aload_n hx hb d_DL_push_13 rfl (lv_at hl 0 rfl) ?_
    refine fg_DL_29_DL hx hb hown hts hE hO rfl d_DL_push_14 ?_
    refine lv_aload_n hx hb d_DL_push_17 rfl (lv_at hl 1 rfl) ?_
    refine x_aast hx hb hE.2.2 hC 4 rfl (hN.any hE hi) h8 (by decide) d_DL_push_18 (fun H1 k1 g1 o1 => ?_)
    have hF := t_lc (a := o + 4) (i := k1) hF (x_A2.mpr (Or.inr rfl))
    have hO := hO.k1 o1 (show o ≠ o + 4 by omega)
    refine lv_aload_n hx hb d_DL_push_19 rfl (lv_at hl 0 rfl) ?_
    refine lv_dup hx hb d_DL_push_20 rfl ?_
    refine fg_DL_29_DL hx hb hown hts hE hO rfl d_DL_push_21 ?_
    refine lv_iconst (v := 1) hx hb d_DL_push_24 (by decide) ?_
    refine lv_iadd hx hb d_DL_push_25 ?_
    refine x_topi (y := nI (d_n X + 1)) (nI_succ _).symm ?_
    refine fp_DL_29_DL hx hb hown hts hE hO rfl rfl (Nat.le_of_ble_eq_true rfl) d_DL_push_26 (fun H2 k2 g2 o2 => ?_)
    have hF := t_lc (a := o) (i := k2) hF (x_A2.mpr (Or.inl rfl))
    have g1 := (g1.refs (fun k _ => d_pc_push k)).k1 o2 (show o + 4 ≠ o by omega)
    have hFr := (x_F.of1 (A := x_A [o, o + 4]) o1 (x_A2.mpr (Or.inr rfl))).trans (x_F.of1 o2 (x_A2.mpr (Or.inl rfl)))
    refine lv_aload_n hx hb d_DL_push_29 rfl (lv_at hl 0 rfl) ?_
    refine fg_DL_29_DL hx hb hown hts hE g2 rfl d_DL_push_30 ?_
    exact W.iret hx hb hr (fun t ht hW => ⟨rfl, by rw [ht]; exact ⟨hFr, hP1.pil hFr g2 g1⟩⟩) hF d_DL_push_33
set_option maxHeartbeats 4000000 in
set_option maxRecDepth 100000 in
theorem c_DL_pop_0 (l : Launch) (D : va_G) (cA : Nat → ClassId) (N : n_T) (o : Nat) (X : d_T) (h0 : d_n X = 0) : Met l y_DL_pop [.code y_DL_pop b_DL_pop 2 (some (.object "DecisionLayers$Condition"))] (x_rm 0 0 0) (x_P D cA [.ref o] (fun H => d_W D cA N o X H)) (x_Q (some (.null)) (x_same)) 0 0 (fun _ => False) := by
  refine x_met (own := "DecisionLayers") (by decide) rfl (Nat.le_of_ble_eq_true rfl) ?_
  intro pp ee s mm below mt cd ls hx hb hr hlk hnm hml hown hts hE hP hl
  have hl : lv_has ls 2 [(0, .ref o)] := hl
  obtain ⟨hO, hV, hC, hLa, hLy⟩ := id hP
  refine lv_aload_n hx hb d_DL_pop_0 rfl (lv_at hl 0 rfl) ?_
  refine fg_DL_29_DL hx hb hown hts hE hO rfl d_DL_pop_1 ?_
  refine lv_if_ne (tgt := 9) hx hb d_DL_pop_4 (by decide) (fun h1 => ?_) (fun h1 => ?_)
  · exact absurd (by rw [h0]; rfl) h1
  · refine lv_null hx hb d_DL_pop_7 ?_
    exact W.aret hx hb hr (Or.inl ⟨_, rfl⟩) (Or.inl rfl) (fun t ht hW => ⟨rfl, ht⟩) (fun q h => by cases h) d_DL_pop_8
set_option maxHeartbeats 4000000 in
set_option maxRecDepth 100000 in
theorem c_DL_pop_S (l : Launch) (D : va_G) (cA : Nat → ClassId) (N : n_T) (o : Nat) (X : d_T) (q : Nat) (hq : d_n X = q + 1) (h8 : d_n X ≤ 8) : Met l y_DL_pop [.code y_DL_pop b_DL_pop 2 (some (.object "DecisionLayers$Condition"))] (x_rm 0 0 0) (x_P D cA [.ref o] (fun H => d_W D cA N o X H)) (x_Q (some (.ref (n_ad N (d_p X q)))) (fun H H1 => x_F (x_A [o, o + 4]) H H1 ∧ d_W D cA N o (d_setN X q) H1)) 0 0 (x_A [o, o + 4]) := by
  refine x_met (own := "DecisionLayers") (by decide) rfl (Nat.le_of_ble_eq_true rfl) ?_
  intro pp ee s mm below mt cd ls hx hb hr hlk hnm hml hown hts hE hP hl
  have hl : lv_has ls 2 [(0, .ref o)] := hl
  obtain ⟨hO, hV, hC, hLa, hLy⟩ := id hP
  have hF : ∀ q ∈ ([] : List Loc), x_A [o, o + 4] q.base := t_nil
  refine lv_aload_n hx hb d_DL_pop_0 rfl (lv_at hl 0 rfl) ?_
  refine fg_DL_29_DL hx hb hown hts hE hO rfl d_DL_pop_1 ?_
  refine lv_if_ne (tgt := 9) hx hb d_DL_pop_4 (by decide) (fun h1 => ?_) (fun h1 => ?_)
  · refine lv_aload_n hx hb d_DL_pop_9 rfl (lv_at hl 0 rfl) ?_
    refine lv_dup hx hb d_DL_pop_10 rfl ?_
    refine fg_DL_29_DL hx hb hown hts hE hO rfl d_DL_pop_11 ?_
    refine lv_iconst (v := 1) hx hb d_DL_pop_14 (by decide) ?_
    refine lv_isub hx hb d_DL_pop_15 ?_
    refine x_topi (y := nI q) (by rw [hq]; exact nI_pred q) ?_
    refine fp_DL_29_DL hx hb hown hts hE hO rfl rfl (Nat.le_of_ble_eq_true rfl) d_DL_pop_16 (fun H1 k1 g1 o1 => ?_)
    have hF := t_lc (a := o) (i := k1) hF (x_A2.mpr (Or.inl rfl))
    have hC := hC.k1 o1 (show o + 4 ≠ o by omega)
    rw [hq] at hC
    refine lv_aload_n hx hb d_DL_pop_19 rfl (lv_at hl 0 rfl) ?_
    refine fg_DL_18_DL hx hb hown hts hE g1 rfl d_DL_pop_20 ?_
    refine lv_aload_n hx hb d_DL_pop_23 rfl (lv_at hl 0 rfl) ?_
    refine fg_DL_29_DL hx hb hown hts hE g1 rfl d_DL_pop_24 ?_
    refine x_aald hx hb hE.2.2 hC 4 rfl (by omega) (by decide) d_DL_pop_27 ?_
    refine x_topv (y := .ref (n_ad N (d_p X q))) (by unfold d_pc; rw [if_pos (by omega)]; rfl) ?_
    refine lv_astore_n (lv' := [(1, .ref (n_ad N (d_p X q))), (0, .ref o)]) hx hb d_DL_pop_28 rfl hl (by decide) rfl (fun ls hl => ?_)
    refine lv_aload_n hx hb d_DL_pop_29 rfl (lv_at hl 1 rfl) ?_
    refine fg_DL_18_DL hx hb hown hts hE g1 rfl d_DL_pop_30 ?_
    refine lv_aload_n hx hb d_DL_pop_33 rfl (lv_at hl 1 rfl) ?_
    refine fg_DL_29_DL hx hb hown hts hE g1 rfl d_DL_pop_34 ?_
    refine lv_null hx hb d_DL_pop_37 ?_
    refine x_aastN hx hb hE.2.2 hC 4 rfl (by omega) (by decide) d_DL_pop_38 (fun H2 k2 g2 o2 => ?_)
    have hF := t_lc (a := o + 4) (i := k2) hF (x_A2.mpr (Or.inr rfl))
    have hFr := (x_F.of1 (A := x_A [o, o + 4]) o1 (x_A2.mpr (Or.inl rfl))).trans (x_F.of1 o2 (x_A2.mpr (Or.inr rfl)))
    refine lv_aload_n hx hb d_DL_pop_39 rfl (lv_at hl 0 rfl) ?_
    exact W.aret hx hb hr (Or.inl ⟨_, rfl⟩) (Or.inr ⟨_, rfl⟩) (fun t ht hW => ⟨rfl, by rw [ht]; exact ⟨hFr, hP.pil hFr (g1.k1 o2 (show o ≠ o + 4 by omega)) (g2.refs (fun k _ => d_pc_pop k))⟩⟩) hF d_DL_pop_40
  · exact absurd h1 (nI_ne0 (by omega) (by omega))
set_option maxHeartbeats 4000000 in
set_option maxRecDepth 100000 in
theorem c_DL_discard (l : Launch) (D : va_G) (cA : Nat → ClassId) (N : n_T) (o : Nat) (X : d_T) (h8 : d_n X ≤ 8) : Met l y_DL_discard [.code y_DL_discard b_DL_discard 1 (some .boolean)] (x_rm 1 0 0) (x_P D cA [.ref o] (fun H => d_W D cA N o X H)) (x_Q (some (.int (bI (decide (¬ d_n X = 0))))) (fun H H1 => x_F (x_A [o, o + 4]) H H1 ∧ d_W D cA N o (d_setN X (d_n X - 1)) H1)) 0 0 (x_A [o, o + 4]) := by
  refine x_met (own := "DecisionLayers") (by decide) rfl (Nat.le_of_ble_eq_true rfl) ?_
  intro pp ee s mm below mt cd ls hx hb hr hlk hnm hml hown hts hE hP hl
  have hl : lv_has ls 1 [(0, .ref o)] := hl
  have hF : ∀ q ∈ ([] : List Loc), x_A [o, o + 4] q.base := t_nil
  by_cases h0 : d_n X = 0
  · refine lv_aload_n hx hb d_DL_discard_0 rfl (lv_at hl 0 rfl) ?_
    refine x_cp (k_DL_55 (As := []) (rest := []) hx hb hml hown hts (c_DL_pop_0 l D cA N o X h0) (x_preV hE hP.1 rfl rfl hP) rfl hl.1 rfl (Nat.le_of_ble_eq_true rfl) d_DL_discard_1 (by decide) ⟨Nat.zero_le _, Nat.zero_le _⟩) ?_
    refine lv_ifnullN (tgt := 11) hx hb d_DL_discard_4 (by decide) ?_
    refine lv_iconst (v := 0) hx hb d_DL_discard_11 (by decide) ?_
    refine x_topi (y := bI (decide (¬ d_n X = 0))) (by rw [bI_no (fun z => z h0)]) ?_
    exact W.zret (ty := .boolean) hx hb hr (bI_z _) (fun t ht hW => ⟨rfl, by rw [ht]; exact ⟨x_F.rf, by rw [show d_setN X (d_n X - 1) = X by rw [h0, Nat.zero_sub, ← h0]; rfl]; exact hP⟩⟩) hF d_DL_discard_12
  · obtain ⟨q, hq⟩ : ∃ q, d_n X = q + 1 := ⟨d_n X - 1, by omega⟩
    refine lv_aload_n hx hb d_DL_discard_0 rfl (lv_at hl 0 rfl) ?_
    refine x_cw (k_DL_55 (As := []) (rest := []) hx hb hml hown hts (c_DL_pop_S l D cA N o X q hq h8) (x_preV hE hP.1 rfl rfl hP) rfl hl.1 rfl (Nat.le_of_ble_eq_true rfl) d_DL_discard_1 (by decide) ⟨Nat.zero_le _, Nat.zero_le _⟩) (fun H1 L1 p1 f1 => ?_)
    have hF := t_lL hF (fun q h => (fun q h => h) q.base (f1 q h))
    refine lv_ifnull hx hb d_DL_discard_4 ?_
    refine lv_iconst (v := 1) hx hb d_DL_discard_7 (by decide) ?_
    refine lv_goto (tgt := 12) hx hb d_DL_discard_8 (by decide) ?_
    refine x_topi (y := bI (decide (¬ d_n X = 0))) (by rw [bI_of h0]) ?_
    exact W.zret (ty := .boolean) hx hb hr (bI_z _) (fun t ht hW => ⟨rfl, by rw [ht]; exact ⟨p1.1, by rw [hq]; exact p1.2⟩⟩) hF d_DL_discard_12
