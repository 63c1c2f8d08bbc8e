/-! the model against the state -/
def s_ci (o : Option Nat) : Int32 := match o with
  | none => -1
  | some i => nI i
def m_R (made : Nat) (N : n_T) (X : d_T) (Y : m_T) : Prop := m_md Y = made ∧ m_pl Y = d_n X ∧ m_de Y = d_e X ∧ m_i Y 1 = d_c X ∧ m_l Y 2 = d_r X ∧ m_N made N Y ∧ (∀ k, k < d_n X → m_i Y 11 k = nI (d_p X k) ∧ m_i Y 9 (d_p X k) = -1) ∧ (∀ k j, k < d_n X → j < d_n X → d_p X k = d_p X j → k = j) ∧
  (∀ l, l < 6 → m_i Y 12 l = bI (d_b X l) ∧ m_i Y 13 l = nI (d_k X l) ∧ m_i Y 19 l = nI (d_j X l)) ∧
  ∀ l, l < 6 → ∀ k, k < d_k X l → m_i Y 14 (6 * l + k) = nI (d_s X l k).1 ∧ m_l Y 15 (6 * l + k) = (d_s X l k).2.1 ∧ m_l Y 16 (6 * l + k) = (d_s X l k).2.2.1 ∧ m_i Y 17 (6 * l + k) = (d_s X l k).2.2.2.1 ∧ m_i Y 18 (6 * l + k) = s_ci (d_s X l k).2.2.2.2
def mm_W (D : va_G) (cA : Nat → ClassId) (m made : Nat) (N : n_T) (X : d_T) (H : Heap) : Prop := ∃ Y : m_T, m_W D cA m Y H ∧ m_R made N X Y
theorem mm_W.kept {D : va_G} {cA : Nat → ClassId} {m made : Nat} {N : n_T} {X : d_T} {H H1 : Heap} (h : mm_W D cA m made N X H) (hq : ∀ q : Nat, m ≤ q → q < m + 21 → H1[q]? = H[q]?) : mm_W D cA m made N X H1 := by
  obtain ⟨Y, a, b⟩ := h
  exact ⟨Y, a.kept hq, b⟩
theorem m_R.h {made : Nat} {N : n_T} {X : d_T} {Y : m_T} (hr : m_R made N X Y) (h : Nat → Int32) (t : Nat) (f : Nat → Int32) : m_R made N X (m_h Y h t f) := hr
theorem m_R.tk {made : Nat} {N : n_T} {X : d_T} {Y : m_T} (hr : m_R made N X Y) (t : Nat) (f : Nat → Int32) : m_R made N X (m_tk Y t f) := hr
theorem w_5 (k : Int32) : decide (0 ≤ k ∧ k ≤ 5) = q_L k := by
  unfold q_L
  apply decide_eq_decide.mpr
  rw [Int32.le_iff_toInt_le (x := k), Int32.lt_iff_toInt_lt]
  have : (5 : Int32).toInt = 5 := by decide
  have : (6 : Int32).toInt = 6 := by decide
  exact ⟨fun ⟨a, b⟩ => ⟨a, by omega⟩, fun ⟨a, b⟩ => ⟨a, by omega⟩⟩
theorem w_7 (k : Int32) : decide (0 ≤ k ∧ k ≤ 7) = q_key k := by
  unfold q_key
  apply decide_eq_decide.mpr
  rw [Int32.le_iff_toInt_le (x := k), Int32.lt_iff_toInt_lt]
  have : (7 : Int32).toInt = 7 := by decide
  have : (8 : Int32).toInt = 8 := by decide
  exact ⟨fun ⟨a, b⟩ => ⟨a, by omega⟩, fun ⟨a, b⟩ => ⟨a, by omega⟩⟩
theorem d_setL_s {X : d_T} {j c q : Nat} {b : Bool} (l : Nat) : d_s (d_setL X j c b q (d_s X j)) l = d_s X l := by
  by_cases e : l = j
  · subst e; exact va_up_self (d_s X) l _
  · exact va_up_ne (d_s X) _ e
theorem d_setL_k {X : d_T} {j q : Nat} {b : Bool} {s : Nat → s_T} (l : Nat) : d_k (d_setL X j (d_k X j) b q s) l = d_k X l := by
  by_cases e : l = j
  · subst e; exact va_up_self (d_k X) l _
  · exact va_up_ne (d_k X) _ e
theorem d_setL_k0 {X : d_T} {j q : Nat} {b : Bool} {s : Nat → s_T} {l k : Nat} (h : k < d_k (d_setL X j 0 b q s) l) : k < d_k X l := by
  by_cases e : l = j
  · subst e
    have h2 : d_k (d_setL X l 0 b q s) l = 0 := va_up_self (d_k X) l _
    omega
  · have h2 : d_k (d_setL X j 0 b q s) l = d_k X l := va_up_ne (d_k X) _ e
    omega
set_option maxHeartbeats 4000000 in
set_option maxRecDepth 100000 in
theorem c_M_pile (l : Launch) (D : va_G) (cA : Nat → ClassId) (m made : Nat) (N : n_T) (X : d_T) : Met l y_M_pile [.code y_M_pile b_M_pile 1 (some .int)] (x_rm 0 0 0) (x_P D cA [.ref m] (fun H => mm_W D cA m made N X H)) (x_Q (some (.int (nI (d_n X)))) (x_same)) 0 0 (fun _ => False) := by
  refine x_met (own := "DecisionLayersModel") (by decide) rfl (Nat.le_of_ble_eq_true rfl) ?_
  intro pp ee s mm below mt cd ls hx hb hr hlk hnm hml hown hts hE hP hl
  have hl : lv_has ls 1 [(0, .ref m)] := hl
  obtain ⟨Y, hW, hR⟩ := id hP
  obtain ⟨r1, r2, r3, r4, r5, rN, rp, ri, rl, rs⟩ := id hR
  refine lv_aload_n hx hb d_M_pile_0 rfl (lv_at hl 0 rfl) ?_
  refine fg_M_103_M hx hb hown hts hE hW.1 rfl d_M_pile_1 ?_
  refine x_topi (y := nI (d_n X)) (by rw [← r2]) ?_
  exact W.iret hx hb hr (fun t9 ht _ => ⟨rfl, ht⟩) (fun q h => by cases h) d_M_pile_4
set_option maxHeartbeats 4000000 in
set_option maxRecDepth 100000 in
theorem c_M_layer (l : Launch) (D : va_G) (cA : Nat → ClassId) (m made : Nat) (N : n_T) (X : d_T) : Met l y_M_layer [.code y_M_layer b_M_layer 1 (some .int)] (x_rm 0 0 0) (x_P D cA [.ref m] (fun H => mm_W D cA m made N X H)) (x_Q (some (.int (d_e X))) (x_same)) 0 0 (fun _ => False) := by
  refine x_met (own := "DecisionLayersModel") (by decide) rfl (Nat.le_of_ble_eq_true rfl) ?_
  intro pp ee s mm below mt cd ls hx hb hr hlk hnm hml hown hts hE hP hl
  have hl : lv_has ls 1 [(0, .ref m)] := hl
  obtain ⟨Y, hW, hR⟩ := id hP
  obtain ⟨r1, r2, r3, r4, r5, rN, rp, ri, rl, rs⟩ := id hR
  refine lv_aload_n hx hb d_M_layer_0 rfl (lv_at hl 0 rfl) ?_
  refine fg_M_67_M hx hb hown hts hE hW.1 rfl d_M_layer_1 ?_
  refine x_topi (y := d_e X) r3 ?_
  exact W.iret hx hb hr (fun t9 ht _ => ⟨rfl, ht⟩) (fun q h => by cases h) d_M_layer_4
theorem c_M_matchesX (l : Launch) (D : va_G) (cA : Nat → ClassId) (m made : Nat) (N : n_T) (X : d_T) (Y : m_T) (hR : m_R made N X Y) (x y : Int64) (lo : Bool) : Met l y_M_matches [.code y_M_matches b_M_matches 13 (some .boolean)] (x_rm 3 0 0) (x_P D cA [.ref m, .long x, .long y, .int (bI lo)] (fun H => m_W D cA m Y H)) (x_Q (some (.int (bI (pt_m (d_c X) (d_r X) x y lo)))) (fun H H1 => x_F (m_tA m) H H1 ∧ ∃ (t : Nat) (f : Nat → Int32), m_W D cA m (m_tk Y t f) H1)) 0 0 (m_tA m) := by
  rw [← hR.2.2.2.1, ← hR.2.2.2.2.1]
  exact c_M_matches l D cA m Y x y lo
set_option maxHeartbeats 4000000 in
set_option maxRecDepth 100000 in
theorem c_M_discard (l : Launch) (D : va_G) (cA : Nat → ClassId) (m made : Nat) (N : n_T) (X : d_T) (h8 : d_n X ≤ 8) : Met l y_M_discard [.code y_M_discard b_M_discard 1 (some .boolean)] (x_rm 0 0 0) (x_P D cA [.ref m] (fun H => mm_W D cA m made N X H)) (x_Q (some (.int (bI (decide (¬ d_n X = 0))))) (fun H H1 => x_F (m_A m) H H1 ∧ mm_W D cA m made N (d_setN X (d_n X - 1)) H1)) 0 0 (m_A m) := by
  refine x_met (own := "DecisionLayersModel") (by decide) rfl (Nat.le_of_ble_eq_true rfl) ?_
  intro pp ee s mm below mt cd ls hx hb hr hlk hnm hml hown hts hE hP hl
  have hl : lv_has ls 1 [(0, .ref m)] := hl
  obtain ⟨Y, hW, hR⟩ := id hP
  obtain ⟨r1, r2, r3, r4, r5, rN, rp, ri, rl, rs⟩ := id hR
  have hF : ∀ q ∈ ([] : List Loc), m_A m q.base := t_nil
  refine lv_aload_n hx hb d_M_discard_0 rfl (lv_at hl 0 rfl) ?_
  refine fg_M_103_M hx hb hown hts hE hW.1 rfl d_M_discard_1 ?_
  refine x_topi (y := nI (d_n X)) (by rw [← r2]) ?_
  refine lv_if_ne (tgt := 9) hx hb d_M_discard_4 (by decide) (fun h1 => ?_) (fun h1 => ?_)
  · have h0 : ¬ d_n X = 0 := fun z => h1 (by rw [z]; rfl)
    obtain ⟨q, hq⟩ : ∃ q, d_n X = q + 1 := ⟨d_n X - 1, by omega⟩
    refine lv_aload_n hx hb d_M_discard_9 rfl (lv_at hl 0 rfl) ?_
    refine lv_dup hx hb d_M_discard_10 rfl ?_
    refine fg_M_103_M hx hb hown hts hE hW.1 rfl d_M_discard_11 ?_
    refine lv_iconst (v := 1) hx hb d_M_discard_14 (by decide) ?_
    refine lv_isub hx hb d_M_discard_15 ?_
    refine x_topi (y := nI q) (by rw [r2, hq]; exact nI_pred q) ?_
    refine fp_M_103_M hx hb hown hts hE hW.1 rfl rfl (Nat.le_of_ble_eq_true rfl) d_M_discard_16 (fun H1 k1 g1 o1 => ?_)
    have hF := t_lc (a := m) (i := k1) hF (m_A_in (by omega) (by omega))
    have hW1 := hW.obj (made := m_md Y) (pil := q) (dec := m_de Y) (tok := m_tn Y) o1 g1
    refine lv_iconst (v := 1) hx hb d_M_discard_19 (by decide) ?_
    refine x_topi (y := bI (decide (¬ d_n X = 0))) (by rw [bI_of h0]) ?_
    exact W.zret (ty := .boolean) hx hb hr (bI_z _) (fun t9 ht _ => ⟨rfl, by rw [ht]; exact ⟨x_F.of1 o1 (m_A_in (by omega) (by omega)), _, hW1, by rw [hq]; exact ⟨r1, rfl, r3, r4, r5, rN, fun k hk => rp k (by rw [hq]; exact Nat.lt_succ_of_lt hk), fun k j hk hj => ri k j (by rw [hq]; exact Nat.lt_succ_of_lt hk) (by rw [hq]; exact Nat.lt_succ_of_lt hj), rl, rs⟩⟩⟩) hF d_M_discard_20
  · have h0 : d_n X = 0 := (nI_eq (by omega) (by decide) : nI (d_n X) = nI 0 ↔ _).mp h1
    refine lv_iconst (v := 0) hx hb d_M_discard_7 (by decide) ?_
    refine x_topi (y := bI (decide (¬ d_n X = 0))) (by rw [bI_no (fun z => z h0)]) ?_
    exact W.zret (ty := .boolean) hx hb hr (bI_z _) (fun t9 ht _ => ⟨rfl, by rw [ht]; exact ⟨x_F.rf, by rw [show d_setN X (d_n X - 1) = X by rw [h0, Nat.zero_sub, ← h0]; rfl]; exact hP⟩⟩) hF d_M_discard_8
set_option maxHeartbeats 4000000 in
set_option maxRecDepth 100000 in
theorem c_M_statements (l : Launch) (D : va_G) (cA : Nat → ClassId) (m made : Nat) (N : n_T) (X : d_T) (k : Int32) : Met l y_M_statements [.code y_M_statements b_M_statements 2 (some .int)] (x_rm 1 0 0) (x_P D cA [.ref m, .int k] (fun H => mm_W D cA m made N X H)) (x_Q (some (.int (q_stmts X k))) (x_same)) 0 0 (fun _ => False) := by
  refine x_met (own := "DecisionLayersModel") (by decide) rfl (Nat.le_of_ble_eq_true rfl) ?_
  intro pp ee s mm below mt cd ls hx hb hr hlk hnm hml hown hts hE hP hl
  have hl : lv_has ls 2 [(0, .ref m), (1, .int k)] := hl
  obtain ⟨Y, hW, hR⟩ := id hP
  obtain ⟨r1, r2, r3, r4, r5, rN, rp, ri, rl, rs⟩ := id hR
  refine lv_iload_n hx hb d_M_statements_0 rfl (lv_at hl 1 rfl) ?_
  refine lv_iconst (v := 5) hx hb d_M_statements_1 (by decide) ?_
  refine x_cp (k_M_106 (As := [.int k, .int 5]) (rest := []) hx hb hml hown hts (c_M_within l D cA k 5) (x_preS hE trivial) rfl hl.1 rfl (Nat.le_of_ble_eq_true rfl) d_M_statements_2 (by decide) ⟨Nat.zero_le _, Nat.zero_le _⟩) ?_
  refine x_topi (y := bI (q_L k)) (by rw [w_5]) ?_
  refine lv_if_ne (tgt := 13) hx hb d_M_statements_5 (by decide) (fun h1 => ?_) (fun h1 => ?_)
  · have h1 := bI_n0.mp h1
    obtain ⟨j, hj, rfl⟩ := q_L_in h1
    have hcl : (nI j).toNatClampNeg = j := nI_clamp (by omega)
    obtain ⟨l1, l2, l3⟩ := rl j hj
    refine lv_aload_n hx hb d_M_statements_13 rfl (lv_at hl 0 rfl) ?_
    refine fg_M_46_M hx hb hown hts hE hW.1 rfl d_M_statements_14 ?_
    refine lv_iload_n hx hb d_M_statements_17 rfl (lv_at hl 1 rfl) ?_
    refine x_zald hx hb hE.2.2 (show va_at D x_cl (m + 12, .inl (cA 3, 6, .inl (m_i Y 12))) _ from hW.2 12 (by decide) (by decide)) 3 rfl hj (by decide) d_M_statements_18 ?_
    refine x_topi (y := bI (d_b X j)) l1 ?_
    refine lv_if_eq (tgt := 31) hx hb d_M_statements_19 (by decide) (fun h2 => ?_) (fun h2 => ?_)
    · refine lv_iconst (v := (-1)) hx hb d_M_statements_31 (by decide) ?_
      refine x_topi (y := q_stmts X (nI j)) (by unfold q_stmts; rw [h1, if_pos rfl, hcl, bI_0.mp h2]; rfl) ?_
      exact W.iret hx hb hr (fun t9 ht _ => ⟨rfl, ht⟩) (fun q h => by cases h) d_M_statements_32
    · refine lv_aload_n hx hb d_M_statements_22 rfl (lv_at hl 0 rfl) ?_
      refine fg_M_49_M hx hb hown hts hE hW.1 rfl d_M_statements_23 ?_
      refine lv_iload_n hx hb d_M_statements_26 rfl (lv_at hl 1 rfl) ?_
      refine x_iald hx hb hE.2.2 (show va_at D x_cl (m + 13, .inl (cA 0, 6, .inl (m_i Y 13))) _ from hW.2 13 (by decide) (by decide)) 0 rfl hj (by decide) d_M_statements_27 ?_
      refine x_topi (y := nI (d_k X j)) l2 ?_
      refine lv_goto (tgt := 32) hx hb d_M_statements_28 (by decide) ?_
      refine x_topi (y := q_stmts X (nI j)) (by unfold q_stmts; rw [h1, if_pos rfl, hcl, bI_n0.mp h2]; rfl) ?_
      exact W.iret hx hb hr (fun t9 ht _ => ⟨rfl, ht⟩) (fun q h => by cases h) d_M_statements_32
  · have h1 := bI_0.mp h1
    refine lv_bipush (v := (-2)) hx hb d_M_statements_8 (by decide) ?_
    refine lv_goto (tgt := 32) hx hb d_M_statements_10 (by decide) ?_
    refine x_topi (y := q_stmts X k) (by unfold q_stmts; rw [h1]; rfl) ?_
    exact W.iret hx hb hr (fun t9 ht _ => ⟨rfl, ht⟩) (fun q h => by cases h) d_M_statements_32
set_option maxHeartbeats 4000000 in
set_option maxRecDepth 100000 in
theorem c_M_open (l : Launch) (D : va_G) (cA : Nat → ClassId) (m made : Nat) (N : n_T) (X : d_T) (k : Int32) : Met l y_M_open [.code y_M_open b_M_open 2 (some .boolean)] (x_rm 1 0 0) (x_P D cA [.ref m, .int k] (fun H => mm_W D cA m made N X H)) (x_Q (some (.int (bI (q_open X k)))) (fun H H1 => x_F (m_A m) H H1 ∧ mm_W D cA m made N (z_open X k) H1)) 0 0 (m_A m) := by
  refine x_met (own := "DecisionLayersModel") (by decide) rfl (Nat.le_of_ble_eq_true rfl) ?_
  intro pp ee s mm below mt cd ls hx hb hr hlk hnm hml hown hts hE hP hl
  have hl : lv_has ls 2 [(0, .ref m), (1, .int k)] := hl
  obtain ⟨Y, hW, hR⟩ := id hP
  obtain ⟨r1, r2, r3, r4, r5, rN, rp, ri, rl, rs⟩ := id hR
  have hF : ∀ q ∈ ([] : List Loc), m_A m q.base := t_nil
  refine lv_iload_n hx hb d_M_open_0 rfl (lv_at hl 1 rfl) ?_
  refine lv_iconst (v := 5) hx hb d_M_open_1 (by decide) ?_
  refine x_cp (k_M_106 (As := [.int k, .int 5]) (rest := []) hx hb hml hown hts (c_M_within l D cA k 5) (x_preS hE trivial) rfl hl.1 rfl (Nat.le_of_ble_eq_true rfl) d_M_open_2 (by decide) ⟨Nat.zero_le _, Nat.zero_le _⟩) ?_
  refine x_topi (y := bI (q_L k)) (by rw [w_5]) ?_
  refine lv_if_eq (tgt := 17) hx hb d_M_open_5 (by decide) (fun h1 => ?_) (fun h1 => ?_)
  · have h1 := bI_0.mp h1
    have hq : q_open X k = false := by unfold q_open; rw [h1]; rfl
    refine lv_iconst (v := 0) hx hb d_M_open_17 (by decide) ?_
    refine x_topi (y := bI (q_open X k)) (by rw [hq]; rfl) ?_
    exact W.zret (ty := .boolean) hx hb hr (bI_z _) (fun t9 ht _ => ⟨rfl, by rw [ht]; exact ⟨x_F.rf, by unfold z_open; rw [hq]; exact hP⟩⟩) hF d_M_open_18
  · have h1 := bI_n0.mp h1
    obtain ⟨j, hj, rfl⟩ := q_L_in h1
    have hcl : (nI j).toNatClampNeg = j := nI_clamp (by omega)
    obtain ⟨l1, l2, l3⟩ := rl j hj
    refine lv_aload_n hx hb d_M_open_8 rfl (lv_at hl 0 rfl) ?_
    refine fg_M_46_M hx hb hown hts hE hW.1 rfl d_M_open_9 ?_
    refine lv_iload_n hx hb d_M_open_12 rfl (lv_at hl 1 rfl) ?_
    refine x_zald hx hb hE.2.2 (show va_at D x_cl (m + 12, .inl (cA 3, 6, .inl (m_i Y 12))) _ from hW.2 12 (by decide) (by decide)) 3 rfl hj (by decide) d_M_open_13 ?_
    refine x_topi (y := bI (d_b X j)) l1 ?_
    refine lv_if_eq (tgt := 19) hx hb d_M_open_14 (by decide) (fun h2 => ?_) (fun h2 => ?_)
    · have hq : q_open X (nI j) = true := by unfold q_open; rw [h1, hcl, bI_0.mp h2]; rfl
      refine lv_aload_n hx hb d_M_open_19 rfl (lv_at hl 0 rfl) ?_
      refine fg_M_46_M hx hb hown hts hE hW.1 rfl d_M_open_20 ?_
      refine lv_iload_n hx hb d_M_open_23 rfl (lv_at hl 1 rfl) ?_
      refine lv_iconst (v := 1) hx hb d_M_open_24 (by decide) ?_
      refine x_topi (y := bI true) rfl ?_
      refine x_zast hx hb hE.2.2 (show va_at D x_cl (m + 12, .inl (cA 3, 6, .inl (m_i Y 12))) _ from hW.2 12 (by decide) (by decide)) 3 rfl hj (by decide) d_M_open_25 (fun H1 k1 g1 o1 => ?_)
      have hF := t_lc (a := m + 12) (i := k1) hF (m_A_in (by omega) (by omega))
      have hW1 := hW.ai (i := 12) (by decide) o1 (f := upd (m_i Y 12) j (bI true)) g1
      refine lv_iconst (v := 1) hx hb d_M_open_26 (by decide) ?_
      refine x_topi (y := bI (q_open X (nI j))) (by rw [hq]; rfl) ?_
      exact W.zret (ty := .boolean) hx hb hr (bI_z _) (fun t9 ht _ => ⟨rfl, by rw [ht]; exact ⟨x_F.of1 o1 (m_A_in (by omega) (by omega)), _, hW1, by unfold z_open; rw [hq, if_pos rfl, hcl]; exact ⟨r1, r2, r3, r4, r5, rN, rp, ri, fun l hl => by
        obtain ⟨a, b, c⟩ := rl l hl
        by_cases e : l = j
        · subst e; exact ⟨(pk_us).trans (congrArg bI (va_up_self (d_b X) l _).symm), b.trans (congrArg nI (va_up_self (d_k X) l _).symm), c.trans (congrArg nI (va_up_self (d_j X) l _).symm)⟩
        · exact ⟨(pk_un e).trans (a.trans (congrArg bI (va_up_ne (d_b X) _ e).symm)), b.trans (congrArg nI (va_up_ne (d_k X) _ e).symm), c.trans (congrArg nI (va_up_ne (d_j X) _ e).symm)⟩, fun l hl k hk => by
        rw [d_setL_s]; exact rs l hl k (by rw [d_setL_k] at hk; exact hk)⟩⟩⟩) hF d_M_open_27
    · have hq : q_open X (nI j) = false := by unfold q_open; rw [h1, hcl, bI_n0.mp h2]; rfl
      refine lv_iconst (v := 0) hx hb d_M_open_17 (by decide) ?_
      refine x_topi (y := bI (q_open X (nI j))) (by rw [hq]; rfl) ?_
      exact W.zret (ty := .boolean) hx hb hr (bI_z _) (fun t9 ht _ => ⟨rfl, by rw [ht]; exact ⟨x_F.rf, by unfold z_open; rw [hq]; exact hP⟩⟩) hF d_M_open_18
set_option maxHeartbeats 4000000 in
set_option maxRecDepth 100000 in
theorem c_M_drop (l : Launch) (D : va_G) (cA : Nat → ClassId) (m made : Nat) (N : n_T) (X : d_T) (k : Int32) : Met l y_M_drop [.code y_M_drop b_M_drop 2 (some .boolean)] (x_rm 1 0 0) (x_P D cA [.ref m, .int k] (fun H => mm_W D cA m made N X H)) (x_Q (some (.int (bI (q_drop X k)))) (fun H H1 => x_F (m_A m) H H1 ∧ mm_W D cA m made N (z_drop X k) H1)) 0 0 (m_A m) := by
  refine x_met (own := "DecisionLayersModel") (by decide) rfl (Nat.le_of_ble_eq_true rfl) ?_
  intro pp ee s mm below mt cd ls hx hb hr hlk hnm hml hown hts hE hP hl
  have hl : lv_has ls 2 [(0, .ref m), (1, .int k)] := hl
  obtain ⟨Y, hW, hR⟩ := id hP
  obtain ⟨r1, r2, r3, r4, r5, rN, rp, ri, rl, rs⟩ := id hR
  have hF : ∀ q ∈ ([] : List Loc), m_A m q.base := t_nil
  refine lv_iload_n hx hb d_M_drop_0 rfl (lv_at hl 1 rfl) ?_
  refine lv_iconst (v := 5) hx hb d_M_drop_1 (by decide) ?_
  refine x_cp (k_M_106 (As := [.int k, .int 5]) (rest := []) hx hb hml hown hts (c_M_within l D cA k 5) (x_preS hE trivial) rfl hl.1 rfl (Nat.le_of_ble_eq_true rfl) d_M_drop_2 (by decide) ⟨Nat.zero_le _, Nat.zero_le _⟩) ?_
  refine x_topi (y := bI (q_L k)) (by rw [w_5]) ?_
  refine lv_if_eq (tgt := 17) hx hb d_M_drop_5 (by decide) (fun h1 => ?_) (fun h1 => ?_)
  · have h1 := bI_0.mp h1
    have hq : q_drop X k = false := by unfold q_drop; rw [h1]; rfl
    refine lv_iconst (v := 0) hx hb d_M_drop_17 (by decide) ?_
    refine x_topi (y := bI (q_drop X k)) (by rw [hq]; rfl) ?_
    exact W.zret (ty := .boolean) hx hb hr (bI_z _) (fun t9 ht _ => ⟨rfl, by rw [ht]; exact ⟨x_F.rf, by unfold z_drop; rw [hq]; exact hP⟩⟩) hF d_M_drop_18
  · have h1 := bI_n0.mp h1
    obtain ⟨j, hj, rfl⟩ := q_L_in h1
    have hcl : (nI j).toNatClampNeg = j := nI_clamp (by omega)
    obtain ⟨l1, l2, l3⟩ := rl j hj
    refine lv_aload_n hx hb d_M_drop_8 rfl (lv_at hl 0 rfl) ?_
    refine fg_M_46_M hx hb hown hts hE hW.1 rfl d_M_drop_9 ?_
    refine lv_iload_n hx hb d_M_drop_12 rfl (lv_at hl 1 rfl) ?_
    refine x_zald hx hb hE.2.2 (show va_at D x_cl (m + 12, .inl (cA 3, 6, .inl (m_i Y 12))) _ from hW.2 12 (by decide) (by decide)) 3 rfl hj (by decide) d_M_drop_13 ?_
    refine x_topi (y := bI (d_b X j)) l1 ?_
    refine lv_if_ne (tgt := 19) hx hb d_M_drop_14 (by decide) (fun h2 => ?_) (fun h2 => ?_)
    · have hq : q_drop X (nI j) = true := by unfold q_drop; rw [h1, hcl, bI_n0.mp h2]; rfl
      refine lv_aload_n hx hb d_M_drop_19 rfl (lv_at hl 0 rfl) ?_
      refine fg_M_46_M hx hb hown hts hE hW.1 rfl d_M_drop_20 ?_
      refine lv_iload_n hx hb d_M_drop_23 rfl (lv_at hl 1 rfl) ?_
      refine lv_iconst (v := 0) hx hb d_M_drop_24 (by decide) ?_
      refine x_topi (y := bI false) rfl ?_
      refine x_zast hx hb hE.2.2 (show va_at D x_cl (m + 12, .inl (cA 3, 6, .inl (m_i Y 12))) _ from hW.2 12 (by decide) (by decide)) 3 rfl hj (by decide) d_M_drop_25 (fun H1 k1 g1 o1 => ?_)
      have hF := t_lc (a := m + 12) (i := k1) hF (m_A_in (by omega) (by omega))
      have hW1 := hW.ai (i := 12) (by decide) o1 (f := upd (m_i Y 12) j (bI false)) g1
      refine lv_aload_n hx hb d_M_drop_26 rfl (lv_at hl 0 rfl) ?_
      refine fg_M_49_M hx hb hown hts hE hW1.1 rfl d_M_drop_27 ?_
      refine lv_iload_n hx hb d_M_drop_30 rfl (lv_at hl 1 rfl) ?_
      refine lv_iconst (v := 0) hx hb d_M_drop_31 (by decide) ?_
      refine x_iast hx hb hE.2.2 (show va_at D x_cl (m + 13, .inl (cA 0, 6, .inl (m_i (m_sI Y 12 (upd (m_i Y 12) j (bI false))) 13))) _ from hW1.2 13 (by decide) (by decide)) 0 rfl hj (by decide) d_M_drop_32 (fun H2 k2 g2 o2 => ?_)
      have hF := t_lc (a := m + 13) (i := k2) hF (m_A_in (by omega) (by omega))
      have hW2 := hW1.ai (i := 13) (by decide) o2 (f := upd (m_i Y 13) j 0) g2
      refine lv_iconst (v := 1) hx hb d_M_drop_33 (by decide) ?_
      refine x_topi (y := bI (q_drop X (nI j))) (by rw [hq]; rfl) ?_
      exact W.zret (ty := .boolean) hx hb hr (bI_z _) (fun t9 ht _ => ⟨rfl, by rw [ht]; exact ⟨(x_F.of1 o1 (m_A_in (by omega) (by omega))).trans (x_F.of1 o2 (m_A_in (by omega) (by omega))), _, hW2, by unfold z_drop; rw [hq, if_pos rfl, hcl]; exact ⟨r1, r2, r3, r4, r5, rN, rp, ri, fun l hl => by
        obtain ⟨a, b, c⟩ := rl l hl
        by_cases e : l = j
        · subst e; exact ⟨(pk_us).trans (congrArg bI (va_up_self (d_b X) l _).symm), (pk_us).trans (congrArg nI (va_up_self (d_k X) l _).symm), c.trans (congrArg nI (va_up_self (d_j X) l _).symm)⟩
        · exact ⟨(pk_un e).trans (a.trans (congrArg bI (va_up_ne (d_b X) _ e).symm)), (pk_un e).trans (b.trans (congrArg nI (va_up_ne (d_k X) _ e).symm)), c.trans (congrArg nI (va_up_ne (d_j X) _ e).symm)⟩, fun l hl k hk => by
        rw [d_setL_s]; exact rs l hl k (d_setL_k0 hk)⟩⟩⟩) hF d_M_drop_34
    · have hq : q_drop X (nI j) = false := by unfold q_drop; rw [h1, hcl, bI_0.mp h2]; rfl
      refine lv_iconst (v := 0) hx hb d_M_drop_17 (by decide) ?_
      refine x_topi (y := bI (q_drop X (nI j))) (by rw [hq]; rfl) ?_
      exact W.zret (ty := .boolean) hx hb hr (bI_z _) (fun t9 ht _ => ⟨rfl, by rw [ht]; exact ⟨x_F.rf, by unfold z_drop; rw [hq]; exact hP⟩⟩) hF d_M_drop_18
set_option maxHeartbeats 4000000 in
set_option maxRecDepth 100000 in
theorem c_M_offer (l : Launch) (D : va_G) (cA : Nat → ClassId) (m made : Nat) (N : n_T) (X : d_T) (hvo : vl_ok (d_c X)) (k : Int32) (x : Int64) : Met l y_M_offer [.code y_M_offer b_M_offer 4 (some .int)] (x_rm 1 0 0) (x_P D cA [.ref m, .int k, .long x] (fun H => mm_W D cA m made N X H)) (x_Q (some (.int (q_offer X k))) (fun H H1 => x_F (m_A m) H H1 ∧ mm_W D cA m made N (z_offer X k x) H1)) 0 0 (m_A m) := by
  refine x_met (own := "DecisionLayersModel") (by decide) rfl (Nat.le_of_ble_eq_true rfl) ?_
  intro pp ee s mm below mt cd ls hx hb hr hlk hnm hml hown hts hE hP hl
  have hl : lv_has ls 4 [(0, .ref m), (1, .int k), (2, .long x)] := hl
  obtain ⟨Y, hW, hR⟩ := id hP
  obtain ⟨r1, r2, r3, r4, r5, rN, rp, ri, rl, rs⟩ := id hR
  have hF : ∀ q ∈ ([] : List Loc), m_A m q.base := t_nil
  refine lv_iload_n hx hb d_M_offer_0 rfl (lv_at hl 1 rfl) ?_
  refine lv_bipush (v := 7) hx hb d_M_offer_1 (by decide) ?_
  refine x_cp (k_M_106 (As := [.int k, .int 7]) (rest := []) hx hb hml hown hts (c_M_within l D cA k 7) (x_preS hE trivial) rfl hl.1 rfl (Nat.le_of_ble_eq_true rfl) d_M_offer_3 (by decide) ⟨Nat.zero_le _, Nat.zero_le _⟩) ?_
  refine x_topi (y := bI (q_key k)) (by rw [w_7]) ?_
  refine lv_if_ne (tgt := 12) hx hb d_M_offer_6 (by decide) (fun h1 => ?_) (fun h1 => ?_)
  · have h1 := bI_n0.mp h1
    obtain ⟨j, hj, rfl⟩ := q_key_in h1
    have hcl : (nI j).toNatClampNeg = j := nI_clamp (by omega)
    obtain ⟨n, hn4, hn⟩ := hvo j hj
    have hn9 : m_i Y 1 j = nI n := by rw [r4]; exact hn
    refine lv_aload_n hx hb d_M_offer_12 rfl (lv_at hl 0 rfl) ?_
    refine fg_M_7_M hx hb hown hts hE hW.1 rfl d_M_offer_13 ?_
    refine lv_iload_n hx hb d_M_offer_16 rfl (lv_at hl 1 rfl) ?_
    refine x_iald hx hb hE.2.2 (show va_at D x_cl (m + 1, .inl (cA 0, 8, .inl (m_i Y 1))) _ from hW.2 1 (by decide) (by decide)) 0 rfl hj (by decide) d_M_offer_17 ?_
    refine x_topi (y := nI n) hn9 ?_
    refine lv_iconst (v := 4) hx hb d_M_offer_18 (by decide) ?_
    refine lv_icmp_ne (tgt := 25) hx hb d_M_offer_19 (by decide) (fun h2 => ?_) (fun h2 => ?_)
    · have hn3 : n < 4 := by rcases Nat.lt_or_eq_of_le hn4 with z | z; exact z; exact absurd (by rw [z]; rfl) h2
      have h2 : ¬ 4 ≤ d_c X j := by rw [hn]; exact fun z => absurd (n_ge (k := 4) z (by decide) (by omega)) (by omega)
      have hnc : (d_c X j).toNatClampNeg = n := by rw [hn]; exact nI_clamp (by omega)
      have hn1 : d_c X j + 1 = nI (n + 1) := by rw [hn]; exact (nI_succ n).symm
      refine lv_aload_n hx hb d_M_offer_25 rfl (lv_at hl 0 rfl) ?_
      refine fg_M_13_M hx hb hown hts hE hW.1 rfl d_M_offer_26 ?_
      refine lv_iconst (v := 4) hx hb d_M_offer_29 (by decide) ?_
      refine lv_iload_n hx hb d_M_offer_30 rfl (lv_at hl 1 rfl) ?_
      refine lv_imul hx hb d_M_offer_31 ?_
      refine x_topi (y := nI (4 * j)) (by rw [show (4 : Int32) = nI 4 from rfl, pk_mul]) ?_
      refine lv_aload_n hx hb d_M_offer_32 rfl (lv_at hl 0 rfl) ?_
      refine fg_M_7_M hx hb hown hts hE hW.1 rfl d_M_offer_33 ?_
      refine lv_iload_n hx hb d_M_offer_36 rfl (lv_at hl 1 rfl) ?_
      refine x_iald hx hb hE.2.2 (show va_at D x_cl (m + 1, .inl (cA 0, 8, .inl (m_i Y 1))) _ from hW.2 1 (by decide) (by decide)) 0 rfl hj (by decide) d_M_offer_37 ?_
      refine x_topi (y := nI n) hn9 ?_
      refine lv_iadd hx hb d_M_offer_38 ?_
      refine x_topi (y := nI (4 * j + n)) (nI_add _ _) ?_
      refine lv_lload_n hx hb d_M_offer_39 rfl (lv_at hl 2 rfl) ?_
      refine x_last hx hb hE.2.2 (show va_at D x_cl (m + 2, .inl (cA 1, 32, .inr (.inl (m_l Y 2)))) _ from hW.2 2 (by decide) (by decide)) 1 rfl (by omega) (by decide) d_M_offer_40 (fun H1 k1 g1 o1 => ?_)
      have hF := t_lc (a := m + 2) (i := k1) hF (m_A_in (by omega) (by omega))
      have hW1 := hW.al (i := 2) (by decide) o1 (g := vp_updL (m_l Y 2) (4 * j + n) x) g1
      refine lv_aload_n hx hb d_M_offer_41 rfl (lv_at hl 0 rfl) ?_
      refine fg_M_7_M hx hb hown hts hE hW1.1 rfl d_M_offer_42 ?_
      refine lv_iload_n hx hb d_M_offer_45 rfl (lv_at hl 1 rfl) ?_
      refine lv_dup2_11 hx hb d_M_offer_46 rfl rfl ?_
      refine x_iald hx hb hE.2.2 (show va_at D x_cl (m + 1, .inl (cA 0, 8, .inl (m_i (m_sL Y 2 (vp_updL (m_l Y 2) (4 * j + n) x)) 1))) _ from hW1.2 1 (by decide) (by decide)) 0 rfl hj (by decide) d_M_offer_47 ?_
      refine x_topi (y := nI n) hn9 ?_
      refine lv_iconst (v := 1) hx hb d_M_offer_48 (by decide) ?_
      refine lv_iadd hx hb d_M_offer_49 ?_
      refine x_topi (y := nI (n + 1)) (nI_succ n).symm ?_
      refine x_iast hx hb hE.2.2 (show va_at D x_cl (m + 1, .inl (cA 0, 8, .inl (m_i (m_sL Y 2 (vp_updL (m_l Y 2) (4 * j + n) x)) 1))) _ from hW1.2 1 (by decide) (by decide)) 0 rfl hj (by decide) d_M_offer_50 (fun H2 k2 g2 o2 => ?_)
      have hF := t_lc (a := m + 1) (i := k2) hF (m_A_in (by omega) (by omega))
      have hW2 := hW1.ai (i := 1) (by decide) o2 (f := upd (m_i Y 1) j (nI (n + 1))) g2
      refine lv_aload_n hx hb d_M_offer_51 rfl (lv_at hl 0 rfl) ?_
      refine fg_M_7_M hx hb hown hts hE hW2.1 rfl d_M_offer_52 ?_
      refine lv_iload_n hx hb d_M_offer_55 rfl (lv_at hl 1 rfl) ?_
      refine x_iald hx hb hE.2.2 (show va_at D x_cl (m + 1, .inl (cA 0, 8, .inl (m_i (m_sI (m_sL Y 2 (vp_updL (m_l Y 2) (4 * j + n) x)) 1 (upd (m_i Y 1) j (nI (n + 1)))) 1))) _ from hW2.2 1 (by decide) (by decide)) 0 rfl hj (by decide) d_M_offer_56 ?_
      refine x_topi (y := nI (n + 1)) pk_us ?_
      refine x_topi (y := q_offer X (nI j)) (by unfold q_offer; rw [h1, if_pos rfl, hcl, if_neg h2, hn1]) ?_
      exact W.iret hx hb hr (fun t9 ht _ => ⟨rfl, by rw [ht]; exact ⟨(x_F.of1 o1 (m_A_in (by omega) (by omega))).trans (x_F.of1 o2 (m_A_in (by omega) (by omega))), _, hW2, by unfold z_offer; rw [h1, if_pos rfl, hcl, if_neg h2, hnc, hn1]; exact ⟨r1, r2, r3, congrArg (fun c => upd c j (nI (n + 1))) r4, congrArg (fun c => vp_updL c (4 * j + n) x) r5, rN, rp, ri, rl, rs⟩⟩⟩) hF d_M_offer_57
    · have h2 : 4 ≤ d_c X j := by rw [hn, h2]; decide
      refine lv_bipush (v := (-3)) hx hb d_M_offer_22 (by decide) ?_
      refine x_topi (y := q_offer X (nI j)) (by unfold q_offer; rw [h1, if_pos rfl, hcl, if_pos h2]) ?_
      exact W.iret hx hb hr (fun t9 ht _ => ⟨rfl, by rw [ht]; exact ⟨x_F.rf, by unfold z_offer; rw [h1, if_pos rfl, hcl, if_pos h2]; exact hP⟩⟩) hF d_M_offer_24
  · have h1 := bI_0.mp h1
    refine lv_bipush (v := (-2)) hx hb d_M_offer_9 (by decide) ?_
    refine x_topi (y := q_offer X k) (by unfold q_offer; rw [h1]; rfl) ?_
    exact W.iret hx hb hr (fun t9 ht _ => ⟨rfl, by rw [ht]; exact ⟨x_F.rf, by unfold z_offer; rw [h1]; exact hP⟩⟩) hF d_M_offer_11
set_option maxHeartbeats 4000000 in
set_option maxRecDepth 100000 in
theorem c_M_forget (l : Launch) (D : va_G) (cA : Nat → ClassId) (m made : Nat) (N : n_T) (X : d_T) (k : Int32) : Met l y_M_forget [.code y_M_forget b_M_forget 3 (some .int)] (x_rm 1 0 0) (x_P D cA [.ref m, .int k] (fun H => mm_W D cA m made N X H)) (x_Q (some (.int (q_forget X k))) (fun H H1 => x_F (m_A m) H H1 ∧ mm_W D cA m made N (z_forget X k) H1)) 0 0 (m_A m) := by
  refine x_met (own := "DecisionLayersModel") (by decide) rfl (Nat.le_of_ble_eq_true rfl) ?_
  intro pp ee s mm below mt cd ls hx hb hr hlk hnm hml hown hts hE hP hl
  have hl : lv_has ls 3 [(0, .ref m), (1, .int k)] := hl
  obtain ⟨Y, hW, hR⟩ := id hP
  obtain ⟨r1, r2, r3, r4, r5, rN, rp, ri, rl, rs⟩ := id hR
  have hF : ∀ q ∈ ([] : List Loc), m_A m q.base := t_nil
  refine lv_iload_n hx hb d_M_forget_0 rfl (lv_at hl 1 rfl) ?_
  refine lv_bipush (v := 7) hx hb d_M_forget_1 (by decide) ?_
  refine x_cp (k_M_106 (As := [.int k, .int 7]) (rest := []) hx hb hml hown hts (c_M_within l D cA k 7) (x_preS hE trivial) rfl hl.1 rfl (Nat.le_of_ble_eq_true rfl) d_M_forget_3 (by decide) ⟨Nat.zero_le _, Nat.zero_le _⟩) ?_
  refine x_topi (y := bI (q_key k)) (by rw [w_7]) ?_
  refine lv_if_ne (tgt := 12) hx hb d_M_forget_6 (by decide) (fun h1 => ?_) (fun h1 => ?_)
  · have h1 := bI_n0.mp h1
    obtain ⟨j, hj, rfl⟩ := q_key_in h1
    have hcl : (nI j).toNatClampNeg = j := nI_clamp (by omega)
    refine lv_aload_n hx hb d_M_forget_12 rfl (lv_at hl 0 rfl) ?_
    refine fg_M_7_M hx hb hown hts hE hW.1 rfl d_M_forget_13 ?_
    refine lv_iload_n hx hb d_M_forget_16 rfl (lv_at hl 1 rfl) ?_
    refine x_iald hx hb hE.2.2 (show va_at D x_cl (m + 1, .inl (cA 0, 8, .inl (m_i Y 1))) _ from hW.2 1 (by decide) (by decide)) 0 rfl hj (by decide) d_M_forget_17 ?_
    refine x_topi (y := d_c X j) (by rw [r4]) ?_
    refine lv_istore_n (lv' := [(2, .int (d_c X j)), (0, .ref m), (1, .int (nI j))]) hx hb d_M_forget_18 rfl hl (by decide) rfl (fun ls hl => ?_)
    refine lv_aload_n hx hb d_M_forget_19 rfl (lv_at hl 1 rfl) ?_
    refine fg_M_7_M hx hb hown hts hE hW.1 rfl d_M_forget_20 ?_
    refine lv_iload_n hx hb d_M_forget_23 rfl (lv_at hl 2 rfl) ?_
    refine lv_iconst (v := 0) hx hb d_M_forget_24 (by decide) ?_
    refine x_iast hx hb hE.2.2 (show va_at D x_cl (m + 1, .inl (cA 0, 8, .inl (m_i Y 1))) _ from hW.2 1 (by decide) (by decide)) 0 rfl hj (by decide) d_M_forget_25 (fun H1 k1 g1 o1 => ?_)
    have hF := t_lc (a := m + 1) (i := k1) hF (m_A_in (by omega) (by omega))
    have hW1 := hW.ai (i := 1) (by decide) o1 (f := upd (m_i Y 1) j 0) g1
    refine lv_iload_n hx hb d_M_forget_26 rfl (lv_at hl 0 rfl) ?_
    refine x_topi (y := q_forget X (nI j)) (by unfold q_forget; rw [h1, if_pos rfl, hcl]) ?_
    exact W.iret hx hb hr (fun t9 ht _ => ⟨rfl, by rw [ht]; exact ⟨x_F.of1 o1 (m_A_in (by omega) (by omega)), _, hW1, by unfold z_forget; rw [h1, if_pos rfl, hcl]; exact ⟨r1, r2, r3, congrArg (fun c => upd c j 0) r4, r5, rN, rp, ri, rl, rs⟩⟩⟩) hF d_M_forget_27
  · have h1 := bI_0.mp h1
    refine lv_bipush (v := (-2)) hx hb d_M_forget_9 (by decide) ?_
    refine x_topi (y := q_forget X k) (by unfold q_forget; rw [h1]; rfl) ?_
    exact W.iret hx hb hr (fun t9 ht _ => ⟨rfl, by rw [ht]; exact ⟨x_F.rf, by unfold z_forget; rw [h1]; exact hP⟩⟩) hF d_M_forget_11
set_option maxHeartbeats 4000000 in
set_option maxRecDepth 100000 in
theorem c_M_holds (l : Launch) (D : va_G) (cA : Nat → ClassId) (m made : Nat) (N : n_T) (X : d_T) (hv : Nat → Bool) (hmd : made ≤ 512) (hok : n_ok made N) (hdo : d_ok made X) (hVe : n_V (d_c X) (d_r X) made N hv) (k : Int32) : Met l y_M_holds [.code y_M_holds b_M_holds 2 (some .boolean)] (x_rm 7 0 0) (x_P D cA [.ref m, .int k] (fun H => mm_W D cA m made N X H)) (x_Q (some (.int (bI (q_holds X hv k)))) (fun H H1 => x_F (m_A m) H H1 ∧ mm_W D cA m made N (X) H1)) 0 0 (m_A m) := by
  refine x_met (own := "DecisionLayersModel") (by decide) rfl (Nat.le_of_ble_eq_true rfl) ?_
  intro pp ee s mm below mt cd ls hx hb hr hlk hnm hml hown hts hE hP hl
  have hl : lv_has ls 2 [(0, .ref m), (1, .int k)] := hl
  obtain ⟨Y, hW, hR⟩ := id hP
  obtain ⟨r1, r2, r3, r4, r5, rN, rp, ri, rl, rs⟩ := id hR
  have hF : ∀ q ∈ ([] : List Loc), m_A m q.base := t_nil
  obtain ⟨hn8, hpm, hvo, -⟩ := id hdo
  refine lv_iload_n hx hb d_M_holds_0 rfl (lv_at hl 1 rfl) ?_
  refine lv_if_lt (tgt := 12) hx hb d_M_holds_1 (by decide) (fun h1 => ?_) (fun h1 => ?_)
  · refine lv_iconst (v := 0) hx hb d_M_holds_12 (by decide) ?_
    refine x_topi (y := bI (q_holds X hv k)) (by unfold q_holds; rw [decide_eq_false (fun z => absurd h1 (Int32.not_lt.mpr z.1))]; rfl) ?_
    exact W.zret (ty := .boolean) hx hb hr (bI_z _) (fun t9 ht _ => ⟨rfl, by rw [ht]; exact ⟨x_F.rf, hP⟩⟩) hF d_M_holds_13
  · refine lv_iload_n hx hb d_M_holds_4 rfl (lv_at hl 1 rfl) ?_
    refine lv_aload_n hx hb d_M_holds_5 rfl (lv_at hl 0 rfl) ?_
    refine fg_M_103_M hx hb hown hts hE hW.1 rfl d_M_holds_6 ?_
    refine x_topi (y := nI (d_n X)) (by rw [← r2]) ?_
    refine lv_icmp_lt (tgt := 14) hx hb d_M_holds_9 (by decide) (fun h2 => ?_) (fun h2 => ?_)
    · obtain ⟨j, hj, rfl⟩ := nI_of h1
      have h2 : j < d_n X := (nI_ltI (by omega) (by omega)).mp h2
      have hcl : (nI j).toNatClampNeg = j := nI_clamp (by omega)
      have hR9 : q_holds X hv (nI j) = hv (d_p X j) := by unfold q_holds; rw [decide_eq_true ⟨Int32.not_lt.mp h1, (nI_ltI (by omega) (by omega)).mpr h2⟩, hcl]; rfl
      have him := hpm j h2
      obtain ⟨p1j, -⟩ := rp j h2
      refine lv_aload_n hx hb d_M_holds_14 rfl (lv_at hl 0 rfl) ?_
      refine x_cv (k_M_135 (As := []) (rest := []) hx hb hml hown hts (c_M_settle l D cA m Y N hv (by rw [r1]; exact hmd) (by rw [r1]; exact hok) (by rw [r1]; exact rN) (by rw [r4]; exact hvo) (by rw [r1, r4, r5]; exact hVe)) (x_preV hE hW.1 rfl rfl hW) rfl hl.1 rfl (Nat.le_of_ble_eq_true rfl) d_M_holds_15 (by decide) ⟨Nat.zero_le _, Nat.zero_le _⟩) (fun H1 L1 p1 f1 => ?_)
      have hF := t_lL hF (fun q h => (fun q h => m_hA_A h) q.base (f1 q h))
      obtain ⟨e1, h, t, f, hW1, hh⟩ := p1
      refine lv_aload_n hx hb d_M_holds_18 rfl (lv_at hl 0 rfl) ?_
      refine fg_M_39_M hx hb hown hts hE hW1.1 rfl d_M_holds_19 ?_
      refine lv_aload_n hx hb d_M_holds_22 rfl (lv_at hl 0 rfl) ?_
      refine fg_M_43_M hx hb hown hts hE hW1.1 rfl d_M_holds_23 ?_
      refine lv_iload_n hx hb d_M_holds_26 rfl (lv_at hl 1 rfl) ?_
      refine x_iald hx hb hE.2.2 (show va_at D x_cl (m + 11, .inl (cA 0, 8, .inl (m_i (m_h Y h t f) 11))) _ from hW1.2 11 (by decide) (by decide)) 0 rfl (by omega) (by decide) d_M_holds_27 ?_
      refine x_topi (y := nI (d_p X j)) p1j ?_
      refine x_zald hx hb hE.2.2 (show va_at D x_cl (m + 10, .inl (cA 3, 520, .inl (m_i (m_h Y h t f) 10))) _ from hW1.2 10 (by decide) (by decide)) 3 rfl (by omega) (by decide) d_M_holds_28 ?_
      refine x_topi (y := bI (hv (d_p X j))) (hh _ (by rw [r1]; exact him)) ?_
      refine x_topi (y := bI (q_holds X hv (nI j))) (by rw [hR9]) ?_
      exact W.zret (ty := .boolean) hx hb hr (bI_z _) (fun t9 ht _ => ⟨rfl, by rw [ht]; exact ⟨e1.mono (fun q h => m_hA_A h), _, hW1, hR.h h t f⟩⟩) hF d_M_holds_29
    · refine lv_iconst (v := 0) hx hb d_M_holds_12 (by decide) ?_
      refine x_topi (y := bI (q_holds X hv k)) (by unfold q_holds; rw [decide_eq_false (fun z => h2 z.2)]; rfl) ?_
      exact W.zret (ty := .boolean) hx hb hr (bI_z _) (fun t9 ht _ => ⟨rfl, by rw [ht]; exact ⟨x_F.rf, hP⟩⟩) hF d_M_holds_13
