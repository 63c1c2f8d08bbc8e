/-! what a method may write, what stays; the values -/
def x_A (l : List Nat) : Addr → Prop := fun q => q ∈ l
def x_F (A : Addr → Prop) (H H1 : Heap) : Prop := H1.size = H.size ∧ ∀ q : Nat, ¬ A q → H1[q]? = H[q]?
theorem x_F.rf {A : Addr → Prop} {H : Heap} : x_F A H H := ⟨rfl, fun _ _ => rfl⟩
theorem x_F.of1 {A : Addr → Prop} {a : Nat} {H H1 : Heap} (h : x_1 a H H1) (ha : A a) : x_F A H H1 := ⟨h.1, fun q hq => h.2 q (fun e => hq (by rw [e]; exact ha))⟩
theorem x_F.trans {A : Addr → Prop} {H H1 H2 : Heap} (h : x_F A H H1) (h2 : x_F A H1 H2) : x_F A H H2 := ⟨h2.1.trans h.1, fun q hq => (h2.2 q hq).trans (h.2 q hq)⟩
theorem x_F.mono {A B : Addr → Prop} {H H1 : Heap} (h : x_F A H H1) (hAB : ∀ q, A q → B q) : x_F B H H1 := ⟨h.1, fun q hq => h.2 q (fun z => hq (hAB q z))⟩
theorem va_at.kF {D : va_G} {cl : List vw_C} {q : Nat × va_E} {A : Addr → Prop} {H H1 : Heap} (h : va_at D cl q H) (h1 : x_F A H H1) (hq : ¬ A q.1) : va_at D cl q H1 := h.kept (h1.2 _ hq)
def v_W (D : va_G) (cA : Nat → ClassId) (v : Nat) (cnt : Nat → Int32) (row : Nat → Int64) (H : Heap) : Prop :=
  va_at D x_cl (v, .inr (0, [.ref (v + 1), .ref (v + 2)])) H ∧ va_at D x_cl (v + 1, .inl (cA 1, 32, .inr (.inl row))) H ∧ va_at D x_cl (v + 2, .inl (cA 0, 8, .inl cnt)) H
theorem v_W.kept {D : va_G} {cA : Nat → ClassId} {v : Nat} {cnt : Nat → Int32} {row : Nat → Int64} {H H1 : Heap} (h : v_W D cA v cnt row H) (hq : ∀ q : Nat, v ≤ q → q ≤ v + 2 → H1[q]? = H[q]?) : v_W D cA v cnt row H1 :=
  ⟨h.1.kept (hq v (by omega) (by omega)), h.2.1.kept (hq (v + 1) (by omega) (by omega)), h.2.2.kept (hq (v + 2) (by omega) (by omega))⟩
theorem x_in8 {k : Int32} : (0 ≤ k ∧ k < 8) ↔ ¬ k < 0 ∧ ¬ 8 ≤ k := by rw [Int32.not_lt, Int32.not_le]
set_option maxHeartbeats 4000000 in
set_option maxRecDepth 100000 in
theorem c_Values_isKey (l : Launch) (D : va_G) (cA : Nat → ClassId) (k : Int32) : Met l y_Values_isKey [.code y_Values_isKey b_Values_isKey 1 (some .boolean)] (x_rm 0 0 0) (x_P D cA [.int k] (fun _ => True)) (x_Q (some (.int (bI (decide (0 ≤ k ∧ k < 8))))) (x_same)) 0 0 (fun _ => False) := by
  refine x_met (own := "DecisionLayers$Values") (by decide) rfl (Nat.le_of_ble_eq_true rfl) ?_
  intro pp ee s mm below mt cd ls hx hb hr hlk hnm hml hown hts hE hP hl
  have hl : lv_has ls 1 [(0, .int k)] := hl
  refine lv_iload_n hx hb d_Values_isKey_0 rfl (lv_at hl 0 rfl) ?_
  refine lv_if_lt (tgt := 14) hx hb d_Values_isKey_1 (by decide) (fun h1 => ?_) (fun h1 => ?_)
  · refine lv_iconst (v := 0) hx hb d_Values_isKey_14 (by decide) ?_
    refine x_topi (y := bI (decide (0 ≤ k ∧ k < 8))) (by rw [bI_no (fun h => (x_in8.mp h).1 h1)]) ?_
    exact W.zret (ty := .boolean) hx hb hr (bI_z _) (fun t ht hW => ⟨rfl, ht⟩) (fun q h => by cases h) d_Values_isKey_15
  · refine lv_iload_n hx hb d_Values_isKey_4 rfl (lv_at hl 0 rfl) ?_
    refine lv_bipush (v := 8) hx hb d_Values_isKey_5 (by decide) ?_
    refine lv_icmp_ge (tgt := 14) hx hb d_Values_isKey_7 (by decide) (fun h2 => ?_) (fun h2 => ?_)
    · refine lv_iconst (v := 0) hx hb d_Values_isKey_14 (by decide) ?_
      refine x_topi (y := bI (decide (0 ≤ k ∧ k < 8))) (by rw [bI_no (fun h => (x_in8.mp h).2 h2)]) ?_
      exact W.zret (ty := .boolean) hx hb hr (bI_z _) (fun t ht hW => ⟨rfl, ht⟩) (fun q h => by cases h) d_Values_isKey_15
    · refine lv_iconst (v := 1) hx hb d_Values_isKey_10 (by decide) ?_
      refine lv_goto (tgt := 15) hx hb d_Values_isKey_11 (by decide) ?_
      refine x_topi (y := bI (decide (0 ≤ k ∧ k < 8))) (by rw [bI_of (x_in8.mpr ⟨h1, h2⟩)]) ?_
      exact W.zret (ty := .boolean) hx hb hr (bI_z _) (fun t ht hW => ⟨rfl, ht⟩) (fun q h => by cases h) d_Values_isKey_15
set_option maxHeartbeats 4000000 in
set_option maxRecDepth 100000 in
theorem c_Values_count (l : Launch) (D : va_G) (cA : Nat → ClassId) (v : Nat) (cnt : Nat → Int32) (row : Nat → Int64) (k : Int32) : Met l y_Values_count [.code y_Values_count b_Values_count 2 (some .int)] (x_rm 0 0 0) (x_P D cA [.ref v, .int k] (fun H => v_W D cA v cnt row H)) (x_Q (some (.int (vl_c cnt k))) (x_same)) 0 0 (fun _ => False) := by
  refine x_met (own := "DecisionLayers$Values") (by decide) rfl (Nat.le_of_ble_eq_true rfl) ?_
  intro pp ee s mm below mt cd ls hx hb hr hlk hnm hml hown hts hE hP hl
  have hl : lv_has ls 2 [(0, .ref v), (1, .int k)] := hl
  obtain ⟨g0, g1, g2⟩ := hP
  refine lv_iload_n hx hb d_Values_count_0 rfl (lv_at hl 1 rfl) ?_
  refine lv_if_lt (tgt := 19) hx hb d_Values_count_1 (by decide) (fun h1 => ?_) (fun h1 => ?_)
  · refine lv_iconst (v := 0) hx hb d_Values_count_19 (by decide) ?_
    refine x_topi (y := vl_c cnt k) (by rw [vl_c_lo h1]) ?_
    exact W.iret hx hb hr (fun t ht hW => ⟨rfl, ht⟩) (fun q h => by cases h) d_Values_count_20
  · refine lv_iload_n hx hb d_Values_count_4 rfl (lv_at hl 1 rfl) ?_
    refine lv_bipush (v := 8) hx hb d_Values_count_5 (by decide) ?_
    refine lv_icmp_ge (tgt := 19) hx hb d_Values_count_7 (by decide) (fun h2 => ?_) (fun h2 => ?_)
    · refine lv_iconst (v := 0) hx hb d_Values_count_19 (by decide) ?_
      refine x_topi (y := vl_c cnt k) (by rw [vl_c_hi h2]) ?_
      exact W.iret hx hb hr (fun t ht hW => ⟨rfl, ht⟩) (fun q h => by cases h) d_Values_count_20
    · obtain ⟨j, hj, rfl⟩ := vl_key h1 h2
      refine lv_aload_n hx hb d_Values_count_10 rfl (lv_at hl 0 rfl) ?_
      refine fg_Values_13_Values hx hb hown hts hE g0 rfl d_Values_count_11 ?_
      refine lv_iload_n hx hb d_Values_count_14 rfl (lv_at hl 1 rfl) ?_
      refine x_iald hx hb hE.2.2 g2 0 rfl hj (by decide) d_Values_count_15 ?_
      refine lv_goto (tgt := 20) hx hb d_Values_count_16 (by decide) ?_
      refine x_topi (y := vl_c cnt (nI j)) (by rw [vl_c_in hj]) ?_
      exact W.iret hx hb hr (fun t ht hW => ⟨rfl, ht⟩) (fun q h => by cases h) d_Values_count_20
set_option maxHeartbeats 4000000 in
set_option maxRecDepth 100000 in
theorem c_Values_get (l : Launch) (D : va_G) (cA : Nat → ClassId) (v : Nat) (cnt : Nat → Int32) (row : Nat → Int64) (j i n : Nat) (hj : j < 8) (hn : cnt j = nI n) (hi : i < n) (h4 : n ≤ 4) : Met l y_Values_get [.code y_Values_get b_Values_get 3 (some .long)] (x_rm 0 0 0) (x_P D cA [.ref v, .int (nI j), .int (nI i)] (fun H => v_W D cA v cnt row H)) (x_Q (some (.long (row (4 * j + i)))) (x_same)) 0 0 (fun _ => False) := by
  refine x_met (own := "DecisionLayers$Values") (by decide) rfl (Nat.le_of_ble_eq_true rfl) ?_
  intro pp ee s mm below mt cd ls hx hb hr hlk hnm hml hown hts hE hP hl
  have hl : lv_has ls 3 [(0, .ref v), (1, .int (nI j)), (2, .int (nI i))] := hl
  obtain ⟨g0, g1, g2⟩ := hP
  refine lv_iload_n hx hb d_Values_get_0 rfl (lv_at hl 1 rfl) ?_
  refine lv_if_lt (tgt := 24) hx hb d_Values_get_1 (by decide) (fun h1 => ?_) (fun h1 => ?_)
  · exact absurd h1 (nI_pos (by omega))
  · refine lv_iload_n hx hb d_Values_get_4 rfl (lv_at hl 1 rfl) ?_
    refine lv_bipush (v := 8) hx hb d_Values_get_5 (by decide) ?_
    refine lv_icmp_ge (tgt := 24) hx hb d_Values_get_7 (by decide) (fun h2 => ?_) (fun h2 => ?_)
    · exact absurd (n_ge (k := 8) h2 (by decide) (by omega)) (by omega)
    · refine lv_iload_n hx hb d_Values_get_10 rfl (lv_at hl 2 rfl) ?_
      refine lv_if_lt (tgt := 24) hx hb d_Values_get_11 (by decide) (fun h3 => ?_) (fun h3 => ?_)
      · exact absurd h3 (nI_pos (by omega))
      · refine lv_iload_n hx hb d_Values_get_14 rfl (lv_at hl 2 rfl) ?_
        refine lv_aload_n hx hb d_Values_get_15 rfl (lv_at hl 0 rfl) ?_
        refine fg_Values_13_Values hx hb hown hts hE g0 rfl d_Values_get_16 ?_
        refine lv_iload_n hx hb d_Values_get_19 rfl (lv_at hl 1 rfl) ?_
        refine x_iald hx hb hE.2.2 g2 0 rfl hj (by decide) d_Values_get_20 ?_
        refine x_topi (y := nI n) hn ?_
        refine lv_icmp_lt (tgt := 26) hx hb d_Values_get_21 (by decide) (fun h4 => ?_) (fun h4 => ?_)
        · refine lv_aload_n hx hb d_Values_get_26 rfl (lv_at hl 0 rfl) ?_
          refine fg_Values_9_Values hx hb hown hts hE g0 rfl d_Values_get_27 ?_
          refine lv_iload_n hx hb d_Values_get_30 rfl (lv_at hl 1 rfl) ?_
          refine lv_iconst (v := 4) hx hb d_Values_get_31 (by decide) ?_
          refine lv_imul hx hb d_Values_get_32 ?_
          refine x_topi (y := nI (4 * j)) (by rw [show (4 : Int32) = nI 4 from rfl, pk_mul, Nat.mul_comm]) ?_
          refine lv_iload_n hx hb d_Values_get_33 rfl (lv_at hl 2 rfl) ?_
          refine lv_iadd hx hb d_Values_get_34 ?_
          refine x_topi (y := nI (4 * j + i)) (nI_add _ _) ?_
          refine x_lald hx hb hE.2.2 g1 1 rfl (by omega) (by decide) d_Values_get_35 ?_
          exact W.lret hx hb hr (fun t ht hW => ⟨rfl, ht⟩) (fun q h => by cases h) d_Values_get_36
        · exact absurd ((nI_ltI (by omega) (by omega)).mpr hi) h4
set_option maxHeartbeats 4000000 in
set_option maxRecDepth 100000 in
theorem c_Values_isFull (l : Launch) (D : va_G) (cA : Nat → ClassId) (v : Nat) (cnt : Nat → Int32) (row : Nat → Int64) (k : Int32) : Met l y_Values_isFull [.code y_Values_isFull b_Values_isFull 2 (some .boolean)] (x_rm 1 0 0) (x_P D cA [.ref v, .int k] (fun H => v_W D cA v cnt row H)) (x_Q (some (.int (bI (decide (4 ≤ vl_c cnt k))))) (x_same)) 0 0 (fun _ => False) := by
  refine x_met (own := "DecisionLayers$Values") (by decide) rfl (Nat.le_of_ble_eq_true rfl) ?_
  intro pp ee s mm below mt cd ls hx hb hr hlk hnm hml hown hts hE hP hl
  have hl : lv_has ls 2 [(0, .ref v), (1, .int k)] := hl
  refine lv_aload_n hx hb d_Values_isFull_0 rfl (lv_at hl 0 rfl) ?_
  refine lv_iload_n hx hb d_Values_isFull_1 rfl (lv_at hl 1 rfl) ?_
  refine x_cp (k_Values_17 (As := [.int k]) (rest := []) hx hb hml hown hts (c_Values_count l D cA v cnt row k) (x_preV hE hP.1 rfl rfl hP) rfl hl.1 rfl (Nat.le_of_ble_eq_true rfl) d_Values_isFull_2 (by decide) ⟨Nat.zero_le _, Nat.zero_le _⟩) ?_
  refine lv_iconst (v := 4) hx hb d_Values_isFull_5 (by decide) ?_
  refine lv_icmp_lt (tgt := 13) hx hb d_Values_isFull_6 (by decide) (fun h => ?_) (fun h => ?_)
  · refine lv_iconst (v := 0) hx hb d_Values_isFull_13 (by decide) ?_
    refine x_topi (y := bI (decide (4 ≤ vl_c cnt k))) (by rw [bI_no (by rw [Int32.not_le]; exact h)]) ?_
    exact W.zret (ty := .boolean) hx hb hr (bI_z _) (fun t ht hW => ⟨rfl, ht⟩) (fun q h => by cases h) d_Values_isFull_14
  · refine lv_iconst (v := 1) hx hb d_Values_isFull_9 (by decide) ?_
    refine lv_goto (tgt := 14) hx hb d_Values_isFull_10 (by decide) ?_
    refine x_topi (y := bI (decide (4 ≤ vl_c cnt k))) (by rw [bI_of (Int32.not_lt.mp h)]) ?_
    exact W.zret (ty := .boolean) hx hb hr (bI_z _) (fun t ht hW => ⟨rfl, ht⟩) (fun q h => by cases h) d_Values_isFull_14
set_option maxHeartbeats 4000000 in
set_option maxRecDepth 100000 in
theorem c_Values_append (l : Launch) (D : va_G) (cA : Nat → ClassId) (v : Nat) (cnt : Nat → Int32) (row : Nat → Int64) (j n : Nat) (x : Int64) (hj : j < 8) (hn : cnt j = nI n) (h4 : n < 4) : Met l y_Values_append [.code y_Values_append b_Values_append 4 (some .int)] (x_rm 1 0 0) (x_P D cA [.ref v, .int (nI j), .long x] (fun H => v_W D cA v cnt row H)) (x_Q (some (.int (nI (n + 1)))) (fun H H1 => x_F (x_A [v + 1, v + 2]) H H1 ∧ v_W D cA v (upd cnt j (nI (n + 1))) (vp_updL row (4 * j + n) x) H1)) 0 0 (x_A [v + 1, v + 2]) := by
  refine x_met (own := "DecisionLayers$Values") (by decide) rfl (Nat.le_of_ble_eq_true rfl) ?_
  intro pp ee s mm below mt cd ls hx hb hr hlk hnm hml hown hts hE hP hl
  have hl : lv_has ls 4 [(0, .ref v), (1, .int (nI j)), (2, .long x)] := hl
  obtain ⟨g0, g1, g2⟩ := hP
  have hF : ∀ q ∈ ([] : List Loc), x_A [v + 1, v + 2] q.base := t_nil
  refine lv_iload_n hx hb d_Values_append_0 rfl (lv_at hl 1 rfl) ?_
  refine x_cp (k_Values_21 (As := [.int (nI j)]) (rest := []) hx hb hml hown hts (c_Values_isKey l D cA (nI j)) (x_preS hE trivial) rfl hl.1 rfl (Nat.le_of_ble_eq_true rfl) d_Values_append_1 (by decide) ⟨Nat.zero_le _, Nat.zero_le _⟩) ?_
  refine x_topi (y := 1) (bI_of ⟨nI_pos' (by omega), (nI_ltI (by omega) (by decide) : nI j < nI 8 ↔ j < 8).mpr hj⟩) ?_
  refine lv_if_eq (tgt := 43) hx hb d_Values_append_4 (by decide) (fun h1 => ?_) (fun h1 => ?_)
  · exact absurd h1 (by decide)
  · refine lv_aload_n hx hb d_Values_append_7 rfl (lv_at hl 0 rfl) ?_
    refine fg_Values_13_Values hx hb hown hts hE g0 rfl d_Values_append_8 ?_
    refine lv_iload_n hx hb d_Values_append_11 rfl (lv_at hl 1 rfl) ?_
    refine x_iald hx hb hE.2.2 g2 0 rfl hj (by decide) d_Values_append_12 ?_
    refine x_topi (y := nI n) hn ?_
    refine lv_iconst (v := 4) hx hb d_Values_append_13 (by decide) ?_
    refine lv_icmp_ge (tgt := 43) hx hb d_Values_append_14 (by decide) (fun h2 => ?_) (fun h2 => ?_)
    · exact absurd (n_ge (k := 4) h2 (by decide) (by omega)) (by omega)
    · refine lv_aload_n hx hb d_Values_append_17 rfl (lv_at hl 0 rfl) ?_
      refine fg_Values_9_Values hx hb hown hts hE g0 rfl d_Values_append_18 ?_
      refine lv_iload_n hx hb d_Values_append_21 rfl (lv_at hl 1 rfl) ?_
      refine lv_iconst (v := 4) hx hb d_Values_append_22 (by decide) ?_
      refine lv_imul hx hb d_Values_append_23 ?_
      refine x_topi (y := nI (4 * j)) (by rw [show (4 : Int32) = nI 4 from rfl, pk_mul, Nat.mul_comm]) ?_
      refine lv_aload_n hx hb d_Values_append_24 rfl (lv_at hl 0 rfl) ?_
      refine fg_Values_13_Values hx hb hown hts hE g0 rfl d_Values_append_25 ?_
      refine lv_iload_n hx hb d_Values_append_28 rfl (lv_at hl 1 rfl) ?_
      refine x_iald hx hb hE.2.2 g2 0 rfl hj (by decide) d_Values_append_29 ?_
      refine x_topi (y := nI n) hn ?_
      refine lv_iadd hx hb d_Values_append_30 ?_
      refine x_topi (y := nI (4 * j + n)) (nI_add _ _) ?_
      refine lv_lload_n hx hb d_Values_append_31 rfl (lv_at hl 2 rfl) ?_
      refine x_last hx hb hE.2.2 g1 1 rfl (by omega) (by decide) d_Values_append_32 (fun H1 k1 g1 o1 => ?_)
      have hF := t_lc (a := v + 1) (i := k1) hF (by unfold x_A; simp)
      have g0 := g0.k1 o1 (show v ≠ v + 1 by omega)
      have g2 := g2.k1 o1 (show v + 2 ≠ v + 1 by omega)
      refine lv_aload_n hx hb d_Values_append_33 rfl (lv_at hl 0 rfl) ?_
      refine fg_Values_13_Values hx hb hown hts hE g0 rfl d_Values_append_34 ?_
      refine lv_iload_n hx hb d_Values_append_37 rfl (lv_at hl 1 rfl) ?_
      refine lv_dup2_11 hx hb d_Values_append_38 rfl rfl ?_
      refine x_iald hx hb hE.2.2 g2 0 rfl hj (by decide) d_Values_append_39 ?_
      refine x_topi (y := nI n) hn ?_
      refine lv_iconst (v := 1) hx hb d_Values_append_40 (by decide) ?_
      refine lv_iadd hx hb d_Values_append_41 ?_
      refine x_topi (y := nI (n + 1)) (nI_succ n).symm ?_
      refine x_iast hx hb hE.2.2 g2 0 rfl hj (by decide) d_Values_append_42 (fun H2 k2 g2 o2 => ?_)
      have hF := t_lc (a := v + 2) (i := k2) hF (by unfold x_A; simp)
      have g0 := g0.k1 o2 (show v ≠ v + 2 by omega)
      have g1 := g1.k1 o2 (show v + 1 ≠ v + 2 by omega)
      have hV : v_W D cA v (upd cnt j (nI (n + 1))) (vp_updL row (4 * j + n) x) H2 := ⟨g0, g1, g2⟩
      refine lv_aload_n hx hb d_Values_append_43 rfl (lv_at hl 0 rfl) ?_
      refine lv_iload_n hx hb d_Values_append_44 rfl (lv_at hl 1 rfl) ?_
      refine x_cp (k_Values_17 (As := [.int (nI j)]) (rest := []) hx hb hml hown hts (c_Values_count l D cA v (upd cnt j (nI (n + 1))) (vp_updL row (4 * j + n) x) (nI j)) (x_preV hE g0 rfl rfl hV) rfl hl.1 rfl (Nat.le_of_ble_eq_true rfl) d_Values_append_45 (by decide) ⟨Nat.zero_le _, Nat.zero_le _⟩) ?_
      refine x_topi (y := nI (n + 1)) (by rw [vl_c_in hj, pk_us]) ?_
      exact W.iret hx hb hr (fun t ht hW => ⟨rfl, by rw [ht]; exact ⟨(x_F.of1 o1 (by unfold x_A; simp)).trans (x_F.of1 o2 (by unfold x_A; simp)), hV⟩⟩) hF d_Values_append_48
set_option maxHeartbeats 4000000 in
set_option maxRecDepth 100000 in
theorem c_Values_empty (l : Launch) (D : va_G) (cA : Nat → ClassId) (v : Nat) (cnt : Nat → Int32) (row : Nat → Int64) (j : Nat) (hj : j < 8) : Met l y_Values_empty [.code y_Values_empty b_Values_empty 3 (some .int)] (x_rm 1 0 0) (x_P D cA [.ref v, .int (nI j)] (fun H => v_W D cA v cnt row H)) (x_Q (some (.int (cnt j))) (fun H H1 => x_F (x_A [v + 2]) H H1 ∧ v_W D cA v (upd cnt j 0) row H1)) 0 0 (x_A [v + 2]) := by
  refine x_met (own := "DecisionLayers$Values") (by decide) rfl (Nat.le_of_ble_eq_true rfl) ?_
  intro pp ee s mm below mt cd ls hx hb hr hlk hnm hml hown hts hE hP hl
  have hl : lv_has ls 3 [(0, .ref v), (1, .int (nI j))] := hl
  obtain ⟨g0, g1, g2⟩ := id hP
  have hF : ∀ q ∈ ([] : List Loc), x_A [v + 2] q.base := t_nil
  refine lv_aload_n hx hb d_Values_empty_0 rfl (lv_at hl 0 rfl) ?_
  refine lv_iload_n hx hb d_Values_empty_1 rfl (lv_at hl 1 rfl) ?_
  refine x_cp (k_Values_17 (As := [.int (nI j)]) (rest := []) hx hb hml hown hts (c_Values_count l D cA v cnt row (nI j)) (x_preV hE g0 rfl rfl hP) rfl hl.1 rfl (Nat.le_of_ble_eq_true rfl) d_Values_empty_2 (by decide) ⟨Nat.zero_le _, Nat.zero_le _⟩) ?_
  refine x_topi (y := cnt j) (vl_c_in hj) ?_
  refine lv_istore_n (lv' := [(2, .int (cnt j)), (0, .ref v), (1, .int (nI j))]) hx hb d_Values_empty_5 rfl hl (by decide) rfl (fun ls hl => ?_)
  refine lv_iload_n hx hb d_Values_empty_6 rfl (lv_at hl 2 rfl) ?_
  refine x_cp (k_Values_21 (As := [.int (nI j)]) (rest := []) hx hb hml hown hts (c_Values_isKey l D cA (nI j)) (x_preS hE trivial) rfl hl.1 rfl (Nat.le_of_ble_eq_true rfl) d_Values_empty_7 (by decide) ⟨Nat.zero_le _, Nat.zero_le _⟩) ?_
  refine x_topi (y := 1) (bI_of ⟨nI_pos' (by omega), (nI_ltI (by omega) (by decide) : nI j < nI 8 ↔ j < 8).mpr hj⟩) ?_
  refine lv_if_eq (tgt := 20) hx hb d_Values_empty_10 (by decide) (fun h1 => ?_) (fun h1 => ?_)
  · exact absurd h1 (by decide)
  · refine lv_aload_n hx hb d_Values_empty_13 rfl (lv_at hl 1 rfl) ?_
    refine fg_Values_13_Values hx hb hown hts hE g0 rfl d_Values_empty_14 ?_
    refine lv_iload_n hx hb d_Values_empty_17 rfl (lv_at hl 2 rfl) ?_
    refine lv_iconst (v := 0) hx hb d_Values_empty_18 (by decide) ?_
    refine x_iast hx hb hE.2.2 g2 0 rfl hj (by decide) d_Values_empty_19 (fun H1 k1 g1 o1 => ?_)
    have hF := t_lc (a := v + 2) (i := k1) hF (by unfold x_A; simp)
    have g0 := g0.k1 o1 (show v ≠ v + 2 by omega)
    have hg1 := g1
    have hV : v_W D cA v (upd cnt j 0) row H1 := ⟨g0, hP.2.1.k1 o1 (show v + 1 ≠ v + 2 by omega), g1⟩
    refine lv_iload_n hx hb d_Values_empty_20 rfl (lv_at hl 0 rfl) ?_
    exact W.iret hx hb hr (fun t ht hW => ⟨rfl, by rw [ht]; exact ⟨x_F.of1 o1 (by unfold x_A; simp), hV⟩⟩) hF d_Values_empty_21
