/-! the model's answers about statements -/
theorem mb_1 : ∀ k : Nat, k < 16 → ((nI k &&& 2) = 0 ↔ k.testBit 1 = false) := by decide +kernel
theorem mb_2 : ∀ k : Nat, k < 16 → ((nI k &&& 4) = 0 ↔ k.testBit 2 = false) := by decide +kernel
theorem mb_0 : ∀ k : Nat, k < 16 → ((nI k &&& 1) = 0 ↔ k.testBit 0 = false) := by decide +kernel
theorem who_a : ∀ a : Nat, a < 10 → ∀ u : Nat, u < 10 → (q_who (nI a) (nI u) - 100) / 10 = nI a := by decide +kernel
theorem s_m_who {w : Int32} {a u : Nat} (ha : a < 10) (hu : u < 10) : s_m w (q_who (nI a) (nI u)) = decide (w = -1 ∨ w = nI a ∨ w = q_who (nI a) (nI u)) := by
  unfold s_m
  rw [who_a a ha u hu]
  exact decide_eq_decide.mpr ⟨fun h => by rcases h with h | h | h; exact Or.inl h; exact Or.inr (Or.inr h); exact Or.inr (Or.inl h), fun h => by rcases h with h | h | h; exact Or.inl h; exact Or.inr (Or.inr h); exact Or.inr (Or.inl h)⟩
theorem s_s_is {cnt : Nat → Int32} {row : Nat → Int64} {hv : Nat → Bool} {k : Int32} {ac th : Int64} {x : s_T} {a b c d : Bool} (h1 : s_m x.2.2.2.1 k = a) (h2 : (pt_m cnt row x.2.1 ac true != x.1.testBit 1) = b) (h3 : (pt_m cnt row x.2.2.1 th false != x.1.testBit 2) = c) (h4 : s_c hv x.2.2.2.2 = d) : s_s cnt row hv k ac th x = (a && b && c && d) := by
  unfold s_s; rw [h1, h2, h3, h4]
theorem bI_inj {a b : Bool} (h : bI a = bI b) : a = b := by cases a <;> cases b <;> first | rfl | exact absurd h (by decide)
theorem bne_of_bI {a b : Bool} (h : ¬ bI a = bI b) : (a != b) = true := by cases a <;> cases b <;> first | rfl | exact absurd rfl h
theorem bt_of {b : Bool} (h : ¬ b = false) : b = true := by cases b; exact absurd rfl h; rfl
theorem bf_of {b : Bool} (h : ¬ b = true) : b = false := by cases b; rfl; exact absurd rfl h
set_option maxHeartbeats 4000000 in
set_option maxRecDepth 100000 in
theorem c_M_answer (l : Launch) (D : va_G) (cA : Nat → ClassId) (m : Nat) (Y : m_T) (x y : Int32) : Met l y_M_answer [.code y_M_answer b_M_answer 3 (some .int)] (x_rm 0 0 0) (x_P D cA [.ref m, .int x, .int y] (fun H => m_W D cA m Y H)) (x_Q (some (.int x)) (fun H H1 => x_F (x_A [m]) H H1 ∧ m_W D cA m (m_md Y, m_pl Y, y, m_tn Y, Y.2.2.2.2) H1)) 0 0 (x_A [m]) := by
  refine x_met (own := "DecisionLayersModel") (by decide) rfl (Nat.le_of_ble_eq_true rfl) ?_
  intro pp ee s mm below mt cd ls hx hb hr hlk hnm hml hown hts hE hP hl
  have hl : lv_has ls 3 [(0, .ref m), (1, .int x), (2, .int y)] := hl
  have hF : ∀ q ∈ ([] : List Loc), x_A [m] q.base := t_nil
  have hW := hP
  refine lv_aload_n hx hb d_M_answer_0 rfl (lv_at hl 0 rfl) ?_
  refine lv_iload_n hx hb d_M_answer_1 rfl (lv_at hl 2 rfl) ?_
  refine fp_M_67_M hx hb hown hts hE hW.1 rfl rfl (Nat.le_of_ble_eq_true rfl) d_M_answer_2 (fun H1 k1 g1 o1 => ?_)
  have hF := t_lc (a := m) (i := k1) hF (x_A1.mpr rfl)
  have hW1 := hW.obj (made := m_md Y) (pil := m_pl Y) (dec := y) (tok := m_tn Y) o1 g1
  refine lv_iload_n hx hb d_M_answer_5 rfl (lv_at hl 1 rfl) ?_
  exact W.iret hx hb hr (fun t9 ht _ => ⟨rfl, by rw [ht]; exact ⟨x_F.of1 o1 (x_A1.mpr rfl), hW1⟩⟩) hF d_M_answer_6
set_option maxHeartbeats 4000000 in
set_option maxRecDepth 100000 in
theorem c_M_applied (l : Launch) (D : va_G) (cA : Nat → ClassId) (m made : Nat) (N : n_T) (X : d_T) (hde : d_e X = -1 ∨ ¬ d_e X < 0) (k : Int32) : Met l y_M_applied [.code y_M_applied b_M_applied 2 (some .int)] (x_rm 1 0 0) (x_P D cA [.ref m, .int k] (fun H => mm_W D cA m made N X H)) (x_Q (some (.int (q_appl X k))) (x_same)) 0 0 (fun _ => False) := by
  refine x_met (own := "DecisionLayersModel") (by decide) rfl (Nat.le_of_ble_eq_true rfl) ?_
  intro pp ee s mm below mt cd ls hx hb hr hlk hnm hml hown hts hE hP hl
  have hl : lv_has ls 2 [(0, .ref m), (1, .int k)] := hl
  obtain ⟨Y, hW, hR⟩ := id hP
  obtain ⟨r1, r2, r3, r4, r5, rN, rp, ri, rl, rs⟩ := id hR
  refine lv_aload_n hx hb d_M_applied_0 rfl (lv_at hl 0 rfl) ?_
  refine fg_M_67_M hx hb hown hts hE hW.1 rfl d_M_applied_1 ?_
  refine x_topi (y := d_e X) r3 ?_
  refine lv_if_lt (tgt := 15) hx hb d_M_applied_4 (by decide) (fun h1 => ?_) (fun h1 => ?_)
  · refine lv_iconst (v := (-1)) hx hb d_M_applied_15 (by decide) ?_
    refine lv_goto (tgt := 25) hx hb d_M_applied_16 (by decide) ?_
    refine x_topi (y := q_appl X k) (by unfold q_appl; rw [if_pos (by rcases hde with z | z; exact z; exact absurd h1 z)]) ?_
    exact W.iret hx hb hr (fun t9 ht _ => ⟨rfl, ht⟩) (fun q h => by cases h) d_M_applied_25
  · have h0 : ¬ d_e X = -1 := fun z => h1 (by rw [z]; decide)
    refine lv_iload_n hx hb d_M_applied_7 rfl (lv_at hl 1 rfl) ?_
    refine lv_iconst (v := 5) hx hb d_M_applied_8 (by decide) ?_
    refine x_cp (k_M_106 (As := [.int k, .int 5]) (rest := []) hx hb hml hown hts (c_M_within l D cA k 5) (x_preS hE trivial) rfl hl.1 rfl (Nat.le_of_ble_eq_true rfl) d_M_applied_9 (by decide) ⟨Nat.zero_le _, Nat.zero_le _⟩) ?_
    refine x_topi (y := bI (q_L k)) (by rw [w_5]) ?_
    refine lv_if_ne (tgt := 19) hx hb d_M_applied_12 (by decide) (fun h2 => ?_) (fun h2 => ?_)
    · have h2 := bI_n0.mp h2
      obtain ⟨j, hj, rfl⟩ := q_L_in h2
      obtain ⟨l1, l2, l3⟩ := rl j hj
      refine lv_aload_n hx hb d_M_applied_19 rfl (lv_at hl 0 rfl) ?_
      refine fg_M_71_M hx hb hown hts hE hW.1 rfl d_M_applied_20 ?_
      refine lv_iload_n hx hb d_M_applied_23 rfl (lv_at hl 1 rfl) ?_
      refine x_iald hx hb hE.2.2 (show va_at D x_cl (m + 19, .inl (cA 0, 6, .inl (m_i Y 19))) _ from hW.2 19 (by decide) (by decide)) 0 rfl hj (by decide) d_M_applied_24 ?_
      refine x_topi (y := nI (d_j X j)) l3 ?_
      refine x_topi (y := q_appl X (nI j)) (by unfold q_appl; rw [if_neg h0, h2, if_pos rfl, nI_clamp (by omega)]) ?_
      exact W.iret hx hb hr (fun t9 ht _ => ⟨rfl, ht⟩) (fun q h => by cases h) d_M_applied_25
    · have h2 := bI_0.mp h2
      refine lv_iconst (v := (-1)) hx hb d_M_applied_15 (by decide) ?_
      refine lv_goto (tgt := 25) hx hb d_M_applied_16 (by decide) ?_
      refine x_topi (y := q_appl X k) (by unfold q_appl; rw [if_neg h0, h2]; rfl) ?_
      exact W.iret hx hb hr (fun t9 ht _ => ⟨rfl, ht⟩) (fun q h => by cases h) d_M_applied_25
set_option maxHeartbeats 4000000 in
set_option maxRecDepth 100000 in
theorem c_M_does (l : Launch) (D : va_G) (cA : Nat → ClassId) (m made : Nat) (N : n_T) (X : d_T) (Y : m_T) (hv : Nat → Bool) (hR : m_R made N X Y) (hmd : made ≤ 512) (hh : ∀ i, i < made → m_i Y 10 i = bI (hv i)) (j k a u : Nat) (hj : j < 6) (hk : k < 6) (hkd : k < d_k X j) (ha : a < 10) (hu : u < 10) (hso : s_ok made (d_s X j k)) (ac th : Int64) : Met l y_M_does [.code y_M_does b_M_does 11 (some .boolean)] (x_rm 4 0 0) (x_P D cA [.ref m, .int (nI (6 * j + k)), .int (nI a), .int (nI u), .long ac, .long th] (fun H => m_W D cA m Y H)) (x_Q (some (.int (bI (s_s (d_c X) (d_r X) hv (q_who (nI a) (nI u)) ac th (d_s X j k))))) (fun H H1 => x_F (m_tA m) H H1 ∧ ∃ (t : Nat) (f : Nat → Int32), m_W D cA m (m_tk Y t f) H1)) 0 0 (m_tA m) := by
  refine x_met (own := "DecisionLayersModel") (by decide) rfl (Nat.le_of_ble_eq_true rfl) ?_
  intro pp ee s mm below mt cd ls hx hb hr hlk hnm hml hown hts hE hP hl
  have hl : lv_has ls 11 [(0, .ref m), (1, .int (nI (6 * j + k))), (2, .int (nI a)), (3, .int (nI u)), (4, .long ac), (6, .long th)] := hl
  have hF : ∀ q ∈ ([] : List Loc), m_tA m q.base := t_nil
  have hW := hP
  obtain ⟨r1, r2, r3, r4, r5, rN, rp, ri, rl, rs⟩ := id hR
  obtain ⟨s1, s2, s3, s4, s5⟩ := rs j hj k hkd
  obtain ⟨h16, hcm⟩ := hso
  refine lv_aload_n hx hb d_M_does_0 rfl (lv_at hl 0 rfl) ?_
  refine lv_aload_n hx hb d_M_does_1 rfl (lv_at hl 0 rfl) ?_
  refine fg_M_55_M hx hb hown hts hE hW.1 rfl d_M_does_2 ?_
  refine lv_iload_n hx hb d_M_does_5 rfl (lv_at hl 1 rfl) ?_
  refine x_lald hx hb hE.2.2 (show va_at D x_cl (m + 15, .inl (cA 1, 36, .inr (.inl (m_l Y 15)))) _ from hW.2 15 (by decide) (by decide)) 1 rfl (by omega) (by decide) d_M_does_6 ?_
  refine lv_lload hx hb d_M_does_7 (lv_at hl 4 rfl) ?_
  refine lv_iconst (v := 1) hx hb d_M_does_9 (by decide) ?_
  refine x_topi (y := bI true) rfl ?_
  refine x_cw (k_M_120 (As := [.long (m_l Y 15 (6 * j + k)), .long ac, .int (bI true)]) (rest := []) hx hb hml hown hts (c_M_matchesX l D cA m made N X Y hR (m_l Y 15 (6 * j + k)) ac true) (x_preV hE hW.1 rfl rfl hW) rfl hl.1 rfl (Nat.le_of_ble_eq_true rfl) d_M_does_10 (by decide) ⟨Nat.zero_le _, Nat.zero_le _⟩) (fun H1 L1 p1 f1 => ?_)
  have hF := t_lL hF (fun q h => (fun q h => h) q.base (f1 q h))
  obtain ⟨e1, t1, f1, hW1⟩ := p1
  refine x_topi (y := bI (pt_m (d_c X) (d_r X) (d_s X j k).2.1 ac true)) (by rw [s2]) ?_
  refine x_join 37 (fun ls st => lv_has ls 11 [(0, .ref m), (1, .int (nI (6 * j + k))), (2, .int (nI a)), (3, .int (nI u)), (4, .long ac), (6, .long th)] ∧ st = [.int (bI (pt_m (d_c X) (d_r X) (d_s X j k).2.1 ac true != (d_s X j k).1.testBit 1))]) ?_ (fun hj => ?_)
  · intro ls st hj
    obtain ⟨hl, rfl⟩ := hj
    refine lv_istore (lv' := [(8, .int (bI (pt_m (d_c X) (d_r X) (d_s X j k).2.1 ac true != (d_s X j k).1.testBit 1))), (0, .ref m), (1, .int (nI (6 * j + k))), (2, .int (nI a)), (3, .int (nI u)), (4, .long ac), (6, .long th)]) hx hb d_M_does_37 hl (by decide) rfl (fun ls hl => ?_)
    refine lv_aload_n hx hb d_M_does_39 rfl (lv_at hl 1 rfl) ?_
    refine lv_aload_n hx hb d_M_does_40 rfl (lv_at hl 1 rfl) ?_
    refine fg_M_58_M hx hb hown hts hE hW1.1 rfl d_M_does_41 ?_
    refine lv_iload_n hx hb d_M_does_44 rfl (lv_at hl 2 rfl) ?_
    refine x_lald hx hb hE.2.2 (show va_at D x_cl (m + 16, .inl (cA 1, 36, .inr (.inl (m_l (m_tk Y t1 f1) 16)))) _ from hW1.2 16 (by decide) (by decide)) 1 rfl (by omega) (by decide) d_M_does_45 ?_
    refine lv_lload hx hb d_M_does_46 (lv_at hl 6 rfl) ?_
    refine lv_iconst (v := 0) hx hb d_M_does_48 (by decide) ?_
    refine x_topi (y := bI false) rfl ?_
    refine x_cw (k_M_120 (As := [.long (m_l Y 16 (6 * j + k)), .long th, .int (bI false)]) (rest := []) hx hb hml hown hts (c_M_matchesX l D cA m made N X (m_tk Y t1 f1) (hR.tk t1 f1) (m_l Y 16 (6 * j + k)) th false) (x_preV hE hW1.1 rfl rfl hW1) rfl hl.1 rfl (Nat.le_of_ble_eq_true rfl) d_M_does_49 (by decide) ⟨Nat.zero_le _, Nat.zero_le _⟩) (fun H2 L2 p2 f2 => ?_)
    have hF := t_lL hF (fun q h => (fun q h => h) q.base (f2 q h))
    obtain ⟨e2, t2, f2, hW2⟩ := p2
    rw [m_tk_tk] at hW2
    refine x_topi (y := bI (pt_m (d_c X) (d_r X) (d_s X j k).2.2.1 th false)) (by rw [s3]) ?_
    refine x_join 76 (fun ls st => lv_has ls 11 [(0, .ref m), (1, .int (nI (6 * j + k))), (2, .int (nI a)), (3, .int (nI u)), (4, .long ac), (6, .long th), (8, .int (bI (pt_m (d_c X) (d_r X) (d_s X j k).2.1 ac true != (d_s X j k).1.testBit 1)))] ∧ st = [.int (bI (pt_m (d_c X) (d_r X) (d_s X j k).2.2.1 th false != (d_s X j k).1.testBit 2))]) ?_ (fun hj => ?_)
    · intro ls st hj
      obtain ⟨hl, rfl⟩ := hj
      refine lv_istore (lv' := [(9, .int (bI (pt_m (d_c X) (d_r X) (d_s X j k).2.2.1 th false != (d_s X j k).1.testBit 2))), (0, .ref m), (1, .int (nI (6 * j + k))), (2, .int (nI a)), (3, .int (nI u)), (4, .long ac), (6, .long th), (8, .int (bI (pt_m (d_c X) (d_r X) (d_s X j k).2.1 ac true != (d_s X j k).1.testBit 1)))]) hx hb d_M_does_76 hl (by decide) rfl (fun ls hl => ?_)
      refine x_join 121 (fun ls st => lv_has ls 11 [(0, .ref m), (1, .int (nI (6 * j + k))), (2, .int (nI a)), (3, .int (nI u)), (4, .long ac), (6, .long th), (8, .int (bI (pt_m (d_c X) (d_r X) (d_s X j k).2.1 ac true != (d_s X j k).1.testBit 1))), (9, .int (bI (pt_m (d_c X) (d_r X) (d_s X j k).2.2.1 th false != (d_s X j k).1.testBit 2)))] ∧ st = [.int (bI (decide ((d_s X j k).2.2.2.1 = -1 ∨ (d_s X j k).2.2.2.1 = nI a ∨ (d_s X j k).2.2.2.1 = q_who (nI a) (nI u))))]) ?_ (fun hj => ?_)
      · intro ls st hj
        obtain ⟨hl, rfl⟩ := hj
        refine lv_istore (lv' := [(10, .int (bI (decide ((d_s X j k).2.2.2.1 = -1 ∨ (d_s X j k).2.2.2.1 = nI a ∨ (d_s X j k).2.2.2.1 = q_who (nI a) (nI u))))), (0, .ref m), (1, .int (nI (6 * j + k))), (2, .int (nI a)), (3, .int (nI u)), (4, .long ac), (6, .long th), (8, .int (bI (pt_m (d_c X) (d_r X) (d_s X j k).2.1 ac true != (d_s X j k).1.testBit 1))), (9, .int (bI (pt_m (d_c X) (d_r X) (d_s X j k).2.2.1 th false != (d_s X j k).1.testBit 2)))]) hx hb d_M_does_121 hl (by decide) rfl (fun ls hl => ?_)
        refine lv_iload hx hb d_M_does_123 (lv_at hl 7 rfl) ?_
        refine lv_if_eq (tgt := 165) hx hb d_M_does_125 (by decide) (fun y1 => ?_) (fun y1 => ?_)
        · refine lv_iconst (v := 0) hx hb d_M_does_165 (by decide) ?_
          refine x_topi (y := bI (s_s (d_c X) (d_r X) hv (q_who (nI a) (nI u)) ac th (d_s X j k))) (by rw [s_s_is rfl (bI_0.mp y1) rfl rfl]; simp; rfl) ?_
          exact W.zret (ty := .boolean) hx hb hr (bI_z _) (fun t9 ht _ => ⟨rfl, by rw [ht]; exact ⟨((x_F.rf.trans e1).trans e2), t2, f2, hW2⟩⟩) hF d_M_does_166
        · refine lv_iload hx hb d_M_does_128 (lv_at hl 8 rfl) ?_
          refine lv_if_eq (tgt := 165) hx hb d_M_does_130 (by decide) (fun y2 => ?_) (fun y2 => ?_)
          · refine lv_iconst (v := 0) hx hb d_M_does_165 (by decide) ?_
            refine x_topi (y := bI (s_s (d_c X) (d_r X) hv (q_who (nI a) (nI u)) ac th (d_s X j k))) (by rw [s_s_is rfl rfl (bI_0.mp y2) rfl]; simp; rfl) ?_
            exact W.zret (ty := .boolean) hx hb hr (bI_z _) (fun t9 ht _ => ⟨rfl, by rw [ht]; exact ⟨((x_F.rf.trans e1).trans e2), t2, f2, hW2⟩⟩) hF d_M_does_166
          · refine lv_iload hx hb d_M_does_133 (lv_at hl 0 rfl) ?_
            refine lv_if_eq (tgt := 165) hx hb d_M_does_135 (by decide) (fun y3 => ?_) (fun y3 => ?_)
            · refine lv_iconst (v := 0) hx hb d_M_does_165 (by decide) ?_
              refine x_topi (y := bI (s_s (d_c X) (d_r X) hv (q_who (nI a) (nI u)) ac th (d_s X j k))) (by rw [s_s_is ((s_m_who ha hu).trans (bI_0.mp y3)) rfl rfl rfl]; simp; rfl) ?_
              exact W.zret (ty := .boolean) hx hb hr (bI_z _) (fun t9 ht _ => ⟨rfl, by rw [ht]; exact ⟨((x_F.rf.trans e1).trans e2), t2, f2, hW2⟩⟩) hF d_M_does_166
            · have y1 := bI_n0.mp y1
              have y2 := bI_n0.mp y2
              have y3 := (s_m_who ha hu).trans (bI_n0.mp y3)
              have hall := fun d (h : s_c hv (d_s X j k).2.2.2.2 = d) => s_s_is (cnt := d_c X) (row := d_r X) y3 y1 y2 h
              refine lv_aload_n hx hb d_M_does_138 rfl (lv_at hl 1 rfl) ?_
              refine fg_M_64_M hx hb hown hts hE hW2.1 rfl d_M_does_139 ?_
              refine lv_iload_n hx hb d_M_does_142 rfl (lv_at hl 2 rfl) ?_
              refine x_iald hx hb hE.2.2 (show va_at D x_cl (m + 18, .inl (cA 0, 36, .inl (m_i (m_tk Y t2 f2) 18))) _ from hW2.2 18 (by decide) (by decide)) 0 rfl (by omega) (by decide) d_M_does_143 ?_
              refine x_topi (y := s_ci (d_s X j k).2.2.2.2) (by exact s5) ?_
              refine lv_if_lt (tgt := 161) hx hb d_M_does_144 (by decide) (fun y4 => ?_) (fun y4 => ?_)
              · have hno : (d_s X j k).2.2.2.2 = none := by
                  cases hc : (d_s X j k).2.2.2.2 with
                  | none => rfl
                  | some i => rw [hc] at y4; exact absurd y4 (nI_pos (by have := hcm i hc; omega))
                refine lv_iconst (v := 1) hx hb d_M_does_161 (by decide) ?_
                refine lv_goto (tgt := 166) hx hb d_M_does_162 (by decide) ?_
                refine x_topi (y := bI (s_s (d_c X) (d_r X) hv (q_who (nI a) (nI u)) ac th (d_s X j k))) (by rw [hall true (by rw [hno]; rfl)]; rfl) ?_
                exact W.zret (ty := .boolean) hx hb hr (bI_z _) (fun t9 ht _ => ⟨rfl, by rw [ht]; exact ⟨((x_F.rf.trans e1).trans e2), t2, f2, hW2⟩⟩) hF d_M_does_166
              · obtain ⟨i, hi⟩ : ∃ i, (d_s X j k).2.2.2.2 = some i := by
                  cases hc : (d_s X j k).2.2.2.2 with
                  | none => rw [hc] at y4; exact absurd (by decide) y4
                  | some i => exact ⟨i, rfl⟩
                have him := hcm i hi
                refine lv_aload_n hx hb d_M_does_147 rfl (lv_at hl 1 rfl) ?_
                refine fg_M_39_M hx hb hown hts hE hW2.1 rfl d_M_does_148 ?_
                refine lv_aload_n hx hb d_M_does_151 rfl (lv_at hl 1 rfl) ?_
                refine fg_M_64_M hx hb hown hts hE hW2.1 rfl d_M_does_152 ?_
                refine lv_iload_n hx hb d_M_does_155 rfl (lv_at hl 2 rfl) ?_
                refine x_iald hx hb hE.2.2 (show va_at D x_cl (m + 18, .inl (cA 0, 36, .inl (m_i (m_tk Y t2 f2) 18))) _ from hW2.2 18 (by decide) (by decide)) 0 rfl (by omega) (by decide) d_M_does_156 ?_
                refine x_topi (y := nI i) (by exact s5.trans (by rw [hi]; rfl)) ?_
                refine x_zald hx hb hE.2.2 (show va_at D x_cl (m + 10, .inl (cA 3, 520, .inl (m_i (m_tk Y t2 f2) 10))) _ from hW2.2 10 (by decide) (by decide)) 3 rfl (by omega) (by decide) d_M_does_157 ?_
                refine x_topi (y := bI (hv i)) (by exact hh i him) ?_
                refine lv_if_eq (tgt := 165) hx hb d_M_does_158 (by decide) (fun y5 => ?_) (fun y5 => ?_)
                · refine lv_iconst (v := 0) hx hb d_M_does_165 (by decide) ?_
                  refine x_topi (y := bI (s_s (d_c X) (d_r X) hv (q_who (nI a) (nI u)) ac th (d_s X j k))) (by rw [hall false (by rw [hi]; exact bI_0.mp y5)]; rfl) ?_
                  exact W.zret (ty := .boolean) hx hb hr (bI_z _) (fun t9 ht _ => ⟨rfl, by rw [ht]; exact ⟨((x_F.rf.trans e1).trans e2), t2, f2, hW2⟩⟩) hF d_M_does_166
                · refine lv_iconst (v := 1) hx hb d_M_does_161 (by decide) ?_
                  refine lv_goto (tgt := 166) hx hb d_M_does_162 (by decide) ?_
                  refine x_topi (y := bI (s_s (d_c X) (d_r X) hv (q_who (nI a) (nI u)) ac th (d_s X j k))) (by rw [hall true (by rw [hi]; exact bI_n0.mp y5)]; rfl) ?_
                  exact W.zret (ty := .boolean) hx hb hr (bI_z _) (fun t9 ht _ => ⟨rfl, by rw [ht]; exact ⟨((x_F.rf.trans e1).trans e2), t2, f2, hW2⟩⟩) hF d_M_does_166
      · refine lv_aload_n hx hb d_M_does_78 rfl (lv_at hl 1 rfl) ?_
        refine fg_M_61_M hx hb hown hts hE hW2.1 rfl d_M_does_79 ?_
        refine lv_iload_n hx hb d_M_does_82 rfl (lv_at hl 2 rfl) ?_
        refine x_iald hx hb hE.2.2 (show va_at D x_cl (m + 17, .inl (cA 0, 36, .inl (m_i (m_tk Y t2 f2) 17))) _ from hW2.2 17 (by decide) (by decide)) 0 rfl (by omega) (by decide) d_M_does_83 ?_
        refine x_topi (y := (d_s X j k).2.2.2.1) (by exact s4) ?_
        refine lv_iconst (v := (-1)) hx hb d_M_does_84 (by decide) ?_
        refine lv_icmp_eq (tgt := 116) hx hb d_M_does_85 (by decide) (fun z1 => ?_) (fun z1 => ?_)
        · refine lv_iconst (v := 1) hx hb d_M_does_116 (by decide) ?_
          refine lv_goto (tgt := 121) hx hb d_M_does_117 (by decide) ?_
          refine x_topi (y := bI (decide ((d_s X j k).2.2.2.1 = -1 ∨ (d_s X j k).2.2.2.1 = nI a ∨ (d_s X j k).2.2.2.1 = q_who (nI a) (nI u)))) (by rw [bI_of (Or.inl z1)]) ?_
          exact hj _ _ ⟨(lv_sub hl [1, 2, 3, 4, 5, 6, 7, 0] rfl), rfl⟩
        · refine lv_aload_n hx hb d_M_does_88 rfl (lv_at hl 1 rfl) ?_
          refine fg_M_61_M hx hb hown hts hE hW2.1 rfl d_M_does_89 ?_
          refine lv_iload_n hx hb d_M_does_92 rfl (lv_at hl 2 rfl) ?_
          refine x_iald hx hb hE.2.2 (show va_at D x_cl (m + 17, .inl (cA 0, 36, .inl (m_i (m_tk Y t2 f2) 17))) _ from hW2.2 17 (by decide) (by decide)) 0 rfl (by omega) (by decide) d_M_does_93 ?_
          refine x_topi (y := (d_s X j k).2.2.2.1) (by exact s4) ?_
          refine lv_iload_n hx hb d_M_does_94 rfl (lv_at hl 3 rfl) ?_
          refine lv_icmp_eq (tgt := 116) hx hb d_M_does_95 (by decide) (fun z2 => ?_) (fun z2 => ?_)
          · refine lv_iconst (v := 1) hx hb d_M_does_116 (by decide) ?_
            refine lv_goto (tgt := 121) hx hb d_M_does_117 (by decide) ?_
            refine x_topi (y := bI (decide ((d_s X j k).2.2.2.1 = -1 ∨ (d_s X j k).2.2.2.1 = nI a ∨ (d_s X j k).2.2.2.1 = q_who (nI a) (nI u)))) (by rw [bI_of (Or.inr (Or.inl z2))]) ?_
            exact hj _ _ ⟨(lv_sub hl [1, 2, 3, 4, 5, 6, 7, 0] rfl), rfl⟩
          · refine lv_aload_n hx hb d_M_does_98 rfl (lv_at hl 1 rfl) ?_
            refine fg_M_61_M hx hb hown hts hE hW2.1 rfl d_M_does_99 ?_
            refine lv_iload_n hx hb d_M_does_102 rfl (lv_at hl 2 rfl) ?_
            refine x_iald hx hb hE.2.2 (show va_at D x_cl (m + 17, .inl (cA 0, 36, .inl (m_i (m_tk Y t2 f2) 17))) _ from hW2.2 17 (by decide) (by decide)) 0 rfl (by omega) (by decide) d_M_does_103 ?_
            refine x_topi (y := (d_s X j k).2.2.2.1) (by exact s4) ?_
            refine lv_bipush (v := 100) hx hb d_M_does_104 (by decide) ?_
            refine lv_bipush (v := 10) hx hb d_M_does_106 (by decide) ?_
            refine lv_iload_n hx hb d_M_does_108 rfl (lv_at hl 3 rfl) ?_
            refine lv_imul hx hb d_M_does_109 ?_
            refine lv_iadd hx hb d_M_does_110 ?_
            refine lv_iload_n hx hb d_M_does_111 rfl (lv_at hl 4 rfl) ?_
            refine lv_iadd hx hb d_M_does_112 ?_
            refine x_topi (y := q_who (nI a) (nI u)) rfl ?_
            refine lv_icmp_ne (tgt := 120) hx hb d_M_does_113 (by decide) (fun z3 => ?_) (fun z3 => ?_)
            · refine lv_iconst (v := 0) hx hb d_M_does_120 (by decide) ?_
              refine x_topi (y := bI (decide ((d_s X j k).2.2.2.1 = -1 ∨ (d_s X j k).2.2.2.1 = nI a ∨ (d_s X j k).2.2.2.1 = q_who (nI a) (nI u)))) (by rw [bI_no (fun z => by rcases z with z | z | z; exact z1 z; exact z2 z; exact z3 z)]) ?_
              exact hj _ _ ⟨(lv_sub hl [1, 2, 3, 4, 5, 6, 7, 0] rfl), rfl⟩
            · refine lv_iconst (v := 1) hx hb d_M_does_116 (by decide) ?_
              refine lv_goto (tgt := 121) hx hb d_M_does_117 (by decide) ?_
              refine x_topi (y := bI (decide ((d_s X j k).2.2.2.1 = -1 ∨ (d_s X j k).2.2.2.1 = nI a ∨ (d_s X j k).2.2.2.1 = q_who (nI a) (nI u)))) (by rw [bI_of (Or.inr (Or.inr z3))]) ?_
              exact hj _ _ ⟨(lv_sub hl [1, 2, 3, 4, 5, 6, 7, 0] rfl), rfl⟩
    · refine lv_aload_n hx hb d_M_does_52 rfl (lv_at hl 1 rfl) ?_
      refine fg_M_52_M hx hb hown hts hE hW2.1 rfl d_M_does_53 ?_
      refine lv_iload_n hx hb d_M_does_56 rfl (lv_at hl 2 rfl) ?_
      refine x_iald hx hb hE.2.2 (show va_at D x_cl (m + 14, .inl (cA 0, 36, .inl (m_i (m_tk Y t2 f2) 14))) _ from hW2.2 14 (by decide) (by decide)) 0 rfl (by omega) (by decide) d_M_does_57 ?_
      refine x_topi (y := nI (d_s X j k).1) (by exact s1) ?_
      refine lv_iconst (v := 4) hx hb d_M_does_58 (by decide) ?_
      refine lv_iand hx hb d_M_does_59 ?_
      refine lv_if_eq (tgt := 67) hx hb d_M_does_60 (by decide) (fun z1 => ?_) (fun z1 => ?_)
      · have z1 : (d_s X j k).1.testBit 2 = false := (mb_2 _ h16).mp z1
        refine lv_iconst (v := 0) hx hb d_M_does_67 (by decide) ?_
        refine x_topi (y := bI false) rfl ?_
        refine lv_icmp_eq (tgt := 75) hx hb d_M_does_68 (by decide) (fun z2 => ?_) (fun z2 => ?_)
        · refine lv_iconst (v := 0) hx hb d_M_does_75 (by decide) ?_
          refine x_topi (y := bI (pt_m (d_c X) (d_r X) (d_s X j k).2.2.1 th false != (d_s X j k).1.testBit 2)) (by rw [z1, bI_inj z2]; simp; rfl) ?_
          exact hj _ _ ⟨(lv_sub hl [1, 2, 3, 4, 5, 6, 0] rfl), rfl⟩
        · refine lv_iconst (v := 1) hx hb d_M_does_71 (by decide) ?_
          refine lv_goto (tgt := 76) hx hb d_M_does_72 (by decide) ?_
          refine x_topi (y := bI (pt_m (d_c X) (d_r X) (d_s X j k).2.2.1 th false != (d_s X j k).1.testBit 2)) (by rw [z1, bne_of_bI z2]; rfl) ?_
          exact hj _ _ ⟨(lv_sub hl [1, 2, 3, 4, 5, 6, 0] rfl), rfl⟩
      · have z1 : (d_s X j k).1.testBit 2 = true := bt_of (fun z => z1 ((mb_2 _ h16).mpr z))
        refine lv_iconst (v := 1) hx hb d_M_does_63 (by decide) ?_
        refine lv_goto (tgt := 68) hx hb d_M_does_64 (by decide) ?_
        refine x_topi (y := bI true) rfl ?_
        refine lv_icmp_eq (tgt := 75) hx hb d_M_does_68 (by decide) (fun z2 => ?_) (fun z2 => ?_)
        · refine lv_iconst (v := 0) hx hb d_M_does_75 (by decide) ?_
          refine x_topi (y := bI (pt_m (d_c X) (d_r X) (d_s X j k).2.2.1 th false != (d_s X j k).1.testBit 2)) (by rw [z1, bI_inj z2]; simp; rfl) ?_
          exact hj _ _ ⟨(lv_sub hl [1, 2, 3, 4, 5, 6, 0] rfl), rfl⟩
        · refine lv_iconst (v := 1) hx hb d_M_does_71 (by decide) ?_
          refine lv_goto (tgt := 76) hx hb d_M_does_72 (by decide) ?_
          refine x_topi (y := bI (pt_m (d_c X) (d_r X) (d_s X j k).2.2.1 th false != (d_s X j k).1.testBit 2)) (by rw [z1, bne_of_bI z2]; rfl) ?_
          exact hj _ _ ⟨(lv_sub hl [1, 2, 3, 4, 5, 6, 0] rfl), rfl⟩
  · refine lv_aload_n hx hb d_M_does_13 rfl (lv_at hl 0 rfl) ?_
    refine fg_M_52_M hx hb hown hts hE hW1.1 rfl d_M_does_14 ?_
    refine lv_iload_n hx hb d_M_does_17 rfl (lv_at hl 1 rfl) ?_
    refine x_iald hx hb hE.2.2 (show va_at D x_cl (m + 14, .inl (cA 0, 36, .inl (m_i (m_tk Y t1 f1) 14))) _ from hW1.2 14 (by decide) (by decide)) 0 rfl (by omega) (by decide) d_M_does_18 ?_
    refine x_topi (y := nI (d_s X j k).1) (by exact s1) ?_
    refine lv_iconst (v := 2) hx hb d_M_does_19 (by decide) ?_
    refine lv_iand hx hb d_M_does_20 ?_
    refine lv_if_eq (tgt := 28) hx hb d_M_does_21 (by decide) (fun z1 => ?_) (fun z1 => ?_)
    · have z1 : (d_s X j k).1.testBit 1 = false := (mb_1 _ h16).mp z1
      refine lv_iconst (v := 0) hx hb d_M_does_28 (by decide) ?_
      refine x_topi (y := bI false) rfl ?_
      refine lv_icmp_eq (tgt := 36) hx hb d_M_does_29 (by decide) (fun z2 => ?_) (fun z2 => ?_)
      · refine lv_iconst (v := 0) hx hb d_M_does_36 (by decide) ?_
        refine x_topi (y := bI (pt_m (d_c X) (d_r X) (d_s X j k).2.1 ac true != (d_s X j k).1.testBit 1)) (by rw [z1, bI_inj z2]; simp; rfl) ?_
        exact hj _ _ ⟨(lv_sub hl [0, 1, 2, 3, 4, 5] rfl), rfl⟩
      · refine lv_iconst (v := 1) hx hb d_M_does_32 (by decide) ?_
        refine lv_goto (tgt := 37) hx hb d_M_does_33 (by decide) ?_
        refine x_topi (y := bI (pt_m (d_c X) (d_r X) (d_s X j k).2.1 ac true != (d_s X j k).1.testBit 1)) (by rw [z1, bne_of_bI z2]; rfl) ?_
        exact hj _ _ ⟨(lv_sub hl [0, 1, 2, 3, 4, 5] rfl), rfl⟩
    · have z1 : (d_s X j k).1.testBit 1 = true := bt_of (fun z => z1 ((mb_1 _ h16).mpr z))
      refine lv_iconst (v := 1) hx hb d_M_does_24 (by decide) ?_
      refine lv_goto (tgt := 29) hx hb d_M_does_25 (by decide) ?_
      refine x_topi (y := bI true) rfl ?_
      refine lv_icmp_eq (tgt := 36) hx hb d_M_does_29 (by decide) (fun z2 => ?_) (fun z2 => ?_)
      · refine lv_iconst (v := 0) hx hb d_M_does_36 (by decide) ?_
        refine x_topi (y := bI (pt_m (d_c X) (d_r X) (d_s X j k).2.1 ac true != (d_s X j k).1.testBit 1)) (by rw [z1, bI_inj z2]; simp; rfl) ?_
        exact hj _ _ ⟨(lv_sub hl [0, 1, 2, 3, 4, 5] rfl), rfl⟩
      · refine lv_iconst (v := 1) hx hb d_M_does_32 (by decide) ?_
        refine lv_goto (tgt := 37) hx hb d_M_does_33 (by decide) ?_
        refine x_topi (y := bI (pt_m (d_c X) (d_r X) (d_s X j k).2.1 ac true != (d_s X j k).1.testBit 1)) (by rw [z1, bne_of_bI z2]; rfl) ?_
        exact hj _ _ ⟨(lv_sub hl [0, 1, 2, 3, 4, 5] rfl), rfl⟩
