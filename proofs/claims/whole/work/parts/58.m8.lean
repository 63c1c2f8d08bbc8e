/-! a condition more, in the model -/
theorem b_nar : ∀ k : Nat, k < 8 → (nI k).toInt8.toInt32 = nI k := by decide +kernel
theorem m1_ne {p : Nat} (hp : p < 2 ^ 31) : ¬ (-1 : Int32) = nI p := fun z => absurd (z ▸ (by decide) : nI p < 0) (nI_pos hp)
theorem m_R.push {made : Nat} {N : n_T} {X : d_T} {Y Y2 : m_T} (hR : m_R made N X Y) (hok : n_ok made N) (hdo : d_ok made X) (hmd : made < 2 ^ 30) {n kd op ky mk dp ad : Nat} {tt : Int64} {ch : List Nat} (hn : n ≤ d_n X) (hch : ∀ c ∈ ch, ∃ j, j < n ∧ c = d_p X (d_n X - n + j)) (hk3 : kd = 3 → ch = []) (hk2 : kd = 2 → ∃ x, ch = [x])
    (a0 : m_md Y2 = made + 1) (a1 : m_pl Y2 = d_n X - n + 1) (a2 : m_de Y2 = m_de Y) (b1 : m_i Y2 1 = m_i Y 1) (b2 : m_l Y2 2 = m_l Y 2) (b12 : m_i Y2 12 = m_i Y 12) (b13 : m_i Y2 13 = m_i Y 13) (b14 : m_i Y2 14 = m_i Y 14) (b15 : m_l Y2 15 = m_l Y 15) (b16 : m_l Y2 16 = m_l Y 16) (b17 : m_i Y2 17 = m_i Y 17) (b18 : m_i Y2 18 = m_i Y 18) (b19 : m_i Y2 19 = m_i Y 19)
    (c3 : m_i Y2 3 made = nI kd) (c3o : ∀ i, i < made → m_i Y2 3 i = m_i Y 3 i) (c4 : kd = 3 → m_i Y2 4 made = nI op ∧ m_i Y2 5 made = nI ky ∧ m_i Y2 6 made = nI mk ∧ m_l Y2 8 made = tt) (c4o : ∀ i, i < made → m_i Y2 4 i = m_i Y 4 i ∧ m_i Y2 5 i = m_i Y 5 i ∧ m_i Y2 6 i = m_i Y 6 i ∧ m_l Y2 8 i = m_l Y 8 i)
    (c7 : m_i Y2 7 made = nI dp) (c7o : ∀ i, i < made → m_i Y2 7 i = m_i Y 7 i) (c9 : m_i Y2 9 made = -1) (c9o : ∀ c, c < made → m_i Y2 9 c = if c ∈ ch then nI made else m_i Y 9 c) (c11 : m_i Y2 11 (d_n X - n) = nI made) (c11o : ∀ k, k < d_n X - n → m_i Y2 11 k = m_i Y 11 k) :
    m_R (made + 1) (n_ext N made kd op ky tt mk dp ch ad) (d_push (d_setN X (d_n X - n)) made) Y2 := by
  obtain ⟨r1, r2, r3, r4, r5, rN, rp, ri, rl, rs⟩ := hR
  have hcm : ∀ c ∈ ch, c < made ∧ m_i Y 9 c = -1 := fun c hc => by
    obtain ⟨j, hj, e⟩ := hch c hc
    rw [e]; exact ⟨hdo.2.1 _ (by omega), (rp _ (by omega)).2⟩
  refine ⟨a0, a1, a2.trans r3, b1.trans r4, b2.trans r5, fun i hi => ?_, fun k hk => ?_, fun k j hk hj e => ?_, by rw [b12, b13, b19]; exact rl, by rw [b14, b15, b16, b17, b18]; exact rs⟩
  · by_cases e : i = made
    · subst e
      obtain ⟨e1, e2, e3, e4, e5, e6, e7, e8⟩ := @n_ext_n N i kd op ky tt mk dp ch ad
      rw [e1, e2, e3, e4, e5, e6, e7]
      refine ⟨c3, c4, c7, Or.inl c9, fun hk c hc => ?_, hk2⟩
      by_cases e : c = i
      · subst e; rw [c9]; exact ⟨fun h => absurd (hcm c h).1 (Nat.lt_irrefl c), fun h => absurd h (m1_ne (by omega))⟩
      · rw [c9o c (by omega)]
        by_cases hm : c ∈ ch
        · rw [if_pos hm]; exact ⟨fun _ => rfl, fun _ => hm⟩
        · rw [if_neg hm]
          refine ⟨fun h => absurd h hm, fun h => ?_⟩
          rcases (rN c (by omega)).2.2.2.1 with z | ⟨p, z1, z2, z3, z4⟩
          · exact absurd (z.symm.trans h) (m1_ne (by omega))
          · have := (nI_eq (by omega) (by omega)).mp (z4.symm.trans h); omega
    · have him : i < made := by omega
      obtain ⟨e1, e2, e3, e4, e5, e6, e7, e8⟩ := @n_ext_o N made kd op ky tt mk dp ch ad i e
      obtain ⟨p1, p2, p3, p4, p5, p6⟩ := rN i him
      obtain ⟨d4, d5, d6, d8⟩ := c4o i him
      rw [e1, e2, e3, e4, e5, e6, e7]
      refine ⟨(c3o i him).trans p1, fun h => ⟨d4.trans (p2 h).1, d5.trans (p2 h).2.1, d6.trans (p2 h).2.2.1, d8.trans (p2 h).2.2.2⟩, (c7o i him).trans p3, ?_, fun hk c hc => ?_, p6⟩
      · rw [c9o i him]
        by_cases hm : i ∈ ch
        · rw [if_pos hm]
          refine Or.inr ⟨made, him, Nat.lt_succ_self _, ?_, rfl⟩
          rw [(@n_ext_n N made kd op ky tt mk dp ch ad).1]
          exact fun z => by rw [hk3 z] at hm; exact absurd hm List.not_mem_nil
        · rw [if_neg hm]
          rcases p4 with z | ⟨p, z1, z2, z3, z4⟩
          · exact Or.inl z
          · refine Or.inr ⟨p, z1, Nat.lt_succ_of_lt z2, ?_, z4⟩
            rw [(@n_ext_o N made kd op ky tt mk dp ch ad p (by omega)).1]; exact z3
      · by_cases e9 : c = made
        · subst e9; rw [c9]
          exact ⟨fun h => absurd (((hok i him).2.2.2.2 hk).2 c h).1 (by omega), fun h => absurd h (m1_ne (by omega))⟩
        · rw [c9o c (by omega)]
          by_cases hm : c ∈ ch
          · rw [if_pos hm]
            refine ⟨fun h => ?_, fun h => ?_⟩
            · exact absurd ((hcm c hm).2.symm.trans ((p5 hk c (by omega)).mp h)) (m1_ne (by omega))
            · have := (nI_eq (by omega) (by omega)).mp h; omega
          · rw [if_neg hm]; exact p5 hk c (by omega)
  · show m_i Y2 11 k = nI (va_up (d_p X) (d_n X - n) made k) ∧ m_i Y2 9 (va_up (d_p X) (d_n X - n) made k) = -1
    have hk : k < d_n X - n + 1 := hk
    by_cases e : k = d_n X - n
    · rw [e, va_up_self]; exact ⟨c11, c9⟩
    · rw [va_up_ne _ _ e, c11o k (by omega), c9o _ (hdo.2.1 k (by omega)), if_neg (fun h => ?_)]
      · exact rp k (by omega)
      · obtain ⟨j, hj, e2⟩ := hch _ h
        have := ri k _ (by omega) (by omega) e2; omega
  · have hk : k < d_n X - n + 1 := hk
    have hj : j < d_n X - n + 1 := hj
    have e : va_up (d_p X) (d_n X - n) made k = va_up (d_p X) (d_n X - n) made j := e
    by_cases ek : k = d_n X - n
    · by_cases ej : j = d_n X - n
      · omega
      · rw [ek, va_up_self, va_up_ne _ _ ej] at e
        have := hdo.2.1 j (by omega); omega
    · by_cases ej : j = d_n X - n
      · rw [ej, va_up_self, va_up_ne _ _ ek] at e
        have := hdo.2.1 k (by omega); omega
      · rw [va_up_ne _ _ ek, va_up_ne _ _ ej] at e
        exact ri k j (by omega) (by omega) e
set_option maxHeartbeats 4000000 in
set_option maxRecDepth 100000 in
theorem c_M_put (l : Launch) (D : va_G) (cA : Nat → ClassId) (m : Nat) (Y : m_T) (h1 : m_md Y < 520) (h2 : m_pl Y < 8) : Met l y_M_put [.code y_M_put b_M_put 1 (some .int)] (x_rm 0 0 0) (x_P D cA [.ref m] (fun H => m_W D cA m Y H)) (x_Q (some (.int (nI (m_pl Y + 1)))) (fun H H1 => x_F (m_A m) H H1 ∧ m_W D cA m (m_md Y + 1, m_pl Y + 1, m_de Y, m_tn Y, va_up (va_up (m_i Y) 9 (upd (m_i Y 9) (m_md Y) (-1))) 11 (upd (m_i Y 11) (m_pl Y) (nI (m_md Y))), m_l Y) H1)) 0 0 (m_A m) := by
  refine x_met (own := "DecisionLayersModel") (by decide) rfl (Nat.le_of_ble_eq_true rfl) ?_
  intro pp ee s mm below mt cd ls hx hb hr hlk hnm hml hown hts hE hP hl
  have hl : lv_has ls 1 [(0, .ref m)] := hl
  have hF : ∀ q ∈ ([] : List Loc), m_A m q.base := t_nil
  have hW := hP
  refine lv_aload_n hx hb d_M_put_0 rfl (lv_at hl 0 rfl) ?_
  refine fg_M_36_M hx hb hown hts hE hW.1 rfl d_M_put_1 ?_
  refine lv_aload_n hx hb d_M_put_4 rfl (lv_at hl 0 rfl) ?_
  refine fg_M_100_M hx hb hown hts hE hW.1 rfl d_M_put_5 ?_
  refine lv_iconst (v := (-1)) hx hb d_M_put_8 (by decide) ?_
  refine x_iast hx hb hE.2.2 (show va_at D x_cl (m + 9, .inl (cA 0, 520, .inl (m_i Y 9))) _ from hW.2 9 (by decide) (by decide)) 0 rfl h1 (by decide) d_M_put_9 (fun H1 k1 g1 o1 => ?_)
  have hF := t_lc (a := m + 9) (i := k1) hF (m_A_in (by omega) (by omega))
  have hW1 := hW.ai (i := 9) (by decide) o1 (f := upd (m_i Y 9) (m_md Y) (-1)) g1
  refine lv_aload_n hx hb d_M_put_10 rfl (lv_at hl 0 rfl) ?_
  refine fg_M_43_M hx hb hown hts hE hW1.1 rfl d_M_put_11 ?_
  refine lv_aload_n hx hb d_M_put_14 rfl (lv_at hl 0 rfl) ?_
  refine fg_M_103_M hx hb hown hts hE hW1.1 rfl d_M_put_15 ?_
  refine lv_aload_n hx hb d_M_put_18 rfl (lv_at hl 0 rfl) ?_
  refine fg_M_100_M hx hb hown hts hE hW1.1 rfl d_M_put_19 ?_
  refine x_iast hx hb hE.2.2 (show va_at D x_cl (m + 11, .inl (cA 0, 8, .inl (m_i (m_sI Y 9 (upd (m_i Y 9) (m_md Y) (-1))) 11))) _ from hW1.2 11 (by decide) (by decide)) 0 rfl h2 (by decide) d_M_put_22 (fun H2 k2 g2 o2 => ?_)
  have hF := t_lc (a := m + 11) (i := k2) hF (m_A_in (by omega) (by omega))
  have hW2 := hW1.ai (i := 11) (by decide) o2 (f := upd (m_i Y 11) (m_pl Y) (nI (m_md Y))) g2
  refine lv_aload_n hx hb d_M_put_23 rfl (lv_at hl 0 rfl) ?_
  refine lv_dup hx hb d_M_put_24 rfl ?_
  refine fg_M_103_M hx hb hown hts hE hW2.1 rfl d_M_put_25 ?_
  refine lv_iconst (v := 1) hx hb d_M_put_28 (by decide) ?_
  refine lv_iadd hx hb d_M_put_29 ?_
  refine x_topi (y := nI (m_pl Y + 1)) (nI_succ _).symm ?_
  refine fp_M_103_M hx hb hown hts hE hW2.1 rfl rfl (Nat.le_of_ble_eq_true rfl) d_M_put_30 (fun H3 k3 g3 o3 => ?_)
  have hF := t_lc (a := m) (i := k3) hF (m_A_in (by omega) (by omega))
  have hW3 := hW2.obj (made := m_md Y) (pil := m_pl Y + 1) (dec := m_de Y) (tok := m_tn Y) o3 g3
  refine lv_aload_n hx hb d_M_put_33 rfl (lv_at hl 0 rfl) ?_
  refine lv_dup hx hb d_M_put_34 rfl ?_
  refine fg_M_100_M hx hb hown hts hE hW3.1 rfl d_M_put_35 ?_
  refine lv_iconst (v := 1) hx hb d_M_put_38 (by decide) ?_
  refine lv_iadd hx hb d_M_put_39 ?_
  refine x_topi (y := nI (m_md Y + 1)) (nI_succ _).symm ?_
  refine fp_M_100_M hx hb hown hts hE hW3.1 rfl rfl (Nat.le_of_ble_eq_true rfl) d_M_put_40 (fun H4 k4 g4 o4 => ?_)
  have hF := t_lc (a := m) (i := k4) hF (m_A_in (by omega) (by omega))
  have hW4 := hW3.obj (made := m_md Y + 1) (pil := m_pl Y + 1) (dec := m_de Y) (tok := m_tn Y) o4 g4
  refine lv_aload_n hx hb d_M_put_43 rfl (lv_at hl 0 rfl) ?_
  refine fg_M_103_M hx hb hown hts hE hW4.1 rfl d_M_put_44 ?_
  exact W.iret hx hb hr (fun t9 ht _ => ⟨rfl, by rw [ht]; exact ⟨(((x_F.of1 o1 (m_A_in (by omega) (by omega))).trans (x_F.of1 o2 (m_A_in (by omega) (by omega)))).trans (x_F.of1 o3 (m_A_in (by omega) (by omega)))).trans (x_F.of1 o4 (m_A_in (by omega) (by omega))), hW4⟩⟩) hF d_M_put_47
set_option maxHeartbeats 4000000 in
set_option maxRecDepth 100000 in
theorem c_M_test (l : Launch) (D : va_G) (cA : Nat → ClassId) (m made : Nat) (N : n_T) (X : d_T) (hmd : made < 512) (hok : n_ok made N) (hdo : d_ok made X) (a : Nat) (op ky : Int32) (t : Int64) (mk : Int32) : Met l y_M_test [.code y_M_test b_M_test 6 (some .int)] (x_rm 1 0 0) (x_P D cA [.ref m, .int op, .int ky, .long t, .int mk] (fun H => mm_W D cA m made N X H)) (x_Q (some (.int (q_test X op ky mk))) (fun H H1 => x_F (m_A m) H H1 ∧ mm_W D cA m (z_testM made X op ky mk) (z_testN made N X op ky t mk a) (z_testX made X op ky mk) H1)) 0 0 (m_A m) := by
  refine x_met (own := "DecisionLayersModel") (by decide) rfl (Nat.le_of_ble_eq_true rfl) ?_
  intro pp ee s mm below mt cd ls hx hb hr hlk hnm hml hown hts hE hP hl
  have hl : lv_has ls 6 [(0, .ref m), (1, .int op), (2, .int ky), (3, .long t), (5, .int mk)] := hl
  obtain ⟨Y, hW, hR⟩ := id hP
  obtain ⟨r1, r2, r3, r4, r5, rN, rp, ri, rl, rs⟩ := id hR
  have hF : ∀ q ∈ ([] : List Loc), m_A m q.base := t_nil
  have hn8 := hdo.1
  refine lv_iload_n hx hb d_M_test_0 rfl (lv_at hl 1 rfl) ?_
  refine lv_bipush (v := 7) hx hb d_M_test_1 (by decide) ?_
  refine x_cp (k_M_106 (As := [.int op, .int 7]) (rest := []) hx hb hml hown hts (c_M_within l D cA op 7) (x_preS hE trivial) rfl hl.1 rfl (Nat.le_of_ble_eq_true rfl) d_M_test_3 (by decide) ⟨Nat.zero_le _, Nat.zero_le _⟩) ?_
  refine x_topi (y := bI (q_key op)) (by rw [w_7]) ?_
  refine lv_if_eq (tgt := 28) hx hb d_M_test_6 (by decide) (fun h1 => ?_) (fun h1 => ?_)
  · have h1 : decide (0 ≤ op ∧ op < 8) = false := bI_0.mp h1
    have hk : q_tok op ky mk = false := by unfold q_tok; rw [h1]; rfl
    have hm : q_tmk X op ky mk = false := by unfold q_tmk; rw [hk]; rfl
    refine lv_bipush (v := (-2)) hx hb d_M_test_28 (by decide) ?_
    refine x_topi (y := q_test X op ky mk) (by unfold q_test; rw [hk]; rfl) ?_
    exact W.iret hx hb hr (fun t9 ht _ => ⟨rfl, by rw [ht]; unfold z_testN z_testX z_testM; rw [hm]; exact ⟨x_F.rf, hP⟩⟩) hF d_M_test_30
  · refine lv_iload_n hx hb d_M_test_9 rfl (lv_at hl 2 rfl) ?_
    refine lv_bipush (v := 7) hx hb d_M_test_10 (by decide) ?_
    refine x_cp (k_M_106 (As := [.int ky, .int 7]) (rest := []) hx hb hml hown hts (c_M_within l D cA ky 7) (x_preS hE trivial) rfl hl.1 rfl (Nat.le_of_ble_eq_true rfl) d_M_test_12 (by decide) ⟨Nat.zero_le _, Nat.zero_le _⟩) ?_
    refine x_topi (y := bI (q_key ky)) (by rw [w_7]) ?_
    refine lv_if_eq (tgt := 28) hx hb d_M_test_15 (by decide) (fun h2 => ?_) (fun h2 => ?_)
    · have h2 := bI_0.mp h2
      have hk : q_tok op ky mk = false := by unfold q_tok; rw [h2]; simp
      have hm : q_tmk X op ky mk = false := by unfold q_tmk; rw [hk]; rfl
      refine lv_bipush (v := (-2)) hx hb d_M_test_28 (by decide) ?_
      refine x_topi (y := q_test X op ky mk) (by unfold q_test; rw [hk]; rfl) ?_
      exact W.iret hx hb hr (fun t9 ht _ => ⟨rfl, by rw [ht]; unfold z_testN z_testX z_testM; rw [hm]; exact ⟨x_F.rf, hP⟩⟩) hF d_M_test_30
    · refine lv_iload hx hb d_M_test_18 (lv_at hl 4 rfl) ?_
      refine lv_bipush (v := 7) hx hb d_M_test_20 (by decide) ?_
      refine x_cp (k_M_106 (As := [.int mk, .int 7]) (rest := []) hx hb hml hown hts (c_M_within l D cA mk 7) (x_preS hE trivial) rfl hl.1 rfl (Nat.le_of_ble_eq_true rfl) d_M_test_22 (by decide) ⟨Nat.zero_le _, Nat.zero_le _⟩) ?_
      refine lv_if_ne (tgt := 31) hx hb d_M_test_25 (by decide) (fun h3 => ?_) (fun h3 => ?_)
      · have h1 := bI_n0.mp h1
        have h2 := bI_n0.mp h2
        have h3 := bI_n0.mp h3
        have hk : q_tok op ky mk = true := by unfold q_tok; rw [show decide (0 ≤ op ∧ op < 8) = true from h1, h2, h3]; rfl
        refine lv_aload_n hx hb d_M_test_31 rfl (lv_at hl 0 rfl) ?_
        refine fg_M_103_M hx hb hown hts hE hW.1 rfl d_M_test_32 ?_
        refine x_topi (y := nI (d_n X)) (by rw [← r2]) ?_
        refine lv_bipush (v := 8) hx hb d_M_test_35 (by decide) ?_
        refine lv_icmp_ne (tgt := 43) hx hb d_M_test_37 (by decide) (fun h4 => ?_) (fun h4 => ?_)
        · have h4 : d_n X < 8 := by
            rcases Nat.lt_or_eq_of_le hn8 with z | z
            · exact z
            · exact absurd (by rw [z]; rfl) h4
          have hm : q_tmk X op ky mk = true := by unfold q_tmk; rw [hk, decide_eq_true h4]; rfl
          have hR9 : q_test X op ky mk = nI (d_n X + 1) := by unfold q_test; rw [hk, if_pos rfl, if_neg (by omega)]
          obtain ⟨i1, hi1, rfl⟩ := q_key_in h1
          obtain ⟨i2, hi2, rfl⟩ := q_key_in h2
          obtain ⟨i3, hi3, rfl⟩ := q_key_in ((w_7 mk).symm.trans h3)
          have d1 : (nI i1).toNatClampNeg = i1 := nI_clamp (by omega)
          have d2 : (nI i2).toNatClampNeg = i2 := nI_clamp (by omega)
          have d3 : (nI i3).toNatClampNeg = i3 := nI_clamp (by omega)
          refine lv_aload_n hx hb d_M_test_43 rfl (lv_at hl 0 rfl) ?_
          refine fg_M_17_M hx hb hown hts hE hW.1 rfl d_M_test_44 ?_
          refine lv_aload_n hx hb d_M_test_47 rfl (lv_at hl 0 rfl) ?_
          refine fg_M_100_M hx hb hown hts hE hW.1 rfl d_M_test_48 ?_
          refine x_topi (y := nI made) (congrArg nI r1) ?_
          refine lv_iconst (v := 3) hx hb d_M_test_51 (by decide) ?_
          refine x_topi (y := nI 3) rfl ?_
          refine x_bast hx hb hE.2.2 (show va_at D x_cl (m + 3, .inl (cA 2, 520, .inl (m_i Y 3))) _ from hW.2 3 (by decide) (by decide)) 2 rfl (by omega) (by decide) (by decide) d_M_test_52 (fun H1 k1 g1 o1 => ?_)
          have hF := t_lc (a := m + 3) (i := k1) hF (m_A_in (by omega) (by omega))
          have hW1 := hW.ai (i := 3) (by decide) o1 (f := upd (m_i Y 3) made (nI 3)) g1
          refine lv_aload_n hx hb d_M_test_53 rfl (lv_at hl 0 rfl) ?_
          refine fg_M_21_M hx hb hown hts hE hW1.1 rfl d_M_test_54 ?_
          refine lv_aload_n hx hb d_M_test_57 rfl (lv_at hl 0 rfl) ?_
          refine fg_M_100_M hx hb hown hts hE hW1.1 rfl d_M_test_58 ?_
          refine x_topi (y := nI made) (congrArg nI r1) ?_
          refine lv_iload_n hx hb d_M_test_61 rfl (lv_at hl 1 rfl) ?_
          refine lv_i2b hx hb d_M_test_62 rfl ?_
          refine x_topi (y := nI i1) (b_nar i1 hi1) ?_
          refine x_bast hx hb hE.2.2 (show va_at D x_cl (m + 4, .inl (cA 2, 520, .inl (m_i (m_sI Y 3 (upd (m_i Y 3) made (nI 3))) 4))) _ from hW1.2 4 (by decide) (by decide)) 2 rfl (by omega) (by decide) (b_nar i1 hi1) d_M_test_63 (fun H2 k2 g2 o2 => ?_)
          have hF := t_lc (a := m + 4) (i := k2) hF (m_A_in (by omega) (by omega))
          have hW2 := hW1.ai (i := 4) (by decide) o2 (f := upd (m_i Y 4) made (nI i1)) g2
          refine lv_aload_n hx hb d_M_test_64 rfl (lv_at hl 0 rfl) ?_
          refine fg_M_24_M hx hb hown hts hE hW2.1 rfl d_M_test_65 ?_
          refine lv_aload_n hx hb d_M_test_68 rfl (lv_at hl 0 rfl) ?_
          refine fg_M_100_M hx hb hown hts hE hW2.1 rfl d_M_test_69 ?_
          refine x_topi (y := nI made) (congrArg nI r1) ?_
          refine lv_iload_n hx hb d_M_test_72 rfl (lv_at hl 2 rfl) ?_
          refine lv_i2b hx hb d_M_test_73 rfl ?_
          refine x_topi (y := nI i2) (b_nar i2 hi2) ?_
          refine x_bast hx hb hE.2.2 (show va_at D x_cl (m + 5, .inl (cA 2, 520, .inl (m_i (m_sI (m_sI Y 3 (upd (m_i Y 3) made (nI 3))) 4 (upd (m_i Y 4) made (nI i1))) 5))) _ from hW2.2 5 (by decide) (by decide)) 2 rfl (by omega) (by decide) (b_nar i2 hi2) d_M_test_74 (fun H3 k3 g3 o3 => ?_)
          have hF := t_lc (a := m + 5) (i := k3) hF (m_A_in (by omega) (by omega))
          have hW3 := hW2.ai (i := 5) (by decide) o3 (f := upd (m_i Y 5) made (nI i2)) g3
          refine lv_aload_n hx hb d_M_test_75 rfl (lv_at hl 0 rfl) ?_
          refine fg_M_33_M hx hb hown hts hE hW3.1 rfl d_M_test_76 ?_
          refine lv_aload_n hx hb d_M_test_79 rfl (lv_at hl 0 rfl) ?_
          refine fg_M_100_M hx hb hown hts hE hW3.1 rfl d_M_test_80 ?_
          refine x_topi (y := nI made) (congrArg nI r1) ?_
          refine lv_lload_n hx hb d_M_test_83 rfl (lv_at hl 3 rfl) ?_
          refine x_last hx hb hE.2.2 (show va_at D x_cl (m + 8, .inl (cA 1, 520, .inr (.inl (m_l (m_sI (m_sI (m_sI Y 3 (upd (m_i Y 3) made (nI 3))) 4 (upd (m_i Y 4) made (nI i1))) 5 (upd (m_i Y 5) made (nI i2))) 8)))) _ from hW3.2 8 (by decide) (by decide)) 1 rfl (by omega) (by decide) d_M_test_84 (fun H4 k4 g4 o4 => ?_)
          have hF := t_lc (a := m + 8) (i := k4) hF (m_A_in (by omega) (by omega))
          have hW4 := hW3.al (i := 8) (by decide) o4 (g := vp_updL (m_l Y 8) made t) g4
          refine lv_aload_n hx hb d_M_test_85 rfl (lv_at hl 0 rfl) ?_
          refine fg_M_27_M hx hb hown hts hE hW4.1 rfl d_M_test_86 ?_
          refine lv_aload_n hx hb d_M_test_89 rfl (lv_at hl 0 rfl) ?_
          refine fg_M_100_M hx hb hown hts hE hW4.1 rfl d_M_test_90 ?_
          refine x_topi (y := nI made) (congrArg nI r1) ?_
          refine lv_iload hx hb d_M_test_93 (lv_at hl 4 rfl) ?_
          refine lv_i2b hx hb d_M_test_95 rfl ?_
          refine x_topi (y := nI i3) (b_nar i3 hi3) ?_
          refine x_bast hx hb hE.2.2 (show va_at D x_cl (m + 6, .inl (cA 2, 520, .inl (m_i (m_sL (m_sI (m_sI (m_sI Y 3 (upd (m_i Y 3) made (nI 3))) 4 (upd (m_i Y 4) made (nI i1))) 5 (upd (m_i Y 5) made (nI i2))) 8 (vp_updL (m_l Y 8) made t)) 6))) _ from hW4.2 6 (by decide) (by decide)) 2 rfl (by omega) (by decide) (b_nar i3 hi3) d_M_test_96 (fun H5 k5 g5 o5 => ?_)
          have hF := t_lc (a := m + 6) (i := k5) hF (m_A_in (by omega) (by omega))
          have hW5 := hW4.ai (i := 6) (by decide) o5 (f := upd (m_i Y 6) made (nI i3)) g5
          refine lv_aload_n hx hb d_M_test_97 rfl (lv_at hl 0 rfl) ?_
          refine fg_M_30_M hx hb hown hts hE hW5.1 rfl d_M_test_98 ?_
          refine lv_aload_n hx hb d_M_test_101 rfl (lv_at hl 0 rfl) ?_
          refine fg_M_100_M hx hb hown hts hE hW5.1 rfl d_M_test_102 ?_
          refine x_topi (y := nI made) (congrArg nI r1) ?_
          refine lv_iconst (v := 1) hx hb d_M_test_105 (by decide) ?_
          refine x_topi (y := nI 1) rfl ?_
          refine x_bast hx hb hE.2.2 (show va_at D x_cl (m + 7, .inl (cA 2, 520, .inl (m_i (m_sI (m_sL (m_sI (m_sI (m_sI Y 3 (upd (m_i Y 3) made (nI 3))) 4 (upd (m_i Y 4) made (nI i1))) 5 (upd (m_i Y 5) made (nI i2))) 8 (vp_updL (m_l Y 8) made t)) 6 (upd (m_i Y 6) made (nI i3))) 7))) _ from hW5.2 7 (by decide) (by decide)) 2 rfl (by omega) (by decide) (by decide) d_M_test_106 (fun H6 k6 g6 o6 => ?_)
          have hF := t_lc (a := m + 7) (i := k6) hF (m_A_in (by omega) (by omega))
          have hW6 := hW5.ai (i := 7) (by decide) o6 (f := upd (m_i Y 7) made (nI 1)) g6
          refine lv_aload_n hx hb d_M_test_107 rfl (lv_at hl 0 rfl) ?_
          refine x_cw (k_M_110 (As := []) (rest := []) hx hb hml hown hts (c_M_put l D cA m (m_sI (m_sI (m_sL (m_sI (m_sI (m_sI Y 3 (upd (m_i Y 3) made (nI 3))) 4 (upd (m_i Y 4) made (nI i1))) 5 (upd (m_i Y 5) made (nI i2))) 8 (vp_updL (m_l Y 8) made t)) 6 (upd (m_i Y 6) made (nI i3))) 7 (upd (m_i Y 7) made (nI 1))) (by show m_md Y < 520; omega) (by show m_pl Y < 8; omega)) (x_preV hE hW6.1 rfl rfl hW6) rfl hl.1 rfl (Nat.le_of_ble_eq_true rfl) d_M_test_108 (by decide) ⟨Nat.zero_le _, Nat.zero_le _⟩) (fun H7 L7 p7 f7 => ?_)
          have hF := t_lL hF (fun q h => (fun q h => h) q.base (f7 q h))
          obtain ⟨e7, hW7⟩ := p7
          have hR7 := hR.push (n := 0) (kd := 3) (op := i1) (ky := i2) (mk := i3) (dp := 1) (ad := a) (tt := t) (ch := []) (Y2 := (m_md Y + 1, m_pl Y + 1, m_de Y, m_tn Y, va_up (va_up (m_i (m_sI (m_sI (m_sL (m_sI (m_sI (m_sI Y 3 (upd (m_i Y 3) made (nI 3))) 4 (upd (m_i Y 4) made (nI i1))) 5 (upd (m_i Y 5) made (nI i2))) 8 (vp_updL (m_l Y 8) made t)) 6 (upd (m_i Y 6) made (nI i3))) 7 (upd (m_i Y 7) made (nI 1)))) 9 (upd (m_i Y 9) (m_md Y) (-1))) 11 (upd (m_i Y 11) (m_pl Y) (nI (m_md Y))), m_l (m_sI (m_sI (m_sL (m_sI (m_sI (m_sI Y 3 (upd (m_i Y 3) made (nI 3))) 4 (upd (m_i Y 4) made (nI i1))) 5 (upd (m_i Y 5) made (nI i2))) 8 (vp_updL (m_l Y 8) made t)) 6 (upd (m_i Y 6) made (nI i3))) 7 (upd (m_i Y 7) made (nI 1))))) hok hdo (by omega) (Nat.zero_le _) (fun c hc => absurd hc List.not_mem_nil) (fun _ => rfl) (fun z => absurd z (by decide)) (by rw [r1]) (by rw [r2]; rfl) rfl rfl rfl rfl rfl rfl rfl rfl rfl rfl rfl pk_us (fun i hi => pk_un (by omega)) (fun _ => ⟨pk_us, pk_us, pk_us, pk_uLs⟩) (fun i hi => ⟨pk_un (by omega), pk_un (by omega), pk_un (by omega), pk_uLn (by omega)⟩) pk_us (fun i hi => pk_un (by omega)) (by rw [r1]; exact pk_us) (fun c hc => by rw [if_neg List.not_mem_nil, r1]; exact pk_un (by omega)) (by rw [r1, r2]; exact pk_us) (fun k hk => by rw [r1, r2]; exact pk_un (by omega))
          refine x_topi (y := q_test X (nI i1) (nI i2) (nI i3)) (by exact (congrArg (fun k => nI (k + 1)) r2).trans hR9.symm) ?_
          exact W.iret hx hb hr (fun t9 ht _ => ⟨rfl, by rw [ht]; exact ⟨((((((x_F.of1 o1 (m_A_in (by omega) (by omega))).trans (x_F.of1 o2 (m_A_in (by omega) (by omega)))).trans (x_F.of1 o3 (m_A_in (by omega) (by omega)))).trans (x_F.of1 o4 (m_A_in (by omega) (by omega)))).trans (x_F.of1 o5 (m_A_in (by omega) (by omega)))).trans (x_F.of1 o6 (m_A_in (by omega) (by omega)))).trans e7, _, hW7, by unfold z_testM z_testN z_testX; rw [hm, if_pos rfl, if_pos rfl, if_pos rfl, d1, d2, d3]; exact hR7⟩⟩) hF d_M_test_111
        · have h4 : d_n X = 8 := (nI_eq (by omega) (by decide) : nI (d_n X) = nI 8 ↔ _).mp h4
          have hm : q_tmk X op ky mk = false := by unfold q_tmk; rw [hk, h4]; rfl
          refine lv_bipush (v := (-3)) hx hb d_M_test_40 (by decide) ?_
          refine x_topi (y := q_test X op ky mk) (by unfold q_test; rw [hk, h4]; rfl) ?_
          exact W.iret hx hb hr (fun t9 ht _ => ⟨rfl, by rw [ht]; unfold z_testN z_testX z_testM; rw [hm]; exact ⟨x_F.rf, hP⟩⟩) hF d_M_test_42
      · have h3 := bI_0.mp h3
        have hk : q_tok op ky mk = false := by unfold q_tok; rw [h3]; simp
        have hm : q_tmk X op ky mk = false := by unfold q_tmk; rw [hk]; rfl
        refine lv_bipush (v := (-2)) hx hb d_M_test_28 (by decide) ?_
        refine x_topi (y := q_test X op ky mk) (by unfold q_test; rw [hk]; rfl) ?_
        exact W.iret hx hb hr (fun t9 ht _ => ⟨rfl, by rw [ht]; unfold z_testN z_testX z_testM; rw [hm]; exact ⟨x_F.rf, hP⟩⟩) hF d_M_test_30
