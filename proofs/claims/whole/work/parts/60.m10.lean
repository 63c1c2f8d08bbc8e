/-! a statement more, in the model -/
theorem m_R.stmt {made : Nat} {N : n_T} {X : d_T} {Y Y2 : m_T} (hR : m_R made N X Y) {j c q : Nat} {s : s_T} (hj : j < 6) (hc : c < 6) (hcd : c ≤ d_k X j) (hd6 : ∀ l, l < 6 → d_k X l ≤ 6) (hq : q ≤ d_n X)
    (a0 : m_md Y2 = m_md Y) (a1 : m_pl Y2 = q) (a2 : m_de Y2 = m_de Y) (b1 : m_i Y2 1 = m_i Y 1) (b2 : m_l Y2 2 = m_l Y 2) (b3 : m_i Y2 3 = m_i Y 3) (b4 : m_i Y2 4 = m_i Y 4) (b5 : m_i Y2 5 = m_i Y 5) (b6 : m_i Y2 6 = m_i Y 6) (b7 : m_i Y2 7 = m_i Y 7) (b8 : m_l Y2 8 = m_l Y 8) (b9 : m_i Y2 9 = m_i Y 9) (b11 : m_i Y2 11 = m_i Y 11) (b19 : m_i Y2 19 = m_i Y 19)
    (b12 : m_i Y2 12 = upd (m_i Y 12) j (bI true)) (b13 : m_i Y2 13 = upd (m_i Y 13) j (nI (c + 1))) (b14 : m_i Y2 14 = upd (m_i Y 14) (6 * j + c) (nI s.1)) (b15 : m_l Y2 15 = vp_updL (m_l Y 15) (6 * j + c) s.2.1) (b16 : m_l Y2 16 = vp_updL (m_l Y 16) (6 * j + c) s.2.2.1) (b17 : m_i Y2 17 = upd (m_i Y 17) (6 * j + c) s.2.2.2.1)
    (b18 : m_i Y2 18 (6 * j + c) = s_ci s.2.2.2.2) (b18o : ∀ i, i ≠ 6 * j + c → m_i Y2 18 i = m_i Y 18 i) : m_R made N (d_setL (d_setN X q) j (c + 1) true (d_j X j) (va_up (d_s X j) c s)) Y2 := by
  obtain ⟨r1, r2, r3, r4, r5, rN, rp, ri, rl, rs⟩ := hR
  refine ⟨a0.trans r1, a1, a2.trans r3, b1.trans r4, b2.trans r5, ?_, fun k hk => ?_, fun k i hk hi e => ri k i (Nat.lt_of_lt_of_le hk hq) (Nat.lt_of_lt_of_le hi hq) e, fun l hl => ?_, fun l hl k hk => ?_⟩
  · unfold m_N; rw [b3, b4, b5, b6, b7, b8, b9]; exact rN
  · rw [b11, b9]; exact rp k (Nat.lt_of_lt_of_le hk hq)
  · obtain ⟨a, b, c9⟩ := rl l hl
    rw [b12, b13, b19]
    by_cases e : l = j
    · subst e; exact ⟨(pk_us).trans (congrArg bI (va_up_self (d_b X) l _).symm), (pk_us).trans (congrArg nI (va_up_self (d_k X) l _).symm), c9.trans (congrArg nI (va_up_self (d_j X) l _).symm)⟩
    · exact ⟨(pk_un e).trans (a.trans (congrArg bI (va_up_ne (d_b X) _ e).symm)), (pk_un e).trans (b.trans (congrArg nI (va_up_ne (d_k X) _ e).symm)), c9.trans (congrArg nI (va_up_ne (d_j X) _ e).symm)⟩
  · by_cases e : l = j
    · subst e
      have es : d_s (d_setL (d_setN X q) l (c + 1) true (d_j X l) (va_up (d_s X l) c s)) l = va_up (d_s X l) c s := va_up_self (d_s X) l _
      have ek9 : d_k (d_setL (d_setN X q) l (c + 1) true (d_j X l) (va_up (d_s X l) c s)) l = c + 1 := va_up_self (d_k X) l _
      rw [es]
      rw [ek9] at hk
      by_cases ek : k = c
      · subst ek; rw [va_up_self, b14, b15, b16, b17]; exact ⟨pk_us, pk_uLs, pk_uLs, pk_us, b18⟩
      · have hne : 6 * l + k ≠ 6 * l + c := by omega
        obtain ⟨t1, t2, t3, t4, t5⟩ := rs l hl k (by omega)
        rw [va_up_ne _ _ ek, b14, b15, b16, b17, pk_un hne, pk_uLn hne, pk_uLn hne, pk_un hne, b18o _ hne]; exact ⟨t1, t2, t3, t4, t5⟩
    · have es : d_s (d_setL (d_setN X q) j (c + 1) true (d_j X j) (va_up (d_s X j) c s)) l = d_s X l := va_up_ne (d_s X) _ e
      have ek9 : d_k (d_setL (d_setN X q) j (c + 1) true (d_j X j) (va_up (d_s X j) c s)) l = d_k X l := va_up_ne (d_k X) _ e
      rw [ek9] at hk
      have hk6 : k < 6 := Nat.lt_of_lt_of_le hk (hd6 l hl)
      have hne : 6 * l + k ≠ 6 * j + c := by omega
      obtain ⟨t1, t2, t3, t4, t5⟩ := rs l hl k hk
      rw [es, b14, b15, b16, b17, pk_un hne, pk_uLn hne, pk_uLn hne, pk_un hne, b18o _ hne]; exact ⟨t1, t2, t3, t4, t5⟩
theorem m_sI_k {Y Y2 : m_T} {j : Nat} {f : Nat → Int32} (h : Y2 = m_sI Y j f) : (∀ i, i ≠ j → m_i Y2 i = m_i Y i) ∧ (∀ i, m_l Y2 i = m_l Y i) ∧ m_i Y2 j = f ∧ m_md Y2 = m_md Y ∧ m_pl Y2 = m_pl Y ∧ m_de Y2 = m_de Y := by
  subst h; exact ⟨fun i hi => va_up_ne _ _ hi, fun i => rfl, va_up_self _ _ _, rfl, rfl, rfl⟩
theorem m_sL_k {Y Y2 : m_T} {j : Nat} {f : Nat → Int64} (h : Y2 = m_sL Y j f) : (∀ i, m_i Y2 i = m_i Y i) ∧ (∀ i, i ≠ j → m_l Y2 i = m_l Y i) ∧ m_l Y2 j = f ∧ m_md Y2 = m_md Y ∧ m_pl Y2 = m_pl Y ∧ m_de Y2 = m_de Y := by
  subst h; exact ⟨fun i => rfl, fun i hi => va_up_ne _ _ hi, va_up_self _ _ _, rfl, rfl, rfl⟩
theorem m_sN_k {Y Y2 : m_T} {q t : Nat} {d : Int32} {md : Nat} (h : Y2 = (md, q, d, t, Y.2.2.2.2)) : (∀ i, m_i Y2 i = m_i Y i) ∧ (∀ i, m_l Y2 i = m_l Y i) ∧ m_md Y2 = md ∧ m_pl Y2 = q ∧ m_de Y2 = d := by
  subst h; exact ⟨fun i => rfl, fun i => rfl, rfl, rfl, rfl⟩
theorem q_may_1 {k w : Int32} (h : w = -1) : q_may k w = true := by
  unfold q_may; subst h
  by_cases z : k = 5
  · rw [if_pos z]; decide
  · rw [if_neg z]; decide
theorem q_may_2 {k w : Int32} (h : ¬ k = 5) (h1 : ¬ w = -1) : q_may k w = false := by
  unfold q_may; rw [if_neg h]; exact decide_eq_false h1
theorem q_may_3 {k w : Int32} (h : k = 5) (h1 : 0 ≤ w ∧ w ≤ 9) : q_may k w = true := by
  unfold q_may; rw [if_pos h]; exact decide_eq_true (Or.inl ⟨Int32.le_trans (by decide) h1.1, h1.2⟩)
theorem q_may_4 {k w : Int32} (h : k = 5) (h1 : ¬ w = -1) (h2 : ¬ (0 ≤ w ∧ w ≤ 9)) (h3 : ¬ (100 ≤ w ∧ w ≤ 199)) : q_may k w = false := by
  unfold q_may; rw [if_pos h]
  refine decide_eq_false (fun z => ?_)
  rcases z with ⟨a, b⟩ | z
  · refine h2 ⟨?_, b⟩
    rw [Int32.le_iff_toInt_le] at a ⊢
    have e1 : (-1 : Int32).toInt = -1 := by decide
    have e0 : (0 : Int32).toInt = 0 := by decide
    have : w.toInt ≠ -1 := fun z => h1 (Int32.toInt_inj.mp (z.trans e1.symm))
    omega
  · exact h3 z
theorem q_may_5 {k w : Int32} (h : k = 5) (h1 : 100 ≤ w ∧ w ≤ 199) : q_may k w = true := by
  unfold q_may; rw [if_pos h]; exact decide_eq_true (Or.inr h1)
set_option maxHeartbeats 4000000 in
set_option maxRecDepth 100000 in
theorem c_M_state (l : Launch) (D : va_G) (cA : Nat → ClassId) (m made : Nat) (N : n_T) (X : d_T) (hdo : d_ok made X) (k g : Int32) (x y : Int64) (w : Int32) : Met l y_M_state [.code y_M_state b_M_state 10 (some .int)] (x_rm 1 0 0) (x_P D cA [.ref m, .int k, .int g, .long x, .long y, .int w] (fun H => mm_W D cA m made N X H)) (x_Q (some (.int (q_state X k g w))) (fun H H1 => x_F (m_A m) H H1 ∧ mm_W D cA m made N (z_state X k g x y w) H1)) 0 0 (m_A m) := by
  refine x_met (own := "DecisionLayersModel") (by decide) rfl (Nat.le_of_ble_eq_true rfl) ?_
  intro pp ee s mm below mt cd ls hx hb hr hlk hnm hml hown hts hE hP hl
  have hl : lv_has ls 10 [(0, .ref m), (1, .int k), (2, .int g), (3, .long x), (5, .long y), (7, .int w)] := hl
  obtain ⟨Y, hW, hR⟩ := id hP
  obtain ⟨r1, r2, r3, r4, r5, rN, rp, ri, rl, rs⟩ := id hR
  have hF : ∀ q ∈ ([] : List Loc), m_A m q.base := t_nil
  obtain ⟨hn8, hpm, hvo, hdk, -⟩ := id hdo
  refine x_join 41 (fun ls st => lv_has ls 10 [(0, .ref m), (1, .int k), (2, .int g), (3, .long x), (5, .long y), (7, .int w)] ∧ st = [.int (bI (q_may k w))]) ?_ (fun hj => ?_)
  · intro ls st hj
    obtain ⟨hl, rfl⟩ := hj
    refine lv_istore (lv' := [(8, .int (bI (q_may k w))), (0, .ref m), (1, .int k), (2, .int g), (3, .long x), (5, .long y), (7, .int w)]) hx hb d_M_state_41 hl (by decide) rfl (fun ls hl => ?_)
    refine lv_iload_n hx hb d_M_state_43 rfl (lv_at hl 2 rfl) ?_
    refine lv_iconst (v := 5) hx hb d_M_state_44 (by decide) ?_
    refine x_cp (k_M_106 (As := [.int k, .int 5]) (rest := []) hx hb hml hown hts (c_M_within l D cA k 5) (x_preS hE trivial) rfl hl.1 rfl (Nat.le_of_ble_eq_true rfl) d_M_state_45 (by decide) ⟨Nat.zero_le _, Nat.zero_le _⟩) ?_
    refine x_topi (y := bI (q_L k)) (by rw [w_5]) ?_
    refine lv_if_eq (tgt := 78) hx hb d_M_state_48 (by decide) (fun h1 => ?_) (fun h1 => ?_)
    · have h1 := bI_0.mp h1
      have hb9 : q_sb X k g w = false := by unfold q_sb; unfold q_sok; rw [h1]; rfl
      have hm : q_smk X k g w = false := by unfold q_smk; rw [hb9]; rfl
      refine lv_bipush (v := (-2)) hx hb d_M_state_78 (by decide) ?_
      refine x_topi (y := q_state X k g w) (by unfold q_state; rw [hb9]; rfl) ?_
      exact W.iret hx hb hr (fun t9 ht _ => ⟨rfl, by rw [ht]; unfold z_state; rw [hm]; exact ⟨x_F.rf, hP⟩⟩) hF d_M_state_80
    · refine lv_iload_n hx hb d_M_state_51 rfl (lv_at hl 3 rfl) ?_
      refine lv_bipush (v := 15) hx hb d_M_state_52 (by decide) ?_
      refine x_cp (k_M_106 (As := [.int g, .int 15]) (rest := []) hx hb hml hown hts (c_M_within l D cA g 15) (x_preS hE trivial) rfl hl.1 rfl (Nat.le_of_ble_eq_true rfl) d_M_state_54 (by decide) ⟨Nat.zero_le _, Nat.zero_le _⟩) ?_
      refine lv_if_eq (tgt := 78) hx hb d_M_state_57 (by decide) (fun h2 => ?_) (fun h2 => ?_)
      · have h2 := bI_0.mp h2
        have hb9 : q_sb X k g w = false := by unfold q_sb; unfold q_sok; rw [h2]; simp
        have hm : q_smk X k g w = false := by unfold q_smk; rw [hb9]; rfl
        refine lv_bipush (v := (-2)) hx hb d_M_state_78 (by decide) ?_
        refine x_topi (y := q_state X k g w) (by unfold q_state; rw [hb9]; rfl) ?_
        exact W.iret hx hb hr (fun t9 ht _ => ⟨rfl, by rw [ht]; unfold z_state; rw [hm]; exact ⟨x_F.rf, hP⟩⟩) hF d_M_state_80
      · refine lv_iload hx hb d_M_state_60 (lv_at hl 0 rfl) ?_
        refine lv_if_eq (tgt := 78) hx hb d_M_state_62 (by decide) (fun h3 => ?_) (fun h3 => ?_)
        · have h3 := bI_0.mp h3
          have hb9 : q_sb X k g w = false := by unfold q_sb; unfold q_sok; rw [h3]; simp
          have hm : q_smk X k g w = false := by unfold q_smk; rw [hb9]; rfl
          refine lv_bipush (v := (-2)) hx hb d_M_state_78 (by decide) ?_
          refine x_topi (y := q_state X k g w) (by unfold q_state; rw [hb9]; rfl) ?_
          exact W.iret hx hb hr (fun t9 ht _ => ⟨rfl, by rw [ht]; unfold z_state; rw [hm]; exact ⟨x_F.rf, hP⟩⟩) hF d_M_state_80
        · have h1 := bI_n0.mp h1
          have h2 := bI_n0.mp h2
          have h3 := bI_n0.mp h3
          have hok9 : q_sok k g w = true := by unfold q_sok; rw [h1, h2, h3]; rfl
          refine x_join 81 (fun ls st => lv_has ls 10 [(0, .ref m), (1, .int k), (2, .int g), (3, .long x), (5, .long y), (7, .int w)] ∧ st = [] ∧ (q_sc g && decide (d_n X = 0)) = false) ?_ (fun hj => ?_)
          · intro ls st hj
            obtain ⟨hl, rfl, h4⟩ := hj
            have hb9 : q_sb X k g w = true := by unfold q_sb; rw [hok9, h4]; rfl
            obtain ⟨j, hj, rfl⟩ := q_L_in h1
            have h2 := of_decide_eq_true h2
            obtain ⟨gi, hgi, rfl⟩ := nI_of2 (M := 15) (n := 15) (by decide) (Int32.not_lt.mpr h2.1) h2.2
            have hcl : (nI j).toNatClampNeg = j := nI_clamp (by omega)
            have hcg : (nI gi).toNatClampNeg = gi := nI_clamp (by omega)
            obtain ⟨l1, l2, l3⟩ := rl j hj
            have hdk6 := (hdk j hj).1
            refine lv_aload_n hx hb d_M_state_81 rfl (lv_at hl 0 rfl) ?_
            refine fg_M_49_M hx hb hown hts hE hW.1 rfl d_M_state_82 ?_
            refine lv_iload_n hx hb d_M_state_85 rfl (lv_at hl 1 rfl) ?_
            refine x_iald hx hb hE.2.2 (show va_at D x_cl (m + 13, .inl (cA 0, 6, .inl (m_i Y 13))) _ from hW.2 13 (by decide) (by decide)) 0 rfl hj (by decide) d_M_state_86 ?_
            refine x_topi (y := nI (d_k X j)) l2 ?_
            refine lv_bipush (v := 6) hx hb d_M_state_87 (by decide) ?_
            refine lv_icmp_ne (tgt := 95) hx hb d_M_state_89 (by decide) (fun h5 => ?_) (fun h5 => ?_)
            · have h5 : d_k X j < 6 := by
                rcases Nat.lt_or_eq_of_le hdk6 with z | z
                · exact z
                · exact absurd (by rw [z]; rfl) h5
              have hm : q_smk X (nI j) (nI gi) w = true := by unfold q_smk; rw [hb9, hcl, decide_eq_true h5]; rfl
              have hR9 : q_state X (nI j) (nI gi) w = nI (d_k X j) := by unfold q_state; rw [hb9, if_pos rfl, hcl, if_neg (by omega)]
              refine lv_bipush (v := 6) hx hb d_M_state_95 (by decide) ?_
              refine lv_iload_n hx hb d_M_state_97 rfl (lv_at hl 1 rfl) ?_
              refine lv_imul hx hb d_M_state_98 ?_
              refine x_topi (y := nI (6 * j)) (by rw [show (6 : Int32) = nI 6 from rfl, pk_mul]) ?_
              refine lv_aload_n hx hb d_M_state_99 rfl (lv_at hl 0 rfl) ?_
              refine fg_M_49_M hx hb hown hts hE hW.1 rfl d_M_state_100 ?_
              refine lv_iload_n hx hb d_M_state_103 rfl (lv_at hl 1 rfl) ?_
              refine x_iald hx hb hE.2.2 (show va_at D x_cl (m + 13, .inl (cA 0, 6, .inl (m_i Y 13))) _ from hW.2 13 (by decide) (by decide)) 0 rfl hj (by decide) d_M_state_104 ?_
              refine x_topi (y := nI (d_k X j)) l2 ?_
              refine lv_iadd hx hb d_M_state_105 ?_
              refine x_topi (y := nI (6 * j + d_k X j)) (nI_add _ _) ?_
              refine lv_istore (lv' := [(9, .int (nI (6 * j + d_k X j))), (0, .ref m), (1, .int (nI j)), (2, .int (nI gi)), (3, .long x), (5, .long y), (7, .int w)]) hx hb d_M_state_106 hl (by decide) rfl (fun ls hl => ?_)
              refine lv_aload_n hx hb d_M_state_108 rfl (lv_at hl 1 rfl) ?_
              refine fg_M_52_M hx hb hown hts hE hW.1 rfl d_M_state_109 ?_
              refine lv_iload hx hb d_M_state_112 (lv_at hl 0 rfl) ?_
              refine lv_iload_n hx hb d_M_state_114 rfl (lv_at hl 3 rfl) ?_
              refine x_iast hx hb hE.2.2 (show va_at D x_cl (m + 14, .inl (cA 0, 36, .inl (m_i Y 14))) _ from hW.2 14 (by decide) (by decide)) 0 rfl (by omega) (by decide) d_M_state_115 (fun H1 k1 g1 o1 => ?_)
              have hF := t_lc (a := m + 14) (i := k1) hF (m_A_in (by omega) (by omega))
              obtain ⟨Y1, q1, hW1⟩ : ∃ Z, Z = m_sI Y 14 (upd (m_i Y 14) (6 * j + d_k X j) (nI gi)) ∧ m_W D cA m Z H1 := ⟨_, rfl, hW.ai (i := 14) (by decide) o1 (f := upd (m_i Y 14) (6 * j + d_k X j) (nI gi)) g1⟩
              obtain ⟨eI1, eL1, c1, eN1⟩ := m_sI_k q1
              clear q1
              refine lv_aload_n hx hb d_M_state_116 rfl (lv_at hl 1 rfl) ?_
              refine fg_M_55_M hx hb hown hts hE hW1.1 rfl d_M_state_117 ?_
              refine lv_iload hx hb d_M_state_120 (lv_at hl 0 rfl) ?_
              refine lv_lload_n hx hb d_M_state_122 rfl (lv_at hl 4 rfl) ?_
              refine x_last hx hb hE.2.2 (show va_at D x_cl (m + 15, .inl (cA 1, 36, .inr (.inl (m_l Y1 15)))) _ from hW1.2 15 (by decide) (by decide)) 1 rfl (by omega) (by decide) d_M_state_123 (fun H2 k2 g2 o2 => ?_)
              have hF := t_lc (a := m + 15) (i := k2) hF (m_A_in (by omega) (by omega))
              obtain ⟨Y2, q2, hW2⟩ : ∃ Z, Z = m_sL Y1 15 (vp_updL (m_l Y1 15) (6 * j + d_k X j) x) ∧ m_W D cA m Z H2 := ⟨_, rfl, hW1.al (i := 15) (by decide) o2 (g := vp_updL (m_l Y1 15) (6 * j + d_k X j) x) g2⟩
              obtain ⟨eI2, eL2, c2, eN2⟩ := m_sL_k q2
              clear q2
              refine lv_aload_n hx hb d_M_state_124 rfl (lv_at hl 1 rfl) ?_
              refine fg_M_58_M hx hb hown hts hE hW2.1 rfl d_M_state_125 ?_
              refine lv_iload hx hb d_M_state_128 (lv_at hl 0 rfl) ?_
              refine lv_lload hx hb d_M_state_130 (lv_at hl 5 rfl) ?_
              refine x_last hx hb hE.2.2 (show va_at D x_cl (m + 16, .inl (cA 1, 36, .inr (.inl (m_l Y2 16)))) _ from hW2.2 16 (by decide) (by decide)) 1 rfl (by omega) (by decide) d_M_state_132 (fun H3 k3 g3 o3 => ?_)
              have hF := t_lc (a := m + 16) (i := k3) hF (m_A_in (by omega) (by omega))
              obtain ⟨Y3, q3, hW3⟩ : ∃ Z, Z = m_sL Y2 16 (vp_updL (m_l Y2 16) (6 * j + d_k X j) y) ∧ m_W D cA m Z H3 := ⟨_, rfl, hW2.al (i := 16) (by decide) o3 (g := vp_updL (m_l Y2 16) (6 * j + d_k X j) y) g3⟩
              obtain ⟨eI3, eL3, c3, eN3⟩ := m_sL_k q3
              clear q3
              refine lv_aload_n hx hb d_M_state_133 rfl (lv_at hl 1 rfl) ?_
              refine fg_M_61_M hx hb hown hts hE hW3.1 rfl d_M_state_134 ?_
              refine lv_iload hx hb d_M_state_137 (lv_at hl 0 rfl) ?_
              refine lv_iload hx hb d_M_state_139 (lv_at hl 6 rfl) ?_
              refine x_iast hx hb hE.2.2 (show va_at D x_cl (m + 17, .inl (cA 0, 36, .inl (m_i Y3 17))) _ from hW3.2 17 (by decide) (by decide)) 0 rfl (by omega) (by decide) d_M_state_141 (fun H4 k4 g4 o4 => ?_)
              have hF := t_lc (a := m + 17) (i := k4) hF (m_A_in (by omega) (by omega))
              obtain ⟨Y4, q4, hW4⟩ : ∃ Z, Z = m_sI Y3 17 (upd (m_i Y3 17) (6 * j + d_k X j) (w)) ∧ m_W D cA m Z H4 := ⟨_, rfl, hW3.ai (i := 17) (by decide) o4 (f := upd (m_i Y3 17) (6 * j + d_k X j) (w)) g4⟩
              obtain ⟨eI4, eL4, c4, eN4⟩ := m_sI_k q4
              clear q4
              refine lv_aload_n hx hb d_M_state_142 rfl (lv_at hl 1 rfl) ?_
              refine fg_M_64_M hx hb hown hts hE hW4.1 rfl d_M_state_143 ?_
              refine lv_iload hx hb d_M_state_146 (lv_at hl 0 rfl) ?_
              refine lv_iconst (v := (-1)) hx hb d_M_state_148 (by decide) ?_
              refine x_iast hx hb hE.2.2 (show va_at D x_cl (m + 18, .inl (cA 0, 36, .inl (m_i Y4 18))) _ from hW4.2 18 (by decide) (by decide)) 0 rfl (by omega) (by decide) d_M_state_149 (fun H5 k5 g5 o5 => ?_)
              have hF := t_lc (a := m + 18) (i := k5) hF (m_A_in (by omega) (by omega))
              obtain ⟨Y5, q5, hW5⟩ : ∃ Z, Z = m_sI Y4 18 (upd (m_i Y4 18) (6 * j + d_k X j) (-1)) ∧ m_W D cA m Z H5 := ⟨_, rfl, hW4.ai (i := 18) (by decide) o5 (f := upd (m_i Y4 18) (6 * j + d_k X j) (-1)) g5⟩
              obtain ⟨eI5, eL5, c5, eN5⟩ := m_sI_k q5
              clear q5
              refine lv_iload_n hx hb d_M_state_150 rfl (lv_at hl 3 rfl) ?_
              refine lv_bipush (v := 8) hx hb d_M_state_151 (by decide) ?_
              refine lv_icmp_lt (tgt := 182) hx hb d_M_state_153 (by decide) (fun e1 => ?_) (fun e1 => ?_)
              · have hsc : q_sc (nI gi) = false := decide_eq_false (Int32.not_le.mpr e1)
                refine lv_aload_n hx hb d_M_state_182 rfl (lv_at hl 1 rfl) ?_
                refine fg_M_46_M hx hb hown hts hE hW5.1 rfl d_M_state_183 ?_
                refine lv_iload_n hx hb d_M_state_186 rfl (lv_at hl 2 rfl) ?_
                refine lv_iconst (v := 1) hx hb d_M_state_187 (by decide) ?_
                refine x_topi (y := bI true) rfl ?_
                refine x_zast hx hb hE.2.2 (show va_at D x_cl (m + 12, .inl (cA 3, 6, .inl (m_i Y5 12))) _ from hW5.2 12 (by decide) (by decide)) 3 rfl hj (by decide) d_M_state_188 (fun H6 k6 g6 o6 => ?_)
                have hF := t_lc (a := m + 12) (i := k6) hF (m_A_in (by omega) (by omega))
                obtain ⟨Y6, q6, hW6⟩ : ∃ Z, Z = m_sI Y5 12 (upd (m_i Y5 12) (j) (bI true)) ∧ m_W D cA m Z H6 := ⟨_, rfl, hW5.ai (i := 12) (by decide) o6 (f := upd (m_i Y5 12) (j) (bI true)) g6⟩
                obtain ⟨eI6, eL6, c6, eN6⟩ := m_sI_k q6
                clear q6
                refine lv_aload_n hx hb d_M_state_189 rfl (lv_at hl 1 rfl) ?_
                refine fg_M_49_M hx hb hown hts hE hW6.1 rfl d_M_state_190 ?_
                refine lv_iload_n hx hb d_M_state_193 rfl (lv_at hl 2 rfl) ?_
                refine lv_dup2_11 hx hb d_M_state_194 rfl rfl ?_
                refine x_iald hx hb hE.2.2 (show va_at D x_cl (m + 13, .inl (cA 0, 6, .inl (m_i Y6 13))) _ from hW6.2 13 (by decide) (by decide)) 0 rfl hj (by decide) d_M_state_195 ?_
                refine x_topi (y := nI (d_k X j)) (by rw [eI6 13 (by decide), eI5 13 (by decide), eI4 13 (by decide), eI3 13, eI2 13, eI1 13 (by decide)]; exact l2) ?_
                refine lv_iconst (v := 1) hx hb d_M_state_196 (by decide) ?_
                refine lv_iadd hx hb d_M_state_197 ?_
                refine x_topi (y := nI (d_k X j + 1)) (nI_succ _).symm ?_
                refine x_iast hx hb hE.2.2 (show va_at D x_cl (m + 13, .inl (cA 0, 6, .inl (m_i Y6 13))) _ from hW6.2 13 (by decide) (by decide)) 0 rfl hj (by decide) d_M_state_198 (fun H7 k7 g7 o7 => ?_)
                have hF := t_lc (a := m + 13) (i := k7) hF (m_A_in (by omega) (by omega))
                obtain ⟨Y7, q7, hW7⟩ : ∃ Z, Z = m_sI Y6 13 (upd (m_i Y6 13) (j) (nI (d_k X j + 1))) ∧ m_W D cA m Z H7 := ⟨_, rfl, hW6.ai (i := 13) (by decide) o7 (f := upd (m_i Y6 13) (j) (nI (d_k X j + 1))) g7⟩
                obtain ⟨eI7, eL7, c7, eN7⟩ := m_sI_k q7
                clear q7
                refine lv_aload_n hx hb d_M_state_199 rfl (lv_at hl 1 rfl) ?_
                refine fg_M_49_M hx hb hown hts hE hW7.1 rfl d_M_state_200 ?_
                refine lv_iload_n hx hb d_M_state_203 rfl (lv_at hl 2 rfl) ?_
                refine x_iald hx hb hE.2.2 (show va_at D x_cl (m + 13, .inl (cA 0, 6, .inl (m_i Y7 13))) _ from hW7.2 13 (by decide) (by decide)) 0 rfl hj (by decide) d_M_state_204 ?_
                refine x_topi (y := nI (d_k X j + 1)) (by rw [c7]; exact pk_us) ?_
                refine lv_iconst (v := 1) hx hb d_M_state_205 (by decide) ?_
                refine lv_isub hx hb d_M_state_206 ?_
                refine x_topi (y := nI (d_k X j)) (nI_pred _) ?_
                refine x_topi (y := q_state X (nI j) (nI gi) w) (by rw [hR9]) ?_
                have hR7 := hR.stmt (s := (gi, x, y, w, none)) (q := d_n X) (Y2 := Y7) hj h5 (Nat.le_refl _) (fun l hl => (hdk l hl).1) (by omega) (by rw [eN7.1, eN6.1, eN5.1, eN4.1, eN3.1, eN2.1, eN1.1]) (by rw [eN7.2.1, eN6.2.1, eN5.2.1, eN4.2.1, eN3.2.1, eN2.2.1, eN1.2.1]; exact r2) (by rw [eN7.2.2, eN6.2.2, eN5.2.2, eN4.2.2, eN3.2.2, eN2.2.2, eN1.2.2]) (by rw [eI7 1 (by decide), eI6 1 (by decide), eI5 1 (by decide), eI4 1 (by decide), eI3 1, eI2 1, eI1 1 (by decide)]) (by rw [eL7 2, eL6 2, eL5 2, eL4 2, eL3 2 (by decide), eL2 2 (by decide), eL1 2]) (by rw [eI7 3 (by decide), eI6 3 (by decide), eI5 3 (by decide), eI4 3 (by decide), eI3 3, eI2 3, eI1 3 (by decide)]) (by rw [eI7 4 (by decide), eI6 4 (by decide), eI5 4 (by decide), eI4 4 (by decide), eI3 4, eI2 4, eI1 4 (by decide)]) (by rw [eI7 5 (by decide), eI6 5 (by decide), eI5 5 (by decide), eI4 5 (by decide), eI3 5, eI2 5, eI1 5 (by decide)]) (by rw [eI7 6 (by decide), eI6 6 (by decide), eI5 6 (by decide), eI4 6 (by decide), eI3 6, eI2 6, eI1 6 (by decide)]) (by rw [eI7 7 (by decide), eI6 7 (by decide), eI5 7 (by decide), eI4 7 (by decide), eI3 7, eI2 7, eI1 7 (by decide)]) (by rw [eL7 8, eL6 8, eL5 8, eL4 8, eL3 8 (by decide), eL2 8 (by decide), eL1 8]) (by rw [eI7 9 (by decide), eI6 9 (by decide), eI5 9 (by decide), eI4 9 (by decide), eI3 9, eI2 9, eI1 9 (by decide)]) (by rw [eI7 11 (by decide), eI6 11 (by decide), eI5 11 (by decide), eI4 11 (by decide), eI3 11, eI2 11, eI1 11 (by decide)]) (by rw [eI7 19 (by decide), eI6 19 (by decide), eI5 19 (by decide), eI4 19 (by decide), eI3 19, eI2 19, eI1 19 (by decide)]) (by rw [eI7 12 (by decide), c6, eI5 12 (by decide), eI4 12 (by decide), eI3 12, eI2 12, eI1 12 (by decide)]) (by rw [c7, eI6 13 (by decide), eI5 13 (by decide), eI4 13 (by decide), eI3 13, eI2 13, eI1 13 (by decide)]) (by rw [eI7 14 (by decide), eI6 14 (by decide), eI5 14 (by decide), eI4 14 (by decide), eI3 14, eI2 14, c1]) (by rw [eL7 15, eL6 15, eL5 15, eL4 15, eL3 15 (by decide), c2, eL1 15]) (by rw [eL7 16, eL6 16, eL5 16, eL4 16, c3, eL2 16 (by decide), eL1 16]) (by rw [eI7 17 (by decide), eI6 17 (by decide), eI5 17 (by decide), c4, eI3 17, eI2 17, eI1 17 (by decide)]) (by rw [eI7 18 (by decide), eI6 18 (by decide), c5]; exact pk_us) (fun i hi => by rw [eI7 18 (by decide), eI6 18 (by decide), c5, eI4 18 (by decide), eI3 18, eI2 18, eI1 18 (by decide)]; exact pk_un hi)
                exact W.iret hx hb hr (fun t9 ht _ => ⟨rfl, by rw [ht]; exact ⟨(((((((x_F.rf.trans (x_F.of1 o1 (m_A_in (by omega) (by omega)))).trans (x_F.of1 o2 (m_A_in (by omega) (by omega)))).trans (x_F.of1 o3 (m_A_in (by omega) (by omega)))).trans (x_F.of1 o4 (m_A_in (by omega) (by omega)))).trans (x_F.of1 o5 (m_A_in (by omega) (by omega)))).trans (x_F.of1 o6 (m_A_in (by omega) (by omega)))).trans (x_F.of1 o7 (m_A_in (by omega) (by omega)))), _, hW7, by unfold z_state; rw [hm, if_pos rfl, hsc, hcl, hcg]; exact hR7⟩⟩) hF d_M_state_207
              · have hsc : q_sc (nI gi) = true := decide_eq_true (Int32.not_lt.mp e1)
                have hn0 : ¬ d_n X = 0 := fun z => by rw [hsc, decide_eq_true z] at h4; cases h4
                obtain ⟨q, hq⟩ : ∃ q, d_n X = q + 1 := ⟨d_n X - 1, by omega⟩
                refine lv_aload_n hx hb d_M_state_156 rfl (lv_at hl 1 rfl) ?_
                refine lv_dup hx hb d_M_state_157 rfl ?_
                refine fg_M_103_M hx hb hown hts hE hW5.1 rfl d_M_state_158 ?_
                refine x_topi (y := nI (q + 1)) (by rw [eN5.2.1, eN4.2.1, eN3.2.1, eN2.2.1, eN1.2.1, r2, hq]) ?_
                refine lv_iconst (v := 1) hx hb d_M_state_161 (by decide) ?_
                refine lv_isub hx hb d_M_state_162 ?_
                refine x_topi (y := nI q) (nI_pred q) ?_
                refine fp_M_103_M hx hb hown hts hE hW5.1 rfl rfl (Nat.le_of_ble_eq_true rfl) d_M_state_163 (fun H6 k6 g6 o6 => ?_)
                have hF := t_lc (a := m) (i := k6) hF (m_A_in (by omega) (by omega))
                obtain ⟨Y6, q6, hW6⟩ : ∃ Z, Z = (m_md Y5, q, m_de Y5, m_tn Y5, Y5.2.2.2.2) ∧ m_W D cA m Z H6 := ⟨_, rfl, hW5.obj (made := m_md Y5) (pil := q) (dec := m_de Y5) (tok := m_tn Y5) o6 g6⟩
                obtain ⟨eI6, eL6, eN6⟩ := m_sN_k q6
                clear q6
                refine lv_aload_n hx hb d_M_state_166 rfl (lv_at hl 1 rfl) ?_
                refine fg_M_64_M hx hb hown hts hE hW6.1 rfl d_M_state_167 ?_
                refine lv_iload hx hb d_M_state_170 (lv_at hl 0 rfl) ?_
                refine lv_aload_n hx hb d_M_state_172 rfl (lv_at hl 1 rfl) ?_
                refine fg_M_43_M hx hb hown hts hE hW6.1 rfl d_M_state_173 ?_
                refine lv_aload_n hx hb d_M_state_176 rfl (lv_at hl 1 rfl) ?_
                refine fg_M_103_M hx hb hown hts hE hW6.1 rfl d_M_state_177 ?_
                refine x_topi (y := nI q) (by rw [eN6.2.1]) ?_
                refine x_iald hx hb hE.2.2 (show va_at D x_cl (m + 11, .inl (cA 0, 8, .inl (m_i Y6 11))) _ from hW6.2 11 (by decide) (by decide)) 0 rfl (show q < 8 by omega) (by decide) d_M_state_180 ?_
                refine x_topi (y := nI (d_p X q)) (by rw [eI6 11, eI5 11 (by decide), eI4 11 (by decide), eI3 11, eI2 11, eI1 11 (by decide)]; exact (rp q (by omega)).1) ?_
                refine x_iast hx hb hE.2.2 (show va_at D x_cl (m + 18, .inl (cA 0, 36, .inl (m_i Y6 18))) _ from hW6.2 18 (by decide) (by decide)) 0 rfl (by omega) (by decide) d_M_state_181 (fun H7 k7 g7 o7 => ?_)
                have hF := t_lc (a := m + 18) (i := k7) hF (m_A_in (by omega) (by omega))
                obtain ⟨Y7, q7, hW7⟩ : ∃ Z, Z = m_sI Y6 18 (upd (m_i Y6 18) (6 * j + d_k X j) (nI (d_p X q))) ∧ m_W D cA m Z H7 := ⟨_, rfl, hW6.ai (i := 18) (by decide) o7 (f := upd (m_i Y6 18) (6 * j + d_k X j) (nI (d_p X q))) g7⟩
                obtain ⟨eI7, eL7, c7, eN7⟩ := m_sI_k q7
                clear q7
                refine lv_aload_n hx hb d_M_state_182 rfl (lv_at hl 1 rfl) ?_
                refine fg_M_46_M hx hb hown hts hE hW7.1 rfl d_M_state_183 ?_
                refine lv_iload_n hx hb d_M_state_186 rfl (lv_at hl 2 rfl) ?_
                refine lv_iconst (v := 1) hx hb d_M_state_187 (by decide) ?_
                refine x_topi (y := bI true) rfl ?_
                refine x_zast hx hb hE.2.2 (show va_at D x_cl (m + 12, .inl (cA 3, 6, .inl (m_i Y7 12))) _ from hW7.2 12 (by decide) (by decide)) 3 rfl hj (by decide) d_M_state_188 (fun H8 k8 g8 o8 => ?_)
                have hF := t_lc (a := m + 12) (i := k8) hF (m_A_in (by omega) (by omega))
                obtain ⟨Y8, q8, hW8⟩ : ∃ Z, Z = m_sI Y7 12 (upd (m_i Y7 12) (j) (bI true)) ∧ m_W D cA m Z H8 := ⟨_, rfl, hW7.ai (i := 12) (by decide) o8 (f := upd (m_i Y7 12) (j) (bI true)) g8⟩
                obtain ⟨eI8, eL8, c8, eN8⟩ := m_sI_k q8
                clear q8
                refine lv_aload_n hx hb d_M_state_189 rfl (lv_at hl 1 rfl) ?_
                refine fg_M_49_M hx hb hown hts hE hW8.1 rfl d_M_state_190 ?_
                refine lv_iload_n hx hb d_M_state_193 rfl (lv_at hl 2 rfl) ?_
                refine lv_dup2_11 hx hb d_M_state_194 rfl rfl ?_
                refine x_iald hx hb hE.2.2 (show va_at D x_cl (m + 13, .inl (cA 0, 6, .inl (m_i Y8 13))) _ from hW8.2 13 (by decide) (by decide)) 0 rfl hj (by decide) d_M_state_195 ?_
                refine x_topi (y := nI (d_k X j)) (by rw [eI8 13 (by decide), eI7 13 (by decide), eI6 13, eI5 13 (by decide), eI4 13 (by decide), eI3 13, eI2 13, eI1 13 (by decide)]; exact l2) ?_
                refine lv_iconst (v := 1) hx hb d_M_state_196 (by decide) ?_
                refine lv_iadd hx hb d_M_state_197 ?_
                refine x_topi (y := nI (d_k X j + 1)) (nI_succ _).symm ?_
                refine x_iast hx hb hE.2.2 (show va_at D x_cl (m + 13, .inl (cA 0, 6, .inl (m_i Y8 13))) _ from hW8.2 13 (by decide) (by decide)) 0 rfl hj (by decide) d_M_state_198 (fun H9 k9 g9 o9 => ?_)
                have hF := t_lc (a := m + 13) (i := k9) hF (m_A_in (by omega) (by omega))
                obtain ⟨Y9, q9, hW9⟩ : ∃ Z, Z = m_sI Y8 13 (upd (m_i Y8 13) (j) (nI (d_k X j + 1))) ∧ m_W D cA m Z H9 := ⟨_, rfl, hW8.ai (i := 13) (by decide) o9 (f := upd (m_i Y8 13) (j) (nI (d_k X j + 1))) g9⟩
                obtain ⟨eI9, eL9, c9, eN9⟩ := m_sI_k q9
                clear q9
                refine lv_aload_n hx hb d_M_state_199 rfl (lv_at hl 1 rfl) ?_
                refine fg_M_49_M hx hb hown hts hE hW9.1 rfl d_M_state_200 ?_
                refine lv_iload_n hx hb d_M_state_203 rfl (lv_at hl 2 rfl) ?_
                refine x_iald hx hb hE.2.2 (show va_at D x_cl (m + 13, .inl (cA 0, 6, .inl (m_i Y9 13))) _ from hW9.2 13 (by decide) (by decide)) 0 rfl hj (by decide) d_M_state_204 ?_
                refine x_topi (y := nI (d_k X j + 1)) (by rw [c9]; exact pk_us) ?_
                refine lv_iconst (v := 1) hx hb d_M_state_205 (by decide) ?_
                refine lv_isub hx hb d_M_state_206 ?_
                refine x_topi (y := nI (d_k X j)) (nI_pred _) ?_
                refine x_topi (y := q_state X (nI j) (nI gi) w) (by rw [hR9]) ?_
                have hR7 := hR.stmt (s := (gi, x, y, w, some (d_p X q))) (q := q) (Y2 := Y9) hj h5 (Nat.le_refl _) (fun l hl => (hdk l hl).1) (by omega) (by rw [eN9.1, eN8.1, eN7.1, eN6.1, eN5.1, eN4.1, eN3.1, eN2.1, eN1.1]) (by rw [eN9.2.1, eN8.2.1, eN7.2.1, eN6.2.1]) (by rw [eN9.2.2, eN8.2.2, eN7.2.2, eN6.2.2, eN5.2.2, eN4.2.2, eN3.2.2, eN2.2.2, eN1.2.2]) (by rw [eI9 1 (by decide), eI8 1 (by decide), eI7 1 (by decide), eI6 1, eI5 1 (by decide), eI4 1 (by decide), eI3 1, eI2 1, eI1 1 (by decide)]) (by rw [eL9 2, eL8 2, eL7 2, eL6 2, eL5 2, eL4 2, eL3 2 (by decide), eL2 2 (by decide), eL1 2]) (by rw [eI9 3 (by decide), eI8 3 (by decide), eI7 3 (by decide), eI6 3, eI5 3 (by decide), eI4 3 (by decide), eI3 3, eI2 3, eI1 3 (by decide)]) (by rw [eI9 4 (by decide), eI8 4 (by decide), eI7 4 (by decide), eI6 4, eI5 4 (by decide), eI4 4 (by decide), eI3 4, eI2 4, eI1 4 (by decide)]) (by rw [eI9 5 (by decide), eI8 5 (by decide), eI7 5 (by decide), eI6 5, eI5 5 (by decide), eI4 5 (by decide), eI3 5, eI2 5, eI1 5 (by decide)]) (by rw [eI9 6 (by decide), eI8 6 (by decide), eI7 6 (by decide), eI6 6, eI5 6 (by decide), eI4 6 (by decide), eI3 6, eI2 6, eI1 6 (by decide)]) (by rw [eI9 7 (by decide), eI8 7 (by decide), eI7 7 (by decide), eI6 7, eI5 7 (by decide), eI4 7 (by decide), eI3 7, eI2 7, eI1 7 (by decide)]) (by rw [eL9 8, eL8 8, eL7 8, eL6 8, eL5 8, eL4 8, eL3 8 (by decide), eL2 8 (by decide), eL1 8]) (by rw [eI9 9 (by decide), eI8 9 (by decide), eI7 9 (by decide), eI6 9, eI5 9 (by decide), eI4 9 (by decide), eI3 9, eI2 9, eI1 9 (by decide)]) (by rw [eI9 11 (by decide), eI8 11 (by decide), eI7 11 (by decide), eI6 11, eI5 11 (by decide), eI4 11 (by decide), eI3 11, eI2 11, eI1 11 (by decide)]) (by rw [eI9 19 (by decide), eI8 19 (by decide), eI7 19 (by decide), eI6 19, eI5 19 (by decide), eI4 19 (by decide), eI3 19, eI2 19, eI1 19 (by decide)]) (by rw [eI9 12 (by decide), c8, eI7 12 (by decide), eI6 12, eI5 12 (by decide), eI4 12 (by decide), eI3 12, eI2 12, eI1 12 (by decide)]) (by rw [c9, eI8 13 (by decide), eI7 13 (by decide), eI6 13, eI5 13 (by decide), eI4 13 (by decide), eI3 13, eI2 13, eI1 13 (by decide)]) (by rw [eI9 14 (by decide), eI8 14 (by decide), eI7 14 (by decide), eI6 14, eI5 14 (by decide), eI4 14 (by decide), eI3 14, eI2 14, c1]) (by rw [eL9 15, eL8 15, eL7 15, eL6 15, eL5 15, eL4 15, eL3 15 (by decide), c2, eL1 15]) (by rw [eL9 16, eL8 16, eL7 16, eL6 16, eL5 16, eL4 16, c3, eL2 16 (by decide), eL1 16]) (by rw [eI9 17 (by decide), eI8 17 (by decide), eI7 17 (by decide), eI6 17, eI5 17 (by decide), c4, eI3 17, eI2 17, eI1 17 (by decide)]) (by rw [eI9 18 (by decide), eI8 18 (by decide), c7]; exact pk_us) (fun i hi => by rw [eI9 18 (by decide), eI8 18 (by decide), c7, eI6 18, c5, eI4 18 (by decide), eI3 18, eI2 18, eI1 18 (by decide)]; exact (pk_un hi).trans (pk_un hi))
                exact W.iret hx hb hr (fun t9 ht _ => ⟨rfl, by rw [ht]; exact ⟨(((((((((x_F.rf.trans (x_F.of1 o1 (m_A_in (by omega) (by omega)))).trans (x_F.of1 o2 (m_A_in (by omega) (by omega)))).trans (x_F.of1 o3 (m_A_in (by omega) (by omega)))).trans (x_F.of1 o4 (m_A_in (by omega) (by omega)))).trans (x_F.of1 o5 (m_A_in (by omega) (by omega)))).trans (x_F.of1 o6 (m_A_in (by omega) (by omega)))).trans (x_F.of1 o7 (m_A_in (by omega) (by omega)))).trans (x_F.of1 o8 (m_A_in (by omega) (by omega)))).trans (x_F.of1 o9 (m_A_in (by omega) (by omega)))), _, hW9, by unfold z_state; rw [hm, if_pos rfl, hsc, hcl, hcg]; rw [if_pos rfl, if_pos rfl, hq]; exact hR7⟩⟩) hF d_M_state_207
            · have h5 : d_k X j = 6 := (nI_eq (by omega) (by decide) : nI (d_k X j) = nI 6 ↔ _).mp h5
              have hm : q_smk X (nI j) (nI gi) w = false := by unfold q_smk; rw [hb9, hcl, h5]; rfl
              refine lv_bipush (v := (-3)) hx hb d_M_state_92 (by decide) ?_
              refine x_topi (y := q_state X (nI j) (nI gi) w) (by unfold q_state; rw [hb9, if_pos rfl, hcl, h5]; rfl) ?_
              exact W.iret hx hb hr (fun t9 ht _ => ⟨rfl, by rw [ht]; unfold z_state; rw [hm]; exact ⟨x_F.rf, hP⟩⟩) hF d_M_state_94
          · refine lv_iload_n hx hb d_M_state_65 rfl (lv_at hl 3 rfl) ?_
            refine lv_bipush (v := 8) hx hb d_M_state_66 (by decide) ?_
            refine lv_icmp_lt (tgt := 81) hx hb d_M_state_68 (by decide) (fun e1 => ?_) (fun e1 => ?_)
            · exact hj _ _ ⟨(lv_sub hl [1, 2, 3, 4, 5, 6] rfl), rfl, by unfold q_sc; rw [decide_eq_false (Int32.not_le.mpr e1)]; rfl⟩
            · refine lv_aload_n hx hb d_M_state_71 rfl (lv_at hl 1 rfl) ?_
              refine fg_M_103_M hx hb hown hts hE hW.1 rfl d_M_state_72 ?_
              refine x_topi (y := nI (d_n X)) (by rw [← r2]) ?_
              refine lv_if_ne (tgt := 81) hx hb d_M_state_75 (by decide) (fun e2 => ?_) (fun e2 => ?_)
              · exact hj _ _ ⟨(lv_sub hl [1, 2, 3, 4, 5, 6] rfl), rfl, by rw [show decide (d_n X = 0) = false from decide_eq_false (fun z => e2 (by rw [z]; rfl))]; simp⟩
              · have e2 : d_n X = 0 := (nI_eq (by omega) (by decide) : nI (d_n X) = nI 0 ↔ _).mp e2
                have hb9 : q_sb X k g w = false := by unfold q_sb; rw [hok9, show q_sc g = true from decide_eq_true (Int32.not_lt.mp e1), decide_eq_true e2]; rfl
                have hm : q_smk X k g w = false := by unfold q_smk; rw [hb9]; rfl
                refine lv_bipush (v := (-2)) hx hb d_M_state_78 (by decide) ?_
                refine x_topi (y := q_state X k g w) (by unfold q_state; rw [hb9]; rfl) ?_
                exact W.iret hx hb hr (fun t9 ht _ => ⟨rfl, by rw [ht]; unfold z_state; rw [hm]; exact ⟨x_F.rf, hP⟩⟩) hF d_M_state_80
  · refine lv_iload hx hb d_M_state_0 (lv_at hl 5 rfl) ?_
    refine lv_iconst (v := (-1)) hx hb d_M_state_2 (by decide) ?_
    refine lv_icmp_eq (tgt := 36) hx hb d_M_state_3 (by decide) (fun e1 => ?_) (fun e1 => ?_)
    · refine lv_iconst (v := 1) hx hb d_M_state_36 (by decide) ?_
      refine lv_goto (tgt := 41) hx hb d_M_state_37 (by decide) ?_
      refine x_topi (y := bI (q_may k w)) (by rw [q_may_1 e1]; rfl) ?_
      exact hj _ _ ⟨(lv_sub hl [0, 1, 2, 3, 4, 5] rfl), rfl⟩
    · refine lv_iload_n hx hb d_M_state_6 rfl (lv_at hl 1 rfl) ?_
      refine lv_iconst (v := 5) hx hb d_M_state_7 (by decide) ?_
      refine lv_icmp_ne (tgt := 40) hx hb d_M_state_8 (by decide) (fun e2 => ?_) (fun e2 => ?_)
      · refine lv_iconst (v := 0) hx hb d_M_state_40 (by decide) ?_
        refine x_topi (y := bI (q_may k w)) (by rw [q_may_2 e2 e1]; rfl) ?_
        exact hj _ _ ⟨(lv_sub hl [0, 1, 2, 3, 4, 5] rfl), rfl⟩
      · refine lv_iload hx hb d_M_state_11 (lv_at hl 5 rfl) ?_
        refine lv_bipush (v := 9) hx hb d_M_state_13 (by decide) ?_
        refine x_cp (k_M_106 (As := [.int w, .int 9]) (rest := []) hx hb hml hown hts (c_M_within l D cA w 9) (x_preS hE trivial) rfl hl.1 rfl (Nat.le_of_ble_eq_true rfl) d_M_state_15 (by decide) ⟨Nat.zero_le _, Nat.zero_le _⟩) ?_
        refine lv_if_ne (tgt := 36) hx hb d_M_state_18 (by decide) (fun e3 => ?_) (fun e3 => ?_)
        · refine lv_iconst (v := 1) hx hb d_M_state_36 (by decide) ?_
          refine lv_goto (tgt := 41) hx hb d_M_state_37 (by decide) ?_
          refine x_topi (y := bI (q_may k w)) (by rw [q_may_3 e2 (of_decide_eq_true (bI_n0.mp e3))]; rfl) ?_
          exact hj _ _ ⟨(lv_sub hl [0, 1, 2, 3, 4, 5] rfl), rfl⟩
        · refine lv_iload hx hb d_M_state_21 (lv_at hl 5 rfl) ?_
          refine lv_bipush (v := 100) hx hb d_M_state_23 (by decide) ?_
          refine lv_icmp_lt (tgt := 40) hx hb d_M_state_25 (by decide) (fun e4 => ?_) (fun e4 => ?_)
          · refine lv_iconst (v := 0) hx hb d_M_state_40 (by decide) ?_
            refine x_topi (y := bI (q_may k w)) (by rw [q_may_4 e2 e1 (of_decide_eq_false (bI_0.mp e3)) (fun z => absurd e4 (Int32.not_lt.mpr z.1))]; rfl) ?_
            exact hj _ _ ⟨(lv_sub hl [0, 1, 2, 3, 4, 5] rfl), rfl⟩
          · refine lv_iload hx hb d_M_state_28 (lv_at hl 5 rfl) ?_
            refine lv_sipush (v := 199) hx hb d_M_state_30 (by decide) ?_
            refine lv_icmp_gt (tgt := 40) hx hb d_M_state_33 (by decide) (fun e5 => ?_) (fun e5 => ?_)
            · refine lv_iconst (v := 0) hx hb d_M_state_40 (by decide) ?_
              refine x_topi (y := bI (q_may k w)) (by rw [q_may_4 e2 e1 (of_decide_eq_false (bI_0.mp e3)) (fun z => absurd e5 (Int32.not_lt.mpr z.2))]; rfl) ?_
              exact hj _ _ ⟨(lv_sub hl [0, 1, 2, 3, 4, 5] rfl), rfl⟩
            · refine lv_iconst (v := 1) hx hb d_M_state_36 (by decide) ?_
              refine lv_goto (tgt := 41) hx hb d_M_state_37 (by decide) ?_
              refine x_topi (y := bI (q_may k w)) (by rw [q_may_5 e2 ⟨Int32.not_lt.mp e4, Int32.not_lt.mp e5⟩]; rfl) ?_
              exact hj _ _ ⟨(lv_sub hl [0, 1, 2, 3, 4, 5] rfl), rfl⟩
