/-! conditions joined, in the model -/
theorem m_sI_self (Y : m_T) (i : Nat) : m_sI Y i (m_i Y i) = Y := by
  have e : va_up (m_i Y) i (m_i Y i) = m_i Y := by
    funext j; by_cases h : j = i
    · subst h; exact va_up_self _ _ _
    · exact va_up_ne _ _ h
  show (Y.1, Y.2.1, Y.2.2.1, Y.2.2.2.1, va_up (m_i Y) i (m_i Y i), m_l Y) = Y
  rw [e]
theorem m_sI_sI (Y : m_T) (i : Nat) (f g : Nat → Int32) : m_sI (m_sI Y i f) i g = m_sI Y i g := by
  have e : va_up (va_up (m_i Y) i f) i g = va_up (m_i Y) i g := by
    funext j; by_cases h : j = i
    · subst h; rw [va_up_self, va_up_self]
    · rw [va_up_ne _ _ h, va_up_ne _ _ h, va_up_ne _ _ h]
  show (Y.1, Y.2.1, Y.2.2.1, Y.2.2.2.1, va_up (va_up (m_i Y) i f) i g, m_l Y) = _
  rw [e]; rfl
theorem q_jch_mem {X : d_T} {n j : Nat} (h : j < n) : d_p X (d_n X - n + j) ∈ q_jch X n := List.mem_of_getElem? (q_jch_at h)
set_option maxHeartbeats 4000000 in
set_option maxRecDepth 100000 in
theorem c_M_join (l : Launch) (D : va_G) (cA : Nat → ClassId) (m made : Nat) (N : n_T) (X : d_T) (hmd : made < 512) (hok : n_ok made N) (hdo : d_ok made X) (ad : Nat) (k n : Int32) : Met l y_M_join [.code y_M_join b_M_join 5 (some .int)] (x_rm 1 0 0) (x_P D cA [.ref m, .int k, .int n] (fun H => mm_W D cA m made N X H)) (x_Q (some (.int (q_join N X k n))) (fun H H1 => x_F (m_A m) H H1 ∧ mm_W D cA m (z_joinM made N X k n) (z_joinN made N X k n ad) (z_joinX made N X k n) H1)) 0 0 (m_A m) := by
  refine x_met (own := "DecisionLayersModel") (by decide) rfl (Nat.le_of_ble_eq_true rfl) ?_
  intro pp ee s mm below mt cd ls hx hb hr hlk hnm hml hown hts hE hP hl
  have hl : lv_has ls 5 [(0, .ref m), (1, .int k), (2, .int n)] := hl
  obtain ⟨Y, hW, hR⟩ := id hP
  obtain ⟨r1, r2, r3, r4, r5, rN, rp, ri, rl, rs⟩ := id hR
  have hF : ∀ q ∈ ([] : List Loc), m_A m q.base := t_nil
  obtain ⟨hn8, hpm, -⟩ := id hdo
  refine lv_iload_n hx hb d_M_join_0 rfl (lv_at hl 1 rfl) ?_
  refine lv_iconst (v := 2) hx hb d_M_join_1 (by decide) ?_
  refine x_cp (k_M_106 (As := [.int k, .int 2]) (rest := []) hx hb hml hown hts (c_M_within l D cA k 2) (x_preS hE trivial) rfl hl.1 rfl (Nat.le_of_ble_eq_true rfl) d_M_join_2 (by decide) ⟨Nat.zero_le _, Nat.zero_le _⟩) ?_
  refine lv_if_eq (tgt := 35) hx hb d_M_join_5 (by decide) (fun h1 => ?_) (fun h1 => ?_)
  · have h1 := bI_0.mp h1
    have hk : q_jok X k n = false := by unfold q_jok; rw [h1]; rfl
    have hm : q_jmk N X k n = false := by unfold q_jmk; rw [hk]; rfl
    refine lv_bipush (v := (-2)) hx hb d_M_join_35 (by decide) ?_
    refine x_topi (y := q_join N X k n) (by unfold q_join; rw [hk]; rfl) ?_
    exact W.iret hx hb hr (fun t9 ht _ => ⟨rfl, by rw [ht]; unfold z_joinN z_joinX z_joinM; rw [hm]; exact ⟨x_F.rf, hP⟩⟩) hF d_M_join_37
  · refine lv_iload_n hx hb d_M_join_8 rfl (lv_at hl 2 rfl) ?_
    refine lv_bipush (v := 8) hx hb d_M_join_9 (by decide) ?_
    refine x_cp (k_M_106 (As := [.int n, .int 8]) (rest := []) hx hb hml hown hts (c_M_within l D cA n 8) (x_preS hE trivial) rfl hl.1 rfl (Nat.le_of_ble_eq_true rfl) d_M_join_11 (by decide) ⟨Nat.zero_le _, Nat.zero_le _⟩) ?_
    refine lv_if_eq (tgt := 35) hx hb d_M_join_14 (by decide) (fun h2 => ?_) (fun h2 => ?_)
    · have h2 := of_decide_eq_false (bI_0.mp h2)
      have hk : q_jok X k n = false := by unfold q_jok; rw [show decide (0 ≤ n ∧ n ≤ nI (d_n X)) = false from decide_eq_false (fun z => h2 ⟨z.1, Int32.le_trans z.2 ((nI_leI (by omega) (by decide) : nI (d_n X) ≤ nI 8 ↔ _).mpr hn8)⟩)]; simp
      have hm : q_jmk N X k n = false := by unfold q_jmk; rw [hk]; rfl
      refine lv_bipush (v := (-2)) hx hb d_M_join_35 (by decide) ?_
      refine x_topi (y := q_join N X k n) (by unfold q_join; rw [hk]; rfl) ?_
      exact W.iret hx hb hr (fun t9 ht _ => ⟨rfl, by rw [ht]; unfold z_joinN z_joinX z_joinM; rw [hm]; exact ⟨x_F.rf, hP⟩⟩) hF d_M_join_37
    · have hd1 := bI_n0.mp h1
      have h1 := of_decide_eq_true hd1
      have h2 := of_decide_eq_true (bI_n0.mp h2)
      refine x_join 27 (fun ls st => lv_has ls 5 [(0, .ref m), (1, .int k), (2, .int n)] ∧ st = [] ∧ (decide (k = 2) && decide (¬ n = 1)) = false) ?_ (fun hj => ?_)
      · intro ls st hj
        obtain ⟨hl, rfl, h37⟩ := hj
        refine lv_iload_n hx hb d_M_join_27 rfl (lv_at hl 2 rfl) ?_
        refine lv_aload_n hx hb d_M_join_28 rfl (lv_at hl 0 rfl) ?_
        refine fg_M_103_M hx hb hown hts hE hW.1 rfl d_M_join_29 ?_
        refine x_topi (y := nI (d_n X)) (by rw [← r2]) ?_
        refine lv_icmp_le (tgt := 38) hx hb d_M_join_32 (by decide) (fun h4 => ?_) (fun h4 => ?_)
        · have hd2 : decide (0 ≤ n ∧ n ≤ nI (d_n X)) = true := decide_eq_true ⟨h2.1, h4⟩
          have hk : q_jok X k n = true := by unfold q_jok; rw [hd1, hd2, h37]; rfl
          refine x_join 54 (fun ls st => lv_has ls 5 [(0, .ref m), (1, .int k), (2, .int n)] ∧ st = [] ∧ q_jf X n = false) ?_ (fun hj => ?_)
          · intro ls st hj
            obtain ⟨hl, rfl, h53⟩ := hj
            obtain ⟨kk, hkk, rfl⟩ := nI_of (Int32.not_lt.mpr h1.1)
            obtain ⟨nn, hnn, rfl⟩ := nI_of (Int32.not_lt.mpr h2.1)
            have hkk : kk ≤ 2 := n_ge (k := kk) (i := 2) h1.2 hkk (by decide)
            have hnn : nn ≤ d_n X := n_ge h4 hnn (by omega)
            have hck : (nI kk).toNatClampNeg = kk := nI_clamp (by omega)
            have hcn : (nI nn).toNatClampNeg = nn := nI_clamp (by omega)
            obtain ⟨a, ha⟩ : ∃ a, d_n X - nn = a := ⟨_, rfl⟩
            have hmx : d_mx (fun k => n_dp N (d_p X k)) a nn ≤ 5 := d_mx_le (fun k hk => (hok _ (hpm _ (by omega))).2.2.1)
            have hjd : q_jd N X nn = 1 + d_mx (fun k => n_dp N (d_p X k)) a nn := by unfold q_jd; rw [ha]
            refine lv_iconst (v := 0) hx hb d_M_join_54 (by decide) ?_
            refine x_topi (y := nI (d_mx (fun k => n_dp N (d_p X k)) a 0)) rfl ?_
            refine lv_istore_n (lv' := [(3, .int (nI (d_mx (fun k => n_dp N (d_p X k)) a 0))), (0, .ref m), (1, .int (nI kk)), (2, .int (nI nn))]) hx hb d_M_join_55 rfl hl (by decide) rfl (fun ls hl => ?_)
            refine lv_aload_n hx hb d_M_join_56 rfl (lv_at hl 1 rfl) ?_
            refine fg_M_103_M hx hb hown hts hE hW.1 rfl d_M_join_57 ?_
            refine x_topi (y := nI (d_n X)) (by rw [← r2]) ?_
            refine lv_iload_n hx hb d_M_join_60 rfl (lv_at hl 3 rfl) ?_
            refine lv_isub hx hb d_M_join_61 ?_
            refine x_topi (y := nI (a + 0)) (by rw [pk_sub hnn, ha]; rfl) ?_
            refine lv_istore (lv' := [(4, .int (nI (a + 0))), (3, .int (nI (d_mx (fun k => n_dp N (d_p X k)) a 0))), (0, .ref m), (1, .int (nI kk)), (2, .int (nI nn))]) hx hb d_M_join_62 hl (by decide) rfl (fun ls hl => ?_)
            refine x_loop (I := fun r ls => ∃ t, t + r = nn ∧ lv_has ls 5 [(4, .int (nI (a + t))), (3, .int (nI (d_mx (fun k => n_dp N (d_p X k)) a t))), (0, .ref m), (1, .int (nI kk)), (2, .int (nI nn))]) (fun r ls ih h => ?_) (nn) ⟨0, by omega, (lv_sub hl [0, 1, 2, 3, 4] rfl)⟩
            obtain ⟨t, htr, hl⟩ := h
            refine lv_iload hx hb d_M_join_64 (lv_at hl 0 rfl) ?_
            refine lv_aload_n hx hb d_M_join_66 rfl (lv_at hl 2 rfl) ?_
            refine fg_M_103_M hx hb hown hts hE hW.1 rfl d_M_join_67 ?_
            refine x_topi (y := nI (d_n X)) (by rw [← r2]) ?_
            refine lv_icmp_ge (tgt := 112) hx hb d_M_join_70 (by decide) (fun g1 => ?_) (fun g1 => ?_)
            · have g1 := n_ge g1 (by omega) (by omega)
              obtain rfl : t = nn := by omega
              refine lv_iload_n hx hb d_M_join_112 rfl (lv_at hl 1 rfl) ?_
              refine lv_iconst (v := 5) hx hb d_M_join_113 (by decide) ?_
              refine lv_icmp_ne (tgt := 120) hx hb d_M_join_114 (by decide) (fun h5 => ?_) (fun h5 => ?_)
              · have h5 : ¬ d_mx (fun k => n_dp N (d_p X k)) a t = 5 := fun z => h5 (by rw [z]; rfl)
                have h5 : q_jd N X t ≤ 5 := by omega
                have hm : q_jmk N X (nI kk) (nI t) = true := by unfold q_jmk; rw [hk, h53, hcn, decide_eq_true h5]; rfl
                have ha8 : a < 8 := by
                  rcases Nat.eq_zero_or_pos t with z | z
                  · subst z
                    have h9 : ¬ 8 ≤ d_n X := fun y => by unfold q_jf at h53; rw [decide_eq_true (show nI 0 = 0 from rfl), decide_eq_true y] at h53; cases h53
                    omega
                  · omega
                refine lv_aload_n hx hb d_M_join_120 rfl (lv_at hl 2 rfl) ?_
                refine fg_M_103_M hx hb hown hts hE hW.1 rfl d_M_join_121 ?_
                refine x_topi (y := nI (d_n X)) (by rw [← r2]) ?_
                refine lv_iload_n hx hb d_M_join_124 rfl (lv_at hl 4 rfl) ?_
                refine lv_isub hx hb d_M_join_125 ?_
                refine x_topi (y := nI (a + 0)) (by rw [pk_sub hnn, ha]; rfl) ?_
                refine lv_istore (lv' := [(4, .int (nI (a + 0))), (3, .int (nI (d_mx (fun k => n_dp N (d_p X k)) a t))), (0, .ref m), (1, .int (nI kk)), (2, .int (nI t))]) hx hb d_M_join_126 hl (by decide) rfl (fun ls hl => ?_)
                refine x_loopH (I := fun r8 ls H locs => ∃ (u : Nat) (g : Nat → Int32), u + r8 = t ∧ (∀ j, j < u → g (d_p X (a + j)) = nI made) ∧ (∀ c, (∀ j, j < u → c ≠ d_p X (a + j)) → g c = m_i Y 9 c) ∧ lv_has ls 5 [(4, .int (nI (a + u))), (3, .int (nI (d_mx (fun k => n_dp N (d_p X k)) a t))), (0, .ref m), (1, .int (nI kk)), (2, .int (nI t))] ∧ m_W D cA m (m_sI Y 9 g) H ∧ x_F (m_A m) s.heap H ∧ ∀ q ∈ locs, m_A m q.base) (fun r8 ls H locs ih2 h => ?_) (t) ⟨0, m_i Y 9, by omega, fun j hj => absurd hj (Nat.not_lt_zero j), fun c _ => rfl, (lv_sub hl [0, 1, 2, 3, 4] rfl), by rw [m_sI_self]; exact hW, x_F.rf, hF⟩
                obtain ⟨u, g, hur, hg1, hg2, hl, hW, hFr, hF⟩ := h
                refine lv_iload hx hb d_M_join_128 (lv_at hl 0 rfl) ?_
                refine lv_aload_n hx hb d_M_join_130 rfl (lv_at hl 2 rfl) ?_
                refine fg_M_103_M hx hb hown hts hE hW.1 rfl d_M_join_131 ?_
                refine x_topi (y := nI (d_n X)) (by exact congrArg nI r2) ?_
                refine lv_icmp_ge (tgt := 159) hx hb d_M_join_134 (by decide) (fun g2 => ?_) (fun g2 => ?_)
                · have g2 := n_ge g2 (by omega) (by omega)
                  obtain rfl : u = t := by omega
                  refine lv_aload_n hx hb d_M_join_159 rfl (lv_at hl 2 rfl) ?_
                  refine lv_dup hx hb d_M_join_160 rfl ?_
                  refine fg_M_103_M hx hb hown hts hE hW.1 rfl d_M_join_161 ?_
                  refine x_topi (y := nI (d_n X)) (by exact congrArg nI r2) ?_
                  refine lv_iload_n hx hb d_M_join_164 rfl (lv_at hl 4 rfl) ?_
                  refine lv_isub hx hb d_M_join_165 ?_
                  refine x_topi (y := nI a) (by rw [pk_sub hnn, ha]) ?_
                  refine fp_M_103_M hx hb hown hts hE hW.1 rfl rfl (Nat.le_of_ble_eq_true rfl) d_M_join_166 (fun H1 k1 g1 o1 => ?_)
                  have hF := t_lc (a := m) (i := k1) hF (m_A_in (by omega) (by omega))
                  have hW1 := hW.obj (made := m_md Y) (pil := a) (dec := m_de Y) (tok := m_tn Y) o1 g1
                  refine lv_aload_n hx hb d_M_join_169 rfl (lv_at hl 2 rfl) ?_
                  refine fg_M_17_M hx hb hown hts hE hW1.1 rfl d_M_join_170 ?_
                  refine lv_aload_n hx hb d_M_join_173 rfl (lv_at hl 2 rfl) ?_
                  refine fg_M_100_M hx hb hown hts hE hW1.1 rfl d_M_join_174 ?_
                  refine x_topi (y := nI made) (congrArg nI r1) ?_
                  refine lv_iload_n hx hb d_M_join_177 rfl (lv_at hl 3 rfl) ?_
                  refine lv_i2b hx hb d_M_join_178 rfl ?_
                  refine x_topi (y := nI kk) (b_nar kk (by omega)) ?_
                  refine x_bast hx hb hE.2.2 (show va_at D x_cl (m + 3, .inl (cA 2, 520, .inl (m_i (m_md Y, a, m_de Y, m_tn Y, (m_sI Y 9 g).2.2.2.2) 3))) _ from hW1.2 3 (by decide) (by decide)) 2 rfl (by omega) (by decide) (b_nar kk (by omega)) d_M_join_179 (fun H2 k2 g2x o2 => ?_)
                  have hF := t_lc (a := m + 3) (i := k2) hF (m_A_in (by omega) (by omega))
                  have hW2 := hW1.ai (i := 3) (by decide) o2 (f := upd (m_i Y 3) made (nI kk)) g2x
                  refine lv_aload_n hx hb d_M_join_180 rfl (lv_at hl 2 rfl) ?_
                  refine fg_M_30_M hx hb hown hts hE hW2.1 rfl d_M_join_181 ?_
                  refine lv_aload_n hx hb d_M_join_184 rfl (lv_at hl 2 rfl) ?_
                  refine fg_M_100_M hx hb hown hts hE hW2.1 rfl d_M_join_185 ?_
                  refine x_topi (y := nI made) (congrArg nI r1) ?_
                  refine lv_iload_n hx hb d_M_join_188 rfl (lv_at hl 1 rfl) ?_
                  refine lv_iconst (v := 1) hx hb d_M_join_189 (by decide) ?_
                  refine lv_iadd hx hb d_M_join_190 ?_
                  refine lv_i2b hx hb d_M_join_191 rfl ?_
                  refine x_topi (y := nI (q_jd N X u)) (by rw [← nI_succ, b_nar _ (by omega), hjd, Nat.add_comm]) ?_
                  refine x_bast hx hb hE.2.2 (show va_at D x_cl (m + 7, .inl (cA 2, 520, .inl (m_i (m_sI (m_md Y, a, m_de Y, m_tn Y, (m_sI Y 9 g).2.2.2.2) 3 (upd (m_i Y 3) made (nI kk))) 7))) _ from hW2.2 7 (by decide) (by decide)) 2 rfl (by omega) (by decide) (b_nar _ (by omega)) d_M_join_192 (fun H3 k3 g3 o3 => ?_)
                  have hF := t_lc (a := m + 7) (i := k3) hF (m_A_in (by omega) (by omega))
                  have hW3 := hW2.ai (i := 7) (by decide) o3 (f := upd (m_i Y 7) made (nI (q_jd N X u))) g3
                  refine lv_aload_n hx hb d_M_join_193 rfl (lv_at hl 2 rfl) ?_
                  refine x_cw (k_M_110 (As := []) (rest := []) hx hb hml hown hts (c_M_put l D cA m (m_sI (m_sI (m_md Y, a, m_de Y, m_tn Y, (m_sI Y 9 g).2.2.2.2) 3 (upd (m_i Y 3) made (nI kk))) 7 (upd (m_i Y 7) made (nI (q_jd N X u)))) (by show m_md Y < 520; omega) (by show a < 8; omega)) (x_preV hE hW3.1 rfl rfl hW3) rfl hl.1 rfl (Nat.le_of_ble_eq_true rfl) d_M_join_194 (by decide) ⟨Nat.zero_le _, Nat.zero_le _⟩) (fun H4 L4 p4 f4 => ?_)
                  have hF := t_lL hF (fun q h => (fun q h => h) q.base (f4 q h))
                  obtain ⟨e4, hW4⟩ := p4
                  have hR7 := hR.push (n := u) (kd := kk) (op := 0) (ky := 0) (mk := 0) (dp := q_jd N X u) (ad := ad + 1) (tt := 0) (ch := q_jch X u) (Y2 := (m_md Y + 1, a + 1, m_de Y, m_tn Y, va_up (va_up (m_i (m_sI (m_sI (m_md Y, a, m_de Y, m_tn Y, (m_sI Y 9 g).2.2.2.2) 3 (upd (m_i Y 3) made (nI kk))) 7 (upd (m_i Y 7) made (nI (q_jd N X u))))) 9 (upd g (m_md Y) (-1))) 11 (upd (m_i Y 11) a (nI (m_md Y))), m_l Y)) hok hdo (by omega) hnn (fun c hc => q_jch_in hc) (fun z => by omega) (fun z => by
  subst z
  rw [decide_eq_true (show nI 2 = 2 from rfl), Bool.true_and] at h37
  have h37 : u = 1 := (nI_eq (by omega) (by decide) : nI u = nI 1 ↔ _).mp (Decidable.not_not.mp (of_decide_eq_false h37))
  subst h37; exact ⟨_, rfl⟩) (by rw [r1]) (by rw [ha]) rfl rfl rfl rfl rfl rfl rfl rfl rfl rfl rfl pk_us (fun i hi => pk_un (by omega)) (fun z => by omega) (fun i hi => ⟨rfl, rfl, rfl, rfl⟩) pk_us (fun i hi => pk_un (by omega)) (by rw [r1]; exact pk_us) (fun c hc => by
  rw [r1]
  refine (pk_un (by omega)).trans ?_
  by_cases hm9 : c ∈ q_jch X u
  · rw [if_pos hm9]; obtain ⟨j, hj, e⟩ := q_jch_in hm9; rw [e, ha]; exact hg1 j hj
  · rw [if_neg hm9]; exact hg2 c (fun j hj e => hm9 (by rw [e, ← ha]; exact q_jch_mem hj))) (by rw [ha, r1]; exact pk_us) (fun k hk => by rw [r1]; exact pk_un (by omega))
                  refine x_topi (y := q_join N X (nI kk) (nI u)) (by unfold q_join; rw [hk, if_pos rfl, h53, if_neg (by decide), hcn, if_pos h5, ha]; rfl) ?_
                  exact W.iret hx hb hr (fun t9 ht _ => ⟨rfl, by rw [ht]; exact ⟨(((hFr.trans (x_F.of1 o1 (m_A_in (by omega) (by omega)))).trans (x_F.of1 o2 (m_A_in (by omega) (by omega)))).trans (x_F.of1 o3 (m_A_in (by omega) (by omega)))).trans e4, _, hW4, by unfold z_joinM z_joinN z_joinX; rw [hm, if_pos rfl, if_pos rfl, if_pos rfl, hck, hcn]; exact hR7⟩⟩) hF d_M_join_197
                · have g2 := n_lt g2 (by omega) (by omega)
                  have him := hpm _ g2
                  refine lv_aload_n hx hb d_M_join_137 rfl (lv_at hl 2 rfl) ?_
                  refine fg_M_36_M hx hb hown hts hE hW.1 rfl d_M_join_138 ?_
                  refine lv_aload_n hx hb d_M_join_141 rfl (lv_at hl 2 rfl) ?_
                  refine fg_M_43_M hx hb hown hts hE hW.1 rfl d_M_join_142 ?_
                  refine lv_iload hx hb d_M_join_145 (lv_at hl 0 rfl) ?_
                  refine x_iald hx hb hE.2.2 (show va_at D x_cl (m + 11, .inl (cA 0, 8, .inl (m_i (m_sI Y 9 g) 11))) _ from hW.2 11 (by decide) (by decide)) 0 rfl (by omega) (by decide) d_M_join_147 ?_
                  refine x_topi (y := nI (d_p X (a + u))) (by exact (rp _ (by omega)).1) ?_
                  refine lv_aload_n hx hb d_M_join_148 rfl (lv_at hl 2 rfl) ?_
                  refine fg_M_100_M hx hb hown hts hE hW.1 rfl d_M_join_149 ?_
                  refine x_topi (y := nI made) (congrArg nI r1) ?_
                  refine x_iast hx hb hE.2.2 (show va_at D x_cl (m + 9, .inl (cA 0, 520, .inl (m_i (m_sI Y 9 g) 9))) _ from hW.2 9 (by decide) (by decide)) 0 rfl (by omega) (by decide) d_M_join_152 (fun H1 k1 g1 o1 => ?_)
                  have hF := t_lc (a := m + 9) (i := k1) hF (m_A_in (by omega) (by omega))
                  have hW1 := hW.ai (i := 9) (by decide) o1 (f := upd g (d_p X (a + u)) (nI made)) g1
                  rw [m_sI_sI] at hW1
                  refine lv_iinc (k := 0) (v := nI ((a + u) + 1)) (lv' := [(4, .int (nI ((a + u) + 1))), (3, .int (nI (d_mx (fun k => n_dp N (d_p X k)) a t))), (0, .ref m), (1, .int (nI kk)), (2, .int (nI t))]) hx hb d_M_join_153 hl rfl (x_inc _) (by decide) rfl (fun ls hl => ?_)
                  refine lv_goto (tgt := 128) hx hb d_M_join_156 (by decide) ?_
                  exact ih2 (r8 - 1) _ _ _ (by omega) ⟨u + 1, _, by omega, fun j hj => by
                    by_cases e : j = u
                    · rw [e, pk_us]
                    · rw [pk_un (fun z => e (by have := ri _ _ (by omega) (by omega) z; omega))]; exact hg1 j (by omega), fun c hc => by
                    rw [pk_un (hc u (Nat.lt_succ_self u))]; exact hg2 c (fun j hj => hc j (by omega)), (lv_sub hl [0, 1, 2, 3, 4] rfl), hW1, hFr.trans (x_F.of1 o1 (m_A_in (by omega) (by omega))), hF⟩
              · have h5 : d_mx (fun k => n_dp N (d_p X k)) a t = 5 := (nI_eq (by omega) (by decide) : nI (d_mx (fun k => n_dp N (d_p X k)) a t) = nI 5 ↔ _).mp h5
                have hm : q_jmk N X (nI kk) (nI t) = false := by unfold q_jmk; rw [hcn, decide_eq_false (show ¬ q_jd N X t ≤ 5 by omega)]; simp
                refine lv_bipush (v := (-4)) hx hb d_M_join_117 (by decide) ?_
                refine x_topi (y := q_join N X (nI kk) (nI t)) (by unfold q_join; rw [hk, if_pos rfl, h53, if_neg (by decide), hcn, if_neg (show ¬ q_jd N X t ≤ 5 by omega)]) ?_
                exact W.iret hx hb hr (fun t9 ht _ => ⟨rfl, by rw [ht]; unfold z_joinN z_joinX z_joinM; rw [hm]; exact ⟨x_F.rf, hP⟩⟩) hF d_M_join_119
            · have g1 := n_lt g1 (by omega) (by omega)
              have him := hpm _ g1
              refine lv_aload_n hx hb d_M_join_73 rfl (lv_at hl 2 rfl) ?_
              refine fg_M_30_M hx hb hown hts hE hW.1 rfl d_M_join_74 ?_
              refine lv_aload_n hx hb d_M_join_77 rfl (lv_at hl 2 rfl) ?_
              refine fg_M_43_M hx hb hown hts hE hW.1 rfl d_M_join_78 ?_
              refine lv_iload hx hb d_M_join_81 (lv_at hl 0 rfl) ?_
              refine x_iald hx hb hE.2.2 (show va_at D x_cl (m + 11, .inl (cA 0, 8, .inl (m_i Y 11))) _ from hW.2 11 (by decide) (by decide)) 0 rfl (by omega) (by decide) d_M_join_83 ?_
              refine x_topi (y := nI (d_p X (a + t))) (rp _ (by omega)).1 ?_
              refine x_bald hx hb hE.2.2 (show va_at D x_cl (m + 7, .inl (cA 2, 520, .inl (m_i Y 7))) _ from hW.2 7 (by decide) (by decide)) 2 rfl (by omega) (by decide) d_M_join_84 ?_
              refine x_topi (y := nI (n_dp N (d_p X (a + t)))) (rN _ him).2.2.1 ?_
              refine lv_iload_n hx hb d_M_join_85 rfl (lv_at hl 1 rfl) ?_
              refine lv_icmp_le (tgt := 104) hx hb d_M_join_86 (by decide) (fun z1 => ?_) (fun z1 => ?_)
              · have hdp5 := (hok _ him).2.2.1
                have hmt : d_mx (fun k => n_dp N (d_p X k)) a t ≤ 5 := d_mx_le (fun k hk => (hok _ (hpm _ (by omega))).2.2.1)
                have z1 := n_ge z1 (by omega) (by omega)
                refine lv_iload_n hx hb d_M_join_104 rfl (lv_at hl 1 rfl) ?_
                refine x_topi (y := nI (d_mx (fun k => n_dp N (d_p X k)) a (t + 1))) (by exact congrArg nI (Nat.max_eq_left z1).symm) ?_
                refine lv_istore_n (lv' := [(3, .int (nI (d_mx (fun k => n_dp N (d_p X k)) a (t + 1)))), (4, .int (nI (a + t))), (0, .ref m), (1, .int (nI kk)), (2, .int (nI nn))]) hx hb d_M_join_105 rfl hl (by decide) rfl (fun ls hl => ?_)
                refine lv_iinc (k := 1) (v := nI ((a + t) + 1)) (lv' := [(4, .int (nI ((a + t) + 1))), (3, .int (nI (d_mx (fun k => n_dp N (d_p X k)) a (t + 1)))), (0, .ref m), (1, .int (nI kk)), (2, .int (nI nn))]) hx hb d_M_join_106 hl rfl (x_inc _) (by decide) rfl (fun ls hl => ?_)
                refine lv_goto (tgt := 64) hx hb d_M_join_109 (by decide) ?_
                exact ih (r - 1) _ (by omega) ⟨t + 1, by omega, (lv_sub hl [0, 1, 2, 3, 4] rfl)⟩
              · have hdp5 := (hok _ him).2.2.1
                have hmt : d_mx (fun k => n_dp N (d_p X k)) a t ≤ 5 := d_mx_le (fun k hk => (hok _ (hpm _ (by omega))).2.2.1)
                have z1 := n_lt z1 (by omega) (by omega)
                refine lv_aload_n hx hb d_M_join_89 rfl (lv_at hl 2 rfl) ?_
                refine fg_M_30_M hx hb hown hts hE hW.1 rfl d_M_join_90 ?_
                refine lv_aload_n hx hb d_M_join_93 rfl (lv_at hl 2 rfl) ?_
                refine fg_M_43_M hx hb hown hts hE hW.1 rfl d_M_join_94 ?_
                refine lv_iload hx hb d_M_join_97 (lv_at hl 0 rfl) ?_
                refine x_iald hx hb hE.2.2 (show va_at D x_cl (m + 11, .inl (cA 0, 8, .inl (m_i Y 11))) _ from hW.2 11 (by decide) (by decide)) 0 rfl (by omega) (by decide) d_M_join_99 ?_
                refine x_topi (y := nI (d_p X (a + t))) (rp _ (by omega)).1 ?_
                refine x_bald hx hb hE.2.2 (show va_at D x_cl (m + 7, .inl (cA 2, 520, .inl (m_i Y 7))) _ from hW.2 7 (by decide) (by decide)) 2 rfl (by omega) (by decide) d_M_join_100 ?_
                refine x_topi (y := nI (n_dp N (d_p X (a + t)))) (rN _ him).2.2.1 ?_
                refine lv_goto (tgt := 105) hx hb d_M_join_101 (by decide) ?_
                refine x_topi (y := nI (d_mx (fun k => n_dp N (d_p X k)) a (t + 1))) (by exact congrArg nI (Nat.max_eq_right (Nat.le_of_lt z1)).symm) ?_
                refine lv_istore_n (lv' := [(3, .int (nI (d_mx (fun k => n_dp N (d_p X k)) a (t + 1)))), (4, .int (nI (a + t))), (0, .ref m), (1, .int (nI kk)), (2, .int (nI nn))]) hx hb d_M_join_105 rfl hl (by decide) rfl (fun ls hl => ?_)
                refine lv_iinc (k := 1) (v := nI ((a + t) + 1)) (lv' := [(4, .int (nI ((a + t) + 1))), (3, .int (nI (d_mx (fun k => n_dp N (d_p X k)) a (t + 1)))), (0, .ref m), (1, .int (nI kk)), (2, .int (nI nn))]) hx hb d_M_join_106 hl rfl (x_inc _) (by decide) rfl (fun ls hl => ?_)
                refine lv_goto (tgt := 64) hx hb d_M_join_109 (by decide) ?_
                exact ih (r - 1) _ (by omega) ⟨t + 1, by omega, (lv_sub hl [0, 1, 2, 3, 4] rfl)⟩
          · refine lv_iload_n hx hb d_M_join_38 rfl (lv_at hl 2 rfl) ?_
            refine lv_if_ne (tgt := 54) hx hb d_M_join_39 (by decide) (fun n0 => ?_) (fun n0 => ?_)
            · exact hj _ _ ⟨(lv_sub hl [0, 1, 2] rfl), rfl, by unfold q_jf; rw [decide_eq_false n0]; rfl⟩
            · refine lv_aload_n hx hb d_M_join_42 rfl (lv_at hl 0 rfl) ?_
              refine fg_M_103_M hx hb hown hts hE hW.1 rfl d_M_join_43 ?_
              refine x_topi (y := nI (d_n X)) (by rw [← r2]) ?_
              refine lv_bipush (v := 8) hx hb d_M_join_46 (by decide) ?_
              refine lv_icmp_ne (tgt := 54) hx hb d_M_join_48 (by decide) (fun p8 => ?_) (fun p8 => ?_)
              · exact hj _ _ ⟨(lv_sub hl [0, 1, 2] rfl), rfl, by unfold q_jf; rw [decide_eq_false (fun z : 8 ≤ d_n X => p8 (by rw [show d_n X = 8 by omega]; rfl))]; simp⟩
              · have p8 : d_n X = 8 := (nI_eq (by omega) (by decide) : nI (d_n X) = nI 8 ↔ _).mp p8
                have hf : q_jf X n = true := by unfold q_jf; rw [decide_eq_true n0, p8]; rfl
                have hm : q_jmk N X k n = false := by unfold q_jmk; rw [hf]; simp
                refine lv_bipush (v := (-3)) hx hb d_M_join_51 (by decide) ?_
                refine x_topi (y := q_join N X k n) (by unfold q_join; rw [hk, if_pos rfl, hf, if_pos rfl]) ?_
                exact W.iret hx hb hr (fun t9 ht _ => ⟨rfl, by rw [ht]; unfold z_joinN z_joinX z_joinM; rw [hm]; exact ⟨x_F.rf, hP⟩⟩) hF d_M_join_53
        · have hk : q_jok X k n = false := by unfold q_jok; rw [show decide (0 ≤ n ∧ n ≤ nI (d_n X)) = false from decide_eq_false (fun z => h4 z.2)]; simp
          have hm : q_jmk N X k n = false := by unfold q_jmk; rw [hk]; rfl
          refine lv_bipush (v := (-2)) hx hb d_M_join_35 (by decide) ?_
          refine x_topi (y := q_join N X k n) (by unfold q_join; rw [hk]; rfl) ?_
          exact W.iret hx hb hr (fun t9 ht _ => ⟨rfl, by rw [ht]; unfold z_joinN z_joinX z_joinM; rw [hm]; exact ⟨x_F.rf, hP⟩⟩) hF d_M_join_37
      · refine lv_iload_n hx hb d_M_join_17 rfl (lv_at hl 1 rfl) ?_
        refine lv_iconst (v := 2) hx hb d_M_join_18 (by decide) ?_
        refine lv_icmp_ne (tgt := 27) hx hb d_M_join_19 (by decide) (fun k2 => ?_) (fun k2 => ?_)
        · exact hj _ _ ⟨(lv_sub hl [0, 1, 2] rfl), rfl, by rw [decide_eq_false k2]; rfl⟩
        · refine lv_iload_n hx hb d_M_join_22 rfl (lv_at hl 2 rfl) ?_
          refine lv_iconst (v := 1) hx hb d_M_join_23 (by decide) ?_
          refine lv_icmp_ne (tgt := 35) hx hb d_M_join_24 (by decide) (fun n1 => ?_) (fun n1 => ?_)
          · have hk : q_jok X k n = false := by unfold q_jok; rw [decide_eq_true k2, decide_eq_true (show ¬ n = 1 from n1)]; simp
            have hm : q_jmk N X k n = false := by unfold q_jmk; rw [hk]; rfl
            refine lv_bipush (v := (-2)) hx hb d_M_join_35 (by decide) ?_
            refine x_topi (y := q_join N X k n) (by unfold q_join; rw [hk]; rfl) ?_
            exact W.iret hx hb hr (fun t9 ht _ => ⟨rfl, by rw [ht]; unfold z_joinN z_joinX z_joinM; rw [hm]; exact ⟨x_F.rf, hP⟩⟩) hF d_M_join_37
          · exact hj _ _ ⟨(lv_sub hl [0, 1, 2] rfl), rfl, by rw [show decide (¬ n = 1) = false from decide_eq_false (fun z => z n1)]; simp⟩
