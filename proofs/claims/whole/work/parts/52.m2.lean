theorem m_tk_t (Y : m_T) (t : Nat) : m_tk Y t (m_i Y 20) = (Y.1, Y.2.1, Y.2.2.1, t, Y.2.2.2.2) := by
  have e : va_up (m_i Y) 20 (m_i Y 20) = m_i Y := by
    funext j; by_cases h : j = 20
    · simp [va_up, h]
    · simp [va_up, h]
  show (Y.1, Y.2.1, Y.2.2.1, t, va_up (m_i Y) 20 (m_i Y 20), m_l Y) = _
  rw [e]
theorem pk_cons (o : Option (List Int32)) (ts : List Int32) (t : Int32) : (o.map (t :: ·)).map (ts ++ ·) = o.map ((ts ++ [t]) ++ ·) := by cases o <;> simp
theorem pk_app (o : Option (List Int32)) (ts us : List Int32) : (o.map (us ++ ·)).map (ts ++ ·) = o.map ((ts ++ us) ++ ·) := by cases o <;> simp
theorem m_add_tk (Y : m_T) (t : Nat) (f : Nat → Int32) (x : Int32) : m_tk (m_tk Y t f) (m_tn (m_tk Y t f) + 1) (upd (m_i (m_tk Y t f) 20) (m_tn (m_tk Y t f)) x) = m_tk Y (t + 1) (upd f t x) := by rw [m_tk_tk, m_tk_20]; rfl
theorem pt_v_n (x : Int64) : (pt_v x).length = tx_n x := by unfold pt_v; simp
theorem pt_e_or {d : Int32} (h1 : ¬ d = 36) (h2 : ¬ d = 42) (h3 : ¬ d = 63) : pt_e d = false := pt_e_n h1 h2 h3
set_option maxHeartbeats 4000000 in
set_option maxRecDepth 100000 in
theorem c_M_meant (l : Launch) (D : va_G) (cA : Nat → ClassId) (m : Nat) (Y : m_T) (x : Int64) : Met l y_M_meant [.code y_M_meant b_M_meant 11 (some .boolean)] (x_rm 2 0 0) (x_P D cA [.ref m, .long x] (fun H => m_W D cA m Y H)) (x_Q (some (.int (bI (pt_k (m_i Y 1) (m_l Y 2) x (tx_n x)).isSome))) (fun H H1 => x_F (m_tA m) H H1 ∧ ∃ (ts : List Int32) (f : Nat → Int32), tk_ok ts f ∧ ts.length ≤ 32 ∧ m_W D cA m (m_tk Y ts.length f) H1 ∧ ∀ us, pt_k (m_i Y 1) (m_l Y 2) x (tx_n x) = some us → us = ts)) 0 0 (m_tA m) := by
  refine x_met (own := "DecisionLayersModel") (by decide) rfl (Nat.le_of_ble_eq_true rfl) ?_
  intro pp ee s mm below mt cd ls hx hb hr hlk hnm hml hown hts hE hP hl
  have hl : lv_has ls 11 [(0, .ref m), (1, .long x)] := hl
  have hF : ∀ q ∈ ([] : List Loc), m_tA m q.base := t_nil
  have hx8 := tx_le x
  refine lv_aload_n hx hb d_M_meant_0 rfl (lv_at hl 0 rfl) ?_
  refine lv_iconst (v := 0) hx hb d_M_meant_1 (by decide) ?_
  refine fp_M_81_M hx hb hown hts hE hP.1 rfl rfl (Nat.le_of_ble_eq_true rfl) d_M_meant_2 (fun H1 k1 g1 o1 => ?_)
  have hF := t_lc (a := m) (i := k1) hF (x_A2.mpr (Or.inl rfl))
  have hW1 : m_W D cA m (m_tk Y 0 (m_i Y 20)) H1 := by rw [m_tk_t]; exact hP.obj (made := m_md Y) (pil := m_pl Y) (dec := m_de Y) (tok := 0) o1 g1
  refine lv_lload_n hx hb d_M_meant_5 rfl (lv_at hl 1 rfl) ?_
  refine x_cp (k_M_84 (As := [.long x]) (rest := []) hx hb hml hown hts (c_M_length l D cA x) (x_preS hE trivial) rfl hl.1 rfl (Nat.le_of_ble_eq_true rfl) d_M_meant_6 (by decide) ⟨Nat.zero_le _, Nat.zero_le _⟩) ?_
  refine lv_istore_n (lv' := [(3, .int (nI (tx_n x))), (0, .ref m), (1, .long x)]) hx hb d_M_meant_9 rfl hl (by decide) rfl (fun ls hl => ?_)
  refine lv_iconst (v := 0) hx hb d_M_meant_10 (by decide) ?_
  refine lv_istore (lv' := [(4, .int 0), (3, .int (nI (tx_n x))), (0, .ref m), (1, .long x)]) hx hb d_M_meant_11 hl (by decide) rfl (fun ls hl => ?_)
  refine x_loopH (I := fun r ls H locs => ∃ (i : Nat) (ts : List Int32) (f : Nat → Int32), i + r = tx_n x ∧ ts.length ≤ 4 * i ∧ tk_ok ts f ∧ pt_k (m_i Y 1) (m_l Y 2) x (tx_n x) = (pt_k (m_i Y 1) (m_l Y 2) x r).map (ts ++ ·) ∧ lv_has ls 11 [(4, .int (nI i)), (3, .int (nI (tx_n x))), (0, .ref m), (1, .long x)] ∧ m_W D cA m (m_tk Y ts.length f) H ∧ x_F (m_tA m) s.heap H ∧ ∀ q ∈ locs, m_tA m q.base) (fun r ls H locs ih h => ?_) (tx_n x) ⟨0, [], m_i Y 20, by omega, by simp, fun j h => absurd h (Nat.not_lt_zero j), by cases pt_k (m_i Y 1) (m_l Y 2) x (tx_n x) <;> simp, (lv_sub hl [0, 1, 2, 3] rfl), hW1, x_F.of1 o1 (x_A2.mpr (Or.inl rfl)), hF⟩
  obtain ⟨i, ts, f, hi, hlen, htk, hpk, hl, hW, hFr, hF⟩ := h
  refine lv_iload hx hb d_M_meant_13 (lv_at hl 0 rfl) ?_
  refine lv_iload_n hx hb d_M_meant_15 rfl (lv_at hl 1 rfl) ?_
  refine lv_icmp_ge (tgt := 210) hx hb d_M_meant_16 (by decide) (fun g1 => ?_) (fun g1 => ?_)
  · have g1 := n_ge g1 (by omega) (by omega)
    obtain rfl : r = 0 := by omega
    have hps : pt_k (m_i Y 1) (m_l Y 2) x (tx_n x) = some ts := by rw [hpk]; show some (ts ++ []) = some ts; rw [List.append_nil]
    refine lv_iconst (v := 1) hx hb d_M_meant_210 (by decide) ?_
    refine x_topi (y := bI (pt_k (m_i Y 1) (m_l Y 2) x (tx_n x)).isSome) (by rw [hps]; rfl) ?_
    exact W.zret (ty := .boolean) hx hb hr (bI_z _) (fun t ht _ => ⟨rfl, by rw [ht]; exact ⟨hFr, ts, f, htk, by omega, hW, fun us h => by rw [hps] at h; cases h; rfl⟩⟩) hF d_M_meant_211
  · have g1 := n_lt g1 (by omega) (by omega)
    obtain ⟨r1, rfl⟩ : ∃ r1, r = r1 + 1 := ⟨r - 1, by omega⟩
    refine lv_lload_n hx hb d_M_meant_19 rfl (lv_at hl 3 rfl) ?_
    refine lv_iload hx hb d_M_meant_20 (lv_at hl 0 rfl) ?_
    refine x_cp (k_M_77 (As := [.long x, .int (nI i)]) (rest := []) hx hb hml hown hts (c_M_charAt l D cA x i) (x_preS hE trivial) rfl hl.1 rfl (Nat.le_of_ble_eq_true rfl) d_M_meant_22 (by decide) ⟨Nat.zero_le _, Nat.zero_le _⟩) ?_
    refine lv_istore (lv' := [(5, .int (tx_c x i)), (4, .int (nI i)), (3, .int (nI (tx_n x))), (0, .ref m), (1, .long x)]) hx hb d_M_meant_25 hl (by decide) rfl (fun ls hl => ?_)
    refine lv_iload hx hb d_M_meant_27 (lv_at hl 0 rfl) ?_
    refine lv_bipush (v := 42) hx hb d_M_meant_29 (by decide) ?_
    refine lv_icmp_ne (tgt := 44) hx hb d_M_meant_31 (by decide) (fun c42 => ?_) (fun c42 => ?_)
    · refine lv_iload hx hb d_M_meant_44 (lv_at hl 0 rfl) ?_
      refine lv_bipush (v := 63) hx hb d_M_meant_46 (by decide) ?_
      refine lv_icmp_ne (tgt := 61) hx hb d_M_meant_48 (by decide) (fun c63 => ?_) (fun c63 => ?_)
      · refine lv_iload hx hb d_M_meant_61 (lv_at hl 0 rfl) ?_
        refine lv_bipush (v := 36) hx hb d_M_meant_63 (by decide) ?_
        refine lv_icmp_eq (tgt := 77) hx hb d_M_meant_65 (by decide) (fun c36 => ?_) (fun c36 => ?_)
        · refine lv_iinc (k := 1) (v := nI (i + 1)) (lv' := [(4, .int (nI (i + 1))), (5, .int (tx_c x i)), (3, .int (nI (tx_n x))), (0, .ref m), (1, .long x)]) hx hb d_M_meant_77 hl rfl (x_inc _) (by decide) rfl (fun ls hl => ?_)
          refine lv_iload hx hb d_M_meant_80 (lv_at hl 0 rfl) ?_
          refine lv_iload_n hx hb d_M_meant_82 rfl (lv_at hl 2 rfl) ?_
          refine lv_icmp_ge (tgt := 95) hx hb d_M_meant_83 (by decide) (fun g2 => ?_) (fun g2 => ?_)
          · have g2 := n_ge g2 (by omega) (by omega)
            obtain rfl : r1 = 0 := by omega
            have hno : pt_k (m_i Y 1) (m_l Y 2) x (tx_n x) = none := by rw [hpk, pt_k_e (i := i) (by omega) c36]; rfl
            refine lv_iconst (v := 0) hx hb d_M_meant_95 (by decide) ?_
            refine lv_istore (lv' := [(6, .int 0), (4, .int (nI (i + 1))), (5, .int (tx_c x i)), (3, .int (nI (tx_n x))), (0, .ref m), (1, .long x)]) hx hb d_M_meant_96 hl (by decide) rfl (fun ls hl => ?_)
            refine lv_iload hx hb d_M_meant_98 (lv_at hl 0 rfl) ?_
            refine lv_bipush (v := 48) hx hb d_M_meant_100 (by decide) ?_
            refine lv_isub hx hb d_M_meant_102 ?_
            refine x_topi (y := (-48)) (by decide) ?_
            refine lv_istore (lv' := [(7, .int (-48)), (6, .int 0), (4, .int (nI (i + 1))), (5, .int (tx_c x i)), (3, .int (nI (tx_n x))), (0, .ref m), (1, .long x)]) hx hb d_M_meant_103 hl (by decide) rfl (fun ls hl => ?_)
            refine lv_iload hx hb d_M_meant_105 (lv_at hl 1 rfl) ?_
            refine lv_bipush (v := 36) hx hb d_M_meant_107 (by decide) ?_
            refine lv_icmp_eq (tgt := 126) hx hb d_M_meant_109 (by decide) (fun hk => ?_) (fun hk => ?_)
            · exact absurd hk (by decide)
            · refine lv_iload hx hb d_M_meant_112 (lv_at hl 1 rfl) ?_
              refine lv_bipush (v := 42) hx hb d_M_meant_114 (by decide) ?_
              refine lv_icmp_eq (tgt := 126) hx hb d_M_meant_116 (by decide) (fun hk => ?_) (fun hk => ?_)
              · exact absurd hk (by decide)
              · refine lv_iload hx hb d_M_meant_119 (lv_at hl 1 rfl) ?_
                refine lv_bipush (v := 63) hx hb d_M_meant_121 (by decide) ?_
                refine lv_icmp_ne (tgt := 135) hx hb d_M_meant_123 (by decide) (fun hk => ?_) (fun hk => ?_)
                · refine lv_iload hx hb d_M_meant_135 (lv_at hl 0 rfl) ?_
                  refine lv_if_lt (tgt := 202) hx hb d_M_meant_137 (by decide) (fun hk => ?_) (fun hk => ?_)
                  · refine lv_iconst (v := 0) hx hb d_M_meant_202 (by decide) ?_
                    refine x_topi (y := bI (pt_k (m_i Y 1) (m_l Y 2) x (tx_n x)).isSome) (by rw [hno]; rfl) ?_
                    exact W.zret (ty := .boolean) hx hb hr (bI_z _) (fun t ht _ => ⟨rfl, by rw [ht]; exact ⟨hFr, ts, f, htk, by omega, hW, fun us h => by rw [hno] at h; cases h⟩⟩) hF d_M_meant_203
                  · exact absurd hk (by decide)
                · exact absurd hk (by decide)
          · have g2 := n_lt g2 (by omega) (by omega)
            obtain ⟨r2, rfl⟩ : ∃ r2, r1 = r2 + 1 := ⟨r1 - 1, by omega⟩
            refine lv_lload_n hx hb d_M_meant_86 rfl (lv_at hl 4 rfl) ?_
            refine lv_iload hx hb d_M_meant_87 (lv_at hl 0 rfl) ?_
            refine x_cp (k_M_77 (As := [.long x, .int (nI (i + 1))]) (rest := []) hx hb hml hown hts (c_M_charAt l D cA x (i + 1)) (x_preS hE trivial) rfl hl.1 rfl (Nat.le_of_ble_eq_true rfl) d_M_meant_89 (by decide) ⟨Nat.zero_le _, Nat.zero_le _⟩) ?_
            have hkd := pt_k_d (cnt := (m_i Y 1)) (row := (m_l Y 2)) (i := i) (r := r2) (by omega) c36
            generalize tx_c x (i + 1) = d at hkd ⊢
            refine lv_goto (tgt := 96) hx hb d_M_meant_92 (by decide) ?_
            refine lv_istore (lv' := [(6, .int d), (4, .int (nI (i + 1))), (5, .int (tx_c x i)), (3, .int (nI (tx_n x))), (0, .ref m), (1, .long x)]) hx hb d_M_meant_96 hl (by decide) rfl (fun ls hl => ?_)
            refine lv_iload hx hb d_M_meant_98 (lv_at hl 0 rfl) ?_
            refine lv_bipush (v := 48) hx hb d_M_meant_100 (by decide) ?_
            refine lv_isub hx hb d_M_meant_102 ?_
            refine lv_istore (lv' := [(7, .int (d - 48)), (6, .int d), (4, .int (nI (i + 1))), (5, .int (tx_c x i)), (3, .int (nI (tx_n x))), (0, .ref m), (1, .long x)]) hx hb d_M_meant_103 hl (by decide) rfl (fun ls hl => ?_)
            refine lv_iload hx hb d_M_meant_105 (lv_at hl 1 rfl) ?_
            refine lv_bipush (v := 36) hx hb d_M_meant_107 (by decide) ?_
            refine lv_icmp_eq (tgt := 126) hx hb d_M_meant_109 (by decide) (fun d1 => ?_) (fun d1 => ?_)
            · refine lv_aload_n hx hb d_M_meant_126 rfl (lv_at hl 5 rfl) ?_
              refine lv_iload hx hb d_M_meant_127 (lv_at hl 1 rfl) ?_
              refine x_cv (k_M_88 (As := [.int d]) (rest := []) hx hb hml hown hts (c_M_add l D cA m (m_tk Y ts.length f) (d) (show ts.length < 40 by omega)) (x_preV hE hW.1 rfl rfl hW) rfl hl.1 rfl (Nat.le_of_ble_eq_true rfl) d_M_meant_129 (by decide) ⟨Nat.zero_le _, Nat.zero_le _⟩) (fun H1 L1 p1 f1 => ?_)
              have hF := t_lL hF (fun q h => (fun q h => h) q.base (f1 q h))
              have hW1 := p1.2
              rw [m_add_tk] at hW1
              refine lv_goto (tgt := 204) hx hb d_M_meant_132 (by decide) ?_
              refine lv_iinc (k := 2) (v := nI ((i + 1) + 1)) (lv' := [(4, .int (nI ((i + 1) + 1))), (7, .int (d - 48)), (6, .int d), (5, .int (tx_c x i)), (3, .int (nI (tx_n x))), (0, .ref m), (1, .long x)]) hx hb d_M_meant_204 hl rfl (x_inc _) (by decide) rfl (fun ls hl => ?_)
              refine lv_goto (tgt := 13) hx hb d_M_meant_207 (by decide) ?_
              exact ih r2 _ _ _ (by omega) ⟨i + 2, ts ++ [d], _, by omega, by simp; omega, htk.add (d), by rw [hpk, hkd, show pt_d (m_i Y 1) (m_l Y 2) d = some [d] by unfold pt_d; rw [pt_e_y (Or.inl d1)]; rfl]; exact pk_app _ _ _, (lv_sub hl [0, 4, 5, 6] rfl), by rw [List.length_append]; exact hW1, hFr.trans p1.1, hF⟩
            · refine lv_iload hx hb d_M_meant_112 (lv_at hl 1 rfl) ?_
              refine lv_bipush (v := 42) hx hb d_M_meant_114 (by decide) ?_
              refine lv_icmp_eq (tgt := 126) hx hb d_M_meant_116 (by decide) (fun d2 => ?_) (fun d2 => ?_)
              · refine lv_aload_n hx hb d_M_meant_126 rfl (lv_at hl 5 rfl) ?_
                refine lv_iload hx hb d_M_meant_127 (lv_at hl 1 rfl) ?_
                refine x_cv (k_M_88 (As := [.int d]) (rest := []) hx hb hml hown hts (c_M_add l D cA m (m_tk Y ts.length f) (d) (show ts.length < 40 by omega)) (x_preV hE hW.1 rfl rfl hW) rfl hl.1 rfl (Nat.le_of_ble_eq_true rfl) d_M_meant_129 (by decide) ⟨Nat.zero_le _, Nat.zero_le _⟩) (fun H1 L1 p1 f1 => ?_)
                have hF := t_lL hF (fun q h => (fun q h => h) q.base (f1 q h))
                have hW1 := p1.2
                rw [m_add_tk] at hW1
                refine lv_goto (tgt := 204) hx hb d_M_meant_132 (by decide) ?_
                refine lv_iinc (k := 2) (v := nI ((i + 1) + 1)) (lv' := [(4, .int (nI ((i + 1) + 1))), (7, .int (d - 48)), (6, .int d), (5, .int (tx_c x i)), (3, .int (nI (tx_n x))), (0, .ref m), (1, .long x)]) hx hb d_M_meant_204 hl rfl (x_inc _) (by decide) rfl (fun ls hl => ?_)
                refine lv_goto (tgt := 13) hx hb d_M_meant_207 (by decide) ?_
                exact ih r2 _ _ _ (by omega) ⟨i + 2, ts ++ [d], _, by omega, by simp; omega, htk.add (d), by rw [hpk, hkd, show pt_d (m_i Y 1) (m_l Y 2) d = some [d] by unfold pt_d; rw [pt_e_y (Or.inr (Or.inl d2))]; rfl]; exact pk_app _ _ _, (lv_sub hl [0, 4, 5, 6] rfl), by rw [List.length_append]; exact hW1, hFr.trans p1.1, hF⟩
              · refine lv_iload hx hb d_M_meant_119 (lv_at hl 1 rfl) ?_
                refine lv_bipush (v := 63) hx hb d_M_meant_121 (by decide) ?_
                refine lv_icmp_ne (tgt := 135) hx hb d_M_meant_123 (by decide) (fun d3 => ?_) (fun d3 => ?_)
                · have hpe := pt_e_n d1 d2 d3
                  refine lv_iload hx hb d_M_meant_135 (lv_at hl 0 rfl) ?_
                  refine lv_if_lt (tgt := 202) hx hb d_M_meant_137 (by decide) (fun k1 => ?_) (fun k1 => ?_)
                  · have hno : pt_k (m_i Y 1) (m_l Y 2) x (tx_n x) = none := by rw [hpk, hkd, show pt_d (m_i Y 1) (m_l Y 2) d = none by unfold pt_d; rw [hpe, show pt_y (m_i Y 1) d = false from decide_eq_false (fun z => absurd k1 (Int32.not_lt.mpr z.1))]; rfl]; rfl
                    refine lv_iconst (v := 0) hx hb d_M_meant_202 (by decide) ?_
                    refine x_topi (y := bI (pt_k (m_i Y 1) (m_l Y 2) x (tx_n x)).isSome) (by rw [hno]; rfl) ?_
                    exact W.zret (ty := .boolean) hx hb hr (bI_z _) (fun t ht _ => ⟨rfl, by rw [ht]; exact ⟨hFr, ts, f, htk, by omega, hW, fun us h => by rw [hno] at h; cases h⟩⟩) hF d_M_meant_203
                  · refine lv_iload hx hb d_M_meant_140 (lv_at hl 0 rfl) ?_
                    refine lv_bipush (v := 7) hx hb d_M_meant_142 (by decide) ?_
                    refine lv_icmp_gt (tgt := 202) hx hb d_M_meant_144 (by decide) (fun k2 => ?_) (fun k2 => ?_)
                    · have hno : pt_k (m_i Y 1) (m_l Y 2) x (tx_n x) = none := by rw [hpk, hkd, show pt_d (m_i Y 1) (m_l Y 2) d = none by unfold pt_d; rw [hpe, show pt_y (m_i Y 1) d = false from decide_eq_false (fun z => absurd k2 (Int32.not_lt.mpr z.2.1))]; rfl]; rfl
                      refine lv_iconst (v := 0) hx hb d_M_meant_202 (by decide) ?_
                      refine x_topi (y := bI (pt_k (m_i Y 1) (m_l Y 2) x (tx_n x)).isSome) (by rw [hno]; rfl) ?_
                      exact W.zret (ty := .boolean) hx hb hr (bI_z _) (fun t ht _ => ⟨rfl, by rw [ht]; exact ⟨hFr, ts, f, htk, by omega, hW, fun us h => by rw [hno] at h; cases h⟩⟩) hF d_M_meant_203
                    · obtain ⟨kk, hkk, ek⟩ : ∃ kk : Nat, kk < 8 ∧ d - 48 = nI kk := by obtain ⟨kk, a, b⟩ := nI_of k1; rw [b] at k2; exact ⟨kk, Nat.lt_succ_of_le (n_le (i := kk) (k := 7) k2 (by decide) a), b⟩
                      have ekc : (d - 48).toNatClampNeg = kk := by rw [ek]; exact nI_clamp (by omega)
                      refine lv_aload_n hx hb d_M_meant_147 rfl (lv_at hl 5 rfl) ?_
                      refine fg_M_7_M hx hb hown hts hE hW.1 rfl d_M_meant_148 ?_
                      refine lv_iload hx hb d_M_meant_151 (lv_at hl 0 rfl) ?_
                      refine x_topi (y := nI kk) ek ?_
                      refine x_iald hx hb hE.2.2 (show va_at D x_cl (m + 1, .inl (cA 0, 8, .inl (m_i (m_tk Y ts.length f) 1))) _ from hW.2 1 (by decide) (by decide)) 0 rfl hkk (by decide) d_M_meant_153 ?_
                      refine x_topi (y := m_i Y 1 kk) (by rw [m_tk_i (by decide)]) ?_
                      refine lv_iconst (v := 1) hx hb d_M_meant_154 (by decide) ?_
                      refine lv_icmp_ne (tgt := 202) hx hb d_M_meant_155 (by decide) (fun k3 => ?_) (fun k3 => ?_)
                      · have hno : pt_k (m_i Y 1) (m_l Y 2) x (tx_n x) = none := by rw [hpk, hkd, show pt_d (m_i Y 1) (m_l Y 2) d = none by unfold pt_d; rw [hpe, show pt_y (m_i Y 1) d = false from decide_eq_false (fun z => k3 (by rw [← ekc]; exact z.2.2))]; rfl]; rfl
                        refine lv_iconst (v := 0) hx hb d_M_meant_202 (by decide) ?_
                        refine x_topi (y := bI (pt_k (m_i Y 1) (m_l Y 2) x (tx_n x)).isSome) (by rw [hno]; rfl) ?_
                        exact W.zret (ty := .boolean) hx hb hr (bI_z _) (fun t ht _ => ⟨rfl, by rw [ht]; exact ⟨hFr, ts, f, htk, by omega, hW, fun us h => by rw [hno] at h; cases h⟩⟩) hF d_M_meant_203
                      · have hpy : pt_y (m_i Y 1) d = true := decide_eq_true ⟨Int32.not_lt.mp k1, Int32.not_lt.mp k2, by rw [ekc]; exact k3⟩
                        have hpd : pt_d (m_i Y 1) (m_l Y 2) d = some (pt_v ((m_l Y 2) (4 * kk))) := by unfold pt_d; rw [hpe, hpy, ekc]; rfl
                        refine lv_aload_n hx hb d_M_meant_158 rfl (lv_at hl 5 rfl) ?_
                        refine fg_M_13_M hx hb hown hts hE hW.1 rfl d_M_meant_159 ?_
                        refine lv_iconst (v := 4) hx hb d_M_meant_162 (by decide) ?_
                        refine lv_iload hx hb d_M_meant_163 (lv_at hl 0 rfl) ?_
                        refine x_topi (y := nI kk) ek ?_
                        refine lv_imul hx hb d_M_meant_165 ?_
                        refine x_topi (y := nI (4 * kk)) (by rw [show (4 : Int32) = nI 4 from rfl, pk_mul]) ?_
                        refine x_lald hx hb hE.2.2 (show va_at D x_cl (m + 2, .inl (cA 1, 32, .inr (.inl (m_l (m_tk Y ts.length f) 2)))) _ from hW.2 2 (by decide) (by decide)) 1 rfl (by omega) (by decide) d_M_meant_166 ?_
                        generalize hv9 : m_l Y 2 (4 * kk) = vv at hpd
                        refine x_topl (y := vv) hv9 ?_
                        have hv8 := tx_le vv
                        refine lv_lstore (lv' := [(8, .long vv), (7, .int (d - 48)), (6, .int d), (4, .int (nI (i + 1))), (5, .int (tx_c x i)), (3, .int (nI (tx_n x))), (0, .ref m), (1, .long x)]) hx hb d_M_meant_167 hl (by decide) rfl (fun ls hl => ?_)
                        refine lv_iconst (v := 0) hx hb d_M_meant_169 (by decide) ?_
                        refine lv_istore (lv' := [(10, .int 0), (8, .long vv), (7, .int (d - 48)), (6, .int d), (4, .int (nI (i + 1))), (5, .int (tx_c x i)), (3, .int (nI (tx_n x))), (0, .ref m), (1, .long x)]) hx hb d_M_meant_170 hl (by decide) rfl (fun ls hl => ?_)
                        refine x_loopH (I := fun r3 ls H locs => ∃ (j : Nat) (ts3 : List Int32) (f3 : Nat → Int32), j + r3 = tx_n vv ∧ ts3 = ts ++ (List.range j).map (tx_c vv) ∧ tk_ok ts3 f3 ∧ lv_has ls 11 [(10, .int (nI j)), (8, .long vv), (4, .int (nI (i + 1))), (3, .int (nI (tx_n x))), (0, .ref m), (1, .long x)] ∧ m_W D cA m (m_tk Y ts3.length f3) H ∧ x_F (m_tA m) s.heap H ∧ ∀ q ∈ locs, m_tA m q.base) (fun r3 ls H locs ih3 h => ?_) (tx_n vv) ⟨0, ts, f, by omega, by simp, htk, (lv_sub hl [0, 1, 4, 6, 7, 8] rfl), hW, hFr, hF⟩
                        obtain ⟨j, ts3, f3, hj3, ets, htk3, hl, hW3, hFr3, hF⟩ := h
                        have hl3 : ts3.length = ts.length + j := by rw [ets]; simp
                        refine lv_iload hx hb d_M_meant_172 (lv_at hl 0 rfl) ?_
                        refine lv_lload hx hb d_M_meant_174 (lv_at hl 1 rfl) ?_
                        refine x_cp (k_M_84 (As := [.long vv]) (rest := [.int (nI j)]) hx hb hml hown hts (c_M_length l D cA vv) (x_preS hE trivial) rfl hl.1 rfl (Nat.le_of_ble_eq_true rfl) d_M_meant_176 (by decide) ⟨Nat.zero_le _, Nat.zero_le _⟩) ?_
                        refine lv_icmp_ge (tgt := 199) hx hb d_M_meant_179 (by decide) (fun g3 => ?_) (fun g3 => ?_)
                        · have g3 := n_ge g3 (by omega) (by omega)
                          obtain rfl : j = tx_n vv := by omega
                          refine lv_goto (tgt := 204) hx hb d_M_meant_199 (by decide) ?_
                          refine lv_iinc (k := 2) (v := nI ((i + 1) + 1)) (lv' := [(4, .int (nI ((i + 1) + 1))), (10, .int (nI (tx_n vv))), (8, .long vv), (3, .int (nI (tx_n x))), (0, .ref m), (1, .long x)]) hx hb d_M_meant_204 hl rfl (x_inc _) (by decide) rfl (fun ls hl => ?_)
                          refine lv_goto (tgt := 13) hx hb d_M_meant_207 (by decide) ?_
                          exact ih r2 _ _ _ (by omega) ⟨i + 2, ts3, f3, by omega, by omega, htk3, by rw [hpk, hkd, hpd, ets]; exact pk_app _ _ _, (lv_sub hl [0, 3, 4, 5] rfl), hW3, hFr3, hF⟩
                        · have g3 := n_lt g3 (by omega) (by omega)
                          refine lv_aload_n hx hb d_M_meant_182 rfl (lv_at hl 4 rfl) ?_
                          refine lv_lload hx hb d_M_meant_183 (lv_at hl 1 rfl) ?_
                          refine lv_iload hx hb d_M_meant_185 (lv_at hl 0 rfl) ?_
                          refine x_cp (k_M_77 (As := [.long vv, .int (nI j)]) (rest := [.ref m]) hx hb hml hown hts (c_M_charAt l D cA vv j) (x_preS hE trivial) rfl hl.1 rfl (Nat.le_of_ble_eq_true rfl) d_M_meant_187 (by decide) ⟨Nat.zero_le _, Nat.zero_le _⟩) ?_
                          refine x_cv (k_M_88 (As := [.int (tx_c vv j)]) (rest := []) hx hb hml hown hts (c_M_add l D cA m (m_tk Y ts3.length f3) (tx_c vv j) (show ts3.length < 40 by omega)) (x_preV hE hW3.1 rfl rfl hW3) rfl hl.1 rfl (Nat.le_of_ble_eq_true rfl) d_M_meant_190 (by decide) ⟨Nat.zero_le _, Nat.zero_le _⟩) (fun H4 L4 p4 f4 => ?_)
                          have hF := t_lL hF (fun q h => (fun q h => h) q.base (f4 q h))
                          have hW4 := p4.2
                          rw [m_add_tk] at hW4
                          refine lv_iinc (k := 0) (v := nI (j + 1)) (lv' := [(10, .int (nI (j + 1))), (8, .long vv), (4, .int (nI (i + 1))), (3, .int (nI (tx_n x))), (0, .ref m), (1, .long x)]) hx hb d_M_meant_193 hl rfl (x_inc _) (by decide) rfl (fun ls hl => ?_)
                          refine lv_goto (tgt := 172) hx hb d_M_meant_196 (by decide) ?_
                          exact ih3 (r3 - 1) _ _ _ (by omega) ⟨j + 1, ts3 ++ [tx_c vv j], _, by omega, by rw [ets, List.range_succ, List.map_append]; simp, htk3.add _, (lv_sub hl [0, 1, 2, 3, 4, 5] rfl), by rw [List.length_append]; exact hW4, hFr3.trans p4.1, hF⟩
                · refine lv_aload_n hx hb d_M_meant_126 rfl (lv_at hl 5 rfl) ?_
                  refine lv_iload hx hb d_M_meant_127 (lv_at hl 1 rfl) ?_
                  refine x_cv (k_M_88 (As := [.int d]) (rest := []) hx hb hml hown hts (c_M_add l D cA m (m_tk Y ts.length f) (d) (show ts.length < 40 by omega)) (x_preV hE hW.1 rfl rfl hW) rfl hl.1 rfl (Nat.le_of_ble_eq_true rfl) d_M_meant_129 (by decide) ⟨Nat.zero_le _, Nat.zero_le _⟩) (fun H1 L1 p1 f1 => ?_)
                  have hF := t_lL hF (fun q h => (fun q h => h) q.base (f1 q h))
                  have hW1 := p1.2
                  rw [m_add_tk] at hW1
                  refine lv_goto (tgt := 204) hx hb d_M_meant_132 (by decide) ?_
                  refine lv_iinc (k := 2) (v := nI ((i + 1) + 1)) (lv' := [(4, .int (nI ((i + 1) + 1))), (7, .int (d - 48)), (6, .int d), (5, .int (tx_c x i)), (3, .int (nI (tx_n x))), (0, .ref m), (1, .long x)]) hx hb d_M_meant_204 hl rfl (x_inc _) (by decide) rfl (fun ls hl => ?_)
                  refine lv_goto (tgt := 13) hx hb d_M_meant_207 (by decide) ?_
                  exact ih r2 _ _ _ (by omega) ⟨i + 2, ts ++ [d], _, by omega, by simp; omega, htk.add (d), by rw [hpk, hkd, show pt_d (m_i Y 1) (m_l Y 2) d = some [d] by unfold pt_d; rw [pt_e_y (Or.inr (Or.inr d3))]; rfl]; exact pk_app _ _ _, (lv_sub hl [0, 4, 5, 6] rfl), by rw [List.length_append]; exact hW1, hFr.trans p1.1, hF⟩
        · refine lv_aload_n hx hb d_M_meant_68 rfl (lv_at hl 3 rfl) ?_
          refine lv_iload hx hb d_M_meant_69 (lv_at hl 0 rfl) ?_
          refine x_cv (k_M_88 (As := [.int (tx_c x i)]) (rest := []) hx hb hml hown hts (c_M_add l D cA m (m_tk Y ts.length f) (tx_c x i) (show ts.length < 40 by omega)) (x_preV hE hW.1 rfl rfl hW) rfl hl.1 rfl (Nat.le_of_ble_eq_true rfl) d_M_meant_71 (by decide) ⟨Nat.zero_le _, Nat.zero_le _⟩) (fun H1 L1 p1 f1 => ?_)
          have hF := t_lL hF (fun q h => (fun q h => h) q.base (f1 q h))
          have hW1 := p1.2
          rw [m_add_tk] at hW1
          refine lv_goto (tgt := 204) hx hb d_M_meant_74 (by decide) ?_
          refine lv_iinc (k := 1) (v := nI (i + 1)) (lv' := [(4, .int (nI (i + 1))), (5, .int (tx_c x i)), (3, .int (nI (tx_n x))), (0, .ref m), (1, .long x)]) hx hb d_M_meant_204 hl rfl (x_inc _) (by decide) rfl (fun ls hl => ?_)
          refine lv_goto (tgt := 13) hx hb d_M_meant_207 (by decide) ?_
          exact ih r1 _ _ _ (by omega) ⟨i + 1, ts ++ [tx_c x i], _, by omega, by simp; omega, htk.add (tx_c x i), by rw [hpk, pt_k_c (i := i) (by omega) c36, pk_cons, pt_t_n c42 c63], (lv_sub hl [0, 2, 3, 4] rfl), by rw [List.length_append]; exact hW1, hFr.trans p1.1, hF⟩
      · refine lv_aload_n hx hb d_M_meant_51 rfl (lv_at hl 3 rfl) ?_
        refine lv_sipush (v := 257) hx hb d_M_meant_52 (by decide) ?_
        refine x_cv (k_M_88 (As := [.int 257]) (rest := []) hx hb hml hown hts (c_M_add l D cA m (m_tk Y ts.length f) (257) (show ts.length < 40 by omega)) (x_preV hE hW.1 rfl rfl hW) rfl hl.1 rfl (Nat.le_of_ble_eq_true rfl) d_M_meant_55 (by decide) ⟨Nat.zero_le _, Nat.zero_le _⟩) (fun H1 L1 p1 f1 => ?_)
        have hF := t_lL hF (fun q h => (fun q h => h) q.base (f1 q h))
        have hW1 := p1.2
        rw [m_add_tk] at hW1
        refine lv_goto (tgt := 204) hx hb d_M_meant_58 (by decide) ?_
        refine lv_iinc (k := 1) (v := nI (i + 1)) (lv' := [(4, .int (nI (i + 1))), (5, .int (tx_c x i)), (3, .int (nI (tx_n x))), (0, .ref m), (1, .long x)]) hx hb d_M_meant_204 hl rfl (x_inc _) (by decide) rfl (fun ls hl => ?_)
        refine lv_goto (tgt := 13) hx hb d_M_meant_207 (by decide) ?_
        exact ih r1 _ _ _ (by omega) ⟨i + 1, ts ++ [257], _, by omega, by simp; omega, htk.add (257), by rw [hpk, pt_k_c (i := i) (by omega) (by rw [c63]; decide), pk_cons, c63]; rfl, (lv_sub hl [0, 2, 3, 4] rfl), by rw [List.length_append]; exact hW1, hFr.trans p1.1, hF⟩
    · refine lv_aload_n hx hb d_M_meant_34 rfl (lv_at hl 3 rfl) ?_
      refine lv_sipush (v := 256) hx hb d_M_meant_35 (by decide) ?_
      refine x_cv (k_M_88 (As := [.int 256]) (rest := []) hx hb hml hown hts (c_M_add l D cA m (m_tk Y ts.length f) (256) (show ts.length < 40 by omega)) (x_preV hE hW.1 rfl rfl hW) rfl hl.1 rfl (Nat.le_of_ble_eq_true rfl) d_M_meant_38 (by decide) ⟨Nat.zero_le _, Nat.zero_le _⟩) (fun H1 L1 p1 f1 => ?_)
      have hF := t_lL hF (fun q h => (fun q h => h) q.base (f1 q h))
      have hW1 := p1.2
      rw [m_add_tk] at hW1
      refine lv_goto (tgt := 204) hx hb d_M_meant_41 (by decide) ?_
      refine lv_iinc (k := 1) (v := nI (i + 1)) (lv' := [(4, .int (nI (i + 1))), (5, .int (tx_c x i)), (3, .int (nI (tx_n x))), (0, .ref m), (1, .long x)]) hx hb d_M_meant_204 hl rfl (x_inc _) (by decide) rfl (fun ls hl => ?_)
      refine lv_goto (tgt := 13) hx hb d_M_meant_207 (by decide) ?_
      exact ih r1 _ _ _ (by omega) ⟨i + 1, ts ++ [256], _, by omega, by simp; omega, htk.add (256), by rw [hpk, pt_k_c (i := i) (by omega) (by rw [c42]; decide), pk_cons, c42]; rfl, (lv_sub hl [0, 2, 3, 4] rfl), by rw [List.length_append]; exact hW1, hFr.trans p1.1, hF⟩
