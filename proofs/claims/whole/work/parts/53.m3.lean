theorem pt_r_take {y : Int64} {lo : Bool} {ts : List Int32} {t : Nat} (h : t < ts.length) (q : Nat) : pt_r y lo (ts.take (t + 1)) q = pt_s y lo (ts.getD t 0) (pt_r y lo (ts.take t) q) := by
  have e : ts.take (t + 1) = ts.take t ++ [ts.getD t 0] := by
    rw [List.take_add_one]
    congr 1
    rw [List.getElem?_eq_getElem h, List.getD_eq_getElem?_getD, List.getElem?_eq_getElem h]
    rfl
  rw [e, pt_r_app]
  rfl
theorem pt_m_n {cnt : Nat → Int32} {row : Nat → Int64} {x y : Int64} {lo : Bool} (h : (pt_k cnt row x (tx_n x)).isSome = false) : pt_m cnt row x y lo = false := by
  unfold pt_m
  cases hk : pt_k cnt row x (tx_n x) with
  | none => rfl
  | some us => rw [hk] at h; cases h
theorem pt_m_s {cnt : Nat → Int32} {row : Nat → Int64} {x y : Int64} {lo : Bool} {ts : List Int32} (h : pt_k cnt row x (tx_n x) = some ts) : pt_m cnt row x y lo = (pt_r y lo ts 1).testBit (tx_n y) := by
  unfold pt_m
  rw [h]
set_option maxHeartbeats 4000000 in
set_option maxRecDepth 100000 in
theorem c_M_matches (l : Launch) (D : va_G) (cA : Nat → ClassId) (m : Nat) (Y : m_T) (x y : Int64) (lo : Bool) : Met l y_M_matches [.code y_M_matches b_M_matches 13 (some .boolean)] (x_rm 3 0 0) (x_P D cA [.ref m, .long x, .long y, .int (bI lo)] (fun H => m_W D cA m Y H)) (x_Q (some (.int (bI (pt_m (m_i Y 1) (m_l Y 2) x y lo)))) (fun H H1 => x_F (m_tA m) H H1 ∧ ∃ (t : Nat) (f : Nat → Int32), m_W D cA m (m_tk Y t f) H1)) 0 0 (m_tA m) := by
  refine x_met (own := "DecisionLayersModel") (by decide) rfl (Nat.le_of_ble_eq_true rfl) ?_
  intro pp ee s mm below mt cd ls hx hb hr hlk hnm hml hown hts hE hP hl
  have hl : lv_has ls 13 [(0, .ref m), (1, .long x), (3, .long y), (5, .int (bI lo))] := hl
  have hF : ∀ q ∈ ([] : List Loc), m_tA m q.base := t_nil
  have hy8 := tx_le y
  refine lv_aload_n hx hb d_M_matches_0 rfl (lv_at hl 0 rfl) ?_
  refine lv_lload_n hx hb d_M_matches_1 rfl (lv_at hl 1 rfl) ?_
  refine x_cw (k_M_92 (As := [.long x]) (rest := []) hx hb hml hown hts (c_M_meant l D cA m Y x) (x_preV hE hP.1 rfl rfl hP) rfl hl.1 rfl (Nat.le_of_ble_eq_true rfl) d_M_matches_2 (by decide) ⟨Nat.zero_le _, Nat.zero_le _⟩) (fun H1 L1 p1 f1 => ?_)
  have hF := t_lL hF (fun q h => (fun q h => h) q.base (f1 q h))
  obtain ⟨e1, ts, f, htk, hlen, hW, hus⟩ := p1
  refine lv_if_ne (tgt := 10) hx hb d_M_matches_5 (by decide) (fun hs => ?_) (fun hs => ?_)
  · have hk : pt_k (m_i Y 1) (m_l Y 2) x (tx_n x) = some ts := by
      cases hk : pt_k (m_i Y 1) (m_l Y 2) x (tx_n x) with
      | none => rw [hk] at hs; exact absurd rfl hs
      | some us => rw [hus us hk]
    refine lv_lload_n hx hb d_M_matches_10 rfl (lv_at hl 2 rfl) ?_
    refine x_cp (k_M_84 (As := [.long y]) (rest := []) hx hb hml hown hts (c_M_length l D cA y) (x_preS hE trivial) rfl hl.1 rfl (Nat.le_of_ble_eq_true rfl) d_M_matches_11 (by decide) ⟨Nat.zero_le _, Nat.zero_le _⟩) ?_
    refine lv_istore (lv' := [(6, .int (nI (tx_n y))), (0, .ref m), (1, .long x), (3, .long y), (5, .int (bI lo))]) hx hb d_M_matches_14 hl (by decide) rfl (fun ls hl => ?_)
    refine lv_iconst (v := 1) hx hb d_M_matches_16 (by decide) ?_
    refine lv_istore (lv' := [(7, .int 1), (6, .int (nI (tx_n y))), (0, .ref m), (1, .long x), (3, .long y), (5, .int (bI lo))]) hx hb d_M_matches_17 hl (by decide) rfl (fun ls hl => ?_)
    refine lv_iconst (v := 0) hx hb d_M_matches_19 (by decide) ?_
    refine lv_istore (lv' := [(8, .int 0), (7, .int 1), (6, .int (nI (tx_n y))), (0, .ref m), (1, .long x), (3, .long y), (5, .int (bI lo))]) hx hb d_M_matches_20 hl (by decide) rfl (fun ls hl => ?_)
    refine x_loop (I := fun r ls => ∃ t, t + r = ts.length ∧ lv_has ls 13 [(8, .int (nI t)), (7, .int (nI (pt_r y lo (ts.take t) 1))), (6, .int (nI (tx_n y))), (0, .ref m), (3, .long y), (5, .int (bI lo))]) (fun r ls ih h => ?_) (ts.length) ⟨0, by omega, (lv_sub hl [0, 1, 2, 3, 5, 6] rfl)⟩
    obtain ⟨t, htr, hl⟩ := h
    have hq := pt_r_lt y lo (ts.take t) (q := 1) (Nat.one_lt_two_pow (by omega))
    generalize hqe : pt_r y lo (ts.take t) 1 = q at hq hl
    have hq5 := pl_512 hy8 hq
    refine lv_iload hx hb d_M_matches_22 (lv_at hl 0 rfl) ?_
    refine lv_aload_n hx hb d_M_matches_24 rfl (lv_at hl 3 rfl) ?_
    refine fg_M_81_M hx hb hown hts hE hW.1 rfl d_M_matches_25 ?_
    refine x_topi (y := nI ts.length) rfl ?_
    refine lv_icmp_ge (tgt := 187) hx hb d_M_matches_28 (by decide) (fun g1 => ?_) (fun g1 => ?_)
    · have g1 := n_ge g1 (by omega) (by omega)
      have hR : pt_m (m_i Y 1) (m_l Y 2) x y lo = q.testBit (tx_n y) := by rw [pt_m_s hk, ← hqe, List.take_of_length_le (by omega)]
      refine lv_iload hx hb d_M_matches_187 (lv_at hl 1 rfl) ?_
      refine lv_iload hx hb d_M_matches_189 (lv_at hl 2 rfl) ?_
      refine lv_ishr hx hb d_M_matches_191 ?_
      refine lv_iconst (v := 1) hx hb d_M_matches_192 (by decide) ?_
      refine lv_iand hx hb d_M_matches_193 ?_
      refine x_topi (y := bI (q.testBit (tx_n y))) (pl_bs _ hq5 _ (by omega)) ?_
      refine lv_iconst (v := 1) hx hb d_M_matches_194 (by decide) ?_
      refine lv_icmp_ne (tgt := 202) hx hb d_M_matches_195 (by decide) (fun b1 => ?_) (fun b1 => ?_)
      · refine lv_iconst (v := 0) hx hb d_M_matches_202 (by decide) ?_
        refine x_topi (y := bI (pt_m (m_i Y 1) (m_l Y 2) x y lo)) (by rw [hR, bI_n1.mp b1]; rfl) ?_
        exact W.zret (ty := .boolean) hx hb hr (bI_z _) (fun t ht _ => ⟨rfl, by rw [ht]; exact ⟨e1, ts.length, f, hW⟩⟩) hF d_M_matches_203
      · refine lv_iconst (v := 1) hx hb d_M_matches_198 (by decide) ?_
        refine lv_goto (tgt := 203) hx hb d_M_matches_199 (by decide) ?_
        refine x_topi (y := bI (pt_m (m_i Y 1) (m_l Y 2) x y lo)) (by rw [hR, bI_1.mp b1]; rfl) ?_
        exact W.zret (ty := .boolean) hx hb hr (bI_z _) (fun t ht _ => ⟨rfl, by rw [ht]; exact ⟨e1, ts.length, f, hW⟩⟩) hF d_M_matches_203
    · have g1 := n_lt g1 (by omega) (by omega)
      have hft : f t = ts.getD t 0 := htk t g1
      have htake := pt_r_take (y := y) (lo := lo) g1 1
      rw [hqe] at htake
      generalize ts.getD t 0 = tk at hft htake
      refine lv_iconst (v := 0) hx hb d_M_matches_31 (by decide) ?_
      refine lv_istore (lv' := [(9, .int 0), (8, .int (nI t)), (7, .int (nI q)), (6, .int (nI (tx_n y))), (0, .ref m), (3, .long y), (5, .int (bI lo))]) hx hb d_M_matches_32 hl (by decide) rfl (fun ls hl => ?_)
      refine lv_iconst (v := 0) hx hb d_M_matches_34 (by decide) ?_
      refine lv_istore (lv' := [(10, .int 0), (9, .int 0), (8, .int (nI t)), (7, .int (nI q)), (6, .int (nI (tx_n y))), (0, .ref m), (3, .long y), (5, .int (bI lo))]) hx hb d_M_matches_35 hl (by decide) rfl (fun ls hl => ?_)
      refine x_loop (I := fun r2 ls => ∃ i, i + r2 = tx_n y + 1 ∧ lv_has ls 13 [(10, .int (nI i)), (9, .int (nI (pm y lo tk q i))), (8, .int (nI t)), (7, .int (nI q)), (6, .int (nI (tx_n y))), (0, .ref m), (3, .long y), (5, .int (bI lo))]) (fun r2 ls ih2 h => ?_) (tx_n y + 1) ⟨0, by omega, by rw [pm_0]; exact (lv_sub hl [0, 1, 2, 3, 4, 5, 6, 7] rfl)⟩
      obtain ⟨i, hir, hl⟩ := h
      refine lv_iload hx hb d_M_matches_37 (lv_at hl 0 rfl) ?_
      refine lv_iload hx hb d_M_matches_39 (lv_at hl 4 rfl) ?_
      refine lv_icmp_gt (tgt := 177) hx hb d_M_matches_41 (by decide) (fun g2 => ?_) (fun g2 => ?_)
      · have g2 := n_gt g2 (by omega) (by omega)
        obtain rfl : i = tx_n y + 1 := by omega
        refine lv_iload hx hb d_M_matches_177 (lv_at hl 1 rfl) ?_
        refine lv_istore (lv' := [(7, .int (nI (pm y lo tk q (tx_n y + 1)))), (10, .int (nI (tx_n y + 1))), (9, .int (nI (pm y lo tk q (tx_n y + 1)))), (8, .int (nI t)), (6, .int (nI (tx_n y))), (0, .ref m), (3, .long y), (5, .int (bI lo))]) hx hb d_M_matches_179 hl (by decide) rfl (fun ls hl => ?_)
        refine lv_iinc (k := 3) (v := nI (t + 1)) (lv' := [(8, .int (nI (t + 1))), (7, .int (nI (pm y lo tk q (tx_n y + 1)))), (10, .int (nI (tx_n y + 1))), (9, .int (nI (pm y lo tk q (tx_n y + 1)))), (6, .int (nI (tx_n y))), (0, .ref m), (3, .long y), (5, .int (bI lo))]) hx hb d_M_matches_181 hl rfl (x_inc _) (by decide) rfl (fun ls hl => ?_)
        refine lv_goto (tgt := 22) hx hb d_M_matches_184 (by decide) ?_
        exact ih (r - 1) _ (by omega) ⟨t + 1, by omega, by
          have h9 := (lv_sub hl [0, 1, 4, 5, 6, 7] rfl)
          rw [htake, ← pm_n]; exact h9⟩
      · have g2 := n_le g2 (by omega) (by omega)
        refine lv_iload hx hb d_M_matches_44 (lv_at hl 3 rfl) ?_
        refine lv_iload hx hb d_M_matches_46 (lv_at hl 0 rfl) ?_
        refine lv_ishr hx hb d_M_matches_48 ?_
        refine lv_iconst (v := 1) hx hb d_M_matches_49 (by decide) ?_
        refine lv_iand hx hb d_M_matches_50 ?_
        refine x_topi (y := bI (q.testBit i)) (pl_bs _ hq5 _ (by omega)) ?_
        refine lv_iconst (v := 1) hx hb d_M_matches_51 (by decide) ?_
        refine lv_icmp_ne (tgt := 59) hx hb d_M_matches_52 (by decide) (fun b1 => ?_) (fun b1 => ?_)
        · refine lv_iconst (v := 0) hx hb d_M_matches_59 (by decide) ?_
          refine lv_istore (lv' := [(11, .int 0), (10, .int (nI i)), (9, .int (nI (pm y lo tk q i))), (8, .int (nI t)), (7, .int (nI q)), (6, .int (nI (tx_n y))), (0, .ref m), (3, .long y), (5, .int (bI lo))]) hx hb d_M_matches_60 hl (by decide) rfl (fun ls hl => ?_)
          refine lv_iload hx hb d_M_matches_62 (lv_at hl 0 rfl) ?_
          refine lv_if_eq (tgt := 109) hx hb d_M_matches_64 (by decide) (fun hk => ?_) (fun hk => ?_)
          · refine lv_iload hx hb d_M_matches_109 (lv_at hl 0 rfl) ?_
            refine lv_if_eq (tgt := 171) hx hb d_M_matches_111 (by decide) (fun hk => ?_) (fun hk => ?_)
            · refine lv_iinc (k := 1) (v := nI (i + 1)) (lv' := [(10, .int (nI (i + 1))), (11, .int 0), (9, .int (nI (pm y lo tk q i))), (8, .int (nI t)), (7, .int (nI q)), (6, .int (nI (tx_n y))), (0, .ref m), (3, .long y), (5, .int (bI lo))]) hx hb d_M_matches_171 hl rfl (x_inc _) (by decide) rfl (fun ls hl => ?_)
              refine lv_goto (tgt := 37) hx hb d_M_matches_174 (by decide) ?_
              exact ih2 (r2 - 1) _ (by omega) ⟨i + 1, by omega, by
                have h9 := (lv_sub hl [0, 2, 3, 4, 5, 6, 7, 8] rfl)
                rw [pm_no (bI_n1.mp b1)]; exact h9⟩
            · exact absurd hk (by decide)
          · exact absurd hk (by decide)
        · have b1 := bI_1.mp b1
          refine lv_iconst (v := 1) hx hb d_M_matches_55 (by decide) ?_
          refine lv_goto (tgt := 60) hx hb d_M_matches_56 (by decide) ?_
          refine lv_istore (lv' := [(11, .int 1), (10, .int (nI i)), (9, .int (nI (pm y lo tk q i))), (8, .int (nI t)), (7, .int (nI q)), (6, .int (nI (tx_n y))), (0, .ref m), (3, .long y), (5, .int (bI lo))]) hx hb d_M_matches_60 hl (by decide) rfl (fun ls hl => ?_)
          refine lv_iload hx hb d_M_matches_62 (lv_at hl 0 rfl) ?_
          refine lv_if_eq (tgt := 109) hx hb d_M_matches_64 (by decide) (fun hk => ?_) (fun hk => ?_)
          · exact absurd hk (by decide)
          · refine lv_aload_n hx hb d_M_matches_67 rfl (lv_at hl 6 rfl) ?_
            refine fg_M_74_M hx hb hown hts hE hW.1 rfl d_M_matches_68 ?_
            refine lv_iload hx hb d_M_matches_71 (lv_at hl 3 rfl) ?_
            refine x_iald hx hb hE.2.2 (show va_at D x_cl (m + 20, .inl (cA 0, 40, .inl (m_i (m_tk Y ts.length f) 20))) _ from hW.2 20 (by decide) (by decide)) 0 rfl (by omega) (by decide) d_M_matches_73 ?_
            refine x_topi (y := tk) (by rw [m_tk_20, hft]) ?_
            refine lv_sipush (v := 256) hx hb d_M_matches_74 (by decide) ?_
            refine lv_icmp_ne (tgt := 109) hx hb d_M_matches_77 (by decide) (fun t256 => ?_) (fun t256 => ?_)
            · refine lv_iload hx hb d_M_matches_109 (lv_at hl 0 rfl) ?_
              refine lv_if_eq (tgt := 171) hx hb d_M_matches_111 (by decide) (fun hk => ?_) (fun hk => ?_)
              · exact absurd hk (by decide)
              · refine lv_iload hx hb d_M_matches_114 (lv_at hl 1 rfl) ?_
                refine lv_iload hx hb d_M_matches_116 (lv_at hl 5 rfl) ?_
                refine lv_icmp_ge (tgt := 171) hx hb d_M_matches_118 (by decide) (fun g4 => ?_) (fun g4 => ?_)
                · have g4 := n_ge g4 (by omega) (by omega)
                  refine lv_iinc (k := 1) (v := nI (i + 1)) (lv' := [(10, .int (nI (i + 1))), (11, .int 1), (9, .int (nI (pm y lo tk q i))), (8, .int (nI t)), (7, .int (nI q)), (6, .int (nI (tx_n y))), (0, .ref m), (3, .long y), (5, .int (bI lo))]) hx hb d_M_matches_171 hl rfl (x_inc _) (by decide) rfl (fun ls hl => ?_)
                  refine lv_goto (tgt := 37) hx hb d_M_matches_174 (by decide) ?_
                  exact ih2 (r2 - 1) _ (by omega) ⟨i + 1, by omega, by
                    have h9 := (lv_sub hl [0, 2, 3, 4, 5, 6, 7, 8] rfl)
                    rw [pm_end t256 g4]; exact h9⟩
                · have g4 := n_lt g4 (by omega) (by omega)
                  refine lv_aload_n hx hb d_M_matches_121 rfl (lv_at hl 6 rfl) ?_
                  refine fg_M_74_M hx hb hown hts hE hW.1 rfl d_M_matches_122 ?_
                  refine lv_iload hx hb d_M_matches_125 (lv_at hl 3 rfl) ?_
                  refine x_iald hx hb hE.2.2 (show va_at D x_cl (m + 20, .inl (cA 0, 40, .inl (m_i (m_tk Y ts.length f) 20))) _ from hW.2 20 (by decide) (by decide)) 0 rfl (by omega) (by decide) d_M_matches_127 ?_
                  refine x_topi (y := tk) (by rw [m_tk_20, hft]) ?_
                  refine lv_sipush (v := 257) hx hb d_M_matches_128 (by decide) ?_
                  refine lv_icmp_eq (tgt := 160) hx hb d_M_matches_131 (by decide) (fun t257 => ?_) (fun t257 => ?_)
                  · refine lv_iload hx hb d_M_matches_160 (lv_at hl 2 rfl) ?_
                    refine lv_iconst (v := 1) hx hb d_M_matches_162 (by decide) ?_
                    refine lv_iload hx hb d_M_matches_163 (lv_at hl 1 rfl) ?_
                    refine lv_iconst (v := 1) hx hb d_M_matches_165 (by decide) ?_
                    refine lv_iadd hx hb d_M_matches_166 ?_
                    refine x_topi (y := nI (i + 1)) (nI_succ i).symm ?_
                    refine lv_ishl hx hb d_M_matches_167 ?_
                    refine lv_ior hx hb d_M_matches_168 ?_
                    refine x_topi (y := nI (pm y lo tk q (i + 1))) (by rw [pl_s1 _ (by omega), nI_or, pm_yes t256 g4 b1 (Or.inl t257)]) ?_
                    refine lv_istore (lv' := [(9, .int (nI (pm y lo tk q (i + 1)))), (11, .int 1), (10, .int (nI i)), (8, .int (nI t)), (7, .int (nI q)), (6, .int (nI (tx_n y))), (0, .ref m), (3, .long y), (5, .int (bI lo))]) hx hb d_M_matches_169 hl (by decide) rfl (fun ls hl => ?_)
                    refine lv_iinc (k := 2) (v := nI (i + 1)) (lv' := [(10, .int (nI (i + 1))), (9, .int (nI (pm y lo tk q (i + 1)))), (11, .int 1), (8, .int (nI t)), (7, .int (nI q)), (6, .int (nI (tx_n y))), (0, .ref m), (3, .long y), (5, .int (bI lo))]) hx hb d_M_matches_171 hl rfl (x_inc _) (by decide) rfl (fun ls hl => ?_)
                    refine lv_goto (tgt := 37) hx hb d_M_matches_174 (by decide) ?_
                    exact ih2 (r2 - 1) _ (by omega) ⟨i + 1, by omega, (lv_sub hl [0, 1, 3, 4, 5, 6, 7, 8] rfl)⟩
                  · refine lv_aload_n hx hb d_M_matches_134 rfl (lv_at hl 6 rfl) ?_
                    refine fg_M_74_M hx hb hown hts hE hW.1 rfl d_M_matches_135 ?_
                    refine lv_iload hx hb d_M_matches_138 (lv_at hl 3 rfl) ?_
                    refine x_iald hx hb hE.2.2 (show va_at D x_cl (m + 20, .inl (cA 0, 40, .inl (m_i (m_tk Y ts.length f) 20))) _ from hW.2 20 (by decide) (by decide)) 0 rfl (by omega) (by decide) d_M_matches_140 ?_
                    refine x_topi (y := tk) (by rw [m_tk_20, hft]) ?_
                    refine lv_iload hx hb d_M_matches_141 (lv_at hl 8 rfl) ?_
                    refine x_cp (k_M_96 (As := [.int tk, .int (bI lo)]) (rest := []) hx hb hml hown hts (c_M_fold l D cA tk lo) (x_preS hE trivial) rfl hl.1 rfl (Nat.le_of_ble_eq_true rfl) d_M_matches_143 (by decide) ⟨Nat.zero_le _, Nat.zero_le _⟩) ?_
                    refine lv_lload_n hx hb d_M_matches_146 rfl (lv_at hl 7 rfl) ?_
                    refine lv_iload hx hb d_M_matches_147 (lv_at hl 1 rfl) ?_
                    refine x_cp (k_M_77 (As := [.long y, .int (nI i)]) (rest := [.int (tx_lo tk lo)]) hx hb hml hown hts (c_M_charAt l D cA y i) (x_preS hE trivial) rfl hl.1 rfl (Nat.le_of_ble_eq_true rfl) d_M_matches_149 (by decide) ⟨Nat.zero_le _, Nat.zero_le _⟩) ?_
                    refine lv_iload hx hb d_M_matches_152 (lv_at hl 8 rfl) ?_
                    refine x_cp (k_M_96 (As := [.int (tx_c y i), .int (bI lo)]) (rest := [.int (tx_lo tk lo)]) hx hb hml hown hts (c_M_fold l D cA (tx_c y i) lo) (x_preS hE trivial) rfl hl.1 rfl (Nat.le_of_ble_eq_true rfl) d_M_matches_154 (by decide) ⟨Nat.zero_le _, Nat.zero_le _⟩) ?_
                    refine lv_icmp_ne (tgt := 171) hx hb d_M_matches_157 (by decide) (fun fo => ?_) (fun fo => ?_)
                    · refine lv_iinc (k := 1) (v := nI (i + 1)) (lv' := [(10, .int (nI (i + 1))), (11, .int 1), (9, .int (nI (pm y lo tk q i))), (8, .int (nI t)), (7, .int (nI q)), (6, .int (nI (tx_n y))), (0, .ref m), (3, .long y), (5, .int (bI lo))]) hx hb d_M_matches_171 hl rfl (x_inc _) (by decide) rfl (fun ls hl => ?_)
                      refine lv_goto (tgt := 37) hx hb d_M_matches_174 (by decide) ?_
                      exact ih2 (r2 - 1) _ (by omega) ⟨i + 1, by omega, by
                        have h9 := (lv_sub hl [0, 2, 3, 4, 5, 6, 7, 8] rfl)
                        rw [pm_not t256 t257 fo]; exact h9⟩
                    · refine lv_iload hx hb d_M_matches_160 (lv_at hl 2 rfl) ?_
                      refine lv_iconst (v := 1) hx hb d_M_matches_162 (by decide) ?_
                      refine lv_iload hx hb d_M_matches_163 (lv_at hl 1 rfl) ?_
                      refine lv_iconst (v := 1) hx hb d_M_matches_165 (by decide) ?_
                      refine lv_iadd hx hb d_M_matches_166 ?_
                      refine x_topi (y := nI (i + 1)) (nI_succ i).symm ?_
                      refine lv_ishl hx hb d_M_matches_167 ?_
                      refine lv_ior hx hb d_M_matches_168 ?_
                      refine x_topi (y := nI (pm y lo tk q (i + 1))) (by rw [pl_s1 _ (by omega), nI_or, pm_yes t256 g4 b1 (Or.inr fo)]) ?_
                      refine lv_istore (lv' := [(9, .int (nI (pm y lo tk q (i + 1)))), (11, .int 1), (10, .int (nI i)), (8, .int (nI t)), (7, .int (nI q)), (6, .int (nI (tx_n y))), (0, .ref m), (3, .long y), (5, .int (bI lo))]) hx hb d_M_matches_169 hl (by decide) rfl (fun ls hl => ?_)
                      refine lv_iinc (k := 2) (v := nI (i + 1)) (lv' := [(10, .int (nI (i + 1))), (9, .int (nI (pm y lo tk q (i + 1)))), (11, .int 1), (8, .int (nI t)), (7, .int (nI q)), (6, .int (nI (tx_n y))), (0, .ref m), (3, .long y), (5, .int (bI lo))]) hx hb d_M_matches_171 hl rfl (x_inc _) (by decide) rfl (fun ls hl => ?_)
                      refine lv_goto (tgt := 37) hx hb d_M_matches_174 (by decide) ?_
                      exact ih2 (r2 - 1) _ (by omega) ⟨i + 1, by omega, (lv_sub hl [0, 1, 3, 4, 5, 6, 7, 8] rfl)⟩
            · refine lv_iload hx hb d_M_matches_80 (lv_at hl 1 rfl) ?_
              refine lv_istore (lv' := [(12, .int (nI i)), (11, .int 1), (10, .int (nI i)), (9, .int (nI (pm y lo tk q i))), (8, .int (nI t)), (7, .int (nI q)), (6, .int (nI (tx_n y))), (0, .ref m), (3, .long y), (5, .int (bI lo))]) hx hb d_M_matches_82 hl (by decide) rfl (fun ls hl => ?_)
              refine x_loop (I := fun r3 ls => ∃ j, j + r3 = tx_n y + 1 ∧ i ≤ j ∧ lv_has ls 13 [(12, .int (nI j)), (9, .int (nI (pm y lo tk q i ||| (2 ^ j - 2 ^ i)))), (10, .int (nI i)), (8, .int (nI t)), (7, .int (nI q)), (6, .int (nI (tx_n y))), (0, .ref m), (3, .long y), (5, .int (bI lo))]) (fun r3 ls ih3 h => ?_) (tx_n y + 1 - i) ⟨i, by omega, Nat.le_refl _, by rw [Nat.sub_self, Nat.or_zero]; exact (lv_sub hl [0, 3, 2, 4, 5, 6, 7, 8, 9] rfl)⟩
              obtain ⟨j, hjr, hij, hl⟩ := h
              refine lv_iload hx hb d_M_matches_84 (lv_at hl 0 rfl) ?_
              refine lv_iload hx hb d_M_matches_86 (lv_at hl 5 rfl) ?_
              refine lv_icmp_gt (tgt := 106) hx hb d_M_matches_88 (by decide) (fun g3 => ?_) (fun g3 => ?_)
              · have g3 := n_gt g3 (by omega) (by omega)
                obtain rfl : j = tx_n y + 1 := by omega
                refine lv_goto (tgt := 171) hx hb d_M_matches_106 (by decide) ?_
                refine lv_iinc (k := 2) (v := nI (i + 1)) (lv' := [(10, .int (nI (i + 1))), (12, .int (nI (tx_n y + 1))), (9, .int (nI (pm y lo tk q i ||| (2 ^ (tx_n y + 1) - 2 ^ i)))), (8, .int (nI t)), (7, .int (nI q)), (6, .int (nI (tx_n y))), (0, .ref m), (3, .long y), (5, .int (bI lo))]) hx hb d_M_matches_171 hl rfl (x_inc _) (by decide) rfl (fun ls hl => ?_)
                refine lv_goto (tgt := 37) hx hb d_M_matches_174 (by decide) ?_
                exact ih2 (r2 - 1) _ (by omega) ⟨i + 1, by omega, by
                  have h9 := (lv_sub hl [0, 2, 3, 4, 5, 6, 7, 8] rfl)
                  rw [t256] at h9 ⊢; rw [pm_any b1]; exact h9⟩
              · have g3 := n_le g3 (by omega) (by omega)
                refine lv_iload hx hb d_M_matches_91 (lv_at hl 1 rfl) ?_
                refine lv_iconst (v := 1) hx hb d_M_matches_93 (by decide) ?_
                refine lv_iload hx hb d_M_matches_94 (lv_at hl 0 rfl) ?_
                refine lv_ishl hx hb d_M_matches_96 ?_
                refine lv_ior hx hb d_M_matches_97 ?_
                refine x_topi (y := nI (pm y lo tk q i ||| (2 ^ (j + 1) - 2 ^ i))) (by rw [pl_s1 _ (by omega), nI_or, pl_or1 j (by omega) i (by omega) hij]) ?_
                refine lv_istore (lv' := [(9, .int (nI (pm y lo tk q i ||| (2 ^ (j + 1) - 2 ^ i)))), (12, .int (nI j)), (10, .int (nI i)), (8, .int (nI t)), (7, .int (nI q)), (6, .int (nI (tx_n y))), (0, .ref m), (3, .long y), (5, .int (bI lo))]) hx hb d_M_matches_98 hl (by decide) rfl (fun ls hl => ?_)
                refine lv_iinc (k := 1) (v := nI (j + 1)) (lv' := [(12, .int (nI (j + 1))), (9, .int (nI (pm y lo tk q i ||| (2 ^ (j + 1) - 2 ^ i)))), (10, .int (nI i)), (8, .int (nI t)), (7, .int (nI q)), (6, .int (nI (tx_n y))), (0, .ref m), (3, .long y), (5, .int (bI lo))]) hx hb d_M_matches_100 hl rfl (x_inc _) (by decide) rfl (fun ls hl => ?_)
                refine lv_goto (tgt := 84) hx hb d_M_matches_103 (by decide) ?_
                exact ih3 (r3 - 1) _ (by omega) ⟨j + 1, by omega, by omega, (lv_sub hl [0, 1, 2, 3, 4, 5, 6, 7, 8] rfl)⟩
  · refine lv_iconst (v := 0) hx hb d_M_matches_8 (by decide) ?_
    refine x_topi (y := bI (pt_m (m_i Y 1) (m_l Y 2) x y lo)) (by rw [pt_m_n (bI_0.mp hs)]; rfl) ?_
    exact W.zret (ty := .boolean) hx hb hr (bI_z _) (fun t ht _ => ⟨rfl, by rw [ht]; exact ⟨e1, ts.length, f, hW⟩⟩) hF d_M_matches_9
