/-! stating -/
def q_sok (l h w : Int32) : Bool := q_L l && decide (0 ≤ h ∧ h ≤ 15) && q_may l w
def q_sc (h : Int32) : Bool := decide (8 ≤ h)
def q_sb (X : d_T) (l h w : Int32) : Bool := q_sok l h w && !(q_sc h && decide (d_n X = 0))
def q_state (X : d_T) (l h w : Int32) : Int32 := if q_sb X l h w then (if 6 ≤ d_k X l.toNatClampNeg then -3 else nI (d_k X l.toNatClampNeg)) else -2
def q_smk (X : d_T) (l h w : Int32) : Bool := q_sb X l h w && decide (d_k X l.toNatClampNeg < 6)
def z_state (X : d_T) (l h : Int32) (a t : Int64) (w : Int32) : d_T := if q_smk X l h w then d_setL (if q_sc h then d_setN X (d_n X - 1) else X) l.toNatClampNeg (d_k X l.toNatClampNeg + 1) true (d_j X l.toNatClampNeg) (va_up (d_s X l.toNatClampNeg) (d_k X l.toNatClampNeg) (h.toNatClampNeg, a, t, w, if q_sc h then some (d_p X (d_n X - 1)) else none)) else X
theorem mk_8 : ∀ k, k < 16 → ((nI k &&& 8) = 0 ↔ ¬ (8 : Int32) ≤ nI k) := by decide +kernel
set_option maxHeartbeats 4000000 in
set_option maxRecDepth 100000 in
theorem c_DL_state (l : Launch) (D : va_G) (cA : Nat → ClassId) (N : n_T) (o : Nat) (X : d_T) (made : Nat) (hdo : d_ok made X) (k h : Int32) (a t : Int64) (w : Int32) : Met l y_DL_state [.code y_DL_state b_DL_state 10 (some .int)] (x_rm 2 0 0) (x_P D cA [.ref o, .int k, .int h, .long a, .long t, .int w] (fun H => d_W D cA N o X H)) (x_Q (some (.int (q_state X k h w))) (fun H H1 => x_F (d_A o) H H1 ∧ d_W D cA N o (z_state X k h a t w) H1)) 0 0 (d_A o) := by
  refine x_met (own := "DecisionLayers") (by decide) rfl (Nat.le_of_ble_eq_true rfl) ?_
  intro pp ee s mm below mt cd ls hx hb hr hlk hnm hml hown hts hE hP hl
  have hl : lv_has ls 10 [(0, .ref o), (1, .int k), (2, .int h), (3, .long a), (5, .long t), (7, .int w)] := hl
  have hF : ∀ q ∈ ([] : List Loc), d_A o q.base := t_nil
  obtain ⟨hO, hV, hC, hLa, hLy⟩ := id hP
  obtain ⟨hn8, hpm, -, hlk9, -⟩ := id hdo
  refine lv_iload_n hx hb d_DL_state_0 rfl (lv_at hl 1 rfl) ?_
  refine x_cp (k_DL_62 (As := [.int k]) (rest := []) hx hb hml hown hts (c_DL_isLayer l D cA k) (x_preS hE trivial) rfl hl.1 rfl (Nat.le_of_ble_eq_true rfl) d_DL_state_1 (by decide) ⟨Nat.zero_le _, Nat.zero_le _⟩) ?_
  refine lv_if_eq (tgt := 26) hx hb d_DL_state_4 (by decide) (fun h1 => ?_) (fun h1 => ?_)
  · have hb9 : q_sb X k h w = false := by unfold q_sb; rw [show q_sok k h w = false by unfold q_sok; rw [bI_0.mp h1]; rfl]; rfl
    have hm : q_smk X k h w = false := by unfold q_smk; rw [hb9]; rfl
    refine lv_bipush (v := (-2)) hx hb d_DL_state_26 (by decide) ?_
    refine x_topi (y := q_state X k h w) (by unfold q_state; rw [hb9]; rfl) ?_
    exact W.iret hx hb hr (fun t ht hW => ⟨rfl, by rw [ht]; exact ⟨x_F.rf, by unfold z_state; rw [hm]; exact hP⟩⟩) hF d_DL_state_28
  · refine lv_iload_n hx hb d_DL_state_7 rfl (lv_at hl 2 rfl) ?_
    refine lv_if_lt (tgt := 26) hx hb d_DL_state_8 (by decide) (fun h2 => ?_) (fun h2 => ?_)
    · have hb9 : q_sb X k h w = false := by unfold q_sb; rw [show q_sok k h w = false by unfold q_sok; rw [show decide (0 ≤ h ∧ h ≤ 15) = false from decide_eq_false (fun z => absurd h2 (Int32.not_lt.mpr z.1))]; simp]; rfl
      have hm : q_smk X k h w = false := by unfold q_smk; rw [hb9]; rfl
      refine lv_bipush (v := (-2)) hx hb d_DL_state_26 (by decide) ?_
      refine x_topi (y := q_state X k h w) (by unfold q_state; rw [hb9]; rfl) ?_
      exact W.iret hx hb hr (fun t ht hW => ⟨rfl, by rw [ht]; exact ⟨x_F.rf, by unfold z_state; rw [hm]; exact hP⟩⟩) hF d_DL_state_28
    · refine lv_iload_n hx hb d_DL_state_11 rfl (lv_at hl 2 rfl) ?_
      refine lv_bipush (v := 15) hx hb d_DL_state_12 (by decide) ?_
      refine lv_icmp_gt (tgt := 26) hx hb d_DL_state_14 (by decide) (fun h3 => ?_) (fun h3 => ?_)
      · have hb9 : q_sb X k h w = false := by unfold q_sb; rw [show q_sok k h w = false by unfold q_sok; rw [show decide (0 ≤ h ∧ h ≤ 15) = false from decide_eq_false (fun z => absurd h3 (Int32.not_lt.mpr z.2))]; simp]; rfl
        have hm : q_smk X k h w = false := by unfold q_smk; rw [hb9]; rfl
        refine lv_bipush (v := (-2)) hx hb d_DL_state_26 (by decide) ?_
        refine x_topi (y := q_state X k h w) (by unfold q_state; rw [hb9]; rfl) ?_
        exact W.iret hx hb hr (fun t ht hW => ⟨rfl, by rw [ht]; exact ⟨x_F.rf, by unfold z_state; rw [hm]; exact hP⟩⟩) hF d_DL_state_28
      · refine lv_iload_n hx hb d_DL_state_17 rfl (lv_at hl 1 rfl) ?_
        refine lv_iload hx hb d_DL_state_18 (lv_at hl 5 rfl) ?_
        refine x_cp (k_DL_67 (As := [.int k, .int w]) (rest := []) hx hb hml hown hts (c_DL_mayStandIn l D cA k w) (x_preS hE trivial) rfl hl.1 rfl (Nat.le_of_ble_eq_true rfl) d_DL_state_20 (by decide) ⟨Nat.zero_le _, Nat.zero_le _⟩) ?_
        refine lv_if_ne (tgt := 29) hx hb d_DL_state_23 (by decide) (fun h4 => ?_) (fun h4 => ?_)
        · have hsk : q_sok k h w = true := by unfold q_sok; rw [bI_n0.mp h1, decide_eq_true ⟨Int32.not_lt.mp h2, Int32.not_lt.mp h3⟩, bI_n0.mp h4]; rfl
          obtain ⟨j, hj, rfl⟩ := q_L_in (bI_n0.mp h1)
          obtain ⟨hh, hhh, rfl⟩ := nI_of h2
          have h15 : hh ≤ 15 := n_le (i := hh) (k := 15) h3 (by decide) hhh
          have hcl : (nI j).toNatClampNeg = j := nI_clamp (by omega)
          have hch : (nI hh).toNatClampNeg = hh := nI_clamp (by omega)
          have hc6 := (hlk9 j hj).1
          refine lv_iload_n hx hb d_DL_state_29 rfl (lv_at hl 2 rfl) ?_
          refine lv_bipush (v := 8) hx hb d_DL_state_30 (by decide) ?_
          refine lv_iand hx hb d_DL_state_32 ?_
          refine lv_if_eq (tgt := 40) hx hb d_DL_state_33 (by decide) (fun h5 => ?_) (fun h5 => ?_)
          · have hsc : q_sc (nI hh) = false := decide_eq_false ((mk_8 hh (by omega)).mp h5)
            have hb9 : q_sb X (nI j) (nI hh) w = true := by unfold q_sb; rw [hsk, hsc]; rfl
            refine lv_iconst (v := 0) hx hb d_DL_state_40 (by decide) ?_
            refine lv_istore (lv' := [(8, .int 0), (0, .ref o), (1, .int (nI j)), (2, .int (nI hh)), (3, .long a), (5, .long t), (7, .int w)]) hx hb d_DL_state_41 hl (by decide) rfl (fun ls hl => ?_)
            refine lv_iload hx hb d_DL_state_43 (lv_at hl 0 rfl) ?_
            refine lv_if_eq (tgt := 58) hx hb d_DL_state_45 (by decide) (fun hk => ?_) (fun hk => ?_)
            · refine lv_aload_n hx hb d_DL_state_58 rfl (lv_at hl 1 rfl) ?_
              refine fg_DL_24_DL hx hb hown hts hE hO rfl d_DL_state_59 ?_
              refine lv_iload_n hx hb d_DL_state_62 rfl (lv_at hl 2 rfl) ?_
              refine x_aald hx hb hE.2.2 hLa 5 rfl hj (by decide) d_DL_state_63 ?_
              refine x_topv (y := .ref (o + 6 + 8 * j)) (rfl) ?_
              refine x_cp (k_DL_71 (As := []) (rest := []) hx hb hml hown hts (c_Layer_isFull l D cA N (o + 6 + 8 * j) (d_k X j) (d_b X j) (d_j X j) (d_s X j) hc6) (x_preV hE (hLy j hj).1 rfl rfl (hLy j hj)) rfl hl.1 rfl (Nat.le_of_ble_eq_true rfl) d_DL_state_64 (by decide) ⟨Nat.zero_le _, Nat.zero_le _⟩) ?_
              refine lv_if_eq (tgt := 73) hx hb d_DL_state_67 (by decide) (fun h6 => ?_) (fun h6 => ?_)
              · have h6 : d_k X j < 6 := Nat.not_le.mp (of_decide_eq_false (bI_0.mp h6))
                have hm : q_smk X (nI j) (nI hh) w = true := by unfold q_smk; rw [hb9, hcl, decide_eq_true h6]; rfl
                refine lv_iload hx hb d_DL_state_73 (lv_at hl 0 rfl) ?_
                refine lv_if_eq (tgt := 85) hx hb d_DL_state_75 (by decide) (fun hk => ?_) (fun hk => ?_)
                · refine lv_null hx hb d_DL_state_85 ?_
                  refine lv_astoreN (lv' := [(9, .null), (8, .int 0), (0, .ref o), (1, .int (nI j)), (2, .int (nI hh)), (3, .long a), (5, .long t), (7, .int w)]) hx hb d_DL_state_86 hl (by decide) rfl (fun ls hl => ?_)
                  refine lv_aload_n hx hb d_DL_state_88 rfl (lv_at hl 2 rfl) ?_
                  refine fg_DL_24_DL hx hb hown hts hE hO rfl d_DL_state_89 ?_
                  refine lv_iload_n hx hb d_DL_state_92 rfl (lv_at hl 3 rfl) ?_
                  refine x_aald hx hb hE.2.2 hLa 5 rfl hj (by decide) d_DL_state_93 ?_
                  refine x_topv (y := .ref (o + 6 + 8 * j)) (rfl) ?_
                  refine lv_iload_n hx hb d_DL_state_94 rfl (lv_at hl 4 rfl) ?_
                  refine lv_lload_n hx hb d_DL_state_95 rfl (lv_at hl 5 rfl) ?_
                  refine lv_lload hx hb d_DL_state_96 (lv_at hl 6 rfl) ?_
                  refine lv_iload hx hb d_DL_state_98 (lv_at hl 7 rfl) ?_
                  refine lv_aloadN hx hb d_DL_state_100 (lv_at hl 0 rfl) ?_
                  refine x_cw (k_DL_75 (As := [.int (nI hh), .long a, .long t, .int w, .null]) (rest := []) hx hb hml hown hts (c_Layer_append_N l D cA N (o + 6 + 8 * j) (d_k X j) (d_b X j) (d_j X j) (d_s X j) h6 hh a t w) (x_preV hE (hLy j hj).1 rfl rfl (hLy j hj)) rfl hl.1 rfl (Nat.le_of_ble_eq_true rfl) d_DL_state_102 (by decide) ⟨Nat.zero_le _, Nat.zero_le _⟩) (fun H1 L1 p1 f1 => ?_)
                  have hF := t_lL hF (fun q h => (show ∀ q : Nat, x_A [o + 6 + 8 * j, o + 6 + 8 * j + 2 + d_k X j] q → d_A o q from fun q h => by have := x_A2.mp h; exact d_A_in (by omega) (by omega)) q.base (f1 q h))
                  have hd := hP.lay (l := j) p1.1 (fun q h => by have := x_A2.mp h; omega) p1.2
                  refine x_topi (y := q_state X (nI j) (nI hh) w) (by unfold q_state; rw [hb9, if_pos rfl, hcl, if_neg (by omega)]) ?_
                  exact W.iret hx hb hr (fun t ht hW => ⟨rfl, by rw [ht]; exact ⟨p1.1.mono (fun q h => by have := x_A2.mp h; exact d_A_in (by omega) (by omega)), by unfold z_state; rw [hm, if_pos rfl, hcl, hch, hsc]; exact hd⟩⟩) hF d_DL_state_105
                · exact absurd hk (by decide)
              · have h6 := of_decide_eq_true (bI_n0.mp h6)
                have hm : q_smk X (nI j) (nI hh) w = false := by unfold q_smk; rw [hcl, decide_eq_false (show ¬ d_k X j < 6 by omega)]; simp
                refine lv_bipush (v := (-3)) hx hb d_DL_state_70 (by decide) ?_
                refine x_topi (y := q_state X (nI j) (nI hh) w) (by unfold q_state; rw [hb9, if_pos rfl, hcl, if_pos h6]) ?_
                exact W.iret hx hb hr (fun t ht hW => ⟨rfl, by rw [ht]; exact ⟨x_F.rf, by unfold z_state; rw [hm]; exact hP⟩⟩) hF d_DL_state_72
            · exact absurd hk (by decide)
          · have hsc : q_sc (nI hh) = true := decide_eq_true (Decidable.byContradiction (fun z => h5 ((mk_8 hh (by omega)).mpr z)))
            refine lv_iconst (v := 1) hx hb d_DL_state_36 (by decide) ?_
            refine lv_goto (tgt := 41) hx hb d_DL_state_37 (by decide) ?_
            refine lv_istore (lv' := [(8, .int 1), (0, .ref o), (1, .int (nI j)), (2, .int (nI hh)), (3, .long a), (5, .long t), (7, .int w)]) hx hb d_DL_state_41 hl (by decide) rfl (fun ls hl => ?_)
            refine lv_iload hx hb d_DL_state_43 (lv_at hl 0 rfl) ?_
            refine lv_if_eq (tgt := 58) hx hb d_DL_state_45 (by decide) (fun hk => ?_) (fun hk => ?_)
            · exact absurd hk (by decide)
            · refine lv_aload_n hx hb d_DL_state_48 rfl (lv_at hl 1 rfl) ?_
              refine fg_DL_29_DL hx hb hown hts hE hO rfl d_DL_state_49 ?_
              refine lv_if_ne (tgt := 58) hx hb d_DL_state_52 (by decide) (fun h7 => ?_) (fun h7 => ?_)
              · have hn0 : ¬ d_n X = 0 := fun z => h7 (by rw [z]; rfl)
                have hb9 : q_sb X (nI j) (nI hh) w = true := by unfold q_sb; rw [hsk, decide_eq_false hn0]; simp
                obtain ⟨q, hq⟩ : ∃ q, d_n X = q + 1 := ⟨d_n X - 1, by omega⟩
                refine lv_aload_n hx hb d_DL_state_58 rfl (lv_at hl 1 rfl) ?_
                refine fg_DL_24_DL hx hb hown hts hE hO rfl d_DL_state_59 ?_
                refine lv_iload_n hx hb d_DL_state_62 rfl (lv_at hl 2 rfl) ?_
                refine x_aald hx hb hE.2.2 hLa 5 rfl hj (by decide) d_DL_state_63 ?_
                refine x_topv (y := .ref (o + 6 + 8 * j)) (rfl) ?_
                refine x_cp (k_DL_71 (As := []) (rest := []) hx hb hml hown hts (c_Layer_isFull l D cA N (o + 6 + 8 * j) (d_k X j) (d_b X j) (d_j X j) (d_s X j) hc6) (x_preV hE (hLy j hj).1 rfl rfl (hLy j hj)) rfl hl.1 rfl (Nat.le_of_ble_eq_true rfl) d_DL_state_64 (by decide) ⟨Nat.zero_le _, Nat.zero_le _⟩) ?_
                refine lv_if_eq (tgt := 73) hx hb d_DL_state_67 (by decide) (fun h6 => ?_) (fun h6 => ?_)
                · have h6 : d_k X j < 6 := Nat.not_le.mp (of_decide_eq_false (bI_0.mp h6))
                  have hm : q_smk X (nI j) (nI hh) w = true := by unfold q_smk; rw [hb9, hcl, decide_eq_true h6]; rfl
                  refine lv_iload hx hb d_DL_state_73 (lv_at hl 0 rfl) ?_
                  refine lv_if_eq (tgt := 85) hx hb d_DL_state_75 (by decide) (fun hk => ?_) (fun hk => ?_)
                  · exact absurd hk (by decide)
                  · refine lv_aload_n hx hb d_DL_state_78 rfl (lv_at hl 1 rfl) ?_
                    refine x_cw (k_DL_55 (As := []) (rest := []) hx hb hml hown hts (c_DL_pop_S l D cA N o X q hq hn8) (x_preV hE hO rfl rfl hP) rfl hl.1 rfl (Nat.le_of_ble_eq_true rfl) d_DL_state_79 (by decide) ⟨Nat.zero_le _, Nat.zero_le _⟩) (fun H1 L1 p1 f1 => ?_)
                    have hF := t_lL hF (fun q h => (show ∀ q : Nat, x_A [o, o + 4] q → d_A o q from fun q h => by have := x_A2.mp h; exact d_A_in (by omega) (by omega)) q.base (f1 q h))
                    obtain ⟨hO1, hV1, hC1, hLa1, hLy1⟩ := id p1.2
                    refine lv_goto (tgt := 86) hx hb d_DL_state_82 (by decide) ?_
                    refine lv_astore (lv' := [(9, .ref (n_ad N (d_p X q))), (8, .int 1), (0, .ref o), (1, .int (nI j)), (2, .int (nI hh)), (3, .long a), (5, .long t), (7, .int w)]) hx hb d_DL_state_86 hl (by decide) rfl (fun ls hl => ?_)
                    refine lv_aload_n hx hb d_DL_state_88 rfl (lv_at hl 2 rfl) ?_
                    refine fg_DL_24_DL hx hb hown hts hE hO1 rfl d_DL_state_89 ?_
                    refine lv_iload_n hx hb d_DL_state_92 rfl (lv_at hl 3 rfl) ?_
                    refine x_aald hx hb hE.2.2 hLa1 5 rfl hj (by decide) d_DL_state_93 ?_
                    refine x_topv (y := .ref (o + 6 + 8 * j)) (rfl) ?_
                    refine lv_iload_n hx hb d_DL_state_94 rfl (lv_at hl 4 rfl) ?_
                    refine lv_lload_n hx hb d_DL_state_95 rfl (lv_at hl 5 rfl) ?_
                    refine lv_lload hx hb d_DL_state_96 (lv_at hl 6 rfl) ?_
                    refine lv_iload hx hb d_DL_state_98 (lv_at hl 7 rfl) ?_
                    refine lv_aload hx hb d_DL_state_100 (lv_at hl 0 rfl) ?_
                    refine x_cw (k_DL_75 (As := [.int (nI hh), .long a, .long t, .int w, .ref (n_ad N (d_p X q))]) (rest := []) hx hb hml hown hts (c_Layer_append_R l D cA N (o + 6 + 8 * j) (d_k X j) (d_b X j) (d_j X j) (d_s X j) h6 hh a t w (d_p X q)) (x_preV hE (hLy1 j hj).1 rfl rfl (hLy1 j hj)) rfl hl.1 rfl (Nat.le_of_ble_eq_true rfl) d_DL_state_102 (by decide) ⟨Nat.zero_le _, Nat.zero_le _⟩) (fun H2 L2 p2 f2 => ?_)
                    have hF := t_lL hF (fun q h => (show ∀ q : Nat, x_A [o + 6 + 8 * j, o + 6 + 8 * j + 2 + d_k X j] q → d_A o q from fun q h => by have := x_A2.mp h; exact d_A_in (by omega) (by omega)) q.base (f2 q h))
                    have hd := p1.2.lay (l := j) p2.1 (fun q h => by have := x_A2.mp h; omega) p2.2
                    refine x_topi (y := q_state X (nI j) (nI hh) w) (by unfold q_state; rw [hb9, if_pos rfl, hcl, if_neg (by omega)]) ?_
                    exact W.iret hx hb hr (fun t ht hW => ⟨rfl, by rw [ht]; exact ⟨(p1.1.mono (fun q h => by have := x_A2.mp h; exact d_A_in (by omega) (by omega))).trans (p2.1.mono (fun q h => by have := x_A2.mp h; exact d_A_in (by omega) (by omega))), by unfold z_state; rw [hm, if_pos rfl, hcl, hch, hsc, if_pos rfl, if_pos rfl, hq, Nat.add_sub_cancel]; exact hd⟩⟩) hF d_DL_state_105
                · have h6 := of_decide_eq_true (bI_n0.mp h6)
                  have hm : q_smk X (nI j) (nI hh) w = false := by unfold q_smk; rw [hcl, decide_eq_false (show ¬ d_k X j < 6 by omega)]; simp
                  refine lv_bipush (v := (-3)) hx hb d_DL_state_70 (by decide) ?_
                  refine x_topi (y := q_state X (nI j) (nI hh) w) (by unfold q_state; rw [hb9, if_pos rfl, hcl, if_pos h6]) ?_
                  exact W.iret hx hb hr (fun t ht hW => ⟨rfl, by rw [ht]; exact ⟨x_F.rf, by unfold z_state; rw [hm]; exact hP⟩⟩) hF d_DL_state_72
              · have hb9 : q_sb X (nI j) (nI hh) w = false := by unfold q_sb; rw [hsc, decide_eq_true ((nI_eq (by omega) (by decide) : nI (d_n X) = nI 0 ↔ d_n X = 0).mp h7)]; simp
                have hm : q_smk X (nI j) (nI hh) w = false := by unfold q_smk; rw [hb9]; rfl
                refine lv_bipush (v := (-2)) hx hb d_DL_state_55 (by decide) ?_
                refine x_topi (y := q_state X (nI j) (nI hh) w) (by unfold q_state; rw [hb9]; rfl) ?_
                exact W.iret hx hb hr (fun t ht hW => ⟨rfl, by rw [ht]; exact ⟨x_F.rf, by unfold z_state; rw [hm]; exact hP⟩⟩) hF d_DL_state_57
        · have hb9 : q_sb X k h w = false := by unfold q_sb; rw [show q_sok k h w = false by unfold q_sok; rw [bI_0.mp h4]; simp]; rfl
          have hm : q_smk X k h w = false := by unfold q_smk; rw [hb9]; rfl
          refine lv_bipush (v := (-2)) hx hb d_DL_state_26 (by decide) ?_
          refine x_topi (y := q_state X k h w) (by unfold q_state; rw [hb9]; rfl) ?_
          exact W.iret hx hb hr (fun t ht hW => ⟨rfl, by rw [ht]; exact ⟨x_F.rf, by unfold z_state; rw [hm]; exact hP⟩⟩) hF d_DL_state_28
