set_option maxHeartbeats 4000000 in
set_option maxRecDepth 100000 in
theorem c_Layer_judge (l : Launch) (D : va_G) (cA : Nat → ClassId) (N : n_T) (L c : Nat) (p : Bool) (j : Nat) (sd : Nat → s_T) (v : Nat) (cnt : Nat → Int32) (row : Nat → Int64) (made : Nat) (hv : Nat → Bool) (hok : n_ok made N) (hvo : vl_ok cnt) (hVe : n_V cnt row made N hv) (hc : c ≤ 6) (hso : ∀ k, k < 6 → s_ok made (sd k)) (hvL : v + 2 < L) (hnL : ∀ i, i < made → L + 8 < n_ad N i) (u : Int32) (ac th : Int64) : Met l y_Layer_judge [.code y_Layer_judge b_Layer_judge 8 none] (x_rm 10 0 0) (x_P D cA [.ref L, .int u, .long ac, .long th, .ref v] (fun H => l_W D cA N L c p j sd H ∧ n_W D cA made N H ∧ v_W D cA v cnt row H)) (x_Q (none) (fun H H1 => x_F (x_A [L]) H H1 ∧ l_W D cA N L c p (l_j (fun k => s_s cnt row hv u ac th (sd k)) c) sd H1)) 0 0 (x_A [L]) := by
  refine x_met (own := "DecisionLayers$Layer") (by decide) rfl (Nat.le_of_ble_eq_true rfl) ?_
  intro pp ee s mm below mt cd ls hx hb hr hlk hnm hml hown hts hE hP hl
  have hl : lv_has ls 8 [(0, .ref L), (1, .int u), (2, .long ac), (4, .long th), (6, .ref v)] := hl
  obtain ⟨⟨hL, hRw, hSt⟩, hN, hV⟩ := hP
  have hF : ∀ q ∈ ([] : List Loc), x_A [L] q.base := t_nil
  generalize hf : (fun k => s_s cnt row hv u ac th (sd k)) = f
  refine lv_aload_n hx hb d_Layer_judge_0 rfl (lv_at hl 0 rfl) ?_
  refine lv_iconst (v := 0) hx hb d_Layer_judge_1 (by decide) ?_
  refine fp_Layer_30_Layer hx hb hown hts hE hL rfl rfl (Nat.le_of_ble_eq_true rfl) d_Layer_judge_2 (fun H1 k1 g1 o1 => ?_)
  have hF := t_lc (a := L) (i := k1) hF (x_A1.mpr rfl)
  refine lv_iconst (v := 0) hx hb d_Layer_judge_5 (by decide) ?_
  refine lv_istore (lv' := [(7, .int 0), (0, .ref L), (1, .int u), (2, .long ac), (4, .long th), (6, .ref v)]) hx hb d_Layer_judge_6 hl (by decide) rfl (fun ls hl => ?_)
  refine x_loopH (I := fun r ls H locs => ∃ k, k + r = c ∧ lv_has ls 8 [(7, .int (nI k)), (0, .ref L), (1, .int u), (2, .long ac), (4, .long th), (6, .ref v)] ∧ va_at D x_cl (L, .inr (1, [.ref (L + 1), .int (nI c), .int (bI p), .int (nI (l_j f k))])) H ∧ x_F (x_A [L]) s.heap H ∧ ∀ q ∈ locs, x_A [L] q.base) (fun r ls H locs ih h => ?_) (c) ⟨0, by omega, (lv_sub hl [0, 1, 2, 3, 4, 5] rfl), g1, x_F.of1 o1 (x_A1.mpr rfl), hF⟩
  obtain ⟨k, hkr, hl, hL, hFr, hF⟩ := h
  have hRw := hRw.kF hFr (by rw [x_A1]; show ¬ L + 1 = L; omega)
  have hSt : ∀ k, k < 6 → va_at D x_cl (L + 2 + k, .inr (2, s_fs N (sd k))) H := fun k hk => (hSt k hk).kF hFr (by rw [x_A1]; show ¬ L + 2 + k = L; omega)
  have hV := hV.kF hFr (fun q a b => by rw [x_A1]; omega)
  have hN := hN.kF hFr (fun i hi => by have := hnL i hi; rw [x_A1, x_A1]; exact ⟨by omega, fun _ => by omega⟩)
  refine lv_iload hx hb d_Layer_judge_8 (lv_at hl 0 rfl) ?_
  refine lv_aload_n hx hb d_Layer_judge_10 rfl (lv_at hl 1 rfl) ?_
  refine fg_Layer_18_Layer hx hb hown hts hE hL rfl d_Layer_judge_11 ?_
  refine lv_icmp_ge (tgt := 62) hx hb d_Layer_judge_14 (by decide) (fun g1 => ?_) (fun g1 => ?_)
  · have g1 := n_ge g1 (by omega) (by omega)
    obtain rfl : k = c := by omega
    exact W.vret hx hb hr (fun t ht hW => ⟨rfl, by rw [ht]; exact ⟨hFr, hL, hRw, hSt⟩⟩) hF d_Layer_judge_62
  · have g1 := n_lt g1 (by omega) (by omega)
    refine lv_iload hx hb d_Layer_judge_17 (lv_at hl 0 rfl) ?_
    refine lv_bipush (v := 6) hx hb d_Layer_judge_19 (by decide) ?_
    refine lv_icmp_ge (tgt := 62) hx hb d_Layer_judge_21 (by decide) (fun g2 => ?_) (fun g2 => ?_)
    · exact absurd (n_ge (k := 6) g2 (by decide) (by omega)) (by omega)
    · refine lv_aload_n hx hb d_Layer_judge_24 rfl (lv_at hl 1 rfl) ?_
      refine fg_Layer_13_Layer hx hb hown hts hE hL rfl d_Layer_judge_25 ?_
      refine lv_iload hx hb d_Layer_judge_28 (lv_at hl 0 rfl) ?_
      refine x_aald hx hb hE.2.2 hRw 6 rfl (by omega) (by decide) d_Layer_judge_30 ?_
      refine x_topv (y := .ref (L + 2 + k)) (rfl) ?_
      refine lv_iload_n hx hb d_Layer_judge_31 rfl (lv_at hl 2 rfl) ?_
      refine lv_lload_n hx hb d_Layer_judge_32 rfl (lv_at hl 3 rfl) ?_
      refine lv_lload hx hb d_Layer_judge_33 (lv_at hl 4 rfl) ?_
      refine lv_aload hx hb d_Layer_judge_35 (lv_at hl 5 rfl) ?_
      refine x_cp (k_Layer_33 (As := [.int u, .long ac, .long th, .ref v]) (rest := []) hx hb hml hown hts (c_Statement_suits l D cA (L + 2 + k) N (sd k) v cnt row made hv hok hvo hVe (hso k (by omega)) u ac th) (x_preV hE (hSt k (by omega)) rfl rfl ⟨hSt k (by omega), hN, hV⟩) rfl hl.1 rfl (Nat.le_of_ble_eq_true rfl) d_Layer_judge_37 (by decide) ⟨Nat.zero_le _, Nat.zero_le _⟩) ?_
      refine x_topi (y := bI (f k)) (by rw [← hf]) ?_
      refine lv_if_eq (tgt := 56) hx hb d_Layer_judge_40 (by decide) (fun q1 => ?_) (fun q1 => ?_)
      · refine lv_iinc (k := 0) (v := nI (k + 1)) (lv' := [(7, .int (nI (k + 1))), (0, .ref L), (1, .int u), (2, .long ac), (4, .long th), (6, .ref v)]) hx hb d_Layer_judge_56 hl rfl (x_inc _) (by decide) rfl (fun ls hl => ?_)
        refine lv_goto (tgt := 8) hx hb d_Layer_judge_59 (by decide) ?_
        exact ih (r - 1) _ _ _ (by omega) ⟨k + 1, by omega, (lv_sub hl [0, 1, 2, 3, 4, 5] rfl), by rw [l_j_f (bI_0.mp q1)]; exact hL, hFr, hF⟩
      · refine lv_aload_n hx hb d_Layer_judge_43 rfl (lv_at hl 1 rfl) ?_
        refine lv_dup hx hb d_Layer_judge_44 rfl ?_
        refine fg_Layer_30_Layer hx hb hown hts hE hL rfl d_Layer_judge_45 ?_
        refine lv_iconst (v := 1) hx hb d_Layer_judge_48 (by decide) ?_
        refine lv_iload hx hb d_Layer_judge_49 (lv_at hl 0 rfl) ?_
        refine lv_ishl hx hb d_Layer_judge_51 ?_
        refine lv_ior hx hb d_Layer_judge_52 ?_
        refine x_topi (y := nI (l_j f (k + 1))) (by rw [pl_s1 _ (by omega), nI_or, l_j_t (bI_n0.mp q1)]) ?_
        refine fp_Layer_30_Layer hx hb hown hts hE hL rfl rfl (Nat.le_of_ble_eq_true rfl) d_Layer_judge_53 (fun H2 k2 g2 o2 => ?_)
        have hF := t_lc (a := L) (i := k2) hF (x_A1.mpr rfl)
        refine lv_iinc (k := 0) (v := nI (k + 1)) (lv' := [(7, .int (nI (k + 1))), (0, .ref L), (1, .int u), (2, .long ac), (4, .long th), (6, .ref v)]) hx hb d_Layer_judge_56 hl rfl (x_inc _) (by decide) rfl (fun ls hl => ?_)
        refine lv_goto (tgt := 8) hx hb d_Layer_judge_59 (by decide) ?_
        exact ih (r - 1) _ _ _ (by omega) ⟨k + 1, by omega, (lv_sub hl [0, 1, 2, 3, 4, 5] rfl), g2, hFr.trans (x_F.of1 o2 (x_A1.mpr rfl)), hF⟩
