/-! joining -/
def q_jok (X : d_T) (k n : Int32) : Bool := decide (0 ≤ k ∧ k ≤ 2) && decide (0 ≤ n ∧ n ≤ nI (d_n X)) && !(decide (k = 2) && decide (¬ n = 1))
def q_jf (X : d_T) (n : Int32) : Bool := decide (n = 0) && decide (8 ≤ d_n X)
def q_jd (N : n_T) (X : d_T) (n : Nat) : Nat := 1 + d_mx (fun k => n_dp N (d_p X k)) (d_n X - n) n
def q_jmk (N : n_T) (X : d_T) (k n : Int32) : Bool := q_jok X k n && !q_jf X n && decide (q_jd N X n.toNatClampNeg ≤ 5)
def q_join (N : n_T) (X : d_T) (k n : Int32) : Int32 := if q_jok X k n then (if q_jf X n then -3 else if q_jd N X n.toNatClampNeg ≤ 5 then nI (d_n X - n.toNatClampNeg + 1) else -4) else -2
def q_jch (X : d_T) (n : Nat) : List Nat := (List.range n).map (fun j => d_p X (d_n X - n + j))
def z_joinN (made : Nat) (N : n_T) (X : d_T) (k n : Int32) (a : Nat) : n_T := if q_jmk N X k n then n_ext N made k.toNatClampNeg 0 0 0 0 (q_jd N X n.toNatClampNeg) (q_jch X n.toNatClampNeg) (a + 1) else N
def z_joinX (made : Nat) (N : n_T) (X : d_T) (k n : Int32) : d_T := if q_jmk N X k n then d_push (d_setN X (d_n X - n.toNatClampNeg)) made else X
def z_joinM (made : Nat) (N : n_T) (X : d_T) (k n : Int32) : Nat := if q_jmk N X k n then made + 1 else made
theorem x_dec2 (r : Nat) : nI (r + 1) - 1 + Int32.ofInt (-1) = nI r - 1 := by
  rw [nI_pred, Int32.sub_eq_add_neg]
  rfl
theorem q_jch_len (X : d_T) (n : Nat) : (q_jch X n).length = n := by unfold q_jch; simp
theorem q_jch_at {X : d_T} {n j : Nat} (h : j < n) : (q_jch X n)[j]? = some (d_p X (d_n X - n + j)) := by
  unfold q_jch
  rw [List.getElem?_map, List.getElem?_range h]
  rfl
theorem q_jch_in {X : d_T} {n c : Nat} (h : c ∈ q_jch X n) : ∃ j, j < n ∧ c = d_p X (d_n X - n + j) := by
  unfold q_jch at h
  obtain ⟨j, hj, e⟩ := List.mem_map.mp h
  exact ⟨j, List.mem_range.mp hj, e.symm⟩
theorem d_ok.setN {made : Nat} {X : d_T} (h : d_ok made X) {n : Nat} (hn : n ≤ d_n X) : d_ok made (d_setN X n) := ⟨Nat.le_trans hn h.1, fun k hk => h.2.1 k (Nat.lt_of_lt_of_le hk hn), h.2.2⟩
set_option maxHeartbeats 4000000 in
set_option maxRecDepth 100000 in
theorem c_DL_join (l : Launch) (D : va_G) (cA : Nat → ClassId) (N : n_T) (o : Nat) (X : d_T) (made sz : Nat) (hok : n_ok made N) (hhi : n_hi o made N) (hdo : d_ok made X) (hsz : o + 75 ≤ sz) (k n : Int32) : Met l y_DL_join [.code y_DL_join b_DL_join 6 (some .int)] (x_rm 3 2 11) (x_P D cA [.ref o, .int k, .int n] (fun H => H.size = sz ∧ d_W D cA N o X H ∧ n_W D cA made N H)) (x_Q (some (.int (q_join N X k n))) (fun H H1 => x_G (d_A o) H H1 ∧ d_W D cA (z_joinN made N X k n sz) o (z_joinX made N X k n) H1 ∧ n_W D cA (z_joinM made N X k n) (z_joinN made N X k n sz) H1)) 2 11 (x_AG (d_A o) sz) := by
  refine x_met (own := "DecisionLayers") (by decide) rfl (Nat.le_of_ble_eq_true rfl) ?_
  intro pp ee s mm below mt cd ls hx hb hr hlk hnm hml hown hts hE hP hl
  have hl : lv_has ls 6 [(0, .ref o), (1, .int k), (2, .int n)] := hl
  obtain ⟨hs9, hP1, hN⟩ := hP
  subst hs9
  have hF : ∀ q ∈ ([] : List Loc), x_AG (d_A o) s.heap.size q.base := t_nil
  obtain ⟨hO, hV, hC, hLa, hLy⟩ := id hP1
  obtain ⟨hn8, hpm, -⟩ := id hdo
  refine lv_iload_n hx hb d_DL_join_0 rfl (lv_at hl 1 rfl) ?_
  refine lv_if_lt (tgt := 21) hx hb d_DL_join_1 (by decide) (fun h1 => ?_) (fun h1 => ?_)
  · have hk : q_jok X k n = false := by unfold q_jok; rw [decide_eq_false (fun z => absurd h1 (Int32.not_lt.mpr z.1))]; rfl
    have hm : q_jmk N X k n = false := by unfold q_jmk; rw [hk]; rfl
    refine lv_bipush (v := (-2)) hx hb d_DL_join_21 (by decide) ?_
    refine x_topi (y := q_join N X k n) (by unfold q_join; rw [hk]; rfl) ?_
    refine W.widen (k := 2) (n := 11) (by decide) (by decide) ?_
    exact W.iret hx hb hr (fun t ht hW => ⟨rfl, by rw [ht]; unfold z_joinN z_joinX z_joinM; rw [hm]; exact ⟨x_F.rf.G, hP1, hN⟩⟩) hF d_DL_join_23
  · refine lv_iload_n hx hb d_DL_join_4 rfl (lv_at hl 1 rfl) ?_
    refine lv_iconst (v := 2) hx hb d_DL_join_5 (by decide) ?_
    refine lv_icmp_gt (tgt := 21) hx hb d_DL_join_6 (by decide) (fun h2 => ?_) (fun h2 => ?_)
    · have hk : q_jok X k n = false := by unfold q_jok; rw [decide_eq_false (fun z => absurd h2 (Int32.not_lt.mpr z.2))]; rfl
      have hm : q_jmk N X k n = false := by unfold q_jmk; rw [hk]; rfl
      refine lv_bipush (v := (-2)) hx hb d_DL_join_21 (by decide) ?_
      refine x_topi (y := q_join N X k n) (by unfold q_join; rw [hk]; rfl) ?_
      refine W.widen (k := 2) (n := 11) (by decide) (by decide) ?_
      exact W.iret hx hb hr (fun t ht hW => ⟨rfl, by rw [ht]; unfold z_joinN z_joinX z_joinM; rw [hm]; exact ⟨x_F.rf.G, hP1, hN⟩⟩) hF d_DL_join_23
    · refine lv_iload_n hx hb d_DL_join_9 rfl (lv_at hl 2 rfl) ?_
      refine lv_if_lt (tgt := 21) hx hb d_DL_join_10 (by decide) (fun h3 => ?_) (fun h3 => ?_)
      · have hk : q_jok X k n = false := by unfold q_jok; rw [show decide (0 ≤ n ∧ n ≤ nI (d_n X)) = false from decide_eq_false (fun z => absurd h3 (Int32.not_lt.mpr z.1))]; simp
        have hm : q_jmk N X k n = false := by unfold q_jmk; rw [hk]; rfl
        refine lv_bipush (v := (-2)) hx hb d_DL_join_21 (by decide) ?_
        refine x_topi (y := q_join N X k n) (by unfold q_join; rw [hk]; rfl) ?_
        refine W.widen (k := 2) (n := 11) (by decide) (by decide) ?_
        exact W.iret hx hb hr (fun t ht hW => ⟨rfl, by rw [ht]; unfold z_joinN z_joinX z_joinM; rw [hm]; exact ⟨x_F.rf.G, hP1, hN⟩⟩) hF d_DL_join_23
      · refine lv_iload_n hx hb d_DL_join_13 rfl (lv_at hl 2 rfl) ?_
        refine lv_aload_n hx hb d_DL_join_14 rfl (lv_at hl 0 rfl) ?_
        refine fg_DL_29_DL hx hb hown hts hE hO rfl d_DL_join_15 ?_
        refine lv_icmp_le (tgt := 24) hx hb d_DL_join_18 (by decide) (fun h4 => ?_) (fun h4 => ?_)
        · have hd1 : decide (0 ≤ k ∧ k ≤ 2) = true := decide_eq_true ⟨Int32.not_lt.mp h1, Int32.not_lt.mp h2⟩
          have hd2 : decide (0 ≤ n ∧ n ≤ nI (d_n X)) = true := decide_eq_true ⟨Int32.not_lt.mp h3, h4⟩
          refine x_join 37 (fun ls st => lv_has ls 6 [(0, .ref o), (1, .int k), (2, .int n)] ∧ st = [] ∧ (decide (k = 2) && decide (¬ n = 1)) = false) ?_ (fun hj => ?_)
          · intro ls st hj
            obtain ⟨hl, rfl, h37⟩ := hj
            have hk : q_jok X k n = true := by unfold q_jok; rw [hd1, hd2, h37]; rfl
            refine x_join 53 (fun ls st => lv_has ls 6 [(0, .ref o), (1, .int k), (2, .int n)] ∧ st = [] ∧ q_jf X n = false) ?_ (fun hj => ?_)
            · intro ls st hj
              obtain ⟨hl, rfl, h53⟩ := hj
              obtain ⟨kk, hkk, rfl⟩ := nI_of h1
              obtain ⟨nn, hnn, rfl⟩ := nI_of h3
              have hkk : kk ≤ 2 := n_le (i := kk) (k := 2) h2 (by decide) hkk
              have hnn : nn ≤ d_n X := n_ge h4 hnn (by omega)
              have hck : (nI kk).toNatClampNeg = kk := nI_clamp (by omega)
              have hcn : (nI nn).toNatClampNeg = nn := nI_clamp (by omega)
              have hmx : d_mx (fun k => n_dp N (d_p X k)) (d_n X - nn) nn ≤ 5 := d_mx_le (fun k hk => (hok _ (hpm _ (by omega))).2.2.1)
              have hjd : q_jd N X nn = 1 + d_mx (fun k => n_dp N (d_p X k)) (d_n X - nn) nn := rfl
              refine lv_iconst (v := 1) hx hb d_DL_join_53 (by decide) ?_
              refine lv_aload_n hx hb d_DL_join_54 rfl (lv_at hl 0 rfl) ?_
              refine lv_iload_n hx hb d_DL_join_55 rfl (lv_at hl 2 rfl) ?_
              refine x_cp (k_DL_51 (As := [.int (nI nn)]) (rest := [.int 1]) hx hb hml hown hts (c_DL_greatest l D cA N o X made nn hok hdo hnn) (x_preV hE hO rfl rfl ⟨hP1, hN⟩) rfl hl.1 rfl (Nat.le_of_ble_eq_true rfl) d_DL_join_56 (by decide) ⟨Nat.zero_le _, Nat.zero_le _⟩) ?_
              refine lv_iadd hx hb d_DL_join_59 ?_
              refine x_topi (y := nI (q_jd N X nn)) (by rw [show (1 : Int32) = nI 1 from rfl, nI_add]; rfl) ?_
              refine lv_istore_n (lv' := [(3, .int (nI (q_jd N X nn))), (0, .ref o), (1, .int (nI kk)), (2, .int (nI nn))]) hx hb d_DL_join_60 rfl hl (by decide) rfl (fun ls hl => ?_)
              refine lv_iload_n hx hb d_DL_join_61 rfl (lv_at hl 0 rfl) ?_
              refine lv_iconst (v := 5) hx hb d_DL_join_62 (by decide) ?_
              refine lv_icmp_le (tgt := 69) hx hb d_DL_join_63 (by decide) (fun h5 => ?_) (fun h5 => ?_)
              · have h5 : q_jd N X nn ≤ 5 := (nI_leI (by omega) (by decide) : nI (q_jd N X nn) ≤ nI 5 ↔ _).mp h5
                have hm : q_jmk N X (nI kk) (nI nn) = true := by unfold q_jmk; rw [hk, h53, hcn, decide_eq_true h5]; rfl
                obtain ⟨a, ha⟩ : ∃ a, d_n X - nn = a := ⟨_, rfl⟩
                have ha8 : a < 8 := by
                  rcases Nat.eq_zero_or_pos nn with z | z
                  · subst z
                    have h9 : ¬ 8 ≤ d_n X := fun y => by unfold q_jf at h53; rw [decide_eq_true (show nI 0 = 0 from rfl), decide_eq_true y] at h53; cases h53
                    omega
                  · omega
                refine lv_iload_n hx hb d_DL_join_69 rfl (lv_at hl 3 rfl) ?_
                refine x_newq (N' := nn) hx hb hown (hts _ w_1_35) hE.2.1.2.2.2.2.2.2.1 hE.2.2 4 rfl (nI_pos (by omega)) hcn (by omega) (Nat.le_of_ble_eq_true rfl) (show 0 + nn ≤ 11 by omega) d_DL_join_70 (fun H1 g1 n1 => ?_)
                refine W.widen (k := 1) (n := 8) (by omega) (by omega) ?_
                refine lv_astore (lv' := [(4, .ref s.heap.size), (3, .int (nI (q_jd N X nn))), (0, .ref o), (1, .int (nI kk)), (2, .int (nI nn))]) hx hb d_DL_join_73 hl (by decide) rfl (fun ls hl => ?_)
                refine lv_iload_n hx hb d_DL_join_75 rfl (lv_at hl 4 rfl) ?_
                refine lv_iconst (v := 1) hx hb d_DL_join_76 (by decide) ?_
                refine lv_isub hx hb d_DL_join_77 ?_
                refine lv_istore (lv' := [(5, .int ((nI nn) - 1)), (4, .ref s.heap.size), (3, .int (nI (q_jd N X nn))), (0, .ref o), (1, .int (nI kk)), (2, .int (nI nn))]) hx hb d_DL_join_78 hl (by decide) rfl (fun ls hl => ?_)
                refine x_loopH (I := fun r ls H locs => r ≤ nn ∧ lv_has ls 6 [(5, .int (nI r - 1)), (4, .ref s.heap.size), (3, .int (nI (q_jd N X nn))), (0, .ref o), (1, .int (nI kk)), (2, .int (nI nn))] ∧ H.size = s.heap.size + 1 ∧ d_W D cA N o (d_setN X (a + r)) H ∧ va_at D x_cl (s.heap.size, .inl (cA 4, nn, .inr (.inr (.inr (.inr (fun j => if r ≤ j then some (n_ad N (d_p X (a + j))) else none)))))) H ∧ x_G (d_A o) s.heap H ∧ ∀ q ∈ locs, x_AG (d_A o) s.heap.size q.base) (fun r ls H locs ih h => ?_) (nn) ⟨Nat.le_refl _, (lv_sub hl [0, 1, 2, 3, 4, 5] rfl), n1.1, by rw [show a + nn = d_n X by omega]; exact hP1.kept (fun q a b => n1.2 q (by omega)), g1.refs (fun j hj => by rw [if_neg (by omega)]), n1.G, hF⟩
                obtain ⟨hrn, hl, hHs, hdw, hAr, hG, hF⟩ := h
                refine lv_iload hx hb d_DL_join_80 (lv_at hl 0 rfl) ?_
                refine lv_if_lt (tgt := 100) hx hb d_DL_join_82 (by decide) (fun c1 => ?_) (fun c1 => ?_)
                · obtain rfl : r = 0 := by
                    cases r with
                    | zero => rfl
                    | succ r1 => rw [nI_pred] at c1; exact absurd c1 (nI_pos (by omega))
                  refine lv_aload_n hx hb d_DL_join_100 rfl (lv_at hl 3 rfl) ?_
                  refine x_new (ci := 4) (fs := [.int 0, .int 0, .null]) hx hb hts in_Joined t_Joined t_Joined_ok hown (hts _ w_1_151) (hts _ w_1_152) (hts _ w_1_9) hE.2.2 rfl (fun j hj => by rcases (show j = 0 ∨ j = 1 ∨ j = 2 by omega) with rfl | rfl | rfl <;> rfl) (Nat.le_of_ble_eq_true rfl) (Nat.le_of_ble_eq_true rfl) d_DL_join_101 (fun H3 g3 n3 => ?_)
                  refine x_topv (y := .ref (s.heap.size + 1)) (by rw [hHs]) ?_
                  rw [hHs] at g3
                  refine lv_dup hx hb d_DL_join_104 rfl ?_
                  refine lv_iload_n hx hb d_DL_join_105 rfl (lv_at hl 4 rfl) ?_
                  refine lv_aload hx hb d_DL_join_106 (lv_at hl 1 rfl) ?_
                  refine lv_iload_n hx hb d_DL_join_108 rfl (lv_at hl 2 rfl) ?_
                  refine x_cv (k_DL_59 (As := [.int (nI kk), .ref s.heap.size, .int (nI (q_jd N X nn))]) (rest := [.ref (s.heap.size + 1), .ref o]) hx hb hml hown hts (c_Joined_init l D cA (s.heap.size + 1) (nI kk) s.heap.size (nI (q_jd N X nn))) (x_preS hE g3) rfl hl.1 rfl (Nat.le_of_ble_eq_true rfl) d_DL_join_109 (by decide) ⟨Nat.le_of_ble_eq_true rfl, Nat.le_of_ble_eq_true rfl⟩) (fun H4 L4 p4 f4 => ?_)
                  have hF := t_lL hF (fun q h => (show ∀ q : Nat, x_A [s.heap.size + 1] q → x_AG (d_A o) s.heap.size q from fun q h => x_AGr (by rw [x_A1.mp h]; omega)) q.base (f4 q h))
                  obtain ⟨f9, g4⟩ := p4
                  have hG4 : x_G (d_A o) s.heap H4 := (hG.trans n3.G).new f9 (fun q h => by rw [x_A1.mp h]; omega)
                  have hAr := (hAr.kn n3).kF f9 (by rw [x_A1]; show ¬ s.heap.size = s.heap.size + 1; omega)
                  have hd4 : d_W D cA N o (d_setN X a) H4 := hdw.kept (fun q a b => (f9.2 q (by rw [x_A1]; omega)).trans (n3.2 q (by omega)))
                  have hk3 : kk ≠ 3 := by omega
                  have hN4 := (hN.kG hG4 hhi).ext (kd := kk) (op := 0) (ky := 0) (tt := 0) (mk := 0) (dp := q_jd N X nn) (ch := q_jch X nn) (ad := s.heap.size + 1) hok (fun z => absurd z hk3) (fun c hc => by obtain ⟨j, hj, rfl⟩ := q_jch_in hc; exact hpm _ (by omega)) (fun _ => ⟨g4, by
                    rw [show s.heap.size + 1 - 1 = s.heap.size by omega, q_jch_len]
                    exact hAr.refs (fun j hj => by rw [if_pos (Nat.zero_le _), q_jch_at hj, ha]; rfl)⟩)
                  generalize hNe : n_ext N made kk 0 0 0 0 (q_jd N X nn) (q_jch X nn) (s.heap.size + 1) = N1 at hN4
                  have ha1 : n_ad N1 made = s.heap.size + 1 := by rw [← hNe]; exact n_ext_n.2.2.2.2.2.2.2
                  have hao : ∀ i, i < made → n_ad N1 i = n_ad N i := fun i hi => by rw [← hNe]; exact (n_ext_o (by omega)).2.2.2.2.2.2.2
                  have hko : ∀ i, i < made → n_kd N1 i = n_kd N i := fun i hi => by rw [← hNe]; exact (n_ext_o (by omega)).1
                  have hd4 := hd4.ext (hdo.setN (by omega)) hao
                  have hhi1 : n_hi o (made + 1) N1 := fun i hi => by
                    by_cases e : i = made
                    · subst e; rw [ha1]; exact ⟨by omega, fun z => by omega⟩
                    · rw [hao i (by omega), hko i (by omega)]; exact hhi i (by omega)
                  refine x_topv (y := .ref (n_ad N1 made)) (by rw [ha1]) ?_
                  refine x_cw (k_DL_45 (As := [.ref (n_ad N1 made)]) (rest := []) hx hb hml hown hts (c_DL_push l D cA N1 o (d_setN X a) (made + 1) made (by omega) ha8) (x_preV hE hd4.1 rfl rfl ⟨hd4, hN4⟩) rfl hl.1 rfl (Nat.le_of_ble_eq_true rfl) d_DL_join_112 (by decide) ⟨Nat.le_of_ble_eq_true rfl, Nat.le_of_ble_eq_true rfl⟩) (fun H5 L5 p5 f5 => ?_)
                  have hF := t_lL hF (fun q h => (show ∀ q : Nat, x_A [o, o + 4] q → x_AG (d_A o) s.heap.size q from fun q h => x_AGl (by have := x_A2.mp h; exact d_A_in (by omega) (by omega))) q.base (f5 q h))
                  have hF5 : x_F (d_A o) H4 H5 := p5.1.mono (fun q h => by have := x_A2.mp h; exact d_A_in (by omega) (by omega))
                  refine x_topi (y := q_join N X (nI kk) (nI nn)) (by unfold q_join; rw [hk, if_pos rfl, h53, if_neg (by decide), hcn, if_pos h5, ha]; rfl) ?_
                  exact W.iret hx hb hr (fun t ht hW => ⟨rfl, by rw [ht]; unfold z_joinN z_joinX z_joinM; rw [hm, if_pos rfl, if_pos rfl, if_pos rfl, hck, hcn, hNe, ha]; exact ⟨hG4.trans hF5.G, p5.2, hN4.kF hF5 hhi1.out⟩⟩) hF d_DL_join_115
                · obtain ⟨r1, rfl⟩ : ∃ r1, r = r1 + 1 := by
                    cases r with
                    | zero => exact absurd (by decide) c1
                    | succ r1 => exact ⟨r1, rfl⟩
                  refine lv_aload hx hb d_DL_join_85 (lv_at hl 1 rfl) ?_
                  refine lv_iload hx hb d_DL_join_87 (lv_at hl 0 rfl) ?_
                  refine x_topi (y := nI r1) (nI_pred r1) ?_
                  refine lv_aload_n hx hb d_DL_join_89 rfl (lv_at hl 3 rfl) ?_
                  refine x_cw (k_DL_55 (As := []) (rest := [.int (nI r1), .ref s.heap.size]) hx hb hml hown hts (c_DL_pop_S l D cA N o (d_setN X (a + (r1 + 1))) (a + r1) rfl (show a + (r1 + 1) ≤ 8 by omega)) (x_preV hE hdw.1 rfl rfl hdw) rfl hl.1 rfl (Nat.le_of_ble_eq_true rfl) d_DL_join_90 (by decide) ⟨Nat.le_of_ble_eq_true rfl, Nat.le_of_ble_eq_true rfl⟩) (fun H1 L1 p1 f1 => ?_)
                  have hF := t_lL hF (fun q h => (show ∀ q : Nat, x_A [o, o + 4] q → x_AG (d_A o) s.heap.size q from fun q h => x_AGl (by have := x_A2.mp h; exact d_A_in (by omega) (by omega))) q.base (f1 q h))
                  have hF1 : x_F (d_A o) H H1 := p1.1.mono (fun q h => by have := x_A2.mp h; exact d_A_in (by omega) (by omega))
                  have hG1 := hG.trans hF1.G
                  have hAr := hAr.kF p1.1 (fun z => by have := x_A2.mp z; omega)
                  refine x_aast hx hb hE.2.2 hAr 4 rfl ((hN.kG hG1 hhi).any hE (hpm _ (by omega))) (by omega) (by omega) d_DL_join_93 (fun H2 k2 g2 o2 => ?_)
                  have hF := t_lc (a := s.heap.size) (i := k2) hF (x_AGr (Nat.le_refl _))
                  refine lv_iinc (k := 0) (v := nI r1 - 1) (lv' := [(5, .int (nI r1 - 1)), (4, .ref s.heap.size), (3, .int (nI (q_jd N X nn))), (0, .ref o), (1, .int (nI kk)), (2, .int (nI nn))]) hx hb d_DL_join_94 hl rfl (x_dec2 r1) (by decide) rfl (fun ls hl => ?_)
                  refine lv_goto (tgt := 80) hx hb d_DL_join_97 (by decide) ?_
                  exact ih r1 _ _ _ (by omega) ⟨by omega, (lv_sub hl [0, 1, 2, 3, 4, 5] rfl), by rw [o2.1, hF1.1]; exact hHs, p1.2.kept (fun q a b => o2.2 q (by omega)), g2.refs (fun j hj => by
                    by_cases e : j = r1
                    · subst e; simp [va_up]
                    · by_cases h9 : r1 + 1 ≤ j
                      · simp [va_up, e, h9, show r1 ≤ j by omega]
                      · simp [va_up, e, h9, show ¬ r1 ≤ j by omega]), hG1.new (x_F.of1 (A := x_A [s.heap.size]) o2 (x_A1.mpr rfl)) (fun q h => by rw [x_A1.mp h]; exact Nat.le_refl _), hF⟩
              · have h5 : ¬ q_jd N X nn ≤ 5 := fun z => h5 ((nI_leI (by omega) (by decide) : nI (q_jd N X nn) ≤ nI 5 ↔ _).mpr z)
                have hm : q_jmk N X (nI kk) (nI nn) = false := by unfold q_jmk; rw [hcn, decide_eq_false h5]; simp
                refine lv_bipush (v := (-4)) hx hb d_DL_join_66 (by decide) ?_
                refine x_topi (y := q_join N X (nI kk) (nI nn)) (by unfold q_join; rw [hk, if_pos rfl, h53, if_neg (by decide), hcn, if_neg h5]) ?_
                refine W.widen (k := 2) (n := 11) (by decide) (by decide) ?_
                exact W.iret hx hb hr (fun t ht hW => ⟨rfl, by rw [ht]; unfold z_joinN z_joinX z_joinM; rw [hm]; exact ⟨x_F.rf.G, hP1, hN⟩⟩) hF d_DL_join_68
            · refine lv_iload_n hx hb d_DL_join_37 rfl (lv_at hl 2 rfl) ?_
              refine lv_if_ne (tgt := 53) hx hb d_DL_join_38 (by decide) (fun n0 => ?_) (fun n0 => ?_)
              · exact hj _ _ ⟨(lv_sub hl [0, 1, 2] rfl), rfl, by unfold q_jf; rw [decide_eq_false n0]; rfl⟩
              · refine lv_aload_n hx hb d_DL_join_41 rfl (lv_at hl 0 rfl) ?_
                refine fg_DL_29_DL hx hb hown hts hE hO rfl d_DL_join_42 ?_
                refine lv_bipush (v := 8) hx hb d_DL_join_45 (by decide) ?_
                refine lv_icmp_lt (tgt := 53) hx hb d_DL_join_47 (by decide) (fun p8 => ?_) (fun p8 => ?_)
                · exact hj _ _ ⟨(lv_sub hl [0, 1, 2] rfl), rfl, by unfold q_jf; rw [decide_eq_false (Nat.not_le.mpr (n_gt (i := 8) p8 (by omega) (by decide)))]; simp⟩
                · have hf : q_jf X n = true := by unfold q_jf; rw [decide_eq_true n0, decide_eq_true (n_le (i := 8) p8 (by omega) (by decide))]; rfl
                  have hm : q_jmk N X k n = false := by unfold q_jmk; rw [hf]; simp
                  refine lv_bipush (v := (-3)) hx hb d_DL_join_50 (by decide) ?_
                  refine x_topi (y := q_join N X k n) (by unfold q_join; rw [hk, if_pos rfl, hf, if_pos rfl]) ?_
                  refine W.widen (k := 2) (n := 11) (by decide) (by decide) ?_
                  exact W.iret hx hb hr (fun t ht hW => ⟨rfl, by rw [ht]; unfold z_joinN z_joinX z_joinM; rw [hm]; exact ⟨x_F.rf.G, hP1, hN⟩⟩) hF d_DL_join_52
          · refine lv_iload_n hx hb d_DL_join_24 rfl (lv_at hl 1 rfl) ?_
            refine lv_iconst (v := 2) hx hb d_DL_join_25 (by decide) ?_
            refine lv_icmp_ne (tgt := 37) hx hb d_DL_join_26 (by decide) (fun k2 => ?_) (fun k2 => ?_)
            · exact hj _ _ ⟨(lv_sub hl [0, 1, 2] rfl), rfl, by rw [decide_eq_false k2]; rfl⟩
            · refine lv_iload_n hx hb d_DL_join_29 rfl (lv_at hl 2 rfl) ?_
              refine lv_iconst (v := 1) hx hb d_DL_join_30 (by decide) ?_
              refine lv_icmp_eq (tgt := 37) hx hb d_DL_join_31 (by decide) (fun n1 => ?_) (fun n1 => ?_)
              · exact hj _ _ ⟨(lv_sub hl [0, 1, 2] rfl), rfl, by rw [show decide (¬ n = 1) = false from decide_eq_false (fun z => z n1)]; simp⟩
              · have hk : q_jok X k n = false := by unfold q_jok; rw [decide_eq_true k2, decide_eq_true (show ¬ n = 1 from n1)]; simp
                have hm : q_jmk N X k n = false := by unfold q_jmk; rw [hk]; rfl
                refine lv_bipush (v := (-2)) hx hb d_DL_join_34 (by decide) ?_
                refine x_topi (y := q_join N X k n) (by unfold q_join; rw [hk]; rfl) ?_
                refine W.widen (k := 2) (n := 11) (by decide) (by decide) ?_
                exact W.iret hx hb hr (fun t ht hW => ⟨rfl, by rw [ht]; unfold z_joinN z_joinX z_joinM; rw [hm]; exact ⟨x_F.rf.G, hP1, hN⟩⟩) hF d_DL_join_36
        · have hk : q_jok X k n = false := by unfold q_jok; rw [show decide (0 ≤ n ∧ n ≤ nI (d_n X)) = false from decide_eq_false (fun z => h4 z.2)]; simp
          have hm : q_jmk N X k n = false := by unfold q_jmk; rw [hk]; rfl
          refine lv_bipush (v := (-2)) hx hb d_DL_join_21 (by decide) ?_
          refine x_topi (y := q_join N X k n) (by unfold q_join; rw [hk]; rfl) ?_
          refine W.widen (k := 2) (n := 11) (by decide) (by decide) ?_
          exact W.iret hx hb hr (fun t ht hW => ⟨rfl, by rw [ht]; unfold z_joinN z_joinX z_joinM; rw [hm]; exact ⟨x_F.rf.G, hP1, hN⟩⟩) hF d_DL_join_23
