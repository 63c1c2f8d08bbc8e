/-! a test's loop -/
def cn_y (cnt : Nat → Int32) (row : Nat → Int64) (o k : Nat) (t : Int64) (mk j : Nat) : Bool := (cn_a cnt row o (row (4 * k + j)) t != mk.testBit 0)
theorem cn_t_end {cnt : Nat → Int32} {row : Nat → Int64} {o k : Nat} {t : Int64} {mk n : Nat} (ho : ¬ o = 7) (hn : cnt k = nI n) (h0 : 0 < n) (h4 : n ≤ 4) (h : ∀ j, j < n → cn_y cnt row o k t mk j = mk.testBit 2) : cn_t cnt row o k t mk = mk.testBit 2 := by
  have hc : (cnt k).toNatClampNeg = n := by rw [hn]; exact nI_clamp (by omega)
  have hz : ¬ cnt k = 0 := by rw [hn]; exact nI_ne0 h0 (by omega)
  unfold cn_t
  rw [if_neg ho, if_neg hz, hc]
  cases hm : mk.testBit 2 with
  | true =>
    rw [if_pos rfl]
    exact decide_eq_true (fun j hj => (h j hj).trans hm)
  | false =>
    rw [if_neg (by decide)]
    refine decide_eq_false (fun ⟨j, hj, hy⟩ => ?_)
    have h9 : (cn_a cnt row o (row (4 * k + j)) t != mk.testBit 0) = false := (h j hj).trans hm
    rw [h9] at hy
    cases hy
theorem cn_t_hit {cnt : Nat → Int32} {row : Nat → Int64} {o k : Nat} {t : Int64} {mk n i : Nat} (ho : ¬ o = 7) (hn : cnt k = nI n) (hi : i < n) (h4 : n ≤ 4) (h : ¬ cn_y cnt row o k t mk i = mk.testBit 2) : cn_t cnt row o k t mk = !mk.testBit 2 := by
  have hc : (cnt k).toNatClampNeg = n := by rw [hn]; exact nI_clamp (by omega)
  have hz : ¬ cnt k = 0 := by rw [hn]; exact nI_ne0 (by omega) (by omega)
  unfold cn_t
  rw [if_neg ho, if_neg hz, hc]
  cases hm : mk.testBit 2 with
  | true =>
    rw [if_pos rfl]
    rw [hm] at h
    exact decide_eq_false (fun z => h (z i hi))
  | false =>
    rw [if_neg (by decide)]
    rw [hm] at h
    refine decide_eq_true ⟨i, hi, ?_⟩
    cases hy : (cn_a cnt row o (row (4 * k + i)) t != mk.testBit 0) with
    | true => rfl
    | false => exact absurd hy h
theorem cn_t_no {cnt : Nat → Int32} {row : Nat → Int64} {o k : Nat} {t : Int64} {mk : Nat} (ho : ¬ o = 7) (hn : cnt k = 0) : cn_t cnt row o k t mk = decide (mk ≠ 0) := by
  unfold cn_t
  rw [if_neg ho, if_pos hn]
set_option maxHeartbeats 4000000 in
set_option maxRecDepth 100000 in
theorem c_Test_isMet (l : Launch) (D : va_G) (cA : Nat → ClassId) (a : Nat) (d : Int32) (o k : Nat) (t : Int64) (mk : Nat) (v : Nat) (cnt : Nat → Int32) (row : Nat → Int64) (q : Nat) (ho : o < 8) (hk : k < 8) (hm : mk < 8) (hvo : vl_ok cnt) : Met l y_Test_isMet [.code y_Test_isMet b_Test_isMet 7 (some .boolean)] (x_rm (4 + q) 0 0) (x_P D cA [.ref a, .ref v] (fun H => va_at D x_cl (a, .inr (3, [.int d, .int (nI o), .int (nI k), .long t, .int (nI mk)])) H ∧ v_W D cA v cnt row H)) (x_Q (some (.int (bI (cn_t cnt row o k t mk)))) (x_same)) 0 0 (fun _ => False) := by
  refine x_met (own := "DecisionLayers$Test") (by decide) rfl (Nat.le_of_ble_eq_true rfl) ?_
  intro pp ee s mm below mt cd ls hx hb hr hlk hnm hml hown hts hE hP hl
  have hl : lv_has ls 7 [(0, .ref a), (1, .ref v)] := hl
  obtain ⟨hT, hV⟩ := hP
  obtain ⟨n, hn4, hn⟩ := hvo k hk
  refine lv_aload_n hx hb d_Test_isMet_0 rfl (lv_at hl 0 rfl) ?_
  refine fg_Test_20_Test hx hb hown hts hE hT rfl d_Test_isMet_1 ?_
  refine lv_iconst (v := 1) hx hb d_Test_isMet_4 (by decide) ?_
  refine lv_iand hx hb d_Test_isMet_5 ?_
  refine x_topi (y := bI (mk.testBit 0)) (mk_1 mk (by omega)) ?_
  refine x_join 14 (fun ls st => lv_has ls 7 [(0, .ref a), (1, .ref v)] ∧ st = [.int (bI (mk.testBit 0))]) ?_ (fun hj => ?_)
  · intro ls st hj
    obtain ⟨hl, rfl⟩ := hj
    refine lv_istore_n (lv' := [(2, .int (bI (mk.testBit 0))), (0, .ref a), (1, .ref v)]) hx hb d_Test_isMet_14 rfl hl (by decide) rfl (fun ls hl => ?_)
    refine lv_aload_n hx hb d_Test_isMet_15 rfl (lv_at hl 1 rfl) ?_
    refine fg_Test_20_Test hx hb hown hts hE hT rfl d_Test_isMet_16 ?_
    refine lv_iconst (v := 4) hx hb d_Test_isMet_19 (by decide) ?_
    refine lv_iand hx hb d_Test_isMet_20 ?_
    refine x_join 29 (fun ls st => lv_has ls 7 [(2, .int (bI (mk.testBit 0))), (0, .ref a), (1, .ref v)] ∧ st = [.int (bI (mk.testBit 2))]) ?_ (fun hj => ?_)
    · intro ls st hj
      obtain ⟨hl, rfl⟩ := hj
      refine lv_istore_n (lv' := [(3, .int (bI (mk.testBit 2))), (2, .int (bI (mk.testBit 0))), (0, .ref a), (1, .ref v)]) hx hb d_Test_isMet_29 rfl hl (by decide) rfl (fun ls hl => ?_)
      refine lv_aload_n hx hb d_Test_isMet_30 rfl (lv_at hl 3 rfl) ?_
      refine lv_aload_n hx hb d_Test_isMet_31 rfl (lv_at hl 2 rfl) ?_
      refine fg_Test_13_Test hx hb hown hts hE hT rfl d_Test_isMet_32 ?_
      refine x_cp (k_Test_23 (As := [.int (nI k)]) (rest := []) hx hb hml hown hts (c_Values_count l D cA v cnt row (nI k)) (x_preV hE hV.1 rfl rfl hV) rfl hl.1 rfl (Nat.le_of_ble_eq_true rfl) d_Test_isMet_35 (by omega) ⟨Nat.zero_le _, Nat.zero_le _⟩) ?_
      refine x_topi (y := nI n) (by rw [vl_c_in hk, hn]) ?_
      refine lv_istore (lv' := [(4, .int (nI n)), (3, .int (bI (mk.testBit 2))), (2, .int (bI (mk.testBit 0))), (0, .ref a), (1, .ref v)]) hx hb d_Test_isMet_38 hl (by decide) rfl (fun ls hl => ?_)
      refine lv_aload_n hx hb d_Test_isMet_40 rfl (lv_at hl 3 rfl) ?_
      refine fg_Test_7_Test hx hb hown hts hE hT rfl d_Test_isMet_41 ?_
      refine lv_bipush (v := 7) hx hb d_Test_isMet_44 (by decide) ?_
      refine lv_icmp_ne (tgt := 91) hx hb d_Test_isMet_46 (by decide) (fun h7 => ?_) (fun h7 => ?_)
      · have ho7 : ¬ o = 7 := fun z => h7 (by rw [z]; rfl)
        refine lv_iload hx hb d_Test_isMet_91 (lv_at hl 0 rfl) ?_
        refine lv_if_ne (tgt := 109) hx hb d_Test_isMet_93 (by decide) (fun hz => ?_) (fun hz => ?_)
        · have hn0 : 0 < n := Nat.pos_of_ne_zero (fun z => hz (by rw [z]; rfl))
          refine lv_iconst (v := 0) hx hb d_Test_isMet_109 (by decide) ?_
          refine lv_istore (lv' := [(5, .int 0), (4, .int (nI n)), (3, .int (bI (mk.testBit 2))), (2, .int (bI (mk.testBit 0))), (0, .ref a), (1, .ref v)]) hx hb d_Test_isMet_110 hl (by decide) rfl (fun ls hl => ?_)
          refine x_loop (I := fun r ls => ∃ i, i + r = n ∧ (∀ j, j < i → cn_y cnt row o k t mk j = mk.testBit 2) ∧ lv_has ls 7 [(5, .int (nI i)), (4, .int (nI n)), (3, .int (bI (mk.testBit 2))), (2, .int (bI (mk.testBit 0))), (0, .ref a), (1, .ref v)]) (fun r ls ih h => ?_) (n) ⟨0, by omega, fun j h => absurd h (Nat.not_lt_zero j), (lv_sub hl [0, 1, 2, 3, 4, 5] rfl)⟩
          obtain ⟨i, hi, hj0, hl⟩ := h
          refine lv_iload hx hb d_Test_isMet_112 (lv_at hl 0 rfl) ?_
          refine lv_iload hx hb d_Test_isMet_114 (lv_at hl 1 rfl) ?_
          refine lv_icmp_ge (tgt := 167) hx hb d_Test_isMet_116 (by decide) (fun hge => ?_) (fun hge => ?_)
          · have hge := n_ge hge (by omega) (by omega)
            refine lv_iload_n hx hb d_Test_isMet_167 rfl (lv_at hl 2 rfl) ?_
            refine x_topi (y := bI (cn_t cnt row o k t mk)) (by rw [cn_t_end ho7 hn hn0 hn4 (fun j hj => hj0 j (by omega))]) ?_
            exact W.zret (ty := .boolean) hx hb hr (bI_z _) (fun t ht hW => ⟨rfl, ht⟩) (fun q h => by cases h) d_Test_isMet_168
          · have hge := n_lt hge (by omega) (by omega)
            refine lv_aload_n hx hb d_Test_isMet_119 rfl (lv_at hl 4 rfl) ?_
            refine lv_aload_n hx hb d_Test_isMet_120 rfl (lv_at hl 5 rfl) ?_
            refine lv_aload_n hx hb d_Test_isMet_121 rfl (lv_at hl 4 rfl) ?_
            refine fg_Test_13_Test hx hb hown hts hE hT rfl d_Test_isMet_122 ?_
            refine lv_iload hx hb d_Test_isMet_125 (lv_at hl 0 rfl) ?_
            refine x_cp (k_Test_29 (As := [.int (nI k), .int (nI i)]) (rest := [.ref a]) hx hb hml hown hts (c_Values_get l D cA v cnt row k i n hk hn hge hn4) (x_preV hE hV.1 rfl rfl hV) rfl hl.1 rfl (Nat.le_of_ble_eq_true rfl) d_Test_isMet_127 (by omega) ⟨Nat.zero_le _, Nat.zero_le _⟩) ?_
            refine lv_aload_n hx hb d_Test_isMet_130 rfl (lv_at hl 5 rfl) ?_
            refine x_cp (k_Test_33 (As := [.long (row (4 * k + i)), .ref v]) (rest := []) hx hb hml hown hts (c_Test_saysYes l D cA a d o k t mk v cnt row (row (4 * k + i)) (by omega)) (x_preV hE hT rfl rfl ⟨hT, hV⟩) rfl hl.1 rfl (Nat.le_of_ble_eq_true rfl) d_Test_isMet_131 (by omega) ⟨Nat.zero_le _, Nat.zero_le _⟩) ?_
            refine lv_iload_n hx hb d_Test_isMet_134 rfl (lv_at hl 3 rfl) ?_
            refine x_join 143 (fun ls st => lv_has ls 7 [(5, .int (nI i)), (4, .int (nI n)), (3, .int (bI (mk.testBit 2))), (2, .int (bI (mk.testBit 0))), (0, .ref a), (1, .ref v)] ∧ st = [.int (bI (cn_y cnt row o k t mk i))]) ?_ (fun hj => ?_)
            · intro ls st hj
              obtain ⟨hl, rfl⟩ := hj
              refine lv_istore (lv' := [(6, .int (bI (cn_y cnt row o k t mk i))), (5, .int (nI i)), (4, .int (nI n)), (3, .int (bI (mk.testBit 2))), (2, .int (bI (mk.testBit 0))), (0, .ref a), (1, .ref v)]) hx hb d_Test_isMet_143 hl (by decide) rfl (fun ls hl => ?_)
              refine lv_iload hx hb d_Test_isMet_145 (lv_at hl 0 rfl) ?_
              refine lv_iload_n hx hb d_Test_isMet_147 rfl (lv_at hl 3 rfl) ?_
              refine lv_icmp_eq (tgt := 161) hx hb d_Test_isMet_148 (by decide) (fun hs => ?_) (fun hs => ?_)
              · refine lv_iinc (k := 1) (v := nI (i + 1)) (lv' := [(5, .int (nI (i + 1))), (6, .int (bI (cn_y cnt row o k t mk i))), (4, .int (nI n)), (3, .int (bI (mk.testBit 2))), (2, .int (bI (mk.testBit 0))), (0, .ref a), (1, .ref v)]) hx hb d_Test_isMet_161 hl rfl (x_inc _) (by decide) rfl (fun ls hl => ?_)
                refine lv_goto (tgt := 112) hx hb d_Test_isMet_164 (by decide) ?_
                exact ih (r - 1) _ (by omega) ⟨i + 1, by omega, fun j hj => by
                  by_cases e : j = i
                  · rw [e]; exact bI_eq.mp hs
                  · exact hj0 j (by omega), (lv_sub hl [0, 2, 3, 4, 5, 6] rfl)⟩
              · have hs := cn_t_hit ho7 hn hge hn4 (fun z => hs (bI_eq.mpr z))
                refine lv_iload_n hx hb d_Test_isMet_151 rfl (lv_at hl 3 rfl) ?_
                refine lv_if_ne (tgt := 159) hx hb d_Test_isMet_152 (by decide) (fun h2 => ?_) (fun h2 => ?_)
                · refine lv_iconst (v := 0) hx hb d_Test_isMet_159 (by decide) ?_
                  refine x_topi (y := bI (cn_t cnt row o k t mk)) (by rw [hs, bI_n0.mp h2]; rfl) ?_
                  exact W.zret (ty := .boolean) hx hb hr (bI_z _) (fun t ht hW => ⟨rfl, ht⟩) (fun q h => by cases h) d_Test_isMet_160
                · refine lv_iconst (v := 1) hx hb d_Test_isMet_155 (by decide) ?_
                  refine lv_goto (tgt := 160) hx hb d_Test_isMet_156 (by decide) ?_
                  refine x_topi (y := bI (cn_t cnt row o k t mk)) (by rw [hs, bI_0.mp h2]; rfl) ?_
                  exact W.zret (ty := .boolean) hx hb hr (bI_z _) (fun t ht hW => ⟨rfl, ht⟩) (fun q h => by cases h) d_Test_isMet_160
            · refine lv_icmp_eq (tgt := 142) hx hb d_Test_isMet_135 (by decide) (fun he => ?_) (fun he => ?_)
              · refine lv_iconst (v := 0) hx hb d_Test_isMet_142 (by decide) ?_
                refine x_topi (y := bI (cn_y cnt row o k t mk i)) (by show 0 = bI (_ != _); rw [bI_eq.mp he]; cases mk.testBit 0 <;> rfl) ?_
                exact hj _ _ ⟨(lv_sub hl [0, 1, 2, 3, 4, 5] rfl), rfl⟩
              · refine lv_iconst (v := 1) hx hb d_Test_isMet_138 (by decide) ?_
                refine lv_goto (tgt := 143) hx hb d_Test_isMet_139 (by decide) ?_
                refine x_topi (y := bI (cn_y cnt row o k t mk i)) (by show 1 = bI (_ != _); have he2 := fun z => he (bI_eq.mpr z); revert he2; cases cn_a cnt row o (row (4 * k + i)) t <;> cases mk.testBit 0 <;> intro he2 <;> first | rfl | exact absurd rfl he2) ?_
                exact hj _ _ ⟨(lv_sub hl [0, 1, 2, 3, 4, 5] rfl), rfl⟩
        · have hz : cnt k = 0 := by rw [hn]; exact hz
          refine lv_aload_n hx hb d_Test_isMet_96 rfl (lv_at hl 3 rfl) ?_
          refine fg_Test_20_Test hx hb hown hts hE hT rfl d_Test_isMet_97 ?_
          refine lv_if_eq (tgt := 107) hx hb d_Test_isMet_100 (by decide) (fun hm0 => ?_) (fun hm0 => ?_)
          · refine lv_iconst (v := 0) hx hb d_Test_isMet_107 (by decide) ?_
            refine x_topi (y := bI (cn_t cnt row o k t mk)) (by rw [cn_t_no ho7 hz, bI_no (fun z => z ((nI_eq (by omega) (by decide) : nI mk = nI 0 ↔ mk = 0).mp hm0))]) ?_
            exact W.zret (ty := .boolean) hx hb hr (bI_z _) (fun t ht hW => ⟨rfl, ht⟩) (fun q h => by cases h) d_Test_isMet_108
          · refine lv_iconst (v := 1) hx hb d_Test_isMet_103 (by decide) ?_
            refine lv_goto (tgt := 108) hx hb d_Test_isMet_104 (by decide) ?_
            refine x_topi (y := bI (cn_t cnt row o k t mk)) (by rw [cn_t_no ho7 hz, bI_of (show mk ≠ 0 from fun z => hm0 (by rw [z]; rfl))]) ?_
            exact W.zret (ty := .boolean) hx hb hr (bI_z _) (fun t ht hW => ⟨rfl, ht⟩) (fun q h => by cases h) d_Test_isMet_108
      · obtain rfl : o = 7 := (nI_eq (by omega) (by decide)).mp h7
        refine lv_iload hx hb d_Test_isMet_49 (lv_at hl 0 rfl) ?_
        refine lv_if_ne (tgt := 58) hx hb d_Test_isMet_51 (by decide) (fun hz => ?_) (fun hz => ?_)
        · refine lv_iconst (v := 0) hx hb d_Test_isMet_58 (by decide) ?_
          refine lv_aload_n hx hb d_Test_isMet_59 rfl (lv_at hl 3 rfl) ?_
          refine fg_Test_16_Test hx hb hown hts hE hT rfl d_Test_isMet_60 ?_
          refine lv_lconst (v := 0) hx hb d_Test_isMet_63 (by decide) ?_
          refine W.lcmp hx hb d_Test_isMet_64 ?_
          refine lv_if_eq (tgt := 72) hx hb d_Test_isMet_65 (by decide) (fun ht => ?_) (fun ht => ?_)
          · refine lv_iconst (v := 0) hx hb d_Test_isMet_72 (by decide) ?_
            refine lv_icmp_ne (tgt := 80) hx hb d_Test_isMet_73 (by decide) (fun hk => ?_) (fun hk => ?_)
            · exact absurd hk (by decide)
            · refine lv_iconst (v := 1) hx hb d_Test_isMet_76 (by decide) ?_
              refine lv_goto (tgt := 81) hx hb d_Test_isMet_77 (by decide) ?_
              refine lv_iload_n hx hb d_Test_isMet_81 rfl (lv_at hl 2 rfl) ?_
              refine lv_icmp_eq (tgt := 89) hx hb d_Test_isMet_82 (by decide) (fun hs => ?_) (fun hs => ?_)
              · refine lv_iconst (v := 0) hx hb d_Test_isMet_89 (by decide) ?_
                refine x_topi (y := bI (cn_t cnt row 7 k t mk)) (by show _ = bI ((decide (cnt k = 0) == decide (t ≠ 0)) != mk.testBit 0); rw [decide_eq_false (show ¬ cnt k = 0 by rw [hn]; exact hz), decide_eq_false (show ¬ t ≠ 0 from fun z => z ((lg_cmp_eq _ _).mp ht)), bI_1.mp hs.symm]; rfl) ?_
                exact W.zret (ty := .boolean) hx hb hr (bI_z _) (fun t ht hW => ⟨rfl, ht⟩) (fun q h => by cases h) d_Test_isMet_90
              · refine lv_iconst (v := 1) hx hb d_Test_isMet_85 (by decide) ?_
                refine lv_goto (tgt := 90) hx hb d_Test_isMet_86 (by decide) ?_
                refine x_topi (y := bI (cn_t cnt row 7 k t mk)) (by show _ = bI ((decide (cnt k = 0) == decide (t ≠ 0)) != mk.testBit 0); rw [decide_eq_false (show ¬ cnt k = 0 by rw [hn]; exact hz), decide_eq_false (show ¬ t ≠ 0 from fun z => z ((lg_cmp_eq _ _).mp ht)), bI_n1.mp (fun z => hs z.symm)]; rfl) ?_
                exact W.zret (ty := .boolean) hx hb hr (bI_z _) (fun t ht hW => ⟨rfl, ht⟩) (fun q h => by cases h) d_Test_isMet_90
          · refine lv_iconst (v := 1) hx hb d_Test_isMet_68 (by decide) ?_
            refine lv_goto (tgt := 73) hx hb d_Test_isMet_69 (by decide) ?_
            refine lv_icmp_ne (tgt := 80) hx hb d_Test_isMet_73 (by decide) (fun hk => ?_) (fun hk => ?_)
            · refine lv_iconst (v := 0) hx hb d_Test_isMet_80 (by decide) ?_
              refine lv_iload_n hx hb d_Test_isMet_81 rfl (lv_at hl 2 rfl) ?_
              refine lv_icmp_eq (tgt := 89) hx hb d_Test_isMet_82 (by decide) (fun hs => ?_) (fun hs => ?_)
              · refine lv_iconst (v := 0) hx hb d_Test_isMet_89 (by decide) ?_
                refine x_topi (y := bI (cn_t cnt row 7 k t mk)) (by show _ = bI ((decide (cnt k = 0) == decide (t ≠ 0)) != mk.testBit 0); rw [decide_eq_false (show ¬ cnt k = 0 by rw [hn]; exact hz), decide_eq_true (show t ≠ 0 from fun z => ht ((lg_cmp_eq _ _).mpr z)), bI_0.mp hs.symm]; rfl) ?_
                exact W.zret (ty := .boolean) hx hb hr (bI_z _) (fun t ht hW => ⟨rfl, ht⟩) (fun q h => by cases h) d_Test_isMet_90
              · refine lv_iconst (v := 1) hx hb d_Test_isMet_85 (by decide) ?_
                refine lv_goto (tgt := 90) hx hb d_Test_isMet_86 (by decide) ?_
                refine x_topi (y := bI (cn_t cnt row 7 k t mk)) (by show _ = bI ((decide (cnt k = 0) == decide (t ≠ 0)) != mk.testBit 0); rw [decide_eq_false (show ¬ cnt k = 0 by rw [hn]; exact hz), decide_eq_true (show t ≠ 0 from fun z => ht ((lg_cmp_eq _ _).mpr z)), bI_n0.mp (fun z => hs z.symm)]; rfl) ?_
                exact W.zret (ty := .boolean) hx hb hr (bI_z _) (fun t ht hW => ⟨rfl, ht⟩) (fun q h => by cases h) d_Test_isMet_90
            · exact absurd hk (by decide)
        · refine lv_iconst (v := 1) hx hb d_Test_isMet_54 (by decide) ?_
          refine lv_goto (tgt := 59) hx hb d_Test_isMet_55 (by decide) ?_
          refine lv_aload_n hx hb d_Test_isMet_59 rfl (lv_at hl 3 rfl) ?_
          refine fg_Test_16_Test hx hb hown hts hE hT rfl d_Test_isMet_60 ?_
          refine lv_lconst (v := 0) hx hb d_Test_isMet_63 (by decide) ?_
          refine W.lcmp hx hb d_Test_isMet_64 ?_
          refine lv_if_eq (tgt := 72) hx hb d_Test_isMet_65 (by decide) (fun ht => ?_) (fun ht => ?_)
          · refine lv_iconst (v := 0) hx hb d_Test_isMet_72 (by decide) ?_
            refine lv_icmp_ne (tgt := 80) hx hb d_Test_isMet_73 (by decide) (fun hk => ?_) (fun hk => ?_)
            · refine lv_iconst (v := 0) hx hb d_Test_isMet_80 (by decide) ?_
              refine lv_iload_n hx hb d_Test_isMet_81 rfl (lv_at hl 2 rfl) ?_
              refine lv_icmp_eq (tgt := 89) hx hb d_Test_isMet_82 (by decide) (fun hs => ?_) (fun hs => ?_)
              · refine lv_iconst (v := 0) hx hb d_Test_isMet_89 (by decide) ?_
                refine x_topi (y := bI (cn_t cnt row 7 k t mk)) (by show _ = bI ((decide (cnt k = 0) == decide (t ≠ 0)) != mk.testBit 0); rw [decide_eq_true (show cnt k = 0 by rw [hn]; exact hz), decide_eq_false (show ¬ t ≠ 0 from fun z => z ((lg_cmp_eq _ _).mp ht)), bI_0.mp hs.symm]; rfl) ?_
                exact W.zret (ty := .boolean) hx hb hr (bI_z _) (fun t ht hW => ⟨rfl, ht⟩) (fun q h => by cases h) d_Test_isMet_90
              · refine lv_iconst (v := 1) hx hb d_Test_isMet_85 (by decide) ?_
                refine lv_goto (tgt := 90) hx hb d_Test_isMet_86 (by decide) ?_
                refine x_topi (y := bI (cn_t cnt row 7 k t mk)) (by show _ = bI ((decide (cnt k = 0) == decide (t ≠ 0)) != mk.testBit 0); rw [decide_eq_true (show cnt k = 0 by rw [hn]; exact hz), decide_eq_false (show ¬ t ≠ 0 from fun z => z ((lg_cmp_eq _ _).mp ht)), bI_n0.mp (fun z => hs z.symm)]; rfl) ?_
                exact W.zret (ty := .boolean) hx hb hr (bI_z _) (fun t ht hW => ⟨rfl, ht⟩) (fun q h => by cases h) d_Test_isMet_90
            · exact absurd hk (by decide)
          · refine lv_iconst (v := 1) hx hb d_Test_isMet_68 (by decide) ?_
            refine lv_goto (tgt := 73) hx hb d_Test_isMet_69 (by decide) ?_
            refine lv_icmp_ne (tgt := 80) hx hb d_Test_isMet_73 (by decide) (fun hk => ?_) (fun hk => ?_)
            · exact absurd hk (by decide)
            · refine lv_iconst (v := 1) hx hb d_Test_isMet_76 (by decide) ?_
              refine lv_goto (tgt := 81) hx hb d_Test_isMet_77 (by decide) ?_
              refine lv_iload_n hx hb d_Test_isMet_81 rfl (lv_at hl 2 rfl) ?_
              refine lv_icmp_eq (tgt := 89) hx hb d_Test_isMet_82 (by decide) (fun hs => ?_) (fun hs => ?_)
              · refine lv_iconst (v := 0) hx hb d_Test_isMet_89 (by decide) ?_
                refine x_topi (y := bI (cn_t cnt row 7 k t mk)) (by show _ = bI ((decide (cnt k = 0) == decide (t ≠ 0)) != mk.testBit 0); rw [decide_eq_true (show cnt k = 0 by rw [hn]; exact hz), decide_eq_true (show t ≠ 0 from fun z => ht ((lg_cmp_eq _ _).mpr z)), bI_1.mp hs.symm]; rfl) ?_
                exact W.zret (ty := .boolean) hx hb hr (bI_z _) (fun t ht hW => ⟨rfl, ht⟩) (fun q h => by cases h) d_Test_isMet_90
              · refine lv_iconst (v := 1) hx hb d_Test_isMet_85 (by decide) ?_
                refine lv_goto (tgt := 90) hx hb d_Test_isMet_86 (by decide) ?_
                refine x_topi (y := bI (cn_t cnt row 7 k t mk)) (by show _ = bI ((decide (cnt k = 0) == decide (t ≠ 0)) != mk.testBit 0); rw [decide_eq_true (show cnt k = 0 by rw [hn]; exact hz), decide_eq_true (show t ≠ 0 from fun z => ht ((lg_cmp_eq _ _).mpr z)), bI_n1.mp (fun z => hs z.symm)]; rfl) ?_
                exact W.zret (ty := .boolean) hx hb hr (bI_z _) (fun t ht hW => ⟨rfl, ht⟩) (fun q h => by cases h) d_Test_isMet_90
    · refine lv_if_eq (tgt := 28) hx hb d_Test_isMet_21 (by decide) (fun h1 => ?_) (fun h1 => ?_)
      · refine lv_iconst (v := 0) hx hb d_Test_isMet_28 (by decide) ?_
        refine x_topi (y := bI (mk.testBit 2)) (by rw [(mk_4 mk (by omega)).mp h1]; rfl) ?_
        exact hj _ _ ⟨(lv_sub hl [0, 1, 2] rfl), rfl⟩
      · refine lv_iconst (v := 1) hx hb d_Test_isMet_24 (by decide) ?_
        refine lv_goto (tgt := 29) hx hb d_Test_isMet_25 (by decide) ?_
        refine x_topi (y := bI (mk.testBit 2)) (by rw [show mk.testBit 2 = true from Bool.not_eq_false _ ▸ (fun z => h1 ((mk_4 mk (by omega)).mpr z))]; rfl) ?_
        exact hj _ _ ⟨(lv_sub hl [0, 1, 2] rfl), rfl⟩
  · refine lv_if_eq (tgt := 13) hx hb d_Test_isMet_6 (by decide) (fun h1 => ?_) (fun h1 => ?_)
    · refine lv_iconst (v := 0) hx hb d_Test_isMet_13 (by decide) ?_
      refine x_topi (y := bI (mk.testBit 0)) (by rw [bI_0.mp h1]; rfl) ?_
      exact hj _ _ ⟨(lv_sub hl [0, 1] rfl), rfl⟩
    · refine lv_iconst (v := 1) hx hb d_Test_isMet_9 (by decide) ?_
      refine lv_goto (tgt := 14) hx hb d_Test_isMet_10 (by decide) ?_
      refine x_topi (y := bI (mk.testBit 0)) (by rw [bI_n0.mp h1]; rfl) ?_
      exact hj _ _ ⟨(lv_sub hl [0, 1] rfl), rfl⟩
set_option maxHeartbeats 4000000 in
set_option maxRecDepth 100000 in
theorem c_Joined_isMet (l : Launch) (D : va_G) (cA : Nat → ClassId) (v : Nat) (cnt : Nat → Int32) (row : Nat → Int64) (made : Nat) (N : n_T) (hv : Nat → Bool) (hok : n_ok made N) (hvo : vl_ok cnt) (hVe : n_V cnt row made N hv) : ∀ (d i : Nat), i < made → n_kd N i ≠ 3 → n_dp N i ≤ d → Met l y_Joined_isMet [.code y_Joined_isMet b_Joined_isMet 5 (some .boolean)] (x_rm (3 + d) 0 0) (x_P D cA [.ref (n_ad N i), .ref v] (fun H => n_W D cA made N H ∧ v_W D cA v cnt row H)) (x_Q (some (.int (bI (hv i)))) x_same) 0 0 (fun _ => False) := by
  intro d
  induction d with
  | zero => intro i hi hk hd; have := (hok i hi).2.1; omega
  | succ d ihd =>
    intro i hi hk hd
    refine x_met (own := "DecisionLayers$Joined") (by decide) rfl (Nat.le_of_ble_eq_true rfl) ?_
    intro pp ee s mm below mt cd ls hx hb hr hlk hnm hml hown hts hE hP hl
    have hl : lv_has ls 5 [(0, .ref (n_ad N i)), (1, .ref v)] := hl
    obtain ⟨hN, hV⟩ := id hP
    obtain ⟨hJ, hPa⟩ := (hN i hi).2 hk
    obtain ⟨hk3, hd1, hd5, -, hj⟩ := hok i hi
    obtain ⟨hlen, hch⟩ := hj hk
    have hk2 : n_kd N i < 3 := by omega
    have hval : hv i = n_j hv (n_kd N i) (n_ch N i) := by rw [hVe i hi, if_neg hk]
    refine lv_aload_n hx hb d_Joined_isMet_0 rfl (lv_at hl 0 rfl) ?_
    refine fg_Joined_7_Joined hx hb hown hts hE hJ rfl d_Joined_isMet_1 ?_
    refine x_join 12 (fun ls st => lv_has ls 5 [(0, .ref (n_ad N i)), (1, .ref v)] ∧ st = [.int (bI (decide (¬ n_kd N i = 0)))]) ?_ (fun hj => ?_)
    · intro ls st hj
      obtain ⟨hl, rfl⟩ := hj
      refine lv_istore_n (lv' := [(2, .int (bI (decide (¬ n_kd N i = 0)))), (0, .ref (n_ad N i)), (1, .ref v)]) hx hb d_Joined_isMet_12 rfl hl (by decide) rfl (fun ls hl => ?_)
      refine lv_iconst (v := 0) hx hb d_Joined_isMet_13 (by decide) ?_
      refine lv_istore_n (lv' := [(3, .int 0), (2, .int (bI (decide (¬ n_kd N i = 0)))), (0, .ref (n_ad N i)), (1, .ref v)]) hx hb d_Joined_isMet_14 rfl hl (by decide) rfl (fun ls hl => ?_)
      refine x_loop (I := fun r ls => ∃ j, j + r = (n_ch N i).length ∧ (∀ (j1 c : Nat), j1 < j → (n_ch N i)[j1]? = some c → hv c = decide (n_kd N i = 0)) ∧ lv_has ls 5 [(3, .int (nI j)), (2, .int (bI (decide (¬ n_kd N i = 0)))), (0, .ref (n_ad N i)), (1, .ref v)]) (fun r ls ih h => ?_) ((n_ch N i).length) ⟨0, by omega, fun j1 c h => absurd h (Nat.not_lt_zero j1), (lv_sub hl [0, 1, 2, 3] rfl)⟩
      obtain ⟨j, hjr, hj0, hl⟩ := h
      refine lv_iload_n hx hb d_Joined_isMet_15 rfl (lv_at hl 0 rfl) ?_
      refine lv_aload_n hx hb d_Joined_isMet_16 rfl (lv_at hl 2 rfl) ?_
      refine fg_Joined_13_Joined hx hb hown hts hE hJ rfl d_Joined_isMet_17 ?_
      refine x_alen hx hb hE.2.2 hPa 4 rfl d_Joined_isMet_20 ?_
      refine lv_icmp_ge (tgt := 67) hx hb d_Joined_isMet_21 (by decide) (fun hge => ?_) (fun hge => ?_)
      · have hge := n_ge hge (by omega) (by omega)
        have hfin := n_fin (hv := hv) hk2 (fun c hc => by
          obtain ⟨j1, hj1⟩ := List.getElem?_of_mem hc
          exact hj0 j1 c (by have := (List.getElem?_eq_some_iff.mp hj1).1; omega) hj1)
        refine lv_aload_n hx hb d_Joined_isMet_67 rfl (lv_at hl 2 rfl) ?_
        refine fg_Joined_7_Joined hx hb hown hts hE hJ rfl d_Joined_isMet_68 ?_
        refine lv_iconst (v := 1) hx hb d_Joined_isMet_71 (by decide) ?_
        refine lv_icmp_eq (tgt := 79) hx hb d_Joined_isMet_72 (by decide) (fun h1 => ?_) (fun h1 => ?_)
        · refine lv_iconst (v := 0) hx hb d_Joined_isMet_79 (by decide) ?_
          refine x_topi (y := bI (hv i)) (by rw [hval, hfin, bI_no (fun z => z ((nI_eq (by omega) (by decide) : nI (n_kd N i) = nI 1 ↔ n_kd N i = 1).mp h1))]) ?_
          exact W.zret (ty := .boolean) hx hb hr (bI_z _) (fun t ht hW => ⟨rfl, ht⟩) (fun q h => by cases h) d_Joined_isMet_80
        · refine lv_iconst (v := 1) hx hb d_Joined_isMet_75 (by decide) ?_
          refine lv_goto (tgt := 80) hx hb d_Joined_isMet_76 (by decide) ?_
          refine x_topi (y := bI (hv i)) (by rw [hval, hfin, bI_of (show ¬ n_kd N i = 1 from fun z => h1 (by rw [z]; rfl))]) ?_
          exact W.zret (ty := .boolean) hx hb hr (bI_z _) (fun t ht hW => ⟨rfl, ht⟩) (fun q h => by cases h) d_Joined_isMet_80
      · have hge := n_lt hge (by omega) (by omega)
        obtain ⟨ci, hci⟩ : ∃ ci, (n_ch N i)[j]? = some ci := ⟨_, List.getElem?_eq_getElem hge⟩
        obtain ⟨hc1, hc2⟩ := hch ci (List.mem_of_getElem? hci)
        have hcm : ci < made := by omega
        obtain ⟨-, hcd, -, hct, -⟩ := hok ci hcm
        refine lv_aload_n hx hb d_Joined_isMet_24 rfl (lv_at hl 2 rfl) ?_
        refine fg_Joined_13_Joined hx hb hown hts hE hJ rfl d_Joined_isMet_25 ?_
        refine lv_iload_n hx hb d_Joined_isMet_28 rfl (lv_at hl 0 rfl) ?_
        refine x_aald hx hb hE.2.2 hPa 4 rfl hge (by omega) d_Joined_isMet_29 ?_
        refine x_topv (y := .ref (n_ad N ci)) (by rw [hci]; rfl) ?_
        refine lv_astore (lv' := [(4, .ref (n_ad N ci)), (3, .int (nI j)), (2, .int (bI (decide (¬ n_kd N i = 0)))), (0, .ref (n_ad N i)), (1, .ref v)]) hx hb d_Joined_isMet_30 hl (by decide) rfl (fun ls hl => ?_)
        refine lv_aload hx hb d_Joined_isMet_32 (lv_at hl 0 rfl) ?_
        refine lv_ifnull hx hb d_Joined_isMet_34 ?_
        refine lv_aload hx hb d_Joined_isMet_37 (lv_at hl 0 rfl) ?_
        refine lv_aload_n hx hb d_Joined_isMet_39 rfl (lv_at hl 4 rfl) ?_
        have key : ∀ (H9 : Heap) (hH : H9 = s.heap), CallRun pp l ee (x_rm (3 + (d + 1)) 0 0) s mm [Value.ref (n_ad N i), Value.ref v].toArray below mt cd H9 [] 0 0 0 0 (F0 mm 40 ls [.ref v, .ref (n_ad N ci)]) [] (x_Q (some (.int (bI (hv ci)))) x_same (Value.ref (n_ad N ci) :: [Value.ref v]).toArray) (fun _ => False) := by
          intro H9 hH
          subst hH
          by_cases hc3 : n_kd N ci = 3
          · obtain ⟨o8, k8, m8⟩ := hct hc3
            have hTc := (hN ci hcm).1 hc3
            rw [show hv ci = cn_t cnt row (n_op N ci) (n_ky N ci) (n_tt N ci) (n_mk N ci) by rw [hVe ci hcm, if_pos hc3]]
            exact k_Joined_17_Test (As := [.ref v]) (rest := []) hx hb hml hown hts hE (c_Test_isMet l D cA (n_ad N ci) (nI (n_dp N ci)) (n_op N ci) (n_ky N ci) (n_tt N ci) (n_mk N ci) v cnt row (d - 1) o8 k8 m8 hvo) (x_preV hE hTc rfl rfl ⟨hTc, hV⟩) rfl hl.1 rfl (Nat.le_of_ble_eq_true rfl) d_Joined_isMet_40 (by omega) ⟨Nat.zero_le _, Nat.zero_le _⟩
          · exact k_Joined_17_Joined (As := [.ref v]) (rest := []) hx hb hml hown hts hE (ihd ci hcm hc3 (by omega)) (x_preV hE ((hN ci hcm).2 hc3).1 rfl rfl ⟨hN, hV⟩) rfl hl.1 rfl (Nat.le_of_ble_eq_true rfl) d_Joined_isMet_40 (by omega) ⟨Nat.zero_le _, Nat.zero_le _⟩
        refine x_cp (key s.heap rfl) ?_
        refine lv_iload_n hx hb d_Joined_isMet_43 rfl (lv_at hl 2 rfl) ?_
        refine lv_icmp_ne (tgt := 61) hx hb d_Joined_isMet_44 (by decide) (fun he => ?_) (fun he => ?_)
        · refine lv_iinc (k := 1) (v := nI (j + 1)) (lv' := [(3, .int (nI (j + 1))), (4, .ref (n_ad N ci)), (2, .int (bI (decide (¬ n_kd N i = 0)))), (0, .ref (n_ad N i)), (1, .ref v)]) hx hb d_Joined_isMet_61 hl rfl (x_inc _) (by decide) rfl (fun ls hl => ?_)
          refine lv_goto (tgt := 15) hx hb d_Joined_isMet_64 (by decide) ?_
          exact ih (r - 1) _ (by omega) ⟨j + 1, by omega, fun j1 c1 h1 h2 => by
            by_cases e : j1 = j
            · rw [e, hci] at h2; cases h2
              have he2 := fun z => he (bI_eq.mpr z)
              by_cases hz : n_kd N i = 0
              · rw [decide_eq_true hz]; rw [decide_eq_false (fun z => z hz)] at he2; exact Bool.not_eq_false _ ▸ he2
              · rw [decide_eq_false hz]; rw [decide_eq_true hz] at he2; exact Bool.not_eq_true _ ▸ he2
            · exact hj0 j1 c1 (by omega) h2, (lv_sub hl [0, 2, 3, 4] rfl)⟩
        · have hset := n_set (hv := hv) hk2 (List.mem_of_getElem? hci) (bI_eq.mp he)
          refine lv_aload_n hx hb d_Joined_isMet_47 rfl (lv_at hl 3 rfl) ?_
          refine fg_Joined_7_Joined hx hb hown hts hE hJ rfl d_Joined_isMet_48 ?_
          refine lv_iconst (v := 1) hx hb d_Joined_isMet_51 (by decide) ?_
          refine lv_icmp_ne (tgt := 59) hx hb d_Joined_isMet_52 (by decide) (fun h1 => ?_) (fun h1 => ?_)
          · refine lv_iconst (v := 0) hx hb d_Joined_isMet_59 (by decide) ?_
            refine x_topi (y := bI (hv i)) (by rw [hval, hset, bI_no (fun z => h1 (by rw [z]; rfl))]) ?_
            exact W.zret (ty := .boolean) hx hb hr (bI_z _) (fun t ht hW => ⟨rfl, ht⟩) (fun q h => by cases h) d_Joined_isMet_60
          · refine lv_iconst (v := 1) hx hb d_Joined_isMet_55 (by decide) ?_
            refine lv_goto (tgt := 60) hx hb d_Joined_isMet_56 (by decide) ?_
            refine x_topi (y := bI (hv i)) (by rw [hval, hset, bI_of ((nI_eq (by omega) (by decide) : nI (n_kd N i) = nI 1 ↔ n_kd N i = 1).mp h1)]) ?_
            exact W.zret (ty := .boolean) hx hb hr (bI_z _) (fun t ht hW => ⟨rfl, ht⟩) (fun q h => by cases h) d_Joined_isMet_60
    · refine lv_if_eq (tgt := 11) hx hb d_Joined_isMet_4 (by decide) (fun h1 => ?_) (fun h1 => ?_)
      · refine lv_iconst (v := 0) hx hb d_Joined_isMet_11 (by decide) ?_
        refine x_topi (y := bI (decide (¬ n_kd N i = 0))) (by rw [bI_no (fun z => z ((nI_eq (by omega) (by decide) : nI (n_kd N i) = nI 0 ↔ n_kd N i = 0).mp h1))]) ?_
        exact hj _ _ ⟨(lv_sub hl [0, 1] rfl), rfl⟩
      · refine lv_iconst (v := 1) hx hb d_Joined_isMet_7 (by decide) ?_
        refine lv_goto (tgt := 12) hx hb d_Joined_isMet_8 (by decide) ?_
        refine x_topi (y := bI (decide (¬ n_kd N i = 0))) (by rw [bI_of (show ¬ n_kd N i = 0 from fun z => h1 (by rw [z]; rfl))]) ?_
        exact hj _ _ ⟨(lv_sub hl [0, 1] rfl), rfl⟩
