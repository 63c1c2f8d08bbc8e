/-! bits as the model reads them -/
theorem l_shr_bit (a D : Int64) (s i : Nat) (hD : (D.toBitVec.smod 64).toNat = s) (h : s + i < 64) : (a >>> D).toBitVec.getLsbD i = a.toBitVec.getLsbD (s + i) := by
  show (a.toBitVec.sshiftRight (D.toBitVec.smod 64).toNat).getLsbD i = _
  rw [hD, BitVec.getLsbD_sshiftRight, if_pos h, decide_eq_false (by omega)]
  rfl
def bL (b : Bool) : Int64 := if b then 1 else 0
theorem bL_eq {a b : Bool} : bL a = bL b ↔ a = b := by cases a <;> cases b <;> decide
theorem l_and1 (x : Int64) : x &&& 1 = bL (x.toBitVec.getLsbD 0) := by
  apply Int64.toBitVec_inj.1
  apply BitVec.eq_of_toNat_eq
  rw [Int64.toBitVec_and, BitVec.toNat_and]
  have h1 : x.toBitVec.toNat &&& (1 : Int64).toBitVec.toNat = x.toBitVec.toNat % 2 := Nat.and_one_is_mod _
  rw [h1, ← BitVec.testBit_toNat, Nat.testBit_zero]
  rcases Nat.mod_two_eq_zero_or_one x.toBitVec.toNat with h | h <;> rw [h] <;> rfl
theorem cn_sm : ∀ k, k < 64 → (((nI k).toInt64 &&& 63).toBitVec.smod 64).toNat = k := by decide +kernel
theorem cn_bit (x : Int64) {k : Nat} (h : k < 32) : (x >>> (((31 : Int32) - nI k).toInt64 &&& 63)) &&& 1 = bL (cn_b x (31 - k)) := by
  rw [l_and1, show (31 : Int32) = nI 31 from rfl, pk_sub (by omega), l_shr_bit _ _ (31 - k) 0 (cn_sm _ (by omega)) (by omega)]
  rfl
theorem cn_q_a (t : Int64) : ((t >>> ((32 : Int32).toInt64 &&& 63)) &&& 63).toInt32 = nI (cn_q t) := by
  rw [Int64.toInt32_and, show Int64.toInt32 63 = (63 : Int32) from rfl, pk_and _ 6 (by decide)]
  congr 1
  unfold cn_q
  rw [Int64.toBitVec_toInt32, BitVec.signExtend_eq_setWidth_of_le _ (by decide), BitVec.toNat_setWidth]
  apply Nat.eq_of_testBit_eq
  intro i
  have e64 : t.toBitVec.toNat / 2 ^ 32 % 64 = t.toBitVec.toNat / 2 ^ 32 % 2 ^ 6 := rfl
  rw [e64, Nat.testBit_mod_two_pow, Nat.testBit_mod_two_pow, Nat.testBit_mod_two_pow, Nat.testBit_div_two_pow]
  by_cases hi : i < 6
  · rw [decide_eq_true hi, decide_eq_true (show i < 32 by omega), BitVec.testBit_toNat, BitVec.testBit_toNat, l_shr_bit t _ 32 i (by decide) (by omega), Nat.add_comm 32 i]
    rfl
  · rw [decide_eq_false hi]; rfl
theorem cn_p_of {v t : Int64} (h : ∀ k, k < min 32 (cn_q t) → cn_b v (31 - k) = cn_b t (31 - k)) : cn_p v t = true := decide_eq_true h
/-- the number of the first n that f names -/
def cn_n (f : Nat → Bool) : Nat → Nat
  | 0 => 0
  | n + 1 => if f n then cn_n f n + 1 else cn_n f n
theorem cn_n_le (f : Nat → Bool) (n : Nat) : cn_n f n ≤ n := by
  induction n with
  | zero => exact Nat.le_refl _
  | succ n ih => unfold cn_n; by_cases h : f n = true <;> simp [h] <;> omega
theorem cn_n_all {f : Nat → Bool} {n : Nat} : cn_n f n = n ↔ ∀ j, j < n → f j = true := by
  induction n with
  | zero => exact ⟨fun _ j h => absurd h (Nat.not_lt_zero j), fun _ => rfl⟩
  | succ n ih =>
    have hle := cn_n_le f n
    unfold cn_n
    by_cases h : f n = true
    · rw [if_pos h]
      constructor
      · intro e j hj
        by_cases e2 : j = n
        · rw [e2]; exact h
        · exact ih.mp (by omega) j (by omega)
      · intro e; rw [ih.mpr (fun j hj => e j (by omega))]
    · rw [if_neg h]
      exact ⟨fun e => by omega, fun e => absurd (e n (by omega)) h⟩
theorem cn_n_pos {f : Nat → Bool} {n : Nat} : 0 < cn_n f n ↔ ∃ j, j < n ∧ f j = true := by
  induction n with
  | zero => exact ⟨fun h => absurd h (Nat.lt_irrefl _), fun ⟨j, h, _⟩ => absurd h (Nat.not_lt_zero j)⟩
  | succ n ih =>
    unfold cn_n
    by_cases h : f n = true
    · rw [if_pos h]; exact ⟨fun _ => ⟨n, by omega, h⟩, fun _ => by omega⟩
    · rw [if_neg h, ih]
      constructor
      · rintro ⟨j, a, b⟩; exact ⟨j, by omega, b⟩
      · rintro ⟨j, a, b⟩
        by_cases e : j = n
        · rw [e] at b; exact absurd b h
        · exact ⟨j, by omega, b⟩
theorem cn_t_m {cnt : Nat → Int32} {row : Nat → Int64} {o k : Nat} {t : Int64} {mk n : Nat} (ho : ¬ o = 7) (hn : cnt k = nI n) (h0 : 0 < n) (h4 : n ≤ 4) : cn_t cnt row o k t mk = if mk.testBit 2 then decide (cn_n (cn_y cnt row o k t mk) n = n) else decide (0 < cn_n (cn_y cnt row o k t mk) n) := by
  have hc : (cnt k).toNatClampNeg = n := by rw [hn]; exact nI_clamp (by omega)
  have hz : ¬ cnt k = 0 := by rw [hn]; exact nI_ne0 h0 (by omega)
  unfold cn_t
  rw [if_neg ho, if_neg hz, hc]
  by_cases hm : mk.testBit 2 = true
  · rw [if_pos hm, if_pos hm]
    exact decide_eq_decide.mpr cn_n_all.symm
  · rw [if_neg hm, if_neg hm]
    exact decide_eq_decide.mpr cn_n_pos.symm
set_option maxHeartbeats 4000000 in
set_option maxRecDepth 100000 in
theorem c_M_sameText (l : Launch) (D : va_G) (cA : Nat → ClassId) (a b : Int64) : Met l y_M_sameText [.code y_M_sameText b_M_sameText 6 (some .boolean)] (x_rm 2 0 0) (x_P D cA [.long a, .long b] (fun _ => True)) (x_Q (some (.int (bI (tx_same a b)))) (x_same)) 0 0 (fun _ => False) := by
  refine x_met (own := "DecisionLayersModel") (by decide) rfl (Nat.le_of_ble_eq_true rfl) ?_
  intro pp ee s mm below mt cd ls hx hb hr hlk hnm hml hown hts hE hP hl
  have hl : lv_has ls 6 [(0, .long a), (2, .long b)] := hl
  have ha8 := tx_le a
  have hb8 := tx_le b
  refine lv_lload_n hx hb d_M_sameText_0 rfl (lv_at hl 0 rfl) ?_
  refine x_cp (k_M_84 (As := [.long a]) (rest := []) hx hb hml hown hts (c_M_length l D cA a) (x_preS hE trivial) rfl hl.1 rfl (Nat.le_of_ble_eq_true rfl) d_M_sameText_1 (by decide) ⟨Nat.zero_le _, Nat.zero_le _⟩) ?_
  refine lv_lload_n hx hb d_M_sameText_4 rfl (lv_at hl 1 rfl) ?_
  refine x_cp (k_M_84 (As := [.long b]) (rest := [.int (nI (tx_n a))]) hx hb hml hown hts (c_M_length l D cA b) (x_preS hE trivial) rfl hl.1 rfl (Nat.le_of_ble_eq_true rfl) d_M_sameText_5 (by decide) ⟨Nat.zero_le _, Nat.zero_le _⟩) ?_
  refine x_join 16 (fun ls st => lv_has ls 6 [(0, .long a), (2, .long b)] ∧ st = [.int (bI (decide (tx_n a = tx_n b)))]) ?_ (fun hj => ?_)
  · intro ls st hj
    obtain ⟨hl, rfl⟩ := hj
    refine lv_istore (lv' := [(4, .int (bI (decide (tx_n a = tx_n b)))), (0, .long a), (2, .long b)]) hx hb d_M_sameText_16 hl (by decide) rfl (fun ls hl => ?_)
    refine lv_iconst (v := 0) hx hb d_M_sameText_18 (by decide) ?_
    refine lv_istore (lv' := [(5, .int 0), (4, .int (bI (decide (tx_n a = tx_n b)))), (0, .long a), (2, .long b)]) hx hb d_M_sameText_19 hl (by decide) rfl (fun ls hl => ?_)
    refine x_loop (I := fun r ls => ∃ (i : Nat) (sm : Bool), i + r = tx_n a ∧ (sm = true ↔ tx_n a = tx_n b ∧ ∀ j, j < i → tx_c a j = tx_c b j) ∧ lv_has ls 6 [(5, .int (nI i)), (4, .int (bI sm)), (0, .long a), (2, .long b)]) (fun r ls ih h => ?_) (tx_n a) ⟨0, decide (tx_n a = tx_n b), by omega, by rw [decide_eq_true_iff]; exact ⟨fun h => ⟨h, fun j hj => absurd hj (Nat.not_lt_zero j)⟩, fun h => h.1⟩, (lv_sub hl [0, 1, 2, 3] rfl)⟩
    obtain ⟨i, sm, hi, hsm, hl⟩ := h
    refine lv_iload hx hb d_M_sameText_21 (lv_at hl 0 rfl) ?_
    refine lv_lload_n hx hb d_M_sameText_23 rfl (lv_at hl 2 rfl) ?_
    refine x_cp (k_M_84 (As := [.long a]) (rest := [.int (nI i)]) hx hb hml hown hts (c_M_length l D cA a) (x_preS hE trivial) rfl hl.1 rfl (Nat.le_of_ble_eq_true rfl) d_M_sameText_24 (by decide) ⟨Nat.zero_le _, Nat.zero_le _⟩) ?_
    refine lv_icmp_ge (tgt := 63) hx hb d_M_sameText_27 (by decide) (fun g1 => ?_) (fun g1 => ?_)
    · have g1 := n_ge g1 (by omega) (by omega)
      obtain rfl : i = tx_n a := by omega
      refine lv_iload hx hb d_M_sameText_63 (lv_at hl 1 rfl) ?_
      refine x_topi (y := bI (tx_same a b)) (by
        congr 1
        cases hs : sm with
        | true => exact (decide_eq_true (hsm.mp hs)).symm
        | false => exact (decide_eq_false (fun z => by have := hsm.mpr z; rw [hs] at this; cases this)).symm) ?_
      exact W.zret (ty := .boolean) hx hb hr (bI_z _) (fun t ht _ => ⟨rfl, ht⟩) (fun q h => by cases h) d_M_sameText_65
    · have g1 := n_lt g1 (by omega) (by omega)
      refine lv_iload hx hb d_M_sameText_30 (lv_at hl 1 rfl) ?_
      refine lv_if_eq (tgt := 54) hx hb d_M_sameText_32 (by decide) (fun s1 => ?_) (fun s1 => ?_)
      · refine lv_iconst (v := 0) hx hb d_M_sameText_54 (by decide) ?_
        refine lv_istore (lv' := [(4, .int 0), (5, .int (nI i)), (0, .long a), (2, .long b)]) hx hb d_M_sameText_55 hl (by decide) rfl (fun ls hl => ?_)
        refine lv_iinc (k := 1) (v := nI (i + 1)) (lv' := [(5, .int (nI (i + 1))), (4, .int 0), (0, .long a), (2, .long b)]) hx hb d_M_sameText_57 hl rfl (x_inc _) (by decide) rfl (fun ls hl => ?_)
        refine lv_goto (tgt := 21) hx hb d_M_sameText_60 (by decide) ?_
        exact ih (r - 1) _ (by omega) ⟨i + 1, false, by omega, ⟨(fun z => by cases z), fun z => by have := hsm.mpr ⟨z.1, fun j hj => z.2 j (by omega)⟩; rw [bI_0.mp s1] at this; exact this⟩, (lv_sub hl [0, 1, 2, 3] rfl)⟩
      · refine lv_lload_n hx hb d_M_sameText_35 rfl (lv_at hl 2 rfl) ?_
        refine lv_iload hx hb d_M_sameText_36 (lv_at hl 0 rfl) ?_
        refine x_cp (k_M_77 (As := [.long a, .int (nI i)]) (rest := []) hx hb hml hown hts (c_M_charAt l D cA a i) (x_preS hE trivial) rfl hl.1 rfl (Nat.le_of_ble_eq_true rfl) d_M_sameText_38 (by decide) ⟨Nat.zero_le _, Nat.zero_le _⟩) ?_
        refine lv_lload_n hx hb d_M_sameText_41 rfl (lv_at hl 3 rfl) ?_
        refine lv_iload hx hb d_M_sameText_42 (lv_at hl 0 rfl) ?_
        refine x_cp (k_M_77 (As := [.long b, .int (nI i)]) (rest := [.int (tx_c a i)]) hx hb hml hown hts (c_M_charAt l D cA b i) (x_preS hE trivial) rfl hl.1 rfl (Nat.le_of_ble_eq_true rfl) d_M_sameText_44 (by decide) ⟨Nat.zero_le _, Nat.zero_le _⟩) ?_
        refine lv_icmp_ne (tgt := 54) hx hb d_M_sameText_47 (by decide) (fun s2 => ?_) (fun s2 => ?_)
        · refine lv_iconst (v := 0) hx hb d_M_sameText_54 (by decide) ?_
          refine lv_istore (lv' := [(4, .int 0), (5, .int (nI i)), (0, .long a), (2, .long b)]) hx hb d_M_sameText_55 hl (by decide) rfl (fun ls hl => ?_)
          refine lv_iinc (k := 1) (v := nI (i + 1)) (lv' := [(5, .int (nI (i + 1))), (4, .int 0), (0, .long a), (2, .long b)]) hx hb d_M_sameText_57 hl rfl (x_inc _) (by decide) rfl (fun ls hl => ?_)
          refine lv_goto (tgt := 21) hx hb d_M_sameText_60 (by decide) ?_
          exact ih (r - 1) _ (by omega) ⟨i + 1, false, by omega, ⟨(fun z => by cases z), fun z => absurd (z.2 i (by omega)) s2⟩, (lv_sub hl [0, 1, 2, 3] rfl)⟩
        · refine lv_iconst (v := 1) hx hb d_M_sameText_50 (by decide) ?_
          refine lv_goto (tgt := 55) hx hb d_M_sameText_51 (by decide) ?_
          refine lv_istore (lv' := [(4, .int 1), (5, .int (nI i)), (0, .long a), (2, .long b)]) hx hb d_M_sameText_55 hl (by decide) rfl (fun ls hl => ?_)
          refine lv_iinc (k := 1) (v := nI (i + 1)) (lv' := [(5, .int (nI (i + 1))), (4, .int 1), (0, .long a), (2, .long b)]) hx hb d_M_sameText_57 hl rfl (x_inc _) (by decide) rfl (fun ls hl => ?_)
          refine lv_goto (tgt := 21) hx hb d_M_sameText_60 (by decide) ?_
          exact ih (r - 1) _ (by omega) ⟨i + 1, true, by omega, ⟨fun _ => ⟨(hsm.mp (bI_n0.mp s1)).1, fun j hj => by
            by_cases e : j = i
            · rw [e]; exact s2
            · exact (hsm.mp (bI_n0.mp s1)).2 j (by omega)⟩, fun _ => rfl⟩, (lv_sub hl [0, 1, 2, 3] rfl)⟩
  · refine lv_icmp_ne (tgt := 15) hx hb d_M_sameText_8 (by decide) (fun h1 => ?_) (fun h1 => ?_)
    · refine lv_iconst (v := 0) hx hb d_M_sameText_15 (by decide) ?_
      refine x_topi (y := bI (decide (tx_n a = tx_n b))) (by rw [bI_no (fun z => h1 (by rw [z]))]) ?_
      exact hj _ _ ⟨(lv_sub hl [0, 1] rfl), rfl⟩
    · refine lv_iconst (v := 1) hx hb d_M_sameText_11 (by decide) ?_
      refine lv_goto (tgt := 16) hx hb d_M_sameText_12 (by decide) ?_
      refine x_topi (y := bI (decide (tx_n a = tx_n b))) (by rw [bI_of ((nI_eq (by omega) (by omega)).mp h1)]) ?_
      exact hj _ _ ⟨(lv_sub hl [0, 1] rfl), rfl⟩
set_option maxHeartbeats 4000000 in
set_option maxRecDepth 100000 in
theorem c_M_sameBits (l : Launch) (D : va_G) (cA : Nat → ClassId) (a b : Int64) : Met l y_M_sameBits [.code y_M_sameBits b_M_sameBits 7 (some .boolean)] (x_rm 0 0 0) (x_P D cA [.long a, .long b] (fun _ => True)) (x_Q (some (.int (bI (cn_p a b)))) (x_same)) 0 0 (fun _ => False) := by
  refine x_met (own := "DecisionLayersModel") (by decide) rfl (Nat.le_of_ble_eq_true rfl) ?_
  intro pp ee s mm below mt cd ls hx hb hr hlk hnm hml hown hts hE hP hl
  have hl : lv_has ls 7 [(0, .long a), (2, .long b)] := hl
  have hq6 := cn_q_lt b
  refine lv_lload_n hx hb d_M_sameBits_0 rfl (lv_at hl 1 rfl) ?_
  refine lv_bipush (v := 32) hx hb d_M_sameBits_1 (by decide) ?_
  refine lv_lshr hx hb d_M_sameBits_3 rfl ?_
  refine lv_ldc2 hx hb hown (hts _ w_3_56) d_M_sameBits_4 ?_
  refine lv_land hx hb d_M_sameBits_7 ?_
  refine lv_l2i hx hb d_M_sameBits_8 rfl ?_
  refine x_topi (y := nI (cn_q b)) (cn_q_a b) ?_
  refine lv_istore (lv' := [(4, .int (nI (cn_q b))), (0, .long a), (2, .long b)]) hx hb d_M_sameBits_9 hl (by decide) rfl (fun ls hl => ?_)
  refine lv_iconst (v := 1) hx hb d_M_sameBits_11 (by decide) ?_
  refine lv_istore (lv' := [(5, .int 1), (4, .int (nI (cn_q b))), (0, .long a), (2, .long b)]) hx hb d_M_sameBits_12 hl (by decide) rfl (fun ls hl => ?_)
  refine lv_iconst (v := 0) hx hb d_M_sameBits_14 (by decide) ?_
  refine lv_istore (lv' := [(6, .int 0), (5, .int 1), (4, .int (nI (cn_q b))), (0, .long a), (2, .long b)]) hx hb d_M_sameBits_15 hl (by decide) rfl (fun ls hl => ?_)
  refine x_loop (I := fun r ls => ∃ (i : Nat) (sm : Bool), i + r = 32 ∧ i ≤ cn_q b ∧ (sm = true ↔ ∀ k, k < i → cn_b a (31 - k) = cn_b b (31 - k)) ∧ lv_has ls 7 [(6, .int (nI i)), (5, .int (bI sm)), (4, .int (nI (cn_q b))), (0, .long a), (2, .long b)]) (fun r ls ih h => ?_) (32) ⟨0, true, by omega, by omega, ⟨fun _ j hj => absurd hj (Nat.not_lt_zero j), fun _ => rfl⟩, (lv_sub hl [0, 1, 2, 3, 4] rfl)⟩
  obtain ⟨i, sm, hi, hiq, hsm, hl⟩ := h
  refine lv_iload hx hb d_M_sameBits_17 (lv_at hl 0 rfl) ?_
  refine lv_bipush (v := 32) hx hb d_M_sameBits_19 (by decide) ?_
  refine lv_icmp_ge (tgt := 71) hx hb d_M_sameBits_21 (by decide) (fun g1 => ?_) (fun g1 => ?_)
  · have g1 := n_ge (k := 32) g1 (by decide) (by omega)
    refine lv_iload hx hb d_M_sameBits_71 (lv_at hl 1 rfl) ?_
    refine x_topi (y := bI (cn_p a b)) (by
      congr 1
      cases hs : sm with
      | true => exact (decide_eq_true (fun k hk => hsm.mp hs k (by omega))).symm
      | false => exact (decide_eq_false (fun z => by have := hsm.mpr (fun k hk => z k (by omega)); rw [hs] at this; cases this)).symm) ?_
    exact W.zret (ty := .boolean) hx hb hr (bI_z _) (fun t ht _ => ⟨rfl, ht⟩) (fun q h => by cases h) d_M_sameBits_73
  · have g1 := n_lt (k := 32) g1 (by decide) (by omega)
    refine lv_iload hx hb d_M_sameBits_24 (lv_at hl 0 rfl) ?_
    refine lv_iload hx hb d_M_sameBits_26 (lv_at hl 2 rfl) ?_
    refine lv_icmp_ge (tgt := 71) hx hb d_M_sameBits_28 (by decide) (fun g2 => ?_) (fun g2 => ?_)
    · have g2 := n_ge g2 (by omega) (by omega)
      refine lv_iload hx hb d_M_sameBits_71 (lv_at hl 1 rfl) ?_
      refine x_topi (y := bI (cn_p a b)) (by
        congr 1
        cases hs : sm with
        | true => exact (decide_eq_true (fun k hk => hsm.mp hs k (by omega))).symm
        | false => exact (decide_eq_false (fun z => by have := hsm.mpr (fun k hk => z k (by omega)); rw [hs] at this; cases this)).symm) ?_
      exact W.zret (ty := .boolean) hx hb hr (bI_z _) (fun t ht _ => ⟨rfl, ht⟩) (fun q h => by cases h) d_M_sameBits_73
    · have g2 := n_lt g2 (by omega) (by omega)
      refine lv_iload hx hb d_M_sameBits_31 (lv_at hl 1 rfl) ?_
      refine lv_if_eq (tgt := 62) hx hb d_M_sameBits_33 (by decide) (fun s1 => ?_) (fun s1 => ?_)
      · refine lv_iconst (v := 0) hx hb d_M_sameBits_62 (by decide) ?_
        refine lv_istore (lv' := [(5, .int 0), (6, .int (nI i)), (4, .int (nI (cn_q b))), (0, .long a), (2, .long b)]) hx hb d_M_sameBits_63 hl (by decide) rfl (fun ls hl => ?_)
        refine lv_iinc (k := 1) (v := nI (i + 1)) (lv' := [(6, .int (nI (i + 1))), (5, .int 0), (4, .int (nI (cn_q b))), (0, .long a), (2, .long b)]) hx hb d_M_sameBits_65 hl rfl (x_inc _) (by decide) rfl (fun ls hl => ?_)
        refine lv_goto (tgt := 17) hx hb d_M_sameBits_68 (by decide) ?_
        exact ih (r - 1) _ (by omega) ⟨i + 1, false, by omega, by omega, ⟨(fun z => by cases z), fun z => by have := hsm.mpr (fun k hk => z k (by omega)); rw [bI_0.mp s1] at this; exact this⟩, (lv_sub hl [0, 1, 2, 3, 4] rfl)⟩
      · refine lv_lload_n hx hb d_M_sameBits_36 rfl (lv_at hl 3 rfl) ?_
        refine lv_bipush (v := 31) hx hb d_M_sameBits_37 (by decide) ?_
        refine lv_iload hx hb d_M_sameBits_39 (lv_at hl 0 rfl) ?_
        refine lv_isub hx hb d_M_sameBits_41 ?_
        refine lv_lshr hx hb d_M_sameBits_42 rfl ?_
        refine lv_lconst (v := 1) hx hb d_M_sameBits_43 (by decide) ?_
        refine lv_land hx hb d_M_sameBits_44 ?_
        refine x_topl (y := bL (cn_b a (31 - i))) (cn_bit a g1) ?_
        refine lv_lload_n hx hb d_M_sameBits_45 rfl (lv_at hl 4 rfl) ?_
        refine lv_bipush (v := 31) hx hb d_M_sameBits_46 (by decide) ?_
        refine lv_iload hx hb d_M_sameBits_48 (lv_at hl 0 rfl) ?_
        refine lv_isub hx hb d_M_sameBits_50 ?_
        refine lv_lshr hx hb d_M_sameBits_51 rfl ?_
        refine lv_lconst (v := 1) hx hb d_M_sameBits_52 (by decide) ?_
        refine lv_land hx hb d_M_sameBits_53 ?_
        refine x_topl (y := bL (cn_b b (31 - i))) (cn_bit b g1) ?_
        refine W.lcmp hx hb d_M_sameBits_54 ?_
        refine lv_if_ne (tgt := 62) hx hb d_M_sameBits_55 (by decide) (fun s2 => ?_) (fun s2 => ?_)
        · refine lv_iconst (v := 0) hx hb d_M_sameBits_62 (by decide) ?_
          refine lv_istore (lv' := [(5, .int 0), (6, .int (nI i)), (4, .int (nI (cn_q b))), (0, .long a), (2, .long b)]) hx hb d_M_sameBits_63 hl (by decide) rfl (fun ls hl => ?_)
          refine lv_iinc (k := 1) (v := nI (i + 1)) (lv' := [(6, .int (nI (i + 1))), (5, .int 0), (4, .int (nI (cn_q b))), (0, .long a), (2, .long b)]) hx hb d_M_sameBits_65 hl rfl (x_inc _) (by decide) rfl (fun ls hl => ?_)
          refine lv_goto (tgt := 17) hx hb d_M_sameBits_68 (by decide) ?_
          exact ih (r - 1) _ (by omega) ⟨i + 1, false, by omega, by omega, ⟨(fun z => by cases z), fun z => absurd ((lg_cmp_eq _ _).mpr (bL_eq.mpr (z i (by omega)))) s2⟩, (lv_sub hl [0, 1, 2, 3, 4] rfl)⟩
        · refine lv_iconst (v := 1) hx hb d_M_sameBits_58 (by decide) ?_
          refine lv_goto (tgt := 63) hx hb d_M_sameBits_59 (by decide) ?_
          refine lv_istore (lv' := [(5, .int 1), (6, .int (nI i)), (4, .int (nI (cn_q b))), (0, .long a), (2, .long b)]) hx hb d_M_sameBits_63 hl (by decide) rfl (fun ls hl => ?_)
          refine lv_iinc (k := 1) (v := nI (i + 1)) (lv' := [(6, .int (nI (i + 1))), (5, .int 1), (4, .int (nI (cn_q b))), (0, .long a), (2, .long b)]) hx hb d_M_sameBits_65 hl rfl (x_inc _) (by decide) rfl (fun ls hl => ?_)
          refine lv_goto (tgt := 17) hx hb d_M_sameBits_68 (by decide) ?_
          exact ih (r - 1) _ (by omega) ⟨i + 1, true, by omega, by omega, ⟨fun _ k hk => by
            by_cases e : k = i
            · rw [e]; exact bL_eq.mp ((lg_cmp_eq _ _).mp s2)
            · exact hsm.mp (bI_n0.mp s1) k (by omega), fun _ => rfl⟩, (lv_sub hl [0, 1, 2, 3, 4] rfl)⟩
set_option maxHeartbeats 4000000 in
set_option maxRecDepth 100000 in
theorem c_M_answers (l : Launch) (D : va_G) (cA : Nat → ClassId) (m : Nat) (Y : m_T) (o : Nat) (x t : Int64) (ho : o < 7) : Met l y_M_answers [.code y_M_answers b_M_answers 6 (some .boolean)] (x_rm 4 0 0) (x_P D cA [.ref m, .int (nI o), .long x, .long t] (fun H => m_W D cA m Y H)) (x_Q (some (.int (bI (cn_a (m_i Y 1) (m_l Y 2) o x t)))) (fun H H1 => x_F (m_tA m) H H1 ∧ ∃ (t : Nat) (f : Nat → Int32), m_W D cA m (m_tk Y t f) H1)) 0 0 (m_tA m) := by
  refine x_met (own := "DecisionLayersModel") (by decide) rfl (Nat.le_of_ble_eq_true rfl) ?_
  intro pp ee s mm below mt cd ls hx hb hr hlk hnm hml hown hts hE hP hl
  have hl : lv_has ls 6 [(0, .ref m), (1, .int (nI o)), (2, .long x), (4, .long t)] := hl
  have hF : ∀ q ∈ ([] : List Loc), m_tA m q.base := t_nil
  rcases (show o = 0 ∨ o = 1 ∨ o = 2 ∨ o = 3 ∨ o = 4 ∨ o = 5 ∨ o = 6 by omega) with rfl | rfl | rfl | rfl | rfl | rfl | rfl
  · refine lv_iload_n hx hb d_M_answers_0 rfl (lv_at hl 1 rfl) ?_
    refine lv_tableIn (off := 39) (tgt := 40) hx hb d_M_answers_1 (by decide) (by decide) (by decide) (by decide) ?_
    refine lv_lload_n hx hb d_M_answers_40 rfl (lv_at hl 2 rfl) ?_
    refine lv_lload hx hb d_M_answers_41 (lv_at hl 3 rfl) ?_
    refine W.lcmp hx hb d_M_answers_43 ?_
    refine lv_if_ne (tgt := 51) hx hb d_M_answers_44 (by decide) (fun h1 => ?_) (fun h1 => ?_)
    · refine lv_iconst (v := 0) hx hb d_M_answers_51 (by decide) ?_
      refine x_topi (y := bI (cn_a (m_i Y 1) (m_l Y 2) 0 x t)) (by show 0 = bI (decide (x = t)); rw [bI_no (fun z => h1 ((lg_cmp_eq _ _).mpr z))]) ?_
      exact W.zret (ty := .boolean) hx hb hr (bI_z _) (fun t ht _ => ⟨rfl, by rw [ht]; exact ⟨x_F.rf, m_tn Y, m_i Y 20, by rw [m_tk_self]; exact hP⟩⟩) hF d_M_answers_52
    · refine lv_iconst (v := 1) hx hb d_M_answers_47 (by decide) ?_
      refine lv_goto (tgt := 52) hx hb d_M_answers_48 (by decide) ?_
      refine x_topi (y := bI (cn_a (m_i Y 1) (m_l Y 2) 0 x t)) (by show 1 = bI (decide (x = t)); rw [bI_of ((lg_cmp_eq _ _).mp h1)]) ?_
      exact W.zret (ty := .boolean) hx hb hr (bI_z _) (fun t ht _ => ⟨rfl, by rw [ht]; exact ⟨x_F.rf, m_tn Y, m_i Y 20, by rw [m_tk_self]; exact hP⟩⟩) hF d_M_answers_52
  · refine lv_iload_n hx hb d_M_answers_0 rfl (lv_at hl 1 rfl) ?_
    refine lv_tableIn (off := 52) (tgt := 53) hx hb d_M_answers_1 (by decide) (by decide) (by decide) (by decide) ?_
    refine lv_lload_n hx hb d_M_answers_53 rfl (lv_at hl 2 rfl) ?_
    refine lv_lload hx hb d_M_answers_54 (lv_at hl 3 rfl) ?_
    refine x_cp (k_M_116 (As := [.long x, .long t]) (rest := []) hx hb hml hown hts (c_M_sameText l D cA x t) (x_preS hE trivial) rfl hl.1 rfl (Nat.le_of_ble_eq_true rfl) d_M_answers_56 (by decide) ⟨Nat.zero_le _, Nat.zero_le _⟩) ?_
    exact W.zret (ty := .boolean) hx hb hr (bI_z _) (fun t ht _ => ⟨rfl, by rw [ht]; exact ⟨x_F.rf, m_tn Y, m_i Y 20, by rw [m_tk_self]; exact hP⟩⟩) hF d_M_answers_59
  · refine lv_iload_n hx hb d_M_answers_0 rfl (lv_at hl 1 rfl) ?_
    refine lv_tableIn (off := 59) (tgt := 60) hx hb d_M_answers_1 (by decide) (by decide) (by decide) (by decide) ?_
    refine lv_aload_n hx hb d_M_answers_60 rfl (lv_at hl 0 rfl) ?_
    refine lv_lload hx hb d_M_answers_61 (lv_at hl 3 rfl) ?_
    refine lv_lload_n hx hb d_M_answers_63 rfl (lv_at hl 2 rfl) ?_
    refine lv_iconst (v := 0) hx hb d_M_answers_64 (by decide) ?_
    refine x_cw (k_M_120 (As := [.long t, .long x, .int (bI false)]) (rest := []) hx hb hml hown hts (c_M_matches l D cA m Y t x false) (x_preV hE hP.1 rfl rfl hP) rfl hl.1 rfl (Nat.le_of_ble_eq_true rfl) d_M_answers_65 (by decide) ⟨Nat.zero_le _, Nat.zero_le _⟩) (fun H1 L1 p1 f1 => ?_)
    have hF := t_lL hF (fun q h => (fun q h => h) q.base (f1 q h))
    exact W.zret (ty := .boolean) hx hb hr (bI_z _) (fun t ht _ => ⟨rfl, by rw [ht]; exact p1⟩) hF d_M_answers_68
  · refine lv_iload_n hx hb d_M_answers_0 rfl (lv_at hl 1 rfl) ?_
    refine lv_tableIn (off := 68) (tgt := 69) hx hb d_M_answers_1 (by decide) (by decide) (by decide) (by decide) ?_
    refine lv_lload_n hx hb d_M_answers_69 rfl (lv_at hl 2 rfl) ?_
    refine lv_lload hx hb d_M_answers_70 (lv_at hl 3 rfl) ?_
    refine W.lcmp hx hb d_M_answers_72 ?_
    refine lv_if_ge (tgt := 80) hx hb d_M_answers_73 (by decide) (fun h1 => ?_) (fun h1 => ?_)
    · refine lv_iconst (v := 0) hx hb d_M_answers_80 (by decide) ?_
      refine x_topi (y := bI (cn_a (m_i Y 1) (m_l Y 2) 3 x t)) (by show 0 = bI (decide (x < t)); rw [bI_no (by rw [Int64.not_lt]; exact (lg_cmp_ge _ _).mp h1)]) ?_
      exact W.zret (ty := .boolean) hx hb hr (bI_z _) (fun t ht _ => ⟨rfl, by rw [ht]; exact ⟨x_F.rf, m_tn Y, m_i Y 20, by rw [m_tk_self]; exact hP⟩⟩) hF d_M_answers_81
    · refine lv_iconst (v := 1) hx hb d_M_answers_76 (by decide) ?_
      refine lv_goto (tgt := 81) hx hb d_M_answers_77 (by decide) ?_
      refine x_topi (y := bI (cn_a (m_i Y 1) (m_l Y 2) 3 x t)) (by show 1 = bI (decide (x < t)); rw [bI_of (by rw [← Int64.not_le]; exact fun z => h1 ((lg_cmp_ge _ _).mpr z))]) ?_
      exact W.zret (ty := .boolean) hx hb hr (bI_z _) (fun t ht _ => ⟨rfl, by rw [ht]; exact ⟨x_F.rf, m_tn Y, m_i Y 20, by rw [m_tk_self]; exact hP⟩⟩) hF d_M_answers_81
  · refine lv_iload_n hx hb d_M_answers_0 rfl (lv_at hl 1 rfl) ?_
    refine lv_tableIn (off := 81) (tgt := 82) hx hb d_M_answers_1 (by decide) (by decide) (by decide) (by decide) ?_
    refine lv_lload_n hx hb d_M_answers_82 rfl (lv_at hl 2 rfl) ?_
    refine lv_lload hx hb d_M_answers_83 (lv_at hl 3 rfl) ?_
    refine W.lcmp hx hb d_M_answers_85 ?_
    refine lv_if_gt (tgt := 93) hx hb d_M_answers_86 (by decide) (fun h1 => ?_) (fun h1 => ?_)
    · refine lv_iconst (v := 0) hx hb d_M_answers_93 (by decide) ?_
      refine x_topi (y := bI (cn_a (m_i Y 1) (m_l Y 2) 4 x t)) (by show 0 = bI (decide (x ≤ t)); rw [bI_no (by rw [Int64.not_le]; exact (lg_cmp_gt _ _).mp h1)]) ?_
      exact W.zret (ty := .boolean) hx hb hr (bI_z _) (fun t ht _ => ⟨rfl, by rw [ht]; exact ⟨x_F.rf, m_tn Y, m_i Y 20, by rw [m_tk_self]; exact hP⟩⟩) hF d_M_answers_94
    · refine lv_iconst (v := 1) hx hb d_M_answers_89 (by decide) ?_
      refine lv_goto (tgt := 94) hx hb d_M_answers_90 (by decide) ?_
      refine x_topi (y := bI (cn_a (m_i Y 1) (m_l Y 2) 4 x t)) (by show 1 = bI (decide (x ≤ t)); rw [bI_of (by rw [← Int64.not_lt]; exact fun z => h1 ((lg_cmp_gt _ _).mpr z))]) ?_
      exact W.zret (ty := .boolean) hx hb hr (bI_z _) (fun t ht _ => ⟨rfl, by rw [ht]; exact ⟨x_F.rf, m_tn Y, m_i Y 20, by rw [m_tk_self]; exact hP⟩⟩) hF d_M_answers_94
  · refine lv_iload_n hx hb d_M_answers_0 rfl (lv_at hl 1 rfl) ?_
    refine lv_tableIn (off := 94) (tgt := 95) hx hb d_M_answers_1 (by decide) (by decide) (by decide) (by decide) ?_
    refine lv_lload_n hx hb d_M_answers_95 rfl (lv_at hl 2 rfl) ?_
    refine lv_lload hx hb d_M_answers_96 (lv_at hl 3 rfl) ?_
    refine x_cp (k_M_124 (As := [.long x, .long t]) (rest := []) hx hb hml hown hts (c_M_sameBits l D cA x t) (x_preS hE trivial) rfl hl.1 rfl (Nat.le_of_ble_eq_true rfl) d_M_answers_98 (by decide) ⟨Nat.zero_le _, Nat.zero_le _⟩) ?_
    exact W.zret (ty := .boolean) hx hb hr (bI_z _) (fun t ht _ => ⟨rfl, by rw [ht]; exact ⟨x_F.rf, m_tn Y, m_i Y 20, by rw [m_tk_self]; exact hP⟩⟩) hF d_M_answers_101
  · refine lv_iload_n hx hb d_M_answers_0 rfl (lv_at hl 1 rfl) ?_
    refine lv_tableOut (tgt := 102) hx hb d_M_answers_1 (by decide) (by decide) ?_
    refine lv_lload_n hx hb d_M_answers_102 rfl (lv_at hl 2 rfl) ?_
    refine lv_lconst (v := 0) hx hb d_M_answers_103 (by decide) ?_
    refine W.lcmp hx hb d_M_answers_104 ?_
    refine lv_if_ne (tgt := 112) hx hb d_M_answers_105 (by decide) (fun h1 => ?_) (fun h1 => ?_)
    · refine lv_iconst (v := 0) hx hb d_M_answers_112 (by decide) ?_
      refine lv_lload hx hb d_M_answers_113 (lv_at hl 3 rfl) ?_
      refine lv_lconst (v := 0) hx hb d_M_answers_115 (by decide) ?_
      refine W.lcmp hx hb d_M_answers_116 ?_
      refine lv_if_ne (tgt := 124) hx hb d_M_answers_117 (by decide) (fun h2 => ?_) (fun h2 => ?_)
      · refine lv_iconst (v := 0) hx hb d_M_answers_124 (by decide) ?_
        refine lv_icmp_ne (tgt := 132) hx hb d_M_answers_125 (by decide) (fun hk => ?_) (fun hk => ?_)
        · exact absurd hk (by decide)
        · refine lv_iconst (v := 1) hx hb d_M_answers_128 (by decide) ?_
          refine lv_goto (tgt := 133) hx hb d_M_answers_129 (by decide) ?_
          refine x_topi (y := bI (cn_a (m_i Y 1) (m_l Y 2) 6 x t)) (by show _ = bI (decide (x = 0) == decide (t = 0)); rw [decide_eq_false (show ¬ x = 0 from fun z => h1 ((lg_cmp_eq _ _).mpr z)), decide_eq_false (show ¬ t = 0 from fun z => h2 ((lg_cmp_eq _ _).mpr z))]; rfl) ?_
          exact W.zret (ty := .boolean) hx hb hr (bI_z _) (fun t ht _ => ⟨rfl, by rw [ht]; exact ⟨x_F.rf, m_tn Y, m_i Y 20, by rw [m_tk_self]; exact hP⟩⟩) hF d_M_answers_133
      · refine lv_iconst (v := 1) hx hb d_M_answers_120 (by decide) ?_
        refine lv_goto (tgt := 125) hx hb d_M_answers_121 (by decide) ?_
        refine lv_icmp_ne (tgt := 132) hx hb d_M_answers_125 (by decide) (fun hk => ?_) (fun hk => ?_)
        · refine lv_iconst (v := 0) hx hb d_M_answers_132 (by decide) ?_
          refine x_topi (y := bI (cn_a (m_i Y 1) (m_l Y 2) 6 x t)) (by show _ = bI (decide (x = 0) == decide (t = 0)); rw [decide_eq_false (show ¬ x = 0 from fun z => h1 ((lg_cmp_eq _ _).mpr z)), decide_eq_true (show t = 0 from (lg_cmp_eq _ _).mp h2)]; rfl) ?_
          exact W.zret (ty := .boolean) hx hb hr (bI_z _) (fun t ht _ => ⟨rfl, by rw [ht]; exact ⟨x_F.rf, m_tn Y, m_i Y 20, by rw [m_tk_self]; exact hP⟩⟩) hF d_M_answers_133
        · exact absurd hk (by decide)
    · refine lv_iconst (v := 1) hx hb d_M_answers_108 (by decide) ?_
      refine lv_goto (tgt := 113) hx hb d_M_answers_109 (by decide) ?_
      refine lv_lload hx hb d_M_answers_113 (lv_at hl 3 rfl) ?_
      refine lv_lconst (v := 0) hx hb d_M_answers_115 (by decide) ?_
      refine W.lcmp hx hb d_M_answers_116 ?_
      refine lv_if_ne (tgt := 124) hx hb d_M_answers_117 (by decide) (fun h2 => ?_) (fun h2 => ?_)
      · refine lv_iconst (v := 0) hx hb d_M_answers_124 (by decide) ?_
        refine lv_icmp_ne (tgt := 132) hx hb d_M_answers_125 (by decide) (fun hk => ?_) (fun hk => ?_)
        · refine lv_iconst (v := 0) hx hb d_M_answers_132 (by decide) ?_
          refine x_topi (y := bI (cn_a (m_i Y 1) (m_l Y 2) 6 x t)) (by show _ = bI (decide (x = 0) == decide (t = 0)); rw [decide_eq_true (show x = 0 from (lg_cmp_eq _ _).mp h1), decide_eq_false (show ¬ t = 0 from fun z => h2 ((lg_cmp_eq _ _).mpr z))]; rfl) ?_
          exact W.zret (ty := .boolean) hx hb hr (bI_z _) (fun t ht _ => ⟨rfl, by rw [ht]; exact ⟨x_F.rf, m_tn Y, m_i Y 20, by rw [m_tk_self]; exact hP⟩⟩) hF d_M_answers_133
        · exact absurd hk (by decide)
      · refine lv_iconst (v := 1) hx hb d_M_answers_120 (by decide) ?_
        refine lv_goto (tgt := 125) hx hb d_M_answers_121 (by decide) ?_
        refine lv_icmp_ne (tgt := 132) hx hb d_M_answers_125 (by decide) (fun hk => ?_) (fun hk => ?_)
        · exact absurd hk (by decide)
        · refine lv_iconst (v := 1) hx hb d_M_answers_128 (by decide) ?_
          refine lv_goto (tgt := 133) hx hb d_M_answers_129 (by decide) ?_
          refine x_topi (y := bI (cn_a (m_i Y 1) (m_l Y 2) 6 x t)) (by show _ = bI (decide (x = 0) == decide (t = 0)); rw [decide_eq_true (show x = 0 from (lg_cmp_eq _ _).mp h1), decide_eq_true (show t = 0 from (lg_cmp_eq _ _).mp h2)]; rfl) ?_
          exact W.zret (ty := .boolean) hx hb hr (bI_z _) (fun t ht _ => ⟨rfl, by rw [ht]; exact ⟨x_F.rf, m_tn Y, m_i Y 20, by rw [m_tk_self]; exact hP⟩⟩) hF d_M_answers_133
