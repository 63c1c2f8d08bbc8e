/-! patterns as the class reads them -/
def pt_P (y : Int64) (lo : Bool) (c : Int32) : Nat → Bool := fun i => decide (tx_lo c lo = tx_lo (tx_c y i) lo)
theorem pl_c_t {P : Nat → Bool} {q k : Nat} (h1 : q.testBit k = true) (h2 : P k = true) : pl_c P q (k + 1) = pl_c P q k ||| 2 ^ (k + 1) := by
  show (if q.testBit k && P k then _ else _) = _
  rw [if_pos (by rw [h1, h2]; rfl)]
theorem pl_c_f1 {P : Nat → Bool} {q k : Nat} (h1 : q.testBit k = false) : pl_c P q (k + 1) = pl_c P q k := by
  show (if q.testBit k && P k then _ else _) = _
  rw [if_neg (by rw [h1]; simp)]
theorem pl_c_f2 {P : Nat → Bool} {q k : Nat} (h1 : P k = false) : pl_c P q (k + 1) = pl_c P q k := by
  show (if q.testBit k && P k then _ else _) = _
  rw [if_neg (by rw [h1]; simp)]
theorem pt_s_P (y : Int64) (lo : Bool) (w : Int64) (k q : Nat) : pt_s y lo (tx_c w k) q = pl_c (pt_P y lo (tx_c w k)) q (tx_n y) := by
  obtain ⟨j, hj, e⟩ := tx_c_lt w k
  exact pt_s_c y lo hj e q
/-- what a character behind a dollar stands for, as a text -/
def pt_w (row : Nat → Int64) (c : Int32) : Int64 := if 0 ≤ c - 48 ∧ c - 48 < 8 then row (4 * (c - 48).toNatClampNeg) else c.toInt64
theorem pt_e_no {c : Int32} (h : pt_e c = true) : ¬ (0 ≤ c - 48 ∧ c - 48 < 8) := by
  unfold pt_e at h
  rcases of_decide_eq_true h with h | h | h <;> subst h <;> decide
theorem pt_d_w {cnt : Nat → Int32} {row : Nat → Int64} {c : Int32} {j : Nat} (hj : j < 256) (h0 : 0 < j) (hc : c = nI j) (h : (pt_e c || pt_y cnt c) = true) : pt_d cnt row c = some (pt_v (pt_w row c)) := by
  unfold pt_d
  by_cases he : pt_e c = true
  · rw [if_pos he]
    unfold pt_w
    rw [if_neg (pt_e_no he), pt_v_1 hj h0 hc]
  · rw [if_neg he]
    have hy : pt_y cnt c = true := by
      cases hh : pt_e c with
      | true => exact absurd hh he
      | false => rw [hh] at h; exact h
    rw [if_pos hy]
    unfold pt_w
    rw [pt_y_c] at hy
    have hv := of_decide_eq_true hy
    unfold vl_c at hv
    by_cases hk : 0 ≤ c - 48 ∧ c - 48 < 8
    · rw [if_pos hk]
    · rw [if_neg hk] at hv
      exact absurd hv (by decide)
theorem pt_d_no {cnt : Nat → Int32} {row : Nat → Int64} {c : Int32} (h : (pt_e c || pt_y cnt c) = false) : pt_d cnt row c = none := by
  unfold pt_d
  rw [Bool.or_eq_false_iff] at h
  rw [h.1, h.2]
  rfl
theorem pt_y_1 {cnt : Nat → Int32} {c : Int32} (h : (pt_e c || pt_y cnt c) = true) (hk : 0 ≤ c - 48 ∧ c - 48 < 8) : cnt (c - 48).toNatClampNeg = 1 := by
  have he : pt_e c = false := by
    cases hh : pt_e c with
    | true => exact absurd hk (pt_e_no hh)
    | false => rfl
  rw [he, Bool.false_or, pt_y_c] at h
  have hv := of_decide_eq_true h
  unfold vl_c at hv
  rw [if_pos hk] at hv
  exact hv
theorem pt_e_y {c : Int32} (h : c = 36 ∨ c = 42 ∨ c = 63) : pt_e c = true := decide_eq_true h
theorem pt_e_n {c : Int32} (h1 : ¬ c = 36) (h2 : ¬ c = 42) (h3 : ¬ c = 63) : pt_e c = false := decide_eq_false (fun h => by rcases h with h | h | h <;> contradiction)
theorem tx_c_pos {x : Int64} {i : Nat} (h : i < tx_n x) : ∃ j : Nat, j < 256 ∧ 0 < j ∧ tx_c x i = nI j := by
  obtain ⟨j, hj, e⟩ := tx_c_lt x i
  refine ⟨j, hj, ?_, e⟩
  rcases Nat.eq_zero_or_pos j with h0 | h0
  · subst h0; exact absurd e (tx_nz h)
  · exact h0
theorem pt_t_n {c : Int32} (h2 : ¬ c = 42) (h3 : ¬ c = 63) : pt_t c = c := by unfold pt_t; rw [if_neg h2, if_neg h3]
/-- the steps of a match, from place i on, r places left -/
theorem pt_o_d {cnt : Nat → Int32} {row : Nat → Int64} {x y : Int64} {lo : Bool} {i r q j : Nat} (h : i + (r + 2) = tx_n x) (hd : tx_c x i = 36) (hj : j < 256) (h0 : 0 < j) (hc : tx_c x (i + 1) = nI j) (hm : (pt_e (tx_c x (i + 1)) || pt_y cnt (tx_c x (i + 1))) = true) :
    pt_o y lo (pt_k cnt row x (r + 2)) q = pt_o y lo (pt_k cnt row x r) (pt_r y lo (pt_v (pt_w row (tx_c x (i + 1)))) q) := by
  rw [pt_k_d h hd, pt_d_w hj h0 hc hm]
  exact pt_o_app _ _ _ _ _
theorem pt_o_dn {cnt : Nat → Int32} {row : Nat → Int64} {x y : Int64} {lo : Bool} {i r q : Nat} (h : i + (r + 2) = tx_n x) (hd : tx_c x i = 36) (hm : (pt_e (tx_c x (i + 1)) || pt_y cnt (tx_c x (i + 1))) = false) : pt_o y lo (pt_k cnt row x (r + 2)) q = false := by
  rw [pt_k_d h hd, pt_d_no hm]; rfl
theorem pt_o_t {cnt : Nat → Int32} {row : Nat → Int64} {x y : Int64} {lo : Bool} {i r q : Nat} (h : i + (r + 1) = tx_n x) (hd : ¬ tx_c x i = 36) : pt_o y lo (pt_k cnt row x (r + 1)) q = pt_o y lo (pt_k cnt row x r) (pt_s y lo (pt_t (tx_c x i)) q) := by
  rw [pt_k_c h hd, pt_o_cons]
