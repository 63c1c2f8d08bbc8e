/-! the result of a pattern from a set of places on; values; conditions -/
def pt_o (y : Int64) (lo : Bool) (o : Option (List Int32)) (q : Nat) : Bool := match o with
  | none => false
  | some ts => (pt_r y lo ts q).testBit (tx_n y)
theorem pt_o_app (y : Int64) (lo : Bool) (o : Option (List Int32)) (v : List Int32) (q : Nat) : pt_o y lo (o.map (v ++ ·)) q = pt_o y lo o (pt_r y lo v q) := by
  cases o with
  | none => rfl
  | some ts => show (pt_r y lo (v ++ ts) q).testBit _ = (pt_r y lo ts _).testBit _; rw [pt_r_app]
theorem pt_o_cons (y : Int64) (lo : Bool) (o : Option (List Int32)) (t : Int32) (q : Nat) : pt_o y lo (o.map (t :: ·)) q = pt_o y lo o (pt_s y lo t q) := by
  cases o with
  | none => rfl
  | some ts => rfl
theorem pt_m_o (cnt : Nat → Int32) (row : Nat → Int64) (x y : Int64) (lo : Bool) : pt_m cnt row x y lo = pt_o y lo (pt_k cnt row x (tx_n x)) 1 := by
  unfold pt_m pt_o
  cases pt_k cnt row x (tx_n x) <;> rfl
/-- a character's token is read as the character -/
theorem pt_s_c (y : Int64) (lo : Bool) {t : Int32} {j : Nat} (hj : j < 256) (ht : t = nI j) (q : Nat) : pt_s y lo t q = pl_c (fun i => decide (tx_lo t lo = tx_lo (tx_c y i) lo)) q (tx_n y) := by
  have h1 : ¬ t = 256 := by
    rw [ht]; intro h
    have : nI j = nI 256 := h
    have := (nI_eq (by omega) (by omega)).mp this
    omega
  have h2 : ¬ t = 257 := by
    rw [ht]; intro h
    have : nI j = nI 257 := h
    have := (nI_eq (by omega) (by omega)).mp this
    omega
  unfold pt_s
  rw [if_neg h1]
  congr 1
  funext i
  rw [decide_eq_false h2, Bool.false_or]
theorem pt_s_any (y : Int64) (lo : Bool) (q : Nat) : pt_s y lo 256 q = pl_s (tx_n y) q (tx_n y + 1) := by unfold pt_s; rw [if_pos rfl]
theorem pt_s_one (y : Int64) (lo : Bool) (q : Nat) : pt_s y lo 257 q = pl_c (fun _ => true) q (tx_n y) := by
  unfold pt_s
  rw [if_neg (by decide)]
  congr 1
/-- the first k characters of a text, read -/
def pt_p (y : Int64) (lo : Bool) (w : Int64) (k q : Nat) : Nat := pt_r y lo ((List.range k).map (tx_c w)) q
theorem pt_p_0 (y : Int64) (lo : Bool) (w : Int64) (q : Nat) : pt_p y lo w 0 q = q := rfl
theorem pt_p_s (y : Int64) (lo : Bool) (w : Int64) (k q : Nat) : pt_p y lo w (k + 1) q = pt_s y lo (tx_c w k) (pt_p y lo w k q) := by
  unfold pt_p
  rw [List.range_succ, List.map_append, pt_r_app]
  rfl
theorem pt_p_n (y : Int64) (lo : Bool) (w : Int64) (q : Nat) : pt_p y lo w (tx_n w) q = pt_r y lo (pt_v w) q := rfl
theorem pt_p_lt (y : Int64) (lo : Bool) (w : Int64) (k : Nat) {q : Nat} (h : q < 2 ^ (tx_n y + 1)) : pt_p y lo w k q < 2 ^ (tx_n y + 1) := pt_r_lt y lo _ h
/-- a character read as a text of its own -/
theorem pt_v_1 {c : Int32} {j : Nat} (hj : j < 256) (h0 : 0 < j) (hc : c = nI j) : pt_v c.toInt64 = [c] := by
  subst hc
  obtain ⟨a, b⟩ := tx_one j hj h0
  unfold pt_v
  rw [a]
  show [tx_c (nI j).toInt64 0] = [nI j]
  rw [b]
/-- how many values a key has -/
def vl_c (cnt : Nat → Int32) (k : Int32) : Int32 := if 0 ≤ k ∧ k < 8 then cnt k.toNatClampNeg else 0
def vl_ok (cnt : Nat → Int32) : Prop := ∀ k, k < 8 → ∃ j : Nat, j ≤ 4 ∧ cnt k = nI j
theorem vl_key {k : Int32} (h0 : ¬ k < 0) (h8 : ¬ 8 ≤ k) : ∃ j : Nat, j < 8 ∧ k = nI j := by
  rcases pk_ix k (n := 8) (by decide) with h | h | h
  · exact absurd h h0
  · exact absurd h h8
  · exact h
theorem vl_key' {k : Int32} (h0 : 0 ≤ k) (h8 : k < 8) : ∃ j : Nat, j < 8 ∧ k = nI j := vl_key (by rw [Int32.not_lt]; exact h0) (by rw [Int32.not_le]; exact h8)
theorem vl_c_in {cnt : Nat → Int32} {j : Nat} (h : j < 8) : vl_c cnt (nI j) = cnt j := by
  unfold vl_c
  rw [if_pos ⟨nI_pos' (by omega), (nI_ltI (by omega) (by decide) : nI j < nI 8 ↔ j < 8).mpr h⟩, nI_clamp (by omega)]
theorem vl_c_lo {cnt : Nat → Int32} {k : Int32} (h : k < 0) : vl_c cnt k = 0 := by
  unfold vl_c; rw [if_neg]; rintro ⟨a, -⟩; exact absurd h (by rw [Int32.not_lt]; exact a)
theorem vl_c_hi {cnt : Nat → Int32} {k : Int32} (h : 8 ≤ k) : vl_c cnt k = 0 := by
  unfold vl_c; rw [if_neg]; rintro ⟨-, a⟩; exact absurd h (by rw [Int32.not_le]; exact a)
/-- does the character behind a dollar name a key with one value -/
theorem pt_y_c (cnt : Nat → Int32) (d : Int32) : pt_y cnt d = decide (vl_c cnt (d - 48) = 1) := by
  unfold pt_y vl_c
  by_cases h : 0 ≤ d - 48 ∧ d - 48 < 8
  · have h7 : d - 48 ≤ 7 := by
      have h2 := h.2
      rw [Int32.lt_iff_toInt_lt] at h2
      rw [Int32.le_iff_toInt_le]
      have : (8 : Int32).toInt = 8 := by decide
      have : (7 : Int32).toInt = 7 := by decide
      omega
    rw [if_pos h]
    simp [h.1, h7]
  · rw [if_neg h]
    have : ¬ (0 ≤ d - 48 ∧ d - 48 ≤ 7 ∧ cnt (d - 48).toNatClampNeg = 1) := by
      rintro ⟨a, b, -⟩
      refine h ⟨a, ?_⟩
      rw [Int32.le_iff_toInt_le] at b
      rw [Int32.lt_iff_toInt_lt]
      have : (8 : Int32).toInt = 8 := by decide
      have : (7 : Int32).toInt = 7 := by decide
      omega
    rw [decide_eq_false this]
    decide
