/-! the document's words as mathematics: booleans, texts, patterns. Both programs are tied to these values. -/
/-- a boolean as the machine holds it -/
def bI (b : Bool) : Int32 := if b then 1 else 0
theorem bI_t : bI true = 1 := rfl
theorem bI_f : bI false = 0 := rfl
theorem bI_0 {b : Bool} : bI b = 0 ↔ b = false := by cases b <;> decide
theorem bI_n0 {b : Bool} : ¬ bI b = 0 ↔ b = true := by cases b <;> decide
theorem bI_1 {b : Bool} : bI b = 1 ↔ b = true := by cases b <;> decide
theorem bI_n1 {b : Bool} : ¬ bI b = 1 ↔ b = false := by cases b <;> decide
theorem bI_eq {a b : Bool} : bI a = bI b ↔ a = b := by cases a <;> cases b <;> decide
theorem bI_of {P : Prop} [Decidable P] (h : P) : bI (decide P) = 1 := by rw [decide_eq_true h]; rfl
theorem bI_no {P : Prop} [Decidable P] (h : ¬ P) : bI (decide P) = 0 := by rw [decide_eq_false h]; rfl
theorem bI_z (b : Bool) : narrow .boolean (.int (bI b)) = .int (bI b) := by cases b <;> rfl
theorem bI_fit (b : Bool) : fits .boolean (.int (bI b)) = true := by cases b <;> rfl
/-- texts: the word that begins at character k, and the character -/
def tx_w (x : Int64) (k : Nat) : Int64 := (x.toUInt64 >>> (((8 : Int32) * nI k).toInt64.toUInt64 &&& Int64.toUInt64 63)).toInt64
def tx_c (x : Int64) (k : Nat) : Int32 := (tx_w x k).toInt32 &&& 255
theorem lN_and255 (w : Int64) : ∃ j : Nat, j < 256 ∧ w &&& 255 = lN j := by
  refine ⟨(w &&& 255).toBitVec.toNat, ?_, ?_⟩
  · rw [Int64.toBitVec_and, BitVec.toNat_and]
    exact Nat.and_lt_two_pow _ (n := 8) (by decide)
  · apply Int64.toBitVec_inj.1
    show (w &&& 255).toBitVec = BitVec.ofNat 64 _
    rw [BitVec.ofNat_toNat, BitVec.setWidth_eq]
theorem tx_z (w : Int64) : (w &&& 255) = 0 ↔ (w.toInt32 &&& 255) = 0 := by
  have h1 : w.toInt32 &&& 255 = (w &&& 255).toInt32 := by rw [Int64.toInt32_and]; rfl
  rw [h1]
  obtain ⟨j, hj, e⟩ := lN_and255 w
  rw [e, lN_i]
  constructor
  · intro h
    have : lN j = lN 0 := h
    rw [(lN_eq (by omega) (by omega)).mp this]
    rfl
  · intro h
    have : nI j = nI 0 := h
    rw [(nI_eq (by omega) (by omega)).mp this]
    rfl
theorem tx_c_lt (x : Int64) (k : Nat) : ∃ j : Nat, j < 256 ∧ tx_c x k = nI j := pk_andE (tx_w x k).toInt32 8 (by decide)
def tx_f (x : Int64) : Nat → Nat → Nat
  | 0, k => k
  | f + 1, k => if tx_c x k = 0 then k else tx_f x f (k + 1)
/-- a text's length -/
def tx_n (x : Int64) : Nat := tx_f x 8 0
theorem tx_f_spec (x : Int64) : ∀ f k, k ≤ tx_f x f k ∧ tx_f x f k ≤ k + f ∧ (∀ j, k ≤ j → j < tx_f x f k → tx_c x j ≠ 0) ∧ (tx_f x f k < k + f → tx_c x (tx_f x f k) = 0) := by
  intro f
  induction f with
  | zero => intro k; exact ⟨Nat.le_refl _, Nat.le_refl _, fun j h1 h2 => absurd h1 (Nat.not_le.mpr h2), fun h => absurd h (Nat.lt_irrefl _)⟩
  | succ f ih =>
    intro k
    unfold tx_f
    by_cases h : tx_c x k = 0
    · rw [if_pos h]
      exact ⟨Nat.le_refl _, Nat.le_add_right _ _, fun j h1 h2 => absurd h1 (Nat.not_le.mpr h2), fun _ => h⟩
    · rw [if_neg h]
      obtain ⟨a, b, c, d⟩ := ih (k + 1)
      refine ⟨by omega, by omega, fun j h1 h2 => ?_, fun h3 => d (by omega)⟩
      by_cases hj : j = k
      · rw [hj]; exact h
      · exact c j (by omega) h2
theorem tx_le (x : Int64) : tx_n x ≤ 8 := by have := (tx_f_spec x 8 0).2.1; unfold tx_n; omega
theorem tx_nz {x : Int64} {j : Nat} (h : j < tx_n x) : tx_c x j ≠ 0 := (tx_f_spec x 8 0).2.2.1 j (Nat.zero_le _) h
theorem tx_at {x : Int64} (h : tx_n x < 8) : tx_c x (tx_n x) = 0 := (tx_f_spec x 8 0).2.2.2 (by unfold tx_n at h; omega)
theorem tx_is {x : Int64} {k : Nat} (h8 : k ≤ 8) (h : ∀ j, j < k → tx_c x j ≠ 0) (he : k = 8 ∨ tx_c x k = 0) : tx_n x = k := by
  rcases Nat.lt_trichotomy (tx_n x) k with h1 | h1 | h1
  · exact absurd (tx_at (by omega)) (h _ h1)
  · exact h1
  · rcases he with h2 | h2
    · have := tx_le x; omega
    · exact absurd h2 (tx_nz h1)
/-- equal texts -/
def tx_same (a b : Int64) : Bool := decide (tx_n a = tx_n b ∧ ∀ j, j < tx_n a → tx_c a j = tx_c b j)
/-- a letter, where capitals don't count -/
def tx_lo (c : Int32) (lo : Bool) : Int32 := if lo = true ∧ 65 ≤ c ∧ c ≤ 90 then c + 32 else c
theorem tx_lo_f (c : Int32) : tx_lo c false = c := by simp [tx_lo]
theorem tx_lo_y {c : Int32} (h1 : 65 ≤ c) (h2 : c ≤ 90) : tx_lo c true = c + 32 := by simp [tx_lo, h1, h2]
theorem tx_lo_n1 {c : Int32} (h1 : ¬ 65 ≤ c) : tx_lo c true = c := by simp [tx_lo, h1]
theorem tx_lo_n2 {c : Int32} (h1 : ¬ c ≤ 90) : tx_lo c true = c := by simp [tx_lo, h1]
/-- one character as a text of its own -/
theorem tx_one : ∀ n : Nat, n < 256 → 0 < n → tx_n (nI n).toInt64 = 1 ∧ tx_c (nI n).toInt64 0 = nI n := by decide +kernel
/-! sets of places, as bits -/
theorem nI_or (a b : Nat) : nI a ||| nI b = nI (a ||| b) := by
  apply Int32.toBitVec_inj.1
  rw [Int32.toBitVec_or]
  show BitVec.ofNat 32 a ||| BitVec.ofNat 32 b = BitVec.ofNat 32 (a ||| b)
  exact (BitVec.ofNat_or).symm
theorem pl_bu : ∀ q : Nat, q < 512 → ∀ i : Nat, i < 9 → (((nI q).toUInt32 >>> ((nI i).toUInt32 &&& Int32.toUInt32 31)).toInt32 &&& 1) = bI (q.testBit i) := by decide +kernel
theorem pl_bs : ∀ q : Nat, q < 512 → ∀ i : Nat, i < 9 → (nI q >>> (nI i &&& 31)) &&& 1 = bI (q.testBit i) := by decide +kernel
theorem pl_s1 : ∀ i : Nat, i < 16 → (1 : Int32) <<< (nI i &&& 31) = nI (2 ^ i) := by decide +kernel
theorem pl_s2 : ∀ i : Nat, i < 16 → (2 : Int32) <<< (nI i &&& 31) = nI (2 ^ (i + 1)) := by decide +kernel
/-- any row of characters: from each place of q that lies under k, all places up to n -/
def pl_s (n q : Nat) : Nat → Nat
  | 0 => 0
  | k + 1 => if q.testBit k then pl_s n q k ||| (2 ^ (n + 1) - 2 ^ k) else pl_s n q k
/-- one character: from each place i of q that lies under k and where P i, the next -/
def pl_c (P : Nat → Bool) (q : Nat) : Nat → Nat
  | 0 => 0
  | k + 1 => if q.testBit k && P k then pl_c P q k ||| 2 ^ (k + 1) else pl_c P q k
theorem pl_c_lt (P : Nat → Bool) (q : Nat) : ∀ k, pl_c P q k < 2 ^ (k + 1) := by
  intro k
  induction k with
  | zero => exact Nat.two_pow_pos _
  | succ k ih =>
    unfold pl_c
    have h2 : pl_c P q k < 2 ^ (k + 1 + 1) := Nat.lt_trans ih (Nat.pow_lt_pow_right (by omega) (by omega))
    by_cases h : (q.testBit k && P k) = true
    · rw [if_pos h]
      exact Nat.or_lt_two_pow h2 (Nat.pow_lt_pow_right (by omega) (by omega))
    · rw [if_neg h]; exact h2
theorem pl_c_lt' {P : Nat → Bool} {q k n : Nat} (h : k ≤ n) : pl_c P q k < 2 ^ (n + 1) := Nat.lt_of_lt_of_le (pl_c_lt P q k) (Nat.pow_le_pow_right (by omega) (by omega))
theorem pl_s_lt {n q : Nat} : ∀ k, pl_s n q k < 2 ^ (n + 1) := by
  intro k
  induction k with
  | zero => exact Nat.two_pow_pos _
  | succ k ih =>
    unfold pl_s
    by_cases h : q.testBit k = true
    · rw [if_pos h]
      exact Nat.or_lt_two_pow ih (by have := Nat.two_pow_pos k; have := Nat.two_pow_pos (n + 1); omega)
    · rw [if_neg h]; exact ih
theorem pl_512 {n q : Nat} (hn : n ≤ 8) (h : q < 2 ^ (n + 1)) : q < 512 := Nat.lt_of_lt_of_le h (Nat.le_trans (Nat.pow_le_pow_right (by omega) (show n + 1 ≤ 9 by omega)) (by decide))
/-- what the class computes for any row, and for any one -/
theorem pl_any : ∀ n : Nat, n < 9 → ∀ q : Nat, q < 512 → q < 2 ^ (n + 1) → (-(nI q &&& -nI q)) &&& (((2 : Int32) <<< (nI n &&& 31)) - 1) = nI (pl_s n q (n + 1)) := by decide +kernel
theorem pl_one : ∀ n : Nat, n < 9 → ∀ q : Nat, q < 512 → q < 2 ^ (n + 1) → (nI q <<< ((1 : Int32) &&& 31)) &&& (((2 : Int32) <<< (nI n &&& 31)) - 1) = nI (pl_c (fun _ => true) q n) := by decide +kernel
/-- the bits from i up to j, one more -/
theorem pl_rg : ∀ i : Nat, i < 9 → ∀ j : Nat, j < 9 → i ≤ j → (2 ^ j - 2 ^ i) ||| 2 ^ j = 2 ^ (j + 1) - 2 ^ i := by decide +kernel
/-! patterns -/
/-- a character of a pattern that isn't the dollar: 256 any row, 257 any one -/
def pt_t (c : Int32) : Int32 := if c = 42 then 256 else if c = 63 then 257 else c
def pt_v (x : Int64) : List Int32 := (List.range (tx_n x)).map (tx_c x)
def pt_e (d : Int32) : Bool := decide (d = 36 ∨ d = 42 ∨ d = 63)
def pt_y (cnt : Nat → Int32) (d : Int32) : Bool := decide (0 ≤ d - 48 ∧ d - 48 ≤ 7 ∧ cnt (d - 48).toNatClampNeg = 1)
/-- what stands behind a dollar means -/
def pt_d (cnt : Nat → Int32) (row : Nat → Int64) (d : Int32) : Option (List Int32) := if pt_e d then some [d] else if pt_y cnt d then some (pt_v (row (4 * (d - 48).toNatClampNeg))) else none
/-- the tokens of a pattern's last r places; none where it means nothing -/
def pt_k (cnt : Nat → Int32) (row : Nat → Int64) (x : Int64) : Nat → Option (List Int32)
  | 0 => some []
  | 1 => if tx_c x (tx_n x - 1) = 36 then none else some [pt_t (tx_c x (tx_n x - 1))]
  | r + 2 => if tx_c x (tx_n x - (r + 2)) = 36 then (pt_d cnt row (tx_c x (tx_n x - (r + 1)))).bind (fun v => (pt_k cnt row x r).map (v ++ ·)) else (pt_k cnt row x (r + 1)).map (pt_t (tx_c x (tx_n x - (r + 2))) :: ·)
theorem pt_k_c {cnt : Nat → Int32} {row : Nat → Int64} {x : Int64} {i r : Nat} (h : i + (r + 1) = tx_n x) (hc : ¬ tx_c x i = 36) : pt_k cnt row x (r + 1) = (pt_k cnt row x r).map (pt_t (tx_c x i) :: ·) := by
  cases r with
  | zero =>
    have e : tx_n x - 1 = i := by omega
    show (if tx_c x (tx_n x - 1) = 36 then none else some [pt_t (tx_c x (tx_n x - 1))]) = _
    rw [e, if_neg hc]; rfl
  | succ r =>
    have e : tx_n x - (r + 2) = i := by omega
    show (if tx_c x (tx_n x - (r + 2)) = 36 then _ else _) = _
    rw [e, if_neg hc]
theorem pt_k_e {cnt : Nat → Int32} {row : Nat → Int64} {x : Int64} {i : Nat} (h : i + 1 = tx_n x) (hc : tx_c x i = 36) : pt_k cnt row x 1 = none := by
  have e : tx_n x - 1 = i := by omega
  show (if tx_c x (tx_n x - 1) = 36 then none else some [pt_t (tx_c x (tx_n x - 1))]) = _
  rw [e, if_pos hc]
theorem pt_k_d {cnt : Nat → Int32} {row : Nat → Int64} {x : Int64} {i r : Nat} (h : i + (r + 2) = tx_n x) (hc : tx_c x i = 36) : pt_k cnt row x (r + 2) = (pt_d cnt row (tx_c x (i + 1))).bind (fun v => (pt_k cnt row x r).map (v ++ ·)) := by
  have e : tx_n x - (r + 2) = i := by omega
  have e2 : tx_n x - (r + 1) = i + 1 := by omega
  show (if tx_c x (tx_n x - (r + 2)) = 36 then (pt_d cnt row (tx_c x (tx_n x - (r + 1)))).bind (fun v => (pt_k cnt row x r).map (v ++ ·)) else _) = _
  rw [e, e2, if_pos hc]
/-- one token read -/
def pt_s (y : Int64) (lo : Bool) (t : Int32) (q : Nat) : Nat := if t = 256 then pl_s (tx_n y) q (tx_n y + 1) else pl_c (fun i => decide (t = 257) || decide (tx_lo t lo = tx_lo (tx_c y i) lo)) q (tx_n y)
def pt_r (y : Int64) (lo : Bool) : List Int32 → Nat → Nat
  | [], q => q
  | t :: ts, q => pt_r y lo ts (pt_s y lo t q)
theorem pt_r_app (y : Int64) (lo : Bool) (a b : List Int32) (q : Nat) : pt_r y lo (a ++ b) q = pt_r y lo b (pt_r y lo a q) := by
  induction a generalizing q with
  | nil => rfl
  | cons t ts ih => exact ih _
theorem pt_s_lt (y : Int64) (lo : Bool) (t : Int32) (q : Nat) : pt_s y lo t q < 2 ^ (tx_n y + 1) := by
  unfold pt_s
  by_cases h : t = 256
  · rw [if_pos h]; exact pl_s_lt _
  · rw [if_neg h]; exact pl_c_lt _ _ _
theorem pt_r_lt (y : Int64) (lo : Bool) (ts : List Int32) {q : Nat} (h : q < 2 ^ (tx_n y + 1)) : pt_r y lo ts q < 2 ^ (tx_n y + 1) := by
  induction ts generalizing q with
  | nil => exact h
  | cons t ts ih => exact ih (pt_s_lt y lo t q)
/-- does the pattern x match the text y -/
def pt_m (cnt : Nat → Int32) (row : Nat → Int64) (x y : Int64) (lo : Bool) : Bool := match pt_k cnt row x (tx_n x) with
  | none => false
  | some ts => (pt_r y lo ts 1).testBit (tx_n y)
