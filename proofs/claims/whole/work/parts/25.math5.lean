/-! tests and trees of conditions -/
/-- the number of leading bits that a prefix test compares -/
def cn_q (t : Int64) : Nat := (t.toBitVec.toNat / 2 ^ 32) % 64
def cn_b (x : Int64) (k : Nat) : Bool := x.toBitVec.toNat.testBit k
def cn_p (v t : Int64) : Bool := decide (∀ k, k < min 32 (cn_q t) → cn_b v (31 - k) = cn_b t (31 - k))
/-- what an operator answers -/
def cn_a (cnt : Nat → Int32) (row : Nat → Int64) (o : Nat) (v t : Int64) : Bool := match o with
  | 0 => decide (v = t)
  | 1 => tx_same v t
  | 2 => pt_m cnt row t v false
  | 3 => decide (v < t)
  | 4 => decide (v ≤ t)
  | 5 => cn_p v t
  | _ => decide (v = 0) == decide (t = 0)
/-- a test: operator o, key k, t, marks mk; c values -/
def cn_t (cnt : Nat → Int32) (row : Nat → Int64) (o k : Nat) (t : Int64) (mk : Nat) : Bool :=
  if o = 7 then ((decide (cnt k = 0) == decide (t ≠ 0)) != mk.testBit 0)
  else if cnt k = 0 then decide (mk ≠ 0)
  else if mk.testBit 2 then decide (∀ i, i < (cnt k).toNatClampNeg → (cn_a cnt row o (row (4 * k + i)) t != mk.testBit 0) = true)
  else decide (∃ i, i < (cnt k).toNatClampNeg ∧ (cn_a cnt row o (row (4 * k + i)) t != mk.testBit 0) = true)
/-! prefixes, marks, trees: what the class computes -/
theorem cn_shr (t : Int64) (x : UInt64) (n : Nat) (hx : x.toNat % 64 = n) : (t.toUInt64 >>> x).toInt64 = 0 ↔ t.toBitVec.toNat < 2 ^ n := by
  rw [← Int64.toBitVec_inj, ← BitVec.toNat_inj]
  show (t.toUInt64 >>> x).toNat = 0 ↔ t.toUInt64.toNat < 2 ^ n
  rw [UInt64.toNat_shiftRight, hx, Nat.shiftRight_eq_div_pow]
  constructor
  · intro h
    have d : t.toUInt64.toNat / 2 ^ n < 1 := by
      rw [h]
      decide
    have e := (Nat.div_lt_iff_lt_mul (Nat.two_pow_pos n)).mp d
    rw [Nat.one_mul] at e
    exact e
  · exact Nat.div_eq_of_lt
theorem cn_sh64 : ∀ k, k < 64 → ((nI k).toInt64.toUInt64 &&& Int64.toUInt64 63).toNat % 64 = k := by decide +kernel
theorem cn_q_e (t : Int64) : (t.toUInt64 >>> ((32 : Int32).toInt64.toUInt64 &&& Int64.toUInt64 63)).toInt64.toInt32 &&& 63 = nI (cn_q t) := by
  rw [pk_and _ 6 (by decide)]
  have e1 : (t.toUInt64 >>> ((32 : Int32).toInt64.toUInt64 &&& Int64.toUInt64 63)).toInt64.toBitVec.toNat = t.toBitVec.toNat / 2 ^ 32 := by
    show (t.toUInt64 >>> ((32 : Int32).toInt64.toUInt64 &&& Int64.toUInt64 63)).toNat = t.toUInt64.toNat / 2 ^ 32
    rw [UInt64.toNat_shiftRight, show ((32 : Int32).toInt64.toUInt64 &&& Int64.toUInt64 63).toNat % 64 = 32 by decide, Nat.shiftRight_eq_div_pow]
  congr 1
  rw [Int64.toBitVec_toInt32, BitVec.signExtend_eq_setWidth_of_le _ (by decide), BitVec.toNat_setWidth, e1]
  unfold cn_q
  omega
theorem cn_xor (a b s : Nat) : (a ^^^ b) % 2 ^ 32 < 2 ^ s ↔ ∀ i, s ≤ i → i < 32 → a.testBit i = b.testBit i := by
  constructor
  · intro h i h1 h2
    have h3 : ((a ^^^ b) % 2 ^ 32).testBit i = false := Nat.testBit_lt_two_pow (Nat.lt_of_lt_of_le h (Nat.pow_le_pow_right (by omega) h1))
    rw [Nat.testBit_mod_two_pow, decide_eq_true h2, Bool.true_and, Nat.testBit_xor] at h3
    cases ha : a.testBit i <;> cases hb : b.testBit i <;> rw [ha, hb] at h3 <;> first | rfl | exact absurd h3 (by decide)
  · intro h
    apply Nat.lt_pow_two_of_testBit
    intro i hi
    rw [Nat.testBit_mod_two_pow, Nat.testBit_xor]
    by_cases h2 : i < 32
    · rw [h i hi h2]; simp
    · rw [decide_eq_false h2, Bool.false_and]
theorem cn_low (v t : Int64) : ((v ^^^ t) &&& 4294967295).toBitVec.toNat = (v.toBitVec.toNat ^^^ t.toBitVec.toNat) % 2 ^ 32 := by
  rw [Int64.toBitVec_and, BitVec.toNat_and, Int64.toBitVec_xor, BitVec.toNat_xor]
  exact Nat.and_two_pow_sub_one_eq_mod _ 32
theorem cn_p_e (v t : Int64) : (((v ^^^ t) &&& 4294967295).toUInt64 >>> (((32 : Int32) - nI (min (cn_q t) 32)).toInt64.toUInt64 &&& Int64.toUInt64 63)).toInt64 = 0 ↔ cn_p v t = true := by
  have hb : min (cn_q t) 32 ≤ 32 := Nat.min_le_right _ _
  rw [show (32 : Int32) = nI 32 from rfl, pk_sub hb, cn_shr _ _ _ (cn_sh64 _ (by omega)), cn_low, cn_xor]
  unfold cn_p cn_b
  rw [decide_eq_true_iff]
  constructor
  · intro h k h1
    exact h (31 - k) (by omega) (by omega)
  · intro h i h1 h2
    have := h (31 - i) (by omega)
    rw [show 31 - (31 - i) = i by omega] at this
    exact this
theorem cn_min (q : Nat) (hq : q < 64) : (if (32 : Int32) < nI q then (32 : Int32) else nI q) = nI (min q 32) := by
  by_cases h : 32 < q
  · rw [if_pos (show (32 : Int32) < nI q from (nI_ltI (by decide) (by omega) : nI 32 < nI q ↔ 32 < q).mpr h), Nat.min_eq_right (by omega)]; rfl
  · rw [if_neg (show ¬ (32 : Int32) < nI q from fun z => h ((nI_ltI (by decide) (by omega) : nI 32 < nI q ↔ 32 < q).mp z)), Nat.min_eq_left (by omega)]
theorem cn_q_lt (t : Int64) : cn_q t < 64 := Nat.mod_lt _ (by decide)
theorem mk_1 : ∀ k, k < 16 → (nI k &&& 1) = bI (k.testBit 0) := by decide +kernel
theorem mk_4 : ∀ k, k < 16 → ((nI k &&& 4) = 0 ↔ k.testBit 2 = false) := by decide +kernel
theorem mk_2 : ∀ k, k < 16 → ((nI k &&& 2) = 0 ↔ k.testBit 1 = false) := by decide +kernel
/-! the table of the conditions: kind (3 a test; 0, 1, 2 all, any, not), operator, key, t, marks, depth, parts, address -/
abbrev n_T : Type := (Nat → Nat) × (Nat → Nat) × (Nat → Nat) × (Nat → Int64) × (Nat → Nat) × (Nat → Nat) × (Nat → List Nat) × (Nat → Nat)
abbrev n_kd (N : n_T) : Nat → Nat := N.1
abbrev n_op (N : n_T) : Nat → Nat := N.2.1
abbrev n_ky (N : n_T) : Nat → Nat := N.2.2.1
abbrev n_tt (N : n_T) : Nat → Int64 := N.2.2.2.1
abbrev n_mk (N : n_T) : Nat → Nat := N.2.2.2.2.1
abbrev n_dp (N : n_T) : Nat → Nat := N.2.2.2.2.2.1
abbrev n_ch (N : n_T) : Nat → List Nat := N.2.2.2.2.2.2.1
abbrev n_ad (N : n_T) : Nat → Nat := N.2.2.2.2.2.2.2
def n_j (hv : Nat → Bool) (k : Nat) (l : List Nat) : Bool := if k = 0 then l.all hv else if k = 1 then l.any hv else !l.any hv
/-- hv: which conditions hold -/
def n_V (cnt : Nat → Int32) (row : Nat → Int64) (made : Nat) (N : n_T) (hv : Nat → Bool) : Prop := ∀ i, i < made → hv i = if n_kd N i = 3 then cn_t cnt row (n_op N i) (n_ky N i) (n_tt N i) (n_mk N i) else n_j hv (n_kd N i) (n_ch N i)
def n_ok (made : Nat) (N : n_T) : Prop := ∀ i, i < made → n_kd N i ≤ 3 ∧ 1 ≤ n_dp N i ∧ n_dp N i ≤ 5 ∧ (n_kd N i = 3 → n_op N i < 8 ∧ n_ky N i < 8 ∧ n_mk N i < 8) ∧ (n_kd N i ≠ 3 → (n_ch N i).length ≤ 8 ∧ ∀ c ∈ n_ch N i, c < i ∧ n_dp N c < n_dp N i)
theorem n_fin {hv : Nat → Bool} {k : Nat} {l : List Nat} (hk : k < 3) (h : ∀ c ∈ l, hv c = decide (k = 0)) : n_j hv k l = decide (¬ k = 1) := by
  unfold n_j
  rcases (show k = 0 ∨ k = 1 ∨ k = 2 by omega) with rfl | rfl | rfl
  · rw [if_pos rfl]; simp; intro x hx; exact (h x hx)
  · rw [if_neg (by decide), if_pos rfl]; simp; intro x hx; have := h x hx; simpa using this
  · rw [if_neg (by decide), if_neg (by decide)]; simp; intro x hx; have := h x hx; simpa using this
theorem n_set {hv : Nat → Bool} {k c : Nat} {l : List Nat} (hk : k < 3) (hc : c ∈ l) (h : hv c = decide (¬ k = 0)) : n_j hv k l = decide (k = 1) := by
  unfold n_j
  rcases (show k = 0 ∨ k = 1 ∨ k = 2 by omega) with rfl | rfl | rfl
  · rw [if_pos rfl]; simp; exact ⟨c, hc, by simpa using h⟩
  · rw [if_neg (by decide), if_pos rfl]; simp; exact ⟨c, hc, by simpa using h⟩
  · rw [if_neg (by decide), if_neg (by decide)]; simp; exact ⟨c, hc, by simpa using h⟩
/-- the cells of the conditions -/
def n_W (D : va_G) (cA : Nat → ClassId) (made : Nat) (N : n_T) (H : Heap) : Prop := ∀ i, i < made →
  (n_kd N i = 3 → va_at D x_cl (n_ad N i, .inr (3, [.int (nI (n_dp N i)), .int (nI (n_op N i)), .int (nI (n_ky N i)), .long (n_tt N i), .int (nI (n_mk N i))])) H) ∧
  (n_kd N i ≠ 3 → va_at D x_cl (n_ad N i, .inr (4, [.int (nI (n_dp N i)), .int (nI (n_kd N i)), .ref (n_ad N i - 1)])) H ∧ va_at D x_cl (n_ad N i - 1, .inl (cA 4, (n_ch N i).length, .inr (.inr (.inr (.inr (fun j => ((n_ch N i)[j]?).map (n_ad N))))))) H)
