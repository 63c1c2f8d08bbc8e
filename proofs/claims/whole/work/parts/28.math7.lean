/-! statements and layers -/
/-- how, actions, things, who, the condition's number -/
abbrev s_T : Type := Nat × Int64 × Int64 × Int32 × Option Nat
def s_fs (N : n_T) (x : s_T) : List Value := [.int (nI x.1), .long x.2.1, .long x.2.2.1, .int x.2.2.2.1, va_rf (x.2.2.2.2.map (n_ad N))]
def s_ok (made : Nat) (x : s_T) : Prop := x.1 < 16 ∧ ∀ i, x.2.2.2.2 = some i → i < made
def s_m (w k : Int32) : Bool := decide (w = -1 ∨ w = k ∨ w = (k - 100) / 10)
def s_c (hv : Nat → Bool) (o : Option Nat) : Bool := match o with
  | none => true
  | some i => hv i
/-- does a statement suit a request -/
def s_s (cnt : Nat → Int32) (row : Nat → Int64) (hv : Nat → Bool) (k : Int32) (ac th : Int64) (x : s_T) : Bool := s_m x.2.2.2.1 k && (pt_m cnt row x.2.1 ac true != x.1.testBit 1) && (pt_m cnt row x.2.2.1 th false != x.1.testBit 2) && s_c hv x.2.2.2.2
/-- the bits of those under k that f names -/
def l_j (f : Nat → Bool) : Nat → Nat
  | 0 => 0
  | k + 1 => if f k then l_j f k ||| 2 ^ k else l_j f k
theorem l_j_lt (f : Nat → Bool) : ∀ k, l_j f k < 2 ^ k := by
  intro k
  induction k with
  | zero => exact Nat.one_pos
  | succ k ih =>
    unfold l_j
    have h2 : l_j f k < 2 ^ (k + 1) := Nat.lt_trans ih (Nat.pow_lt_pow_right (by omega) (by omega))
    by_cases h : f k = true
    · rw [if_pos h]; exact Nat.or_lt_two_pow h2 (Nat.pow_lt_pow_right (by omega) (by omega))
    · rw [if_neg h]; exact h2
theorem l_j_t {f : Nat → Bool} {k : Nat} (h : f k = true) : l_j f (k + 1) = l_j f k ||| 2 ^ k := by show (if f k then _ else _) = _; rw [if_pos h]
theorem l_j_f {f : Nat → Bool} {k : Nat} (h : f k = false) : l_j f (k + 1) = l_j f k := by show (if f k then _ else _) = _; rw [if_neg (by rw [h]; decide)]
theorem l_j_64 {f : Nat → Bool} {k : Nat} (h : k ≤ 6) : l_j f k < 512 := Nat.lt_of_lt_of_le (l_j_lt f k) (Nat.le_trans (Nat.pow_le_pow_right (by omega) h) (by decide))
/-- one of the first c that is judged, and P -/
def l_h (j c : Nat) (P : Nat → Bool) : Bool := decide (∃ k, k < c ∧ (j.testBit k && P k) = true)
theorem l_h_t {j c k : Nat} {P : Nat → Bool} (hk : k < c) (h1 : j.testBit k = true) (h2 : P k = true) : l_h j c P = true := decide_eq_true ⟨k, hk, by rw [h1, h2]; rfl⟩
theorem l_h_f {j c : Nat} {P : Nat → Bool} (h : ∀ k, k < c → (j.testBit k && P k) = false) : l_h j c P = false := decide_eq_false (fun ⟨k, hk, h1⟩ => by rw [h k hk] at h1; cases h1)
theorem va_at.refs {D : va_G} {cl : List vw_C} {a : Nat} {cA : ClassId} {n : Nat} {f g : Nat → Option Nat} {H : Heap} (h : va_at D cl (a, .inl (cA, n, .inr (.inr (.inr (.inr f))))) H) (e : ∀ j, j < n → f j = g j) : va_at D cl (a, .inl (cA, n, .inr (.inr (.inr (.inr g))))) H := by
  have h1 : H[a]? = some (arrV cA n (fun j => va_rf (f j))) := h
  show H[a]? = some (arrV cA n (fun j => va_rf (g j)))
  rw [h1]
  congr 1
  unfold arrV
  congr 1
  apply Array.ext
  · simp
  · intro i hi _
    simp at hi
    simp [e i hi]
/-- a layer's cells: the object at L, its row behind it, then the six statements -/
def l_W (D : va_G) (cA : Nat → ClassId) (N : n_T) (L c : Nat) (p : Bool) (j : Nat) (sd : Nat → s_T) (H : Heap) : Prop :=
  va_at D x_cl (L, .inr (1, [.ref (L + 1), .int (nI c), .int (bI p), .int (nI j)])) H ∧ va_at D x_cl (L + 1, .inl (cA 6, 6, .inr (.inr (.inr (.inr (fun k => some (L + 2 + k))))))) H ∧ ∀ k, k < 6 → va_at D x_cl (L + 2 + k, .inr (2, s_fs N (sd k))) H
theorem v_W.kF {D : va_G} {cA : Nat → ClassId} {v : Nat} {cnt : Nat → Int32} {row : Nat → Int64} {A : Addr → Prop} {H H1 : Heap} (h : v_W D cA v cnt row H) (h1 : x_F A H H1) (hq : ∀ q : Nat, v ≤ q → q ≤ v + 2 → ¬ A q) : v_W D cA v cnt row H1 := h.kept (fun q a b => h1.2 q (hq q a b))
theorem n_W.kept {D : va_G} {cA : Nat → ClassId} {made : Nat} {N : n_T} {H H1 : Heap} (h : n_W D cA made N H) (hq : ∀ i, i < made → H1[n_ad N i]? = H[n_ad N i]? ∧ (n_kd N i ≠ 3 → H1[n_ad N i - 1]? = H[n_ad N i - 1]?)) : n_W D cA made N H1 := fun i hi => ⟨fun hk => ((h i hi).1 hk).kept (hq i hi).1, fun hk => ⟨((h i hi).2 hk).1.kept (hq i hi).1, ((h i hi).2 hk).2.kept ((hq i hi).2 hk)⟩⟩
theorem n_W.kF {D : va_G} {cA : Nat → ClassId} {made : Nat} {N : n_T} {A : Addr → Prop} {H H1 : Heap} (h : n_W D cA made N H) (h1 : x_F A H H1) (hq : ∀ i, i < made → ¬ A (n_ad N i) ∧ (n_kd N i ≠ 3 → ¬ A (n_ad N i - 1))) : n_W D cA made N H1 := h.kept (fun i hi => ⟨h1.2 _ (hq i hi).1, fun hk => h1.2 _ ((hq i hi).2 hk)⟩)
theorem l_W.kept {D : va_G} {cA : Nat → ClassId} {N : n_T} {L c : Nat} {p : Bool} {j : Nat} {sd : Nat → s_T} {H H1 : Heap} (h : l_W D cA N L c p j sd H) (hq : ∀ q : Nat, L ≤ q → q < L + 8 → H1[q]? = H[q]?) : l_W D cA N L c p j sd H1 :=
  ⟨h.1.kept (hq L (by omega) (by omega)), h.2.1.kept (hq (L + 1) (by omega) (by omega)), fun k hk => (h.2.2 k hk).kept (hq (L + 2 + k) (by omega) (by omega))⟩
theorem x_A1 {a q : Nat} : x_A [a] q ↔ q = a := by unfold x_A; simp
theorem x_A.sub {l m : List Nat} (h : ∀ a ∈ l, a ∈ m) (q : Nat) (hq : x_A l q) : x_A m q := h q hq
theorem x_A2 {a b q : Nat} : x_A [a, b] q ↔ q = a ∨ q = b := by unfold x_A; simp
