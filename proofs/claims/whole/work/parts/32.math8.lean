/-! the whole state: how many are piled, who decided, the pile (by number), the values, the layers (count, present, judged), the statements -/
abbrev d_T : Type := Nat × Int32 × (Nat → Nat) × (Nat → Int32) × (Nat → Int64) × (Nat → Nat) × (Nat → Bool) × (Nat → Nat) × (Nat → Nat → s_T)
abbrev d_n (X : d_T) : Nat := X.1
abbrev d_e (X : d_T) : Int32 := X.2.1
abbrev d_p (X : d_T) : Nat → Nat := X.2.2.1
abbrev d_c (X : d_T) : Nat → Int32 := X.2.2.2.1
abbrev d_r (X : d_T) : Nat → Int64 := X.2.2.2.2.1
abbrev d_k (X : d_T) : Nat → Nat := X.2.2.2.2.2.1
abbrev d_b (X : d_T) : Nat → Bool := X.2.2.2.2.2.2.1
abbrev d_j (X : d_T) : Nat → Nat := X.2.2.2.2.2.2.2.1
abbrev d_s (X : d_T) : Nat → Nat → s_T := X.2.2.2.2.2.2.2.2
def d_ok (made : Nat) (X : d_T) : Prop := d_n X ≤ 8 ∧ (∀ k, k < d_n X → d_p X k < made) ∧ vl_ok (d_c X) ∧ (∀ l, l < 6 → d_k X l ≤ 6 ∧ d_j X l < 64) ∧ ∀ l, l < 6 → ∀ k, k < 6 → s_ok made (d_s X l k)
/-- the conditions' cells lie behind all else -/
def n_hi (o made : Nat) (N : n_T) : Prop := ∀ i, i < made → o + 75 ≤ n_ad N i ∧ (n_kd N i ≠ 3 → o + 76 ≤ n_ad N i)
def d_pc (N : n_T) (n : Nat) (p : Nat → Nat) : Nat → Option Nat := fun k => if k < n then some (n_ad N (p k)) else none
def d_W (D : va_G) (cA : Nat → ClassId) (N : n_T) (o : Nat) (X : d_T) (H : Heap) : Prop :=
  va_at D x_cl (o, .inr (5, [.ref (o + 1), .ref (o + 4), .ref (o + 5), .int (nI (d_n X)), .int (d_e X)])) H ∧ v_W D cA (o + 1) (d_c X) (d_r X) H ∧
  va_at D x_cl (o + 4, .inl (cA 4, 8, .inr (.inr (.inr (.inr (d_pc N (d_n X) (d_p X))))))) H ∧ va_at D x_cl (o + 5, .inl (cA 5, 6, .inr (.inr (.inr (.inr (fun l => some (o + 6 + 8 * l))))))) H ∧
  ∀ l, l < 6 → l_W D cA N (o + 6 + 8 * l) (d_k X l) (d_b X l) (d_j X l) (d_s X l) H
/-- the class's own cells -/
def d_A (o : Nat) : Addr → Prop := fun q => o ≤ q ∧ q < o + 54
theorem d_A_in {o q : Nat} (h1 : o ≤ q) (h2 : q < o + 54) : d_A o q := ⟨h1, h2⟩
theorem d_W.kept {D : va_G} {cA : Nat → ClassId} {N : n_T} {o : Nat} {X : d_T} {H H1 : Heap} (h : d_W D cA N o X H) (hq : ∀ q : Nat, o ≤ q → q < o + 54 → H1[q]? = H[q]?) : d_W D cA N o X H1 :=
  ⟨h.1.kept (hq o (by omega) (by omega)), h.2.1.kept (fun q a b => hq q (by omega) (by omega)), h.2.2.1.kept (hq (o + 4) (by omega) (by omega)), h.2.2.2.1.kept (hq (o + 5) (by omega) (by omega)), fun l hl => (h.2.2.2.2 l hl).kept (fun q a b => hq q (by omega) (by omega))⟩
/-- a layer becomes another -/
def d_setL (X : d_T) (l c : Nat) (b : Bool) (j : Nat) (s : Nat → s_T) : d_T := (X.1, X.2.1, X.2.2.1, X.2.2.2.1, X.2.2.2.2.1, va_up (d_k X) l c, va_up (d_b X) l b, va_up (d_j X) l j, va_up (d_s X) l s)
theorem d_W.lay {D : va_G} {cA : Nat → ClassId} {N : n_T} {o : Nat} {X : d_T} {H H1 : Heap} {A : Addr → Prop} (h : d_W D cA N o X H) (h1 : x_F A H H1) {l c j : Nat} {b : Bool} {s : Nat → s_T} (hA : ∀ q : Nat, A q → o + 6 + 8 * l ≤ q ∧ q < o + 6 + 8 * l + 8) (hl : l_W D cA N (o + 6 + 8 * l) c b j s H1) : d_W D cA N o (d_setL X l c b j s) H1 := by
  refine ⟨h.1.kF h1 (fun z => ?_), h.2.1.kF h1 (fun q a b z => ?_), h.2.2.1.kF h1 (fun z => ?_), h.2.2.2.1.kF h1 (fun z => ?_), fun i hi => ?_⟩
  · have := hA _ z; dsimp only at this; omega
  · have := hA _ z; omega
  · have := hA _ z; dsimp only at this; omega
  · have := hA _ z; dsimp only at this; omega
  · by_cases e : i = l
    · subst e
      show l_W D cA N (o + 6 + 8 * i) (va_up (d_k X) i c i) (va_up (d_b X) i b i) (va_up (d_j X) i j i) (va_up (d_s X) i s i) H1
      simp only [va_up, if_pos]
      exact hl
    · show l_W D cA N (o + 6 + 8 * i) (va_up (d_k X) l c i) (va_up (d_b X) l b i) (va_up (d_j X) l j i) (va_up (d_s X) l s i) H1
      simp only [va_up, if_neg e]
      exact (h.2.2.2.2 i hi).kept (fun q a b => h1.2 q (fun z => by have := hA q z; omega))
def d_setV (X : d_T) (cnt : Nat → Int32) (row : Nat → Int64) : d_T := (X.1, X.2.1, X.2.2.1, cnt, row, X.2.2.2.2.2)
theorem d_W.val {D : va_G} {cA : Nat → ClassId} {N : n_T} {o : Nat} {X : d_T} {H H1 : Heap} {A : Addr → Prop} (h : d_W D cA N o X H) (h1 : x_F A H H1) {cnt : Nat → Int32} {row : Nat → Int64} (hA : ∀ q : Nat, A q → o + 1 ≤ q ∧ q ≤ o + 3) (hv : v_W D cA (o + 1) cnt row H1) : d_W D cA N o (d_setV X cnt row) H1 := by
  refine ⟨h.1.kF h1 (fun z => ?_), hv, h.2.2.1.kF h1 (fun z => ?_), h.2.2.2.1.kF h1 (fun z => ?_), fun i hi => (h.2.2.2.2 i hi).kept (fun q a b => h1.2 q (fun z => ?_))⟩
  · have := hA _ z; dsimp only at this; omega
  · have := hA _ z; dsimp only at this; omega
  · have := hA _ z; dsimp only at this; omega
  · have := hA q z; omega
/-! what the calls answer, and what they do -/
def q_L (k : Int32) : Bool := decide (0 ≤ k ∧ k < 6)
def q_may (l w : Int32) : Bool := if l = 5 then decide ((-1 ≤ w ∧ w ≤ 9) ∨ (100 ≤ w ∧ w ≤ 199)) else decide (w = -1)
def q_open (X : d_T) (k : Int32) : Bool := q_L k && !d_b X k.toNatClampNeg
def z_open (X : d_T) (k : Int32) : d_T := if q_open X k then d_setL X k.toNatClampNeg (d_k X k.toNatClampNeg) true (d_j X k.toNatClampNeg) (d_s X k.toNatClampNeg) else X
def q_drop (X : d_T) (k : Int32) : Bool := q_L k && d_b X k.toNatClampNeg
def z_drop (X : d_T) (k : Int32) : d_T := if q_drop X k then d_setL X k.toNatClampNeg 0 false (d_j X k.toNatClampNeg) (d_s X k.toNatClampNeg) else X
def q_stmts (X : d_T) (k : Int32) : Int32 := if q_L k then (if d_b X k.toNatClampNeg then nI (d_k X k.toNatClampNeg) else -1) else -2
def q_appl (X : d_T) (k : Int32) : Int32 := if d_e X = -1 then -1 else if q_L k then nI (d_j X k.toNatClampNeg) else -1
def q_key (k : Int32) : Bool := decide (0 ≤ k ∧ k < 8)
def q_offer (X : d_T) (k : Int32) : Int32 := if q_key k then (if 4 ≤ d_c X k.toNatClampNeg then -3 else d_c X k.toNatClampNeg + 1) else -2
def z_offer (X : d_T) (k : Int32) (x : Int64) : d_T := if q_key k then (if 4 ≤ d_c X k.toNatClampNeg then X else d_setV X (upd (d_c X) k.toNatClampNeg (d_c X k.toNatClampNeg + 1)) (vp_updL (d_r X) (4 * k.toNatClampNeg + (d_c X k.toNatClampNeg).toNatClampNeg) x)) else X
def q_forget (X : d_T) (k : Int32) : Int32 := if q_key k then d_c X k.toNatClampNeg else -2
def z_forget (X : d_T) (k : Int32) : d_T := if q_key k then d_setV X (upd (d_c X) k.toNatClampNeg 0) (d_r X) else X
def q_holds (X : d_T) (hv : Nat → Bool) (k : Int32) : Bool := decide (0 ≤ k ∧ k < nI (d_n X)) && hv (d_p X k.toNatClampNeg)
theorem q_L_in {k : Int32} (h : q_L k = true) : ∃ j : Nat, j < 6 ∧ k = nI j := by
  have h := of_decide_eq_true h
  rcases pk_ix k (n := 6) (by decide) with h1 | h1 | h1
  · exact absurd h1 (Int32.not_lt.mpr h.1)
  · exact absurd h1 (Int32.not_le.mpr h.2)
  · exact h1
theorem q_key_in {k : Int32} (h : q_key k = true) : ∃ j : Nat, j < 8 ∧ k = nI j := by
  have h := of_decide_eq_true h
  exact vl_key' h.1 h.2
