/-! the model's cells: the object at m, its twenty arrays behind it; how many made, piled, who decided, tokens, the arrays of ints, of longs -/
abbrev m_T : Type := Nat × Nat × Int32 × Nat × (Nat → Nat → Int32) × (Nat → Nat → Int64)
abbrev m_md (Y : m_T) : Nat := Y.1
abbrev m_pl (Y : m_T) : Nat := Y.2.1
abbrev m_de (Y : m_T) : Int32 := Y.2.2.1
abbrev m_tn (Y : m_T) : Nat := Y.2.2.2.1
abbrev m_i (Y : m_T) : Nat → Nat → Int32 := Y.2.2.2.2.1
abbrev m_l (Y : m_T) : Nat → Nat → Int64 := Y.2.2.2.2.2
def m_c (cA : Nat → ClassId) (i : Nat) (f : Nat → Int32) (g : Nat → Int64) : va_E := match i with
  | 1 => .inl (cA 0, 8, .inl f)
  | 2 => .inl (cA 1, 32, .inr (.inl g))
  | 3 => .inl (cA 2, 520, .inl f)
  | 4 => .inl (cA 2, 520, .inl f)
  | 5 => .inl (cA 2, 520, .inl f)
  | 6 => .inl (cA 2, 520, .inl f)
  | 7 => .inl (cA 2, 520, .inl f)
  | 8 => .inl (cA 1, 520, .inr (.inl g))
  | 9 => .inl (cA 0, 520, .inl f)
  | 10 => .inl (cA 3, 520, .inl f)
  | 11 => .inl (cA 0, 8, .inl f)
  | 12 => .inl (cA 3, 6, .inl f)
  | 13 => .inl (cA 0, 6, .inl f)
  | 14 => .inl (cA 0, 36, .inl f)
  | 15 => .inl (cA 1, 36, .inr (.inl g))
  | 16 => .inl (cA 1, 36, .inr (.inl g))
  | 17 => .inl (cA 0, 36, .inl f)
  | 18 => .inl (cA 0, 36, .inl f)
  | 19 => .inl (cA 0, 6, .inl f)
  | _ => .inl (cA 0, 40, .inl f)
def m_o (m made pil : Nat) (dec : Int32) (tok : Nat) : List Value := [.ref (m + 1), .ref (m + 2), .int (nI made), .ref (m + 3), .ref (m + 4), .ref (m + 5), .ref (m + 6), .ref (m + 7), .ref (m + 8), .ref (m + 9), .ref (m + 10), .int (nI pil), .ref (m + 11), .ref (m + 12), .ref (m + 13), .ref (m + 14), .ref (m + 15), .ref (m + 16), .ref (m + 17), .ref (m + 18), .int dec, .ref (m + 19), .int (nI tok), .ref (m + 20)]
def m_W (D : va_G) (cA : Nat → ClassId) (m : Nat) (Y : m_T) (H : Heap) : Prop := va_at D x_cl (m, .inr (6, m_o m (m_md Y) (m_pl Y) (m_de Y) (m_tn Y))) H ∧ ∀ i, 1 ≤ i → i ≤ 20 → va_at D x_cl (m + i, m_c cA i (m_i Y i) (m_l Y i)) H
def m_A (m : Nat) : Addr → Prop := fun q => m ≤ q ∧ q < m + 21
theorem m_A_in {m q : Nat} (h1 : m ≤ q) (h2 : q < m + 21) : m_A m q := ⟨h1, h2⟩
theorem m_A.lt {m q : Nat} (h : m_A m q) : q < m + 21 := h.2
theorem m_A.ge {m q : Nat} (h : m_A m q) : m ≤ q := h.1
theorem m_W.kept {D : va_G} {cA : Nat → ClassId} {m : Nat} {Y : m_T} {H H1 : Heap} (h : m_W D cA m Y H) (hq : ∀ q : Nat, m ≤ q → q < m + 21 → H1[q]? = H[q]?) : m_W D cA m Y H1 := ⟨h.1.kept (hq m (by omega) (by omega)), fun i a b => (h.2 i a b).kept (hq (m + i) (by omega) (by omega))⟩
/-- the object changes -/
theorem m_W.obj {D : va_G} {cA : Nat → ClassId} {m : Nat} {Y : m_T} {H H1 : Heap} (h : m_W D cA m Y H) (h1 : x_1 m H H1) {made pil tok : Nat} {dec : Int32} (hO : va_at D x_cl (m, .inr (6, m_o m made pil dec tok)) H1) : m_W D cA m (made, pil, dec, tok, Y.2.2.2.2) H1 := ⟨hO, fun i a b => (h.2 i a b).k1 h1 (show m + i ≠ m by omega)⟩
/-- an array of ints changes -/
def m_sI (Y : m_T) (i : Nat) (f : Nat → Int32) : m_T := (Y.1, Y.2.1, Y.2.2.1, Y.2.2.2.1, va_up (m_i Y) i f, m_l Y)
theorem m_W.ai {D : va_G} {cA : Nat → ClassId} {m : Nat} {Y : m_T} {H H1 : Heap} (h : m_W D cA m Y H) {i : Nat} (hi : 1 ≤ i) (h1 : x_1 (m + i) H H1) {f : Nat → Int32} (hf : va_at D x_cl (m + i, m_c cA i f (m_l Y i)) H1) : m_W D cA m (m_sI Y i f) H1 := by
  refine ⟨h.1.k1 h1 (show m ≠ m + i by omega), fun j a b => ?_⟩
  show va_at D x_cl (m + j, m_c cA j (va_up (m_i Y) i f j) (m_l Y j)) H1
  by_cases e : j = i
  · subst e; simp only [va_up, if_pos]; exact hf
  · simp only [va_up, if_neg e]; exact (h.2 j a b).k1 h1 (show m + j ≠ m + i by omega)
def m_sL (Y : m_T) (i : Nat) (g : Nat → Int64) : m_T := (Y.1, Y.2.1, Y.2.2.1, Y.2.2.2.1, m_i Y, va_up (m_l Y) i g)
theorem m_W.al {D : va_G} {cA : Nat → ClassId} {m : Nat} {Y : m_T} {H H1 : Heap} (h : m_W D cA m Y H) {i : Nat} (hi : 1 ≤ i) (h1 : x_1 (m + i) H H1) {g : Nat → Int64} (hg : va_at D x_cl (m + i, m_c cA i (m_i Y i) g) H1) : m_W D cA m (m_sL Y i g) H1 := by
  refine ⟨h.1.k1 h1 (show m ≠ m + i by omega), fun j a b => ?_⟩
  show va_at D x_cl (m + j, m_c cA j (m_i Y j) (va_up (m_l Y) i g j)) H1
  by_cases e : j = i
  · subst e; simp only [va_up, if_pos]; exact hg
  · simp only [va_up, if_neg e]; exact (h.2 j a b).k1 h1 (show m + j ≠ m + i by omega)
/-- other tokens -/
def m_tk (Y : m_T) (t : Nat) (f : Nat → Int32) : m_T := (Y.1, Y.2.1, Y.2.2.1, t, va_up (m_i Y) 20 f, m_l Y)
theorem m_tk_tk (Y : m_T) (t u : Nat) (f g : Nat → Int32) : m_tk (m_tk Y t f) u g = m_tk Y u g := by
  have e : va_up (va_up (m_i Y) 20 f) 20 g = va_up (m_i Y) 20 g := by
    funext j; by_cases h : j = 20
    · simp [va_up, h]
    · simp [va_up, h]
  show (Y.1, Y.2.1, Y.2.2.1, u, va_up (va_up (m_i Y) 20 f) 20 g, m_l Y) = _
  rw [e]; rfl
theorem m_tk_i {Y : m_T} {t : Nat} {f : Nat → Int32} {j : Nat} (h : j ≠ 20) : m_i (m_tk Y t f) j = m_i Y j := if_neg h
theorem m_tk_20 {Y : m_T} {t : Nat} {f : Nat → Int32} : m_i (m_tk Y t f) 20 = f := by show va_up (m_i Y) 20 f 20 = f; simp [va_up]
theorem m_tk_self (Y : m_T) : m_tk Y (m_tn Y) (m_i Y 20) = Y := by
  have e : va_up (m_i Y) 20 (m_i Y 20) = m_i Y := by
    funext j; by_cases h : j = 20
    · simp [va_up, h]
    · simp [va_up, h]
  show (Y.1, Y.2.1, Y.2.2.1, m_tn Y, va_up (m_i Y) 20 (m_i Y 20), m_l Y) = Y
  rw [e]
def m_tA (m : Nat) : Addr → Prop := x_A [m, m + 20]
theorem m_tA_A {m q : Nat} (h : m_tA m q) : m_A m q := by have := x_A2.mp h; exact m_A_in (by omega) (by omega)
/-- a model's step over one token, the places under i done -/
def pm (y : Int64) (lo : Bool) (t : Int32) (q i : Nat) : Nat := if t = 256 then pl_s (tx_n y) q i else pl_c (fun i => decide (t = 257) || decide (tx_lo t lo = tx_lo (tx_c y i) lo)) q (min i (tx_n y))
theorem pm_0 (y : Int64) (lo : Bool) (t : Int32) (q : Nat) : pm y lo t q 0 = 0 := by unfold pm; by_cases h : t = 256 <;> simp [h, pl_s, pl_c]
theorem pm_n (y : Int64) (lo : Bool) (t : Int32) (q : Nat) : pm y lo t q (tx_n y + 1) = pt_s y lo t q := by
  unfold pm pt_s
  rw [show min (tx_n y + 1) (tx_n y) = tx_n y by omega]
theorem pm_no {y : Int64} {lo : Bool} {t : Int32} {q i : Nat} (h : q.testBit i = false) : pm y lo t q (i + 1) = pm y lo t q i := by
  unfold pm
  by_cases h2 : t = 256
  · rw [if_pos h2, if_pos h2]; show (if q.testBit i then _ else _) = _; rw [h]; rfl
  · rw [if_neg h2, if_neg h2]
    by_cases hi : i < tx_n y
    · rw [show min (i + 1) (tx_n y) = i + 1 by omega, show min i (tx_n y) = i by omega]; exact pl_c_f1 h
    · rw [show min (i + 1) (tx_n y) = tx_n y by omega, show min i (tx_n y) = tx_n y by omega]
theorem pm_any {y : Int64} {lo : Bool} {q i : Nat} (h : q.testBit i = true) : pm y lo 256 q (i + 1) = pm y lo 256 q i ||| (2 ^ (tx_n y + 1) - 2 ^ i) := by
  unfold pm
  rw [if_pos rfl, if_pos rfl]; show (if q.testBit i then _ else _) = _; rw [h]; rfl
theorem pm_end {y : Int64} {lo : Bool} {t : Int32} {q i : Nat} (ht : ¬ t = 256) (hi : tx_n y ≤ i) : pm y lo t q (i + 1) = pm y lo t q i := by
  unfold pm
  rw [if_neg ht, if_neg ht, show min (i + 1) (tx_n y) = tx_n y by omega, show min i (tx_n y) = tx_n y by omega]
theorem pm_yes {y : Int64} {lo : Bool} {t : Int32} {q i : Nat} (ht : ¬ t = 256) (hi : i < tx_n y) (h : q.testBit i = true) (hp : t = 257 ∨ tx_lo t lo = tx_lo (tx_c y i) lo) : pm y lo t q (i + 1) = pm y lo t q i ||| 2 ^ (i + 1) := by
  unfold pm
  rw [if_neg ht, if_neg ht, show min (i + 1) (tx_n y) = i + 1 by omega, show min i (tx_n y) = i by omega]
  exact pl_c_t h (by rcases hp with h1 | h1 <;> simp [h1])
theorem pm_not {y : Int64} {lo : Bool} {t : Int32} {q i : Nat} (ht : ¬ t = 256) (h1 : ¬ t = 257) (h2 : ¬ tx_lo t lo = tx_lo (tx_c y i) lo) : pm y lo t q (i + 1) = pm y lo t q i := by
  by_cases hi : i < tx_n y
  · unfold pm
    rw [if_neg ht, if_neg ht, show min (i + 1) (tx_n y) = i + 1 by omega, show min i (tx_n y) = i by omega]
    exact pl_c_f2 (by simp [h1, h2])
  · exact pm_end ht (by omega)
theorem pm_lt {y : Int64} {lo : Bool} {t : Int32} {q i : Nat} : pm y lo t q i < 2 ^ (tx_n y + 1) := by
  unfold pm
  by_cases h : t = 256
  · rw [if_pos h]; exact pl_s_lt _
  · rw [if_neg h]; exact pl_c_lt' (by omega)
theorem pl_or1 : ∀ j : Nat, j < 9 → ∀ i : Nat, i < 9 → i ≤ j → ∀ T : Nat, (T ||| (2 ^ j - 2 ^ i)) ||| 2 ^ j = T ||| (2 ^ (j + 1) - 2 ^ i) := by
  intro j hj i hi hij T
  rw [Nat.or_assoc, pl_rg i hi j hj hij]
/-- the tokens so far, kept in an array -/
def tk_ok (ts : List Int32) (f : Nat → Int32) : Prop := ∀ j, j < ts.length → f j = ts.getD j 0
theorem tk_ok.add {ts : List Int32} {f : Nat → Int32} (h : tk_ok ts f) (t : Int32) : tk_ok (ts ++ [t]) (upd f ts.length t) := by
  intro j hj
  rw [List.length_append] at hj
  by_cases e : j = ts.length
  · subst e; rw [pk_us]; simp
  · have hj2 : j < ts.length := by simp at hj; omega
    rw [pk_un e, h j hj2]
    simp [List.getD_eq_getElem?_getD, List.getElem?_append_left hj2]
