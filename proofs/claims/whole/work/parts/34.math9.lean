/-! deciding -/
def q_den (X : d_T) (l : Nat) : Bool := l_h (d_j X l) (d_k X l) (fun k => (d_s X l k).1.testBit 0 == true)
def q_alw (X : d_T) (l : Nat) : Bool := l_h (d_j X l) (d_k X l) (fun k => (d_s X l k).1.testBit 0 == false)
def q_bar (X : d_T) (l : Nat) : Bool := d_b X l && !q_alw X l
def q_nam (X : d_T) (u : Int32) : Bool := l_h (d_j X 5) (d_k X 5) (fun k => !(d_s X 5 k).1.testBit 0 && decide ((d_s X 5 k).2.2.2.1 = u))
/-- the answer and the layer, by the grants -/
def q_gr (X : d_T) (own : Bool) : Int32 × Nat := if !q_alw X 4 && !(own && q_alw X 5) then (0, 4) else if !own && !q_alw X 5 then (0, 5) else if q_bar X 2 then (0, 2) else if q_bar X 3 then (0, 3) else (1, if q_alw X 4 then 4 else 5)
def q_con (X : d_T) (u : Int32) (own : Bool) : Int32 × Nat := match (List.range 6).find? (q_den X) with
  | some l => (-1, l)
  | none => if q_bar X 0 then (0, 0) else if q_bar X 1 then (0, 1) else if own && q_nam X u then (1, 5) else q_gr X own
def d_setE (X : d_T) (e : Int32) : d_T := (X.1, e, X.2.2)
def d_setJ (X : d_T) (j : Nat → Nat) : d_T := (X.1, X.2.1, X.2.2.1, X.2.2.2.1, X.2.2.2.2.1, X.2.2.2.2.2.1, X.2.2.2.2.2.2.1, j, X.2.2.2.2.2.2.2.2)
theorem d_W.ent {D : va_G} {cA : Nat → ClassId} {N : n_T} {o : Nat} {X : d_T} {H H1 : Heap} (h : d_W D cA N o X H) (h1 : x_1 o H H1) {e : Int32} (hO : va_at D x_cl (o, .inr (5, [.ref (o + 1), .ref (o + 4), .ref (o + 5), .int (nI (d_n X)), .int e])) H1) : d_W D cA N o (d_setE X e) H1 :=
  ⟨hO, h.2.1.kept (fun q a b => h1.2 q (by omega)), h.2.2.1.k1 h1 (show o + 4 ≠ o by omega), h.2.2.2.1.k1 h1 (show o + 5 ≠ o by omega), fun l hl => (h.2.2.2.2 l hl).kept (fun q a b => h1.2 q (by omega))⟩
theorem q_con_d {X : d_T} {u : Int32} {own : Bool} {l : Nat} (hl : l < 6) (h : q_den X l = true) (h0 : ∀ k, k < l → q_den X k = false) : q_con X u own = (-1, l) := by
  have e : (List.range 6).find? (q_den X) = some l := by
    rw [List.find?_range_eq_some]
    exact ⟨h, List.mem_range.mpr hl, fun k hk => by rw [h0 k hk]; rfl⟩
  unfold q_con
  rw [e]
theorem q_con_n {X : d_T} {u : Int32} {own : Bool} (h0 : ∀ k, k < 6 → q_den X k = false) : q_con X u own = if q_bar X 0 then (0, 0) else if q_bar X 1 then (0, 1) else if own && q_nam X u then (1, 5) else q_gr X own := by
  have e : (List.range 6).find? (q_den X) = none := by
    rw [List.find?_eq_none]
    intro k hk
    rw [h0 k (List.mem_range.mp hk)]
    decide
  unfold q_con
  rw [e]
theorem q_con_b {X : d_T} {u : Int32} {own : Bool} {l : Nat} (hn : ∀ k, k < 6 → q_den X k = false) (hl : l < 2) (h : q_bar X l = true) (h0 : ∀ k, k < l → q_bar X k = false) : q_con X u own = (0, l) := by
  rw [q_con_n hn]
  rcases (show l = 0 ∨ l = 1 by omega) with rfl | rfl
  · rw [if_pos h]
  · rw [if_neg (by rw [h0 0 (by omega)]; decide), if_pos h]
theorem q_con_g {X : d_T} {u : Int32} {own : Bool} (hn : ∀ k, k < 6 → q_den X k = false) (h0 : ∀ k, k < 2 → q_bar X k = false) : q_con X u own = if own && q_nam X u then (1, 5) else q_gr X own := by
  rw [q_con_n hn, if_neg (by rw [h0 0 (by omega)]; decide), if_neg (by rw [h0 1 (by omega)]; decide)]
/-- the layers as judged for a request -/
def z_jud (X : d_T) (hv : Nat → Bool) (u : Int32) (ac th : Int64) : d_T := d_setJ X (fun l => l_j (fun k => s_s (d_c X) (d_r X) hv u ac th (d_s X l k)) (d_k X l))
def q_dg (k : Int32) : Bool := decide (0 ≤ k ∧ k ≤ 9)
def q_who (a u : Int32) : Int32 := 100 + 10 * a + u
def q_dec (X : d_T) (hv : Nat → Bool) (a u : Int32) (ac th : Int64) (ow : Int32) : Int32 := if q_dg a && q_dg u && q_dg ow then (q_con (z_jud X hv (q_who a u) ac th) (q_who a u) (decide (ow = a))).1 else -2
def z_dec (X : d_T) (hv : Nat → Bool) (a u : Int32) (ac th : Int64) (ow : Int32) : d_T := if q_dg a && q_dg u && q_dg ow then d_setE (z_jud X hv (q_who a u) ac th) (nI (q_con (z_jud X hv (q_who a u) ac th) (q_who a u) (decide (ow = a))).2) else X
def d_lok (X : d_T) : Prop := ∀ l, l < 6 → d_k X l ≤ 6 ∧ d_j X l < 64 ∧ ∀ k, k < 6 → (d_s X l k).1 < 16
