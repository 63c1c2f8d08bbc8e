/-! the model made -/
def m_0 : m_T := (0, 0, -1, 0, fun _ _ => 0, fun _ _ => 0)
def m_P (D : va_G) (cA : Nat → ClassId) (m n : Nat) (H : Heap) : Prop := ∀ i, 1 ≤ i → i ≤ n → va_at D x_cl (m + i, m_c cA i (fun _ => 0) (fun _ => 0)) H
theorem m_P.step {D : va_G} {cA : Nat → ClassId} {m n : Nat} {H H1 H2 : Heap} (h : m_P D cA m n H) (hn : x_n H H1) (hg : va_at D x_cl (m + (n + 1), m_c cA (n + 1) (fun _ => 0) (fun _ => 0)) H1) (ho : x_1 m H1 H2) : m_P D cA m (n + 1) H2 := by
  intro i h1 h2
  by_cases e : i = n + 1
  · subst e; exact hg.k1 ho (show m + (n + 1) ≠ m by omega)
  · exact ((h i h1 (by omega)).kn hn).k1 ho (show m + i ≠ m by omega)
theorem m_P.put {D : va_G} {cA : Nat → ClassId} {m n : Nat} {H H1 : Heap} (h : m_P D cA m n H) (ho : x_1 m H H1) : m_P D cA m n H1 := fun i h1 h2 => (h i h1 h2).k1 ho (show m + i ≠ m by omega)
/-- a cut: what is behind is told again from what is said there -/
theorem x_cutG {p : Program} {l : Launch} {e : Env} {R : Room} {s : State} {m : MethodId} {args : Array Value} {below : List Frame} {meth : Method} {c : Code} {H : Heap} {locs : List Loc} {cells slots : Nat} {Q : State → Prop} {g : JFrame} (pc : Nat) (J : Array Slot → Heap → List Loc → Nat → Nat → Prop) (k : ∀ (ls : Array Slot) (H : Heap) (locs : List Loc) (cells slots : Nat), J ls H locs cells slots → W p l e R s m args below meth c H locs cells slots Q (F0 m pc ls []))
    (kk : (∀ (ls : Array Slot) (H : Heap) (locs : List Loc) (cells slots : Nat), J ls H locs cells slots → W p l e R s m args below meth c H locs cells slots Q (F0 m pc ls [])) → W p l e R s m args below meth c H locs cells slots Q g) : W p l e R s m args below meth c H locs cells slots Q g := kk k
set_option maxHeartbeats 4000000 in
set_option maxRecDepth 100000 in
theorem c_M_init (l : Launch) (D : va_G) (cA : Nat → ClassId) (m : Nat) : Met l y_M_init [.code y_M_init b_M_init 1 none] (x_rm 1 20 4446) (x_P D cA [.ref m] (fun H => H.size = m + 1 ∧ va_at D x_cl (m, .inr (6, [.null, .null, .int 0, .null, .null, .null, .null, .null, .null, .null, .null, .int 0, .null, .null, .null, .null, .null, .null, .null, .null, .int 0, .null, .int 0, .null])) H)) (x_Q (none) (fun H H1 => H1.size = m + 21 ∧ m_W D cA m m_0 H1 ∧ x_lo m H H1)) 20 4446 (x_up m) := by
  refine x_met (own := "DecisionLayersModel") (by decide) rfl (Nat.le_of_ble_eq_true rfl) ?_
  intro pp ee s mm below mt cd ls hx hb hr hlk hnm hml hown hts hE hP hl
  have hl : lv_has ls 1 [(0, .ref m)] := hl
  obtain ⟨hs, hO⟩ := hP
  have hF : ∀ q ∈ ([] : List Loc), x_up m q.base := t_nil
  have hp : m_P D cA m 0 s.heap := fun i h1 h2 => by omega
  have hx0 := x_lo.rf (a := m) (H := s.heap)
  refine lv_aload_n hx hb d_M_init_0 rfl (lv_at hl 0 rfl) ?_
  refine W.objInit hx hb hown (hts _ w_2_153) (hts _ w_1_18) (hts _ w_1_19) rfl (by rw [hml]; exact hl.1) rfl d_M_init_1 (Nat.le_of_ble_eq_true rfl) (Nat.le_of_ble_eq_true rfl) ?_
  refine W.eq (g2 := F0 mm 4 ls []) rfl ?_
  refine x_cutG 20 (fun ls H locs cells slots => lv_has ls 1 [(0, .ref m)] ∧ H.size = m + 3 ∧ va_at D x_cl (m, .inr (6, [.ref (m + 1), .ref (m + 2), .int 0, .null, .null, .null, .null, .null, .null, .null, .null, .int 0, .null, .null, .null, .null, .null, .null, .null, .null, .int 0, .null, .int 0, .null])) H ∧ m_P D cA m 2 H ∧ x_lo m s.heap H ∧ (∀ q ∈ locs, x_up m q.base) ∧ cells = 2 ∧ slots = 40) ?_ (fun hj => ?_)
  · intro ls H locs cells slots hj
    obtain ⟨hl, hs, hO, hp, hx0, hF, rfl, rfl⟩ := hj
    refine x_cutG 38 (fun ls H locs cells slots => lv_has ls 1 [(0, .ref m)] ∧ H.size = m + 5 ∧ va_at D x_cl (m, .inr (6, [.ref (m + 1), .ref (m + 2), .int 0, .ref (m + 3), .ref (m + 4), .null, .null, .null, .null, .null, .null, .int 0, .null, .null, .null, .null, .null, .null, .null, .null, .int 0, .null, .int 0, .null])) H ∧ m_P D cA m 4 H ∧ x_lo m s.heap H ∧ (∀ q ∈ locs, x_up m q.base) ∧ cells = 4 ∧ slots = 1080) ?_ (fun hj => ?_)
    · intro ls H locs cells slots hj
      obtain ⟨hl, hs, hO, hp, hx0, hF, rfl, rfl⟩ := hj
      refine x_cutG 56 (fun ls H locs cells slots => lv_has ls 1 [(0, .ref m)] ∧ H.size = m + 7 ∧ va_at D x_cl (m, .inr (6, [.ref (m + 1), .ref (m + 2), .int 0, .ref (m + 3), .ref (m + 4), .ref (m + 5), .ref (m + 6), .null, .null, .null, .null, .int 0, .null, .null, .null, .null, .null, .null, .null, .null, .int 0, .null, .int 0, .null])) H ∧ m_P D cA m 6 H ∧ x_lo m s.heap H ∧ (∀ q ∈ locs, x_up m q.base) ∧ cells = 6 ∧ slots = 2120) ?_ (fun hj => ?_)
      · intro ls H locs cells slots hj
        obtain ⟨hl, hs, hO, hp, hx0, hF, rfl, rfl⟩ := hj
        refine x_cutG 74 (fun ls H locs cells slots => lv_has ls 1 [(0, .ref m)] ∧ H.size = m + 9 ∧ va_at D x_cl (m, .inr (6, [.ref (m + 1), .ref (m + 2), .int 0, .ref (m + 3), .ref (m + 4), .ref (m + 5), .ref (m + 6), .ref (m + 7), .ref (m + 8), .null, .null, .int 0, .null, .null, .null, .null, .null, .null, .null, .null, .int 0, .null, .int 0, .null])) H ∧ m_P D cA m 8 H ∧ x_lo m s.heap H ∧ (∀ q ∈ locs, x_up m q.base) ∧ cells = 8 ∧ slots = 3160) ?_ (fun hj => ?_)
        · intro ls H locs cells slots hj
          obtain ⟨hl, hs, hO, hp, hx0, hF, rfl, rfl⟩ := hj
          refine x_cutG 92 (fun ls H locs cells slots => lv_has ls 1 [(0, .ref m)] ∧ H.size = m + 11 ∧ va_at D x_cl (m, .inr (6, [.ref (m + 1), .ref (m + 2), .int 0, .ref (m + 3), .ref (m + 4), .ref (m + 5), .ref (m + 6), .ref (m + 7), .ref (m + 8), .ref (m + 9), .ref (m + 10), .int 0, .null, .null, .null, .null, .null, .null, .null, .null, .int 0, .null, .int 0, .null])) H ∧ m_P D cA m 10 H ∧ x_lo m s.heap H ∧ (∀ q ∈ locs, x_up m q.base) ∧ cells = 10 ∧ slots = 4200) ?_ (fun hj => ?_)
          · intro ls H locs cells slots hj
            obtain ⟨hl, hs, hO, hp, hx0, hF, rfl, rfl⟩ := hj
            refine x_cutG 108 (fun ls H locs cells slots => lv_has ls 1 [(0, .ref m)] ∧ H.size = m + 13 ∧ va_at D x_cl (m, .inr (6, [.ref (m + 1), .ref (m + 2), .int 0, .ref (m + 3), .ref (m + 4), .ref (m + 5), .ref (m + 6), .ref (m + 7), .ref (m + 8), .ref (m + 9), .ref (m + 10), .int 0, .ref (m + 11), .ref (m + 12), .null, .null, .null, .null, .null, .null, .int 0, .null, .int 0, .null])) H ∧ m_P D cA m 12 H ∧ x_lo m s.heap H ∧ (∀ q ∈ locs, x_up m q.base) ∧ cells = 12 ∧ slots = 4214) ?_ (fun hj => ?_)
            · intro ls H locs cells slots hj
              obtain ⟨hl, hs, hO, hp, hx0, hF, rfl, rfl⟩ := hj
              refine x_cutG 124 (fun ls H locs cells slots => lv_has ls 1 [(0, .ref m)] ∧ H.size = m + 15 ∧ va_at D x_cl (m, .inr (6, [.ref (m + 1), .ref (m + 2), .int 0, .ref (m + 3), .ref (m + 4), .ref (m + 5), .ref (m + 6), .ref (m + 7), .ref (m + 8), .ref (m + 9), .ref (m + 10), .int 0, .ref (m + 11), .ref (m + 12), .ref (m + 13), .ref (m + 14), .null, .null, .null, .null, .int 0, .null, .int 0, .null])) H ∧ m_P D cA m 14 H ∧ x_lo m s.heap H ∧ (∀ q ∈ locs, x_up m q.base) ∧ cells = 14 ∧ slots = 4256) ?_ (fun hj => ?_)
              · intro ls H locs cells slots hj
                obtain ⟨hl, hs, hO, hp, hx0, hF, rfl, rfl⟩ := hj
                refine x_cutG 140 (fun ls H locs cells slots => lv_has ls 1 [(0, .ref m)] ∧ H.size = m + 17 ∧ va_at D x_cl (m, .inr (6, [.ref (m + 1), .ref (m + 2), .int 0, .ref (m + 3), .ref (m + 4), .ref (m + 5), .ref (m + 6), .ref (m + 7), .ref (m + 8), .ref (m + 9), .ref (m + 10), .int 0, .ref (m + 11), .ref (m + 12), .ref (m + 13), .ref (m + 14), .ref (m + 15), .ref (m + 16), .null, .null, .int 0, .null, .int 0, .null])) H ∧ m_P D cA m 16 H ∧ x_lo m s.heap H ∧ (∀ q ∈ locs, x_up m q.base) ∧ cells = 16 ∧ slots = 4328) ?_ (fun hj => ?_)
                · intro ls H locs cells slots hj
                  obtain ⟨hl, hs, hO, hp, hx0, hF, rfl, rfl⟩ := hj
                  refine x_cutG 156 (fun ls H locs cells slots => lv_has ls 1 [(0, .ref m)] ∧ H.size = m + 19 ∧ va_at D x_cl (m, .inr (6, [.ref (m + 1), .ref (m + 2), .int 0, .ref (m + 3), .ref (m + 4), .ref (m + 5), .ref (m + 6), .ref (m + 7), .ref (m + 8), .ref (m + 9), .ref (m + 10), .int 0, .ref (m + 11), .ref (m + 12), .ref (m + 13), .ref (m + 14), .ref (m + 15), .ref (m + 16), .ref (m + 17), .ref (m + 18), .int 0, .null, .int 0, .null])) H ∧ m_P D cA m 18 H ∧ x_lo m s.heap H ∧ (∀ q ∈ locs, x_up m q.base) ∧ cells = 18 ∧ slots = 4400) ?_ (fun hj => ?_)
                  · intro ls H locs cells slots hj
                    obtain ⟨hl, hs, hO, hp, hx0, hF, rfl, rfl⟩ := hj
                    refine lv_aload_n hx hb d_M_init_156 rfl (lv_at hl 0 rfl) ?_
                    refine lv_iconst (v := (-1)) hx hb d_M_init_157 (by decide) ?_
                    refine fp_M_67_M hx hb hown hts hE hO rfl rfl (Nat.le_of_ble_eq_true rfl) d_M_init_158 (fun H99 k99 g99 o99 => ?_)
                    have hF := t_lc (a := m) (i := k99) hF (x_up_in (Nat.le_refl _))
                    have hO : va_at D x_cl (m, .inr (6, [.ref (m + 1), .ref (m + 2), .int 0, .ref (m + 3), .ref (m + 4), .ref (m + 5), .ref (m + 6), .ref (m + 7), .ref (m + 8), .ref (m + 9), .ref (m + 10), .int 0, .ref (m + 11), .ref (m + 12), .ref (m + 13), .ref (m + 14), .ref (m + 15), .ref (m + 16), .ref (m + 17), .ref (m + 18), .int (-1), .null, .int 0, .null])) H99 := g99
                    have hp := hp.put o99
                    have hx0 := hx0.o o99 (Nat.le_refl _)
                    have hs : H99.size = m + 19 := by rw [o99.1, hs]
                    refine lv_aload_n hx hb d_M_init_161 rfl (lv_at hl 0 rfl) ?_
                    refine lv_bipush (v := 6) hx hb d_M_init_162 (by decide) ?_
                    refine x_newa (atype := .int) (a0 := (6, .inl (fun _ => 0))) (ty := .int) hx hb (hts _ w_1_34) rfl hE.2.2 0 rfl (fun _ => rfl) (by decide) (by decide) (by decide) (show 19 ≤ 20 by decide) (show 4406 ≤ 4446 by decide) d_M_init_164 (fun H19a g19a n19a => ?_)
                    rw [hs] at g19a ⊢
                    have hs : H19a.size = m + 20 := by rw [n19a.1, hs]
                    have hO := hO.kn n19a
                    have hx0 := hx0.n n19a (by omega)
                    refine fp_M_71_M hx hb hown hts hE hnm hO rfl rfl (Nat.le_of_ble_eq_true rfl) d_M_init_166 (fun H19b k19b g19b o19b => ?_)
                    have hF := t_lc (a := m) (i := k19b) hF (x_up_in (Nat.le_refl _))
                    have hO : va_at D x_cl (m, .inr (6, [.ref (m + 1), .ref (m + 2), .int 0, .ref (m + 3), .ref (m + 4), .ref (m + 5), .ref (m + 6), .ref (m + 7), .ref (m + 8), .ref (m + 9), .ref (m + 10), .int 0, .ref (m + 11), .ref (m + 12), .ref (m + 13), .ref (m + 14), .ref (m + 15), .ref (m + 16), .ref (m + 17), .ref (m + 18), .int (-1), .ref (m + 19), .int 0, .null])) H19b := g19b
                    have hp := hp.step n19a g19a o19b
                    have hs : H19b.size = m + 20 := by rw [o19b.1, hs]
                    have hx0 := hx0.o o19b (Nat.le_refl _)
                    refine lv_aload_n hx hb d_M_init_169 rfl (lv_at hl 0 rfl) ?_
                    refine lv_bipush (v := 40) hx hb d_M_init_170 (by decide) ?_
                    refine x_newa (atype := .int) (a0 := (40, .inl (fun _ => 0))) (ty := .int) hx hb (hts _ w_1_34) rfl hE.2.2 0 rfl (fun _ => rfl) (by decide) (by decide) (by decide) (show 20 ≤ 20 by decide) (show 4446 ≤ 4446 by decide) d_M_init_172 (fun H20a g20a n20a => ?_)
                    rw [hs] at g20a ⊢
                    have hs : H20a.size = m + 21 := by rw [n20a.1, hs]
                    have hO := hO.kn n20a
                    have hx0 := hx0.n n20a (by omega)
                    refine fp_M_74_M hx hb hown hts hE hnm hO rfl rfl (Nat.le_of_ble_eq_true rfl) d_M_init_174 (fun H20b k20b g20b o20b => ?_)
                    have hF := t_lc (a := m) (i := k20b) hF (x_up_in (Nat.le_refl _))
                    have hO : va_at D x_cl (m, .inr (6, [.ref (m + 1), .ref (m + 2), .int 0, .ref (m + 3), .ref (m + 4), .ref (m + 5), .ref (m + 6), .ref (m + 7), .ref (m + 8), .ref (m + 9), .ref (m + 10), .int 0, .ref (m + 11), .ref (m + 12), .ref (m + 13), .ref (m + 14), .ref (m + 15), .ref (m + 16), .ref (m + 17), .ref (m + 18), .int (-1), .ref (m + 19), .int 0, .ref (m + 20)])) H20b := g20b
                    have hp := hp.step n20a g20a o20b
                    have hs : H20b.size = m + 21 := by rw [o20b.1, hs]
                    have hx0 := hx0.o o20b (Nat.le_refl _)
                    exact W.vret hx hb hr (fun t9 ht _ => ⟨rfl, by rw [ht]; exact ⟨hs, ⟨hO, hp⟩, hx0⟩⟩) hF d_M_init_177
                  · refine lv_aload_n hx hb d_M_init_140 rfl (lv_at hl 0 rfl) ?_
                    refine lv_bipush (v := 36) hx hb d_M_init_141 (by decide) ?_
                    refine x_newa (atype := .int) (a0 := (36, .inl (fun _ => 0))) (ty := .int) hx hb (hts _ w_1_34) rfl hE.2.2 0 rfl (fun _ => rfl) (by decide) (by decide) (by decide) (show 17 ≤ 20 by decide) (show 4364 ≤ 4446 by decide) d_M_init_143 (fun H17a g17a n17a => ?_)
                    rw [hs] at g17a ⊢
                    have hs : H17a.size = m + 18 := by rw [n17a.1, hs]
                    have hO := hO.kn n17a
                    have hx0 := hx0.n n17a (by omega)
                    refine fp_M_61_M hx hb hown hts hE hnm hO rfl rfl (Nat.le_of_ble_eq_true rfl) d_M_init_145 (fun H17b k17b g17b o17b => ?_)
                    have hF := t_lc (a := m) (i := k17b) hF (x_up_in (Nat.le_refl _))
                    have hO : va_at D x_cl (m, .inr (6, [.ref (m + 1), .ref (m + 2), .int 0, .ref (m + 3), .ref (m + 4), .ref (m + 5), .ref (m + 6), .ref (m + 7), .ref (m + 8), .ref (m + 9), .ref (m + 10), .int 0, .ref (m + 11), .ref (m + 12), .ref (m + 13), .ref (m + 14), .ref (m + 15), .ref (m + 16), .ref (m + 17), .null, .int 0, .null, .int 0, .null])) H17b := g17b
                    have hp := hp.step n17a g17a o17b
                    have hs : H17b.size = m + 18 := by rw [o17b.1, hs]
                    have hx0 := hx0.o o17b (Nat.le_refl _)
                    refine lv_aload_n hx hb d_M_init_148 rfl (lv_at hl 0 rfl) ?_
                    refine lv_bipush (v := 36) hx hb d_M_init_149 (by decide) ?_
                    refine x_newa (atype := .int) (a0 := (36, .inl (fun _ => 0))) (ty := .int) hx hb (hts _ w_1_34) rfl hE.2.2 0 rfl (fun _ => rfl) (by decide) (by decide) (by decide) (show 18 ≤ 20 by decide) (show 4400 ≤ 4446 by decide) d_M_init_151 (fun H18a g18a n18a => ?_)
                    rw [hs] at g18a ⊢
                    have hs : H18a.size = m + 19 := by rw [n18a.1, hs]
                    have hO := hO.kn n18a
                    have hx0 := hx0.n n18a (by omega)
                    refine fp_M_64_M hx hb hown hts hE hnm hO rfl rfl (Nat.le_of_ble_eq_true rfl) d_M_init_153 (fun H18b k18b g18b o18b => ?_)
                    have hF := t_lc (a := m) (i := k18b) hF (x_up_in (Nat.le_refl _))
                    have hO : va_at D x_cl (m, .inr (6, [.ref (m + 1), .ref (m + 2), .int 0, .ref (m + 3), .ref (m + 4), .ref (m + 5), .ref (m + 6), .ref (m + 7), .ref (m + 8), .ref (m + 9), .ref (m + 10), .int 0, .ref (m + 11), .ref (m + 12), .ref (m + 13), .ref (m + 14), .ref (m + 15), .ref (m + 16), .ref (m + 17), .ref (m + 18), .int 0, .null, .int 0, .null])) H18b := g18b
                    have hp := hp.step n18a g18a o18b
                    have hs : H18b.size = m + 19 := by rw [o18b.1, hs]
                    have hx0 := hx0.o o18b (Nat.le_refl _)
                    exact hj _ _ _ _ _ ⟨(lv_sub hl [0] rfl), hs, hO, hp, hx0, hF, rfl, rfl⟩
                · refine lv_aload_n hx hb d_M_init_124 rfl (lv_at hl 0 rfl) ?_
                  refine lv_bipush (v := 36) hx hb d_M_init_125 (by decide) ?_
                  refine x_newa (atype := .long) (a0 := (36, .inr (.inl (fun _ => 0)))) (ty := .long) hx hb (hts _ w_1_33) rfl hE.2.2 1 rfl (fun _ => rfl) (by decide) (by decide) (by decide) (show 15 ≤ 20 by decide) (show 4292 ≤ 4446 by decide) d_M_init_127 (fun H15a g15a n15a => ?_)
                  rw [hs] at g15a ⊢
                  have hs : H15a.size = m + 16 := by rw [n15a.1, hs]
                  have hO := hO.kn n15a
                  have hx0 := hx0.n n15a (by omega)
                  refine fp_M_55_M hx hb hown hts hE hnm hO rfl rfl (Nat.le_of_ble_eq_true rfl) d_M_init_129 (fun H15b k15b g15b o15b => ?_)
                  have hF := t_lc (a := m) (i := k15b) hF (x_up_in (Nat.le_refl _))
                  have hO : va_at D x_cl (m, .inr (6, [.ref (m + 1), .ref (m + 2), .int 0, .ref (m + 3), .ref (m + 4), .ref (m + 5), .ref (m + 6), .ref (m + 7), .ref (m + 8), .ref (m + 9), .ref (m + 10), .int 0, .ref (m + 11), .ref (m + 12), .ref (m + 13), .ref (m + 14), .ref (m + 15), .null, .null, .null, .int 0, .null, .int 0, .null])) H15b := g15b
                  have hp := hp.step n15a g15a o15b
                  have hs : H15b.size = m + 16 := by rw [o15b.1, hs]
                  have hx0 := hx0.o o15b (Nat.le_refl _)
                  refine lv_aload_n hx hb d_M_init_132 rfl (lv_at hl 0 rfl) ?_
                  refine lv_bipush (v := 36) hx hb d_M_init_133 (by decide) ?_
                  refine x_newa (atype := .long) (a0 := (36, .inr (.inl (fun _ => 0)))) (ty := .long) hx hb (hts _ w_1_33) rfl hE.2.2 1 rfl (fun _ => rfl) (by decide) (by decide) (by decide) (show 16 ≤ 20 by decide) (show 4328 ≤ 4446 by decide) d_M_init_135 (fun H16a g16a n16a => ?_)
                  rw [hs] at g16a ⊢
                  have hs : H16a.size = m + 17 := by rw [n16a.1, hs]
                  have hO := hO.kn n16a
                  have hx0 := hx0.n n16a (by omega)
                  refine fp_M_58_M hx hb hown hts hE hnm hO rfl rfl (Nat.le_of_ble_eq_true rfl) d_M_init_137 (fun H16b k16b g16b o16b => ?_)
                  have hF := t_lc (a := m) (i := k16b) hF (x_up_in (Nat.le_refl _))
                  have hO : va_at D x_cl (m, .inr (6, [.ref (m + 1), .ref (m + 2), .int 0, .ref (m + 3), .ref (m + 4), .ref (m + 5), .ref (m + 6), .ref (m + 7), .ref (m + 8), .ref (m + 9), .ref (m + 10), .int 0, .ref (m + 11), .ref (m + 12), .ref (m + 13), .ref (m + 14), .ref (m + 15), .ref (m + 16), .null, .null, .int 0, .null, .int 0, .null])) H16b := g16b
                  have hp := hp.step n16a g16a o16b
                  have hs : H16b.size = m + 17 := by rw [o16b.1, hs]
                  have hx0 := hx0.o o16b (Nat.le_refl _)
                  exact hj _ _ _ _ _ ⟨(lv_sub hl [0] rfl), hs, hO, hp, hx0, hF, rfl, rfl⟩
              · refine lv_aload_n hx hb d_M_init_108 rfl (lv_at hl 0 rfl) ?_
                refine lv_bipush (v := 6) hx hb d_M_init_109 (by decide) ?_
                refine x_newa (atype := .int) (a0 := (6, .inl (fun _ => 0))) (ty := .int) hx hb (hts _ w_1_34) rfl hE.2.2 0 rfl (fun _ => rfl) (by decide) (by decide) (by decide) (show 13 ≤ 20 by decide) (show 4220 ≤ 4446 by decide) d_M_init_111 (fun H13a g13a n13a => ?_)
                rw [hs] at g13a ⊢
                have hs : H13a.size = m + 14 := by rw [n13a.1, hs]
                have hO := hO.kn n13a
                have hx0 := hx0.n n13a (by omega)
                refine fp_M_49_M hx hb hown hts hE hnm hO rfl rfl (Nat.le_of_ble_eq_true rfl) d_M_init_113 (fun H13b k13b g13b o13b => ?_)
                have hF := t_lc (a := m) (i := k13b) hF (x_up_in (Nat.le_refl _))
                have hO : va_at D x_cl (m, .inr (6, [.ref (m + 1), .ref (m + 2), .int 0, .ref (m + 3), .ref (m + 4), .ref (m + 5), .ref (m + 6), .ref (m + 7), .ref (m + 8), .ref (m + 9), .ref (m + 10), .int 0, .ref (m + 11), .ref (m + 12), .ref (m + 13), .null, .null, .null, .null, .null, .int 0, .null, .int 0, .null])) H13b := g13b
                have hp := hp.step n13a g13a o13b
                have hs : H13b.size = m + 14 := by rw [o13b.1, hs]
                have hx0 := hx0.o o13b (Nat.le_refl _)
                refine lv_aload_n hx hb d_M_init_116 rfl (lv_at hl 0 rfl) ?_
                refine lv_bipush (v := 36) hx hb d_M_init_117 (by decide) ?_
                refine x_newa (atype := .int) (a0 := (36, .inl (fun _ => 0))) (ty := .int) hx hb (hts _ w_1_34) rfl hE.2.2 0 rfl (fun _ => rfl) (by decide) (by decide) (by decide) (show 14 ≤ 20 by decide) (show 4256 ≤ 4446 by decide) d_M_init_119 (fun H14a g14a n14a => ?_)
                rw [hs] at g14a ⊢
                have hs : H14a.size = m + 15 := by rw [n14a.1, hs]
                have hO := hO.kn n14a
                have hx0 := hx0.n n14a (by omega)
                refine fp_M_52_M hx hb hown hts hE hnm hO rfl rfl (Nat.le_of_ble_eq_true rfl) d_M_init_121 (fun H14b k14b g14b o14b => ?_)
                have hF := t_lc (a := m) (i := k14b) hF (x_up_in (Nat.le_refl _))
                have hO : va_at D x_cl (m, .inr (6, [.ref (m + 1), .ref (m + 2), .int 0, .ref (m + 3), .ref (m + 4), .ref (m + 5), .ref (m + 6), .ref (m + 7), .ref (m + 8), .ref (m + 9), .ref (m + 10), .int 0, .ref (m + 11), .ref (m + 12), .ref (m + 13), .ref (m + 14), .null, .null, .null, .null, .int 0, .null, .int 0, .null])) H14b := g14b
                have hp := hp.step n14a g14a o14b
                have hs : H14b.size = m + 15 := by rw [o14b.1, hs]
                have hx0 := hx0.o o14b (Nat.le_refl _)
                exact hj _ _ _ _ _ ⟨(lv_sub hl [0] rfl), hs, hO, hp, hx0, hF, rfl, rfl⟩
            · refine lv_aload_n hx hb d_M_init_92 rfl (lv_at hl 0 rfl) ?_
              refine lv_bipush (v := 8) hx hb d_M_init_93 (by decide) ?_
              refine x_newa (atype := .int) (a0 := (8, .inl (fun _ => 0))) (ty := .int) hx hb (hts _ w_1_34) rfl hE.2.2 0 rfl (fun _ => rfl) (by decide) (by decide) (by decide) (show 11 ≤ 20 by decide) (show 4208 ≤ 4446 by decide) d_M_init_95 (fun H11a g11a n11a => ?_)
              rw [hs] at g11a ⊢
              have hs : H11a.size = m + 12 := by rw [n11a.1, hs]
              have hO := hO.kn n11a
              have hx0 := hx0.n n11a (by omega)
              refine fp_M_43_M hx hb hown hts hE hnm hO rfl rfl (Nat.le_of_ble_eq_true rfl) d_M_init_97 (fun H11b k11b g11b o11b => ?_)
              have hF := t_lc (a := m) (i := k11b) hF (x_up_in (Nat.le_refl _))
              have hO : va_at D x_cl (m, .inr (6, [.ref (m + 1), .ref (m + 2), .int 0, .ref (m + 3), .ref (m + 4), .ref (m + 5), .ref (m + 6), .ref (m + 7), .ref (m + 8), .ref (m + 9), .ref (m + 10), .int 0, .ref (m + 11), .null, .null, .null, .null, .null, .null, .null, .int 0, .null, .int 0, .null])) H11b := g11b
              have hp := hp.step n11a g11a o11b
              have hs : H11b.size = m + 12 := by rw [o11b.1, hs]
              have hx0 := hx0.o o11b (Nat.le_refl _)
              refine lv_aload_n hx hb d_M_init_100 rfl (lv_at hl 0 rfl) ?_
              refine lv_bipush (v := 6) hx hb d_M_init_101 (by decide) ?_
              refine x_newa (atype := .boolean) (a0 := (6, .inl (fun _ => 0))) (ty := .boolean) hx hb (hts _ w_2_228) rfl hE.2.2 3 rfl (fun _ => rfl) (by decide) (by decide) (by decide) (show 12 ≤ 20 by decide) (show 4214 ≤ 4446 by decide) d_M_init_103 (fun H12a g12a n12a => ?_)
              rw [hs] at g12a ⊢
              have hs : H12a.size = m + 13 := by rw [n12a.1, hs]
              have hO := hO.kn n12a
              have hx0 := hx0.n n12a (by omega)
              refine fp_M_46_M hx hb hown hts hE hnm hO rfl rfl (Nat.le_of_ble_eq_true rfl) d_M_init_105 (fun H12b k12b g12b o12b => ?_)
              have hF := t_lc (a := m) (i := k12b) hF (x_up_in (Nat.le_refl _))
              have hO : va_at D x_cl (m, .inr (6, [.ref (m + 1), .ref (m + 2), .int 0, .ref (m + 3), .ref (m + 4), .ref (m + 5), .ref (m + 6), .ref (m + 7), .ref (m + 8), .ref (m + 9), .ref (m + 10), .int 0, .ref (m + 11), .ref (m + 12), .null, .null, .null, .null, .null, .null, .int 0, .null, .int 0, .null])) H12b := g12b
              have hp := hp.step n12a g12a o12b
              have hs : H12b.size = m + 13 := by rw [o12b.1, hs]
              have hx0 := hx0.o o12b (Nat.le_refl _)
              exact hj _ _ _ _ _ ⟨(lv_sub hl [0] rfl), hs, hO, hp, hx0, hF, rfl, rfl⟩
          · refine lv_aload_n hx hb d_M_init_74 rfl (lv_at hl 0 rfl) ?_
            refine lv_sipush (v := 520) hx hb d_M_init_75 (by decide) ?_
            refine x_newa (atype := .int) (a0 := (520, .inl (fun _ => 0))) (ty := .int) hx hb (hts _ w_1_34) rfl hE.2.2 0 rfl (fun _ => rfl) (by decide) (by decide) (by decide) (show 9 ≤ 20 by decide) (show 3680 ≤ 4446 by decide) d_M_init_78 (fun H9a g9a n9a => ?_)
            rw [hs] at g9a ⊢
            have hs : H9a.size = m + 10 := by rw [n9a.1, hs]
            have hO := hO.kn n9a
            have hx0 := hx0.n n9a (by omega)
            refine fp_M_36_M hx hb hown hts hE hnm hO rfl rfl (Nat.le_of_ble_eq_true rfl) d_M_init_80 (fun H9b k9b g9b o9b => ?_)
            have hF := t_lc (a := m) (i := k9b) hF (x_up_in (Nat.le_refl _))
            have hO : va_at D x_cl (m, .inr (6, [.ref (m + 1), .ref (m + 2), .int 0, .ref (m + 3), .ref (m + 4), .ref (m + 5), .ref (m + 6), .ref (m + 7), .ref (m + 8), .ref (m + 9), .null, .int 0, .null, .null, .null, .null, .null, .null, .null, .null, .int 0, .null, .int 0, .null])) H9b := g9b
            have hp := hp.step n9a g9a o9b
            have hs : H9b.size = m + 10 := by rw [o9b.1, hs]
            have hx0 := hx0.o o9b (Nat.le_refl _)
            refine lv_aload_n hx hb d_M_init_83 rfl (lv_at hl 0 rfl) ?_
            refine lv_sipush (v := 520) hx hb d_M_init_84 (by decide) ?_
            refine x_newa (atype := .boolean) (a0 := (520, .inl (fun _ => 0))) (ty := .boolean) hx hb (hts _ w_2_228) rfl hE.2.2 3 rfl (fun _ => rfl) (by decide) (by decide) (by decide) (show 10 ≤ 20 by decide) (show 4200 ≤ 4446 by decide) d_M_init_87 (fun H10a g10a n10a => ?_)
            rw [hs] at g10a ⊢
            have hs : H10a.size = m + 11 := by rw [n10a.1, hs]
            have hO := hO.kn n10a
            have hx0 := hx0.n n10a (by omega)
            refine fp_M_39_M hx hb hown hts hE hnm hO rfl rfl (Nat.le_of_ble_eq_true rfl) d_M_init_89 (fun H10b k10b g10b o10b => ?_)
            have hF := t_lc (a := m) (i := k10b) hF (x_up_in (Nat.le_refl _))
            have hO : va_at D x_cl (m, .inr (6, [.ref (m + 1), .ref (m + 2), .int 0, .ref (m + 3), .ref (m + 4), .ref (m + 5), .ref (m + 6), .ref (m + 7), .ref (m + 8), .ref (m + 9), .ref (m + 10), .int 0, .null, .null, .null, .null, .null, .null, .null, .null, .int 0, .null, .int 0, .null])) H10b := g10b
            have hp := hp.step n10a g10a o10b
            have hs : H10b.size = m + 11 := by rw [o10b.1, hs]
            have hx0 := hx0.o o10b (Nat.le_refl _)
            exact hj _ _ _ _ _ ⟨(lv_sub hl [0] rfl), hs, hO, hp, hx0, hF, rfl, rfl⟩
        · refine lv_aload_n hx hb d_M_init_56 rfl (lv_at hl 0 rfl) ?_
          refine lv_sipush (v := 520) hx hb d_M_init_57 (by decide) ?_
          refine x_newa (atype := .byte) (a0 := (520, .inl (fun _ => 0))) (ty := .byte) hx hb (hts _ w_2_227) rfl hE.2.2 2 rfl (fun _ => rfl) (by decide) (by decide) (by decide) (show 7 ≤ 20 by decide) (show 2640 ≤ 4446 by decide) d_M_init_60 (fun H7a g7a n7a => ?_)
          rw [hs] at g7a ⊢
          have hs : H7a.size = m + 8 := by rw [n7a.1, hs]
          have hO := hO.kn n7a
          have hx0 := hx0.n n7a (by omega)
          refine fp_M_30_M hx hb hown hts hE hnm hO rfl rfl (Nat.le_of_ble_eq_true rfl) d_M_init_62 (fun H7b k7b g7b o7b => ?_)
          have hF := t_lc (a := m) (i := k7b) hF (x_up_in (Nat.le_refl _))
          have hO : va_at D x_cl (m, .inr (6, [.ref (m + 1), .ref (m + 2), .int 0, .ref (m + 3), .ref (m + 4), .ref (m + 5), .ref (m + 6), .ref (m + 7), .null, .null, .null, .int 0, .null, .null, .null, .null, .null, .null, .null, .null, .int 0, .null, .int 0, .null])) H7b := g7b
          have hp := hp.step n7a g7a o7b
          have hs : H7b.size = m + 8 := by rw [o7b.1, hs]
          have hx0 := hx0.o o7b (Nat.le_refl _)
          refine lv_aload_n hx hb d_M_init_65 rfl (lv_at hl 0 rfl) ?_
          refine lv_sipush (v := 520) hx hb d_M_init_66 (by decide) ?_
          refine x_newa (atype := .long) (a0 := (520, .inr (.inl (fun _ => 0)))) (ty := .long) hx hb (hts _ w_1_33) rfl hE.2.2 1 rfl (fun _ => rfl) (by decide) (by decide) (by decide) (show 8 ≤ 20 by decide) (show 3160 ≤ 4446 by decide) d_M_init_69 (fun H8a g8a n8a => ?_)
          rw [hs] at g8a ⊢
          have hs : H8a.size = m + 9 := by rw [n8a.1, hs]
          have hO := hO.kn n8a
          have hx0 := hx0.n n8a (by omega)
          refine fp_M_33_M hx hb hown hts hE hnm hO rfl rfl (Nat.le_of_ble_eq_true rfl) d_M_init_71 (fun H8b k8b g8b o8b => ?_)
          have hF := t_lc (a := m) (i := k8b) hF (x_up_in (Nat.le_refl _))
          have hO : va_at D x_cl (m, .inr (6, [.ref (m + 1), .ref (m + 2), .int 0, .ref (m + 3), .ref (m + 4), .ref (m + 5), .ref (m + 6), .ref (m + 7), .ref (m + 8), .null, .null, .int 0, .null, .null, .null, .null, .null, .null, .null, .null, .int 0, .null, .int 0, .null])) H8b := g8b
          have hp := hp.step n8a g8a o8b
          have hs : H8b.size = m + 9 := by rw [o8b.1, hs]
          have hx0 := hx0.o o8b (Nat.le_refl _)
          exact hj _ _ _ _ _ ⟨(lv_sub hl [0] rfl), hs, hO, hp, hx0, hF, rfl, rfl⟩
      · refine lv_aload_n hx hb d_M_init_38 rfl (lv_at hl 0 rfl) ?_
        refine lv_sipush (v := 520) hx hb d_M_init_39 (by decide) ?_
        refine x_newa (atype := .byte) (a0 := (520, .inl (fun _ => 0))) (ty := .byte) hx hb (hts _ w_2_227) rfl hE.2.2 2 rfl (fun _ => rfl) (by decide) (by decide) (by decide) (show 5 ≤ 20 by decide) (show 1600 ≤ 4446 by decide) d_M_init_42 (fun H5a g5a n5a => ?_)
        rw [hs] at g5a ⊢
        have hs : H5a.size = m + 6 := by rw [n5a.1, hs]
        have hO := hO.kn n5a
        have hx0 := hx0.n n5a (by omega)
        refine fp_M_24_M hx hb hown hts hE hnm hO rfl rfl (Nat.le_of_ble_eq_true rfl) d_M_init_44 (fun H5b k5b g5b o5b => ?_)
        have hF := t_lc (a := m) (i := k5b) hF (x_up_in (Nat.le_refl _))
        have hO : va_at D x_cl (m, .inr (6, [.ref (m + 1), .ref (m + 2), .int 0, .ref (m + 3), .ref (m + 4), .ref (m + 5), .null, .null, .null, .null, .null, .int 0, .null, .null, .null, .null, .null, .null, .null, .null, .int 0, .null, .int 0, .null])) H5b := g5b
        have hp := hp.step n5a g5a o5b
        have hs : H5b.size = m + 6 := by rw [o5b.1, hs]
        have hx0 := hx0.o o5b (Nat.le_refl _)
        refine lv_aload_n hx hb d_M_init_47 rfl (lv_at hl 0 rfl) ?_
        refine lv_sipush (v := 520) hx hb d_M_init_48 (by decide) ?_
        refine x_newa (atype := .byte) (a0 := (520, .inl (fun _ => 0))) (ty := .byte) hx hb (hts _ w_2_227) rfl hE.2.2 2 rfl (fun _ => rfl) (by decide) (by decide) (by decide) (show 6 ≤ 20 by decide) (show 2120 ≤ 4446 by decide) d_M_init_51 (fun H6a g6a n6a => ?_)
        rw [hs] at g6a ⊢
        have hs : H6a.size = m + 7 := by rw [n6a.1, hs]
        have hO := hO.kn n6a
        have hx0 := hx0.n n6a (by omega)
        refine fp_M_27_M hx hb hown hts hE hnm hO rfl rfl (Nat.le_of_ble_eq_true rfl) d_M_init_53 (fun H6b k6b g6b o6b => ?_)
        have hF := t_lc (a := m) (i := k6b) hF (x_up_in (Nat.le_refl _))
        have hO : va_at D x_cl (m, .inr (6, [.ref (m + 1), .ref (m + 2), .int 0, .ref (m + 3), .ref (m + 4), .ref (m + 5), .ref (m + 6), .null, .null, .null, .null, .int 0, .null, .null, .null, .null, .null, .null, .null, .null, .int 0, .null, .int 0, .null])) H6b := g6b
        have hp := hp.step n6a g6a o6b
        have hs : H6b.size = m + 7 := by rw [o6b.1, hs]
        have hx0 := hx0.o o6b (Nat.le_refl _)
        exact hj _ _ _ _ _ ⟨(lv_sub hl [0] rfl), hs, hO, hp, hx0, hF, rfl, rfl⟩
    · refine lv_aload_n hx hb d_M_init_20 rfl (lv_at hl 0 rfl) ?_
      refine lv_sipush (v := 520) hx hb d_M_init_21 (by decide) ?_
      refine x_newa (atype := .byte) (a0 := (520, .inl (fun _ => 0))) (ty := .byte) hx hb (hts _ w_2_227) rfl hE.2.2 2 rfl (fun _ => rfl) (by decide) (by decide) (by decide) (show 3 ≤ 20 by decide) (show 560 ≤ 4446 by decide) d_M_init_24 (fun H3a g3a n3a => ?_)
      rw [hs] at g3a ⊢
      have hs : H3a.size = m + 4 := by rw [n3a.1, hs]
      have hO := hO.kn n3a
      have hx0 := hx0.n n3a (by omega)
      refine fp_M_17_M hx hb hown hts hE hnm hO rfl rfl (Nat.le_of_ble_eq_true rfl) d_M_init_26 (fun H3b k3b g3b o3b => ?_)
      have hF := t_lc (a := m) (i := k3b) hF (x_up_in (Nat.le_refl _))
      have hO : va_at D x_cl (m, .inr (6, [.ref (m + 1), .ref (m + 2), .int 0, .ref (m + 3), .null, .null, .null, .null, .null, .null, .null, .int 0, .null, .null, .null, .null, .null, .null, .null, .null, .int 0, .null, .int 0, .null])) H3b := g3b
      have hp := hp.step n3a g3a o3b
      have hs : H3b.size = m + 4 := by rw [o3b.1, hs]
      have hx0 := hx0.o o3b (Nat.le_refl _)
      refine lv_aload_n hx hb d_M_init_29 rfl (lv_at hl 0 rfl) ?_
      refine lv_sipush (v := 520) hx hb d_M_init_30 (by decide) ?_
      refine x_newa (atype := .byte) (a0 := (520, .inl (fun _ => 0))) (ty := .byte) hx hb (hts _ w_2_227) rfl hE.2.2 2 rfl (fun _ => rfl) (by decide) (by decide) (by decide) (show 4 ≤ 20 by decide) (show 1080 ≤ 4446 by decide) d_M_init_33 (fun H4a g4a n4a => ?_)
      rw [hs] at g4a ⊢
      have hs : H4a.size = m + 5 := by rw [n4a.1, hs]
      have hO := hO.kn n4a
      have hx0 := hx0.n n4a (by omega)
      refine fp_M_21_M hx hb hown hts hE hnm hO rfl rfl (Nat.le_of_ble_eq_true rfl) d_M_init_35 (fun H4b k4b g4b o4b => ?_)
      have hF := t_lc (a := m) (i := k4b) hF (x_up_in (Nat.le_refl _))
      have hO : va_at D x_cl (m, .inr (6, [.ref (m + 1), .ref (m + 2), .int 0, .ref (m + 3), .ref (m + 4), .null, .null, .null, .null, .null, .null, .int 0, .null, .null, .null, .null, .null, .null, .null, .null, .int 0, .null, .int 0, .null])) H4b := g4b
      have hp := hp.step n4a g4a o4b
      have hs : H4b.size = m + 5 := by rw [o4b.1, hs]
      have hx0 := hx0.o o4b (Nat.le_refl _)
      exact hj _ _ _ _ _ ⟨(lv_sub hl [0] rfl), hs, hO, hp, hx0, hF, rfl, rfl⟩
  · refine lv_aload_n hx hb d_M_init_4 rfl (lv_at hl 0 rfl) ?_
    refine lv_bipush (v := 8) hx hb d_M_init_5 (by decide) ?_
    refine x_newa (atype := .int) (a0 := (8, .inl (fun _ => 0))) (ty := .int) hx hb (hts _ w_1_34) rfl hE.2.2 0 rfl (fun _ => rfl) (by decide) (by decide) (by decide) (show 1 ≤ 20 by decide) (show 8 ≤ 4446 by decide) d_M_init_7 (fun H1a g1a n1a => ?_)
    rw [hs] at g1a ⊢
    have hs : H1a.size = m + 2 := by rw [n1a.1, hs]
    have hO := hO.kn n1a
    have hx0 := hx0.n n1a (by omega)
    refine fp_M_7_M hx hb hown hts hE hnm hO rfl rfl (Nat.le_of_ble_eq_true rfl) d_M_init_9 (fun H1b k1b g1b o1b => ?_)
    have hF := t_lc (a := m) (i := k1b) hF (x_up_in (Nat.le_refl _))
    have hO : va_at D x_cl (m, .inr (6, [.ref (m + 1), .null, .int 0, .null, .null, .null, .null, .null, .null, .null, .null, .int 0, .null, .null, .null, .null, .null, .null, .null, .null, .int 0, .null, .int 0, .null])) H1b := g1b
    have hp := hp.step n1a g1a o1b
    have hs : H1b.size = m + 2 := by rw [o1b.1, hs]
    have hx0 := hx0.o o1b (Nat.le_refl _)
    refine lv_aload_n hx hb d_M_init_12 rfl (lv_at hl 0 rfl) ?_
    refine lv_bipush (v := 32) hx hb d_M_init_13 (by decide) ?_
    refine x_newa (atype := .long) (a0 := (32, .inr (.inl (fun _ => 0)))) (ty := .long) hx hb (hts _ w_1_33) rfl hE.2.2 1 rfl (fun _ => rfl) (by decide) (by decide) (by decide) (show 2 ≤ 20 by decide) (show 40 ≤ 4446 by decide) d_M_init_15 (fun H2a g2a n2a => ?_)
    rw [hs] at g2a ⊢
    have hs : H2a.size = m + 3 := by rw [n2a.1, hs]
    have hO := hO.kn n2a
    have hx0 := hx0.n n2a (by omega)
    refine fp_M_13_M hx hb hown hts hE hnm hO rfl rfl (Nat.le_of_ble_eq_true rfl) d_M_init_17 (fun H2b k2b g2b o2b => ?_)
    have hF := t_lc (a := m) (i := k2b) hF (x_up_in (Nat.le_refl _))
    have hO : va_at D x_cl (m, .inr (6, [.ref (m + 1), .ref (m + 2), .int 0, .null, .null, .null, .null, .null, .null, .null, .null, .int 0, .null, .null, .null, .null, .null, .null, .null, .null, .int 0, .null, .int 0, .null])) H2b := g2b
    have hp := hp.step n2a g2a o2b
    have hs : H2b.size = m + 3 := by rw [o2b.1, hs]
    have hx0 := hx0.o o2b (Nat.le_refl _)
    exact hj _ _ _ _ _ ⟨(lv_sub hl [0] rfl), hs, hO, hp, hx0, hF, rfl, rfl⟩
