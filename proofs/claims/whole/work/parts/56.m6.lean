/-! the model's conditions against the table -/
def m_N (made : Nat) (N : n_T) (Y : m_T) : Prop := ∀ i, i < made → m_i Y 3 i = nI (n_kd N i) ∧ (n_kd N i = 3 → m_i Y 4 i = nI (n_op N i) ∧ m_i Y 5 i = nI (n_ky N i) ∧ m_i Y 6 i = nI (n_mk N i) ∧ m_l Y 8 i = n_tt N i) ∧ m_i Y 7 i = nI (n_dp N i) ∧ (m_i Y 9 i = -1 ∨ ∃ p, i < p ∧ p < made ∧ n_kd N p ≠ 3 ∧ m_i Y 9 i = nI p) ∧ (n_kd N i ≠ 3 → ∀ c, c < made → (c ∈ n_ch N i ↔ m_i Y 9 c = nI i)) ∧ (n_kd N i = 2 → ∃ x, n_ch N i = [x])
/-- what the model holds of i once the conditions under c are done -/
def n_pa (N : n_T) (hv : Nat → Bool) (c i : Nat) : Bool := if n_kd N i = 0 then (n_ch N i).all (fun x => !decide (x < c) || hv x) else if n_kd N i = 1 then (n_ch N i).any (fun x => decide (x < c) && hv x) else if n_kd N i = 2 then (n_ch N i).any (fun x => decide (x < c) && !hv x) else false
theorem n_pa_0 {N : n_T} {hv : Nat → Bool} {i : Nat} : n_pa N hv 0 i = decide (n_kd N i = 0) := by
  unfold n_pa
  by_cases h0 : n_kd N i = 0
  · rw [if_pos h0, decide_eq_true h0]; simp
  · rw [if_neg h0, decide_eq_false h0]
    by_cases h1 : n_kd N i = 1
    · rw [if_pos h1]; simp
    · rw [if_neg h1]
      by_cases h2 : n_kd N i = 2
      · rw [if_pos h2]; simp
      · rw [if_neg h2]
theorem n_pa_out {N : n_T} {hv : Nat → Bool} {c i : Nat} (h : c ∉ n_ch N i) : n_pa N hv (c + 1) i = n_pa N hv c i := by
  have e : ∀ x, x ∈ n_ch N i → decide (x < c + 1) = decide (x < c) := fun x hx => decide_eq_decide.mpr ⟨fun z => by have : x ≠ c := fun q => h (by rw [← q]; exact hx); omega, fun z => by omega⟩
  unfold n_pa
  rw [show (n_ch N i).all (fun x => !decide (x < c + 1) || hv x) = (n_ch N i).all (fun x => !decide (x < c) || hv x) from by
      rw [Bool.eq_iff_iff, List.all_eq_true, List.all_eq_true]; exact ⟨fun z x hx => by have := z x hx; rw [e x hx] at this; exact this, fun z x hx => by rw [e x hx]; exact z x hx⟩,
    show (n_ch N i).any (fun x => decide (x < c + 1) && hv x) = (n_ch N i).any (fun x => decide (x < c) && hv x) from by
      rw [Bool.eq_iff_iff, List.any_eq_true, List.any_eq_true]; exact ⟨fun ⟨x, hx, z⟩ => ⟨x, hx, by rw [e x hx] at z; exact z⟩, fun ⟨x, hx, z⟩ => ⟨x, hx, by rw [e x hx]; exact z⟩⟩,
    show (n_ch N i).any (fun x => decide (x < c + 1) && !hv x) = (n_ch N i).any (fun x => decide (x < c) && !hv x) from by
      rw [Bool.eq_iff_iff, List.any_eq_true, List.any_eq_true]; exact ⟨fun ⟨x, hx, z⟩ => ⟨x, hx, by rw [e x hx] at z; exact z⟩, fun ⟨x, hx, z⟩ => ⟨x, hx, by rw [e x hx]; exact z⟩⟩]
theorem n_pa_all {N : n_T} {hv : Nat → Bool} {c i : Nat} (h : c ∈ n_ch N i) (h0 : n_kd N i = 0) : n_pa N hv (c + 1) i = (n_pa N hv c i && hv c) := by
  unfold n_pa
  rw [if_pos h0, if_pos h0, Bool.eq_iff_iff, Bool.and_eq_true, List.all_eq_true, List.all_eq_true]
  constructor
  · intro z
    refine ⟨fun x hx => ?_, ?_⟩
    · have := z x hx
      by_cases hc : x < c
      · rw [decide_eq_true (show x < c + 1 by omega)] at this; rw [decide_eq_true hc]; exact this
      · rw [decide_eq_false hc]; rfl
    · have := z c h
      rw [decide_eq_true (show c < c + 1 by omega)] at this; exact this
  · rintro ⟨z, y⟩ x hx
    by_cases e : x = c
    · rw [e, y]; simp
    · have := z x hx
      by_cases hc : x < c
      · rw [decide_eq_true hc] at this; rw [decide_eq_true (show x < c + 1 by omega)]; exact this
      · rw [decide_eq_false (show ¬ x < c + 1 by omega)]; rfl
theorem n_pa_any {N : n_T} {hv : Nat → Bool} {c i : Nat} (h : c ∈ n_ch N i) (h1 : n_kd N i = 1) : n_pa N hv (c + 1) i = (n_pa N hv c i || hv c) := by
  unfold n_pa
  rw [if_neg (by omega), if_pos h1, if_neg (by omega), if_pos h1, Bool.eq_iff_iff, Bool.or_eq_true, List.any_eq_true, List.any_eq_true]
  constructor
  · rintro ⟨x, hx, z⟩
    rw [Bool.and_eq_true, decide_eq_true_iff] at z
    by_cases e : x = c
    · exact Or.inr (by rw [← e]; exact z.2)
    · exact Or.inl ⟨x, hx, by rw [Bool.and_eq_true, decide_eq_true_iff]; exact ⟨by omega, z.2⟩⟩
  · rintro (⟨x, hx, z⟩ | z)
    · rw [Bool.and_eq_true, decide_eq_true_iff] at z
      exact ⟨x, hx, by rw [Bool.and_eq_true, decide_eq_true_iff]; exact ⟨by omega, z.2⟩⟩
    · exact ⟨c, h, by rw [Bool.and_eq_true, decide_eq_true_iff]; exact ⟨by omega, z⟩⟩
theorem n_pa_not {N : n_T} {hv : Nat → Bool} {c i : Nat} (h : n_ch N i = [c]) (h2 : n_kd N i = 2) : n_pa N hv (c + 1) i = !hv c := by
  unfold n_pa
  rw [if_neg (by omega), if_neg (by omega), if_pos h2, h]
  simp
/-- all parts done: that is whether it holds -/
theorem n_pa_end {N : n_T} {hv : Nat → Bool} {i : Nat} (hk : n_kd N i < 3) (hc : ∀ x ∈ n_ch N i, x < i) (h1 : n_kd N i = 2 → ∃ x, n_ch N i = [x]) : n_pa N hv i i = n_j hv (n_kd N i) (n_ch N i) := by
  unfold n_pa n_j
  by_cases h0 : n_kd N i = 0
  · rw [if_pos h0, if_pos h0, Bool.eq_iff_iff, List.all_eq_true, List.all_eq_true]
    exact ⟨fun z x hx => by have := z x hx; rw [decide_eq_true (hc x hx)] at this; exact this, fun z x hx => by rw [z x hx]; simp⟩
  · rw [if_neg h0, if_neg h0]
    by_cases h9 : n_kd N i = 1
    · rw [if_pos h9, if_pos h9, Bool.eq_iff_iff, List.any_eq_true, List.any_eq_true]
      exact ⟨fun ⟨x, hx, z⟩ => ⟨x, hx, by rw [decide_eq_true (hc x hx)] at z; exact z⟩, fun ⟨x, hx, z⟩ => ⟨x, hx, by rw [decide_eq_true (hc x hx), z]; rfl⟩⟩
    · rw [if_neg h9, if_neg h9]
      have h2 : n_kd N i = 2 := by omega
      obtain ⟨x, ex⟩ := h1 h2
      rw [if_pos h2]
      have hx := hc x (by rw [ex]; exact List.mem_singleton.mpr rfl)
      rw [ex]
      simp [hx]
/-- the model with another hold and other tokens -/
def m_h (Y : m_T) (h : Nat → Int32) (t : Nat) (f : Nat → Int32) : m_T := m_tk (m_sI Y 10 h) t f
theorem m_h_set (Y : m_T) (h g : Nat → Int32) (t : Nat) (f : Nat → Int32) : m_sI (m_h Y h t f) 10 g = m_h Y g t f := by
  have e : va_up (va_up (va_up (m_i Y) 10 h) 20 f) 10 g = va_up (va_up (m_i Y) 10 g) 20 f := by
    funext j
    by_cases h1 : j = 10
    · subst h1; simp [va_up]
    · by_cases h2 : j = 20
      · subst h2; simp [va_up]
      · simp [va_up, h1, h2]
  show (Y.1, Y.2.1, Y.2.2.1, t, va_up (va_up (va_up (m_i Y) 10 h) 20 f) 10 g, m_l Y) = _
  rw [e]; rfl
theorem m_h_self (Y : m_T) : m_h Y (m_i Y 10) (m_tn Y) (m_i Y 20) = Y := by
  have e : va_up (va_up (m_i Y) 10 (m_i Y 10)) 20 (m_i Y 20) = m_i Y := by
    funext j
    by_cases h2 : j = 20
    · subst h2; simp [va_up]
    · by_cases h1 : j = 10
      · subst h1; simp [va_up]
      · simp [va_up, h1, h2]
  show (Y.1, Y.2.1, Y.2.2.1, m_tn Y, va_up (va_up (m_i Y) 10 (m_i Y 10)) 20 (m_i Y 20), m_l Y) = Y
  rw [e]
theorem m_h_tk (Y : m_T) (h : Nat → Int32) (t u : Nat) (f g : Nat → Int32) : m_tk (m_h Y h t f) u g = m_h Y h u g := m_tk_tk _ _ _ _ _
def m_hA (m : Nat) : Addr → Prop := x_A [m, m + 10, m + 20]
theorem x_A3 {a b c q : Nat} : x_A [a, b, c] q ↔ q = a ∨ q = b ∨ q = c := by unfold x_A; simp
theorem m_hA_10 (m : Nat) : m_hA m (m + 10) := x_A3.mpr (Or.inr (Or.inl rfl))
theorem m_tA_h {m : Nat} (q : Nat) (h : m_tA m q) : m_hA m q := by rcases x_A2.mp h with e | e; exact x_A3.mpr (Or.inl e); exact x_A3.mpr (Or.inr (Or.inr e))
theorem m_hA_A {m q : Nat} (h : m_hA m q) : m_A m q := by have := x_A3.mp h; exact m_A_in (by omega) (by omega)
set_option maxHeartbeats 4000000 in
set_option maxRecDepth 100000 in
theorem c_M_settle (l : Launch) (D : va_G) (cA : Nat → ClassId) (m : Nat) (Y : m_T) (N : n_T) (hv : Nat → Bool) (hmd : m_md Y ≤ 512) (hok : n_ok (m_md Y) N) (hmN : m_N (m_md Y) N Y) (hvo : vl_ok (m_i Y 1)) (hVe : n_V (m_i Y 1) (m_l Y 2) (m_md Y) N hv) : Met l y_M_settle [.code y_M_settle b_M_settle 3 none] (x_rm 6 0 0) (x_P D cA [.ref m] (fun H => m_W D cA m Y H)) (x_Q (none) (fun H H1 => x_F (m_hA m) H H1 ∧ ∃ (h : Nat → Int32) (t : Nat) (f : Nat → Int32), m_W D cA m (m_h Y h t f) H1 ∧ ∀ i, i < m_md Y → h i = bI (hv i))) 0 0 (m_hA m) := by
  refine x_met (own := "DecisionLayersModel") (by decide) rfl (Nat.le_of_ble_eq_true rfl) ?_
  intro pp ee s mm below mt cd ls hx hb hr hlk hnm hml hown hts hE hP hl
  have hl : lv_has ls 3 [(0, .ref m)] := hl
  have hF : ∀ q ∈ ([] : List Loc), m_hA m q.base := t_nil
  refine lv_iconst (v := 0) hx hb d_M_settle_0 (by decide) ?_
  refine lv_istore_n (lv' := [(1, .int 0), (0, .ref m)]) hx hb d_M_settle_1 rfl hl (by decide) rfl (fun ls hl => ?_)
  refine x_loopH (I := fun r ls H locs => ∃ (c : Nat) (h : Nat → Int32) (t : Nat) (f : Nat → Int32), c + r = m_md Y ∧ (∀ i, i < c → h i = bI (decide (n_kd N i = 0))) ∧ lv_has ls 3 [(1, .int (nI c)), (0, .ref m)] ∧ m_W D cA m (m_h Y h t f) H ∧ x_F (m_hA m) s.heap H ∧ ∀ q ∈ locs, m_hA m q.base) (fun r ls H locs ih h => ?_) (m_md Y) ⟨0, m_i Y 10, m_tn Y, m_i Y 20, by omega, fun i hi => absurd hi (Nat.not_lt_zero i), (lv_sub hl [0, 1] rfl), by rw [m_h_self]; exact hP, x_F.rf, hF⟩
  obtain ⟨c, h, t, f, hcr, hh, hl, hW, hFr, hF⟩ := h
  refine lv_iload_n hx hb d_M_settle_2 rfl (lv_at hl 0 rfl) ?_
  refine lv_aload_n hx hb d_M_settle_3 rfl (lv_at hl 1 rfl) ?_
  refine fg_M_100_M hx hb hown hts hE hW.1 rfl d_M_settle_4 ?_
  refine x_topi (y := nI (m_md Y)) rfl ?_
  refine lv_icmp_ge (tgt := 36) hx hb d_M_settle_7 (by decide) (fun g1 => ?_) (fun g1 => ?_)
  · have g1 := n_ge g1 (by omega) (by omega)
    refine lv_iconst (v := 0) hx hb d_M_settle_36 (by decide) ?_
    refine lv_istore_n (lv' := [(1, .int 0), (0, .ref m)]) hx hb d_M_settle_37 rfl hl (by decide) rfl (fun ls hl => ?_)
    refine x_loopH (I := fun r2 ls H locs => ∃ (c : Nat) (h : Nat → Int32) (t : Nat) (f : Nat → Int32), c + r2 = m_md Y ∧ (∀ i, i < m_md Y → h i = bI (if i < c then hv i else n_pa N hv c i)) ∧ lv_has ls 3 [(1, .int (nI c)), (0, .ref m)] ∧ m_W D cA m (m_h Y h t f) H ∧ x_F (m_hA m) s.heap H ∧ ∀ q ∈ locs, m_hA m q.base) (fun r2 ls H locs ih2 h => ?_) (m_md Y) ⟨0, h, t, f, by omega, fun i hi => by rw [if_neg (by omega), n_pa_0]; exact hh i (by omega), (lv_sub hl [0, 1] rfl), hW, hFr, hF⟩
    obtain ⟨c, h, t, f, hcr, hh, hl, hW, hFr, hF⟩ := h
    refine lv_iload_n hx hb d_M_settle_38 rfl (lv_at hl 0 rfl) ?_
    refine lv_aload_n hx hb d_M_settle_39 rfl (lv_at hl 1 rfl) ?_
    refine fg_M_100_M hx hb hown hts hE hW.1 rfl d_M_settle_40 ?_
    refine x_topi (y := nI (m_md Y)) rfl ?_
    refine lv_icmp_ge (tgt := 187) hx hb d_M_settle_43 (by decide) (fun g2 => ?_) (fun g2 => ?_)
    · have g2 := n_ge g2 (by omega) (by omega)
      exact W.vret hx hb hr (fun t9 ht _ => ⟨rfl, by rw [ht]; exact ⟨hFr, h, t, f, hW, fun i hi => by rw [hh i hi, if_pos (by omega)]⟩⟩) hF d_M_settle_187
    · have g2 := n_lt g2 (by omega) (by omega)
      obtain ⟨hk0, hk3, -, hup, -⟩ := hmN c g2
      obtain ⟨hkd, -, -, hct, hcj⟩ := hok c g2
      refine x_joinH 67 (fun ls st H locs => ∃ (h : Nat → Int32) (t : Nat) (f : Nat → Int32), lv_has ls 3 [(1, .int (nI c)), (0, .ref m)] ∧ st = [] ∧ (∀ i, i < m_md Y → h i = bI (if i < c + 1 then hv i else n_pa N hv c i)) ∧ m_W D cA m (m_h Y h t f) H ∧ x_F (m_hA m) s.heap H ∧ ∀ q ∈ locs, m_hA m q.base) ?_ (fun hj => ?_)
      · intro ls st H locs hj
        obtain ⟨h, t, f, hl, rfl, hh, hW, hFr, hF⟩ := hj
        have hhc : h c = bI (hv c) := by rw [hh c g2, if_pos (by omega)]
        refine lv_aload_n hx hb d_M_settle_67 rfl (lv_at hl 1 rfl) ?_
        refine fg_M_36_M hx hb hown hts hE hW.1 rfl d_M_settle_68 ?_
        refine lv_iload_n hx hb d_M_settle_71 rfl (lv_at hl 0 rfl) ?_
        refine x_iald hx hb hE.2.2 (show va_at D x_cl (m + 9, .inl (cA 0, 520, .inl (m_i (m_h Y h t f) 9))) _ from hW.2 9 (by decide) (by decide)) 0 rfl (by omega) (by decide) d_M_settle_72 ?_
        refine x_topi (y := m_i Y 9 c) rfl ?_
        refine lv_istore_n (lv' := [(2, .int (m_i Y 9 c)), (1, .int (nI c)), (0, .ref m)]) hx hb d_M_settle_73 rfl hl (by decide) rfl (fun ls hl => ?_)
        refine lv_iload_n hx hb d_M_settle_74 rfl (lv_at hl 0 rfl) ?_
        refine lv_if_lt (tgt := 181) hx hb d_M_settle_75 (by decide) (fun u1 => ?_) (fun u1 => ?_)
        · have hno : ∀ i, i < m_md Y → n_kd N i ≠ 3 → c ∉ n_ch N i := fun i hi hk hc => by
            have h9 := ((hmN i hi).2.2.2.2.1 hk c g2).mp hc
            rw [h9] at u1; exact absurd u1 (nI_pos (by omega))
          refine lv_iinc (k := 1) (v := nI (c + 1)) (lv' := [(1, .int (nI (c + 1))), (2, .int (m_i Y 9 c)), (0, .ref m)]) hx hb d_M_settle_181 hl rfl (x_inc _) (by decide) rfl (fun ls hl => ?_)
          refine lv_goto (tgt := 38) hx hb d_M_settle_184 (by decide) ?_
          exact ih2 (r2 - 1) _ _ _ (by omega) ⟨c + 1, h, t, f, by omega, fun i hi => by
            rw [hh i hi]
            by_cases e : i < c + 1
            · rw [if_pos e, if_pos e]
            · rw [if_neg e, if_neg e]
              by_cases hk : n_kd N i = 3
              · unfold n_pa; rw [if_neg (by omega), if_neg (by omega), if_neg (by omega), if_neg (by omega), if_neg (by omega), if_neg (by omega)]
              · rw [n_pa_out (hno i hi hk)], (lv_sub hl [0, 2] rfl), hW, hFr, hF⟩
        · obtain ⟨pp9, hp1, hp2, hp3, hp9⟩ : ∃ p, c < p ∧ p < m_md Y ∧ n_kd N p ≠ 3 ∧ m_i Y 9 c = nI p := by
            rcases hup with z | z
            · rw [z] at u1; exact absurd (by decide) u1
            · exact z
          obtain ⟨hkp, -, -, -, hchp, honep⟩ := hmN pp9 hp2
          have hcin : c ∈ n_ch N pp9 := (hchp hp3 c g2).mpr hp9
          have hkp4 := (hok pp9 hp2).1
          have hno : ∀ i, i < m_md Y → i ≠ pp9 → n_kd N i ≠ 3 → c ∉ n_ch N i := fun i hi hne hk hc => hne ((nI_eq (by omega) (by omega)).mp ((((hmN i hi).2.2.2.2.1 hk c g2).mp hc).symm.trans hp9))
          have hhp : h pp9 = bI (n_pa N hv c pp9) := by rw [hh pp9 hp2, if_neg (by omega)]
          have hl : lv_has ls 3 [(2, .int (nI pp9)), (1, .int (nI c)), (0, .ref m)] := by have h9 := hl; rw [hp9] at h9; exact h9
          refine lv_aload_n hx hb d_M_settle_78 rfl (lv_at hl 2 rfl) ?_
          refine fg_M_17_M hx hb hown hts hE hW.1 rfl d_M_settle_79 ?_
          refine lv_iload_n hx hb d_M_settle_82 rfl (lv_at hl 0 rfl) ?_
          refine x_bald hx hb hE.2.2 (show va_at D x_cl (m + 3, .inl (cA 2, 520, .inl (m_i (m_h Y h t f) 3))) _ from hW.2 3 (by decide) (by decide)) 2 rfl (by omega) (by decide) d_M_settle_83 ?_
          refine x_topi (y := nI (n_kd N pp9)) hkp ?_
          refine lv_if_ne (tgt := 119) hx hb d_M_settle_84 (by decide) (fun q0 => ?_) (fun q0 => ?_)
          · have q0 : ¬ n_kd N pp9 = 0 := fun z => q0 (by rw [z]; rfl)
            refine lv_aload_n hx hb d_M_settle_119 rfl (lv_at hl 2 rfl) ?_
            refine fg_M_17_M hx hb hown hts hE hW.1 rfl d_M_settle_120 ?_
            refine lv_iload_n hx hb d_M_settle_123 rfl (lv_at hl 0 rfl) ?_
            refine x_bald hx hb hE.2.2 (show va_at D x_cl (m + 3, .inl (cA 2, 520, .inl (m_i (m_h Y h t f) 3))) _ from hW.2 3 (by decide) (by decide)) 2 rfl (by omega) (by decide) d_M_settle_124 ?_
            refine x_topi (y := nI (n_kd N pp9)) hkp ?_
            refine lv_iconst (v := 1) hx hb d_M_settle_125 (by decide) ?_
            refine lv_icmp_ne (tgt := 161) hx hb d_M_settle_126 (by decide) (fun q1 => ?_) (fun q1 => ?_)
            · have q1 : ¬ n_kd N pp9 = 1 := fun z => q1 (by rw [z]; rfl)
              have q2 : n_kd N pp9 = 2 := by omega
              have hone : n_ch N pp9 = [c] := by obtain ⟨x, ex⟩ := honep q2; rw [ex] at hcin ⊢; rw [List.mem_singleton.mp hcin]
              refine lv_aload_n hx hb d_M_settle_161 rfl (lv_at hl 2 rfl) ?_
              refine fg_M_39_M hx hb hown hts hE hW.1 rfl d_M_settle_162 ?_
              refine lv_iload_n hx hb d_M_settle_165 rfl (lv_at hl 0 rfl) ?_
              refine lv_aload_n hx hb d_M_settle_166 rfl (lv_at hl 2 rfl) ?_
              refine fg_M_39_M hx hb hown hts hE hW.1 rfl d_M_settle_167 ?_
              refine lv_iload_n hx hb d_M_settle_170 rfl (lv_at hl 1 rfl) ?_
              refine x_zald hx hb hE.2.2 (show va_at D x_cl (m + 10, .inl (cA 3, 520, .inl (m_i (m_h Y h t f) 10))) _ from hW.2 10 (by decide) (by decide)) 3 rfl (by omega) (by decide) d_M_settle_171 ?_
              refine x_topi (y := bI (hv c)) hhc ?_
              refine lv_if_ne (tgt := 179) hx hb d_M_settle_172 (by decide) (fun v1 => ?_) (fun v1 => ?_)
              · refine lv_iconst (v := 0) hx hb d_M_settle_179 (by decide) ?_
                refine x_topi (y := bI (!hv c)) (by rw [bI_n0.mp v1]; rfl) ?_
                refine x_zast hx hb hE.2.2 (show va_at D x_cl (m + 10, .inl (cA 3, 520, .inl (m_i (m_h Y h t f) 10))) _ from hW.2 10 (by decide) (by decide)) 3 rfl (by omega) (by decide) d_M_settle_180 (fun H5 k5 g5 o5 => ?_)
                have hF := t_lc (a := m + 10) (i := k5) hF (m_hA_10 m)
                have hW5 := hW.ai (i := 10) (by decide) o5 (f := upd (m_i (m_h Y h t f) 10) pp9 (bI (!hv c))) g5
                rw [m_h_set] at hW5
                refine lv_iinc (k := 1) (v := nI (c + 1)) (lv' := [(1, .int (nI (c + 1))), (2, .int (nI pp9)), (0, .ref m)]) hx hb d_M_settle_181 hl rfl (x_inc _) (by decide) rfl (fun ls hl => ?_)
                refine lv_goto (tgt := 38) hx hb d_M_settle_184 (by decide) ?_
                exact ih2 (r2 - 1) _ _ _ (by omega) ⟨c + 1, _, t, f, by omega, fun i hi => by
                  by_cases ep : i = pp9
                  · rw [ep, pk_us, if_neg (by omega), n_pa_not hone q2]
                  · rw [pk_un ep]; show h i = _; rw [hh i hi]
                    by_cases e : i < c + 1
                    · rw [if_pos e, if_pos e]
                    · rw [if_neg e, if_neg e]
                      by_cases hk : n_kd N i = 3
                      · unfold n_pa; rw [if_neg (by omega), if_neg (by omega), if_neg (by omega), if_neg (by omega), if_neg (by omega), if_neg (by omega)]
                      · rw [n_pa_out (hno i hi ep hk)], (lv_sub hl [0, 2] rfl), hW5, hFr.trans (x_F.of1 o5 (m_hA_10 m)), hF⟩
              · refine lv_iconst (v := 1) hx hb d_M_settle_175 (by decide) ?_
                refine lv_goto (tgt := 180) hx hb d_M_settle_176 (by decide) ?_
                refine x_topi (y := bI (!hv c)) (by rw [bI_0.mp v1]; rfl) ?_
                refine x_zast hx hb hE.2.2 (show va_at D x_cl (m + 10, .inl (cA 3, 520, .inl (m_i (m_h Y h t f) 10))) _ from hW.2 10 (by decide) (by decide)) 3 rfl (by omega) (by decide) d_M_settle_180 (fun H5 k5 g5 o5 => ?_)
                have hF := t_lc (a := m + 10) (i := k5) hF (m_hA_10 m)
                have hW5 := hW.ai (i := 10) (by decide) o5 (f := upd (m_i (m_h Y h t f) 10) pp9 (bI (!hv c))) g5
                rw [m_h_set] at hW5
                refine lv_iinc (k := 1) (v := nI (c + 1)) (lv' := [(1, .int (nI (c + 1))), (2, .int (nI pp9)), (0, .ref m)]) hx hb d_M_settle_181 hl rfl (x_inc _) (by decide) rfl (fun ls hl => ?_)
                refine lv_goto (tgt := 38) hx hb d_M_settle_184 (by decide) ?_
                exact ih2 (r2 - 1) _ _ _ (by omega) ⟨c + 1, _, t, f, by omega, fun i hi => by
                  by_cases ep : i = pp9
                  · rw [ep, pk_us, if_neg (by omega), n_pa_not hone q2]
                  · rw [pk_un ep]; show h i = _; rw [hh i hi]
                    by_cases e : i < c + 1
                    · rw [if_pos e, if_pos e]
                    · rw [if_neg e, if_neg e]
                      by_cases hk : n_kd N i = 3
                      · unfold n_pa; rw [if_neg (by omega), if_neg (by omega), if_neg (by omega), if_neg (by omega), if_neg (by omega), if_neg (by omega)]
                      · rw [n_pa_out (hno i hi ep hk)], (lv_sub hl [0, 2] rfl), hW5, hFr.trans (x_F.of1 o5 (m_hA_10 m)), hF⟩
            · have q1 : n_kd N pp9 = 1 := (nI_eq (by omega) (by decide) : nI (n_kd N pp9) = nI 1 ↔ _).mp q1
              refine lv_aload_n hx hb d_M_settle_129 rfl (lv_at hl 2 rfl) ?_
              refine fg_M_39_M hx hb hown hts hE hW.1 rfl d_M_settle_130 ?_
              refine lv_iload_n hx hb d_M_settle_133 rfl (lv_at hl 0 rfl) ?_
              refine lv_aload_n hx hb d_M_settle_134 rfl (lv_at hl 2 rfl) ?_
              refine fg_M_39_M hx hb hown hts hE hW.1 rfl d_M_settle_135 ?_
              refine lv_iload_n hx hb d_M_settle_138 rfl (lv_at hl 0 rfl) ?_
              refine x_zald hx hb hE.2.2 (show va_at D x_cl (m + 10, .inl (cA 3, 520, .inl (m_i (m_h Y h t f) 10))) _ from hW.2 10 (by decide) (by decide)) 3 rfl (by omega) (by decide) d_M_settle_139 ?_
              refine x_topi (y := bI (n_pa N hv c pp9)) hhp ?_
              refine lv_if_ne (tgt := 152) hx hb d_M_settle_140 (by decide) (fun v1 => ?_) (fun v1 => ?_)
              · refine lv_iconst (v := 1) hx hb d_M_settle_152 (by decide) ?_
                refine lv_goto (tgt := 157) hx hb d_M_settle_153 (by decide) ?_
                refine x_topi (y := bI (n_pa N hv c pp9 || hv c)) (by rw [bI_n0.mp v1]; rfl) ?_
                refine x_zast hx hb hE.2.2 (show va_at D x_cl (m + 10, .inl (cA 3, 520, .inl (m_i (m_h Y h t f) 10))) _ from hW.2 10 (by decide) (by decide)) 3 rfl (by omega) (by decide) d_M_settle_157 (fun H5 k5 g5 o5 => ?_)
                have hF := t_lc (a := m + 10) (i := k5) hF (m_hA_10 m)
                have hW5 := hW.ai (i := 10) (by decide) o5 (f := upd (m_i (m_h Y h t f) 10) pp9 (bI (n_pa N hv c pp9 || hv c))) g5
                rw [m_h_set] at hW5
                refine lv_goto (tgt := 181) hx hb d_M_settle_158 (by decide) ?_
                refine lv_iinc (k := 1) (v := nI (c + 1)) (lv' := [(1, .int (nI (c + 1))), (2, .int (nI pp9)), (0, .ref m)]) hx hb d_M_settle_181 hl rfl (x_inc _) (by decide) rfl (fun ls hl => ?_)
                refine lv_goto (tgt := 38) hx hb d_M_settle_184 (by decide) ?_
                exact ih2 (r2 - 1) _ _ _ (by omega) ⟨c + 1, _, t, f, by omega, fun i hi => by
                  by_cases ep : i = pp9
                  · rw [ep, pk_us, if_neg (by omega), n_pa_any hcin q1]
                  · rw [pk_un ep]; show h i = _; rw [hh i hi]
                    by_cases e : i < c + 1
                    · rw [if_pos e, if_pos e]
                    · rw [if_neg e, if_neg e]
                      by_cases hk : n_kd N i = 3
                      · unfold n_pa; rw [if_neg (by omega), if_neg (by omega), if_neg (by omega), if_neg (by omega), if_neg (by omega), if_neg (by omega)]
                      · rw [n_pa_out (hno i hi ep hk)], (lv_sub hl [0, 2] rfl), hW5, hFr.trans (x_F.of1 o5 (m_hA_10 m)), hF⟩
              · refine lv_aload_n hx hb d_M_settle_143 rfl (lv_at hl 2 rfl) ?_
                refine fg_M_39_M hx hb hown hts hE hW.1 rfl d_M_settle_144 ?_
                refine lv_iload_n hx hb d_M_settle_147 rfl (lv_at hl 1 rfl) ?_
                refine x_zald hx hb hE.2.2 (show va_at D x_cl (m + 10, .inl (cA 3, 520, .inl (m_i (m_h Y h t f) 10))) _ from hW.2 10 (by decide) (by decide)) 3 rfl (by omega) (by decide) d_M_settle_148 ?_
                refine x_topi (y := bI (hv c)) hhc ?_
                refine lv_if_eq (tgt := 156) hx hb d_M_settle_149 (by decide) (fun v2 => ?_) (fun v2 => ?_)
                · refine lv_iconst (v := 0) hx hb d_M_settle_156 (by decide) ?_
                  refine x_topi (y := bI (n_pa N hv c pp9 || hv c)) (by rw [bI_0.mp v1, bI_0.mp v2]; rfl) ?_
                  refine x_zast hx hb hE.2.2 (show va_at D x_cl (m + 10, .inl (cA 3, 520, .inl (m_i (m_h Y h t f) 10))) _ from hW.2 10 (by decide) (by decide)) 3 rfl (by omega) (by decide) d_M_settle_157 (fun H5 k5 g5 o5 => ?_)
                  have hF := t_lc (a := m + 10) (i := k5) hF (m_hA_10 m)
                  have hW5 := hW.ai (i := 10) (by decide) o5 (f := upd (m_i (m_h Y h t f) 10) pp9 (bI (n_pa N hv c pp9 || hv c))) g5
                  rw [m_h_set] at hW5
                  refine lv_goto (tgt := 181) hx hb d_M_settle_158 (by decide) ?_
                  refine lv_iinc (k := 1) (v := nI (c + 1)) (lv' := [(1, .int (nI (c + 1))), (2, .int (nI pp9)), (0, .ref m)]) hx hb d_M_settle_181 hl rfl (x_inc _) (by decide) rfl (fun ls hl => ?_)
                  refine lv_goto (tgt := 38) hx hb d_M_settle_184 (by decide) ?_
                  exact ih2 (r2 - 1) _ _ _ (by omega) ⟨c + 1, _, t, f, by omega, fun i hi => by
                    by_cases ep : i = pp9
                    · rw [ep, pk_us, if_neg (by omega), n_pa_any hcin q1]
                    · rw [pk_un ep]; show h i = _; rw [hh i hi]
                      by_cases e : i < c + 1
                      · rw [if_pos e, if_pos e]
                      · rw [if_neg e, if_neg e]
                        by_cases hk : n_kd N i = 3
                        · unfold n_pa; rw [if_neg (by omega), if_neg (by omega), if_neg (by omega), if_neg (by omega), if_neg (by omega), if_neg (by omega)]
                        · rw [n_pa_out (hno i hi ep hk)], (lv_sub hl [0, 2] rfl), hW5, hFr.trans (x_F.of1 o5 (m_hA_10 m)), hF⟩
                · refine lv_iconst (v := 1) hx hb d_M_settle_152 (by decide) ?_
                  refine lv_goto (tgt := 157) hx hb d_M_settle_153 (by decide) ?_
                  refine x_topi (y := bI (n_pa N hv c pp9 || hv c)) (by rw [bI_n0.mp v2]; simp [bI]) ?_
                  refine x_zast hx hb hE.2.2 (show va_at D x_cl (m + 10, .inl (cA 3, 520, .inl (m_i (m_h Y h t f) 10))) _ from hW.2 10 (by decide) (by decide)) 3 rfl (by omega) (by decide) d_M_settle_157 (fun H5 k5 g5 o5 => ?_)
                  have hF := t_lc (a := m + 10) (i := k5) hF (m_hA_10 m)
                  have hW5 := hW.ai (i := 10) (by decide) o5 (f := upd (m_i (m_h Y h t f) 10) pp9 (bI (n_pa N hv c pp9 || hv c))) g5
                  rw [m_h_set] at hW5
                  refine lv_goto (tgt := 181) hx hb d_M_settle_158 (by decide) ?_
                  refine lv_iinc (k := 1) (v := nI (c + 1)) (lv' := [(1, .int (nI (c + 1))), (2, .int (nI pp9)), (0, .ref m)]) hx hb d_M_settle_181 hl rfl (x_inc _) (by decide) rfl (fun ls hl => ?_)
                  refine lv_goto (tgt := 38) hx hb d_M_settle_184 (by decide) ?_
                  exact ih2 (r2 - 1) _ _ _ (by omega) ⟨c + 1, _, t, f, by omega, fun i hi => by
                    by_cases ep : i = pp9
                    · rw [ep, pk_us, if_neg (by omega), n_pa_any hcin q1]
                    · rw [pk_un ep]; show h i = _; rw [hh i hi]
                      by_cases e : i < c + 1
                      · rw [if_pos e, if_pos e]
                      · rw [if_neg e, if_neg e]
                        by_cases hk : n_kd N i = 3
                        · unfold n_pa; rw [if_neg (by omega), if_neg (by omega), if_neg (by omega), if_neg (by omega), if_neg (by omega), if_neg (by omega)]
                        · rw [n_pa_out (hno i hi ep hk)], (lv_sub hl [0, 2] rfl), hW5, hFr.trans (x_F.of1 o5 (m_hA_10 m)), hF⟩
          · have q0 : n_kd N pp9 = 0 := (nI_eq (by omega) (by decide) : nI (n_kd N pp9) = nI 0 ↔ _).mp q0
            refine lv_aload_n hx hb d_M_settle_87 rfl (lv_at hl 2 rfl) ?_
            refine fg_M_39_M hx hb hown hts hE hW.1 rfl d_M_settle_88 ?_
            refine lv_iload_n hx hb d_M_settle_91 rfl (lv_at hl 0 rfl) ?_
            refine lv_aload_n hx hb d_M_settle_92 rfl (lv_at hl 2 rfl) ?_
            refine fg_M_39_M hx hb hown hts hE hW.1 rfl d_M_settle_93 ?_
            refine lv_iload_n hx hb d_M_settle_96 rfl (lv_at hl 0 rfl) ?_
            refine x_zald hx hb hE.2.2 (show va_at D x_cl (m + 10, .inl (cA 3, 520, .inl (m_i (m_h Y h t f) 10))) _ from hW.2 10 (by decide) (by decide)) 3 rfl (by omega) (by decide) d_M_settle_97 ?_
            refine x_topi (y := bI (n_pa N hv c pp9)) hhp ?_
            refine lv_if_eq (tgt := 114) hx hb d_M_settle_98 (by decide) (fun v1 => ?_) (fun v1 => ?_)
            · refine lv_iconst (v := 0) hx hb d_M_settle_114 (by decide) ?_
              refine x_topi (y := bI (n_pa N hv c pp9 && hv c)) (by rw [bI_0.mp v1]; rfl) ?_
              refine x_zast hx hb hE.2.2 (show va_at D x_cl (m + 10, .inl (cA 3, 520, .inl (m_i (m_h Y h t f) 10))) _ from hW.2 10 (by decide) (by decide)) 3 rfl (by omega) (by decide) d_M_settle_115 (fun H5 k5 g5 o5 => ?_)
              have hF := t_lc (a := m + 10) (i := k5) hF (m_hA_10 m)
              have hW5 := hW.ai (i := 10) (by decide) o5 (f := upd (m_i (m_h Y h t f) 10) pp9 (bI (n_pa N hv c pp9 && hv c))) g5
              rw [m_h_set] at hW5
              refine lv_goto (tgt := 181) hx hb d_M_settle_116 (by decide) ?_
              refine lv_iinc (k := 1) (v := nI (c + 1)) (lv' := [(1, .int (nI (c + 1))), (2, .int (nI pp9)), (0, .ref m)]) hx hb d_M_settle_181 hl rfl (x_inc _) (by decide) rfl (fun ls hl => ?_)
              refine lv_goto (tgt := 38) hx hb d_M_settle_184 (by decide) ?_
              exact ih2 (r2 - 1) _ _ _ (by omega) ⟨c + 1, _, t, f, by omega, fun i hi => by
                by_cases ep : i = pp9
                · rw [ep, pk_us, if_neg (by omega), n_pa_all hcin q0]
                · rw [pk_un ep]; show h i = _; rw [hh i hi]
                  by_cases e : i < c + 1
                  · rw [if_pos e, if_pos e]
                  · rw [if_neg e, if_neg e]
                    by_cases hk : n_kd N i = 3
                    · unfold n_pa; rw [if_neg (by omega), if_neg (by omega), if_neg (by omega), if_neg (by omega), if_neg (by omega), if_neg (by omega)]
                    · rw [n_pa_out (hno i hi ep hk)], (lv_sub hl [0, 2] rfl), hW5, hFr.trans (x_F.of1 o5 (m_hA_10 m)), hF⟩
            · refine lv_aload_n hx hb d_M_settle_101 rfl (lv_at hl 2 rfl) ?_
              refine fg_M_39_M hx hb hown hts hE hW.1 rfl d_M_settle_102 ?_
              refine lv_iload_n hx hb d_M_settle_105 rfl (lv_at hl 1 rfl) ?_
              refine x_zald hx hb hE.2.2 (show va_at D x_cl (m + 10, .inl (cA 3, 520, .inl (m_i (m_h Y h t f) 10))) _ from hW.2 10 (by decide) (by decide)) 3 rfl (by omega) (by decide) d_M_settle_106 ?_
              refine x_topi (y := bI (hv c)) hhc ?_
              refine lv_if_eq (tgt := 114) hx hb d_M_settle_107 (by decide) (fun v2 => ?_) (fun v2 => ?_)
              · refine lv_iconst (v := 0) hx hb d_M_settle_114 (by decide) ?_
                refine x_topi (y := bI (n_pa N hv c pp9 && hv c)) (by rw [bI_0.mp v2]; simp [bI]) ?_
                refine x_zast hx hb hE.2.2 (show va_at D x_cl (m + 10, .inl (cA 3, 520, .inl (m_i (m_h Y h t f) 10))) _ from hW.2 10 (by decide) (by decide)) 3 rfl (by omega) (by decide) d_M_settle_115 (fun H5 k5 g5 o5 => ?_)
                have hF := t_lc (a := m + 10) (i := k5) hF (m_hA_10 m)
                have hW5 := hW.ai (i := 10) (by decide) o5 (f := upd (m_i (m_h Y h t f) 10) pp9 (bI (n_pa N hv c pp9 && hv c))) g5
                rw [m_h_set] at hW5
                refine lv_goto (tgt := 181) hx hb d_M_settle_116 (by decide) ?_
                refine lv_iinc (k := 1) (v := nI (c + 1)) (lv' := [(1, .int (nI (c + 1))), (2, .int (nI pp9)), (0, .ref m)]) hx hb d_M_settle_181 hl rfl (x_inc _) (by decide) rfl (fun ls hl => ?_)
                refine lv_goto (tgt := 38) hx hb d_M_settle_184 (by decide) ?_
                exact ih2 (r2 - 1) _ _ _ (by omega) ⟨c + 1, _, t, f, by omega, fun i hi => by
                  by_cases ep : i = pp9
                  · rw [ep, pk_us, if_neg (by omega), n_pa_all hcin q0]
                  · rw [pk_un ep]; show h i = _; rw [hh i hi]
                    by_cases e : i < c + 1
                    · rw [if_pos e, if_pos e]
                    · rw [if_neg e, if_neg e]
                      by_cases hk : n_kd N i = 3
                      · unfold n_pa; rw [if_neg (by omega), if_neg (by omega), if_neg (by omega), if_neg (by omega), if_neg (by omega), if_neg (by omega)]
                      · rw [n_pa_out (hno i hi ep hk)], (lv_sub hl [0, 2] rfl), hW5, hFr.trans (x_F.of1 o5 (m_hA_10 m)), hF⟩
              · refine lv_iconst (v := 1) hx hb d_M_settle_110 (by decide) ?_
                refine lv_goto (tgt := 115) hx hb d_M_settle_111 (by decide) ?_
                refine x_topi (y := bI (n_pa N hv c pp9 && hv c)) (by rw [bI_n0.mp v1, bI_n0.mp v2]; rfl) ?_
                refine x_zast hx hb hE.2.2 (show va_at D x_cl (m + 10, .inl (cA 3, 520, .inl (m_i (m_h Y h t f) 10))) _ from hW.2 10 (by decide) (by decide)) 3 rfl (by omega) (by decide) d_M_settle_115 (fun H5 k5 g5 o5 => ?_)
                have hF := t_lc (a := m + 10) (i := k5) hF (m_hA_10 m)
                have hW5 := hW.ai (i := 10) (by decide) o5 (f := upd (m_i (m_h Y h t f) 10) pp9 (bI (n_pa N hv c pp9 && hv c))) g5
                rw [m_h_set] at hW5
                refine lv_goto (tgt := 181) hx hb d_M_settle_116 (by decide) ?_
                refine lv_iinc (k := 1) (v := nI (c + 1)) (lv' := [(1, .int (nI (c + 1))), (2, .int (nI pp9)), (0, .ref m)]) hx hb d_M_settle_181 hl rfl (x_inc _) (by decide) rfl (fun ls hl => ?_)
                refine lv_goto (tgt := 38) hx hb d_M_settle_184 (by decide) ?_
                exact ih2 (r2 - 1) _ _ _ (by omega) ⟨c + 1, _, t, f, by omega, fun i hi => by
                  by_cases ep : i = pp9
                  · rw [ep, pk_us, if_neg (by omega), n_pa_all hcin q0]
                  · rw [pk_un ep]; show h i = _; rw [hh i hi]
                    by_cases e : i < c + 1
                    · rw [if_pos e, if_pos e]
                    · rw [if_neg e, if_neg e]
                      by_cases hk : n_kd N i = 3
                      · unfold n_pa; rw [if_neg (by omega), if_neg (by omega), if_neg (by omega), if_neg (by omega), if_neg (by omega), if_neg (by omega)]
                      · rw [n_pa_out (hno i hi ep hk)], (lv_sub hl [0, 2] rfl), hW5, hFr.trans (x_F.of1 o5 (m_hA_10 m)), hF⟩
      · refine lv_aload_n hx hb d_M_settle_46 rfl (lv_at hl 1 rfl) ?_
        refine fg_M_17_M hx hb hown hts hE hW.1 rfl d_M_settle_47 ?_
        refine lv_iload_n hx hb d_M_settle_50 rfl (lv_at hl 0 rfl) ?_
        refine x_bald hx hb hE.2.2 (show va_at D x_cl (m + 3, .inl (cA 2, 520, .inl (m_i (m_h Y h t f) 3))) _ from hW.2 3 (by decide) (by decide)) 2 rfl (by omega) (by decide) d_M_settle_51 ?_
        refine x_topi (y := nI (n_kd N c)) hk0 ?_
        refine lv_iconst (v := 3) hx hb d_M_settle_52 (by decide) ?_
        refine lv_icmp_ne (tgt := 67) hx hb d_M_settle_53 (by decide) (fun k3 => ?_) (fun k3 => ?_)
        · have k3 : ¬ n_kd N c = 3 := fun z => k3 (by rw [z]; rfl)
          have hcv : hv c = n_pa N hv c c := by rw [hVe c g2, if_neg k3, n_pa_end (by omega) (fun x hx => ((hcj k3).2 x hx).1) (hmN c g2).2.2.2.2.2]
          exact hj _ _ _ _ ⟨h, t, f, (lv_sub hl [0, 1] rfl), rfl, fun i hi => by
            rw [hh i hi]
            by_cases e : i = c
            · subst e; rw [if_neg (by omega), if_pos (by omega), hcv]
            · by_cases e2 : i < c
              · rw [if_pos e2, if_pos (by omega)]
              · rw [if_neg e2, if_neg (by omega)], hW, hFr, hF⟩
        · have k3 : n_kd N c = 3 := (nI_eq (by omega) (by decide) : nI (n_kd N c) = nI 3 ↔ _).mp k3
          obtain ⟨e4, e5, e6, e8⟩ := hk3 k3
          obtain ⟨o8, k8, m8⟩ := hct k3
          refine lv_aload_n hx hb d_M_settle_56 rfl (lv_at hl 1 rfl) ?_
          refine fg_M_39_M hx hb hown hts hE hW.1 rfl d_M_settle_57 ?_
          refine lv_iload_n hx hb d_M_settle_60 rfl (lv_at hl 0 rfl) ?_
          refine lv_aload_n hx hb d_M_settle_61 rfl (lv_at hl 1 rfl) ?_
          refine lv_iload_n hx hb d_M_settle_62 rfl (lv_at hl 0 rfl) ?_
          refine x_cw (k_M_131 (As := [.int (nI c)]) (rest := [.int (nI c), .ref (m + 10)]) hx hb hml hown hts (c_M_tested l D cA m (m_h Y h t f) c (n_op N c) (n_ky N c) (n_tt N c) (n_mk N c) (by omega) o8 k8 m8 hvo e4 e5 e6 e8) (x_preV hE hW.1 rfl rfl hW) rfl hl.1 rfl (Nat.le_of_ble_eq_true rfl) d_M_settle_63 (by decide) ⟨Nat.zero_le _, Nat.zero_le _⟩) (fun H1 L1 p1 f1 => ?_)
          have hF := t_lL hF (fun q h => m_tA_h q.base (f1 q h))
          obtain ⟨f1e, u1, f9, hW1⟩ := p1
          rw [m_h_tk] at hW1
          refine x_topi (y := bI (hv c)) (by rw [hVe c g2, if_pos k3]; rfl) ?_
          refine x_zast hx hb hE.2.2 (show va_at D x_cl (m + 10, .inl (cA 3, 520, .inl (m_i (m_h Y h u1 f9) 10))) _ from hW1.2 10 (by decide) (by decide)) 3 rfl (by omega) (by decide) d_M_settle_66 (fun H2 k2 g2x o2 => ?_)
          have hF := t_lc (a := m + 10) (i := k2) hF (m_hA_10 m)
          have hW2 := hW1.ai (i := 10) (by decide) o2 (f := upd (m_i (m_h Y h u1 f9) 10) c (bI (hv c))) g2x
          rw [m_h_set] at hW2
          exact hj _ _ _ _ ⟨_, u1, f9, (lv_sub hl [0, 1] rfl), rfl, fun i hi => by
            by_cases e : i = c
            · rw [e, pk_us, if_pos (by omega)]
            · rw [pk_un e]; show h i = _; rw [hh i hi]
              by_cases e2 : i < c
              · rw [if_pos e2, if_pos (by omega)]
              · rw [if_neg e2, if_neg (by omega)], hW2, (hFr.trans (f1e.mono m_tA_h)).trans (x_F.of1 o2 (m_hA_10 m)), hF⟩
  · have g1 := n_lt g1 (by omega) (by omega)
    obtain ⟨hk0, -⟩ := hmN c g1
    refine lv_aload_n hx hb d_M_settle_10 rfl (lv_at hl 1 rfl) ?_
    refine fg_M_39_M hx hb hown hts hE hW.1 rfl d_M_settle_11 ?_
    refine lv_iload_n hx hb d_M_settle_14 rfl (lv_at hl 0 rfl) ?_
    refine lv_aload_n hx hb d_M_settle_15 rfl (lv_at hl 1 rfl) ?_
    refine fg_M_17_M hx hb hown hts hE hW.1 rfl d_M_settle_16 ?_
    refine lv_iload_n hx hb d_M_settle_19 rfl (lv_at hl 0 rfl) ?_
    refine x_bald hx hb hE.2.2 (show va_at D x_cl (m + 3, .inl (cA 2, 520, .inl (m_i (m_h Y h t f) 3))) _ from hW.2 3 (by decide) (by decide)) 2 rfl (by omega) (by decide) d_M_settle_20 ?_
    refine x_topi (y := nI (n_kd N c)) hk0 ?_
    refine lv_if_ne (tgt := 28) hx hb d_M_settle_21 (by decide) (fun z1 => ?_) (fun z1 => ?_)
    · refine lv_iconst (v := 0) hx hb d_M_settle_28 (by decide) ?_
      refine x_topi (y := bI (decide (n_kd N c = 0))) (by rw [bI_no (fun z => z1 (by rw [z]; rfl))]) ?_
      refine x_zast hx hb hE.2.2 (show va_at D x_cl (m + 10, .inl (cA 3, 520, .inl (m_i (m_h Y h t f) 10))) _ from hW.2 10 (by decide) (by decide)) 3 rfl (by omega) (by decide) d_M_settle_29 (fun H1 k1 g1 o1 => ?_)
      have hF := t_lc (a := m + 10) (i := k1) hF (m_hA_10 m)
      have hW1 := hW.ai (i := 10) (by decide) o1 (f := upd (m_i (m_h Y h t f) 10) c (bI (decide (n_kd N c = 0)))) g1
      rw [m_h_set] at hW1
      refine lv_iinc (k := 0) (v := nI (c + 1)) (lv' := [(1, .int (nI (c + 1))), (0, .ref m)]) hx hb d_M_settle_30 hl rfl (x_inc _) (by decide) rfl (fun ls hl => ?_)
      refine lv_goto (tgt := 2) hx hb d_M_settle_33 (by decide) ?_
      exact ih (r - 1) _ _ _ (by omega) ⟨c + 1, _, t, f, by omega, fun i hi => by
        by_cases e : i = c
        · rw [e, pk_us]
        · rw [pk_un e]; exact hh i (by omega), (lv_sub hl [0, 1] rfl), hW1, hFr.trans (x_F.of1 o1 (m_hA_10 m)), hF⟩
    · refine lv_iconst (v := 1) hx hb d_M_settle_24 (by decide) ?_
      refine lv_goto (tgt := 29) hx hb d_M_settle_25 (by decide) ?_
      refine x_topi (y := bI (decide (n_kd N c = 0))) (by rw [bI_of ((nI_eq (by have := (hok c g1).1; omega) (by decide) : nI (n_kd N c) = nI 0 ↔ n_kd N c = 0).mp z1)]) ?_
      refine x_zast hx hb hE.2.2 (show va_at D x_cl (m + 10, .inl (cA 3, 520, .inl (m_i (m_h Y h t f) 10))) _ from hW.2 10 (by decide) (by decide)) 3 rfl (by omega) (by decide) d_M_settle_29 (fun H1 k1 g1 o1 => ?_)
      have hF := t_lc (a := m + 10) (i := k1) hF (m_hA_10 m)
      have hW1 := hW.ai (i := 10) (by decide) o1 (f := upd (m_i (m_h Y h t f) 10) c (bI (decide (n_kd N c = 0)))) g1
      rw [m_h_set] at hW1
      refine lv_iinc (k := 0) (v := nI (c + 1)) (lv' := [(1, .int (nI (c + 1))), (0, .ref m)]) hx hb d_M_settle_30 hl rfl (x_inc _) (by decide) rfl (fun ls hl => ?_)
      refine lv_goto (tgt := 2) hx hb d_M_settle_33 (by decide) ?_
      exact ih (r - 1) _ _ _ (by omega) ⟨c + 1, _, t, f, by omega, fun i hi => by
        by_cases e : i = c
        · rw [e, pk_us]
        · rw [pk_un e]; exact hh i (by omega), (lv_sub hl [0, 1] rfl), hW1, hFr.trans (x_F.of1 o1 (m_hA_10 m)), hF⟩
