/-! what every call keeps -/
def g_ok (o made : Nat) (N : n_T) (X : d_T) : Prop := n_ok made N ∧ n_hi o made N ∧ d_ok made X ∧ (d_e X = -1 ∨ ¬ d_e X < 0)
theorem g_ok.e {o made : Nat} {N : n_T} {X : d_T} (h : g_ok o made N X) : d_e X = -1 ∨ ¬ d_e X < 0 := h.2.2.2
theorem d_ok.setL {made : Nat} {X : d_T} (h : d_ok made X) {l c j : Nat} {b : Bool} {s : Nat → s_T} (hc : c ≤ 6) (hj : j < 64) (hs : ∀ k, k < 6 → s_ok made (s k)) : d_ok made (d_setL X l c b j s) := by
  obtain ⟨h1, h2, h3, h4, h5⟩ := h
  refine ⟨h1, h2, h3, fun i hi => ?_, fun i hi k hk => ?_⟩
  · show va_up (d_k X) l c i ≤ 6 ∧ va_up (d_j X) l j i < 64
    by_cases e : i = l
    · subst e; rw [va_up_self, va_up_self]; exact ⟨hc, hj⟩
    · rw [va_up_ne _ _ e, va_up_ne _ _ e]; exact h4 i hi
  · show s_ok made (va_up (d_s X) l s i k)
    by_cases e : i = l
    · subst e; rw [va_up_self]; exact hs k hk
    · rw [va_up_ne _ _ e]; exact h5 i hi k hk
theorem d_ok.setV {made : Nat} {X : d_T} (h : d_ok made X) {cnt : Nat → Int32} {row : Nat → Int64} (hc : vl_ok cnt) : d_ok made (d_setV X cnt row) := ⟨h.1, h.2.1, hc, h.2.2.2⟩
theorem s_ok.up {made : Nat} {x : s_T} (h : s_ok made x) : s_ok (made + 1) x := ⟨h.1, fun i e => Nat.lt_succ_of_lt (h.2 i e)⟩
theorem d_ok.push {made : Nat} {X : d_T} (h : d_ok made X) (h8 : d_n X < 8) : d_ok (made + 1) (d_push X made) := by
  obtain ⟨h1, h2, h3, h4, h5⟩ := h
  refine ⟨h8, fun k hk => ?_, h3, h4, fun l hl k hk => (h5 l hl k hk).up⟩
  show va_up (d_p X) (d_n X) made k < made + 1
  have hk : k < d_n X + 1 := hk
  by_cases e : k = d_n X
  · rw [e, va_up_self]; exact Nat.lt_succ_self _
  · rw [va_up_ne _ _ e]; exact Nat.lt_succ_of_lt (h2 k (by omega))
theorem n_ok.ext {made : Nat} {N : n_T} (h : n_ok made N) {kd op ky : Nat} {tt : Int64} {mk dp : Nat} {ch : List Nat} {ad : Nat} (h1 : kd ≤ 3) (h2 : 1 ≤ dp) (h3 : dp ≤ 5) (h4 : kd = 3 → op < 8 ∧ ky < 8 ∧ mk < 8) (h5 : kd ≠ 3 → ch.length ≤ 8 ∧ ∀ c ∈ ch, c < made ∧ n_dp N c < dp) : n_ok (made + 1) (n_ext N made kd op ky tt mk dp ch ad) := by
  intro i hi
  by_cases e : i = made
  · subst e
    obtain ⟨e1, e2, e3, e4, e5, e6, e7, e8⟩ := @n_ext_n N i kd op ky tt mk dp ch ad
    rw [e1, e2, e3, e5, e6, e7]
    refine ⟨h1, h2, h3, h4, fun hk => ⟨(h5 hk).1, fun c hc => ?_⟩⟩
    have := (h5 hk).2 c hc
    rw [(@n_ext_o N i kd op ky tt mk dp ch ad c (by omega)).2.2.2.2.2.1]
    exact this
  · obtain ⟨e1, e2, e3, e4, e5, e6, e7, e8⟩ := @n_ext_o N made kd op ky tt mk dp ch ad i e
    rw [e1, e2, e3, e5, e6, e7]
    have him : i < made := by omega
    obtain ⟨p1, p2, p3, p4, p5⟩ := h i him
    refine ⟨p1, p2, p3, p4, fun hk => ⟨(p5 hk).1, fun c hc => ?_⟩⟩
    have := (p5 hk).2 c hc
    rw [(@n_ext_o N made kd op ky tt mk dp ch ad c (by omega)).2.2.2.2.2.1]
    exact this
theorem n_hi.ext {o made : Nat} {N : n_T} (h : n_hi o made N) {kd op ky : Nat} {tt : Int64} {mk dp : Nat} {ch : List Nat} {ad : Nat} (h1 : o + 75 ≤ ad) (h2 : kd ≠ 3 → o + 76 ≤ ad) : n_hi o (made + 1) (n_ext N made kd op ky tt mk dp ch ad) := by
  intro i hi
  by_cases e : i = made
  · subst e
    obtain ⟨e1, e2, e3, e4, e5, e6, e7, e8⟩ := @n_ext_n N i kd op ky tt mk dp ch ad
    rw [e1, e8]; exact ⟨h1, h2⟩
  · obtain ⟨e1, e2, e3, e4, e5, e6, e7, e8⟩ := @n_ext_o N made kd op ky tt mk dp ch ad i e
    rw [e1, e8]; exact h i (by omega)
theorem g_ok.dis {o made : Nat} {N : n_T} {X : d_T} (h : g_ok o made N X) : g_ok o made N (d_setN X (d_n X - 1)) := ⟨h.1, h.2.1, h.2.2.1.setN (Nat.sub_le _ _), h.2.2.2⟩
theorem g_ok.opn {o made : Nat} {N : n_T} {X : d_T} (h : g_ok o made N X) (k : Int32) : g_ok o made N (z_open X k) := by
  unfold z_open
  by_cases hq : q_open X k = true
  · rw [if_pos hq]
    have hk : q_L k = true := by
      unfold q_open at hq; cases z : q_L k
      · rw [z] at hq; cases hq
      · rfl
    obtain ⟨j, hj, rfl⟩ := q_L_in hk
    rw [nI_clamp (by omega)]
    exact ⟨h.1, h.2.1, h.2.2.1.setL (h.2.2.1.2.2.2.1 j hj).1 (h.2.2.1.2.2.2.1 j hj).2 (h.2.2.1.2.2.2.2 j hj), h.2.2.2⟩
  · rw [if_neg hq]; exact h
theorem g_ok.drop {o made : Nat} {N : n_T} {X : d_T} (h : g_ok o made N X) (k : Int32) : g_ok o made N (z_drop X k) := by
  unfold z_drop
  by_cases hq : q_drop X k = true
  · rw [if_pos hq]
    have hk : q_L k = true := by
      unfold q_drop at hq; cases z : q_L k
      · rw [z] at hq; cases hq
      · rfl
    obtain ⟨j, hj, rfl⟩ := q_L_in hk
    rw [nI_clamp (by omega)]
    exact ⟨h.1, h.2.1, h.2.2.1.setL (Nat.zero_le _) (h.2.2.1.2.2.2.1 j hj).2 (h.2.2.1.2.2.2.2 j hj), h.2.2.2⟩
  · rw [if_neg hq]; exact h
theorem g_ok.offer {o made : Nat} {N : n_T} {X : d_T} (h : g_ok o made N X) (k : Int32) (x : Int64) : g_ok o made N (z_offer X k x) := by
  unfold z_offer
  by_cases hq : q_key k = true
  · rw [if_pos hq]
    by_cases h4 : 4 ≤ d_c X k.toNatClampNeg
    · rw [if_pos h4]; exact h
    · rw [if_neg h4]
      obtain ⟨j, hj, rfl⟩ := q_key_in hq
      rw [nI_clamp (by omega)] at h4 ⊢
      have hv := h.2.2.1.2.2.1
      refine ⟨h.1, h.2.1, h.2.2.1.setV (fun i hi => ?_), h.2.2.2⟩
      by_cases e : i = j
      · subst e
        obtain ⟨n, hn4, hn⟩ := hv i hi
        have hn3 : n < 4 := by
          rcases Nat.lt_or_eq_of_le hn4 with z | z
          · exact z
          · exact absurd (by rw [hn, z]; decide) h4
        exact ⟨n + 1, hn3, by rw [pk_us, hn]; exact (nI_succ n).symm⟩
      · rw [pk_un e]; exact hv i hi
  · rw [if_neg hq]; exact h
theorem g_ok.forget {o made : Nat} {N : n_T} {X : d_T} (h : g_ok o made N X) (k : Int32) : g_ok o made N (z_forget X k) := by
  unfold z_forget
  by_cases hq : q_key k = true
  · rw [if_pos hq]
    have hv := h.2.2.1.2.2.1
    refine ⟨h.1, h.2.1, h.2.2.1.setV (fun i hi => ?_), h.2.2.2⟩
    by_cases e : i = k.toNatClampNeg
    · rw [e, pk_us]; exact ⟨0, by decide, rfl⟩
    · rw [pk_un e]; exact hv i hi
  · rw [if_neg hq]; exact h
theorem g_ok.state {o made : Nat} {N : n_T} {X : d_T} (h : g_ok o made N X) (k g : Int32) (x y : Int64) (w : Int32) : g_ok o made N (z_state X k g x y w) := by
  unfold z_state
  by_cases hq : q_smk X k g w = true
  · rw [if_pos hq]
    have hq2 : q_sb X k g w = true ∧ d_k X k.toNatClampNeg < 6 := by
      unfold q_smk at hq
      rw [Bool.and_eq_true] at hq
      exact ⟨hq.1, of_decide_eq_true hq.2⟩
    have hq3 : q_sok k g w = true ∧ (q_sc g && decide (d_n X = 0)) = false := by
      have z := hq2.1
      unfold q_sb at z
      rw [Bool.and_eq_true] at z
      refine ⟨z.1, ?_⟩
      cases w9 : (q_sc g && decide (d_n X = 0))
      · rfl
      · rw [w9] at z; exact absurd z.2 (by decide)
    have hq4 : q_L k = true ∧ (0 ≤ g ∧ g ≤ 15) := by
      have z := hq3.1
      unfold q_sok at z
      rw [Bool.and_eq_true, Bool.and_eq_true] at z
      exact ⟨z.1.1, of_decide_eq_true z.1.2⟩
    obtain ⟨j, hj, rfl⟩ := q_L_in hq4.1
    obtain ⟨gi, hgi, rfl⟩ := nI_of2 (M := 15) (n := 15) (by decide) (Int32.not_lt.mpr hq4.2.1) hq4.2.2
    have h6 := hq2.2
    rw [nI_clamp (by omega)] at h6
    rw [nI_clamp (by omega), nI_clamp (by omega)]
    have hd := h.2.2.1
    have hX : d_ok made (if q_sc (nI gi) then d_setN X (d_n X - 1) else X) := by
      by_cases z : q_sc (nI gi) = true
      · rw [if_pos z]; exact hd.setN (Nat.sub_le _ _)
      · rw [if_neg z]; exact hd
    refine ⟨h.1, h.2.1, hX.setL h6 (hd.2.2.2.1 j hj).2 (fun i hi => ?_), ?_⟩
    · by_cases e : i = d_k X j
      · rw [e, va_up_self]
        refine ⟨by show gi < 16; omega, fun q hq9 => ?_⟩
        by_cases z : q_sc (nI gi) = true
        · have hq9 : (if q_sc (nI gi) then some (d_p X (d_n X - 1)) else none) = some q := hq9
          rw [if_pos z] at hq9
          have hn : ¬ d_n X = 0 := fun z2 => by
            have z3 := hq3.2
            rw [z, decide_eq_true z2] at z3
            cases z3
          have := hd.2.1 (d_n X - 1) (by omega)
          have e9 := Option.some.inj hq9
          omega
        · have hq9 : (if q_sc (nI gi) then some (d_p X (d_n X - 1)) else none) = some q := hq9
          rw [if_neg z] at hq9
          cases hq9
      · rw [va_up_ne _ _ e]; exact hd.2.2.2.2 j hj i hi
    · by_cases z : q_sc (nI gi) = true
      · rw [if_pos z]; exact h.2.2.2
      · rw [if_neg z]; exact h.2.2.2
  · rw [if_neg hq]; exact h
theorem q_con_lt (X : d_T) (u : Int32) (own : Bool) : (q_con X u own).2 < 6 := by
  unfold q_con
  cases hf : (List.range 6).find? (q_den X) with
  | some l => exact List.mem_range.mp (List.mem_of_find?_eq_some hf)
  | none =>
    show (if q_bar X 0 then ((0 : Int32), 0) else if q_bar X 1 then (0, 1) else if own && q_nam X u then (1, 5) else q_gr X own).2 < 6
    unfold q_gr
    repeat' split
    all_goals decide
theorem g_ok.dec {o made : Nat} {N : n_T} {X : d_T} (h : g_ok o made N X) (hv : Nat → Bool) (a u : Int32) (ac th : Int64) (ow : Int32) : g_ok o made N (z_dec X hv a u ac th ow) := by
  unfold z_dec
  by_cases hq : (q_dg a && q_dg u && q_dg ow) = true
  · rw [if_pos hq]
    have hd := h.2.2.1
    refine ⟨h.1, h.2.1, ⟨hd.1, hd.2.1, hd.2.2.1, fun i hi => ⟨(hd.2.2.2.1 i hi).1, ?_⟩, hd.2.2.2.2⟩, Or.inr ?_⟩
    · exact ((z_jud_lok hd hv (q_who a u) ac th) i hi).2.1
    · exact nI_pos (Nat.lt_trans (q_con_lt _ _ _) (by decide))
  · rw [if_neg hq]; exact h
theorem g_ok.test {o made : Nat} {N : n_T} {X : d_T} (h : g_ok o made N X) (op ky : Int32) (t : Int64) (mk : Int32) {sz : Nat} (hsz : o + 75 ≤ sz) : g_ok o (z_testM made X op ky mk) (z_testN made N X op ky t mk sz) (z_testX made X op ky mk) := by
  unfold z_testM z_testN z_testX
  by_cases hq : q_tmk X op ky mk = true
  · rw [if_pos hq, if_pos hq, if_pos hq]
    unfold q_tmk q_tok at hq
    rw [Bool.and_eq_true, Bool.and_eq_true, Bool.and_eq_true] at hq
    obtain ⟨⟨⟨h1, h2⟩, h3⟩, h4⟩ := hq
    obtain ⟨i1, hi1, rfl⟩ := q_key_in h1
    obtain ⟨i2, hi2, rfl⟩ := q_key_in h2
    obtain ⟨i3, hi3, rfl⟩ := q_key_in ((w_7 mk).symm.trans h3)
    rw [nI_clamp (by omega), nI_clamp (by omega), nI_clamp (by omega)]
    exact ⟨h.1.ext (by decide) (by decide) (by decide) (fun _ => ⟨hi1, hi2, hi3⟩) (fun z => absurd rfl z), h.2.1.ext hsz (fun z => absurd rfl z), h.2.2.1.push (of_decide_eq_true h4), h.2.2.2⟩
  · rw [if_neg hq, if_neg hq, if_neg hq]; exact h
theorem g_ok.join {o made : Nat} {N : n_T} {X : d_T} (h : g_ok o made N X) (k n : Int32) {sz : Nat} (hsz : o + 75 ≤ sz) : g_ok o (z_joinM made N X k n) (z_joinN made N X k n sz) (z_joinX made N X k n) := by
  unfold z_joinM z_joinN z_joinX
  by_cases hq : q_jmk N X k n = true
  · rw [if_pos hq, if_pos hq, if_pos hq]
    unfold q_jmk q_jok at hq
    rw [Bool.and_eq_true, Bool.and_eq_true, Bool.and_eq_true, Bool.and_eq_true] at hq
    obtain ⟨⟨⟨⟨h1, h2⟩, h3⟩, h4⟩, h5⟩ := hq
    have h1 := of_decide_eq_true h1
    have h2 := of_decide_eq_true h2
    have h5 := of_decide_eq_true h5
    have hn8 := h.2.2.1.1
    obtain ⟨ki, hki, rfl⟩ := nI_of2 (M := 2) (n := 2) (by decide) (Int32.not_lt.mpr h1.1) h1.2
    obtain ⟨ni, hni, rfl⟩ := nI_of2 (M := 8) (n := 8) (by decide) (Int32.not_lt.mpr h2.1) (Int32.le_trans h2.2 ((nI_leI (by omega) (by decide) : nI (d_n X) ≤ nI 8 ↔ _).mpr hn8))
    have hnn : ni ≤ d_n X := (nI_leI (by omega) (by omega)).mp h2.2
    rw [nI_clamp (by omega)] at h5
    rw [nI_clamp (by omega), nI_clamp (by omega)]
    have hf : ¬ (ni = 0 ∧ 8 ≤ d_n X) := fun ⟨z1, z2⟩ => by
      subst z1
      have : q_jf X (nI 0) = true := by unfold q_jf; rw [decide_eq_true (show nI 0 = 0 from rfl), decide_eq_true z2]; rfl
      rw [this] at h4
      cases h4
    refine ⟨h.1.ext (by omega) (by unfold q_jd; omega) h5 (fun z => by omega) (fun _ => ⟨by rw [q_jch_len]; omega, fun c hc => ?_⟩), h.2.1.ext (by omega) (fun _ => by omega), (h.2.2.1.setN (Nat.sub_le _ _)).push (by show d_n X - ni < 8; omega), h.2.2.2⟩
    obtain ⟨j, hj, e⟩ := q_jch_in hc
    subst e
    refine ⟨h.2.2.1.2.1 _ (by omega), ?_⟩
    have := d_mx_ge (f := fun k => n_dp N (d_p X k)) (a := d_n X - ni) hj
    unfold q_jd
    have e2 : n_dp N (d_p X (d_n X - ni + j)) ≤ d_mx (fun k => n_dp N (d_p X k)) (d_n X - ni) ni := this
    omega
  · rw [if_neg hq, if_neg hq, if_neg hq]; exact h
theorem z_testM_le {made : Nat} {X : d_T} {op ky mk : Int32} : z_testM made X op ky mk ≤ made + 1 := by unfold z_testM; split <;> omega
theorem z_joinM_le {made : Nat} {N : n_T} {X : d_T} {k n : Int32} : z_joinM made N X k n ≤ made + 1 := by unfold z_joinM; split <;> omega
theorem n_j_congr {hv hw : Nat → Bool} {k : Nat} {l : List Nat} (h : ∀ c ∈ l, hv c = hw c) : n_j hv k l = n_j hw k l := by
  have e1 : l.all hv = l.all hw := by
    rw [Bool.eq_iff_iff, List.all_eq_true, List.all_eq_true]
    exact ⟨fun z c hc => by rw [← h c hc]; exact z c hc, fun z c hc => by rw [h c hc]; exact z c hc⟩
  have e2 : l.any hv = l.any hw := by
    rw [Bool.eq_iff_iff, List.any_eq_true, List.any_eq_true]
    exact ⟨fun ⟨c, hc, z⟩ => ⟨c, hc, by rw [← h c hc]; exact z⟩, fun ⟨c, hc, z⟩ => ⟨c, hc, by rw [h c hc]; exact z⟩⟩
  unfold n_j; rw [e1, e2]
/-- which conditions hold is settled -/
theorem n_V_ex (cnt : Nat → Int32) (row : Nat → Int64) {made : Nat} {N : n_T} (hok : n_ok made N) : ∃ hv : Nat → Bool, n_V cnt row made N hv := by
  have key : ∀ n, n ≤ made → ∃ hv : Nat → Bool, n_V cnt row n N hv := by
    intro n
    induction n with
    | zero => exact fun _ => ⟨fun _ => false, fun i hi => absurd hi (Nat.not_lt_zero i)⟩
    | succ n ih =>
      intro hn
      obtain ⟨hv, h⟩ := ih (by omega)
      refine ⟨va_up hv n (if n_kd N n = 3 then cn_t cnt row (n_op N n) (n_ky N n) (n_tt N n) (n_mk N n) else n_j hv (n_kd N n) (n_ch N n)), fun i hi => ?_⟩
      have hc : ∀ i, i < n + 1 → n_kd N i ≠ 3 → ∀ c ∈ n_ch N i, va_up hv n (if n_kd N n = 3 then cn_t cnt row (n_op N n) (n_ky N n) (n_tt N n) (n_mk N n) else n_j hv (n_kd N n) (n_ch N n)) c = hv c := fun i hi hk c hc => by
        have := ((hok i (by omega)).2.2.2.2 hk).2 c hc
        exact va_up_ne _ _ (by omega)
      by_cases e : i = n
      · subst e
        rw [va_up_self]
        by_cases hk : n_kd N i = 3
        · rw [if_pos hk, if_pos hk]
        · have hc2 := hc i hi hk
          rw [if_neg hk] at hc2
          rw [if_neg hk, if_neg hk]; exact (n_j_congr hc2).symm
      · rw [va_up_ne _ _ e, h i (by omega)]
        by_cases hk : n_kd N i = 3
        · rw [if_pos hk, if_pos hk]
        · rw [if_neg hk, if_neg hk]; exact (n_j_congr (hc i hi hk)).symm
  exact key made (Nat.le_refl _)
def n_0 : n_T := (fun _ => 0, fun _ => 0, fun _ => 0, fun _ => 0, fun _ => 0, fun _ => 0, fun _ => [], fun _ => 0)
theorem m_R_0 : m_R 0 n_0 d_0 m_0 :=
  ⟨rfl, rfl, rfl, rfl, rfl, fun i hi => absurd hi (Nat.not_lt_zero i), fun k hk => absurd hk (Nat.not_lt_zero k), fun k j hk => absurd hk (Nat.not_lt_zero k), fun l hl => ⟨rfl, rfl, rfl⟩, fun l hl k hk => absurd hk (Nat.not_lt_zero k)⟩
theorem g_ok_0 (o : Nat) : g_ok o 0 n_0 d_0 :=
  ⟨fun i hi => absurd hi (Nat.not_lt_zero i), fun i hi => absurd hi (Nat.not_lt_zero i), ⟨Nat.zero_le _, fun k hk => absurd hk (Nat.not_lt_zero k), fun k hk => ⟨0, by decide, rfl⟩, fun l hl => ⟨Nat.zero_le _, show 0 < 64 by decide⟩, fun l hl k hk => ⟨show 0 < 16 by decide, fun i e => by cases e⟩⟩, Or.inl rfl⟩
/-! the class's world and the model's, side by side -/
def g_S (D : va_G) (cA : Nat → ClassId) (o made : Nat) (N : n_T) (X : d_T) (H : Heap) : Prop := o + 75 ≤ H.size ∧ d_W D cA N o X H ∧ n_W D cA made N H ∧ mm_W D cA (o + 54) made N X H
theorem g_S.one {D : va_G} {cA : Nat → ClassId} {o made : Nat} {N : n_T} {X X1 : d_T} {H H1 H2 : Heap} {A : Addr → Prop} (h : g_S D cA o made N X H) (hi : n_hi o made N) (hA : ∀ q, A q → d_A o q) (h1 : x_F A H H1) (h2 : x_F (m_A (o + 54)) H1 H2) (hd : d_W D cA N o X1 H1) (hm : mm_W D cA (o + 54) made N X1 H2) : g_S D cA o made N X1 H2 := by
  refine ⟨by rw [h2.1, h1.1]; exact h.1, hd.kept (fun q a b => h2.2 q (fun z => by have := m_A.ge z; omega)), (h.2.2.1.kF (h1.mono hA) hi.out).kF h2 (fun i hi9 => ?_), hm⟩
  have := hi i hi9
  exact ⟨fun z => by have := m_A.lt z; omega, fun hk z => by have := m_A.lt z; have := (hi i hi9).2 hk; omega⟩
theorem g_S.mid {D : va_G} {cA : Nat → ClassId} {o made : Nat} {N : n_T} {X : d_T} {H H1 : Heap} {A : Addr → Prop} (h : g_S D cA o made N X H) (hA : ∀ q, A q → d_A o q) (h1 : x_F A H H1) : mm_W D cA (o + 54) made N X H1 := h.2.2.2.kept (fun q a b => h1.2 q (fun z => by have := d_A.lt (hA q z); omega))
theorem g_S.midG {D : va_G} {cA : Nat → ClassId} {o made : Nat} {N : n_T} {X : d_T} {H H1 : Heap} (h : g_S D cA o made N X H) (h1 : x_G (d_A o) H H1) : mm_W D cA (o + 54) made N X H1 := h.2.2.2.kept (fun q a b => h1.2 q (by have := h.1; omega) (fun z => by have := d_A.lt z; omega))
theorem g_S.two {D : va_G} {cA : Nat → ClassId} {o made made1 : Nat} {N N1 : n_T} {X X1 : d_T} {H H1 H2 : Heap} (h : g_S D cA o made N X H) (hi : n_hi o made1 N1) (h1 : x_G (d_A o) H H1) (h2 : x_F (m_A (o + 54)) H1 H2) (hd : d_W D cA N1 o X1 H1) (hn : n_W D cA made1 N1 H1) (hm : mm_W D cA (o + 54) made1 N1 X1 H2) : g_S D cA o made1 N1 X1 H2 := by
  refine ⟨by rw [h2.1]; exact Nat.le_trans h.1 h1.1, hd.kept (fun q a b => h2.2 q (fun z => by have := m_A.ge z; omega)), hn.kF h2 (fun i hi9 => ?_), hm⟩
  have := hi i hi9
  exact ⟨fun z => by have := m_A.lt z; omega, fun hk z => by have := m_A.lt z; have := (hi i hi9).2 hk; omega⟩
/-- the start's heap lies below -/
theorem va_S.xF {o : Nat} {A : Addr → Prop} {H0 H H1 : Heap} {locs locs1 : List Loc} (h : va_S (x_up o) H0 H locs) (h1 : x_F A H H1) (hA : ∀ q, A q → x_up o q) (hl : ∀ q ∈ locs1, x_up o q.base) : va_S (x_up o) H0 H1 locs1 := ⟨by rw [h1.1]; exact h.1, fun q a b => (h1.2 q (fun z => b (hA q z))).trans (h.2.1 q a b), hl⟩
theorem va_S.xG {o : Nat} {A : Addr → Prop} {H0 H H1 : Heap} {locs locs1 : List Loc} (h : va_S (x_up o) H0 H locs) (h1 : x_G A H H1) (hA : ∀ q, A q → x_up o q) (hl : ∀ q ∈ locs1, x_up o q.base) : va_S (x_up o) H0 H1 locs1 := ⟨Nat.le_trans h.1 h1.1, fun q a b => (h1.2 q (Nat.lt_of_lt_of_le a h.1) (fun z => b (hA q z))).trans (h.2.1 q a b), hl⟩
theorem d_A_up {o : Nat} (q : Nat) (h : d_A o q) : x_up o q := h.1
theorem m_A_up {o : Nat} (q : Nat) (h : m_A (o + 54) q) : x_up o q := Nat.le_trans (Nat.le_add_right o 54) h.1
