/-! some statement of a layer, in the model -/
theorem l_h_s (j c : Nat) (P : Nat → Bool) : l_h j (c + 1) P = (l_h j c P || (j.testBit c && P c)) := by
  by_cases h : l_h j c P = true
  · rw [h, Bool.true_or]
    obtain ⟨k, hk, e⟩ := of_decide_eq_true h
    exact decide_eq_true ⟨k, Nat.lt_succ_of_lt hk, e⟩
  · rw [bf_of h, Bool.false_or]
    by_cases h2 : (j.testBit c && P c) = true
    · rw [h2]; exact decide_eq_true ⟨c, Nat.lt_succ_self c, h2⟩
    · rw [bf_of h2]
      refine l_h_f (fun k hk => ?_)
      by_cases e : k = c
      · rw [e]; exact bf_of h2
      · exact bf_of (fun z => h (decide_eq_true ⟨k, by omega, z⟩))
theorem mb_s : ∀ d : Nat, d < 64 → ∀ i : Nat, i < 6 → ((nI d >>> (nI i &&& 31)) &&& 1 = 1 ↔ d.testBit i = true) := by decide +kernel
def q_some (X : d_T) (j : Nat) (b : Bool) (u : Int32) : Nat → Bool := fun k => ((d_s X j k).1.testBit 0 == b) && (decide (u < 0) || decide ((d_s X j k).2.2.2.1 = u))
set_option maxHeartbeats 4000000 in
set_option maxRecDepth 100000 in
theorem c_M_some (l : Launch) (D : va_G) (cA : Nat → ClassId) (m made : Nat) (N : n_T) (X : d_T) (Y : m_T) (hR : m_R made N X Y) (j : Nat) (b : Bool) (u : Int32) (hj : j < 6) (hk6 : d_k X j ≤ 6) (hj64 : d_j X j < 64) (hso : ∀ k, k < 6 → (d_s X j k).1 < 16) : Met l y_M_some [.code y_M_some b_M_some 8 (some .boolean)] (x_rm 0 0 0) (x_P D cA [.ref m, .int (nI j), .int (bI b), .int u] (fun H => m_W D cA m Y H)) (x_Q (some (.int (bI (l_h (d_j X j) (d_k X j) (q_some X j b u))))) (x_same)) 0 0 (fun _ => False) := by
  refine x_met (own := "DecisionLayersModel") (by decide) rfl (Nat.le_of_ble_eq_true rfl) ?_
  intro pp ee s mm below mt cd ls hx hb hr hlk hnm hml hown hts hE hP hl
  have hl : lv_has ls 8 [(0, .ref m), (1, .int (nI j)), (2, .int (bI b)), (3, .int u)] := hl
  have hW := hP
  obtain ⟨r1, r2, r3, r4, r5, rN, rp, ri, rl, rs⟩ := id hR
  obtain ⟨l1, l2, l3⟩ := rl j hj
  refine lv_iconst (v := 0) hx hb d_M_some_0 (by decide) ?_
  refine x_topi (y := bI (l_h (d_j X j) 0 (q_some X j b u))) (by rw [l_h_f (fun k hk => absurd hk (Nat.not_lt_zero k))]; rfl) ?_
  refine lv_istore (lv' := [(4, .int (bI (l_h (d_j X j) 0 (q_some X j b u)))), (0, .ref m), (1, .int (nI j)), (2, .int (bI b)), (3, .int u)]) hx hb d_M_some_1 hl (by decide) rfl (fun ls hl => ?_)
  refine lv_iconst (v := 0) hx hb d_M_some_3 (by decide) ?_
  refine lv_istore (lv' := [(5, .int 0), (4, .int (bI (l_h (d_j X j) 0 (q_some X j b u)))), (0, .ref m), (1, .int (nI j)), (2, .int (bI b)), (3, .int u)]) hx hb d_M_some_4 hl (by decide) rfl (fun ls hl => ?_)
  refine x_loop (I := fun r ls => ∃ i, i + r = d_k X j ∧ lv_has ls 8 [(5, .int (nI i)), (4, .int (bI (l_h (d_j X j) i (q_some X j b u)))), (0, .ref m), (1, .int (nI j)), (2, .int (bI b)), (3, .int u)]) (fun r ls ih h => ?_) (d_k X j) ⟨0, by omega, (lv_sub hl [0, 1, 2, 3, 4, 5] rfl)⟩
  obtain ⟨i, hir, hl⟩ := h
  refine lv_iload hx hb d_M_some_6 (lv_at hl 0 rfl) ?_
  refine lv_aload_n hx hb d_M_some_8 rfl (lv_at hl 2 rfl) ?_
  refine fg_M_49_M hx hb hown hts hE hW.1 rfl d_M_some_9 ?_
  refine lv_iload_n hx hb d_M_some_12 rfl (lv_at hl 3 rfl) ?_
  refine x_iald hx hb hE.2.2 (show va_at D x_cl (m + 13, .inl (cA 0, 6, .inl (m_i Y 13))) _ from hW.2 13 (by decide) (by decide)) 0 rfl hj (by decide) d_M_some_13 ?_
  refine x_topi (y := nI (d_k X j)) l2 ?_
  refine lv_icmp_ge (tgt := 107) hx hb d_M_some_14 (by decide) (fun g1 => ?_) (fun g1 => ?_)
  · have g1 := n_ge g1 (by omega) (by omega)
    have hi : i = d_k X j := by omega
    refine lv_iload hx hb d_M_some_107 (lv_at hl 1 rfl) ?_
    refine x_topi (y := bI (l_h (d_j X j) (d_k X j) (q_some X j b u))) (by rw [hi]) ?_
    exact W.zret (ty := .boolean) hx hb hr (bI_z _) (fun t9 ht _ => ⟨rfl, ht⟩) (fun q h => by cases h) d_M_some_109
  · have g1 := n_lt g1 (by omega) (by omega)
    obtain ⟨s1, s2, s3, s4, s5⟩ := rs j hj i g1
    have h16 := hso i (by omega)
    refine lv_bipush (v := 6) hx hb d_M_some_17 (by decide) ?_
    refine lv_iload_n hx hb d_M_some_19 rfl (lv_at hl 3 rfl) ?_
    refine lv_imul hx hb d_M_some_20 ?_
    refine x_topi (y := nI (6 * j)) (by rw [show (6 : Int32) = nI 6 from rfl, pk_mul]) ?_
    refine lv_iload hx hb d_M_some_21 (lv_at hl 0 rfl) ?_
    refine lv_iadd hx hb d_M_some_23 ?_
    refine x_topi (y := nI (6 * j + i)) (nI_add _ _) ?_
    refine lv_istore (lv' := [(6, .int (nI (6 * j + i))), (5, .int (nI i)), (4, .int (bI (l_h (d_j X j) i (q_some X j b u)))), (0, .ref m), (1, .int (nI j)), (2, .int (bI b)), (3, .int u)]) hx hb d_M_some_24 hl (by decide) rfl (fun ls hl => ?_)
    refine x_join 67 (fun ls st => lv_has ls 8 [(5, .int (nI i)), (4, .int (bI (l_h (d_j X j) i (q_some X j b u)))), (0, .ref m), (1, .int (nI j)), (2, .int (bI b)), (3, .int u)] ∧ st = [.int (bI (q_some X j b u i))]) ?_ (fun hj => ?_)
    · intro ls st hj
      obtain ⟨hl, rfl⟩ := hj
      refine lv_istore (lv' := [(7, .int (bI (q_some X j b u i))), (5, .int (nI i)), (4, .int (bI (l_h (d_j X j) i (q_some X j b u)))), (0, .ref m), (1, .int (nI j)), (2, .int (bI b)), (3, .int u)]) hx hb d_M_some_67 hl (by decide) rfl (fun ls hl => ?_)
      refine x_join 99 (fun ls st => lv_has ls 8 [(5, .int (nI i)), (0, .ref m), (1, .int (nI j)), (2, .int (bI b)), (3, .int u)] ∧ st = [.int (bI (l_h (d_j X j) (i + 1) (q_some X j b u)))]) ?_ (fun hj => ?_)
      · intro ls st hj
        obtain ⟨hl, rfl⟩ := hj
        refine lv_istore (lv' := [(4, .int (bI (l_h (d_j X j) (i + 1) (q_some X j b u)))), (5, .int (nI i)), (0, .ref m), (1, .int (nI j)), (2, .int (bI b)), (3, .int u)]) hx hb d_M_some_99 hl (by decide) rfl (fun ls hl => ?_)
        refine lv_iinc (k := 1) (v := nI (i + 1)) (lv' := [(5, .int (nI (i + 1))), (4, .int (bI (l_h (d_j X j) (i + 1) (q_some X j b u)))), (0, .ref m), (1, .int (nI j)), (2, .int (bI b)), (3, .int u)]) hx hb d_M_some_101 hl rfl (x_inc _) (by decide) rfl (fun ls hl => ?_)
        refine lv_goto (tgt := 6) hx hb d_M_some_104 (by decide) ?_
        exact ih (r - 1) _ (by omega) ⟨i + 1, by omega, (lv_sub hl [0, 1, 2, 3, 4, 5] rfl)⟩
      · refine lv_iload hx hb d_M_some_69 (lv_at hl 2 rfl) ?_
        refine lv_if_ne (tgt := 94) hx hb d_M_some_71 (by decide) (fun y1 => ?_) (fun y1 => ?_)
        · refine lv_iconst (v := 1) hx hb d_M_some_94 (by decide) ?_
          refine lv_goto (tgt := 99) hx hb d_M_some_95 (by decide) ?_
          refine x_topi (y := bI (l_h (d_j X j) (i + 1) (q_some X j b u))) (by rw [l_h_s, bI_n0.mp y1]; rfl) ?_
          exact hj _ _ ⟨(lv_sub hl [1, 3, 4, 5, 6] rfl), rfl⟩
        · refine lv_iload hx hb d_M_some_74 (lv_at hl 0 rfl) ?_
          refine lv_if_eq (tgt := 98) hx hb d_M_some_76 (by decide) (fun y2 => ?_) (fun y2 => ?_)
          · refine lv_iconst (v := 0) hx hb d_M_some_98 (by decide) ?_
            refine x_topi (y := bI (l_h (d_j X j) (i + 1) (q_some X j b u))) (by rw [l_h_s, bI_0.mp y1, bI_0.mp y2]; simp; rfl) ?_
            exact hj _ _ ⟨(lv_sub hl [1, 3, 4, 5, 6] rfl), rfl⟩
          · refine lv_aload_n hx hb d_M_some_79 rfl (lv_at hl 3 rfl) ?_
            refine fg_M_71_M hx hb hown hts hE hW.1 rfl d_M_some_80 ?_
            refine lv_iload_n hx hb d_M_some_83 rfl (lv_at hl 4 rfl) ?_
            refine x_iald hx hb hE.2.2 (show va_at D x_cl (m + 19, .inl (cA 0, 6, .inl (m_i Y 19))) _ from hW.2 19 (by decide) (by decide)) 0 rfl (by omega) (by decide) d_M_some_84 ?_
            refine x_topi (y := nI (d_j X j)) l3 ?_
            refine lv_iload hx hb d_M_some_85 (lv_at hl 1 rfl) ?_
            refine lv_ishr hx hb d_M_some_87 ?_
            refine lv_iconst (v := 1) hx hb d_M_some_88 (by decide) ?_
            refine lv_iand hx hb d_M_some_89 ?_
            refine lv_iconst (v := 1) hx hb d_M_some_90 (by decide) ?_
            refine lv_icmp_ne (tgt := 98) hx hb d_M_some_91 (by decide) (fun y3 => ?_) (fun y3 => ?_)
            · refine lv_iconst (v := 0) hx hb d_M_some_98 (by decide) ?_
              refine x_topi (y := bI (l_h (d_j X j) (i + 1) (q_some X j b u))) (by rw [l_h_s, bI_0.mp y1, bf_of (fun z => y3 ((mb_s _ hj64 i (by omega)).mpr z))]; rfl) ?_
              exact hj _ _ ⟨(lv_sub hl [1, 3, 4, 5, 6] rfl), rfl⟩
            · refine lv_iconst (v := 1) hx hb d_M_some_94 (by decide) ?_
              refine lv_goto (tgt := 99) hx hb d_M_some_95 (by decide) ?_
              refine x_topi (y := bI (l_h (d_j X j) (i + 1) (q_some X j b u))) (by rw [l_h_s, bI_n0.mp y2, (mb_s _ hj64 i (by omega)).mp y3]; simp; rfl) ?_
              exact hj _ _ ⟨(lv_sub hl [1, 3, 4, 5, 6] rfl), rfl⟩
    · refine lv_aload_n hx hb d_M_some_26 rfl (lv_at hl 3 rfl) ?_
      refine fg_M_52_M hx hb hown hts hE hW.1 rfl d_M_some_27 ?_
      refine lv_iload hx hb d_M_some_30 (lv_at hl 0 rfl) ?_
      refine x_iald hx hb hE.2.2 (show va_at D x_cl (m + 14, .inl (cA 0, 36, .inl (m_i Y 14))) _ from hW.2 14 (by decide) (by decide)) 0 rfl (by omega) (by decide) d_M_some_32 ?_
      refine x_topi (y := nI (d_s X j i).1) s1 ?_
      refine lv_iconst (v := 1) hx hb d_M_some_33 (by decide) ?_
      refine lv_iand hx hb d_M_some_34 ?_
      refine lv_if_eq (tgt := 42) hx hb d_M_some_35 (by decide) (fun z1 => ?_) (fun z1 => ?_)
      · have z1 : (d_s X j i).1.testBit 0 = false := (mb_0 _ h16).mp z1
        refine lv_iconst (v := 0) hx hb d_M_some_42 (by decide) ?_
        refine x_topi (y := bI false) rfl ?_
        refine lv_iload_n hx hb d_M_some_43 rfl (lv_at hl 5 rfl) ?_
        refine lv_icmp_ne (tgt := 66) hx hb d_M_some_44 (by decide) (fun z2 => ?_) (fun z2 => ?_)
        · refine lv_iconst (v := 0) hx hb d_M_some_66 (by decide) ?_
          refine x_topi (y := bI (q_some X j b u i)) (by unfold q_some; rw [z1, show (false == b) = false from beq_eq_false_iff_ne.mpr (fun z => z2 (congrArg bI z))]; rfl) ?_
          exact hj _ _ ⟨(lv_sub hl [1, 2, 3, 4, 5, 6] rfl), rfl⟩
        · have z2 := bI_inj z2
          refine lv_iload_n hx hb d_M_some_47 rfl (lv_at hl 6 rfl) ?_
          refine lv_if_lt (tgt := 62) hx hb d_M_some_48 (by decide) (fun z3 => ?_) (fun z3 => ?_)
          · refine lv_iconst (v := 1) hx hb d_M_some_62 (by decide) ?_
            refine lv_goto (tgt := 67) hx hb d_M_some_63 (by decide) ?_
            refine x_topi (y := bI (q_some X j b u i)) (by unfold q_some; rw [z1, z2, decide_eq_true z3]; simp; rfl) ?_
            exact hj _ _ ⟨(lv_sub hl [1, 2, 3, 4, 5, 6] rfl), rfl⟩
          · refine lv_aload_n hx hb d_M_some_51 rfl (lv_at hl 3 rfl) ?_
            refine fg_M_61_M hx hb hown hts hE hW.1 rfl d_M_some_52 ?_
            refine lv_iload hx hb d_M_some_55 (lv_at hl 0 rfl) ?_
            refine x_iald hx hb hE.2.2 (show va_at D x_cl (m + 17, .inl (cA 0, 36, .inl (m_i Y 17))) _ from hW.2 17 (by decide) (by decide)) 0 rfl (by omega) (by decide) d_M_some_57 ?_
            refine x_topi (y := (d_s X j i).2.2.2.1) s4 ?_
            refine lv_iload_n hx hb d_M_some_58 rfl (lv_at hl 6 rfl) ?_
            refine lv_icmp_ne (tgt := 66) hx hb d_M_some_59 (by decide) (fun z4 => ?_) (fun z4 => ?_)
            · refine lv_iconst (v := 0) hx hb d_M_some_66 (by decide) ?_
              refine x_topi (y := bI (q_some X j b u i)) (by unfold q_some; rw [z1, z2, decide_eq_false z3, decide_eq_false z4]; simp; rfl) ?_
              exact hj _ _ ⟨(lv_sub hl [1, 2, 3, 4, 5, 6] rfl), rfl⟩
            · refine lv_iconst (v := 1) hx hb d_M_some_62 (by decide) ?_
              refine lv_goto (tgt := 67) hx hb d_M_some_63 (by decide) ?_
              refine x_topi (y := bI (q_some X j b u i)) (by unfold q_some; rw [z1, z2, decide_eq_true z4]; simp; rfl) ?_
              exact hj _ _ ⟨(lv_sub hl [1, 2, 3, 4, 5, 6] rfl), rfl⟩
      · have z1 : (d_s X j i).1.testBit 0 = true := bt_of (fun z => z1 ((mb_0 _ h16).mpr z))
        refine lv_iconst (v := 1) hx hb d_M_some_38 (by decide) ?_
        refine lv_goto (tgt := 43) hx hb d_M_some_39 (by decide) ?_
        refine x_topi (y := bI true) rfl ?_
        refine lv_iload_n hx hb d_M_some_43 rfl (lv_at hl 5 rfl) ?_
        refine lv_icmp_ne (tgt := 66) hx hb d_M_some_44 (by decide) (fun z2 => ?_) (fun z2 => ?_)
        · refine lv_iconst (v := 0) hx hb d_M_some_66 (by decide) ?_
          refine x_topi (y := bI (q_some X j b u i)) (by unfold q_some; rw [z1, show (true == b) = false from beq_eq_false_iff_ne.mpr (fun z => z2 (congrArg bI z))]; rfl) ?_
          exact hj _ _ ⟨(lv_sub hl [1, 2, 3, 4, 5, 6] rfl), rfl⟩
        · have z2 := bI_inj z2
          refine lv_iload_n hx hb d_M_some_47 rfl (lv_at hl 6 rfl) ?_
          refine lv_if_lt (tgt := 62) hx hb d_M_some_48 (by decide) (fun z3 => ?_) (fun z3 => ?_)
          · refine lv_iconst (v := 1) hx hb d_M_some_62 (by decide) ?_
            refine lv_goto (tgt := 67) hx hb d_M_some_63 (by decide) ?_
            refine x_topi (y := bI (q_some X j b u i)) (by unfold q_some; rw [z1, z2, decide_eq_true z3]; simp; rfl) ?_
            exact hj _ _ ⟨(lv_sub hl [1, 2, 3, 4, 5, 6] rfl), rfl⟩
          · refine lv_aload_n hx hb d_M_some_51 rfl (lv_at hl 3 rfl) ?_
            refine fg_M_61_M hx hb hown hts hE hW.1 rfl d_M_some_52 ?_
            refine lv_iload hx hb d_M_some_55 (lv_at hl 0 rfl) ?_
            refine x_iald hx hb hE.2.2 (show va_at D x_cl (m + 17, .inl (cA 0, 36, .inl (m_i Y 17))) _ from hW.2 17 (by decide) (by decide)) 0 rfl (by omega) (by decide) d_M_some_57 ?_
            refine x_topi (y := (d_s X j i).2.2.2.1) s4 ?_
            refine lv_iload_n hx hb d_M_some_58 rfl (lv_at hl 6 rfl) ?_
            refine lv_icmp_ne (tgt := 66) hx hb d_M_some_59 (by decide) (fun z4 => ?_) (fun z4 => ?_)
            · refine lv_iconst (v := 0) hx hb d_M_some_66 (by decide) ?_
              refine x_topi (y := bI (q_some X j b u i)) (by unfold q_some; rw [z1, z2, decide_eq_false z3, decide_eq_false z4]; simp; rfl) ?_
              exact hj _ _ ⟨(lv_sub hl [1, 2, 3, 4, 5, 6] rfl), rfl⟩
            · refine lv_iconst (v := 1) hx hb d_M_some_62 (by decide) ?_
              refine lv_goto (tgt := 67) hx hb d_M_some_63 (by decide) ?_
              refine x_topi (y := bI (q_some X j b u i)) (by unfold q_some; rw [z1, z2, decide_eq_true z4]; simp; rfl) ?_
              exact hj _ _ ⟨(lv_sub hl [1, 2, 3, 4, 5, 6] rfl), rfl⟩
