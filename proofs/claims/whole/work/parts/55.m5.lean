set_option maxHeartbeats 4000000 in
set_option maxRecDepth 100000 in
theorem c_M_tested (l : Launch) (D : va_G) (cA : Nat → ClassId) (m : Nat) (Y : m_T) (c o k : Nat) (t : Int64) (mk : Nat) (hc : c < 520) (ho : o < 8) (hk : k < 8) (hm : mk < 8) (hvo : vl_ok (m_i Y 1)) (e4 : m_i Y 4 c = nI o) (e5 : m_i Y 5 c = nI k) (e6 : m_i Y 6 c = nI mk) (e8 : m_l Y 8 c = t) : Met l y_M_tested [.code y_M_tested b_M_tested 8 (some .boolean)] (x_rm 5 0 0) (x_P D cA [.ref m, .int (nI c)] (fun H => m_W D cA m Y H)) (x_Q (some (.int (bI (cn_t (m_i Y 1) (m_l Y 2) o k t mk)))) (fun H H1 => x_F (m_tA m) H H1 ∧ ∃ (t : Nat) (f : Nat → Int32), m_W D cA m (m_tk Y t f) H1)) 0 0 (m_tA m) := by
  refine x_met (own := "DecisionLayersModel") (by decide) rfl (Nat.le_of_ble_eq_true rfl) ?_
  intro pp ee s mm below mt cd ls hx hb hr hlk hnm hml hown hts hE hP hl
  have hl : lv_has ls 8 [(0, .ref m), (1, .int (nI c))] := hl
  have hF : ∀ q ∈ ([] : List Loc), m_tA m q.base := t_nil
  obtain ⟨n, hn4, hn⟩ := hvo k hk
  have hW := hP
  refine lv_aload_n hx hb d_M_tested_0 rfl (lv_at hl 0 rfl) ?_
  refine fg_M_24_M hx hb hown hts hE hW.1 rfl d_M_tested_1 ?_
  refine lv_iload_n hx hb d_M_tested_4 rfl (lv_at hl 1 rfl) ?_
  refine x_bald hx hb hE.2.2 (show va_at D x_cl (m + 5, .inl (cA 2, 520, .inl (m_i Y 5))) _ from hW.2 5 (by decide) (by decide)) 2 rfl hc (by decide) d_M_tested_5 ?_
  refine x_topi (y := nI k) e5 ?_
  refine lv_istore_n (lv' := [(2, .int (nI k)), (0, .ref m), (1, .int (nI c))]) hx hb d_M_tested_6 rfl hl (by decide) rfl (fun ls hl => ?_)
  refine lv_aload_n hx hb d_M_tested_7 rfl (lv_at hl 1 rfl) ?_
  refine fg_M_27_M hx hb hown hts hE hW.1 rfl d_M_tested_8 ?_
  refine lv_iload_n hx hb d_M_tested_11 rfl (lv_at hl 2 rfl) ?_
  refine x_bald hx hb hE.2.2 (show va_at D x_cl (m + 6, .inl (cA 2, 520, .inl (m_i Y 6))) _ from hW.2 6 (by decide) (by decide)) 2 rfl hc (by decide) d_M_tested_12 ?_
  refine x_topi (y := nI mk) e6 ?_
  refine lv_iconst (v := 1) hx hb d_M_tested_13 (by decide) ?_
  refine lv_iand hx hb d_M_tested_14 ?_
  refine x_topi (y := bI (mk.testBit 0)) (mk_1 mk (by omega)) ?_
  refine x_join 23 (fun ls st => lv_has ls 8 [(2, .int (nI k)), (0, .ref m), (1, .int (nI c))] ∧ st = [.int (bI (mk.testBit 0))]) ?_ (fun hj => ?_)
  · intro ls st hj
    obtain ⟨hl, rfl⟩ := hj
    refine lv_istore_n (lv' := [(3, .int (bI (mk.testBit 0))), (2, .int (nI k)), (0, .ref m), (1, .int (nI c))]) hx hb d_M_tested_23 rfl hl (by decide) rfl (fun ls hl => ?_)
    refine lv_aload_n hx hb d_M_tested_24 rfl (lv_at hl 2 rfl) ?_
    refine fg_M_27_M hx hb hown hts hE hW.1 rfl d_M_tested_25 ?_
    refine lv_iload_n hx hb d_M_tested_28 rfl (lv_at hl 3 rfl) ?_
    refine x_bald hx hb hE.2.2 (show va_at D x_cl (m + 6, .inl (cA 2, 520, .inl (m_i Y 6))) _ from hW.2 6 (by decide) (by decide)) 2 rfl hc (by decide) d_M_tested_29 ?_
    refine x_topi (y := nI mk) e6 ?_
    refine lv_iconst (v := 4) hx hb d_M_tested_30 (by decide) ?_
    refine lv_iand hx hb d_M_tested_31 ?_
    refine x_join 40 (fun ls st => lv_has ls 8 [(3, .int (bI (mk.testBit 0))), (2, .int (nI k)), (0, .ref m), (1, .int (nI c))] ∧ st = [.int (bI (mk.testBit 2))]) ?_ (fun hj => ?_)
    · intro ls st hj
      obtain ⟨hl, rfl⟩ := hj
      refine lv_istore (lv' := [(4, .int (bI (mk.testBit 2))), (3, .int (bI (mk.testBit 0))), (2, .int (nI k)), (0, .ref m), (1, .int (nI c))]) hx hb d_M_tested_40 hl (by decide) rfl (fun ls hl => ?_)
      refine lv_aload_n hx hb d_M_tested_42 rfl (lv_at hl 3 rfl) ?_
      refine fg_M_21_M hx hb hown hts hE hW.1 rfl d_M_tested_43 ?_
      refine lv_iload_n hx hb d_M_tested_46 rfl (lv_at hl 4 rfl) ?_
      refine x_bald hx hb hE.2.2 (show va_at D x_cl (m + 4, .inl (cA 2, 520, .inl (m_i Y 4))) _ from hW.2 4 (by decide) (by decide)) 2 rfl hc (by decide) d_M_tested_47 ?_
      refine x_topi (y := nI o) e4 ?_
      refine lv_bipush (v := 7) hx hb d_M_tested_48 (by decide) ?_
      refine lv_icmp_ne (tgt := 101) hx hb d_M_tested_50 (by decide) (fun h7 => ?_) (fun h7 => ?_)
      · have ho7 : ¬ o = 7 := fun z => h7 (by rw [z]; rfl)
        refine lv_aload_n hx hb d_M_tested_101 rfl (lv_at hl 3 rfl) ?_
        refine fg_M_7_M hx hb hown hts hE hW.1 rfl d_M_tested_102 ?_
        refine lv_iload_n hx hb d_M_tested_105 rfl (lv_at hl 2 rfl) ?_
        refine x_iald hx hb hE.2.2 (show va_at D x_cl (m + 1, .inl (cA 0, 8, .inl (m_i Y 1))) _ from hW.2 1 (by decide) (by decide)) 0 rfl hk (by decide) d_M_tested_106 ?_
        refine x_topi (y := nI n) hn ?_
        refine lv_if_ne (tgt := 125) hx hb d_M_tested_107 (by decide) (fun hz => ?_) (fun hz => ?_)
        · have hn0 : 0 < n := Nat.pos_of_ne_zero (fun z => hz (by rw [z]; rfl))
          have hR := cn_t_m (row := (m_l Y 2)) (t := t) (mk := mk) ho7 hn hn0 hn4
          refine lv_iconst (v := 0) hx hb d_M_tested_125 (by decide) ?_
          refine lv_istore (lv' := [(5, .int 0), (4, .int (bI (mk.testBit 2))), (3, .int (bI (mk.testBit 0))), (2, .int (nI k)), (0, .ref m), (1, .int (nI c))]) hx hb d_M_tested_126 hl (by decide) rfl (fun ls hl => ?_)
          refine lv_iconst (v := 0) hx hb d_M_tested_128 (by decide) ?_
          refine lv_istore (lv' := [(6, .int 0), (5, .int 0), (4, .int (bI (mk.testBit 2))), (3, .int (bI (mk.testBit 0))), (2, .int (nI k)), (0, .ref m), (1, .int (nI c))]) hx hb d_M_tested_129 hl (by decide) rfl (fun ls hl => ?_)
          refine x_loopH (I := fun r ls H locs => ∃ (i u : Nat) (f : Nat → Int32), i + r = n ∧ lv_has ls 8 [(6, .int (nI i)), (5, .int (nI (cn_n (cn_y (m_i Y 1) (m_l Y 2) o k t mk) i))), (4, .int (bI (mk.testBit 2))), (3, .int (bI (mk.testBit 0))), (2, .int (nI k)), (0, .ref m), (1, .int (nI c))] ∧ m_W D cA m (m_tk Y u f) H ∧ x_F (m_tA m) s.heap H ∧ ∀ q ∈ locs, m_tA m q.base) (fun r ls H locs ih h => ?_) (n) ⟨0, m_tn Y, m_i Y 20, by omega, (lv_sub hl [0, 1, 2, 3, 4, 5, 6] rfl), by rw [m_tk_self]; exact hP, x_F.rf, hF⟩
          obtain ⟨i, u, f, hir, hl, hW, hFr, hF⟩ := h
          have hle := cn_n_le (cn_y (m_i Y 1) (m_l Y 2) o k t mk) i
          refine lv_iload hx hb d_M_tested_131 (lv_at hl 0 rfl) ?_
          refine lv_aload_n hx hb d_M_tested_133 rfl (lv_at hl 5 rfl) ?_
          refine fg_M_7_M hx hb hown hts hE hW.1 rfl d_M_tested_134 ?_
          refine lv_iload_n hx hb d_M_tested_137 rfl (lv_at hl 4 rfl) ?_
          refine x_iald hx hb hE.2.2 (show va_at D x_cl (m + 1, .inl (cA 0, 8, .inl (m_i (m_tk Y u f) 1))) _ from hW.2 1 (by decide) (by decide)) 0 rfl hk (by decide) d_M_tested_138 ?_
          refine x_topi (y := nI n) hn ?_
          refine lv_icmp_ge (tgt := 194) hx hb d_M_tested_139 (by decide) (fun g1 => ?_) (fun g1 => ?_)
          · have g1 := n_ge g1 (by omega) (by omega)
            have hin : i = n := by omega
            refine lv_iload hx hb d_M_tested_194 (lv_at hl 2 rfl) ?_
            refine lv_if_eq (tgt := 218) hx hb d_M_tested_196 (by decide) (fun ea => ?_) (fun ea => ?_)
            · rw [bI_0.mp ea] at hR
              refine lv_iload hx hb d_M_tested_218 (lv_at hl 1 rfl) ?_
              refine lv_if_le (tgt := 227) hx hb d_M_tested_220 (by decide) (fun su => ?_) (fun su => ?_)
              · refine lv_iconst (v := 0) hx hb d_M_tested_227 (by decide) ?_
                refine x_topi (y := bI (cn_t (m_i Y 1) (m_l Y 2) o k t mk)) (by rw [hR]; show 0 = bI (decide _); rw [bI_no (fun z => absurd su (by rw [← hin] at z; rw [Int32.not_le]; exact (nI_ltI (by decide) (by omega) : nI 0 < nI _ ↔ _).mpr z))]) ?_
                exact W.zret (ty := .boolean) hx hb hr (bI_z _) (fun t ht _ => ⟨rfl, by rw [ht]; exact ⟨hFr, u, f, hW⟩⟩) hF d_M_tested_228
              · refine lv_iconst (v := 1) hx hb d_M_tested_223 (by decide) ?_
                refine lv_goto (tgt := 228) hx hb d_M_tested_224 (by decide) ?_
                refine x_topi (y := bI (cn_t (m_i Y 1) (m_l Y 2) o k t mk)) (by rw [hR]; show 1 = bI (decide _); rw [bI_of (show 0 < cn_n (cn_y (m_i Y 1) (m_l Y 2) o k t mk) n by rw [← hin]; exact (nI_ltI (by decide) (by omega) : nI 0 < nI _ ↔ _).mp (Int32.not_le.mp su))]) ?_
                exact W.zret (ty := .boolean) hx hb hr (bI_z _) (fun t ht _ => ⟨rfl, by rw [ht]; exact ⟨hFr, u, f, hW⟩⟩) hF d_M_tested_228
            · rw [bI_n0.mp ea] at hR
              refine lv_iload hx hb d_M_tested_199 (lv_at hl 1 rfl) ?_
              refine lv_aload_n hx hb d_M_tested_201 rfl (lv_at hl 5 rfl) ?_
              refine fg_M_7_M hx hb hown hts hE hW.1 rfl d_M_tested_202 ?_
              refine lv_iload_n hx hb d_M_tested_205 rfl (lv_at hl 4 rfl) ?_
              refine x_iald hx hb hE.2.2 (show va_at D x_cl (m + 1, .inl (cA 0, 8, .inl (m_i (m_tk Y u f) 1))) _ from hW.2 1 (by decide) (by decide)) 0 rfl hk (by decide) d_M_tested_206 ?_
              refine x_topi (y := nI n) hn ?_
              refine lv_icmp_ne (tgt := 214) hx hb d_M_tested_207 (by decide) (fun su => ?_) (fun su => ?_)
              · refine lv_iconst (v := 0) hx hb d_M_tested_214 (by decide) ?_
                refine lv_goto (tgt := 228) hx hb d_M_tested_215 (by decide) ?_
                refine x_topi (y := bI (cn_t (m_i Y 1) (m_l Y 2) o k t mk)) (by rw [hR]; show 0 = bI (decide _); rw [bI_no (fun z => su (by rw [hin, z]))]) ?_
                exact W.zret (ty := .boolean) hx hb hr (bI_z _) (fun t ht _ => ⟨rfl, by rw [ht]; exact ⟨hFr, u, f, hW⟩⟩) hF d_M_tested_228
              · refine lv_iconst (v := 1) hx hb d_M_tested_210 (by decide) ?_
                refine lv_goto (tgt := 228) hx hb d_M_tested_211 (by decide) ?_
                refine x_topi (y := bI (cn_t (m_i Y 1) (m_l Y 2) o k t mk)) (by rw [hR]; show 1 = bI (decide _); rw [bI_of (show cn_n (cn_y (m_i Y 1) (m_l Y 2) o k t mk) n = n from by have h9 := cn_n_le (cn_y (m_i Y 1) (m_l Y 2) o k t mk) n; rw [hin] at su; exact (nI_eq (by omega) (by omega)).mp su)]) ?_
                exact W.zret (ty := .boolean) hx hb hr (bI_z _) (fun t ht _ => ⟨rfl, by rw [ht]; exact ⟨hFr, u, f, hW⟩⟩) hF d_M_tested_228
          · have g1 := n_lt g1 (by omega) (by omega)
            refine lv_aload_n hx hb d_M_tested_142 rfl (lv_at hl 5 rfl) ?_
            refine lv_aload_n hx hb d_M_tested_143 rfl (lv_at hl 5 rfl) ?_
            refine fg_M_21_M hx hb hown hts hE hW.1 rfl d_M_tested_144 ?_
            refine lv_iload_n hx hb d_M_tested_147 rfl (lv_at hl 6 rfl) ?_
            refine x_bald hx hb hE.2.2 (show va_at D x_cl (m + 4, .inl (cA 2, 520, .inl (m_i (m_tk Y u f) 4))) _ from hW.2 4 (by decide) (by decide)) 2 rfl hc (by decide) d_M_tested_148 ?_
            refine x_topi (y := nI o) e4 ?_
            refine lv_aload_n hx hb d_M_tested_149 rfl (lv_at hl 5 rfl) ?_
            refine fg_M_13_M hx hb hown hts hE hW.1 rfl d_M_tested_150 ?_
            refine lv_iconst (v := 4) hx hb d_M_tested_153 (by decide) ?_
            refine lv_iload_n hx hb d_M_tested_154 rfl (lv_at hl 4 rfl) ?_
            refine lv_imul hx hb d_M_tested_155 ?_
            refine x_topi (y := nI (4 * k)) (by rw [show (4 : Int32) = nI 4 from rfl, pk_mul]) ?_
            refine lv_iload hx hb d_M_tested_156 (lv_at hl 0 rfl) ?_
            refine lv_iadd hx hb d_M_tested_158 ?_
            refine x_topi (y := nI (4 * k + i)) (nI_add _ _) ?_
            refine x_lald hx hb hE.2.2 (show va_at D x_cl (m + 2, .inl (cA 1, 32, .inr (.inl (m_l (m_tk Y u f) 2)))) _ from hW.2 2 (by decide) (by decide)) 1 rfl (by omega) (by decide) d_M_tested_159 ?_
            refine x_topl (y := m_l Y 2 (4 * k + i)) rfl ?_
            refine lv_aload_n hx hb d_M_tested_160 rfl (lv_at hl 5 rfl) ?_
            refine fg_M_33_M hx hb hown hts hE hW.1 rfl d_M_tested_161 ?_
            refine lv_iload_n hx hb d_M_tested_164 rfl (lv_at hl 6 rfl) ?_
            refine x_lald hx hb hE.2.2 (show va_at D x_cl (m + 8, .inl (cA 1, 520, .inr (.inl (m_l (m_tk Y u f) 8)))) _ from hW.2 8 (by decide) (by decide)) 1 rfl hc (by decide) d_M_tested_165 ?_
            refine x_topl (y := t) e8 ?_
            refine x_cw (k_M_127 (As := [.int (nI o), .long (m_l Y 2 (4 * k + i)), .long t]) (rest := []) hx hb hml hown hts (c_M_answers l D cA m (m_tk Y u f) o (m_l Y 2 (4 * k + i)) t (by omega)) (x_preV hE hW.1 rfl rfl hW) rfl hl.1 rfl (Nat.le_of_ble_eq_true rfl) d_M_tested_166 (by decide) ⟨Nat.zero_le _, Nat.zero_le _⟩) (fun H1 L1 p1 f1 => ?_)
            have hF := t_lL hF (fun q h => (fun q h => h) q.base (f1 q h))
            obtain ⟨f1e, u1, f9, hW1⟩ := p1
            rw [m_tk_tk] at hW1
            refine x_topi (y := bI (cn_a (m_i Y 1) (m_l Y 2) o (m_l Y 2 (4 * k + i)) t)) rfl ?_
            refine lv_istore (lv' := [(7, .int (bI (cn_a (m_i Y 1) (m_l Y 2) o (m_l Y 2 (4 * k + i)) t))), (6, .int (nI i)), (5, .int (nI (cn_n (cn_y (m_i Y 1) (m_l Y 2) o k t mk) i))), (4, .int (bI (mk.testBit 2))), (3, .int (bI (mk.testBit 0))), (2, .int (nI k)), (0, .ref m), (1, .int (nI c))]) hx hb d_M_tested_169 hl (by decide) rfl (fun ls hl => ?_)
            refine lv_iload hx hb d_M_tested_171 (lv_at hl 0 rfl) ?_
            refine lv_iload_n hx hb d_M_tested_173 rfl (lv_at hl 4 rfl) ?_
            refine lv_icmp_eq (tgt := 184) hx hb d_M_tested_174 (by decide) (fun he => ?_) (fun he => ?_)
            · refine lv_iload hx hb d_M_tested_184 (lv_at hl 2 rfl) ?_
              refine lv_istore (lv' := [(5, .int (nI (cn_n (cn_y (m_i Y 1) (m_l Y 2) o k t mk) i))), (7, .int (bI (cn_a (m_i Y 1) (m_l Y 2) o (m_l Y 2 (4 * k + i)) t))), (6, .int (nI i)), (4, .int (bI (mk.testBit 2))), (3, .int (bI (mk.testBit 0))), (2, .int (nI k)), (0, .ref m), (1, .int (nI c))]) hx hb d_M_tested_186 hl (by decide) rfl (fun ls hl => ?_)
              refine lv_iinc (k := 2) (v := nI (i + 1)) (lv' := [(6, .int (nI (i + 1))), (5, .int (nI (cn_n (cn_y (m_i Y 1) (m_l Y 2) o k t mk) i))), (7, .int (bI (cn_a (m_i Y 1) (m_l Y 2) o (m_l Y 2 (4 * k + i)) t))), (4, .int (bI (mk.testBit 2))), (3, .int (bI (mk.testBit 0))), (2, .int (nI k)), (0, .ref m), (1, .int (nI c))]) hx hb d_M_tested_188 hl rfl (x_inc _) (by decide) rfl (fun ls hl => ?_)
              refine lv_goto (tgt := 131) hx hb d_M_tested_191 (by decide) ?_
              exact ih (r - 1) _ _ _ (by omega) ⟨i + 1, u1, f9, by omega, by
                have h9 := (lv_sub hl [0, 1, 3, 4, 5, 6, 7] rfl)
                rw [show cn_n (cn_y (m_i Y 1) (m_l Y 2) o k t mk) (i + 1) = cn_n (cn_y (m_i Y 1) (m_l Y 2) o k t mk) i by
                  show (if _ then _ else _) = _
                  rw [if_neg (by show ¬ (_ != _) = true; rw [bI_eq.mp he]; cases mk.testBit 0 <;> decide)]]; exact h9, hW1, hFr.trans f1e, hF⟩
            · refine lv_iload hx hb d_M_tested_177 (lv_at hl 2 rfl) ?_
              refine lv_iconst (v := 1) hx hb d_M_tested_179 (by decide) ?_
              refine lv_iadd hx hb d_M_tested_180 ?_
              refine x_topi (y := nI (cn_n (cn_y (m_i Y 1) (m_l Y 2) o k t mk) i + 1)) (nI_succ _).symm ?_
              refine lv_goto (tgt := 186) hx hb d_M_tested_181 (by decide) ?_
              refine lv_istore (lv' := [(5, .int (nI (cn_n (cn_y (m_i Y 1) (m_l Y 2) o k t mk) i + 1))), (7, .int (bI (cn_a (m_i Y 1) (m_l Y 2) o (m_l Y 2 (4 * k + i)) t))), (6, .int (nI i)), (4, .int (bI (mk.testBit 2))), (3, .int (bI (mk.testBit 0))), (2, .int (nI k)), (0, .ref m), (1, .int (nI c))]) hx hb d_M_tested_186 hl (by decide) rfl (fun ls hl => ?_)
              refine lv_iinc (k := 2) (v := nI (i + 1)) (lv' := [(6, .int (nI (i + 1))), (5, .int (nI (cn_n (cn_y (m_i Y 1) (m_l Y 2) o k t mk) i + 1))), (7, .int (bI (cn_a (m_i Y 1) (m_l Y 2) o (m_l Y 2 (4 * k + i)) t))), (4, .int (bI (mk.testBit 2))), (3, .int (bI (mk.testBit 0))), (2, .int (nI k)), (0, .ref m), (1, .int (nI c))]) hx hb d_M_tested_188 hl rfl (x_inc _) (by decide) rfl (fun ls hl => ?_)
              refine lv_goto (tgt := 131) hx hb d_M_tested_191 (by decide) ?_
              exact ih (r - 1) _ _ _ (by omega) ⟨i + 1, u1, f9, by omega, by
                have h9 := (lv_sub hl [0, 1, 3, 4, 5, 6, 7] rfl)
                rw [show cn_n (cn_y (m_i Y 1) (m_l Y 2) o k t mk) (i + 1) = cn_n (cn_y (m_i Y 1) (m_l Y 2) o k t mk) i + 1 by
                  have hy : (cn_y (m_i Y 1) (m_l Y 2) o k t mk) i = true := by
                    show (_ != _) = true
                    have he2 := fun z => he (bI_eq.mpr z)
                    revert he2; cases cn_a (m_i Y 1) (m_l Y 2) o (m_l Y 2 (4 * k + i)) t <;> cases mk.testBit 0 <;> intro he2 <;> first | rfl | exact absurd rfl he2
                  show (if _ then _ else _) = _
                  rw [if_pos hy]]; exact h9, hW1, hFr.trans f1e, hF⟩
        · have hz : m_i Y 1 k = 0 := by rw [hn]; exact hz
          refine lv_aload_n hx hb d_M_tested_110 rfl (lv_at hl 3 rfl) ?_
          refine fg_M_27_M hx hb hown hts hE hW.1 rfl d_M_tested_111 ?_
          refine lv_iload_n hx hb d_M_tested_114 rfl (lv_at hl 4 rfl) ?_
          refine x_bald hx hb hE.2.2 (show va_at D x_cl (m + 6, .inl (cA 2, 520, .inl (m_i Y 6))) _ from hW.2 6 (by decide) (by decide)) 2 rfl hc (by decide) d_M_tested_115 ?_
          refine x_topi (y := nI mk) e6 ?_
          refine lv_if_eq (tgt := 123) hx hb d_M_tested_116 (by decide) (fun hm0 => ?_) (fun hm0 => ?_)
          · refine lv_iconst (v := 0) hx hb d_M_tested_123 (by decide) ?_
            refine x_topi (y := bI (cn_t (m_i Y 1) (m_l Y 2) o k t mk)) (by rw [cn_t_no ho7 hz, bI_no (fun z => z ((nI_eq (by omega) (by decide) : nI mk = nI 0 ↔ mk = 0).mp hm0))]) ?_
            exact W.zret (ty := .boolean) hx hb hr (bI_z _) (fun t ht _ => ⟨rfl, by rw [ht]; exact ⟨x_F.rf, m_tn Y, m_i Y 20, by rw [m_tk_self]; exact hP⟩⟩) hF d_M_tested_124
          · refine lv_iconst (v := 1) hx hb d_M_tested_119 (by decide) ?_
            refine lv_goto (tgt := 124) hx hb d_M_tested_120 (by decide) ?_
            refine x_topi (y := bI (cn_t (m_i Y 1) (m_l Y 2) o k t mk)) (by rw [cn_t_no ho7 hz, bI_of (show mk ≠ 0 from fun z => hm0 (by rw [z]; rfl))]) ?_
            exact W.zret (ty := .boolean) hx hb hr (bI_z _) (fun t ht _ => ⟨rfl, by rw [ht]; exact ⟨x_F.rf, m_tn Y, m_i Y 20, by rw [m_tk_self]; exact hP⟩⟩) hF d_M_tested_124
      · obtain rfl : o = 7 := (nI_eq (by omega) (by decide)).mp h7
        refine lv_aload_n hx hb d_M_tested_53 rfl (lv_at hl 3 rfl) ?_
        refine fg_M_7_M hx hb hown hts hE hW.1 rfl d_M_tested_54 ?_
        refine lv_iload_n hx hb d_M_tested_57 rfl (lv_at hl 2 rfl) ?_
        refine x_iald hx hb hE.2.2 (show va_at D x_cl (m + 1, .inl (cA 0, 8, .inl (m_i Y 1))) _ from hW.2 1 (by decide) (by decide)) 0 rfl hk (by decide) d_M_tested_58 ?_
        refine x_topi (y := nI n) hn ?_
        refine lv_if_ne (tgt := 66) hx hb d_M_tested_59 (by decide) (fun hz => ?_) (fun hz => ?_)
        · refine lv_iconst (v := 0) hx hb d_M_tested_66 (by decide) ?_
          refine lv_aload_n hx hb d_M_tested_67 rfl (lv_at hl 3 rfl) ?_
          refine fg_M_33_M hx hb hown hts hE hW.1 rfl d_M_tested_68 ?_
          refine lv_iload_n hx hb d_M_tested_71 rfl (lv_at hl 4 rfl) ?_
          refine x_lald hx hb hE.2.2 (show va_at D x_cl (m + 8, .inl (cA 1, 520, .inr (.inl (m_l Y 8)))) _ from hW.2 8 (by decide) (by decide)) 1 rfl hc (by decide) d_M_tested_72 ?_
          refine x_topl (y := t) e8 ?_
          refine lv_lconst (v := 0) hx hb d_M_tested_73 (by decide) ?_
          refine W.lcmp hx hb d_M_tested_74 ?_
          refine lv_if_eq (tgt := 82) hx hb d_M_tested_75 (by decide) (fun ht0 => ?_) (fun ht0 => ?_)
          · refine lv_iconst (v := 0) hx hb d_M_tested_82 (by decide) ?_
            refine lv_icmp_ne (tgt := 90) hx hb d_M_tested_83 (by decide) (fun hk => ?_) (fun hk => ?_)
            · exact absurd hk (by decide)
            · refine lv_iconst (v := 1) hx hb d_M_tested_86 (by decide) ?_
              refine lv_goto (tgt := 91) hx hb d_M_tested_87 (by decide) ?_
              refine lv_iload_n hx hb d_M_tested_91 rfl (lv_at hl 1 rfl) ?_
              refine lv_icmp_eq (tgt := 99) hx hb d_M_tested_92 (by decide) (fun hs => ?_) (fun hs => ?_)
              · refine lv_iconst (v := 0) hx hb d_M_tested_99 (by decide) ?_
                refine x_topi (y := bI (cn_t (m_i Y 1) (m_l Y 2) 7 k t mk)) (by show _ = bI ((decide (m_i Y 1 k = 0) == decide (t ≠ 0)) != mk.testBit 0); rw [decide_eq_false (show ¬ m_i Y 1 k = 0 by rw [hn]; exact hz), decide_eq_false (show ¬ t ≠ 0 from fun z => z ((lg_cmp_eq _ _).mp ht0)), bI_1.mp hs.symm]; rfl) ?_
                exact W.zret (ty := .boolean) hx hb hr (bI_z _) (fun t ht _ => ⟨rfl, by rw [ht]; exact ⟨x_F.rf, m_tn Y, m_i Y 20, by rw [m_tk_self]; exact hP⟩⟩) hF d_M_tested_100
              · refine lv_iconst (v := 1) hx hb d_M_tested_95 (by decide) ?_
                refine lv_goto (tgt := 100) hx hb d_M_tested_96 (by decide) ?_
                refine x_topi (y := bI (cn_t (m_i Y 1) (m_l Y 2) 7 k t mk)) (by show _ = bI ((decide (m_i Y 1 k = 0) == decide (t ≠ 0)) != mk.testBit 0); rw [decide_eq_false (show ¬ m_i Y 1 k = 0 by rw [hn]; exact hz), decide_eq_false (show ¬ t ≠ 0 from fun z => z ((lg_cmp_eq _ _).mp ht0)), bI_n1.mp (fun z => hs z.symm)]; rfl) ?_
                exact W.zret (ty := .boolean) hx hb hr (bI_z _) (fun t ht _ => ⟨rfl, by rw [ht]; exact ⟨x_F.rf, m_tn Y, m_i Y 20, by rw [m_tk_self]; exact hP⟩⟩) hF d_M_tested_100
          · refine lv_iconst (v := 1) hx hb d_M_tested_78 (by decide) ?_
            refine lv_goto (tgt := 83) hx hb d_M_tested_79 (by decide) ?_
            refine lv_icmp_ne (tgt := 90) hx hb d_M_tested_83 (by decide) (fun hk => ?_) (fun hk => ?_)
            · refine lv_iconst (v := 0) hx hb d_M_tested_90 (by decide) ?_
              refine lv_iload_n hx hb d_M_tested_91 rfl (lv_at hl 1 rfl) ?_
              refine lv_icmp_eq (tgt := 99) hx hb d_M_tested_92 (by decide) (fun hs => ?_) (fun hs => ?_)
              · refine lv_iconst (v := 0) hx hb d_M_tested_99 (by decide) ?_
                refine x_topi (y := bI (cn_t (m_i Y 1) (m_l Y 2) 7 k t mk)) (by show _ = bI ((decide (m_i Y 1 k = 0) == decide (t ≠ 0)) != mk.testBit 0); rw [decide_eq_false (show ¬ m_i Y 1 k = 0 by rw [hn]; exact hz), decide_eq_true (show t ≠ 0 from fun z => ht0 ((lg_cmp_eq _ _).mpr z)), bI_0.mp hs.symm]; rfl) ?_
                exact W.zret (ty := .boolean) hx hb hr (bI_z _) (fun t ht _ => ⟨rfl, by rw [ht]; exact ⟨x_F.rf, m_tn Y, m_i Y 20, by rw [m_tk_self]; exact hP⟩⟩) hF d_M_tested_100
              · refine lv_iconst (v := 1) hx hb d_M_tested_95 (by decide) ?_
                refine lv_goto (tgt := 100) hx hb d_M_tested_96 (by decide) ?_
                refine x_topi (y := bI (cn_t (m_i Y 1) (m_l Y 2) 7 k t mk)) (by show _ = bI ((decide (m_i Y 1 k = 0) == decide (t ≠ 0)) != mk.testBit 0); rw [decide_eq_false (show ¬ m_i Y 1 k = 0 by rw [hn]; exact hz), decide_eq_true (show t ≠ 0 from fun z => ht0 ((lg_cmp_eq _ _).mpr z)), bI_n0.mp (fun z => hs z.symm)]; rfl) ?_
                exact W.zret (ty := .boolean) hx hb hr (bI_z _) (fun t ht _ => ⟨rfl, by rw [ht]; exact ⟨x_F.rf, m_tn Y, m_i Y 20, by rw [m_tk_self]; exact hP⟩⟩) hF d_M_tested_100
            · exact absurd hk (by decide)
        · refine lv_iconst (v := 1) hx hb d_M_tested_62 (by decide) ?_
          refine lv_goto (tgt := 67) hx hb d_M_tested_63 (by decide) ?_
          refine lv_aload_n hx hb d_M_tested_67 rfl (lv_at hl 3 rfl) ?_
          refine fg_M_33_M hx hb hown hts hE hW.1 rfl d_M_tested_68 ?_
          refine lv_iload_n hx hb d_M_tested_71 rfl (lv_at hl 4 rfl) ?_
          refine x_lald hx hb hE.2.2 (show va_at D x_cl (m + 8, .inl (cA 1, 520, .inr (.inl (m_l Y 8)))) _ from hW.2 8 (by decide) (by decide)) 1 rfl hc (by decide) d_M_tested_72 ?_
          refine x_topl (y := t) e8 ?_
          refine lv_lconst (v := 0) hx hb d_M_tested_73 (by decide) ?_
          refine W.lcmp hx hb d_M_tested_74 ?_
          refine lv_if_eq (tgt := 82) hx hb d_M_tested_75 (by decide) (fun ht0 => ?_) (fun ht0 => ?_)
          · refine lv_iconst (v := 0) hx hb d_M_tested_82 (by decide) ?_
            refine lv_icmp_ne (tgt := 90) hx hb d_M_tested_83 (by decide) (fun hk => ?_) (fun hk => ?_)
            · refine lv_iconst (v := 0) hx hb d_M_tested_90 (by decide) ?_
              refine lv_iload_n hx hb d_M_tested_91 rfl (lv_at hl 1 rfl) ?_
              refine lv_icmp_eq (tgt := 99) hx hb d_M_tested_92 (by decide) (fun hs => ?_) (fun hs => ?_)
              · refine lv_iconst (v := 0) hx hb d_M_tested_99 (by decide) ?_
                refine x_topi (y := bI (cn_t (m_i Y 1) (m_l Y 2) 7 k t mk)) (by show _ = bI ((decide (m_i Y 1 k = 0) == decide (t ≠ 0)) != mk.testBit 0); rw [decide_eq_true (show m_i Y 1 k = 0 by rw [hn]; exact hz), decide_eq_false (show ¬ t ≠ 0 from fun z => z ((lg_cmp_eq _ _).mp ht0)), bI_0.mp hs.symm]; rfl) ?_
                exact W.zret (ty := .boolean) hx hb hr (bI_z _) (fun t ht _ => ⟨rfl, by rw [ht]; exact ⟨x_F.rf, m_tn Y, m_i Y 20, by rw [m_tk_self]; exact hP⟩⟩) hF d_M_tested_100
              · refine lv_iconst (v := 1) hx hb d_M_tested_95 (by decide) ?_
                refine lv_goto (tgt := 100) hx hb d_M_tested_96 (by decide) ?_
                refine x_topi (y := bI (cn_t (m_i Y 1) (m_l Y 2) 7 k t mk)) (by show _ = bI ((decide (m_i Y 1 k = 0) == decide (t ≠ 0)) != mk.testBit 0); rw [decide_eq_true (show m_i Y 1 k = 0 by rw [hn]; exact hz), decide_eq_false (show ¬ t ≠ 0 from fun z => z ((lg_cmp_eq _ _).mp ht0)), bI_n0.mp (fun z => hs z.symm)]; rfl) ?_
                exact W.zret (ty := .boolean) hx hb hr (bI_z _) (fun t ht _ => ⟨rfl, by rw [ht]; exact ⟨x_F.rf, m_tn Y, m_i Y 20, by rw [m_tk_self]; exact hP⟩⟩) hF d_M_tested_100
            · exact absurd hk (by decide)
          · refine lv_iconst (v := 1) hx hb d_M_tested_78 (by decide) ?_
            refine lv_goto (tgt := 83) hx hb d_M_tested_79 (by decide) ?_
            refine lv_icmp_ne (tgt := 90) hx hb d_M_tested_83 (by decide) (fun hk => ?_) (fun hk => ?_)
            · exact absurd hk (by decide)
            · refine lv_iconst (v := 1) hx hb d_M_tested_86 (by decide) ?_
              refine lv_goto (tgt := 91) hx hb d_M_tested_87 (by decide) ?_
              refine lv_iload_n hx hb d_M_tested_91 rfl (lv_at hl 1 rfl) ?_
              refine lv_icmp_eq (tgt := 99) hx hb d_M_tested_92 (by decide) (fun hs => ?_) (fun hs => ?_)
              · refine lv_iconst (v := 0) hx hb d_M_tested_99 (by decide) ?_
                refine x_topi (y := bI (cn_t (m_i Y 1) (m_l Y 2) 7 k t mk)) (by show _ = bI ((decide (m_i Y 1 k = 0) == decide (t ≠ 0)) != mk.testBit 0); rw [decide_eq_true (show m_i Y 1 k = 0 by rw [hn]; exact hz), decide_eq_true (show t ≠ 0 from fun z => ht0 ((lg_cmp_eq _ _).mpr z)), bI_1.mp hs.symm]; rfl) ?_
                exact W.zret (ty := .boolean) hx hb hr (bI_z _) (fun t ht _ => ⟨rfl, by rw [ht]; exact ⟨x_F.rf, m_tn Y, m_i Y 20, by rw [m_tk_self]; exact hP⟩⟩) hF d_M_tested_100
              · refine lv_iconst (v := 1) hx hb d_M_tested_95 (by decide) ?_
                refine lv_goto (tgt := 100) hx hb d_M_tested_96 (by decide) ?_
                refine x_topi (y := bI (cn_t (m_i Y 1) (m_l Y 2) 7 k t mk)) (by show _ = bI ((decide (m_i Y 1 k = 0) == decide (t ≠ 0)) != mk.testBit 0); rw [decide_eq_true (show m_i Y 1 k = 0 by rw [hn]; exact hz), decide_eq_true (show t ≠ 0 from fun z => ht0 ((lg_cmp_eq _ _).mpr z)), bI_n1.mp (fun z => hs z.symm)]; rfl) ?_
                exact W.zret (ty := .boolean) hx hb hr (bI_z _) (fun t ht _ => ⟨rfl, by rw [ht]; exact ⟨x_F.rf, m_tn Y, m_i Y 20, by rw [m_tk_self]; exact hP⟩⟩) hF d_M_tested_100
    · refine lv_if_eq (tgt := 39) hx hb d_M_tested_32 (by decide) (fun h1 => ?_) (fun h1 => ?_)
      · refine lv_iconst (v := 0) hx hb d_M_tested_39 (by decide) ?_
        refine x_topi (y := bI (mk.testBit 2)) (by rw [(mk_4 mk (by omega)).mp h1]; rfl) ?_
        exact hj _ _ ⟨(lv_sub hl [0, 1, 2, 3] rfl), rfl⟩
      · refine lv_iconst (v := 1) hx hb d_M_tested_35 (by decide) ?_
        refine lv_goto (tgt := 40) hx hb d_M_tested_36 (by decide) ?_
        refine x_topi (y := bI (mk.testBit 2)) (by rw [show mk.testBit 2 = true from Bool.not_eq_false _ ▸ (fun z => h1 ((mk_4 mk (by omega)).mpr z))]; rfl) ?_
        exact hj _ _ ⟨(lv_sub hl [0, 1, 2, 3] rfl), rfl⟩
  · refine lv_if_eq (tgt := 22) hx hb d_M_tested_15 (by decide) (fun h1 => ?_) (fun h1 => ?_)
    · refine lv_iconst (v := 0) hx hb d_M_tested_22 (by decide) ?_
      refine x_topi (y := bI (mk.testBit 0)) (by rw [bI_0.mp h1]; rfl) ?_
      exact hj _ _ ⟨(lv_sub hl [0, 1, 2] rfl), rfl⟩
    · refine lv_iconst (v := 1) hx hb d_M_tested_18 (by decide) ?_
      refine lv_goto (tgt := 23) hx hb d_M_tested_19 (by decide) ?_
      refine x_topi (y := bI (mk.testBit 0)) (by rw [bI_n0.mp h1]; rfl) ?_
      exact hj _ _ ⟨(lv_sub hl [0, 1, 2] rfl), rfl⟩
