/-! the law's turns -/
def l_lg (a b : Int32) : Int64 := (a.toInt64 <<< ((32 : Int32).toInt64 &&& 63)) ||| (b.toInt64 &&& 4294967295)
theorem l_k1 (i : Nat) : nI i + 1 = nI (i + 1) := (nI_succ i).symm
theorem l_k2 (i : Nat) : nI i + 2 = nI (i + 2) := nI_add i 2
theorem l_k3 (i : Nat) : nI i + 3 = nI (i + 3) := nI_add i 3
theorem l_k4 (i : Nat) : nI i + 4 = nI (i + 4) := nI_add i 4
theorem l_k5 (i : Nat) : nI i + 5 = nI (i + 5) := nI_add i 5
theorem l_k6 (i : Nat) : nI i + 6 = nI (i + 6) := nI_add i 6
theorem l_k7 (i : Nat) : nI i + 7 = nI (i + 7) := nI_add i 7
theorem l_k8 (i : Nat) : nI i + 8 = nI (i + 8) := nI_add i 8
theorem l_AG {o sz : Nat} (h : o + 75 ≤ sz) (q : Nat) (hq : x_AG (d_A o) sz q) : x_up o q := by
  rcases hq with z | z
  · exact z.1
  · exact Nat.le_trans (Nat.le_trans (Nat.le_add_right o 75) h) z
theorem l_A2 {o : Nat} (q : Nat) (h : x_A [o, o + 4] q) : d_A o q := by
  rcases x_A2.mp h with z | z
  · rw [z]; exact d_A_in (by omega) (by omega)
  · rw [z]; exact d_A_in (by omega) (by omega)
theorem l_A2_up {o : Nat} (q : Nat) (h : x_A [o, o + 4] q) : x_up o q := d_A_up q (l_A2 q h)
theorem l_cmp {L i : Nat} (hL : L ≤ 4096) (hi : i ≤ 4096) (h : ¬ nI L - 8 < nI i) : i + 8 ≤ L := by
  rw [show (8 : Int32) = nI 8 from rfl, Int32.lt_iff_toInt_lt, pk_sub_toInt (by omega) (by decide), nI_toInt (by omega)] at h
  omega
theorem l_and (x : Int32) : ∃ k : Nat, k < 16 ∧ x &&& 15 = nI k := pk_andE x 4 (by decide)
theorem x_sld {p : Program} {l : Launch} {e : Env} {R : Room} {s : State} {m : MethodId} {args : Array Value} {below : List Frame} {meth : Method} {c : Code} {H H0 : Heap} {locs : List Loc} {cells slots : Nat} {Q : State → Prop} {cc : ByteArray} {pc : Nat} {ls : Array Slot} {rest : List Value} (hx : p.tables.exec = Jvm.exec) (hb : c.code = cc) {b L o : Nat} {xs : Nat → Int32} (hX : va_X b L xs s H0) (hbl : b < H0.size) (hbo : b < o) (hV : va_S (x_up o) H0 H locs) {k : Nat} (hk : k < L) (hL : L ≤ 4096) (hdg : decode cc pc = .ok (.iaload, 1))
    (kk : W p l e R s m args below meth c H locs cells slots Q (F0 m (pc + 1) ls (.int (xs k) :: rest))) : W p l e R s m args below meth c H locs cells slots Q (F0 m pc ls (.int (nI k) :: .ref b :: rest)) := by
  refine va_sld hx hb hX hbl (fun z => absurd (x_up_le z) (by omega)) hV (vp_in_nI hk (by omega)) hdg ?_
  rw [nI_clamp (by omega)]; exact kk
set_option maxHeartbeats 4000000 in
set_option maxRecDepth 100000 in
theorem turn_0 (l : Launch) {pp : Program} {ee : Env} {s : State} {mm : MethodId} {below : List Frame} {mt : Method} {cd : Code} {Q : State → Prop} {b L : Nat} {xs : Nat → Int32} {D : va_G} {cA : Nat → ClassId} (hx : pp.tables.exec = Jvm.exec) (hb : cd.code = code) (hml : cd.maxLocals = 4) (hown : s.vm.findClass "DecisionLayersLaw" = some mm.cls) (hts : ∀ w ∈ w_g, w.before #[Value.ref b] s = true) (hE : x_E D cA s) (hXs : va_X b L xs s s.heap) (hbl : b < s.heap.size) {o : Nat} (hbo : b < o) (hL : L ≤ 4096) {i j made : Nat} {N : n_T} {X : d_T} {H : Heap} {locs : List Loc} {cells slots : Nat} {ls : Array Slot} (hj : j < 512) (hi : i + 8 ≤ L) (hjm : made ≤ j) (hl : lv_has ls 4 [(0, .ref b), (1, .ref o), (2, .ref (o + 54)), (3, .int (nI i))]) (hS : g_S D cA o made N X H) (hG : g_ok o made N X) (hV : va_S (x_up o) s.heap H locs) (hcl : cells ≤ 75 + 2 * j) (hsl : slots ≤ 4771 + 11 * j) (kk : ∀ (ls : Array Slot) (H : Heap) (locs : List Loc) (cells slots made : Nat) (N : n_T) (X : d_T), made ≤ (j + 1) → lv_has ls 4 [(0, .ref b), (1, .ref o), (2, .ref (o + 54)), (3, .int (nI i))] → g_S D cA o made N X H → g_ok o made N X → va_S (x_up o) s.heap H locs → cells ≤ 75 + 2 * (j + 1) → slots ≤ 4771 + 11 * (j + 1) → W pp l ee room_1 s mm #[Value.ref b] below mt cd H locs cells slots Q (F0 mm 837 ls [])) : W pp l ee room_1 s mm #[Value.ref b] below mt cd H locs cells slots Q (F0 mm 108 ls []) := by
  have hF := hV.2.2
  refine lv_aload_n hx hb d_Law_law_108 rfl (lv_at hl 1 rfl) ?_
  refine lv_aload_n hx hb d_Law_law_109 rfl (lv_at hl 0 rfl) ?_
  refine lv_iload_n hx hb d_Law_law_110 rfl (lv_at hl 3 rfl) ?_
  refine lv_iconst (v := 1) hx hb d_Law_law_111 (by decide) ?_
  refine lv_iadd hx hb d_Law_law_112 ?_
  refine x_topi (y := nI (i + 1)) (l_k1 i) ?_
  refine x_sld hx hb hXs hbl hbo hV (k := i + 1) (by omega) hL d_Law_law_113 ?_
  refine lv_aload_n hx hb d_Law_law_114 rfl (lv_at hl 0 rfl) ?_
  refine lv_iload_n hx hb d_Law_law_115 rfl (lv_at hl 3 rfl) ?_
  refine lv_iconst (v := 2) hx hb d_Law_law_116 (by decide) ?_
  refine lv_iadd hx hb d_Law_law_117 ?_
  refine x_topi (y := nI (i + 2)) (l_k2 i) ?_
  refine x_sld hx hb hXs hbl hbo hV (k := i + 2) (by omega) hL d_Law_law_118 ?_
  refine lv_aload_n hx hb d_Law_law_119 rfl (lv_at hl 0 rfl) ?_
  refine lv_iload_n hx hb d_Law_law_120 rfl (lv_at hl 3 rfl) ?_
  refine lv_iconst (v := 3) hx hb d_Law_law_121 (by decide) ?_
  refine lv_iadd hx hb d_Law_law_122 ?_
  refine x_topi (y := nI (i + 3)) (l_k3 i) ?_
  refine x_sld hx hb hXs hbl hbo hV (k := i + 3) (by omega) hL d_Law_law_123 ?_
  refine lv_i2l hx hb d_Law_law_124 rfl ?_
  refine lv_bipush (v := 32) hx hb d_Law_law_125 (by decide) ?_
  refine lv_lshl hx hb d_Law_law_127 rfl ?_
  refine lv_aload_n hx hb d_Law_law_128 rfl (lv_at hl 0 rfl) ?_
  refine lv_iload_n hx hb d_Law_law_129 rfl (lv_at hl 3 rfl) ?_
  refine lv_iconst (v := 4) hx hb d_Law_law_130 (by decide) ?_
  refine lv_iadd hx hb d_Law_law_131 ?_
  refine x_topi (y := nI (i + 4)) (l_k4 i) ?_
  refine x_sld hx hb hXs hbl hbo hV (k := i + 4) (by omega) hL d_Law_law_132 ?_
  refine lv_i2l hx hb d_Law_law_133 rfl ?_
  refine lv_ldc2 hx hb hown (hts _ w_3_105) d_Law_law_134 ?_
  refine lv_land hx hb d_Law_law_137 ?_
  refine lv_lor hx hb d_Law_law_138 ?_
  refine x_topl (y := l_lg (xs (i + 3)) (xs (i + 4))) rfl ?_
  refine lv_aload_n hx hb d_Law_law_139 rfl (lv_at hl 0 rfl) ?_
  refine lv_iload_n hx hb d_Law_law_140 rfl (lv_at hl 3 rfl) ?_
  refine lv_iconst (v := 5) hx hb d_Law_law_141 (by decide) ?_
  refine lv_iadd hx hb d_Law_law_142 ?_
  refine x_topi (y := nI (i + 5)) (l_k5 i) ?_
  refine x_sld hx hb hXs hbl hbo hV (k := i + 5) (by omega) hL d_Law_law_143 ?_
  refine x_cw (kl_15 (As := [.int (xs (i + 1)), .int (xs (i + 2)), .long (l_lg (xs (i + 3)) (xs (i + 4))), .int (xs (i + 5))]) (rest := []) hx hb hml hown hts (c_DL_test l D cA N o X made H.size hG.1 hG.2.1 hG.2.2.1 hS.1 (xs (i + 1)) (xs (i + 2)) (l_lg (xs (i + 3)) (xs (i + 4))) (xs (i + 5))) (x_preV hE hS.2.1.1 rfl rfl ⟨rfl, hS.2.1, hS.2.2.1⟩) rfl hl.1 rfl (Nat.le_of_ble_eq_true rfl) d_Law_law_144 (by decide) ⟨by omega, by omega⟩) (fun H1 L1 p1 f1 => ?_)
  have hF := t_lL hF (fun q h => (l_AG hS.1) q.base (f1 q h))
  have hV := hV.xG p1.1 d_A_up hF
  have hM : mm_W D cA (o + 54) made N X H1 := hS.midG p1.1
  obtain ⟨Y, hY, hYR⟩ := id hM
  refine lv_aload_n hx hb d_Law_law_147 rfl (lv_at hl 2 rfl) ?_
  refine lv_aload_n hx hb d_Law_law_148 rfl (lv_at hl 0 rfl) ?_
  refine lv_iload_n hx hb d_Law_law_149 rfl (lv_at hl 3 rfl) ?_
  refine lv_iconst (v := 1) hx hb d_Law_law_150 (by decide) ?_
  refine lv_iadd hx hb d_Law_law_151 ?_
  refine x_topi (y := nI (i + 1)) (l_k1 i) ?_
  refine x_sld hx hb hXs hbl hbo hV (k := i + 1) (by omega) hL d_Law_law_152 ?_
  refine lv_aload_n hx hb d_Law_law_153 rfl (lv_at hl 0 rfl) ?_
  refine lv_iload_n hx hb d_Law_law_154 rfl (lv_at hl 3 rfl) ?_
  refine lv_iconst (v := 2) hx hb d_Law_law_155 (by decide) ?_
  refine lv_iadd hx hb d_Law_law_156 ?_
  refine x_topi (y := nI (i + 2)) (l_k2 i) ?_
  refine x_sld hx hb hXs hbl hbo hV (k := i + 2) (by omega) hL d_Law_law_157 ?_
  refine lv_aload_n hx hb d_Law_law_158 rfl (lv_at hl 0 rfl) ?_
  refine lv_iload_n hx hb d_Law_law_159 rfl (lv_at hl 3 rfl) ?_
  refine lv_iconst (v := 3) hx hb d_Law_law_160 (by decide) ?_
  refine lv_iadd hx hb d_Law_law_161 ?_
  refine x_topi (y := nI (i + 3)) (l_k3 i) ?_
  refine x_sld hx hb hXs hbl hbo hV (k := i + 3) (by omega) hL d_Law_law_162 ?_
  refine lv_i2l hx hb d_Law_law_163 rfl ?_
  refine lv_bipush (v := 32) hx hb d_Law_law_164 (by decide) ?_
  refine lv_lshl hx hb d_Law_law_166 rfl ?_
  refine lv_aload_n hx hb d_Law_law_167 rfl (lv_at hl 0 rfl) ?_
  refine lv_iload_n hx hb d_Law_law_168 rfl (lv_at hl 3 rfl) ?_
  refine lv_iconst (v := 4) hx hb d_Law_law_169 (by decide) ?_
  refine lv_iadd hx hb d_Law_law_170 ?_
  refine x_topi (y := nI (i + 4)) (l_k4 i) ?_
  refine x_sld hx hb hXs hbl hbo hV (k := i + 4) (by omega) hL d_Law_law_171 ?_
  refine lv_i2l hx hb d_Law_law_172 rfl ?_
  refine lv_ldc2 hx hb hown (hts _ w_3_105) d_Law_law_173 ?_
  refine lv_land hx hb d_Law_law_176 ?_
  refine lv_lor hx hb d_Law_law_177 ?_
  refine x_topl (y := l_lg (xs (i + 3)) (xs (i + 4))) rfl ?_
  refine lv_aload_n hx hb d_Law_law_178 rfl (lv_at hl 0 rfl) ?_
  refine lv_iload_n hx hb d_Law_law_179 rfl (lv_at hl 3 rfl) ?_
  refine lv_iconst (v := 5) hx hb d_Law_law_180 (by decide) ?_
  refine lv_iadd hx hb d_Law_law_181 ?_
  refine x_topi (y := nI (i + 5)) (l_k5 i) ?_
  refine x_sld hx hb hXs hbl hbo hV (k := i + 5) (by omega) hL d_Law_law_182 ?_
  refine x_cw (kl_19 (As := [.int (xs (i + 1)), .int (xs (i + 2)), .long (l_lg (xs (i + 3)) (xs (i + 4))), .int (xs (i + 5))]) (rest := [.int (q_test X (xs (i + 1)) (xs (i + 2)) (xs (i + 5)))]) hx hb hml hown hts (c_M_test l D cA (o + 54) made N X (by omega) hG.1 hG.2.2.1 H.size (xs (i + 1)) (xs (i + 2)) (l_lg (xs (i + 3)) (xs (i + 4))) (xs (i + 5))) (x_preV hE hY.1 rfl rfl hM) rfl hl.1 rfl (Nat.le_of_ble_eq_true rfl) d_Law_law_183 (by decide) ⟨by omega, by omega⟩) (fun H2 L2 p2 f2 => ?_)
  have hF := t_lL hF (fun q h => m_A_up q.base (f2 q h))
  have hV := hV.xF p2.1 m_A_up hF
  have hG2 := hG.test (xs (i + 1)) (xs (i + 2)) (l_lg (xs (i + 3)) (xs (i + 4))) (xs (i + 5)) hS.1
  refine lv_icmp_eq (tgt := 837) hx hb d_Law_law_186 (by decide) (fun hq => ?_) (fun hq => ?_)
  · exact kk _ _ _ _ _ _ _ _ (Nat.le_trans z_testM_le (Nat.succ_le_succ hjm)) hl (hS.two hG2.2.1 p1.1 p2.1 p1.2.1 p1.2.2 p2.2) hG2 hV (by omega) (by omega)
  · exact absurd rfl hq
set_option maxHeartbeats 4000000 in
set_option maxRecDepth 100000 in
theorem turn_1 (l : Launch) {pp : Program} {ee : Env} {s : State} {mm : MethodId} {below : List Frame} {mt : Method} {cd : Code} {Q : State → Prop} {b L : Nat} {xs : Nat → Int32} {D : va_G} {cA : Nat → ClassId} (hx : pp.tables.exec = Jvm.exec) (hb : cd.code = code) (hml : cd.maxLocals = 4) (hown : s.vm.findClass "DecisionLayersLaw" = some mm.cls) (hts : ∀ w ∈ w_g, w.before #[Value.ref b] s = true) (hE : x_E D cA s) (hXs : va_X b L xs s s.heap) (hbl : b < s.heap.size) {o : Nat} (hbo : b < o) (hL : L ≤ 4096) {i j made : Nat} {N : n_T} {X : d_T} {H : Heap} {locs : List Loc} {cells slots : Nat} {ls : Array Slot} (hj : j < 512) (hi : i + 8 ≤ L) (hjm : made ≤ j) (hl : lv_has ls 4 [(0, .ref b), (1, .ref o), (2, .ref (o + 54)), (3, .int (nI i))]) (hS : g_S D cA o made N X H) (hG : g_ok o made N X) (hV : va_S (x_up o) s.heap H locs) (hcl : cells ≤ 75 + 2 * j) (hsl : slots ≤ 4771 + 11 * j) (kk : ∀ (ls : Array Slot) (H : Heap) (locs : List Loc) (cells slots made : Nat) (N : n_T) (X : d_T), made ≤ (j + 1) → lv_has ls 4 [(0, .ref b), (1, .ref o), (2, .ref (o + 54)), (3, .int (nI i))] → g_S D cA o made N X H → g_ok o made N X → va_S (x_up o) s.heap H locs → cells ≤ 75 + 2 * (j + 1) → slots ≤ 4771 + 11 * (j + 1) → W pp l ee room_1 s mm #[Value.ref b] below mt cd H locs cells slots Q (F0 mm 837 ls [])) : W pp l ee room_1 s mm #[Value.ref b] below mt cd H locs cells slots Q (F0 mm 191 ls []) := by
  have hF := hV.2.2
  refine lv_aload_n hx hb d_Law_law_191 rfl (lv_at hl 1 rfl) ?_
  refine lv_aload_n hx hb d_Law_law_192 rfl (lv_at hl 0 rfl) ?_
  refine lv_iload_n hx hb d_Law_law_193 rfl (lv_at hl 3 rfl) ?_
  refine lv_iconst (v := 1) hx hb d_Law_law_194 (by decide) ?_
  refine lv_iadd hx hb d_Law_law_195 ?_
  refine x_topi (y := nI (i + 1)) (l_k1 i) ?_
  refine x_sld hx hb hXs hbl hbo hV (k := i + 1) (by omega) hL d_Law_law_196 ?_
  refine lv_aload_n hx hb d_Law_law_197 rfl (lv_at hl 0 rfl) ?_
  refine lv_iload_n hx hb d_Law_law_198 rfl (lv_at hl 3 rfl) ?_
  refine lv_iconst (v := 2) hx hb d_Law_law_199 (by decide) ?_
  refine lv_iadd hx hb d_Law_law_200 ?_
  refine x_topi (y := nI (i + 2)) (l_k2 i) ?_
  refine x_sld hx hb hXs hbl hbo hV (k := i + 2) (by omega) hL d_Law_law_201 ?_
  refine x_cw (kl_20 (As := [.int (xs (i + 1)), .int (xs (i + 2))]) (rest := []) hx hb hml hown hts (c_DL_join l D cA N o X made H.size hG.1 hG.2.1 hG.2.2.1 hS.1 (xs (i + 1)) (xs (i + 2))) (x_preV hE hS.2.1.1 rfl rfl ⟨rfl, hS.2.1, hS.2.2.1⟩) rfl hl.1 rfl (Nat.le_of_ble_eq_true rfl) d_Law_law_202 (by decide) ⟨by omega, by omega⟩) (fun H1 L1 p1 f1 => ?_)
  have hF := t_lL hF (fun q h => (l_AG hS.1) q.base (f1 q h))
  have hV := hV.xG p1.1 d_A_up hF
  have hM : mm_W D cA (o + 54) made N X H1 := hS.midG p1.1
  obtain ⟨Y, hY, hYR⟩ := id hM
  refine lv_aload_n hx hb d_Law_law_205 rfl (lv_at hl 2 rfl) ?_
  refine lv_aload_n hx hb d_Law_law_206 rfl (lv_at hl 0 rfl) ?_
  refine lv_iload_n hx hb d_Law_law_207 rfl (lv_at hl 3 rfl) ?_
  refine lv_iconst (v := 1) hx hb d_Law_law_208 (by decide) ?_
  refine lv_iadd hx hb d_Law_law_209 ?_
  refine x_topi (y := nI (i + 1)) (l_k1 i) ?_
  refine x_sld hx hb hXs hbl hbo hV (k := i + 1) (by omega) hL d_Law_law_210 ?_
  refine lv_aload_n hx hb d_Law_law_211 rfl (lv_at hl 0 rfl) ?_
  refine lv_iload_n hx hb d_Law_law_212 rfl (lv_at hl 3 rfl) ?_
  refine lv_iconst (v := 2) hx hb d_Law_law_213 (by decide) ?_
  refine lv_iadd hx hb d_Law_law_214 ?_
  refine x_topi (y := nI (i + 2)) (l_k2 i) ?_
  refine x_sld hx hb hXs hbl hbo hV (k := i + 2) (by omega) hL d_Law_law_215 ?_
  refine x_cw (kl_24 (As := [.int (xs (i + 1)), .int (xs (i + 2))]) (rest := [.int (q_join N X (xs (i + 1)) (xs (i + 2)))]) hx hb hml hown hts (c_M_join l D cA (o + 54) made N X (by omega) hG.1 hG.2.2.1 H.size (xs (i + 1)) (xs (i + 2))) (x_preV hE hY.1 rfl rfl hM) rfl hl.1 rfl (Nat.le_of_ble_eq_true rfl) d_Law_law_216 (by decide) ⟨by omega, by omega⟩) (fun H2 L2 p2 f2 => ?_)
  have hF := t_lL hF (fun q h => m_A_up q.base (f2 q h))
  have hV := hV.xF p2.1 m_A_up hF
  have hG2 := hG.join (xs (i + 1)) (xs (i + 2)) hS.1
  refine lv_icmp_eq (tgt := 837) hx hb d_Law_law_219 (by decide) (fun hq => ?_) (fun hq => ?_)
  · exact kk _ _ _ _ _ _ _ _ (Nat.le_trans z_joinM_le (Nat.succ_le_succ hjm)) hl (hS.two hG2.2.1 p1.1 p2.1 p1.2.1 p1.2.2 p2.2) hG2 hV (by omega) (by omega)
  · exact absurd rfl hq
set_option maxHeartbeats 4000000 in
set_option maxRecDepth 100000 in
theorem turn_2 (l : Launch) {pp : Program} {ee : Env} {s : State} {mm : MethodId} {below : List Frame} {mt : Method} {cd : Code} {Q : State → Prop} {b L : Nat} {xs : Nat → Int32} {D : va_G} {cA : Nat → ClassId} (hx : pp.tables.exec = Jvm.exec) (hb : cd.code = code) (hml : cd.maxLocals = 4) (hown : s.vm.findClass "DecisionLayersLaw" = some mm.cls) (hts : ∀ w ∈ w_g, w.before #[Value.ref b] s = true) (hE : x_E D cA s) (hXs : va_X b L xs s s.heap) (hbl : b < s.heap.size) {o : Nat} (hbo : b < o) (hL : L ≤ 4096) {i j made : Nat} {N : n_T} {X : d_T} {H : Heap} {locs : List Loc} {cells slots : Nat} {ls : Array Slot} (hj : j < 512) (hi : i + 8 ≤ L) (hjm : made ≤ j) (hl : lv_has ls 4 [(0, .ref b), (1, .ref o), (2, .ref (o + 54)), (3, .int (nI i))]) (hS : g_S D cA o made N X H) (hG : g_ok o made N X) (hV : va_S (x_up o) s.heap H locs) (hcl : cells ≤ 75 + 2 * j) (hsl : slots ≤ 4771 + 11 * j) (kk : ∀ (ls : Array Slot) (H : Heap) (locs : List Loc) (cells slots made : Nat) (N : n_T) (X : d_T), made ≤ (j + 1) → lv_has ls 4 [(0, .ref b), (1, .ref o), (2, .ref (o + 54)), (3, .int (nI i))] → g_S D cA o made N X H → g_ok o made N X → va_S (x_up o) s.heap H locs → cells ≤ 75 + 2 * (j + 1) → slots ≤ 4771 + 11 * (j + 1) → W pp l ee room_1 s mm #[Value.ref b] below mt cd H locs cells slots Q (F0 mm 837 ls [])) : W pp l ee room_1 s mm #[Value.ref b] below mt cd H locs cells slots Q (F0 mm 224 ls []) := by
  have hF := hV.2.2
  refine lv_aload_n hx hb d_Law_law_224 rfl (lv_at hl 1 rfl) ?_
  refine x_cw (kl_25 (As := []) (rest := []) hx hb hml hown hts (c_DL_discard l D cA N o X hG.2.2.1.1) (x_preV hE hS.2.1.1 rfl rfl hS.2.1) rfl hl.1 rfl (Nat.le_of_ble_eq_true rfl) d_Law_law_225 (by decide) ⟨by omega, by omega⟩) (fun H1 L1 p1 f1 => ?_)
  have hF := t_lL hF (fun q h => l_A2_up q.base (f1 q h))
  have hV := hV.xF p1.1 l_A2_up hF
  have hM : mm_W D cA (o + 54) made N X H1 := hS.mid l_A2 p1.1
  obtain ⟨Y, hY, hYR⟩ := id hM
  refine lv_aload_n hx hb d_Law_law_228 rfl (lv_at hl 2 rfl) ?_
  refine x_cw (kl_29 (As := []) (rest := [.int (bI (decide (¬ d_n X = 0)))]) hx hb hml hown hts (c_M_discard l D cA (o + 54) made N X hG.2.2.1.1) (x_preV hE hY.1 rfl rfl hM) rfl hl.1 rfl (Nat.le_of_ble_eq_true rfl) d_Law_law_229 (by decide) ⟨by omega, by omega⟩) (fun H2 L2 p2 f2 => ?_)
  have hF := t_lL hF (fun q h => m_A_up q.base (f2 q h))
  have hV := hV.xF p2.1 m_A_up hF
  refine lv_icmp_eq (tgt := 837) hx hb d_Law_law_232 (by decide) (fun hq => ?_) (fun hq => ?_)
  · exact kk _ _ _ _ _ _ _ _ (Nat.le_succ_of_le hjm) hl (hS.one hG.2.1 l_A2 p1.1 p2.1 p1.2 p2.2) (hG.dis) hV (by omega) (by omega)
  · exact absurd rfl hq
set_option maxHeartbeats 4000000 in
set_option maxRecDepth 100000 in
theorem turn_3 (l : Launch) {pp : Program} {ee : Env} {s : State} {mm : MethodId} {below : List Frame} {mt : Method} {cd : Code} {Q : State → Prop} {b L : Nat} {xs : Nat → Int32} {D : va_G} {cA : Nat → ClassId} (hx : pp.tables.exec = Jvm.exec) (hb : cd.code = code) (hml : cd.maxLocals = 4) (hown : s.vm.findClass "DecisionLayersLaw" = some mm.cls) (hts : ∀ w ∈ w_g, w.before #[Value.ref b] s = true) (hE : x_E D cA s) (hXs : va_X b L xs s s.heap) (hbl : b < s.heap.size) {o : Nat} (hbo : b < o) (hL : L ≤ 4096) {i j made : Nat} {N : n_T} {X : d_T} {H : Heap} {locs : List Loc} {cells slots : Nat} {ls : Array Slot} (hj : j < 512) (hi : i + 8 ≤ L) (hjm : made ≤ j) (hl : lv_has ls 4 [(0, .ref b), (1, .ref o), (2, .ref (o + 54)), (3, .int (nI i))]) (hS : g_S D cA o made N X H) (hG : g_ok o made N X) (hV : va_S (x_up o) s.heap H locs) (hcl : cells ≤ 75 + 2 * j) (hsl : slots ≤ 4771 + 11 * j) (kk : ∀ (ls : Array Slot) (H : Heap) (locs : List Loc) (cells slots made : Nat) (N : n_T) (X : d_T), made ≤ (j + 1) → lv_has ls 4 [(0, .ref b), (1, .ref o), (2, .ref (o + 54)), (3, .int (nI i))] → g_S D cA o made N X H → g_ok o made N X → va_S (x_up o) s.heap H locs → cells ≤ 75 + 2 * (j + 1) → slots ≤ 4771 + 11 * (j + 1) → W pp l ee room_1 s mm #[Value.ref b] below mt cd H locs cells slots Q (F0 mm 837 ls [])) : W pp l ee room_1 s mm #[Value.ref b] below mt cd H locs cells slots Q (F0 mm 237 ls []) := by
  have hF := hV.2.2
  refine lv_aload_n hx hb d_Law_law_237 rfl (lv_at hl 1 rfl) ?_
  refine x_cp (kl_30 (As := []) (rest := []) hx hb hml hown hts (c_DL_pile l D cA N o X ) (x_preV hE hS.2.1.1 rfl rfl hS.2.1) rfl hl.1 rfl (Nat.le_of_ble_eq_true rfl) d_Law_law_238 (by decide) ⟨by omega, by omega⟩) ?_
  have hM : mm_W D cA (o + 54) made N X H := hS.2.2.2
  obtain ⟨Y, hY, hYR⟩ := id hM
  refine lv_aload_n hx hb d_Law_law_241 rfl (lv_at hl 2 rfl) ?_
  refine x_cp (kl_34 (As := []) (rest := [.int (nI (d_n X))]) hx hb hml hown hts (c_M_pile l D cA (o + 54) made N X ) (x_preV hE hY.1 rfl rfl hM) rfl hl.1 rfl (Nat.le_of_ble_eq_true rfl) d_Law_law_242 (by decide) ⟨by omega, by omega⟩) ?_
  refine lv_icmp_eq (tgt := 837) hx hb d_Law_law_245 (by decide) (fun hq => ?_) (fun hq => ?_)
  · exact kk _ _ _ _ _ _ _ _ (Nat.le_succ_of_le hjm) hl hS hG hV (by omega) (by omega)
  · exact absurd rfl hq
set_option maxHeartbeats 4000000 in
set_option maxRecDepth 100000 in
theorem turn_4 (l : Launch) {pp : Program} {ee : Env} {s : State} {mm : MethodId} {below : List Frame} {mt : Method} {cd : Code} {Q : State → Prop} {b L : Nat} {xs : Nat → Int32} {D : va_G} {cA : Nat → ClassId} (hx : pp.tables.exec = Jvm.exec) (hb : cd.code = code) (hml : cd.maxLocals = 4) (hown : s.vm.findClass "DecisionLayersLaw" = some mm.cls) (hts : ∀ w ∈ w_g, w.before #[Value.ref b] s = true) (hE : x_E D cA s) (hXs : va_X b L xs s s.heap) (hbl : b < s.heap.size) {o : Nat} (hbo : b < o) (hL : L ≤ 4096) {i j made : Nat} {N : n_T} {X : d_T} {H : Heap} {locs : List Loc} {cells slots : Nat} {ls : Array Slot} (hj : j < 512) (hi : i + 8 ≤ L) (hjm : made ≤ j) (hl : lv_has ls 4 [(0, .ref b), (1, .ref o), (2, .ref (o + 54)), (3, .int (nI i))]) (hS : g_S D cA o made N X H) (hG : g_ok o made N X) (hV : va_S (x_up o) s.heap H locs) (hcl : cells ≤ 75 + 2 * j) (hsl : slots ≤ 4771 + 11 * j) (kk : ∀ (ls : Array Slot) (H : Heap) (locs : List Loc) (cells slots made : Nat) (N : n_T) (X : d_T), made ≤ (j + 1) → lv_has ls 4 [(0, .ref b), (1, .ref o), (2, .ref (o + 54)), (3, .int (nI i))] → g_S D cA o made N X H → g_ok o made N X → va_S (x_up o) s.heap H locs → cells ≤ 75 + 2 * (j + 1) → slots ≤ 4771 + 11 * (j + 1) → W pp l ee room_1 s mm #[Value.ref b] below mt cd H locs cells slots Q (F0 mm 837 ls [])) : W pp l ee room_1 s mm #[Value.ref b] below mt cd H locs cells slots Q (F0 mm 250 ls []) := by
  have hF := hV.2.2
  refine lv_aload_n hx hb d_Law_law_250 rfl (lv_at hl 1 rfl) ?_
  refine lv_aload_n hx hb d_Law_law_251 rfl (lv_at hl 0 rfl) ?_
  refine lv_iload_n hx hb d_Law_law_252 rfl (lv_at hl 3 rfl) ?_
  refine lv_iconst (v := 1) hx hb d_Law_law_253 (by decide) ?_
  refine lv_iadd hx hb d_Law_law_254 ?_
  refine x_topi (y := nI (i + 1)) (l_k1 i) ?_
  refine x_sld hx hb hXs hbl hbo hV (k := i + 1) (by omega) hL d_Law_law_255 ?_
  refine lv_aload_n hx hb d_Law_law_256 rfl (lv_at hl 0 rfl) ?_
  refine lv_iload_n hx hb d_Law_law_257 rfl (lv_at hl 3 rfl) ?_
  refine lv_iconst (v := 2) hx hb d_Law_law_258 (by decide) ?_
  refine lv_iadd hx hb d_Law_law_259 ?_
  refine x_topi (y := nI (i + 2)) (l_k2 i) ?_
  refine x_sld hx hb hXs hbl hbo hV (k := i + 2) (by omega) hL d_Law_law_260 ?_
  refine lv_aload_n hx hb d_Law_law_261 rfl (lv_at hl 0 rfl) ?_
  refine lv_iload_n hx hb d_Law_law_262 rfl (lv_at hl 3 rfl) ?_
  refine lv_iconst (v := 3) hx hb d_Law_law_263 (by decide) ?_
  refine lv_iadd hx hb d_Law_law_264 ?_
  refine x_topi (y := nI (i + 3)) (l_k3 i) ?_
  refine x_sld hx hb hXs hbl hbo hV (k := i + 3) (by omega) hL d_Law_law_265 ?_
  refine lv_i2l hx hb d_Law_law_266 rfl ?_
  refine lv_bipush (v := 32) hx hb d_Law_law_267 (by decide) ?_
  refine lv_lshl hx hb d_Law_law_269 rfl ?_
  refine lv_aload_n hx hb d_Law_law_270 rfl (lv_at hl 0 rfl) ?_
  refine lv_iload_n hx hb d_Law_law_271 rfl (lv_at hl 3 rfl) ?_
  refine lv_iconst (v := 4) hx hb d_Law_law_272 (by decide) ?_
  refine lv_iadd hx hb d_Law_law_273 ?_
  refine x_topi (y := nI (i + 4)) (l_k4 i) ?_
  refine x_sld hx hb hXs hbl hbo hV (k := i + 4) (by omega) hL d_Law_law_274 ?_
  refine lv_i2l hx hb d_Law_law_275 rfl ?_
  refine lv_ldc2 hx hb hown (hts _ w_3_105) d_Law_law_276 ?_
  refine lv_land hx hb d_Law_law_279 ?_
  refine lv_lor hx hb d_Law_law_280 ?_
  refine x_topl (y := l_lg (xs (i + 3)) (xs (i + 4))) rfl ?_
  refine lv_aload_n hx hb d_Law_law_281 rfl (lv_at hl 0 rfl) ?_
  refine lv_iload_n hx hb d_Law_law_282 rfl (lv_at hl 3 rfl) ?_
  refine lv_iconst (v := 5) hx hb d_Law_law_283 (by decide) ?_
  refine lv_iadd hx hb d_Law_law_284 ?_
  refine x_topi (y := nI (i + 5)) (l_k5 i) ?_
  refine x_sld hx hb hXs hbl hbo hV (k := i + 5) (by omega) hL d_Law_law_285 ?_
  refine lv_i2l hx hb d_Law_law_286 rfl ?_
  refine lv_bipush (v := 32) hx hb d_Law_law_287 (by decide) ?_
  refine lv_lshl hx hb d_Law_law_289 rfl ?_
  refine lv_aload_n hx hb d_Law_law_290 rfl (lv_at hl 0 rfl) ?_
  refine lv_iload_n hx hb d_Law_law_291 rfl (lv_at hl 3 rfl) ?_
  refine lv_bipush (v := 6) hx hb d_Law_law_292 (by decide) ?_
  refine lv_iadd hx hb d_Law_law_294 ?_
  refine x_topi (y := nI (i + 6)) (l_k6 i) ?_
  refine x_sld hx hb hXs hbl hbo hV (k := i + 6) (by omega) hL d_Law_law_295 ?_
  refine lv_i2l hx hb d_Law_law_296 rfl ?_
  refine lv_ldc2 hx hb hown (hts _ w_3_105) d_Law_law_297 ?_
  refine lv_land hx hb d_Law_law_300 ?_
  refine lv_lor hx hb d_Law_law_301 ?_
  refine x_topl (y := l_lg (xs (i + 5)) (xs (i + 6))) rfl ?_
  refine lv_aload_n hx hb d_Law_law_302 rfl (lv_at hl 0 rfl) ?_
  refine lv_iload_n hx hb d_Law_law_303 rfl (lv_at hl 3 rfl) ?_
  refine lv_bipush (v := 7) hx hb d_Law_law_304 (by decide) ?_
  refine lv_iadd hx hb d_Law_law_306 ?_
  refine x_topi (y := nI (i + 7)) (l_k7 i) ?_
  refine x_sld hx hb hXs hbl hbo hV (k := i + 7) (by omega) hL d_Law_law_307 ?_
  refine x_cw (kl_35 (As := [.int (xs (i + 1)), .int (xs (i + 2)), .long (l_lg (xs (i + 3)) (xs (i + 4))), .long (l_lg (xs (i + 5)) (xs (i + 6))), .int (xs (i + 7))]) (rest := []) hx hb hml hown hts (c_DL_state l D cA N o X made hG.2.2.1 (xs (i + 1)) (xs (i + 2)) (l_lg (xs (i + 3)) (xs (i + 4))) (l_lg (xs (i + 5)) (xs (i + 6))) (xs (i + 7))) (x_preV hE hS.2.1.1 rfl rfl hS.2.1) rfl hl.1 rfl (Nat.le_of_ble_eq_true rfl) d_Law_law_308 (by decide) ⟨by omega, by omega⟩) (fun H1 L1 p1 f1 => ?_)
  have hF := t_lL hF (fun q h => d_A_up q.base (f1 q h))
  have hV := hV.xF p1.1 d_A_up hF
  have hM : mm_W D cA (o + 54) made N X H1 := hS.mid (fun q h => h) p1.1
  obtain ⟨Y, hY, hYR⟩ := id hM
  refine lv_aload_n hx hb d_Law_law_311 rfl (lv_at hl 2 rfl) ?_
  refine lv_aload_n hx hb d_Law_law_312 rfl (lv_at hl 0 rfl) ?_
  refine lv_iload_n hx hb d_Law_law_313 rfl (lv_at hl 3 rfl) ?_
  refine lv_iconst (v := 1) hx hb d_Law_law_314 (by decide) ?_
  refine lv_iadd hx hb d_Law_law_315 ?_
  refine x_topi (y := nI (i + 1)) (l_k1 i) ?_
  refine x_sld hx hb hXs hbl hbo hV (k := i + 1) (by omega) hL d_Law_law_316 ?_
  refine lv_aload_n hx hb d_Law_law_317 rfl (lv_at hl 0 rfl) ?_
  refine lv_iload_n hx hb d_Law_law_318 rfl (lv_at hl 3 rfl) ?_
  refine lv_iconst (v := 2) hx hb d_Law_law_319 (by decide) ?_
  refine lv_iadd hx hb d_Law_law_320 ?_
  refine x_topi (y := nI (i + 2)) (l_k2 i) ?_
  refine x_sld hx hb hXs hbl hbo hV (k := i + 2) (by omega) hL d_Law_law_321 ?_
  refine lv_aload_n hx hb d_Law_law_322 rfl (lv_at hl 0 rfl) ?_
  refine lv_iload_n hx hb d_Law_law_323 rfl (lv_at hl 3 rfl) ?_
  refine lv_iconst (v := 3) hx hb d_Law_law_324 (by decide) ?_
  refine lv_iadd hx hb d_Law_law_325 ?_
  refine x_topi (y := nI (i + 3)) (l_k3 i) ?_
  refine x_sld hx hb hXs hbl hbo hV (k := i + 3) (by omega) hL d_Law_law_326 ?_
  refine lv_i2l hx hb d_Law_law_327 rfl ?_
  refine lv_bipush (v := 32) hx hb d_Law_law_328 (by decide) ?_
  refine lv_lshl hx hb d_Law_law_330 rfl ?_
  refine lv_aload_n hx hb d_Law_law_331 rfl (lv_at hl 0 rfl) ?_
  refine lv_iload_n hx hb d_Law_law_332 rfl (lv_at hl 3 rfl) ?_
  refine lv_iconst (v := 4) hx hb d_Law_law_333 (by decide) ?_
  refine lv_iadd hx hb d_Law_law_334 ?_
  refine x_topi (y := nI (i + 4)) (l_k4 i) ?_
  refine x_sld hx hb hXs hbl hbo hV (k := i + 4) (by omega) hL d_Law_law_335 ?_
  refine lv_i2l hx hb d_Law_law_336 rfl ?_
  refine lv_ldc2 hx hb hown (hts _ w_3_105) d_Law_law_337 ?_
  refine lv_land hx hb d_Law_law_340 ?_
  refine lv_lor hx hb d_Law_law_341 ?_
  refine x_topl (y := l_lg (xs (i + 3)) (xs (i + 4))) rfl ?_
  refine lv_aload_n hx hb d_Law_law_342 rfl (lv_at hl 0 rfl) ?_
  refine lv_iload_n hx hb d_Law_law_343 rfl (lv_at hl 3 rfl) ?_
  refine lv_iconst (v := 5) hx hb d_Law_law_344 (by decide) ?_
  refine lv_iadd hx hb d_Law_law_345 ?_
  refine x_topi (y := nI (i + 5)) (l_k5 i) ?_
  refine x_sld hx hb hXs hbl hbo hV (k := i + 5) (by omega) hL d_Law_law_346 ?_
  refine lv_i2l hx hb d_Law_law_347 rfl ?_
  refine lv_bipush (v := 32) hx hb d_Law_law_348 (by decide) ?_
  refine lv_lshl hx hb d_Law_law_350 rfl ?_
  refine lv_aload_n hx hb d_Law_law_351 rfl (lv_at hl 0 rfl) ?_
  refine lv_iload_n hx hb d_Law_law_352 rfl (lv_at hl 3 rfl) ?_
  refine lv_bipush (v := 6) hx hb d_Law_law_353 (by decide) ?_
  refine lv_iadd hx hb d_Law_law_355 ?_
  refine x_topi (y := nI (i + 6)) (l_k6 i) ?_
  refine x_sld hx hb hXs hbl hbo hV (k := i + 6) (by omega) hL d_Law_law_356 ?_
  refine lv_i2l hx hb d_Law_law_357 rfl ?_
  refine lv_ldc2 hx hb hown (hts _ w_3_105) d_Law_law_358 ?_
  refine lv_land hx hb d_Law_law_361 ?_
  refine lv_lor hx hb d_Law_law_362 ?_
  refine x_topl (y := l_lg (xs (i + 5)) (xs (i + 6))) rfl ?_
  refine lv_aload_n hx hb d_Law_law_363 rfl (lv_at hl 0 rfl) ?_
  refine lv_iload_n hx hb d_Law_law_364 rfl (lv_at hl 3 rfl) ?_
  refine lv_bipush (v := 7) hx hb d_Law_law_365 (by decide) ?_
  refine lv_iadd hx hb d_Law_law_367 ?_
  refine x_topi (y := nI (i + 7)) (l_k7 i) ?_
  refine x_sld hx hb hXs hbl hbo hV (k := i + 7) (by omega) hL d_Law_law_368 ?_
  refine x_cw (kl_39 (As := [.int (xs (i + 1)), .int (xs (i + 2)), .long (l_lg (xs (i + 3)) (xs (i + 4))), .long (l_lg (xs (i + 5)) (xs (i + 6))), .int (xs (i + 7))]) (rest := [.int (q_state X (xs (i + 1)) (xs (i + 2)) (xs (i + 7)))]) hx hb hml hown hts (c_M_state l D cA (o + 54) made N X hG.2.2.1 (xs (i + 1)) (xs (i + 2)) (l_lg (xs (i + 3)) (xs (i + 4))) (l_lg (xs (i + 5)) (xs (i + 6))) (xs (i + 7))) (x_preV hE hY.1 rfl rfl hM) rfl hl.1 rfl (Nat.le_of_ble_eq_true rfl) d_Law_law_369 (by decide) ⟨by omega, by omega⟩) (fun H2 L2 p2 f2 => ?_)
  have hF := t_lL hF (fun q h => m_A_up q.base (f2 q h))
  have hV := hV.xF p2.1 m_A_up hF
  refine lv_icmp_eq (tgt := 837) hx hb d_Law_law_372 (by decide) (fun hq => ?_) (fun hq => ?_)
  · exact kk _ _ _ _ _ _ _ _ (Nat.le_succ_of_le hjm) hl (hS.one hG.2.1 (fun q h => h) p1.1 p2.1 p1.2 p2.2) (hG.state (xs (i + 1)) (xs (i + 2)) (l_lg (xs (i + 3)) (xs (i + 4))) (l_lg (xs (i + 5)) (xs (i + 6))) (xs (i + 7))) hV (by omega) (by omega)
  · exact absurd rfl hq
set_option maxHeartbeats 4000000 in
set_option maxRecDepth 100000 in
theorem turn_5 (l : Launch) {pp : Program} {ee : Env} {s : State} {mm : MethodId} {below : List Frame} {mt : Method} {cd : Code} {Q : State → Prop} {b L : Nat} {xs : Nat → Int32} {D : va_G} {cA : Nat → ClassId} (hx : pp.tables.exec = Jvm.exec) (hb : cd.code = code) (hml : cd.maxLocals = 4) (hown : s.vm.findClass "DecisionLayersLaw" = some mm.cls) (hts : ∀ w ∈ w_g, w.before #[Value.ref b] s = true) (hE : x_E D cA s) (hXs : va_X b L xs s s.heap) (hbl : b < s.heap.size) {o : Nat} (hbo : b < o) (hL : L ≤ 4096) {i j made : Nat} {N : n_T} {X : d_T} {H : Heap} {locs : List Loc} {cells slots : Nat} {ls : Array Slot} (hj : j < 512) (hi : i + 8 ≤ L) (hjm : made ≤ j) (hl : lv_has ls 4 [(0, .ref b), (1, .ref o), (2, .ref (o + 54)), (3, .int (nI i))]) (hS : g_S D cA o made N X H) (hG : g_ok o made N X) (hV : va_S (x_up o) s.heap H locs) (hcl : cells ≤ 75 + 2 * j) (hsl : slots ≤ 4771 + 11 * j) (kk : ∀ (ls : Array Slot) (H : Heap) (locs : List Loc) (cells slots made : Nat) (N : n_T) (X : d_T), made ≤ (j + 1) → lv_has ls 4 [(0, .ref b), (1, .ref o), (2, .ref (o + 54)), (3, .int (nI i))] → g_S D cA o made N X H → g_ok o made N X → va_S (x_up o) s.heap H locs → cells ≤ 75 + 2 * (j + 1) → slots ≤ 4771 + 11 * (j + 1) → W pp l ee room_1 s mm #[Value.ref b] below mt cd H locs cells slots Q (F0 mm 837 ls [])) : W pp l ee room_1 s mm #[Value.ref b] below mt cd H locs cells slots Q (F0 mm 377 ls []) := by
  have hF := hV.2.2
  refine lv_aload_n hx hb d_Law_law_377 rfl (lv_at hl 1 rfl) ?_
  refine lv_aload_n hx hb d_Law_law_378 rfl (lv_at hl 0 rfl) ?_
  refine lv_iload_n hx hb d_Law_law_379 rfl (lv_at hl 3 rfl) ?_
  refine lv_iconst (v := 1) hx hb d_Law_law_380 (by decide) ?_
  refine lv_iadd hx hb d_Law_law_381 ?_
  refine x_topi (y := nI (i + 1)) (l_k1 i) ?_
  refine x_sld hx hb hXs hbl hbo hV (k := i + 1) (by omega) hL d_Law_law_382 ?_
  refine x_cw (kl_40 (As := [.int (xs (i + 1))]) (rest := []) hx hb hml hown hts (c_DL_open l D cA N o X (xs (i + 1))) (x_preV hE hS.2.1.1 rfl rfl hS.2.1) rfl hl.1 rfl (Nat.le_of_ble_eq_true rfl) d_Law_law_383 (by decide) ⟨by omega, by omega⟩) (fun H1 L1 p1 f1 => ?_)
  have hF := t_lL hF (fun q h => d_A_up q.base (f1 q h))
  have hV := hV.xF p1.1 d_A_up hF
  have hM : mm_W D cA (o + 54) made N X H1 := hS.mid (fun q h => h) p1.1
  obtain ⟨Y, hY, hYR⟩ := id hM
  refine lv_aload_n hx hb d_Law_law_386 rfl (lv_at hl 2 rfl) ?_
  refine lv_aload_n hx hb d_Law_law_387 rfl (lv_at hl 0 rfl) ?_
  refine lv_iload_n hx hb d_Law_law_388 rfl (lv_at hl 3 rfl) ?_
  refine lv_iconst (v := 1) hx hb d_Law_law_389 (by decide) ?_
  refine lv_iadd hx hb d_Law_law_390 ?_
  refine x_topi (y := nI (i + 1)) (l_k1 i) ?_
  refine x_sld hx hb hXs hbl hbo hV (k := i + 1) (by omega) hL d_Law_law_391 ?_
  refine x_cw (kl_44 (As := [.int (xs (i + 1))]) (rest := [.int (bI (q_open X (xs (i + 1))))]) hx hb hml hown hts (c_M_open l D cA (o + 54) made N X (xs (i + 1))) (x_preV hE hY.1 rfl rfl hM) rfl hl.1 rfl (Nat.le_of_ble_eq_true rfl) d_Law_law_392 (by decide) ⟨by omega, by omega⟩) (fun H2 L2 p2 f2 => ?_)
  have hF := t_lL hF (fun q h => m_A_up q.base (f2 q h))
  have hV := hV.xF p2.1 m_A_up hF
  refine lv_icmp_eq (tgt := 837) hx hb d_Law_law_395 (by decide) (fun hq => ?_) (fun hq => ?_)
  · exact kk _ _ _ _ _ _ _ _ (Nat.le_succ_of_le hjm) hl (hS.one hG.2.1 (fun q h => h) p1.1 p2.1 p1.2 p2.2) (hG.opn (xs (i + 1))) hV (by omega) (by omega)
  · exact absurd rfl hq
set_option maxHeartbeats 4000000 in
set_option maxRecDepth 100000 in
theorem turn_6 (l : Launch) {pp : Program} {ee : Env} {s : State} {mm : MethodId} {below : List Frame} {mt : Method} {cd : Code} {Q : State → Prop} {b L : Nat} {xs : Nat → Int32} {D : va_G} {cA : Nat → ClassId} (hx : pp.tables.exec = Jvm.exec) (hb : cd.code = code) (hml : cd.maxLocals = 4) (hown : s.vm.findClass "DecisionLayersLaw" = some mm.cls) (hts : ∀ w ∈ w_g, w.before #[Value.ref b] s = true) (hE : x_E D cA s) (hXs : va_X b L xs s s.heap) (hbl : b < s.heap.size) {o : Nat} (hbo : b < o) (hL : L ≤ 4096) {i j made : Nat} {N : n_T} {X : d_T} {H : Heap} {locs : List Loc} {cells slots : Nat} {ls : Array Slot} (hj : j < 512) (hi : i + 8 ≤ L) (hjm : made ≤ j) (hl : lv_has ls 4 [(0, .ref b), (1, .ref o), (2, .ref (o + 54)), (3, .int (nI i))]) (hS : g_S D cA o made N X H) (hG : g_ok o made N X) (hV : va_S (x_up o) s.heap H locs) (hcl : cells ≤ 75 + 2 * j) (hsl : slots ≤ 4771 + 11 * j) (kk : ∀ (ls : Array Slot) (H : Heap) (locs : List Loc) (cells slots made : Nat) (N : n_T) (X : d_T), made ≤ (j + 1) → lv_has ls 4 [(0, .ref b), (1, .ref o), (2, .ref (o + 54)), (3, .int (nI i))] → g_S D cA o made N X H → g_ok o made N X → va_S (x_up o) s.heap H locs → cells ≤ 75 + 2 * (j + 1) → slots ≤ 4771 + 11 * (j + 1) → W pp l ee room_1 s mm #[Value.ref b] below mt cd H locs cells slots Q (F0 mm 837 ls [])) : W pp l ee room_1 s mm #[Value.ref b] below mt cd H locs cells slots Q (F0 mm 400 ls []) := by
  have hF := hV.2.2
  refine lv_aload_n hx hb d_Law_law_400 rfl (lv_at hl 1 rfl) ?_
  refine lv_aload_n hx hb d_Law_law_401 rfl (lv_at hl 0 rfl) ?_
  refine lv_iload_n hx hb d_Law_law_402 rfl (lv_at hl 3 rfl) ?_
  refine lv_iconst (v := 1) hx hb d_Law_law_403 (by decide) ?_
  refine lv_iadd hx hb d_Law_law_404 ?_
  refine x_topi (y := nI (i + 1)) (l_k1 i) ?_
  refine x_sld hx hb hXs hbl hbo hV (k := i + 1) (by omega) hL d_Law_law_405 ?_
  refine x_cw (kl_45 (As := [.int (xs (i + 1))]) (rest := []) hx hb hml hown hts (c_DL_drop l D cA N o X (xs (i + 1))) (x_preV hE hS.2.1.1 rfl rfl hS.2.1) rfl hl.1 rfl (Nat.le_of_ble_eq_true rfl) d_Law_law_406 (by decide) ⟨by omega, by omega⟩) (fun H1 L1 p1 f1 => ?_)
  have hF := t_lL hF (fun q h => d_A_up q.base (f1 q h))
  have hV := hV.xF p1.1 d_A_up hF
  have hM : mm_W D cA (o + 54) made N X H1 := hS.mid (fun q h => h) p1.1
  obtain ⟨Y, hY, hYR⟩ := id hM
  refine lv_aload_n hx hb d_Law_law_409 rfl (lv_at hl 2 rfl) ?_
  refine lv_aload_n hx hb d_Law_law_410 rfl (lv_at hl 0 rfl) ?_
  refine lv_iload_n hx hb d_Law_law_411 rfl (lv_at hl 3 rfl) ?_
  refine lv_iconst (v := 1) hx hb d_Law_law_412 (by decide) ?_
  refine lv_iadd hx hb d_Law_law_413 ?_
  refine x_topi (y := nI (i + 1)) (l_k1 i) ?_
  refine x_sld hx hb hXs hbl hbo hV (k := i + 1) (by omega) hL d_Law_law_414 ?_
  refine x_cw (kl_48 (As := [.int (xs (i + 1))]) (rest := [.int (bI (q_drop X (xs (i + 1))))]) hx hb hml hown hts (c_M_drop l D cA (o + 54) made N X (xs (i + 1))) (x_preV hE hY.1 rfl rfl hM) rfl hl.1 rfl (Nat.le_of_ble_eq_true rfl) d_Law_law_415 (by decide) ⟨by omega, by omega⟩) (fun H2 L2 p2 f2 => ?_)
  have hF := t_lL hF (fun q h => m_A_up q.base (f2 q h))
  have hV := hV.xF p2.1 m_A_up hF
  refine lv_icmp_eq (tgt := 837) hx hb d_Law_law_418 (by decide) (fun hq => ?_) (fun hq => ?_)
  · exact kk _ _ _ _ _ _ _ _ (Nat.le_succ_of_le hjm) hl (hS.one hG.2.1 (fun q h => h) p1.1 p2.1 p1.2 p2.2) (hG.drop (xs (i + 1))) hV (by omega) (by omega)
  · exact absurd rfl hq
set_option maxHeartbeats 4000000 in
set_option maxRecDepth 100000 in
theorem turn_7 (l : Launch) {pp : Program} {ee : Env} {s : State} {mm : MethodId} {below : List Frame} {mt : Method} {cd : Code} {Q : State → Prop} {b L : Nat} {xs : Nat → Int32} {D : va_G} {cA : Nat → ClassId} (hx : pp.tables.exec = Jvm.exec) (hb : cd.code = code) (hml : cd.maxLocals = 4) (hown : s.vm.findClass "DecisionLayersLaw" = some mm.cls) (hts : ∀ w ∈ w_g, w.before #[Value.ref b] s = true) (hE : x_E D cA s) (hXs : va_X b L xs s s.heap) (hbl : b < s.heap.size) {o : Nat} (hbo : b < o) (hL : L ≤ 4096) {i j made : Nat} {N : n_T} {X : d_T} {H : Heap} {locs : List Loc} {cells slots : Nat} {ls : Array Slot} (hj : j < 512) (hi : i + 8 ≤ L) (hjm : made ≤ j) (hl : lv_has ls 4 [(0, .ref b), (1, .ref o), (2, .ref (o + 54)), (3, .int (nI i))]) (hS : g_S D cA o made N X H) (hG : g_ok o made N X) (hV : va_S (x_up o) s.heap H locs) (hcl : cells ≤ 75 + 2 * j) (hsl : slots ≤ 4771 + 11 * j) (kk : ∀ (ls : Array Slot) (H : Heap) (locs : List Loc) (cells slots made : Nat) (N : n_T) (X : d_T), made ≤ (j + 1) → lv_has ls 4 [(0, .ref b), (1, .ref o), (2, .ref (o + 54)), (3, .int (nI i))] → g_S D cA o made N X H → g_ok o made N X → va_S (x_up o) s.heap H locs → cells ≤ 75 + 2 * (j + 1) → slots ≤ 4771 + 11 * (j + 1) → W pp l ee room_1 s mm #[Value.ref b] below mt cd H locs cells slots Q (F0 mm 837 ls [])) : W pp l ee room_1 s mm #[Value.ref b] below mt cd H locs cells slots Q (F0 mm 423 ls []) := by
  have hF := hV.2.2
  refine lv_aload_n hx hb d_Law_law_423 rfl (lv_at hl 1 rfl) ?_
  refine lv_aload_n hx hb d_Law_law_424 rfl (lv_at hl 0 rfl) ?_
  refine lv_iload_n hx hb d_Law_law_425 rfl (lv_at hl 3 rfl) ?_
  refine lv_iconst (v := 1) hx hb d_Law_law_426 (by decide) ?_
  refine lv_iadd hx hb d_Law_law_427 ?_
  refine x_topi (y := nI (i + 1)) (l_k1 i) ?_
  refine x_sld hx hb hXs hbl hbo hV (k := i + 1) (by omega) hL d_Law_law_428 ?_
  refine x_cp (kl_49 (As := [.int (xs (i + 1))]) (rest := []) hx hb hml hown hts (c_DL_statements l D cA N o X (xs (i + 1))) (x_preV hE hS.2.1.1 rfl rfl hS.2.1) rfl hl.1 rfl (Nat.le_of_ble_eq_true rfl) d_Law_law_429 (by decide) ⟨by omega, by omega⟩) ?_
  have hM : mm_W D cA (o + 54) made N X H := hS.2.2.2
  obtain ⟨Y, hY, hYR⟩ := id hM
  refine lv_aload_n hx hb d_Law_law_432 rfl (lv_at hl 2 rfl) ?_
  refine lv_aload_n hx hb d_Law_law_433 rfl (lv_at hl 0 rfl) ?_
  refine lv_iload_n hx hb d_Law_law_434 rfl (lv_at hl 3 rfl) ?_
  refine lv_iconst (v := 1) hx hb d_Law_law_435 (by decide) ?_
  refine lv_iadd hx hb d_Law_law_436 ?_
  refine x_topi (y := nI (i + 1)) (l_k1 i) ?_
  refine x_sld hx hb hXs hbl hbo hV (k := i + 1) (by omega) hL d_Law_law_437 ?_
  refine x_cp (kl_53 (As := [.int (xs (i + 1))]) (rest := [.int (q_stmts X (xs (i + 1)))]) hx hb hml hown hts (c_M_statements l D cA (o + 54) made N X (xs (i + 1))) (x_preV hE hY.1 rfl rfl hM) rfl hl.1 rfl (Nat.le_of_ble_eq_true rfl) d_Law_law_438 (by decide) ⟨by omega, by omega⟩) ?_
  refine lv_icmp_eq (tgt := 837) hx hb d_Law_law_441 (by decide) (fun hq => ?_) (fun hq => ?_)
  · exact kk _ _ _ _ _ _ _ _ (Nat.le_succ_of_le hjm) hl hS hG hV (by omega) (by omega)
  · exact absurd rfl hq
set_option maxHeartbeats 4000000 in
set_option maxRecDepth 100000 in
theorem turn_8 (l : Launch) {pp : Program} {ee : Env} {s : State} {mm : MethodId} {below : List Frame} {mt : Method} {cd : Code} {Q : State → Prop} {b L : Nat} {xs : Nat → Int32} {D : va_G} {cA : Nat → ClassId} (hx : pp.tables.exec = Jvm.exec) (hb : cd.code = code) (hml : cd.maxLocals = 4) (hown : s.vm.findClass "DecisionLayersLaw" = some mm.cls) (hts : ∀ w ∈ w_g, w.before #[Value.ref b] s = true) (hE : x_E D cA s) (hXs : va_X b L xs s s.heap) (hbl : b < s.heap.size) {o : Nat} (hbo : b < o) (hL : L ≤ 4096) {i j made : Nat} {N : n_T} {X : d_T} {H : Heap} {locs : List Loc} {cells slots : Nat} {ls : Array Slot} (hj : j < 512) (hi : i + 8 ≤ L) (hjm : made ≤ j) (hl : lv_has ls 4 [(0, .ref b), (1, .ref o), (2, .ref (o + 54)), (3, .int (nI i))]) (hS : g_S D cA o made N X H) (hG : g_ok o made N X) (hV : va_S (x_up o) s.heap H locs) (hcl : cells ≤ 75 + 2 * j) (hsl : slots ≤ 4771 + 11 * j) (kk : ∀ (ls : Array Slot) (H : Heap) (locs : List Loc) (cells slots made : Nat) (N : n_T) (X : d_T), made ≤ (j + 1) → lv_has ls 4 [(0, .ref b), (1, .ref o), (2, .ref (o + 54)), (3, .int (nI i))] → g_S D cA o made N X H → g_ok o made N X → va_S (x_up o) s.heap H locs → cells ≤ 75 + 2 * (j + 1) → slots ≤ 4771 + 11 * (j + 1) → W pp l ee room_1 s mm #[Value.ref b] below mt cd H locs cells slots Q (F0 mm 837 ls [])) : W pp l ee room_1 s mm #[Value.ref b] below mt cd H locs cells slots Q (F0 mm 446 ls []) := by
  have hF := hV.2.2
  refine lv_aload_n hx hb d_Law_law_446 rfl (lv_at hl 1 rfl) ?_
  refine lv_aload_n hx hb d_Law_law_447 rfl (lv_at hl 0 rfl) ?_
  refine lv_iload_n hx hb d_Law_law_448 rfl (lv_at hl 3 rfl) ?_
  refine lv_iconst (v := 1) hx hb d_Law_law_449 (by decide) ?_
  refine lv_iadd hx hb d_Law_law_450 ?_
  refine x_topi (y := nI (i + 1)) (l_k1 i) ?_
  refine x_sld hx hb hXs hbl hbo hV (k := i + 1) (by omega) hL d_Law_law_451 ?_
  refine lv_aload_n hx hb d_Law_law_452 rfl (lv_at hl 0 rfl) ?_
  refine lv_iload_n hx hb d_Law_law_453 rfl (lv_at hl 3 rfl) ?_
  refine lv_iconst (v := 2) hx hb d_Law_law_454 (by decide) ?_
  refine lv_iadd hx hb d_Law_law_455 ?_
  refine x_topi (y := nI (i + 2)) (l_k2 i) ?_
  refine x_sld hx hb hXs hbl hbo hV (k := i + 2) (by omega) hL d_Law_law_456 ?_
  refine lv_i2l hx hb d_Law_law_457 rfl ?_
  refine lv_bipush (v := 32) hx hb d_Law_law_458 (by decide) ?_
  refine lv_lshl hx hb d_Law_law_460 rfl ?_
  refine lv_aload_n hx hb d_Law_law_461 rfl (lv_at hl 0 rfl) ?_
  refine lv_iload_n hx hb d_Law_law_462 rfl (lv_at hl 3 rfl) ?_
  refine lv_iconst (v := 3) hx hb d_Law_law_463 (by decide) ?_
  refine lv_iadd hx hb d_Law_law_464 ?_
  refine x_topi (y := nI (i + 3)) (l_k3 i) ?_
  refine x_sld hx hb hXs hbl hbo hV (k := i + 3) (by omega) hL d_Law_law_465 ?_
  refine lv_i2l hx hb d_Law_law_466 rfl ?_
  refine lv_ldc2 hx hb hown (hts _ w_3_105) d_Law_law_467 ?_
  refine lv_land hx hb d_Law_law_470 ?_
  refine lv_lor hx hb d_Law_law_471 ?_
  refine x_topl (y := l_lg (xs (i + 2)) (xs (i + 3))) rfl ?_
  refine x_cw (kl_54 (As := [.int (xs (i + 1)), .long (l_lg (xs (i + 2)) (xs (i + 3)))]) (rest := []) hx hb hml hown hts (c_DL_offer l D cA N o X hG.2.2.1.2.2.1 (xs (i + 1)) (l_lg (xs (i + 2)) (xs (i + 3)))) (x_preV hE hS.2.1.1 rfl rfl hS.2.1) rfl hl.1 rfl (Nat.le_of_ble_eq_true rfl) d_Law_law_472 (by decide) ⟨by omega, by omega⟩) (fun H1 L1 p1 f1 => ?_)
  have hF := t_lL hF (fun q h => d_A_up q.base (f1 q h))
  have hV := hV.xF p1.1 d_A_up hF
  have hM : mm_W D cA (o + 54) made N X H1 := hS.mid (fun q h => h) p1.1
  obtain ⟨Y, hY, hYR⟩ := id hM
  refine lv_aload_n hx hb d_Law_law_475 rfl (lv_at hl 2 rfl) ?_
  refine lv_aload_n hx hb d_Law_law_476 rfl (lv_at hl 0 rfl) ?_
  refine lv_iload_n hx hb d_Law_law_477 rfl (lv_at hl 3 rfl) ?_
  refine lv_iconst (v := 1) hx hb d_Law_law_478 (by decide) ?_
  refine lv_iadd hx hb d_Law_law_479 ?_
  refine x_topi (y := nI (i + 1)) (l_k1 i) ?_
  refine x_sld hx hb hXs hbl hbo hV (k := i + 1) (by omega) hL d_Law_law_480 ?_
  refine lv_aload_n hx hb d_Law_law_481 rfl (lv_at hl 0 rfl) ?_
  refine lv_iload_n hx hb d_Law_law_482 rfl (lv_at hl 3 rfl) ?_
  refine lv_iconst (v := 2) hx hb d_Law_law_483 (by decide) ?_
  refine lv_iadd hx hb d_Law_law_484 ?_
  refine x_topi (y := nI (i + 2)) (l_k2 i) ?_
  refine x_sld hx hb hXs hbl hbo hV (k := i + 2) (by omega) hL d_Law_law_485 ?_
  refine lv_i2l hx hb d_Law_law_486 rfl ?_
  refine lv_bipush (v := 32) hx hb d_Law_law_487 (by decide) ?_
  refine lv_lshl hx hb d_Law_law_489 rfl ?_
  refine lv_aload_n hx hb d_Law_law_490 rfl (lv_at hl 0 rfl) ?_
  refine lv_iload_n hx hb d_Law_law_491 rfl (lv_at hl 3 rfl) ?_
  refine lv_iconst (v := 3) hx hb d_Law_law_492 (by decide) ?_
  refine lv_iadd hx hb d_Law_law_493 ?_
  refine x_topi (y := nI (i + 3)) (l_k3 i) ?_
  refine x_sld hx hb hXs hbl hbo hV (k := i + 3) (by omega) hL d_Law_law_494 ?_
  refine lv_i2l hx hb d_Law_law_495 rfl ?_
  refine lv_ldc2 hx hb hown (hts _ w_3_105) d_Law_law_496 ?_
  refine lv_land hx hb d_Law_law_499 ?_
  refine lv_lor hx hb d_Law_law_500 ?_
  refine x_topl (y := l_lg (xs (i + 2)) (xs (i + 3))) rfl ?_
  refine x_cw (kl_58 (As := [.int (xs (i + 1)), .long (l_lg (xs (i + 2)) (xs (i + 3)))]) (rest := [.int (q_offer X (xs (i + 1)))]) hx hb hml hown hts (c_M_offer l D cA (o + 54) made N X hG.2.2.1.2.2.1 (xs (i + 1)) (l_lg (xs (i + 2)) (xs (i + 3)))) (x_preV hE hY.1 rfl rfl hM) rfl hl.1 rfl (Nat.le_of_ble_eq_true rfl) d_Law_law_501 (by decide) ⟨by omega, by omega⟩) (fun H2 L2 p2 f2 => ?_)
  have hF := t_lL hF (fun q h => m_A_up q.base (f2 q h))
  have hV := hV.xF p2.1 m_A_up hF
  refine lv_icmp_eq (tgt := 837) hx hb d_Law_law_504 (by decide) (fun hq => ?_) (fun hq => ?_)
  · exact kk _ _ _ _ _ _ _ _ (Nat.le_succ_of_le hjm) hl (hS.one hG.2.1 (fun q h => h) p1.1 p2.1 p1.2 p2.2) (hG.offer (xs (i + 1)) (l_lg (xs (i + 2)) (xs (i + 3)))) hV (by omega) (by omega)
  · exact absurd rfl hq
set_option maxHeartbeats 4000000 in
set_option maxRecDepth 100000 in
theorem turn_9 (l : Launch) {pp : Program} {ee : Env} {s : State} {mm : MethodId} {below : List Frame} {mt : Method} {cd : Code} {Q : State → Prop} {b L : Nat} {xs : Nat → Int32} {D : va_G} {cA : Nat → ClassId} (hx : pp.tables.exec = Jvm.exec) (hb : cd.code = code) (hml : cd.maxLocals = 4) (hown : s.vm.findClass "DecisionLayersLaw" = some mm.cls) (hts : ∀ w ∈ w_g, w.before #[Value.ref b] s = true) (hE : x_E D cA s) (hXs : va_X b L xs s s.heap) (hbl : b < s.heap.size) {o : Nat} (hbo : b < o) (hL : L ≤ 4096) {i j made : Nat} {N : n_T} {X : d_T} {H : Heap} {locs : List Loc} {cells slots : Nat} {ls : Array Slot} (hj : j < 512) (hi : i + 8 ≤ L) (hjm : made ≤ j) (hl : lv_has ls 4 [(0, .ref b), (1, .ref o), (2, .ref (o + 54)), (3, .int (nI i))]) (hS : g_S D cA o made N X H) (hG : g_ok o made N X) (hV : va_S (x_up o) s.heap H locs) (hcl : cells ≤ 75 + 2 * j) (hsl : slots ≤ 4771 + 11 * j) (kk : ∀ (ls : Array Slot) (H : Heap) (locs : List Loc) (cells slots made : Nat) (N : n_T) (X : d_T), made ≤ (j + 1) → lv_has ls 4 [(0, .ref b), (1, .ref o), (2, .ref (o + 54)), (3, .int (nI i))] → g_S D cA o made N X H → g_ok o made N X → va_S (x_up o) s.heap H locs → cells ≤ 75 + 2 * (j + 1) → slots ≤ 4771 + 11 * (j + 1) → W pp l ee room_1 s mm #[Value.ref b] below mt cd H locs cells slots Q (F0 mm 837 ls [])) : W pp l ee room_1 s mm #[Value.ref b] below mt cd H locs cells slots Q (F0 mm 509 ls []) := by
  have hF := hV.2.2
  refine lv_aload_n hx hb d_Law_law_509 rfl (lv_at hl 1 rfl) ?_
  refine lv_aload_n hx hb d_Law_law_510 rfl (lv_at hl 0 rfl) ?_
  refine lv_iload_n hx hb d_Law_law_511 rfl (lv_at hl 3 rfl) ?_
  refine lv_iconst (v := 1) hx hb d_Law_law_512 (by decide) ?_
  refine lv_iadd hx hb d_Law_law_513 ?_
  refine x_topi (y := nI (i + 1)) (l_k1 i) ?_
  refine x_sld hx hb hXs hbl hbo hV (k := i + 1) (by omega) hL d_Law_law_514 ?_
  refine x_cw (kl_59 (As := [.int (xs (i + 1))]) (rest := []) hx hb hml hown hts (c_DL_forget l D cA N o X (xs (i + 1))) (x_preV hE hS.2.1.1 rfl rfl hS.2.1) rfl hl.1 rfl (Nat.le_of_ble_eq_true rfl) d_Law_law_515 (by decide) ⟨by omega, by omega⟩) (fun H1 L1 p1 f1 => ?_)
  have hF := t_lL hF (fun q h => d_A_up q.base (f1 q h))
  have hV := hV.xF p1.1 d_A_up hF
  have hM : mm_W D cA (o + 54) made N X H1 := hS.mid (fun q h => h) p1.1
  obtain ⟨Y, hY, hYR⟩ := id hM
  refine lv_aload_n hx hb d_Law_law_518 rfl (lv_at hl 2 rfl) ?_
  refine lv_aload_n hx hb d_Law_law_519 rfl (lv_at hl 0 rfl) ?_
  refine lv_iload_n hx hb d_Law_law_520 rfl (lv_at hl 3 rfl) ?_
  refine lv_iconst (v := 1) hx hb d_Law_law_521 (by decide) ?_
  refine lv_iadd hx hb d_Law_law_522 ?_
  refine x_topi (y := nI (i + 1)) (l_k1 i) ?_
  refine x_sld hx hb hXs hbl hbo hV (k := i + 1) (by omega) hL d_Law_law_523 ?_
  refine x_cw (kl_62 (As := [.int (xs (i + 1))]) (rest := [.int (q_forget X (xs (i + 1)))]) hx hb hml hown hts (c_M_forget l D cA (o + 54) made N X (xs (i + 1))) (x_preV hE hY.1 rfl rfl hM) rfl hl.1 rfl (Nat.le_of_ble_eq_true rfl) d_Law_law_524 (by decide) ⟨by omega, by omega⟩) (fun H2 L2 p2 f2 => ?_)
  have hF := t_lL hF (fun q h => m_A_up q.base (f2 q h))
  have hV := hV.xF p2.1 m_A_up hF
  refine lv_icmp_eq (tgt := 837) hx hb d_Law_law_527 (by decide) (fun hq => ?_) (fun hq => ?_)
  · exact kk _ _ _ _ _ _ _ _ (Nat.le_succ_of_le hjm) hl (hS.one hG.2.1 (fun q h => h) p1.1 p2.1 p1.2 p2.2) (hG.forget (xs (i + 1))) hV (by omega) (by omega)
  · exact absurd rfl hq
set_option maxHeartbeats 4000000 in
set_option maxRecDepth 100000 in
theorem turn_10 (l : Launch) {pp : Program} {ee : Env} {s : State} {mm : MethodId} {below : List Frame} {mt : Method} {cd : Code} {Q : State → Prop} {b L : Nat} {xs : Nat → Int32} {D : va_G} {cA : Nat → ClassId} (hx : pp.tables.exec = Jvm.exec) (hb : cd.code = code) (hml : cd.maxLocals = 4) (hown : s.vm.findClass "DecisionLayersLaw" = some mm.cls) (hts : ∀ w ∈ w_g, w.before #[Value.ref b] s = true) (hE : x_E D cA s) (hXs : va_X b L xs s s.heap) (hbl : b < s.heap.size) {o : Nat} (hbo : b < o) (hL : L ≤ 4096) {i j made : Nat} {N : n_T} {X : d_T} {H : Heap} {locs : List Loc} {cells slots : Nat} {ls : Array Slot} (hj : j < 512) (hi : i + 8 ≤ L) (hjm : made ≤ j) (hl : lv_has ls 4 [(0, .ref b), (1, .ref o), (2, .ref (o + 54)), (3, .int (nI i))]) (hS : g_S D cA o made N X H) (hG : g_ok o made N X) (hV : va_S (x_up o) s.heap H locs) (hcl : cells ≤ 75 + 2 * j) (hsl : slots ≤ 4771 + 11 * j) (kk : ∀ (ls : Array Slot) (H : Heap) (locs : List Loc) (cells slots made : Nat) (N : n_T) (X : d_T), made ≤ (j + 1) → lv_has ls 4 [(0, .ref b), (1, .ref o), (2, .ref (o + 54)), (3, .int (nI i))] → g_S D cA o made N X H → g_ok o made N X → va_S (x_up o) s.heap H locs → cells ≤ 75 + 2 * (j + 1) → slots ≤ 4771 + 11 * (j + 1) → W pp l ee room_1 s mm #[Value.ref b] below mt cd H locs cells slots Q (F0 mm 837 ls [])) : W pp l ee room_1 s mm #[Value.ref b] below mt cd H locs cells slots Q (F0 mm 532 ls []) := by
  have hF := hV.2.2
  obtain ⟨hv, hVe⟩ := n_V_ex (d_c X) (d_r X) hG.1
  refine lv_aload_n hx hb d_Law_law_532 rfl (lv_at hl 1 rfl) ?_
  refine lv_aload_n hx hb d_Law_law_533 rfl (lv_at hl 0 rfl) ?_
  refine lv_iload_n hx hb d_Law_law_534 rfl (lv_at hl 3 rfl) ?_
  refine lv_iconst (v := 1) hx hb d_Law_law_535 (by decide) ?_
  refine lv_iadd hx hb d_Law_law_536 ?_
  refine x_topi (y := nI (i + 1)) (l_k1 i) ?_
  refine x_sld hx hb hXs hbl hbo hV (k := i + 1) (by omega) hL d_Law_law_537 ?_
  refine lv_aload_n hx hb d_Law_law_538 rfl (lv_at hl 0 rfl) ?_
  refine lv_iload_n hx hb d_Law_law_539 rfl (lv_at hl 3 rfl) ?_
  refine lv_iconst (v := 2) hx hb d_Law_law_540 (by decide) ?_
  refine lv_iadd hx hb d_Law_law_541 ?_
  refine x_topi (y := nI (i + 2)) (l_k2 i) ?_
  refine x_sld hx hb hXs hbl hbo hV (k := i + 2) (by omega) hL d_Law_law_542 ?_
  refine lv_aload_n hx hb d_Law_law_543 rfl (lv_at hl 0 rfl) ?_
  refine lv_iload_n hx hb d_Law_law_544 rfl (lv_at hl 3 rfl) ?_
  refine lv_iconst (v := 3) hx hb d_Law_law_545 (by decide) ?_
  refine lv_iadd hx hb d_Law_law_546 ?_
  refine x_topi (y := nI (i + 3)) (l_k3 i) ?_
  refine x_sld hx hb hXs hbl hbo hV (k := i + 3) (by omega) hL d_Law_law_547 ?_
  refine lv_i2l hx hb d_Law_law_548 rfl ?_
  refine lv_bipush (v := 32) hx hb d_Law_law_549 (by decide) ?_
  refine lv_lshl hx hb d_Law_law_551 rfl ?_
  refine lv_aload_n hx hb d_Law_law_552 rfl (lv_at hl 0 rfl) ?_
  refine lv_iload_n hx hb d_Law_law_553 rfl (lv_at hl 3 rfl) ?_
  refine lv_iconst (v := 4) hx hb d_Law_law_554 (by decide) ?_
  refine lv_iadd hx hb d_Law_law_555 ?_
  refine x_topi (y := nI (i + 4)) (l_k4 i) ?_
  refine x_sld hx hb hXs hbl hbo hV (k := i + 4) (by omega) hL d_Law_law_556 ?_
  refine lv_i2l hx hb d_Law_law_557 rfl ?_
  refine lv_ldc2 hx hb hown (hts _ w_3_105) d_Law_law_558 ?_
  refine lv_land hx hb d_Law_law_561 ?_
  refine lv_lor hx hb d_Law_law_562 ?_
  refine x_topl (y := l_lg (xs (i + 3)) (xs (i + 4))) rfl ?_
  refine lv_aload_n hx hb d_Law_law_563 rfl (lv_at hl 0 rfl) ?_
  refine lv_iload_n hx hb d_Law_law_564 rfl (lv_at hl 3 rfl) ?_
  refine lv_iconst (v := 5) hx hb d_Law_law_565 (by decide) ?_
  refine lv_iadd hx hb d_Law_law_566 ?_
  refine x_topi (y := nI (i + 5)) (l_k5 i) ?_
  refine x_sld hx hb hXs hbl hbo hV (k := i + 5) (by omega) hL d_Law_law_567 ?_
  refine lv_i2l hx hb d_Law_law_568 rfl ?_
  refine lv_bipush (v := 32) hx hb d_Law_law_569 (by decide) ?_
  refine lv_lshl hx hb d_Law_law_571 rfl ?_
  refine lv_aload_n hx hb d_Law_law_572 rfl (lv_at hl 0 rfl) ?_
  refine lv_iload_n hx hb d_Law_law_573 rfl (lv_at hl 3 rfl) ?_
  refine lv_bipush (v := 6) hx hb d_Law_law_574 (by decide) ?_
  refine lv_iadd hx hb d_Law_law_576 ?_
  refine x_topi (y := nI (i + 6)) (l_k6 i) ?_
  refine x_sld hx hb hXs hbl hbo hV (k := i + 6) (by omega) hL d_Law_law_577 ?_
  refine lv_i2l hx hb d_Law_law_578 rfl ?_
  refine lv_ldc2 hx hb hown (hts _ w_3_105) d_Law_law_579 ?_
  refine lv_land hx hb d_Law_law_582 ?_
  refine lv_lor hx hb d_Law_law_583 ?_
  refine x_topl (y := l_lg (xs (i + 5)) (xs (i + 6))) rfl ?_
  refine lv_aload_n hx hb d_Law_law_584 rfl (lv_at hl 0 rfl) ?_
  refine lv_iload_n hx hb d_Law_law_585 rfl (lv_at hl 3 rfl) ?_
  refine lv_bipush (v := 7) hx hb d_Law_law_586 (by decide) ?_
  refine lv_iadd hx hb d_Law_law_588 ?_
  refine x_topi (y := nI (i + 7)) (l_k7 i) ?_
  refine x_sld hx hb hXs hbl hbo hV (k := i + 7) (by omega) hL d_Law_law_589 ?_
  refine x_cw (kl_63 (As := [.int (xs (i + 1)), .int (xs (i + 2)), .long (l_lg (xs (i + 3)) (xs (i + 4))), .long (l_lg (xs (i + 5)) (xs (i + 6))), .int (xs (i + 7))]) (rest := []) hx hb hml hown hts (c_DL_decide l D cA N o X made hv hG.1 hG.2.1 hG.2.2.1 hVe (xs (i + 1)) (xs (i + 2)) (l_lg (xs (i + 3)) (xs (i + 4))) (l_lg (xs (i + 5)) (xs (i + 6))) (xs (i + 7))) (x_preV hE hS.2.1.1 rfl rfl ⟨hS.2.1, hS.2.2.1⟩) rfl hl.1 rfl (Nat.le_of_ble_eq_true rfl) d_Law_law_590 (by decide) ⟨by omega, by omega⟩) (fun H1 L1 p1 f1 => ?_)
  have hF := t_lL hF (fun q h => d_A_up q.base (f1 q h))
  have hV := hV.xF p1.1 d_A_up hF
  have hM : mm_W D cA (o + 54) made N X H1 := hS.mid (fun q h => h) p1.1
  obtain ⟨Y, hY, hYR⟩ := id hM
  refine lv_aload_n hx hb d_Law_law_593 rfl (lv_at hl 2 rfl) ?_
  refine lv_aload_n hx hb d_Law_law_594 rfl (lv_at hl 0 rfl) ?_
  refine lv_iload_n hx hb d_Law_law_595 rfl (lv_at hl 3 rfl) ?_
  refine lv_iconst (v := 1) hx hb d_Law_law_596 (by decide) ?_
  refine lv_iadd hx hb d_Law_law_597 ?_
  refine x_topi (y := nI (i + 1)) (l_k1 i) ?_
  refine x_sld hx hb hXs hbl hbo hV (k := i + 1) (by omega) hL d_Law_law_598 ?_
  refine lv_aload_n hx hb d_Law_law_599 rfl (lv_at hl 0 rfl) ?_
  refine lv_iload_n hx hb d_Law_law_600 rfl (lv_at hl 3 rfl) ?_
  refine lv_iconst (v := 2) hx hb d_Law_law_601 (by decide) ?_
  refine lv_iadd hx hb d_Law_law_602 ?_
  refine x_topi (y := nI (i + 2)) (l_k2 i) ?_
  refine x_sld hx hb hXs hbl hbo hV (k := i + 2) (by omega) hL d_Law_law_603 ?_
  refine lv_aload_n hx hb d_Law_law_604 rfl (lv_at hl 0 rfl) ?_
  refine lv_iload_n hx hb d_Law_law_605 rfl (lv_at hl 3 rfl) ?_
  refine lv_iconst (v := 3) hx hb d_Law_law_606 (by decide) ?_
  refine lv_iadd hx hb d_Law_law_607 ?_
  refine x_topi (y := nI (i + 3)) (l_k3 i) ?_
  refine x_sld hx hb hXs hbl hbo hV (k := i + 3) (by omega) hL d_Law_law_608 ?_
  refine lv_i2l hx hb d_Law_law_609 rfl ?_
  refine lv_bipush (v := 32) hx hb d_Law_law_610 (by decide) ?_
  refine lv_lshl hx hb d_Law_law_612 rfl ?_
  refine lv_aload_n hx hb d_Law_law_613 rfl (lv_at hl 0 rfl) ?_
  refine lv_iload_n hx hb d_Law_law_614 rfl (lv_at hl 3 rfl) ?_
  refine lv_iconst (v := 4) hx hb d_Law_law_615 (by decide) ?_
  refine lv_iadd hx hb d_Law_law_616 ?_
  refine x_topi (y := nI (i + 4)) (l_k4 i) ?_
  refine x_sld hx hb hXs hbl hbo hV (k := i + 4) (by omega) hL d_Law_law_617 ?_
  refine lv_i2l hx hb d_Law_law_618 rfl ?_
  refine lv_ldc2 hx hb hown (hts _ w_3_105) d_Law_law_619 ?_
  refine lv_land hx hb d_Law_law_622 ?_
  refine lv_lor hx hb d_Law_law_623 ?_
  refine x_topl (y := l_lg (xs (i + 3)) (xs (i + 4))) rfl ?_
  refine lv_aload_n hx hb d_Law_law_624 rfl (lv_at hl 0 rfl) ?_
  refine lv_iload_n hx hb d_Law_law_625 rfl (lv_at hl 3 rfl) ?_
  refine lv_iconst (v := 5) hx hb d_Law_law_626 (by decide) ?_
  refine lv_iadd hx hb d_Law_law_627 ?_
  refine x_topi (y := nI (i + 5)) (l_k5 i) ?_
  refine x_sld hx hb hXs hbl hbo hV (k := i + 5) (by omega) hL d_Law_law_628 ?_
  refine lv_i2l hx hb d_Law_law_629 rfl ?_
  refine lv_bipush (v := 32) hx hb d_Law_law_630 (by decide) ?_
  refine lv_lshl hx hb d_Law_law_632 rfl ?_
  refine lv_aload_n hx hb d_Law_law_633 rfl (lv_at hl 0 rfl) ?_
  refine lv_iload_n hx hb d_Law_law_634 rfl (lv_at hl 3 rfl) ?_
  refine lv_bipush (v := 6) hx hb d_Law_law_635 (by decide) ?_
  refine lv_iadd hx hb d_Law_law_637 ?_
  refine x_topi (y := nI (i + 6)) (l_k6 i) ?_
  refine x_sld hx hb hXs hbl hbo hV (k := i + 6) (by omega) hL d_Law_law_638 ?_
  refine lv_i2l hx hb d_Law_law_639 rfl ?_
  refine lv_ldc2 hx hb hown (hts _ w_3_105) d_Law_law_640 ?_
  refine lv_land hx hb d_Law_law_643 ?_
  refine lv_lor hx hb d_Law_law_644 ?_
  refine x_topl (y := l_lg (xs (i + 5)) (xs (i + 6))) rfl ?_
  refine lv_aload_n hx hb d_Law_law_645 rfl (lv_at hl 0 rfl) ?_
  refine lv_iload_n hx hb d_Law_law_646 rfl (lv_at hl 3 rfl) ?_
  refine lv_bipush (v := 7) hx hb d_Law_law_647 (by decide) ?_
  refine lv_iadd hx hb d_Law_law_649 ?_
  refine x_topi (y := nI (i + 7)) (l_k7 i) ?_
  refine x_sld hx hb hXs hbl hbo hV (k := i + 7) (by omega) hL d_Law_law_650 ?_
  refine x_cw (kl_66 (As := [.int (xs (i + 1)), .int (xs (i + 2)), .long (l_lg (xs (i + 3)) (xs (i + 4))), .long (l_lg (xs (i + 5)) (xs (i + 6))), .int (xs (i + 7))]) (rest := [.int (q_dec X hv (xs (i + 1)) (xs (i + 2)) (l_lg (xs (i + 3)) (xs (i + 4))) (l_lg (xs (i + 5)) (xs (i + 6))) (xs (i + 7)))]) hx hb hml hown hts (c_M_decide l D cA (o + 54) made N X hv (by omega) hG.1 hG.2.2.1 hVe (xs (i + 1)) (xs (i + 2)) (l_lg (xs (i + 3)) (xs (i + 4))) (l_lg (xs (i + 5)) (xs (i + 6))) (xs (i + 7))) (x_preV hE hY.1 rfl rfl hM) rfl hl.1 rfl (Nat.le_of_ble_eq_true rfl) d_Law_law_651 (by decide) ⟨by omega, by omega⟩) (fun H2 L2 p2 f2 => ?_)
  have hF := t_lL hF (fun q h => m_A_up q.base (f2 q h))
  have hV := hV.xF p2.1 m_A_up hF
  refine lv_icmp_eq (tgt := 837) hx hb d_Law_law_654 (by decide) (fun hq => ?_) (fun hq => ?_)
  · exact kk _ _ _ _ _ _ _ _ (Nat.le_succ_of_le hjm) hl (hS.one hG.2.1 (fun q h => h) p1.1 p2.1 p1.2 p2.2) (hG.dec hv (xs (i + 1)) (xs (i + 2)) (l_lg (xs (i + 3)) (xs (i + 4))) (l_lg (xs (i + 5)) (xs (i + 6))) (xs (i + 7))) hV (by omega) (by omega)
  · exact absurd rfl hq
set_option maxHeartbeats 4000000 in
set_option maxRecDepth 100000 in
theorem turn_11 (l : Launch) {pp : Program} {ee : Env} {s : State} {mm : MethodId} {below : List Frame} {mt : Method} {cd : Code} {Q : State → Prop} {b L : Nat} {xs : Nat → Int32} {D : va_G} {cA : Nat → ClassId} (hx : pp.tables.exec = Jvm.exec) (hb : cd.code = code) (hml : cd.maxLocals = 4) (hown : s.vm.findClass "DecisionLayersLaw" = some mm.cls) (hts : ∀ w ∈ w_g, w.before #[Value.ref b] s = true) (hE : x_E D cA s) (hXs : va_X b L xs s s.heap) (hbl : b < s.heap.size) {o : Nat} (hbo : b < o) (hL : L ≤ 4096) {i j made : Nat} {N : n_T} {X : d_T} {H : Heap} {locs : List Loc} {cells slots : Nat} {ls : Array Slot} (hj : j < 512) (hi : i + 8 ≤ L) (hjm : made ≤ j) (hl : lv_has ls 4 [(0, .ref b), (1, .ref o), (2, .ref (o + 54)), (3, .int (nI i))]) (hS : g_S D cA o made N X H) (hG : g_ok o made N X) (hV : va_S (x_up o) s.heap H locs) (hcl : cells ≤ 75 + 2 * j) (hsl : slots ≤ 4771 + 11 * j) (kk : ∀ (ls : Array Slot) (H : Heap) (locs : List Loc) (cells slots made : Nat) (N : n_T) (X : d_T), made ≤ (j + 1) → lv_has ls 4 [(0, .ref b), (1, .ref o), (2, .ref (o + 54)), (3, .int (nI i))] → g_S D cA o made N X H → g_ok o made N X → va_S (x_up o) s.heap H locs → cells ≤ 75 + 2 * (j + 1) → slots ≤ 4771 + 11 * (j + 1) → W pp l ee room_1 s mm #[Value.ref b] below mt cd H locs cells slots Q (F0 mm 837 ls [])) : W pp l ee room_1 s mm #[Value.ref b] below mt cd H locs cells slots Q (F0 mm 659 ls []) := by
  have hF := hV.2.2
  refine lv_aload_n hx hb d_Law_law_659 rfl (lv_at hl 1 rfl) ?_
  refine x_cp (kl_67 (As := []) (rest := []) hx hb hml hown hts (c_DL_layer l D cA N o X ) (x_preV hE hS.2.1.1 rfl rfl hS.2.1) rfl hl.1 rfl (Nat.le_of_ble_eq_true rfl) d_Law_law_660 (by decide) ⟨by omega, by omega⟩) ?_
  have hM : mm_W D cA (o + 54) made N X H := hS.2.2.2
  obtain ⟨Y, hY, hYR⟩ := id hM
  refine lv_aload_n hx hb d_Law_law_663 rfl (lv_at hl 2 rfl) ?_
  refine x_cp (kl_70 (As := []) (rest := [.int (d_e X)]) hx hb hml hown hts (c_M_layer l D cA (o + 54) made N X ) (x_preV hE hY.1 rfl rfl hM) rfl hl.1 rfl (Nat.le_of_ble_eq_true rfl) d_Law_law_664 (by decide) ⟨by omega, by omega⟩) ?_
  refine lv_icmp_eq (tgt := 837) hx hb d_Law_law_667 (by decide) (fun hq => ?_) (fun hq => ?_)
  · exact kk _ _ _ _ _ _ _ _ (Nat.le_succ_of_le hjm) hl hS hG hV (by omega) (by omega)
  · exact absurd rfl hq
set_option maxHeartbeats 4000000 in
set_option maxRecDepth 100000 in
theorem turn_12 (l : Launch) {pp : Program} {ee : Env} {s : State} {mm : MethodId} {below : List Frame} {mt : Method} {cd : Code} {Q : State → Prop} {b L : Nat} {xs : Nat → Int32} {D : va_G} {cA : Nat → ClassId} (hx : pp.tables.exec = Jvm.exec) (hb : cd.code = code) (hml : cd.maxLocals = 4) (hown : s.vm.findClass "DecisionLayersLaw" = some mm.cls) (hts : ∀ w ∈ w_g, w.before #[Value.ref b] s = true) (hE : x_E D cA s) (hXs : va_X b L xs s s.heap) (hbl : b < s.heap.size) {o : Nat} (hbo : b < o) (hL : L ≤ 4096) {i j made : Nat} {N : n_T} {X : d_T} {H : Heap} {locs : List Loc} {cells slots : Nat} {ls : Array Slot} (hj : j < 512) (hi : i + 8 ≤ L) (hjm : made ≤ j) (hl : lv_has ls 4 [(0, .ref b), (1, .ref o), (2, .ref (o + 54)), (3, .int (nI i))]) (hS : g_S D cA o made N X H) (hG : g_ok o made N X) (hV : va_S (x_up o) s.heap H locs) (hcl : cells ≤ 75 + 2 * j) (hsl : slots ≤ 4771 + 11 * j) (kk : ∀ (ls : Array Slot) (H : Heap) (locs : List Loc) (cells slots made : Nat) (N : n_T) (X : d_T), made ≤ (j + 1) → lv_has ls 4 [(0, .ref b), (1, .ref o), (2, .ref (o + 54)), (3, .int (nI i))] → g_S D cA o made N X H → g_ok o made N X → va_S (x_up o) s.heap H locs → cells ≤ 75 + 2 * (j + 1) → slots ≤ 4771 + 11 * (j + 1) → W pp l ee room_1 s mm #[Value.ref b] below mt cd H locs cells slots Q (F0 mm 837 ls [])) : W pp l ee room_1 s mm #[Value.ref b] below mt cd H locs cells slots Q (F0 mm 672 ls []) := by
  have hF := hV.2.2
  refine lv_aload_n hx hb d_Law_law_672 rfl (lv_at hl 1 rfl) ?_
  refine lv_aload_n hx hb d_Law_law_673 rfl (lv_at hl 0 rfl) ?_
  refine lv_iload_n hx hb d_Law_law_674 rfl (lv_at hl 3 rfl) ?_
  refine lv_iconst (v := 1) hx hb d_Law_law_675 (by decide) ?_
  refine lv_iadd hx hb d_Law_law_676 ?_
  refine x_topi (y := nI (i + 1)) (l_k1 i) ?_
  refine x_sld hx hb hXs hbl hbo hV (k := i + 1) (by omega) hL d_Law_law_677 ?_
  refine x_cp (kl_71 (As := [.int (xs (i + 1))]) (rest := []) hx hb hml hown hts (c_DL_applied l D cA N o X (xs (i + 1))) (x_preV hE hS.2.1.1 rfl rfl hS.2.1) rfl hl.1 rfl (Nat.le_of_ble_eq_true rfl) d_Law_law_678 (by decide) ⟨by omega, by omega⟩) ?_
  have hM : mm_W D cA (o + 54) made N X H := hS.2.2.2
  obtain ⟨Y, hY, hYR⟩ := id hM
  refine lv_aload_n hx hb d_Law_law_681 rfl (lv_at hl 2 rfl) ?_
  refine lv_aload_n hx hb d_Law_law_682 rfl (lv_at hl 0 rfl) ?_
  refine lv_iload_n hx hb d_Law_law_683 rfl (lv_at hl 3 rfl) ?_
  refine lv_iconst (v := 1) hx hb d_Law_law_684 (by decide) ?_
  refine lv_iadd hx hb d_Law_law_685 ?_
  refine x_topi (y := nI (i + 1)) (l_k1 i) ?_
  refine x_sld hx hb hXs hbl hbo hV (k := i + 1) (by omega) hL d_Law_law_686 ?_
  refine x_cp (kl_74 (As := [.int (xs (i + 1))]) (rest := [.int (q_appl X (xs (i + 1)))]) hx hb hml hown hts (c_M_applied l D cA (o + 54) made N X hG.e (xs (i + 1))) (x_preV hE hY.1 rfl rfl hM) rfl hl.1 rfl (Nat.le_of_ble_eq_true rfl) d_Law_law_687 (by decide) ⟨by omega, by omega⟩) ?_
  refine lv_icmp_eq (tgt := 837) hx hb d_Law_law_690 (by decide) (fun hq => ?_) (fun hq => ?_)
  · exact kk _ _ _ _ _ _ _ _ (Nat.le_succ_of_le hjm) hl hS hG hV (by omega) (by omega)
  · exact absurd rfl hq
set_option maxHeartbeats 4000000 in
set_option maxRecDepth 100000 in
theorem turn_14 (l : Launch) {pp : Program} {ee : Env} {s : State} {mm : MethodId} {below : List Frame} {mt : Method} {cd : Code} {Q : State → Prop} {b L : Nat} {xs : Nat → Int32} {D : va_G} {cA : Nat → ClassId} (hx : pp.tables.exec = Jvm.exec) (hb : cd.code = code) (hml : cd.maxLocals = 4) (hown : s.vm.findClass "DecisionLayersLaw" = some mm.cls) (hts : ∀ w ∈ w_g, w.before #[Value.ref b] s = true) (hE : x_E D cA s) (hXs : va_X b L xs s s.heap) (hbl : b < s.heap.size) {o : Nat} (hbo : b < o) (hL : L ≤ 4096) {i j made : Nat} {N : n_T} {X : d_T} {H : Heap} {locs : List Loc} {cells slots : Nat} {ls : Array Slot} (hj : j < 512) (hi : i + 8 ≤ L) (hjm : made ≤ j) (hl : lv_has ls 4 [(0, .ref b), (1, .ref o), (2, .ref (o + 54)), (3, .int (nI i))]) (hS : g_S D cA o made N X H) (hG : g_ok o made N X) (hV : va_S (x_up o) s.heap H locs) (hcl : cells ≤ 75 + 2 * j) (hsl : slots ≤ 4771 + 11 * j) (kk : ∀ (ls : Array Slot) (H : Heap) (locs : List Loc) (cells slots made : Nat) (N : n_T) (X : d_T), made ≤ (j + 1) → lv_has ls 4 [(0, .ref b), (1, .ref o), (2, .ref (o + 54)), (3, .int (nI i))] → g_S D cA o made N X H → g_ok o made N X → va_S (x_up o) s.heap H locs → cells ≤ 75 + 2 * (j + 1) → slots ≤ 4771 + 11 * (j + 1) → W pp l ee room_1 s mm #[Value.ref b] below mt cd H locs cells slots Q (F0 mm 837 ls [])) : W pp l ee room_1 s mm #[Value.ref b] below mt cd H locs cells slots Q (F0 mm 814 ls []) := by
  have hF := hV.2.2
  obtain ⟨hv, hVe⟩ := n_V_ex (d_c X) (d_r X) hG.1
  refine lv_aload_n hx hb d_Law_law_814 rfl (lv_at hl 1 rfl) ?_
  refine lv_aload_n hx hb d_Law_law_815 rfl (lv_at hl 0 rfl) ?_
  refine lv_iload_n hx hb d_Law_law_816 rfl (lv_at hl 3 rfl) ?_
  refine lv_iconst (v := 1) hx hb d_Law_law_817 (by decide) ?_
  refine lv_iadd hx hb d_Law_law_818 ?_
  refine x_topi (y := nI (i + 1)) (l_k1 i) ?_
  refine x_sld hx hb hXs hbl hbo hV (k := i + 1) (by omega) hL d_Law_law_819 ?_
  refine x_cp (kl_80 (As := [.int (xs (i + 1))]) (rest := []) hx hb hml hown hts (c_DL_holds l D cA N o X made hv hG.1 hG.2.1 hG.2.2.1 hVe (xs (i + 1))) (x_preV hE hS.2.1.1 rfl rfl ⟨hS.2.1, hS.2.2.1⟩) rfl hl.1 rfl (Nat.le_of_ble_eq_true rfl) d_Law_law_820 (by decide) ⟨by omega, by omega⟩) ?_
  have hM : mm_W D cA (o + 54) made N X H := hS.2.2.2
  obtain ⟨Y, hY, hYR⟩ := id hM
  refine lv_aload_n hx hb d_Law_law_823 rfl (lv_at hl 2 rfl) ?_
  refine lv_aload_n hx hb d_Law_law_824 rfl (lv_at hl 0 rfl) ?_
  refine lv_iload_n hx hb d_Law_law_825 rfl (lv_at hl 3 rfl) ?_
  refine lv_iconst (v := 1) hx hb d_Law_law_826 (by decide) ?_
  refine lv_iadd hx hb d_Law_law_827 ?_
  refine x_topi (y := nI (i + 1)) (l_k1 i) ?_
  refine x_sld hx hb hXs hbl hbo hV (k := i + 1) (by omega) hL d_Law_law_828 ?_
  refine x_cw (kl_83 (As := [.int (xs (i + 1))]) (rest := [.int (bI (q_holds X hv (xs (i + 1))))]) hx hb hml hown hts (c_M_holds l D cA (o + 54) made N X hv (by omega) hG.1 hG.2.2.1 hVe (xs (i + 1))) (x_preV hE hY.1 rfl rfl hM) rfl hl.1 rfl (Nat.le_of_ble_eq_true rfl) d_Law_law_829 (by decide) ⟨by omega, by omega⟩) (fun H2 L2 p2 f2 => ?_)
  have hF := t_lL hF (fun q h => m_A_up q.base (f2 q h))
  have hV := hV.xF p2.1 m_A_up hF
  refine lv_icmp_eq (tgt := 837) hx hb d_Law_law_832 (by decide) (fun hq => ?_) (fun hq => ?_)
  · exact kk _ _ _ _ _ _ _ _ (Nat.le_succ_of_le hjm) hl (hS.one hG.2.1 (A := d_A o) (fun q h => h) x_F.rf p2.1 hS.2.1 p2.2) hG hV (by omega) (by omega)
  · exact absurd rfl hq
set_option maxHeartbeats 4000000 in
set_option maxRecDepth 100000 in
theorem turn_13 (l : Launch) {pp : Program} {ee : Env} {s : State} {mm : MethodId} {below : List Frame} {mt : Method} {cd : Code} {Q : State → Prop} {b L : Nat} {xs : Nat → Int32} {D : va_G} {cA : Nat → ClassId} (hx : pp.tables.exec = Jvm.exec) (hb : cd.code = code) (hml : cd.maxLocals = 4) (hown : s.vm.findClass "DecisionLayersLaw" = some mm.cls) (hts : ∀ w ∈ w_g, w.before #[Value.ref b] s = true) (hE : x_E D cA s) (hXs : va_X b L xs s s.heap) (hbl : b < s.heap.size) {o : Nat} (hbo : b < o) (hL : L ≤ 4096) {i j made : Nat} {N : n_T} {X : d_T} {H : Heap} {locs : List Loc} {cells slots : Nat} {ls : Array Slot} (hj : j < 512) (hi : i + 8 ≤ L) (hjm : made ≤ j) (hl : lv_has ls 4 [(0, .ref b), (1, .ref o), (2, .ref (o + 54)), (3, .int (nI i))]) (hS : g_S D cA o made N X H) (hG : g_ok o made N X) (hV : va_S (x_up o) s.heap H locs) (hcl : cells ≤ 75 + 2 * j) (hsl : slots ≤ 4771 + 11 * j) (kk : ∀ (ls : Array Slot) (H : Heap) (locs : List Loc) (cells slots made : Nat) (N : n_T) (X : d_T), made ≤ (j + 1) → lv_has ls 4 [(0, .ref b), (1, .ref o), (2, .ref (o + 54)), (3, .int (nI i))] → g_S D cA o made N X H → g_ok o made N X → va_S (x_up o) s.heap H locs → cells ≤ 75 + 2 * (j + 1) → slots ≤ 4771 + 11 * (j + 1) → W pp l ee room_1 s mm #[Value.ref b] below mt cd H locs cells slots Q (F0 mm 837 ls [])) : W pp l ee room_1 s mm #[Value.ref b] below mt cd H locs cells slots Q (F0 mm 695 ls []) := by
  have hF := hV.2.2
  refine lv_aload_n hx hb d_Law_law_695 rfl (lv_at hl 1 rfl) ?_
  refine lv_aload_n hx hb d_Law_law_696 rfl (lv_at hl 0 rfl) ?_
  refine lv_iload_n hx hb d_Law_law_697 rfl (lv_at hl 3 rfl) ?_
  refine lv_iconst (v := 1) hx hb d_Law_law_698 (by decide) ?_
  refine lv_iadd hx hb d_Law_law_699 ?_
  refine x_topi (y := nI (i + 1)) (l_k1 i) ?_
  refine x_sld hx hb hXs hbl hbo hV (k := i + 1) (by omega) hL d_Law_law_700 ?_
  refine lv_i2l hx hb d_Law_law_701 rfl ?_
  refine lv_bipush (v := 32) hx hb d_Law_law_702 (by decide) ?_
  refine lv_lshl hx hb d_Law_law_704 rfl ?_
  refine lv_aload_n hx hb d_Law_law_705 rfl (lv_at hl 0 rfl) ?_
  refine lv_iload_n hx hb d_Law_law_706 rfl (lv_at hl 3 rfl) ?_
  refine lv_iconst (v := 2) hx hb d_Law_law_707 (by decide) ?_
  refine lv_iadd hx hb d_Law_law_708 ?_
  refine x_topi (y := nI (i + 2)) (l_k2 i) ?_
  refine x_sld hx hb hXs hbl hbo hV (k := i + 2) (by omega) hL d_Law_law_709 ?_
  refine lv_i2l hx hb d_Law_law_710 rfl ?_
  refine lv_ldc2 hx hb hown (hts _ w_3_105) d_Law_law_711 ?_
  refine lv_land hx hb d_Law_law_714 ?_
  refine lv_lor hx hb d_Law_law_715 ?_
  refine x_topl (y := l_lg (xs (i + 1)) (xs (i + 2))) rfl ?_
  refine lv_aload_n hx hb d_Law_law_716 rfl (lv_at hl 0 rfl) ?_
  refine lv_iload_n hx hb d_Law_law_717 rfl (lv_at hl 3 rfl) ?_
  refine lv_iconst (v := 3) hx hb d_Law_law_718 (by decide) ?_
  refine lv_iadd hx hb d_Law_law_719 ?_
  refine x_topi (y := nI (i + 3)) (l_k3 i) ?_
  refine x_sld hx hb hXs hbl hbo hV (k := i + 3) (by omega) hL d_Law_law_720 ?_
  refine lv_i2l hx hb d_Law_law_721 rfl ?_
  refine lv_bipush (v := 32) hx hb d_Law_law_722 (by decide) ?_
  refine lv_lshl hx hb d_Law_law_724 rfl ?_
  refine lv_aload_n hx hb d_Law_law_725 rfl (lv_at hl 0 rfl) ?_
  refine lv_iload_n hx hb d_Law_law_726 rfl (lv_at hl 3 rfl) ?_
  refine lv_iconst (v := 4) hx hb d_Law_law_727 (by decide) ?_
  refine lv_iadd hx hb d_Law_law_728 ?_
  refine x_topi (y := nI (i + 4)) (l_k4 i) ?_
  refine x_sld hx hb hXs hbl hbo hV (k := i + 4) (by omega) hL d_Law_law_729 ?_
  refine lv_i2l hx hb d_Law_law_730 rfl ?_
  refine lv_ldc2 hx hb hown (hts _ w_3_105) d_Law_law_731 ?_
  refine lv_land hx hb d_Law_law_734 ?_
  refine lv_lor hx hb d_Law_law_735 ?_
  refine x_topl (y := l_lg (xs (i + 3)) (xs (i + 4))) rfl ?_
  refine lv_aload_n hx hb d_Law_law_736 rfl (lv_at hl 0 rfl) ?_
  refine lv_iload_n hx hb d_Law_law_737 rfl (lv_at hl 3 rfl) ?_
  refine lv_iconst (v := 5) hx hb d_Law_law_738 (by decide) ?_
  refine lv_iadd hx hb d_Law_law_739 ?_
  refine x_topi (y := nI (i + 5)) (l_k5 i) ?_
  refine x_sld hx hb hXs hbl hbo hV (k := i + 5) (by omega) hL d_Law_law_740 ?_
  refine lv_if_eq (tgt := 748) hx hb d_Law_law_741 (by decide) (fun z1 => ?_) (fun z1 => ?_)
  · refine lv_iconst (v := 0) hx hb d_Law_law_748 (by decide) ?_
    refine x_topi (y := bI false) rfl ?_
    refine x_cp (kl_75 (As := [.long (l_lg (xs (i + 1)) (xs (i + 2))), .long (l_lg (xs (i + 3)) (xs (i + 4))), .int (bI false)]) (rest := []) hx hb hml hown hts (c_DL_matches l D cA N o X (l_lg (xs (i + 1)) (xs (i + 2))) (l_lg (xs (i + 3)) (xs (i + 4))) false) (x_preV hE hS.2.1.1 rfl rfl hS.2.1) rfl hl.1 rfl (Nat.le_of_ble_eq_true rfl) d_Law_law_749 (by decide) ⟨by omega, by omega⟩) ?_
    have hM : mm_W D cA (o + 54) made N X H := hS.2.2.2
    obtain ⟨Y, hY, hYR⟩ := id hM
    refine lv_aload_n hx hb d_Law_law_752 rfl (lv_at hl 2 rfl) ?_
    refine lv_aload_n hx hb d_Law_law_753 rfl (lv_at hl 0 rfl) ?_
    refine lv_iload_n hx hb d_Law_law_754 rfl (lv_at hl 3 rfl) ?_
    refine lv_iconst (v := 1) hx hb d_Law_law_755 (by decide) ?_
    refine lv_iadd hx hb d_Law_law_756 ?_
    refine x_topi (y := nI (i + 1)) (l_k1 i) ?_
    refine x_sld hx hb hXs hbl hbo hV (k := i + 1) (by omega) hL d_Law_law_757 ?_
    refine lv_i2l hx hb d_Law_law_758 rfl ?_
    refine lv_bipush (v := 32) hx hb d_Law_law_759 (by decide) ?_
    refine lv_lshl hx hb d_Law_law_761 rfl ?_
    refine lv_aload_n hx hb d_Law_law_762 rfl (lv_at hl 0 rfl) ?_
    refine lv_iload_n hx hb d_Law_law_763 rfl (lv_at hl 3 rfl) ?_
    refine lv_iconst (v := 2) hx hb d_Law_law_764 (by decide) ?_
    refine lv_iadd hx hb d_Law_law_765 ?_
    refine x_topi (y := nI (i + 2)) (l_k2 i) ?_
    refine x_sld hx hb hXs hbl hbo hV (k := i + 2) (by omega) hL d_Law_law_766 ?_
    refine lv_i2l hx hb d_Law_law_767 rfl ?_
    refine lv_ldc2 hx hb hown (hts _ w_3_105) d_Law_law_768 ?_
    refine lv_land hx hb d_Law_law_771 ?_
    refine lv_lor hx hb d_Law_law_772 ?_
    refine x_topl (y := l_lg (xs (i + 1)) (xs (i + 2))) rfl ?_
    refine lv_aload_n hx hb d_Law_law_773 rfl (lv_at hl 0 rfl) ?_
    refine lv_iload_n hx hb d_Law_law_774 rfl (lv_at hl 3 rfl) ?_
    refine lv_iconst (v := 3) hx hb d_Law_law_775 (by decide) ?_
    refine lv_iadd hx hb d_Law_law_776 ?_
    refine x_topi (y := nI (i + 3)) (l_k3 i) ?_
    refine x_sld hx hb hXs hbl hbo hV (k := i + 3) (by omega) hL d_Law_law_777 ?_
    refine lv_i2l hx hb d_Law_law_778 rfl ?_
    refine lv_bipush (v := 32) hx hb d_Law_law_779 (by decide) ?_
    refine lv_lshl hx hb d_Law_law_781 rfl ?_
    refine lv_aload_n hx hb d_Law_law_782 rfl (lv_at hl 0 rfl) ?_
    refine lv_iload_n hx hb d_Law_law_783 rfl (lv_at hl 3 rfl) ?_
    refine lv_iconst (v := 4) hx hb d_Law_law_784 (by decide) ?_
    refine lv_iadd hx hb d_Law_law_785 ?_
    refine x_topi (y := nI (i + 4)) (l_k4 i) ?_
    refine x_sld hx hb hXs hbl hbo hV (k := i + 4) (by omega) hL d_Law_law_786 ?_
    refine lv_i2l hx hb d_Law_law_787 rfl ?_
    refine lv_ldc2 hx hb hown (hts _ w_3_105) d_Law_law_788 ?_
    refine lv_land hx hb d_Law_law_791 ?_
    refine lv_lor hx hb d_Law_law_792 ?_
    refine x_topl (y := l_lg (xs (i + 3)) (xs (i + 4))) rfl ?_
    refine lv_aload_n hx hb d_Law_law_793 rfl (lv_at hl 0 rfl) ?_
    refine lv_iload_n hx hb d_Law_law_794 rfl (lv_at hl 3 rfl) ?_
    refine lv_iconst (v := 5) hx hb d_Law_law_795 (by decide) ?_
    refine lv_iadd hx hb d_Law_law_796 ?_
    refine x_topi (y := nI (i + 5)) (l_k5 i) ?_
    refine x_sld hx hb hXs hbl hbo hV (k := i + 5) (by omega) hL d_Law_law_797 ?_
    refine lv_if_eq (tgt := 805) hx hb d_Law_law_798 (by decide) (fun z2 => ?_) (fun z2 => ?_)
    · refine lv_iconst (v := 0) hx hb d_Law_law_805 (by decide) ?_
      refine x_topi (y := bI false) rfl ?_
      refine x_cw (kl_79 (As := [.long (l_lg (xs (i + 1)) (xs (i + 2))), .long (l_lg (xs (i + 3)) (xs (i + 4))), .int (bI false)]) (rest := [.int (bI (pt_m (d_c X) (d_r X) (l_lg (xs (i + 1)) (xs (i + 2))) (l_lg (xs (i + 3)) (xs (i + 4))) false))]) hx hb hml hown hts (c_M_matchesX l D cA (o + 54) made N X Y hYR (l_lg (xs (i + 1)) (xs (i + 2))) (l_lg (xs (i + 3)) (xs (i + 4))) false) (x_preV hE hY.1 rfl rfl hY) rfl hl.1 rfl (Nat.le_of_ble_eq_true rfl) d_Law_law_806 (by decide) ⟨by omega, by omega⟩) (fun H2 L2 p2 f2 => ?_)
      have hF := t_lL hF (fun q h => (fun q h => m_A_up q (m_tA_A h)) q.base (f2 q h))
      have hV := hV.xF p2.1 (fun q h => m_A_up q (m_tA_A h)) hF
      obtain ⟨e2, tt, ft, hW2⟩ := p2
      refine lv_icmp_eq (tgt := 837) hx hb d_Law_law_809 (by decide) (fun hq => ?_) (fun hq => ?_)
      · exact kk _ _ _ _ _ _ _ _ (Nat.le_succ_of_le hjm) hl (hS.one hG.2.1 (A := d_A o) (fun q h => h) x_F.rf (e2.mono (fun q h => m_tA_A h)) hS.2.1 ⟨_, hW2, hYR.tk tt ft⟩) hG hV (by omega) (by omega)
      · exact absurd rfl hq
    · exact absurd z1 z2
  · refine lv_iconst (v := 1) hx hb d_Law_law_744 (by decide) ?_
    refine lv_goto (tgt := 749) hx hb d_Law_law_745 (by decide) ?_
    refine x_topi (y := bI true) rfl ?_
    refine x_cp (kl_75 (As := [.long (l_lg (xs (i + 1)) (xs (i + 2))), .long (l_lg (xs (i + 3)) (xs (i + 4))), .int (bI true)]) (rest := []) hx hb hml hown hts (c_DL_matches l D cA N o X (l_lg (xs (i + 1)) (xs (i + 2))) (l_lg (xs (i + 3)) (xs (i + 4))) true) (x_preV hE hS.2.1.1 rfl rfl hS.2.1) rfl hl.1 rfl (Nat.le_of_ble_eq_true rfl) d_Law_law_749 (by decide) ⟨by omega, by omega⟩) ?_
    have hM : mm_W D cA (o + 54) made N X H := hS.2.2.2
    obtain ⟨Y, hY, hYR⟩ := id hM
    refine lv_aload_n hx hb d_Law_law_752 rfl (lv_at hl 2 rfl) ?_
    refine lv_aload_n hx hb d_Law_law_753 rfl (lv_at hl 0 rfl) ?_
    refine lv_iload_n hx hb d_Law_law_754 rfl (lv_at hl 3 rfl) ?_
    refine lv_iconst (v := 1) hx hb d_Law_law_755 (by decide) ?_
    refine lv_iadd hx hb d_Law_law_756 ?_
    refine x_topi (y := nI (i + 1)) (l_k1 i) ?_
    refine x_sld hx hb hXs hbl hbo hV (k := i + 1) (by omega) hL d_Law_law_757 ?_
    refine lv_i2l hx hb d_Law_law_758 rfl ?_
    refine lv_bipush (v := 32) hx hb d_Law_law_759 (by decide) ?_
    refine lv_lshl hx hb d_Law_law_761 rfl ?_
    refine lv_aload_n hx hb d_Law_law_762 rfl (lv_at hl 0 rfl) ?_
    refine lv_iload_n hx hb d_Law_law_763 rfl (lv_at hl 3 rfl) ?_
    refine lv_iconst (v := 2) hx hb d_Law_law_764 (by decide) ?_
    refine lv_iadd hx hb d_Law_law_765 ?_
    refine x_topi (y := nI (i + 2)) (l_k2 i) ?_
    refine x_sld hx hb hXs hbl hbo hV (k := i + 2) (by omega) hL d_Law_law_766 ?_
    refine lv_i2l hx hb d_Law_law_767 rfl ?_
    refine lv_ldc2 hx hb hown (hts _ w_3_105) d_Law_law_768 ?_
    refine lv_land hx hb d_Law_law_771 ?_
    refine lv_lor hx hb d_Law_law_772 ?_
    refine x_topl (y := l_lg (xs (i + 1)) (xs (i + 2))) rfl ?_
    refine lv_aload_n hx hb d_Law_law_773 rfl (lv_at hl 0 rfl) ?_
    refine lv_iload_n hx hb d_Law_law_774 rfl (lv_at hl 3 rfl) ?_
    refine lv_iconst (v := 3) hx hb d_Law_law_775 (by decide) ?_
    refine lv_iadd hx hb d_Law_law_776 ?_
    refine x_topi (y := nI (i + 3)) (l_k3 i) ?_
    refine x_sld hx hb hXs hbl hbo hV (k := i + 3) (by omega) hL d_Law_law_777 ?_
    refine lv_i2l hx hb d_Law_law_778 rfl ?_
    refine lv_bipush (v := 32) hx hb d_Law_law_779 (by decide) ?_
    refine lv_lshl hx hb d_Law_law_781 rfl ?_
    refine lv_aload_n hx hb d_Law_law_782 rfl (lv_at hl 0 rfl) ?_
    refine lv_iload_n hx hb d_Law_law_783 rfl (lv_at hl 3 rfl) ?_
    refine lv_iconst (v := 4) hx hb d_Law_law_784 (by decide) ?_
    refine lv_iadd hx hb d_Law_law_785 ?_
    refine x_topi (y := nI (i + 4)) (l_k4 i) ?_
    refine x_sld hx hb hXs hbl hbo hV (k := i + 4) (by omega) hL d_Law_law_786 ?_
    refine lv_i2l hx hb d_Law_law_787 rfl ?_
    refine lv_ldc2 hx hb hown (hts _ w_3_105) d_Law_law_788 ?_
    refine lv_land hx hb d_Law_law_791 ?_
    refine lv_lor hx hb d_Law_law_792 ?_
    refine x_topl (y := l_lg (xs (i + 3)) (xs (i + 4))) rfl ?_
    refine lv_aload_n hx hb d_Law_law_793 rfl (lv_at hl 0 rfl) ?_
    refine lv_iload_n hx hb d_Law_law_794 rfl (lv_at hl 3 rfl) ?_
    refine lv_iconst (v := 5) hx hb d_Law_law_795 (by decide) ?_
    refine lv_iadd hx hb d_Law_law_796 ?_
    refine x_topi (y := nI (i + 5)) (l_k5 i) ?_
    refine x_sld hx hb hXs hbl hbo hV (k := i + 5) (by omega) hL d_Law_law_797 ?_
    refine lv_if_eq (tgt := 805) hx hb d_Law_law_798 (by decide) (fun z2 => ?_) (fun z2 => ?_)
    · exact absurd z2 z1
    · refine lv_iconst (v := 1) hx hb d_Law_law_801 (by decide) ?_
      refine lv_goto (tgt := 806) hx hb d_Law_law_802 (by decide) ?_
      refine x_topi (y := bI true) rfl ?_
      refine x_cw (kl_79 (As := [.long (l_lg (xs (i + 1)) (xs (i + 2))), .long (l_lg (xs (i + 3)) (xs (i + 4))), .int (bI true)]) (rest := [.int (bI (pt_m (d_c X) (d_r X) (l_lg (xs (i + 1)) (xs (i + 2))) (l_lg (xs (i + 3)) (xs (i + 4))) true))]) hx hb hml hown hts (c_M_matchesX l D cA (o + 54) made N X Y hYR (l_lg (xs (i + 1)) (xs (i + 2))) (l_lg (xs (i + 3)) (xs (i + 4))) true) (x_preV hE hY.1 rfl rfl hY) rfl hl.1 rfl (Nat.le_of_ble_eq_true rfl) d_Law_law_806 (by decide) ⟨by omega, by omega⟩) (fun H2 L2 p2 f2 => ?_)
      have hF := t_lL hF (fun q h => (fun q h => m_A_up q (m_tA_A h)) q.base (f2 q h))
      have hV := hV.xF p2.1 (fun q h => m_A_up q (m_tA_A h)) hF
      obtain ⟨e2, tt, ft, hW2⟩ := p2
      refine lv_icmp_eq (tgt := 837) hx hb d_Law_law_809 (by decide) (fun hq => ?_) (fun hq => ?_)
      · exact kk _ _ _ _ _ _ _ _ (Nat.le_succ_of_le hjm) hl (hS.one hG.2.1 (A := d_A o) (fun q h => h) x_F.rf (e2.mono (fun q h => m_tA_A h)) hS.2.1 ⟨_, hW2, hYR.tk tt ft⟩) hG hV (by omega) (by omega)
      · exact absurd rfl hq
