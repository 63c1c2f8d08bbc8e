/-! the environment: what every method may take from the machine's tables; contracts over it -/
abbrev x_ty (cA : Nat → ClassId) : List (ClassId × FieldType) := [(cA 0, .int), (cA 1, .long), (cA 2, .byte), (cA 3, .boolean), (cA 4, .object "DecisionLayers$Condition"), (cA 5, .object "DecisionLayers$Layer"), (cA 6, .object "DecisionLayers$Statement")]
def x_N (U : State) : Prop := va_Nw (.methodLinkNest "DecisionLayers" 9 y_Values_init "DecisionLayers") U ∧ va_Nw (.methodLinkNest "DecisionLayers$Layer" 17 y_Statement_init "DecisionLayers") U ∧ va_Nw (.fieldLinkNest "DecisionLayers" 86 "DecisionLayers$Layer" "count" "I" "DecisionLayers") U ∧ va_Nw (.fieldLinkNest "DecisionLayers" 79 "DecisionLayers$Layer" "present" "Z" "DecisionLayers") U ∧ va_Nw (.fieldLinkNest "DecisionLayers" 111 "DecisionLayers$Layer" "judged" "I" "DecisionLayers") U ∧ va_Nw (.declares y_Condition_isMet) U ∧ va_AO "DecisionLayers$Condition" U ∧ va_AO "DecisionLayers$Layer" U ∧ va_AO "DecisionLayers$Statement" U ∧ va_Nw (.castable "DecisionLayers$Joined" "DecisionLayers$Condition") U ∧ va_Nw (.castable "DecisionLayers$Test" "DecisionLayers$Condition") U
def x_E (D : va_G) (cA : Nat → ClassId) (U : State) : Prop := (∀ w ∈ w_g, va_Nw w U) ∧ x_N U ∧ va_K D x_cl (x_ty cA) U
theorem x_N.warm {s U : State} (hW : s.WarmedH U.vm) (h : x_N s) : x_N U := by
  obtain ⟨a1, a2, a3, a4, a5, a6, a7, a8, a9, a10, a11⟩ := h
  exact ⟨va_Nw.warmM hW a1, va_Nw.warmM hW a2, va_Nw.warmF hW a3, va_Nw.warmF hW a4, va_Nw.warmF hW a5, va_Nw.warmD hW a6, va_AO.moved hW.alike a7, va_AO.moved hW.alike a8, va_AO.moved hW.alike a9, va_Nw.warmC hW a10, va_Nw.warmC hW a11⟩
theorem x_E.warm {D : va_G} {cA : Nat → ClassId} {s U : State} (h : x_E D cA s) (hW : s.WarmedH U.vm) : x_E D cA U :=
  ⟨fun w hw => word_at hW (good_of_word (List.mem_filter.mp hw).2) (h.1 w hw), x_N.warm hW h.2.1, va_K.moved hW.alike h.2.2⟩
theorem x_E.use {D : va_G} {cA : Nat → ClassId} {s : State} (h : x_E D cA s) {args : Array Value} : ∀ w ∈ w_g, w.before args s = true :=
  fun w hw => word_at (State.WarmedH.refl s) (good_of_word (List.mem_filter.mp hw).2) (h.1 w hw)
/-- a method's start: its arguments, the environment, what the heap holds -/
def x_P (D : va_G) (cA : Nat → ClassId) (av : List Value) (P : Heap → Prop) : Array Value → State → Prop := fun v U => v = av.toArray ∧ x_E D cA U ∧ P U.heap
theorem x_P.blind {D : va_G} {cA : Nat → ClassId} {av : List Value} {P : Heap → Prop} : FrameBlind (x_P D cA av P) := fun _ U _ _ q => ⟨q.1, q.2.1.warm (State.WarmedH.refl U), q.2.2⟩
theorem x_preS {D : va_G} {cA : Nat → ClassId} {s : State} {H : Heap} {av : List Value} {P : Heap → Prop} (hE : x_E D cA s) (hp : P H) : PreS s H (x_P D cA av P) av := ⟨x_P.blind, fun U hU hW => ⟨rfl, hE.warm hW, by rw [hU]; exact hp⟩⟩
theorem x_preV {D : va_G} {cA : Nat → ClassId} {s : State} {H : Heap} {C : String} {b ci : Nat} {fs As : List Value} {q : vw_C} {P : Heap → Prop} (hE : x_E D cA s) (hb : va_at D x_cl (b, .inr (ci, fs)) H) (hc : x_cl[ci]? = some q) (hC : q.1 = C) (hp : P H) : PreV s H C b (x_P D cA (.ref b :: As) P) As := by
  subst hC
  exact ⟨x_P.blind, va_recv (q0 := 0) hE.2.2 (x_one hb) hc rfl, fun U hU hW => ⟨rfl, hE.warm hW, by rw [hU]; exact hp⟩⟩
/-- room by the height of the calls above -/
def x_rm (h mc ms : Nat) : Room := { frames := h, cells := mc, slots := ms, locals := 40 * h }
/-- a contract out of one walk -/
theorem x_met {l : Launch} {y : MethodName} {h mc ms : Nat} {D : va_G} {cA : Nat → ClassId} {av : List Value} {P : Heap → Prop} {Qc : Array Value → State → Outcome → State → Prop} {free : Addr → Prop} {cc : ByteArray} {maxL : Nat} {ret : Option FieldType} {own : String} (hy : plainName y.cls = true) (ho : y.cls = own) (hn : (lg_sl av).length ≤ maxL)
    (body : ∀ (p : Program) (e : Env) (s : State) (m : MethodId) (below : List Frame) (meth : Method) (c : Code) (ls : Array Slot), p.tables.exec = Jvm.exec → c.code = cc → meth.sig.returnType = ret → meth.locks = false → meth.name = y.name → c.maxLocals = maxL → s.vm.findClass own = some m.cls → (∀ w ∈ w_g, w.before av.toArray s = true) → x_E D cA s → P s.heap → lv_has ls maxL (lv_args 0 av) →
      W p l e (x_rm h mc ms) s m av.toArray below meth c s.heap [] 0 0 (MQ below Qc av.toArray s mc ms free) (F0 m 0 ls [])) : Met l y [.code y cc maxL ret] (x_rm h mc ms) (x_P D cA av P) Qc mc ms free := by
  refine Met.ofW (cc := cc) (maxL := maxL) (ret := ret) hy rfl ?_
  intro p e s m args below meth c s₁ B hml hv
  obtain ⟨rfl, hE, hP⟩ := hv
  have hown : s.vm.findClass own = some m.cls := by rw [← ho]; exact findClass_of_methodNamed B.named
  rw [lg_entry_eq]
  exact body p e s m below meth c _ B.exec B.bytes B.returns B.notSynchronized (name_of_methodNamed B.named B.method).1 hml hown hE.use hE hP (lv_entry av hn)
theorem x_room {h hc maxL : Nat} {mc ms MC MS : Nat} (hh : h + 1 ≤ hc) (hm : maxL ≤ 21) : (x_rm h mc ms).frames + 1 ≤ (x_rm hc MC MS).frames ∧ 8 + (maxL + 11) + (x_rm h mc ms).locals ≤ (x_rm hc MC MS).locals := by
  refine ⟨hh, ?_⟩
  show 8 + (maxL + 11) + 40 * h ≤ 40 * hc
  omega
theorem x_g4 {a b c d : Cond} (ha : a ∈ w_g) (hb : b ∈ w_g) (hc : c ∈ w_g) (hd : d ∈ w_g) : GoodIn w_g ([a, b, c] ++ [d]) := by
  intro w hw
  have hm : w ∈ w_g := by
    rcases List.mem_cons.mp hw with rfl | hw
    · exact ha
    rcases List.mem_cons.mp hw with rfl | hw
    · exact hb
    rcases List.mem_cons.mp hw with rfl | hw
    · exact hc
    rcases List.mem_cons.mp hw with rfl | hw
    · exact hd
    cases hw
  exact ⟨hm, good_of_word (List.mem_filter.mp hm).2⟩
theorem x_g5 {a b c d f : Cond} (ha : a ∈ w_g) (hb : b ∈ w_g) (hc : c ∈ w_g) (hd : d ∈ w_g) (hf : f ∈ w_g) : GoodIn w_g ([a, b, c, d] ++ [f]) := by
  intro w hw
  have hm : w ∈ w_g := by
    rcases List.mem_cons.mp hw with rfl | hw
    · exact ha
    rcases List.mem_cons.mp hw with rfl | hw
    · exact hb
    rcases List.mem_cons.mp hw with rfl | hw
    · exact hc
    rcases List.mem_cons.mp hw with rfl | hw
    · exact hd
    rcases List.mem_cons.mp hw with rfl | hw
    · exact hf
    cases hw
  exact ⟨hm, good_of_word (List.mem_filter.mp hm).2⟩
theorem x_g6 {a b c d f g : Cond} (ha : a ∈ w_g) (hb : b ∈ w_g) (hc : c ∈ w_g) (hd : d ∈ w_g) (hf : f ∈ w_g) (hg : g ∈ w_g) : GoodIn w_g ([a, b, c, d, f] ++ [g]) := by
  intro w hw
  have hm : w ∈ w_g := by
    rcases List.mem_cons.mp hw with rfl | hw
    · exact ha
    rcases List.mem_cons.mp hw with rfl | hw
    · exact hb
    rcases List.mem_cons.mp hw with rfl | hw
    · exact hc
    rcases List.mem_cons.mp hw with rfl | hw
    · exact hd
    rcases List.mem_cons.mp hw with rfl | hw
    · exact hf
    rcases List.mem_cons.mp hw with rfl | hw
    · exact hg
    cases hw
  exact ⟨hm, good_of_word (List.mem_filter.mp hm).2⟩
theorem x_g1 {a : Cond} (ha : a ∈ w_g) : GoodIn w_g [a] := by
  intro w hw
  have hm : w ∈ w_g := by
    rcases List.mem_cons.mp hw with rfl | hw
    · exact ha
    cases hw
  exact ⟨hm, good_of_word (List.mem_filter.mp hm).2⟩
