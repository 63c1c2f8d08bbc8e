section
-- ===== PART A: goes FIRST, ahead of the names: the tables' words, and 'selects' of the private methods out of them =====
/-- a private method of a class that the tables say can be made, by its rows of tables_1 -/
def lw_okq (q : MethodName × Nat) : Prop := (q.1.cls ≠ "java/lang/invoke/MethodHandle" ∧ q.1.cls ≠ "java/lang/invoke/VarHandle") ∧ Cond.instantiable q.1.cls q.2 ∈ tables_1 ∧ Cond.privateMethod q.1 ∈ tables_1 ∧ Cond.instanceMethod q.1 ∈ tables_1
theorem lw_p0 : lw_okq (⟨"DecisionLayers", "push", "(LDecisionLayers$Condition;)I"⟩, 5) := ⟨⟨by decide +kernel, by decide +kernel⟩, List.mem_of_getElem? (i := 13) (by decide +kernel), List.mem_of_getElem? (i := 133) (by decide +kernel), List.mem_of_getElem? (i := 134) (by decide +kernel)⟩
theorem lw_p1 : lw_okq (⟨"DecisionLayers", "greatestDepthOfTopmost", "(I)I"⟩, 5) := ⟨⟨by decide +kernel, by decide +kernel⟩, List.mem_of_getElem? (i := 13) (by decide +kernel), List.mem_of_getElem? (i := 141) (by decide +kernel), List.mem_of_getElem? (i := 142) (by decide +kernel)⟩
theorem lw_p2 : lw_okq (⟨"DecisionLayers", "pop", "()LDecisionLayers$Condition;"⟩, 5) := ⟨⟨by decide +kernel, by decide +kernel⟩, List.mem_of_getElem? (i := 13) (by decide +kernel), List.mem_of_getElem? (i := 148) (by decide +kernel), List.mem_of_getElem? (i := 149) (by decide +kernel)⟩
theorem lw_p3 : lw_okq (⟨"DecisionLayers$Statement", "means", "(I)Z"⟩, 5) := ⟨⟨by decide +kernel, by decide +kernel⟩, List.mem_of_getElem? (i := 46) (by decide +kernel), List.mem_of_getElem? (i := 258) (by decide +kernel), List.mem_of_getElem? (i := 259) (by decide +kernel)⟩
theorem lw_p4 : lw_okq (⟨"DecisionLayers$Test", "saysYes", "(JLDecisionLayers$Values;)Z"⟩, 5) := ⟨⟨by decide +kernel, by decide +kernel⟩, List.mem_of_getElem? (i := 107) (by decide +kernel), List.mem_of_getElem? (i := 307) (by decide +kernel), List.mem_of_getElem? (i := 308) (by decide +kernel)⟩
theorem lw_p5 : lw_okq (⟨"DecisionLayers$Test", "hasPrefix", "(J)Z"⟩, 5) := ⟨⟨by decide +kernel, by decide +kernel⟩, List.mem_of_getElem? (i := 107) (by decide +kernel), List.mem_of_getElem? (i := 317) (by decide +kernel), List.mem_of_getElem? (i := 318) (by decide +kernel)⟩
theorem lw_p6 : lw_okq (⟨"DecisionLayers", "conclude", "(IZ)I"⟩, 5) := ⟨⟨by decide +kernel, by decide +kernel⟩, List.mem_of_getElem? (i := 13) (by decide +kernel), List.mem_of_getElem? (i := 326) (by decide +kernel), List.mem_of_getElem? (i := 327) (by decide +kernel)⟩
theorem lw_p7 : lw_okq (⟨"DecisionLayers$Layer", "hasJudged", "(Z)Z"⟩, 4) := ⟨⟨by decide +kernel, by decide +kernel⟩, List.mem_of_getElem? (i := 39) (by decide +kernel), List.mem_of_getElem? (i := 334) (by decide +kernel), List.mem_of_getElem? (i := 335) (by decide +kernel)⟩
theorem lw_p8 : lw_okq (⟨"DecisionLayers$Layer", "isJudged", "(I)Z"⟩, 4) := ⟨⟨by decide +kernel, by decide +kernel⟩, List.mem_of_getElem? (i := 39) (by decide +kernel), List.mem_of_getElem? (i := 338) (by decide +kernel), List.mem_of_getElem? (i := 339) (by decide +kernel)⟩
theorem lw_p9 : lw_okq (⟨"DecisionLayers", "settle", "(II)I"⟩, 5) := ⟨⟨by decide +kernel, by decide +kernel⟩, List.mem_of_getElem? (i := 13) (by decide +kernel), List.mem_of_getElem? (i := 346) (by decide +kernel), List.mem_of_getElem? (i := 347) (by decide +kernel)⟩
theorem lw_p10 : lw_okq (⟨"DecisionLayers", "concludeFromGrants", "(Z)I"⟩, 5) := ⟨⟨by decide +kernel, by decide +kernel⟩, List.mem_of_getElem? (i := 13) (by decide +kernel), List.mem_of_getElem? (i := 366) (by decide +kernel), List.mem_of_getElem? (i := 367) (by decide +kernel)⟩
theorem lw_p11 : lw_okq (⟨"DecisionLayersModel", "meant", "(J)Z"⟩, 24) := ⟨⟨by decide +kernel, by decide +kernel⟩, List.mem_of_getElem? (i := 389) (by decide +kernel), List.mem_of_getElem? (i := 474) (by decide +kernel), List.mem_of_getElem? (i := 475) (by decide +kernel)⟩
theorem lw_p12 : lw_okq (⟨"DecisionLayersModel", "add", "(I)V"⟩, 24) := ⟨⟨by decide +kernel, by decide +kernel⟩, List.mem_of_getElem? (i := 389) (by decide +kernel), List.mem_of_getElem? (i := 484) (by decide +kernel), List.mem_of_getElem? (i := 485) (by decide +kernel)⟩
theorem lw_p13 : lw_okq (⟨"DecisionLayersModel", "put", "()I"⟩, 24) := ⟨⟨by decide +kernel, by decide +kernel⟩, List.mem_of_getElem? (i := 389) (by decide +kernel), List.mem_of_getElem? (i := 498) (by decide +kernel), List.mem_of_getElem? (i := 499) (by decide +kernel)⟩
theorem lw_p14 : lw_okq (⟨"DecisionLayersModel", "settle", "()V"⟩, 24) := ⟨⟨by decide +kernel, by decide +kernel⟩, List.mem_of_getElem? (i := 389) (by decide +kernel), List.mem_of_getElem? (i := 518) (by decide +kernel), List.mem_of_getElem? (i := 519) (by decide +kernel)⟩
theorem lw_p15 : lw_okq (⟨"DecisionLayersModel", "tested", "(I)Z"⟩, 24) := ⟨⟨by decide +kernel, by decide +kernel⟩, List.mem_of_getElem? (i := 389) (by decide +kernel), List.mem_of_getElem? (i := 522) (by decide +kernel), List.mem_of_getElem? (i := 523) (by decide +kernel)⟩
def lw_privs_1 : List (MethodName × Nat) := [(⟨"DecisionLayers", "push", "(LDecisionLayers$Condition;)I"⟩, 5), (⟨"DecisionLayers", "greatestDepthOfTopmost", "(I)I"⟩, 5), (⟨"DecisionLayers", "pop", "()LDecisionLayers$Condition;"⟩, 5), (⟨"DecisionLayers$Statement", "means", "(I)Z"⟩, 5), (⟨"DecisionLayers$Test", "saysYes", "(JLDecisionLayers$Values;)Z"⟩, 5), (⟨"DecisionLayers$Test", "hasPrefix", "(J)Z"⟩, 5), (⟨"DecisionLayers", "conclude", "(IZ)I"⟩, 5), (⟨"DecisionLayers$Layer", "hasJudged", "(Z)Z"⟩, 4), (⟨"DecisionLayers$Layer", "isJudged", "(I)Z"⟩, 4), (⟨"DecisionLayers", "settle", "(II)I"⟩, 5), (⟨"DecisionLayers", "concludeFromGrants", "(Z)I"⟩, 5), (⟨"DecisionLayersModel", "meant", "(J)Z"⟩, 24), (⟨"DecisionLayersModel", "add", "(I)V"⟩, 24), (⟨"DecisionLayersModel", "put", "()I"⟩, 24), (⟨"DecisionLayersModel", "settle", "()V"⟩, 24), (⟨"DecisionLayersModel", "tested", "(I)Z"⟩, 24)]
theorem lw_r1 : ∀ q ∈ lw_privs_1, lw_okq q := List.forall_mem_cons.mpr ⟨lw_p0, List.forall_mem_cons.mpr ⟨lw_p1, List.forall_mem_cons.mpr ⟨lw_p2, List.forall_mem_cons.mpr ⟨lw_p3, List.forall_mem_cons.mpr ⟨lw_p4, List.forall_mem_cons.mpr ⟨lw_p5, List.forall_mem_cons.mpr ⟨lw_p6, List.forall_mem_cons.mpr ⟨lw_p7, List.forall_mem_cons.mpr ⟨lw_p8, List.forall_mem_cons.mpr ⟨lw_p9, List.forall_mem_cons.mpr ⟨lw_p10, List.forall_mem_cons.mpr ⟨lw_p11, List.forall_mem_cons.mpr ⟨lw_p12, List.forall_mem_cons.mpr ⟨lw_p13, List.forall_mem_cons.mpr ⟨lw_p14, List.forall_mem_cons.mpr ⟨lw_p15, fun _ h => absurd h List.not_mem_nil⟩⟩⟩⟩⟩⟩⟩⟩⟩⟩⟩⟩⟩⟩⟩⟩
theorem lw_p16 : lw_okq (⟨"DecisionLayersModel", "answers", "(IJJ)Z"⟩, 24) := ⟨⟨by decide +kernel, by decide +kernel⟩, List.mem_of_getElem? (i := 389) (by decide +kernel), List.mem_of_getElem? (i := 526) (by decide +kernel), List.mem_of_getElem? (i := 527) (by decide +kernel)⟩
theorem lw_p17 : lw_okq (⟨"DecisionLayersModel", "does", "(IIIJJ)Z"⟩, 24) := ⟨⟨by decide +kernel, by decide +kernel⟩, List.mem_of_getElem? (i := 389) (by decide +kernel), List.mem_of_getElem? (i := 566) (by decide +kernel), List.mem_of_getElem? (i := 567) (by decide +kernel)⟩
theorem lw_p18 : lw_okq (⟨"DecisionLayersModel", "some", "(IZI)Z"⟩, 24) := ⟨⟨by decide +kernel, by decide +kernel⟩, List.mem_of_getElem? (i := 389) (by decide +kernel), List.mem_of_getElem? (i := 570) (by decide +kernel), List.mem_of_getElem? (i := 571) (by decide +kernel)⟩
theorem lw_p19 : lw_okq (⟨"DecisionLayersModel", "answer", "(II)I"⟩, 24) := ⟨⟨by decide +kernel, by decide +kernel⟩, List.mem_of_getElem? (i := 389) (by decide +kernel), List.mem_of_getElem? (i := 574) (by decide +kernel), List.mem_of_getElem? (i := 575) (by decide +kernel)⟩
def lw_privs_2 : List (MethodName × Nat) := [(⟨"DecisionLayersModel", "answers", "(IJJ)Z"⟩, 24), (⟨"DecisionLayersModel", "does", "(IIIJJ)Z"⟩, 24), (⟨"DecisionLayersModel", "some", "(IZI)Z"⟩, 24), (⟨"DecisionLayersModel", "answer", "(II)I"⟩, 24)]
theorem lw_r2 : ∀ q ∈ lw_privs_2, lw_okq q := List.forall_mem_cons.mpr ⟨lw_p16, List.forall_mem_cons.mpr ⟨lw_p17, List.forall_mem_cons.mpr ⟨lw_p18, List.forall_mem_cons.mpr ⟨lw_p19, fun _ h => absurd h List.not_mem_nil⟩⟩⟩⟩
def lw_privs : List (MethodName × Nat) := lw_privs_1 ++ (lw_privs_2)
def lw_tbl : List Cond := k2_sels lw_privs ++ tables_1
theorem lw_privs_ok : ∀ q ∈ lw_privs, lw_okq q := by
  show ∀ q ∈ lw_privs_1 ++ (lw_privs_2), lw_okq q
  exact List.forall_mem_append.mpr ⟨lw_r1, lw_r2⟩
end
section
/-! names: methods, their bytes; the classes whose objects the worlds hold, their fields; the words of the tables -/
abbrev y_Condition_init : MethodName := ⟨"DecisionLayers$Condition", "<init>", "(I)V"⟩
abbrev b_Condition_init : ByteArray := prog_2_method_1_code
abbrev y_Condition_isMet : MethodName := ⟨"DecisionLayers$Condition", "isMet", "(LDecisionLayers$Values;)Z"⟩
abbrev y_DL_applied : MethodName := ⟨"DecisionLayers", "applied", "(I)I"⟩
abbrev b_DL_applied : ByteArray := prog_1_method_14_code
abbrev y_DL_conclude : MethodName := ⟨"DecisionLayers", "conclude", "(IZ)I"⟩
abbrev b_DL_conclude : ByteArray := prog_1_method_23_code
abbrev y_DL_concludeFromGrants : MethodName := ⟨"DecisionLayers", "concludeFromGrants", "(Z)I"⟩
abbrev b_DL_concludeFromGrants : ByteArray := prog_1_method_24_code
abbrev y_DL_decide : MethodName := ⟨"DecisionLayers", "decide", "(IIJJI)I"⟩
abbrev b_DL_decide : ByteArray := prog_1_method_12_code
abbrev y_DL_discard : MethodName := ⟨"DecisionLayers", "discard", "()Z"⟩
abbrev b_DL_discard : ByteArray := prog_1_method_4_code
abbrev y_DL_drop : MethodName := ⟨"DecisionLayers", "drop", "(I)Z"⟩
abbrev b_DL_drop : ByteArray := prog_1_method_8_code
abbrev y_DL_forget : MethodName := ⟨"DecisionLayers", "forget", "(I)I"⟩
abbrev b_DL_forget : ByteArray := prog_1_method_11_code
abbrev y_DL_greatestDepthOfTopmost : MethodName := ⟨"DecisionLayers", "greatestDepthOfTopmost", "(I)I"⟩
abbrev b_DL_greatestDepthOfTopmost : ByteArray := prog_1_method_22_code
abbrev y_DL_holds : MethodName := ⟨"DecisionLayers", "holds", "(I)Z"⟩
abbrev b_DL_holds : ByteArray := prog_1_method_16_code
abbrev y_DL_init : MethodName := ⟨"DecisionLayers", "<init>", "()V"⟩
abbrev b_DL_init : ByteArray := prog_1_method_1_code
abbrev y_DL_isDigit : MethodName := ⟨"DecisionLayers", "isDigit", "(I)Z"⟩
abbrev b_DL_isDigit : ByteArray := prog_1_method_18_code
abbrev y_DL_isLayer : MethodName := ⟨"DecisionLayers", "isLayer", "(I)Z"⟩
abbrev b_DL_isLayer : ByteArray := prog_1_method_17_code
abbrev y_DL_join : MethodName := ⟨"DecisionLayers", "join", "(II)I"⟩
abbrev b_DL_join : ByteArray := prog_1_method_3_code
abbrev y_DL_layer : MethodName := ⟨"DecisionLayers", "layer", "()I"⟩
abbrev b_DL_layer : ByteArray := prog_1_method_13_code
abbrev y_DL_matches : MethodName := ⟨"DecisionLayers", "matches", "(JJZ)Z"⟩
abbrev b_DL_matches : ByteArray := prog_1_method_15_code
abbrev y_DL_mayStandIn : MethodName := ⟨"DecisionLayers", "mayStandIn", "(II)Z"⟩
abbrev b_DL_mayStandIn : ByteArray := prog_1_method_19_code
abbrev y_DL_offer : MethodName := ⟨"DecisionLayers", "offer", "(IJ)I"⟩
abbrev b_DL_offer : ByteArray := prog_1_method_10_code
abbrev y_DL_open : MethodName := ⟨"DecisionLayers", "open", "(I)Z"⟩
abbrev b_DL_open : ByteArray := prog_1_method_7_code
abbrev y_DL_pile : MethodName := ⟨"DecisionLayers", "pile", "()I"⟩
abbrev b_DL_pile : ByteArray := prog_1_method_5_code
abbrev y_DL_pop : MethodName := ⟨"DecisionLayers", "pop", "()LDecisionLayers$Condition;"⟩
abbrev b_DL_pop : ByteArray := prog_1_method_21_code
abbrev y_DL_push : MethodName := ⟨"DecisionLayers", "push", "(LDecisionLayers$Condition;)I"⟩
abbrev b_DL_push : ByteArray := prog_1_method_20_code
abbrev y_DL_settle : MethodName := ⟨"DecisionLayers", "settle", "(II)I"⟩
abbrev b_DL_settle : ByteArray := prog_1_method_25_code
abbrev y_DL_state : MethodName := ⟨"DecisionLayers", "state", "(IIJJI)I"⟩
abbrev b_DL_state : ByteArray := prog_1_method_6_code
abbrev y_DL_statements : MethodName := ⟨"DecisionLayers", "statements", "(I)I"⟩
abbrev b_DL_statements : ByteArray := prog_1_method_9_code
abbrev y_DL_test : MethodName := ⟨"DecisionLayers", "test", "(IIJI)I"⟩
abbrev b_DL_test : ByteArray := prog_1_method_2_code
abbrev y_Joined_init : MethodName := ⟨"DecisionLayers$Joined", "<init>", "(I[LDecisionLayers$Condition;I)V"⟩
abbrev b_Joined_init : ByteArray := prog_3_method_1_code
abbrev y_Joined_isMet : MethodName := ⟨"DecisionLayers$Joined", "isMet", "(LDecisionLayers$Values;)Z"⟩
abbrev b_Joined_isMet : ByteArray := prog_3_method_2_code
abbrev y_Layer_allows : MethodName := ⟨"DecisionLayers$Layer", "allows", "()Z"⟩
abbrev b_Layer_allows : ByteArray := prog_4_method_7_code
abbrev y_Layer_allowsByName : MethodName := ⟨"DecisionLayers$Layer", "allowsByName", "(I)Z"⟩
abbrev b_Layer_allowsByName : ByteArray := prog_4_method_9_code
abbrev y_Layer_append : MethodName := ⟨"DecisionLayers$Layer", "append", "(IJJILDecisionLayers$Condition;)I"⟩
abbrev b_Layer_append : ByteArray := prog_4_method_3_code
abbrev y_Layer_bars : MethodName := ⟨"DecisionLayers$Layer", "bars", "()Z"⟩
abbrev b_Layer_bars : ByteArray := prog_4_method_8_code
abbrev y_Layer_denies : MethodName := ⟨"DecisionLayers$Layer", "denies", "()Z"⟩
abbrev b_Layer_denies : ByteArray := prog_4_method_6_code
abbrev y_Layer_empty : MethodName := ⟨"DecisionLayers$Layer", "empty", "()V"⟩
abbrev b_Layer_empty : ByteArray := prog_4_method_4_code
abbrev y_Layer_hasJudged : MethodName := ⟨"DecisionLayers$Layer", "hasJudged", "(Z)Z"⟩
abbrev b_Layer_hasJudged : ByteArray := prog_4_method_10_code
abbrev y_Layer_init : MethodName := ⟨"DecisionLayers$Layer", "<init>", "()V"⟩
abbrev b_Layer_init : ByteArray := prog_4_method_1_code
abbrev y_Layer_isFull : MethodName := ⟨"DecisionLayers$Layer", "isFull", "()Z"⟩
abbrev b_Layer_isFull : ByteArray := prog_4_method_2_code
abbrev y_Layer_isJudged : MethodName := ⟨"DecisionLayers$Layer", "isJudged", "(I)Z"⟩
abbrev b_Layer_isJudged : ByteArray := prog_4_method_11_code
abbrev y_Layer_judge : MethodName := ⟨"DecisionLayers$Layer", "judge", "(IJJLDecisionLayers$Values;)V"⟩
abbrev b_Layer_judge : ByteArray := prog_4_method_5_code
abbrev y_M_add : MethodName := ⟨"DecisionLayersModel", "add", "(I)V"⟩
abbrev b_M_add : ByteArray := prog_11_method_5_code
abbrev y_M_answer : MethodName := ⟨"DecisionLayersModel", "answer", "(II)I"⟩
abbrev b_M_answer : ByteArray := prog_11_method_28_code
abbrev y_M_answers : MethodName := ⟨"DecisionLayersModel", "answers", "(IJJ)Z"⟩
abbrev b_M_answers : ByteArray := prog_11_method_16_code
abbrev y_M_applied : MethodName := ⟨"DecisionLayersModel", "applied", "(I)I"⟩
abbrev b_M_applied : ByteArray := prog_11_method_31_code
abbrev y_M_charAt : MethodName := ⟨"DecisionLayersModel", "charAt", "(JI)I"⟩
abbrev b_M_charAt : ByteArray := prog_11_method_2_code
abbrev y_M_decide : MethodName := ⟨"DecisionLayersModel", "decide", "(IIJJI)I"⟩
abbrev b_M_decide : ByteArray := prog_11_method_29_code
abbrev y_M_discard : MethodName := ⟨"DecisionLayersModel", "discard", "()Z"⟩
abbrev b_M_discard : ByteArray := prog_11_method_12_code
abbrev y_M_does : MethodName := ⟨"DecisionLayersModel", "does", "(IIIJJ)Z"⟩
abbrev b_M_does : ByteArray := prog_11_method_26_code
abbrev y_M_drop : MethodName := ⟨"DecisionLayersModel", "drop", "(I)Z"⟩
abbrev b_M_drop : ByteArray := prog_11_method_22_code
abbrev y_M_fold : MethodName := ⟨"DecisionLayersModel", "fold", "(IZ)I"⟩
abbrev b_M_fold : ByteArray := prog_11_method_4_code
abbrev y_M_forget : MethodName := ⟨"DecisionLayersModel", "forget", "(I)I"⟩
abbrev b_M_forget : ByteArray := prog_11_method_25_code
abbrev y_M_holds : MethodName := ⟨"DecisionLayersModel", "holds", "(I)Z"⟩
abbrev b_M_holds : ByteArray := prog_11_method_19_code
abbrev y_M_init : MethodName := ⟨"DecisionLayersModel", "<init>", "()V"⟩
abbrev b_M_init : ByteArray := prog_11_method_1_code
abbrev y_M_join : MethodName := ⟨"DecisionLayersModel", "join", "(II)I"⟩
abbrev b_M_join : ByteArray := prog_11_method_11_code
abbrev y_M_layer : MethodName := ⟨"DecisionLayersModel", "layer", "()I"⟩
abbrev b_M_layer : ByteArray := prog_11_method_30_code
abbrev y_M_length : MethodName := ⟨"DecisionLayersModel", "length", "(J)I"⟩
abbrev b_M_length : ByteArray := prog_11_method_3_code
abbrev y_M_matches : MethodName := ⟨"DecisionLayersModel", "matches", "(JJZ)Z"⟩
abbrev b_M_matches : ByteArray := prog_11_method_7_code
abbrev y_M_meant : MethodName := ⟨"DecisionLayersModel", "meant", "(J)Z"⟩
abbrev b_M_meant : ByteArray := prog_11_method_6_code
abbrev y_M_offer : MethodName := ⟨"DecisionLayersModel", "offer", "(IJ)I"⟩
abbrev b_M_offer : ByteArray := prog_11_method_24_code
abbrev y_M_open : MethodName := ⟨"DecisionLayersModel", "open", "(I)Z"⟩
abbrev b_M_open : ByteArray := prog_11_method_21_code
abbrev y_M_pile : MethodName := ⟨"DecisionLayersModel", "pile", "()I"⟩
abbrev b_M_pile : ByteArray := prog_11_method_13_code
abbrev y_M_put : MethodName := ⟨"DecisionLayersModel", "put", "()I"⟩
abbrev b_M_put : ByteArray := prog_11_method_9_code
abbrev y_M_sameBits : MethodName := ⟨"DecisionLayersModel", "sameBits", "(JJ)Z"⟩
abbrev b_M_sameBits : ByteArray := prog_11_method_15_code
abbrev y_M_sameText : MethodName := ⟨"DecisionLayersModel", "sameText", "(JJ)Z"⟩
abbrev b_M_sameText : ByteArray := prog_11_method_14_code
abbrev y_M_settle : MethodName := ⟨"DecisionLayersModel", "settle", "()V"⟩
abbrev b_M_settle : ByteArray := prog_11_method_18_code
abbrev y_M_some : MethodName := ⟨"DecisionLayersModel", "some", "(IZI)Z"⟩
abbrev b_M_some : ByteArray := prog_11_method_27_code
abbrev y_M_state : MethodName := ⟨"DecisionLayersModel", "state", "(IIJJI)I"⟩
abbrev b_M_state : ByteArray := prog_11_method_20_code
abbrev y_M_statements : MethodName := ⟨"DecisionLayersModel", "statements", "(I)I"⟩
abbrev b_M_statements : ByteArray := prog_11_method_23_code
abbrev y_M_test : MethodName := ⟨"DecisionLayersModel", "test", "(IIJI)I"⟩
abbrev b_M_test : ByteArray := prog_11_method_10_code
abbrev y_M_tested : MethodName := ⟨"DecisionLayersModel", "tested", "(I)Z"⟩
abbrev b_M_tested : ByteArray := prog_11_method_17_code
abbrev y_M_within : MethodName := ⟨"DecisionLayersModel", "within", "(II)Z"⟩
abbrev b_M_within : ByteArray := prog_11_method_8_code
abbrev y_Math_max : MethodName := ⟨"java/lang/Math", "max", "(II)I"⟩
abbrev b_Math_max : ByteArray := prog_12_method_65_code
abbrev y_Math_min : MethodName := ⟨"java/lang/Math", "min", "(II)I"⟩
abbrev b_Math_min : ByteArray := prog_12_method_69_code
abbrev y_Pattern_fits : MethodName := ⟨"DecisionLayers$Pattern", "fits", "(JJZLDecisionLayers$Values;)Z"⟩
abbrev b_Pattern_fits : ByteArray := prog_5_method_2_code
abbrev y_Pattern_meaning : MethodName := ⟨"DecisionLayers$Pattern", "meaning", "(ILDecisionLayers$Values;)J"⟩
abbrev b_Pattern_meaning : ByteArray := prog_5_method_4_code
abbrev y_Pattern_meansSomething : MethodName := ⟨"DecisionLayers$Pattern", "meansSomething", "(ILDecisionLayers$Values;)Z"⟩
abbrev b_Pattern_meansSomething : ByteArray := prog_5_method_3_code
abbrev y_Pattern_readAnyOne : MethodName := ⟨"DecisionLayers$Pattern", "readAnyOne", "(IJ)I"⟩
abbrev b_Pattern_readAnyOne : ByteArray := prog_5_method_6_code
abbrev y_Pattern_readAnyRow : MethodName := ⟨"DecisionLayers$Pattern", "readAnyRow", "(IJ)I"⟩
abbrev b_Pattern_readAnyRow : ByteArray := prog_5_method_5_code
abbrev y_Pattern_readText : MethodName := ⟨"DecisionLayers$Pattern", "readText", "(IJJZ)I"⟩
abbrev b_Pattern_readText : ByteArray := prog_5_method_7_code
abbrev y_Statement_become : MethodName := ⟨"DecisionLayers$Statement", "become", "(IJJILDecisionLayers$Condition;)V"⟩
abbrev b_Statement_become : ByteArray := prog_6_method_4_code
abbrev y_Statement_init : MethodName := ⟨"DecisionLayers$Statement", "<init>", "()V"⟩
abbrev b_Statement_init : ByteArray := prog_6_method_1_code
abbrev y_Statement_isDenying : MethodName := ⟨"DecisionLayers$Statement", "isDenying", "()Z"⟩
abbrev b_Statement_isDenying : ByteArray := prog_6_method_5_code
abbrev y_Statement_isWho : MethodName := ⟨"DecisionLayers$Statement", "isWho", "(I)Z"⟩
abbrev b_Statement_isWho : ByteArray := prog_6_method_2_code
abbrev y_Statement_means : MethodName := ⟨"DecisionLayers$Statement", "means", "(I)Z"⟩
abbrev b_Statement_means : ByteArray := prog_6_method_8_code
abbrev y_Statement_names : MethodName := ⟨"DecisionLayers$Statement", "names", "(I)Z"⟩
abbrev b_Statement_names : ByteArray := prog_6_method_6_code
abbrev y_Statement_suits : MethodName := ⟨"DecisionLayers$Statement", "suits", "(IJJLDecisionLayers$Values;)Z"⟩
abbrev b_Statement_suits : ByteArray := prog_6_method_7_code
abbrev y_Statement_whoOfUser : MethodName := ⟨"DecisionLayers$Statement", "whoOfUser", "(II)I"⟩
abbrev b_Statement_whoOfUser : ByteArray := prog_6_method_3_code
abbrev y_Test_hasPrefix : MethodName := ⟨"DecisionLayers$Test", "hasPrefix", "(J)Z"⟩
abbrev b_Test_hasPrefix : ByteArray := prog_7_method_4_code
abbrev y_Test_init : MethodName := ⟨"DecisionLayers$Test", "<init>", "(IIJI)V"⟩
abbrev b_Test_init : ByteArray := prog_7_method_1_code
abbrev y_Test_isMet : MethodName := ⟨"DecisionLayers$Test", "isMet", "(LDecisionLayers$Values;)Z"⟩
abbrev b_Test_isMet : ByteArray := prog_7_method_2_code
abbrev y_Test_saysYes : MethodName := ⟨"DecisionLayers$Test", "saysYes", "(JLDecisionLayers$Values;)Z"⟩
abbrev b_Test_saysYes : ByteArray := prog_7_method_3_code
abbrev y_Text_charAt : MethodName := ⟨"DecisionLayers$Text", "charAt", "(JI)I"⟩
abbrev b_Text_charAt : ByteArray := prog_8_method_2_code
abbrev y_Text_isAlike : MethodName := ⟨"DecisionLayers$Text", "isAlike", "(IIZ)Z"⟩
abbrev b_Text_isAlike : ByteArray := prog_8_method_5_code
abbrev y_Text_isSame : MethodName := ⟨"DecisionLayers$Text", "isSame", "(JJ)Z"⟩
abbrev b_Text_isSame : ByteArray := prog_8_method_4_code
abbrev y_Text_length : MethodName := ⟨"DecisionLayers$Text", "length", "(J)I"⟩
abbrev b_Text_length : ByteArray := prog_8_method_3_code
abbrev y_Values_append : MethodName := ⟨"DecisionLayers$Values", "append", "(IJ)I"⟩
abbrev b_Values_append : ByteArray := prog_9_method_6_code
abbrev y_Values_count : MethodName := ⟨"DecisionLayers$Values", "count", "(I)I"⟩
abbrev b_Values_count : ByteArray := prog_9_method_3_code
abbrev y_Values_empty : MethodName := ⟨"DecisionLayers$Values", "empty", "(I)I"⟩
abbrev b_Values_empty : ByteArray := prog_9_method_7_code
abbrev y_Values_get : MethodName := ⟨"DecisionLayers$Values", "get", "(II)J"⟩
abbrev b_Values_get : ByteArray := prog_9_method_4_code
abbrev y_Values_init : MethodName := ⟨"DecisionLayers$Values", "<init>", "()V"⟩
abbrev b_Values_init : ByteArray := prog_9_method_1_code
abbrev y_Values_isFull : MethodName := ⟨"DecisionLayers$Values", "isFull", "(I)Z"⟩
abbrev b_Values_isFull : ByteArray := prog_9_method_5_code
abbrev y_Values_isKey : MethodName := ⟨"DecisionLayers$Values", "isKey", "(I)Z"⟩
abbrev b_Values_isKey : ByteArray := prog_9_method_2_code
abbrev y_Object_init : MethodName := objectInit
def F_Values : u_T := fun k => match k with
  | 0 => ("DecisionLayers$Values", "row", "[J", true)
  | _ => ("DecisionLayers$Values", "counts", "[I", true)
def t_Values : Nat → FieldType := fun k => match k with
  | 0 => .array .long
  | _ => .array .int
theorem n_Values : ∀ a, a < 2 → ∀ b, b < 2 → a ≠ b → (F_Values a).2.1 ≠ (F_Values b).2.1 := by decide +kernel
theorem t_Values_ok : ∀ k, k < 2 → parseFieldDescriptor (F_Values k).2.2.1 = some (t_Values k) := by decide +kernel
def F_Layer : u_T := fun k => match k with
  | 0 => ("DecisionLayers$Layer", "rows", "[LDecisionLayers$Statement;", true)
  | 1 => ("DecisionLayers$Layer", "count", "I", false)
  | 2 => ("DecisionLayers$Layer", "present", "Z", false)
  | _ => ("DecisionLayers$Layer", "judged", "I", false)
def t_Layer : Nat → FieldType := fun k => match k with
  | 0 => .array (.object "DecisionLayers$Statement")
  | 1 => .int
  | 2 => .boolean
  | _ => .int
theorem n_Layer : ∀ a, a < 4 → ∀ b, b < 4 → a ≠ b → (F_Layer a).2.1 ≠ (F_Layer b).2.1 := by decide +kernel
theorem t_Layer_ok : ∀ k, k < 4 → parseFieldDescriptor (F_Layer k).2.2.1 = some (t_Layer k) := by decide +kernel
def F_Statement : u_T := fun k => match k with
  | 0 => ("DecisionLayers$Statement", "how", "I", false)
  | 1 => ("DecisionLayers$Statement", "actions", "J", false)
  | 2 => ("DecisionLayers$Statement", "things", "J", false)
  | 3 => ("DecisionLayers$Statement", "who", "I", false)
  | _ => ("DecisionLayers$Statement", "condition", "LDecisionLayers$Condition;", false)
def t_Statement : Nat → FieldType := fun k => match k with
  | 0 => .int
  | 1 => .long
  | 2 => .long
  | 3 => .int
  | _ => .object "DecisionLayers$Condition"
theorem n_Statement : ∀ a, a < 5 → ∀ b, b < 5 → a ≠ b → (F_Statement a).2.1 ≠ (F_Statement b).2.1 := by decide +kernel
theorem t_Statement_ok : ∀ k, k < 5 → parseFieldDescriptor (F_Statement k).2.2.1 = some (t_Statement k) := by decide +kernel
def F_Test : u_T := fun k => match k with
  | 0 => ("DecisionLayers$Condition", "depth", "I", true)
  | 1 => ("DecisionLayers$Test", "op", "I", true)
  | 2 => ("DecisionLayers$Test", "key", "I", true)
  | 3 => ("DecisionLayers$Test", "t", "J", true)
  | _ => ("DecisionLayers$Test", "marks", "I", true)
def t_Test : Nat → FieldType := fun k => match k with
  | 0 => .int
  | 1 => .int
  | 2 => .int
  | 3 => .long
  | _ => .int
theorem n_Test : ∀ a, a < 5 → ∀ b, b < 5 → a ≠ b → (F_Test a).2.1 ≠ (F_Test b).2.1 := by decide +kernel
theorem t_Test_ok : ∀ k, k < 5 → parseFieldDescriptor (F_Test k).2.2.1 = some (t_Test k) := by decide +kernel
def F_Joined : u_T := fun k => match k with
  | 0 => ("DecisionLayers$Condition", "depth", "I", true)
  | 1 => ("DecisionLayers$Joined", "kind", "I", true)
  | _ => ("DecisionLayers$Joined", "parts", "[LDecisionLayers$Condition;", true)
def t_Joined : Nat → FieldType := fun k => match k with
  | 0 => .int
  | 1 => .int
  | _ => .array (.object "DecisionLayers$Condition")
theorem n_Joined : ∀ a, a < 3 → ∀ b, b < 3 → a ≠ b → (F_Joined a).2.1 ≠ (F_Joined b).2.1 := by decide +kernel
theorem t_Joined_ok : ∀ k, k < 3 → parseFieldDescriptor (F_Joined k).2.2.1 = some (t_Joined k) := by decide +kernel
def F_DL : u_T := fun k => match k with
  | 0 => ("DecisionLayers", "values", "LDecisionLayers$Values;", true)
  | 1 => ("DecisionLayers", "conditions", "[LDecisionLayers$Condition;", true)
  | 2 => ("DecisionLayers", "layers", "[LDecisionLayers$Layer;", true)
  | 3 => ("DecisionLayers", "piled", "I", false)
  | _ => ("DecisionLayers", "decider", "I", false)
def t_DL : Nat → FieldType := fun k => match k with
  | 0 => .object "DecisionLayers$Values"
  | 1 => .array (.object "DecisionLayers$Condition")
  | 2 => .array (.object "DecisionLayers$Layer")
  | 3 => .int
  | _ => .int
theorem n_DL : ∀ a, a < 5 → ∀ b, b < 5 → a ≠ b → (F_DL a).2.1 ≠ (F_DL b).2.1 := by decide +kernel
theorem t_DL_ok : ∀ k, k < 5 → parseFieldDescriptor (F_DL k).2.2.1 = some (t_DL k) := by decide +kernel
def F_M : u_T := fun k => match k with
  | 0 => ("DecisionLayersModel", "many", "[I", true)
  | 1 => ("DecisionLayersModel", "value", "[J", true)
  | 2 => ("DecisionLayersModel", "made", "I", false)
  | 3 => ("DecisionLayersModel", "kind", "[B", true)
  | 4 => ("DecisionLayersModel", "op", "[B", true)
  | 5 => ("DecisionLayersModel", "key", "[B", true)
  | 6 => ("DecisionLayersModel", "marks", "[B", true)
  | 7 => ("DecisionLayersModel", "depth", "[B", true)
  | 8 => ("DecisionLayersModel", "asked", "[J", true)
  | 9 => ("DecisionLayersModel", "partOf", "[I", true)
  | 10 => ("DecisionLayersModel", "hold", "[Z", true)
  | 11 => ("DecisionLayersModel", "piled", "I", false)
  | 12 => ("DecisionLayersModel", "pile", "[I", true)
  | 13 => ("DecisionLayersModel", "present", "[Z", true)
  | 14 => ("DecisionLayersModel", "count", "[I", true)
  | 15 => ("DecisionLayersModel", "how", "[I", true)
  | 16 => ("DecisionLayersModel", "actions", "[J", true)
  | 17 => ("DecisionLayersModel", "things", "[J", true)
  | 18 => ("DecisionLayersModel", "who", "[I", true)
  | 19 => ("DecisionLayersModel", "condition", "[I", true)
  | 20 => ("DecisionLayersModel", "decided", "I", false)
  | 21 => ("DecisionLayersModel", "applies", "[I", true)
  | 22 => ("DecisionLayersModel", "tokens", "I", false)
  | _ => ("DecisionLayersModel", "token", "[I", true)
def t_M : Nat → FieldType := fun k => match k with
  | 0 => .array .int
  | 1 => .array .long
  | 2 => .int
  | 3 => .array .byte
  | 4 => .array .byte
  | 5 => .array .byte
  | 6 => .array .byte
  | 7 => .array .byte
  | 8 => .array .long
  | 9 => .array .int
  | 10 => .array .boolean
  | 11 => .int
  | 12 => .array .int
  | 13 => .array .boolean
  | 14 => .array .int
  | 15 => .array .int
  | 16 => .array .long
  | 17 => .array .long
  | 18 => .array .int
  | 19 => .array .int
  | 20 => .int
  | 21 => .array .int
  | 22 => .int
  | _ => .array .int
theorem n_M : ∀ a, a < 24 → ∀ b, b < 24 → a ≠ b → (F_M a).2.1 ≠ (F_M b).2.1 := by decide +kernel
theorem t_M_ok : ∀ k, k < 24 → parseFieldDescriptor (F_M k).2.2.1 = some (t_M k) := by decide +kernel
abbrev x_cl : List vw_C := [("DecisionLayers$Values", F_Values, 2), ("DecisionLayers$Layer", F_Layer, 4), ("DecisionLayers$Statement", F_Statement, 5), ("DecisionLayers$Test", F_Test, 5), ("DecisionLayers$Joined", F_Joined, 3), ("DecisionLayers", F_DL, 5), ("DecisionLayersModel", F_M, 24)]
/-- the words that stay when the machine's tables grow warmer -/
def w_g : List Cond := lw_tbl.filter goodWord
theorem w_m1 {w : Cond} (i : Nat) (h : tables_1_1[i]? = some w) (hg : goodWord w = true) : w ∈ w_g := List.mem_filter.mpr ⟨List.mem_append_right _ (List.mem_append_left _ (List.mem_of_getElem? h)), hg⟩
theorem w_m2 {w : Cond} (i : Nat) (h : tables_1_2[i]? = some w) (hg : goodWord w = true) : w ∈ w_g := List.mem_filter.mpr ⟨List.mem_append_right _ (List.mem_append_right _ (List.mem_append_left _ (List.mem_of_getElem? h))), hg⟩
theorem w_m3 {w : Cond} (i : Nat) (h : tables_1_3[i]? = some w) (hg : goodWord w = true) : w ∈ w_g := List.mem_filter.mpr ⟨List.mem_append_right _ (List.mem_append_right _ (List.mem_append_right _ (List.mem_of_getElem? h))), hg⟩
theorem w_m0 {w : Cond} (i : Nat) (h : (k2_sels lw_privs)[i]? = some w) (hg : goodWord w = true) : w ∈ w_g := List.mem_filter.mpr ⟨List.mem_append_left _ (List.mem_of_getElem? h), hg⟩
end
section
/-! the words, each by its place -/
set_option maxRecDepth 20000 in
theorem w_1_0 : Cond.initialized "DecisionLayersLaw" ∈ w_g := w_m1 0 rfl rfl
set_option maxRecDepth 20000 in
theorem w_1_1 : Cond.initialized "DecisionLayers" ∈ w_g := w_m1 1 rfl rfl
set_option maxRecDepth 20000 in
theorem w_1_2 : Cond.initialized "DecisionLayers$Values" ∈ w_g := w_m1 2 rfl rfl
set_option maxRecDepth 20000 in
theorem w_1_3 : Cond.initialized "DecisionLayers$Layer" ∈ w_g := w_m1 3 rfl rfl
set_option maxRecDepth 20000 in
theorem w_1_4 : Cond.initialized "DecisionLayers$Statement" ∈ w_g := w_m1 4 rfl rfl
set_option maxRecDepth 20000 in
theorem w_1_5 : Cond.initialized "DecisionLayersModel" ∈ w_g := w_m1 5 rfl rfl
set_option maxRecDepth 20000 in
theorem w_1_6 : Cond.initialized "DecisionLayers$Condition" ∈ w_g := w_m1 6 rfl rfl
set_option maxRecDepth 20000 in
theorem w_1_7 : Cond.initialized "DecisionLayers$Test" ∈ w_g := w_m1 7 rfl rfl
set_option maxRecDepth 20000 in
theorem w_1_8 : Cond.initialized "java/lang/Math" ∈ w_g := w_m1 8 rfl rfl
set_option maxRecDepth 20000 in
theorem w_1_9 : Cond.initialized "DecisionLayers$Joined" ∈ w_g := w_m1 9 rfl rfl
set_option maxRecDepth 20000 in
theorem w_1_10 : Cond.initialized "DecisionLayers$Pattern" ∈ w_g := w_m1 10 rfl rfl
set_option maxRecDepth 20000 in
theorem w_1_11 : Cond.initialized "DecisionLayers$Text" ∈ w_g := w_m1 11 rfl rfl
set_option maxRecDepth 20000 in
theorem w_1_12 : Cond.classLink "DecisionLayersLaw" 7 "DecisionLayers" ∈ w_g := w_m1 12 rfl rfl
set_option maxRecDepth 20000 in
theorem w_1_13 : Cond.instantiable "DecisionLayers" 5 ∈ w_g := w_m1 13 rfl rfl
set_option maxRecDepth 20000 in
theorem w_1_14 : Cond.methodLink "DecisionLayersLaw" 9 y_DL_init ∈ w_g := w_m1 14 rfl rfl
set_option maxRecDepth 20000 in
theorem w_1_15 : Cond.instanceMethod y_DL_init ∈ w_g := w_m1 15 rfl rfl
set_option maxRecDepth 20000 in
theorem w_1_16 : Cond.code y_DL_init prog_1_method_1_code 2 none ∈ w_g := w_m1 16 rfl rfl
set_option maxRecDepth 20000 in
theorem w_1_17 : Cond.methodLink "DecisionLayers" 1 y_Object_init ∈ w_g := w_m1 17 rfl rfl
set_option maxRecDepth 20000 in
theorem w_1_18 : Cond.instanceMethod y_Object_init ∈ w_g := w_m1 18 rfl rfl
set_option maxRecDepth 20000 in
theorem w_1_19 : Cond.code y_Object_init object_method_1_code 1 none ∈ w_g := w_m1 19 rfl rfl
set_option maxRecDepth 20000 in
theorem w_1_20 : Cond.classLink "DecisionLayers" 7 "DecisionLayers$Values" ∈ w_g := w_m1 20 rfl rfl
set_option maxRecDepth 20000 in
theorem w_1_21 : Cond.instantiable "DecisionLayers$Values" 2 ∈ w_g := w_m1 21 rfl rfl
set_option maxRecDepth 20000 in
theorem w_1_23 : Cond.instanceMethod y_Values_init ∈ w_g := w_m1 23 rfl rfl
set_option maxRecDepth 20000 in
theorem w_1_24 : Cond.code y_Values_init prog_9_method_1_code 1 none ∈ w_g := w_m1 24 rfl rfl
set_option maxRecDepth 20000 in
theorem w_1_25 : Cond.methodLink "DecisionLayers$Values" 1 y_Object_init ∈ w_g := w_m1 25 rfl rfl
set_option maxRecDepth 20000 in
theorem w_1_26 : Cond.fieldLink "DecisionLayers$Values" 9 "DecisionLayers$Values" "row" "[J" ∈ w_g := w_m1 26 rfl rfl
set_option maxRecDepth 20000 in
theorem w_1_27 : Cond.fieldLink "DecisionLayers$Values" 13 "DecisionLayers$Values" "counts" "[I" ∈ w_g := w_m1 27 rfl rfl
set_option maxRecDepth 20000 in
theorem w_1_28 : Cond.laysFinal "DecisionLayers$Values" "DecisionLayers$Values" "row" "[J" ∈ w_g := w_m1 28 rfl rfl
set_option maxRecDepth 20000 in
theorem w_1_30 : Cond.laysFinal "DecisionLayers$Values" "DecisionLayers$Values" "counts" "[I" ∈ w_g := w_m1 30 rfl rfl
set_option maxRecDepth 20000 in
theorem w_1_33 : Cond.arrayClass FieldType.long ∈ w_g := w_m1 33 rfl rfl
set_option maxRecDepth 20000 in
theorem w_1_34 : Cond.arrayClass FieldType.int ∈ w_g := w_m1 34 rfl rfl
set_option maxRecDepth 20000 in
theorem w_1_35 : Cond.classLink "DecisionLayers" 16 "DecisionLayers$Condition" ∈ w_g := w_m1 35 rfl rfl
set_option maxRecDepth 20000 in
theorem w_1_37 : Cond.classLink "DecisionLayers" 22 "DecisionLayers$Layer" ∈ w_g := w_m1 37 rfl rfl
set_option maxRecDepth 20000 in
theorem w_1_39 : Cond.instantiable "DecisionLayers$Layer" 4 ∈ w_g := w_m1 39 rfl rfl
set_option maxRecDepth 20000 in
theorem w_1_40 : Cond.methodLink "DecisionLayers" 28 y_Layer_init ∈ w_g := w_m1 40 rfl rfl
set_option maxRecDepth 20000 in
theorem w_1_41 : Cond.instanceMethod y_Layer_init ∈ w_g := w_m1 41 rfl rfl
set_option maxRecDepth 20000 in
theorem w_1_42 : Cond.code y_Layer_init prog_4_method_1_code 2 none ∈ w_g := w_m1 42 rfl rfl
set_option maxRecDepth 20000 in
theorem w_1_43 : Cond.methodLink "DecisionLayers$Layer" 3 y_Object_init ∈ w_g := w_m1 43 rfl rfl
set_option maxRecDepth 20000 in
theorem w_1_44 : Cond.classLink "DecisionLayers$Layer" 11 "DecisionLayers$Statement" ∈ w_g := w_m1 44 rfl rfl
set_option maxRecDepth 20000 in
theorem w_1_46 : Cond.instantiable "DecisionLayers$Statement" 5 ∈ w_g := w_m1 46 rfl rfl
set_option maxRecDepth 20000 in
theorem w_1_48 : Cond.instanceMethod y_Statement_init ∈ w_g := w_m1 48 rfl rfl
set_option maxRecDepth 20000 in
theorem w_1_49 : Cond.code y_Statement_init prog_6_method_1_code 1 none ∈ w_g := w_m1 49 rfl rfl
set_option maxRecDepth 20000 in
theorem w_1_50 : Cond.methodLink "DecisionLayers$Statement" 1 y_Object_init ∈ w_g := w_m1 50 rfl rfl
set_option maxRecDepth 20000 in
theorem w_1_51 : Cond.fieldLink "DecisionLayers$Statement" 9 "DecisionLayers$Statement" "how" "I" ∈ w_g := w_m1 51 rfl rfl
set_option maxRecDepth 20000 in
theorem w_1_52 : Cond.fieldLink "DecisionLayers$Statement" 13 "DecisionLayers$Statement" "actions" "J" ∈ w_g := w_m1 52 rfl rfl
set_option maxRecDepth 20000 in
theorem w_1_53 : Cond.fieldLink "DecisionLayers$Statement" 17 "DecisionLayers$Statement" "things" "J" ∈ w_g := w_m1 53 rfl rfl
set_option maxRecDepth 20000 in
theorem w_1_54 : Cond.fieldLink "DecisionLayers$Statement" 20 "DecisionLayers$Statement" "who" "I" ∈ w_g := w_m1 54 rfl rfl
set_option maxRecDepth 20000 in
theorem w_1_55 : Cond.fieldLink "DecisionLayers$Statement" 23 "DecisionLayers$Statement" "condition" "LDecisionLayers$Condition;" ∈ w_g := w_m1 55 rfl rfl
set_option maxRecDepth 20000 in
theorem w_1_56 : Cond.lays "DecisionLayers$Statement" "DecisionLayers$Statement" "how" "I" ∈ w_g := w_m1 56 rfl rfl
set_option maxRecDepth 20000 in
theorem w_1_58 : Cond.lays "DecisionLayers$Statement" "DecisionLayers$Statement" "actions" "J" ∈ w_g := w_m1 58 rfl rfl
set_option maxRecDepth 20000 in
theorem w_1_60 : Cond.lays "DecisionLayers$Statement" "DecisionLayers$Statement" "things" "J" ∈ w_g := w_m1 60 rfl rfl
set_option maxRecDepth 20000 in
theorem w_1_62 : Cond.lays "DecisionLayers$Statement" "DecisionLayers$Statement" "who" "I" ∈ w_g := w_m1 62 rfl rfl
set_option maxRecDepth 20000 in
theorem w_1_64 : Cond.lays "DecisionLayers$Statement" "DecisionLayers$Statement" "condition" "LDecisionLayers$Condition;" ∈ w_g := w_m1 64 rfl rfl
set_option maxRecDepth 20000 in
theorem w_1_67 : Cond.fieldLink "DecisionLayers$Layer" 13 "DecisionLayers$Layer" "rows" "[LDecisionLayers$Statement;" ∈ w_g := w_m1 67 rfl rfl
set_option maxRecDepth 20000 in
theorem w_1_68 : Cond.fieldLink "DecisionLayers$Layer" 18 "DecisionLayers$Layer" "count" "I" ∈ w_g := w_m1 68 rfl rfl
set_option maxRecDepth 20000 in
theorem w_1_70 : Cond.fieldLink "DecisionLayers$Layer" 26 "DecisionLayers$Layer" "present" "Z" ∈ w_g := w_m1 70 rfl rfl
set_option maxRecDepth 20000 in
theorem w_1_72 : Cond.fieldLink "DecisionLayers$Layer" 30 "DecisionLayers$Layer" "judged" "I" ∈ w_g := w_m1 72 rfl rfl
set_option maxRecDepth 20000 in
theorem w_1_74 : Cond.laysFinal "DecisionLayers$Layer" "DecisionLayers$Layer" "rows" "[LDecisionLayers$Statement;" ∈ w_g := w_m1 74 rfl rfl
set_option maxRecDepth 20000 in
theorem w_1_76 : Cond.lays "DecisionLayers$Layer" "DecisionLayers$Layer" "count" "I" ∈ w_g := w_m1 76 rfl rfl
set_option maxRecDepth 20000 in
theorem w_1_78 : Cond.lays "DecisionLayers$Layer" "DecisionLayers$Layer" "present" "Z" ∈ w_g := w_m1 78 rfl rfl
set_option maxRecDepth 20000 in
theorem w_1_80 : Cond.lays "DecisionLayers$Layer" "DecisionLayers$Layer" "judged" "I" ∈ w_g := w_m1 80 rfl rfl
set_option maxRecDepth 20000 in
theorem w_1_83 : Cond.fieldLink "DecisionLayers" 10 "DecisionLayers" "values" "LDecisionLayers$Values;" ∈ w_g := w_m1 83 rfl rfl
set_option maxRecDepth 20000 in
theorem w_1_84 : Cond.fieldLink "DecisionLayers" 18 "DecisionLayers" "conditions" "[LDecisionLayers$Condition;" ∈ w_g := w_m1 84 rfl rfl
set_option maxRecDepth 20000 in
theorem w_1_85 : Cond.fieldLink "DecisionLayers" 24 "DecisionLayers" "layers" "[LDecisionLayers$Layer;" ∈ w_g := w_m1 85 rfl rfl
set_option maxRecDepth 20000 in
theorem w_1_86 : Cond.fieldLink "DecisionLayers" 29 "DecisionLayers" "piled" "I" ∈ w_g := w_m1 86 rfl rfl
set_option maxRecDepth 20000 in
theorem w_1_87 : Cond.fieldLink "DecisionLayers" 33 "DecisionLayers" "decider" "I" ∈ w_g := w_m1 87 rfl rfl
set_option maxRecDepth 20000 in
theorem w_1_88 : Cond.laysFinal "DecisionLayers" "DecisionLayers" "values" "LDecisionLayers$Values;" ∈ w_g := w_m1 88 rfl rfl
set_option maxRecDepth 20000 in
theorem w_1_90 : Cond.laysFinal "DecisionLayers" "DecisionLayers" "conditions" "[LDecisionLayers$Condition;" ∈ w_g := w_m1 90 rfl rfl
set_option maxRecDepth 20000 in
theorem w_1_92 : Cond.laysFinal "DecisionLayers" "DecisionLayers" "layers" "[LDecisionLayers$Layer;" ∈ w_g := w_m1 92 rfl rfl
set_option maxRecDepth 20000 in
theorem w_1_94 : Cond.lays "DecisionLayers" "DecisionLayers" "piled" "I" ∈ w_g := w_m1 94 rfl rfl
set_option maxRecDepth 20000 in
theorem w_1_96 : Cond.lays "DecisionLayers" "DecisionLayers" "decider" "I" ∈ w_g := w_m1 96 rfl rfl
set_option maxRecDepth 20000 in
theorem w_1_99 : Cond.methodLink "DecisionLayersLaw" 15 y_DL_test ∈ w_g := w_m1 99 rfl rfl
set_option maxRecDepth 20000 in
theorem w_1_100 : Cond.instanceMethod y_DL_test ∈ w_g := w_m1 100 rfl rfl
set_option maxRecDepth 20000 in
theorem w_1_101 : Cond.selects "DecisionLayers" y_DL_test y_DL_test ∈ w_g := w_m1 101 rfl rfl
set_option maxRecDepth 20000 in
theorem w_1_102 : Cond.code y_DL_test prog_1_method_2_code 6 (Option.some FieldType.int) ∈ w_g := w_m1 102 rfl rfl
set_option maxRecDepth 20000 in
theorem w_1_103 : Cond.methodLink "DecisionLayers" 36 y_Values_isKey ∈ w_g := w_m1 103 rfl rfl
set_option maxRecDepth 20000 in
theorem w_1_104 : Cond.static y_Values_isKey ∈ w_g := w_m1 104 rfl rfl
set_option maxRecDepth 20000 in
theorem w_1_105 : Cond.code y_Values_isKey prog_9_method_2_code 1 (Option.some FieldType.boolean) ∈ w_g := w_m1 105 rfl rfl
set_option maxRecDepth 20000 in
theorem w_1_106 : Cond.classLink "DecisionLayers" 40 "DecisionLayers$Test" ∈ w_g := w_m1 106 rfl rfl
set_option maxRecDepth 20000 in
theorem w_1_107 : Cond.instantiable "DecisionLayers$Test" 5 ∈ w_g := w_m1 107 rfl rfl
set_option maxRecDepth 20000 in
theorem w_1_108 : Cond.methodLink "DecisionLayers" 42 y_Test_init ∈ w_g := w_m1 108 rfl rfl
set_option maxRecDepth 20000 in
theorem w_1_109 : Cond.instanceMethod y_Test_init ∈ w_g := w_m1 109 rfl rfl
set_option maxRecDepth 20000 in
theorem w_1_110 : Cond.code y_Test_init prog_7_method_1_code 6 none ∈ w_g := w_m1 110 rfl rfl
set_option maxRecDepth 20000 in
theorem w_1_111 : Cond.methodLink "DecisionLayers$Test" 1 y_Condition_init ∈ w_g := w_m1 111 rfl rfl
set_option maxRecDepth 20000 in
theorem w_1_112 : Cond.instanceMethod y_Condition_init ∈ w_g := w_m1 112 rfl rfl
set_option maxRecDepth 20000 in
theorem w_1_113 : Cond.code y_Condition_init prog_2_method_1_code 2 none ∈ w_g := w_m1 113 rfl rfl
set_option maxRecDepth 20000 in
theorem w_1_114 : Cond.methodLink "DecisionLayers$Condition" 1 y_Object_init ∈ w_g := w_m1 114 rfl rfl
set_option maxRecDepth 20000 in
theorem w_1_115 : Cond.fieldLink "DecisionLayers$Test" 7 "DecisionLayers$Test" "op" "I" ∈ w_g := w_m1 115 rfl rfl
set_option maxRecDepth 20000 in
theorem w_1_116 : Cond.fieldLink "DecisionLayers$Test" 13 "DecisionLayers$Test" "key" "I" ∈ w_g := w_m1 116 rfl rfl
set_option maxRecDepth 20000 in
theorem w_1_117 : Cond.fieldLink "DecisionLayers$Test" 16 "DecisionLayers$Test" "t" "J" ∈ w_g := w_m1 117 rfl rfl
set_option maxRecDepth 20000 in
theorem w_1_118 : Cond.fieldLink "DecisionLayers$Test" 20 "DecisionLayers$Test" "marks" "I" ∈ w_g := w_m1 118 rfl rfl
set_option maxRecDepth 20000 in
theorem w_1_119 : Cond.fieldLink "DecisionLayers$Condition" 7 "DecisionLayers$Condition" "depth" "I" ∈ w_g := w_m1 119 rfl rfl
set_option maxRecDepth 20000 in
theorem w_1_120 : Cond.fieldLink "DecisionLayers" 127 "DecisionLayers$Condition" "depth" "I" ∈ w_g := w_m1 120 rfl rfl
set_option maxRecDepth 20000 in
theorem w_1_121 : Cond.laysFinal "DecisionLayers$Test" "DecisionLayers$Test" "op" "I" ∈ w_g := w_m1 121 rfl rfl
set_option maxRecDepth 20000 in
theorem w_1_123 : Cond.laysFinal "DecisionLayers$Test" "DecisionLayers$Test" "key" "I" ∈ w_g := w_m1 123 rfl rfl
set_option maxRecDepth 20000 in
theorem w_1_125 : Cond.laysFinal "DecisionLayers$Test" "DecisionLayers$Test" "t" "J" ∈ w_g := w_m1 125 rfl rfl
set_option maxRecDepth 20000 in
theorem w_1_127 : Cond.laysFinal "DecisionLayers$Test" "DecisionLayers$Test" "marks" "I" ∈ w_g := w_m1 127 rfl rfl
set_option maxRecDepth 20000 in
theorem w_1_129 : Cond.laysFinal "DecisionLayers$Test" "DecisionLayers$Condition" "depth" "I" ∈ w_g := w_m1 129 rfl rfl
set_option maxRecDepth 20000 in
theorem w_1_132 : Cond.methodLink "DecisionLayers" 45 y_DL_push ∈ w_g := w_m1 132 rfl rfl
set_option maxRecDepth 20000 in
theorem w_1_134 : Cond.instanceMethod y_DL_push ∈ w_g := w_m1 134 rfl rfl
set_option maxRecDepth 20000 in
theorem w_1_135 : Cond.code y_DL_push prog_1_method_20_code 2 (Option.some FieldType.int) ∈ w_g := w_m1 135 rfl rfl
set_option maxRecDepth 20000 in
theorem w_1_136 : Cond.methodLink "DecisionLayersLaw" 20 y_DL_join ∈ w_g := w_m1 136 rfl rfl
set_option maxRecDepth 20000 in
theorem w_1_137 : Cond.instanceMethod y_DL_join ∈ w_g := w_m1 137 rfl rfl
set_option maxRecDepth 20000 in
theorem w_1_138 : Cond.selects "DecisionLayers" y_DL_join y_DL_join ∈ w_g := w_m1 138 rfl rfl
set_option maxRecDepth 20000 in
theorem w_1_139 : Cond.code y_DL_join prog_1_method_3_code 6 (Option.some FieldType.int) ∈ w_g := w_m1 139 rfl rfl
set_option maxRecDepth 20000 in
theorem w_1_140 : Cond.methodLink "DecisionLayers" 51 y_DL_greatestDepthOfTopmost ∈ w_g := w_m1 140 rfl rfl
set_option maxRecDepth 20000 in
theorem w_1_142 : Cond.instanceMethod y_DL_greatestDepthOfTopmost ∈ w_g := w_m1 142 rfl rfl
set_option maxRecDepth 20000 in
theorem w_1_143 : Cond.code y_DL_greatestDepthOfTopmost prog_1_method_22_code 5 (Option.some FieldType.int) ∈ w_g := w_m1 143 rfl rfl
set_option maxRecDepth 20000 in
theorem w_1_144 : Cond.methodLink "DecisionLayers" 130 y_Math_max ∈ w_g := w_m1 144 rfl rfl
set_option maxRecDepth 20000 in
theorem w_1_145 : Cond.static y_Math_max ∈ w_g := w_m1 145 rfl rfl
set_option maxRecDepth 20000 in
theorem w_1_146 : Cond.code y_Math_max prog_12_method_65_code 2 (Option.some FieldType.int) ∈ w_g := w_m1 146 rfl rfl
set_option maxRecDepth 20000 in
theorem w_1_147 : Cond.methodLink "DecisionLayers" 55 y_DL_pop ∈ w_g := w_m1 147 rfl rfl
set_option maxRecDepth 20000 in
theorem w_1_149 : Cond.instanceMethod y_DL_pop ∈ w_g := w_m1 149 rfl rfl
set_option maxRecDepth 20000 in
theorem w_1_150 : Cond.code y_DL_pop prog_1_method_21_code 2 (Option.some (FieldType.object "DecisionLayers$Condition")) ∈ w_g := w_m1 150 rfl rfl
set_option maxRecDepth 20000 in
theorem w_1_151 : Cond.classLink "DecisionLayers" 49 "DecisionLayers$Joined" ∈ w_g := w_m1 151 rfl rfl
set_option maxRecDepth 20000 in
theorem w_1_152 : Cond.instantiable "DecisionLayers$Joined" 3 ∈ w_g := w_m1 152 rfl rfl
set_option maxRecDepth 20000 in
theorem w_1_153 : Cond.methodLink "DecisionLayers" 59 y_Joined_init ∈ w_g := w_m1 153 rfl rfl
set_option maxRecDepth 20000 in
theorem w_1_154 : Cond.instanceMethod y_Joined_init ∈ w_g := w_m1 154 rfl rfl
set_option maxRecDepth 20000 in
theorem w_1_155 : Cond.code y_Joined_init prog_3_method_1_code 4 none ∈ w_g := w_m1 155 rfl rfl
set_option maxRecDepth 20000 in
theorem w_1_156 : Cond.methodLink "DecisionLayers$Joined" 1 y_Condition_init ∈ w_g := w_m1 156 rfl rfl
set_option maxRecDepth 20000 in
theorem w_1_157 : Cond.fieldLink "DecisionLayers$Joined" 7 "DecisionLayers$Joined" "kind" "I" ∈ w_g := w_m1 157 rfl rfl
set_option maxRecDepth 20000 in
theorem w_1_158 : Cond.fieldLink "DecisionLayers$Joined" 13 "DecisionLayers$Joined" "parts" "[LDecisionLayers$Condition;" ∈ w_g := w_m1 158 rfl rfl
set_option maxRecDepth 20000 in
theorem w_1_159 : Cond.laysFinal "DecisionLayers$Joined" "DecisionLayers$Joined" "kind" "I" ∈ w_g := w_m1 159 rfl rfl
set_option maxRecDepth 20000 in
theorem w_1_161 : Cond.laysFinal "DecisionLayers$Joined" "DecisionLayers$Joined" "parts" "[LDecisionLayers$Condition;" ∈ w_g := w_m1 161 rfl rfl
set_option maxRecDepth 20000 in
theorem w_1_163 : Cond.laysFinal "DecisionLayers$Joined" "DecisionLayers$Condition" "depth" "I" ∈ w_g := w_m1 163 rfl rfl
set_option maxRecDepth 20000 in
theorem w_1_165 : Cond.methodLink "DecisionLayersLaw" 25 y_DL_discard ∈ w_g := w_m1 165 rfl rfl
set_option maxRecDepth 20000 in
theorem w_1_166 : Cond.instanceMethod y_DL_discard ∈ w_g := w_m1 166 rfl rfl
set_option maxRecDepth 20000 in
theorem w_1_167 : Cond.selects "DecisionLayers" y_DL_discard y_DL_discard ∈ w_g := w_m1 167 rfl rfl
set_option maxRecDepth 20000 in
theorem w_1_168 : Cond.code y_DL_discard prog_1_method_4_code 1 (Option.some FieldType.boolean) ∈ w_g := w_m1 168 rfl rfl
set_option maxRecDepth 20000 in
theorem w_1_169 : Cond.methodLink "DecisionLayersLaw" 30 y_DL_pile ∈ w_g := w_m1 169 rfl rfl
set_option maxRecDepth 20000 in
theorem w_1_170 : Cond.instanceMethod y_DL_pile ∈ w_g := w_m1 170 rfl rfl
set_option maxRecDepth 20000 in
theorem w_1_171 : Cond.selects "DecisionLayers" y_DL_pile y_DL_pile ∈ w_g := w_m1 171 rfl rfl
set_option maxRecDepth 20000 in
theorem w_1_172 : Cond.code y_DL_pile prog_1_method_5_code 1 (Option.some FieldType.int) ∈ w_g := w_m1 172 rfl rfl
set_option maxRecDepth 20000 in
theorem w_1_173 : Cond.methodLink "DecisionLayersLaw" 35 y_DL_state ∈ w_g := w_m1 173 rfl rfl
set_option maxRecDepth 20000 in
theorem w_1_174 : Cond.instanceMethod y_DL_state ∈ w_g := w_m1 174 rfl rfl
set_option maxRecDepth 20000 in
theorem w_1_175 : Cond.selects "DecisionLayers" y_DL_state y_DL_state ∈ w_g := w_m1 175 rfl rfl
set_option maxRecDepth 20000 in
theorem w_1_176 : Cond.code y_DL_state prog_1_method_6_code 10 (Option.some FieldType.int) ∈ w_g := w_m1 176 rfl rfl
set_option maxRecDepth 20000 in
theorem w_1_177 : Cond.methodLink "DecisionLayers" 62 y_DL_isLayer ∈ w_g := w_m1 177 rfl rfl
set_option maxRecDepth 20000 in
theorem w_1_178 : Cond.static y_DL_isLayer ∈ w_g := w_m1 178 rfl rfl
set_option maxRecDepth 20000 in
theorem w_1_179 : Cond.code y_DL_isLayer prog_1_method_17_code 1 (Option.some FieldType.boolean) ∈ w_g := w_m1 179 rfl rfl
set_option maxRecDepth 20000 in
theorem w_1_180 : Cond.methodLink "DecisionLayers" 67 y_DL_mayStandIn ∈ w_g := w_m1 180 rfl rfl
set_option maxRecDepth 20000 in
theorem w_1_181 : Cond.static y_DL_mayStandIn ∈ w_g := w_m1 181 rfl rfl
set_option maxRecDepth 20000 in
theorem w_1_182 : Cond.code y_DL_mayStandIn prog_1_method_19_code 2 (Option.some FieldType.boolean) ∈ w_g := w_m1 182 rfl rfl
set_option maxRecDepth 20000 in
theorem w_1_183 : Cond.methodLink "DecisionLayers" 124 y_Statement_isWho ∈ w_g := w_m1 183 rfl rfl
set_option maxRecDepth 20000 in
theorem w_1_184 : Cond.static y_Statement_isWho ∈ w_g := w_m1 184 rfl rfl
set_option maxRecDepth 20000 in
theorem w_1_185 : Cond.code y_Statement_isWho prog_6_method_2_code 1 (Option.some FieldType.boolean) ∈ w_g := w_m1 185 rfl rfl
set_option maxRecDepth 20000 in
theorem w_1_186 : Cond.methodLink "DecisionLayers" 71 y_Layer_isFull ∈ w_g := w_m1 186 rfl rfl
set_option maxRecDepth 20000 in
theorem w_1_187 : Cond.instanceMethod y_Layer_isFull ∈ w_g := w_m1 187 rfl rfl
set_option maxRecDepth 20000 in
theorem w_1_188 : Cond.selects "DecisionLayers$Layer" y_Layer_isFull y_Layer_isFull ∈ w_g := w_m1 188 rfl rfl
set_option maxRecDepth 20000 in
theorem w_1_189 : Cond.code y_Layer_isFull prog_4_method_2_code 1 (Option.some FieldType.boolean) ∈ w_g := w_m1 189 rfl rfl
set_option maxRecDepth 20000 in
theorem w_1_190 : Cond.methodLink "DecisionLayers" 75 y_Layer_append ∈ w_g := w_m1 190 rfl rfl
set_option maxRecDepth 20000 in
theorem w_1_191 : Cond.instanceMethod y_Layer_append ∈ w_g := w_m1 191 rfl rfl
set_option maxRecDepth 20000 in
theorem w_1_192 : Cond.selects "DecisionLayers$Layer" y_Layer_append y_Layer_append ∈ w_g := w_m1 192 rfl rfl
set_option maxRecDepth 20000 in
theorem w_1_193 : Cond.code y_Layer_append prog_4_method_3_code 8 (Option.some FieldType.int) ∈ w_g := w_m1 193 rfl rfl
set_option maxRecDepth 20000 in
theorem w_1_194 : Cond.methodLink "DecisionLayers$Layer" 22 y_Statement_become ∈ w_g := w_m1 194 rfl rfl
set_option maxRecDepth 20000 in
theorem w_1_195 : Cond.instanceMethod y_Statement_become ∈ w_g := w_m1 195 rfl rfl
set_option maxRecDepth 20000 in
theorem w_1_196 : Cond.selects "DecisionLayers$Statement" y_Statement_become y_Statement_become ∈ w_g := w_m1 196 rfl rfl
set_option maxRecDepth 20000 in
theorem w_1_197 : Cond.code y_Statement_become prog_6_method_4_code 8 none ∈ w_g := w_m1 197 rfl rfl
set_option maxRecDepth 20000 in
theorem w_1_198 : Cond.methodLink "DecisionLayersLaw" 40 y_DL_open ∈ w_g := w_m1 198 rfl rfl
set_option maxRecDepth 20000 in
theorem w_1_199 : Cond.instanceMethod y_DL_open ∈ w_g := w_m1 199 rfl rfl
set_option maxRecDepth 20000 in
theorem w_1_200 : Cond.selects "DecisionLayers" y_DL_open y_DL_open ∈ w_g := w_m1 200 rfl rfl
set_option maxRecDepth 20000 in
theorem w_1_201 : Cond.code y_DL_open prog_1_method_7_code 2 (Option.some FieldType.boolean) ∈ w_g := w_m1 201 rfl rfl
set_option maxRecDepth 20000 in
theorem w_1_202 : Cond.methodLink "DecisionLayersLaw" 45 y_DL_drop ∈ w_g := w_m1 202 rfl rfl
set_option maxRecDepth 20000 in
theorem w_1_203 : Cond.instanceMethod y_DL_drop ∈ w_g := w_m1 203 rfl rfl
set_option maxRecDepth 20000 in
theorem w_1_204 : Cond.selects "DecisionLayers" y_DL_drop y_DL_drop ∈ w_g := w_m1 204 rfl rfl
set_option maxRecDepth 20000 in
theorem w_1_205 : Cond.code y_DL_drop prog_1_method_8_code 2 (Option.some FieldType.boolean) ∈ w_g := w_m1 205 rfl rfl
set_option maxRecDepth 20000 in
theorem w_1_206 : Cond.methodLink "DecisionLayers" 83 y_Layer_empty ∈ w_g := w_m1 206 rfl rfl
set_option maxRecDepth 20000 in
theorem w_1_207 : Cond.instanceMethod y_Layer_empty ∈ w_g := w_m1 207 rfl rfl
set_option maxRecDepth 20000 in
theorem w_1_208 : Cond.selects "DecisionLayers$Layer" y_Layer_empty y_Layer_empty ∈ w_g := w_m1 208 rfl rfl
set_option maxRecDepth 20000 in
theorem w_1_209 : Cond.code y_Layer_empty prog_4_method_4_code 1 none ∈ w_g := w_m1 209 rfl rfl
set_option maxRecDepth 20000 in
theorem w_1_210 : Cond.methodLink "DecisionLayersLaw" 49 y_DL_statements ∈ w_g := w_m1 210 rfl rfl
set_option maxRecDepth 20000 in
theorem w_1_211 : Cond.instanceMethod y_DL_statements ∈ w_g := w_m1 211 rfl rfl
set_option maxRecDepth 20000 in
theorem w_1_212 : Cond.selects "DecisionLayers" y_DL_statements y_DL_statements ∈ w_g := w_m1 212 rfl rfl
set_option maxRecDepth 20000 in
theorem w_1_213 : Cond.code y_DL_statements prog_1_method_9_code 2 (Option.some FieldType.int) ∈ w_g := w_m1 213 rfl rfl
set_option maxRecDepth 20000 in
theorem w_1_214 : Cond.methodLink "DecisionLayersLaw" 54 y_DL_offer ∈ w_g := w_m1 214 rfl rfl
set_option maxRecDepth 20000 in
theorem w_1_215 : Cond.instanceMethod y_DL_offer ∈ w_g := w_m1 215 rfl rfl
set_option maxRecDepth 20000 in
theorem w_1_216 : Cond.selects "DecisionLayers" y_DL_offer y_DL_offer ∈ w_g := w_m1 216 rfl rfl
set_option maxRecDepth 20000 in
theorem w_1_217 : Cond.code y_DL_offer prog_1_method_10_code 4 (Option.some FieldType.int) ∈ w_g := w_m1 217 rfl rfl
set_option maxRecDepth 20000 in
theorem w_1_218 : Cond.methodLink "DecisionLayers" 89 y_Values_isFull ∈ w_g := w_m1 218 rfl rfl
set_option maxRecDepth 20000 in
theorem w_1_219 : Cond.instanceMethod y_Values_isFull ∈ w_g := w_m1 219 rfl rfl
set_option maxRecDepth 20000 in
theorem w_1_220 : Cond.selects "DecisionLayers$Values" y_Values_isFull y_Values_isFull ∈ w_g := w_m1 220 rfl rfl
set_option maxRecDepth 20000 in
theorem w_1_221 : Cond.code y_Values_isFull prog_9_method_5_code 2 (Option.some FieldType.boolean) ∈ w_g := w_m1 221 rfl rfl
set_option maxRecDepth 20000 in
theorem w_1_222 : Cond.methodLink "DecisionLayers$Values" 17 y_Values_count ∈ w_g := w_m1 222 rfl rfl
set_option maxRecDepth 20000 in
theorem w_1_223 : Cond.instanceMethod y_Values_count ∈ w_g := w_m1 223 rfl rfl
set_option maxRecDepth 20000 in
theorem w_1_224 : Cond.selects "DecisionLayers$Values" y_Values_count y_Values_count ∈ w_g := w_m1 224 rfl rfl
set_option maxRecDepth 20000 in
theorem w_1_225 : Cond.code y_Values_count prog_9_method_3_code 2 (Option.some FieldType.int) ∈ w_g := w_m1 225 rfl rfl
set_option maxRecDepth 20000 in
theorem w_1_226 : Cond.methodLink "DecisionLayers" 91 y_Values_append ∈ w_g := w_m1 226 rfl rfl
set_option maxRecDepth 20000 in
theorem w_1_227 : Cond.instanceMethod y_Values_append ∈ w_g := w_m1 227 rfl rfl
set_option maxRecDepth 20000 in
theorem w_1_228 : Cond.selects "DecisionLayers$Values" y_Values_append y_Values_append ∈ w_g := w_m1 228 rfl rfl
set_option maxRecDepth 20000 in
theorem w_1_229 : Cond.code y_Values_append prog_9_method_6_code 4 (Option.some FieldType.int) ∈ w_g := w_m1 229 rfl rfl
set_option maxRecDepth 20000 in
theorem w_1_230 : Cond.methodLink "DecisionLayers$Values" 21 y_Values_isKey ∈ w_g := w_m1 230 rfl rfl
set_option maxRecDepth 20000 in
theorem w_1_231 : Cond.methodLink "DecisionLayersLaw" 59 y_DL_forget ∈ w_g := w_m1 231 rfl rfl
set_option maxRecDepth 20000 in
theorem w_1_232 : Cond.instanceMethod y_DL_forget ∈ w_g := w_m1 232 rfl rfl
set_option maxRecDepth 20000 in
theorem w_1_233 : Cond.selects "DecisionLayers" y_DL_forget y_DL_forget ∈ w_g := w_m1 233 rfl rfl
set_option maxRecDepth 20000 in
theorem w_1_234 : Cond.code y_DL_forget prog_1_method_11_code 2 (Option.some FieldType.int) ∈ w_g := w_m1 234 rfl rfl
set_option maxRecDepth 20000 in
theorem w_1_235 : Cond.methodLink "DecisionLayers" 94 y_Values_empty ∈ w_g := w_m1 235 rfl rfl
set_option maxRecDepth 20000 in
theorem w_1_236 : Cond.instanceMethod y_Values_empty ∈ w_g := w_m1 236 rfl rfl
set_option maxRecDepth 20000 in
theorem w_1_237 : Cond.selects "DecisionLayers$Values" y_Values_empty y_Values_empty ∈ w_g := w_m1 237 rfl rfl
set_option maxRecDepth 20000 in
theorem w_1_238 : Cond.code y_Values_empty prog_9_method_7_code 3 (Option.some FieldType.int) ∈ w_g := w_m1 238 rfl rfl
set_option maxRecDepth 20000 in
theorem w_1_239 : Cond.methodLink "DecisionLayersLaw" 63 y_DL_decide ∈ w_g := w_m1 239 rfl rfl
set_option maxRecDepth 20000 in
theorem w_2_0 : Cond.instanceMethod y_DL_decide ∈ w_g := w_m2 0 rfl rfl
set_option maxRecDepth 20000 in
theorem w_2_1 : Cond.selects "DecisionLayers" y_DL_decide y_DL_decide ∈ w_g := w_m2 1 rfl rfl
set_option maxRecDepth 20000 in
theorem w_2_2 : Cond.code y_DL_decide prog_1_method_12_code 10 (Option.some FieldType.int) ∈ w_g := w_m2 2 rfl rfl
set_option maxRecDepth 20000 in
theorem w_2_3 : Cond.methodLink "DecisionLayers" 96 y_DL_isDigit ∈ w_g := w_m2 3 rfl rfl
set_option maxRecDepth 20000 in
theorem w_2_4 : Cond.static y_DL_isDigit ∈ w_g := w_m2 4 rfl rfl
set_option maxRecDepth 20000 in
theorem w_2_5 : Cond.code y_DL_isDigit prog_1_method_18_code 1 (Option.some FieldType.boolean) ∈ w_g := w_m2 5 rfl rfl
set_option maxRecDepth 20000 in
theorem w_2_6 : Cond.methodLink "DecisionLayers" 99 y_Statement_whoOfUser ∈ w_g := w_m2 6 rfl rfl
set_option maxRecDepth 20000 in
theorem w_2_7 : Cond.static y_Statement_whoOfUser ∈ w_g := w_m2 7 rfl rfl
set_option maxRecDepth 20000 in
theorem w_2_8 : Cond.code y_Statement_whoOfUser prog_6_method_3_code 2 (Option.some FieldType.int) ∈ w_g := w_m2 8 rfl rfl
set_option maxRecDepth 20000 in
theorem w_2_9 : Cond.methodLink "DecisionLayers" 103 y_Layer_judge ∈ w_g := w_m2 9 rfl rfl
set_option maxRecDepth 20000 in
theorem w_2_10 : Cond.instanceMethod y_Layer_judge ∈ w_g := w_m2 10 rfl rfl
set_option maxRecDepth 20000 in
theorem w_2_11 : Cond.selects "DecisionLayers$Layer" y_Layer_judge y_Layer_judge ∈ w_g := w_m2 11 rfl rfl
set_option maxRecDepth 20000 in
theorem w_2_12 : Cond.code y_Layer_judge prog_4_method_5_code 8 none ∈ w_g := w_m2 12 rfl rfl
set_option maxRecDepth 20000 in
theorem w_2_13 : Cond.methodLink "DecisionLayers$Layer" 33 y_Statement_suits ∈ w_g := w_m2 13 rfl rfl
set_option maxRecDepth 20000 in
theorem w_2_14 : Cond.instanceMethod y_Statement_suits ∈ w_g := w_m2 14 rfl rfl
set_option maxRecDepth 20000 in
theorem w_2_15 : Cond.selects "DecisionLayers$Statement" y_Statement_suits y_Statement_suits ∈ w_g := w_m2 15 rfl rfl
set_option maxRecDepth 20000 in
theorem w_2_16 : Cond.code y_Statement_suits prog_6_method_7_code 9 (Option.some FieldType.boolean) ∈ w_g := w_m2 16 rfl rfl
set_option maxRecDepth 20000 in
theorem w_2_17 : Cond.methodLink "DecisionLayers$Statement" 27 y_Statement_means ∈ w_g := w_m2 17 rfl rfl
set_option maxRecDepth 20000 in
theorem w_2_19 : Cond.instanceMethod y_Statement_means ∈ w_g := w_m2 19 rfl rfl
set_option maxRecDepth 20000 in
theorem w_2_20 : Cond.code y_Statement_means prog_6_method_8_code 2 (Option.some FieldType.boolean) ∈ w_g := w_m2 20 rfl rfl
set_option maxRecDepth 20000 in
theorem w_2_21 : Cond.methodLink "DecisionLayers$Statement" 31 y_Pattern_fits ∈ w_g := w_m2 21 rfl rfl
set_option maxRecDepth 20000 in
theorem w_2_22 : Cond.static y_Pattern_fits ∈ w_g := w_m2 22 rfl rfl
set_option maxRecDepth 20000 in
theorem w_2_23 : Cond.code y_Pattern_fits prog_5_method_2_code 11 (Option.some FieldType.boolean) ∈ w_g := w_m2 23 rfl rfl
set_option maxRecDepth 20000 in
theorem w_2_24 : Cond.methodLink "DecisionLayers$Pattern" 7 y_Text_length ∈ w_g := w_m2 24 rfl rfl
set_option maxRecDepth 20000 in
theorem w_2_25 : Cond.static y_Text_length ∈ w_g := w_m2 25 rfl rfl
set_option maxRecDepth 20000 in
theorem w_2_26 : Cond.code y_Text_length prog_8_method_3_code 3 (Option.some FieldType.int) ∈ w_g := w_m2 26 rfl rfl
set_option maxRecDepth 20000 in
theorem w_2_27 : Cond.constantLong "DecisionLayers$Text" 9 (255 : Int64) ∈ w_g := w_m2 27 rfl rfl
set_option maxRecDepth 20000 in
theorem w_2_28 : Cond.methodLink "DecisionLayers$Pattern" 15 y_Text_charAt ∈ w_g := w_m2 28 rfl rfl
set_option maxRecDepth 20000 in
theorem w_2_29 : Cond.static y_Text_charAt ∈ w_g := w_m2 29 rfl rfl
set_option maxRecDepth 20000 in
theorem w_2_30 : Cond.code y_Text_charAt prog_8_method_2_code 3 (Option.some FieldType.int) ∈ w_g := w_m2 30 rfl rfl
set_option maxRecDepth 20000 in
theorem w_2_31 : Cond.methodLink "DecisionLayers$Pattern" 19 y_Pattern_meansSomething ∈ w_g := w_m2 31 rfl rfl
set_option maxRecDepth 20000 in
theorem w_2_32 : Cond.static y_Pattern_meansSomething ∈ w_g := w_m2 32 rfl rfl
set_option maxRecDepth 20000 in
theorem w_2_33 : Cond.code y_Pattern_meansSomething prog_5_method_3_code 2 (Option.some FieldType.boolean) ∈ w_g := w_m2 33 rfl rfl
set_option maxRecDepth 20000 in
theorem w_2_34 : Cond.methodLink "DecisionLayers$Pattern" 38 y_Values_count ∈ w_g := w_m2 34 rfl rfl
set_option maxRecDepth 20000 in
theorem w_2_35 : Cond.methodLink "DecisionLayers$Pattern" 23 y_Pattern_meaning ∈ w_g := w_m2 35 rfl rfl
set_option maxRecDepth 20000 in
theorem w_2_36 : Cond.static y_Pattern_meaning ∈ w_g := w_m2 36 rfl rfl
set_option maxRecDepth 20000 in
theorem w_2_37 : Cond.code y_Pattern_meaning prog_5_method_4_code 2 (Option.some FieldType.long) ∈ w_g := w_m2 37 rfl rfl
set_option maxRecDepth 20000 in
theorem w_2_38 : Cond.methodLink "DecisionLayers$Pattern" 44 y_Values_isKey ∈ w_g := w_m2 38 rfl rfl
set_option maxRecDepth 20000 in
theorem w_2_39 : Cond.methodLink "DecisionLayers$Pattern" 48 y_Values_get ∈ w_g := w_m2 39 rfl rfl
set_option maxRecDepth 20000 in
theorem w_2_40 : Cond.instanceMethod y_Values_get ∈ w_g := w_m2 40 rfl rfl
set_option maxRecDepth 20000 in
theorem w_2_41 : Cond.selects "DecisionLayers$Values" y_Values_get y_Values_get ∈ w_g := w_m2 41 rfl rfl
set_option maxRecDepth 20000 in
theorem w_2_42 : Cond.code y_Values_get prog_9_method_4_code 3 (Option.some FieldType.long) ∈ w_g := w_m2 42 rfl rfl
set_option maxRecDepth 20000 in
theorem w_2_43 : Cond.methodLink "DecisionLayers$Pattern" 27 y_Pattern_readText ∈ w_g := w_m2 43 rfl rfl
set_option maxRecDepth 20000 in
theorem w_2_44 : Cond.static y_Pattern_readText ∈ w_g := w_m2 44 rfl rfl
set_option maxRecDepth 20000 in
theorem w_2_45 : Cond.code y_Pattern_readText prog_5_method_7_code 13 (Option.some FieldType.int) ∈ w_g := w_m2 45 rfl rfl
set_option maxRecDepth 20000 in
theorem w_2_46 : Cond.methodLink "DecisionLayers$Pattern" 52 y_Text_isAlike ∈ w_g := w_m2 46 rfl rfl
set_option maxRecDepth 20000 in
theorem w_2_47 : Cond.static y_Text_isAlike ∈ w_g := w_m2 47 rfl rfl
set_option maxRecDepth 20000 in
theorem w_2_48 : Cond.code y_Text_isAlike prog_8_method_5_code 5 (Option.some FieldType.boolean) ∈ w_g := w_m2 48 rfl rfl
set_option maxRecDepth 20000 in
theorem w_2_49 : Cond.methodLink "DecisionLayers$Pattern" 31 y_Pattern_readAnyRow ∈ w_g := w_m2 49 rfl rfl
set_option maxRecDepth 20000 in
theorem w_2_50 : Cond.static y_Pattern_readAnyRow ∈ w_g := w_m2 50 rfl rfl
set_option maxRecDepth 20000 in
theorem w_2_51 : Cond.code y_Pattern_readAnyRow prog_5_method_5_code 5 (Option.some FieldType.int) ∈ w_g := w_m2 51 rfl rfl
set_option maxRecDepth 20000 in
theorem w_2_52 : Cond.methodLink "DecisionLayers$Pattern" 35 y_Pattern_readAnyOne ∈ w_g := w_m2 52 rfl rfl
set_option maxRecDepth 20000 in
theorem w_2_53 : Cond.static y_Pattern_readAnyOne ∈ w_g := w_m2 53 rfl rfl
set_option maxRecDepth 20000 in
theorem w_2_54 : Cond.code y_Pattern_readAnyOne prog_5_method_6_code 4 (Option.some FieldType.int) ∈ w_g := w_m2 54 rfl rfl
set_option maxRecDepth 20000 in
theorem w_2_55 : Cond.methodLink "DecisionLayers$Statement" 37 y_Condition_isMet ∈ w_g := w_m2 55 rfl rfl
set_option maxRecDepth 20000 in
theorem w_2_57 : Cond.sameMethod "DecisionLayers$Condition" "DecisionLayers$Condition" "isMet" "(LDecisionLayers$Values;)Z" ∈ w_g := w_m2 57 rfl rfl
set_option maxRecDepth 20000 in
theorem w_2_58 : Cond.selects "DecisionLayers$Joined" y_Condition_isMet y_Joined_isMet ∈ w_g := w_m2 58 rfl rfl
set_option maxRecDepth 20000 in
theorem w_2_59 : Cond.instanceMethod y_Joined_isMet ∈ w_g := w_m2 59 rfl rfl
set_option maxRecDepth 20000 in
theorem w_2_60 : Cond.code y_Joined_isMet prog_3_method_2_code 5 (Option.some FieldType.boolean) ∈ w_g := w_m2 60 rfl rfl
set_option maxRecDepth 20000 in
theorem w_2_61 : Cond.methodLink "DecisionLayers$Joined" 17 y_Condition_isMet ∈ w_g := w_m2 61 rfl rfl
set_option maxRecDepth 20000 in
theorem w_2_62 : Cond.instanceMethod y_Test_isMet ∈ w_g := w_m2 62 rfl rfl
set_option maxRecDepth 20000 in
theorem w_2_63 : Cond.code y_Test_isMet prog_7_method_2_code 7 (Option.some FieldType.boolean) ∈ w_g := w_m2 63 rfl rfl
set_option maxRecDepth 20000 in
theorem w_2_64 : Cond.methodLink "DecisionLayers$Test" 23 y_Values_count ∈ w_g := w_m2 64 rfl rfl
set_option maxRecDepth 20000 in
theorem w_2_65 : Cond.methodLink "DecisionLayers$Test" 29 y_Values_get ∈ w_g := w_m2 65 rfl rfl
set_option maxRecDepth 20000 in
theorem w_2_66 : Cond.methodLink "DecisionLayers$Test" 33 y_Test_saysYes ∈ w_g := w_m2 66 rfl rfl
set_option maxRecDepth 20000 in
theorem w_2_68 : Cond.instanceMethod y_Test_saysYes ∈ w_g := w_m2 68 rfl rfl
set_option maxRecDepth 20000 in
theorem w_2_69 : Cond.code y_Test_saysYes prog_7_method_3_code 4 (Option.some FieldType.boolean) ∈ w_g := w_m2 69 rfl rfl
set_option maxRecDepth 20000 in
theorem w_2_70 : Cond.methodLink "DecisionLayers$Test" 37 y_Text_isSame ∈ w_g := w_m2 70 rfl rfl
set_option maxRecDepth 20000 in
theorem w_2_71 : Cond.static y_Text_isSame ∈ w_g := w_m2 71 rfl rfl
set_option maxRecDepth 20000 in
theorem w_2_72 : Cond.code y_Text_isSame prog_8_method_4_code 6 (Option.some FieldType.boolean) ∈ w_g := w_m2 72 rfl rfl
set_option maxRecDepth 20000 in
theorem w_2_73 : Cond.methodLink "DecisionLayers$Text" 11 y_Text_length ∈ w_g := w_m2 73 rfl rfl
set_option maxRecDepth 20000 in
theorem w_2_74 : Cond.methodLink "DecisionLayers$Text" 15 y_Text_charAt ∈ w_g := w_m2 74 rfl rfl
set_option maxRecDepth 20000 in
theorem w_2_75 : Cond.methodLink "DecisionLayers$Test" 43 y_Pattern_fits ∈ w_g := w_m2 75 rfl rfl
set_option maxRecDepth 20000 in
theorem w_2_76 : Cond.methodLink "DecisionLayers$Test" 49 y_Test_hasPrefix ∈ w_g := w_m2 76 rfl rfl
set_option maxRecDepth 20000 in
theorem w_2_78 : Cond.instanceMethod y_Test_hasPrefix ∈ w_g := w_m2 78 rfl rfl
set_option maxRecDepth 20000 in
theorem w_2_79 : Cond.code y_Test_hasPrefix prog_7_method_4_code 6 (Option.some FieldType.boolean) ∈ w_g := w_m2 79 rfl rfl
set_option maxRecDepth 20000 in
theorem w_2_80 : Cond.methodLink "DecisionLayers$Test" 53 y_Math_min ∈ w_g := w_m2 80 rfl rfl
set_option maxRecDepth 20000 in
theorem w_2_81 : Cond.static y_Math_min ∈ w_g := w_m2 81 rfl rfl
set_option maxRecDepth 20000 in
theorem w_2_82 : Cond.code y_Math_min prog_12_method_69_code 2 (Option.some FieldType.int) ∈ w_g := w_m2 82 rfl rfl
set_option maxRecDepth 20000 in
theorem w_2_83 : Cond.constantLong "DecisionLayers$Test" 59 (4294967295 : Int64) ∈ w_g := w_m2 83 rfl rfl
set_option maxRecDepth 20000 in
theorem w_2_84 : Cond.selects "DecisionLayers$Test" y_Condition_isMet y_Test_isMet ∈ w_g := w_m2 84 rfl rfl
set_option maxRecDepth 20000 in
theorem w_2_85 : Cond.methodLink "DecisionLayers" 107 y_DL_conclude ∈ w_g := w_m2 85 rfl rfl
set_option maxRecDepth 20000 in
theorem w_2_87 : Cond.instanceMethod y_DL_conclude ∈ w_g := w_m2 87 rfl rfl
set_option maxRecDepth 20000 in
theorem w_2_88 : Cond.code y_DL_conclude prog_1_method_23_code 4 (Option.some FieldType.int) ∈ w_g := w_m2 88 rfl rfl
set_option maxRecDepth 20000 in
theorem w_2_89 : Cond.methodLink "DecisionLayers" 135 y_Layer_denies ∈ w_g := w_m2 89 rfl rfl
set_option maxRecDepth 20000 in
theorem w_2_90 : Cond.instanceMethod y_Layer_denies ∈ w_g := w_m2 90 rfl rfl
set_option maxRecDepth 20000 in
theorem w_2_91 : Cond.selects "DecisionLayers$Layer" y_Layer_denies y_Layer_denies ∈ w_g := w_m2 91 rfl rfl
set_option maxRecDepth 20000 in
theorem w_2_92 : Cond.code y_Layer_denies prog_4_method_6_code 1 (Option.some FieldType.boolean) ∈ w_g := w_m2 92 rfl rfl
set_option maxRecDepth 20000 in
theorem w_2_93 : Cond.methodLink "DecisionLayers$Layer" 37 y_Layer_hasJudged ∈ w_g := w_m2 93 rfl rfl
set_option maxRecDepth 20000 in
theorem w_2_95 : Cond.instanceMethod y_Layer_hasJudged ∈ w_g := w_m2 95 rfl rfl
set_option maxRecDepth 20000 in
theorem w_2_96 : Cond.code y_Layer_hasJudged prog_4_method_10_code 3 (Option.some FieldType.boolean) ∈ w_g := w_m2 96 rfl rfl
set_option maxRecDepth 20000 in
theorem w_2_97 : Cond.methodLink "DecisionLayers$Layer" 45 y_Layer_isJudged ∈ w_g := w_m2 97 rfl rfl
set_option maxRecDepth 20000 in
theorem w_2_99 : Cond.instanceMethod y_Layer_isJudged ∈ w_g := w_m2 99 rfl rfl
set_option maxRecDepth 20000 in
theorem w_2_100 : Cond.code y_Layer_isJudged prog_4_method_11_code 2 (Option.some FieldType.boolean) ∈ w_g := w_m2 100 rfl rfl
set_option maxRecDepth 20000 in
theorem w_2_101 : Cond.methodLink "DecisionLayers$Layer" 49 y_Statement_isDenying ∈ w_g := w_m2 101 rfl rfl
set_option maxRecDepth 20000 in
theorem w_2_102 : Cond.instanceMethod y_Statement_isDenying ∈ w_g := w_m2 102 rfl rfl
set_option maxRecDepth 20000 in
theorem w_2_103 : Cond.selects "DecisionLayers$Statement" y_Statement_isDenying y_Statement_isDenying ∈ w_g := w_m2 103 rfl rfl
set_option maxRecDepth 20000 in
theorem w_2_104 : Cond.code y_Statement_isDenying prog_6_method_5_code 1 (Option.some FieldType.boolean) ∈ w_g := w_m2 104 rfl rfl
set_option maxRecDepth 20000 in
theorem w_2_105 : Cond.methodLink "DecisionLayers" 138 y_DL_settle ∈ w_g := w_m2 105 rfl rfl
set_option maxRecDepth 20000 in
theorem w_2_107 : Cond.instanceMethod y_DL_settle ∈ w_g := w_m2 107 rfl rfl
set_option maxRecDepth 20000 in
theorem w_2_108 : Cond.code y_DL_settle prog_1_method_25_code 3 (Option.some FieldType.int) ∈ w_g := w_m2 108 rfl rfl
set_option maxRecDepth 20000 in
theorem w_2_109 : Cond.methodLink "DecisionLayers" 141 y_Layer_bars ∈ w_g := w_m2 109 rfl rfl
set_option maxRecDepth 20000 in
theorem w_2_110 : Cond.instanceMethod y_Layer_bars ∈ w_g := w_m2 110 rfl rfl
set_option maxRecDepth 20000 in
theorem w_2_111 : Cond.selects "DecisionLayers$Layer" y_Layer_bars y_Layer_bars ∈ w_g := w_m2 111 rfl rfl
set_option maxRecDepth 20000 in
theorem w_2_112 : Cond.code y_Layer_bars prog_4_method_8_code 1 (Option.some FieldType.boolean) ∈ w_g := w_m2 112 rfl rfl
set_option maxRecDepth 20000 in
theorem w_2_113 : Cond.methodLink "DecisionLayers$Layer" 41 y_Layer_allows ∈ w_g := w_m2 113 rfl rfl
set_option maxRecDepth 20000 in
theorem w_2_114 : Cond.instanceMethod y_Layer_allows ∈ w_g := w_m2 114 rfl rfl
set_option maxRecDepth 20000 in
theorem w_2_115 : Cond.selects "DecisionLayers$Layer" y_Layer_allows y_Layer_allows ∈ w_g := w_m2 115 rfl rfl
set_option maxRecDepth 20000 in
theorem w_2_116 : Cond.code y_Layer_allows prog_4_method_7_code 1 (Option.some FieldType.boolean) ∈ w_g := w_m2 116 rfl rfl
set_option maxRecDepth 20000 in
theorem w_2_117 : Cond.methodLink "DecisionLayers" 144 y_Layer_allowsByName ∈ w_g := w_m2 117 rfl rfl
set_option maxRecDepth 20000 in
theorem w_2_118 : Cond.instanceMethod y_Layer_allowsByName ∈ w_g := w_m2 118 rfl rfl
set_option maxRecDepth 20000 in
theorem w_2_119 : Cond.selects "DecisionLayers$Layer" y_Layer_allowsByName y_Layer_allowsByName ∈ w_g := w_m2 119 rfl rfl
set_option maxRecDepth 20000 in
theorem w_2_120 : Cond.code y_Layer_allowsByName prog_4_method_9_code 3 (Option.some FieldType.boolean) ∈ w_g := w_m2 120 rfl rfl
set_option maxRecDepth 20000 in
theorem w_2_121 : Cond.methodLink "DecisionLayers$Layer" 52 y_Statement_names ∈ w_g := w_m2 121 rfl rfl
set_option maxRecDepth 20000 in
theorem w_2_122 : Cond.instanceMethod y_Statement_names ∈ w_g := w_m2 122 rfl rfl
set_option maxRecDepth 20000 in
theorem w_2_123 : Cond.selects "DecisionLayers$Statement" y_Statement_names y_Statement_names ∈ w_g := w_m2 123 rfl rfl
set_option maxRecDepth 20000 in
theorem w_2_124 : Cond.code y_Statement_names prog_6_method_6_code 2 (Option.some FieldType.boolean) ∈ w_g := w_m2 124 rfl rfl
set_option maxRecDepth 20000 in
theorem w_2_125 : Cond.methodLink "DecisionLayers" 147 y_DL_concludeFromGrants ∈ w_g := w_m2 125 rfl rfl
set_option maxRecDepth 20000 in
theorem w_2_127 : Cond.instanceMethod y_DL_concludeFromGrants ∈ w_g := w_m2 127 rfl rfl
set_option maxRecDepth 20000 in
theorem w_2_128 : Cond.code y_DL_concludeFromGrants prog_1_method_24_code 5 (Option.some FieldType.int) ∈ w_g := w_m2 128 rfl rfl
set_option maxRecDepth 20000 in
theorem w_2_129 : Cond.methodLink "DecisionLayers" 151 y_Layer_allows ∈ w_g := w_m2 129 rfl rfl
set_option maxRecDepth 20000 in
theorem w_2_130 : Cond.methodLink "DecisionLayersLaw" 67 y_DL_layer ∈ w_g := w_m2 130 rfl rfl
set_option maxRecDepth 20000 in
theorem w_2_131 : Cond.instanceMethod y_DL_layer ∈ w_g := w_m2 131 rfl rfl
set_option maxRecDepth 20000 in
theorem w_2_132 : Cond.selects "DecisionLayers" y_DL_layer y_DL_layer ∈ w_g := w_m2 132 rfl rfl
set_option maxRecDepth 20000 in
theorem w_2_133 : Cond.code y_DL_layer prog_1_method_13_code 1 (Option.some FieldType.int) ∈ w_g := w_m2 133 rfl rfl
set_option maxRecDepth 20000 in
theorem w_2_134 : Cond.methodLink "DecisionLayersLaw" 71 y_DL_applied ∈ w_g := w_m2 134 rfl rfl
set_option maxRecDepth 20000 in
theorem w_2_135 : Cond.instanceMethod y_DL_applied ∈ w_g := w_m2 135 rfl rfl
set_option maxRecDepth 20000 in
theorem w_2_136 : Cond.selects "DecisionLayers" y_DL_applied y_DL_applied ∈ w_g := w_m2 136 rfl rfl
set_option maxRecDepth 20000 in
theorem w_2_137 : Cond.code y_DL_applied prog_1_method_14_code 2 (Option.some FieldType.int) ∈ w_g := w_m2 137 rfl rfl
set_option maxRecDepth 20000 in
theorem w_2_138 : Cond.methodLink "DecisionLayersLaw" 75 y_DL_matches ∈ w_g := w_m2 138 rfl rfl
set_option maxRecDepth 20000 in
theorem w_2_139 : Cond.instanceMethod y_DL_matches ∈ w_g := w_m2 139 rfl rfl
set_option maxRecDepth 20000 in
theorem w_2_140 : Cond.selects "DecisionLayers" y_DL_matches y_DL_matches ∈ w_g := w_m2 140 rfl rfl
set_option maxRecDepth 20000 in
theorem w_2_141 : Cond.code y_DL_matches prog_1_method_15_code 6 (Option.some FieldType.boolean) ∈ w_g := w_m2 141 rfl rfl
set_option maxRecDepth 20000 in
theorem w_2_142 : Cond.methodLink "DecisionLayers" 114 y_Pattern_fits ∈ w_g := w_m2 142 rfl rfl
set_option maxRecDepth 20000 in
theorem w_2_143 : Cond.methodLink "DecisionLayersLaw" 80 y_DL_holds ∈ w_g := w_m2 143 rfl rfl
set_option maxRecDepth 20000 in
theorem w_2_144 : Cond.instanceMethod y_DL_holds ∈ w_g := w_m2 144 rfl rfl
set_option maxRecDepth 20000 in
theorem w_2_145 : Cond.selects "DecisionLayers" y_DL_holds y_DL_holds ∈ w_g := w_m2 145 rfl rfl
set_option maxRecDepth 20000 in
theorem w_2_146 : Cond.code y_DL_holds prog_1_method_16_code 3 (Option.some FieldType.boolean) ∈ w_g := w_m2 146 rfl rfl
set_option maxRecDepth 20000 in
theorem w_2_147 : Cond.methodLink "DecisionLayers" 120 y_Condition_isMet ∈ w_g := w_m2 147 rfl rfl
set_option maxRecDepth 20000 in
theorem w_2_148 : Cond.classLink "DecisionLayersLaw" 10 "DecisionLayersModel" ∈ w_g := w_m2 148 rfl rfl
set_option maxRecDepth 20000 in
theorem w_2_149 : Cond.instantiable "DecisionLayersModel" 24 ∈ w_g := w_m2 149 rfl rfl
set_option maxRecDepth 20000 in
theorem w_2_150 : Cond.methodLink "DecisionLayersLaw" 12 y_M_init ∈ w_g := w_m2 150 rfl rfl
set_option maxRecDepth 20000 in
theorem w_2_151 : Cond.instanceMethod y_M_init ∈ w_g := w_m2 151 rfl rfl
set_option maxRecDepth 20000 in
theorem w_2_152 : Cond.code y_M_init prog_11_method_1_code 1 none ∈ w_g := w_m2 152 rfl rfl
set_option maxRecDepth 20000 in
theorem w_2_153 : Cond.methodLink "DecisionLayersModel" 1 y_Object_init ∈ w_g := w_m2 153 rfl rfl
set_option maxRecDepth 20000 in
theorem w_2_154 : Cond.fieldLink "DecisionLayersModel" 7 "DecisionLayersModel" "many" "[I" ∈ w_g := w_m2 154 rfl rfl
set_option maxRecDepth 20000 in
theorem w_2_155 : Cond.fieldLink "DecisionLayersModel" 13 "DecisionLayersModel" "value" "[J" ∈ w_g := w_m2 155 rfl rfl
set_option maxRecDepth 20000 in
theorem w_2_156 : Cond.fieldLink "DecisionLayersModel" 100 "DecisionLayersModel" "made" "I" ∈ w_g := w_m2 156 rfl rfl
set_option maxRecDepth 20000 in
theorem w_2_157 : Cond.fieldLink "DecisionLayersModel" 17 "DecisionLayersModel" "kind" "[B" ∈ w_g := w_m2 157 rfl rfl
set_option maxRecDepth 20000 in
theorem w_2_158 : Cond.fieldLink "DecisionLayersModel" 21 "DecisionLayersModel" "op" "[B" ∈ w_g := w_m2 158 rfl rfl
set_option maxRecDepth 20000 in
theorem w_2_159 : Cond.fieldLink "DecisionLayersModel" 24 "DecisionLayersModel" "key" "[B" ∈ w_g := w_m2 159 rfl rfl
set_option maxRecDepth 20000 in
theorem w_2_160 : Cond.fieldLink "DecisionLayersModel" 27 "DecisionLayersModel" "marks" "[B" ∈ w_g := w_m2 160 rfl rfl
set_option maxRecDepth 20000 in
theorem w_2_161 : Cond.fieldLink "DecisionLayersModel" 30 "DecisionLayersModel" "depth" "[B" ∈ w_g := w_m2 161 rfl rfl
set_option maxRecDepth 20000 in
theorem w_2_162 : Cond.fieldLink "DecisionLayersModel" 33 "DecisionLayersModel" "asked" "[J" ∈ w_g := w_m2 162 rfl rfl
set_option maxRecDepth 20000 in
theorem w_2_163 : Cond.fieldLink "DecisionLayersModel" 36 "DecisionLayersModel" "partOf" "[I" ∈ w_g := w_m2 163 rfl rfl
set_option maxRecDepth 20000 in
theorem w_2_164 : Cond.fieldLink "DecisionLayersModel" 39 "DecisionLayersModel" "hold" "[Z" ∈ w_g := w_m2 164 rfl rfl
set_option maxRecDepth 20000 in
theorem w_2_165 : Cond.fieldLink "DecisionLayersModel" 103 "DecisionLayersModel" "piled" "I" ∈ w_g := w_m2 165 rfl rfl
set_option maxRecDepth 20000 in
theorem w_2_166 : Cond.fieldLink "DecisionLayersModel" 43 "DecisionLayersModel" "pile" "[I" ∈ w_g := w_m2 166 rfl rfl
set_option maxRecDepth 20000 in
theorem w_2_167 : Cond.fieldLink "DecisionLayersModel" 46 "DecisionLayersModel" "present" "[Z" ∈ w_g := w_m2 167 rfl rfl
set_option maxRecDepth 20000 in
theorem w_2_168 : Cond.fieldLink "DecisionLayersModel" 49 "DecisionLayersModel" "count" "[I" ∈ w_g := w_m2 168 rfl rfl
set_option maxRecDepth 20000 in
theorem w_2_169 : Cond.fieldLink "DecisionLayersModel" 52 "DecisionLayersModel" "how" "[I" ∈ w_g := w_m2 169 rfl rfl
set_option maxRecDepth 20000 in
theorem w_2_170 : Cond.fieldLink "DecisionLayersModel" 55 "DecisionLayersModel" "actions" "[J" ∈ w_g := w_m2 170 rfl rfl
set_option maxRecDepth 20000 in
theorem w_2_171 : Cond.fieldLink "DecisionLayersModel" 58 "DecisionLayersModel" "things" "[J" ∈ w_g := w_m2 171 rfl rfl
set_option maxRecDepth 20000 in
theorem w_2_172 : Cond.fieldLink "DecisionLayersModel" 61 "DecisionLayersModel" "who" "[I" ∈ w_g := w_m2 172 rfl rfl
set_option maxRecDepth 20000 in
theorem w_2_173 : Cond.fieldLink "DecisionLayersModel" 64 "DecisionLayersModel" "condition" "[I" ∈ w_g := w_m2 173 rfl rfl
set_option maxRecDepth 20000 in
theorem w_2_174 : Cond.fieldLink "DecisionLayersModel" 67 "DecisionLayersModel" "decided" "I" ∈ w_g := w_m2 174 rfl rfl
set_option maxRecDepth 20000 in
theorem w_2_175 : Cond.fieldLink "DecisionLayersModel" 71 "DecisionLayersModel" "applies" "[I" ∈ w_g := w_m2 175 rfl rfl
set_option maxRecDepth 20000 in
theorem w_2_176 : Cond.fieldLink "DecisionLayersModel" 81 "DecisionLayersModel" "tokens" "I" ∈ w_g := w_m2 176 rfl rfl
set_option maxRecDepth 20000 in
theorem w_2_177 : Cond.fieldLink "DecisionLayersModel" 74 "DecisionLayersModel" "token" "[I" ∈ w_g := w_m2 177 rfl rfl
set_option maxRecDepth 20000 in
theorem w_2_178 : Cond.laysFinal "DecisionLayersModel" "DecisionLayersModel" "many" "[I" ∈ w_g := w_m2 178 rfl rfl
set_option maxRecDepth 20000 in
theorem w_2_180 : Cond.laysFinal "DecisionLayersModel" "DecisionLayersModel" "value" "[J" ∈ w_g := w_m2 180 rfl rfl
set_option maxRecDepth 20000 in
theorem w_2_182 : Cond.lays "DecisionLayersModel" "DecisionLayersModel" "made" "I" ∈ w_g := w_m2 182 rfl rfl
set_option maxRecDepth 20000 in
theorem w_2_184 : Cond.laysFinal "DecisionLayersModel" "DecisionLayersModel" "kind" "[B" ∈ w_g := w_m2 184 rfl rfl
set_option maxRecDepth 20000 in
theorem w_2_186 : Cond.laysFinal "DecisionLayersModel" "DecisionLayersModel" "op" "[B" ∈ w_g := w_m2 186 rfl rfl
set_option maxRecDepth 20000 in
theorem w_2_188 : Cond.laysFinal "DecisionLayersModel" "DecisionLayersModel" "key" "[B" ∈ w_g := w_m2 188 rfl rfl
set_option maxRecDepth 20000 in
theorem w_2_190 : Cond.laysFinal "DecisionLayersModel" "DecisionLayersModel" "marks" "[B" ∈ w_g := w_m2 190 rfl rfl
set_option maxRecDepth 20000 in
theorem w_2_192 : Cond.laysFinal "DecisionLayersModel" "DecisionLayersModel" "depth" "[B" ∈ w_g := w_m2 192 rfl rfl
set_option maxRecDepth 20000 in
theorem w_2_194 : Cond.laysFinal "DecisionLayersModel" "DecisionLayersModel" "asked" "[J" ∈ w_g := w_m2 194 rfl rfl
set_option maxRecDepth 20000 in
theorem w_2_196 : Cond.laysFinal "DecisionLayersModel" "DecisionLayersModel" "partOf" "[I" ∈ w_g := w_m2 196 rfl rfl
set_option maxRecDepth 20000 in
theorem w_2_198 : Cond.laysFinal "DecisionLayersModel" "DecisionLayersModel" "hold" "[Z" ∈ w_g := w_m2 198 rfl rfl
set_option maxRecDepth 20000 in
theorem w_2_200 : Cond.lays "DecisionLayersModel" "DecisionLayersModel" "piled" "I" ∈ w_g := w_m2 200 rfl rfl
set_option maxRecDepth 20000 in
theorem w_2_202 : Cond.laysFinal "DecisionLayersModel" "DecisionLayersModel" "pile" "[I" ∈ w_g := w_m2 202 rfl rfl
set_option maxRecDepth 20000 in
theorem w_2_204 : Cond.laysFinal "DecisionLayersModel" "DecisionLayersModel" "present" "[Z" ∈ w_g := w_m2 204 rfl rfl
set_option maxRecDepth 20000 in
theorem w_2_206 : Cond.laysFinal "DecisionLayersModel" "DecisionLayersModel" "count" "[I" ∈ w_g := w_m2 206 rfl rfl
set_option maxRecDepth 20000 in
theorem w_2_208 : Cond.laysFinal "DecisionLayersModel" "DecisionLayersModel" "how" "[I" ∈ w_g := w_m2 208 rfl rfl
set_option maxRecDepth 20000 in
theorem w_2_210 : Cond.laysFinal "DecisionLayersModel" "DecisionLayersModel" "actions" "[J" ∈ w_g := w_m2 210 rfl rfl
set_option maxRecDepth 20000 in
theorem w_2_212 : Cond.laysFinal "DecisionLayersModel" "DecisionLayersModel" "things" "[J" ∈ w_g := w_m2 212 rfl rfl
set_option maxRecDepth 20000 in
theorem w_2_214 : Cond.laysFinal "DecisionLayersModel" "DecisionLayersModel" "who" "[I" ∈ w_g := w_m2 214 rfl rfl
set_option maxRecDepth 20000 in
theorem w_2_216 : Cond.laysFinal "DecisionLayersModel" "DecisionLayersModel" "condition" "[I" ∈ w_g := w_m2 216 rfl rfl
set_option maxRecDepth 20000 in
theorem w_2_218 : Cond.lays "DecisionLayersModel" "DecisionLayersModel" "decided" "I" ∈ w_g := w_m2 218 rfl rfl
set_option maxRecDepth 20000 in
theorem w_2_220 : Cond.laysFinal "DecisionLayersModel" "DecisionLayersModel" "applies" "[I" ∈ w_g := w_m2 220 rfl rfl
set_option maxRecDepth 20000 in
theorem w_2_222 : Cond.lays "DecisionLayersModel" "DecisionLayersModel" "tokens" "I" ∈ w_g := w_m2 222 rfl rfl
set_option maxRecDepth 20000 in
theorem w_2_224 : Cond.laysFinal "DecisionLayersModel" "DecisionLayersModel" "token" "[I" ∈ w_g := w_m2 224 rfl rfl
set_option maxRecDepth 20000 in
theorem w_2_227 : Cond.arrayClass FieldType.byte ∈ w_g := w_m2 227 rfl rfl
set_option maxRecDepth 20000 in
theorem w_2_228 : Cond.arrayClass FieldType.boolean ∈ w_g := w_m2 228 rfl rfl
set_option maxRecDepth 20000 in
theorem w_2_229 : Cond.methodLink "DecisionLayersLaw" 79 y_M_matches ∈ w_g := w_m2 229 rfl rfl
set_option maxRecDepth 20000 in
theorem w_2_230 : Cond.instanceMethod y_M_matches ∈ w_g := w_m2 230 rfl rfl
set_option maxRecDepth 20000 in
theorem w_2_231 : Cond.selects "DecisionLayersModel" y_M_matches y_M_matches ∈ w_g := w_m2 231 rfl rfl
set_option maxRecDepth 20000 in
theorem w_2_232 : Cond.code y_M_matches prog_11_method_7_code 13 (Option.some FieldType.boolean) ∈ w_g := w_m2 232 rfl rfl
set_option maxRecDepth 20000 in
theorem w_2_233 : Cond.methodLink "DecisionLayersModel" 92 y_M_meant ∈ w_g := w_m2 233 rfl rfl
set_option maxRecDepth 20000 in
theorem w_2_235 : Cond.instanceMethod y_M_meant ∈ w_g := w_m2 235 rfl rfl
set_option maxRecDepth 20000 in
theorem w_2_236 : Cond.code y_M_meant prog_11_method_6_code 11 (Option.some FieldType.boolean) ∈ w_g := w_m2 236 rfl rfl
set_option maxRecDepth 20000 in
theorem w_2_237 : Cond.methodLink "DecisionLayersModel" 84 y_M_length ∈ w_g := w_m2 237 rfl rfl
set_option maxRecDepth 20000 in
theorem w_2_238 : Cond.static y_M_length ∈ w_g := w_m2 238 rfl rfl
set_option maxRecDepth 20000 in
theorem w_2_239 : Cond.code y_M_length prog_11_method_3_code 3 (Option.some FieldType.int) ∈ w_g := w_m2 239 rfl rfl
set_option maxRecDepth 20000 in
theorem w_3_0 : Cond.methodLink "DecisionLayersModel" 77 y_M_charAt ∈ w_g := w_m3 0 rfl rfl
set_option maxRecDepth 20000 in
theorem w_3_1 : Cond.static y_M_charAt ∈ w_g := w_m3 1 rfl rfl
set_option maxRecDepth 20000 in
theorem w_3_2 : Cond.code y_M_charAt prog_11_method_2_code 3 (Option.some FieldType.int) ∈ w_g := w_m3 2 rfl rfl
set_option maxRecDepth 20000 in
theorem w_3_3 : Cond.methodLink "DecisionLayersModel" 88 y_M_add ∈ w_g := w_m3 3 rfl rfl
set_option maxRecDepth 20000 in
theorem w_3_5 : Cond.instanceMethod y_M_add ∈ w_g := w_m3 5 rfl rfl
set_option maxRecDepth 20000 in
theorem w_3_6 : Cond.code y_M_add prog_11_method_5_code 2 none ∈ w_g := w_m3 6 rfl rfl
set_option maxRecDepth 20000 in
theorem w_3_7 : Cond.methodLink "DecisionLayersModel" 96 y_M_fold ∈ w_g := w_m3 7 rfl rfl
set_option maxRecDepth 20000 in
theorem w_3_8 : Cond.static y_M_fold ∈ w_g := w_m3 8 rfl rfl
set_option maxRecDepth 20000 in
theorem w_3_9 : Cond.code y_M_fold prog_11_method_4_code 2 (Option.some FieldType.int) ∈ w_g := w_m3 9 rfl rfl
set_option maxRecDepth 20000 in
theorem w_3_10 : Cond.methodLink "DecisionLayersLaw" 19 y_M_test ∈ w_g := w_m3 10 rfl rfl
set_option maxRecDepth 20000 in
theorem w_3_11 : Cond.instanceMethod y_M_test ∈ w_g := w_m3 11 rfl rfl
set_option maxRecDepth 20000 in
theorem w_3_12 : Cond.selects "DecisionLayersModel" y_M_test y_M_test ∈ w_g := w_m3 12 rfl rfl
set_option maxRecDepth 20000 in
theorem w_3_13 : Cond.code y_M_test prog_11_method_10_code 6 (Option.some FieldType.int) ∈ w_g := w_m3 13 rfl rfl
set_option maxRecDepth 20000 in
theorem w_3_14 : Cond.methodLink "DecisionLayersModel" 106 y_M_within ∈ w_g := w_m3 14 rfl rfl
set_option maxRecDepth 20000 in
theorem w_3_15 : Cond.static y_M_within ∈ w_g := w_m3 15 rfl rfl
set_option maxRecDepth 20000 in
theorem w_3_16 : Cond.code y_M_within prog_11_method_8_code 2 (Option.some FieldType.boolean) ∈ w_g := w_m3 16 rfl rfl
set_option maxRecDepth 20000 in
theorem w_3_17 : Cond.methodLink "DecisionLayersModel" 110 y_M_put ∈ w_g := w_m3 17 rfl rfl
set_option maxRecDepth 20000 in
theorem w_3_19 : Cond.instanceMethod y_M_put ∈ w_g := w_m3 19 rfl rfl
set_option maxRecDepth 20000 in
theorem w_3_20 : Cond.code y_M_put prog_11_method_9_code 1 (Option.some FieldType.int) ∈ w_g := w_m3 20 rfl rfl
set_option maxRecDepth 20000 in
theorem w_3_21 : Cond.methodLink "DecisionLayersLaw" 24 y_M_join ∈ w_g := w_m3 21 rfl rfl
set_option maxRecDepth 20000 in
theorem w_3_22 : Cond.instanceMethod y_M_join ∈ w_g := w_m3 22 rfl rfl
set_option maxRecDepth 20000 in
theorem w_3_23 : Cond.selects "DecisionLayersModel" y_M_join y_M_join ∈ w_g := w_m3 23 rfl rfl
set_option maxRecDepth 20000 in
theorem w_3_24 : Cond.code y_M_join prog_11_method_11_code 5 (Option.some FieldType.int) ∈ w_g := w_m3 24 rfl rfl
set_option maxRecDepth 20000 in
theorem w_3_25 : Cond.methodLink "DecisionLayersLaw" 29 y_M_discard ∈ w_g := w_m3 25 rfl rfl
set_option maxRecDepth 20000 in
theorem w_3_26 : Cond.instanceMethod y_M_discard ∈ w_g := w_m3 26 rfl rfl
set_option maxRecDepth 20000 in
theorem w_3_27 : Cond.selects "DecisionLayersModel" y_M_discard y_M_discard ∈ w_g := w_m3 27 rfl rfl
set_option maxRecDepth 20000 in
theorem w_3_28 : Cond.code y_M_discard prog_11_method_12_code 1 (Option.some FieldType.boolean) ∈ w_g := w_m3 28 rfl rfl
set_option maxRecDepth 20000 in
theorem w_3_29 : Cond.methodLink "DecisionLayersLaw" 34 y_M_pile ∈ w_g := w_m3 29 rfl rfl
set_option maxRecDepth 20000 in
theorem w_3_30 : Cond.instanceMethod y_M_pile ∈ w_g := w_m3 30 rfl rfl
set_option maxRecDepth 20000 in
theorem w_3_31 : Cond.selects "DecisionLayersModel" y_M_pile y_M_pile ∈ w_g := w_m3 31 rfl rfl
set_option maxRecDepth 20000 in
theorem w_3_32 : Cond.code y_M_pile prog_11_method_13_code 1 (Option.some FieldType.int) ∈ w_g := w_m3 32 rfl rfl
set_option maxRecDepth 20000 in
theorem w_3_33 : Cond.methodLink "DecisionLayersLaw" 83 y_M_holds ∈ w_g := w_m3 33 rfl rfl
set_option maxRecDepth 20000 in
theorem w_3_34 : Cond.instanceMethod y_M_holds ∈ w_g := w_m3 34 rfl rfl
set_option maxRecDepth 20000 in
theorem w_3_35 : Cond.selects "DecisionLayersModel" y_M_holds y_M_holds ∈ w_g := w_m3 35 rfl rfl
set_option maxRecDepth 20000 in
theorem w_3_36 : Cond.code y_M_holds prog_11_method_19_code 2 (Option.some FieldType.boolean) ∈ w_g := w_m3 36 rfl rfl
set_option maxRecDepth 20000 in
theorem w_3_37 : Cond.methodLink "DecisionLayersModel" 135 y_M_settle ∈ w_g := w_m3 37 rfl rfl
set_option maxRecDepth 20000 in
theorem w_3_39 : Cond.instanceMethod y_M_settle ∈ w_g := w_m3 39 rfl rfl
set_option maxRecDepth 20000 in
theorem w_3_40 : Cond.code y_M_settle prog_11_method_18_code 3 none ∈ w_g := w_m3 40 rfl rfl
set_option maxRecDepth 20000 in
theorem w_3_41 : Cond.methodLink "DecisionLayersModel" 131 y_M_tested ∈ w_g := w_m3 41 rfl rfl
set_option maxRecDepth 20000 in
theorem w_3_43 : Cond.instanceMethod y_M_tested ∈ w_g := w_m3 43 rfl rfl
set_option maxRecDepth 20000 in
theorem w_3_44 : Cond.code y_M_tested prog_11_method_17_code 8 (Option.some FieldType.boolean) ∈ w_g := w_m3 44 rfl rfl
set_option maxRecDepth 20000 in
theorem w_3_45 : Cond.methodLink "DecisionLayersModel" 127 y_M_answers ∈ w_g := w_m3 45 rfl rfl
set_option maxRecDepth 20000 in
theorem w_3_47 : Cond.instanceMethod y_M_answers ∈ w_g := w_m3 47 rfl rfl
set_option maxRecDepth 20000 in
theorem w_3_48 : Cond.code y_M_answers prog_11_method_16_code 6 (Option.some FieldType.boolean) ∈ w_g := w_m3 48 rfl rfl
set_option maxRecDepth 20000 in
theorem w_3_49 : Cond.methodLink "DecisionLayersModel" 116 y_M_sameText ∈ w_g := w_m3 49 rfl rfl
set_option maxRecDepth 20000 in
theorem w_3_50 : Cond.static y_M_sameText ∈ w_g := w_m3 50 rfl rfl
set_option maxRecDepth 20000 in
theorem w_3_51 : Cond.code y_M_sameText prog_11_method_14_code 6 (Option.some FieldType.boolean) ∈ w_g := w_m3 51 rfl rfl
set_option maxRecDepth 20000 in
theorem w_3_52 : Cond.methodLink "DecisionLayersModel" 120 y_M_matches ∈ w_g := w_m3 52 rfl rfl
set_option maxRecDepth 20000 in
theorem w_3_53 : Cond.methodLink "DecisionLayersModel" 124 y_M_sameBits ∈ w_g := w_m3 53 rfl rfl
set_option maxRecDepth 20000 in
theorem w_3_54 : Cond.static y_M_sameBits ∈ w_g := w_m3 54 rfl rfl
set_option maxRecDepth 20000 in
theorem w_3_55 : Cond.code y_M_sameBits prog_11_method_15_code 7 (Option.some FieldType.boolean) ∈ w_g := w_m3 55 rfl rfl
set_option maxRecDepth 20000 in
theorem w_3_56 : Cond.constantLong "DecisionLayersModel" 114 (63 : Int64) ∈ w_g := w_m3 56 rfl rfl
set_option maxRecDepth 20000 in
theorem w_3_57 : Cond.methodLink "DecisionLayersLaw" 39 y_M_state ∈ w_g := w_m3 57 rfl rfl
set_option maxRecDepth 20000 in
theorem w_3_58 : Cond.instanceMethod y_M_state ∈ w_g := w_m3 58 rfl rfl
set_option maxRecDepth 20000 in
theorem w_3_59 : Cond.selects "DecisionLayersModel" y_M_state y_M_state ∈ w_g := w_m3 59 rfl rfl
set_option maxRecDepth 20000 in
theorem w_3_60 : Cond.code y_M_state prog_11_method_20_code 10 (Option.some FieldType.int) ∈ w_g := w_m3 60 rfl rfl
set_option maxRecDepth 20000 in
theorem w_3_61 : Cond.methodLink "DecisionLayersLaw" 44 y_M_open ∈ w_g := w_m3 61 rfl rfl
set_option maxRecDepth 20000 in
theorem w_3_62 : Cond.instanceMethod y_M_open ∈ w_g := w_m3 62 rfl rfl
set_option maxRecDepth 20000 in
theorem w_3_63 : Cond.selects "DecisionLayersModel" y_M_open y_M_open ∈ w_g := w_m3 63 rfl rfl
set_option maxRecDepth 20000 in
theorem w_3_64 : Cond.code y_M_open prog_11_method_21_code 2 (Option.some FieldType.boolean) ∈ w_g := w_m3 64 rfl rfl
set_option maxRecDepth 20000 in
theorem w_3_65 : Cond.methodLink "DecisionLayersLaw" 48 y_M_drop ∈ w_g := w_m3 65 rfl rfl
set_option maxRecDepth 20000 in
theorem w_3_66 : Cond.instanceMethod y_M_drop ∈ w_g := w_m3 66 rfl rfl
set_option maxRecDepth 20000 in
theorem w_3_67 : Cond.selects "DecisionLayersModel" y_M_drop y_M_drop ∈ w_g := w_m3 67 rfl rfl
set_option maxRecDepth 20000 in
theorem w_3_68 : Cond.code y_M_drop prog_11_method_22_code 2 (Option.some FieldType.boolean) ∈ w_g := w_m3 68 rfl rfl
set_option maxRecDepth 20000 in
theorem w_3_69 : Cond.methodLink "DecisionLayersLaw" 53 y_M_statements ∈ w_g := w_m3 69 rfl rfl
set_option maxRecDepth 20000 in
theorem w_3_70 : Cond.instanceMethod y_M_statements ∈ w_g := w_m3 70 rfl rfl
set_option maxRecDepth 20000 in
theorem w_3_71 : Cond.selects "DecisionLayersModel" y_M_statements y_M_statements ∈ w_g := w_m3 71 rfl rfl
set_option maxRecDepth 20000 in
theorem w_3_72 : Cond.code y_M_statements prog_11_method_23_code 2 (Option.some FieldType.int) ∈ w_g := w_m3 72 rfl rfl
set_option maxRecDepth 20000 in
theorem w_3_73 : Cond.methodLink "DecisionLayersLaw" 58 y_M_offer ∈ w_g := w_m3 73 rfl rfl
set_option maxRecDepth 20000 in
theorem w_3_74 : Cond.instanceMethod y_M_offer ∈ w_g := w_m3 74 rfl rfl
set_option maxRecDepth 20000 in
theorem w_3_75 : Cond.selects "DecisionLayersModel" y_M_offer y_M_offer ∈ w_g := w_m3 75 rfl rfl
set_option maxRecDepth 20000 in
theorem w_3_76 : Cond.code y_M_offer prog_11_method_24_code 4 (Option.some FieldType.int) ∈ w_g := w_m3 76 rfl rfl
set_option maxRecDepth 20000 in
theorem w_3_77 : Cond.methodLink "DecisionLayersLaw" 62 y_M_forget ∈ w_g := w_m3 77 rfl rfl
set_option maxRecDepth 20000 in
theorem w_3_78 : Cond.instanceMethod y_M_forget ∈ w_g := w_m3 78 rfl rfl
set_option maxRecDepth 20000 in
theorem w_3_79 : Cond.selects "DecisionLayersModel" y_M_forget y_M_forget ∈ w_g := w_m3 79 rfl rfl
set_option maxRecDepth 20000 in
theorem w_3_80 : Cond.code y_M_forget prog_11_method_25_code 3 (Option.some FieldType.int) ∈ w_g := w_m3 80 rfl rfl
set_option maxRecDepth 20000 in
theorem w_3_81 : Cond.methodLink "DecisionLayersLaw" 66 y_M_decide ∈ w_g := w_m3 81 rfl rfl
set_option maxRecDepth 20000 in
theorem w_3_82 : Cond.instanceMethod y_M_decide ∈ w_g := w_m3 82 rfl rfl
set_option maxRecDepth 20000 in
theorem w_3_83 : Cond.selects "DecisionLayersModel" y_M_decide y_M_decide ∈ w_g := w_m3 83 rfl rfl
set_option maxRecDepth 20000 in
theorem w_3_84 : Cond.code y_M_decide prog_11_method_29_code 11 (Option.some FieldType.int) ∈ w_g := w_m3 84 rfl rfl
set_option maxRecDepth 20000 in
theorem w_3_85 : Cond.methodLink "DecisionLayersModel" 138 y_M_does ∈ w_g := w_m3 85 rfl rfl
set_option maxRecDepth 20000 in
theorem w_3_87 : Cond.instanceMethod y_M_does ∈ w_g := w_m3 87 rfl rfl
set_option maxRecDepth 20000 in
theorem w_3_88 : Cond.code y_M_does prog_11_method_26_code 11 (Option.some FieldType.boolean) ∈ w_g := w_m3 88 rfl rfl
set_option maxRecDepth 20000 in
theorem w_3_89 : Cond.methodLink "DecisionLayersModel" 142 y_M_some ∈ w_g := w_m3 89 rfl rfl
set_option maxRecDepth 20000 in
theorem w_3_91 : Cond.instanceMethod y_M_some ∈ w_g := w_m3 91 rfl rfl
set_option maxRecDepth 20000 in
theorem w_3_92 : Cond.code y_M_some prog_11_method_27_code 8 (Option.some FieldType.boolean) ∈ w_g := w_m3 92 rfl rfl
set_option maxRecDepth 20000 in
theorem w_3_93 : Cond.methodLink "DecisionLayersModel" 146 y_M_answer ∈ w_g := w_m3 93 rfl rfl
set_option maxRecDepth 20000 in
theorem w_3_95 : Cond.instanceMethod y_M_answer ∈ w_g := w_m3 95 rfl rfl
set_option maxRecDepth 20000 in
theorem w_3_96 : Cond.code y_M_answer prog_11_method_28_code 3 (Option.some FieldType.int) ∈ w_g := w_m3 96 rfl rfl
set_option maxRecDepth 20000 in
theorem w_3_97 : Cond.methodLink "DecisionLayersLaw" 70 y_M_layer ∈ w_g := w_m3 97 rfl rfl
set_option maxRecDepth 20000 in
theorem w_3_98 : Cond.instanceMethod y_M_layer ∈ w_g := w_m3 98 rfl rfl
set_option maxRecDepth 20000 in
theorem w_3_99 : Cond.selects "DecisionLayersModel" y_M_layer y_M_layer ∈ w_g := w_m3 99 rfl rfl
set_option maxRecDepth 20000 in
theorem w_3_100 : Cond.code y_M_layer prog_11_method_30_code 1 (Option.some FieldType.int) ∈ w_g := w_m3 100 rfl rfl
set_option maxRecDepth 20000 in
theorem w_3_101 : Cond.methodLink "DecisionLayersLaw" 74 y_M_applied ∈ w_g := w_m3 101 rfl rfl
set_option maxRecDepth 20000 in
theorem w_3_102 : Cond.instanceMethod y_M_applied ∈ w_g := w_m3 102 rfl rfl
set_option maxRecDepth 20000 in
theorem w_3_103 : Cond.selects "DecisionLayersModel" y_M_applied y_M_applied ∈ w_g := w_m3 103 rfl rfl
set_option maxRecDepth 20000 in
theorem w_3_104 : Cond.code y_M_applied prog_11_method_31_code 2 (Option.some FieldType.int) ∈ w_g := w_m3 104 rfl rfl
set_option maxRecDepth 20000 in
theorem w_3_105 : Cond.constantLong "DecisionLayersLaw" 13 (4294967295 : Int64) ∈ w_g := w_m3 105 rfl rfl
set_option maxRecDepth 20000 in
theorem w_0_0 : Cond.selects "DecisionLayers" y_DL_push y_DL_push ∈ w_g := w_m0 0 rfl rfl
set_option maxRecDepth 20000 in
theorem w_0_1 : Cond.selects "DecisionLayers" y_DL_greatestDepthOfTopmost y_DL_greatestDepthOfTopmost ∈ w_g := w_m0 1 rfl rfl
set_option maxRecDepth 20000 in
theorem w_0_2 : Cond.selects "DecisionLayers" y_DL_pop y_DL_pop ∈ w_g := w_m0 2 rfl rfl
set_option maxRecDepth 20000 in
theorem w_0_3 : Cond.selects "DecisionLayers$Statement" y_Statement_means y_Statement_means ∈ w_g := w_m0 3 rfl rfl
set_option maxRecDepth 20000 in
theorem w_0_4 : Cond.selects "DecisionLayers$Test" y_Test_saysYes y_Test_saysYes ∈ w_g := w_m0 4 rfl rfl
set_option maxRecDepth 20000 in
theorem w_0_5 : Cond.selects "DecisionLayers$Test" y_Test_hasPrefix y_Test_hasPrefix ∈ w_g := w_m0 5 rfl rfl
set_option maxRecDepth 20000 in
theorem w_0_6 : Cond.selects "DecisionLayers" y_DL_conclude y_DL_conclude ∈ w_g := w_m0 6 rfl rfl
set_option maxRecDepth 20000 in
theorem w_0_7 : Cond.selects "DecisionLayers$Layer" y_Layer_hasJudged y_Layer_hasJudged ∈ w_g := w_m0 7 rfl rfl
set_option maxRecDepth 20000 in
theorem w_0_8 : Cond.selects "DecisionLayers$Layer" y_Layer_isJudged y_Layer_isJudged ∈ w_g := w_m0 8 rfl rfl
set_option maxRecDepth 20000 in
theorem w_0_9 : Cond.selects "DecisionLayers" y_DL_settle y_DL_settle ∈ w_g := w_m0 9 rfl rfl
set_option maxRecDepth 20000 in
theorem w_0_10 : Cond.selects "DecisionLayers" y_DL_concludeFromGrants y_DL_concludeFromGrants ∈ w_g := w_m0 10 rfl rfl
set_option maxRecDepth 20000 in
theorem w_0_11 : Cond.selects "DecisionLayersModel" y_M_meant y_M_meant ∈ w_g := w_m0 11 rfl rfl
set_option maxRecDepth 20000 in
theorem w_0_12 : Cond.selects "DecisionLayersModel" y_M_add y_M_add ∈ w_g := w_m0 12 rfl rfl
set_option maxRecDepth 20000 in
theorem w_0_13 : Cond.selects "DecisionLayersModel" y_M_put y_M_put ∈ w_g := w_m0 13 rfl rfl
set_option maxRecDepth 20000 in
theorem w_0_14 : Cond.selects "DecisionLayersModel" y_M_settle y_M_settle ∈ w_g := w_m0 14 rfl rfl
set_option maxRecDepth 20000 in
theorem w_0_15 : Cond.selects "DecisionLayersModel" y_M_tested y_M_tested ∈ w_g := w_m0 15 rfl rfl
set_option maxRecDepth 20000 in
theorem w_0_16 : Cond.selects "DecisionLayersModel" y_M_answers y_M_answers ∈ w_g := w_m0 16 rfl rfl
set_option maxRecDepth 20000 in
theorem w_0_17 : Cond.selects "DecisionLayersModel" y_M_does y_M_does ∈ w_g := w_m0 17 rfl rfl
set_option maxRecDepth 20000 in
theorem w_0_18 : Cond.selects "DecisionLayersModel" y_M_some y_M_some ∈ w_g := w_m0 18 rfl rfl
set_option maxRecDepth 20000 in
theorem w_0_19 : Cond.selects "DecisionLayersModel" y_M_answer y_M_answer ∈ w_g := w_m0 19 rfl rfl
set_option maxRecDepth 20000 in
theorem in_Values : ∀ w ∈ u_ws "DecisionLayers$Values" F_Values 2, w ∈ w_g := by decide +kernel
set_option maxRecDepth 20000 in
theorem in_Layer : ∀ w ∈ u_ws "DecisionLayers$Layer" F_Layer 4, w ∈ w_g := by decide +kernel
set_option maxRecDepth 20000 in
theorem in_Statement : ∀ w ∈ u_ws "DecisionLayers$Statement" F_Statement 5, w ∈ w_g := by decide +kernel
set_option maxRecDepth 20000 in
theorem in_Test : ∀ w ∈ u_ws "DecisionLayers$Test" F_Test 5, w ∈ w_g := by decide +kernel
set_option maxRecDepth 20000 in
theorem in_Joined : ∀ w ∈ u_ws "DecisionLayers$Joined" F_Joined 3, w ∈ w_g := by decide +kernel
set_option maxRecDepth 20000 in
theorem in_DL : ∀ w ∈ u_ws "DecisionLayers" F_DL 5, w ∈ w_g := by decide +kernel
set_option maxRecDepth 20000 in
theorem in_M : ∀ w ∈ u_ws "DecisionLayersModel" F_M 24, w ∈ w_g := by decide +kernel
end
section
/-! the document's words as mathematics: booleans, texts, patterns. Both programs are tied to these values. -/
/-- a boolean as the machine holds it -/
def bI (b : Bool) : Int32 := if b then 1 else 0
theorem bI_t : bI true = 1 := rfl
theorem bI_f : bI false = 0 := rfl
theorem bI_0 {b : Bool} : bI b = 0 ↔ b = false := by cases b <;> decide
theorem bI_n0 {b : Bool} : ¬ bI b = 0 ↔ b = true := by cases b <;> decide
theorem bI_1 {b : Bool} : bI b = 1 ↔ b = true := by cases b <;> decide
theorem bI_n1 {b : Bool} : ¬ bI b = 1 ↔ b = false := by cases b <;> decide
theorem bI_eq {a b : Bool} : bI a = bI b ↔ a = b := by cases a <;> cases b <;> decide
theorem bI_of {P : Prop} [Decidable P] (h : P) : bI (decide P) = 1 := by rw [decide_eq_true h]; rfl
theorem bI_no {P : Prop} [Decidable P] (h : ¬ P) : bI (decide P) = 0 := by rw [decide_eq_false h]; rfl
theorem bI_z (b : Bool) : narrow .boolean (.int (bI b)) = .int (bI b) := by cases b <;> rfl
theorem bI_fit (b : Bool) : fits .boolean (.int (bI b)) = true := by cases b <;> rfl
/-- texts: the word that begins at character k, and the character -/
def tx_w (x : Int64) (k : Nat) : Int64 := (x.toUInt64 >>> (((8 : Int32) * nI k).toInt64.toUInt64 &&& Int64.toUInt64 63)).toInt64
def tx_c (x : Int64) (k : Nat) : Int32 := (tx_w x k).toInt32 &&& 255
theorem lN_and255 (w : Int64) : ∃ j : Nat, j < 256 ∧ w &&& 255 = lN j := by
  refine ⟨(w &&& 255).toBitVec.toNat, ?_, ?_⟩
  · rw [Int64.toBitVec_and, BitVec.toNat_and]
    exact Nat.and_lt_two_pow _ (n := 8) (by decide)
  · apply Int64.toBitVec_inj.1
    show (w &&& 255).toBitVec = BitVec.ofNat 64 _
    rw [BitVec.ofNat_toNat, BitVec.setWidth_eq]
theorem tx_z (w : Int64) : (w &&& 255) = 0 ↔ (w.toInt32 &&& 255) = 0 := by
  have h1 : w.toInt32 &&& 255 = (w &&& 255).toInt32 := by rw [Int64.toInt32_and]; rfl
  rw [h1]
  obtain ⟨j, hj, e⟩ := lN_and255 w
  rw [e, lN_i]
  constructor
  · intro h
    have : lN j = lN 0 := h
    rw [(lN_eq (by omega) (by omega)).mp this]
    rfl
  · intro h
    have : nI j = nI 0 := h
    rw [(nI_eq (by omega) (by omega)).mp this]
    rfl
theorem tx_c_lt (x : Int64) (k : Nat) : ∃ j : Nat, j < 256 ∧ tx_c x k = nI j := pk_andE (tx_w x k).toInt32 8 (by decide)
def tx_f (x : Int64) : Nat → Nat → Nat
  | 0, k => k
  | f + 1, k => if tx_c x k = 0 then k else tx_f x f (k + 1)
/-- a text's length -/
def tx_n (x : Int64) : Nat := tx_f x 8 0
theorem tx_f_spec (x : Int64) : ∀ f k, k ≤ tx_f x f k ∧ tx_f x f k ≤ k + f ∧ (∀ j, k ≤ j → j < tx_f x f k → tx_c x j ≠ 0) ∧ (tx_f x f k < k + f → tx_c x (tx_f x f k) = 0) := by
  intro f
  induction f with
  | zero => intro k; exact ⟨Nat.le_refl _, Nat.le_refl _, fun j h1 h2 => absurd h1 (Nat.not_le.mpr h2), fun h => absurd h (Nat.lt_irrefl _)⟩
  | succ f ih =>
    intro k
    unfold tx_f
    by_cases h : tx_c x k = 0
    · rw [if_pos h]
      exact ⟨Nat.le_refl _, Nat.le_add_right _ _, fun j h1 h2 => absurd h1 (Nat.not_le.mpr h2), fun _ => h⟩
    · rw [if_neg h]
      obtain ⟨a, b, c, d⟩ := ih (k + 1)
      refine ⟨by omega, by omega, fun j h1 h2 => ?_, fun h3 => d (by omega)⟩
      by_cases hj : j = k
      · rw [hj]; exact h
      · exact c j (by omega) h2
theorem tx_le (x : Int64) : tx_n x ≤ 8 := by have := (tx_f_spec x 8 0).2.1; unfold tx_n; omega
theorem tx_nz {x : Int64} {j : Nat} (h : j < tx_n x) : tx_c x j ≠ 0 := (tx_f_spec x 8 0).2.2.1 j (Nat.zero_le _) h
theorem tx_at {x : Int64} (h : tx_n x < 8) : tx_c x (tx_n x) = 0 := (tx_f_spec x 8 0).2.2.2 (by unfold tx_n at h; omega)
theorem tx_is {x : Int64} {k : Nat} (h8 : k ≤ 8) (h : ∀ j, j < k → tx_c x j ≠ 0) (he : k = 8 ∨ tx_c x k = 0) : tx_n x = k := by
  rcases Nat.lt_trichotomy (tx_n x) k with h1 | h1 | h1
  · exact absurd (tx_at (by omega)) (h _ h1)
  · exact h1
  · rcases he with h2 | h2
    · have := tx_le x; omega
    · exact absurd h2 (tx_nz h1)
/-- equal texts -/
def tx_same (a b : Int64) : Bool := decide (tx_n a = tx_n b ∧ ∀ j, j < tx_n a → tx_c a j = tx_c b j)
/-- a letter, where capitals don't count -/
def tx_lo (c : Int32) (lo : Bool) : Int32 := if lo = true ∧ 65 ≤ c ∧ c ≤ 90 then c + 32 else c
theorem tx_lo_f (c : Int32) : tx_lo c false = c := by simp [tx_lo]
theorem tx_lo_y {c : Int32} (h1 : 65 ≤ c) (h2 : c ≤ 90) : tx_lo c true = c + 32 := by simp [tx_lo, h1, h2]
theorem tx_lo_n1 {c : Int32} (h1 : ¬ 65 ≤ c) : tx_lo c true = c := by simp [tx_lo, h1]
theorem tx_lo_n2 {c : Int32} (h1 : ¬ c ≤ 90) : tx_lo c true = c := by simp [tx_lo, h1]
/-- one character as a text of its own -/
theorem tx_one : ∀ n : Nat, n < 256 → 0 < n → tx_n (nI n).toInt64 = 1 ∧ tx_c (nI n).toInt64 0 = nI n := by decide +kernel
/-! sets of places, as bits -/
theorem nI_or (a b : Nat) : nI a ||| nI b = nI (a ||| b) := by
  apply Int32.toBitVec_inj.1
  rw [Int32.toBitVec_or]
  show BitVec.ofNat 32 a ||| BitVec.ofNat 32 b = BitVec.ofNat 32 (a ||| b)
  exact (BitVec.ofNat_or).symm
theorem pl_bu : ∀ q : Nat, q < 512 → ∀ i : Nat, i < 9 → (((nI q).toUInt32 >>> ((nI i).toUInt32 &&& Int32.toUInt32 31)).toInt32 &&& 1) = bI (q.testBit i) := by decide +kernel
theorem pl_bs : ∀ q : Nat, q < 512 → ∀ i : Nat, i < 9 → (nI q >>> (nI i &&& 31)) &&& 1 = bI (q.testBit i) := by decide +kernel
theorem pl_s1 : ∀ i : Nat, i < 16 → (1 : Int32) <<< (nI i &&& 31) = nI (2 ^ i) := by decide +kernel
theorem pl_s2 : ∀ i : Nat, i < 16 → (2 : Int32) <<< (nI i &&& 31) = nI (2 ^ (i + 1)) := by decide +kernel
/-- any row of characters: from each place of q that lies under k, all places up to n -/
def pl_s (n q : Nat) : Nat → Nat
  | 0 => 0
  | k + 1 => if q.testBit k then pl_s n q k ||| (2 ^ (n + 1) - 2 ^ k) else pl_s n q k
/-- one character: from each place i of q that lies under k and where P i, the next -/
def pl_c (P : Nat → Bool) (q : Nat) : Nat → Nat
  | 0 => 0
  | k + 1 => if q.testBit k && P k then pl_c P q k ||| 2 ^ (k + 1) else pl_c P q k
theorem pl_c_lt (P : Nat → Bool) (q : Nat) : ∀ k, pl_c P q k < 2 ^ (k + 1) := by
  intro k
  induction k with
  | zero => exact Nat.two_pow_pos _
  | succ k ih =>
    unfold pl_c
    have h2 : pl_c P q k < 2 ^ (k + 1 + 1) := Nat.lt_trans ih (Nat.pow_lt_pow_right (by omega) (by omega))
    by_cases h : (q.testBit k && P k) = true
    · rw [if_pos h]
      exact Nat.or_lt_two_pow h2 (Nat.pow_lt_pow_right (by omega) (by omega))
    · rw [if_neg h]; exact h2
theorem pl_c_lt' {P : Nat → Bool} {q k n : Nat} (h : k ≤ n) : pl_c P q k < 2 ^ (n + 1) := Nat.lt_of_lt_of_le (pl_c_lt P q k) (Nat.pow_le_pow_right (by omega) (by omega))
theorem pl_s_lt {n q : Nat} : ∀ k, pl_s n q k < 2 ^ (n + 1) := by
  intro k
  induction k with
  | zero => exact Nat.two_pow_pos _
  | succ k ih =>
    unfold pl_s
    by_cases h : q.testBit k = true
    · rw [if_pos h]
      exact Nat.or_lt_two_pow ih (by have := Nat.two_pow_pos k; have := Nat.two_pow_pos (n + 1); omega)
    · rw [if_neg h]; exact ih
theorem pl_512 {n q : Nat} (hn : n ≤ 8) (h : q < 2 ^ (n + 1)) : q < 512 := Nat.lt_of_lt_of_le h (Nat.le_trans (Nat.pow_le_pow_right (by omega) (show n + 1 ≤ 9 by omega)) (by decide))
/-- what the class computes for any row, and for any one -/
theorem pl_any : ∀ n : Nat, n < 9 → ∀ q : Nat, q < 512 → q < 2 ^ (n + 1) → (-(nI q &&& -nI q)) &&& (((2 : Int32) <<< (nI n &&& 31)) - 1) = nI (pl_s n q (n + 1)) := by decide +kernel
theorem pl_one : ∀ n : Nat, n < 9 → ∀ q : Nat, q < 512 → q < 2 ^ (n + 1) → (nI q <<< ((1 : Int32) &&& 31)) &&& (((2 : Int32) <<< (nI n &&& 31)) - 1) = nI (pl_c (fun _ => true) q n) := by decide +kernel
/-- the bits from i up to j, one more -/
theorem pl_rg : ∀ i : Nat, i < 9 → ∀ j : Nat, j < 9 → i ≤ j → (2 ^ j - 2 ^ i) ||| 2 ^ j = 2 ^ (j + 1) - 2 ^ i := by decide +kernel
/-! patterns -/
/-- a character of a pattern that isn't the dollar: 256 any row, 257 any one -/
def pt_t (c : Int32) : Int32 := if c = 42 then 256 else if c = 63 then 257 else c
def pt_v (x : Int64) : List Int32 := (List.range (tx_n x)).map (tx_c x)
def pt_e (d : Int32) : Bool := decide (d = 36 ∨ d = 42 ∨ d = 63)
def pt_y (cnt : Nat → Int32) (d : Int32) : Bool := decide (0 ≤ d - 48 ∧ d - 48 ≤ 7 ∧ cnt (d - 48).toNatClampNeg = 1)
/-- what stands behind a dollar means -/
def pt_d (cnt : Nat → Int32) (row : Nat → Int64) (d : Int32) : Option (List Int32) := if pt_e d then some [d] else if pt_y cnt d then some (pt_v (row (4 * (d - 48).toNatClampNeg))) else none
/-- the tokens of a pattern's last r places; none where it means nothing -/
def pt_k (cnt : Nat → Int32) (row : Nat → Int64) (x : Int64) : Nat → Option (List Int32)
  | 0 => some []
  | 1 => if tx_c x (tx_n x - 1) = 36 then none else some [pt_t (tx_c x (tx_n x - 1))]
  | r + 2 => if tx_c x (tx_n x - (r + 2)) = 36 then (pt_d cnt row (tx_c x (tx_n x - (r + 1)))).bind (fun v => (pt_k cnt row x r).map (v ++ ·)) else (pt_k cnt row x (r + 1)).map (pt_t (tx_c x (tx_n x - (r + 2))) :: ·)
theorem pt_k_c {cnt : Nat → Int32} {row : Nat → Int64} {x : Int64} {i r : Nat} (h : i + (r + 1) = tx_n x) (hc : ¬ tx_c x i = 36) : pt_k cnt row x (r + 1) = (pt_k cnt row x r).map (pt_t (tx_c x i) :: ·) := by
  cases r with
  | zero =>
    have e : tx_n x - 1 = i := by omega
    show (if tx_c x (tx_n x - 1) = 36 then none else some [pt_t (tx_c x (tx_n x - 1))]) = _
    rw [e, if_neg hc]; rfl
  | succ r =>
    have e : tx_n x - (r + 2) = i := by omega
    show (if tx_c x (tx_n x - (r + 2)) = 36 then _ else _) = _
    rw [e, if_neg hc]
theorem pt_k_e {cnt : Nat → Int32} {row : Nat → Int64} {x : Int64} {i : Nat} (h : i + 1 = tx_n x) (hc : tx_c x i = 36) : pt_k cnt row x 1 = none := by
  have e : tx_n x - 1 = i := by omega
  show (if tx_c x (tx_n x - 1) = 36 then none else some [pt_t (tx_c x (tx_n x - 1))]) = _
  rw [e, if_pos hc]
theorem pt_k_d {cnt : Nat → Int32} {row : Nat → Int64} {x : Int64} {i r : Nat} (h : i + (r + 2) = tx_n x) (hc : tx_c x i = 36) : pt_k cnt row x (r + 2) = (pt_d cnt row (tx_c x (i + 1))).bind (fun v => (pt_k cnt row x r).map (v ++ ·)) := by
  have e : tx_n x - (r + 2) = i := by omega
  have e2 : tx_n x - (r + 1) = i + 1 := by omega
  show (if tx_c x (tx_n x - (r + 2)) = 36 then (pt_d cnt row (tx_c x (tx_n x - (r + 1)))).bind (fun v => (pt_k cnt row x r).map (v ++ ·)) else _) = _
  rw [e, e2, if_pos hc]
/-- one token read -/
def pt_s (y : Int64) (lo : Bool) (t : Int32) (q : Nat) : Nat := if t = 256 then pl_s (tx_n y) q (tx_n y + 1) else pl_c (fun i => decide (t = 257) || decide (tx_lo t lo = tx_lo (tx_c y i) lo)) q (tx_n y)
def pt_r (y : Int64) (lo : Bool) : List Int32 → Nat → Nat
  | [], q => q
  | t :: ts, q => pt_r y lo ts (pt_s y lo t q)
theorem pt_r_app (y : Int64) (lo : Bool) (a b : List Int32) (q : Nat) : pt_r y lo (a ++ b) q = pt_r y lo b (pt_r y lo a q) := by
  induction a generalizing q with
  | nil => rfl
  | cons t ts ih => exact ih _
theorem pt_s_lt (y : Int64) (lo : Bool) (t : Int32) (q : Nat) : pt_s y lo t q < 2 ^ (tx_n y + 1) := by
  unfold pt_s
  by_cases h : t = 256
  · rw [if_pos h]; exact pl_s_lt _
  · rw [if_neg h]; exact pl_c_lt _ _ _
theorem pt_r_lt (y : Int64) (lo : Bool) (ts : List Int32) {q : Nat} (h : q < 2 ^ (tx_n y + 1)) : pt_r y lo ts q < 2 ^ (tx_n y + 1) := by
  induction ts generalizing q with
  | nil => exact h
  | cons t ts ih => exact ih (pt_s_lt y lo t q)
/-- does the pattern x match the text y -/
def pt_m (cnt : Nat → Int32) (row : Nat → Int64) (x y : Int64) (lo : Bool) : Bool := match pt_k cnt row x (tx_n x) with
  | none => false
  | some ts => (pt_r y lo ts 1).testBit (tx_n y)
end
