section
-- ===== PART A: goes FIRST, ahead of the names: the tables' words, and 'selects' of the private methods out of them =====
/-- a private method of a class that the tables say can be made, by its rows of tables_1 -/
def lw_okq (q : MethodName × Nat) : Prop := (q.1.cls ≠ "java/lang/invoke/MethodHandle" ∧ q.1.cls ≠ "java/lang/invoke/VarHandle") ∧ Cond.instantiable q.1.cls q.2 ∈ tables_1 ∧ Cond.privateMethod q.1 ∈ tables_1 ∧ Cond.instanceMethod q.1 ∈ tables_1
theorem lw_p0 : lw_okq (⟨"DecisionLayers", "push", "(LDecisionLayers$Condition;)I"⟩, 5) := ⟨⟨by decide +kernel, by decide +kernel⟩, List.mem_of_getElem? (i := 13) (by decide +kernel), List.mem_of_getElem? (i := 133) (by decide +kernel), List.mem_of_getElem? (i := 134) (by decide +kernel)⟩
theorem lw_p1 : lw_okq (⟨"DecisionLayers", "greatestDepthOfTopmost", "(I)I"⟩, 5) := ⟨⟨by decide +kernel, by decide +kernel⟩, List.mem_of_getElem? (i := 13) (by decide +kernel), List.mem_of_getElem? (i := 141) (by decide +kernel), List.mem_of_getElem? (i := 142) (by decide +kernel)⟩
theorem lw_p2 : lw_okq (⟨"DecisionLayers", "pop", "()LDecisionLayers$Condition;"⟩, 5) := ⟨⟨by decide +kernel, by decide +kernel⟩, List.mem_of_getElem? (i := 13) (by decide +kernel), List.mem_of_getElem? (i := 148) (by decide +kernel), List.mem_of_getElem? (i := 149) (by decide +kernel)⟩
theorem lw_p3 : lw_okq (⟨"DecisionLayers$Statement", "means", "(I)Z"⟩, 5) := ⟨⟨by decide +kernel, by decide +kernel⟩, List.mem_of_getElem? (i := 46) (by decide +kernel), List.mem_of_getElem? (i := 258) (by decide +kernel), List.mem_of_getElem? (i := 259) (by decide +kernel)⟩
theorem lw_p4 : lw_okq (⟨"DecisionLayers$Test", "saysYes", "(JLDecisionLayers$Values;)Z"⟩, 5) := ⟨⟨by decide +kernel, by decide +kernel⟩, List.mem_of_getElem? (i := 107) (by decide +kernel), List.mem_of_getElem? (i := 307) (by decide +kernel), List.mem_of_getElem? (i := 308) (by decide +kernel)⟩
theorem lw_p5 : lw_okq (⟨"DecisionLayers$Test", "hasPrefix", "(J)Z"⟩, 5) := ⟨⟨by decide +kernel, by decide +kernel⟩, List.mem_of_getElem? (i := 107) (by decide +kernel), List.mem_of_getElem? (i := 317) (by decide +kernel), List.mem_of_getElem? (i := 318) (by decide +kernel)⟩
theorem lw_p6 : lw_okq (⟨"DecisionLayers", "conclude", "(IZ)I"⟩, 5) := ⟨⟨by decide +kernel, by decide +kernel⟩, List.mem_of_getElem? (i := 13) (by decide +kernel), List.mem_of_getElem? (i := 326) (by decide +kernel), List.mem_of_getElem? (i := 327) (by decide +kernel)⟩
theorem lw_p7 : lw_okq (⟨"DecisionLayers$Layer", "hasJudged", "(Z)Z"⟩, 4) := ⟨⟨by decide +kernel, by decide +kernel⟩, List.mem_of_getElem? (i := 39) (by decide +kernel), List.mem_of_getElem? (i := 334) (by decide +kernel), List.mem_of_getElem? (i := 335) (by decide +kernel)⟩
theorem lw_p8 : lw_okq (⟨"DecisionLayers$Layer", "isJudged", "(I)Z"⟩, 4) := ⟨⟨by decide +kernel, by decide +kernel⟩, List.mem_of_getElem? (i := 39) (by decide +kernel), List.mem_of_getElem? (i := 338) (by decide +kernel), List.mem_of_getElem? (i := 339) (by decide +kernel)⟩
theorem lw_p9 : lw_okq (⟨"DecisionLayers", "settle", "(II)I"⟩, 5) := ⟨⟨by decide +kernel, by decide +kernel⟩, List.mem_of_getElem? (i := 13) (by decide +kernel), List.mem_of_getElem? (i := 346) (by decide +kernel), List.mem_of_getElem? (i := 347) (by decide +kernel)⟩
theorem lw_p10 : lw_okq (⟨"DecisionLayers", "concludeFromGrants", "(Z)I"⟩, 5) := ⟨⟨by decide +kernel, by decide +kernel⟩, List.mem_of_getElem? (i := 13) (by decide +kernel), List.mem_of_getElem? (i := 366) (by decide +kernel), List.mem_of_getElem? (i := 367) (by decide +kernel)⟩
theorem lw_p11 : lw_okq (⟨"DecisionLayersModel", "meant", "(J)Z"⟩, 24) := ⟨⟨by decide +kernel, by decide +kernel⟩, List.mem_of_getElem? (i := 389) (by decide +kernel), List.mem_of_getElem? (i := 474) (by decide +kernel), List.mem_of_getElem? (i := 475) (by decide +kernel)⟩
theorem lw_p12 : lw_okq (⟨"DecisionLayersModel", "add", "(I)V"⟩, 24) := ⟨⟨by decide +kernel, by decide +kernel⟩, List.mem_of_getElem? (i := 389) (by decide +kernel), List.mem_of_getElem? (i := 484) (by decide +kernel), List.mem_of_getElem? (i := 485) (by decide +kernel)⟩
theorem lw_p13 : lw_okq (⟨"DecisionLayersModel", "put", "()I"⟩, 24) := ⟨⟨by decide +kernel, by decide +kernel⟩, List.mem_of_getElem? (i := 389) (by decide +kernel), List.mem_of_getElem? (i := 498) (by decide +kernel), List.mem_of_getElem? (i := 499) (by decide +kernel)⟩
theorem lw_p14 : lw_okq (⟨"DecisionLayersModel", "settle", "()V"⟩, 24) := ⟨⟨by decide +kernel, by decide +kernel⟩, List.mem_of_getElem? (i := 389) (by decide +kernel), List.mem_of_getElem? (i := 518) (by decide +kernel), List.mem_of_getElem? (i := 519) (by decide +kernel)⟩
theorem lw_p15 : lw_okq (⟨"DecisionLayersModel", "tested", "(I)Z"⟩, 24) := ⟨⟨by decide +kernel, by decide +kernel⟩, List.mem_of_getElem? (i := 389) (by decide +kernel), List.mem_of_getElem? (i := 522) (by decide +kernel), List.mem_of_getElem? (i := 523) (by decide +kernel)⟩
def lw_privs_1 : List (MethodName × Nat) := [(⟨"DecisionLayers", "push", "(LDecisionLayers$Condition;)I"⟩, 5), (⟨"DecisionLayers", "greatestDepthOfTopmost", "(I)I"⟩, 5), (⟨"DecisionLayers", "pop", "()LDecisionLayers$Condition;"⟩, 5), (⟨"DecisionLayers$Statement", "means", "(I)Z"⟩, 5), (⟨"DecisionLayers$Test", "saysYes", "(JLDecisionLayers$Values;)Z"⟩, 5), (⟨"DecisionLayers$Test", "hasPrefix", "(J)Z"⟩, 5), (⟨"DecisionLayers", "conclude", "(IZ)I"⟩, 5), (⟨"DecisionLayers$Layer", "hasJudged", "(Z)Z"⟩, 4), (⟨"DecisionLayers$Layer", "isJudged", "(I)Z"⟩, 4), (⟨"DecisionLayers", "settle", "(II)I"⟩, 5), (⟨"DecisionLayers", "concludeFromGrants", "(Z)I"⟩, 5), (⟨"DecisionLayersModel", "meant", "(J)Z"⟩, 24), (⟨"DecisionLayersModel", "add", "(I)V"⟩, 24), (⟨"DecisionLayersModel", "put", "()I"⟩, 24), (⟨"DecisionLayersModel", "settle", "()V"⟩, 24), (⟨"DecisionLayersModel", "tested", "(I)Z"⟩, 24)]
theorem lw_r1 : ∀ q ∈ lw_privs_1, lw_okq q := List.forall_mem_cons.mpr ⟨lw_p0, List.forall_mem_cons.mpr ⟨lw_p1, List.forall_mem_cons.mpr ⟨lw_p2, List.forall_mem_cons.mpr ⟨lw_p3, List.forall_mem_cons.mpr ⟨lw_p4, List.forall_mem_cons.mpr ⟨lw_p5, List.forall_mem_cons.mpr ⟨lw_p6, List.forall_mem_cons.mpr ⟨lw_p7, List.forall_mem_cons.mpr ⟨lw_p8, List.forall_mem_cons.mpr ⟨lw_p9, List.forall_mem_cons.mpr ⟨lw_p10, List.forall_mem_cons.mpr ⟨lw_p11, List.forall_mem_cons.mpr ⟨lw_p12, List.forall_mem_cons.mpr ⟨lw_p13, List.forall_mem_cons.mpr ⟨lw_p14, List.forall_mem_cons.mpr ⟨lw_p15, fun _ h => absurd h List.not_mem_nil⟩⟩⟩⟩⟩⟩⟩⟩⟩⟩⟩⟩⟩⟩⟩⟩
theorem lw_p16 : lw_okq (⟨"DecisionLayersModel", "answers", "(IJJ)Z"⟩, 24) := ⟨⟨by decide +kernel, by decide +kernel⟩, List.mem_of_getElem? (i := 389) (by decide +kernel), List.mem_of_getElem? (i := 526) (by decide +kernel), List.mem_of_getElem? (i := 527) (by decide +kernel)⟩
theorem lw_p17 : lw_okq (⟨"DecisionLayersModel", "does", "(IIIJJ)Z"⟩, 24) := ⟨⟨by decide +kernel, by decide +kernel⟩, List.mem_of_getElem? (i := 389) (by decide +kernel), List.mem_of_getElem? (i := 566) (by decide +kernel), List.mem_of_getElem? (i := 567) (by decide +kernel)⟩
theorem lw_p18 : lw_okq (⟨"DecisionLayersModel", "some", "(IZI)Z"⟩, 24) := ⟨⟨by decide +kernel, by decide +kernel⟩, List.mem_of_getElem? (i := 389) (by decide +kernel), List.mem_of_getElem? (i := 570) (by decide +kernel), List.mem_of_getElem? (i := 571) (by decide +kernel)⟩
theorem lw_p19 : lw_okq (⟨"DecisionLayersModel", "answer", "(II)I"⟩, 24) := ⟨⟨by decide +kernel, by decide +kernel⟩, List.mem_of_getElem? (i := 389) (by decide +kernel), List.mem_of_getElem? (i := 574) (by decide +kernel), List.mem_of_getElem? (i := 575) (by decide +kernel)⟩
def lw_privs_2 : List (MethodName × Nat) := [(⟨"DecisionLayersModel", "answers", "(IJJ)Z"⟩, 24), (⟨"DecisionLayersModel", "does", "(IIIJJ)Z"⟩, 24), (⟨"DecisionLayersModel", "some", "(IZI)Z"⟩, 24), (⟨"DecisionLayersModel", "answer", "(II)I"⟩, 24)]
theorem lw_r2 : ∀ q ∈ lw_privs_2, lw_okq q := List.forall_mem_cons.mpr ⟨lw_p16, List.forall_mem_cons.mpr ⟨lw_p17, List.forall_mem_cons.mpr ⟨lw_p18, List.forall_mem_cons.mpr ⟨lw_p19, fun _ h => absurd h List.not_mem_nil⟩⟩⟩⟩
def lw_privs : List (MethodName × Nat) := lw_privs_1 ++ (lw_privs_2)
def lw_tbl : List Cond := k2_sels lw_privs ++ tables_1
theorem lw_privs_ok : ∀ q ∈ lw_privs, lw_okq q := by
  show ∀ q ∈ lw_privs_1 ++ (lw_privs_2), lw_okq q
  exact List.forall_mem_append.mpr ⟨lw_r1, lw_r2⟩
end
section
/-! names: methods, their bytes; the classes whose objects the worlds hold, their fields; the words of the tables -/
abbrev y_Condition_init : MethodName := ⟨"DecisionLayers$Condition", "<init>", "(I)V"⟩
abbrev b_Condition_init : ByteArray := prog_2_method_1_code
abbrev y_Condition_isMet : MethodName := ⟨"DecisionLayers$Condition", "isMet", "(LDecisionLayers$Values;)Z"⟩
abbrev y_DL_applied : MethodName := ⟨"DecisionLayers", "applied", "(I)I"⟩
abbrev b_DL_applied : ByteArray := prog_1_method_14_code
abbrev y_DL_conclude : MethodName := ⟨"DecisionLayers", "conclude", "(IZ)I"⟩
abbrev b_DL_conclude : ByteArray := prog_1_method_23_code
abbrev y_DL_concludeFromGrants : MethodName := ⟨"DecisionLayers", "concludeFromGrants", "(Z)I"⟩
abbrev b_DL_concludeFromGrants : ByteArray := prog_1_method_24_code
abbrev y_DL_decide : MethodName := ⟨"DecisionLayers", "decide", "(IIJJI)I"⟩
abbrev b_DL_decide : ByteArray := prog_1_method_12_code
abbrev y_DL_discard : MethodName := ⟨"DecisionLayers", "discard", "()Z"⟩
abbrev b_DL_discard : ByteArray := prog_1_method_4_code
abbrev y_DL_drop : MethodName := ⟨"DecisionLayers", "drop", "(I)Z"⟩
abbrev b_DL_drop : ByteArray := prog_1_method_8_code
abbrev y_DL_forget : MethodName := ⟨"DecisionLayers", "forget", "(I)I"⟩
abbrev b_DL_forget : ByteArray := prog_1_method_11_code
abbrev y_DL_greatestDepthOfTopmost : MethodName := ⟨"DecisionLayers", "greatestDepthOfTopmost", "(I)I"⟩
abbrev b_DL_greatestDepthOfTopmost : ByteArray := prog_1_method_22_code
abbrev y_DL_holds : MethodName := ⟨"DecisionLayers", "holds", "(I)Z"⟩
abbrev b_DL_holds : ByteArray := prog_1_method_16_code
abbrev y_DL_init : MethodName := ⟨"DecisionLayers", "<init>", "()V"⟩
abbrev b_DL_init : ByteArray := prog_1_method_1_code
abbrev y_DL_isDigit : MethodName := ⟨"DecisionLayers", "isDigit", "(I)Z"⟩
abbrev b_DL_isDigit : ByteArray := prog_1_method_18_code
abbrev y_DL_isLayer : MethodName := ⟨"DecisionLayers", "isLayer", "(I)Z"⟩
abbrev b_DL_isLayer : ByteArray := prog_1_method_17_code
abbrev y_DL_join : MethodName := ⟨"DecisionLayers", "join", "(II)I"⟩
abbrev b_DL_join : ByteArray := prog_1_method_3_code
abbrev y_DL_layer : MethodName := ⟨"DecisionLayers", "layer", "()I"⟩
abbrev b_DL_layer : ByteArray := prog_1_method_13_code
abbrev y_DL_matches : MethodName := ⟨"DecisionLayers", "matches", "(JJZ)Z"⟩
abbrev b_DL_matches : ByteArray := prog_1_method_15_code
abbrev y_DL_mayStandIn : MethodName := ⟨"DecisionLayers", "mayStandIn", "(II)Z"⟩
abbrev b_DL_mayStandIn : ByteArray := prog_1_method_19_code
abbrev y_DL_offer : MethodName := ⟨"DecisionLayers", "offer", "(IJ)I"⟩
abbrev b_DL_offer : ByteArray := prog_1_method_10_code
abbrev y_DL_open : MethodName := ⟨"DecisionLayers", "open", "(I)Z"⟩
abbrev b_DL_open : ByteArray := prog_1_method_7_code
abbrev y_DL_pile : MethodName := ⟨"DecisionLayers", "pile", "()I"⟩
abbrev b_DL_pile : ByteArray := prog_1_method_5_code
abbrev y_DL_pop : MethodName := ⟨"DecisionLayers", "pop", "()LDecisionLayers$Condition;"⟩
abbrev b_DL_pop : ByteArray := prog_1_method_21_code
abbrev y_DL_push : MethodName := ⟨"DecisionLayers", "push", "(LDecisionLayers$Condition;)I"⟩
abbrev b_DL_push : ByteArray := prog_1_method_20_code
abbrev y_DL_settle : MethodName := ⟨"DecisionLayers", "settle", "(II)I"⟩
abbrev b_DL_settle : ByteArray := prog_1_method_25_code
abbrev y_DL_state : MethodName := ⟨"DecisionLayers", "state", "(IIJJI)I"⟩
abbrev b_DL_state : ByteArray := prog_1_method_6_code
abbrev y_DL_statements : MethodName := ⟨"DecisionLayers", "statements", "(I)I"⟩
abbrev b_DL_statements : ByteArray := prog_1_method_9_code
abbrev y_DL_test : MethodName := ⟨"DecisionLayers", "test", "(IIJI)I"⟩
abbrev b_DL_test : ByteArray := prog_1_method_2_code
abbrev y_Joined_init : MethodName := ⟨"DecisionLayers$Joined", "<init>", "(I[LDecisionLayers$Condition;I)V"⟩
abbrev b_Joined_init : ByteArray := prog_3_method_1_code
abbrev y_Joined_isMet : MethodName := ⟨"DecisionLayers$Joined", "isMet", "(LDecisionLayers$Values;)Z"⟩
abbrev b_Joined_isMet : ByteArray := prog_3_method_2_code
abbrev y_Layer_allows : MethodName := ⟨"DecisionLayers$Layer", "allows", "()Z"⟩
abbrev b_Layer_allows : ByteArray := prog_4_method_7_code
abbrev y_Layer_allowsByName : MethodName := ⟨"DecisionLayers$Layer", "allowsByName", "(I)Z"⟩
abbrev b_Layer_allowsByName : ByteArray := prog_4_method_9_code
abbrev y_Layer_append : MethodName := ⟨"DecisionLayers$Layer", "append", "(IJJILDecisionLayers$Condition;)I"⟩
abbrev b_Layer_append : ByteArray := prog_4_method_3_code
abbrev y_Layer_bars : MethodName := ⟨"DecisionLayers$Layer", "bars", "()Z"⟩
abbrev b_Layer_bars : ByteArray := prog_4_method_8_code
abbrev y_Layer_denies : MethodName := ⟨"DecisionLayers$Layer", "denies", "()Z"⟩
abbrev b_Layer_denies : ByteArray := prog_4_method_6_code
abbrev y_Layer_empty : MethodName := ⟨"DecisionLayers$Layer", "empty", "()V"⟩
abbrev b_Layer_empty : ByteArray := prog_4_method_4_code
abbrev y_Layer_hasJudged : MethodName := ⟨"DecisionLayers$Layer", "hasJudged", "(Z)Z"⟩
abbrev b_Layer_hasJudged : ByteArray := prog_4_method_10_code
abbrev y_Layer_init : MethodName := ⟨"DecisionLayers$Layer", "<init>", "()V"⟩
abbrev b_Layer_init : ByteArray := prog_4_method_1_code
abbrev y_Layer_isFull : MethodName := ⟨"DecisionLayers$Layer", "isFull", "()Z"⟩
abbrev b_Layer_isFull : ByteArray := prog_4_method_2_code
abbrev y_Layer_isJudged : MethodName := ⟨"DecisionLayers$Layer", "isJudged", "(I)Z"⟩
abbrev b_Layer_isJudged : ByteArray := prog_4_method_11_code
abbrev y_Layer_judge : MethodName := ⟨"DecisionLayers$Layer", "judge", "(IJJLDecisionLayers$Values;)V"⟩
abbrev b_Layer_judge : ByteArray := prog_4_method_5_code
abbrev y_M_add : MethodName := ⟨"DecisionLayersModel", "add", "(I)V"⟩
abbrev b_M_add : ByteArray := prog_11_method_5_code
abbrev y_M_answer : MethodName := ⟨"DecisionLayersModel", "answer", "(II)I"⟩
abbrev b_M_answer : ByteArray := prog_11_method_28_code
abbrev y_M_answers : MethodName := ⟨"DecisionLayersModel", "answers", "(IJJ)Z"⟩
abbrev b_M_answers : ByteArray := prog_11_method_16_code
abbrev y_M_applied : MethodName := ⟨"DecisionLayersModel", "applied", "(I)I"⟩
abbrev b_M_applied : ByteArray := prog_11_method_31_code
abbrev y_M_charAt : MethodName := ⟨"DecisionLayersModel", "charAt", "(JI)I"⟩
abbrev b_M_charAt : ByteArray := prog_11_method_2_code
abbrev y_M_decide : MethodName := ⟨"DecisionLayersModel", "decide", "(IIJJI)I"⟩
abbrev b_M_decide : ByteArray := prog_11_method_29_code
abbrev y_M_discard : MethodName := ⟨"DecisionLayersModel", "discard", "()Z"⟩
abbrev b_M_discard : ByteArray := prog_11_method_12_code
abbrev y_M_does : MethodName := ⟨"DecisionLayersModel", "does", "(IIIJJ)Z"⟩
abbrev b_M_does : ByteArray := prog_11_method_26_code
abbrev y_M_drop : MethodName := ⟨"DecisionLayersModel", "drop", "(I)Z"⟩
abbrev b_M_drop : ByteArray := prog_11_method_22_code
abbrev y_M_fold : MethodName := ⟨"DecisionLayersModel", "fold", "(IZ)I"⟩
abbrev b_M_fold : ByteArray := prog_11_method_4_code
abbrev y_M_forget : MethodName := ⟨"DecisionLayersModel", "forget", "(I)I"⟩
abbrev b_M_forget : ByteArray := prog_11_method_25_code
abbrev y_M_holds : MethodName := ⟨"DecisionLayersModel", "holds", "(I)Z"⟩
abbrev b_M_holds : ByteArray := prog_11_method_19_code
abbrev y_M_init : MethodName := ⟨"DecisionLayersModel", "<init>", "()V"⟩
abbrev b_M_init : ByteArray := prog_11_method_1_code
abbrev y_M_join : MethodName := ⟨"DecisionLayersModel", "join", "(II)I"⟩
abbrev b_M_join : ByteArray := prog_11_method_11_code
abbrev y_M_layer : MethodName := ⟨"DecisionLayersModel", "layer", "()I"⟩
abbrev b_M_layer : ByteArray := prog_11_method_30_code
abbrev y_M_length : MethodName := ⟨"DecisionLayersModel", "length", "(J)I"⟩
abbrev b_M_length : ByteArray := prog_11_method_3_code
abbrev y_M_matches : MethodName := ⟨"DecisionLayersModel", "matches", "(JJZ)Z"⟩
abbrev b_M_matches : ByteArray := prog_11_method_7_code
abbrev y_M_meant : MethodName := ⟨"DecisionLayersModel", "meant", "(J)Z"⟩
abbrev b_M_meant : ByteArray := prog_11_method_6_code
abbrev y_M_offer : MethodName := ⟨"DecisionLayersModel", "offer", "(IJ)I"⟩
abbrev b_M_offer : ByteArray := prog_11_method_24_code
abbrev y_M_open : MethodName := ⟨"DecisionLayersModel", "open", "(I)Z"⟩
abbrev b_M_open : ByteArray := prog_11_method_21_code
abbrev y_M_pile : MethodName := ⟨"DecisionLayersModel", "pile", "()I"⟩
abbrev b_M_pile : ByteArray := prog_11_method_13_code
abbrev y_M_put : MethodName := ⟨"DecisionLayersModel", "put", "()I"⟩
abbrev b_M_put : ByteArray := prog_11_method_9_code
abbrev y_M_sameBits : MethodName := ⟨"DecisionLayersModel", "sameBits", "(JJ)Z"⟩
abbrev b_M_sameBits : ByteArray := prog_11_method_15_code
abbrev y_M_sameText : MethodName := ⟨"DecisionLayersModel", "sameText", "(JJ)Z"⟩
abbrev b_M_sameText : ByteArray := prog_11_method_14_code
abbrev y_M_settle : MethodName := ⟨"DecisionLayersModel", "settle", "()V"⟩
abbrev b_M_settle : ByteArray := prog_11_method_18_code
abbrev y_M_some : MethodName := ⟨"DecisionLayersModel", "some", "(IZI)Z"⟩
abbrev b_M_some : ByteArray := prog_11_method_27_code
abbrev y_M_state : MethodName := ⟨"DecisionLayersModel", "state", "(IIJJI)I"⟩
abbrev b_M_state : ByteArray := prog_11_method_20_code
abbrev y_M_statements : MethodName := ⟨"DecisionLayersModel", "statements", "(I)I"⟩
abbrev b_M_statements : ByteArray := prog_11_method_23_code
abbrev y_M_test : MethodName := ⟨"DecisionLayersModel", "test", "(IIJI)I"⟩
abbrev b_M_test : ByteArray := prog_11_method_10_code
abbrev y_M_tested : MethodName := ⟨"DecisionLayersModel", "tested", "(I)Z"⟩
abbrev b_M_tested : ByteArray := prog_11_method_17_code
abbrev y_M_within : MethodName := ⟨"DecisionLayersModel", "within", "(II)Z"⟩
abbrev b_M_within : ByteArray := prog_11_method_8_code
abbrev y_Math_max : MethodName := ⟨"java/lang/Math", "max", "(II)I"⟩
abbrev b_Math_max : ByteArray := prog_12_method_65_code
abbrev y_Math_min : MethodName := ⟨"java/lang/Math", "min", "(II)I"⟩
abbrev b_Math_min : ByteArray := prog_12_method_69_code
abbrev y_Pattern_fits : MethodName := ⟨"DecisionLayers$Pattern", "fits", "(JJZLDecisionLayers$Values;)Z"⟩
abbrev b_Pattern_fits : ByteArray := prog_5_method_2_code
abbrev y_Pattern_meaning : MethodName := ⟨"DecisionLayers$Pattern", "meaning", "(ILDecisionLayers$Values;)J"⟩
abbrev b_Pattern_meaning : ByteArray := prog_5_method_4_code
abbrev y_Pattern_meansSomething : MethodName := ⟨"DecisionLayers$Pattern", "meansSomething", "(ILDecisionLayers$Values;)Z"⟩
abbrev b_Pattern_meansSomething : ByteArray := prog_5_method_3_code
abbrev y_Pattern_readAnyOne : MethodName := ⟨"DecisionLayers$Pattern", "readAnyOne", "(IJ)I"⟩
abbrev b_Pattern_readAnyOne : ByteArray := prog_5_method_6_code
abbrev y_Pattern_readAnyRow : MethodName := ⟨"DecisionLayers$Pattern", "readAnyRow", "(IJ)I"⟩
abbrev b_Pattern_readAnyRow : ByteArray := prog_5_method_5_code
abbrev y_Pattern_readText : MethodName := ⟨"DecisionLayers$Pattern", "readText", "(IJJZ)I"⟩
abbrev b_Pattern_readText : ByteArray := prog_5_method_7_code
abbrev y_Statement_become : MethodName := ⟨"DecisionLayers$Statement", "become", "(IJJILDecisionLayers$Condition;)V"⟩
abbrev b_Statement_become : ByteArray := prog_6_method_4_code
abbrev y_Statement_init : MethodName := ⟨"DecisionLayers$Statement", "<init>", "()V"⟩
abbrev b_Statement_init : ByteArray := prog_6_method_1_code
abbrev y_Statement_isDenying : MethodName := ⟨"DecisionLayers$Statement", "isDenying", "()Z"⟩
abbrev b_Statement_isDenying : ByteArray := prog_6_method_5_code
abbrev y_Statement_isWho : MethodName := ⟨"DecisionLayers$Statement", "isWho", "(I)Z"⟩
abbrev b_Statement_isWho : ByteArray := prog_6_method_2_code
abbrev y_Statement_means : MethodName := ⟨"DecisionLayers$Statement", "means", "(I)Z"⟩
abbrev b_Statement_means : ByteArray := prog_6_method_8_code
abbrev y_Statement_names : MethodName := ⟨"DecisionLayers$Statement", "names", "(I)Z"⟩
abbrev b_Statement_names : ByteArray := prog_6_method_6_code
abbrev y_Statement_suits : MethodName := ⟨"DecisionLayers$Statement", "suits", "(IJJLDecisionLayers$Values;)Z"⟩
abbrev b_Statement_suits : ByteArray := prog_6_method_7_code
abbrev y_Statement_whoOfUser : MethodName := ⟨"DecisionLayers$Statement", "whoOfUser", "(II)I"⟩
abbrev b_Statement_whoOfUser : ByteArray := prog_6_method_3_code
abbrev y_Test_hasPrefix : MethodName := ⟨"DecisionLayers$Test", "hasPrefix", "(J)Z"⟩
abbrev b_Test_hasPrefix : ByteArray := prog_7_method_4_code
abbrev y_Test_init : MethodName := ⟨"DecisionLayers$Test", "<init>", "(IIJI)V"⟩
abbrev b_Test_init : ByteArray := prog_7_method_1_code
abbrev y_Test_isMet : MethodName := ⟨"DecisionLayers$Test", "isMet", "(LDecisionLayers$Values;)Z"⟩
abbrev b_Test_isMet : ByteArray := prog_7_method_2_code
abbrev y_Test_saysYes : MethodName := ⟨"DecisionLayers$Test", "saysYes", "(JLDecisionLayers$Values;)Z"⟩
abbrev b_Test_saysYes : ByteArray := prog_7_method_3_code
abbrev y_Text_charAt : MethodName := ⟨"DecisionLayers$Text", "charAt", "(JI)I"⟩
abbrev b_Text_charAt : ByteArray := prog_8_method_2_code
abbrev y_Text_isAlike : MethodName := ⟨"DecisionLayers$Text", "isAlike", "(IIZ)Z"⟩
abbrev b_Text_isAlike : ByteArray := prog_8_method_5_code
abbrev y_Text_isSame : MethodName := ⟨"DecisionLayers$Text", "isSame", "(JJ)Z"⟩
abbrev b_Text_isSame : ByteArray := prog_8_method_4_code
abbrev y_Text_length : MethodName := ⟨"DecisionLayers$Text", "length", "(J)I"⟩
abbrev b_Text_length : ByteArray := prog_8_method_3_code
abbrev y_Values_append : MethodName := ⟨"DecisionLayers$Values", "append", "(IJ)I"⟩
abbrev b_Values_append : ByteArray := prog_9_method_6_code
abbrev y_Values_count : MethodName := ⟨"DecisionLayers$Values", "count", "(I)I"⟩
abbrev b_Values_count : ByteArray := prog_9_method_3_code
abbrev y_Values_empty : MethodName := ⟨"DecisionLayers$Values", "empty", "(I)I"⟩
abbrev b_Values_empty : ByteArray := prog_9_method_7_code
abbrev y_Values_get : MethodName := ⟨"DecisionLayers$Values", "get", "(II)J"⟩
abbrev b_Values_get : ByteArray := prog_9_method_4_code
abbrev y_Values_init : MethodName := ⟨"DecisionLayers$Values", "<init>", "()V"⟩
abbrev b_Values_init : ByteArray := prog_9_method_1_code
abbrev y_Values_isFull : MethodName := ⟨"DecisionLayers$Values", "isFull", "(I)Z"⟩
abbrev b_Values_isFull : ByteArray := prog_9_method_5_code
abbrev y_Values_isKey : MethodName := ⟨"DecisionLayers$Values", "isKey", "(I)Z"⟩
abbrev b_Values_isKey : ByteArray := prog_9_method_2_code
abbrev y_Object_init : MethodName := objectInit
def F_Values : u_T := fun k => match k with
  | 0 => ("DecisionLayers$Values", "row", "[J", true)
  | _ => ("DecisionLayers$Values", "counts", "[I", true)
def t_Values : Nat → FieldType := fun k => match k with
  | 0 => .array .long
  | _ => .array .int
theorem n_Values : ∀ a, a < 2 → ∀ b, b < 2 → a ≠ b → (F_Values a).2.1 ≠ (F_Values b).2.1 := by decide +kernel
theorem t_Values_ok : ∀ k, k < 2 → parseFieldDescriptor (F_Values k).2.2.1 = some (t_Values k) := by decide +kernel
def F_Layer : u_T := fun k => match k with
  | 0 => ("DecisionLayers$Layer", "rows", "[LDecisionLayers$Statement;", true)
  | 1 => ("DecisionLayers$Layer", "count", "I", false)
  | 2 => ("DecisionLayers$Layer", "present", "Z", false)
  | _ => ("DecisionLayers$Layer", "judged", "I", false)
def t_Layer : Nat → FieldType := fun k => match k with
  | 0 => .array (.object "DecisionLayers$Statement")
  | 1 => .int
  | 2 => .boolean
  | _ => .int
theorem n_Layer : ∀ a, a < 4 → ∀ b, b < 4 → a ≠ b → (F_Layer a).2.1 ≠ (F_Layer b).2.1 := by decide +kernel
theorem t_Layer_ok : ∀ k, k < 4 → parseFieldDescriptor (F_Layer k).2.2.1 = some (t_Layer k) := by decide +kernel
def F_Statement : u_T := fun k => match k with
  | 0 => ("DecisionLayers$Statement", "how", "I", false)
  | 1 => ("DecisionLayers$Statement", "actions", "J", false)
  | 2 => ("DecisionLayers$Statement", "things", "J", false)
  | 3 => ("DecisionLayers$Statement", "who", "I", false)
  | _ => ("DecisionLayers$Statement", "condition", "LDecisionLayers$Condition;", false)
def t_Statement : Nat → FieldType := fun k => match k with
  | 0 => .int
  | 1 => .long
  | 2 => .long
  | 3 => .int
  | _ => .object "DecisionLayers$Condition"
theorem n_Statement : ∀ a, a < 5 → ∀ b, b < 5 → a ≠ b → (F_Statement a).2.1 ≠ (F_Statement b).2.1 := by decide +kernel
theorem t_Statement_ok : ∀ k, k < 5 → parseFieldDescriptor (F_Statement k).2.2.1 = some (t_Statement k) := by decide +kernel
def F_Test : u_T := fun k => match k with
  | 0 => ("DecisionLayers$Condition", "depth", "I", true)
  | 1 => ("DecisionLayers$Test", "op", "I", true)
  | 2 => ("DecisionLayers$Test", "key", "I", true)
  | 3 => ("DecisionLayers$Test", "t", "J", true)
  | _ => ("DecisionLayers$Test", "marks", "I", true)
def t_Test : Nat → FieldType := fun k => match k with
  | 0 => .int
  | 1 => .int
  | 2 => .int
  | 3 => .long
  | _ => .int
theorem n_Test : ∀ a, a < 5 → ∀ b, b < 5 → a ≠ b → (F_Test a).2.1 ≠ (F_Test b).2.1 := by decide +kernel
theorem t_Test_ok : ∀ k, k < 5 → parseFieldDescriptor (F_Test k).2.2.1 = some (t_Test k) := by decide +kernel
def F_Joined : u_T := fun k => match k with
  | 0 => ("DecisionLayers$Condition", "depth", "I", true)
  | 1 => ("DecisionLayers$Joined", "kind", "I", true)
  | _ => ("DecisionLayers$Joined", "parts", "[LDecisionLayers$Condition;", true)
def t_Joined : Nat → FieldType := fun k => match k with
  | 0 => .int
  | 1 => .int
  | _ => .array (.object "DecisionLayers$Condition")
theorem n_Joined : ∀ a, a < 3 → ∀ b, b < 3 → a ≠ b → (F_Joined a).2.1 ≠ (F_Joined b).2.1 := by decide +kernel
theorem t_Joined_ok : ∀ k, k < 3 → parseFieldDescriptor (F_Joined k).2.2.1 = some (t_Joined k) := by decide +kernel
def F_DL : u_T := fun k => match k with
  | 0 => ("DecisionLayers", "values", "LDecisionLayers$Values;", true)
  | 1 => ("DecisionLayers", "conditions", "[LDecisionLayers$Condition;", true)
  | 2 => ("DecisionLayers", "layers", "[LDecisionLayers$Layer;", true)
  | 3 => ("DecisionLayers", "piled", "I", false)
  | _ => ("DecisionLayers", "decider", "I", false)
def t_DL : Nat → FieldType := fun k => match k with
  | 0 => .object "DecisionLayers$Values"
  | 1 => .array (.object "DecisionLayers$Condition")
  | 2 => .array (.object "DecisionLayers$Layer")
  | 3 => .int
  | _ => .int
theorem n_DL : ∀ a, a < 5 → ∀ b, b < 5 → a ≠ b → (F_DL a).2.1 ≠ (F_DL b).2.1 := by decide +kernel
theorem t_DL_ok : ∀ k, k < 5 → parseFieldDescriptor (F_DL k).2.2.1 = some (t_DL k) := by decide +kernel
def F_M : u_T := fun k => match k with
  | 0 => ("DecisionLayersModel", "many", "[I", true)
  | 1 => ("DecisionLayersModel", "value", "[J", true)
  | 2 => ("DecisionLayersModel", "made", "I", false)
  | 3 => ("DecisionLayersModel", "kind", "[B", true)
  | 4 => ("DecisionLayersModel", "op", "[B", true)
  | 5 => ("DecisionLayersModel", "key", "[B", true)
  | 6 => ("DecisionLayersModel", "marks", "[B", true)
  | 7 => ("DecisionLayersModel", "depth", "[B", true)
  | 8 => ("DecisionLayersModel", "asked", "[J", true)
  | 9 => ("DecisionLayersModel", "partOf", "[I", true)
  | 10 => ("DecisionLayersModel", "hold", "[Z", true)
  | 11 => ("DecisionLayersModel", "piled", "I", false)
  | 12 => ("DecisionLayersModel", "pile", "[I", true)
  | 13 => ("DecisionLayersModel", "present", "[Z", true)
  | 14 => ("DecisionLayersModel", "count", "[I", true)
  | 15 => ("DecisionLayersModel", "how", "[I", true)
  | 16 => ("DecisionLayersModel", "actions", "[J", true)
  | 17 => ("DecisionLayersModel", "things", "[J", true)
  | 18 => ("DecisionLayersModel", "who", "[I", true)
  | 19 => ("DecisionLayersModel", "condition", "[I", true)
  | 20 => ("DecisionLayersModel", "decided", "I", false)
  | 21 => ("DecisionLayersModel", "applies", "[I", true)
  | 22 => ("DecisionLayersModel", "tokens", "I", false)
  | _ => ("DecisionLayersModel", "token", "[I", true)
def t_M : Nat → FieldType := fun k => match k with
  | 0 => .array .int
  | 1 => .array .long
  | 2 => .int
  | 3 => .array .byte
  | 4 => .array .byte
  | 5 => .array .byte
  | 6 => .array .byte
  | 7 => .array .byte
  | 8 => .array .long
  | 9 => .array .int
  | 10 => .array .boolean
  | 11 => .int
  | 12 => .array .int
  | 13 => .array .boolean
  | 14 => .array .int
  | 15 => .array .int
  | 16 => .array .long
  | 17 => .array .long
  | 18 => .array .int
  | 19 => .array .int
  | 20 => .int
  | 21 => .array .int
  | 22 => .int
  | _ => .array .int
theorem n_M : ∀ a, a < 24 → ∀ b, b < 24 → a ≠ b → (F_M a).2.1 ≠ (F_M b).2.1 := by decide +kernel
theorem t_M_ok : ∀ k, k < 24 → parseFieldDescriptor (F_M k).2.2.1 = some (t_M k) := by decide +kernel
abbrev x_cl : List vw_C := [("DecisionLayers$Values", F_Values, 2), ("DecisionLayers$Layer", F_Layer, 4), ("DecisionLayers$Statement", F_Statement, 5), ("DecisionLayers$Test", F_Test, 5), ("DecisionLayers$Joined", F_Joined, 3), ("DecisionLayers", F_DL, 5), ("DecisionLayersModel", F_M, 24)]
/-- the words that stay when the machine's tables grow warmer -/
def w_g : List Cond := lw_tbl.filter goodWord
theorem w_m1 {w : Cond} (i : Nat) (h : tables_1_1[i]? = some w) (hg : goodWord w = true) : w ∈ w_g := List.mem_filter.mpr ⟨List.mem_append_right _ (List.mem_append_left _ (List.mem_of_getElem? h)), hg⟩
theorem w_m2 {w : Cond} (i : Nat) (h : tables_1_2[i]? = some w) (hg : goodWord w = true) : w ∈ w_g := List.mem_filter.mpr ⟨List.mem_append_right _ (List.mem_append_right _ (List.mem_append_left _ (List.mem_of_getElem? h))), hg⟩
theorem w_m3 {w : Cond} (i : Nat) (h : tables_1_3[i]? = some w) (hg : goodWord w = true) : w ∈ w_g := List.mem_filter.mpr ⟨List.mem_append_right _ (List.mem_append_right _ (List.mem_append_right _ (List.mem_of_getElem? h))), hg⟩
theorem w_m0 {w : Cond} (i : Nat) (h : (k2_sels lw_privs)[i]? = some w) (hg : goodWord w = true) : w ∈ w_g := List.mem_filter.mpr ⟨List.mem_append_left _ (List.mem_of_getElem? h), hg⟩
end
section
/-! the words, each by its place -/
set_option maxRecDepth 20000 in
theorem w_1_0 : Cond.initialized "DecisionLayersLaw" ∈ w_g := w_m1 0 rfl rfl
set_option maxRecDepth 20000 in
theorem w_1_1 : Cond.initialized "DecisionLayers" ∈ w_g := w_m1 1 rfl rfl
set_option maxRecDepth 20000 in
theorem w_1_2 : Cond.initialized "DecisionLayers$Values" ∈ w_g := w_m1 2 rfl rfl
set_option maxRecDepth 20000 in
theorem w_1_3 : Cond.initialized "DecisionLayers$Layer" ∈ w_g := w_m1 3 rfl rfl
set_option maxRecDepth 20000 in
theorem w_1_4 : Cond.initialized "DecisionLayers$Statement" ∈ w_g := w_m1 4 rfl rfl
set_option maxRecDepth 20000 in
theorem w_1_5 : Cond.initialized "DecisionLayersModel" ∈ w_g := w_m1 5 rfl rfl
set_option maxRecDepth 20000 in
theorem w_1_6 : Cond.initialized "DecisionLayers$Condition" ∈ w_g := w_m1 6 rfl rfl
set_option maxRecDepth 20000 in
theorem w_1_7 : Cond.initialized "DecisionLayers$Test" ∈ w_g := w_m1 7 rfl rfl
set_option maxRecDepth 20000 in
theorem w_1_8 : Cond.initialized "java/lang/Math" ∈ w_g := w_m1 8 rfl rfl
set_option maxRecDepth 20000 in
theorem w_1_9 : Cond.initialized "DecisionLayers$Joined" ∈ w_g := w_m1 9 rfl rfl
set_option maxRecDepth 20000 in
theorem w_1_10 : Cond.initialized "DecisionLayers$Pattern" ∈ w_g := w_m1 10 rfl rfl
set_option maxRecDepth 20000 in
theorem w_1_11 : Cond.initialized "DecisionLayers$Text" ∈ w_g := w_m1 11 rfl rfl
set_option maxRecDepth 20000 in
theorem w_1_12 : Cond.classLink "DecisionLayersLaw" 7 "DecisionLayers" ∈ w_g := w_m1 12 rfl rfl
set_option maxRecDepth 20000 in
theorem w_1_13 : Cond.instantiable "DecisionLayers" 5 ∈ w_g := w_m1 13 rfl rfl
set_option maxRecDepth 20000 in
theorem w_1_14 : Cond.methodLink "DecisionLayersLaw" 9 y_DL_init ∈ w_g := w_m1 14 rfl rfl
set_option maxRecDepth 20000 in
theorem w_1_15 : Cond.instanceMethod y_DL_init ∈ w_g := w_m1 15 rfl rfl
set_option maxRecDepth 20000 in
theorem w_1_16 : Cond.code y_DL_init prog_1_method_1_code 2 none ∈ w_g := w_m1 16 rfl rfl
set_option maxRecDepth 20000 in
theorem w_1_17 : Cond.methodLink "DecisionLayers" 1 y_Object_init ∈ w_g := w_m1 17 rfl rfl
set_option maxRecDepth 20000 in
theorem w_1_18 : Cond.instanceMethod y_Object_init ∈ w_g := w_m1 18 rfl rfl
set_option maxRecDepth 20000 in
theorem w_1_19 : Cond.code y_Object_init object_method_1_code 1 none ∈ w_g := w_m1 19 rfl rfl
set_option maxRecDepth 20000 in
theorem w_1_20 : Cond.classLink "DecisionLayers" 7 "DecisionLayers$Values" ∈ w_g := w_m1 20 rfl rfl
set_option maxRecDepth 20000 in
theorem w_1_21 : Cond.instantiable "DecisionLayers$Values" 2 ∈ w_g := w_m1 21 rfl rfl
set_option maxRecDepth 20000 in
theorem w_1_23 : Cond.instanceMethod y_Values_init ∈ w_g := w_m1 23 rfl rfl
set_option maxRecDepth 20000 in
theorem w_1_24 : Cond.code y_Values_init prog_9_method_1_code 1 none ∈ w_g := w_m1 24 rfl rfl
set_option maxRecDepth 20000 in
theorem w_1_25 : Cond.methodLink "DecisionLayers$Values" 1 y_Object_init ∈ w_g := w_m1 25 rfl rfl
set_option maxRecDepth 20000 in
theorem w_1_26 : Cond.fieldLink "DecisionLayers$Values" 9 "DecisionLayers$Values" "row" "[J" ∈ w_g := w_m1 26 rfl rfl
set_option maxRecDepth 20000 in
theorem w_1_27 : Cond.fieldLink "DecisionLayers$Values" 13 "DecisionLayers$Values" "counts" "[I" ∈ w_g := w_m1 27 rfl rfl
set_option maxRecDepth 20000 in
theorem w_1_28 : Cond.laysFinal "DecisionLayers$Values" "DecisionLayers$Values" "row" "[J" ∈ w_g := w_m1 28 rfl rfl
set_option maxRecDepth 20000 in
theorem w_1_30 : Cond.laysFinal "DecisionLayers$Values" "DecisionLayers$Values" "counts" "[I" ∈ w_g := w_m1 30 rfl rfl
set_option maxRecDepth 20000 in
theorem w_1_33 : Cond.arrayClass FieldType.long ∈ w_g := w_m1 33 rfl rfl
set_option maxRecDepth 20000 in
theorem w_1_34 : Cond.arrayClass FieldType.int ∈ w_g := w_m1 34 rfl rfl
set_option maxRecDepth 20000 in
theorem w_1_35 : Cond.classLink "DecisionLayers" 16 "DecisionLayers$Condition" ∈ w_g := w_m1 35 rfl rfl
set_option maxRecDepth 20000 in
theorem w_1_37 : Cond.classLink "DecisionLayers" 22 "DecisionLayers$Layer" ∈ w_g := w_m1 37 rfl rfl
set_option maxRecDepth 20000 in
theorem w_1_39 : Cond.instantiable "DecisionLayers$Layer" 4 ∈ w_g := w_m1 39 rfl rfl
set_option maxRecDepth 20000 in
theorem w_1_40 : Cond.methodLink "DecisionLayers" 28 y_Layer_init ∈ w_g := w_m1 40 rfl rfl
set_option maxRecDepth 20000 in
theorem w_1_41 : Cond.instanceMethod y_Layer_init ∈ w_g := w_m1 41 rfl rfl
set_option maxRecDepth 20000 in
theorem w_1_42 : Cond.code y_Layer_init prog_4_method_1_code 2 none ∈ w_g := w_m1 42 rfl rfl
set_option maxRecDepth 20000 in
theorem w_1_43 : Cond.methodLink "DecisionLayers$Layer" 3 y_Object_init ∈ w_g := w_m1 43 rfl rfl
set_option maxRecDepth 20000 in
theorem w_1_44 : Cond.classLink "DecisionLayers$Layer" 11 "DecisionLayers$Statement" ∈ w_g := w_m1 44 rfl rfl
set_option maxRecDepth 20000 in
theorem w_1_46 : Cond.instantiable "DecisionLayers$Statement" 5 ∈ w_g := w_m1 46 rfl rfl
set_option maxRecDepth 20000 in
theorem w_1_48 : Cond.instanceMethod y_Statement_init ∈ w_g := w_m1 48 rfl rfl
set_option maxRecDepth 20000 in
theorem w_1_49 : Cond.code y_Statement_init prog_6_method_1_code 1 none ∈ w_g := w_m1 49 rfl rfl
set_option maxRecDepth 20000 in
theorem w_1_50 : Cond.methodLink "DecisionLayers$Statement" 1 y_Object_init ∈ w_g := w_m1 50 rfl rfl
set_option maxRecDepth 20000 in
theorem w_1_51 : Cond.fieldLink "DecisionLayers$Statement" 9 "DecisionLayers$Statement" "how" "I" ∈ w_g := w_m1 51 rfl rfl
set_option maxRecDepth 20000 in
theorem w_1_52 : Cond.fieldLink "DecisionLayers$Statement" 13 "DecisionLayers$Statement" "actions" "J" ∈ w_g := w_m1 52 rfl rfl
set_option maxRecDepth 20000 in
theorem w_1_53 : Cond.fieldLink "DecisionLayers$Statement" 17 "DecisionLayers$Statement" "things" "J" ∈ w_g := w_m1 53 rfl rfl
set_option maxRecDepth 20000 in
theorem w_1_54 : Cond.fieldLink "DecisionLayers$Statement" 20 "DecisionLayers$Statement" "who" "I" ∈ w_g := w_m1 54 rfl rfl
set_option maxRecDepth 20000 in
theorem w_1_55 : Cond.fieldLink "DecisionLayers$Statement" 23 "DecisionLayers$Statement" "condition" "LDecisionLayers$Condition;" ∈ w_g := w_m1 55 rfl rfl
set_option maxRecDepth 20000 in
theorem w_1_56 : Cond.lays "DecisionLayers$Statement" "DecisionLayers$Statement" "how" "I" ∈ w_g := w_m1 56 rfl rfl
set_option maxRecDepth 20000 in
theorem w_1_58 : Cond.lays "DecisionLayers$Statement" "DecisionLayers$Statement" "actions" "J" ∈ w_g := w_m1 58 rfl rfl
set_option maxRecDepth 20000 in
theorem w_1_60 : Cond.lays "DecisionLayers$Statement" "DecisionLayers$Statement" "things" "J" ∈ w_g := w_m1 60 rfl rfl
set_option maxRecDepth 20000 in
theorem w_1_62 : Cond.lays "DecisionLayers$Statement" "DecisionLayers$Statement" "who" "I" ∈ w_g := w_m1 62 rfl rfl
set_option maxRecDepth 20000 in
theorem w_1_64 : Cond.lays "DecisionLayers$Statement" "DecisionLayers$Statement" "condition" "LDecisionLayers$Condition;" ∈ w_g := w_m1 64 rfl rfl
set_option maxRecDepth 20000 in
theorem w_1_67 : Cond.fieldLink "DecisionLayers$Layer" 13 "DecisionLayers$Layer" "rows" "[LDecisionLayers$Statement;" ∈ w_g := w_m1 67 rfl rfl
set_option maxRecDepth 20000 in
theorem w_1_68 : Cond.fieldLink "DecisionLayers$Layer" 18 "DecisionLayers$Layer" "count" "I" ∈ w_g := w_m1 68 rfl rfl
set_option maxRecDepth 20000 in
theorem w_1_70 : Cond.fieldLink "DecisionLayers$Layer" 26 "DecisionLayers$Layer" "present" "Z" ∈ w_g := w_m1 70 rfl rfl
set_option maxRecDepth 20000 in
theorem w_1_72 : Cond.fieldLink "DecisionLayers$Layer" 30 "DecisionLayers$Layer" "judged" "I" ∈ w_g := w_m1 72 rfl rfl
set_option maxRecDepth 20000 in
theorem w_1_74 : Cond.laysFinal "DecisionLayers$Layer" "DecisionLayers$Layer" "rows" "[LDecisionLayers$Statement;" ∈ w_g := w_m1 74 rfl rfl
set_option maxRecDepth 20000 in
theorem w_1_76 : Cond.lays "DecisionLayers$Layer" "DecisionLayers$Layer" "count" "I" ∈ w_g := w_m1 76 rfl rfl
set_option maxRecDepth 20000 in
theorem w_1_78 : Cond.lays "DecisionLayers$Layer" "DecisionLayers$Layer" "present" "Z" ∈ w_g := w_m1 78 rfl rfl
set_option maxRecDepth 20000 in
theorem w_1_80 : Cond.lays "DecisionLayers$Layer" "DecisionLayers$Layer" "judged" "I" ∈ w_g := w_m1 80 rfl rfl
set_option maxRecDepth 20000 in
theorem w_1_83 : Cond.fieldLink "DecisionLayers" 10 "DecisionLayers" "values" "LDecisionLayers$Values;" ∈ w_g := w_m1 83 rfl rfl
set_option maxRecDepth 20000 in
theorem w_1_84 : Cond.fieldLink "DecisionLayers" 18 "DecisionLayers" "conditions" "[LDecisionLayers$Condition;" ∈ w_g := w_m1 84 rfl rfl
set_option maxRecDepth 20000 in
theorem w_1_85 : Cond.fieldLink "DecisionLayers" 24 "DecisionLayers" "layers" "[LDecisionLayers$Layer;" ∈ w_g := w_m1 85 rfl rfl
set_option maxRecDepth 20000 in
theorem w_1_86 : Cond.fieldLink "DecisionLayers" 29 "DecisionLayers" "piled" "I" ∈ w_g := w_m1 86 rfl rfl
set_option maxRecDepth 20000 in
theorem w_1_87 : Cond.fieldLink "DecisionLayers" 33 "DecisionLayers" "decider" "I" ∈ w_g := w_m1 87 rfl rfl
set_option maxRecDepth 20000 in
theorem w_1_88 : Cond.laysFinal "DecisionLayers" "DecisionLayers" "values" "LDecisionLayers$Values;" ∈ w_g := w_m1 88 rfl rfl
set_option maxRecDepth 20000 in
theorem w_1_90 : Cond.laysFinal "DecisionLayers" "DecisionLayers" "conditions" "[LDecisionLayers$Condition;" ∈ w_g := w_m1 90 rfl rfl
set_option maxRecDepth 20000 in
theorem w_1_92 : Cond.laysFinal "DecisionLayers" "DecisionLayers" "layers" "[LDecisionLayers$Layer;" ∈ w_g := w_m1 92 rfl rfl
set_option maxRecDepth 20000 in
theorem w_1_94 : Cond.lays "DecisionLayers" "DecisionLayers" "piled" "I" ∈ w_g := w_m1 94 rfl rfl
set_option maxRecDepth 20000 in
theorem w_1_96 : Cond.lays "DecisionLayers" "DecisionLayers" "decider" "I" ∈ w_g := w_m1 96 rfl rfl
set_option maxRecDepth 20000 in
theorem w_1_99 : Cond.methodLink "DecisionLayersLaw" 15 y_DL_test ∈ w_g := w_m1 99 rfl rfl
set_option maxRecDepth 20000 in
theorem w_1_100 : Cond.instanceMethod y_DL_test ∈ w_g := w_m1 100 rfl rfl
set_option maxRecDepth 20000 in
theorem w_1_101 : Cond.selects "DecisionLayers" y_DL_test y_DL_test ∈ w_g := w_m1 101 rfl rfl
set_option maxRecDepth 20000 in
theorem w_1_102 : Cond.code y_DL_test prog_1_method_2_code 6 (Option.some FieldType.int) ∈ w_g := w_m1 102 rfl rfl
set_option maxRecDepth 20000 in
theorem w_1_103 : Cond.methodLink "DecisionLayers" 36 y_Values_isKey ∈ w_g := w_m1 103 rfl rfl
set_option maxRecDepth 20000 in
theorem w_1_104 : Cond.static y_Values_isKey ∈ w_g := w_m1 104 rfl rfl
set_option maxRecDepth 20000 in
theorem w_1_105 : Cond.code y_Values_isKey prog_9_method_2_code 1 (Option.some FieldType.boolean) ∈ w_g := w_m1 105 rfl rfl
set_option maxRecDepth 20000 in
theorem w_1_106 : Cond.classLink "DecisionLayers" 40 "DecisionLayers$Test" ∈ w_g := w_m1 106 rfl rfl
set_option maxRecDepth 20000 in
theorem w_1_107 : Cond.instantiable "DecisionLayers$Test" 5 ∈ w_g := w_m1 107 rfl rfl
set_option maxRecDepth 20000 in
theorem w_1_108 : Cond.methodLink "DecisionLayers" 42 y_Test_init ∈ w_g := w_m1 108 rfl rfl
set_option maxRecDepth 20000 in
theorem w_1_109 : Cond.instanceMethod y_Test_init ∈ w_g := w_m1 109 rfl rfl
set_option maxRecDepth 20000 in
theorem w_1_110 : Cond.code y_Test_init prog_7_method_1_code 6 none ∈ w_g := w_m1 110 rfl rfl
set_option maxRecDepth 20000 in
theorem w_1_111 : Cond.methodLink "DecisionLayers$Test" 1 y_Condition_init ∈ w_g := w_m1 111 rfl rfl
set_option maxRecDepth 20000 in
theorem w_1_112 : Cond.instanceMethod y_Condition_init ∈ w_g := w_m1 112 rfl rfl
set_option maxRecDepth 20000 in
theorem w_1_113 : Cond.code y_Condition_init prog_2_method_1_code 2 none ∈ w_g := w_m1 113 rfl rfl
set_option maxRecDepth 20000 in
theorem w_1_114 : Cond.methodLink "DecisionLayers$Condition" 1 y_Object_init ∈ w_g := w_m1 114 rfl rfl
set_option maxRecDepth 20000 in
theorem w_1_115 : Cond.fieldLink "DecisionLayers$Test" 7 "DecisionLayers$Test" "op" "I" ∈ w_g := w_m1 115 rfl rfl
set_option maxRecDepth 20000 in
theorem w_1_116 : Cond.fieldLink "DecisionLayers$Test" 13 "DecisionLayers$Test" "key" "I" ∈ w_g := w_m1 116 rfl rfl
set_option maxRecDepth 20000 in
theorem w_1_117 : Cond.fieldLink "DecisionLayers$Test" 16 "DecisionLayers$Test" "t" "J" ∈ w_g := w_m1 117 rfl rfl
set_option maxRecDepth 20000 in
theorem w_1_118 : Cond.fieldLink "DecisionLayers$Test" 20 "DecisionLayers$Test" "marks" "I" ∈ w_g := w_m1 118 rfl rfl
set_option maxRecDepth 20000 in
theorem w_1_119 : Cond.fieldLink "DecisionLayers$Condition" 7 "DecisionLayers$Condition" "depth" "I" ∈ w_g := w_m1 119 rfl rfl
set_option maxRecDepth 20000 in
theorem w_1_120 : Cond.fieldLink "DecisionLayers" 127 "DecisionLayers$Condition" "depth" "I" ∈ w_g := w_m1 120 rfl rfl
set_option maxRecDepth 20000 in
theorem w_1_121 : Cond.laysFinal "DecisionLayers$Test" "DecisionLayers$Test" "op" "I" ∈ w_g := w_m1 121 rfl rfl
set_option maxRecDepth 20000 in
theorem w_1_123 : Cond.laysFinal "DecisionLayers$Test" "DecisionLayers$Test" "key" "I" ∈ w_g := w_m1 123 rfl rfl
set_option maxRecDepth 20000 in
theorem w_1_125 : Cond.laysFinal "DecisionLayers$Test" "DecisionLayers$Test" "t" "J" ∈ w_g := w_m1 125 rfl rfl
set_option maxRecDepth 20000 in
theorem w_1_127 : Cond.laysFinal "DecisionLayers$Test" "DecisionLayers$Test" "marks" "I" ∈ w_g := w_m1 127 rfl rfl
set_option maxRecDepth 20000 in
theorem w_1_129 : Cond.laysFinal "DecisionLayers$Test" "DecisionLayers$Condition" "depth" "I" ∈ w_g := w_m1 129 rfl rfl
set_option maxRecDepth 20000 in
theorem w_1_132 : Cond.methodLink "DecisionLayers" 45 y_DL_push ∈ w_g := w_m1 132 rfl rfl
set_option maxRecDepth 20000 in
theorem w_1_134 : Cond.instanceMethod y_DL_push ∈ w_g := w_m1 134 rfl rfl
set_option maxRecDepth 20000 in
theorem w_1_135 : Cond.code y_DL_push prog_1_method_20_code 2 (Option.some FieldType.int) ∈ w_g := w_m1 135 rfl rfl
set_option maxRecDepth 20000 in
theorem w_1_136 : Cond.methodLink "DecisionLayersLaw" 20 y_DL_join ∈ w_g := w_m1 136 rfl rfl
set_option maxRecDepth 20000 in
theorem w_1_137 : Cond.instanceMethod y_DL_join ∈ w_g := w_m1 137 rfl rfl
set_option maxRecDepth 20000 in
theorem w_1_138 : Cond.selects "DecisionLayers" y_DL_join y_DL_join ∈ w_g := w_m1 138 rfl rfl
set_option maxRecDepth 20000 in
theorem w_1_139 : Cond.code y_DL_join prog_1_method_3_code 6 (Option.some FieldType.int) ∈ w_g := w_m1 139 rfl rfl
set_option maxRecDepth 20000 in
theorem w_1_140 : Cond.methodLink "DecisionLayers" 51 y_DL_greatestDepthOfTopmost ∈ w_g := w_m1 140 rfl rfl
set_option maxRecDepth 20000 in
theorem w_1_142 : Cond.instanceMethod y_DL_greatestDepthOfTopmost ∈ w_g := w_m1 142 rfl rfl
set_option maxRecDepth 20000 in
theorem w_1_143 : Cond.code y_DL_greatestDepthOfTopmost prog_1_method_22_code 5 (Option.some FieldType.int) ∈ w_g := w_m1 143 rfl rfl
set_option maxRecDepth 20000 in
theorem w_1_144 : Cond.methodLink "DecisionLayers" 130 y_Math_max ∈ w_g := w_m1 144 rfl rfl
set_option maxRecDepth 20000 in
theorem w_1_145 : Cond.static y_Math_max ∈ w_g := w_m1 145 rfl rfl
set_option maxRecDepth 20000 in
theorem w_1_146 : Cond.code y_Math_max prog_12_method_65_code 2 (Option.some FieldType.int) ∈ w_g := w_m1 146 rfl rfl
set_option maxRecDepth 20000 in
theorem w_1_147 : Cond.methodLink "DecisionLayers" 55 y_DL_pop ∈ w_g := w_m1 147 rfl rfl
set_option maxRecDepth 20000 in
theorem w_1_149 : Cond.instanceMethod y_DL_pop ∈ w_g := w_m1 149 rfl rfl
set_option maxRecDepth 20000 in
theorem w_1_150 : Cond.code y_DL_pop prog_1_method_21_code 2 (Option.some (FieldType.object "DecisionLayers$Condition")) ∈ w_g := w_m1 150 rfl rfl
set_option maxRecDepth 20000 in
theorem w_1_151 : Cond.classLink "DecisionLayers" 49 "DecisionLayers$Joined" ∈ w_g := w_m1 151 rfl rfl
set_option maxRecDepth 20000 in
theorem w_1_152 : Cond.instantiable "DecisionLayers$Joined" 3 ∈ w_g := w_m1 152 rfl rfl
set_option maxRecDepth 20000 in
theorem w_1_153 : Cond.methodLink "DecisionLayers" 59 y_Joined_init ∈ w_g := w_m1 153 rfl rfl
set_option maxRecDepth 20000 in
theorem w_1_154 : Cond.instanceMethod y_Joined_init ∈ w_g := w_m1 154 rfl rfl
set_option maxRecDepth 20000 in
theorem w_1_155 : Cond.code y_Joined_init prog_3_method_1_code 4 none ∈ w_g := w_m1 155 rfl rfl
set_option maxRecDepth 20000 in
theorem w_1_156 : Cond.methodLink "DecisionLayers$Joined" 1 y_Condition_init ∈ w_g := w_m1 156 rfl rfl
set_option maxRecDepth 20000 in
theorem w_1_157 : Cond.fieldLink "DecisionLayers$Joined" 7 "DecisionLayers$Joined" "kind" "I" ∈ w_g := w_m1 157 rfl rfl
set_option maxRecDepth 20000 in
theorem w_1_158 : Cond.fieldLink "DecisionLayers$Joined" 13 "DecisionLayers$Joined" "parts" "[LDecisionLayers$Condition;" ∈ w_g := w_m1 158 rfl rfl
set_option maxRecDepth 20000 in
theorem w_1_159 : Cond.laysFinal "DecisionLayers$Joined" "DecisionLayers$Joined" "kind" "I" ∈ w_g := w_m1 159 rfl rfl
set_option maxRecDepth 20000 in
theorem w_1_161 : Cond.laysFinal "DecisionLayers$Joined" "DecisionLayers$Joined" "parts" "[LDecisionLayers$Condition;" ∈ w_g := w_m1 161 rfl rfl
set_option maxRecDepth 20000 in
theorem w_1_163 : Cond.laysFinal "DecisionLayers$Joined" "DecisionLayers$Condition" "depth" "I" ∈ w_g := w_m1 163 rfl rfl
set_option maxRecDepth 20000 in
theorem w_1_165 : Cond.methodLink "DecisionLayersLaw" 25 y_DL_discard ∈ w_g := w_m1 165 rfl rfl
set_option maxRecDepth 20000 in
theorem w_1_166 : Cond.instanceMethod y_DL_discard ∈ w_g := w_m1 166 rfl rfl
set_option maxRecDepth 20000 in
theorem w_1_167 : Cond.selects "DecisionLayers" y_DL_discard y_DL_discard ∈ w_g := w_m1 167 rfl rfl
set_option maxRecDepth 20000 in
theorem w_1_168 : Cond.code y_DL_discard prog_1_method_4_code 1 (Option.some FieldType.boolean) ∈ w_g := w_m1 168 rfl rfl
set_option maxRecDepth 20000 in
theorem w_1_169 : Cond.methodLink "DecisionLayersLaw" 30 y_DL_pile ∈ w_g := w_m1 169 rfl rfl
set_option maxRecDepth 20000 in
theorem w_1_170 : Cond.instanceMethod y_DL_pile ∈ w_g := w_m1 170 rfl rfl
set_option maxRecDepth 20000 in
theorem w_1_171 : Cond.selects "DecisionLayers" y_DL_pile y_DL_pile ∈ w_g := w_m1 171 rfl rfl
set_option maxRecDepth 20000 in
theorem w_1_172 : Cond.code y_DL_pile prog_1_method_5_code 1 (Option.some FieldType.int) ∈ w_g := w_m1 172 rfl rfl
set_option maxRecDepth 20000 in
theorem w_1_173 : Cond.methodLink "DecisionLayersLaw" 35 y_DL_state ∈ w_g := w_m1 173 rfl rfl
set_option maxRecDepth 20000 in
theorem w_1_174 : Cond.instanceMethod y_DL_state ∈ w_g := w_m1 174 rfl rfl
set_option maxRecDepth 20000 in
theorem w_1_175 : Cond.selects "DecisionLayers" y_DL_state y_DL_state ∈ w_g := w_m1 175 rfl rfl
set_option maxRecDepth 20000 in
theorem w_1_176 : Cond.code y_DL_state prog_1_method_6_code 10 (Option.some FieldType.int) ∈ w_g := w_m1 176 rfl rfl
set_option maxRecDepth 20000 in
theorem w_1_177 : Cond.methodLink "DecisionLayers" 62 y_DL_isLayer ∈ w_g := w_m1 177 rfl rfl
set_option maxRecDepth 20000 in
theorem w_1_178 : Cond.static y_DL_isLayer ∈ w_g := w_m1 178 rfl rfl
set_option maxRecDepth 20000 in
theorem w_1_179 : Cond.code y_DL_isLayer prog_1_method_17_code 1 (Option.some FieldType.boolean) ∈ w_g := w_m1 179 rfl rfl
set_option maxRecDepth 20000 in
theorem w_1_180 : Cond.methodLink "DecisionLayers" 67 y_DL_mayStandIn ∈ w_g := w_m1 180 rfl rfl
set_option maxRecDepth 20000 in
theorem w_1_181 : Cond.static y_DL_mayStandIn ∈ w_g := w_m1 181 rfl rfl
set_option maxRecDepth 20000 in
theorem w_1_182 : Cond.code y_DL_mayStandIn prog_1_method_19_code 2 (Option.some FieldType.boolean) ∈ w_g := w_m1 182 rfl rfl
set_option maxRecDepth 20000 in
theorem w_1_183 : Cond.methodLink "DecisionLayers" 124 y_Statement_isWho ∈ w_g := w_m1 183 rfl rfl
set_option maxRecDepth 20000 in
theorem w_1_184 : Cond.static y_Statement_isWho ∈ w_g := w_m1 184 rfl rfl
set_option maxRecDepth 20000 in
theorem w_1_185 : Cond.code y_Statement_isWho prog_6_method_2_code 1 (Option.some FieldType.boolean) ∈ w_g := w_m1 185 rfl rfl
set_option maxRecDepth 20000 in
theorem w_1_186 : Cond.methodLink "DecisionLayers" 71 y_Layer_isFull ∈ w_g := w_m1 186 rfl rfl
set_option maxRecDepth 20000 in
theorem w_1_187 : Cond.instanceMethod y_Layer_isFull ∈ w_g := w_m1 187 rfl rfl
set_option maxRecDepth 20000 in
theorem w_1_188 : Cond.selects "DecisionLayers$Layer" y_Layer_isFull y_Layer_isFull ∈ w_g := w_m1 188 rfl rfl
set_option maxRecDepth 20000 in
theorem w_1_189 : Cond.code y_Layer_isFull prog_4_method_2_code 1 (Option.some FieldType.boolean) ∈ w_g := w_m1 189 rfl rfl
set_option maxRecDepth 20000 in
theorem w_1_190 : Cond.methodLink "DecisionLayers" 75 y_Layer_append ∈ w_g := w_m1 190 rfl rfl
set_option maxRecDepth 20000 in
theorem w_1_191 : Cond.instanceMethod y_Layer_append ∈ w_g := w_m1 191 rfl rfl
set_option maxRecDepth 20000 in
theorem w_1_192 : Cond.selects "DecisionLayers$Layer" y_Layer_append y_Layer_append ∈ w_g := w_m1 192 rfl rfl
set_option maxRecDepth 20000 in
theorem w_1_193 : Cond.code y_Layer_append prog_4_method_3_code 8 (Option.some FieldType.int) ∈ w_g := w_m1 193 rfl rfl
set_option maxRecDepth 20000 in
theorem w_1_194 : Cond.methodLink "DecisionLayers$Layer" 22 y_Statement_become ∈ w_g := w_m1 194 rfl rfl
set_option maxRecDepth 20000 in
theorem w_1_195 : Cond.instanceMethod y_Statement_become ∈ w_g := w_m1 195 rfl rfl
set_option maxRecDepth 20000 in
theorem w_1_196 : Cond.selects "DecisionLayers$Statement" y_Statement_become y_Statement_become ∈ w_g := w_m1 196 rfl rfl
set_option maxRecDepth 20000 in
theorem w_1_197 : Cond.code y_Statement_become prog_6_method_4_code 8 none ∈ w_g := w_m1 197 rfl rfl
set_option maxRecDepth 20000 in
theorem w_1_198 : Cond.methodLink "DecisionLayersLaw" 40 y_DL_open ∈ w_g := w_m1 198 rfl rfl
set_option maxRecDepth 20000 in
theorem w_1_199 : Cond.instanceMethod y_DL_open ∈ w_g := w_m1 199 rfl rfl
set_option maxRecDepth 20000 in
theorem w_1_200 : Cond.selects "DecisionLayers" y_DL_open y_DL_open ∈ w_g := w_m1 200 rfl rfl
set_option maxRecDepth 20000 in
theorem w_1_201 : Cond.code y_DL_open prog_1_method_7_code 2 (Option.some FieldType.boolean) ∈ w_g := w_m1 201 rfl rfl
set_option maxRecDepth 20000 in
theorem w_1_202 : Cond.methodLink "DecisionLayersLaw" 45 y_DL_drop ∈ w_g := w_m1 202 rfl rfl
set_option maxRecDepth 20000 in
theorem w_1_203 : Cond.instanceMethod y_DL_drop ∈ w_g := w_m1 203 rfl rfl
set_option maxRecDepth 20000 in
theorem w_1_204 : Cond.selects "DecisionLayers" y_DL_drop y_DL_drop ∈ w_g := w_m1 204 rfl rfl
set_option maxRecDepth 20000 in
theorem w_1_205 : Cond.code y_DL_drop prog_1_method_8_code 2 (Option.some FieldType.boolean) ∈ w_g := w_m1 205 rfl rfl
set_option maxRecDepth 20000 in
theorem w_1_206 : Cond.methodLink "DecisionLayers" 83 y_Layer_empty ∈ w_g := w_m1 206 rfl rfl
set_option maxRecDepth 20000 in
theorem w_1_207 : Cond.instanceMethod y_Layer_empty ∈ w_g := w_m1 207 rfl rfl
set_option maxRecDepth 20000 in
theorem w_1_208 : Cond.selects "DecisionLayers$Layer" y_Layer_empty y_Layer_empty ∈ w_g := w_m1 208 rfl rfl
set_option maxRecDepth 20000 in
theorem w_1_209 : Cond.code y_Layer_empty prog_4_method_4_code 1 none ∈ w_g := w_m1 209 rfl rfl
set_option maxRecDepth 20000 in
theorem w_1_210 : Cond.methodLink "DecisionLayersLaw" 49 y_DL_statements ∈ w_g := w_m1 210 rfl rfl
set_option maxRecDepth 20000 in
theorem w_1_211 : Cond.instanceMethod y_DL_statements ∈ w_g := w_m1 211 rfl rfl
set_option maxRecDepth 20000 in
theorem w_1_212 : Cond.selects "DecisionLayers" y_DL_statements y_DL_statements ∈ w_g := w_m1 212 rfl rfl
set_option maxRecDepth 20000 in
theorem w_1_213 : Cond.code y_DL_statements prog_1_method_9_code 2 (Option.some FieldType.int) ∈ w_g := w_m1 213 rfl rfl
set_option maxRecDepth 20000 in
theorem w_1_214 : Cond.methodLink "DecisionLayersLaw" 54 y_DL_offer ∈ w_g := w_m1 214 rfl rfl
set_option maxRecDepth 20000 in
theorem w_1_215 : Cond.instanceMethod y_DL_offer ∈ w_g := w_m1 215 rfl rfl
set_option maxRecDepth 20000 in
theorem w_1_216 : Cond.selects "DecisionLayers" y_DL_offer y_DL_offer ∈ w_g := w_m1 216 rfl rfl
set_option maxRecDepth 20000 in
theorem w_1_217 : Cond.code y_DL_offer prog_1_method_10_code 4 (Option.some FieldType.int) ∈ w_g := w_m1 217 rfl rfl
set_option maxRecDepth 20000 in
theorem w_1_218 : Cond.methodLink "DecisionLayers" 89 y_Values_isFull ∈ w_g := w_m1 218 rfl rfl
set_option maxRecDepth 20000 in
theorem w_1_219 : Cond.instanceMethod y_Values_isFull ∈ w_g := w_m1 219 rfl rfl
set_option maxRecDepth 20000 in
theorem w_1_220 : Cond.selects "DecisionLayers$Values" y_Values_isFull y_Values_isFull ∈ w_g := w_m1 220 rfl rfl
set_option maxRecDepth 20000 in
theorem w_1_221 : Cond.code y_Values_isFull prog_9_method_5_code 2 (Option.some FieldType.boolean) ∈ w_g := w_m1 221 rfl rfl
set_option maxRecDepth 20000 in
theorem w_1_222 : Cond.methodLink "DecisionLayers$Values" 17 y_Values_count ∈ w_g := w_m1 222 rfl rfl
set_option maxRecDepth 20000 in
theorem w_1_223 : Cond.instanceMethod y_Values_count ∈ w_g := w_m1 223 rfl rfl
set_option maxRecDepth 20000 in
theorem w_1_224 : Cond.selects "DecisionLayers$Values" y_Values_count y_Values_count ∈ w_g := w_m1 224 rfl rfl
set_option maxRecDepth 20000 in
theorem w_1_225 : Cond.code y_Values_count prog_9_method_3_code 2 (Option.some FieldType.int) ∈ w_g := w_m1 225 rfl rfl
set_option maxRecDepth 20000 in
theorem w_1_226 : Cond.methodLink "DecisionLayers" 91 y_Values_append ∈ w_g := w_m1 226 rfl rfl
set_option maxRecDepth 20000 in
theorem w_1_227 : Cond.instanceMethod y_Values_append ∈ w_g := w_m1 227 rfl rfl
set_option maxRecDepth 20000 in
theorem w_1_228 : Cond.selects "DecisionLayers$Values" y_Values_append y_Values_append ∈ w_g := w_m1 228 rfl rfl
set_option maxRecDepth 20000 in
theorem w_1_229 : Cond.code y_Values_append prog_9_method_6_code 4 (Option.some FieldType.int) ∈ w_g := w_m1 229 rfl rfl
set_option maxRecDepth 20000 in
theorem w_1_230 : Cond.methodLink "DecisionLayers$Values" 21 y_Values_isKey ∈ w_g := w_m1 230 rfl rfl
set_option maxRecDepth 20000 in
theorem w_1_231 : Cond.methodLink "DecisionLayersLaw" 59 y_DL_forget ∈ w_g := w_m1 231 rfl rfl
set_option maxRecDepth 20000 in
theorem w_1_232 : Cond.instanceMethod y_DL_forget ∈ w_g := w_m1 232 rfl rfl
set_option maxRecDepth 20000 in
theorem w_1_233 : Cond.selects "DecisionLayers" y_DL_forget y_DL_forget ∈ w_g := w_m1 233 rfl rfl
set_option maxRecDepth 20000 in
theorem w_1_234 : Cond.code y_DL_forget prog_1_method_11_code 2 (Option.some FieldType.int) ∈ w_g := w_m1 234 rfl rfl
set_option maxRecDepth 20000 in
theorem w_1_235 : Cond.methodLink "DecisionLayers" 94 y_Values_empty ∈ w_g := w_m1 235 rfl rfl
set_option maxRecDepth 20000 in
theorem w_1_236 : Cond.instanceMethod y_Values_empty ∈ w_g := w_m1 236 rfl rfl
set_option maxRecDepth 20000 in
theorem w_1_237 : Cond.selects "DecisionLayers$Values" y_Values_empty y_Values_empty ∈ w_g := w_m1 237 rfl rfl
set_option maxRecDepth 20000 in
theorem w_1_238 : Cond.code y_Values_empty prog_9_method_7_code 3 (Option.some FieldType.int) ∈ w_g := w_m1 238 rfl rfl
set_option maxRecDepth 20000 in
theorem w_1_239 : Cond.methodLink "DecisionLayersLaw" 63 y_DL_decide ∈ w_g := w_m1 239 rfl rfl
set_option maxRecDepth 20000 in
theorem w_2_0 : Cond.instanceMethod y_DL_decide ∈ w_g := w_m2 0 rfl rfl
set_option maxRecDepth 20000 in
theorem w_2_1 : Cond.selects "DecisionLayers" y_DL_decide y_DL_decide ∈ w_g := w_m2 1 rfl rfl
set_option maxRecDepth 20000 in
theorem w_2_2 : Cond.code y_DL_decide prog_1_method_12_code 10 (Option.some FieldType.int) ∈ w_g := w_m2 2 rfl rfl
set_option maxRecDepth 20000 in
theorem w_2_3 : Cond.methodLink "DecisionLayers" 96 y_DL_isDigit ∈ w_g := w_m2 3 rfl rfl
set_option maxRecDepth 20000 in
theorem w_2_4 : Cond.static y_DL_isDigit ∈ w_g := w_m2 4 rfl rfl
set_option maxRecDepth 20000 in
theorem w_2_5 : Cond.code y_DL_isDigit prog_1_method_18_code 1 (Option.some FieldType.boolean) ∈ w_g := w_m2 5 rfl rfl
set_option maxRecDepth 20000 in
theorem w_2_6 : Cond.methodLink "DecisionLayers" 99 y_Statement_whoOfUser ∈ w_g := w_m2 6 rfl rfl
set_option maxRecDepth 20000 in
theorem w_2_7 : Cond.static y_Statement_whoOfUser ∈ w_g := w_m2 7 rfl rfl
set_option maxRecDepth 20000 in
theorem w_2_8 : Cond.code y_Statement_whoOfUser prog_6_method_3_code 2 (Option.some FieldType.int) ∈ w_g := w_m2 8 rfl rfl
set_option maxRecDepth 20000 in
theorem w_2_9 : Cond.methodLink "DecisionLayers" 103 y_Layer_judge ∈ w_g := w_m2 9 rfl rfl
set_option maxRecDepth 20000 in
theorem w_2_10 : Cond.instanceMethod y_Layer_judge ∈ w_g := w_m2 10 rfl rfl
set_option maxRecDepth 20000 in
theorem w_2_11 : Cond.selects "DecisionLayers$Layer" y_Layer_judge y_Layer_judge ∈ w_g := w_m2 11 rfl rfl
set_option maxRecDepth 20000 in
theorem w_2_12 : Cond.code y_Layer_judge prog_4_method_5_code 8 none ∈ w_g := w_m2 12 rfl rfl
set_option maxRecDepth 20000 in
theorem w_2_13 : Cond.methodLink "DecisionLayers$Layer" 33 y_Statement_suits ∈ w_g := w_m2 13 rfl rfl
set_option maxRecDepth 20000 in
theorem w_2_14 : Cond.instanceMethod y_Statement_suits ∈ w_g := w_m2 14 rfl rfl
set_option maxRecDepth 20000 in
theorem w_2_15 : Cond.selects "DecisionLayers$Statement" y_Statement_suits y_Statement_suits ∈ w_g := w_m2 15 rfl rfl
set_option maxRecDepth 20000 in
theorem w_2_16 : Cond.code y_Statement_suits prog_6_method_7_code 9 (Option.some FieldType.boolean) ∈ w_g := w_m2 16 rfl rfl
set_option maxRecDepth 20000 in
theorem w_2_17 : Cond.methodLink "DecisionLayers$Statement" 27 y_Statement_means ∈ w_g := w_m2 17 rfl rfl
set_option maxRecDepth 20000 in
theorem w_2_19 : Cond.instanceMethod y_Statement_means ∈ w_g := w_m2 19 rfl rfl
set_option maxRecDepth 20000 in
theorem w_2_20 : Cond.code y_Statement_means prog_6_method_8_code 2 (Option.some FieldType.boolean) ∈ w_g := w_m2 20 rfl rfl
set_option maxRecDepth 20000 in
theorem w_2_21 : Cond.methodLink "DecisionLayers$Statement" 31 y_Pattern_fits ∈ w_g := w_m2 21 rfl rfl
set_option maxRecDepth 20000 in
theorem w_2_22 : Cond.static y_Pattern_fits ∈ w_g := w_m2 22 rfl rfl
set_option maxRecDepth 20000 in
theorem w_2_23 : Cond.code y_Pattern_fits prog_5_method_2_code 11 (Option.some FieldType.boolean) ∈ w_g := w_m2 23 rfl rfl
set_option maxRecDepth 20000 in
theorem w_2_24 : Cond.methodLink "DecisionLayers$Pattern" 7 y_Text_length ∈ w_g := w_m2 24 rfl rfl
set_option maxRecDepth 20000 in
theorem w_2_25 : Cond.static y_Text_length ∈ w_g := w_m2 25 rfl rfl
set_option maxRecDepth 20000 in
theorem w_2_26 : Cond.code y_Text_length prog_8_method_3_code 3 (Option.some FieldType.int) ∈ w_g := w_m2 26 rfl rfl
set_option maxRecDepth 20000 in
theorem w_2_27 : Cond.constantLong "DecisionLayers$Text" 9 (255 : Int64) ∈ w_g := w_m2 27 rfl rfl
set_option maxRecDepth 20000 in
theorem w_2_28 : Cond.methodLink "DecisionLayers$Pattern" 15 y_Text_charAt ∈ w_g := w_m2 28 rfl rfl
set_option maxRecDepth 20000 in
theorem w_2_29 : Cond.static y_Text_charAt ∈ w_g := w_m2 29 rfl rfl
set_option maxRecDepth 20000 in
theorem w_2_30 : Cond.code y_Text_charAt prog_8_method_2_code 3 (Option.some FieldType.int) ∈ w_g := w_m2 30 rfl rfl
set_option maxRecDepth 20000 in
theorem w_2_31 : Cond.methodLink "DecisionLayers$Pattern" 19 y_Pattern_meansSomething ∈ w_g := w_m2 31 rfl rfl
set_option maxRecDepth 20000 in
theorem w_2_32 : Cond.static y_Pattern_meansSomething ∈ w_g := w_m2 32 rfl rfl
set_option maxRecDepth 20000 in
theorem w_2_33 : Cond.code y_Pattern_meansSomething prog_5_method_3_code 2 (Option.some FieldType.boolean) ∈ w_g := w_m2 33 rfl rfl
set_option maxRecDepth 20000 in
theorem w_2_34 : Cond.methodLink "DecisionLayers$Pattern" 38 y_Values_count ∈ w_g := w_m2 34 rfl rfl
set_option maxRecDepth 20000 in
theorem w_2_35 : Cond.methodLink "DecisionLayers$Pattern" 23 y_Pattern_meaning ∈ w_g := w_m2 35 rfl rfl
set_option maxRecDepth 20000 in
theorem w_2_36 : Cond.static y_Pattern_meaning ∈ w_g := w_m2 36 rfl rfl
set_option maxRecDepth 20000 in
theorem w_2_37 : Cond.code y_Pattern_meaning prog_5_method_4_code 2 (Option.some FieldType.long) ∈ w_g := w_m2 37 rfl rfl
set_option maxRecDepth 20000 in
theorem w_2_38 : Cond.methodLink "DecisionLayers$Pattern" 44 y_Values_isKey ∈ w_g := w_m2 38 rfl rfl
set_option maxRecDepth 20000 in
theorem w_2_39 : Cond.methodLink "DecisionLayers$Pattern" 48 y_Values_get ∈ w_g := w_m2 39 rfl rfl
set_option maxRecDepth 20000 in
theorem w_2_40 : Cond.instanceMethod y_Values_get ∈ w_g := w_m2 40 rfl rfl
set_option maxRecDepth 20000 in
theorem w_2_41 : Cond.selects "DecisionLayers$Values" y_Values_get y_Values_get ∈ w_g := w_m2 41 rfl rfl
set_option maxRecDepth 20000 in
theorem w_2_42 : Cond.code y_Values_get prog_9_method_4_code 3 (Option.some FieldType.long) ∈ w_g := w_m2 42 rfl rfl
set_option maxRecDepth 20000 in
theorem w_2_43 : Cond.methodLink "DecisionLayers$Pattern" 27 y_Pattern_readText ∈ w_g := w_m2 43 rfl rfl
set_option maxRecDepth 20000 in
theorem w_2_44 : Cond.static y_Pattern_readText ∈ w_g := w_m2 44 rfl rfl
set_option maxRecDepth 20000 in
theorem w_2_45 : Cond.code y_Pattern_readText prog_5_method_7_code 13 (Option.some FieldType.int) ∈ w_g := w_m2 45 rfl rfl
set_option maxRecDepth 20000 in
theorem w_2_46 : Cond.methodLink "DecisionLayers$Pattern" 52 y_Text_isAlike ∈ w_g := w_m2 46 rfl rfl
set_option maxRecDepth 20000 in
theorem w_2_47 : Cond.static y_Text_isAlike ∈ w_g := w_m2 47 rfl rfl
set_option maxRecDepth 20000 in
theorem w_2_48 : Cond.code y_Text_isAlike prog_8_method_5_code 5 (Option.some FieldType.boolean) ∈ w_g := w_m2 48 rfl rfl
set_option maxRecDepth 20000 in
theorem w_2_49 : Cond.methodLink "DecisionLayers$Pattern" 31 y_Pattern_readAnyRow ∈ w_g := w_m2 49 rfl rfl
set_option maxRecDepth 20000 in
theorem w_2_50 : Cond.static y_Pattern_readAnyRow ∈ w_g := w_m2 50 rfl rfl
set_option maxRecDepth 20000 in
theorem w_2_51 : Cond.code y_Pattern_readAnyRow prog_5_method_5_code 5 (Option.some FieldType.int) ∈ w_g := w_m2 51 rfl rfl
set_option maxRecDepth 20000 in
theorem w_2_52 : Cond.methodLink "DecisionLayers$Pattern" 35 y_Pattern_readAnyOne ∈ w_g := w_m2 52 rfl rfl
set_option maxRecDepth 20000 in
theorem w_2_53 : Cond.static y_Pattern_readAnyOne ∈ w_g := w_m2 53 rfl rfl
set_option maxRecDepth 20000 in
theorem w_2_54 : Cond.code y_Pattern_readAnyOne prog_5_method_6_code 4 (Option.some FieldType.int) ∈ w_g := w_m2 54 rfl rfl
set_option maxRecDepth 20000 in
theorem w_2_55 : Cond.methodLink "DecisionLayers$Statement" 37 y_Condition_isMet ∈ w_g := w_m2 55 rfl rfl
set_option maxRecDepth 20000 in
theorem w_2_57 : Cond.sameMethod "DecisionLayers$Condition" "DecisionLayers$Condition" "isMet" "(LDecisionLayers$Values;)Z" ∈ w_g := w_m2 57 rfl rfl
set_option maxRecDepth 20000 in
theorem w_2_58 : Cond.selects "DecisionLayers$Joined" y_Condition_isMet y_Joined_isMet ∈ w_g := w_m2 58 rfl rfl
set_option maxRecDepth 20000 in
theorem w_2_59 : Cond.instanceMethod y_Joined_isMet ∈ w_g := w_m2 59 rfl rfl
set_option maxRecDepth 20000 in
theorem w_2_60 : Cond.code y_Joined_isMet prog_3_method_2_code 5 (Option.some FieldType.boolean) ∈ w_g := w_m2 60 rfl rfl
set_option maxRecDepth 20000 in
theorem w_2_61 : Cond.methodLink "DecisionLayers$Joined" 17 y_Condition_isMet ∈ w_g := w_m2 61 rfl rfl
set_option maxRecDepth 20000 in
theorem w_2_62 : Cond.instanceMethod y_Test_isMet ∈ w_g := w_m2 62 rfl rfl
set_option maxRecDepth 20000 in
theorem w_2_63 : Cond.code y_Test_isMet prog_7_method_2_code 7 (Option.some FieldType.boolean) ∈ w_g := w_m2 63 rfl rfl
set_option maxRecDepth 20000 in
theorem w_2_64 : Cond.methodLink "DecisionLayers$Test" 23 y_Values_count ∈ w_g := w_m2 64 rfl rfl
set_option maxRecDepth 20000 in
theorem w_2_65 : Cond.methodLink "DecisionLayers$Test" 29 y_Values_get ∈ w_g := w_m2 65 rfl rfl
set_option maxRecDepth 20000 in
theorem w_2_66 : Cond.methodLink "DecisionLayers$Test" 33 y_Test_saysYes ∈ w_g := w_m2 66 rfl rfl
set_option maxRecDepth 20000 in
theorem w_2_68 : Cond.instanceMethod y_Test_saysYes ∈ w_g := w_m2 68 rfl rfl
set_option maxRecDepth 20000 in
theorem w_2_69 : Cond.code y_Test_saysYes prog_7_method_3_code 4 (Option.some FieldType.boolean) ∈ w_g := w_m2 69 rfl rfl
set_option maxRecDepth 20000 in
theorem w_2_70 : Cond.methodLink "DecisionLayers$Test" 37 y_Text_isSame ∈ w_g := w_m2 70 rfl rfl
set_option maxRecDepth 20000 in
theorem w_2_71 : Cond.static y_Text_isSame ∈ w_g := w_m2 71 rfl rfl
set_option maxRecDepth 20000 in
theorem w_2_72 : Cond.code y_Text_isSame prog_8_method_4_code 6 (Option.some FieldType.boolean) ∈ w_g := w_m2 72 rfl rfl
set_option maxRecDepth 20000 in
theorem w_2_73 : Cond.methodLink "DecisionLayers$Text" 11 y_Text_length ∈ w_g := w_m2 73 rfl rfl
set_option maxRecDepth 20000 in
theorem w_2_74 : Cond.methodLink "DecisionLayers$Text" 15 y_Text_charAt ∈ w_g := w_m2 74 rfl rfl
set_option maxRecDepth 20000 in
theorem w_2_75 : Cond.methodLink "DecisionLayers$Test" 43 y_Pattern_fits ∈ w_g := w_m2 75 rfl rfl
set_option maxRecDepth 20000 in
theorem w_2_76 : Cond.methodLink "DecisionLayers$Test" 49 y_Test_hasPrefix ∈ w_g := w_m2 76 rfl rfl
set_option maxRecDepth 20000 in
theorem w_2_78 : Cond.instanceMethod y_Test_hasPrefix ∈ w_g := w_m2 78 rfl rfl
set_option maxRecDepth 20000 in
theorem w_2_79 : Cond.code y_Test_hasPrefix prog_7_method_4_code 6 (Option.some FieldType.boolean) ∈ w_g := w_m2 79 rfl rfl
set_option maxRecDepth 20000 in
theorem w_2_80 : Cond.methodLink "DecisionLayers$Test" 53 y_Math_min ∈ w_g := w_m2 80 rfl rfl
set_option maxRecDepth 20000 in
theorem w_2_81 : Cond.static y_Math_min ∈ w_g := w_m2 81 rfl rfl
set_option maxRecDepth 20000 in
theorem w_2_82 : Cond.code y_Math_min prog_12_method_69_code 2 (Option.some FieldType.int) ∈ w_g := w_m2 82 rfl rfl
set_option maxRecDepth 20000 in
theorem w_2_83 : Cond.constantLong "DecisionLayers$Test" 59 (4294967295 : Int64) ∈ w_g := w_m2 83 rfl rfl
set_option maxRecDepth 20000 in
theorem w_2_84 : Cond.selects "DecisionLayers$Test" y_Condition_isMet y_Test_isMet ∈ w_g := w_m2 84 rfl rfl
set_option maxRecDepth 20000 in
theorem w_2_85 : Cond.methodLink "DecisionLayers" 107 y_DL_conclude ∈ w_g := w_m2 85 rfl rfl
set_option maxRecDepth 20000 in
theorem w_2_87 : Cond.instanceMethod y_DL_conclude ∈ w_g := w_m2 87 rfl rfl
set_option maxRecDepth 20000 in
theorem w_2_88 : Cond.code y_DL_conclude prog_1_method_23_code 4 (Option.some FieldType.int) ∈ w_g := w_m2 88 rfl rfl
set_option maxRecDepth 20000 in
theorem w_2_89 : Cond.methodLink "DecisionLayers" 135 y_Layer_denies ∈ w_g := w_m2 89 rfl rfl
set_option maxRecDepth 20000 in
theorem w_2_90 : Cond.instanceMethod y_Layer_denies ∈ w_g := w_m2 90 rfl rfl
set_option maxRecDepth 20000 in
theorem w_2_91 : Cond.selects "DecisionLayers$Layer" y_Layer_denies y_Layer_denies ∈ w_g := w_m2 91 rfl rfl
set_option maxRecDepth 20000 in
theorem w_2_92 : Cond.code y_Layer_denies prog_4_method_6_code 1 (Option.some FieldType.boolean) ∈ w_g := w_m2 92 rfl rfl
set_option maxRecDepth 20000 in
theorem w_2_93 : Cond.methodLink "DecisionLayers$Layer" 37 y_Layer_hasJudged ∈ w_g := w_m2 93 rfl rfl
set_option maxRecDepth 20000 in
theorem w_2_95 : Cond.instanceMethod y_Layer_hasJudged ∈ w_g := w_m2 95 rfl rfl
set_option maxRecDepth 20000 in
theorem w_2_96 : Cond.code y_Layer_hasJudged prog_4_method_10_code 3 (Option.some FieldType.boolean) ∈ w_g := w_m2 96 rfl rfl
set_option maxRecDepth 20000 in
theorem w_2_97 : Cond.methodLink "DecisionLayers$Layer" 45 y_Layer_isJudged ∈ w_g := w_m2 97 rfl rfl
set_option maxRecDepth 20000 in
theorem w_2_99 : Cond.instanceMethod y_Layer_isJudged ∈ w_g := w_m2 99 rfl rfl
set_option maxRecDepth 20000 in
theorem w_2_100 : Cond.code y_Layer_isJudged prog_4_method_11_code 2 (Option.some FieldType.boolean) ∈ w_g := w_m2 100 rfl rfl
set_option maxRecDepth 20000 in
theorem w_2_101 : Cond.methodLink "DecisionLayers$Layer" 49 y_Statement_isDenying ∈ w_g := w_m2 101 rfl rfl
set_option maxRecDepth 20000 in
theorem w_2_102 : Cond.instanceMethod y_Statement_isDenying ∈ w_g := w_m2 102 rfl rfl
set_option maxRecDepth 20000 in
theorem w_2_103 : Cond.selects "DecisionLayers$Statement" y_Statement_isDenying y_Statement_isDenying ∈ w_g := w_m2 103 rfl rfl
set_option maxRecDepth 20000 in
theorem w_2_104 : Cond.code y_Statement_isDenying prog_6_method_5_code 1 (Option.some FieldType.boolean) ∈ w_g := w_m2 104 rfl rfl
set_option maxRecDepth 20000 in
theorem w_2_105 : Cond.methodLink "DecisionLayers" 138 y_DL_settle ∈ w_g := w_m2 105 rfl rfl
set_option maxRecDepth 20000 in
theorem w_2_107 : Cond.instanceMethod y_DL_settle ∈ w_g := w_m2 107 rfl rfl
set_option maxRecDepth 20000 in
theorem w_2_108 : Cond.code y_DL_settle prog_1_method_25_code 3 (Option.some FieldType.int) ∈ w_g := w_m2 108 rfl rfl
set_option maxRecDepth 20000 in
theorem w_2_109 : Cond.methodLink "DecisionLayers" 141 y_Layer_bars ∈ w_g := w_m2 109 rfl rfl
set_option maxRecDepth 20000 in
theorem w_2_110 : Cond.instanceMethod y_Layer_bars ∈ w_g := w_m2 110 rfl rfl
set_option maxRecDepth 20000 in
theorem w_2_111 : Cond.selects "DecisionLayers$Layer" y_Layer_bars y_Layer_bars ∈ w_g := w_m2 111 rfl rfl
set_option maxRecDepth 20000 in
theorem w_2_112 : Cond.code y_Layer_bars prog_4_method_8_code 1 (Option.some FieldType.boolean) ∈ w_g := w_m2 112 rfl rfl
set_option maxRecDepth 20000 in
theorem w_2_113 : Cond.methodLink "DecisionLayers$Layer" 41 y_Layer_allows ∈ w_g := w_m2 113 rfl rfl
set_option maxRecDepth 20000 in
theorem w_2_114 : Cond.instanceMethod y_Layer_allows ∈ w_g := w_m2 114 rfl rfl
set_option maxRecDepth 20000 in
theorem w_2_115 : Cond.selects "DecisionLayers$Layer" y_Layer_allows y_Layer_allows ∈ w_g := w_m2 115 rfl rfl
set_option maxRecDepth 20000 in
theorem w_2_116 : Cond.code y_Layer_allows prog_4_method_7_code 1 (Option.some FieldType.boolean) ∈ w_g := w_m2 116 rfl rfl
set_option maxRecDepth 20000 in
theorem w_2_117 : Cond.methodLink "DecisionLayers" 144 y_Layer_allowsByName ∈ w_g := w_m2 117 rfl rfl
set_option maxRecDepth 20000 in
theorem w_2_118 : Cond.instanceMethod y_Layer_allowsByName ∈ w_g := w_m2 118 rfl rfl
set_option maxRecDepth 20000 in
theorem w_2_119 : Cond.selects "DecisionLayers$Layer" y_Layer_allowsByName y_Layer_allowsByName ∈ w_g := w_m2 119 rfl rfl
set_option maxRecDepth 20000 in
theorem w_2_120 : Cond.code y_Layer_allowsByName prog_4_method_9_code 3 (Option.some FieldType.boolean) ∈ w_g := w_m2 120 rfl rfl
set_option maxRecDepth 20000 in
theorem w_2_121 : Cond.methodLink "DecisionLayers$Layer" 52 y_Statement_names ∈ w_g := w_m2 121 rfl rfl
set_option maxRecDepth 20000 in
theorem w_2_122 : Cond.instanceMethod y_Statement_names ∈ w_g := w_m2 122 rfl rfl
set_option maxRecDepth 20000 in
theorem w_2_123 : Cond.selects "DecisionLayers$Statement" y_Statement_names y_Statement_names ∈ w_g := w_m2 123 rfl rfl
set_option maxRecDepth 20000 in
theorem w_2_124 : Cond.code y_Statement_names prog_6_method_6_code 2 (Option.some FieldType.boolean) ∈ w_g := w_m2 124 rfl rfl
set_option maxRecDepth 20000 in
theorem w_2_125 : Cond.methodLink "DecisionLayers" 147 y_DL_concludeFromGrants ∈ w_g := w_m2 125 rfl rfl
set_option maxRecDepth 20000 in
theorem w_2_127 : Cond.instanceMethod y_DL_concludeFromGrants ∈ w_g := w_m2 127 rfl rfl
set_option maxRecDepth 20000 in
theorem w_2_128 : Cond.code y_DL_concludeFromGrants prog_1_method_24_code 5 (Option.some FieldType.int) ∈ w_g := w_m2 128 rfl rfl
set_option maxRecDepth 20000 in
theorem w_2_129 : Cond.methodLink "DecisionLayers" 151 y_Layer_allows ∈ w_g := w_m2 129 rfl rfl
set_option maxRecDepth 20000 in
theorem w_2_130 : Cond.methodLink "DecisionLayersLaw" 67 y_DL_layer ∈ w_g := w_m2 130 rfl rfl
set_option maxRecDepth 20000 in
theorem w_2_131 : Cond.instanceMethod y_DL_layer ∈ w_g := w_m2 131 rfl rfl
set_option maxRecDepth 20000 in
theorem w_2_132 : Cond.selects "DecisionLayers" y_DL_layer y_DL_layer ∈ w_g := w_m2 132 rfl rfl
set_option maxRecDepth 20000 in
theorem w_2_133 : Cond.code y_DL_layer prog_1_method_13_code 1 (Option.some FieldType.int) ∈ w_g := w_m2 133 rfl rfl
set_option maxRecDepth 20000 in
theorem w_2_134 : Cond.methodLink "DecisionLayersLaw" 71 y_DL_applied ∈ w_g := w_m2 134 rfl rfl
set_option maxRecDepth 20000 in
theorem w_2_135 : Cond.instanceMethod y_DL_applied ∈ w_g := w_m2 135 rfl rfl
set_option maxRecDepth 20000 in
theorem w_2_136 : Cond.selects "DecisionLayers" y_DL_applied y_DL_applied ∈ w_g := w_m2 136 rfl rfl
set_option maxRecDepth 20000 in
theorem w_2_137 : Cond.code y_DL_applied prog_1_method_14_code 2 (Option.some FieldType.int) ∈ w_g := w_m2 137 rfl rfl
set_option maxRecDepth 20000 in
theorem w_2_138 : Cond.methodLink "DecisionLayersLaw" 75 y_DL_matches ∈ w_g := w_m2 138 rfl rfl
set_option maxRecDepth 20000 in
theorem w_2_139 : Cond.instanceMethod y_DL_matches ∈ w_g := w_m2 139 rfl rfl
set_option maxRecDepth 20000 in
theorem w_2_140 : Cond.selects "DecisionLayers" y_DL_matches y_DL_matches ∈ w_g := w_m2 140 rfl rfl
set_option maxRecDepth 20000 in
theorem w_2_141 : Cond.code y_DL_matches prog_1_method_15_code 6 (Option.some FieldType.boolean) ∈ w_g := w_m2 141 rfl rfl
set_option maxRecDepth 20000 in
theorem w_2_142 : Cond.methodLink "DecisionLayers" 114 y_Pattern_fits ∈ w_g := w_m2 142 rfl rfl
set_option maxRecDepth 20000 in
theorem w_2_143 : Cond.methodLink "DecisionLayersLaw" 80 y_DL_holds ∈ w_g := w_m2 143 rfl rfl
set_option maxRecDepth 20000 in
theorem w_2_144 : Cond.instanceMethod y_DL_holds ∈ w_g := w_m2 144 rfl rfl
set_option maxRecDepth 20000 in
theorem w_2_145 : Cond.selects "DecisionLayers" y_DL_holds y_DL_holds ∈ w_g := w_m2 145 rfl rfl
set_option maxRecDepth 20000 in
theorem w_2_146 : Cond.code y_DL_holds prog_1_method_16_code 3 (Option.some FieldType.boolean) ∈ w_g := w_m2 146 rfl rfl
set_option maxRecDepth 20000 in
theorem w_2_147 : Cond.methodLink "DecisionLayers" 120 y_Condition_isMet ∈ w_g := w_m2 147 rfl rfl
set_option maxRecDepth 20000 in
theorem w_2_148 : Cond.classLink "DecisionLayersLaw" 10 "DecisionLayersModel" ∈ w_g := w_m2 148 rfl rfl
set_option maxRecDepth 20000 in
theorem w_2_149 : Cond.instantiable "DecisionLayersModel" 24 ∈ w_g := w_m2 149 rfl rfl
set_option maxRecDepth 20000 in
theorem w_2_150 : Cond.methodLink "DecisionLayersLaw" 12 y_M_init ∈ w_g := w_m2 150 rfl rfl
set_option maxRecDepth 20000 in
theorem w_2_151 : Cond.instanceMethod y_M_init ∈ w_g := w_m2 151 rfl rfl
set_option maxRecDepth 20000 in
theorem w_2_152 : Cond.code y_M_init prog_11_method_1_code 1 none ∈ w_g := w_m2 152 rfl rfl
set_option maxRecDepth 20000 in
theorem w_2_153 : Cond.methodLink "DecisionLayersModel" 1 y_Object_init ∈ w_g := w_m2 153 rfl rfl
set_option maxRecDepth 20000 in
theorem w_2_154 : Cond.fieldLink "DecisionLayersModel" 7 "DecisionLayersModel" "many" "[I" ∈ w_g := w_m2 154 rfl rfl
set_option maxRecDepth 20000 in
theorem w_2_155 : Cond.fieldLink "DecisionLayersModel" 13 "DecisionLayersModel" "value" "[J" ∈ w_g := w_m2 155 rfl rfl
set_option maxRecDepth 20000 in
theorem w_2_156 : Cond.fieldLink "DecisionLayersModel" 100 "DecisionLayersModel" "made" "I" ∈ w_g := w_m2 156 rfl rfl
set_option maxRecDepth 20000 in
theorem w_2_157 : Cond.fieldLink "DecisionLayersModel" 17 "DecisionLayersModel" "kind" "[B" ∈ w_g := w_m2 157 rfl rfl
set_option maxRecDepth 20000 in
theorem w_2_158 : Cond.fieldLink "DecisionLayersModel" 21 "DecisionLayersModel" "op" "[B" ∈ w_g := w_m2 158 rfl rfl
set_option maxRecDepth 20000 in
theorem w_2_159 : Cond.fieldLink "DecisionLayersModel" 24 "DecisionLayersModel" "key" "[B" ∈ w_g := w_m2 159 rfl rfl
set_option maxRecDepth 20000 in
theorem w_2_160 : Cond.fieldLink "DecisionLayersModel" 27 "DecisionLayersModel" "marks" "[B" ∈ w_g := w_m2 160 rfl rfl
set_option maxRecDepth 20000 in
theorem w_2_161 : Cond.fieldLink "DecisionLayersModel" 30 "DecisionLayersModel" "depth" "[B" ∈ w_g := w_m2 161 rfl rfl
set_option maxRecDepth 20000 in
theorem w_2_162 : Cond.fieldLink "DecisionLayersModel" 33 "DecisionLayersModel" "asked" "[J" ∈ w_g := w_m2 162 rfl rfl
set_option maxRecDepth 20000 in
theorem w_2_163 : Cond.fieldLink "DecisionLayersModel" 36 "DecisionLayersModel" "partOf" "[I" ∈ w_g := w_m2 163 rfl rfl
set_option maxRecDepth 20000 in
theorem w_2_164 : Cond.fieldLink "DecisionLayersModel" 39 "DecisionLayersModel" "hold" "[Z" ∈ w_g := w_m2 164 rfl rfl
set_option maxRecDepth 20000 in
theorem w_2_165 : Cond.fieldLink "DecisionLayersModel" 103 "DecisionLayersModel" "piled" "I" ∈ w_g := w_m2 165 rfl rfl
set_option maxRecDepth 20000 in
theorem w_2_166 : Cond.fieldLink "DecisionLayersModel" 43 "DecisionLayersModel" "pile" "[I" ∈ w_g := w_m2 166 rfl rfl
set_option maxRecDepth 20000 in
theorem w_2_167 : Cond.fieldLink "DecisionLayersModel" 46 "DecisionLayersModel" "present" "[Z" ∈ w_g := w_m2 167 rfl rfl
set_option maxRecDepth 20000 in
theorem w_2_168 : Cond.fieldLink "DecisionLayersModel" 49 "DecisionLayersModel" "count" "[I" ∈ w_g := w_m2 168 rfl rfl
set_option maxRecDepth 20000 in
theorem w_2_169 : Cond.fieldLink "DecisionLayersModel" 52 "DecisionLayersModel" "how" "[I" ∈ w_g := w_m2 169 rfl rfl
set_option maxRecDepth 20000 in
theorem w_2_170 : Cond.fieldLink "DecisionLayersModel" 55 "DecisionLayersModel" "actions" "[J" ∈ w_g := w_m2 170 rfl rfl
set_option maxRecDepth 20000 in
theorem w_2_171 : Cond.fieldLink "DecisionLayersModel" 58 "DecisionLayersModel" "things" "[J" ∈ w_g := w_m2 171 rfl rfl
set_option maxRecDepth 20000 in
theorem w_2_172 : Cond.fieldLink "DecisionLayersModel" 61 "DecisionLayersModel" "who" "[I" ∈ w_g := w_m2 172 rfl rfl
set_option maxRecDepth 20000 in
theorem w_2_173 : Cond.fieldLink "DecisionLayersModel" 64 "DecisionLayersModel" "condition" "[I" ∈ w_g := w_m2 173 rfl rfl
set_option maxRecDepth 20000 in
theorem w_2_174 : Cond.fieldLink "DecisionLayersModel" 67 "DecisionLayersModel" "decided" "I" ∈ w_g := w_m2 174 rfl rfl
set_option maxRecDepth 20000 in
theorem w_2_175 : Cond.fieldLink "DecisionLayersModel" 71 "DecisionLayersModel" "applies" "[I" ∈ w_g := w_m2 175 rfl rfl
set_option maxRecDepth 20000 in
theorem w_2_176 : Cond.fieldLink "DecisionLayersModel" 81 "DecisionLayersModel" "tokens" "I" ∈ w_g := w_m2 176 rfl rfl
set_option maxRecDepth 20000 in
theorem w_2_177 : Cond.fieldLink "DecisionLayersModel" 74 "DecisionLayersModel" "token" "[I" ∈ w_g := w_m2 177 rfl rfl
set_option maxRecDepth 20000 in
theorem w_2_178 : Cond.laysFinal "DecisionLayersModel" "DecisionLayersModel" "many" "[I" ∈ w_g := w_m2 178 rfl rfl
set_option maxRecDepth 20000 in
theorem w_2_180 : Cond.laysFinal "DecisionLayersModel" "DecisionLayersModel" "value" "[J" ∈ w_g := w_m2 180 rfl rfl
set_option maxRecDepth 20000 in
theorem w_2_182 : Cond.lays "DecisionLayersModel" "DecisionLayersModel" "made" "I" ∈ w_g := w_m2 182 rfl rfl
set_option maxRecDepth 20000 in
theorem w_2_184 : Cond.laysFinal "DecisionLayersModel" "DecisionLayersModel" "kind" "[B" ∈ w_g := w_m2 184 rfl rfl
set_option maxRecDepth 20000 in
theorem w_2_186 : Cond.laysFinal "DecisionLayersModel" "DecisionLayersModel" "op" "[B" ∈ w_g := w_m2 186 rfl rfl
set_option maxRecDepth 20000 in
theorem w_2_188 : Cond.laysFinal "DecisionLayersModel" "DecisionLayersModel" "key" "[B" ∈ w_g := w_m2 188 rfl rfl
set_option maxRecDepth 20000 in
theorem w_2_190 : Cond.laysFinal "DecisionLayersModel" "DecisionLayersModel" "marks" "[B" ∈ w_g := w_m2 190 rfl rfl
set_option maxRecDepth 20000 in
theorem w_2_192 : Cond.laysFinal "DecisionLayersModel" "DecisionLayersModel" "depth" "[B" ∈ w_g := w_m2 192 rfl rfl
set_option maxRecDepth 20000 in
theorem w_2_194 : Cond.laysFinal "DecisionLayersModel" "DecisionLayersModel" "asked" "[J" ∈ w_g := w_m2 194 rfl rfl
set_option maxRecDepth 20000 in
theorem w_2_196 : Cond.laysFinal "DecisionLayersModel" "DecisionLayersModel" "partOf" "[I" ∈ w_g := w_m2 196 rfl rfl
set_option maxRecDepth 20000 in
theorem w_2_198 : Cond.laysFinal "DecisionLayersModel" "DecisionLayersModel" "hold" "[Z" ∈ w_g := w_m2 198 rfl rfl
set_option maxRecDepth 20000 in
theorem w_2_200 : Cond.lays "DecisionLayersModel" "DecisionLayersModel" "piled" "I" ∈ w_g := w_m2 200 rfl rfl
set_option maxRecDepth 20000 in
theorem w_2_202 : Cond.laysFinal "DecisionLayersModel" "DecisionLayersModel" "pile" "[I" ∈ w_g := w_m2 202 rfl rfl
set_option maxRecDepth 20000 in
theorem w_2_204 : Cond.laysFinal "DecisionLayersModel" "DecisionLayersModel" "present" "[Z" ∈ w_g := w_m2 204 rfl rfl
set_option maxRecDepth 20000 in
theorem w_2_206 : Cond.laysFinal "DecisionLayersModel" "DecisionLayersModel" "count" "[I" ∈ w_g := w_m2 206 rfl rfl
set_option maxRecDepth 20000 in
theorem w_2_208 : Cond.laysFinal "DecisionLayersModel" "DecisionLayersModel" "how" "[I" ∈ w_g := w_m2 208 rfl rfl
set_option maxRecDepth 20000 in
theorem w_2_210 : Cond.laysFinal "DecisionLayersModel" "DecisionLayersModel" "actions" "[J" ∈ w_g := w_m2 210 rfl rfl
set_option maxRecDepth 20000 in
theorem w_2_212 : Cond.laysFinal "DecisionLayersModel" "DecisionLayersModel" "things" "[J" ∈ w_g := w_m2 212 rfl rfl
set_option maxRecDepth 20000 in
theorem w_2_214 : Cond.laysFinal "DecisionLayersModel" "DecisionLayersModel" "who" "[I" ∈ w_g := w_m2 214 rfl rfl
set_option maxRecDepth 20000 in
theorem w_2_216 : Cond.laysFinal "DecisionLayersModel" "DecisionLayersModel" "condition" "[I" ∈ w_g := w_m2 216 rfl rfl
set_option maxRecDepth 20000 in
theorem w_2_218 : Cond.lays "DecisionLayersModel" "DecisionLayersModel" "decided" "I" ∈ w_g := w_m2 218 rfl rfl
set_option maxRecDepth 20000 in
theorem w_2_220 : Cond.laysFinal "DecisionLayersModel" "DecisionLayersModel" "applies" "[I" ∈ w_g := w_m2 220 rfl rfl
set_option maxRecDepth 20000 in
theorem w_2_222 : Cond.lays "DecisionLayersModel" "DecisionLayersModel" "tokens" "I" ∈ w_g := w_m2 222 rfl rfl
set_option maxRecDepth 20000 in
theorem w_2_224 : Cond.laysFinal "DecisionLayersModel" "DecisionLayersModel" "token" "[I" ∈ w_g := w_m2 224 rfl rfl
set_option maxRecDepth 20000 in
theorem w_2_227 : Cond.arrayClass FieldType.byte ∈ w_g := w_m2 227 rfl rfl
set_option maxRecDepth 20000 in
theorem w_2_228 : Cond.arrayClass FieldType.boolean ∈ w_g := w_m2 228 rfl rfl
set_option maxRecDepth 20000 in
theorem w_2_229 : Cond.methodLink "DecisionLayersLaw" 79 y_M_matches ∈ w_g := w_m2 229 rfl rfl
set_option maxRecDepth 20000 in
theorem w_2_230 : Cond.instanceMethod y_M_matches ∈ w_g := w_m2 230 rfl rfl
set_option maxRecDepth 20000 in
theorem w_2_231 : Cond.selects "DecisionLayersModel" y_M_matches y_M_matches ∈ w_g := w_m2 231 rfl rfl
set_option maxRecDepth 20000 in
theorem w_2_232 : Cond.code y_M_matches prog_11_method_7_code 13 (Option.some FieldType.boolean) ∈ w_g := w_m2 232 rfl rfl
set_option maxRecDepth 20000 in
theorem w_2_233 : Cond.methodLink "DecisionLayersModel" 92 y_M_meant ∈ w_g := w_m2 233 rfl rfl
set_option maxRecDepth 20000 in
theorem w_2_235 : Cond.instanceMethod y_M_meant ∈ w_g := w_m2 235 rfl rfl
set_option maxRecDepth 20000 in
theorem w_2_236 : Cond.code y_M_meant prog_11_method_6_code 11 (Option.some FieldType.boolean) ∈ w_g := w_m2 236 rfl rfl
set_option maxRecDepth 20000 in
theorem w_2_237 : Cond.methodLink "DecisionLayersModel" 84 y_M_length ∈ w_g := w_m2 237 rfl rfl
set_option maxRecDepth 20000 in
theorem w_2_238 : Cond.static y_M_length ∈ w_g := w_m2 238 rfl rfl
set_option maxRecDepth 20000 in
theorem w_2_239 : Cond.code y_M_length prog_11_method_3_code 3 (Option.some FieldType.int) ∈ w_g := w_m2 239 rfl rfl
set_option maxRecDepth 20000 in
theorem w_3_0 : Cond.methodLink "DecisionLayersModel" 77 y_M_charAt ∈ w_g := w_m3 0 rfl rfl
set_option maxRecDepth 20000 in
theorem w_3_1 : Cond.static y_M_charAt ∈ w_g := w_m3 1 rfl rfl
set_option maxRecDepth 20000 in
theorem w_3_2 : Cond.code y_M_charAt prog_11_method_2_code 3 (Option.some FieldType.int) ∈ w_g := w_m3 2 rfl rfl
set_option maxRecDepth 20000 in
theorem w_3_3 : Cond.methodLink "DecisionLayersModel" 88 y_M_add ∈ w_g := w_m3 3 rfl rfl
set_option maxRecDepth 20000 in
theorem w_3_5 : Cond.instanceMethod y_M_add ∈ w_g := w_m3 5 rfl rfl
set_option maxRecDepth 20000 in
theorem w_3_6 : Cond.code y_M_add prog_11_method_5_code 2 none ∈ w_g := w_m3 6 rfl rfl
set_option maxRecDepth 20000 in
theorem w_3_7 : Cond.methodLink "DecisionLayersModel" 96 y_M_fold ∈ w_g := w_m3 7 rfl rfl
set_option maxRecDepth 20000 in
theorem w_3_8 : Cond.static y_M_fold ∈ w_g := w_m3 8 rfl rfl
set_option maxRecDepth 20000 in
theorem w_3_9 : Cond.code y_M_fold prog_11_method_4_code 2 (Option.some FieldType.int) ∈ w_g := w_m3 9 rfl rfl
set_option maxRecDepth 20000 in
theorem w_3_10 : Cond.methodLink "DecisionLayersLaw" 19 y_M_test ∈ w_g := w_m3 10 rfl rfl
set_option maxRecDepth 20000 in
theorem w_3_11 : Cond.instanceMethod y_M_test ∈ w_g := w_m3 11 rfl rfl
set_option maxRecDepth 20000 in
theorem w_3_12 : Cond.selects "DecisionLayersModel" y_M_test y_M_test ∈ w_g := w_m3 12 rfl rfl
set_option maxRecDepth 20000 in
theorem w_3_13 : Cond.code y_M_test prog_11_method_10_code 6 (Option.some FieldType.int) ∈ w_g := w_m3 13 rfl rfl
set_option maxRecDepth 20000 in
theorem w_3_14 : Cond.methodLink "DecisionLayersModel" 106 y_M_within ∈ w_g := w_m3 14 rfl rfl
set_option maxRecDepth 20000 in
theorem w_3_15 : Cond.static y_M_within ∈ w_g := w_m3 15 rfl rfl
set_option maxRecDepth 20000 in
theorem w_3_16 : Cond.code y_M_within prog_11_method_8_code 2 (Option.some FieldType.boolean) ∈ w_g := w_m3 16 rfl rfl
set_option maxRecDepth 20000 in
theorem w_3_17 : Cond.methodLink "DecisionLayersModel" 110 y_M_put ∈ w_g := w_m3 17 rfl rfl
set_option maxRecDepth 20000 in
theorem w_3_19 : Cond.instanceMethod y_M_put ∈ w_g := w_m3 19 rfl rfl
set_option maxRecDepth 20000 in
theorem w_3_20 : Cond.code y_M_put prog_11_method_9_code 1 (Option.some FieldType.int) ∈ w_g := w_m3 20 rfl rfl
set_option maxRecDepth 20000 in
theorem w_3_21 : Cond.methodLink "DecisionLayersLaw" 24 y_M_join ∈ w_g := w_m3 21 rfl rfl
set_option maxRecDepth 20000 in
theorem w_3_22 : Cond.instanceMethod y_M_join ∈ w_g := w_m3 22 rfl rfl
set_option maxRecDepth 20000 in
theorem w_3_23 : Cond.selects "DecisionLayersModel" y_M_join y_M_join ∈ w_g := w_m3 23 rfl rfl
set_option maxRecDepth 20000 in
theorem w_3_24 : Cond.code y_M_join prog_11_method_11_code 5 (Option.some FieldType.int) ∈ w_g := w_m3 24 rfl rfl
set_option maxRecDepth 20000 in
theorem w_3_25 : Cond.methodLink "DecisionLayersLaw" 29 y_M_discard ∈ w_g := w_m3 25 rfl rfl
set_option maxRecDepth 20000 in
theorem w_3_26 : Cond.instanceMethod y_M_discard ∈ w_g := w_m3 26 rfl rfl
set_option maxRecDepth 20000 in
theorem w_3_27 : Cond.selects "DecisionLayersModel" y_M_discard y_M_discard ∈ w_g := w_m3 27 rfl rfl
set_option maxRecDepth 20000 in
theorem w_3_28 : Cond.code y_M_discard prog_11_method_12_code 1 (Option.some FieldType.boolean) ∈ w_g := w_m3 28 rfl rfl
set_option maxRecDepth 20000 in
theorem w_3_29 : Cond.methodLink "DecisionLayersLaw" 34 y_M_pile ∈ w_g := w_m3 29 rfl rfl
set_option maxRecDepth 20000 in
theorem w_3_30 : Cond.instanceMethod y_M_pile ∈ w_g := w_m3 30 rfl rfl
set_option maxRecDepth 20000 in
theorem w_3_31 : Cond.selects "DecisionLayersModel" y_M_pile y_M_pile ∈ w_g := w_m3 31 rfl rfl
set_option maxRecDepth 20000 in
theorem w_3_32 : Cond.code y_M_pile prog_11_method_13_code 1 (Option.some FieldType.int) ∈ w_g := w_m3 32 rfl rfl
set_option maxRecDepth 20000 in
theorem w_3_33 : Cond.methodLink "DecisionLayersLaw" 83 y_M_holds ∈ w_g := w_m3 33 rfl rfl
set_option maxRecDepth 20000 in
theorem w_3_34 : Cond.instanceMethod y_M_holds ∈ w_g := w_m3 34 rfl rfl
set_option maxRecDepth 20000 in
theorem w_3_35 : Cond.selects "DecisionLayersModel" y_M_holds y_M_holds ∈ w_g := w_m3 35 rfl rfl
set_option maxRecDepth 20000 in
theorem w_3_36 : Cond.code y_M_holds prog_11_method_19_code 2 (Option.some FieldType.boolean) ∈ w_g := w_m3 36 rfl rfl
set_option maxRecDepth 20000 in
theorem w_3_37 : Cond.methodLink "DecisionLayersModel" 135 y_M_settle ∈ w_g := w_m3 37 rfl rfl
set_option maxRecDepth 20000 in
theorem w_3_39 : Cond.instanceMethod y_M_settle ∈ w_g := w_m3 39 rfl rfl
set_option maxRecDepth 20000 in
theorem w_3_40 : Cond.code y_M_settle prog_11_method_18_code 3 none ∈ w_g := w_m3 40 rfl rfl
set_option maxRecDepth 20000 in
theorem w_3_41 : Cond.methodLink "DecisionLayersModel" 131 y_M_tested ∈ w_g := w_m3 41 rfl rfl
set_option maxRecDepth 20000 in
theorem w_3_43 : Cond.instanceMethod y_M_tested ∈ w_g := w_m3 43 rfl rfl
set_option maxRecDepth 20000 in
theorem w_3_44 : Cond.code y_M_tested prog_11_method_17_code 8 (Option.some FieldType.boolean) ∈ w_g := w_m3 44 rfl rfl
set_option maxRecDepth 20000 in
theorem w_3_45 : Cond.methodLink "DecisionLayersModel" 127 y_M_answers ∈ w_g := w_m3 45 rfl rfl
set_option maxRecDepth 20000 in
theorem w_3_47 : Cond.instanceMethod y_M_answers ∈ w_g := w_m3 47 rfl rfl
set_option maxRecDepth 20000 in
theorem w_3_48 : Cond.code y_M_answers prog_11_method_16_code 6 (Option.some FieldType.boolean) ∈ w_g := w_m3 48 rfl rfl
set_option maxRecDepth 20000 in
theorem w_3_49 : Cond.methodLink "DecisionLayersModel" 116 y_M_sameText ∈ w_g := w_m3 49 rfl rfl
set_option maxRecDepth 20000 in
theorem w_3_50 : Cond.static y_M_sameText ∈ w_g := w_m3 50 rfl rfl
set_option maxRecDepth 20000 in
theorem w_3_51 : Cond.code y_M_sameText prog_11_method_14_code 6 (Option.some FieldType.boolean) ∈ w_g := w_m3 51 rfl rfl
set_option maxRecDepth 20000 in
theorem w_3_52 : Cond.methodLink "DecisionLayersModel" 120 y_M_matches ∈ w_g := w_m3 52 rfl rfl
set_option maxRecDepth 20000 in
theorem w_3_53 : Cond.methodLink "DecisionLayersModel" 124 y_M_sameBits ∈ w_g := w_m3 53 rfl rfl
set_option maxRecDepth 20000 in
theorem w_3_54 : Cond.static y_M_sameBits ∈ w_g := w_m3 54 rfl rfl
set_option maxRecDepth 20000 in
theorem w_3_55 : Cond.code y_M_sameBits prog_11_method_15_code 7 (Option.some FieldType.boolean) ∈ w_g := w_m3 55 rfl rfl
set_option maxRecDepth 20000 in
theorem w_3_56 : Cond.constantLong "DecisionLayersModel" 114 (63 : Int64) ∈ w_g := w_m3 56 rfl rfl
set_option maxRecDepth 20000 in
theorem w_3_57 : Cond.methodLink "DecisionLayersLaw" 39 y_M_state ∈ w_g := w_m3 57 rfl rfl
set_option maxRecDepth 20000 in
theorem w_3_58 : Cond.instanceMethod y_M_state ∈ w_g := w_m3 58 rfl rfl
set_option maxRecDepth 20000 in
theorem w_3_59 : Cond.selects "DecisionLayersModel" y_M_state y_M_state ∈ w_g := w_m3 59 rfl rfl
set_option maxRecDepth 20000 in
theorem w_3_60 : Cond.code y_M_state prog_11_method_20_code 10 (Option.some FieldType.int) ∈ w_g := w_m3 60 rfl rfl
set_option maxRecDepth 20000 in
theorem w_3_61 : Cond.methodLink "DecisionLayersLaw" 44 y_M_open ∈ w_g := w_m3 61 rfl rfl
set_option maxRecDepth 20000 in
theorem w_3_62 : Cond.instanceMethod y_M_open ∈ w_g := w_m3 62 rfl rfl
set_option maxRecDepth 20000 in
theorem w_3_63 : Cond.selects "DecisionLayersModel" y_M_open y_M_open ∈ w_g := w_m3 63 rfl rfl
set_option maxRecDepth 20000 in
theorem w_3_64 : Cond.code y_M_open prog_11_method_21_code 2 (Option.some FieldType.boolean) ∈ w_g := w_m3 64 rfl rfl
set_option maxRecDepth 20000 in
theorem w_3_65 : Cond.methodLink "DecisionLayersLaw" 48 y_M_drop ∈ w_g := w_m3 65 rfl rfl
set_option maxRecDepth 20000 in
theorem w_3_66 : Cond.instanceMethod y_M_drop ∈ w_g := w_m3 66 rfl rfl
set_option maxRecDepth 20000 in
theorem w_3_67 : Cond.selects "DecisionLayersModel" y_M_drop y_M_drop ∈ w_g := w_m3 67 rfl rfl
set_option maxRecDepth 20000 in
theorem w_3_68 : Cond.code y_M_drop prog_11_method_22_code 2 (Option.some FieldType.boolean) ∈ w_g := w_m3 68 rfl rfl
set_option maxRecDepth 20000 in
theorem w_3_69 : Cond.methodLink "DecisionLayersLaw" 53 y_M_statements ∈ w_g := w_m3 69 rfl rfl
set_option maxRecDepth 20000 in
theorem w_3_70 : Cond.instanceMethod y_M_statements ∈ w_g := w_m3 70 rfl rfl
set_option maxRecDepth 20000 in
theorem w_3_71 : Cond.selects "DecisionLayersModel" y_M_statements y_M_statements ∈ w_g := w_m3 71 rfl rfl
set_option maxRecDepth 20000 in
theorem w_3_72 : Cond.code y_M_statements prog_11_method_23_code 2 (Option.some FieldType.int) ∈ w_g := w_m3 72 rfl rfl
set_option maxRecDepth 20000 in
theorem w_3_73 : Cond.methodLink "DecisionLayersLaw" 58 y_M_offer ∈ w_g := w_m3 73 rfl rfl
set_option maxRecDepth 20000 in
theorem w_3_74 : Cond.instanceMethod y_M_offer ∈ w_g := w_m3 74 rfl rfl
set_option maxRecDepth 20000 in
theorem w_3_75 : Cond.selects "DecisionLayersModel" y_M_offer y_M_offer ∈ w_g := w_m3 75 rfl rfl
set_option maxRecDepth 20000 in
theorem w_3_76 : Cond.code y_M_offer prog_11_method_24_code 4 (Option.some FieldType.int) ∈ w_g := w_m3 76 rfl rfl
set_option maxRecDepth 20000 in
theorem w_3_77 : Cond.methodLink "DecisionLayersLaw" 62 y_M_forget ∈ w_g := w_m3 77 rfl rfl
set_option maxRecDepth 20000 in
theorem w_3_78 : Cond.instanceMethod y_M_forget ∈ w_g := w_m3 78 rfl rfl
set_option maxRecDepth 20000 in
theorem w_3_79 : Cond.selects "DecisionLayersModel" y_M_forget y_M_forget ∈ w_g := w_m3 79 rfl rfl
set_option maxRecDepth 20000 in
theorem w_3_80 : Cond.code y_M_forget prog_11_method_25_code 3 (Option.some FieldType.int) ∈ w_g := w_m3 80 rfl rfl
set_option maxRecDepth 20000 in
theorem w_3_81 : Cond.methodLink "DecisionLayersLaw" 66 y_M_decide ∈ w_g := w_m3 81 rfl rfl
set_option maxRecDepth 20000 in
theorem w_3_82 : Cond.instanceMethod y_M_decide ∈ w_g := w_m3 82 rfl rfl
set_option maxRecDepth 20000 in
theorem w_3_83 : Cond.selects "DecisionLayersModel" y_M_decide y_M_decide ∈ w_g := w_m3 83 rfl rfl
set_option maxRecDepth 20000 in
theorem w_3_84 : Cond.code y_M_decide prog_11_method_29_code 11 (Option.some FieldType.int) ∈ w_g := w_m3 84 rfl rfl
set_option maxRecDepth 20000 in
theorem w_3_85 : Cond.methodLink "DecisionLayersModel" 138 y_M_does ∈ w_g := w_m3 85 rfl rfl
set_option maxRecDepth 20000 in
theorem w_3_87 : Cond.instanceMethod y_M_does ∈ w_g := w_m3 87 rfl rfl
set_option maxRecDepth 20000 in
theorem w_3_88 : Cond.code y_M_does prog_11_method_26_code 11 (Option.some FieldType.boolean) ∈ w_g := w_m3 88 rfl rfl
set_option maxRecDepth 20000 in
theorem w_3_89 : Cond.methodLink "DecisionLayersModel" 142 y_M_some ∈ w_g := w_m3 89 rfl rfl
set_option maxRecDepth 20000 in
theorem w_3_91 : Cond.instanceMethod y_M_some ∈ w_g := w_m3 91 rfl rfl
set_option maxRecDepth 20000 in
theorem w_3_92 : Cond.code y_M_some prog_11_method_27_code 8 (Option.some FieldType.boolean) ∈ w_g := w_m3 92 rfl rfl
set_option maxRecDepth 20000 in
theorem w_3_93 : Cond.methodLink "DecisionLayersModel" 146 y_M_answer ∈ w_g := w_m3 93 rfl rfl
set_option maxRecDepth 20000 in
theorem w_3_95 : Cond.instanceMethod y_M_answer ∈ w_g := w_m3 95 rfl rfl
set_option maxRecDepth 20000 in
theorem w_3_96 : Cond.code y_M_answer prog_11_method_28_code 3 (Option.some FieldType.int) ∈ w_g := w_m3 96 rfl rfl
set_option maxRecDepth 20000 in
theorem w_3_97 : Cond.methodLink "DecisionLayersLaw" 70 y_M_layer ∈ w_g := w_m3 97 rfl rfl
set_option maxRecDepth 20000 in
theorem w_3_98 : Cond.instanceMethod y_M_layer ∈ w_g := w_m3 98 rfl rfl
set_option maxRecDepth 20000 in
theorem w_3_99 : Cond.selects "DecisionLayersModel" y_M_layer y_M_layer ∈ w_g := w_m3 99 rfl rfl
set_option maxRecDepth 20000 in
theorem w_3_100 : Cond.code y_M_layer prog_11_method_30_code 1 (Option.some FieldType.int) ∈ w_g := w_m3 100 rfl rfl
set_option maxRecDepth 20000 in
theorem w_3_101 : Cond.methodLink "DecisionLayersLaw" 74 y_M_applied ∈ w_g := w_m3 101 rfl rfl
set_option maxRecDepth 20000 in
theorem w_3_102 : Cond.instanceMethod y_M_applied ∈ w_g := w_m3 102 rfl rfl
set_option maxRecDepth 20000 in
theorem w_3_103 : Cond.selects "DecisionLayersModel" y_M_applied y_M_applied ∈ w_g := w_m3 103 rfl rfl
set_option maxRecDepth 20000 in
theorem w_3_104 : Cond.code y_M_applied prog_11_method_31_code 2 (Option.some FieldType.int) ∈ w_g := w_m3 104 rfl rfl
set_option maxRecDepth 20000 in
theorem w_3_105 : Cond.constantLong "DecisionLayersLaw" 13 (4294967295 : Int64) ∈ w_g := w_m3 105 rfl rfl
set_option maxRecDepth 20000 in
theorem w_0_0 : Cond.selects "DecisionLayers" y_DL_push y_DL_push ∈ w_g := w_m0 0 rfl rfl
set_option maxRecDepth 20000 in
theorem w_0_1 : Cond.selects "DecisionLayers" y_DL_greatestDepthOfTopmost y_DL_greatestDepthOfTopmost ∈ w_g := w_m0 1 rfl rfl
set_option maxRecDepth 20000 in
theorem w_0_2 : Cond.selects "DecisionLayers" y_DL_pop y_DL_pop ∈ w_g := w_m0 2 rfl rfl
set_option maxRecDepth 20000 in
theorem w_0_3 : Cond.selects "DecisionLayers$Statement" y_Statement_means y_Statement_means ∈ w_g := w_m0 3 rfl rfl
set_option maxRecDepth 20000 in
theorem w_0_4 : Cond.selects "DecisionLayers$Test" y_Test_saysYes y_Test_saysYes ∈ w_g := w_m0 4 rfl rfl
set_option maxRecDepth 20000 in
theorem w_0_5 : Cond.selects "DecisionLayers$Test" y_Test_hasPrefix y_Test_hasPrefix ∈ w_g := w_m0 5 rfl rfl
set_option maxRecDepth 20000 in
theorem w_0_6 : Cond.selects "DecisionLayers" y_DL_conclude y_DL_conclude ∈ w_g := w_m0 6 rfl rfl
set_option maxRecDepth 20000 in
theorem w_0_7 : Cond.selects "DecisionLayers$Layer" y_Layer_hasJudged y_Layer_hasJudged ∈ w_g := w_m0 7 rfl rfl
set_option maxRecDepth 20000 in
theorem w_0_8 : Cond.selects "DecisionLayers$Layer" y_Layer_isJudged y_Layer_isJudged ∈ w_g := w_m0 8 rfl rfl
set_option maxRecDepth 20000 in
theorem w_0_9 : Cond.selects "DecisionLayers" y_DL_settle y_DL_settle ∈ w_g := w_m0 9 rfl rfl
set_option maxRecDepth 20000 in
theorem w_0_10 : Cond.selects "DecisionLayers" y_DL_concludeFromGrants y_DL_concludeFromGrants ∈ w_g := w_m0 10 rfl rfl
set_option maxRecDepth 20000 in
theorem w_0_11 : Cond.selects "DecisionLayersModel" y_M_meant y_M_meant ∈ w_g := w_m0 11 rfl rfl
set_option maxRecDepth 20000 in
theorem w_0_12 : Cond.selects "DecisionLayersModel" y_M_add y_M_add ∈ w_g := w_m0 12 rfl rfl
set_option maxRecDepth 20000 in
theorem w_0_13 : Cond.selects "DecisionLayersModel" y_M_put y_M_put ∈ w_g := w_m0 13 rfl rfl
set_option maxRecDepth 20000 in
theorem w_0_14 : Cond.selects "DecisionLayersModel" y_M_settle y_M_settle ∈ w_g := w_m0 14 rfl rfl
set_option maxRecDepth 20000 in
theorem w_0_15 : Cond.selects "DecisionLayersModel" y_M_tested y_M_tested ∈ w_g := w_m0 15 rfl rfl
set_option maxRecDepth 20000 in
theorem w_0_16 : Cond.selects "DecisionLayersModel" y_M_answers y_M_answers ∈ w_g := w_m0 16 rfl rfl
set_option maxRecDepth 20000 in
theorem w_0_17 : Cond.selects "DecisionLayersModel" y_M_does y_M_does ∈ w_g := w_m0 17 rfl rfl
set_option maxRecDepth 20000 in
theorem w_0_18 : Cond.selects "DecisionLayersModel" y_M_some y_M_some ∈ w_g := w_m0 18 rfl rfl
set_option maxRecDepth 20000 in
theorem w_0_19 : Cond.selects "DecisionLayersModel" y_M_answer y_M_answer ∈ w_g := w_m0 19 rfl rfl
set_option maxRecDepth 20000 in
theorem in_Values : ∀ w ∈ u_ws "DecisionLayers$Values" F_Values 2, w ∈ w_g := by decide +kernel
set_option maxRecDepth 20000 in
theorem in_Layer : ∀ w ∈ u_ws "DecisionLayers$Layer" F_Layer 4, w ∈ w_g := by decide +kernel
set_option maxRecDepth 20000 in
theorem in_Statement : ∀ w ∈ u_ws "DecisionLayers$Statement" F_Statement 5, w ∈ w_g := by decide +kernel
set_option maxRecDepth 20000 in
theorem in_Test : ∀ w ∈ u_ws "DecisionLayers$Test" F_Test 5, w ∈ w_g := by decide +kernel
set_option maxRecDepth 20000 in
theorem in_Joined : ∀ w ∈ u_ws "DecisionLayers$Joined" F_Joined 3, w ∈ w_g := by decide +kernel
set_option maxRecDepth 20000 in
theorem in_DL : ∀ w ∈ u_ws "DecisionLayers" F_DL 5, w ∈ w_g := by decide +kernel
set_option maxRecDepth 20000 in
theorem in_M : ∀ w ∈ u_ws "DecisionLayersModel" F_M 24, w ∈ w_g := by decide +kernel
end
section
/-! the document's words as mathematics: booleans, texts, patterns. Both programs are tied to these values. -/
/-- a boolean as the machine holds it -/
def bI (b : Bool) : Int32 := if b then 1 else 0
theorem bI_t : bI true = 1 := rfl
theorem bI_f : bI false = 0 := rfl
theorem bI_0 {b : Bool} : bI b = 0 ↔ b = false := by cases b <;> decide
theorem bI_n0 {b : Bool} : ¬ bI b = 0 ↔ b = true := by cases b <;> decide
theorem bI_1 {b : Bool} : bI b = 1 ↔ b = true := by cases b <;> decide
theorem bI_n1 {b : Bool} : ¬ bI b = 1 ↔ b = false := by cases b <;> decide
theorem bI_eq {a b : Bool} : bI a = bI b ↔ a = b := by cases a <;> cases b <;> decide
theorem bI_of {P : Prop} [Decidable P] (h : P) : bI (decide P) = 1 := by rw [decide_eq_true h]; rfl
theorem bI_no {P : Prop} [Decidable P] (h : ¬ P) : bI (decide P) = 0 := by rw [decide_eq_false h]; rfl
theorem bI_z (b : Bool) : narrow .boolean (.int (bI b)) = .int (bI b) := by cases b <;> rfl
theorem bI_fit (b : Bool) : fits .boolean (.int (bI b)) = true := by cases b <;> rfl
/-- texts: the word that begins at character k, and the character -/
def tx_w (x : Int64) (k : Nat) : Int64 := (x.toUInt64 >>> (((8 : Int32) * nI k).toInt64.toUInt64 &&& Int64.toUInt64 63)).toInt64
def tx_c (x : Int64) (k : Nat) : Int32 := (tx_w x k).toInt32 &&& 255
theorem lN_and255 (w : Int64) : ∃ j : Nat, j < 256 ∧ w &&& 255 = lN j := by
  refine ⟨(w &&& 255).toBitVec.toNat, ?_, ?_⟩
  · rw [Int64.toBitVec_and, BitVec.toNat_and]
    exact Nat.and_lt_two_pow _ (n := 8) (by decide)
  · apply Int64.toBitVec_inj.1
    show (w &&& 255).toBitVec = BitVec.ofNat 64 _
    rw [BitVec.ofNat_toNat, BitVec.setWidth_eq]
theorem tx_z (w : Int64) : (w &&& 255) = 0 ↔ (w.toInt32 &&& 255) = 0 := by
  have h1 : w.toInt32 &&& 255 = (w &&& 255).toInt32 := by rw [Int64.toInt32_and]; rfl
  rw [h1]
  obtain ⟨j, hj, e⟩ := lN_and255 w
  rw [e, lN_i]
  constructor
  · intro h
    have : lN j = lN 0 := h
    rw [(lN_eq (by omega) (by omega)).mp this]
    rfl
  · intro h
    have : nI j = nI 0 := h
    rw [(nI_eq (by omega) (by omega)).mp this]
    rfl
theorem tx_c_lt (x : Int64) (k : Nat) : ∃ j : Nat, j < 256 ∧ tx_c x k = nI j := pk_andE (tx_w x k).toInt32 8 (by decide)
def tx_f (x : Int64) : Nat → Nat → Nat
  | 0, k => k
  | f + 1, k => if tx_c x k = 0 then k else tx_f x f (k + 1)
/-- a text's length -/
def tx_n (x : Int64) : Nat := tx_f x 8 0
theorem tx_f_spec (x : Int64) : ∀ f k, k ≤ tx_f x f k ∧ tx_f x f k ≤ k + f ∧ (∀ j, k ≤ j → j < tx_f x f k → tx_c x j ≠ 0) ∧ (tx_f x f k < k + f → tx_c x (tx_f x f k) = 0) := by
  intro f
  induction f with
  | zero => intro k; exact ⟨Nat.le_refl _, Nat.le_refl _, fun j h1 h2 => absurd h1 (Nat.not_le.mpr h2), fun h => absurd h (Nat.lt_irrefl _)⟩
  | succ f ih =>
    intro k
    unfold tx_f
    by_cases h : tx_c x k = 0
    · rw [if_pos h]
      exact ⟨Nat.le_refl _, Nat.le_add_right _ _, fun j h1 h2 => absurd h1 (Nat.not_le.mpr h2), fun _ => h⟩
    · rw [if_neg h]
      obtain ⟨a, b, c, d⟩ := ih (k + 1)
      refine ⟨by omega, by omega, fun j h1 h2 => ?_, fun h3 => d (by omega)⟩
      by_cases hj : j = k
      · rw [hj]; exact h
      · exact c j (by omega) h2
theorem tx_le (x : Int64) : tx_n x ≤ 8 := by have := (tx_f_spec x 8 0).2.1; unfold tx_n; omega
theorem tx_nz {x : Int64} {j : Nat} (h : j < tx_n x) : tx_c x j ≠ 0 := (tx_f_spec x 8 0).2.2.1 j (Nat.zero_le _) h
theorem tx_at {x : Int64} (h : tx_n x < 8) : tx_c x (tx_n x) = 0 := (tx_f_spec x 8 0).2.2.2 (by unfold tx_n at h; omega)
theorem tx_is {x : Int64} {k : Nat} (h8 : k ≤ 8) (h : ∀ j, j < k → tx_c x j ≠ 0) (he : k = 8 ∨ tx_c x k = 0) : tx_n x = k := by
  rcases Nat.lt_trichotomy (tx_n x) k with h1 | h1 | h1
  · exact absurd (tx_at (by omega)) (h _ h1)
  · exact h1
  · rcases he with h2 | h2
    · have := tx_le x; omega
    · exact absurd h2 (tx_nz h1)
/-- equal texts -/
def tx_same (a b : Int64) : Bool := decide (tx_n a = tx_n b ∧ ∀ j, j < tx_n a → tx_c a j = tx_c b j)
/-- a letter, where capitals don't count -/
def tx_lo (c : Int32) (lo : Bool) : Int32 := if lo = true ∧ 65 ≤ c ∧ c ≤ 90 then c + 32 else c
theorem tx_lo_f (c : Int32) : tx_lo c false = c := by simp [tx_lo]
theorem tx_lo_y {c : Int32} (h1 : 65 ≤ c) (h2 : c ≤ 90) : tx_lo c true = c + 32 := by simp [tx_lo, h1, h2]
theorem tx_lo_n1 {c : Int32} (h1 : ¬ 65 ≤ c) : tx_lo c true = c := by simp [tx_lo, h1]
theorem tx_lo_n2 {c : Int32} (h1 : ¬ c ≤ 90) : tx_lo c true = c := by simp [tx_lo, h1]
/-- one character as a text of its own -/
theorem tx_one : ∀ n : Nat, n < 256 → 0 < n → tx_n (nI n).toInt64 = 1 ∧ tx_c (nI n).toInt64 0 = nI n := by decide +kernel
/-! sets of places, as bits -/
theorem nI_or (a b : Nat) : nI a ||| nI b = nI (a ||| b) := by
  apply Int32.toBitVec_inj.1
  rw [Int32.toBitVec_or]
  show BitVec.ofNat 32 a ||| BitVec.ofNat 32 b = BitVec.ofNat 32 (a ||| b)
  exact (BitVec.ofNat_or).symm
theorem pl_bu : ∀ q : Nat, q < 512 → ∀ i : Nat, i < 9 → (((nI q).toUInt32 >>> ((nI i).toUInt32 &&& Int32.toUInt32 31)).toInt32 &&& 1) = bI (q.testBit i) := by decide +kernel
theorem pl_bs : ∀ q : Nat, q < 512 → ∀ i : Nat, i < 9 → (nI q >>> (nI i &&& 31)) &&& 1 = bI (q.testBit i) := by decide +kernel
theorem pl_s1 : ∀ i : Nat, i < 16 → (1 : Int32) <<< (nI i &&& 31) = nI (2 ^ i) := by decide +kernel
theorem pl_s2 : ∀ i : Nat, i < 16 → (2 : Int32) <<< (nI i &&& 31) = nI (2 ^ (i + 1)) := by decide +kernel
/-- any row of characters: from each place of q that lies under k, all places up to n -/
def pl_s (n q : Nat) : Nat → Nat
  | 0 => 0
  | k + 1 => if q.testBit k then pl_s n q k ||| (2 ^ (n + 1) - 2 ^ k) else pl_s n q k
/-- one character: from each place i of q that lies under k and where P i, the next -/
def pl_c (P : Nat → Bool) (q : Nat) : Nat → Nat
  | 0 => 0
  | k + 1 => if q.testBit k && P k then pl_c P q k ||| 2 ^ (k + 1) else pl_c P q k
theorem pl_c_lt (P : Nat → Bool) (q : Nat) : ∀ k, pl_c P q k < 2 ^ (k + 1) := by
  intro k
  induction k with
  | zero => exact Nat.two_pow_pos _
  | succ k ih =>
    unfold pl_c
    have h2 : pl_c P q k < 2 ^ (k + 1 + 1) := Nat.lt_trans ih (Nat.pow_lt_pow_right (by omega) (by omega))
    by_cases h : (q.testBit k && P k) = true
    · rw [if_pos h]
      exact Nat.or_lt_two_pow h2 (Nat.pow_lt_pow_right (by omega) (by omega))
    · rw [if_neg h]; exact h2
theorem pl_c_lt' {P : Nat → Bool} {q k n : Nat} (h : k ≤ n) : pl_c P q k < 2 ^ (n + 1) := Nat.lt_of_lt_of_le (pl_c_lt P q k) (Nat.pow_le_pow_right (by omega) (by omega))
theorem pl_s_lt {n q : Nat} : ∀ k, pl_s n q k < 2 ^ (n + 1) := by
  intro k
  induction k with
  | zero => exact Nat.two_pow_pos _
  | succ k ih =>
    unfold pl_s
    by_cases h : q.testBit k = true
    · rw [if_pos h]
      exact Nat.or_lt_two_pow ih (by have := Nat.two_pow_pos k; have := Nat.two_pow_pos (n + 1); omega)
    · rw [if_neg h]; exact ih
theorem pl_512 {n q : Nat} (hn : n ≤ 8) (h : q < 2 ^ (n + 1)) : q < 512 := Nat.lt_of_lt_of_le h (Nat.le_trans (Nat.pow_le_pow_right (by omega) (show n + 1 ≤ 9 by omega)) (by decide))
/-- what the class computes for any row, and for any one -/
theorem pl_any : ∀ n : Nat, n < 9 → ∀ q : Nat, q < 512 → q < 2 ^ (n + 1) → (-(nI q &&& -nI q)) &&& (((2 : Int32) <<< (nI n &&& 31)) - 1) = nI (pl_s n q (n + 1)) := by decide +kernel
theorem pl_one : ∀ n : Nat, n < 9 → ∀ q : Nat, q < 512 → q < 2 ^ (n + 1) → (nI q <<< ((1 : Int32) &&& 31)) &&& (((2 : Int32) <<< (nI n &&& 31)) - 1) = nI (pl_c (fun _ => true) q n) := by decide +kernel
/-- the bits from i up to j, one more -/
theorem pl_rg : ∀ i : Nat, i < 9 → ∀ j : Nat, j < 9 → i ≤ j → (2 ^ j - 2 ^ i) ||| 2 ^ j = 2 ^ (j + 1) - 2 ^ i := by decide +kernel
/-! patterns -/
/-- a character of a pattern that isn't the dollar: 256 any row, 257 any one -/
def pt_t (c : Int32) : Int32 := if c = 42 then 256 else if c = 63 then 257 else c
def pt_v (x : Int64) : List Int32 := (List.range (tx_n x)).map (tx_c x)
def pt_e (d : Int32) : Bool := decide (d = 36 ∨ d = 42 ∨ d = 63)
def pt_y (cnt : Nat → Int32) (d : Int32) : Bool := decide (0 ≤ d - 48 ∧ d - 48 ≤ 7 ∧ cnt (d - 48).toNatClampNeg = 1)
/-- what stands behind a dollar means -/
def pt_d (cnt : Nat → Int32) (row : Nat → Int64) (d : Int32) : Option (List Int32) := if pt_e d then some [d] else if pt_y cnt d then some (pt_v (row (4 * (d - 48).toNatClampNeg))) else none
/-- the tokens of a pattern's last r places; none where it means nothing -/
def pt_k (cnt : Nat → Int32) (row : Nat → Int64) (x : Int64) : Nat → Option (List Int32)
  | 0 => some []
  | 1 => if tx_c x (tx_n x - 1) = 36 then none else some [pt_t (tx_c x (tx_n x - 1))]
  | r + 2 => if tx_c x (tx_n x - (r + 2)) = 36 then (pt_d cnt row (tx_c x (tx_n x - (r + 1)))).bind (fun v => (pt_k cnt row x r).map (v ++ ·)) else (pt_k cnt row x (r + 1)).map (pt_t (tx_c x (tx_n x - (r + 2))) :: ·)
theorem pt_k_c {cnt : Nat → Int32} {row : Nat → Int64} {x : Int64} {i r : Nat} (h : i + (r + 1) = tx_n x) (hc : ¬ tx_c x i = 36) : pt_k cnt row x (r + 1) = (pt_k cnt row x r).map (pt_t (tx_c x i) :: ·) := by
  cases r with
  | zero =>
    have e : tx_n x - 1 = i := by omega
    show (if tx_c x (tx_n x - 1) = 36 then none else some [pt_t (tx_c x (tx_n x - 1))]) = _
    rw [e, if_neg hc]; rfl
  | succ r =>
    have e : tx_n x - (r + 2) = i := by omega
    show (if tx_c x (tx_n x - (r + 2)) = 36 then _ else _) = _
    rw [e, if_neg hc]
theorem pt_k_e {cnt : Nat → Int32} {row : Nat → Int64} {x : Int64} {i : Nat} (h : i + 1 = tx_n x) (hc : tx_c x i = 36) : pt_k cnt row x 1 = none := by
  have e : tx_n x - 1 = i := by omega
  show (if tx_c x (tx_n x - 1) = 36 then none else some [pt_t (tx_c x (tx_n x - 1))]) = _
  rw [e, if_pos hc]
theorem pt_k_d {cnt : Nat → Int32} {row : Nat → Int64} {x : Int64} {i r : Nat} (h : i + (r + 2) = tx_n x) (hc : tx_c x i = 36) : pt_k cnt row x (r + 2) = (pt_d cnt row (tx_c x (i + 1))).bind (fun v => (pt_k cnt row x r).map (v ++ ·)) := by
  have e : tx_n x - (r + 2) = i := by omega
  have e2 : tx_n x - (r + 1) = i + 1 := by omega
  show (if tx_c x (tx_n x - (r + 2)) = 36 then (pt_d cnt row (tx_c x (tx_n x - (r + 1)))).bind (fun v => (pt_k cnt row x r).map (v ++ ·)) else _) = _
  rw [e, e2, if_pos hc]
/-- one token read -/
def pt_s (y : Int64) (lo : Bool) (t : Int32) (q : Nat) : Nat := if t = 256 then pl_s (tx_n y) q (tx_n y + 1) else pl_c (fun i => decide (t = 257) || decide (tx_lo t lo = tx_lo (tx_c y i) lo)) q (tx_n y)
def pt_r (y : Int64) (lo : Bool) : List Int32 → Nat → Nat
  | [], q => q
  | t :: ts, q => pt_r y lo ts (pt_s y lo t q)
theorem pt_r_app (y : Int64) (lo : Bool) (a b : List Int32) (q : Nat) : pt_r y lo (a ++ b) q = pt_r y lo b (pt_r y lo a q) := by
  induction a generalizing q with
  | nil => rfl
  | cons t ts ih => exact ih _
theorem pt_s_lt (y : Int64) (lo : Bool) (t : Int32) (q : Nat) : pt_s y lo t q < 2 ^ (tx_n y + 1) := by
  unfold pt_s
  by_cases h : t = 256
  · rw [if_pos h]; exact pl_s_lt _
  · rw [if_neg h]; exact pl_c_lt _ _ _
theorem pt_r_lt (y : Int64) (lo : Bool) (ts : List Int32) {q : Nat} (h : q < 2 ^ (tx_n y + 1)) : pt_r y lo ts q < 2 ^ (tx_n y + 1) := by
  induction ts generalizing q with
  | nil => exact h
  | cons t ts ih => exact ih (pt_s_lt y lo t q)
/-- does the pattern x match the text y -/
def pt_m (cnt : Nat → Int32) (row : Nat → Int64) (x y : Int64) (lo : Bool) : Bool := match pt_k cnt row x (tx_n x) with
  | none => false
  | some ts => (pt_r y lo ts 1).testBit (tx_n y)
end
section
/-! rows of our own over the kit's: one cell at a time, what else stays; loops, joins, ends, calls -/
section XR
variable {p : Program} {l : Launch} {e : Env} {R : Room} {s : State} {m : MethodId} {args : Array Value} {below : List Frame} {meth : Method} {c : Code} {H : Heap} {locs : List Loc} {cells slots : Nat} {Q : State → Prop}
variable {pc : Nat} {ls : Array Slot} {rest : List Value}
theorem x_topi {x y : Int32} (h : x = y) (k : W p l e R s m args below meth c H locs cells slots Q (F0 m pc ls (.int y :: rest))) : W p l e R s m args below meth c H locs cells slots Q (F0 m pc ls (.int x :: rest)) := by rw [h]; exact k
theorem x_topl {x y : Int64} (h : x = y) (k : W p l e R s m args below meth c H locs cells slots Q (F0 m pc ls (.long y :: rest))) : W p l e R s m args below meth c H locs cells slots Q (F0 m pc ls (.long x :: rest)) := by rw [h]; exact k
theorem x_topv {x y : Value} (h : x = y) (k : W p l e R s m args below meth c H locs cells slots Q (F0 m pc ls (y :: rest))) : W p l e R s m args below meth c H locs cells slots Q (F0 m pc ls (x :: rest)) := by rw [h]; exact k
theorem x_topi2 {x y : Int32} {v : Value} (h : x = y) (k : W p l e R s m args below meth c H locs cells slots Q (F0 m pc ls (v :: .int y :: rest))) : W p l e R s m args below meth c H locs cells slots Q (F0 m pc ls (v :: .int x :: rest)) := by rw [h]; exact k
/-- a loop whose heap stays: I n ls, n falls -/
theorem x_loop {st : List Value} (I : Nat → Array Slot → Prop)
    (hs : ∀ (n : Nat) (ls : Array Slot), (∀ (n' : Nat) (ls' : Array Slot), n' < n → I n' ls' → W p l e R s m args below meth c H locs cells slots Q (F0 m pc ls' st)) → I n ls → W p l e R s m args below meth c H locs cells slots Q (F0 m pc ls st))
    (n : Nat) (h : I n ls) : W p l e R s m args below meth c H locs cells slots Q (F0 m pc ls st) := by
  have key : ∀ (n : Nat) (ls : Array Slot), I n ls → W p l e R s m args below meth c H locs cells slots Q (F0 m pc ls st) := by
    intro n
    induction n using Nat.strongRecOn with
    | _ n ih => intro ls h; exact hs n ls (fun n' ls' hn hi => ih n' hn ls' hi) h
  exact key n ls h
/-- a loop whose heap changes -/
theorem x_loopH {st : List Value} (I : Nat → Array Slot → Heap → List Loc → Prop)
    (hs : ∀ (n : Nat) (ls : Array Slot) (H : Heap) (locs : List Loc), (∀ (n' : Nat) (ls' : Array Slot) (H' : Heap) (locs' : List Loc), n' < n → I n' ls' H' locs' → W p l e R s m args below meth c H' locs' cells slots Q (F0 m pc ls' st)) → I n ls H locs → W p l e R s m args below meth c H locs cells slots Q (F0 m pc ls st))
    (n : Nat) (h : I n ls H locs) : W p l e R s m args below meth c H locs cells slots Q (F0 m pc ls st) := by
  have key : ∀ (n : Nat) (ls : Array Slot) (H : Heap) (locs : List Loc), I n ls H locs → W p l e R s m args below meth c H locs cells slots Q (F0 m pc ls st) := by
    intro n
    induction n using Nat.strongRecOn with
    | _ n ih => intro ls H locs h; exact hs n ls H locs (fun n' ls' H' locs' hn hi => ih n' hn ls' H' locs' hi) h
  exact key n ls H locs h
/-- a loop whose heap and room grow -/
theorem x_loopG {st : List Value} (I : Nat → Array Slot → Heap → List Loc → Nat → Nat → Prop)
    (hs : ∀ (n : Nat) (ls : Array Slot) (H : Heap) (locs : List Loc) (cells slots : Nat), (∀ (n' : Nat) (ls' : Array Slot) (H' : Heap) (locs' : List Loc) (cells' slots' : Nat), n' < n → I n' ls' H' locs' cells' slots' → W p l e R s m args below meth c H' locs' cells' slots' Q (F0 m pc ls' st)) → I n ls H locs cells slots → W p l e R s m args below meth c H locs cells slots Q (F0 m pc ls st))
    (n : Nat) (h : I n ls H locs cells slots) : W p l e R s m args below meth c H locs cells slots Q (F0 m pc ls st) := by
  have key : ∀ (n : Nat) (ls : Array Slot) (H : Heap) (locs : List Loc) (cells slots : Nat), I n ls H locs cells slots → W p l e R s m args below meth c H locs cells slots Q (F0 m pc ls st) := by
    intro n
    induction n using Nat.strongRecOn with
    | _ n ih => intro ls H locs cells slots h; exact hs n ls H locs cells slots (fun n' ls' H' locs' c' s' hn hi => ih n' hn ls' H' locs' c' s' hi) h
  exact key n ls H locs cells slots h
/-- where roads meet -/
theorem x_join {g : JFrame} (pc : Nat) (J : Array Slot → List Value → Prop) (k : ∀ (ls : Array Slot) (st : List Value), J ls st → W p l e R s m args below meth c H locs cells slots Q (F0 m pc ls st))
    (kk : (∀ (ls : Array Slot) (st : List Value), J ls st → W p l e R s m args below meth c H locs cells slots Q (F0 m pc ls st)) → W p l e R s m args below meth c H locs cells slots Q g) : W p l e R s m args below meth c H locs cells slots Q g := kk k
theorem x_joinH {g : JFrame} (pc : Nat) (J : Array Slot → List Value → Heap → List Loc → Prop) (k : ∀ (ls : Array Slot) (st : List Value) (H : Heap) (locs : List Loc), J ls st H locs → W p l e R s m args below meth c H locs cells slots Q (F0 m pc ls st))
    (kk : (∀ (ls : Array Slot) (st : List Value) (H : Heap) (locs : List Loc), J ls st H locs → W p l e R s m args below meth c H locs cells slots Q (F0 m pc ls st)) → W p l e R s m args below meth c H locs cells slots Q g) : W p l e R s m args below meth c H locs cells slots Q g := kk k
end XR
/-- only the cell a has changed -/
def x_1 (a : Nat) (H H1 : Heap) : Prop := H1.size = H.size ∧ ∀ q : Nat, q ≠ a → H1[q]? = H[q]?
theorem x_one {D : va_G} {cl : List vw_C} {q : Nat × va_E} {H : Heap} (h : va_at D cl q H) : va_P D cl [q] H := by
  intro k x hk
  cases k with
  | zero => cases hk; exact h
  | succ k => cases hk
theorem va_at.k1 {D : va_G} {cl : List vw_C} {q : Nat × va_E} {a : Nat} {H H1 : Heap} (h : va_at D cl q H) (h1 : x_1 a H H1) (hq : q.1 ≠ a) : va_at D cl q H1 := h.kept (h1.2 _ hq)
section XA
variable {p : Program} {l : Launch} {e : Env} {R : Room} {s : State} {m : MethodId} {args : Array Value} {below : List Frame} {meth : Method} {c : Code} {H : Heap} {locs : List Loc} {cells slots : Nat} {Q : State → Prop}
variable {cc : ByteArray} {pc : Nat} {ls : Array Slot} {rest : List Value} {D : va_G} {cl : List vw_C} {a : Nat} {tys : List (ClassId × FieldType)}
theorem x_iald (hx : p.tables.exec = Jvm.exec) (hb : c.code = cc) (hK : va_K D cl tys s) {cA : ClassId} {n : Nat} {f : Nat → Int32} (ha : va_at D cl (a, .inl (cA, n, .inl f)) H) (t0 : Nat) (ht : tys[t0]? = some (cA, .int)) {i : Nat} (hin : i < n) (hn : n < 2 ^ 31) (hdg : decode cc pc = .ok (.iaload, 1))
    (kk : W p l e R s m args below meth c H locs cells slots Q (F0 m (pc + 1) ls (.int (f i) :: rest))) : W p l e R s m args below meth c H locs cells slots Q (F0 m pc ls (.int (nI i) :: .ref a :: rest)) := by
  refine va_iald hx hb hK (x_one ha) 0 t0 rfl ht (vp_in_nI hin hn) hdg ?_
  rw [nI_clamp (by omega)]; exact kk
theorem x_bald (hx : p.tables.exec = Jvm.exec) (hb : c.code = cc) (hK : va_K D cl tys s) {cA : ClassId} {n : Nat} {f : Nat → Int32} (ha : va_at D cl (a, .inl (cA, n, .inl f)) H) (t0 : Nat) (ht : tys[t0]? = some (cA, .byte)) {i : Nat} (hin : i < n) (hn : n < 2 ^ 31) (hdg : decode cc pc = .ok (.baload, 1))
    (kk : W p l e R s m args below meth c H locs cells slots Q (F0 m (pc + 1) ls (.int (f i) :: rest))) : W p l e R s m args below meth c H locs cells slots Q (F0 m pc ls (.int (nI i) :: .ref a :: rest)) := by
  refine va_bald hx hb hK (x_one ha) 0 t0 rfl ht (vp_in_nI hin hn) hdg ?_
  rw [nI_clamp (by omega)]; exact kk
theorem x_zald (hx : p.tables.exec = Jvm.exec) (hb : c.code = cc) (hK : va_K D cl tys s) {cA : ClassId} {n : Nat} {f : Nat → Int32} (ha : va_at D cl (a, .inl (cA, n, .inl f)) H) (t0 : Nat) (ht : tys[t0]? = some (cA, .boolean)) {i : Nat} (hin : i < n) (hn : n < 2 ^ 31) (hdg : decode cc pc = .ok (.baload, 1))
    (kk : W p l e R s m args below meth c H locs cells slots Q (F0 m (pc + 1) ls (.int (f i) :: rest))) : W p l e R s m args below meth c H locs cells slots Q (F0 m pc ls (.int (nI i) :: .ref a :: rest)) := by
  refine va_zald hx hb hK (x_one ha) 0 t0 rfl ht (vp_in_nI hin hn) hdg ?_
  rw [nI_clamp (by omega)]; exact kk
theorem x_lald (hx : p.tables.exec = Jvm.exec) (hb : c.code = cc) (hK : va_K D cl tys s) {cA : ClassId} {n : Nat} {f : Nat → Int64} (ha : va_at D cl (a, .inl (cA, n, .inr (.inl f))) H) (t0 : Nat) (ht : tys[t0]? = some (cA, .long)) {i : Nat} (hin : i < n) (hn : n < 2 ^ 31) (hdg : decode cc pc = .ok (.laload, 1))
    (kk : W p l e R s m args below meth c H locs cells slots Q (F0 m (pc + 1) ls (.long (f i) :: rest))) : W p l e R s m args below meth c H locs cells slots Q (F0 m pc ls (.int (nI i) :: .ref a :: rest)) := by
  refine va_lald hx hb hK (x_one ha) 0 t0 rfl ht (vp_in_nI hin hn) hdg ?_
  rw [nI_clamp (by omega)]; exact kk
theorem x_aald (hx : p.tables.exec = Jvm.exec) (hb : c.code = cc) (hK : va_K D cl tys s) {cA : ClassId} {C : String} {n : Nat} {f : Nat → Option Nat} (ha : va_at D cl (a, .inl (cA, n, .inr (.inr (.inr (.inr f))))) H) (t0 : Nat) (ht : tys[t0]? = some (cA, .object C)) {i : Nat} (hin : i < n) (hn : n < 2 ^ 31) (hdg : decode cc pc = .ok (.aaload, 1))
    (kk : W p l e R s m args below meth c H locs cells slots Q (F0 m (pc + 1) ls (va_rf (f i) :: rest))) : W p l e R s m args below meth c H locs cells slots Q (F0 m pc ls (.int (nI i) :: .ref a :: rest)) := by
  refine va_aldq hx hb hK (x_one ha) 0 t0 rfl ht (vp_in_nI hin hn) hdg ?_
  rw [nI_clamp (by omega)]; exact kk
theorem x_alen (hx : p.tables.exec = Jvm.exec) (hb : c.code = cc) (hK : va_K D cl tys s) {cA : ClassId} {x : vp_A} (ha : va_at D cl (a, .inl (cA, x)) H) (t0 : Nat) {ty : FieldType} (ht : tys[t0]? = some (cA, ty)) (hdg : decode cc pc = .ok (.arraylength, 1))
    (kk : W p l e R s m args below meth c H locs cells slots Q (F0 m (pc + 1) ls (.int (nI x.1) :: rest))) : W p l e R s m args below meth c H locs cells slots Q (F0 m pc ls (.ref a :: rest)) :=
  va_alen hx hb hK (x_one ha) 0 t0 rfl ht rfl hdg kk
theorem x_iast (hx : p.tables.exec = Jvm.exec) (hb : c.code = cc) (hK : va_K D cl tys s) {cA : ClassId} {n : Nat} {f : Nat → Int32} (ha : va_at D cl (a, .inl (cA, n, .inl f)) H) (t0 : Nat) (ht : tys[t0]? = some (cA, .int)) {i : Nat} {x : Int32} (hin : i < n) (hn : n < 2 ^ 31) (hdg : decode cc pc = .ok (.iastore, 1))
    (kk : ∀ (H1 : Heap) (k : Nat), va_at D cl (a, .inl (cA, n, .inl (upd f i x))) H1 → x_1 a H H1 → W p l e R s m args below meth c H1 (locs ++ [⟨a, k⟩]) cells slots Q (F0 m (pc + 1) ls rest)) : W p l e R s m args below meth c H locs cells slots Q (F0 m pc ls (.int x :: .int (nI i) :: .ref a :: rest)) := by
  have hc : (nI i).toNatClampNeg = i := nI_clamp (by omega)
  refine W.iast hx hb ha ((hK.2 t0 _ ht).1 n (fun j => .int (f j))) (fun q => by cases q) (by show ¬ (nI i < 0 ∨ (arrV _ _ _).slots.size ≤ _); rw [arrV_size]; exact vp_in_nI hin hn) rfl rfl hdg fun H1 e z oq => ?_
  refine kk H1 _ ?_ ⟨z, oq⟩
  show H1[a]? = some (vp_cell _ _)
  rw [e, hc]
  rw [vp_cell_i, vp_cell_i, arrV_store]
  congr 2
  funext q
  by_cases hq : q = i
  · subst hq; simp [updV, upd]
  · simp [updV, upd, hq]
theorem x_bast (hx : p.tables.exec = Jvm.exec) (hb : c.code = cc) (hK : va_K D cl tys s) {cA : ClassId} {n : Nat} {f : Nat → Int32} (ha : va_at D cl (a, .inl (cA, n, .inl f)) H) (t0 : Nat) (ht : tys[t0]? = some (cA, .byte)) {i : Nat} {x : Int32} (hin : i < n) (hn : n < 2 ^ 31) (hnar : vp_nar .byte x = x) (hdg : decode cc pc = .ok (.bastore, 1))
    (kk : ∀ (H1 : Heap) (k : Nat), va_at D cl (a, .inl (cA, n, .inl (upd f i x))) H1 → x_1 a H H1 → W p l e R s m args below meth c H1 (locs ++ [⟨a, k⟩]) cells slots Q (F0 m (pc + 1) ls rest)) : W p l e R s m args below meth c H locs cells slots Q (F0 m pc ls (.int x :: .int (nI i) :: .ref a :: rest)) := by
  have hc : (nI i).toNatClampNeg = i := nI_clamp (by omega)
  have hn2 : x.toInt8.toInt32 = x := hnar
  refine W.bast hx hb ha ((hK.2 t0 _ ht).1 n (fun j => .int (f j))) (fun q => by cases q) (by show ¬ (nI i < 0 ∨ (arrV _ _ _).slots.size ≤ _); rw [arrV_size]; exact vp_in_nI hin hn) rfl rfl hdg fun H1 e z oq => ?_
  refine kk H1 _ ?_ ⟨z, oq⟩
  show H1[a]? = some (vp_cell _ _)
  rw [e, hc]
  rw [vp_cell_i, vp_cell_i, arrV_store]
  congr 2
  funext q
  by_cases hq : q = i
  · subst hq; simp [updV, upd, narrow, hn2]
  · simp [updV, upd, hq]
theorem x_zast (hx : p.tables.exec = Jvm.exec) (hb : c.code = cc) (hK : va_K D cl tys s) {cA : ClassId} {n : Nat} {f : Nat → Int32} (ha : va_at D cl (a, .inl (cA, n, .inl f)) H) (t0 : Nat) (ht : tys[t0]? = some (cA, .boolean)) {i : Nat} {x : Bool} (hin : i < n) (hn : n < 2 ^ 31) (hdg : decode cc pc = .ok (.bastore, 1))
    (kk : ∀ (H1 : Heap) (k : Nat), va_at D cl (a, .inl (cA, n, .inl (upd f i (bI x)))) H1 → x_1 a H H1 → W p l e R s m args below meth c H1 (locs ++ [⟨a, k⟩]) cells slots Q (F0 m (pc + 1) ls rest)) : W p l e R s m args below meth c H locs cells slots Q (F0 m pc ls (.int (bI x) :: .int (nI i) :: .ref a :: rest)) := by
  have hc : (nI i).toNatClampNeg = i := nI_clamp (by omega)
  refine W.zast hx hb ha ((hK.2 t0 _ ht).1 n (fun j => .int (f j))) (fun q => by cases q) (by show ¬ (nI i < 0 ∨ (arrV _ _ _).slots.size ≤ _); rw [arrV_size]; exact vp_in_nI hin hn) rfl rfl hdg fun H1 e z oq => ?_
  refine kk H1 _ ?_ ⟨z, oq⟩
  show H1[a]? = some (vp_cell _ _)
  rw [e, hc]
  rw [vp_cell_i, vp_cell_i, arrV_store]
  congr 2
  funext q
  by_cases hq : q = i
  · subst hq; simp [updV, upd, bI_z]
  · simp [updV, upd, hq]
theorem x_last (hx : p.tables.exec = Jvm.exec) (hb : c.code = cc) (hK : va_K D cl tys s) {cA : ClassId} {n : Nat} {f : Nat → Int64} (ha : va_at D cl (a, .inl (cA, n, .inr (.inl f))) H) (t0 : Nat) (ht : tys[t0]? = some (cA, .long)) {i : Nat} {x : Int64} (hin : i < n) (hn : n < 2 ^ 31) (hdg : decode cc pc = .ok (.lastore, 1))
    (kk : ∀ (H1 : Heap) (k : Nat), va_at D cl (a, .inl (cA, n, .inr (.inl (vp_updL f i x)))) H1 → x_1 a H H1 → W p l e R s m args below meth c H1 (locs ++ [⟨a, k⟩]) cells slots Q (F0 m (pc + 1) ls rest)) : W p l e R s m args below meth c H locs cells slots Q (F0 m pc ls (.long x :: .int (nI i) :: .ref a :: rest)) := by
  have hc : (nI i).toNatClampNeg = i := nI_clamp (by omega)
  refine W.last hx hb ha ((hK.2 t0 _ ht).1 n (fun j => .long (f j))) (fun q => by cases q) (by show ¬ (nI i < 0 ∨ (arrV _ _ _).slots.size ≤ _); rw [arrV_size]; exact vp_in_nI hin hn) rfl rfl hdg fun H1 e z oq => ?_
  refine kk H1 _ ?_ ⟨z, oq⟩
  show H1[a]? = some (vp_cell _ _)
  rw [e, hc]
  rw [vp_cell_l, vp_cell_l, arrV_store]
  congr 2
  funext q
  by_cases hq : q = i
  · subst hq; simp [updV, vp_updL]
  · simp [updV, vp_updL, hq]
/-- a reference into an array of a class: any object that may stand there -/
theorem x_aast (hx : p.tables.exec = Jvm.exec) (hb : c.code = cc) (hK : va_K D cl tys s) {cA : ClassId} {E : String} {n v : Nat} {f : Nat → Option Nat} (ha : va_at D cl (a, .inl (cA, n, .inr (.inr (.inr (.inr f))))) H) (t0 : Nat) (ht : tys[t0]? = some (cA, .object E)) (hr : va_Any E s H v) {i : Nat} (hin : i < n) (hn : n < 2 ^ 31) (hdg : decode cc pc = .ok (.aastore, 1))
    (kk : ∀ (H1 : Heap) (k : Nat), va_at D cl (a, .inl (cA, n, .inr (.inr (.inr (.inr (va_up f i (some v))))))) H1 → x_1 a H H1 → W p l e R s m args below meth c H1 (locs ++ [⟨a, k⟩]) cells slots Q (F0 m (pc + 1) ls rest)) : W p l e R s m args below meth c H locs cells slots Q (F0 m pc ls (.ref v :: .int (nI i) :: .ref a :: rest)) := by
  have hc : (nI i).toNatClampNeg = i := nI_clamp (by omega)
  have h0 : ¬ nI i < 0 := nI_pos (by omega)
  obtain ⟨cellV, g1, g3, ⟨kC, hkC⟩, hasg⟩ := hr
  obtain ⟨kA, comp, k1, k2, k3, -⟩ := (hK.2 t0 _ ht).2
  obtain ⟨kE, hkE, -⟩ := Vm.findClass_spec k3
  refine W.aast hx hb ha (fun q h => by cases h) (fun h => by cases h) k1 k2 rfl hkE ⟨h0, by show _ < (arrV _ _ _).slots.size; rw [arrV_size, hc]; exact hin⟩ g1 (fun q h => by rw [h] at g3; cases g3) hkC (hasg _ k3) rfl rfl hdg fun H1 e z oq => ?_
  refine kk H1 _ ?_ ⟨z, oq⟩
  show H1[a]? = some (vp_cell _ _)
  rw [e, hc]
  rw [vp_cell_q, vp_cell_q, arrV_store]
  congr 2
  funext q
  by_cases hq : q = i
  · subst hq; simp [updV, va_up, va_rf]
  · simp [updV, va_up, hq]
theorem x_aastN (hx : p.tables.exec = Jvm.exec) (hb : c.code = cc) (hK : va_K D cl tys s) {cA : ClassId} {E : String} {n : Nat} {f : Nat → Option Nat} (ha : va_at D cl (a, .inl (cA, n, .inr (.inr (.inr (.inr f))))) H) (t0 : Nat) (ht : tys[t0]? = some (cA, .object E)) {i : Nat} (hin : i < n) (hn : n < 2 ^ 31) (hdg : decode cc pc = .ok (.aastore, 1))
    (kk : ∀ (H1 : Heap) (k : Nat), va_at D cl (a, .inl (cA, n, .inr (.inr (.inr (.inr (va_up f i none)))))) H1 → x_1 a H H1 → W p l e R s m args below meth c H1 (locs ++ [⟨a, k⟩]) cells slots Q (F0 m (pc + 1) ls rest)) : W p l e R s m args below meth c H locs cells slots Q (F0 m pc ls (.null :: .int (nI i) :: .ref a :: rest)) := by
  have hc : (nI i).toNatClampNeg = i := nI_clamp (by omega)
  refine va_WaastN (C := E) hx hb ha ((hK.2 t0 _ ht).1 n (fun j => va_rf (f j))) (fun h => by cases h) (by show ¬ (nI i < 0 ∨ (arrV _ _ _).slots.size ≤ _); rw [arrV_size]; exact vp_in_nI hin hn) rfl rfl hdg fun H1 e z oq => ?_
  refine kk H1 _ ?_ ⟨z, oq⟩
  show H1[a]? = some (vp_cell _ _)
  rw [e, hc]
  rw [vp_cell_q, vp_cell_q, arrV_store]
  congr 2
  funext q
  by_cases hq : q = i
  · subst hq; simp [updV, va_up, va_rf]
  · simp [updV, va_up, hq]
/-- fields -/
theorem x_get (hx : p.tables.exec = Jvm.exec) (hb : c.code = cc) {own ref C : String} {T : u_T} {N ci index : Nat} {Ts : List Cond} (hts : ∀ w ∈ Ts, w.before args s = true) (hin : ∀ w ∈ u_ws C T N, w ∈ Ts) (hown : s.vm.findClass own = some m.cls) (hK : va_K D cl tys s) {fs : List Value} (ha : va_at D cl (a, .inr (ci, fs)) H) (hc : cl[ci]? = some (C, T, N)) (k : Nat) (hk : k < N) (hlink : (Cond.fieldLink own index ref (T k).2.1 (T k).2.2.1).before args s = true) (hsame : ∀ x, s.fieldFound? (T k).1 (T k).2.1 (T k).2.2.1 = some x → s.fieldFound? ref (T k).2.1 (T k).2.2.1 = some x) {v : Value} (hv : fs[k]? = some v) (hdg : decode cc pc = .ok (.getfield index, 3))
    (kk : W p l e R s m args below meth c H locs cells slots Q (F0 m (pc + 3) ls (v :: rest))) : W p l e R s m args below meth c H locs cells slots Q (F0 m pc ls (.ref a :: rest)) :=
  va_get hx hb hts hin hown hK (x_one ha) 0 rfl hc k hk hlink hsame hv hdg kk
theorem x_getN (hx : p.tables.exec = Jvm.exec) (hb : c.code = cc) {own ref C host : String} {T : u_T} {N ci index : Nat} {Ts : List Cond} (hts : ∀ w ∈ Ts, w.before args s = true) (hin : ∀ w ∈ u_ws C T N, w ∈ Ts) (hown : s.vm.findClass own = some m.cls) (hK : va_K D cl tys s) {fs : List Value} (ha : va_at D cl (a, .inr (ci, fs)) H) (hc : cl[ci]? = some (C, T, N)) (k : Nat) (hk : k < N) (hlink : (Cond.fieldLinkNest own index ref (T k).2.1 (T k).2.2.1 host).before args s = true) (hsame : ∀ x, s.fieldFound? (T k).1 (T k).2.1 (T k).2.2.1 = some x → s.fieldFound? ref (T k).2.1 (T k).2.2.1 = some x) {v : Value} (hv : fs[k]? = some v) (hdg : decode cc pc = .ok (.getfield index, 3))
    (kk : W p l e R s m args below meth c H locs cells slots Q (F0 m (pc + 3) ls (v :: rest))) : W p l e R s m args below meth c H locs cells slots Q (F0 m pc ls (.ref a :: rest)) :=
  va_getN hx hb hts hin hown hK (x_one ha) 0 rfl hc k hk hlink hsame hv hdg kk
theorem x_put (hx : p.tables.exec = Jvm.exec) (hb : c.code = cc) {own ref C : String} {T : u_T} {N ci index : Nat} {Ts : List Cond} (hts : ∀ w ∈ Ts, w.before args s = true) (hin : ∀ w ∈ u_ws C T N, w ∈ Ts) (ty0 : Nat → FieldType) (hty : ∀ k, k < N → parseFieldDescriptor (T k).2.2.1 = some (ty0 k)) (hnm : ∀ a, a < N → ∀ b, b < N → a ≠ b → (T a).2.1 ≠ (T b).2.1) (hown : s.vm.findClass own = some m.cls) (hK : va_K D cl tys s) {fs : List Value} (ha : va_at D cl (a, .inr (ci, fs)) H) (hc : cl[ci]? = some (C, T, N)) (k : Nat) (hk : k < N) (hlink : (Cond.fieldLink own index ref (T k).2.1 (T k).2.2.1).before args s = true) (hsame : ∀ x, s.fieldFound? (T k).1 (T k).2.1 (T k).2.2.1 = some x → s.fieldFound? ref (T k).2.1 (T k).2.2.1 = some x) (hfin : (T k).2.2.2 = false) {ty : FieldType} {v : Value} (hd : parseFieldDescriptor (T k).2.2.1 = some ty) (hn : narrow ty v = v) (hfit : fits ty v = true) (hl : k < fs.length)
    (hdg : decode cc pc = .ok (.putfield index, 3)) (kk : ∀ (H1 : Heap) (i : Nat), va_at D cl (a, .inr (ci, fs.set k v)) H1 → x_1 a H H1 → W p l e R s m args below meth c H1 (locs ++ [⟨a, i⟩]) cells slots Q (F0 m (pc + 3) ls rest)) : W p l e R s m args below meth c H locs cells slots Q (F0 m pc ls (v :: .ref a :: rest)) := by
  have hap := va_apart (own := own) hts hin ty0 hty hnm hK hc
  obtain ⟨r, h1, cell, q1, q2, q3, q4⟩ := ha
  have hr : r = (C, T, N) := Option.some.inj (h1.symm.trans hc)
  subst hr
  obtain ⟨hS, hfc, kC, hkC, hkind⟩ := hK.1 ci _ hc
  obtain ⟨cf, kf, fi, f, hi, hsl⟩ := hS k hk
  have hlay := hts _ (hin _ (u_in_lay hk))
  unfold u_lay at hlay
  rw [if_neg (by rw [hfin]; decide)] at hlay
  have hst := (u_facts hfc hkC (u_lays hts hin hk) hi).1
  have h6 := u_store hfc hkC hkind hlay hi hd hn hfit
  refine W.putK hx hb (f := f) ⟨hown, hlink, ⟨_, _, _, hsame _ hi⟩, hst⟩ (by rw [q2]; exact h6) q1 q3 (by rw [hsl]; exact k2_hasslot (q4 k hk)) rfl rfl hdg fun H' e1 e2 e3 => ?_
  rw [hsl] at e1
  exact kk H' _ ⟨_, hc, t_OB.to (V := updV (vp_V fs) k v) ⟨_, e1, q2, q3, t_set q4 hap hk v⟩ (fun j _ => vp_updV_set hl v j)⟩ ⟨e2, e3⟩
theorem x_putN (hx : p.tables.exec = Jvm.exec) (hb : c.code = cc) {own ref C host : String} {T : u_T} {N ci index : Nat} {Ts : List Cond} (hts : ∀ w ∈ Ts, w.before args s = true) (hin : ∀ w ∈ u_ws C T N, w ∈ Ts) (ty0 : Nat → FieldType) (hty : ∀ k, k < N → parseFieldDescriptor (T k).2.2.1 = some (ty0 k)) (hnm : ∀ a, a < N → ∀ b, b < N → a ≠ b → (T a).2.1 ≠ (T b).2.1) (hown : s.vm.findClass own = some m.cls) (hK : va_K D cl tys s) {fs : List Value} (ha : va_at D cl (a, .inr (ci, fs)) H) (hc : cl[ci]? = some (C, T, N)) (k : Nat) (hk : k < N) (hlink : (Cond.fieldLinkNest own index ref (T k).2.1 (T k).2.2.1 host).before args s = true) (hsame : ∀ x, s.fieldFound? (T k).1 (T k).2.1 (T k).2.2.1 = some x → s.fieldFound? ref (T k).2.1 (T k).2.2.1 = some x) (hfin : (T k).2.2.2 = false) {ty : FieldType} {v : Value} (hd : parseFieldDescriptor (T k).2.2.1 = some ty) (hn : narrow ty v = v) (hfit : fits ty v = true) (hl : k < fs.length)
    (hdg : decode cc pc = .ok (.putfield index, 3)) (kk : ∀ (H1 : Heap) (i : Nat), va_at D cl (a, .inr (ci, fs.set k v)) H1 → x_1 a H H1 → W p l e R s m args below meth c H1 (locs ++ [⟨a, i⟩]) cells slots Q (F0 m (pc + 3) ls rest)) : W p l e R s m args below meth c H locs cells slots Q (F0 m pc ls (v :: .ref a :: rest)) := by
  have hap := va_apart (own := own) hts hin ty0 hty hnm hK hc
  obtain ⟨r, h1, cell, q1, q2, q3, q4⟩ := ha
  have hr : r = (C, T, N) := Option.some.inj (h1.symm.trans hc)
  subst hr
  obtain ⟨hS, hfc, kC, hkC, hkind⟩ := hK.1 ci _ hc
  obtain ⟨cf, kf, fi, f, hi, hsl⟩ := hS k hk
  have hlay := hts _ (hin _ (u_in_lay hk))
  unfold u_lay at hlay
  rw [if_neg (by rw [hfin]; decide)] at hlay
  have hst := (u_facts hfc hkC (u_lays hts hin hk) hi).1
  have h6 := u_store hfc hkC hkind hlay hi hd hn hfit
  refine va_WputK hx hb (f := f) hown hlink (hsame _ hi) hst (by rw [q2]; exact h6) q1 q3 (by rw [hsl]; exact k2_hasslot (q4 k hk)) rfl rfl hdg fun H' e1 e2 e3 => ?_
  rw [hsl] at e1
  exact kk H' _ ⟨_, hc, t_OB.to (V := updV (vp_V fs) k v) ⟨_, e1, q2, q3, t_set q4 hap hk v⟩ (fun j _ => vp_updV_set hl v j)⟩ ⟨e2, e3⟩
theorem x_putF (hx : p.tables.exec = Jvm.exec) (hb : c.code = cc) {own ref C : String} {T : u_T} {N ci index : Nat} {Ts : List Cond} (hts : ∀ w ∈ Ts, w.before args s = true) (hin : ∀ w ∈ u_ws C T N, w ∈ Ts) (ty0 : Nat → FieldType) (hty : ∀ k, k < N → parseFieldDescriptor (T k).2.2.1 = some (ty0 k)) (hnm : ∀ a, a < N → ∀ b, b < N → a ≠ b → (T a).2.1 ≠ (T b).2.1) (hown : s.vm.findClass own = some m.cls) (hK : va_K D cl tys s) {fs : List Value} (ha : va_at D cl (a, .inr (ci, fs)) H) (hc : cl[ci]? = some (C, T, N)) (k : Nat) (hk : k < N) (hlink : (Cond.fieldLink own index ref (T k).2.1 (T k).2.2.1).before args s = true) (hsame : ∀ x, s.fieldFound? (T k).1 (T k).2.1 (T k).2.2.1 = some x → s.fieldFound? ref (T k).2.1 (T k).2.2.1 = some x) (hfin : (T k).2.2.2 = true) (hin2 : meth.name = "<init>") (hdecl : (T k).1 = own) {ty : FieldType} {v : Value} (hd : parseFieldDescriptor (T k).2.2.1 = some ty) (hn : narrow ty v = v) (hfit : fits ty v = true) (hl : k < fs.length)
    (hdg : decode cc pc = .ok (.putfield index, 3)) (kk : ∀ (H1 : Heap) (i : Nat), va_at D cl (a, .inr (ci, fs.set k v)) H1 → x_1 a H H1 → W p l e R s m args below meth c H1 (locs ++ [⟨a, i⟩]) cells slots Q (F0 m (pc + 3) ls rest)) : W p l e R s m args below meth c H locs cells slots Q (F0 m pc ls (v :: .ref a :: rest)) := by
  have hap := va_apart (own := own) hts hin ty0 hty hnm hK hc
  obtain ⟨r, h1, cell, q1, q2, q3, q4⟩ := ha
  have hr : r = (C, T, N) := Option.some.inj (h1.symm.trans hc)
  subst hr
  obtain ⟨hS, hfc, kC, hkC, hkind⟩ := hK.1 ci _ hc
  obtain ⟨cf, kf, fi, f, hi, hsl⟩ := hS k hk
  have hlay := hts _ (hin _ (u_in_lay hk))
  unfold u_lay at hlay
  rw [if_pos hfin] at hlay
  have hst := (u_facts hfc hkC (u_lays hts hin hk) hi).1
  have hcf : m.cls = cf := by
    obtain ⟨_, _, c', _, _, _, -, -, hf', -, -, -, hown2, -⟩ := Cond.laysFinal_spec hlay
    have e1 : c' = cf := by have := hi.symm.trans hf'; simp at this; exact this.1.symm
    rw [hdecl] at hown2
    rw [← e1]; exact Option.some.inj (hown.symm.trans hown2)
  have h6 := u_fits hfc hkC hkind (Or.inr hlay) hi hd hn hfit
  refine W.putFinK hx hb hown hlink (hsame _ hi) hst hcf hin2 (by rw [q2]; exact h6) q1 q3 (by rw [hsl]; exact k2_hasslot (q4 k hk)) rfl rfl hdg fun H' e1 e2 e3 => ?_
  rw [hsl] at e1
  exact kk H' _ ⟨_, hc, t_OB.to (V := updV (vp_V fs) k v) ⟨_, e1, q2, q3, t_set q4 hap hk v⟩ (fun j _ => vp_updV_set hl v j)⟩ ⟨e2, e3⟩
/-- one cell more -/
def x_n (H H1 : Heap) : Prop := H1.size = H.size + 1 ∧ ∀ q : Nat, q < H.size → H1[q]? = H[q]?
theorem x_new (hx : p.tables.exec = Jvm.exec) (hb : c.code = cc) {own C : String} {T : u_T} {N ci index : Nat} {Ts : List Cond} (hts : ∀ w ∈ Ts, w.before args s = true) (hin : ∀ w ∈ u_ws C T N, w ∈ Ts) (ty : Nat → FieldType) (hty : ∀ k, k < N → parseFieldDescriptor (T k).2.2.1 = some (ty k)) (hown : s.vm.findClass own = some m.cls) (hcl : (Cond.classLink own index C).before args s = true) (hinst : (Cond.instantiable C N).before args s = true) (hini : (Cond.initialized C).before args s = true)
    (hK : va_K D cl tys s) (hc : cl[ci]? = some (C, T, N)) {fs : List Value} (hfs : ∀ j, j < N → defaultValue (ty j) = vp_V fs j) (hcells : cells + 1 ≤ R.cells) (hslots : slots + N ≤ R.slots) (hdg : decode cc pc = .ok (.new index, 3))
    (kk : ∀ (H1 : Heap), va_at D cl (H.size, .inr (ci, fs)) H1 → x_n H H1 → W p l e R s m args below meth c H1 locs (cells + 1) (slots + N) Q (F0 m (pc + 3) ls (.ref H.size :: rest))) : W p l e R s m args below meth c H locs cells slots Q (F0 m pc ls rest) := by
  have hKn := hK.1 ci _ hc
  refine W.newcK hx hb hown hcl hinst hini rfl hdg hcells hslots hKn.2.1 rfl fun H1 kC hkC e1 z1 o1 => ?_
  exact kk H1 ⟨_, hc, (u_born ty hts hin hKn hkC e1 hty).to hfs⟩ ⟨z1, o1⟩
theorem x_newa (hx : p.tables.exec = Jvm.exec) (hb : c.code = cc) {atype : ArrayType} (harr : (Cond.arrayClass (newarray.typeOf atype)).before args s = true) {ty : FieldType} (hty : newarray.typeOf atype = ty) (hK : va_K D cl tys s) (t0 : Nat) {cA : ClassId} (ht : tys[t0]? = some (cA, ty)) {n : Int32} {N' : Nat} {a0 : vp_A} (ha : ∀ cA : ClassId, vp_cell cA a0 = arrV cA N' (fun _ => defaultValue ty)) (hn : ¬ n < 0) (hN : n.toNatClampNeg = N') (hbytes : N' * componentBytes ty ≤ 536870912) (hcells : cells + 1 ≤ R.cells) (hslots : slots + N' ≤ R.slots) (hdg : decode cc pc = .ok (.newarray atype, 2))
    (kk : ∀ (H1 : Heap), va_at D cl (H.size, .inl (cA, a0)) H1 → x_n H H1 → W p l e R s m args below meth c H1 locs (cells + 1) (slots + N') Q (F0 m (pc + 2) ls (.ref H.size :: rest))) : W p l e R s m args below meth c H locs cells slots Q (F0 m pc ls (.int n :: rest)) := by
  subst hty
  refine va_newaK hx hb harr rfl hdg rfl hn hN hbytes hcells hslots rfl fun H1 cA' e1 z1 o1 hAr hNm => ?_
  have h := (hK.2 t0 _ ht).2
  have hcc : cA' = cA := by cases atype <;> exact Option.some.inj (hNm.symm.trans h)
  subst hcc
  refine kk H1 ?_ ⟨z1, o1⟩
  show H1[H.size]? = some (vp_cell _ _)
  rw [ha]; exact e1
theorem x_newq (hx : p.tables.exec = Jvm.exec) (hb : c.code = cc) {own C : String} {index : Nat} (hown : s.vm.findClass own = some m.cls) (hclink : (Cond.classLink own index C).before args s = true) (hover : va_AO C s) (hK : va_K D cl tys s) (t0 : Nat) {cA : ClassId} (ht : tys[t0]? = some (cA, .object C)) {n : Int32} {N' : Nat} (hn : ¬ n < 0) (hN : n.toNatClampNeg = N') (hbytes : N' * 4 ≤ 536870912) (hcells : cells + 1 ≤ R.cells) (hslots : slots + N' ≤ R.slots) (hdg : decode cc pc = .ok (.anewarray index, 3))
    (kk : ∀ (H1 : Heap), va_at D cl (H.size, .inl (cA, N', .inr (.inr (.inr (.inr (fun _ => none)))))) H1 → x_n H H1 → W p l e R s m args below meth c H1 locs (cells + 1) (slots + N') Q (F0 m (pc + 3) ls (.ref H.size :: rest))) : W p l e R s m args below meth c H locs cells slots Q (F0 m pc ls (.int n :: rest)) := by
  subst hN
  refine W.anew hx hb hown hclink (va_AO.use hover) rfl hdg rfl hn hbytes hcells hslots fun cA' kA comp f1 f2 f3 f4 => ?_
  obtain ⟨_, _, _, _, _, g4⟩ := (hK.2 t0 _ ht).2
  have hcc : cA' = cA := Option.some.inj (f1.symm.trans g4)
  subst hcc
  generalize hH1 : H.push ({ cls := cA', slots := Array.replicate n.toNatClampNeg .null, vm := .none } : Cell) = H1
  have z1 : H1.size = H.size + 1 := by rw [← hH1, Array.size_push]
  have e1 : H1[H.size]? = some (arrV cA' n.toNatClampNeg (fun _ => .null)) := by rw [← hH1, Array.getElem?_push_size, ← arrV_new]
  have o1 : ∀ q : Nat, q < H.size → H1[q]? = H[q]? := fun q hq => by rw [← hH1, Array.getElem?_push, if_neg (Nat.ne_of_lt hq)]
  refine kk H1 ?_ ⟨z1, o1⟩
  show H1[H.size]? = some (vp_cell _ _)
  rw [vp_cell_q]; exact e1
end XA
theorem va_at.kn {D : va_G} {cl : List vw_C} {q : Nat × va_E} {H H1 : Heap} (h : va_at D cl q H) (h1 : x_n H H1) : va_at D cl q H1 := h.kept (h1.2 _ h.lt)
/-- what a method's end says: the answer, and how the heap has become another -/
def x_Q (r : Option Value) (Post : Heap → Heap → Prop) : Array Value → State → Outcome → State → Prop := fun _ st o t => o = .returned r ∧ Post st.heap t.heap
/-- the heap is as it was -/
def x_same : Heap → Heap → Prop := fun H H1 => H1 = H
section XC
variable {p : Program} {l : Launch} {e : Env} {R : Room} {s : State} {m : MethodId} {args : Array Value} {below : List Frame} {meth : Method} {c : Code} {H : Heap} {locs : List Loc} {cells slots : Nat} {Q : State → Prop}
variable {pc : Nat} {ls : Array Slot} {rest st0 : List Value} {a : Array Value} {mc ms : Nat} {free : Addr → Prop} {Post : Heap → Heap → Prop}
/-- behind a call that leaves the heap: an answer; none -/
theorem x_cp {v : Value} (hr : CallRun p l e R s m args below meth c H locs cells slots 0 0 (F0 m pc ls st0) rest (x_Q (some v) x_same a) (fun _ => False))
    (kk : W p l e R s m args below meth c H locs cells slots Q (F0 m (pc + 3) ls (v :: rest))) : W p l e R s m args below meth c H locs cells slots Q (F0 m pc ls st0) := by
  intro T hT X
  obtain ⟨v', st₀, t, T', L, h0, X', hL, e1, ⟨hv, hh⟩, st⟩ := hr T hT X
  cases hv
  obtain ⟨t2, a1, b1⟩ := kk T' (by rw [e1, show t.heap = st₀.heap from hh, h0]) (Stand.forget X' (fun q h => (hL q h).elim))
  exact ⟨t2, st t2 a1, b1⟩
/-- behind a call that writes -/
theorem x_cw {v : Value} (hr : CallRun p l e R s m args below meth c H locs cells slots mc ms (F0 m pc ls st0) rest (x_Q (some v) Post a) free)
    (kk : ∀ (H1 : Heap) (L : List Loc), Post H H1 → (∀ q ∈ L, free q.base) → W p l e R s m args below meth c H1 (locs ++ L) (cells + mc) (slots + ms) Q (F0 m (pc + 3) ls (v :: rest))) : W p l e R s m args below meth c H locs cells slots Q (F0 m pc ls st0) := by
  intro T hT X
  obtain ⟨v', st₀, t, T', L, h0, X', hL, e1, ⟨hv, hh⟩, st⟩ := hr T hT X
  cases hv
  rw [h0] at hh
  obtain ⟨t2, a1, b1⟩ := kk t.heap L hh hL T' e1 X'
  exact ⟨t2, st t2 a1, b1⟩
theorem x_cv (hr : CallRun p l e R s m args below meth c H locs cells slots mc ms (F0 m pc ls st0) rest (x_Q none Post a) free)
    (kk : ∀ (H1 : Heap) (L : List Loc), Post H H1 → (∀ q ∈ L, free q.base) → W p l e R s m args below meth c H1 (locs ++ L) (cells + mc) (slots + ms) Q (F0 m (pc + 3) ls rest)) : W p l e R s m args below meth c H locs cells slots Q (F0 m pc ls st0) := by
  intro T hT X
  obtain ⟨v', st₀, t, T', L, h0, X', hL, e1, ⟨hv, hh⟩, st⟩ := hr T hT X
  cases hv
  rw [h0] at hh
  obtain ⟨t2, a1, b1⟩ := kk t.heap L hh hL T' e1 X'
  exact ⟨t2, st t2 a1, b1⟩
end XC
end
section
/-! the environment: what every method may take from the machine's tables; contracts over it -/
abbrev x_ty (cA : Nat → ClassId) : List (ClassId × FieldType) := [(cA 0, .int), (cA 1, .long), (cA 2, .byte), (cA 3, .boolean), (cA 4, .object "DecisionLayers$Condition"), (cA 5, .object "DecisionLayers$Layer"), (cA 6, .object "DecisionLayers$Statement")]
def x_N (U : State) : Prop := va_Nw (.methodLinkNest "DecisionLayers" 9 y_Values_init "DecisionLayers") U ∧ va_Nw (.methodLinkNest "DecisionLayers$Layer" 17 y_Statement_init "DecisionLayers") U ∧ va_Nw (.fieldLinkNest "DecisionLayers" 86 "DecisionLayers$Layer" "count" "I" "DecisionLayers") U ∧ va_Nw (.fieldLinkNest "DecisionLayers" 79 "DecisionLayers$Layer" "present" "Z" "DecisionLayers") U ∧ va_Nw (.fieldLinkNest "DecisionLayers" 111 "DecisionLayers$Layer" "judged" "I" "DecisionLayers") U ∧ va_Nw (.declares y_Condition_isMet) U ∧ va_AO "DecisionLayers$Condition" U ∧ va_AO "DecisionLayers$Layer" U ∧ va_AO "DecisionLayers$Statement" U ∧ va_Nw (.castable "DecisionLayers$Joined" "DecisionLayers$Condition") U ∧ va_Nw (.castable "DecisionLayers$Test" "DecisionLayers$Condition") U
def x_E (D : va_G) (cA : Nat → ClassId) (U : State) : Prop := (∀ w ∈ w_g, va_Nw w U) ∧ x_N U ∧ va_K D x_cl (x_ty cA) U
theorem x_N.warm {s U : State} (hW : s.WarmedH U.vm) (h : x_N s) : x_N U := by
  obtain ⟨a1, a2, a3, a4, a5, a6, a7, a8, a9, a10, a11⟩ := h
  exact ⟨va_Nw.warmM hW a1, va_Nw.warmM hW a2, va_Nw.warmF hW a3, va_Nw.warmF hW a4, va_Nw.warmF hW a5, va_Nw.warmD hW a6, va_AO.moved hW.alike a7, va_AO.moved hW.alike a8, va_AO.moved hW.alike a9, va_Nw.warmC hW a10, va_Nw.warmC hW a11⟩
theorem x_E.warm {D : va_G} {cA : Nat → ClassId} {s U : State} (h : x_E D cA s) (hW : s.WarmedH U.vm) : x_E D cA U :=
  ⟨fun w hw => word_at hW (good_of_word (List.mem_filter.mp hw).2) (h.1 w hw), x_N.warm hW h.2.1, va_K.moved hW.alike h.2.2⟩
theorem x_E.use {D : va_G} {cA : Nat → ClassId} {s : State} (h : x_E D cA s) {args : Array Value} : ∀ w ∈ w_g, w.before args s = true :=
  fun w hw => word_at (State.WarmedH.refl s) (good_of_word (List.mem_filter.mp hw).2) (h.1 w hw)
/-- a method's start: its arguments, the environment, what the heap holds -/
def x_P (D : va_G) (cA : Nat → ClassId) (av : List Value) (P : Heap → Prop) : Array Value → State → Prop := fun v U => v = av.toArray ∧ x_E D cA U ∧ P U.heap
theorem x_P.blind {D : va_G} {cA : Nat → ClassId} {av : List Value} {P : Heap → Prop} : FrameBlind (x_P D cA av P) := fun _ U _ _ q => ⟨q.1, q.2.1.warm (State.WarmedH.refl U), q.2.2⟩
theorem x_preS {D : va_G} {cA : Nat → ClassId} {s : State} {H : Heap} {av : List Value} {P : Heap → Prop} (hE : x_E D cA s) (hp : P H) : PreS s H (x_P D cA av P) av := ⟨x_P.blind, fun U hU hW => ⟨rfl, hE.warm hW, by rw [hU]; exact hp⟩⟩
theorem x_preV {D : va_G} {cA : Nat → ClassId} {s : State} {H : Heap} {C : String} {b ci : Nat} {fs As : List Value} {q : vw_C} {P : Heap → Prop} (hE : x_E D cA s) (hb : va_at D x_cl (b, .inr (ci, fs)) H) (hc : x_cl[ci]? = some q) (hC : q.1 = C) (hp : P H) : PreV s H C b (x_P D cA (.ref b :: As) P) As := by
  subst hC
  exact ⟨x_P.blind, va_recv (q0 := 0) hE.2.2 (x_one hb) hc rfl, fun U hU hW => ⟨rfl, hE.warm hW, by rw [hU]; exact hp⟩⟩
/-- room by the height of the calls above -/
def x_rm (h mc ms : Nat) : Room := { frames := h, cells := mc, slots := ms, locals := 40 * h }
/-- a contract out of one walk -/
theorem x_met {l : Launch} {y : MethodName} {h mc ms : Nat} {D : va_G} {cA : Nat → ClassId} {av : List Value} {P : Heap → Prop} {Qc : Array Value → State → Outcome → State → Prop} {free : Addr → Prop} {cc : ByteArray} {maxL : Nat} {ret : Option FieldType} {own : String} (hy : plainName y.cls = true) (ho : y.cls = own) (hn : (lg_sl av).length ≤ maxL)
    (body : ∀ (p : Program) (e : Env) (s : State) (m : MethodId) (below : List Frame) (meth : Method) (c : Code) (ls : Array Slot), p.tables.exec = Jvm.exec → c.code = cc → meth.sig.returnType = ret → meth.locks = false → meth.name = y.name → c.maxLocals = maxL → s.vm.findClass own = some m.cls → (∀ w ∈ w_g, w.before av.toArray s = true) → x_E D cA s → P s.heap → lv_has ls maxL (lv_args 0 av) →
      W p l e (x_rm h mc ms) s m av.toArray below meth c s.heap [] 0 0 (MQ below Qc av.toArray s mc ms free) (F0 m 0 ls [])) : Met l y [.code y cc maxL ret] (x_rm h mc ms) (x_P D cA av P) Qc mc ms free := by
  refine Met.ofW (cc := cc) (maxL := maxL) (ret := ret) hy rfl ?_
  intro p e s m args below meth c s₁ B hml hv
  obtain ⟨rfl, hE, hP⟩ := hv
  have hown : s.vm.findClass own = some m.cls := by rw [← ho]; exact findClass_of_methodNamed B.named
  rw [lg_entry_eq]
  exact body p e s m below meth c _ B.exec B.bytes B.returns B.notSynchronized (name_of_methodNamed B.named B.method).1 hml hown hE.use hE hP (lv_entry av hn)
theorem x_room {h hc maxL : Nat} {mc ms MC MS : Nat} (hh : h + 1 ≤ hc) (hm : maxL ≤ 21) : (x_rm h mc ms).frames + 1 ≤ (x_rm hc MC MS).frames ∧ 8 + (maxL + 11) + (x_rm h mc ms).locals ≤ (x_rm hc MC MS).locals := by
  refine ⟨hh, ?_⟩
  show 8 + (maxL + 11) + 40 * h ≤ 40 * hc
  omega
theorem x_g4 {a b c d : Cond} (ha : a ∈ w_g) (hb : b ∈ w_g) (hc : c ∈ w_g) (hd : d ∈ w_g) : GoodIn w_g ([a, b, c] ++ [d]) := by
  intro w hw
  have hm : w ∈ w_g := by
    rcases List.mem_cons.mp hw with rfl | hw
    · exact ha
    rcases List.mem_cons.mp hw with rfl | hw
    · exact hb
    rcases List.mem_cons.mp hw with rfl | hw
    · exact hc
    rcases List.mem_cons.mp hw with rfl | hw
    · exact hd
    cases hw
  exact ⟨hm, good_of_word (List.mem_filter.mp hm).2⟩
theorem x_g5 {a b c d f : Cond} (ha : a ∈ w_g) (hb : b ∈ w_g) (hc : c ∈ w_g) (hd : d ∈ w_g) (hf : f ∈ w_g) : GoodIn w_g ([a, b, c, d] ++ [f]) := by
  intro w hw
  have hm : w ∈ w_g := by
    rcases List.mem_cons.mp hw with rfl | hw
    · exact ha
    rcases List.mem_cons.mp hw with rfl | hw
    · exact hb
    rcases List.mem_cons.mp hw with rfl | hw
    · exact hc
    rcases List.mem_cons.mp hw with rfl | hw
    · exact hd
    rcases List.mem_cons.mp hw with rfl | hw
    · exact hf
    cases hw
  exact ⟨hm, good_of_word (List.mem_filter.mp hm).2⟩
theorem x_g6 {a b c d f g : Cond} (ha : a ∈ w_g) (hb : b ∈ w_g) (hc : c ∈ w_g) (hd : d ∈ w_g) (hf : f ∈ w_g) (hg : g ∈ w_g) : GoodIn w_g ([a, b, c, d, f] ++ [g]) := by
  intro w hw
  have hm : w ∈ w_g := by
    rcases List.mem_cons.mp hw with rfl | hw
    · exact ha
    rcases List.mem_cons.mp hw with rfl | hw
    · exact hb
    rcases List.mem_cons.mp hw with rfl | hw
    · exact hc
    rcases List.mem_cons.mp hw with rfl | hw
    · exact hd
    rcases List.mem_cons.mp hw with rfl | hw
    · exact hf
    rcases List.mem_cons.mp hw with rfl | hw
    · exact hg
    cases hw
  exact ⟨hm, good_of_word (List.mem_filter.mp hm).2⟩
theorem x_g1 {a : Cond} (ha : a ∈ w_g) : GoodIn w_g [a] := by
  intro w hw
  have hm : w ∈ w_g := by
    rcases List.mem_cons.mp hw with rfl | hw
    · exact ha
    cases hw
  exact ⟨hm, good_of_word (List.mem_filter.mp hm).2⟩
end
section
/-! a row for each field and each call that the code names -/
section XF
variable {p : Program} {l : Launch} {e : Env} {R : Room} {s : State} {m : MethodId} {args : Array Value} {below : List Frame} {meth : Method} {c : Code} {H : Heap} {locs : List Loc} {cells slots : Nat} {Q : State → Prop}
variable {cc : ByteArray} {pc nL : Nat} {ls : Array Slot} {rest st0 : List Value} {D : va_G} {cA : Nat → ClassId} {a : Nat}
theorem fg_Values_9_Values (hx : p.tables.exec = Jvm.exec) (hb : c.code = cc) (hown : s.vm.findClass "DecisionLayers$Values" = some m.cls) (hts : ∀ w ∈ w_g, w.before args s = true) (hE : x_E D cA s) {fs : List Value} {v : Value} (ha : va_at D x_cl (a, .inr (0, fs)) H) (hv : fs[0]? = some v) (hdg : decode cc pc = .ok (.getfield 9, 3)) (kk : W p l e R s m args below meth c H locs cells slots Q (F0 m (pc + 3) ls (v :: rest))) : W p l e R s m args below meth c H locs cells slots Q (F0 m pc ls (.ref a :: rest)) :=
  x_get hx hb hts in_Values hown hE.2.2 ha rfl 0 (by decide) (hts _ w_1_26) (fun _ h => h) hv hdg kk
theorem fp_Values_9_Values (hx : p.tables.exec = Jvm.exec) (hb : c.code = cc) (hown : s.vm.findClass "DecisionLayers$Values" = some m.cls) (hts : ∀ w ∈ w_g, w.before args s = true) (hE : x_E D cA s) (hin : meth.name = "<init>") {fs : List Value} {v : Value} (ha : va_at D x_cl (a, .inr (0, fs)) H) (hn : narrow (.array .long) v = v) (hfit : fits (.array .long) v = true) (hl : 0 < fs.length) (hdg : decode cc pc = .ok (.putfield 9, 3)) (kk : ∀ (H1 : Heap) (i : Nat), va_at D x_cl (a, .inr (0, fs.set 0 v)) H1 → x_1 a H H1 → W p l e R s m args below meth c H1 (locs ++ [⟨a, i⟩]) cells slots Q (F0 m (pc + 3) ls rest)) : W p l e R s m args below meth c H locs cells slots Q (F0 m pc ls (v :: .ref a :: rest)) :=
  x_putF hx hb hts in_Values t_Values t_Values_ok n_Values hown hE.2.2 ha rfl 0 (by decide) (hts _ w_1_26) (fun _ h => h) rfl hin rfl (by decide +kernel) hn hfit hl hdg kk
theorem fg_Values_13_Values (hx : p.tables.exec = Jvm.exec) (hb : c.code = cc) (hown : s.vm.findClass "DecisionLayers$Values" = some m.cls) (hts : ∀ w ∈ w_g, w.before args s = true) (hE : x_E D cA s) {fs : List Value} {v : Value} (ha : va_at D x_cl (a, .inr (0, fs)) H) (hv : fs[1]? = some v) (hdg : decode cc pc = .ok (.getfield 13, 3)) (kk : W p l e R s m args below meth c H locs cells slots Q (F0 m (pc + 3) ls (v :: rest))) : W p l e R s m args below meth c H locs cells slots Q (F0 m pc ls (.ref a :: rest)) :=
  x_get hx hb hts in_Values hown hE.2.2 ha rfl 1 (by decide) (hts _ w_1_27) (fun _ h => h) hv hdg kk
theorem fp_Values_13_Values (hx : p.tables.exec = Jvm.exec) (hb : c.code = cc) (hown : s.vm.findClass "DecisionLayers$Values" = some m.cls) (hts : ∀ w ∈ w_g, w.before args s = true) (hE : x_E D cA s) (hin : meth.name = "<init>") {fs : List Value} {v : Value} (ha : va_at D x_cl (a, .inr (0, fs)) H) (hn : narrow (.array .int) v = v) (hfit : fits (.array .int) v = true) (hl : 1 < fs.length) (hdg : decode cc pc = .ok (.putfield 13, 3)) (kk : ∀ (H1 : Heap) (i : Nat), va_at D x_cl (a, .inr (0, fs.set 1 v)) H1 → x_1 a H H1 → W p l e R s m args below meth c H1 (locs ++ [⟨a, i⟩]) cells slots Q (F0 m (pc + 3) ls rest)) : W p l e R s m args below meth c H locs cells slots Q (F0 m pc ls (v :: .ref a :: rest)) :=
  x_putF hx hb hts in_Values t_Values t_Values_ok n_Values hown hE.2.2 ha rfl 1 (by decide) (hts _ w_1_27) (fun _ h => h) rfl hin rfl (by decide +kernel) hn hfit hl hdg kk
theorem fg_Statement_9_Statement (hx : p.tables.exec = Jvm.exec) (hb : c.code = cc) (hown : s.vm.findClass "DecisionLayers$Statement" = some m.cls) (hts : ∀ w ∈ w_g, w.before args s = true) (hE : x_E D cA s) {fs : List Value} {v : Value} (ha : va_at D x_cl (a, .inr (2, fs)) H) (hv : fs[0]? = some v) (hdg : decode cc pc = .ok (.getfield 9, 3)) (kk : W p l e R s m args below meth c H locs cells slots Q (F0 m (pc + 3) ls (v :: rest))) : W p l e R s m args below meth c H locs cells slots Q (F0 m pc ls (.ref a :: rest)) :=
  x_get hx hb hts in_Statement hown hE.2.2 ha rfl 0 (by decide) (hts _ w_1_51) (fun _ h => h) hv hdg kk
theorem fp_Statement_9_Statement (hx : p.tables.exec = Jvm.exec) (hb : c.code = cc) (hown : s.vm.findClass "DecisionLayers$Statement" = some m.cls) (hts : ∀ w ∈ w_g, w.before args s = true) (hE : x_E D cA s) {fs : List Value} {v : Value} (ha : va_at D x_cl (a, .inr (2, fs)) H) (hn : narrow (.int) v = v) (hfit : fits (.int) v = true) (hl : 0 < fs.length) (hdg : decode cc pc = .ok (.putfield 9, 3)) (kk : ∀ (H1 : Heap) (i : Nat), va_at D x_cl (a, .inr (2, fs.set 0 v)) H1 → x_1 a H H1 → W p l e R s m args below meth c H1 (locs ++ [⟨a, i⟩]) cells slots Q (F0 m (pc + 3) ls rest)) : W p l e R s m args below meth c H locs cells slots Q (F0 m pc ls (v :: .ref a :: rest)) :=
  x_put hx hb hts in_Statement t_Statement t_Statement_ok n_Statement hown hE.2.2 ha rfl 0 (by decide) (hts _ w_1_51) (fun _ h => h) rfl (by decide +kernel) hn hfit hl hdg kk
theorem fg_Statement_13_Statement (hx : p.tables.exec = Jvm.exec) (hb : c.code = cc) (hown : s.vm.findClass "DecisionLayers$Statement" = some m.cls) (hts : ∀ w ∈ w_g, w.before args s = true) (hE : x_E D cA s) {fs : List Value} {v : Value} (ha : va_at D x_cl (a, .inr (2, fs)) H) (hv : fs[1]? = some v) (hdg : decode cc pc = .ok (.getfield 13, 3)) (kk : W p l e R s m args below meth c H locs cells slots Q (F0 m (pc + 3) ls (v :: rest))) : W p l e R s m args below meth c H locs cells slots Q (F0 m pc ls (.ref a :: rest)) :=
  x_get hx hb hts in_Statement hown hE.2.2 ha rfl 1 (by decide) (hts _ w_1_52) (fun _ h => h) hv hdg kk
theorem fp_Statement_13_Statement (hx : p.tables.exec = Jvm.exec) (hb : c.code = cc) (hown : s.vm.findClass "DecisionLayers$Statement" = some m.cls) (hts : ∀ w ∈ w_g, w.before args s = true) (hE : x_E D cA s) {fs : List Value} {v : Value} (ha : va_at D x_cl (a, .inr (2, fs)) H) (hn : narrow (.long) v = v) (hfit : fits (.long) v = true) (hl : 1 < fs.length) (hdg : decode cc pc = .ok (.putfield 13, 3)) (kk : ∀ (H1 : Heap) (i : Nat), va_at D x_cl (a, .inr (2, fs.set 1 v)) H1 → x_1 a H H1 → W p l e R s m args below meth c H1 (locs ++ [⟨a, i⟩]) cells slots Q (F0 m (pc + 3) ls rest)) : W p l e R s m args below meth c H locs cells slots Q (F0 m pc ls (v :: .ref a :: rest)) :=
  x_put hx hb hts in_Statement t_Statement t_Statement_ok n_Statement hown hE.2.2 ha rfl 1 (by decide) (hts _ w_1_52) (fun _ h => h) rfl (by decide +kernel) hn hfit hl hdg kk
theorem fg_Statement_17_Statement (hx : p.tables.exec = Jvm.exec) (hb : c.code = cc) (hown : s.vm.findClass "DecisionLayers$Statement" = some m.cls) (hts : ∀ w ∈ w_g, w.before args s = true) (hE : x_E D cA s) {fs : List Value} {v : Value} (ha : va_at D x_cl (a, .inr (2, fs)) H) (hv : fs[2]? = some v) (hdg : decode cc pc = .ok (.getfield 17, 3)) (kk : W p l e R s m args below meth c H locs cells slots Q (F0 m (pc + 3) ls (v :: rest))) : W p l e R s m args below meth c H locs cells slots Q (F0 m pc ls (.ref a :: rest)) :=
  x_get hx hb hts in_Statement hown hE.2.2 ha rfl 2 (by decide) (hts _ w_1_53) (fun _ h => h) hv hdg kk
theorem fp_Statement_17_Statement (hx : p.tables.exec = Jvm.exec) (hb : c.code = cc) (hown : s.vm.findClass "DecisionLayers$Statement" = some m.cls) (hts : ∀ w ∈ w_g, w.before args s = true) (hE : x_E D cA s) {fs : List Value} {v : Value} (ha : va_at D x_cl (a, .inr (2, fs)) H) (hn : narrow (.long) v = v) (hfit : fits (.long) v = true) (hl : 2 < fs.length) (hdg : decode cc pc = .ok (.putfield 17, 3)) (kk : ∀ (H1 : Heap) (i : Nat), va_at D x_cl (a, .inr (2, fs.set 2 v)) H1 → x_1 a H H1 → W p l e R s m args below meth c H1 (locs ++ [⟨a, i⟩]) cells slots Q (F0 m (pc + 3) ls rest)) : W p l e R s m args below meth c H locs cells slots Q (F0 m pc ls (v :: .ref a :: rest)) :=
  x_put hx hb hts in_Statement t_Statement t_Statement_ok n_Statement hown hE.2.2 ha rfl 2 (by decide) (hts _ w_1_53) (fun _ h => h) rfl (by decide +kernel) hn hfit hl hdg kk
theorem fg_Statement_20_Statement (hx : p.tables.exec = Jvm.exec) (hb : c.code = cc) (hown : s.vm.findClass "DecisionLayers$Statement" = some m.cls) (hts : ∀ w ∈ w_g, w.before args s = true) (hE : x_E D cA s) {fs : List Value} {v : Value} (ha : va_at D x_cl (a, .inr (2, fs)) H) (hv : fs[3]? = some v) (hdg : decode cc pc = .ok (.getfield 20, 3)) (kk : W p l e R s m args below meth c H locs cells slots Q (F0 m (pc + 3) ls (v :: rest))) : W p l e R s m args below meth c H locs cells slots Q (F0 m pc ls (.ref a :: rest)) :=
  x_get hx hb hts in_Statement hown hE.2.2 ha rfl 3 (by decide) (hts _ w_1_54) (fun _ h => h) hv hdg kk
theorem fp_Statement_20_Statement (hx : p.tables.exec = Jvm.exec) (hb : c.code = cc) (hown : s.vm.findClass "DecisionLayers$Statement" = some m.cls) (hts : ∀ w ∈ w_g, w.before args s = true) (hE : x_E D cA s) {fs : List Value} {v : Value} (ha : va_at D x_cl (a, .inr (2, fs)) H) (hn : narrow (.int) v = v) (hfit : fits (.int) v = true) (hl : 3 < fs.length) (hdg : decode cc pc = .ok (.putfield 20, 3)) (kk : ∀ (H1 : Heap) (i : Nat), va_at D x_cl (a, .inr (2, fs.set 3 v)) H1 → x_1 a H H1 → W p l e R s m args below meth c H1 (locs ++ [⟨a, i⟩]) cells slots Q (F0 m (pc + 3) ls rest)) : W p l e R s m args below meth c H locs cells slots Q (F0 m pc ls (v :: .ref a :: rest)) :=
  x_put hx hb hts in_Statement t_Statement t_Statement_ok n_Statement hown hE.2.2 ha rfl 3 (by decide) (hts _ w_1_54) (fun _ h => h) rfl (by decide +kernel) hn hfit hl hdg kk
theorem fg_Statement_23_Statement (hx : p.tables.exec = Jvm.exec) (hb : c.code = cc) (hown : s.vm.findClass "DecisionLayers$Statement" = some m.cls) (hts : ∀ w ∈ w_g, w.before args s = true) (hE : x_E D cA s) {fs : List Value} {v : Value} (ha : va_at D x_cl (a, .inr (2, fs)) H) (hv : fs[4]? = some v) (hdg : decode cc pc = .ok (.getfield 23, 3)) (kk : W p l e R s m args below meth c H locs cells slots Q (F0 m (pc + 3) ls (v :: rest))) : W p l e R s m args below meth c H locs cells slots Q (F0 m pc ls (.ref a :: rest)) :=
  x_get hx hb hts in_Statement hown hE.2.2 ha rfl 4 (by decide) (hts _ w_1_55) (fun _ h => h) hv hdg kk
theorem fp_Statement_23_Statement (hx : p.tables.exec = Jvm.exec) (hb : c.code = cc) (hown : s.vm.findClass "DecisionLayers$Statement" = some m.cls) (hts : ∀ w ∈ w_g, w.before args s = true) (hE : x_E D cA s) {fs : List Value} {v : Value} (ha : va_at D x_cl (a, .inr (2, fs)) H) (hn : narrow (.object "DecisionLayers$Condition") v = v) (hfit : fits (.object "DecisionLayers$Condition") v = true) (hl : 4 < fs.length) (hdg : decode cc pc = .ok (.putfield 23, 3)) (kk : ∀ (H1 : Heap) (i : Nat), va_at D x_cl (a, .inr (2, fs.set 4 v)) H1 → x_1 a H H1 → W p l e R s m args below meth c H1 (locs ++ [⟨a, i⟩]) cells slots Q (F0 m (pc + 3) ls rest)) : W p l e R s m args below meth c H locs cells slots Q (F0 m pc ls (v :: .ref a :: rest)) :=
  x_put hx hb hts in_Statement t_Statement t_Statement_ok n_Statement hown hE.2.2 ha rfl 4 (by decide) (hts _ w_1_55) (fun _ h => h) rfl (by decide +kernel) hn hfit hl hdg kk
theorem fg_Layer_13_Layer (hx : p.tables.exec = Jvm.exec) (hb : c.code = cc) (hown : s.vm.findClass "DecisionLayers$Layer" = some m.cls) (hts : ∀ w ∈ w_g, w.before args s = true) (hE : x_E D cA s) {fs : List Value} {v : Value} (ha : va_at D x_cl (a, .inr (1, fs)) H) (hv : fs[0]? = some v) (hdg : decode cc pc = .ok (.getfield 13, 3)) (kk : W p l e R s m args below meth c H locs cells slots Q (F0 m (pc + 3) ls (v :: rest))) : W p l e R s m args below meth c H locs cells slots Q (F0 m pc ls (.ref a :: rest)) :=
  x_get hx hb hts in_Layer hown hE.2.2 ha rfl 0 (by decide) (hts _ w_1_67) (fun _ h => h) hv hdg kk
theorem fp_Layer_13_Layer (hx : p.tables.exec = Jvm.exec) (hb : c.code = cc) (hown : s.vm.findClass "DecisionLayers$Layer" = some m.cls) (hts : ∀ w ∈ w_g, w.before args s = true) (hE : x_E D cA s) (hin : meth.name = "<init>") {fs : List Value} {v : Value} (ha : va_at D x_cl (a, .inr (1, fs)) H) (hn : narrow (.array (.object "DecisionLayers$Statement")) v = v) (hfit : fits (.array (.object "DecisionLayers$Statement")) v = true) (hl : 0 < fs.length) (hdg : decode cc pc = .ok (.putfield 13, 3)) (kk : ∀ (H1 : Heap) (i : Nat), va_at D x_cl (a, .inr (1, fs.set 0 v)) H1 → x_1 a H H1 → W p l e R s m args below meth c H1 (locs ++ [⟨a, i⟩]) cells slots Q (F0 m (pc + 3) ls rest)) : W p l e R s m args below meth c H locs cells slots Q (F0 m pc ls (v :: .ref a :: rest)) :=
  x_putF hx hb hts in_Layer t_Layer t_Layer_ok n_Layer hown hE.2.2 ha rfl 0 (by decide) (hts _ w_1_67) (fun _ h => h) rfl hin rfl (by decide +kernel) hn hfit hl hdg kk
theorem fg_Layer_18_Layer (hx : p.tables.exec = Jvm.exec) (hb : c.code = cc) (hown : s.vm.findClass "DecisionLayers$Layer" = some m.cls) (hts : ∀ w ∈ w_g, w.before args s = true) (hE : x_E D cA s) {fs : List Value} {v : Value} (ha : va_at D x_cl (a, .inr (1, fs)) H) (hv : fs[1]? = some v) (hdg : decode cc pc = .ok (.getfield 18, 3)) (kk : W p l e R s m args below meth c H locs cells slots Q (F0 m (pc + 3) ls (v :: rest))) : W p l e R s m args below meth c H locs cells slots Q (F0 m pc ls (.ref a :: rest)) :=
  x_get hx hb hts in_Layer hown hE.2.2 ha rfl 1 (by decide) (hts _ w_1_68) (fun _ h => h) hv hdg kk
theorem fp_Layer_18_Layer (hx : p.tables.exec = Jvm.exec) (hb : c.code = cc) (hown : s.vm.findClass "DecisionLayers$Layer" = some m.cls) (hts : ∀ w ∈ w_g, w.before args s = true) (hE : x_E D cA s) {fs : List Value} {v : Value} (ha : va_at D x_cl (a, .inr (1, fs)) H) (hn : narrow (.int) v = v) (hfit : fits (.int) v = true) (hl : 1 < fs.length) (hdg : decode cc pc = .ok (.putfield 18, 3)) (kk : ∀ (H1 : Heap) (i : Nat), va_at D x_cl (a, .inr (1, fs.set 1 v)) H1 → x_1 a H H1 → W p l e R s m args below meth c H1 (locs ++ [⟨a, i⟩]) cells slots Q (F0 m (pc + 3) ls rest)) : W p l e R s m args below meth c H locs cells slots Q (F0 m pc ls (v :: .ref a :: rest)) :=
  x_put hx hb hts in_Layer t_Layer t_Layer_ok n_Layer hown hE.2.2 ha rfl 1 (by decide) (hts _ w_1_68) (fun _ h => h) rfl (by decide +kernel) hn hfit hl hdg kk
theorem fg_DL_86_Layer (hx : p.tables.exec = Jvm.exec) (hb : c.code = cc) (hown : s.vm.findClass "DecisionLayers" = some m.cls) (hts : ∀ w ∈ w_g, w.before args s = true) (hE : x_E D cA s) {fs : List Value} {v : Value} (ha : va_at D x_cl (a, .inr (1, fs)) H) (hv : fs[1]? = some v) (hdg : decode cc pc = .ok (.getfield 86, 3)) (kk : W p l e R s m args below meth c H locs cells slots Q (F0 m (pc + 3) ls (v :: rest))) : W p l e R s m args below meth c H locs cells slots Q (F0 m pc ls (.ref a :: rest)) :=
  x_getN hx hb hts in_Layer hown hE.2.2 ha rfl 1 (by decide) (va_Nw.use rfl hE.2.1.2.2.1) (fun _ h => h) hv hdg kk
theorem fg_Layer_26_Layer (hx : p.tables.exec = Jvm.exec) (hb : c.code = cc) (hown : s.vm.findClass "DecisionLayers$Layer" = some m.cls) (hts : ∀ w ∈ w_g, w.before args s = true) (hE : x_E D cA s) {fs : List Value} {v : Value} (ha : va_at D x_cl (a, .inr (1, fs)) H) (hv : fs[2]? = some v) (hdg : decode cc pc = .ok (.getfield 26, 3)) (kk : W p l e R s m args below meth c H locs cells slots Q (F0 m (pc + 3) ls (v :: rest))) : W p l e R s m args below meth c H locs cells slots Q (F0 m pc ls (.ref a :: rest)) :=
  x_get hx hb hts in_Layer hown hE.2.2 ha rfl 2 (by decide) (hts _ w_1_70) (fun _ h => h) hv hdg kk
theorem fp_Layer_26_Layer (hx : p.tables.exec = Jvm.exec) (hb : c.code = cc) (hown : s.vm.findClass "DecisionLayers$Layer" = some m.cls) (hts : ∀ w ∈ w_g, w.before args s = true) (hE : x_E D cA s) {fs : List Value} {v : Value} (ha : va_at D x_cl (a, .inr (1, fs)) H) (hn : narrow (.boolean) v = v) (hfit : fits (.boolean) v = true) (hl : 2 < fs.length) (hdg : decode cc pc = .ok (.putfield 26, 3)) (kk : ∀ (H1 : Heap) (i : Nat), va_at D x_cl (a, .inr (1, fs.set 2 v)) H1 → x_1 a H H1 → W p l e R s m args below meth c H1 (locs ++ [⟨a, i⟩]) cells slots Q (F0 m (pc + 3) ls rest)) : W p l e R s m args below meth c H locs cells slots Q (F0 m pc ls (v :: .ref a :: rest)) :=
  x_put hx hb hts in_Layer t_Layer t_Layer_ok n_Layer hown hE.2.2 ha rfl 2 (by decide) (hts _ w_1_70) (fun _ h => h) rfl (by decide +kernel) hn hfit hl hdg kk
theorem fg_DL_79_Layer (hx : p.tables.exec = Jvm.exec) (hb : c.code = cc) (hown : s.vm.findClass "DecisionLayers" = some m.cls) (hts : ∀ w ∈ w_g, w.before args s = true) (hE : x_E D cA s) {fs : List Value} {v : Value} (ha : va_at D x_cl (a, .inr (1, fs)) H) (hv : fs[2]? = some v) (hdg : decode cc pc = .ok (.getfield 79, 3)) (kk : W p l e R s m args below meth c H locs cells slots Q (F0 m (pc + 3) ls (v :: rest))) : W p l e R s m args below meth c H locs cells slots Q (F0 m pc ls (.ref a :: rest)) :=
  x_getN hx hb hts in_Layer hown hE.2.2 ha rfl 2 (by decide) (va_Nw.use rfl hE.2.1.2.2.2.1) (fun _ h => h) hv hdg kk
theorem fp_DL_79_Layer (hx : p.tables.exec = Jvm.exec) (hb : c.code = cc) (hown : s.vm.findClass "DecisionLayers" = some m.cls) (hts : ∀ w ∈ w_g, w.before args s = true) (hE : x_E D cA s) {fs : List Value} {v : Value} (ha : va_at D x_cl (a, .inr (1, fs)) H) (hn : narrow (.boolean) v = v) (hfit : fits (.boolean) v = true) (hl : 2 < fs.length) (hdg : decode cc pc = .ok (.putfield 79, 3)) (kk : ∀ (H1 : Heap) (i : Nat), va_at D x_cl (a, .inr (1, fs.set 2 v)) H1 → x_1 a H H1 → W p l e R s m args below meth c H1 (locs ++ [⟨a, i⟩]) cells slots Q (F0 m (pc + 3) ls rest)) : W p l e R s m args below meth c H locs cells slots Q (F0 m pc ls (v :: .ref a :: rest)) :=
  x_putN hx hb hts in_Layer t_Layer t_Layer_ok n_Layer hown hE.2.2 ha rfl 2 (by decide) (va_Nw.use rfl hE.2.1.2.2.2.1) (fun _ h => h) rfl (by decide +kernel) hn hfit hl hdg kk
theorem fg_Layer_30_Layer (hx : p.tables.exec = Jvm.exec) (hb : c.code = cc) (hown : s.vm.findClass "DecisionLayers$Layer" = some m.cls) (hts : ∀ w ∈ w_g, w.before args s = true) (hE : x_E D cA s) {fs : List Value} {v : Value} (ha : va_at D x_cl (a, .inr (1, fs)) H) (hv : fs[3]? = some v) (hdg : decode cc pc = .ok (.getfield 30, 3)) (kk : W p l e R s m args below meth c H locs cells slots Q (F0 m (pc + 3) ls (v :: rest))) : W p l e R s m args below meth c H locs cells slots Q (F0 m pc ls (.ref a :: rest)) :=
  x_get hx hb hts in_Layer hown hE.2.2 ha rfl 3 (by decide) (hts _ w_1_72) (fun _ h => h) hv hdg kk
theorem fp_Layer_30_Layer (hx : p.tables.exec = Jvm.exec) (hb : c.code = cc) (hown : s.vm.findClass "DecisionLayers$Layer" = some m.cls) (hts : ∀ w ∈ w_g, w.before args s = true) (hE : x_E D cA s) {fs : List Value} {v : Value} (ha : va_at D x_cl (a, .inr (1, fs)) H) (hn : narrow (.int) v = v) (hfit : fits (.int) v = true) (hl : 3 < fs.length) (hdg : decode cc pc = .ok (.putfield 30, 3)) (kk : ∀ (H1 : Heap) (i : Nat), va_at D x_cl (a, .inr (1, fs.set 3 v)) H1 → x_1 a H H1 → W p l e R s m args below meth c H1 (locs ++ [⟨a, i⟩]) cells slots Q (F0 m (pc + 3) ls rest)) : W p l e R s m args below meth c H locs cells slots Q (F0 m pc ls (v :: .ref a :: rest)) :=
  x_put hx hb hts in_Layer t_Layer t_Layer_ok n_Layer hown hE.2.2 ha rfl 3 (by decide) (hts _ w_1_72) (fun _ h => h) rfl (by decide +kernel) hn hfit hl hdg kk
theorem fg_DL_111_Layer (hx : p.tables.exec = Jvm.exec) (hb : c.code = cc) (hown : s.vm.findClass "DecisionLayers" = some m.cls) (hts : ∀ w ∈ w_g, w.before args s = true) (hE : x_E D cA s) {fs : List Value} {v : Value} (ha : va_at D x_cl (a, .inr (1, fs)) H) (hv : fs[3]? = some v) (hdg : decode cc pc = .ok (.getfield 111, 3)) (kk : W p l e R s m args below meth c H locs cells slots Q (F0 m (pc + 3) ls (v :: rest))) : W p l e R s m args below meth c H locs cells slots Q (F0 m pc ls (.ref a :: rest)) :=
  x_getN hx hb hts in_Layer hown hE.2.2 ha rfl 3 (by decide) (va_Nw.use rfl hE.2.1.2.2.2.2.1) (fun _ h => h) hv hdg kk
theorem fg_DL_10_DL (hx : p.tables.exec = Jvm.exec) (hb : c.code = cc) (hown : s.vm.findClass "DecisionLayers" = some m.cls) (hts : ∀ w ∈ w_g, w.before args s = true) (hE : x_E D cA s) {fs : List Value} {v : Value} (ha : va_at D x_cl (a, .inr (5, fs)) H) (hv : fs[0]? = some v) (hdg : decode cc pc = .ok (.getfield 10, 3)) (kk : W p l e R s m args below meth c H locs cells slots Q (F0 m (pc + 3) ls (v :: rest))) : W p l e R s m args below meth c H locs cells slots Q (F0 m pc ls (.ref a :: rest)) :=
  x_get hx hb hts in_DL hown hE.2.2 ha rfl 0 (by decide) (hts _ w_1_83) (fun _ h => h) hv hdg kk
theorem fp_DL_10_DL (hx : p.tables.exec = Jvm.exec) (hb : c.code = cc) (hown : s.vm.findClass "DecisionLayers" = some m.cls) (hts : ∀ w ∈ w_g, w.before args s = true) (hE : x_E D cA s) (hin : meth.name = "<init>") {fs : List Value} {v : Value} (ha : va_at D x_cl (a, .inr (5, fs)) H) (hn : narrow (.object "DecisionLayers$Values") v = v) (hfit : fits (.object "DecisionLayers$Values") v = true) (hl : 0 < fs.length) (hdg : decode cc pc = .ok (.putfield 10, 3)) (kk : ∀ (H1 : Heap) (i : Nat), va_at D x_cl (a, .inr (5, fs.set 0 v)) H1 → x_1 a H H1 → W p l e R s m args below meth c H1 (locs ++ [⟨a, i⟩]) cells slots Q (F0 m (pc + 3) ls rest)) : W p l e R s m args below meth c H locs cells slots Q (F0 m pc ls (v :: .ref a :: rest)) :=
  x_putF hx hb hts in_DL t_DL t_DL_ok n_DL hown hE.2.2 ha rfl 0 (by decide) (hts _ w_1_83) (fun _ h => h) rfl hin rfl (by decide +kernel) hn hfit hl hdg kk
theorem fg_DL_18_DL (hx : p.tables.exec = Jvm.exec) (hb : c.code = cc) (hown : s.vm.findClass "DecisionLayers" = some m.cls) (hts : ∀ w ∈ w_g, w.before args s = true) (hE : x_E D cA s) {fs : List Value} {v : Value} (ha : va_at D x_cl (a, .inr (5, fs)) H) (hv : fs[1]? = some v) (hdg : decode cc pc = .ok (.getfield 18, 3)) (kk : W p l e R s m args below meth c H locs cells slots Q (F0 m (pc + 3) ls (v :: rest))) : W p l e R s m args below meth c H locs cells slots Q (F0 m pc ls (.ref a :: rest)) :=
  x_get hx hb hts in_DL hown hE.2.2 ha rfl 1 (by decide) (hts _ w_1_84) (fun _ h => h) hv hdg kk
theorem fp_DL_18_DL (hx : p.tables.exec = Jvm.exec) (hb : c.code = cc) (hown : s.vm.findClass "DecisionLayers" = some m.cls) (hts : ∀ w ∈ w_g, w.before args s = true) (hE : x_E D cA s) (hin : meth.name = "<init>") {fs : List Value} {v : Value} (ha : va_at D x_cl (a, .inr (5, fs)) H) (hn : narrow (.array (.object "DecisionLayers$Condition")) v = v) (hfit : fits (.array (.object "DecisionLayers$Condition")) v = true) (hl : 1 < fs.length) (hdg : decode cc pc = .ok (.putfield 18, 3)) (kk : ∀ (H1 : Heap) (i : Nat), va_at D x_cl (a, .inr (5, fs.set 1 v)) H1 → x_1 a H H1 → W p l e R s m args below meth c H1 (locs ++ [⟨a, i⟩]) cells slots Q (F0 m (pc + 3) ls rest)) : W p l e R s m args below meth c H locs cells slots Q (F0 m pc ls (v :: .ref a :: rest)) :=
  x_putF hx hb hts in_DL t_DL t_DL_ok n_DL hown hE.2.2 ha rfl 1 (by decide) (hts _ w_1_84) (fun _ h => h) rfl hin rfl (by decide +kernel) hn hfit hl hdg kk
theorem fg_DL_24_DL (hx : p.tables.exec = Jvm.exec) (hb : c.code = cc) (hown : s.vm.findClass "DecisionLayers" = some m.cls) (hts : ∀ w ∈ w_g, w.before args s = true) (hE : x_E D cA s) {fs : List Value} {v : Value} (ha : va_at D x_cl (a, .inr (5, fs)) H) (hv : fs[2]? = some v) (hdg : decode cc pc = .ok (.getfield 24, 3)) (kk : W p l e R s m args below meth c H locs cells slots Q (F0 m (pc + 3) ls (v :: rest))) : W p l e R s m args below meth c H locs cells slots Q (F0 m pc ls (.ref a :: rest)) :=
  x_get hx hb hts in_DL hown hE.2.2 ha rfl 2 (by decide) (hts _ w_1_85) (fun _ h => h) hv hdg kk
theorem fp_DL_24_DL (hx : p.tables.exec = Jvm.exec) (hb : c.code = cc) (hown : s.vm.findClass "DecisionLayers" = some m.cls) (hts : ∀ w ∈ w_g, w.before args s = true) (hE : x_E D cA s) (hin : meth.name = "<init>") {fs : List Value} {v : Value} (ha : va_at D x_cl (a, .inr (5, fs)) H) (hn : narrow (.array (.object "DecisionLayers$Layer")) v = v) (hfit : fits (.array (.object "DecisionLayers$Layer")) v = true) (hl : 2 < fs.length) (hdg : decode cc pc = .ok (.putfield 24, 3)) (kk : ∀ (H1 : Heap) (i : Nat), va_at D x_cl (a, .inr (5, fs.set 2 v)) H1 → x_1 a H H1 → W p l e R s m args below meth c H1 (locs ++ [⟨a, i⟩]) cells slots Q (F0 m (pc + 3) ls rest)) : W p l e R s m args below meth c H locs cells slots Q (F0 m pc ls (v :: .ref a :: rest)) :=
  x_putF hx hb hts in_DL t_DL t_DL_ok n_DL hown hE.2.2 ha rfl 2 (by decide) (hts _ w_1_85) (fun _ h => h) rfl hin rfl (by decide +kernel) hn hfit hl hdg kk
theorem fg_DL_29_DL (hx : p.tables.exec = Jvm.exec) (hb : c.code = cc) (hown : s.vm.findClass "DecisionLayers" = some m.cls) (hts : ∀ w ∈ w_g, w.before args s = true) (hE : x_E D cA s) {fs : List Value} {v : Value} (ha : va_at D x_cl (a, .inr (5, fs)) H) (hv : fs[3]? = some v) (hdg : decode cc pc = .ok (.getfield 29, 3)) (kk : W p l e R s m args below meth c H locs cells slots Q (F0 m (pc + 3) ls (v :: rest))) : W p l e R s m args below meth c H locs cells slots Q (F0 m pc ls (.ref a :: rest)) :=
  x_get hx hb hts in_DL hown hE.2.2 ha rfl 3 (by decide) (hts _ w_1_86) (fun _ h => h) hv hdg kk
theorem fp_DL_29_DL (hx : p.tables.exec = Jvm.exec) (hb : c.code = cc) (hown : s.vm.findClass "DecisionLayers" = some m.cls) (hts : ∀ w ∈ w_g, w.before args s = true) (hE : x_E D cA s) {fs : List Value} {v : Value} (ha : va_at D x_cl (a, .inr (5, fs)) H) (hn : narrow (.int) v = v) (hfit : fits (.int) v = true) (hl : 3 < fs.length) (hdg : decode cc pc = .ok (.putfield 29, 3)) (kk : ∀ (H1 : Heap) (i : Nat), va_at D x_cl (a, .inr (5, fs.set 3 v)) H1 → x_1 a H H1 → W p l e R s m args below meth c H1 (locs ++ [⟨a, i⟩]) cells slots Q (F0 m (pc + 3) ls rest)) : W p l e R s m args below meth c H locs cells slots Q (F0 m pc ls (v :: .ref a :: rest)) :=
  x_put hx hb hts in_DL t_DL t_DL_ok n_DL hown hE.2.2 ha rfl 3 (by decide) (hts _ w_1_86) (fun _ h => h) rfl (by decide +kernel) hn hfit hl hdg kk
theorem fg_DL_33_DL (hx : p.tables.exec = Jvm.exec) (hb : c.code = cc) (hown : s.vm.findClass "DecisionLayers" = some m.cls) (hts : ∀ w ∈ w_g, w.before args s = true) (hE : x_E D cA s) {fs : List Value} {v : Value} (ha : va_at D x_cl (a, .inr (5, fs)) H) (hv : fs[4]? = some v) (hdg : decode cc pc = .ok (.getfield 33, 3)) (kk : W p l e R s m args below meth c H locs cells slots Q (F0 m (pc + 3) ls (v :: rest))) : W p l e R s m args below meth c H locs cells slots Q (F0 m pc ls (.ref a :: rest)) :=
  x_get hx hb hts in_DL hown hE.2.2 ha rfl 4 (by decide) (hts _ w_1_87) (fun _ h => h) hv hdg kk
theorem fp_DL_33_DL (hx : p.tables.exec = Jvm.exec) (hb : c.code = cc) (hown : s.vm.findClass "DecisionLayers" = some m.cls) (hts : ∀ w ∈ w_g, w.before args s = true) (hE : x_E D cA s) {fs : List Value} {v : Value} (ha : va_at D x_cl (a, .inr (5, fs)) H) (hn : narrow (.int) v = v) (hfit : fits (.int) v = true) (hl : 4 < fs.length) (hdg : decode cc pc = .ok (.putfield 33, 3)) (kk : ∀ (H1 : Heap) (i : Nat), va_at D x_cl (a, .inr (5, fs.set 4 v)) H1 → x_1 a H H1 → W p l e R s m args below meth c H1 (locs ++ [⟨a, i⟩]) cells slots Q (F0 m (pc + 3) ls rest)) : W p l e R s m args below meth c H locs cells slots Q (F0 m pc ls (v :: .ref a :: rest)) :=
  x_put hx hb hts in_DL t_DL t_DL_ok n_DL hown hE.2.2 ha rfl 4 (by decide) (hts _ w_1_87) (fun _ h => h) rfl (by decide +kernel) hn hfit hl hdg kk
theorem fg_Test_7_Test (hx : p.tables.exec = Jvm.exec) (hb : c.code = cc) (hown : s.vm.findClass "DecisionLayers$Test" = some m.cls) (hts : ∀ w ∈ w_g, w.before args s = true) (hE : x_E D cA s) {fs : List Value} {v : Value} (ha : va_at D x_cl (a, .inr (3, fs)) H) (hv : fs[1]? = some v) (hdg : decode cc pc = .ok (.getfield 7, 3)) (kk : W p l e R s m args below meth c H locs cells slots Q (F0 m (pc + 3) ls (v :: rest))) : W p l e R s m args below meth c H locs cells slots Q (F0 m pc ls (.ref a :: rest)) :=
  x_get hx hb hts in_Test hown hE.2.2 ha rfl 1 (by decide) (hts _ w_1_115) (fun _ h => h) hv hdg kk
theorem fp_Test_7_Test (hx : p.tables.exec = Jvm.exec) (hb : c.code = cc) (hown : s.vm.findClass "DecisionLayers$Test" = some m.cls) (hts : ∀ w ∈ w_g, w.before args s = true) (hE : x_E D cA s) (hin : meth.name = "<init>") {fs : List Value} {v : Value} (ha : va_at D x_cl (a, .inr (3, fs)) H) (hn : narrow (.int) v = v) (hfit : fits (.int) v = true) (hl : 1 < fs.length) (hdg : decode cc pc = .ok (.putfield 7, 3)) (kk : ∀ (H1 : Heap) (i : Nat), va_at D x_cl (a, .inr (3, fs.set 1 v)) H1 → x_1 a H H1 → W p l e R s m args below meth c H1 (locs ++ [⟨a, i⟩]) cells slots Q (F0 m (pc + 3) ls rest)) : W p l e R s m args below meth c H locs cells slots Q (F0 m pc ls (v :: .ref a :: rest)) :=
  x_putF hx hb hts in_Test t_Test t_Test_ok n_Test hown hE.2.2 ha rfl 1 (by decide) (hts _ w_1_115) (fun _ h => h) rfl hin rfl (by decide +kernel) hn hfit hl hdg kk
theorem fg_Test_13_Test (hx : p.tables.exec = Jvm.exec) (hb : c.code = cc) (hown : s.vm.findClass "DecisionLayers$Test" = some m.cls) (hts : ∀ w ∈ w_g, w.before args s = true) (hE : x_E D cA s) {fs : List Value} {v : Value} (ha : va_at D x_cl (a, .inr (3, fs)) H) (hv : fs[2]? = some v) (hdg : decode cc pc = .ok (.getfield 13, 3)) (kk : W p l e R s m args below meth c H locs cells slots Q (F0 m (pc + 3) ls (v :: rest))) : W p l e R s m args below meth c H locs cells slots Q (F0 m pc ls (.ref a :: rest)) :=
  x_get hx hb hts in_Test hown hE.2.2 ha rfl 2 (by decide) (hts _ w_1_116) (fun _ h => h) hv hdg kk
theorem fp_Test_13_Test (hx : p.tables.exec = Jvm.exec) (hb : c.code = cc) (hown : s.vm.findClass "DecisionLayers$Test" = some m.cls) (hts : ∀ w ∈ w_g, w.before args s = true) (hE : x_E D cA s) (hin : meth.name = "<init>") {fs : List Value} {v : Value} (ha : va_at D x_cl (a, .inr (3, fs)) H) (hn : narrow (.int) v = v) (hfit : fits (.int) v = true) (hl : 2 < fs.length) (hdg : decode cc pc = .ok (.putfield 13, 3)) (kk : ∀ (H1 : Heap) (i : Nat), va_at D x_cl (a, .inr (3, fs.set 2 v)) H1 → x_1 a H H1 → W p l e R s m args below meth c H1 (locs ++ [⟨a, i⟩]) cells slots Q (F0 m (pc + 3) ls rest)) : W p l e R s m args below meth c H locs cells slots Q (F0 m pc ls (v :: .ref a :: rest)) :=
  x_putF hx hb hts in_Test t_Test t_Test_ok n_Test hown hE.2.2 ha rfl 2 (by decide) (hts _ w_1_116) (fun _ h => h) rfl hin rfl (by decide +kernel) hn hfit hl hdg kk
theorem fg_Test_16_Test (hx : p.tables.exec = Jvm.exec) (hb : c.code = cc) (hown : s.vm.findClass "DecisionLayers$Test" = some m.cls) (hts : ∀ w ∈ w_g, w.before args s = true) (hE : x_E D cA s) {fs : List Value} {v : Value} (ha : va_at D x_cl (a, .inr (3, fs)) H) (hv : fs[3]? = some v) (hdg : decode cc pc = .ok (.getfield 16, 3)) (kk : W p l e R s m args below meth c H locs cells slots Q (F0 m (pc + 3) ls (v :: rest))) : W p l e R s m args below meth c H locs cells slots Q (F0 m pc ls (.ref a :: rest)) :=
  x_get hx hb hts in_Test hown hE.2.2 ha rfl 3 (by decide) (hts _ w_1_117) (fun _ h => h) hv hdg kk
theorem fp_Test_16_Test (hx : p.tables.exec = Jvm.exec) (hb : c.code = cc) (hown : s.vm.findClass "DecisionLayers$Test" = some m.cls) (hts : ∀ w ∈ w_g, w.before args s = true) (hE : x_E D cA s) (hin : meth.name = "<init>") {fs : List Value} {v : Value} (ha : va_at D x_cl (a, .inr (3, fs)) H) (hn : narrow (.long) v = v) (hfit : fits (.long) v = true) (hl : 3 < fs.length) (hdg : decode cc pc = .ok (.putfield 16, 3)) (kk : ∀ (H1 : Heap) (i : Nat), va_at D x_cl (a, .inr (3, fs.set 3 v)) H1 → x_1 a H H1 → W p l e R s m args below meth c H1 (locs ++ [⟨a, i⟩]) cells slots Q (F0 m (pc + 3) ls rest)) : W p l e R s m args below meth c H locs cells slots Q (F0 m pc ls (v :: .ref a :: rest)) :=
  x_putF hx hb hts in_Test t_Test t_Test_ok n_Test hown hE.2.2 ha rfl 3 (by decide) (hts _ w_1_117) (fun _ h => h) rfl hin rfl (by decide +kernel) hn hfit hl hdg kk
theorem fg_Test_20_Test (hx : p.tables.exec = Jvm.exec) (hb : c.code = cc) (hown : s.vm.findClass "DecisionLayers$Test" = some m.cls) (hts : ∀ w ∈ w_g, w.before args s = true) (hE : x_E D cA s) {fs : List Value} {v : Value} (ha : va_at D x_cl (a, .inr (3, fs)) H) (hv : fs[4]? = some v) (hdg : decode cc pc = .ok (.getfield 20, 3)) (kk : W p l e R s m args below meth c H locs cells slots Q (F0 m (pc + 3) ls (v :: rest))) : W p l e R s m args below meth c H locs cells slots Q (F0 m pc ls (.ref a :: rest)) :=
  x_get hx hb hts in_Test hown hE.2.2 ha rfl 4 (by decide) (hts _ w_1_118) (fun _ h => h) hv hdg kk
theorem fp_Test_20_Test (hx : p.tables.exec = Jvm.exec) (hb : c.code = cc) (hown : s.vm.findClass "DecisionLayers$Test" = some m.cls) (hts : ∀ w ∈ w_g, w.before args s = true) (hE : x_E D cA s) (hin : meth.name = "<init>") {fs : List Value} {v : Value} (ha : va_at D x_cl (a, .inr (3, fs)) H) (hn : narrow (.int) v = v) (hfit : fits (.int) v = true) (hl : 4 < fs.length) (hdg : decode cc pc = .ok (.putfield 20, 3)) (kk : ∀ (H1 : Heap) (i : Nat), va_at D x_cl (a, .inr (3, fs.set 4 v)) H1 → x_1 a H H1 → W p l e R s m args below meth c H1 (locs ++ [⟨a, i⟩]) cells slots Q (F0 m (pc + 3) ls rest)) : W p l e R s m args below meth c H locs cells slots Q (F0 m pc ls (v :: .ref a :: rest)) :=
  x_putF hx hb hts in_Test t_Test t_Test_ok n_Test hown hE.2.2 ha rfl 4 (by decide) (hts _ w_1_118) (fun _ h => h) rfl hin rfl (by decide +kernel) hn hfit hl hdg kk
theorem fp_Condition_7_Test (hx : p.tables.exec = Jvm.exec) (hb : c.code = cc) (hown : s.vm.findClass "DecisionLayers$Condition" = some m.cls) (hts : ∀ w ∈ w_g, w.before args s = true) (hE : x_E D cA s) (hin : meth.name = "<init>") {fs : List Value} {v : Value} (ha : va_at D x_cl (a, .inr (3, fs)) H) (hn : narrow (.int) v = v) (hfit : fits (.int) v = true) (hl : 0 < fs.length) (hdg : decode cc pc = .ok (.putfield 7, 3)) (kk : ∀ (H1 : Heap) (i : Nat), va_at D x_cl (a, .inr (3, fs.set 0 v)) H1 → x_1 a H H1 → W p l e R s m args below meth c H1 (locs ++ [⟨a, i⟩]) cells slots Q (F0 m (pc + 3) ls rest)) : W p l e R s m args below meth c H locs cells slots Q (F0 m pc ls (v :: .ref a :: rest)) :=
  x_putF hx hb hts in_Test t_Test t_Test_ok n_Test hown hE.2.2 ha rfl 0 (by decide) (hts _ w_1_119) (fun _ h => h) rfl hin rfl (by decide +kernel) hn hfit hl hdg kk
theorem fp_Condition_7_Joined (hx : p.tables.exec = Jvm.exec) (hb : c.code = cc) (hown : s.vm.findClass "DecisionLayers$Condition" = some m.cls) (hts : ∀ w ∈ w_g, w.before args s = true) (hE : x_E D cA s) (hin : meth.name = "<init>") {fs : List Value} {v : Value} (ha : va_at D x_cl (a, .inr (4, fs)) H) (hn : narrow (.int) v = v) (hfit : fits (.int) v = true) (hl : 0 < fs.length) (hdg : decode cc pc = .ok (.putfield 7, 3)) (kk : ∀ (H1 : Heap) (i : Nat), va_at D x_cl (a, .inr (4, fs.set 0 v)) H1 → x_1 a H H1 → W p l e R s m args below meth c H1 (locs ++ [⟨a, i⟩]) cells slots Q (F0 m (pc + 3) ls rest)) : W p l e R s m args below meth c H locs cells slots Q (F0 m pc ls (v :: .ref a :: rest)) :=
  x_putF hx hb hts in_Joined t_Joined t_Joined_ok n_Joined hown hE.2.2 ha rfl 0 (by decide) (hts _ w_1_119) (fun _ h => h) rfl hin rfl (by decide +kernel) hn hfit hl hdg kk
theorem fg_DL_127_Test (hx : p.tables.exec = Jvm.exec) (hb : c.code = cc) (hown : s.vm.findClass "DecisionLayers" = some m.cls) (hts : ∀ w ∈ w_g, w.before args s = true) (hE : x_E D cA s) {fs : List Value} {v : Value} (ha : va_at D x_cl (a, .inr (3, fs)) H) (hv : fs[0]? = some v) (hdg : decode cc pc = .ok (.getfield 127, 3)) (kk : W p l e R s m args below meth c H locs cells slots Q (F0 m (pc + 3) ls (v :: rest))) : W p l e R s m args below meth c H locs cells slots Q (F0 m pc ls (.ref a :: rest)) :=
  x_get hx hb hts in_Test hown hE.2.2 ha rfl 0 (by decide) (hts _ w_1_120) (fun _ h => h) hv hdg kk
theorem fg_DL_127_Joined (hx : p.tables.exec = Jvm.exec) (hb : c.code = cc) (hown : s.vm.findClass "DecisionLayers" = some m.cls) (hts : ∀ w ∈ w_g, w.before args s = true) (hE : x_E D cA s) {fs : List Value} {v : Value} (ha : va_at D x_cl (a, .inr (4, fs)) H) (hv : fs[0]? = some v) (hdg : decode cc pc = .ok (.getfield 127, 3)) (kk : W p l e R s m args below meth c H locs cells slots Q (F0 m (pc + 3) ls (v :: rest))) : W p l e R s m args below meth c H locs cells slots Q (F0 m pc ls (.ref a :: rest)) :=
  x_get hx hb hts in_Joined hown hE.2.2 ha rfl 0 (by decide) (hts _ w_1_120) (fun _ h => h) hv hdg kk
theorem fg_Joined_7_Joined (hx : p.tables.exec = Jvm.exec) (hb : c.code = cc) (hown : s.vm.findClass "DecisionLayers$Joined" = some m.cls) (hts : ∀ w ∈ w_g, w.before args s = true) (hE : x_E D cA s) {fs : List Value} {v : Value} (ha : va_at D x_cl (a, .inr (4, fs)) H) (hv : fs[1]? = some v) (hdg : decode cc pc = .ok (.getfield 7, 3)) (kk : W p l e R s m args below meth c H locs cells slots Q (F0 m (pc + 3) ls (v :: rest))) : W p l e R s m args below meth c H locs cells slots Q (F0 m pc ls (.ref a :: rest)) :=
  x_get hx hb hts in_Joined hown hE.2.2 ha rfl 1 (by decide) (hts _ w_1_157) (fun _ h => h) hv hdg kk
theorem fp_Joined_7_Joined (hx : p.tables.exec = Jvm.exec) (hb : c.code = cc) (hown : s.vm.findClass "DecisionLayers$Joined" = some m.cls) (hts : ∀ w ∈ w_g, w.before args s = true) (hE : x_E D cA s) (hin : meth.name = "<init>") {fs : List Value} {v : Value} (ha : va_at D x_cl (a, .inr (4, fs)) H) (hn : narrow (.int) v = v) (hfit : fits (.int) v = true) (hl : 1 < fs.length) (hdg : decode cc pc = .ok (.putfield 7, 3)) (kk : ∀ (H1 : Heap) (i : Nat), va_at D x_cl (a, .inr (4, fs.set 1 v)) H1 → x_1 a H H1 → W p l e R s m args below meth c H1 (locs ++ [⟨a, i⟩]) cells slots Q (F0 m (pc + 3) ls rest)) : W p l e R s m args below meth c H locs cells slots Q (F0 m pc ls (v :: .ref a :: rest)) :=
  x_putF hx hb hts in_Joined t_Joined t_Joined_ok n_Joined hown hE.2.2 ha rfl 1 (by decide) (hts _ w_1_157) (fun _ h => h) rfl hin rfl (by decide +kernel) hn hfit hl hdg kk
theorem fg_Joined_13_Joined (hx : p.tables.exec = Jvm.exec) (hb : c.code = cc) (hown : s.vm.findClass "DecisionLayers$Joined" = some m.cls) (hts : ∀ w ∈ w_g, w.before args s = true) (hE : x_E D cA s) {fs : List Value} {v : Value} (ha : va_at D x_cl (a, .inr (4, fs)) H) (hv : fs[2]? = some v) (hdg : decode cc pc = .ok (.getfield 13, 3)) (kk : W p l e R s m args below meth c H locs cells slots Q (F0 m (pc + 3) ls (v :: rest))) : W p l e R s m args below meth c H locs cells slots Q (F0 m pc ls (.ref a :: rest)) :=
  x_get hx hb hts in_Joined hown hE.2.2 ha rfl 2 (by decide) (hts _ w_1_158) (fun _ h => h) hv hdg kk
theorem fp_Joined_13_Joined (hx : p.tables.exec = Jvm.exec) (hb : c.code = cc) (hown : s.vm.findClass "DecisionLayers$Joined" = some m.cls) (hts : ∀ w ∈ w_g, w.before args s = true) (hE : x_E D cA s) (hin : meth.name = "<init>") {fs : List Value} {v : Value} (ha : va_at D x_cl (a, .inr (4, fs)) H) (hn : narrow (.array (.object "DecisionLayers$Condition")) v = v) (hfit : fits (.array (.object "DecisionLayers$Condition")) v = true) (hl : 2 < fs.length) (hdg : decode cc pc = .ok (.putfield 13, 3)) (kk : ∀ (H1 : Heap) (i : Nat), va_at D x_cl (a, .inr (4, fs.set 2 v)) H1 → x_1 a H H1 → W p l e R s m args below meth c H1 (locs ++ [⟨a, i⟩]) cells slots Q (F0 m (pc + 3) ls rest)) : W p l e R s m args below meth c H locs cells slots Q (F0 m pc ls (v :: .ref a :: rest)) :=
  x_putF hx hb hts in_Joined t_Joined t_Joined_ok n_Joined hown hE.2.2 ha rfl 2 (by decide) (hts _ w_1_158) (fun _ h => h) rfl hin rfl (by decide +kernel) hn hfit hl hdg kk
theorem fg_M_7_M (hx : p.tables.exec = Jvm.exec) (hb : c.code = cc) (hown : s.vm.findClass "DecisionLayersModel" = some m.cls) (hts : ∀ w ∈ w_g, w.before args s = true) (hE : x_E D cA s) {fs : List Value} {v : Value} (ha : va_at D x_cl (a, .inr (6, fs)) H) (hv : fs[0]? = some v) (hdg : decode cc pc = .ok (.getfield 7, 3)) (kk : W p l e R s m args below meth c H locs cells slots Q (F0 m (pc + 3) ls (v :: rest))) : W p l e R s m args below meth c H locs cells slots Q (F0 m pc ls (.ref a :: rest)) :=
  x_get hx hb hts in_M hown hE.2.2 ha rfl 0 (by decide) (hts _ w_2_154) (fun _ h => h) hv hdg kk
theorem fp_M_7_M (hx : p.tables.exec = Jvm.exec) (hb : c.code = cc) (hown : s.vm.findClass "DecisionLayersModel" = some m.cls) (hts : ∀ w ∈ w_g, w.before args s = true) (hE : x_E D cA s) (hin : meth.name = "<init>") {fs : List Value} {v : Value} (ha : va_at D x_cl (a, .inr (6, fs)) H) (hn : narrow (.array .int) v = v) (hfit : fits (.array .int) v = true) (hl : 0 < fs.length) (hdg : decode cc pc = .ok (.putfield 7, 3)) (kk : ∀ (H1 : Heap) (i : Nat), va_at D x_cl (a, .inr (6, fs.set 0 v)) H1 → x_1 a H H1 → W p l e R s m args below meth c H1 (locs ++ [⟨a, i⟩]) cells slots Q (F0 m (pc + 3) ls rest)) : W p l e R s m args below meth c H locs cells slots Q (F0 m pc ls (v :: .ref a :: rest)) :=
  x_putF hx hb hts in_M t_M t_M_ok n_M hown hE.2.2 ha rfl 0 (by decide) (hts _ w_2_154) (fun _ h => h) rfl hin rfl (by decide +kernel) hn hfit hl hdg kk
theorem fg_M_13_M (hx : p.tables.exec = Jvm.exec) (hb : c.code = cc) (hown : s.vm.findClass "DecisionLayersModel" = some m.cls) (hts : ∀ w ∈ w_g, w.before args s = true) (hE : x_E D cA s) {fs : List Value} {v : Value} (ha : va_at D x_cl (a, .inr (6, fs)) H) (hv : fs[1]? = some v) (hdg : decode cc pc = .ok (.getfield 13, 3)) (kk : W p l e R s m args below meth c H locs cells slots Q (F0 m (pc + 3) ls (v :: rest))) : W p l e R s m args below meth c H locs cells slots Q (F0 m pc ls (.ref a :: rest)) :=
  x_get hx hb hts in_M hown hE.2.2 ha rfl 1 (by decide) (hts _ w_2_155) (fun _ h => h) hv hdg kk
theorem fp_M_13_M (hx : p.tables.exec = Jvm.exec) (hb : c.code = cc) (hown : s.vm.findClass "DecisionLayersModel" = some m.cls) (hts : ∀ w ∈ w_g, w.before args s = true) (hE : x_E D cA s) (hin : meth.name = "<init>") {fs : List Value} {v : Value} (ha : va_at D x_cl (a, .inr (6, fs)) H) (hn : narrow (.array .long) v = v) (hfit : fits (.array .long) v = true) (hl : 1 < fs.length) (hdg : decode cc pc = .ok (.putfield 13, 3)) (kk : ∀ (H1 : Heap) (i : Nat), va_at D x_cl (a, .inr (6, fs.set 1 v)) H1 → x_1 a H H1 → W p l e R s m args below meth c H1 (locs ++ [⟨a, i⟩]) cells slots Q (F0 m (pc + 3) ls rest)) : W p l e R s m args below meth c H locs cells slots Q (F0 m pc ls (v :: .ref a :: rest)) :=
  x_putF hx hb hts in_M t_M t_M_ok n_M hown hE.2.2 ha rfl 1 (by decide) (hts _ w_2_155) (fun _ h => h) rfl hin rfl (by decide +kernel) hn hfit hl hdg kk
theorem fg_M_100_M (hx : p.tables.exec = Jvm.exec) (hb : c.code = cc) (hown : s.vm.findClass "DecisionLayersModel" = some m.cls) (hts : ∀ w ∈ w_g, w.before args s = true) (hE : x_E D cA s) {fs : List Value} {v : Value} (ha : va_at D x_cl (a, .inr (6, fs)) H) (hv : fs[2]? = some v) (hdg : decode cc pc = .ok (.getfield 100, 3)) (kk : W p l e R s m args below meth c H locs cells slots Q (F0 m (pc + 3) ls (v :: rest))) : W p l e R s m args below meth c H locs cells slots Q (F0 m pc ls (.ref a :: rest)) :=
  x_get hx hb hts in_M hown hE.2.2 ha rfl 2 (by decide) (hts _ w_2_156) (fun _ h => h) hv hdg kk
theorem fp_M_100_M (hx : p.tables.exec = Jvm.exec) (hb : c.code = cc) (hown : s.vm.findClass "DecisionLayersModel" = some m.cls) (hts : ∀ w ∈ w_g, w.before args s = true) (hE : x_E D cA s) {fs : List Value} {v : Value} (ha : va_at D x_cl (a, .inr (6, fs)) H) (hn : narrow (.int) v = v) (hfit : fits (.int) v = true) (hl : 2 < fs.length) (hdg : decode cc pc = .ok (.putfield 100, 3)) (kk : ∀ (H1 : Heap) (i : Nat), va_at D x_cl (a, .inr (6, fs.set 2 v)) H1 → x_1 a H H1 → W p l e R s m args below meth c H1 (locs ++ [⟨a, i⟩]) cells slots Q (F0 m (pc + 3) ls rest)) : W p l e R s m args below meth c H locs cells slots Q (F0 m pc ls (v :: .ref a :: rest)) :=
  x_put hx hb hts in_M t_M t_M_ok n_M hown hE.2.2 ha rfl 2 (by decide) (hts _ w_2_156) (fun _ h => h) rfl (by decide +kernel) hn hfit hl hdg kk
theorem fg_M_17_M (hx : p.tables.exec = Jvm.exec) (hb : c.code = cc) (hown : s.vm.findClass "DecisionLayersModel" = some m.cls) (hts : ∀ w ∈ w_g, w.before args s = true) (hE : x_E D cA s) {fs : List Value} {v : Value} (ha : va_at D x_cl (a, .inr (6, fs)) H) (hv : fs[3]? = some v) (hdg : decode cc pc = .ok (.getfield 17, 3)) (kk : W p l e R s m args below meth c H locs cells slots Q (F0 m (pc + 3) ls (v :: rest))) : W p l e R s m args below meth c H locs cells slots Q (F0 m pc ls (.ref a :: rest)) :=
  x_get hx hb hts in_M hown hE.2.2 ha rfl 3 (by decide) (hts _ w_2_157) (fun _ h => h) hv hdg kk
theorem fp_M_17_M (hx : p.tables.exec = Jvm.exec) (hb : c.code = cc) (hown : s.vm.findClass "DecisionLayersModel" = some m.cls) (hts : ∀ w ∈ w_g, w.before args s = true) (hE : x_E D cA s) (hin : meth.name = "<init>") {fs : List Value} {v : Value} (ha : va_at D x_cl (a, .inr (6, fs)) H) (hn : narrow (.array .byte) v = v) (hfit : fits (.array .byte) v = true) (hl : 3 < fs.length) (hdg : decode cc pc = .ok (.putfield 17, 3)) (kk : ∀ (H1 : Heap) (i : Nat), va_at D x_cl (a, .inr (6, fs.set 3 v)) H1 → x_1 a H H1 → W p l e R s m args below meth c H1 (locs ++ [⟨a, i⟩]) cells slots Q (F0 m (pc + 3) ls rest)) : W p l e R s m args below meth c H locs cells slots Q (F0 m pc ls (v :: .ref a :: rest)) :=
  x_putF hx hb hts in_M t_M t_M_ok n_M hown hE.2.2 ha rfl 3 (by decide) (hts _ w_2_157) (fun _ h => h) rfl hin rfl (by decide +kernel) hn hfit hl hdg kk
theorem fg_M_21_M (hx : p.tables.exec = Jvm.exec) (hb : c.code = cc) (hown : s.vm.findClass "DecisionLayersModel" = some m.cls) (hts : ∀ w ∈ w_g, w.before args s = true) (hE : x_E D cA s) {fs : List Value} {v : Value} (ha : va_at D x_cl (a, .inr (6, fs)) H) (hv : fs[4]? = some v) (hdg : decode cc pc = .ok (.getfield 21, 3)) (kk : W p l e R s m args below meth c H locs cells slots Q (F0 m (pc + 3) ls (v :: rest))) : W p l e R s m args below meth c H locs cells slots Q (F0 m pc ls (.ref a :: rest)) :=
  x_get hx hb hts in_M hown hE.2.2 ha rfl 4 (by decide) (hts _ w_2_158) (fun _ h => h) hv hdg kk
theorem fp_M_21_M (hx : p.tables.exec = Jvm.exec) (hb : c.code = cc) (hown : s.vm.findClass "DecisionLayersModel" = some m.cls) (hts : ∀ w ∈ w_g, w.before args s = true) (hE : x_E D cA s) (hin : meth.name = "<init>") {fs : List Value} {v : Value} (ha : va_at D x_cl (a, .inr (6, fs)) H) (hn : narrow (.array .byte) v = v) (hfit : fits (.array .byte) v = true) (hl : 4 < fs.length) (hdg : decode cc pc = .ok (.putfield 21, 3)) (kk : ∀ (H1 : Heap) (i : Nat), va_at D x_cl (a, .inr (6, fs.set 4 v)) H1 → x_1 a H H1 → W p l e R s m args below meth c H1 (locs ++ [⟨a, i⟩]) cells slots Q (F0 m (pc + 3) ls rest)) : W p l e R s m args below meth c H locs cells slots Q (F0 m pc ls (v :: .ref a :: rest)) :=
  x_putF hx hb hts in_M t_M t_M_ok n_M hown hE.2.2 ha rfl 4 (by decide) (hts _ w_2_158) (fun _ h => h) rfl hin rfl (by decide +kernel) hn hfit hl hdg kk
theorem fg_M_24_M (hx : p.tables.exec = Jvm.exec) (hb : c.code = cc) (hown : s.vm.findClass "DecisionLayersModel" = some m.cls) (hts : ∀ w ∈ w_g, w.before args s = true) (hE : x_E D cA s) {fs : List Value} {v : Value} (ha : va_at D x_cl (a, .inr (6, fs)) H) (hv : fs[5]? = some v) (hdg : decode cc pc = .ok (.getfield 24, 3)) (kk : W p l e R s m args below meth c H locs cells slots Q (F0 m (pc + 3) ls (v :: rest))) : W p l e R s m args below meth c H locs cells slots Q (F0 m pc ls (.ref a :: rest)) :=
  x_get hx hb hts in_M hown hE.2.2 ha rfl 5 (by decide) (hts _ w_2_159) (fun _ h => h) hv hdg kk
theorem fp_M_24_M (hx : p.tables.exec = Jvm.exec) (hb : c.code = cc) (hown : s.vm.findClass "DecisionLayersModel" = some m.cls) (hts : ∀ w ∈ w_g, w.before args s = true) (hE : x_E D cA s) (hin : meth.name = "<init>") {fs : List Value} {v : Value} (ha : va_at D x_cl (a, .inr (6, fs)) H) (hn : narrow (.array .byte) v = v) (hfit : fits (.array .byte) v = true) (hl : 5 < fs.length) (hdg : decode cc pc = .ok (.putfield 24, 3)) (kk : ∀ (H1 : Heap) (i : Nat), va_at D x_cl (a, .inr (6, fs.set 5 v)) H1 → x_1 a H H1 → W p l e R s m args below meth c H1 (locs ++ [⟨a, i⟩]) cells slots Q (F0 m (pc + 3) ls rest)) : W p l e R s m args below meth c H locs cells slots Q (F0 m pc ls (v :: .ref a :: rest)) :=
  x_putF hx hb hts in_M t_M t_M_ok n_M hown hE.2.2 ha rfl 5 (by decide) (hts _ w_2_159) (fun _ h => h) rfl hin rfl (by decide +kernel) hn hfit hl hdg kk
theorem fg_M_27_M (hx : p.tables.exec = Jvm.exec) (hb : c.code = cc) (hown : s.vm.findClass "DecisionLayersModel" = some m.cls) (hts : ∀ w ∈ w_g, w.before args s = true) (hE : x_E D cA s) {fs : List Value} {v : Value} (ha : va_at D x_cl (a, .inr (6, fs)) H) (hv : fs[6]? = some v) (hdg : decode cc pc = .ok (.getfield 27, 3)) (kk : W p l e R s m args below meth c H locs cells slots Q (F0 m (pc + 3) ls (v :: rest))) : W p l e R s m args below meth c H locs cells slots Q (F0 m pc ls (.ref a :: rest)) :=
  x_get hx hb hts in_M hown hE.2.2 ha rfl 6 (by decide) (hts _ w_2_160) (fun _ h => h) hv hdg kk
theorem fp_M_27_M (hx : p.tables.exec = Jvm.exec) (hb : c.code = cc) (hown : s.vm.findClass "DecisionLayersModel" = some m.cls) (hts : ∀ w ∈ w_g, w.before args s = true) (hE : x_E D cA s) (hin : meth.name = "<init>") {fs : List Value} {v : Value} (ha : va_at D x_cl (a, .inr (6, fs)) H) (hn : narrow (.array .byte) v = v) (hfit : fits (.array .byte) v = true) (hl : 6 < fs.length) (hdg : decode cc pc = .ok (.putfield 27, 3)) (kk : ∀ (H1 : Heap) (i : Nat), va_at D x_cl (a, .inr (6, fs.set 6 v)) H1 → x_1 a H H1 → W p l e R s m args below meth c H1 (locs ++ [⟨a, i⟩]) cells slots Q (F0 m (pc + 3) ls rest)) : W p l e R s m args below meth c H locs cells slots Q (F0 m pc ls (v :: .ref a :: rest)) :=
  x_putF hx hb hts in_M t_M t_M_ok n_M hown hE.2.2 ha rfl 6 (by decide) (hts _ w_2_160) (fun _ h => h) rfl hin rfl (by decide +kernel) hn hfit hl hdg kk
theorem fg_M_30_M (hx : p.tables.exec = Jvm.exec) (hb : c.code = cc) (hown : s.vm.findClass "DecisionLayersModel" = some m.cls) (hts : ∀ w ∈ w_g, w.before args s = true) (hE : x_E D cA s) {fs : List Value} {v : Value} (ha : va_at D x_cl (a, .inr (6, fs)) H) (hv : fs[7]? = some v) (hdg : decode cc pc = .ok (.getfield 30, 3)) (kk : W p l e R s m args below meth c H locs cells slots Q (F0 m (pc + 3) ls (v :: rest))) : W p l e R s m args below meth c H locs cells slots Q (F0 m pc ls (.ref a :: rest)) :=
  x_get hx hb hts in_M hown hE.2.2 ha rfl 7 (by decide) (hts _ w_2_161) (fun _ h => h) hv hdg kk
theorem fp_M_30_M (hx : p.tables.exec = Jvm.exec) (hb : c.code = cc) (hown : s.vm.findClass "DecisionLayersModel" = some m.cls) (hts : ∀ w ∈ w_g, w.before args s = true) (hE : x_E D cA s) (hin : meth.name = "<init>") {fs : List Value} {v : Value} (ha : va_at D x_cl (a, .inr (6, fs)) H) (hn : narrow (.array .byte) v = v) (hfit : fits (.array .byte) v = true) (hl : 7 < fs.length) (hdg : decode cc pc = .ok (.putfield 30, 3)) (kk : ∀ (H1 : Heap) (i : Nat), va_at D x_cl (a, .inr (6, fs.set 7 v)) H1 → x_1 a H H1 → W p l e R s m args below meth c H1 (locs ++ [⟨a, i⟩]) cells slots Q (F0 m (pc + 3) ls rest)) : W p l e R s m args below meth c H locs cells slots Q (F0 m pc ls (v :: .ref a :: rest)) :=
  x_putF hx hb hts in_M t_M t_M_ok n_M hown hE.2.2 ha rfl 7 (by decide) (hts _ w_2_161) (fun _ h => h) rfl hin rfl (by decide +kernel) hn hfit hl hdg kk
theorem fg_M_33_M (hx : p.tables.exec = Jvm.exec) (hb : c.code = cc) (hown : s.vm.findClass "DecisionLayersModel" = some m.cls) (hts : ∀ w ∈ w_g, w.before args s = true) (hE : x_E D cA s) {fs : List Value} {v : Value} (ha : va_at D x_cl (a, .inr (6, fs)) H) (hv : fs[8]? = some v) (hdg : decode cc pc = .ok (.getfield 33, 3)) (kk : W p l e R s m args below meth c H locs cells slots Q (F0 m (pc + 3) ls (v :: rest))) : W p l e R s m args below meth c H locs cells slots Q (F0 m pc ls (.ref a :: rest)) :=
  x_get hx hb hts in_M hown hE.2.2 ha rfl 8 (by decide) (hts _ w_2_162) (fun _ h => h) hv hdg kk
theorem fp_M_33_M (hx : p.tables.exec = Jvm.exec) (hb : c.code = cc) (hown : s.vm.findClass "DecisionLayersModel" = some m.cls) (hts : ∀ w ∈ w_g, w.before args s = true) (hE : x_E D cA s) (hin : meth.name = "<init>") {fs : List Value} {v : Value} (ha : va_at D x_cl (a, .inr (6, fs)) H) (hn : narrow (.array .long) v = v) (hfit : fits (.array .long) v = true) (hl : 8 < fs.length) (hdg : decode cc pc = .ok (.putfield 33, 3)) (kk : ∀ (H1 : Heap) (i : Nat), va_at D x_cl (a, .inr (6, fs.set 8 v)) H1 → x_1 a H H1 → W p l e R s m args below meth c H1 (locs ++ [⟨a, i⟩]) cells slots Q (F0 m (pc + 3) ls rest)) : W p l e R s m args below meth c H locs cells slots Q (F0 m pc ls (v :: .ref a :: rest)) :=
  x_putF hx hb hts in_M t_M t_M_ok n_M hown hE.2.2 ha rfl 8 (by decide) (hts _ w_2_162) (fun _ h => h) rfl hin rfl (by decide +kernel) hn hfit hl hdg kk
theorem fg_M_36_M (hx : p.tables.exec = Jvm.exec) (hb : c.code = cc) (hown : s.vm.findClass "DecisionLayersModel" = some m.cls) (hts : ∀ w ∈ w_g, w.before args s = true) (hE : x_E D cA s) {fs : List Value} {v : Value} (ha : va_at D x_cl (a, .inr (6, fs)) H) (hv : fs[9]? = some v) (hdg : decode cc pc = .ok (.getfield 36, 3)) (kk : W p l e R s m args below meth c H locs cells slots Q (F0 m (pc + 3) ls (v :: rest))) : W p l e R s m args below meth c H locs cells slots Q (F0 m pc ls (.ref a :: rest)) :=
  x_get hx hb hts in_M hown hE.2.2 ha rfl 9 (by decide) (hts _ w_2_163) (fun _ h => h) hv hdg kk
theorem fp_M_36_M (hx : p.tables.exec = Jvm.exec) (hb : c.code = cc) (hown : s.vm.findClass "DecisionLayersModel" = some m.cls) (hts : ∀ w ∈ w_g, w.before args s = true) (hE : x_E D cA s) (hin : meth.name = "<init>") {fs : List Value} {v : Value} (ha : va_at D x_cl (a, .inr (6, fs)) H) (hn : narrow (.array .int) v = v) (hfit : fits (.array .int) v = true) (hl : 9 < fs.length) (hdg : decode cc pc = .ok (.putfield 36, 3)) (kk : ∀ (H1 : Heap) (i : Nat), va_at D x_cl (a, .inr (6, fs.set 9 v)) H1 → x_1 a H H1 → W p l e R s m args below meth c H1 (locs ++ [⟨a, i⟩]) cells slots Q (F0 m (pc + 3) ls rest)) : W p l e R s m args below meth c H locs cells slots Q (F0 m pc ls (v :: .ref a :: rest)) :=
  x_putF hx hb hts in_M t_M t_M_ok n_M hown hE.2.2 ha rfl 9 (by decide) (hts _ w_2_163) (fun _ h => h) rfl hin rfl (by decide +kernel) hn hfit hl hdg kk
theorem fg_M_39_M (hx : p.tables.exec = Jvm.exec) (hb : c.code = cc) (hown : s.vm.findClass "DecisionLayersModel" = some m.cls) (hts : ∀ w ∈ w_g, w.before args s = true) (hE : x_E D cA s) {fs : List Value} {v : Value} (ha : va_at D x_cl (a, .inr (6, fs)) H) (hv : fs[10]? = some v) (hdg : decode cc pc = .ok (.getfield 39, 3)) (kk : W p l e R s m args below meth c H locs cells slots Q (F0 m (pc + 3) ls (v :: rest))) : W p l e R s m args below meth c H locs cells slots Q (F0 m pc ls (.ref a :: rest)) :=
  x_get hx hb hts in_M hown hE.2.2 ha rfl 10 (by decide) (hts _ w_2_164) (fun _ h => h) hv hdg kk
theorem fp_M_39_M (hx : p.tables.exec = Jvm.exec) (hb : c.code = cc) (hown : s.vm.findClass "DecisionLayersModel" = some m.cls) (hts : ∀ w ∈ w_g, w.before args s = true) (hE : x_E D cA s) (hin : meth.name = "<init>") {fs : List Value} {v : Value} (ha : va_at D x_cl (a, .inr (6, fs)) H) (hn : narrow (.array .boolean) v = v) (hfit : fits (.array .boolean) v = true) (hl : 10 < fs.length) (hdg : decode cc pc = .ok (.putfield 39, 3)) (kk : ∀ (H1 : Heap) (i : Nat), va_at D x_cl (a, .inr (6, fs.set 10 v)) H1 → x_1 a H H1 → W p l e R s m args below meth c H1 (locs ++ [⟨a, i⟩]) cells slots Q (F0 m (pc + 3) ls rest)) : W p l e R s m args below meth c H locs cells slots Q (F0 m pc ls (v :: .ref a :: rest)) :=
  x_putF hx hb hts in_M t_M t_M_ok n_M hown hE.2.2 ha rfl 10 (by decide) (hts _ w_2_164) (fun _ h => h) rfl hin rfl (by decide +kernel) hn hfit hl hdg kk
theorem fg_M_103_M (hx : p.tables.exec = Jvm.exec) (hb : c.code = cc) (hown : s.vm.findClass "DecisionLayersModel" = some m.cls) (hts : ∀ w ∈ w_g, w.before args s = true) (hE : x_E D cA s) {fs : List Value} {v : Value} (ha : va_at D x_cl (a, .inr (6, fs)) H) (hv : fs[11]? = some v) (hdg : decode cc pc = .ok (.getfield 103, 3)) (kk : W p l e R s m args below meth c H locs cells slots Q (F0 m (pc + 3) ls (v :: rest))) : W p l e R s m args below meth c H locs cells slots Q (F0 m pc ls (.ref a :: rest)) :=
  x_get hx hb hts in_M hown hE.2.2 ha rfl 11 (by decide) (hts _ w_2_165) (fun _ h => h) hv hdg kk
theorem fp_M_103_M (hx : p.tables.exec = Jvm.exec) (hb : c.code = cc) (hown : s.vm.findClass "DecisionLayersModel" = some m.cls) (hts : ∀ w ∈ w_g, w.before args s = true) (hE : x_E D cA s) {fs : List Value} {v : Value} (ha : va_at D x_cl (a, .inr (6, fs)) H) (hn : narrow (.int) v = v) (hfit : fits (.int) v = true) (hl : 11 < fs.length) (hdg : decode cc pc = .ok (.putfield 103, 3)) (kk : ∀ (H1 : Heap) (i : Nat), va_at D x_cl (a, .inr (6, fs.set 11 v)) H1 → x_1 a H H1 → W p l e R s m args below meth c H1 (locs ++ [⟨a, i⟩]) cells slots Q (F0 m (pc + 3) ls rest)) : W p l e R s m args below meth c H locs cells slots Q (F0 m pc ls (v :: .ref a :: rest)) :=
  x_put hx hb hts in_M t_M t_M_ok n_M hown hE.2.2 ha rfl 11 (by decide) (hts _ w_2_165) (fun _ h => h) rfl (by decide +kernel) hn hfit hl hdg kk
theorem fg_M_43_M (hx : p.tables.exec = Jvm.exec) (hb : c.code = cc) (hown : s.vm.findClass "DecisionLayersModel" = some m.cls) (hts : ∀ w ∈ w_g, w.before args s = true) (hE : x_E D cA s) {fs : List Value} {v : Value} (ha : va_at D x_cl (a, .inr (6, fs)) H) (hv : fs[12]? = some v) (hdg : decode cc pc = .ok (.getfield 43, 3)) (kk : W p l e R s m args below meth c H locs cells slots Q (F0 m (pc + 3) ls (v :: rest))) : W p l e R s m args below meth c H locs cells slots Q (F0 m pc ls (.ref a :: rest)) :=
  x_get hx hb hts in_M hown hE.2.2 ha rfl 12 (by decide) (hts _ w_2_166) (fun _ h => h) hv hdg kk
theorem fp_M_43_M (hx : p.tables.exec = Jvm.exec) (hb : c.code = cc) (hown : s.vm.findClass "DecisionLayersModel" = some m.cls) (hts : ∀ w ∈ w_g, w.before args s = true) (hE : x_E D cA s) (hin : meth.name = "<init>") {fs : List Value} {v : Value} (ha : va_at D x_cl (a, .inr (6, fs)) H) (hn : narrow (.array .int) v = v) (hfit : fits (.array .int) v = true) (hl : 12 < fs.length) (hdg : decode cc pc = .ok (.putfield 43, 3)) (kk : ∀ (H1 : Heap) (i : Nat), va_at D x_cl (a, .inr (6, fs.set 12 v)) H1 → x_1 a H H1 → W p l e R s m args below meth c H1 (locs ++ [⟨a, i⟩]) cells slots Q (F0 m (pc + 3) ls rest)) : W p l e R s m args below meth c H locs cells slots Q (F0 m pc ls (v :: .ref a :: rest)) :=
  x_putF hx hb hts in_M t_M t_M_ok n_M hown hE.2.2 ha rfl 12 (by decide) (hts _ w_2_166) (fun _ h => h) rfl hin rfl (by decide +kernel) hn hfit hl hdg kk
theorem fg_M_46_M (hx : p.tables.exec = Jvm.exec) (hb : c.code = cc) (hown : s.vm.findClass "DecisionLayersModel" = some m.cls) (hts : ∀ w ∈ w_g, w.before args s = true) (hE : x_E D cA s) {fs : List Value} {v : Value} (ha : va_at D x_cl (a, .inr (6, fs)) H) (hv : fs[13]? = some v) (hdg : decode cc pc = .ok (.getfield 46, 3)) (kk : W p l e R s m args below meth c H locs cells slots Q (F0 m (pc + 3) ls (v :: rest))) : W p l e R s m args below meth c H locs cells slots Q (F0 m pc ls (.ref a :: rest)) :=
  x_get hx hb hts in_M hown hE.2.2 ha rfl 13 (by decide) (hts _ w_2_167) (fun _ h => h) hv hdg kk
theorem fp_M_46_M (hx : p.tables.exec = Jvm.exec) (hb : c.code = cc) (hown : s.vm.findClass "DecisionLayersModel" = some m.cls) (hts : ∀ w ∈ w_g, w.before args s = true) (hE : x_E D cA s) (hin : meth.name = "<init>") {fs : List Value} {v : Value} (ha : va_at D x_cl (a, .inr (6, fs)) H) (hn : narrow (.array .boolean) v = v) (hfit : fits (.array .boolean) v = true) (hl : 13 < fs.length) (hdg : decode cc pc = .ok (.putfield 46, 3)) (kk : ∀ (H1 : Heap) (i : Nat), va_at D x_cl (a, .inr (6, fs.set 13 v)) H1 → x_1 a H H1 → W p l e R s m args below meth c H1 (locs ++ [⟨a, i⟩]) cells slots Q (F0 m (pc + 3) ls rest)) : W p l e R s m args below meth c H locs cells slots Q (F0 m pc ls (v :: .ref a :: rest)) :=
  x_putF hx hb hts in_M t_M t_M_ok n_M hown hE.2.2 ha rfl 13 (by decide) (hts _ w_2_167) (fun _ h => h) rfl hin rfl (by decide +kernel) hn hfit hl hdg kk
theorem fg_M_49_M (hx : p.tables.exec = Jvm.exec) (hb : c.code = cc) (hown : s.vm.findClass "DecisionLayersModel" = some m.cls) (hts : ∀ w ∈ w_g, w.before args s = true) (hE : x_E D cA s) {fs : List Value} {v : Value} (ha : va_at D x_cl (a, .inr (6, fs)) H) (hv : fs[14]? = some v) (hdg : decode cc pc = .ok (.getfield 49, 3)) (kk : W p l e R s m args below meth c H locs cells slots Q (F0 m (pc + 3) ls (v :: rest))) : W p l e R s m args below meth c H locs cells slots Q (F0 m pc ls (.ref a :: rest)) :=
  x_get hx hb hts in_M hown hE.2.2 ha rfl 14 (by decide) (hts _ w_2_168) (fun _ h => h) hv hdg kk
theorem fp_M_49_M (hx : p.tables.exec = Jvm.exec) (hb : c.code = cc) (hown : s.vm.findClass "DecisionLayersModel" = some m.cls) (hts : ∀ w ∈ w_g, w.before args s = true) (hE : x_E D cA s) (hin : meth.name = "<init>") {fs : List Value} {v : Value} (ha : va_at D x_cl (a, .inr (6, fs)) H) (hn : narrow (.array .int) v = v) (hfit : fits (.array .int) v = true) (hl : 14 < fs.length) (hdg : decode cc pc = .ok (.putfield 49, 3)) (kk : ∀ (H1 : Heap) (i : Nat), va_at D x_cl (a, .inr (6, fs.set 14 v)) H1 → x_1 a H H1 → W p l e R s m args below meth c H1 (locs ++ [⟨a, i⟩]) cells slots Q (F0 m (pc + 3) ls rest)) : W p l e R s m args below meth c H locs cells slots Q (F0 m pc ls (v :: .ref a :: rest)) :=
  x_putF hx hb hts in_M t_M t_M_ok n_M hown hE.2.2 ha rfl 14 (by decide) (hts _ w_2_168) (fun _ h => h) rfl hin rfl (by decide +kernel) hn hfit hl hdg kk
theorem fg_M_52_M (hx : p.tables.exec = Jvm.exec) (hb : c.code = cc) (hown : s.vm.findClass "DecisionLayersModel" = some m.cls) (hts : ∀ w ∈ w_g, w.before args s = true) (hE : x_E D cA s) {fs : List Value} {v : Value} (ha : va_at D x_cl (a, .inr (6, fs)) H) (hv : fs[15]? = some v) (hdg : decode cc pc = .ok (.getfield 52, 3)) (kk : W p l e R s m args below meth c H locs cells slots Q (F0 m (pc + 3) ls (v :: rest))) : W p l e R s m args below meth c H locs cells slots Q (F0 m pc ls (.ref a :: rest)) :=
  x_get hx hb hts in_M hown hE.2.2 ha rfl 15 (by decide) (hts _ w_2_169) (fun _ h => h) hv hdg kk
theorem fp_M_52_M (hx : p.tables.exec = Jvm.exec) (hb : c.code = cc) (hown : s.vm.findClass "DecisionLayersModel" = some m.cls) (hts : ∀ w ∈ w_g, w.before args s = true) (hE : x_E D cA s) (hin : meth.name = "<init>") {fs : List Value} {v : Value} (ha : va_at D x_cl (a, .inr (6, fs)) H) (hn : narrow (.array .int) v = v) (hfit : fits (.array .int) v = true) (hl : 15 < fs.length) (hdg : decode cc pc = .ok (.putfield 52, 3)) (kk : ∀ (H1 : Heap) (i : Nat), va_at D x_cl (a, .inr (6, fs.set 15 v)) H1 → x_1 a H H1 → W p l e R s m args below meth c H1 (locs ++ [⟨a, i⟩]) cells slots Q (F0 m (pc + 3) ls rest)) : W p l e R s m args below meth c H locs cells slots Q (F0 m pc ls (v :: .ref a :: rest)) :=
  x_putF hx hb hts in_M t_M t_M_ok n_M hown hE.2.2 ha rfl 15 (by decide) (hts _ w_2_169) (fun _ h => h) rfl hin rfl (by decide +kernel) hn hfit hl hdg kk
theorem fg_M_55_M (hx : p.tables.exec = Jvm.exec) (hb : c.code = cc) (hown : s.vm.findClass "DecisionLayersModel" = some m.cls) (hts : ∀ w ∈ w_g, w.before args s = true) (hE : x_E D cA s) {fs : List Value} {v : Value} (ha : va_at D x_cl (a, .inr (6, fs)) H) (hv : fs[16]? = some v) (hdg : decode cc pc = .ok (.getfield 55, 3)) (kk : W p l e R s m args below meth c H locs cells slots Q (F0 m (pc + 3) ls (v :: rest))) : W p l e R s m args below meth c H locs cells slots Q (F0 m pc ls (.ref a :: rest)) :=
  x_get hx hb hts in_M hown hE.2.2 ha rfl 16 (by decide) (hts _ w_2_170) (fun _ h => h) hv hdg kk
theorem fp_M_55_M (hx : p.tables.exec = Jvm.exec) (hb : c.code = cc) (hown : s.vm.findClass "DecisionLayersModel" = some m.cls) (hts : ∀ w ∈ w_g, w.before args s = true) (hE : x_E D cA s) (hin : meth.name = "<init>") {fs : List Value} {v : Value} (ha : va_at D x_cl (a, .inr (6, fs)) H) (hn : narrow (.array .long) v = v) (hfit : fits (.array .long) v = true) (hl : 16 < fs.length) (hdg : decode cc pc = .ok (.putfield 55, 3)) (kk : ∀ (H1 : Heap) (i : Nat), va_at D x_cl (a, .inr (6, fs.set 16 v)) H1 → x_1 a H H1 → W p l e R s m args below meth c H1 (locs ++ [⟨a, i⟩]) cells slots Q (F0 m (pc + 3) ls rest)) : W p l e R s m args below meth c H locs cells slots Q (F0 m pc ls (v :: .ref a :: rest)) :=
  x_putF hx hb hts in_M t_M t_M_ok n_M hown hE.2.2 ha rfl 16 (by decide) (hts _ w_2_170) (fun _ h => h) rfl hin rfl (by decide +kernel) hn hfit hl hdg kk
theorem fg_M_58_M (hx : p.tables.exec = Jvm.exec) (hb : c.code = cc) (hown : s.vm.findClass "DecisionLayersModel" = some m.cls) (hts : ∀ w ∈ w_g, w.before args s = true) (hE : x_E D cA s) {fs : List Value} {v : Value} (ha : va_at D x_cl (a, .inr (6, fs)) H) (hv : fs[17]? = some v) (hdg : decode cc pc = .ok (.getfield 58, 3)) (kk : W p l e R s m args below meth c H locs cells slots Q (F0 m (pc + 3) ls (v :: rest))) : W p l e R s m args below meth c H locs cells slots Q (F0 m pc ls (.ref a :: rest)) :=
  x_get hx hb hts in_M hown hE.2.2 ha rfl 17 (by decide) (hts _ w_2_171) (fun _ h => h) hv hdg kk
theorem fp_M_58_M (hx : p.tables.exec = Jvm.exec) (hb : c.code = cc) (hown : s.vm.findClass "DecisionLayersModel" = some m.cls) (hts : ∀ w ∈ w_g, w.before args s = true) (hE : x_E D cA s) (hin : meth.name = "<init>") {fs : List Value} {v : Value} (ha : va_at D x_cl (a, .inr (6, fs)) H) (hn : narrow (.array .long) v = v) (hfit : fits (.array .long) v = true) (hl : 17 < fs.length) (hdg : decode cc pc = .ok (.putfield 58, 3)) (kk : ∀ (H1 : Heap) (i : Nat), va_at D x_cl (a, .inr (6, fs.set 17 v)) H1 → x_1 a H H1 → W p l e R s m args below meth c H1 (locs ++ [⟨a, i⟩]) cells slots Q (F0 m (pc + 3) ls rest)) : W p l e R s m args below meth c H locs cells slots Q (F0 m pc ls (v :: .ref a :: rest)) :=
  x_putF hx hb hts in_M t_M t_M_ok n_M hown hE.2.2 ha rfl 17 (by decide) (hts _ w_2_171) (fun _ h => h) rfl hin rfl (by decide +kernel) hn hfit hl hdg kk
theorem fg_M_61_M (hx : p.tables.exec = Jvm.exec) (hb : c.code = cc) (hown : s.vm.findClass "DecisionLayersModel" = some m.cls) (hts : ∀ w ∈ w_g, w.before args s = true) (hE : x_E D cA s) {fs : List Value} {v : Value} (ha : va_at D x_cl (a, .inr (6, fs)) H) (hv : fs[18]? = some v) (hdg : decode cc pc = .ok (.getfield 61, 3)) (kk : W p l e R s m args below meth c H locs cells slots Q (F0 m (pc + 3) ls (v :: rest))) : W p l e R s m args below meth c H locs cells slots Q (F0 m pc ls (.ref a :: rest)) :=
  x_get hx hb hts in_M hown hE.2.2 ha rfl 18 (by decide) (hts _ w_2_172) (fun _ h => h) hv hdg kk
theorem fp_M_61_M (hx : p.tables.exec = Jvm.exec) (hb : c.code = cc) (hown : s.vm.findClass "DecisionLayersModel" = some m.cls) (hts : ∀ w ∈ w_g, w.before args s = true) (hE : x_E D cA s) (hin : meth.name = "<init>") {fs : List Value} {v : Value} (ha : va_at D x_cl (a, .inr (6, fs)) H) (hn : narrow (.array .int) v = v) (hfit : fits (.array .int) v = true) (hl : 18 < fs.length) (hdg : decode cc pc = .ok (.putfield 61, 3)) (kk : ∀ (H1 : Heap) (i : Nat), va_at D x_cl (a, .inr (6, fs.set 18 v)) H1 → x_1 a H H1 → W p l e R s m args below meth c H1 (locs ++ [⟨a, i⟩]) cells slots Q (F0 m (pc + 3) ls rest)) : W p l e R s m args below meth c H locs cells slots Q (F0 m pc ls (v :: .ref a :: rest)) :=
  x_putF hx hb hts in_M t_M t_M_ok n_M hown hE.2.2 ha rfl 18 (by decide) (hts _ w_2_172) (fun _ h => h) rfl hin rfl (by decide +kernel) hn hfit hl hdg kk
theorem fg_M_64_M (hx : p.tables.exec = Jvm.exec) (hb : c.code = cc) (hown : s.vm.findClass "DecisionLayersModel" = some m.cls) (hts : ∀ w ∈ w_g, w.before args s = true) (hE : x_E D cA s) {fs : List Value} {v : Value} (ha : va_at D x_cl (a, .inr (6, fs)) H) (hv : fs[19]? = some v) (hdg : decode cc pc = .ok (.getfield 64, 3)) (kk : W p l e R s m args below meth c H locs cells slots Q (F0 m (pc + 3) ls (v :: rest))) : W p l e R s m args below meth c H locs cells slots Q (F0 m pc ls (.ref a :: rest)) :=
  x_get hx hb hts in_M hown hE.2.2 ha rfl 19 (by decide) (hts _ w_2_173) (fun _ h => h) hv hdg kk
theorem fp_M_64_M (hx : p.tables.exec = Jvm.exec) (hb : c.code = cc) (hown : s.vm.findClass "DecisionLayersModel" = some m.cls) (hts : ∀ w ∈ w_g, w.before args s = true) (hE : x_E D cA s) (hin : meth.name = "<init>") {fs : List Value} {v : Value} (ha : va_at D x_cl (a, .inr (6, fs)) H) (hn : narrow (.array .int) v = v) (hfit : fits (.array .int) v = true) (hl : 19 < fs.length) (hdg : decode cc pc = .ok (.putfield 64, 3)) (kk : ∀ (H1 : Heap) (i : Nat), va_at D x_cl (a, .inr (6, fs.set 19 v)) H1 → x_1 a H H1 → W p l e R s m args below meth c H1 (locs ++ [⟨a, i⟩]) cells slots Q (F0 m (pc + 3) ls rest)) : W p l e R s m args below meth c H locs cells slots Q (F0 m pc ls (v :: .ref a :: rest)) :=
  x_putF hx hb hts in_M t_M t_M_ok n_M hown hE.2.2 ha rfl 19 (by decide) (hts _ w_2_173) (fun _ h => h) rfl hin rfl (by decide +kernel) hn hfit hl hdg kk
theorem fg_M_67_M (hx : p.tables.exec = Jvm.exec) (hb : c.code = cc) (hown : s.vm.findClass "DecisionLayersModel" = some m.cls) (hts : ∀ w ∈ w_g, w.before args s = true) (hE : x_E D cA s) {fs : List Value} {v : Value} (ha : va_at D x_cl (a, .inr (6, fs)) H) (hv : fs[20]? = some v) (hdg : decode cc pc = .ok (.getfield 67, 3)) (kk : W p l e R s m args below meth c H locs cells slots Q (F0 m (pc + 3) ls (v :: rest))) : W p l e R s m args below meth c H locs cells slots Q (F0 m pc ls (.ref a :: rest)) :=
  x_get hx hb hts in_M hown hE.2.2 ha rfl 20 (by decide) (hts _ w_2_174) (fun _ h => h) hv hdg kk
theorem fp_M_67_M (hx : p.tables.exec = Jvm.exec) (hb : c.code = cc) (hown : s.vm.findClass "DecisionLayersModel" = some m.cls) (hts : ∀ w ∈ w_g, w.before args s = true) (hE : x_E D cA s) {fs : List Value} {v : Value} (ha : va_at D x_cl (a, .inr (6, fs)) H) (hn : narrow (.int) v = v) (hfit : fits (.int) v = true) (hl : 20 < fs.length) (hdg : decode cc pc = .ok (.putfield 67, 3)) (kk : ∀ (H1 : Heap) (i : Nat), va_at D x_cl (a, .inr (6, fs.set 20 v)) H1 → x_1 a H H1 → W p l e R s m args below meth c H1 (locs ++ [⟨a, i⟩]) cells slots Q (F0 m (pc + 3) ls rest)) : W p l e R s m args below meth c H locs cells slots Q (F0 m pc ls (v :: .ref a :: rest)) :=
  x_put hx hb hts in_M t_M t_M_ok n_M hown hE.2.2 ha rfl 20 (by decide) (hts _ w_2_174) (fun _ h => h) rfl (by decide +kernel) hn hfit hl hdg kk
theorem fg_M_71_M (hx : p.tables.exec = Jvm.exec) (hb : c.code = cc) (hown : s.vm.findClass "DecisionLayersModel" = some m.cls) (hts : ∀ w ∈ w_g, w.before args s = true) (hE : x_E D cA s) {fs : List Value} {v : Value} (ha : va_at D x_cl (a, .inr (6, fs)) H) (hv : fs[21]? = some v) (hdg : decode cc pc = .ok (.getfield 71, 3)) (kk : W p l e R s m args below meth c H locs cells slots Q (F0 m (pc + 3) ls (v :: rest))) : W p l e R s m args below meth c H locs cells slots Q (F0 m pc ls (.ref a :: rest)) :=
  x_get hx hb hts in_M hown hE.2.2 ha rfl 21 (by decide) (hts _ w_2_175) (fun _ h => h) hv hdg kk
theorem fp_M_71_M (hx : p.tables.exec = Jvm.exec) (hb : c.code = cc) (hown : s.vm.findClass "DecisionLayersModel" = some m.cls) (hts : ∀ w ∈ w_g, w.before args s = true) (hE : x_E D cA s) (hin : meth.name = "<init>") {fs : List Value} {v : Value} (ha : va_at D x_cl (a, .inr (6, fs)) H) (hn : narrow (.array .int) v = v) (hfit : fits (.array .int) v = true) (hl : 21 < fs.length) (hdg : decode cc pc = .ok (.putfield 71, 3)) (kk : ∀ (H1 : Heap) (i : Nat), va_at D x_cl (a, .inr (6, fs.set 21 v)) H1 → x_1 a H H1 → W p l e R s m args below meth c H1 (locs ++ [⟨a, i⟩]) cells slots Q (F0 m (pc + 3) ls rest)) : W p l e R s m args below meth c H locs cells slots Q (F0 m pc ls (v :: .ref a :: rest)) :=
  x_putF hx hb hts in_M t_M t_M_ok n_M hown hE.2.2 ha rfl 21 (by decide) (hts _ w_2_175) (fun _ h => h) rfl hin rfl (by decide +kernel) hn hfit hl hdg kk
theorem fg_M_81_M (hx : p.tables.exec = Jvm.exec) (hb : c.code = cc) (hown : s.vm.findClass "DecisionLayersModel" = some m.cls) (hts : ∀ w ∈ w_g, w.before args s = true) (hE : x_E D cA s) {fs : List Value} {v : Value} (ha : va_at D x_cl (a, .inr (6, fs)) H) (hv : fs[22]? = some v) (hdg : decode cc pc = .ok (.getfield 81, 3)) (kk : W p l e R s m args below meth c H locs cells slots Q (F0 m (pc + 3) ls (v :: rest))) : W p l e R s m args below meth c H locs cells slots Q (F0 m pc ls (.ref a :: rest)) :=
  x_get hx hb hts in_M hown hE.2.2 ha rfl 22 (by decide) (hts _ w_2_176) (fun _ h => h) hv hdg kk
theorem fp_M_81_M (hx : p.tables.exec = Jvm.exec) (hb : c.code = cc) (hown : s.vm.findClass "DecisionLayersModel" = some m.cls) (hts : ∀ w ∈ w_g, w.before args s = true) (hE : x_E D cA s) {fs : List Value} {v : Value} (ha : va_at D x_cl (a, .inr (6, fs)) H) (hn : narrow (.int) v = v) (hfit : fits (.int) v = true) (hl : 22 < fs.length) (hdg : decode cc pc = .ok (.putfield 81, 3)) (kk : ∀ (H1 : Heap) (i : Nat), va_at D x_cl (a, .inr (6, fs.set 22 v)) H1 → x_1 a H H1 → W p l e R s m args below meth c H1 (locs ++ [⟨a, i⟩]) cells slots Q (F0 m (pc + 3) ls rest)) : W p l e R s m args below meth c H locs cells slots Q (F0 m pc ls (v :: .ref a :: rest)) :=
  x_put hx hb hts in_M t_M t_M_ok n_M hown hE.2.2 ha rfl 22 (by decide) (hts _ w_2_176) (fun _ h => h) rfl (by decide +kernel) hn hfit hl hdg kk
theorem fg_M_74_M (hx : p.tables.exec = Jvm.exec) (hb : c.code = cc) (hown : s.vm.findClass "DecisionLayersModel" = some m.cls) (hts : ∀ w ∈ w_g, w.before args s = true) (hE : x_E D cA s) {fs : List Value} {v : Value} (ha : va_at D x_cl (a, .inr (6, fs)) H) (hv : fs[23]? = some v) (hdg : decode cc pc = .ok (.getfield 74, 3)) (kk : W p l e R s m args below meth c H locs cells slots Q (F0 m (pc + 3) ls (v :: rest))) : W p l e R s m args below meth c H locs cells slots Q (F0 m pc ls (.ref a :: rest)) :=
  x_get hx hb hts in_M hown hE.2.2 ha rfl 23 (by decide) (hts _ w_2_177) (fun _ h => h) hv hdg kk
theorem fp_M_74_M (hx : p.tables.exec = Jvm.exec) (hb : c.code = cc) (hown : s.vm.findClass "DecisionLayersModel" = some m.cls) (hts : ∀ w ∈ w_g, w.before args s = true) (hE : x_E D cA s) (hin : meth.name = "<init>") {fs : List Value} {v : Value} (ha : va_at D x_cl (a, .inr (6, fs)) H) (hn : narrow (.array .int) v = v) (hfit : fits (.array .int) v = true) (hl : 23 < fs.length) (hdg : decode cc pc = .ok (.putfield 74, 3)) (kk : ∀ (H1 : Heap) (i : Nat), va_at D x_cl (a, .inr (6, fs.set 23 v)) H1 → x_1 a H H1 → W p l e R s m args below meth c H1 (locs ++ [⟨a, i⟩]) cells slots Q (F0 m (pc + 3) ls rest)) : W p l e R s m args below meth c H locs cells slots Q (F0 m pc ls (v :: .ref a :: rest)) :=
  x_putF hx hb hts in_M t_M t_M_ok n_M hown hE.2.2 ha rfl 23 (by decide) (hts _ w_2_177) (fun _ h => h) rfl hin rfl (by decide +kernel) hn hfit hl hdg kk
end XF
section XK
variable {p : Program} {l : Launch} {e : Env} {s : State} {m : MethodId} {args : Array Value} {below : List Frame} {meth : Method} {c : Code} {H : Heap} {locs : List Loc} {cells slots : Nat} {Q : State → Prop}
variable {cc : ByteArray} {pc nL h hc mc ms MC MS : Nat} {ls : Array Slot} {rest st0 As : List Value} {b : Addr} {D : va_G} {cA : Nat → ClassId} {Pc : Array Value → State → Prop} {Qc : Array Value → State → Outcome → State → Prop} {free : Addr → Prop}
theorem k_Law_9 (hx : p.tables.exec = Jvm.exec) (hb : c.code = cc) (hml : c.maxLocals = nL) (hown : s.vm.findClass "DecisionLayersLaw" = some m.cls) (hts : ∀ w ∈ w_g, w.before args s = true) (hM : Met l y_DL_init [.code y_DL_init b_DL_init 2 none] (x_rm h mc ms) Pc Qc mc ms free) (hp : PreS s H Pc (.ref b :: As)) (hn : As.length = 0) (hsize : ls.size = nL) (hst : st0 = As.reverse ++ .ref b :: rest) (hW : (rest.map fun v => v.category).sum ≤ 8) (hdg : decode cc pc = .ok (.invokespecial 9, 3)) (hh : h + 1 ≤ hc) (hf : cells + mc ≤ MC ∧ slots + ms ≤ MS) : CallRun p l e (x_rm hc MC MS) s m args below meth c H locs cells slots mc ms (F0 m pc ls st0) rest (Qc (Value.ref b :: As).toArray) free :=
  W.runI ⟨hx, hb, hml, hown, hts⟩ hM (cwI 0 hts (x_g1 w_1_16) rfl rfl rfl (hts _ w_1_1) (hts _ w_1_14) (hts _ w_1_15) rfl (by decide +kernel) (x_room hh (by decide))) hp rfl hn hsize hst (lv_room hW) hdg hf
theorem k_DL_9 (hx : p.tables.exec = Jvm.exec) (hb : c.code = cc) (hml : c.maxLocals = nL) (hown : s.vm.findClass "DecisionLayers" = some m.cls) (hts : ∀ w ∈ w_g, w.before args s = true) (hE : x_E D cA s) (hM : Met l y_Values_init [.code y_Values_init b_Values_init 1 none] (x_rm h mc ms) Pc Qc mc ms free) (hp : PreS s H Pc (.ref b :: As)) (hn : As.length = 0) (hsize : ls.size = nL) (hst : st0 = As.reverse ++ .ref b :: rest) (hW : (rest.map fun v => v.category).sum ≤ 8) (hdg : decode cc pc = .ok (.invokespecial 9, 3)) (hh : h + 1 ≤ hc) (hf : cells + mc ≤ MC ∧ slots + ms ≤ MS) : CallRun p l e (x_rm hc MC MS) s m args below meth c H locs cells slots mc ms (F0 m pc ls st0) rest (Qc (Value.ref b :: As).toArray) free :=
  (va_runIN ⟨hx, hb, hml, hown, hts⟩ hM ⟨va_cnB (host := "DecisionLayers") 0 hts (x_g1 w_1_24) rfl rfl rfl hE.2.1.1 (hts _ w_1_2) (by decide +kernel) (x_room hh (by decide)), rfl, hts _ w_1_23⟩ hp rfl hn hsize hst (lv_room hW) hdg hf).run
theorem k_DL_28 (hx : p.tables.exec = Jvm.exec) (hb : c.code = cc) (hml : c.maxLocals = nL) (hown : s.vm.findClass "DecisionLayers" = some m.cls) (hts : ∀ w ∈ w_g, w.before args s = true) (hM : Met l y_Layer_init [.code y_Layer_init b_Layer_init 2 none] (x_rm h mc ms) Pc Qc mc ms free) (hp : PreS s H Pc (.ref b :: As)) (hn : As.length = 0) (hsize : ls.size = nL) (hst : st0 = As.reverse ++ .ref b :: rest) (hW : (rest.map fun v => v.category).sum ≤ 8) (hdg : decode cc pc = .ok (.invokespecial 28, 3)) (hh : h + 1 ≤ hc) (hf : cells + mc ≤ MC ∧ slots + ms ≤ MS) : CallRun p l e (x_rm hc MC MS) s m args below meth c H locs cells slots mc ms (F0 m pc ls st0) rest (Qc (Value.ref b :: As).toArray) free :=
  W.runI ⟨hx, hb, hml, hown, hts⟩ hM (cwI 0 hts (x_g1 w_1_42) rfl rfl rfl (hts _ w_1_3) (hts _ w_1_40) (hts _ w_1_41) rfl (by decide +kernel) (x_room hh (by decide))) hp rfl hn hsize hst (lv_room hW) hdg hf
theorem k_Layer_17 (hx : p.tables.exec = Jvm.exec) (hb : c.code = cc) (hml : c.maxLocals = nL) (hown : s.vm.findClass "DecisionLayers$Layer" = some m.cls) (hts : ∀ w ∈ w_g, w.before args s = true) (hE : x_E D cA s) (hM : Met l y_Statement_init [.code y_Statement_init b_Statement_init 1 none] (x_rm h mc ms) Pc Qc mc ms free) (hp : PreS s H Pc (.ref b :: As)) (hn : As.length = 0) (hsize : ls.size = nL) (hst : st0 = As.reverse ++ .ref b :: rest) (hW : (rest.map fun v => v.category).sum ≤ 8) (hdg : decode cc pc = .ok (.invokespecial 17, 3)) (hh : h + 1 ≤ hc) (hf : cells + mc ≤ MC ∧ slots + ms ≤ MS) : CallRun p l e (x_rm hc MC MS) s m args below meth c H locs cells slots mc ms (F0 m pc ls st0) rest (Qc (Value.ref b :: As).toArray) free :=
  (va_runIN ⟨hx, hb, hml, hown, hts⟩ hM ⟨va_cnB (host := "DecisionLayers") 0 hts (x_g1 w_1_49) rfl rfl rfl hE.2.1.2.1 (hts _ w_1_4) (by decide +kernel) (x_room hh (by decide)), rfl, hts _ w_1_48⟩ hp rfl hn hsize hst (lv_room hW) hdg hf).run
theorem k_Law_15 (hx : p.tables.exec = Jvm.exec) (hb : c.code = cc) (hml : c.maxLocals = nL) (hown : s.vm.findClass "DecisionLayersLaw" = some m.cls) (hts : ∀ w ∈ w_g, w.before args s = true) (hM : Met l y_DL_test [.code y_DL_test b_DL_test 6 (some .int)] (x_rm h mc ms) Pc Qc mc ms free) (hp : PreV s H "DecisionLayers" b Pc As) (hn : As.length = 4) (hsize : ls.size = nL) (hst : st0 = As.reverse ++ .ref b :: rest) (hW : (rest.map fun v => v.category).sum ≤ 8) (hdg : decode cc pc = .ok (.invokevirtual 15, 3)) (hh : h + 1 ≤ hc) (hf : cells + mc ≤ MC ∧ slots + ms ≤ MS) : CallRun p l e (x_rm hc MC MS) s m args below meth c H locs cells slots mc ms (F0 m pc ls st0) rest (Qc (Value.ref b :: As).toArray) free :=
  W.runV ⟨hx, hb, hml, hown, hts⟩ hM (cwV 4 hts (x_g5 w_1_99 w_1_100 w_1_101 w_1_1 w_1_102) rfl rfl rfl (by decide +kernel) (x_room hh (by decide))) hp rfl hn hsize hst (lv_room hW) hdg hf
theorem k_DL_36 (hx : p.tables.exec = Jvm.exec) (hb : c.code = cc) (hml : c.maxLocals = nL) (hown : s.vm.findClass "DecisionLayers" = some m.cls) (hts : ∀ w ∈ w_g, w.before args s = true) (hM : Met l y_Values_isKey [.code y_Values_isKey b_Values_isKey 1 (some .boolean)] (x_rm h mc ms) Pc Qc mc ms free) (hp : PreS s H Pc As) (hn : As.length = 1) (hsize : ls.size = nL) (hst : st0 = As.reverse ++ rest) (hW : (rest.map fun v => v.category).sum ≤ 8) (hdg : decode cc pc = .ok (.invokestatic 36, 3)) (hh : h + 1 ≤ hc) (hf : cells + mc ≤ MC ∧ slots + ms ≤ MS) : CallRun p l e (x_rm hc MC MS) s m args below meth c H locs cells slots mc ms (F0 m pc ls st0) rest (Qc As.toArray) free :=
  W.runS ⟨hx, hb, hml, hown, hts⟩ hM (va_cwS 1 hts (x_g4 w_1_103 w_1_104 w_1_2 w_1_105) rfl rfl rfl (by decide +kernel) (x_room hh (by decide))) hp rfl hn hsize hst (lv_room hW) hdg hf
theorem k_DL_42 (hx : p.tables.exec = Jvm.exec) (hb : c.code = cc) (hml : c.maxLocals = nL) (hown : s.vm.findClass "DecisionLayers" = some m.cls) (hts : ∀ w ∈ w_g, w.before args s = true) (hM : Met l y_Test_init [.code y_Test_init b_Test_init 6 none] (x_rm h mc ms) Pc Qc mc ms free) (hp : PreS s H Pc (.ref b :: As)) (hn : As.length = 4) (hsize : ls.size = nL) (hst : st0 = As.reverse ++ .ref b :: rest) (hW : (rest.map fun v => v.category).sum ≤ 8) (hdg : decode cc pc = .ok (.invokespecial 42, 3)) (hh : h + 1 ≤ hc) (hf : cells + mc ≤ MC ∧ slots + ms ≤ MS) : CallRun p l e (x_rm hc MC MS) s m args below meth c H locs cells slots mc ms (F0 m pc ls st0) rest (Qc (Value.ref b :: As).toArray) free :=
  W.runI ⟨hx, hb, hml, hown, hts⟩ hM (cwI 4 hts (x_g1 w_1_110) rfl rfl rfl (hts _ w_1_7) (hts _ w_1_108) (hts _ w_1_109) rfl (by decide +kernel) (x_room hh (by decide))) hp rfl hn hsize hst (lv_room hW) hdg hf
theorem k_Test_1 (hx : p.tables.exec = Jvm.exec) (hb : c.code = cc) (hml : c.maxLocals = nL) (hown : s.vm.findClass "DecisionLayers$Test" = some m.cls) (hts : ∀ w ∈ w_g, w.before args s = true) (hM : Met l y_Condition_init [.code y_Condition_init b_Condition_init 2 none] (x_rm h mc ms) Pc Qc mc ms free) (hp : PreS s H Pc (.ref b :: As)) (hn : As.length = 1) (hsize : ls.size = nL) (hst : st0 = As.reverse ++ .ref b :: rest) (hW : (rest.map fun v => v.category).sum ≤ 8) (hdg : decode cc pc = .ok (.invokespecial 1, 3)) (hh : h + 1 ≤ hc) (hf : cells + mc ≤ MC ∧ slots + ms ≤ MS) : CallRun p l e (x_rm hc MC MS) s m args below meth c H locs cells slots mc ms (F0 m pc ls st0) rest (Qc (Value.ref b :: As).toArray) free :=
  W.runI ⟨hx, hb, hml, hown, hts⟩ hM (cwI 1 hts (x_g1 w_1_113) rfl rfl rfl (hts _ w_1_6) (hts _ w_1_111) (hts _ w_1_112) rfl (by decide +kernel) (x_room hh (by decide))) hp rfl hn hsize hst (lv_room hW) hdg hf
theorem k_DL_45 (hx : p.tables.exec = Jvm.exec) (hb : c.code = cc) (hml : c.maxLocals = nL) (hown : s.vm.findClass "DecisionLayers" = some m.cls) (hts : ∀ w ∈ w_g, w.before args s = true) (hM : Met l y_DL_push [.code y_DL_push b_DL_push 2 (some .int)] (x_rm h mc ms) Pc Qc mc ms free) (hp : PreV s H "DecisionLayers" b Pc As) (hn : As.length = 1) (hsize : ls.size = nL) (hst : st0 = As.reverse ++ .ref b :: rest) (hW : (rest.map fun v => v.category).sum ≤ 8) (hdg : decode cc pc = .ok (.invokevirtual 45, 3)) (hh : h + 1 ≤ hc) (hf : cells + mc ≤ MC ∧ slots + ms ≤ MS) : CallRun p l e (x_rm hc MC MS) s m args below meth c H locs cells slots mc ms (F0 m pc ls st0) rest (Qc (Value.ref b :: As).toArray) free :=
  W.runV ⟨hx, hb, hml, hown, hts⟩ hM (cwV 1 hts (x_g5 w_1_132 w_1_134 w_0_0 w_1_1 w_1_135) rfl rfl rfl (by decide +kernel) (x_room hh (by decide))) hp rfl hn hsize hst (lv_room hW) hdg hf
theorem k_Law_20 (hx : p.tables.exec = Jvm.exec) (hb : c.code = cc) (hml : c.maxLocals = nL) (hown : s.vm.findClass "DecisionLayersLaw" = some m.cls) (hts : ∀ w ∈ w_g, w.before args s = true) (hM : Met l y_DL_join [.code y_DL_join b_DL_join 6 (some .int)] (x_rm h mc ms) Pc Qc mc ms free) (hp : PreV s H "DecisionLayers" b Pc As) (hn : As.length = 2) (hsize : ls.size = nL) (hst : st0 = As.reverse ++ .ref b :: rest) (hW : (rest.map fun v => v.category).sum ≤ 8) (hdg : decode cc pc = .ok (.invokevirtual 20, 3)) (hh : h + 1 ≤ hc) (hf : cells + mc ≤ MC ∧ slots + ms ≤ MS) : CallRun p l e (x_rm hc MC MS) s m args below meth c H locs cells slots mc ms (F0 m pc ls st0) rest (Qc (Value.ref b :: As).toArray) free :=
  W.runV ⟨hx, hb, hml, hown, hts⟩ hM (cwV 2 hts (x_g5 w_1_136 w_1_137 w_1_138 w_1_1 w_1_139) rfl rfl rfl (by decide +kernel) (x_room hh (by decide))) hp rfl hn hsize hst (lv_room hW) hdg hf
theorem k_DL_51 (hx : p.tables.exec = Jvm.exec) (hb : c.code = cc) (hml : c.maxLocals = nL) (hown : s.vm.findClass "DecisionLayers" = some m.cls) (hts : ∀ w ∈ w_g, w.before args s = true) (hM : Met l y_DL_greatestDepthOfTopmost [.code y_DL_greatestDepthOfTopmost b_DL_greatestDepthOfTopmost 5 (some .int)] (x_rm h mc ms) Pc Qc mc ms free) (hp : PreV s H "DecisionLayers" b Pc As) (hn : As.length = 1) (hsize : ls.size = nL) (hst : st0 = As.reverse ++ .ref b :: rest) (hW : (rest.map fun v => v.category).sum ≤ 8) (hdg : decode cc pc = .ok (.invokevirtual 51, 3)) (hh : h + 1 ≤ hc) (hf : cells + mc ≤ MC ∧ slots + ms ≤ MS) : CallRun p l e (x_rm hc MC MS) s m args below meth c H locs cells slots mc ms (F0 m pc ls st0) rest (Qc (Value.ref b :: As).toArray) free :=
  W.runV ⟨hx, hb, hml, hown, hts⟩ hM (cwV 1 hts (x_g5 w_1_140 w_1_142 w_0_1 w_1_1 w_1_143) rfl rfl rfl (by decide +kernel) (x_room hh (by decide))) hp rfl hn hsize hst (lv_room hW) hdg hf
theorem k_DL_55 (hx : p.tables.exec = Jvm.exec) (hb : c.code = cc) (hml : c.maxLocals = nL) (hown : s.vm.findClass "DecisionLayers" = some m.cls) (hts : ∀ w ∈ w_g, w.before args s = true) (hM : Met l y_DL_pop [.code y_DL_pop b_DL_pop 2 (some (.object "DecisionLayers$Condition"))] (x_rm h mc ms) Pc Qc mc ms free) (hp : PreV s H "DecisionLayers" b Pc As) (hn : As.length = 0) (hsize : ls.size = nL) (hst : st0 = As.reverse ++ .ref b :: rest) (hW : (rest.map fun v => v.category).sum ≤ 8) (hdg : decode cc pc = .ok (.invokevirtual 55, 3)) (hh : h + 1 ≤ hc) (hf : cells + mc ≤ MC ∧ slots + ms ≤ MS) : CallRun p l e (x_rm hc MC MS) s m args below meth c H locs cells slots mc ms (F0 m pc ls st0) rest (Qc (Value.ref b :: As).toArray) free :=
  W.runV ⟨hx, hb, hml, hown, hts⟩ hM (cwV 0 hts (x_g5 w_1_147 w_1_149 w_0_2 w_1_1 w_1_150) rfl rfl rfl (by decide +kernel) (x_room hh (by decide))) hp rfl hn hsize hst (lv_room hW) hdg hf
theorem k_DL_59 (hx : p.tables.exec = Jvm.exec) (hb : c.code = cc) (hml : c.maxLocals = nL) (hown : s.vm.findClass "DecisionLayers" = some m.cls) (hts : ∀ w ∈ w_g, w.before args s = true) (hM : Met l y_Joined_init [.code y_Joined_init b_Joined_init 4 none] (x_rm h mc ms) Pc Qc mc ms free) (hp : PreS s H Pc (.ref b :: As)) (hn : As.length = 3) (hsize : ls.size = nL) (hst : st0 = As.reverse ++ .ref b :: rest) (hW : (rest.map fun v => v.category).sum ≤ 8) (hdg : decode cc pc = .ok (.invokespecial 59, 3)) (hh : h + 1 ≤ hc) (hf : cells + mc ≤ MC ∧ slots + ms ≤ MS) : CallRun p l e (x_rm hc MC MS) s m args below meth c H locs cells slots mc ms (F0 m pc ls st0) rest (Qc (Value.ref b :: As).toArray) free :=
  W.runI ⟨hx, hb, hml, hown, hts⟩ hM (cwI 3 hts (x_g1 w_1_155) rfl rfl rfl (hts _ w_1_9) (hts _ w_1_153) (hts _ w_1_154) rfl (by decide +kernel) (x_room hh (by decide))) hp rfl hn hsize hst (lv_room hW) hdg hf
theorem k_Joined_1 (hx : p.tables.exec = Jvm.exec) (hb : c.code = cc) (hml : c.maxLocals = nL) (hown : s.vm.findClass "DecisionLayers$Joined" = some m.cls) (hts : ∀ w ∈ w_g, w.before args s = true) (hM : Met l y_Condition_init [.code y_Condition_init b_Condition_init 2 none] (x_rm h mc ms) Pc Qc mc ms free) (hp : PreS s H Pc (.ref b :: As)) (hn : As.length = 1) (hsize : ls.size = nL) (hst : st0 = As.reverse ++ .ref b :: rest) (hW : (rest.map fun v => v.category).sum ≤ 8) (hdg : decode cc pc = .ok (.invokespecial 1, 3)) (hh : h + 1 ≤ hc) (hf : cells + mc ≤ MC ∧ slots + ms ≤ MS) : CallRun p l e (x_rm hc MC MS) s m args below meth c H locs cells slots mc ms (F0 m pc ls st0) rest (Qc (Value.ref b :: As).toArray) free :=
  W.runI ⟨hx, hb, hml, hown, hts⟩ hM (cwI 1 hts (x_g1 w_1_113) rfl rfl rfl (hts _ w_1_6) (hts _ w_1_156) (hts _ w_1_112) rfl (by decide +kernel) (x_room hh (by decide))) hp rfl hn hsize hst (lv_room hW) hdg hf
theorem k_Law_25 (hx : p.tables.exec = Jvm.exec) (hb : c.code = cc) (hml : c.maxLocals = nL) (hown : s.vm.findClass "DecisionLayersLaw" = some m.cls) (hts : ∀ w ∈ w_g, w.before args s = true) (hM : Met l y_DL_discard [.code y_DL_discard b_DL_discard 1 (some .boolean)] (x_rm h mc ms) Pc Qc mc ms free) (hp : PreV s H "DecisionLayers" b Pc As) (hn : As.length = 0) (hsize : ls.size = nL) (hst : st0 = As.reverse ++ .ref b :: rest) (hW : (rest.map fun v => v.category).sum ≤ 8) (hdg : decode cc pc = .ok (.invokevirtual 25, 3)) (hh : h + 1 ≤ hc) (hf : cells + mc ≤ MC ∧ slots + ms ≤ MS) : CallRun p l e (x_rm hc MC MS) s m args below meth c H locs cells slots mc ms (F0 m pc ls st0) rest (Qc (Value.ref b :: As).toArray) free :=
  W.runV ⟨hx, hb, hml, hown, hts⟩ hM (cwV 0 hts (x_g5 w_1_165 w_1_166 w_1_167 w_1_1 w_1_168) rfl rfl rfl (by decide +kernel) (x_room hh (by decide))) hp rfl hn hsize hst (lv_room hW) hdg hf
theorem k_Law_30 (hx : p.tables.exec = Jvm.exec) (hb : c.code = cc) (hml : c.maxLocals = nL) (hown : s.vm.findClass "DecisionLayersLaw" = some m.cls) (hts : ∀ w ∈ w_g, w.before args s = true) (hM : Met l y_DL_pile [.code y_DL_pile b_DL_pile 1 (some .int)] (x_rm h mc ms) Pc Qc mc ms free) (hp : PreV s H "DecisionLayers" b Pc As) (hn : As.length = 0) (hsize : ls.size = nL) (hst : st0 = As.reverse ++ .ref b :: rest) (hW : (rest.map fun v => v.category).sum ≤ 8) (hdg : decode cc pc = .ok (.invokevirtual 30, 3)) (hh : h + 1 ≤ hc) (hf : cells + mc ≤ MC ∧ slots + ms ≤ MS) : CallRun p l e (x_rm hc MC MS) s m args below meth c H locs cells slots mc ms (F0 m pc ls st0) rest (Qc (Value.ref b :: As).toArray) free :=
  W.runV ⟨hx, hb, hml, hown, hts⟩ hM (cwV 0 hts (x_g5 w_1_169 w_1_170 w_1_171 w_1_1 w_1_172) rfl rfl rfl (by decide +kernel) (x_room hh (by decide))) hp rfl hn hsize hst (lv_room hW) hdg hf
theorem k_Law_35 (hx : p.tables.exec = Jvm.exec) (hb : c.code = cc) (hml : c.maxLocals = nL) (hown : s.vm.findClass "DecisionLayersLaw" = some m.cls) (hts : ∀ w ∈ w_g, w.before args s = true) (hM : Met l y_DL_state [.code y_DL_state b_DL_state 10 (some .int)] (x_rm h mc ms) Pc Qc mc ms free) (hp : PreV s H "DecisionLayers" b Pc As) (hn : As.length = 5) (hsize : ls.size = nL) (hst : st0 = As.reverse ++ .ref b :: rest) (hW : (rest.map fun v => v.category).sum ≤ 8) (hdg : decode cc pc = .ok (.invokevirtual 35, 3)) (hh : h + 1 ≤ hc) (hf : cells + mc ≤ MC ∧ slots + ms ≤ MS) : CallRun p l e (x_rm hc MC MS) s m args below meth c H locs cells slots mc ms (F0 m pc ls st0) rest (Qc (Value.ref b :: As).toArray) free :=
  W.runV ⟨hx, hb, hml, hown, hts⟩ hM (cwV 5 hts (x_g5 w_1_173 w_1_174 w_1_175 w_1_1 w_1_176) rfl rfl rfl (by decide +kernel) (x_room hh (by decide))) hp rfl hn hsize hst (lv_room hW) hdg hf
theorem k_DL_62 (hx : p.tables.exec = Jvm.exec) (hb : c.code = cc) (hml : c.maxLocals = nL) (hown : s.vm.findClass "DecisionLayers" = some m.cls) (hts : ∀ w ∈ w_g, w.before args s = true) (hM : Met l y_DL_isLayer [.code y_DL_isLayer b_DL_isLayer 1 (some .boolean)] (x_rm h mc ms) Pc Qc mc ms free) (hp : PreS s H Pc As) (hn : As.length = 1) (hsize : ls.size = nL) (hst : st0 = As.reverse ++ rest) (hW : (rest.map fun v => v.category).sum ≤ 8) (hdg : decode cc pc = .ok (.invokestatic 62, 3)) (hh : h + 1 ≤ hc) (hf : cells + mc ≤ MC ∧ slots + ms ≤ MS) : CallRun p l e (x_rm hc MC MS) s m args below meth c H locs cells slots mc ms (F0 m pc ls st0) rest (Qc As.toArray) free :=
  W.runS ⟨hx, hb, hml, hown, hts⟩ hM (va_cwS 1 hts (x_g4 w_1_177 w_1_178 w_1_1 w_1_179) rfl rfl rfl (by decide +kernel) (x_room hh (by decide))) hp rfl hn hsize hst (lv_room hW) hdg hf
theorem k_DL_67 (hx : p.tables.exec = Jvm.exec) (hb : c.code = cc) (hml : c.maxLocals = nL) (hown : s.vm.findClass "DecisionLayers" = some m.cls) (hts : ∀ w ∈ w_g, w.before args s = true) (hM : Met l y_DL_mayStandIn [.code y_DL_mayStandIn b_DL_mayStandIn 2 (some .boolean)] (x_rm h mc ms) Pc Qc mc ms free) (hp : PreS s H Pc As) (hn : As.length = 2) (hsize : ls.size = nL) (hst : st0 = As.reverse ++ rest) (hW : (rest.map fun v => v.category).sum ≤ 8) (hdg : decode cc pc = .ok (.invokestatic 67, 3)) (hh : h + 1 ≤ hc) (hf : cells + mc ≤ MC ∧ slots + ms ≤ MS) : CallRun p l e (x_rm hc MC MS) s m args below meth c H locs cells slots mc ms (F0 m pc ls st0) rest (Qc As.toArray) free :=
  W.runS ⟨hx, hb, hml, hown, hts⟩ hM (va_cwS 2 hts (x_g4 w_1_180 w_1_181 w_1_1 w_1_182) rfl rfl rfl (by decide +kernel) (x_room hh (by decide))) hp rfl hn hsize hst (lv_room hW) hdg hf
theorem k_DL_124 (hx : p.tables.exec = Jvm.exec) (hb : c.code = cc) (hml : c.maxLocals = nL) (hown : s.vm.findClass "DecisionLayers" = some m.cls) (hts : ∀ w ∈ w_g, w.before args s = true) (hM : Met l y_Statement_isWho [.code y_Statement_isWho b_Statement_isWho 1 (some .boolean)] (x_rm h mc ms) Pc Qc mc ms free) (hp : PreS s H Pc As) (hn : As.length = 1) (hsize : ls.size = nL) (hst : st0 = As.reverse ++ rest) (hW : (rest.map fun v => v.category).sum ≤ 8) (hdg : decode cc pc = .ok (.invokestatic 124, 3)) (hh : h + 1 ≤ hc) (hf : cells + mc ≤ MC ∧ slots + ms ≤ MS) : CallRun p l e (x_rm hc MC MS) s m args below meth c H locs cells slots mc ms (F0 m pc ls st0) rest (Qc As.toArray) free :=
  W.runS ⟨hx, hb, hml, hown, hts⟩ hM (va_cwS 1 hts (x_g4 w_1_183 w_1_184 w_1_4 w_1_185) rfl rfl rfl (by decide +kernel) (x_room hh (by decide))) hp rfl hn hsize hst (lv_room hW) hdg hf
theorem k_DL_71 (hx : p.tables.exec = Jvm.exec) (hb : c.code = cc) (hml : c.maxLocals = nL) (hown : s.vm.findClass "DecisionLayers" = some m.cls) (hts : ∀ w ∈ w_g, w.before args s = true) (hM : Met l y_Layer_isFull [.code y_Layer_isFull b_Layer_isFull 1 (some .boolean)] (x_rm h mc ms) Pc Qc mc ms free) (hp : PreV s H "DecisionLayers$Layer" b Pc As) (hn : As.length = 0) (hsize : ls.size = nL) (hst : st0 = As.reverse ++ .ref b :: rest) (hW : (rest.map fun v => v.category).sum ≤ 8) (hdg : decode cc pc = .ok (.invokevirtual 71, 3)) (hh : h + 1 ≤ hc) (hf : cells + mc ≤ MC ∧ slots + ms ≤ MS) : CallRun p l e (x_rm hc MC MS) s m args below meth c H locs cells slots mc ms (F0 m pc ls st0) rest (Qc (Value.ref b :: As).toArray) free :=
  W.runV ⟨hx, hb, hml, hown, hts⟩ hM (cwV 0 hts (x_g5 w_1_186 w_1_187 w_1_188 w_1_3 w_1_189) rfl rfl rfl (by decide +kernel) (x_room hh (by decide))) hp rfl hn hsize hst (lv_room hW) hdg hf
theorem k_DL_75 (hx : p.tables.exec = Jvm.exec) (hb : c.code = cc) (hml : c.maxLocals = nL) (hown : s.vm.findClass "DecisionLayers" = some m.cls) (hts : ∀ w ∈ w_g, w.before args s = true) (hM : Met l y_Layer_append [.code y_Layer_append b_Layer_append 8 (some .int)] (x_rm h mc ms) Pc Qc mc ms free) (hp : PreV s H "DecisionLayers$Layer" b Pc As) (hn : As.length = 5) (hsize : ls.size = nL) (hst : st0 = As.reverse ++ .ref b :: rest) (hW : (rest.map fun v => v.category).sum ≤ 8) (hdg : decode cc pc = .ok (.invokevirtual 75, 3)) (hh : h + 1 ≤ hc) (hf : cells + mc ≤ MC ∧ slots + ms ≤ MS) : CallRun p l e (x_rm hc MC MS) s m args below meth c H locs cells slots mc ms (F0 m pc ls st0) rest (Qc (Value.ref b :: As).toArray) free :=
  W.runV ⟨hx, hb, hml, hown, hts⟩ hM (cwV 5 hts (x_g5 w_1_190 w_1_191 w_1_192 w_1_3 w_1_193) rfl rfl rfl (by decide +kernel) (x_room hh (by decide))) hp rfl hn hsize hst (lv_room hW) hdg hf
theorem k_Layer_22 (hx : p.tables.exec = Jvm.exec) (hb : c.code = cc) (hml : c.maxLocals = nL) (hown : s.vm.findClass "DecisionLayers$Layer" = some m.cls) (hts : ∀ w ∈ w_g, w.before args s = true) (hM : Met l y_Statement_become [.code y_Statement_become b_Statement_become 8 none] (x_rm h mc ms) Pc Qc mc ms free) (hp : PreV s H "DecisionLayers$Statement" b Pc As) (hn : As.length = 5) (hsize : ls.size = nL) (hst : st0 = As.reverse ++ .ref b :: rest) (hW : (rest.map fun v => v.category).sum ≤ 8) (hdg : decode cc pc = .ok (.invokevirtual 22, 3)) (hh : h + 1 ≤ hc) (hf : cells + mc ≤ MC ∧ slots + ms ≤ MS) : CallRun p l e (x_rm hc MC MS) s m args below meth c H locs cells slots mc ms (F0 m pc ls st0) rest (Qc (Value.ref b :: As).toArray) free :=
  W.runV ⟨hx, hb, hml, hown, hts⟩ hM (cwV 5 hts (x_g5 w_1_194 w_1_195 w_1_196 w_1_4 w_1_197) rfl rfl rfl (by decide +kernel) (x_room hh (by decide))) hp rfl hn hsize hst (lv_room hW) hdg hf
theorem k_Law_40 (hx : p.tables.exec = Jvm.exec) (hb : c.code = cc) (hml : c.maxLocals = nL) (hown : s.vm.findClass "DecisionLayersLaw" = some m.cls) (hts : ∀ w ∈ w_g, w.before args s = true) (hM : Met l y_DL_open [.code y_DL_open b_DL_open 2 (some .boolean)] (x_rm h mc ms) Pc Qc mc ms free) (hp : PreV s H "DecisionLayers" b Pc As) (hn : As.length = 1) (hsize : ls.size = nL) (hst : st0 = As.reverse ++ .ref b :: rest) (hW : (rest.map fun v => v.category).sum ≤ 8) (hdg : decode cc pc = .ok (.invokevirtual 40, 3)) (hh : h + 1 ≤ hc) (hf : cells + mc ≤ MC ∧ slots + ms ≤ MS) : CallRun p l e (x_rm hc MC MS) s m args below meth c H locs cells slots mc ms (F0 m pc ls st0) rest (Qc (Value.ref b :: As).toArray) free :=
  W.runV ⟨hx, hb, hml, hown, hts⟩ hM (cwV 1 hts (x_g5 w_1_198 w_1_199 w_1_200 w_1_1 w_1_201) rfl rfl rfl (by decide +kernel) (x_room hh (by decide))) hp rfl hn hsize hst (lv_room hW) hdg hf
theorem k_Law_45 (hx : p.tables.exec = Jvm.exec) (hb : c.code = cc) (hml : c.maxLocals = nL) (hown : s.vm.findClass "DecisionLayersLaw" = some m.cls) (hts : ∀ w ∈ w_g, w.before args s = true) (hM : Met l y_DL_drop [.code y_DL_drop b_DL_drop 2 (some .boolean)] (x_rm h mc ms) Pc Qc mc ms free) (hp : PreV s H "DecisionLayers" b Pc As) (hn : As.length = 1) (hsize : ls.size = nL) (hst : st0 = As.reverse ++ .ref b :: rest) (hW : (rest.map fun v => v.category).sum ≤ 8) (hdg : decode cc pc = .ok (.invokevirtual 45, 3)) (hh : h + 1 ≤ hc) (hf : cells + mc ≤ MC ∧ slots + ms ≤ MS) : CallRun p l e (x_rm hc MC MS) s m args below meth c H locs cells slots mc ms (F0 m pc ls st0) rest (Qc (Value.ref b :: As).toArray) free :=
  W.runV ⟨hx, hb, hml, hown, hts⟩ hM (cwV 1 hts (x_g5 w_1_202 w_1_203 w_1_204 w_1_1 w_1_205) rfl rfl rfl (by decide +kernel) (x_room hh (by decide))) hp rfl hn hsize hst (lv_room hW) hdg hf
theorem k_DL_83 (hx : p.tables.exec = Jvm.exec) (hb : c.code = cc) (hml : c.maxLocals = nL) (hown : s.vm.findClass "DecisionLayers" = some m.cls) (hts : ∀ w ∈ w_g, w.before args s = true) (hM : Met l y_Layer_empty [.code y_Layer_empty b_Layer_empty 1 none] (x_rm h mc ms) Pc Qc mc ms free) (hp : PreV s H "DecisionLayers$Layer" b Pc As) (hn : As.length = 0) (hsize : ls.size = nL) (hst : st0 = As.reverse ++ .ref b :: rest) (hW : (rest.map fun v => v.category).sum ≤ 8) (hdg : decode cc pc = .ok (.invokevirtual 83, 3)) (hh : h + 1 ≤ hc) (hf : cells + mc ≤ MC ∧ slots + ms ≤ MS) : CallRun p l e (x_rm hc MC MS) s m args below meth c H locs cells slots mc ms (F0 m pc ls st0) rest (Qc (Value.ref b :: As).toArray) free :=
  W.runV ⟨hx, hb, hml, hown, hts⟩ hM (cwV 0 hts (x_g5 w_1_206 w_1_207 w_1_208 w_1_3 w_1_209) rfl rfl rfl (by decide +kernel) (x_room hh (by decide))) hp rfl hn hsize hst (lv_room hW) hdg hf
theorem k_Law_49 (hx : p.tables.exec = Jvm.exec) (hb : c.code = cc) (hml : c.maxLocals = nL) (hown : s.vm.findClass "DecisionLayersLaw" = some m.cls) (hts : ∀ w ∈ w_g, w.before args s = true) (hM : Met l y_DL_statements [.code y_DL_statements b_DL_statements 2 (some .int)] (x_rm h mc ms) Pc Qc mc ms free) (hp : PreV s H "DecisionLayers" b Pc As) (hn : As.length = 1) (hsize : ls.size = nL) (hst : st0 = As.reverse ++ .ref b :: rest) (hW : (rest.map fun v => v.category).sum ≤ 8) (hdg : decode cc pc = .ok (.invokevirtual 49, 3)) (hh : h + 1 ≤ hc) (hf : cells + mc ≤ MC ∧ slots + ms ≤ MS) : CallRun p l e (x_rm hc MC MS) s m args below meth c H locs cells slots mc ms (F0 m pc ls st0) rest (Qc (Value.ref b :: As).toArray) free :=
  W.runV ⟨hx, hb, hml, hown, hts⟩ hM (cwV 1 hts (x_g5 w_1_210 w_1_211 w_1_212 w_1_1 w_1_213) rfl rfl rfl (by decide +kernel) (x_room hh (by decide))) hp rfl hn hsize hst (lv_room hW) hdg hf
theorem k_Law_54 (hx : p.tables.exec = Jvm.exec) (hb : c.code = cc) (hml : c.maxLocals = nL) (hown : s.vm.findClass "DecisionLayersLaw" = some m.cls) (hts : ∀ w ∈ w_g, w.before args s = true) (hM : Met l y_DL_offer [.code y_DL_offer b_DL_offer 4 (some .int)] (x_rm h mc ms) Pc Qc mc ms free) (hp : PreV s H "DecisionLayers" b Pc As) (hn : As.length = 2) (hsize : ls.size = nL) (hst : st0 = As.reverse ++ .ref b :: rest) (hW : (rest.map fun v => v.category).sum ≤ 8) (hdg : decode cc pc = .ok (.invokevirtual 54, 3)) (hh : h + 1 ≤ hc) (hf : cells + mc ≤ MC ∧ slots + ms ≤ MS) : CallRun p l e (x_rm hc MC MS) s m args below meth c H locs cells slots mc ms (F0 m pc ls st0) rest (Qc (Value.ref b :: As).toArray) free :=
  W.runV ⟨hx, hb, hml, hown, hts⟩ hM (cwV 2 hts (x_g5 w_1_214 w_1_215 w_1_216 w_1_1 w_1_217) rfl rfl rfl (by decide +kernel) (x_room hh (by decide))) hp rfl hn hsize hst (lv_room hW) hdg hf
theorem k_DL_89 (hx : p.tables.exec = Jvm.exec) (hb : c.code = cc) (hml : c.maxLocals = nL) (hown : s.vm.findClass "DecisionLayers" = some m.cls) (hts : ∀ w ∈ w_g, w.before args s = true) (hM : Met l y_Values_isFull [.code y_Values_isFull b_Values_isFull 2 (some .boolean)] (x_rm h mc ms) Pc Qc mc ms free) (hp : PreV s H "DecisionLayers$Values" b Pc As) (hn : As.length = 1) (hsize : ls.size = nL) (hst : st0 = As.reverse ++ .ref b :: rest) (hW : (rest.map fun v => v.category).sum ≤ 8) (hdg : decode cc pc = .ok (.invokevirtual 89, 3)) (hh : h + 1 ≤ hc) (hf : cells + mc ≤ MC ∧ slots + ms ≤ MS) : CallRun p l e (x_rm hc MC MS) s m args below meth c H locs cells slots mc ms (F0 m pc ls st0) rest (Qc (Value.ref b :: As).toArray) free :=
  W.runV ⟨hx, hb, hml, hown, hts⟩ hM (cwV 1 hts (x_g5 w_1_218 w_1_219 w_1_220 w_1_2 w_1_221) rfl rfl rfl (by decide +kernel) (x_room hh (by decide))) hp rfl hn hsize hst (lv_room hW) hdg hf
theorem k_Values_17 (hx : p.tables.exec = Jvm.exec) (hb : c.code = cc) (hml : c.maxLocals = nL) (hown : s.vm.findClass "DecisionLayers$Values" = some m.cls) (hts : ∀ w ∈ w_g, w.before args s = true) (hM : Met l y_Values_count [.code y_Values_count b_Values_count 2 (some .int)] (x_rm h mc ms) Pc Qc mc ms free) (hp : PreV s H "DecisionLayers$Values" b Pc As) (hn : As.length = 1) (hsize : ls.size = nL) (hst : st0 = As.reverse ++ .ref b :: rest) (hW : (rest.map fun v => v.category).sum ≤ 8) (hdg : decode cc pc = .ok (.invokevirtual 17, 3)) (hh : h + 1 ≤ hc) (hf : cells + mc ≤ MC ∧ slots + ms ≤ MS) : CallRun p l e (x_rm hc MC MS) s m args below meth c H locs cells slots mc ms (F0 m pc ls st0) rest (Qc (Value.ref b :: As).toArray) free :=
  W.runV ⟨hx, hb, hml, hown, hts⟩ hM (cwV 1 hts (x_g5 w_1_222 w_1_223 w_1_224 w_1_2 w_1_225) rfl rfl rfl (by decide +kernel) (x_room hh (by decide))) hp rfl hn hsize hst (lv_room hW) hdg hf
theorem k_DL_91 (hx : p.tables.exec = Jvm.exec) (hb : c.code = cc) (hml : c.maxLocals = nL) (hown : s.vm.findClass "DecisionLayers" = some m.cls) (hts : ∀ w ∈ w_g, w.before args s = true) (hM : Met l y_Values_append [.code y_Values_append b_Values_append 4 (some .int)] (x_rm h mc ms) Pc Qc mc ms free) (hp : PreV s H "DecisionLayers$Values" b Pc As) (hn : As.length = 2) (hsize : ls.size = nL) (hst : st0 = As.reverse ++ .ref b :: rest) (hW : (rest.map fun v => v.category).sum ≤ 8) (hdg : decode cc pc = .ok (.invokevirtual 91, 3)) (hh : h + 1 ≤ hc) (hf : cells + mc ≤ MC ∧ slots + ms ≤ MS) : CallRun p l e (x_rm hc MC MS) s m args below meth c H locs cells slots mc ms (F0 m pc ls st0) rest (Qc (Value.ref b :: As).toArray) free :=
  W.runV ⟨hx, hb, hml, hown, hts⟩ hM (cwV 2 hts (x_g5 w_1_226 w_1_227 w_1_228 w_1_2 w_1_229) rfl rfl rfl (by decide +kernel) (x_room hh (by decide))) hp rfl hn hsize hst (lv_room hW) hdg hf
theorem k_Values_21 (hx : p.tables.exec = Jvm.exec) (hb : c.code = cc) (hml : c.maxLocals = nL) (hown : s.vm.findClass "DecisionLayers$Values" = some m.cls) (hts : ∀ w ∈ w_g, w.before args s = true) (hM : Met l y_Values_isKey [.code y_Values_isKey b_Values_isKey 1 (some .boolean)] (x_rm h mc ms) Pc Qc mc ms free) (hp : PreS s H Pc As) (hn : As.length = 1) (hsize : ls.size = nL) (hst : st0 = As.reverse ++ rest) (hW : (rest.map fun v => v.category).sum ≤ 8) (hdg : decode cc pc = .ok (.invokestatic 21, 3)) (hh : h + 1 ≤ hc) (hf : cells + mc ≤ MC ∧ slots + ms ≤ MS) : CallRun p l e (x_rm hc MC MS) s m args below meth c H locs cells slots mc ms (F0 m pc ls st0) rest (Qc As.toArray) free :=
  W.runS ⟨hx, hb, hml, hown, hts⟩ hM (va_cwS 1 hts (x_g4 w_1_230 w_1_104 w_1_2 w_1_105) rfl rfl rfl (by decide +kernel) (x_room hh (by decide))) hp rfl hn hsize hst (lv_room hW) hdg hf
theorem k_Law_59 (hx : p.tables.exec = Jvm.exec) (hb : c.code = cc) (hml : c.maxLocals = nL) (hown : s.vm.findClass "DecisionLayersLaw" = some m.cls) (hts : ∀ w ∈ w_g, w.before args s = true) (hM : Met l y_DL_forget [.code y_DL_forget b_DL_forget 2 (some .int)] (x_rm h mc ms) Pc Qc mc ms free) (hp : PreV s H "DecisionLayers" b Pc As) (hn : As.length = 1) (hsize : ls.size = nL) (hst : st0 = As.reverse ++ .ref b :: rest) (hW : (rest.map fun v => v.category).sum ≤ 8) (hdg : decode cc pc = .ok (.invokevirtual 59, 3)) (hh : h + 1 ≤ hc) (hf : cells + mc ≤ MC ∧ slots + ms ≤ MS) : CallRun p l e (x_rm hc MC MS) s m args below meth c H locs cells slots mc ms (F0 m pc ls st0) rest (Qc (Value.ref b :: As).toArray) free :=
  W.runV ⟨hx, hb, hml, hown, hts⟩ hM (cwV 1 hts (x_g5 w_1_231 w_1_232 w_1_233 w_1_1 w_1_234) rfl rfl rfl (by decide +kernel) (x_room hh (by decide))) hp rfl hn hsize hst (lv_room hW) hdg hf
theorem k_DL_94 (hx : p.tables.exec = Jvm.exec) (hb : c.code = cc) (hml : c.maxLocals = nL) (hown : s.vm.findClass "DecisionLayers" = some m.cls) (hts : ∀ w ∈ w_g, w.before args s = true) (hM : Met l y_Values_empty [.code y_Values_empty b_Values_empty 3 (some .int)] (x_rm h mc ms) Pc Qc mc ms free) (hp : PreV s H "DecisionLayers$Values" b Pc As) (hn : As.length = 1) (hsize : ls.size = nL) (hst : st0 = As.reverse ++ .ref b :: rest) (hW : (rest.map fun v => v.category).sum ≤ 8) (hdg : decode cc pc = .ok (.invokevirtual 94, 3)) (hh : h + 1 ≤ hc) (hf : cells + mc ≤ MC ∧ slots + ms ≤ MS) : CallRun p l e (x_rm hc MC MS) s m args below meth c H locs cells slots mc ms (F0 m pc ls st0) rest (Qc (Value.ref b :: As).toArray) free :=
  W.runV ⟨hx, hb, hml, hown, hts⟩ hM (cwV 1 hts (x_g5 w_1_235 w_1_236 w_1_237 w_1_2 w_1_238) rfl rfl rfl (by decide +kernel) (x_room hh (by decide))) hp rfl hn hsize hst (lv_room hW) hdg hf
theorem k_Law_63 (hx : p.tables.exec = Jvm.exec) (hb : c.code = cc) (hml : c.maxLocals = nL) (hown : s.vm.findClass "DecisionLayersLaw" = some m.cls) (hts : ∀ w ∈ w_g, w.before args s = true) (hM : Met l y_DL_decide [.code y_DL_decide b_DL_decide 10 (some .int)] (x_rm h mc ms) Pc Qc mc ms free) (hp : PreV s H "DecisionLayers" b Pc As) (hn : As.length = 5) (hsize : ls.size = nL) (hst : st0 = As.reverse ++ .ref b :: rest) (hW : (rest.map fun v => v.category).sum ≤ 8) (hdg : decode cc pc = .ok (.invokevirtual 63, 3)) (hh : h + 1 ≤ hc) (hf : cells + mc ≤ MC ∧ slots + ms ≤ MS) : CallRun p l e (x_rm hc MC MS) s m args below meth c H locs cells slots mc ms (F0 m pc ls st0) rest (Qc (Value.ref b :: As).toArray) free :=
  W.runV ⟨hx, hb, hml, hown, hts⟩ hM (cwV 5 hts (x_g5 w_1_239 w_2_0 w_2_1 w_1_1 w_2_2) rfl rfl rfl (by decide +kernel) (x_room hh (by decide))) hp rfl hn hsize hst (lv_room hW) hdg hf
theorem k_DL_96 (hx : p.tables.exec = Jvm.exec) (hb : c.code = cc) (hml : c.maxLocals = nL) (hown : s.vm.findClass "DecisionLayers" = some m.cls) (hts : ∀ w ∈ w_g, w.before args s = true) (hM : Met l y_DL_isDigit [.code y_DL_isDigit b_DL_isDigit 1 (some .boolean)] (x_rm h mc ms) Pc Qc mc ms free) (hp : PreS s H Pc As) (hn : As.length = 1) (hsize : ls.size = nL) (hst : st0 = As.reverse ++ rest) (hW : (rest.map fun v => v.category).sum ≤ 8) (hdg : decode cc pc = .ok (.invokestatic 96, 3)) (hh : h + 1 ≤ hc) (hf : cells + mc ≤ MC ∧ slots + ms ≤ MS) : CallRun p l e (x_rm hc MC MS) s m args below meth c H locs cells slots mc ms (F0 m pc ls st0) rest (Qc As.toArray) free :=
  W.runS ⟨hx, hb, hml, hown, hts⟩ hM (va_cwS 1 hts (x_g4 w_2_3 w_2_4 w_1_1 w_2_5) rfl rfl rfl (by decide +kernel) (x_room hh (by decide))) hp rfl hn hsize hst (lv_room hW) hdg hf
theorem k_DL_99 (hx : p.tables.exec = Jvm.exec) (hb : c.code = cc) (hml : c.maxLocals = nL) (hown : s.vm.findClass "DecisionLayers" = some m.cls) (hts : ∀ w ∈ w_g, w.before args s = true) (hM : Met l y_Statement_whoOfUser [.code y_Statement_whoOfUser b_Statement_whoOfUser 2 (some .int)] (x_rm h mc ms) Pc Qc mc ms free) (hp : PreS s H Pc As) (hn : As.length = 2) (hsize : ls.size = nL) (hst : st0 = As.reverse ++ rest) (hW : (rest.map fun v => v.category).sum ≤ 8) (hdg : decode cc pc = .ok (.invokestatic 99, 3)) (hh : h + 1 ≤ hc) (hf : cells + mc ≤ MC ∧ slots + ms ≤ MS) : CallRun p l e (x_rm hc MC MS) s m args below meth c H locs cells slots mc ms (F0 m pc ls st0) rest (Qc As.toArray) free :=
  W.runS ⟨hx, hb, hml, hown, hts⟩ hM (va_cwS 2 hts (x_g4 w_2_6 w_2_7 w_1_4 w_2_8) rfl rfl rfl (by decide +kernel) (x_room hh (by decide))) hp rfl hn hsize hst (lv_room hW) hdg hf
theorem k_DL_103 (hx : p.tables.exec = Jvm.exec) (hb : c.code = cc) (hml : c.maxLocals = nL) (hown : s.vm.findClass "DecisionLayers" = some m.cls) (hts : ∀ w ∈ w_g, w.before args s = true) (hM : Met l y_Layer_judge [.code y_Layer_judge b_Layer_judge 8 none] (x_rm h mc ms) Pc Qc mc ms free) (hp : PreV s H "DecisionLayers$Layer" b Pc As) (hn : As.length = 4) (hsize : ls.size = nL) (hst : st0 = As.reverse ++ .ref b :: rest) (hW : (rest.map fun v => v.category).sum ≤ 8) (hdg : decode cc pc = .ok (.invokevirtual 103, 3)) (hh : h + 1 ≤ hc) (hf : cells + mc ≤ MC ∧ slots + ms ≤ MS) : CallRun p l e (x_rm hc MC MS) s m args below meth c H locs cells slots mc ms (F0 m pc ls st0) rest (Qc (Value.ref b :: As).toArray) free :=
  W.runV ⟨hx, hb, hml, hown, hts⟩ hM (cwV 4 hts (x_g5 w_2_9 w_2_10 w_2_11 w_1_3 w_2_12) rfl rfl rfl (by decide +kernel) (x_room hh (by decide))) hp rfl hn hsize hst (lv_room hW) hdg hf
theorem k_Layer_33 (hx : p.tables.exec = Jvm.exec) (hb : c.code = cc) (hml : c.maxLocals = nL) (hown : s.vm.findClass "DecisionLayers$Layer" = some m.cls) (hts : ∀ w ∈ w_g, w.before args s = true) (hM : Met l y_Statement_suits [.code y_Statement_suits b_Statement_suits 9 (some .boolean)] (x_rm h mc ms) Pc Qc mc ms free) (hp : PreV s H "DecisionLayers$Statement" b Pc As) (hn : As.length = 4) (hsize : ls.size = nL) (hst : st0 = As.reverse ++ .ref b :: rest) (hW : (rest.map fun v => v.category).sum ≤ 8) (hdg : decode cc pc = .ok (.invokevirtual 33, 3)) (hh : h + 1 ≤ hc) (hf : cells + mc ≤ MC ∧ slots + ms ≤ MS) : CallRun p l e (x_rm hc MC MS) s m args below meth c H locs cells slots mc ms (F0 m pc ls st0) rest (Qc (Value.ref b :: As).toArray) free :=
  W.runV ⟨hx, hb, hml, hown, hts⟩ hM (cwV 4 hts (x_g5 w_2_13 w_2_14 w_2_15 w_1_4 w_2_16) rfl rfl rfl (by decide +kernel) (x_room hh (by decide))) hp rfl hn hsize hst (lv_room hW) hdg hf
theorem k_Statement_27 (hx : p.tables.exec = Jvm.exec) (hb : c.code = cc) (hml : c.maxLocals = nL) (hown : s.vm.findClass "DecisionLayers$Statement" = some m.cls) (hts : ∀ w ∈ w_g, w.before args s = true) (hM : Met l y_Statement_means [.code y_Statement_means b_Statement_means 2 (some .boolean)] (x_rm h mc ms) Pc Qc mc ms free) (hp : PreV s H "DecisionLayers$Statement" b Pc As) (hn : As.length = 1) (hsize : ls.size = nL) (hst : st0 = As.reverse ++ .ref b :: rest) (hW : (rest.map fun v => v.category).sum ≤ 8) (hdg : decode cc pc = .ok (.invokevirtual 27, 3)) (hh : h + 1 ≤ hc) (hf : cells + mc ≤ MC ∧ slots + ms ≤ MS) : CallRun p l e (x_rm hc MC MS) s m args below meth c H locs cells slots mc ms (F0 m pc ls st0) rest (Qc (Value.ref b :: As).toArray) free :=
  W.runV ⟨hx, hb, hml, hown, hts⟩ hM (cwV 1 hts (x_g5 w_2_17 w_2_19 w_0_3 w_1_4 w_2_20) rfl rfl rfl (by decide +kernel) (x_room hh (by decide))) hp rfl hn hsize hst (lv_room hW) hdg hf
theorem k_Statement_31 (hx : p.tables.exec = Jvm.exec) (hb : c.code = cc) (hml : c.maxLocals = nL) (hown : s.vm.findClass "DecisionLayers$Statement" = some m.cls) (hts : ∀ w ∈ w_g, w.before args s = true) (hM : Met l y_Pattern_fits [.code y_Pattern_fits b_Pattern_fits 11 (some .boolean)] (x_rm h mc ms) Pc Qc mc ms free) (hp : PreS s H Pc As) (hn : As.length = 4) (hsize : ls.size = nL) (hst : st0 = As.reverse ++ rest) (hW : (rest.map fun v => v.category).sum ≤ 8) (hdg : decode cc pc = .ok (.invokestatic 31, 3)) (hh : h + 1 ≤ hc) (hf : cells + mc ≤ MC ∧ slots + ms ≤ MS) : CallRun p l e (x_rm hc MC MS) s m args below meth c H locs cells slots mc ms (F0 m pc ls st0) rest (Qc As.toArray) free :=
  W.runS ⟨hx, hb, hml, hown, hts⟩ hM (va_cwS 4 hts (x_g4 w_2_21 w_2_22 w_1_10 w_2_23) rfl rfl rfl (by decide +kernel) (x_room hh (by decide))) hp rfl hn hsize hst (lv_room hW) hdg hf
theorem k_Pattern_7 (hx : p.tables.exec = Jvm.exec) (hb : c.code = cc) (hml : c.maxLocals = nL) (hown : s.vm.findClass "DecisionLayers$Pattern" = some m.cls) (hts : ∀ w ∈ w_g, w.before args s = true) (hM : Met l y_Text_length [.code y_Text_length b_Text_length 3 (some .int)] (x_rm h mc ms) Pc Qc mc ms free) (hp : PreS s H Pc As) (hn : As.length = 1) (hsize : ls.size = nL) (hst : st0 = As.reverse ++ rest) (hW : (rest.map fun v => v.category).sum ≤ 8) (hdg : decode cc pc = .ok (.invokestatic 7, 3)) (hh : h + 1 ≤ hc) (hf : cells + mc ≤ MC ∧ slots + ms ≤ MS) : CallRun p l e (x_rm hc MC MS) s m args below meth c H locs cells slots mc ms (F0 m pc ls st0) rest (Qc As.toArray) free :=
  W.runS ⟨hx, hb, hml, hown, hts⟩ hM (va_cwS 1 hts (x_g4 w_2_24 w_2_25 w_1_11 w_2_26) rfl rfl rfl (by decide +kernel) (x_room hh (by decide))) hp rfl hn hsize hst (lv_room hW) hdg hf
theorem k_Pattern_15 (hx : p.tables.exec = Jvm.exec) (hb : c.code = cc) (hml : c.maxLocals = nL) (hown : s.vm.findClass "DecisionLayers$Pattern" = some m.cls) (hts : ∀ w ∈ w_g, w.before args s = true) (hM : Met l y_Text_charAt [.code y_Text_charAt b_Text_charAt 3 (some .int)] (x_rm h mc ms) Pc Qc mc ms free) (hp : PreS s H Pc As) (hn : As.length = 2) (hsize : ls.size = nL) (hst : st0 = As.reverse ++ rest) (hW : (rest.map fun v => v.category).sum ≤ 8) (hdg : decode cc pc = .ok (.invokestatic 15, 3)) (hh : h + 1 ≤ hc) (hf : cells + mc ≤ MC ∧ slots + ms ≤ MS) : CallRun p l e (x_rm hc MC MS) s m args below meth c H locs cells slots mc ms (F0 m pc ls st0) rest (Qc As.toArray) free :=
  W.runS ⟨hx, hb, hml, hown, hts⟩ hM (va_cwS 2 hts (x_g4 w_2_28 w_2_29 w_1_11 w_2_30) rfl rfl rfl (by decide +kernel) (x_room hh (by decide))) hp rfl hn hsize hst (lv_room hW) hdg hf
theorem k_Pattern_19 (hx : p.tables.exec = Jvm.exec) (hb : c.code = cc) (hml : c.maxLocals = nL) (hown : s.vm.findClass "DecisionLayers$Pattern" = some m.cls) (hts : ∀ w ∈ w_g, w.before args s = true) (hM : Met l y_Pattern_meansSomething [.code y_Pattern_meansSomething b_Pattern_meansSomething 2 (some .boolean)] (x_rm h mc ms) Pc Qc mc ms free) (hp : PreS s H Pc As) (hn : As.length = 2) (hsize : ls.size = nL) (hst : st0 = As.reverse ++ rest) (hW : (rest.map fun v => v.category).sum ≤ 8) (hdg : decode cc pc = .ok (.invokestatic 19, 3)) (hh : h + 1 ≤ hc) (hf : cells + mc ≤ MC ∧ slots + ms ≤ MS) : CallRun p l e (x_rm hc MC MS) s m args below meth c H locs cells slots mc ms (F0 m pc ls st0) rest (Qc As.toArray) free :=
  W.runS ⟨hx, hb, hml, hown, hts⟩ hM (va_cwS 2 hts (x_g4 w_2_31 w_2_32 w_1_10 w_2_33) rfl rfl rfl (by decide +kernel) (x_room hh (by decide))) hp rfl hn hsize hst (lv_room hW) hdg hf
theorem k_Pattern_38 (hx : p.tables.exec = Jvm.exec) (hb : c.code = cc) (hml : c.maxLocals = nL) (hown : s.vm.findClass "DecisionLayers$Pattern" = some m.cls) (hts : ∀ w ∈ w_g, w.before args s = true) (hM : Met l y_Values_count [.code y_Values_count b_Values_count 2 (some .int)] (x_rm h mc ms) Pc Qc mc ms free) (hp : PreV s H "DecisionLayers$Values" b Pc As) (hn : As.length = 1) (hsize : ls.size = nL) (hst : st0 = As.reverse ++ .ref b :: rest) (hW : (rest.map fun v => v.category).sum ≤ 8) (hdg : decode cc pc = .ok (.invokevirtual 38, 3)) (hh : h + 1 ≤ hc) (hf : cells + mc ≤ MC ∧ slots + ms ≤ MS) : CallRun p l e (x_rm hc MC MS) s m args below meth c H locs cells slots mc ms (F0 m pc ls st0) rest (Qc (Value.ref b :: As).toArray) free :=
  W.runV ⟨hx, hb, hml, hown, hts⟩ hM (cwV 1 hts (x_g5 w_2_34 w_1_223 w_1_224 w_1_2 w_1_225) rfl rfl rfl (by decide +kernel) (x_room hh (by decide))) hp rfl hn hsize hst (lv_room hW) hdg hf
theorem k_Pattern_23 (hx : p.tables.exec = Jvm.exec) (hb : c.code = cc) (hml : c.maxLocals = nL) (hown : s.vm.findClass "DecisionLayers$Pattern" = some m.cls) (hts : ∀ w ∈ w_g, w.before args s = true) (hM : Met l y_Pattern_meaning [.code y_Pattern_meaning b_Pattern_meaning 2 (some .long)] (x_rm h mc ms) Pc Qc mc ms free) (hp : PreS s H Pc As) (hn : As.length = 2) (hsize : ls.size = nL) (hst : st0 = As.reverse ++ rest) (hW : (rest.map fun v => v.category).sum ≤ 8) (hdg : decode cc pc = .ok (.invokestatic 23, 3)) (hh : h + 1 ≤ hc) (hf : cells + mc ≤ MC ∧ slots + ms ≤ MS) : CallRun p l e (x_rm hc MC MS) s m args below meth c H locs cells slots mc ms (F0 m pc ls st0) rest (Qc As.toArray) free :=
  W.runS ⟨hx, hb, hml, hown, hts⟩ hM (va_cwS 2 hts (x_g4 w_2_35 w_2_36 w_1_10 w_2_37) rfl rfl rfl (by decide +kernel) (x_room hh (by decide))) hp rfl hn hsize hst (lv_room hW) hdg hf
theorem k_Pattern_44 (hx : p.tables.exec = Jvm.exec) (hb : c.code = cc) (hml : c.maxLocals = nL) (hown : s.vm.findClass "DecisionLayers$Pattern" = some m.cls) (hts : ∀ w ∈ w_g, w.before args s = true) (hM : Met l y_Values_isKey [.code y_Values_isKey b_Values_isKey 1 (some .boolean)] (x_rm h mc ms) Pc Qc mc ms free) (hp : PreS s H Pc As) (hn : As.length = 1) (hsize : ls.size = nL) (hst : st0 = As.reverse ++ rest) (hW : (rest.map fun v => v.category).sum ≤ 8) (hdg : decode cc pc = .ok (.invokestatic 44, 3)) (hh : h + 1 ≤ hc) (hf : cells + mc ≤ MC ∧ slots + ms ≤ MS) : CallRun p l e (x_rm hc MC MS) s m args below meth c H locs cells slots mc ms (F0 m pc ls st0) rest (Qc As.toArray) free :=
  W.runS ⟨hx, hb, hml, hown, hts⟩ hM (va_cwS 1 hts (x_g4 w_2_38 w_1_104 w_1_2 w_1_105) rfl rfl rfl (by decide +kernel) (x_room hh (by decide))) hp rfl hn hsize hst (lv_room hW) hdg hf
theorem k_Pattern_48 (hx : p.tables.exec = Jvm.exec) (hb : c.code = cc) (hml : c.maxLocals = nL) (hown : s.vm.findClass "DecisionLayers$Pattern" = some m.cls) (hts : ∀ w ∈ w_g, w.before args s = true) (hM : Met l y_Values_get [.code y_Values_get b_Values_get 3 (some .long)] (x_rm h mc ms) Pc Qc mc ms free) (hp : PreV s H "DecisionLayers$Values" b Pc As) (hn : As.length = 2) (hsize : ls.size = nL) (hst : st0 = As.reverse ++ .ref b :: rest) (hW : (rest.map fun v => v.category).sum ≤ 8) (hdg : decode cc pc = .ok (.invokevirtual 48, 3)) (hh : h + 1 ≤ hc) (hf : cells + mc ≤ MC ∧ slots + ms ≤ MS) : CallRun p l e (x_rm hc MC MS) s m args below meth c H locs cells slots mc ms (F0 m pc ls st0) rest (Qc (Value.ref b :: As).toArray) free :=
  W.runV ⟨hx, hb, hml, hown, hts⟩ hM (cwV 2 hts (x_g5 w_2_39 w_2_40 w_2_41 w_1_2 w_2_42) rfl rfl rfl (by decide +kernel) (x_room hh (by decide))) hp rfl hn hsize hst (lv_room hW) hdg hf
theorem k_Pattern_27 (hx : p.tables.exec = Jvm.exec) (hb : c.code = cc) (hml : c.maxLocals = nL) (hown : s.vm.findClass "DecisionLayers$Pattern" = some m.cls) (hts : ∀ w ∈ w_g, w.before args s = true) (hM : Met l y_Pattern_readText [.code y_Pattern_readText b_Pattern_readText 13 (some .int)] (x_rm h mc ms) Pc Qc mc ms free) (hp : PreS s H Pc As) (hn : As.length = 4) (hsize : ls.size = nL) (hst : st0 = As.reverse ++ rest) (hW : (rest.map fun v => v.category).sum ≤ 8) (hdg : decode cc pc = .ok (.invokestatic 27, 3)) (hh : h + 1 ≤ hc) (hf : cells + mc ≤ MC ∧ slots + ms ≤ MS) : CallRun p l e (x_rm hc MC MS) s m args below meth c H locs cells slots mc ms (F0 m pc ls st0) rest (Qc As.toArray) free :=
  W.runS ⟨hx, hb, hml, hown, hts⟩ hM (va_cwS 4 hts (x_g4 w_2_43 w_2_44 w_1_10 w_2_45) rfl rfl rfl (by decide +kernel) (x_room hh (by decide))) hp rfl hn hsize hst (lv_room hW) hdg hf
theorem k_Pattern_52 (hx : p.tables.exec = Jvm.exec) (hb : c.code = cc) (hml : c.maxLocals = nL) (hown : s.vm.findClass "DecisionLayers$Pattern" = some m.cls) (hts : ∀ w ∈ w_g, w.before args s = true) (hM : Met l y_Text_isAlike [.code y_Text_isAlike b_Text_isAlike 5 (some .boolean)] (x_rm h mc ms) Pc Qc mc ms free) (hp : PreS s H Pc As) (hn : As.length = 3) (hsize : ls.size = nL) (hst : st0 = As.reverse ++ rest) (hW : (rest.map fun v => v.category).sum ≤ 8) (hdg : decode cc pc = .ok (.invokestatic 52, 3)) (hh : h + 1 ≤ hc) (hf : cells + mc ≤ MC ∧ slots + ms ≤ MS) : CallRun p l e (x_rm hc MC MS) s m args below meth c H locs cells slots mc ms (F0 m pc ls st0) rest (Qc As.toArray) free :=
  W.runS ⟨hx, hb, hml, hown, hts⟩ hM (va_cwS 3 hts (x_g4 w_2_46 w_2_47 w_1_11 w_2_48) rfl rfl rfl (by decide +kernel) (x_room hh (by decide))) hp rfl hn hsize hst (lv_room hW) hdg hf
theorem k_Pattern_31 (hx : p.tables.exec = Jvm.exec) (hb : c.code = cc) (hml : c.maxLocals = nL) (hown : s.vm.findClass "DecisionLayers$Pattern" = some m.cls) (hts : ∀ w ∈ w_g, w.before args s = true) (hM : Met l y_Pattern_readAnyRow [.code y_Pattern_readAnyRow b_Pattern_readAnyRow 5 (some .int)] (x_rm h mc ms) Pc Qc mc ms free) (hp : PreS s H Pc As) (hn : As.length = 2) (hsize : ls.size = nL) (hst : st0 = As.reverse ++ rest) (hW : (rest.map fun v => v.category).sum ≤ 8) (hdg : decode cc pc = .ok (.invokestatic 31, 3)) (hh : h + 1 ≤ hc) (hf : cells + mc ≤ MC ∧ slots + ms ≤ MS) : CallRun p l e (x_rm hc MC MS) s m args below meth c H locs cells slots mc ms (F0 m pc ls st0) rest (Qc As.toArray) free :=
  W.runS ⟨hx, hb, hml, hown, hts⟩ hM (va_cwS 2 hts (x_g4 w_2_49 w_2_50 w_1_10 w_2_51) rfl rfl rfl (by decide +kernel) (x_room hh (by decide))) hp rfl hn hsize hst (lv_room hW) hdg hf
theorem k_Pattern_35 (hx : p.tables.exec = Jvm.exec) (hb : c.code = cc) (hml : c.maxLocals = nL) (hown : s.vm.findClass "DecisionLayers$Pattern" = some m.cls) (hts : ∀ w ∈ w_g, w.before args s = true) (hM : Met l y_Pattern_readAnyOne [.code y_Pattern_readAnyOne b_Pattern_readAnyOne 4 (some .int)] (x_rm h mc ms) Pc Qc mc ms free) (hp : PreS s H Pc As) (hn : As.length = 2) (hsize : ls.size = nL) (hst : st0 = As.reverse ++ rest) (hW : (rest.map fun v => v.category).sum ≤ 8) (hdg : decode cc pc = .ok (.invokestatic 35, 3)) (hh : h + 1 ≤ hc) (hf : cells + mc ≤ MC ∧ slots + ms ≤ MS) : CallRun p l e (x_rm hc MC MS) s m args below meth c H locs cells slots mc ms (F0 m pc ls st0) rest (Qc As.toArray) free :=
  W.runS ⟨hx, hb, hml, hown, hts⟩ hM (va_cwS 2 hts (x_g4 w_2_52 w_2_53 w_1_10 w_2_54) rfl rfl rfl (by decide +kernel) (x_room hh (by decide))) hp rfl hn hsize hst (lv_room hW) hdg hf
theorem k_Statement_37_Test (hx : p.tables.exec = Jvm.exec) (hb : c.code = cc) (hml : c.maxLocals = nL) (hown : s.vm.findClass "DecisionLayers$Statement" = some m.cls) (hts : ∀ w ∈ w_g, w.before args s = true) (hE : x_E D cA s) (hM : Met l y_Test_isMet [.code y_Test_isMet b_Test_isMet 7 (some .boolean)] (x_rm h mc ms) Pc Qc mc ms free) (hp : PreV s H "DecisionLayers$Test" b Pc As) (hn : As.length = 1) (hsize : ls.size = nL) (hst : st0 = As.reverse ++ .ref b :: rest) (hW : (rest.map fun v => v.category).sum ≤ 8) (hdg : decode cc pc = .ok (.invokevirtual 37, 3)) (hh : h + 1 ≤ hc) (hf : cells + mc ≤ MC ∧ slots + ms ≤ MS) : CallRun p l e (x_rm hc MC MS) s m args below meth c H locs cells slots mc ms (F0 m pc ls st0) rest (Qc (Value.ref b :: As).toArray) free :=
  (va_runU ⟨hx, hb, hml, hown, hts⟩ hM (va_cwA (own := "DecisionLayers$Statement") (C := "DecisionLayers$Test") (owner := "DecisionLayers$Condition") (index := 37) (x := y_Condition_isMet) 1 hts (x_g6 w_2_55 w_2_57 w_2_84 w_2_62 w_1_7 w_2_63) rfl rfl rfl hE.2.1.2.2.2.2.2.1 (by decide +kernel) (x_room hh (by decide))) hp rfl hn hsize hst (lv_room hW) hdg hf).run
theorem k_Statement_37_Joined (hx : p.tables.exec = Jvm.exec) (hb : c.code = cc) (hml : c.maxLocals = nL) (hown : s.vm.findClass "DecisionLayers$Statement" = some m.cls) (hts : ∀ w ∈ w_g, w.before args s = true) (hE : x_E D cA s) (hM : Met l y_Joined_isMet [.code y_Joined_isMet b_Joined_isMet 5 (some .boolean)] (x_rm h mc ms) Pc Qc mc ms free) (hp : PreV s H "DecisionLayers$Joined" b Pc As) (hn : As.length = 1) (hsize : ls.size = nL) (hst : st0 = As.reverse ++ .ref b :: rest) (hW : (rest.map fun v => v.category).sum ≤ 8) (hdg : decode cc pc = .ok (.invokevirtual 37, 3)) (hh : h + 1 ≤ hc) (hf : cells + mc ≤ MC ∧ slots + ms ≤ MS) : CallRun p l e (x_rm hc MC MS) s m args below meth c H locs cells slots mc ms (F0 m pc ls st0) rest (Qc (Value.ref b :: As).toArray) free :=
  (va_runU ⟨hx, hb, hml, hown, hts⟩ hM (va_cwA (own := "DecisionLayers$Statement") (C := "DecisionLayers$Joined") (owner := "DecisionLayers$Condition") (index := 37) (x := y_Condition_isMet) 1 hts (x_g6 w_2_55 w_2_57 w_2_58 w_2_59 w_1_9 w_2_60) rfl rfl rfl hE.2.1.2.2.2.2.2.1 (by decide +kernel) (x_room hh (by decide))) hp rfl hn hsize hst (lv_room hW) hdg hf).run
theorem k_Joined_17_Test (hx : p.tables.exec = Jvm.exec) (hb : c.code = cc) (hml : c.maxLocals = nL) (hown : s.vm.findClass "DecisionLayers$Joined" = some m.cls) (hts : ∀ w ∈ w_g, w.before args s = true) (hE : x_E D cA s) (hM : Met l y_Test_isMet [.code y_Test_isMet b_Test_isMet 7 (some .boolean)] (x_rm h mc ms) Pc Qc mc ms free) (hp : PreV s H "DecisionLayers$Test" b Pc As) (hn : As.length = 1) (hsize : ls.size = nL) (hst : st0 = As.reverse ++ .ref b :: rest) (hW : (rest.map fun v => v.category).sum ≤ 8) (hdg : decode cc pc = .ok (.invokevirtual 17, 3)) (hh : h + 1 ≤ hc) (hf : cells + mc ≤ MC ∧ slots + ms ≤ MS) : CallRun p l e (x_rm hc MC MS) s m args below meth c H locs cells slots mc ms (F0 m pc ls st0) rest (Qc (Value.ref b :: As).toArray) free :=
  (va_runU ⟨hx, hb, hml, hown, hts⟩ hM (va_cwA (own := "DecisionLayers$Joined") (C := "DecisionLayers$Test") (owner := "DecisionLayers$Condition") (index := 17) (x := y_Condition_isMet) 1 hts (x_g6 w_2_61 w_2_57 w_2_84 w_2_62 w_1_7 w_2_63) rfl rfl rfl hE.2.1.2.2.2.2.2.1 (by decide +kernel) (x_room hh (by decide))) hp rfl hn hsize hst (lv_room hW) hdg hf).run
theorem k_Joined_17_Joined (hx : p.tables.exec = Jvm.exec) (hb : c.code = cc) (hml : c.maxLocals = nL) (hown : s.vm.findClass "DecisionLayers$Joined" = some m.cls) (hts : ∀ w ∈ w_g, w.before args s = true) (hE : x_E D cA s) (hM : Met l y_Joined_isMet [.code y_Joined_isMet b_Joined_isMet 5 (some .boolean)] (x_rm h mc ms) Pc Qc mc ms free) (hp : PreV s H "DecisionLayers$Joined" b Pc As) (hn : As.length = 1) (hsize : ls.size = nL) (hst : st0 = As.reverse ++ .ref b :: rest) (hW : (rest.map fun v => v.category).sum ≤ 8) (hdg : decode cc pc = .ok (.invokevirtual 17, 3)) (hh : h + 1 ≤ hc) (hf : cells + mc ≤ MC ∧ slots + ms ≤ MS) : CallRun p l e (x_rm hc MC MS) s m args below meth c H locs cells slots mc ms (F0 m pc ls st0) rest (Qc (Value.ref b :: As).toArray) free :=
  (va_runU ⟨hx, hb, hml, hown, hts⟩ hM (va_cwA (own := "DecisionLayers$Joined") (C := "DecisionLayers$Joined") (owner := "DecisionLayers$Condition") (index := 17) (x := y_Condition_isMet) 1 hts (x_g6 w_2_61 w_2_57 w_2_58 w_2_59 w_1_9 w_2_60) rfl rfl rfl hE.2.1.2.2.2.2.2.1 (by decide +kernel) (x_room hh (by decide))) hp rfl hn hsize hst (lv_room hW) hdg hf).run
theorem k_Test_23 (hx : p.tables.exec = Jvm.exec) (hb : c.code = cc) (hml : c.maxLocals = nL) (hown : s.vm.findClass "DecisionLayers$Test" = some m.cls) (hts : ∀ w ∈ w_g, w.before args s = true) (hM : Met l y_Values_count [.code y_Values_count b_Values_count 2 (some .int)] (x_rm h mc ms) Pc Qc mc ms free) (hp : PreV s H "DecisionLayers$Values" b Pc As) (hn : As.length = 1) (hsize : ls.size = nL) (hst : st0 = As.reverse ++ .ref b :: rest) (hW : (rest.map fun v => v.category).sum ≤ 8) (hdg : decode cc pc = .ok (.invokevirtual 23, 3)) (hh : h + 1 ≤ hc) (hf : cells + mc ≤ MC ∧ slots + ms ≤ MS) : CallRun p l e (x_rm hc MC MS) s m args below meth c H locs cells slots mc ms (F0 m pc ls st0) rest (Qc (Value.ref b :: As).toArray) free :=
  W.runV ⟨hx, hb, hml, hown, hts⟩ hM (cwV 1 hts (x_g5 w_2_64 w_1_223 w_1_224 w_1_2 w_1_225) rfl rfl rfl (by decide +kernel) (x_room hh (by decide))) hp rfl hn hsize hst (lv_room hW) hdg hf
theorem k_Test_29 (hx : p.tables.exec = Jvm.exec) (hb : c.code = cc) (hml : c.maxLocals = nL) (hown : s.vm.findClass "DecisionLayers$Test" = some m.cls) (hts : ∀ w ∈ w_g, w.before args s = true) (hM : Met l y_Values_get [.code y_Values_get b_Values_get 3 (some .long)] (x_rm h mc ms) Pc Qc mc ms free) (hp : PreV s H "DecisionLayers$Values" b Pc As) (hn : As.length = 2) (hsize : ls.size = nL) (hst : st0 = As.reverse ++ .ref b :: rest) (hW : (rest.map fun v => v.category).sum ≤ 8) (hdg : decode cc pc = .ok (.invokevirtual 29, 3)) (hh : h + 1 ≤ hc) (hf : cells + mc ≤ MC ∧ slots + ms ≤ MS) : CallRun p l e (x_rm hc MC MS) s m args below meth c H locs cells slots mc ms (F0 m pc ls st0) rest (Qc (Value.ref b :: As).toArray) free :=
  W.runV ⟨hx, hb, hml, hown, hts⟩ hM (cwV 2 hts (x_g5 w_2_65 w_2_40 w_2_41 w_1_2 w_2_42) rfl rfl rfl (by decide +kernel) (x_room hh (by decide))) hp rfl hn hsize hst (lv_room hW) hdg hf
theorem k_Test_33 (hx : p.tables.exec = Jvm.exec) (hb : c.code = cc) (hml : c.maxLocals = nL) (hown : s.vm.findClass "DecisionLayers$Test" = some m.cls) (hts : ∀ w ∈ w_g, w.before args s = true) (hM : Met l y_Test_saysYes [.code y_Test_saysYes b_Test_saysYes 4 (some .boolean)] (x_rm h mc ms) Pc Qc mc ms free) (hp : PreV s H "DecisionLayers$Test" b Pc As) (hn : As.length = 2) (hsize : ls.size = nL) (hst : st0 = As.reverse ++ .ref b :: rest) (hW : (rest.map fun v => v.category).sum ≤ 8) (hdg : decode cc pc = .ok (.invokevirtual 33, 3)) (hh : h + 1 ≤ hc) (hf : cells + mc ≤ MC ∧ slots + ms ≤ MS) : CallRun p l e (x_rm hc MC MS) s m args below meth c H locs cells slots mc ms (F0 m pc ls st0) rest (Qc (Value.ref b :: As).toArray) free :=
  W.runV ⟨hx, hb, hml, hown, hts⟩ hM (cwV 2 hts (x_g5 w_2_66 w_2_68 w_0_4 w_1_7 w_2_69) rfl rfl rfl (by decide +kernel) (x_room hh (by decide))) hp rfl hn hsize hst (lv_room hW) hdg hf
theorem k_Test_37 (hx : p.tables.exec = Jvm.exec) (hb : c.code = cc) (hml : c.maxLocals = nL) (hown : s.vm.findClass "DecisionLayers$Test" = some m.cls) (hts : ∀ w ∈ w_g, w.before args s = true) (hM : Met l y_Text_isSame [.code y_Text_isSame b_Text_isSame 6 (some .boolean)] (x_rm h mc ms) Pc Qc mc ms free) (hp : PreS s H Pc As) (hn : As.length = 2) (hsize : ls.size = nL) (hst : st0 = As.reverse ++ rest) (hW : (rest.map fun v => v.category).sum ≤ 8) (hdg : decode cc pc = .ok (.invokestatic 37, 3)) (hh : h + 1 ≤ hc) (hf : cells + mc ≤ MC ∧ slots + ms ≤ MS) : CallRun p l e (x_rm hc MC MS) s m args below meth c H locs cells slots mc ms (F0 m pc ls st0) rest (Qc As.toArray) free :=
  W.runS ⟨hx, hb, hml, hown, hts⟩ hM (va_cwS 2 hts (x_g4 w_2_70 w_2_71 w_1_11 w_2_72) rfl rfl rfl (by decide +kernel) (x_room hh (by decide))) hp rfl hn hsize hst (lv_room hW) hdg hf
theorem k_Text_11 (hx : p.tables.exec = Jvm.exec) (hb : c.code = cc) (hml : c.maxLocals = nL) (hown : s.vm.findClass "DecisionLayers$Text" = some m.cls) (hts : ∀ w ∈ w_g, w.before args s = true) (hM : Met l y_Text_length [.code y_Text_length b_Text_length 3 (some .int)] (x_rm h mc ms) Pc Qc mc ms free) (hp : PreS s H Pc As) (hn : As.length = 1) (hsize : ls.size = nL) (hst : st0 = As.reverse ++ rest) (hW : (rest.map fun v => v.category).sum ≤ 8) (hdg : decode cc pc = .ok (.invokestatic 11, 3)) (hh : h + 1 ≤ hc) (hf : cells + mc ≤ MC ∧ slots + ms ≤ MS) : CallRun p l e (x_rm hc MC MS) s m args below meth c H locs cells slots mc ms (F0 m pc ls st0) rest (Qc As.toArray) free :=
  W.runS ⟨hx, hb, hml, hown, hts⟩ hM (va_cwS 1 hts (x_g4 w_2_73 w_2_25 w_1_11 w_2_26) rfl rfl rfl (by decide +kernel) (x_room hh (by decide))) hp rfl hn hsize hst (lv_room hW) hdg hf
theorem k_Text_15 (hx : p.tables.exec = Jvm.exec) (hb : c.code = cc) (hml : c.maxLocals = nL) (hown : s.vm.findClass "DecisionLayers$Text" = some m.cls) (hts : ∀ w ∈ w_g, w.before args s = true) (hM : Met l y_Text_charAt [.code y_Text_charAt b_Text_charAt 3 (some .int)] (x_rm h mc ms) Pc Qc mc ms free) (hp : PreS s H Pc As) (hn : As.length = 2) (hsize : ls.size = nL) (hst : st0 = As.reverse ++ rest) (hW : (rest.map fun v => v.category).sum ≤ 8) (hdg : decode cc pc = .ok (.invokestatic 15, 3)) (hh : h + 1 ≤ hc) (hf : cells + mc ≤ MC ∧ slots + ms ≤ MS) : CallRun p l e (x_rm hc MC MS) s m args below meth c H locs cells slots mc ms (F0 m pc ls st0) rest (Qc As.toArray) free :=
  W.runS ⟨hx, hb, hml, hown, hts⟩ hM (va_cwS 2 hts (x_g4 w_2_74 w_2_29 w_1_11 w_2_30) rfl rfl rfl (by decide +kernel) (x_room hh (by decide))) hp rfl hn hsize hst (lv_room hW) hdg hf
theorem k_Test_43 (hx : p.tables.exec = Jvm.exec) (hb : c.code = cc) (hml : c.maxLocals = nL) (hown : s.vm.findClass "DecisionLayers$Test" = some m.cls) (hts : ∀ w ∈ w_g, w.before args s = true) (hM : Met l y_Pattern_fits [.code y_Pattern_fits b_Pattern_fits 11 (some .boolean)] (x_rm h mc ms) Pc Qc mc ms free) (hp : PreS s H Pc As) (hn : As.length = 4) (hsize : ls.size = nL) (hst : st0 = As.reverse ++ rest) (hW : (rest.map fun v => v.category).sum ≤ 8) (hdg : decode cc pc = .ok (.invokestatic 43, 3)) (hh : h + 1 ≤ hc) (hf : cells + mc ≤ MC ∧ slots + ms ≤ MS) : CallRun p l e (x_rm hc MC MS) s m args below meth c H locs cells slots mc ms (F0 m pc ls st0) rest (Qc As.toArray) free :=
  W.runS ⟨hx, hb, hml, hown, hts⟩ hM (va_cwS 4 hts (x_g4 w_2_75 w_2_22 w_1_10 w_2_23) rfl rfl rfl (by decide +kernel) (x_room hh (by decide))) hp rfl hn hsize hst (lv_room hW) hdg hf
theorem k_Test_49 (hx : p.tables.exec = Jvm.exec) (hb : c.code = cc) (hml : c.maxLocals = nL) (hown : s.vm.findClass "DecisionLayers$Test" = some m.cls) (hts : ∀ w ∈ w_g, w.before args s = true) (hM : Met l y_Test_hasPrefix [.code y_Test_hasPrefix b_Test_hasPrefix 6 (some .boolean)] (x_rm h mc ms) Pc Qc mc ms free) (hp : PreV s H "DecisionLayers$Test" b Pc As) (hn : As.length = 1) (hsize : ls.size = nL) (hst : st0 = As.reverse ++ .ref b :: rest) (hW : (rest.map fun v => v.category).sum ≤ 8) (hdg : decode cc pc = .ok (.invokevirtual 49, 3)) (hh : h + 1 ≤ hc) (hf : cells + mc ≤ MC ∧ slots + ms ≤ MS) : CallRun p l e (x_rm hc MC MS) s m args below meth c H locs cells slots mc ms (F0 m pc ls st0) rest (Qc (Value.ref b :: As).toArray) free :=
  W.runV ⟨hx, hb, hml, hown, hts⟩ hM (cwV 1 hts (x_g5 w_2_76 w_2_78 w_0_5 w_1_7 w_2_79) rfl rfl rfl (by decide +kernel) (x_room hh (by decide))) hp rfl hn hsize hst (lv_room hW) hdg hf
theorem k_DL_107 (hx : p.tables.exec = Jvm.exec) (hb : c.code = cc) (hml : c.maxLocals = nL) (hown : s.vm.findClass "DecisionLayers" = some m.cls) (hts : ∀ w ∈ w_g, w.before args s = true) (hM : Met l y_DL_conclude [.code y_DL_conclude b_DL_conclude 4 (some .int)] (x_rm h mc ms) Pc Qc mc ms free) (hp : PreV s H "DecisionLayers" b Pc As) (hn : As.length = 2) (hsize : ls.size = nL) (hst : st0 = As.reverse ++ .ref b :: rest) (hW : (rest.map fun v => v.category).sum ≤ 8) (hdg : decode cc pc = .ok (.invokevirtual 107, 3)) (hh : h + 1 ≤ hc) (hf : cells + mc ≤ MC ∧ slots + ms ≤ MS) : CallRun p l e (x_rm hc MC MS) s m args below meth c H locs cells slots mc ms (F0 m pc ls st0) rest (Qc (Value.ref b :: As).toArray) free :=
  W.runV ⟨hx, hb, hml, hown, hts⟩ hM (cwV 2 hts (x_g5 w_2_85 w_2_87 w_0_6 w_1_1 w_2_88) rfl rfl rfl (by decide +kernel) (x_room hh (by decide))) hp rfl hn hsize hst (lv_room hW) hdg hf
theorem k_DL_135 (hx : p.tables.exec = Jvm.exec) (hb : c.code = cc) (hml : c.maxLocals = nL) (hown : s.vm.findClass "DecisionLayers" = some m.cls) (hts : ∀ w ∈ w_g, w.before args s = true) (hM : Met l y_Layer_denies [.code y_Layer_denies b_Layer_denies 1 (some .boolean)] (x_rm h mc ms) Pc Qc mc ms free) (hp : PreV s H "DecisionLayers$Layer" b Pc As) (hn : As.length = 0) (hsize : ls.size = nL) (hst : st0 = As.reverse ++ .ref b :: rest) (hW : (rest.map fun v => v.category).sum ≤ 8) (hdg : decode cc pc = .ok (.invokevirtual 135, 3)) (hh : h + 1 ≤ hc) (hf : cells + mc ≤ MC ∧ slots + ms ≤ MS) : CallRun p l e (x_rm hc MC MS) s m args below meth c H locs cells slots mc ms (F0 m pc ls st0) rest (Qc (Value.ref b :: As).toArray) free :=
  W.runV ⟨hx, hb, hml, hown, hts⟩ hM (cwV 0 hts (x_g5 w_2_89 w_2_90 w_2_91 w_1_3 w_2_92) rfl rfl rfl (by decide +kernel) (x_room hh (by decide))) hp rfl hn hsize hst (lv_room hW) hdg hf
theorem k_Layer_37 (hx : p.tables.exec = Jvm.exec) (hb : c.code = cc) (hml : c.maxLocals = nL) (hown : s.vm.findClass "DecisionLayers$Layer" = some m.cls) (hts : ∀ w ∈ w_g, w.before args s = true) (hM : Met l y_Layer_hasJudged [.code y_Layer_hasJudged b_Layer_hasJudged 3 (some .boolean)] (x_rm h mc ms) Pc Qc mc ms free) (hp : PreV s H "DecisionLayers$Layer" b Pc As) (hn : As.length = 1) (hsize : ls.size = nL) (hst : st0 = As.reverse ++ .ref b :: rest) (hW : (rest.map fun v => v.category).sum ≤ 8) (hdg : decode cc pc = .ok (.invokevirtual 37, 3)) (hh : h + 1 ≤ hc) (hf : cells + mc ≤ MC ∧ slots + ms ≤ MS) : CallRun p l e (x_rm hc MC MS) s m args below meth c H locs cells slots mc ms (F0 m pc ls st0) rest (Qc (Value.ref b :: As).toArray) free :=
  W.runV ⟨hx, hb, hml, hown, hts⟩ hM (cwV 1 hts (x_g5 w_2_93 w_2_95 w_0_7 w_1_3 w_2_96) rfl rfl rfl (by decide +kernel) (x_room hh (by decide))) hp rfl hn hsize hst (lv_room hW) hdg hf
theorem k_Layer_45 (hx : p.tables.exec = Jvm.exec) (hb : c.code = cc) (hml : c.maxLocals = nL) (hown : s.vm.findClass "DecisionLayers$Layer" = some m.cls) (hts : ∀ w ∈ w_g, w.before args s = true) (hM : Met l y_Layer_isJudged [.code y_Layer_isJudged b_Layer_isJudged 2 (some .boolean)] (x_rm h mc ms) Pc Qc mc ms free) (hp : PreV s H "DecisionLayers$Layer" b Pc As) (hn : As.length = 1) (hsize : ls.size = nL) (hst : st0 = As.reverse ++ .ref b :: rest) (hW : (rest.map fun v => v.category).sum ≤ 8) (hdg : decode cc pc = .ok (.invokevirtual 45, 3)) (hh : h + 1 ≤ hc) (hf : cells + mc ≤ MC ∧ slots + ms ≤ MS) : CallRun p l e (x_rm hc MC MS) s m args below meth c H locs cells slots mc ms (F0 m pc ls st0) rest (Qc (Value.ref b :: As).toArray) free :=
  W.runV ⟨hx, hb, hml, hown, hts⟩ hM (cwV 1 hts (x_g5 w_2_97 w_2_99 w_0_8 w_1_3 w_2_100) rfl rfl rfl (by decide +kernel) (x_room hh (by decide))) hp rfl hn hsize hst (lv_room hW) hdg hf
theorem k_Layer_49 (hx : p.tables.exec = Jvm.exec) (hb : c.code = cc) (hml : c.maxLocals = nL) (hown : s.vm.findClass "DecisionLayers$Layer" = some m.cls) (hts : ∀ w ∈ w_g, w.before args s = true) (hM : Met l y_Statement_isDenying [.code y_Statement_isDenying b_Statement_isDenying 1 (some .boolean)] (x_rm h mc ms) Pc Qc mc ms free) (hp : PreV s H "DecisionLayers$Statement" b Pc As) (hn : As.length = 0) (hsize : ls.size = nL) (hst : st0 = As.reverse ++ .ref b :: rest) (hW : (rest.map fun v => v.category).sum ≤ 8) (hdg : decode cc pc = .ok (.invokevirtual 49, 3)) (hh : h + 1 ≤ hc) (hf : cells + mc ≤ MC ∧ slots + ms ≤ MS) : CallRun p l e (x_rm hc MC MS) s m args below meth c H locs cells slots mc ms (F0 m pc ls st0) rest (Qc (Value.ref b :: As).toArray) free :=
  W.runV ⟨hx, hb, hml, hown, hts⟩ hM (cwV 0 hts (x_g5 w_2_101 w_2_102 w_2_103 w_1_4 w_2_104) rfl rfl rfl (by decide +kernel) (x_room hh (by decide))) hp rfl hn hsize hst (lv_room hW) hdg hf
theorem k_DL_138 (hx : p.tables.exec = Jvm.exec) (hb : c.code = cc) (hml : c.maxLocals = nL) (hown : s.vm.findClass "DecisionLayers" = some m.cls) (hts : ∀ w ∈ w_g, w.before args s = true) (hM : Met l y_DL_settle [.code y_DL_settle b_DL_settle 3 (some .int)] (x_rm h mc ms) Pc Qc mc ms free) (hp : PreV s H "DecisionLayers" b Pc As) (hn : As.length = 2) (hsize : ls.size = nL) (hst : st0 = As.reverse ++ .ref b :: rest) (hW : (rest.map fun v => v.category).sum ≤ 8) (hdg : decode cc pc = .ok (.invokevirtual 138, 3)) (hh : h + 1 ≤ hc) (hf : cells + mc ≤ MC ∧ slots + ms ≤ MS) : CallRun p l e (x_rm hc MC MS) s m args below meth c H locs cells slots mc ms (F0 m pc ls st0) rest (Qc (Value.ref b :: As).toArray) free :=
  W.runV ⟨hx, hb, hml, hown, hts⟩ hM (cwV 2 hts (x_g5 w_2_105 w_2_107 w_0_9 w_1_1 w_2_108) rfl rfl rfl (by decide +kernel) (x_room hh (by decide))) hp rfl hn hsize hst (lv_room hW) hdg hf
theorem k_DL_141 (hx : p.tables.exec = Jvm.exec) (hb : c.code = cc) (hml : c.maxLocals = nL) (hown : s.vm.findClass "DecisionLayers" = some m.cls) (hts : ∀ w ∈ w_g, w.before args s = true) (hM : Met l y_Layer_bars [.code y_Layer_bars b_Layer_bars 1 (some .boolean)] (x_rm h mc ms) Pc Qc mc ms free) (hp : PreV s H "DecisionLayers$Layer" b Pc As) (hn : As.length = 0) (hsize : ls.size = nL) (hst : st0 = As.reverse ++ .ref b :: rest) (hW : (rest.map fun v => v.category).sum ≤ 8) (hdg : decode cc pc = .ok (.invokevirtual 141, 3)) (hh : h + 1 ≤ hc) (hf : cells + mc ≤ MC ∧ slots + ms ≤ MS) : CallRun p l e (x_rm hc MC MS) s m args below meth c H locs cells slots mc ms (F0 m pc ls st0) rest (Qc (Value.ref b :: As).toArray) free :=
  W.runV ⟨hx, hb, hml, hown, hts⟩ hM (cwV 0 hts (x_g5 w_2_109 w_2_110 w_2_111 w_1_3 w_2_112) rfl rfl rfl (by decide +kernel) (x_room hh (by decide))) hp rfl hn hsize hst (lv_room hW) hdg hf
theorem k_Layer_41 (hx : p.tables.exec = Jvm.exec) (hb : c.code = cc) (hml : c.maxLocals = nL) (hown : s.vm.findClass "DecisionLayers$Layer" = some m.cls) (hts : ∀ w ∈ w_g, w.before args s = true) (hM : Met l y_Layer_allows [.code y_Layer_allows b_Layer_allows 1 (some .boolean)] (x_rm h mc ms) Pc Qc mc ms free) (hp : PreV s H "DecisionLayers$Layer" b Pc As) (hn : As.length = 0) (hsize : ls.size = nL) (hst : st0 = As.reverse ++ .ref b :: rest) (hW : (rest.map fun v => v.category).sum ≤ 8) (hdg : decode cc pc = .ok (.invokevirtual 41, 3)) (hh : h + 1 ≤ hc) (hf : cells + mc ≤ MC ∧ slots + ms ≤ MS) : CallRun p l e (x_rm hc MC MS) s m args below meth c H locs cells slots mc ms (F0 m pc ls st0) rest (Qc (Value.ref b :: As).toArray) free :=
  W.runV ⟨hx, hb, hml, hown, hts⟩ hM (cwV 0 hts (x_g5 w_2_113 w_2_114 w_2_115 w_1_3 w_2_116) rfl rfl rfl (by decide +kernel) (x_room hh (by decide))) hp rfl hn hsize hst (lv_room hW) hdg hf
theorem k_DL_144 (hx : p.tables.exec = Jvm.exec) (hb : c.code = cc) (hml : c.maxLocals = nL) (hown : s.vm.findClass "DecisionLayers" = some m.cls) (hts : ∀ w ∈ w_g, w.before args s = true) (hM : Met l y_Layer_allowsByName [.code y_Layer_allowsByName b_Layer_allowsByName 3 (some .boolean)] (x_rm h mc ms) Pc Qc mc ms free) (hp : PreV s H "DecisionLayers$Layer" b Pc As) (hn : As.length = 1) (hsize : ls.size = nL) (hst : st0 = As.reverse ++ .ref b :: rest) (hW : (rest.map fun v => v.category).sum ≤ 8) (hdg : decode cc pc = .ok (.invokevirtual 144, 3)) (hh : h + 1 ≤ hc) (hf : cells + mc ≤ MC ∧ slots + ms ≤ MS) : CallRun p l e (x_rm hc MC MS) s m args below meth c H locs cells slots mc ms (F0 m pc ls st0) rest (Qc (Value.ref b :: As).toArray) free :=
  W.runV ⟨hx, hb, hml, hown, hts⟩ hM (cwV 1 hts (x_g5 w_2_117 w_2_118 w_2_119 w_1_3 w_2_120) rfl rfl rfl (by decide +kernel) (x_room hh (by decide))) hp rfl hn hsize hst (lv_room hW) hdg hf
theorem k_Layer_52 (hx : p.tables.exec = Jvm.exec) (hb : c.code = cc) (hml : c.maxLocals = nL) (hown : s.vm.findClass "DecisionLayers$Layer" = some m.cls) (hts : ∀ w ∈ w_g, w.before args s = true) (hM : Met l y_Statement_names [.code y_Statement_names b_Statement_names 2 (some .boolean)] (x_rm h mc ms) Pc Qc mc ms free) (hp : PreV s H "DecisionLayers$Statement" b Pc As) (hn : As.length = 1) (hsize : ls.size = nL) (hst : st0 = As.reverse ++ .ref b :: rest) (hW : (rest.map fun v => v.category).sum ≤ 8) (hdg : decode cc pc = .ok (.invokevirtual 52, 3)) (hh : h + 1 ≤ hc) (hf : cells + mc ≤ MC ∧ slots + ms ≤ MS) : CallRun p l e (x_rm hc MC MS) s m args below meth c H locs cells slots mc ms (F0 m pc ls st0) rest (Qc (Value.ref b :: As).toArray) free :=
  W.runV ⟨hx, hb, hml, hown, hts⟩ hM (cwV 1 hts (x_g5 w_2_121 w_2_122 w_2_123 w_1_4 w_2_124) rfl rfl rfl (by decide +kernel) (x_room hh (by decide))) hp rfl hn hsize hst (lv_room hW) hdg hf
theorem k_DL_147 (hx : p.tables.exec = Jvm.exec) (hb : c.code = cc) (hml : c.maxLocals = nL) (hown : s.vm.findClass "DecisionLayers" = some m.cls) (hts : ∀ w ∈ w_g, w.before args s = true) (hM : Met l y_DL_concludeFromGrants [.code y_DL_concludeFromGrants b_DL_concludeFromGrants 5 (some .int)] (x_rm h mc ms) Pc Qc mc ms free) (hp : PreV s H "DecisionLayers" b Pc As) (hn : As.length = 1) (hsize : ls.size = nL) (hst : st0 = As.reverse ++ .ref b :: rest) (hW : (rest.map fun v => v.category).sum ≤ 8) (hdg : decode cc pc = .ok (.invokevirtual 147, 3)) (hh : h + 1 ≤ hc) (hf : cells + mc ≤ MC ∧ slots + ms ≤ MS) : CallRun p l e (x_rm hc MC MS) s m args below meth c H locs cells slots mc ms (F0 m pc ls st0) rest (Qc (Value.ref b :: As).toArray) free :=
  W.runV ⟨hx, hb, hml, hown, hts⟩ hM (cwV 1 hts (x_g5 w_2_125 w_2_127 w_0_10 w_1_1 w_2_128) rfl rfl rfl (by decide +kernel) (x_room hh (by decide))) hp rfl hn hsize hst (lv_room hW) hdg hf
theorem k_DL_151 (hx : p.tables.exec = Jvm.exec) (hb : c.code = cc) (hml : c.maxLocals = nL) (hown : s.vm.findClass "DecisionLayers" = some m.cls) (hts : ∀ w ∈ w_g, w.before args s = true) (hM : Met l y_Layer_allows [.code y_Layer_allows b_Layer_allows 1 (some .boolean)] (x_rm h mc ms) Pc Qc mc ms free) (hp : PreV s H "DecisionLayers$Layer" b Pc As) (hn : As.length = 0) (hsize : ls.size = nL) (hst : st0 = As.reverse ++ .ref b :: rest) (hW : (rest.map fun v => v.category).sum ≤ 8) (hdg : decode cc pc = .ok (.invokevirtual 151, 3)) (hh : h + 1 ≤ hc) (hf : cells + mc ≤ MC ∧ slots + ms ≤ MS) : CallRun p l e (x_rm hc MC MS) s m args below meth c H locs cells slots mc ms (F0 m pc ls st0) rest (Qc (Value.ref b :: As).toArray) free :=
  W.runV ⟨hx, hb, hml, hown, hts⟩ hM (cwV 0 hts (x_g5 w_2_129 w_2_114 w_2_115 w_1_3 w_2_116) rfl rfl rfl (by decide +kernel) (x_room hh (by decide))) hp rfl hn hsize hst (lv_room hW) hdg hf
theorem k_Law_67 (hx : p.tables.exec = Jvm.exec) (hb : c.code = cc) (hml : c.maxLocals = nL) (hown : s.vm.findClass "DecisionLayersLaw" = some m.cls) (hts : ∀ w ∈ w_g, w.before args s = true) (hM : Met l y_DL_layer [.code y_DL_layer b_DL_layer 1 (some .int)] (x_rm h mc ms) Pc Qc mc ms free) (hp : PreV s H "DecisionLayers" b Pc As) (hn : As.length = 0) (hsize : ls.size = nL) (hst : st0 = As.reverse ++ .ref b :: rest) (hW : (rest.map fun v => v.category).sum ≤ 8) (hdg : decode cc pc = .ok (.invokevirtual 67, 3)) (hh : h + 1 ≤ hc) (hf : cells + mc ≤ MC ∧ slots + ms ≤ MS) : CallRun p l e (x_rm hc MC MS) s m args below meth c H locs cells slots mc ms (F0 m pc ls st0) rest (Qc (Value.ref b :: As).toArray) free :=
  W.runV ⟨hx, hb, hml, hown, hts⟩ hM (cwV 0 hts (x_g5 w_2_130 w_2_131 w_2_132 w_1_1 w_2_133) rfl rfl rfl (by decide +kernel) (x_room hh (by decide))) hp rfl hn hsize hst (lv_room hW) hdg hf
theorem k_Law_71 (hx : p.tables.exec = Jvm.exec) (hb : c.code = cc) (hml : c.maxLocals = nL) (hown : s.vm.findClass "DecisionLayersLaw" = some m.cls) (hts : ∀ w ∈ w_g, w.before args s = true) (hM : Met l y_DL_applied [.code y_DL_applied b_DL_applied 2 (some .int)] (x_rm h mc ms) Pc Qc mc ms free) (hp : PreV s H "DecisionLayers" b Pc As) (hn : As.length = 1) (hsize : ls.size = nL) (hst : st0 = As.reverse ++ .ref b :: rest) (hW : (rest.map fun v => v.category).sum ≤ 8) (hdg : decode cc pc = .ok (.invokevirtual 71, 3)) (hh : h + 1 ≤ hc) (hf : cells + mc ≤ MC ∧ slots + ms ≤ MS) : CallRun p l e (x_rm hc MC MS) s m args below meth c H locs cells slots mc ms (F0 m pc ls st0) rest (Qc (Value.ref b :: As).toArray) free :=
  W.runV ⟨hx, hb, hml, hown, hts⟩ hM (cwV 1 hts (x_g5 w_2_134 w_2_135 w_2_136 w_1_1 w_2_137) rfl rfl rfl (by decide +kernel) (x_room hh (by decide))) hp rfl hn hsize hst (lv_room hW) hdg hf
theorem k_Law_75 (hx : p.tables.exec = Jvm.exec) (hb : c.code = cc) (hml : c.maxLocals = nL) (hown : s.vm.findClass "DecisionLayersLaw" = some m.cls) (hts : ∀ w ∈ w_g, w.before args s = true) (hM : Met l y_DL_matches [.code y_DL_matches b_DL_matches 6 (some .boolean)] (x_rm h mc ms) Pc Qc mc ms free) (hp : PreV s H "DecisionLayers" b Pc As) (hn : As.length = 3) (hsize : ls.size = nL) (hst : st0 = As.reverse ++ .ref b :: rest) (hW : (rest.map fun v => v.category).sum ≤ 8) (hdg : decode cc pc = .ok (.invokevirtual 75, 3)) (hh : h + 1 ≤ hc) (hf : cells + mc ≤ MC ∧ slots + ms ≤ MS) : CallRun p l e (x_rm hc MC MS) s m args below meth c H locs cells slots mc ms (F0 m pc ls st0) rest (Qc (Value.ref b :: As).toArray) free :=
  W.runV ⟨hx, hb, hml, hown, hts⟩ hM (cwV 3 hts (x_g5 w_2_138 w_2_139 w_2_140 w_1_1 w_2_141) rfl rfl rfl (by decide +kernel) (x_room hh (by decide))) hp rfl hn hsize hst (lv_room hW) hdg hf
theorem k_DL_114 (hx : p.tables.exec = Jvm.exec) (hb : c.code = cc) (hml : c.maxLocals = nL) (hown : s.vm.findClass "DecisionLayers" = some m.cls) (hts : ∀ w ∈ w_g, w.before args s = true) (hM : Met l y_Pattern_fits [.code y_Pattern_fits b_Pattern_fits 11 (some .boolean)] (x_rm h mc ms) Pc Qc mc ms free) (hp : PreS s H Pc As) (hn : As.length = 4) (hsize : ls.size = nL) (hst : st0 = As.reverse ++ rest) (hW : (rest.map fun v => v.category).sum ≤ 8) (hdg : decode cc pc = .ok (.invokestatic 114, 3)) (hh : h + 1 ≤ hc) (hf : cells + mc ≤ MC ∧ slots + ms ≤ MS) : CallRun p l e (x_rm hc MC MS) s m args below meth c H locs cells slots mc ms (F0 m pc ls st0) rest (Qc As.toArray) free :=
  W.runS ⟨hx, hb, hml, hown, hts⟩ hM (va_cwS 4 hts (x_g4 w_2_142 w_2_22 w_1_10 w_2_23) rfl rfl rfl (by decide +kernel) (x_room hh (by decide))) hp rfl hn hsize hst (lv_room hW) hdg hf
theorem k_Law_80 (hx : p.tables.exec = Jvm.exec) (hb : c.code = cc) (hml : c.maxLocals = nL) (hown : s.vm.findClass "DecisionLayersLaw" = some m.cls) (hts : ∀ w ∈ w_g, w.before args s = true) (hM : Met l y_DL_holds [.code y_DL_holds b_DL_holds 3 (some .boolean)] (x_rm h mc ms) Pc Qc mc ms free) (hp : PreV s H "DecisionLayers" b Pc As) (hn : As.length = 1) (hsize : ls.size = nL) (hst : st0 = As.reverse ++ .ref b :: rest) (hW : (rest.map fun v => v.category).sum ≤ 8) (hdg : decode cc pc = .ok (.invokevirtual 80, 3)) (hh : h + 1 ≤ hc) (hf : cells + mc ≤ MC ∧ slots + ms ≤ MS) : CallRun p l e (x_rm hc MC MS) s m args below meth c H locs cells slots mc ms (F0 m pc ls st0) rest (Qc (Value.ref b :: As).toArray) free :=
  W.runV ⟨hx, hb, hml, hown, hts⟩ hM (cwV 1 hts (x_g5 w_2_143 w_2_144 w_2_145 w_1_1 w_2_146) rfl rfl rfl (by decide +kernel) (x_room hh (by decide))) hp rfl hn hsize hst (lv_room hW) hdg hf
theorem k_DL_120_Test (hx : p.tables.exec = Jvm.exec) (hb : c.code = cc) (hml : c.maxLocals = nL) (hown : s.vm.findClass "DecisionLayers" = some m.cls) (hts : ∀ w ∈ w_g, w.before args s = true) (hE : x_E D cA s) (hM : Met l y_Test_isMet [.code y_Test_isMet b_Test_isMet 7 (some .boolean)] (x_rm h mc ms) Pc Qc mc ms free) (hp : PreV s H "DecisionLayers$Test" b Pc As) (hn : As.length = 1) (hsize : ls.size = nL) (hst : st0 = As.reverse ++ .ref b :: rest) (hW : (rest.map fun v => v.category).sum ≤ 8) (hdg : decode cc pc = .ok (.invokevirtual 120, 3)) (hh : h + 1 ≤ hc) (hf : cells + mc ≤ MC ∧ slots + ms ≤ MS) : CallRun p l e (x_rm hc MC MS) s m args below meth c H locs cells slots mc ms (F0 m pc ls st0) rest (Qc (Value.ref b :: As).toArray) free :=
  (va_runU ⟨hx, hb, hml, hown, hts⟩ hM (va_cwA (own := "DecisionLayers") (C := "DecisionLayers$Test") (owner := "DecisionLayers$Condition") (index := 120) (x := y_Condition_isMet) 1 hts (x_g6 w_2_147 w_2_57 w_2_84 w_2_62 w_1_7 w_2_63) rfl rfl rfl hE.2.1.2.2.2.2.2.1 (by decide +kernel) (x_room hh (by decide))) hp rfl hn hsize hst (lv_room hW) hdg hf).run
theorem k_DL_120_Joined (hx : p.tables.exec = Jvm.exec) (hb : c.code = cc) (hml : c.maxLocals = nL) (hown : s.vm.findClass "DecisionLayers" = some m.cls) (hts : ∀ w ∈ w_g, w.before args s = true) (hE : x_E D cA s) (hM : Met l y_Joined_isMet [.code y_Joined_isMet b_Joined_isMet 5 (some .boolean)] (x_rm h mc ms) Pc Qc mc ms free) (hp : PreV s H "DecisionLayers$Joined" b Pc As) (hn : As.length = 1) (hsize : ls.size = nL) (hst : st0 = As.reverse ++ .ref b :: rest) (hW : (rest.map fun v => v.category).sum ≤ 8) (hdg : decode cc pc = .ok (.invokevirtual 120, 3)) (hh : h + 1 ≤ hc) (hf : cells + mc ≤ MC ∧ slots + ms ≤ MS) : CallRun p l e (x_rm hc MC MS) s m args below meth c H locs cells slots mc ms (F0 m pc ls st0) rest (Qc (Value.ref b :: As).toArray) free :=
  (va_runU ⟨hx, hb, hml, hown, hts⟩ hM (va_cwA (own := "DecisionLayers") (C := "DecisionLayers$Joined") (owner := "DecisionLayers$Condition") (index := 120) (x := y_Condition_isMet) 1 hts (x_g6 w_2_147 w_2_57 w_2_58 w_2_59 w_1_9 w_2_60) rfl rfl rfl hE.2.1.2.2.2.2.2.1 (by decide +kernel) (x_room hh (by decide))) hp rfl hn hsize hst (lv_room hW) hdg hf).run
theorem k_Law_12 (hx : p.tables.exec = Jvm.exec) (hb : c.code = cc) (hml : c.maxLocals = nL) (hown : s.vm.findClass "DecisionLayersLaw" = some m.cls) (hts : ∀ w ∈ w_g, w.before args s = true) (hM : Met l y_M_init [.code y_M_init b_M_init 1 none] (x_rm h mc ms) Pc Qc mc ms free) (hp : PreS s H Pc (.ref b :: As)) (hn : As.length = 0) (hsize : ls.size = nL) (hst : st0 = As.reverse ++ .ref b :: rest) (hW : (rest.map fun v => v.category).sum ≤ 8) (hdg : decode cc pc = .ok (.invokespecial 12, 3)) (hh : h + 1 ≤ hc) (hf : cells + mc ≤ MC ∧ slots + ms ≤ MS) : CallRun p l e (x_rm hc MC MS) s m args below meth c H locs cells slots mc ms (F0 m pc ls st0) rest (Qc (Value.ref b :: As).toArray) free :=
  W.runI ⟨hx, hb, hml, hown, hts⟩ hM (cwI 0 hts (x_g1 w_2_152) rfl rfl rfl (hts _ w_1_5) (hts _ w_2_150) (hts _ w_2_151) rfl (by decide +kernel) (x_room hh (by decide))) hp rfl hn hsize hst (lv_room hW) hdg hf
theorem k_Law_79 (hx : p.tables.exec = Jvm.exec) (hb : c.code = cc) (hml : c.maxLocals = nL) (hown : s.vm.findClass "DecisionLayersLaw" = some m.cls) (hts : ∀ w ∈ w_g, w.before args s = true) (hM : Met l y_M_matches [.code y_M_matches b_M_matches 13 (some .boolean)] (x_rm h mc ms) Pc Qc mc ms free) (hp : PreV s H "DecisionLayersModel" b Pc As) (hn : As.length = 3) (hsize : ls.size = nL) (hst : st0 = As.reverse ++ .ref b :: rest) (hW : (rest.map fun v => v.category).sum ≤ 8) (hdg : decode cc pc = .ok (.invokevirtual 79, 3)) (hh : h + 1 ≤ hc) (hf : cells + mc ≤ MC ∧ slots + ms ≤ MS) : CallRun p l e (x_rm hc MC MS) s m args below meth c H locs cells slots mc ms (F0 m pc ls st0) rest (Qc (Value.ref b :: As).toArray) free :=
  W.runV ⟨hx, hb, hml, hown, hts⟩ hM (cwV 3 hts (x_g5 w_2_229 w_2_230 w_2_231 w_1_5 w_2_232) rfl rfl rfl (by decide +kernel) (x_room hh (by decide))) hp rfl hn hsize hst (lv_room hW) hdg hf
theorem k_M_92 (hx : p.tables.exec = Jvm.exec) (hb : c.code = cc) (hml : c.maxLocals = nL) (hown : s.vm.findClass "DecisionLayersModel" = some m.cls) (hts : ∀ w ∈ w_g, w.before args s = true) (hM : Met l y_M_meant [.code y_M_meant b_M_meant 11 (some .boolean)] (x_rm h mc ms) Pc Qc mc ms free) (hp : PreV s H "DecisionLayersModel" b Pc As) (hn : As.length = 1) (hsize : ls.size = nL) (hst : st0 = As.reverse ++ .ref b :: rest) (hW : (rest.map fun v => v.category).sum ≤ 8) (hdg : decode cc pc = .ok (.invokevirtual 92, 3)) (hh : h + 1 ≤ hc) (hf : cells + mc ≤ MC ∧ slots + ms ≤ MS) : CallRun p l e (x_rm hc MC MS) s m args below meth c H locs cells slots mc ms (F0 m pc ls st0) rest (Qc (Value.ref b :: As).toArray) free :=
  W.runV ⟨hx, hb, hml, hown, hts⟩ hM (cwV 1 hts (x_g5 w_2_233 w_2_235 w_0_11 w_1_5 w_2_236) rfl rfl rfl (by decide +kernel) (x_room hh (by decide))) hp rfl hn hsize hst (lv_room hW) hdg hf
theorem k_M_84 (hx : p.tables.exec = Jvm.exec) (hb : c.code = cc) (hml : c.maxLocals = nL) (hown : s.vm.findClass "DecisionLayersModel" = some m.cls) (hts : ∀ w ∈ w_g, w.before args s = true) (hM : Met l y_M_length [.code y_M_length b_M_length 3 (some .int)] (x_rm h mc ms) Pc Qc mc ms free) (hp : PreS s H Pc As) (hn : As.length = 1) (hsize : ls.size = nL) (hst : st0 = As.reverse ++ rest) (hW : (rest.map fun v => v.category).sum ≤ 8) (hdg : decode cc pc = .ok (.invokestatic 84, 3)) (hh : h + 1 ≤ hc) (hf : cells + mc ≤ MC ∧ slots + ms ≤ MS) : CallRun p l e (x_rm hc MC MS) s m args below meth c H locs cells slots mc ms (F0 m pc ls st0) rest (Qc As.toArray) free :=
  W.runS ⟨hx, hb, hml, hown, hts⟩ hM (va_cwS 1 hts (x_g4 w_2_237 w_2_238 w_1_5 w_2_239) rfl rfl rfl (by decide +kernel) (x_room hh (by decide))) hp rfl hn hsize hst (lv_room hW) hdg hf
theorem k_M_77 (hx : p.tables.exec = Jvm.exec) (hb : c.code = cc) (hml : c.maxLocals = nL) (hown : s.vm.findClass "DecisionLayersModel" = some m.cls) (hts : ∀ w ∈ w_g, w.before args s = true) (hM : Met l y_M_charAt [.code y_M_charAt b_M_charAt 3 (some .int)] (x_rm h mc ms) Pc Qc mc ms free) (hp : PreS s H Pc As) (hn : As.length = 2) (hsize : ls.size = nL) (hst : st0 = As.reverse ++ rest) (hW : (rest.map fun v => v.category).sum ≤ 8) (hdg : decode cc pc = .ok (.invokestatic 77, 3)) (hh : h + 1 ≤ hc) (hf : cells + mc ≤ MC ∧ slots + ms ≤ MS) : CallRun p l e (x_rm hc MC MS) s m args below meth c H locs cells slots mc ms (F0 m pc ls st0) rest (Qc As.toArray) free :=
  W.runS ⟨hx, hb, hml, hown, hts⟩ hM (va_cwS 2 hts (x_g4 w_3_0 w_3_1 w_1_5 w_3_2) rfl rfl rfl (by decide +kernel) (x_room hh (by decide))) hp rfl hn hsize hst (lv_room hW) hdg hf
theorem k_M_88 (hx : p.tables.exec = Jvm.exec) (hb : c.code = cc) (hml : c.maxLocals = nL) (hown : s.vm.findClass "DecisionLayersModel" = some m.cls) (hts : ∀ w ∈ w_g, w.before args s = true) (hM : Met l y_M_add [.code y_M_add b_M_add 2 none] (x_rm h mc ms) Pc Qc mc ms free) (hp : PreV s H "DecisionLayersModel" b Pc As) (hn : As.length = 1) (hsize : ls.size = nL) (hst : st0 = As.reverse ++ .ref b :: rest) (hW : (rest.map fun v => v.category).sum ≤ 8) (hdg : decode cc pc = .ok (.invokevirtual 88, 3)) (hh : h + 1 ≤ hc) (hf : cells + mc ≤ MC ∧ slots + ms ≤ MS) : CallRun p l e (x_rm hc MC MS) s m args below meth c H locs cells slots mc ms (F0 m pc ls st0) rest (Qc (Value.ref b :: As).toArray) free :=
  W.runV ⟨hx, hb, hml, hown, hts⟩ hM (cwV 1 hts (x_g5 w_3_3 w_3_5 w_0_12 w_1_5 w_3_6) rfl rfl rfl (by decide +kernel) (x_room hh (by decide))) hp rfl hn hsize hst (lv_room hW) hdg hf
theorem k_M_96 (hx : p.tables.exec = Jvm.exec) (hb : c.code = cc) (hml : c.maxLocals = nL) (hown : s.vm.findClass "DecisionLayersModel" = some m.cls) (hts : ∀ w ∈ w_g, w.before args s = true) (hM : Met l y_M_fold [.code y_M_fold b_M_fold 2 (some .int)] (x_rm h mc ms) Pc Qc mc ms free) (hp : PreS s H Pc As) (hn : As.length = 2) (hsize : ls.size = nL) (hst : st0 = As.reverse ++ rest) (hW : (rest.map fun v => v.category).sum ≤ 8) (hdg : decode cc pc = .ok (.invokestatic 96, 3)) (hh : h + 1 ≤ hc) (hf : cells + mc ≤ MC ∧ slots + ms ≤ MS) : CallRun p l e (x_rm hc MC MS) s m args below meth c H locs cells slots mc ms (F0 m pc ls st0) rest (Qc As.toArray) free :=
  W.runS ⟨hx, hb, hml, hown, hts⟩ hM (va_cwS 2 hts (x_g4 w_3_7 w_3_8 w_1_5 w_3_9) rfl rfl rfl (by decide +kernel) (x_room hh (by decide))) hp rfl hn hsize hst (lv_room hW) hdg hf
theorem k_Law_19 (hx : p.tables.exec = Jvm.exec) (hb : c.code = cc) (hml : c.maxLocals = nL) (hown : s.vm.findClass "DecisionLayersLaw" = some m.cls) (hts : ∀ w ∈ w_g, w.before args s = true) (hM : Met l y_M_test [.code y_M_test b_M_test 6 (some .int)] (x_rm h mc ms) Pc Qc mc ms free) (hp : PreV s H "DecisionLayersModel" b Pc As) (hn : As.length = 4) (hsize : ls.size = nL) (hst : st0 = As.reverse ++ .ref b :: rest) (hW : (rest.map fun v => v.category).sum ≤ 8) (hdg : decode cc pc = .ok (.invokevirtual 19, 3)) (hh : h + 1 ≤ hc) (hf : cells + mc ≤ MC ∧ slots + ms ≤ MS) : CallRun p l e (x_rm hc MC MS) s m args below meth c H locs cells slots mc ms (F0 m pc ls st0) rest (Qc (Value.ref b :: As).toArray) free :=
  W.runV ⟨hx, hb, hml, hown, hts⟩ hM (cwV 4 hts (x_g5 w_3_10 w_3_11 w_3_12 w_1_5 w_3_13) rfl rfl rfl (by decide +kernel) (x_room hh (by decide))) hp rfl hn hsize hst (lv_room hW) hdg hf
theorem k_M_106 (hx : p.tables.exec = Jvm.exec) (hb : c.code = cc) (hml : c.maxLocals = nL) (hown : s.vm.findClass "DecisionLayersModel" = some m.cls) (hts : ∀ w ∈ w_g, w.before args s = true) (hM : Met l y_M_within [.code y_M_within b_M_within 2 (some .boolean)] (x_rm h mc ms) Pc Qc mc ms free) (hp : PreS s H Pc As) (hn : As.length = 2) (hsize : ls.size = nL) (hst : st0 = As.reverse ++ rest) (hW : (rest.map fun v => v.category).sum ≤ 8) (hdg : decode cc pc = .ok (.invokestatic 106, 3)) (hh : h + 1 ≤ hc) (hf : cells + mc ≤ MC ∧ slots + ms ≤ MS) : CallRun p l e (x_rm hc MC MS) s m args below meth c H locs cells slots mc ms (F0 m pc ls st0) rest (Qc As.toArray) free :=
  W.runS ⟨hx, hb, hml, hown, hts⟩ hM (va_cwS 2 hts (x_g4 w_3_14 w_3_15 w_1_5 w_3_16) rfl rfl rfl (by decide +kernel) (x_room hh (by decide))) hp rfl hn hsize hst (lv_room hW) hdg hf
theorem k_M_110 (hx : p.tables.exec = Jvm.exec) (hb : c.code = cc) (hml : c.maxLocals = nL) (hown : s.vm.findClass "DecisionLayersModel" = some m.cls) (hts : ∀ w ∈ w_g, w.before args s = true) (hM : Met l y_M_put [.code y_M_put b_M_put 1 (some .int)] (x_rm h mc ms) Pc Qc mc ms free) (hp : PreV s H "DecisionLayersModel" b Pc As) (hn : As.length = 0) (hsize : ls.size = nL) (hst : st0 = As.reverse ++ .ref b :: rest) (hW : (rest.map fun v => v.category).sum ≤ 8) (hdg : decode cc pc = .ok (.invokevirtual 110, 3)) (hh : h + 1 ≤ hc) (hf : cells + mc ≤ MC ∧ slots + ms ≤ MS) : CallRun p l e (x_rm hc MC MS) s m args below meth c H locs cells slots mc ms (F0 m pc ls st0) rest (Qc (Value.ref b :: As).toArray) free :=
  W.runV ⟨hx, hb, hml, hown, hts⟩ hM (cwV 0 hts (x_g5 w_3_17 w_3_19 w_0_13 w_1_5 w_3_20) rfl rfl rfl (by decide +kernel) (x_room hh (by decide))) hp rfl hn hsize hst (lv_room hW) hdg hf
theorem k_Law_24 (hx : p.tables.exec = Jvm.exec) (hb : c.code = cc) (hml : c.maxLocals = nL) (hown : s.vm.findClass "DecisionLayersLaw" = some m.cls) (hts : ∀ w ∈ w_g, w.before args s = true) (hM : Met l y_M_join [.code y_M_join b_M_join 5 (some .int)] (x_rm h mc ms) Pc Qc mc ms free) (hp : PreV s H "DecisionLayersModel" b Pc As) (hn : As.length = 2) (hsize : ls.size = nL) (hst : st0 = As.reverse ++ .ref b :: rest) (hW : (rest.map fun v => v.category).sum ≤ 8) (hdg : decode cc pc = .ok (.invokevirtual 24, 3)) (hh : h + 1 ≤ hc) (hf : cells + mc ≤ MC ∧ slots + ms ≤ MS) : CallRun p l e (x_rm hc MC MS) s m args below meth c H locs cells slots mc ms (F0 m pc ls st0) rest (Qc (Value.ref b :: As).toArray) free :=
  W.runV ⟨hx, hb, hml, hown, hts⟩ hM (cwV 2 hts (x_g5 w_3_21 w_3_22 w_3_23 w_1_5 w_3_24) rfl rfl rfl (by decide +kernel) (x_room hh (by decide))) hp rfl hn hsize hst (lv_room hW) hdg hf
theorem k_Law_29 (hx : p.tables.exec = Jvm.exec) (hb : c.code = cc) (hml : c.maxLocals = nL) (hown : s.vm.findClass "DecisionLayersLaw" = some m.cls) (hts : ∀ w ∈ w_g, w.before args s = true) (hM : Met l y_M_discard [.code y_M_discard b_M_discard 1 (some .boolean)] (x_rm h mc ms) Pc Qc mc ms free) (hp : PreV s H "DecisionLayersModel" b Pc As) (hn : As.length = 0) (hsize : ls.size = nL) (hst : st0 = As.reverse ++ .ref b :: rest) (hW : (rest.map fun v => v.category).sum ≤ 8) (hdg : decode cc pc = .ok (.invokevirtual 29, 3)) (hh : h + 1 ≤ hc) (hf : cells + mc ≤ MC ∧ slots + ms ≤ MS) : CallRun p l e (x_rm hc MC MS) s m args below meth c H locs cells slots mc ms (F0 m pc ls st0) rest (Qc (Value.ref b :: As).toArray) free :=
  W.runV ⟨hx, hb, hml, hown, hts⟩ hM (cwV 0 hts (x_g5 w_3_25 w_3_26 w_3_27 w_1_5 w_3_28) rfl rfl rfl (by decide +kernel) (x_room hh (by decide))) hp rfl hn hsize hst (lv_room hW) hdg hf
theorem k_Law_34 (hx : p.tables.exec = Jvm.exec) (hb : c.code = cc) (hml : c.maxLocals = nL) (hown : s.vm.findClass "DecisionLayersLaw" = some m.cls) (hts : ∀ w ∈ w_g, w.before args s = true) (hM : Met l y_M_pile [.code y_M_pile b_M_pile 1 (some .int)] (x_rm h mc ms) Pc Qc mc ms free) (hp : PreV s H "DecisionLayersModel" b Pc As) (hn : As.length = 0) (hsize : ls.size = nL) (hst : st0 = As.reverse ++ .ref b :: rest) (hW : (rest.map fun v => v.category).sum ≤ 8) (hdg : decode cc pc = .ok (.invokevirtual 34, 3)) (hh : h + 1 ≤ hc) (hf : cells + mc ≤ MC ∧ slots + ms ≤ MS) : CallRun p l e (x_rm hc MC MS) s m args below meth c H locs cells slots mc ms (F0 m pc ls st0) rest (Qc (Value.ref b :: As).toArray) free :=
  W.runV ⟨hx, hb, hml, hown, hts⟩ hM (cwV 0 hts (x_g5 w_3_29 w_3_30 w_3_31 w_1_5 w_3_32) rfl rfl rfl (by decide +kernel) (x_room hh (by decide))) hp rfl hn hsize hst (lv_room hW) hdg hf
theorem k_Law_83 (hx : p.tables.exec = Jvm.exec) (hb : c.code = cc) (hml : c.maxLocals = nL) (hown : s.vm.findClass "DecisionLayersLaw" = some m.cls) (hts : ∀ w ∈ w_g, w.before args s = true) (hM : Met l y_M_holds [.code y_M_holds b_M_holds 2 (some .boolean)] (x_rm h mc ms) Pc Qc mc ms free) (hp : PreV s H "DecisionLayersModel" b Pc As) (hn : As.length = 1) (hsize : ls.size = nL) (hst : st0 = As.reverse ++ .ref b :: rest) (hW : (rest.map fun v => v.category).sum ≤ 8) (hdg : decode cc pc = .ok (.invokevirtual 83, 3)) (hh : h + 1 ≤ hc) (hf : cells + mc ≤ MC ∧ slots + ms ≤ MS) : CallRun p l e (x_rm hc MC MS) s m args below meth c H locs cells slots mc ms (F0 m pc ls st0) rest (Qc (Value.ref b :: As).toArray) free :=
  W.runV ⟨hx, hb, hml, hown, hts⟩ hM (cwV 1 hts (x_g5 w_3_33 w_3_34 w_3_35 w_1_5 w_3_36) rfl rfl rfl (by decide +kernel) (x_room hh (by decide))) hp rfl hn hsize hst (lv_room hW) hdg hf
theorem k_M_135 (hx : p.tables.exec = Jvm.exec) (hb : c.code = cc) (hml : c.maxLocals = nL) (hown : s.vm.findClass "DecisionLayersModel" = some m.cls) (hts : ∀ w ∈ w_g, w.before args s = true) (hM : Met l y_M_settle [.code y_M_settle b_M_settle 3 none] (x_rm h mc ms) Pc Qc mc ms free) (hp : PreV s H "DecisionLayersModel" b Pc As) (hn : As.length = 0) (hsize : ls.size = nL) (hst : st0 = As.reverse ++ .ref b :: rest) (hW : (rest.map fun v => v.category).sum ≤ 8) (hdg : decode cc pc = .ok (.invokevirtual 135, 3)) (hh : h + 1 ≤ hc) (hf : cells + mc ≤ MC ∧ slots + ms ≤ MS) : CallRun p l e (x_rm hc MC MS) s m args below meth c H locs cells slots mc ms (F0 m pc ls st0) rest (Qc (Value.ref b :: As).toArray) free :=
  W.runV ⟨hx, hb, hml, hown, hts⟩ hM (cwV 0 hts (x_g5 w_3_37 w_3_39 w_0_14 w_1_5 w_3_40) rfl rfl rfl (by decide +kernel) (x_room hh (by decide))) hp rfl hn hsize hst (lv_room hW) hdg hf
theorem k_M_131 (hx : p.tables.exec = Jvm.exec) (hb : c.code = cc) (hml : c.maxLocals = nL) (hown : s.vm.findClass "DecisionLayersModel" = some m.cls) (hts : ∀ w ∈ w_g, w.before args s = true) (hM : Met l y_M_tested [.code y_M_tested b_M_tested 8 (some .boolean)] (x_rm h mc ms) Pc Qc mc ms free) (hp : PreV s H "DecisionLayersModel" b Pc As) (hn : As.length = 1) (hsize : ls.size = nL) (hst : st0 = As.reverse ++ .ref b :: rest) (hW : (rest.map fun v => v.category).sum ≤ 8) (hdg : decode cc pc = .ok (.invokevirtual 131, 3)) (hh : h + 1 ≤ hc) (hf : cells + mc ≤ MC ∧ slots + ms ≤ MS) : CallRun p l e (x_rm hc MC MS) s m args below meth c H locs cells slots mc ms (F0 m pc ls st0) rest (Qc (Value.ref b :: As).toArray) free :=
  W.runV ⟨hx, hb, hml, hown, hts⟩ hM (cwV 1 hts (x_g5 w_3_41 w_3_43 w_0_15 w_1_5 w_3_44) rfl rfl rfl (by decide +kernel) (x_room hh (by decide))) hp rfl hn hsize hst (lv_room hW) hdg hf
theorem k_M_127 (hx : p.tables.exec = Jvm.exec) (hb : c.code = cc) (hml : c.maxLocals = nL) (hown : s.vm.findClass "DecisionLayersModel" = some m.cls) (hts : ∀ w ∈ w_g, w.before args s = true) (hM : Met l y_M_answers [.code y_M_answers b_M_answers 6 (some .boolean)] (x_rm h mc ms) Pc Qc mc ms free) (hp : PreV s H "DecisionLayersModel" b Pc As) (hn : As.length = 3) (hsize : ls.size = nL) (hst : st0 = As.reverse ++ .ref b :: rest) (hW : (rest.map fun v => v.category).sum ≤ 8) (hdg : decode cc pc = .ok (.invokevirtual 127, 3)) (hh : h + 1 ≤ hc) (hf : cells + mc ≤ MC ∧ slots + ms ≤ MS) : CallRun p l e (x_rm hc MC MS) s m args below meth c H locs cells slots mc ms (F0 m pc ls st0) rest (Qc (Value.ref b :: As).toArray) free :=
  W.runV ⟨hx, hb, hml, hown, hts⟩ hM (cwV 3 hts (x_g5 w_3_45 w_3_47 w_0_16 w_1_5 w_3_48) rfl rfl rfl (by decide +kernel) (x_room hh (by decide))) hp rfl hn hsize hst (lv_room hW) hdg hf
theorem k_M_116 (hx : p.tables.exec = Jvm.exec) (hb : c.code = cc) (hml : c.maxLocals = nL) (hown : s.vm.findClass "DecisionLayersModel" = some m.cls) (hts : ∀ w ∈ w_g, w.before args s = true) (hM : Met l y_M_sameText [.code y_M_sameText b_M_sameText 6 (some .boolean)] (x_rm h mc ms) Pc Qc mc ms free) (hp : PreS s H Pc As) (hn : As.length = 2) (hsize : ls.size = nL) (hst : st0 = As.reverse ++ rest) (hW : (rest.map fun v => v.category).sum ≤ 8) (hdg : decode cc pc = .ok (.invokestatic 116, 3)) (hh : h + 1 ≤ hc) (hf : cells + mc ≤ MC ∧ slots + ms ≤ MS) : CallRun p l e (x_rm hc MC MS) s m args below meth c H locs cells slots mc ms (F0 m pc ls st0) rest (Qc As.toArray) free :=
  W.runS ⟨hx, hb, hml, hown, hts⟩ hM (va_cwS 2 hts (x_g4 w_3_49 w_3_50 w_1_5 w_3_51) rfl rfl rfl (by decide +kernel) (x_room hh (by decide))) hp rfl hn hsize hst (lv_room hW) hdg hf
theorem k_M_120 (hx : p.tables.exec = Jvm.exec) (hb : c.code = cc) (hml : c.maxLocals = nL) (hown : s.vm.findClass "DecisionLayersModel" = some m.cls) (hts : ∀ w ∈ w_g, w.before args s = true) (hM : Met l y_M_matches [.code y_M_matches b_M_matches 13 (some .boolean)] (x_rm h mc ms) Pc Qc mc ms free) (hp : PreV s H "DecisionLayersModel" b Pc As) (hn : As.length = 3) (hsize : ls.size = nL) (hst : st0 = As.reverse ++ .ref b :: rest) (hW : (rest.map fun v => v.category).sum ≤ 8) (hdg : decode cc pc = .ok (.invokevirtual 120, 3)) (hh : h + 1 ≤ hc) (hf : cells + mc ≤ MC ∧ slots + ms ≤ MS) : CallRun p l e (x_rm hc MC MS) s m args below meth c H locs cells slots mc ms (F0 m pc ls st0) rest (Qc (Value.ref b :: As).toArray) free :=
  W.runV ⟨hx, hb, hml, hown, hts⟩ hM (cwV 3 hts (x_g5 w_3_52 w_2_230 w_2_231 w_1_5 w_2_232) rfl rfl rfl (by decide +kernel) (x_room hh (by decide))) hp rfl hn hsize hst (lv_room hW) hdg hf
theorem k_M_124 (hx : p.tables.exec = Jvm.exec) (hb : c.code = cc) (hml : c.maxLocals = nL) (hown : s.vm.findClass "DecisionLayersModel" = some m.cls) (hts : ∀ w ∈ w_g, w.before args s = true) (hM : Met l y_M_sameBits [.code y_M_sameBits b_M_sameBits 7 (some .boolean)] (x_rm h mc ms) Pc Qc mc ms free) (hp : PreS s H Pc As) (hn : As.length = 2) (hsize : ls.size = nL) (hst : st0 = As.reverse ++ rest) (hW : (rest.map fun v => v.category).sum ≤ 8) (hdg : decode cc pc = .ok (.invokestatic 124, 3)) (hh : h + 1 ≤ hc) (hf : cells + mc ≤ MC ∧ slots + ms ≤ MS) : CallRun p l e (x_rm hc MC MS) s m args below meth c H locs cells slots mc ms (F0 m pc ls st0) rest (Qc As.toArray) free :=
  W.runS ⟨hx, hb, hml, hown, hts⟩ hM (va_cwS 2 hts (x_g4 w_3_53 w_3_54 w_1_5 w_3_55) rfl rfl rfl (by decide +kernel) (x_room hh (by decide))) hp rfl hn hsize hst (lv_room hW) hdg hf
theorem k_Law_39 (hx : p.tables.exec = Jvm.exec) (hb : c.code = cc) (hml : c.maxLocals = nL) (hown : s.vm.findClass "DecisionLayersLaw" = some m.cls) (hts : ∀ w ∈ w_g, w.before args s = true) (hM : Met l y_M_state [.code y_M_state b_M_state 10 (some .int)] (x_rm h mc ms) Pc Qc mc ms free) (hp : PreV s H "DecisionLayersModel" b Pc As) (hn : As.length = 5) (hsize : ls.size = nL) (hst : st0 = As.reverse ++ .ref b :: rest) (hW : (rest.map fun v => v.category).sum ≤ 8) (hdg : decode cc pc = .ok (.invokevirtual 39, 3)) (hh : h + 1 ≤ hc) (hf : cells + mc ≤ MC ∧ slots + ms ≤ MS) : CallRun p l e (x_rm hc MC MS) s m args below meth c H locs cells slots mc ms (F0 m pc ls st0) rest (Qc (Value.ref b :: As).toArray) free :=
  W.runV ⟨hx, hb, hml, hown, hts⟩ hM (cwV 5 hts (x_g5 w_3_57 w_3_58 w_3_59 w_1_5 w_3_60) rfl rfl rfl (by decide +kernel) (x_room hh (by decide))) hp rfl hn hsize hst (lv_room hW) hdg hf
theorem k_Law_44 (hx : p.tables.exec = Jvm.exec) (hb : c.code = cc) (hml : c.maxLocals = nL) (hown : s.vm.findClass "DecisionLayersLaw" = some m.cls) (hts : ∀ w ∈ w_g, w.before args s = true) (hM : Met l y_M_open [.code y_M_open b_M_open 2 (some .boolean)] (x_rm h mc ms) Pc Qc mc ms free) (hp : PreV s H "DecisionLayersModel" b Pc As) (hn : As.length = 1) (hsize : ls.size = nL) (hst : st0 = As.reverse ++ .ref b :: rest) (hW : (rest.map fun v => v.category).sum ≤ 8) (hdg : decode cc pc = .ok (.invokevirtual 44, 3)) (hh : h + 1 ≤ hc) (hf : cells + mc ≤ MC ∧ slots + ms ≤ MS) : CallRun p l e (x_rm hc MC MS) s m args below meth c H locs cells slots mc ms (F0 m pc ls st0) rest (Qc (Value.ref b :: As).toArray) free :=
  W.runV ⟨hx, hb, hml, hown, hts⟩ hM (cwV 1 hts (x_g5 w_3_61 w_3_62 w_3_63 w_1_5 w_3_64) rfl rfl rfl (by decide +kernel) (x_room hh (by decide))) hp rfl hn hsize hst (lv_room hW) hdg hf
theorem k_Law_48 (hx : p.tables.exec = Jvm.exec) (hb : c.code = cc) (hml : c.maxLocals = nL) (hown : s.vm.findClass "DecisionLayersLaw" = some m.cls) (hts : ∀ w ∈ w_g, w.before args s = true) (hM : Met l y_M_drop [.code y_M_drop b_M_drop 2 (some .boolean)] (x_rm h mc ms) Pc Qc mc ms free) (hp : PreV s H "DecisionLayersModel" b Pc As) (hn : As.length = 1) (hsize : ls.size = nL) (hst : st0 = As.reverse ++ .ref b :: rest) (hW : (rest.map fun v => v.category).sum ≤ 8) (hdg : decode cc pc = .ok (.invokevirtual 48, 3)) (hh : h + 1 ≤ hc) (hf : cells + mc ≤ MC ∧ slots + ms ≤ MS) : CallRun p l e (x_rm hc MC MS) s m args below meth c H locs cells slots mc ms (F0 m pc ls st0) rest (Qc (Value.ref b :: As).toArray) free :=
  W.runV ⟨hx, hb, hml, hown, hts⟩ hM (cwV 1 hts (x_g5 w_3_65 w_3_66 w_3_67 w_1_5 w_3_68) rfl rfl rfl (by decide +kernel) (x_room hh (by decide))) hp rfl hn hsize hst (lv_room hW) hdg hf
theorem k_Law_53 (hx : p.tables.exec = Jvm.exec) (hb : c.code = cc) (hml : c.maxLocals = nL) (hown : s.vm.findClass "DecisionLayersLaw" = some m.cls) (hts : ∀ w ∈ w_g, w.before args s = true) (hM : Met l y_M_statements [.code y_M_statements b_M_statements 2 (some .int)] (x_rm h mc ms) Pc Qc mc ms free) (hp : PreV s H "DecisionLayersModel" b Pc As) (hn : As.length = 1) (hsize : ls.size = nL) (hst : st0 = As.reverse ++ .ref b :: rest) (hW : (rest.map fun v => v.category).sum ≤ 8) (hdg : decode cc pc = .ok (.invokevirtual 53, 3)) (hh : h + 1 ≤ hc) (hf : cells + mc ≤ MC ∧ slots + ms ≤ MS) : CallRun p l e (x_rm hc MC MS) s m args below meth c H locs cells slots mc ms (F0 m pc ls st0) rest (Qc (Value.ref b :: As).toArray) free :=
  W.runV ⟨hx, hb, hml, hown, hts⟩ hM (cwV 1 hts (x_g5 w_3_69 w_3_70 w_3_71 w_1_5 w_3_72) rfl rfl rfl (by decide +kernel) (x_room hh (by decide))) hp rfl hn hsize hst (lv_room hW) hdg hf
theorem k_Law_58 (hx : p.tables.exec = Jvm.exec) (hb : c.code = cc) (hml : c.maxLocals = nL) (hown : s.vm.findClass "DecisionLayersLaw" = some m.cls) (hts : ∀ w ∈ w_g, w.before args s = true) (hM : Met l y_M_offer [.code y_M_offer b_M_offer 4 (some .int)] (x_rm h mc ms) Pc Qc mc ms free) (hp : PreV s H "DecisionLayersModel" b Pc As) (hn : As.length = 2) (hsize : ls.size = nL) (hst : st0 = As.reverse ++ .ref b :: rest) (hW : (rest.map fun v => v.category).sum ≤ 8) (hdg : decode cc pc = .ok (.invokevirtual 58, 3)) (hh : h + 1 ≤ hc) (hf : cells + mc ≤ MC ∧ slots + ms ≤ MS) : CallRun p l e (x_rm hc MC MS) s m args below meth c H locs cells slots mc ms (F0 m pc ls st0) rest (Qc (Value.ref b :: As).toArray) free :=
  W.runV ⟨hx, hb, hml, hown, hts⟩ hM (cwV 2 hts (x_g5 w_3_73 w_3_74 w_3_75 w_1_5 w_3_76) rfl rfl rfl (by decide +kernel) (x_room hh (by decide))) hp rfl hn hsize hst (lv_room hW) hdg hf
theorem k_Law_62 (hx : p.tables.exec = Jvm.exec) (hb : c.code = cc) (hml : c.maxLocals = nL) (hown : s.vm.findClass "DecisionLayersLaw" = some m.cls) (hts : ∀ w ∈ w_g, w.before args s = true) (hM : Met l y_M_forget [.code y_M_forget b_M_forget 3 (some .int)] (x_rm h mc ms) Pc Qc mc ms free) (hp : PreV s H "DecisionLayersModel" b Pc As) (hn : As.length = 1) (hsize : ls.size = nL) (hst : st0 = As.reverse ++ .ref b :: rest) (hW : (rest.map fun v => v.category).sum ≤ 8) (hdg : decode cc pc = .ok (.invokevirtual 62, 3)) (hh : h + 1 ≤ hc) (hf : cells + mc ≤ MC ∧ slots + ms ≤ MS) : CallRun p l e (x_rm hc MC MS) s m args below meth c H locs cells slots mc ms (F0 m pc ls st0) rest (Qc (Value.ref b :: As).toArray) free :=
  W.runV ⟨hx, hb, hml, hown, hts⟩ hM (cwV 1 hts (x_g5 w_3_77 w_3_78 w_3_79 w_1_5 w_3_80) rfl rfl rfl (by decide +kernel) (x_room hh (by decide))) hp rfl hn hsize hst (lv_room hW) hdg hf
theorem k_Law_66 (hx : p.tables.exec = Jvm.exec) (hb : c.code = cc) (hml : c.maxLocals = nL) (hown : s.vm.findClass "DecisionLayersLaw" = some m.cls) (hts : ∀ w ∈ w_g, w.before args s = true) (hM : Met l y_M_decide [.code y_M_decide b_M_decide 11 (some .int)] (x_rm h mc ms) Pc Qc mc ms free) (hp : PreV s H "DecisionLayersModel" b Pc As) (hn : As.length = 5) (hsize : ls.size = nL) (hst : st0 = As.reverse ++ .ref b :: rest) (hW : (rest.map fun v => v.category).sum ≤ 8) (hdg : decode cc pc = .ok (.invokevirtual 66, 3)) (hh : h + 1 ≤ hc) (hf : cells + mc ≤ MC ∧ slots + ms ≤ MS) : CallRun p l e (x_rm hc MC MS) s m args below meth c H locs cells slots mc ms (F0 m pc ls st0) rest (Qc (Value.ref b :: As).toArray) free :=
  W.runV ⟨hx, hb, hml, hown, hts⟩ hM (cwV 5 hts (x_g5 w_3_81 w_3_82 w_3_83 w_1_5 w_3_84) rfl rfl rfl (by decide +kernel) (x_room hh (by decide))) hp rfl hn hsize hst (lv_room hW) hdg hf
theorem k_M_138 (hx : p.tables.exec = Jvm.exec) (hb : c.code = cc) (hml : c.maxLocals = nL) (hown : s.vm.findClass "DecisionLayersModel" = some m.cls) (hts : ∀ w ∈ w_g, w.before args s = true) (hM : Met l y_M_does [.code y_M_does b_M_does 11 (some .boolean)] (x_rm h mc ms) Pc Qc mc ms free) (hp : PreV s H "DecisionLayersModel" b Pc As) (hn : As.length = 5) (hsize : ls.size = nL) (hst : st0 = As.reverse ++ .ref b :: rest) (hW : (rest.map fun v => v.category).sum ≤ 8) (hdg : decode cc pc = .ok (.invokevirtual 138, 3)) (hh : h + 1 ≤ hc) (hf : cells + mc ≤ MC ∧ slots + ms ≤ MS) : CallRun p l e (x_rm hc MC MS) s m args below meth c H locs cells slots mc ms (F0 m pc ls st0) rest (Qc (Value.ref b :: As).toArray) free :=
  W.runV ⟨hx, hb, hml, hown, hts⟩ hM (cwV 5 hts (x_g5 w_3_85 w_3_87 w_0_17 w_1_5 w_3_88) rfl rfl rfl (by decide +kernel) (x_room hh (by decide))) hp rfl hn hsize hst (lv_room hW) hdg hf
theorem k_M_142 (hx : p.tables.exec = Jvm.exec) (hb : c.code = cc) (hml : c.maxLocals = nL) (hown : s.vm.findClass "DecisionLayersModel" = some m.cls) (hts : ∀ w ∈ w_g, w.before args s = true) (hM : Met l y_M_some [.code y_M_some b_M_some 8 (some .boolean)] (x_rm h mc ms) Pc Qc mc ms free) (hp : PreV s H "DecisionLayersModel" b Pc As) (hn : As.length = 3) (hsize : ls.size = nL) (hst : st0 = As.reverse ++ .ref b :: rest) (hW : (rest.map fun v => v.category).sum ≤ 8) (hdg : decode cc pc = .ok (.invokevirtual 142, 3)) (hh : h + 1 ≤ hc) (hf : cells + mc ≤ MC ∧ slots + ms ≤ MS) : CallRun p l e (x_rm hc MC MS) s m args below meth c H locs cells slots mc ms (F0 m pc ls st0) rest (Qc (Value.ref b :: As).toArray) free :=
  W.runV ⟨hx, hb, hml, hown, hts⟩ hM (cwV 3 hts (x_g5 w_3_89 w_3_91 w_0_18 w_1_5 w_3_92) rfl rfl rfl (by decide +kernel) (x_room hh (by decide))) hp rfl hn hsize hst (lv_room hW) hdg hf
theorem k_M_146 (hx : p.tables.exec = Jvm.exec) (hb : c.code = cc) (hml : c.maxLocals = nL) (hown : s.vm.findClass "DecisionLayersModel" = some m.cls) (hts : ∀ w ∈ w_g, w.before args s = true) (hM : Met l y_M_answer [.code y_M_answer b_M_answer 3 (some .int)] (x_rm h mc ms) Pc Qc mc ms free) (hp : PreV s H "DecisionLayersModel" b Pc As) (hn : As.length = 2) (hsize : ls.size = nL) (hst : st0 = As.reverse ++ .ref b :: rest) (hW : (rest.map fun v => v.category).sum ≤ 8) (hdg : decode cc pc = .ok (.invokevirtual 146, 3)) (hh : h + 1 ≤ hc) (hf : cells + mc ≤ MC ∧ slots + ms ≤ MS) : CallRun p l e (x_rm hc MC MS) s m args below meth c H locs cells slots mc ms (F0 m pc ls st0) rest (Qc (Value.ref b :: As).toArray) free :=
  W.runV ⟨hx, hb, hml, hown, hts⟩ hM (cwV 2 hts (x_g5 w_3_93 w_3_95 w_0_19 w_1_5 w_3_96) rfl rfl rfl (by decide +kernel) (x_room hh (by decide))) hp rfl hn hsize hst (lv_room hW) hdg hf
theorem k_Law_70 (hx : p.tables.exec = Jvm.exec) (hb : c.code = cc) (hml : c.maxLocals = nL) (hown : s.vm.findClass "DecisionLayersLaw" = some m.cls) (hts : ∀ w ∈ w_g, w.before args s = true) (hM : Met l y_M_layer [.code y_M_layer b_M_layer 1 (some .int)] (x_rm h mc ms) Pc Qc mc ms free) (hp : PreV s H "DecisionLayersModel" b Pc As) (hn : As.length = 0) (hsize : ls.size = nL) (hst : st0 = As.reverse ++ .ref b :: rest) (hW : (rest.map fun v => v.category).sum ≤ 8) (hdg : decode cc pc = .ok (.invokevirtual 70, 3)) (hh : h + 1 ≤ hc) (hf : cells + mc ≤ MC ∧ slots + ms ≤ MS) : CallRun p l e (x_rm hc MC MS) s m args below meth c H locs cells slots mc ms (F0 m pc ls st0) rest (Qc (Value.ref b :: As).toArray) free :=
  W.runV ⟨hx, hb, hml, hown, hts⟩ hM (cwV 0 hts (x_g5 w_3_97 w_3_98 w_3_99 w_1_5 w_3_100) rfl rfl rfl (by decide +kernel) (x_room hh (by decide))) hp rfl hn hsize hst (lv_room hW) hdg hf
theorem k_Law_74 (hx : p.tables.exec = Jvm.exec) (hb : c.code = cc) (hml : c.maxLocals = nL) (hown : s.vm.findClass "DecisionLayersLaw" = some m.cls) (hts : ∀ w ∈ w_g, w.before args s = true) (hM : Met l y_M_applied [.code y_M_applied b_M_applied 2 (some .int)] (x_rm h mc ms) Pc Qc mc ms free) (hp : PreV s H "DecisionLayersModel" b Pc As) (hn : As.length = 1) (hsize : ls.size = nL) (hst : st0 = As.reverse ++ .ref b :: rest) (hW : (rest.map fun v => v.category).sum ≤ 8) (hdg : decode cc pc = .ok (.invokevirtual 74, 3)) (hh : h + 1 ≤ hc) (hf : cells + mc ≤ MC ∧ slots + ms ≤ MS) : CallRun p l e (x_rm hc MC MS) s m args below meth c H locs cells slots mc ms (F0 m pc ls st0) rest (Qc (Value.ref b :: As).toArray) free :=
  W.runV ⟨hx, hb, hml, hown, hts⟩ hM (cwV 1 hts (x_g5 w_3_101 w_3_102 w_3_103 w_1_5 w_3_104) rfl rfl rfl (by decide +kernel) (x_room hh (by decide))) hp rfl hn hsize hst (lv_room hW) hdg hf
end XK
end
section
/-! the result of a pattern from a set of places on; values; conditions -/
def pt_o (y : Int64) (lo : Bool) (o : Option (List Int32)) (q : Nat) : Bool := match o with
  | none => false
  | some ts => (pt_r y lo ts q).testBit (tx_n y)
theorem pt_o_app (y : Int64) (lo : Bool) (o : Option (List Int32)) (v : List Int32) (q : Nat) : pt_o y lo (o.map (v ++ ·)) q = pt_o y lo o (pt_r y lo v q) := by
  cases o with
  | none => rfl
  | some ts => show (pt_r y lo (v ++ ts) q).testBit _ = (pt_r y lo ts _).testBit _; rw [pt_r_app]
theorem pt_o_cons (y : Int64) (lo : Bool) (o : Option (List Int32)) (t : Int32) (q : Nat) : pt_o y lo (o.map (t :: ·)) q = pt_o y lo o (pt_s y lo t q) := by
  cases o with
  | none => rfl
  | some ts => rfl
theorem pt_m_o (cnt : Nat → Int32) (row : Nat → Int64) (x y : Int64) (lo : Bool) : pt_m cnt row x y lo = pt_o y lo (pt_k cnt row x (tx_n x)) 1 := by
  unfold pt_m pt_o
  cases pt_k cnt row x (tx_n x) <;> rfl
/-- a character's token is read as the character -/
theorem pt_s_c (y : Int64) (lo : Bool) {t : Int32} {j : Nat} (hj : j < 256) (ht : t = nI j) (q : Nat) : pt_s y lo t q = pl_c (fun i => decide (tx_lo t lo = tx_lo (tx_c y i) lo)) q (tx_n y) := by
  have h1 : ¬ t = 256 := by
    rw [ht]; intro h
    have : nI j = nI 256 := h
    have := (nI_eq (by omega) (by omega)).mp this
    omega
  have h2 : ¬ t = 257 := by
    rw [ht]; intro h
    have : nI j = nI 257 := h
    have := (nI_eq (by omega) (by omega)).mp this
    omega
  unfold pt_s
  rw [if_neg h1]
  congr 1
  funext i
  rw [decide_eq_false h2, Bool.false_or]
theorem pt_s_any (y : Int64) (lo : Bool) (q : Nat) : pt_s y lo 256 q = pl_s (tx_n y) q (tx_n y + 1) := by unfold pt_s; rw [if_pos rfl]
theorem pt_s_one (y : Int64) (lo : Bool) (q : Nat) : pt_s y lo 257 q = pl_c (fun _ => true) q (tx_n y) := by
  unfold pt_s
  rw [if_neg (by decide)]
  congr 1
/-- the first k characters of a text, read -/
def pt_p (y : Int64) (lo : Bool) (w : Int64) (k q : Nat) : Nat := pt_r y lo ((List.range k).map (tx_c w)) q
theorem pt_p_0 (y : Int64) (lo : Bool) (w : Int64) (q : Nat) : pt_p y lo w 0 q = q := rfl
theorem pt_p_s (y : Int64) (lo : Bool) (w : Int64) (k q : Nat) : pt_p y lo w (k + 1) q = pt_s y lo (tx_c w k) (pt_p y lo w k q) := by
  unfold pt_p
  rw [List.range_succ, List.map_append, pt_r_app]
  rfl
theorem pt_p_n (y : Int64) (lo : Bool) (w : Int64) (q : Nat) : pt_p y lo w (tx_n w) q = pt_r y lo (pt_v w) q := rfl
theorem pt_p_lt (y : Int64) (lo : Bool) (w : Int64) (k : Nat) {q : Nat} (h : q < 2 ^ (tx_n y + 1)) : pt_p y lo w k q < 2 ^ (tx_n y + 1) := pt_r_lt y lo _ h
/-- a character read as a text of its own -/
theorem pt_v_1 {c : Int32} {j : Nat} (hj : j < 256) (h0 : 0 < j) (hc : c = nI j) : pt_v c.toInt64 = [c] := by
  subst hc
  obtain ⟨a, b⟩ := tx_one j hj h0
  unfold pt_v
  rw [a]
  show [tx_c (nI j).toInt64 0] = [nI j]
  rw [b]
/-- how many values a key has -/
def vl_c (cnt : Nat → Int32) (k : Int32) : Int32 := if 0 ≤ k ∧ k < 8 then cnt k.toNatClampNeg else 0
def vl_ok (cnt : Nat → Int32) : Prop := ∀ k, k < 8 → ∃ j : Nat, j ≤ 4 ∧ cnt k = nI j
theorem vl_key {k : Int32} (h0 : ¬ k < 0) (h8 : ¬ 8 ≤ k) : ∃ j : Nat, j < 8 ∧ k = nI j := by
  rcases pk_ix k (n := 8) (by decide) with h | h | h
  · exact absurd h h0
  · exact absurd h h8
  · exact h
theorem vl_key' {k : Int32} (h0 : 0 ≤ k) (h8 : k < 8) : ∃ j : Nat, j < 8 ∧ k = nI j := vl_key (by rw [Int32.not_lt]; exact h0) (by rw [Int32.not_le]; exact h8)
theorem vl_c_in {cnt : Nat → Int32} {j : Nat} (h : j < 8) : vl_c cnt (nI j) = cnt j := by
  unfold vl_c
  rw [if_pos ⟨nI_pos' (by omega), (nI_ltI (by omega) (by decide) : nI j < nI 8 ↔ j < 8).mpr h⟩, nI_clamp (by omega)]
theorem vl_c_lo {cnt : Nat → Int32} {k : Int32} (h : k < 0) : vl_c cnt k = 0 := by
  unfold vl_c; rw [if_neg]; rintro ⟨a, -⟩; exact absurd h (by rw [Int32.not_lt]; exact a)
theorem vl_c_hi {cnt : Nat → Int32} {k : Int32} (h : 8 ≤ k) : vl_c cnt k = 0 := by
  unfold vl_c; rw [if_neg]; rintro ⟨-, a⟩; exact absurd h (by rw [Int32.not_le]; exact a)
/-- does the character behind a dollar name a key with one value -/
theorem pt_y_c (cnt : Nat → Int32) (d : Int32) : pt_y cnt d = decide (vl_c cnt (d - 48) = 1) := by
  unfold pt_y vl_c
  by_cases h : 0 ≤ d - 48 ∧ d - 48 < 8
  · have h7 : d - 48 ≤ 7 := by
      have h2 := h.2
      rw [Int32.lt_iff_toInt_lt] at h2
      rw [Int32.le_iff_toInt_le]
      have : (8 : Int32).toInt = 8 := by decide
      have : (7 : Int32).toInt = 7 := by decide
      omega
    rw [if_pos h]
    simp [h.1, h7]
  · rw [if_neg h]
    have : ¬ (0 ≤ d - 48 ∧ d - 48 ≤ 7 ∧ cnt (d - 48).toNatClampNeg = 1) := by
      rintro ⟨a, b, -⟩
      refine h ⟨a, ?_⟩
      rw [Int32.le_iff_toInt_le] at b
      rw [Int32.lt_iff_toInt_lt]
      have : (8 : Int32).toInt = 8 := by decide
      have : (7 : Int32).toInt = 7 := by decide
      omega
    rw [decide_eq_false this]
    decide
end
section
theorem d_Condition_init_0 : decode b_Condition_init 0 = .ok (.aload_n 0, 1) := by decide +kernel
theorem d_Condition_init_1 : decode b_Condition_init 1 = .ok (.invokespecial 1, 3) := by decide +kernel
theorem d_Condition_init_4 : decode b_Condition_init 4 = .ok (.aload_n 0, 1) := by decide +kernel
theorem d_Condition_init_5 : decode b_Condition_init 5 = .ok (.iload_n 1, 1) := by decide +kernel
theorem d_Condition_init_6 : decode b_Condition_init 6 = .ok (.putfield 7, 3) := by decide +kernel
theorem d_Condition_init_9 : decode b_Condition_init 9 = .ok (.return_, 1) := by decide +kernel
theorem d_DL_applied_0 : decode b_DL_applied 0 = .ok (.aload_n 0, 1) := by decide +kernel
theorem d_DL_applied_1 : decode b_DL_applied 1 = .ok (.getfield 33, 3) := by decide +kernel
theorem d_DL_applied_4 : decode b_DL_applied 4 = .ok (.iconst (-1), 1) := by decide +kernel
theorem d_DL_applied_5 : decode b_DL_applied 5 = .ok (.if_icmp .eq 10, 3) := by decide +kernel
theorem d_DL_applied_8 : decode b_DL_applied 8 = .ok (.iload_n 1, 1) := by decide +kernel
theorem d_DL_applied_9 : decode b_DL_applied 9 = .ok (.invokestatic 62, 3) := by decide +kernel
theorem d_DL_applied_12 : decode b_DL_applied 12 = .ok (.ifCond .ne 5, 3) := by decide +kernel
theorem d_DL_applied_15 : decode b_DL_applied 15 = .ok (.iconst (-1), 1) := by decide +kernel
theorem d_DL_applied_16 : decode b_DL_applied 16 = .ok (.ireturn, 1) := by decide +kernel
theorem d_DL_applied_17 : decode b_DL_applied 17 = .ok (.aload_n 0, 1) := by decide +kernel
theorem d_DL_applied_18 : decode b_DL_applied 18 = .ok (.getfield 24, 3) := by decide +kernel
theorem d_DL_applied_21 : decode b_DL_applied 21 = .ok (.iload_n 1, 1) := by decide +kernel
theorem d_DL_applied_22 : decode b_DL_applied 22 = .ok (.aaload, 1) := by decide +kernel
theorem d_DL_applied_23 : decode b_DL_applied 23 = .ok (.getfield 111, 3) := by decide +kernel
theorem d_DL_applied_26 : decode b_DL_applied 26 = .ok (.ireturn, 1) := by decide +kernel
theorem d_DL_conclude_0 : decode b_DL_conclude 0 = .ok (.iconst 0, 1) := by decide +kernel
theorem d_DL_conclude_1 : decode b_DL_conclude 1 = .ok (.istore_n 3, 1) := by decide +kernel
theorem d_DL_conclude_2 : decode b_DL_conclude 2 = .ok (.iload_n 3, 1) := by decide +kernel
theorem d_DL_conclude_3 : decode b_DL_conclude 3 = .ok (.bipush 6, 2) := by decide +kernel
theorem d_DL_conclude_5 : decode b_DL_conclude 5 = .ok (.if_icmp .ge 28, 3) := by decide +kernel
theorem d_DL_conclude_8 : decode b_DL_conclude 8 = .ok (.aload_n 0, 1) := by decide +kernel
theorem d_DL_conclude_9 : decode b_DL_conclude 9 = .ok (.getfield 24, 3) := by decide +kernel
theorem d_DL_conclude_12 : decode b_DL_conclude 12 = .ok (.iload_n 3, 1) := by decide +kernel
theorem d_DL_conclude_13 : decode b_DL_conclude 13 = .ok (.aaload, 1) := by decide +kernel
theorem d_DL_conclude_14 : decode b_DL_conclude 14 = .ok (.invokevirtual 135, 3) := by decide +kernel
theorem d_DL_conclude_17 : decode b_DL_conclude 17 = .ok (.ifCond .eq 10, 3) := by decide +kernel
theorem d_DL_conclude_20 : decode b_DL_conclude 20 = .ok (.aload_n 0, 1) := by decide +kernel
theorem d_DL_conclude_21 : decode b_DL_conclude 21 = .ok (.iconst (-1), 1) := by decide +kernel
theorem d_DL_conclude_22 : decode b_DL_conclude 22 = .ok (.iload_n 3, 1) := by decide +kernel
theorem d_DL_conclude_23 : decode b_DL_conclude 23 = .ok (.invokevirtual 138, 3) := by decide +kernel
theorem d_DL_conclude_26 : decode b_DL_conclude 26 = .ok (.ireturn, 1) := by decide +kernel
theorem d_DL_conclude_27 : decode b_DL_conclude 27 = .ok (.iinc 3 1, 3) := by decide +kernel
theorem d_DL_conclude_30 : decode b_DL_conclude 30 = .ok (.goto (-28), 3) := by decide +kernel
theorem d_DL_conclude_33 : decode b_DL_conclude 33 = .ok (.iconst 0, 1) := by decide +kernel
theorem d_DL_conclude_34 : decode b_DL_conclude 34 = .ok (.istore_n 3, 1) := by decide +kernel
theorem d_DL_conclude_35 : decode b_DL_conclude 35 = .ok (.iload_n 3, 1) := by decide +kernel
theorem d_DL_conclude_36 : decode b_DL_conclude 36 = .ok (.iconst 2, 1) := by decide +kernel
theorem d_DL_conclude_37 : decode b_DL_conclude 37 = .ok (.if_icmp .ge 28, 3) := by decide +kernel
theorem d_DL_conclude_40 : decode b_DL_conclude 40 = .ok (.aload_n 0, 1) := by decide +kernel
theorem d_DL_conclude_41 : decode b_DL_conclude 41 = .ok (.getfield 24, 3) := by decide +kernel
theorem d_DL_conclude_44 : decode b_DL_conclude 44 = .ok (.iload_n 3, 1) := by decide +kernel
theorem d_DL_conclude_45 : decode b_DL_conclude 45 = .ok (.aaload, 1) := by decide +kernel
theorem d_DL_conclude_46 : decode b_DL_conclude 46 = .ok (.invokevirtual 141, 3) := by decide +kernel
theorem d_DL_conclude_49 : decode b_DL_conclude 49 = .ok (.ifCond .eq 10, 3) := by decide +kernel
theorem d_DL_conclude_52 : decode b_DL_conclude 52 = .ok (.aload_n 0, 1) := by decide +kernel
theorem d_DL_conclude_53 : decode b_DL_conclude 53 = .ok (.iconst 0, 1) := by decide +kernel
theorem d_DL_conclude_54 : decode b_DL_conclude 54 = .ok (.iload_n 3, 1) := by decide +kernel
theorem d_DL_conclude_55 : decode b_DL_conclude 55 = .ok (.invokevirtual 138, 3) := by decide +kernel
theorem d_DL_conclude_58 : decode b_DL_conclude 58 = .ok (.ireturn, 1) := by decide +kernel
theorem d_DL_conclude_59 : decode b_DL_conclude 59 = .ok (.iinc 3 1, 3) := by decide +kernel
theorem d_DL_conclude_62 : decode b_DL_conclude 62 = .ok (.goto (-27), 3) := by decide +kernel
theorem d_DL_conclude_65 : decode b_DL_conclude 65 = .ok (.iload_n 2, 1) := by decide +kernel
theorem d_DL_conclude_66 : decode b_DL_conclude 66 = .ok (.ifCond .eq 23, 3) := by decide +kernel
theorem d_DL_conclude_69 : decode b_DL_conclude 69 = .ok (.aload_n 0, 1) := by decide +kernel
theorem d_DL_conclude_70 : decode b_DL_conclude 70 = .ok (.getfield 24, 3) := by decide +kernel
theorem d_DL_conclude_73 : decode b_DL_conclude 73 = .ok (.iconst 5, 1) := by decide +kernel
theorem d_DL_conclude_74 : decode b_DL_conclude 74 = .ok (.aaload, 1) := by decide +kernel
theorem d_DL_conclude_75 : decode b_DL_conclude 75 = .ok (.iload_n 1, 1) := by decide +kernel
theorem d_DL_conclude_76 : decode b_DL_conclude 76 = .ok (.invokevirtual 144, 3) := by decide +kernel
theorem d_DL_conclude_79 : decode b_DL_conclude 79 = .ok (.ifCond .eq 10, 3) := by decide +kernel
theorem d_DL_conclude_82 : decode b_DL_conclude 82 = .ok (.aload_n 0, 1) := by decide +kernel
theorem d_DL_conclude_83 : decode b_DL_conclude 83 = .ok (.iconst 1, 1) := by decide +kernel
theorem d_DL_conclude_84 : decode b_DL_conclude 84 = .ok (.iconst 5, 1) := by decide +kernel
theorem d_DL_conclude_85 : decode b_DL_conclude 85 = .ok (.invokevirtual 138, 3) := by decide +kernel
theorem d_DL_conclude_88 : decode b_DL_conclude 88 = .ok (.ireturn, 1) := by decide +kernel
theorem d_DL_conclude_89 : decode b_DL_conclude 89 = .ok (.aload_n 0, 1) := by decide +kernel
theorem d_DL_conclude_90 : decode b_DL_conclude 90 = .ok (.iload_n 2, 1) := by decide +kernel
theorem d_DL_conclude_91 : decode b_DL_conclude 91 = .ok (.invokevirtual 147, 3) := by decide +kernel
theorem d_DL_conclude_94 : decode b_DL_conclude 94 = .ok (.ireturn, 1) := by decide +kernel
theorem d_DL_concludeFromGrants_0 : decode b_DL_concludeFromGrants 0 = .ok (.aload_n 0, 1) := by decide +kernel
theorem d_DL_concludeFromGrants_1 : decode b_DL_concludeFromGrants 1 = .ok (.getfield 24, 3) := by decide +kernel
theorem d_DL_concludeFromGrants_4 : decode b_DL_concludeFromGrants 4 = .ok (.iconst 4, 1) := by decide +kernel
theorem d_DL_concludeFromGrants_5 : decode b_DL_concludeFromGrants 5 = .ok (.aaload, 1) := by decide +kernel
theorem d_DL_concludeFromGrants_6 : decode b_DL_concludeFromGrants 6 = .ok (.invokevirtual 151, 3) := by decide +kernel
theorem d_DL_concludeFromGrants_9 : decode b_DL_concludeFromGrants 9 = .ok (.istore_n 2, 1) := by decide +kernel
theorem d_DL_concludeFromGrants_10 : decode b_DL_concludeFromGrants 10 = .ok (.aload_n 0, 1) := by decide +kernel
theorem d_DL_concludeFromGrants_11 : decode b_DL_concludeFromGrants 11 = .ok (.getfield 24, 3) := by decide +kernel
theorem d_DL_concludeFromGrants_14 : decode b_DL_concludeFromGrants 14 = .ok (.iconst 5, 1) := by decide +kernel
theorem d_DL_concludeFromGrants_15 : decode b_DL_concludeFromGrants 15 = .ok (.aaload, 1) := by decide +kernel
theorem d_DL_concludeFromGrants_16 : decode b_DL_concludeFromGrants 16 = .ok (.invokevirtual 151, 3) := by decide +kernel
theorem d_DL_concludeFromGrants_19 : decode b_DL_concludeFromGrants 19 = .ok (.istore_n 3, 1) := by decide +kernel
theorem d_DL_concludeFromGrants_20 : decode b_DL_concludeFromGrants 20 = .ok (.iload_n 2, 1) := by decide +kernel
theorem d_DL_concludeFromGrants_21 : decode b_DL_concludeFromGrants 21 = .ok (.ifCond .ne 18, 3) := by decide +kernel
theorem d_DL_concludeFromGrants_24 : decode b_DL_concludeFromGrants 24 = .ok (.iload_n 1, 1) := by decide +kernel
theorem d_DL_concludeFromGrants_25 : decode b_DL_concludeFromGrants 25 = .ok (.ifCond .eq 7, 3) := by decide +kernel
theorem d_DL_concludeFromGrants_28 : decode b_DL_concludeFromGrants 28 = .ok (.iload_n 3, 1) := by decide +kernel
theorem d_DL_concludeFromGrants_29 : decode b_DL_concludeFromGrants 29 = .ok (.ifCond .ne 10, 3) := by decide +kernel
theorem d_DL_concludeFromGrants_32 : decode b_DL_concludeFromGrants 32 = .ok (.aload_n 0, 1) := by decide +kernel
theorem d_DL_concludeFromGrants_33 : decode b_DL_concludeFromGrants 33 = .ok (.iconst 0, 1) := by decide +kernel
theorem d_DL_concludeFromGrants_34 : decode b_DL_concludeFromGrants 34 = .ok (.iconst 4, 1) := by decide +kernel
theorem d_DL_concludeFromGrants_35 : decode b_DL_concludeFromGrants 35 = .ok (.invokevirtual 138, 3) := by decide +kernel
theorem d_DL_concludeFromGrants_38 : decode b_DL_concludeFromGrants 38 = .ok (.ireturn, 1) := by decide +kernel
theorem d_DL_concludeFromGrants_39 : decode b_DL_concludeFromGrants 39 = .ok (.iload_n 1, 1) := by decide +kernel
theorem d_DL_concludeFromGrants_40 : decode b_DL_concludeFromGrants 40 = .ok (.ifCond .ne 14, 3) := by decide +kernel
theorem d_DL_concludeFromGrants_43 : decode b_DL_concludeFromGrants 43 = .ok (.iload_n 3, 1) := by decide +kernel
theorem d_DL_concludeFromGrants_44 : decode b_DL_concludeFromGrants 44 = .ok (.ifCond .ne 10, 3) := by decide +kernel
theorem d_DL_concludeFromGrants_47 : decode b_DL_concludeFromGrants 47 = .ok (.aload_n 0, 1) := by decide +kernel
theorem d_DL_concludeFromGrants_48 : decode b_DL_concludeFromGrants 48 = .ok (.iconst 0, 1) := by decide +kernel
theorem d_DL_concludeFromGrants_49 : decode b_DL_concludeFromGrants 49 = .ok (.iconst 5, 1) := by decide +kernel
theorem d_DL_concludeFromGrants_50 : decode b_DL_concludeFromGrants 50 = .ok (.invokevirtual 138, 3) := by decide +kernel
theorem d_DL_concludeFromGrants_53 : decode b_DL_concludeFromGrants 53 = .ok (.ireturn, 1) := by decide +kernel
theorem d_DL_concludeFromGrants_54 : decode b_DL_concludeFromGrants 54 = .ok (.iconst 2, 1) := by decide +kernel
theorem d_DL_concludeFromGrants_55 : decode b_DL_concludeFromGrants 55 = .ok (.istore 4, 2) := by decide +kernel
theorem d_DL_concludeFromGrants_57 : decode b_DL_concludeFromGrants 57 = .ok (.iload 4, 2) := by decide +kernel
theorem d_DL_concludeFromGrants_59 : decode b_DL_concludeFromGrants 59 = .ok (.iconst 3, 1) := by decide +kernel
theorem d_DL_concludeFromGrants_60 : decode b_DL_concludeFromGrants 60 = .ok (.if_icmp .gt 30, 3) := by decide +kernel
theorem d_DL_concludeFromGrants_63 : decode b_DL_concludeFromGrants 63 = .ok (.aload_n 0, 1) := by decide +kernel
theorem d_DL_concludeFromGrants_64 : decode b_DL_concludeFromGrants 64 = .ok (.getfield 24, 3) := by decide +kernel
theorem d_DL_concludeFromGrants_67 : decode b_DL_concludeFromGrants 67 = .ok (.iload 4, 2) := by decide +kernel
theorem d_DL_concludeFromGrants_69 : decode b_DL_concludeFromGrants 69 = .ok (.aaload, 1) := by decide +kernel
theorem d_DL_concludeFromGrants_70 : decode b_DL_concludeFromGrants 70 = .ok (.invokevirtual 141, 3) := by decide +kernel
theorem d_DL_concludeFromGrants_73 : decode b_DL_concludeFromGrants 73 = .ok (.ifCond .eq 11, 3) := by decide +kernel
theorem d_DL_concludeFromGrants_76 : decode b_DL_concludeFromGrants 76 = .ok (.aload_n 0, 1) := by decide +kernel
theorem d_DL_concludeFromGrants_77 : decode b_DL_concludeFromGrants 77 = .ok (.iconst 0, 1) := by decide +kernel
theorem d_DL_concludeFromGrants_78 : decode b_DL_concludeFromGrants 78 = .ok (.iload 4, 2) := by decide +kernel
theorem d_DL_concludeFromGrants_80 : decode b_DL_concludeFromGrants 80 = .ok (.invokevirtual 138, 3) := by decide +kernel
theorem d_DL_concludeFromGrants_83 : decode b_DL_concludeFromGrants 83 = .ok (.ireturn, 1) := by decide +kernel
theorem d_DL_concludeFromGrants_84 : decode b_DL_concludeFromGrants 84 = .ok (.iinc 4 1, 3) := by decide +kernel
theorem d_DL_concludeFromGrants_87 : decode b_DL_concludeFromGrants 87 = .ok (.goto (-30), 3) := by decide +kernel
theorem d_DL_concludeFromGrants_90 : decode b_DL_concludeFromGrants 90 = .ok (.aload_n 0, 1) := by decide +kernel
theorem d_DL_concludeFromGrants_91 : decode b_DL_concludeFromGrants 91 = .ok (.iconst 1, 1) := by decide +kernel
theorem d_DL_concludeFromGrants_92 : decode b_DL_concludeFromGrants 92 = .ok (.iload_n 2, 1) := by decide +kernel
theorem d_DL_concludeFromGrants_93 : decode b_DL_concludeFromGrants 93 = .ok (.ifCond .eq 7, 3) := by decide +kernel
theorem d_DL_concludeFromGrants_96 : decode b_DL_concludeFromGrants 96 = .ok (.iconst 4, 1) := by decide +kernel
theorem d_DL_concludeFromGrants_97 : decode b_DL_concludeFromGrants 97 = .ok (.goto 4, 3) := by decide +kernel
theorem d_DL_concludeFromGrants_100 : decode b_DL_concludeFromGrants 100 = .ok (.iconst 5, 1) := by decide +kernel
theorem d_DL_concludeFromGrants_101 : decode b_DL_concludeFromGrants 101 = .ok (.invokevirtual 138, 3) := by decide +kernel
theorem d_DL_concludeFromGrants_104 : decode b_DL_concludeFromGrants 104 = .ok (.ireturn, 1) := by decide +kernel
theorem d_DL_decide_0 : decode b_DL_decide 0 = .ok (.iload_n 1, 1) := by decide +kernel
theorem d_DL_decide_1 : decode b_DL_decide 1 = .ok (.invokestatic 96, 3) := by decide +kernel
theorem d_DL_decide_4 : decode b_DL_decide 4 = .ok (.ifCond .eq 18, 3) := by decide +kernel
theorem d_DL_decide_7 : decode b_DL_decide 7 = .ok (.iload_n 2, 1) := by decide +kernel
theorem d_DL_decide_8 : decode b_DL_decide 8 = .ok (.invokestatic 96, 3) := by decide +kernel
theorem d_DL_decide_11 : decode b_DL_decide 11 = .ok (.ifCond .eq 11, 3) := by decide +kernel
theorem d_DL_decide_14 : decode b_DL_decide 14 = .ok (.iload 7, 2) := by decide +kernel
theorem d_DL_decide_16 : decode b_DL_decide 16 = .ok (.invokestatic 96, 3) := by decide +kernel
theorem d_DL_decide_19 : decode b_DL_decide 19 = .ok (.ifCond .ne 6, 3) := by decide +kernel
theorem d_DL_decide_22 : decode b_DL_decide 22 = .ok (.bipush (-2), 2) := by decide +kernel
theorem d_DL_decide_24 : decode b_DL_decide 24 = .ok (.ireturn, 1) := by decide +kernel
theorem d_DL_decide_25 : decode b_DL_decide 25 = .ok (.iload_n 1, 1) := by decide +kernel
theorem d_DL_decide_26 : decode b_DL_decide 26 = .ok (.iload_n 2, 1) := by decide +kernel
theorem d_DL_decide_27 : decode b_DL_decide 27 = .ok (.invokestatic 99, 3) := by decide +kernel
theorem d_DL_decide_30 : decode b_DL_decide 30 = .ok (.istore 8, 2) := by decide +kernel
theorem d_DL_decide_32 : decode b_DL_decide 32 = .ok (.iconst 0, 1) := by decide +kernel
theorem d_DL_decide_33 : decode b_DL_decide 33 = .ok (.istore 9, 2) := by decide +kernel
theorem d_DL_decide_35 : decode b_DL_decide 35 = .ok (.iload 9, 2) := by decide +kernel
theorem d_DL_decide_37 : decode b_DL_decide 37 = .ok (.bipush 6, 2) := by decide +kernel
theorem d_DL_decide_39 : decode b_DL_decide 39 = .ok (.if_icmp .ge 28, 3) := by decide +kernel
theorem d_DL_decide_42 : decode b_DL_decide 42 = .ok (.aload_n 0, 1) := by decide +kernel
theorem d_DL_decide_43 : decode b_DL_decide 43 = .ok (.getfield 24, 3) := by decide +kernel
theorem d_DL_decide_46 : decode b_DL_decide 46 = .ok (.iload 9, 2) := by decide +kernel
theorem d_DL_decide_48 : decode b_DL_decide 48 = .ok (.aaload, 1) := by decide +kernel
theorem d_DL_decide_49 : decode b_DL_decide 49 = .ok (.iload 8, 2) := by decide +kernel
theorem d_DL_decide_51 : decode b_DL_decide 51 = .ok (.lload_n 3, 1) := by decide +kernel
theorem d_DL_decide_52 : decode b_DL_decide 52 = .ok (.lload 5, 2) := by decide +kernel
theorem d_DL_decide_54 : decode b_DL_decide 54 = .ok (.aload_n 0, 1) := by decide +kernel
theorem d_DL_decide_55 : decode b_DL_decide 55 = .ok (.getfield 10, 3) := by decide +kernel
theorem d_DL_decide_58 : decode b_DL_decide 58 = .ok (.invokevirtual 103, 3) := by decide +kernel
theorem d_DL_decide_61 : decode b_DL_decide 61 = .ok (.iinc 9 1, 3) := by decide +kernel
theorem d_DL_decide_64 : decode b_DL_decide 64 = .ok (.goto (-29), 3) := by decide +kernel
theorem d_DL_decide_67 : decode b_DL_decide 67 = .ok (.aload_n 0, 1) := by decide +kernel
theorem d_DL_decide_68 : decode b_DL_decide 68 = .ok (.iload 8, 2) := by decide +kernel
theorem d_DL_decide_70 : decode b_DL_decide 70 = .ok (.iload 7, 2) := by decide +kernel
theorem d_DL_decide_72 : decode b_DL_decide 72 = .ok (.iload_n 1, 1) := by decide +kernel
theorem d_DL_decide_73 : decode b_DL_decide 73 = .ok (.if_icmp .ne 7, 3) := by decide +kernel
theorem d_DL_decide_76 : decode b_DL_decide 76 = .ok (.iconst 1, 1) := by decide +kernel
theorem d_DL_decide_77 : decode b_DL_decide 77 = .ok (.goto 4, 3) := by decide +kernel
theorem d_DL_decide_80 : decode b_DL_decide 80 = .ok (.iconst 0, 1) := by decide +kernel
theorem d_DL_decide_81 : decode b_DL_decide 81 = .ok (.invokevirtual 107, 3) := by decide +kernel
theorem d_DL_decide_84 : decode b_DL_decide 84 = .ok (.ireturn, 1) := by decide +kernel
theorem d_DL_discard_0 : decode b_DL_discard 0 = .ok (.aload_n 0, 1) := by decide +kernel
theorem d_DL_discard_1 : decode b_DL_discard 1 = .ok (.invokevirtual 55, 3) := by decide +kernel
theorem d_DL_discard_4 : decode b_DL_discard 4 = .ok (.ifnull 7, 3) := by decide +kernel
theorem d_DL_discard_7 : decode b_DL_discard 7 = .ok (.iconst 1, 1) := by decide +kernel
theorem d_DL_discard_8 : decode b_DL_discard 8 = .ok (.goto 4, 3) := by decide +kernel
theorem d_DL_discard_11 : decode b_DL_discard 11 = .ok (.iconst 0, 1) := by decide +kernel
theorem d_DL_discard_12 : decode b_DL_discard 12 = .ok (.ireturn, 1) := by decide +kernel
theorem d_DL_drop_0 : decode b_DL_drop 0 = .ok (.iload_n 1, 1) := by decide +kernel
theorem d_DL_drop_1 : decode b_DL_drop 1 = .ok (.invokestatic 62, 3) := by decide +kernel
theorem d_DL_drop_4 : decode b_DL_drop 4 = .ok (.ifCond .eq 15, 3) := by decide +kernel
theorem d_DL_drop_7 : decode b_DL_drop 7 = .ok (.aload_n 0, 1) := by decide +kernel
theorem d_DL_drop_8 : decode b_DL_drop 8 = .ok (.getfield 24, 3) := by decide +kernel
theorem d_DL_drop_11 : decode b_DL_drop 11 = .ok (.iload_n 1, 1) := by decide +kernel
theorem d_DL_drop_12 : decode b_DL_drop 12 = .ok (.aaload, 1) := by decide +kernel
theorem d_DL_drop_13 : decode b_DL_drop 13 = .ok (.getfield 79, 3) := by decide +kernel
theorem d_DL_drop_16 : decode b_DL_drop 16 = .ok (.ifCond .ne 5, 3) := by decide +kernel
theorem d_DL_drop_19 : decode b_DL_drop 19 = .ok (.iconst 0, 1) := by decide +kernel
theorem d_DL_drop_20 : decode b_DL_drop 20 = .ok (.ireturn, 1) := by decide +kernel
theorem d_DL_drop_21 : decode b_DL_drop 21 = .ok (.aload_n 0, 1) := by decide +kernel
theorem d_DL_drop_22 : decode b_DL_drop 22 = .ok (.getfield 24, 3) := by decide +kernel
theorem d_DL_drop_25 : decode b_DL_drop 25 = .ok (.iload_n 1, 1) := by decide +kernel
theorem d_DL_drop_26 : decode b_DL_drop 26 = .ok (.aaload, 1) := by decide +kernel
theorem d_DL_drop_27 : decode b_DL_drop 27 = .ok (.invokevirtual 83, 3) := by decide +kernel
theorem d_DL_drop_30 : decode b_DL_drop 30 = .ok (.iconst 1, 1) := by decide +kernel
theorem d_DL_drop_31 : decode b_DL_drop 31 = .ok (.ireturn, 1) := by decide +kernel
theorem d_DL_forget_0 : decode b_DL_forget 0 = .ok (.iload_n 1, 1) := by decide +kernel
theorem d_DL_forget_1 : decode b_DL_forget 1 = .ok (.invokestatic 36, 3) := by decide +kernel
theorem d_DL_forget_4 : decode b_DL_forget 4 = .ok (.ifCond .eq 14, 3) := by decide +kernel
theorem d_DL_forget_7 : decode b_DL_forget 7 = .ok (.aload_n 0, 1) := by decide +kernel
theorem d_DL_forget_8 : decode b_DL_forget 8 = .ok (.getfield 10, 3) := by decide +kernel
theorem d_DL_forget_11 : decode b_DL_forget 11 = .ok (.iload_n 1, 1) := by decide +kernel
theorem d_DL_forget_12 : decode b_DL_forget 12 = .ok (.invokevirtual 94, 3) := by decide +kernel
theorem d_DL_forget_15 : decode b_DL_forget 15 = .ok (.goto 5, 3) := by decide +kernel
theorem d_DL_forget_18 : decode b_DL_forget 18 = .ok (.bipush (-2), 2) := by decide +kernel
theorem d_DL_forget_20 : decode b_DL_forget 20 = .ok (.ireturn, 1) := by decide +kernel
theorem d_DL_greatestDepthOfTopmost_0 : decode b_DL_greatestDepthOfTopmost 0 = .ok (.iconst 0, 1) := by decide +kernel
theorem d_DL_greatestDepthOfTopmost_1 : decode b_DL_greatestDepthOfTopmost 1 = .ok (.istore_n 2, 1) := by decide +kernel
theorem d_DL_greatestDepthOfTopmost_2 : decode b_DL_greatestDepthOfTopmost 2 = .ok (.aload_n 0, 1) := by decide +kernel
theorem d_DL_greatestDepthOfTopmost_3 : decode b_DL_greatestDepthOfTopmost 3 = .ok (.getfield 29, 3) := by decide +kernel
theorem d_DL_greatestDepthOfTopmost_6 : decode b_DL_greatestDepthOfTopmost 6 = .ok (.iload_n 1, 1) := by decide +kernel
theorem d_DL_greatestDepthOfTopmost_7 : decode b_DL_greatestDepthOfTopmost 7 = .ok (.isub, 1) := by decide +kernel
theorem d_DL_greatestDepthOfTopmost_8 : decode b_DL_greatestDepthOfTopmost 8 = .ok (.istore_n 3, 1) := by decide +kernel
theorem d_DL_greatestDepthOfTopmost_9 : decode b_DL_greatestDepthOfTopmost 9 = .ok (.iload_n 3, 1) := by decide +kernel
theorem d_DL_greatestDepthOfTopmost_10 : decode b_DL_greatestDepthOfTopmost 10 = .ok (.aload_n 0, 1) := by decide +kernel
theorem d_DL_greatestDepthOfTopmost_11 : decode b_DL_greatestDepthOfTopmost 11 = .ok (.getfield 29, 3) := by decide +kernel
theorem d_DL_greatestDepthOfTopmost_14 : decode b_DL_greatestDepthOfTopmost 14 = .ok (.if_icmp .ge 32, 3) := by decide +kernel
theorem d_DL_greatestDepthOfTopmost_17 : decode b_DL_greatestDepthOfTopmost 17 = .ok (.aload_n 0, 1) := by decide +kernel
theorem d_DL_greatestDepthOfTopmost_18 : decode b_DL_greatestDepthOfTopmost 18 = .ok (.getfield 18, 3) := by decide +kernel
theorem d_DL_greatestDepthOfTopmost_21 : decode b_DL_greatestDepthOfTopmost 21 = .ok (.iload_n 3, 1) := by decide +kernel
theorem d_DL_greatestDepthOfTopmost_22 : decode b_DL_greatestDepthOfTopmost 22 = .ok (.aaload, 1) := by decide +kernel
theorem d_DL_greatestDepthOfTopmost_23 : decode b_DL_greatestDepthOfTopmost 23 = .ok (.astore 4, 2) := by decide +kernel
theorem d_DL_greatestDepthOfTopmost_25 : decode b_DL_greatestDepthOfTopmost 25 = .ok (.aload 4, 2) := by decide +kernel
theorem d_DL_greatestDepthOfTopmost_27 : decode b_DL_greatestDepthOfTopmost 27 = .ok (.ifnull 13, 3) := by decide +kernel
theorem d_DL_greatestDepthOfTopmost_30 : decode b_DL_greatestDepthOfTopmost 30 = .ok (.iload_n 2, 1) := by decide +kernel
theorem d_DL_greatestDepthOfTopmost_31 : decode b_DL_greatestDepthOfTopmost 31 = .ok (.aload 4, 2) := by decide +kernel
theorem d_DL_greatestDepthOfTopmost_33 : decode b_DL_greatestDepthOfTopmost 33 = .ok (.getfield 127, 3) := by decide +kernel
theorem d_DL_greatestDepthOfTopmost_36 : decode b_DL_greatestDepthOfTopmost 36 = .ok (.invokestatic 130, 3) := by decide +kernel
theorem d_DL_greatestDepthOfTopmost_39 : decode b_DL_greatestDepthOfTopmost 39 = .ok (.istore_n 2, 1) := by decide +kernel
theorem d_DL_greatestDepthOfTopmost_40 : decode b_DL_greatestDepthOfTopmost 40 = .ok (.iinc 3 1, 3) := by decide +kernel
theorem d_DL_greatestDepthOfTopmost_43 : decode b_DL_greatestDepthOfTopmost 43 = .ok (.goto (-34), 3) := by decide +kernel
theorem d_DL_greatestDepthOfTopmost_46 : decode b_DL_greatestDepthOfTopmost 46 = .ok (.iload_n 2, 1) := by decide +kernel
theorem d_DL_greatestDepthOfTopmost_47 : decode b_DL_greatestDepthOfTopmost 47 = .ok (.ireturn, 1) := by decide +kernel
theorem d_DL_holds_0 : decode b_DL_holds 0 = .ok (.iload_n 1, 1) := by decide +kernel
theorem d_DL_holds_1 : decode b_DL_holds 1 = .ok (.ifCond .lt 11, 3) := by decide +kernel
theorem d_DL_holds_4 : decode b_DL_holds 4 = .ok (.iload_n 1, 1) := by decide +kernel
theorem d_DL_holds_5 : decode b_DL_holds 5 = .ok (.aload_n 0, 1) := by decide +kernel
theorem d_DL_holds_6 : decode b_DL_holds 6 = .ok (.getfield 29, 3) := by decide +kernel
theorem d_DL_holds_9 : decode b_DL_holds 9 = .ok (.if_icmp .lt 5, 3) := by decide +kernel
theorem d_DL_holds_12 : decode b_DL_holds 12 = .ok (.iconst 0, 1) := by decide +kernel
theorem d_DL_holds_13 : decode b_DL_holds 13 = .ok (.ireturn, 1) := by decide +kernel
theorem d_DL_holds_14 : decode b_DL_holds 14 = .ok (.aload_n 0, 1) := by decide +kernel
theorem d_DL_holds_15 : decode b_DL_holds 15 = .ok (.getfield 18, 3) := by decide +kernel
theorem d_DL_holds_18 : decode b_DL_holds 18 = .ok (.iload_n 1, 1) := by decide +kernel
theorem d_DL_holds_19 : decode b_DL_holds 19 = .ok (.aaload, 1) := by decide +kernel
theorem d_DL_holds_20 : decode b_DL_holds 20 = .ok (.astore_n 2, 1) := by decide +kernel
theorem d_DL_holds_21 : decode b_DL_holds 21 = .ok (.aload_n 2, 1) := by decide +kernel
theorem d_DL_holds_22 : decode b_DL_holds 22 = .ok (.ifnull 18, 3) := by decide +kernel
theorem d_DL_holds_25 : decode b_DL_holds 25 = .ok (.aload_n 2, 1) := by decide +kernel
theorem d_DL_holds_26 : decode b_DL_holds 26 = .ok (.aload_n 0, 1) := by decide +kernel
theorem d_DL_holds_27 : decode b_DL_holds 27 = .ok (.getfield 10, 3) := by decide +kernel
theorem d_DL_holds_30 : decode b_DL_holds 30 = .ok (.invokevirtual 120, 3) := by decide +kernel
theorem d_DL_holds_33 : decode b_DL_holds 33 = .ok (.ifCond .eq 7, 3) := by decide +kernel
theorem d_DL_holds_36 : decode b_DL_holds 36 = .ok (.iconst 1, 1) := by decide +kernel
theorem d_DL_holds_37 : decode b_DL_holds 37 = .ok (.goto 4, 3) := by decide +kernel
theorem d_DL_holds_40 : decode b_DL_holds 40 = .ok (.iconst 0, 1) := by decide +kernel
theorem d_DL_holds_41 : decode b_DL_holds 41 = .ok (.ireturn, 1) := by decide +kernel
theorem d_DL_init_0 : decode b_DL_init 0 = .ok (.aload_n 0, 1) := by decide +kernel
theorem d_DL_init_1 : decode b_DL_init 1 = .ok (.invokespecial 1, 3) := by decide +kernel
theorem d_DL_init_4 : decode b_DL_init 4 = .ok (.aload_n 0, 1) := by decide +kernel
theorem d_DL_init_5 : decode b_DL_init 5 = .ok (.new 7, 3) := by decide +kernel
theorem d_DL_init_8 : decode b_DL_init 8 = .ok (.dup, 1) := by decide +kernel
theorem d_DL_init_9 : decode b_DL_init 9 = .ok (.invokespecial 9, 3) := by decide +kernel
theorem d_DL_init_12 : decode b_DL_init 12 = .ok (.putfield 10, 3) := by decide +kernel
theorem d_DL_init_15 : decode b_DL_init 15 = .ok (.aload_n 0, 1) := by decide +kernel
theorem d_DL_init_16 : decode b_DL_init 16 = .ok (.bipush 8, 2) := by decide +kernel
theorem d_DL_init_18 : decode b_DL_init 18 = .ok (.anewarray 16, 3) := by decide +kernel
theorem d_DL_init_21 : decode b_DL_init 21 = .ok (.putfield 18, 3) := by decide +kernel
theorem d_DL_init_24 : decode b_DL_init 24 = .ok (.aload_n 0, 1) := by decide +kernel
theorem d_DL_init_25 : decode b_DL_init 25 = .ok (.bipush 6, 2) := by decide +kernel
theorem d_DL_init_27 : decode b_DL_init 27 = .ok (.anewarray 22, 3) := by decide +kernel
theorem d_DL_init_30 : decode b_DL_init 30 = .ok (.putfield 24, 3) := by decide +kernel
theorem d_DL_init_33 : decode b_DL_init 33 = .ok (.iconst 0, 1) := by decide +kernel
theorem d_DL_init_34 : decode b_DL_init 34 = .ok (.istore_n 1, 1) := by decide +kernel
theorem d_DL_init_35 : decode b_DL_init 35 = .ok (.iload_n 1, 1) := by decide +kernel
theorem d_DL_init_36 : decode b_DL_init 36 = .ok (.bipush 6, 2) := by decide +kernel
theorem d_DL_init_38 : decode b_DL_init 38 = .ok (.if_icmp .ge 22, 3) := by decide +kernel
theorem d_DL_init_41 : decode b_DL_init 41 = .ok (.aload_n 0, 1) := by decide +kernel
theorem d_DL_init_42 : decode b_DL_init 42 = .ok (.getfield 24, 3) := by decide +kernel
theorem d_DL_init_45 : decode b_DL_init 45 = .ok (.iload_n 1, 1) := by decide +kernel
theorem d_DL_init_46 : decode b_DL_init 46 = .ok (.new 22, 3) := by decide +kernel
theorem d_DL_init_49 : decode b_DL_init 49 = .ok (.dup, 1) := by decide +kernel
theorem d_DL_init_50 : decode b_DL_init 50 = .ok (.invokespecial 28, 3) := by decide +kernel
theorem d_DL_init_53 : decode b_DL_init 53 = .ok (.aastore, 1) := by decide +kernel
theorem d_DL_init_54 : decode b_DL_init 54 = .ok (.iinc 1 1, 3) := by decide +kernel
theorem d_DL_init_57 : decode b_DL_init 57 = .ok (.goto (-22), 3) := by decide +kernel
theorem d_DL_init_60 : decode b_DL_init 60 = .ok (.aload_n 0, 1) := by decide +kernel
theorem d_DL_init_61 : decode b_DL_init 61 = .ok (.iconst 0, 1) := by decide +kernel
theorem d_DL_init_62 : decode b_DL_init 62 = .ok (.putfield 29, 3) := by decide +kernel
theorem d_DL_init_65 : decode b_DL_init 65 = .ok (.aload_n 0, 1) := by decide +kernel
theorem d_DL_init_66 : decode b_DL_init 66 = .ok (.iconst (-1), 1) := by decide +kernel
theorem d_DL_init_67 : decode b_DL_init 67 = .ok (.putfield 33, 3) := by decide +kernel
theorem d_DL_init_70 : decode b_DL_init 70 = .ok (.return_, 1) := by decide +kernel
theorem d_DL_isDigit_0 : decode b_DL_isDigit 0 = .ok (.iload_n 0, 1) := by decide +kernel
theorem d_DL_isDigit_1 : decode b_DL_isDigit 1 = .ok (.ifCond .lt 13, 3) := by decide +kernel
theorem d_DL_isDigit_4 : decode b_DL_isDigit 4 = .ok (.iload_n 0, 1) := by decide +kernel
theorem d_DL_isDigit_5 : decode b_DL_isDigit 5 = .ok (.bipush 9, 2) := by decide +kernel
theorem d_DL_isDigit_7 : decode b_DL_isDigit 7 = .ok (.if_icmp .gt 7, 3) := by decide +kernel
theorem d_DL_isDigit_10 : decode b_DL_isDigit 10 = .ok (.iconst 1, 1) := by decide +kernel
theorem d_DL_isDigit_11 : decode b_DL_isDigit 11 = .ok (.goto 4, 3) := by decide +kernel
theorem d_DL_isDigit_14 : decode b_DL_isDigit 14 = .ok (.iconst 0, 1) := by decide +kernel
theorem d_DL_isDigit_15 : decode b_DL_isDigit 15 = .ok (.ireturn, 1) := by decide +kernel
theorem d_DL_isLayer_0 : decode b_DL_isLayer 0 = .ok (.iload_n 0, 1) := by decide +kernel
theorem d_DL_isLayer_1 : decode b_DL_isLayer 1 = .ok (.ifCond .lt 13, 3) := by decide +kernel
theorem d_DL_isLayer_4 : decode b_DL_isLayer 4 = .ok (.iload_n 0, 1) := by decide +kernel
theorem d_DL_isLayer_5 : decode b_DL_isLayer 5 = .ok (.bipush 6, 2) := by decide +kernel
theorem d_DL_isLayer_7 : decode b_DL_isLayer 7 = .ok (.if_icmp .ge 7, 3) := by decide +kernel
theorem d_DL_isLayer_10 : decode b_DL_isLayer 10 = .ok (.iconst 1, 1) := by decide +kernel
theorem d_DL_isLayer_11 : decode b_DL_isLayer 11 = .ok (.goto 4, 3) := by decide +kernel
theorem d_DL_isLayer_14 : decode b_DL_isLayer 14 = .ok (.iconst 0, 1) := by decide +kernel
theorem d_DL_isLayer_15 : decode b_DL_isLayer 15 = .ok (.ireturn, 1) := by decide +kernel
theorem d_DL_join_0 : decode b_DL_join 0 = .ok (.iload_n 1, 1) := by decide +kernel
theorem d_DL_join_1 : decode b_DL_join 1 = .ok (.ifCond .lt 20, 3) := by decide +kernel
theorem d_DL_join_4 : decode b_DL_join 4 = .ok (.iload_n 1, 1) := by decide +kernel
theorem d_DL_join_5 : decode b_DL_join 5 = .ok (.iconst 2, 1) := by decide +kernel
theorem d_DL_join_6 : decode b_DL_join 6 = .ok (.if_icmp .gt 15, 3) := by decide +kernel
theorem d_DL_join_9 : decode b_DL_join 9 = .ok (.iload_n 2, 1) := by decide +kernel
theorem d_DL_join_10 : decode b_DL_join 10 = .ok (.ifCond .lt 11, 3) := by decide +kernel
theorem d_DL_join_13 : decode b_DL_join 13 = .ok (.iload_n 2, 1) := by decide +kernel
theorem d_DL_join_14 : decode b_DL_join 14 = .ok (.aload_n 0, 1) := by decide +kernel
theorem d_DL_join_15 : decode b_DL_join 15 = .ok (.getfield 29, 3) := by decide +kernel
theorem d_DL_join_18 : decode b_DL_join 18 = .ok (.if_icmp .le 6, 3) := by decide +kernel
theorem d_DL_join_21 : decode b_DL_join 21 = .ok (.bipush (-2), 2) := by decide +kernel
theorem d_DL_join_23 : decode b_DL_join 23 = .ok (.ireturn, 1) := by decide +kernel
theorem d_DL_join_24 : decode b_DL_join 24 = .ok (.iload_n 1, 1) := by decide +kernel
theorem d_DL_join_25 : decode b_DL_join 25 = .ok (.iconst 2, 1) := by decide +kernel
theorem d_DL_join_26 : decode b_DL_join 26 = .ok (.if_icmp .ne 11, 3) := by decide +kernel
theorem d_DL_join_29 : decode b_DL_join 29 = .ok (.iload_n 2, 1) := by decide +kernel
theorem d_DL_join_30 : decode b_DL_join 30 = .ok (.iconst 1, 1) := by decide +kernel
theorem d_DL_join_31 : decode b_DL_join 31 = .ok (.if_icmp .eq 6, 3) := by decide +kernel
theorem d_DL_join_34 : decode b_DL_join 34 = .ok (.bipush (-2), 2) := by decide +kernel
theorem d_DL_join_36 : decode b_DL_join 36 = .ok (.ireturn, 1) := by decide +kernel
theorem d_DL_join_37 : decode b_DL_join 37 = .ok (.iload_n 2, 1) := by decide +kernel
theorem d_DL_join_38 : decode b_DL_join 38 = .ok (.ifCond .ne 15, 3) := by decide +kernel
theorem d_DL_join_41 : decode b_DL_join 41 = .ok (.aload_n 0, 1) := by decide +kernel
theorem d_DL_join_42 : decode b_DL_join 42 = .ok (.getfield 29, 3) := by decide +kernel
theorem d_DL_join_45 : decode b_DL_join 45 = .ok (.bipush 8, 2) := by decide +kernel
theorem d_DL_join_47 : decode b_DL_join 47 = .ok (.if_icmp .lt 6, 3) := by decide +kernel
theorem d_DL_join_50 : decode b_DL_join 50 = .ok (.bipush (-3), 2) := by decide +kernel
theorem d_DL_join_52 : decode b_DL_join 52 = .ok (.ireturn, 1) := by decide +kernel
theorem d_DL_join_53 : decode b_DL_join 53 = .ok (.iconst 1, 1) := by decide +kernel
theorem d_DL_join_54 : decode b_DL_join 54 = .ok (.aload_n 0, 1) := by decide +kernel
theorem d_DL_join_55 : decode b_DL_join 55 = .ok (.iload_n 2, 1) := by decide +kernel
theorem d_DL_join_56 : decode b_DL_join 56 = .ok (.invokevirtual 51, 3) := by decide +kernel
theorem d_DL_join_59 : decode b_DL_join 59 = .ok (.iadd, 1) := by decide +kernel
theorem d_DL_join_60 : decode b_DL_join 60 = .ok (.istore_n 3, 1) := by decide +kernel
theorem d_DL_join_61 : decode b_DL_join 61 = .ok (.iload_n 3, 1) := by decide +kernel
theorem d_DL_join_62 : decode b_DL_join 62 = .ok (.iconst 5, 1) := by decide +kernel
theorem d_DL_join_63 : decode b_DL_join 63 = .ok (.if_icmp .le 6, 3) := by decide +kernel
theorem d_DL_join_66 : decode b_DL_join 66 = .ok (.bipush (-4), 2) := by decide +kernel
theorem d_DL_join_68 : decode b_DL_join 68 = .ok (.ireturn, 1) := by decide +kernel
theorem d_DL_join_69 : decode b_DL_join 69 = .ok (.iload_n 2, 1) := by decide +kernel
theorem d_DL_join_70 : decode b_DL_join 70 = .ok (.anewarray 16, 3) := by decide +kernel
theorem d_DL_join_73 : decode b_DL_join 73 = .ok (.astore 4, 2) := by decide +kernel
theorem d_DL_join_75 : decode b_DL_join 75 = .ok (.iload_n 2, 1) := by decide +kernel
theorem d_DL_join_76 : decode b_DL_join 76 = .ok (.iconst 1, 1) := by decide +kernel
theorem d_DL_join_77 : decode b_DL_join 77 = .ok (.isub, 1) := by decide +kernel
theorem d_DL_join_78 : decode b_DL_join 78 = .ok (.istore 5, 2) := by decide +kernel
theorem d_DL_join_80 : decode b_DL_join 80 = .ok (.iload 5, 2) := by decide +kernel
theorem d_DL_join_82 : decode b_DL_join 82 = .ok (.ifCond .lt 18, 3) := by decide +kernel
theorem d_DL_join_85 : decode b_DL_join 85 = .ok (.aload 4, 2) := by decide +kernel
theorem d_DL_join_87 : decode b_DL_join 87 = .ok (.iload 5, 2) := by decide +kernel
theorem d_DL_join_89 : decode b_DL_join 89 = .ok (.aload_n 0, 1) := by decide +kernel
theorem d_DL_join_90 : decode b_DL_join 90 = .ok (.invokevirtual 55, 3) := by decide +kernel
theorem d_DL_join_93 : decode b_DL_join 93 = .ok (.aastore, 1) := by decide +kernel
theorem d_DL_join_94 : decode b_DL_join 94 = .ok (.iinc 5 (-1), 3) := by decide +kernel
theorem d_DL_join_97 : decode b_DL_join 97 = .ok (.goto (-17), 3) := by decide +kernel
theorem d_DL_join_100 : decode b_DL_join 100 = .ok (.aload_n 0, 1) := by decide +kernel
theorem d_DL_join_101 : decode b_DL_join 101 = .ok (.new 49, 3) := by decide +kernel
theorem d_DL_join_104 : decode b_DL_join 104 = .ok (.dup, 1) := by decide +kernel
theorem d_DL_join_105 : decode b_DL_join 105 = .ok (.iload_n 1, 1) := by decide +kernel
theorem d_DL_join_106 : decode b_DL_join 106 = .ok (.aload 4, 2) := by decide +kernel
theorem d_DL_join_108 : decode b_DL_join 108 = .ok (.iload_n 3, 1) := by decide +kernel
theorem d_DL_join_109 : decode b_DL_join 109 = .ok (.invokespecial 59, 3) := by decide +kernel
theorem d_DL_join_112 : decode b_DL_join 112 = .ok (.invokevirtual 45, 3) := by decide +kernel
theorem d_DL_join_115 : decode b_DL_join 115 = .ok (.ireturn, 1) := by decide +kernel
theorem d_DL_layer_0 : decode b_DL_layer 0 = .ok (.aload_n 0, 1) := by decide +kernel
theorem d_DL_layer_1 : decode b_DL_layer 1 = .ok (.getfield 33, 3) := by decide +kernel
theorem d_DL_layer_4 : decode b_DL_layer 4 = .ok (.ireturn, 1) := by decide +kernel
theorem d_DL_matches_0 : decode b_DL_matches 0 = .ok (.lload_n 1, 1) := by decide +kernel
theorem d_DL_matches_1 : decode b_DL_matches 1 = .ok (.lload_n 3, 1) := by decide +kernel
theorem d_DL_matches_2 : decode b_DL_matches 2 = .ok (.iload 5, 2) := by decide +kernel
theorem d_DL_matches_4 : decode b_DL_matches 4 = .ok (.aload_n 0, 1) := by decide +kernel
theorem d_DL_matches_5 : decode b_DL_matches 5 = .ok (.getfield 10, 3) := by decide +kernel
theorem d_DL_matches_8 : decode b_DL_matches 8 = .ok (.invokestatic 114, 3) := by decide +kernel
theorem d_DL_matches_11 : decode b_DL_matches 11 = .ok (.ireturn, 1) := by decide +kernel
theorem d_DL_mayStandIn_0 : decode b_DL_mayStandIn 0 = .ok (.iload_n 0, 1) := by decide +kernel
theorem d_DL_mayStandIn_1 : decode b_DL_mayStandIn 1 = .ok (.iconst 5, 1) := by decide +kernel
theorem d_DL_mayStandIn_2 : decode b_DL_mayStandIn 2 = .ok (.if_icmp .ne 10, 3) := by decide +kernel
theorem d_DL_mayStandIn_5 : decode b_DL_mayStandIn 5 = .ok (.iload_n 1, 1) := by decide +kernel
theorem d_DL_mayStandIn_6 : decode b_DL_mayStandIn 6 = .ok (.invokestatic 124, 3) := by decide +kernel
theorem d_DL_mayStandIn_9 : decode b_DL_mayStandIn 9 = .ok (.goto 13, 3) := by decide +kernel
theorem d_DL_mayStandIn_12 : decode b_DL_mayStandIn 12 = .ok (.iload_n 1, 1) := by decide +kernel
theorem d_DL_mayStandIn_13 : decode b_DL_mayStandIn 13 = .ok (.iconst (-1), 1) := by decide +kernel
theorem d_DL_mayStandIn_14 : decode b_DL_mayStandIn 14 = .ok (.if_icmp .ne 7, 3) := by decide +kernel
theorem d_DL_mayStandIn_17 : decode b_DL_mayStandIn 17 = .ok (.iconst 1, 1) := by decide +kernel
theorem d_DL_mayStandIn_18 : decode b_DL_mayStandIn 18 = .ok (.goto 4, 3) := by decide +kernel
theorem d_DL_mayStandIn_21 : decode b_DL_mayStandIn 21 = .ok (.iconst 0, 1) := by decide +kernel
theorem d_DL_mayStandIn_22 : decode b_DL_mayStandIn 22 = .ok (.ireturn, 1) := by decide +kernel
theorem d_DL_offer_0 : decode b_DL_offer 0 = .ok (.iload_n 1, 1) := by decide +kernel
theorem d_DL_offer_1 : decode b_DL_offer 1 = .ok (.invokestatic 36, 3) := by decide +kernel
theorem d_DL_offer_4 : decode b_DL_offer 4 = .ok (.ifCond .ne 6, 3) := by decide +kernel
theorem d_DL_offer_7 : decode b_DL_offer 7 = .ok (.bipush (-2), 2) := by decide +kernel
theorem d_DL_offer_9 : decode b_DL_offer 9 = .ok (.ireturn, 1) := by decide +kernel
theorem d_DL_offer_10 : decode b_DL_offer 10 = .ok (.aload_n 0, 1) := by decide +kernel
theorem d_DL_offer_11 : decode b_DL_offer 11 = .ok (.getfield 10, 3) := by decide +kernel
theorem d_DL_offer_14 : decode b_DL_offer 14 = .ok (.iload_n 1, 1) := by decide +kernel
theorem d_DL_offer_15 : decode b_DL_offer 15 = .ok (.invokevirtual 89, 3) := by decide +kernel
theorem d_DL_offer_18 : decode b_DL_offer 18 = .ok (.ifCond .eq 8, 3) := by decide +kernel
theorem d_DL_offer_21 : decode b_DL_offer 21 = .ok (.bipush (-3), 2) := by decide +kernel
theorem d_DL_offer_23 : decode b_DL_offer 23 = .ok (.goto 12, 3) := by decide +kernel
theorem d_DL_offer_26 : decode b_DL_offer 26 = .ok (.aload_n 0, 1) := by decide +kernel
theorem d_DL_offer_27 : decode b_DL_offer 27 = .ok (.getfield 10, 3) := by decide +kernel
theorem d_DL_offer_30 : decode b_DL_offer 30 = .ok (.iload_n 1, 1) := by decide +kernel
theorem d_DL_offer_31 : decode b_DL_offer 31 = .ok (.lload_n 2, 1) := by decide +kernel
theorem d_DL_offer_32 : decode b_DL_offer 32 = .ok (.invokevirtual 91, 3) := by decide +kernel
theorem d_DL_offer_35 : decode b_DL_offer 35 = .ok (.ireturn, 1) := by decide +kernel
theorem d_DL_open_0 : decode b_DL_open 0 = .ok (.iload_n 1, 1) := by decide +kernel
theorem d_DL_open_1 : decode b_DL_open 1 = .ok (.invokestatic 62, 3) := by decide +kernel
theorem d_DL_open_4 : decode b_DL_open 4 = .ok (.ifCond .eq 15, 3) := by decide +kernel
theorem d_DL_open_7 : decode b_DL_open 7 = .ok (.aload_n 0, 1) := by decide +kernel
theorem d_DL_open_8 : decode b_DL_open 8 = .ok (.getfield 24, 3) := by decide +kernel
theorem d_DL_open_11 : decode b_DL_open 11 = .ok (.iload_n 1, 1) := by decide +kernel
theorem d_DL_open_12 : decode b_DL_open 12 = .ok (.aaload, 1) := by decide +kernel
theorem d_DL_open_13 : decode b_DL_open 13 = .ok (.getfield 79, 3) := by decide +kernel
theorem d_DL_open_16 : decode b_DL_open 16 = .ok (.ifCond .eq 5, 3) := by decide +kernel
theorem d_DL_open_19 : decode b_DL_open 19 = .ok (.iconst 0, 1) := by decide +kernel
theorem d_DL_open_20 : decode b_DL_open 20 = .ok (.ireturn, 1) := by decide +kernel
theorem d_DL_open_21 : decode b_DL_open 21 = .ok (.aload_n 0, 1) := by decide +kernel
theorem d_DL_open_22 : decode b_DL_open 22 = .ok (.getfield 24, 3) := by decide +kernel
theorem d_DL_open_25 : decode b_DL_open 25 = .ok (.iload_n 1, 1) := by decide +kernel
theorem d_DL_open_26 : decode b_DL_open 26 = .ok (.aaload, 1) := by decide +kernel
theorem d_DL_open_27 : decode b_DL_open 27 = .ok (.iconst 1, 1) := by decide +kernel
theorem d_DL_open_28 : decode b_DL_open 28 = .ok (.putfield 79, 3) := by decide +kernel
theorem d_DL_open_31 : decode b_DL_open 31 = .ok (.iconst 1, 1) := by decide +kernel
theorem d_DL_open_32 : decode b_DL_open 32 = .ok (.ireturn, 1) := by decide +kernel
theorem d_DL_pile_0 : decode b_DL_pile 0 = .ok (.aload_n 0, 1) := by decide +kernel
theorem d_DL_pile_1 : decode b_DL_pile 1 = .ok (.getfield 29, 3) := by decide +kernel
theorem d_DL_pile_4 : decode b_DL_pile 4 = .ok (.ireturn, 1) := by decide +kernel
theorem d_DL_pop_0 : decode b_DL_pop 0 = .ok (.aload_n 0, 1) := by decide +kernel
theorem d_DL_pop_1 : decode b_DL_pop 1 = .ok (.getfield 29, 3) := by decide +kernel
theorem d_DL_pop_4 : decode b_DL_pop 4 = .ok (.ifCond .ne 5, 3) := by decide +kernel
theorem d_DL_pop_7 : decode b_DL_pop 7 = .ok (.aconst_null, 1) := by decide +kernel
theorem d_DL_pop_8 : decode b_DL_pop 8 = .ok (.areturn, 1) := by decide +kernel
theorem d_DL_pop_9 : decode b_DL_pop 9 = .ok (.aload_n 0, 1) := by decide +kernel
theorem d_DL_pop_10 : decode b_DL_pop 10 = .ok (.dup, 1) := by decide +kernel
theorem d_DL_pop_11 : decode b_DL_pop 11 = .ok (.getfield 29, 3) := by decide +kernel
theorem d_DL_pop_14 : decode b_DL_pop 14 = .ok (.iconst 1, 1) := by decide +kernel
theorem d_DL_pop_15 : decode b_DL_pop 15 = .ok (.isub, 1) := by decide +kernel
theorem d_DL_pop_16 : decode b_DL_pop 16 = .ok (.putfield 29, 3) := by decide +kernel
theorem d_DL_pop_19 : decode b_DL_pop 19 = .ok (.aload_n 0, 1) := by decide +kernel
theorem d_DL_pop_20 : decode b_DL_pop 20 = .ok (.getfield 18, 3) := by decide +kernel
theorem d_DL_pop_23 : decode b_DL_pop 23 = .ok (.aload_n 0, 1) := by decide +kernel
theorem d_DL_pop_24 : decode b_DL_pop 24 = .ok (.getfield 29, 3) := by decide +kernel
theorem d_DL_pop_27 : decode b_DL_pop 27 = .ok (.aaload, 1) := by decide +kernel
theorem d_DL_pop_28 : decode b_DL_pop 28 = .ok (.astore_n 1, 1) := by decide +kernel
theorem d_DL_pop_29 : decode b_DL_pop 29 = .ok (.aload_n 0, 1) := by decide +kernel
theorem d_DL_pop_30 : decode b_DL_pop 30 = .ok (.getfield 18, 3) := by decide +kernel
theorem d_DL_pop_33 : decode b_DL_pop 33 = .ok (.aload_n 0, 1) := by decide +kernel
theorem d_DL_pop_34 : decode b_DL_pop 34 = .ok (.getfield 29, 3) := by decide +kernel
theorem d_DL_pop_37 : decode b_DL_pop 37 = .ok (.aconst_null, 1) := by decide +kernel
theorem d_DL_pop_38 : decode b_DL_pop 38 = .ok (.aastore, 1) := by decide +kernel
theorem d_DL_pop_39 : decode b_DL_pop 39 = .ok (.aload_n 1, 1) := by decide +kernel
theorem d_DL_pop_40 : decode b_DL_pop 40 = .ok (.areturn, 1) := by decide +kernel
theorem d_DL_push_0 : decode b_DL_push 0 = .ok (.aload_n 0, 1) := by decide +kernel
theorem d_DL_push_1 : decode b_DL_push 1 = .ok (.getfield 29, 3) := by decide +kernel
theorem d_DL_push_4 : decode b_DL_push 4 = .ok (.bipush 8, 2) := by decide +kernel
theorem d_DL_push_6 : decode b_DL_push 6 = .ok (.if_icmp .ge 23, 3) := by decide +kernel
theorem d_DL_push_9 : decode b_DL_push 9 = .ok (.aload_n 0, 1) := by decide +kernel
theorem d_DL_push_10 : decode b_DL_push 10 = .ok (.getfield 18, 3) := by decide +kernel
theorem d_DL_push_13 : decode b_DL_push 13 = .ok (.aload_n 0, 1) := by decide +kernel
theorem d_DL_push_14 : decode b_DL_push 14 = .ok (.getfield 29, 3) := by decide +kernel
theorem d_DL_push_17 : decode b_DL_push 17 = .ok (.aload_n 1, 1) := by decide +kernel
theorem d_DL_push_18 : decode b_DL_push 18 = .ok (.aastore, 1) := by decide +kernel
theorem d_DL_push_19 : decode b_DL_push 19 = .ok (.aload_n 0, 1) := by decide +kernel
theorem d_DL_push_20 : decode b_DL_push 20 = .ok (.dup, 1) := by decide +kernel
theorem d_DL_push_21 : decode b_DL_push 21 = .ok (.getfield 29, 3) := by decide +kernel
theorem d_DL_push_24 : decode b_DL_push 24 = .ok (.iconst 1, 1) := by decide +kernel
theorem d_DL_push_25 : decode b_DL_push 25 = .ok (.iadd, 1) := by decide +kernel
theorem d_DL_push_26 : decode b_DL_push 26 = .ok (.putfield 29, 3) := by decide +kernel
theorem d_DL_push_29 : decode b_DL_push 29 = .ok (.aload_n 0, 1) := by decide +kernel
theorem d_DL_push_30 : decode b_DL_push 30 = .ok (.getfield 29, 3) := by decide +kernel
theorem d_DL_push_33 : decode b_DL_push 33 = .ok (.ireturn, 1) := by decide +kernel
theorem d_DL_settle_0 : decode b_DL_settle 0 = .ok (.aload_n 0, 1) := by decide +kernel
theorem d_DL_settle_1 : decode b_DL_settle 1 = .ok (.iload_n 2, 1) := by decide +kernel
theorem d_DL_settle_2 : decode b_DL_settle 2 = .ok (.putfield 33, 3) := by decide +kernel
theorem d_DL_settle_5 : decode b_DL_settle 5 = .ok (.iload_n 1, 1) := by decide +kernel
theorem d_DL_settle_6 : decode b_DL_settle 6 = .ok (.ireturn, 1) := by decide +kernel
theorem d_DL_state_0 : decode b_DL_state 0 = .ok (.iload_n 1, 1) := by decide +kernel
theorem d_DL_state_1 : decode b_DL_state 1 = .ok (.invokestatic 62, 3) := by decide +kernel
theorem d_DL_state_4 : decode b_DL_state 4 = .ok (.ifCond .eq 22, 3) := by decide +kernel
theorem d_DL_state_7 : decode b_DL_state 7 = .ok (.iload_n 2, 1) := by decide +kernel
theorem d_DL_state_8 : decode b_DL_state 8 = .ok (.ifCond .lt 18, 3) := by decide +kernel
theorem d_DL_state_11 : decode b_DL_state 11 = .ok (.iload_n 2, 1) := by decide +kernel
theorem d_DL_state_12 : decode b_DL_state 12 = .ok (.bipush 15, 2) := by decide +kernel
theorem d_DL_state_14 : decode b_DL_state 14 = .ok (.if_icmp .gt 12, 3) := by decide +kernel
theorem d_DL_state_17 : decode b_DL_state 17 = .ok (.iload_n 1, 1) := by decide +kernel
theorem d_DL_state_18 : decode b_DL_state 18 = .ok (.iload 7, 2) := by decide +kernel
theorem d_DL_state_20 : decode b_DL_state 20 = .ok (.invokestatic 67, 3) := by decide +kernel
theorem d_DL_state_23 : decode b_DL_state 23 = .ok (.ifCond .ne 6, 3) := by decide +kernel
theorem d_DL_state_26 : decode b_DL_state 26 = .ok (.bipush (-2), 2) := by decide +kernel
theorem d_DL_state_28 : decode b_DL_state 28 = .ok (.ireturn, 1) := by decide +kernel
theorem d_DL_state_29 : decode b_DL_state 29 = .ok (.iload_n 2, 1) := by decide +kernel
theorem d_DL_state_30 : decode b_DL_state 30 = .ok (.bipush 8, 2) := by decide +kernel
theorem d_DL_state_32 : decode b_DL_state 32 = .ok (.iand, 1) := by decide +kernel
theorem d_DL_state_33 : decode b_DL_state 33 = .ok (.ifCond .eq 7, 3) := by decide +kernel
theorem d_DL_state_36 : decode b_DL_state 36 = .ok (.iconst 1, 1) := by decide +kernel
theorem d_DL_state_37 : decode b_DL_state 37 = .ok (.goto 4, 3) := by decide +kernel
theorem d_DL_state_40 : decode b_DL_state 40 = .ok (.iconst 0, 1) := by decide +kernel
theorem d_DL_state_41 : decode b_DL_state 41 = .ok (.istore 8, 2) := by decide +kernel
theorem d_DL_state_43 : decode b_DL_state 43 = .ok (.iload 8, 2) := by decide +kernel
theorem d_DL_state_45 : decode b_DL_state 45 = .ok (.ifCond .eq 13, 3) := by decide +kernel
theorem d_DL_state_48 : decode b_DL_state 48 = .ok (.aload_n 0, 1) := by decide +kernel
theorem d_DL_state_49 : decode b_DL_state 49 = .ok (.getfield 29, 3) := by decide +kernel
theorem d_DL_state_52 : decode b_DL_state 52 = .ok (.ifCond .ne 6, 3) := by decide +kernel
theorem d_DL_state_55 : decode b_DL_state 55 = .ok (.bipush (-2), 2) := by decide +kernel
theorem d_DL_state_57 : decode b_DL_state 57 = .ok (.ireturn, 1) := by decide +kernel
theorem d_DL_state_58 : decode b_DL_state 58 = .ok (.aload_n 0, 1) := by decide +kernel
theorem d_DL_state_59 : decode b_DL_state 59 = .ok (.getfield 24, 3) := by decide +kernel
theorem d_DL_state_62 : decode b_DL_state 62 = .ok (.iload_n 1, 1) := by decide +kernel
theorem d_DL_state_63 : decode b_DL_state 63 = .ok (.aaload, 1) := by decide +kernel
theorem d_DL_state_64 : decode b_DL_state 64 = .ok (.invokevirtual 71, 3) := by decide +kernel
theorem d_DL_state_67 : decode b_DL_state 67 = .ok (.ifCond .eq 6, 3) := by decide +kernel
theorem d_DL_state_70 : decode b_DL_state 70 = .ok (.bipush (-3), 2) := by decide +kernel
theorem d_DL_state_72 : decode b_DL_state 72 = .ok (.ireturn, 1) := by decide +kernel
theorem d_DL_state_73 : decode b_DL_state 73 = .ok (.iload 8, 2) := by decide +kernel
theorem d_DL_state_75 : decode b_DL_state 75 = .ok (.ifCond .eq 10, 3) := by decide +kernel
theorem d_DL_state_78 : decode b_DL_state 78 = .ok (.aload_n 0, 1) := by decide +kernel
theorem d_DL_state_79 : decode b_DL_state 79 = .ok (.invokevirtual 55, 3) := by decide +kernel
theorem d_DL_state_82 : decode b_DL_state 82 = .ok (.goto 4, 3) := by decide +kernel
theorem d_DL_state_85 : decode b_DL_state 85 = .ok (.aconst_null, 1) := by decide +kernel
theorem d_DL_state_86 : decode b_DL_state 86 = .ok (.astore 9, 2) := by decide +kernel
theorem d_DL_state_88 : decode b_DL_state 88 = .ok (.aload_n 0, 1) := by decide +kernel
theorem d_DL_state_89 : decode b_DL_state 89 = .ok (.getfield 24, 3) := by decide +kernel
theorem d_DL_state_92 : decode b_DL_state 92 = .ok (.iload_n 1, 1) := by decide +kernel
theorem d_DL_state_93 : decode b_DL_state 93 = .ok (.aaload, 1) := by decide +kernel
theorem d_DL_state_94 : decode b_DL_state 94 = .ok (.iload_n 2, 1) := by decide +kernel
theorem d_DL_state_95 : decode b_DL_state 95 = .ok (.lload_n 3, 1) := by decide +kernel
theorem d_DL_state_96 : decode b_DL_state 96 = .ok (.lload 5, 2) := by decide +kernel
theorem d_DL_state_98 : decode b_DL_state 98 = .ok (.iload 7, 2) := by decide +kernel
theorem d_DL_state_100 : decode b_DL_state 100 = .ok (.aload 9, 2) := by decide +kernel
theorem d_DL_state_102 : decode b_DL_state 102 = .ok (.invokevirtual 75, 3) := by decide +kernel
theorem d_DL_state_105 : decode b_DL_state 105 = .ok (.ireturn, 1) := by decide +kernel
theorem d_DL_statements_0 : decode b_DL_statements 0 = .ok (.iload_n 1, 1) := by decide +kernel
theorem d_DL_statements_1 : decode b_DL_statements 1 = .ok (.invokestatic 62, 3) := by decide +kernel
theorem d_DL_statements_4 : decode b_DL_statements 4 = .ok (.ifCond .ne 6, 3) := by decide +kernel
theorem d_DL_statements_7 : decode b_DL_statements 7 = .ok (.bipush (-2), 2) := by decide +kernel
theorem d_DL_statements_9 : decode b_DL_statements 9 = .ok (.ireturn, 1) := by decide +kernel
theorem d_DL_statements_10 : decode b_DL_statements 10 = .ok (.aload_n 0, 1) := by decide +kernel
theorem d_DL_statements_11 : decode b_DL_statements 11 = .ok (.getfield 24, 3) := by decide +kernel
theorem d_DL_statements_14 : decode b_DL_statements 14 = .ok (.iload_n 1, 1) := by decide +kernel
theorem d_DL_statements_15 : decode b_DL_statements 15 = .ok (.aaload, 1) := by decide +kernel
theorem d_DL_statements_16 : decode b_DL_statements 16 = .ok (.getfield 79, 3) := by decide +kernel
theorem d_DL_statements_19 : decode b_DL_statements 19 = .ok (.ifCond .eq 15, 3) := by decide +kernel
theorem d_DL_statements_22 : decode b_DL_statements 22 = .ok (.aload_n 0, 1) := by decide +kernel
theorem d_DL_statements_23 : decode b_DL_statements 23 = .ok (.getfield 24, 3) := by decide +kernel
theorem d_DL_statements_26 : decode b_DL_statements 26 = .ok (.iload_n 1, 1) := by decide +kernel
theorem d_DL_statements_27 : decode b_DL_statements 27 = .ok (.aaload, 1) := by decide +kernel
theorem d_DL_statements_28 : decode b_DL_statements 28 = .ok (.getfield 86, 3) := by decide +kernel
theorem d_DL_statements_31 : decode b_DL_statements 31 = .ok (.goto 4, 3) := by decide +kernel
theorem d_DL_statements_34 : decode b_DL_statements 34 = .ok (.iconst (-1), 1) := by decide +kernel
theorem d_DL_statements_35 : decode b_DL_statements 35 = .ok (.ireturn, 1) := by decide +kernel
theorem d_DL_test_0 : decode b_DL_test 0 = .ok (.iload_n 1, 1) := by decide +kernel
theorem d_DL_test_1 : decode b_DL_test 1 = .ok (.ifCond .lt 28, 3) := by decide +kernel
theorem d_DL_test_4 : decode b_DL_test 4 = .ok (.iload_n 1, 1) := by decide +kernel
theorem d_DL_test_5 : decode b_DL_test 5 = .ok (.bipush 8, 2) := by decide +kernel
theorem d_DL_test_7 : decode b_DL_test 7 = .ok (.if_icmp .ge 22, 3) := by decide +kernel
theorem d_DL_test_10 : decode b_DL_test 10 = .ok (.iload_n 2, 1) := by decide +kernel
theorem d_DL_test_11 : decode b_DL_test 11 = .ok (.invokestatic 36, 3) := by decide +kernel
theorem d_DL_test_14 : decode b_DL_test 14 = .ok (.ifCond .eq 15, 3) := by decide +kernel
theorem d_DL_test_17 : decode b_DL_test 17 = .ok (.iload 5, 2) := by decide +kernel
theorem d_DL_test_19 : decode b_DL_test 19 = .ok (.ifCond .lt 10, 3) := by decide +kernel
theorem d_DL_test_22 : decode b_DL_test 22 = .ok (.iload 5, 2) := by decide +kernel
theorem d_DL_test_24 : decode b_DL_test 24 = .ok (.bipush 7, 2) := by decide +kernel
theorem d_DL_test_26 : decode b_DL_test 26 = .ok (.if_icmp .le 6, 3) := by decide +kernel
theorem d_DL_test_29 : decode b_DL_test 29 = .ok (.bipush (-2), 2) := by decide +kernel
theorem d_DL_test_31 : decode b_DL_test 31 = .ok (.ireturn, 1) := by decide +kernel
theorem d_DL_test_32 : decode b_DL_test 32 = .ok (.aload_n 0, 1) := by decide +kernel
theorem d_DL_test_33 : decode b_DL_test 33 = .ok (.getfield 29, 3) := by decide +kernel
theorem d_DL_test_36 : decode b_DL_test 36 = .ok (.bipush 8, 2) := by decide +kernel
theorem d_DL_test_38 : decode b_DL_test 38 = .ok (.if_icmp .lt 6, 3) := by decide +kernel
theorem d_DL_test_41 : decode b_DL_test 41 = .ok (.bipush (-3), 2) := by decide +kernel
theorem d_DL_test_43 : decode b_DL_test 43 = .ok (.ireturn, 1) := by decide +kernel
theorem d_DL_test_44 : decode b_DL_test 44 = .ok (.aload_n 0, 1) := by decide +kernel
theorem d_DL_test_45 : decode b_DL_test 45 = .ok (.new 40, 3) := by decide +kernel
theorem d_DL_test_48 : decode b_DL_test 48 = .ok (.dup, 1) := by decide +kernel
theorem d_DL_test_49 : decode b_DL_test 49 = .ok (.iload_n 1, 1) := by decide +kernel
theorem d_DL_test_50 : decode b_DL_test 50 = .ok (.iload_n 2, 1) := by decide +kernel
theorem d_DL_test_51 : decode b_DL_test 51 = .ok (.lload_n 3, 1) := by decide +kernel
theorem d_DL_test_52 : decode b_DL_test 52 = .ok (.iload 5, 2) := by decide +kernel
theorem d_DL_test_54 : decode b_DL_test 54 = .ok (.invokespecial 42, 3) := by decide +kernel
theorem d_DL_test_57 : decode b_DL_test 57 = .ok (.invokevirtual 45, 3) := by decide +kernel
theorem d_DL_test_60 : decode b_DL_test 60 = .ok (.ireturn, 1) := by decide +kernel
theorem d_Joined_init_0 : decode b_Joined_init 0 = .ok (.aload_n 0, 1) := by decide +kernel
theorem d_Joined_init_1 : decode b_Joined_init 1 = .ok (.iload_n 3, 1) := by decide +kernel
theorem d_Joined_init_2 : decode b_Joined_init 2 = .ok (.invokespecial 1, 3) := by decide +kernel
theorem d_Joined_init_5 : decode b_Joined_init 5 = .ok (.aload_n 0, 1) := by decide +kernel
theorem d_Joined_init_6 : decode b_Joined_init 6 = .ok (.iload_n 1, 1) := by decide +kernel
theorem d_Joined_init_7 : decode b_Joined_init 7 = .ok (.putfield 7, 3) := by decide +kernel
theorem d_Joined_init_10 : decode b_Joined_init 10 = .ok (.aload_n 0, 1) := by decide +kernel
theorem d_Joined_init_11 : decode b_Joined_init 11 = .ok (.aload_n 2, 1) := by decide +kernel
theorem d_Joined_init_12 : decode b_Joined_init 12 = .ok (.putfield 13, 3) := by decide +kernel
theorem d_Joined_init_15 : decode b_Joined_init 15 = .ok (.return_, 1) := by decide +kernel
theorem d_Joined_isMet_0 : decode b_Joined_isMet 0 = .ok (.aload_n 0, 1) := by decide +kernel
theorem d_Joined_isMet_1 : decode b_Joined_isMet 1 = .ok (.getfield 7, 3) := by decide +kernel
theorem d_Joined_isMet_4 : decode b_Joined_isMet 4 = .ok (.ifCond .eq 7, 3) := by decide +kernel
theorem d_Joined_isMet_7 : decode b_Joined_isMet 7 = .ok (.iconst 1, 1) := by decide +kernel
theorem d_Joined_isMet_8 : decode b_Joined_isMet 8 = .ok (.goto 4, 3) := by decide +kernel
theorem d_Joined_isMet_11 : decode b_Joined_isMet 11 = .ok (.iconst 0, 1) := by decide +kernel
theorem d_Joined_isMet_12 : decode b_Joined_isMet 12 = .ok (.istore_n 2, 1) := by decide +kernel
theorem d_Joined_isMet_13 : decode b_Joined_isMet 13 = .ok (.iconst 0, 1) := by decide +kernel
theorem d_Joined_isMet_14 : decode b_Joined_isMet 14 = .ok (.istore_n 3, 1) := by decide +kernel
theorem d_Joined_isMet_15 : decode b_Joined_isMet 15 = .ok (.iload_n 3, 1) := by decide +kernel
theorem d_Joined_isMet_16 : decode b_Joined_isMet 16 = .ok (.aload_n 0, 1) := by decide +kernel
theorem d_Joined_isMet_17 : decode b_Joined_isMet 17 = .ok (.getfield 13, 3) := by decide +kernel
theorem d_Joined_isMet_20 : decode b_Joined_isMet 20 = .ok (.arraylength, 1) := by decide +kernel
theorem d_Joined_isMet_21 : decode b_Joined_isMet 21 = .ok (.if_icmp .ge 46, 3) := by decide +kernel
theorem d_Joined_isMet_24 : decode b_Joined_isMet 24 = .ok (.aload_n 0, 1) := by decide +kernel
theorem d_Joined_isMet_25 : decode b_Joined_isMet 25 = .ok (.getfield 13, 3) := by decide +kernel
theorem d_Joined_isMet_28 : decode b_Joined_isMet 28 = .ok (.iload_n 3, 1) := by decide +kernel
theorem d_Joined_isMet_29 : decode b_Joined_isMet 29 = .ok (.aaload, 1) := by decide +kernel
theorem d_Joined_isMet_30 : decode b_Joined_isMet 30 = .ok (.astore 4, 2) := by decide +kernel
theorem d_Joined_isMet_32 : decode b_Joined_isMet 32 = .ok (.aload 4, 2) := by decide +kernel
theorem d_Joined_isMet_34 : decode b_Joined_isMet 34 = .ok (.ifnull 27, 3) := by decide +kernel
theorem d_Joined_isMet_37 : decode b_Joined_isMet 37 = .ok (.aload 4, 2) := by decide +kernel
theorem d_Joined_isMet_39 : decode b_Joined_isMet 39 = .ok (.aload_n 1, 1) := by decide +kernel
theorem d_Joined_isMet_40 : decode b_Joined_isMet 40 = .ok (.invokevirtual 17, 3) := by decide +kernel
theorem d_Joined_isMet_43 : decode b_Joined_isMet 43 = .ok (.iload_n 2, 1) := by decide +kernel
theorem d_Joined_isMet_44 : decode b_Joined_isMet 44 = .ok (.if_icmp .ne 17, 3) := by decide +kernel
theorem d_Joined_isMet_47 : decode b_Joined_isMet 47 = .ok (.aload_n 0, 1) := by decide +kernel
theorem d_Joined_isMet_48 : decode b_Joined_isMet 48 = .ok (.getfield 7, 3) := by decide +kernel
theorem d_Joined_isMet_51 : decode b_Joined_isMet 51 = .ok (.iconst 1, 1) := by decide +kernel
theorem d_Joined_isMet_52 : decode b_Joined_isMet 52 = .ok (.if_icmp .ne 7, 3) := by decide +kernel
theorem d_Joined_isMet_55 : decode b_Joined_isMet 55 = .ok (.iconst 1, 1) := by decide +kernel
theorem d_Joined_isMet_56 : decode b_Joined_isMet 56 = .ok (.goto 4, 3) := by decide +kernel
theorem d_Joined_isMet_59 : decode b_Joined_isMet 59 = .ok (.iconst 0, 1) := by decide +kernel
theorem d_Joined_isMet_60 : decode b_Joined_isMet 60 = .ok (.ireturn, 1) := by decide +kernel
theorem d_Joined_isMet_61 : decode b_Joined_isMet 61 = .ok (.iinc 3 1, 3) := by decide +kernel
theorem d_Joined_isMet_64 : decode b_Joined_isMet 64 = .ok (.goto (-49), 3) := by decide +kernel
theorem d_Joined_isMet_67 : decode b_Joined_isMet 67 = .ok (.aload_n 0, 1) := by decide +kernel
theorem d_Joined_isMet_68 : decode b_Joined_isMet 68 = .ok (.getfield 7, 3) := by decide +kernel
theorem d_Joined_isMet_71 : decode b_Joined_isMet 71 = .ok (.iconst 1, 1) := by decide +kernel
theorem d_Joined_isMet_72 : decode b_Joined_isMet 72 = .ok (.if_icmp .eq 7, 3) := by decide +kernel
theorem d_Joined_isMet_75 : decode b_Joined_isMet 75 = .ok (.iconst 1, 1) := by decide +kernel
theorem d_Joined_isMet_76 : decode b_Joined_isMet 76 = .ok (.goto 4, 3) := by decide +kernel
theorem d_Joined_isMet_79 : decode b_Joined_isMet 79 = .ok (.iconst 0, 1) := by decide +kernel
theorem d_Joined_isMet_80 : decode b_Joined_isMet 80 = .ok (.ireturn, 1) := by decide +kernel
theorem d_Layer_allows_0 : decode b_Layer_allows 0 = .ok (.aload_n 0, 1) := by decide +kernel
theorem d_Layer_allows_1 : decode b_Layer_allows 1 = .ok (.iconst 0, 1) := by decide +kernel
theorem d_Layer_allows_2 : decode b_Layer_allows 2 = .ok (.invokevirtual 37, 3) := by decide +kernel
theorem d_Layer_allows_5 : decode b_Layer_allows 5 = .ok (.ireturn, 1) := by decide +kernel
theorem d_Layer_allowsByName_0 : decode b_Layer_allowsByName 0 = .ok (.iconst 0, 1) := by decide +kernel
theorem d_Layer_allowsByName_1 : decode b_Layer_allowsByName 1 = .ok (.istore_n 2, 1) := by decide +kernel
theorem d_Layer_allowsByName_2 : decode b_Layer_allowsByName 2 = .ok (.iload_n 2, 1) := by decide +kernel
theorem d_Layer_allowsByName_3 : decode b_Layer_allowsByName 3 = .ok (.aload_n 0, 1) := by decide +kernel
theorem d_Layer_allowsByName_4 : decode b_Layer_allowsByName 4 = .ok (.getfield 18, 3) := by decide +kernel
theorem d_Layer_allowsByName_7 : decode b_Layer_allowsByName 7 = .ok (.if_icmp .ge 50, 3) := by decide +kernel
theorem d_Layer_allowsByName_10 : decode b_Layer_allowsByName 10 = .ok (.iload_n 2, 1) := by decide +kernel
theorem d_Layer_allowsByName_11 : decode b_Layer_allowsByName 11 = .ok (.bipush 6, 2) := by decide +kernel
theorem d_Layer_allowsByName_13 : decode b_Layer_allowsByName 13 = .ok (.if_icmp .ge 44, 3) := by decide +kernel
theorem d_Layer_allowsByName_16 : decode b_Layer_allowsByName 16 = .ok (.aload_n 0, 1) := by decide +kernel
theorem d_Layer_allowsByName_17 : decode b_Layer_allowsByName 17 = .ok (.iload_n 2, 1) := by decide +kernel
theorem d_Layer_allowsByName_18 : decode b_Layer_allowsByName 18 = .ok (.invokevirtual 45, 3) := by decide +kernel
theorem d_Layer_allowsByName_21 : decode b_Layer_allowsByName 21 = .ok (.ifCond .eq 30, 3) := by decide +kernel
theorem d_Layer_allowsByName_24 : decode b_Layer_allowsByName 24 = .ok (.aload_n 0, 1) := by decide +kernel
theorem d_Layer_allowsByName_25 : decode b_Layer_allowsByName 25 = .ok (.getfield 13, 3) := by decide +kernel
theorem d_Layer_allowsByName_28 : decode b_Layer_allowsByName 28 = .ok (.iload_n 2, 1) := by decide +kernel
theorem d_Layer_allowsByName_29 : decode b_Layer_allowsByName 29 = .ok (.aaload, 1) := by decide +kernel
theorem d_Layer_allowsByName_30 : decode b_Layer_allowsByName 30 = .ok (.invokevirtual 49, 3) := by decide +kernel
theorem d_Layer_allowsByName_33 : decode b_Layer_allowsByName 33 = .ok (.ifCond .ne 18, 3) := by decide +kernel
theorem d_Layer_allowsByName_36 : decode b_Layer_allowsByName 36 = .ok (.aload_n 0, 1) := by decide +kernel
theorem d_Layer_allowsByName_37 : decode b_Layer_allowsByName 37 = .ok (.getfield 13, 3) := by decide +kernel
theorem d_Layer_allowsByName_40 : decode b_Layer_allowsByName 40 = .ok (.iload_n 2, 1) := by decide +kernel
theorem d_Layer_allowsByName_41 : decode b_Layer_allowsByName 41 = .ok (.aaload, 1) := by decide +kernel
theorem d_Layer_allowsByName_42 : decode b_Layer_allowsByName 42 = .ok (.iload_n 1, 1) := by decide +kernel
theorem d_Layer_allowsByName_43 : decode b_Layer_allowsByName 43 = .ok (.invokevirtual 52, 3) := by decide +kernel
theorem d_Layer_allowsByName_46 : decode b_Layer_allowsByName 46 = .ok (.ifCond .eq 5, 3) := by decide +kernel
theorem d_Layer_allowsByName_49 : decode b_Layer_allowsByName 49 = .ok (.iconst 1, 1) := by decide +kernel
theorem d_Layer_allowsByName_50 : decode b_Layer_allowsByName 50 = .ok (.ireturn, 1) := by decide +kernel
theorem d_Layer_allowsByName_51 : decode b_Layer_allowsByName 51 = .ok (.iinc 2 1, 3) := by decide +kernel
theorem d_Layer_allowsByName_54 : decode b_Layer_allowsByName 54 = .ok (.goto (-52), 3) := by decide +kernel
theorem d_Layer_allowsByName_57 : decode b_Layer_allowsByName 57 = .ok (.iconst 0, 1) := by decide +kernel
theorem d_Layer_allowsByName_58 : decode b_Layer_allowsByName 58 = .ok (.ireturn, 1) := by decide +kernel
theorem d_Layer_append_0 : decode b_Layer_append 0 = .ok (.aload_n 0, 1) := by decide +kernel
theorem d_Layer_append_1 : decode b_Layer_append 1 = .ok (.getfield 18, 3) := by decide +kernel
theorem d_Layer_append_4 : decode b_Layer_append 4 = .ok (.bipush 6, 2) := by decide +kernel
theorem d_Layer_append_6 : decode b_Layer_append 6 = .ok (.if_icmp .lt 6, 3) := by decide +kernel
theorem d_Layer_append_9 : decode b_Layer_append 9 = .ok (.bipush (-3), 2) := by decide +kernel
theorem d_Layer_append_11 : decode b_Layer_append 11 = .ok (.ireturn, 1) := by decide +kernel
theorem d_Layer_append_12 : decode b_Layer_append 12 = .ok (.aload_n 0, 1) := by decide +kernel
theorem d_Layer_append_13 : decode b_Layer_append 13 = .ok (.getfield 13, 3) := by decide +kernel
theorem d_Layer_append_16 : decode b_Layer_append 16 = .ok (.aload_n 0, 1) := by decide +kernel
theorem d_Layer_append_17 : decode b_Layer_append 17 = .ok (.getfield 18, 3) := by decide +kernel
theorem d_Layer_append_20 : decode b_Layer_append 20 = .ok (.aaload, 1) := by decide +kernel
theorem d_Layer_append_21 : decode b_Layer_append 21 = .ok (.iload_n 1, 1) := by decide +kernel
theorem d_Layer_append_22 : decode b_Layer_append 22 = .ok (.lload_n 2, 1) := by decide +kernel
theorem d_Layer_append_23 : decode b_Layer_append 23 = .ok (.lload 4, 2) := by decide +kernel
theorem d_Layer_append_25 : decode b_Layer_append 25 = .ok (.iload 6, 2) := by decide +kernel
theorem d_Layer_append_27 : decode b_Layer_append 27 = .ok (.aload 7, 2) := by decide +kernel
theorem d_Layer_append_29 : decode b_Layer_append 29 = .ok (.invokevirtual 22, 3) := by decide +kernel
theorem d_Layer_append_32 : decode b_Layer_append 32 = .ok (.aload_n 0, 1) := by decide +kernel
theorem d_Layer_append_33 : decode b_Layer_append 33 = .ok (.iconst 1, 1) := by decide +kernel
theorem d_Layer_append_34 : decode b_Layer_append 34 = .ok (.putfield 26, 3) := by decide +kernel
theorem d_Layer_append_37 : decode b_Layer_append 37 = .ok (.aload_n 0, 1) := by decide +kernel
theorem d_Layer_append_38 : decode b_Layer_append 38 = .ok (.dup, 1) := by decide +kernel
theorem d_Layer_append_39 : decode b_Layer_append 39 = .ok (.getfield 18, 3) := by decide +kernel
theorem d_Layer_append_42 : decode b_Layer_append 42 = .ok (.iconst 1, 1) := by decide +kernel
theorem d_Layer_append_43 : decode b_Layer_append 43 = .ok (.iadd, 1) := by decide +kernel
theorem d_Layer_append_44 : decode b_Layer_append 44 = .ok (.putfield 18, 3) := by decide +kernel
theorem d_Layer_append_47 : decode b_Layer_append 47 = .ok (.aload_n 0, 1) := by decide +kernel
theorem d_Layer_append_48 : decode b_Layer_append 48 = .ok (.getfield 18, 3) := by decide +kernel
theorem d_Layer_append_51 : decode b_Layer_append 51 = .ok (.iconst 1, 1) := by decide +kernel
theorem d_Layer_append_52 : decode b_Layer_append 52 = .ok (.isub, 1) := by decide +kernel
theorem d_Layer_append_53 : decode b_Layer_append 53 = .ok (.ireturn, 1) := by decide +kernel
theorem d_Layer_bars_0 : decode b_Layer_bars 0 = .ok (.aload_n 0, 1) := by decide +kernel
theorem d_Layer_bars_1 : decode b_Layer_bars 1 = .ok (.getfield 26, 3) := by decide +kernel
theorem d_Layer_bars_4 : decode b_Layer_bars 4 = .ok (.ifCond .eq 14, 3) := by decide +kernel
theorem d_Layer_bars_7 : decode b_Layer_bars 7 = .ok (.aload_n 0, 1) := by decide +kernel
theorem d_Layer_bars_8 : decode b_Layer_bars 8 = .ok (.invokevirtual 41, 3) := by decide +kernel
theorem d_Layer_bars_11 : decode b_Layer_bars 11 = .ok (.ifCond .ne 7, 3) := by decide +kernel
theorem d_Layer_bars_14 : decode b_Layer_bars 14 = .ok (.iconst 1, 1) := by decide +kernel
theorem d_Layer_bars_15 : decode b_Layer_bars 15 = .ok (.goto 4, 3) := by decide +kernel
theorem d_Layer_bars_18 : decode b_Layer_bars 18 = .ok (.iconst 0, 1) := by decide +kernel
theorem d_Layer_bars_19 : decode b_Layer_bars 19 = .ok (.ireturn, 1) := by decide +kernel
theorem d_Layer_denies_0 : decode b_Layer_denies 0 = .ok (.aload_n 0, 1) := by decide +kernel
theorem d_Layer_denies_1 : decode b_Layer_denies 1 = .ok (.iconst 1, 1) := by decide +kernel
theorem d_Layer_denies_2 : decode b_Layer_denies 2 = .ok (.invokevirtual 37, 3) := by decide +kernel
theorem d_Layer_denies_5 : decode b_Layer_denies 5 = .ok (.ireturn, 1) := by decide +kernel
theorem d_Layer_empty_0 : decode b_Layer_empty 0 = .ok (.aload_n 0, 1) := by decide +kernel
theorem d_Layer_empty_1 : decode b_Layer_empty 1 = .ok (.iconst 0, 1) := by decide +kernel
theorem d_Layer_empty_2 : decode b_Layer_empty 2 = .ok (.putfield 18, 3) := by decide +kernel
theorem d_Layer_empty_5 : decode b_Layer_empty 5 = .ok (.aload_n 0, 1) := by decide +kernel
theorem d_Layer_empty_6 : decode b_Layer_empty 6 = .ok (.iconst 0, 1) := by decide +kernel
theorem d_Layer_empty_7 : decode b_Layer_empty 7 = .ok (.putfield 26, 3) := by decide +kernel
theorem d_Layer_empty_10 : decode b_Layer_empty 10 = .ok (.return_, 1) := by decide +kernel
theorem d_Layer_hasJudged_0 : decode b_Layer_hasJudged 0 = .ok (.iconst 0, 1) := by decide +kernel
theorem d_Layer_hasJudged_1 : decode b_Layer_hasJudged 1 = .ok (.istore_n 2, 1) := by decide +kernel
theorem d_Layer_hasJudged_2 : decode b_Layer_hasJudged 2 = .ok (.iload_n 2, 1) := by decide +kernel
theorem d_Layer_hasJudged_3 : decode b_Layer_hasJudged 3 = .ok (.aload_n 0, 1) := by decide +kernel
theorem d_Layer_hasJudged_4 : decode b_Layer_hasJudged 4 = .ok (.getfield 18, 3) := by decide +kernel
theorem d_Layer_hasJudged_7 : decode b_Layer_hasJudged 7 = .ok (.if_icmp .ge 38, 3) := by decide +kernel
theorem d_Layer_hasJudged_10 : decode b_Layer_hasJudged 10 = .ok (.iload_n 2, 1) := by decide +kernel
theorem d_Layer_hasJudged_11 : decode b_Layer_hasJudged 11 = .ok (.bipush 6, 2) := by decide +kernel
theorem d_Layer_hasJudged_13 : decode b_Layer_hasJudged 13 = .ok (.if_icmp .ge 32, 3) := by decide +kernel
theorem d_Layer_hasJudged_16 : decode b_Layer_hasJudged 16 = .ok (.aload_n 0, 1) := by decide +kernel
theorem d_Layer_hasJudged_17 : decode b_Layer_hasJudged 17 = .ok (.iload_n 2, 1) := by decide +kernel
theorem d_Layer_hasJudged_18 : decode b_Layer_hasJudged 18 = .ok (.invokevirtual 45, 3) := by decide +kernel
theorem d_Layer_hasJudged_21 : decode b_Layer_hasJudged 21 = .ok (.ifCond .eq 18, 3) := by decide +kernel
theorem d_Layer_hasJudged_24 : decode b_Layer_hasJudged 24 = .ok (.aload_n 0, 1) := by decide +kernel
theorem d_Layer_hasJudged_25 : decode b_Layer_hasJudged 25 = .ok (.getfield 13, 3) := by decide +kernel
theorem d_Layer_hasJudged_28 : decode b_Layer_hasJudged 28 = .ok (.iload_n 2, 1) := by decide +kernel
theorem d_Layer_hasJudged_29 : decode b_Layer_hasJudged 29 = .ok (.aaload, 1) := by decide +kernel
theorem d_Layer_hasJudged_30 : decode b_Layer_hasJudged 30 = .ok (.invokevirtual 49, 3) := by decide +kernel
theorem d_Layer_hasJudged_33 : decode b_Layer_hasJudged 33 = .ok (.iload_n 1, 1) := by decide +kernel
theorem d_Layer_hasJudged_34 : decode b_Layer_hasJudged 34 = .ok (.if_icmp .ne 5, 3) := by decide +kernel
theorem d_Layer_hasJudged_37 : decode b_Layer_hasJudged 37 = .ok (.iconst 1, 1) := by decide +kernel
theorem d_Layer_hasJudged_38 : decode b_Layer_hasJudged 38 = .ok (.ireturn, 1) := by decide +kernel
theorem d_Layer_hasJudged_39 : decode b_Layer_hasJudged 39 = .ok (.iinc 2 1, 3) := by decide +kernel
theorem d_Layer_hasJudged_42 : decode b_Layer_hasJudged 42 = .ok (.goto (-40), 3) := by decide +kernel
theorem d_Layer_hasJudged_45 : decode b_Layer_hasJudged 45 = .ok (.iconst 0, 1) := by decide +kernel
theorem d_Layer_hasJudged_46 : decode b_Layer_hasJudged 46 = .ok (.ireturn, 1) := by decide +kernel
theorem d_Layer_init_0 : decode b_Layer_init 0 = .ok (.aload_n 0, 1) := by decide +kernel
theorem d_Layer_init_1 : decode b_Layer_init 1 = .ok (.invokespecial 3, 3) := by decide +kernel
theorem d_Layer_init_4 : decode b_Layer_init 4 = .ok (.aload_n 0, 1) := by decide +kernel
theorem d_Layer_init_5 : decode b_Layer_init 5 = .ok (.bipush 6, 2) := by decide +kernel
theorem d_Layer_init_7 : decode b_Layer_init 7 = .ok (.anewarray 11, 3) := by decide +kernel
theorem d_Layer_init_10 : decode b_Layer_init 10 = .ok (.putfield 13, 3) := by decide +kernel
theorem d_Layer_init_13 : decode b_Layer_init 13 = .ok (.iconst 0, 1) := by decide +kernel
theorem d_Layer_init_14 : decode b_Layer_init 14 = .ok (.istore_n 1, 1) := by decide +kernel
theorem d_Layer_init_15 : decode b_Layer_init 15 = .ok (.iload_n 1, 1) := by decide +kernel
theorem d_Layer_init_16 : decode b_Layer_init 16 = .ok (.bipush 6, 2) := by decide +kernel
theorem d_Layer_init_18 : decode b_Layer_init 18 = .ok (.if_icmp .ge 22, 3) := by decide +kernel
theorem d_Layer_init_21 : decode b_Layer_init 21 = .ok (.aload_n 0, 1) := by decide +kernel
theorem d_Layer_init_22 : decode b_Layer_init 22 = .ok (.getfield 13, 3) := by decide +kernel
theorem d_Layer_init_25 : decode b_Layer_init 25 = .ok (.iload_n 1, 1) := by decide +kernel
theorem d_Layer_init_26 : decode b_Layer_init 26 = .ok (.new 11, 3) := by decide +kernel
theorem d_Layer_init_29 : decode b_Layer_init 29 = .ok (.dup, 1) := by decide +kernel
theorem d_Layer_init_30 : decode b_Layer_init 30 = .ok (.invokespecial 17, 3) := by decide +kernel
theorem d_Layer_init_33 : decode b_Layer_init 33 = .ok (.aastore, 1) := by decide +kernel
theorem d_Layer_init_34 : decode b_Layer_init 34 = .ok (.iinc 1 1, 3) := by decide +kernel
theorem d_Layer_init_37 : decode b_Layer_init 37 = .ok (.goto (-22), 3) := by decide +kernel
theorem d_Layer_init_40 : decode b_Layer_init 40 = .ok (.return_, 1) := by decide +kernel
theorem d_Layer_isFull_0 : decode b_Layer_isFull 0 = .ok (.aload_n 0, 1) := by decide +kernel
theorem d_Layer_isFull_1 : decode b_Layer_isFull 1 = .ok (.getfield 18, 3) := by decide +kernel
theorem d_Layer_isFull_4 : decode b_Layer_isFull 4 = .ok (.bipush 6, 2) := by decide +kernel
theorem d_Layer_isFull_6 : decode b_Layer_isFull 6 = .ok (.if_icmp .lt 7, 3) := by decide +kernel
theorem d_Layer_isFull_9 : decode b_Layer_isFull 9 = .ok (.iconst 1, 1) := by decide +kernel
theorem d_Layer_isFull_10 : decode b_Layer_isFull 10 = .ok (.goto 4, 3) := by decide +kernel
theorem d_Layer_isFull_13 : decode b_Layer_isFull 13 = .ok (.iconst 0, 1) := by decide +kernel
theorem d_Layer_isFull_14 : decode b_Layer_isFull 14 = .ok (.ireturn, 1) := by decide +kernel
theorem d_Layer_isJudged_0 : decode b_Layer_isJudged 0 = .ok (.aload_n 0, 1) := by decide +kernel
theorem d_Layer_isJudged_1 : decode b_Layer_isJudged 1 = .ok (.getfield 30, 3) := by decide +kernel
theorem d_Layer_isJudged_4 : decode b_Layer_isJudged 4 = .ok (.iload_n 1, 1) := by decide +kernel
theorem d_Layer_isJudged_5 : decode b_Layer_isJudged 5 = .ok (.iushr, 1) := by decide +kernel
theorem d_Layer_isJudged_6 : decode b_Layer_isJudged 6 = .ok (.iconst 1, 1) := by decide +kernel
theorem d_Layer_isJudged_7 : decode b_Layer_isJudged 7 = .ok (.iand, 1) := by decide +kernel
theorem d_Layer_isJudged_8 : decode b_Layer_isJudged 8 = .ok (.ifCond .eq 7, 3) := by decide +kernel
theorem d_Layer_isJudged_11 : decode b_Layer_isJudged 11 = .ok (.iconst 1, 1) := by decide +kernel
theorem d_Layer_isJudged_12 : decode b_Layer_isJudged 12 = .ok (.goto 4, 3) := by decide +kernel
theorem d_Layer_isJudged_15 : decode b_Layer_isJudged 15 = .ok (.iconst 0, 1) := by decide +kernel
theorem d_Layer_isJudged_16 : decode b_Layer_isJudged 16 = .ok (.ireturn, 1) := by decide +kernel
theorem d_Layer_judge_0 : decode b_Layer_judge 0 = .ok (.aload_n 0, 1) := by decide +kernel
theorem d_Layer_judge_1 : decode b_Layer_judge 1 = .ok (.iconst 0, 1) := by decide +kernel
theorem d_Layer_judge_2 : decode b_Layer_judge 2 = .ok (.putfield 30, 3) := by decide +kernel
theorem d_Layer_judge_5 : decode b_Layer_judge 5 = .ok (.iconst 0, 1) := by decide +kernel
theorem d_Layer_judge_6 : decode b_Layer_judge 6 = .ok (.istore 7, 2) := by decide +kernel
theorem d_Layer_judge_8 : decode b_Layer_judge 8 = .ok (.iload 7, 2) := by decide +kernel
theorem d_Layer_judge_10 : decode b_Layer_judge 10 = .ok (.aload_n 0, 1) := by decide +kernel
theorem d_Layer_judge_11 : decode b_Layer_judge 11 = .ok (.getfield 18, 3) := by decide +kernel
theorem d_Layer_judge_14 : decode b_Layer_judge 14 = .ok (.if_icmp .ge 48, 3) := by decide +kernel
theorem d_Layer_judge_17 : decode b_Layer_judge 17 = .ok (.iload 7, 2) := by decide +kernel
theorem d_Layer_judge_19 : decode b_Layer_judge 19 = .ok (.bipush 6, 2) := by decide +kernel
theorem d_Layer_judge_21 : decode b_Layer_judge 21 = .ok (.if_icmp .ge 41, 3) := by decide +kernel
theorem d_Layer_judge_24 : decode b_Layer_judge 24 = .ok (.aload_n 0, 1) := by decide +kernel
theorem d_Layer_judge_25 : decode b_Layer_judge 25 = .ok (.getfield 13, 3) := by decide +kernel
theorem d_Layer_judge_28 : decode b_Layer_judge 28 = .ok (.iload 7, 2) := by decide +kernel
theorem d_Layer_judge_30 : decode b_Layer_judge 30 = .ok (.aaload, 1) := by decide +kernel
theorem d_Layer_judge_31 : decode b_Layer_judge 31 = .ok (.iload_n 1, 1) := by decide +kernel
theorem d_Layer_judge_32 : decode b_Layer_judge 32 = .ok (.lload_n 2, 1) := by decide +kernel
theorem d_Layer_judge_33 : decode b_Layer_judge 33 = .ok (.lload 4, 2) := by decide +kernel
theorem d_Layer_judge_35 : decode b_Layer_judge 35 = .ok (.aload 6, 2) := by decide +kernel
theorem d_Layer_judge_37 : decode b_Layer_judge 37 = .ok (.invokevirtual 33, 3) := by decide +kernel
theorem d_Layer_judge_40 : decode b_Layer_judge 40 = .ok (.ifCond .eq 16, 3) := by decide +kernel
theorem d_Layer_judge_43 : decode b_Layer_judge 43 = .ok (.aload_n 0, 1) := by decide +kernel
theorem d_Layer_judge_44 : decode b_Layer_judge 44 = .ok (.dup, 1) := by decide +kernel
theorem d_Layer_judge_45 : decode b_Layer_judge 45 = .ok (.getfield 30, 3) := by decide +kernel
theorem d_Layer_judge_48 : decode b_Layer_judge 48 = .ok (.iconst 1, 1) := by decide +kernel
theorem d_Layer_judge_49 : decode b_Layer_judge 49 = .ok (.iload 7, 2) := by decide +kernel
theorem d_Layer_judge_51 : decode b_Layer_judge 51 = .ok (.ishl, 1) := by decide +kernel
theorem d_Layer_judge_52 : decode b_Layer_judge 52 = .ok (.ior, 1) := by decide +kernel
theorem d_Layer_judge_53 : decode b_Layer_judge 53 = .ok (.putfield 30, 3) := by decide +kernel
theorem d_Layer_judge_56 : decode b_Layer_judge 56 = .ok (.iinc 7 1, 3) := by decide +kernel
theorem d_Layer_judge_59 : decode b_Layer_judge 59 = .ok (.goto (-51), 3) := by decide +kernel
theorem d_Layer_judge_62 : decode b_Layer_judge 62 = .ok (.return_, 1) := by decide +kernel
theorem d_Pattern_fits_0 : decode b_Pattern_fits 0 = .ok (.lload_n 0, 1) := by decide +kernel
theorem d_Pattern_fits_1 : decode b_Pattern_fits 1 = .ok (.invokestatic 7, 3) := by decide +kernel
theorem d_Pattern_fits_4 : decode b_Pattern_fits 4 = .ok (.istore 6, 2) := by decide +kernel
theorem d_Pattern_fits_6 : decode b_Pattern_fits 6 = .ok (.iconst 1, 1) := by decide +kernel
theorem d_Pattern_fits_7 : decode b_Pattern_fits 7 = .ok (.istore 7, 2) := by decide +kernel
theorem d_Pattern_fits_9 : decode b_Pattern_fits 9 = .ok (.iconst 0, 1) := by decide +kernel
theorem d_Pattern_fits_10 : decode b_Pattern_fits 10 = .ok (.istore 8, 2) := by decide +kernel
theorem d_Pattern_fits_12 : decode b_Pattern_fits 12 = .ok (.iconst 0, 1) := by decide +kernel
theorem d_Pattern_fits_13 : decode b_Pattern_fits 13 = .ok (.istore 9, 2) := by decide +kernel
theorem d_Pattern_fits_15 : decode b_Pattern_fits 15 = .ok (.iload 9, 2) := by decide +kernel
theorem d_Pattern_fits_17 : decode b_Pattern_fits 17 = .ok (.iload 6, 2) := by decide +kernel
theorem d_Pattern_fits_19 : decode b_Pattern_fits 19 = .ok (.if_icmp .ge 119, 3) := by decide +kernel
theorem d_Pattern_fits_22 : decode b_Pattern_fits 22 = .ok (.lload_n 0, 1) := by decide +kernel
theorem d_Pattern_fits_23 : decode b_Pattern_fits 23 = .ok (.iload 9, 2) := by decide +kernel
theorem d_Pattern_fits_25 : decode b_Pattern_fits 25 = .ok (.invokestatic 15, 3) := by decide +kernel
theorem d_Pattern_fits_28 : decode b_Pattern_fits 28 = .ok (.istore 10, 2) := by decide +kernel
theorem d_Pattern_fits_30 : decode b_Pattern_fits 30 = .ok (.iload 8, 2) := by decide +kernel
theorem d_Pattern_fits_32 : decode b_Pattern_fits 32 = .ok (.ifCond .eq 38, 3) := by decide +kernel
theorem d_Pattern_fits_35 : decode b_Pattern_fits 35 = .ok (.iload 10, 2) := by decide +kernel
theorem d_Pattern_fits_37 : decode b_Pattern_fits 37 = .ok (.aload 5, 2) := by decide +kernel
theorem d_Pattern_fits_39 : decode b_Pattern_fits 39 = .ok (.invokestatic 19, 3) := by decide +kernel
theorem d_Pattern_fits_42 : decode b_Pattern_fits 42 = .ok (.ifCond .ne 5, 3) := by decide +kernel
theorem d_Pattern_fits_45 : decode b_Pattern_fits 45 = .ok (.iconst 0, 1) := by decide +kernel
theorem d_Pattern_fits_46 : decode b_Pattern_fits 46 = .ok (.ireturn, 1) := by decide +kernel
theorem d_Pattern_fits_47 : decode b_Pattern_fits 47 = .ok (.iload 7, 2) := by decide +kernel
theorem d_Pattern_fits_49 : decode b_Pattern_fits 49 = .ok (.iload 10, 2) := by decide +kernel
theorem d_Pattern_fits_51 : decode b_Pattern_fits 51 = .ok (.aload 5, 2) := by decide +kernel
theorem d_Pattern_fits_53 : decode b_Pattern_fits 53 = .ok (.invokestatic 23, 3) := by decide +kernel
theorem d_Pattern_fits_56 : decode b_Pattern_fits 56 = .ok (.lload_n 2, 1) := by decide +kernel
theorem d_Pattern_fits_57 : decode b_Pattern_fits 57 = .ok (.iload 4, 2) := by decide +kernel
theorem d_Pattern_fits_59 : decode b_Pattern_fits 59 = .ok (.invokestatic 27, 3) := by decide +kernel
theorem d_Pattern_fits_62 : decode b_Pattern_fits 62 = .ok (.istore 7, 2) := by decide +kernel
theorem d_Pattern_fits_64 : decode b_Pattern_fits 64 = .ok (.iconst 0, 1) := by decide +kernel
theorem d_Pattern_fits_65 : decode b_Pattern_fits 65 = .ok (.istore 8, 2) := by decide +kernel
theorem d_Pattern_fits_67 : decode b_Pattern_fits 67 = .ok (.goto 65, 3) := by decide +kernel
theorem d_Pattern_fits_70 : decode b_Pattern_fits 70 = .ok (.iload 10, 2) := by decide +kernel
theorem d_Pattern_fits_72 : decode b_Pattern_fits 72 = .ok (.bipush 36, 2) := by decide +kernel
theorem d_Pattern_fits_74 : decode b_Pattern_fits 74 = .ok (.if_icmp .ne 9, 3) := by decide +kernel
theorem d_Pattern_fits_77 : decode b_Pattern_fits 77 = .ok (.iconst 1, 1) := by decide +kernel
theorem d_Pattern_fits_78 : decode b_Pattern_fits 78 = .ok (.istore 8, 2) := by decide +kernel
theorem d_Pattern_fits_80 : decode b_Pattern_fits 80 = .ok (.goto 52, 3) := by decide +kernel
theorem d_Pattern_fits_83 : decode b_Pattern_fits 83 = .ok (.iload 10, 2) := by decide +kernel
theorem d_Pattern_fits_85 : decode b_Pattern_fits 85 = .ok (.bipush 42, 2) := by decide +kernel
theorem d_Pattern_fits_87 : decode b_Pattern_fits 87 = .ok (.if_icmp .ne 14, 3) := by decide +kernel
theorem d_Pattern_fits_90 : decode b_Pattern_fits 90 = .ok (.iload 7, 2) := by decide +kernel
theorem d_Pattern_fits_92 : decode b_Pattern_fits 92 = .ok (.lload_n 2, 1) := by decide +kernel
theorem d_Pattern_fits_93 : decode b_Pattern_fits 93 = .ok (.invokestatic 31, 3) := by decide +kernel
theorem d_Pattern_fits_96 : decode b_Pattern_fits 96 = .ok (.istore 7, 2) := by decide +kernel
theorem d_Pattern_fits_98 : decode b_Pattern_fits 98 = .ok (.goto 34, 3) := by decide +kernel
theorem d_Pattern_fits_101 : decode b_Pattern_fits 101 = .ok (.iload 10, 2) := by decide +kernel
theorem d_Pattern_fits_103 : decode b_Pattern_fits 103 = .ok (.bipush 63, 2) := by decide +kernel
theorem d_Pattern_fits_105 : decode b_Pattern_fits 105 = .ok (.if_icmp .ne 14, 3) := by decide +kernel
theorem d_Pattern_fits_108 : decode b_Pattern_fits 108 = .ok (.iload 7, 2) := by decide +kernel
theorem d_Pattern_fits_110 : decode b_Pattern_fits 110 = .ok (.lload_n 2, 1) := by decide +kernel
theorem d_Pattern_fits_111 : decode b_Pattern_fits 111 = .ok (.invokestatic 35, 3) := by decide +kernel
theorem d_Pattern_fits_114 : decode b_Pattern_fits 114 = .ok (.istore 7, 2) := by decide +kernel
theorem d_Pattern_fits_116 : decode b_Pattern_fits 116 = .ok (.goto 16, 3) := by decide +kernel
theorem d_Pattern_fits_119 : decode b_Pattern_fits 119 = .ok (.iload 7, 2) := by decide +kernel
theorem d_Pattern_fits_121 : decode b_Pattern_fits 121 = .ok (.iload 10, 2) := by decide +kernel
theorem d_Pattern_fits_123 : decode b_Pattern_fits 123 = .ok (.i2l, 1) := by decide +kernel
theorem d_Pattern_fits_124 : decode b_Pattern_fits 124 = .ok (.lload_n 2, 1) := by decide +kernel
theorem d_Pattern_fits_125 : decode b_Pattern_fits 125 = .ok (.iload 4, 2) := by decide +kernel
theorem d_Pattern_fits_127 : decode b_Pattern_fits 127 = .ok (.invokestatic 27, 3) := by decide +kernel
theorem d_Pattern_fits_130 : decode b_Pattern_fits 130 = .ok (.istore 7, 2) := by decide +kernel
theorem d_Pattern_fits_132 : decode b_Pattern_fits 132 = .ok (.iinc 9 1, 3) := by decide +kernel
theorem d_Pattern_fits_135 : decode b_Pattern_fits 135 = .ok (.goto (-120), 3) := by decide +kernel
theorem d_Pattern_fits_138 : decode b_Pattern_fits 138 = .ok (.iload 8, 2) := by decide +kernel
theorem d_Pattern_fits_140 : decode b_Pattern_fits 140 = .ok (.ifCond .ne 19, 3) := by decide +kernel
theorem d_Pattern_fits_143 : decode b_Pattern_fits 143 = .ok (.iload 7, 2) := by decide +kernel
theorem d_Pattern_fits_145 : decode b_Pattern_fits 145 = .ok (.lload_n 2, 1) := by decide +kernel
theorem d_Pattern_fits_146 : decode b_Pattern_fits 146 = .ok (.invokestatic 7, 3) := by decide +kernel
theorem d_Pattern_fits_149 : decode b_Pattern_fits 149 = .ok (.iushr, 1) := by decide +kernel
theorem d_Pattern_fits_150 : decode b_Pattern_fits 150 = .ok (.iconst 1, 1) := by decide +kernel
theorem d_Pattern_fits_151 : decode b_Pattern_fits 151 = .ok (.iand, 1) := by decide +kernel
theorem d_Pattern_fits_152 : decode b_Pattern_fits 152 = .ok (.ifCond .eq 7, 3) := by decide +kernel
theorem d_Pattern_fits_155 : decode b_Pattern_fits 155 = .ok (.iconst 1, 1) := by decide +kernel
theorem d_Pattern_fits_156 : decode b_Pattern_fits 156 = .ok (.goto 4, 3) := by decide +kernel
theorem d_Pattern_fits_159 : decode b_Pattern_fits 159 = .ok (.iconst 0, 1) := by decide +kernel
theorem d_Pattern_fits_160 : decode b_Pattern_fits 160 = .ok (.ireturn, 1) := by decide +kernel
theorem d_Pattern_meaning_0 : decode b_Pattern_meaning 0 = .ok (.iload_n 0, 1) := by decide +kernel
theorem d_Pattern_meaning_1 : decode b_Pattern_meaning 1 = .ok (.bipush 48, 2) := by decide +kernel
theorem d_Pattern_meaning_3 : decode b_Pattern_meaning 3 = .ok (.isub, 1) := by decide +kernel
theorem d_Pattern_meaning_4 : decode b_Pattern_meaning 4 = .ok (.invokestatic 44, 3) := by decide +kernel
theorem d_Pattern_meaning_7 : decode b_Pattern_meaning 7 = .ok (.ifCond .eq 15, 3) := by decide +kernel
theorem d_Pattern_meaning_10 : decode b_Pattern_meaning 10 = .ok (.aload_n 1, 1) := by decide +kernel
theorem d_Pattern_meaning_11 : decode b_Pattern_meaning 11 = .ok (.iload_n 0, 1) := by decide +kernel
theorem d_Pattern_meaning_12 : decode b_Pattern_meaning 12 = .ok (.bipush 48, 2) := by decide +kernel
theorem d_Pattern_meaning_14 : decode b_Pattern_meaning 14 = .ok (.isub, 1) := by decide +kernel
theorem d_Pattern_meaning_15 : decode b_Pattern_meaning 15 = .ok (.iconst 0, 1) := by decide +kernel
theorem d_Pattern_meaning_16 : decode b_Pattern_meaning 16 = .ok (.invokevirtual 48, 3) := by decide +kernel
theorem d_Pattern_meaning_19 : decode b_Pattern_meaning 19 = .ok (.goto 5, 3) := by decide +kernel
theorem d_Pattern_meaning_22 : decode b_Pattern_meaning 22 = .ok (.iload_n 0, 1) := by decide +kernel
theorem d_Pattern_meaning_23 : decode b_Pattern_meaning 23 = .ok (.i2l, 1) := by decide +kernel
theorem d_Pattern_meaning_24 : decode b_Pattern_meaning 24 = .ok (.lreturn, 1) := by decide +kernel
theorem d_Pattern_meansSomething_0 : decode b_Pattern_meansSomething 0 = .ok (.iload_n 0, 1) := by decide +kernel
theorem d_Pattern_meansSomething_1 : decode b_Pattern_meansSomething 1 = .ok (.bipush 36, 2) := by decide +kernel
theorem d_Pattern_meansSomething_3 : decode b_Pattern_meansSomething 3 = .ok (.if_icmp .eq 27, 3) := by decide +kernel
theorem d_Pattern_meansSomething_6 : decode b_Pattern_meansSomething 6 = .ok (.iload_n 0, 1) := by decide +kernel
theorem d_Pattern_meansSomething_7 : decode b_Pattern_meansSomething 7 = .ok (.bipush 42, 2) := by decide +kernel
theorem d_Pattern_meansSomething_9 : decode b_Pattern_meansSomething 9 = .ok (.if_icmp .eq 21, 3) := by decide +kernel
theorem d_Pattern_meansSomething_12 : decode b_Pattern_meansSomething 12 = .ok (.iload_n 0, 1) := by decide +kernel
theorem d_Pattern_meansSomething_13 : decode b_Pattern_meansSomething 13 = .ok (.bipush 63, 2) := by decide +kernel
theorem d_Pattern_meansSomething_15 : decode b_Pattern_meansSomething 15 = .ok (.if_icmp .eq 15, 3) := by decide +kernel
theorem d_Pattern_meansSomething_18 : decode b_Pattern_meansSomething 18 = .ok (.aload_n 1, 1) := by decide +kernel
theorem d_Pattern_meansSomething_19 : decode b_Pattern_meansSomething 19 = .ok (.iload_n 0, 1) := by decide +kernel
theorem d_Pattern_meansSomething_20 : decode b_Pattern_meansSomething 20 = .ok (.bipush 48, 2) := by decide +kernel
theorem d_Pattern_meansSomething_22 : decode b_Pattern_meansSomething 22 = .ok (.isub, 1) := by decide +kernel
theorem d_Pattern_meansSomething_23 : decode b_Pattern_meansSomething 23 = .ok (.invokevirtual 38, 3) := by decide +kernel
theorem d_Pattern_meansSomething_26 : decode b_Pattern_meansSomething 26 = .ok (.iconst 1, 1) := by decide +kernel
theorem d_Pattern_meansSomething_27 : decode b_Pattern_meansSomething 27 = .ok (.if_icmp .ne 7, 3) := by decide +kernel
theorem d_Pattern_meansSomething_30 : decode b_Pattern_meansSomething 30 = .ok (.iconst 1, 1) := by decide +kernel
theorem d_Pattern_meansSomething_31 : decode b_Pattern_meansSomething 31 = .ok (.goto 4, 3) := by decide +kernel
theorem d_Pattern_meansSomething_34 : decode b_Pattern_meansSomething 34 = .ok (.iconst 0, 1) := by decide +kernel
theorem d_Pattern_meansSomething_35 : decode b_Pattern_meansSomething 35 = .ok (.ireturn, 1) := by decide +kernel
theorem d_Pattern_readAnyOne_0 : decode b_Pattern_readAnyOne 0 = .ok (.iconst 2, 1) := by decide +kernel
theorem d_Pattern_readAnyOne_1 : decode b_Pattern_readAnyOne 1 = .ok (.lload_n 1, 1) := by decide +kernel
theorem d_Pattern_readAnyOne_2 : decode b_Pattern_readAnyOne 2 = .ok (.invokestatic 7, 3) := by decide +kernel
theorem d_Pattern_readAnyOne_5 : decode b_Pattern_readAnyOne 5 = .ok (.ishl, 1) := by decide +kernel
theorem d_Pattern_readAnyOne_6 : decode b_Pattern_readAnyOne 6 = .ok (.iconst 1, 1) := by decide +kernel
theorem d_Pattern_readAnyOne_7 : decode b_Pattern_readAnyOne 7 = .ok (.isub, 1) := by decide +kernel
theorem d_Pattern_readAnyOne_8 : decode b_Pattern_readAnyOne 8 = .ok (.istore_n 3, 1) := by decide +kernel
theorem d_Pattern_readAnyOne_9 : decode b_Pattern_readAnyOne 9 = .ok (.iload_n 0, 1) := by decide +kernel
theorem d_Pattern_readAnyOne_10 : decode b_Pattern_readAnyOne 10 = .ok (.iconst 1, 1) := by decide +kernel
theorem d_Pattern_readAnyOne_11 : decode b_Pattern_readAnyOne 11 = .ok (.ishl, 1) := by decide +kernel
theorem d_Pattern_readAnyOne_12 : decode b_Pattern_readAnyOne 12 = .ok (.iload_n 3, 1) := by decide +kernel
theorem d_Pattern_readAnyOne_13 : decode b_Pattern_readAnyOne 13 = .ok (.iand, 1) := by decide +kernel
theorem d_Pattern_readAnyOne_14 : decode b_Pattern_readAnyOne 14 = .ok (.ireturn, 1) := by decide +kernel
theorem d_Pattern_readAnyRow_0 : decode b_Pattern_readAnyRow 0 = .ok (.iload_n 0, 1) := by decide +kernel
theorem d_Pattern_readAnyRow_1 : decode b_Pattern_readAnyRow 1 = .ok (.iload_n 0, 1) := by decide +kernel
theorem d_Pattern_readAnyRow_2 : decode b_Pattern_readAnyRow 2 = .ok (.ineg, 1) := by decide +kernel
theorem d_Pattern_readAnyRow_3 : decode b_Pattern_readAnyRow 3 = .ok (.iand, 1) := by decide +kernel
theorem d_Pattern_readAnyRow_4 : decode b_Pattern_readAnyRow 4 = .ok (.istore_n 3, 1) := by decide +kernel
theorem d_Pattern_readAnyRow_5 : decode b_Pattern_readAnyRow 5 = .ok (.iconst 2, 1) := by decide +kernel
theorem d_Pattern_readAnyRow_6 : decode b_Pattern_readAnyRow 6 = .ok (.lload_n 1, 1) := by decide +kernel
theorem d_Pattern_readAnyRow_7 : decode b_Pattern_readAnyRow 7 = .ok (.invokestatic 7, 3) := by decide +kernel
theorem d_Pattern_readAnyRow_10 : decode b_Pattern_readAnyRow 10 = .ok (.ishl, 1) := by decide +kernel
theorem d_Pattern_readAnyRow_11 : decode b_Pattern_readAnyRow 11 = .ok (.iconst 1, 1) := by decide +kernel
theorem d_Pattern_readAnyRow_12 : decode b_Pattern_readAnyRow 12 = .ok (.isub, 1) := by decide +kernel
theorem d_Pattern_readAnyRow_13 : decode b_Pattern_readAnyRow 13 = .ok (.istore 4, 2) := by decide +kernel
theorem d_Pattern_readAnyRow_15 : decode b_Pattern_readAnyRow 15 = .ok (.iload_n 3, 1) := by decide +kernel
theorem d_Pattern_readAnyRow_16 : decode b_Pattern_readAnyRow 16 = .ok (.ineg, 1) := by decide +kernel
theorem d_Pattern_readAnyRow_17 : decode b_Pattern_readAnyRow 17 = .ok (.iload 4, 2) := by decide +kernel
theorem d_Pattern_readAnyRow_19 : decode b_Pattern_readAnyRow 19 = .ok (.iand, 1) := by decide +kernel
theorem d_Pattern_readAnyRow_20 : decode b_Pattern_readAnyRow 20 = .ok (.ireturn, 1) := by decide +kernel
theorem d_Pattern_readText_0 : decode b_Pattern_readText 0 = .ok (.lload_n 1, 1) := by decide +kernel
theorem d_Pattern_readText_1 : decode b_Pattern_readText 1 = .ok (.invokestatic 7, 3) := by decide +kernel
theorem d_Pattern_readText_4 : decode b_Pattern_readText 4 = .ok (.istore 6, 2) := by decide +kernel
theorem d_Pattern_readText_6 : decode b_Pattern_readText 6 = .ok (.lload_n 3, 1) := by decide +kernel
theorem d_Pattern_readText_7 : decode b_Pattern_readText 7 = .ok (.invokestatic 7, 3) := by decide +kernel
theorem d_Pattern_readText_10 : decode b_Pattern_readText 10 = .ok (.istore 7, 2) := by decide +kernel
theorem d_Pattern_readText_12 : decode b_Pattern_readText 12 = .ok (.iload_n 0, 1) := by decide +kernel
theorem d_Pattern_readText_13 : decode b_Pattern_readText 13 = .ok (.istore 8, 2) := by decide +kernel
theorem d_Pattern_readText_15 : decode b_Pattern_readText 15 = .ok (.iconst 0, 1) := by decide +kernel
theorem d_Pattern_readText_16 : decode b_Pattern_readText 16 = .ok (.istore 9, 2) := by decide +kernel
theorem d_Pattern_readText_18 : decode b_Pattern_readText 18 = .ok (.iload 9, 2) := by decide +kernel
theorem d_Pattern_readText_20 : decode b_Pattern_readText 20 = .ok (.iload 6, 2) := by decide +kernel
theorem d_Pattern_readText_22 : decode b_Pattern_readText 22 = .ok (.if_icmp .ge 75, 3) := by decide +kernel
theorem d_Pattern_readText_25 : decode b_Pattern_readText 25 = .ok (.lload_n 1, 1) := by decide +kernel
theorem d_Pattern_readText_26 : decode b_Pattern_readText 26 = .ok (.iload 9, 2) := by decide +kernel
theorem d_Pattern_readText_28 : decode b_Pattern_readText 28 = .ok (.invokestatic 15, 3) := by decide +kernel
theorem d_Pattern_readText_31 : decode b_Pattern_readText 31 = .ok (.istore 10, 2) := by decide +kernel
theorem d_Pattern_readText_33 : decode b_Pattern_readText 33 = .ok (.iconst 0, 1) := by decide +kernel
theorem d_Pattern_readText_34 : decode b_Pattern_readText 34 = .ok (.istore 11, 2) := by decide +kernel
theorem d_Pattern_readText_36 : decode b_Pattern_readText 36 = .ok (.iconst 0, 1) := by decide +kernel
theorem d_Pattern_readText_37 : decode b_Pattern_readText 37 = .ok (.istore 12, 2) := by decide +kernel
theorem d_Pattern_readText_39 : decode b_Pattern_readText 39 = .ok (.iload 12, 2) := by decide +kernel
theorem d_Pattern_readText_41 : decode b_Pattern_readText 41 = .ok (.iload 7, 2) := by decide +kernel
theorem d_Pattern_readText_43 : decode b_Pattern_readText 43 = .ok (.if_icmp .ge 44, 3) := by decide +kernel
theorem d_Pattern_readText_46 : decode b_Pattern_readText 46 = .ok (.iload 8, 2) := by decide +kernel
theorem d_Pattern_readText_48 : decode b_Pattern_readText 48 = .ok (.iload 12, 2) := by decide +kernel
theorem d_Pattern_readText_50 : decode b_Pattern_readText 50 = .ok (.iushr, 1) := by decide +kernel
theorem d_Pattern_readText_51 : decode b_Pattern_readText 51 = .ok (.iconst 1, 1) := by decide +kernel
theorem d_Pattern_readText_52 : decode b_Pattern_readText 52 = .ok (.iand, 1) := by decide +kernel
theorem d_Pattern_readText_53 : decode b_Pattern_readText 53 = .ok (.ifCond .eq 28, 3) := by decide +kernel
theorem d_Pattern_readText_56 : decode b_Pattern_readText 56 = .ok (.iload 10, 2) := by decide +kernel
theorem d_Pattern_readText_58 : decode b_Pattern_readText 58 = .ok (.lload_n 3, 1) := by decide +kernel
theorem d_Pattern_readText_59 : decode b_Pattern_readText 59 = .ok (.iload 12, 2) := by decide +kernel
theorem d_Pattern_readText_61 : decode b_Pattern_readText 61 = .ok (.invokestatic 15, 3) := by decide +kernel
theorem d_Pattern_readText_64 : decode b_Pattern_readText 64 = .ok (.iload 5, 2) := by decide +kernel
theorem d_Pattern_readText_66 : decode b_Pattern_readText 66 = .ok (.invokestatic 52, 3) := by decide +kernel
theorem d_Pattern_readText_69 : decode b_Pattern_readText 69 = .ok (.ifCond .eq 12, 3) := by decide +kernel
theorem d_Pattern_readText_72 : decode b_Pattern_readText 72 = .ok (.iload 11, 2) := by decide +kernel
theorem d_Pattern_readText_74 : decode b_Pattern_readText 74 = .ok (.iconst 2, 1) := by decide +kernel
theorem d_Pattern_readText_75 : decode b_Pattern_readText 75 = .ok (.iload 12, 2) := by decide +kernel
theorem d_Pattern_readText_77 : decode b_Pattern_readText 77 = .ok (.ishl, 1) := by decide +kernel
theorem d_Pattern_readText_78 : decode b_Pattern_readText 78 = .ok (.ior, 1) := by decide +kernel
theorem d_Pattern_readText_79 : decode b_Pattern_readText 79 = .ok (.istore 11, 2) := by decide +kernel
theorem d_Pattern_readText_81 : decode b_Pattern_readText 81 = .ok (.iinc 12 1, 3) := by decide +kernel
theorem d_Pattern_readText_84 : decode b_Pattern_readText 84 = .ok (.goto (-45), 3) := by decide +kernel
theorem d_Pattern_readText_87 : decode b_Pattern_readText 87 = .ok (.iload 11, 2) := by decide +kernel
theorem d_Pattern_readText_89 : decode b_Pattern_readText 89 = .ok (.istore 8, 2) := by decide +kernel
theorem d_Pattern_readText_91 : decode b_Pattern_readText 91 = .ok (.iinc 9 1, 3) := by decide +kernel
theorem d_Pattern_readText_94 : decode b_Pattern_readText 94 = .ok (.goto (-76), 3) := by decide +kernel
theorem d_Pattern_readText_97 : decode b_Pattern_readText 97 = .ok (.iload 8, 2) := by decide +kernel
theorem d_Pattern_readText_99 : decode b_Pattern_readText 99 = .ok (.ireturn, 1) := by decide +kernel
theorem d_Statement_become_0 : decode b_Statement_become 0 = .ok (.aload_n 0, 1) := by decide +kernel
theorem d_Statement_become_1 : decode b_Statement_become 1 = .ok (.iload_n 1, 1) := by decide +kernel
theorem d_Statement_become_2 : decode b_Statement_become 2 = .ok (.putfield 9, 3) := by decide +kernel
theorem d_Statement_become_5 : decode b_Statement_become 5 = .ok (.aload_n 0, 1) := by decide +kernel
theorem d_Statement_become_6 : decode b_Statement_become 6 = .ok (.lload_n 2, 1) := by decide +kernel
theorem d_Statement_become_7 : decode b_Statement_become 7 = .ok (.putfield 13, 3) := by decide +kernel
theorem d_Statement_become_10 : decode b_Statement_become 10 = .ok (.aload_n 0, 1) := by decide +kernel
theorem d_Statement_become_11 : decode b_Statement_become 11 = .ok (.lload 4, 2) := by decide +kernel
theorem d_Statement_become_13 : decode b_Statement_become 13 = .ok (.putfield 17, 3) := by decide +kernel
theorem d_Statement_become_16 : decode b_Statement_become 16 = .ok (.aload_n 0, 1) := by decide +kernel
theorem d_Statement_become_17 : decode b_Statement_become 17 = .ok (.iload 6, 2) := by decide +kernel
theorem d_Statement_become_19 : decode b_Statement_become 19 = .ok (.putfield 20, 3) := by decide +kernel
theorem d_Statement_become_22 : decode b_Statement_become 22 = .ok (.aload_n 0, 1) := by decide +kernel
theorem d_Statement_become_23 : decode b_Statement_become 23 = .ok (.aload 7, 2) := by decide +kernel
theorem d_Statement_become_25 : decode b_Statement_become 25 = .ok (.putfield 23, 3) := by decide +kernel
theorem d_Statement_become_28 : decode b_Statement_become 28 = .ok (.return_, 1) := by decide +kernel
theorem d_Statement_init_0 : decode b_Statement_init 0 = .ok (.aload_n 0, 1) := by decide +kernel
theorem d_Statement_init_1 : decode b_Statement_init 1 = .ok (.invokespecial 1, 3) := by decide +kernel
theorem d_Statement_init_4 : decode b_Statement_init 4 = .ok (.return_, 1) := by decide +kernel
theorem d_Statement_isDenying_0 : decode b_Statement_isDenying 0 = .ok (.aload_n 0, 1) := by decide +kernel
theorem d_Statement_isDenying_1 : decode b_Statement_isDenying 1 = .ok (.getfield 9, 3) := by decide +kernel
theorem d_Statement_isDenying_4 : decode b_Statement_isDenying 4 = .ok (.iconst 1, 1) := by decide +kernel
theorem d_Statement_isDenying_5 : decode b_Statement_isDenying 5 = .ok (.iand, 1) := by decide +kernel
theorem d_Statement_isDenying_6 : decode b_Statement_isDenying 6 = .ok (.ifCond .eq 7, 3) := by decide +kernel
theorem d_Statement_isDenying_9 : decode b_Statement_isDenying 9 = .ok (.iconst 1, 1) := by decide +kernel
theorem d_Statement_isDenying_10 : decode b_Statement_isDenying 10 = .ok (.goto 4, 3) := by decide +kernel
theorem d_Statement_isDenying_13 : decode b_Statement_isDenying 13 = .ok (.iconst 0, 1) := by decide +kernel
theorem d_Statement_isDenying_14 : decode b_Statement_isDenying 14 = .ok (.ireturn, 1) := by decide +kernel
theorem d_Statement_isWho_0 : decode b_Statement_isWho 0 = .ok (.iload_n 0, 1) := by decide +kernel
theorem d_Statement_isWho_1 : decode b_Statement_isWho 1 = .ok (.iconst (-1), 1) := by decide +kernel
theorem d_Statement_isWho_2 : decode b_Statement_isWho 2 = .ok (.if_icmp .lt 9, 3) := by decide +kernel
theorem d_Statement_isWho_5 : decode b_Statement_isWho 5 = .ok (.iload_n 0, 1) := by decide +kernel
theorem d_Statement_isWho_6 : decode b_Statement_isWho 6 = .ok (.bipush 9, 2) := by decide +kernel
theorem d_Statement_isWho_8 : decode b_Statement_isWho 8 = .ok (.if_icmp .le 16, 3) := by decide +kernel
theorem d_Statement_isWho_11 : decode b_Statement_isWho 11 = .ok (.iload_n 0, 1) := by decide +kernel
theorem d_Statement_isWho_12 : decode b_Statement_isWho 12 = .ok (.bipush 100, 2) := by decide +kernel
theorem d_Statement_isWho_14 : decode b_Statement_isWho 14 = .ok (.if_icmp .lt 14, 3) := by decide +kernel
theorem d_Statement_isWho_17 : decode b_Statement_isWho 17 = .ok (.iload_n 0, 1) := by decide +kernel
theorem d_Statement_isWho_18 : decode b_Statement_isWho 18 = .ok (.sipush 199, 3) := by decide +kernel
theorem d_Statement_isWho_21 : decode b_Statement_isWho 21 = .ok (.if_icmp .gt 7, 3) := by decide +kernel
theorem d_Statement_isWho_24 : decode b_Statement_isWho 24 = .ok (.iconst 1, 1) := by decide +kernel
theorem d_Statement_isWho_25 : decode b_Statement_isWho 25 = .ok (.goto 4, 3) := by decide +kernel
theorem d_Statement_isWho_28 : decode b_Statement_isWho 28 = .ok (.iconst 0, 1) := by decide +kernel
theorem d_Statement_isWho_29 : decode b_Statement_isWho 29 = .ok (.ireturn, 1) := by decide +kernel
theorem d_Statement_means_0 : decode b_Statement_means 0 = .ok (.aload_n 0, 1) := by decide +kernel
theorem d_Statement_means_1 : decode b_Statement_means 1 = .ok (.getfield 20, 3) := by decide +kernel
theorem d_Statement_means_4 : decode b_Statement_means 4 = .ok (.iconst (-1), 1) := by decide +kernel
theorem d_Statement_means_5 : decode b_Statement_means 5 = .ok (.if_icmp .eq 25, 3) := by decide +kernel
theorem d_Statement_means_8 : decode b_Statement_means 8 = .ok (.aload_n 0, 1) := by decide +kernel
theorem d_Statement_means_9 : decode b_Statement_means 9 = .ok (.getfield 20, 3) := by decide +kernel
theorem d_Statement_means_12 : decode b_Statement_means 12 = .ok (.iload_n 1, 1) := by decide +kernel
theorem d_Statement_means_13 : decode b_Statement_means 13 = .ok (.if_icmp .eq 17, 3) := by decide +kernel
theorem d_Statement_means_16 : decode b_Statement_means 16 = .ok (.aload_n 0, 1) := by decide +kernel
theorem d_Statement_means_17 : decode b_Statement_means 17 = .ok (.getfield 20, 3) := by decide +kernel
theorem d_Statement_means_20 : decode b_Statement_means 20 = .ok (.iload_n 1, 1) := by decide +kernel
theorem d_Statement_means_21 : decode b_Statement_means 21 = .ok (.bipush 100, 2) := by decide +kernel
theorem d_Statement_means_23 : decode b_Statement_means 23 = .ok (.isub, 1) := by decide +kernel
theorem d_Statement_means_24 : decode b_Statement_means 24 = .ok (.bipush 10, 2) := by decide +kernel
theorem d_Statement_means_26 : decode b_Statement_means 26 = .ok (.idiv, 1) := by decide +kernel
theorem d_Statement_means_27 : decode b_Statement_means 27 = .ok (.if_icmp .ne 7, 3) := by decide +kernel
theorem d_Statement_means_30 : decode b_Statement_means 30 = .ok (.iconst 1, 1) := by decide +kernel
theorem d_Statement_means_31 : decode b_Statement_means 31 = .ok (.goto 4, 3) := by decide +kernel
theorem d_Statement_means_34 : decode b_Statement_means 34 = .ok (.iconst 0, 1) := by decide +kernel
theorem d_Statement_means_35 : decode b_Statement_means 35 = .ok (.ireturn, 1) := by decide +kernel
theorem d_Statement_names_0 : decode b_Statement_names 0 = .ok (.aload_n 0, 1) := by decide +kernel
theorem d_Statement_names_1 : decode b_Statement_names 1 = .ok (.getfield 20, 3) := by decide +kernel
theorem d_Statement_names_4 : decode b_Statement_names 4 = .ok (.iload_n 1, 1) := by decide +kernel
theorem d_Statement_names_5 : decode b_Statement_names 5 = .ok (.if_icmp .ne 7, 3) := by decide +kernel
theorem d_Statement_names_8 : decode b_Statement_names 8 = .ok (.iconst 1, 1) := by decide +kernel
theorem d_Statement_names_9 : decode b_Statement_names 9 = .ok (.goto 4, 3) := by decide +kernel
theorem d_Statement_names_12 : decode b_Statement_names 12 = .ok (.iconst 0, 1) := by decide +kernel
theorem d_Statement_names_13 : decode b_Statement_names 13 = .ok (.ireturn, 1) := by decide +kernel
theorem d_Statement_suits_0 : decode b_Statement_suits 0 = .ok (.aload_n 0, 1) := by decide +kernel
theorem d_Statement_suits_1 : decode b_Statement_suits 1 = .ok (.getfield 9, 3) := by decide +kernel
theorem d_Statement_suits_4 : decode b_Statement_suits 4 = .ok (.iconst 2, 1) := by decide +kernel
theorem d_Statement_suits_5 : decode b_Statement_suits 5 = .ok (.iand, 1) := by decide +kernel
theorem d_Statement_suits_6 : decode b_Statement_suits 6 = .ok (.ifCond .eq 7, 3) := by decide +kernel
theorem d_Statement_suits_9 : decode b_Statement_suits 9 = .ok (.iconst 1, 1) := by decide +kernel
theorem d_Statement_suits_10 : decode b_Statement_suits 10 = .ok (.goto 4, 3) := by decide +kernel
theorem d_Statement_suits_13 : decode b_Statement_suits 13 = .ok (.iconst 0, 1) := by decide +kernel
theorem d_Statement_suits_14 : decode b_Statement_suits 14 = .ok (.istore 7, 2) := by decide +kernel
theorem d_Statement_suits_16 : decode b_Statement_suits 16 = .ok (.aload_n 0, 1) := by decide +kernel
theorem d_Statement_suits_17 : decode b_Statement_suits 17 = .ok (.getfield 9, 3) := by decide +kernel
theorem d_Statement_suits_20 : decode b_Statement_suits 20 = .ok (.iconst 4, 1) := by decide +kernel
theorem d_Statement_suits_21 : decode b_Statement_suits 21 = .ok (.iand, 1) := by decide +kernel
theorem d_Statement_suits_22 : decode b_Statement_suits 22 = .ok (.ifCond .eq 7, 3) := by decide +kernel
theorem d_Statement_suits_25 : decode b_Statement_suits 25 = .ok (.iconst 1, 1) := by decide +kernel
theorem d_Statement_suits_26 : decode b_Statement_suits 26 = .ok (.goto 4, 3) := by decide +kernel
theorem d_Statement_suits_29 : decode b_Statement_suits 29 = .ok (.iconst 0, 1) := by decide +kernel
theorem d_Statement_suits_30 : decode b_Statement_suits 30 = .ok (.istore 8, 2) := by decide +kernel
theorem d_Statement_suits_32 : decode b_Statement_suits 32 = .ok (.aload_n 0, 1) := by decide +kernel
theorem d_Statement_suits_33 : decode b_Statement_suits 33 = .ok (.iload_n 1, 1) := by decide +kernel
theorem d_Statement_suits_34 : decode b_Statement_suits 34 = .ok (.invokevirtual 27, 3) := by decide +kernel
theorem d_Statement_suits_37 : decode b_Statement_suits 37 = .ok (.ifCond .eq 59, 3) := by decide +kernel
theorem d_Statement_suits_40 : decode b_Statement_suits 40 = .ok (.aload_n 0, 1) := by decide +kernel
theorem d_Statement_suits_41 : decode b_Statement_suits 41 = .ok (.getfield 13, 3) := by decide +kernel
theorem d_Statement_suits_44 : decode b_Statement_suits 44 = .ok (.lload_n 2, 1) := by decide +kernel
theorem d_Statement_suits_45 : decode b_Statement_suits 45 = .ok (.iconst 1, 1) := by decide +kernel
theorem d_Statement_suits_46 : decode b_Statement_suits 46 = .ok (.aload 6, 2) := by decide +kernel
theorem d_Statement_suits_48 : decode b_Statement_suits 48 = .ok (.invokestatic 31, 3) := by decide +kernel
theorem d_Statement_suits_51 : decode b_Statement_suits 51 = .ok (.iload 7, 2) := by decide +kernel
theorem d_Statement_suits_53 : decode b_Statement_suits 53 = .ok (.if_icmp .eq 43, 3) := by decide +kernel
theorem d_Statement_suits_56 : decode b_Statement_suits 56 = .ok (.aload_n 0, 1) := by decide +kernel
theorem d_Statement_suits_57 : decode b_Statement_suits 57 = .ok (.getfield 17, 3) := by decide +kernel
theorem d_Statement_suits_60 : decode b_Statement_suits 60 = .ok (.lload 4, 2) := by decide +kernel
theorem d_Statement_suits_62 : decode b_Statement_suits 62 = .ok (.iconst 0, 1) := by decide +kernel
theorem d_Statement_suits_63 : decode b_Statement_suits 63 = .ok (.aload 6, 2) := by decide +kernel
theorem d_Statement_suits_65 : decode b_Statement_suits 65 = .ok (.invokestatic 31, 3) := by decide +kernel
theorem d_Statement_suits_68 : decode b_Statement_suits 68 = .ok (.iload 8, 2) := by decide +kernel
theorem d_Statement_suits_70 : decode b_Statement_suits 70 = .ok (.if_icmp .eq 26, 3) := by decide +kernel
theorem d_Statement_suits_73 : decode b_Statement_suits 73 = .ok (.aload_n 0, 1) := by decide +kernel
theorem d_Statement_suits_74 : decode b_Statement_suits 74 = .ok (.getfield 23, 3) := by decide +kernel
theorem d_Statement_suits_77 : decode b_Statement_suits 77 = .ok (.ifnull 15, 3) := by decide +kernel
theorem d_Statement_suits_80 : decode b_Statement_suits 80 = .ok (.aload_n 0, 1) := by decide +kernel
theorem d_Statement_suits_81 : decode b_Statement_suits 81 = .ok (.getfield 23, 3) := by decide +kernel
theorem d_Statement_suits_84 : decode b_Statement_suits 84 = .ok (.aload 6, 2) := by decide +kernel
theorem d_Statement_suits_86 : decode b_Statement_suits 86 = .ok (.invokevirtual 37, 3) := by decide +kernel
theorem d_Statement_suits_89 : decode b_Statement_suits 89 = .ok (.ifCond .eq 7, 3) := by decide +kernel
theorem d_Statement_suits_92 : decode b_Statement_suits 92 = .ok (.iconst 1, 1) := by decide +kernel
theorem d_Statement_suits_93 : decode b_Statement_suits 93 = .ok (.goto 4, 3) := by decide +kernel
theorem d_Statement_suits_96 : decode b_Statement_suits 96 = .ok (.iconst 0, 1) := by decide +kernel
theorem d_Statement_suits_97 : decode b_Statement_suits 97 = .ok (.ireturn, 1) := by decide +kernel
theorem d_Statement_whoOfUser_0 : decode b_Statement_whoOfUser 0 = .ok (.bipush 100, 2) := by decide +kernel
theorem d_Statement_whoOfUser_2 : decode b_Statement_whoOfUser 2 = .ok (.bipush 10, 2) := by decide +kernel
theorem d_Statement_whoOfUser_4 : decode b_Statement_whoOfUser 4 = .ok (.iload_n 0, 1) := by decide +kernel
theorem d_Statement_whoOfUser_5 : decode b_Statement_whoOfUser 5 = .ok (.imul, 1) := by decide +kernel
theorem d_Statement_whoOfUser_6 : decode b_Statement_whoOfUser 6 = .ok (.iadd, 1) := by decide +kernel
theorem d_Statement_whoOfUser_7 : decode b_Statement_whoOfUser 7 = .ok (.iload_n 1, 1) := by decide +kernel
theorem d_Statement_whoOfUser_8 : decode b_Statement_whoOfUser 8 = .ok (.iadd, 1) := by decide +kernel
theorem d_Statement_whoOfUser_9 : decode b_Statement_whoOfUser 9 = .ok (.ireturn, 1) := by decide +kernel
theorem d_Test_hasPrefix_0 : decode b_Test_hasPrefix 0 = .ok (.aload_n 0, 1) := by decide +kernel
theorem d_Test_hasPrefix_1 : decode b_Test_hasPrefix 1 = .ok (.getfield 16, 3) := by decide +kernel
theorem d_Test_hasPrefix_4 : decode b_Test_hasPrefix 4 = .ok (.bipush 32, 2) := by decide +kernel
theorem d_Test_hasPrefix_6 : decode b_Test_hasPrefix 6 = .ok (.lushr, 1) := by decide +kernel
theorem d_Test_hasPrefix_7 : decode b_Test_hasPrefix 7 = .ok (.l2i, 1) := by decide +kernel
theorem d_Test_hasPrefix_8 : decode b_Test_hasPrefix 8 = .ok (.bipush 63, 2) := by decide +kernel
theorem d_Test_hasPrefix_10 : decode b_Test_hasPrefix 10 = .ok (.iand, 1) := by decide +kernel
theorem d_Test_hasPrefix_11 : decode b_Test_hasPrefix 11 = .ok (.bipush 32, 2) := by decide +kernel
theorem d_Test_hasPrefix_13 : decode b_Test_hasPrefix 13 = .ok (.invokestatic 53, 3) := by decide +kernel
theorem d_Test_hasPrefix_16 : decode b_Test_hasPrefix 16 = .ok (.istore_n 3, 1) := by decide +kernel
theorem d_Test_hasPrefix_17 : decode b_Test_hasPrefix 17 = .ok (.lload_n 1, 1) := by decide +kernel
theorem d_Test_hasPrefix_18 : decode b_Test_hasPrefix 18 = .ok (.aload_n 0, 1) := by decide +kernel
theorem d_Test_hasPrefix_19 : decode b_Test_hasPrefix 19 = .ok (.getfield 16, 3) := by decide +kernel
theorem d_Test_hasPrefix_22 : decode b_Test_hasPrefix 22 = .ok (.lxor, 1) := by decide +kernel
theorem d_Test_hasPrefix_23 : decode b_Test_hasPrefix 23 = .ok (.ldc2_w 59, 3) := by decide +kernel
theorem d_Test_hasPrefix_26 : decode b_Test_hasPrefix 26 = .ok (.land, 1) := by decide +kernel
theorem d_Test_hasPrefix_27 : decode b_Test_hasPrefix 27 = .ok (.lstore 4, 2) := by decide +kernel
theorem d_Test_hasPrefix_29 : decode b_Test_hasPrefix 29 = .ok (.lload 4, 2) := by decide +kernel
theorem d_Test_hasPrefix_31 : decode b_Test_hasPrefix 31 = .ok (.bipush 32, 2) := by decide +kernel
theorem d_Test_hasPrefix_33 : decode b_Test_hasPrefix 33 = .ok (.iload_n 3, 1) := by decide +kernel
theorem d_Test_hasPrefix_34 : decode b_Test_hasPrefix 34 = .ok (.isub, 1) := by decide +kernel
theorem d_Test_hasPrefix_35 : decode b_Test_hasPrefix 35 = .ok (.lushr, 1) := by decide +kernel
theorem d_Test_hasPrefix_36 : decode b_Test_hasPrefix 36 = .ok (.lconst 0, 1) := by decide +kernel
theorem d_Test_hasPrefix_37 : decode b_Test_hasPrefix 37 = .ok (.lcmp, 1) := by decide +kernel
theorem d_Test_hasPrefix_38 : decode b_Test_hasPrefix 38 = .ok (.ifCond .ne 7, 3) := by decide +kernel
theorem d_Test_hasPrefix_41 : decode b_Test_hasPrefix 41 = .ok (.iconst 1, 1) := by decide +kernel
theorem d_Test_hasPrefix_42 : decode b_Test_hasPrefix 42 = .ok (.goto 4, 3) := by decide +kernel
theorem d_Test_hasPrefix_45 : decode b_Test_hasPrefix 45 = .ok (.iconst 0, 1) := by decide +kernel
theorem d_Test_hasPrefix_46 : decode b_Test_hasPrefix 46 = .ok (.ireturn, 1) := by decide +kernel
theorem d_Test_init_0 : decode b_Test_init 0 = .ok (.aload_n 0, 1) := by decide +kernel
theorem d_Test_init_1 : decode b_Test_init 1 = .ok (.iconst 1, 1) := by decide +kernel
theorem d_Test_init_2 : decode b_Test_init 2 = .ok (.invokespecial 1, 3) := by decide +kernel
theorem d_Test_init_5 : decode b_Test_init 5 = .ok (.aload_n 0, 1) := by decide +kernel
theorem d_Test_init_6 : decode b_Test_init 6 = .ok (.iload_n 1, 1) := by decide +kernel
theorem d_Test_init_7 : decode b_Test_init 7 = .ok (.putfield 7, 3) := by decide +kernel
theorem d_Test_init_10 : decode b_Test_init 10 = .ok (.aload_n 0, 1) := by decide +kernel
theorem d_Test_init_11 : decode b_Test_init 11 = .ok (.iload_n 2, 1) := by decide +kernel
theorem d_Test_init_12 : decode b_Test_init 12 = .ok (.putfield 13, 3) := by decide +kernel
theorem d_Test_init_15 : decode b_Test_init 15 = .ok (.aload_n 0, 1) := by decide +kernel
theorem d_Test_init_16 : decode b_Test_init 16 = .ok (.lload_n 3, 1) := by decide +kernel
theorem d_Test_init_17 : decode b_Test_init 17 = .ok (.putfield 16, 3) := by decide +kernel
theorem d_Test_init_20 : decode b_Test_init 20 = .ok (.aload_n 0, 1) := by decide +kernel
theorem d_Test_init_21 : decode b_Test_init 21 = .ok (.iload 5, 2) := by decide +kernel
theorem d_Test_init_23 : decode b_Test_init 23 = .ok (.putfield 20, 3) := by decide +kernel
theorem d_Test_init_26 : decode b_Test_init 26 = .ok (.return_, 1) := by decide +kernel
theorem d_Test_isMet_0 : decode b_Test_isMet 0 = .ok (.aload_n 0, 1) := by decide +kernel
theorem d_Test_isMet_1 : decode b_Test_isMet 1 = .ok (.getfield 20, 3) := by decide +kernel
theorem d_Test_isMet_4 : decode b_Test_isMet 4 = .ok (.iconst 1, 1) := by decide +kernel
theorem d_Test_isMet_5 : decode b_Test_isMet 5 = .ok (.iand, 1) := by decide +kernel
theorem d_Test_isMet_6 : decode b_Test_isMet 6 = .ok (.ifCond .eq 7, 3) := by decide +kernel
theorem d_Test_isMet_9 : decode b_Test_isMet 9 = .ok (.iconst 1, 1) := by decide +kernel
theorem d_Test_isMet_10 : decode b_Test_isMet 10 = .ok (.goto 4, 3) := by decide +kernel
theorem d_Test_isMet_13 : decode b_Test_isMet 13 = .ok (.iconst 0, 1) := by decide +kernel
theorem d_Test_isMet_14 : decode b_Test_isMet 14 = .ok (.istore_n 2, 1) := by decide +kernel
theorem d_Test_isMet_15 : decode b_Test_isMet 15 = .ok (.aload_n 0, 1) := by decide +kernel
theorem d_Test_isMet_16 : decode b_Test_isMet 16 = .ok (.getfield 20, 3) := by decide +kernel
theorem d_Test_isMet_19 : decode b_Test_isMet 19 = .ok (.iconst 4, 1) := by decide +kernel
theorem d_Test_isMet_20 : decode b_Test_isMet 20 = .ok (.iand, 1) := by decide +kernel
theorem d_Test_isMet_21 : decode b_Test_isMet 21 = .ok (.ifCond .eq 7, 3) := by decide +kernel
theorem d_Test_isMet_24 : decode b_Test_isMet 24 = .ok (.iconst 1, 1) := by decide +kernel
theorem d_Test_isMet_25 : decode b_Test_isMet 25 = .ok (.goto 4, 3) := by decide +kernel
theorem d_Test_isMet_28 : decode b_Test_isMet 28 = .ok (.iconst 0, 1) := by decide +kernel
theorem d_Test_isMet_29 : decode b_Test_isMet 29 = .ok (.istore_n 3, 1) := by decide +kernel
theorem d_Test_isMet_30 : decode b_Test_isMet 30 = .ok (.aload_n 1, 1) := by decide +kernel
theorem d_Test_isMet_31 : decode b_Test_isMet 31 = .ok (.aload_n 0, 1) := by decide +kernel
theorem d_Test_isMet_32 : decode b_Test_isMet 32 = .ok (.getfield 13, 3) := by decide +kernel
theorem d_Test_isMet_35 : decode b_Test_isMet 35 = .ok (.invokevirtual 23, 3) := by decide +kernel
theorem d_Test_isMet_38 : decode b_Test_isMet 38 = .ok (.istore 4, 2) := by decide +kernel
theorem d_Test_isMet_40 : decode b_Test_isMet 40 = .ok (.aload_n 0, 1) := by decide +kernel
theorem d_Test_isMet_41 : decode b_Test_isMet 41 = .ok (.getfield 7, 3) := by decide +kernel
theorem d_Test_isMet_44 : decode b_Test_isMet 44 = .ok (.bipush 7, 2) := by decide +kernel
theorem d_Test_isMet_46 : decode b_Test_isMet 46 = .ok (.if_icmp .ne 45, 3) := by decide +kernel
theorem d_Test_isMet_49 : decode b_Test_isMet 49 = .ok (.iload 4, 2) := by decide +kernel
theorem d_Test_isMet_51 : decode b_Test_isMet 51 = .ok (.ifCond .ne 7, 3) := by decide +kernel
theorem d_Test_isMet_54 : decode b_Test_isMet 54 = .ok (.iconst 1, 1) := by decide +kernel
theorem d_Test_isMet_55 : decode b_Test_isMet 55 = .ok (.goto 4, 3) := by decide +kernel
theorem d_Test_isMet_58 : decode b_Test_isMet 58 = .ok (.iconst 0, 1) := by decide +kernel
theorem d_Test_isMet_59 : decode b_Test_isMet 59 = .ok (.aload_n 0, 1) := by decide +kernel
theorem d_Test_isMet_60 : decode b_Test_isMet 60 = .ok (.getfield 16, 3) := by decide +kernel
theorem d_Test_isMet_63 : decode b_Test_isMet 63 = .ok (.lconst 0, 1) := by decide +kernel
theorem d_Test_isMet_64 : decode b_Test_isMet 64 = .ok (.lcmp, 1) := by decide +kernel
theorem d_Test_isMet_65 : decode b_Test_isMet 65 = .ok (.ifCond .eq 7, 3) := by decide +kernel
theorem d_Test_isMet_68 : decode b_Test_isMet 68 = .ok (.iconst 1, 1) := by decide +kernel
theorem d_Test_isMet_69 : decode b_Test_isMet 69 = .ok (.goto 4, 3) := by decide +kernel
theorem d_Test_isMet_72 : decode b_Test_isMet 72 = .ok (.iconst 0, 1) := by decide +kernel
theorem d_Test_isMet_73 : decode b_Test_isMet 73 = .ok (.if_icmp .ne 7, 3) := by decide +kernel
theorem d_Test_isMet_76 : decode b_Test_isMet 76 = .ok (.iconst 1, 1) := by decide +kernel
theorem d_Test_isMet_77 : decode b_Test_isMet 77 = .ok (.goto 4, 3) := by decide +kernel
theorem d_Test_isMet_80 : decode b_Test_isMet 80 = .ok (.iconst 0, 1) := by decide +kernel
theorem d_Test_isMet_81 : decode b_Test_isMet 81 = .ok (.iload_n 2, 1) := by decide +kernel
theorem d_Test_isMet_82 : decode b_Test_isMet 82 = .ok (.if_icmp .eq 7, 3) := by decide +kernel
theorem d_Test_isMet_85 : decode b_Test_isMet 85 = .ok (.iconst 1, 1) := by decide +kernel
theorem d_Test_isMet_86 : decode b_Test_isMet 86 = .ok (.goto 4, 3) := by decide +kernel
theorem d_Test_isMet_89 : decode b_Test_isMet 89 = .ok (.iconst 0, 1) := by decide +kernel
theorem d_Test_isMet_90 : decode b_Test_isMet 90 = .ok (.ireturn, 1) := by decide +kernel
theorem d_Test_isMet_91 : decode b_Test_isMet 91 = .ok (.iload 4, 2) := by decide +kernel
theorem d_Test_isMet_93 : decode b_Test_isMet 93 = .ok (.ifCond .ne 16, 3) := by decide +kernel
theorem d_Test_isMet_96 : decode b_Test_isMet 96 = .ok (.aload_n 0, 1) := by decide +kernel
theorem d_Test_isMet_97 : decode b_Test_isMet 97 = .ok (.getfield 20, 3) := by decide +kernel
theorem d_Test_isMet_100 : decode b_Test_isMet 100 = .ok (.ifCond .eq 7, 3) := by decide +kernel
theorem d_Test_isMet_103 : decode b_Test_isMet 103 = .ok (.iconst 1, 1) := by decide +kernel
theorem d_Test_isMet_104 : decode b_Test_isMet 104 = .ok (.goto 4, 3) := by decide +kernel
theorem d_Test_isMet_107 : decode b_Test_isMet 107 = .ok (.iconst 0, 1) := by decide +kernel
theorem d_Test_isMet_108 : decode b_Test_isMet 108 = .ok (.ireturn, 1) := by decide +kernel
theorem d_Test_isMet_109 : decode b_Test_isMet 109 = .ok (.iconst 0, 1) := by decide +kernel
theorem d_Test_isMet_110 : decode b_Test_isMet 110 = .ok (.istore 5, 2) := by decide +kernel
theorem d_Test_isMet_112 : decode b_Test_isMet 112 = .ok (.iload 5, 2) := by decide +kernel
theorem d_Test_isMet_114 : decode b_Test_isMet 114 = .ok (.iload 4, 2) := by decide +kernel
theorem d_Test_isMet_116 : decode b_Test_isMet 116 = .ok (.if_icmp .ge 51, 3) := by decide +kernel
theorem d_Test_isMet_119 : decode b_Test_isMet 119 = .ok (.aload_n 0, 1) := by decide +kernel
theorem d_Test_isMet_120 : decode b_Test_isMet 120 = .ok (.aload_n 1, 1) := by decide +kernel
theorem d_Test_isMet_121 : decode b_Test_isMet 121 = .ok (.aload_n 0, 1) := by decide +kernel
theorem d_Test_isMet_122 : decode b_Test_isMet 122 = .ok (.getfield 13, 3) := by decide +kernel
theorem d_Test_isMet_125 : decode b_Test_isMet 125 = .ok (.iload 5, 2) := by decide +kernel
theorem d_Test_isMet_127 : decode b_Test_isMet 127 = .ok (.invokevirtual 29, 3) := by decide +kernel
theorem d_Test_isMet_130 : decode b_Test_isMet 130 = .ok (.aload_n 1, 1) := by decide +kernel
theorem d_Test_isMet_131 : decode b_Test_isMet 131 = .ok (.invokevirtual 33, 3) := by decide +kernel
theorem d_Test_isMet_134 : decode b_Test_isMet 134 = .ok (.iload_n 2, 1) := by decide +kernel
theorem d_Test_isMet_135 : decode b_Test_isMet 135 = .ok (.if_icmp .eq 7, 3) := by decide +kernel
theorem d_Test_isMet_138 : decode b_Test_isMet 138 = .ok (.iconst 1, 1) := by decide +kernel
theorem d_Test_isMet_139 : decode b_Test_isMet 139 = .ok (.goto 4, 3) := by decide +kernel
theorem d_Test_isMet_142 : decode b_Test_isMet 142 = .ok (.iconst 0, 1) := by decide +kernel
theorem d_Test_isMet_143 : decode b_Test_isMet 143 = .ok (.istore 6, 2) := by decide +kernel
theorem d_Test_isMet_145 : decode b_Test_isMet 145 = .ok (.iload 6, 2) := by decide +kernel
theorem d_Test_isMet_147 : decode b_Test_isMet 147 = .ok (.iload_n 3, 1) := by decide +kernel
theorem d_Test_isMet_148 : decode b_Test_isMet 148 = .ok (.if_icmp .eq 13, 3) := by decide +kernel
theorem d_Test_isMet_151 : decode b_Test_isMet 151 = .ok (.iload_n 3, 1) := by decide +kernel
theorem d_Test_isMet_152 : decode b_Test_isMet 152 = .ok (.ifCond .ne 7, 3) := by decide +kernel
theorem d_Test_isMet_155 : decode b_Test_isMet 155 = .ok (.iconst 1, 1) := by decide +kernel
theorem d_Test_isMet_156 : decode b_Test_isMet 156 = .ok (.goto 4, 3) := by decide +kernel
theorem d_Test_isMet_159 : decode b_Test_isMet 159 = .ok (.iconst 0, 1) := by decide +kernel
theorem d_Test_isMet_160 : decode b_Test_isMet 160 = .ok (.ireturn, 1) := by decide +kernel
theorem d_Test_isMet_161 : decode b_Test_isMet 161 = .ok (.iinc 5 1, 3) := by decide +kernel
theorem d_Test_isMet_164 : decode b_Test_isMet 164 = .ok (.goto (-52), 3) := by decide +kernel
theorem d_Test_isMet_167 : decode b_Test_isMet 167 = .ok (.iload_n 3, 1) := by decide +kernel
theorem d_Test_isMet_168 : decode b_Test_isMet 168 = .ok (.ireturn, 1) := by decide +kernel
theorem d_Test_saysYes_0 : decode b_Test_saysYes 0 = .ok (.aload_n 0, 1) := by decide +kernel
theorem d_Test_saysYes_1 : decode b_Test_saysYes 1 = .ok (.getfield 7, 3) := by decide +kernel
theorem d_Test_saysYes_4 : decode b_Test_saysYes 4 = .ok (.tableswitch 149 0 6 #[44, 59, 68, 79, 94, 109, 115], 44) := by decide +kernel
theorem d_Test_saysYes_48 : decode b_Test_saysYes 48 = .ok (.lload_n 1, 1) := by decide +kernel
theorem d_Test_saysYes_49 : decode b_Test_saysYes 49 = .ok (.aload_n 0, 1) := by decide +kernel
theorem d_Test_saysYes_50 : decode b_Test_saysYes 50 = .ok (.getfield 16, 3) := by decide +kernel
theorem d_Test_saysYes_53 : decode b_Test_saysYes 53 = .ok (.lcmp, 1) := by decide +kernel
theorem d_Test_saysYes_54 : decode b_Test_saysYes 54 = .ok (.ifCond .ne 7, 3) := by decide +kernel
theorem d_Test_saysYes_57 : decode b_Test_saysYes 57 = .ok (.iconst 1, 1) := by decide +kernel
theorem d_Test_saysYes_58 : decode b_Test_saysYes 58 = .ok (.goto 4, 3) := by decide +kernel
theorem d_Test_saysYes_61 : decode b_Test_saysYes 61 = .ok (.iconst 0, 1) := by decide +kernel
theorem d_Test_saysYes_62 : decode b_Test_saysYes 62 = .ok (.ireturn, 1) := by decide +kernel
theorem d_Test_saysYes_63 : decode b_Test_saysYes 63 = .ok (.lload_n 1, 1) := by decide +kernel
theorem d_Test_saysYes_64 : decode b_Test_saysYes 64 = .ok (.aload_n 0, 1) := by decide +kernel
theorem d_Test_saysYes_65 : decode b_Test_saysYes 65 = .ok (.getfield 16, 3) := by decide +kernel
theorem d_Test_saysYes_68 : decode b_Test_saysYes 68 = .ok (.invokestatic 37, 3) := by decide +kernel
theorem d_Test_saysYes_71 : decode b_Test_saysYes 71 = .ok (.ireturn, 1) := by decide +kernel
theorem d_Test_saysYes_72 : decode b_Test_saysYes 72 = .ok (.aload_n 0, 1) := by decide +kernel
theorem d_Test_saysYes_73 : decode b_Test_saysYes 73 = .ok (.getfield 16, 3) := by decide +kernel
theorem d_Test_saysYes_76 : decode b_Test_saysYes 76 = .ok (.lload_n 1, 1) := by decide +kernel
theorem d_Test_saysYes_77 : decode b_Test_saysYes 77 = .ok (.iconst 0, 1) := by decide +kernel
theorem d_Test_saysYes_78 : decode b_Test_saysYes 78 = .ok (.aload_n 3, 1) := by decide +kernel
theorem d_Test_saysYes_79 : decode b_Test_saysYes 79 = .ok (.invokestatic 43, 3) := by decide +kernel
theorem d_Test_saysYes_82 : decode b_Test_saysYes 82 = .ok (.ireturn, 1) := by decide +kernel
theorem d_Test_saysYes_83 : decode b_Test_saysYes 83 = .ok (.lload_n 1, 1) := by decide +kernel
theorem d_Test_saysYes_84 : decode b_Test_saysYes 84 = .ok (.aload_n 0, 1) := by decide +kernel
theorem d_Test_saysYes_85 : decode b_Test_saysYes 85 = .ok (.getfield 16, 3) := by decide +kernel
theorem d_Test_saysYes_88 : decode b_Test_saysYes 88 = .ok (.lcmp, 1) := by decide +kernel
theorem d_Test_saysYes_89 : decode b_Test_saysYes 89 = .ok (.ifCond .ge 7, 3) := by decide +kernel
theorem d_Test_saysYes_92 : decode b_Test_saysYes 92 = .ok (.iconst 1, 1) := by decide +kernel
theorem d_Test_saysYes_93 : decode b_Test_saysYes 93 = .ok (.goto 4, 3) := by decide +kernel
theorem d_Test_saysYes_96 : decode b_Test_saysYes 96 = .ok (.iconst 0, 1) := by decide +kernel
theorem d_Test_saysYes_97 : decode b_Test_saysYes 97 = .ok (.ireturn, 1) := by decide +kernel
theorem d_Test_saysYes_98 : decode b_Test_saysYes 98 = .ok (.lload_n 1, 1) := by decide +kernel
theorem d_Test_saysYes_99 : decode b_Test_saysYes 99 = .ok (.aload_n 0, 1) := by decide +kernel
theorem d_Test_saysYes_100 : decode b_Test_saysYes 100 = .ok (.getfield 16, 3) := by decide +kernel
theorem d_Test_saysYes_103 : decode b_Test_saysYes 103 = .ok (.lcmp, 1) := by decide +kernel
theorem d_Test_saysYes_104 : decode b_Test_saysYes 104 = .ok (.ifCond .gt 7, 3) := by decide +kernel
theorem d_Test_saysYes_107 : decode b_Test_saysYes 107 = .ok (.iconst 1, 1) := by decide +kernel
theorem d_Test_saysYes_108 : decode b_Test_saysYes 108 = .ok (.goto 4, 3) := by decide +kernel
theorem d_Test_saysYes_111 : decode b_Test_saysYes 111 = .ok (.iconst 0, 1) := by decide +kernel
theorem d_Test_saysYes_112 : decode b_Test_saysYes 112 = .ok (.ireturn, 1) := by decide +kernel
theorem d_Test_saysYes_113 : decode b_Test_saysYes 113 = .ok (.aload_n 0, 1) := by decide +kernel
theorem d_Test_saysYes_114 : decode b_Test_saysYes 114 = .ok (.lload_n 1, 1) := by decide +kernel
theorem d_Test_saysYes_115 : decode b_Test_saysYes 115 = .ok (.invokevirtual 49, 3) := by decide +kernel
theorem d_Test_saysYes_118 : decode b_Test_saysYes 118 = .ok (.ireturn, 1) := by decide +kernel
theorem d_Test_saysYes_119 : decode b_Test_saysYes 119 = .ok (.lload_n 1, 1) := by decide +kernel
theorem d_Test_saysYes_120 : decode b_Test_saysYes 120 = .ok (.lconst 0, 1) := by decide +kernel
theorem d_Test_saysYes_121 : decode b_Test_saysYes 121 = .ok (.lcmp, 1) := by decide +kernel
theorem d_Test_saysYes_122 : decode b_Test_saysYes 122 = .ok (.ifCond .ne 7, 3) := by decide +kernel
theorem d_Test_saysYes_125 : decode b_Test_saysYes 125 = .ok (.iconst 1, 1) := by decide +kernel
theorem d_Test_saysYes_126 : decode b_Test_saysYes 126 = .ok (.goto 4, 3) := by decide +kernel
theorem d_Test_saysYes_129 : decode b_Test_saysYes 129 = .ok (.iconst 0, 1) := by decide +kernel
theorem d_Test_saysYes_130 : decode b_Test_saysYes 130 = .ok (.aload_n 0, 1) := by decide +kernel
theorem d_Test_saysYes_131 : decode b_Test_saysYes 131 = .ok (.getfield 16, 3) := by decide +kernel
theorem d_Test_saysYes_134 : decode b_Test_saysYes 134 = .ok (.lconst 0, 1) := by decide +kernel
theorem d_Test_saysYes_135 : decode b_Test_saysYes 135 = .ok (.lcmp, 1) := by decide +kernel
theorem d_Test_saysYes_136 : decode b_Test_saysYes 136 = .ok (.ifCond .ne 7, 3) := by decide +kernel
theorem d_Test_saysYes_139 : decode b_Test_saysYes 139 = .ok (.iconst 1, 1) := by decide +kernel
theorem d_Test_saysYes_140 : decode b_Test_saysYes 140 = .ok (.goto 4, 3) := by decide +kernel
theorem d_Test_saysYes_143 : decode b_Test_saysYes 143 = .ok (.iconst 0, 1) := by decide +kernel
theorem d_Test_saysYes_144 : decode b_Test_saysYes 144 = .ok (.if_icmp .ne 7, 3) := by decide +kernel
theorem d_Test_saysYes_147 : decode b_Test_saysYes 147 = .ok (.iconst 1, 1) := by decide +kernel
theorem d_Test_saysYes_148 : decode b_Test_saysYes 148 = .ok (.goto 4, 3) := by decide +kernel
theorem d_Test_saysYes_151 : decode b_Test_saysYes 151 = .ok (.iconst 0, 1) := by decide +kernel
theorem d_Test_saysYes_152 : decode b_Test_saysYes 152 = .ok (.ireturn, 1) := by decide +kernel
theorem d_Test_saysYes_153 : decode b_Test_saysYes 153 = .ok (.iconst 0, 1) := by decide +kernel
theorem d_Test_saysYes_154 : decode b_Test_saysYes 154 = .ok (.ireturn, 1) := by decide +kernel
theorem d_Text_charAt_0 : decode b_Text_charAt 0 = .ok (.iload_n 2, 1) := by decide +kernel
theorem d_Text_charAt_1 : decode b_Text_charAt 1 = .ok (.ifCond .lt 9, 3) := by decide +kernel
theorem d_Text_charAt_4 : decode b_Text_charAt 4 = .ok (.iload_n 2, 1) := by decide +kernel
theorem d_Text_charAt_5 : decode b_Text_charAt 5 = .ok (.bipush 8, 2) := by decide +kernel
theorem d_Text_charAt_7 : decode b_Text_charAt 7 = .ok (.if_icmp .lt 7, 3) := by decide +kernel
theorem d_Text_charAt_10 : decode b_Text_charAt 10 = .ok (.iconst 0, 1) := by decide +kernel
theorem d_Text_charAt_11 : decode b_Text_charAt 11 = .ok (.goto 14, 3) := by decide +kernel
theorem d_Text_charAt_14 : decode b_Text_charAt 14 = .ok (.lload_n 0, 1) := by decide +kernel
theorem d_Text_charAt_15 : decode b_Text_charAt 15 = .ok (.bipush 8, 2) := by decide +kernel
theorem d_Text_charAt_17 : decode b_Text_charAt 17 = .ok (.iload_n 2, 1) := by decide +kernel
theorem d_Text_charAt_18 : decode b_Text_charAt 18 = .ok (.imul, 1) := by decide +kernel
theorem d_Text_charAt_19 : decode b_Text_charAt 19 = .ok (.lushr, 1) := by decide +kernel
theorem d_Text_charAt_20 : decode b_Text_charAt 20 = .ok (.l2i, 1) := by decide +kernel
theorem d_Text_charAt_21 : decode b_Text_charAt 21 = .ok (.sipush 255, 3) := by decide +kernel
theorem d_Text_charAt_24 : decode b_Text_charAt 24 = .ok (.iand, 1) := by decide +kernel
theorem d_Text_charAt_25 : decode b_Text_charAt 25 = .ok (.ireturn, 1) := by decide +kernel
theorem d_Text_isAlike_0 : decode b_Text_isAlike 0 = .ok (.iload_n 2, 1) := by decide +kernel
theorem d_Text_isAlike_1 : decode b_Text_isAlike 1 = .ok (.ifCond .ne 14, 3) := by decide +kernel
theorem d_Text_isAlike_4 : decode b_Text_isAlike 4 = .ok (.iload_n 0, 1) := by decide +kernel
theorem d_Text_isAlike_5 : decode b_Text_isAlike 5 = .ok (.iload_n 1, 1) := by decide +kernel
theorem d_Text_isAlike_6 : decode b_Text_isAlike 6 = .ok (.if_icmp .ne 7, 3) := by decide +kernel
theorem d_Text_isAlike_9 : decode b_Text_isAlike 9 = .ok (.iconst 1, 1) := by decide +kernel
theorem d_Text_isAlike_10 : decode b_Text_isAlike 10 = .ok (.goto 4, 3) := by decide +kernel
theorem d_Text_isAlike_13 : decode b_Text_isAlike 13 = .ok (.iconst 0, 1) := by decide +kernel
theorem d_Text_isAlike_14 : decode b_Text_isAlike 14 = .ok (.ireturn, 1) := by decide +kernel
theorem d_Text_isAlike_15 : decode b_Text_isAlike 15 = .ok (.iload_n 0, 1) := by decide +kernel
theorem d_Text_isAlike_16 : decode b_Text_isAlike 16 = .ok (.bipush 65, 2) := by decide +kernel
theorem d_Text_isAlike_18 : decode b_Text_isAlike 18 = .ok (.if_icmp .lt 16, 3) := by decide +kernel
theorem d_Text_isAlike_21 : decode b_Text_isAlike 21 = .ok (.iload_n 0, 1) := by decide +kernel
theorem d_Text_isAlike_22 : decode b_Text_isAlike 22 = .ok (.bipush 90, 2) := by decide +kernel
theorem d_Text_isAlike_24 : decode b_Text_isAlike 24 = .ok (.if_icmp .gt 10, 3) := by decide +kernel
theorem d_Text_isAlike_27 : decode b_Text_isAlike 27 = .ok (.iload_n 0, 1) := by decide +kernel
theorem d_Text_isAlike_28 : decode b_Text_isAlike 28 = .ok (.bipush 32, 2) := by decide +kernel
theorem d_Text_isAlike_30 : decode b_Text_isAlike 30 = .ok (.iadd, 1) := by decide +kernel
theorem d_Text_isAlike_31 : decode b_Text_isAlike 31 = .ok (.goto 4, 3) := by decide +kernel
theorem d_Text_isAlike_34 : decode b_Text_isAlike 34 = .ok (.iload_n 0, 1) := by decide +kernel
theorem d_Text_isAlike_35 : decode b_Text_isAlike 35 = .ok (.istore_n 3, 1) := by decide +kernel
theorem d_Text_isAlike_36 : decode b_Text_isAlike 36 = .ok (.iload_n 1, 1) := by decide +kernel
theorem d_Text_isAlike_37 : decode b_Text_isAlike 37 = .ok (.bipush 65, 2) := by decide +kernel
theorem d_Text_isAlike_39 : decode b_Text_isAlike 39 = .ok (.if_icmp .lt 16, 3) := by decide +kernel
theorem d_Text_isAlike_42 : decode b_Text_isAlike 42 = .ok (.iload_n 1, 1) := by decide +kernel
theorem d_Text_isAlike_43 : decode b_Text_isAlike 43 = .ok (.bipush 90, 2) := by decide +kernel
theorem d_Text_isAlike_45 : decode b_Text_isAlike 45 = .ok (.if_icmp .gt 10, 3) := by decide +kernel
theorem d_Text_isAlike_48 : decode b_Text_isAlike 48 = .ok (.iload_n 1, 1) := by decide +kernel
theorem d_Text_isAlike_49 : decode b_Text_isAlike 49 = .ok (.bipush 32, 2) := by decide +kernel
theorem d_Text_isAlike_51 : decode b_Text_isAlike 51 = .ok (.iadd, 1) := by decide +kernel
theorem d_Text_isAlike_52 : decode b_Text_isAlike 52 = .ok (.goto 4, 3) := by decide +kernel
theorem d_Text_isAlike_55 : decode b_Text_isAlike 55 = .ok (.iload_n 1, 1) := by decide +kernel
theorem d_Text_isAlike_56 : decode b_Text_isAlike 56 = .ok (.istore 4, 2) := by decide +kernel
theorem d_Text_isAlike_58 : decode b_Text_isAlike 58 = .ok (.iload_n 3, 1) := by decide +kernel
theorem d_Text_isAlike_59 : decode b_Text_isAlike 59 = .ok (.iload 4, 2) := by decide +kernel
theorem d_Text_isAlike_61 : decode b_Text_isAlike 61 = .ok (.if_icmp .ne 7, 3) := by decide +kernel
theorem d_Text_isAlike_64 : decode b_Text_isAlike 64 = .ok (.iconst 1, 1) := by decide +kernel
theorem d_Text_isAlike_65 : decode b_Text_isAlike 65 = .ok (.goto 4, 3) := by decide +kernel
theorem d_Text_isAlike_68 : decode b_Text_isAlike 68 = .ok (.iconst 0, 1) := by decide +kernel
theorem d_Text_isAlike_69 : decode b_Text_isAlike 69 = .ok (.ireturn, 1) := by decide +kernel
theorem d_Text_isSame_0 : decode b_Text_isSame 0 = .ok (.lload_n 0, 1) := by decide +kernel
theorem d_Text_isSame_1 : decode b_Text_isSame 1 = .ok (.invokestatic 11, 3) := by decide +kernel
theorem d_Text_isSame_4 : decode b_Text_isSame 4 = .ok (.istore 4, 2) := by decide +kernel
theorem d_Text_isSame_6 : decode b_Text_isSame 6 = .ok (.iload 4, 2) := by decide +kernel
theorem d_Text_isSame_8 : decode b_Text_isSame 8 = .ok (.lload_n 2, 1) := by decide +kernel
theorem d_Text_isSame_9 : decode b_Text_isSame 9 = .ok (.invokestatic 11, 3) := by decide +kernel
theorem d_Text_isSame_12 : decode b_Text_isSame 12 = .ok (.if_icmp .eq 5, 3) := by decide +kernel
theorem d_Text_isSame_15 : decode b_Text_isSame 15 = .ok (.iconst 0, 1) := by decide +kernel
theorem d_Text_isSame_16 : decode b_Text_isSame 16 = .ok (.ireturn, 1) := by decide +kernel
theorem d_Text_isSame_17 : decode b_Text_isSame 17 = .ok (.iconst 0, 1) := by decide +kernel
theorem d_Text_isSame_18 : decode b_Text_isSame 18 = .ok (.istore 5, 2) := by decide +kernel
theorem d_Text_isSame_20 : decode b_Text_isSame 20 = .ok (.iload 5, 2) := by decide +kernel
theorem d_Text_isSame_22 : decode b_Text_isSame 22 = .ok (.iload 4, 2) := by decide +kernel
theorem d_Text_isSame_24 : decode b_Text_isSame 24 = .ok (.if_icmp .ge 26, 3) := by decide +kernel
theorem d_Text_isSame_27 : decode b_Text_isSame 27 = .ok (.lload_n 0, 1) := by decide +kernel
theorem d_Text_isSame_28 : decode b_Text_isSame 28 = .ok (.iload 5, 2) := by decide +kernel
theorem d_Text_isSame_30 : decode b_Text_isSame 30 = .ok (.invokestatic 15, 3) := by decide +kernel
theorem d_Text_isSame_33 : decode b_Text_isSame 33 = .ok (.lload_n 2, 1) := by decide +kernel
theorem d_Text_isSame_34 : decode b_Text_isSame 34 = .ok (.iload 5, 2) := by decide +kernel
theorem d_Text_isSame_36 : decode b_Text_isSame 36 = .ok (.invokestatic 15, 3) := by decide +kernel
theorem d_Text_isSame_39 : decode b_Text_isSame 39 = .ok (.if_icmp .eq 5, 3) := by decide +kernel
theorem d_Text_isSame_42 : decode b_Text_isSame 42 = .ok (.iconst 0, 1) := by decide +kernel
theorem d_Text_isSame_43 : decode b_Text_isSame 43 = .ok (.ireturn, 1) := by decide +kernel
theorem d_Text_isSame_44 : decode b_Text_isSame 44 = .ok (.iinc 5 1, 3) := by decide +kernel
theorem d_Text_isSame_47 : decode b_Text_isSame 47 = .ok (.goto (-27), 3) := by decide +kernel
theorem d_Text_isSame_50 : decode b_Text_isSame 50 = .ok (.iconst 1, 1) := by decide +kernel
theorem d_Text_isSame_51 : decode b_Text_isSame 51 = .ok (.ireturn, 1) := by decide +kernel
theorem d_Text_length_0 : decode b_Text_length 0 = .ok (.iconst 0, 1) := by decide +kernel
theorem d_Text_length_1 : decode b_Text_length 1 = .ok (.istore_n 2, 1) := by decide +kernel
theorem d_Text_length_2 : decode b_Text_length 2 = .ok (.iload_n 2, 1) := by decide +kernel
theorem d_Text_length_3 : decode b_Text_length 3 = .ok (.bipush 8, 2) := by decide +kernel
theorem d_Text_length_5 : decode b_Text_length 5 = .ok (.if_icmp .ge 26, 3) := by decide +kernel
theorem d_Text_length_8 : decode b_Text_length 8 = .ok (.lload_n 0, 1) := by decide +kernel
theorem d_Text_length_9 : decode b_Text_length 9 = .ok (.bipush 8, 2) := by decide +kernel
theorem d_Text_length_11 : decode b_Text_length 11 = .ok (.iload_n 2, 1) := by decide +kernel
theorem d_Text_length_12 : decode b_Text_length 12 = .ok (.imul, 1) := by decide +kernel
theorem d_Text_length_13 : decode b_Text_length 13 = .ok (.lushr, 1) := by decide +kernel
theorem d_Text_length_14 : decode b_Text_length 14 = .ok (.ldc2_w 9, 3) := by decide +kernel
theorem d_Text_length_17 : decode b_Text_length 17 = .ok (.land, 1) := by decide +kernel
theorem d_Text_length_18 : decode b_Text_length 18 = .ok (.lconst 0, 1) := by decide +kernel
theorem d_Text_length_19 : decode b_Text_length 19 = .ok (.lcmp, 1) := by decide +kernel
theorem d_Text_length_20 : decode b_Text_length 20 = .ok (.ifCond .ne 5, 3) := by decide +kernel
theorem d_Text_length_23 : decode b_Text_length 23 = .ok (.iload_n 2, 1) := by decide +kernel
theorem d_Text_length_24 : decode b_Text_length 24 = .ok (.ireturn, 1) := by decide +kernel
theorem d_Text_length_25 : decode b_Text_length 25 = .ok (.iinc 2 1, 3) := by decide +kernel
theorem d_Text_length_28 : decode b_Text_length 28 = .ok (.goto (-26), 3) := by decide +kernel
theorem d_Text_length_31 : decode b_Text_length 31 = .ok (.bipush 8, 2) := by decide +kernel
theorem d_Text_length_33 : decode b_Text_length 33 = .ok (.ireturn, 1) := by decide +kernel
theorem d_Values_append_0 : decode b_Values_append 0 = .ok (.iload_n 1, 1) := by decide +kernel
theorem d_Values_append_1 : decode b_Values_append 1 = .ok (.invokestatic 21, 3) := by decide +kernel
theorem d_Values_append_4 : decode b_Values_append 4 = .ok (.ifCond .eq 39, 3) := by decide +kernel
theorem d_Values_append_7 : decode b_Values_append 7 = .ok (.aload_n 0, 1) := by decide +kernel
theorem d_Values_append_8 : decode b_Values_append 8 = .ok (.getfield 13, 3) := by decide +kernel
theorem d_Values_append_11 : decode b_Values_append 11 = .ok (.iload_n 1, 1) := by decide +kernel
theorem d_Values_append_12 : decode b_Values_append 12 = .ok (.iaload, 1) := by decide +kernel
theorem d_Values_append_13 : decode b_Values_append 13 = .ok (.iconst 4, 1) := by decide +kernel
theorem d_Values_append_14 : decode b_Values_append 14 = .ok (.if_icmp .ge 29, 3) := by decide +kernel
theorem d_Values_append_17 : decode b_Values_append 17 = .ok (.aload_n 0, 1) := by decide +kernel
theorem d_Values_append_18 : decode b_Values_append 18 = .ok (.getfield 9, 3) := by decide +kernel
theorem d_Values_append_21 : decode b_Values_append 21 = .ok (.iload_n 1, 1) := by decide +kernel
theorem d_Values_append_22 : decode b_Values_append 22 = .ok (.iconst 4, 1) := by decide +kernel
theorem d_Values_append_23 : decode b_Values_append 23 = .ok (.imul, 1) := by decide +kernel
theorem d_Values_append_24 : decode b_Values_append 24 = .ok (.aload_n 0, 1) := by decide +kernel
theorem d_Values_append_25 : decode b_Values_append 25 = .ok (.getfield 13, 3) := by decide +kernel
theorem d_Values_append_28 : decode b_Values_append 28 = .ok (.iload_n 1, 1) := by decide +kernel
theorem d_Values_append_29 : decode b_Values_append 29 = .ok (.iaload, 1) := by decide +kernel
theorem d_Values_append_30 : decode b_Values_append 30 = .ok (.iadd, 1) := by decide +kernel
theorem d_Values_append_31 : decode b_Values_append 31 = .ok (.lload_n 2, 1) := by decide +kernel
theorem d_Values_append_32 : decode b_Values_append 32 = .ok (.lastore, 1) := by decide +kernel
theorem d_Values_append_33 : decode b_Values_append 33 = .ok (.aload_n 0, 1) := by decide +kernel
theorem d_Values_append_34 : decode b_Values_append 34 = .ok (.getfield 13, 3) := by decide +kernel
theorem d_Values_append_37 : decode b_Values_append 37 = .ok (.iload_n 1, 1) := by decide +kernel
theorem d_Values_append_38 : decode b_Values_append 38 = .ok (.dup2, 1) := by decide +kernel
theorem d_Values_append_39 : decode b_Values_append 39 = .ok (.iaload, 1) := by decide +kernel
theorem d_Values_append_40 : decode b_Values_append 40 = .ok (.iconst 1, 1) := by decide +kernel
theorem d_Values_append_41 : decode b_Values_append 41 = .ok (.iadd, 1) := by decide +kernel
theorem d_Values_append_42 : decode b_Values_append 42 = .ok (.iastore, 1) := by decide +kernel
theorem d_Values_append_43 : decode b_Values_append 43 = .ok (.aload_n 0, 1) := by decide +kernel
theorem d_Values_append_44 : decode b_Values_append 44 = .ok (.iload_n 1, 1) := by decide +kernel
theorem d_Values_append_45 : decode b_Values_append 45 = .ok (.invokevirtual 17, 3) := by decide +kernel
theorem d_Values_append_48 : decode b_Values_append 48 = .ok (.ireturn, 1) := by decide +kernel
theorem d_Values_count_0 : decode b_Values_count 0 = .ok (.iload_n 1, 1) := by decide +kernel
theorem d_Values_count_1 : decode b_Values_count 1 = .ok (.ifCond .lt 18, 3) := by decide +kernel
theorem d_Values_count_4 : decode b_Values_count 4 = .ok (.iload_n 1, 1) := by decide +kernel
theorem d_Values_count_5 : decode b_Values_count 5 = .ok (.bipush 8, 2) := by decide +kernel
theorem d_Values_count_7 : decode b_Values_count 7 = .ok (.if_icmp .ge 12, 3) := by decide +kernel
theorem d_Values_count_10 : decode b_Values_count 10 = .ok (.aload_n 0, 1) := by decide +kernel
theorem d_Values_count_11 : decode b_Values_count 11 = .ok (.getfield 13, 3) := by decide +kernel
theorem d_Values_count_14 : decode b_Values_count 14 = .ok (.iload_n 1, 1) := by decide +kernel
theorem d_Values_count_15 : decode b_Values_count 15 = .ok (.iaload, 1) := by decide +kernel
theorem d_Values_count_16 : decode b_Values_count 16 = .ok (.goto 4, 3) := by decide +kernel
theorem d_Values_count_19 : decode b_Values_count 19 = .ok (.iconst 0, 1) := by decide +kernel
theorem d_Values_count_20 : decode b_Values_count 20 = .ok (.ireturn, 1) := by decide +kernel
theorem d_Values_empty_0 : decode b_Values_empty 0 = .ok (.aload_n 0, 1) := by decide +kernel
theorem d_Values_empty_1 : decode b_Values_empty 1 = .ok (.iload_n 1, 1) := by decide +kernel
theorem d_Values_empty_2 : decode b_Values_empty 2 = .ok (.invokevirtual 17, 3) := by decide +kernel
theorem d_Values_empty_5 : decode b_Values_empty 5 = .ok (.istore_n 2, 1) := by decide +kernel
theorem d_Values_empty_6 : decode b_Values_empty 6 = .ok (.iload_n 1, 1) := by decide +kernel
theorem d_Values_empty_7 : decode b_Values_empty 7 = .ok (.invokestatic 21, 3) := by decide +kernel
theorem d_Values_empty_10 : decode b_Values_empty 10 = .ok (.ifCond .eq 10, 3) := by decide +kernel
theorem d_Values_empty_13 : decode b_Values_empty 13 = .ok (.aload_n 0, 1) := by decide +kernel
theorem d_Values_empty_14 : decode b_Values_empty 14 = .ok (.getfield 13, 3) := by decide +kernel
theorem d_Values_empty_17 : decode b_Values_empty 17 = .ok (.iload_n 1, 1) := by decide +kernel
theorem d_Values_empty_18 : decode b_Values_empty 18 = .ok (.iconst 0, 1) := by decide +kernel
theorem d_Values_empty_19 : decode b_Values_empty 19 = .ok (.iastore, 1) := by decide +kernel
theorem d_Values_empty_20 : decode b_Values_empty 20 = .ok (.iload_n 2, 1) := by decide +kernel
theorem d_Values_empty_21 : decode b_Values_empty 21 = .ok (.ireturn, 1) := by decide +kernel
theorem d_Values_get_0 : decode b_Values_get 0 = .ok (.iload_n 1, 1) := by decide +kernel
theorem d_Values_get_1 : decode b_Values_get 1 = .ok (.ifCond .lt 23, 3) := by decide +kernel
theorem d_Values_get_4 : decode b_Values_get 4 = .ok (.iload_n 1, 1) := by decide +kernel
theorem d_Values_get_5 : decode b_Values_get 5 = .ok (.bipush 8, 2) := by decide +kernel
theorem d_Values_get_7 : decode b_Values_get 7 = .ok (.if_icmp .ge 17, 3) := by decide +kernel
theorem d_Values_get_10 : decode b_Values_get 10 = .ok (.iload_n 2, 1) := by decide +kernel
theorem d_Values_get_11 : decode b_Values_get 11 = .ok (.ifCond .lt 13, 3) := by decide +kernel
theorem d_Values_get_14 : decode b_Values_get 14 = .ok (.iload_n 2, 1) := by decide +kernel
theorem d_Values_get_15 : decode b_Values_get 15 = .ok (.aload_n 0, 1) := by decide +kernel
theorem d_Values_get_16 : decode b_Values_get 16 = .ok (.getfield 13, 3) := by decide +kernel
theorem d_Values_get_19 : decode b_Values_get 19 = .ok (.iload_n 1, 1) := by decide +kernel
theorem d_Values_get_20 : decode b_Values_get 20 = .ok (.iaload, 1) := by decide +kernel
theorem d_Values_get_21 : decode b_Values_get 21 = .ok (.if_icmp .lt 5, 3) := by decide +kernel
theorem d_Values_get_24 : decode b_Values_get 24 = .ok (.lconst 0, 1) := by decide +kernel
theorem d_Values_get_25 : decode b_Values_get 25 = .ok (.lreturn, 1) := by decide +kernel
theorem d_Values_get_26 : decode b_Values_get 26 = .ok (.aload_n 0, 1) := by decide +kernel
theorem d_Values_get_27 : decode b_Values_get 27 = .ok (.getfield 9, 3) := by decide +kernel
theorem d_Values_get_30 : decode b_Values_get 30 = .ok (.iload_n 1, 1) := by decide +kernel
theorem d_Values_get_31 : decode b_Values_get 31 = .ok (.iconst 4, 1) := by decide +kernel
theorem d_Values_get_32 : decode b_Values_get 32 = .ok (.imul, 1) := by decide +kernel
theorem d_Values_get_33 : decode b_Values_get 33 = .ok (.iload_n 2, 1) := by decide +kernel
theorem d_Values_get_34 : decode b_Values_get 34 = .ok (.iadd, 1) := by decide +kernel
theorem d_Values_get_35 : decode b_Values_get 35 = .ok (.laload, 1) := by decide +kernel
theorem d_Values_get_36 : decode b_Values_get 36 = .ok (.lreturn, 1) := by decide +kernel
theorem d_Values_init_0 : decode b_Values_init 0 = .ok (.aload_n 0, 1) := by decide +kernel
theorem d_Values_init_1 : decode b_Values_init 1 = .ok (.invokespecial 1, 3) := by decide +kernel
theorem d_Values_init_4 : decode b_Values_init 4 = .ok (.aload_n 0, 1) := by decide +kernel
theorem d_Values_init_5 : decode b_Values_init 5 = .ok (.bipush 32, 2) := by decide +kernel
theorem d_Values_init_7 : decode b_Values_init 7 = .ok (.newarray .long, 2) := by decide +kernel
theorem d_Values_init_9 : decode b_Values_init 9 = .ok (.putfield 9, 3) := by decide +kernel
theorem d_Values_init_12 : decode b_Values_init 12 = .ok (.aload_n 0, 1) := by decide +kernel
theorem d_Values_init_13 : decode b_Values_init 13 = .ok (.bipush 8, 2) := by decide +kernel
theorem d_Values_init_15 : decode b_Values_init 15 = .ok (.newarray .int, 2) := by decide +kernel
theorem d_Values_init_17 : decode b_Values_init 17 = .ok (.putfield 13, 3) := by decide +kernel
theorem d_Values_init_20 : decode b_Values_init 20 = .ok (.return_, 1) := by decide +kernel
theorem d_Values_isFull_0 : decode b_Values_isFull 0 = .ok (.aload_n 0, 1) := by decide +kernel
theorem d_Values_isFull_1 : decode b_Values_isFull 1 = .ok (.iload_n 1, 1) := by decide +kernel
theorem d_Values_isFull_2 : decode b_Values_isFull 2 = .ok (.invokevirtual 17, 3) := by decide +kernel
theorem d_Values_isFull_5 : decode b_Values_isFull 5 = .ok (.iconst 4, 1) := by decide +kernel
theorem d_Values_isFull_6 : decode b_Values_isFull 6 = .ok (.if_icmp .lt 7, 3) := by decide +kernel
theorem d_Values_isFull_9 : decode b_Values_isFull 9 = .ok (.iconst 1, 1) := by decide +kernel
theorem d_Values_isFull_10 : decode b_Values_isFull 10 = .ok (.goto 4, 3) := by decide +kernel
theorem d_Values_isFull_13 : decode b_Values_isFull 13 = .ok (.iconst 0, 1) := by decide +kernel
theorem d_Values_isFull_14 : decode b_Values_isFull 14 = .ok (.ireturn, 1) := by decide +kernel
theorem d_Values_isKey_0 : decode b_Values_isKey 0 = .ok (.iload_n 0, 1) := by decide +kernel
theorem d_Values_isKey_1 : decode b_Values_isKey 1 = .ok (.ifCond .lt 13, 3) := by decide +kernel
theorem d_Values_isKey_4 : decode b_Values_isKey 4 = .ok (.iload_n 0, 1) := by decide +kernel
theorem d_Values_isKey_5 : decode b_Values_isKey 5 = .ok (.bipush 8, 2) := by decide +kernel
theorem d_Values_isKey_7 : decode b_Values_isKey 7 = .ok (.if_icmp .ge 7, 3) := by decide +kernel
theorem d_Values_isKey_10 : decode b_Values_isKey 10 = .ok (.iconst 1, 1) := by decide +kernel
theorem d_Values_isKey_11 : decode b_Values_isKey 11 = .ok (.goto 4, 3) := by decide +kernel
theorem d_Values_isKey_14 : decode b_Values_isKey 14 = .ok (.iconst 0, 1) := by decide +kernel
theorem d_Values_isKey_15 : decode b_Values_isKey 15 = .ok (.ireturn, 1) := by decide +kernel
end
section
/-! small numbers; Text: characters, length, equality, letters -/
theorem x_inc (i : Nat) : nI i + Int32.ofInt 1 = nI (i + 1) := (nI_succ i).symm
theorem x_dec (i : Nat) : nI (i + 1) + Int32.ofInt (-1) = nI i := pk_m1 i
theorem n_ge {k i : Nat} (h : nI k ≤ nI i) (hk : k < 2 ^ 31) (hi : i < 2 ^ 31) : k ≤ i := (nI_leI hk hi).mp h
theorem n_lt {k i : Nat} (h : ¬ nI k ≤ nI i) (hk : k < 2 ^ 31) (hi : i < 2 ^ 31) : i < k := Nat.not_le.mp (fun q => h ((nI_leI hk hi).mpr q))
theorem n_gt {k i : Nat} (h : nI k < nI i) (hk : k < 2 ^ 31) (hi : i < 2 ^ 31) : k < i := (nI_ltI hk hi).mp h
theorem n_le {k i : Nat} (h : ¬ nI k < nI i) (hk : k < 2 ^ 31) (hi : i < 2 ^ 31) : i ≤ k := Nat.not_lt.mp (fun q => h ((nI_ltI hk hi).mpr q))
set_option maxHeartbeats 4000000 in
set_option maxRecDepth 100000 in
theorem c_Text_charAt (l : Launch) (D : va_G) (cA : Nat → ClassId) (x : Int64) (i : Nat) (hi : i < 8) : Met l y_Text_charAt [.code y_Text_charAt b_Text_charAt 3 (some .int)] (x_rm 0 0 0) (x_P D cA [.long x, .int (nI i)] (fun _ => True)) (x_Q (some (.int (tx_c x i))) (x_same)) 0 0 (fun _ => False) := by
  refine x_met (own := "DecisionLayers$Text") (by decide) rfl (Nat.le_of_ble_eq_true rfl) ?_
  intro pp ee s mm below mt cd ls hx hb hr hlk hnm hml hown hts hE hP hl
  have hl : lv_has ls 3 [(0, .long x), (2, .int (nI i))] := hl
  refine lv_iload_n hx hb d_Text_charAt_0 rfl (lv_at hl 1 rfl) ?_
  refine lv_if_lt (tgt := 10) hx hb d_Text_charAt_1 (by decide) (fun h1 => ?_) (fun h1 => ?_)
  · exact absurd h1 (nI_pos (by omega))
  · refine lv_iload_n hx hb d_Text_charAt_4 rfl (lv_at hl 1 rfl) ?_
    refine lv_bipush (v := 8) hx hb d_Text_charAt_5 (by decide) ?_
    refine lv_icmp_lt (tgt := 14) hx hb d_Text_charAt_7 (by decide) (fun h2 => ?_) (fun h2 => ?_)
    · refine lv_lload_n hx hb d_Text_charAt_14 rfl (lv_at hl 0 rfl) ?_
      refine lv_bipush (v := 8) hx hb d_Text_charAt_15 (by decide) ?_
      refine lv_iload_n hx hb d_Text_charAt_17 rfl (lv_at hl 1 rfl) ?_
      refine lv_imul hx hb d_Text_charAt_18 ?_
      refine lv_lushr hx hb d_Text_charAt_19 rfl ?_
      refine x_topl (y := tx_w x i) rfl ?_
      refine lv_l2i hx hb d_Text_charAt_20 rfl ?_
      refine lv_sipush (v := 255) hx hb d_Text_charAt_21 (by decide) ?_
      refine lv_iand hx hb d_Text_charAt_24 ?_
      refine x_topi (y := tx_c x i) rfl ?_
      exact W.iret hx hb hr (fun t ht hW => ⟨rfl, ht⟩) (fun q h => by cases h) d_Text_charAt_25
    · exact absurd ((nI_ltI (by omega) (by decide)).mpr hi) h2
set_option maxHeartbeats 4000000 in
set_option maxRecDepth 100000 in
theorem c_Text_length (l : Launch) (D : va_G) (cA : Nat → ClassId) (x : Int64) : Met l y_Text_length [.code y_Text_length b_Text_length 3 (some .int)] (x_rm 0 0 0) (x_P D cA [.long x] (fun _ => True)) (x_Q (some (.int (nI (tx_n x)))) (x_same)) 0 0 (fun _ => False) := by
  refine x_met (own := "DecisionLayers$Text") (by decide) rfl (Nat.le_of_ble_eq_true rfl) ?_
  intro pp ee s mm below mt cd ls hx hb hr hlk hnm hml hown hts hE hP hl
  have hl : lv_has ls 3 [(0, .long x)] := hl
  refine lv_iconst (v := 0) hx hb d_Text_length_0 (by decide) ?_
  refine lv_istore_n (lv' := [(2, .int 0), (0, .long x)]) hx hb d_Text_length_1 rfl hl (by decide) rfl (fun ls hl => ?_)
  refine x_loop (I := fun n ls => ∃ i, i + n = 8 ∧ (∀ j, j < i → tx_c x j ≠ 0) ∧ lv_has ls 3 [(2, .int (nI i)), (0, .long x)]) (fun n ls ih h => ?_) (8) ⟨0, rfl, fun j h => absurd h (Nat.not_lt_zero j), hl⟩
  obtain ⟨i, hi, hz, hl⟩ := h
  refine lv_iload_n hx hb d_Text_length_2 rfl (lv_at hl 0 rfl) ?_
  refine lv_bipush (v := 8) hx hb d_Text_length_3 (by decide) ?_
  refine lv_icmp_ge (tgt := 31) hx hb d_Text_length_5 (by decide) (fun h8 => ?_) (fun h8 => ?_)
  · have h8 := n_ge (k := 8) h8 (by decide) (by omega)
    refine lv_bipush (v := 8) hx hb d_Text_length_31 (by decide) ?_
    refine x_topi (y := nI (tx_n x)) (by rw [tx_is (k := 8) (by omega) (fun j hj => hz j (by omega)) (Or.inl rfl)]; rfl) ?_
    exact W.iret hx hb hr (fun t ht hW => ⟨rfl, ht⟩) (fun q h => by cases h) d_Text_length_33
  · have h8 := n_lt (k := 8) h8 (by decide) (by omega)
    refine lv_lload_n hx hb d_Text_length_8 rfl (lv_at hl 1 rfl) ?_
    refine lv_bipush (v := 8) hx hb d_Text_length_9 (by decide) ?_
    refine lv_iload_n hx hb d_Text_length_11 rfl (lv_at hl 0 rfl) ?_
    refine lv_imul hx hb d_Text_length_12 ?_
    refine lv_lushr hx hb d_Text_length_13 rfl ?_
    refine x_topl (y := tx_w x i) rfl ?_
    refine lv_ldc2 hx hb hown (hts _ w_2_27) d_Text_length_14 ?_
    refine lv_land hx hb d_Text_length_17 ?_
    refine lv_lconst (v := 0) hx hb d_Text_length_18 (by decide) ?_
    refine W.lcmp hx hb d_Text_length_19 ?_
    refine lv_if_ne (tgt := 25) hx hb d_Text_length_20 (by decide) (fun hc => ?_) (fun hc => ?_)
    · refine lv_iinc (k := 0) (v := nI (i + 1)) (lv' := [(2, .int (nI (i + 1))), (0, .long x)]) hx hb d_Text_length_25 hl rfl (x_inc _) (by decide) rfl (fun ls hl => ?_)
      refine lv_goto (tgt := 2) hx hb d_Text_length_28 (by decide) ?_
      exact ih (n - 1) _ (by omega) ⟨i + 1, by omega, fun j hj => by
        by_cases e : j = i
        · rw [e]; exact fun h0 => hc ((lg_cmp_eq _ _).mpr ((tx_z _).mpr h0))
        · exact hz j (by omega), hl⟩
    · refine lv_iload_n hx hb d_Text_length_23 rfl (lv_at hl 0 rfl) ?_
      refine x_topi (y := nI (tx_n x)) (by rw [tx_is (k := i) (by omega) hz (Or.inr ((tx_z _).mp ((lg_cmp_eq _ _).mp hc)))]) ?_
      exact W.iret hx hb hr (fun t ht hW => ⟨rfl, ht⟩) (fun q h => by cases h) d_Text_length_24
set_option maxHeartbeats 4000000 in
set_option maxRecDepth 100000 in
theorem c_Text_isAlike (l : Launch) (D : va_G) (cA : Nat → ClassId) (a b : Int32) (lo : Bool) : Met l y_Text_isAlike [.code y_Text_isAlike b_Text_isAlike 5 (some .boolean)] (x_rm 0 0 0) (x_P D cA [.int a, .int b, .int (bI lo)] (fun _ => True)) (x_Q (some (.int (bI (decide (tx_lo a lo = tx_lo b lo))))) (x_same)) 0 0 (fun _ => False) := by
  refine x_met (own := "DecisionLayers$Text") (by decide) rfl (Nat.le_of_ble_eq_true rfl) ?_
  intro pp ee s mm below mt cd ls hx hb hr hlk hnm hml hown hts hE hP hl
  have hl : lv_has ls 5 [(0, .int a), (1, .int b), (2, .int (bI lo))] := hl
  refine lv_iload_n hx hb d_Text_isAlike_0 rfl (lv_at hl 2 rfl) ?_
  refine lv_if_ne (tgt := 15) hx hb d_Text_isAlike_1 (by decide) (fun hlo => ?_) (fun hlo => ?_)
  · obtain rfl := bI_n0.mp hlo
    refine x_join 35 (fun ls st => lv_has ls 5 [(0, .int a), (1, .int b), (2, .int (bI true))] ∧ st = [.int (tx_lo a true)]) ?_ (fun hj => ?_)
    · intro ls st hj
      obtain ⟨hl, rfl⟩ := hj
      refine lv_istore_n (lv' := [(3, .int (tx_lo a true)), (0, .int a), (1, .int b), (2, .int (bI true))]) hx hb d_Text_isAlike_35 rfl hl (by decide) rfl (fun ls hl => ?_)
      refine x_join 56 (fun ls st => lv_has ls 5 [(3, .int (tx_lo a true)), (0, .int a), (1, .int b), (2, .int (bI true))] ∧ st = [.int (tx_lo b true)]) ?_ (fun hj => ?_)
      · intro ls st hj
        obtain ⟨hl, rfl⟩ := hj
        refine lv_istore (lv' := [(4, .int (tx_lo b true)), (3, .int (tx_lo a true)), (0, .int a), (1, .int b), (2, .int (bI true))]) hx hb d_Text_isAlike_56 hl (by decide) rfl (fun ls hl => ?_)
        refine lv_iload_n hx hb d_Text_isAlike_58 rfl (lv_at hl 1 rfl) ?_
        refine lv_iload hx hb d_Text_isAlike_59 (lv_at hl 0 rfl) ?_
        refine lv_icmp_ne (tgt := 68) hx hb d_Text_isAlike_61 (by decide) (fun hab => ?_) (fun hab => ?_)
        · refine lv_iconst (v := 0) hx hb d_Text_isAlike_68 (by decide) ?_
          refine x_topi (y := bI (decide (tx_lo a true = tx_lo b true))) (by rw [bI_no hab]) ?_
          exact W.zret (ty := .boolean) hx hb hr (bI_z _) (fun t ht hW => ⟨rfl, ht⟩) (fun q h => by cases h) d_Text_isAlike_69
        · refine lv_iconst (v := 1) hx hb d_Text_isAlike_64 (by decide) ?_
          refine lv_goto (tgt := 69) hx hb d_Text_isAlike_65 (by decide) ?_
          refine x_topi (y := bI (decide (tx_lo a true = tx_lo b true))) (by rw [bI_of hab]) ?_
          exact W.zret (ty := .boolean) hx hb hr (bI_z _) (fun t ht hW => ⟨rfl, ht⟩) (fun q h => by cases h) d_Text_isAlike_69
      · refine lv_iload_n hx hb d_Text_isAlike_36 rfl (lv_at hl 2 rfl) ?_
        refine lv_bipush (v := 65) hx hb d_Text_isAlike_37 (by decide) ?_
        refine lv_icmp_lt (tgt := 55) hx hb d_Text_isAlike_39 (by decide) (fun h1 => ?_) (fun h1 => ?_)
        · refine lv_iload_n hx hb d_Text_isAlike_55 rfl (lv_at hl 2 rfl) ?_
          exact hj _ _ ⟨hl, by rw [tx_lo_n1 (by rw [Int32.not_le]; exact h1)]⟩
        · refine lv_iload_n hx hb d_Text_isAlike_42 rfl (lv_at hl 2 rfl) ?_
          refine lv_bipush (v := 90) hx hb d_Text_isAlike_43 (by decide) ?_
          refine lv_icmp_gt (tgt := 55) hx hb d_Text_isAlike_45 (by decide) (fun h2 => ?_) (fun h2 => ?_)
          · refine lv_iload_n hx hb d_Text_isAlike_55 rfl (lv_at hl 2 rfl) ?_
            exact hj _ _ ⟨hl, by rw [tx_lo_n2 (by rw [Int32.not_le]; exact h2)]⟩
          · refine lv_iload_n hx hb d_Text_isAlike_48 rfl (lv_at hl 2 rfl) ?_
            refine lv_bipush (v := 32) hx hb d_Text_isAlike_49 (by decide) ?_
            refine lv_iadd hx hb d_Text_isAlike_51 ?_
            refine lv_goto (tgt := 56) hx hb d_Text_isAlike_52 (by decide) ?_
            exact hj _ _ ⟨hl, by rw [tx_lo_y (Int32.not_lt.mp h1) (Int32.not_lt.mp h2)]⟩
    · refine lv_iload_n hx hb d_Text_isAlike_15 rfl (lv_at hl 0 rfl) ?_
      refine lv_bipush (v := 65) hx hb d_Text_isAlike_16 (by decide) ?_
      refine lv_icmp_lt (tgt := 34) hx hb d_Text_isAlike_18 (by decide) (fun h1 => ?_) (fun h1 => ?_)
      · refine lv_iload_n hx hb d_Text_isAlike_34 rfl (lv_at hl 0 rfl) ?_
        exact hj _ _ ⟨hl, by rw [tx_lo_n1 (by rw [Int32.not_le]; exact h1)]⟩
      · refine lv_iload_n hx hb d_Text_isAlike_21 rfl (lv_at hl 0 rfl) ?_
        refine lv_bipush (v := 90) hx hb d_Text_isAlike_22 (by decide) ?_
        refine lv_icmp_gt (tgt := 34) hx hb d_Text_isAlike_24 (by decide) (fun h2 => ?_) (fun h2 => ?_)
        · refine lv_iload_n hx hb d_Text_isAlike_34 rfl (lv_at hl 0 rfl) ?_
          exact hj _ _ ⟨hl, by rw [tx_lo_n2 (by rw [Int32.not_le]; exact h2)]⟩
        · refine lv_iload_n hx hb d_Text_isAlike_27 rfl (lv_at hl 0 rfl) ?_
          refine lv_bipush (v := 32) hx hb d_Text_isAlike_28 (by decide) ?_
          refine lv_iadd hx hb d_Text_isAlike_30 ?_
          refine lv_goto (tgt := 35) hx hb d_Text_isAlike_31 (by decide) ?_
          exact hj _ _ ⟨hl, by rw [tx_lo_y (Int32.not_lt.mp h1) (Int32.not_lt.mp h2)]⟩
  · obtain rfl := bI_0.mp hlo
    rw [tx_lo_f, tx_lo_f]
    refine lv_iload_n hx hb d_Text_isAlike_4 rfl (lv_at hl 0 rfl) ?_
    refine lv_iload_n hx hb d_Text_isAlike_5 rfl (lv_at hl 1 rfl) ?_
    refine lv_icmp_ne (tgt := 13) hx hb d_Text_isAlike_6 (by decide) (fun hab => ?_) (fun hab => ?_)
    · refine lv_iconst (v := 0) hx hb d_Text_isAlike_13 (by decide) ?_
      refine x_topi (y := bI (decide (a = b))) (by rw [bI_no hab]) ?_
      exact W.zret (ty := .boolean) hx hb hr (bI_z _) (fun t ht hW => ⟨rfl, ht⟩) (fun q h => by cases h) d_Text_isAlike_14
    · refine lv_iconst (v := 1) hx hb d_Text_isAlike_9 (by decide) ?_
      refine lv_goto (tgt := 14) hx hb d_Text_isAlike_10 (by decide) ?_
      refine x_topi (y := bI (decide (a = b))) (by rw [bI_of hab]) ?_
      exact W.zret (ty := .boolean) hx hb hr (bI_z _) (fun t ht hW => ⟨rfl, ht⟩) (fun q h => by cases h) d_Text_isAlike_14
set_option maxHeartbeats 4000000 in
set_option maxRecDepth 100000 in
theorem c_Text_isSame (l : Launch) (D : va_G) (cA : Nat → ClassId) (a b : Int64) : Met l y_Text_isSame [.code y_Text_isSame b_Text_isSame 6 (some .boolean)] (x_rm 1 0 0) (x_P D cA [.long a, .long b] (fun _ => True)) (x_Q (some (.int (bI (tx_same a b)))) (x_same)) 0 0 (fun _ => False) := by
  refine x_met (own := "DecisionLayers$Text") (by decide) rfl (Nat.le_of_ble_eq_true rfl) ?_
  intro pp ee s mm below mt cd ls hx hb hr hlk hnm hml hown hts hE hP hl
  have hl : lv_has ls 6 [(0, .long a), (2, .long b)] := hl
  refine lv_lload_n hx hb d_Text_isSame_0 rfl (lv_at hl 0 rfl) ?_
  refine x_cp (k_Text_11 (As := [.long a]) (rest := []) hx hb hml hown hts (c_Text_length l D cA a) (x_preS hE trivial) rfl hl.1 rfl (Nat.le_of_ble_eq_true rfl) d_Text_isSame_1 (by decide) ⟨Nat.zero_le _, Nat.zero_le _⟩) ?_
  refine lv_istore (lv' := [(4, .int (nI (tx_n a))), (0, .long a), (2, .long b)]) hx hb d_Text_isSame_4 hl (by decide) rfl (fun ls hl => ?_)
  refine lv_iload hx hb d_Text_isSame_6 (lv_at hl 0 rfl) ?_
  refine lv_lload_n hx hb d_Text_isSame_8 rfl (lv_at hl 2 rfl) ?_
  refine x_cp (k_Text_11 (As := [.long b]) (rest := [.int (nI (tx_n a))]) hx hb hml hown hts (c_Text_length l D cA b) (x_preS hE trivial) rfl hl.1 rfl (Nat.le_of_ble_eq_true rfl) d_Text_isSame_9 (by decide) ⟨Nat.zero_le _, Nat.zero_le _⟩) ?_
  refine lv_icmp_eq (tgt := 17) hx hb d_Text_isSame_12 (by decide) (fun hn => ?_) (fun hn => ?_)
  · have hn : tx_n a = tx_n b := (nI_eq (by have := tx_le a; omega) (by have := tx_le b; omega)).mp hn
    have h8 := tx_le a
    refine lv_iconst (v := 0) hx hb d_Text_isSame_17 (by decide) ?_
    refine lv_istore (lv' := [(5, .int 0), (4, .int (nI (tx_n a))), (0, .long a), (2, .long b)]) hx hb d_Text_isSame_18 hl (by decide) rfl (fun ls hl => ?_)
    refine x_loop (I := fun n ls => ∃ i, i + n = tx_n a ∧ (∀ j, j < i → tx_c a j = tx_c b j) ∧ lv_has ls 6 [(5, .int (nI i)), (4, .int (nI (tx_n a))), (0, .long a), (2, .long b)]) (fun n ls ih h => ?_) (tx_n a) ⟨0, by omega, fun j h => absurd h (Nat.not_lt_zero j), hl⟩
    obtain ⟨i, hi, hz, hl⟩ := h
    refine lv_iload hx hb d_Text_isSame_20 (lv_at hl 0 rfl) ?_
    refine lv_iload hx hb d_Text_isSame_22 (lv_at hl 1 rfl) ?_
    refine lv_icmp_ge (tgt := 50) hx hb d_Text_isSame_24 (by decide) (fun hge => ?_) (fun hge => ?_)
    · have hge := n_ge hge (by omega) (by omega)
      refine lv_iconst (v := 1) hx hb d_Text_isSame_50 (by decide) ?_
      refine x_topi (y := bI (tx_same a b)) (by unfold tx_same; rw [bI_of ⟨hn, fun j hj => hz j (by omega)⟩]) ?_
      exact W.zret (ty := .boolean) hx hb hr (bI_z _) (fun t ht hW => ⟨rfl, ht⟩) (fun q h => by cases h) d_Text_isSame_51
    · have hge := n_lt hge (by omega) (by omega)
      refine lv_lload_n hx hb d_Text_isSame_27 rfl (lv_at hl 2 rfl) ?_
      refine lv_iload hx hb d_Text_isSame_28 (lv_at hl 0 rfl) ?_
      refine x_cp (k_Text_15 (As := [.long a, .int (nI i)]) (rest := []) hx hb hml hown hts (c_Text_charAt l D cA a i (by omega)) (x_preS hE trivial) rfl hl.1 rfl (Nat.le_of_ble_eq_true rfl) d_Text_isSame_30 (by decide) ⟨Nat.zero_le _, Nat.zero_le _⟩) ?_
      refine lv_lload_n hx hb d_Text_isSame_33 rfl (lv_at hl 3 rfl) ?_
      refine lv_iload hx hb d_Text_isSame_34 (lv_at hl 0 rfl) ?_
      refine x_cp (k_Text_15 (As := [.long b, .int (nI i)]) (rest := [.int (tx_c a i)]) hx hb hml hown hts (c_Text_charAt l D cA b i (by omega)) (x_preS hE trivial) rfl hl.1 rfl (Nat.le_of_ble_eq_true rfl) d_Text_isSame_36 (by decide) ⟨Nat.zero_le _, Nat.zero_le _⟩) ?_
      refine lv_icmp_eq (tgt := 44) hx hb d_Text_isSame_39 (by decide) (fun hc => ?_) (fun hc => ?_)
      · refine lv_iinc (k := 0) (v := nI (i + 1)) (lv' := [(5, .int (nI (i + 1))), (4, .int (nI (tx_n a))), (0, .long a), (2, .long b)]) hx hb d_Text_isSame_44 hl rfl (x_inc _) (by decide) rfl (fun ls hl => ?_)
        refine lv_goto (tgt := 20) hx hb d_Text_isSame_47 (by decide) ?_
        exact ih (n - 1) _ (by omega) ⟨i + 1, by omega, fun j hj => by
          by_cases e : j = i
          · rw [e]; exact hc
          · exact hz j (by omega), hl⟩
      · refine lv_iconst (v := 0) hx hb d_Text_isSame_42 (by decide) ?_
        refine x_topi (y := bI (tx_same a b)) (by unfold tx_same; rw [bI_no (fun h => hc (h.2 i hge))]) ?_
        exact W.zret (ty := .boolean) hx hb hr (bI_z _) (fun t ht hW => ⟨rfl, ht⟩) (fun q h => by cases h) d_Text_isSame_43
  · refine lv_iconst (v := 0) hx hb d_Text_isSame_15 (by decide) ?_
    refine x_topi (y := bI (tx_same a b)) (by unfold tx_same; rw [bI_no (fun h => hn (by rw [h.1]))]) ?_
    exact W.zret (ty := .boolean) hx hb hr (bI_z _) (fun t ht hW => ⟨rfl, ht⟩) (fun q h => by cases h) d_Text_isSame_16
end
section
/-! what a method may write, what stays; the values -/
def x_A (l : List Nat) : Addr → Prop := fun q => q ∈ l
def x_F (A : Addr → Prop) (H H1 : Heap) : Prop := H1.size = H.size ∧ ∀ q : Nat, ¬ A q → H1[q]? = H[q]?
theorem x_F.rf {A : Addr → Prop} {H : Heap} : x_F A H H := ⟨rfl, fun _ _ => rfl⟩
theorem x_F.of1 {A : Addr → Prop} {a : Nat} {H H1 : Heap} (h : x_1 a H H1) (ha : A a) : x_F A H H1 := ⟨h.1, fun q hq => h.2 q (fun e => hq (by rw [e]; exact ha))⟩
theorem x_F.trans {A : Addr → Prop} {H H1 H2 : Heap} (h : x_F A H H1) (h2 : x_F A H1 H2) : x_F A H H2 := ⟨h2.1.trans h.1, fun q hq => (h2.2 q hq).trans (h.2 q hq)⟩
theorem x_F.mono {A B : Addr → Prop} {H H1 : Heap} (h : x_F A H H1) (hAB : ∀ q, A q → B q) : x_F B H H1 := ⟨h.1, fun q hq => h.2 q (fun z => hq (hAB q z))⟩
theorem va_at.kF {D : va_G} {cl : List vw_C} {q : Nat × va_E} {A : Addr → Prop} {H H1 : Heap} (h : va_at D cl q H) (h1 : x_F A H H1) (hq : ¬ A q.1) : va_at D cl q H1 := h.kept (h1.2 _ hq)
def v_W (D : va_G) (cA : Nat → ClassId) (v : Nat) (cnt : Nat → Int32) (row : Nat → Int64) (H : Heap) : Prop :=
  va_at D x_cl (v, .inr (0, [.ref (v + 1), .ref (v + 2)])) H ∧ va_at D x_cl (v + 1, .inl (cA 1, 32, .inr (.inl row))) H ∧ va_at D x_cl (v + 2, .inl (cA 0, 8, .inl cnt)) H
theorem v_W.kept {D : va_G} {cA : Nat → ClassId} {v : Nat} {cnt : Nat → Int32} {row : Nat → Int64} {H H1 : Heap} (h : v_W D cA v cnt row H) (hq : ∀ q : Nat, v ≤ q → q ≤ v + 2 → H1[q]? = H[q]?) : v_W D cA v cnt row H1 :=
  ⟨h.1.kept (hq v (by omega) (by omega)), h.2.1.kept (hq (v + 1) (by omega) (by omega)), h.2.2.kept (hq (v + 2) (by omega) (by omega))⟩
theorem x_in8 {k : Int32} : (0 ≤ k ∧ k < 8) ↔ ¬ k < 0 ∧ ¬ 8 ≤ k := by rw [Int32.not_lt, Int32.not_le]
set_option maxHeartbeats 4000000 in
set_option maxRecDepth 100000 in
theorem c_Values_isKey (l : Launch) (D : va_G) (cA : Nat → ClassId) (k : Int32) : Met l y_Values_isKey [.code y_Values_isKey b_Values_isKey 1 (some .boolean)] (x_rm 0 0 0) (x_P D cA [.int k] (fun _ => True)) (x_Q (some (.int (bI (decide (0 ≤ k ∧ k < 8))))) (x_same)) 0 0 (fun _ => False) := by
  refine x_met (own := "DecisionLayers$Values") (by decide) rfl (Nat.le_of_ble_eq_true rfl) ?_
  intro pp ee s mm below mt cd ls hx hb hr hlk hnm hml hown hts hE hP hl
  have hl : lv_has ls 1 [(0, .int k)] := hl
  refine lv_iload_n hx hb d_Values_isKey_0 rfl (lv_at hl 0 rfl) ?_
  refine lv_if_lt (tgt := 14) hx hb d_Values_isKey_1 (by decide) (fun h1 => ?_) (fun h1 => ?_)
  · refine lv_iconst (v := 0) hx hb d_Values_isKey_14 (by decide) ?_
    refine x_topi (y := bI (decide (0 ≤ k ∧ k < 8))) (by rw [bI_no (fun h => (x_in8.mp h).1 h1)]) ?_
    exact W.zret (ty := .boolean) hx hb hr (bI_z _) (fun t ht hW => ⟨rfl, ht⟩) (fun q h => by cases h) d_Values_isKey_15
  · refine lv_iload_n hx hb d_Values_isKey_4 rfl (lv_at hl 0 rfl) ?_
    refine lv_bipush (v := 8) hx hb d_Values_isKey_5 (by decide) ?_
    refine lv_icmp_ge (tgt := 14) hx hb d_Values_isKey_7 (by decide) (fun h2 => ?_) (fun h2 => ?_)
    · refine lv_iconst (v := 0) hx hb d_Values_isKey_14 (by decide) ?_
      refine x_topi (y := bI (decide (0 ≤ k ∧ k < 8))) (by rw [bI_no (fun h => (x_in8.mp h).2 h2)]) ?_
      exact W.zret (ty := .boolean) hx hb hr (bI_z _) (fun t ht hW => ⟨rfl, ht⟩) (fun q h => by cases h) d_Values_isKey_15
    · refine lv_iconst (v := 1) hx hb d_Values_isKey_10 (by decide) ?_
      refine lv_goto (tgt := 15) hx hb d_Values_isKey_11 (by decide) ?_
      refine x_topi (y := bI (decide (0 ≤ k ∧ k < 8))) (by rw [bI_of (x_in8.mpr ⟨h1, h2⟩)]) ?_
      exact W.zret (ty := .boolean) hx hb hr (bI_z _) (fun t ht hW => ⟨rfl, ht⟩) (fun q h => by cases h) d_Values_isKey_15
set_option maxHeartbeats 4000000 in
set_option maxRecDepth 100000 in
theorem c_Values_count (l : Launch) (D : va_G) (cA : Nat → ClassId) (v : Nat) (cnt : Nat → Int32) (row : Nat → Int64) (k : Int32) : Met l y_Values_count [.code y_Values_count b_Values_count 2 (some .int)] (x_rm 0 0 0) (x_P D cA [.ref v, .int k] (fun H => v_W D cA v cnt row H)) (x_Q (some (.int (vl_c cnt k))) (x_same)) 0 0 (fun _ => False) := by
  refine x_met (own := "DecisionLayers$Values") (by decide) rfl (Nat.le_of_ble_eq_true rfl) ?_
  intro pp ee s mm below mt cd ls hx hb hr hlk hnm hml hown hts hE hP hl
  have hl : lv_has ls 2 [(0, .ref v), (1, .int k)] := hl
  obtain ⟨g0, g1, g2⟩ := hP
  refine lv_iload_n hx hb d_Values_count_0 rfl (lv_at hl 1 rfl) ?_
  refine lv_if_lt (tgt := 19) hx hb d_Values_count_1 (by decide) (fun h1 => ?_) (fun h1 => ?_)
  · refine lv_iconst (v := 0) hx hb d_Values_count_19 (by decide) ?_
    refine x_topi (y := vl_c cnt k) (by rw [vl_c_lo h1]) ?_
    exact W.iret hx hb hr (fun t ht hW => ⟨rfl, ht⟩) (fun q h => by cases h) d_Values_count_20
  · refine lv_iload_n hx hb d_Values_count_4 rfl (lv_at hl 1 rfl) ?_
    refine lv_bipush (v := 8) hx hb d_Values_count_5 (by decide) ?_
    refine lv_icmp_ge (tgt := 19) hx hb d_Values_count_7 (by decide) (fun h2 => ?_) (fun h2 => ?_)
    · refine lv_iconst (v := 0) hx hb d_Values_count_19 (by decide) ?_
      refine x_topi (y := vl_c cnt k) (by rw [vl_c_hi h2]) ?_
      exact W.iret hx hb hr (fun t ht hW => ⟨rfl, ht⟩) (fun q h => by cases h) d_Values_count_20
    · obtain ⟨j, hj, rfl⟩ := vl_key h1 h2
      refine lv_aload_n hx hb d_Values_count_10 rfl (lv_at hl 0 rfl) ?_
      refine fg_Values_13_Values hx hb hown hts hE g0 rfl d_Values_count_11 ?_
      refine lv_iload_n hx hb d_Values_count_14 rfl (lv_at hl 1 rfl) ?_
      refine x_iald hx hb hE.2.2 g2 0 rfl hj (by decide) d_Values_count_15 ?_
      refine lv_goto (tgt := 20) hx hb d_Values_count_16 (by decide) ?_
      refine x_topi (y := vl_c cnt (nI j)) (by rw [vl_c_in hj]) ?_
      exact W.iret hx hb hr (fun t ht hW => ⟨rfl, ht⟩) (fun q h => by cases h) d_Values_count_20
set_option maxHeartbeats 4000000 in
set_option maxRecDepth 100000 in
theorem c_Values_get (l : Launch) (D : va_G) (cA : Nat → ClassId) (v : Nat) (cnt : Nat → Int32) (row : Nat → Int64) (j i n : Nat) (hj : j < 8) (hn : cnt j = nI n) (hi : i < n) (h4 : n ≤ 4) : Met l y_Values_get [.code y_Values_get b_Values_get 3 (some .long)] (x_rm 0 0 0) (x_P D cA [.ref v, .int (nI j), .int (nI i)] (fun H => v_W D cA v cnt row H)) (x_Q (some (.long (row (4 * j + i)))) (x_same)) 0 0 (fun _ => False) := by
  refine x_met (own := "DecisionLayers$Values") (by decide) rfl (Nat.le_of_ble_eq_true rfl) ?_
  intro pp ee s mm below mt cd ls hx hb hr hlk hnm hml hown hts hE hP hl
  have hl : lv_has ls 3 [(0, .ref v), (1, .int (nI j)), (2, .int (nI i))] := hl
  obtain ⟨g0, g1, g2⟩ := hP
  refine lv_iload_n hx hb d_Values_get_0 rfl (lv_at hl 1 rfl) ?_
  refine lv_if_lt (tgt := 24) hx hb d_Values_get_1 (by decide) (fun h1 => ?_) (fun h1 => ?_)
  · exact absurd h1 (nI_pos (by omega))
  · refine lv_iload_n hx hb d_Values_get_4 rfl (lv_at hl 1 rfl) ?_
    refine lv_bipush (v := 8) hx hb d_Values_get_5 (by decide) ?_
    refine lv_icmp_ge (tgt := 24) hx hb d_Values_get_7 (by decide) (fun h2 => ?_) (fun h2 => ?_)
    · exact absurd (n_ge (k := 8) h2 (by decide) (by omega)) (by omega)
    · refine lv_iload_n hx hb d_Values_get_10 rfl (lv_at hl 2 rfl) ?_
      refine lv_if_lt (tgt := 24) hx hb d_Values_get_11 (by decide) (fun h3 => ?_) (fun h3 => ?_)
      · exact absurd h3 (nI_pos (by omega))
      · refine lv_iload_n hx hb d_Values_get_14 rfl (lv_at hl 2 rfl) ?_
        refine lv_aload_n hx hb d_Values_get_15 rfl (lv_at hl 0 rfl) ?_
        refine fg_Values_13_Values hx hb hown hts hE g0 rfl d_Values_get_16 ?_
        refine lv_iload_n hx hb d_Values_get_19 rfl (lv_at hl 1 rfl) ?_
        refine x_iald hx hb hE.2.2 g2 0 rfl hj (by decide) d_Values_get_20 ?_
        refine x_topi (y := nI n) hn ?_
        refine lv_icmp_lt (tgt := 26) hx hb d_Values_get_21 (by decide) (fun h4 => ?_) (fun h4 => ?_)
        · refine lv_aload_n hx hb d_Values_get_26 rfl (lv_at hl 0 rfl) ?_
          refine fg_Values_9_Values hx hb hown hts hE g0 rfl d_Values_get_27 ?_
          refine lv_iload_n hx hb d_Values_get_30 rfl (lv_at hl 1 rfl) ?_
          refine lv_iconst (v := 4) hx hb d_Values_get_31 (by decide) ?_
          refine lv_imul hx hb d_Values_get_32 ?_
          refine x_topi (y := nI (4 * j)) (by rw [show (4 : Int32) = nI 4 from rfl, pk_mul, Nat.mul_comm]) ?_
          refine lv_iload_n hx hb d_Values_get_33 rfl (lv_at hl 2 rfl) ?_
          refine lv_iadd hx hb d_Values_get_34 ?_
          refine x_topi (y := nI (4 * j + i)) (nI_add _ _) ?_
          refine x_lald hx hb hE.2.2 g1 1 rfl (by omega) (by decide) d_Values_get_35 ?_
          exact W.lret hx hb hr (fun t ht hW => ⟨rfl, ht⟩) (fun q h => by cases h) d_Values_get_36
        · exact absurd ((nI_ltI (by omega) (by omega)).mpr hi) h4
set_option maxHeartbeats 4000000 in
set_option maxRecDepth 100000 in
theorem c_Values_isFull (l : Launch) (D : va_G) (cA : Nat → ClassId) (v : Nat) (cnt : Nat → Int32) (row : Nat → Int64) (k : Int32) : Met l y_Values_isFull [.code y_Values_isFull b_Values_isFull 2 (some .boolean)] (x_rm 1 0 0) (x_P D cA [.ref v, .int k] (fun H => v_W D cA v cnt row H)) (x_Q (some (.int (bI (decide (4 ≤ vl_c cnt k))))) (x_same)) 0 0 (fun _ => False) := by
  refine x_met (own := "DecisionLayers$Values") (by decide) rfl (Nat.le_of_ble_eq_true rfl) ?_
  intro pp ee s mm below mt cd ls hx hb hr hlk hnm hml hown hts hE hP hl
  have hl : lv_has ls 2 [(0, .ref v), (1, .int k)] := hl
  refine lv_aload_n hx hb d_Values_isFull_0 rfl (lv_at hl 0 rfl) ?_
  refine lv_iload_n hx hb d_Values_isFull_1 rfl (lv_at hl 1 rfl) ?_
  refine x_cp (k_Values_17 (As := [.int k]) (rest := []) hx hb hml hown hts (c_Values_count l D cA v cnt row k) (x_preV hE hP.1 rfl rfl hP) rfl hl.1 rfl (Nat.le_of_ble_eq_true rfl) d_Values_isFull_2 (by decide) ⟨Nat.zero_le _, Nat.zero_le _⟩) ?_
  refine lv_iconst (v := 4) hx hb d_Values_isFull_5 (by decide) ?_
  refine lv_icmp_lt (tgt := 13) hx hb d_Values_isFull_6 (by decide) (fun h => ?_) (fun h => ?_)
  · refine lv_iconst (v := 0) hx hb d_Values_isFull_13 (by decide) ?_
    refine x_topi (y := bI (decide (4 ≤ vl_c cnt k))) (by rw [bI_no (by rw [Int32.not_le]; exact h)]) ?_
    exact W.zret (ty := .boolean) hx hb hr (bI_z _) (fun t ht hW => ⟨rfl, ht⟩) (fun q h => by cases h) d_Values_isFull_14
  · refine lv_iconst (v := 1) hx hb d_Values_isFull_9 (by decide) ?_
    refine lv_goto (tgt := 14) hx hb d_Values_isFull_10 (by decide) ?_
    refine x_topi (y := bI (decide (4 ≤ vl_c cnt k))) (by rw [bI_of (Int32.not_lt.mp h)]) ?_
    exact W.zret (ty := .boolean) hx hb hr (bI_z _) (fun t ht hW => ⟨rfl, ht⟩) (fun q h => by cases h) d_Values_isFull_14
set_option maxHeartbeats 4000000 in
set_option maxRecDepth 100000 in
theorem c_Values_append (l : Launch) (D : va_G) (cA : Nat → ClassId) (v : Nat) (cnt : Nat → Int32) (row : Nat → Int64) (j n : Nat) (x : Int64) (hj : j < 8) (hn : cnt j = nI n) (h4 : n < 4) : Met l y_Values_append [.code y_Values_append b_Values_append 4 (some .int)] (x_rm 1 0 0) (x_P D cA [.ref v, .int (nI j), .long x] (fun H => v_W D cA v cnt row H)) (x_Q (some (.int (nI (n + 1)))) (fun H H1 => x_F (x_A [v + 1, v + 2]) H H1 ∧ v_W D cA v (upd cnt j (nI (n + 1))) (vp_updL row (4 * j + n) x) H1)) 0 0 (x_A [v + 1, v + 2]) := by
  refine x_met (own := "DecisionLayers$Values") (by decide) rfl (Nat.le_of_ble_eq_true rfl) ?_
  intro pp ee s mm below mt cd ls hx hb hr hlk hnm hml hown hts hE hP hl
  have hl : lv_has ls 4 [(0, .ref v), (1, .int (nI j)), (2, .long x)] := hl
  obtain ⟨g0, g1, g2⟩ := hP
  have hF : ∀ q ∈ ([] : List Loc), x_A [v + 1, v + 2] q.base := t_nil
  refine lv_iload_n hx hb d_Values_append_0 rfl (lv_at hl 1 rfl) ?_
  refine x_cp (k_Values_21 (As := [.int (nI j)]) (rest := []) hx hb hml hown hts (c_Values_isKey l D cA (nI j)) (x_preS hE trivial) rfl hl.1 rfl (Nat.le_of_ble_eq_true rfl) d_Values_append_1 (by decide) ⟨Nat.zero_le _, Nat.zero_le _⟩) ?_
  refine x_topi (y := 1) (bI_of ⟨nI_pos' (by omega), (nI_ltI (by omega) (by decide) : nI j < nI 8 ↔ j < 8).mpr hj⟩) ?_
  refine lv_if_eq (tgt := 43) hx hb d_Values_append_4 (by decide) (fun h1 => ?_) (fun h1 => ?_)
  · exact absurd h1 (by decide)
  · refine lv_aload_n hx hb d_Values_append_7 rfl (lv_at hl 0 rfl) ?_
    refine fg_Values_13_Values hx hb hown hts hE g0 rfl d_Values_append_8 ?_
    refine lv_iload_n hx hb d_Values_append_11 rfl (lv_at hl 1 rfl) ?_
    refine x_iald hx hb hE.2.2 g2 0 rfl hj (by decide) d_Values_append_12 ?_
    refine x_topi (y := nI n) hn ?_
    refine lv_iconst (v := 4) hx hb d_Values_append_13 (by decide) ?_
    refine lv_icmp_ge (tgt := 43) hx hb d_Values_append_14 (by decide) (fun h2 => ?_) (fun h2 => ?_)
    · exact absurd (n_ge (k := 4) h2 (by decide) (by omega)) (by omega)
    · refine lv_aload_n hx hb d_Values_append_17 rfl (lv_at hl 0 rfl) ?_
      refine fg_Values_9_Values hx hb hown hts hE g0 rfl d_Values_append_18 ?_
      refine lv_iload_n hx hb d_Values_append_21 rfl (lv_at hl 1 rfl) ?_
      refine lv_iconst (v := 4) hx hb d_Values_append_22 (by decide) ?_
      refine lv_imul hx hb d_Values_append_23 ?_
      refine x_topi (y := nI (4 * j)) (by rw [show (4 : Int32) = nI 4 from rfl, pk_mul, Nat.mul_comm]) ?_
      refine lv_aload_n hx hb d_Values_append_24 rfl (lv_at hl 0 rfl) ?_
      refine fg_Values_13_Values hx hb hown hts hE g0 rfl d_Values_append_25 ?_
      refine lv_iload_n hx hb d_Values_append_28 rfl (lv_at hl 1 rfl) ?_
      refine x_iald hx hb hE.2.2 g2 0 rfl hj (by decide) d_Values_append_29 ?_
      refine x_topi (y := nI n) hn ?_
      refine lv_iadd hx hb d_Values_append_30 ?_
      refine x_topi (y := nI (4 * j + n)) (nI_add _ _) ?_
      refine lv_lload_n hx hb d_Values_append_31 rfl (lv_at hl 2 rfl) ?_
      refine x_last hx hb hE.2.2 g1 1 rfl (by omega) (by decide) d_Values_append_32 (fun H1 k1 g1 o1 => ?_)
      have hF := t_lc (a := v + 1) (i := k1) hF (by unfold x_A; simp)
      have g0 := g0.k1 o1 (show v ≠ v + 1 by omega)
      have g2 := g2.k1 o1 (show v + 2 ≠ v + 1 by omega)
      refine lv_aload_n hx hb d_Values_append_33 rfl (lv_at hl 0 rfl) ?_
      refine fg_Values_13_Values hx hb hown hts hE g0 rfl d_Values_append_34 ?_
      refine lv_iload_n hx hb d_Values_append_37 rfl (lv_at hl 1 rfl) ?_
      refine lv_dup2_11 hx hb d_Values_append_38 rfl rfl ?_
      refine x_iald hx hb hE.2.2 g2 0 rfl hj (by decide) d_Values_append_39 ?_
      refine x_topi (y := nI n) hn ?_
      refine lv_iconst (v := 1) hx hb d_Values_append_40 (by decide) ?_
      refine lv_iadd hx hb d_Values_append_41 ?_
      refine x_topi (y := nI (n + 1)) (nI_succ n).symm ?_
      refine x_iast hx hb hE.2.2 g2 0 rfl hj (by decide) d_Values_append_42 (fun H2 k2 g2 o2 => ?_)
      have hF := t_lc (a := v + 2) (i := k2) hF (by unfold x_A; simp)
      have g0 := g0.k1 o2 (show v ≠ v + 2 by omega)
      have g1 := g1.k1 o2 (show v + 1 ≠ v + 2 by omega)
      have hV : v_W D cA v (upd cnt j (nI (n + 1))) (vp_updL row (4 * j + n) x) H2 := ⟨g0, g1, g2⟩
      refine lv_aload_n hx hb d_Values_append_43 rfl (lv_at hl 0 rfl) ?_
      refine lv_iload_n hx hb d_Values_append_44 rfl (lv_at hl 1 rfl) ?_
      refine x_cp (k_Values_17 (As := [.int (nI j)]) (rest := []) hx hb hml hown hts (c_Values_count l D cA v (upd cnt j (nI (n + 1))) (vp_updL row (4 * j + n) x) (nI j)) (x_preV hE g0 rfl rfl hV) rfl hl.1 rfl (Nat.le_of_ble_eq_true rfl) d_Values_append_45 (by decide) ⟨Nat.zero_le _, Nat.zero_le _⟩) ?_
      refine x_topi (y := nI (n + 1)) (by rw [vl_c_in hj, pk_us]) ?_
      exact W.iret hx hb hr (fun t ht hW => ⟨rfl, by rw [ht]; exact ⟨(x_F.of1 o1 (by unfold x_A; simp)).trans (x_F.of1 o2 (by unfold x_A; simp)), hV⟩⟩) hF d_Values_append_48
set_option maxHeartbeats 4000000 in
set_option maxRecDepth 100000 in
theorem c_Values_empty (l : Launch) (D : va_G) (cA : Nat → ClassId) (v : Nat) (cnt : Nat → Int32) (row : Nat → Int64) (j : Nat) (hj : j < 8) : Met l y_Values_empty [.code y_Values_empty b_Values_empty 3 (some .int)] (x_rm 1 0 0) (x_P D cA [.ref v, .int (nI j)] (fun H => v_W D cA v cnt row H)) (x_Q (some (.int (cnt j))) (fun H H1 => x_F (x_A [v + 2]) H H1 ∧ v_W D cA v (upd cnt j 0) row H1)) 0 0 (x_A [v + 2]) := by
  refine x_met (own := "DecisionLayers$Values") (by decide) rfl (Nat.le_of_ble_eq_true rfl) ?_
  intro pp ee s mm below mt cd ls hx hb hr hlk hnm hml hown hts hE hP hl
  have hl : lv_has ls 3 [(0, .ref v), (1, .int (nI j))] := hl
  obtain ⟨g0, g1, g2⟩ := id hP
  have hF : ∀ q ∈ ([] : List Loc), x_A [v + 2] q.base := t_nil
  refine lv_aload_n hx hb d_Values_empty_0 rfl (lv_at hl 0 rfl) ?_
  refine lv_iload_n hx hb d_Values_empty_1 rfl (lv_at hl 1 rfl) ?_
  refine x_cp (k_Values_17 (As := [.int (nI j)]) (rest := []) hx hb hml hown hts (c_Values_count l D cA v cnt row (nI j)) (x_preV hE g0 rfl rfl hP) rfl hl.1 rfl (Nat.le_of_ble_eq_true rfl) d_Values_empty_2 (by decide) ⟨Nat.zero_le _, Nat.zero_le _⟩) ?_
  refine x_topi (y := cnt j) (vl_c_in hj) ?_
  refine lv_istore_n (lv' := [(2, .int (cnt j)), (0, .ref v), (1, .int (nI j))]) hx hb d_Values_empty_5 rfl hl (by decide) rfl (fun ls hl => ?_)
  refine lv_iload_n hx hb d_Values_empty_6 rfl (lv_at hl 2 rfl) ?_
  refine x_cp (k_Values_21 (As := [.int (nI j)]) (rest := []) hx hb hml hown hts (c_Values_isKey l D cA (nI j)) (x_preS hE trivial) rfl hl.1 rfl (Nat.le_of_ble_eq_true rfl) d_Values_empty_7 (by decide) ⟨Nat.zero_le _, Nat.zero_le _⟩) ?_
  refine x_topi (y := 1) (bI_of ⟨nI_pos' (by omega), (nI_ltI (by omega) (by decide) : nI j < nI 8 ↔ j < 8).mpr hj⟩) ?_
  refine lv_if_eq (tgt := 20) hx hb d_Values_empty_10 (by decide) (fun h1 => ?_) (fun h1 => ?_)
  · exact absurd h1 (by decide)
  · refine lv_aload_n hx hb d_Values_empty_13 rfl (lv_at hl 1 rfl) ?_
    refine fg_Values_13_Values hx hb hown hts hE g0 rfl d_Values_empty_14 ?_
    refine lv_iload_n hx hb d_Values_empty_17 rfl (lv_at hl 2 rfl) ?_
    refine lv_iconst (v := 0) hx hb d_Values_empty_18 (by decide) ?_
    refine x_iast hx hb hE.2.2 g2 0 rfl hj (by decide) d_Values_empty_19 (fun H1 k1 g1 o1 => ?_)
    have hF := t_lc (a := v + 2) (i := k1) hF (by unfold x_A; simp)
    have g0 := g0.k1 o1 (show v ≠ v + 2 by omega)
    have hg1 := g1
    have hV : v_W D cA v (upd cnt j 0) row H1 := ⟨g0, hP.2.1.k1 o1 (show v + 1 ≠ v + 2 by omega), g1⟩
    refine lv_iload_n hx hb d_Values_empty_20 rfl (lv_at hl 0 rfl) ?_
    exact W.iret hx hb hr (fun t ht hW => ⟨rfl, by rw [ht]; exact ⟨x_F.of1 o1 (by unfold x_A; simp), hV⟩⟩) hF d_Values_empty_21
end
section
/-! patterns as the class reads them -/
def pt_P (y : Int64) (lo : Bool) (c : Int32) : Nat → Bool := fun i => decide (tx_lo c lo = tx_lo (tx_c y i) lo)
theorem pl_c_t {P : Nat → Bool} {q k : Nat} (h1 : q.testBit k = true) (h2 : P k = true) : pl_c P q (k + 1) = pl_c P q k ||| 2 ^ (k + 1) := by
  show (if q.testBit k && P k then _ else _) = _
  rw [if_pos (by rw [h1, h2]; rfl)]
theorem pl_c_f1 {P : Nat → Bool} {q k : Nat} (h1 : q.testBit k = false) : pl_c P q (k + 1) = pl_c P q k := by
  show (if q.testBit k && P k then _ else _) = _
  rw [if_neg (by rw [h1]; simp)]
theorem pl_c_f2 {P : Nat → Bool} {q k : Nat} (h1 : P k = false) : pl_c P q (k + 1) = pl_c P q k := by
  show (if q.testBit k && P k then _ else _) = _
  rw [if_neg (by rw [h1]; simp)]
theorem pt_s_P (y : Int64) (lo : Bool) (w : Int64) (k q : Nat) : pt_s y lo (tx_c w k) q = pl_c (pt_P y lo (tx_c w k)) q (tx_n y) := by
  obtain ⟨j, hj, e⟩ := tx_c_lt w k
  exact pt_s_c y lo hj e q
/-- what a character behind a dollar stands for, as a text -/
def pt_w (row : Nat → Int64) (c : Int32) : Int64 := if 0 ≤ c - 48 ∧ c - 48 < 8 then row (4 * (c - 48).toNatClampNeg) else c.toInt64
theorem pt_e_no {c : Int32} (h : pt_e c = true) : ¬ (0 ≤ c - 48 ∧ c - 48 < 8) := by
  unfold pt_e at h
  rcases of_decide_eq_true h with h | h | h <;> subst h <;> decide
theorem pt_d_w {cnt : Nat → Int32} {row : Nat → Int64} {c : Int32} {j : Nat} (hj : j < 256) (h0 : 0 < j) (hc : c = nI j) (h : (pt_e c || pt_y cnt c) = true) : pt_d cnt row c = some (pt_v (pt_w row c)) := by
  unfold pt_d
  by_cases he : pt_e c = true
  · rw [if_pos he]
    unfold pt_w
    rw [if_neg (pt_e_no he), pt_v_1 hj h0 hc]
  · rw [if_neg he]
    have hy : pt_y cnt c = true := by
      cases hh : pt_e c with
      | true => exact absurd hh he
      | false => rw [hh] at h; exact h
    rw [if_pos hy]
    unfold pt_w
    rw [pt_y_c] at hy
    have hv := of_decide_eq_true hy
    unfold vl_c at hv
    by_cases hk : 0 ≤ c - 48 ∧ c - 48 < 8
    · rw [if_pos hk]
    · rw [if_neg hk] at hv
      exact absurd hv (by decide)
theorem pt_d_no {cnt : Nat → Int32} {row : Nat → Int64} {c : Int32} (h : (pt_e c || pt_y cnt c) = false) : pt_d cnt row c = none := by
  unfold pt_d
  rw [Bool.or_eq_false_iff] at h
  rw [h.1, h.2]
  rfl
theorem pt_y_1 {cnt : Nat → Int32} {c : Int32} (h : (pt_e c || pt_y cnt c) = true) (hk : 0 ≤ c - 48 ∧ c - 48 < 8) : cnt (c - 48).toNatClampNeg = 1 := by
  have he : pt_e c = false := by
    cases hh : pt_e c with
    | true => exact absurd hk (pt_e_no hh)
    | false => rfl
  rw [he, Bool.false_or, pt_y_c] at h
  have hv := of_decide_eq_true h
  unfold vl_c at hv
  rw [if_pos hk] at hv
  exact hv
theorem pt_e_y {c : Int32} (h : c = 36 ∨ c = 42 ∨ c = 63) : pt_e c = true := decide_eq_true h
theorem pt_e_n {c : Int32} (h1 : ¬ c = 36) (h2 : ¬ c = 42) (h3 : ¬ c = 63) : pt_e c = false := decide_eq_false (fun h => by rcases h with h | h | h <;> contradiction)
theorem tx_c_pos {x : Int64} {i : Nat} (h : i < tx_n x) : ∃ j : Nat, j < 256 ∧ 0 < j ∧ tx_c x i = nI j := by
  obtain ⟨j, hj, e⟩ := tx_c_lt x i
  refine ⟨j, hj, ?_, e⟩
  rcases Nat.eq_zero_or_pos j with h0 | h0
  · subst h0; exact absurd e (tx_nz h)
  · exact h0
theorem pt_t_n {c : Int32} (h2 : ¬ c = 42) (h3 : ¬ c = 63) : pt_t c = c := by unfold pt_t; rw [if_neg h2, if_neg h3]
/-- the steps of a match, from place i on, r places left -/
theorem pt_o_d {cnt : Nat → Int32} {row : Nat → Int64} {x y : Int64} {lo : Bool} {i r q j : Nat} (h : i + (r + 2) = tx_n x) (hd : tx_c x i = 36) (hj : j < 256) (h0 : 0 < j) (hc : tx_c x (i + 1) = nI j) (hm : (pt_e (tx_c x (i + 1)) || pt_y cnt (tx_c x (i + 1))) = true) :
    pt_o y lo (pt_k cnt row x (r + 2)) q = pt_o y lo (pt_k cnt row x r) (pt_r y lo (pt_v (pt_w row (tx_c x (i + 1)))) q) := by
  rw [pt_k_d h hd, pt_d_w hj h0 hc hm]
  exact pt_o_app _ _ _ _ _
theorem pt_o_dn {cnt : Nat → Int32} {row : Nat → Int64} {x y : Int64} {lo : Bool} {i r q : Nat} (h : i + (r + 2) = tx_n x) (hd : tx_c x i = 36) (hm : (pt_e (tx_c x (i + 1)) || pt_y cnt (tx_c x (i + 1))) = false) : pt_o y lo (pt_k cnt row x (r + 2)) q = false := by
  rw [pt_k_d h hd, pt_d_no hm]; rfl
theorem pt_o_t {cnt : Nat → Int32} {row : Nat → Int64} {x y : Int64} {lo : Bool} {i r q : Nat} (h : i + (r + 1) = tx_n x) (hd : ¬ tx_c x i = 36) : pt_o y lo (pt_k cnt row x (r + 1)) q = pt_o y lo (pt_k cnt row x r) (pt_s y lo (pt_t (tx_c x i)) q) := by
  rw [pt_k_c h hd, pt_o_cons]
end
section
set_option maxHeartbeats 4000000 in
set_option maxRecDepth 100000 in
theorem c_Pattern_meansSomething (l : Launch) (D : va_G) (cA : Nat → ClassId) (v : Nat) (cnt : Nat → Int32) (row : Nat → Int64) (k : Int32) : Met l y_Pattern_meansSomething [.code y_Pattern_meansSomething b_Pattern_meansSomething 2 (some .boolean)] (x_rm 1 0 0) (x_P D cA [.int k, .ref v] (fun H => v_W D cA v cnt row H)) (x_Q (some (.int (bI (pt_e k || pt_y cnt k)))) (x_same)) 0 0 (fun _ => False) := by
  refine x_met (own := "DecisionLayers$Pattern") (by decide) rfl (Nat.le_of_ble_eq_true rfl) ?_
  intro pp ee s mm below mt cd ls hx hb hr hlk hnm hml hown hts hE hP hl
  have hl : lv_has ls 2 [(0, .int k), (1, .ref v)] := hl
  refine lv_iload_n hx hb d_Pattern_meansSomething_0 rfl (lv_at hl 0 rfl) ?_
  refine lv_bipush (v := 36) hx hb d_Pattern_meansSomething_1 (by decide) ?_
  refine lv_icmp_eq (tgt := 30) hx hb d_Pattern_meansSomething_3 (by decide) (fun h1 => ?_) (fun h1 => ?_)
  · refine lv_iconst (v := 1) hx hb d_Pattern_meansSomething_30 (by decide) ?_
    refine lv_goto (tgt := 35) hx hb d_Pattern_meansSomething_31 (by decide) ?_
    refine x_topi (y := bI (pt_e k || pt_y cnt k)) (by rw [pt_e_y (Or.inl h1)]; rfl) ?_
    exact W.zret (ty := .boolean) hx hb hr (bI_z _) (fun t ht hW => ⟨rfl, ht⟩) (fun q h => by cases h) d_Pattern_meansSomething_35
  · refine lv_iload_n hx hb d_Pattern_meansSomething_6 rfl (lv_at hl 0 rfl) ?_
    refine lv_bipush (v := 42) hx hb d_Pattern_meansSomething_7 (by decide) ?_
    refine lv_icmp_eq (tgt := 30) hx hb d_Pattern_meansSomething_9 (by decide) (fun h2 => ?_) (fun h2 => ?_)
    · refine lv_iconst (v := 1) hx hb d_Pattern_meansSomething_30 (by decide) ?_
      refine lv_goto (tgt := 35) hx hb d_Pattern_meansSomething_31 (by decide) ?_
      refine x_topi (y := bI (pt_e k || pt_y cnt k)) (by rw [pt_e_y (Or.inr (Or.inl h2))]; rfl) ?_
      exact W.zret (ty := .boolean) hx hb hr (bI_z _) (fun t ht hW => ⟨rfl, ht⟩) (fun q h => by cases h) d_Pattern_meansSomething_35
    · refine lv_iload_n hx hb d_Pattern_meansSomething_12 rfl (lv_at hl 0 rfl) ?_
      refine lv_bipush (v := 63) hx hb d_Pattern_meansSomething_13 (by decide) ?_
      refine lv_icmp_eq (tgt := 30) hx hb d_Pattern_meansSomething_15 (by decide) (fun h3 => ?_) (fun h3 => ?_)
      · refine lv_iconst (v := 1) hx hb d_Pattern_meansSomething_30 (by decide) ?_
        refine lv_goto (tgt := 35) hx hb d_Pattern_meansSomething_31 (by decide) ?_
        refine x_topi (y := bI (pt_e k || pt_y cnt k)) (by rw [pt_e_y (Or.inr (Or.inr h3))]; rfl) ?_
        exact W.zret (ty := .boolean) hx hb hr (bI_z _) (fun t ht hW => ⟨rfl, ht⟩) (fun q h => by cases h) d_Pattern_meansSomething_35
      · refine lv_aload_n hx hb d_Pattern_meansSomething_18 rfl (lv_at hl 1 rfl) ?_
        refine lv_iload_n hx hb d_Pattern_meansSomething_19 rfl (lv_at hl 0 rfl) ?_
        refine lv_bipush (v := 48) hx hb d_Pattern_meansSomething_20 (by decide) ?_
        refine lv_isub hx hb d_Pattern_meansSomething_22 ?_
        refine x_cp (k_Pattern_38 (As := [.int (k - 48)]) (rest := []) hx hb hml hown hts (c_Values_count l D cA v cnt row (k - 48)) (x_preV hE hP.1 rfl rfl hP) rfl hl.1 rfl (Nat.le_of_ble_eq_true rfl) d_Pattern_meansSomething_23 (by decide) ⟨Nat.zero_le _, Nat.zero_le _⟩) ?_
        refine lv_iconst (v := 1) hx hb d_Pattern_meansSomething_26 (by decide) ?_
        refine lv_icmp_ne (tgt := 34) hx hb d_Pattern_meansSomething_27 (by decide) (fun h4 => ?_) (fun h4 => ?_)
        · refine lv_iconst (v := 0) hx hb d_Pattern_meansSomething_34 (by decide) ?_
          refine x_topi (y := bI (pt_e k || pt_y cnt k)) (by rw [pt_e_n h1 h2 h3, Bool.false_or, pt_y_c, bI_no h4]) ?_
          exact W.zret (ty := .boolean) hx hb hr (bI_z _) (fun t ht hW => ⟨rfl, ht⟩) (fun q h => by cases h) d_Pattern_meansSomething_35
        · refine lv_iconst (v := 1) hx hb d_Pattern_meansSomething_30 (by decide) ?_
          refine lv_goto (tgt := 35) hx hb d_Pattern_meansSomething_31 (by decide) ?_
          refine x_topi (y := bI (pt_e k || pt_y cnt k)) (by rw [pt_e_n h1 h2 h3, Bool.false_or, pt_y_c, bI_of h4]) ?_
          exact W.zret (ty := .boolean) hx hb hr (bI_z _) (fun t ht hW => ⟨rfl, ht⟩) (fun q h => by cases h) d_Pattern_meansSomething_35
set_option maxHeartbeats 4000000 in
set_option maxRecDepth 100000 in
theorem c_Pattern_meaning (l : Launch) (D : va_G) (cA : Nat → ClassId) (v : Nat) (cnt : Nat → Int32) (row : Nat → Int64) (k : Int32) (hk : 0 ≤ k - 48 ∧ k - 48 < 8 → cnt (k - 48).toNatClampNeg = 1) : Met l y_Pattern_meaning [.code y_Pattern_meaning b_Pattern_meaning 2 (some .long)] (x_rm 1 0 0) (x_P D cA [.int k, .ref v] (fun H => v_W D cA v cnt row H)) (x_Q (some (.long (pt_w row k))) (x_same)) 0 0 (fun _ => False) := by
  refine x_met (own := "DecisionLayers$Pattern") (by decide) rfl (Nat.le_of_ble_eq_true rfl) ?_
  intro pp ee s mm below mt cd ls hx hb hr hlk hnm hml hown hts hE hP hl
  have hl : lv_has ls 2 [(0, .int k), (1, .ref v)] := hl
  refine lv_iload_n hx hb d_Pattern_meaning_0 rfl (lv_at hl 0 rfl) ?_
  refine lv_bipush (v := 48) hx hb d_Pattern_meaning_1 (by decide) ?_
  refine lv_isub hx hb d_Pattern_meaning_3 ?_
  refine x_cp (k_Pattern_44 (As := [.int (k - 48)]) (rest := []) hx hb hml hown hts (c_Values_isKey l D cA (k - 48)) (x_preS hE trivial) rfl hl.1 rfl (Nat.le_of_ble_eq_true rfl) d_Pattern_meaning_4 (by decide) ⟨Nat.zero_le _, Nat.zero_le _⟩) ?_
  refine lv_if_eq (tgt := 22) hx hb d_Pattern_meaning_7 (by decide) (fun h1 => ?_) (fun h1 => ?_)
  · have h1 := of_decide_eq_false (bI_0.mp h1)
    refine lv_iload_n hx hb d_Pattern_meaning_22 rfl (lv_at hl 0 rfl) ?_
    refine lv_i2l hx hb d_Pattern_meaning_23 rfl ?_
    refine x_topl (y := pt_w row k) (by unfold pt_w; rw [if_neg h1]) ?_
    exact W.lret hx hb hr (fun t ht hW => ⟨rfl, ht⟩) (fun q h => by cases h) d_Pattern_meaning_24
  · have h1 := of_decide_eq_true (bI_n0.mp h1)
    have hk1 := hk h1
    obtain ⟨j, hj, e⟩ := vl_key' h1.1 h1.2
    have ej : (k - 48).toNatClampNeg = j := by rw [e]; exact nI_clamp (by omega)
    refine lv_aload_n hx hb d_Pattern_meaning_10 rfl (lv_at hl 1 rfl) ?_
    refine lv_iload_n hx hb d_Pattern_meaning_11 rfl (lv_at hl 0 rfl) ?_
    refine lv_bipush (v := 48) hx hb d_Pattern_meaning_12 (by decide) ?_
    refine lv_isub hx hb d_Pattern_meaning_14 ?_
    refine x_topi (y := nI j) e ?_
    refine lv_iconst (v := 0) hx hb d_Pattern_meaning_15 (by decide) ?_
    refine x_cp (k_Pattern_48 (As := [.int (nI j), .int 0]) (rest := []) hx hb hml hown hts (c_Values_get l D cA v cnt row j 0 1 hj (by rw [← ej]; exact hk1) (by decide) (by decide)) (x_preV hE hP.1 rfl rfl hP) rfl hl.1 rfl (Nat.le_of_ble_eq_true rfl) d_Pattern_meaning_16 (by decide) ⟨Nat.zero_le _, Nat.zero_le _⟩) ?_
    refine lv_goto (tgt := 24) hx hb d_Pattern_meaning_19 (by decide) ?_
    refine x_topl (y := pt_w row k) (by unfold pt_w; rw [if_pos h1, ej]; rfl) ?_
    exact W.lret hx hb hr (fun t ht hW => ⟨rfl, ht⟩) (fun q h => by cases h) d_Pattern_meaning_24
set_option maxHeartbeats 4000000 in
set_option maxRecDepth 100000 in
theorem c_Pattern_readAnyRow (l : Launch) (D : va_G) (cA : Nat → ClassId) (y : Int64) (q : Nat) (hq : q < 2 ^ (tx_n y + 1)) : Met l y_Pattern_readAnyRow [.code y_Pattern_readAnyRow b_Pattern_readAnyRow 5 (some .int)] (x_rm 1 0 0) (x_P D cA [.int (nI q), .long y] (fun _ => True)) (x_Q (some (.int (nI (pl_s (tx_n y) q (tx_n y + 1))))) (x_same)) 0 0 (fun _ => False) := by
  refine x_met (own := "DecisionLayers$Pattern") (by decide) rfl (Nat.le_of_ble_eq_true rfl) ?_
  intro pp ee s mm below mt cd ls hx hb hr hlk hnm hml hown hts hE hP hl
  have hl : lv_has ls 5 [(0, .int (nI q)), (1, .long y)] := hl
  refine lv_iload_n hx hb d_Pattern_readAnyRow_0 rfl (lv_at hl 0 rfl) ?_
  refine lv_iload_n hx hb d_Pattern_readAnyRow_1 rfl (lv_at hl 0 rfl) ?_
  refine lv_ineg hx hb d_Pattern_readAnyRow_2 ?_
  refine lv_iand hx hb d_Pattern_readAnyRow_3 ?_
  refine lv_istore_n (lv' := [(3, .int ((nI q) &&& (-(nI q)))), (0, .int (nI q)), (1, .long y)]) hx hb d_Pattern_readAnyRow_4 rfl hl (by decide) rfl (fun ls hl => ?_)
  refine lv_iconst (v := 2) hx hb d_Pattern_readAnyRow_5 (by decide) ?_
  refine lv_lload_n hx hb d_Pattern_readAnyRow_6 rfl (lv_at hl 2 rfl) ?_
  refine x_cp (k_Pattern_7 (As := [.long y]) (rest := [.int 2]) hx hb hml hown hts (c_Text_length l D cA y) (x_preS hE trivial) rfl hl.1 rfl (Nat.le_of_ble_eq_true rfl) d_Pattern_readAnyRow_7 (by decide) ⟨Nat.zero_le _, Nat.zero_le _⟩) ?_
  refine lv_ishl hx hb d_Pattern_readAnyRow_10 ?_
  refine lv_iconst (v := 1) hx hb d_Pattern_readAnyRow_11 (by decide) ?_
  refine lv_isub hx hb d_Pattern_readAnyRow_12 ?_
  refine lv_istore (lv' := [(4, .int ((2 <<< ((nI (tx_n y)) &&& 31)) - 1)), (3, .int ((nI q) &&& (-(nI q)))), (0, .int (nI q)), (1, .long y)]) hx hb d_Pattern_readAnyRow_13 hl (by decide) rfl (fun ls hl => ?_)
  refine lv_iload_n hx hb d_Pattern_readAnyRow_15 rfl (lv_at hl 1 rfl) ?_
  refine lv_ineg hx hb d_Pattern_readAnyRow_16 ?_
  refine lv_iload hx hb d_Pattern_readAnyRow_17 (lv_at hl 0 rfl) ?_
  refine lv_iand hx hb d_Pattern_readAnyRow_19 ?_
  refine x_topi (y := nI (pl_s (tx_n y) q (tx_n y + 1))) (pl_any (tx_n y) (by have := tx_le y; omega) q (pl_512 (tx_le y) hq) hq) ?_
  exact W.iret hx hb hr (fun t ht hW => ⟨rfl, ht⟩) (fun q h => by cases h) d_Pattern_readAnyRow_20
set_option maxHeartbeats 4000000 in
set_option maxRecDepth 100000 in
theorem c_Pattern_readAnyOne (l : Launch) (D : va_G) (cA : Nat → ClassId) (y : Int64) (q : Nat) (hq : q < 2 ^ (tx_n y + 1)) : Met l y_Pattern_readAnyOne [.code y_Pattern_readAnyOne b_Pattern_readAnyOne 4 (some .int)] (x_rm 1 0 0) (x_P D cA [.int (nI q), .long y] (fun _ => True)) (x_Q (some (.int (nI (pl_c (fun _ => true) q (tx_n y))))) (x_same)) 0 0 (fun _ => False) := by
  refine x_met (own := "DecisionLayers$Pattern") (by decide) rfl (Nat.le_of_ble_eq_true rfl) ?_
  intro pp ee s mm below mt cd ls hx hb hr hlk hnm hml hown hts hE hP hl
  have hl : lv_has ls 4 [(0, .int (nI q)), (1, .long y)] := hl
  refine lv_iconst (v := 2) hx hb d_Pattern_readAnyOne_0 (by decide) ?_
  refine lv_lload_n hx hb d_Pattern_readAnyOne_1 rfl (lv_at hl 1 rfl) ?_
  refine x_cp (k_Pattern_7 (As := [.long y]) (rest := [.int 2]) hx hb hml hown hts (c_Text_length l D cA y) (x_preS hE trivial) rfl hl.1 rfl (Nat.le_of_ble_eq_true rfl) d_Pattern_readAnyOne_2 (by decide) ⟨Nat.zero_le _, Nat.zero_le _⟩) ?_
  refine lv_ishl hx hb d_Pattern_readAnyOne_5 ?_
  refine lv_iconst (v := 1) hx hb d_Pattern_readAnyOne_6 (by decide) ?_
  refine lv_isub hx hb d_Pattern_readAnyOne_7 ?_
  refine lv_istore_n (lv' := [(3, .int ((2 <<< ((nI (tx_n y)) &&& 31)) - 1)), (0, .int (nI q)), (1, .long y)]) hx hb d_Pattern_readAnyOne_8 rfl hl (by decide) rfl (fun ls hl => ?_)
  refine lv_iload_n hx hb d_Pattern_readAnyOne_9 rfl (lv_at hl 1 rfl) ?_
  refine lv_iconst (v := 1) hx hb d_Pattern_readAnyOne_10 (by decide) ?_
  refine lv_ishl hx hb d_Pattern_readAnyOne_11 ?_
  refine lv_iload_n hx hb d_Pattern_readAnyOne_12 rfl (lv_at hl 0 rfl) ?_
  refine lv_iand hx hb d_Pattern_readAnyOne_13 ?_
  refine x_topi (y := nI (pl_c (fun _ => true) q (tx_n y))) (pl_one (tx_n y) (by have := tx_le y; omega) q (pl_512 (tx_le y) hq) hq) ?_
  exact W.iret hx hb hr (fun t ht hW => ⟨rfl, ht⟩) (fun q h => by cases h) d_Pattern_readAnyOne_14
set_option maxHeartbeats 4000000 in
set_option maxRecDepth 100000 in
theorem c_Pattern_readText (l : Launch) (D : va_G) (cA : Nat → ClassId) (wd y : Int64) (lo : Bool) (q : Nat) (hq : q < 2 ^ (tx_n y + 1)) : Met l y_Pattern_readText [.code y_Pattern_readText b_Pattern_readText 13 (some .int)] (x_rm 1 0 0) (x_P D cA [.int (nI q), .long wd, .long y, .int (bI lo)] (fun _ => True)) (x_Q (some (.int (nI (pt_r y lo (pt_v wd) q)))) (x_same)) 0 0 (fun _ => False) := by
  refine x_met (own := "DecisionLayers$Pattern") (by decide) rfl (Nat.le_of_ble_eq_true rfl) ?_
  intro pp ee s mm below mt cd ls hx hb hr hlk hnm hml hown hts hE hP hl
  have hl : lv_has ls 13 [(0, .int (nI q)), (1, .long wd), (3, .long y), (5, .int (bI lo))] := hl
  refine lv_lload_n hx hb d_Pattern_readText_0 rfl (lv_at hl 1 rfl) ?_
  refine x_cp (k_Pattern_7 (As := [.long wd]) (rest := []) hx hb hml hown hts (c_Text_length l D cA wd) (x_preS hE trivial) rfl hl.1 rfl (Nat.le_of_ble_eq_true rfl) d_Pattern_readText_1 (by decide) ⟨Nat.zero_le _, Nat.zero_le _⟩) ?_
  refine lv_istore (lv' := [(6, .int (nI (tx_n wd))), (0, .int (nI q)), (1, .long wd), (3, .long y), (5, .int (bI lo))]) hx hb d_Pattern_readText_4 hl (by decide) rfl (fun ls hl => ?_)
  refine lv_lload_n hx hb d_Pattern_readText_6 rfl (lv_at hl 3 rfl) ?_
  refine x_cp (k_Pattern_7 (As := [.long y]) (rest := []) hx hb hml hown hts (c_Text_length l D cA y) (x_preS hE trivial) rfl hl.1 rfl (Nat.le_of_ble_eq_true rfl) d_Pattern_readText_7 (by decide) ⟨Nat.zero_le _, Nat.zero_le _⟩) ?_
  refine lv_istore (lv' := [(7, .int (nI (tx_n y))), (6, .int (nI (tx_n wd))), (0, .int (nI q)), (1, .long wd), (3, .long y), (5, .int (bI lo))]) hx hb d_Pattern_readText_10 hl (by decide) rfl (fun ls hl => ?_)
  refine lv_iload_n hx hb d_Pattern_readText_12 rfl (lv_at hl 2 rfl) ?_
  refine lv_istore (lv' := [(8, .int (nI q)), (7, .int (nI (tx_n y))), (6, .int (nI (tx_n wd))), (0, .int (nI q)), (1, .long wd), (3, .long y), (5, .int (bI lo))]) hx hb d_Pattern_readText_13 hl (by decide) rfl (fun ls hl => ?_)
  refine lv_iconst (v := 0) hx hb d_Pattern_readText_15 (by decide) ?_
  refine lv_istore (lv' := [(9, .int 0), (8, .int (nI q)), (7, .int (nI (tx_n y))), (6, .int (nI (tx_n wd))), (0, .int (nI q)), (1, .long wd), (3, .long y), (5, .int (bI lo))]) hx hb d_Pattern_readText_16 hl (by decide) rfl (fun ls hl => ?_)
  have hy8 := tx_le y
  have hw8 := tx_le wd
  refine x_loop (I := fun n ls => ∃ k, k + n = tx_n wd ∧ lv_has ls 13 [(9, .int (nI k)), (8, .int (nI (pt_p y lo wd k q))), (7, .int (nI (tx_n y))), (6, .int (nI (tx_n wd))), (1, .long wd), (3, .long y), (5, .int (bI lo))]) (fun n ls ih h => ?_) (tx_n wd) ⟨0, by omega, (lv_sub hl [0, 1, 2, 3, 5, 6, 7] rfl)⟩
  obtain ⟨k, hk, hl⟩ := h
  refine lv_iload hx hb d_Pattern_readText_18 (lv_at hl 0 rfl) ?_
  refine lv_iload hx hb d_Pattern_readText_20 (lv_at hl 3 rfl) ?_
  refine lv_icmp_ge (tgt := 97) hx hb d_Pattern_readText_22 (by decide) (fun h1 => ?_) (fun h1 => ?_)
  · have h1 := n_ge h1 (by omega) (by omega)
    refine lv_iload hx hb d_Pattern_readText_97 (lv_at hl 1 rfl) ?_
    refine x_topi (y := nI (pt_r y lo (pt_v wd) q)) (by rw [← pt_p_n, show k = tx_n wd by omega]) ?_
    exact W.iret hx hb hr (fun t ht hW => ⟨rfl, ht⟩) (fun q h => by cases h) d_Pattern_readText_99
  · have h1 := n_lt h1 (by omega) (by omega)
    have hQ := pt_p_lt y lo wd k hq
    generalize hQe : pt_p y lo wd k q = Q at hQ hl
    have hQ5 := pl_512 hy8 hQ
    refine lv_lload_n hx hb d_Pattern_readText_25 rfl (lv_at hl 4 rfl) ?_
    refine lv_iload hx hb d_Pattern_readText_26 (lv_at hl 0 rfl) ?_
    refine x_cp (k_Pattern_15 (As := [.long wd, .int (nI k)]) (rest := []) hx hb hml hown hts (c_Text_charAt l D cA wd k (by omega)) (x_preS hE trivial) rfl hl.1 rfl (Nat.le_of_ble_eq_true rfl) d_Pattern_readText_28 (by decide) ⟨Nat.zero_le _, Nat.zero_le _⟩) ?_
    refine lv_istore (lv' := [(10, .int (tx_c wd k)), (9, .int (nI k)), (8, .int (nI Q)), (7, .int (nI (tx_n y))), (6, .int (nI (tx_n wd))), (1, .long wd), (3, .long y), (5, .int (bI lo))]) hx hb d_Pattern_readText_31 hl (by decide) rfl (fun ls hl => ?_)
    refine lv_iconst (v := 0) hx hb d_Pattern_readText_33 (by decide) ?_
    refine lv_istore (lv' := [(11, .int 0), (10, .int (tx_c wd k)), (9, .int (nI k)), (8, .int (nI Q)), (7, .int (nI (tx_n y))), (6, .int (nI (tx_n wd))), (1, .long wd), (3, .long y), (5, .int (bI lo))]) hx hb d_Pattern_readText_34 hl (by decide) rfl (fun ls hl => ?_)
    refine lv_iconst (v := 0) hx hb d_Pattern_readText_36 (by decide) ?_
    refine lv_istore (lv' := [(12, .int 0), (11, .int 0), (10, .int (tx_c wd k)), (9, .int (nI k)), (8, .int (nI Q)), (7, .int (nI (tx_n y))), (6, .int (nI (tx_n wd))), (1, .long wd), (3, .long y), (5, .int (bI lo))]) hx hb d_Pattern_readText_37 hl (by decide) rfl (fun ls hl => ?_)
    refine x_loop (I := fun n2 ls => ∃ i, i + n2 = tx_n y ∧ lv_has ls 13 [(12, .int (nI i)), (11, .int (nI (pl_c (pt_P y lo (tx_c wd k)) Q i))), (10, .int (tx_c wd k)), (9, .int (nI k)), (8, .int (nI Q)), (7, .int (nI (tx_n y))), (6, .int (nI (tx_n wd))), (1, .long wd), (3, .long y), (5, .int (bI lo))]) (fun n2 ls ih2 h => ?_) (tx_n y) ⟨0, by omega, (lv_sub hl [0, 1, 2, 3, 4, 5, 6, 7, 8, 9] rfl)⟩
    obtain ⟨i, hi, hl⟩ := h
    refine lv_iload hx hb d_Pattern_readText_39 (lv_at hl 0 rfl) ?_
    refine lv_iload hx hb d_Pattern_readText_41 (lv_at hl 5 rfl) ?_
    refine lv_icmp_ge (tgt := 87) hx hb d_Pattern_readText_43 (by decide) (fun h2 => ?_) (fun h2 => ?_)
    · have h2 := n_ge h2 (by omega) (by omega)
      have hi : i = tx_n y := by omega
      subst hi
      refine lv_iload hx hb d_Pattern_readText_87 (lv_at hl 1 rfl) ?_
      refine lv_istore (lv' := [(8, .int (nI (pl_c (pt_P y lo (tx_c wd k)) Q (tx_n y)))), (12, .int (nI (tx_n y))), (11, .int (nI (pl_c (pt_P y lo (tx_c wd k)) Q (tx_n y)))), (10, .int (tx_c wd k)), (9, .int (nI k)), (7, .int (nI (tx_n y))), (6, .int (nI (tx_n wd))), (1, .long wd), (3, .long y), (5, .int (bI lo))]) hx hb d_Pattern_readText_89 hl (by decide) rfl (fun ls hl => ?_)
      refine lv_iinc (k := 4) (v := nI (k + 1)) (lv' := [(9, .int (nI (k + 1))), (8, .int (nI (pl_c (pt_P y lo (tx_c wd k)) Q (tx_n y)))), (12, .int (nI (tx_n y))), (11, .int (nI (pl_c (pt_P y lo (tx_c wd k)) Q (tx_n y)))), (10, .int (tx_c wd k)), (7, .int (nI (tx_n y))), (6, .int (nI (tx_n wd))), (1, .long wd), (3, .long y), (5, .int (bI lo))]) hx hb d_Pattern_readText_91 hl rfl (x_inc _) (by decide) rfl (fun ls hl => ?_)
      refine lv_goto (tgt := 18) hx hb d_Pattern_readText_94 (by decide) ?_
      exact ih (n - 1) _ (by omega) ⟨k + 1, by omega, by
        have h9 := (lv_sub hl [0, 1, 5, 6, 7, 8, 9] rfl)
        rw [pt_p_s, hQe, pt_s_P]; exact h9⟩
    · have h2 := n_lt h2 (by omega) (by omega)
      refine lv_iload hx hb d_Pattern_readText_46 (lv_at hl 4 rfl) ?_
      refine lv_iload hx hb d_Pattern_readText_48 (lv_at hl 0 rfl) ?_
      refine lv_iushr hx hb d_Pattern_readText_50 rfl ?_
      refine lv_iconst (v := 1) hx hb d_Pattern_readText_51 (by decide) ?_
      refine lv_iand hx hb d_Pattern_readText_52 ?_
      refine x_topi (y := bI (Q.testBit i)) (pl_bu _ hQ5 _ (by omega)) ?_
      refine lv_if_eq (tgt := 81) hx hb d_Pattern_readText_53 (by decide) (fun h3 => ?_) (fun h3 => ?_)
      · refine lv_iinc (k := 0) (v := nI (i + 1)) (lv' := [(12, .int (nI (i + 1))), (11, .int (nI (pl_c (pt_P y lo (tx_c wd k)) Q i))), (10, .int (tx_c wd k)), (9, .int (nI k)), (8, .int (nI Q)), (7, .int (nI (tx_n y))), (6, .int (nI (tx_n wd))), (1, .long wd), (3, .long y), (5, .int (bI lo))]) hx hb d_Pattern_readText_81 hl rfl (x_inc _) (by decide) rfl (fun ls hl => ?_)
        refine lv_goto (tgt := 39) hx hb d_Pattern_readText_84 (by decide) ?_
        exact ih2 (n2 - 1) _ (by omega) ⟨i + 1, by omega, by
          have h9 := (lv_sub hl [0, 1, 2, 3, 4, 5, 6, 7, 8, 9] rfl)
          rw [pl_c_f1 (bI_0.mp h3)]; exact h9⟩
      · refine lv_iload hx hb d_Pattern_readText_56 (lv_at hl 2 rfl) ?_
        refine lv_lload_n hx hb d_Pattern_readText_58 rfl (lv_at hl 8 rfl) ?_
        refine lv_iload hx hb d_Pattern_readText_59 (lv_at hl 0 rfl) ?_
        refine x_cp (k_Pattern_15 (As := [.long y, .int (nI i)]) (rest := [.int (tx_c wd k)]) hx hb hml hown hts (c_Text_charAt l D cA y i (by omega)) (x_preS hE trivial) rfl hl.1 rfl (Nat.le_of_ble_eq_true rfl) d_Pattern_readText_61 (by decide) ⟨Nat.zero_le _, Nat.zero_le _⟩) ?_
        refine lv_iload hx hb d_Pattern_readText_64 (lv_at hl 9 rfl) ?_
        refine x_cp (k_Pattern_52 (As := [.int (tx_c wd k), .int (tx_c y i), .int (bI lo)]) (rest := []) hx hb hml hown hts (c_Text_isAlike l D cA (tx_c wd k) (tx_c y i) lo) (x_preS hE trivial) rfl hl.1 rfl (Nat.le_of_ble_eq_true rfl) d_Pattern_readText_66 (by decide) ⟨Nat.zero_le _, Nat.zero_le _⟩) ?_
        refine lv_if_eq (tgt := 81) hx hb d_Pattern_readText_69 (by decide) (fun h4 => ?_) (fun h4 => ?_)
        · refine lv_iinc (k := 0) (v := nI (i + 1)) (lv' := [(12, .int (nI (i + 1))), (11, .int (nI (pl_c (pt_P y lo (tx_c wd k)) Q i))), (10, .int (tx_c wd k)), (9, .int (nI k)), (8, .int (nI Q)), (7, .int (nI (tx_n y))), (6, .int (nI (tx_n wd))), (1, .long wd), (3, .long y), (5, .int (bI lo))]) hx hb d_Pattern_readText_81 hl rfl (x_inc _) (by decide) rfl (fun ls hl => ?_)
          refine lv_goto (tgt := 39) hx hb d_Pattern_readText_84 (by decide) ?_
          exact ih2 (n2 - 1) _ (by omega) ⟨i + 1, by omega, by
            have h9 := (lv_sub hl [0, 1, 2, 3, 4, 5, 6, 7, 8, 9] rfl)
            rw [pl_c_f2 (bI_0.mp h4)]; exact h9⟩
        · refine lv_iload hx hb d_Pattern_readText_72 (lv_at hl 1 rfl) ?_
          refine lv_iconst (v := 2) hx hb d_Pattern_readText_74 (by decide) ?_
          refine lv_iload hx hb d_Pattern_readText_75 (lv_at hl 0 rfl) ?_
          refine lv_ishl hx hb d_Pattern_readText_77 ?_
          refine lv_ior hx hb d_Pattern_readText_78 ?_
          refine x_topi (y := nI (pl_c (pt_P y lo (tx_c wd k)) Q (i + 1))) (by rw [pl_s2 _ (by omega), nI_or, pl_c_t (bI_n0.mp h3) (bI_n0.mp h4)]) ?_
          refine lv_istore (lv' := [(11, .int (nI (pl_c (pt_P y lo (tx_c wd k)) Q (i + 1)))), (12, .int (nI i)), (10, .int (tx_c wd k)), (9, .int (nI k)), (8, .int (nI Q)), (7, .int (nI (tx_n y))), (6, .int (nI (tx_n wd))), (1, .long wd), (3, .long y), (5, .int (bI lo))]) hx hb d_Pattern_readText_79 hl (by decide) rfl (fun ls hl => ?_)
          refine lv_iinc (k := 1) (v := nI (i + 1)) (lv' := [(12, .int (nI (i + 1))), (11, .int (nI (pl_c (pt_P y lo (tx_c wd k)) Q (i + 1)))), (10, .int (tx_c wd k)), (9, .int (nI k)), (8, .int (nI Q)), (7, .int (nI (tx_n y))), (6, .int (nI (tx_n wd))), (1, .long wd), (3, .long y), (5, .int (bI lo))]) hx hb d_Pattern_readText_81 hl rfl (x_inc _) (by decide) rfl (fun ls hl => ?_)
          refine lv_goto (tgt := 39) hx hb d_Pattern_readText_84 (by decide) ?_
          exact ih2 (n2 - 1) _ (by omega) ⟨i + 1, by omega, (lv_sub hl [0, 1, 2, 3, 4, 5, 6, 7, 8, 9] rfl)⟩
set_option maxHeartbeats 4000000 in
set_option maxRecDepth 100000 in
theorem c_Pattern_fits (l : Launch) (D : va_G) (cA : Nat → ClassId) (v : Nat) (cnt : Nat → Int32) (row : Nat → Int64) (x y : Int64) (lo : Bool) : Met l y_Pattern_fits [.code y_Pattern_fits b_Pattern_fits 11 (some .boolean)] (x_rm 2 0 0) (x_P D cA [.long x, .long y, .int (bI lo), .ref v] (fun H => v_W D cA v cnt row H)) (x_Q (some (.int (bI (pt_m cnt row x y lo)))) (x_same)) 0 0 (fun _ => False) := by
  refine x_met (own := "DecisionLayers$Pattern") (by decide) rfl (Nat.le_of_ble_eq_true rfl) ?_
  intro pp ee s mm below mt cd ls hx hb hr hlk hnm hml hown hts hE hP hl
  have hl : lv_has ls 11 [(0, .long x), (2, .long y), (4, .int (bI lo)), (5, .ref v)] := hl
  refine lv_lload_n hx hb d_Pattern_fits_0 rfl (lv_at hl 0 rfl) ?_
  refine x_cp (k_Pattern_7 (As := [.long x]) (rest := []) hx hb hml hown hts (c_Text_length l D cA x) (x_preS hE trivial) rfl hl.1 rfl (Nat.le_of_ble_eq_true rfl) d_Pattern_fits_1 (by decide) ⟨Nat.zero_le _, Nat.zero_le _⟩) ?_
  refine lv_istore (lv' := [(6, .int (nI (tx_n x))), (0, .long x), (2, .long y), (4, .int (bI lo)), (5, .ref v)]) hx hb d_Pattern_fits_4 hl (by decide) rfl (fun ls hl => ?_)
  refine lv_iconst (v := 1) hx hb d_Pattern_fits_6 (by decide) ?_
  refine lv_istore (lv' := [(7, .int 1), (6, .int (nI (tx_n x))), (0, .long x), (2, .long y), (4, .int (bI lo)), (5, .ref v)]) hx hb d_Pattern_fits_7 hl (by decide) rfl (fun ls hl => ?_)
  refine lv_iconst (v := 0) hx hb d_Pattern_fits_9 (by decide) ?_
  refine lv_istore (lv' := [(8, .int 0), (7, .int 1), (6, .int (nI (tx_n x))), (0, .long x), (2, .long y), (4, .int (bI lo)), (5, .ref v)]) hx hb d_Pattern_fits_10 hl (by decide) rfl (fun ls hl => ?_)
  refine lv_iconst (v := 0) hx hb d_Pattern_fits_12 (by decide) ?_
  refine lv_istore (lv' := [(9, .int 0), (8, .int 0), (7, .int 1), (6, .int (nI (tx_n x))), (0, .long x), (2, .long y), (4, .int (bI lo)), (5, .ref v)]) hx hb d_Pattern_fits_13 hl (by decide) rfl (fun ls hl => ?_)
  have hy8 := tx_le y
  have hx8 := tx_le x
  refine x_loop (I := fun n ls => ∃ (i : Nat) (b : Bool) (q : Nat), i + n = tx_n x ∧ q < 2 ^ (tx_n y + 1) ∧ (b = false → pt_m cnt row x y lo = pt_o y lo (pt_k cnt row x n) q) ∧ (b = true → ∃ i1 : Nat, i = i1 + 1 ∧ tx_c x i1 = 36 ∧ pt_m cnt row x y lo = pt_o y lo (pt_k cnt row x (n + 1)) q) ∧ lv_has ls 11 [(9, .int (nI i)), (8, .int (bI b)), (7, .int (nI q)), (6, .int (nI (tx_n x))), (0, .long x), (2, .long y), (4, .int (bI lo)), (5, .ref v)]) (fun n ls ih h => ?_) (tx_n x) ⟨0, false, 1, by omega, Nat.one_lt_two_pow (by omega), fun _ => pt_m_o cnt row x y lo, (fun h => by cases h), (lv_sub hl [0, 1, 2, 3, 4, 5, 6, 7] rfl)⟩
  obtain ⟨i, b, q, hi, hq, hf, ht, hl⟩ := h
  refine lv_iload hx hb d_Pattern_fits_15 (lv_at hl 0 rfl) ?_
  refine lv_iload hx hb d_Pattern_fits_17 (lv_at hl 3 rfl) ?_
  refine lv_icmp_ge (tgt := 138) hx hb d_Pattern_fits_19 (by decide) (fun h1 => ?_) (fun h1 => ?_)
  · have h1 := n_ge h1 (by omega) (by omega)
    have hn : n = 0 := by omega
    subst hn
    refine lv_iload hx hb d_Pattern_fits_138 (lv_at hl 1 rfl) ?_
    refine lv_if_ne (tgt := 159) hx hb d_Pattern_fits_140 (by decide) (fun h2 => ?_) (fun h2 => ?_)
    · obtain ⟨i1, e1, e2, e3⟩ := ht (bI_n0.mp h2)
      refine lv_iconst (v := 0) hx hb d_Pattern_fits_159 (by decide) ?_
      refine x_topi (y := bI (pt_m cnt row x y lo)) (by rw [e3, pt_k_e (i := i1) (by omega) e2]; rfl) ?_
      exact W.zret (ty := .boolean) hx hb hr (bI_z _) (fun t ht hW => ⟨rfl, ht⟩) (fun q h => by cases h) d_Pattern_fits_160
    · have hf := hf (bI_0.mp h2)
      refine lv_iload hx hb d_Pattern_fits_143 (lv_at hl 2 rfl) ?_
      refine lv_lload_n hx hb d_Pattern_fits_145 rfl (lv_at hl 5 rfl) ?_
      refine x_cp (k_Pattern_7 (As := [.long y]) (rest := [.int (nI q)]) hx hb hml hown hts (c_Text_length l D cA y) (x_preS hE trivial) rfl hl.1 rfl (Nat.le_of_ble_eq_true rfl) d_Pattern_fits_146 (by decide) ⟨Nat.zero_le _, Nat.zero_le _⟩) ?_
      refine lv_iushr hx hb d_Pattern_fits_149 rfl ?_
      refine lv_iconst (v := 1) hx hb d_Pattern_fits_150 (by decide) ?_
      refine lv_iand hx hb d_Pattern_fits_151 ?_
      refine x_topi (y := bI (q.testBit (tx_n y))) (pl_bu _ (pl_512 hy8 hq) _ (by omega)) ?_
      refine lv_if_eq (tgt := 159) hx hb d_Pattern_fits_152 (by decide) (fun h3 => ?_) (fun h3 => ?_)
      · refine lv_iconst (v := 0) hx hb d_Pattern_fits_159 (by decide) ?_
        refine x_topi (y := bI (pt_m cnt row x y lo)) (by rw [hf]; exact (congrArg bI (show pt_o y lo (some []) q = false from bI_0.mp h3)).symm) ?_
        exact W.zret (ty := .boolean) hx hb hr (bI_z _) (fun t ht hW => ⟨rfl, ht⟩) (fun q h => by cases h) d_Pattern_fits_160
      · refine lv_iconst (v := 1) hx hb d_Pattern_fits_155 (by decide) ?_
        refine lv_goto (tgt := 160) hx hb d_Pattern_fits_156 (by decide) ?_
        refine x_topi (y := bI (pt_m cnt row x y lo)) (by rw [hf]; exact (congrArg bI (show pt_o y lo (some []) q = true from bI_n0.mp h3)).symm) ?_
        exact W.zret (ty := .boolean) hx hb hr (bI_z _) (fun t ht hW => ⟨rfl, ht⟩) (fun q h => by cases h) d_Pattern_fits_160
  · have h1 := n_lt h1 (by omega) (by omega)
    obtain ⟨r, rfl⟩ : ∃ r, n = r + 1 := ⟨n - 1, by omega⟩
    obtain ⟨j, hj, hj0, hc⟩ := tx_c_pos h1
    refine lv_lload_n hx hb d_Pattern_fits_22 rfl (lv_at hl 4 rfl) ?_
    refine lv_iload hx hb d_Pattern_fits_23 (lv_at hl 0 rfl) ?_
    refine x_cp (k_Pattern_15 (As := [.long x, .int (nI i)]) (rest := []) hx hb hml hown hts (c_Text_charAt l D cA x i (by omega)) (x_preS hE trivial) rfl hl.1 rfl (Nat.le_of_ble_eq_true rfl) d_Pattern_fits_25 (by decide) ⟨Nat.zero_le _, Nat.zero_le _⟩) ?_
    refine lv_istore (lv' := [(10, .int (tx_c x i)), (9, .int (nI i)), (8, .int (bI b)), (7, .int (nI q)), (6, .int (nI (tx_n x))), (0, .long x), (2, .long y), (4, .int (bI lo)), (5, .ref v)]) hx hb d_Pattern_fits_28 hl (by decide) rfl (fun ls hl => ?_)
    refine lv_iload hx hb d_Pattern_fits_30 (lv_at hl 2 rfl) ?_
    refine lv_if_eq (tgt := 70) hx hb d_Pattern_fits_32 (by decide) (fun h2 => ?_) (fun h2 => ?_)
    · have hb0 := bI_0.mp h2
      have hf1 := hf hb0
      refine lv_iload hx hb d_Pattern_fits_70 (lv_at hl 0 rfl) ?_
      refine lv_bipush (v := 36) hx hb d_Pattern_fits_72 (by decide) ?_
      refine lv_icmp_ne (tgt := 83) hx hb d_Pattern_fits_74 (by decide) (fun h3 => ?_) (fun h3 => ?_)
      · rw [pt_o_t (i := i) (by omega) h3] at hf1
        refine lv_iload hx hb d_Pattern_fits_83 (lv_at hl 0 rfl) ?_
        refine lv_bipush (v := 42) hx hb d_Pattern_fits_85 (by decide) ?_
        refine lv_icmp_ne (tgt := 101) hx hb d_Pattern_fits_87 (by decide) (fun h4 => ?_) (fun h4 => ?_)
        · subst hb0
          refine lv_iload hx hb d_Pattern_fits_101 (lv_at hl 0 rfl) ?_
          refine lv_bipush (v := 63) hx hb d_Pattern_fits_103 (by decide) ?_
          refine lv_icmp_ne (tgt := 119) hx hb d_Pattern_fits_105 (by decide) (fun h5 => ?_) (fun h5 => ?_)
          · refine lv_iload hx hb d_Pattern_fits_119 (lv_at hl 3 rfl) ?_
            refine lv_iload hx hb d_Pattern_fits_121 (lv_at hl 0 rfl) ?_
            refine lv_i2l hx hb d_Pattern_fits_123 rfl ?_
            refine lv_lload_n hx hb d_Pattern_fits_124 rfl (lv_at hl 6 rfl) ?_
            refine lv_iload hx hb d_Pattern_fits_125 (lv_at hl 7 rfl) ?_
            refine x_cp (k_Pattern_27 (As := [.int (nI q), .long ((tx_c x i).toInt64), .long y, .int (bI lo)]) (rest := []) hx hb hml hown hts (c_Pattern_readText l D cA (tx_c x i).toInt64 y lo q hq) (x_preS hE trivial) rfl hl.1 rfl (Nat.le_of_ble_eq_true rfl) d_Pattern_fits_127 (by decide) ⟨Nat.zero_le _, Nat.zero_le _⟩) ?_
            refine lv_istore (lv' := [(7, .int (nI (pt_r y lo (pt_v (tx_c x i).toInt64) q))), (10, .int (tx_c x i)), (9, .int (nI i)), (8, .int (bI false)), (6, .int (nI (tx_n x))), (0, .long x), (2, .long y), (4, .int (bI lo)), (5, .ref v)]) hx hb d_Pattern_fits_130 hl (by decide) rfl (fun ls hl => ?_)
            refine lv_iinc (k := 2) (v := nI (i + 1)) (lv' := [(9, .int (nI (i + 1))), (7, .int (nI (pt_r y lo (pt_v (tx_c x i).toInt64) q))), (10, .int (tx_c x i)), (8, .int (bI false)), (6, .int (nI (tx_n x))), (0, .long x), (2, .long y), (4, .int (bI lo)), (5, .ref v)]) hx hb d_Pattern_fits_132 hl rfl (x_inc _) (by decide) rfl (fun ls hl => ?_)
            refine lv_goto (tgt := 15) hx hb d_Pattern_fits_135 (by decide) ?_
            exact ih r _ (by omega) ⟨i + 1, false, pt_r y lo (pt_v (tx_c x i).toInt64) q, by omega, pt_r_lt _ _ _ hq, fun _ => by rw [hf1, pt_t_n h4 h5, pt_v_1 hj hj0 hc]; rfl, (fun h => by cases h), (lv_sub hl [0, 3, 1, 4, 5, 6, 7, 8] rfl)⟩
          · refine lv_iload hx hb d_Pattern_fits_108 (lv_at hl 3 rfl) ?_
            refine lv_lload_n hx hb d_Pattern_fits_110 rfl (lv_at hl 6 rfl) ?_
            refine x_cp (k_Pattern_35 (As := [.int (nI q), .long y]) (rest := []) hx hb hml hown hts (c_Pattern_readAnyOne l D cA y q hq) (x_preS hE trivial) rfl hl.1 rfl (Nat.le_of_ble_eq_true rfl) d_Pattern_fits_111 (by decide) ⟨Nat.zero_le _, Nat.zero_le _⟩) ?_
            refine lv_istore (lv' := [(7, .int (nI (pl_c (fun _ => true) q (tx_n y)))), (10, .int (tx_c x i)), (9, .int (nI i)), (8, .int (bI false)), (6, .int (nI (tx_n x))), (0, .long x), (2, .long y), (4, .int (bI lo)), (5, .ref v)]) hx hb d_Pattern_fits_114 hl (by decide) rfl (fun ls hl => ?_)
            refine lv_goto (tgt := 132) hx hb d_Pattern_fits_116 (by decide) ?_
            refine lv_iinc (k := 2) (v := nI (i + 1)) (lv' := [(9, .int (nI (i + 1))), (7, .int (nI (pl_c (fun _ => true) q (tx_n y)))), (10, .int (tx_c x i)), (8, .int (bI false)), (6, .int (nI (tx_n x))), (0, .long x), (2, .long y), (4, .int (bI lo)), (5, .ref v)]) hx hb d_Pattern_fits_132 hl rfl (x_inc _) (by decide) rfl (fun ls hl => ?_)
            refine lv_goto (tgt := 15) hx hb d_Pattern_fits_135 (by decide) ?_
            exact ih r _ (by omega) ⟨i + 1, false, pl_c (fun _ => true) q (tx_n y), by omega, pl_c_lt _ _ _, fun _ => by rw [hf1, h5]; exact congrArg _ (pt_s_one y lo q), (fun h => by cases h), (lv_sub hl [0, 3, 1, 4, 5, 6, 7, 8] rfl)⟩
        · subst hb0
          refine lv_iload hx hb d_Pattern_fits_90 (lv_at hl 3 rfl) ?_
          refine lv_lload_n hx hb d_Pattern_fits_92 rfl (lv_at hl 6 rfl) ?_
          refine x_cp (k_Pattern_31 (As := [.int (nI q), .long y]) (rest := []) hx hb hml hown hts (c_Pattern_readAnyRow l D cA y q hq) (x_preS hE trivial) rfl hl.1 rfl (Nat.le_of_ble_eq_true rfl) d_Pattern_fits_93 (by decide) ⟨Nat.zero_le _, Nat.zero_le _⟩) ?_
          refine lv_istore (lv' := [(7, .int (nI (pl_s (tx_n y) q (tx_n y + 1)))), (10, .int (tx_c x i)), (9, .int (nI i)), (8, .int (bI false)), (6, .int (nI (tx_n x))), (0, .long x), (2, .long y), (4, .int (bI lo)), (5, .ref v)]) hx hb d_Pattern_fits_96 hl (by decide) rfl (fun ls hl => ?_)
          refine lv_goto (tgt := 132) hx hb d_Pattern_fits_98 (by decide) ?_
          refine lv_iinc (k := 2) (v := nI (i + 1)) (lv' := [(9, .int (nI (i + 1))), (7, .int (nI (pl_s (tx_n y) q (tx_n y + 1)))), (10, .int (tx_c x i)), (8, .int (bI false)), (6, .int (nI (tx_n x))), (0, .long x), (2, .long y), (4, .int (bI lo)), (5, .ref v)]) hx hb d_Pattern_fits_132 hl rfl (x_inc _) (by decide) rfl (fun ls hl => ?_)
          refine lv_goto (tgt := 15) hx hb d_Pattern_fits_135 (by decide) ?_
          exact ih r _ (by omega) ⟨i + 1, false, pl_s (tx_n y) q (tx_n y + 1), by omega, pl_s_lt _, fun _ => by rw [hf1, h4]; exact congrArg _ (pt_s_any y lo q), (fun h => by cases h), (lv_sub hl [0, 3, 1, 4, 5, 6, 7, 8] rfl)⟩
      · refine lv_iconst (v := 1) hx hb d_Pattern_fits_77 (by decide) ?_
        refine lv_istore (lv' := [(8, .int 1), (10, .int (tx_c x i)), (9, .int (nI i)), (7, .int (nI q)), (6, .int (nI (tx_n x))), (0, .long x), (2, .long y), (4, .int (bI lo)), (5, .ref v)]) hx hb d_Pattern_fits_78 hl (by decide) rfl (fun ls hl => ?_)
        refine lv_goto (tgt := 132) hx hb d_Pattern_fits_80 (by decide) ?_
        refine lv_iinc (k := 2) (v := nI (i + 1)) (lv' := [(9, .int (nI (i + 1))), (8, .int 1), (10, .int (tx_c x i)), (7, .int (nI q)), (6, .int (nI (tx_n x))), (0, .long x), (2, .long y), (4, .int (bI lo)), (5, .ref v)]) hx hb d_Pattern_fits_132 hl rfl (x_inc _) (by decide) rfl (fun ls hl => ?_)
        refine lv_goto (tgt := 15) hx hb d_Pattern_fits_135 (by decide) ?_
        exact ih r _ (by omega) ⟨i + 1, true, q, by omega, hq, (fun h => by cases h), fun _ => ⟨i, rfl, h3, hf1⟩, (lv_sub hl [0, 1, 3, 4, 5, 6, 7, 8] rfl)⟩
    · have hb1 := bI_n0.mp h2
      obtain ⟨i1, rfl, e2, e3⟩ := ht hb1
      subst hb1
      refine lv_iload hx hb d_Pattern_fits_35 (lv_at hl 0 rfl) ?_
      refine lv_aload hx hb d_Pattern_fits_37 (lv_at hl 8 rfl) ?_
      refine x_cp (k_Pattern_19 (As := [.int (tx_c x (i1 + 1)), .ref v]) (rest := []) hx hb hml hown hts (c_Pattern_meansSomething l D cA v cnt row (tx_c x (i1 + 1))) (x_preS hE hP) rfl hl.1 rfl (Nat.le_of_ble_eq_true rfl) d_Pattern_fits_39 (by decide) ⟨Nat.zero_le _, Nat.zero_le _⟩) ?_
      refine lv_if_ne (tgt := 47) hx hb d_Pattern_fits_42 (by decide) (fun h3 => ?_) (fun h3 => ?_)
      · have h3 := bI_n0.mp h3
        refine lv_iload hx hb d_Pattern_fits_47 (lv_at hl 3 rfl) ?_
        refine lv_iload hx hb d_Pattern_fits_49 (lv_at hl 0 rfl) ?_
        refine lv_aload hx hb d_Pattern_fits_51 (lv_at hl 8 rfl) ?_
        refine x_cp (k_Pattern_23 (As := [.int (tx_c x (i1 + 1)), .ref v]) (rest := [.int (nI q)]) hx hb hml hown hts (c_Pattern_meaning l D cA v cnt row (tx_c x (i1 + 1)) (pt_y_1 h3)) (x_preS hE hP) rfl hl.1 rfl (Nat.le_of_ble_eq_true rfl) d_Pattern_fits_53 (by decide) ⟨Nat.zero_le _, Nat.zero_le _⟩) ?_
        refine lv_lload_n hx hb d_Pattern_fits_56 rfl (lv_at hl 6 rfl) ?_
        refine lv_iload hx hb d_Pattern_fits_57 (lv_at hl 7 rfl) ?_
        refine x_cp (k_Pattern_27 (As := [.int (nI q), .long (pt_w row (tx_c x (i1 + 1))), .long y, .int (bI lo)]) (rest := []) hx hb hml hown hts (c_Pattern_readText l D cA (pt_w row (tx_c x (i1 + 1))) y lo q hq) (x_preS hE trivial) rfl hl.1 rfl (Nat.le_of_ble_eq_true rfl) d_Pattern_fits_59 (by decide) ⟨Nat.zero_le _, Nat.zero_le _⟩) ?_
        refine lv_istore (lv' := [(7, .int (nI (pt_r y lo (pt_v (pt_w row (tx_c x (i1 + 1)))) q))), (10, .int (tx_c x (i1 + 1))), (9, .int (nI (i1 + 1))), (8, .int (bI true)), (6, .int (nI (tx_n x))), (0, .long x), (2, .long y), (4, .int (bI lo)), (5, .ref v)]) hx hb d_Pattern_fits_62 hl (by decide) rfl (fun ls hl => ?_)
        refine lv_iconst (v := 0) hx hb d_Pattern_fits_64 (by decide) ?_
        refine lv_istore (lv' := [(8, .int 0), (7, .int (nI (pt_r y lo (pt_v (pt_w row (tx_c x (i1 + 1)))) q))), (10, .int (tx_c x (i1 + 1))), (9, .int (nI (i1 + 1))), (6, .int (nI (tx_n x))), (0, .long x), (2, .long y), (4, .int (bI lo)), (5, .ref v)]) hx hb d_Pattern_fits_65 hl (by decide) rfl (fun ls hl => ?_)
        refine lv_goto (tgt := 132) hx hb d_Pattern_fits_67 (by decide) ?_
        refine lv_iinc (k := 3) (v := nI ((i1 + 1) + 1)) (lv' := [(9, .int (nI ((i1 + 1) + 1))), (8, .int 0), (7, .int (nI (pt_r y lo (pt_v (pt_w row (tx_c x (i1 + 1)))) q))), (10, .int (tx_c x (i1 + 1))), (6, .int (nI (tx_n x))), (0, .long x), (2, .long y), (4, .int (bI lo)), (5, .ref v)]) hx hb d_Pattern_fits_132 hl rfl (x_inc _) (by decide) rfl (fun ls hl => ?_)
        refine lv_goto (tgt := 15) hx hb d_Pattern_fits_135 (by decide) ?_
        exact ih r _ (by omega) ⟨i1 + 1 + 1, false, pt_r y lo (pt_v (pt_w row (tx_c x (i1 + 1)))) q, by omega, pt_r_lt _ _ _ hq, fun _ => by rw [e3, pt_o_d (i := i1) (by omega) e2 hj hj0 hc h3], (fun h => by cases h), (lv_sub hl [0, 1, 2, 4, 5, 6, 7, 8] rfl)⟩
      · refine lv_iconst (v := 0) hx hb d_Pattern_fits_45 (by decide) ?_
        refine x_topi (y := bI (pt_m cnt row x y lo)) (by rw [e3, pt_o_dn (i := i1) (by omega) e2 (bI_0.mp h3)]; rfl) ?_
        exact W.zret (ty := .boolean) hx hb hr (bI_z _) (fun t ht hW => ⟨rfl, ht⟩) (fun q h => by cases h) d_Pattern_fits_46
end
section
/-! tests and trees of conditions -/
/-- the number of leading bits that a prefix test compares -/
def cn_q (t : Int64) : Nat := (t.toBitVec.toNat / 2 ^ 32) % 64
def cn_b (x : Int64) (k : Nat) : Bool := x.toBitVec.toNat.testBit k
def cn_p (v t : Int64) : Bool := decide (∀ k, k < min 32 (cn_q t) → cn_b v (31 - k) = cn_b t (31 - k))
/-- what an operator answers -/
def cn_a (cnt : Nat → Int32) (row : Nat → Int64) (o : Nat) (v t : Int64) : Bool := match o with
  | 0 => decide (v = t)
  | 1 => tx_same v t
  | 2 => pt_m cnt row t v false
  | 3 => decide (v < t)
  | 4 => decide (v ≤ t)
  | 5 => cn_p v t
  | _ => decide (v = 0) == decide (t = 0)
/-- a test: operator o, key k, t, marks mk; c values -/
def cn_t (cnt : Nat → Int32) (row : Nat → Int64) (o k : Nat) (t : Int64) (mk : Nat) : Bool :=
  if o = 7 then ((decide (cnt k = 0) == decide (t ≠ 0)) != mk.testBit 0)
  else if cnt k = 0 then decide (mk ≠ 0)
  else if mk.testBit 2 then decide (∀ i, i < (cnt k).toNatClampNeg → (cn_a cnt row o (row (4 * k + i)) t != mk.testBit 0) = true)
  else decide (∃ i, i < (cnt k).toNatClampNeg ∧ (cn_a cnt row o (row (4 * k + i)) t != mk.testBit 0) = true)
/-! prefixes, marks, trees: what the class computes -/
theorem cn_shr (t : Int64) (x : UInt64) (n : Nat) (hx : x.toNat % 64 = n) : (t.toUInt64 >>> x).toInt64 = 0 ↔ t.toBitVec.toNat < 2 ^ n := by
  rw [← Int64.toBitVec_inj, ← BitVec.toNat_inj]
  show (t.toUInt64 >>> x).toNat = 0 ↔ t.toUInt64.toNat < 2 ^ n
  rw [UInt64.toNat_shiftRight, hx, Nat.shiftRight_eq_div_pow]
  constructor
  · intro h
    have d : t.toUInt64.toNat / 2 ^ n < 1 := by
      rw [h]
      decide
    have e := (Nat.div_lt_iff_lt_mul (Nat.two_pow_pos n)).mp d
    rw [Nat.one_mul] at e
    exact e
  · exact Nat.div_eq_of_lt
theorem cn_sh64 : ∀ k, k < 64 → ((nI k).toInt64.toUInt64 &&& Int64.toUInt64 63).toNat % 64 = k := by decide +kernel
theorem cn_q_e (t : Int64) : (t.toUInt64 >>> ((32 : Int32).toInt64.toUInt64 &&& Int64.toUInt64 63)).toInt64.toInt32 &&& 63 = nI (cn_q t) := by
  rw [pk_and _ 6 (by decide)]
  have e1 : (t.toUInt64 >>> ((32 : Int32).toInt64.toUInt64 &&& Int64.toUInt64 63)).toInt64.toBitVec.toNat = t.toBitVec.toNat / 2 ^ 32 := by
    show (t.toUInt64 >>> ((32 : Int32).toInt64.toUInt64 &&& Int64.toUInt64 63)).toNat = t.toUInt64.toNat / 2 ^ 32
    rw [UInt64.toNat_shiftRight, show ((32 : Int32).toInt64.toUInt64 &&& Int64.toUInt64 63).toNat % 64 = 32 by decide, Nat.shiftRight_eq_div_pow]
  congr 1
  rw [Int64.toBitVec_toInt32, BitVec.signExtend_eq_setWidth_of_le _ (by decide), BitVec.toNat_setWidth, e1]
  unfold cn_q
  omega
theorem cn_xor (a b s : Nat) : (a ^^^ b) % 2 ^ 32 < 2 ^ s ↔ ∀ i, s ≤ i → i < 32 → a.testBit i = b.testBit i := by
  constructor
  · intro h i h1 h2
    have h3 : ((a ^^^ b) % 2 ^ 32).testBit i = false := Nat.testBit_lt_two_pow (Nat.lt_of_lt_of_le h (Nat.pow_le_pow_right (by omega) h1))
    rw [Nat.testBit_mod_two_pow, decide_eq_true h2, Bool.true_and, Nat.testBit_xor] at h3
    cases ha : a.testBit i <;> cases hb : b.testBit i <;> rw [ha, hb] at h3 <;> first | rfl | exact absurd h3 (by decide)
  · intro h
    apply Nat.lt_pow_two_of_testBit
    intro i hi
    rw [Nat.testBit_mod_two_pow, Nat.testBit_xor]
    by_cases h2 : i < 32
    · rw [h i hi h2]; simp
    · rw [decide_eq_false h2, Bool.false_and]
theorem cn_low (v t : Int64) : ((v ^^^ t) &&& 4294967295).toBitVec.toNat = (v.toBitVec.toNat ^^^ t.toBitVec.toNat) % 2 ^ 32 := by
  rw [Int64.toBitVec_and, BitVec.toNat_and, Int64.toBitVec_xor, BitVec.toNat_xor]
  exact Nat.and_two_pow_sub_one_eq_mod _ 32
theorem cn_p_e (v t : Int64) : (((v ^^^ t) &&& 4294967295).toUInt64 >>> (((32 : Int32) - nI (min (cn_q t) 32)).toInt64.toUInt64 &&& Int64.toUInt64 63)).toInt64 = 0 ↔ cn_p v t = true := by
  have hb : min (cn_q t) 32 ≤ 32 := Nat.min_le_right _ _
  rw [show (32 : Int32) = nI 32 from rfl, pk_sub hb, cn_shr _ _ _ (cn_sh64 _ (by omega)), cn_low, cn_xor]
  unfold cn_p cn_b
  rw [decide_eq_true_iff]
  constructor
  · intro h k h1
    exact h (31 - k) (by omega) (by omega)
  · intro h i h1 h2
    have := h (31 - i) (by omega)
    rw [show 31 - (31 - i) = i by omega] at this
    exact this
theorem cn_min (q : Nat) (hq : q < 64) : (if (32 : Int32) < nI q then (32 : Int32) else nI q) = nI (min q 32) := by
  by_cases h : 32 < q
  · rw [if_pos (show (32 : Int32) < nI q from (nI_ltI (by decide) (by omega) : nI 32 < nI q ↔ 32 < q).mpr h), Nat.min_eq_right (by omega)]; rfl
  · rw [if_neg (show ¬ (32 : Int32) < nI q from fun z => h ((nI_ltI (by decide) (by omega) : nI 32 < nI q ↔ 32 < q).mp z)), Nat.min_eq_left (by omega)]
theorem cn_q_lt (t : Int64) : cn_q t < 64 := Nat.mod_lt _ (by decide)
theorem mk_1 : ∀ k, k < 16 → (nI k &&& 1) = bI (k.testBit 0) := by decide +kernel
theorem mk_4 : ∀ k, k < 16 → ((nI k &&& 4) = 0 ↔ k.testBit 2 = false) := by decide +kernel
theorem mk_2 : ∀ k, k < 16 → ((nI k &&& 2) = 0 ↔ k.testBit 1 = false) := by decide +kernel
/-! the table of the conditions: kind (3 a test; 0, 1, 2 all, any, not), operator, key, t, marks, depth, parts, address -/
abbrev n_T : Type := (Nat → Nat) × (Nat → Nat) × (Nat → Nat) × (Nat → Int64) × (Nat → Nat) × (Nat → Nat) × (Nat → List Nat) × (Nat → Nat)
abbrev n_kd (N : n_T) : Nat → Nat := N.1
abbrev n_op (N : n_T) : Nat → Nat := N.2.1
abbrev n_ky (N : n_T) : Nat → Nat := N.2.2.1
abbrev n_tt (N : n_T) : Nat → Int64 := N.2.2.2.1
abbrev n_mk (N : n_T) : Nat → Nat := N.2.2.2.2.1
abbrev n_dp (N : n_T) : Nat → Nat := N.2.2.2.2.2.1
abbrev n_ch (N : n_T) : Nat → List Nat := N.2.2.2.2.2.2.1
abbrev n_ad (N : n_T) : Nat → Nat := N.2.2.2.2.2.2.2
def n_j (hv : Nat → Bool) (k : Nat) (l : List Nat) : Bool := if k = 0 then l.all hv else if k = 1 then l.any hv else !l.any hv
/-- hv: which conditions hold -/
def n_V (cnt : Nat → Int32) (row : Nat → Int64) (made : Nat) (N : n_T) (hv : Nat → Bool) : Prop := ∀ i, i < made → hv i = if n_kd N i = 3 then cn_t cnt row (n_op N i) (n_ky N i) (n_tt N i) (n_mk N i) else n_j hv (n_kd N i) (n_ch N i)
def n_ok (made : Nat) (N : n_T) : Prop := ∀ i, i < made → n_kd N i ≤ 3 ∧ 1 ≤ n_dp N i ∧ n_dp N i ≤ 5 ∧ (n_kd N i = 3 → n_op N i < 8 ∧ n_ky N i < 8 ∧ n_mk N i < 8) ∧ (n_kd N i ≠ 3 → (n_ch N i).length ≤ 8 ∧ ∀ c ∈ n_ch N i, c < i ∧ n_dp N c < n_dp N i)
theorem n_fin {hv : Nat → Bool} {k : Nat} {l : List Nat} (hk : k < 3) (h : ∀ c ∈ l, hv c = decide (k = 0)) : n_j hv k l = decide (¬ k = 1) := by
  unfold n_j
  rcases (show k = 0 ∨ k = 1 ∨ k = 2 by omega) with rfl | rfl | rfl
  · rw [if_pos rfl]; simp; intro x hx; exact (h x hx)
  · rw [if_neg (by decide), if_pos rfl]; simp; intro x hx; have := h x hx; simpa using this
  · rw [if_neg (by decide), if_neg (by decide)]; simp; intro x hx; have := h x hx; simpa using this
theorem n_set {hv : Nat → Bool} {k c : Nat} {l : List Nat} (hk : k < 3) (hc : c ∈ l) (h : hv c = decide (¬ k = 0)) : n_j hv k l = decide (k = 1) := by
  unfold n_j
  rcases (show k = 0 ∨ k = 1 ∨ k = 2 by omega) with rfl | rfl | rfl
  · rw [if_pos rfl]; simp; exact ⟨c, hc, by simpa using h⟩
  · rw [if_neg (by decide), if_pos rfl]; simp; exact ⟨c, hc, by simpa using h⟩
  · rw [if_neg (by decide), if_neg (by decide)]; simp; exact ⟨c, hc, by simpa using h⟩
/-- the cells of the conditions -/
def n_W (D : va_G) (cA : Nat → ClassId) (made : Nat) (N : n_T) (H : Heap) : Prop := ∀ i, i < made →
  (n_kd N i = 3 → va_at D x_cl (n_ad N i, .inr (3, [.int (nI (n_dp N i)), .int (nI (n_op N i)), .int (nI (n_ky N i)), .long (n_tt N i), .int (nI (n_mk N i))])) H) ∧
  (n_kd N i ≠ 3 → va_at D x_cl (n_ad N i, .inr (4, [.int (nI (n_dp N i)), .int (nI (n_kd N i)), .ref (n_ad N i - 1)])) H ∧ va_at D x_cl (n_ad N i - 1, .inl (cA 4, (n_ch N i).length, .inr (.inr (.inr (.inr (fun j => ((n_ch N i)[j]?).map (n_ad N))))))) H)
end
section
set_option maxHeartbeats 4000000 in
set_option maxRecDepth 100000 in
theorem c_Test_hasPrefix (l : Launch) (D : va_G) (cA : Nat → ClassId) (a : Nat) (d : Int32) (o k : Nat) (t : Int64) (mk : Nat) (x : Int64) : Met l y_Test_hasPrefix [.code y_Test_hasPrefix b_Test_hasPrefix 6 (some .boolean)] (x_rm 1 0 0) (x_P D cA [.ref a, .long x] (fun H => va_at D x_cl (a, .inr (3, [.int d, .int (nI o), .int (nI k), .long t, .int (nI mk)])) H)) (x_Q (some (.int (bI (cn_p x t)))) (x_same)) 0 0 (fun _ => False) := by
  refine x_met (own := "DecisionLayers$Test") (by decide) rfl (Nat.le_of_ble_eq_true rfl) ?_
  intro pp ee s mm below mt cd ls hx hb hr hlk hnm hml hown hts hE hP hl
  have hl : lv_has ls 6 [(0, .ref a), (1, .long x)] := hl
  refine lv_aload_n hx hb d_Test_hasPrefix_0 rfl (lv_at hl 0 rfl) ?_
  refine fg_Test_16_Test hx hb hown hts hE hP rfl d_Test_hasPrefix_1 ?_
  refine lv_bipush (v := 32) hx hb d_Test_hasPrefix_4 (by decide) ?_
  refine lv_lushr hx hb d_Test_hasPrefix_6 rfl ?_
  refine lv_l2i hx hb d_Test_hasPrefix_7 rfl ?_
  refine lv_bipush (v := 63) hx hb d_Test_hasPrefix_8 (by decide) ?_
  refine lv_iand hx hb d_Test_hasPrefix_10 ?_
  refine x_topi (y := nI (cn_q t)) (cn_q_e t) ?_
  refine lv_bipush (v := 32) hx hb d_Test_hasPrefix_11 (by decide) ?_
  refine va_mmin hx hb (by rw [hml]; exact hl.1.symm) hown (hts _ w_2_80) (hts _ w_2_81) (hts _ w_1_8) (hts _ w_2_82) (Nat.le_refl _) (Nat.le_of_ble_eq_true rfl) (Nat.zero_le _) (Nat.zero_le _) d_Test_hasPrefix_13 ?_
  refine x_topi (y := nI (min (cn_q t) 32)) (cn_min _ (cn_q_lt t)) ?_
  refine lv_istore_n (lv' := [(3, .int (nI (min (cn_q t) 32))), (0, .ref a), (1, .long x)]) hx hb d_Test_hasPrefix_16 rfl hl (by decide) rfl (fun ls hl => ?_)
  refine lv_lload_n hx hb d_Test_hasPrefix_17 rfl (lv_at hl 2 rfl) ?_
  refine lv_aload_n hx hb d_Test_hasPrefix_18 rfl (lv_at hl 1 rfl) ?_
  refine fg_Test_16_Test hx hb hown hts hE hP rfl d_Test_hasPrefix_19 ?_
  refine lv_lxor hx hb d_Test_hasPrefix_22 ?_
  refine lv_ldc2 hx hb hown (hts _ w_2_83) d_Test_hasPrefix_23 ?_
  refine lv_land hx hb d_Test_hasPrefix_26 ?_
  refine lv_lstore (lv' := [(4, .long ((x ^^^ t) &&& 4294967295)), (3, .int (nI (min (cn_q t) 32))), (0, .ref a), (1, .long x)]) hx hb d_Test_hasPrefix_27 hl (by decide) rfl (fun ls hl => ?_)
  refine lv_lload hx hb d_Test_hasPrefix_29 (lv_at hl 0 rfl) ?_
  refine lv_bipush (v := 32) hx hb d_Test_hasPrefix_31 (by decide) ?_
  refine lv_iload_n hx hb d_Test_hasPrefix_33 rfl (lv_at hl 1 rfl) ?_
  refine lv_isub hx hb d_Test_hasPrefix_34 ?_
  refine lv_lushr hx hb d_Test_hasPrefix_35 rfl ?_
  refine lv_lconst (v := 0) hx hb d_Test_hasPrefix_36 (by decide) ?_
  refine W.lcmp hx hb d_Test_hasPrefix_37 ?_
  refine lv_if_ne (tgt := 45) hx hb d_Test_hasPrefix_38 (by decide) (fun h1 => ?_) (fun h1 => ?_)
  · refine lv_iconst (v := 0) hx hb d_Test_hasPrefix_45 (by decide) ?_
    refine x_topi (y := bI (cn_p x t)) (by rw [show cn_p x t = false from Bool.not_eq_true _ ▸ (fun z => h1 ((lg_cmp_eq _ _).mpr ((cn_p_e x t).mpr z)))]; rfl) ?_
    exact W.zret (ty := .boolean) hx hb hr (bI_z _) (fun t ht hW => ⟨rfl, ht⟩) (fun q h => by cases h) d_Test_hasPrefix_46
  · refine lv_iconst (v := 1) hx hb d_Test_hasPrefix_41 (by decide) ?_
    refine lv_goto (tgt := 46) hx hb d_Test_hasPrefix_42 (by decide) ?_
    refine x_topi (y := bI (cn_p x t)) (by rw [(cn_p_e x t).mp ((lg_cmp_eq _ _).mp h1)]; rfl) ?_
    exact W.zret (ty := .boolean) hx hb hr (bI_z _) (fun t ht hW => ⟨rfl, ht⟩) (fun q h => by cases h) d_Test_hasPrefix_46
set_option maxHeartbeats 4000000 in
set_option maxRecDepth 100000 in
theorem c_Test_saysYes (l : Launch) (D : va_G) (cA : Nat → ClassId) (a : Nat) (d : Int32) (o k : Nat) (t : Int64) (mk : Nat) (v : Nat) (cnt : Nat → Int32) (row : Nat → Int64) (x : Int64) (ho : o < 7) : Met l y_Test_saysYes [.code y_Test_saysYes b_Test_saysYes 4 (some .boolean)] (x_rm 3 0 0) (x_P D cA [.ref a, .long x, .ref v] (fun H => va_at D x_cl (a, .inr (3, [.int d, .int (nI o), .int (nI k), .long t, .int (nI mk)])) H ∧ v_W D cA v cnt row H)) (x_Q (some (.int (bI (cn_a cnt row o x t)))) (x_same)) 0 0 (fun _ => False) := by
  refine x_met (own := "DecisionLayers$Test") (by decide) rfl (Nat.le_of_ble_eq_true rfl) ?_
  intro pp ee s mm below mt cd ls hx hb hr hlk hnm hml hown hts hE hP hl
  have hl : lv_has ls 4 [(0, .ref a), (1, .long x), (3, .ref v)] := hl
  obtain ⟨hT, hV⟩ := hP
  rcases (show o = 0 ∨ o = 1 ∨ o = 2 ∨ o = 3 ∨ o = 4 ∨ o = 5 ∨ o = 6 by omega) with rfl | rfl | rfl | rfl | rfl | rfl | rfl
  · refine lv_aload_n hx hb d_Test_saysYes_0 rfl (lv_at hl 0 rfl) ?_
    refine fg_Test_7_Test hx hb hown hts hE hT rfl d_Test_saysYes_1 ?_
    refine lv_tableIn (off := 44) (tgt := 48) hx hb d_Test_saysYes_4 (by decide) (by decide) (by decide) (by decide) ?_
    refine lv_lload_n hx hb d_Test_saysYes_48 rfl (lv_at hl 1 rfl) ?_
    refine lv_aload_n hx hb d_Test_saysYes_49 rfl (lv_at hl 0 rfl) ?_
    refine fg_Test_16_Test hx hb hown hts hE hT rfl d_Test_saysYes_50 ?_
    refine W.lcmp hx hb d_Test_saysYes_53 ?_
    refine lv_if_ne (tgt := 61) hx hb d_Test_saysYes_54 (by decide) (fun h1 => ?_) (fun h1 => ?_)
    · refine lv_iconst (v := 0) hx hb d_Test_saysYes_61 (by decide) ?_
      refine x_topi (y := bI (cn_a cnt row 0 x t)) (by show 0 = bI (decide (x = t)); rw [bI_no (fun z => h1 ((lg_cmp_eq _ _).mpr z))]) ?_
      exact W.zret (ty := .boolean) hx hb hr (bI_z _) (fun t ht hW => ⟨rfl, ht⟩) (fun q h => by cases h) d_Test_saysYes_62
    · refine lv_iconst (v := 1) hx hb d_Test_saysYes_57 (by decide) ?_
      refine lv_goto (tgt := 62) hx hb d_Test_saysYes_58 (by decide) ?_
      refine x_topi (y := bI (cn_a cnt row 0 x t)) (by show 1 = bI (decide (x = t)); rw [bI_of ((lg_cmp_eq _ _).mp h1)]) ?_
      exact W.zret (ty := .boolean) hx hb hr (bI_z _) (fun t ht hW => ⟨rfl, ht⟩) (fun q h => by cases h) d_Test_saysYes_62
  · refine lv_aload_n hx hb d_Test_saysYes_0 rfl (lv_at hl 0 rfl) ?_
    refine fg_Test_7_Test hx hb hown hts hE hT rfl d_Test_saysYes_1 ?_
    refine lv_tableIn (off := 59) (tgt := 63) hx hb d_Test_saysYes_4 (by decide) (by decide) (by decide) (by decide) ?_
    refine lv_lload_n hx hb d_Test_saysYes_63 rfl (lv_at hl 1 rfl) ?_
    refine lv_aload_n hx hb d_Test_saysYes_64 rfl (lv_at hl 0 rfl) ?_
    refine fg_Test_16_Test hx hb hown hts hE hT rfl d_Test_saysYes_65 ?_
    refine x_cp (k_Test_37 (As := [.long x, .long t]) (rest := []) hx hb hml hown hts (c_Text_isSame l D cA x t) (x_preS hE trivial) rfl hl.1 rfl (Nat.le_of_ble_eq_true rfl) d_Test_saysYes_68 (by decide) ⟨Nat.zero_le _, Nat.zero_le _⟩) ?_
    exact W.zret (ty := .boolean) hx hb hr (bI_z _) (fun t ht hW => ⟨rfl, ht⟩) (fun q h => by cases h) d_Test_saysYes_71
  · refine lv_aload_n hx hb d_Test_saysYes_0 rfl (lv_at hl 0 rfl) ?_
    refine fg_Test_7_Test hx hb hown hts hE hT rfl d_Test_saysYes_1 ?_
    refine lv_tableIn (off := 68) (tgt := 72) hx hb d_Test_saysYes_4 (by decide) (by decide) (by decide) (by decide) ?_
    refine lv_aload_n hx hb d_Test_saysYes_72 rfl (lv_at hl 0 rfl) ?_
    refine fg_Test_16_Test hx hb hown hts hE hT rfl d_Test_saysYes_73 ?_
    refine lv_lload_n hx hb d_Test_saysYes_76 rfl (lv_at hl 1 rfl) ?_
    refine lv_iconst (v := 0) hx hb d_Test_saysYes_77 (by decide) ?_
    refine lv_aload_n hx hb d_Test_saysYes_78 rfl (lv_at hl 2 rfl) ?_
    refine x_cp (k_Test_43 (As := [.long t, .long x, .int (bI false), .ref v]) (rest := []) hx hb hml hown hts (c_Pattern_fits l D cA v cnt row t x false) (x_preS hE hV) rfl hl.1 rfl (Nat.le_of_ble_eq_true rfl) d_Test_saysYes_79 (by decide) ⟨Nat.zero_le _, Nat.zero_le _⟩) ?_
    exact W.zret (ty := .boolean) hx hb hr (bI_z _) (fun t ht hW => ⟨rfl, ht⟩) (fun q h => by cases h) d_Test_saysYes_82
  · refine lv_aload_n hx hb d_Test_saysYes_0 rfl (lv_at hl 0 rfl) ?_
    refine fg_Test_7_Test hx hb hown hts hE hT rfl d_Test_saysYes_1 ?_
    refine lv_tableIn (off := 79) (tgt := 83) hx hb d_Test_saysYes_4 (by decide) (by decide) (by decide) (by decide) ?_
    refine lv_lload_n hx hb d_Test_saysYes_83 rfl (lv_at hl 1 rfl) ?_
    refine lv_aload_n hx hb d_Test_saysYes_84 rfl (lv_at hl 0 rfl) ?_
    refine fg_Test_16_Test hx hb hown hts hE hT rfl d_Test_saysYes_85 ?_
    refine W.lcmp hx hb d_Test_saysYes_88 ?_
    refine lv_if_ge (tgt := 96) hx hb d_Test_saysYes_89 (by decide) (fun h1 => ?_) (fun h1 => ?_)
    · refine lv_iconst (v := 0) hx hb d_Test_saysYes_96 (by decide) ?_
      refine x_topi (y := bI (cn_a cnt row 3 x t)) (by show 0 = bI (decide (x < t)); rw [bI_no (by rw [Int64.not_lt]; exact (lg_cmp_ge _ _).mp h1)]) ?_
      exact W.zret (ty := .boolean) hx hb hr (bI_z _) (fun t ht hW => ⟨rfl, ht⟩) (fun q h => by cases h) d_Test_saysYes_97
    · refine lv_iconst (v := 1) hx hb d_Test_saysYes_92 (by decide) ?_
      refine lv_goto (tgt := 97) hx hb d_Test_saysYes_93 (by decide) ?_
      refine x_topi (y := bI (cn_a cnt row 3 x t)) (by show 1 = bI (decide (x < t)); rw [bI_of (by rw [← Int64.not_le]; exact fun z => h1 ((lg_cmp_ge _ _).mpr z))]) ?_
      exact W.zret (ty := .boolean) hx hb hr (bI_z _) (fun t ht hW => ⟨rfl, ht⟩) (fun q h => by cases h) d_Test_saysYes_97
  · refine lv_aload_n hx hb d_Test_saysYes_0 rfl (lv_at hl 0 rfl) ?_
    refine fg_Test_7_Test hx hb hown hts hE hT rfl d_Test_saysYes_1 ?_
    refine lv_tableIn (off := 94) (tgt := 98) hx hb d_Test_saysYes_4 (by decide) (by decide) (by decide) (by decide) ?_
    refine lv_lload_n hx hb d_Test_saysYes_98 rfl (lv_at hl 1 rfl) ?_
    refine lv_aload_n hx hb d_Test_saysYes_99 rfl (lv_at hl 0 rfl) ?_
    refine fg_Test_16_Test hx hb hown hts hE hT rfl d_Test_saysYes_100 ?_
    refine W.lcmp hx hb d_Test_saysYes_103 ?_
    refine lv_if_gt (tgt := 111) hx hb d_Test_saysYes_104 (by decide) (fun h1 => ?_) (fun h1 => ?_)
    · refine lv_iconst (v := 0) hx hb d_Test_saysYes_111 (by decide) ?_
      refine x_topi (y := bI (cn_a cnt row 4 x t)) (by show 0 = bI (decide (x ≤ t)); rw [bI_no (by rw [Int64.not_le]; exact (lg_cmp_gt _ _).mp h1)]) ?_
      exact W.zret (ty := .boolean) hx hb hr (bI_z _) (fun t ht hW => ⟨rfl, ht⟩) (fun q h => by cases h) d_Test_saysYes_112
    · refine lv_iconst (v := 1) hx hb d_Test_saysYes_107 (by decide) ?_
      refine lv_goto (tgt := 112) hx hb d_Test_saysYes_108 (by decide) ?_
      refine x_topi (y := bI (cn_a cnt row 4 x t)) (by show 1 = bI (decide (x ≤ t)); rw [bI_of (by rw [← Int64.not_lt]; exact fun z => h1 ((lg_cmp_gt _ _).mpr z))]) ?_
      exact W.zret (ty := .boolean) hx hb hr (bI_z _) (fun t ht hW => ⟨rfl, ht⟩) (fun q h => by cases h) d_Test_saysYes_112
  · refine lv_aload_n hx hb d_Test_saysYes_0 rfl (lv_at hl 0 rfl) ?_
    refine fg_Test_7_Test hx hb hown hts hE hT rfl d_Test_saysYes_1 ?_
    refine lv_tableIn (off := 109) (tgt := 113) hx hb d_Test_saysYes_4 (by decide) (by decide) (by decide) (by decide) ?_
    refine lv_aload_n hx hb d_Test_saysYes_113 rfl (lv_at hl 0 rfl) ?_
    refine lv_lload_n hx hb d_Test_saysYes_114 rfl (lv_at hl 1 rfl) ?_
    refine x_cp (k_Test_49 (As := [.long x]) (rest := []) hx hb hml hown hts (c_Test_hasPrefix l D cA a d 5 k t mk x) (x_preV hE hT rfl rfl hT) rfl hl.1 rfl (Nat.le_of_ble_eq_true rfl) d_Test_saysYes_115 (by decide) ⟨Nat.zero_le _, Nat.zero_le _⟩) ?_
    exact W.zret (ty := .boolean) hx hb hr (bI_z _) (fun t ht hW => ⟨rfl, ht⟩) (fun q h => by cases h) d_Test_saysYes_118
  · refine lv_aload_n hx hb d_Test_saysYes_0 rfl (lv_at hl 0 rfl) ?_
    refine fg_Test_7_Test hx hb hown hts hE hT rfl d_Test_saysYes_1 ?_
    refine lv_tableIn (off := 115) (tgt := 119) hx hb d_Test_saysYes_4 (by decide) (by decide) (by decide) (by decide) ?_
    refine lv_lload_n hx hb d_Test_saysYes_119 rfl (lv_at hl 1 rfl) ?_
    refine lv_lconst (v := 0) hx hb d_Test_saysYes_120 (by decide) ?_
    refine W.lcmp hx hb d_Test_saysYes_121 ?_
    refine lv_if_ne (tgt := 129) hx hb d_Test_saysYes_122 (by decide) (fun h1 => ?_) (fun h1 => ?_)
    · refine lv_iconst (v := 0) hx hb d_Test_saysYes_129 (by decide) ?_
      refine lv_aload_n hx hb d_Test_saysYes_130 rfl (lv_at hl 0 rfl) ?_
      refine fg_Test_16_Test hx hb hown hts hE hT rfl d_Test_saysYes_131 ?_
      refine lv_lconst (v := 0) hx hb d_Test_saysYes_134 (by decide) ?_
      refine W.lcmp hx hb d_Test_saysYes_135 ?_
      refine lv_if_ne (tgt := 143) hx hb d_Test_saysYes_136 (by decide) (fun h2 => ?_) (fun h2 => ?_)
      · refine lv_iconst (v := 0) hx hb d_Test_saysYes_143 (by decide) ?_
        refine lv_icmp_ne (tgt := 151) hx hb d_Test_saysYes_144 (by decide) (fun hk => ?_) (fun hk => ?_)
        · exact absurd hk (by decide)
        · refine lv_iconst (v := 1) hx hb d_Test_saysYes_147 (by decide) ?_
          refine lv_goto (tgt := 152) hx hb d_Test_saysYes_148 (by decide) ?_
          refine x_topi (y := bI (cn_a cnt row 6 x t)) (by show _ = bI (decide (x = 0) == decide (t = 0)); rw [decide_eq_false (show ¬ x = 0 from fun z => h1 ((lg_cmp_eq _ _).mpr z)), decide_eq_false (show ¬ t = 0 from fun z => h2 ((lg_cmp_eq _ _).mpr z))]; rfl) ?_
          exact W.zret (ty := .boolean) hx hb hr (bI_z _) (fun t ht hW => ⟨rfl, ht⟩) (fun q h => by cases h) d_Test_saysYes_152
      · refine lv_iconst (v := 1) hx hb d_Test_saysYes_139 (by decide) ?_
        refine lv_goto (tgt := 144) hx hb d_Test_saysYes_140 (by decide) ?_
        refine lv_icmp_ne (tgt := 151) hx hb d_Test_saysYes_144 (by decide) (fun hk => ?_) (fun hk => ?_)
        · refine lv_iconst (v := 0) hx hb d_Test_saysYes_151 (by decide) ?_
          refine x_topi (y := bI (cn_a cnt row 6 x t)) (by show _ = bI (decide (x = 0) == decide (t = 0)); rw [decide_eq_false (show ¬ x = 0 from fun z => h1 ((lg_cmp_eq _ _).mpr z)), decide_eq_true (show t = 0 from (lg_cmp_eq _ _).mp h2)]; rfl) ?_
          exact W.zret (ty := .boolean) hx hb hr (bI_z _) (fun t ht hW => ⟨rfl, ht⟩) (fun q h => by cases h) d_Test_saysYes_152
        · exact absurd hk (by decide)
    · refine lv_iconst (v := 1) hx hb d_Test_saysYes_125 (by decide) ?_
      refine lv_goto (tgt := 130) hx hb d_Test_saysYes_126 (by decide) ?_
      refine lv_aload_n hx hb d_Test_saysYes_130 rfl (lv_at hl 0 rfl) ?_
      refine fg_Test_16_Test hx hb hown hts hE hT rfl d_Test_saysYes_131 ?_
      refine lv_lconst (v := 0) hx hb d_Test_saysYes_134 (by decide) ?_
      refine W.lcmp hx hb d_Test_saysYes_135 ?_
      refine lv_if_ne (tgt := 143) hx hb d_Test_saysYes_136 (by decide) (fun h2 => ?_) (fun h2 => ?_)
      · refine lv_iconst (v := 0) hx hb d_Test_saysYes_143 (by decide) ?_
        refine lv_icmp_ne (tgt := 151) hx hb d_Test_saysYes_144 (by decide) (fun hk => ?_) (fun hk => ?_)
        · refine lv_iconst (v := 0) hx hb d_Test_saysYes_151 (by decide) ?_
          refine x_topi (y := bI (cn_a cnt row 6 x t)) (by show _ = bI (decide (x = 0) == decide (t = 0)); rw [decide_eq_true (show x = 0 from (lg_cmp_eq _ _).mp h1), decide_eq_false (show ¬ t = 0 from fun z => h2 ((lg_cmp_eq _ _).mpr z))]; rfl) ?_
          exact W.zret (ty := .boolean) hx hb hr (bI_z _) (fun t ht hW => ⟨rfl, ht⟩) (fun q h => by cases h) d_Test_saysYes_152
        · exact absurd hk (by decide)
      · refine lv_iconst (v := 1) hx hb d_Test_saysYes_139 (by decide) ?_
        refine lv_goto (tgt := 144) hx hb d_Test_saysYes_140 (by decide) ?_
        refine lv_icmp_ne (tgt := 151) hx hb d_Test_saysYes_144 (by decide) (fun hk => ?_) (fun hk => ?_)
        · exact absurd hk (by decide)
        · refine lv_iconst (v := 1) hx hb d_Test_saysYes_147 (by decide) ?_
          refine lv_goto (tgt := 152) hx hb d_Test_saysYes_148 (by decide) ?_
          refine x_topi (y := bI (cn_a cnt row 6 x t)) (by show _ = bI (decide (x = 0) == decide (t = 0)); rw [decide_eq_true (show x = 0 from (lg_cmp_eq _ _).mp h1), decide_eq_true (show t = 0 from (lg_cmp_eq _ _).mp h2)]; rfl) ?_
          exact W.zret (ty := .boolean) hx hb hr (bI_z _) (fun t ht hW => ⟨rfl, ht⟩) (fun q h => by cases h) d_Test_saysYes_152
end
section
/-! a test's loop -/
def cn_y (cnt : Nat → Int32) (row : Nat → Int64) (o k : Nat) (t : Int64) (mk j : Nat) : Bool := (cn_a cnt row o (row (4 * k + j)) t != mk.testBit 0)
theorem cn_t_end {cnt : Nat → Int32} {row : Nat → Int64} {o k : Nat} {t : Int64} {mk n : Nat} (ho : ¬ o = 7) (hn : cnt k = nI n) (h0 : 0 < n) (h4 : n ≤ 4) (h : ∀ j, j < n → cn_y cnt row o k t mk j = mk.testBit 2) : cn_t cnt row o k t mk = mk.testBit 2 := by
  have hc : (cnt k).toNatClampNeg = n := by rw [hn]; exact nI_clamp (by omega)
  have hz : ¬ cnt k = 0 := by rw [hn]; exact nI_ne0 h0 (by omega)
  unfold cn_t
  rw [if_neg ho, if_neg hz, hc]
  cases hm : mk.testBit 2 with
  | true =>
    rw [if_pos rfl]
    exact decide_eq_true (fun j hj => (h j hj).trans hm)
  | false =>
    rw [if_neg (by decide)]
    refine decide_eq_false (fun ⟨j, hj, hy⟩ => ?_)
    have h9 : (cn_a cnt row o (row (4 * k + j)) t != mk.testBit 0) = false := (h j hj).trans hm
    rw [h9] at hy
    cases hy
theorem cn_t_hit {cnt : Nat → Int32} {row : Nat → Int64} {o k : Nat} {t : Int64} {mk n i : Nat} (ho : ¬ o = 7) (hn : cnt k = nI n) (hi : i < n) (h4 : n ≤ 4) (h : ¬ cn_y cnt row o k t mk i = mk.testBit 2) : cn_t cnt row o k t mk = !mk.testBit 2 := by
  have hc : (cnt k).toNatClampNeg = n := by rw [hn]; exact nI_clamp (by omega)
  have hz : ¬ cnt k = 0 := by rw [hn]; exact nI_ne0 (by omega) (by omega)
  unfold cn_t
  rw [if_neg ho, if_neg hz, hc]
  cases hm : mk.testBit 2 with
  | true =>
    rw [if_pos rfl]
    rw [hm] at h
    exact decide_eq_false (fun z => h (z i hi))
  | false =>
    rw [if_neg (by decide)]
    rw [hm] at h
    refine decide_eq_true ⟨i, hi, ?_⟩
    cases hy : (cn_a cnt row o (row (4 * k + i)) t != mk.testBit 0) with
    | true => rfl
    | false => exact absurd hy h
theorem cn_t_no {cnt : Nat → Int32} {row : Nat → Int64} {o k : Nat} {t : Int64} {mk : Nat} (ho : ¬ o = 7) (hn : cnt k = 0) : cn_t cnt row o k t mk = decide (mk ≠ 0) := by
  unfold cn_t
  rw [if_neg ho, if_pos hn]
set_option maxHeartbeats 4000000 in
set_option maxRecDepth 100000 in
theorem c_Test_isMet (l : Launch) (D : va_G) (cA : Nat → ClassId) (a : Nat) (d : Int32) (o k : Nat) (t : Int64) (mk : Nat) (v : Nat) (cnt : Nat → Int32) (row : Nat → Int64) (q : Nat) (ho : o < 8) (hk : k < 8) (hm : mk < 8) (hvo : vl_ok cnt) : Met l y_Test_isMet [.code y_Test_isMet b_Test_isMet 7 (some .boolean)] (x_rm (4 + q) 0 0) (x_P D cA [.ref a, .ref v] (fun H => va_at D x_cl (a, .inr (3, [.int d, .int (nI o), .int (nI k), .long t, .int (nI mk)])) H ∧ v_W D cA v cnt row H)) (x_Q (some (.int (bI (cn_t cnt row o k t mk)))) (x_same)) 0 0 (fun _ => False) := by
  refine x_met (own := "DecisionLayers$Test") (by decide) rfl (Nat.le_of_ble_eq_true rfl) ?_
  intro pp ee s mm below mt cd ls hx hb hr hlk hnm hml hown hts hE hP hl
  have hl : lv_has ls 7 [(0, .ref a), (1, .ref v)] := hl
  obtain ⟨hT, hV⟩ := hP
  obtain ⟨n, hn4, hn⟩ := hvo k hk
  refine lv_aload_n hx hb d_Test_isMet_0 rfl (lv_at hl 0 rfl) ?_
  refine fg_Test_20_Test hx hb hown hts hE hT rfl d_Test_isMet_1 ?_
  refine lv_iconst (v := 1) hx hb d_Test_isMet_4 (by decide) ?_
  refine lv_iand hx hb d_Test_isMet_5 ?_
  refine x_topi (y := bI (mk.testBit 0)) (mk_1 mk (by omega)) ?_
  refine x_join 14 (fun ls st => lv_has ls 7 [(0, .ref a), (1, .ref v)] ∧ st = [.int (bI (mk.testBit 0))]) ?_ (fun hj => ?_)
  · intro ls st hj
    obtain ⟨hl, rfl⟩ := hj
    refine lv_istore_n (lv' := [(2, .int (bI (mk.testBit 0))), (0, .ref a), (1, .ref v)]) hx hb d_Test_isMet_14 rfl hl (by decide) rfl (fun ls hl => ?_)
    refine lv_aload_n hx hb d_Test_isMet_15 rfl (lv_at hl 1 rfl) ?_
    refine fg_Test_20_Test hx hb hown hts hE hT rfl d_Test_isMet_16 ?_
    refine lv_iconst (v := 4) hx hb d_Test_isMet_19 (by decide) ?_
    refine lv_iand hx hb d_Test_isMet_20 ?_
    refine x_join 29 (fun ls st => lv_has ls 7 [(2, .int (bI (mk.testBit 0))), (0, .ref a), (1, .ref v)] ∧ st = [.int (bI (mk.testBit 2))]) ?_ (fun hj => ?_)
    · intro ls st hj
      obtain ⟨hl, rfl⟩ := hj
      refine lv_istore_n (lv' := [(3, .int (bI (mk.testBit 2))), (2, .int (bI (mk.testBit 0))), (0, .ref a), (1, .ref v)]) hx hb d_Test_isMet_29 rfl hl (by decide) rfl (fun ls hl => ?_)
      refine lv_aload_n hx hb d_Test_isMet_30 rfl (lv_at hl 3 rfl) ?_
      refine lv_aload_n hx hb d_Test_isMet_31 rfl (lv_at hl 2 rfl) ?_
      refine fg_Test_13_Test hx hb hown hts hE hT rfl d_Test_isMet_32 ?_
      refine x_cp (k_Test_23 (As := [.int (nI k)]) (rest := []) hx hb hml hown hts (c_Values_count l D cA v cnt row (nI k)) (x_preV hE hV.1 rfl rfl hV) rfl hl.1 rfl (Nat.le_of_ble_eq_true rfl) d_Test_isMet_35 (by omega) ⟨Nat.zero_le _, Nat.zero_le _⟩) ?_
      refine x_topi (y := nI n) (by rw [vl_c_in hk, hn]) ?_
      refine lv_istore (lv' := [(4, .int (nI n)), (3, .int (bI (mk.testBit 2))), (2, .int (bI (mk.testBit 0))), (0, .ref a), (1, .ref v)]) hx hb d_Test_isMet_38 hl (by decide) rfl (fun ls hl => ?_)
      refine lv_aload_n hx hb d_Test_isMet_40 rfl (lv_at hl 3 rfl) ?_
      refine fg_Test_7_Test hx hb hown hts hE hT rfl d_Test_isMet_41 ?_
      refine lv_bipush (v := 7) hx hb d_Test_isMet_44 (by decide) ?_
      refine lv_icmp_ne (tgt := 91) hx hb d_Test_isMet_46 (by decide) (fun h7 => ?_) (fun h7 => ?_)
      · have ho7 : ¬ o = 7 := fun z => h7 (by rw [z]; rfl)
        refine lv_iload hx hb d_Test_isMet_91 (lv_at hl 0 rfl) ?_
        refine lv_if_ne (tgt := 109) hx hb d_Test_isMet_93 (by decide) (fun hz => ?_) (fun hz => ?_)
        · have hn0 : 0 < n := Nat.pos_of_ne_zero (fun z => hz (by rw [z]; rfl))
          refine lv_iconst (v := 0) hx hb d_Test_isMet_109 (by decide) ?_
          refine lv_istore (lv' := [(5, .int 0), (4, .int (nI n)), (3, .int (bI (mk.testBit 2))), (2, .int (bI (mk.testBit 0))), (0, .ref a), (1, .ref v)]) hx hb d_Test_isMet_110 hl (by decide) rfl (fun ls hl => ?_)
          refine x_loop (I := fun r ls => ∃ i, i + r = n ∧ (∀ j, j < i → cn_y cnt row o k t mk j = mk.testBit 2) ∧ lv_has ls 7 [(5, .int (nI i)), (4, .int (nI n)), (3, .int (bI (mk.testBit 2))), (2, .int (bI (mk.testBit 0))), (0, .ref a), (1, .ref v)]) (fun r ls ih h => ?_) (n) ⟨0, by omega, fun j h => absurd h (Nat.not_lt_zero j), (lv_sub hl [0, 1, 2, 3, 4, 5] rfl)⟩
          obtain ⟨i, hi, hj0, hl⟩ := h
          refine lv_iload hx hb d_Test_isMet_112 (lv_at hl 0 rfl) ?_
          refine lv_iload hx hb d_Test_isMet_114 (lv_at hl 1 rfl) ?_
          refine lv_icmp_ge (tgt := 167) hx hb d_Test_isMet_116 (by decide) (fun hge => ?_) (fun hge => ?_)
          · have hge := n_ge hge (by omega) (by omega)
            refine lv_iload_n hx hb d_Test_isMet_167 rfl (lv_at hl 2 rfl) ?_
            refine x_topi (y := bI (cn_t cnt row o k t mk)) (by rw [cn_t_end ho7 hn hn0 hn4 (fun j hj => hj0 j (by omega))]) ?_
            exact W.zret (ty := .boolean) hx hb hr (bI_z _) (fun t ht hW => ⟨rfl, ht⟩) (fun q h => by cases h) d_Test_isMet_168
          · have hge := n_lt hge (by omega) (by omega)
            refine lv_aload_n hx hb d_Test_isMet_119 rfl (lv_at hl 4 rfl) ?_
            refine lv_aload_n hx hb d_Test_isMet_120 rfl (lv_at hl 5 rfl) ?_
            refine lv_aload_n hx hb d_Test_isMet_121 rfl (lv_at hl 4 rfl) ?_
            refine fg_Test_13_Test hx hb hown hts hE hT rfl d_Test_isMet_122 ?_
            refine lv_iload hx hb d_Test_isMet_125 (lv_at hl 0 rfl) ?_
            refine x_cp (k_Test_29 (As := [.int (nI k), .int (nI i)]) (rest := [.ref a]) hx hb hml hown hts (c_Values_get l D cA v cnt row k i n hk hn hge hn4) (x_preV hE hV.1 rfl rfl hV) rfl hl.1 rfl (Nat.le_of_ble_eq_true rfl) d_Test_isMet_127 (by omega) ⟨Nat.zero_le _, Nat.zero_le _⟩) ?_
            refine lv_aload_n hx hb d_Test_isMet_130 rfl (lv_at hl 5 rfl) ?_
            refine x_cp (k_Test_33 (As := [.long (row (4 * k + i)), .ref v]) (rest := []) hx hb hml hown hts (c_Test_saysYes l D cA a d o k t mk v cnt row (row (4 * k + i)) (by omega)) (x_preV hE hT rfl rfl ⟨hT, hV⟩) rfl hl.1 rfl (Nat.le_of_ble_eq_true rfl) d_Test_isMet_131 (by omega) ⟨Nat.zero_le _, Nat.zero_le _⟩) ?_
            refine lv_iload_n hx hb d_Test_isMet_134 rfl (lv_at hl 3 rfl) ?_
            refine x_join 143 (fun ls st => lv_has ls 7 [(5, .int (nI i)), (4, .int (nI n)), (3, .int (bI (mk.testBit 2))), (2, .int (bI (mk.testBit 0))), (0, .ref a), (1, .ref v)] ∧ st = [.int (bI (cn_y cnt row o k t mk i))]) ?_ (fun hj => ?_)
            · intro ls st hj
              obtain ⟨hl, rfl⟩ := hj
              refine lv_istore (lv' := [(6, .int (bI (cn_y cnt row o k t mk i))), (5, .int (nI i)), (4, .int (nI n)), (3, .int (bI (mk.testBit 2))), (2, .int (bI (mk.testBit 0))), (0, .ref a), (1, .ref v)]) hx hb d_Test_isMet_143 hl (by decide) rfl (fun ls hl => ?_)
              refine lv_iload hx hb d_Test_isMet_145 (lv_at hl 0 rfl) ?_
              refine lv_iload_n hx hb d_Test_isMet_147 rfl (lv_at hl 3 rfl) ?_
              refine lv_icmp_eq (tgt := 161) hx hb d_Test_isMet_148 (by decide) (fun hs => ?_) (fun hs => ?_)
              · refine lv_iinc (k := 1) (v := nI (i + 1)) (lv' := [(5, .int (nI (i + 1))), (6, .int (bI (cn_y cnt row o k t mk i))), (4, .int (nI n)), (3, .int (bI (mk.testBit 2))), (2, .int (bI (mk.testBit 0))), (0, .ref a), (1, .ref v)]) hx hb d_Test_isMet_161 hl rfl (x_inc _) (by decide) rfl (fun ls hl => ?_)
                refine lv_goto (tgt := 112) hx hb d_Test_isMet_164 (by decide) ?_
                exact ih (r - 1) _ (by omega) ⟨i + 1, by omega, fun j hj => by
                  by_cases e : j = i
                  · rw [e]; exact bI_eq.mp hs
                  · exact hj0 j (by omega), (lv_sub hl [0, 2, 3, 4, 5, 6] rfl)⟩
              · have hs := cn_t_hit ho7 hn hge hn4 (fun z => hs (bI_eq.mpr z))
                refine lv_iload_n hx hb d_Test_isMet_151 rfl (lv_at hl 3 rfl) ?_
                refine lv_if_ne (tgt := 159) hx hb d_Test_isMet_152 (by decide) (fun h2 => ?_) (fun h2 => ?_)
                · refine lv_iconst (v := 0) hx hb d_Test_isMet_159 (by decide) ?_
                  refine x_topi (y := bI (cn_t cnt row o k t mk)) (by rw [hs, bI_n0.mp h2]; rfl) ?_
                  exact W.zret (ty := .boolean) hx hb hr (bI_z _) (fun t ht hW => ⟨rfl, ht⟩) (fun q h => by cases h) d_Test_isMet_160
                · refine lv_iconst (v := 1) hx hb d_Test_isMet_155 (by decide) ?_
                  refine lv_goto (tgt := 160) hx hb d_Test_isMet_156 (by decide) ?_
                  refine x_topi (y := bI (cn_t cnt row o k t mk)) (by rw [hs, bI_0.mp h2]; rfl) ?_
                  exact W.zret (ty := .boolean) hx hb hr (bI_z _) (fun t ht hW => ⟨rfl, ht⟩) (fun q h => by cases h) d_Test_isMet_160
            · refine lv_icmp_eq (tgt := 142) hx hb d_Test_isMet_135 (by decide) (fun he => ?_) (fun he => ?_)
              · refine lv_iconst (v := 0) hx hb d_Test_isMet_142 (by decide) ?_
                refine x_topi (y := bI (cn_y cnt row o k t mk i)) (by show 0 = bI (_ != _); rw [bI_eq.mp he]; cases mk.testBit 0 <;> rfl) ?_
                exact hj _ _ ⟨(lv_sub hl [0, 1, 2, 3, 4, 5] rfl), rfl⟩
              · refine lv_iconst (v := 1) hx hb d_Test_isMet_138 (by decide) ?_
                refine lv_goto (tgt := 143) hx hb d_Test_isMet_139 (by decide) ?_
                refine x_topi (y := bI (cn_y cnt row o k t mk i)) (by show 1 = bI (_ != _); have he2 := fun z => he (bI_eq.mpr z); revert he2; cases cn_a cnt row o (row (4 * k + i)) t <;> cases mk.testBit 0 <;> intro he2 <;> first | rfl | exact absurd rfl he2) ?_
                exact hj _ _ ⟨(lv_sub hl [0, 1, 2, 3, 4, 5] rfl), rfl⟩
        · have hz : cnt k = 0 := by rw [hn]; exact hz
          refine lv_aload_n hx hb d_Test_isMet_96 rfl (lv_at hl 3 rfl) ?_
          refine fg_Test_20_Test hx hb hown hts hE hT rfl d_Test_isMet_97 ?_
          refine lv_if_eq (tgt := 107) hx hb d_Test_isMet_100 (by decide) (fun hm0 => ?_) (fun hm0 => ?_)
          · refine lv_iconst (v := 0) hx hb d_Test_isMet_107 (by decide) ?_
            refine x_topi (y := bI (cn_t cnt row o k t mk)) (by rw [cn_t_no ho7 hz, bI_no (fun z => z ((nI_eq (by omega) (by decide) : nI mk = nI 0 ↔ mk = 0).mp hm0))]) ?_
            exact W.zret (ty := .boolean) hx hb hr (bI_z _) (fun t ht hW => ⟨rfl, ht⟩) (fun q h => by cases h) d_Test_isMet_108
          · refine lv_iconst (v := 1) hx hb d_Test_isMet_103 (by decide) ?_
            refine lv_goto (tgt := 108) hx hb d_Test_isMet_104 (by decide) ?_
            refine x_topi (y := bI (cn_t cnt row o k t mk)) (by rw [cn_t_no ho7 hz, bI_of (show mk ≠ 0 from fun z => hm0 (by rw [z]; rfl))]) ?_
            exact W.zret (ty := .boolean) hx hb hr (bI_z _) (fun t ht hW => ⟨rfl, ht⟩) (fun q h => by cases h) d_Test_isMet_108
      · obtain rfl : o = 7 := (nI_eq (by omega) (by decide)).mp h7
        refine lv_iload hx hb d_Test_isMet_49 (lv_at hl 0 rfl) ?_
        refine lv_if_ne (tgt := 58) hx hb d_Test_isMet_51 (by decide) (fun hz => ?_) (fun hz => ?_)
        · refine lv_iconst (v := 0) hx hb d_Test_isMet_58 (by decide) ?_
          refine lv_aload_n hx hb d_Test_isMet_59 rfl (lv_at hl 3 rfl) ?_
          refine fg_Test_16_Test hx hb hown hts hE hT rfl d_Test_isMet_60 ?_
          refine lv_lconst (v := 0) hx hb d_Test_isMet_63 (by decide) ?_
          refine W.lcmp hx hb d_Test_isMet_64 ?_
          refine lv_if_eq (tgt := 72) hx hb d_Test_isMet_65 (by decide) (fun ht => ?_) (fun ht => ?_)
          · refine lv_iconst (v := 0) hx hb d_Test_isMet_72 (by decide) ?_
            refine lv_icmp_ne (tgt := 80) hx hb d_Test_isMet_73 (by decide) (fun hk => ?_) (fun hk => ?_)
            · exact absurd hk (by decide)
            · refine lv_iconst (v := 1) hx hb d_Test_isMet_76 (by decide) ?_
              refine lv_goto (tgt := 81) hx hb d_Test_isMet_77 (by decide) ?_
              refine lv_iload_n hx hb d_Test_isMet_81 rfl (lv_at hl 2 rfl) ?_
              refine lv_icmp_eq (tgt := 89) hx hb d_Test_isMet_82 (by decide) (fun hs => ?_) (fun hs => ?_)
              · refine lv_iconst (v := 0) hx hb d_Test_isMet_89 (by decide) ?_
                refine x_topi (y := bI (cn_t cnt row 7 k t mk)) (by show _ = bI ((decide (cnt k = 0) == decide (t ≠ 0)) != mk.testBit 0); rw [decide_eq_false (show ¬ cnt k = 0 by rw [hn]; exact hz), decide_eq_false (show ¬ t ≠ 0 from fun z => z ((lg_cmp_eq _ _).mp ht)), bI_1.mp hs.symm]; rfl) ?_
                exact W.zret (ty := .boolean) hx hb hr (bI_z _) (fun t ht hW => ⟨rfl, ht⟩) (fun q h => by cases h) d_Test_isMet_90
              · refine lv_iconst (v := 1) hx hb d_Test_isMet_85 (by decide) ?_
                refine lv_goto (tgt := 90) hx hb d_Test_isMet_86 (by decide) ?_
                refine x_topi (y := bI (cn_t cnt row 7 k t mk)) (by show _ = bI ((decide (cnt k = 0) == decide (t ≠ 0)) != mk.testBit 0); rw [decide_eq_false (show ¬ cnt k = 0 by rw [hn]; exact hz), decide_eq_false (show ¬ t ≠ 0 from fun z => z ((lg_cmp_eq _ _).mp ht)), bI_n1.mp (fun z => hs z.symm)]; rfl) ?_
                exact W.zret (ty := .boolean) hx hb hr (bI_z _) (fun t ht hW => ⟨rfl, ht⟩) (fun q h => by cases h) d_Test_isMet_90
          · refine lv_iconst (v := 1) hx hb d_Test_isMet_68 (by decide) ?_
            refine lv_goto (tgt := 73) hx hb d_Test_isMet_69 (by decide) ?_
            refine lv_icmp_ne (tgt := 80) hx hb d_Test_isMet_73 (by decide) (fun hk => ?_) (fun hk => ?_)
            · refine lv_iconst (v := 0) hx hb d_Test_isMet_80 (by decide) ?_
              refine lv_iload_n hx hb d_Test_isMet_81 rfl (lv_at hl 2 rfl) ?_
              refine lv_icmp_eq (tgt := 89) hx hb d_Test_isMet_82 (by decide) (fun hs => ?_) (fun hs => ?_)
              · refine lv_iconst (v := 0) hx hb d_Test_isMet_89 (by decide) ?_
                refine x_topi (y := bI (cn_t cnt row 7 k t mk)) (by show _ = bI ((decide (cnt k = 0) == decide (t ≠ 0)) != mk.testBit 0); rw [decide_eq_false (show ¬ cnt k = 0 by rw [hn]; exact hz), decide_eq_true (show t ≠ 0 from fun z => ht ((lg_cmp_eq _ _).mpr z)), bI_0.mp hs.symm]; rfl) ?_
                exact W.zret (ty := .boolean) hx hb hr (bI_z _) (fun t ht hW => ⟨rfl, ht⟩) (fun q h => by cases h) d_Test_isMet_90
              · refine lv_iconst (v := 1) hx hb d_Test_isMet_85 (by decide) ?_
                refine lv_goto (tgt := 90) hx hb d_Test_isMet_86 (by decide) ?_
                refine x_topi (y := bI (cn_t cnt row 7 k t mk)) (by show _ = bI ((decide (cnt k = 0) == decide (t ≠ 0)) != mk.testBit 0); rw [decide_eq_false (show ¬ cnt k = 0 by rw [hn]; exact hz), decide_eq_true (show t ≠ 0 from fun z => ht ((lg_cmp_eq _ _).mpr z)), bI_n0.mp (fun z => hs z.symm)]; rfl) ?_
                exact W.zret (ty := .boolean) hx hb hr (bI_z _) (fun t ht hW => ⟨rfl, ht⟩) (fun q h => by cases h) d_Test_isMet_90
            · exact absurd hk (by decide)
        · refine lv_iconst (v := 1) hx hb d_Test_isMet_54 (by decide) ?_
          refine lv_goto (tgt := 59) hx hb d_Test_isMet_55 (by decide) ?_
          refine lv_aload_n hx hb d_Test_isMet_59 rfl (lv_at hl 3 rfl) ?_
          refine fg_Test_16_Test hx hb hown hts hE hT rfl d_Test_isMet_60 ?_
          refine lv_lconst (v := 0) hx hb d_Test_isMet_63 (by decide) ?_
          refine W.lcmp hx hb d_Test_isMet_64 ?_
          refine lv_if_eq (tgt := 72) hx hb d_Test_isMet_65 (by decide) (fun ht => ?_) (fun ht => ?_)
          · refine lv_iconst (v := 0) hx hb d_Test_isMet_72 (by decide) ?_
            refine lv_icmp_ne (tgt := 80) hx hb d_Test_isMet_73 (by decide) (fun hk => ?_) (fun hk => ?_)
            · refine lv_iconst (v := 0) hx hb d_Test_isMet_80 (by decide) ?_
              refine lv_iload_n hx hb d_Test_isMet_81 rfl (lv_at hl 2 rfl) ?_
              refine lv_icmp_eq (tgt := 89) hx hb d_Test_isMet_82 (by decide) (fun hs => ?_) (fun hs => ?_)
              · refine lv_iconst (v := 0) hx hb d_Test_isMet_89 (by decide) ?_
                refine x_topi (y := bI (cn_t cnt row 7 k t mk)) (by show _ = bI ((decide (cnt k = 0) == decide (t ≠ 0)) != mk.testBit 0); rw [decide_eq_true (show cnt k = 0 by rw [hn]; exact hz), decide_eq_false (show ¬ t ≠ 0 from fun z => z ((lg_cmp_eq _ _).mp ht)), bI_0.mp hs.symm]; rfl) ?_
                exact W.zret (ty := .boolean) hx hb hr (bI_z _) (fun t ht hW => ⟨rfl, ht⟩) (fun q h => by cases h) d_Test_isMet_90
              · refine lv_iconst (v := 1) hx hb d_Test_isMet_85 (by decide) ?_
                refine lv_goto (tgt := 90) hx hb d_Test_isMet_86 (by decide) ?_
                refine x_topi (y := bI (cn_t cnt row 7 k t mk)) (by show _ = bI ((decide (cnt k = 0) == decide (t ≠ 0)) != mk.testBit 0); rw [decide_eq_true (show cnt k = 0 by rw [hn]; exact hz), decide_eq_false (show ¬ t ≠ 0 from fun z => z ((lg_cmp_eq _ _).mp ht)), bI_n0.mp (fun z => hs z.symm)]; rfl) ?_
                exact W.zret (ty := .boolean) hx hb hr (bI_z _) (fun t ht hW => ⟨rfl, ht⟩) (fun q h => by cases h) d_Test_isMet_90
            · exact absurd hk (by decide)
          · refine lv_iconst (v := 1) hx hb d_Test_isMet_68 (by decide) ?_
            refine lv_goto (tgt := 73) hx hb d_Test_isMet_69 (by decide) ?_
            refine lv_icmp_ne (tgt := 80) hx hb d_Test_isMet_73 (by decide) (fun hk => ?_) (fun hk => ?_)
            · exact absurd hk (by decide)
            · refine lv_iconst (v := 1) hx hb d_Test_isMet_76 (by decide) ?_
              refine lv_goto (tgt := 81) hx hb d_Test_isMet_77 (by decide) ?_
              refine lv_iload_n hx hb d_Test_isMet_81 rfl (lv_at hl 2 rfl) ?_
              refine lv_icmp_eq (tgt := 89) hx hb d_Test_isMet_82 (by decide) (fun hs => ?_) (fun hs => ?_)
              · refine lv_iconst (v := 0) hx hb d_Test_isMet_89 (by decide) ?_
                refine x_topi (y := bI (cn_t cnt row 7 k t mk)) (by show _ = bI ((decide (cnt k = 0) == decide (t ≠ 0)) != mk.testBit 0); rw [decide_eq_true (show cnt k = 0 by rw [hn]; exact hz), decide_eq_true (show t ≠ 0 from fun z => ht ((lg_cmp_eq _ _).mpr z)), bI_1.mp hs.symm]; rfl) ?_
                exact W.zret (ty := .boolean) hx hb hr (bI_z _) (fun t ht hW => ⟨rfl, ht⟩) (fun q h => by cases h) d_Test_isMet_90
              · refine lv_iconst (v := 1) hx hb d_Test_isMet_85 (by decide) ?_
                refine lv_goto (tgt := 90) hx hb d_Test_isMet_86 (by decide) ?_
                refine x_topi (y := bI (cn_t cnt row 7 k t mk)) (by show _ = bI ((decide (cnt k = 0) == decide (t ≠ 0)) != mk.testBit 0); rw [decide_eq_true (show cnt k = 0 by rw [hn]; exact hz), decide_eq_true (show t ≠ 0 from fun z => ht ((lg_cmp_eq _ _).mpr z)), bI_n1.mp (fun z => hs z.symm)]; rfl) ?_
                exact W.zret (ty := .boolean) hx hb hr (bI_z _) (fun t ht hW => ⟨rfl, ht⟩) (fun q h => by cases h) d_Test_isMet_90
    · refine lv_if_eq (tgt := 28) hx hb d_Test_isMet_21 (by decide) (fun h1 => ?_) (fun h1 => ?_)
      · refine lv_iconst (v := 0) hx hb d_Test_isMet_28 (by decide) ?_
        refine x_topi (y := bI (mk.testBit 2)) (by rw [(mk_4 mk (by omega)).mp h1]; rfl) ?_
        exact hj _ _ ⟨(lv_sub hl [0, 1, 2] rfl), rfl⟩
      · refine lv_iconst (v := 1) hx hb d_Test_isMet_24 (by decide) ?_
        refine lv_goto (tgt := 29) hx hb d_Test_isMet_25 (by decide) ?_
        refine x_topi (y := bI (mk.testBit 2)) (by rw [show mk.testBit 2 = true from Bool.not_eq_false _ ▸ (fun z => h1 ((mk_4 mk (by omega)).mpr z))]; rfl) ?_
        exact hj _ _ ⟨(lv_sub hl [0, 1, 2] rfl), rfl⟩
  · refine lv_if_eq (tgt := 13) hx hb d_Test_isMet_6 (by decide) (fun h1 => ?_) (fun h1 => ?_)
    · refine lv_iconst (v := 0) hx hb d_Test_isMet_13 (by decide) ?_
      refine x_topi (y := bI (mk.testBit 0)) (by rw [bI_0.mp h1]; rfl) ?_
      exact hj _ _ ⟨(lv_sub hl [0, 1] rfl), rfl⟩
    · refine lv_iconst (v := 1) hx hb d_Test_isMet_9 (by decide) ?_
      refine lv_goto (tgt := 14) hx hb d_Test_isMet_10 (by decide) ?_
      refine x_topi (y := bI (mk.testBit 0)) (by rw [bI_n0.mp h1]; rfl) ?_
      exact hj _ _ ⟨(lv_sub hl [0, 1] rfl), rfl⟩
set_option maxHeartbeats 4000000 in
set_option maxRecDepth 100000 in
theorem c_Joined_isMet (l : Launch) (D : va_G) (cA : Nat → ClassId) (v : Nat) (cnt : Nat → Int32) (row : Nat → Int64) (made : Nat) (N : n_T) (hv : Nat → Bool) (hok : n_ok made N) (hvo : vl_ok cnt) (hVe : n_V cnt row made N hv) : ∀ (d i : Nat), i < made → n_kd N i ≠ 3 → n_dp N i ≤ d → Met l y_Joined_isMet [.code y_Joined_isMet b_Joined_isMet 5 (some .boolean)] (x_rm (3 + d) 0 0) (x_P D cA [.ref (n_ad N i), .ref v] (fun H => n_W D cA made N H ∧ v_W D cA v cnt row H)) (x_Q (some (.int (bI (hv i)))) x_same) 0 0 (fun _ => False) := by
  intro d
  induction d with
  | zero => intro i hi hk hd; have := (hok i hi).2.1; omega
  | succ d ihd =>
    intro i hi hk hd
    refine x_met (own := "DecisionLayers$Joined") (by decide) rfl (Nat.le_of_ble_eq_true rfl) ?_
    intro pp ee s mm below mt cd ls hx hb hr hlk hnm hml hown hts hE hP hl
    have hl : lv_has ls 5 [(0, .ref (n_ad N i)), (1, .ref v)] := hl
    obtain ⟨hN, hV⟩ := id hP
    obtain ⟨hJ, hPa⟩ := (hN i hi).2 hk
    obtain ⟨hk3, hd1, hd5, -, hj⟩ := hok i hi
    obtain ⟨hlen, hch⟩ := hj hk
    have hk2 : n_kd N i < 3 := by omega
    have hval : hv i = n_j hv (n_kd N i) (n_ch N i) := by rw [hVe i hi, if_neg hk]
    refine lv_aload_n hx hb d_Joined_isMet_0 rfl (lv_at hl 0 rfl) ?_
    refine fg_Joined_7_Joined hx hb hown hts hE hJ rfl d_Joined_isMet_1 ?_
    refine x_join 12 (fun ls st => lv_has ls 5 [(0, .ref (n_ad N i)), (1, .ref v)] ∧ st = [.int (bI (decide (¬ n_kd N i = 0)))]) ?_ (fun hj => ?_)
    · intro ls st hj
      obtain ⟨hl, rfl⟩ := hj
      refine lv_istore_n (lv' := [(2, .int (bI (decide (¬ n_kd N i = 0)))), (0, .ref (n_ad N i)), (1, .ref v)]) hx hb d_Joined_isMet_12 rfl hl (by decide) rfl (fun ls hl => ?_)
      refine lv_iconst (v := 0) hx hb d_Joined_isMet_13 (by decide) ?_
      refine lv_istore_n (lv' := [(3, .int 0), (2, .int (bI (decide (¬ n_kd N i = 0)))), (0, .ref (n_ad N i)), (1, .ref v)]) hx hb d_Joined_isMet_14 rfl hl (by decide) rfl (fun ls hl => ?_)
      refine x_loop (I := fun r ls => ∃ j, j + r = (n_ch N i).length ∧ (∀ (j1 c : Nat), j1 < j → (n_ch N i)[j1]? = some c → hv c = decide (n_kd N i = 0)) ∧ lv_has ls 5 [(3, .int (nI j)), (2, .int (bI (decide (¬ n_kd N i = 0)))), (0, .ref (n_ad N i)), (1, .ref v)]) (fun r ls ih h => ?_) ((n_ch N i).length) ⟨0, by omega, fun j1 c h => absurd h (Nat.not_lt_zero j1), (lv_sub hl [0, 1, 2, 3] rfl)⟩
      obtain ⟨j, hjr, hj0, hl⟩ := h
      refine lv_iload_n hx hb d_Joined_isMet_15 rfl (lv_at hl 0 rfl) ?_
      refine lv_aload_n hx hb d_Joined_isMet_16 rfl (lv_at hl 2 rfl) ?_
      refine fg_Joined_13_Joined hx hb hown hts hE hJ rfl d_Joined_isMet_17 ?_
      refine x_alen hx hb hE.2.2 hPa 4 rfl d_Joined_isMet_20 ?_
      refine lv_icmp_ge (tgt := 67) hx hb d_Joined_isMet_21 (by decide) (fun hge => ?_) (fun hge => ?_)
      · have hge := n_ge hge (by omega) (by omega)
        have hfin := n_fin (hv := hv) hk2 (fun c hc => by
          obtain ⟨j1, hj1⟩ := List.getElem?_of_mem hc
          exact hj0 j1 c (by have := (List.getElem?_eq_some_iff.mp hj1).1; omega) hj1)
        refine lv_aload_n hx hb d_Joined_isMet_67 rfl (lv_at hl 2 rfl) ?_
        refine fg_Joined_7_Joined hx hb hown hts hE hJ rfl d_Joined_isMet_68 ?_
        refine lv_iconst (v := 1) hx hb d_Joined_isMet_71 (by decide) ?_
        refine lv_icmp_eq (tgt := 79) hx hb d_Joined_isMet_72 (by decide) (fun h1 => ?_) (fun h1 => ?_)
        · refine lv_iconst (v := 0) hx hb d_Joined_isMet_79 (by decide) ?_
          refine x_topi (y := bI (hv i)) (by rw [hval, hfin, bI_no (fun z => z ((nI_eq (by omega) (by decide) : nI (n_kd N i) = nI 1 ↔ n_kd N i = 1).mp h1))]) ?_
          exact W.zret (ty := .boolean) hx hb hr (bI_z _) (fun t ht hW => ⟨rfl, ht⟩) (fun q h => by cases h) d_Joined_isMet_80
        · refine lv_iconst (v := 1) hx hb d_Joined_isMet_75 (by decide) ?_
          refine lv_goto (tgt := 80) hx hb d_Joined_isMet_76 (by decide) ?_
          refine x_topi (y := bI (hv i)) (by rw [hval, hfin, bI_of (show ¬ n_kd N i = 1 from fun z => h1 (by rw [z]; rfl))]) ?_
          exact W.zret (ty := .boolean) hx hb hr (bI_z _) (fun t ht hW => ⟨rfl, ht⟩) (fun q h => by cases h) d_Joined_isMet_80
      · have hge := n_lt hge (by omega) (by omega)
        obtain ⟨ci, hci⟩ : ∃ ci, (n_ch N i)[j]? = some ci := ⟨_, List.getElem?_eq_getElem hge⟩
        obtain ⟨hc1, hc2⟩ := hch ci (List.mem_of_getElem? hci)
        have hcm : ci < made := by omega
        obtain ⟨-, hcd, -, hct, -⟩ := hok ci hcm
        refine lv_aload_n hx hb d_Joined_isMet_24 rfl (lv_at hl 2 rfl) ?_
        refine fg_Joined_13_Joined hx hb hown hts hE hJ rfl d_Joined_isMet_25 ?_
        refine lv_iload_n hx hb d_Joined_isMet_28 rfl (lv_at hl 0 rfl) ?_
        refine x_aald hx hb hE.2.2 hPa 4 rfl hge (by omega) d_Joined_isMet_29 ?_
        refine x_topv (y := .ref (n_ad N ci)) (by rw [hci]; rfl) ?_
        refine lv_astore (lv' := [(4, .ref (n_ad N ci)), (3, .int (nI j)), (2, .int (bI (decide (¬ n_kd N i = 0)))), (0, .ref (n_ad N i)), (1, .ref v)]) hx hb d_Joined_isMet_30 hl (by decide) rfl (fun ls hl => ?_)
        refine lv_aload hx hb d_Joined_isMet_32 (lv_at hl 0 rfl) ?_
        refine lv_ifnull hx hb d_Joined_isMet_34 ?_
        refine lv_aload hx hb d_Joined_isMet_37 (lv_at hl 0 rfl) ?_
        refine lv_aload_n hx hb d_Joined_isMet_39 rfl (lv_at hl 4 rfl) ?_
        have key : ∀ (H9 : Heap) (hH : H9 = s.heap), CallRun pp l ee (x_rm (3 + (d + 1)) 0 0) s mm [Value.ref (n_ad N i), Value.ref v].toArray below mt cd H9 [] 0 0 0 0 (F0 mm 40 ls [.ref v, .ref (n_ad N ci)]) [] (x_Q (some (.int (bI (hv ci)))) x_same (Value.ref (n_ad N ci) :: [Value.ref v]).toArray) (fun _ => False) := by
          intro H9 hH
          subst hH
          by_cases hc3 : n_kd N ci = 3
          · obtain ⟨o8, k8, m8⟩ := hct hc3
            have hTc := (hN ci hcm).1 hc3
            rw [show hv ci = cn_t cnt row (n_op N ci) (n_ky N ci) (n_tt N ci) (n_mk N ci) by rw [hVe ci hcm, if_pos hc3]]
            exact k_Joined_17_Test (As := [.ref v]) (rest := []) hx hb hml hown hts hE (c_Test_isMet l D cA (n_ad N ci) (nI (n_dp N ci)) (n_op N ci) (n_ky N ci) (n_tt N ci) (n_mk N ci) v cnt row (d - 1) o8 k8 m8 hvo) (x_preV hE hTc rfl rfl ⟨hTc, hV⟩) rfl hl.1 rfl (Nat.le_of_ble_eq_true rfl) d_Joined_isMet_40 (by omega) ⟨Nat.zero_le _, Nat.zero_le _⟩
          · exact k_Joined_17_Joined (As := [.ref v]) (rest := []) hx hb hml hown hts hE (ihd ci hcm hc3 (by omega)) (x_preV hE ((hN ci hcm).2 hc3).1 rfl rfl ⟨hN, hV⟩) rfl hl.1 rfl (Nat.le_of_ble_eq_true rfl) d_Joined_isMet_40 (by omega) ⟨Nat.zero_le _, Nat.zero_le _⟩
        refine x_cp (key s.heap rfl) ?_
        refine lv_iload_n hx hb d_Joined_isMet_43 rfl (lv_at hl 2 rfl) ?_
        refine lv_icmp_ne (tgt := 61) hx hb d_Joined_isMet_44 (by decide) (fun he => ?_) (fun he => ?_)
        · refine lv_iinc (k := 1) (v := nI (j + 1)) (lv' := [(3, .int (nI (j + 1))), (4, .ref (n_ad N ci)), (2, .int (bI (decide (¬ n_kd N i = 0)))), (0, .ref (n_ad N i)), (1, .ref v)]) hx hb d_Joined_isMet_61 hl rfl (x_inc _) (by decide) rfl (fun ls hl => ?_)
          refine lv_goto (tgt := 15) hx hb d_Joined_isMet_64 (by decide) ?_
          exact ih (r - 1) _ (by omega) ⟨j + 1, by omega, fun j1 c1 h1 h2 => by
            by_cases e : j1 = j
            · rw [e, hci] at h2; cases h2
              have he2 := fun z => he (bI_eq.mpr z)
              by_cases hz : n_kd N i = 0
              · rw [decide_eq_true hz]; rw [decide_eq_false (fun z => z hz)] at he2; exact Bool.not_eq_false _ ▸ he2
              · rw [decide_eq_false hz]; rw [decide_eq_true hz] at he2; exact Bool.not_eq_true _ ▸ he2
            · exact hj0 j1 c1 (by omega) h2, (lv_sub hl [0, 2, 3, 4] rfl)⟩
        · have hset := n_set (hv := hv) hk2 (List.mem_of_getElem? hci) (bI_eq.mp he)
          refine lv_aload_n hx hb d_Joined_isMet_47 rfl (lv_at hl 3 rfl) ?_
          refine fg_Joined_7_Joined hx hb hown hts hE hJ rfl d_Joined_isMet_48 ?_
          refine lv_iconst (v := 1) hx hb d_Joined_isMet_51 (by decide) ?_
          refine lv_icmp_ne (tgt := 59) hx hb d_Joined_isMet_52 (by decide) (fun h1 => ?_) (fun h1 => ?_)
          · refine lv_iconst (v := 0) hx hb d_Joined_isMet_59 (by decide) ?_
            refine x_topi (y := bI (hv i)) (by rw [hval, hset, bI_no (fun z => h1 (by rw [z]; rfl))]) ?_
            exact W.zret (ty := .boolean) hx hb hr (bI_z _) (fun t ht hW => ⟨rfl, ht⟩) (fun q h => by cases h) d_Joined_isMet_60
          · refine lv_iconst (v := 1) hx hb d_Joined_isMet_55 (by decide) ?_
            refine lv_goto (tgt := 60) hx hb d_Joined_isMet_56 (by decide) ?_
            refine x_topi (y := bI (hv i)) (by rw [hval, hset, bI_of ((nI_eq (by omega) (by decide) : nI (n_kd N i) = nI 1 ↔ n_kd N i = 1).mp h1)]) ?_
            exact W.zret (ty := .boolean) hx hb hr (bI_z _) (fun t ht hW => ⟨rfl, ht⟩) (fun q h => by cases h) d_Joined_isMet_60
    · refine lv_if_eq (tgt := 11) hx hb d_Joined_isMet_4 (by decide) (fun h1 => ?_) (fun h1 => ?_)
      · refine lv_iconst (v := 0) hx hb d_Joined_isMet_11 (by decide) ?_
        refine x_topi (y := bI (decide (¬ n_kd N i = 0))) (by rw [bI_no (fun z => z ((nI_eq (by omega) (by decide) : nI (n_kd N i) = nI 0 ↔ n_kd N i = 0).mp h1))]) ?_
        exact hj _ _ ⟨(lv_sub hl [0, 1] rfl), rfl⟩
      · refine lv_iconst (v := 1) hx hb d_Joined_isMet_7 (by decide) ?_
        refine lv_goto (tgt := 12) hx hb d_Joined_isMet_8 (by decide) ?_
        refine x_topi (y := bI (decide (¬ n_kd N i = 0))) (by rw [bI_of (show ¬ n_kd N i = 0 from fun z => h1 (by rw [z]; rfl))]) ?_
        exact hj _ _ ⟨(lv_sub hl [0, 1] rfl), rfl⟩
end
section
/-! statements and layers -/
/-- how, actions, things, who, the condition's number -/
abbrev s_T : Type := Nat × Int64 × Int64 × Int32 × Option Nat
def s_fs (N : n_T) (x : s_T) : List Value := [.int (nI x.1), .long x.2.1, .long x.2.2.1, .int x.2.2.2.1, va_rf (x.2.2.2.2.map (n_ad N))]
def s_ok (made : Nat) (x : s_T) : Prop := x.1 < 16 ∧ ∀ i, x.2.2.2.2 = some i → i < made
def s_m (w k : Int32) : Bool := decide (w = -1 ∨ w = k ∨ w = (k - 100) / 10)
def s_c (hv : Nat → Bool) (o : Option Nat) : Bool := match o with
  | none => true
  | some i => hv i
/-- does a statement suit a request -/
def s_s (cnt : Nat → Int32) (row : Nat → Int64) (hv : Nat → Bool) (k : Int32) (ac th : Int64) (x : s_T) : Bool := s_m x.2.2.2.1 k && (pt_m cnt row x.2.1 ac true != x.1.testBit 1) && (pt_m cnt row x.2.2.1 th false != x.1.testBit 2) && s_c hv x.2.2.2.2
/-- the bits of those under k that f names -/
def l_j (f : Nat → Bool) : Nat → Nat
  | 0 => 0
  | k + 1 => if f k then l_j f k ||| 2 ^ k else l_j f k
theorem l_j_lt (f : Nat → Bool) : ∀ k, l_j f k < 2 ^ k := by
  intro k
  induction k with
  | zero => exact Nat.one_pos
  | succ k ih =>
    unfold l_j
    have h2 : l_j f k < 2 ^ (k + 1) := Nat.lt_trans ih (Nat.pow_lt_pow_right (by omega) (by omega))
    by_cases h : f k = true
    · rw [if_pos h]; exact Nat.or_lt_two_pow h2 (Nat.pow_lt_pow_right (by omega) (by omega))
    · rw [if_neg h]; exact h2
theorem l_j_t {f : Nat → Bool} {k : Nat} (h : f k = true) : l_j f (k + 1) = l_j f k ||| 2 ^ k := by show (if f k then _ else _) = _; rw [if_pos h]
theorem l_j_f {f : Nat → Bool} {k : Nat} (h : f k = false) : l_j f (k + 1) = l_j f k := by show (if f k then _ else _) = _; rw [if_neg (by rw [h]; decide)]
theorem l_j_64 {f : Nat → Bool} {k : Nat} (h : k ≤ 6) : l_j f k < 512 := Nat.lt_of_lt_of_le (l_j_lt f k) (Nat.le_trans (Nat.pow_le_pow_right (by omega) h) (by decide))
/-- one of the first c that is judged, and P -/
def l_h (j c : Nat) (P : Nat → Bool) : Bool := decide (∃ k, k < c ∧ (j.testBit k && P k) = true)
theorem l_h_t {j c k : Nat} {P : Nat → Bool} (hk : k < c) (h1 : j.testBit k = true) (h2 : P k = true) : l_h j c P = true := decide_eq_true ⟨k, hk, by rw [h1, h2]; rfl⟩
theorem l_h_f {j c : Nat} {P : Nat → Bool} (h : ∀ k, k < c → (j.testBit k && P k) = false) : l_h j c P = false := decide_eq_false (fun ⟨k, hk, h1⟩ => by rw [h k hk] at h1; cases h1)
theorem va_at.refs {D : va_G} {cl : List vw_C} {a : Nat} {cA : ClassId} {n : Nat} {f g : Nat → Option Nat} {H : Heap} (h : va_at D cl (a, .inl (cA, n, .inr (.inr (.inr (.inr f))))) H) (e : ∀ j, j < n → f j = g j) : va_at D cl (a, .inl (cA, n, .inr (.inr (.inr (.inr g))))) H := by
  have h1 : H[a]? = some (arrV cA n (fun j => va_rf (f j))) := h
  show H[a]? = some (arrV cA n (fun j => va_rf (g j)))
  rw [h1]
  congr 1
  unfold arrV
  congr 1
  apply Array.ext
  · simp
  · intro i hi _
    simp at hi
    simp [e i hi]
/-- a layer's cells: the object at L, its row behind it, then the six statements -/
def l_W (D : va_G) (cA : Nat → ClassId) (N : n_T) (L c : Nat) (p : Bool) (j : Nat) (sd : Nat → s_T) (H : Heap) : Prop :=
  va_at D x_cl (L, .inr (1, [.ref (L + 1), .int (nI c), .int (bI p), .int (nI j)])) H ∧ va_at D x_cl (L + 1, .inl (cA 6, 6, .inr (.inr (.inr (.inr (fun k => some (L + 2 + k))))))) H ∧ ∀ k, k < 6 → va_at D x_cl (L + 2 + k, .inr (2, s_fs N (sd k))) H
theorem v_W.kF {D : va_G} {cA : Nat → ClassId} {v : Nat} {cnt : Nat → Int32} {row : Nat → Int64} {A : Addr → Prop} {H H1 : Heap} (h : v_W D cA v cnt row H) (h1 : x_F A H H1) (hq : ∀ q : Nat, v ≤ q → q ≤ v + 2 → ¬ A q) : v_W D cA v cnt row H1 := h.kept (fun q a b => h1.2 q (hq q a b))
theorem n_W.kept {D : va_G} {cA : Nat → ClassId} {made : Nat} {N : n_T} {H H1 : Heap} (h : n_W D cA made N H) (hq : ∀ i, i < made → H1[n_ad N i]? = H[n_ad N i]? ∧ (n_kd N i ≠ 3 → H1[n_ad N i - 1]? = H[n_ad N i - 1]?)) : n_W D cA made N H1 := fun i hi => ⟨fun hk => ((h i hi).1 hk).kept (hq i hi).1, fun hk => ⟨((h i hi).2 hk).1.kept (hq i hi).1, ((h i hi).2 hk).2.kept ((hq i hi).2 hk)⟩⟩
theorem n_W.kF {D : va_G} {cA : Nat → ClassId} {made : Nat} {N : n_T} {A : Addr → Prop} {H H1 : Heap} (h : n_W D cA made N H) (h1 : x_F A H H1) (hq : ∀ i, i < made → ¬ A (n_ad N i) ∧ (n_kd N i ≠ 3 → ¬ A (n_ad N i - 1))) : n_W D cA made N H1 := h.kept (fun i hi => ⟨h1.2 _ (hq i hi).1, fun hk => h1.2 _ ((hq i hi).2 hk)⟩)
theorem l_W.kept {D : va_G} {cA : Nat → ClassId} {N : n_T} {L c : Nat} {p : Bool} {j : Nat} {sd : Nat → s_T} {H H1 : Heap} (h : l_W D cA N L c p j sd H) (hq : ∀ q : Nat, L ≤ q → q < L + 8 → H1[q]? = H[q]?) : l_W D cA N L c p j sd H1 :=
  ⟨h.1.kept (hq L (by omega) (by omega)), h.2.1.kept (hq (L + 1) (by omega) (by omega)), fun k hk => (h.2.2 k hk).kept (hq (L + 2 + k) (by omega) (by omega))⟩
theorem x_A1 {a q : Nat} : x_A [a] q ↔ q = a := by unfold x_A; simp
theorem x_A.sub {l m : List Nat} (h : ∀ a ∈ l, a ∈ m) (q : Nat) (hq : x_A l q) : x_A m q := h q hq
theorem x_A2 {a b q : Nat} : x_A [a, b] q ↔ q = a ∨ q = b := by unfold x_A; simp
end
section
set_option maxHeartbeats 4000000 in
set_option maxRecDepth 100000 in
theorem c_Statement_isWho (l : Launch) (D : va_G) (cA : Nat → ClassId) (w : Int32) : Met l y_Statement_isWho [.code y_Statement_isWho b_Statement_isWho 1 (some .boolean)] (x_rm 0 0 0) (x_P D cA [.int w] (fun _ => True)) (x_Q (some (.int (bI (decide ((-1 ≤ w ∧ w ≤ 9) ∨ (100 ≤ w ∧ w ≤ 199)))))) (x_same)) 0 0 (fun _ => False) := by
  refine x_met (own := "DecisionLayers$Statement") (by decide) rfl (Nat.le_of_ble_eq_true rfl) ?_
  intro pp ee s mm below mt cd ls hx hb hr hlk hnm hml hown hts hE hP hl
  have hl : lv_has ls 1 [(0, .int w)] := hl
  refine lv_iload_n hx hb d_Statement_isWho_0 rfl (lv_at hl 0 rfl) ?_
  refine lv_iconst (v := (-1)) hx hb d_Statement_isWho_1 (by decide) ?_
  refine lv_icmp_lt (tgt := 11) hx hb d_Statement_isWho_2 (by decide) (fun h1 => ?_) (fun h1 => ?_)
  · have h0 : ¬ (-1 ≤ w ∧ w ≤ 9) := (fun z => absurd h1 (Int32.not_lt.mpr z.1))
    refine lv_iload_n hx hb d_Statement_isWho_11 rfl (lv_at hl 0 rfl) ?_
    refine lv_bipush (v := 100) hx hb d_Statement_isWho_12 (by decide) ?_
    refine lv_icmp_lt (tgt := 28) hx hb d_Statement_isWho_14 (by decide) (fun h3 => ?_) (fun h3 => ?_)
    · refine lv_iconst (v := 0) hx hb d_Statement_isWho_28 (by decide) ?_
      refine x_topi (y := bI (decide ((-1 ≤ w ∧ w ≤ 9) ∨ (100 ≤ w ∧ w ≤ 199)))) (by rw [bI_no (fun z => z.elim h0 (fun y => absurd h3 (Int32.not_lt.mpr y.1)))]) ?_
      exact W.zret (ty := .boolean) hx hb hr (bI_z _) (fun t ht hW => ⟨rfl, ht⟩) (fun q h => by cases h) d_Statement_isWho_29
    · refine lv_iload_n hx hb d_Statement_isWho_17 rfl (lv_at hl 0 rfl) ?_
      refine lv_sipush (v := 199) hx hb d_Statement_isWho_18 (by decide) ?_
      refine lv_icmp_gt (tgt := 28) hx hb d_Statement_isWho_21 (by decide) (fun h4 => ?_) (fun h4 => ?_)
      · refine lv_iconst (v := 0) hx hb d_Statement_isWho_28 (by decide) ?_
        refine x_topi (y := bI (decide ((-1 ≤ w ∧ w ≤ 9) ∨ (100 ≤ w ∧ w ≤ 199)))) (by rw [bI_no (fun z => z.elim h0 (fun y => absurd h4 (Int32.not_lt.mpr y.2)))]) ?_
        exact W.zret (ty := .boolean) hx hb hr (bI_z _) (fun t ht hW => ⟨rfl, ht⟩) (fun q h => by cases h) d_Statement_isWho_29
      · refine lv_iconst (v := 1) hx hb d_Statement_isWho_24 (by decide) ?_
        refine lv_goto (tgt := 29) hx hb d_Statement_isWho_25 (by decide) ?_
        refine x_topi (y := bI (decide ((-1 ≤ w ∧ w ≤ 9) ∨ (100 ≤ w ∧ w ≤ 199)))) (by rw [bI_of (Or.inr ⟨Int32.not_lt.mp h3, Int32.not_lt.mp h4⟩)]) ?_
        exact W.zret (ty := .boolean) hx hb hr (bI_z _) (fun t ht hW => ⟨rfl, ht⟩) (fun q h => by cases h) d_Statement_isWho_29
  · refine lv_iload_n hx hb d_Statement_isWho_5 rfl (lv_at hl 0 rfl) ?_
    refine lv_bipush (v := 9) hx hb d_Statement_isWho_6 (by decide) ?_
    refine lv_icmp_le (tgt := 24) hx hb d_Statement_isWho_8 (by decide) (fun h2 => ?_) (fun h2 => ?_)
    · refine lv_iconst (v := 1) hx hb d_Statement_isWho_24 (by decide) ?_
      refine lv_goto (tgt := 29) hx hb d_Statement_isWho_25 (by decide) ?_
      refine x_topi (y := bI (decide ((-1 ≤ w ∧ w ≤ 9) ∨ (100 ≤ w ∧ w ≤ 199)))) (by rw [bI_of (Or.inl ⟨Int32.not_lt.mp h1, h2⟩)]) ?_
      exact W.zret (ty := .boolean) hx hb hr (bI_z _) (fun t ht hW => ⟨rfl, ht⟩) (fun q h => by cases h) d_Statement_isWho_29
    · have h0 : ¬ (-1 ≤ w ∧ w ≤ 9) := (fun z => h2 z.2)
      refine lv_iload_n hx hb d_Statement_isWho_11 rfl (lv_at hl 0 rfl) ?_
      refine lv_bipush (v := 100) hx hb d_Statement_isWho_12 (by decide) ?_
      refine lv_icmp_lt (tgt := 28) hx hb d_Statement_isWho_14 (by decide) (fun h3 => ?_) (fun h3 => ?_)
      · refine lv_iconst (v := 0) hx hb d_Statement_isWho_28 (by decide) ?_
        refine x_topi (y := bI (decide ((-1 ≤ w ∧ w ≤ 9) ∨ (100 ≤ w ∧ w ≤ 199)))) (by rw [bI_no (fun z => z.elim h0 (fun y => absurd h3 (Int32.not_lt.mpr y.1)))]) ?_
        exact W.zret (ty := .boolean) hx hb hr (bI_z _) (fun t ht hW => ⟨rfl, ht⟩) (fun q h => by cases h) d_Statement_isWho_29
      · refine lv_iload_n hx hb d_Statement_isWho_17 rfl (lv_at hl 0 rfl) ?_
        refine lv_sipush (v := 199) hx hb d_Statement_isWho_18 (by decide) ?_
        refine lv_icmp_gt (tgt := 28) hx hb d_Statement_isWho_21 (by decide) (fun h4 => ?_) (fun h4 => ?_)
        · refine lv_iconst (v := 0) hx hb d_Statement_isWho_28 (by decide) ?_
          refine x_topi (y := bI (decide ((-1 ≤ w ∧ w ≤ 9) ∨ (100 ≤ w ∧ w ≤ 199)))) (by rw [bI_no (fun z => z.elim h0 (fun y => absurd h4 (Int32.not_lt.mpr y.2)))]) ?_
          exact W.zret (ty := .boolean) hx hb hr (bI_z _) (fun t ht hW => ⟨rfl, ht⟩) (fun q h => by cases h) d_Statement_isWho_29
        · refine lv_iconst (v := 1) hx hb d_Statement_isWho_24 (by decide) ?_
          refine lv_goto (tgt := 29) hx hb d_Statement_isWho_25 (by decide) ?_
          refine x_topi (y := bI (decide ((-1 ≤ w ∧ w ≤ 9) ∨ (100 ≤ w ∧ w ≤ 199)))) (by rw [bI_of (Or.inr ⟨Int32.not_lt.mp h3, Int32.not_lt.mp h4⟩)]) ?_
          exact W.zret (ty := .boolean) hx hb hr (bI_z _) (fun t ht hW => ⟨rfl, ht⟩) (fun q h => by cases h) d_Statement_isWho_29
set_option maxHeartbeats 4000000 in
set_option maxRecDepth 100000 in
theorem c_Statement_whoOfUser (l : Launch) (D : va_G) (cA : Nat → ClassId) (a u : Int32) : Met l y_Statement_whoOfUser [.code y_Statement_whoOfUser b_Statement_whoOfUser 2 (some .int)] (x_rm 0 0 0) (x_P D cA [.int a, .int u] (fun _ => True)) (x_Q (some (.int (100 + 10 * a + u))) (x_same)) 0 0 (fun _ => False) := by
  refine x_met (own := "DecisionLayers$Statement") (by decide) rfl (Nat.le_of_ble_eq_true rfl) ?_
  intro pp ee s mm below mt cd ls hx hb hr hlk hnm hml hown hts hE hP hl
  have hl : lv_has ls 2 [(0, .int a), (1, .int u)] := hl
  refine lv_bipush (v := 100) hx hb d_Statement_whoOfUser_0 (by decide) ?_
  refine lv_bipush (v := 10) hx hb d_Statement_whoOfUser_2 (by decide) ?_
  refine lv_iload_n hx hb d_Statement_whoOfUser_4 rfl (lv_at hl 0 rfl) ?_
  refine lv_imul hx hb d_Statement_whoOfUser_5 ?_
  refine lv_iadd hx hb d_Statement_whoOfUser_6 ?_
  refine lv_iload_n hx hb d_Statement_whoOfUser_7 rfl (lv_at hl 1 rfl) ?_
  refine lv_iadd hx hb d_Statement_whoOfUser_8 ?_
  exact W.iret hx hb hr (fun t ht hW => ⟨rfl, ht⟩) (fun q h => by cases h) d_Statement_whoOfUser_9
set_option maxHeartbeats 4000000 in
set_option maxRecDepth 100000 in
theorem c_Statement_isDenying (l : Launch) (D : va_G) (cA : Nat → ClassId) (S : Nat) (N : n_T) (x : s_T) (h16 : x.1 < 16) : Met l y_Statement_isDenying [.code y_Statement_isDenying b_Statement_isDenying 1 (some .boolean)] (x_rm 0 0 0) (x_P D cA [.ref S] (fun H => va_at D x_cl (S, .inr (2, s_fs N x)) H)) (x_Q (some (.int (bI (x.1.testBit 0)))) (x_same)) 0 0 (fun _ => False) := by
  refine x_met (own := "DecisionLayers$Statement") (by decide) rfl (Nat.le_of_ble_eq_true rfl) ?_
  intro pp ee s mm below mt cd ls hx hb hr hlk hnm hml hown hts hE hP hl
  have hl : lv_has ls 1 [(0, .ref S)] := hl
  refine lv_aload_n hx hb d_Statement_isDenying_0 rfl (lv_at hl 0 rfl) ?_
  refine fg_Statement_9_Statement hx hb hown hts hE hP rfl d_Statement_isDenying_1 ?_
  refine lv_iconst (v := 1) hx hb d_Statement_isDenying_4 (by decide) ?_
  refine lv_iand hx hb d_Statement_isDenying_5 ?_
  refine x_topi (y := bI (x.1.testBit 0)) (mk_1 _ h16) ?_
  refine lv_if_eq (tgt := 13) hx hb d_Statement_isDenying_6 (by decide) (fun h1 => ?_) (fun h1 => ?_)
  · refine lv_iconst (v := 0) hx hb d_Statement_isDenying_13 (by decide) ?_
    refine x_topi (y := bI (x.1.testBit 0)) (by rw [bI_0.mp h1]; rfl) ?_
    exact W.zret (ty := .boolean) hx hb hr (bI_z _) (fun t ht hW => ⟨rfl, ht⟩) (fun q h => by cases h) d_Statement_isDenying_14
  · refine lv_iconst (v := 1) hx hb d_Statement_isDenying_9 (by decide) ?_
    refine lv_goto (tgt := 14) hx hb d_Statement_isDenying_10 (by decide) ?_
    refine x_topi (y := bI (x.1.testBit 0)) (by rw [bI_n0.mp h1]; rfl) ?_
    exact W.zret (ty := .boolean) hx hb hr (bI_z _) (fun t ht hW => ⟨rfl, ht⟩) (fun q h => by cases h) d_Statement_isDenying_14
set_option maxHeartbeats 4000000 in
set_option maxRecDepth 100000 in
theorem c_Statement_names (l : Launch) (D : va_G) (cA : Nat → ClassId) (S : Nat) (N : n_T) (x : s_T) (k : Int32) : Met l y_Statement_names [.code y_Statement_names b_Statement_names 2 (some .boolean)] (x_rm 0 0 0) (x_P D cA [.ref S, .int k] (fun H => va_at D x_cl (S, .inr (2, s_fs N x)) H)) (x_Q (some (.int (bI (decide (x.2.2.2.1 = k))))) (x_same)) 0 0 (fun _ => False) := by
  refine x_met (own := "DecisionLayers$Statement") (by decide) rfl (Nat.le_of_ble_eq_true rfl) ?_
  intro pp ee s mm below mt cd ls hx hb hr hlk hnm hml hown hts hE hP hl
  have hl : lv_has ls 2 [(0, .ref S), (1, .int k)] := hl
  refine lv_aload_n hx hb d_Statement_names_0 rfl (lv_at hl 0 rfl) ?_
  refine fg_Statement_20_Statement hx hb hown hts hE hP rfl d_Statement_names_1 ?_
  refine lv_iload_n hx hb d_Statement_names_4 rfl (lv_at hl 1 rfl) ?_
  refine lv_icmp_ne (tgt := 12) hx hb d_Statement_names_5 (by decide) (fun h1 => ?_) (fun h1 => ?_)
  · refine lv_iconst (v := 0) hx hb d_Statement_names_12 (by decide) ?_
    refine x_topi (y := bI (decide (x.2.2.2.1 = k))) (by rw [bI_no h1]) ?_
    exact W.zret (ty := .boolean) hx hb hr (bI_z _) (fun t ht hW => ⟨rfl, ht⟩) (fun q h => by cases h) d_Statement_names_13
  · refine lv_iconst (v := 1) hx hb d_Statement_names_8 (by decide) ?_
    refine lv_goto (tgt := 13) hx hb d_Statement_names_9 (by decide) ?_
    refine x_topi (y := bI (decide (x.2.2.2.1 = k))) (by rw [bI_of h1]) ?_
    exact W.zret (ty := .boolean) hx hb hr (bI_z _) (fun t ht hW => ⟨rfl, ht⟩) (fun q h => by cases h) d_Statement_names_13
set_option maxHeartbeats 4000000 in
set_option maxRecDepth 100000 in
theorem c_Statement_means (l : Launch) (D : va_G) (cA : Nat → ClassId) (S : Nat) (N : n_T) (x : s_T) (k : Int32) : Met l y_Statement_means [.code y_Statement_means b_Statement_means 2 (some .boolean)] (x_rm 0 0 0) (x_P D cA [.ref S, .int k] (fun H => va_at D x_cl (S, .inr (2, s_fs N x)) H)) (x_Q (some (.int (bI (s_m x.2.2.2.1 k)))) (x_same)) 0 0 (fun _ => False) := by
  refine x_met (own := "DecisionLayers$Statement") (by decide) rfl (Nat.le_of_ble_eq_true rfl) ?_
  intro pp ee s mm below mt cd ls hx hb hr hlk hnm hml hown hts hE hP hl
  have hl : lv_has ls 2 [(0, .ref S), (1, .int k)] := hl
  refine lv_aload_n hx hb d_Statement_means_0 rfl (lv_at hl 0 rfl) ?_
  refine fg_Statement_20_Statement hx hb hown hts hE hP rfl d_Statement_means_1 ?_
  refine lv_iconst (v := (-1)) hx hb d_Statement_means_4 (by decide) ?_
  refine lv_icmp_eq (tgt := 30) hx hb d_Statement_means_5 (by decide) (fun h1 => ?_) (fun h1 => ?_)
  · refine lv_iconst (v := 1) hx hb d_Statement_means_30 (by decide) ?_
    refine lv_goto (tgt := 35) hx hb d_Statement_means_31 (by decide) ?_
    refine x_topi (y := bI (s_m x.2.2.2.1 k)) (by unfold s_m; rw [bI_of (Or.inl h1)]) ?_
    exact W.zret (ty := .boolean) hx hb hr (bI_z _) (fun t ht hW => ⟨rfl, ht⟩) (fun q h => by cases h) d_Statement_means_35
  · refine lv_aload_n hx hb d_Statement_means_8 rfl (lv_at hl 0 rfl) ?_
    refine fg_Statement_20_Statement hx hb hown hts hE hP rfl d_Statement_means_9 ?_
    refine lv_iload_n hx hb d_Statement_means_12 rfl (lv_at hl 1 rfl) ?_
    refine lv_icmp_eq (tgt := 30) hx hb d_Statement_means_13 (by decide) (fun h2 => ?_) (fun h2 => ?_)
    · refine lv_iconst (v := 1) hx hb d_Statement_means_30 (by decide) ?_
      refine lv_goto (tgt := 35) hx hb d_Statement_means_31 (by decide) ?_
      refine x_topi (y := bI (s_m x.2.2.2.1 k)) (by unfold s_m; rw [bI_of (Or.inr (Or.inl h2))]) ?_
      exact W.zret (ty := .boolean) hx hb hr (bI_z _) (fun t ht hW => ⟨rfl, ht⟩) (fun q h => by cases h) d_Statement_means_35
    · refine lv_aload_n hx hb d_Statement_means_16 rfl (lv_at hl 0 rfl) ?_
      refine fg_Statement_20_Statement hx hb hown hts hE hP rfl d_Statement_means_17 ?_
      refine lv_iload_n hx hb d_Statement_means_20 rfl (lv_at hl 1 rfl) ?_
      refine lv_bipush (v := 100) hx hb d_Statement_means_21 (by decide) ?_
      refine lv_isub hx hb d_Statement_means_23 ?_
      refine lv_bipush (v := 10) hx hb d_Statement_means_24 (by decide) ?_
      refine lv_idiv hx hb d_Statement_means_26 (by decide) ?_
      refine lv_icmp_ne (tgt := 34) hx hb d_Statement_means_27 (by decide) (fun h3 => ?_) (fun h3 => ?_)
      · refine lv_iconst (v := 0) hx hb d_Statement_means_34 (by decide) ?_
        refine x_topi (y := bI (s_m x.2.2.2.1 k)) (by unfold s_m; rw [bI_no (fun z => z.elim h1 (fun y => y.elim h2 h3))]) ?_
        exact W.zret (ty := .boolean) hx hb hr (bI_z _) (fun t ht hW => ⟨rfl, ht⟩) (fun q h => by cases h) d_Statement_means_35
      · refine lv_iconst (v := 1) hx hb d_Statement_means_30 (by decide) ?_
        refine lv_goto (tgt := 35) hx hb d_Statement_means_31 (by decide) ?_
        refine x_topi (y := bI (s_m x.2.2.2.1 k)) (by unfold s_m; rw [bI_of (Or.inr (Or.inr h3))]) ?_
        exact W.zret (ty := .boolean) hx hb hr (bI_z _) (fun t ht hW => ⟨rfl, ht⟩) (fun q h => by cases h) d_Statement_means_35
set_option maxHeartbeats 4000000 in
set_option maxRecDepth 100000 in
theorem c_Statement_suits (l : Launch) (D : va_G) (cA : Nat → ClassId) (S : Nat) (N : n_T) (x : s_T) (v : Nat) (cnt : Nat → Int32) (row : Nat → Int64) (made : Nat) (hv : Nat → Bool) (hok : n_ok made N) (hvo : vl_ok cnt) (hVe : n_V cnt row made N hv) (hs : s_ok made x) (k : Int32) (ac th : Int64) : Met l y_Statement_suits [.code y_Statement_suits b_Statement_suits 9 (some .boolean)] (x_rm 9 0 0) (x_P D cA [.ref S, .int k, .long ac, .long th, .ref v] (fun H => va_at D x_cl (S, .inr (2, s_fs N x)) H ∧ n_W D cA made N H ∧ v_W D cA v cnt row H)) (x_Q (some (.int (bI (s_s cnt row hv k ac th x)))) (x_same)) 0 0 (fun _ => False) := by
  refine x_met (own := "DecisionLayers$Statement") (by decide) rfl (Nat.le_of_ble_eq_true rfl) ?_
  intro pp ee s mm below mt cd ls hx hb hr hlk hnm hml hown hts hE hP hl
  have hl : lv_has ls 9 [(0, .ref S), (1, .int k), (2, .long ac), (4, .long th), (6, .ref v)] := hl
  obtain ⟨hS, hN, hV⟩ := hP
  obtain ⟨h16, hsi⟩ := hs
  refine lv_aload_n hx hb d_Statement_suits_0 rfl (lv_at hl 0 rfl) ?_
  refine fg_Statement_9_Statement hx hb hown hts hE hS rfl d_Statement_suits_1 ?_
  refine lv_iconst (v := 2) hx hb d_Statement_suits_4 (by decide) ?_
  refine lv_iand hx hb d_Statement_suits_5 ?_
  refine x_join 14 (fun ls st => lv_has ls 9 [(0, .ref S), (1, .int k), (2, .long ac), (4, .long th), (6, .ref v)] ∧ st = [.int (bI (x.1.testBit 1))]) ?_ (fun hj => ?_)
  · intro ls st hj
    obtain ⟨hl, rfl⟩ := hj
    refine lv_istore (lv' := [(7, .int (bI (x.1.testBit 1))), (0, .ref S), (1, .int k), (2, .long ac), (4, .long th), (6, .ref v)]) hx hb d_Statement_suits_14 hl (by decide) rfl (fun ls hl => ?_)
    refine lv_aload_n hx hb d_Statement_suits_16 rfl (lv_at hl 1 rfl) ?_
    refine fg_Statement_9_Statement hx hb hown hts hE hS rfl d_Statement_suits_17 ?_
    refine lv_iconst (v := 4) hx hb d_Statement_suits_20 (by decide) ?_
    refine lv_iand hx hb d_Statement_suits_21 ?_
    refine x_join 30 (fun ls st => lv_has ls 9 [(7, .int (bI (x.1.testBit 1))), (0, .ref S), (1, .int k), (2, .long ac), (4, .long th), (6, .ref v)] ∧ st = [.int (bI (x.1.testBit 2))]) ?_ (fun hj => ?_)
    · intro ls st hj
      obtain ⟨hl, rfl⟩ := hj
      refine lv_istore (lv' := [(8, .int (bI (x.1.testBit 2))), (7, .int (bI (x.1.testBit 1))), (0, .ref S), (1, .int k), (2, .long ac), (4, .long th), (6, .ref v)]) hx hb d_Statement_suits_30 hl (by decide) rfl (fun ls hl => ?_)
      refine lv_aload_n hx hb d_Statement_suits_32 rfl (lv_at hl 2 rfl) ?_
      refine lv_iload_n hx hb d_Statement_suits_33 rfl (lv_at hl 3 rfl) ?_
      refine x_cp (k_Statement_27 (As := [.int k]) (rest := []) hx hb hml hown hts (c_Statement_means l D cA S N x k) (x_preV hE hS rfl rfl hS) rfl hl.1 rfl (Nat.le_of_ble_eq_true rfl) d_Statement_suits_34 (by decide) ⟨Nat.zero_le _, Nat.zero_le _⟩) ?_
      refine lv_if_eq (tgt := 96) hx hb d_Statement_suits_37 (by decide) (fun m1 => ?_) (fun m1 => ?_)
      · refine lv_iconst (v := 0) hx hb d_Statement_suits_96 (by decide) ?_
        refine x_topi (y := bI (s_s cnt row hv k ac th x)) (by unfold s_s; rw [bI_0.mp m1]; rfl) ?_
        exact W.zret (ty := .boolean) hx hb hr (bI_z _) (fun t ht hW => ⟨rfl, ht⟩) (fun q h => by cases h) d_Statement_suits_97
      · refine lv_aload_n hx hb d_Statement_suits_40 rfl (lv_at hl 2 rfl) ?_
        refine fg_Statement_13_Statement hx hb hown hts hE hS rfl d_Statement_suits_41 ?_
        refine lv_lload_n hx hb d_Statement_suits_44 rfl (lv_at hl 4 rfl) ?_
        refine lv_iconst (v := 1) hx hb d_Statement_suits_45 (by decide) ?_
        refine lv_aload hx hb d_Statement_suits_46 (lv_at hl 6 rfl) ?_
        refine x_cp (k_Statement_31 (As := [.long x.2.1, .long ac, .int (bI true), .ref v]) (rest := []) hx hb hml hown hts (c_Pattern_fits l D cA v cnt row x.2.1 ac true) (x_preS hE hV) rfl hl.1 rfl (Nat.le_of_ble_eq_true rfl) d_Statement_suits_48 (by decide) ⟨Nat.zero_le _, Nat.zero_le _⟩) ?_
        refine lv_iload hx hb d_Statement_suits_51 (lv_at hl 1 rfl) ?_
        refine lv_icmp_eq (tgt := 96) hx hb d_Statement_suits_53 (by decide) (fun m2 => ?_) (fun m2 => ?_)
        · refine lv_iconst (v := 0) hx hb d_Statement_suits_96 (by decide) ?_
          refine x_topi (y := bI (s_s cnt row hv k ac th x)) (by unfold s_s; rw [bI_n0.mp m1, bI_eq.mp m2]; simp [bI]) ?_
          exact W.zret (ty := .boolean) hx hb hr (bI_z _) (fun t ht hW => ⟨rfl, ht⟩) (fun q h => by cases h) d_Statement_suits_97
        · have m2 : (pt_m cnt row x.2.1 ac true != x.1.testBit 1) = true := by have h9 := fun z => m2 (bI_eq.mpr z); revert h9; cases pt_m cnt row x.2.1 ac true <;> cases x.1.testBit 1 <;> intro h9 <;> first | rfl | exact absurd rfl h9
          refine lv_aload_n hx hb d_Statement_suits_56 rfl (lv_at hl 2 rfl) ?_
          refine fg_Statement_17_Statement hx hb hown hts hE hS rfl d_Statement_suits_57 ?_
          refine lv_lload hx hb d_Statement_suits_60 (lv_at hl 5 rfl) ?_
          refine lv_iconst (v := 0) hx hb d_Statement_suits_62 (by decide) ?_
          refine lv_aload hx hb d_Statement_suits_63 (lv_at hl 6 rfl) ?_
          refine x_cp (k_Statement_31 (As := [.long x.2.2.1, .long th, .int (bI false), .ref v]) (rest := []) hx hb hml hown hts (c_Pattern_fits l D cA v cnt row x.2.2.1 th false) (x_preS hE hV) rfl hl.1 rfl (Nat.le_of_ble_eq_true rfl) d_Statement_suits_65 (by decide) ⟨Nat.zero_le _, Nat.zero_le _⟩) ?_
          refine lv_iload hx hb d_Statement_suits_68 (lv_at hl 0 rfl) ?_
          refine lv_icmp_eq (tgt := 96) hx hb d_Statement_suits_70 (by decide) (fun m3 => ?_) (fun m3 => ?_)
          · refine lv_iconst (v := 0) hx hb d_Statement_suits_96 (by decide) ?_
            refine x_topi (y := bI (s_s cnt row hv k ac th x)) (by unfold s_s; rw [bI_n0.mp m1, m2, bI_eq.mp m3]; simp [bI]) ?_
            exact W.zret (ty := .boolean) hx hb hr (bI_z _) (fun t ht hW => ⟨rfl, ht⟩) (fun q h => by cases h) d_Statement_suits_97
          · have m3 : (pt_m cnt row x.2.2.1 th false != x.1.testBit 2) = true := by have h9 := fun z => m3 (bI_eq.mpr z); revert h9; cases pt_m cnt row x.2.2.1 th false <;> cases x.1.testBit 2 <;> intro h9 <;> first | rfl | exact absurd rfl h9
            have hR : s_s cnt row hv k ac th x = s_c hv x.2.2.2.2 := by unfold s_s; rw [bI_n0.mp m1, m2, m3]; rfl
            cases hsv : x.2.2.2.2 with
            | none =>
              refine lv_aload_n hx hb d_Statement_suits_73 rfl (lv_at hl 2 rfl) ?_
              refine fg_Statement_23_Statement hx hb hown hts hE hS rfl d_Statement_suits_74 ?_
              refine x_topv (y := .null) (by rw [hsv]; rfl) ?_
              refine lv_ifnullN (tgt := 92) hx hb d_Statement_suits_77 (by decide) ?_
              refine lv_iconst (v := 1) hx hb d_Statement_suits_92 (by decide) ?_
              refine lv_goto (tgt := 97) hx hb d_Statement_suits_93 (by decide) ?_
              refine x_topi (y := bI (s_s cnt row hv k ac th x)) (by rw [hR, hsv]; rfl) ?_
              exact W.zret (ty := .boolean) hx hb hr (bI_z _) (fun t ht hW => ⟨rfl, ht⟩) (fun q h => by cases h) d_Statement_suits_97
            | some i =>
              have him := hsi i hsv
              obtain ⟨-, -, hd5, hct, -⟩ := hok i him
              refine lv_aload_n hx hb d_Statement_suits_73 rfl (lv_at hl 2 rfl) ?_
              refine fg_Statement_23_Statement hx hb hown hts hE hS rfl d_Statement_suits_74 ?_
              refine x_topv (y := .ref (n_ad N i)) (by rw [hsv]; rfl) ?_
              refine lv_ifnull hx hb d_Statement_suits_77 ?_
              refine lv_aload_n hx hb d_Statement_suits_80 rfl (lv_at hl 2 rfl) ?_
              refine fg_Statement_23_Statement hx hb hown hts hE hS rfl d_Statement_suits_81 ?_
              refine x_topv (y := .ref (n_ad N i)) (by rw [hsv]; rfl) ?_
              refine lv_aload hx hb d_Statement_suits_84 (lv_at hl 6 rfl) ?_
              have key : CallRun pp l ee (x_rm 9 0 0) s mm [Value.ref S, Value.int k, Value.long ac, Value.long th, Value.ref v].toArray below mt cd s.heap [] 0 0 0 0 (F0 mm 86 ls [.ref v, .ref (n_ad N i)]) [] (x_Q (some (.int (bI (hv i)))) x_same (Value.ref (n_ad N i) :: [Value.ref v]).toArray) (fun _ => False) := by
                by_cases hc3 : n_kd N i = 3
                · obtain ⟨o8, k8, m8⟩ := hct hc3
                  have hTc := (hN i him).1 hc3
                  rw [show hv i = cn_t cnt row (n_op N i) (n_ky N i) (n_tt N i) (n_mk N i) by rw [hVe i him, if_pos hc3]]
                  exact k_Statement_37_Test (As := [.ref v]) (rest := []) hx hb hml hown hts hE (c_Test_isMet l D cA (n_ad N i) (nI (n_dp N i)) (n_op N i) (n_ky N i) (n_tt N i) (n_mk N i) v cnt row 4 o8 k8 m8 hvo) (x_preV hE hTc rfl rfl ⟨hTc, hV⟩) rfl hl.1 rfl (Nat.le_of_ble_eq_true rfl) d_Statement_suits_86 (by decide) ⟨Nat.zero_le _, Nat.zero_le _⟩
                · exact k_Statement_37_Joined (As := [.ref v]) (rest := []) hx hb hml hown hts hE (c_Joined_isMet l D cA v cnt row made N hv hok hvo hVe 5 i him hc3 hd5) (x_preV hE ((hN i him).2 hc3).1 rfl rfl ⟨hN, hV⟩) rfl hl.1 rfl (Nat.le_of_ble_eq_true rfl) d_Statement_suits_86 (by decide) ⟨Nat.zero_le _, Nat.zero_le _⟩
              refine x_cp key ?_
              refine lv_if_eq (tgt := 96) hx hb d_Statement_suits_89 (by decide) (fun m4 => ?_) (fun m4 => ?_)
              · refine lv_iconst (v := 0) hx hb d_Statement_suits_96 (by decide) ?_
                refine x_topi (y := bI (s_s cnt row hv k ac th x)) (by rw [hR, hsv]; show 0 = bI (hv i); rw [bI_0.mp m4]; rfl) ?_
                exact W.zret (ty := .boolean) hx hb hr (bI_z _) (fun t ht hW => ⟨rfl, ht⟩) (fun q h => by cases h) d_Statement_suits_97
              · refine lv_iconst (v := 1) hx hb d_Statement_suits_92 (by decide) ?_
                refine lv_goto (tgt := 97) hx hb d_Statement_suits_93 (by decide) ?_
                refine x_topi (y := bI (s_s cnt row hv k ac th x)) (by rw [hR, hsv]; show 1 = bI (hv i); rw [bI_n0.mp m4]; rfl) ?_
                exact W.zret (ty := .boolean) hx hb hr (bI_z _) (fun t ht hW => ⟨rfl, ht⟩) (fun q h => by cases h) d_Statement_suits_97
    · refine lv_if_eq (tgt := 29) hx hb d_Statement_suits_22 (by decide) (fun h1 => ?_) (fun h1 => ?_)
      · refine lv_iconst (v := 0) hx hb d_Statement_suits_29 (by decide) ?_
        refine x_topi (y := bI (x.1.testBit 2)) (by rw [(mk_4 _ h16).mp h1]; rfl) ?_
        exact hj _ _ ⟨(lv_sub hl [0, 1, 2, 3, 4, 5] rfl), rfl⟩
      · refine lv_iconst (v := 1) hx hb d_Statement_suits_25 (by decide) ?_
        refine lv_goto (tgt := 30) hx hb d_Statement_suits_26 (by decide) ?_
        refine x_topi (y := bI (x.1.testBit 2)) (by rw [show x.1.testBit 2 = true from Bool.not_eq_false _ ▸ (fun z => h1 ((mk_4 _ h16).mpr z))]; rfl) ?_
        exact hj _ _ ⟨(lv_sub hl [0, 1, 2, 3, 4, 5] rfl), rfl⟩
  · refine lv_if_eq (tgt := 13) hx hb d_Statement_suits_6 (by decide) (fun h1 => ?_) (fun h1 => ?_)
    · refine lv_iconst (v := 0) hx hb d_Statement_suits_13 (by decide) ?_
      refine x_topi (y := bI (x.1.testBit 1)) (by rw [(mk_2 _ h16).mp h1]; rfl) ?_
      exact hj _ _ ⟨(lv_sub hl [0, 1, 2, 3, 4] rfl), rfl⟩
    · refine lv_iconst (v := 1) hx hb d_Statement_suits_9 (by decide) ?_
      refine lv_goto (tgt := 14) hx hb d_Statement_suits_10 (by decide) ?_
      refine x_topi (y := bI (x.1.testBit 1)) (by rw [show x.1.testBit 1 = true from Bool.not_eq_false _ ▸ (fun z => h1 ((mk_2 _ h16).mpr z))]; rfl) ?_
      exact hj _ _ ⟨(lv_sub hl [0, 1, 2, 3, 4] rfl), rfl⟩
end
section
set_option maxHeartbeats 4000000 in
set_option maxRecDepth 100000 in
theorem c_Statement_become_N (l : Launch) (D : va_G) (cA : Nat → ClassId) (S : Nat) (N : n_T) (x : s_T) (hw : Nat) (ac th : Int64) (wh : Int32) : Met l y_Statement_become [.code y_Statement_become b_Statement_become 8 none] (x_rm 0 0 0) (x_P D cA [.ref S, .int (nI hw), .long ac, .long th, .int wh, .null] (fun H => va_at D x_cl (S, .inr (2, s_fs N x)) H)) (x_Q (none) (fun H H1 => x_F (x_A [S]) H H1 ∧ va_at D x_cl (S, .inr (2, s_fs N (hw, ac, th, wh, none))) H1)) 0 0 (x_A [S]) := by
  refine x_met (own := "DecisionLayers$Statement") (by decide) rfl (Nat.le_of_ble_eq_true rfl) ?_
  intro pp ee s mm below mt cd ls hx hb hr hlk hnm hml hown hts hE hP hl
  have hl : lv_has ls 8 [(0, .ref S), (1, .int (nI hw)), (2, .long ac), (4, .long th), (6, .int wh), (7, .null)] := hl
  have hF : ∀ q ∈ ([] : List Loc), x_A [S] q.base := t_nil
  refine lv_aload_n hx hb d_Statement_become_0 rfl (lv_at hl 0 rfl) ?_
  refine lv_iload_n hx hb d_Statement_become_1 rfl (lv_at hl 1 rfl) ?_
  refine fp_Statement_9_Statement hx hb hown hts hE hP rfl rfl (Nat.le_of_ble_eq_true rfl) d_Statement_become_2 (fun H1 k1 g1 o1 => ?_)
  have hF := t_lc (a := S) (i := k1) hF (x_A1.mpr rfl)
  refine lv_aload_n hx hb d_Statement_become_5 rfl (lv_at hl 0 rfl) ?_
  refine lv_lload_n hx hb d_Statement_become_6 rfl (lv_at hl 2 rfl) ?_
  refine fp_Statement_13_Statement hx hb hown hts hE g1 rfl rfl (Nat.le_of_ble_eq_true rfl) d_Statement_become_7 (fun H2 k2 g2 o2 => ?_)
  have hF := t_lc (a := S) (i := k2) hF (x_A1.mpr rfl)
  refine lv_aload_n hx hb d_Statement_become_10 rfl (lv_at hl 0 rfl) ?_
  refine lv_lload hx hb d_Statement_become_11 (lv_at hl 3 rfl) ?_
  refine fp_Statement_17_Statement hx hb hown hts hE g2 rfl rfl (Nat.le_of_ble_eq_true rfl) d_Statement_become_13 (fun H3 k3 g3 o3 => ?_)
  have hF := t_lc (a := S) (i := k3) hF (x_A1.mpr rfl)
  refine lv_aload_n hx hb d_Statement_become_16 rfl (lv_at hl 0 rfl) ?_
  refine lv_iload hx hb d_Statement_become_17 (lv_at hl 4 rfl) ?_
  refine fp_Statement_20_Statement hx hb hown hts hE g3 rfl rfl (Nat.le_of_ble_eq_true rfl) d_Statement_become_19 (fun H4 k4 g4 o4 => ?_)
  have hF := t_lc (a := S) (i := k4) hF (x_A1.mpr rfl)
  refine lv_aload_n hx hb d_Statement_become_22 rfl (lv_at hl 0 rfl) ?_
  refine lv_aloadN hx hb d_Statement_become_23 (lv_at hl 5 rfl) ?_
  refine fp_Statement_23_Statement hx hb hown hts hE g4 rfl rfl (Nat.le_of_ble_eq_true rfl) d_Statement_become_25 (fun H5 k5 g5 o5 => ?_)
  have hF := t_lc (a := S) (i := k5) hF (x_A1.mpr rfl)
  exact W.vret hx hb hr (fun t ht hW => ⟨rfl, by rw [ht]; exact ⟨((((x_F.of1 o1 (x_A1.mpr rfl)).trans (x_F.of1 o2 (x_A1.mpr rfl))).trans (x_F.of1 o3 (x_A1.mpr rfl))).trans (x_F.of1 o4 (x_A1.mpr rfl))).trans (x_F.of1 o5 (x_A1.mpr rfl)), g5⟩⟩) hF d_Statement_become_28
set_option maxHeartbeats 4000000 in
set_option maxRecDepth 100000 in
theorem c_Statement_become_R (l : Launch) (D : va_G) (cA : Nat → ClassId) (S : Nat) (N : n_T) (x : s_T) (hw : Nat) (ac th : Int64) (wh : Int32) (i : Nat) : Met l y_Statement_become [.code y_Statement_become b_Statement_become 8 none] (x_rm 0 0 0) (x_P D cA [.ref S, .int (nI hw), .long ac, .long th, .int wh, .ref (n_ad N i)] (fun H => va_at D x_cl (S, .inr (2, s_fs N x)) H)) (x_Q (none) (fun H H1 => x_F (x_A [S]) H H1 ∧ va_at D x_cl (S, .inr (2, s_fs N (hw, ac, th, wh, some i))) H1)) 0 0 (x_A [S]) := by
  refine x_met (own := "DecisionLayers$Statement") (by decide) rfl (Nat.le_of_ble_eq_true rfl) ?_
  intro pp ee s mm below mt cd ls hx hb hr hlk hnm hml hown hts hE hP hl
  have hl : lv_has ls 8 [(0, .ref S), (1, .int (nI hw)), (2, .long ac), (4, .long th), (6, .int wh), (7, .ref (n_ad N i))] := hl
  have hF : ∀ q ∈ ([] : List Loc), x_A [S] q.base := t_nil
  refine lv_aload_n hx hb d_Statement_become_0 rfl (lv_at hl 0 rfl) ?_
  refine lv_iload_n hx hb d_Statement_become_1 rfl (lv_at hl 1 rfl) ?_
  refine fp_Statement_9_Statement hx hb hown hts hE hP rfl rfl (Nat.le_of_ble_eq_true rfl) d_Statement_become_2 (fun H1 k1 g1 o1 => ?_)
  have hF := t_lc (a := S) (i := k1) hF (x_A1.mpr rfl)
  refine lv_aload_n hx hb d_Statement_become_5 rfl (lv_at hl 0 rfl) ?_
  refine lv_lload_n hx hb d_Statement_become_6 rfl (lv_at hl 2 rfl) ?_
  refine fp_Statement_13_Statement hx hb hown hts hE g1 rfl rfl (Nat.le_of_ble_eq_true rfl) d_Statement_become_7 (fun H2 k2 g2 o2 => ?_)
  have hF := t_lc (a := S) (i := k2) hF (x_A1.mpr rfl)
  refine lv_aload_n hx hb d_Statement_become_10 rfl (lv_at hl 0 rfl) ?_
  refine lv_lload hx hb d_Statement_become_11 (lv_at hl 3 rfl) ?_
  refine fp_Statement_17_Statement hx hb hown hts hE g2 rfl rfl (Nat.le_of_ble_eq_true rfl) d_Statement_become_13 (fun H3 k3 g3 o3 => ?_)
  have hF := t_lc (a := S) (i := k3) hF (x_A1.mpr rfl)
  refine lv_aload_n hx hb d_Statement_become_16 rfl (lv_at hl 0 rfl) ?_
  refine lv_iload hx hb d_Statement_become_17 (lv_at hl 4 rfl) ?_
  refine fp_Statement_20_Statement hx hb hown hts hE g3 rfl rfl (Nat.le_of_ble_eq_true rfl) d_Statement_become_19 (fun H4 k4 g4 o4 => ?_)
  have hF := t_lc (a := S) (i := k4) hF (x_A1.mpr rfl)
  refine lv_aload_n hx hb d_Statement_become_22 rfl (lv_at hl 0 rfl) ?_
  refine lv_aload hx hb d_Statement_become_23 (lv_at hl 5 rfl) ?_
  refine fp_Statement_23_Statement hx hb hown hts hE g4 rfl rfl (Nat.le_of_ble_eq_true rfl) d_Statement_become_25 (fun H5 k5 g5 o5 => ?_)
  have hF := t_lc (a := S) (i := k5) hF (x_A1.mpr rfl)
  exact W.vret hx hb hr (fun t ht hW => ⟨rfl, by rw [ht]; exact ⟨((((x_F.of1 o1 (x_A1.mpr rfl)).trans (x_F.of1 o2 (x_A1.mpr rfl))).trans (x_F.of1 o3 (x_A1.mpr rfl))).trans (x_F.of1 o4 (x_A1.mpr rfl))).trans (x_F.of1 o5 (x_A1.mpr rfl)), g5⟩⟩) hF d_Statement_become_28
set_option maxHeartbeats 4000000 in
set_option maxRecDepth 100000 in
theorem c_Layer_isFull (l : Launch) (D : va_G) (cA : Nat → ClassId) (N : n_T) (L c : Nat) (p : Bool) (j : Nat) (sd : Nat → s_T) (hc : c ≤ 6) : Met l y_Layer_isFull [.code y_Layer_isFull b_Layer_isFull 1 (some .boolean)] (x_rm 0 0 0) (x_P D cA [.ref L] (fun H => l_W D cA N L c p j sd H)) (x_Q (some (.int (bI (decide (6 ≤ c))))) (x_same)) 0 0 (fun _ => False) := by
  refine x_met (own := "DecisionLayers$Layer") (by decide) rfl (Nat.le_of_ble_eq_true rfl) ?_
  intro pp ee s mm below mt cd ls hx hb hr hlk hnm hml hown hts hE hP hl
  have hl : lv_has ls 1 [(0, .ref L)] := hl
  obtain ⟨hL, hRw, hSt⟩ := id hP
  refine lv_aload_n hx hb d_Layer_isFull_0 rfl (lv_at hl 0 rfl) ?_
  refine fg_Layer_18_Layer hx hb hown hts hE hL rfl d_Layer_isFull_1 ?_
  refine lv_bipush (v := 6) hx hb d_Layer_isFull_4 (by decide) ?_
  refine lv_icmp_lt (tgt := 13) hx hb d_Layer_isFull_6 (by decide) (fun h1 => ?_) (fun h1 => ?_)
  · refine lv_iconst (v := 0) hx hb d_Layer_isFull_13 (by decide) ?_
    refine x_topi (y := bI (decide (6 ≤ c))) (by rw [bI_no (Nat.not_le.mpr (n_gt (i := 6) h1 (by omega) (by decide)))]) ?_
    exact W.zret (ty := .boolean) hx hb hr (bI_z _) (fun t ht hW => ⟨rfl, ht⟩) (fun q h => by cases h) d_Layer_isFull_14
  · refine lv_iconst (v := 1) hx hb d_Layer_isFull_9 (by decide) ?_
    refine lv_goto (tgt := 14) hx hb d_Layer_isFull_10 (by decide) ?_
    refine x_topi (y := bI (decide (6 ≤ c))) (by rw [bI_of (n_le (i := 6) h1 (by omega) (by decide))]) ?_
    exact W.zret (ty := .boolean) hx hb hr (bI_z _) (fun t ht hW => ⟨rfl, ht⟩) (fun q h => by cases h) d_Layer_isFull_14
set_option maxHeartbeats 4000000 in
set_option maxRecDepth 100000 in
theorem c_Layer_empty (l : Launch) (D : va_G) (cA : Nat → ClassId) (N : n_T) (L c : Nat) (p : Bool) (j : Nat) (sd : Nat → s_T) : Met l y_Layer_empty [.code y_Layer_empty b_Layer_empty 1 none] (x_rm 0 0 0) (x_P D cA [.ref L] (fun H => l_W D cA N L c p j sd H)) (x_Q (none) (fun H H1 => x_F (x_A [L]) H H1 ∧ l_W D cA N L 0 false j sd H1)) 0 0 (x_A [L]) := by
  refine x_met (own := "DecisionLayers$Layer") (by decide) rfl (Nat.le_of_ble_eq_true rfl) ?_
  intro pp ee s mm below mt cd ls hx hb hr hlk hnm hml hown hts hE hP hl
  have hl : lv_has ls 1 [(0, .ref L)] := hl
  obtain ⟨hL, hRw, hSt⟩ := id hP
  have hF : ∀ q ∈ ([] : List Loc), x_A [L] q.base := t_nil
  refine lv_aload_n hx hb d_Layer_empty_0 rfl (lv_at hl 0 rfl) ?_
  refine lv_iconst (v := 0) hx hb d_Layer_empty_1 (by decide) ?_
  refine fp_Layer_18_Layer hx hb hown hts hE hL rfl rfl (Nat.le_of_ble_eq_true rfl) d_Layer_empty_2 (fun H1 k1 g1 o1 => ?_)
  have hF := t_lc (a := L) (i := k1) hF (x_A1.mpr rfl)
  refine lv_aload_n hx hb d_Layer_empty_5 rfl (lv_at hl 0 rfl) ?_
  refine lv_iconst (v := 0) hx hb d_Layer_empty_6 (by decide) ?_
  refine fp_Layer_26_Layer hx hb hown hts hE g1 rfl rfl (Nat.le_of_ble_eq_true rfl) d_Layer_empty_7 (fun H2 k2 g2 o2 => ?_)
  have hF := t_lc (a := L) (i := k2) hF (x_A1.mpr rfl)
  exact W.vret hx hb hr (fun t ht hW => ⟨rfl, by rw [ht]; exact ⟨(x_F.of1 o1 (x_A1.mpr rfl)).trans (x_F.of1 o2 (x_A1.mpr rfl)), g2, (hRw.k1 o1 (show L + 1 ≠ L by omega)).k1 o2 (show L + 1 ≠ L by omega), fun k hk => ((hSt k hk).k1 o1 (show L + 2 + k ≠ L by omega)).k1 o2 (show L + 2 + k ≠ L by omega)⟩⟩) hF d_Layer_empty_10
set_option maxHeartbeats 4000000 in
set_option maxRecDepth 100000 in
theorem c_Layer_append_N (l : Launch) (D : va_G) (cA : Nat → ClassId) (N : n_T) (L c : Nat) (p : Bool) (j : Nat) (sd : Nat → s_T) (hc : c < 6) (hw : Nat) (ac th : Int64) (wh : Int32) : Met l y_Layer_append [.code y_Layer_append b_Layer_append 8 (some .int)] (x_rm 1 0 0) (x_P D cA [.ref L, .int (nI hw), .long ac, .long th, .int wh, .null] (fun H => l_W D cA N L c p j sd H)) (x_Q (some (.int (nI c))) (fun H H1 => x_F (x_A [L, L + 2 + c]) H H1 ∧ l_W D cA N L (c + 1) true j (va_up sd c (hw, ac, th, wh, none)) H1)) 0 0 (x_A [L, L + 2 + c]) := by
  refine x_met (own := "DecisionLayers$Layer") (by decide) rfl (Nat.le_of_ble_eq_true rfl) ?_
  intro pp ee s mm below mt cd ls hx hb hr hlk hnm hml hown hts hE hP hl
  have hl : lv_has ls 8 [(0, .ref L), (1, .int (nI hw)), (2, .long ac), (4, .long th), (6, .int wh), (7, .null)] := hl
  obtain ⟨hL, hRw, hSt⟩ := id hP
  have hF : ∀ q ∈ ([] : List Loc), x_A [L, L + 2 + c] q.base := t_nil
  refine lv_aload_n hx hb d_Layer_append_0 rfl (lv_at hl 0 rfl) ?_
  refine fg_Layer_18_Layer hx hb hown hts hE hL rfl d_Layer_append_1 ?_
  refine lv_bipush (v := 6) hx hb d_Layer_append_4 (by decide) ?_
  refine lv_icmp_lt (tgt := 12) hx hb d_Layer_append_6 (by decide) (fun h1 => ?_) (fun h1 => ?_)
  · refine lv_aload_n hx hb d_Layer_append_12 rfl (lv_at hl 0 rfl) ?_
    refine fg_Layer_13_Layer hx hb hown hts hE hL rfl d_Layer_append_13 ?_
    refine lv_aload_n hx hb d_Layer_append_16 rfl (lv_at hl 0 rfl) ?_
    refine fg_Layer_18_Layer hx hb hown hts hE hL rfl d_Layer_append_17 ?_
    refine x_aald hx hb hE.2.2 hRw 6 rfl hc (by decide) d_Layer_append_20 ?_
    refine x_topv (y := .ref (L + 2 + c)) (rfl) ?_
    refine lv_iload_n hx hb d_Layer_append_21 rfl (lv_at hl 1 rfl) ?_
    refine lv_lload_n hx hb d_Layer_append_22 rfl (lv_at hl 2 rfl) ?_
    refine lv_lload hx hb d_Layer_append_23 (lv_at hl 3 rfl) ?_
    refine lv_iload hx hb d_Layer_append_25 (lv_at hl 4 rfl) ?_
    refine lv_aloadN hx hb d_Layer_append_27 (lv_at hl 5 rfl) ?_
    refine x_cv (k_Layer_22 (As := [.int (nI hw), .long ac, .long th, .int wh, .null]) (rest := []) hx hb hml hown hts (c_Statement_become_N l D cA (L + 2 + c) N (sd c) hw ac th wh) (x_preV hE (hSt c hc) rfl rfl (hSt c hc)) rfl hl.1 rfl (Nat.le_of_ble_eq_true rfl) d_Layer_append_29 (by decide) ⟨Nat.zero_le _, Nat.zero_le _⟩) (fun H1 L1 p1 f1 => ?_)
    have hF := t_lL hF (fun q h => x_A.sub (by simp) q.base (f1 q h))
    obtain ⟨e1, s1⟩ := p1
    have hL := hL.kF e1 (by rw [x_A1]; show ¬ L = L + 2 + c; omega)
    have hRw := hRw.kF e1 (by rw [x_A1]; show ¬ L + 1 = L + 2 + c; omega)
    have hSt1 : ∀ k, k < 6 → va_at D x_cl (L + 2 + k, .inr (2, s_fs N (va_up sd c (hw, ac, th, wh, none) k))) H1 := fun k hk => by
      by_cases e : k = c
      · rw [e]; show va_at D x_cl (L + 2 + c, .inr (2, s_fs N (if c = c then _ else _))) H1; rw [if_pos rfl]; exact s1
      · show va_at D x_cl (L + 2 + k, .inr (2, s_fs N (if k = c then _ else _))) H1; rw [if_neg e]; exact (hSt k hk).kF e1 (by rw [x_A1]; show ¬ L + 2 + k = L + 2 + c; omega)
    refine lv_aload_n hx hb d_Layer_append_32 rfl (lv_at hl 0 rfl) ?_
    refine lv_iconst (v := 1) hx hb d_Layer_append_33 (by decide) ?_
    refine fp_Layer_26_Layer hx hb hown hts hE hL rfl rfl (Nat.le_of_ble_eq_true rfl) d_Layer_append_34 (fun H2 k2 g2 o2 => ?_)
    have hF := t_lc (a := L) (i := k2) hF (by unfold x_A; simp)
    refine lv_aload_n hx hb d_Layer_append_37 rfl (lv_at hl 0 rfl) ?_
    refine lv_dup hx hb d_Layer_append_38 rfl ?_
    refine fg_Layer_18_Layer hx hb hown hts hE g2 rfl d_Layer_append_39 ?_
    refine lv_iconst (v := 1) hx hb d_Layer_append_42 (by decide) ?_
    refine lv_iadd hx hb d_Layer_append_43 ?_
    refine x_topi (y := nI (c + 1)) (nI_succ c).symm ?_
    refine fp_Layer_18_Layer hx hb hown hts hE g2 rfl rfl (Nat.le_of_ble_eq_true rfl) d_Layer_append_44 (fun H3 k3 g3 o3 => ?_)
    have hF := t_lc (a := L) (i := k3) hF (by unfold x_A; simp)
    refine lv_aload_n hx hb d_Layer_append_47 rfl (lv_at hl 0 rfl) ?_
    refine fg_Layer_18_Layer hx hb hown hts hE g3 rfl d_Layer_append_48 ?_
    refine lv_iconst (v := 1) hx hb d_Layer_append_51 (by decide) ?_
    refine lv_isub hx hb d_Layer_append_52 ?_
    refine x_topi (y := nI c) (nI_pred c) ?_
    exact W.iret hx hb hr (fun t ht hW => ⟨rfl, by rw [ht]; exact ⟨((e1.mono (fun q h => by rw [x_A1.mp h]; unfold x_A; simp)).trans (x_F.of1 o2 (by unfold x_A; simp))).trans (x_F.of1 o3 (by unfold x_A; simp)), g3, (hRw.k1 o2 (show L + 1 ≠ L by omega)).k1 o3 (show L + 1 ≠ L by omega), fun k hk => ((hSt1 k hk).k1 o2 (show L + 2 + k ≠ L by omega)).k1 o3 (show L + 2 + k ≠ L by omega)⟩⟩) hF d_Layer_append_53
  · exact absurd (n_le (i := 6) h1 (by omega) (by decide)) (by omega)
set_option maxHeartbeats 4000000 in
set_option maxRecDepth 100000 in
theorem c_Layer_append_R (l : Launch) (D : va_G) (cA : Nat → ClassId) (N : n_T) (L c : Nat) (p : Bool) (j : Nat) (sd : Nat → s_T) (hc : c < 6) (hw : Nat) (ac th : Int64) (wh : Int32) (i : Nat) : Met l y_Layer_append [.code y_Layer_append b_Layer_append 8 (some .int)] (x_rm 1 0 0) (x_P D cA [.ref L, .int (nI hw), .long ac, .long th, .int wh, .ref (n_ad N i)] (fun H => l_W D cA N L c p j sd H)) (x_Q (some (.int (nI c))) (fun H H1 => x_F (x_A [L, L + 2 + c]) H H1 ∧ l_W D cA N L (c + 1) true j (va_up sd c (hw, ac, th, wh, some i)) H1)) 0 0 (x_A [L, L + 2 + c]) := by
  refine x_met (own := "DecisionLayers$Layer") (by decide) rfl (Nat.le_of_ble_eq_true rfl) ?_
  intro pp ee s mm below mt cd ls hx hb hr hlk hnm hml hown hts hE hP hl
  have hl : lv_has ls 8 [(0, .ref L), (1, .int (nI hw)), (2, .long ac), (4, .long th), (6, .int wh), (7, .ref (n_ad N i))] := hl
  obtain ⟨hL, hRw, hSt⟩ := id hP
  have hF : ∀ q ∈ ([] : List Loc), x_A [L, L + 2 + c] q.base := t_nil
  refine lv_aload_n hx hb d_Layer_append_0 rfl (lv_at hl 0 rfl) ?_
  refine fg_Layer_18_Layer hx hb hown hts hE hL rfl d_Layer_append_1 ?_
  refine lv_bipush (v := 6) hx hb d_Layer_append_4 (by decide) ?_
  refine lv_icmp_lt (tgt := 12) hx hb d_Layer_append_6 (by decide) (fun h1 => ?_) (fun h1 => ?_)
  · refine lv_aload_n hx hb d_Layer_append_12 rfl (lv_at hl 0 rfl) ?_
    refine fg_Layer_13_Layer hx hb hown hts hE hL rfl d_Layer_append_13 ?_
    refine lv_aload_n hx hb d_Layer_append_16 rfl (lv_at hl 0 rfl) ?_
    refine fg_Layer_18_Layer hx hb hown hts hE hL rfl d_Layer_append_17 ?_
    refine x_aald hx hb hE.2.2 hRw 6 rfl hc (by decide) d_Layer_append_20 ?_
    refine x_topv (y := .ref (L + 2 + c)) (rfl) ?_
    refine lv_iload_n hx hb d_Layer_append_21 rfl (lv_at hl 1 rfl) ?_
    refine lv_lload_n hx hb d_Layer_append_22 rfl (lv_at hl 2 rfl) ?_
    refine lv_lload hx hb d_Layer_append_23 (lv_at hl 3 rfl) ?_
    refine lv_iload hx hb d_Layer_append_25 (lv_at hl 4 rfl) ?_
    refine lv_aload hx hb d_Layer_append_27 (lv_at hl 5 rfl) ?_
    refine x_cv (k_Layer_22 (As := [.int (nI hw), .long ac, .long th, .int wh, .ref (n_ad N i)]) (rest := []) hx hb hml hown hts (c_Statement_become_R l D cA (L + 2 + c) N (sd c) hw ac th wh i) (x_preV hE (hSt c hc) rfl rfl (hSt c hc)) rfl hl.1 rfl (Nat.le_of_ble_eq_true rfl) d_Layer_append_29 (by decide) ⟨Nat.zero_le _, Nat.zero_le _⟩) (fun H1 L1 p1 f1 => ?_)
    have hF := t_lL hF (fun q h => x_A.sub (by simp) q.base (f1 q h))
    obtain ⟨e1, s1⟩ := p1
    have hL := hL.kF e1 (by rw [x_A1]; show ¬ L = L + 2 + c; omega)
    have hRw := hRw.kF e1 (by rw [x_A1]; show ¬ L + 1 = L + 2 + c; omega)
    have hSt1 : ∀ k, k < 6 → va_at D x_cl (L + 2 + k, .inr (2, s_fs N (va_up sd c (hw, ac, th, wh, some i) k))) H1 := fun k hk => by
      by_cases e : k = c
      · rw [e]; show va_at D x_cl (L + 2 + c, .inr (2, s_fs N (if c = c then _ else _))) H1; rw [if_pos rfl]; exact s1
      · show va_at D x_cl (L + 2 + k, .inr (2, s_fs N (if k = c then _ else _))) H1; rw [if_neg e]; exact (hSt k hk).kF e1 (by rw [x_A1]; show ¬ L + 2 + k = L + 2 + c; omega)
    refine lv_aload_n hx hb d_Layer_append_32 rfl (lv_at hl 0 rfl) ?_
    refine lv_iconst (v := 1) hx hb d_Layer_append_33 (by decide) ?_
    refine fp_Layer_26_Layer hx hb hown hts hE hL rfl rfl (Nat.le_of_ble_eq_true rfl) d_Layer_append_34 (fun H2 k2 g2 o2 => ?_)
    have hF := t_lc (a := L) (i := k2) hF (by unfold x_A; simp)
    refine lv_aload_n hx hb d_Layer_append_37 rfl (lv_at hl 0 rfl) ?_
    refine lv_dup hx hb d_Layer_append_38 rfl ?_
    refine fg_Layer_18_Layer hx hb hown hts hE g2 rfl d_Layer_append_39 ?_
    refine lv_iconst (v := 1) hx hb d_Layer_append_42 (by decide) ?_
    refine lv_iadd hx hb d_Layer_append_43 ?_
    refine x_topi (y := nI (c + 1)) (nI_succ c).symm ?_
    refine fp_Layer_18_Layer hx hb hown hts hE g2 rfl rfl (Nat.le_of_ble_eq_true rfl) d_Layer_append_44 (fun H3 k3 g3 o3 => ?_)
    have hF := t_lc (a := L) (i := k3) hF (by unfold x_A; simp)
    refine lv_aload_n hx hb d_Layer_append_47 rfl (lv_at hl 0 rfl) ?_
    refine fg_Layer_18_Layer hx hb hown hts hE g3 rfl d_Layer_append_48 ?_
    refine lv_iconst (v := 1) hx hb d_Layer_append_51 (by decide) ?_
    refine lv_isub hx hb d_Layer_append_52 ?_
    refine x_topi (y := nI c) (nI_pred c) ?_
    exact W.iret hx hb hr (fun t ht hW => ⟨rfl, by rw [ht]; exact ⟨((e1.mono (fun q h => by rw [x_A1.mp h]; unfold x_A; simp)).trans (x_F.of1 o2 (by unfold x_A; simp))).trans (x_F.of1 o3 (by unfold x_A; simp)), g3, (hRw.k1 o2 (show L + 1 ≠ L by omega)).k1 o3 (show L + 1 ≠ L by omega), fun k hk => ((hSt1 k hk).k1 o2 (show L + 2 + k ≠ L by omega)).k1 o3 (show L + 2 + k ≠ L by omega)⟩⟩) hF d_Layer_append_53
  · exact absurd (n_le (i := 6) h1 (by omega) (by decide)) (by omega)
set_option maxHeartbeats 4000000 in
set_option maxRecDepth 100000 in
theorem c_Layer_isJudged (l : Launch) (D : va_G) (cA : Nat → ClassId) (N : n_T) (L c : Nat) (p : Bool) (j : Nat) (sd : Nat → s_T) (hj : j < 512) (k : Nat) (hk : k < 6) : Met l y_Layer_isJudged [.code y_Layer_isJudged b_Layer_isJudged 2 (some .boolean)] (x_rm 0 0 0) (x_P D cA [.ref L, .int (nI k)] (fun H => l_W D cA N L c p j sd H)) (x_Q (some (.int (bI (j.testBit k)))) (x_same)) 0 0 (fun _ => False) := by
  refine x_met (own := "DecisionLayers$Layer") (by decide) rfl (Nat.le_of_ble_eq_true rfl) ?_
  intro pp ee s mm below mt cd ls hx hb hr hlk hnm hml hown hts hE hP hl
  have hl : lv_has ls 2 [(0, .ref L), (1, .int (nI k))] := hl
  obtain ⟨hL, hRw, hSt⟩ := id hP
  refine lv_aload_n hx hb d_Layer_isJudged_0 rfl (lv_at hl 0 rfl) ?_
  refine fg_Layer_30_Layer hx hb hown hts hE hL rfl d_Layer_isJudged_1 ?_
  refine lv_iload_n hx hb d_Layer_isJudged_4 rfl (lv_at hl 1 rfl) ?_
  refine lv_iushr hx hb d_Layer_isJudged_5 rfl ?_
  refine lv_iconst (v := 1) hx hb d_Layer_isJudged_6 (by decide) ?_
  refine lv_iand hx hb d_Layer_isJudged_7 ?_
  refine x_topi (y := bI (j.testBit k)) (pl_bu _ hj _ (by omega)) ?_
  refine lv_if_eq (tgt := 15) hx hb d_Layer_isJudged_8 (by decide) (fun h1 => ?_) (fun h1 => ?_)
  · refine lv_iconst (v := 0) hx hb d_Layer_isJudged_15 (by decide) ?_
    refine x_topi (y := bI (j.testBit k)) (by rw [bI_0.mp h1]; rfl) ?_
    exact W.zret (ty := .boolean) hx hb hr (bI_z _) (fun t ht hW => ⟨rfl, ht⟩) (fun q h => by cases h) d_Layer_isJudged_16
  · refine lv_iconst (v := 1) hx hb d_Layer_isJudged_11 (by decide) ?_
    refine lv_goto (tgt := 16) hx hb d_Layer_isJudged_12 (by decide) ?_
    refine x_topi (y := bI (j.testBit k)) (by rw [bI_n0.mp h1]; rfl) ?_
    exact W.zret (ty := .boolean) hx hb hr (bI_z _) (fun t ht hW => ⟨rfl, ht⟩) (fun q h => by cases h) d_Layer_isJudged_16
set_option maxHeartbeats 4000000 in
set_option maxRecDepth 100000 in
theorem c_Layer_hasJudged (l : Launch) (D : va_G) (cA : Nat → ClassId) (N : n_T) (L c : Nat) (p : Bool) (j : Nat) (sd : Nat → s_T) (hc : c ≤ 6) (hj : j < 512) (h16 : ∀ k, k < 6 → (sd k).1 < 16) (b : Bool) : Met l y_Layer_hasJudged [.code y_Layer_hasJudged b_Layer_hasJudged 3 (some .boolean)] (x_rm 1 0 0) (x_P D cA [.ref L, .int (bI b)] (fun H => l_W D cA N L c p j sd H)) (x_Q (some (.int (bI (l_h j c (fun k => (sd k).1.testBit 0 == b))))) (x_same)) 0 0 (fun _ => False) := by
  refine x_met (own := "DecisionLayers$Layer") (by decide) rfl (Nat.le_of_ble_eq_true rfl) ?_
  intro pp ee s mm below mt cd ls hx hb hr hlk hnm hml hown hts hE hP hl
  have hl : lv_has ls 3 [(0, .ref L), (1, .int (bI b))] := hl
  obtain ⟨hL, hRw, hSt⟩ := id hP
  refine lv_iconst (v := 0) hx hb d_Layer_hasJudged_0 (by decide) ?_
  refine lv_istore_n (lv' := [(2, .int 0), (0, .ref L), (1, .int (bI b))]) hx hb d_Layer_hasJudged_1 rfl hl (by decide) rfl (fun ls hl => ?_)
  refine x_loop (I := fun r ls => ∃ k, k + r = c ∧ (∀ k1, k1 < k → (j.testBit k1 && (fun k => (sd k).1.testBit 0 == b) k1) = false) ∧ lv_has ls 3 [(2, .int (nI k)), (0, .ref L), (1, .int (bI b))]) (fun r ls ih h => ?_) (c) ⟨0, by omega, fun k1 h => absurd h (Nat.not_lt_zero k1), (lv_sub hl [0, 1, 2] rfl)⟩
  obtain ⟨k, hkr, hk0, hl⟩ := h
  refine lv_iload_n hx hb d_Layer_hasJudged_2 rfl (lv_at hl 0 rfl) ?_
  refine lv_aload_n hx hb d_Layer_hasJudged_3 rfl (lv_at hl 1 rfl) ?_
  refine fg_Layer_18_Layer hx hb hown hts hE hL rfl d_Layer_hasJudged_4 ?_
  refine lv_icmp_ge (tgt := 45) hx hb d_Layer_hasJudged_7 (by decide) (fun g1 => ?_) (fun g1 => ?_)
  · have g1 := n_ge g1 (by omega) (by omega)
    refine lv_iconst (v := 0) hx hb d_Layer_hasJudged_45 (by decide) ?_
    refine x_topi (y := bI (l_h j c (fun k => (sd k).1.testBit 0 == b))) (by rw [l_h_f (fun k1 h => hk0 k1 (by omega))]; rfl) ?_
    exact W.zret (ty := .boolean) hx hb hr (bI_z _) (fun t ht hW => ⟨rfl, ht⟩) (fun q h => by cases h) d_Layer_hasJudged_46
  · have g1 := n_lt g1 (by omega) (by omega)
    refine lv_iload_n hx hb d_Layer_hasJudged_10 rfl (lv_at hl 0 rfl) ?_
    refine lv_bipush (v := 6) hx hb d_Layer_hasJudged_11 (by decide) ?_
    refine lv_icmp_ge (tgt := 45) hx hb d_Layer_hasJudged_13 (by decide) (fun g2 => ?_) (fun g2 => ?_)
    · exact absurd (n_ge (k := 6) g2 (by decide) (by omega)) (by omega)
    · refine lv_aload_n hx hb d_Layer_hasJudged_16 rfl (lv_at hl 1 rfl) ?_
      refine lv_iload_n hx hb d_Layer_hasJudged_17 rfl (lv_at hl 0 rfl) ?_
      refine x_cp (k_Layer_45 (As := [.int (nI k)]) (rest := []) hx hb hml hown hts (c_Layer_isJudged l D cA N L c p j sd hj k (by omega)) (x_preV hE hL rfl rfl hP) rfl hl.1 rfl (Nat.le_of_ble_eq_true rfl) d_Layer_hasJudged_18 (by decide) ⟨Nat.zero_le _, Nat.zero_le _⟩) ?_
      refine lv_if_eq (tgt := 39) hx hb d_Layer_hasJudged_21 (by decide) (fun q1 => ?_) (fun q1 => ?_)
      · refine lv_iinc (k := 0) (v := nI (k + 1)) (lv' := [(2, .int (nI (k + 1))), (0, .ref L), (1, .int (bI b))]) hx hb d_Layer_hasJudged_39 hl rfl (x_inc _) (by decide) rfl (fun ls hl => ?_)
        refine lv_goto (tgt := 2) hx hb d_Layer_hasJudged_42 (by decide) ?_
        exact ih (r - 1) _ (by omega) ⟨k + 1, by omega, fun k1 h1 => by
          by_cases e : k1 = k
          · rw [e]; rw [bI_0.mp q1]; rfl
          · exact hk0 k1 (by omega), (lv_sub hl [0, 1, 2] rfl)⟩
      · refine lv_aload_n hx hb d_Layer_hasJudged_24 rfl (lv_at hl 1 rfl) ?_
        refine fg_Layer_13_Layer hx hb hown hts hE hL rfl d_Layer_hasJudged_25 ?_
        refine lv_iload_n hx hb d_Layer_hasJudged_28 rfl (lv_at hl 0 rfl) ?_
        refine x_aald hx hb hE.2.2 hRw 6 rfl (by omega) (by decide) d_Layer_hasJudged_29 ?_
        refine x_topv (y := .ref (L + 2 + k)) (rfl) ?_
        refine x_cp (k_Layer_49 (As := []) (rest := []) hx hb hml hown hts (c_Statement_isDenying l D cA (L + 2 + k) N (sd k) (h16 k (by omega))) (x_preV hE (hSt k (by omega)) rfl rfl (hSt k (by omega))) rfl hl.1 rfl (Nat.le_of_ble_eq_true rfl) d_Layer_hasJudged_30 (by decide) ⟨Nat.zero_le _, Nat.zero_le _⟩) ?_
        refine lv_iload_n hx hb d_Layer_hasJudged_33 rfl (lv_at hl 2 rfl) ?_
        refine lv_icmp_ne (tgt := 39) hx hb d_Layer_hasJudged_34 (by decide) (fun q2 => ?_) (fun q2 => ?_)
        · refine lv_iinc (k := 0) (v := nI (k + 1)) (lv' := [(2, .int (nI (k + 1))), (0, .ref L), (1, .int (bI b))]) hx hb d_Layer_hasJudged_39 hl rfl (x_inc _) (by decide) rfl (fun ls hl => ?_)
          refine lv_goto (tgt := 2) hx hb d_Layer_hasJudged_42 (by decide) ?_
          exact ih (r - 1) _ (by omega) ⟨k + 1, by omega, fun k1 h1 => by
            by_cases e : k1 = k
            · rw [e]; rw [show ((fun k => (sd k).1.testBit 0 == b) k) = false from (by have h9 := fun z => q2 (bI_eq.mpr z); show ((sd k).1.testBit 0 == b) = false; revert h9; cases (sd k).1.testBit 0 <;> cases b <;> intro h9 <;> first | rfl | exact absurd rfl h9)]; exact Bool.and_false _
            · exact hk0 k1 (by omega), (lv_sub hl [0, 1, 2] rfl)⟩
        · refine lv_iconst (v := 1) hx hb d_Layer_hasJudged_37 (by decide) ?_
          refine x_topi (y := bI (l_h j c (fun k => (sd k).1.testBit 0 == b))) (by rw [l_h_t g1 (bI_n0.mp q1) (show ((sd k).1.testBit 0 == b) = true by rw [bI_eq.mp q2]; exact beq_self_eq_true _)]; rfl) ?_
          exact W.zret (ty := .boolean) hx hb hr (bI_z _) (fun t ht hW => ⟨rfl, ht⟩) (fun q h => by cases h) d_Layer_hasJudged_38
set_option maxHeartbeats 4000000 in
set_option maxRecDepth 100000 in
theorem c_Layer_allowsByName (l : Launch) (D : va_G) (cA : Nat → ClassId) (N : n_T) (L c : Nat) (p : Bool) (j : Nat) (sd : Nat → s_T) (hc : c ≤ 6) (hj : j < 512) (h16 : ∀ k, k < 6 → (sd k).1 < 16) (u : Int32) : Met l y_Layer_allowsByName [.code y_Layer_allowsByName b_Layer_allowsByName 3 (some .boolean)] (x_rm 1 0 0) (x_P D cA [.ref L, .int u] (fun H => l_W D cA N L c p j sd H)) (x_Q (some (.int (bI (l_h j c (fun k => !(sd k).1.testBit 0 && decide ((sd k).2.2.2.1 = u)))))) (x_same)) 0 0 (fun _ => False) := by
  refine x_met (own := "DecisionLayers$Layer") (by decide) rfl (Nat.le_of_ble_eq_true rfl) ?_
  intro pp ee s mm below mt cd ls hx hb hr hlk hnm hml hown hts hE hP hl
  have hl : lv_has ls 3 [(0, .ref L), (1, .int u)] := hl
  obtain ⟨hL, hRw, hSt⟩ := id hP
  refine lv_iconst (v := 0) hx hb d_Layer_allowsByName_0 (by decide) ?_
  refine lv_istore_n (lv' := [(2, .int 0), (0, .ref L), (1, .int u)]) hx hb d_Layer_allowsByName_1 rfl hl (by decide) rfl (fun ls hl => ?_)
  refine x_loop (I := fun r ls => ∃ k, k + r = c ∧ (∀ k1, k1 < k → (j.testBit k1 && (fun k => !(sd k).1.testBit 0 && decide ((sd k).2.2.2.1 = u)) k1) = false) ∧ lv_has ls 3 [(2, .int (nI k)), (0, .ref L), (1, .int u)]) (fun r ls ih h => ?_) (c) ⟨0, by omega, fun k1 h => absurd h (Nat.not_lt_zero k1), (lv_sub hl [0, 1, 2] rfl)⟩
  obtain ⟨k, hkr, hk0, hl⟩ := h
  refine lv_iload_n hx hb d_Layer_allowsByName_2 rfl (lv_at hl 0 rfl) ?_
  refine lv_aload_n hx hb d_Layer_allowsByName_3 rfl (lv_at hl 1 rfl) ?_
  refine fg_Layer_18_Layer hx hb hown hts hE hL rfl d_Layer_allowsByName_4 ?_
  refine lv_icmp_ge (tgt := 57) hx hb d_Layer_allowsByName_7 (by decide) (fun g1 => ?_) (fun g1 => ?_)
  · have g1 := n_ge g1 (by omega) (by omega)
    refine lv_iconst (v := 0) hx hb d_Layer_allowsByName_57 (by decide) ?_
    refine x_topi (y := bI (l_h j c (fun k => !(sd k).1.testBit 0 && decide ((sd k).2.2.2.1 = u)))) (by rw [l_h_f (fun k1 h => hk0 k1 (by omega))]; rfl) ?_
    exact W.zret (ty := .boolean) hx hb hr (bI_z _) (fun t ht hW => ⟨rfl, ht⟩) (fun q h => by cases h) d_Layer_allowsByName_58
  · have g1 := n_lt g1 (by omega) (by omega)
    refine lv_iload_n hx hb d_Layer_allowsByName_10 rfl (lv_at hl 0 rfl) ?_
    refine lv_bipush (v := 6) hx hb d_Layer_allowsByName_11 (by decide) ?_
    refine lv_icmp_ge (tgt := 57) hx hb d_Layer_allowsByName_13 (by decide) (fun g2 => ?_) (fun g2 => ?_)
    · exact absurd (n_ge (k := 6) g2 (by decide) (by omega)) (by omega)
    · refine lv_aload_n hx hb d_Layer_allowsByName_16 rfl (lv_at hl 1 rfl) ?_
      refine lv_iload_n hx hb d_Layer_allowsByName_17 rfl (lv_at hl 0 rfl) ?_
      refine x_cp (k_Layer_45 (As := [.int (nI k)]) (rest := []) hx hb hml hown hts (c_Layer_isJudged l D cA N L c p j sd hj k (by omega)) (x_preV hE hL rfl rfl hP) rfl hl.1 rfl (Nat.le_of_ble_eq_true rfl) d_Layer_allowsByName_18 (by decide) ⟨Nat.zero_le _, Nat.zero_le _⟩) ?_
      refine lv_if_eq (tgt := 51) hx hb d_Layer_allowsByName_21 (by decide) (fun q1 => ?_) (fun q1 => ?_)
      · refine lv_iinc (k := 0) (v := nI (k + 1)) (lv' := [(2, .int (nI (k + 1))), (0, .ref L), (1, .int u)]) hx hb d_Layer_allowsByName_51 hl rfl (x_inc _) (by decide) rfl (fun ls hl => ?_)
        refine lv_goto (tgt := 2) hx hb d_Layer_allowsByName_54 (by decide) ?_
        exact ih (r - 1) _ (by omega) ⟨k + 1, by omega, fun k1 h1 => by
          by_cases e : k1 = k
          · rw [e]; rw [bI_0.mp q1]; rfl
          · exact hk0 k1 (by omega), (lv_sub hl [0, 1, 2] rfl)⟩
      · refine lv_aload_n hx hb d_Layer_allowsByName_24 rfl (lv_at hl 1 rfl) ?_
        refine fg_Layer_13_Layer hx hb hown hts hE hL rfl d_Layer_allowsByName_25 ?_
        refine lv_iload_n hx hb d_Layer_allowsByName_28 rfl (lv_at hl 0 rfl) ?_
        refine x_aald hx hb hE.2.2 hRw 6 rfl (by omega) (by decide) d_Layer_allowsByName_29 ?_
        refine x_topv (y := .ref (L + 2 + k)) (rfl) ?_
        refine x_cp (k_Layer_49 (As := []) (rest := []) hx hb hml hown hts (c_Statement_isDenying l D cA (L + 2 + k) N (sd k) (h16 k (by omega))) (x_preV hE (hSt k (by omega)) rfl rfl (hSt k (by omega))) rfl hl.1 rfl (Nat.le_of_ble_eq_true rfl) d_Layer_allowsByName_30 (by decide) ⟨Nat.zero_le _, Nat.zero_le _⟩) ?_
        refine lv_if_ne (tgt := 51) hx hb d_Layer_allowsByName_33 (by decide) (fun q2 => ?_) (fun q2 => ?_)
        · refine lv_iinc (k := 0) (v := nI (k + 1)) (lv' := [(2, .int (nI (k + 1))), (0, .ref L), (1, .int u)]) hx hb d_Layer_allowsByName_51 hl rfl (x_inc _) (by decide) rfl (fun ls hl => ?_)
          refine lv_goto (tgt := 2) hx hb d_Layer_allowsByName_54 (by decide) ?_
          exact ih (r - 1) _ (by omega) ⟨k + 1, by omega, fun k1 h1 => by
            by_cases e : k1 = k
            · rw [e]; show (j.testBit k && (!(sd k).1.testBit 0 && decide ((sd k).2.2.2.1 = u))) = false; rw [bI_n0.mp q2]; simp
            · exact hk0 k1 (by omega), (lv_sub hl [0, 1, 2] rfl)⟩
        · refine lv_aload_n hx hb d_Layer_allowsByName_36 rfl (lv_at hl 1 rfl) ?_
          refine fg_Layer_13_Layer hx hb hown hts hE hL rfl d_Layer_allowsByName_37 ?_
          refine lv_iload_n hx hb d_Layer_allowsByName_40 rfl (lv_at hl 0 rfl) ?_
          refine x_aald hx hb hE.2.2 hRw 6 rfl (by omega) (by decide) d_Layer_allowsByName_41 ?_
          refine x_topv (y := .ref (L + 2 + k)) (rfl) ?_
          refine lv_iload_n hx hb d_Layer_allowsByName_42 rfl (lv_at hl 2 rfl) ?_
          refine x_cp (k_Layer_52 (As := [.int u]) (rest := []) hx hb hml hown hts (c_Statement_names l D cA (L + 2 + k) N (sd k) u) (x_preV hE (hSt k (by omega)) rfl rfl (hSt k (by omega))) rfl hl.1 rfl (Nat.le_of_ble_eq_true rfl) d_Layer_allowsByName_43 (by decide) ⟨Nat.zero_le _, Nat.zero_le _⟩) ?_
          refine lv_if_eq (tgt := 51) hx hb d_Layer_allowsByName_46 (by decide) (fun q3 => ?_) (fun q3 => ?_)
          · refine lv_iinc (k := 0) (v := nI (k + 1)) (lv' := [(2, .int (nI (k + 1))), (0, .ref L), (1, .int u)]) hx hb d_Layer_allowsByName_51 hl rfl (x_inc _) (by decide) rfl (fun ls hl => ?_)
            refine lv_goto (tgt := 2) hx hb d_Layer_allowsByName_54 (by decide) ?_
            exact ih (r - 1) _ (by omega) ⟨k + 1, by omega, fun k1 h1 => by
              by_cases e : k1 = k
              · rw [e]; show (j.testBit k && (!(sd k).1.testBit 0 && decide ((sd k).2.2.2.1 = u))) = false; rw [bI_0.mp q3]; simp
              · exact hk0 k1 (by omega), (lv_sub hl [0, 1, 2] rfl)⟩
          · refine lv_iconst (v := 1) hx hb d_Layer_allowsByName_49 (by decide) ?_
            refine x_topi (y := bI (l_h j c (fun k => !(sd k).1.testBit 0 && decide ((sd k).2.2.2.1 = u)))) (by rw [l_h_t g1 (bI_n0.mp q1) (show (!(sd k).1.testBit 0 && decide ((sd k).2.2.2.1 = u)) = true by rw [bI_0.mp q2, bI_n0.mp q3]; rfl)]; rfl) ?_
            exact W.zret (ty := .boolean) hx hb hr (bI_z _) (fun t ht hW => ⟨rfl, ht⟩) (fun q h => by cases h) d_Layer_allowsByName_50
set_option maxHeartbeats 4000000 in
set_option maxRecDepth 100000 in
theorem c_Layer_denies (l : Launch) (D : va_G) (cA : Nat → ClassId) (N : n_T) (L c : Nat) (p : Bool) (j : Nat) (sd : Nat → s_T) (hc : c ≤ 6) (hj : j < 512) (h16 : ∀ k, k < 6 → (sd k).1 < 16) : Met l y_Layer_denies [.code y_Layer_denies b_Layer_denies 1 (some .boolean)] (x_rm 2 0 0) (x_P D cA [.ref L] (fun H => l_W D cA N L c p j sd H)) (x_Q (some (.int (bI (l_h j c (fun k => (sd k).1.testBit 0 == true))))) (x_same)) 0 0 (fun _ => False) := by
  refine x_met (own := "DecisionLayers$Layer") (by decide) rfl (Nat.le_of_ble_eq_true rfl) ?_
  intro pp ee s mm below mt cd ls hx hb hr hlk hnm hml hown hts hE hP hl
  have hl : lv_has ls 1 [(0, .ref L)] := hl
  refine lv_aload_n hx hb d_Layer_denies_0 rfl (lv_at hl 0 rfl) ?_
  refine lv_iconst (v := 1) hx hb d_Layer_denies_1 (by decide) ?_
  refine x_cp (k_Layer_37 (As := [.int (bI true)]) (rest := []) hx hb hml hown hts (c_Layer_hasJudged l D cA N L c p j sd hc hj h16 true) (x_preV hE hP.1 rfl rfl hP) rfl hl.1 rfl (Nat.le_of_ble_eq_true rfl) d_Layer_denies_2 (by decide) ⟨Nat.zero_le _, Nat.zero_le _⟩) ?_
  exact W.zret (ty := .boolean) hx hb hr (bI_z _) (fun t ht hW => ⟨rfl, ht⟩) (fun q h => by cases h) d_Layer_denies_5
set_option maxHeartbeats 4000000 in
set_option maxRecDepth 100000 in
theorem c_Layer_allows (l : Launch) (D : va_G) (cA : Nat → ClassId) (N : n_T) (L c : Nat) (p : Bool) (j : Nat) (sd : Nat → s_T) (hc : c ≤ 6) (hj : j < 512) (h16 : ∀ k, k < 6 → (sd k).1 < 16) : Met l y_Layer_allows [.code y_Layer_allows b_Layer_allows 1 (some .boolean)] (x_rm 2 0 0) (x_P D cA [.ref L] (fun H => l_W D cA N L c p j sd H)) (x_Q (some (.int (bI (l_h j c (fun k => (sd k).1.testBit 0 == false))))) (x_same)) 0 0 (fun _ => False) := by
  refine x_met (own := "DecisionLayers$Layer") (by decide) rfl (Nat.le_of_ble_eq_true rfl) ?_
  intro pp ee s mm below mt cd ls hx hb hr hlk hnm hml hown hts hE hP hl
  have hl : lv_has ls 1 [(0, .ref L)] := hl
  refine lv_aload_n hx hb d_Layer_allows_0 rfl (lv_at hl 0 rfl) ?_
  refine lv_iconst (v := 0) hx hb d_Layer_allows_1 (by decide) ?_
  refine x_cp (k_Layer_37 (As := [.int (bI false)]) (rest := []) hx hb hml hown hts (c_Layer_hasJudged l D cA N L c p j sd hc hj h16 false) (x_preV hE hP.1 rfl rfl hP) rfl hl.1 rfl (Nat.le_of_ble_eq_true rfl) d_Layer_allows_2 (by decide) ⟨Nat.zero_le _, Nat.zero_le _⟩) ?_
  exact W.zret (ty := .boolean) hx hb hr (bI_z _) (fun t ht hW => ⟨rfl, ht⟩) (fun q h => by cases h) d_Layer_allows_5
set_option maxHeartbeats 4000000 in
set_option maxRecDepth 100000 in
theorem c_Layer_bars (l : Launch) (D : va_G) (cA : Nat → ClassId) (N : n_T) (L c : Nat) (p : Bool) (j : Nat) (sd : Nat → s_T) (hc : c ≤ 6) (hj : j < 512) (h16 : ∀ k, k < 6 → (sd k).1 < 16) : Met l y_Layer_bars [.code y_Layer_bars b_Layer_bars 1 (some .boolean)] (x_rm 3 0 0) (x_P D cA [.ref L] (fun H => l_W D cA N L c p j sd H)) (x_Q (some (.int (bI (p && !l_h j c (fun k => (sd k).1.testBit 0 == false))))) (x_same)) 0 0 (fun _ => False) := by
  refine x_met (own := "DecisionLayers$Layer") (by decide) rfl (Nat.le_of_ble_eq_true rfl) ?_
  intro pp ee s mm below mt cd ls hx hb hr hlk hnm hml hown hts hE hP hl
  have hl : lv_has ls 1 [(0, .ref L)] := hl
  refine lv_aload_n hx hb d_Layer_bars_0 rfl (lv_at hl 0 rfl) ?_
  refine fg_Layer_26_Layer hx hb hown hts hE hP.1 rfl d_Layer_bars_1 ?_
  refine lv_if_eq (tgt := 18) hx hb d_Layer_bars_4 (by decide) (fun h1 => ?_) (fun h1 => ?_)
  · refine lv_iconst (v := 0) hx hb d_Layer_bars_18 (by decide) ?_
    refine x_topi (y := bI (p && !l_h j c (fun k => (sd k).1.testBit 0 == false))) (by rw [bI_0.mp h1]; rfl) ?_
    exact W.zret (ty := .boolean) hx hb hr (bI_z _) (fun t ht hW => ⟨rfl, ht⟩) (fun q h => by cases h) d_Layer_bars_19
  · refine lv_aload_n hx hb d_Layer_bars_7 rfl (lv_at hl 0 rfl) ?_
    refine x_cp (k_Layer_41 (As := []) (rest := []) hx hb hml hown hts (c_Layer_allows l D cA N L c p j sd hc hj h16) (x_preV hE hP.1 rfl rfl hP) rfl hl.1 rfl (Nat.le_of_ble_eq_true rfl) d_Layer_bars_8 (by decide) ⟨Nat.zero_le _, Nat.zero_le _⟩) ?_
    refine lv_if_ne (tgt := 18) hx hb d_Layer_bars_11 (by decide) (fun h2 => ?_) (fun h2 => ?_)
    · refine lv_iconst (v := 0) hx hb d_Layer_bars_18 (by decide) ?_
      refine x_topi (y := bI (p && !l_h j c (fun k => (sd k).1.testBit 0 == false))) (by rw [bI_n0.mp h1, bI_n0.mp h2]; rfl) ?_
      exact W.zret (ty := .boolean) hx hb hr (bI_z _) (fun t ht hW => ⟨rfl, ht⟩) (fun q h => by cases h) d_Layer_bars_19
    · refine lv_iconst (v := 1) hx hb d_Layer_bars_14 (by decide) ?_
      refine lv_goto (tgt := 19) hx hb d_Layer_bars_15 (by decide) ?_
      refine x_topi (y := bI (p && !l_h j c (fun k => (sd k).1.testBit 0 == false))) (by rw [bI_n0.mp h1, bI_0.mp h2]; rfl) ?_
      exact W.zret (ty := .boolean) hx hb hr (bI_z _) (fun t ht hW => ⟨rfl, ht⟩) (fun q h => by cases h) d_Layer_bars_19
end
section
set_option maxHeartbeats 4000000 in
set_option maxRecDepth 100000 in
theorem c_Layer_judge (l : Launch) (D : va_G) (cA : Nat → ClassId) (N : n_T) (L c : Nat) (p : Bool) (j : Nat) (sd : Nat → s_T) (v : Nat) (cnt : Nat → Int32) (row : Nat → Int64) (made : Nat) (hv : Nat → Bool) (hok : n_ok made N) (hvo : vl_ok cnt) (hVe : n_V cnt row made N hv) (hc : c ≤ 6) (hso : ∀ k, k < 6 → s_ok made (sd k)) (hvL : v + 2 < L) (hnL : ∀ i, i < made → L + 8 < n_ad N i) (u : Int32) (ac th : Int64) : Met l y_Layer_judge [.code y_Layer_judge b_Layer_judge 8 none] (x_rm 10 0 0) (x_P D cA [.ref L, .int u, .long ac, .long th, .ref v] (fun H => l_W D cA N L c p j sd H ∧ n_W D cA made N H ∧ v_W D cA v cnt row H)) (x_Q (none) (fun H H1 => x_F (x_A [L]) H H1 ∧ l_W D cA N L c p (l_j (fun k => s_s cnt row hv u ac th (sd k)) c) sd H1)) 0 0 (x_A [L]) := by
  refine x_met (own := "DecisionLayers$Layer") (by decide) rfl (Nat.le_of_ble_eq_true rfl) ?_
  intro pp ee s mm below mt cd ls hx hb hr hlk hnm hml hown hts hE hP hl
  have hl : lv_has ls 8 [(0, .ref L), (1, .int u), (2, .long ac), (4, .long th), (6, .ref v)] := hl
  obtain ⟨⟨hL, hRw, hSt⟩, hN, hV⟩ := hP
  have hF : ∀ q ∈ ([] : List Loc), x_A [L] q.base := t_nil
  generalize hf : (fun k => s_s cnt row hv u ac th (sd k)) = f
  refine lv_aload_n hx hb d_Layer_judge_0 rfl (lv_at hl 0 rfl) ?_
  refine lv_iconst (v := 0) hx hb d_Layer_judge_1 (by decide) ?_
  refine fp_Layer_30_Layer hx hb hown hts hE hL rfl rfl (Nat.le_of_ble_eq_true rfl) d_Layer_judge_2 (fun H1 k1 g1 o1 => ?_)
  have hF := t_lc (a := L) (i := k1) hF (x_A1.mpr rfl)
  refine lv_iconst (v := 0) hx hb d_Layer_judge_5 (by decide) ?_
  refine lv_istore (lv' := [(7, .int 0), (0, .ref L), (1, .int u), (2, .long ac), (4, .long th), (6, .ref v)]) hx hb d_Layer_judge_6 hl (by decide) rfl (fun ls hl => ?_)
  refine x_loopH (I := fun r ls H locs => ∃ k, k + r = c ∧ lv_has ls 8 [(7, .int (nI k)), (0, .ref L), (1, .int u), (2, .long ac), (4, .long th), (6, .ref v)] ∧ va_at D x_cl (L, .inr (1, [.ref (L + 1), .int (nI c), .int (bI p), .int (nI (l_j f k))])) H ∧ x_F (x_A [L]) s.heap H ∧ ∀ q ∈ locs, x_A [L] q.base) (fun r ls H locs ih h => ?_) (c) ⟨0, by omega, (lv_sub hl [0, 1, 2, 3, 4, 5] rfl), g1, x_F.of1 o1 (x_A1.mpr rfl), hF⟩
  obtain ⟨k, hkr, hl, hL, hFr, hF⟩ := h
  have hRw := hRw.kF hFr (by rw [x_A1]; show ¬ L + 1 = L; omega)
  have hSt : ∀ k, k < 6 → va_at D x_cl (L + 2 + k, .inr (2, s_fs N (sd k))) H := fun k hk => (hSt k hk).kF hFr (by rw [x_A1]; show ¬ L + 2 + k = L; omega)
  have hV := hV.kF hFr (fun q a b => by rw [x_A1]; omega)
  have hN := hN.kF hFr (fun i hi => by have := hnL i hi; rw [x_A1, x_A1]; exact ⟨by omega, fun _ => by omega⟩)
  refine lv_iload hx hb d_Layer_judge_8 (lv_at hl 0 rfl) ?_
  refine lv_aload_n hx hb d_Layer_judge_10 rfl (lv_at hl 1 rfl) ?_
  refine fg_Layer_18_Layer hx hb hown hts hE hL rfl d_Layer_judge_11 ?_
  refine lv_icmp_ge (tgt := 62) hx hb d_Layer_judge_14 (by decide) (fun g1 => ?_) (fun g1 => ?_)
  · have g1 := n_ge g1 (by omega) (by omega)
    obtain rfl : k = c := by omega
    exact W.vret hx hb hr (fun t ht hW => ⟨rfl, by rw [ht]; exact ⟨hFr, hL, hRw, hSt⟩⟩) hF d_Layer_judge_62
  · have g1 := n_lt g1 (by omega) (by omega)
    refine lv_iload hx hb d_Layer_judge_17 (lv_at hl 0 rfl) ?_
    refine lv_bipush (v := 6) hx hb d_Layer_judge_19 (by decide) ?_
    refine lv_icmp_ge (tgt := 62) hx hb d_Layer_judge_21 (by decide) (fun g2 => ?_) (fun g2 => ?_)
    · exact absurd (n_ge (k := 6) g2 (by decide) (by omega)) (by omega)
    · refine lv_aload_n hx hb d_Layer_judge_24 rfl (lv_at hl 1 rfl) ?_
      refine fg_Layer_13_Layer hx hb hown hts hE hL rfl d_Layer_judge_25 ?_
      refine lv_iload hx hb d_Layer_judge_28 (lv_at hl 0 rfl) ?_
      refine x_aald hx hb hE.2.2 hRw 6 rfl (by omega) (by decide) d_Layer_judge_30 ?_
      refine x_topv (y := .ref (L + 2 + k)) (rfl) ?_
      refine lv_iload_n hx hb d_Layer_judge_31 rfl (lv_at hl 2 rfl) ?_
      refine lv_lload_n hx hb d_Layer_judge_32 rfl (lv_at hl 3 rfl) ?_
      refine lv_lload hx hb d_Layer_judge_33 (lv_at hl 4 rfl) ?_
      refine lv_aload hx hb d_Layer_judge_35 (lv_at hl 5 rfl) ?_
      refine x_cp (k_Layer_33 (As := [.int u, .long ac, .long th, .ref v]) (rest := []) hx hb hml hown hts (c_Statement_suits l D cA (L + 2 + k) N (sd k) v cnt row made hv hok hvo hVe (hso k (by omega)) u ac th) (x_preV hE (hSt k (by omega)) rfl rfl ⟨hSt k (by omega), hN, hV⟩) rfl hl.1 rfl (Nat.le_of_ble_eq_true rfl) d_Layer_judge_37 (by decide) ⟨Nat.zero_le _, Nat.zero_le _⟩) ?_
      refine x_topi (y := bI (f k)) (by rw [← hf]) ?_
      refine lv_if_eq (tgt := 56) hx hb d_Layer_judge_40 (by decide) (fun q1 => ?_) (fun q1 => ?_)
      · refine lv_iinc (k := 0) (v := nI (k + 1)) (lv' := [(7, .int (nI (k + 1))), (0, .ref L), (1, .int u), (2, .long ac), (4, .long th), (6, .ref v)]) hx hb d_Layer_judge_56 hl rfl (x_inc _) (by decide) rfl (fun ls hl => ?_)
        refine lv_goto (tgt := 8) hx hb d_Layer_judge_59 (by decide) ?_
        exact ih (r - 1) _ _ _ (by omega) ⟨k + 1, by omega, (lv_sub hl [0, 1, 2, 3, 4, 5] rfl), by rw [l_j_f (bI_0.mp q1)]; exact hL, hFr, hF⟩
      · refine lv_aload_n hx hb d_Layer_judge_43 rfl (lv_at hl 1 rfl) ?_
        refine lv_dup hx hb d_Layer_judge_44 rfl ?_
        refine fg_Layer_30_Layer hx hb hown hts hE hL rfl d_Layer_judge_45 ?_
        refine lv_iconst (v := 1) hx hb d_Layer_judge_48 (by decide) ?_
        refine lv_iload hx hb d_Layer_judge_49 (lv_at hl 0 rfl) ?_
        refine lv_ishl hx hb d_Layer_judge_51 ?_
        refine lv_ior hx hb d_Layer_judge_52 ?_
        refine x_topi (y := nI (l_j f (k + 1))) (by rw [pl_s1 _ (by omega), nI_or, l_j_t (bI_n0.mp q1)]) ?_
        refine fp_Layer_30_Layer hx hb hown hts hE hL rfl rfl (Nat.le_of_ble_eq_true rfl) d_Layer_judge_53 (fun H2 k2 g2 o2 => ?_)
        have hF := t_lc (a := L) (i := k2) hF (x_A1.mpr rfl)
        refine lv_iinc (k := 0) (v := nI (k + 1)) (lv' := [(7, .int (nI (k + 1))), (0, .ref L), (1, .int u), (2, .long ac), (4, .long th), (6, .ref v)]) hx hb d_Layer_judge_56 hl rfl (x_inc _) (by decide) rfl (fun ls hl => ?_)
        refine lv_goto (tgt := 8) hx hb d_Layer_judge_59 (by decide) ?_
        exact ih (r - 1) _ _ _ (by omega) ⟨k + 1, by omega, (lv_sub hl [0, 1, 2, 3, 4, 5] rfl), g2, hFr.trans (x_F.of1 o2 (x_A1.mpr rfl)), hF⟩
end
section
/-! the whole state: how many are piled, who decided, the pile (by number), the values, the layers (count, present, judged), the statements -/
abbrev d_T : Type := Nat × Int32 × (Nat → Nat) × (Nat → Int32) × (Nat → Int64) × (Nat → Nat) × (Nat → Bool) × (Nat → Nat) × (Nat → Nat → s_T)
abbrev d_n (X : d_T) : Nat := X.1
abbrev d_e (X : d_T) : Int32 := X.2.1
abbrev d_p (X : d_T) : Nat → Nat := X.2.2.1
abbrev d_c (X : d_T) : Nat → Int32 := X.2.2.2.1
abbrev d_r (X : d_T) : Nat → Int64 := X.2.2.2.2.1
abbrev d_k (X : d_T) : Nat → Nat := X.2.2.2.2.2.1
abbrev d_b (X : d_T) : Nat → Bool := X.2.2.2.2.2.2.1
abbrev d_j (X : d_T) : Nat → Nat := X.2.2.2.2.2.2.2.1
abbrev d_s (X : d_T) : Nat → Nat → s_T := X.2.2.2.2.2.2.2.2
def d_ok (made : Nat) (X : d_T) : Prop := d_n X ≤ 8 ∧ (∀ k, k < d_n X → d_p X k < made) ∧ vl_ok (d_c X) ∧ (∀ l, l < 6 → d_k X l ≤ 6 ∧ d_j X l < 64) ∧ ∀ l, l < 6 → ∀ k, k < 6 → s_ok made (d_s X l k)
/-- the conditions' cells lie behind all else -/
def n_hi (o made : Nat) (N : n_T) : Prop := ∀ i, i < made → o + 75 ≤ n_ad N i ∧ (n_kd N i ≠ 3 → o + 76 ≤ n_ad N i)
def d_pc (N : n_T) (n : Nat) (p : Nat → Nat) : Nat → Option Nat := fun k => if k < n then some (n_ad N (p k)) else none
def d_W (D : va_G) (cA : Nat → ClassId) (N : n_T) (o : Nat) (X : d_T) (H : Heap) : Prop :=
  va_at D x_cl (o, .inr (5, [.ref (o + 1), .ref (o + 4), .ref (o + 5), .int (nI (d_n X)), .int (d_e X)])) H ∧ v_W D cA (o + 1) (d_c X) (d_r X) H ∧
  va_at D x_cl (o + 4, .inl (cA 4, 8, .inr (.inr (.inr (.inr (d_pc N (d_n X) (d_p X))))))) H ∧ va_at D x_cl (o + 5, .inl (cA 5, 6, .inr (.inr (.inr (.inr (fun l => some (o + 6 + 8 * l))))))) H ∧
  ∀ l, l < 6 → l_W D cA N (o + 6 + 8 * l) (d_k X l) (d_b X l) (d_j X l) (d_s X l) H
/-- the class's own cells -/
def d_A (o : Nat) : Addr → Prop := fun q => o ≤ q ∧ q < o + 54
theorem d_A_in {o q : Nat} (h1 : o ≤ q) (h2 : q < o + 54) : d_A o q := ⟨h1, h2⟩
theorem d_W.kept {D : va_G} {cA : Nat → ClassId} {N : n_T} {o : Nat} {X : d_T} {H H1 : Heap} (h : d_W D cA N o X H) (hq : ∀ q : Nat, o ≤ q → q < o + 54 → H1[q]? = H[q]?) : d_W D cA N o X H1 :=
  ⟨h.1.kept (hq o (by omega) (by omega)), h.2.1.kept (fun q a b => hq q (by omega) (by omega)), h.2.2.1.kept (hq (o + 4) (by omega) (by omega)), h.2.2.2.1.kept (hq (o + 5) (by omega) (by omega)), fun l hl => (h.2.2.2.2 l hl).kept (fun q a b => hq q (by omega) (by omega))⟩
/-- a layer becomes another -/
def d_setL (X : d_T) (l c : Nat) (b : Bool) (j : Nat) (s : Nat → s_T) : d_T := (X.1, X.2.1, X.2.2.1, X.2.2.2.1, X.2.2.2.2.1, va_up (d_k X) l c, va_up (d_b X) l b, va_up (d_j X) l j, va_up (d_s X) l s)
theorem d_W.lay {D : va_G} {cA : Nat → ClassId} {N : n_T} {o : Nat} {X : d_T} {H H1 : Heap} {A : Addr → Prop} (h : d_W D cA N o X H) (h1 : x_F A H H1) {l c j : Nat} {b : Bool} {s : Nat → s_T} (hA : ∀ q : Nat, A q → o + 6 + 8 * l ≤ q ∧ q < o + 6 + 8 * l + 8) (hl : l_W D cA N (o + 6 + 8 * l) c b j s H1) : d_W D cA N o (d_setL X l c b j s) H1 := by
  refine ⟨h.1.kF h1 (fun z => ?_), h.2.1.kF h1 (fun q a b z => ?_), h.2.2.1.kF h1 (fun z => ?_), h.2.2.2.1.kF h1 (fun z => ?_), fun i hi => ?_⟩
  · have := hA _ z; dsimp only at this; omega
  · have := hA _ z; omega
  · have := hA _ z; dsimp only at this; omega
  · have := hA _ z; dsimp only at this; omega
  · by_cases e : i = l
    · subst e
      show l_W D cA N (o + 6 + 8 * i) (va_up (d_k X) i c i) (va_up (d_b X) i b i) (va_up (d_j X) i j i) (va_up (d_s X) i s i) H1
      simp only [va_up, if_pos]
      exact hl
    · show l_W D cA N (o + 6 + 8 * i) (va_up (d_k X) l c i) (va_up (d_b X) l b i) (va_up (d_j X) l j i) (va_up (d_s X) l s i) H1
      simp only [va_up, if_neg e]
      exact (h.2.2.2.2 i hi).kept (fun q a b => h1.2 q (fun z => by have := hA q z; omega))
def d_setV (X : d_T) (cnt : Nat → Int32) (row : Nat → Int64) : d_T := (X.1, X.2.1, X.2.2.1, cnt, row, X.2.2.2.2.2)
theorem d_W.val {D : va_G} {cA : Nat → ClassId} {N : n_T} {o : Nat} {X : d_T} {H H1 : Heap} {A : Addr → Prop} (h : d_W D cA N o X H) (h1 : x_F A H H1) {cnt : Nat → Int32} {row : Nat → Int64} (hA : ∀ q : Nat, A q → o + 1 ≤ q ∧ q ≤ o + 3) (hv : v_W D cA (o + 1) cnt row H1) : d_W D cA N o (d_setV X cnt row) H1 := by
  refine ⟨h.1.kF h1 (fun z => ?_), hv, h.2.2.1.kF h1 (fun z => ?_), h.2.2.2.1.kF h1 (fun z => ?_), fun i hi => (h.2.2.2.2 i hi).kept (fun q a b => h1.2 q (fun z => ?_))⟩
  · have := hA _ z; dsimp only at this; omega
  · have := hA _ z; dsimp only at this; omega
  · have := hA _ z; dsimp only at this; omega
  · have := hA q z; omega
/-! what the calls answer, and what they do -/
def q_L (k : Int32) : Bool := decide (0 ≤ k ∧ k < 6)
def q_may (l w : Int32) : Bool := if l = 5 then decide ((-1 ≤ w ∧ w ≤ 9) ∨ (100 ≤ w ∧ w ≤ 199)) else decide (w = -1)
def q_open (X : d_T) (k : Int32) : Bool := q_L k && !d_b X k.toNatClampNeg
def z_open (X : d_T) (k : Int32) : d_T := if q_open X k then d_setL X k.toNatClampNeg (d_k X k.toNatClampNeg) true (d_j X k.toNatClampNeg) (d_s X k.toNatClampNeg) else X
def q_drop (X : d_T) (k : Int32) : Bool := q_L k && d_b X k.toNatClampNeg
def z_drop (X : d_T) (k : Int32) : d_T := if q_drop X k then d_setL X k.toNatClampNeg 0 false (d_j X k.toNatClampNeg) (d_s X k.toNatClampNeg) else X
def q_stmts (X : d_T) (k : Int32) : Int32 := if q_L k then (if d_b X k.toNatClampNeg then nI (d_k X k.toNatClampNeg) else -1) else -2
def q_appl (X : d_T) (k : Int32) : Int32 := if d_e X = -1 then -1 else if q_L k then nI (d_j X k.toNatClampNeg) else -1
def q_key (k : Int32) : Bool := decide (0 ≤ k ∧ k < 8)
def q_offer (X : d_T) (k : Int32) : Int32 := if q_key k then (if 4 ≤ d_c X k.toNatClampNeg then -3 else d_c X k.toNatClampNeg + 1) else -2
def z_offer (X : d_T) (k : Int32) (x : Int64) : d_T := if q_key k then (if 4 ≤ d_c X k.toNatClampNeg then X else d_setV X (upd (d_c X) k.toNatClampNeg (d_c X k.toNatClampNeg + 1)) (vp_updL (d_r X) (4 * k.toNatClampNeg + (d_c X k.toNatClampNeg).toNatClampNeg) x)) else X
def q_forget (X : d_T) (k : Int32) : Int32 := if q_key k then d_c X k.toNatClampNeg else -2
def z_forget (X : d_T) (k : Int32) : d_T := if q_key k then d_setV X (upd (d_c X) k.toNatClampNeg 0) (d_r X) else X
def q_holds (X : d_T) (hv : Nat → Bool) (k : Int32) : Bool := decide (0 ≤ k ∧ k < nI (d_n X)) && hv (d_p X k.toNatClampNeg)
theorem q_L_in {k : Int32} (h : q_L k = true) : ∃ j : Nat, j < 6 ∧ k = nI j := by
  have h := of_decide_eq_true h
  rcases pk_ix k (n := 6) (by decide) with h1 | h1 | h1
  · exact absurd h1 (Int32.not_lt.mpr h.1)
  · exact absurd h1 (Int32.not_le.mpr h.2)
  · exact h1
theorem q_key_in {k : Int32} (h : q_key k = true) : ∃ j : Nat, j < 8 ∧ k = nI j := by
  have h := of_decide_eq_true h
  exact vl_key' h.1 h.2
end
section
set_option maxHeartbeats 4000000 in
set_option maxRecDepth 100000 in
theorem c_DL_isLayer (l : Launch) (D : va_G) (cA : Nat → ClassId) (k : Int32) : Met l y_DL_isLayer [.code y_DL_isLayer b_DL_isLayer 1 (some .boolean)] (x_rm 0 0 0) (x_P D cA [.int k] (fun _ => True)) (x_Q (some (.int (bI (q_L k)))) (x_same)) 0 0 (fun _ => False) := by
  refine x_met (own := "DecisionLayers") (by decide) rfl (Nat.le_of_ble_eq_true rfl) ?_
  intro pp ee s mm below mt cd ls hx hb hr hlk hnm hml hown hts hE hP hl
  have hl : lv_has ls 1 [(0, .int k)] := hl
  refine lv_iload_n hx hb d_DL_isLayer_0 rfl (lv_at hl 0 rfl) ?_
  refine lv_if_lt (tgt := 14) hx hb d_DL_isLayer_1 (by decide) (fun h1 => ?_) (fun h1 => ?_)
  · refine lv_iconst (v := 0) hx hb d_DL_isLayer_14 (by decide) ?_
    refine x_topi (y := bI (q_L k)) (by unfold q_L; rw [bI_no (fun z => absurd h1 (Int32.not_lt.mpr z.1))]) ?_
    exact W.zret (ty := .boolean) hx hb hr (bI_z _) (fun t ht hW => ⟨rfl, ht⟩) (fun q h => by cases h) d_DL_isLayer_15
  · refine lv_iload_n hx hb d_DL_isLayer_4 rfl (lv_at hl 0 rfl) ?_
    refine lv_bipush (v := 6) hx hb d_DL_isLayer_5 (by decide) ?_
    refine lv_icmp_ge (tgt := 14) hx hb d_DL_isLayer_7 (by decide) (fun h2 => ?_) (fun h2 => ?_)
    · refine lv_iconst (v := 0) hx hb d_DL_isLayer_14 (by decide) ?_
      refine x_topi (y := bI (q_L k)) (by unfold q_L; rw [bI_no (fun z => absurd h2 (Int32.not_le.mpr z.2))]) ?_
      exact W.zret (ty := .boolean) hx hb hr (bI_z _) (fun t ht hW => ⟨rfl, ht⟩) (fun q h => by cases h) d_DL_isLayer_15
    · refine lv_iconst (v := 1) hx hb d_DL_isLayer_10 (by decide) ?_
      refine lv_goto (tgt := 15) hx hb d_DL_isLayer_11 (by decide) ?_
      refine x_topi (y := bI (q_L k)) (by unfold q_L; rw [bI_of ⟨Int32.not_lt.mp h1, Int32.not_le.mp h2⟩]) ?_
      exact W.zret (ty := .boolean) hx hb hr (bI_z _) (fun t ht hW => ⟨rfl, ht⟩) (fun q h => by cases h) d_DL_isLayer_15
set_option maxHeartbeats 4000000 in
set_option maxRecDepth 100000 in
theorem c_DL_isDigit (l : Launch) (D : va_G) (cA : Nat → ClassId) (k : Int32) : Met l y_DL_isDigit [.code y_DL_isDigit b_DL_isDigit 1 (some .boolean)] (x_rm 0 0 0) (x_P D cA [.int k] (fun _ => True)) (x_Q (some (.int (bI (decide (0 ≤ k ∧ k ≤ 9))))) (x_same)) 0 0 (fun _ => False) := by
  refine x_met (own := "DecisionLayers") (by decide) rfl (Nat.le_of_ble_eq_true rfl) ?_
  intro pp ee s mm below mt cd ls hx hb hr hlk hnm hml hown hts hE hP hl
  have hl : lv_has ls 1 [(0, .int k)] := hl
  refine lv_iload_n hx hb d_DL_isDigit_0 rfl (lv_at hl 0 rfl) ?_
  refine lv_if_lt (tgt := 14) hx hb d_DL_isDigit_1 (by decide) (fun h1 => ?_) (fun h1 => ?_)
  · refine lv_iconst (v := 0) hx hb d_DL_isDigit_14 (by decide) ?_
    refine x_topi (y := bI (decide (0 ≤ k ∧ k ≤ 9))) (by rw [bI_no (fun z => absurd h1 (Int32.not_lt.mpr z.1))]) ?_
    exact W.zret (ty := .boolean) hx hb hr (bI_z _) (fun t ht hW => ⟨rfl, ht⟩) (fun q h => by cases h) d_DL_isDigit_15
  · refine lv_iload_n hx hb d_DL_isDigit_4 rfl (lv_at hl 0 rfl) ?_
    refine lv_bipush (v := 9) hx hb d_DL_isDigit_5 (by decide) ?_
    refine lv_icmp_gt (tgt := 14) hx hb d_DL_isDigit_7 (by decide) (fun h2 => ?_) (fun h2 => ?_)
    · refine lv_iconst (v := 0) hx hb d_DL_isDigit_14 (by decide) ?_
      refine x_topi (y := bI (decide (0 ≤ k ∧ k ≤ 9))) (by rw [bI_no (fun z => absurd h2 (Int32.not_lt.mpr z.2))]) ?_
      exact W.zret (ty := .boolean) hx hb hr (bI_z _) (fun t ht hW => ⟨rfl, ht⟩) (fun q h => by cases h) d_DL_isDigit_15
    · refine lv_iconst (v := 1) hx hb d_DL_isDigit_10 (by decide) ?_
      refine lv_goto (tgt := 15) hx hb d_DL_isDigit_11 (by decide) ?_
      refine x_topi (y := bI (decide (0 ≤ k ∧ k ≤ 9))) (by rw [bI_of ⟨Int32.not_lt.mp h1, Int32.not_lt.mp h2⟩]) ?_
      exact W.zret (ty := .boolean) hx hb hr (bI_z _) (fun t ht hW => ⟨rfl, ht⟩) (fun q h => by cases h) d_DL_isDigit_15
set_option maxHeartbeats 4000000 in
set_option maxRecDepth 100000 in
theorem c_DL_mayStandIn (l : Launch) (D : va_G) (cA : Nat → ClassId) (k w : Int32) : Met l y_DL_mayStandIn [.code y_DL_mayStandIn b_DL_mayStandIn 2 (some .boolean)] (x_rm 1 0 0) (x_P D cA [.int k, .int w] (fun _ => True)) (x_Q (some (.int (bI (q_may k w)))) (x_same)) 0 0 (fun _ => False) := by
  refine x_met (own := "DecisionLayers") (by decide) rfl (Nat.le_of_ble_eq_true rfl) ?_
  intro pp ee s mm below mt cd ls hx hb hr hlk hnm hml hown hts hE hP hl
  have hl : lv_has ls 2 [(0, .int k), (1, .int w)] := hl
  refine lv_iload_n hx hb d_DL_mayStandIn_0 rfl (lv_at hl 0 rfl) ?_
  refine lv_iconst (v := 5) hx hb d_DL_mayStandIn_1 (by decide) ?_
  refine lv_icmp_ne (tgt := 12) hx hb d_DL_mayStandIn_2 (by decide) (fun h1 => ?_) (fun h1 => ?_)
  · refine lv_iload_n hx hb d_DL_mayStandIn_12 rfl (lv_at hl 1 rfl) ?_
    refine lv_iconst (v := (-1)) hx hb d_DL_mayStandIn_13 (by decide) ?_
    refine lv_icmp_ne (tgt := 21) hx hb d_DL_mayStandIn_14 (by decide) (fun h2 => ?_) (fun h2 => ?_)
    · refine lv_iconst (v := 0) hx hb d_DL_mayStandIn_21 (by decide) ?_
      refine x_topi (y := bI (q_may k w)) (by unfold q_may; rw [if_neg h1, bI_no h2]) ?_
      exact W.zret (ty := .boolean) hx hb hr (bI_z _) (fun t ht hW => ⟨rfl, ht⟩) (fun q h => by cases h) d_DL_mayStandIn_22
    · refine lv_iconst (v := 1) hx hb d_DL_mayStandIn_17 (by decide) ?_
      refine lv_goto (tgt := 22) hx hb d_DL_mayStandIn_18 (by decide) ?_
      refine x_topi (y := bI (q_may k w)) (by unfold q_may; rw [if_neg h1, bI_of h2]) ?_
      exact W.zret (ty := .boolean) hx hb hr (bI_z _) (fun t ht hW => ⟨rfl, ht⟩) (fun q h => by cases h) d_DL_mayStandIn_22
  · refine lv_iload_n hx hb d_DL_mayStandIn_5 rfl (lv_at hl 1 rfl) ?_
    refine x_cp (k_DL_124 (As := [.int w]) (rest := []) hx hb hml hown hts (c_Statement_isWho l D cA w) (x_preS hE trivial) rfl hl.1 rfl (Nat.le_of_ble_eq_true rfl) d_DL_mayStandIn_6 (by decide) ⟨Nat.zero_le _, Nat.zero_le _⟩) ?_
    refine lv_goto (tgt := 22) hx hb d_DL_mayStandIn_9 (by decide) ?_
    refine x_topi (y := bI (q_may k w)) (by unfold q_may; rw [if_pos h1]) ?_
    exact W.zret (ty := .boolean) hx hb hr (bI_z _) (fun t ht hW => ⟨rfl, ht⟩) (fun q h => by cases h) d_DL_mayStandIn_22
set_option maxHeartbeats 4000000 in
set_option maxRecDepth 100000 in
theorem c_DL_pile (l : Launch) (D : va_G) (cA : Nat → ClassId) (N : n_T) (o : Nat) (X : d_T) : Met l y_DL_pile [.code y_DL_pile b_DL_pile 1 (some .int)] (x_rm 0 0 0) (x_P D cA [.ref o] (fun H => d_W D cA N o X H)) (x_Q (some (.int (nI (d_n X)))) (x_same)) 0 0 (fun _ => False) := by
  refine x_met (own := "DecisionLayers") (by decide) rfl (Nat.le_of_ble_eq_true rfl) ?_
  intro pp ee s mm below mt cd ls hx hb hr hlk hnm hml hown hts hE hP hl
  have hl : lv_has ls 1 [(0, .ref o)] := hl
  refine lv_aload_n hx hb d_DL_pile_0 rfl (lv_at hl 0 rfl) ?_
  refine fg_DL_29_DL hx hb hown hts hE hP.1 rfl d_DL_pile_1 ?_
  exact W.iret hx hb hr (fun t ht hW => ⟨rfl, ht⟩) (fun q h => by cases h) d_DL_pile_4
set_option maxHeartbeats 4000000 in
set_option maxRecDepth 100000 in
theorem c_DL_layer (l : Launch) (D : va_G) (cA : Nat → ClassId) (N : n_T) (o : Nat) (X : d_T) : Met l y_DL_layer [.code y_DL_layer b_DL_layer 1 (some .int)] (x_rm 0 0 0) (x_P D cA [.ref o] (fun H => d_W D cA N o X H)) (x_Q (some (.int (d_e X))) (x_same)) 0 0 (fun _ => False) := by
  refine x_met (own := "DecisionLayers") (by decide) rfl (Nat.le_of_ble_eq_true rfl) ?_
  intro pp ee s mm below mt cd ls hx hb hr hlk hnm hml hown hts hE hP hl
  have hl : lv_has ls 1 [(0, .ref o)] := hl
  refine lv_aload_n hx hb d_DL_layer_0 rfl (lv_at hl 0 rfl) ?_
  refine fg_DL_33_DL hx hb hown hts hE hP.1 rfl d_DL_layer_1 ?_
  exact W.iret hx hb hr (fun t ht hW => ⟨rfl, ht⟩) (fun q h => by cases h) d_DL_layer_4
set_option maxHeartbeats 4000000 in
set_option maxRecDepth 100000 in
theorem c_DL_matches (l : Launch) (D : va_G) (cA : Nat → ClassId) (N : n_T) (o : Nat) (X : d_T) (x y : Int64) (lo : Bool) : Met l y_DL_matches [.code y_DL_matches b_DL_matches 6 (some .boolean)] (x_rm 3 0 0) (x_P D cA [.ref o, .long x, .long y, .int (bI lo)] (fun H => d_W D cA N o X H)) (x_Q (some (.int (bI (pt_m (d_c X) (d_r X) x y lo)))) (x_same)) 0 0 (fun _ => False) := by
  refine x_met (own := "DecisionLayers") (by decide) rfl (Nat.le_of_ble_eq_true rfl) ?_
  intro pp ee s mm below mt cd ls hx hb hr hlk hnm hml hown hts hE hP hl
  have hl : lv_has ls 6 [(0, .ref o), (1, .long x), (3, .long y), (5, .int (bI lo))] := hl
  refine lv_lload_n hx hb d_DL_matches_0 rfl (lv_at hl 1 rfl) ?_
  refine lv_lload_n hx hb d_DL_matches_1 rfl (lv_at hl 2 rfl) ?_
  refine lv_iload hx hb d_DL_matches_2 (lv_at hl 3 rfl) ?_
  refine lv_aload_n hx hb d_DL_matches_4 rfl (lv_at hl 0 rfl) ?_
  refine fg_DL_10_DL hx hb hown hts hE hP.1 rfl d_DL_matches_5 ?_
  refine x_cp (k_DL_114 (As := [.long x, .long y, .int (bI lo), .ref (o + 1)]) (rest := []) hx hb hml hown hts (c_Pattern_fits l D cA (o + 1) (d_c X) (d_r X) x y lo) (x_preS hE hP.2.1) rfl hl.1 rfl (Nat.le_of_ble_eq_true rfl) d_DL_matches_8 (by decide) ⟨Nat.zero_le _, Nat.zero_le _⟩) ?_
  exact W.zret (ty := .boolean) hx hb hr (bI_z _) (fun t ht hW => ⟨rfl, ht⟩) (fun q h => by cases h) d_DL_matches_11
set_option maxHeartbeats 4000000 in
set_option maxRecDepth 100000 in
theorem c_DL_statements (l : Launch) (D : va_G) (cA : Nat → ClassId) (N : n_T) (o : Nat) (X : d_T) (k : Int32) : Met l y_DL_statements [.code y_DL_statements b_DL_statements 2 (some .int)] (x_rm 1 0 0) (x_P D cA [.ref o, .int k] (fun H => d_W D cA N o X H)) (x_Q (some (.int (q_stmts X k))) (x_same)) 0 0 (fun _ => False) := by
  refine x_met (own := "DecisionLayers") (by decide) rfl (Nat.le_of_ble_eq_true rfl) ?_
  intro pp ee s mm below mt cd ls hx hb hr hlk hnm hml hown hts hE hP hl
  have hl : lv_has ls 2 [(0, .ref o), (1, .int k)] := hl
  obtain ⟨hO, hV, hC, hLa, hLy⟩ := id hP
  refine lv_iload_n hx hb d_DL_statements_0 rfl (lv_at hl 1 rfl) ?_
  refine x_cp (k_DL_62 (As := [.int k]) (rest := []) hx hb hml hown hts (c_DL_isLayer l D cA k) (x_preS hE trivial) rfl hl.1 rfl (Nat.le_of_ble_eq_true rfl) d_DL_statements_1 (by decide) ⟨Nat.zero_le _, Nat.zero_le _⟩) ?_
  refine lv_if_ne (tgt := 10) hx hb d_DL_statements_4 (by decide) (fun h1 => ?_) (fun h1 => ?_)
  · have h1 := bI_n0.mp h1
    obtain ⟨j, hj, rfl⟩ := q_L_in h1
    have hcl : (nI j).toNatClampNeg = j := nI_clamp (by omega)
    have hly := hLy j hj
    refine lv_aload_n hx hb d_DL_statements_10 rfl (lv_at hl 0 rfl) ?_
    refine fg_DL_24_DL hx hb hown hts hE hO rfl d_DL_statements_11 ?_
    refine lv_iload_n hx hb d_DL_statements_14 rfl (lv_at hl 1 rfl) ?_
    refine x_aald hx hb hE.2.2 hLa 5 rfl hj (by decide) d_DL_statements_15 ?_
    refine x_topv (y := .ref (o + 6 + 8 * j)) (rfl) ?_
    refine fg_DL_79_Layer hx hb hown hts hE hly.1 rfl d_DL_statements_16 ?_
    refine lv_if_eq (tgt := 34) hx hb d_DL_statements_19 (by decide) (fun h2 => ?_) (fun h2 => ?_)
    · refine lv_iconst (v := (-1)) hx hb d_DL_statements_34 (by decide) ?_
      refine x_topi (y := q_stmts X (nI j)) (by unfold q_stmts; rw [h1, if_pos rfl, hcl, bI_0.mp h2]; rfl) ?_
      exact W.iret hx hb hr (fun t ht hW => ⟨rfl, ht⟩) (fun q h => by cases h) d_DL_statements_35
    · refine lv_aload_n hx hb d_DL_statements_22 rfl (lv_at hl 0 rfl) ?_
      refine fg_DL_24_DL hx hb hown hts hE hO rfl d_DL_statements_23 ?_
      refine lv_iload_n hx hb d_DL_statements_26 rfl (lv_at hl 1 rfl) ?_
      refine x_aald hx hb hE.2.2 hLa 5 rfl hj (by decide) d_DL_statements_27 ?_
      refine x_topv (y := .ref (o + 6 + 8 * j)) (rfl) ?_
      refine fg_DL_86_Layer hx hb hown hts hE hly.1 rfl d_DL_statements_28 ?_
      refine lv_goto (tgt := 35) hx hb d_DL_statements_31 (by decide) ?_
      refine x_topi (y := q_stmts X (nI j)) (by unfold q_stmts; rw [h1, if_pos rfl, hcl, bI_n0.mp h2]; rfl) ?_
      exact W.iret hx hb hr (fun t ht hW => ⟨rfl, ht⟩) (fun q h => by cases h) d_DL_statements_35
  · have h1 := bI_0.mp h1
    refine lv_bipush (v := (-2)) hx hb d_DL_statements_7 (by decide) ?_
    refine x_topi (y := q_stmts X k) (by unfold q_stmts; rw [h1]; rfl) ?_
    exact W.iret hx hb hr (fun t ht hW => ⟨rfl, ht⟩) (fun q h => by cases h) d_DL_statements_9
set_option maxHeartbeats 4000000 in
set_option maxRecDepth 100000 in
theorem c_DL_applied (l : Launch) (D : va_G) (cA : Nat → ClassId) (N : n_T) (o : Nat) (X : d_T) (k : Int32) : Met l y_DL_applied [.code y_DL_applied b_DL_applied 2 (some .int)] (x_rm 1 0 0) (x_P D cA [.ref o, .int k] (fun H => d_W D cA N o X H)) (x_Q (some (.int (q_appl X k))) (x_same)) 0 0 (fun _ => False) := by
  refine x_met (own := "DecisionLayers") (by decide) rfl (Nat.le_of_ble_eq_true rfl) ?_
  intro pp ee s mm below mt cd ls hx hb hr hlk hnm hml hown hts hE hP hl
  have hl : lv_has ls 2 [(0, .ref o), (1, .int k)] := hl
  obtain ⟨hO, hV, hC, hLa, hLy⟩ := id hP
  refine lv_aload_n hx hb d_DL_applied_0 rfl (lv_at hl 0 rfl) ?_
  refine fg_DL_33_DL hx hb hown hts hE hO rfl d_DL_applied_1 ?_
  refine lv_iconst (v := (-1)) hx hb d_DL_applied_4 (by decide) ?_
  refine lv_icmp_eq (tgt := 15) hx hb d_DL_applied_5 (by decide) (fun h0 => ?_) (fun h0 => ?_)
  · refine lv_iconst (v := (-1)) hx hb d_DL_applied_15 (by decide) ?_
    refine x_topi (y := q_appl X k) (by unfold q_appl; rw [if_pos h0]) ?_
    exact W.iret hx hb hr (fun t ht hW => ⟨rfl, ht⟩) (fun q h => by cases h) d_DL_applied_16
  · refine lv_iload_n hx hb d_DL_applied_8 rfl (lv_at hl 1 rfl) ?_
    refine x_cp (k_DL_62 (As := [.int k]) (rest := []) hx hb hml hown hts (c_DL_isLayer l D cA k) (x_preS hE trivial) rfl hl.1 rfl (Nat.le_of_ble_eq_true rfl) d_DL_applied_9 (by decide) ⟨Nat.zero_le _, Nat.zero_le _⟩) ?_
    refine lv_if_ne (tgt := 17) hx hb d_DL_applied_12 (by decide) (fun h1 => ?_) (fun h1 => ?_)
    · have h1 := bI_n0.mp h1
      obtain ⟨j, hj, rfl⟩ := q_L_in h1
      have hcl : (nI j).toNatClampNeg = j := nI_clamp (by omega)
      have hly := hLy j hj
      refine lv_aload_n hx hb d_DL_applied_17 rfl (lv_at hl 0 rfl) ?_
      refine fg_DL_24_DL hx hb hown hts hE hO rfl d_DL_applied_18 ?_
      refine lv_iload_n hx hb d_DL_applied_21 rfl (lv_at hl 1 rfl) ?_
      refine x_aald hx hb hE.2.2 hLa 5 rfl hj (by decide) d_DL_applied_22 ?_
      refine x_topv (y := .ref (o + 6 + 8 * j)) (rfl) ?_
      refine fg_DL_111_Layer hx hb hown hts hE hly.1 rfl d_DL_applied_23 ?_
      refine x_topi (y := q_appl X (nI j)) (by unfold q_appl; rw [if_neg h0, h1, if_pos rfl, hcl]) ?_
      exact W.iret hx hb hr (fun t ht hW => ⟨rfl, ht⟩) (fun q h => by cases h) d_DL_applied_26
    · refine lv_iconst (v := (-1)) hx hb d_DL_applied_15 (by decide) ?_
      refine x_topi (y := q_appl X k) (by unfold q_appl; rw [if_neg h0, bI_0.mp h1]; rfl) ?_
      exact W.iret hx hb hr (fun t ht hW => ⟨rfl, ht⟩) (fun q h => by cases h) d_DL_applied_16
set_option maxHeartbeats 4000000 in
set_option maxRecDepth 100000 in
theorem c_DL_open (l : Launch) (D : va_G) (cA : Nat → ClassId) (N : n_T) (o : Nat) (X : d_T) (k : Int32) : Met l y_DL_open [.code y_DL_open b_DL_open 2 (some .boolean)] (x_rm 1 0 0) (x_P D cA [.ref o, .int k] (fun H => d_W D cA N o X H)) (x_Q (some (.int (bI (q_open X k)))) (fun H H1 => x_F (d_A o) H H1 ∧ d_W D cA N o (z_open X k) H1)) 0 0 (d_A o) := by
  refine x_met (own := "DecisionLayers") (by decide) rfl (Nat.le_of_ble_eq_true rfl) ?_
  intro pp ee s mm below mt cd ls hx hb hr hlk hnm hml hown hts hE hP hl
  have hl : lv_has ls 2 [(0, .ref o), (1, .int k)] := hl
  obtain ⟨hO, hV, hC, hLa, hLy⟩ := id hP
  have hF : ∀ q ∈ ([] : List Loc), d_A o q.base := t_nil
  refine lv_iload_n hx hb d_DL_open_0 rfl (lv_at hl 1 rfl) ?_
  refine x_cp (k_DL_62 (As := [.int k]) (rest := []) hx hb hml hown hts (c_DL_isLayer l D cA k) (x_preS hE trivial) rfl hl.1 rfl (Nat.le_of_ble_eq_true rfl) d_DL_open_1 (by decide) ⟨Nat.zero_le _, Nat.zero_le _⟩) ?_
  refine lv_if_eq (tgt := 19) hx hb d_DL_open_4 (by decide) (fun h1 => ?_) (fun h1 => ?_)
  · have h1 := bI_0.mp h1
    have hq : q_open X k = false := by unfold q_open; rw [h1]; rfl
    refine lv_iconst (v := 0) hx hb d_DL_open_19 (by decide) ?_
    refine x_topi (y := bI (q_open X k)) (by rw [hq]; rfl) ?_
    exact W.zret (ty := .boolean) hx hb hr (bI_z _) (fun t ht hW => ⟨rfl, by rw [ht]; exact ⟨x_F.rf, by unfold z_open; rw [hq]; exact hP⟩⟩) hF d_DL_open_20
  · have h1 := bI_n0.mp h1
    obtain ⟨j, hj, rfl⟩ := q_L_in h1
    have hcl : (nI j).toNatClampNeg = j := nI_clamp (by omega)
    have hly := hLy j hj
    refine lv_aload_n hx hb d_DL_open_7 rfl (lv_at hl 0 rfl) ?_
    refine fg_DL_24_DL hx hb hown hts hE hO rfl d_DL_open_8 ?_
    refine lv_iload_n hx hb d_DL_open_11 rfl (lv_at hl 1 rfl) ?_
    refine x_aald hx hb hE.2.2 hLa 5 rfl hj (by decide) d_DL_open_12 ?_
    refine x_topv (y := .ref (o + 6 + 8 * j)) (rfl) ?_
    refine fg_DL_79_Layer hx hb hown hts hE hly.1 rfl d_DL_open_13 ?_
    refine lv_if_eq (tgt := 21) hx hb d_DL_open_16 (by decide) (fun h2 => ?_) (fun h2 => ?_)
    · have hq : q_open X (nI j) = true := by unfold q_open; rw [h1, hcl, bI_0.mp h2]; rfl
      refine lv_aload_n hx hb d_DL_open_21 rfl (lv_at hl 0 rfl) ?_
      refine fg_DL_24_DL hx hb hown hts hE hO rfl d_DL_open_22 ?_
      refine lv_iload_n hx hb d_DL_open_25 rfl (lv_at hl 1 rfl) ?_
      refine x_aald hx hb hE.2.2 hLa 5 rfl hj (by decide) d_DL_open_26 ?_
      refine x_topv (y := .ref (o + 6 + 8 * j)) (rfl) ?_
      refine lv_iconst (v := 1) hx hb d_DL_open_27 (by decide) ?_
      refine fp_DL_79_Layer hx hb hown hts hE hly.1 rfl rfl (Nat.le_of_ble_eq_true rfl) d_DL_open_28 (fun H1 k1 g1 o1 => ?_)
      have hF := t_lc (a := o + 6 + 8 * j) (i := k1) hF (d_A_in (by omega) (by omega))
      have hd := hP.lay (l := j) (x_F.of1 (A := x_A [o + 6 + 8 * j]) o1 (x_A1.mpr rfl)) (fun q h => by rw [x_A1.mp h]; omega) (show l_W D cA N (o + 6 + 8 * j) (d_k X j) true (d_j X j) (d_s X j) H1 from ⟨g1, hly.2.1.k1 o1 (show o + 6 + 8 * j + 1 ≠ o + 6 + 8 * j by omega), fun k hk => (hly.2.2 k hk).k1 o1 (show o + 6 + 8 * j + 2 + k ≠ o + 6 + 8 * j by omega)⟩)
      refine lv_iconst (v := 1) hx hb d_DL_open_31 (by decide) ?_
      refine x_topi (y := bI (q_open X (nI j))) (by rw [hq]; rfl) ?_
      exact W.zret (ty := .boolean) hx hb hr (bI_z _) (fun t ht hW => ⟨rfl, by rw [ht]; exact ⟨x_F.of1 o1 (d_A_in (by omega) (by omega)), by unfold z_open; rw [hq, if_pos rfl, hcl]; exact hd⟩⟩) hF d_DL_open_32
    · have hq : q_open X (nI j) = false := by unfold q_open; rw [h1, hcl, bI_n0.mp h2]; rfl
      refine lv_iconst (v := 0) hx hb d_DL_open_19 (by decide) ?_
      refine x_topi (y := bI (q_open X (nI j))) (by rw [hq]; rfl) ?_
      exact W.zret (ty := .boolean) hx hb hr (bI_z _) (fun t ht hW => ⟨rfl, by rw [ht]; exact ⟨x_F.rf, by unfold z_open; rw [hq]; exact hP⟩⟩) hF d_DL_open_20
set_option maxHeartbeats 4000000 in
set_option maxRecDepth 100000 in
theorem c_DL_drop (l : Launch) (D : va_G) (cA : Nat → ClassId) (N : n_T) (o : Nat) (X : d_T) (k : Int32) : Met l y_DL_drop [.code y_DL_drop b_DL_drop 2 (some .boolean)] (x_rm 1 0 0) (x_P D cA [.ref o, .int k] (fun H => d_W D cA N o X H)) (x_Q (some (.int (bI (q_drop X k)))) (fun H H1 => x_F (d_A o) H H1 ∧ d_W D cA N o (z_drop X k) H1)) 0 0 (d_A o) := by
  refine x_met (own := "DecisionLayers") (by decide) rfl (Nat.le_of_ble_eq_true rfl) ?_
  intro pp ee s mm below mt cd ls hx hb hr hlk hnm hml hown hts hE hP hl
  have hl : lv_has ls 2 [(0, .ref o), (1, .int k)] := hl
  obtain ⟨hO, hV, hC, hLa, hLy⟩ := id hP
  have hF : ∀ q ∈ ([] : List Loc), d_A o q.base := t_nil
  refine lv_iload_n hx hb d_DL_drop_0 rfl (lv_at hl 1 rfl) ?_
  refine x_cp (k_DL_62 (As := [.int k]) (rest := []) hx hb hml hown hts (c_DL_isLayer l D cA k) (x_preS hE trivial) rfl hl.1 rfl (Nat.le_of_ble_eq_true rfl) d_DL_drop_1 (by decide) ⟨Nat.zero_le _, Nat.zero_le _⟩) ?_
  refine lv_if_eq (tgt := 19) hx hb d_DL_drop_4 (by decide) (fun h1 => ?_) (fun h1 => ?_)
  · have h1 := bI_0.mp h1
    have hq : q_drop X k = false := by unfold q_drop; rw [h1]; rfl
    refine lv_iconst (v := 0) hx hb d_DL_drop_19 (by decide) ?_
    refine x_topi (y := bI (q_drop X k)) (by rw [hq]; rfl) ?_
    exact W.zret (ty := .boolean) hx hb hr (bI_z _) (fun t ht hW => ⟨rfl, by rw [ht]; exact ⟨x_F.rf, by unfold z_drop; rw [hq]; exact hP⟩⟩) hF d_DL_drop_20
  · have h1 := bI_n0.mp h1
    obtain ⟨j, hj, rfl⟩ := q_L_in h1
    have hcl : (nI j).toNatClampNeg = j := nI_clamp (by omega)
    have hly := hLy j hj
    refine lv_aload_n hx hb d_DL_drop_7 rfl (lv_at hl 0 rfl) ?_
    refine fg_DL_24_DL hx hb hown hts hE hO rfl d_DL_drop_8 ?_
    refine lv_iload_n hx hb d_DL_drop_11 rfl (lv_at hl 1 rfl) ?_
    refine x_aald hx hb hE.2.2 hLa 5 rfl hj (by decide) d_DL_drop_12 ?_
    refine x_topv (y := .ref (o + 6 + 8 * j)) (rfl) ?_
    refine fg_DL_79_Layer hx hb hown hts hE hly.1 rfl d_DL_drop_13 ?_
    refine lv_if_ne (tgt := 21) hx hb d_DL_drop_16 (by decide) (fun h2 => ?_) (fun h2 => ?_)
    · have hq : q_drop X (nI j) = true := by unfold q_drop; rw [h1, hcl, bI_n0.mp h2]; rfl
      refine lv_aload_n hx hb d_DL_drop_21 rfl (lv_at hl 0 rfl) ?_
      refine fg_DL_24_DL hx hb hown hts hE hO rfl d_DL_drop_22 ?_
      refine lv_iload_n hx hb d_DL_drop_25 rfl (lv_at hl 1 rfl) ?_
      refine x_aald hx hb hE.2.2 hLa 5 rfl hj (by decide) d_DL_drop_26 ?_
      refine x_topv (y := .ref (o + 6 + 8 * j)) (rfl) ?_
      refine x_cv (k_DL_83 (As := []) (rest := []) hx hb hml hown hts (c_Layer_empty l D cA N (o + 6 + 8 * j) (d_k X j) (d_b X j) (d_j X j) (d_s X j)) (x_preV hE hly.1 rfl rfl hly) rfl hl.1 rfl (Nat.le_of_ble_eq_true rfl) d_DL_drop_27 (by decide) ⟨Nat.zero_le _, Nat.zero_le _⟩) (fun H1 L1 p1 f1 => ?_)
      have hF := t_lL hF (fun q h => (show ∀ q : Nat, x_A [o + 6 + 8 * j] q → d_A o q from fun q h => by rw [x_A1.mp h]; exact d_A_in (by omega) (by omega)) q.base (f1 q h))
      have hd := hP.lay (l := j) p1.1 (fun q h => by rw [x_A1.mp h]; omega) p1.2
      refine lv_iconst (v := 1) hx hb d_DL_drop_30 (by decide) ?_
      refine x_topi (y := bI (q_drop X (nI j))) (by rw [hq]; rfl) ?_
      exact W.zret (ty := .boolean) hx hb hr (bI_z _) (fun t ht hW => ⟨rfl, by rw [ht]; exact ⟨p1.1.mono (fun q h => by rw [x_A1.mp h]; exact d_A_in (by omega) (by omega)), by unfold z_drop; rw [hq, if_pos rfl, hcl]; exact hd⟩⟩) hF d_DL_drop_31
    · have hq : q_drop X (nI j) = false := by unfold q_drop; rw [h1, hcl, bI_0.mp h2]; rfl
      refine lv_iconst (v := 0) hx hb d_DL_drop_19 (by decide) ?_
      refine x_topi (y := bI (q_drop X (nI j))) (by rw [hq]; rfl) ?_
      exact W.zret (ty := .boolean) hx hb hr (bI_z _) (fun t ht hW => ⟨rfl, by rw [ht]; exact ⟨x_F.rf, by unfold z_drop; rw [hq]; exact hP⟩⟩) hF d_DL_drop_20
set_option maxHeartbeats 4000000 in
set_option maxRecDepth 100000 in
theorem c_DL_offer (l : Launch) (D : va_G) (cA : Nat → ClassId) (N : n_T) (o : Nat) (X : d_T) (hvo : vl_ok (d_c X)) (k : Int32) (x : Int64) : Met l y_DL_offer [.code y_DL_offer b_DL_offer 4 (some .int)] (x_rm 2 0 0) (x_P D cA [.ref o, .int k, .long x] (fun H => d_W D cA N o X H)) (x_Q (some (.int (q_offer X k))) (fun H H1 => x_F (d_A o) H H1 ∧ d_W D cA N o (z_offer X k x) H1)) 0 0 (d_A o) := by
  refine x_met (own := "DecisionLayers") (by decide) rfl (Nat.le_of_ble_eq_true rfl) ?_
  intro pp ee s mm below mt cd ls hx hb hr hlk hnm hml hown hts hE hP hl
  have hl : lv_has ls 4 [(0, .ref o), (1, .int k), (2, .long x)] := hl
  obtain ⟨hO, hV, hC, hLa, hLy⟩ := id hP
  have hF : ∀ q ∈ ([] : List Loc), d_A o q.base := t_nil
  refine lv_iload_n hx hb d_DL_offer_0 rfl (lv_at hl 1 rfl) ?_
  refine x_cp (k_DL_36 (As := [.int k]) (rest := []) hx hb hml hown hts (c_Values_isKey l D cA k) (x_preS hE trivial) rfl hl.1 rfl (Nat.le_of_ble_eq_true rfl) d_DL_offer_1 (by decide) ⟨Nat.zero_le _, Nat.zero_le _⟩) ?_
  refine lv_if_ne (tgt := 10) hx hb d_DL_offer_4 (by decide) (fun h1 => ?_) (fun h1 => ?_)
  · have h1 : q_key k = true := bI_n0.mp h1
    obtain ⟨j, hj, rfl⟩ := q_key_in h1
    have hcl : (nI j).toNatClampNeg = j := nI_clamp (by omega)
    obtain ⟨n, hn4, hn⟩ := hvo j hj
    refine lv_aload_n hx hb d_DL_offer_10 rfl (lv_at hl 0 rfl) ?_
    refine fg_DL_10_DL hx hb hown hts hE hO rfl d_DL_offer_11 ?_
    refine lv_iload_n hx hb d_DL_offer_14 rfl (lv_at hl 1 rfl) ?_
    refine x_cp (k_DL_89 (As := [.int (nI j)]) (rest := []) hx hb hml hown hts (c_Values_isFull l D cA (o + 1) (d_c X) (d_r X) (nI j)) (x_preV hE hV.1 rfl rfl hV) rfl hl.1 rfl (Nat.le_of_ble_eq_true rfl) d_DL_offer_15 (by decide) ⟨Nat.zero_le _, Nat.zero_le _⟩) ?_
    refine lv_if_eq (tgt := 26) hx hb d_DL_offer_18 (by decide) (fun h2 => ?_) (fun h2 => ?_)
    · have h2 := of_decide_eq_false (bI_0.mp h2)
      rw [vl_c_in hj] at h2
      have hn3 : n < 4 := by rw [hn] at h2; exact n_lt (k := 4) h2 (by decide) (by omega)
      have hnc : (d_c X j).toNatClampNeg = n := by rw [hn]; exact nI_clamp (by omega)
      have hn1 : d_c X j + 1 = nI (n + 1) := by rw [hn]; exact (nI_succ n).symm
      refine lv_aload_n hx hb d_DL_offer_26 rfl (lv_at hl 0 rfl) ?_
      refine fg_DL_10_DL hx hb hown hts hE hO rfl d_DL_offer_27 ?_
      refine lv_iload_n hx hb d_DL_offer_30 rfl (lv_at hl 1 rfl) ?_
      refine lv_lload_n hx hb d_DL_offer_31 rfl (lv_at hl 2 rfl) ?_
      refine x_cw (k_DL_91 (As := [.int (nI j), .long x]) (rest := []) hx hb hml hown hts (c_Values_append l D cA (o + 1) (d_c X) (d_r X) j n x hj hn hn3) (x_preV hE hV.1 rfl rfl hV) rfl hl.1 rfl (Nat.le_of_ble_eq_true rfl) d_DL_offer_32 (by decide) ⟨Nat.zero_le _, Nat.zero_le _⟩) (fun H1 L1 p1 f1 => ?_)
      have hF := t_lL hF (fun q h => (show ∀ q : Nat, x_A [o + 1 + 1, o + 1 + 2] q → d_A o q from fun q h => by have h := x_A2.mp h; exact d_A_in (by omega) (by omega)) q.base (f1 q h))
      have hd := hP.val p1.1 (fun q h => by have h := x_A2.mp h; omega) p1.2
      refine x_topi (y := q_offer X (nI j)) (by unfold q_offer; rw [h1, if_pos rfl, hcl, if_neg h2, hn1]) ?_
      exact W.iret hx hb hr (fun t ht hW => ⟨rfl, by rw [ht]; exact ⟨p1.1.mono (fun q h => by have h := x_A2.mp h; exact d_A_in (by omega) (by omega)), by unfold z_offer; rw [h1, if_pos rfl, hcl, if_neg h2, hnc, hn1]; exact hd⟩⟩) hF d_DL_offer_35
    · have h2 := of_decide_eq_true (bI_n0.mp h2)
      rw [vl_c_in hj] at h2
      refine lv_bipush (v := (-3)) hx hb d_DL_offer_21 (by decide) ?_
      refine lv_goto (tgt := 35) hx hb d_DL_offer_23 (by decide) ?_
      refine x_topi (y := q_offer X (nI j)) (by unfold q_offer; rw [h1, if_pos rfl, hcl, if_pos h2]) ?_
      exact W.iret hx hb hr (fun t ht hW => ⟨rfl, by rw [ht]; exact ⟨x_F.rf, by unfold z_offer; rw [h1, if_pos rfl, hcl, if_pos h2]; exact hP⟩⟩) hF d_DL_offer_35
  · have h1 : q_key k = false := bI_0.mp h1
    refine lv_bipush (v := (-2)) hx hb d_DL_offer_7 (by decide) ?_
    refine x_topi (y := q_offer X k) (by unfold q_offer; rw [h1]; rfl) ?_
    exact W.iret hx hb hr (fun t ht hW => ⟨rfl, by rw [ht]; exact ⟨x_F.rf, by unfold z_offer; rw [h1]; exact hP⟩⟩) hF d_DL_offer_9
set_option maxHeartbeats 4000000 in
set_option maxRecDepth 100000 in
theorem c_DL_forget (l : Launch) (D : va_G) (cA : Nat → ClassId) (N : n_T) (o : Nat) (X : d_T) (k : Int32) : Met l y_DL_forget [.code y_DL_forget b_DL_forget 2 (some .int)] (x_rm 2 0 0) (x_P D cA [.ref o, .int k] (fun H => d_W D cA N o X H)) (x_Q (some (.int (q_forget X k))) (fun H H1 => x_F (d_A o) H H1 ∧ d_W D cA N o (z_forget X k) H1)) 0 0 (d_A o) := by
  refine x_met (own := "DecisionLayers") (by decide) rfl (Nat.le_of_ble_eq_true rfl) ?_
  intro pp ee s mm below mt cd ls hx hb hr hlk hnm hml hown hts hE hP hl
  have hl : lv_has ls 2 [(0, .ref o), (1, .int k)] := hl
  obtain ⟨hO, hV, hC, hLa, hLy⟩ := id hP
  have hF : ∀ q ∈ ([] : List Loc), d_A o q.base := t_nil
  refine lv_iload_n hx hb d_DL_forget_0 rfl (lv_at hl 1 rfl) ?_
  refine x_cp (k_DL_36 (As := [.int k]) (rest := []) hx hb hml hown hts (c_Values_isKey l D cA k) (x_preS hE trivial) rfl hl.1 rfl (Nat.le_of_ble_eq_true rfl) d_DL_forget_1 (by decide) ⟨Nat.zero_le _, Nat.zero_le _⟩) ?_
  refine lv_if_eq (tgt := 18) hx hb d_DL_forget_4 (by decide) (fun h1 => ?_) (fun h1 => ?_)
  · have h1 : q_key k = false := bI_0.mp h1
    refine lv_bipush (v := (-2)) hx hb d_DL_forget_18 (by decide) ?_
    refine x_topi (y := q_forget X k) (by unfold q_forget; rw [h1]; rfl) ?_
    exact W.iret hx hb hr (fun t ht hW => ⟨rfl, by rw [ht]; exact ⟨x_F.rf, by unfold z_forget; rw [h1]; exact hP⟩⟩) hF d_DL_forget_20
  · have h1 : q_key k = true := bI_n0.mp h1
    obtain ⟨j, hj, rfl⟩ := q_key_in h1
    have hcl : (nI j).toNatClampNeg = j := nI_clamp (by omega)
    refine lv_aload_n hx hb d_DL_forget_7 rfl (lv_at hl 0 rfl) ?_
    refine fg_DL_10_DL hx hb hown hts hE hO rfl d_DL_forget_8 ?_
    refine lv_iload_n hx hb d_DL_forget_11 rfl (lv_at hl 1 rfl) ?_
    refine x_cw (k_DL_94 (As := [.int (nI j)]) (rest := []) hx hb hml hown hts (c_Values_empty l D cA (o + 1) (d_c X) (d_r X) j hj) (x_preV hE hV.1 rfl rfl hV) rfl hl.1 rfl (Nat.le_of_ble_eq_true rfl) d_DL_forget_12 (by decide) ⟨Nat.zero_le _, Nat.zero_le _⟩) (fun H1 L1 p1 f1 => ?_)
    have hF := t_lL hF (fun q h => (show ∀ q : Nat, x_A [o + 1 + 2] q → d_A o q from fun q h => by rw [x_A1.mp h]; exact d_A_in (by omega) (by omega)) q.base (f1 q h))
    have hd := hP.val p1.1 (fun q h => by rw [x_A1.mp h]; omega) p1.2
    refine lv_goto (tgt := 20) hx hb d_DL_forget_15 (by decide) ?_
    refine x_topi (y := q_forget X (nI j)) (by unfold q_forget; rw [h1, if_pos rfl, hcl]) ?_
    exact W.iret hx hb hr (fun t ht hW => ⟨rfl, by rw [ht]; exact ⟨p1.1.mono (fun q h => by rw [x_A1.mp h]; exact d_A_in (by omega) (by omega)), by unfold z_forget; rw [h1, if_pos rfl, hcl]; exact hd⟩⟩) hF d_DL_forget_20
end
section
/-! deciding -/
def q_den (X : d_T) (l : Nat) : Bool := l_h (d_j X l) (d_k X l) (fun k => (d_s X l k).1.testBit 0 == true)
def q_alw (X : d_T) (l : Nat) : Bool := l_h (d_j X l) (d_k X l) (fun k => (d_s X l k).1.testBit 0 == false)
def q_bar (X : d_T) (l : Nat) : Bool := d_b X l && !q_alw X l
def q_nam (X : d_T) (u : Int32) : Bool := l_h (d_j X 5) (d_k X 5) (fun k => !(d_s X 5 k).1.testBit 0 && decide ((d_s X 5 k).2.2.2.1 = u))
/-- the answer and the layer, by the grants -/
def q_gr (X : d_T) (own : Bool) : Int32 × Nat := if !q_alw X 4 && !(own && q_alw X 5) then (0, 4) else if !own && !q_alw X 5 then (0, 5) else if q_bar X 2 then (0, 2) else if q_bar X 3 then (0, 3) else (1, if q_alw X 4 then 4 else 5)
def q_con (X : d_T) (u : Int32) (own : Bool) : Int32 × Nat := match (List.range 6).find? (q_den X) with
  | some l => (-1, l)
  | none => if q_bar X 0 then (0, 0) else if q_bar X 1 then (0, 1) else if own && q_nam X u then (1, 5) else q_gr X own
def d_setE (X : d_T) (e : Int32) : d_T := (X.1, e, X.2.2)
def d_setJ (X : d_T) (j : Nat → Nat) : d_T := (X.1, X.2.1, X.2.2.1, X.2.2.2.1, X.2.2.2.2.1, X.2.2.2.2.2.1, X.2.2.2.2.2.2.1, j, X.2.2.2.2.2.2.2.2)
theorem d_W.ent {D : va_G} {cA : Nat → ClassId} {N : n_T} {o : Nat} {X : d_T} {H H1 : Heap} (h : d_W D cA N o X H) (h1 : x_1 o H H1) {e : Int32} (hO : va_at D x_cl (o, .inr (5, [.ref (o + 1), .ref (o + 4), .ref (o + 5), .int (nI (d_n X)), .int e])) H1) : d_W D cA N o (d_setE X e) H1 :=
  ⟨hO, h.2.1.kept (fun q a b => h1.2 q (by omega)), h.2.2.1.k1 h1 (show o + 4 ≠ o by omega), h.2.2.2.1.k1 h1 (show o + 5 ≠ o by omega), fun l hl => (h.2.2.2.2 l hl).kept (fun q a b => h1.2 q (by omega))⟩
theorem q_con_d {X : d_T} {u : Int32} {own : Bool} {l : Nat} (hl : l < 6) (h : q_den X l = true) (h0 : ∀ k, k < l → q_den X k = false) : q_con X u own = (-1, l) := by
  have e : (List.range 6).find? (q_den X) = some l := by
    rw [List.find?_range_eq_some]
    exact ⟨h, List.mem_range.mpr hl, fun k hk => by rw [h0 k hk]; rfl⟩
  unfold q_con
  rw [e]
theorem q_con_n {X : d_T} {u : Int32} {own : Bool} (h0 : ∀ k, k < 6 → q_den X k = false) : q_con X u own = if q_bar X 0 then (0, 0) else if q_bar X 1 then (0, 1) else if own && q_nam X u then (1, 5) else q_gr X own := by
  have e : (List.range 6).find? (q_den X) = none := by
    rw [List.find?_eq_none]
    intro k hk
    rw [h0 k (List.mem_range.mp hk)]
    decide
  unfold q_con
  rw [e]
theorem q_con_b {X : d_T} {u : Int32} {own : Bool} {l : Nat} (hn : ∀ k, k < 6 → q_den X k = false) (hl : l < 2) (h : q_bar X l = true) (h0 : ∀ k, k < l → q_bar X k = false) : q_con X u own = (0, l) := by
  rw [q_con_n hn]
  rcases (show l = 0 ∨ l = 1 by omega) with rfl | rfl
  · rw [if_pos h]
  · rw [if_neg (by rw [h0 0 (by omega)]; decide), if_pos h]
theorem q_con_g {X : d_T} {u : Int32} {own : Bool} (hn : ∀ k, k < 6 → q_den X k = false) (h0 : ∀ k, k < 2 → q_bar X k = false) : q_con X u own = if own && q_nam X u then (1, 5) else q_gr X own := by
  rw [q_con_n hn, if_neg (by rw [h0 0 (by omega)]; decide), if_neg (by rw [h0 1 (by omega)]; decide)]
/-- the layers as judged for a request -/
def z_jud (X : d_T) (hv : Nat → Bool) (u : Int32) (ac th : Int64) : d_T := d_setJ X (fun l => l_j (fun k => s_s (d_c X) (d_r X) hv u ac th (d_s X l k)) (d_k X l))
def q_dg (k : Int32) : Bool := decide (0 ≤ k ∧ k ≤ 9)
def q_who (a u : Int32) : Int32 := 100 + 10 * a + u
def q_dec (X : d_T) (hv : Nat → Bool) (a u : Int32) (ac th : Int64) (ow : Int32) : Int32 := if q_dg a && q_dg u && q_dg ow then (q_con (z_jud X hv (q_who a u) ac th) (q_who a u) (decide (ow = a))).1 else -2
def z_dec (X : d_T) (hv : Nat → Bool) (a u : Int32) (ac th : Int64) (ow : Int32) : d_T := if q_dg a && q_dg u && q_dg ow then d_setE (z_jud X hv (q_who a u) ac th) (nI (q_con (z_jud X hv (q_who a u) ac th) (q_who a u) (decide (ow = a))).2) else X
def d_lok (X : d_T) : Prop := ∀ l, l < 6 → d_k X l ≤ 6 ∧ d_j X l < 64 ∧ ∀ k, k < 6 → (d_s X l k).1 < 16
end
section
set_option maxHeartbeats 4000000 in
set_option maxRecDepth 100000 in
theorem c_DL_settle (l : Launch) (D : va_G) (cA : Nat → ClassId) (N : n_T) (o : Nat) (X : d_T) (a e : Int32) : Met l y_DL_settle [.code y_DL_settle b_DL_settle 3 (some .int)] (x_rm 0 0 0) (x_P D cA [.ref o, .int a, .int e] (fun H => d_W D cA N o X H)) (x_Q (some (.int a)) (fun H H1 => x_F (x_A [o]) H H1 ∧ d_W D cA N o (d_setE X e) H1)) 0 0 (x_A [o]) := by
  refine x_met (own := "DecisionLayers") (by decide) rfl (Nat.le_of_ble_eq_true rfl) ?_
  intro pp ee s mm below mt cd ls hx hb hr hlk hnm hml hown hts hE hP hl
  have hl : lv_has ls 3 [(0, .ref o), (1, .int a), (2, .int e)] := hl
  obtain ⟨hO, hV, hC, hLa, hLy⟩ := id hP
  have hF : ∀ q ∈ ([] : List Loc), x_A [o] q.base := t_nil
  refine lv_aload_n hx hb d_DL_settle_0 rfl (lv_at hl 0 rfl) ?_
  refine lv_iload_n hx hb d_DL_settle_1 rfl (lv_at hl 2 rfl) ?_
  refine fp_DL_33_DL hx hb hown hts hE hO rfl rfl (Nat.le_of_ble_eq_true rfl) d_DL_settle_2 (fun H1 k1 g1 o1 => ?_)
  have hF := t_lc (a := o) (i := k1) hF (x_A1.mpr rfl)
  refine lv_iload_n hx hb d_DL_settle_5 rfl (lv_at hl 1 rfl) ?_
  exact W.iret hx hb hr (fun t ht hW => ⟨rfl, by rw [ht]; exact ⟨x_F.of1 o1 (x_A1.mpr rfl), hP.ent o1 g1⟩⟩) hF d_DL_settle_6
set_option maxHeartbeats 4000000 in
set_option maxRecDepth 100000 in
theorem c_DL_grants (l : Launch) (D : va_G) (cA : Nat → ClassId) (N : n_T) (o : Nat) (X : d_T) (hlo : d_lok X) (own : Bool) : Met l y_DL_concludeFromGrants [.code y_DL_concludeFromGrants b_DL_concludeFromGrants 5 (some .int)] (x_rm 4 0 0) (x_P D cA [.ref o, .int (bI own)] (fun H => d_W D cA N o X H)) (x_Q (some (.int ((q_gr X own).1))) (fun H H1 => x_F (x_A [o]) H H1 ∧ d_W D cA N o (d_setE X (nI (q_gr X own).2)) H1)) 0 0 (x_A [o]) := by
  refine x_met (own := "DecisionLayers") (by decide) rfl (Nat.le_of_ble_eq_true rfl) ?_
  intro pp ee s mm below mt cd ls hx hb hr hlk hnm hml hown hts hE hP hl
  have hl : lv_has ls 5 [(0, .ref o), (1, .int (bI own))] := hl
  obtain ⟨hO, hV, hC, hLa, hLy⟩ := id hP
  have hF : ∀ q ∈ ([] : List Loc), x_A [o] q.base := t_nil
  refine lv_aload_n hx hb d_DL_concludeFromGrants_0 rfl (lv_at hl 0 rfl) ?_
  refine fg_DL_24_DL hx hb hown hts hE hO rfl d_DL_concludeFromGrants_1 ?_
  refine lv_iconst (v := 4) hx hb d_DL_concludeFromGrants_4 (by decide) ?_
  refine x_aald (i := 4) hx hb hE.2.2 hLa 5 rfl (by decide) (by decide) d_DL_concludeFromGrants_5 ?_
  refine x_topv (y := .ref (o + 6 + 8 * 4)) (rfl) ?_
  refine x_cp (k_DL_151 (As := []) (rest := []) hx hb hml hown hts (c_Layer_allows l D cA N (o + 6 + 8 * 4) (d_k X 4) (d_b X 4) (d_j X 4) (d_s X 4) (hlo 4 (by decide)).1 (Nat.lt_trans (hlo 4 (by decide)).2.1 (by decide)) (hlo 4 (by decide)).2.2) (x_preV hE (hLy 4 (by decide)).1 rfl rfl (hLy 4 (by decide))) rfl hl.1 rfl (Nat.le_of_ble_eq_true rfl) d_DL_concludeFromGrants_6 (by decide) ⟨Nat.zero_le _, Nat.zero_le _⟩) ?_
  refine x_topi (y := bI (q_alw X 4)) rfl ?_
  refine lv_istore_n (lv' := [(2, .int (bI (q_alw X 4))), (0, .ref o), (1, .int (bI own))]) hx hb d_DL_concludeFromGrants_9 rfl hl (by decide) rfl (fun ls hl => ?_)
  refine lv_aload_n hx hb d_DL_concludeFromGrants_10 rfl (lv_at hl 1 rfl) ?_
  refine fg_DL_24_DL hx hb hown hts hE hO rfl d_DL_concludeFromGrants_11 ?_
  refine lv_iconst (v := 5) hx hb d_DL_concludeFromGrants_14 (by decide) ?_
  refine x_aald (i := 5) hx hb hE.2.2 hLa 5 rfl (by decide) (by decide) d_DL_concludeFromGrants_15 ?_
  refine x_topv (y := .ref (o + 6 + 8 * 5)) (rfl) ?_
  refine x_cp (k_DL_151 (As := []) (rest := []) hx hb hml hown hts (c_Layer_allows l D cA N (o + 6 + 8 * 5) (d_k X 5) (d_b X 5) (d_j X 5) (d_s X 5) (hlo 5 (by decide)).1 (Nat.lt_trans (hlo 5 (by decide)).2.1 (by decide)) (hlo 5 (by decide)).2.2) (x_preV hE (hLy 5 (by decide)).1 rfl rfl (hLy 5 (by decide))) rfl hl.1 rfl (Nat.le_of_ble_eq_true rfl) d_DL_concludeFromGrants_16 (by decide) ⟨Nat.zero_le _, Nat.zero_le _⟩) ?_
  refine x_topi (y := bI (q_alw X 5)) rfl ?_
  refine lv_istore_n (lv' := [(3, .int (bI (q_alw X 5))), (2, .int (bI (q_alw X 4))), (0, .ref o), (1, .int (bI own))]) hx hb d_DL_concludeFromGrants_19 rfl hl (by decide) rfl (fun ls hl => ?_)
  refine lv_iload_n hx hb d_DL_concludeFromGrants_20 rfl (lv_at hl 1 rfl) ?_
  refine x_join 39 (fun ls st => lv_has ls 5 [(0, .ref o), (1, .int (bI own)), (2, .int (bI (q_alw X 4))), (3, .int (bI (q_alw X 5)))] ∧ st = [] ∧ (!q_alw X 4 && !(own && q_alw X 5)) = false) ?_ (fun hj => ?_)
  · intro ls st hj
    obtain ⟨hl, rfl, h39⟩ := hj
    refine lv_iload_n hx hb d_DL_concludeFromGrants_39 rfl (lv_at hl 1 rfl) ?_
    refine x_join 54 (fun ls st => lv_has ls 5 [(0, .ref o), (1, .int (bI own)), (2, .int (bI (q_alw X 4))), (3, .int (bI (q_alw X 5)))] ∧ st = [] ∧ (!own && !q_alw X 5) = false) ?_ (fun hj => ?_)
    · intro ls st hj
      obtain ⟨hl, rfl, h54⟩ := hj
      refine lv_iconst (v := 2) hx hb d_DL_concludeFromGrants_54 (by decide) ?_
      refine lv_istore (lv' := [(4, .int 2), (0, .ref o), (1, .int (bI own)), (2, .int (bI (q_alw X 4))), (3, .int (bI (q_alw X 5)))]) hx hb d_DL_concludeFromGrants_55 hl (by decide) rfl (fun ls hl => ?_)
      refine lv_iload hx hb d_DL_concludeFromGrants_57 (lv_at hl 0 rfl) ?_
      refine lv_iconst (v := 3) hx hb d_DL_concludeFromGrants_59 (by decide) ?_
      refine lv_icmp_gt (tgt := 90) hx hb d_DL_concludeFromGrants_60 (by decide) (fun hk => ?_) (fun hk => ?_)
      · exact absurd hk (by decide)
      · refine lv_aload_n hx hb d_DL_concludeFromGrants_63 rfl (lv_at hl 1 rfl) ?_
        refine fg_DL_24_DL hx hb hown hts hE hO rfl d_DL_concludeFromGrants_64 ?_
        refine lv_iload hx hb d_DL_concludeFromGrants_67 (lv_at hl 0 rfl) ?_
        refine x_aald (i := 2) hx hb hE.2.2 hLa 5 rfl (by decide) (by decide) d_DL_concludeFromGrants_69 ?_
        refine x_topv (y := .ref (o + 6 + 8 * 2)) (rfl) ?_
        refine x_cp (k_DL_141 (As := []) (rest := []) hx hb hml hown hts (c_Layer_bars l D cA N (o + 6 + 8 * 2) (d_k X 2) (d_b X 2) (d_j X 2) (d_s X 2) (hlo 2 (by decide)).1 (Nat.lt_trans (hlo 2 (by decide)).2.1 (by decide)) (hlo 2 (by decide)).2.2) (x_preV hE (hLy 2 (by decide)).1 rfl rfl (hLy 2 (by decide))) rfl hl.1 rfl (Nat.le_of_ble_eq_true rfl) d_DL_concludeFromGrants_70 (by decide) ⟨Nat.zero_le _, Nat.zero_le _⟩) ?_
        refine x_topi (y := bI (q_bar X 2)) rfl ?_
        refine lv_if_eq (tgt := 84) hx hb d_DL_concludeFromGrants_73 (by decide) (fun b2 => ?_) (fun b2 => ?_)
        · refine lv_iinc (k := 0) (v := 3) (lv' := [(4, .int 3), (0, .ref o), (1, .int (bI own)), (2, .int (bI (q_alw X 4))), (3, .int (bI (q_alw X 5)))]) hx hb d_DL_concludeFromGrants_84 hl rfl (by decide) (by decide) rfl (fun ls hl => ?_)
          refine lv_goto (tgt := 57) hx hb d_DL_concludeFromGrants_87 (by decide) ?_
          refine lv_iload hx hb d_DL_concludeFromGrants_57 (lv_at hl 0 rfl) ?_
          refine lv_iconst (v := 3) hx hb d_DL_concludeFromGrants_59 (by decide) ?_
          refine lv_icmp_gt (tgt := 90) hx hb d_DL_concludeFromGrants_60 (by decide) (fun hk => ?_) (fun hk => ?_)
          · exact absurd hk (by decide)
          · refine lv_aload_n hx hb d_DL_concludeFromGrants_63 rfl (lv_at hl 1 rfl) ?_
            refine fg_DL_24_DL hx hb hown hts hE hO rfl d_DL_concludeFromGrants_64 ?_
            refine lv_iload hx hb d_DL_concludeFromGrants_67 (lv_at hl 0 rfl) ?_
            refine x_aald (i := 3) hx hb hE.2.2 hLa 5 rfl (by decide) (by decide) d_DL_concludeFromGrants_69 ?_
            refine x_topv (y := .ref (o + 6 + 8 * 3)) (rfl) ?_
            refine x_cp (k_DL_141 (As := []) (rest := []) hx hb hml hown hts (c_Layer_bars l D cA N (o + 6 + 8 * 3) (d_k X 3) (d_b X 3) (d_j X 3) (d_s X 3) (hlo 3 (by decide)).1 (Nat.lt_trans (hlo 3 (by decide)).2.1 (by decide)) (hlo 3 (by decide)).2.2) (x_preV hE (hLy 3 (by decide)).1 rfl rfl (hLy 3 (by decide))) rfl hl.1 rfl (Nat.le_of_ble_eq_true rfl) d_DL_concludeFromGrants_70 (by decide) ⟨Nat.zero_le _, Nat.zero_le _⟩) ?_
            refine x_topi (y := bI (q_bar X 3)) rfl ?_
            refine lv_if_eq (tgt := 84) hx hb d_DL_concludeFromGrants_73 (by decide) (fun b3 => ?_) (fun b3 => ?_)
            · refine lv_iinc (k := 0) (v := 4) (lv' := [(4, .int 4), (0, .ref o), (1, .int (bI own)), (2, .int (bI (q_alw X 4))), (3, .int (bI (q_alw X 5)))]) hx hb d_DL_concludeFromGrants_84 hl rfl (by decide) (by decide) rfl (fun ls hl => ?_)
              refine lv_goto (tgt := 57) hx hb d_DL_concludeFromGrants_87 (by decide) ?_
              refine lv_iload hx hb d_DL_concludeFromGrants_57 (lv_at hl 0 rfl) ?_
              refine lv_iconst (v := 3) hx hb d_DL_concludeFromGrants_59 (by decide) ?_
              refine lv_icmp_gt (tgt := 90) hx hb d_DL_concludeFromGrants_60 (by decide) (fun hk => ?_) (fun hk => ?_)
              · have hg : q_gr X own = (1, if q_alw X 4 then 4 else 5) := by unfold q_gr; rw [if_neg (by rw [h39]; decide), if_neg (by rw [h54]; decide), if_neg (by rw [bI_0.mp b2]; decide), if_neg (by rw [bI_0.mp b3]; decide)]
                refine lv_aload_n hx hb d_DL_concludeFromGrants_90 rfl (lv_at hl 1 rfl) ?_
                refine lv_iconst (v := 1) hx hb d_DL_concludeFromGrants_91 (by decide) ?_
                refine lv_iload_n hx hb d_DL_concludeFromGrants_92 rfl (lv_at hl 3 rfl) ?_
                refine lv_if_eq (tgt := 100) hx hb d_DL_concludeFromGrants_93 (by decide) (fun a4 => ?_) (fun a4 => ?_)
                · refine lv_iconst (v := 5) hx hb d_DL_concludeFromGrants_100 (by decide) ?_
                  have hq : q_gr X own = (1, 5) := by rw [hg, bI_0.mp a4]; rfl
                  refine x_cw (k_DL_138 (As := [.int 1, .int (nI 5)]) (rest := []) hx hb hml hown hts (c_DL_settle l D cA N o X (1) (nI 5)) (x_preV hE hO rfl rfl hP) rfl hl.1 rfl (Nat.le_of_ble_eq_true rfl) d_DL_concludeFromGrants_101 (by decide) ⟨Nat.zero_le _, Nat.zero_le _⟩) (fun H1 L1 p1 f1 => ?_)
                  have hF := t_lL hF (fun q h => (fun q h => h) q.base (f1 q h))
                  refine x_topi (y := (q_gr X own).1) (by rw [hq]) ?_
                  exact W.iret hx hb hr (fun t ht hW => ⟨rfl, by rw [ht, hq]; exact p1⟩) hF d_DL_concludeFromGrants_104
                · refine lv_iconst (v := 4) hx hb d_DL_concludeFromGrants_96 (by decide) ?_
                  refine lv_goto (tgt := 101) hx hb d_DL_concludeFromGrants_97 (by decide) ?_
                  have hq : q_gr X own = (1, 4) := by rw [hg, bI_n0.mp a4]; rfl
                  refine x_cw (k_DL_138 (As := [.int 1, .int (nI 4)]) (rest := []) hx hb hml hown hts (c_DL_settle l D cA N o X (1) (nI 4)) (x_preV hE hO rfl rfl hP) rfl hl.1 rfl (Nat.le_of_ble_eq_true rfl) d_DL_concludeFromGrants_101 (by decide) ⟨Nat.zero_le _, Nat.zero_le _⟩) (fun H1 L1 p1 f1 => ?_)
                  have hF := t_lL hF (fun q h => (fun q h => h) q.base (f1 q h))
                  refine x_topi (y := (q_gr X own).1) (by rw [hq]) ?_
                  exact W.iret hx hb hr (fun t ht hW => ⟨rfl, by rw [ht, hq]; exact p1⟩) hF d_DL_concludeFromGrants_104
              · exact absurd hk (by decide)
            · refine lv_aload_n hx hb d_DL_concludeFromGrants_76 rfl (lv_at hl 1 rfl) ?_
              refine lv_iconst (v := 0) hx hb d_DL_concludeFromGrants_77 (by decide) ?_
              refine lv_iload hx hb d_DL_concludeFromGrants_78 (lv_at hl 0 rfl) ?_
              have hq : q_gr X own = (0, 3) := by unfold q_gr; rw [if_neg (by rw [h39]; decide), if_neg (by rw [h54]; decide), if_neg (by rw [bI_0.mp b2]; decide), if_pos (bI_n0.mp b3)]
              refine x_cw (k_DL_138 (As := [.int 0, .int (nI 3)]) (rest := []) hx hb hml hown hts (c_DL_settle l D cA N o X (0) (nI 3)) (x_preV hE hO rfl rfl hP) rfl hl.1 rfl (Nat.le_of_ble_eq_true rfl) d_DL_concludeFromGrants_80 (by decide) ⟨Nat.zero_le _, Nat.zero_le _⟩) (fun H1 L1 p1 f1 => ?_)
              have hF := t_lL hF (fun q h => (fun q h => h) q.base (f1 q h))
              refine x_topi (y := (q_gr X own).1) (by rw [hq]) ?_
              exact W.iret hx hb hr (fun t ht hW => ⟨rfl, by rw [ht, hq]; exact p1⟩) hF d_DL_concludeFromGrants_83
        · refine lv_aload_n hx hb d_DL_concludeFromGrants_76 rfl (lv_at hl 1 rfl) ?_
          refine lv_iconst (v := 0) hx hb d_DL_concludeFromGrants_77 (by decide) ?_
          refine lv_iload hx hb d_DL_concludeFromGrants_78 (lv_at hl 0 rfl) ?_
          have hq : q_gr X own = (0, 2) := by unfold q_gr; rw [if_neg (by rw [h39]; decide), if_neg (by rw [h54]; decide), if_pos (bI_n0.mp b2)]
          refine x_cw (k_DL_138 (As := [.int 0, .int (nI 2)]) (rest := []) hx hb hml hown hts (c_DL_settle l D cA N o X (0) (nI 2)) (x_preV hE hO rfl rfl hP) rfl hl.1 rfl (Nat.le_of_ble_eq_true rfl) d_DL_concludeFromGrants_80 (by decide) ⟨Nat.zero_le _, Nat.zero_le _⟩) (fun H1 L1 p1 f1 => ?_)
          have hF := t_lL hF (fun q h => (fun q h => h) q.base (f1 q h))
          refine x_topi (y := (q_gr X own).1) (by rw [hq]) ?_
          exact W.iret hx hb hr (fun t ht hW => ⟨rfl, by rw [ht, hq]; exact p1⟩) hF d_DL_concludeFromGrants_83
    · refine lv_if_ne (tgt := 54) hx hb d_DL_concludeFromGrants_40 (by decide) (fun ow => ?_) (fun ow => ?_)
      · exact hj _ _ ⟨(lv_sub hl [0, 1, 2, 3] rfl), rfl, by rw [bI_n0.mp ow]; rfl⟩
      · refine lv_iload_n hx hb d_DL_concludeFromGrants_43 rfl (lv_at hl 3 rfl) ?_
        refine lv_if_ne (tgt := 54) hx hb d_DL_concludeFromGrants_44 (by decide) (fun a5 => ?_) (fun a5 => ?_)
        · exact hj _ _ ⟨(lv_sub hl [0, 1, 2, 3] rfl), rfl, by rw [bI_n0.mp a5]; simp⟩
        · refine lv_aload_n hx hb d_DL_concludeFromGrants_47 rfl (lv_at hl 0 rfl) ?_
          refine lv_iconst (v := 0) hx hb d_DL_concludeFromGrants_48 (by decide) ?_
          refine lv_iconst (v := 5) hx hb d_DL_concludeFromGrants_49 (by decide) ?_
          have hq : q_gr X own = (0, 5) := by unfold q_gr; rw [if_neg (by rw [h39]; decide), bI_0.mp ow, bI_0.mp a5]; rfl
          refine x_cw (k_DL_138 (As := [.int 0, .int (nI 5)]) (rest := []) hx hb hml hown hts (c_DL_settle l D cA N o X (0) (nI 5)) (x_preV hE hO rfl rfl hP) rfl hl.1 rfl (Nat.le_of_ble_eq_true rfl) d_DL_concludeFromGrants_50 (by decide) ⟨Nat.zero_le _, Nat.zero_le _⟩) (fun H1 L1 p1 f1 => ?_)
          have hF := t_lL hF (fun q h => (fun q h => h) q.base (f1 q h))
          refine x_topi (y := (q_gr X own).1) (by rw [hq]) ?_
          exact W.iret hx hb hr (fun t ht hW => ⟨rfl, by rw [ht, hq]; exact p1⟩) hF d_DL_concludeFromGrants_53
  · refine lv_if_ne (tgt := 39) hx hb d_DL_concludeFromGrants_21 (by decide) (fun a4 => ?_) (fun a4 => ?_)
    · exact hj _ _ ⟨(lv_sub hl [2, 3, 1, 0] rfl), rfl, by rw [bI_n0.mp a4]; rfl⟩
    · refine lv_iload_n hx hb d_DL_concludeFromGrants_24 rfl (lv_at hl 3 rfl) ?_
      refine lv_if_eq (tgt := 32) hx hb d_DL_concludeFromGrants_25 (by decide) (fun ow => ?_) (fun ow => ?_)
      · refine lv_aload_n hx hb d_DL_concludeFromGrants_32 rfl (lv_at hl 2 rfl) ?_
        refine lv_iconst (v := 0) hx hb d_DL_concludeFromGrants_33 (by decide) ?_
        refine lv_iconst (v := 4) hx hb d_DL_concludeFromGrants_34 (by decide) ?_
        have hq : q_gr X own = (0, 4) := by unfold q_gr; rw [bI_0.mp a4, bI_0.mp ow]; rfl
        refine x_cw (k_DL_138 (As := [.int 0, .int (nI 4)]) (rest := []) hx hb hml hown hts (c_DL_settle l D cA N o X (0) (nI 4)) (x_preV hE hO rfl rfl hP) rfl hl.1 rfl (Nat.le_of_ble_eq_true rfl) d_DL_concludeFromGrants_35 (by decide) ⟨Nat.zero_le _, Nat.zero_le _⟩) (fun H1 L1 p1 f1 => ?_)
        have hF := t_lL hF (fun q h => (fun q h => h) q.base (f1 q h))
        refine x_topi (y := (q_gr X own).1) (by rw [hq]) ?_
        exact W.iret hx hb hr (fun t ht hW => ⟨rfl, by rw [ht, hq]; exact p1⟩) hF d_DL_concludeFromGrants_38
      · refine lv_iload_n hx hb d_DL_concludeFromGrants_28 rfl (lv_at hl 0 rfl) ?_
        refine lv_if_ne (tgt := 39) hx hb d_DL_concludeFromGrants_29 (by decide) (fun a5 => ?_) (fun a5 => ?_)
        · exact hj _ _ ⟨(lv_sub hl [2, 3, 1, 0] rfl), rfl, by rw [bI_n0.mp ow, bI_n0.mp a5]; simp⟩
        · refine lv_aload_n hx hb d_DL_concludeFromGrants_32 rfl (lv_at hl 2 rfl) ?_
          refine lv_iconst (v := 0) hx hb d_DL_concludeFromGrants_33 (by decide) ?_
          refine lv_iconst (v := 4) hx hb d_DL_concludeFromGrants_34 (by decide) ?_
          have hq : q_gr X own = (0, 4) := by unfold q_gr; rw [bI_0.mp a4, bI_0.mp a5]; simp
          refine x_cw (k_DL_138 (As := [.int 0, .int (nI 4)]) (rest := []) hx hb hml hown hts (c_DL_settle l D cA N o X (0) (nI 4)) (x_preV hE hO rfl rfl hP) rfl hl.1 rfl (Nat.le_of_ble_eq_true rfl) d_DL_concludeFromGrants_35 (by decide) ⟨Nat.zero_le _, Nat.zero_le _⟩) (fun H1 L1 p1 f1 => ?_)
          have hF := t_lL hF (fun q h => (fun q h => h) q.base (f1 q h))
          refine x_topi (y := (q_gr X own).1) (by rw [hq]) ?_
          exact W.iret hx hb hr (fun t ht hW => ⟨rfl, by rw [ht, hq]; exact p1⟩) hF d_DL_concludeFromGrants_38
set_option maxHeartbeats 4000000 in
set_option maxRecDepth 100000 in
theorem c_DL_conclude (l : Launch) (D : va_G) (cA : Nat → ClassId) (N : n_T) (o : Nat) (X : d_T) (hlo : d_lok X) (u : Int32) (own : Bool) : Met l y_DL_conclude [.code y_DL_conclude b_DL_conclude 4 (some .int)] (x_rm 5 0 0) (x_P D cA [.ref o, .int u, .int (bI own)] (fun H => d_W D cA N o X H)) (x_Q (some (.int ((q_con X u own).1))) (fun H H1 => x_F (x_A [o]) H H1 ∧ d_W D cA N o (d_setE X (nI (q_con X u own).2)) H1)) 0 0 (x_A [o]) := by
  refine x_met (own := "DecisionLayers") (by decide) rfl (Nat.le_of_ble_eq_true rfl) ?_
  intro pp ee s mm below mt cd ls hx hb hr hlk hnm hml hown hts hE hP hl
  have hl : lv_has ls 4 [(0, .ref o), (1, .int u), (2, .int (bI own))] := hl
  obtain ⟨hO, hV, hC, hLa, hLy⟩ := id hP
  have hF : ∀ q ∈ ([] : List Loc), x_A [o] q.base := t_nil
  refine lv_iconst (v := 0) hx hb d_DL_conclude_0 (by decide) ?_
  refine lv_istore_n (lv' := [(3, .int 0), (0, .ref o), (1, .int u), (2, .int (bI own))]) hx hb d_DL_conclude_1 rfl hl (by decide) rfl (fun ls hl => ?_)
  refine x_loop (I := fun r ls => ∃ j, j + r = 6 ∧ (∀ k, k < j → q_den X k = false) ∧ lv_has ls 4 [(3, .int (nI j)), (0, .ref o), (1, .int u), (2, .int (bI own))]) (fun r ls ih h => ?_) (6) ⟨0, by omega, fun k h => absurd h (Nat.not_lt_zero k), (lv_sub hl [0, 1, 2, 3] rfl)⟩
  obtain ⟨j, hj, hd0, hl⟩ := h
  refine lv_iload_n hx hb d_DL_conclude_2 rfl (lv_at hl 0 rfl) ?_
  refine lv_bipush (v := 6) hx hb d_DL_conclude_3 (by decide) ?_
  refine lv_icmp_ge (tgt := 33) hx hb d_DL_conclude_5 (by decide) (fun g1 => ?_) (fun g1 => ?_)
  · have g1 := n_ge (k := 6) g1 (by decide) (by omega)
    have hn : ∀ k, k < 6 → q_den X k = false := fun k hk => hd0 k (by omega)
    refine lv_iconst (v := 0) hx hb d_DL_conclude_33 (by decide) ?_
    refine lv_istore_n (lv' := [(3, .int 0), (0, .ref o), (1, .int u), (2, .int (bI own))]) hx hb d_DL_conclude_34 rfl hl (by decide) rfl (fun ls hl => ?_)
    refine x_loop (I := fun r2 ls => ∃ j, j + r2 = 2 ∧ (∀ k, k < j → q_bar X k = false) ∧ lv_has ls 4 [(3, .int (nI j)), (0, .ref o), (1, .int u), (2, .int (bI own))]) (fun r2 ls ih2 h => ?_) (2) ⟨0, by omega, fun k h => absurd h (Nat.not_lt_zero k), (lv_sub hl [0, 1, 2, 3] rfl)⟩
    obtain ⟨j, hj, hb0, hl⟩ := h
    refine lv_iload_n hx hb d_DL_conclude_35 rfl (lv_at hl 0 rfl) ?_
    refine lv_iconst (v := 2) hx hb d_DL_conclude_36 (by decide) ?_
    refine lv_icmp_ge (tgt := 65) hx hb d_DL_conclude_37 (by decide) (fun g2 => ?_) (fun g2 => ?_)
    · have g2 := n_ge (k := 2) g2 (by decide) (by omega)
      have hg := q_con_g (u := u) (own := own) hn (fun k hk => hb0 k (by omega))
      refine lv_iload_n hx hb d_DL_conclude_65 rfl (lv_at hl 3 rfl) ?_
      refine lv_if_eq (tgt := 89) hx hb d_DL_conclude_66 (by decide) (fun ow => ?_) (fun ow => ?_)
      · have hq : q_con X u own = q_gr X own := by rw [hg, bI_0.mp ow]; rfl
        refine lv_aload_n hx hb d_DL_conclude_89 rfl (lv_at hl 1 rfl) ?_
        refine lv_iload_n hx hb d_DL_conclude_90 rfl (lv_at hl 3 rfl) ?_
        refine x_cw (k_DL_147 (As := [.int (bI own)]) (rest := []) hx hb hml hown hts (c_DL_grants l D cA N o X hlo own) (x_preV hE hO rfl rfl hP) rfl hl.1 rfl (Nat.le_of_ble_eq_true rfl) d_DL_conclude_91 (by decide) ⟨Nat.zero_le _, Nat.zero_le _⟩) (fun H1 L1 p1 f1 => ?_)
        have hF := t_lL hF (fun q h => (fun q h => h) q.base (f1 q h))
        refine x_topi (y := (q_con X u own).1) (by rw [hq]) ?_
        exact W.iret hx hb hr (fun t ht hW => ⟨rfl, by rw [ht, hq]; exact p1⟩) hF d_DL_conclude_94
      · refine lv_aload_n hx hb d_DL_conclude_69 rfl (lv_at hl 1 rfl) ?_
        refine fg_DL_24_DL hx hb hown hts hE hO rfl d_DL_conclude_70 ?_
        refine lv_iconst (v := 5) hx hb d_DL_conclude_73 (by decide) ?_
        refine x_aald (i := 5) hx hb hE.2.2 hLa 5 rfl (by decide) (by decide) d_DL_conclude_74 ?_
        refine x_topv (y := .ref (o + 6 + 8 * 5)) (rfl) ?_
        refine lv_iload_n hx hb d_DL_conclude_75 rfl (lv_at hl 2 rfl) ?_
        refine x_cp (k_DL_144 (As := [.int u]) (rest := []) hx hb hml hown hts (c_Layer_allowsByName l D cA N (o + 6 + 8 * 5) (d_k X 5) (d_b X 5) (d_j X 5) (d_s X 5) (hlo 5 (by decide)).1 (Nat.lt_trans (hlo 5 (by decide)).2.1 (by decide)) (hlo 5 (by decide)).2.2 u) (x_preV hE (hLy 5 (by decide)).1 rfl rfl (hLy 5 (by decide))) rfl hl.1 rfl (Nat.le_of_ble_eq_true rfl) d_DL_conclude_76 (by decide) ⟨Nat.zero_le _, Nat.zero_le _⟩) ?_
        refine x_topi (y := bI (q_nam X u)) rfl ?_
        refine lv_if_eq (tgt := 89) hx hb d_DL_conclude_79 (by decide) (fun nm => ?_) (fun nm => ?_)
        · have hq : q_con X u own = q_gr X own := by rw [hg, bI_0.mp nm]; simp
          refine lv_aload_n hx hb d_DL_conclude_89 rfl (lv_at hl 1 rfl) ?_
          refine lv_iload_n hx hb d_DL_conclude_90 rfl (lv_at hl 3 rfl) ?_
          refine x_cw (k_DL_147 (As := [.int (bI own)]) (rest := []) hx hb hml hown hts (c_DL_grants l D cA N o X hlo own) (x_preV hE hO rfl rfl hP) rfl hl.1 rfl (Nat.le_of_ble_eq_true rfl) d_DL_conclude_91 (by decide) ⟨Nat.zero_le _, Nat.zero_le _⟩) (fun H1 L1 p1 f1 => ?_)
          have hF := t_lL hF (fun q h => (fun q h => h) q.base (f1 q h))
          refine x_topi (y := (q_con X u own).1) (by rw [hq]) ?_
          exact W.iret hx hb hr (fun t ht hW => ⟨rfl, by rw [ht, hq]; exact p1⟩) hF d_DL_conclude_94
        · have hq : q_con X u own = (1, 5) := by rw [hg, bI_n0.mp ow, bI_n0.mp nm]; rfl
          refine lv_aload_n hx hb d_DL_conclude_82 rfl (lv_at hl 1 rfl) ?_
          refine lv_iconst (v := 1) hx hb d_DL_conclude_83 (by decide) ?_
          refine lv_iconst (v := 5) hx hb d_DL_conclude_84 (by decide) ?_
          refine x_cw (k_DL_138 (As := [.int 1, .int (nI 5)]) (rest := []) hx hb hml hown hts (c_DL_settle l D cA N o X (1) (nI 5)) (x_preV hE hO rfl rfl hP) rfl hl.1 rfl (Nat.le_of_ble_eq_true rfl) d_DL_conclude_85 (by decide) ⟨Nat.zero_le _, Nat.zero_le _⟩) (fun H1 L1 p1 f1 => ?_)
          have hF := t_lL hF (fun q h => (fun q h => h) q.base (f1 q h))
          refine x_topi (y := (q_con X u own).1) (by rw [hq]) ?_
          exact W.iret hx hb hr (fun t ht hW => ⟨rfl, by rw [ht, hq]; exact p1⟩) hF d_DL_conclude_88
    · have g2 := n_lt (k := 2) g2 (by decide) (by omega)
      refine lv_aload_n hx hb d_DL_conclude_40 rfl (lv_at hl 1 rfl) ?_
      refine fg_DL_24_DL hx hb hown hts hE hO rfl d_DL_conclude_41 ?_
      refine lv_iload_n hx hb d_DL_conclude_44 rfl (lv_at hl 0 rfl) ?_
      refine x_aald hx hb hE.2.2 hLa 5 rfl (by omega) (by decide) d_DL_conclude_45 ?_
      refine x_topv (y := .ref (o + 6 + 8 * j)) (rfl) ?_
      refine x_cp (k_DL_141 (As := []) (rest := []) hx hb hml hown hts (c_Layer_bars l D cA N (o + 6 + 8 * j) (d_k X j) (d_b X j) (d_j X j) (d_s X j) (hlo j (by omega)).1 (Nat.lt_trans (hlo j (by omega)).2.1 (by decide)) (hlo j (by omega)).2.2) (x_preV hE (hLy j (by omega)).1 rfl rfl (hLy j (by omega))) rfl hl.1 rfl (Nat.le_of_ble_eq_true rfl) d_DL_conclude_46 (by decide) ⟨Nat.zero_le _, Nat.zero_le _⟩) ?_
      refine x_topi (y := bI (q_bar X j)) rfl ?_
      refine lv_if_eq (tgt := 59) hx hb d_DL_conclude_49 (by decide) (fun d1 => ?_) (fun d1 => ?_)
      · refine lv_iinc (k := 0) (v := nI (j + 1)) (lv' := [(3, .int (nI (j + 1))), (0, .ref o), (1, .int u), (2, .int (bI own))]) hx hb d_DL_conclude_59 hl rfl (x_inc _) (by decide) rfl (fun ls hl => ?_)
        refine lv_goto (tgt := 35) hx hb d_DL_conclude_62 (by decide) ?_
        exact ih2 (r2 - 1) _ (by omega) ⟨j + 1, by omega, fun k hk => by
          by_cases e : k = j
          · rw [e]; exact bI_0.mp d1
          · exact hb0 k (by omega), (lv_sub hl [0, 1, 2, 3] rfl)⟩
      · have hq := q_con_b (u := u) (own := own) hn g2 (bI_n0.mp d1) hb0
        refine lv_aload_n hx hb d_DL_conclude_52 rfl (lv_at hl 1 rfl) ?_
        refine lv_iconst (v := 0) hx hb d_DL_conclude_53 (by decide) ?_
        refine lv_iload_n hx hb d_DL_conclude_54 rfl (lv_at hl 0 rfl) ?_
        refine x_cw (k_DL_138 (As := [.int 0, .int (nI j)]) (rest := []) hx hb hml hown hts (c_DL_settle l D cA N o X (0) (nI j)) (x_preV hE hO rfl rfl hP) rfl hl.1 rfl (Nat.le_of_ble_eq_true rfl) d_DL_conclude_55 (by decide) ⟨Nat.zero_le _, Nat.zero_le _⟩) (fun H1 L1 p1 f1 => ?_)
        have hF := t_lL hF (fun q h => (fun q h => h) q.base (f1 q h))
        refine x_topi (y := (q_con X u own).1) (by rw [hq]) ?_
        exact W.iret hx hb hr (fun t ht hW => ⟨rfl, by rw [ht, hq]; exact p1⟩) hF d_DL_conclude_58
  · have g1 := n_lt (k := 6) g1 (by decide) (by omega)
    refine lv_aload_n hx hb d_DL_conclude_8 rfl (lv_at hl 1 rfl) ?_
    refine fg_DL_24_DL hx hb hown hts hE hO rfl d_DL_conclude_9 ?_
    refine lv_iload_n hx hb d_DL_conclude_12 rfl (lv_at hl 0 rfl) ?_
    refine x_aald hx hb hE.2.2 hLa 5 rfl g1 (by decide) d_DL_conclude_13 ?_
    refine x_topv (y := .ref (o + 6 + 8 * j)) (rfl) ?_
    refine x_cp (k_DL_135 (As := []) (rest := []) hx hb hml hown hts (c_Layer_denies l D cA N (o + 6 + 8 * j) (d_k X j) (d_b X j) (d_j X j) (d_s X j) (hlo j g1).1 (Nat.lt_trans (hlo j g1).2.1 (by decide)) (hlo j g1).2.2) (x_preV hE (hLy j g1).1 rfl rfl (hLy j g1)) rfl hl.1 rfl (Nat.le_of_ble_eq_true rfl) d_DL_conclude_14 (by decide) ⟨Nat.zero_le _, Nat.zero_le _⟩) ?_
    refine x_topi (y := bI (q_den X j)) rfl ?_
    refine lv_if_eq (tgt := 27) hx hb d_DL_conclude_17 (by decide) (fun d1 => ?_) (fun d1 => ?_)
    · refine lv_iinc (k := 0) (v := nI (j + 1)) (lv' := [(3, .int (nI (j + 1))), (0, .ref o), (1, .int u), (2, .int (bI own))]) hx hb d_DL_conclude_27 hl rfl (x_inc _) (by decide) rfl (fun ls hl => ?_)
      refine lv_goto (tgt := 2) hx hb d_DL_conclude_30 (by decide) ?_
      exact ih (r - 1) _ (by omega) ⟨j + 1, by omega, fun k hk => by
        by_cases e : k = j
        · rw [e]; exact bI_0.mp d1
        · exact hd0 k (by omega), (lv_sub hl [0, 1, 2, 3] rfl)⟩
    · have hq := q_con_d (u := u) (own := own) g1 (bI_n0.mp d1) hd0
      refine lv_aload_n hx hb d_DL_conclude_20 rfl (lv_at hl 1 rfl) ?_
      refine lv_iconst (v := (-1)) hx hb d_DL_conclude_21 (by decide) ?_
      refine lv_iload_n hx hb d_DL_conclude_22 rfl (lv_at hl 0 rfl) ?_
      refine x_cw (k_DL_138 (As := [.int (-1), .int (nI j)]) (rest := []) hx hb hml hown hts (c_DL_settle l D cA N o X ((-1)) (nI j)) (x_preV hE hO rfl rfl hP) rfl hl.1 rfl (Nat.le_of_ble_eq_true rfl) d_DL_conclude_23 (by decide) ⟨Nat.zero_le _, Nat.zero_le _⟩) (fun H1 L1 p1 f1 => ?_)
      have hF := t_lL hF (fun q h => (fun q h => h) q.base (f1 q h))
      refine x_topi (y := (q_con X u own).1) (by rw [hq]) ?_
      exact W.iret hx hb hr (fun t ht hW => ⟨rfl, by rw [ht, hq]; exact p1⟩) hF d_DL_conclude_26
end
section
theorem d_W.jud {D : va_G} {cA : Nat → ClassId} {N : n_T} {o : Nat} {X : d_T} {J : Nat → Nat} {H H1 : Heap} {A : Addr → Prop} (h : d_W D cA N o (d_setJ X J) H) (h1 : x_F A H H1) {l j : Nat} (hA : ∀ q : Nat, A q → o + 6 + 8 * l ≤ q ∧ q < o + 6 + 8 * l + 8) (hl : l_W D cA N (o + 6 + 8 * l) (d_k X l) (d_b X l) j (d_s X l) H1) : d_W D cA N o (d_setJ X (va_up J l j)) H1 := by
  have h2 := h.lay h1 hA hl
  refine ⟨h2.1, h2.2.1, h2.2.2.1, h2.2.2.2.1, fun i hi => ?_⟩
  have h3 := h2.2.2.2.2 i hi
  have h4 : l_W D cA N (o + 6 + 8 * i) (va_up (d_k X) l (d_k X l) i) (va_up (d_b X) l (d_b X l) i) (va_up J l j i) (va_up (d_s X) l (d_s X l) i) H1 := h3
  show l_W D cA N (o + 6 + 8 * i) (d_k X i) (d_b X i) (va_up J l j i) (d_s X i) H1
  by_cases e : i = l
  · subst e
    simp only [va_up, if_pos] at h4 ⊢
    exact h4
  · simp only [va_up, if_neg e] at h4 ⊢
    exact h4
theorem d_W.jcongr {D : va_G} {cA : Nat → ClassId} {N : n_T} {o : Nat} {X : d_T} {J J1 : Nat → Nat} {H : Heap} (h : d_W D cA N o (d_setJ X J) H) (e : ∀ l, l < 6 → J l = J1 l) : d_W D cA N o (d_setJ X J1) H := by
  refine ⟨h.1, h.2.1, h.2.2.1, h.2.2.2.1, fun i hi => ?_⟩
  have h3 : l_W D cA N (o + 6 + 8 * i) (d_k X i) (d_b X i) (J i) (d_s X i) H := h.2.2.2.2 i hi
  show l_W D cA N (o + 6 + 8 * i) (d_k X i) (d_b X i) (J1 i) (d_s X i) H
  rw [← e i hi]; exact h3
theorem d_ok.lok {made : Nat} {X : d_T} (h : d_ok made X) : d_lok X := fun l hl => ⟨(h.2.2.2.1 l hl).1, (h.2.2.2.1 l hl).2, fun k hk => (h.2.2.2.2 l hl k hk).1⟩
theorem z_jud_lok {made : Nat} {X : d_T} (h : d_ok made X) (hv : Nat → Bool) (u : Int32) (ac th : Int64) : d_lok (z_jud X hv u ac th) := fun l hl => ⟨(h.2.2.2.1 l hl).1, Nat.lt_of_lt_of_le (l_j_lt _ _) (Nat.le_trans (Nat.pow_le_pow_right (by omega) (h.2.2.2.1 l hl).1) (by decide)), fun k hk => (h.2.2.2.2 l hl k hk).1⟩
theorem d_A.lt {o q : Nat} (h : d_A o q) : q < o + 54 := h.2
theorem d_A.ge {o q : Nat} (h : d_A o q) : o ≤ q := h.1
theorem n_hi.out {o made : Nat} {N : n_T} (h : n_hi o made N) : ∀ i, i < made → ¬ d_A o (n_ad N i) ∧ (n_kd N i ≠ 3 → ¬ d_A o (n_ad N i - 1)) := fun i hi => by
  obtain ⟨a, b⟩ := h i hi
  exact ⟨fun z => by have := d_A.lt z; omega, fun hk z => by have := d_A.lt z; have := b hk; omega⟩
set_option maxHeartbeats 4000000 in
set_option maxRecDepth 100000 in
theorem c_DL_holds (l : Launch) (D : va_G) (cA : Nat → ClassId) (N : n_T) (o : Nat) (X : d_T) (made : Nat) (hv : Nat → Bool) (hok : n_ok made N) (hhi : n_hi o made N) (hdo : d_ok made X) (hVe : n_V (d_c X) (d_r X) made N hv) (k : Int32) : Met l y_DL_holds [.code y_DL_holds b_DL_holds 3 (some .boolean)] (x_rm 9 0 0) (x_P D cA [.ref o, .int k] (fun H => d_W D cA N o X H ∧ n_W D cA made N H)) (x_Q (some (.int (bI (q_holds X hv k)))) (x_same)) 0 0 (fun _ => False) := by
  refine x_met (own := "DecisionLayers") (by decide) rfl (Nat.le_of_ble_eq_true rfl) ?_
  intro pp ee s mm below mt cd ls hx hb hr hlk hnm hml hown hts hE hP hl
  have hl : lv_has ls 3 [(0, .ref o), (1, .int k)] := hl
  obtain ⟨hP1, hN⟩ := hP
  obtain ⟨hO, hV, hC, hLa, hLy⟩ := id hP1
  obtain ⟨hn8, hpm, hvo, hlk9, hso⟩ := hdo
  refine lv_iload_n hx hb d_DL_holds_0 rfl (lv_at hl 1 rfl) ?_
  refine lv_if_lt (tgt := 12) hx hb d_DL_holds_1 (by decide) (fun h1 => ?_) (fun h1 => ?_)
  · refine lv_iconst (v := 0) hx hb d_DL_holds_12 (by decide) ?_
    refine x_topi (y := bI (q_holds X hv k)) (by unfold q_holds; rw [decide_eq_false (fun z => absurd h1 (Int32.not_lt.mpr z.1))]; rfl) ?_
    exact W.zret (ty := .boolean) hx hb hr (bI_z _) (fun t ht hW => ⟨rfl, ht⟩) (fun q h => by cases h) d_DL_holds_13
  · refine lv_iload_n hx hb d_DL_holds_4 rfl (lv_at hl 1 rfl) ?_
    refine lv_aload_n hx hb d_DL_holds_5 rfl (lv_at hl 0 rfl) ?_
    refine fg_DL_29_DL hx hb hown hts hE hO rfl d_DL_holds_6 ?_
    refine lv_icmp_lt (tgt := 14) hx hb d_DL_holds_9 (by decide) (fun h2 => ?_) (fun h2 => ?_)
    · obtain ⟨j, hj, rfl⟩ := nI_of h1
      have h2 : j < d_n X := (nI_ltI (by omega) (by omega)).mp h2
      have hcl : (nI j).toNatClampNeg = j := nI_clamp (by omega)
      have hR : q_holds X hv (nI j) = hv (d_p X j) := by unfold q_holds; rw [decide_eq_true ⟨Int32.not_lt.mp h1, (nI_ltI (by omega) (by omega)).mpr h2⟩, hcl]; rfl
      have him := hpm j h2
      obtain ⟨-, -, hd5, hct, -⟩ := hok _ him
      refine lv_aload_n hx hb d_DL_holds_14 rfl (lv_at hl 0 rfl) ?_
      refine fg_DL_18_DL hx hb hown hts hE hO rfl d_DL_holds_15 ?_
      refine lv_iload_n hx hb d_DL_holds_18 rfl (lv_at hl 1 rfl) ?_
      refine x_aald hx hb hE.2.2 hC 4 rfl (by omega) (by decide) d_DL_holds_19 ?_
      refine x_topv (y := .ref (n_ad N (d_p X j))) (by unfold d_pc; rw [if_pos h2]; rfl) ?_
      refine lv_astore_n (lv' := [(2, .ref (n_ad N (d_p X j))), (0, .ref o), (1, .int (nI j))]) hx hb d_DL_holds_20 rfl hl (by decide) rfl (fun ls hl => ?_)
      refine lv_aload_n hx hb d_DL_holds_21 rfl (lv_at hl 0 rfl) ?_
      refine lv_ifnull hx hb d_DL_holds_22 ?_
      refine lv_aload_n hx hb d_DL_holds_25 rfl (lv_at hl 0 rfl) ?_
      refine lv_aload_n hx hb d_DL_holds_26 rfl (lv_at hl 1 rfl) ?_
      refine fg_DL_10_DL hx hb hown hts hE hO rfl d_DL_holds_27 ?_
      have key : CallRun pp l ee (x_rm 9 0 0) s mm [Value.ref o, Value.int (nI j)].toArray below mt cd s.heap [] 0 0 0 0 (F0 mm 30 ls [.ref (o + 1), .ref (n_ad N (d_p X j))]) [] (x_Q (some (.int (bI (hv (d_p X j))))) x_same (Value.ref (n_ad N (d_p X j)) :: [Value.ref (o + 1)]).toArray) (fun _ => False) := by
        by_cases hc3 : n_kd N (d_p X j) = 3
        · obtain ⟨o8, k8, m8⟩ := hct hc3
          have hTc := (hN (d_p X j) him).1 hc3
          rw [show hv (d_p X j) = cn_t (d_c X) (d_r X) (n_op N (d_p X j)) (n_ky N (d_p X j)) (n_tt N (d_p X j)) (n_mk N (d_p X j)) by rw [hVe (d_p X j) him, if_pos hc3]]
          exact k_DL_120_Test (As := [.ref (o + 1)]) (rest := []) hx hb hml hown hts hE (c_Test_isMet l D cA (n_ad N (d_p X j)) (nI (n_dp N (d_p X j))) (n_op N (d_p X j)) (n_ky N (d_p X j)) (n_tt N (d_p X j)) (n_mk N (d_p X j)) (o + 1) (d_c X) (d_r X) 4 o8 k8 m8 hvo) (x_preV hE hTc rfl rfl ⟨hTc, hV⟩) rfl hl.1 rfl (Nat.le_of_ble_eq_true rfl) d_DL_holds_30 (by decide) ⟨Nat.zero_le _, Nat.zero_le _⟩
        · exact k_DL_120_Joined (As := [.ref (o + 1)]) (rest := []) hx hb hml hown hts hE (c_Joined_isMet l D cA (o + 1) (d_c X) (d_r X) made N hv hok hvo hVe 5 (d_p X j) him hc3 hd5) (x_preV hE ((hN (d_p X j) him).2 hc3).1 rfl rfl ⟨hN, hV⟩) rfl hl.1 rfl (Nat.le_of_ble_eq_true rfl) d_DL_holds_30 (by decide) ⟨Nat.zero_le _, Nat.zero_le _⟩
      refine x_cp key ?_
      refine lv_if_eq (tgt := 40) hx hb d_DL_holds_33 (by decide) (fun m4 => ?_) (fun m4 => ?_)
      · refine lv_iconst (v := 0) hx hb d_DL_holds_40 (by decide) ?_
        refine x_topi (y := bI (q_holds X hv (nI j))) (by rw [hR, bI_0.mp m4]; rfl) ?_
        exact W.zret (ty := .boolean) hx hb hr (bI_z _) (fun t ht hW => ⟨rfl, ht⟩) (fun q h => by cases h) d_DL_holds_41
      · refine lv_iconst (v := 1) hx hb d_DL_holds_36 (by decide) ?_
        refine lv_goto (tgt := 41) hx hb d_DL_holds_37 (by decide) ?_
        refine x_topi (y := bI (q_holds X hv (nI j))) (by rw [hR, bI_n0.mp m4]; rfl) ?_
        exact W.zret (ty := .boolean) hx hb hr (bI_z _) (fun t ht hW => ⟨rfl, ht⟩) (fun q h => by cases h) d_DL_holds_41
    · refine lv_iconst (v := 0) hx hb d_DL_holds_12 (by decide) ?_
      refine x_topi (y := bI (q_holds X hv k)) (by unfold q_holds; rw [decide_eq_false (fun z => h2 z.2)]; rfl) ?_
      exact W.zret (ty := .boolean) hx hb hr (bI_z _) (fun t ht hW => ⟨rfl, ht⟩) (fun q h => by cases h) d_DL_holds_13
set_option maxHeartbeats 4000000 in
set_option maxRecDepth 100000 in
theorem c_DL_decide (l : Launch) (D : va_G) (cA : Nat → ClassId) (N : n_T) (o : Nat) (X : d_T) (made : Nat) (hv : Nat → Bool) (hok : n_ok made N) (hhi : n_hi o made N) (hdo : d_ok made X) (hVe : n_V (d_c X) (d_r X) made N hv) (a u : Int32) (ac th : Int64) (ow : Int32) : Met l y_DL_decide [.code y_DL_decide b_DL_decide 10 (some .int)] (x_rm 11 0 0) (x_P D cA [.ref o, .int a, .int u, .long ac, .long th, .int ow] (fun H => d_W D cA N o X H ∧ n_W D cA made N H)) (x_Q (some (.int (q_dec X hv a u ac th ow))) (fun H H1 => x_F (d_A o) H H1 ∧ d_W D cA N o (z_dec X hv a u ac th ow) H1)) 0 0 (d_A o) := by
  refine x_met (own := "DecisionLayers") (by decide) rfl (Nat.le_of_ble_eq_true rfl) ?_
  intro pp ee s mm below mt cd ls hx hb hr hlk hnm hml hown hts hE hP hl
  have hl : lv_has ls 10 [(0, .ref o), (1, .int a), (2, .int u), (3, .long ac), (5, .long th), (7, .int ow)] := hl
  obtain ⟨hP1, hN⟩ := hP
  have hF : ∀ q ∈ ([] : List Loc), d_A o q.base := t_nil
  refine lv_iload_n hx hb d_DL_decide_0 rfl (lv_at hl 1 rfl) ?_
  refine x_cp (k_DL_96 (As := [.int a]) (rest := []) hx hb hml hown hts (c_DL_isDigit l D cA a) (x_preS hE trivial) rfl hl.1 rfl (Nat.le_of_ble_eq_true rfl) d_DL_decide_1 (by decide) ⟨Nat.zero_le _, Nat.zero_le _⟩) ?_
  refine x_topi (y := bI (q_dg a)) rfl ?_
  refine lv_if_eq (tgt := 22) hx hb d_DL_decide_4 (by decide) (fun h1 => ?_) (fun h1 => ?_)
  · have hq : (q_dg a && q_dg u && q_dg ow) = false := by rw [bI_0.mp h1]; rfl
    refine lv_bipush (v := (-2)) hx hb d_DL_decide_22 (by decide) ?_
    refine x_topi (y := q_dec X hv a u ac th ow) (by unfold q_dec; rw [hq]; rfl) ?_
    exact W.iret hx hb hr (fun t ht hW => ⟨rfl, by rw [ht]; exact ⟨x_F.rf, by unfold z_dec; rw [hq]; exact hP1⟩⟩) hF d_DL_decide_24
  · refine lv_iload_n hx hb d_DL_decide_7 rfl (lv_at hl 2 rfl) ?_
    refine x_cp (k_DL_96 (As := [.int u]) (rest := []) hx hb hml hown hts (c_DL_isDigit l D cA u) (x_preS hE trivial) rfl hl.1 rfl (Nat.le_of_ble_eq_true rfl) d_DL_decide_8 (by decide) ⟨Nat.zero_le _, Nat.zero_le _⟩) ?_
    refine x_topi (y := bI (q_dg u)) rfl ?_
    refine lv_if_eq (tgt := 22) hx hb d_DL_decide_11 (by decide) (fun h2 => ?_) (fun h2 => ?_)
    · have hq : (q_dg a && q_dg u && q_dg ow) = false := by rw [bI_0.mp h2]; simp
      refine lv_bipush (v := (-2)) hx hb d_DL_decide_22 (by decide) ?_
      refine x_topi (y := q_dec X hv a u ac th ow) (by unfold q_dec; rw [hq]; rfl) ?_
      exact W.iret hx hb hr (fun t ht hW => ⟨rfl, by rw [ht]; exact ⟨x_F.rf, by unfold z_dec; rw [hq]; exact hP1⟩⟩) hF d_DL_decide_24
    · refine lv_iload hx hb d_DL_decide_14 (lv_at hl 5 rfl) ?_
      refine x_cp (k_DL_96 (As := [.int ow]) (rest := []) hx hb hml hown hts (c_DL_isDigit l D cA ow) (x_preS hE trivial) rfl hl.1 rfl (Nat.le_of_ble_eq_true rfl) d_DL_decide_16 (by decide) ⟨Nat.zero_le _, Nat.zero_le _⟩) ?_
      refine x_topi (y := bI (q_dg ow)) rfl ?_
      refine lv_if_ne (tgt := 25) hx hb d_DL_decide_19 (by decide) (fun h3 => ?_) (fun h3 => ?_)
      · have hq : (q_dg a && q_dg u && q_dg ow) = true := by rw [bI_n0.mp h1, bI_n0.mp h2, bI_n0.mp h3]; rfl
        refine lv_iload_n hx hb d_DL_decide_25 rfl (lv_at hl 1 rfl) ?_
        refine lv_iload_n hx hb d_DL_decide_26 rfl (lv_at hl 2 rfl) ?_
        refine x_cp (k_DL_99 (As := [.int a, .int u]) (rest := []) hx hb hml hown hts (c_Statement_whoOfUser l D cA a u) (x_preS hE trivial) rfl hl.1 rfl (Nat.le_of_ble_eq_true rfl) d_DL_decide_27 (by decide) ⟨Nat.zero_le _, Nat.zero_le _⟩) ?_
        refine x_topi (y := q_who a u) rfl ?_
        generalize hw : q_who a u = W9
        refine lv_istore (lv' := [(8, .int W9), (0, .ref o), (1, .int a), (2, .int u), (3, .long ac), (5, .long th), (7, .int ow)]) hx hb d_DL_decide_30 hl (by decide) rfl (fun ls hl => ?_)
        refine lv_iconst (v := 0) hx hb d_DL_decide_32 (by decide) ?_
        refine lv_istore (lv' := [(9, .int 0), (8, .int W9), (0, .ref o), (1, .int a), (2, .int u), (3, .long ac), (5, .long th), (7, .int ow)]) hx hb d_DL_decide_33 hl (by decide) rfl (fun ls hl => ?_)
        refine x_loopH (I := fun r ls H locs => ∃ (j : Nat) (J : Nat → Nat), j + r = 6 ∧ (∀ i, i < j → J i = l_j (fun k => s_s (d_c X) (d_r X) hv W9 ac th (d_s X i k)) (d_k X i)) ∧ lv_has ls 10 [(9, .int (nI j)), (8, .int W9), (0, .ref o), (1, .int a), (3, .long ac), (5, .long th), (7, .int ow)] ∧ d_W D cA N o (d_setJ X J) H ∧ x_F (d_A o) s.heap H ∧ ∀ q ∈ locs, d_A o q.base) (fun r ls H locs ih h => ?_) (6) ⟨0, d_j X, by omega, fun i h => absurd h (Nat.not_lt_zero i), (lv_sub hl [0, 1, 2, 3, 5, 6, 7] rfl), hP1, x_F.rf, hF⟩
        obtain ⟨j, J, hjr, hJ, hl, hdw, hFr, hF⟩ := h
        have hN := hN.kF hFr hhi.out
        obtain ⟨hO, hV, hC, hLa, hLy⟩ := id hdw
        refine lv_iload hx hb d_DL_decide_35 (lv_at hl 0 rfl) ?_
        refine lv_bipush (v := 6) hx hb d_DL_decide_37 (by decide) ?_
        refine lv_icmp_ge (tgt := 67) hx hb d_DL_decide_39 (by decide) (fun g1 => ?_) (fun g1 => ?_)
        · have g1 := n_ge (k := 6) g1 (by decide) (by omega)
          have hz : d_W D cA N o (z_jud X hv W9 ac th) H := hdw.jcongr (fun i hi => hJ i (by omega))
          refine lv_aload_n hx hb d_DL_decide_67 rfl (lv_at hl 2 rfl) ?_
          refine lv_iload hx hb d_DL_decide_68 (lv_at hl 1 rfl) ?_
          refine x_joinH 81 (fun ls st H1 locs1 => lv_has ls 10 [(9, .int (nI j)), (8, .int W9), (0, .ref o), (1, .int a), (3, .long ac), (5, .long th), (7, .int ow)] ∧ st = [.int (bI (decide (ow = a))), .int W9, .ref o] ∧ H1 = H ∧ locs1 = locs) ?_ (fun hj => ?_)
          · intro ls st H1 locs1 hj
            obtain ⟨hl, rfl, rfl, rfl⟩ := hj
            refine x_cw (k_DL_107 (As := [.int W9, .int (bI (decide (ow = a)))]) (rest := []) hx hb hml hown hts (c_DL_conclude l D cA N o (z_jud X hv W9 ac th) (z_jud_lok hdo hv W9 ac th) W9 (decide (ow = a))) (x_preV hE hz.1 rfl rfl hz) rfl hl.1 rfl (Nat.le_of_ble_eq_true rfl) d_DL_decide_81 (by decide) ⟨Nat.zero_le _, Nat.zero_le _⟩) (fun H2 L2 p2 f2 => ?_)
            have hF := t_lL hF (fun q h => (show ∀ q : Nat, x_A [o] q → d_A o q from fun q h => by rw [x_A1.mp h]; exact d_A_in (by omega) (by omega)) q.base (f2 q h))
            refine x_topi (y := q_dec X hv a u ac th ow) (by unfold q_dec; rw [hq, if_pos rfl, hw]) ?_
            exact W.iret hx hb hr (fun t ht hW => ⟨rfl, by rw [ht]; exact ⟨hFr.trans (p2.1.mono (fun q h => by rw [x_A1.mp h]; exact d_A_in (by omega) (by omega))), by unfold z_dec; rw [hq, if_pos rfl, hw]; exact p2.2⟩⟩) hF d_DL_decide_84
          · refine lv_iload hx hb d_DL_decide_70 (lv_at hl 6 rfl) ?_
            refine lv_iload_n hx hb d_DL_decide_72 rfl (lv_at hl 3 rfl) ?_
            refine lv_icmp_ne (tgt := 80) hx hb d_DL_decide_73 (by decide) (fun e1 => ?_) (fun e1 => ?_)
            · refine lv_iconst (v := 0) hx hb d_DL_decide_80 (by decide) ?_
              refine x_topi (y := bI (decide (ow = a))) (by rw [bI_no e1]) ?_
              exact hj _ _ _ _ ⟨(lv_sub hl [0, 1, 2, 3, 4, 5, 6] rfl), rfl, rfl, rfl⟩
            · refine lv_iconst (v := 1) hx hb d_DL_decide_76 (by decide) ?_
              refine lv_goto (tgt := 81) hx hb d_DL_decide_77 (by decide) ?_
              refine x_topi (y := bI (decide (ow = a))) (by rw [bI_of e1]) ?_
              exact hj _ _ _ _ ⟨(lv_sub hl [0, 1, 2, 3, 4, 5, 6] rfl), rfl, rfl, rfl⟩
        · have g1 := n_lt (k := 6) g1 (by decide) (by omega)
          refine lv_aload_n hx hb d_DL_decide_42 rfl (lv_at hl 2 rfl) ?_
          refine fg_DL_24_DL hx hb hown hts hE hO rfl d_DL_decide_43 ?_
          refine lv_iload hx hb d_DL_decide_46 (lv_at hl 0 rfl) ?_
          refine x_aald hx hb hE.2.2 hLa 5 rfl g1 (by decide) d_DL_decide_48 ?_
          refine x_topv (y := .ref (o + 6 + 8 * j)) (rfl) ?_
          refine lv_iload hx hb d_DL_decide_49 (lv_at hl 1 rfl) ?_
          refine lv_lload_n hx hb d_DL_decide_51 rfl (lv_at hl 4 rfl) ?_
          refine lv_lload hx hb d_DL_decide_52 (lv_at hl 5 rfl) ?_
          refine lv_aload_n hx hb d_DL_decide_54 rfl (lv_at hl 2 rfl) ?_
          refine fg_DL_10_DL hx hb hown hts hE hO rfl d_DL_decide_55 ?_
          refine x_cv (k_DL_103 (As := [.int W9, .long ac, .long th, .ref (o + 1)]) (rest := []) hx hb hml hown hts (c_Layer_judge l D cA N (o + 6 + 8 * j) (d_k X j) (d_b X j) (J j) (d_s X j) (o + 1) (d_c X) (d_r X) made hv hok hdo.2.2.1 hVe (hdo.2.2.2.1 j g1).1 (hdo.2.2.2.2 j g1) (by omega) (fun i hi => by have := (hhi i hi).1; omega) W9 ac th) (x_preV hE (hLy j g1).1 rfl rfl ⟨hLy j g1, hN, hV⟩) rfl hl.1 rfl (Nat.le_of_ble_eq_true rfl) d_DL_decide_58 (by decide) ⟨Nat.zero_le _, Nat.zero_le _⟩) (fun H1 L1 p1 f1 => ?_)
          have hF := t_lL hF (fun q h => (show ∀ q : Nat, x_A [o + 6 + 8 * j] q → d_A o q from fun q h => by rw [x_A1.mp h]; exact d_A_in (by omega) (by omega)) q.base (f1 q h))
          have hd := hdw.jud (l := j) p1.1 (fun q h => by rw [x_A1.mp h]; omega) p1.2
          refine lv_iinc (k := 0) (v := nI (j + 1)) (lv' := [(9, .int (nI (j + 1))), (8, .int W9), (0, .ref o), (1, .int a), (3, .long ac), (5, .long th), (7, .int ow)]) hx hb d_DL_decide_61 hl rfl (x_inc _) (by decide) rfl (fun ls hl => ?_)
          refine lv_goto (tgt := 35) hx hb d_DL_decide_64 (by decide) ?_
          exact ih (r - 1) _ _ _ (by omega) ⟨j + 1, _, by omega, fun i hi => by
            by_cases e : i = j
            · subst e; simp only [va_up, if_pos]
            · simp only [va_up, if_neg e]; exact hJ i (by omega), (lv_sub hl [0, 1, 2, 3, 4, 5, 6] rfl), hd, hFr.trans (p1.1.mono (fun q h => by rw [x_A1.mp h]; exact d_A_in (by omega) (by omega))), hF⟩
      · have hq : (q_dg a && q_dg u && q_dg ow) = false := by rw [bI_0.mp h3]; simp
        refine lv_bipush (v := (-2)) hx hb d_DL_decide_22 (by decide) ?_
        refine x_topi (y := q_dec X hv a u ac th ow) (by unfold q_dec; rw [hq]; rfl) ?_
        exact W.iret hx hb hr (fun t ht hW => ⟨rfl, by rw [ht]; exact ⟨x_F.rf, by unfold z_dec; rw [hq]; exact hP1⟩⟩) hF d_DL_decide_24
end
section
/-! the pile: pushing, popping; a new condition in the table -/
def n_ext (N : n_T) (i kd op ky : Nat) (tt : Int64) (mk dp : Nat) (ch : List Nat) (ad : Nat) : n_T := (va_up (n_kd N) i kd, va_up (n_op N) i op, va_up (n_ky N) i ky, va_up (n_tt N) i tt, va_up (n_mk N) i mk, va_up (n_dp N) i dp, va_up (n_ch N) i ch, va_up (n_ad N) i ad)
def d_push (X : d_T) (i : Nat) : d_T := (d_n X + 1, X.2.1, va_up (d_p X) (d_n X) i, X.2.2.2)
def d_setN (X : d_T) (n : Nat) : d_T := (n, X.2)
theorem n_W.any {D : va_G} {cA : Nat → ClassId} {s : State} {made : Nat} {N : n_T} {H : Heap} (hE : x_E D cA s) (hN : n_W D cA made N H) {i : Nat} (hi : i < made) : va_Any "DecisionLayers$Condition" s H (n_ad N i) := by
  by_cases hk : n_kd N i = 3
  · exact va_rAny (q0 := 0) (ci := 3) hE.2.2 (x_one ((hN i hi).1 hk)) rfl rfl (fun comp c0 h1 h2 => vb_asgC (hE.2.1.2.2.2.2.2.2.2.2.2.2) comp c0 h1 h2)
  · exact va_rAny (q0 := 0) (ci := 4) hE.2.2 (x_one ((hN i hi).2 hk).1) rfl rfl (fun comp c0 h1 h2 => vb_asgC (hE.2.1.2.2.2.2.2.2.2.2.2.1) comp c0 h1 h2)
theorem d_pc_push {N : n_T} {n i : Nat} {p : Nat → Nat} (k : Nat) : va_up (d_pc N n p) n (some (n_ad N i)) k = d_pc N (n + 1) (va_up p n i) k := by
  unfold d_pc va_up
  by_cases e : k = n
  · subst e; simp
  · by_cases h : k < n
    · simp [e, h, show k < n + 1 by omega]
    · simp [e, h, show ¬ k < n + 1 by omega]
theorem d_pc_pop {N : n_T} {n : Nat} {p : Nat → Nat} (k : Nat) : va_up (d_pc N (n + 1) p) n none k = d_pc N n p k := by
  unfold d_pc va_up
  by_cases e : k = n
  · subst e; simp
  · by_cases h : k < n
    · simp [e, h, show k < n + 1 by omega]
    · simp [e, h, show ¬ k < n + 1 by omega]
/-- the object and the pile's cells become others -/
theorem d_W.pil {D : va_G} {cA : Nat → ClassId} {N : n_T} {o : Nat} {X : d_T} {H H1 : Heap} (h : d_W D cA N o X H) (h1 : x_F (x_A [o, o + 4]) H H1) {n : Nat} {p : Nat → Nat} (hO : va_at D x_cl (o, .inr (5, [.ref (o + 1), .ref (o + 4), .ref (o + 5), .int (nI n), .int (d_e X)])) H1) (hC : va_at D x_cl (o + 4, .inl (cA 4, 8, .inr (.inr (.inr (.inr (d_pc N n p)))))) H1) : d_W D cA N o (n, X.2.1, p, X.2.2.2) H1 :=
  ⟨hO, h.2.1.kF h1 (fun q a b z => by have := x_A2.mp z; omega), hC, h.2.2.2.1.kF h1 (fun z => by have := x_A2.mp z; omega), fun l hl => (h.2.2.2.2 l hl).kept (fun q a b => h1.2 q (fun z => by have := x_A2.mp z; omega))⟩
def d_mx (f : Nat → Nat) (a : Nat) : Nat → Nat
  | 0 => 0
  | k + 1 => max (d_mx f a k) (f (a + k))
theorem d_mx_le {f : Nat → Nat} {a n b : Nat} (h : ∀ k, k < n → f (a + k) ≤ b) : d_mx f a n ≤ b := by
  induction n with
  | zero => exact Nat.zero_le _
  | succ n ih => exact Nat.max_le.mpr ⟨ih (fun k hk => h k (by omega)), h n (by omega)⟩
theorem d_mx_ge {f : Nat → Nat} {a n k : Nat} (hk : k < n) : f (a + k) ≤ d_mx f a n := by
  induction n with
  | zero => omega
  | succ n ih =>
    by_cases e : k = n
    · subst e; exact Nat.le_max_right _ _
    · exact Nat.le_trans (ih (by omega)) (Nat.le_max_left _ _)
theorem x_max {a b : Nat} (ha : a < 2 ^ 31) (hb : b < 2 ^ 31) : (if nI a < nI b then nI b else nI a) = nI (max a b) := by
  by_cases h : a < b
  · rw [if_pos ((nI_ltI ha hb).mpr h), Nat.max_eq_right (by omega)]
  · rw [if_neg (fun z => h ((nI_ltI ha hb).mp z)), Nat.max_eq_left (by omega)]
theorem x_n.F {A : Addr → Prop} {H H1 H2 : Heap} (h : x_n H H1) (h2 : x_F A H1 H2) : H2.size = H.size + 1 ∧ ∀ q : Nat, q < H.size → ¬ A q → H2[q]? = H[q]? := ⟨h2.1.trans h.1, fun q a b => (h2.2 q b).trans (h.2 q a)⟩
set_option maxHeartbeats 4000000 in
set_option maxRecDepth 100000 in
theorem c_Condition_init_Test (l : Launch) (D : va_G) (cA : Nat → ClassId) (a : Nat) (f0 f1 f2 : Int32) (f3 : Int64) (f4 d : Int32) : Met l y_Condition_init [.code y_Condition_init b_Condition_init 2 none] (x_rm 1 0 0) (x_P D cA [.ref a, .int d] (fun H => va_at D x_cl (a, .inr (3, [.int f0, .int f1, .int f2, .long f3, .int f4])) H)) (x_Q (none) (fun H H1 => x_F (x_A [a]) H H1 ∧ va_at D x_cl (a, .inr (3, [.int d, .int f1, .int f2, .long f3, .int f4])) H1)) 0 0 (x_A [a]) := by
  refine x_met (own := "DecisionLayers$Condition") (by decide) rfl (Nat.le_of_ble_eq_true rfl) ?_
  intro pp ee s mm below mt cd ls hx hb hr hlk hnm hml hown hts hE hP hl
  have hl : lv_has ls 2 [(0, .ref a), (1, .int d)] := hl
  have hF : ∀ q ∈ ([] : List Loc), x_A [a] q.base := t_nil
  refine lv_aload_n hx hb d_Condition_init_0 rfl (lv_at hl 0 rfl) ?_
  refine W.objInit hx hb hown (hts _ w_1_114) (hts _ w_1_18) (hts _ w_1_19) rfl (by rw [hml]; exact hl.1) rfl d_Condition_init_1 (Nat.le_of_ble_eq_true rfl) (Nat.le_of_ble_eq_true rfl) ?_
  refine W.eq (g2 := F0 mm 4 ls []) rfl ?_
  refine lv_aload_n hx hb d_Condition_init_4 rfl (lv_at hl 0 rfl) ?_
  refine lv_iload_n hx hb d_Condition_init_5 rfl (lv_at hl 1 rfl) ?_
  refine fp_Condition_7_Test hx hb hown hts hE hnm hP rfl rfl (Nat.le_of_ble_eq_true rfl) d_Condition_init_6 (fun H1 k1 g1 o1 => ?_)
  have hF := t_lc (a := a) (i := k1) hF (x_A1.mpr rfl)
  exact W.vret hx hb hr (fun t ht hW => ⟨rfl, by rw [ht]; exact ⟨x_F.of1 o1 (x_A1.mpr rfl), g1⟩⟩) hF d_Condition_init_9
set_option maxHeartbeats 4000000 in
set_option maxRecDepth 100000 in
theorem c_Condition_init_Joined (l : Launch) (D : va_G) (cA : Nat → ClassId) (a : Nat) (f0 f1 : Int32) (f2 : Value) (d : Int32) : Met l y_Condition_init [.code y_Condition_init b_Condition_init 2 none] (x_rm 1 0 0) (x_P D cA [.ref a, .int d] (fun H => va_at D x_cl (a, .inr (4, [.int f0, .int f1, f2])) H)) (x_Q (none) (fun H H1 => x_F (x_A [a]) H H1 ∧ va_at D x_cl (a, .inr (4, [.int d, .int f1, f2])) H1)) 0 0 (x_A [a]) := by
  refine x_met (own := "DecisionLayers$Condition") (by decide) rfl (Nat.le_of_ble_eq_true rfl) ?_
  intro pp ee s mm below mt cd ls hx hb hr hlk hnm hml hown hts hE hP hl
  have hl : lv_has ls 2 [(0, .ref a), (1, .int d)] := hl
  have hF : ∀ q ∈ ([] : List Loc), x_A [a] q.base := t_nil
  refine lv_aload_n hx hb d_Condition_init_0 rfl (lv_at hl 0 rfl) ?_
  refine W.objInit hx hb hown (hts _ w_1_114) (hts _ w_1_18) (hts _ w_1_19) rfl (by rw [hml]; exact hl.1) rfl d_Condition_init_1 (Nat.le_of_ble_eq_true rfl) (Nat.le_of_ble_eq_true rfl) ?_
  refine W.eq (g2 := F0 mm 4 ls []) rfl ?_
  refine lv_aload_n hx hb d_Condition_init_4 rfl (lv_at hl 0 rfl) ?_
  refine lv_iload_n hx hb d_Condition_init_5 rfl (lv_at hl 1 rfl) ?_
  refine fp_Condition_7_Joined hx hb hown hts hE hnm hP rfl rfl (Nat.le_of_ble_eq_true rfl) d_Condition_init_6 (fun H1 k1 g1 o1 => ?_)
  have hF := t_lc (a := a) (i := k1) hF (x_A1.mpr rfl)
  exact W.vret hx hb hr (fun t ht hW => ⟨rfl, by rw [ht]; exact ⟨x_F.of1 o1 (x_A1.mpr rfl), g1⟩⟩) hF d_Condition_init_9
set_option maxHeartbeats 4000000 in
set_option maxRecDepth 100000 in
theorem c_Test_init (l : Launch) (D : va_G) (cA : Nat → ClassId) (a : Nat) (o k : Int32) (t : Int64) (mk : Int32) : Met l y_Test_init [.code y_Test_init b_Test_init 6 none] (x_rm 2 0 0) (x_P D cA [.ref a, .int o, .int k, .long t, .int mk] (fun H => va_at D x_cl (a, .inr (3, [.int 0, .int 0, .int 0, .long 0, .int 0])) H)) (x_Q (none) (fun H H1 => x_F (x_A [a]) H H1 ∧ va_at D x_cl (a, .inr (3, [.int 1, .int o, .int k, .long t, .int mk])) H1)) 0 0 (x_A [a]) := by
  refine x_met (own := "DecisionLayers$Test") (by decide) rfl (Nat.le_of_ble_eq_true rfl) ?_
  intro pp ee s mm below mt cd ls hx hb hr hlk hnm hml hown hts hE hP hl
  have hl : lv_has ls 6 [(0, .ref a), (1, .int o), (2, .int k), (3, .long t), (5, .int mk)] := hl
  have hF : ∀ q ∈ ([] : List Loc), x_A [a] q.base := t_nil
  refine lv_aload_n hx hb d_Test_init_0 rfl (lv_at hl 0 rfl) ?_
  refine lv_iconst (v := 1) hx hb d_Test_init_1 (by decide) ?_
  refine x_cv (k_Test_1 (As := [.int 1]) (rest := []) hx hb hml hown hts (c_Condition_init_Test l D cA a 0 0 0 0 0 1) (x_preS hE hP) rfl hl.1 rfl (Nat.le_of_ble_eq_true rfl) d_Test_init_2 (by decide) ⟨Nat.zero_le _, Nat.zero_le _⟩) (fun H0 L0 p0 f0 => ?_)
  have hF := t_lL hF (fun q h => (fun q h => h) q.base (f0 q h))
  obtain ⟨e0, g0⟩ := p0
  refine lv_aload_n hx hb d_Test_init_5 rfl (lv_at hl 0 rfl) ?_
  refine lv_iload_n hx hb d_Test_init_6 rfl (lv_at hl 1 rfl) ?_
  refine fp_Test_7_Test hx hb hown hts hE hnm g0 rfl rfl (Nat.le_of_ble_eq_true rfl) d_Test_init_7 (fun H1 k1 g1 o1 => ?_)
  have hF := t_lc (a := a) (i := k1) hF (x_A1.mpr rfl)
  refine lv_aload_n hx hb d_Test_init_10 rfl (lv_at hl 0 rfl) ?_
  refine lv_iload_n hx hb d_Test_init_11 rfl (lv_at hl 2 rfl) ?_
  refine fp_Test_13_Test hx hb hown hts hE hnm g1 rfl rfl (Nat.le_of_ble_eq_true rfl) d_Test_init_12 (fun H2 k2 g2 o2 => ?_)
  have hF := t_lc (a := a) (i := k2) hF (x_A1.mpr rfl)
  refine lv_aload_n hx hb d_Test_init_15 rfl (lv_at hl 0 rfl) ?_
  refine lv_lload_n hx hb d_Test_init_16 rfl (lv_at hl 3 rfl) ?_
  refine fp_Test_16_Test hx hb hown hts hE hnm g2 rfl rfl (Nat.le_of_ble_eq_true rfl) d_Test_init_17 (fun H3 k3 g3 o3 => ?_)
  have hF := t_lc (a := a) (i := k3) hF (x_A1.mpr rfl)
  refine lv_aload_n hx hb d_Test_init_20 rfl (lv_at hl 0 rfl) ?_
  refine lv_iload hx hb d_Test_init_21 (lv_at hl 4 rfl) ?_
  refine fp_Test_20_Test hx hb hown hts hE hnm g3 rfl rfl (Nat.le_of_ble_eq_true rfl) d_Test_init_23 (fun H4 k4 g4 o4 => ?_)
  have hF := t_lc (a := a) (i := k4) hF (x_A1.mpr rfl)
  exact W.vret hx hb hr (fun t ht hW => ⟨rfl, by rw [ht]; exact ⟨((((e0.trans (x_F.of1 o1 (x_A1.mpr rfl))).trans (x_F.of1 o2 (x_A1.mpr rfl))).trans (x_F.of1 o3 (x_A1.mpr rfl))).trans (x_F.of1 o4 (x_A1.mpr rfl))), g4⟩⟩) hF d_Test_init_26
set_option maxHeartbeats 4000000 in
set_option maxRecDepth 100000 in
theorem c_Joined_init (l : Launch) (D : va_G) (cA : Nat → ClassId) (a : Nat) (k : Int32) (r : Nat) (d : Int32) : Met l y_Joined_init [.code y_Joined_init b_Joined_init 4 none] (x_rm 2 0 0) (x_P D cA [.ref a, .int k, .ref r, .int d] (fun H => va_at D x_cl (a, .inr (4, [.int 0, .int 0, .null])) H)) (x_Q (none) (fun H H1 => x_F (x_A [a]) H H1 ∧ va_at D x_cl (a, .inr (4, [.int d, .int k, .ref r])) H1)) 0 0 (x_A [a]) := by
  refine x_met (own := "DecisionLayers$Joined") (by decide) rfl (Nat.le_of_ble_eq_true rfl) ?_
  intro pp ee s mm below mt cd ls hx hb hr hlk hnm hml hown hts hE hP hl
  have hl : lv_has ls 4 [(0, .ref a), (1, .int k), (2, .ref r), (3, .int d)] := hl
  have hF : ∀ q ∈ ([] : List Loc), x_A [a] q.base := t_nil
  refine lv_aload_n hx hb d_Joined_init_0 rfl (lv_at hl 0 rfl) ?_
  refine lv_iload_n hx hb d_Joined_init_1 rfl (lv_at hl 3 rfl) ?_
  refine x_cv (k_Joined_1 (As := [.int d]) (rest := []) hx hb hml hown hts (c_Condition_init_Joined l D cA a 0 0 .null d) (x_preS hE hP) rfl hl.1 rfl (Nat.le_of_ble_eq_true rfl) d_Joined_init_2 (by decide) ⟨Nat.zero_le _, Nat.zero_le _⟩) (fun H0 L0 p0 f0 => ?_)
  have hF := t_lL hF (fun q h => (fun q h => h) q.base (f0 q h))
  obtain ⟨e0, g0⟩ := p0
  refine lv_aload_n hx hb d_Joined_init_5 rfl (lv_at hl 0 rfl) ?_
  refine lv_iload_n hx hb d_Joined_init_6 rfl (lv_at hl 1 rfl) ?_
  refine fp_Joined_7_Joined hx hb hown hts hE hnm g0 rfl rfl (Nat.le_of_ble_eq_true rfl) d_Joined_init_7 (fun H1 k1 g1 o1 => ?_)
  have hF := t_lc (a := a) (i := k1) hF (x_A1.mpr rfl)
  refine lv_aload_n hx hb d_Joined_init_10 rfl (lv_at hl 0 rfl) ?_
  refine lv_aload_n hx hb d_Joined_init_11 rfl (lv_at hl 2 rfl) ?_
  refine fp_Joined_13_Joined hx hb hown hts hE hnm g1 rfl rfl (Nat.le_of_ble_eq_true rfl) d_Joined_init_12 (fun H2 k2 g2 o2 => ?_)
  have hF := t_lc (a := a) (i := k2) hF (x_A1.mpr rfl)
  exact W.vret hx hb hr (fun t ht hW => ⟨rfl, by rw [ht]; exact ⟨((e0.trans (x_F.of1 o1 (x_A1.mpr rfl))).trans (x_F.of1 o2 (x_A1.mpr rfl))), g2⟩⟩) hF d_Joined_init_15
set_option maxHeartbeats 4000000 in
set_option maxRecDepth 100000 in
theorem c_DL_push (l : Launch) (D : va_G) (cA : Nat → ClassId) (N : n_T) (o : Nat) (X : d_T) (made i : Nat) (hi : i < made) (h8 : d_n X < 8) : Met l y_DL_push [.code y_DL_push b_DL_push 2 (some .int)] (x_rm 0 0 0) (x_P D cA [.ref o, .ref (n_ad N i)] (fun H => d_W D cA N o X H ∧ n_W D cA made N H)) (x_Q (some (.int (nI (d_n X + 1)))) (fun H H1 => x_F (x_A [o, o + 4]) H H1 ∧ d_W D cA N o (d_push X i) H1)) 0 0 (x_A [o, o + 4]) := by
  refine x_met (own := "DecisionLayers") (by decide) rfl (Nat.le_of_ble_eq_true rfl) ?_
  intro pp ee s mm below mt cd ls hx hb hr hlk hnm hml hown hts hE hP hl
  have hl : lv_has ls 2 [(0, .ref o), (1, .ref (n_ad N i))] := hl
  obtain ⟨hP1, hN⟩ := hP
  obtain ⟨hO, hV, hC, hLa, hLy⟩ := id hP1
  have hF : ∀ q ∈ ([] : List Loc), x_A [o, o + 4] q.base := t_nil
  refine lv_aload_n hx hb d_DL_push_0 rfl (lv_at hl 0 rfl) ?_
  refine fg_DL_29_DL hx hb hown hts hE hO rfl d_DL_push_1 ?_
  refine lv_bipush (v := 8) hx hb d_DL_push_4 (by decide) ?_
  refine lv_icmp_ge (tgt := 29) hx hb d_DL_push_6 (by decide) (fun h1 => ?_) (fun h1 => ?_)
  · exact absurd (n_ge (k := 8) h1 (by decide) (by omega)) (by omega)
  · refine lv_aload_n hx hb d_DL_push_9 rfl (lv_at hl 0 rfl) ?_
    refine fg_DL_18_DL hx hb hown hts hE hO rfl d_DL_push_10 ?_
    refine lv_aload_n hx hb d_DL_push_13 rfl (lv_at hl 0 rfl) ?_
    refine fg_DL_29_DL hx hb hown hts hE hO rfl d_DL_push_14 ?_
    refine lv_aload_n hx hb d_DL_push_17 rfl (lv_at hl 1 rfl) ?_
    refine x_aast hx hb hE.2.2 hC 4 rfl (hN.any hE hi) h8 (by decide) d_DL_push_18 (fun H1 k1 g1 o1 => ?_)
    have hF := t_lc (a := o + 4) (i := k1) hF (x_A2.mpr (Or.inr rfl))
    have hO := hO.k1 o1 (show o ≠ o + 4 by omega)
    refine lv_aload_n hx hb d_DL_push_19 rfl (lv_at hl 0 rfl) ?_
    refine lv_dup hx hb d_DL_push_20 rfl ?_
    refine fg_DL_29_DL hx hb hown hts hE hO rfl d_DL_push_21 ?_
    refine lv_iconst (v := 1) hx hb d_DL_push_24 (by decide) ?_
    refine lv_iadd hx hb d_DL_push_25 ?_
    refine x_topi (y := nI (d_n X + 1)) (nI_succ _).symm ?_
    refine fp_DL_29_DL hx hb hown hts hE hO rfl rfl (Nat.le_of_ble_eq_true rfl) d_DL_push_26 (fun H2 k2 g2 o2 => ?_)
    have hF := t_lc (a := o) (i := k2) hF (x_A2.mpr (Or.inl rfl))
    have g1 := (g1.refs (fun k _ => d_pc_push k)).k1 o2 (show o + 4 ≠ o by omega)
    have hFr := (x_F.of1 (A := x_A [o, o + 4]) o1 (x_A2.mpr (Or.inr rfl))).trans (x_F.of1 o2 (x_A2.mpr (Or.inl rfl)))
    refine lv_aload_n hx hb d_DL_push_29 rfl (lv_at hl 0 rfl) ?_
    refine fg_DL_29_DL hx hb hown hts hE g2 rfl d_DL_push_30 ?_
    exact W.iret hx hb hr (fun t ht hW => ⟨rfl, by rw [ht]; exact ⟨hFr, hP1.pil hFr g2 g1⟩⟩) hF d_DL_push_33
set_option maxHeartbeats 4000000 in
set_option maxRecDepth 100000 in
theorem c_DL_pop_0 (l : Launch) (D : va_G) (cA : Nat → ClassId) (N : n_T) (o : Nat) (X : d_T) (h0 : d_n X = 0) : Met l y_DL_pop [.code y_DL_pop b_DL_pop 2 (some (.object "DecisionLayers$Condition"))] (x_rm 0 0 0) (x_P D cA [.ref o] (fun H => d_W D cA N o X H)) (x_Q (some (.null)) (x_same)) 0 0 (fun _ => False) := by
  refine x_met (own := "DecisionLayers") (by decide) rfl (Nat.le_of_ble_eq_true rfl) ?_
  intro pp ee s mm below mt cd ls hx hb hr hlk hnm hml hown hts hE hP hl
  have hl : lv_has ls 2 [(0, .ref o)] := hl
  obtain ⟨hO, hV, hC, hLa, hLy⟩ := id hP
  refine lv_aload_n hx hb d_DL_pop_0 rfl (lv_at hl 0 rfl) ?_
  refine fg_DL_29_DL hx hb hown hts hE hO rfl d_DL_pop_1 ?_
  refine lv_if_ne (tgt := 9) hx hb d_DL_pop_4 (by decide) (fun h1 => ?_) (fun h1 => ?_)
  · exact absurd (by rw [h0]; rfl) h1
  · refine lv_null hx hb d_DL_pop_7 ?_
    exact W.aret hx hb hr (Or.inl ⟨_, rfl⟩) (Or.inl rfl) (fun t ht hW => ⟨rfl, ht⟩) (fun q h => by cases h) d_DL_pop_8
set_option maxHeartbeats 4000000 in
set_option maxRecDepth 100000 in
theorem c_DL_pop_S (l : Launch) (D : va_G) (cA : Nat → ClassId) (N : n_T) (o : Nat) (X : d_T) (q : Nat) (hq : d_n X = q + 1) (h8 : d_n X ≤ 8) : Met l y_DL_pop [.code y_DL_pop b_DL_pop 2 (some (.object "DecisionLayers$Condition"))] (x_rm 0 0 0) (x_P D cA [.ref o] (fun H => d_W D cA N o X H)) (x_Q (some (.ref (n_ad N (d_p X q)))) (fun H H1 => x_F (x_A [o, o + 4]) H H1 ∧ d_W D cA N o (d_setN X q) H1)) 0 0 (x_A [o, o + 4]) := by
  refine x_met (own := "DecisionLayers") (by decide) rfl (Nat.le_of_ble_eq_true rfl) ?_
  intro pp ee s mm below mt cd ls hx hb hr hlk hnm hml hown hts hE hP hl
  have hl : lv_has ls 2 [(0, .ref o)] := hl
  obtain ⟨hO, hV, hC, hLa, hLy⟩ := id hP
  have hF : ∀ q ∈ ([] : List Loc), x_A [o, o + 4] q.base := t_nil
  refine lv_aload_n hx hb d_DL_pop_0 rfl (lv_at hl 0 rfl) ?_
  refine fg_DL_29_DL hx hb hown hts hE hO rfl d_DL_pop_1 ?_
  refine lv_if_ne (tgt := 9) hx hb d_DL_pop_4 (by decide) (fun h1 => ?_) (fun h1 => ?_)
  · refine lv_aload_n hx hb d_DL_pop_9 rfl (lv_at hl 0 rfl) ?_
    refine lv_dup hx hb d_DL_pop_10 rfl ?_
    refine fg_DL_29_DL hx hb hown hts hE hO rfl d_DL_pop_11 ?_
    refine lv_iconst (v := 1) hx hb d_DL_pop_14 (by decide) ?_
    refine lv_isub hx hb d_DL_pop_15 ?_
    refine x_topi (y := nI q) (by rw [hq]; exact nI_pred q) ?_
    refine fp_DL_29_DL hx hb hown hts hE hO rfl rfl (Nat.le_of_ble_eq_true rfl) d_DL_pop_16 (fun H1 k1 g1 o1 => ?_)
    have hF := t_lc (a := o) (i := k1) hF (x_A2.mpr (Or.inl rfl))
    have hC := hC.k1 o1 (show o + 4 ≠ o by omega)
    rw [hq] at hC
    refine lv_aload_n hx hb d_DL_pop_19 rfl (lv_at hl 0 rfl) ?_
    refine fg_DL_18_DL hx hb hown hts hE g1 rfl d_DL_pop_20 ?_
    refine lv_aload_n hx hb d_DL_pop_23 rfl (lv_at hl 0 rfl) ?_
    refine fg_DL_29_DL hx hb hown hts hE g1 rfl d_DL_pop_24 ?_
    refine x_aald hx hb hE.2.2 hC 4 rfl (by omega) (by decide) d_DL_pop_27 ?_
    refine x_topv (y := .ref (n_ad N (d_p X q))) (by unfold d_pc; rw [if_pos (by omega)]; rfl) ?_
    refine lv_astore_n (lv' := [(1, .ref (n_ad N (d_p X q))), (0, .ref o)]) hx hb d_DL_pop_28 rfl hl (by decide) rfl (fun ls hl => ?_)
    refine lv_aload_n hx hb d_DL_pop_29 rfl (lv_at hl 1 rfl) ?_
    refine fg_DL_18_DL hx hb hown hts hE g1 rfl d_DL_pop_30 ?_
    refine lv_aload_n hx hb d_DL_pop_33 rfl (lv_at hl 1 rfl) ?_
    refine fg_DL_29_DL hx hb hown hts hE g1 rfl d_DL_pop_34 ?_
    refine lv_null hx hb d_DL_pop_37 ?_
    refine x_aastN hx hb hE.2.2 hC 4 rfl (by omega) (by decide) d_DL_pop_38 (fun H2 k2 g2 o2 => ?_)
    have hF := t_lc (a := o + 4) (i := k2) hF (x_A2.mpr (Or.inr rfl))
    have hFr := (x_F.of1 (A := x_A [o, o + 4]) o1 (x_A2.mpr (Or.inl rfl))).trans (x_F.of1 o2 (x_A2.mpr (Or.inr rfl)))
    refine lv_aload_n hx hb d_DL_pop_39 rfl (lv_at hl 0 rfl) ?_
    exact W.aret hx hb hr (Or.inl ⟨_, rfl⟩) (Or.inr ⟨_, rfl⟩) (fun t ht hW => ⟨rfl, by rw [ht]; exact ⟨hFr, hP.pil hFr (g1.k1 o2 (show o ≠ o + 4 by omega)) (g2.refs (fun k _ => d_pc_pop k))⟩⟩) hF d_DL_pop_40
  · exact absurd h1 (nI_ne0 (by omega) (by omega))
set_option maxHeartbeats 4000000 in
set_option maxRecDepth 100000 in
theorem c_DL_discard (l : Launch) (D : va_G) (cA : Nat → ClassId) (N : n_T) (o : Nat) (X : d_T) (h8 : d_n X ≤ 8) : Met l y_DL_discard [.code y_DL_discard b_DL_discard 1 (some .boolean)] (x_rm 1 0 0) (x_P D cA [.ref o] (fun H => d_W D cA N o X H)) (x_Q (some (.int (bI (decide (¬ d_n X = 0))))) (fun H H1 => x_F (x_A [o, o + 4]) H H1 ∧ d_W D cA N o (d_setN X (d_n X - 1)) H1)) 0 0 (x_A [o, o + 4]) := by
  refine x_met (own := "DecisionLayers") (by decide) rfl (Nat.le_of_ble_eq_true rfl) ?_
  intro pp ee s mm below mt cd ls hx hb hr hlk hnm hml hown hts hE hP hl
  have hl : lv_has ls 1 [(0, .ref o)] := hl
  have hF : ∀ q ∈ ([] : List Loc), x_A [o, o + 4] q.base := t_nil
  by_cases h0 : d_n X = 0
  · refine lv_aload_n hx hb d_DL_discard_0 rfl (lv_at hl 0 rfl) ?_
    refine x_cp (k_DL_55 (As := []) (rest := []) hx hb hml hown hts (c_DL_pop_0 l D cA N o X h0) (x_preV hE hP.1 rfl rfl hP) rfl hl.1 rfl (Nat.le_of_ble_eq_true rfl) d_DL_discard_1 (by decide) ⟨Nat.zero_le _, Nat.zero_le _⟩) ?_
    refine lv_ifnullN (tgt := 11) hx hb d_DL_discard_4 (by decide) ?_
    refine lv_iconst (v := 0) hx hb d_DL_discard_11 (by decide) ?_
    refine x_topi (y := bI (decide (¬ d_n X = 0))) (by rw [bI_no (fun z => z h0)]) ?_
    exact W.zret (ty := .boolean) hx hb hr (bI_z _) (fun t ht hW => ⟨rfl, by rw [ht]; exact ⟨x_F.rf, by rw [show d_setN X (d_n X - 1) = X by rw [h0, Nat.zero_sub, ← h0]; rfl]; exact hP⟩⟩) hF d_DL_discard_12
  · obtain ⟨q, hq⟩ : ∃ q, d_n X = q + 1 := ⟨d_n X - 1, by omega⟩
    refine lv_aload_n hx hb d_DL_discard_0 rfl (lv_at hl 0 rfl) ?_
    refine x_cw (k_DL_55 (As := []) (rest := []) hx hb hml hown hts (c_DL_pop_S l D cA N o X q hq h8) (x_preV hE hP.1 rfl rfl hP) rfl hl.1 rfl (Nat.le_of_ble_eq_true rfl) d_DL_discard_1 (by decide) ⟨Nat.zero_le _, Nat.zero_le _⟩) (fun H1 L1 p1 f1 => ?_)
    have hF := t_lL hF (fun q h => (fun q h => h) q.base (f1 q h))
    refine lv_ifnull hx hb d_DL_discard_4 ?_
    refine lv_iconst (v := 1) hx hb d_DL_discard_7 (by decide) ?_
    refine lv_goto (tgt := 12) hx hb d_DL_discard_8 (by decide) ?_
    refine x_topi (y := bI (decide (¬ d_n X = 0))) (by rw [bI_of h0]) ?_
    exact W.zret (ty := .boolean) hx hb hr (bI_z _) (fun t ht hW => ⟨rfl, by rw [ht]; exact ⟨p1.1, by rw [hq]; exact p1.2⟩⟩) hF d_DL_discard_12
end
section
/-! making conditions -/
def x_G (A : Addr → Prop) (H H1 : Heap) : Prop := H.size ≤ H1.size ∧ ∀ q : Nat, q < H.size → ¬ A q → H1[q]? = H[q]?
def x_AG (A : Addr → Prop) (sz : Nat) : Addr → Prop := fun q => A q ∨ sz ≤ q
theorem x_F.G {A : Addr → Prop} {H H1 : Heap} (h : x_F A H H1) : x_G A H H1 := ⟨Nat.le_of_eq h.1.symm, fun q _ b => h.2 q b⟩
theorem x_n.G {A : Addr → Prop} {H H1 : Heap} (h : x_n H H1) : x_G A H H1 := ⟨by rw [h.1]; omega, fun q a _ => h.2 q a⟩
theorem x_G.trans {A : Addr → Prop} {H H1 H2 : Heap} (h : x_G A H H1) (h2 : x_G A H1 H2) : x_G A H H2 := ⟨Nat.le_trans h.1 h2.1, fun q a b => (h2.2 q (Nat.lt_of_lt_of_le a h.1) b).trans (h.2 q a b)⟩
/-- a change of new cells only -/
theorem x_G.new {A B : Addr → Prop} {H H1 H2 : Heap} (h : x_G A H H1) (h2 : x_F B H1 H2) (hB : ∀ q : Nat, B q → H.size ≤ q) : x_G A H H2 := ⟨by rw [h2.1]; exact h.1, fun q a b => (h2.2 q (fun z => by have := hB q z; omega)).trans (h.2 q a b)⟩
theorem d_W.ext {D : va_G} {cA : Nat → ClassId} {N N1 : n_T} {o made : Nat} {X : d_T} {H : Heap} (h : d_W D cA N o X H) (hdo : d_ok made X) (ha : ∀ i, i < made → n_ad N1 i = n_ad N i) : d_W D cA N1 o X H := by
  refine ⟨h.1, h.2.1, h.2.2.1.refs (fun k _ => ?_), h.2.2.2.1, fun l hl => ⟨(h.2.2.2.2 l hl).1, (h.2.2.2.2 l hl).2.1, fun k hk => ?_⟩⟩
  · unfold d_pc
    by_cases hk : k < d_n X
    · rw [if_pos hk, if_pos hk, ha _ (hdo.2.1 k hk)]
    · rw [if_neg hk, if_neg hk]
  · have h1 := (h.2.2.2.2 l hl).2.2 k hk
    have e : s_fs N1 (d_s X l k) = s_fs N (d_s X l k) := by
      unfold s_fs
      cases hs : (d_s X l k).2.2.2.2 with
      | none => rfl
      | some i => show [_, _, _, _, va_rf (some (n_ad N1 i))] = [_, _, _, _, va_rf (some (n_ad N i))]; rw [ha i ((hdo.2.2.2.2 l hl k hk).2 i hs)]
    rw [e]; exact h1
theorem n_ext_o {N : n_T} {m kd op ky : Nat} {tt : Int64} {mk dp : Nat} {ch : List Nat} {ad i : Nat} (h : i ≠ m) : n_kd (n_ext N m kd op ky tt mk dp ch ad) i = n_kd N i ∧ n_op (n_ext N m kd op ky tt mk dp ch ad) i = n_op N i ∧ n_ky (n_ext N m kd op ky tt mk dp ch ad) i = n_ky N i ∧ n_tt (n_ext N m kd op ky tt mk dp ch ad) i = n_tt N i ∧ n_mk (n_ext N m kd op ky tt mk dp ch ad) i = n_mk N i ∧ n_dp (n_ext N m kd op ky tt mk dp ch ad) i = n_dp N i ∧ n_ch (n_ext N m kd op ky tt mk dp ch ad) i = n_ch N i ∧ n_ad (n_ext N m kd op ky tt mk dp ch ad) i = n_ad N i := by
  exact ⟨if_neg h, if_neg h, if_neg h, if_neg h, if_neg h, if_neg h, if_neg h, if_neg h⟩
theorem n_ext_n {N : n_T} {m kd op ky : Nat} {tt : Int64} {mk dp : Nat} {ch : List Nat} {ad : Nat} : n_kd (n_ext N m kd op ky tt mk dp ch ad) m = kd ∧ n_op (n_ext N m kd op ky tt mk dp ch ad) m = op ∧ n_ky (n_ext N m kd op ky tt mk dp ch ad) m = ky ∧ n_tt (n_ext N m kd op ky tt mk dp ch ad) m = tt ∧ n_mk (n_ext N m kd op ky tt mk dp ch ad) m = mk ∧ n_dp (n_ext N m kd op ky tt mk dp ch ad) m = dp ∧ n_ch (n_ext N m kd op ky tt mk dp ch ad) m = ch ∧ n_ad (n_ext N m kd op ky tt mk dp ch ad) m = ad := by
  exact ⟨if_pos rfl, if_pos rfl, if_pos rfl, if_pos rfl, if_pos rfl, if_pos rfl, if_pos rfl, if_pos rfl⟩
theorem n_W.ext {D : va_G} {cA : Nat → ClassId} {made : Nat} {N : n_T} {H : Heap} {kd op ky : Nat} {tt : Int64} {mk dp : Nat} {ch : List Nat} {ad : Nat} (h : n_W D cA made N H) (hok : n_ok made N) (ht : kd = 3 → va_at D x_cl (ad, .inr (3, [.int (nI dp), .int (nI op), .int (nI ky), .long tt, .int (nI mk)])) H) (hc : ∀ c ∈ ch, c < made)
    (hj : kd ≠ 3 → va_at D x_cl (ad, .inr (4, [.int (nI dp), .int (nI kd), .ref (ad - 1)])) H ∧ va_at D x_cl (ad - 1, .inl (cA 4, ch.length, .inr (.inr (.inr (.inr (fun j => (ch[j]?).map (n_ad N))))))) H) : n_W D cA (made + 1) (n_ext N made kd op ky tt mk dp ch ad) H := by
  intro i hi
  by_cases e : i = made
  · subst e
    obtain ⟨e1, e2, e3, e4, e5, e6, e7, e8⟩ := @n_ext_n N i kd op ky tt mk dp ch ad
    rw [e1, e2, e3, e4, e5, e6, e7, e8]
    refine ⟨ht, fun hk => ⟨(hj hk).1, (hj hk).2.refs (fun j hjl => ?_)⟩⟩
    obtain ⟨c, hcj⟩ : ∃ c, ch[j]? = some c := ⟨_, List.getElem?_eq_getElem hjl⟩
    rw [hcj]
    show some (n_ad N c) = some (n_ad (n_ext N i kd op ky tt mk dp ch ad) c)
    rw [(n_ext_o (Nat.ne_of_lt (hc c (List.mem_of_getElem? hcj)))).2.2.2.2.2.2.2]
  · obtain ⟨e1, e2, e3, e4, e5, e6, e7, e8⟩ := @n_ext_o N made kd op ky tt mk dp ch ad i e
    rw [e1, e2, e3, e4, e5, e6, e7, e8]
    have him : i < made := by omega
    refine ⟨(h i him).1, fun hk => ⟨((h i him).2 hk).1, ((h i him).2 hk).2.refs (fun j hjl => ?_)⟩⟩
    obtain ⟨c, hcj⟩ : ∃ c, (n_ch N i)[j]? = some c := ⟨_, List.getElem?_eq_getElem hjl⟩
    rw [hcj]
    show some (n_ad N c) = some (n_ad (n_ext N made kd op ky tt mk dp ch ad) c)
    have := (((hok i him).2.2.2.2 hk).2 c (List.mem_of_getElem? hcj)).1
    rw [(n_ext_o (by omega)).2.2.2.2.2.2.2]
theorem n_W.kG {D : va_G} {cA : Nat → ClassId} {made o : Nat} {N : n_T} {H H1 : Heap} (h : n_W D cA made N H) (h1 : x_G (d_A o) H H1) (hh : n_hi o made N) : n_W D cA made N H1 := by
  intro i hi
  have h0 := h i hi
  refine ⟨fun hk => (h0.1 hk).kept (h1.2 _ (h0.1 hk).lt (hh.out i hi).1), fun hk => ⟨(h0.2 hk).1.kept (h1.2 _ (h0.2 hk).1.lt (hh.out i hi).1), (h0.2 hk).2.kept (h1.2 _ (h0.2 hk).2.lt ((hh.out i hi).2 hk))⟩⟩
def q_tok (op ky mk : Int32) : Bool := decide (0 ≤ op ∧ op < 8) && q_key ky && decide (0 ≤ mk ∧ mk ≤ 7)
def q_test (X : d_T) (op ky mk : Int32) : Int32 := if q_tok op ky mk then (if 8 ≤ d_n X then -3 else nI (d_n X + 1)) else -2
def q_tmk (X : d_T) (op ky mk : Int32) : Bool := q_tok op ky mk && decide (d_n X < 8)
def z_testN (made : Nat) (N : n_T) (X : d_T) (op ky : Int32) (t : Int64) (mk : Int32) (a : Nat) : n_T := if q_tmk X op ky mk then n_ext N made 3 op.toNatClampNeg ky.toNatClampNeg t mk.toNatClampNeg 1 [] a else N
def z_testX (made : Nat) (X : d_T) (op ky mk : Int32) : d_T := if q_tmk X op ky mk then d_push X made else X
def z_testM (made : Nat) (X : d_T) (op ky mk : Int32) : Nat := if q_tmk X op ky mk then made + 1 else made
theorem x_AGl {A : Addr → Prop} {sz q : Nat} (h : A q) : x_AG A sz q := Or.inl h
theorem x_AGr {A : Addr → Prop} {sz q : Nat} (h : sz ≤ q) : x_AG A sz q := Or.inr h
section ND
variable {p : Program} {l : Launch} {e : Env} {R : Room} {s : State} {m : MethodId} {args : Array Value} {below : List Frame} {meth : Method} {c : Code} {H : Heap} {locs : List Loc} {cells slots : Nat} {Q : State → Prop}
variable {cc : ByteArray} {pc : Nat} {ls : Array Slot} {rest : List Value} {D : va_G} {cA : Nat → ClassId}
theorem n_dep (hx : p.tables.exec = Jvm.exec) (hb : c.code = cc) (hown : s.vm.findClass "DecisionLayers" = some m.cls) (hts : ∀ w ∈ w_g, w.before args s = true) (hE : x_E D cA s) {made i : Nat} {N : n_T} (hN : n_W D cA made N H) (hi : i < made) (hdg : decode cc pc = .ok (.getfield 127, 3)) (kk : W p l e R s m args below meth c H locs cells slots Q (F0 m (pc + 3) ls (.int (nI (n_dp N i)) :: rest))) : W p l e R s m args below meth c H locs cells slots Q (F0 m pc ls (.ref (n_ad N i) :: rest)) := by
  by_cases hk : n_kd N i = 3
  · exact fg_DL_127_Test hx hb hown hts hE ((hN i hi).1 hk) rfl hdg kk
  · exact fg_DL_127_Joined hx hb hown hts hE ((hN i hi).2 hk).1 rfl hdg kk
end ND
set_option maxHeartbeats 4000000 in
set_option maxRecDepth 100000 in
theorem c_DL_test (l : Launch) (D : va_G) (cA : Nat → ClassId) (N : n_T) (o : Nat) (X : d_T) (made sz : Nat) (hok : n_ok made N) (hhi : n_hi o made N) (hdo : d_ok made X) (hsz : o + 75 ≤ sz) (op ky : Int32) (t : Int64) (mk : Int32) : Met l y_DL_test [.code y_DL_test b_DL_test 6 (some .int)] (x_rm 3 1 5) (x_P D cA [.ref o, .int op, .int ky, .long t, .int mk] (fun H => H.size = sz ∧ d_W D cA N o X H ∧ n_W D cA made N H)) (x_Q (some (.int (q_test X op ky mk))) (fun H H1 => x_G (d_A o) H H1 ∧ d_W D cA (z_testN made N X op ky t mk sz) o (z_testX made X op ky mk) H1 ∧ n_W D cA (z_testM made X op ky mk) (z_testN made N X op ky t mk sz) H1)) 1 5 (x_AG (d_A o) sz) := by
  refine x_met (own := "DecisionLayers") (by decide) rfl (Nat.le_of_ble_eq_true rfl) ?_
  intro pp ee s mm below mt cd ls hx hb hr hlk hnm hml hown hts hE hP hl
  have hl : lv_has ls 6 [(0, .ref o), (1, .int op), (2, .int ky), (3, .long t), (5, .int mk)] := hl
  obtain ⟨hs9, hP1, hN⟩ := hP
  subst hs9
  have hF : ∀ q ∈ ([] : List Loc), x_AG (d_A o) s.heap.size q.base := t_nil
  obtain ⟨hO, hV, hC, hLa, hLy⟩ := id hP1
  obtain ⟨hn8, -⟩ := id hdo
  refine lv_iload_n hx hb d_DL_test_0 rfl (lv_at hl 1 rfl) ?_
  refine lv_if_lt (tgt := 29) hx hb d_DL_test_1 (by decide) (fun h1 => ?_) (fun h1 => ?_)
  · have hk : q_tok op ky mk = false := by unfold q_tok; rw [decide_eq_false (fun z => absurd h1 (Int32.not_lt.mpr z.1))]; rfl
    have hm : q_tmk X op ky mk = false := by unfold q_tmk; rw [hk]; rfl
    refine lv_bipush (v := (-2)) hx hb d_DL_test_29 (by decide) ?_
    refine x_topi (y := q_test X op ky mk) (by unfold q_test; rw [hk]; rfl) ?_
    refine W.widen (k := 1) (n := 5) (by decide) (by decide) ?_
    exact W.iret hx hb hr (fun t ht hW => ⟨rfl, by rw [ht]; unfold z_testN z_testX z_testM; rw [hm]; exact ⟨x_F.rf.G, hP1, hN⟩⟩) hF d_DL_test_31
  · refine lv_iload_n hx hb d_DL_test_4 rfl (lv_at hl 1 rfl) ?_
    refine lv_bipush (v := 8) hx hb d_DL_test_5 (by decide) ?_
    refine lv_icmp_ge (tgt := 29) hx hb d_DL_test_7 (by decide) (fun h2 => ?_) (fun h2 => ?_)
    · have hk : q_tok op ky mk = false := by unfold q_tok; rw [decide_eq_false (fun z => absurd h2 (Int32.not_le.mpr z.2))]; rfl
      have hm : q_tmk X op ky mk = false := by unfold q_tmk; rw [hk]; rfl
      refine lv_bipush (v := (-2)) hx hb d_DL_test_29 (by decide) ?_
      refine x_topi (y := q_test X op ky mk) (by unfold q_test; rw [hk]; rfl) ?_
      refine W.widen (k := 1) (n := 5) (by decide) (by decide) ?_
      exact W.iret hx hb hr (fun t ht hW => ⟨rfl, by rw [ht]; unfold z_testN z_testX z_testM; rw [hm]; exact ⟨x_F.rf.G, hP1, hN⟩⟩) hF d_DL_test_31
    · refine lv_iload_n hx hb d_DL_test_10 rfl (lv_at hl 2 rfl) ?_
      refine x_cp (k_DL_36 (As := [.int ky]) (rest := []) hx hb hml hown hts (c_Values_isKey l D cA ky) (x_preS hE trivial) rfl hl.1 rfl (Nat.le_of_ble_eq_true rfl) d_DL_test_11 (by decide) ⟨Nat.zero_le _, Nat.zero_le _⟩) ?_
      refine x_topi (y := bI (q_key ky)) rfl ?_
      refine lv_if_eq (tgt := 29) hx hb d_DL_test_14 (by decide) (fun h3 => ?_) (fun h3 => ?_)
      · have hk : q_tok op ky mk = false := by unfold q_tok; rw [bI_0.mp h3]; simp
        have hm : q_tmk X op ky mk = false := by unfold q_tmk; rw [hk]; rfl
        refine lv_bipush (v := (-2)) hx hb d_DL_test_29 (by decide) ?_
        refine x_topi (y := q_test X op ky mk) (by unfold q_test; rw [hk]; rfl) ?_
        refine W.widen (k := 1) (n := 5) (by decide) (by decide) ?_
        exact W.iret hx hb hr (fun t ht hW => ⟨rfl, by rw [ht]; unfold z_testN z_testX z_testM; rw [hm]; exact ⟨x_F.rf.G, hP1, hN⟩⟩) hF d_DL_test_31
      · refine lv_iload hx hb d_DL_test_17 (lv_at hl 4 rfl) ?_
        refine lv_if_lt (tgt := 29) hx hb d_DL_test_19 (by decide) (fun h4 => ?_) (fun h4 => ?_)
        · have hk : q_tok op ky mk = false := by unfold q_tok; rw [show decide (0 ≤ mk ∧ mk ≤ 7) = false from decide_eq_false (fun z => absurd h4 (Int32.not_lt.mpr z.1))]; simp
          have hm : q_tmk X op ky mk = false := by unfold q_tmk; rw [hk]; rfl
          refine lv_bipush (v := (-2)) hx hb d_DL_test_29 (by decide) ?_
          refine x_topi (y := q_test X op ky mk) (by unfold q_test; rw [hk]; rfl) ?_
          refine W.widen (k := 1) (n := 5) (by decide) (by decide) ?_
          exact W.iret hx hb hr (fun t ht hW => ⟨rfl, by rw [ht]; unfold z_testN z_testX z_testM; rw [hm]; exact ⟨x_F.rf.G, hP1, hN⟩⟩) hF d_DL_test_31
        · refine lv_iload hx hb d_DL_test_22 (lv_at hl 4 rfl) ?_
          refine lv_bipush (v := 7) hx hb d_DL_test_24 (by decide) ?_
          refine lv_icmp_le (tgt := 32) hx hb d_DL_test_26 (by decide) (fun h5 => ?_) (fun h5 => ?_)
          · have hk : q_tok op ky mk = true := by unfold q_tok; rw [decide_eq_true ⟨Int32.not_lt.mp h1, Int32.not_le.mp h2⟩, bI_n0.mp h3, decide_eq_true ⟨Int32.not_lt.mp h4, h5⟩]; rfl
            refine lv_aload_n hx hb d_DL_test_32 rfl (lv_at hl 0 rfl) ?_
            refine fg_DL_29_DL hx hb hown hts hE hO rfl d_DL_test_33 ?_
            refine lv_bipush (v := 8) hx hb d_DL_test_36 (by decide) ?_
            refine lv_icmp_lt (tgt := 44) hx hb d_DL_test_38 (by decide) (fun h6 => ?_) (fun h6 => ?_)
            · have h6 := n_gt (i := 8) h6 (by omega) (by decide)
              have hm : q_tmk X op ky mk = true := by unfold q_tmk; rw [hk, decide_eq_true h6]; rfl
              have e1 : nI op.toNatClampNeg = op := by obtain ⟨j, hj, rfl⟩ := nI_of h1; rw [nI_clamp hj]
              have e2 : nI ky.toNatClampNeg = ky := by obtain ⟨j, hj, rfl⟩ := q_key_in (bI_n0.mp h3); rw [nI_clamp (by omega)]
              have e3 : nI mk.toNatClampNeg = mk := by obtain ⟨j, hj, rfl⟩ := nI_of h4; rw [nI_clamp hj]
              refine lv_aload_n hx hb d_DL_test_44 rfl (lv_at hl 0 rfl) ?_
              refine x_new (ci := 3) (fs := [.int 0, .int 0, .int 0, .long 0, .int 0]) hx hb hts in_Test t_Test t_Test_ok hown (hts _ w_1_106) (hts _ w_1_107) (hts _ w_1_7) hE.2.2 rfl (fun j hj => by rcases (show j = 0 ∨ j = 1 ∨ j = 2 ∨ j = 3 ∨ j = 4 by omega) with rfl | rfl | rfl | rfl | rfl <;> rfl) (Nat.le_of_ble_eq_true rfl) (Nat.le_of_ble_eq_true rfl) d_DL_test_45 (fun H1 g1 n1 => ?_)
              refine lv_dup hx hb d_DL_test_48 rfl ?_
              refine lv_iload_n hx hb d_DL_test_49 rfl (lv_at hl 1 rfl) ?_
              refine lv_iload_n hx hb d_DL_test_50 rfl (lv_at hl 2 rfl) ?_
              refine lv_lload_n hx hb d_DL_test_51 rfl (lv_at hl 3 rfl) ?_
              refine lv_iload hx hb d_DL_test_52 (lv_at hl 4 rfl) ?_
              refine x_cv (k_DL_42 (As := [.int op, .int ky, .long t, .int mk]) (rest := [.ref s.heap.size, .ref o]) hx hb hml hown hts (c_Test_init l D cA s.heap.size op ky t mk) (x_preS hE g1) rfl hl.1 rfl (Nat.le_of_ble_eq_true rfl) d_DL_test_54 (by decide) ⟨Nat.le_of_ble_eq_true rfl, Nat.le_of_ble_eq_true rfl⟩) (fun H2 L2 p2 f2 => ?_)
              have hF := t_lL hF (fun q h => (show ∀ q : Nat, x_A [s.heap.size] q → x_AG (d_A o) s.heap.size q from fun q h => x_AGr (by rw [x_A1.mp h]; omega)) q.base (f2 q h))
              obtain ⟨f9, g2⟩ := p2
              have hG2 : x_G (d_A o) s.heap H2 := n1.G.new f9 (fun q h => by rw [x_A1.mp h]; omega)
              have hN2 := (hN.kG hG2 hhi).ext (kd := 3) (op := op.toNatClampNeg) (ky := ky.toNatClampNeg) (tt := t) (mk := mk.toNatClampNeg) (dp := 1) (ch := []) (ad := s.heap.size) hok (fun _ => by rw [e1, e2, e3]; exact g2) (fun c hc => by cases hc) (fun z => absurd rfl z)
              have hd2 : d_W D cA N o X H2 := hP1.kept (fun q a b => (f9.2 q (by rw [x_A1]; omega)).trans (n1.2 q (by omega)))
              generalize hNe : n_ext N made 3 op.toNatClampNeg ky.toNatClampNeg t mk.toNatClampNeg 1 [] s.heap.size = N1 at hN2
              have ha1 : n_ad N1 made = s.heap.size := by rw [← hNe]; exact n_ext_n.2.2.2.2.2.2.2
              have hao : ∀ i, i < made → n_ad N1 i = n_ad N i := fun i hi => by rw [← hNe]; exact (n_ext_o (by omega)).2.2.2.2.2.2.2
              have hko : ∀ i, i < made → n_kd N1 i = n_kd N i := fun i hi => by rw [← hNe]; exact (n_ext_o (by omega)).1
              have hkn : n_kd N1 made = 3 := by rw [← hNe]; exact n_ext_n.1
              have hd2 := hd2.ext hdo hao
              have hhi1 : n_hi o (made + 1) N1 := fun i hi => by
                by_cases e : i = made
                · subst e; rw [ha1]; exact ⟨by omega, fun z => absurd hkn z⟩
                · rw [hao i (by omega), hko i (by omega)]; exact hhi i (by omega)
              refine x_topv (y := .ref (n_ad N1 made)) (by rw [ha1]) ?_
              refine x_cw (k_DL_45 (As := [.ref (n_ad N1 made)]) (rest := []) hx hb hml hown hts (c_DL_push l D cA N1 o X (made + 1) made (by omega) h6) (x_preV hE hd2.1 rfl rfl ⟨hd2, hN2⟩) rfl hl.1 rfl (Nat.le_of_ble_eq_true rfl) d_DL_test_57 (by decide) ⟨Nat.le_of_ble_eq_true rfl, Nat.le_of_ble_eq_true rfl⟩) (fun H3 L3 p3 f3 => ?_)
              have hF := t_lL hF (fun q h => (show ∀ q : Nat, x_A [o, o + 4] q → x_AG (d_A o) s.heap.size q from fun q h => x_AGl (by have := x_A2.mp h; exact d_A_in (by omega) (by omega))) q.base (f3 q h))
              have hF3 : x_F (d_A o) H2 H3 := p3.1.mono (fun q h => by have := x_A2.mp h; exact d_A_in (by omega) (by omega))
              refine x_topi (y := q_test X op ky mk) (by unfold q_test; rw [hk, if_pos rfl, if_neg (by omega)]) ?_
              exact W.iret hx hb hr (fun t ht hW => ⟨rfl, by rw [ht]; unfold z_testN z_testX z_testM; rw [hm, if_pos rfl, if_pos rfl, if_pos rfl, hNe]; exact ⟨hG2.trans hF3.G, p3.2, hN2.kF hF3 hhi1.out⟩⟩) hF d_DL_test_60
            · have h6 := n_le (i := 8) h6 (by omega) (by decide)
              have hm : q_tmk X op ky mk = false := by unfold q_tmk; rw [decide_eq_false (by omega)]; simp
              refine lv_bipush (v := (-3)) hx hb d_DL_test_41 (by decide) ?_
              refine x_topi (y := q_test X op ky mk) (by unfold q_test; rw [hk, if_pos rfl, if_pos h6]) ?_
              refine W.widen (k := 1) (n := 5) (by decide) (by decide) ?_
              exact W.iret hx hb hr (fun t ht hW => ⟨rfl, by rw [ht]; unfold z_testN z_testX z_testM; rw [hm]; exact ⟨x_F.rf.G, hP1, hN⟩⟩) hF d_DL_test_43
          · have hk : q_tok op ky mk = false := by unfold q_tok; rw [show decide (0 ≤ mk ∧ mk ≤ 7) = false from decide_eq_false (fun z => h5 z.2)]; simp
            have hm : q_tmk X op ky mk = false := by unfold q_tmk; rw [hk]; rfl
            refine lv_bipush (v := (-2)) hx hb d_DL_test_29 (by decide) ?_
            refine x_topi (y := q_test X op ky mk) (by unfold q_test; rw [hk]; rfl) ?_
            refine W.widen (k := 1) (n := 5) (by decide) (by decide) ?_
            exact W.iret hx hb hr (fun t ht hW => ⟨rfl, by rw [ht]; unfold z_testN z_testX z_testM; rw [hm]; exact ⟨x_F.rf.G, hP1, hN⟩⟩) hF d_DL_test_31
set_option maxHeartbeats 4000000 in
set_option maxRecDepth 100000 in
theorem c_DL_greatest (l : Launch) (D : va_G) (cA : Nat → ClassId) (N : n_T) (o : Nat) (X : d_T) (made n : Nat) (hok : n_ok made N) (hdo : d_ok made X) (hn : n ≤ d_n X) : Met l y_DL_greatestDepthOfTopmost [.code y_DL_greatestDepthOfTopmost b_DL_greatestDepthOfTopmost 5 (some .int)] (x_rm 1 0 0) (x_P D cA [.ref o, .int (nI n)] (fun H => d_W D cA N o X H ∧ n_W D cA made N H)) (x_Q (some (.int (nI (d_mx (fun k => n_dp N (d_p X k)) (d_n X - n) n)))) (x_same)) 0 0 (fun _ => False) := by
  refine x_met (own := "DecisionLayers") (by decide) rfl (Nat.le_of_ble_eq_true rfl) ?_
  intro pp ee s mm below mt cd ls hx hb hr hlk hnm hml hown hts hE hP hl
  have hl : lv_has ls 5 [(0, .ref o), (1, .int (nI n))] := hl
  obtain ⟨hP1, hN⟩ := hP
  obtain ⟨hO, hV, hC, hLa, hLy⟩ := id hP1
  obtain ⟨hn8, hpm, -⟩ := id hdo
  obtain ⟨a, ha⟩ : ∃ a, d_n X - n = a := ⟨_, rfl⟩
  rw [ha]
  refine lv_iconst (v := 0) hx hb d_DL_greatestDepthOfTopmost_0 (by decide) ?_
  refine lv_istore_n (lv' := [(2, .int 0), (0, .ref o), (1, .int (nI n))]) hx hb d_DL_greatestDepthOfTopmost_1 rfl hl (by decide) rfl (fun ls hl => ?_)
  refine lv_aload_n hx hb d_DL_greatestDepthOfTopmost_2 rfl (lv_at hl 1 rfl) ?_
  refine fg_DL_29_DL hx hb hown hts hE hO rfl d_DL_greatestDepthOfTopmost_3 ?_
  refine lv_iload_n hx hb d_DL_greatestDepthOfTopmost_6 rfl (lv_at hl 2 rfl) ?_
  refine lv_isub hx hb d_DL_greatestDepthOfTopmost_7 ?_
  refine x_topi (y := nI a) (by rw [pk_sub hn, ha]) ?_
  refine lv_istore_n (lv' := [(3, .int (nI a)), (2, .int 0), (0, .ref o), (1, .int (nI n))]) hx hb d_DL_greatestDepthOfTopmost_8 rfl hl (by decide) rfl (fun ls hl => ?_)
  refine x_loop (I := fun r ls => ∃ j, j + r = n ∧ lv_has ls 5 [(3, .int (nI (a + j))), (2, .int (nI (d_mx (fun k => n_dp N (d_p X k)) a j))), (0, .ref o), (1, .int (nI n))]) (fun r ls ih h => ?_) (n) ⟨0, by omega, (lv_sub hl [0, 1, 2, 3] rfl)⟩
  obtain ⟨j, hj, hl⟩ := h
  refine lv_iload_n hx hb d_DL_greatestDepthOfTopmost_9 rfl (lv_at hl 0 rfl) ?_
  refine lv_aload_n hx hb d_DL_greatestDepthOfTopmost_10 rfl (lv_at hl 2 rfl) ?_
  refine fg_DL_29_DL hx hb hown hts hE hO rfl d_DL_greatestDepthOfTopmost_11 ?_
  refine lv_icmp_ge (tgt := 46) hx hb d_DL_greatestDepthOfTopmost_14 (by decide) (fun g1 => ?_) (fun g1 => ?_)
  · have g1 := n_ge g1 (by omega) (by omega)
    refine lv_iload_n hx hb d_DL_greatestDepthOfTopmost_46 rfl (lv_at hl 1 rfl) ?_
    refine x_topi (y := nI (d_mx (fun k => n_dp N (d_p X k)) a n)) (by rw [show j = n by omega]) ?_
    exact W.iret hx hb hr (fun t ht hW => ⟨rfl, ht⟩) (fun q h => by cases h) d_DL_greatestDepthOfTopmost_47
  · have g1 := n_lt g1 (by omega) (by omega)
    have him := hpm (a + j) g1
    have hd5 := (hok _ him).2.2.1
    have hmx : d_mx (fun k => n_dp N (d_p X k)) a j ≤ 5 := d_mx_le (fun k hk => (hok _ (hpm (a + k) (by omega))).2.2.1)
    refine lv_aload_n hx hb d_DL_greatestDepthOfTopmost_17 rfl (lv_at hl 2 rfl) ?_
    refine fg_DL_18_DL hx hb hown hts hE hO rfl d_DL_greatestDepthOfTopmost_18 ?_
    refine lv_iload_n hx hb d_DL_greatestDepthOfTopmost_21 rfl (lv_at hl 0 rfl) ?_
    refine x_aald hx hb hE.2.2 hC 4 rfl (by omega) (by decide) d_DL_greatestDepthOfTopmost_22 ?_
    refine x_topv (y := .ref (n_ad N (d_p X (a + j)))) (by unfold d_pc; rw [if_pos g1]; rfl) ?_
    refine lv_astore (lv' := [(4, .ref (n_ad N (d_p X (a + j)))), (3, .int (nI (a + j))), (2, .int (nI (d_mx (fun k => n_dp N (d_p X k)) a j))), (0, .ref o), (1, .int (nI n))]) hx hb d_DL_greatestDepthOfTopmost_23 hl (by decide) rfl (fun ls hl => ?_)
    refine lv_aload hx hb d_DL_greatestDepthOfTopmost_25 (lv_at hl 0 rfl) ?_
    refine lv_ifnull hx hb d_DL_greatestDepthOfTopmost_27 ?_
    refine lv_iload_n hx hb d_DL_greatestDepthOfTopmost_30 rfl (lv_at hl 2 rfl) ?_
    refine lv_aload hx hb d_DL_greatestDepthOfTopmost_31 (lv_at hl 0 rfl) ?_
    refine n_dep hx hb hown hts hE hN him d_DL_greatestDepthOfTopmost_33 ?_
    refine va_mmax hx hb (by rw [hml]; exact hl.1.symm) hown (hts _ w_1_144) (hts _ w_1_145) (hts _ w_1_8) (hts _ w_1_146) (Nat.le_refl _) (Nat.le_of_ble_eq_true rfl) (Nat.zero_le _) (Nat.zero_le _) d_DL_greatestDepthOfTopmost_36 ?_
    refine x_topi (y := nI (d_mx (fun k => n_dp N (d_p X k)) a (j + 1))) (x_max (by omega) (by omega)) ?_
    refine lv_istore_n (lv' := [(2, .int (nI (d_mx (fun k => n_dp N (d_p X k)) a (j + 1)))), (4, .ref (n_ad N (d_p X (a + j)))), (3, .int (nI (a + j))), (0, .ref o), (1, .int (nI n))]) hx hb d_DL_greatestDepthOfTopmost_39 rfl hl (by decide) rfl (fun ls hl => ?_)
    refine lv_iinc (k := 2) (v := nI ((a + j) + 1)) (lv' := [(3, .int (nI ((a + j) + 1))), (2, .int (nI (d_mx (fun k => n_dp N (d_p X k)) a (j + 1)))), (4, .ref (n_ad N (d_p X (a + j)))), (0, .ref o), (1, .int (nI n))]) hx hb d_DL_greatestDepthOfTopmost_40 hl rfl (x_inc _) (by decide) rfl (fun ls hl => ?_)
    refine lv_goto (tgt := 9) hx hb d_DL_greatestDepthOfTopmost_43 (by decide) ?_
    exact ih (r - 1) _ (by omega) ⟨j + 1, by omega, (lv_sub hl [0, 1, 3, 4] rfl)⟩
end
section
/-! joining -/
def q_jok (X : d_T) (k n : Int32) : Bool := decide (0 ≤ k ∧ k ≤ 2) && decide (0 ≤ n ∧ n ≤ nI (d_n X)) && !(decide (k = 2) && decide (¬ n = 1))
def q_jf (X : d_T) (n : Int32) : Bool := decide (n = 0) && decide (8 ≤ d_n X)
def q_jd (N : n_T) (X : d_T) (n : Nat) : Nat := 1 + d_mx (fun k => n_dp N (d_p X k)) (d_n X - n) n
def q_jmk (N : n_T) (X : d_T) (k n : Int32) : Bool := q_jok X k n && !q_jf X n && decide (q_jd N X n.toNatClampNeg ≤ 5)
def q_join (N : n_T) (X : d_T) (k n : Int32) : Int32 := if q_jok X k n then (if q_jf X n then -3 else if q_jd N X n.toNatClampNeg ≤ 5 then nI (d_n X - n.toNatClampNeg + 1) else -4) else -2
def q_jch (X : d_T) (n : Nat) : List Nat := (List.range n).map (fun j => d_p X (d_n X - n + j))
def z_joinN (made : Nat) (N : n_T) (X : d_T) (k n : Int32) (a : Nat) : n_T := if q_jmk N X k n then n_ext N made k.toNatClampNeg 0 0 0 0 (q_jd N X n.toNatClampNeg) (q_jch X n.toNatClampNeg) (a + 1) else N
def z_joinX (made : Nat) (N : n_T) (X : d_T) (k n : Int32) : d_T := if q_jmk N X k n then d_push (d_setN X (d_n X - n.toNatClampNeg)) made else X
def z_joinM (made : Nat) (N : n_T) (X : d_T) (k n : Int32) : Nat := if q_jmk N X k n then made + 1 else made
theorem x_dec2 (r : Nat) : nI (r + 1) - 1 + Int32.ofInt (-1) = nI r - 1 := by
  rw [nI_pred, Int32.sub_eq_add_neg]
  rfl
theorem q_jch_len (X : d_T) (n : Nat) : (q_jch X n).length = n := by unfold q_jch; simp
theorem q_jch_at {X : d_T} {n j : Nat} (h : j < n) : (q_jch X n)[j]? = some (d_p X (d_n X - n + j)) := by
  unfold q_jch
  rw [List.getElem?_map, List.getElem?_range h]
  rfl
theorem q_jch_in {X : d_T} {n c : Nat} (h : c ∈ q_jch X n) : ∃ j, j < n ∧ c = d_p X (d_n X - n + j) := by
  unfold q_jch at h
  obtain ⟨j, hj, e⟩ := List.mem_map.mp h
  exact ⟨j, List.mem_range.mp hj, e.symm⟩
theorem d_ok.setN {made : Nat} {X : d_T} (h : d_ok made X) {n : Nat} (hn : n ≤ d_n X) : d_ok made (d_setN X n) := ⟨Nat.le_trans hn h.1, fun k hk => h.2.1 k (Nat.lt_of_lt_of_le hk hn), h.2.2⟩
set_option maxHeartbeats 4000000 in
set_option maxRecDepth 100000 in
theorem c_DL_join (l : Launch) (D : va_G) (cA : Nat → ClassId) (N : n_T) (o : Nat) (X : d_T) (made sz : Nat) (hok : n_ok made N) (hhi : n_hi o made N) (hdo : d_ok made X) (hsz : o + 75 ≤ sz) (k n : Int32) : Met l y_DL_join [.code y_DL_join b_DL_join 6 (some .int)] (x_rm 3 2 11) (x_P D cA [.ref o, .int k, .int n] (fun H => H.size = sz ∧ d_W D cA N o X H ∧ n_W D cA made N H)) (x_Q (some (.int (q_join N X k n))) (fun H H1 => x_G (d_A o) H H1 ∧ d_W D cA (z_joinN made N X k n sz) o (z_joinX made N X k n) H1 ∧ n_W D cA (z_joinM made N X k n) (z_joinN made N X k n sz) H1)) 2 11 (x_AG (d_A o) sz) := by
  refine x_met (own := "DecisionLayers") (by decide) rfl (Nat.le_of_ble_eq_true rfl) ?_
  intro pp ee s mm below mt cd ls hx hb hr hlk hnm hml hown hts hE hP hl
  have hl : lv_has ls 6 [(0, .ref o), (1, .int k), (2, .int n)] := hl
  obtain ⟨hs9, hP1, hN⟩ := hP
  subst hs9
  have hF : ∀ q ∈ ([] : List Loc), x_AG (d_A o) s.heap.size q.base := t_nil
  obtain ⟨hO, hV, hC, hLa, hLy⟩ := id hP1
  obtain ⟨hn8, hpm, -⟩ := id hdo
  refine lv_iload_n hx hb d_DL_join_0 rfl (lv_at hl 1 rfl) ?_
  refine lv_if_lt (tgt := 21) hx hb d_DL_join_1 (by decide) (fun h1 => ?_) (fun h1 => ?_)
  · have hk : q_jok X k n = false := by unfold q_jok; rw [decide_eq_false (fun z => absurd h1 (Int32.not_lt.mpr z.1))]; rfl
    have hm : q_jmk N X k n = false := by unfold q_jmk; rw [hk]; rfl
    refine lv_bipush (v := (-2)) hx hb d_DL_join_21 (by decide) ?_
    refine x_topi (y := q_join N X k n) (by unfold q_join; rw [hk]; rfl) ?_
    refine W.widen (k := 2) (n := 11) (by decide) (by decide) ?_
    exact W.iret hx hb hr (fun t ht hW => ⟨rfl, by rw [ht]; unfold z_joinN z_joinX z_joinM; rw [hm]; exact ⟨x_F.rf.G, hP1, hN⟩⟩) hF d_DL_join_23
  · refine lv_iload_n hx hb d_DL_join_4 rfl (lv_at hl 1 rfl) ?_
    refine lv_iconst (v := 2) hx hb d_DL_join_5 (by decide) ?_
    refine lv_icmp_gt (tgt := 21) hx hb d_DL_join_6 (by decide) (fun h2 => ?_) (fun h2 => ?_)
    · have hk : q_jok X k n = false := by unfold q_jok; rw [decide_eq_false (fun z => absurd h2 (Int32.not_lt.mpr z.2))]; rfl
      have hm : q_jmk N X k n = false := by unfold q_jmk; rw [hk]; rfl
      refine lv_bipush (v := (-2)) hx hb d_DL_join_21 (by decide) ?_
      refine x_topi (y := q_join N X k n) (by unfold q_join; rw [hk]; rfl) ?_
      refine W.widen (k := 2) (n := 11) (by decide) (by decide) ?_
      exact W.iret hx hb hr (fun t ht hW => ⟨rfl, by rw [ht]; unfold z_joinN z_joinX z_joinM; rw [hm]; exact ⟨x_F.rf.G, hP1, hN⟩⟩) hF d_DL_join_23
    · refine lv_iload_n hx hb d_DL_join_9 rfl (lv_at hl 2 rfl) ?_
      refine lv_if_lt (tgt := 21) hx hb d_DL_join_10 (by decide) (fun h3 => ?_) (fun h3 => ?_)
      · have hk : q_jok X k n = false := by unfold q_jok; rw [show decide (0 ≤ n ∧ n ≤ nI (d_n X)) = false from decide_eq_false (fun z => absurd h3 (Int32.not_lt.mpr z.1))]; simp
        have hm : q_jmk N X k n = false := by unfold q_jmk; rw [hk]; rfl
        refine lv_bipush (v := (-2)) hx hb d_DL_join_21 (by decide) ?_
        refine x_topi (y := q_join N X k n) (by unfold q_join; rw [hk]; rfl) ?_
        refine W.widen (k := 2) (n := 11) (by decide) (by decide) ?_
        exact W.iret hx hb hr (fun t ht hW => ⟨rfl, by rw [ht]; unfold z_joinN z_joinX z_joinM; rw [hm]; exact ⟨x_F.rf.G, hP1, hN⟩⟩) hF d_DL_join_23
      · refine lv_iload_n hx hb d_DL_join_13 rfl (lv_at hl 2 rfl) ?_
        refine lv_aload_n hx hb d_DL_join_14 rfl (lv_at hl 0 rfl) ?_
        refine fg_DL_29_DL hx hb hown hts hE hO rfl d_DL_join_15 ?_
        refine lv_icmp_le (tgt := 24) hx hb d_DL_join_18 (by decide) (fun h4 => ?_) (fun h4 => ?_)
        · have hd1 : decide (0 ≤ k ∧ k ≤ 2) = true := decide_eq_true ⟨Int32.not_lt.mp h1, Int32.not_lt.mp h2⟩
          have hd2 : decide (0 ≤ n ∧ n ≤ nI (d_n X)) = true := decide_eq_true ⟨Int32.not_lt.mp h3, h4⟩
          refine x_join 37 (fun ls st => lv_has ls 6 [(0, .ref o), (1, .int k), (2, .int n)] ∧ st = [] ∧ (decide (k = 2) && decide (¬ n = 1)) = false) ?_ (fun hj => ?_)
          · intro ls st hj
            obtain ⟨hl, rfl, h37⟩ := hj
            have hk : q_jok X k n = true := by unfold q_jok; rw [hd1, hd2, h37]; rfl
            refine x_join 53 (fun ls st => lv_has ls 6 [(0, .ref o), (1, .int k), (2, .int n)] ∧ st = [] ∧ q_jf X n = false) ?_ (fun hj => ?_)
            · intro ls st hj
              obtain ⟨hl, rfl, h53⟩ := hj
              obtain ⟨kk, hkk, rfl⟩ := nI_of h1
              obtain ⟨nn, hnn, rfl⟩ := nI_of h3
              have hkk : kk ≤ 2 := n_le (i := kk) (k := 2) h2 (by decide) hkk
              have hnn : nn ≤ d_n X := n_ge h4 hnn (by omega)
              have hck : (nI kk).toNatClampNeg = kk := nI_clamp (by omega)
              have hcn : (nI nn).toNatClampNeg = nn := nI_clamp (by omega)
              have hmx : d_mx (fun k => n_dp N (d_p X k)) (d_n X - nn) nn ≤ 5 := d_mx_le (fun k hk => (hok _ (hpm _ (by omega))).2.2.1)
              have hjd : q_jd N X nn = 1 + d_mx (fun k => n_dp N (d_p X k)) (d_n X - nn) nn := rfl
              refine lv_iconst (v := 1) hx hb d_DL_join_53 (by decide) ?_
              refine lv_aload_n hx hb d_DL_join_54 rfl (lv_at hl 0 rfl) ?_
              refine lv_iload_n hx hb d_DL_join_55 rfl (lv_at hl 2 rfl) ?_
              refine x_cp (k_DL_51 (As := [.int (nI nn)]) (rest := [.int 1]) hx hb hml hown hts (c_DL_greatest l D cA N o X made nn hok hdo hnn) (x_preV hE hO rfl rfl ⟨hP1, hN⟩) rfl hl.1 rfl (Nat.le_of_ble_eq_true rfl) d_DL_join_56 (by decide) ⟨Nat.zero_le _, Nat.zero_le _⟩) ?_
              refine lv_iadd hx hb d_DL_join_59 ?_
              refine x_topi (y := nI (q_jd N X nn)) (by rw [show (1 : Int32) = nI 1 from rfl, nI_add]; rfl) ?_
              refine lv_istore_n (lv' := [(3, .int (nI (q_jd N X nn))), (0, .ref o), (1, .int (nI kk)), (2, .int (nI nn))]) hx hb d_DL_join_60 rfl hl (by decide) rfl (fun ls hl => ?_)
              refine lv_iload_n hx hb d_DL_join_61 rfl (lv_at hl 0 rfl) ?_
              refine lv_iconst (v := 5) hx hb d_DL_join_62 (by decide) ?_
              refine lv_icmp_le (tgt := 69) hx hb d_DL_join_63 (by decide) (fun h5 => ?_) (fun h5 => ?_)
              · have h5 : q_jd N X nn ≤ 5 := (nI_leI (by omega) (by decide) : nI (q_jd N X nn) ≤ nI 5 ↔ _).mp h5
                have hm : q_jmk N X (nI kk) (nI nn) = true := by unfold q_jmk; rw [hk, h53, hcn, decide_eq_true h5]; rfl
                obtain ⟨a, ha⟩ : ∃ a, d_n X - nn = a := ⟨_, rfl⟩
                have ha8 : a < 8 := by
                  rcases Nat.eq_zero_or_pos nn with z | z
                  · subst z
                    have h9 : ¬ 8 ≤ d_n X := fun y => by unfold q_jf at h53; rw [decide_eq_true (show nI 0 = 0 from rfl), decide_eq_true y] at h53; cases h53
                    omega
                  · omega
                refine lv_iload_n hx hb d_DL_join_69 rfl (lv_at hl 3 rfl) ?_
                refine x_newq (N' := nn) hx hb hown (hts _ w_1_35) hE.2.1.2.2.2.2.2.2.1 hE.2.2 4 rfl (nI_pos (by omega)) hcn (by omega) (Nat.le_of_ble_eq_true rfl) (show 0 + nn ≤ 11 by omega) d_DL_join_70 (fun H1 g1 n1 => ?_)
                refine W.widen (k := 1) (n := 8) (by omega) (by omega) ?_
                refine lv_astore (lv' := [(4, .ref s.heap.size), (3, .int (nI (q_jd N X nn))), (0, .ref o), (1, .int (nI kk)), (2, .int (nI nn))]) hx hb d_DL_join_73 hl (by decide) rfl (fun ls hl => ?_)
                refine lv_iload_n hx hb d_DL_join_75 rfl (lv_at hl 4 rfl) ?_
                refine lv_iconst (v := 1) hx hb d_DL_join_76 (by decide) ?_
                refine lv_isub hx hb d_DL_join_77 ?_
                refine lv_istore (lv' := [(5, .int ((nI nn) - 1)), (4, .ref s.heap.size), (3, .int (nI (q_jd N X nn))), (0, .ref o), (1, .int (nI kk)), (2, .int (nI nn))]) hx hb d_DL_join_78 hl (by decide) rfl (fun ls hl => ?_)
                refine x_loopH (I := fun r ls H locs => r ≤ nn ∧ lv_has ls 6 [(5, .int (nI r - 1)), (4, .ref s.heap.size), (3, .int (nI (q_jd N X nn))), (0, .ref o), (1, .int (nI kk)), (2, .int (nI nn))] ∧ H.size = s.heap.size + 1 ∧ d_W D cA N o (d_setN X (a + r)) H ∧ va_at D x_cl (s.heap.size, .inl (cA 4, nn, .inr (.inr (.inr (.inr (fun j => if r ≤ j then some (n_ad N (d_p X (a + j))) else none)))))) H ∧ x_G (d_A o) s.heap H ∧ ∀ q ∈ locs, x_AG (d_A o) s.heap.size q.base) (fun r ls H locs ih h => ?_) (nn) ⟨Nat.le_refl _, (lv_sub hl [0, 1, 2, 3, 4, 5] rfl), n1.1, by rw [show a + nn = d_n X by omega]; exact hP1.kept (fun q a b => n1.2 q (by omega)), g1.refs (fun j hj => by rw [if_neg (by omega)]), n1.G, hF⟩
                obtain ⟨hrn, hl, hHs, hdw, hAr, hG, hF⟩ := h
                refine lv_iload hx hb d_DL_join_80 (lv_at hl 0 rfl) ?_
                refine lv_if_lt (tgt := 100) hx hb d_DL_join_82 (by decide) (fun c1 => ?_) (fun c1 => ?_)
                · obtain rfl : r = 0 := by
                    cases r with
                    | zero => rfl
                    | succ r1 => rw [nI_pred] at c1; exact absurd c1 (nI_pos (by omega))
                  refine lv_aload_n hx hb d_DL_join_100 rfl (lv_at hl 3 rfl) ?_
                  refine x_new (ci := 4) (fs := [.int 0, .int 0, .null]) hx hb hts in_Joined t_Joined t_Joined_ok hown (hts _ w_1_151) (hts _ w_1_152) (hts _ w_1_9) hE.2.2 rfl (fun j hj => by rcases (show j = 0 ∨ j = 1 ∨ j = 2 by omega) with rfl | rfl | rfl <;> rfl) (Nat.le_of_ble_eq_true rfl) (Nat.le_of_ble_eq_true rfl) d_DL_join_101 (fun H3 g3 n3 => ?_)
                  refine x_topv (y := .ref (s.heap.size + 1)) (by rw [hHs]) ?_
                  rw [hHs] at g3
                  refine lv_dup hx hb d_DL_join_104 rfl ?_
                  refine lv_iload_n hx hb d_DL_join_105 rfl (lv_at hl 4 rfl) ?_
                  refine lv_aload hx hb d_DL_join_106 (lv_at hl 1 rfl) ?_
                  refine lv_iload_n hx hb d_DL_join_108 rfl (lv_at hl 2 rfl) ?_
                  refine x_cv (k_DL_59 (As := [.int (nI kk), .ref s.heap.size, .int (nI (q_jd N X nn))]) (rest := [.ref (s.heap.size + 1), .ref o]) hx hb hml hown hts (c_Joined_init l D cA (s.heap.size + 1) (nI kk) s.heap.size (nI (q_jd N X nn))) (x_preS hE g3) rfl hl.1 rfl (Nat.le_of_ble_eq_true rfl) d_DL_join_109 (by decide) ⟨Nat.le_of_ble_eq_true rfl, Nat.le_of_ble_eq_true rfl⟩) (fun H4 L4 p4 f4 => ?_)
                  have hF := t_lL hF (fun q h => (show ∀ q : Nat, x_A [s.heap.size + 1] q → x_AG (d_A o) s.heap.size q from fun q h => x_AGr (by rw [x_A1.mp h]; omega)) q.base (f4 q h))
                  obtain ⟨f9, g4⟩ := p4
                  have hG4 : x_G (d_A o) s.heap H4 := (hG.trans n3.G).new f9 (fun q h => by rw [x_A1.mp h]; omega)
                  have hAr := (hAr.kn n3).kF f9 (by rw [x_A1]; show ¬ s.heap.size = s.heap.size + 1; omega)
                  have hd4 : d_W D cA N o (d_setN X a) H4 := hdw.kept (fun q a b => (f9.2 q (by rw [x_A1]; omega)).trans (n3.2 q (by omega)))
                  have hk3 : kk ≠ 3 := by omega
                  have hN4 := (hN.kG hG4 hhi).ext (kd := kk) (op := 0) (ky := 0) (tt := 0) (mk := 0) (dp := q_jd N X nn) (ch := q_jch X nn) (ad := s.heap.size + 1) hok (fun z => absurd z hk3) (fun c hc => by obtain ⟨j, hj, rfl⟩ := q_jch_in hc; exact hpm _ (by omega)) (fun _ => ⟨g4, by
                    rw [show s.heap.size + 1 - 1 = s.heap.size by omega, q_jch_len]
                    exact hAr.refs (fun j hj => by rw [if_pos (Nat.zero_le _), q_jch_at hj, ha]; rfl)⟩)
                  generalize hNe : n_ext N made kk 0 0 0 0 (q_jd N X nn) (q_jch X nn) (s.heap.size + 1) = N1 at hN4
                  have ha1 : n_ad N1 made = s.heap.size + 1 := by rw [← hNe]; exact n_ext_n.2.2.2.2.2.2.2
                  have hao : ∀ i, i < made → n_ad N1 i = n_ad N i := fun i hi => by rw [← hNe]; exact (n_ext_o (by omega)).2.2.2.2.2.2.2
                  have hko : ∀ i, i < made → n_kd N1 i = n_kd N i := fun i hi => by rw [← hNe]; exact (n_ext_o (by omega)).1
                  have hd4 := hd4.ext (hdo.setN (by omega)) hao
                  have hhi1 : n_hi o (made + 1) N1 := fun i hi => by
                    by_cases e : i = made
                    · subst e; rw [ha1]; exact ⟨by omega, fun z => by omega⟩
                    · rw [hao i (by omega), hko i (by omega)]; exact hhi i (by omega)
                  refine x_topv (y := .ref (n_ad N1 made)) (by rw [ha1]) ?_
                  refine x_cw (k_DL_45 (As := [.ref (n_ad N1 made)]) (rest := []) hx hb hml hown hts (c_DL_push l D cA N1 o (d_setN X a) (made + 1) made (by omega) ha8) (x_preV hE hd4.1 rfl rfl ⟨hd4, hN4⟩) rfl hl.1 rfl (Nat.le_of_ble_eq_true rfl) d_DL_join_112 (by decide) ⟨Nat.le_of_ble_eq_true rfl, Nat.le_of_ble_eq_true rfl⟩) (fun H5 L5 p5 f5 => ?_)
                  have hF := t_lL hF (fun q h => (show ∀ q : Nat, x_A [o, o + 4] q → x_AG (d_A o) s.heap.size q from fun q h => x_AGl (by have := x_A2.mp h; exact d_A_in (by omega) (by omega))) q.base (f5 q h))
                  have hF5 : x_F (d_A o) H4 H5 := p5.1.mono (fun q h => by have := x_A2.mp h; exact d_A_in (by omega) (by omega))
                  refine x_topi (y := q_join N X (nI kk) (nI nn)) (by unfold q_join; rw [hk, if_pos rfl, h53, if_neg (by decide), hcn, if_pos h5, ha]; rfl) ?_
                  exact W.iret hx hb hr (fun t ht hW => ⟨rfl, by rw [ht]; unfold z_joinN z_joinX z_joinM; rw [hm, if_pos rfl, if_pos rfl, if_pos rfl, hck, hcn, hNe, ha]; exact ⟨hG4.trans hF5.G, p5.2, hN4.kF hF5 hhi1.out⟩⟩) hF d_DL_join_115
                · obtain ⟨r1, rfl⟩ : ∃ r1, r = r1 + 1 := by
                    cases r with
                    | zero => exact absurd (by decide) c1
                    | succ r1 => exact ⟨r1, rfl⟩
                  refine lv_aload hx hb d_DL_join_85 (lv_at hl 1 rfl) ?_
                  refine lv_iload hx hb d_DL_join_87 (lv_at hl 0 rfl) ?_
                  refine x_topi (y := nI r1) (nI_pred r1) ?_
                  refine lv_aload_n hx hb d_DL_join_89 rfl (lv_at hl 3 rfl) ?_
                  refine x_cw (k_DL_55 (As := []) (rest := [.int (nI r1), .ref s.heap.size]) hx hb hml hown hts (c_DL_pop_S l D cA N o (d_setN X (a + (r1 + 1))) (a + r1) rfl (show a + (r1 + 1) ≤ 8 by omega)) (x_preV hE hdw.1 rfl rfl hdw) rfl hl.1 rfl (Nat.le_of_ble_eq_true rfl) d_DL_join_90 (by decide) ⟨Nat.le_of_ble_eq_true rfl, Nat.le_of_ble_eq_true rfl⟩) (fun H1 L1 p1 f1 => ?_)
                  have hF := t_lL hF (fun q h => (show ∀ q : Nat, x_A [o, o + 4] q → x_AG (d_A o) s.heap.size q from fun q h => x_AGl (by have := x_A2.mp h; exact d_A_in (by omega) (by omega))) q.base (f1 q h))
                  have hF1 : x_F (d_A o) H H1 := p1.1.mono (fun q h => by have := x_A2.mp h; exact d_A_in (by omega) (by omega))
                  have hG1 := hG.trans hF1.G
                  have hAr := hAr.kF p1.1 (fun z => by have := x_A2.mp z; omega)
                  refine x_aast hx hb hE.2.2 hAr 4 rfl ((hN.kG hG1 hhi).any hE (hpm _ (by omega))) (by omega) (by omega) d_DL_join_93 (fun H2 k2 g2 o2 => ?_)
                  have hF := t_lc (a := s.heap.size) (i := k2) hF (x_AGr (Nat.le_refl _))
                  refine lv_iinc (k := 0) (v := nI r1 - 1) (lv' := [(5, .int (nI r1 - 1)), (4, .ref s.heap.size), (3, .int (nI (q_jd N X nn))), (0, .ref o), (1, .int (nI kk)), (2, .int (nI nn))]) hx hb d_DL_join_94 hl rfl (x_dec2 r1) (by decide) rfl (fun ls hl => ?_)
                  refine lv_goto (tgt := 80) hx hb d_DL_join_97 (by decide) ?_
                  exact ih r1 _ _ _ (by omega) ⟨by omega, (lv_sub hl [0, 1, 2, 3, 4, 5] rfl), by rw [o2.1, hF1.1]; exact hHs, p1.2.kept (fun q a b => o2.2 q (by omega)), g2.refs (fun j hj => by
                    by_cases e : j = r1
                    · subst e; simp [va_up]
                    · by_cases h9 : r1 + 1 ≤ j
                      · simp [va_up, e, h9, show r1 ≤ j by omega]
                      · simp [va_up, e, h9, show ¬ r1 ≤ j by omega]), hG1.new (x_F.of1 (A := x_A [s.heap.size]) o2 (x_A1.mpr rfl)) (fun q h => by rw [x_A1.mp h]; exact Nat.le_refl _), hF⟩
              · have h5 : ¬ q_jd N X nn ≤ 5 := fun z => h5 ((nI_leI (by omega) (by decide) : nI (q_jd N X nn) ≤ nI 5 ↔ _).mpr z)
                have hm : q_jmk N X (nI kk) (nI nn) = false := by unfold q_jmk; rw [hcn, decide_eq_false h5]; simp
                refine lv_bipush (v := (-4)) hx hb d_DL_join_66 (by decide) ?_
                refine x_topi (y := q_join N X (nI kk) (nI nn)) (by unfold q_join; rw [hk, if_pos rfl, h53, if_neg (by decide), hcn, if_neg h5]) ?_
                refine W.widen (k := 2) (n := 11) (by decide) (by decide) ?_
                exact W.iret hx hb hr (fun t ht hW => ⟨rfl, by rw [ht]; unfold z_joinN z_joinX z_joinM; rw [hm]; exact ⟨x_F.rf.G, hP1, hN⟩⟩) hF d_DL_join_68
            · refine lv_iload_n hx hb d_DL_join_37 rfl (lv_at hl 2 rfl) ?_
              refine lv_if_ne (tgt := 53) hx hb d_DL_join_38 (by decide) (fun n0 => ?_) (fun n0 => ?_)
              · exact hj _ _ ⟨(lv_sub hl [0, 1, 2] rfl), rfl, by unfold q_jf; rw [decide_eq_false n0]; rfl⟩
              · refine lv_aload_n hx hb d_DL_join_41 rfl (lv_at hl 0 rfl) ?_
                refine fg_DL_29_DL hx hb hown hts hE hO rfl d_DL_join_42 ?_
                refine lv_bipush (v := 8) hx hb d_DL_join_45 (by decide) ?_
                refine lv_icmp_lt (tgt := 53) hx hb d_DL_join_47 (by decide) (fun p8 => ?_) (fun p8 => ?_)
                · exact hj _ _ ⟨(lv_sub hl [0, 1, 2] rfl), rfl, by unfold q_jf; rw [decide_eq_false (Nat.not_le.mpr (n_gt (i := 8) p8 (by omega) (by decide)))]; simp⟩
                · have hf : q_jf X n = true := by unfold q_jf; rw [decide_eq_true n0, decide_eq_true (n_le (i := 8) p8 (by omega) (by decide))]; rfl
                  have hm : q_jmk N X k n = false := by unfold q_jmk; rw [hf]; simp
                  refine lv_bipush (v := (-3)) hx hb d_DL_join_50 (by decide) ?_
                  refine x_topi (y := q_join N X k n) (by unfold q_join; rw [hk, if_pos rfl, hf, if_pos rfl]) ?_
                  refine W.widen (k := 2) (n := 11) (by decide) (by decide) ?_
                  exact W.iret hx hb hr (fun t ht hW => ⟨rfl, by rw [ht]; unfold z_joinN z_joinX z_joinM; rw [hm]; exact ⟨x_F.rf.G, hP1, hN⟩⟩) hF d_DL_join_52
          · refine lv_iload_n hx hb d_DL_join_24 rfl (lv_at hl 1 rfl) ?_
            refine lv_iconst (v := 2) hx hb d_DL_join_25 (by decide) ?_
            refine lv_icmp_ne (tgt := 37) hx hb d_DL_join_26 (by decide) (fun k2 => ?_) (fun k2 => ?_)
            · exact hj _ _ ⟨(lv_sub hl [0, 1, 2] rfl), rfl, by rw [decide_eq_false k2]; rfl⟩
            · refine lv_iload_n hx hb d_DL_join_29 rfl (lv_at hl 2 rfl) ?_
              refine lv_iconst (v := 1) hx hb d_DL_join_30 (by decide) ?_
              refine lv_icmp_eq (tgt := 37) hx hb d_DL_join_31 (by decide) (fun n1 => ?_) (fun n1 => ?_)
              · exact hj _ _ ⟨(lv_sub hl [0, 1, 2] rfl), rfl, by rw [show decide (¬ n = 1) = false from decide_eq_false (fun z => z n1)]; simp⟩
              · have hk : q_jok X k n = false := by unfold q_jok; rw [decide_eq_true k2, decide_eq_true (show ¬ n = 1 from n1)]; simp
                have hm : q_jmk N X k n = false := by unfold q_jmk; rw [hk]; rfl
                refine lv_bipush (v := (-2)) hx hb d_DL_join_34 (by decide) ?_
                refine x_topi (y := q_join N X k n) (by unfold q_join; rw [hk]; rfl) ?_
                refine W.widen (k := 2) (n := 11) (by decide) (by decide) ?_
                exact W.iret hx hb hr (fun t ht hW => ⟨rfl, by rw [ht]; unfold z_joinN z_joinX z_joinM; rw [hm]; exact ⟨x_F.rf.G, hP1, hN⟩⟩) hF d_DL_join_36
        · have hk : q_jok X k n = false := by unfold q_jok; rw [show decide (0 ≤ n ∧ n ≤ nI (d_n X)) = false from decide_eq_false (fun z => h4 z.2)]; simp
          have hm : q_jmk N X k n = false := by unfold q_jmk; rw [hk]; rfl
          refine lv_bipush (v := (-2)) hx hb d_DL_join_21 (by decide) ?_
          refine x_topi (y := q_join N X k n) (by unfold q_join; rw [hk]; rfl) ?_
          refine W.widen (k := 2) (n := 11) (by decide) (by decide) ?_
          exact W.iret hx hb hr (fun t ht hW => ⟨rfl, by rw [ht]; unfold z_joinN z_joinX z_joinM; rw [hm]; exact ⟨x_F.rf.G, hP1, hN⟩⟩) hF d_DL_join_23
end
section
/-! stating -/
def q_sok (l h w : Int32) : Bool := q_L l && decide (0 ≤ h ∧ h ≤ 15) && q_may l w
def q_sc (h : Int32) : Bool := decide (8 ≤ h)
def q_sb (X : d_T) (l h w : Int32) : Bool := q_sok l h w && !(q_sc h && decide (d_n X = 0))
def q_state (X : d_T) (l h w : Int32) : Int32 := if q_sb X l h w then (if 6 ≤ d_k X l.toNatClampNeg then -3 else nI (d_k X l.toNatClampNeg)) else -2
def q_smk (X : d_T) (l h w : Int32) : Bool := q_sb X l h w && decide (d_k X l.toNatClampNeg < 6)
def z_state (X : d_T) (l h : Int32) (a t : Int64) (w : Int32) : d_T := if q_smk X l h w then d_setL (if q_sc h then d_setN X (d_n X - 1) else X) l.toNatClampNeg (d_k X l.toNatClampNeg + 1) true (d_j X l.toNatClampNeg) (va_up (d_s X l.toNatClampNeg) (d_k X l.toNatClampNeg) (h.toNatClampNeg, a, t, w, if q_sc h then some (d_p X (d_n X - 1)) else none)) else X
theorem mk_8 : ∀ k, k < 16 → ((nI k &&& 8) = 0 ↔ ¬ (8 : Int32) ≤ nI k) := by decide +kernel
set_option maxHeartbeats 4000000 in
set_option maxRecDepth 100000 in
theorem c_DL_state (l : Launch) (D : va_G) (cA : Nat → ClassId) (N : n_T) (o : Nat) (X : d_T) (made : Nat) (hdo : d_ok made X) (k h : Int32) (a t : Int64) (w : Int32) : Met l y_DL_state [.code y_DL_state b_DL_state 10 (some .int)] (x_rm 2 0 0) (x_P D cA [.ref o, .int k, .int h, .long a, .long t, .int w] (fun H => d_W D cA N o X H)) (x_Q (some (.int (q_state X k h w))) (fun H H1 => x_F (d_A o) H H1 ∧ d_W D cA N o (z_state X k h a t w) H1)) 0 0 (d_A o) := by
  refine x_met (own := "DecisionLayers") (by decide) rfl (Nat.le_of_ble_eq_true rfl) ?_
  intro pp ee s mm below mt cd ls hx hb hr hlk hnm hml hown hts hE hP hl
  have hl : lv_has ls 10 [(0, .ref o), (1, .int k), (2, .int h), (3, .long a), (5, .long t), (7, .int w)] := hl
  have hF : ∀ q ∈ ([] : List Loc), d_A o q.base := t_nil
  obtain ⟨hO, hV, hC, hLa, hLy⟩ := id hP
  obtain ⟨hn8, hpm, -, hlk9, -⟩ := id hdo
  refine lv_iload_n hx hb d_DL_state_0 rfl (lv_at hl 1 rfl) ?_
  refine x_cp (k_DL_62 (As := [.int k]) (rest := []) hx hb hml hown hts (c_DL_isLayer l D cA k) (x_preS hE trivial) rfl hl.1 rfl (Nat.le_of_ble_eq_true rfl) d_DL_state_1 (by decide) ⟨Nat.zero_le _, Nat.zero_le _⟩) ?_
  refine lv_if_eq (tgt := 26) hx hb d_DL_state_4 (by decide) (fun h1 => ?_) (fun h1 => ?_)
  · have hb9 : q_sb X k h w = false := by unfold q_sb; rw [show q_sok k h w = false by unfold q_sok; rw [bI_0.mp h1]; rfl]; rfl
    have hm : q_smk X k h w = false := by unfold q_smk; rw [hb9]; rfl
    refine lv_bipush (v := (-2)) hx hb d_DL_state_26 (by decide) ?_
    refine x_topi (y := q_state X k h w) (by unfold q_state; rw [hb9]; rfl) ?_
    exact W.iret hx hb hr (fun t ht hW => ⟨rfl, by rw [ht]; exact ⟨x_F.rf, by unfold z_state; rw [hm]; exact hP⟩⟩) hF d_DL_state_28
  · refine lv_iload_n hx hb d_DL_state_7 rfl (lv_at hl 2 rfl) ?_
    refine lv_if_lt (tgt := 26) hx hb d_DL_state_8 (by decide) (fun h2 => ?_) (fun h2 => ?_)
    · have hb9 : q_sb X k h w = false := by unfold q_sb; rw [show q_sok k h w = false by unfold q_sok; rw [show decide (0 ≤ h ∧ h ≤ 15) = false from decide_eq_false (fun z => absurd h2 (Int32.not_lt.mpr z.1))]; simp]; rfl
      have hm : q_smk X k h w = false := by unfold q_smk; rw [hb9]; rfl
      refine lv_bipush (v := (-2)) hx hb d_DL_state_26 (by decide) ?_
      refine x_topi (y := q_state X k h w) (by unfold q_state; rw [hb9]; rfl) ?_
      exact W.iret hx hb hr (fun t ht hW => ⟨rfl, by rw [ht]; exact ⟨x_F.rf, by unfold z_state; rw [hm]; exact hP⟩⟩) hF d_DL_state_28
    · refine lv_iload_n hx hb d_DL_state_11 rfl (lv_at hl 2 rfl) ?_
      refine lv_bipush (v := 15) hx hb d_DL_state_12 (by decide) ?_
      refine lv_icmp_gt (tgt := 26) hx hb d_DL_state_14 (by decide) (fun h3 => ?_) (fun h3 => ?_)
      · have hb9 : q_sb X k h w = false := by unfold q_sb; rw [show q_sok k h w = false by unfold q_sok; rw [show decide (0 ≤ h ∧ h ≤ 15) = false from decide_eq_false (fun z => absurd h3 (Int32.not_lt.mpr z.2))]; simp]; rfl
        have hm : q_smk X k h w = false := by unfold q_smk; rw [hb9]; rfl
        refine lv_bipush (v := (-2)) hx hb d_DL_state_26 (by decide) ?_
        refine x_topi (y := q_state X k h w) (by unfold q_state; rw [hb9]; rfl) ?_
        exact W.iret hx hb hr (fun t ht hW => ⟨rfl, by rw [ht]; exact ⟨x_F.rf, by unfold z_state; rw [hm]; exact hP⟩⟩) hF d_DL_state_28
      · refine lv_iload_n hx hb d_DL_state_17 rfl (lv_at hl 1 rfl) ?_
        refine lv_iload hx hb d_DL_state_18 (lv_at hl 5 rfl) ?_
        refine x_cp (k_DL_67 (As := [.int k, .int w]) (rest := []) hx hb hml hown hts (c_DL_mayStandIn l D cA k w) (x_preS hE trivial) rfl hl.1 rfl (Nat.le_of_ble_eq_true rfl) d_DL_state_20 (by decide) ⟨Nat.zero_le _, Nat.zero_le _⟩) ?_
        refine lv_if_ne (tgt := 29) hx hb d_DL_state_23 (by decide) (fun h4 => ?_) (fun h4 => ?_)
        · have hsk : q_sok k h w = true := by unfold q_sok; rw [bI_n0.mp h1, decide_eq_true ⟨Int32.not_lt.mp h2, Int32.not_lt.mp h3⟩, bI_n0.mp h4]; rfl
          obtain ⟨j, hj, rfl⟩ := q_L_in (bI_n0.mp h1)
          obtain ⟨hh, hhh, rfl⟩ := nI_of h2
          have h15 : hh ≤ 15 := n_le (i := hh) (k := 15) h3 (by decide) hhh
          have hcl : (nI j).toNatClampNeg = j := nI_clamp (by omega)
          have hch : (nI hh).toNatClampNeg = hh := nI_clamp (by omega)
          have hc6 := (hlk9 j hj).1
          refine lv_iload_n hx hb d_DL_state_29 rfl (lv_at hl 2 rfl) ?_
          refine lv_bipush (v := 8) hx hb d_DL_state_30 (by decide) ?_
          refine lv_iand hx hb d_DL_state_32 ?_
          refine lv_if_eq (tgt := 40) hx hb d_DL_state_33 (by decide) (fun h5 => ?_) (fun h5 => ?_)
          · have hsc : q_sc (nI hh) = false := decide_eq_false ((mk_8 hh (by omega)).mp h5)
            have hb9 : q_sb X (nI j) (nI hh) w = true := by unfold q_sb; rw [hsk, hsc]; rfl
            refine lv_iconst (v := 0) hx hb d_DL_state_40 (by decide) ?_
            refine lv_istore (lv' := [(8, .int 0), (0, .ref o), (1, .int (nI j)), (2, .int (nI hh)), (3, .long a), (5, .long t), (7, .int w)]) hx hb d_DL_state_41 hl (by decide) rfl (fun ls hl => ?_)
            refine lv_iload hx hb d_DL_state_43 (lv_at hl 0 rfl) ?_
            refine lv_if_eq (tgt := 58) hx hb d_DL_state_45 (by decide) (fun hk => ?_) (fun hk => ?_)
            · refine lv_aload_n hx hb d_DL_state_58 rfl (lv_at hl 1 rfl) ?_
              refine fg_DL_24_DL hx hb hown hts hE hO rfl d_DL_state_59 ?_
              refine lv_iload_n hx hb d_DL_state_62 rfl (lv_at hl 2 rfl) ?_
              refine x_aald hx hb hE.2.2 hLa 5 rfl hj (by decide) d_DL_state_63 ?_
              refine x_topv (y := .ref (o + 6 + 8 * j)) (rfl) ?_
              refine x_cp (k_DL_71 (As := []) (rest := []) hx hb hml hown hts (c_Layer_isFull l D cA N (o + 6 + 8 * j) (d_k X j) (d_b X j) (d_j X j) (d_s X j) hc6) (x_preV hE (hLy j hj).1 rfl rfl (hLy j hj)) rfl hl.1 rfl (Nat.le_of_ble_eq_true rfl) d_DL_state_64 (by decide) ⟨Nat.zero_le _, Nat.zero_le _⟩) ?_
              refine lv_if_eq (tgt := 73) hx hb d_DL_state_67 (by decide) (fun h6 => ?_) (fun h6 => ?_)
              · have h6 : d_k X j < 6 := Nat.not_le.mp (of_decide_eq_false (bI_0.mp h6))
                have hm : q_smk X (nI j) (nI hh) w = true := by unfold q_smk; rw [hb9, hcl, decide_eq_true h6]; rfl
                refine lv_iload hx hb d_DL_state_73 (lv_at hl 0 rfl) ?_
                refine lv_if_eq (tgt := 85) hx hb d_DL_state_75 (by decide) (fun hk => ?_) (fun hk => ?_)
                · refine lv_null hx hb d_DL_state_85 ?_
                  refine lv_astoreN (lv' := [(9, .null), (8, .int 0), (0, .ref o), (1, .int (nI j)), (2, .int (nI hh)), (3, .long a), (5, .long t), (7, .int w)]) hx hb d_DL_state_86 hl (by decide) rfl (fun ls hl => ?_)
                  refine lv_aload_n hx hb d_DL_state_88 rfl (lv_at hl 2 rfl) ?_
                  refine fg_DL_24_DL hx hb hown hts hE hO rfl d_DL_state_89 ?_
                  refine lv_iload_n hx hb d_DL_state_92 rfl (lv_at hl 3 rfl) ?_
                  refine x_aald hx hb hE.2.2 hLa 5 rfl hj (by decide) d_DL_state_93 ?_
                  refine x_topv (y := .ref (o + 6 + 8 * j)) (rfl) ?_
                  refine lv_iload_n hx hb d_DL_state_94 rfl (lv_at hl 4 rfl) ?_
                  refine lv_lload_n hx hb d_DL_state_95 rfl (lv_at hl 5 rfl) ?_
                  refine lv_lload hx hb d_DL_state_96 (lv_at hl 6 rfl) ?_
                  refine lv_iload hx hb d_DL_state_98 (lv_at hl 7 rfl) ?_
                  refine lv_aloadN hx hb d_DL_state_100 (lv_at hl 0 rfl) ?_
                  refine x_cw (k_DL_75 (As := [.int (nI hh), .long a, .long t, .int w, .null]) (rest := []) hx hb hml hown hts (c_Layer_append_N l D cA N (o + 6 + 8 * j) (d_k X j) (d_b X j) (d_j X j) (d_s X j) h6 hh a t w) (x_preV hE (hLy j hj).1 rfl rfl (hLy j hj)) rfl hl.1 rfl (Nat.le_of_ble_eq_true rfl) d_DL_state_102 (by decide) ⟨Nat.zero_le _, Nat.zero_le _⟩) (fun H1 L1 p1 f1 => ?_)
                  have hF := t_lL hF (fun q h => (show ∀ q : Nat, x_A [o + 6 + 8 * j, o + 6 + 8 * j + 2 + d_k X j] q → d_A o q from fun q h => by have := x_A2.mp h; exact d_A_in (by omega) (by omega)) q.base (f1 q h))
                  have hd := hP.lay (l := j) p1.1 (fun q h => by have := x_A2.mp h; omega) p1.2
                  refine x_topi (y := q_state X (nI j) (nI hh) w) (by unfold q_state; rw [hb9, if_pos rfl, hcl, if_neg (by omega)]) ?_
                  exact W.iret hx hb hr (fun t ht hW => ⟨rfl, by rw [ht]; exact ⟨p1.1.mono (fun q h => by have := x_A2.mp h; exact d_A_in (by omega) (by omega)), by unfold z_state; rw [hm, if_pos rfl, hcl, hch, hsc]; exact hd⟩⟩) hF d_DL_state_105
                · exact absurd hk (by decide)
              · have h6 := of_decide_eq_true (bI_n0.mp h6)
                have hm : q_smk X (nI j) (nI hh) w = false := by unfold q_smk; rw [hcl, decide_eq_false (show ¬ d_k X j < 6 by omega)]; simp
                refine lv_bipush (v := (-3)) hx hb d_DL_state_70 (by decide) ?_
                refine x_topi (y := q_state X (nI j) (nI hh) w) (by unfold q_state; rw [hb9, if_pos rfl, hcl, if_pos h6]) ?_
                exact W.iret hx hb hr (fun t ht hW => ⟨rfl, by rw [ht]; exact ⟨x_F.rf, by unfold z_state; rw [hm]; exact hP⟩⟩) hF d_DL_state_72
            · exact absurd hk (by decide)
          · have hsc : q_sc (nI hh) = true := decide_eq_true (Decidable.byContradiction (fun z => h5 ((mk_8 hh (by omega)).mpr z)))
            refine lv_iconst (v := 1) hx hb d_DL_state_36 (by decide) ?_
            refine lv_goto (tgt := 41) hx hb d_DL_state_37 (by decide) ?_
            refine lv_istore (lv' := [(8, .int 1), (0, .ref o), (1, .int (nI j)), (2, .int (nI hh)), (3, .long a), (5, .long t), (7, .int w)]) hx hb d_DL_state_41 hl (by decide) rfl (fun ls hl => ?_)
            refine lv_iload hx hb d_DL_state_43 (lv_at hl 0 rfl) ?_
            refine lv_if_eq (tgt := 58) hx hb d_DL_state_45 (by decide) (fun hk => ?_) (fun hk => ?_)
            · exact absurd hk (by decide)
            · refine lv_aload_n hx hb d_DL_state_48 rfl (lv_at hl 1 rfl) ?_
              refine fg_DL_29_DL hx hb hown hts hE hO rfl d_DL_state_49 ?_
              refine lv_if_ne (tgt := 58) hx hb d_DL_state_52 (by decide) (fun h7 => ?_) (fun h7 => ?_)
              · have hn0 : ¬ d_n X = 0 := fun z => h7 (by rw [z]; rfl)
                have hb9 : q_sb X (nI j) (nI hh) w = true := by unfold q_sb; rw [hsk, decide_eq_false hn0]; simp
                obtain ⟨q, hq⟩ : ∃ q, d_n X = q + 1 := ⟨d_n X - 1, by omega⟩
                refine lv_aload_n hx hb d_DL_state_58 rfl (lv_at hl 1 rfl) ?_
                refine fg_DL_24_DL hx hb hown hts hE hO rfl d_DL_state_59 ?_
                refine lv_iload_n hx hb d_DL_state_62 rfl (lv_at hl 2 rfl) ?_
                refine x_aald hx hb hE.2.2 hLa 5 rfl hj (by decide) d_DL_state_63 ?_
                refine x_topv (y := .ref (o + 6 + 8 * j)) (rfl) ?_
                refine x_cp (k_DL_71 (As := []) (rest := []) hx hb hml hown hts (c_Layer_isFull l D cA N (o + 6 + 8 * j) (d_k X j) (d_b X j) (d_j X j) (d_s X j) hc6) (x_preV hE (hLy j hj).1 rfl rfl (hLy j hj)) rfl hl.1 rfl (Nat.le_of_ble_eq_true rfl) d_DL_state_64 (by decide) ⟨Nat.zero_le _, Nat.zero_le _⟩) ?_
                refine lv_if_eq (tgt := 73) hx hb d_DL_state_67 (by decide) (fun h6 => ?_) (fun h6 => ?_)
                · have h6 : d_k X j < 6 := Nat.not_le.mp (of_decide_eq_false (bI_0.mp h6))
                  have hm : q_smk X (nI j) (nI hh) w = true := by unfold q_smk; rw [hb9, hcl, decide_eq_true h6]; rfl
                  refine lv_iload hx hb d_DL_state_73 (lv_at hl 0 rfl) ?_
                  refine lv_if_eq (tgt := 85) hx hb d_DL_state_75 (by decide) (fun hk => ?_) (fun hk => ?_)
                  · exact absurd hk (by decide)
                  · refine lv_aload_n hx hb d_DL_state_78 rfl (lv_at hl 1 rfl) ?_
                    refine x_cw (k_DL_55 (As := []) (rest := []) hx hb hml hown hts (c_DL_pop_S l D cA N o X q hq hn8) (x_preV hE hO rfl rfl hP) rfl hl.1 rfl (Nat.le_of_ble_eq_true rfl) d_DL_state_79 (by decide) ⟨Nat.zero_le _, Nat.zero_le _⟩) (fun H1 L1 p1 f1 => ?_)
                    have hF := t_lL hF (fun q h => (show ∀ q : Nat, x_A [o, o + 4] q → d_A o q from fun q h => by have := x_A2.mp h; exact d_A_in (by omega) (by omega)) q.base (f1 q h))
                    obtain ⟨hO1, hV1, hC1, hLa1, hLy1⟩ := id p1.2
                    refine lv_goto (tgt := 86) hx hb d_DL_state_82 (by decide) ?_
                    refine lv_astore (lv' := [(9, .ref (n_ad N (d_p X q))), (8, .int 1), (0, .ref o), (1, .int (nI j)), (2, .int (nI hh)), (3, .long a), (5, .long t), (7, .int w)]) hx hb d_DL_state_86 hl (by decide) rfl (fun ls hl => ?_)
                    refine lv_aload_n hx hb d_DL_state_88 rfl (lv_at hl 2 rfl) ?_
                    refine fg_DL_24_DL hx hb hown hts hE hO1 rfl d_DL_state_89 ?_
                    refine lv_iload_n hx hb d_DL_state_92 rfl (lv_at hl 3 rfl) ?_
                    refine x_aald hx hb hE.2.2 hLa1 5 rfl hj (by decide) d_DL_state_93 ?_
                    refine x_topv (y := .ref (o + 6 + 8 * j)) (rfl) ?_
                    refine lv_iload_n hx hb d_DL_state_94 rfl (lv_at hl 4 rfl) ?_
                    refine lv_lload_n hx hb d_DL_state_95 rfl (lv_at hl 5 rfl) ?_
                    refine lv_lload hx hb d_DL_state_96 (lv_at hl 6 rfl) ?_
                    refine lv_iload hx hb d_DL_state_98 (lv_at hl 7 rfl) ?_
                    refine lv_aload hx hb d_DL_state_100 (lv_at hl 0 rfl) ?_
                    refine x_cw (k_DL_75 (As := [.int (nI hh), .long a, .long t, .int w, .ref (n_ad N (d_p X q))]) (rest := []) hx hb hml hown hts (c_Layer_append_R l D cA N (o + 6 + 8 * j) (d_k X j) (d_b X j) (d_j X j) (d_s X j) h6 hh a t w (d_p X q)) (x_preV hE (hLy1 j hj).1 rfl rfl (hLy1 j hj)) rfl hl.1 rfl (Nat.le_of_ble_eq_true rfl) d_DL_state_102 (by decide) ⟨Nat.zero_le _, Nat.zero_le _⟩) (fun H2 L2 p2 f2 => ?_)
                    have hF := t_lL hF (fun q h => (show ∀ q : Nat, x_A [o + 6 + 8 * j, o + 6 + 8 * j + 2 + d_k X j] q → d_A o q from fun q h => by have := x_A2.mp h; exact d_A_in (by omega) (by omega)) q.base (f2 q h))
                    have hd := p1.2.lay (l := j) p2.1 (fun q h => by have := x_A2.mp h; omega) p2.2
                    refine x_topi (y := q_state X (nI j) (nI hh) w) (by unfold q_state; rw [hb9, if_pos rfl, hcl, if_neg (by omega)]) ?_
                    exact W.iret hx hb hr (fun t ht hW => ⟨rfl, by rw [ht]; exact ⟨(p1.1.mono (fun q h => by have := x_A2.mp h; exact d_A_in (by omega) (by omega))).trans (p2.1.mono (fun q h => by have := x_A2.mp h; exact d_A_in (by omega) (by omega))), by unfold z_state; rw [hm, if_pos rfl, hcl, hch, hsc, if_pos rfl, if_pos rfl, hq, Nat.add_sub_cancel]; exact hd⟩⟩) hF d_DL_state_105
                · have h6 := of_decide_eq_true (bI_n0.mp h6)
                  have hm : q_smk X (nI j) (nI hh) w = false := by unfold q_smk; rw [hcl, decide_eq_false (show ¬ d_k X j < 6 by omega)]; simp
                  refine lv_bipush (v := (-3)) hx hb d_DL_state_70 (by decide) ?_
                  refine x_topi (y := q_state X (nI j) (nI hh) w) (by unfold q_state; rw [hb9, if_pos rfl, hcl, if_pos h6]) ?_
                  exact W.iret hx hb hr (fun t ht hW => ⟨rfl, by rw [ht]; exact ⟨x_F.rf, by unfold z_state; rw [hm]; exact hP⟩⟩) hF d_DL_state_72
              · have hb9 : q_sb X (nI j) (nI hh) w = false := by unfold q_sb; rw [hsc, decide_eq_true ((nI_eq (by omega) (by decide) : nI (d_n X) = nI 0 ↔ d_n X = 0).mp h7)]; simp
                have hm : q_smk X (nI j) (nI hh) w = false := by unfold q_smk; rw [hb9]; rfl
                refine lv_bipush (v := (-2)) hx hb d_DL_state_55 (by decide) ?_
                refine x_topi (y := q_state X (nI j) (nI hh) w) (by unfold q_state; rw [hb9]; rfl) ?_
                exact W.iret hx hb hr (fun t ht hW => ⟨rfl, by rw [ht]; exact ⟨x_F.rf, by unfold z_state; rw [hm]; exact hP⟩⟩) hF d_DL_state_57
        · have hb9 : q_sb X k h w = false := by unfold q_sb; rw [show q_sok k h w = false by unfold q_sok; rw [bI_0.mp h4]; simp]; rfl
          have hm : q_smk X k h w = false := by unfold q_smk; rw [hb9]; rfl
          refine lv_bipush (v := (-2)) hx hb d_DL_state_26 (by decide) ?_
          refine x_topi (y := q_state X k h w) (by unfold q_state; rw [hb9]; rfl) ?_
          exact W.iret hx hb hr (fun t ht hW => ⟨rfl, by rw [ht]; exact ⟨x_F.rf, by unfold z_state; rw [hm]; exact hP⟩⟩) hF d_DL_state_28
end
section
/-! constructors -/
def x_up (a : Nat) : Addr → Prop := fun q => a ≤ q
theorem x_up_in {a q : Nat} (h : a ≤ q) : x_up a q := h
theorem x_up_le {a q : Nat} (h : x_up a q) : a ≤ q := h
def x_lo (a : Nat) (H H1 : Heap) : Prop := ∀ q : Nat, q < a → H1[q]? = H[q]?
theorem x_lo.rf {a : Nat} {H : Heap} : x_lo a H H := fun _ _ => rfl
theorem x_lo.n {a : Nat} {H H1 H2 : Heap} (h : x_lo a H H1) (h2 : x_n H1 H2) (hs : a ≤ H1.size) : x_lo a H H2 := fun q hq => (h2.2 q (by omega)).trans (h q hq)
theorem x_lo.o {a b : Nat} {H H1 H2 : Heap} (h : x_lo a H H1) (h2 : x_1 b H1 H2) (hb : a ≤ b) : x_lo a H H2 := fun q hq => (h2.2 q (by omega)).trans (h q hq)
theorem x_lo.t {a b : Nat} {H H1 H2 : Heap} (h : x_lo a H H1) (h2 : x_lo b H1 H2) (hb : a ≤ b) : x_lo a H H2 := fun q hq => (h2 q (by omega)).trans (h q hq)
def s_0 : s_T := (0, 0, 0, 0, none)
def d_0 : d_T := (0, -1, fun _ => 0, fun _ => 0, fun _ => 0, fun _ => 0, fun _ => false, fun _ => 0, fun _ _ => s_0)
set_option maxHeartbeats 4000000 in
set_option maxRecDepth 100000 in
theorem c_Statement_init (l : Launch) (D : va_G) (cA : Nat → ClassId) (a : Nat) : Met l y_Statement_init [.code y_Statement_init b_Statement_init 1 none] (x_rm 1 0 0) (x_P D cA [.ref a] (fun _ => True)) (x_Q (none) (x_same)) 0 0 (fun _ => False) := by
  refine x_met (own := "DecisionLayers$Statement") (by decide) rfl (Nat.le_of_ble_eq_true rfl) ?_
  intro pp ee s mm below mt cd ls hx hb hr hlk hnm hml hown hts hE hP hl
  have hl : lv_has ls 1 [(0, .ref a)] := hl
  refine lv_aload_n hx hb d_Statement_init_0 rfl (lv_at hl 0 rfl) ?_
  refine W.objInit hx hb hown (hts _ w_1_50) (hts _ w_1_18) (hts _ w_1_19) rfl (by rw [hml]; exact hl.1) rfl d_Statement_init_1 (Nat.le_of_ble_eq_true rfl) (Nat.le_of_ble_eq_true rfl) ?_
  refine W.eq (g2 := F0 mm 4 ls []) rfl ?_
  exact W.vret hx hb hr (fun t ht hW => ⟨rfl, ht⟩) (fun q h => by cases h) d_Statement_init_4
set_option maxHeartbeats 4000000 in
set_option maxRecDepth 100000 in
theorem c_Values_init (l : Launch) (D : va_G) (cA : Nat → ClassId) (a : Nat) : Met l y_Values_init [.code y_Values_init b_Values_init 1 none] (x_rm 1 2 40) (x_P D cA [.ref a] (fun H => H.size = a + 1 ∧ va_at D x_cl (a, .inr (0, [.null, .null])) H)) (x_Q (none) (fun H H1 => H1.size = a + 3 ∧ v_W D cA a (fun _ => 0) (fun _ => 0) H1 ∧ x_lo a H H1)) 2 40 (x_up a) := by
  refine x_met (own := "DecisionLayers$Values") (by decide) rfl (Nat.le_of_ble_eq_true rfl) ?_
  intro pp ee s mm below mt cd ls hx hb hr hlk hnm hml hown hts hE hP hl
  have hl : lv_has ls 1 [(0, .ref a)] := hl
  obtain ⟨hs, hO⟩ := hP
  have hF : ∀ q ∈ ([] : List Loc), x_up a q.base := t_nil
  refine lv_aload_n hx hb d_Values_init_0 rfl (lv_at hl 0 rfl) ?_
  refine W.objInit hx hb hown (hts _ w_1_25) (hts _ w_1_18) (hts _ w_1_19) rfl (by rw [hml]; exact hl.1) rfl d_Values_init_1 (Nat.le_of_ble_eq_true rfl) (Nat.le_of_ble_eq_true rfl) ?_
  refine W.eq (g2 := F0 mm 4 ls []) rfl ?_
  refine lv_aload_n hx hb d_Values_init_4 rfl (lv_at hl 0 rfl) ?_
  refine lv_bipush (v := 32) hx hb d_Values_init_5 (by decide) ?_
  refine x_newa (atype := .long) (a0 := (32, .inr (.inl (fun _ => 0)))) (ty := .long) hx hb (hts _ w_1_33) rfl hE.2.2 1 rfl (fun _ => rfl) (by decide) (by decide) (by decide) (Nat.le_of_ble_eq_true rfl) (Nat.le_of_ble_eq_true rfl) d_Values_init_7 (fun H1 g1 n1 => ?_)
  rw [hs] at g1 ⊢
  have hs1 : H1.size = a + 2 := by rw [n1.1, hs]
  have hO := hO.kn n1
  have hx1 := (x_lo.rf (a := a) (H := s.heap)).n n1 (by omega)
  refine fp_Values_9_Values hx hb hown hts hE hnm hO rfl rfl (Nat.le_of_ble_eq_true rfl) d_Values_init_9 (fun H2 k2 g2 o2 => ?_)
  have hF := t_lc (a := a) (i := k2) hF (x_up_in (Nat.le_refl _))
  have g1 := g1.k1 o2 (show a + 1 ≠ a by omega)
  have hs2 : H2.size = a + 2 := by rw [o2.1, hs1]
  have hx2 := hx1.o o2 (Nat.le_refl _)
  refine lv_aload_n hx hb d_Values_init_12 rfl (lv_at hl 0 rfl) ?_
  refine lv_bipush (v := 8) hx hb d_Values_init_13 (by decide) ?_
  refine x_newa (atype := .int) (a0 := (8, .inl (fun _ => 0))) (ty := .int) hx hb (hts _ w_1_34) rfl hE.2.2 0 rfl (fun _ => rfl) (by decide) (by decide) (by decide) (Nat.le_of_ble_eq_true rfl) (Nat.le_of_ble_eq_true rfl) d_Values_init_15 (fun H3 g3 n3 => ?_)
  rw [hs2] at g3 ⊢
  have hs3 : H3.size = a + 3 := by rw [n3.1, hs2]
  have g2 := g2.kn n3
  have g1 := g1.kn n3
  have hx3 := hx2.n n3 (by omega)
  refine fp_Values_13_Values hx hb hown hts hE hnm g2 rfl rfl (Nat.le_of_ble_eq_true rfl) d_Values_init_17 (fun H4 k4 g4 o4 => ?_)
  have hF := t_lc (a := a) (i := k4) hF (x_up_in (Nat.le_refl _))
  have g1 := g1.k1 o4 (show a + 1 ≠ a by omega)
  have g3 := g3.k1 o4 (show a + 2 ≠ a by omega)
  exact W.vret hx hb hr (fun t ht hW => ⟨rfl, by rw [ht]; exact ⟨by rw [o4.1, hs3], ⟨g4, g1, g3⟩, hx3.o o4 (Nat.le_refl _)⟩⟩) hF d_Values_init_20
set_option maxHeartbeats 4000000 in
set_option maxRecDepth 100000 in
theorem c_Layer_init (l : Launch) (D : va_G) (cA : Nat → ClassId) (N : n_T) (L : Nat) : Met l y_Layer_init [.code y_Layer_init b_Layer_init 2 none] (x_rm 2 7 36) (x_P D cA [.ref L] (fun H => H.size = L + 1 ∧ va_at D x_cl (L, .inr (1, [.null, .int 0, .int 0, .int 0])) H)) (x_Q (none) (fun H H1 => H1.size = L + 8 ∧ l_W D cA N L 0 false 0 (fun _ => s_0) H1 ∧ x_lo L H H1)) 7 36 (x_up L) := by
  refine x_met (own := "DecisionLayers$Layer") (by decide) rfl (Nat.le_of_ble_eq_true rfl) ?_
  intro pp ee s mm below mt cd ls hx hb hr hlk hnm hml hown hts hE hP hl
  have hl : lv_has ls 2 [(0, .ref L)] := hl
  obtain ⟨hs, hO⟩ := hP
  have hF : ∀ q ∈ ([] : List Loc), x_up L q.base := t_nil
  refine lv_aload_n hx hb d_Layer_init_0 rfl (lv_at hl 0 rfl) ?_
  refine W.objInit hx hb hown (hts _ w_1_43) (hts _ w_1_18) (hts _ w_1_19) rfl (by rw [hml]; exact hl.1) rfl d_Layer_init_1 (Nat.le_of_ble_eq_true rfl) (Nat.le_of_ble_eq_true rfl) ?_
  refine W.eq (g2 := F0 mm 4 ls []) rfl ?_
  refine lv_aload_n hx hb d_Layer_init_4 rfl (lv_at hl 0 rfl) ?_
  refine lv_bipush (v := 6) hx hb d_Layer_init_5 (by decide) ?_
  refine x_newq (N' := 6) hx hb hown (hts _ w_1_44) hE.2.1.2.2.2.2.2.2.2.2.1 hE.2.2 6 rfl (by decide) (by decide) (by decide) (Nat.le_of_ble_eq_true rfl) (Nat.le_of_ble_eq_true rfl) d_Layer_init_7 (fun H1 g1 n1 => ?_)
  rw [hs] at g1 ⊢
  have hs1 : H1.size = L + 2 := by rw [n1.1, hs]
  have hO := hO.kn n1
  have hx1 := (x_lo.rf (a := L) (H := s.heap)).n n1 (by omega)
  refine fp_Layer_13_Layer hx hb hown hts hE hnm hO rfl rfl (Nat.le_of_ble_eq_true rfl) d_Layer_init_10 (fun H2 k2 g2 o2 => ?_)
  have hF := t_lc (a := L) (i := k2) hF (x_up_in (Nat.le_refl _))
  have g1 := g1.k1 o2 (show L + 1 ≠ L by omega)
  have hs2 : H2.size = L + 2 := by rw [o2.1, hs1]
  have hx2 := hx1.o o2 (Nat.le_refl _)
  refine lv_iconst (v := 0) hx hb d_Layer_init_13 (by decide) ?_
  refine lv_istore_n (lv' := [(1, .int 0), (0, .ref L)]) hx hb d_Layer_init_14 rfl hl (by decide) rfl (fun ls hl => ?_)
  refine x_loopG (I := fun r ls H locs cells slots => ∃ k, k + r = 6 ∧ cells = 1 + k ∧ slots = 6 + 5 * k ∧ lv_has ls 2 [(1, .int (nI k)), (0, .ref L)] ∧ H.size = L + 2 + k ∧ va_at D x_cl (L, .inr (1, [.ref (L + 1), .int 0, .int 0, .int 0])) H ∧ va_at D x_cl (L + 1, .inl (cA 6, 6, .inr (.inr (.inr (.inr (fun j => if j < k then some (L + 2 + j) else none)))))) H ∧ (∀ j, j < k → va_at D x_cl (L + 2 + j, .inr (2, s_fs N s_0)) H) ∧ x_lo L s.heap H ∧ ∀ q ∈ locs, x_up L q.base) (fun r ls H locs cells slots ih h => ?_) 6 ⟨0, rfl, rfl, rfl, (lv_sub hl [0, 1] rfl), hs2, g2, g1.refs (fun j hj => by rw [if_neg (by omega)]), fun j hj => absurd hj (Nat.not_lt_zero j), hx2, hF⟩
  obtain ⟨k, hkr, rfl, rfl, hl, hHs, hO, hA, hS, hx0, hF⟩ := h
  refine lv_iload_n hx hb d_Layer_init_15 rfl (lv_at hl 0 rfl) ?_
  refine lv_bipush (v := 6) hx hb d_Layer_init_16 (by decide) ?_
  refine lv_icmp_ge (tgt := 40) hx hb d_Layer_init_18 (by decide) (fun c1 => ?_) (fun c1 => ?_)
  · have c1 := n_ge (k := 6) c1 (by decide) (by omega)
    obtain rfl : k = 6 := by omega
    exact W.vret hx hb hr (fun t ht hW => ⟨rfl, by rw [ht]; exact ⟨hHs, ⟨hO, hA.refs (fun j hj => by rw [if_pos hj]), hS⟩, hx0⟩⟩) hF d_Layer_init_40
  · have c1 := n_lt (k := 6) c1 (by decide) (by omega)
    refine lv_aload_n hx hb d_Layer_init_21 rfl (lv_at hl 1 rfl) ?_
    refine fg_Layer_13_Layer hx hb hown hts hE hO rfl d_Layer_init_22 ?_
    refine lv_iload_n hx hb d_Layer_init_25 rfl (lv_at hl 0 rfl) ?_
    refine x_new (ci := 2) (fs := [.int 0, .long 0, .long 0, .int 0, .null]) hx hb hts in_Statement t_Statement t_Statement_ok hown (hts _ w_1_44) (hts _ w_1_46) (hts _ w_1_4) hE.2.2 rfl (fun j hj => by rcases (show j = 0 ∨ j = 1 ∨ j = 2 ∨ j = 3 ∨ j = 4 by omega) with rfl | rfl | rfl | rfl | rfl <;> rfl) (show 1 + k + 1 ≤ 7 by omega) (show 6 + 5 * k + 5 ≤ 36 by omega) d_Layer_init_26 (fun H3 g3 n3 => ?_)
    rw [hHs] at g3 ⊢
    refine lv_dup hx hb d_Layer_init_29 rfl ?_
    refine x_cv (k_Layer_17 (As := []) (rest := [.ref (L + 2 + k), .int (nI k), .ref (L + 1)]) hx hb hml hown hts hE (c_Statement_init l D cA (L + 2 + k)) (x_preS hE trivial) rfl hl.1 rfl (Nat.le_of_ble_eq_true rfl) d_Layer_init_30 (by decide) ⟨(show 1 + k + 1 + 0 ≤ 7 by omega), (show 6 + 5 * k + 5 + 0 ≤ 36 by omega)⟩) (fun H4 L4 p4 f4 => ?_)
    have hF := t_lL hF (fun q h => (show ∀ q : Nat, False → x_up L q from fun q h => h.elim) q.base (f4 q h))
    obtain rfl : H4 = H3 := p4
    refine x_aast hx hb hE.2.2 (hA.kn n3) 6 rfl (va_rAny (q0 := 0) (ci := 2) hE.2.2 (x_one g3) rfl rfl (fun comp c0 h1 h2 => vb_asgS comp c0 h1 h2)) c1 (by decide) d_Layer_init_33 (fun H5 k5 g5 o5 => ?_)
    have hF := t_lc (a := L + 1) (i := k5) hF (x_up_in (by omega))
    refine lv_iinc (k := 0) (v := nI (k + 1)) (lv' := [(1, .int (nI (k + 1))), (0, .ref L)]) hx hb d_Layer_init_34 hl rfl (x_inc _) (by decide) rfl (fun ls hl => ?_)
    refine lv_goto (tgt := 15) hx hb d_Layer_init_37 (by decide) ?_
    exact ih (r - 1) _ _ _ _ _ (by omega) ⟨k + 1, by omega, by omega, by omega, (lv_sub hl [0, 1] rfl), by rw [o5.1, n3.1, hHs]; omega, (hO.kn n3).k1 o5 (show L ≠ L + 1 by omega), g5.refs (fun j hj => by
      by_cases e : j = k
      · subst e; simp [va_up]
      · by_cases h9 : j < k
        · simp [va_up, e, h9, show j < k + 1 by omega]
        · simp [va_up, e, h9, show ¬ j < k + 1 by omega]), fun j hj => by
      by_cases e : j = k
      · subst e; exact g3.k1 o5 (show L + 2 + j ≠ L + 1 by omega)
      · exact ((hS j (by omega)).kn n3).k1 o5 (show L + 2 + j ≠ L + 1 by omega), (hx0.n n3 (by omega)).o o5 (by omega), hF⟩
set_option maxHeartbeats 4000000 in
set_option maxRecDepth 100000 in
theorem c_DL_init (l : Launch) (D : va_G) (cA : Nat → ClassId) (N : n_T) (o : Nat) : Met l y_DL_init [.code y_DL_init b_DL_init 2 none] (x_rm 3 53 296) (x_P D cA [.ref o] (fun H => H.size = o + 1 ∧ va_at D x_cl (o, .inr (5, [.null, .null, .null, .int 0, .int 0])) H)) (x_Q (none) (fun H H1 => H1.size = o + 54 ∧ d_W D cA N o d_0 H1 ∧ x_lo o H H1)) 53 296 (x_up o) := by
  refine x_met (own := "DecisionLayers") (by decide) rfl (Nat.le_of_ble_eq_true rfl) ?_
  intro pp ee s mm below mt cd ls hx hb hr hlk hnm hml hown hts hE hP hl
  have hl : lv_has ls 2 [(0, .ref o)] := hl
  obtain ⟨hs, hO⟩ := hP
  have hF : ∀ q ∈ ([] : List Loc), x_up o q.base := t_nil
  refine lv_aload_n hx hb d_DL_init_0 rfl (lv_at hl 0 rfl) ?_
  refine W.objInit hx hb hown (hts _ w_1_17) (hts _ w_1_18) (hts _ w_1_19) rfl (by rw [hml]; exact hl.1) rfl d_DL_init_1 (Nat.le_of_ble_eq_true rfl) (Nat.le_of_ble_eq_true rfl) ?_
  refine W.eq (g2 := F0 mm 4 ls []) rfl ?_
  refine lv_aload_n hx hb d_DL_init_4 rfl (lv_at hl 0 rfl) ?_
  refine x_new (ci := 0) (fs := [.null, .null]) hx hb hts in_Values t_Values t_Values_ok hown (hts _ w_1_20) (hts _ w_1_21) (hts _ w_1_2) hE.2.2 rfl (fun j hj => by rcases (show j = 0 ∨ j = 1 by omega) with rfl | rfl <;> rfl) (Nat.le_of_ble_eq_true rfl) (Nat.le_of_ble_eq_true rfl) d_DL_init_5 (fun H1 g1 n1 => ?_)
  rw [hs] at g1 ⊢
  have hs1 : H1.size = o + 2 := by rw [n1.1, hs]
  have hO := hO.kn n1
  have hx1 := (x_lo.rf (a := o) (H := s.heap)).n n1 (by omega)
  refine lv_dup hx hb d_DL_init_8 rfl ?_
  refine x_cv (k_DL_9 (As := []) (rest := [.ref (o + 1), .ref o]) hx hb hml hown hts hE (c_Values_init l D cA (o + 1)) (x_preS hE ⟨hs1, g1⟩) rfl hl.1 rfl (Nat.le_of_ble_eq_true rfl) d_DL_init_9 (by decide) ⟨Nat.le_of_ble_eq_true rfl, Nat.le_of_ble_eq_true rfl⟩) (fun H2 L2 p2 f2 => ?_)
  have hF := t_lL hF (fun q h => (show ∀ q : Nat, x_up (o + 1) q → x_up o q from fun q h => x_up_in (by have := x_up_le h; omega)) q.base (f2 q h))
  obtain ⟨hs2, hV, hx2⟩ := p2
  have hs2 : H2.size = o + 4 := hs2
  have hO := hO.kept (hx2 o (by omega))
  have hx2 := hx1.t hx2 (by omega)
  refine fp_DL_10_DL hx hb hown hts hE hnm hO rfl rfl (Nat.le_of_ble_eq_true rfl) d_DL_init_12 (fun H3 k3 g3 o3 => ?_)
  have hF := t_lc (a := o) (i := k3) hF (x_up_in (Nat.le_refl _))
  have hs3 : H3.size = o + 4 := by rw [o3.1, hs2]
  have hV := hV.kept (H1 := H3) (fun q a b => o3.2 q (by omega))
  have hx3 := hx2.o o3 (Nat.le_refl _)
  refine lv_aload_n hx hb d_DL_init_15 rfl (lv_at hl 0 rfl) ?_
  refine lv_bipush (v := 8) hx hb d_DL_init_16 (by decide) ?_
  refine x_newq (N' := 8) hx hb hown (hts _ w_1_35) hE.2.1.2.2.2.2.2.2.1 hE.2.2 4 rfl (by decide) (by decide) (by decide) (Nat.le_of_ble_eq_true rfl) (Nat.le_of_ble_eq_true rfl) d_DL_init_18 (fun H4 g4 n4 => ?_)
  rw [hs3] at g4 ⊢
  have hs4 : H4.size = o + 5 := by rw [n4.1, hs3]
  have hV := hV.kept (H1 := H4) (fun q a b => n4.2 q (by omega))
  have hx4 := hx3.n n4 (by omega)
  refine fp_DL_18_DL hx hb hown hts hE hnm (g3.kn n4) rfl rfl (Nat.le_of_ble_eq_true rfl) d_DL_init_21 (fun H5 k5 g5 o5 => ?_)
  have hF := t_lc (a := o) (i := k5) hF (x_up_in (Nat.le_refl _))
  have hs5 : H5.size = o + 5 := by rw [o5.1, hs4]
  have hV := hV.kept (H1 := H5) (fun q a b => o5.2 q (by omega))
  have g4 := g4.k1 o5 (show o + 4 ≠ o by omega)
  have hx5 := hx4.o o5 (Nat.le_refl _)
  refine lv_aload_n hx hb d_DL_init_24 rfl (lv_at hl 0 rfl) ?_
  refine lv_bipush (v := 6) hx hb d_DL_init_25 (by decide) ?_
  refine x_newq (N' := 6) hx hb hown (hts _ w_1_37) hE.2.1.2.2.2.2.2.2.2.1 hE.2.2 5 rfl (by decide) (by decide) (by decide) (Nat.le_of_ble_eq_true rfl) (Nat.le_of_ble_eq_true rfl) d_DL_init_27 (fun H6 g6 n6 => ?_)
  rw [hs5] at g6 ⊢
  have hs6 : H6.size = o + 6 := by rw [n6.1, hs5]
  have hV := hV.kept (H1 := H6) (fun q a b => n6.2 q (by omega))
  have g4 := g4.kn n6
  have hx6 := hx5.n n6 (by omega)
  refine fp_DL_24_DL hx hb hown hts hE hnm (g5.kn n6) rfl rfl (Nat.le_of_ble_eq_true rfl) d_DL_init_30 (fun H7 k7 g7 o7 => ?_)
  have hF := t_lc (a := o) (i := k7) hF (x_up_in (Nat.le_refl _))
  have hs7 : H7.size = o + 6 := by rw [o7.1, hs6]
  have hV := hV.kept (H1 := H7) (fun q a b => o7.2 q (by omega))
  have g4 := g4.k1 o7 (show o + 4 ≠ o by omega)
  have g6 := g6.k1 o7 (show o + 5 ≠ o by omega)
  have hx7 := hx6.o o7 (Nat.le_refl _)
  refine lv_iconst (v := 0) hx hb d_DL_init_33 (by decide) ?_
  refine lv_istore_n (lv' := [(1, .int 0), (0, .ref o)]) hx hb d_DL_init_34 rfl hl (by decide) rfl (fun ls hl => ?_)
  refine x_loopG (I := fun r ls H locs cells slots => ∃ k, k + r = 6 ∧ cells = 5 + 8 * k ∧ slots = 56 + 40 * k ∧ lv_has ls 2 [(1, .int (nI k)), (0, .ref o)] ∧ H.size = o + 6 + 8 * k ∧ va_at D x_cl (o, .inr (5, [.ref (o + 1), .ref (o + 4), .ref (o + 5), .int 0, .int 0])) H ∧ (v_W D cA (o + 1) (fun _ => 0) (fun _ => 0) H ∧ va_at D x_cl (o + 4, .inl (cA 4, 8, .inr (.inr (.inr (.inr (fun _ => none)))))) H) ∧ va_at D x_cl (o + 5, .inl (cA 5, 6, .inr (.inr (.inr (.inr (fun j => if j < k then some (o + 6 + 8 * j) else none)))))) H ∧ (∀ j, j < k → l_W D cA N (o + 6 + 8 * j) 0 false 0 (fun _ => s_0) H) ∧ x_lo o s.heap H ∧ ∀ q ∈ locs, x_up o q.base) (fun r ls H locs cells slots ih h => ?_) 6 ⟨0, rfl, rfl, rfl, (lv_sub hl [0, 1] rfl), hs7, g7, ⟨hV, g4⟩, g6.refs (fun j hj => by rw [if_neg (by omega)]), fun j hj => absurd hj (Nat.not_lt_zero j), hx7, hF⟩
  obtain ⟨k, hkr, rfl, rfl, hl, hHs, hO, ⟨hV, hC⟩, hA, hS, hx0, hF⟩ := h
  refine lv_iload_n hx hb d_DL_init_35 rfl (lv_at hl 0 rfl) ?_
  refine lv_bipush (v := 6) hx hb d_DL_init_36 (by decide) ?_
  refine lv_icmp_ge (tgt := 60) hx hb d_DL_init_38 (by decide) (fun c1 => ?_) (fun c1 => ?_)
  · have c1 := n_ge (k := 6) c1 (by decide) (by omega)
    obtain rfl : k = 6 := by omega
    refine lv_aload_n hx hb d_DL_init_60 rfl (lv_at hl 1 rfl) ?_
    refine lv_iconst (v := 0) hx hb d_DL_init_61 (by decide) ?_
    refine fp_DL_29_DL hx hb hown hts hE hO rfl rfl (Nat.le_of_ble_eq_true rfl) d_DL_init_62 (fun H8 k8 g8 o8 => ?_)
    have hF := t_lc (a := o) (i := k8) hF (x_up_in (Nat.le_refl _))
    refine lv_aload_n hx hb d_DL_init_65 rfl (lv_at hl 1 rfl) ?_
    refine lv_iconst (v := (-1)) hx hb d_DL_init_66 (by decide) ?_
    refine fp_DL_33_DL hx hb hown hts hE g8 rfl rfl (Nat.le_of_ble_eq_true rfl) d_DL_init_67 (fun H9 k9 g9 o9 => ?_)
    have hF := t_lc (a := o) (i := k9) hF (x_up_in (Nat.le_refl _))
    have hk9 : ∀ q : Nat, q ≠ o → H9[q]? = H[q]? := fun q hq => (o9.2 q hq).trans (o8.2 q hq)
    exact W.vret hx hb hr (fun t ht hW => ⟨rfl, by rw [ht]; exact ⟨by rw [o9.1, o8.1, hHs], ⟨g9, hV.kept (fun q a b => hk9 q (by omega)), (hC.kept (hk9 _ (show o + 4 ≠ o by omega))).refs (fun j _ => rfl), (hA.kept (hk9 _ (show o + 5 ≠ o by omega))).refs (fun j hj => by rw [if_pos hj]), fun l hl => (hS l hl).kept (fun q a b => hk9 q (by omega))⟩, (hx0.o o8 (Nat.le_refl _)).o o9 (Nat.le_refl _)⟩⟩) hF d_DL_init_70
  · have c1 := n_lt (k := 6) c1 (by decide) (by omega)
    refine lv_aload_n hx hb d_DL_init_41 rfl (lv_at hl 1 rfl) ?_
    refine fg_DL_24_DL hx hb hown hts hE hO rfl d_DL_init_42 ?_
    refine lv_iload_n hx hb d_DL_init_45 rfl (lv_at hl 0 rfl) ?_
    refine x_new (ci := 1) (fs := [.null, .int 0, .int 0, .int 0]) hx hb hts in_Layer t_Layer t_Layer_ok hown (hts _ w_1_37) (hts _ w_1_39) (hts _ w_1_3) hE.2.2 rfl (fun j hj => by rcases (show j = 0 ∨ j = 1 ∨ j = 2 ∨ j = 3 by omega) with rfl | rfl | rfl | rfl <;> rfl) (show 5 + 8 * k + 1 ≤ 53 by omega) (show 56 + 40 * k + 4 ≤ 296 by omega) d_DL_init_46 (fun H3 g3 n3 => ?_)
    rw [hHs] at g3 ⊢
    refine lv_dup hx hb d_DL_init_49 rfl ?_
    refine x_cv (k_DL_28 (As := []) (rest := [.ref (o + 6 + 8 * k), .int (nI k), .ref (o + 5)]) hx hb hml hown hts (c_Layer_init l D cA N (o + 6 + 8 * k)) (x_preS hE ⟨by rw [n3.1, hHs], g3⟩) rfl hl.1 rfl (Nat.le_of_ble_eq_true rfl) d_DL_init_50 (by decide) ⟨(show 5 + 8 * k + 1 + 7 ≤ 53 by omega), (show 56 + 40 * k + 4 + 36 ≤ 296 by omega)⟩) (fun H4 L4 p4 f4 => ?_)
    have hF := t_lL hF (fun q h => (show ∀ q : Nat, x_up (o + 6 + 8 * k) q → x_up o q from fun q h => x_up_in (by have := x_up_le h; omega)) q.base (f4 q h))
    obtain ⟨hs4, hL4, hx4⟩ := p4
    have hk4 : ∀ q : Nat, q < o + 6 + 8 * k → H4[q]? = H[q]? := fun q hq => (hx4 q hq).trans (n3.2 q (by omega))
    refine x_aast hx hb hE.2.2 (hA.kept (hk4 _ (show o + 5 < o + 6 + 8 * k by omega))) 5 rfl (va_rAny (q0 := 0) (ci := 1) hE.2.2 (x_one hL4.1) rfl rfl (fun comp c0 h1 h2 => vb_asgS comp c0 h1 h2)) c1 (by decide) d_DL_init_53 (fun H5 k5 g5 o5 => ?_)
    have hF := t_lc (a := o + 5) (i := k5) hF (x_up_in (by omega))
    have hk5 : ∀ q : Nat, q < o + 6 + 8 * k → q ≠ o + 5 → H5[q]? = H[q]? := fun q hq he => (o5.2 q he).trans (hk4 q hq)
    refine lv_iinc (k := 0) (v := nI (k + 1)) (lv' := [(1, .int (nI (k + 1))), (0, .ref o)]) hx hb d_DL_init_54 hl rfl (x_inc _) (by decide) rfl (fun ls hl => ?_)
    refine lv_goto (tgt := 35) hx hb d_DL_init_57 (by decide) ?_
    exact ih (r - 1) _ _ _ _ _ (by omega) ⟨k + 1, by omega, by omega, by omega, (lv_sub hl [0, 1] rfl), by rw [o5.1, hs4]; omega, hO.kept (hk5 _ (show o < o + 6 + 8 * k by omega) (show o ≠ o + 5 by omega)), ⟨hV.kept (fun q a b => hk5 q (by omega) (by omega)), hC.kept (hk5 _ (show o + 4 < o + 6 + 8 * k by omega) (show o + 4 ≠ o + 5 by omega))⟩, g5.refs (fun j hj => by
      by_cases e : j = k
      · subst e; simp [va_up]
      · by_cases h9 : j < k
        · simp [va_up, e, h9, show j < k + 1 by omega]
        · simp [va_up, e, h9, show ¬ j < k + 1 by omega]), fun j hj => by
      by_cases e : j = k
      · subst e; exact hL4.kept (fun q a b => o5.2 q (by omega))
      · exact (hS j (by omega)).kept (fun q a b => hk5 q (by omega) (by omega)), fun q hq => (hk5 q (by omega) (by omega)).trans (hx0 q hq), hF⟩
end
