/-! the words, each by its place -/
set_option maxRecDepth 20000 in
theorem w_1_0 : Cond.initialized "DecisionLayersLaw" ∈ w_g := w_m1 0 rfl rfl
set_option maxRecDepth 20000 in
theorem w_1_1 : Cond.initialized "DecisionLayers" ∈ w_g := w_m1 1 rfl rfl
set_option maxRecDepth 20000 in
theorem w_1_2 : Cond.initialized "DecisionLayers$Values" ∈ w_g := w_m1 2 rfl rfl
set_option maxRecDepth 20000 in
theorem w_1_3 : Cond.initialized "DecisionLayers$Layer" ∈ w_g := w_m1 3 rfl rfl
set_option maxRecDepth 20000 in
theorem w_1_4 : Cond.initialized "DecisionLayers$Statement" ∈ w_g := w_m1 4 rfl rfl
set_option maxRecDepth 20000 in
theorem w_1_5 : Cond.initialized "DecisionLayersModel" ∈ w_g := w_m1 5 rfl rfl
set_option maxRecDepth 20000 in
theorem w_1_6 : Cond.initialized "DecisionLayers$Condition" ∈ w_g := w_m1 6 rfl rfl
set_option maxRecDepth 20000 in
theorem w_1_7 : Cond.initialized "DecisionLayers$Test" ∈ w_g := w_m1 7 rfl rfl
set_option maxRecDepth 20000 in
theorem w_1_8 : Cond.initialized "java/lang/Math" ∈ w_g := w_m1 8 rfl rfl
set_option maxRecDepth 20000 in
theorem w_1_9 : Cond.initialized "DecisionLayers$Joined" ∈ w_g := w_m1 9 rfl rfl
set_option maxRecDepth 20000 in
theorem w_1_10 : Cond.initialized "DecisionLayers$Pattern" ∈ w_g := w_m1 10 rfl rfl
set_option maxRecDepth 20000 in
theorem w_1_11 : Cond.initialized "DecisionLayers$Text" ∈ w_g := w_m1 11 rfl rfl
set_option maxRecDepth 20000 in
theorem w_1_12 : Cond.classLink "DecisionLayersLaw" 7 "DecisionLayers" ∈ w_g := w_m1 12 rfl rfl
set_option maxRecDepth 20000 in
theorem w_1_13 : Cond.instantiable "DecisionLayers" 5 ∈ w_g := w_m1 13 rfl rfl
set_option maxRecDepth 20000 in
theorem w_1_14 : Cond.methodLink "DecisionLayersLaw" 9 y_DL_init ∈ w_g := w_m1 14 rfl rfl
set_option maxRecDepth 20000 in
theorem w_1_15 : Cond.instanceMethod y_DL_init ∈ w_g := w_m1 15 rfl rfl
set_option maxRecDepth 20000 in
theorem w_1_16 : Cond.code y_DL_init prog_1_method_1_code 2 none ∈ w_g := w_m1 16 rfl rfl
set_option maxRecDepth 20000 in
theorem w_1_17 : Cond.methodLink "DecisionLayers" 1 y_Object_init ∈ w_g := w_m1 17 rfl rfl
set_option maxRecDepth 20000 in
theorem w_1_18 : Cond.instanceMethod y_Object_init ∈ w_g := w_m1 18 rfl rfl
set_option maxRecDepth 20000 in
theorem w_1_19 : Cond.code y_Object_init object_method_1_code 1 none ∈ w_g := w_m1 19 rfl rfl
set_option maxRecDepth 20000 in
theorem w_1_20 : Cond.classLink "DecisionLayers" 7 "DecisionLayers$Values" ∈ w_g := w_m1 20 rfl rfl
set_option maxRecDepth 20000 in
theorem w_1_21 : Cond.instantiable "DecisionLayers$Values" 2 ∈ w_g := w_m1 21 rfl rfl
set_option maxRecDepth 20000 in
theorem w_1_23 : Cond.instanceMethod y_Values_init ∈ w_g := w_m1 23 rfl rfl
set_option maxRecDepth 20000 in
theorem w_1_24 : Cond.code y_Values_init prog_9_method_1_code 1 none ∈ w_g := w_m1 24 rfl rfl
set_option maxRecDepth 20000 in
theorem w_1_25 : Cond.methodLink "DecisionLayers$Values" 1 y_Object_init ∈ w_g := w_m1 25 rfl rfl
set_option maxRecDepth 20000 in
theorem w_1_26 : Cond.fieldLink "DecisionLayers$Values" 9 "DecisionLayers$Values" "row" "[J" ∈ w_g := w_m1 26 rfl rfl
set_option maxRecDepth 20000 in
theorem w_1_27 : Cond.fieldLink "DecisionLayers$Values" 13 "DecisionLayers$Values" "counts" "[I" ∈ w_g := w_m1 27 rfl rfl
set_option maxRecDepth 20000 in
theorem w_1_28 : Cond.laysFinal "DecisionLayers$Values" "DecisionLayers$Values" "row" "[J" ∈ w_g := w_m1 28 rfl rfl
set_option maxRecDepth 20000 in
theorem w_1_30 : Cond.laysFinal "DecisionLayers$Values" "DecisionLayers$Values" "counts" "[I" ∈ w_g := w_m1 30 rfl rfl
set_option maxRecDepth 20000 in
theorem w_1_33 : Cond.arrayClass FieldType.long ∈ w_g := w_m1 33 rfl rfl
set_option maxRecDepth 20000 in
theorem w_1_34 : Cond.arrayClass FieldType.int ∈ w_g := w_m1 34 rfl rfl
set_option maxRecDepth 20000 in
theorem w_1_35 : Cond.classLink "DecisionLayers" 16 "DecisionLayers$Condition" ∈ w_g := w_m1 35 rfl rfl
set_option maxRecDepth 20000 in
theorem w_1_37 : Cond.classLink "DecisionLayers" 22 "DecisionLayers$Layer" ∈ w_g := w_m1 37 rfl rfl
set_option maxRecDepth 20000 in
theorem w_1_39 : Cond.instantiable "DecisionLayers$Layer" 4 ∈ w_g := w_m1 39 rfl rfl
set_option maxRecDepth 20000 in
theorem w_1_40 : Cond.methodLink "DecisionLayers" 28 y_Layer_init ∈ w_g := w_m1 40 rfl rfl
set_option maxRecDepth 20000 in
theorem w_1_41 : Cond.instanceMethod y_Layer_init ∈ w_g := w_m1 41 rfl rfl
set_option maxRecDepth 20000 in
theorem w_1_42 : Cond.code y_Layer_init prog_4_method_1_code 2 none ∈ w_g := w_m1 42 rfl rfl
set_option maxRecDepth 20000 in
theorem w_1_43 : Cond.methodLink "DecisionLayers$Layer" 3 y_Object_init ∈ w_g := w_m1 43 rfl rfl
set_option maxRecDepth 20000 in
theorem w_1_44 : Cond.classLink "DecisionLayers$Layer" 11 "DecisionLayers$Statement" ∈ w_g := w_m1 44 rfl rfl
set_option maxRecDepth 20000 in
theorem w_1_46 : Cond.instantiable "DecisionLayers$Statement" 5 ∈ w_g := w_m1 46 rfl rfl
set_option maxRecDepth 20000 in
theorem w_1_48 : Cond.instanceMethod y_Statement_init ∈ w_g := w_m1 48 rfl rfl
set_option maxRecDepth 20000 in
theorem w_1_49 : Cond.code y_Statement_init prog_6_method_1_code 1 none ∈ w_g := w_m1 49 rfl rfl
set_option maxRecDepth 20000 in
theorem w_1_50 : Cond.methodLink "DecisionLayers$Statement" 1 y_Object_init ∈ w_g := w_m1 50 rfl rfl
set_option maxRecDepth 20000 in
theorem w_1_51 : Cond.fieldLink "DecisionLayers$Statement" 9 "DecisionLayers$Statement" "how" "I" ∈ w_g := w_m1 51 rfl rfl
set_option maxRecDepth 20000 in
theorem w_1_52 : Cond.fieldLink "DecisionLayers$Statement" 13 "DecisionLayers$Statement" "actions" "J" ∈ w_g := w_m1 52 rfl rfl
set_option maxRecDepth 20000 in
theorem w_1_53 : Cond.fieldLink "DecisionLayers$Statement" 17 "DecisionLayers$Statement" "things" "J" ∈ w_g := w_m1 53 rfl rfl
set_option maxRecDepth 20000 in
theorem w_1_54 : Cond.fieldLink "DecisionLayers$Statement" 20 "DecisionLayers$Statement" "who" "I" ∈ w_g := w_m1 54 rfl rfl
set_option maxRecDepth 20000 in
theorem w_1_55 : Cond.fieldLink "DecisionLayers$Statement" 23 "DecisionLayers$Statement" "condition" "LDecisionLayers$Condition;" ∈ w_g := w_m1 55 rfl rfl
set_option maxRecDepth 20000 in
theorem w_1_56 : Cond.lays "DecisionLayers$Statement" "DecisionLayers$Statement" "how" "I" ∈ w_g := w_m1 56 rfl rfl
set_option maxRecDepth 20000 in
theorem w_1_58 : Cond.lays "DecisionLayers$Statement" "DecisionLayers$Statement" "actions" "J" ∈ w_g := w_m1 58 rfl rfl
set_option maxRecDepth 20000 in
theorem w_1_60 : Cond.lays "DecisionLayers$Statement" "DecisionLayers$Statement" "things" "J" ∈ w_g := w_m1 60 rfl rfl
set_option maxRecDepth 20000 in
theorem w_1_62 : Cond.lays "DecisionLayers$Statement" "DecisionLayers$Statement" "who" "I" ∈ w_g := w_m1 62 rfl rfl
set_option maxRecDepth 20000 in
theorem w_1_64 : Cond.lays "DecisionLayers$Statement" "DecisionLayers$Statement" "condition" "LDecisionLayers$Condition;" ∈ w_g := w_m1 64 rfl rfl
set_option maxRecDepth 20000 in
theorem w_1_67 : Cond.fieldLink "DecisionLayers$Layer" 13 "DecisionLayers$Layer" "rows" "[LDecisionLayers$Statement;" ∈ w_g := w_m1 67 rfl rfl
set_option maxRecDepth 20000 in
theorem w_1_68 : Cond.fieldLink "DecisionLayers$Layer" 18 "DecisionLayers$Layer" "count" "I" ∈ w_g := w_m1 68 rfl rfl
set_option maxRecDepth 20000 in
theorem w_1_70 : Cond.fieldLink "DecisionLayers$Layer" 26 "DecisionLayers$Layer" "present" "Z" ∈ w_g := w_m1 70 rfl rfl
set_option maxRecDepth 20000 in
theorem w_1_72 : Cond.fieldLink "DecisionLayers$Layer" 30 "DecisionLayers$Layer" "judged" "I" ∈ w_g := w_m1 72 rfl rfl
set_option maxRecDepth 20000 in
theorem w_1_74 : Cond.laysFinal "DecisionLayers$Layer" "DecisionLayers$Layer" "rows" "[LDecisionLayers$Statement;" ∈ w_g := w_m1 74 rfl rfl
set_option maxRecDepth 20000 in
theorem w_1_76 : Cond.lays "DecisionLayers$Layer" "DecisionLayers$Layer" "count" "I" ∈ w_g := w_m1 76 rfl rfl
set_option maxRecDepth 20000 in
theorem w_1_78 : Cond.lays "DecisionLayers$Layer" "DecisionLayers$Layer" "present" "Z" ∈ w_g := w_m1 78 rfl rfl
set_option maxRecDepth 20000 in
theorem w_1_80 : Cond.lays "DecisionLayers$Layer" "DecisionLayers$Layer" "judged" "I" ∈ w_g := w_m1 80 rfl rfl
set_option maxRecDepth 20000 in
theorem w_1_83 : Cond.fieldLink "DecisionLayers" 10 "DecisionLayers" "values" "LDecisionLayers$Values;" ∈ w_g := w_m1 83 rfl rfl
set_option maxRecDepth 20000 in
theorem w_1_84 : Cond.fieldLink "DecisionLayers" 18 "DecisionLayers" "conditions" "[LDecisionLayers$Condition;" ∈ w_g := w_m1 84 rfl rfl
set_option maxRecDepth 20000 in
theorem w_1_85 : Cond.fieldLink "DecisionLayers" 24 "DecisionLayers" "layers" "[LDecisionLayers$Layer;" ∈ w_g := w_m1 85 rfl rfl
set_option maxRecDepth 20000 in
theorem w_1_86 : Cond.fieldLink "DecisionLayers" 29 "DecisionLayers" "piled" "I" ∈ w_g := w_m1 86 rfl rfl
set_option maxRecDepth 20000 in
theorem w_1_87 : Cond.fieldLink "DecisionLayers" 33 "DecisionLayers" "decider" "I" ∈ w_g := w_m1 87 rfl rfl
set_option maxRecDepth 20000 in
theorem w_1_88 : Cond.laysFinal "DecisionLayers" "DecisionLayers" "values" "LDecisionLayers$Values;" ∈ w_g := w_m1 88 rfl rfl
set_option maxRecDepth 20000 in
theorem w_1_90 : Cond.laysFinal "DecisionLayers" "DecisionLayers" "conditions" "[LDecisionLayers$Condition;" ∈ w_g := w_m1 90 rfl rfl
set_option maxRecDepth 20000 in
theorem w_1_92 : Cond.laysFinal "DecisionLayers" "DecisionLayers" "layers" "[LDecisionLayers$Layer;" ∈ w_g := w_m1 92 rfl rfl
set_option maxRecDepth 20000 in
theorem w_1_94 : Cond.lays "DecisionLayers" "DecisionLayers" "piled" "I" ∈ w_g := w_m1 94 rfl rfl
set_option maxRecDepth 20000 in
theorem w_1_96 : Cond.lays "DecisionLayers" "DecisionLayers" "decider" "I" ∈ w_g := w_m1 96 rfl rfl
set_option maxRecDepth 20000 in
theorem w_1_99 : Cond.methodLink "DecisionLayersLaw" 15 y_DL_test ∈ w_g := w_m1 99 rfl rfl
set_option maxRecDepth 20000 in
theorem w_1_100 : Cond.instanceMethod y_DL_test ∈ w_g := w_m1 100 rfl rfl
set_option maxRecDepth 20000 in
theorem w_1_101 : Cond.selects "DecisionLayers" y_DL_test y_DL_test ∈ w_g := w_m1 101 rfl rfl
set_option maxRecDepth 20000 in
theorem w_1_102 : Cond.code y_DL_test prog_1_method_2_code 6 (Option.some FieldType.int) ∈ w_g := w_m1 102 rfl rfl
set_option maxRecDepth 20000 in
theorem w_1_103 : Cond.methodLink "DecisionLayers" 36 y_Values_isKey ∈ w_g := w_m1 103 rfl rfl
set_option maxRecDepth 20000 in
theorem w_1_104 : Cond.static y_Values_isKey ∈ w_g := w_m1 104 rfl rfl
set_option maxRecDepth 20000 in
theorem w_1_105 : Cond.code y_Values_isKey prog_9_method_2_code 1 (Option.some FieldType.boolean) ∈ w_g := w_m1 105 rfl rfl
set_option maxRecDepth 20000 in
theorem w_1_106 : Cond.classLink "DecisionLayers" 40 "DecisionLayers$Test" ∈ w_g := w_m1 106 rfl rfl
set_option maxRecDepth 20000 in
theorem w_1_107 : Cond.instantiable "DecisionLayers$Test" 5 ∈ w_g := w_m1 107 rfl rfl
set_option maxRecDepth 20000 in
theorem w_1_108 : Cond.methodLink "DecisionLayers" 42 y_Test_init ∈ w_g := w_m1 108 rfl rfl
set_option maxRecDepth 20000 in
theorem w_1_109 : Cond.instanceMethod y_Test_init ∈ w_g := w_m1 109 rfl rfl
set_option maxRecDepth 20000 in
theorem w_1_110 : Cond.code y_Test_init prog_7_method_1_code 6 none ∈ w_g := w_m1 110 rfl rfl
set_option maxRecDepth 20000 in
theorem w_1_111 : Cond.methodLink "DecisionLayers$Test" 1 y_Condition_init ∈ w_g := w_m1 111 rfl rfl
set_option maxRecDepth 20000 in
theorem w_1_112 : Cond.instanceMethod y_Condition_init ∈ w_g := w_m1 112 rfl rfl
set_option maxRecDepth 20000 in
theorem w_1_113 : Cond.code y_Condition_init prog_2_method_1_code 2 none ∈ w_g := w_m1 113 rfl rfl
set_option maxRecDepth 20000 in
theorem w_1_114 : Cond.methodLink "DecisionLayers$Condition" 1 y_Object_init ∈ w_g := w_m1 114 rfl rfl
set_option maxRecDepth 20000 in
theorem w_1_115 : Cond.fieldLink "DecisionLayers$Test" 7 "DecisionLayers$Test" "op" "I" ∈ w_g := w_m1 115 rfl rfl
set_option maxRecDepth 20000 in
theorem w_1_116 : Cond.fieldLink "DecisionLayers$Test" 13 "DecisionLayers$Test" "key" "I" ∈ w_g := w_m1 116 rfl rfl
set_option maxRecDepth 20000 in
theorem w_1_117 : Cond.fieldLink "DecisionLayers$Test" 16 "DecisionLayers$Test" "t" "J" ∈ w_g := w_m1 117 rfl rfl
set_option maxRecDepth 20000 in
theorem w_1_118 : Cond.fieldLink "DecisionLayers$Test" 20 "DecisionLayers$Test" "marks" "I" ∈ w_g := w_m1 118 rfl rfl
set_option maxRecDepth 20000 in
theorem w_1_119 : Cond.fieldLink "DecisionLayers$Condition" 7 "DecisionLayers$Condition" "depth" "I" ∈ w_g := w_m1 119 rfl rfl
set_option maxRecDepth 20000 in
theorem w_1_120 : Cond.fieldLink "DecisionLayers" 127 "DecisionLayers$Condition" "depth" "I" ∈ w_g := w_m1 120 rfl rfl
set_option maxRecDepth 20000 in
theorem w_1_121 : Cond.laysFinal "DecisionLayers$Test" "DecisionLayers$Test" "op" "I" ∈ w_g := w_m1 121 rfl rfl
set_option maxRecDepth 20000 in
theorem w_1_123 : Cond.laysFinal "DecisionLayers$Test" "DecisionLayers$Test" "key" "I" ∈ w_g := w_m1 123 rfl rfl
set_option maxRecDepth 20000 in
theorem w_1_125 : Cond.laysFinal "DecisionLayers$Test" "DecisionLayers$Test" "t" "J" ∈ w_g := w_m1 125 rfl rfl
set_option maxRecDepth 20000 in
theorem w_1_127 : Cond.laysFinal "DecisionLayers$Test" "DecisionLayers$Test" "marks" "I" ∈ w_g := w_m1 127 rfl rfl
set_option maxRecDepth 20000 in
theorem w_1_129 : Cond.laysFinal "DecisionLayers$Test" "DecisionLayers$Condition" "depth" "I" ∈ w_g := w_m1 129 rfl rfl
set_option maxRecDepth 20000 in
theorem w_1_132 : Cond.methodLink "DecisionLayers" 45 y_DL_push ∈ w_g := w_m1 132 rfl rfl
set_option maxRecDepth 20000 in
theorem w_1_134 : Cond.instanceMethod y_DL_push ∈ w_g := w_m1 134 rfl rfl
set_option maxRecDepth 20000 in
theorem w_1_135 : Cond.code y_DL_push prog_1_method_20_code 2 (Option.some FieldType.int) ∈ w_g := w_m1 135 rfl rfl
set_option maxRecDepth 20000 in
theorem w_1_136 : Cond.methodLink "DecisionLayersLaw" 20 y_DL_join ∈ w_g := w_m1 136 rfl rfl
set_option maxRecDepth 20000 in
theorem w_1_137 : Cond.instanceMethod y_DL_join ∈ w_g := w_m1 137 rfl rfl
set_option maxRecDepth 20000 in
theorem w_1_138 : Cond.selects "DecisionLayers" y_DL_join y_DL_join ∈ w_g := w_m1 138 rfl rfl
set_option maxRecDepth 20000 in
theorem w_1_139 : Cond.code y_DL_join prog_1_method_3_code 6 (Option.some FieldType.int) ∈ w_g := w_m1 139 rfl rfl
set_option maxRecDepth 20000 in
theorem w_1_140 : Cond.methodLink "DecisionLayers" 51 y_DL_greatestDepthOfTopmost ∈ w_g := w_m1 140 rfl rfl
set_option maxRecDepth 20000 in
theorem w_1_142 : Cond.instanceMethod y_DL_greatestDepthOfTopmost ∈ w_g := w_m1 142 rfl rfl
set_option maxRecDepth 20000 in
theorem w_1_143 : Cond.code y_DL_greatestDepthOfTopmost prog_1_method_22_code 5 (Option.some FieldType.int) ∈ w_g := w_m1 143 rfl rfl
set_option maxRecDepth 20000 in
theorem w_1_144 : Cond.methodLink "DecisionLayers" 130 y_Math_max ∈ w_g := w_m1 144 rfl rfl
set_option maxRecDepth 20000 in
theorem w_1_145 : Cond.static y_Math_max ∈ w_g := w_m1 145 rfl rfl
set_option maxRecDepth 20000 in
theorem w_1_146 : Cond.code y_Math_max prog_12_method_65_code 2 (Option.some FieldType.int) ∈ w_g := w_m1 146 rfl rfl
set_option maxRecDepth 20000 in
theorem w_1_147 : Cond.methodLink "DecisionLayers" 55 y_DL_pop ∈ w_g := w_m1 147 rfl rfl
set_option maxRecDepth 20000 in
theorem w_1_149 : Cond.instanceMethod y_DL_pop ∈ w_g := w_m1 149 rfl rfl
set_option maxRecDepth 20000 in
theorem w_1_150 : Cond.code y_DL_pop prog_1_method_21_code 2 (Option.some (FieldType.object "DecisionLayers$Condition")) ∈ w_g := w_m1 150 rfl rfl
set_option maxRecDepth 20000 in
theorem w_1_151 : Cond.classLink "DecisionLayers" 49 "DecisionLayers$Joined" ∈ w_g := w_m1 151 rfl rfl
set_option maxRecDepth 20000 in
theorem w_1_152 : Cond.instantiable "DecisionLayers$Joined" 3 ∈ w_g := w_m1 152 rfl rfl
set_option maxRecDepth 20000 in
theorem w_1_153 : Cond.methodLink "DecisionLayers" 59 y_Joined_init ∈ w_g := w_m1 153 rfl rfl
set_option maxRecDepth 20000 in
theorem w_1_154 : Cond.instanceMethod y_Joined_init ∈ w_g := w_m1 154 rfl rfl
set_option maxRecDepth 20000 in
theorem w_1_155 : Cond.code y_Joined_init prog_3_method_1_code 4 none ∈ w_g := w_m1 155 rfl rfl
set_option maxRecDepth 20000 in
theorem w_1_156 : Cond.methodLink "DecisionLayers$Joined" 1 y_Condition_init ∈ w_g := w_m1 156 rfl rfl
set_option maxRecDepth 20000 in
theorem w_1_157 : Cond.fieldLink "DecisionLayers$Joined" 7 "DecisionLayers$Joined" "kind" "I" ∈ w_g := w_m1 157 rfl rfl
set_option maxRecDepth 20000 in
theorem w_1_158 : Cond.fieldLink "DecisionLayers$Joined" 13 "DecisionLayers$Joined" "parts" "[LDecisionLayers$Condition;" ∈ w_g := w_m1 158 rfl rfl
set_option maxRecDepth 20000 in
theorem w_1_159 : Cond.laysFinal "DecisionLayers$Joined" "DecisionLayers$Joined" "kind" "I" ∈ w_g := w_m1 159 rfl rfl
set_option maxRecDepth 20000 in
theorem w_1_161 : Cond.laysFinal "DecisionLayers$Joined" "DecisionLayers$Joined" "parts" "[LDecisionLayers$Condition;" ∈ w_g := w_m1 161 rfl rfl
set_option maxRecDepth 20000 in
theorem w_1_163 : Cond.laysFinal "DecisionLayers$Joined" "DecisionLayers$Condition" "depth" "I" ∈ w_g := w_m1 163 rfl rfl
set_option maxRecDepth 20000 in
theorem w_1_165 : Cond.methodLink "DecisionLayersLaw" 25 y_DL_discard ∈ w_g := w_m1 165 rfl rfl
set_option maxRecDepth 20000 in
theorem w_1_166 : Cond.instanceMethod y_DL_discard ∈ w_g := w_m1 166 rfl rfl
set_option maxRecDepth 20000 in
theorem w_1_167 : Cond.selects "DecisionLayers" y_DL_discard y_DL_discard ∈ w_g := w_m1 167 rfl rfl
set_option maxRecDepth 20000 in
theorem w_1_168 : Cond.code y_DL_discard prog_1_method_4_code 1 (Option.some FieldType.boolean) ∈ w_g := w_m1 168 rfl rfl
set_option maxRecDepth 20000 in
theorem w_1_169 : Cond.methodLink "DecisionLayersLaw" 30 y_DL_pile ∈ w_g := w_m1 169 rfl rfl
set_option maxRecDepth 20000 in
theorem w_1_170 : Cond.instanceMethod y_DL_pile ∈ w_g := w_m1 170 rfl rfl
set_option maxRecDepth 20000 in
theorem w_1_171 : Cond.selects "DecisionLayers" y_DL_pile y_DL_pile ∈ w_g := w_m1 171 rfl rfl
set_option maxRecDepth 20000 in
theorem w_1_172 : Cond.code y_DL_pile prog_1_method_5_code 1 (Option.some FieldType.int) ∈ w_g := w_m1 172 rfl rfl
set_option maxRecDepth 20000 in
theorem w_1_173 : Cond.methodLink "DecisionLayersLaw" 35 y_DL_state ∈ w_g := w_m1 173 rfl rfl
set_option maxRecDepth 20000 in
theorem w_1_174 : Cond.instanceMethod y_DL_state ∈ w_g := w_m1 174 rfl rfl
set_option maxRecDepth 20000 in
theorem w_1_175 : Cond.selects "DecisionLayers" y_DL_state y_DL_state ∈ w_g := w_m1 175 rfl rfl
set_option maxRecDepth 20000 in
theorem w_1_176 : Cond.code y_DL_state prog_1_method_6_code 10 (Option.some FieldType.int) ∈ w_g := w_m1 176 rfl rfl
set_option maxRecDepth 20000 in
theorem w_1_177 : Cond.methodLink "DecisionLayers" 62 y_DL_isLayer ∈ w_g := w_m1 177 rfl rfl
set_option maxRecDepth 20000 in
theorem w_1_178 : Cond.static y_DL_isLayer ∈ w_g := w_m1 178 rfl rfl
set_option maxRecDepth 20000 in
theorem w_1_179 : Cond.code y_DL_isLayer prog_1_method_17_code 1 (Option.some FieldType.boolean) ∈ w_g := w_m1 179 rfl rfl
set_option maxRecDepth 20000 in
theorem w_1_180 : Cond.methodLink "DecisionLayers" 67 y_DL_mayStandIn ∈ w_g := w_m1 180 rfl rfl
set_option maxRecDepth 20000 in
theorem w_1_181 : Cond.static y_DL_mayStandIn ∈ w_g := w_m1 181 rfl rfl
set_option maxRecDepth 20000 in
theorem w_1_182 : Cond.code y_DL_mayStandIn prog_1_method_19_code 2 (Option.some FieldType.boolean) ∈ w_g := w_m1 182 rfl rfl
set_option maxRecDepth 20000 in
theorem w_1_183 : Cond.methodLink "DecisionLayers" 124 y_Statement_isWho ∈ w_g := w_m1 183 rfl rfl
set_option maxRecDepth 20000 in
theorem w_1_184 : Cond.static y_Statement_isWho ∈ w_g := w_m1 184 rfl rfl
set_option maxRecDepth 20000 in
theorem w_1_185 : Cond.code y_Statement_isWho prog_6_method_2_code 1 (Option.some FieldType.boolean) ∈ w_g := w_m1 185 rfl rfl
set_option maxRecDepth 20000 in
theorem w_1_186 : Cond.methodLink "DecisionLayers" 71 y_Layer_isFull ∈ w_g := w_m1 186 rfl rfl
set_option maxRecDepth 20000 in
theorem w_1_187 : Cond.instanceMethod y_Layer_isFull ∈ w_g := w_m1 187 rfl rfl
set_option maxRecDepth 20000 in
theorem w_1_188 : Cond.selects "DecisionLayers$Layer" y_Layer_isFull y_Layer_isFull ∈ w_g := w_m1 188 rfl rfl
set_option maxRecDepth 20000 in
theorem w_1_189 : Cond.code y_Layer_isFull prog_4_method_2_code 1 (Option.some FieldType.boolean) ∈ w_g := w_m1 189 rfl rfl
set_option maxRecDepth 20000 in
theorem w_1_190 : Cond.methodLink "DecisionLayers" 75 y_Layer_append ∈ w_g := w_m1 190 rfl rfl
set_option maxRecDepth 20000 in
theorem w_1_191 : Cond.instanceMethod y_Layer_append ∈ w_g := w_m1 191 rfl rfl
set_option maxRecDepth 20000 in
theorem w_1_192 : Cond.selects "DecisionLayers$Layer" y_Layer_append y_Layer_append ∈ w_g := w_m1 192 rfl rfl
set_option maxRecDepth 20000 in
theorem w_1_193 : Cond.code y_Layer_append prog_4_method_3_code 8 (Option.some FieldType.int) ∈ w_g := w_m1 193 rfl rfl
set_option maxRecDepth 20000 in
theorem w_1_194 : Cond.methodLink "DecisionLayers$Layer" 22 y_Statement_become ∈ w_g := w_m1 194 rfl rfl
set_option maxRecDepth 20000 in
theorem w_1_195 : Cond.instanceMethod y_Statement_become ∈ w_g := w_m1 195 rfl rfl
set_option maxRecDepth 20000 in
theorem w_1_196 : Cond.selects "DecisionLayers$Statement" y_Statement_become y_Statement_become ∈ w_g := w_m1 196 rfl rfl
set_option maxRecDepth 20000 in
theorem w_1_197 : Cond.code y_Statement_become prog_6_method_4_code 8 none ∈ w_g := w_m1 197 rfl rfl
set_option maxRecDepth 20000 in
theorem w_1_198 : Cond.methodLink "DecisionLayersLaw" 40 y_DL_open ∈ w_g := w_m1 198 rfl rfl
set_option maxRecDepth 20000 in
theorem w_1_199 : Cond.instanceMethod y_DL_open ∈ w_g := w_m1 199 rfl rfl
set_option maxRecDepth 20000 in
theorem w_1_200 : Cond.selects "DecisionLayers" y_DL_open y_DL_open ∈ w_g := w_m1 200 rfl rfl
set_option maxRecDepth 20000 in
theorem w_1_201 : Cond.code y_DL_open prog_1_method_7_code 2 (Option.some FieldType.boolean) ∈ w_g := w_m1 201 rfl rfl
set_option maxRecDepth 20000 in
theorem w_1_202 : Cond.methodLink "DecisionLayersLaw" 45 y_DL_drop ∈ w_g := w_m1 202 rfl rfl
set_option maxRecDepth 20000 in
theorem w_1_203 : Cond.instanceMethod y_DL_drop ∈ w_g := w_m1 203 rfl rfl
set_option maxRecDepth 20000 in
theorem w_1_204 : Cond.selects "DecisionLayers" y_DL_drop y_DL_drop ∈ w_g := w_m1 204 rfl rfl
set_option maxRecDepth 20000 in
theorem w_1_205 : Cond.code y_DL_drop prog_1_method_8_code 2 (Option.some FieldType.boolean) ∈ w_g := w_m1 205 rfl rfl
set_option maxRecDepth 20000 in
theorem w_1_206 : Cond.methodLink "DecisionLayers" 83 y_Layer_empty ∈ w_g := w_m1 206 rfl rfl
set_option maxRecDepth 20000 in
theorem w_1_207 : Cond.instanceMethod y_Layer_empty ∈ w_g := w_m1 207 rfl rfl
set_option maxRecDepth 20000 in
theorem w_1_208 : Cond.selects "DecisionLayers$Layer" y_Layer_empty y_Layer_empty ∈ w_g := w_m1 208 rfl rfl
set_option maxRecDepth 20000 in
theorem w_1_209 : Cond.code y_Layer_empty prog_4_method_4_code 1 none ∈ w_g := w_m1 209 rfl rfl
set_option maxRecDepth 20000 in
theorem w_1_210 : Cond.methodLink "DecisionLayersLaw" 49 y_DL_statements ∈ w_g := w_m1 210 rfl rfl
set_option maxRecDepth 20000 in
theorem w_1_211 : Cond.instanceMethod y_DL_statements ∈ w_g := w_m1 211 rfl rfl
set_option maxRecDepth 20000 in
theorem w_1_212 : Cond.selects "DecisionLayers" y_DL_statements y_DL_statements ∈ w_g := w_m1 212 rfl rfl
set_option maxRecDepth 20000 in
theorem w_1_213 : Cond.code y_DL_statements prog_1_method_9_code 2 (Option.some FieldType.int) ∈ w_g := w_m1 213 rfl rfl
set_option maxRecDepth 20000 in
theorem w_1_214 : Cond.methodLink "DecisionLayersLaw" 54 y_DL_offer ∈ w_g := w_m1 214 rfl rfl
set_option maxRecDepth 20000 in
theorem w_1_215 : Cond.instanceMethod y_DL_offer ∈ w_g := w_m1 215 rfl rfl
set_option maxRecDepth 20000 in
theorem w_1_216 : Cond.selects "DecisionLayers" y_DL_offer y_DL_offer ∈ w_g := w_m1 216 rfl rfl
set_option maxRecDepth 20000 in
theorem w_1_217 : Cond.code y_DL_offer prog_1_method_10_code 4 (Option.some FieldType.int) ∈ w_g := w_m1 217 rfl rfl
set_option maxRecDepth 20000 in
theorem w_1_218 : Cond.methodLink "DecisionLayers" 89 y_Values_isFull ∈ w_g := w_m1 218 rfl rfl
set_option maxRecDepth 20000 in
theorem w_1_219 : Cond.instanceMethod y_Values_isFull ∈ w_g := w_m1 219 rfl rfl
set_option maxRecDepth 20000 in
theorem w_1_220 : Cond.selects "DecisionLayers$Values" y_Values_isFull y_Values_isFull ∈ w_g := w_m1 220 rfl rfl
set_option maxRecDepth 20000 in
theorem w_1_221 : Cond.code y_Values_isFull prog_9_method_5_code 2 (Option.some FieldType.boolean) ∈ w_g := w_m1 221 rfl rfl
set_option maxRecDepth 20000 in
theorem w_1_222 : Cond.methodLink "DecisionLayers$Values" 17 y_Values_count ∈ w_g := w_m1 222 rfl rfl
set_option maxRecDepth 20000 in
theorem w_1_223 : Cond.instanceMethod y_Values_count ∈ w_g := w_m1 223 rfl rfl
set_option maxRecDepth 20000 in
theorem w_1_224 : Cond.selects "DecisionLayers$Values" y_Values_count y_Values_count ∈ w_g := w_m1 224 rfl rfl
set_option maxRecDepth 20000 in
theorem w_1_225 : Cond.code y_Values_count prog_9_method_3_code 2 (Option.some FieldType.int) ∈ w_g := w_m1 225 rfl rfl
set_option maxRecDepth 20000 in
theorem w_1_226 : Cond.methodLink "DecisionLayers" 91 y_Values_append ∈ w_g := w_m1 226 rfl rfl
set_option maxRecDepth 20000 in
theorem w_1_227 : Cond.instanceMethod y_Values_append ∈ w_g := w_m1 227 rfl rfl
set_option maxRecDepth 20000 in
theorem w_1_228 : Cond.selects "DecisionLayers$Values" y_Values_append y_Values_append ∈ w_g := w_m1 228 rfl rfl
set_option maxRecDepth 20000 in
theorem w_1_229 : Cond.code y_Values_append prog_9_method_6_code 4 (Option.some FieldType.int) ∈ w_g := w_m1 229 rfl rfl
set_option maxRecDepth 20000 in
theorem w_1_230 : Cond.methodLink "DecisionLayers$Values" 21 y_Values_isKey ∈ w_g := w_m1 230 rfl rfl
set_option maxRecDepth 20000 in
theorem w_1_231 : Cond.methodLink "DecisionLayersLaw" 59 y_DL_forget ∈ w_g := w_m1 231 rfl rfl
set_option maxRecDepth 20000 in
theorem w_1_232 : Cond.instanceMethod y_DL_forget ∈ w_g := w_m1 232 rfl rfl
set_option maxRecDepth 20000 in
theorem w_1_233 : Cond.selects "DecisionLayers" y_DL_forget y_DL_forget ∈ w_g := w_m1 233 rfl rfl
set_option maxRecDepth 20000 in
theorem w_1_234 : Cond.code y_DL_forget prog_1_method_11_code 2 (Option.some FieldType.int) ∈ w_g := w_m1 234 rfl rfl
set_option maxRecDepth 20000 in
theorem w_1_235 : Cond.methodLink "DecisionLayers" 94 y_Values_empty ∈ w_g := w_m1 235 rfl rfl
set_option maxRecDepth 20000 in
theorem w_1_236 : Cond.instanceMethod y_Values_empty ∈ w_g := w_m1 236 rfl rfl
set_option maxRecDepth 20000 in
theorem w_1_237 : Cond.selects "DecisionLayers$Values" y_Values_empty y_Values_empty ∈ w_g := w_m1 237 rfl rfl
set_option maxRecDepth 20000 in
theorem w_1_238 : Cond.code y_Values_empty prog_9_method_7_code 3 (Option.some FieldType.int) ∈ w_g := w_m1 238 rfl rfl
set_option maxRecDepth 20000 in
theorem w_1_239 : Cond.methodLink "DecisionLayersLaw" 63 y_DL_decide ∈ w_g := w_m1 239 rfl rfl
set_option maxRecDepth 20000 in
theorem w_2_0 : Cond.instanceMethod y_DL_decide ∈ w_g := w_m2 0 rfl rfl
set_option maxRecDepth 20000 in
theorem w_2_1 : Cond.selects "DecisionLayers" y_DL_decide y_DL_decide ∈ w_g := w_m2 1 rfl rfl
set_option maxRecDepth 20000 in
theorem w_2_2 : Cond.code y_DL_decide prog_1_method_12_code 10 (Option.some FieldType.int) ∈ w_g := w_m2 2 rfl rfl
set_option maxRecDepth 20000 in
theorem w_2_3 : Cond.methodLink "DecisionLayers" 96 y_DL_isDigit ∈ w_g := w_m2 3 rfl rfl
set_option maxRecDepth 20000 in
theorem w_2_4 : Cond.static y_DL_isDigit ∈ w_g := w_m2 4 rfl rfl
set_option maxRecDepth 20000 in
theorem w_2_5 : Cond.code y_DL_isDigit prog_1_method_18_code 1 (Option.some FieldType.boolean) ∈ w_g := w_m2 5 rfl rfl
set_option maxRecDepth 20000 in
theorem w_2_6 : Cond.methodLink "DecisionLayers" 99 y_Statement_whoOfUser ∈ w_g := w_m2 6 rfl rfl
set_option maxRecDepth 20000 in
theorem w_2_7 : Cond.static y_Statement_whoOfUser ∈ w_g := w_m2 7 rfl rfl
set_option maxRecDepth 20000 in
theorem w_2_8 : Cond.code y_Statement_whoOfUser prog_6_method_3_code 2 (Option.some FieldType.int) ∈ w_g := w_m2 8 rfl rfl
set_option maxRecDepth 20000 in
theorem w_2_9 : Cond.methodLink "DecisionLayers" 103 y_Layer_judge ∈ w_g := w_m2 9 rfl rfl
set_option maxRecDepth 20000 in
theorem w_2_10 : Cond.instanceMethod y_Layer_judge ∈ w_g := w_m2 10 rfl rfl
set_option maxRecDepth 20000 in
theorem w_2_11 : Cond.selects "DecisionLayers$Layer" y_Layer_judge y_Layer_judge ∈ w_g := w_m2 11 rfl rfl
set_option maxRecDepth 20000 in
theorem w_2_12 : Cond.code y_Layer_judge prog_4_method_5_code 8 none ∈ w_g := w_m2 12 rfl rfl
set_option maxRecDepth 20000 in
theorem w_2_13 : Cond.methodLink "DecisionLayers$Layer" 33 y_Statement_suits ∈ w_g := w_m2 13 rfl rfl
set_option maxRecDepth 20000 in
theorem w_2_14 : Cond.instanceMethod y_Statement_suits ∈ w_g := w_m2 14 rfl rfl
set_option maxRecDepth 20000 in
theorem w_2_15 : Cond.selects "DecisionLayers$Statement" y_Statement_suits y_Statement_suits ∈ w_g := w_m2 15 rfl rfl
set_option maxRecDepth 20000 in
theorem w_2_16 : Cond.code y_Statement_suits prog_6_method_7_code 9 (Option.some FieldType.boolean) ∈ w_g := w_m2 16 rfl rfl
set_option maxRecDepth 20000 in
theorem w_2_17 : Cond.methodLink "DecisionLayers$Statement" 27 y_Statement_means ∈ w_g := w_m2 17 rfl rfl
set_option maxRecDepth 20000 in
theorem w_2_19 : Cond.instanceMethod y_Statement_means ∈ w_g := w_m2 19 rfl rfl
set_option maxRecDepth 20000 in
theorem w_2_20 : Cond.code y_Statement_means prog_6_method_8_code 2 (Option.some FieldType.boolean) ∈ w_g := w_m2 20 rfl rfl
set_option maxRecDepth 20000 in
theorem w_2_21 : Cond.methodLink "DecisionLayers$Statement" 31 y_Pattern_fits ∈ w_g := w_m2 21 rfl rfl
set_option maxRecDepth 20000 in
theorem w_2_22 : Cond.static y_Pattern_fits ∈ w_g := w_m2 22 rfl rfl
set_option maxRecDepth 20000 in
theorem w_2_23 : Cond.code y_Pattern_fits prog_5_method_2_code 11 (Option.some FieldType.boolean) ∈ w_g := w_m2 23 rfl rfl
set_option maxRecDepth 20000 in
theorem w_2_24 : Cond.methodLink "DecisionLayers$Pattern" 7 y_Text_length ∈ w_g := w_m2 24 rfl rfl
set_option maxRecDepth 20000 in
theorem w_2_25 : Cond.static y_Text_length ∈ w_g := w_m2 25 rfl rfl
set_option maxRecDepth 20000 in
theorem w_2_26 : Cond.code y_Text_length prog_8_method_3_code 3 (Option.some FieldType.int) ∈ w_g := w_m2 26 rfl rfl
set_option maxRecDepth 20000 in
theorem w_2_27 : Cond.constantLong "DecisionLayers$Text" 9 (255 : Int64) ∈ w_g := w_m2 27 rfl rfl
set_option maxRecDepth 20000 in
theorem w_2_28 : Cond.methodLink "DecisionLayers$Pattern" 15 y_Text_charAt ∈ w_g := w_m2 28 rfl rfl
set_option maxRecDepth 20000 in
theorem w_2_29 : Cond.static y_Text_charAt ∈ w_g := w_m2 29 rfl rfl
set_option maxRecDepth 20000 in
theorem w_2_30 : Cond.code y_Text_charAt prog_8_method_2_code 3 (Option.some FieldType.int) ∈ w_g := w_m2 30 rfl rfl
set_option maxRecDepth 20000 in
theorem w_2_31 : Cond.methodLink "DecisionLayers$Pattern" 19 y_Pattern_meansSomething ∈ w_g := w_m2 31 rfl rfl
set_option maxRecDepth 20000 in
theorem w_2_32 : Cond.static y_Pattern_meansSomething ∈ w_g := w_m2 32 rfl rfl
set_option maxRecDepth 20000 in
theorem w_2_33 : Cond.code y_Pattern_meansSomething prog_5_method_3_code 2 (Option.some FieldType.boolean) ∈ w_g := w_m2 33 rfl rfl
set_option maxRecDepth 20000 in
theorem w_2_34 : Cond.methodLink "DecisionLayers$Pattern" 38 y_Values_count ∈ w_g := w_m2 34 rfl rfl
set_option maxRecDepth 20000 in
theorem w_2_35 : Cond.methodLink "DecisionLayers$Pattern" 23 y_Pattern_meaning ∈ w_g := w_m2 35 rfl rfl
set_option maxRecDepth 20000 in
theorem w_2_36 : Cond.static y_Pattern_meaning ∈ w_g := w_m2 36 rfl rfl
set_option maxRecDepth 20000 in
theorem w_2_37 : Cond.code y_Pattern_meaning prog_5_method_4_code 2 (Option.some FieldType.long) ∈ w_g := w_m2 37 rfl rfl
set_option maxRecDepth 20000 in
theorem w_2_38 : Cond.methodLink "DecisionLayers$Pattern" 44 y_Values_isKey ∈ w_g := w_m2 38 rfl rfl
set_option maxRecDepth 20000 in
theorem w_2_39 : Cond.methodLink "DecisionLayers$Pattern" 48 y_Values_get ∈ w_g := w_m2 39 rfl rfl
set_option maxRecDepth 20000 in
theorem w_2_40 : Cond.instanceMethod y_Values_get ∈ w_g := w_m2 40 rfl rfl
set_option maxRecDepth 20000 in
theorem w_2_41 : Cond.selects "DecisionLayers$Values" y_Values_get y_Values_get ∈ w_g := w_m2 41 rfl rfl
set_option maxRecDepth 20000 in
theorem w_2_42 : Cond.code y_Values_get prog_9_method_4_code 3 (Option.some FieldType.long) ∈ w_g := w_m2 42 rfl rfl
set_option maxRecDepth 20000 in
theorem w_2_43 : Cond.methodLink "DecisionLayers$Pattern" 27 y_Pattern_readText ∈ w_g := w_m2 43 rfl rfl
set_option maxRecDepth 20000 in
theorem w_2_44 : Cond.static y_Pattern_readText ∈ w_g := w_m2 44 rfl rfl
set_option maxRecDepth 20000 in
theorem w_2_45 : Cond.code y_Pattern_readText prog_5_method_7_code 13 (Option.some FieldType.int) ∈ w_g := w_m2 45 rfl rfl
set_option maxRecDepth 20000 in
theorem w_2_46 : Cond.methodLink "DecisionLayers$Pattern" 52 y_Text_isAlike ∈ w_g := w_m2 46 rfl rfl
set_option maxRecDepth 20000 in
theorem w_2_47 : Cond.static y_Text_isAlike ∈ w_g := w_m2 47 rfl rfl
set_option maxRecDepth 20000 in
theorem w_2_48 : Cond.code y_Text_isAlike prog_8_method_5_code 5 (Option.some FieldType.boolean) ∈ w_g := w_m2 48 rfl rfl
set_option maxRecDepth 20000 in
theorem w_2_49 : Cond.methodLink "DecisionLayers$Pattern" 31 y_Pattern_readAnyRow ∈ w_g := w_m2 49 rfl rfl
set_option maxRecDepth 20000 in
theorem w_2_50 : Cond.static y_Pattern_readAnyRow ∈ w_g := w_m2 50 rfl rfl
set_option maxRecDepth 20000 in
theorem w_2_51 : Cond.code y_Pattern_readAnyRow prog_5_method_5_code 5 (Option.some FieldType.int) ∈ w_g := w_m2 51 rfl rfl
set_option maxRecDepth 20000 in
theorem w_2_52 : Cond.methodLink "DecisionLayers$Pattern" 35 y_Pattern_readAnyOne ∈ w_g := w_m2 52 rfl rfl
set_option maxRecDepth 20000 in
theorem w_2_53 : Cond.static y_Pattern_readAnyOne ∈ w_g := w_m2 53 rfl rfl
set_option maxRecDepth 20000 in
theorem w_2_54 : Cond.code y_Pattern_readAnyOne prog_5_method_6_code 4 (Option.some FieldType.int) ∈ w_g := w_m2 54 rfl rfl
set_option maxRecDepth 20000 in
theorem w_2_55 : Cond.methodLink "DecisionLayers$Statement" 37 y_Condition_isMet ∈ w_g := w_m2 55 rfl rfl
set_option maxRecDepth 20000 in
theorem w_2_57 : Cond.sameMethod "DecisionLayers$Condition" "DecisionLayers$Condition" "isMet" "(LDecisionLayers$Values;)Z" ∈ w_g := w_m2 57 rfl rfl
set_option maxRecDepth 20000 in
theorem w_2_58 : Cond.selects "DecisionLayers$Joined" y_Condition_isMet y_Joined_isMet ∈ w_g := w_m2 58 rfl rfl
set_option maxRecDepth 20000 in
theorem w_2_59 : Cond.instanceMethod y_Joined_isMet ∈ w_g := w_m2 59 rfl rfl
set_option maxRecDepth 20000 in
theorem w_2_60 : Cond.code y_Joined_isMet prog_3_method_2_code 5 (Option.some FieldType.boolean) ∈ w_g := w_m2 60 rfl rfl
set_option maxRecDepth 20000 in
theorem w_2_61 : Cond.methodLink "DecisionLayers$Joined" 17 y_Condition_isMet ∈ w_g := w_m2 61 rfl rfl
set_option maxRecDepth 20000 in
theorem w_2_62 : Cond.instanceMethod y_Test_isMet ∈ w_g := w_m2 62 rfl rfl
set_option maxRecDepth 20000 in
theorem w_2_63 : Cond.code y_Test_isMet prog_7_method_2_code 7 (Option.some FieldType.boolean) ∈ w_g := w_m2 63 rfl rfl
set_option maxRecDepth 20000 in
theorem w_2_64 : Cond.methodLink "DecisionLayers$Test" 23 y_Values_count ∈ w_g := w_m2 64 rfl rfl
set_option maxRecDepth 20000 in
theorem w_2_65 : Cond.methodLink "DecisionLayers$Test" 29 y_Values_get ∈ w_g := w_m2 65 rfl rfl
set_option maxRecDepth 20000 in
theorem w_2_66 : Cond.methodLink "DecisionLayers$Test" 33 y_Test_saysYes ∈ w_g := w_m2 66 rfl rfl
set_option maxRecDepth 20000 in
theorem w_2_68 : Cond.instanceMethod y_Test_saysYes ∈ w_g := w_m2 68 rfl rfl
set_option maxRecDepth 20000 in
theorem w_2_69 : Cond.code y_Test_saysYes prog_7_method_3_code 4 (Option.some FieldType.boolean) ∈ w_g := w_m2 69 rfl rfl
set_option maxRecDepth 20000 in
theorem w_2_70 : Cond.methodLink "DecisionLayers$Test" 37 y_Text_isSame ∈ w_g := w_m2 70 rfl rfl
set_option maxRecDepth 20000 in
theorem w_2_71 : Cond.static y_Text_isSame ∈ w_g := w_m2 71 rfl rfl
set_option maxRecDepth 20000 in
theorem w_2_72 : Cond.code y_Text_isSame prog_8_method_4_code 6 (Option.some FieldType.boolean) ∈ w_g := w_m2 72 rfl rfl
set_option maxRecDepth 20000 in
theorem w_2_73 : Cond.methodLink "DecisionLayers$Text" 11 y_Text_length ∈ w_g := w_m2 73 rfl rfl
set_option maxRecDepth 20000 in
theorem w_2_74 : Cond.methodLink "DecisionLayers$Text" 15 y_Text_charAt ∈ w_g := w_m2 74 rfl rfl
set_option maxRecDepth 20000 in
theorem w_2_75 : Cond.methodLink "DecisionLayers$Test" 43 y_Pattern_fits ∈ w_g := w_m2 75 rfl rfl
set_option maxRecDepth 20000 in
theorem w_2_76 : Cond.methodLink "DecisionLayers$Test" 49 y_Test_hasPrefix ∈ w_g := w_m2 76 rfl rfl
set_option maxRecDepth 20000 in
theorem w_2_78 : Cond.instanceMethod y_Test_hasPrefix ∈ w_g := w_m2 78 rfl rfl
set_option maxRecDepth 20000 in
theorem w_2_79 : Cond.code y_Test_hasPrefix prog_7_method_4_code 6 (Option.some FieldType.boolean) ∈ w_g := w_m2 79 rfl rfl
set_option maxRecDepth 20000 in
theorem w_2_80 : Cond.methodLink "DecisionLayers$Test" 53 y_Math_min ∈ w_g := w_m2 80 rfl rfl
set_option maxRecDepth 20000 in
theorem w_2_81 : Cond.static y_Math_min ∈ w_g := w_m2 81 rfl rfl
set_option maxRecDepth 20000 in
theorem w_2_82 : Cond.code y_Math_min prog_12_method_69_code 2 (Option.some FieldType.int) ∈ w_g := w_m2 82 rfl rfl
set_option maxRecDepth 20000 in
theorem w_2_83 : Cond.constantLong "DecisionLayers$Test" 59 (4294967295 : Int64) ∈ w_g := w_m2 83 rfl rfl
set_option maxRecDepth 20000 in
theorem w_2_84 : Cond.selects "DecisionLayers$Test" y_Condition_isMet y_Test_isMet ∈ w_g := w_m2 84 rfl rfl
set_option maxRecDepth 20000 in
theorem w_2_85 : Cond.methodLink "DecisionLayers" 107 y_DL_conclude ∈ w_g := w_m2 85 rfl rfl
set_option maxRecDepth 20000 in
theorem w_2_87 : Cond.instanceMethod y_DL_conclude ∈ w_g := w_m2 87 rfl rfl
set_option maxRecDepth 20000 in
theorem w_2_88 : Cond.code y_DL_conclude prog_1_method_23_code 4 (Option.some FieldType.int) ∈ w_g := w_m2 88 rfl rfl
set_option maxRecDepth 20000 in
theorem w_2_89 : Cond.methodLink "DecisionLayers" 135 y_Layer_denies ∈ w_g := w_m2 89 rfl rfl
set_option maxRecDepth 20000 in
theorem w_2_90 : Cond.instanceMethod y_Layer_denies ∈ w_g := w_m2 90 rfl rfl
set_option maxRecDepth 20000 in
theorem w_2_91 : Cond.selects "DecisionLayers$Layer" y_Layer_denies y_Layer_denies ∈ w_g := w_m2 91 rfl rfl
set_option maxRecDepth 20000 in
theorem w_2_92 : Cond.code y_Layer_denies prog_4_method_6_code 1 (Option.some FieldType.boolean) ∈ w_g := w_m2 92 rfl rfl
set_option maxRecDepth 20000 in
theorem w_2_93 : Cond.methodLink "DecisionLayers$Layer" 37 y_Layer_hasJudged ∈ w_g := w_m2 93 rfl rfl
set_option maxRecDepth 20000 in
theorem w_2_95 : Cond.instanceMethod y_Layer_hasJudged ∈ w_g := w_m2 95 rfl rfl
set_option maxRecDepth 20000 in
theorem w_2_96 : Cond.code y_Layer_hasJudged prog_4_method_10_code 3 (Option.some FieldType.boolean) ∈ w_g := w_m2 96 rfl rfl
set_option maxRecDepth 20000 in
theorem w_2_97 : Cond.methodLink "DecisionLayers$Layer" 45 y_Layer_isJudged ∈ w_g := w_m2 97 rfl rfl
set_option maxRecDepth 20000 in
theorem w_2_99 : Cond.instanceMethod y_Layer_isJudged ∈ w_g := w_m2 99 rfl rfl
set_option maxRecDepth 20000 in
theorem w_2_100 : Cond.code y_Layer_isJudged prog_4_method_11_code 2 (Option.some FieldType.boolean) ∈ w_g := w_m2 100 rfl rfl
set_option maxRecDepth 20000 in
theorem w_2_101 : Cond.methodLink "DecisionLayers$Layer" 49 y_Statement_isDenying ∈ w_g := w_m2 101 rfl rfl
set_option maxRecDepth 20000 in
theorem w_2_102 : Cond.instanceMethod y_Statement_isDenying ∈ w_g := w_m2 102 rfl rfl
set_option maxRecDepth 20000 in
theorem w_2_103 : Cond.selects "DecisionLayers$Statement" y_Statement_isDenying y_Statement_isDenying ∈ w_g := w_m2 103 rfl rfl
set_option maxRecDepth 20000 in
theorem w_2_104 : Cond.code y_Statement_isDenying prog_6_method_5_code 1 (Option.some FieldType.boolean) ∈ w_g := w_m2 104 rfl rfl
set_option maxRecDepth 20000 in
theorem w_2_105 : Cond.methodLink "DecisionLayers" 138 y_DL_settle ∈ w_g := w_m2 105 rfl rfl
set_option maxRecDepth 20000 in
theorem w_2_107 : Cond.instanceMethod y_DL_settle ∈ w_g := w_m2 107 rfl rfl
set_option maxRecDepth 20000 in
theorem w_2_108 : Cond.code y_DL_settle prog_1_method_25_code 3 (Option.some FieldType.int) ∈ w_g := w_m2 108 rfl rfl
set_option maxRecDepth 20000 in
theorem w_2_109 : Cond.methodLink "DecisionLayers" 141 y_Layer_bars ∈ w_g := w_m2 109 rfl rfl
set_option maxRecDepth 20000 in
theorem w_2_110 : Cond.instanceMethod y_Layer_bars ∈ w_g := w_m2 110 rfl rfl
set_option maxRecDepth 20000 in
theorem w_2_111 : Cond.selects "DecisionLayers$Layer" y_Layer_bars y_Layer_bars ∈ w_g := w_m2 111 rfl rfl
set_option maxRecDepth 20000 in
theorem w_2_112 : Cond.code y_Layer_bars prog_4_method_8_code 1 (Option.some FieldType.boolean) ∈ w_g := w_m2 112 rfl rfl
set_option maxRecDepth 20000 in
theorem w_2_113 : Cond.methodLink "DecisionLayers$Layer" 41 y_Layer_allows ∈ w_g := w_m2 113 rfl rfl
set_option maxRecDepth 20000 in
theorem w_2_114 : Cond.instanceMethod y_Layer_allows ∈ w_g := w_m2 114 rfl rfl
set_option maxRecDepth 20000 in
theorem w_2_115 : Cond.selects "DecisionLayers$Layer" y_Layer_allows y_Layer_allows ∈ w_g := w_m2 115 rfl rfl
set_option maxRecDepth 20000 in
theorem w_2_116 : Cond.code y_Layer_allows prog_4_method_7_code 1 (Option.some FieldType.boolean) ∈ w_g := w_m2 116 rfl rfl
set_option maxRecDepth 20000 in
theorem w_2_117 : Cond.methodLink "DecisionLayers" 144 y_Layer_allowsByName ∈ w_g := w_m2 117 rfl rfl
set_option maxRecDepth 20000 in
theorem w_2_118 : Cond.instanceMethod y_Layer_allowsByName ∈ w_g := w_m2 118 rfl rfl
set_option maxRecDepth 20000 in
theorem w_2_119 : Cond.selects "DecisionLayers$Layer" y_Layer_allowsByName y_Layer_allowsByName ∈ w_g := w_m2 119 rfl rfl
set_option maxRecDepth 20000 in
theorem w_2_120 : Cond.code y_Layer_allowsByName prog_4_method_9_code 3 (Option.some FieldType.boolean) ∈ w_g := w_m2 120 rfl rfl
set_option maxRecDepth 20000 in
theorem w_2_121 : Cond.methodLink "DecisionLayers$Layer" 52 y_Statement_names ∈ w_g := w_m2 121 rfl rfl
set_option maxRecDepth 20000 in
theorem w_2_122 : Cond.instanceMethod y_Statement_names ∈ w_g := w_m2 122 rfl rfl
set_option maxRecDepth 20000 in
theorem w_2_123 : Cond.selects "DecisionLayers$Statement" y_Statement_names y_Statement_names ∈ w_g := w_m2 123 rfl rfl
set_option maxRecDepth 20000 in
theorem w_2_124 : Cond.code y_Statement_names prog_6_method_6_code 2 (Option.some FieldType.boolean) ∈ w_g := w_m2 124 rfl rfl
set_option maxRecDepth 20000 in
theorem w_2_125 : Cond.methodLink "DecisionLayers" 147 y_DL_concludeFromGrants ∈ w_g := w_m2 125 rfl rfl
set_option maxRecDepth 20000 in
theorem w_2_127 : Cond.instanceMethod y_DL_concludeFromGrants ∈ w_g := w_m2 127 rfl rfl
set_option maxRecDepth 20000 in
theorem w_2_128 : Cond.code y_DL_concludeFromGrants prog_1_method_24_code 5 (Option.some FieldType.int) ∈ w_g := w_m2 128 rfl rfl
set_option maxRecDepth 20000 in
theorem w_2_129 : Cond.methodLink "DecisionLayers" 151 y_Layer_allows ∈ w_g := w_m2 129 rfl rfl
set_option maxRecDepth 20000 in
theorem w_2_130 : Cond.methodLink "DecisionLayersLaw" 67 y_DL_layer ∈ w_g := w_m2 130 rfl rfl
set_option maxRecDepth 20000 in
theorem w_2_131 : Cond.instanceMethod y_DL_layer ∈ w_g := w_m2 131 rfl rfl
set_option maxRecDepth 20000 in
theorem w_2_132 : Cond.selects "DecisionLayers" y_DL_layer y_DL_layer ∈ w_g := w_m2 132 rfl rfl
set_option maxRecDepth 20000 in
theorem w_2_133 : Cond.code y_DL_layer prog_1_method_13_code 1 (Option.some FieldType.int) ∈ w_g := w_m2 133 rfl rfl
set_option maxRecDepth 20000 in
theorem w_2_134 : Cond.methodLink "DecisionLayersLaw" 71 y_DL_applied ∈ w_g := w_m2 134 rfl rfl
set_option maxRecDepth 20000 in
theorem w_2_135 : Cond.instanceMethod y_DL_applied ∈ w_g := w_m2 135 rfl rfl
set_option maxRecDepth 20000 in
theorem w_2_136 : Cond.selects "DecisionLayers" y_DL_applied y_DL_applied ∈ w_g := w_m2 136 rfl rfl
set_option maxRecDepth 20000 in
theorem w_2_137 : Cond.code y_DL_applied prog_1_method_14_code 2 (Option.some FieldType.int) ∈ w_g := w_m2 137 rfl rfl
set_option maxRecDepth 20000 in
theorem w_2_138 : Cond.methodLink "DecisionLayersLaw" 75 y_DL_matches ∈ w_g := w_m2 138 rfl rfl
set_option maxRecDepth 20000 in
theorem w_2_139 : Cond.instanceMethod y_DL_matches ∈ w_g := w_m2 139 rfl rfl
set_option maxRecDepth 20000 in
theorem w_2_140 : Cond.selects "DecisionLayers" y_DL_matches y_DL_matches ∈ w_g := w_m2 140 rfl rfl
set_option maxRecDepth 20000 in
theorem w_2_141 : Cond.code y_DL_matches prog_1_method_15_code 6 (Option.some FieldType.boolean) ∈ w_g := w_m2 141 rfl rfl
set_option maxRecDepth 20000 in
theorem w_2_142 : Cond.methodLink "DecisionLayers" 114 y_Pattern_fits ∈ w_g := w_m2 142 rfl rfl
set_option maxRecDepth 20000 in
theorem w_2_143 : Cond.methodLink "DecisionLayersLaw" 80 y_DL_holds ∈ w_g := w_m2 143 rfl rfl
set_option maxRecDepth 20000 in
theorem w_2_144 : Cond.instanceMethod y_DL_holds ∈ w_g := w_m2 144 rfl rfl
set_option maxRecDepth 20000 in
theorem w_2_145 : Cond.selects "DecisionLayers" y_DL_holds y_DL_holds ∈ w_g := w_m2 145 rfl rfl
set_option maxRecDepth 20000 in
theorem w_2_146 : Cond.code y_DL_holds prog_1_method_16_code 3 (Option.some FieldType.boolean) ∈ w_g := w_m2 146 rfl rfl
set_option maxRecDepth 20000 in
theorem w_2_147 : Cond.methodLink "DecisionLayers" 120 y_Condition_isMet ∈ w_g := w_m2 147 rfl rfl
set_option maxRecDepth 20000 in
theorem w_2_148 : Cond.classLink "DecisionLayersLaw" 10 "DecisionLayersModel" ∈ w_g := w_m2 148 rfl rfl
set_option maxRecDepth 20000 in
theorem w_2_149 : Cond.instantiable "DecisionLayersModel" 24 ∈ w_g := w_m2 149 rfl rfl
set_option maxRecDepth 20000 in
theorem w_2_150 : Cond.methodLink "DecisionLayersLaw" 12 y_M_init ∈ w_g := w_m2 150 rfl rfl
set_option maxRecDepth 20000 in
theorem w_2_151 : Cond.instanceMethod y_M_init ∈ w_g := w_m2 151 rfl rfl
set_option maxRecDepth 20000 in
theorem w_2_152 : Cond.code y_M_init prog_11_method_1_code 1 none ∈ w_g := w_m2 152 rfl rfl
set_option maxRecDepth 20000 in
theorem w_2_153 : Cond.methodLink "DecisionLayersModel" 1 y_Object_init ∈ w_g := w_m2 153 rfl rfl
set_option maxRecDepth 20000 in
theorem w_2_154 : Cond.fieldLink "DecisionLayersModel" 7 "DecisionLayersModel" "many" "[I" ∈ w_g := w_m2 154 rfl rfl
set_option maxRecDepth 20000 in
theorem w_2_155 : Cond.fieldLink "DecisionLayersModel" 13 "DecisionLayersModel" "value" "[J" ∈ w_g := w_m2 155 rfl rfl
set_option maxRecDepth 20000 in
theorem w_2_156 : Cond.fieldLink "DecisionLayersModel" 100 "DecisionLayersModel" "made" "I" ∈ w_g := w_m2 156 rfl rfl
set_option maxRecDepth 20000 in
theorem w_2_157 : Cond.fieldLink "DecisionLayersModel" 17 "DecisionLayersModel" "kind" "[B" ∈ w_g := w_m2 157 rfl rfl
set_option maxRecDepth 20000 in
theorem w_2_158 : Cond.fieldLink "DecisionLayersModel" 21 "DecisionLayersModel" "op" "[B" ∈ w_g := w_m2 158 rfl rfl
set_option maxRecDepth 20000 in
theorem w_2_159 : Cond.fieldLink "DecisionLayersModel" 24 "DecisionLayersModel" "key" "[B" ∈ w_g := w_m2 159 rfl rfl
set_option maxRecDepth 20000 in
theorem w_2_160 : Cond.fieldLink "DecisionLayersModel" 27 "DecisionLayersModel" "marks" "[B" ∈ w_g := w_m2 160 rfl rfl
set_option maxRecDepth 20000 in
theorem w_2_161 : Cond.fieldLink "DecisionLayersModel" 30 "DecisionLayersModel" "depth" "[B" ∈ w_g := w_m2 161 rfl rfl
set_option maxRecDepth 20000 in
theorem w_2_162 : Cond.fieldLink "DecisionLayersModel" 33 "DecisionLayersModel" "asked" "[J" ∈ w_g := w_m2 162 rfl rfl
set_option maxRecDepth 20000 in
theorem w_2_163 : Cond.fieldLink "DecisionLayersModel" 36 "DecisionLayersModel" "partOf" "[I" ∈ w_g := w_m2 163 rfl rfl
set_option maxRecDepth 20000 in
theorem w_2_164 : Cond.fieldLink "DecisionLayersModel" 39 "DecisionLayersModel" "hold" "[Z" ∈ w_g := w_m2 164 rfl rfl
set_option maxRecDepth 20000 in
theorem w_2_165 : Cond.fieldLink "DecisionLayersModel" 103 "DecisionLayersModel" "piled" "I" ∈ w_g := w_m2 165 rfl rfl
set_option maxRecDepth 20000 in
theorem w_2_166 : Cond.fieldLink "DecisionLayersModel" 43 "DecisionLayersModel" "pile" "[I" ∈ w_g := w_m2 166 rfl rfl
set_option maxRecDepth 20000 in
theorem w_2_167 : Cond.fieldLink "DecisionLayersModel" 46 "DecisionLayersModel" "present" "[Z" ∈ w_g := w_m2 167 rfl rfl
set_option maxRecDepth 20000 in
theorem w_2_168 : Cond.fieldLink "DecisionLayersModel" 49 "DecisionLayersModel" "count" "[I" ∈ w_g := w_m2 168 rfl rfl
set_option maxRecDepth 20000 in
theorem w_2_169 : Cond.fieldLink "DecisionLayersModel" 52 "DecisionLayersModel" "how" "[I" ∈ w_g := w_m2 169 rfl rfl
set_option maxRecDepth 20000 in
theorem w_2_170 : Cond.fieldLink "DecisionLayersModel" 55 "DecisionLayersModel" "actions" "[J" ∈ w_g := w_m2 170 rfl rfl
set_option maxRecDepth 20000 in
theorem w_2_171 : Cond.fieldLink "DecisionLayersModel" 58 "DecisionLayersModel" "things" "[J" ∈ w_g := w_m2 171 rfl rfl
set_option maxRecDepth 20000 in
theorem w_2_172 : Cond.fieldLink "DecisionLayersModel" 61 "DecisionLayersModel" "who" "[I" ∈ w_g := w_m2 172 rfl rfl
set_option maxRecDepth 20000 in
theorem w_2_173 : Cond.fieldLink "DecisionLayersModel" 64 "DecisionLayersModel" "condition" "[I" ∈ w_g := w_m2 173 rfl rfl
set_option maxRecDepth 20000 in
theorem w_2_174 : Cond.fieldLink "DecisionLayersModel" 67 "DecisionLayersModel" "decided" "I" ∈ w_g := w_m2 174 rfl rfl
set_option maxRecDepth 20000 in
theorem w_2_175 : Cond.fieldLink "DecisionLayersModel" 71 "DecisionLayersModel" "applies" "[I" ∈ w_g := w_m2 175 rfl rfl
set_option maxRecDepth 20000 in
theorem w_2_176 : Cond.fieldLink "DecisionLayersModel" 81 "DecisionLayersModel" "tokens" "I" ∈ w_g := w_m2 176 rfl rfl
set_option maxRecDepth 20000 in
theorem w_2_177 : Cond.fieldLink "DecisionLayersModel" 74 "DecisionLayersModel" "token" "[I" ∈ w_g := w_m2 177 rfl rfl
set_option maxRecDepth 20000 in
theorem w_2_178 : Cond.laysFinal "DecisionLayersModel" "DecisionLayersModel" "many" "[I" ∈ w_g := w_m2 178 rfl rfl
set_option maxRecDepth 20000 in
theorem w_2_180 : Cond.laysFinal "DecisionLayersModel" "DecisionLayersModel" "value" "[J" ∈ w_g := w_m2 180 rfl rfl
set_option maxRecDepth 20000 in
theorem w_2_182 : Cond.lays "DecisionLayersModel" "DecisionLayersModel" "made" "I" ∈ w_g := w_m2 182 rfl rfl
set_option maxRecDepth 20000 in
theorem w_2_184 : Cond.laysFinal "DecisionLayersModel" "DecisionLayersModel" "kind" "[B" ∈ w_g := w_m2 184 rfl rfl
set_option maxRecDepth 20000 in
theorem w_2_186 : Cond.laysFinal "DecisionLayersModel" "DecisionLayersModel" "op" "[B" ∈ w_g := w_m2 186 rfl rfl
set_option maxRecDepth 20000 in
theorem w_2_188 : Cond.laysFinal "DecisionLayersModel" "DecisionLayersModel" "key" "[B" ∈ w_g := w_m2 188 rfl rfl
set_option maxRecDepth 20000 in
theorem w_2_190 : Cond.laysFinal "DecisionLayersModel" "DecisionLayersModel" "marks" "[B" ∈ w_g := w_m2 190 rfl rfl
set_option maxRecDepth 20000 in
theorem w_2_192 : Cond.laysFinal "DecisionLayersModel" "DecisionLayersModel" "depth" "[B" ∈ w_g := w_m2 192 rfl rfl
set_option maxRecDepth 20000 in
theorem w_2_194 : Cond.laysFinal "DecisionLayersModel" "DecisionLayersModel" "asked" "[J" ∈ w_g := w_m2 194 rfl rfl
set_option maxRecDepth 20000 in
theorem w_2_196 : Cond.laysFinal "DecisionLayersModel" "DecisionLayersModel" "partOf" "[I" ∈ w_g := w_m2 196 rfl rfl
set_option maxRecDepth 20000 in
theorem w_2_198 : Cond.laysFinal "DecisionLayersModel" "DecisionLayersModel" "hold" "[Z" ∈ w_g := w_m2 198 rfl rfl
set_option maxRecDepth 20000 in
theorem w_2_200 : Cond.lays "DecisionLayersModel" "DecisionLayersModel" "piled" "I" ∈ w_g := w_m2 200 rfl rfl
set_option maxRecDepth 20000 in
theorem w_2_202 : Cond.laysFinal "DecisionLayersModel" "DecisionLayersModel" "pile" "[I" ∈ w_g := w_m2 202 rfl rfl
set_option maxRecDepth 20000 in
theorem w_2_204 : Cond.laysFinal "DecisionLayersModel" "DecisionLayersModel" "present" "[Z" ∈ w_g := w_m2 204 rfl rfl
set_option maxRecDepth 20000 in
theorem w_2_206 : Cond.laysFinal "DecisionLayersModel" "DecisionLayersModel" "count" "[I" ∈ w_g := w_m2 206 rfl rfl
set_option maxRecDepth 20000 in
theorem w_2_208 : Cond.laysFinal "DecisionLayersModel" "DecisionLayersModel" "how" "[I" ∈ w_g := w_m2 208 rfl rfl
set_option maxRecDepth 20000 in
theorem w_2_210 : Cond.laysFinal "DecisionLayersModel" "DecisionLayersModel" "actions" "[J" ∈ w_g := w_m2 210 rfl rfl
set_option maxRecDepth 20000 in
theorem w_2_212 : Cond.laysFinal "DecisionLayersModel" "DecisionLayersModel" "things" "[J" ∈ w_g := w_m2 212 rfl rfl
set_option maxRecDepth 20000 in
theorem w_2_214 : Cond.laysFinal "DecisionLayersModel" "DecisionLayersModel" "who" "[I" ∈ w_g := w_m2 214 rfl rfl
set_option maxRecDepth 20000 in
theorem w_2_216 : Cond.laysFinal "DecisionLayersModel" "DecisionLayersModel" "condition" "[I" ∈ w_g := w_m2 216 rfl rfl
set_option maxRecDepth 20000 in
theorem w_2_218 : Cond.lays "DecisionLayersModel" "DecisionLayersModel" "decided" "I" ∈ w_g := w_m2 218 rfl rfl
set_option maxRecDepth 20000 in
theorem w_2_220 : Cond.laysFinal "DecisionLayersModel" "DecisionLayersModel" "applies" "[I" ∈ w_g := w_m2 220 rfl rfl
set_option maxRecDepth 20000 in
theorem w_2_222 : Cond.lays "DecisionLayersModel" "DecisionLayersModel" "tokens" "I" ∈ w_g := w_m2 222 rfl rfl
set_option maxRecDepth 20000 in
theorem w_2_224 : Cond.laysFinal "DecisionLayersModel" "DecisionLayersModel" "token" "[I" ∈ w_g := w_m2 224 rfl rfl
set_option maxRecDepth 20000 in
theorem w_2_227 : Cond.arrayClass FieldType.byte ∈ w_g := w_m2 227 rfl rfl
set_option maxRecDepth 20000 in
theorem w_2_228 : Cond.arrayClass FieldType.boolean ∈ w_g := w_m2 228 rfl rfl
set_option maxRecDepth 20000 in
theorem w_2_229 : Cond.methodLink "DecisionLayersLaw" 79 y_M_matches ∈ w_g := w_m2 229 rfl rfl
set_option maxRecDepth 20000 in
theorem w_2_230 : Cond.instanceMethod y_M_matches ∈ w_g := w_m2 230 rfl rfl
set_option maxRecDepth 20000 in
theorem w_2_231 : Cond.selects "DecisionLayersModel" y_M_matches y_M_matches ∈ w_g := w_m2 231 rfl rfl
set_option maxRecDepth 20000 in
theorem w_2_232 : Cond.code y_M_matches prog_11_method_7_code 13 (Option.some FieldType.boolean) ∈ w_g := w_m2 232 rfl rfl
set_option maxRecDepth 20000 in
theorem w_2_233 : Cond.methodLink "DecisionLayersModel" 92 y_M_meant ∈ w_g := w_m2 233 rfl rfl
set_option maxRecDepth 20000 in
theorem w_2_235 : Cond.instanceMethod y_M_meant ∈ w_g := w_m2 235 rfl rfl
set_option maxRecDepth 20000 in
theorem w_2_236 : Cond.code y_M_meant prog_11_method_6_code 11 (Option.some FieldType.boolean) ∈ w_g := w_m2 236 rfl rfl
set_option maxRecDepth 20000 in
theorem w_2_237 : Cond.methodLink "DecisionLayersModel" 84 y_M_length ∈ w_g := w_m2 237 rfl rfl
set_option maxRecDepth 20000 in
theorem w_2_238 : Cond.static y_M_length ∈ w_g := w_m2 238 rfl rfl
set_option maxRecDepth 20000 in
theorem w_2_239 : Cond.code y_M_length prog_11_method_3_code 3 (Option.some FieldType.int) ∈ w_g := w_m2 239 rfl rfl
set_option maxRecDepth 20000 in
theorem w_3_0 : Cond.methodLink "DecisionLayersModel" 77 y_M_charAt ∈ w_g := w_m3 0 rfl rfl
set_option maxRecDepth 20000 in
theorem w_3_1 : Cond.static y_M_charAt ∈ w_g := w_m3 1 rfl rfl
set_option maxRecDepth 20000 in
theorem w_3_2 : Cond.code y_M_charAt prog_11_method_2_code 3 (Option.some FieldType.int) ∈ w_g := w_m3 2 rfl rfl
set_option maxRecDepth 20000 in
theorem w_3_3 : Cond.methodLink "DecisionLayersModel" 88 y_M_add ∈ w_g := w_m3 3 rfl rfl
set_option maxRecDepth 20000 in
theorem w_3_5 : Cond.instanceMethod y_M_add ∈ w_g := w_m3 5 rfl rfl
set_option maxRecDepth 20000 in
theorem w_3_6 : Cond.code y_M_add prog_11_method_5_code 2 none ∈ w_g := w_m3 6 rfl rfl
set_option maxRecDepth 20000 in
theorem w_3_7 : Cond.methodLink "DecisionLayersModel" 96 y_M_fold ∈ w_g := w_m3 7 rfl rfl
set_option maxRecDepth 20000 in
theorem w_3_8 : Cond.static y_M_fold ∈ w_g := w_m3 8 rfl rfl
set_option maxRecDepth 20000 in
theorem w_3_9 : Cond.code y_M_fold prog_11_method_4_code 2 (Option.some FieldType.int) ∈ w_g := w_m3 9 rfl rfl
set_option maxRecDepth 20000 in
theorem w_3_10 : Cond.methodLink "DecisionLayersLaw" 19 y_M_test ∈ w_g := w_m3 10 rfl rfl
set_option maxRecDepth 20000 in
theorem w_3_11 : Cond.instanceMethod y_M_test ∈ w_g := w_m3 11 rfl rfl
set_option maxRecDepth 20000 in
theorem w_3_12 : Cond.selects "DecisionLayersModel" y_M_test y_M_test ∈ w_g := w_m3 12 rfl rfl
set_option maxRecDepth 20000 in
theorem w_3_13 : Cond.code y_M_test prog_11_method_10_code 6 (Option.some FieldType.int) ∈ w_g := w_m3 13 rfl rfl
set_option maxRecDepth 20000 in
theorem w_3_14 : Cond.methodLink "DecisionLayersModel" 106 y_M_within ∈ w_g := w_m3 14 rfl rfl
set_option maxRecDepth 20000 in
theorem w_3_15 : Cond.static y_M_within ∈ w_g := w_m3 15 rfl rfl
set_option maxRecDepth 20000 in
theorem w_3_16 : Cond.code y_M_within prog_11_method_8_code 2 (Option.some FieldType.boolean) ∈ w_g := w_m3 16 rfl rfl
set_option maxRecDepth 20000 in
theorem w_3_17 : Cond.methodLink "DecisionLayersModel" 110 y_M_put ∈ w_g := w_m3 17 rfl rfl
set_option maxRecDepth 20000 in
theorem w_3_19 : Cond.instanceMethod y_M_put ∈ w_g := w_m3 19 rfl rfl
set_option maxRecDepth 20000 in
theorem w_3_20 : Cond.code y_M_put prog_11_method_9_code 1 (Option.some FieldType.int) ∈ w_g := w_m3 20 rfl rfl
set_option maxRecDepth 20000 in
theorem w_3_21 : Cond.methodLink "DecisionLayersLaw" 24 y_M_join ∈ w_g := w_m3 21 rfl rfl
set_option maxRecDepth 20000 in
theorem w_3_22 : Cond.instanceMethod y_M_join ∈ w_g := w_m3 22 rfl rfl
set_option maxRecDepth 20000 in
theorem w_3_23 : Cond.selects "DecisionLayersModel" y_M_join y_M_join ∈ w_g := w_m3 23 rfl rfl
set_option maxRecDepth 20000 in
theorem w_3_24 : Cond.code y_M_join prog_11_method_11_code 5 (Option.some FieldType.int) ∈ w_g := w_m3 24 rfl rfl
set_option maxRecDepth 20000 in
theorem w_3_25 : Cond.methodLink "DecisionLayersLaw" 29 y_M_discard ∈ w_g := w_m3 25 rfl rfl
set_option maxRecDepth 20000 in
theorem w_3_26 : Cond.instanceMethod y_M_discard ∈ w_g := w_m3 26 rfl rfl
set_option maxRecDepth 20000 in
theorem w_3_27 : Cond.selects "DecisionLayersModel" y_M_discard y_M_discard ∈ w_g := w_m3 27 rfl rfl
set_option maxRecDepth 20000 in
theorem w_3_28 : Cond.code y_M_discard prog_11_method_12_code 1 (Option.some FieldType.boolean) ∈ w_g := w_m3 28 rfl rfl
set_option maxRecDepth 20000 in
theorem w_3_29 : Cond.methodLink "DecisionLayersLaw" 34 y_M_pile ∈ w_g := w_m3 29 rfl rfl
set_option maxRecDepth 20000 in
theorem w_3_30 : Cond.instanceMethod y_M_pile ∈ w_g := w_m3 30 rfl rfl
set_option maxRecDepth 20000 in
theorem w_3_31 : Cond.selects "DecisionLayersModel" y_M_pile y_M_pile ∈ w_g := w_m3 31 rfl rfl
set_option maxRecDepth 20000 in
theorem w_3_32 : Cond.code y_M_pile prog_11_method_13_code 1 (Option.some FieldType.int) ∈ w_g := w_m3 32 rfl rfl
set_option maxRecDepth 20000 in
theorem w_3_33 : Cond.methodLink "DecisionLayersLaw" 83 y_M_holds ∈ w_g := w_m3 33 rfl rfl
set_option maxRecDepth 20000 in
theorem w_3_34 : Cond.instanceMethod y_M_holds ∈ w_g := w_m3 34 rfl rfl
set_option maxRecDepth 20000 in
theorem w_3_35 : Cond.selects "DecisionLayersModel" y_M_holds y_M_holds ∈ w_g := w_m3 35 rfl rfl
set_option maxRecDepth 20000 in
theorem w_3_36 : Cond.code y_M_holds prog_11_method_19_code 2 (Option.some FieldType.boolean) ∈ w_g := w_m3 36 rfl rfl
set_option maxRecDepth 20000 in
theorem w_3_37 : Cond.methodLink "DecisionLayersModel" 135 y_M_settle ∈ w_g := w_m3 37 rfl rfl
set_option maxRecDepth 20000 in
theorem w_3_39 : Cond.instanceMethod y_M_settle ∈ w_g := w_m3 39 rfl rfl
set_option maxRecDepth 20000 in
theorem w_3_40 : Cond.code y_M_settle prog_11_method_18_code 3 none ∈ w_g := w_m3 40 rfl rfl
set_option maxRecDepth 20000 in
theorem w_3_41 : Cond.methodLink "DecisionLayersModel" 131 y_M_tested ∈ w_g := w_m3 41 rfl rfl
set_option maxRecDepth 20000 in
theorem w_3_43 : Cond.instanceMethod y_M_tested ∈ w_g := w_m3 43 rfl rfl
set_option maxRecDepth 20000 in
theorem w_3_44 : Cond.code y_M_tested prog_11_method_17_code 8 (Option.some FieldType.boolean) ∈ w_g := w_m3 44 rfl rfl
set_option maxRecDepth 20000 in
theorem w_3_45 : Cond.methodLink "DecisionLayersModel" 127 y_M_answers ∈ w_g := w_m3 45 rfl rfl
set_option maxRecDepth 20000 in
theorem w_3_47 : Cond.instanceMethod y_M_answers ∈ w_g := w_m3 47 rfl rfl
set_option maxRecDepth 20000 in
theorem w_3_48 : Cond.code y_M_answers prog_11_method_16_code 6 (Option.some FieldType.boolean) ∈ w_g := w_m3 48 rfl rfl
set_option maxRecDepth 20000 in
theorem w_3_49 : Cond.methodLink "DecisionLayersModel" 116 y_M_sameText ∈ w_g := w_m3 49 rfl rfl
set_option maxRecDepth 20000 in
theorem w_3_50 : Cond.static y_M_sameText ∈ w_g := w_m3 50 rfl rfl
set_option maxRecDepth 20000 in
theorem w_3_51 : Cond.code y_M_sameText prog_11_method_14_code 6 (Option.some FieldType.boolean) ∈ w_g := w_m3 51 rfl rfl
set_option maxRecDepth 20000 in
theorem w_3_52 : Cond.methodLink "DecisionLayersModel" 120 y_M_matches ∈ w_g := w_m3 52 rfl rfl
set_option maxRecDepth 20000 in
theorem w_3_53 : Cond.methodLink "DecisionLayersModel" 124 y_M_sameBits ∈ w_g := w_m3 53 rfl rfl
set_option maxRecDepth 20000 in
theorem w_3_54 : Cond.static y_M_sameBits ∈ w_g := w_m3 54 rfl rfl
set_option maxRecDepth 20000 in
theorem w_3_55 : Cond.code y_M_sameBits prog_11_method_15_code 7 (Option.some FieldType.boolean) ∈ w_g := w_m3 55 rfl rfl
set_option maxRecDepth 20000 in
theorem w_3_56 : Cond.constantLong "DecisionLayersModel" 114 (63 : Int64) ∈ w_g := w_m3 56 rfl rfl
set_option maxRecDepth 20000 in
theorem w_3_57 : Cond.methodLink "DecisionLayersLaw" 39 y_M_state ∈ w_g := w_m3 57 rfl rfl
set_option maxRecDepth 20000 in
theorem w_3_58 : Cond.instanceMethod y_M_state ∈ w_g := w_m3 58 rfl rfl
set_option maxRecDepth 20000 in
theorem w_3_59 : Cond.selects "DecisionLayersModel" y_M_state y_M_state ∈ w_g := w_m3 59 rfl rfl
set_option maxRecDepth 20000 in
theorem w_3_60 : Cond.code y_M_state prog_11_method_20_code 10 (Option.some FieldType.int) ∈ w_g := w_m3 60 rfl rfl
set_option maxRecDepth 20000 in
theorem w_3_61 : Cond.methodLink "DecisionLayersLaw" 44 y_M_open ∈ w_g := w_m3 61 rfl rfl
set_option maxRecDepth 20000 in
theorem w_3_62 : Cond.instanceMethod y_M_open ∈ w_g := w_m3 62 rfl rfl
set_option maxRecDepth 20000 in
theorem w_3_63 : Cond.selects "DecisionLayersModel" y_M_open y_M_open ∈ w_g := w_m3 63 rfl rfl
set_option maxRecDepth 20000 in
theorem w_3_64 : Cond.code y_M_open prog_11_method_21_code 2 (Option.some FieldType.boolean) ∈ w_g := w_m3 64 rfl rfl
set_option maxRecDepth 20000 in
theorem w_3_65 : Cond.methodLink "DecisionLayersLaw" 48 y_M_drop ∈ w_g := w_m3 65 rfl rfl
set_option maxRecDepth 20000 in
theorem w_3_66 : Cond.instanceMethod y_M_drop ∈ w_g := w_m3 66 rfl rfl
set_option maxRecDepth 20000 in
theorem w_3_67 : Cond.selects "DecisionLayersModel" y_M_drop y_M_drop ∈ w_g := w_m3 67 rfl rfl
set_option maxRecDepth 20000 in
theorem w_3_68 : Cond.code y_M_drop prog_11_method_22_code 2 (Option.some FieldType.boolean) ∈ w_g := w_m3 68 rfl rfl
set_option maxRecDepth 20000 in
theorem w_3_69 : Cond.methodLink "DecisionLayersLaw" 53 y_M_statements ∈ w_g := w_m3 69 rfl rfl
set_option maxRecDepth 20000 in
theorem w_3_70 : Cond.instanceMethod y_M_statements ∈ w_g := w_m3 70 rfl rfl
set_option maxRecDepth 20000 in
theorem w_3_71 : Cond.selects "DecisionLayersModel" y_M_statements y_M_statements ∈ w_g := w_m3 71 rfl rfl
set_option maxRecDepth 20000 in
theorem w_3_72 : Cond.code y_M_statements prog_11_method_23_code 2 (Option.some FieldType.int) ∈ w_g := w_m3 72 rfl rfl
set_option maxRecDepth 20000 in
theorem w_3_73 : Cond.methodLink "DecisionLayersLaw" 58 y_M_offer ∈ w_g := w_m3 73 rfl rfl
set_option maxRecDepth 20000 in
theorem w_3_74 : Cond.instanceMethod y_M_offer ∈ w_g := w_m3 74 rfl rfl
set_option maxRecDepth 20000 in
theorem w_3_75 : Cond.selects "DecisionLayersModel" y_M_offer y_M_offer ∈ w_g := w_m3 75 rfl rfl
set_option maxRecDepth 20000 in
theorem w_3_76 : Cond.code y_M_offer prog_11_method_24_code 4 (Option.some FieldType.int) ∈ w_g := w_m3 76 rfl rfl
set_option maxRecDepth 20000 in
theorem w_3_77 : Cond.methodLink "DecisionLayersLaw" 62 y_M_forget ∈ w_g := w_m3 77 rfl rfl
set_option maxRecDepth 20000 in
theorem w_3_78 : Cond.instanceMethod y_M_forget ∈ w_g := w_m3 78 rfl rfl
set_option maxRecDepth 20000 in
theorem w_3_79 : Cond.selects "DecisionLayersModel" y_M_forget y_M_forget ∈ w_g := w_m3 79 rfl rfl
set_option maxRecDepth 20000 in
theorem w_3_80 : Cond.code y_M_forget prog_11_method_25_code 3 (Option.some FieldType.int) ∈ w_g := w_m3 80 rfl rfl
set_option maxRecDepth 20000 in
theorem w_3_81 : Cond.methodLink "DecisionLayersLaw" 66 y_M_decide ∈ w_g := w_m3 81 rfl rfl
set_option maxRecDepth 20000 in
theorem w_3_82 : Cond.instanceMethod y_M_decide ∈ w_g := w_m3 82 rfl rfl
set_option maxRecDepth 20000 in
theorem w_3_83 : Cond.selects "DecisionLayersModel" y_M_decide y_M_decide ∈ w_g := w_m3 83 rfl rfl
set_option maxRecDepth 20000 in
theorem w_3_84 : Cond.code y_M_decide prog_11_method_29_code 11 (Option.some FieldType.int) ∈ w_g := w_m3 84 rfl rfl
set_option maxRecDepth 20000 in
theorem w_3_85 : Cond.methodLink "DecisionLayersModel" 138 y_M_does ∈ w_g := w_m3 85 rfl rfl
set_option maxRecDepth 20000 in
theorem w_3_87 : Cond.instanceMethod y_M_does ∈ w_g := w_m3 87 rfl rfl
set_option maxRecDepth 20000 in
theorem w_3_88 : Cond.code y_M_does prog_11_method_26_code 11 (Option.some FieldType.boolean) ∈ w_g := w_m3 88 rfl rfl
set_option maxRecDepth 20000 in
theorem w_3_89 : Cond.methodLink "DecisionLayersModel" 142 y_M_some ∈ w_g := w_m3 89 rfl rfl
set_option maxRecDepth 20000 in
theorem w_3_91 : Cond.instanceMethod y_M_some ∈ w_g := w_m3 91 rfl rfl
set_option maxRecDepth 20000 in
theorem w_3_92 : Cond.code y_M_some prog_11_method_27_code 8 (Option.some FieldType.boolean) ∈ w_g := w_m3 92 rfl rfl
set_option maxRecDepth 20000 in
theorem w_3_93 : Cond.methodLink "DecisionLayersModel" 146 y_M_answer ∈ w_g := w_m3 93 rfl rfl
set_option maxRecDepth 20000 in
theorem w_3_95 : Cond.instanceMethod y_M_answer ∈ w_g := w_m3 95 rfl rfl
set_option maxRecDepth 20000 in
theorem w_3_96 : Cond.code y_M_answer prog_11_method_28_code 3 (Option.some FieldType.int) ∈ w_g := w_m3 96 rfl rfl
set_option maxRecDepth 20000 in
theorem w_3_97 : Cond.methodLink "DecisionLayersLaw" 70 y_M_layer ∈ w_g := w_m3 97 rfl rfl
set_option maxRecDepth 20000 in
theorem w_3_98 : Cond.instanceMethod y_M_layer ∈ w_g := w_m3 98 rfl rfl
set_option maxRecDepth 20000 in
theorem w_3_99 : Cond.selects "DecisionLayersModel" y_M_layer y_M_layer ∈ w_g := w_m3 99 rfl rfl
set_option maxRecDepth 20000 in
theorem w_3_100 : Cond.code y_M_layer prog_11_method_30_code 1 (Option.some FieldType.int) ∈ w_g := w_m3 100 rfl rfl
set_option maxRecDepth 20000 in
theorem w_3_101 : Cond.methodLink "DecisionLayersLaw" 74 y_M_applied ∈ w_g := w_m3 101 rfl rfl
set_option maxRecDepth 20000 in
theorem w_3_102 : Cond.instanceMethod y_M_applied ∈ w_g := w_m3 102 rfl rfl
set_option maxRecDepth 20000 in
theorem w_3_103 : Cond.selects "DecisionLayersModel" y_M_applied y_M_applied ∈ w_g := w_m3 103 rfl rfl
set_option maxRecDepth 20000 in
theorem w_3_104 : Cond.code y_M_applied prog_11_method_31_code 2 (Option.some FieldType.int) ∈ w_g := w_m3 104 rfl rfl
set_option maxRecDepth 20000 in
theorem w_3_105 : Cond.constantLong "DecisionLayersLaw" 13 (4294967295 : Int64) ∈ w_g := w_m3 105 rfl rfl
set_option maxRecDepth 20000 in
theorem w_0_0 : Cond.selects "DecisionLayers" y_DL_push y_DL_push ∈ w_g := w_m0 0 rfl rfl
set_option maxRecDepth 20000 in
theorem w_0_1 : Cond.selects "DecisionLayers" y_DL_greatestDepthOfTopmost y_DL_greatestDepthOfTopmost ∈ w_g := w_m0 1 rfl rfl
set_option maxRecDepth 20000 in
theorem w_0_2 : Cond.selects "DecisionLayers" y_DL_pop y_DL_pop ∈ w_g := w_m0 2 rfl rfl
set_option maxRecDepth 20000 in
theorem w_0_3 : Cond.selects "DecisionLayers$Statement" y_Statement_means y_Statement_means ∈ w_g := w_m0 3 rfl rfl
set_option maxRecDepth 20000 in
theorem w_0_4 : Cond.selects "DecisionLayers$Test" y_Test_saysYes y_Test_saysYes ∈ w_g := w_m0 4 rfl rfl
set_option maxRecDepth 20000 in
theorem w_0_5 : Cond.selects "DecisionLayers$Test" y_Test_hasPrefix y_Test_hasPrefix ∈ w_g := w_m0 5 rfl rfl
set_option maxRecDepth 20000 in
theorem w_0_6 : Cond.selects "DecisionLayers" y_DL_conclude y_DL_conclude ∈ w_g := w_m0 6 rfl rfl
set_option maxRecDepth 20000 in
theorem w_0_7 : Cond.selects "DecisionLayers$Layer" y_Layer_hasJudged y_Layer_hasJudged ∈ w_g := w_m0 7 rfl rfl
set_option maxRecDepth 20000 in
theorem w_0_8 : Cond.selects "DecisionLayers$Layer" y_Layer_isJudged y_Layer_isJudged ∈ w_g := w_m0 8 rfl rfl
set_option maxRecDepth 20000 in
theorem w_0_9 : Cond.selects "DecisionLayers" y_DL_settle y_DL_settle ∈ w_g := w_m0 9 rfl rfl
set_option maxRecDepth 20000 in
theorem w_0_10 : Cond.selects "DecisionLayers" y_DL_concludeFromGrants y_DL_concludeFromGrants ∈ w_g := w_m0 10 rfl rfl
set_option maxRecDepth 20000 in
theorem w_0_11 : Cond.selects "DecisionLayersModel" y_M_meant y_M_meant ∈ w_g := w_m0 11 rfl rfl
set_option maxRecDepth 20000 in
theorem w_0_12 : Cond.selects "DecisionLayersModel" y_M_add y_M_add ∈ w_g := w_m0 12 rfl rfl
set_option maxRecDepth 20000 in
theorem w_0_13 : Cond.selects "DecisionLayersModel" y_M_put y_M_put ∈ w_g := w_m0 13 rfl rfl
set_option maxRecDepth 20000 in
theorem w_0_14 : Cond.selects "DecisionLayersModel" y_M_settle y_M_settle ∈ w_g := w_m0 14 rfl rfl
set_option maxRecDepth 20000 in
theorem w_0_15 : Cond.selects "DecisionLayersModel" y_M_tested y_M_tested ∈ w_g := w_m0 15 rfl rfl
set_option maxRecDepth 20000 in
theorem w_0_16 : Cond.selects "DecisionLayersModel" y_M_answers y_M_answers ∈ w_g := w_m0 16 rfl rfl
set_option maxRecDepth 20000 in
theorem w_0_17 : Cond.selects "DecisionLayersModel" y_M_does y_M_does ∈ w_g := w_m0 17 rfl rfl
set_option maxRecDepth 20000 in
theorem w_0_18 : Cond.selects "DecisionLayersModel" y_M_some y_M_some ∈ w_g := w_m0 18 rfl rfl
set_option maxRecDepth 20000 in
theorem w_0_19 : Cond.selects "DecisionLayersModel" y_M_answer y_M_answer ∈ w_g := w_m0 19 rfl rfl
set_option maxRecDepth 20000 in
theorem in_Values : ∀ w ∈ u_ws "DecisionLayers$Values" F_Values 2, w ∈ w_g := by decide +kernel
set_option maxRecDepth 20000 in
theorem in_Layer : ∀ w ∈ u_ws "DecisionLayers$Layer" F_Layer 4, w ∈ w_g := by decide +kernel
set_option maxRecDepth 20000 in
theorem in_Statement : ∀ w ∈ u_ws "DecisionLayers$Statement" F_Statement 5, w ∈ w_g := by decide +kernel
set_option maxRecDepth 20000 in
theorem in_Test : ∀ w ∈ u_ws "DecisionLayers$Test" F_Test 5, w ∈ w_g := by decide +kernel
set_option maxRecDepth 20000 in
theorem in_Joined : ∀ w ∈ u_ws "DecisionLayers$Joined" F_Joined 3, w ∈ w_g := by decide +kernel
set_option maxRecDepth 20000 in
theorem in_DL : ∀ w ∈ u_ws "DecisionLayers" F_DL 5, w ∈ w_g := by decide +kernel
set_option maxRecDepth 20000 in
theorem in_M : ∀ w ∈ u_ws "DecisionLayersModel" F_M 24, w ∈ w_g := by decide +kernel
