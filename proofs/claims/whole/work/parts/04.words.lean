/-- the words of the tables that any walk may take along -/
def TT : List Cond := lw_tbl.filter goodWord
theorem tt_of {w : Cond} (n : Nat) (h : lw_tbl[n]? = some w) (g : goodWord w = true) : w ∈ TT := List.mem_filter.mpr ⟨List.mem_of_getElem? h, g⟩
theorem tt_good {w : Cond} (h : w ∈ TT) : (w.onTables && w.keeps) = true ∨ ∃ ty, w = .arrayClass ty := good_of_word (List.mem_filter.mp h).2
theorem tt_in {args : Array Value} {s : State} (h : ∀ w ∈ lw_tbl, w.before args s = true) : ∀ w ∈ TT, w.before args s = true := fun w hw => h w (List.mem_filter.mp hw).1
theorem tw_0 : Cond.selects "Tollweave" yX6_findJourneys yX6_findJourneys ∈ TT := tt_of 0 rfl rfl
theorem tw_1 : Cond.selects "Tollweave" yX6_placeReading yX6_placeReading ∈ TT := tt_of 1 rfl rfl
theorem tw_2 : Cond.selects "Tollweave" yX6_isDoubleOf yX6_isDoubleOf ∈ TT := tt_of 2 rfl rfl
theorem tw_3 : Cond.selects "Tollweave" yX6_goesOnFrom yX6_goesOnFrom ∈ TT := tt_of 3 rfl rfl
theorem tw_4 : Cond.selects "Tollweave" yX6_payWay yX6_payWay ∈ TT := tt_of 4 rfl rfl
theorem tw_5 : Cond.selects "Tollweave$Journeys" yX1_wholeOf yX1_wholeOf ∈ TT := tt_of 5 rfl rfl
theorem tw_6 : Cond.selects "Tollweave$Journeys" yX1_ownerOfTheMost yX1_ownerOfTheMost ∈ TT := tt_of 6 rfl rfl
theorem tw_7 : Cond.selects "Tollweave$Journeys" yX1_cutShare yX1_cutShare ∈ TT := tt_of 7 rfl rfl
theorem tw_8 : Cond.selects "java/lang/Throwable" ⟨"java/lang/Throwable","fillInStackTrace","(I)Ljava/lang/Throwable;"⟩ ⟨"java/lang/Throwable","fillInStackTrace","(I)Ljava/lang/Throwable;"⟩ ∈ TT := tt_of 8 rfl rfl
theorem tw_9 : Cond.selects "Tollweave" yX6_requireGate yX6_requireGate ∈ TT := tt_of 9 rfl rfl
theorem tw_10 : Cond.selects "Tollweave$Roads" yX4_shortenDistances yX4_shortenDistances ∈ TT := tt_of 10 rfl rfl
theorem tw_11 : Cond.selects "Tollweave" yX6_requireReading yX6_requireReading ∈ TT := tt_of 11 rfl rfl
theorem tw_12 : Cond.selects "Tollweave" yX6_isDoubleNow yX6_isDoubleNow ∈ TT := tt_of 12 rfl rfl
theorem tw_13 : Cond.selects "Tollweave" yX6_journeyNow yX6_journeyNow ∈ TT := tt_of 13 rfl rfl
theorem tw_14 : Cond.selects "Tollweave" yX6_dueToOwner yX6_dueToOwner ∈ TT := tt_of 14 rfl rfl
theorem tw_15 : Cond.selects "TollweaveModel" yX7_measures yX7_measures ∈ TT := tt_of 15 rfl rfl
theorem tw_16 : Cond.selects "TollweaveModel" yX7_isGate yX7_isGate ∈ TT := tt_of 16 rfl rfl
theorem tw_17 : Cond.selects "TollweaveModel" yX7_isReading yX7_isReading ∈ TT := tt_of 17 rfl rfl
theorem tw_18 : Cond.selects "TollweaveModel" yX7_dueOf yX7_dueOf ∈ TT := tt_of 18 rfl rfl
theorem tw_19 : Cond.selects "TollweaveModel" yX7_goes yX7_goes ∈ TT := tt_of 19 rfl rfl
theorem tw_20 : Cond.selects "TollweaveModel" yX7_nextReading yX7_nextReading ∈ TT := tt_of 20 rfl rfl
theorem tw_21 : Cond.selects "TollweaveModel" yX7_away yX7_away ∈ TT := tt_of 21 rfl rfl
theorem tw_22 : Cond.selects "TollweaveModel" yX7_pays yX7_pays ∈ TT := tt_of 22 rfl rfl
theorem tw_23 : Cond.selects "TollweaveModel" yX7_isExempt yX7_isExempt ∈ TT := tt_of 23 rfl rfl
theorem tw_24 : Cond.selects "TollweaveModel" yX7_next yX7_next ∈ TT := tt_of 24 rfl rfl
theorem tw_25 : Cond.selects "TollweaveModel" yX7_otherEnd yX7_otherEnd ∈ TT := tt_of 25 rfl rfl
theorem tw_26 : Cond.selects "TollweaveModel" yX7_begins yX7_begins ∈ TT := tt_of 26 rfl rfl
theorem tw_27 : Cond.selects "TollweaveModel" yX7_shares yX7_shares ∈ TT := tt_of 27 rfl rfl
theorem tw_28 : Cond.selects "TollweaveModel" yX7_isOver yX7_isOver ∈ TT := tt_of 28 rfl rfl
theorem tw_29 : Cond.selects "TollweaveModel" yX7_dueTo yX7_dueTo ∈ TT := tt_of 29 rfl rfl
theorem tw_30 : Cond.initialized "TollweaveLaw" ∈ TT := tt_of 30 rfl rfl
theorem tw_31 : Cond.initialized "Tollweave" ∈ TT := tt_of 31 rfl rfl
theorem tw_32 : Cond.initialized "Tollweave$Roads" ∈ TT := tt_of 32 rfl rfl
theorem tw_33 : Cond.initialized "Tollweave$Tariff" ∈ TT := tt_of 33 rfl rfl
theorem tw_34 : Cond.initialized "Tollweave$Plates" ∈ TT := tt_of 34 rfl rfl
theorem tw_35 : Cond.initialized "Tollweave$Readings" ∈ TT := tt_of 35 rfl rfl
theorem tw_36 : Cond.initialized "Tollweave$Journeys" ∈ TT := tt_of 36 rfl rfl
theorem tw_37 : Cond.initialized "Tollweave$Accounts" ∈ TT := tt_of 37 rfl rfl
theorem tw_38 : Cond.initialized "TollweaveModel" ∈ TT := tt_of 38 rfl rfl
theorem tw_39 : Cond.initialized "java/lang/Throwable" ∈ TT := tt_of 39 rfl rfl
theorem tw_40 : Cond.initialized "java/lang/Exception" ∈ TT := tt_of 40 rfl rfl
theorem tw_41 : Cond.initialized "java/lang/RuntimeException" ∈ TT := tt_of 41 rfl rfl
theorem tw_42 : Cond.initialized "java/lang/IllegalStateException" ∈ TT := tt_of 42 rfl rfl
theorem tw_43 : Cond.initialized "java/lang/IndexOutOfBoundsException" ∈ TT := tt_of 43 rfl rfl
theorem tw_44 : Cond.initialized "java/lang/IllegalArgumentException" ∈ TT := tt_of 44 rfl rfl
theorem tw_45 : Cond.initialized "java/lang/Math" ∈ TT := tt_of 45 rfl rfl
theorem tw_46 : Cond.classLink "TollweaveLaw" 8 "Tollweave" ∈ TT := tt_of 46 rfl rfl
theorem tw_47 : Cond.instantiable "Tollweave" 7 ∈ TT := tt_of 47 rfl rfl
theorem tw_48 : Cond.methodLink "TollweaveLaw" 85 yX6_init ∈ TT := tt_of 48 rfl rfl
theorem tw_49 : Cond.instanceMethod yX6_init ∈ TT := tt_of 49 rfl rfl
theorem tw_50 : Cond.code yX6_init cX6_init 1 ((Option.none : Option ClassFile.FieldType)) ∈ TT := tt_of 50 rfl rfl
theorem tw_51 : Cond.methodLink "Tollweave" 1 ⟨"java/lang/Object","<init>","()V"⟩ ∈ TT := tt_of 51 rfl rfl
theorem tw_52 : Cond.instanceMethod ⟨"java/lang/Object","<init>","()V"⟩ ∈ TT := tt_of 52 rfl rfl
theorem tw_53 : Cond.code ⟨"java/lang/Object","<init>","()V"⟩ object_method_1_code 1 ((Option.none : Option ClassFile.FieldType)) ∈ TT := tt_of 53 rfl rfl
theorem tw_54 : Cond.classLink "Tollweave" 7 "Tollweave$Roads" ∈ TT := tt_of 54 rfl rfl
theorem tw_55 : Cond.instantiable "Tollweave$Roads" 7 ∈ TT := tt_of 55 rfl rfl
theorem tw_56 : Cond.methodLink "Tollweave" 9 yX4_init ∈ TT := tt_of 56 rfl rfl
theorem tw_57 : Cond.instanceMethod yX4_init ∈ TT := tt_of 57 rfl rfl
theorem tw_58 : Cond.code yX4_init cX4_init 3 ((Option.none : Option ClassFile.FieldType)) ∈ TT := tt_of 58 rfl rfl
theorem tw_59 : Cond.methodLink "Tollweave$Roads" 3 ⟨"java/lang/Object","<init>","()V"⟩ ∈ TT := tt_of 59 rfl rfl
theorem tw_60 : Cond.classLink "Tollweave$Roads" 24 "[[I" ∈ TT := tt_of 60 rfl rfl
theorem tw_62 : Cond.constant "Tollweave$Roads" 29 1000000 ∈ TT := tt_of 62 rfl rfl
theorem tw_63 : Cond.fieldLink "Tollweave$Roads" 9 "Tollweave$Roads" "one" "[I" ∈ TT := tt_of 63 rfl rfl
theorem tw_64 : Cond.fieldLink "Tollweave$Roads" 15 "Tollweave$Roads" "other" "[I" ∈ TT := tt_of 64 rfl rfl
theorem tw_65 : Cond.fieldLink "Tollweave$Roads" 18 "Tollweave$Roads" "length" "[I" ∈ TT := tt_of 65 rfl rfl
theorem tw_67 : Cond.fieldLink "Tollweave$Roads" 21 "Tollweave$Roads" "owner" "[I" ∈ TT := tt_of 67 rfl rfl
theorem tw_69 : Cond.fieldLink "Tollweave$Roads" 26 "Tollweave$Roads" "distance" "[[I" ∈ TT := tt_of 69 rfl rfl
theorem tw_71 : Cond.fieldLink "Tollweave$Roads" 30 "Tollweave$Roads" "gateCount" "I" ∈ TT := tt_of 71 rfl rfl
theorem tw_73 : Cond.fieldLink "Tollweave$Roads" 34 "Tollweave$Roads" "roadCount" "I" ∈ TT := tt_of 73 rfl rfl
theorem tw_75 : Cond.laysFinal "Tollweave$Roads" "Tollweave$Roads" "one" "[I" ∈ TT := tt_of 75 rfl rfl
theorem tw_77 : Cond.laysFinal "Tollweave$Roads" "Tollweave$Roads" "other" "[I" ∈ TT := tt_of 77 rfl rfl
theorem tw_79 : Cond.laysFinal "Tollweave$Roads" "Tollweave$Roads" "length" "[I" ∈ TT := tt_of 79 rfl rfl
theorem tw_81 : Cond.laysFinal "Tollweave$Roads" "Tollweave$Roads" "owner" "[I" ∈ TT := tt_of 81 rfl rfl
theorem tw_83 : Cond.laysFinal "Tollweave$Roads" "Tollweave$Roads" "distance" "[[I" ∈ TT := tt_of 83 rfl rfl
theorem tw_85 : Cond.lays "Tollweave$Roads" "Tollweave$Roads" "gateCount" "I" ∈ TT := tt_of 85 rfl rfl
theorem tw_87 : Cond.lays "Tollweave$Roads" "Tollweave$Roads" "roadCount" "I" ∈ TT := tt_of 87 rfl rfl
theorem tw_90 : Cond.arrayClass .int ∈ TT := tt_of 90 rfl rfl
theorem tw_91 : Cond.classLink "Tollweave" 16 "Tollweave$Tariff" ∈ TT := tt_of 91 rfl rfl
theorem tw_92 : Cond.instantiable "Tollweave$Tariff" 3 ∈ TT := tt_of 92 rfl rfl
theorem tw_93 : Cond.methodLink "Tollweave" 18 yX5_init ∈ TT := tt_of 93 rfl rfl
theorem tw_94 : Cond.instanceMethod yX5_init ∈ TT := tt_of 94 rfl rfl
theorem tw_95 : Cond.code yX5_init cX5_init 2 ((Option.none : Option ClassFile.FieldType)) ∈ TT := tt_of 95 rfl rfl
theorem tw_96 : Cond.methodLink "Tollweave$Tariff" 3 ⟨"java/lang/Object","<init>","()V"⟩ ∈ TT := tt_of 96 rfl rfl
theorem tw_97 : Cond.fieldLink "Tollweave$Tariff" 9 "Tollweave$Tariff" "rate" "[I" ∈ TT := tt_of 97 rfl rfl
theorem tw_99 : Cond.fieldLink "Tollweave$Tariff" 15 "Tollweave$Tariff" "busyPercent" "[I" ∈ TT := tt_of 99 rfl rfl
theorem tw_101 : Cond.fieldLink "Tollweave$Tariff" 18 "Tollweave$Tariff" "mostCents" "I" ∈ TT := tt_of 101 rfl rfl
theorem tw_103 : Cond.laysFinal "Tollweave$Tariff" "Tollweave$Tariff" "rate" "[I" ∈ TT := tt_of 103 rfl rfl
theorem tw_105 : Cond.laysFinal "Tollweave$Tariff" "Tollweave$Tariff" "busyPercent" "[I" ∈ TT := tt_of 105 rfl rfl
theorem tw_107 : Cond.lays "Tollweave$Tariff" "Tollweave$Tariff" "mostCents" "I" ∈ TT := tt_of 107 rfl rfl
theorem tw_110 : Cond.classLink "Tollweave" 23 "Tollweave$Plates" ∈ TT := tt_of 110 rfl rfl
theorem tw_111 : Cond.instantiable "Tollweave$Plates" 6 ∈ TT := tt_of 111 rfl rfl
theorem tw_112 : Cond.methodLink "Tollweave" 25 yX2_init ∈ TT := tt_of 112 rfl rfl
theorem tw_113 : Cond.instanceMethod yX2_init ∈ TT := tt_of 113 rfl rfl
theorem tw_114 : Cond.code yX2_init cX2_init 2 ((Option.none : Option ClassFile.FieldType)) ∈ TT := tt_of 114 rfl rfl
theorem tw_115 : Cond.methodLink "Tollweave$Plates" 3 ⟨"java/lang/Object","<init>","()V"⟩ ∈ TT := tt_of 115 rfl rfl
theorem tw_116 : Cond.fieldLink "Tollweave$Plates" 9 "Tollweave$Plates" "kind" "[I" ∈ TT := tt_of 116 rfl rfl
theorem tw_118 : Cond.fieldLink "Tollweave$Plates" 15 "Tollweave$Plates" "holder" "[I" ∈ TT := tt_of 118 rfl rfl
theorem tw_120 : Cond.fieldLink "Tollweave$Plates" 18 "Tollweave$Plates" "spanPlate" "[I" ∈ TT := tt_of 120 rfl rfl
theorem tw_121 : Cond.fieldLink "Tollweave$Plates" 21 "Tollweave$Plates" "spanFrom" "[I" ∈ TT := tt_of 121 rfl rfl
theorem tw_122 : Cond.fieldLink "Tollweave$Plates" 24 "Tollweave$Plates" "spanTo" "[I" ∈ TT := tt_of 122 rfl rfl
theorem tw_123 : Cond.fieldLink "Tollweave$Plates" 27 "Tollweave$Plates" "spanCount" "I" ∈ TT := tt_of 123 rfl rfl
theorem tw_125 : Cond.laysFinal "Tollweave$Plates" "Tollweave$Plates" "kind" "[I" ∈ TT := tt_of 125 rfl rfl
theorem tw_127 : Cond.laysFinal "Tollweave$Plates" "Tollweave$Plates" "holder" "[I" ∈ TT := tt_of 127 rfl rfl
theorem tw_129 : Cond.laysFinal "Tollweave$Plates" "Tollweave$Plates" "spanPlate" "[I" ∈ TT := tt_of 129 rfl rfl
theorem tw_131 : Cond.laysFinal "Tollweave$Plates" "Tollweave$Plates" "spanFrom" "[I" ∈ TT := tt_of 131 rfl rfl
theorem tw_133 : Cond.laysFinal "Tollweave$Plates" "Tollweave$Plates" "spanTo" "[I" ∈ TT := tt_of 133 rfl rfl
theorem tw_135 : Cond.lays "Tollweave$Plates" "Tollweave$Plates" "spanCount" "I" ∈ TT := tt_of 135 rfl rfl
theorem tw_138 : Cond.classLink "Tollweave" 30 "Tollweave$Readings" ∈ TT := tt_of 138 rfl rfl
theorem tw_139 : Cond.instantiable "Tollweave$Readings" 6 ∈ TT := tt_of 139 rfl rfl
theorem tw_140 : Cond.methodLink "Tollweave" 32 yX3_init ∈ TT := tt_of 140 rfl rfl
theorem tw_141 : Cond.instanceMethod yX3_init ∈ TT := tt_of 141 rfl rfl
theorem tw_142 : Cond.code yX3_init cX3_init 1 ((Option.none : Option ClassFile.FieldType)) ∈ TT := tt_of 142 rfl rfl
theorem tw_143 : Cond.methodLink "Tollweave$Readings" 3 ⟨"java/lang/Object","<init>","()V"⟩ ∈ TT := tt_of 143 rfl rfl
theorem tw_144 : Cond.fieldLink "Tollweave$Readings" 9 "Tollweave$Readings" "gateOf" "[I" ∈ TT := tt_of 144 rfl rfl
theorem tw_146 : Cond.fieldLink "Tollweave$Readings" 15 "Tollweave$Readings" "plateOf" "[I" ∈ TT := tt_of 146 rfl rfl
theorem tw_148 : Cond.fieldLink "Tollweave$Readings" 18 "Tollweave$Readings" "minuteOf" "[I" ∈ TT := tt_of 148 rfl rfl
theorem tw_150 : Cond.fieldLink "Tollweave$Readings" 21 "Tollweave$Readings" "isStruck" "[Z" ∈ TT := tt_of 150 rfl rfl
theorem tw_152 : Cond.fieldLink "Tollweave$Readings" 25 "Tollweave$Readings" "inOrder" "[I" ∈ TT := tt_of 152 rfl rfl
theorem tw_154 : Cond.fieldLink "Tollweave$Readings" 28 "Tollweave$Readings" "count" "I" ∈ TT := tt_of 154 rfl rfl
theorem tw_156 : Cond.laysFinal "Tollweave$Readings" "Tollweave$Readings" "gateOf" "[I" ∈ TT := tt_of 156 rfl rfl
theorem tw_158 : Cond.laysFinal "Tollweave$Readings" "Tollweave$Readings" "plateOf" "[I" ∈ TT := tt_of 158 rfl rfl
theorem tw_160 : Cond.laysFinal "Tollweave$Readings" "Tollweave$Readings" "minuteOf" "[I" ∈ TT := tt_of 160 rfl rfl
theorem tw_162 : Cond.laysFinal "Tollweave$Readings" "Tollweave$Readings" "isStruck" "[Z" ∈ TT := tt_of 162 rfl rfl
theorem tw_164 : Cond.laysFinal "Tollweave$Readings" "Tollweave$Readings" "inOrder" "[I" ∈ TT := tt_of 164 rfl rfl
theorem tw_166 : Cond.lays "Tollweave$Readings" "Tollweave$Readings" "count" "I" ∈ TT := tt_of 166 rfl rfl
theorem tw_169 : Cond.arrayClass .boolean ∈ TT := tt_of 169 rfl rfl
theorem tw_170 : Cond.classLink "Tollweave" 37 "Tollweave$Journeys" ∈ TT := tt_of 170 rfl rfl
theorem tw_171 : Cond.instantiable "Tollweave$Journeys" 7 ∈ TT := tt_of 171 rfl rfl
theorem tw_172 : Cond.methodLink "Tollweave" 39 yX1_init ∈ TT := tt_of 172 rfl rfl
theorem tw_173 : Cond.instanceMethod yX1_init ∈ TT := tt_of 173 rfl rfl
theorem tw_174 : Cond.code yX1_init cX1_init 1 ((Option.none : Option ClassFile.FieldType)) ∈ TT := tt_of 174 rfl rfl
theorem tw_175 : Cond.methodLink "Tollweave$Journeys" 3 ⟨"java/lang/Object","<init>","()V"⟩ ∈ TT := tt_of 175 rfl rfl
theorem tw_176 : Cond.classLink "Tollweave$Journeys" 21 "[[I" ∈ TT := tt_of 176 rfl rfl
theorem tw_177 : Cond.fieldLink "Tollweave$Journeys" 9 "Tollweave$Journeys" "firstMinute" "[I" ∈ TT := tt_of 177 rfl rfl
theorem tw_179 : Cond.fieldLink "Tollweave$Journeys" 15 "Tollweave$Journeys" "lastMinute" "[I" ∈ TT := tt_of 179 rfl rfl
theorem tw_181 : Cond.fieldLink "Tollweave$Journeys" 18 "Tollweave$Journeys" "counting" "[I" ∈ TT := tt_of 181 rfl rfl
theorem tw_183 : Cond.fieldLink "Tollweave$Journeys" 23 "Tollweave$Journeys" "toPay" "[[I" ∈ TT := tt_of 183 rfl rfl
theorem tw_184 : Cond.fieldLink "Tollweave$Journeys" 26 "Tollweave$Journeys" "journeyOf" "[I" ∈ TT := tt_of 184 rfl rfl
theorem tw_186 : Cond.fieldLink "Tollweave$Journeys" 29 "Tollweave$Journeys" "isDouble" "[Z" ∈ TT := tt_of 186 rfl rfl
theorem tw_188 : Cond.fieldLink "Tollweave$Journeys" 33 "Tollweave$Journeys" "count" "I" ∈ TT := tt_of 188 rfl rfl
theorem tw_190 : Cond.laysFinal "Tollweave$Journeys" "Tollweave$Journeys" "firstMinute" "[I" ∈ TT := tt_of 190 rfl rfl
theorem tw_192 : Cond.laysFinal "Tollweave$Journeys" "Tollweave$Journeys" "lastMinute" "[I" ∈ TT := tt_of 192 rfl rfl
theorem tw_194 : Cond.laysFinal "Tollweave$Journeys" "Tollweave$Journeys" "counting" "[I" ∈ TT := tt_of 194 rfl rfl
theorem tw_196 : Cond.laysFinal "Tollweave$Journeys" "Tollweave$Journeys" "toPay" "[[I" ∈ TT := tt_of 196 rfl rfl
theorem tw_198 : Cond.laysFinal "Tollweave$Journeys" "Tollweave$Journeys" "journeyOf" "[I" ∈ TT := tt_of 198 rfl rfl
theorem tw_200 : Cond.laysFinal "Tollweave$Journeys" "Tollweave$Journeys" "isDouble" "[Z" ∈ TT := tt_of 200 rfl rfl
theorem tw_202 : Cond.lays "Tollweave$Journeys" "Tollweave$Journeys" "count" "I" ∈ TT := tt_of 202 rfl rfl
theorem tw_205 : Cond.classLink "Tollweave" 44 "Tollweave$Accounts" ∈ TT := tt_of 205 rfl rfl
theorem tw_206 : Cond.instantiable "Tollweave$Accounts" 4 ∈ TT := tt_of 206 rfl rfl
theorem tw_207 : Cond.methodLink "Tollweave" 46 yX0_init ∈ TT := tt_of 207 rfl rfl
theorem tw_208 : Cond.instanceMethod yX0_init ∈ TT := tt_of 208 rfl rfl
theorem tw_209 : Cond.code yX0_init cX0_init 1 ((Option.none : Option ClassFile.FieldType)) ∈ TT := tt_of 209 rfl rfl
theorem tw_210 : Cond.methodLink "Tollweave$Accounts" 3 ⟨"java/lang/Object","<init>","()V"⟩ ∈ TT := tt_of 210 rfl rfl
theorem tw_211 : Cond.fieldLink "Tollweave$Accounts" 9 "Tollweave$Accounts" "wallet" "[J" ∈ TT := tt_of 211 rfl rfl
theorem tw_213 : Cond.fieldLink "Tollweave$Accounts" 15 "Tollweave$Accounts" "own" "[J" ∈ TT := tt_of 213 rfl rfl
theorem tw_215 : Cond.fieldLink "Tollweave$Accounts" 18 "Tollweave$Accounts" "billed" "[J" ∈ TT := tt_of 215 rfl rfl
theorem tw_217 : Cond.fieldLink "Tollweave$Accounts" 21 "Tollweave$Accounts" "got" "[J" ∈ TT := tt_of 217 rfl rfl
theorem tw_219 : Cond.laysFinal "Tollweave$Accounts" "Tollweave$Accounts" "wallet" "[J" ∈ TT := tt_of 219 rfl rfl
theorem tw_221 : Cond.laysFinal "Tollweave$Accounts" "Tollweave$Accounts" "own" "[J" ∈ TT := tt_of 221 rfl rfl
theorem tw_223 : Cond.laysFinal "Tollweave$Accounts" "Tollweave$Accounts" "billed" "[J" ∈ TT := tt_of 223 rfl rfl
theorem tw_225 : Cond.laysFinal "Tollweave$Accounts" "Tollweave$Accounts" "got" "[J" ∈ TT := tt_of 225 rfl rfl
theorem tw_228 : Cond.arrayClass .long ∈ TT := tt_of 228 rfl rfl
theorem tw_229 : Cond.fieldLink "Tollweave" 10 "Tollweave" "roads" "LTollweave$Roads;" ∈ TT := tt_of 229 rfl rfl
theorem tw_230 : Cond.fieldLink "Tollweave" 19 "Tollweave" "tariff" "LTollweave$Tariff;" ∈ TT := tt_of 230 rfl rfl
theorem tw_231 : Cond.fieldLink "Tollweave" 26 "Tollweave" "plates" "LTollweave$Plates;" ∈ TT := tt_of 231 rfl rfl
theorem tw_232 : Cond.fieldLink "Tollweave" 33 "Tollweave" "readings" "LTollweave$Readings;" ∈ TT := tt_of 232 rfl rfl
theorem tw_233 : Cond.fieldLink "Tollweave" 40 "Tollweave" "journeys" "LTollweave$Journeys;" ∈ TT := tt_of 233 rfl rfl
theorem tw_234 : Cond.fieldLink "Tollweave" 47 "Tollweave" "accounts" "LTollweave$Accounts;" ∈ TT := tt_of 234 rfl rfl
theorem tw_235 : Cond.fieldLink "Tollweave" 51 "Tollweave" "now" "I" ∈ TT := tt_of 235 rfl rfl
theorem tw_236 : Cond.laysFinal "Tollweave" "Tollweave" "roads" "LTollweave$Roads;" ∈ TT := tt_of 236 rfl rfl
theorem tw_238 : Cond.laysFinal "Tollweave" "Tollweave" "tariff" "LTollweave$Tariff;" ∈ TT := tt_of 238 rfl rfl
theorem tw_240 : Cond.laysFinal "Tollweave" "Tollweave" "plates" "LTollweave$Plates;" ∈ TT := tt_of 240 rfl rfl
theorem tw_242 : Cond.laysFinal "Tollweave" "Tollweave" "readings" "LTollweave$Readings;" ∈ TT := tt_of 242 rfl rfl
theorem tw_244 : Cond.laysFinal "Tollweave" "Tollweave" "journeys" "LTollweave$Journeys;" ∈ TT := tt_of 244 rfl rfl
theorem tw_246 : Cond.laysFinal "Tollweave" "Tollweave" "accounts" "LTollweave$Accounts;" ∈ TT := tt_of 246 rfl rfl
theorem tw_248 : Cond.lays "Tollweave" "Tollweave" "now" "I" ∈ TT := tt_of 248 rfl rfl
theorem tw_251 : Cond.methodLink "TollweaveLaw" 131 yX6_bill ∈ TT := tt_of 251 rfl rfl
theorem tw_252 : Cond.instanceMethod yX6_bill ∈ TT := tt_of 252 rfl rfl
theorem tw_253 : Cond.selects "Tollweave" yX6_bill yX6_bill ∈ TT := tt_of 253 rfl rfl
theorem tw_254 : Cond.code yX6_bill cX6_bill 7 ((Option.some .long)) ∈ TT := tt_of 254 rfl rfl
theorem tw_255 : Cond.methodLink "Tollweave" 146 yX0_forgetShares ∈ TT := tt_of 255 rfl rfl
theorem tw_256 : Cond.instanceMethod yX0_forgetShares ∈ TT := tt_of 256 rfl rfl
theorem tw_257 : Cond.selects "Tollweave$Accounts" yX0_forgetShares yX0_forgetShares ∈ TT := tt_of 257 rfl rfl
theorem tw_258 : Cond.code yX0_forgetShares cX0_forgetShares 2 ((Option.none : Option ClassFile.FieldType)) ∈ TT := tt_of 258 rfl rfl
theorem tw_259 : Cond.methodLink "Tollweave" 149 yX6_findJourneys ∈ TT := tt_of 259 rfl rfl
theorem tw_261 : Cond.instanceMethod yX6_findJourneys ∈ TT := tt_of 261 rfl rfl
theorem tw_262 : Cond.code yX6_findJourneys cX6_findJourneys 5 ((Option.none : Option ClassFile.FieldType)) ∈ TT := tt_of 262 rfl rfl
theorem tw_263 : Cond.methodLink "Tollweave" 244 yX1_forgetAll ∈ TT := tt_of 263 rfl rfl
theorem tw_264 : Cond.instanceMethod yX1_forgetAll ∈ TT := tt_of 264 rfl rfl
theorem tw_265 : Cond.selects "Tollweave$Journeys" yX1_forgetAll yX1_forgetAll ∈ TT := tt_of 265 rfl rfl
theorem tw_266 : Cond.code yX1_forgetAll cX1_forgetAll 1 ((Option.none : Option ClassFile.FieldType)) ∈ TT := tt_of 266 rfl rfl
theorem tw_267 : Cond.methodLink "Tollweave" 250 yX6_placeReading ∈ TT := tt_of 267 rfl rfl
theorem tw_269 : Cond.instanceMethod yX6_placeReading ∈ TT := tt_of 269 rfl rfl
theorem tw_270 : Cond.code yX6_placeReading cX6_placeReading 5 ((Option.some .int)) ∈ TT := tt_of 270 rfl rfl
theorem tw_271 : Cond.methodLink "Tollweave" 253 yX1_begin ∈ TT := tt_of 271 rfl rfl
theorem tw_272 : Cond.instanceMethod yX1_begin ∈ TT := tt_of 272 rfl rfl
theorem tw_273 : Cond.selects "Tollweave$Journeys" yX1_begin yX1_begin ∈ TT := tt_of 273 rfl rfl
theorem tw_274 : Cond.code yX1_begin cX1_begin 5 ((Option.none : Option ClassFile.FieldType)) ∈ TT := tt_of 274 rfl rfl
theorem tw_275 : Cond.methodLink "Tollweave" 260 yX6_isDoubleOf ∈ TT := tt_of 275 rfl rfl
theorem tw_277 : Cond.instanceMethod yX6_isDoubleOf ∈ TT := tt_of 277 rfl rfl
theorem tw_278 : Cond.code yX6_isDoubleOf cX6_isDoubleOf 3 ((Option.some .boolean)) ∈ TT := tt_of 278 rfl rfl
theorem tw_279 : Cond.methodLink "Tollweave" 275 yX3_minutesBetween ∈ TT := tt_of 279 rfl rfl
theorem tw_280 : Cond.instanceMethod yX3_minutesBetween ∈ TT := tt_of 280 rfl rfl
theorem tw_281 : Cond.selects "Tollweave$Readings" yX3_minutesBetween yX3_minutesBetween ∈ TT := tt_of 281 rfl rfl
theorem tw_282 : Cond.code yX3_minutesBetween cX3_minutesBetween 3 ((Option.some .int)) ∈ TT := tt_of 282 rfl rfl
theorem tw_283 : Cond.methodLink "Tollweave" 263 yX1_putDouble ∈ TT := tt_of 283 rfl rfl
theorem tw_284 : Cond.instanceMethod yX1_putDouble ∈ TT := tt_of 284 rfl rfl
theorem tw_285 : Cond.selects "Tollweave$Journeys" yX1_putDouble yX1_putDouble ∈ TT := tt_of 285 rfl rfl
theorem tw_286 : Cond.code yX1_putDouble cX1_putDouble 3 ((Option.none : Option ClassFile.FieldType)) ∈ TT := tt_of 286 rfl rfl
theorem tw_287 : Cond.methodLink "Tollweave" 266 yX6_goesOnFrom ∈ TT := tt_of 287 rfl rfl
theorem tw_289 : Cond.instanceMethod yX6_goesOnFrom ∈ TT := tt_of 289 rfl rfl
theorem tw_290 : Cond.code yX6_goesOnFrom cX6_goesOnFrom 7 ((Option.some .boolean)) ∈ TT := tt_of 290 rfl rfl
theorem tw_291 : Cond.methodLink "Tollweave" 167 yX4_hasWay ∈ TT := tt_of 291 rfl rfl
theorem tw_292 : Cond.instanceMethod yX4_hasWay ∈ TT := tt_of 292 rfl rfl
theorem tw_293 : Cond.selects "Tollweave$Roads" yX4_hasWay yX4_hasWay ∈ TT := tt_of 293 rfl rfl
theorem tw_294 : Cond.code yX4_hasWay cX4_hasWay 3 ((Option.some .boolean)) ∈ TT := tt_of 294 rfl rfl
theorem tw_295 : Cond.methodLink "Tollweave" 269 yX1_goOn ∈ TT := tt_of 295 rfl rfl
theorem tw_296 : Cond.instanceMethod yX1_goOn ∈ TT := tt_of 296 rfl rfl
theorem tw_297 : Cond.selects "Tollweave$Journeys" yX1_goOn yX1_goOn ∈ TT := tt_of 297 rfl rfl
theorem tw_298 : Cond.code yX1_goOn cX1_goOn 4 ((Option.none : Option ClassFile.FieldType)) ∈ TT := tt_of 298 rfl rfl
theorem tw_299 : Cond.methodLink "Tollweave" 272 yX6_payWay ∈ TT := tt_of 299 rfl rfl
set_option maxRecDepth 20000 in
theorem tw_301 : Cond.instanceMethod yX6_payWay ∈ TT := tt_of 301 rfl rfl
set_option maxRecDepth 20000 in
theorem tw_302 : Cond.code yX6_payWay cX6_payWay 11 ((Option.none : Option ClassFile.FieldType)) ∈ TT := tt_of 302 rfl rfl
set_option maxRecDepth 20000 in
theorem tw_303 : Cond.methodLink "Tollweave" 278 yX2_isExempt ∈ TT := tt_of 303 rfl rfl
set_option maxRecDepth 20000 in
theorem tw_304 : Cond.instanceMethod yX2_isExempt ∈ TT := tt_of 304 rfl rfl
set_option maxRecDepth 20000 in
theorem tw_305 : Cond.selects "Tollweave$Plates" yX2_isExempt yX2_isExempt ∈ TT := tt_of 305 rfl rfl
set_option maxRecDepth 20000 in
theorem tw_306 : Cond.code yX2_isExempt cX2_isExempt 4 ((Option.some .boolean)) ∈ TT := tt_of 306 rfl rfl
set_option maxRecDepth 20000 in
theorem tw_307 : Cond.methodLink "Tollweave" 281 yX4_roadTowards ∈ TT := tt_of 307 rfl rfl
set_option maxRecDepth 20000 in
theorem tw_308 : Cond.instanceMethod yX4_roadTowards ∈ TT := tt_of 308 rfl rfl
set_option maxRecDepth 20000 in
theorem tw_309 : Cond.selects "Tollweave$Roads" yX4_roadTowards yX4_roadTowards ∈ TT := tt_of 309 rfl rfl
set_option maxRecDepth 20000 in
theorem tw_310 : Cond.code yX4_roadTowards cX4_roadTowards 5 ((Option.some .int)) ∈ TT := tt_of 310 rfl rfl
set_option maxRecDepth 20000 in
theorem tw_311 : Cond.methodLink "Tollweave$Roads" 50 yX4_otherEnd ∈ TT := tt_of 311 rfl rfl
set_option maxRecDepth 20000 in
theorem tw_312 : Cond.instanceMethod yX4_otherEnd ∈ TT := tt_of 312 rfl rfl
set_option maxRecDepth 20000 in
theorem tw_313 : Cond.selects "Tollweave$Roads" yX4_otherEnd yX4_otherEnd ∈ TT := tt_of 313 rfl rfl
set_option maxRecDepth 20000 in
theorem tw_314 : Cond.code yX4_otherEnd cX4_otherEnd 3 ((Option.some .int)) ∈ TT := tt_of 314 rfl rfl
set_option maxRecDepth 20000 in
theorem tw_315 : Cond.methodLink "Tollweave" 287 yX5_centsFor ∈ TT := tt_of 315 rfl rfl
set_option maxRecDepth 20000 in
theorem tw_316 : Cond.instanceMethod yX5_centsFor ∈ TT := tt_of 316 rfl rfl
set_option maxRecDepth 20000 in
theorem tw_317 : Cond.selects "Tollweave$Tariff" yX5_centsFor yX5_centsFor ∈ TT := tt_of 317 rfl rfl
set_option maxRecDepth 20000 in
theorem tw_318 : Cond.code yX5_centsFor cX5_centsFor 5 ((Option.some .int)) ∈ TT := tt_of 318 rfl rfl
set_option maxRecDepth 20000 in
theorem tw_319 : Cond.methodLink "Tollweave$Tariff" 22 yX5_isBusy ∈ TT := tt_of 319 rfl rfl
set_option maxRecDepth 20000 in
theorem tw_320 : Cond.static yX5_isBusy ∈ TT := tt_of 320 rfl rfl
set_option maxRecDepth 20000 in
theorem tw_321 : Cond.code yX5_isBusy cX5_isBusy 2 ((Option.some .boolean)) ∈ TT := tt_of 321 rfl rfl
set_option maxRecDepth 20000 in
theorem tw_322 : Cond.methodLink "Tollweave" 293 yX1_pay ∈ TT := tt_of 322 rfl rfl
set_option maxRecDepth 20000 in
theorem tw_323 : Cond.instanceMethod yX1_pay ∈ TT := tt_of 323 rfl rfl
set_option maxRecDepth 20000 in
theorem tw_324 : Cond.selects "Tollweave$Journeys" yX1_pay yX1_pay ∈ TT := tt_of 324 rfl rfl
set_option maxRecDepth 20000 in
theorem tw_325 : Cond.code yX1_pay cX1_pay 4 ((Option.none : Option ClassFile.FieldType)) ∈ TT := tt_of 325 rfl rfl
set_option maxRecDepth 20000 in
theorem tw_326 : Cond.methodLink "Tollweave" 296 yX4_otherEnd ∈ TT := tt_of 326 rfl rfl
set_option maxRecDepth 20000 in
theorem tw_327 : Cond.methodLink "Tollweave" 152 yX1_sumFares ∈ TT := tt_of 327 rfl rfl
set_option maxRecDepth 20000 in
theorem tw_328 : Cond.instanceMethod yX1_sumFares ∈ TT := tt_of 328 rfl rfl
set_option maxRecDepth 20000 in
theorem tw_329 : Cond.selects "Tollweave$Journeys" yX1_sumFares yX1_sumFares ∈ TT := tt_of 329 rfl rfl
set_option maxRecDepth 20000 in
theorem tw_330 : Cond.code yX1_sumFares cX1_sumFares 6 ((Option.some .long)) ∈ TT := tt_of 330 rfl rfl
set_option maxRecDepth 20000 in
theorem tw_331 : Cond.methodLink "Tollweave$Journeys" 54 yX1_isOver ∈ TT := tt_of 331 rfl rfl
set_option maxRecDepth 20000 in
theorem tw_332 : Cond.instanceMethod yX1_isOver ∈ TT := tt_of 332 rfl rfl
set_option maxRecDepth 20000 in
theorem tw_333 : Cond.selects "Tollweave$Journeys" yX1_isOver yX1_isOver ∈ TT := tt_of 333 rfl rfl
set_option maxRecDepth 20000 in
theorem tw_334 : Cond.code yX1_isOver cX1_isOver 3 ((Option.some .boolean)) ∈ TT := tt_of 334 rfl rfl
set_option maxRecDepth 20000 in
theorem tw_335 : Cond.methodLink "Tollweave$Journeys" 58 yX1_fareOf ∈ TT := tt_of 335 rfl rfl
set_option maxRecDepth 20000 in
theorem tw_336 : Cond.instanceMethod yX1_fareOf ∈ TT := tt_of 336 rfl rfl
set_option maxRecDepth 20000 in
theorem tw_337 : Cond.selects "Tollweave$Journeys" yX1_fareOf yX1_fareOf ∈ TT := tt_of 337 rfl rfl
set_option maxRecDepth 20000 in
theorem tw_338 : Cond.code yX1_fareOf cX1_fareOf 3 ((Option.some .int)) ∈ TT := tt_of 338 rfl rfl
set_option maxRecDepth 20000 in
theorem tw_339 : Cond.methodLink "Tollweave$Journeys" 37 yX1_wholeOf ∈ TT := tt_of 339 rfl rfl
set_option maxRecDepth 20000 in
theorem tw_341 : Cond.instanceMethod yX1_wholeOf ∈ TT := tt_of 341 rfl rfl
set_option maxRecDepth 20000 in
theorem tw_342 : Cond.code yX1_wholeOf cX1_wholeOf 4 ((Option.some .int)) ∈ TT := tt_of 342 rfl rfl
set_option maxRecDepth 20000 in
theorem tw_343 : Cond.methodLink "Tollweave$Journeys" 41 yJ9_min_7cf53 ∈ TT := tt_of 343 rfl rfl
set_option maxRecDepth 20000 in
theorem tw_344 : Cond.static yJ9_min_7cf53 ∈ TT := tt_of 344 rfl rfl
set_option maxRecDepth 20000 in
theorem tw_345 : Cond.code yJ9_min_7cf53 cJ9_min_7cf53 2 ((Option.some .int)) ∈ TT := tt_of 345 rfl rfl
set_option maxRecDepth 20000 in
theorem tw_346 : Cond.methodLink "Tollweave" 156 yX0_charge ∈ TT := tt_of 346 rfl rfl
set_option maxRecDepth 20000 in
theorem tw_347 : Cond.instanceMethod yX0_charge ∈ TT := tt_of 347 rfl rfl
set_option maxRecDepth 20000 in
theorem tw_348 : Cond.selects "Tollweave$Accounts" yX0_charge yX0_charge ∈ TT := tt_of 348 rfl rfl
set_option maxRecDepth 20000 in
theorem tw_349 : Cond.code yX0_charge cX0_charge 7 ((Option.some .long)) ∈ TT := tt_of 349 rfl rfl
set_option maxRecDepth 20000 in
theorem tw_350 : Cond.methodLink "Tollweave" 163 yX1_sumShares ∈ TT := tt_of 350 rfl rfl
set_option maxRecDepth 20000 in
theorem tw_351 : Cond.instanceMethod yX1_sumShares ∈ TT := tt_of 351 rfl rfl
set_option maxRecDepth 20000 in
theorem tw_352 : Cond.selects "Tollweave$Journeys" yX1_sumShares yX1_sumShares ∈ TT := tt_of 352 rfl rfl
set_option maxRecDepth 20000 in
theorem tw_353 : Cond.code yX1_sumShares cX1_sumShares 7 ((Option.some .long)) ∈ TT := tt_of 353 rfl rfl
set_option maxRecDepth 20000 in
theorem tw_354 : Cond.methodLink "Tollweave$Journeys" 61 yX1_shareOf ∈ TT := tt_of 354 rfl rfl
set_option maxRecDepth 20000 in
theorem tw_355 : Cond.instanceMethod yX1_shareOf ∈ TT := tt_of 355 rfl rfl
set_option maxRecDepth 20000 in
theorem tw_356 : Cond.selects "Tollweave$Journeys" yX1_shareOf yX1_shareOf ∈ TT := tt_of 356 rfl rfl
set_option maxRecDepth 20000 in
theorem tw_357 : Cond.code yX1_shareOf cX1_shareOf 7 ((Option.some .int)) ∈ TT := tt_of 357 rfl rfl
set_option maxRecDepth 20000 in
theorem tw_358 : Cond.methodLink "Tollweave$Journeys" 47 yX1_ownerOfTheMost ∈ TT := tt_of 358 rfl rfl
set_option maxRecDepth 20000 in
theorem tw_360 : Cond.instanceMethod yX1_ownerOfTheMost ∈ TT := tt_of 360 rfl rfl
set_option maxRecDepth 20000 in
theorem tw_361 : Cond.code yX1_ownerOfTheMost cX1_ownerOfTheMost 4 ((Option.some .int)) ∈ TT := tt_of 361 rfl rfl
set_option maxRecDepth 20000 in
theorem tw_362 : Cond.methodLink "Tollweave$Journeys" 50 yX1_cutShare ∈ TT := tt_of 362 rfl rfl
set_option maxRecDepth 20000 in
theorem tw_364 : Cond.instanceMethod yX1_cutShare ∈ TT := tt_of 364 rfl rfl
set_option maxRecDepth 20000 in
theorem tw_365 : Cond.code yX1_cutShare cX1_cutShare 5 ((Option.some .int)) ∈ TT := tt_of 365 rfl rfl
set_option maxRecDepth 20000 in
theorem tw_366 : Cond.methodLink "TollweaveLaw" 89 yL_gate ∈ TT := tt_of 366 rfl rfl
set_option maxRecDepth 20000 in
theorem tw_367 : Cond.static yL_gate ∈ TT := tt_of 367 rfl rfl
set_option maxRecDepth 20000 in
theorem tw_368 : Cond.codeWith yL_gate cL_gate 3 ((Option.some .int)) [((0 : Nat), (8 : Nat), (11 : Nat), (13 : Nat))] ∈ TT := tt_of 368 rfl rfl
set_option maxRecDepth 20000 in
theorem tw_369 : Cond.classLink "TollweaveLaw" 13 "java/lang/IllegalStateException" ∈ TT := tt_of 369 rfl rfl
set_option maxRecDepth 20000 in
theorem tw_370 : Cond.methodLink "TollweaveLaw" 7 yX6_gate ∈ TT := tt_of 370 rfl rfl
set_option maxRecDepth 20000 in
theorem tw_371 : Cond.instanceMethod yX6_gate ∈ TT := tt_of 371 rfl rfl
set_option maxRecDepth 20000 in
theorem tw_372 : Cond.selects "Tollweave" yX6_gate yX6_gate ∈ TT := tt_of 372 rfl rfl
set_option maxRecDepth 20000 in
theorem tw_373 : Cond.code yX6_gate cX6_gate 1 ((Option.some .int)) ∈ TT := tt_of 373 rfl rfl
set_option maxRecDepth 20000 in
theorem tw_374 : Cond.classLink "Tollweave" 58 "java/lang/IllegalStateException" ∈ TT := tt_of 374 rfl rfl
set_option maxRecDepth 20000 in
theorem tw_375 : Cond.instantiable "java/lang/IllegalStateException" 6 ∈ TT := tt_of 375 rfl rfl
set_option maxRecDepth 20000 in
theorem tw_383 : Cond.selects "java/lang/IllegalStateException" ⟨"java/lang/Throwable","fillInStackTrace","(I)Ljava/lang/Throwable;"⟩ ⟨"java/lang/Throwable","fillInStackTrace","(I)Ljava/lang/Throwable;"⟩ ∈ TT := tt_of 383 rfl rfl
set_option maxRecDepth 20000 in
theorem tw_384 : Cond.selects "java/lang/IllegalStateException" ⟨"java/lang/Throwable","fillInStackTrace","()Ljava/lang/Throwable;"⟩ ⟨"java/lang/Throwable","fillInStackTrace","()Ljava/lang/Throwable;"⟩ ∈ TT := tt_of 384 rfl rfl
set_option maxRecDepth 20000 in
theorem tw_385 : Cond.lays "java/lang/IllegalStateException" "java/lang/Throwable" "cause" "Ljava/lang/Throwable;" ∈ TT := tt_of 385 rfl rfl
set_option maxRecDepth 20000 in
theorem tw_386 : Cond.lays "java/lang/Throwable" "java/lang/Throwable" "cause" "Ljava/lang/Throwable;" ∈ TT := tt_of 386 rfl rfl
set_option maxRecDepth 20000 in
theorem tw_387 : Cond.lays "java/lang/IllegalStateException" "java/lang/Throwable" "stackTrace" "[Ljava/lang/StackTraceElement;" ∈ TT := tt_of 387 rfl rfl
set_option maxRecDepth 20000 in
theorem tw_388 : Cond.lays "java/lang/Throwable" "java/lang/Throwable" "stackTrace" "[Ljava/lang/StackTraceElement;" ∈ TT := tt_of 388 rfl rfl
set_option maxRecDepth 20000 in
theorem tw_389 : Cond.lays "java/lang/IllegalStateException" "java/lang/Throwable" "suppressedExceptions" "Ljava/util/List;" ∈ TT := tt_of 389 rfl rfl
set_option maxRecDepth 20000 in
theorem tw_390 : Cond.lays "java/lang/Throwable" "java/lang/Throwable" "suppressedExceptions" "Ljava/util/List;" ∈ TT := tt_of 390 rfl rfl
set_option maxRecDepth 20000 in
theorem tw_391 : Cond.lays "java/lang/IllegalStateException" "java/lang/Throwable" "detailMessage" "Ljava/lang/String;" ∈ TT := tt_of 391 rfl rfl
set_option maxRecDepth 20000 in
theorem tw_392 : Cond.lays "java/lang/Throwable" "java/lang/Throwable" "detailMessage" "Ljava/lang/String;" ∈ TT := tt_of 392 rfl rfl
set_option maxRecDepth 20000 in
theorem tw_393 : Cond.lays "java/lang/IllegalStateException" "java/lang/Throwable" "backtrace" "Ljava/lang/Object;" ∈ TT := tt_of 393 rfl rfl
set_option maxRecDepth 20000 in
theorem tw_394 : Cond.lays "java/lang/Throwable" "java/lang/Throwable" "backtrace" "Ljava/lang/Object;" ∈ TT := tt_of 394 rfl rfl
set_option maxRecDepth 20000 in
theorem tw_395 : Cond.fieldLink "java/lang/Throwable" 198 "java/lang/Throwable" "backtrace" "Ljava/lang/Object;" ∈ TT := tt_of 395 rfl rfl
set_option maxRecDepth 20000 in
theorem tw_397 : Cond.instanceMethod ⟨"java/lang/Throwable","<init>","()V"⟩ ∈ TT := tt_of 397 rfl rfl
set_option maxRecDepth 20000 in
theorem tw_399 : Cond.methodLink "java/lang/Throwable" 1 ⟨"java/lang/Object","<init>","()V"⟩ ∈ TT := tt_of 399 rfl rfl
set_option maxRecDepth 20000 in
theorem tw_400 : Cond.fieldLink "java/lang/Throwable" 13 "java/lang/Throwable" "UNASSIGNED_STACK" "[Ljava/lang/StackTraceElement;" ∈ TT := tt_of 400 rfl rfl
set_option maxRecDepth 20000 in
theorem tw_402 : Cond.fieldLink "java/lang/Throwable" 20 "java/lang/Throwable" "SUPPRESSED_SENTINEL" "Ljava/util/List;" ∈ TT := tt_of 402 rfl rfl
set_option maxRecDepth 20000 in
theorem tw_404 : Cond.methodLink "java/lang/Throwable" 27 ⟨"java/lang/Throwable","fillInStackTrace","()Ljava/lang/Throwable;"⟩ ∈ TT := tt_of 404 rfl rfl
set_option maxRecDepth 20000 in
theorem tw_405 : Cond.instanceMethod ⟨"java/lang/Throwable","fillInStackTrace","()Ljava/lang/Throwable;"⟩ ∈ TT := tt_of 405 rfl rfl
set_option maxRecDepth 20000 in
theorem tw_407 : Cond.selects "java/lang/IllegalArgumentException" ⟨"java/lang/Throwable","fillInStackTrace","()Ljava/lang/Throwable;"⟩ ⟨"java/lang/Throwable","fillInStackTrace","()Ljava/lang/Throwable;"⟩ ∈ TT := tt_of 407 rfl rfl
set_option maxRecDepth 20000 in
theorem tw_408 : Cond.selects "java/lang/IndexOutOfBoundsException" ⟨"java/lang/Throwable","fillInStackTrace","()Ljava/lang/Throwable;"⟩ ⟨"java/lang/Throwable","fillInStackTrace","()Ljava/lang/Throwable;"⟩ ∈ TT := tt_of 408 rfl rfl
set_option maxRecDepth 20000 in
theorem tw_410 : Cond.methodLink "java/lang/Throwable" 202 ⟨"java/lang/Throwable","fillInStackTrace","(I)Ljava/lang/Throwable;"⟩ ∈ TT := tt_of 410 rfl rfl
set_option maxRecDepth 20000 in
theorem tw_412 : Cond.instanceMethod ⟨"java/lang/Throwable","fillInStackTrace","(I)Ljava/lang/Throwable;"⟩ ∈ TT := tt_of 412 rfl rfl
set_option maxRecDepth 20000 in
theorem tw_413 : Cond.instantiable "java/lang/Throwable" 6 ∈ TT := tt_of 413 rfl rfl
set_option maxRecDepth 20000 in
theorem tw_416 : Cond.methodLink "Tollweave" 62 ⟨"java/lang/IllegalStateException","<init>","(Ljava/lang/String;)V"⟩ ∈ TT := tt_of 416 rfl rfl
set_option maxRecDepth 20000 in
theorem tw_417 : Cond.instanceMethod ⟨"java/lang/IllegalStateException","<init>","(Ljava/lang/String;)V"⟩ ∈ TT := tt_of 417 rfl rfl
set_option maxRecDepth 20000 in
theorem tw_418 : Cond.code ⟨"java/lang/IllegalStateException","<init>","(Ljava/lang/String;)V"⟩ prog_12_method_2_code 2 ((Option.none : Option ClassFile.FieldType)) ∈ TT := tt_of 418 rfl rfl
set_option maxRecDepth 20000 in
theorem tw_419 : Cond.methodLink "java/lang/IllegalStateException" 7 ⟨"java/lang/RuntimeException","<init>","(Ljava/lang/String;)V"⟩ ∈ TT := tt_of 419 rfl rfl
set_option maxRecDepth 20000 in
theorem tw_420 : Cond.instanceMethod ⟨"java/lang/RuntimeException","<init>","(Ljava/lang/String;)V"⟩ ∈ TT := tt_of 420 rfl rfl
set_option maxRecDepth 20000 in
theorem tw_421 : Cond.code ⟨"java/lang/RuntimeException","<init>","(Ljava/lang/String;)V"⟩ prog_15_method_2_code 2 ((Option.none : Option ClassFile.FieldType)) ∈ TT := tt_of 421 rfl rfl
set_option maxRecDepth 20000 in
theorem tw_422 : Cond.methodLink "java/lang/RuntimeException" 7 ⟨"java/lang/Exception","<init>","(Ljava/lang/String;)V"⟩ ∈ TT := tt_of 422 rfl rfl
set_option maxRecDepth 20000 in
theorem tw_423 : Cond.instanceMethod ⟨"java/lang/Exception","<init>","(Ljava/lang/String;)V"⟩ ∈ TT := tt_of 423 rfl rfl
set_option maxRecDepth 20000 in
theorem tw_424 : Cond.code ⟨"java/lang/Exception","<init>","(Ljava/lang/String;)V"⟩ prog_10_method_2_code 2 ((Option.none : Option ClassFile.FieldType)) ∈ TT := tt_of 424 rfl rfl
set_option maxRecDepth 20000 in
theorem tw_425 : Cond.methodLink "java/lang/Exception" 7 ⟨"java/lang/Throwable","<init>","(Ljava/lang/String;)V"⟩ ∈ TT := tt_of 425 rfl rfl
set_option maxRecDepth 20000 in
theorem tw_426 : Cond.instanceMethod ⟨"java/lang/Throwable","<init>","(Ljava/lang/String;)V"⟩ ∈ TT := tt_of 426 rfl rfl
set_option maxRecDepth 20000 in
theorem tw_429 : Cond.fieldLink "java/lang/Throwable" 31 "java/lang/Throwable" "detailMessage" "Ljava/lang/String;" ∈ TT := tt_of 429 rfl rfl
set_option maxRecDepth 20000 in
theorem tw_430 : Cond.fieldLink "java/lang/Throwable" 7 "java/lang/Throwable" "cause" "Ljava/lang/Throwable;" ∈ TT := tt_of 430 rfl rfl
set_option maxRecDepth 20000 in
theorem tw_431 : Cond.fieldLink "java/lang/Throwable" 17 "java/lang/Throwable" "stackTrace" "[Ljava/lang/StackTraceElement;" ∈ TT := tt_of 431 rfl rfl
set_option maxRecDepth 20000 in
theorem tw_432 : Cond.fieldLink "java/lang/Throwable" 24 "java/lang/Throwable" "suppressedExceptions" "Ljava/util/List;" ∈ TT := tt_of 432 rfl rfl
set_option maxRecDepth 20000 in
theorem tw_437 : Cond.lays "java/lang/IllegalStateException" "java/lang/Throwable" "depth" "I" ∈ TT := tt_of 437 rfl rfl
set_option maxRecDepth 20000 in
theorem tw_441 : Cond.arrayClass .byte ∈ TT := tt_of 441 rfl rfl
set_option maxRecDepth 20000 in
theorem tw_442 : Cond.methodLink "Tollweave" 65 yX4_addGate ∈ TT := tt_of 442 rfl rfl
set_option maxRecDepth 20000 in
theorem tw_443 : Cond.instanceMethod yX4_addGate ∈ TT := tt_of 443 rfl rfl
set_option maxRecDepth 20000 in
theorem tw_444 : Cond.selects "Tollweave$Roads" yX4_addGate yX4_addGate ∈ TT := tt_of 444 rfl rfl
set_option maxRecDepth 20000 in
theorem tw_445 : Cond.code yX4_addGate cX4_addGate 2 ((Option.some .int)) ∈ TT := tt_of 445 rfl rfl
set_option maxRecDepth 20000 in
theorem tw_446 : Cond.methodLink "TollweaveLaw" 98 yL_road ∈ TT := tt_of 446 rfl rfl
set_option maxRecDepth 20000 in
theorem tw_447 : Cond.static yL_road ∈ TT := tt_of 447 rfl rfl
set_option maxRecDepth 20000 in
theorem tw_448 : Cond.codeWith yL_road cL_road 7 ((Option.some .int)) [((0 : Nat), (14 : Nat), (17 : Nat), (19 : Nat)), ((0 : Nat), (14 : Nat), (21 : Nat), (21 : Nat)), ((0 : Nat), (14 : Nat), (25 : Nat), (13 : Nat))] ∈ TT := tt_of 448 rfl rfl
set_option maxRecDepth 20000 in
theorem tw_449 : Cond.classLink "TollweaveLaw" 19 "java/lang/IndexOutOfBoundsException" ∈ TT := tt_of 449 rfl rfl
set_option maxRecDepth 20000 in
theorem tw_450 : Cond.classLink "TollweaveLaw" 21 "java/lang/IllegalArgumentException" ∈ TT := tt_of 450 rfl rfl
set_option maxRecDepth 20000 in
theorem tw_451 : Cond.methodLink "TollweaveLaw" 15 yX6_road ∈ TT := tt_of 451 rfl rfl
set_option maxRecDepth 20000 in
theorem tw_452 : Cond.instanceMethod yX6_road ∈ TT := tt_of 452 rfl rfl
set_option maxRecDepth 20000 in
theorem tw_453 : Cond.selects "Tollweave" yX6_road yX6_road ∈ TT := tt_of 453 rfl rfl
set_option maxRecDepth 20000 in
theorem tw_454 : Cond.code yX6_road cX6_road 5 ((Option.some .int)) ∈ TT := tt_of 454 rfl rfl
set_option maxRecDepth 20000 in
theorem tw_455 : Cond.methodLink "Tollweave" 69 yX6_requireGate ∈ TT := tt_of 455 rfl rfl
set_option maxRecDepth 20000 in
theorem tw_457 : Cond.instanceMethod yX6_requireGate ∈ TT := tt_of 457 rfl rfl
set_option maxRecDepth 20000 in
theorem tw_458 : Cond.code yX6_requireGate cX6_requireGate 2 ((Option.none : Option ClassFile.FieldType)) ∈ TT := tt_of 458 rfl rfl
set_option maxRecDepth 20000 in
theorem tw_459 : Cond.classLink "Tollweave" 175 "java/lang/IndexOutOfBoundsException" ∈ TT := tt_of 459 rfl rfl
set_option maxRecDepth 20000 in
theorem tw_460 : Cond.instantiable "java/lang/IndexOutOfBoundsException" 6 ∈ TT := tt_of 460 rfl rfl
set_option maxRecDepth 20000 in
theorem tw_462 : Cond.selects "java/lang/IndexOutOfBoundsException" ⟨"java/lang/Throwable","fillInStackTrace","(I)Ljava/lang/Throwable;"⟩ ⟨"java/lang/Throwable","fillInStackTrace","(I)Ljava/lang/Throwable;"⟩ ∈ TT := tt_of 462 rfl rfl
set_option maxRecDepth 20000 in
theorem tw_463 : Cond.lays "java/lang/IndexOutOfBoundsException" "java/lang/Throwable" "cause" "Ljava/lang/Throwable;" ∈ TT := tt_of 463 rfl rfl
set_option maxRecDepth 20000 in
theorem tw_464 : Cond.lays "java/lang/IndexOutOfBoundsException" "java/lang/Throwable" "stackTrace" "[Ljava/lang/StackTraceElement;" ∈ TT := tt_of 464 rfl rfl
set_option maxRecDepth 20000 in
theorem tw_465 : Cond.lays "java/lang/IndexOutOfBoundsException" "java/lang/Throwable" "suppressedExceptions" "Ljava/util/List;" ∈ TT := tt_of 465 rfl rfl
set_option maxRecDepth 20000 in
theorem tw_466 : Cond.lays "java/lang/IndexOutOfBoundsException" "java/lang/Throwable" "detailMessage" "Ljava/lang/String;" ∈ TT := tt_of 466 rfl rfl
set_option maxRecDepth 20000 in
theorem tw_467 : Cond.lays "java/lang/IndexOutOfBoundsException" "java/lang/Throwable" "backtrace" "Ljava/lang/Object;" ∈ TT := tt_of 467 rfl rfl
set_option maxRecDepth 20000 in
theorem tw_469 : Cond.methodLink "Tollweave" 179 ⟨"java/lang/IndexOutOfBoundsException","<init>","(Ljava/lang/String;)V"⟩ ∈ TT := tt_of 469 rfl rfl
set_option maxRecDepth 20000 in
theorem tw_470 : Cond.instanceMethod ⟨"java/lang/IndexOutOfBoundsException","<init>","(Ljava/lang/String;)V"⟩ ∈ TT := tt_of 470 rfl rfl
set_option maxRecDepth 20000 in
theorem tw_471 : Cond.code ⟨"java/lang/IndexOutOfBoundsException","<init>","(Ljava/lang/String;)V"⟩ prog_13_method_2_code 2 ((Option.none : Option ClassFile.FieldType)) ∈ TT := tt_of 471 rfl rfl
set_option maxRecDepth 20000 in
theorem tw_472 : Cond.methodLink "java/lang/IndexOutOfBoundsException" 7 ⟨"java/lang/RuntimeException","<init>","(Ljava/lang/String;)V"⟩ ∈ TT := tt_of 472 rfl rfl
set_option maxRecDepth 20000 in
theorem tw_473 : Cond.lays "java/lang/IndexOutOfBoundsException" "java/lang/Throwable" "depth" "I" ∈ TT := tt_of 473 rfl rfl
set_option maxRecDepth 20000 in
theorem tw_475 : Cond.methodLink "Tollweave" 73 yX6_requireRange ∈ TT := tt_of 475 rfl rfl
set_option maxRecDepth 20000 in
theorem tw_476 : Cond.static yX6_requireRange ∈ TT := tt_of 476 rfl rfl
set_option maxRecDepth 20000 in
theorem tw_477 : Cond.code yX6_requireRange cX6_requireRange 3 ((Option.none : Option ClassFile.FieldType)) ∈ TT := tt_of 477 rfl rfl
set_option maxRecDepth 20000 in
theorem tw_478 : Cond.classLink "Tollweave" 77 "java/lang/IllegalArgumentException" ∈ TT := tt_of 478 rfl rfl
set_option maxRecDepth 20000 in
theorem tw_479 : Cond.instantiable "java/lang/IllegalArgumentException" 6 ∈ TT := tt_of 479 rfl rfl
set_option maxRecDepth 20000 in
theorem tw_481 : Cond.selects "java/lang/IllegalArgumentException" ⟨"java/lang/Throwable","fillInStackTrace","(I)Ljava/lang/Throwable;"⟩ ⟨"java/lang/Throwable","fillInStackTrace","(I)Ljava/lang/Throwable;"⟩ ∈ TT := tt_of 481 rfl rfl
set_option maxRecDepth 20000 in
theorem tw_482 : Cond.lays "java/lang/IllegalArgumentException" "java/lang/Throwable" "cause" "Ljava/lang/Throwable;" ∈ TT := tt_of 482 rfl rfl
set_option maxRecDepth 20000 in
theorem tw_483 : Cond.lays "java/lang/IllegalArgumentException" "java/lang/Throwable" "stackTrace" "[Ljava/lang/StackTraceElement;" ∈ TT := tt_of 483 rfl rfl
set_option maxRecDepth 20000 in
theorem tw_484 : Cond.lays "java/lang/IllegalArgumentException" "java/lang/Throwable" "suppressedExceptions" "Ljava/util/List;" ∈ TT := tt_of 484 rfl rfl
set_option maxRecDepth 20000 in
theorem tw_485 : Cond.lays "java/lang/IllegalArgumentException" "java/lang/Throwable" "detailMessage" "Ljava/lang/String;" ∈ TT := tt_of 485 rfl rfl
set_option maxRecDepth 20000 in
theorem tw_486 : Cond.lays "java/lang/IllegalArgumentException" "java/lang/Throwable" "backtrace" "Ljava/lang/Object;" ∈ TT := tt_of 486 rfl rfl
set_option maxRecDepth 20000 in
theorem tw_488 : Cond.methodLink "Tollweave" 81 ⟨"java/lang/IllegalArgumentException","<init>","(Ljava/lang/String;)V"⟩ ∈ TT := tt_of 488 rfl rfl
set_option maxRecDepth 20000 in
theorem tw_489 : Cond.instanceMethod ⟨"java/lang/IllegalArgumentException","<init>","(Ljava/lang/String;)V"⟩ ∈ TT := tt_of 489 rfl rfl
set_option maxRecDepth 20000 in
theorem tw_490 : Cond.code ⟨"java/lang/IllegalArgumentException","<init>","(Ljava/lang/String;)V"⟩ prog_11_method_2_code 2 ((Option.none : Option ClassFile.FieldType)) ∈ TT := tt_of 490 rfl rfl
set_option maxRecDepth 20000 in
theorem tw_491 : Cond.methodLink "java/lang/IllegalArgumentException" 7 ⟨"java/lang/RuntimeException","<init>","(Ljava/lang/String;)V"⟩ ∈ TT := tt_of 491 rfl rfl
set_option maxRecDepth 20000 in
theorem tw_492 : Cond.lays "java/lang/IllegalArgumentException" "java/lang/Throwable" "depth" "I" ∈ TT := tt_of 492 rfl rfl
set_option maxRecDepth 20000 in
theorem tw_496 : Cond.methodLink "Tollweave" 87 yX4_addRoad ∈ TT := tt_of 496 rfl rfl
set_option maxRecDepth 20000 in
theorem tw_497 : Cond.instanceMethod yX4_addRoad ∈ TT := tt_of 497 rfl rfl
set_option maxRecDepth 20000 in
theorem tw_498 : Cond.selects "Tollweave$Roads" yX4_addRoad yX4_addRoad ∈ TT := tt_of 498 rfl rfl
set_option maxRecDepth 20000 in
theorem tw_499 : Cond.code yX4_addRoad cX4_addRoad 6 ((Option.some .int)) ∈ TT := tt_of 499 rfl rfl
set_option maxRecDepth 20000 in
theorem tw_500 : Cond.methodLink "Tollweave$Roads" 37 yX4_shortenDistances ∈ TT := tt_of 500 rfl rfl
set_option maxRecDepth 20000 in
theorem tw_502 : Cond.instanceMethod yX4_shortenDistances ∈ TT := tt_of 502 rfl rfl
set_option maxRecDepth 20000 in
theorem tw_503 : Cond.code yX4_shortenDistances cX4_shortenDistances 9 ((Option.none : Option ClassFile.FieldType)) ∈ TT := tt_of 503 rfl rfl
set_option maxRecDepth 20000 in
theorem tw_504 : Cond.methodLink "Tollweave$Roads" 41 yJ9_min_7cf53 ∈ TT := tt_of 504 rfl rfl
set_option maxRecDepth 20000 in
theorem tw_505 : Cond.methodLink "TollweaveLaw" 102 yL_rate ∈ TT := tt_of 505 rfl rfl
set_option maxRecDepth 20000 in
theorem tw_506 : Cond.static yL_rate ∈ TT := tt_of 506 rfl rfl
set_option maxRecDepth 20000 in
theorem tw_507 : Cond.codeWith yL_rate cL_rate 5 ((Option.some .int)) [((0 : Nat), (7 : Nat), (10 : Nat), (21 : Nat))] ∈ TT := tt_of 507 rfl rfl
set_option maxRecDepth 20000 in
theorem tw_508 : Cond.methodLink "TollweaveLaw" 23 yX6_rate ∈ TT := tt_of 508 rfl rfl
set_option maxRecDepth 20000 in
theorem tw_509 : Cond.instanceMethod yX6_rate ∈ TT := tt_of 509 rfl rfl
set_option maxRecDepth 20000 in
theorem tw_510 : Cond.selects "Tollweave" yX6_rate yX6_rate ∈ TT := tt_of 510 rfl rfl
set_option maxRecDepth 20000 in
theorem tw_511 : Cond.code yX6_rate cX6_rate 4 ((Option.none : Option ClassFile.FieldType)) ∈ TT := tt_of 511 rfl rfl
set_option maxRecDepth 20000 in
theorem tw_512 : Cond.methodLink "TollweaveLaw" 106 yL_most ∈ TT := tt_of 512 rfl rfl
set_option maxRecDepth 20000 in
theorem tw_513 : Cond.static yL_most ∈ TT := tt_of 513 rfl rfl
set_option maxRecDepth 20000 in
theorem tw_514 : Cond.codeWith yL_most cL_most 4 ((Option.some .int)) [((0 : Nat), (9 : Nat), (12 : Nat), (21 : Nat))] ∈ TT := tt_of 514 rfl rfl
set_option maxRecDepth 20000 in
theorem tw_515 : Cond.methodLink "TollweaveLaw" 27 yX6_most ∈ TT := tt_of 515 rfl rfl
set_option maxRecDepth 20000 in
theorem tw_516 : Cond.instanceMethod yX6_most ∈ TT := tt_of 516 rfl rfl
set_option maxRecDepth 20000 in
theorem tw_517 : Cond.selects "Tollweave" yX6_most yX6_most ∈ TT := tt_of 517 rfl rfl
set_option maxRecDepth 20000 in
theorem tw_518 : Cond.code yX6_most cX6_most 3 ((Option.some .int)) ∈ TT := tt_of 518 rfl rfl
set_option maxRecDepth 20000 in
theorem tw_519 : Cond.constant "Tollweave" 98 100000 ∈ TT := tt_of 519 rfl rfl
set_option maxRecDepth 20000 in
theorem tw_520 : Cond.methodLink "TollweaveLaw" 110 yL_plate ∈ TT := tt_of 520 rfl rfl
set_option maxRecDepth 20000 in
theorem tw_521 : Cond.static yL_plate ∈ TT := tt_of 521 rfl rfl
set_option maxRecDepth 20000 in
theorem tw_522 : Cond.codeWith yL_plate cL_plate 5 ((Option.some .int)) [((0 : Nat), (7 : Nat), (10 : Nat), (19 : Nat)), ((0 : Nat), (7 : Nat), (14 : Nat), (21 : Nat))] ∈ TT := tt_of 522 rfl rfl
set_option maxRecDepth 20000 in
theorem tw_523 : Cond.methodLink "TollweaveLaw" 31 yX6_plate ∈ TT := tt_of 523 rfl rfl
set_option maxRecDepth 20000 in
theorem tw_524 : Cond.instanceMethod yX6_plate ∈ TT := tt_of 524 rfl rfl
set_option maxRecDepth 20000 in
theorem tw_525 : Cond.selects "Tollweave" yX6_plate yX6_plate ∈ TT := tt_of 525 rfl rfl
set_option maxRecDepth 20000 in
theorem tw_526 : Cond.code yX6_plate cX6_plate 4 ((Option.none : Option ClassFile.FieldType)) ∈ TT := tt_of 526 rfl rfl
set_option maxRecDepth 20000 in
theorem tw_527 : Cond.methodLink "Tollweave" 102 yX6_requirePlate ∈ TT := tt_of 527 rfl rfl
set_option maxRecDepth 20000 in
theorem tw_528 : Cond.static yX6_requirePlate ∈ TT := tt_of 528 rfl rfl
set_option maxRecDepth 20000 in
theorem tw_529 : Cond.code yX6_requirePlate cX6_requirePlate 1 ((Option.none : Option ClassFile.FieldType)) ∈ TT := tt_of 529 rfl rfl
set_option maxRecDepth 20000 in
theorem tw_531 : Cond.methodLink "TollweaveLaw" 113 yL_top ∈ TT := tt_of 531 rfl rfl
set_option maxRecDepth 20000 in
theorem tw_532 : Cond.static yL_top ∈ TT := tt_of 532 rfl rfl
set_option maxRecDepth 20000 in
theorem tw_533 : Cond.codeWith yL_top cL_top 5 ((Option.some .int)) [((0 : Nat), (9 : Nat), (12 : Nat), (19 : Nat)), ((0 : Nat), (9 : Nat), (16 : Nat), (21 : Nat))] ∈ TT := tt_of 533 rfl rfl
set_option maxRecDepth 20000 in
theorem tw_534 : Cond.methodLink "TollweaveLaw" 34 yX6_top ∈ TT := tt_of 534 rfl rfl
set_option maxRecDepth 20000 in
theorem tw_535 : Cond.instanceMethod yX6_top ∈ TT := tt_of 535 rfl rfl
set_option maxRecDepth 20000 in
theorem tw_536 : Cond.selects "Tollweave" yX6_top yX6_top ∈ TT := tt_of 536 rfl rfl
set_option maxRecDepth 20000 in
theorem tw_537 : Cond.code yX6_top cX6_top 3 ((Option.some .long)) ∈ TT := tt_of 537 rfl rfl
set_option maxRecDepth 20000 in
theorem tw_538 : Cond.methodLink "Tollweave" 111 yX6_requireHolder ∈ TT := tt_of 538 rfl rfl
set_option maxRecDepth 20000 in
theorem tw_539 : Cond.static yX6_requireHolder ∈ TT := tt_of 539 rfl rfl
set_option maxRecDepth 20000 in
theorem tw_540 : Cond.code yX6_requireHolder cX6_requireHolder 1 ((Option.none : Option ClassFile.FieldType)) ∈ TT := tt_of 540 rfl rfl
set_option maxRecDepth 20000 in
theorem tw_542 : Cond.methodLink "TollweaveLaw" 117 yL_exempt ∈ TT := tt_of 542 rfl rfl
set_option maxRecDepth 20000 in
theorem tw_543 : Cond.static yL_exempt ∈ TT := tt_of 543 rfl rfl
set_option maxRecDepth 20000 in
theorem tw_544 : Cond.codeWith yL_exempt cL_exempt 6 ((Option.some .int)) [((0 : Nat), (12 : Nat), (15 : Nat), (19 : Nat)), ((0 : Nat), (12 : Nat), (19 : Nat), (21 : Nat)), ((0 : Nat), (12 : Nat), (23 : Nat), (13 : Nat))] ∈ TT := tt_of 544 rfl rfl
set_option maxRecDepth 20000 in
theorem tw_545 : Cond.methodLink "TollweaveLaw" 38 yX6_exempt ∈ TT := tt_of 545 rfl rfl
set_option maxRecDepth 20000 in
theorem tw_546 : Cond.instanceMethod yX6_exempt ∈ TT := tt_of 546 rfl rfl
set_option maxRecDepth 20000 in
theorem tw_547 : Cond.selects "Tollweave" yX6_exempt yX6_exempt ∈ TT := tt_of 547 rfl rfl
set_option maxRecDepth 20000 in
theorem tw_548 : Cond.code yX6_exempt cX6_exempt 4 ((Option.some .int)) ∈ TT := tt_of 548 rfl rfl
set_option maxRecDepth 20000 in
theorem tw_550 : Cond.methodLink "Tollweave" 123 yX2_addSpan ∈ TT := tt_of 550 rfl rfl
set_option maxRecDepth 20000 in
theorem tw_551 : Cond.instanceMethod yX2_addSpan ∈ TT := tt_of 551 rfl rfl
set_option maxRecDepth 20000 in
theorem tw_552 : Cond.selects "Tollweave$Plates" yX2_addSpan yX2_addSpan ∈ TT := tt_of 552 rfl rfl
set_option maxRecDepth 20000 in
theorem tw_553 : Cond.code yX2_addSpan cX2_addSpan 4 ((Option.some .int)) ∈ TT := tt_of 553 rfl rfl
set_option maxRecDepth 20000 in
theorem tw_554 : Cond.methodLink "TollweaveLaw" 121 yL_read ∈ TT := tt_of 554 rfl rfl
set_option maxRecDepth 20000 in
theorem tw_555 : Cond.static yL_read ∈ TT := tt_of 555 rfl rfl
set_option maxRecDepth 20000 in
theorem tw_556 : Cond.codeWith yL_read cL_read 6 ((Option.some .int)) [((0 : Nat), (12 : Nat), (15 : Nat), (19 : Nat)), ((0 : Nat), (12 : Nat), (19 : Nat), (21 : Nat)), ((0 : Nat), (12 : Nat), (23 : Nat), (13 : Nat))] ∈ TT := tt_of 556 rfl rfl
set_option maxRecDepth 20000 in
theorem tw_557 : Cond.methodLink "TollweaveLaw" 42 yX6_read ∈ TT := tt_of 557 rfl rfl
set_option maxRecDepth 20000 in
theorem tw_558 : Cond.instanceMethod yX6_read ∈ TT := tt_of 558 rfl rfl
set_option maxRecDepth 20000 in
theorem tw_559 : Cond.selects "Tollweave" yX6_read yX6_read ∈ TT := tt_of 559 rfl rfl
set_option maxRecDepth 20000 in
theorem tw_560 : Cond.code yX6_read cX6_read 4 ((Option.some .int)) ∈ TT := tt_of 560 rfl rfl
set_option maxRecDepth 20000 in
theorem tw_562 : Cond.methodLink "Tollweave" 132 yX3_add ∈ TT := tt_of 562 rfl rfl
set_option maxRecDepth 20000 in
theorem tw_563 : Cond.instanceMethod yX3_add ∈ TT := tt_of 563 rfl rfl
set_option maxRecDepth 20000 in
theorem tw_564 : Cond.selects "Tollweave$Readings" yX3_add yX3_add ∈ TT := tt_of 564 rfl rfl
set_option maxRecDepth 20000 in
theorem tw_565 : Cond.code yX3_add cX3_add 6 ((Option.some .int)) ∈ TT := tt_of 565 rfl rfl
set_option maxRecDepth 20000 in
theorem tw_566 : Cond.methodLink "TollweaveLaw" 124 yL_strike ∈ TT := tt_of 566 rfl rfl
set_option maxRecDepth 20000 in
theorem tw_567 : Cond.static yL_strike ∈ TT := tt_of 567 rfl rfl
set_option maxRecDepth 20000 in
theorem tw_568 : Cond.codeWith yL_strike cL_strike 3 ((Option.some .int)) [((0 : Nat), (5 : Nat), (8 : Nat), (19 : Nat)), ((0 : Nat), (5 : Nat), (11 : Nat), (13 : Nat))] ∈ TT := tt_of 568 rfl rfl
set_option maxRecDepth 20000 in
theorem tw_569 : Cond.methodLink "TollweaveLaw" 45 yX6_strike ∈ TT := tt_of 569 rfl rfl
set_option maxRecDepth 20000 in
theorem tw_570 : Cond.instanceMethod yX6_strike ∈ TT := tt_of 570 rfl rfl
set_option maxRecDepth 20000 in
theorem tw_571 : Cond.selects "Tollweave" yX6_strike yX6_strike ∈ TT := tt_of 571 rfl rfl
set_option maxRecDepth 20000 in
theorem tw_572 : Cond.code yX6_strike cX6_strike 2 ((Option.none : Option ClassFile.FieldType)) ∈ TT := tt_of 572 rfl rfl
set_option maxRecDepth 20000 in
theorem tw_573 : Cond.methodLink "Tollweave" 135 yX6_requireReading ∈ TT := tt_of 573 rfl rfl
set_option maxRecDepth 20000 in
theorem tw_575 : Cond.instanceMethod yX6_requireReading ∈ TT := tt_of 575 rfl rfl
set_option maxRecDepth 20000 in
theorem tw_576 : Cond.code yX6_requireReading cX6_requireReading 2 ((Option.none : Option ClassFile.FieldType)) ∈ TT := tt_of 576 rfl rfl
set_option maxRecDepth 20000 in
theorem tw_579 : Cond.methodLink "TollweaveLaw" 128 yL_pass ∈ TT := tt_of 579 rfl rfl
set_option maxRecDepth 20000 in
theorem tw_580 : Cond.static yL_pass ∈ TT := tt_of 580 rfl rfl
set_option maxRecDepth 20000 in
theorem tw_581 : Cond.codeWith yL_pass cL_pass 4 ((Option.some .int)) [((0 : Nat), (9 : Nat), (12 : Nat), (21 : Nat)), ((0 : Nat), (9 : Nat), (15 : Nat), (13 : Nat))] ∈ TT := tt_of 581 rfl rfl
set_option maxRecDepth 20000 in
theorem tw_582 : Cond.methodLink "TollweaveLaw" 49 yX6_pass ∈ TT := tt_of 582 rfl rfl
set_option maxRecDepth 20000 in
theorem tw_583 : Cond.instanceMethod yX6_pass ∈ TT := tt_of 583 rfl rfl
set_option maxRecDepth 20000 in
theorem tw_584 : Cond.selects "Tollweave" yX6_pass yX6_pass ∈ TT := tt_of 584 rfl rfl
set_option maxRecDepth 20000 in
theorem tw_585 : Cond.code yX6_pass cX6_pass 2 ((Option.some .int)) ∈ TT := tt_of 585 rfl rfl
set_option maxRecDepth 20000 in
theorem tw_587 : Cond.methodLink "TollweaveLaw" 136 yL_distance ∈ TT := tt_of 587 rfl rfl
set_option maxRecDepth 20000 in
theorem tw_588 : Cond.static yL_distance ∈ TT := tt_of 588 rfl rfl
set_option maxRecDepth 20000 in
theorem tw_589 : Cond.codeWith yL_distance cL_distance 5 ((Option.some .int)) [((0 : Nat), (10 : Nat), (13 : Nat), (19 : Nat))] ∈ TT := tt_of 589 rfl rfl
set_option maxRecDepth 20000 in
theorem tw_590 : Cond.methodLink "TollweaveLaw" 52 yX6_distance ∈ TT := tt_of 590 rfl rfl
set_option maxRecDepth 20000 in
theorem tw_591 : Cond.instanceMethod yX6_distance ∈ TT := tt_of 591 rfl rfl
set_option maxRecDepth 20000 in
theorem tw_592 : Cond.selects "Tollweave" yX6_distance yX6_distance ∈ TT := tt_of 592 rfl rfl
set_option maxRecDepth 20000 in
theorem tw_593 : Cond.code yX6_distance cX6_distance 3 ((Option.some .int)) ∈ TT := tt_of 593 rfl rfl
set_option maxRecDepth 20000 in
theorem tw_594 : Cond.methodLink "TollweaveLaw" 139 yL_way ∈ TT := tt_of 594 rfl rfl
set_option maxRecDepth 20000 in
theorem tw_595 : Cond.static yL_way ∈ TT := tt_of 595 rfl rfl
set_option maxRecDepth 20000 in
theorem tw_596 : Cond.codeWith yL_way cL_way 6 ((Option.some .int)) [((0 : Nat), (12 : Nat), (15 : Nat), (19 : Nat))] ∈ TT := tt_of 596 rfl rfl
set_option maxRecDepth 20000 in
theorem tw_597 : Cond.methodLink "TollweaveLaw" 56 yX6_way ∈ TT := tt_of 597 rfl rfl
set_option maxRecDepth 20000 in
theorem tw_598 : Cond.instanceMethod yX6_way ∈ TT := tt_of 598 rfl rfl
set_option maxRecDepth 20000 in
theorem tw_599 : Cond.selects "Tollweave" yX6_way yX6_way ∈ TT := tt_of 599 rfl rfl
set_option maxRecDepth 20000 in
theorem tw_600 : Cond.code yX6_way cX6_way 4 ((Option.some .int)) ∈ TT := tt_of 600 rfl rfl
set_option maxRecDepth 20000 in
theorem tw_602 : Cond.methodLink "Tollweave" 180 yX4_roadOfWay ∈ TT := tt_of 602 rfl rfl
set_option maxRecDepth 20000 in
theorem tw_603 : Cond.instanceMethod yX4_roadOfWay ∈ TT := tt_of 603 rfl rfl
set_option maxRecDepth 20000 in
theorem tw_604 : Cond.selects "Tollweave$Roads" yX4_roadOfWay yX4_roadOfWay ∈ TT := tt_of 604 rfl rfl
set_option maxRecDepth 20000 in
theorem tw_605 : Cond.code yX4_roadOfWay cX4_roadOfWay 7 ((Option.some .int)) ∈ TT := tt_of 605 rfl rfl
set_option maxRecDepth 20000 in
theorem tw_606 : Cond.methodLink "Tollweave$Roads" 47 yX4_roadTowards ∈ TT := tt_of 606 rfl rfl
set_option maxRecDepth 20000 in
theorem tw_607 : Cond.methodLink "TollweaveLaw" 142 yL_journeys ∈ TT := tt_of 607 rfl rfl
set_option maxRecDepth 20000 in
theorem tw_608 : Cond.static yL_journeys ∈ TT := tt_of 608 rfl rfl
set_option maxRecDepth 20000 in
theorem tw_609 : Cond.codeWith yL_journeys cL_journeys 4 ((Option.some .int)) [((0 : Nat), (9 : Nat), (12 : Nat), (19 : Nat))] ∈ TT := tt_of 609 rfl rfl
set_option maxRecDepth 20000 in
theorem tw_610 : Cond.methodLink "TollweaveLaw" 59 yX6_journeys ∈ TT := tt_of 610 rfl rfl
set_option maxRecDepth 20000 in
theorem tw_611 : Cond.instanceMethod yX6_journeys ∈ TT := tt_of 611 rfl rfl
set_option maxRecDepth 20000 in
theorem tw_612 : Cond.selects "Tollweave" yX6_journeys yX6_journeys ∈ TT := tt_of 612 rfl rfl
set_option maxRecDepth 20000 in
theorem tw_613 : Cond.code yX6_journeys cX6_journeys 2 ((Option.some .int)) ∈ TT := tt_of 613 rfl rfl
set_option maxRecDepth 20000 in
theorem tw_614 : Cond.methodLink "TollweaveLaw" 145 yL_journey ∈ TT := tt_of 614 rfl rfl
set_option maxRecDepth 20000 in
theorem tw_615 : Cond.static yL_journey ∈ TT := tt_of 615 rfl rfl
set_option maxRecDepth 20000 in
theorem tw_616 : Cond.codeWith yL_journey cL_journey 6 ((Option.some .int)) [((0 : Nat), (12 : Nat), (15 : Nat), (19 : Nat)), ((0 : Nat), (12 : Nat), (19 : Nat), (21 : Nat))] ∈ TT := tt_of 616 rfl rfl
set_option maxRecDepth 20000 in
theorem tw_617 : Cond.methodLink "TollweaveLaw" 62 yX6_journey ∈ TT := tt_of 617 rfl rfl
set_option maxRecDepth 20000 in
theorem tw_618 : Cond.instanceMethod yX6_journey ∈ TT := tt_of 618 rfl rfl
set_option maxRecDepth 20000 in
theorem tw_619 : Cond.selects "Tollweave" yX6_journey yX6_journey ∈ TT := tt_of 619 rfl rfl
set_option maxRecDepth 20000 in
theorem tw_620 : Cond.code yX6_journey cX6_journey 4 ((Option.some .int)) ∈ TT := tt_of 620 rfl rfl
set_option maxRecDepth 20000 in
theorem tw_622 : Cond.methodLink "Tollweave" 195 yX1_fareOf ∈ TT := tt_of 622 rfl rfl
set_option maxRecDepth 20000 in
theorem tw_623 : Cond.methodLink "Tollweave" 199 yX1_isOver ∈ TT := tt_of 623 rfl rfl
set_option maxRecDepth 20000 in
theorem tw_624 : Cond.methodLink "Tollweave" 202 yX1_shareOf ∈ TT := tt_of 624 rfl rfl
set_option maxRecDepth 20000 in
theorem tw_625 : Cond.methodLink "TollweaveLaw" 148 yL_ofReading ∈ TT := tt_of 625 rfl rfl
set_option maxRecDepth 20000 in
theorem tw_626 : Cond.static yL_ofReading ∈ TT := tt_of 626 rfl rfl
set_option maxRecDepth 20000 in
theorem tw_627 : Cond.codeWith yL_ofReading cL_ofReading 5 ((Option.some .int)) [((0 : Nat), (10 : Nat), (13 : Nat), (19 : Nat)), ((0 : Nat), (10 : Nat), (17 : Nat), (21 : Nat))] ∈ TT := tt_of 627 rfl rfl
set_option maxRecDepth 20000 in
theorem tw_628 : Cond.methodLink "TollweaveLaw" 65 yX6_ofReading ∈ TT := tt_of 628 rfl rfl
set_option maxRecDepth 20000 in
theorem tw_629 : Cond.instanceMethod yX6_ofReading ∈ TT := tt_of 629 rfl rfl
set_option maxRecDepth 20000 in
theorem tw_630 : Cond.selects "Tollweave" yX6_ofReading yX6_ofReading ∈ TT := tt_of 630 rfl rfl
set_option maxRecDepth 20000 in
theorem tw_631 : Cond.code yX6_ofReading cX6_ofReading 3 ((Option.some .int)) ∈ TT := tt_of 631 rfl rfl
set_option maxRecDepth 20000 in
theorem tw_632 : Cond.methodLink "Tollweave" 214 yX6_isDoubleNow ∈ TT := tt_of 632 rfl rfl
set_option maxRecDepth 20000 in
theorem tw_634 : Cond.instanceMethod yX6_isDoubleNow ∈ TT := tt_of 634 rfl rfl
set_option maxRecDepth 20000 in
theorem tw_635 : Cond.code yX6_isDoubleNow cX6_isDoubleNow 2 ((Option.some .boolean)) ∈ TT := tt_of 635 rfl rfl
set_option maxRecDepth 20000 in
theorem tw_636 : Cond.methodLink "Tollweave" 218 yX6_journeyNow ∈ TT := tt_of 636 rfl rfl
set_option maxRecDepth 20000 in
theorem tw_638 : Cond.instanceMethod yX6_journeyNow ∈ TT := tt_of 638 rfl rfl
set_option maxRecDepth 20000 in
theorem tw_639 : Cond.code yX6_journeyNow cX6_journeyNow 2 ((Option.some .int)) ∈ TT := tt_of 639 rfl rfl
set_option maxRecDepth 20000 in
theorem tw_640 : Cond.methodLink "TollweaveLaw" 151 yL_due ∈ TT := tt_of 640 rfl rfl
set_option maxRecDepth 20000 in
theorem tw_641 : Cond.static yL_due ∈ TT := tt_of 641 rfl rfl
set_option maxRecDepth 20000 in
theorem tw_642 : Cond.codeWith yL_due cL_due 4 ((Option.some .int)) [((0 : Nat), (8 : Nat), (11 : Nat), (19 : Nat))] ∈ TT := tt_of 642 rfl rfl
set_option maxRecDepth 20000 in
theorem tw_643 : Cond.methodLink "TollweaveLaw" 68 yX6_due ∈ TT := tt_of 643 rfl rfl
set_option maxRecDepth 20000 in
theorem tw_644 : Cond.instanceMethod yX6_due ∈ TT := tt_of 644 rfl rfl
set_option maxRecDepth 20000 in
theorem tw_645 : Cond.selects "Tollweave" yX6_due yX6_due ∈ TT := tt_of 645 rfl rfl
set_option maxRecDepth 20000 in
theorem tw_646 : Cond.code yX6_due cX6_due 2 ((Option.some .long)) ∈ TT := tt_of 646 rfl rfl
set_option maxRecDepth 20000 in
theorem tw_647 : Cond.methodLink "TollweaveLaw" 154 yL_billed ∈ TT := tt_of 647 rfl rfl
set_option maxRecDepth 20000 in
theorem tw_648 : Cond.static yL_billed ∈ TT := tt_of 648 rfl rfl
set_option maxRecDepth 20000 in
theorem tw_649 : Cond.codeWith yL_billed cL_billed 4 ((Option.some .int)) [((0 : Nat), (8 : Nat), (11 : Nat), (19 : Nat))] ∈ TT := tt_of 649 rfl rfl
set_option maxRecDepth 20000 in
theorem tw_650 : Cond.methodLink "TollweaveLaw" 72 yX6_billed ∈ TT := tt_of 650 rfl rfl
set_option maxRecDepth 20000 in
theorem tw_651 : Cond.instanceMethod yX6_billed ∈ TT := tt_of 651 rfl rfl
set_option maxRecDepth 20000 in
theorem tw_652 : Cond.selects "Tollweave" yX6_billed yX6_billed ∈ TT := tt_of 652 rfl rfl
set_option maxRecDepth 20000 in
theorem tw_653 : Cond.code yX6_billed cX6_billed 2 ((Option.some .long)) ∈ TT := tt_of 653 rfl rfl
set_option maxRecDepth 20000 in
theorem tw_654 : Cond.methodLink "TollweaveLaw" 157 yL_wallet ∈ TT := tt_of 654 rfl rfl
set_option maxRecDepth 20000 in
theorem tw_655 : Cond.static yL_wallet ∈ TT := tt_of 655 rfl rfl
set_option maxRecDepth 20000 in
theorem tw_656 : Cond.codeWith yL_wallet cL_wallet 4 ((Option.some .int)) [((0 : Nat), (8 : Nat), (11 : Nat), (19 : Nat))] ∈ TT := tt_of 656 rfl rfl
set_option maxRecDepth 20000 in
theorem tw_657 : Cond.methodLink "TollweaveLaw" 75 yX6_wallet ∈ TT := tt_of 657 rfl rfl
set_option maxRecDepth 20000 in
theorem tw_658 : Cond.instanceMethod yX6_wallet ∈ TT := tt_of 658 rfl rfl
set_option maxRecDepth 20000 in
theorem tw_659 : Cond.selects "Tollweave" yX6_wallet yX6_wallet ∈ TT := tt_of 659 rfl rfl
set_option maxRecDepth 20000 in
theorem tw_660 : Cond.code yX6_wallet cX6_wallet 2 ((Option.some .long)) ∈ TT := tt_of 660 rfl rfl
set_option maxRecDepth 20000 in
theorem tw_661 : Cond.methodLink "TollweaveLaw" 160 yL_own ∈ TT := tt_of 661 rfl rfl
set_option maxRecDepth 20000 in
theorem tw_662 : Cond.static yL_own ∈ TT := tt_of 662 rfl rfl
set_option maxRecDepth 20000 in
theorem tw_663 : Cond.codeWith yL_own cL_own 4 ((Option.some .int)) [((0 : Nat), (8 : Nat), (11 : Nat), (19 : Nat))] ∈ TT := tt_of 663 rfl rfl
set_option maxRecDepth 20000 in
theorem tw_664 : Cond.methodLink "TollweaveLaw" 78 yX6_own ∈ TT := tt_of 664 rfl rfl
set_option maxRecDepth 20000 in
theorem tw_665 : Cond.instanceMethod yX6_own ∈ TT := tt_of 665 rfl rfl
set_option maxRecDepth 20000 in
theorem tw_666 : Cond.selects "Tollweave" yX6_own yX6_own ∈ TT := tt_of 666 rfl rfl
set_option maxRecDepth 20000 in
theorem tw_667 : Cond.code yX6_own cX6_own 2 ((Option.some .long)) ∈ TT := tt_of 667 rfl rfl
set_option maxRecDepth 20000 in
theorem tw_668 : Cond.methodLink "TollweaveLaw" 163 yL_share ∈ TT := tt_of 668 rfl rfl
set_option maxRecDepth 20000 in
theorem tw_669 : Cond.static yL_share ∈ TT := tt_of 669 rfl rfl
set_option maxRecDepth 20000 in
theorem tw_670 : Cond.codeWith yL_share cL_share 5 ((Option.some .int)) [((0 : Nat), (9 : Nat), (12 : Nat), (19 : Nat))] ∈ TT := tt_of 670 rfl rfl
set_option maxRecDepth 20000 in
theorem tw_671 : Cond.methodLink "TollweaveLaw" 81 yX6_share ∈ TT := tt_of 671 rfl rfl
set_option maxRecDepth 20000 in
theorem tw_672 : Cond.instanceMethod yX6_share ∈ TT := tt_of 672 rfl rfl
set_option maxRecDepth 20000 in
theorem tw_673 : Cond.selects "Tollweave" yX6_share yX6_share ∈ TT := tt_of 673 rfl rfl
set_option maxRecDepth 20000 in
theorem tw_674 : Cond.code yX6_share cX6_share 3 ((Option.some .long)) ∈ TT := tt_of 674 rfl rfl
set_option maxRecDepth 20000 in
theorem tw_676 : Cond.methodLink "Tollweave" 230 yX6_dueToOwner ∈ TT := tt_of 676 rfl rfl
set_option maxRecDepth 20000 in
theorem tw_678 : Cond.instanceMethod yX6_dueToOwner ∈ TT := tt_of 678 rfl rfl
set_option maxRecDepth 20000 in
theorem tw_679 : Cond.code yX6_dueToOwner cX6_dueToOwner 5 ((Option.some .long)) ∈ TT := tt_of 679 rfl rfl
set_option maxRecDepth 20000 in
theorem tw_680 : Cond.classLink "TollweaveLaw" 86 "TollweaveModel" ∈ TT := tt_of 680 rfl rfl
set_option maxRecDepth 20000 in
theorem tw_681 : Cond.instantiable "TollweaveModel" 37 ∈ TT := tt_of 681 rfl rfl
set_option maxRecDepth 20000 in
theorem tw_682 : Cond.methodLink "TollweaveLaw" 88 yX7_init ∈ TT := tt_of 682 rfl rfl
set_option maxRecDepth 20000 in
theorem tw_683 : Cond.instanceMethod yX7_init ∈ TT := tt_of 683 rfl rfl
set_option maxRecDepth 20000 in
theorem tw_684 : Cond.code yX7_init cX7_init 2 ((Option.none : Option ClassFile.FieldType)) ∈ TT := tt_of 684 rfl rfl
set_option maxRecDepth 20000 in
theorem tw_685 : Cond.methodLink "TollweaveModel" 1 ⟨"java/lang/Object","<init>","()V"⟩ ∈ TT := tt_of 685 rfl rfl
set_option maxRecDepth 20000 in
theorem tw_686 : Cond.fieldLink "TollweaveModel" 103 "TollweaveModel" "thrown" "I" ∈ TT := tt_of 686 rfl rfl
set_option maxRecDepth 20000 in
theorem tw_687 : Cond.fieldLink "TollweaveModel" 141 "TollweaveModel" "now" "I" ∈ TT := tt_of 687 rfl rfl
set_option maxRecDepth 20000 in
theorem tw_688 : Cond.fieldLink "TollweaveModel" 106 "TollweaveModel" "gateMany" "I" ∈ TT := tt_of 688 rfl rfl
set_option maxRecDepth 20000 in
theorem tw_689 : Cond.fieldLink "TollweaveModel" 117 "TollweaveModel" "roadMany" "I" ∈ TT := tt_of 689 rfl rfl
set_option maxRecDepth 20000 in
theorem tw_690 : Cond.fieldLink "TollweaveModel" 7 "TollweaveModel" "ones" "[I" ∈ TT := tt_of 690 rfl rfl
set_option maxRecDepth 20000 in
theorem tw_691 : Cond.fieldLink "TollweaveModel" 13 "TollweaveModel" "others" "[I" ∈ TT := tt_of 691 rfl rfl
set_option maxRecDepth 20000 in
theorem tw_692 : Cond.fieldLink "TollweaveModel" 16 "TollweaveModel" "lengths" "[I" ∈ TT := tt_of 692 rfl rfl
set_option maxRecDepth 20000 in
theorem tw_693 : Cond.fieldLink "TollweaveModel" 19 "TollweaveModel" "owners" "[I" ∈ TT := tt_of 693 rfl rfl
set_option maxRecDepth 20000 in
theorem tw_694 : Cond.fieldLink "TollweaveModel" 22 "TollweaveModel" "far" "[I" ∈ TT := tt_of 694 rfl rfl
set_option maxRecDepth 20000 in
theorem tw_695 : Cond.fieldLink "TollweaveModel" 25 "TollweaveModel" "rates" "[I" ∈ TT := tt_of 695 rfl rfl
set_option maxRecDepth 20000 in
theorem tw_696 : Cond.fieldLink "TollweaveModel" 28 "TollweaveModel" "percents" "[I" ∈ TT := tt_of 696 rfl rfl
set_option maxRecDepth 20000 in
theorem tw_697 : Cond.fieldLink "TollweaveModel" 31 "TollweaveModel" "most" "I" ∈ TT := tt_of 697 rfl rfl
set_option maxRecDepth 20000 in
theorem tw_698 : Cond.fieldLink "TollweaveModel" 35 "TollweaveModel" "kinds" "[I" ∈ TT := tt_of 698 rfl rfl
set_option maxRecDepth 20000 in
theorem tw_699 : Cond.fieldLink "TollweaveModel" 38 "TollweaveModel" "holders" "[I" ∈ TT := tt_of 699 rfl rfl
set_option maxRecDepth 20000 in
theorem tw_700 : Cond.fieldLink "TollweaveModel" 41 "TollweaveModel" "billed" "[J" ∈ TT := tt_of 700 rfl rfl
set_option maxRecDepth 20000 in
theorem tw_701 : Cond.fieldLink "TollweaveModel" 45 "TollweaveModel" "own" "[J" ∈ TT := tt_of 701 rfl rfl
set_option maxRecDepth 20000 in
theorem tw_702 : Cond.fieldLink "TollweaveModel" 48 "TollweaveModel" "wallets" "[J" ∈ TT := tt_of 702 rfl rfl
set_option maxRecDepth 20000 in
theorem tw_703 : Cond.fieldLink "TollweaveModel" 51 "TollweaveModel" "got" "[J" ∈ TT := tt_of 703 rfl rfl
set_option maxRecDepth 20000 in
theorem tw_704 : Cond.fieldLink "TollweaveModel" 138 "TollweaveModel" "spanMany" "I" ∈ TT := tt_of 704 rfl rfl
set_option maxRecDepth 20000 in
theorem tw_705 : Cond.fieldLink "TollweaveModel" 54 "TollweaveModel" "spanPlate" "[I" ∈ TT := tt_of 705 rfl rfl
set_option maxRecDepth 20000 in
theorem tw_706 : Cond.fieldLink "TollweaveModel" 57 "TollweaveModel" "spanFrom" "[I" ∈ TT := tt_of 706 rfl rfl
set_option maxRecDepth 20000 in
theorem tw_707 : Cond.fieldLink "TollweaveModel" 60 "TollweaveModel" "spanTo" "[I" ∈ TT := tt_of 707 rfl rfl
set_option maxRecDepth 20000 in
theorem tw_708 : Cond.fieldLink "TollweaveModel" 113 "TollweaveModel" "readingMany" "I" ∈ TT := tt_of 708 rfl rfl
set_option maxRecDepth 20000 in
theorem tw_709 : Cond.fieldLink "TollweaveModel" 63 "TollweaveModel" "readGate" "[I" ∈ TT := tt_of 709 rfl rfl
set_option maxRecDepth 20000 in
theorem tw_710 : Cond.fieldLink "TollweaveModel" 66 "TollweaveModel" "readPlate" "[I" ∈ TT := tt_of 710 rfl rfl
set_option maxRecDepth 20000 in
theorem tw_711 : Cond.fieldLink "TollweaveModel" 69 "TollweaveModel" "readMinute" "[I" ∈ TT := tt_of 711 rfl rfl
set_option maxRecDepth 20000 in
theorem tw_712 : Cond.fieldLink "TollweaveModel" 72 "TollweaveModel" "isStruck" "[Z" ∈ TT := tt_of 712 rfl rfl
set_option maxRecDepth 20000 in
theorem tw_713 : Cond.fieldLink "TollweaveModel" 76 "TollweaveModel" "isDouble" "[Z" ∈ TT := tt_of 713 rfl rfl
set_option maxRecDepth 20000 in
theorem tw_714 : Cond.fieldLink "TollweaveModel" 79 "TollweaveModel" "journeyOf" "[I" ∈ TT := tt_of 714 rfl rfl
set_option maxRecDepth 20000 in
theorem tw_715 : Cond.fieldLink "TollweaveModel" 82 "TollweaveModel" "isDone" "[Z" ∈ TT := tt_of 715 rfl rfl
set_option maxRecDepth 20000 in
theorem tw_716 : Cond.fieldLink "TollweaveModel" 159 "TollweaveModel" "journeyMany" "I" ∈ TT := tt_of 716 rfl rfl
set_option maxRecDepth 20000 in
theorem tw_717 : Cond.fieldLink "TollweaveModel" 85 "TollweaveModel" "first" "[I" ∈ TT := tt_of 717 rfl rfl
set_option maxRecDepth 20000 in
theorem tw_718 : Cond.fieldLink "TollweaveModel" 88 "TollweaveModel" "last" "[I" ∈ TT := tt_of 718 rfl rfl
set_option maxRecDepth 20000 in
theorem tw_719 : Cond.fieldLink "TollweaveModel" 91 "TollweaveModel" "counts" "[I" ∈ TT := tt_of 719 rfl rfl
set_option maxRecDepth 20000 in
theorem tw_720 : Cond.fieldLink "TollweaveModel" 94 "TollweaveModel" "paid" "[J" ∈ TT := tt_of 720 rfl rfl
set_option maxRecDepth 20000 in
theorem tw_721 : Cond.fieldLink "TollweaveModel" 97 "TollweaveModel" "fares" "[J" ∈ TT := tt_of 721 rfl rfl
set_option maxRecDepth 20000 in
theorem tw_722 : Cond.fieldLink "TollweaveModel" 100 "TollweaveModel" "shares" "[J" ∈ TT := tt_of 722 rfl rfl
set_option maxRecDepth 20000 in
theorem tw_723 : Cond.lays "TollweaveModel" "TollweaveModel" "thrown" "I" ∈ TT := tt_of 723 rfl rfl
set_option maxRecDepth 20000 in
theorem tw_725 : Cond.lays "TollweaveModel" "TollweaveModel" "now" "I" ∈ TT := tt_of 725 rfl rfl
set_option maxRecDepth 20000 in
theorem tw_727 : Cond.lays "TollweaveModel" "TollweaveModel" "gateMany" "I" ∈ TT := tt_of 727 rfl rfl
set_option maxRecDepth 20000 in
theorem tw_729 : Cond.lays "TollweaveModel" "TollweaveModel" "roadMany" "I" ∈ TT := tt_of 729 rfl rfl
set_option maxRecDepth 20000 in
theorem tw_731 : Cond.laysFinal "TollweaveModel" "TollweaveModel" "ones" "[I" ∈ TT := tt_of 731 rfl rfl
set_option maxRecDepth 20000 in
theorem tw_733 : Cond.laysFinal "TollweaveModel" "TollweaveModel" "others" "[I" ∈ TT := tt_of 733 rfl rfl
set_option maxRecDepth 20000 in
theorem tw_735 : Cond.laysFinal "TollweaveModel" "TollweaveModel" "lengths" "[I" ∈ TT := tt_of 735 rfl rfl
set_option maxRecDepth 20000 in
theorem tw_737 : Cond.laysFinal "TollweaveModel" "TollweaveModel" "owners" "[I" ∈ TT := tt_of 737 rfl rfl
set_option maxRecDepth 20000 in
theorem tw_739 : Cond.laysFinal "TollweaveModel" "TollweaveModel" "far" "[I" ∈ TT := tt_of 739 rfl rfl
set_option maxRecDepth 20000 in
theorem tw_741 : Cond.laysFinal "TollweaveModel" "TollweaveModel" "rates" "[I" ∈ TT := tt_of 741 rfl rfl
set_option maxRecDepth 20000 in
theorem tw_743 : Cond.laysFinal "TollweaveModel" "TollweaveModel" "percents" "[I" ∈ TT := tt_of 743 rfl rfl
set_option maxRecDepth 20000 in
theorem tw_745 : Cond.lays "TollweaveModel" "TollweaveModel" "most" "I" ∈ TT := tt_of 745 rfl rfl
set_option maxRecDepth 20000 in
theorem tw_747 : Cond.laysFinal "TollweaveModel" "TollweaveModel" "kinds" "[I" ∈ TT := tt_of 747 rfl rfl
set_option maxRecDepth 20000 in
theorem tw_749 : Cond.laysFinal "TollweaveModel" "TollweaveModel" "holders" "[I" ∈ TT := tt_of 749 rfl rfl
set_option maxRecDepth 20000 in
theorem tw_751 : Cond.laysFinal "TollweaveModel" "TollweaveModel" "billed" "[J" ∈ TT := tt_of 751 rfl rfl
set_option maxRecDepth 20000 in
theorem tw_753 : Cond.laysFinal "TollweaveModel" "TollweaveModel" "own" "[J" ∈ TT := tt_of 753 rfl rfl
set_option maxRecDepth 20000 in
theorem tw_755 : Cond.laysFinal "TollweaveModel" "TollweaveModel" "wallets" "[J" ∈ TT := tt_of 755 rfl rfl
set_option maxRecDepth 20000 in
theorem tw_757 : Cond.laysFinal "TollweaveModel" "TollweaveModel" "got" "[J" ∈ TT := tt_of 757 rfl rfl
set_option maxRecDepth 20000 in
theorem tw_759 : Cond.lays "TollweaveModel" "TollweaveModel" "spanMany" "I" ∈ TT := tt_of 759 rfl rfl
set_option maxRecDepth 20000 in
theorem tw_761 : Cond.laysFinal "TollweaveModel" "TollweaveModel" "spanPlate" "[I" ∈ TT := tt_of 761 rfl rfl
set_option maxRecDepth 20000 in
theorem tw_763 : Cond.laysFinal "TollweaveModel" "TollweaveModel" "spanFrom" "[I" ∈ TT := tt_of 763 rfl rfl
set_option maxRecDepth 20000 in
theorem tw_765 : Cond.laysFinal "TollweaveModel" "TollweaveModel" "spanTo" "[I" ∈ TT := tt_of 765 rfl rfl
set_option maxRecDepth 20000 in
theorem tw_767 : Cond.lays "TollweaveModel" "TollweaveModel" "readingMany" "I" ∈ TT := tt_of 767 rfl rfl
set_option maxRecDepth 20000 in
theorem tw_769 : Cond.laysFinal "TollweaveModel" "TollweaveModel" "readGate" "[I" ∈ TT := tt_of 769 rfl rfl
set_option maxRecDepth 20000 in
theorem tw_771 : Cond.laysFinal "TollweaveModel" "TollweaveModel" "readPlate" "[I" ∈ TT := tt_of 771 rfl rfl
set_option maxRecDepth 20000 in
theorem tw_773 : Cond.laysFinal "TollweaveModel" "TollweaveModel" "readMinute" "[I" ∈ TT := tt_of 773 rfl rfl
set_option maxRecDepth 20000 in
theorem tw_775 : Cond.laysFinal "TollweaveModel" "TollweaveModel" "isStruck" "[Z" ∈ TT := tt_of 775 rfl rfl
set_option maxRecDepth 20000 in
theorem tw_777 : Cond.laysFinal "TollweaveModel" "TollweaveModel" "isDouble" "[Z" ∈ TT := tt_of 777 rfl rfl
set_option maxRecDepth 20000 in
theorem tw_779 : Cond.laysFinal "TollweaveModel" "TollweaveModel" "journeyOf" "[I" ∈ TT := tt_of 779 rfl rfl
set_option maxRecDepth 20000 in
theorem tw_781 : Cond.laysFinal "TollweaveModel" "TollweaveModel" "isDone" "[Z" ∈ TT := tt_of 781 rfl rfl
set_option maxRecDepth 20000 in
theorem tw_783 : Cond.lays "TollweaveModel" "TollweaveModel" "journeyMany" "I" ∈ TT := tt_of 783 rfl rfl
set_option maxRecDepth 20000 in
theorem tw_785 : Cond.laysFinal "TollweaveModel" "TollweaveModel" "first" "[I" ∈ TT := tt_of 785 rfl rfl
set_option maxRecDepth 20000 in
theorem tw_787 : Cond.laysFinal "TollweaveModel" "TollweaveModel" "last" "[I" ∈ TT := tt_of 787 rfl rfl
set_option maxRecDepth 20000 in
theorem tw_789 : Cond.laysFinal "TollweaveModel" "TollweaveModel" "counts" "[I" ∈ TT := tt_of 789 rfl rfl
set_option maxRecDepth 20000 in
theorem tw_791 : Cond.laysFinal "TollweaveModel" "TollweaveModel" "paid" "[J" ∈ TT := tt_of 791 rfl rfl
set_option maxRecDepth 20000 in
theorem tw_793 : Cond.laysFinal "TollweaveModel" "TollweaveModel" "fares" "[J" ∈ TT := tt_of 793 rfl rfl
set_option maxRecDepth 20000 in
theorem tw_795 : Cond.laysFinal "TollweaveModel" "TollweaveModel" "shares" "[J" ∈ TT := tt_of 795 rfl rfl
set_option maxRecDepth 20000 in
theorem tw_798 : Cond.methodLink "TollweaveLaw" 95 yX7_thrown ∈ TT := tt_of 798 rfl rfl
set_option maxRecDepth 20000 in
theorem tw_799 : Cond.instanceMethod yX7_thrown ∈ TT := tt_of 799 rfl rfl
set_option maxRecDepth 20000 in
theorem tw_800 : Cond.selects "TollweaveModel" yX7_thrown yX7_thrown ∈ TT := tt_of 800 rfl rfl
set_option maxRecDepth 20000 in
theorem tw_801 : Cond.code yX7_thrown cX7_thrown 1 ((Option.some .int)) ∈ TT := tt_of 801 rfl rfl
set_option maxRecDepth 20000 in
theorem tw_802 : Cond.methodLink "TollweaveLaw" 94 yX7_gate ∈ TT := tt_of 802 rfl rfl
set_option maxRecDepth 20000 in
theorem tw_803 : Cond.instanceMethod yX7_gate ∈ TT := tt_of 803 rfl rfl
set_option maxRecDepth 20000 in
theorem tw_804 : Cond.selects "TollweaveModel" yX7_gate yX7_gate ∈ TT := tt_of 804 rfl rfl
set_option maxRecDepth 20000 in
theorem tw_805 : Cond.code yX7_gate cX7_gate 1 ((Option.some .int)) ∈ TT := tt_of 805 rfl rfl
set_option maxRecDepth 20000 in
theorem tw_806 : Cond.methodLink "TollweaveModel" 124 yX7_measures ∈ TT := tt_of 806 rfl rfl
set_option maxRecDepth 20000 in
theorem tw_808 : Cond.instanceMethod yX7_measures ∈ TT := tt_of 808 rfl rfl
set_option maxRecDepth 20000 in
theorem tw_809 : Cond.code yX7_measures cX7_measures 6 ((Option.none : Option ClassFile.FieldType)) ∈ TT := tt_of 809 rfl rfl
set_option maxRecDepth 20000 in
theorem tw_810 : Cond.constant "TollweaveModel" 116 1000000 ∈ TT := tt_of 810 rfl rfl
set_option maxRecDepth 20000 in
theorem tw_811 : Cond.methodLink "TollweaveLaw" 101 yX7_road ∈ TT := tt_of 811 rfl rfl
set_option maxRecDepth 20000 in
theorem tw_812 : Cond.instanceMethod yX7_road ∈ TT := tt_of 812 rfl rfl
set_option maxRecDepth 20000 in
theorem tw_813 : Cond.selects "TollweaveModel" yX7_road yX7_road ∈ TT := tt_of 813 rfl rfl
set_option maxRecDepth 20000 in
theorem tw_814 : Cond.code yX7_road cX7_road 5 ((Option.some .int)) ∈ TT := tt_of 814 rfl rfl
set_option maxRecDepth 20000 in
theorem tw_815 : Cond.methodLink "TollweaveModel" 127 yX7_isGate ∈ TT := tt_of 815 rfl rfl
set_option maxRecDepth 20000 in
theorem tw_817 : Cond.instanceMethod yX7_isGate ∈ TT := tt_of 817 rfl rfl
set_option maxRecDepth 20000 in
theorem tw_818 : Cond.code yX7_isGate cX7_isGate 2 ((Option.some .boolean)) ∈ TT := tt_of 818 rfl rfl
set_option maxRecDepth 20000 in
theorem tw_819 : Cond.methodLink "TollweaveModel" 109 yX7_in ∈ TT := tt_of 819 rfl rfl
set_option maxRecDepth 20000 in
theorem tw_820 : Cond.static yX7_in ∈ TT := tt_of 820 rfl rfl
set_option maxRecDepth 20000 in
theorem tw_821 : Cond.code yX7_in cX7_in 3 ((Option.some .boolean)) ∈ TT := tt_of 821 rfl rfl
set_option maxRecDepth 20000 in
theorem tw_822 : Cond.methodLink "TollweaveLaw" 105 yX7_rate ∈ TT := tt_of 822 rfl rfl
set_option maxRecDepth 20000 in
theorem tw_823 : Cond.instanceMethod yX7_rate ∈ TT := tt_of 823 rfl rfl
set_option maxRecDepth 20000 in
theorem tw_824 : Cond.selects "TollweaveModel" yX7_rate yX7_rate ∈ TT := tt_of 824 rfl rfl
set_option maxRecDepth 20000 in
theorem tw_825 : Cond.code yX7_rate cX7_rate 4 ((Option.none : Option ClassFile.FieldType)) ∈ TT := tt_of 825 rfl rfl
set_option maxRecDepth 20000 in
theorem tw_826 : Cond.methodLink "TollweaveLaw" 109 yX7_most ∈ TT := tt_of 826 rfl rfl
set_option maxRecDepth 20000 in
theorem tw_827 : Cond.instanceMethod yX7_most ∈ TT := tt_of 827 rfl rfl
set_option maxRecDepth 20000 in
theorem tw_828 : Cond.selects "TollweaveModel" yX7_most yX7_most ∈ TT := tt_of 828 rfl rfl
set_option maxRecDepth 20000 in
theorem tw_829 : Cond.code yX7_most cX7_most 3 ((Option.some .int)) ∈ TT := tt_of 829 rfl rfl
set_option maxRecDepth 20000 in
theorem tw_830 : Cond.constant "TollweaveModel" 131 100000 ∈ TT := tt_of 830 rfl rfl
set_option maxRecDepth 20000 in
theorem tw_831 : Cond.methodLink "TollweaveLaw" 112 yX7_plate ∈ TT := tt_of 831 rfl rfl
set_option maxRecDepth 20000 in
theorem tw_832 : Cond.instanceMethod yX7_plate ∈ TT := tt_of 832 rfl rfl
set_option maxRecDepth 20000 in
theorem tw_833 : Cond.selects "TollweaveModel" yX7_plate yX7_plate ∈ TT := tt_of 833 rfl rfl
set_option maxRecDepth 20000 in
theorem tw_834 : Cond.code yX7_plate cX7_plate 4 ((Option.none : Option ClassFile.FieldType)) ∈ TT := tt_of 834 rfl rfl
set_option maxRecDepth 20000 in
theorem tw_835 : Cond.methodLink "TollweaveModel" 132 yX7_isPlate ∈ TT := tt_of 835 rfl rfl
set_option maxRecDepth 20000 in
theorem tw_836 : Cond.static yX7_isPlate ∈ TT := tt_of 836 rfl rfl
set_option maxRecDepth 20000 in
theorem tw_837 : Cond.code yX7_isPlate cX7_isPlate 1 ((Option.some .boolean)) ∈ TT := tt_of 837 rfl rfl
set_option maxRecDepth 20000 in
theorem tw_838 : Cond.methodLink "TollweaveModel" 135 yX7_isHolder ∈ TT := tt_of 838 rfl rfl
set_option maxRecDepth 20000 in
theorem tw_839 : Cond.static yX7_isHolder ∈ TT := tt_of 839 rfl rfl
set_option maxRecDepth 20000 in
theorem tw_840 : Cond.code yX7_isHolder cX7_isHolder 1 ((Option.some .boolean)) ∈ TT := tt_of 840 rfl rfl
set_option maxRecDepth 20000 in
theorem tw_841 : Cond.methodLink "TollweaveLaw" 116 yX7_top ∈ TT := tt_of 841 rfl rfl
set_option maxRecDepth 20000 in
theorem tw_842 : Cond.instanceMethod yX7_top ∈ TT := tt_of 842 rfl rfl
set_option maxRecDepth 20000 in
theorem tw_843 : Cond.selects "TollweaveModel" yX7_top yX7_top ∈ TT := tt_of 843 rfl rfl
set_option maxRecDepth 20000 in
theorem tw_844 : Cond.code yX7_top cX7_top 3 ((Option.some .long)) ∈ TT := tt_of 844 rfl rfl
set_option maxRecDepth 20000 in
theorem tw_845 : Cond.methodLink "TollweaveLaw" 120 yX7_exempt ∈ TT := tt_of 845 rfl rfl
set_option maxRecDepth 20000 in
theorem tw_846 : Cond.instanceMethod yX7_exempt ∈ TT := tt_of 846 rfl rfl
set_option maxRecDepth 20000 in
theorem tw_847 : Cond.selects "TollweaveModel" yX7_exempt yX7_exempt ∈ TT := tt_of 847 rfl rfl
set_option maxRecDepth 20000 in
theorem tw_848 : Cond.code yX7_exempt cX7_exempt 4 ((Option.some .int)) ∈ TT := tt_of 848 rfl rfl
set_option maxRecDepth 20000 in
theorem tw_849 : Cond.methodLink "TollweaveLaw" 123 yX7_read ∈ TT := tt_of 849 rfl rfl
set_option maxRecDepth 20000 in
theorem tw_850 : Cond.instanceMethod yX7_read ∈ TT := tt_of 850 rfl rfl
set_option maxRecDepth 20000 in
theorem tw_851 : Cond.selects "TollweaveModel" yX7_read yX7_read ∈ TT := tt_of 851 rfl rfl
set_option maxRecDepth 20000 in
theorem tw_852 : Cond.code yX7_read cX7_read 4 ((Option.some .int)) ∈ TT := tt_of 852 rfl rfl
set_option maxRecDepth 20000 in
theorem tw_853 : Cond.methodLink "TollweaveLaw" 127 yX7_strike ∈ TT := tt_of 853 rfl rfl
set_option maxRecDepth 20000 in
theorem tw_854 : Cond.instanceMethod yX7_strike ∈ TT := tt_of 854 rfl rfl
set_option maxRecDepth 20000 in
theorem tw_855 : Cond.selects "TollweaveModel" yX7_strike yX7_strike ∈ TT := tt_of 855 rfl rfl
set_option maxRecDepth 20000 in
theorem tw_856 : Cond.code yX7_strike cX7_strike 2 ((Option.none : Option ClassFile.FieldType)) ∈ TT := tt_of 856 rfl rfl
set_option maxRecDepth 20000 in
theorem tw_857 : Cond.methodLink "TollweaveModel" 144 yX7_isReading ∈ TT := tt_of 857 rfl rfl
set_option maxRecDepth 20000 in
theorem tw_859 : Cond.instanceMethod yX7_isReading ∈ TT := tt_of 859 rfl rfl
set_option maxRecDepth 20000 in
theorem tw_860 : Cond.code yX7_isReading cX7_isReading 2 ((Option.some .boolean)) ∈ TT := tt_of 860 rfl rfl
set_option maxRecDepth 20000 in
theorem tw_861 : Cond.methodLink "TollweaveLaw" 130 yX7_pass ∈ TT := tt_of 861 rfl rfl
set_option maxRecDepth 20000 in
theorem tw_862 : Cond.instanceMethod yX7_pass ∈ TT := tt_of 862 rfl rfl
set_option maxRecDepth 20000 in
theorem tw_863 : Cond.selects "TollweaveModel" yX7_pass yX7_pass ∈ TT := tt_of 863 rfl rfl
set_option maxRecDepth 20000 in
theorem tw_864 : Cond.code yX7_pass cX7_pass 2 ((Option.some .int)) ∈ TT := tt_of 864 rfl rfl
set_option maxRecDepth 20000 in
theorem tw_865 : Cond.methodLink "TollweaveLaw" 135 yX7_bill ∈ TT := tt_of 865 rfl rfl
set_option maxRecDepth 20000 in
theorem tw_866 : Cond.instanceMethod yX7_bill ∈ TT := tt_of 866 rfl rfl
set_option maxRecDepth 20000 in
theorem tw_867 : Cond.selects "TollweaveModel" yX7_bill yX7_bill ∈ TT := tt_of 867 rfl rfl
set_option maxRecDepth 20000 in
theorem tw_868 : Cond.code yX7_bill cX7_bill 8 ((Option.some .long)) ∈ TT := tt_of 868 rfl rfl
set_option maxRecDepth 20000 in
theorem tw_869 : Cond.methodLink "TollweaveModel" 182 yX7_dueOf ∈ TT := tt_of 869 rfl rfl
set_option maxRecDepth 20000 in
theorem tw_871 : Cond.instanceMethod yX7_dueOf ∈ TT := tt_of 871 rfl rfl
set_option maxRecDepth 20000 in
theorem tw_872 : Cond.code yX7_dueOf cX7_dueOf 5 ((Option.some .long)) ∈ TT := tt_of 872 rfl rfl
set_option maxRecDepth 20000 in
theorem tw_873 : Cond.methodLink "TollweaveModel" 176 yX7_goes ∈ TT := tt_of 873 rfl rfl
set_option maxRecDepth 20000 in
theorem tw_875 : Cond.instanceMethod yX7_goes ∈ TT := tt_of 875 rfl rfl
set_option maxRecDepth 20000 in
theorem tw_876 : Cond.code yX7_goes cX7_goes 7 ((Option.none : Option ClassFile.FieldType)) ∈ TT := tt_of 876 rfl rfl
set_option maxRecDepth 20000 in
theorem tw_877 : Cond.methodLink "TollweaveModel" 162 yX7_nextReading ∈ TT := tt_of 877 rfl rfl
set_option maxRecDepth 20000 in
theorem tw_879 : Cond.instanceMethod yX7_nextReading ∈ TT := tt_of 879 rfl rfl
set_option maxRecDepth 20000 in
theorem tw_880 : Cond.code yX7_nextReading cX7_nextReading 5 ((Option.some .int)) ∈ TT := tt_of 880 rfl rfl
set_option maxRecDepth 20000 in
theorem tw_881 : Cond.methodLink "TollweaveModel" 120 yX7_away ∈ TT := tt_of 881 rfl rfl
set_option maxRecDepth 20000 in
theorem tw_883 : Cond.instanceMethod yX7_away ∈ TT := tt_of 883 rfl rfl
set_option maxRecDepth 20000 in
theorem tw_884 : Cond.code yX7_away cX7_away 3 ((Option.some .int)) ∈ TT := tt_of 884 rfl rfl
set_option maxRecDepth 20000 in
theorem tw_885 : Cond.methodLink "TollweaveModel" 166 yX7_pays ∈ TT := tt_of 885 rfl rfl
set_option maxRecDepth 20000 in
theorem tw_887 : Cond.instanceMethod yX7_pays ∈ TT := tt_of 887 rfl rfl
set_option maxRecDepth 20000 in
theorem tw_888 : Cond.code yX7_pays cX7_pays 11 ((Option.none : Option ClassFile.FieldType)) ∈ TT := tt_of 888 rfl rfl
set_option maxRecDepth 20000 in
theorem tw_889 : Cond.methodLink "TollweaveModel" 147 yX7_isExempt ∈ TT := tt_of 889 rfl rfl
set_option maxRecDepth 20000 in
theorem tw_891 : Cond.instanceMethod yX7_isExempt ∈ TT := tt_of 891 rfl rfl
set_option maxRecDepth 20000 in
theorem tw_892 : Cond.code yX7_isExempt cX7_isExempt 5 ((Option.some .boolean)) ∈ TT := tt_of 892 rfl rfl
set_option maxRecDepth 20000 in
theorem tw_893 : Cond.methodLink "TollweaveModel" 151 yX7_next ∈ TT := tt_of 893 rfl rfl
set_option maxRecDepth 20000 in
theorem tw_895 : Cond.instanceMethod yX7_next ∈ TT := tt_of 895 rfl rfl
set_option maxRecDepth 20000 in
theorem tw_896 : Cond.code yX7_next cX7_next 7 ((Option.some .int)) ∈ TT := tt_of 896 rfl rfl
set_option maxRecDepth 20000 in
theorem tw_897 : Cond.constantLong "TollweaveModel" 154 100 ∈ TT := tt_of 897 rfl rfl
set_option maxRecDepth 20000 in
theorem tw_898 : Cond.methodLink "TollweaveModel" 156 yX7_otherEnd ∈ TT := tt_of 898 rfl rfl
set_option maxRecDepth 20000 in
theorem tw_900 : Cond.instanceMethod yX7_otherEnd ∈ TT := tt_of 900 rfl rfl
set_option maxRecDepth 20000 in
theorem tw_901 : Cond.code yX7_otherEnd cX7_otherEnd 3 ((Option.some .int)) ∈ TT := tt_of 901 rfl rfl
set_option maxRecDepth 20000 in
theorem tw_902 : Cond.methodLink "TollweaveModel" 170 yX7_begins ∈ TT := tt_of 902 rfl rfl
set_option maxRecDepth 20000 in
theorem tw_904 : Cond.instanceMethod yX7_begins ∈ TT := tt_of 904 rfl rfl
set_option maxRecDepth 20000 in
theorem tw_905 : Cond.code yX7_begins cX7_begins 4 ((Option.none : Option ClassFile.FieldType)) ∈ TT := tt_of 905 rfl rfl
set_option maxRecDepth 20000 in
theorem tw_906 : Cond.methodLink "TollweaveModel" 174 yX7_shares ∈ TT := tt_of 906 rfl rfl
set_option maxRecDepth 20000 in
theorem tw_908 : Cond.instanceMethod yX7_shares ∈ TT := tt_of 908 rfl rfl
set_option maxRecDepth 20000 in
theorem tw_909 : Cond.code yX7_shares cX7_shares 10 ((Option.none : Option ClassFile.FieldType)) ∈ TT := tt_of 909 rfl rfl
set_option maxRecDepth 20000 in
theorem tw_910 : Cond.methodLink "TollweaveModel" 179 yX7_isOver ∈ TT := tt_of 910 rfl rfl
set_option maxRecDepth 20000 in
theorem tw_912 : Cond.instanceMethod yX7_isOver ∈ TT := tt_of 912 rfl rfl
set_option maxRecDepth 20000 in
theorem tw_913 : Cond.code yX7_isOver cX7_isOver 2 ((Option.some .boolean)) ∈ TT := tt_of 913 rfl rfl
set_option maxRecDepth 20000 in
theorem tw_914 : Cond.methodLink "TollweaveModel" 186 yX7_dueTo ∈ TT := tt_of 914 rfl rfl
set_option maxRecDepth 20000 in
theorem tw_916 : Cond.instanceMethod yX7_dueTo ∈ TT := tt_of 916 rfl rfl
set_option maxRecDepth 20000 in
theorem tw_917 : Cond.code yX7_dueTo cX7_dueTo 6 ((Option.some .long)) ∈ TT := tt_of 917 rfl rfl
set_option maxRecDepth 20000 in
theorem tw_918 : Cond.methodLink "TollweaveLaw" 138 yX7_distance ∈ TT := tt_of 918 rfl rfl
set_option maxRecDepth 20000 in
theorem tw_919 : Cond.instanceMethod yX7_distance ∈ TT := tt_of 919 rfl rfl
set_option maxRecDepth 20000 in
theorem tw_920 : Cond.selects "TollweaveModel" yX7_distance yX7_distance ∈ TT := tt_of 920 rfl rfl
set_option maxRecDepth 20000 in
theorem tw_921 : Cond.code yX7_distance cX7_distance 3 ((Option.some .int)) ∈ TT := tt_of 921 rfl rfl
set_option maxRecDepth 20000 in
theorem tw_922 : Cond.methodLink "TollweaveLaw" 141 yX7_way ∈ TT := tt_of 922 rfl rfl
set_option maxRecDepth 20000 in
theorem tw_923 : Cond.instanceMethod yX7_way ∈ TT := tt_of 923 rfl rfl
set_option maxRecDepth 20000 in
theorem tw_924 : Cond.selects "TollweaveModel" yX7_way yX7_way ∈ TT := tt_of 924 rfl rfl
set_option maxRecDepth 20000 in
theorem tw_925 : Cond.code yX7_way cX7_way 7 ((Option.some .int)) ∈ TT := tt_of 925 rfl rfl
set_option maxRecDepth 20000 in
theorem tw_926 : Cond.methodLink "TollweaveLaw" 144 yX7_journeys ∈ TT := tt_of 926 rfl rfl
set_option maxRecDepth 20000 in
theorem tw_927 : Cond.instanceMethod yX7_journeys ∈ TT := tt_of 927 rfl rfl
set_option maxRecDepth 20000 in
theorem tw_928 : Cond.selects "TollweaveModel" yX7_journeys yX7_journeys ∈ TT := tt_of 928 rfl rfl
set_option maxRecDepth 20000 in
theorem tw_929 : Cond.code yX7_journeys cX7_journeys 2 ((Option.some .int)) ∈ TT := tt_of 929 rfl rfl
set_option maxRecDepth 20000 in
theorem tw_930 : Cond.methodLink "TollweaveLaw" 147 yX7_journey ∈ TT := tt_of 930 rfl rfl
set_option maxRecDepth 20000 in
theorem tw_931 : Cond.instanceMethod yX7_journey ∈ TT := tt_of 931 rfl rfl
set_option maxRecDepth 20000 in
theorem tw_932 : Cond.selects "TollweaveModel" yX7_journey yX7_journey ∈ TT := tt_of 932 rfl rfl
set_option maxRecDepth 20000 in
theorem tw_933 : Cond.code yX7_journey cX7_journey 4 ((Option.some .int)) ∈ TT := tt_of 933 rfl rfl
set_option maxRecDepth 20000 in
theorem tw_934 : Cond.methodLink "TollweaveLaw" 150 yX7_ofReading ∈ TT := tt_of 934 rfl rfl
set_option maxRecDepth 20000 in
theorem tw_935 : Cond.instanceMethod yX7_ofReading ∈ TT := tt_of 935 rfl rfl
set_option maxRecDepth 20000 in
theorem tw_936 : Cond.selects "TollweaveModel" yX7_ofReading yX7_ofReading ∈ TT := tt_of 936 rfl rfl
set_option maxRecDepth 20000 in
theorem tw_937 : Cond.code yX7_ofReading cX7_ofReading 3 ((Option.some .int)) ∈ TT := tt_of 937 rfl rfl
set_option maxRecDepth 20000 in
theorem tw_938 : Cond.methodLink "TollweaveLaw" 153 yX7_due ∈ TT := tt_of 938 rfl rfl
set_option maxRecDepth 20000 in
theorem tw_939 : Cond.instanceMethod yX7_due ∈ TT := tt_of 939 rfl rfl
set_option maxRecDepth 20000 in
theorem tw_940 : Cond.selects "TollweaveModel" yX7_due yX7_due ∈ TT := tt_of 940 rfl rfl
set_option maxRecDepth 20000 in
theorem tw_941 : Cond.code yX7_due cX7_due 2 ((Option.some .long)) ∈ TT := tt_of 941 rfl rfl
set_option maxRecDepth 20000 in
theorem tw_942 : Cond.methodLink "TollweaveLaw" 156 yX7_billed ∈ TT := tt_of 942 rfl rfl
set_option maxRecDepth 20000 in
theorem tw_943 : Cond.instanceMethod yX7_billed ∈ TT := tt_of 943 rfl rfl
set_option maxRecDepth 20000 in
theorem tw_944 : Cond.selects "TollweaveModel" yX7_billed yX7_billed ∈ TT := tt_of 944 rfl rfl
set_option maxRecDepth 20000 in
theorem tw_945 : Cond.code yX7_billed cX7_billed 2 ((Option.some .long)) ∈ TT := tt_of 945 rfl rfl
set_option maxRecDepth 20000 in
theorem tw_946 : Cond.methodLink "TollweaveLaw" 159 yX7_wallet ∈ TT := tt_of 946 rfl rfl
set_option maxRecDepth 20000 in
theorem tw_947 : Cond.instanceMethod yX7_wallet ∈ TT := tt_of 947 rfl rfl
set_option maxRecDepth 20000 in
theorem tw_948 : Cond.selects "TollweaveModel" yX7_wallet yX7_wallet ∈ TT := tt_of 948 rfl rfl
set_option maxRecDepth 20000 in
theorem tw_949 : Cond.code yX7_wallet cX7_wallet 2 ((Option.some .long)) ∈ TT := tt_of 949 rfl rfl
set_option maxRecDepth 20000 in
theorem tw_950 : Cond.methodLink "TollweaveLaw" 162 yX7_own ∈ TT := tt_of 950 rfl rfl
set_option maxRecDepth 20000 in
theorem tw_951 : Cond.instanceMethod yX7_own ∈ TT := tt_of 951 rfl rfl
set_option maxRecDepth 20000 in
theorem tw_952 : Cond.selects "TollweaveModel" yX7_own yX7_own ∈ TT := tt_of 952 rfl rfl
set_option maxRecDepth 20000 in
theorem tw_953 : Cond.code yX7_own cX7_own 2 ((Option.some .long)) ∈ TT := tt_of 953 rfl rfl
set_option maxRecDepth 20000 in
theorem tw_954 : Cond.methodLink "TollweaveLaw" 166 yX7_share ∈ TT := tt_of 954 rfl rfl
set_option maxRecDepth 20000 in
theorem tw_955 : Cond.instanceMethod yX7_share ∈ TT := tt_of 955 rfl rfl
set_option maxRecDepth 20000 in
theorem tw_956 : Cond.selects "TollweaveModel" yX7_share yX7_share ∈ TT := tt_of 956 rfl rfl
set_option maxRecDepth 20000 in
theorem tw_957 : Cond.code yX7_share cX7_share 3 ((Option.some .long)) ∈ TT := tt_of 957 rfl rfl
