theorem xq (i : Nat) {w : Cond} (h : tables_1[i]? = some w) (g : goodWord w = true) : w ∈ xtbl := List.mem_filter.mpr ⟨List.mem_append_right _ (List.mem_of_getElem? h), g⟩
theorem xq1 (i : Nat) {w : Cond} (h : tables_1_1[i]? = some w) (g : goodWord w = true) : w ∈ xtbl := List.mem_filter.mpr ⟨List.mem_append_right _ (List.mem_append_left _ (List.mem_of_getElem? h)), g⟩
theorem xq2 (i : Nat) {w : Cond} (h : tables_1_2[i]? = some w) (g : goodWord w = true) : w ∈ xtbl := List.mem_filter.mpr ⟨List.mem_append_right _ (List.mem_append_right _ (List.mem_append_left _ (List.mem_of_getElem? h))), g⟩
theorem xq3 (i : Nat) {w : Cond} (h : tables_1_3[i]? = some w) (g : goodWord w = true) : w ∈ xtbl := List.mem_filter.mpr ⟨List.mem_append_right _ (List.mem_append_right _ (List.mem_append_right _ (List.mem_append_left _ (List.mem_of_getElem? h)))), g⟩
theorem xq4 (i : Nat) {w : Cond} (h : tables_1_4[i]? = some w) (g : goodWord w = true) : w ∈ xtbl := List.mem_filter.mpr ⟨List.mem_append_right _ (List.mem_append_right _ (List.mem_append_right _ (List.mem_append_right _ (List.mem_of_getElem? h)))), g⟩
theorem xsubl {ws : List Cond} (is : List Nat) (h : ws.map some = is.map (fun i => tables_1[i]?)) (g : ws.all goodWord = true) : ∀ w ∈ ws, w ∈ xtbl := by
  intro w hw
  have h1 : some w ∈ is.map (fun i => tables_1[i]?) := by rw [← h]; exact List.mem_map.mpr ⟨w, hw, rfl⟩
  obtain ⟨i, -, hi⟩ := List.mem_map.mp h1
  exact xq i hi (List.all_eq_true.mp g w hw)
theorem xqs (i : Nat) {q : MethodName × Nat} (h : lw_privs[i]? = some q) (g : goodWord (Cond.selects q.1.cls q.1 q.1) = true) : Cond.selects q.1.cls q.1 q.1 ∈ xtbl := List.mem_filter.mpr ⟨List.mem_append_left _ (List.mem_map.mpr ⟨q, List.mem_of_getElem? h, rfl⟩), g⟩
theorem q_1 : (Jvm.Cond.initialized "WaitedPost") ∈ xtbl := xq1 1 (by decide +kernel) rfl
theorem q_2 : (Jvm.Cond.initialized "WaitedPost$Reader") ∈ xtbl := xq1 2 (by decide +kernel) rfl
theorem q_3 : (Jvm.Cond.initialized "WaitedPost$Told") ∈ xtbl := xq1 3 (by decide +kernel) rfl
theorem q_4 : (Jvm.Cond.initialized "WaitedPost$Standing") ∈ xtbl := xq1 4 (by decide +kernel) rfl
theorem q_5 : (Jvm.Cond.initialized "WaitedPost$Planner") ∈ xtbl := xq1 5 (by decide +kernel) rfl
theorem q_6 : (Jvm.Cond.initialized "WaitedPostModel") ∈ xtbl := xq1 6 (by decide +kernel) rfl
theorem q_7 : (Jvm.Cond.initialized "java/util/Arrays") ∈ xtbl := xq1 7 (by decide +kernel) rfl
theorem q_8 : (Jvm.Cond.initialized "java/lang/Math") ∈ xtbl := xq1 8 (by decide +kernel) rfl
theorem q_9 : (Jvm.Cond.initialized "java/lang/Integer") ∈ xtbl := xq1 9 (by decide +kernel) rfl
theorem q_10 : (Jvm.Cond.classLink "WaitedPostLaw" (7 : Nat) "WaitedPost") ∈ xtbl := xq1 10 (by decide +kernel) rfl
theorem q_11 : (Jvm.Cond.instantiable "WaitedPost" (13 : Nat)) ∈ xtbl := xq1 11 (by decide +kernel) rfl
theorem q_12 : (Jvm.Cond.methodLink "WaitedPostLaw" (9 : Nat) ({ cls := "WaitedPost", name := "<init>", desc := "()V" } : Jvm.MethodName)) ∈ xtbl := xq1 12 (by decide +kernel) rfl
theorem q_13 : (Jvm.Cond.instanceMethod ({ cls := "WaitedPost", name := "<init>", desc := "()V" } : Jvm.MethodName)) ∈ xtbl := xq1 13 (by decide +kernel) rfl
theorem q_14 : (Jvm.Cond.code ({ cls := "WaitedPost", name := "<init>", desc := "()V" } : Jvm.MethodName) prog_1_method_1_code (2 : Nat) (Option.none : Option Jvm.ClassFile.FieldType)) ∈ xtbl := xq1 14 (by decide +kernel) rfl
theorem q_15 : (Jvm.Cond.methodLink "WaitedPost" (1 : Nat) ({ cls := "java/lang/Object", name := "<init>", desc := "()V" } : Jvm.MethodName)) ∈ xtbl := xq1 15 (by decide +kernel) rfl
theorem q_16 : (Jvm.Cond.instanceMethod ({ cls := "java/lang/Object", name := "<init>", desc := "()V" } : Jvm.MethodName)) ∈ xtbl := xq1 16 (by decide +kernel) rfl
theorem q_17 : (Jvm.Cond.code ({ cls := "java/lang/Object", name := "<init>", desc := "()V" } : Jvm.MethodName) object_method_1_code (1 : Nat) (Option.none : Option Jvm.ClassFile.FieldType)) ∈ xtbl := xq1 17 (by decide +kernel) rfl
theorem q_18 : (Jvm.Cond.classLink "WaitedPost" (13 : Nat) "WaitedPost$Reader") ∈ xtbl := xq1 18 (by decide +kernel) rfl
theorem q_19 : (Jvm.Cond.instantiable "WaitedPost$Reader" (3 : Nat)) ∈ xtbl := xq1 19 (by decide +kernel) rfl
theorem q_20 : (Jvm.Cond.methodLink "WaitedPost" (15 : Nat) ({ cls := "WaitedPost$Reader", name := "<init>", desc := "()V" } : Jvm.MethodName)) ∈ xtbl := xq1 20 (by decide +kernel) rfl
theorem q_21 : (Jvm.Cond.instanceMethod ({ cls := "WaitedPost$Reader", name := "<init>", desc := "()V" } : Jvm.MethodName)) ∈ xtbl := xq1 21 (by decide +kernel) rfl
theorem q_22 : (Jvm.Cond.code ({ cls := "WaitedPost$Reader", name := "<init>", desc := "()V" } : Jvm.MethodName) prog_3_method_1_code (1 : Nat) (Option.none : Option Jvm.ClassFile.FieldType)) ∈ xtbl := xq1 22 (by decide +kernel) rfl
theorem q_23 : (Jvm.Cond.methodLink "WaitedPost$Reader" (3 : Nat) ({ cls := "java/lang/Object", name := "<init>", desc := "()V" } : Jvm.MethodName)) ∈ xtbl := xq1 23 (by decide +kernel) rfl
theorem q_24 : (Jvm.Cond.classLink "WaitedPost$Reader" (9 : Nat) "WaitedPost$Told") ∈ xtbl := xq1 24 (by decide +kernel) rfl
theorem q_25 : (Jvm.Cond.instantiable "WaitedPost$Told" (6 : Nat)) ∈ xtbl := xq1 25 (by decide +kernel) rfl
theorem q_26 : (Jvm.Cond.methodLink "WaitedPost$Reader" (11 : Nat) ({ cls := "WaitedPost$Told", name := "<init>", desc := "()V" } : Jvm.MethodName)) ∈ xtbl := xq1 26 (by decide +kernel) rfl
theorem q_27 : (Jvm.Cond.instanceMethod ({ cls := "WaitedPost$Told", name := "<init>", desc := "()V" } : Jvm.MethodName)) ∈ xtbl := xq1 27 (by decide +kernel) rfl
theorem q_28 : (Jvm.Cond.code ({ cls := "WaitedPost$Told", name := "<init>", desc := "()V" } : Jvm.MethodName) prog_5_method_1_code (1 : Nat) (Option.none : Option Jvm.ClassFile.FieldType)) ∈ xtbl := xq1 28 (by decide +kernel) rfl
theorem q_29 : (Jvm.Cond.methodLink "WaitedPost$Told" (3 : Nat) ({ cls := "java/lang/Object", name := "<init>", desc := "()V" } : Jvm.MethodName)) ∈ xtbl := xq1 29 (by decide +kernel) rfl
theorem q_30 : (Jvm.Cond.fieldLink "WaitedPost$Told" (25 : Nat) "WaitedPost$Told" "pardon" "I") ∈ xtbl := xq1 30 (by decide +kernel) rfl
theorem q_31 : (Jvm.Cond.fieldLink "WaitedPost$Reader" (50 : Nat) "WaitedPost$Told" "pardon" "I") ∈ xtbl := xq1 31 (by decide +kernel) rfl
theorem q_32 : (Jvm.Cond.fieldLink "WaitedPost" (214 : Nat) "WaitedPost$Told" "pardon" "I") ∈ xtbl := xq1 32 (by decide +kernel) rfl
theorem q_33 : (Jvm.Cond.fieldLink "WaitedPost$Told" (9 : Nat) "WaitedPost$Told" "room" "I") ∈ xtbl := xq1 33 (by decide +kernel) rfl
theorem q_34 : (Jvm.Cond.fieldLink "WaitedPost$Planner" (75 : Nat) "WaitedPost$Told" "room" "I") ∈ xtbl := xq1 34 (by decide +kernel) rfl
theorem q_35 : (Jvm.Cond.fieldLink "WaitedPost$Reader" (53 : Nat) "WaitedPost$Told" "room" "I") ∈ xtbl := xq1 35 (by decide +kernel) rfl
theorem q_36 : (Jvm.Cond.fieldLink "WaitedPost" (217 : Nat) "WaitedPost$Told" "room" "I") ∈ xtbl := xq1 36 (by decide +kernel) rfl
theorem q_37 : (Jvm.Cond.fieldLink "WaitedPost$Told" (28 : Nat) "WaitedPost$Told" "letters" "I") ∈ xtbl := xq1 37 (by decide +kernel) rfl
theorem q_38 : (Jvm.Cond.fieldLink "WaitedPost" (78 : Nat) "WaitedPost$Told" "letters" "I") ∈ xtbl := xq1 38 (by decide +kernel) rfl
theorem q_39 : (Jvm.Cond.fieldLink "WaitedPost$Reader" (56 : Nat) "WaitedPost$Told" "letters" "I") ∈ xtbl := xq1 39 (by decide +kernel) rfl
theorem q_40 : (Jvm.Cond.fieldLink "WaitedPost$Told" (15 : Nat) "WaitedPost$Told" "waited" "[I") ∈ xtbl := xq1 40 (by decide +kernel) rfl
theorem q_41 : (Jvm.Cond.fieldLink "WaitedPost$Standing" (40 : Nat) "WaitedPost$Told" "waited" "[I") ∈ xtbl := xq1 41 (by decide +kernel) rfl
theorem q_42 : (Jvm.Cond.fieldLink "WaitedPost$Told" (19 : Nat) "WaitedPost$Told" "kinds" "[I") ∈ xtbl := xq1 42 (by decide +kernel) rfl
theorem q_43 : (Jvm.Cond.fieldLink "WaitedPost" (92 : Nat) "WaitedPost$Told" "kinds" "[I") ∈ xtbl := xq1 43 (by decide +kernel) rfl
theorem q_44 : (Jvm.Cond.fieldLink "WaitedPost$Told" (22 : Nat) "WaitedPost$Told" "explainers" "[I") ∈ xtbl := xq1 44 (by decide +kernel) rfl
theorem q_45 : (Jvm.Cond.fieldLink "WaitedPost" (95 : Nat) "WaitedPost$Told" "explainers" "[I") ∈ xtbl := xq1 45 (by decide +kernel) rfl
theorem q_46 : (Jvm.Cond.fieldLink "WaitedPost$Reader" (77 : Nat) "WaitedPost$Told" "explainers" "[I") ∈ xtbl := xq1 46 (by decide +kernel) rfl
theorem q_60 : (Jvm.Cond.arrayClass Jvm.ClassFile.FieldType.int) ∈ xtbl := xq1 60 (by decide +kernel) rfl
theorem q_61 : (Jvm.Cond.fieldLink "WaitedPost$Reader" (12 : Nat) "WaitedPost$Reader" "draft" "LWaitedPost$Told;") ∈ xtbl := xq1 61 (by decide +kernel) rfl
theorem q_62 : (Jvm.Cond.fieldLink "WaitedPost" (62 : Nat) "WaitedPost$Reader" "draft" "LWaitedPost$Told;") ∈ xtbl := xq1 62 (by decide +kernel) rfl
theorem q_63 : (Jvm.Cond.fieldLink "WaitedPost$Reader" (21 : Nat) "WaitedPost$Reader" "step" "I") ∈ xtbl := xq1 63 (by decide +kernel) rfl
theorem q_64 : (Jvm.Cond.fieldLink "WaitedPost$Reader" (63 : Nat) "WaitedPost$Reader" "ahead" "I") ∈ xtbl := xq1 64 (by decide +kernel) rfl
theorem q_72 : (Jvm.Cond.classLink "WaitedPost" (20 : Nat) "WaitedPost$Told") ∈ xtbl := xq1 72 (by decide +kernel) rfl
theorem q_73 : (Jvm.Cond.methodLink "WaitedPost" (22 : Nat) ({ cls := "WaitedPost$Told", name := "<init>", desc := "()V" } : Jvm.MethodName)) ∈ xtbl := xq1 73 (by decide +kernel) rfl
theorem q_74 : (Jvm.Cond.classLink "WaitedPost" (27 : Nat) "WaitedPost$Standing") ∈ xtbl := xq1 74 (by decide +kernel) rfl
theorem q_75 : (Jvm.Cond.instantiable "WaitedPost$Standing" (7 : Nat)) ∈ xtbl := xq1 75 (by decide +kernel) rfl
theorem q_76 : (Jvm.Cond.methodLink "WaitedPost" (29 : Nat) ({ cls := "WaitedPost$Standing", name := "<init>", desc := "()V" } : Jvm.MethodName)) ∈ xtbl := xq1 76 (by decide +kernel) rfl
theorem q_77 : (Jvm.Cond.instanceMethod ({ cls := "WaitedPost$Standing", name := "<init>", desc := "()V" } : Jvm.MethodName)) ∈ xtbl := xq1 77 (by decide +kernel) rfl
theorem q_78 : (Jvm.Cond.code ({ cls := "WaitedPost$Standing", name := "<init>", desc := "()V" } : Jvm.MethodName) prog_4_method_1_code (1 : Nat) (Option.none : Option Jvm.ClassFile.FieldType)) ∈ xtbl := xq1 78 (by decide +kernel) rfl
theorem q_79 : (Jvm.Cond.methodLink "WaitedPost$Standing" (3 : Nat) ({ cls := "java/lang/Object", name := "<init>", desc := "()V" } : Jvm.MethodName)) ∈ xtbl := xq1 79 (by decide +kernel) rfl
theorem q_80 : (Jvm.Cond.fieldLink "WaitedPost$Standing" (18 : Nat) "WaitedPost$Standing" "today" "I") ∈ xtbl := xq1 80 (by decide +kernel) rfl
theorem q_81 : (Jvm.Cond.fieldLink "WaitedPost$Told" (71 : Nat) "WaitedPost$Standing" "today" "I") ∈ xtbl := xq1 81 (by decide +kernel) rfl
theorem q_82 : (Jvm.Cond.fieldLink "WaitedPost" (130 : Nat) "WaitedPost$Standing" "today" "I") ∈ xtbl := xq1 82 (by decide +kernel) rfl
theorem q_83 : (Jvm.Cond.fieldLink "WaitedPost$Standing" (22 : Nat) "WaitedPost$Standing" "sent" "I") ∈ xtbl := xq1 83 (by decide +kernel) rfl
theorem q_84 : (Jvm.Cond.fieldLink "WaitedPost$Planner" (63 : Nat) "WaitedPost$Standing" "sent" "I") ∈ xtbl := xq1 84 (by decide +kernel) rfl
theorem q_85 : (Jvm.Cond.fieldLink "WaitedPost" (98 : Nat) "WaitedPost$Standing" "sent" "I") ∈ xtbl := xq1 85 (by decide +kernel) rfl
theorem q_86 : (Jvm.Cond.fieldLink "WaitedPost$Standing" (25 : Nat) "WaitedPost$Standing" "sentToday" "I") ∈ xtbl := xq1 86 (by decide +kernel) rfl
theorem q_87 : (Jvm.Cond.fieldLink "WaitedPost$Planner" (23 : Nat) "WaitedPost$Standing" "sentToday" "I") ∈ xtbl := xq1 87 (by decide +kernel) rfl
theorem q_88 : (Jvm.Cond.fieldLink "WaitedPost" (220 : Nat) "WaitedPost$Standing" "sentToday" "I") ∈ xtbl := xq1 88 (by decide +kernel) rfl
theorem q_89 : (Jvm.Cond.fieldLink "WaitedPost$Standing" (28 : Nat) "WaitedPost$Standing" "torn" "I") ∈ xtbl := xq1 89 (by decide +kernel) rfl
theorem q_90 : (Jvm.Cond.fieldLink "WaitedPost$Told" (68 : Nat) "WaitedPost$Standing" "torn" "I") ∈ xtbl := xq1 90 (by decide +kernel) rfl
theorem q_91 : (Jvm.Cond.fieldLink "WaitedPost" (105 : Nat) "WaitedPost$Standing" "torn" "I") ∈ xtbl := xq1 91 (by decide +kernel) rfl
theorem q_92 : (Jvm.Cond.fieldLink "WaitedPost$Standing" (31 : Nat) "WaitedPost$Standing" "paid" "I") ∈ xtbl := xq1 92 (by decide +kernel) rfl
theorem q_93 : (Jvm.Cond.fieldLink "WaitedPost" (169 : Nat) "WaitedPost$Standing" "paid" "I") ∈ xtbl := xq1 93 (by decide +kernel) rfl
theorem q_94 : (Jvm.Cond.fieldLink "WaitedPost$Standing" (9 : Nat) "WaitedPost$Standing" "waited" "[I") ∈ xtbl := xq1 94 (by decide +kernel) rfl
theorem q_95 : (Jvm.Cond.fieldLink "WaitedPost$Told" (64 : Nat) "WaitedPost$Standing" "waited" "[I") ∈ xtbl := xq1 95 (by decide +kernel) rfl
theorem q_96 : (Jvm.Cond.fieldLink "WaitedPost" (85 : Nat) "WaitedPost$Standing" "waited" "[I") ∈ xtbl := xq1 96 (by decide +kernel) rfl
theorem q_97 : (Jvm.Cond.fieldLink "WaitedPost$Standing" (15 : Nat) "WaitedPost$Standing" "clocks" "[I") ∈ xtbl := xq1 97 (by decide +kernel) rfl
theorem q_98 : (Jvm.Cond.fieldLink "WaitedPost$Told" (53 : Nat) "WaitedPost$Standing" "clocks" "[I") ∈ xtbl := xq1 98 (by decide +kernel) rfl
theorem q_99 : (Jvm.Cond.fieldLink "WaitedPost" (108 : Nat) "WaitedPost$Standing" "clocks" "[I") ∈ xtbl := xq1 99 (by decide +kernel) rfl
theorem q_116 : (Jvm.Cond.classLink "WaitedPost" (47 : Nat) "WaitedPost$Planner") ∈ xtbl := xq1 116 (by decide +kernel) rfl
theorem q_117 : (Jvm.Cond.instantiable "WaitedPost$Planner" (1 : Nat)) ∈ xtbl := xq1 117 (by decide +kernel) rfl
theorem q_118 : (Jvm.Cond.methodLink "WaitedPost" (49 : Nat) ({ cls := "WaitedPost$Planner", name := "<init>", desc := "()V" } : Jvm.MethodName)) ∈ xtbl := xq1 118 (by decide +kernel) rfl
theorem q_119 : (Jvm.Cond.instanceMethod ({ cls := "WaitedPost$Planner", name := "<init>", desc := "()V" } : Jvm.MethodName)) ∈ xtbl := xq1 119 (by decide +kernel) rfl
theorem q_120 : (Jvm.Cond.code ({ cls := "WaitedPost$Planner", name := "<init>", desc := "()V" } : Jvm.MethodName) prog_2_method_1_code (1 : Nat) (Option.none : Option Jvm.ClassFile.FieldType)) ∈ xtbl := xq1 120 (by decide +kernel) rfl
theorem q_121 : (Jvm.Cond.methodLink "WaitedPost$Planner" (3 : Nat) ({ cls := "java/lang/Object", name := "<init>", desc := "()V" } : Jvm.MethodName)) ∈ xtbl := xq1 121 (by decide +kernel) rfl
theorem q_122 : (Jvm.Cond.fieldLink "WaitedPost$Planner" (11 : Nat) "WaitedPost$Planner" "best" "[J") ∈ xtbl := xq1 122 (by decide +kernel) rfl
theorem q_126 : (Jvm.Cond.arrayClass Jvm.ClassFile.FieldType.long) ∈ xtbl := xq1 126 (by decide +kernel) rfl
theorem q_127 : (Jvm.Cond.fieldLink "WaitedPost" (9 : Nat) "WaitedPost" "text" "[I") ∈ xtbl := xq1 127 (by decide +kernel) rfl
theorem q_128 : (Jvm.Cond.fieldLink "WaitedPost" (54 : Nat) "WaitedPost" "length" "I") ∈ xtbl := xq1 128 (by decide +kernel) rfl
theorem q_129 : (Jvm.Cond.fieldLink "WaitedPost" (16 : Nat) "WaitedPost" "reader" "LWaitedPost$Reader;") ∈ xtbl := xq1 129 (by decide +kernel) rfl
theorem q_130 : (Jvm.Cond.fieldLink "WaitedPost" (23 : Nat) "WaitedPost" "told" "LWaitedPost$Told;") ∈ xtbl := xq1 130 (by decide +kernel) rfl
theorem q_131 : (Jvm.Cond.fieldLink "WaitedPost" (30 : Nat) "WaitedPost" "now" "LWaitedPost$Standing;") ∈ xtbl := xq1 131 (by decide +kernel) rfl
theorem q_132 : (Jvm.Cond.fieldLink "WaitedPost" (34 : Nat) "WaitedPost" "trial" "LWaitedPost$Standing;") ∈ xtbl := xq1 132 (by decide +kernel) rfl
theorem q_133 : (Jvm.Cond.fieldLink "WaitedPost" (37 : Nat) "WaitedPost" "acts" "[LWaitedPost$Standing;") ∈ xtbl := xq1 133 (by decide +kernel) rfl
theorem q_134 : (Jvm.Cond.fieldLink "WaitedPost" (72 : Nat) "WaitedPost" "actCount" "I") ∈ xtbl := xq1 134 (by decide +kernel) rfl
theorem q_135 : (Jvm.Cond.fieldLink "WaitedPost" (41 : Nat) "WaitedPost" "kept" "[LWaitedPost$Standing;") ∈ xtbl := xq1 135 (by decide +kernel) rfl
theorem q_136 : (Jvm.Cond.fieldLink "WaitedPost" (75 : Nat) "WaitedPost" "keptSlots" "I") ∈ xtbl := xq1 136 (by decide +kernel) rfl
theorem q_137 : (Jvm.Cond.fieldLink "WaitedPost" (44 : Nat) "WaitedPost" "figures" "[I") ∈ xtbl := xq1 137 (by decide +kernel) rfl
theorem q_138 : (Jvm.Cond.fieldLink "WaitedPost" (50 : Nat) "WaitedPost" "planner" "LWaitedPost$Planner;") ∈ xtbl := xq1 138 (by decide +kernel) rfl
theorem q_139 : (Jvm.Cond.fieldLink "WaitedPost" (206 : Nat) "WaitedPost" "chance" "J") ∈ xtbl := xq1 139 (by decide +kernel) rfl
theorem q_167 : (Jvm.Cond.methodLink "WaitedPostLaw" (13 : Nat) ({ cls := "WaitedPost", name := "write", desc := "(I)I" } : Jvm.MethodName)) ∈ xtbl := xq1 167 (by decide +kernel) rfl
theorem q_168 : (Jvm.Cond.instanceMethod ({ cls := "WaitedPost", name := "write", desc := "(I)I" } : Jvm.MethodName)) ∈ xtbl := xq1 168 (by decide +kernel) rfl
theorem q_169 : (Jvm.Cond.selects "WaitedPost" ({ cls := "WaitedPost", name := "write", desc := "(I)I" } : Jvm.MethodName) ({ cls := "WaitedPost", name := "write", desc := "(I)I" } : Jvm.MethodName)) ∈ xtbl := xq1 169 (by decide +kernel) rfl
theorem q_170 : (Jvm.Cond.code ({ cls := "WaitedPost", name := "write", desc := "(I)I" } : Jvm.MethodName) prog_1_method_2_code (2 : Nat) (Option.some Jvm.ClassFile.FieldType.int)) ∈ xtbl := xq1 170 (by decide +kernel) rfl
theorem q_171 : (Jvm.Cond.methodLink "WaitedPostLaw" (18 : Nat) ({ cls := "WaitedPost", name := "wipe", desc := "()I" } : Jvm.MethodName)) ∈ xtbl := xq1 171 (by decide +kernel) rfl
theorem q_172 : (Jvm.Cond.instanceMethod ({ cls := "WaitedPost", name := "wipe", desc := "()I" } : Jvm.MethodName)) ∈ xtbl := xq1 172 (by decide +kernel) rfl
theorem q_173 : (Jvm.Cond.selects "WaitedPost" ({ cls := "WaitedPost", name := "wipe", desc := "()I" } : Jvm.MethodName) ({ cls := "WaitedPost", name := "wipe", desc := "()I" } : Jvm.MethodName)) ∈ xtbl := xq1 173 (by decide +kernel) rfl
theorem q_174 : (Jvm.Cond.code ({ cls := "WaitedPost", name := "wipe", desc := "()I" } : Jvm.MethodName) prog_1_method_3_code (2 : Nat) (Option.some Jvm.ClassFile.FieldType.int)) ∈ xtbl := xq1 174 (by decide +kernel) rfl
theorem q_175 : (Jvm.Cond.methodLink "WaitedPostLaw" (23 : Nat) ({ cls := "WaitedPost", name := "fault", desc := "()I" } : Jvm.MethodName)) ∈ xtbl := xq1 175 (by decide +kernel) rfl
theorem q_176 : (Jvm.Cond.instanceMethod ({ cls := "WaitedPost", name := "fault", desc := "()I" } : Jvm.MethodName)) ∈ xtbl := xq1 176 (by decide +kernel) rfl
theorem q_177 : (Jvm.Cond.selects "WaitedPost" ({ cls := "WaitedPost", name := "fault", desc := "()I" } : Jvm.MethodName) ({ cls := "WaitedPost", name := "fault", desc := "()I" } : Jvm.MethodName)) ∈ xtbl := xq1 177 (by decide +kernel) rfl
theorem q_178 : (Jvm.Cond.code ({ cls := "WaitedPost", name := "fault", desc := "()I" } : Jvm.MethodName) prog_1_method_4_code (1 : Nat) (Option.some Jvm.ClassFile.FieldType.int)) ∈ xtbl := xq1 178 (by decide +kernel) rfl
theorem q_179 : (Jvm.Cond.methodLink "WaitedPost" (58 : Nat) ({ cls := "WaitedPost", name := "readText", desc := "()I" } : Jvm.MethodName)) ∈ xtbl := xq1 179 (by decide +kernel) rfl
theorem q_181 : (Jvm.Cond.instanceMethod ({ cls := "WaitedPost", name := "readText", desc := "()I" } : Jvm.MethodName)) ∈ xtbl := xq1 181 (by decide +kernel) rfl
theorem q_182 : (Jvm.Cond.code ({ cls := "WaitedPost", name := "readText", desc := "()I" } : Jvm.MethodName) prog_1_method_28_code (2 : Nat) (Option.some Jvm.ClassFile.FieldType.int)) ∈ xtbl := xq1 182 (by decide +kernel) rfl
theorem q_183 : (Jvm.Cond.methodLink "WaitedPost" (226 : Nat) ({ cls := "WaitedPost$Reader", name := "begin", desc := "()V" } : Jvm.MethodName)) ∈ xtbl := xq1 183 (by decide +kernel) rfl
theorem q_184 : (Jvm.Cond.instanceMethod ({ cls := "WaitedPost$Reader", name := "begin", desc := "()V" } : Jvm.MethodName)) ∈ xtbl := xq1 184 (by decide +kernel) rfl
theorem q_185 : (Jvm.Cond.selects "WaitedPost$Reader" ({ cls := "WaitedPost$Reader", name := "begin", desc := "()V" } : Jvm.MethodName) ({ cls := "WaitedPost$Reader", name := "begin", desc := "()V" } : Jvm.MethodName)) ∈ xtbl := xq1 185 (by decide +kernel) rfl
theorem q_186 : (Jvm.Cond.code ({ cls := "WaitedPost$Reader", name := "begin", desc := "()V" } : Jvm.MethodName) prog_3_method_2_code (1 : Nat) (Option.none : Option Jvm.ClassFile.FieldType)) ∈ xtbl := xq1 186 (by decide +kernel) rfl
theorem q_187 : (Jvm.Cond.methodLink "WaitedPost$Reader" (18 : Nat) ({ cls := "WaitedPost$Told", name := "clear", desc := "()V" } : Jvm.MethodName)) ∈ xtbl := xq1 187 (by decide +kernel) rfl
theorem q_188 : (Jvm.Cond.instanceMethod ({ cls := "WaitedPost$Told", name := "clear", desc := "()V" } : Jvm.MethodName)) ∈ xtbl := xq1 188 (by decide +kernel) rfl
theorem q_189 : (Jvm.Cond.selects "WaitedPost$Told" ({ cls := "WaitedPost$Told", name := "clear", desc := "()V" } : Jvm.MethodName) ({ cls := "WaitedPost$Told", name := "clear", desc := "()V" } : Jvm.MethodName)) ∈ xtbl := xq1 189 (by decide +kernel) rfl
theorem q_190 : (Jvm.Cond.code ({ cls := "WaitedPost$Told", name := "clear", desc := "()V" } : Jvm.MethodName) prog_5_method_2_code (1 : Nat) (Option.none : Option Jvm.ClassFile.FieldType)) ∈ xtbl := xq1 190 (by decide +kernel) rfl
theorem q_191 : (Jvm.Cond.methodLink "WaitedPost$Told" (31 : Nat) ({ cls := "java/util/Arrays", name := "fill", desc := "([II)V" } : Jvm.MethodName)) ∈ xtbl := xq1 191 (by decide +kernel) rfl
theorem q_192 : (Jvm.Cond.static ({ cls := "java/util/Arrays", name := "fill", desc := "([II)V" } : Jvm.MethodName)) ∈ xtbl := xq1 192 (by decide +kernel) rfl
theorem q_193 : (Jvm.Cond.code ({ cls := "java/util/Arrays", name := "fill", desc := "([II)V" } : Jvm.MethodName) prog_10_method_103_code (4 : Nat) (Option.none : Option Jvm.ClassFile.FieldType)) ∈ xtbl := xq1 193 (by decide +kernel) rfl
theorem q_194 : (Jvm.Cond.methodLink "WaitedPost" (228 : Nat) ({ cls := "WaitedPost$Reader", name := "takes", desc := "(I)Z" } : Jvm.MethodName)) ∈ xtbl := xq1 194 (by decide +kernel) rfl
theorem q_195 : (Jvm.Cond.instanceMethod ({ cls := "WaitedPost$Reader", name := "takes", desc := "(I)Z" } : Jvm.MethodName)) ∈ xtbl := xq1 195 (by decide +kernel) rfl
theorem q_196 : (Jvm.Cond.selects "WaitedPost$Reader" ({ cls := "WaitedPost$Reader", name := "takes", desc := "(I)Z" } : Jvm.MethodName) ({ cls := "WaitedPost$Reader", name := "takes", desc := "(I)Z" } : Jvm.MethodName)) ∈ xtbl := xq1 196 (by decide +kernel) rfl
theorem q_197 : (Jvm.Cond.code ({ cls := "WaitedPost$Reader", name := "takes", desc := "(I)Z" } : Jvm.MethodName) prog_3_method_4_code (3 : Nat) (Option.some Jvm.ClassFile.FieldType.boolean)) ∈ xtbl := xq1 197 (by decide +kernel) rfl
theorem q_198 : (Jvm.Cond.methodLink "WaitedPost$Reader" (25 : Nat) ({ cls := "WaitedPost$Reader", name := "takesHead", desc := "(I)Z" } : Jvm.MethodName)) ∈ xtbl := xq1 198 (by decide +kernel) rfl
theorem q_200 : (Jvm.Cond.instanceMethod ({ cls := "WaitedPost$Reader", name := "takesHead", desc := "(I)Z" } : Jvm.MethodName)) ∈ xtbl := xq1 200 (by decide +kernel) rfl
theorem q_201 : (Jvm.Cond.code ({ cls := "WaitedPost$Reader", name := "takesHead", desc := "(I)Z" } : Jvm.MethodName) prog_3_method_5_code (2 : Nat) (Option.some Jvm.ClassFile.FieldType.boolean)) ∈ xtbl := xq1 201 (by decide +kernel) rfl
theorem q_202 : (Jvm.Cond.methodLink "WaitedPost$Reader" (29 : Nat) ({ cls := "WaitedPost$Reader", name := "takesPardon", desc := "(I)Z" } : Jvm.MethodName)) ∈ xtbl := xq1 202 (by decide +kernel) rfl
theorem q_204 : (Jvm.Cond.instanceMethod ({ cls := "WaitedPost$Reader", name := "takesPardon", desc := "(I)Z" } : Jvm.MethodName)) ∈ xtbl := xq1 204 (by decide +kernel) rfl
theorem q_205 : (Jvm.Cond.code ({ cls := "WaitedPost$Reader", name := "takesPardon", desc := "(I)Z" } : Jvm.MethodName) prog_3_method_6_code (2 : Nat) (Option.some Jvm.ClassFile.FieldType.boolean)) ∈ xtbl := xq1 205 (by decide +kernel) rfl
theorem q_206 : (Jvm.Cond.methodLink "WaitedPost$Reader" (32 : Nat) ({ cls := "WaitedPost$Reader", name := "takesRoom", desc := "(I)Z" } : Jvm.MethodName)) ∈ xtbl := xq1 206 (by decide +kernel) rfl
theorem q_208 : (Jvm.Cond.instanceMethod ({ cls := "WaitedPost$Reader", name := "takesRoom", desc := "(I)Z" } : Jvm.MethodName)) ∈ xtbl := xq1 208 (by decide +kernel) rfl
theorem q_209 : (Jvm.Cond.code ({ cls := "WaitedPost$Reader", name := "takesRoom", desc := "(I)Z" } : Jvm.MethodName) prog_3_method_7_code (2 : Nat) (Option.some Jvm.ClassFile.FieldType.boolean)) ∈ xtbl := xq1 209 (by decide +kernel) rfl
theorem q_210 : (Jvm.Cond.methodLink "WaitedPost$Reader" (35 : Nat) ({ cls := "WaitedPost$Reader", name := "takesPart", desc := "(I)Z" } : Jvm.MethodName)) ∈ xtbl := xq1 210 (by decide +kernel) rfl
theorem q_212 : (Jvm.Cond.instanceMethod ({ cls := "WaitedPost$Reader", name := "takesPart", desc := "(I)Z" } : Jvm.MethodName)) ∈ xtbl := xq1 212 (by decide +kernel) rfl
theorem q_213 : (Jvm.Cond.code ({ cls := "WaitedPost$Reader", name := "takesPart", desc := "(I)Z" } : Jvm.MethodName) prog_3_method_8_code (2 : Nat) (Option.some Jvm.ClassFile.FieldType.boolean)) ∈ xtbl := xq1 213 (by decide +kernel) rfl
theorem q_214 : (Jvm.Cond.methodLink "WaitedPost$Reader" (59 : Nat) ({ cls := "WaitedPost$Reader", name := "hasOpenPair", desc := "()Z" } : Jvm.MethodName)) ∈ xtbl := xq1 214 (by decide +kernel) rfl
theorem q_216 : (Jvm.Cond.instanceMethod ({ cls := "WaitedPost$Reader", name := "hasOpenPair", desc := "()Z" } : Jvm.MethodName)) ∈ xtbl := xq1 216 (by decide +kernel) rfl
theorem q_217 : (Jvm.Cond.code ({ cls := "WaitedPost$Reader", name := "hasOpenPair", desc := "()Z" } : Jvm.MethodName) prog_3_method_14_code (2 : Nat) (Option.some Jvm.ClassFile.FieldType.boolean)) ∈ xtbl := xq1 217 (by decide +kernel) rfl
theorem q_218 : (Jvm.Cond.methodLink "WaitedPost$Reader" (74 : Nat) ({ cls := "WaitedPost$Reader", name := "isOpen", desc := "(I)Z" } : Jvm.MethodName)) ∈ xtbl := xq1 218 (by decide +kernel) rfl
theorem q_220 : (Jvm.Cond.instanceMethod ({ cls := "WaitedPost$Reader", name := "isOpen", desc := "(I)Z" } : Jvm.MethodName)) ∈ xtbl := xq1 220 (by decide +kernel) rfl
theorem q_221 : (Jvm.Cond.code ({ cls := "WaitedPost$Reader", name := "isOpen", desc := "(I)Z" } : Jvm.MethodName) prog_3_method_13_code (2 : Nat) (Option.some Jvm.ClassFile.FieldType.boolean)) ∈ xtbl := xq1 221 (by decide +kernel) rfl
theorem q_222 : (Jvm.Cond.methodLink "WaitedPost$Reader" (96 : Nat) ({ cls := "WaitedPost$Told", name := "explainedBy", desc := "(I)I" } : Jvm.MethodName)) ∈ xtbl := xq1 222 (by decide +kernel) rfl
theorem q_223 : (Jvm.Cond.instanceMethod ({ cls := "WaitedPost$Told", name := "explainedBy", desc := "(I)I" } : Jvm.MethodName)) ∈ xtbl := xq1 223 (by decide +kernel) rfl
theorem q_224 : (Jvm.Cond.selects "WaitedPost$Told" ({ cls := "WaitedPost$Told", name := "explainedBy", desc := "(I)I" } : Jvm.MethodName) ({ cls := "WaitedPost$Told", name := "explainedBy", desc := "(I)I" } : Jvm.MethodName)) ∈ xtbl := xq1 224 (by decide +kernel) rfl
theorem q_225 : (Jvm.Cond.code ({ cls := "WaitedPost$Told", name := "explainedBy", desc := "(I)I" } : Jvm.MethodName) prog_5_method_5_code (4 : Nat) (Option.some Jvm.ClassFile.FieldType.int)) ∈ xtbl := xq1 225 (by decide +kernel) rfl
theorem q_227 : (Jvm.Cond.static ({ cls := "WaitedPost", name := "at", desc := "([II)I" } : Jvm.MethodName)) ∈ xtbl := xq1 227 (by decide +kernel) rfl
theorem q_228 : (Jvm.Cond.code ({ cls := "WaitedPost", name := "at", desc := "([II)I" } : Jvm.MethodName) prog_1_method_46_code (2 : Nat) (Option.some Jvm.ClassFile.FieldType.int)) ∈ xtbl := xq1 228 (by decide +kernel) rfl
theorem q_230 : (Jvm.Cond.static ({ cls := "WaitedPost", name := "has", desc := "(II)Z" } : Jvm.MethodName)) ∈ xtbl := xq1 230 (by decide +kernel) rfl
theorem q_231 : (Jvm.Cond.code ({ cls := "WaitedPost", name := "has", desc := "(II)Z" } : Jvm.MethodName) prog_1_method_44_code (2 : Nat) (Option.some Jvm.ClassFile.FieldType.boolean)) ∈ xtbl := xq1 231 (by decide +kernel) rfl
theorem q_232 : (Jvm.Cond.methodLink "WaitedPost$Reader" (38 : Nat) ({ cls := "WaitedPost$Reader", name := "takesWaited", desc := "(I)Z" } : Jvm.MethodName)) ∈ xtbl := xq1 232 (by decide +kernel) rfl
theorem q_234 : (Jvm.Cond.instanceMethod ({ cls := "WaitedPost$Reader", name := "takesWaited", desc := "(I)Z" } : Jvm.MethodName)) ∈ xtbl := xq1 234 (by decide +kernel) rfl
theorem q_235 : (Jvm.Cond.code ({ cls := "WaitedPost$Reader", name := "takesWaited", desc := "(I)Z" } : Jvm.MethodName) prog_3_method_9_code (2 : Nat) (Option.some Jvm.ClassFile.FieldType.boolean)) ∈ xtbl := xq1 235 (by decide +kernel) rfl
theorem q_236 : (Jvm.Cond.methodLink "WaitedPost$Reader" (41 : Nat) ({ cls := "WaitedPost$Reader", name := "takesKind", desc := "(I)Z" } : Jvm.MethodName)) ∈ xtbl := xq1 236 (by decide +kernel) rfl
theorem q_238 : (Jvm.Cond.instanceMethod ({ cls := "WaitedPost$Reader", name := "takesKind", desc := "(I)Z" } : Jvm.MethodName)) ∈ xtbl := xq1 238 (by decide +kernel) rfl
theorem q_239 : (Jvm.Cond.code ({ cls := "WaitedPost$Reader", name := "takesKind", desc := "(I)Z" } : Jvm.MethodName) prog_3_method_10_code (2 : Nat) (Option.some Jvm.ClassFile.FieldType.boolean)) ∈ xtbl := xq1 239 (by decide +kernel) rfl
theorem q_242 : (Jvm.Cond.methodLink "WaitedPost$Reader" (70 : Nat) ({ cls := "WaitedPost$Told", name := "addLetter", desc := "(II)V" } : Jvm.MethodName)) ∈ xtbl := xq2 2 (by decide +kernel) rfl
theorem q_243 : (Jvm.Cond.instanceMethod ({ cls := "WaitedPost$Told", name := "addLetter", desc := "(II)V" } : Jvm.MethodName)) ∈ xtbl := xq2 3 (by decide +kernel) rfl
theorem q_244 : (Jvm.Cond.selects "WaitedPost$Told" ({ cls := "WaitedPost$Told", name := "addLetter", desc := "(II)V" } : Jvm.MethodName) ({ cls := "WaitedPost$Told", name := "addLetter", desc := "(II)V" } : Jvm.MethodName)) ∈ xtbl := xq2 4 (by decide +kernel) rfl
theorem q_245 : (Jvm.Cond.code ({ cls := "WaitedPost$Told", name := "addLetter", desc := "(II)V" } : Jvm.MethodName) prog_5_method_4_code (3 : Nat) (Option.none : Option Jvm.ClassFile.FieldType)) ∈ xtbl := xq2 5 (by decide +kernel) rfl
theorem q_247 : (Jvm.Cond.static ({ cls := "WaitedPost", name := "put", desc := "([III)V" } : Jvm.MethodName)) ∈ xtbl := xq2 7 (by decide +kernel) rfl
theorem q_248 : (Jvm.Cond.code ({ cls := "WaitedPost", name := "put", desc := "([III)V" } : Jvm.MethodName) prog_1_method_47_code (3 : Nat) (Option.none : Option Jvm.ClassFile.FieldType)) ∈ xtbl := xq2 8 (by decide +kernel) rfl
theorem q_249 : (Jvm.Cond.methodLink "WaitedPost$Reader" (44 : Nat) ({ cls := "WaitedPost$Reader", name := "takesExplainer", desc := "(I)Z" } : Jvm.MethodName)) ∈ xtbl := xq2 9 (by decide +kernel) rfl
theorem q_251 : (Jvm.Cond.instanceMethod ({ cls := "WaitedPost$Reader", name := "takesExplainer", desc := "(I)Z" } : Jvm.MethodName)) ∈ xtbl := xq2 11 (by decide +kernel) rfl
theorem q_252 : (Jvm.Cond.code ({ cls := "WaitedPost$Reader", name := "takesExplainer", desc := "(I)Z" } : Jvm.MethodName) prog_3_method_11_code (2 : Nat) (Option.some Jvm.ClassFile.FieldType.boolean)) ∈ xtbl := xq2 12 (by decide +kernel) rfl
theorem q_253 : (Jvm.Cond.methodLink "WaitedPost$Reader" (47 : Nat) ({ cls := "WaitedPost$Reader", name := "takesExplained", desc := "(I)Z" } : Jvm.MethodName)) ∈ xtbl := xq2 13 (by decide +kernel) rfl
theorem q_255 : (Jvm.Cond.instanceMethod ({ cls := "WaitedPost$Reader", name := "takesExplained", desc := "(I)Z" } : Jvm.MethodName)) ∈ xtbl := xq2 15 (by decide +kernel) rfl
theorem q_256 : (Jvm.Cond.code ({ cls := "WaitedPost$Reader", name := "takesExplained", desc := "(I)Z" } : Jvm.MethodName) prog_3_method_12_code (3 : Nat) (Option.some Jvm.ClassFile.FieldType.boolean)) ∈ xtbl := xq2 16 (by decide +kernel) rfl
theorem q_260 : (Jvm.Cond.static ({ cls := "WaitedPost", name := "bit", desc := "(I)I" } : Jvm.MethodName)) ∈ xtbl := xq2 20 (by decide +kernel) rfl
theorem q_261 : (Jvm.Cond.code ({ cls := "WaitedPost", name := "bit", desc := "(I)I" } : Jvm.MethodName) prog_1_method_43_code (1 : Nat) (Option.some Jvm.ClassFile.FieldType.int)) ∈ xtbl := xq2 21 (by decide +kernel) rfl
theorem q_263 : (Jvm.Cond.methodLink "WaitedPost" (231 : Nat) ({ cls := "WaitedPost$Reader", name := "mayEnd", desc := "()Z" } : Jvm.MethodName)) ∈ xtbl := xq2 23 (by decide +kernel) rfl
theorem q_264 : (Jvm.Cond.instanceMethod ({ cls := "WaitedPost$Reader", name := "mayEnd", desc := "()Z" } : Jvm.MethodName)) ∈ xtbl := xq2 24 (by decide +kernel) rfl
theorem q_265 : (Jvm.Cond.selects "WaitedPost$Reader" ({ cls := "WaitedPost$Reader", name := "mayEnd", desc := "()Z" } : Jvm.MethodName) ({ cls := "WaitedPost$Reader", name := "mayEnd", desc := "()Z" } : Jvm.MethodName)) ∈ xtbl := xq2 25 (by decide +kernel) rfl
theorem q_266 : (Jvm.Cond.code ({ cls := "WaitedPost$Reader", name := "mayEnd", desc := "()Z" } : Jvm.MethodName) prog_3_method_3_code (1 : Nat) (Option.some Jvm.ClassFile.FieldType.boolean)) ∈ xtbl := xq2 26 (by decide +kernel) rfl
theorem q_267 : (Jvm.Cond.methodLink "WaitedPostLaw" (27 : Nat) ({ cls := "WaitedPost", name := "post", desc := "()I" } : Jvm.MethodName)) ∈ xtbl := xq2 27 (by decide +kernel) rfl
theorem q_268 : (Jvm.Cond.instanceMethod ({ cls := "WaitedPost", name := "post", desc := "()I" } : Jvm.MethodName)) ∈ xtbl := xq2 28 (by decide +kernel) rfl
theorem q_269 : (Jvm.Cond.selects "WaitedPost" ({ cls := "WaitedPost", name := "post", desc := "()I" } : Jvm.MethodName) ({ cls := "WaitedPost", name := "post", desc := "()I" } : Jvm.MethodName)) ∈ xtbl := xq2 29 (by decide +kernel) rfl
theorem q_270 : (Jvm.Cond.code ({ cls := "WaitedPost", name := "post", desc := "()I" } : Jvm.MethodName) prog_1_method_5_code (1 : Nat) (Option.some Jvm.ClassFile.FieldType.int)) ∈ xtbl := xq2 30 (by decide +kernel) rfl
theorem q_271 : (Jvm.Cond.methodLink "WaitedPost" (65 : Nat) ({ cls := "WaitedPost$Told", name := "take", desc := "(LWaitedPost$Told;)V" } : Jvm.MethodName)) ∈ xtbl := xq2 31 (by decide +kernel) rfl
theorem q_272 : (Jvm.Cond.instanceMethod ({ cls := "WaitedPost$Told", name := "take", desc := "(LWaitedPost$Told;)V" } : Jvm.MethodName)) ∈ xtbl := xq2 32 (by decide +kernel) rfl
theorem q_273 : (Jvm.Cond.selects "WaitedPost$Told" ({ cls := "WaitedPost$Told", name := "take", desc := "(LWaitedPost$Told;)V" } : Jvm.MethodName) ({ cls := "WaitedPost$Told", name := "take", desc := "(LWaitedPost$Told;)V" } : Jvm.MethodName)) ∈ xtbl := xq2 33 (by decide +kernel) rfl
theorem q_274 : (Jvm.Cond.code ({ cls := "WaitedPost$Told", name := "take", desc := "(LWaitedPost$Told;)V" } : Jvm.MethodName) prog_5_method_3_code (2 : Nat) (Option.none : Option Jvm.ClassFile.FieldType)) ∈ xtbl := xq2 34 (by decide +kernel) rfl
theorem q_276 : (Jvm.Cond.static ({ cls := "WaitedPost", name := "copyRow", desc := "([I[I)V" } : Jvm.MethodName)) ∈ xtbl := xq2 36 (by decide +kernel) rfl
theorem q_277 : (Jvm.Cond.code ({ cls := "WaitedPost", name := "copyRow", desc := "([I[I)V" } : Jvm.MethodName) prog_1_method_48_code (3 : Nat) (Option.none : Option Jvm.ClassFile.FieldType)) ∈ xtbl := xq2 37 (by decide +kernel) rfl
theorem q_278 : (Jvm.Cond.methodLink "WaitedPost" (69 : Nat) ({ cls := "WaitedPost$Standing", name := "begin", desc := "(LWaitedPost$Told;)V" } : Jvm.MethodName)) ∈ xtbl := xq2 38 (by decide +kernel) rfl
theorem q_279 : (Jvm.Cond.instanceMethod ({ cls := "WaitedPost$Standing", name := "begin", desc := "(LWaitedPost$Told;)V" } : Jvm.MethodName)) ∈ xtbl := xq2 39 (by decide +kernel) rfl
theorem q_280 : (Jvm.Cond.selects "WaitedPost$Standing" ({ cls := "WaitedPost$Standing", name := "begin", desc := "(LWaitedPost$Told;)V" } : Jvm.MethodName) ({ cls := "WaitedPost$Standing", name := "begin", desc := "(LWaitedPost$Told;)V" } : Jvm.MethodName)) ∈ xtbl := xq2 40 (by decide +kernel) rfl
theorem q_281 : (Jvm.Cond.code ({ cls := "WaitedPost$Standing", name := "begin", desc := "(LWaitedPost$Told;)V" } : Jvm.MethodName) prog_4_method_2_code (2 : Nat) (Option.none : Option Jvm.ClassFile.FieldType)) ∈ xtbl := xq2 41 (by decide +kernel) rfl
theorem q_282 : (Jvm.Cond.methodLink "WaitedPost$Standing" (34 : Nat) ({ cls := "java/util/Arrays", name := "fill", desc := "([II)V" } : Jvm.MethodName)) ∈ xtbl := xq2 42 (by decide +kernel) rfl
theorem q_284 : (Jvm.Cond.methodLink "WaitedPostLaw" (31 : Nat) ({ cls := "WaitedPost", name := "letter", desc := "(II)I" } : Jvm.MethodName)) ∈ xtbl := xq2 44 (by decide +kernel) rfl
theorem q_285 : (Jvm.Cond.instanceMethod ({ cls := "WaitedPost", name := "letter", desc := "(II)I" } : Jvm.MethodName)) ∈ xtbl := xq2 45 (by decide +kernel) rfl
theorem q_286 : (Jvm.Cond.selects "WaitedPost" ({ cls := "WaitedPost", name := "letter", desc := "(II)I" } : Jvm.MethodName) ({ cls := "WaitedPost", name := "letter", desc := "(II)I" } : Jvm.MethodName)) ∈ xtbl := xq2 46 (by decide +kernel) rfl
theorem q_287 : (Jvm.Cond.code ({ cls := "WaitedPost", name := "letter", desc := "(II)I" } : Jvm.MethodName) prog_1_method_6_code (3 : Nat) (Option.some Jvm.ClassFile.FieldType.int)) ∈ xtbl := xq2 47 (by decide +kernel) rfl
theorem q_288 : (Jvm.Cond.methodLink "WaitedPost" (81 : Nat) ({ cls := "WaitedPost", name := "known", desc := "(I)Z" } : Jvm.MethodName)) ∈ xtbl := xq2 48 (by decide +kernel) rfl
theorem q_290 : (Jvm.Cond.instanceMethod ({ cls := "WaitedPost", name := "known", desc := "(I)Z" } : Jvm.MethodName)) ∈ xtbl := xq2 50 (by decide +kernel) rfl
theorem q_291 : (Jvm.Cond.code ({ cls := "WaitedPost", name := "known", desc := "(I)Z" } : Jvm.MethodName) prog_1_method_29_code (2 : Nat) (Option.some Jvm.ClassFile.FieldType.boolean)) ∈ xtbl := xq2 51 (by decide +kernel) rfl
theorem q_292 : (Jvm.Cond.methodLink "WaitedPost" (88 : Nat) ({ cls := "WaitedPost", name := "at", desc := "([II)I" } : Jvm.MethodName)) ∈ xtbl := xq2 52 (by decide +kernel) rfl
theorem q_293 : (Jvm.Cond.methodLink "WaitedPost" (101 : Nat) ({ cls := "WaitedPost", name := "has", desc := "(II)Z" } : Jvm.MethodName)) ∈ xtbl := xq2 53 (by decide +kernel) rfl
theorem q_294 : (Jvm.Cond.methodLink "WaitedPost" (111 : Nat) ({ cls := "WaitedPost$Told", name := "costIn", desc := "(LWaitedPost$Standing;III)I" } : Jvm.MethodName)) ∈ xtbl := xq2 54 (by decide +kernel) rfl
theorem q_295 : (Jvm.Cond.instanceMethod ({ cls := "WaitedPost$Told", name := "costIn", desc := "(LWaitedPost$Standing;III)I" } : Jvm.MethodName)) ∈ xtbl := xq2 55 (by decide +kernel) rfl
theorem q_296 : (Jvm.Cond.selects "WaitedPost$Told" ({ cls := "WaitedPost$Told", name := "costIn", desc := "(LWaitedPost$Standing;III)I" } : Jvm.MethodName) ({ cls := "WaitedPost$Told", name := "costIn", desc := "(LWaitedPost$Standing;III)I" } : Jvm.MethodName)) ∈ xtbl := xq2 56 (by decide +kernel) rfl
theorem q_297 : (Jvm.Cond.code ({ cls := "WaitedPost$Told", name := "costIn", desc := "(LWaitedPost$Standing;III)I" } : Jvm.MethodName) prog_5_method_6_code (7 : Nat) (Option.some Jvm.ClassFile.FieldType.int)) ∈ xtbl := xq2 57 (by decide +kernel) rfl
theorem q_298 : (Jvm.Cond.methodLink "WaitedPost$Told" (58 : Nat) ({ cls := "java/lang/Math", name := "max", desc := "(II)I" } : Jvm.MethodName)) ∈ xtbl := xq2 58 (by decide +kernel) rfl
theorem q_299 : (Jvm.Cond.static ({ cls := "java/lang/Math", name := "max", desc := "(II)I" } : Jvm.MethodName)) ∈ xtbl := xq2 59 (by decide +kernel) rfl
theorem q_300 : (Jvm.Cond.code ({ cls := "java/lang/Math", name := "max", desc := "(II)I" } : Jvm.MethodName) prog_9_method_65_code (2 : Nat) (Option.some Jvm.ClassFile.FieldType.int)) ∈ xtbl := xq2 60 (by decide +kernel) rfl
theorem q_301 : (Jvm.Cond.methodLink "WaitedPost$Told" (65 : Nat) ({ cls := "java/lang/Math", name := "min", desc := "(II)I" } : Jvm.MethodName)) ∈ xtbl := xq2 61 (by decide +kernel) rfl
theorem q_302 : (Jvm.Cond.static ({ cls := "java/lang/Math", name := "min", desc := "(II)I" } : Jvm.MethodName)) ∈ xtbl := xq2 62 (by decide +kernel) rfl
theorem q_303 : (Jvm.Cond.code ({ cls := "java/lang/Math", name := "min", desc := "(II)I" } : Jvm.MethodName) prog_9_method_69_code (2 : Nat) (Option.some Jvm.ClassFile.FieldType.int)) ∈ xtbl := xq2 63 (by decide +kernel) rfl
theorem q_304 : (Jvm.Cond.methodLink "WaitedPost$Told" (74 : Nat) ({ cls := "WaitedPost$Told", name := "costOf", desc := "(IIZII)I" } : Jvm.MethodName)) ∈ xtbl := xq2 64 (by decide +kernel) rfl
theorem q_305 : (Jvm.Cond.instanceMethod ({ cls := "WaitedPost$Told", name := "costOf", desc := "(IIZII)I" } : Jvm.MethodName)) ∈ xtbl := xq2 65 (by decide +kernel) rfl
theorem q_306 : (Jvm.Cond.selects "WaitedPost$Told" ({ cls := "WaitedPost$Told", name := "costOf", desc := "(IIZII)I" } : Jvm.MethodName) ({ cls := "WaitedPost$Told", name := "costOf", desc := "(IIZII)I" } : Jvm.MethodName)) ∈ xtbl := xq2 66 (by decide +kernel) rfl
theorem q_307 : (Jvm.Cond.code ({ cls := "WaitedPost$Told", name := "costOf", desc := "(IIZII)I" } : Jvm.MethodName) prog_5_method_7_code (9 : Nat) (Option.some Jvm.ClassFile.FieldType.int)) ∈ xtbl := xq2 67 (by decide +kernel) rfl
theorem q_309 : (Jvm.Cond.methodLink "WaitedPost$Told" (81 : Nat) ({ cls := "java/lang/Integer", name := "bitCount", desc := "(I)I" } : Jvm.MethodName)) ∈ xtbl := xq2 69 (by decide +kernel) rfl
theorem q_310 : (Jvm.Cond.static ({ cls := "java/lang/Integer", name := "bitCount", desc := "(I)I" } : Jvm.MethodName)) ∈ xtbl := xq2 70 (by decide +kernel) rfl
theorem q_311 : (Jvm.Cond.code ({ cls := "java/lang/Integer", name := "bitCount", desc := "(I)I" } : Jvm.MethodName) prog_8_method_49_code (1 : Nat) (Option.some Jvm.ClassFile.FieldType.int)) ∈ xtbl := xq2 71 (by decide +kernel) rfl
theorem q_312 : (Jvm.Cond.constant "java/lang/Integer" (265 : Nat) (1431655765 : Int32)) ∈ xtbl := xq2 72 (by decide +kernel) rfl
theorem q_313 : (Jvm.Cond.constant "java/lang/Integer" (266 : Nat) (858993459 : Int32)) ∈ xtbl := xq2 73 (by decide +kernel) rfl
theorem q_314 : (Jvm.Cond.constant "java/lang/Integer" (267 : Nat) (252645135 : Int32)) ∈ xtbl := xq2 74 (by decide +kernel) rfl
theorem q_315 : (Jvm.Cond.methodLink "WaitedPostLaw" (36 : Nat) ({ cls := "WaitedPost", name := "send", desc := "(I)I" } : Jvm.MethodName)) ∈ xtbl := xq2 75 (by decide +kernel) rfl
theorem q_316 : (Jvm.Cond.instanceMethod ({ cls := "WaitedPost", name := "send", desc := "(I)I" } : Jvm.MethodName)) ∈ xtbl := xq2 76 (by decide +kernel) rfl
theorem q_317 : (Jvm.Cond.selects "WaitedPost" ({ cls := "WaitedPost", name := "send", desc := "(I)I" } : Jvm.MethodName) ({ cls := "WaitedPost", name := "send", desc := "(I)I" } : Jvm.MethodName)) ∈ xtbl := xq2 77 (by decide +kernel) rfl
theorem q_318 : (Jvm.Cond.code ({ cls := "WaitedPost", name := "send", desc := "(I)I" } : Jvm.MethodName) prog_1_method_7_code (2 : Nat) (Option.some Jvm.ClassFile.FieldType.int)) ∈ xtbl := xq2 78 (by decide +kernel) rfl
theorem q_319 : (Jvm.Cond.methodLink "WaitedPost" (115 : Nat) ({ cls := "WaitedPost", name := "canBeSent", desc := "(LWaitedPost$Standing;I)Z" } : Jvm.MethodName)) ∈ xtbl := xq2 79 (by decide +kernel) rfl
theorem q_321 : (Jvm.Cond.instanceMethod ({ cls := "WaitedPost", name := "canBeSent", desc := "(LWaitedPost$Standing;I)Z" } : Jvm.MethodName)) ∈ xtbl := xq2 81 (by decide +kernel) rfl
theorem q_322 : (Jvm.Cond.code ({ cls := "WaitedPost", name := "canBeSent", desc := "(LWaitedPost$Standing;I)Z" } : Jvm.MethodName) prog_1_method_32_code (3 : Nat) (Option.some Jvm.ClassFile.FieldType.boolean)) ∈ xtbl := xq2 82 (by decide +kernel) rfl
theorem q_323 : (Jvm.Cond.methodLink "WaitedPost" (119 : Nat) ({ cls := "WaitedPost", name := "remember", desc := "()V" } : Jvm.MethodName)) ∈ xtbl := xq2 83 (by decide +kernel) rfl
theorem q_325 : (Jvm.Cond.instanceMethod ({ cls := "WaitedPost", name := "remember", desc := "()V" } : Jvm.MethodName)) ∈ xtbl := xq2 85 (by decide +kernel) rfl
theorem q_326 : (Jvm.Cond.code ({ cls := "WaitedPost", name := "remember", desc := "()V" } : Jvm.MethodName) prog_1_method_34_code (1 : Nat) (Option.none : Option Jvm.ClassFile.FieldType)) ∈ xtbl := xq2 86 (by decide +kernel) rfl
theorem q_327 : (Jvm.Cond.methodLink "WaitedPost" (235 : Nat) ({ cls := "WaitedPost", name := "forgetFirstAct", desc := "()V" } : Jvm.MethodName)) ∈ xtbl := xq2 87 (by decide +kernel) rfl
theorem q_329 : (Jvm.Cond.instanceMethod ({ cls := "WaitedPost", name := "forgetFirstAct", desc := "()V" } : Jvm.MethodName)) ∈ xtbl := xq2 89 (by decide +kernel) rfl
theorem q_330 : (Jvm.Cond.code ({ cls := "WaitedPost", name := "forgetFirstAct", desc := "()V" } : Jvm.MethodName) prog_1_method_35_code (3 : Nat) (Option.none : Option Jvm.ClassFile.FieldType)) ∈ xtbl := xq2 90 (by decide +kernel) rfl
theorem q_331 : (Jvm.Cond.methodLink "WaitedPost" (141 : Nat) ({ cls := "WaitedPost$Standing", name := "take", desc := "(LWaitedPost$Standing;)V" } : Jvm.MethodName)) ∈ xtbl := xq2 91 (by decide +kernel) rfl
theorem q_332 : (Jvm.Cond.instanceMethod ({ cls := "WaitedPost$Standing", name := "take", desc := "(LWaitedPost$Standing;)V" } : Jvm.MethodName)) ∈ xtbl := xq2 92 (by decide +kernel) rfl
theorem q_333 : (Jvm.Cond.selects "WaitedPost$Standing" ({ cls := "WaitedPost$Standing", name := "take", desc := "(LWaitedPost$Standing;)V" } : Jvm.MethodName) ({ cls := "WaitedPost$Standing", name := "take", desc := "(LWaitedPost$Standing;)V" } : Jvm.MethodName)) ∈ xtbl := xq2 93 (by decide +kernel) rfl
theorem q_334 : (Jvm.Cond.code ({ cls := "WaitedPost$Standing", name := "take", desc := "(LWaitedPost$Standing;)V" } : Jvm.MethodName) prog_4_method_3_code (2 : Nat) (Option.none : Option Jvm.ClassFile.FieldType)) ∈ xtbl := xq2 94 (by decide +kernel) rfl
theorem q_335 : (Jvm.Cond.methodLink "WaitedPost" (122 : Nat) ({ cls := "WaitedPost", name := "putSent", desc := "(LWaitedPost$Standing;I)I" } : Jvm.MethodName)) ∈ xtbl := xq2 95 (by decide +kernel) rfl
theorem q_337 : (Jvm.Cond.instanceMethod ({ cls := "WaitedPost", name := "putSent", desc := "(LWaitedPost$Standing;I)I" } : Jvm.MethodName)) ∈ xtbl := xq2 97 (by decide +kernel) rfl
theorem q_338 : (Jvm.Cond.code ({ cls := "WaitedPost", name := "putSent", desc := "(LWaitedPost$Standing;I)I" } : Jvm.MethodName) prog_1_method_33_code (4 : Nat) (Option.some Jvm.ClassFile.FieldType.int)) ∈ xtbl := xq2 98 (by decide +kernel) rfl
theorem q_339 : (Jvm.Cond.methodLink "WaitedPost" (137 : Nat) ({ cls := "WaitedPost", name := "bit", desc := "(I)I" } : Jvm.MethodName)) ∈ xtbl := xq2 99 (by decide +kernel) rfl
theorem q_340 : (Jvm.Cond.methodLink "WaitedPostLaw" (40 : Nat) ({ cls := "WaitedPost", name := "day", desc := "()I" } : Jvm.MethodName)) ∈ xtbl := xq2 100 (by decide +kernel) rfl
theorem q_341 : (Jvm.Cond.instanceMethod ({ cls := "WaitedPost", name := "day", desc := "()I" } : Jvm.MethodName)) ∈ xtbl := xq2 101 (by decide +kernel) rfl
theorem q_342 : (Jvm.Cond.selects "WaitedPost" ({ cls := "WaitedPost", name := "day", desc := "()I" } : Jvm.MethodName) ({ cls := "WaitedPost", name := "day", desc := "()I" } : Jvm.MethodName)) ∈ xtbl := xq2 102 (by decide +kernel) rfl
theorem q_343 : (Jvm.Cond.code ({ cls := "WaitedPost", name := "day", desc := "()I" } : Jvm.MethodName) prog_1_method_8_code (1 : Nat) (Option.some Jvm.ClassFile.FieldType.int)) ∈ xtbl := xq2 103 (by decide +kernel) rfl
theorem q_344 : (Jvm.Cond.methodLink "WaitedPost" (126 : Nat) ({ cls := "WaitedPost$Standing", name := "passDay", desc := "(I)V" } : Jvm.MethodName)) ∈ xtbl := xq2 104 (by decide +kernel) rfl
theorem q_345 : (Jvm.Cond.instanceMethod ({ cls := "WaitedPost$Standing", name := "passDay", desc := "(I)V" } : Jvm.MethodName)) ∈ xtbl := xq2 105 (by decide +kernel) rfl
theorem q_346 : (Jvm.Cond.selects "WaitedPost$Standing" ({ cls := "WaitedPost$Standing", name := "passDay", desc := "(I)V" } : Jvm.MethodName) ({ cls := "WaitedPost$Standing", name := "passDay", desc := "(I)V" } : Jvm.MethodName)) ∈ xtbl := xq2 106 (by decide +kernel) rfl
theorem q_347 : (Jvm.Cond.code ({ cls := "WaitedPost$Standing", name := "passDay", desc := "(I)V" } : Jvm.MethodName) prog_4_method_4_code (4 : Nat) (Option.none : Option Jvm.ClassFile.FieldType)) ∈ xtbl := xq2 107 (by decide +kernel) rfl
theorem q_351 : (Jvm.Cond.methodLink "WaitedPost$Standing" (59 : Nat) ({ cls := "java/lang/Math", name := "min", desc := "(II)I" } : Jvm.MethodName)) ∈ xtbl := xq2 111 (by decide +kernel) rfl
theorem q_352 : (Jvm.Cond.methodLink "WaitedPostLaw" (44 : Nat) ({ cls := "WaitedPost", name := "tear", desc := "(I)I" } : Jvm.MethodName)) ∈ xtbl := xq2 112 (by decide +kernel) rfl
theorem q_353 : (Jvm.Cond.instanceMethod ({ cls := "WaitedPost", name := "tear", desc := "(I)I" } : Jvm.MethodName)) ∈ xtbl := xq2 113 (by decide +kernel) rfl
theorem q_354 : (Jvm.Cond.selects "WaitedPost" ({ cls := "WaitedPost", name := "tear", desc := "(I)I" } : Jvm.MethodName) ({ cls := "WaitedPost", name := "tear", desc := "(I)I" } : Jvm.MethodName)) ∈ xtbl := xq2 114 (by decide +kernel) rfl
theorem q_355 : (Jvm.Cond.code ({ cls := "WaitedPost", name := "tear", desc := "(I)I" } : Jvm.MethodName) prog_1_method_9_code (3 : Nat) (Option.some Jvm.ClassFile.FieldType.int)) ∈ xtbl := xq2 115 (by decide +kernel) rfl
theorem q_356 : (Jvm.Cond.methodLink "WaitedPost" (133 : Nat) ({ cls := "WaitedPost", name := "put", desc := "([III)V" } : Jvm.MethodName)) ∈ xtbl := xq2 116 (by decide +kernel) rfl
theorem q_357 : (Jvm.Cond.methodLink "WaitedPostLaw" (48 : Nat) ({ cls := "WaitedPost", name := "card", desc := "(I)I" } : Jvm.MethodName)) ∈ xtbl := xq2 117 (by decide +kernel) rfl
theorem q_358 : (Jvm.Cond.instanceMethod ({ cls := "WaitedPost", name := "card", desc := "(I)I" } : Jvm.MethodName)) ∈ xtbl := xq2 118 (by decide +kernel) rfl
theorem q_359 : (Jvm.Cond.selects "WaitedPost" ({ cls := "WaitedPost", name := "card", desc := "(I)I" } : Jvm.MethodName) ({ cls := "WaitedPost", name := "card", desc := "(I)I" } : Jvm.MethodName)) ∈ xtbl := xq2 119 (by decide +kernel) rfl
theorem q_360 : (Jvm.Cond.code ({ cls := "WaitedPost", name := "card", desc := "(I)I" } : Jvm.MethodName) prog_1_method_10_code (2 : Nat) (Option.some Jvm.ClassFile.FieldType.int)) ∈ xtbl := xq2 120 (by decide +kernel) rfl
theorem q_361 : (Jvm.Cond.methodLink "WaitedPostLaw" (52 : Nat) ({ cls := "WaitedPost", name := "undo", desc := "()I" } : Jvm.MethodName)) ∈ xtbl := xq2 121 (by decide +kernel) rfl
theorem q_362 : (Jvm.Cond.instanceMethod ({ cls := "WaitedPost", name := "undo", desc := "()I" } : Jvm.MethodName)) ∈ xtbl := xq2 122 (by decide +kernel) rfl
theorem q_363 : (Jvm.Cond.selects "WaitedPost" ({ cls := "WaitedPost", name := "undo", desc := "()I" } : Jvm.MethodName) ({ cls := "WaitedPost", name := "undo", desc := "()I" } : Jvm.MethodName)) ∈ xtbl := xq2 123 (by decide +kernel) rfl
theorem q_364 : (Jvm.Cond.code ({ cls := "WaitedPost", name := "undo", desc := "()I" } : Jvm.MethodName) prog_1_method_11_code (1 : Nat) (Option.some Jvm.ClassFile.FieldType.int)) ∈ xtbl := xq2 124 (by decide +kernel) rfl
theorem q_365 : (Jvm.Cond.methodLink "WaitedPostLaw" (56 : Nat) ({ cls := "WaitedPost", name := "price", desc := "(II)I" } : Jvm.MethodName)) ∈ xtbl := xq2 125 (by decide +kernel) rfl
theorem q_366 : (Jvm.Cond.instanceMethod ({ cls := "WaitedPost", name := "price", desc := "(II)I" } : Jvm.MethodName)) ∈ xtbl := xq2 126 (by decide +kernel) rfl
theorem q_367 : (Jvm.Cond.selects "WaitedPost" ({ cls := "WaitedPost", name := "price", desc := "(II)I" } : Jvm.MethodName) ({ cls := "WaitedPost", name := "price", desc := "(II)I" } : Jvm.MethodName)) ∈ xtbl := xq2 127 (by decide +kernel) rfl
theorem q_368 : (Jvm.Cond.code ({ cls := "WaitedPost", name := "price", desc := "(II)I" } : Jvm.MethodName) prog_1_method_12_code (3 : Nat) (Option.some Jvm.ClassFile.FieldType.int)) ∈ xtbl := xq2 128 (by decide +kernel) rfl
theorem q_369 : (Jvm.Cond.methodLink "WaitedPostLaw" (60 : Nat) ({ cls := "WaitedPost", name := "cheapest", desc := "(I)I" } : Jvm.MethodName)) ∈ xtbl := xq2 129 (by decide +kernel) rfl
theorem q_370 : (Jvm.Cond.instanceMethod ({ cls := "WaitedPost", name := "cheapest", desc := "(I)I" } : Jvm.MethodName)) ∈ xtbl := xq2 130 (by decide +kernel) rfl
theorem q_371 : (Jvm.Cond.selects "WaitedPost" ({ cls := "WaitedPost", name := "cheapest", desc := "(I)I" } : Jvm.MethodName) ({ cls := "WaitedPost", name := "cheapest", desc := "(I)I" } : Jvm.MethodName)) ∈ xtbl := xq2 131 (by decide +kernel) rfl
theorem q_372 : (Jvm.Cond.code ({ cls := "WaitedPost", name := "cheapest", desc := "(I)I" } : Jvm.MethodName) prog_1_method_13_code (6 : Nat) (Option.some Jvm.ClassFile.FieldType.int)) ∈ xtbl := xq2 132 (by decide +kernel) rfl
theorem q_373 : (Jvm.Cond.methodLink "WaitedPostLaw" (64 : Nat) ({ cls := "WaitedPost", name := "plan", desc := "(IZ)I" } : Jvm.MethodName)) ∈ xtbl := xq2 133 (by decide +kernel) rfl
theorem q_374 : (Jvm.Cond.instanceMethod ({ cls := "WaitedPost", name := "plan", desc := "(IZ)I" } : Jvm.MethodName)) ∈ xtbl := xq2 134 (by decide +kernel) rfl
theorem q_375 : (Jvm.Cond.selects "WaitedPost" ({ cls := "WaitedPost", name := "plan", desc := "(IZ)I" } : Jvm.MethodName) ({ cls := "WaitedPost", name := "plan", desc := "(IZ)I" } : Jvm.MethodName)) ∈ xtbl := xq2 135 (by decide +kernel) rfl
theorem q_376 : (Jvm.Cond.code ({ cls := "WaitedPost", name := "plan", desc := "(IZ)I" } : Jvm.MethodName) prog_1_method_14_code (3 : Nat) (Option.some Jvm.ClassFile.FieldType.int)) ∈ xtbl := xq2 136 (by decide +kernel) rfl
theorem q_377 : (Jvm.Cond.methodLink "WaitedPost" (144 : Nat) ({ cls := "WaitedPost$Planner", name := "fill", desc := "(LWaitedPost$Told;LWaitedPost$Standing;I)V" } : Jvm.MethodName)) ∈ xtbl := xq2 137 (by decide +kernel) rfl
theorem q_378 : (Jvm.Cond.instanceMethod ({ cls := "WaitedPost$Planner", name := "fill", desc := "(LWaitedPost$Told;LWaitedPost$Standing;I)V" } : Jvm.MethodName)) ∈ xtbl := xq2 138 (by decide +kernel) rfl
theorem q_379 : (Jvm.Cond.selects "WaitedPost$Planner" ({ cls := "WaitedPost$Planner", name := "fill", desc := "(LWaitedPost$Told;LWaitedPost$Standing;I)V" } : Jvm.MethodName) ({ cls := "WaitedPost$Planner", name := "fill", desc := "(LWaitedPost$Told;LWaitedPost$Standing;I)V" } : Jvm.MethodName)) ∈ xtbl := xq2 139 (by decide +kernel) rfl
theorem q_380 : (Jvm.Cond.code ({ cls := "WaitedPost$Planner", name := "fill", desc := "(LWaitedPost$Told;LWaitedPost$Standing;I)V" } : Jvm.MethodName) prog_2_method_2_code (6 : Nat) (Option.none : Option Jvm.ClassFile.FieldType)) ∈ xtbl := xq2 140 (by decide +kernel) rfl
theorem q_381 : (Jvm.Cond.constantLong "WaitedPost$Planner" (15 : Nat) (1152921504606846976 : Int64)) ∈ xtbl := xq2 141 (by decide +kernel) rfl
theorem q_382 : (Jvm.Cond.methodLink "WaitedPost$Planner" (17 : Nat) ({ cls := "java/util/Arrays", name := "fill", desc := "([JJ)V" } : Jvm.MethodName)) ∈ xtbl := xq2 142 (by decide +kernel) rfl
theorem q_383 : (Jvm.Cond.static ({ cls := "java/util/Arrays", name := "fill", desc := "([JJ)V" } : Jvm.MethodName)) ∈ xtbl := xq2 143 (by decide +kernel) rfl
theorem q_384 : (Jvm.Cond.code ({ cls := "java/util/Arrays", name := "fill", desc := "([JJ)V" } : Jvm.MethodName) prog_10_method_101_code (5 : Nat) (Option.none : Option Jvm.ClassFile.FieldType)) ∈ xtbl := xq2 144 (by decide +kernel) rfl
theorem q_385 : (Jvm.Cond.methodLink "WaitedPost$Planner" (29 : Nat) ({ cls := "WaitedPost$Planner", name := "lower", desc := "(IJ)V" } : Jvm.MethodName)) ∈ xtbl := xq2 145 (by decide +kernel) rfl
theorem q_387 : (Jvm.Cond.instanceMethod ({ cls := "WaitedPost$Planner", name := "lower", desc := "(IJ)V" } : Jvm.MethodName)) ∈ xtbl := xq2 147 (by decide +kernel) rfl
theorem q_388 : (Jvm.Cond.code ({ cls := "WaitedPost$Planner", name := "lower", desc := "(IJ)V" } : Jvm.MethodName) prog_2_method_9_code (4 : Nat) (Option.none : Option Jvm.ClassFile.FieldType)) ∈ xtbl := xq2 148 (by decide +kernel) rfl
theorem q_390 : (Jvm.Cond.methodLink "WaitedPost$Planner" (37 : Nat) ({ cls := "WaitedPost$Planner", name := "tryLetter", desc := "(LWaitedPost$Told;LWaitedPost$Standing;III)V" } : Jvm.MethodName)) ∈ xtbl := xq2 150 (by decide +kernel) rfl
theorem q_392 : (Jvm.Cond.instanceMethod ({ cls := "WaitedPost$Planner", name := "tryLetter", desc := "(LWaitedPost$Told;LWaitedPost$Standing;III)V" } : Jvm.MethodName)) ∈ xtbl := xq2 152 (by decide +kernel) rfl
theorem q_393 : (Jvm.Cond.code ({ cls := "WaitedPost$Planner", name := "tryLetter", desc := "(LWaitedPost$Told;LWaitedPost$Standing;III)V" } : Jvm.MethodName) prog_2_method_6_code (13 : Nat) (Option.none : Option Jvm.ClassFile.FieldType)) ∈ xtbl := xq2 153 (by decide +kernel) rfl
theorem q_394 : (Jvm.Cond.methodLink "WaitedPost$Planner" (50 : Nat) ({ cls := "java/lang/Integer", name := "bitCount", desc := "(I)I" } : Jvm.MethodName)) ∈ xtbl := xq2 154 (by decide +kernel) rfl
theorem q_396 : (Jvm.Cond.static ({ cls := "WaitedPost", name := "power", desc := "(II)J" } : Jvm.MethodName)) ∈ xtbl := xq2 156 (by decide +kernel) rfl
theorem q_397 : (Jvm.Cond.code ({ cls := "WaitedPost", name := "power", desc := "(II)J" } : Jvm.MethodName) prog_1_method_49_code (5 : Nat) (Option.some Jvm.ClassFile.FieldType.long)) ∈ xtbl := xq2 157 (by decide +kernel) rfl
theorem q_399 : (Jvm.Cond.static ({ cls := "WaitedPost", name := "within", desc := "(II)Z" } : Jvm.MethodName)) ∈ xtbl := xq2 159 (by decide +kernel) rfl
theorem q_400 : (Jvm.Cond.code ({ cls := "WaitedPost", name := "within", desc := "(II)Z" } : Jvm.MethodName) prog_1_method_45_code (2 : Nat) (Option.some Jvm.ClassFile.FieldType.boolean)) ∈ xtbl := xq2 160 (by decide +kernel) rfl
theorem q_401 : (Jvm.Cond.constantLong "WaitedPost$Planner" (48 : Nat) (1000000 : Int64)) ∈ xtbl := xq2 161 (by decide +kernel) rfl
theorem q_402 : (Jvm.Cond.methodLink "WaitedPost$Planner" (66 : Nat) ({ cls := "WaitedPost$Told", name := "costIn", desc := "(LWaitedPost$Standing;III)I" } : Jvm.MethodName)) ∈ xtbl := xq2 162 (by decide +kernel) rfl
theorem q_404 : (Jvm.Cond.methodLink "WaitedPost$Planner" (44 : Nat) ({ cls := "WaitedPost$Planner", name := "bestAt", desc := "(I)J" } : Jvm.MethodName)) ∈ xtbl := xq2 164 (by decide +kernel) rfl
theorem q_406 : (Jvm.Cond.instanceMethod ({ cls := "WaitedPost$Planner", name := "bestAt", desc := "(I)J" } : Jvm.MethodName)) ∈ xtbl := xq2 166 (by decide +kernel) rfl
theorem q_407 : (Jvm.Cond.code ({ cls := "WaitedPost$Planner", name := "bestAt", desc := "(I)J" } : Jvm.MethodName) prog_2_method_8_code (2 : Nat) (Option.some Jvm.ClassFile.FieldType.long)) ∈ xtbl := xq2 167 (by decide +kernel) rfl
theorem q_408 : (Jvm.Cond.methodLink "WaitedPost$Planner" (41 : Nat) ({ cls := "WaitedPost$Planner", name := "endDay", desc := "()V" } : Jvm.MethodName)) ∈ xtbl := xq2 168 (by decide +kernel) rfl
theorem q_410 : (Jvm.Cond.instanceMethod ({ cls := "WaitedPost$Planner", name := "endDay", desc := "()V" } : Jvm.MethodName)) ∈ xtbl := xq2 170 (by decide +kernel) rfl
theorem q_411 : (Jvm.Cond.code ({ cls := "WaitedPost$Planner", name := "endDay", desc := "()V" } : Jvm.MethodName) prog_2_method_7_code (3 : Nat) (Option.none : Option Jvm.ClassFile.FieldType)) ∈ xtbl := xq2 171 (by decide +kernel) rfl
theorem q_412 : (Jvm.Cond.methodLink "WaitedPost" (148 : Nat) ({ cls := "WaitedPost$Planner", name := "hasRoom", desc := "(I)Z" } : Jvm.MethodName)) ∈ xtbl := xq2 172 (by decide +kernel) rfl
theorem q_413 : (Jvm.Cond.instanceMethod ({ cls := "WaitedPost$Planner", name := "hasRoom", desc := "(I)Z" } : Jvm.MethodName)) ∈ xtbl := xq2 173 (by decide +kernel) rfl
theorem q_414 : (Jvm.Cond.selects "WaitedPost$Planner" ({ cls := "WaitedPost$Planner", name := "hasRoom", desc := "(I)Z" } : Jvm.MethodName) ({ cls := "WaitedPost$Planner", name := "hasRoom", desc := "(I)Z" } : Jvm.MethodName)) ∈ xtbl := xq2 174 (by decide +kernel) rfl
theorem q_415 : (Jvm.Cond.code ({ cls := "WaitedPost$Planner", name := "hasRoom", desc := "(I)Z" } : Jvm.MethodName) prog_2_method_3_code (2 : Nat) (Option.some Jvm.ClassFile.FieldType.boolean)) ∈ xtbl := xq2 175 (by decide +kernel) rfl
theorem q_416 : (Jvm.Cond.methodLink "WaitedPost" (151 : Nat) ({ cls := "WaitedPost$Planner", name := "rowOf", desc := "(I)I" } : Jvm.MethodName)) ∈ xtbl := xq2 176 (by decide +kernel) rfl
theorem q_417 : (Jvm.Cond.instanceMethod ({ cls := "WaitedPost$Planner", name := "rowOf", desc := "(I)I" } : Jvm.MethodName)) ∈ xtbl := xq2 177 (by decide +kernel) rfl
theorem q_418 : (Jvm.Cond.selects "WaitedPost$Planner" ({ cls := "WaitedPost$Planner", name := "rowOf", desc := "(I)I" } : Jvm.MethodName) ({ cls := "WaitedPost$Planner", name := "rowOf", desc := "(I)I" } : Jvm.MethodName)) ∈ xtbl := xq2 178 (by decide +kernel) rfl
theorem q_419 : (Jvm.Cond.code ({ cls := "WaitedPost$Planner", name := "rowOf", desc := "(I)I" } : Jvm.MethodName) prog_2_method_5_code (2 : Nat) (Option.some Jvm.ClassFile.FieldType.int)) ∈ xtbl := xq2 179 (by decide +kernel) rfl
theorem q_420 : (Jvm.Cond.methodLink "WaitedPost" (154 : Nat) ({ cls := "WaitedPost$Planner", name := "paidFor", desc := "(I)I" } : Jvm.MethodName)) ∈ xtbl := xq2 180 (by decide +kernel) rfl
theorem q_421 : (Jvm.Cond.instanceMethod ({ cls := "WaitedPost$Planner", name := "paidFor", desc := "(I)I" } : Jvm.MethodName)) ∈ xtbl := xq2 181 (by decide +kernel) rfl
theorem q_422 : (Jvm.Cond.selects "WaitedPost$Planner" ({ cls := "WaitedPost$Planner", name := "paidFor", desc := "(I)I" } : Jvm.MethodName) ({ cls := "WaitedPost$Planner", name := "paidFor", desc := "(I)I" } : Jvm.MethodName)) ∈ xtbl := xq2 182 (by decide +kernel) rfl
theorem q_423 : (Jvm.Cond.code ({ cls := "WaitedPost$Planner", name := "paidFor", desc := "(I)I" } : Jvm.MethodName) prog_2_method_4_code (2 : Nat) (Option.some Jvm.ClassFile.FieldType.int)) ∈ xtbl := xq2 183 (by decide +kernel) rfl
theorem q_424 : (Jvm.Cond.methodLink "WaitedPostLaw" (69 : Nat) ({ cls := "WaitedPost", name := "order", desc := "()I" } : Jvm.MethodName)) ∈ xtbl := xq2 184 (by decide +kernel) rfl
theorem q_425 : (Jvm.Cond.instanceMethod ({ cls := "WaitedPost", name := "order", desc := "()I" } : Jvm.MethodName)) ∈ xtbl := xq2 185 (by decide +kernel) rfl
theorem q_426 : (Jvm.Cond.selects "WaitedPost" ({ cls := "WaitedPost", name := "order", desc := "()I" } : Jvm.MethodName) ({ cls := "WaitedPost", name := "order", desc := "()I" } : Jvm.MethodName)) ∈ xtbl := xq2 186 (by decide +kernel) rfl
theorem q_427 : (Jvm.Cond.code ({ cls := "WaitedPost", name := "order", desc := "()I" } : Jvm.MethodName) prog_1_method_15_code (5 : Nat) (Option.some Jvm.ClassFile.FieldType.int)) ∈ xtbl := xq2 187 (by decide +kernel) rfl
theorem q_428 : (Jvm.Cond.methodLink "WaitedPost" (157 : Nat) ({ cls := "WaitedPost", name := "unsent", desc := "()I" } : Jvm.MethodName)) ∈ xtbl := xq2 188 (by decide +kernel) rfl
theorem q_430 : (Jvm.Cond.instanceMethod ({ cls := "WaitedPost", name := "unsent", desc := "()I" } : Jvm.MethodName)) ∈ xtbl := xq2 190 (by decide +kernel) rfl
theorem q_431 : (Jvm.Cond.code ({ cls := "WaitedPost", name := "unsent", desc := "()I" } : Jvm.MethodName) prog_1_method_30_code (1 : Nat) (Option.some Jvm.ClassFile.FieldType.int)) ∈ xtbl := xq2 191 (by decide +kernel) rfl
theorem q_432 : (Jvm.Cond.methodLink "WaitedPost" (160 : Nat) ({ cls := "WaitedPost", name := "firstUnexplained", desc := "(I)I" } : Jvm.MethodName)) ∈ xtbl := xq2 192 (by decide +kernel) rfl
theorem q_434 : (Jvm.Cond.instanceMethod ({ cls := "WaitedPost", name := "firstUnexplained", desc := "(I)I" } : Jvm.MethodName)) ∈ xtbl := xq2 194 (by decide +kernel) rfl
theorem q_435 : (Jvm.Cond.code ({ cls := "WaitedPost", name := "firstUnexplained", desc := "(I)I" } : Jvm.MethodName) prog_1_method_36_code (3 : Nat) (Option.some Jvm.ClassFile.FieldType.int)) ∈ xtbl := xq2 195 (by decide +kernel) rfl
theorem q_436 : (Jvm.Cond.methodLink "WaitedPostLaw" (73 : Nat) ({ cls := "WaitedPost", name := "judge", desc := "(II)I" } : Jvm.MethodName)) ∈ xtbl := xq2 196 (by decide +kernel) rfl
theorem q_437 : (Jvm.Cond.instanceMethod ({ cls := "WaitedPost", name := "judge", desc := "(II)I" } : Jvm.MethodName)) ∈ xtbl := xq2 197 (by decide +kernel) rfl
theorem q_438 : (Jvm.Cond.selects "WaitedPost" ({ cls := "WaitedPost", name := "judge", desc := "(II)I" } : Jvm.MethodName) ({ cls := "WaitedPost", name := "judge", desc := "(II)I" } : Jvm.MethodName)) ∈ xtbl := xq2 198 (by decide +kernel) rfl
theorem q_439 : (Jvm.Cond.code ({ cls := "WaitedPost", name := "judge", desc := "(II)I" } : Jvm.MethodName) prog_1_method_16_code (3 : Nat) (Option.some Jvm.ClassFile.FieldType.int)) ∈ xtbl := xq2 199 (by decide +kernel) rfl
theorem q_440 : (Jvm.Cond.methodLink "WaitedPost" (163 : Nat) ({ cls := "WaitedPost", name := "takeFigures", desc := "(II)Z" } : Jvm.MethodName)) ∈ xtbl := xq2 200 (by decide +kernel) rfl
theorem q_442 : (Jvm.Cond.instanceMethod ({ cls := "WaitedPost", name := "takeFigures", desc := "(II)Z" } : Jvm.MethodName)) ∈ xtbl := xq2 202 (by decide +kernel) rfl
theorem q_443 : (Jvm.Cond.code ({ cls := "WaitedPost", name := "takeFigures", desc := "(II)Z" } : Jvm.MethodName) prog_1_method_37_code (5 : Nat) (Option.some Jvm.ClassFile.FieldType.boolean)) ∈ xtbl := xq2 203 (by decide +kernel) rfl
theorem q_444 : (Jvm.Cond.methodLink "WaitedPost" (166 : Nat) ({ cls := "WaitedPost", name := "tryThings", desc := "(I)I" } : Jvm.MethodName)) ∈ xtbl := xq2 204 (by decide +kernel) rfl
theorem q_446 : (Jvm.Cond.instanceMethod ({ cls := "WaitedPost", name := "tryThings", desc := "(I)I" } : Jvm.MethodName)) ∈ xtbl := xq2 206 (by decide +kernel) rfl
theorem q_447 : (Jvm.Cond.code ({ cls := "WaitedPost", name := "tryThings", desc := "(I)I" } : Jvm.MethodName) prog_1_method_38_code (5 : Nat) (Option.some Jvm.ClassFile.FieldType.int)) ∈ xtbl := xq2 207 (by decide +kernel) rfl
theorem q_448 : (Jvm.Cond.methodLink "WaitedPostLaw" (77 : Nat) ({ cls := "WaitedPost", name := "cost", desc := "(II)I" } : Jvm.MethodName)) ∈ xtbl := xq2 208 (by decide +kernel) rfl
theorem q_449 : (Jvm.Cond.instanceMethod ({ cls := "WaitedPost", name := "cost", desc := "(II)I" } : Jvm.MethodName)) ∈ xtbl := xq2 209 (by decide +kernel) rfl
theorem q_450 : (Jvm.Cond.selects "WaitedPost" ({ cls := "WaitedPost", name := "cost", desc := "(II)I" } : Jvm.MethodName) ({ cls := "WaitedPost", name := "cost", desc := "(II)I" } : Jvm.MethodName)) ∈ xtbl := xq2 210 (by decide +kernel) rfl
theorem q_451 : (Jvm.Cond.code ({ cls := "WaitedPost", name := "cost", desc := "(II)I" } : Jvm.MethodName) prog_1_method_17_code (3 : Nat) (Option.some Jvm.ClassFile.FieldType.int)) ∈ xtbl := xq2 211 (by decide +kernel) rfl
theorem q_452 : (Jvm.Cond.methodLink "WaitedPostLaw" (81 : Nat) ({ cls := "WaitedPost", name := "waits", desc := "(II)I" } : Jvm.MethodName)) ∈ xtbl := xq2 212 (by decide +kernel) rfl
theorem q_453 : (Jvm.Cond.instanceMethod ({ cls := "WaitedPost", name := "waits", desc := "(II)I" } : Jvm.MethodName)) ∈ xtbl := xq2 213 (by decide +kernel) rfl
theorem q_454 : (Jvm.Cond.selects "WaitedPost" ({ cls := "WaitedPost", name := "waits", desc := "(II)I" } : Jvm.MethodName) ({ cls := "WaitedPost", name := "waits", desc := "(II)I" } : Jvm.MethodName)) ∈ xtbl := xq2 214 (by decide +kernel) rfl
theorem q_455 : (Jvm.Cond.code ({ cls := "WaitedPost", name := "waits", desc := "(II)I" } : Jvm.MethodName) prog_1_method_18_code (5 : Nat) (Option.some Jvm.ClassFile.FieldType.int)) ∈ xtbl := xq2 215 (by decide +kernel) rfl
theorem q_456 : (Jvm.Cond.methodLink "WaitedPost" (172 : Nat) ({ cls := "WaitedPost", name := "isCost", desc := "(I)Z" } : Jvm.MethodName)) ∈ xtbl := xq2 216 (by decide +kernel) rfl
theorem q_457 : (Jvm.Cond.static ({ cls := "WaitedPost", name := "isCost", desc := "(I)Z" } : Jvm.MethodName)) ∈ xtbl := xq2 217 (by decide +kernel) rfl
theorem q_458 : (Jvm.Cond.code ({ cls := "WaitedPost", name := "isCost", desc := "(I)Z" } : Jvm.MethodName) prog_1_method_42_code (1 : Nat) (Option.some Jvm.ClassFile.FieldType.boolean)) ∈ xtbl := xq2 218 (by decide +kernel) rfl
theorem q_459 : (Jvm.Cond.methodLink "WaitedPost" (175 : Nat) ({ cls := "WaitedPost$Told", name := "costOf", desc := "(IIZII)I" } : Jvm.MethodName)) ∈ xtbl := xq2 219 (by decide +kernel) rfl
theorem q_460 : (Jvm.Cond.methodLink "WaitedPostLaw" (85 : Nat) ({ cls := "WaitedPost", name := "who", desc := "(III)I" } : Jvm.MethodName)) ∈ xtbl := xq2 220 (by decide +kernel) rfl
theorem q_461 : (Jvm.Cond.instanceMethod ({ cls := "WaitedPost", name := "who", desc := "(III)I" } : Jvm.MethodName)) ∈ xtbl := xq2 221 (by decide +kernel) rfl
theorem q_462 : (Jvm.Cond.selects "WaitedPost" ({ cls := "WaitedPost", name := "who", desc := "(III)I" } : Jvm.MethodName) ({ cls := "WaitedPost", name := "who", desc := "(III)I" } : Jvm.MethodName)) ∈ xtbl := xq2 222 (by decide +kernel) rfl
theorem q_463 : (Jvm.Cond.code ({ cls := "WaitedPost", name := "who", desc := "(III)I" } : Jvm.MethodName) prog_1_method_19_code (9 : Nat) (Option.some Jvm.ClassFile.FieldType.int)) ∈ xtbl := xq2 223 (by decide +kernel) rfl
theorem q_464 : (Jvm.Cond.methodLink "WaitedPost" (179 : Nat) ({ cls := "WaitedPost", name := "within", desc := "(II)Z" } : Jvm.MethodName)) ∈ xtbl := xq2 224 (by decide +kernel) rfl
theorem q_465 : (Jvm.Cond.methodLink "WaitedPostLaw" (90 : Nat) ({ cls := "WaitedPost", name := "share", desc := "(IZ)I" } : Jvm.MethodName)) ∈ xtbl := xq2 225 (by decide +kernel) rfl
theorem q_466 : (Jvm.Cond.instanceMethod ({ cls := "WaitedPost", name := "share", desc := "(IZ)I" } : Jvm.MethodName)) ∈ xtbl := xq2 226 (by decide +kernel) rfl
theorem q_467 : (Jvm.Cond.selects "WaitedPost" ({ cls := "WaitedPost", name := "share", desc := "(IZ)I" } : Jvm.MethodName) ({ cls := "WaitedPost", name := "share", desc := "(IZ)I" } : Jvm.MethodName)) ∈ xtbl := xq2 227 (by decide +kernel) rfl
theorem q_468 : (Jvm.Cond.code ({ cls := "WaitedPost", name := "share", desc := "(IZ)I" } : Jvm.MethodName) prog_1_method_20_code (12 : Nat) (Option.some Jvm.ClassFile.FieldType.int)) ∈ xtbl := xq2 228 (by decide +kernel) rfl
theorem q_469 : (Jvm.Cond.methodLink "WaitedPost" (182 : Nat) ({ cls := "WaitedPost", name := "fractionPart", desc := "(JJZ)I" } : Jvm.MethodName)) ∈ xtbl := xq2 229 (by decide +kernel) rfl
theorem q_470 : (Jvm.Cond.static ({ cls := "WaitedPost", name := "fractionPart", desc := "(JJZ)I" } : Jvm.MethodName)) ∈ xtbl := xq2 230 (by decide +kernel) rfl
theorem q_471 : (Jvm.Cond.code ({ cls := "WaitedPost", name := "fractionPart", desc := "(JJZ)I" } : Jvm.MethodName) prog_1_method_51_code (7 : Nat) (Option.some Jvm.ClassFile.FieldType.int)) ∈ xtbl := xq2 231 (by decide +kernel) rfl
theorem q_472 : (Jvm.Cond.methodLink "WaitedPost" (242 : Nat) ({ cls := "java/lang/Math", name := "abs", desc := "(J)J" } : Jvm.MethodName)) ∈ xtbl := xq2 232 (by decide +kernel) rfl
theorem q_473 : (Jvm.Cond.static ({ cls := "java/lang/Math", name := "abs", desc := "(J)J" } : Jvm.MethodName)) ∈ xtbl := xq2 233 (by decide +kernel) rfl
theorem q_474 : (Jvm.Cond.code ({ cls := "java/lang/Math", name := "abs", desc := "(J)J" } : Jvm.MethodName) prog_9_method_61_code (2 : Nat) (Option.some Jvm.ClassFile.FieldType.long)) ∈ xtbl := xq2 234 (by decide +kernel) rfl
theorem q_475 : (Jvm.Cond.methodLink "WaitedPost" (248 : Nat) ({ cls := "WaitedPost", name := "commonDivisor", desc := "(JJ)J" } : Jvm.MethodName)) ∈ xtbl := xq2 235 (by decide +kernel) rfl
theorem q_476 : (Jvm.Cond.static ({ cls := "WaitedPost", name := "commonDivisor", desc := "(JJ)J" } : Jvm.MethodName)) ∈ xtbl := xq2 236 (by decide +kernel) rfl
theorem q_477 : (Jvm.Cond.code ({ cls := "WaitedPost", name := "commonDivisor", desc := "(JJ)J" } : Jvm.MethodName) prog_1_method_52_code (11 : Nat) (Option.some Jvm.ClassFile.FieldType.long)) ∈ xtbl := xq2 237 (by decide +kernel) rfl
theorem q_478 : (Jvm.Cond.methodLink "WaitedPost" (186 : Nat) ({ cls := "java/lang/Integer", name := "bitCount", desc := "(I)I" } : Jvm.MethodName)) ∈ xtbl := xq2 238 (by decide +kernel) rfl
theorem q_479 : (Jvm.Cond.methodLink "WaitedPost" (191 : Nat) ({ cls := "WaitedPost", name := "factorial", desc := "(I)J" } : Jvm.MethodName)) ∈ xtbl := xq2 239 (by decide +kernel) rfl
theorem q_480 : (Jvm.Cond.static ({ cls := "WaitedPost", name := "factorial", desc := "(I)J" } : Jvm.MethodName)) ∈ xtbl := xq3 0 (by decide +kernel) rfl
theorem q_481 : (Jvm.Cond.code ({ cls := "WaitedPost", name := "factorial", desc := "(I)J" } : Jvm.MethodName) prog_1_method_50_code (4 : Nat) (Option.some Jvm.ClassFile.FieldType.long)) ∈ xtbl := xq3 1 (by decide +kernel) rfl
theorem q_482 : (Jvm.Cond.methodLink "WaitedPost" (195 : Nat) ({ cls := "WaitedPost", name := "costForShare", desc := "(I)I" } : Jvm.MethodName)) ∈ xtbl := xq3 2 (by decide +kernel) rfl
theorem q_484 : (Jvm.Cond.instanceMethod ({ cls := "WaitedPost", name := "costForShare", desc := "(I)I" } : Jvm.MethodName)) ∈ xtbl := xq3 4 (by decide +kernel) rfl
theorem q_485 : (Jvm.Cond.code ({ cls := "WaitedPost", name := "costForShare", desc := "(I)I" } : Jvm.MethodName) prog_1_method_39_code (2 : Nat) (Option.some Jvm.ClassFile.FieldType.int)) ∈ xtbl := xq3 5 (by decide +kernel) rfl
theorem q_486 : (Jvm.Cond.methodLink "WaitedPostLaw" (94 : Nat) ({ cls := "WaitedPost", name := "rests", desc := "(III)I" } : Jvm.MethodName)) ∈ xtbl := xq3 6 (by decide +kernel) rfl
theorem q_487 : (Jvm.Cond.instanceMethod ({ cls := "WaitedPost", name := "rests", desc := "(III)I" } : Jvm.MethodName)) ∈ xtbl := xq3 7 (by decide +kernel) rfl
theorem q_488 : (Jvm.Cond.selects "WaitedPost" ({ cls := "WaitedPost", name := "rests", desc := "(III)I" } : Jvm.MethodName) ({ cls := "WaitedPost", name := "rests", desc := "(III)I" } : Jvm.MethodName)) ∈ xtbl := xq3 8 (by decide +kernel) rfl
theorem q_489 : (Jvm.Cond.code ({ cls := "WaitedPost", name := "rests", desc := "(III)I" } : Jvm.MethodName) prog_1_method_21_code (8 : Nat) (Option.some Jvm.ClassFile.FieldType.int)) ∈ xtbl := xq3 9 (by decide +kernel) rfl
theorem q_490 : (Jvm.Cond.methodLink "WaitedPost" (198 : Nat) ({ cls := "WaitedPost", name := "isBestDay", desc := "(IIII)Z" } : Jvm.MethodName)) ∈ xtbl := xq3 10 (by decide +kernel) rfl
theorem q_492 : (Jvm.Cond.instanceMethod ({ cls := "WaitedPost", name := "isBestDay", desc := "(IIII)Z" } : Jvm.MethodName)) ∈ xtbl := xq3 12 (by decide +kernel) rfl
theorem q_493 : (Jvm.Cond.code ({ cls := "WaitedPost", name := "isBestDay", desc := "(IIII)Z" } : Jvm.MethodName) prog_1_method_41_code (7 : Nat) (Option.some Jvm.ClassFile.FieldType.boolean)) ∈ xtbl := xq3 13 (by decide +kernel) rfl
theorem q_494 : (Jvm.Cond.methodLink "WaitedPost" (238 : Nat) ({ cls := "WaitedPost", name := "costBeside", desc := "(IIII)I" } : Jvm.MethodName)) ∈ xtbl := xq3 14 (by decide +kernel) rfl
theorem q_496 : (Jvm.Cond.instanceMethod ({ cls := "WaitedPost", name := "costBeside", desc := "(IIII)I" } : Jvm.MethodName)) ∈ xtbl := xq3 16 (by decide +kernel) rfl
theorem q_497 : (Jvm.Cond.code ({ cls := "WaitedPost", name := "costBeside", desc := "(IIII)I" } : Jvm.MethodName) prog_1_method_40_code (7 : Nat) (Option.some Jvm.ClassFile.FieldType.int)) ∈ xtbl := xq3 17 (by decide +kernel) rfl
theorem q_498 : (Jvm.Cond.methodLink "WaitedPostLaw" (98 : Nat) ({ cls := "WaitedPost", name := "lost", desc := "(IIIZ)I" } : Jvm.MethodName)) ∈ xtbl := xq3 18 (by decide +kernel) rfl
theorem q_499 : (Jvm.Cond.instanceMethod ({ cls := "WaitedPost", name := "lost", desc := "(IIIZ)I" } : Jvm.MethodName)) ∈ xtbl := xq3 19 (by decide +kernel) rfl
theorem q_500 : (Jvm.Cond.selects "WaitedPost" ({ cls := "WaitedPost", name := "lost", desc := "(IIIZ)I" } : Jvm.MethodName) ({ cls := "WaitedPost", name := "lost", desc := "(IIIZ)I" } : Jvm.MethodName)) ∈ xtbl := xq3 20 (by decide +kernel) rfl
theorem q_501 : (Jvm.Cond.code ({ cls := "WaitedPost", name := "lost", desc := "(IIIZ)I" } : Jvm.MethodName) prog_1_method_22_code (11 : Nat) (Option.some Jvm.ClassFile.FieldType.int)) ∈ xtbl := xq3 21 (by decide +kernel) rfl
theorem q_502 : (Jvm.Cond.methodLink "WaitedPost" (202 : Nat) ({ cls := "WaitedPost", name := "power", desc := "(II)J" } : Jvm.MethodName)) ∈ xtbl := xq3 22 (by decide +kernel) rfl
theorem q_503 : (Jvm.Cond.methodLink "WaitedPostLaw" (105 : Nat) ({ cls := "WaitedPost", name := "seed", desc := "(J)J" } : Jvm.MethodName)) ∈ xtbl := xq3 23 (by decide +kernel) rfl
theorem q_504 : (Jvm.Cond.instanceMethod ({ cls := "WaitedPost", name := "seed", desc := "(J)J" } : Jvm.MethodName)) ∈ xtbl := xq3 24 (by decide +kernel) rfl
theorem q_505 : (Jvm.Cond.selects "WaitedPost" ({ cls := "WaitedPost", name := "seed", desc := "(J)J" } : Jvm.MethodName) ({ cls := "WaitedPost", name := "seed", desc := "(J)J" } : Jvm.MethodName)) ∈ xtbl := xq3 25 (by decide +kernel) rfl
theorem q_506 : (Jvm.Cond.code ({ cls := "WaitedPost", name := "seed", desc := "(J)J" } : Jvm.MethodName) prog_1_method_23_code (5 : Nat) (Option.some Jvm.ClassFile.FieldType.long)) ∈ xtbl := xq3 26 (by decide +kernel) rfl
theorem q_507 : (Jvm.Cond.methodLink "WaitedPostLaw" (110 : Nat) ({ cls := "WaitedPost", name := "years", desc := "(I)I" } : Jvm.MethodName)) ∈ xtbl := xq3 27 (by decide +kernel) rfl
theorem q_508 : (Jvm.Cond.instanceMethod ({ cls := "WaitedPost", name := "years", desc := "(I)I" } : Jvm.MethodName)) ∈ xtbl := xq3 28 (by decide +kernel) rfl
theorem q_509 : (Jvm.Cond.selects "WaitedPost" ({ cls := "WaitedPost", name := "years", desc := "(I)I" } : Jvm.MethodName) ({ cls := "WaitedPost", name := "years", desc := "(I)I" } : Jvm.MethodName)) ∈ xtbl := xq3 29 (by decide +kernel) rfl
theorem q_510 : (Jvm.Cond.code ({ cls := "WaitedPost", name := "years", desc := "(I)I" } : Jvm.MethodName) prog_1_method_24_code (4 : Nat) (Option.some Jvm.ClassFile.FieldType.int)) ∈ xtbl := xq3 30 (by decide +kernel) rfl
theorem q_511 : (Jvm.Cond.constantLong "WaitedPost" (210 : Nat) (6364136223846793005 : Int64)) ∈ xtbl := xq3 31 (by decide +kernel) rfl
theorem q_512 : (Jvm.Cond.constantLong "WaitedPost" (212 : Nat) (1442695040888963407 : Int64)) ∈ xtbl := xq3 32 (by decide +kernel) rfl
theorem q_513 : (Jvm.Cond.methodLink "WaitedPostLaw" (114 : Nat) ({ cls := "WaitedPost", name := "keep", desc := "(I)I" } : Jvm.MethodName)) ∈ xtbl := xq3 33 (by decide +kernel) rfl
theorem q_514 : (Jvm.Cond.instanceMethod ({ cls := "WaitedPost", name := "keep", desc := "(I)I" } : Jvm.MethodName)) ∈ xtbl := xq3 34 (by decide +kernel) rfl
theorem q_515 : (Jvm.Cond.selects "WaitedPost" ({ cls := "WaitedPost", name := "keep", desc := "(I)I" } : Jvm.MethodName) ({ cls := "WaitedPost", name := "keep", desc := "(I)I" } : Jvm.MethodName)) ∈ xtbl := xq3 35 (by decide +kernel) rfl
theorem q_516 : (Jvm.Cond.code ({ cls := "WaitedPost", name := "keep", desc := "(I)I" } : Jvm.MethodName) prog_1_method_25_code (2 : Nat) (Option.some Jvm.ClassFile.FieldType.int)) ∈ xtbl := xq3 36 (by decide +kernel) rfl
theorem q_517 : (Jvm.Cond.methodLink "WaitedPostLaw" (118 : Nat) ({ cls := "WaitedPost", name := "again", desc := "(I)I" } : Jvm.MethodName)) ∈ xtbl := xq3 37 (by decide +kernel) rfl
theorem q_518 : (Jvm.Cond.instanceMethod ({ cls := "WaitedPost", name := "again", desc := "(I)I" } : Jvm.MethodName)) ∈ xtbl := xq3 38 (by decide +kernel) rfl
theorem q_519 : (Jvm.Cond.selects "WaitedPost" ({ cls := "WaitedPost", name := "again", desc := "(I)I" } : Jvm.MethodName) ({ cls := "WaitedPost", name := "again", desc := "(I)I" } : Jvm.MethodName)) ∈ xtbl := xq3 39 (by decide +kernel) rfl
theorem q_520 : (Jvm.Cond.code ({ cls := "WaitedPost", name := "again", desc := "(I)I" } : Jvm.MethodName) prog_1_method_26_code (2 : Nat) (Option.some Jvm.ClassFile.FieldType.int)) ∈ xtbl := xq3 40 (by decide +kernel) rfl
theorem q_521 : (Jvm.Cond.methodLink "WaitedPostLaw" (122 : Nat) ({ cls := "WaitedPost", name := "count", desc := "(I)I" } : Jvm.MethodName)) ∈ xtbl := xq3 41 (by decide +kernel) rfl
theorem q_522 : (Jvm.Cond.instanceMethod ({ cls := "WaitedPost", name := "count", desc := "(I)I" } : Jvm.MethodName)) ∈ xtbl := xq3 42 (by decide +kernel) rfl
theorem q_523 : (Jvm.Cond.selects "WaitedPost" ({ cls := "WaitedPost", name := "count", desc := "(I)I" } : Jvm.MethodName) ({ cls := "WaitedPost", name := "count", desc := "(I)I" } : Jvm.MethodName)) ∈ xtbl := xq3 43 (by decide +kernel) rfl
theorem q_524 : (Jvm.Cond.code ({ cls := "WaitedPost", name := "count", desc := "(I)I" } : Jvm.MethodName) prog_1_method_27_code (2 : Nat) (Option.some Jvm.ClassFile.FieldType.int)) ∈ xtbl := xq3 44 (by decide +kernel) rfl
theorem q_525 : (Jvm.Cond.methodLink "WaitedPost" (223 : Nat) ({ cls := "WaitedPost", name := "costOfUnsent", desc := "()I" } : Jvm.MethodName)) ∈ xtbl := xq3 45 (by decide +kernel) rfl
theorem q_527 : (Jvm.Cond.instanceMethod ({ cls := "WaitedPost", name := "costOfUnsent", desc := "()I" } : Jvm.MethodName)) ∈ xtbl := xq3 47 (by decide +kernel) rfl
theorem q_528 : (Jvm.Cond.code ({ cls := "WaitedPost", name := "costOfUnsent", desc := "()I" } : Jvm.MethodName) prog_1_method_31_code (3 : Nat) (Option.some Jvm.ClassFile.FieldType.int)) ∈ xtbl := xq3 48 (by decide +kernel) rfl
theorem q_529 : (Jvm.Cond.classLink "WaitedPostLaw" (10 : Nat) "WaitedPostModel") ∈ xtbl := xq3 49 (by decide +kernel) rfl
theorem q_530 : (Jvm.Cond.instantiable "WaitedPostModel" (24 : Nat)) ∈ xtbl := xq3 50 (by decide +kernel) rfl
theorem q_531 : (Jvm.Cond.methodLink "WaitedPostLaw" (12 : Nat) ({ cls := "WaitedPostModel", name := "<init>", desc := "()V" } : Jvm.MethodName)) ∈ xtbl := xq3 51 (by decide +kernel) rfl
theorem q_532 : (Jvm.Cond.instanceMethod ({ cls := "WaitedPostModel", name := "<init>", desc := "()V" } : Jvm.MethodName)) ∈ xtbl := xq3 52 (by decide +kernel) rfl
theorem q_533 : (Jvm.Cond.code ({ cls := "WaitedPostModel", name := "<init>", desc := "()V" } : Jvm.MethodName) prog_7_method_1_code (1 : Nat) (Option.none : Option Jvm.ClassFile.FieldType)) ∈ xtbl := xq3 53 (by decide +kernel) rfl
theorem q_534 : (Jvm.Cond.methodLink "WaitedPostModel" (1 : Nat) ({ cls := "java/lang/Object", name := "<init>", desc := "()V" } : Jvm.MethodName)) ∈ xtbl := xq3 54 (by decide +kernel) rfl
theorem q_535 : (Jvm.Cond.fieldLink "WaitedPostModel" (96 : Nat) "WaitedPostModel" "letters" "I") ∈ xtbl := xq3 55 (by decide +kernel) rfl
theorem q_536 : (Jvm.Cond.fieldLink "WaitedPostModel" (99 : Nat) "WaitedPostModel" "pardon" "I") ∈ xtbl := xq3 56 (by decide +kernel) rfl
theorem q_537 : (Jvm.Cond.fieldLink "WaitedPostModel" (44 : Nat) "WaitedPostModel" "room" "I") ∈ xtbl := xq3 57 (by decide +kernel) rfl
theorem q_538 : (Jvm.Cond.fieldLink "WaitedPostModel" (7 : Nat) "WaitedPostModel" "kind" "[I") ∈ xtbl := xq3 58 (by decide +kernel) rfl
theorem q_539 : (Jvm.Cond.fieldLink "WaitedPostModel" (13 : Nat) "WaitedPostModel" "explained" "[I") ∈ xtbl := xq3 59 (by decide +kernel) rfl
theorem q_540 : (Jvm.Cond.fieldLink "WaitedPostModel" (16 : Nat) "WaitedPostModel" "now" "[I") ∈ xtbl := xq3 60 (by decide +kernel) rfl
theorem q_541 : (Jvm.Cond.fieldLink "WaitedPostModel" (19 : Nat) "WaitedPostModel" "readWait" "[I") ∈ xtbl := xq3 61 (by decide +kernel) rfl
theorem q_542 : (Jvm.Cond.fieldLink "WaitedPostModel" (22 : Nat) "WaitedPostModel" "readKind" "[I") ∈ xtbl := xq3 62 (by decide +kernel) rfl
theorem q_543 : (Jvm.Cond.fieldLink "WaitedPostModel" (25 : Nat) "WaitedPostModel" "readExplained" "[I") ∈ xtbl := xq3 63 (by decide +kernel) rfl
theorem q_544 : (Jvm.Cond.fieldLink "WaitedPostModel" (69 : Nat) "WaitedPostModel" "readLetters" "I") ∈ xtbl := xq3 64 (by decide +kernel) rfl
theorem q_545 : (Jvm.Cond.fieldLink "WaitedPostModel" (80 : Nat) "WaitedPostModel" "readPardon" "I") ∈ xtbl := xq3 65 (by decide +kernel) rfl
theorem q_546 : (Jvm.Cond.fieldLink "WaitedPostModel" (83 : Nat) "WaitedPostModel" "readRoom" "I") ∈ xtbl := xq3 66 (by decide +kernel) rfl
theorem q_547 : (Jvm.Cond.fieldLink "WaitedPostModel" (28 : Nat) "WaitedPostModel" "text" "[I") ∈ xtbl := xq3 67 (by decide +kernel) rfl
theorem q_548 : (Jvm.Cond.fieldLink "WaitedPostModel" (54 : Nat) "WaitedPostModel" "length" "I") ∈ xtbl := xq3 68 (by decide +kernel) rfl
theorem q_549 : (Jvm.Cond.fieldLink "WaitedPostModel" (60 : Nat) "WaitedPostModel" "at" "I") ∈ xtbl := xq3 69 (by decide +kernel) rfl
theorem q_550 : (Jvm.Cond.fieldLink "WaitedPostModel" (57 : Nat) "WaitedPostModel" "faultAt" "I") ∈ xtbl := xq3 70 (by decide +kernel) rfl
theorem q_551 : (Jvm.Cond.fieldLink "WaitedPostModel" (102 : Nat) "WaitedPostModel" "acts" "I") ∈ xtbl := xq3 71 (by decide +kernel) rfl
theorem q_552 : (Jvm.Cond.fieldLink "WaitedPostModel" (122 : Nat) "WaitedPostModel" "next" "I") ∈ xtbl := xq3 72 (by decide +kernel) rfl
theorem q_553 : (Jvm.Cond.fieldLink "WaitedPostModel" (31 : Nat) "WaitedPostModel" "row" "[I") ∈ xtbl := xq3 73 (by decide +kernel) rfl
theorem q_554 : (Jvm.Cond.fieldLink "WaitedPostModel" (151 : Nat) "WaitedPostModel" "bestRow" "I") ∈ xtbl := xq3 74 (by decide +kernel) rfl
theorem q_555 : (Jvm.Cond.fieldLink "WaitedPostModel" (34 : Nat) "WaitedPostModel" "leasts" "[I") ∈ xtbl := xq3 75 (by decide +kernel) rfl
theorem q_556 : (Jvm.Cond.fieldLink "WaitedPostModel" (197 : Nat) "WaitedPostModel" "seed" "J") ∈ xtbl := xq3 76 (by decide +kernel) rfl
theorem q_557 : (Jvm.Cond.fieldLink "WaitedPostModel" (37 : Nat) "WaitedPostModel" "isKept" "[Z") ∈ xtbl := xq3 77 (by decide +kernel) rfl
theorem q_558 : (Jvm.Cond.fieldLink "WaitedPostModel" (41 : Nat) "WaitedPostModel" "kept" "[I") ∈ xtbl := xq3 78 (by decide +kernel) rfl
theorem q_608 : (Jvm.Cond.arrayClass Jvm.ClassFile.FieldType.boolean) ∈ xtbl := xq3 128 (by decide +kernel) rfl
theorem q_609 : (Jvm.Cond.methodLink "WaitedPostLaw" (17 : Nat) ({ cls := "WaitedPostModel", name := "write", desc := "(I)I" } : Jvm.MethodName)) ∈ xtbl := xq3 129 (by decide +kernel) rfl
theorem q_610 : (Jvm.Cond.instanceMethod ({ cls := "WaitedPostModel", name := "write", desc := "(I)I" } : Jvm.MethodName)) ∈ xtbl := xq3 130 (by decide +kernel) rfl
theorem q_611 : (Jvm.Cond.selects "WaitedPostModel" ({ cls := "WaitedPostModel", name := "write", desc := "(I)I" } : Jvm.MethodName) ({ cls := "WaitedPostModel", name := "write", desc := "(I)I" } : Jvm.MethodName)) ∈ xtbl := xq3 131 (by decide +kernel) rfl
theorem q_612 : (Jvm.Cond.code ({ cls := "WaitedPostModel", name := "write", desc := "(I)I" } : Jvm.MethodName) prog_7_method_6_code (2 : Nat) (Option.some Jvm.ClassFile.FieldType.int)) ∈ xtbl := xq3 132 (by decide +kernel) rfl
theorem q_613 : (Jvm.Cond.constantLong "WaitedPostModel" (48 : Nat) (255 : Int64)) ∈ xtbl := xq3 133 (by decide +kernel) rfl
theorem q_614 : (Jvm.Cond.methodLink "WaitedPostModel" (50 : Nat) ({ cls := "WaitedPostModel", name := "in", desc := "(JJJ)Z" } : Jvm.MethodName)) ∈ xtbl := xq3 134 (by decide +kernel) rfl
theorem q_615 : (Jvm.Cond.static ({ cls := "WaitedPostModel", name := "in", desc := "(JJJ)Z" } : Jvm.MethodName)) ∈ xtbl := xq3 135 (by decide +kernel) rfl
theorem q_616 : (Jvm.Cond.code ({ cls := "WaitedPostModel", name := "in", desc := "(JJJ)Z" } : Jvm.MethodName) prog_7_method_3_code (6 : Nat) (Option.some Jvm.ClassFile.FieldType.boolean)) ∈ xtbl := xq3 136 (by decide +kernel) rfl
theorem q_617 : (Jvm.Cond.methodLink "WaitedPostLaw" (22 : Nat) ({ cls := "WaitedPostModel", name := "wipe", desc := "()I" } : Jvm.MethodName)) ∈ xtbl := xq3 137 (by decide +kernel) rfl
theorem q_618 : (Jvm.Cond.instanceMethod ({ cls := "WaitedPostModel", name := "wipe", desc := "()I" } : Jvm.MethodName)) ∈ xtbl := xq3 138 (by decide +kernel) rfl
theorem q_619 : (Jvm.Cond.selects "WaitedPostModel" ({ cls := "WaitedPostModel", name := "wipe", desc := "()I" } : Jvm.MethodName) ({ cls := "WaitedPostModel", name := "wipe", desc := "()I" } : Jvm.MethodName)) ∈ xtbl := xq3 139 (by decide +kernel) rfl
theorem q_620 : (Jvm.Cond.code ({ cls := "WaitedPostModel", name := "wipe", desc := "()I" } : Jvm.MethodName) prog_7_method_7_code (2 : Nat) (Option.some Jvm.ClassFile.FieldType.int)) ∈ xtbl := xq3 140 (by decide +kernel) rfl
theorem q_621 : (Jvm.Cond.methodLink "WaitedPostLaw" (26 : Nat) ({ cls := "WaitedPostModel", name := "fault", desc := "()I" } : Jvm.MethodName)) ∈ xtbl := xq3 141 (by decide +kernel) rfl
theorem q_622 : (Jvm.Cond.instanceMethod ({ cls := "WaitedPostModel", name := "fault", desc := "()I" } : Jvm.MethodName)) ∈ xtbl := xq3 142 (by decide +kernel) rfl
theorem q_623 : (Jvm.Cond.selects "WaitedPostModel" ({ cls := "WaitedPostModel", name := "fault", desc := "()I" } : Jvm.MethodName) ({ cls := "WaitedPostModel", name := "fault", desc := "()I" } : Jvm.MethodName)) ∈ xtbl := xq3 143 (by decide +kernel) rfl
theorem q_624 : (Jvm.Cond.code ({ cls := "WaitedPostModel", name := "fault", desc := "()I" } : Jvm.MethodName) prog_7_method_13_code (1 : Nat) (Option.some Jvm.ClassFile.FieldType.int)) ∈ xtbl := xq3 144 (by decide +kernel) rfl
theorem q_625 : (Jvm.Cond.methodLink "WaitedPostModel" (93 : Nat) ({ cls := "WaitedPostModel", name := "readText", desc := "()I" } : Jvm.MethodName)) ∈ xtbl := xq3 145 (by decide +kernel) rfl
theorem q_627 : (Jvm.Cond.instanceMethod ({ cls := "WaitedPostModel", name := "readText", desc := "()I" } : Jvm.MethodName)) ∈ xtbl := xq3 147 (by decide +kernel) rfl
theorem q_628 : (Jvm.Cond.code ({ cls := "WaitedPostModel", name := "readText", desc := "()I" } : Jvm.MethodName) prog_7_method_12_code (3 : Nat) (Option.some Jvm.ClassFile.FieldType.int)) ∈ xtbl := xq3 148 (by decide +kernel) rfl
theorem q_629 : (Jvm.Cond.methodLink "WaitedPostModel" (76 : Nat) ({ cls := "WaitedPostModel", name := "figure", desc := "(II)I" } : Jvm.MethodName)) ∈ xtbl := xq3 149 (by decide +kernel) rfl
theorem q_631 : (Jvm.Cond.instanceMethod ({ cls := "WaitedPostModel", name := "figure", desc := "(II)I" } : Jvm.MethodName)) ∈ xtbl := xq3 151 (by decide +kernel) rfl
theorem q_632 : (Jvm.Cond.code ({ cls := "WaitedPostModel", name := "figure", desc := "(II)I" } : Jvm.MethodName) prog_7_method_8_code (4 : Nat) (Option.some Jvm.ClassFile.FieldType.int)) ∈ xtbl := xq3 152 (by decide +kernel) rfl
theorem q_633 : (Jvm.Cond.methodLink "WaitedPostModel" (86 : Nat) ({ cls := "WaitedPostModel", name := "firstsLeft", desc := "()I" } : Jvm.MethodName)) ∈ xtbl := xq3 153 (by decide +kernel) rfl
theorem q_635 : (Jvm.Cond.instanceMethod ({ cls := "WaitedPostModel", name := "firstsLeft", desc := "()I" } : Jvm.MethodName)) ∈ xtbl := xq3 155 (by decide +kernel) rfl
theorem q_636 : (Jvm.Cond.code ({ cls := "WaitedPostModel", name := "firstsLeft", desc := "()I" } : Jvm.MethodName) prog_7_method_11_code (3 : Nat) (Option.some Jvm.ClassFile.FieldType.int)) ∈ xtbl := xq3 156 (by decide +kernel) rfl
theorem q_637 : (Jvm.Cond.methodLink "WaitedPostModel" (72 : Nat) ({ cls := "WaitedPostModel", name := "left", desc := "(I)I" } : Jvm.MethodName)) ∈ xtbl := xq3 157 (by decide +kernel) rfl
theorem q_639 : (Jvm.Cond.instanceMethod ({ cls := "WaitedPostModel", name := "left", desc := "(I)I" } : Jvm.MethodName)) ∈ xtbl := xq3 159 (by decide +kernel) rfl
theorem q_640 : (Jvm.Cond.code ({ cls := "WaitedPostModel", name := "left", desc := "(I)I" } : Jvm.MethodName) prog_7_method_10_code (4 : Nat) (Option.some Jvm.ClassFile.FieldType.int)) ∈ xtbl := xq3 160 (by decide +kernel) rfl
theorem q_641 : (Jvm.Cond.methodLink "WaitedPostModel" (65 : Nat) ({ cls := "WaitedPostModel", name := "has", desc := "(II)Z" } : Jvm.MethodName)) ∈ xtbl := xq3 161 (by decide +kernel) rfl
theorem q_642 : (Jvm.Cond.static ({ cls := "WaitedPostModel", name := "has", desc := "(II)Z" } : Jvm.MethodName)) ∈ xtbl := xq3 162 (by decide +kernel) rfl
theorem q_643 : (Jvm.Cond.code ({ cls := "WaitedPostModel", name := "has", desc := "(II)Z" } : Jvm.MethodName) prog_7_method_4_code (2 : Nat) (Option.some Jvm.ClassFile.FieldType.boolean)) ∈ xtbl := xq3 163 (by decide +kernel) rfl
theorem q_644 : (Jvm.Cond.methodLink "WaitedPostModel" (90 : Nat) ({ cls := "WaitedPostModel", name := "figureOf", desc := "(I)I" } : Jvm.MethodName)) ∈ xtbl := xq3 164 (by decide +kernel) rfl
theorem q_646 : (Jvm.Cond.instanceMethod ({ cls := "WaitedPostModel", name := "figureOf", desc := "(I)I" } : Jvm.MethodName)) ∈ xtbl := xq3 166 (by decide +kernel) rfl
theorem q_647 : (Jvm.Cond.code ({ cls := "WaitedPostModel", name := "figureOf", desc := "(I)I" } : Jvm.MethodName) prog_7_method_9_code (3 : Nat) (Option.some Jvm.ClassFile.FieldType.int)) ∈ xtbl := xq3 167 (by decide +kernel) rfl
theorem q_648 : (Jvm.Cond.constantLong "WaitedPostModel" (63 : Nat) (9 : Int64)) ∈ xtbl := xq3 168 (by decide +kernel) rfl
theorem q_649 : (Jvm.Cond.methodLink "WaitedPostLaw" (30 : Nat) ({ cls := "WaitedPostModel", name := "post", desc := "()I" } : Jvm.MethodName)) ∈ xtbl := xq3 169 (by decide +kernel) rfl
theorem q_650 : (Jvm.Cond.instanceMethod ({ cls := "WaitedPostModel", name := "post", desc := "()I" } : Jvm.MethodName)) ∈ xtbl := xq3 170 (by decide +kernel) rfl
theorem q_651 : (Jvm.Cond.selects "WaitedPostModel" ({ cls := "WaitedPostModel", name := "post", desc := "()I" } : Jvm.MethodName) ({ cls := "WaitedPostModel", name := "post", desc := "()I" } : Jvm.MethodName)) ∈ xtbl := xq3 171 (by decide +kernel) rfl
theorem q_652 : (Jvm.Cond.code ({ cls := "WaitedPostModel", name := "post", desc := "()I" } : Jvm.MethodName) prog_7_method_14_code (2 : Nat) (Option.some Jvm.ClassFile.FieldType.int)) ∈ xtbl := xq3 172 (by decide +kernel) rfl
theorem q_653 : (Jvm.Cond.methodLink "WaitedPostLaw" (35 : Nat) ({ cls := "WaitedPostModel", name := "letter", desc := "(II)I" } : Jvm.MethodName)) ∈ xtbl := xq3 173 (by decide +kernel) rfl
theorem q_654 : (Jvm.Cond.instanceMethod ({ cls := "WaitedPostModel", name := "letter", desc := "(II)I" } : Jvm.MethodName)) ∈ xtbl := xq3 174 (by decide +kernel) rfl
theorem q_655 : (Jvm.Cond.selects "WaitedPostModel" ({ cls := "WaitedPostModel", name := "letter", desc := "(II)I" } : Jvm.MethodName) ({ cls := "WaitedPostModel", name := "letter", desc := "(II)I" } : Jvm.MethodName)) ∈ xtbl := xq3 175 (by decide +kernel) rfl
theorem q_656 : (Jvm.Cond.code ({ cls := "WaitedPostModel", name := "letter", desc := "(II)I" } : Jvm.MethodName) prog_7_method_19_code (3 : Nat) (Option.some Jvm.ClassFile.FieldType.int)) ∈ xtbl := xq3 176 (by decide +kernel) rfl
theorem q_657 : (Jvm.Cond.methodLink "WaitedPostModel" (112 : Nat) ({ cls := "WaitedPostModel", name := "isLetter", desc := "(I)Z" } : Jvm.MethodName)) ∈ xtbl := xq3 177 (by decide +kernel) rfl
theorem q_659 : (Jvm.Cond.instanceMethod ({ cls := "WaitedPostModel", name := "isLetter", desc := "(I)Z" } : Jvm.MethodName)) ∈ xtbl := xq3 179 (by decide +kernel) rfl
theorem q_660 : (Jvm.Cond.code ({ cls := "WaitedPostModel", name := "isLetter", desc := "(I)Z" } : Jvm.MethodName) prog_7_method_15_code (2 : Nat) (Option.some Jvm.ClassFile.FieldType.boolean)) ∈ xtbl := xq3 180 (by decide +kernel) rfl
theorem q_661 : (Jvm.Cond.methodLink "WaitedPostModel" (116 : Nat) ({ cls := "WaitedPostModel", name := "isSent", desc := "(II)Z" } : Jvm.MethodName)) ∈ xtbl := xq3 181 (by decide +kernel) rfl
theorem q_663 : (Jvm.Cond.instanceMethod ({ cls := "WaitedPostModel", name := "isSent", desc := "(II)Z" } : Jvm.MethodName)) ∈ xtbl := xq3 183 (by decide +kernel) rfl
theorem q_664 : (Jvm.Cond.code ({ cls := "WaitedPostModel", name := "isSent", desc := "(II)Z" } : Jvm.MethodName) prog_7_method_16_code (3 : Nat) (Option.some Jvm.ClassFile.FieldType.boolean)) ∈ xtbl := xq3 184 (by decide +kernel) rfl
theorem q_665 : (Jvm.Cond.methodLink "WaitedPostModel" (119 : Nat) ({ cls := "WaitedPostModel", name := "priceOn", desc := "(II)I" } : Jvm.MethodName)) ∈ xtbl := xq3 185 (by decide +kernel) rfl
theorem q_667 : (Jvm.Cond.instanceMethod ({ cls := "WaitedPostModel", name := "priceOn", desc := "(II)I" } : Jvm.MethodName)) ∈ xtbl := xq3 187 (by decide +kernel) rfl
theorem q_668 : (Jvm.Cond.code ({ cls := "WaitedPostModel", name := "priceOn", desc := "(II)I" } : Jvm.MethodName) prog_7_method_18_code (4 : Nat) (Option.some Jvm.ClassFile.FieldType.int)) ∈ xtbl := xq3 188 (by decide +kernel) rfl
theorem q_669 : (Jvm.Cond.methodLink "WaitedPostModel" (105 : Nat) ({ cls := "WaitedPostModel", name := "ones", desc := "(I)I" } : Jvm.MethodName)) ∈ xtbl := xq3 189 (by decide +kernel) rfl
theorem q_670 : (Jvm.Cond.static ({ cls := "WaitedPostModel", name := "ones", desc := "(I)I" } : Jvm.MethodName)) ∈ xtbl := xq3 190 (by decide +kernel) rfl
theorem q_671 : (Jvm.Cond.code ({ cls := "WaitedPostModel", name := "ones", desc := "(I)I" } : Jvm.MethodName) prog_7_method_5_code (3 : Nat) (Option.some Jvm.ClassFile.FieldType.int)) ∈ xtbl := xq3 191 (by decide +kernel) rfl
theorem q_672 : (Jvm.Cond.methodLink "WaitedPostModel" (108 : Nat) ({ cls := "WaitedPostModel", name := "priceBy", desc := "(IIZII)I" } : Jvm.MethodName)) ∈ xtbl := xq3 192 (by decide +kernel) rfl
theorem q_674 : (Jvm.Cond.instanceMethod ({ cls := "WaitedPostModel", name := "priceBy", desc := "(IIZII)I" } : Jvm.MethodName)) ∈ xtbl := xq3 194 (by decide +kernel) rfl
theorem q_675 : (Jvm.Cond.code ({ cls := "WaitedPostModel", name := "priceBy", desc := "(IIZII)I" } : Jvm.MethodName) prog_7_method_17_code (8 : Nat) (Option.some Jvm.ClassFile.FieldType.int)) ∈ xtbl := xq3 195 (by decide +kernel) rfl
theorem q_676 : (Jvm.Cond.methodLink "WaitedPostLaw" (39 : Nat) ({ cls := "WaitedPostModel", name := "send", desc := "(I)I" } : Jvm.MethodName)) ∈ xtbl := xq3 196 (by decide +kernel) rfl
theorem q_677 : (Jvm.Cond.instanceMethod ({ cls := "WaitedPostModel", name := "send", desc := "(I)I" } : Jvm.MethodName)) ∈ xtbl := xq3 197 (by decide +kernel) rfl
theorem q_678 : (Jvm.Cond.selects "WaitedPostModel" ({ cls := "WaitedPostModel", name := "send", desc := "(I)I" } : Jvm.MethodName) ({ cls := "WaitedPostModel", name := "send", desc := "(I)I" } : Jvm.MethodName)) ∈ xtbl := xq3 198 (by decide +kernel) rfl
theorem q_679 : (Jvm.Cond.code ({ cls := "WaitedPostModel", name := "send", desc := "(I)I" } : Jvm.MethodName) prog_7_method_24_code (2 : Nat) (Option.some Jvm.ClassFile.FieldType.int)) ∈ xtbl := xq3 199 (by decide +kernel) rfl
theorem q_680 : (Jvm.Cond.methodLink "WaitedPostModel" (125 : Nat) ({ cls := "WaitedPostModel", name := "keepAct", desc := "()V" } : Jvm.MethodName)) ∈ xtbl := xq3 200 (by decide +kernel) rfl
theorem q_682 : (Jvm.Cond.instanceMethod ({ cls := "WaitedPostModel", name := "keepAct", desc := "()V" } : Jvm.MethodName)) ∈ xtbl := xq3 202 (by decide +kernel) rfl
theorem q_683 : (Jvm.Cond.code ({ cls := "WaitedPostModel", name := "keepAct", desc := "()V" } : Jvm.MethodName) prog_7_method_23_code (2 : Nat) (Option.none : Option Jvm.ClassFile.FieldType)) ∈ xtbl := xq3 203 (by decide +kernel) rfl
theorem q_684 : (Jvm.Cond.methodLink "WaitedPostModel" (128 : Nat) ({ cls := "WaitedPostModel", name := "sendOn", desc := "(II)I" } : Jvm.MethodName)) ∈ xtbl := xq3 204 (by decide +kernel) rfl
theorem q_686 : (Jvm.Cond.instanceMethod ({ cls := "WaitedPostModel", name := "sendOn", desc := "(II)I" } : Jvm.MethodName)) ∈ xtbl := xq3 206 (by decide +kernel) rfl
theorem q_687 : (Jvm.Cond.code ({ cls := "WaitedPostModel", name := "sendOn", desc := "(II)I" } : Jvm.MethodName) prog_7_method_21_code (5 : Nat) (Option.some Jvm.ClassFile.FieldType.int)) ∈ xtbl := xq3 207 (by decide +kernel) rfl
theorem q_688 : (Jvm.Cond.methodLink "WaitedPostLaw" (43 : Nat) ({ cls := "WaitedPostModel", name := "day", desc := "()I" } : Jvm.MethodName)) ∈ xtbl := xq3 208 (by decide +kernel) rfl
theorem q_689 : (Jvm.Cond.instanceMethod ({ cls := "WaitedPostModel", name := "day", desc := "()I" } : Jvm.MethodName)) ∈ xtbl := xq3 209 (by decide +kernel) rfl
theorem q_690 : (Jvm.Cond.selects "WaitedPostModel" ({ cls := "WaitedPostModel", name := "day", desc := "()I" } : Jvm.MethodName) ({ cls := "WaitedPostModel", name := "day", desc := "()I" } : Jvm.MethodName)) ∈ xtbl := xq3 210 (by decide +kernel) rfl
theorem q_691 : (Jvm.Cond.code ({ cls := "WaitedPostModel", name := "day", desc := "()I" } : Jvm.MethodName) prog_7_method_25_code (1 : Nat) (Option.some Jvm.ClassFile.FieldType.int)) ∈ xtbl := xq3 211 (by decide +kernel) rfl
theorem q_692 : (Jvm.Cond.methodLink "WaitedPostModel" (131 : Nat) ({ cls := "WaitedPostModel", name := "passOn", desc := "(I)V" } : Jvm.MethodName)) ∈ xtbl := xq3 212 (by decide +kernel) rfl
theorem q_694 : (Jvm.Cond.instanceMethod ({ cls := "WaitedPostModel", name := "passOn", desc := "(I)V" } : Jvm.MethodName)) ∈ xtbl := xq3 214 (by decide +kernel) rfl
theorem q_695 : (Jvm.Cond.code ({ cls := "WaitedPostModel", name := "passOn", desc := "(I)V" } : Jvm.MethodName) prog_7_method_22_code (4 : Nat) (Option.none : Option Jvm.ClassFile.FieldType)) ∈ xtbl := xq3 215 (by decide +kernel) rfl
theorem q_696 : (Jvm.Cond.methodLink "WaitedPostLaw" (47 : Nat) ({ cls := "WaitedPostModel", name := "tear", desc := "(I)I" } : Jvm.MethodName)) ∈ xtbl := xq3 216 (by decide +kernel) rfl
theorem q_697 : (Jvm.Cond.instanceMethod ({ cls := "WaitedPostModel", name := "tear", desc := "(I)I" } : Jvm.MethodName)) ∈ xtbl := xq3 217 (by decide +kernel) rfl
theorem q_698 : (Jvm.Cond.selects "WaitedPostModel" ({ cls := "WaitedPostModel", name := "tear", desc := "(I)I" } : Jvm.MethodName) ({ cls := "WaitedPostModel", name := "tear", desc := "(I)I" } : Jvm.MethodName)) ∈ xtbl := xq3 218 (by decide +kernel) rfl
theorem q_699 : (Jvm.Cond.code ({ cls := "WaitedPostModel", name := "tear", desc := "(I)I" } : Jvm.MethodName) prog_7_method_26_code (3 : Nat) (Option.some Jvm.ClassFile.FieldType.int)) ∈ xtbl := xq3 219 (by decide +kernel) rfl
theorem q_700 : (Jvm.Cond.methodLink "WaitedPostLaw" (51 : Nat) ({ cls := "WaitedPostModel", name := "card", desc := "(I)I" } : Jvm.MethodName)) ∈ xtbl := xq3 220 (by decide +kernel) rfl
theorem q_701 : (Jvm.Cond.instanceMethod ({ cls := "WaitedPostModel", name := "card", desc := "(I)I" } : Jvm.MethodName)) ∈ xtbl := xq3 221 (by decide +kernel) rfl
theorem q_702 : (Jvm.Cond.selects "WaitedPostModel" ({ cls := "WaitedPostModel", name := "card", desc := "(I)I" } : Jvm.MethodName) ({ cls := "WaitedPostModel", name := "card", desc := "(I)I" } : Jvm.MethodName)) ∈ xtbl := xq3 222 (by decide +kernel) rfl
theorem q_703 : (Jvm.Cond.code ({ cls := "WaitedPostModel", name := "card", desc := "(I)I" } : Jvm.MethodName) prog_7_method_27_code (2 : Nat) (Option.some Jvm.ClassFile.FieldType.int)) ∈ xtbl := xq3 223 (by decide +kernel) rfl
theorem q_704 : (Jvm.Cond.methodLink "WaitedPostLaw" (55 : Nat) ({ cls := "WaitedPostModel", name := "undo", desc := "()I" } : Jvm.MethodName)) ∈ xtbl := xq3 224 (by decide +kernel) rfl
theorem q_705 : (Jvm.Cond.instanceMethod ({ cls := "WaitedPostModel", name := "undo", desc := "()I" } : Jvm.MethodName)) ∈ xtbl := xq3 225 (by decide +kernel) rfl
theorem q_706 : (Jvm.Cond.selects "WaitedPostModel" ({ cls := "WaitedPostModel", name := "undo", desc := "()I" } : Jvm.MethodName) ({ cls := "WaitedPostModel", name := "undo", desc := "()I" } : Jvm.MethodName)) ∈ xtbl := xq3 226 (by decide +kernel) rfl
theorem q_707 : (Jvm.Cond.code ({ cls := "WaitedPostModel", name := "undo", desc := "()I" } : Jvm.MethodName) prog_7_method_28_code (2 : Nat) (Option.some Jvm.ClassFile.FieldType.int)) ∈ xtbl := xq3 227 (by decide +kernel) rfl
theorem q_708 : (Jvm.Cond.methodLink "WaitedPostLaw" (59 : Nat) ({ cls := "WaitedPostModel", name := "price", desc := "(II)I" } : Jvm.MethodName)) ∈ xtbl := xq3 228 (by decide +kernel) rfl
theorem q_709 : (Jvm.Cond.instanceMethod ({ cls := "WaitedPostModel", name := "price", desc := "(II)I" } : Jvm.MethodName)) ∈ xtbl := xq3 229 (by decide +kernel) rfl
theorem q_710 : (Jvm.Cond.selects "WaitedPostModel" ({ cls := "WaitedPostModel", name := "price", desc := "(II)I" } : Jvm.MethodName) ({ cls := "WaitedPostModel", name := "price", desc := "(II)I" } : Jvm.MethodName)) ∈ xtbl := xq3 230 (by decide +kernel) rfl
theorem q_711 : (Jvm.Cond.code ({ cls := "WaitedPostModel", name := "price", desc := "(II)I" } : Jvm.MethodName) prog_7_method_31_code (3 : Nat) (Option.some Jvm.ClassFile.FieldType.int)) ∈ xtbl := xq3 231 (by decide +kernel) rfl
theorem q_712 : (Jvm.Cond.methodLink "WaitedPostModel" (138 : Nat) ({ cls := "WaitedPostModel", name := "priceIn", desc := "(II)I" } : Jvm.MethodName)) ∈ xtbl := xq3 232 (by decide +kernel) rfl
theorem q_714 : (Jvm.Cond.instanceMethod ({ cls := "WaitedPostModel", name := "priceIn", desc := "(II)I" } : Jvm.MethodName)) ∈ xtbl := xq3 234 (by decide +kernel) rfl
theorem q_715 : (Jvm.Cond.code ({ cls := "WaitedPostModel", name := "priceIn", desc := "(II)I" } : Jvm.MethodName) prog_7_method_30_code (4 : Nat) (Option.some Jvm.ClassFile.FieldType.int)) ∈ xtbl := xq3 235 (by decide +kernel) rfl
theorem q_716 : (Jvm.Cond.methodLink "WaitedPostModel" (135 : Nat) ({ cls := "WaitedPostModel", name := "layTrial", desc := "()V" } : Jvm.MethodName)) ∈ xtbl := xq3 236 (by decide +kernel) rfl
theorem q_718 : (Jvm.Cond.instanceMethod ({ cls := "WaitedPostModel", name := "layTrial", desc := "()V" } : Jvm.MethodName)) ∈ xtbl := xq3 238 (by decide +kernel) rfl
theorem q_719 : (Jvm.Cond.code ({ cls := "WaitedPostModel", name := "layTrial", desc := "()V" } : Jvm.MethodName) prog_7_method_29_code (2 : Nat) (Option.none : Option Jvm.ClassFile.FieldType)) ∈ xtbl := xq3 239 (by decide +kernel) rfl
theorem q_720 : (Jvm.Cond.methodLink "WaitedPostLaw" (63 : Nat) ({ cls := "WaitedPostModel", name := "cheapest", desc := "(I)I" } : Jvm.MethodName)) ∈ xtbl := xq4 0 (by decide +kernel) rfl
theorem q_721 : (Jvm.Cond.instanceMethod ({ cls := "WaitedPostModel", name := "cheapest", desc := "(I)I" } : Jvm.MethodName)) ∈ xtbl := xq4 1 (by decide +kernel) rfl
theorem q_722 : (Jvm.Cond.selects "WaitedPostModel" ({ cls := "WaitedPostModel", name := "cheapest", desc := "(I)I" } : Jvm.MethodName) ({ cls := "WaitedPostModel", name := "cheapest", desc := "(I)I" } : Jvm.MethodName)) ∈ xtbl := xq4 2 (by decide +kernel) rfl
theorem q_723 : (Jvm.Cond.code ({ cls := "WaitedPostModel", name := "cheapest", desc := "(I)I" } : Jvm.MethodName) prog_7_method_32_code (4 : Nat) (Option.some Jvm.ClassFile.FieldType.int)) ∈ xtbl := xq4 3 (by decide +kernel) rfl
theorem q_724 : (Jvm.Cond.methodLink "WaitedPostLaw" (68 : Nat) ({ cls := "WaitedPostModel", name := "plan", desc := "(IZ)I" } : Jvm.MethodName)) ∈ xtbl := xq4 4 (by decide +kernel) rfl
theorem q_725 : (Jvm.Cond.instanceMethod ({ cls := "WaitedPostModel", name := "plan", desc := "(IZ)I" } : Jvm.MethodName)) ∈ xtbl := xq4 5 (by decide +kernel) rfl
theorem q_726 : (Jvm.Cond.selects "WaitedPostModel" ({ cls := "WaitedPostModel", name := "plan", desc := "(IZ)I" } : Jvm.MethodName) ({ cls := "WaitedPostModel", name := "plan", desc := "(IZ)I" } : Jvm.MethodName)) ∈ xtbl := xq4 6 (by decide +kernel) rfl
theorem q_727 : (Jvm.Cond.code ({ cls := "WaitedPostModel", name := "plan", desc := "(IZ)I" } : Jvm.MethodName) prog_7_method_37_code (6 : Nat) (Option.some Jvm.ClassFile.FieldType.int)) ∈ xtbl := xq4 7 (by decide +kernel) rfl
theorem q_728 : (Jvm.Cond.methodLink "WaitedPostModel" (157 : Nat) ({ cls := "WaitedPostModel", name := "leastOf", desc := "(I)I" } : Jvm.MethodName)) ∈ xtbl := xq4 8 (by decide +kernel) rfl
theorem q_730 : (Jvm.Cond.instanceMethod ({ cls := "WaitedPostModel", name := "leastOf", desc := "(I)I" } : Jvm.MethodName)) ∈ xtbl := xq4 10 (by decide +kernel) rfl
theorem q_731 : (Jvm.Cond.code ({ cls := "WaitedPostModel", name := "leastOf", desc := "(I)I" } : Jvm.MethodName) prog_7_method_36_code (5 : Nat) (Option.some Jvm.ClassFile.FieldType.int)) ∈ xtbl := xq4 11 (by decide +kernel) rfl
theorem q_732 : (Jvm.Cond.methodLink "WaitedPostModel" (141 : Nat) ({ cls := "WaitedPostModel", name := "fours", desc := "(I)I" } : Jvm.MethodName)) ∈ xtbl := xq4 12 (by decide +kernel) rfl
theorem q_733 : (Jvm.Cond.static ({ cls := "WaitedPostModel", name := "fours", desc := "(I)I" } : Jvm.MethodName)) ∈ xtbl := xq4 13 (by decide +kernel) rfl
theorem q_734 : (Jvm.Cond.code ({ cls := "WaitedPostModel", name := "fours", desc := "(I)I" } : Jvm.MethodName) prog_7_method_33_code (1 : Nat) (Option.some Jvm.ClassFile.FieldType.int)) ∈ xtbl := xq4 14 (by decide +kernel) rfl
theorem q_735 : (Jvm.Cond.methodLink "WaitedPostModel" (154 : Nat) ({ cls := "WaitedPostModel", name := "paidBy", desc := "(II)I" } : Jvm.MethodName)) ∈ xtbl := xq4 15 (by decide +kernel) rfl
theorem q_737 : (Jvm.Cond.instanceMethod ({ cls := "WaitedPostModel", name := "paidBy", desc := "(II)I" } : Jvm.MethodName)) ∈ xtbl := xq4 17 (by decide +kernel) rfl
theorem q_738 : (Jvm.Cond.code ({ cls := "WaitedPostModel", name := "paidBy", desc := "(II)I" } : Jvm.MethodName) prog_7_method_35_code (8 : Nat) (Option.some Jvm.ClassFile.FieldType.int)) ∈ xtbl := xq4 18 (by decide +kernel) rfl
theorem q_739 : (Jvm.Cond.methodLink "WaitedPostModel" (144 : Nat) ({ cls := "WaitedPostModel", name := "dayOf", desc := "(III)I" } : Jvm.MethodName)) ∈ xtbl := xq4 19 (by decide +kernel) rfl
theorem q_740 : (Jvm.Cond.static ({ cls := "WaitedPostModel", name := "dayOf", desc := "(III)I" } : Jvm.MethodName)) ∈ xtbl := xq4 20 (by decide +kernel) rfl
theorem q_741 : (Jvm.Cond.code ({ cls := "WaitedPostModel", name := "dayOf", desc := "(III)I" } : Jvm.MethodName) prog_7_method_34_code (3 : Nat) (Option.some Jvm.ClassFile.FieldType.int)) ∈ xtbl := xq4 21 (by decide +kernel) rfl
theorem q_742 : (Jvm.Cond.methodLink "WaitedPostModel" (148 : Nat) ({ cls := "WaitedPostModel", name := "canSend", desc := "(II)Z" } : Jvm.MethodName)) ∈ xtbl := xq4 22 (by decide +kernel) rfl
theorem q_744 : (Jvm.Cond.instanceMethod ({ cls := "WaitedPostModel", name := "canSend", desc := "(II)Z" } : Jvm.MethodName)) ∈ xtbl := xq4 24 (by decide +kernel) rfl
theorem q_745 : (Jvm.Cond.code ({ cls := "WaitedPostModel", name := "canSend", desc := "(II)Z" } : Jvm.MethodName) prog_7_method_20_code (3 : Nat) (Option.some Jvm.ClassFile.FieldType.boolean)) ∈ xtbl := xq4 25 (by decide +kernel) rfl
theorem q_746 : (Jvm.Cond.methodLink "WaitedPostLaw" (72 : Nat) ({ cls := "WaitedPostModel", name := "order", desc := "()I" } : Jvm.MethodName)) ∈ xtbl := xq4 26 (by decide +kernel) rfl
theorem q_747 : (Jvm.Cond.instanceMethod ({ cls := "WaitedPostModel", name := "order", desc := "()I" } : Jvm.MethodName)) ∈ xtbl := xq4 27 (by decide +kernel) rfl
theorem q_748 : (Jvm.Cond.selects "WaitedPostModel" ({ cls := "WaitedPostModel", name := "order", desc := "()I" } : Jvm.MethodName) ({ cls := "WaitedPostModel", name := "order", desc := "()I" } : Jvm.MethodName)) ∈ xtbl := xq4 28 (by decide +kernel) rfl
theorem q_749 : (Jvm.Cond.code ({ cls := "WaitedPostModel", name := "order", desc := "()I" } : Jvm.MethodName) prog_7_method_38_code (5 : Nat) (Option.some Jvm.ClassFile.FieldType.int)) ∈ xtbl := xq4 29 (by decide +kernel) rfl
theorem q_750 : (Jvm.Cond.methodLink "WaitedPostLaw" (76 : Nat) ({ cls := "WaitedPostModel", name := "judge", desc := "(II)I" } : Jvm.MethodName)) ∈ xtbl := xq4 30 (by decide +kernel) rfl
theorem q_751 : (Jvm.Cond.instanceMethod ({ cls := "WaitedPostModel", name := "judge", desc := "(II)I" } : Jvm.MethodName)) ∈ xtbl := xq4 31 (by decide +kernel) rfl
theorem q_752 : (Jvm.Cond.selects "WaitedPostModel" ({ cls := "WaitedPostModel", name := "judge", desc := "(II)I" } : Jvm.MethodName) ({ cls := "WaitedPostModel", name := "judge", desc := "(II)I" } : Jvm.MethodName)) ∈ xtbl := xq4 32 (by decide +kernel) rfl
theorem q_753 : (Jvm.Cond.code ({ cls := "WaitedPostModel", name := "judge", desc := "(II)I" } : Jvm.MethodName) prog_7_method_42_code (4 : Nat) (Option.some Jvm.ClassFile.FieldType.int)) ∈ xtbl := xq4 33 (by decide +kernel) rfl
theorem q_754 : (Jvm.Cond.methodLink "WaitedPostModel" (165 : Nat) ({ cls := "WaitedPostModel", name := "areThings", desc := "(II)Z" } : Jvm.MethodName)) ∈ xtbl := xq4 34 (by decide +kernel) rfl
theorem q_756 : (Jvm.Cond.instanceMethod ({ cls := "WaitedPostModel", name := "areThings", desc := "(II)Z" } : Jvm.MethodName)) ∈ xtbl := xq4 36 (by decide +kernel) rfl
theorem q_757 : (Jvm.Cond.code ({ cls := "WaitedPostModel", name := "areThings", desc := "(II)Z" } : Jvm.MethodName) prog_7_method_41_code (3 : Nat) (Option.some Jvm.ClassFile.FieldType.boolean)) ∈ xtbl := xq4 37 (by decide +kernel) rfl
theorem q_758 : (Jvm.Cond.constantLong "WaitedPostModel" (160 : Nat) (6 : Int64)) ∈ xtbl := xq4 38 (by decide +kernel) rfl
theorem q_759 : (Jvm.Cond.methodLink "WaitedPostModel" (162 : Nat) ({ cls := "WaitedPostModel", name := "tenTo", desc := "(I)I" } : Jvm.MethodName)) ∈ xtbl := xq4 39 (by decide +kernel) rfl
theorem q_760 : (Jvm.Cond.static ({ cls := "WaitedPostModel", name := "tenTo", desc := "(I)I" } : Jvm.MethodName)) ∈ xtbl := xq4 40 (by decide +kernel) rfl
theorem q_761 : (Jvm.Cond.code ({ cls := "WaitedPostModel", name := "tenTo", desc := "(I)I" } : Jvm.MethodName) prog_7_method_39_code (3 : Nat) (Option.some Jvm.ClassFile.FieldType.int)) ∈ xtbl := xq4 41 (by decide +kernel) rfl
theorem q_762 : (Jvm.Cond.methodLink "WaitedPostModel" (168 : Nat) ({ cls := "WaitedPostModel", name := "tryThing", desc := "(I)Z" } : Jvm.MethodName)) ∈ xtbl := xq4 42 (by decide +kernel) rfl
theorem q_764 : (Jvm.Cond.instanceMethod ({ cls := "WaitedPostModel", name := "tryThing", desc := "(I)Z" } : Jvm.MethodName)) ∈ xtbl := xq4 44 (by decide +kernel) rfl
theorem q_765 : (Jvm.Cond.code ({ cls := "WaitedPostModel", name := "tryThing", desc := "(I)Z" } : Jvm.MethodName) prog_7_method_40_code (2 : Nat) (Option.some Jvm.ClassFile.FieldType.boolean)) ∈ xtbl := xq4 45 (by decide +kernel) rfl
theorem q_766 : (Jvm.Cond.methodLink "WaitedPostLaw" (80 : Nat) ({ cls := "WaitedPostModel", name := "cost", desc := "(II)I" } : Jvm.MethodName)) ∈ xtbl := xq4 46 (by decide +kernel) rfl
theorem q_767 : (Jvm.Cond.instanceMethod ({ cls := "WaitedPostModel", name := "cost", desc := "(II)I" } : Jvm.MethodName)) ∈ xtbl := xq4 47 (by decide +kernel) rfl
theorem q_768 : (Jvm.Cond.selects "WaitedPostModel" ({ cls := "WaitedPostModel", name := "cost", desc := "(II)I" } : Jvm.MethodName) ({ cls := "WaitedPostModel", name := "cost", desc := "(II)I" } : Jvm.MethodName)) ∈ xtbl := xq4 48 (by decide +kernel) rfl
theorem q_769 : (Jvm.Cond.code ({ cls := "WaitedPostModel", name := "cost", desc := "(II)I" } : Jvm.MethodName) prog_7_method_43_code (4 : Nat) (Option.some Jvm.ClassFile.FieldType.int)) ∈ xtbl := xq4 49 (by decide +kernel) rfl
theorem q_770 : (Jvm.Cond.methodLink "WaitedPostLaw" (84 : Nat) ({ cls := "WaitedPostModel", name := "waits", desc := "(II)I" } : Jvm.MethodName)) ∈ xtbl := xq4 50 (by decide +kernel) rfl
theorem q_771 : (Jvm.Cond.instanceMethod ({ cls := "WaitedPostModel", name := "waits", desc := "(II)I" } : Jvm.MethodName)) ∈ xtbl := xq4 51 (by decide +kernel) rfl
theorem q_772 : (Jvm.Cond.selects "WaitedPostModel" ({ cls := "WaitedPostModel", name := "waits", desc := "(II)I" } : Jvm.MethodName) ({ cls := "WaitedPostModel", name := "waits", desc := "(II)I" } : Jvm.MethodName)) ∈ xtbl := xq4 52 (by decide +kernel) rfl
theorem q_773 : (Jvm.Cond.code ({ cls := "WaitedPostModel", name := "waits", desc := "(II)I" } : Jvm.MethodName) prog_7_method_44_code (6 : Nat) (Option.some Jvm.ClassFile.FieldType.int)) ∈ xtbl := xq4 53 (by decide +kernel) rfl
theorem q_774 : (Jvm.Cond.constantLong "WaitedPostModel" (171 : Nat) (60 : Int64)) ∈ xtbl := xq4 54 (by decide +kernel) rfl
theorem q_775 : (Jvm.Cond.methodLink "WaitedPostLaw" (89 : Nat) ({ cls := "WaitedPostModel", name := "who", desc := "(III)I" } : Jvm.MethodName)) ∈ xtbl := xq4 55 (by decide +kernel) rfl
theorem q_776 : (Jvm.Cond.instanceMethod ({ cls := "WaitedPostModel", name := "who", desc := "(III)I" } : Jvm.MethodName)) ∈ xtbl := xq4 56 (by decide +kernel) rfl
theorem q_777 : (Jvm.Cond.selects "WaitedPostModel" ({ cls := "WaitedPostModel", name := "who", desc := "(III)I" } : Jvm.MethodName) ({ cls := "WaitedPostModel", name := "who", desc := "(III)I" } : Jvm.MethodName)) ∈ xtbl := xq4 57 (by decide +kernel) rfl
theorem q_778 : (Jvm.Cond.code ({ cls := "WaitedPostModel", name := "who", desc := "(III)I" } : Jvm.MethodName) prog_7_method_46_code (8 : Nat) (Option.some Jvm.ClassFile.FieldType.int)) ∈ xtbl := xq4 58 (by decide +kernel) rfl
theorem q_779 : (Jvm.Cond.constantLong "WaitedPostModel" (173 : Nat) (2 : Int64)) ∈ xtbl := xq4 59 (by decide +kernel) rfl
theorem q_780 : (Jvm.Cond.methodLink "WaitedPostModel" (175 : Nat) ({ cls := "WaitedPostModel", name := "priceWith", desc := "(II)I" } : Jvm.MethodName)) ∈ xtbl := xq4 60 (by decide +kernel) rfl
theorem q_782 : (Jvm.Cond.instanceMethod ({ cls := "WaitedPostModel", name := "priceWith", desc := "(II)I" } : Jvm.MethodName)) ∈ xtbl := xq4 62 (by decide +kernel) rfl
theorem q_783 : (Jvm.Cond.code ({ cls := "WaitedPostModel", name := "priceWith", desc := "(II)I" } : Jvm.MethodName) prog_7_method_45_code (3 : Nat) (Option.some Jvm.ClassFile.FieldType.int)) ∈ xtbl := xq4 63 (by decide +kernel) rfl
theorem q_784 : (Jvm.Cond.methodLink "WaitedPostLaw" (93 : Nat) ({ cls := "WaitedPostModel", name := "share", desc := "(IZ)I" } : Jvm.MethodName)) ∈ xtbl := xq4 64 (by decide +kernel) rfl
theorem q_785 : (Jvm.Cond.instanceMethod ({ cls := "WaitedPostModel", name := "share", desc := "(IZ)I" } : Jvm.MethodName)) ∈ xtbl := xq4 65 (by decide +kernel) rfl
theorem q_786 : (Jvm.Cond.selects "WaitedPostModel" ({ cls := "WaitedPostModel", name := "share", desc := "(IZ)I" } : Jvm.MethodName) ({ cls := "WaitedPostModel", name := "share", desc := "(IZ)I" } : Jvm.MethodName)) ∈ xtbl := xq4 66 (by decide +kernel) rfl
theorem q_787 : (Jvm.Cond.code ({ cls := "WaitedPostModel", name := "share", desc := "(IZ)I" } : Jvm.MethodName) prog_7_method_49_code (7 : Nat) (Option.some Jvm.ClassFile.FieldType.int)) ∈ xtbl := xq4 67 (by decide +kernel) rfl
theorem q_788 : (Jvm.Cond.methodLink "WaitedPostModel" (178 : Nat) ({ cls := "WaitedPostModel", name := "factorial", desc := "(I)I" } : Jvm.MethodName)) ∈ xtbl := xq4 68 (by decide +kernel) rfl
theorem q_789 : (Jvm.Cond.static ({ cls := "WaitedPostModel", name := "factorial", desc := "(I)I" } : Jvm.MethodName)) ∈ xtbl := xq4 69 (by decide +kernel) rfl
theorem q_790 : (Jvm.Cond.code ({ cls := "WaitedPostModel", name := "factorial", desc := "(I)I" } : Jvm.MethodName) prog_7_method_47_code (3 : Nat) (Option.some Jvm.ClassFile.FieldType.int)) ∈ xtbl := xq4 70 (by decide +kernel) rfl
theorem q_791 : (Jvm.Cond.methodLink "WaitedPostModel" (181 : Nat) ({ cls := "WaitedPostModel", name := "common", desc := "(II)I" } : Jvm.MethodName)) ∈ xtbl := xq4 71 (by decide +kernel) rfl
theorem q_792 : (Jvm.Cond.static ({ cls := "WaitedPostModel", name := "common", desc := "(II)I" } : Jvm.MethodName)) ∈ xtbl := xq4 72 (by decide +kernel) rfl
theorem q_793 : (Jvm.Cond.code ({ cls := "WaitedPostModel", name := "common", desc := "(II)I" } : Jvm.MethodName) prog_7_method_48_code (5 : Nat) (Option.some Jvm.ClassFile.FieldType.int)) ∈ xtbl := xq4 73 (by decide +kernel) rfl
theorem q_794 : (Jvm.Cond.methodLink "WaitedPostLaw" (97 : Nat) ({ cls := "WaitedPostModel", name := "rests", desc := "(III)I" } : Jvm.MethodName)) ∈ xtbl := xq4 74 (by decide +kernel) rfl
theorem q_795 : (Jvm.Cond.instanceMethod ({ cls := "WaitedPostModel", name := "rests", desc := "(III)I" } : Jvm.MethodName)) ∈ xtbl := xq4 75 (by decide +kernel) rfl
theorem q_796 : (Jvm.Cond.selects "WaitedPostModel" ({ cls := "WaitedPostModel", name := "rests", desc := "(III)I" } : Jvm.MethodName) ({ cls := "WaitedPostModel", name := "rests", desc := "(III)I" } : Jvm.MethodName)) ∈ xtbl := xq4 76 (by decide +kernel) rfl
theorem q_797 : (Jvm.Cond.code ({ cls := "WaitedPostModel", name := "rests", desc := "(III)I" } : Jvm.MethodName) prog_7_method_52_code (7 : Nat) (Option.some Jvm.ClassFile.FieldType.int)) ∈ xtbl := xq4 77 (by decide +kernel) rfl
theorem q_798 : (Jvm.Cond.methodLink "WaitedPostModel" (188 : Nat) ({ cls := "WaitedPostModel", name := "isRest", desc := "(IIII)Z" } : Jvm.MethodName)) ∈ xtbl := xq4 78 (by decide +kernel) rfl
theorem q_800 : (Jvm.Cond.instanceMethod ({ cls := "WaitedPostModel", name := "isRest", desc := "(IIII)Z" } : Jvm.MethodName)) ∈ xtbl := xq4 80 (by decide +kernel) rfl
theorem q_801 : (Jvm.Cond.code ({ cls := "WaitedPostModel", name := "isRest", desc := "(IIII)Z" } : Jvm.MethodName) prog_7_method_51_code (7 : Nat) (Option.some Jvm.ClassFile.FieldType.boolean)) ∈ xtbl := xq4 81 (by decide +kernel) rfl
theorem q_802 : (Jvm.Cond.methodLink "WaitedPostModel" (184 : Nat) ({ cls := "WaitedPostModel", name := "paysIf", desc := "(IIII)I" } : Jvm.MethodName)) ∈ xtbl := xq4 82 (by decide +kernel) rfl
theorem q_804 : (Jvm.Cond.instanceMethod ({ cls := "WaitedPostModel", name := "paysIf", desc := "(IIII)I" } : Jvm.MethodName)) ∈ xtbl := xq4 84 (by decide +kernel) rfl
theorem q_805 : (Jvm.Cond.code ({ cls := "WaitedPostModel", name := "paysIf", desc := "(IIII)I" } : Jvm.MethodName) prog_7_method_50_code (7 : Nat) (Option.some Jvm.ClassFile.FieldType.int)) ∈ xtbl := xq4 85 (by decide +kernel) rfl
theorem q_806 : (Jvm.Cond.methodLink "WaitedPostLaw" (102 : Nat) ({ cls := "WaitedPostModel", name := "lost", desc := "(IIIZ)I" } : Jvm.MethodName)) ∈ xtbl := xq4 86 (by decide +kernel) rfl
theorem q_807 : (Jvm.Cond.instanceMethod ({ cls := "WaitedPostModel", name := "lost", desc := "(IIIZ)I" } : Jvm.MethodName)) ∈ xtbl := xq4 87 (by decide +kernel) rfl
theorem q_808 : (Jvm.Cond.selects "WaitedPostModel" ({ cls := "WaitedPostModel", name := "lost", desc := "(IIIZ)I" } : Jvm.MethodName) ({ cls := "WaitedPostModel", name := "lost", desc := "(IIIZ)I" } : Jvm.MethodName)) ∈ xtbl := xq4 88 (by decide +kernel) rfl
theorem q_809 : (Jvm.Cond.code ({ cls := "WaitedPostModel", name := "lost", desc := "(IIIZ)I" } : Jvm.MethodName) prog_7_method_54_code (10 : Nat) (Option.some Jvm.ClassFile.FieldType.int)) ∈ xtbl := xq4 89 (by decide +kernel) rfl
theorem q_810 : (Jvm.Cond.constantLong "WaitedPostModel" (192 : Nat) (10 : Int64)) ∈ xtbl := xq4 90 (by decide +kernel) rfl
theorem q_811 : (Jvm.Cond.methodLink "WaitedPostModel" (194 : Nat) ({ cls := "WaitedPostModel", name := "power", desc := "(II)I" } : Jvm.MethodName)) ∈ xtbl := xq4 91 (by decide +kernel) rfl
theorem q_812 : (Jvm.Cond.static ({ cls := "WaitedPostModel", name := "power", desc := "(II)I" } : Jvm.MethodName)) ∈ xtbl := xq4 92 (by decide +kernel) rfl
theorem q_813 : (Jvm.Cond.code ({ cls := "WaitedPostModel", name := "power", desc := "(II)I" } : Jvm.MethodName) prog_7_method_53_code (4 : Nat) (Option.some Jvm.ClassFile.FieldType.int)) ∈ xtbl := xq4 93 (by decide +kernel) rfl
theorem q_814 : (Jvm.Cond.methodLink "WaitedPostLaw" (109 : Nat) ({ cls := "WaitedPostModel", name := "seed", desc := "(J)J" } : Jvm.MethodName)) ∈ xtbl := xq4 94 (by decide +kernel) rfl
theorem q_815 : (Jvm.Cond.instanceMethod ({ cls := "WaitedPostModel", name := "seed", desc := "(J)J" } : Jvm.MethodName)) ∈ xtbl := xq4 95 (by decide +kernel) rfl
theorem q_816 : (Jvm.Cond.selects "WaitedPostModel" ({ cls := "WaitedPostModel", name := "seed", desc := "(J)J" } : Jvm.MethodName) ({ cls := "WaitedPostModel", name := "seed", desc := "(J)J" } : Jvm.MethodName)) ∈ xtbl := xq4 96 (by decide +kernel) rfl
theorem q_817 : (Jvm.Cond.code ({ cls := "WaitedPostModel", name := "seed", desc := "(J)J" } : Jvm.MethodName) prog_7_method_55_code (5 : Nat) (Option.some Jvm.ClassFile.FieldType.long)) ∈ xtbl := xq4 97 (by decide +kernel) rfl
theorem q_818 : (Jvm.Cond.methodLink "WaitedPostLaw" (113 : Nat) ({ cls := "WaitedPostModel", name := "years", desc := "(I)I" } : Jvm.MethodName)) ∈ xtbl := xq4 98 (by decide +kernel) rfl
theorem q_819 : (Jvm.Cond.instanceMethod ({ cls := "WaitedPostModel", name := "years", desc := "(I)I" } : Jvm.MethodName)) ∈ xtbl := xq4 99 (by decide +kernel) rfl
theorem q_820 : (Jvm.Cond.selects "WaitedPostModel" ({ cls := "WaitedPostModel", name := "years", desc := "(I)I" } : Jvm.MethodName) ({ cls := "WaitedPostModel", name := "years", desc := "(I)I" } : Jvm.MethodName)) ∈ xtbl := xq4 100 (by decide +kernel) rfl
theorem q_821 : (Jvm.Cond.code ({ cls := "WaitedPostModel", name := "years", desc := "(I)I" } : Jvm.MethodName) prog_7_method_56_code (4 : Nat) (Option.some Jvm.ClassFile.FieldType.int)) ∈ xtbl := xq4 101 (by decide +kernel) rfl
theorem q_822 : (Jvm.Cond.constantLong "WaitedPostModel" (201 : Nat) (30 : Int64)) ∈ xtbl := xq4 102 (by decide +kernel) rfl
theorem q_823 : (Jvm.Cond.constantLong "WaitedPostModel" (203 : Nat) (6364136223846793005 : Int64)) ∈ xtbl := xq4 103 (by decide +kernel) rfl
theorem q_824 : (Jvm.Cond.constantLong "WaitedPostModel" (205 : Nat) (1442695040888963407 : Int64)) ∈ xtbl := xq4 104 (by decide +kernel) rfl
theorem q_825 : (Jvm.Cond.methodLink "WaitedPostLaw" (117 : Nat) ({ cls := "WaitedPostModel", name := "keep", desc := "(I)I" } : Jvm.MethodName)) ∈ xtbl := xq4 105 (by decide +kernel) rfl
theorem q_826 : (Jvm.Cond.instanceMethod ({ cls := "WaitedPostModel", name := "keep", desc := "(I)I" } : Jvm.MethodName)) ∈ xtbl := xq4 106 (by decide +kernel) rfl
theorem q_827 : (Jvm.Cond.selects "WaitedPostModel" ({ cls := "WaitedPostModel", name := "keep", desc := "(I)I" } : Jvm.MethodName) ({ cls := "WaitedPostModel", name := "keep", desc := "(I)I" } : Jvm.MethodName)) ∈ xtbl := xq4 107 (by decide +kernel) rfl
theorem q_828 : (Jvm.Cond.code ({ cls := "WaitedPostModel", name := "keep", desc := "(I)I" } : Jvm.MethodName) prog_7_method_57_code (3 : Nat) (Option.some Jvm.ClassFile.FieldType.int)) ∈ xtbl := xq4 108 (by decide +kernel) rfl
theorem q_829 : (Jvm.Cond.methodLink "WaitedPostLaw" (121 : Nat) ({ cls := "WaitedPostModel", name := "again", desc := "(I)I" } : Jvm.MethodName)) ∈ xtbl := xq4 109 (by decide +kernel) rfl
theorem q_830 : (Jvm.Cond.instanceMethod ({ cls := "WaitedPostModel", name := "again", desc := "(I)I" } : Jvm.MethodName)) ∈ xtbl := xq4 110 (by decide +kernel) rfl
theorem q_831 : (Jvm.Cond.selects "WaitedPostModel" ({ cls := "WaitedPostModel", name := "again", desc := "(I)I" } : Jvm.MethodName) ({ cls := "WaitedPostModel", name := "again", desc := "(I)I" } : Jvm.MethodName)) ∈ xtbl := xq4 111 (by decide +kernel) rfl
theorem q_832 : (Jvm.Cond.code ({ cls := "WaitedPostModel", name := "again", desc := "(I)I" } : Jvm.MethodName) prog_7_method_58_code (3 : Nat) (Option.some Jvm.ClassFile.FieldType.int)) ∈ xtbl := xq4 112 (by decide +kernel) rfl
theorem q_833 : (Jvm.Cond.methodLink "WaitedPostLaw" (125 : Nat) ({ cls := "WaitedPostModel", name := "count", desc := "(I)I" } : Jvm.MethodName)) ∈ xtbl := xq4 113 (by decide +kernel) rfl
theorem q_834 : (Jvm.Cond.instanceMethod ({ cls := "WaitedPostModel", name := "count", desc := "(I)I" } : Jvm.MethodName)) ∈ xtbl := xq4 114 (by decide +kernel) rfl
theorem q_835 : (Jvm.Cond.selects "WaitedPostModel" ({ cls := "WaitedPostModel", name := "count", desc := "(I)I" } : Jvm.MethodName) ({ cls := "WaitedPostModel", name := "count", desc := "(I)I" } : Jvm.MethodName)) ∈ xtbl := xq4 115 (by decide +kernel) rfl
theorem q_836 : (Jvm.Cond.code ({ cls := "WaitedPostModel", name := "count", desc := "(I)I" } : Jvm.MethodName) prog_7_method_59_code (4 : Nat) (Option.some Jvm.ClassFile.FieldType.int)) ∈ xtbl := xq4 116 (by decide +kernel) rfl
theorem q_837 : (Jvm.Cond.constantLong "WaitedPostLaw" (103 : Nat) (4294967295 : Int64)) ∈ xtbl := xq4 117 (by decide +kernel) rfl
theorem qs_0 : Cond.selects "WaitedPost" (⟨"WaitedPost", "readText", "()I"⟩ : MethodName) (⟨"WaitedPost", "readText", "()I"⟩ : MethodName) ∈ xtbl := xqs (q := ((⟨"WaitedPost", "readText", "()I"⟩ : MethodName), 13)) 0 (by decide +kernel) rfl
theorem qs_1 : Cond.selects "WaitedPost$Reader" (⟨"WaitedPost$Reader", "takesHead", "(I)Z"⟩ : MethodName) (⟨"WaitedPost$Reader", "takesHead", "(I)Z"⟩ : MethodName) ∈ xtbl := xqs (q := ((⟨"WaitedPost$Reader", "takesHead", "(I)Z"⟩ : MethodName), 3)) 1 (by decide +kernel) rfl
theorem qs_2 : Cond.selects "WaitedPost$Reader" (⟨"WaitedPost$Reader", "takesPardon", "(I)Z"⟩ : MethodName) (⟨"WaitedPost$Reader", "takesPardon", "(I)Z"⟩ : MethodName) ∈ xtbl := xqs (q := ((⟨"WaitedPost$Reader", "takesPardon", "(I)Z"⟩ : MethodName), 3)) 2 (by decide +kernel) rfl
theorem qs_3 : Cond.selects "WaitedPost$Reader" (⟨"WaitedPost$Reader", "takesRoom", "(I)Z"⟩ : MethodName) (⟨"WaitedPost$Reader", "takesRoom", "(I)Z"⟩ : MethodName) ∈ xtbl := xqs (q := ((⟨"WaitedPost$Reader", "takesRoom", "(I)Z"⟩ : MethodName), 3)) 3 (by decide +kernel) rfl
theorem qs_4 : Cond.selects "WaitedPost$Reader" (⟨"WaitedPost$Reader", "takesPart", "(I)Z"⟩ : MethodName) (⟨"WaitedPost$Reader", "takesPart", "(I)Z"⟩ : MethodName) ∈ xtbl := xqs (q := ((⟨"WaitedPost$Reader", "takesPart", "(I)Z"⟩ : MethodName), 3)) 4 (by decide +kernel) rfl
theorem qs_5 : Cond.selects "WaitedPost$Reader" (⟨"WaitedPost$Reader", "hasOpenPair", "()Z"⟩ : MethodName) (⟨"WaitedPost$Reader", "hasOpenPair", "()Z"⟩ : MethodName) ∈ xtbl := xqs (q := ((⟨"WaitedPost$Reader", "hasOpenPair", "()Z"⟩ : MethodName), 3)) 5 (by decide +kernel) rfl
theorem qs_6 : Cond.selects "WaitedPost$Reader" (⟨"WaitedPost$Reader", "isOpen", "(I)Z"⟩ : MethodName) (⟨"WaitedPost$Reader", "isOpen", "(I)Z"⟩ : MethodName) ∈ xtbl := xqs (q := ((⟨"WaitedPost$Reader", "isOpen", "(I)Z"⟩ : MethodName), 3)) 6 (by decide +kernel) rfl
theorem qs_7 : Cond.selects "WaitedPost$Reader" (⟨"WaitedPost$Reader", "takesWaited", "(I)Z"⟩ : MethodName) (⟨"WaitedPost$Reader", "takesWaited", "(I)Z"⟩ : MethodName) ∈ xtbl := xqs (q := ((⟨"WaitedPost$Reader", "takesWaited", "(I)Z"⟩ : MethodName), 3)) 7 (by decide +kernel) rfl
theorem qs_8 : Cond.selects "WaitedPost$Reader" (⟨"WaitedPost$Reader", "takesKind", "(I)Z"⟩ : MethodName) (⟨"WaitedPost$Reader", "takesKind", "(I)Z"⟩ : MethodName) ∈ xtbl := xqs (q := ((⟨"WaitedPost$Reader", "takesKind", "(I)Z"⟩ : MethodName), 3)) 8 (by decide +kernel) rfl
theorem qs_9 : Cond.selects "WaitedPost$Reader" (⟨"WaitedPost$Reader", "takesExplainer", "(I)Z"⟩ : MethodName) (⟨"WaitedPost$Reader", "takesExplainer", "(I)Z"⟩ : MethodName) ∈ xtbl := xqs (q := ((⟨"WaitedPost$Reader", "takesExplainer", "(I)Z"⟩ : MethodName), 3)) 9 (by decide +kernel) rfl
theorem qs_10 : Cond.selects "WaitedPost$Reader" (⟨"WaitedPost$Reader", "takesExplained", "(I)Z"⟩ : MethodName) (⟨"WaitedPost$Reader", "takesExplained", "(I)Z"⟩ : MethodName) ∈ xtbl := xqs (q := ((⟨"WaitedPost$Reader", "takesExplained", "(I)Z"⟩ : MethodName), 3)) 10 (by decide +kernel) rfl
theorem qs_11 : Cond.selects "WaitedPost" (⟨"WaitedPost", "known", "(I)Z"⟩ : MethodName) (⟨"WaitedPost", "known", "(I)Z"⟩ : MethodName) ∈ xtbl := xqs (q := ((⟨"WaitedPost", "known", "(I)Z"⟩ : MethodName), 13)) 11 (by decide +kernel) rfl
theorem qs_12 : Cond.selects "WaitedPost" (⟨"WaitedPost", "canBeSent", "(LWaitedPost$Standing;I)Z"⟩ : MethodName) (⟨"WaitedPost", "canBeSent", "(LWaitedPost$Standing;I)Z"⟩ : MethodName) ∈ xtbl := xqs (q := ((⟨"WaitedPost", "canBeSent", "(LWaitedPost$Standing;I)Z"⟩ : MethodName), 13)) 12 (by decide +kernel) rfl
theorem qs_13 : Cond.selects "WaitedPost" (⟨"WaitedPost", "remember", "()V"⟩ : MethodName) (⟨"WaitedPost", "remember", "()V"⟩ : MethodName) ∈ xtbl := xqs (q := ((⟨"WaitedPost", "remember", "()V"⟩ : MethodName), 13)) 13 (by decide +kernel) rfl
theorem qs_14 : Cond.selects "WaitedPost" (⟨"WaitedPost", "forgetFirstAct", "()V"⟩ : MethodName) (⟨"WaitedPost", "forgetFirstAct", "()V"⟩ : MethodName) ∈ xtbl := xqs (q := ((⟨"WaitedPost", "forgetFirstAct", "()V"⟩ : MethodName), 13)) 14 (by decide +kernel) rfl
theorem qs_15 : Cond.selects "WaitedPost" (⟨"WaitedPost", "putSent", "(LWaitedPost$Standing;I)I"⟩ : MethodName) (⟨"WaitedPost", "putSent", "(LWaitedPost$Standing;I)I"⟩ : MethodName) ∈ xtbl := xqs (q := ((⟨"WaitedPost", "putSent", "(LWaitedPost$Standing;I)I"⟩ : MethodName), 13)) 15 (by decide +kernel) rfl
theorem qs_16 : Cond.selects "WaitedPost$Planner" (⟨"WaitedPost$Planner", "lower", "(IJ)V"⟩ : MethodName) (⟨"WaitedPost$Planner", "lower", "(IJ)V"⟩ : MethodName) ∈ xtbl := xqs (q := ((⟨"WaitedPost$Planner", "lower", "(IJ)V"⟩ : MethodName), 1)) 16 (by decide +kernel) rfl
theorem qs_17 : Cond.selects "WaitedPost$Planner" (⟨"WaitedPost$Planner", "tryLetter", "(LWaitedPost$Told;LWaitedPost$Standing;III)V"⟩ : MethodName) (⟨"WaitedPost$Planner", "tryLetter", "(LWaitedPost$Told;LWaitedPost$Standing;III)V"⟩ : MethodName) ∈ xtbl := xqs (q := ((⟨"WaitedPost$Planner", "tryLetter", "(LWaitedPost$Told;LWaitedPost$Standing;III)V"⟩ : MethodName), 1)) 17 (by decide +kernel) rfl
theorem qs_18 : Cond.selects "WaitedPost$Planner" (⟨"WaitedPost$Planner", "bestAt", "(I)J"⟩ : MethodName) (⟨"WaitedPost$Planner", "bestAt", "(I)J"⟩ : MethodName) ∈ xtbl := xqs (q := ((⟨"WaitedPost$Planner", "bestAt", "(I)J"⟩ : MethodName), 1)) 18 (by decide +kernel) rfl
theorem qs_19 : Cond.selects "WaitedPost$Planner" (⟨"WaitedPost$Planner", "endDay", "()V"⟩ : MethodName) (⟨"WaitedPost$Planner", "endDay", "()V"⟩ : MethodName) ∈ xtbl := xqs (q := ((⟨"WaitedPost$Planner", "endDay", "()V"⟩ : MethodName), 1)) 19 (by decide +kernel) rfl
theorem qs_20 : Cond.selects "WaitedPost" (⟨"WaitedPost", "unsent", "()I"⟩ : MethodName) (⟨"WaitedPost", "unsent", "()I"⟩ : MethodName) ∈ xtbl := xqs (q := ((⟨"WaitedPost", "unsent", "()I"⟩ : MethodName), 13)) 20 (by decide +kernel) rfl
theorem qs_21 : Cond.selects "WaitedPost" (⟨"WaitedPost", "firstUnexplained", "(I)I"⟩ : MethodName) (⟨"WaitedPost", "firstUnexplained", "(I)I"⟩ : MethodName) ∈ xtbl := xqs (q := ((⟨"WaitedPost", "firstUnexplained", "(I)I"⟩ : MethodName), 13)) 21 (by decide +kernel) rfl
theorem qs_22 : Cond.selects "WaitedPost" (⟨"WaitedPost", "takeFigures", "(II)Z"⟩ : MethodName) (⟨"WaitedPost", "takeFigures", "(II)Z"⟩ : MethodName) ∈ xtbl := xqs (q := ((⟨"WaitedPost", "takeFigures", "(II)Z"⟩ : MethodName), 13)) 22 (by decide +kernel) rfl
theorem qs_23 : Cond.selects "WaitedPost" (⟨"WaitedPost", "tryThings", "(I)I"⟩ : MethodName) (⟨"WaitedPost", "tryThings", "(I)I"⟩ : MethodName) ∈ xtbl := xqs (q := ((⟨"WaitedPost", "tryThings", "(I)I"⟩ : MethodName), 13)) 23 (by decide +kernel) rfl
theorem qs_24 : Cond.selects "WaitedPost" (⟨"WaitedPost", "costForShare", "(I)I"⟩ : MethodName) (⟨"WaitedPost", "costForShare", "(I)I"⟩ : MethodName) ∈ xtbl := xqs (q := ((⟨"WaitedPost", "costForShare", "(I)I"⟩ : MethodName), 13)) 24 (by decide +kernel) rfl
theorem qs_25 : Cond.selects "WaitedPost" (⟨"WaitedPost", "isBestDay", "(IIII)Z"⟩ : MethodName) (⟨"WaitedPost", "isBestDay", "(IIII)Z"⟩ : MethodName) ∈ xtbl := xqs (q := ((⟨"WaitedPost", "isBestDay", "(IIII)Z"⟩ : MethodName), 13)) 25 (by decide +kernel) rfl
theorem qs_26 : Cond.selects "WaitedPost" (⟨"WaitedPost", "costBeside", "(IIII)I"⟩ : MethodName) (⟨"WaitedPost", "costBeside", "(IIII)I"⟩ : MethodName) ∈ xtbl := xqs (q := ((⟨"WaitedPost", "costBeside", "(IIII)I"⟩ : MethodName), 13)) 26 (by decide +kernel) rfl
theorem qs_27 : Cond.selects "WaitedPost" (⟨"WaitedPost", "costOfUnsent", "()I"⟩ : MethodName) (⟨"WaitedPost", "costOfUnsent", "()I"⟩ : MethodName) ∈ xtbl := xqs (q := ((⟨"WaitedPost", "costOfUnsent", "()I"⟩ : MethodName), 13)) 27 (by decide +kernel) rfl
theorem qs_28 : Cond.selects "WaitedPostModel" (⟨"WaitedPostModel", "readText", "()I"⟩ : MethodName) (⟨"WaitedPostModel", "readText", "()I"⟩ : MethodName) ∈ xtbl := xqs (q := ((⟨"WaitedPostModel", "readText", "()I"⟩ : MethodName), 24)) 28 (by decide +kernel) rfl
theorem qs_29 : Cond.selects "WaitedPostModel" (⟨"WaitedPostModel", "figure", "(II)I"⟩ : MethodName) (⟨"WaitedPostModel", "figure", "(II)I"⟩ : MethodName) ∈ xtbl := xqs (q := ((⟨"WaitedPostModel", "figure", "(II)I"⟩ : MethodName), 24)) 29 (by decide +kernel) rfl
theorem qs_30 : Cond.selects "WaitedPostModel" (⟨"WaitedPostModel", "firstsLeft", "()I"⟩ : MethodName) (⟨"WaitedPostModel", "firstsLeft", "()I"⟩ : MethodName) ∈ xtbl := xqs (q := ((⟨"WaitedPostModel", "firstsLeft", "()I"⟩ : MethodName), 24)) 30 (by decide +kernel) rfl
theorem qs_31 : Cond.selects "WaitedPostModel" (⟨"WaitedPostModel", "left", "(I)I"⟩ : MethodName) (⟨"WaitedPostModel", "left", "(I)I"⟩ : MethodName) ∈ xtbl := xqs (q := ((⟨"WaitedPostModel", "left", "(I)I"⟩ : MethodName), 24)) 31 (by decide +kernel) rfl
theorem qs_32 : Cond.selects "WaitedPostModel" (⟨"WaitedPostModel", "figureOf", "(I)I"⟩ : MethodName) (⟨"WaitedPostModel", "figureOf", "(I)I"⟩ : MethodName) ∈ xtbl := xqs (q := ((⟨"WaitedPostModel", "figureOf", "(I)I"⟩ : MethodName), 24)) 32 (by decide +kernel) rfl
theorem qs_33 : Cond.selects "WaitedPostModel" (⟨"WaitedPostModel", "isLetter", "(I)Z"⟩ : MethodName) (⟨"WaitedPostModel", "isLetter", "(I)Z"⟩ : MethodName) ∈ xtbl := xqs (q := ((⟨"WaitedPostModel", "isLetter", "(I)Z"⟩ : MethodName), 24)) 33 (by decide +kernel) rfl
theorem qs_34 : Cond.selects "WaitedPostModel" (⟨"WaitedPostModel", "isSent", "(II)Z"⟩ : MethodName) (⟨"WaitedPostModel", "isSent", "(II)Z"⟩ : MethodName) ∈ xtbl := xqs (q := ((⟨"WaitedPostModel", "isSent", "(II)Z"⟩ : MethodName), 24)) 34 (by decide +kernel) rfl
theorem qs_35 : Cond.selects "WaitedPostModel" (⟨"WaitedPostModel", "priceOn", "(II)I"⟩ : MethodName) (⟨"WaitedPostModel", "priceOn", "(II)I"⟩ : MethodName) ∈ xtbl := xqs (q := ((⟨"WaitedPostModel", "priceOn", "(II)I"⟩ : MethodName), 24)) 35 (by decide +kernel) rfl
theorem qs_36 : Cond.selects "WaitedPostModel" (⟨"WaitedPostModel", "priceBy", "(IIZII)I"⟩ : MethodName) (⟨"WaitedPostModel", "priceBy", "(IIZII)I"⟩ : MethodName) ∈ xtbl := xqs (q := ((⟨"WaitedPostModel", "priceBy", "(IIZII)I"⟩ : MethodName), 24)) 36 (by decide +kernel) rfl
theorem qs_37 : Cond.selects "WaitedPostModel" (⟨"WaitedPostModel", "keepAct", "()V"⟩ : MethodName) (⟨"WaitedPostModel", "keepAct", "()V"⟩ : MethodName) ∈ xtbl := xqs (q := ((⟨"WaitedPostModel", "keepAct", "()V"⟩ : MethodName), 24)) 37 (by decide +kernel) rfl
theorem qs_38 : Cond.selects "WaitedPostModel" (⟨"WaitedPostModel", "sendOn", "(II)I"⟩ : MethodName) (⟨"WaitedPostModel", "sendOn", "(II)I"⟩ : MethodName) ∈ xtbl := xqs (q := ((⟨"WaitedPostModel", "sendOn", "(II)I"⟩ : MethodName), 24)) 38 (by decide +kernel) rfl
theorem qs_39 : Cond.selects "WaitedPostModel" (⟨"WaitedPostModel", "passOn", "(I)V"⟩ : MethodName) (⟨"WaitedPostModel", "passOn", "(I)V"⟩ : MethodName) ∈ xtbl := xqs (q := ((⟨"WaitedPostModel", "passOn", "(I)V"⟩ : MethodName), 24)) 39 (by decide +kernel) rfl
theorem qs_40 : Cond.selects "WaitedPostModel" (⟨"WaitedPostModel", "priceIn", "(II)I"⟩ : MethodName) (⟨"WaitedPostModel", "priceIn", "(II)I"⟩ : MethodName) ∈ xtbl := xqs (q := ((⟨"WaitedPostModel", "priceIn", "(II)I"⟩ : MethodName), 24)) 40 (by decide +kernel) rfl
theorem qs_41 : Cond.selects "WaitedPostModel" (⟨"WaitedPostModel", "layTrial", "()V"⟩ : MethodName) (⟨"WaitedPostModel", "layTrial", "()V"⟩ : MethodName) ∈ xtbl := xqs (q := ((⟨"WaitedPostModel", "layTrial", "()V"⟩ : MethodName), 24)) 41 (by decide +kernel) rfl
theorem qs_42 : Cond.selects "WaitedPostModel" (⟨"WaitedPostModel", "leastOf", "(I)I"⟩ : MethodName) (⟨"WaitedPostModel", "leastOf", "(I)I"⟩ : MethodName) ∈ xtbl := xqs (q := ((⟨"WaitedPostModel", "leastOf", "(I)I"⟩ : MethodName), 24)) 42 (by decide +kernel) rfl
theorem qs_43 : Cond.selects "WaitedPostModel" (⟨"WaitedPostModel", "paidBy", "(II)I"⟩ : MethodName) (⟨"WaitedPostModel", "paidBy", "(II)I"⟩ : MethodName) ∈ xtbl := xqs (q := ((⟨"WaitedPostModel", "paidBy", "(II)I"⟩ : MethodName), 24)) 43 (by decide +kernel) rfl
theorem qs_44 : Cond.selects "WaitedPostModel" (⟨"WaitedPostModel", "canSend", "(II)Z"⟩ : MethodName) (⟨"WaitedPostModel", "canSend", "(II)Z"⟩ : MethodName) ∈ xtbl := xqs (q := ((⟨"WaitedPostModel", "canSend", "(II)Z"⟩ : MethodName), 24)) 44 (by decide +kernel) rfl
theorem qs_45 : Cond.selects "WaitedPostModel" (⟨"WaitedPostModel", "areThings", "(II)Z"⟩ : MethodName) (⟨"WaitedPostModel", "areThings", "(II)Z"⟩ : MethodName) ∈ xtbl := xqs (q := ((⟨"WaitedPostModel", "areThings", "(II)Z"⟩ : MethodName), 24)) 45 (by decide +kernel) rfl
theorem qs_46 : Cond.selects "WaitedPostModel" (⟨"WaitedPostModel", "tryThing", "(I)Z"⟩ : MethodName) (⟨"WaitedPostModel", "tryThing", "(I)Z"⟩ : MethodName) ∈ xtbl := xqs (q := ((⟨"WaitedPostModel", "tryThing", "(I)Z"⟩ : MethodName), 24)) 46 (by decide +kernel) rfl
theorem qs_47 : Cond.selects "WaitedPostModel" (⟨"WaitedPostModel", "priceWith", "(II)I"⟩ : MethodName) (⟨"WaitedPostModel", "priceWith", "(II)I"⟩ : MethodName) ∈ xtbl := xqs (q := ((⟨"WaitedPostModel", "priceWith", "(II)I"⟩ : MethodName), 24)) 47 (by decide +kernel) rfl
theorem qs_48 : Cond.selects "WaitedPostModel" (⟨"WaitedPostModel", "isRest", "(IIII)Z"⟩ : MethodName) (⟨"WaitedPostModel", "isRest", "(IIII)Z"⟩ : MethodName) ∈ xtbl := xqs (q := ((⟨"WaitedPostModel", "isRest", "(IIII)Z"⟩ : MethodName), 24)) 48 (by decide +kernel) rfl
theorem qs_49 : Cond.selects "WaitedPostModel" (⟨"WaitedPostModel", "paysIf", "(IIII)I"⟩ : MethodName) (⟨"WaitedPostModel", "paysIf", "(IIII)I"⟩ : MethodName) ∈ xtbl := xqs (q := ((⟨"WaitedPostModel", "paysIf", "(IIII)I"⟩ : MethodName), 24)) 49 (by decide +kernel) rfl
-- methods
abbrev m_J6_bitCount_0f7a4 : xY := (yJ6_bitCount_0f7a4, cJ6_bitCount_0f7a4, 1, some .int, { frames := 0, cells := 0, slots := 0, locals := 0 })
theorem k_J6_bitCount_0f7a4 : xMt m_J6_bitCount_0f7a4 1 := ⟨q_311, q_9, ⟨by decide, by decide⟩, by decide +kernel⟩
theorem s_J6_bitCount_0f7a4 : Cond.static yJ6_bitCount_0f7a4 ∈ xtbl := q_310
abbrev m_J7_fill_53178 : xY := (yJ7_fill_53178, cJ7_fill_53178, 4, none, { frames := 0, cells := 0, slots := 0, locals := 0 })
theorem k_J7_fill_53178 : xMt m_J7_fill_53178 2 := ⟨q_193, q_7, ⟨by decide, by decide⟩, by decide +kernel⟩
theorem s_J7_fill_53178 : Cond.static yJ7_fill_53178 ∈ xtbl := q_192
abbrev m_J7_fill_d0a16 : xY := (yJ7_fill_d0a16, cJ7_fill_d0a16, 5, none, { frames := 0, cells := 0, slots := 0, locals := 0 })
theorem k_J7_fill_d0a16 : xMt m_J7_fill_d0a16 2 := ⟨q_384, q_7, ⟨by decide, by decide⟩, by decide +kernel⟩
theorem s_J7_fill_d0a16 : Cond.static yJ7_fill_d0a16 ∈ xtbl := q_383
abbrev m_J9_abs_067f4 : xY := (yJ9_abs_067f4, cJ9_abs_067f4, 2, some .long, { frames := 0, cells := 0, slots := 0, locals := 0 })
theorem k_J9_abs_067f4 : xMt m_J9_abs_067f4 1 := ⟨q_474, q_8, ⟨by decide, by decide⟩, by decide +kernel⟩
theorem s_J9_abs_067f4 : Cond.static yJ9_abs_067f4 ∈ xtbl := q_473
abbrev m_J9_max_7cf53 : xY := (yJ9_max_7cf53, cJ9_max_7cf53, 2, some .int, { frames := 0, cells := 0, slots := 0, locals := 0 })
theorem k_J9_max_7cf53 : xMt m_J9_max_7cf53 2 := ⟨q_300, q_8, ⟨by decide, by decide⟩, by decide +kernel⟩
theorem s_J9_max_7cf53 : Cond.static yJ9_max_7cf53 ∈ xtbl := q_299
abbrev m_J9_min_7cf53 : xY := (yJ9_min_7cf53, cJ9_min_7cf53, 2, some .int, { frames := 0, cells := 0, slots := 0, locals := 0 })
theorem k_J9_min_7cf53 : xMt m_J9_min_7cf53 2 := ⟨q_303, q_8, ⟨by decide, by decide⟩, by decide +kernel⟩
theorem s_J9_min_7cf53 : Cond.static yJ9_min_7cf53 ∈ xtbl := q_302
abbrev m_X0_bestAt : xY := (yX0_bestAt, cX0_bestAt, 2, some .long, { frames := 0, cells := 0, slots := 0, locals := 0 })
theorem k_X0_bestAt : xMt m_X0_bestAt 1 := ⟨q_407, q_5, ⟨by decide, by decide⟩, by decide +kernel⟩
theorem v_X0_bestAt : Cond.instanceMethod yX0_bestAt ∈ xtbl ∧ Cond.selects yX0_bestAt.cls yX0_bestAt yX0_bestAt ∈ xtbl := ⟨q_406, qs_18⟩
abbrev m_X0_endDay : xY := (yX0_endDay, cX0_endDay, 3, none, { frames := 1, cells := 0, slots := 0, locals := 23 })
theorem k_X0_endDay : xMt m_X0_endDay 0 := ⟨q_411, q_5, ⟨by decide, by decide⟩, by decide +kernel⟩
theorem v_X0_endDay : Cond.instanceMethod yX0_endDay ∈ xtbl ∧ Cond.selects yX0_endDay.cls yX0_endDay yX0_endDay ∈ xtbl := ⟨q_410, qs_19⟩
abbrev m_X0_fill : xY := (yX0_fill, cX0_fill, 6, none, { frames := 4, cells := 0, slots := 0, locals := 107 })
theorem k_X0_fill : xMt m_X0_fill 3 := ⟨q_380, q_5, ⟨by decide, by decide⟩, by decide +kernel⟩
theorem v_X0_fill : Cond.instanceMethod yX0_fill ∈ xtbl ∧ Cond.selects yX0_fill.cls yX0_fill yX0_fill ∈ xtbl := ⟨q_378, q_379⟩
abbrev m_X0_hasRoom : xY := (yX0_hasRoom, cX0_hasRoom, 2, some .boolean, { frames := 1, cells := 0, slots := 0, locals := 21 })
theorem k_X0_hasRoom : xMt m_X0_hasRoom 1 := ⟨q_415, q_5, ⟨by decide, by decide⟩, by decide +kernel⟩
theorem v_X0_hasRoom : Cond.instanceMethod yX0_hasRoom ∈ xtbl ∧ Cond.selects yX0_hasRoom.cls yX0_hasRoom yX0_hasRoom ∈ xtbl := ⟨q_413, q_414⟩
abbrev m_X0_init : xY := (yX0_init, cX0_init, 1, none, { frames := 1, cells := 1, slots := 256, locals := 20 })
theorem k_X0_init : xMt m_X0_init 0 := ⟨q_120, q_5, ⟨by decide, by decide⟩, by decide +kernel⟩
theorem v_X0_init : Cond.instanceMethod yX0_init ∈ xtbl := q_119
abbrev m_X0_lower : xY := (yX0_lower, cX0_lower, 4, none, { frames := 0, cells := 0, slots := 0, locals := 0 })
theorem k_X0_lower : xMt m_X0_lower 2 := ⟨q_388, q_5, ⟨by decide, by decide⟩, by decide +kernel⟩
theorem v_X0_lower : Cond.instanceMethod yX0_lower ∈ xtbl ∧ Cond.selects yX0_lower.cls yX0_lower yX0_lower ∈ xtbl := ⟨q_387, qs_16⟩
abbrev m_X0_paidFor : xY := (yX0_paidFor, cX0_paidFor, 2, some .int, { frames := 1, cells := 0, slots := 0, locals := 21 })
theorem k_X0_paidFor : xMt m_X0_paidFor 1 := ⟨q_423, q_5, ⟨by decide, by decide⟩, by decide +kernel⟩
theorem v_X0_paidFor : Cond.instanceMethod yX0_paidFor ∈ xtbl ∧ Cond.selects yX0_paidFor.cls yX0_paidFor yX0_paidFor ∈ xtbl := ⟨q_421, q_422⟩
abbrev m_X0_rowOf : xY := (yX0_rowOf, cX0_rowOf, 2, some .int, { frames := 1, cells := 0, slots := 0, locals := 21 })
theorem k_X0_rowOf : xMt m_X0_rowOf 1 := ⟨q_419, q_5, ⟨by decide, by decide⟩, by decide +kernel⟩
theorem v_X0_rowOf : Cond.instanceMethod yX0_rowOf ∈ xtbl ∧ Cond.selects yX0_rowOf.cls yX0_rowOf yX0_rowOf ∈ xtbl := ⟨q_417, q_418⟩
abbrev m_X0_tryLetter : xY := (yX0_tryLetter, cX0_tryLetter, 13, none, { frames := 3, cells := 0, slots := 0, locals := 75 })
theorem k_X0_tryLetter : xMt m_X0_tryLetter 5 := ⟨q_393, q_5, ⟨by decide, by decide⟩, by decide +kernel⟩
theorem v_X0_tryLetter : Cond.instanceMethod yX0_tryLetter ∈ xtbl ∧ Cond.selects yX0_tryLetter.cls yX0_tryLetter yX0_tryLetter ∈ xtbl := ⟨q_392, qs_17⟩
abbrev m_X1_begin : xY := (yX1_begin, cX1_begin, 1, none, { frames := 2, cells := 0, slots := 0, locals := 43 })
theorem k_X1_begin : xMt m_X1_begin 0 := ⟨q_186, q_2, ⟨by decide, by decide⟩, by decide +kernel⟩
theorem v_X1_begin : Cond.instanceMethod yX1_begin ∈ xtbl ∧ Cond.selects yX1_begin.cls yX1_begin yX1_begin ∈ xtbl := ⟨q_184, q_185⟩
abbrev m_X1_hasOpenPair : xY := (yX1_hasOpenPair, cX1_hasOpenPair, 2, some .boolean, { frames := 3, cells := 0, slots := 0, locals := 65 })
theorem k_X1_hasOpenPair : xMt m_X1_hasOpenPair 0 := ⟨q_217, q_2, ⟨by decide, by decide⟩, by decide +kernel⟩
theorem v_X1_hasOpenPair : Cond.instanceMethod yX1_hasOpenPair ∈ xtbl ∧ Cond.selects yX1_hasOpenPair.cls yX1_hasOpenPair yX1_hasOpenPair ∈ xtbl := ⟨q_216, qs_5⟩
abbrev m_X1_init : xY := (yX1_init, cX1_init, 1, none, { frames := 2, cells := 4, slots := 24, locals := 40 })
theorem k_X1_init : xMt m_X1_init 0 := ⟨q_22, q_2, ⟨by decide, by decide⟩, by decide +kernel⟩
theorem v_X1_init : Cond.instanceMethod yX1_init ∈ xtbl := q_21
abbrev m_X1_isOpen : xY := (yX1_isOpen, cX1_isOpen, 2, some .boolean, { frames := 2, cells := 0, slots := 0, locals := 44 })
theorem k_X1_isOpen : xMt m_X1_isOpen 1 := ⟨q_221, q_2, ⟨by decide, by decide⟩, by decide +kernel⟩
theorem v_X1_isOpen : Cond.instanceMethod yX1_isOpen ∈ xtbl ∧ Cond.selects yX1_isOpen.cls yX1_isOpen yX1_isOpen ∈ xtbl := ⟨q_220, qs_6⟩
abbrev m_X1_mayEnd : xY := (yX1_mayEnd, cX1_mayEnd, 1, some .boolean, { frames := 0, cells := 0, slots := 0, locals := 0 })
theorem k_X1_mayEnd : xMt m_X1_mayEnd 0 := ⟨q_266, q_2, ⟨by decide, by decide⟩, by decide +kernel⟩
theorem v_X1_mayEnd : Cond.instanceMethod yX1_mayEnd ∈ xtbl ∧ Cond.selects yX1_mayEnd.cls yX1_mayEnd yX1_mayEnd ∈ xtbl := ⟨q_264, q_265⟩
abbrev m_X1_takes : xY := (yX1_takes, cX1_takes, 3, some .boolean, { frames := 5, cells := 0, slots := 0, locals := 107 })
theorem k_X1_takes : xMt m_X1_takes 1 := ⟨q_197, q_2, ⟨by decide, by decide⟩, by decide +kernel⟩
theorem v_X1_takes : Cond.instanceMethod yX1_takes ∈ xtbl ∧ Cond.selects yX1_takes.cls yX1_takes yX1_takes ∈ xtbl := ⟨q_195, q_196⟩
abbrev m_X1_takesExplained : xY := (yX1_takesExplained, cX1_takesExplained, 3, some .boolean, { frames := 1, cells := 0, slots := 0, locals := 22 })
theorem k_X1_takesExplained : xMt m_X1_takesExplained 1 := ⟨q_256, q_2, ⟨by decide, by decide⟩, by decide +kernel⟩
theorem v_X1_takesExplained : Cond.instanceMethod yX1_takesExplained ∈ xtbl ∧ Cond.selects yX1_takesExplained.cls yX1_takesExplained yX1_takesExplained ∈ xtbl := ⟨q_255, qs_10⟩
abbrev m_X1_takesExplainer : xY := (yX1_takesExplainer, cX1_takesExplainer, 2, some .boolean, { frames := 3, cells := 0, slots := 0, locals := 65 })
theorem k_X1_takesExplainer : xMt m_X1_takesExplainer 1 := ⟨q_252, q_2, ⟨by decide, by decide⟩, by decide +kernel⟩
theorem v_X1_takesExplainer : Cond.instanceMethod yX1_takesExplainer ∈ xtbl ∧ Cond.selects yX1_takesExplainer.cls yX1_takesExplainer yX1_takesExplainer ∈ xtbl := ⟨q_251, qs_9⟩
abbrev m_X1_takesHead : xY := (yX1_takesHead, cX1_takesHead, 2, some .boolean, { frames := 0, cells := 0, slots := 0, locals := 0 })
theorem k_X1_takesHead : xMt m_X1_takesHead 1 := ⟨q_201, q_2, ⟨by decide, by decide⟩, by decide +kernel⟩
theorem v_X1_takesHead : Cond.instanceMethod yX1_takesHead ∈ xtbl ∧ Cond.selects yX1_takesHead.cls yX1_takesHead yX1_takesHead ∈ xtbl := ⟨q_200, qs_1⟩
abbrev m_X1_takesKind : xY := (yX1_takesKind, cX1_takesKind, 2, some .boolean, { frames := 2, cells := 0, slots := 0, locals := 44 })
theorem k_X1_takesKind : xMt m_X1_takesKind 1 := ⟨q_239, q_2, ⟨by decide, by decide⟩, by decide +kernel⟩
theorem v_X1_takesKind : Cond.instanceMethod yX1_takesKind ∈ xtbl ∧ Cond.selects yX1_takesKind.cls yX1_takesKind yX1_takesKind ∈ xtbl := ⟨q_238, qs_8⟩
abbrev m_X1_takesPardon : xY := (yX1_takesPardon, cX1_takesPardon, 2, some .boolean, { frames := 0, cells := 0, slots := 0, locals := 0 })
theorem k_X1_takesPardon : xMt m_X1_takesPardon 1 := ⟨q_205, q_2, ⟨by decide, by decide⟩, by decide +kernel⟩
theorem v_X1_takesPardon : Cond.instanceMethod yX1_takesPardon ∈ xtbl ∧ Cond.selects yX1_takesPardon.cls yX1_takesPardon yX1_takesPardon ∈ xtbl := ⟨q_204, qs_2⟩
abbrev m_X1_takesPart : xY := (yX1_takesPart, cX1_takesPart, 2, some .boolean, { frames := 4, cells := 0, slots := 0, locals := 86 })
theorem k_X1_takesPart : xMt m_X1_takesPart 1 := ⟨q_213, q_2, ⟨by decide, by decide⟩, by decide +kernel⟩
theorem v_X1_takesPart : Cond.instanceMethod yX1_takesPart ∈ xtbl ∧ Cond.selects yX1_takesPart.cls yX1_takesPart yX1_takesPart ∈ xtbl := ⟨q_212, qs_4⟩
abbrev m_X1_takesRoom : xY := (yX1_takesRoom, cX1_takesRoom, 2, some .boolean, { frames := 0, cells := 0, slots := 0, locals := 0 })
theorem k_X1_takesRoom : xMt m_X1_takesRoom 1 := ⟨q_209, q_2, ⟨by decide, by decide⟩, by decide +kernel⟩
theorem v_X1_takesRoom : Cond.instanceMethod yX1_takesRoom ∈ xtbl ∧ Cond.selects yX1_takesRoom.cls yX1_takesRoom yX1_takesRoom ∈ xtbl := ⟨q_208, qs_3⟩
abbrev m_X1_takesWaited : xY := (yX1_takesWaited, cX1_takesWaited, 2, some .boolean, { frames := 0, cells := 0, slots := 0, locals := 0 })
theorem k_X1_takesWaited : xMt m_X1_takesWaited 1 := ⟨q_235, q_2, ⟨by decide, by decide⟩, by decide +kernel⟩
theorem v_X1_takesWaited : Cond.instanceMethod yX1_takesWaited ∈ xtbl ∧ Cond.selects yX1_takesWaited.cls yX1_takesWaited yX1_takesWaited ∈ xtbl := ⟨q_234, qs_7⟩
abbrev m_X2_begin : xY := (yX2_begin, cX2_begin, 2, none, { frames := 1, cells := 0, slots := 0, locals := 23 })
theorem k_X2_begin : xMt m_X2_begin 1 := ⟨q_281, q_4, ⟨by decide, by decide⟩, by decide +kernel⟩
theorem v_X2_begin : Cond.instanceMethod yX2_begin ∈ xtbl ∧ Cond.selects yX2_begin.cls yX2_begin yX2_begin ∈ xtbl := ⟨q_279, q_280⟩
abbrev m_X2_init : xY := (yX2_init, cX2_init, 1, none, { frames := 1, cells := 2, slots := 12, locals := 20 })
theorem k_X2_init : xMt m_X2_init 0 := ⟨q_78, q_4, ⟨by decide, by decide⟩, by decide +kernel⟩
theorem v_X2_init : Cond.instanceMethod yX2_init ∈ xtbl := q_77
abbrev m_X2_passDay : xY := (yX2_passDay, cX2_passDay, 4, none, { frames := 1, cells := 0, slots := 0, locals := 22 })
theorem k_X2_passDay : xMt m_X2_passDay 1 := ⟨q_347, q_4, ⟨by decide, by decide⟩, by decide +kernel⟩
theorem v_X2_passDay : Cond.instanceMethod yX2_passDay ∈ xtbl ∧ Cond.selects yX2_passDay.cls yX2_passDay yX2_passDay ∈ xtbl := ⟨q_345, q_346⟩
abbrev m_X2_take : xY := (yX2_take, cX2_take, 2, none, { frames := 1, cells := 0, slots := 0, locals := 22 })
theorem k_X2_take : xMt m_X2_take 1 := ⟨q_334, q_4, ⟨by decide, by decide⟩, by decide +kernel⟩
theorem v_X2_take : Cond.instanceMethod yX2_take ∈ xtbl ∧ Cond.selects yX2_take.cls yX2_take yX2_take ∈ xtbl := ⟨q_332, q_333⟩
abbrev m_X3_addLetter : xY := (yX3_addLetter, cX3_addLetter, 3, none, { frames := 1, cells := 0, slots := 0, locals := 22 })
theorem k_X3_addLetter : xMt m_X3_addLetter 2 := ⟨q_245, q_3, ⟨by decide, by decide⟩, by decide +kernel⟩
theorem v_X3_addLetter : Cond.instanceMethod yX3_addLetter ∈ xtbl ∧ Cond.selects yX3_addLetter.cls yX3_addLetter yX3_addLetter ∈ xtbl := ⟨q_243, q_244⟩
abbrev m_X3_clear : xY := (yX3_clear, cX3_clear, 1, none, { frames := 1, cells := 0, slots := 0, locals := 23 })
theorem k_X3_clear : xMt m_X3_clear 0 := ⟨q_190, q_3, ⟨by decide, by decide⟩, by decide +kernel⟩
theorem v_X3_clear : Cond.instanceMethod yX3_clear ∈ xtbl ∧ Cond.selects yX3_clear.cls yX3_clear yX3_clear ∈ xtbl := ⟨q_188, q_189⟩
abbrev m_X3_costIn : xY := (yX3_costIn, cX3_costIn, 7, some .int, { frames := 2, cells := 0, slots := 0, locals := 49 })
theorem k_X3_costIn : xMt m_X3_costIn 4 := ⟨q_297, q_3, ⟨by decide, by decide⟩, by decide +kernel⟩
theorem v_X3_costIn : Cond.instanceMethod yX3_costIn ∈ xtbl ∧ Cond.selects yX3_costIn.cls yX3_costIn yX3_costIn ∈ xtbl := ⟨q_295, q_296⟩
abbrev m_X3_costOf : xY := (yX3_costOf, cX3_costOf, 9, some .int, { frames := 1, cells := 0, slots := 0, locals := 21 })
theorem k_X3_costOf : xMt m_X3_costOf 5 := ⟨q_307, q_3, ⟨by decide, by decide⟩, by decide +kernel⟩
theorem v_X3_costOf : Cond.instanceMethod yX3_costOf ∈ xtbl ∧ Cond.selects yX3_costOf.cls yX3_costOf yX3_costOf ∈ xtbl := ⟨q_305, q_306⟩
abbrev m_X3_explainedBy : xY := (yX3_explainedBy, cX3_explainedBy, 4, some .int, { frames := 1, cells := 0, slots := 0, locals := 21 })
theorem k_X3_explainedBy : xMt m_X3_explainedBy 1 := ⟨q_225, q_3, ⟨by decide, by decide⟩, by decide +kernel⟩
theorem v_X3_explainedBy : Cond.instanceMethod yX3_explainedBy ∈ xtbl ∧ Cond.selects yX3_explainedBy.cls yX3_explainedBy yX3_explainedBy ∈ xtbl := ⟨q_223, q_224⟩
abbrev m_X3_init : xY := (yX3_init, cX3_init, 1, none, { frames := 1, cells := 3, slots := 18, locals := 20 })
theorem k_X3_init : xMt m_X3_init 0 := ⟨q_28, q_3, ⟨by decide, by decide⟩, by decide +kernel⟩
theorem v_X3_init : Cond.instanceMethod yX3_init ∈ xtbl := q_27
abbrev m_X3_take : xY := (yX3_take, cX3_take, 2, none, { frames := 1, cells := 0, slots := 0, locals := 22 })
theorem k_X3_take : xMt m_X3_take 1 := ⟨q_274, q_3, ⟨by decide, by decide⟩, by decide +kernel⟩
theorem v_X3_take : Cond.instanceMethod yX3_take ∈ xtbl ∧ Cond.selects yX3_take.cls yX3_take yX3_take ∈ xtbl := ⟨q_272, q_273⟩
abbrev m_X4_again : xY := (yX4_again, cX4_again, 2, some .int, { frames := 2, cells := 0, slots := 0, locals := 43 })
theorem k_X4_again : xMt m_X4_again 1 := ⟨q_520, q_1, ⟨by decide, by decide⟩, by decide +kernel⟩
theorem v_X4_again : Cond.instanceMethod yX4_again ∈ xtbl ∧ Cond.selects yX4_again.cls yX4_again yX4_again ∈ xtbl := ⟨q_518, q_519⟩
abbrev m_X4_at : xY := (yX4_at, cX4_at, 2, some .int, { frames := 0, cells := 0, slots := 0, locals := 0 })
theorem k_X4_at : xMt m_X4_at 2 := ⟨q_228, q_1, ⟨by decide, by decide⟩, by decide +kernel⟩
theorem s_X4_at : Cond.static yX4_at ∈ xtbl := q_227
abbrev m_X4_bit : xY := (yX4_bit, cX4_bit, 1, some .int, { frames := 0, cells := 0, slots := 0, locals := 0 })
theorem k_X4_bit : xMt m_X4_bit 1 := ⟨q_261, q_1, ⟨by decide, by decide⟩, by decide +kernel⟩
theorem s_X4_bit : Cond.static yX4_bit ∈ xtbl := q_260
abbrev m_X4_canBeSent : xY := (yX4_canBeSent, cX4_canBeSent, 3, some .boolean, { frames := 1, cells := 0, slots := 0, locals := 21 })
theorem k_X4_canBeSent : xMt m_X4_canBeSent 2 := ⟨q_322, q_1, ⟨by decide, by decide⟩, by decide +kernel⟩
theorem v_X4_canBeSent : Cond.instanceMethod yX4_canBeSent ∈ xtbl ∧ Cond.selects yX4_canBeSent.cls yX4_canBeSent yX4_canBeSent ∈ xtbl := ⟨q_321, qs_12⟩
abbrev m_X4_card : xY := (yX4_card, cX4_card, 2, some .int, { frames := 3, cells := 0, slots := 0, locals := 75 })
theorem k_X4_card : xMt m_X4_card 1 := ⟨q_360, q_1, ⟨by decide, by decide⟩, by decide +kernel⟩
theorem v_X4_card : Cond.instanceMethod yX4_card ∈ xtbl ∧ Cond.selects yX4_card.cls yX4_card yX4_card ∈ xtbl := ⟨q_358, q_359⟩
abbrev m_X4_cheapest : xY := (yX4_cheapest, cX4_cheapest, 6, some .int, { frames := 3, cells := 0, slots := 0, locals := 75 })
theorem k_X4_cheapest : xMt m_X4_cheapest 1 := ⟨q_372, q_1, ⟨by decide, by decide⟩, by decide +kernel⟩
theorem v_X4_cheapest : Cond.instanceMethod yX4_cheapest ∈ xtbl ∧ Cond.selects yX4_cheapest.cls yX4_cheapest yX4_cheapest ∈ xtbl := ⟨q_370, q_371⟩
abbrev m_X4_commonDivisor : xY := (yX4_commonDivisor, cX4_commonDivisor, 11, some .long, { frames := 0, cells := 0, slots := 0, locals := 0 })
theorem k_X4_commonDivisor : xMt m_X4_commonDivisor 2 := ⟨q_477, q_1, ⟨by decide, by decide⟩, by decide +kernel⟩
theorem s_X4_commonDivisor : Cond.static yX4_commonDivisor ∈ xtbl := q_476
abbrev m_X4_copyRow : xY := (yX4_copyRow, cX4_copyRow, 3, none, { frames := 0, cells := 0, slots := 0, locals := 0 })
theorem k_X4_copyRow : xMt m_X4_copyRow 2 := ⟨q_277, q_1, ⟨by decide, by decide⟩, by decide +kernel⟩
theorem s_X4_copyRow : Cond.static yX4_copyRow ∈ xtbl := q_276
abbrev m_X4_cost : xY := (yX4_cost, cX4_cost, 3, some .int, { frames := 5, cells := 0, slots := 0, locals := 122 })
theorem k_X4_cost : xMt m_X4_cost 2 := ⟨q_451, q_1, ⟨by decide, by decide⟩, by decide +kernel⟩
theorem v_X4_cost : Cond.instanceMethod yX4_cost ∈ xtbl ∧ Cond.selects yX4_cost.cls yX4_cost yX4_cost ∈ xtbl := ⟨q_449, q_450⟩
abbrev m_X4_costBeside : xY := (yX4_costBeside, cX4_costBeside, 7, some .int, { frames := 3, cells := 0, slots := 0, locals := 75 })
theorem k_X4_costBeside : xMt m_X4_costBeside 4 := ⟨q_497, q_1, ⟨by decide, by decide⟩, by decide +kernel⟩
theorem v_X4_costBeside : Cond.instanceMethod yX4_costBeside ∈ xtbl ∧ Cond.selects yX4_costBeside.cls yX4_costBeside yX4_costBeside ∈ xtbl := ⟨q_496, qs_26⟩
abbrev m_X4_costForShare : xY := (yX4_costForShare, cX4_costForShare, 2, some .int, { frames := 2, cells := 0, slots := 0, locals := 42 })
theorem k_X4_costForShare : xMt m_X4_costForShare 1 := ⟨q_485, q_1, ⟨by decide, by decide⟩, by decide +kernel⟩
theorem v_X4_costForShare : Cond.instanceMethod yX4_costForShare ∈ xtbl ∧ Cond.selects yX4_costForShare.cls yX4_costForShare yX4_costForShare ∈ xtbl := ⟨q_484, qs_24⟩
abbrev m_X4_costOfUnsent : xY := (yX4_costOfUnsent, cX4_costOfUnsent, 3, some .int, { frames := 3, cells := 0, slots := 0, locals := 75 })
theorem k_X4_costOfUnsent : xMt m_X4_costOfUnsent 0 := ⟨q_528, q_1, ⟨by decide, by decide⟩, by decide +kernel⟩
theorem v_X4_costOfUnsent : Cond.instanceMethod yX4_costOfUnsent ∈ xtbl ∧ Cond.selects yX4_costOfUnsent.cls yX4_costOfUnsent yX4_costOfUnsent ∈ xtbl := ⟨q_527, qs_27⟩
abbrev m_X4_count : xY := (yX4_count, cX4_count, 2, some .int, { frames := 4, cells := 0, slots := 0, locals := 97 })
theorem k_X4_count : xMt m_X4_count 1 := ⟨q_524, q_1, ⟨by decide, by decide⟩, by decide +kernel⟩
theorem v_X4_count : Cond.instanceMethod yX4_count ∈ xtbl ∧ Cond.selects yX4_count.cls yX4_count yX4_count ∈ xtbl := ⟨q_522, q_523⟩
abbrev m_X4_day : xY := (yX4_day, cX4_day, 1, some .int, { frames := 3, cells := 0, slots := 0, locals := 63 })
theorem k_X4_day : xMt m_X4_day 0 := ⟨q_343, q_1, ⟨by decide, by decide⟩, by decide +kernel⟩
theorem v_X4_day : Cond.instanceMethod yX4_day ∈ xtbl ∧ Cond.selects yX4_day.cls yX4_day yX4_day ∈ xtbl := ⟨q_341, q_342⟩
abbrev m_X4_factorial : xY := (yX4_factorial, cX4_factorial, 4, some .long, { frames := 0, cells := 0, slots := 0, locals := 0 })
theorem k_X4_factorial : xMt m_X4_factorial 1 := ⟨q_481, q_1, ⟨by decide, by decide⟩, by decide +kernel⟩
theorem s_X4_factorial : Cond.static yX4_factorial ∈ xtbl := q_480
abbrev m_X4_fault : xY := (yX4_fault, cX4_fault, 1, some .int, { frames := 7, cells := 0, slots := 0, locals := 150 })
theorem k_X4_fault : xMt m_X4_fault 0 := ⟨q_178, q_1, ⟨by decide, by decide⟩, by decide +kernel⟩
theorem v_X4_fault : Cond.instanceMethod yX4_fault ∈ xtbl ∧ Cond.selects yX4_fault.cls yX4_fault yX4_fault ∈ xtbl := ⟨q_176, q_177⟩
abbrev m_X4_firstUnexplained : xY := (yX4_firstUnexplained, cX4_firstUnexplained, 3, some .int, { frames := 1, cells := 0, slots := 0, locals := 21 })
theorem k_X4_firstUnexplained : xMt m_X4_firstUnexplained 1 := ⟨q_435, q_1, ⟨by decide, by decide⟩, by decide +kernel⟩
theorem v_X4_firstUnexplained : Cond.instanceMethod yX4_firstUnexplained ∈ xtbl ∧ Cond.selects yX4_firstUnexplained.cls yX4_firstUnexplained yX4_firstUnexplained ∈ xtbl := ⟨q_434, qs_21⟩
abbrev m_X4_forgetFirstAct : xY := (yX4_forgetFirstAct, cX4_forgetFirstAct, 3, none, { frames := 0, cells := 0, slots := 0, locals := 0 })
theorem k_X4_forgetFirstAct : xMt m_X4_forgetFirstAct 0 := ⟨q_330, q_1, ⟨by decide, by decide⟩, by decide +kernel⟩
theorem v_X4_forgetFirstAct : Cond.instanceMethod yX4_forgetFirstAct ∈ xtbl ∧ Cond.selects yX4_forgetFirstAct.cls yX4_forgetFirstAct yX4_forgetFirstAct ∈ xtbl := ⟨q_329, qs_14⟩
abbrev m_X4_fractionPart : xY := (yX4_fractionPart, cX4_fractionPart, 7, some .int, { frames := 1, cells := 0, slots := 0, locals := 30 })
theorem k_X4_fractionPart : xMt m_X4_fractionPart 3 := ⟨q_471, q_1, ⟨by decide, by decide⟩, by decide +kernel⟩
theorem s_X4_fractionPart : Cond.static yX4_fractionPart ∈ xtbl := q_470
abbrev m_X4_has : xY := (yX4_has, cX4_has, 2, some .boolean, { frames := 0, cells := 0, slots := 0, locals := 0 })
theorem k_X4_has : xMt m_X4_has 2 := ⟨q_231, q_1, ⟨by decide, by decide⟩, by decide +kernel⟩
theorem s_X4_has : Cond.static yX4_has ∈ xtbl := q_230
abbrev m_X4_init : xY := (yX4_init, cX4_init, 2, none, { frames := 3, cells := 69, slots := 720, locals := 60 })
theorem k_X4_init : xMt m_X4_init 0 := ⟨q_14, q_1, ⟨by decide, by decide⟩, by decide +kernel⟩
theorem v_X4_init : Cond.instanceMethod yX4_init ∈ xtbl := q_13
abbrev m_X4_isBestDay : xY := (yX4_isBestDay, cX4_isBestDay, 7, some .boolean, { frames := 4, cells := 0, slots := 0, locals := 101 })
theorem k_X4_isBestDay : xMt m_X4_isBestDay 4 := ⟨q_493, q_1, ⟨by decide, by decide⟩, by decide +kernel⟩
theorem v_X4_isBestDay : Cond.instanceMethod yX4_isBestDay ∈ xtbl ∧ Cond.selects yX4_isBestDay.cls yX4_isBestDay yX4_isBestDay ∈ xtbl := ⟨q_492, qs_25⟩
abbrev m_X4_isCost : xY := (yX4_isCost, cX4_isCost, 1, some .boolean, { frames := 0, cells := 0, slots := 0, locals := 0 })
theorem k_X4_isCost : xMt m_X4_isCost 1 := ⟨q_458, q_1, ⟨by decide, by decide⟩, by decide +kernel⟩
theorem s_X4_isCost : Cond.static yX4_isCost ∈ xtbl := q_457
abbrev m_X4_judge : xY := (yX4_judge, cX4_judge, 3, some .int, { frames := 5, cells := 0, slots := 0, locals := 122 })
theorem k_X4_judge : xMt m_X4_judge 2 := ⟨q_439, q_1, ⟨by decide, by decide⟩, by decide +kernel⟩
theorem v_X4_judge : Cond.instanceMethod yX4_judge ∈ xtbl ∧ Cond.selects yX4_judge.cls yX4_judge yX4_judge ∈ xtbl := ⟨q_437, q_438⟩
abbrev m_X4_keep : xY := (yX4_keep, cX4_keep, 2, some .int, { frames := 2, cells := 0, slots := 0, locals := 43 })
theorem k_X4_keep : xMt m_X4_keep 1 := ⟨q_516, q_1, ⟨by decide, by decide⟩, by decide +kernel⟩
theorem v_X4_keep : Cond.instanceMethod yX4_keep ∈ xtbl ∧ Cond.selects yX4_keep.cls yX4_keep yX4_keep ∈ xtbl := ⟨q_514, q_515⟩
abbrev m_X4_known : xY := (yX4_known, cX4_known, 2, some .boolean, { frames := 0, cells := 0, slots := 0, locals := 0 })
theorem k_X4_known : xMt m_X4_known 1 := ⟨q_291, q_1, ⟨by decide, by decide⟩, by decide +kernel⟩
theorem v_X4_known : Cond.instanceMethod yX4_known ∈ xtbl ∧ Cond.selects yX4_known.cls yX4_known yX4_known ∈ xtbl := ⟨q_290, qs_11⟩
abbrev m_X4_letter : xY := (yX4_letter, cX4_letter, 3, some .int, { frames := 3, cells := 0, slots := 0, locals := 75 })
theorem k_X4_letter : xMt m_X4_letter 2 := ⟨q_287, q_1, ⟨by decide, by decide⟩, by decide +kernel⟩
theorem v_X4_letter : Cond.instanceMethod yX4_letter ∈ xtbl ∧ Cond.selects yX4_letter.cls yX4_letter yX4_letter ∈ xtbl := ⟨q_285, q_286⟩
abbrev m_X4_lost : xY := (yX4_lost, cX4_lost, 11, some .int, { frames := 3, cells := 0, slots := 0, locals := 75 })
theorem k_X4_lost : xMt m_X4_lost 4 := ⟨q_501, q_1, ⟨by decide, by decide⟩, by decide +kernel⟩
theorem v_X4_lost : Cond.instanceMethod yX4_lost ∈ xtbl ∧ Cond.selects yX4_lost.cls yX4_lost yX4_lost ∈ xtbl := ⟨q_499, q_500⟩
abbrev m_X4_order : xY := (yX4_order, cX4_order, 5, some .int, { frames := 2, cells := 0, slots := 0, locals := 43 })
theorem k_X4_order : xMt m_X4_order 0 := ⟨q_427, q_1, ⟨by decide, by decide⟩, by decide +kernel⟩
theorem v_X4_order : Cond.instanceMethod yX4_order ∈ xtbl ∧ Cond.selects yX4_order.cls yX4_order yX4_order ∈ xtbl := ⟨q_425, q_426⟩
abbrev m_X4_plan : xY := (yX4_plan, cX4_plan, 3, some .int, { frames := 5, cells := 0, slots := 0, locals := 132 })
theorem k_X4_plan : xMt m_X4_plan 2 := ⟨q_376, q_1, ⟨by decide, by decide⟩, by decide +kernel⟩
theorem v_X4_plan : Cond.instanceMethod yX4_plan ∈ xtbl ∧ Cond.selects yX4_plan.cls yX4_plan yX4_plan ∈ xtbl := ⟨q_374, q_375⟩
abbrev m_X4_post : xY := (yX4_post, cX4_post, 1, some .int, { frames := 7, cells := 0, slots := 0, locals := 150 })
theorem k_X4_post : xMt m_X4_post 0 := ⟨q_270, q_1, ⟨by decide, by decide⟩, by decide +kernel⟩
theorem v_X4_post : Cond.instanceMethod yX4_post ∈ xtbl ∧ Cond.selects yX4_post.cls yX4_post yX4_post ∈ xtbl := ⟨q_268, q_269⟩
abbrev m_X4_power : xY := (yX4_power, cX4_power, 5, some .long, { frames := 0, cells := 0, slots := 0, locals := 0 })
theorem k_X4_power : xMt m_X4_power 2 := ⟨q_397, q_1, ⟨by decide, by decide⟩, by decide +kernel⟩
theorem s_X4_power : Cond.static yX4_power ∈ xtbl := q_396
abbrev m_X4_price : xY := (yX4_price, cX4_price, 3, some .int, { frames := 3, cells := 0, slots := 0, locals := 75 })
theorem k_X4_price : xMt m_X4_price 2 := ⟨q_368, q_1, ⟨by decide, by decide⟩, by decide +kernel⟩
theorem v_X4_price : Cond.instanceMethod yX4_price ∈ xtbl ∧ Cond.selects yX4_price.cls yX4_price yX4_price ∈ xtbl := ⟨q_366, q_367⟩
abbrev m_X4_put : xY := (yX4_put, cX4_put, 3, none, { frames := 0, cells := 0, slots := 0, locals := 0 })
theorem k_X4_put : xMt m_X4_put 3 := ⟨q_248, q_1, ⟨by decide, by decide⟩, by decide +kernel⟩
theorem s_X4_put : Cond.static yX4_put ∈ xtbl := q_247
abbrev m_X4_putSent : xY := (yX4_putSent, cX4_putSent, 4, some .int, { frames := 3, cells := 0, slots := 0, locals := 75 })
theorem k_X4_putSent : xMt m_X4_putSent 2 := ⟨q_338, q_1, ⟨by decide, by decide⟩, by decide +kernel⟩
theorem v_X4_putSent : Cond.instanceMethod yX4_putSent ∈ xtbl ∧ Cond.selects yX4_putSent.cls yX4_putSent yX4_putSent ∈ xtbl := ⟨q_337, qs_15⟩
abbrev m_X4_readText : xY := (yX4_readText, cX4_readText, 2, some .int, { frames := 6, cells := 0, slots := 0, locals := 129 })
theorem k_X4_readText : xMt m_X4_readText 0 := ⟨q_182, q_1, ⟨by decide, by decide⟩, by decide +kernel⟩
theorem v_X4_readText : Cond.instanceMethod yX4_readText ∈ xtbl ∧ Cond.selects yX4_readText.cls yX4_readText yX4_readText ∈ xtbl := ⟨q_181, qs_0⟩
abbrev m_X4_remember : xY := (yX4_remember, cX4_remember, 1, none, { frames := 2, cells := 0, slots := 0, locals := 43 })
theorem k_X4_remember : xMt m_X4_remember 0 := ⟨q_326, q_1, ⟨by decide, by decide⟩, by decide +kernel⟩
theorem v_X4_remember : Cond.instanceMethod yX4_remember ∈ xtbl ∧ Cond.selects yX4_remember.cls yX4_remember yX4_remember ∈ xtbl := ⟨q_325, qs_13⟩
abbrev m_X4_rests : xY := (yX4_rests, cX4_rests, 8, some .int, { frames := 5, cells := 0, slots := 0, locals := 127 })
theorem k_X4_rests : xMt m_X4_rests 3 := ⟨q_489, q_1, ⟨by decide, by decide⟩, by decide +kernel⟩
theorem v_X4_rests : Cond.instanceMethod yX4_rests ∈ xtbl ∧ Cond.selects yX4_rests.cls yX4_rests yX4_rests ∈ xtbl := ⟨q_487, q_488⟩
abbrev m_X4_seed : xY := (yX4_seed, cX4_seed, 5, some .long, { frames := 0, cells := 0, slots := 0, locals := 0 })
theorem k_X4_seed : xMt m_X4_seed 1 := ⟨q_506, q_1, ⟨by decide, by decide⟩, by decide +kernel⟩
theorem v_X4_seed : Cond.instanceMethod yX4_seed ∈ xtbl ∧ Cond.selects yX4_seed.cls yX4_seed yX4_seed ∈ xtbl := ⟨q_504, q_505⟩
abbrev m_X4_send : xY := (yX4_send, cX4_send, 2, some .int, { frames := 4, cells := 0, slots := 0, locals := 98 })
theorem k_X4_send : xMt m_X4_send 1 := ⟨q_318, q_1, ⟨by decide, by decide⟩, by decide +kernel⟩
theorem v_X4_send : Cond.instanceMethod yX4_send ∈ xtbl ∧ Cond.selects yX4_send.cls yX4_send yX4_send ∈ xtbl := ⟨q_316, q_317⟩
abbrev m_X4_share : xY := (yX4_share, cX4_share, 12, some .int, { frames := 5, cells := 0, slots := 0, locals := 132 })
theorem k_X4_share : xMt m_X4_share 2 := ⟨q_468, q_1, ⟨by decide, by decide⟩, by decide +kernel⟩
theorem v_X4_share : Cond.instanceMethod yX4_share ∈ xtbl ∧ Cond.selects yX4_share.cls yX4_share yX4_share ∈ xtbl := ⟨q_466, q_467⟩
abbrev m_X4_takeFigures : xY := (yX4_takeFigures, cX4_takeFigures, 5, some .boolean, { frames := 0, cells := 0, slots := 0, locals := 0 })
theorem k_X4_takeFigures : xMt m_X4_takeFigures 2 := ⟨q_443, q_1, ⟨by decide, by decide⟩, by decide +kernel⟩
theorem v_X4_takeFigures : Cond.instanceMethod yX4_takeFigures ∈ xtbl ∧ Cond.selects yX4_takeFigures.cls yX4_takeFigures yX4_takeFigures ∈ xtbl := ⟨q_442, qs_22⟩
abbrev m_X4_tear : xY := (yX4_tear, cX4_tear, 3, some .int, { frames := 3, cells := 0, slots := 0, locals := 63 })
theorem k_X4_tear : xMt m_X4_tear 1 := ⟨q_355, q_1, ⟨by decide, by decide⟩, by decide +kernel⟩
theorem v_X4_tear : Cond.instanceMethod yX4_tear ∈ xtbl ∧ Cond.selects yX4_tear.cls yX4_tear yX4_tear ∈ xtbl := ⟨q_353, q_354⟩
abbrev m_X4_tryThings : xY := (yX4_tryThings, cX4_tryThings, 5, some .int, { frames := 4, cells := 0, slots := 0, locals := 98 })
theorem k_X4_tryThings : xMt m_X4_tryThings 1 := ⟨q_447, q_1, ⟨by decide, by decide⟩, by decide +kernel⟩
theorem v_X4_tryThings : Cond.instanceMethod yX4_tryThings ∈ xtbl ∧ Cond.selects yX4_tryThings.cls yX4_tryThings yX4_tryThings ∈ xtbl := ⟨q_446, qs_23⟩
abbrev m_X4_undo : xY := (yX4_undo, cX4_undo, 1, some .int, { frames := 2, cells := 0, slots := 0, locals := 43 })
theorem k_X4_undo : xMt m_X4_undo 0 := ⟨q_364, q_1, ⟨by decide, by decide⟩, by decide +kernel⟩
theorem v_X4_undo : Cond.instanceMethod yX4_undo ∈ xtbl ∧ Cond.selects yX4_undo.cls yX4_undo yX4_undo ∈ xtbl := ⟨q_362, q_363⟩
abbrev m_X4_unsent : xY := (yX4_unsent, cX4_unsent, 1, some .int, { frames := 1, cells := 0, slots := 0, locals := 20 })
theorem k_X4_unsent : xMt m_X4_unsent 0 := ⟨q_431, q_1, ⟨by decide, by decide⟩, by decide +kernel⟩
theorem v_X4_unsent : Cond.instanceMethod yX4_unsent ∈ xtbl ∧ Cond.selects yX4_unsent.cls yX4_unsent yX4_unsent ∈ xtbl := ⟨q_430, qs_20⟩
abbrev m_X4_waits : xY := (yX4_waits, cX4_waits, 5, some .int, { frames := 2, cells := 0, slots := 0, locals := 49 })
theorem k_X4_waits : xMt m_X4_waits 2 := ⟨q_455, q_1, ⟨by decide, by decide⟩, by decide +kernel⟩
theorem v_X4_waits : Cond.instanceMethod yX4_waits ∈ xtbl ∧ Cond.selects yX4_waits.cls yX4_waits yX4_waits ∈ xtbl := ⟨q_453, q_454⟩
abbrev m_X4_who : xY := (yX4_who, cX4_who, 9, some .int, { frames := 3, cells := 0, slots := 0, locals := 75 })
theorem k_X4_who : xMt m_X4_who 3 := ⟨q_463, q_1, ⟨by decide, by decide⟩, by decide +kernel⟩
theorem v_X4_who : Cond.instanceMethod yX4_who ∈ xtbl ∧ Cond.selects yX4_who.cls yX4_who yX4_who ∈ xtbl := ⟨q_461, q_462⟩
abbrev m_X4_wipe : xY := (yX4_wipe, cX4_wipe, 2, some .int, { frames := 0, cells := 0, slots := 0, locals := 0 })
theorem k_X4_wipe : xMt m_X4_wipe 0 := ⟨q_174, q_1, ⟨by decide, by decide⟩, by decide +kernel⟩
theorem v_X4_wipe : Cond.instanceMethod yX4_wipe ∈ xtbl ∧ Cond.selects yX4_wipe.cls yX4_wipe yX4_wipe ∈ xtbl := ⟨q_172, q_173⟩
abbrev m_X4_within : xY := (yX4_within, cX4_within, 2, some .boolean, { frames := 0, cells := 0, slots := 0, locals := 0 })
theorem k_X4_within : xMt m_X4_within 2 := ⟨q_400, q_1, ⟨by decide, by decide⟩, by decide +kernel⟩
theorem s_X4_within : Cond.static yX4_within ∈ xtbl := q_399
abbrev m_X4_write : xY := (yX4_write, cX4_write, 2, some .int, { frames := 0, cells := 0, slots := 0, locals := 0 })
theorem k_X4_write : xMt m_X4_write 1 := ⟨q_170, q_1, ⟨by decide, by decide⟩, by decide +kernel⟩
theorem v_X4_write : Cond.instanceMethod yX4_write ∈ xtbl ∧ Cond.selects yX4_write.cls yX4_write yX4_write ∈ xtbl := ⟨q_168, q_169⟩
abbrev m_X4_years : xY := (yX4_years, cX4_years, 4, some .int, { frames := 4, cells := 0, slots := 0, locals := 98 })
theorem k_X4_years : xMt m_X4_years 1 := ⟨q_510, q_1, ⟨by decide, by decide⟩, by decide +kernel⟩
theorem v_X4_years : Cond.instanceMethod yX4_years ∈ xtbl ∧ Cond.selects yX4_years.cls yX4_years yX4_years ∈ xtbl := ⟨q_508, q_509⟩
abbrev m_X5_again : xY := (yX5_again, cX5_again, 3, some .int, { frames := 1, cells := 0, slots := 0, locals := 25 })
theorem k_X5_again : xMt m_X5_again 1 := ⟨q_832, q_6, ⟨by decide, by decide⟩, by decide +kernel⟩
theorem v_X5_again : Cond.instanceMethod yX5_again ∈ xtbl ∧ Cond.selects yX5_again.cls yX5_again yX5_again ∈ xtbl := ⟨q_830, q_831⟩
abbrev m_X5_areThings : xY := (yX5_areThings, cX5_areThings, 3, some .boolean, { frames := 1, cells := 0, slots := 0, locals := 25 })
theorem k_X5_areThings : xMt m_X5_areThings 2 := ⟨q_757, q_6, ⟨by decide, by decide⟩, by decide +kernel⟩
theorem v_X5_areThings : Cond.instanceMethod yX5_areThings ∈ xtbl ∧ Cond.selects yX5_areThings.cls yX5_areThings yX5_areThings ∈ xtbl := ⟨q_756, qs_45⟩
abbrev m_X5_canSend : xY := (yX5_canSend, cX5_canSend, 3, some .boolean, { frames := 2, cells := 0, slots := 0, locals := 46 })
theorem k_X5_canSend : xMt m_X5_canSend 2 := ⟨q_745, q_6, ⟨by decide, by decide⟩, by decide +kernel⟩
theorem v_X5_canSend : Cond.instanceMethod yX5_canSend ∈ xtbl ∧ Cond.selects yX5_canSend.cls yX5_canSend yX5_canSend ∈ xtbl := ⟨q_744, qs_44⟩
abbrev m_X5_card : xY := (yX5_card, cX5_card, 2, some .int, { frames := 2, cells := 0, slots := 0, locals := 50 })
theorem k_X5_card : xMt m_X5_card 1 := ⟨q_703, q_6, ⟨by decide, by decide⟩, by decide +kernel⟩
theorem v_X5_card : Cond.instanceMethod yX5_card ∈ xtbl ∧ Cond.selects yX5_card.cls yX5_card yX5_card ∈ xtbl := ⟨q_701, q_702⟩
abbrev m_X5_cheapest : xY := (yX5_cheapest, cX5_cheapest, 4, some .int, { frames := 4, cells := 0, slots := 0, locals := 89 })
theorem k_X5_cheapest : xMt m_X5_cheapest 1 := ⟨q_723, q_6, ⟨by decide, by decide⟩, by decide +kernel⟩
theorem v_X5_cheapest : Cond.instanceMethod yX5_cheapest ∈ xtbl ∧ Cond.selects yX5_cheapest.cls yX5_cheapest yX5_cheapest ∈ xtbl := ⟨q_721, q_722⟩
abbrev m_X5_common : xY := (yX5_common, cX5_common, 5, some .int, { frames := 0, cells := 0, slots := 0, locals := 0 })
theorem k_X5_common : xMt m_X5_common 2 := ⟨q_793, q_6, ⟨by decide, by decide⟩, by decide +kernel⟩
theorem s_X5_common : Cond.static yX5_common ∈ xtbl := q_792
abbrev m_X5_cost : xY := (yX5_cost, cX5_cost, 4, some .int, { frames := 4, cells := 0, slots := 0, locals := 95 })
theorem k_X5_cost : xMt m_X5_cost 2 := ⟨q_769, q_6, ⟨by decide, by decide⟩, by decide +kernel⟩
theorem v_X5_cost : Cond.instanceMethod yX5_cost ∈ xtbl ∧ Cond.selects yX5_cost.cls yX5_cost yX5_cost ∈ xtbl := ⟨q_767, q_768⟩
abbrev m_X5_count : xY := (yX5_count, cX5_count, 4, some .int, { frames := 2, cells := 0, slots := 0, locals := 50 })
theorem k_X5_count : xMt m_X5_count 1 := ⟨q_836, q_6, ⟨by decide, by decide⟩, by decide +kernel⟩
theorem v_X5_count : Cond.instanceMethod yX5_count ∈ xtbl ∧ Cond.selects yX5_count.cls yX5_count yX5_count ∈ xtbl := ⟨q_834, q_835⟩
abbrev m_X5_day : xY := (yX5_day, cX5_day, 1, some .int, { frames := 3, cells := 0, slots := 0, locals := 66 })
theorem k_X5_day : xMt m_X5_day 0 := ⟨q_691, q_6, ⟨by decide, by decide⟩, by decide +kernel⟩
theorem v_X5_day : Cond.instanceMethod yX5_day ∈ xtbl ∧ Cond.selects yX5_day.cls yX5_day yX5_day ∈ xtbl := ⟨q_689, q_690⟩
abbrev m_X5_dayOf : xY := (yX5_dayOf, cX5_dayOf, 3, some .int, { frames := 1, cells := 0, slots := 0, locals := 20 })
theorem k_X5_dayOf : xMt m_X5_dayOf 3 := ⟨q_741, q_6, ⟨by decide, by decide⟩, by decide +kernel⟩
theorem s_X5_dayOf : Cond.static yX5_dayOf ∈ xtbl := q_740
abbrev m_X5_factorial : xY := (yX5_factorial, cX5_factorial, 3, some .int, { frames := 0, cells := 0, slots := 0, locals := 0 })
theorem k_X5_factorial : xMt m_X5_factorial 1 := ⟨q_790, q_6, ⟨by decide, by decide⟩, by decide +kernel⟩
theorem s_X5_factorial : Cond.static yX5_factorial ∈ xtbl := q_789
abbrev m_X5_fault : xY := (yX5_fault, cX5_fault, 1, some .int, { frames := 4, cells := 0, slots := 0, locals := 88 })
theorem k_X5_fault : xMt m_X5_fault 0 := ⟨q_624, q_6, ⟨by decide, by decide⟩, by decide +kernel⟩
theorem v_X5_fault : Cond.instanceMethod yX5_fault ∈ xtbl ∧ Cond.selects yX5_fault.cls yX5_fault yX5_fault ∈ xtbl := ⟨q_622, q_623⟩
abbrev m_X5_figure : xY := (yX5_figure, cX5_figure, 4, some .int, { frames := 1, cells := 0, slots := 0, locals := 25 })
theorem k_X5_figure : xMt m_X5_figure 2 := ⟨q_632, q_6, ⟨by decide, by decide⟩, by decide +kernel⟩
theorem v_X5_figure : Cond.instanceMethod yX5_figure ∈ xtbl ∧ Cond.selects yX5_figure.cls yX5_figure yX5_figure ∈ xtbl := ⟨q_631, qs_29⟩
abbrev m_X5_figureOf : xY := (yX5_figureOf, cX5_figureOf, 3, some .int, { frames := 1, cells := 0, slots := 0, locals := 25 })
theorem k_X5_figureOf : xMt m_X5_figureOf 1 := ⟨q_647, q_6, ⟨by decide, by decide⟩, by decide +kernel⟩
theorem v_X5_figureOf : Cond.instanceMethod yX5_figureOf ∈ xtbl ∧ Cond.selects yX5_figureOf.cls yX5_figureOf yX5_figureOf ∈ xtbl := ⟨q_646, qs_32⟩
abbrev m_X5_firstsLeft : xY := (yX5_firstsLeft, cX5_firstsLeft, 3, some .int, { frames := 2, cells := 0, slots := 0, locals := 44 })
theorem k_X5_firstsLeft : xMt m_X5_firstsLeft 0 := ⟨q_636, q_6, ⟨by decide, by decide⟩, by decide +kernel⟩
theorem v_X5_firstsLeft : Cond.instanceMethod yX5_firstsLeft ∈ xtbl ∧ Cond.selects yX5_firstsLeft.cls yX5_firstsLeft yX5_firstsLeft ∈ xtbl := ⟨q_635, qs_30⟩
abbrev m_X5_fours : xY := (yX5_fours, cX5_fours, 1, some .int, { frames := 0, cells := 0, slots := 0, locals := 0 })
theorem k_X5_fours : xMt m_X5_fours 1 := ⟨q_734, q_6, ⟨by decide, by decide⟩, by decide +kernel⟩
theorem s_X5_fours : Cond.static yX5_fours ∈ xtbl := q_733
abbrev m_X5_has : xY := (yX5_has, cX5_has, 2, some .boolean, { frames := 0, cells := 0, slots := 0, locals := 0 })
theorem k_X5_has : xMt m_X5_has 2 := ⟨q_643, q_6, ⟨by decide, by decide⟩, by decide +kernel⟩
theorem s_X5_has : Cond.static yX5_has ∈ xtbl := q_642
abbrev m_X5_in : xY := (yX5_in, cX5_in, 6, some .boolean, { frames := 0, cells := 0, slots := 0, locals := 0 })
theorem k_X5_in : xMt m_X5_in 3 := ⟨q_616, q_6, ⟨by decide, by decide⟩, by decide +kernel⟩
theorem s_X5_in : Cond.static yX5_in ∈ xtbl := q_615
abbrev m_X5_init : xY := (yX5_init, cX5_init, 1, none, { frames := 1, cells := 11, slots := 450, locals := 20 })
theorem k_X5_init : xMt m_X5_init 0 := ⟨q_533, q_6, ⟨by decide, by decide⟩, by decide +kernel⟩
theorem v_X5_init : Cond.instanceMethod yX5_init ∈ xtbl := q_532
abbrev m_X5_isLetter : xY := (yX5_isLetter, cX5_isLetter, 2, some .boolean, { frames := 1, cells := 0, slots := 0, locals := 25 })
theorem k_X5_isLetter : xMt m_X5_isLetter 1 := ⟨q_660, q_6, ⟨by decide, by decide⟩, by decide +kernel⟩
theorem v_X5_isLetter : Cond.instanceMethod yX5_isLetter ∈ xtbl ∧ Cond.selects yX5_isLetter.cls yX5_isLetter yX5_isLetter ∈ xtbl := ⟨q_659, qs_33⟩
abbrev m_X5_isRest : xY := (yX5_isRest, cX5_isRest, 7, some .boolean, { frames := 4, cells := 0, slots := 0, locals := 92 })
theorem k_X5_isRest : xMt m_X5_isRest 4 := ⟨q_801, q_6, ⟨by decide, by decide⟩, by decide +kernel⟩
theorem v_X5_isRest : Cond.instanceMethod yX5_isRest ∈ xtbl ∧ Cond.selects yX5_isRest.cls yX5_isRest yX5_isRest ∈ xtbl := ⟨q_800, qs_48⟩
abbrev m_X5_isSent : xY := (yX5_isSent, cX5_isSent, 3, some .boolean, { frames := 1, cells := 0, slots := 0, locals := 21 })
theorem k_X5_isSent : xMt m_X5_isSent 2 := ⟨q_664, q_6, ⟨by decide, by decide⟩, by decide +kernel⟩
theorem v_X5_isSent : Cond.instanceMethod yX5_isSent ∈ xtbl ∧ Cond.selects yX5_isSent.cls yX5_isSent yX5_isSent ∈ xtbl := ⟨q_663, qs_34⟩
abbrev m_X5_judge : xY := (yX5_judge, cX5_judge, 4, some .int, { frames := 4, cells := 0, slots := 0, locals := 95 })
theorem k_X5_judge : xMt m_X5_judge 2 := ⟨q_753, q_6, ⟨by decide, by decide⟩, by decide +kernel⟩
theorem v_X5_judge : Cond.instanceMethod yX5_judge ∈ xtbl ∧ Cond.selects yX5_judge.cls yX5_judge yX5_judge ∈ xtbl := ⟨q_751, q_752⟩
abbrev m_X5_keep : xY := (yX5_keep, cX5_keep, 3, some .int, { frames := 1, cells := 0, slots := 0, locals := 25 })
theorem k_X5_keep : xMt m_X5_keep 1 := ⟨q_828, q_6, ⟨by decide, by decide⟩, by decide +kernel⟩
theorem v_X5_keep : Cond.instanceMethod yX5_keep ∈ xtbl ∧ Cond.selects yX5_keep.cls yX5_keep yX5_keep ∈ xtbl := ⟨q_826, q_827⟩
abbrev m_X5_keepAct : xY := (yX5_keepAct, cX5_keepAct, 2, none, { frames := 0, cells := 0, slots := 0, locals := 0 })
theorem k_X5_keepAct : xMt m_X5_keepAct 0 := ⟨q_683, q_6, ⟨by decide, by decide⟩, by decide +kernel⟩
theorem v_X5_keepAct : Cond.instanceMethod yX5_keepAct ∈ xtbl ∧ Cond.selects yX5_keepAct.cls yX5_keepAct yX5_keepAct ∈ xtbl := ⟨q_682, qs_37⟩
abbrev m_X5_layTrial : xY := (yX5_layTrial, cX5_layTrial, 2, none, { frames := 0, cells := 0, slots := 0, locals := 0 })
theorem k_X5_layTrial : xMt m_X5_layTrial 0 := ⟨q_719, q_6, ⟨by decide, by decide⟩, by decide +kernel⟩
theorem v_X5_layTrial : Cond.instanceMethod yX5_layTrial ∈ xtbl ∧ Cond.selects yX5_layTrial.cls yX5_layTrial yX5_layTrial ∈ xtbl := ⟨q_718, qs_41⟩
abbrev m_X5_leastOf : xY := (yX5_leastOf, cX5_leastOf, 5, some .int, { frames := 4, cells := 0, slots := 0, locals := 101 })
theorem k_X5_leastOf : xMt m_X5_leastOf 1 := ⟨q_731, q_6, ⟨by decide, by decide⟩, by decide +kernel⟩
theorem v_X5_leastOf : Cond.instanceMethod yX5_leastOf ∈ xtbl ∧ Cond.selects yX5_leastOf.cls yX5_leastOf yX5_leastOf ∈ xtbl := ⟨q_730, qs_42⟩
abbrev m_X5_left : xY := (yX5_left, cX5_left, 4, some .int, { frames := 1, cells := 0, slots := 0, locals := 21 })
theorem k_X5_left : xMt m_X5_left 1 := ⟨q_640, q_6, ⟨by decide, by decide⟩, by decide +kernel⟩
theorem v_X5_left : Cond.instanceMethod yX5_left ∈ xtbl ∧ Cond.selects yX5_left.cls yX5_left yX5_left ∈ xtbl := ⟨q_639, qs_31⟩
abbrev m_X5_letter : xY := (yX5_letter, cX5_letter, 3, some .int, { frames := 2, cells := 0, slots := 0, locals := 50 })
theorem k_X5_letter : xMt m_X5_letter 2 := ⟨q_656, q_6, ⟨by decide, by decide⟩, by decide +kernel⟩
theorem v_X5_letter : Cond.instanceMethod yX5_letter ∈ xtbl ∧ Cond.selects yX5_letter.cls yX5_letter yX5_letter ∈ xtbl := ⟨q_654, q_655⟩
abbrev m_X5_lost : xY := (yX5_lost, cX5_lost, 10, some .int, { frames := 2, cells := 0, slots := 0, locals := 49 })
theorem k_X5_lost : xMt m_X5_lost 4 := ⟨q_809, q_6, ⟨by decide, by decide⟩, by decide +kernel⟩
theorem v_X5_lost : Cond.instanceMethod yX5_lost ∈ xtbl ∧ Cond.selects yX5_lost.cls yX5_lost yX5_lost ∈ xtbl := ⟨q_807, q_808⟩
abbrev m_X5_ones : xY := (yX5_ones, cX5_ones, 3, some .int, { frames := 0, cells := 0, slots := 0, locals := 0 })
theorem k_X5_ones : xMt m_X5_ones 1 := ⟨q_671, q_6, ⟨by decide, by decide⟩, by decide +kernel⟩
theorem s_X5_ones : Cond.static yX5_ones ∈ xtbl := q_670
abbrev m_X5_order : xY := (yX5_order, cX5_order, 5, some .int, { frames := 1, cells := 0, slots := 0, locals := 21 })
theorem k_X5_order : xMt m_X5_order 0 := ⟨q_749, q_6, ⟨by decide, by decide⟩, by decide +kernel⟩
theorem v_X5_order : Cond.instanceMethod yX5_order ∈ xtbl ∧ Cond.selects yX5_order.cls yX5_order yX5_order ∈ xtbl := ⟨q_747, q_748⟩
abbrev m_X5_paidBy : xY := (yX5_paidBy, cX5_paidBy, 8, some .int, { frames := 3, cells := 0, slots := 0, locals := 74 })
theorem k_X5_paidBy : xMt m_X5_paidBy 2 := ⟨q_738, q_6, ⟨by decide, by decide⟩, by decide +kernel⟩
theorem v_X5_paidBy : Cond.instanceMethod yX5_paidBy ∈ xtbl ∧ Cond.selects yX5_paidBy.cls yX5_paidBy yX5_paidBy ∈ xtbl := ⟨q_737, qs_43⟩
abbrev m_X5_passOn : xY := (yX5_passOn, cX5_passOn, 4, none, { frames := 2, cells := 0, slots := 0, locals := 43 })
theorem k_X5_passOn : xMt m_X5_passOn 1 := ⟨q_695, q_6, ⟨by decide, by decide⟩, by decide +kernel⟩
theorem v_X5_passOn : Cond.instanceMethod yX5_passOn ∈ xtbl ∧ Cond.selects yX5_passOn.cls yX5_passOn yX5_passOn ∈ xtbl := ⟨q_694, qs_39⟩
abbrev m_X5_paysIf : xY := (yX5_paysIf, cX5_paysIf, 7, some .int, { frames := 3, cells := 0, slots := 0, locals := 66 })
theorem k_X5_paysIf : xMt m_X5_paysIf 4 := ⟨q_805, q_6, ⟨by decide, by decide⟩, by decide +kernel⟩
theorem v_X5_paysIf : Cond.instanceMethod yX5_paysIf ∈ xtbl ∧ Cond.selects yX5_paysIf.cls yX5_paysIf yX5_paysIf ∈ xtbl := ⟨q_804, qs_49⟩
abbrev m_X5_plan : xY := (yX5_plan, cX5_plan, 6, some .int, { frames := 5, cells := 0, slots := 0, locals := 125 })
theorem k_X5_plan : xMt m_X5_plan 2 := ⟨q_727, q_6, ⟨by decide, by decide⟩, by decide +kernel⟩
theorem v_X5_plan : Cond.instanceMethod yX5_plan ∈ xtbl ∧ Cond.selects yX5_plan.cls yX5_plan yX5_plan ∈ xtbl := ⟨q_725, q_726⟩
abbrev m_X5_post : xY := (yX5_post, cX5_post, 2, some .int, { frames := 4, cells := 0, slots := 0, locals := 88 })
theorem k_X5_post : xMt m_X5_post 0 := ⟨q_652, q_6, ⟨by decide, by decide⟩, by decide +kernel⟩
theorem v_X5_post : Cond.instanceMethod yX5_post ∈ xtbl ∧ Cond.selects yX5_post.cls yX5_post yX5_post ∈ xtbl := ⟨q_650, q_651⟩
abbrev m_X5_power : xY := (yX5_power, cX5_power, 4, some .int, { frames := 0, cells := 0, slots := 0, locals := 0 })
theorem k_X5_power : xMt m_X5_power 2 := ⟨q_813, q_6, ⟨by decide, by decide⟩, by decide +kernel⟩
theorem s_X5_power : Cond.static yX5_power ∈ xtbl := q_812
abbrev m_X5_price : xY := (yX5_price, cX5_price, 3, some .int, { frames := 4, cells := 0, slots := 0, locals := 89 })
theorem k_X5_price : xMt m_X5_price 2 := ⟨q_711, q_6, ⟨by decide, by decide⟩, by decide +kernel⟩
theorem v_X5_price : Cond.instanceMethod yX5_price ∈ xtbl ∧ Cond.selects yX5_price.cls yX5_price yX5_price ∈ xtbl := ⟨q_709, q_710⟩
abbrev m_X5_priceBy : xY := (yX5_priceBy, cX5_priceBy, 8, some .int, { frames := 0, cells := 0, slots := 0, locals := 0 })
theorem k_X5_priceBy : xMt m_X5_priceBy 5 := ⟨q_675, q_6, ⟨by decide, by decide⟩, by decide +kernel⟩
theorem v_X5_priceBy : Cond.instanceMethod yX5_priceBy ∈ xtbl ∧ Cond.selects yX5_priceBy.cls yX5_priceBy yX5_priceBy ∈ xtbl := ⟨q_674, qs_36⟩
abbrev m_X5_priceIn : xY := (yX5_priceIn, cX5_priceIn, 4, some .int, { frames := 3, cells := 0, slots := 0, locals := 66 })
theorem k_X5_priceIn : xMt m_X5_priceIn 2 := ⟨q_715, q_6, ⟨by decide, by decide⟩, by decide +kernel⟩
theorem v_X5_priceIn : Cond.instanceMethod yX5_priceIn ∈ xtbl ∧ Cond.selects yX5_priceIn.cls yX5_priceIn yX5_priceIn ∈ xtbl := ⟨q_714, qs_40⟩
abbrev m_X5_priceOn : xY := (yX5_priceOn, cX5_priceOn, 4, some .int, { frames := 1, cells := 0, slots := 0, locals := 27 })
theorem k_X5_priceOn : xMt m_X5_priceOn 2 := ⟨q_668, q_6, ⟨by decide, by decide⟩, by decide +kernel⟩
theorem v_X5_priceOn : Cond.instanceMethod yX5_priceOn ∈ xtbl ∧ Cond.selects yX5_priceOn.cls yX5_priceOn yX5_priceOn ∈ xtbl := ⟨q_667, qs_35⟩
abbrev m_X5_priceWith : xY := (yX5_priceWith, cX5_priceWith, 3, some .int, { frames := 1, cells := 0, slots := 0, locals := 27 })
theorem k_X5_priceWith : xMt m_X5_priceWith 2 := ⟨q_783, q_6, ⟨by decide, by decide⟩, by decide +kernel⟩
theorem v_X5_priceWith : Cond.instanceMethod yX5_priceWith ∈ xtbl ∧ Cond.selects yX5_priceWith.cls yX5_priceWith yX5_priceWith ∈ xtbl := ⟨q_782, qs_47⟩
abbrev m_X5_readText : xY := (yX5_readText, cX5_readText, 3, some .int, { frames := 3, cells := 0, slots := 0, locals := 66 })
theorem k_X5_readText : xMt m_X5_readText 0 := ⟨q_628, q_6, ⟨by decide, by decide⟩, by decide +kernel⟩
theorem v_X5_readText : Cond.instanceMethod yX5_readText ∈ xtbl ∧ Cond.selects yX5_readText.cls yX5_readText yX5_readText ∈ xtbl := ⟨q_627, qs_28⟩
abbrev m_X5_rests : xY := (yX5_rests, cX5_rests, 7, some .int, { frames := 5, cells := 0, slots := 0, locals := 118 })
theorem k_X5_rests : xMt m_X5_rests 3 := ⟨q_797, q_6, ⟨by decide, by decide⟩, by decide +kernel⟩
theorem v_X5_rests : Cond.instanceMethod yX5_rests ∈ xtbl ∧ Cond.selects yX5_rests.cls yX5_rests yX5_rests ∈ xtbl := ⟨q_795, q_796⟩
abbrev m_X5_seed : xY := (yX5_seed, cX5_seed, 5, some .long, { frames := 0, cells := 0, slots := 0, locals := 0 })
theorem k_X5_seed : xMt m_X5_seed 1 := ⟨q_817, q_6, ⟨by decide, by decide⟩, by decide +kernel⟩
theorem v_X5_seed : Cond.instanceMethod yX5_seed ∈ xtbl ∧ Cond.selects yX5_seed.cls yX5_seed yX5_seed ∈ xtbl := ⟨q_815, q_816⟩
abbrev m_X5_send : xY := (yX5_send, cX5_send, 2, some .int, { frames := 3, cells := 0, slots := 0, locals := 74 })
theorem k_X5_send : xMt m_X5_send 1 := ⟨q_679, q_6, ⟨by decide, by decide⟩, by decide +kernel⟩
theorem v_X5_send : Cond.instanceMethod yX5_send ∈ xtbl ∧ Cond.selects yX5_send.cls yX5_send yX5_send ∈ xtbl := ⟨q_677, q_678⟩
abbrev m_X5_sendOn : xY := (yX5_sendOn, cX5_sendOn, 5, some .int, { frames := 2, cells := 0, slots := 0, locals := 50 })
theorem k_X5_sendOn : xMt m_X5_sendOn 2 := ⟨q_687, q_6, ⟨by decide, by decide⟩, by decide +kernel⟩
theorem v_X5_sendOn : Cond.instanceMethod yX5_sendOn ∈ xtbl ∧ Cond.selects yX5_sendOn.cls yX5_sendOn yX5_sendOn ∈ xtbl := ⟨q_686, qs_38⟩
abbrev m_X5_share : xY := (yX5_share, cX5_share, 7, some .int, { frames := 5, cells := 0, slots := 0, locals := 125 })
theorem k_X5_share : xMt m_X5_share 2 := ⟨q_787, q_6, ⟨by decide, by decide⟩, by decide +kernel⟩
theorem v_X5_share : Cond.instanceMethod yX5_share ∈ xtbl ∧ Cond.selects yX5_share.cls yX5_share yX5_share ∈ xtbl := ⟨q_785, q_786⟩
abbrev m_X5_tear : xY := (yX5_tear, cX5_tear, 3, some .int, { frames := 2, cells := 0, slots := 0, locals := 46 })
theorem k_X5_tear : xMt m_X5_tear 1 := ⟨q_699, q_6, ⟨by decide, by decide⟩, by decide +kernel⟩
theorem v_X5_tear : Cond.instanceMethod yX5_tear ∈ xtbl ∧ Cond.selects yX5_tear.cls yX5_tear yX5_tear ∈ xtbl := ⟨q_697, q_698⟩
abbrev m_X5_tenTo : xY := (yX5_tenTo, cX5_tenTo, 3, some .int, { frames := 0, cells := 0, slots := 0, locals := 0 })
theorem k_X5_tenTo : xMt m_X5_tenTo 1 := ⟨q_761, q_6, ⟨by decide, by decide⟩, by decide +kernel⟩
theorem s_X5_tenTo : Cond.static yX5_tenTo ∈ xtbl := q_760
abbrev m_X5_tryThing : xY := (yX5_tryThing, cX5_tryThing, 2, some .boolean, { frames := 3, cells := 0, slots := 0, locals := 74 })
theorem k_X5_tryThing : xMt m_X5_tryThing 1 := ⟨q_765, q_6, ⟨by decide, by decide⟩, by decide +kernel⟩
theorem v_X5_tryThing : Cond.instanceMethod yX5_tryThing ∈ xtbl ∧ Cond.selects yX5_tryThing.cls yX5_tryThing yX5_tryThing ∈ xtbl := ⟨q_764, qs_46⟩
abbrev m_X5_undo : xY := (yX5_undo, cX5_undo, 2, some .int, { frames := 0, cells := 0, slots := 0, locals := 0 })
theorem k_X5_undo : xMt m_X5_undo 0 := ⟨q_707, q_6, ⟨by decide, by decide⟩, by decide +kernel⟩
theorem v_X5_undo : Cond.instanceMethod yX5_undo ∈ xtbl ∧ Cond.selects yX5_undo.cls yX5_undo yX5_undo ∈ xtbl := ⟨q_705, q_706⟩
abbrev m_X5_waits : xY := (yX5_waits, cX5_waits, 6, some .int, { frames := 2, cells := 0, slots := 0, locals := 46 })
theorem k_X5_waits : xMt m_X5_waits 2 := ⟨q_773, q_6, ⟨by decide, by decide⟩, by decide +kernel⟩
theorem v_X5_waits : Cond.instanceMethod yX5_waits ∈ xtbl ∧ Cond.selects yX5_waits.cls yX5_waits yX5_waits ∈ xtbl := ⟨q_771, q_772⟩
abbrev m_X5_who : xY := (yX5_who, cX5_who, 8, some .int, { frames := 2, cells := 0, slots := 0, locals := 49 })
theorem k_X5_who : xMt m_X5_who 3 := ⟨q_778, q_6, ⟨by decide, by decide⟩, by decide +kernel⟩
theorem v_X5_who : Cond.instanceMethod yX5_who ∈ xtbl ∧ Cond.selects yX5_who.cls yX5_who yX5_who ∈ xtbl := ⟨q_776, q_777⟩
abbrev m_X5_wipe : xY := (yX5_wipe, cX5_wipe, 2, some .int, { frames := 0, cells := 0, slots := 0, locals := 0 })
theorem k_X5_wipe : xMt m_X5_wipe 0 := ⟨q_620, q_6, ⟨by decide, by decide⟩, by decide +kernel⟩
theorem v_X5_wipe : Cond.instanceMethod yX5_wipe ∈ xtbl ∧ Cond.selects yX5_wipe.cls yX5_wipe yX5_wipe ∈ xtbl := ⟨q_618, q_619⟩
abbrev m_X5_write : xY := (yX5_write, cX5_write, 2, some .int, { frames := 1, cells := 0, slots := 0, locals := 25 })
theorem k_X5_write : xMt m_X5_write 1 := ⟨q_612, q_6, ⟨by decide, by decide⟩, by decide +kernel⟩
theorem v_X5_write : Cond.instanceMethod yX5_write ∈ xtbl ∧ Cond.selects yX5_write.cls yX5_write yX5_write ∈ xtbl := ⟨q_610, q_611⟩
abbrev m_X5_years : xY := (yX5_years, cX5_years, 4, some .int, { frames := 3, cells := 0, slots := 0, locals := 74 })
theorem k_X5_years : xMt m_X5_years 1 := ⟨q_821, q_6, ⟨by decide, by decide⟩, by decide +kernel⟩
theorem v_X5_years : Cond.instanceMethod yX5_years ∈ xtbl ∧ Cond.selects yX5_years.cls yX5_years yX5_years ∈ xtbl := ⟨q_819, q_820⟩
-- links of calls
theorem l_X4_1 : Cond.methodLink "WaitedPost" 1 Lib.objectInit ∈ xtbl := q_15
theorem l_X4_15 : Cond.methodLink "WaitedPost" 15 yX1_init ∈ xtbl := q_20
theorem l_X4_22 : Cond.methodLink "WaitedPost" 22 yX3_init ∈ xtbl := q_73
theorem l_X4_29 : Cond.methodLink "WaitedPost" 29 yX2_init ∈ xtbl := q_76
theorem l_X4_49 : Cond.methodLink "WaitedPost" 49 yX0_init ∈ xtbl := q_118
theorem l_X4_58 : Cond.methodLink "WaitedPost" 58 yX4_readText ∈ xtbl := q_179
theorem l_X4_65 : Cond.methodLink "WaitedPost" 65 yX3_take ∈ xtbl := q_271
theorem l_X4_69 : Cond.methodLink "WaitedPost" 69 yX2_begin ∈ xtbl := q_278
theorem l_X4_81 : Cond.methodLink "WaitedPost" 81 yX4_known ∈ xtbl := q_288
theorem l_X4_88 : Cond.methodLink "WaitedPost" 88 yX4_at ∈ xtbl := q_292
theorem l_X4_101 : Cond.methodLink "WaitedPost" 101 yX4_has ∈ xtbl := q_293
theorem l_X4_111 : Cond.methodLink "WaitedPost" 111 yX3_costIn ∈ xtbl := q_294
theorem l_X4_115 : Cond.methodLink "WaitedPost" 115 yX4_canBeSent ∈ xtbl := q_319
theorem l_X4_119 : Cond.methodLink "WaitedPost" 119 yX4_remember ∈ xtbl := q_323
theorem l_X4_122 : Cond.methodLink "WaitedPost" 122 yX4_putSent ∈ xtbl := q_335
theorem l_X4_126 : Cond.methodLink "WaitedPost" 126 yX2_passDay ∈ xtbl := q_344
theorem l_X4_133 : Cond.methodLink "WaitedPost" 133 yX4_put ∈ xtbl := q_356
theorem l_X4_137 : Cond.methodLink "WaitedPost" 137 yX4_bit ∈ xtbl := q_339
theorem l_X4_141 : Cond.methodLink "WaitedPost" 141 yX2_take ∈ xtbl := q_331
theorem l_X4_144 : Cond.methodLink "WaitedPost" 144 yX0_fill ∈ xtbl := q_377
theorem l_X4_148 : Cond.methodLink "WaitedPost" 148 yX0_hasRoom ∈ xtbl := q_412
theorem l_X4_151 : Cond.methodLink "WaitedPost" 151 yX0_rowOf ∈ xtbl := q_416
theorem l_X4_154 : Cond.methodLink "WaitedPost" 154 yX0_paidFor ∈ xtbl := q_420
theorem l_X4_157 : Cond.methodLink "WaitedPost" 157 yX4_unsent ∈ xtbl := q_428
theorem l_X4_160 : Cond.methodLink "WaitedPost" 160 yX4_firstUnexplained ∈ xtbl := q_432
theorem l_X4_163 : Cond.methodLink "WaitedPost" 163 yX4_takeFigures ∈ xtbl := q_440
theorem l_X4_166 : Cond.methodLink "WaitedPost" 166 yX4_tryThings ∈ xtbl := q_444
theorem l_X4_172 : Cond.methodLink "WaitedPost" 172 yX4_isCost ∈ xtbl := q_456
theorem l_X4_175 : Cond.methodLink "WaitedPost" 175 yX3_costOf ∈ xtbl := q_459
theorem l_X4_179 : Cond.methodLink "WaitedPost" 179 yX4_within ∈ xtbl := q_464
theorem l_X4_182 : Cond.methodLink "WaitedPost" 182 yX4_fractionPart ∈ xtbl := q_469
theorem l_X4_186 : Cond.methodLink "WaitedPost" 186 yJ6_bitCount_0f7a4 ∈ xtbl := q_478
theorem l_X4_191 : Cond.methodLink "WaitedPost" 191 yX4_factorial ∈ xtbl := q_479
theorem l_X4_195 : Cond.methodLink "WaitedPost" 195 yX4_costForShare ∈ xtbl := q_482
theorem l_X4_198 : Cond.methodLink "WaitedPost" 198 yX4_isBestDay ∈ xtbl := q_490
theorem l_X4_202 : Cond.methodLink "WaitedPost" 202 yX4_power ∈ xtbl := q_502
theorem l_X4_223 : Cond.methodLink "WaitedPost" 223 yX4_costOfUnsent ∈ xtbl := q_525
theorem l_X4_226 : Cond.methodLink "WaitedPost" 226 yX1_begin ∈ xtbl := q_183
theorem l_X4_228 : Cond.methodLink "WaitedPost" 228 yX1_takes ∈ xtbl := q_194
theorem l_X4_231 : Cond.methodLink "WaitedPost" 231 yX1_mayEnd ∈ xtbl := q_263
theorem l_X4_235 : Cond.methodLink "WaitedPost" 235 yX4_forgetFirstAct ∈ xtbl := q_327
theorem l_X4_238 : Cond.methodLink "WaitedPost" 238 yX4_costBeside ∈ xtbl := q_494
theorem l_X4_242 : Cond.methodLink "WaitedPost" 242 yJ9_abs_067f4 ∈ xtbl := q_472
theorem l_X4_248 : Cond.methodLink "WaitedPost" 248 yX4_commonDivisor ∈ xtbl := q_475
theorem l_X0_3 : Cond.methodLink "WaitedPost$Planner" 3 Lib.objectInit ∈ xtbl := q_121
theorem l_X0_17 : Cond.methodLink "WaitedPost$Planner" 17 yJ7_fill_d0a16 ∈ xtbl := q_382
theorem l_X0_29 : Cond.methodLink "WaitedPost$Planner" 29 yX0_lower ∈ xtbl := q_385
theorem l_X0_37 : Cond.methodLink "WaitedPost$Planner" 37 yX0_tryLetter ∈ xtbl := q_390
theorem l_X0_41 : Cond.methodLink "WaitedPost$Planner" 41 yX0_endDay ∈ xtbl := q_408
theorem l_X0_44 : Cond.methodLink "WaitedPost$Planner" 44 yX0_bestAt ∈ xtbl := q_404
theorem l_X0_50 : Cond.methodLink "WaitedPost$Planner" 50 yJ6_bitCount_0f7a4 ∈ xtbl := q_394
theorem l_X0_66 : Cond.methodLink "WaitedPost$Planner" 66 yX3_costIn ∈ xtbl := q_402
theorem l_X1_3 : Cond.methodLink "WaitedPost$Reader" 3 Lib.objectInit ∈ xtbl := q_23
theorem l_X1_11 : Cond.methodLink "WaitedPost$Reader" 11 yX3_init ∈ xtbl := q_26
theorem l_X1_18 : Cond.methodLink "WaitedPost$Reader" 18 yX3_clear ∈ xtbl := q_187
theorem l_X1_25 : Cond.methodLink "WaitedPost$Reader" 25 yX1_takesHead ∈ xtbl := q_198
theorem l_X1_29 : Cond.methodLink "WaitedPost$Reader" 29 yX1_takesPardon ∈ xtbl := q_202
theorem l_X1_32 : Cond.methodLink "WaitedPost$Reader" 32 yX1_takesRoom ∈ xtbl := q_206
theorem l_X1_35 : Cond.methodLink "WaitedPost$Reader" 35 yX1_takesPart ∈ xtbl := q_210
theorem l_X1_38 : Cond.methodLink "WaitedPost$Reader" 38 yX1_takesWaited ∈ xtbl := q_232
theorem l_X1_41 : Cond.methodLink "WaitedPost$Reader" 41 yX1_takesKind ∈ xtbl := q_236
theorem l_X1_44 : Cond.methodLink "WaitedPost$Reader" 44 yX1_takesExplainer ∈ xtbl := q_249
theorem l_X1_47 : Cond.methodLink "WaitedPost$Reader" 47 yX1_takesExplained ∈ xtbl := q_253
theorem l_X1_59 : Cond.methodLink "WaitedPost$Reader" 59 yX1_hasOpenPair ∈ xtbl := q_214
theorem l_X1_70 : Cond.methodLink "WaitedPost$Reader" 70 yX3_addLetter ∈ xtbl := q_242
theorem l_X1_74 : Cond.methodLink "WaitedPost$Reader" 74 yX1_isOpen ∈ xtbl := q_218
theorem l_X1_96 : Cond.methodLink "WaitedPost$Reader" 96 yX3_explainedBy ∈ xtbl := q_222
theorem l_X2_3 : Cond.methodLink "WaitedPost$Standing" 3 Lib.objectInit ∈ xtbl := q_79
theorem l_X2_34 : Cond.methodLink "WaitedPost$Standing" 34 yJ7_fill_53178 ∈ xtbl := q_282
theorem l_X2_59 : Cond.methodLink "WaitedPost$Standing" 59 yJ9_min_7cf53 ∈ xtbl := q_351
theorem l_X3_3 : Cond.methodLink "WaitedPost$Told" 3 Lib.objectInit ∈ xtbl := q_29
theorem l_X3_31 : Cond.methodLink "WaitedPost$Told" 31 yJ7_fill_53178 ∈ xtbl := q_191
theorem l_X3_58 : Cond.methodLink "WaitedPost$Told" 58 yJ9_max_7cf53 ∈ xtbl := q_298
theorem l_X3_65 : Cond.methodLink "WaitedPost$Told" 65 yJ9_min_7cf53 ∈ xtbl := q_301
theorem l_X3_74 : Cond.methodLink "WaitedPost$Told" 74 yX3_costOf ∈ xtbl := q_304
theorem l_X3_81 : Cond.methodLink "WaitedPost$Told" 81 yJ6_bitCount_0f7a4 ∈ xtbl := q_309
theorem l_L_9 : Cond.methodLink "WaitedPostLaw" 9 yX4_init ∈ xtbl := q_12
theorem l_L_12 : Cond.methodLink "WaitedPostLaw" 12 yX5_init ∈ xtbl := q_531
theorem l_L_13 : Cond.methodLink "WaitedPostLaw" 13 yX4_write ∈ xtbl := q_167
theorem l_L_17 : Cond.methodLink "WaitedPostLaw" 17 yX5_write ∈ xtbl := q_609
theorem l_L_18 : Cond.methodLink "WaitedPostLaw" 18 yX4_wipe ∈ xtbl := q_171
theorem l_L_22 : Cond.methodLink "WaitedPostLaw" 22 yX5_wipe ∈ xtbl := q_617
theorem l_L_23 : Cond.methodLink "WaitedPostLaw" 23 yX4_fault ∈ xtbl := q_175
theorem l_L_26 : Cond.methodLink "WaitedPostLaw" 26 yX5_fault ∈ xtbl := q_621
theorem l_L_27 : Cond.methodLink "WaitedPostLaw" 27 yX4_post ∈ xtbl := q_267
theorem l_L_30 : Cond.methodLink "WaitedPostLaw" 30 yX5_post ∈ xtbl := q_649
theorem l_L_31 : Cond.methodLink "WaitedPostLaw" 31 yX4_letter ∈ xtbl := q_284
theorem l_L_35 : Cond.methodLink "WaitedPostLaw" 35 yX5_letter ∈ xtbl := q_653
theorem l_L_36 : Cond.methodLink "WaitedPostLaw" 36 yX4_send ∈ xtbl := q_315
theorem l_L_39 : Cond.methodLink "WaitedPostLaw" 39 yX5_send ∈ xtbl := q_676
theorem l_L_40 : Cond.methodLink "WaitedPostLaw" 40 yX4_day ∈ xtbl := q_340
theorem l_L_43 : Cond.methodLink "WaitedPostLaw" 43 yX5_day ∈ xtbl := q_688
theorem l_L_44 : Cond.methodLink "WaitedPostLaw" 44 yX4_tear ∈ xtbl := q_352
theorem l_L_47 : Cond.methodLink "WaitedPostLaw" 47 yX5_tear ∈ xtbl := q_696
theorem l_L_48 : Cond.methodLink "WaitedPostLaw" 48 yX4_card ∈ xtbl := q_357
theorem l_L_51 : Cond.methodLink "WaitedPostLaw" 51 yX5_card ∈ xtbl := q_700
theorem l_L_52 : Cond.methodLink "WaitedPostLaw" 52 yX4_undo ∈ xtbl := q_361
theorem l_L_55 : Cond.methodLink "WaitedPostLaw" 55 yX5_undo ∈ xtbl := q_704
theorem l_L_56 : Cond.methodLink "WaitedPostLaw" 56 yX4_price ∈ xtbl := q_365
theorem l_L_59 : Cond.methodLink "WaitedPostLaw" 59 yX5_price ∈ xtbl := q_708
theorem l_L_60 : Cond.methodLink "WaitedPostLaw" 60 yX4_cheapest ∈ xtbl := q_369
theorem l_L_63 : Cond.methodLink "WaitedPostLaw" 63 yX5_cheapest ∈ xtbl := q_720
theorem l_L_64 : Cond.methodLink "WaitedPostLaw" 64 yX4_plan ∈ xtbl := q_373
theorem l_L_68 : Cond.methodLink "WaitedPostLaw" 68 yX5_plan ∈ xtbl := q_724
theorem l_L_69 : Cond.methodLink "WaitedPostLaw" 69 yX4_order ∈ xtbl := q_424
theorem l_L_72 : Cond.methodLink "WaitedPostLaw" 72 yX5_order ∈ xtbl := q_746
theorem l_L_73 : Cond.methodLink "WaitedPostLaw" 73 yX4_judge ∈ xtbl := q_436
theorem l_L_76 : Cond.methodLink "WaitedPostLaw" 76 yX5_judge ∈ xtbl := q_750
theorem l_L_77 : Cond.methodLink "WaitedPostLaw" 77 yX4_cost ∈ xtbl := q_448
theorem l_L_80 : Cond.methodLink "WaitedPostLaw" 80 yX5_cost ∈ xtbl := q_766
theorem l_L_81 : Cond.methodLink "WaitedPostLaw" 81 yX4_waits ∈ xtbl := q_452
theorem l_L_84 : Cond.methodLink "WaitedPostLaw" 84 yX5_waits ∈ xtbl := q_770
theorem l_L_85 : Cond.methodLink "WaitedPostLaw" 85 yX4_who ∈ xtbl := q_460
theorem l_L_89 : Cond.methodLink "WaitedPostLaw" 89 yX5_who ∈ xtbl := q_775
theorem l_L_90 : Cond.methodLink "WaitedPostLaw" 90 yX4_share ∈ xtbl := q_465
theorem l_L_93 : Cond.methodLink "WaitedPostLaw" 93 yX5_share ∈ xtbl := q_784
theorem l_L_94 : Cond.methodLink "WaitedPostLaw" 94 yX4_rests ∈ xtbl := q_486
theorem l_L_97 : Cond.methodLink "WaitedPostLaw" 97 yX5_rests ∈ xtbl := q_794
theorem l_L_98 : Cond.methodLink "WaitedPostLaw" 98 yX4_lost ∈ xtbl := q_498
theorem l_L_102 : Cond.methodLink "WaitedPostLaw" 102 yX5_lost ∈ xtbl := q_806
theorem l_L_105 : Cond.methodLink "WaitedPostLaw" 105 yX4_seed ∈ xtbl := q_503
theorem l_L_109 : Cond.methodLink "WaitedPostLaw" 109 yX5_seed ∈ xtbl := q_814
theorem l_L_110 : Cond.methodLink "WaitedPostLaw" 110 yX4_years ∈ xtbl := q_507
theorem l_L_113 : Cond.methodLink "WaitedPostLaw" 113 yX5_years ∈ xtbl := q_818
theorem l_L_114 : Cond.methodLink "WaitedPostLaw" 114 yX4_keep ∈ xtbl := q_513
theorem l_L_117 : Cond.methodLink "WaitedPostLaw" 117 yX5_keep ∈ xtbl := q_825
theorem l_L_118 : Cond.methodLink "WaitedPostLaw" 118 yX4_again ∈ xtbl := q_517
theorem l_L_121 : Cond.methodLink "WaitedPostLaw" 121 yX5_again ∈ xtbl := q_829
theorem l_L_122 : Cond.methodLink "WaitedPostLaw" 122 yX4_count ∈ xtbl := q_521
theorem l_L_125 : Cond.methodLink "WaitedPostLaw" 125 yX5_count ∈ xtbl := q_833
theorem l_X5_1 : Cond.methodLink "WaitedPostModel" 1 Lib.objectInit ∈ xtbl := q_534
theorem l_X5_50 : Cond.methodLink "WaitedPostModel" 50 yX5_in ∈ xtbl := q_614
theorem l_X5_65 : Cond.methodLink "WaitedPostModel" 65 yX5_has ∈ xtbl := q_641
theorem l_X5_72 : Cond.methodLink "WaitedPostModel" 72 yX5_left ∈ xtbl := q_637
theorem l_X5_76 : Cond.methodLink "WaitedPostModel" 76 yX5_figure ∈ xtbl := q_629
theorem l_X5_86 : Cond.methodLink "WaitedPostModel" 86 yX5_firstsLeft ∈ xtbl := q_633
theorem l_X5_90 : Cond.methodLink "WaitedPostModel" 90 yX5_figureOf ∈ xtbl := q_644
theorem l_X5_93 : Cond.methodLink "WaitedPostModel" 93 yX5_readText ∈ xtbl := q_625
theorem l_X5_105 : Cond.methodLink "WaitedPostModel" 105 yX5_ones ∈ xtbl := q_669
theorem l_X5_108 : Cond.methodLink "WaitedPostModel" 108 yX5_priceBy ∈ xtbl := q_672
theorem l_X5_112 : Cond.methodLink "WaitedPostModel" 112 yX5_isLetter ∈ xtbl := q_657
theorem l_X5_116 : Cond.methodLink "WaitedPostModel" 116 yX5_isSent ∈ xtbl := q_661
theorem l_X5_119 : Cond.methodLink "WaitedPostModel" 119 yX5_priceOn ∈ xtbl := q_665
theorem l_X5_125 : Cond.methodLink "WaitedPostModel" 125 yX5_keepAct ∈ xtbl := q_680
theorem l_X5_128 : Cond.methodLink "WaitedPostModel" 128 yX5_sendOn ∈ xtbl := q_684
theorem l_X5_131 : Cond.methodLink "WaitedPostModel" 131 yX5_passOn ∈ xtbl := q_692
theorem l_X5_135 : Cond.methodLink "WaitedPostModel" 135 yX5_layTrial ∈ xtbl := q_716
theorem l_X5_138 : Cond.methodLink "WaitedPostModel" 138 yX5_priceIn ∈ xtbl := q_712
theorem l_X5_141 : Cond.methodLink "WaitedPostModel" 141 yX5_fours ∈ xtbl := q_732
theorem l_X5_144 : Cond.methodLink "WaitedPostModel" 144 yX5_dayOf ∈ xtbl := q_739
theorem l_X5_148 : Cond.methodLink "WaitedPostModel" 148 yX5_canSend ∈ xtbl := q_742
theorem l_X5_154 : Cond.methodLink "WaitedPostModel" 154 yX5_paidBy ∈ xtbl := q_735
theorem l_X5_157 : Cond.methodLink "WaitedPostModel" 157 yX5_leastOf ∈ xtbl := q_728
theorem l_X5_162 : Cond.methodLink "WaitedPostModel" 162 yX5_tenTo ∈ xtbl := q_759
theorem l_X5_165 : Cond.methodLink "WaitedPostModel" 165 yX5_areThings ∈ xtbl := q_754
theorem l_X5_168 : Cond.methodLink "WaitedPostModel" 168 yX5_tryThing ∈ xtbl := q_762
theorem l_X5_175 : Cond.methodLink "WaitedPostModel" 175 yX5_priceWith ∈ xtbl := q_780
theorem l_X5_178 : Cond.methodLink "WaitedPostModel" 178 yX5_factorial ∈ xtbl := q_788
theorem l_X5_181 : Cond.methodLink "WaitedPostModel" 181 yX5_common ∈ xtbl := q_791
theorem l_X5_184 : Cond.methodLink "WaitedPostModel" 184 yX5_paysIf ∈ xtbl := q_802
theorem l_X5_188 : Cond.methodLink "WaitedPostModel" 188 yX5_isRest ∈ xtbl := q_798
theorem l_X5_194 : Cond.methodLink "WaitedPostModel" 194 yX5_power ∈ xtbl := q_811
theorem l_X0_33 : ("WaitedPost$Planner", 33, yX4_has, "WaitedPost") ∈ xnM := by decide +kernel
theorem l_X0_56 : ("WaitedPost$Planner", 56, yX4_power, "WaitedPost") ∈ xnM := by decide +kernel
theorem l_X0_60 : ("WaitedPost$Planner", 60, yX4_within, "WaitedPost") ∈ xnM := by decide +kernel
theorem l_X0_72 : ("WaitedPost$Planner", 72, yX4_bit, "WaitedPost") ∈ xnM := by decide +kernel
theorem l_X1_80 : ("WaitedPost$Reader", 80, yX4_at, "WaitedPost") ∈ xnM := by decide +kernel
theorem l_X1_84 : ("WaitedPost$Reader", 84, yX4_has, "WaitedPost") ∈ xnM := by decide +kernel
theorem l_X1_88 : ("WaitedPost$Reader", 88, yX4_bit, "WaitedPost") ∈ xnM := by decide +kernel
theorem l_X1_92 : ("WaitedPost$Reader", 92, yX4_put, "WaitedPost") ∈ xnM := by decide +kernel
theorem l_X2_43 : ("WaitedPost$Standing", 43, yX4_copyRow, "WaitedPost") ∈ xnM := by decide +kernel
theorem l_X2_47 : ("WaitedPost$Standing", 47, yX4_has, "WaitedPost") ∈ xnM := by decide +kernel
theorem l_X2_51 : ("WaitedPost$Standing", 51, yX4_at, "WaitedPost") ∈ xnM := by decide +kernel
theorem l_X2_55 : ("WaitedPost$Standing", 55, yX4_put, "WaitedPost") ∈ xnM := by decide +kernel
theorem l_X3_37 : ("WaitedPost$Told", 37, yX4_copyRow, "WaitedPost") ∈ xnM := by decide +kernel
theorem l_X3_41 : ("WaitedPost$Told", 41, yX4_put, "WaitedPost") ∈ xnM := by decide +kernel
theorem l_X3_45 : ("WaitedPost$Told", 45, yX4_at, "WaitedPost") ∈ xnM := by decide +kernel
theorem l_X3_49 : ("WaitedPost$Told", 49, yX4_has, "WaitedPost") ∈ xnM := by decide +kernel
theorem gs_X1_66 : ("WaitedPost$Reader", 66, "WaitedPost", "RATES", "[I", "WaitedPost") ∈ xnF := by decide +kernel
theorem gs_X3_78 : ("WaitedPost$Told", 78, "WaitedPost", "RATES", "[I", "WaitedPost") ∈ xnF := by decide +kernel
theorem oi_in : Cond.instanceMethod Lib.objectInit ∈ xtbl ∧ Cond.code Lib.objectInit ⟨#[0xb1]⟩ 1 none ∈ xtbl := ⟨q_16, q_17⟩
-- classes and fields
theorem cl_X0 : xCl 0 RX0 TX0 1 tyX0 := ⟨rfl, xsubl [123] (by decide +kernel) (by decide +kernel), tyX0_ok, nmX0, by decide +kernel⟩
theorem cl_X1 : xCl 1 RX1 TX1 3 tyX1 := ⟨rfl, xsubl [65, 67, 69] (by decide +kernel) (by decide +kernel), tyX1_ok, nmX1, by decide +kernel⟩
theorem cl_X2 : xCl 2 RX2 TX2 7 tyX2 := ⟨rfl, xsubl [100, 102, 104, 106, 108, 110, 112] (by decide +kernel) (by decide +kernel), tyX2_ok, nmX2, by decide +kernel⟩
theorem cl_X3 : xCl 3 RX3 TX3 6 tyX3 := ⟨rfl, xsubl [47, 49, 51, 53, 55, 57] (by decide +kernel) (by decide +kernel), tyX3_ok, nmX3, by decide +kernel⟩
theorem cl_X4 : xCl 4 RX4 TX4 13 tyX4 := ⟨rfl, xsubl [140, 142, 144, 146, 148, 150, 152, 154, 156, 158, 160, 162, 164] (by decide +kernel) (by decide +kernel), tyX4_ok, nmX4, by decide +kernel⟩
theorem cl_X5 : xCl 5 RX5 TX5 24 tyX5 := ⟨rfl, xsubl [559, 561, 563, 565, 567, 569, 571, 573, 575, 577, 579, 581, 583, 585, 587, 589, 591, 593, 595, 597, 599, 601, 603, 605] (by decide +kernel) (by decide +kernel), tyX5_ok, nmX5, by decide +kernel⟩
theorem gf_X4_9 (M : xY) (h : M.1.cls = "WaitedPost") : xGF M 9 4 0 := ⟨RX4, TX4, 13, tyX4, cl_X4, by decide, by rw [h]; exact q_127⟩
theorem pr_X4_9 (M : xY) (h : M.1.cls = "WaitedPost") (h2 : M.1.name = "<init>") : xPFF M 9 4 0 (tyX4 0) := ⟨RX4, TX4, 13, tyX4, cl_X4, by decide, by rw [h]; exact q_127, rfl, rfl, by rw [h]; rfl, h2⟩
theorem gf_X4_16 (M : xY) (h : M.1.cls = "WaitedPost") : xGF M 16 4 2 := ⟨RX4, TX4, 13, tyX4, cl_X4, by decide, by rw [h]; exact q_129⟩
theorem pr_X4_16 (M : xY) (h : M.1.cls = "WaitedPost") (h2 : M.1.name = "<init>") : xPFF M 16 4 2 (tyX4 2) := ⟨RX4, TX4, 13, tyX4, cl_X4, by decide, by rw [h]; exact q_129, rfl, rfl, by rw [h]; rfl, h2⟩
theorem gf_X4_23 (M : xY) (h : M.1.cls = "WaitedPost") : xGF M 23 4 3 := ⟨RX4, TX4, 13, tyX4, cl_X4, by decide, by rw [h]; exact q_130⟩
theorem pr_X4_23 (M : xY) (h : M.1.cls = "WaitedPost") (h2 : M.1.name = "<init>") : xPFF M 23 4 3 (tyX4 3) := ⟨RX4, TX4, 13, tyX4, cl_X4, by decide, by rw [h]; exact q_130, rfl, rfl, by rw [h]; rfl, h2⟩
theorem gf_X4_30 (M : xY) (h : M.1.cls = "WaitedPost") : xGF M 30 4 4 := ⟨RX4, TX4, 13, tyX4, cl_X4, by decide, by rw [h]; exact q_131⟩
theorem pr_X4_30 (M : xY) (h : M.1.cls = "WaitedPost") (h2 : M.1.name = "<init>") : xPFF M 30 4 4 (tyX4 4) := ⟨RX4, TX4, 13, tyX4, cl_X4, by decide, by rw [h]; exact q_131, rfl, rfl, by rw [h]; rfl, h2⟩
theorem gf_X4_34 (M : xY) (h : M.1.cls = "WaitedPost") : xGF M 34 4 5 := ⟨RX4, TX4, 13, tyX4, cl_X4, by decide, by rw [h]; exact q_132⟩
theorem pr_X4_34 (M : xY) (h : M.1.cls = "WaitedPost") (h2 : M.1.name = "<init>") : xPFF M 34 4 5 (tyX4 5) := ⟨RX4, TX4, 13, tyX4, cl_X4, by decide, by rw [h]; exact q_132, rfl, rfl, by rw [h]; rfl, h2⟩
theorem gf_X4_37 (M : xY) (h : M.1.cls = "WaitedPost") : xGF M 37 4 6 := ⟨RX4, TX4, 13, tyX4, cl_X4, by decide, by rw [h]; exact q_133⟩
theorem pr_X4_37 (M : xY) (h : M.1.cls = "WaitedPost") (h2 : M.1.name = "<init>") : xPFF M 37 4 6 (tyX4 6) := ⟨RX4, TX4, 13, tyX4, cl_X4, by decide, by rw [h]; exact q_133, rfl, rfl, by rw [h]; rfl, h2⟩
theorem gf_X4_41 (M : xY) (h : M.1.cls = "WaitedPost") : xGF M 41 4 8 := ⟨RX4, TX4, 13, tyX4, cl_X4, by decide, by rw [h]; exact q_135⟩
theorem pr_X4_41 (M : xY) (h : M.1.cls = "WaitedPost") (h2 : M.1.name = "<init>") : xPFF M 41 4 8 (tyX4 8) := ⟨RX4, TX4, 13, tyX4, cl_X4, by decide, by rw [h]; exact q_135, rfl, rfl, by rw [h]; rfl, h2⟩
theorem gf_X4_44 (M : xY) (h : M.1.cls = "WaitedPost") : xGF M 44 4 10 := ⟨RX4, TX4, 13, tyX4, cl_X4, by decide, by rw [h]; exact q_137⟩
theorem pr_X4_44 (M : xY) (h : M.1.cls = "WaitedPost") (h2 : M.1.name = "<init>") : xPFF M 44 4 10 (tyX4 10) := ⟨RX4, TX4, 13, tyX4, cl_X4, by decide, by rw [h]; exact q_137, rfl, rfl, by rw [h]; rfl, h2⟩
theorem gf_X4_50 (M : xY) (h : M.1.cls = "WaitedPost") : xGF M 50 4 11 := ⟨RX4, TX4, 13, tyX4, cl_X4, by decide, by rw [h]; exact q_138⟩
theorem pr_X4_50 (M : xY) (h : M.1.cls = "WaitedPost") (h2 : M.1.name = "<init>") : xPFF M 50 4 11 (tyX4 11) := ⟨RX4, TX4, 13, tyX4, cl_X4, by decide, by rw [h]; exact q_138, rfl, rfl, by rw [h]; rfl, h2⟩
theorem gf_X4_54 (M : xY) (h : M.1.cls = "WaitedPost") : xGF M 54 4 1 := ⟨RX4, TX4, 13, tyX4, cl_X4, by decide, by rw [h]; exact q_128⟩
theorem pf_X4_54 (M : xY) (h : M.1.cls = "WaitedPost") : xPF M 54 4 1 .int := ⟨RX4, TX4, 13, tyX4, cl_X4, by decide, by rw [h]; exact q_128, rfl, rfl⟩
theorem gf_X4_62 (M : xY) (h : M.1.cls = "WaitedPost") : xGF M 62 1 0 := ⟨RX1, TX1, 3, tyX1, cl_X1, by decide, by rw [h]; exact q_62⟩
theorem gf_X4_72 (M : xY) (h : M.1.cls = "WaitedPost") : xGF M 72 4 7 := ⟨RX4, TX4, 13, tyX4, cl_X4, by decide, by rw [h]; exact q_134⟩
theorem pf_X4_72 (M : xY) (h : M.1.cls = "WaitedPost") : xPF M 72 4 7 .int := ⟨RX4, TX4, 13, tyX4, cl_X4, by decide, by rw [h]; exact q_134, rfl, rfl⟩
theorem gf_X4_75 (M : xY) (h : M.1.cls = "WaitedPost") : xGF M 75 4 9 := ⟨RX4, TX4, 13, tyX4, cl_X4, by decide, by rw [h]; exact q_136⟩
theorem pf_X4_75 (M : xY) (h : M.1.cls = "WaitedPost") : xPF M 75 4 9 .int := ⟨RX4, TX4, 13, tyX4, cl_X4, by decide, by rw [h]; exact q_136, rfl, rfl⟩
theorem gf_X4_78 (M : xY) (h : M.1.cls = "WaitedPost") : xGF M 78 3 2 := ⟨RX3, TX3, 6, tyX3, cl_X3, by decide, by rw [h]; exact q_38⟩
theorem pf_X4_78 (M : xY) (h : M.1.cls = "WaitedPost") : xPF M 78 3 2 .int := ⟨RX3, TX3, 6, tyX3, cl_X3, by decide, by rw [h]; exact q_38, rfl, rfl⟩
theorem gf_X4_85 (M : xY) (h : M.1.cls = "WaitedPost") : xGF M 85 2 5 := ⟨RX2, TX2, 7, tyX2, cl_X2, by decide, by rw [h]; exact q_96⟩
theorem gf_X4_92 (M : xY) (h : M.1.cls = "WaitedPost") : xGF M 92 3 4 := ⟨RX3, TX3, 6, tyX3, cl_X3, by decide, by rw [h]; exact q_43⟩
theorem gf_X4_95 (M : xY) (h : M.1.cls = "WaitedPost") : xGF M 95 3 5 := ⟨RX3, TX3, 6, tyX3, cl_X3, by decide, by rw [h]; exact q_45⟩
theorem gf_X4_98 (M : xY) (h : M.1.cls = "WaitedPost") : xGF M 98 2 1 := ⟨RX2, TX2, 7, tyX2, cl_X2, by decide, by rw [h]; exact q_85⟩
theorem pf_X4_98 (M : xY) (h : M.1.cls = "WaitedPost") : xPF M 98 2 1 .int := ⟨RX2, TX2, 7, tyX2, cl_X2, by decide, by rw [h]; exact q_85, rfl, rfl⟩
theorem gf_X4_105 (M : xY) (h : M.1.cls = "WaitedPost") : xGF M 105 2 3 := ⟨RX2, TX2, 7, tyX2, cl_X2, by decide, by rw [h]; exact q_91⟩
theorem pf_X4_105 (M : xY) (h : M.1.cls = "WaitedPost") : xPF M 105 2 3 .int := ⟨RX2, TX2, 7, tyX2, cl_X2, by decide, by rw [h]; exact q_91, rfl, rfl⟩
theorem gf_X4_108 (M : xY) (h : M.1.cls = "WaitedPost") : xGF M 108 2 6 := ⟨RX2, TX2, 7, tyX2, cl_X2, by decide, by rw [h]; exact q_99⟩
theorem gf_X4_130 (M : xY) (h : M.1.cls = "WaitedPost") : xGF M 130 2 0 := ⟨RX2, TX2, 7, tyX2, cl_X2, by decide, by rw [h]; exact q_82⟩
theorem pf_X4_130 (M : xY) (h : M.1.cls = "WaitedPost") : xPF M 130 2 0 .int := ⟨RX2, TX2, 7, tyX2, cl_X2, by decide, by rw [h]; exact q_82, rfl, rfl⟩
theorem gf_X4_169 (M : xY) (h : M.1.cls = "WaitedPost") : xGF M 169 2 4 := ⟨RX2, TX2, 7, tyX2, cl_X2, by decide, by rw [h]; exact q_93⟩
theorem pf_X4_169 (M : xY) (h : M.1.cls = "WaitedPost") : xPF M 169 2 4 .int := ⟨RX2, TX2, 7, tyX2, cl_X2, by decide, by rw [h]; exact q_93, rfl, rfl⟩
theorem gf_X4_206 (M : xY) (h : M.1.cls = "WaitedPost") : xGF M 206 4 12 := ⟨RX4, TX4, 13, tyX4, cl_X4, by decide, by rw [h]; exact q_139⟩
theorem pf_X4_206 (M : xY) (h : M.1.cls = "WaitedPost") : xPF M 206 4 12 .long := ⟨RX4, TX4, 13, tyX4, cl_X4, by decide, by rw [h]; exact q_139, rfl, rfl⟩
theorem gf_X4_214 (M : xY) (h : M.1.cls = "WaitedPost") : xGF M 214 3 0 := ⟨RX3, TX3, 6, tyX3, cl_X3, by decide, by rw [h]; exact q_32⟩
theorem pf_X4_214 (M : xY) (h : M.1.cls = "WaitedPost") : xPF M 214 3 0 .int := ⟨RX3, TX3, 6, tyX3, cl_X3, by decide, by rw [h]; exact q_32, rfl, rfl⟩
theorem gf_X4_217 (M : xY) (h : M.1.cls = "WaitedPost") : xGF M 217 3 1 := ⟨RX3, TX3, 6, tyX3, cl_X3, by decide, by rw [h]; exact q_36⟩
theorem pf_X4_217 (M : xY) (h : M.1.cls = "WaitedPost") : xPF M 217 3 1 .int := ⟨RX3, TX3, 6, tyX3, cl_X3, by decide, by rw [h]; exact q_36, rfl, rfl⟩
theorem gf_X4_220 (M : xY) (h : M.1.cls = "WaitedPost") : xGF M 220 2 2 := ⟨RX2, TX2, 7, tyX2, cl_X2, by decide, by rw [h]; exact q_88⟩
theorem pf_X4_220 (M : xY) (h : M.1.cls = "WaitedPost") : xPF M 220 2 2 .int := ⟨RX2, TX2, 7, tyX2, cl_X2, by decide, by rw [h]; exact q_88, rfl, rfl⟩
theorem gf_X0_11 (M : xY) (h : M.1.cls = "WaitedPost$Planner") : xGF M 11 0 0 := ⟨RX0, TX0, 1, tyX0, cl_X0, by decide, by rw [h]; exact q_122⟩
theorem pr_X0_11 (M : xY) (h : M.1.cls = "WaitedPost$Planner") (h2 : M.1.name = "<init>") : xPFF M 11 0 0 (tyX0 0) := ⟨RX0, TX0, 1, tyX0, cl_X0, by decide, by rw [h]; exact q_122, rfl, rfl, by rw [h]; rfl, h2⟩
theorem gf_X0_23 (M : xY) (h : M.1.cls = "WaitedPost$Planner") : xGF M 23 2 2 := ⟨RX2, TX2, 7, tyX2, cl_X2, by decide, by rw [h]; exact q_87⟩
theorem pf_X0_23 (M : xY) (h : M.1.cls = "WaitedPost$Planner") : xPF M 23 2 2 .int := ⟨RX2, TX2, 7, tyX2, cl_X2, by decide, by rw [h]; exact q_87, rfl, rfl⟩
theorem gf_X0_63 (M : xY) (h : M.1.cls = "WaitedPost$Planner") : xGF M 63 2 1 := ⟨RX2, TX2, 7, tyX2, cl_X2, by decide, by rw [h]; exact q_84⟩
theorem pf_X0_63 (M : xY) (h : M.1.cls = "WaitedPost$Planner") : xPF M 63 2 1 .int := ⟨RX2, TX2, 7, tyX2, cl_X2, by decide, by rw [h]; exact q_84, rfl, rfl⟩
theorem gf_X0_75 (M : xY) (h : M.1.cls = "WaitedPost$Planner") : xGF M 75 3 1 := ⟨RX3, TX3, 6, tyX3, cl_X3, by decide, by rw [h]; exact q_34⟩
theorem pf_X0_75 (M : xY) (h : M.1.cls = "WaitedPost$Planner") : xPF M 75 3 1 .int := ⟨RX3, TX3, 6, tyX3, cl_X3, by decide, by rw [h]; exact q_34, rfl, rfl⟩
theorem gf_X1_12 (M : xY) (h : M.1.cls = "WaitedPost$Reader") : xGF M 12 1 0 := ⟨RX1, TX1, 3, tyX1, cl_X1, by decide, by rw [h]; exact q_61⟩
theorem pr_X1_12 (M : xY) (h : M.1.cls = "WaitedPost$Reader") (h2 : M.1.name = "<init>") : xPFF M 12 1 0 (tyX1 0) := ⟨RX1, TX1, 3, tyX1, cl_X1, by decide, by rw [h]; exact q_61, rfl, rfl, by rw [h]; rfl, h2⟩
theorem gf_X1_21 (M : xY) (h : M.1.cls = "WaitedPost$Reader") : xGF M 21 1 1 := ⟨RX1, TX1, 3, tyX1, cl_X1, by decide, by rw [h]; exact q_63⟩
theorem pf_X1_21 (M : xY) (h : M.1.cls = "WaitedPost$Reader") : xPF M 21 1 1 .int := ⟨RX1, TX1, 3, tyX1, cl_X1, by decide, by rw [h]; exact q_63, rfl, rfl⟩
theorem gf_X1_50 (M : xY) (h : M.1.cls = "WaitedPost$Reader") : xGF M 50 3 0 := ⟨RX3, TX3, 6, tyX3, cl_X3, by decide, by rw [h]; exact q_31⟩
theorem pf_X1_50 (M : xY) (h : M.1.cls = "WaitedPost$Reader") : xPF M 50 3 0 .int := ⟨RX3, TX3, 6, tyX3, cl_X3, by decide, by rw [h]; exact q_31, rfl, rfl⟩
theorem gf_X1_53 (M : xY) (h : M.1.cls = "WaitedPost$Reader") : xGF M 53 3 1 := ⟨RX3, TX3, 6, tyX3, cl_X3, by decide, by rw [h]; exact q_35⟩
theorem pf_X1_53 (M : xY) (h : M.1.cls = "WaitedPost$Reader") : xPF M 53 3 1 .int := ⟨RX3, TX3, 6, tyX3, cl_X3, by decide, by rw [h]; exact q_35, rfl, rfl⟩
theorem gf_X1_56 (M : xY) (h : M.1.cls = "WaitedPost$Reader") : xGF M 56 3 2 := ⟨RX3, TX3, 6, tyX3, cl_X3, by decide, by rw [h]; exact q_39⟩
theorem pf_X1_56 (M : xY) (h : M.1.cls = "WaitedPost$Reader") : xPF M 56 3 2 .int := ⟨RX3, TX3, 6, tyX3, cl_X3, by decide, by rw [h]; exact q_39, rfl, rfl⟩
theorem gf_X1_63 (M : xY) (h : M.1.cls = "WaitedPost$Reader") : xGF M 63 1 2 := ⟨RX1, TX1, 3, tyX1, cl_X1, by decide, by rw [h]; exact q_64⟩
theorem pf_X1_63 (M : xY) (h : M.1.cls = "WaitedPost$Reader") : xPF M 63 1 2 .int := ⟨RX1, TX1, 3, tyX1, cl_X1, by decide, by rw [h]; exact q_64, rfl, rfl⟩
theorem gf_X1_77 (M : xY) (h : M.1.cls = "WaitedPost$Reader") : xGF M 77 3 5 := ⟨RX3, TX3, 6, tyX3, cl_X3, by decide, by rw [h]; exact q_46⟩
theorem gf_X2_9 (M : xY) (h : M.1.cls = "WaitedPost$Standing") : xGF M 9 2 5 := ⟨RX2, TX2, 7, tyX2, cl_X2, by decide, by rw [h]; exact q_94⟩
theorem pr_X2_9 (M : xY) (h : M.1.cls = "WaitedPost$Standing") (h2 : M.1.name = "<init>") : xPFF M 9 2 5 (tyX2 5) := ⟨RX2, TX2, 7, tyX2, cl_X2, by decide, by rw [h]; exact q_94, rfl, rfl, by rw [h]; rfl, h2⟩
theorem gf_X2_15 (M : xY) (h : M.1.cls = "WaitedPost$Standing") : xGF M 15 2 6 := ⟨RX2, TX2, 7, tyX2, cl_X2, by decide, by rw [h]; exact q_97⟩
theorem pr_X2_15 (M : xY) (h : M.1.cls = "WaitedPost$Standing") (h2 : M.1.name = "<init>") : xPFF M 15 2 6 (tyX2 6) := ⟨RX2, TX2, 7, tyX2, cl_X2, by decide, by rw [h]; exact q_97, rfl, rfl, by rw [h]; rfl, h2⟩
theorem gf_X2_18 (M : xY) (h : M.1.cls = "WaitedPost$Standing") : xGF M 18 2 0 := ⟨RX2, TX2, 7, tyX2, cl_X2, by decide, by rw [h]; exact q_80⟩
theorem pf_X2_18 (M : xY) (h : M.1.cls = "WaitedPost$Standing") : xPF M 18 2 0 .int := ⟨RX2, TX2, 7, tyX2, cl_X2, by decide, by rw [h]; exact q_80, rfl, rfl⟩
theorem gf_X2_22 (M : xY) (h : M.1.cls = "WaitedPost$Standing") : xGF M 22 2 1 := ⟨RX2, TX2, 7, tyX2, cl_X2, by decide, by rw [h]; exact q_83⟩
theorem pf_X2_22 (M : xY) (h : M.1.cls = "WaitedPost$Standing") : xPF M 22 2 1 .int := ⟨RX2, TX2, 7, tyX2, cl_X2, by decide, by rw [h]; exact q_83, rfl, rfl⟩
theorem gf_X2_25 (M : xY) (h : M.1.cls = "WaitedPost$Standing") : xGF M 25 2 2 := ⟨RX2, TX2, 7, tyX2, cl_X2, by decide, by rw [h]; exact q_86⟩
theorem pf_X2_25 (M : xY) (h : M.1.cls = "WaitedPost$Standing") : xPF M 25 2 2 .int := ⟨RX2, TX2, 7, tyX2, cl_X2, by decide, by rw [h]; exact q_86, rfl, rfl⟩
theorem gf_X2_28 (M : xY) (h : M.1.cls = "WaitedPost$Standing") : xGF M 28 2 3 := ⟨RX2, TX2, 7, tyX2, cl_X2, by decide, by rw [h]; exact q_89⟩
theorem pf_X2_28 (M : xY) (h : M.1.cls = "WaitedPost$Standing") : xPF M 28 2 3 .int := ⟨RX2, TX2, 7, tyX2, cl_X2, by decide, by rw [h]; exact q_89, rfl, rfl⟩
theorem gf_X2_31 (M : xY) (h : M.1.cls = "WaitedPost$Standing") : xGF M 31 2 4 := ⟨RX2, TX2, 7, tyX2, cl_X2, by decide, by rw [h]; exact q_92⟩
theorem pf_X2_31 (M : xY) (h : M.1.cls = "WaitedPost$Standing") : xPF M 31 2 4 .int := ⟨RX2, TX2, 7, tyX2, cl_X2, by decide, by rw [h]; exact q_92, rfl, rfl⟩
theorem gf_X2_40 (M : xY) (h : M.1.cls = "WaitedPost$Standing") : xGF M 40 3 3 := ⟨RX3, TX3, 6, tyX3, cl_X3, by decide, by rw [h]; exact q_41⟩
theorem gf_X3_9 (M : xY) (h : M.1.cls = "WaitedPost$Told") : xGF M 9 3 1 := ⟨RX3, TX3, 6, tyX3, cl_X3, by decide, by rw [h]; exact q_33⟩
theorem pf_X3_9 (M : xY) (h : M.1.cls = "WaitedPost$Told") : xPF M 9 3 1 .int := ⟨RX3, TX3, 6, tyX3, cl_X3, by decide, by rw [h]; exact q_33, rfl, rfl⟩
theorem gf_X3_15 (M : xY) (h : M.1.cls = "WaitedPost$Told") : xGF M 15 3 3 := ⟨RX3, TX3, 6, tyX3, cl_X3, by decide, by rw [h]; exact q_40⟩
theorem pr_X3_15 (M : xY) (h : M.1.cls = "WaitedPost$Told") (h2 : M.1.name = "<init>") : xPFF M 15 3 3 (tyX3 3) := ⟨RX3, TX3, 6, tyX3, cl_X3, by decide, by rw [h]; exact q_40, rfl, rfl, by rw [h]; rfl, h2⟩
theorem gf_X3_19 (M : xY) (h : M.1.cls = "WaitedPost$Told") : xGF M 19 3 4 := ⟨RX3, TX3, 6, tyX3, cl_X3, by decide, by rw [h]; exact q_42⟩
theorem pr_X3_19 (M : xY) (h : M.1.cls = "WaitedPost$Told") (h2 : M.1.name = "<init>") : xPFF M 19 3 4 (tyX3 4) := ⟨RX3, TX3, 6, tyX3, cl_X3, by decide, by rw [h]; exact q_42, rfl, rfl, by rw [h]; rfl, h2⟩
theorem gf_X3_22 (M : xY) (h : M.1.cls = "WaitedPost$Told") : xGF M 22 3 5 := ⟨RX3, TX3, 6, tyX3, cl_X3, by decide, by rw [h]; exact q_44⟩
theorem pr_X3_22 (M : xY) (h : M.1.cls = "WaitedPost$Told") (h2 : M.1.name = "<init>") : xPFF M 22 3 5 (tyX3 5) := ⟨RX3, TX3, 6, tyX3, cl_X3, by decide, by rw [h]; exact q_44, rfl, rfl, by rw [h]; rfl, h2⟩
theorem gf_X3_25 (M : xY) (h : M.1.cls = "WaitedPost$Told") : xGF M 25 3 0 := ⟨RX3, TX3, 6, tyX3, cl_X3, by decide, by rw [h]; exact q_30⟩
theorem pf_X3_25 (M : xY) (h : M.1.cls = "WaitedPost$Told") : xPF M 25 3 0 .int := ⟨RX3, TX3, 6, tyX3, cl_X3, by decide, by rw [h]; exact q_30, rfl, rfl⟩
theorem gf_X3_28 (M : xY) (h : M.1.cls = "WaitedPost$Told") : xGF M 28 3 2 := ⟨RX3, TX3, 6, tyX3, cl_X3, by decide, by rw [h]; exact q_37⟩
theorem pf_X3_28 (M : xY) (h : M.1.cls = "WaitedPost$Told") : xPF M 28 3 2 .int := ⟨RX3, TX3, 6, tyX3, cl_X3, by decide, by rw [h]; exact q_37, rfl, rfl⟩
theorem gf_X3_53 (M : xY) (h : M.1.cls = "WaitedPost$Told") : xGF M 53 2 6 := ⟨RX2, TX2, 7, tyX2, cl_X2, by decide, by rw [h]; exact q_98⟩
theorem gf_X3_64 (M : xY) (h : M.1.cls = "WaitedPost$Told") : xGF M 64 2 5 := ⟨RX2, TX2, 7, tyX2, cl_X2, by decide, by rw [h]; exact q_95⟩
theorem gf_X3_68 (M : xY) (h : M.1.cls = "WaitedPost$Told") : xGF M 68 2 3 := ⟨RX2, TX2, 7, tyX2, cl_X2, by decide, by rw [h]; exact q_90⟩
theorem pf_X3_68 (M : xY) (h : M.1.cls = "WaitedPost$Told") : xPF M 68 2 3 .int := ⟨RX2, TX2, 7, tyX2, cl_X2, by decide, by rw [h]; exact q_90, rfl, rfl⟩
theorem gf_X3_71 (M : xY) (h : M.1.cls = "WaitedPost$Told") : xGF M 71 2 0 := ⟨RX2, TX2, 7, tyX2, cl_X2, by decide, by rw [h]; exact q_81⟩
theorem pf_X3_71 (M : xY) (h : M.1.cls = "WaitedPost$Told") : xPF M 71 2 0 .int := ⟨RX2, TX2, 7, tyX2, cl_X2, by decide, by rw [h]; exact q_81, rfl, rfl⟩
theorem gf_X5_7 (M : xY) (h : M.1.cls = "WaitedPostModel") : xGF M 7 5 3 := ⟨RX5, TX5, 24, tyX5, cl_X5, by decide, by rw [h]; exact q_538⟩
theorem pr_X5_7 (M : xY) (h : M.1.cls = "WaitedPostModel") (h2 : M.1.name = "<init>") : xPFF M 7 5 3 (tyX5 3) := ⟨RX5, TX5, 24, tyX5, cl_X5, by decide, by rw [h]; exact q_538, rfl, rfl, by rw [h]; rfl, h2⟩
theorem gf_X5_13 (M : xY) (h : M.1.cls = "WaitedPostModel") : xGF M 13 5 4 := ⟨RX5, TX5, 24, tyX5, cl_X5, by decide, by rw [h]; exact q_539⟩
theorem pr_X5_13 (M : xY) (h : M.1.cls = "WaitedPostModel") (h2 : M.1.name = "<init>") : xPFF M 13 5 4 (tyX5 4) := ⟨RX5, TX5, 24, tyX5, cl_X5, by decide, by rw [h]; exact q_539, rfl, rfl, by rw [h]; rfl, h2⟩
theorem gf_X5_16 (M : xY) (h : M.1.cls = "WaitedPostModel") : xGF M 16 5 5 := ⟨RX5, TX5, 24, tyX5, cl_X5, by decide, by rw [h]; exact q_540⟩
theorem pr_X5_16 (M : xY) (h : M.1.cls = "WaitedPostModel") (h2 : M.1.name = "<init>") : xPFF M 16 5 5 (tyX5 5) := ⟨RX5, TX5, 24, tyX5, cl_X5, by decide, by rw [h]; exact q_540, rfl, rfl, by rw [h]; rfl, h2⟩
theorem gf_X5_19 (M : xY) (h : M.1.cls = "WaitedPostModel") : xGF M 19 5 6 := ⟨RX5, TX5, 24, tyX5, cl_X5, by decide, by rw [h]; exact q_541⟩
theorem pr_X5_19 (M : xY) (h : M.1.cls = "WaitedPostModel") (h2 : M.1.name = "<init>") : xPFF M 19 5 6 (tyX5 6) := ⟨RX5, TX5, 24, tyX5, cl_X5, by decide, by rw [h]; exact q_541, rfl, rfl, by rw [h]; rfl, h2⟩
theorem gf_X5_22 (M : xY) (h : M.1.cls = "WaitedPostModel") : xGF M 22 5 7 := ⟨RX5, TX5, 24, tyX5, cl_X5, by decide, by rw [h]; exact q_542⟩
theorem pr_X5_22 (M : xY) (h : M.1.cls = "WaitedPostModel") (h2 : M.1.name = "<init>") : xPFF M 22 5 7 (tyX5 7) := ⟨RX5, TX5, 24, tyX5, cl_X5, by decide, by rw [h]; exact q_542, rfl, rfl, by rw [h]; rfl, h2⟩
theorem gf_X5_25 (M : xY) (h : M.1.cls = "WaitedPostModel") : xGF M 25 5 8 := ⟨RX5, TX5, 24, tyX5, cl_X5, by decide, by rw [h]; exact q_543⟩
theorem pr_X5_25 (M : xY) (h : M.1.cls = "WaitedPostModel") (h2 : M.1.name = "<init>") : xPFF M 25 5 8 (tyX5 8) := ⟨RX5, TX5, 24, tyX5, cl_X5, by decide, by rw [h]; exact q_543, rfl, rfl, by rw [h]; rfl, h2⟩
theorem gf_X5_28 (M : xY) (h : M.1.cls = "WaitedPostModel") : xGF M 28 5 12 := ⟨RX5, TX5, 24, tyX5, cl_X5, by decide, by rw [h]; exact q_547⟩
theorem pr_X5_28 (M : xY) (h : M.1.cls = "WaitedPostModel") (h2 : M.1.name = "<init>") : xPFF M 28 5 12 (tyX5 12) := ⟨RX5, TX5, 24, tyX5, cl_X5, by decide, by rw [h]; exact q_547, rfl, rfl, by rw [h]; rfl, h2⟩
theorem gf_X5_31 (M : xY) (h : M.1.cls = "WaitedPostModel") : xGF M 31 5 18 := ⟨RX5, TX5, 24, tyX5, cl_X5, by decide, by rw [h]; exact q_553⟩
theorem pr_X5_31 (M : xY) (h : M.1.cls = "WaitedPostModel") (h2 : M.1.name = "<init>") : xPFF M 31 5 18 (tyX5 18) := ⟨RX5, TX5, 24, tyX5, cl_X5, by decide, by rw [h]; exact q_553, rfl, rfl, by rw [h]; rfl, h2⟩
theorem gf_X5_34 (M : xY) (h : M.1.cls = "WaitedPostModel") : xGF M 34 5 20 := ⟨RX5, TX5, 24, tyX5, cl_X5, by decide, by rw [h]; exact q_555⟩
theorem pr_X5_34 (M : xY) (h : M.1.cls = "WaitedPostModel") (h2 : M.1.name = "<init>") : xPFF M 34 5 20 (tyX5 20) := ⟨RX5, TX5, 24, tyX5, cl_X5, by decide, by rw [h]; exact q_555, rfl, rfl, by rw [h]; rfl, h2⟩
theorem gf_X5_37 (M : xY) (h : M.1.cls = "WaitedPostModel") : xGF M 37 5 22 := ⟨RX5, TX5, 24, tyX5, cl_X5, by decide, by rw [h]; exact q_557⟩
theorem pr_X5_37 (M : xY) (h : M.1.cls = "WaitedPostModel") (h2 : M.1.name = "<init>") : xPFF M 37 5 22 (tyX5 22) := ⟨RX5, TX5, 24, tyX5, cl_X5, by decide, by rw [h]; exact q_557, rfl, rfl, by rw [h]; rfl, h2⟩
theorem gf_X5_41 (M : xY) (h : M.1.cls = "WaitedPostModel") : xGF M 41 5 23 := ⟨RX5, TX5, 24, tyX5, cl_X5, by decide, by rw [h]; exact q_558⟩
theorem pr_X5_41 (M : xY) (h : M.1.cls = "WaitedPostModel") (h2 : M.1.name = "<init>") : xPFF M 41 5 23 (tyX5 23) := ⟨RX5, TX5, 24, tyX5, cl_X5, by decide, by rw [h]; exact q_558, rfl, rfl, by rw [h]; rfl, h2⟩
theorem gf_X5_44 (M : xY) (h : M.1.cls = "WaitedPostModel") : xGF M 44 5 2 := ⟨RX5, TX5, 24, tyX5, cl_X5, by decide, by rw [h]; exact q_537⟩
theorem pf_X5_44 (M : xY) (h : M.1.cls = "WaitedPostModel") : xPF M 44 5 2 .int := ⟨RX5, TX5, 24, tyX5, cl_X5, by decide, by rw [h]; exact q_537, rfl, rfl⟩
theorem gf_X5_54 (M : xY) (h : M.1.cls = "WaitedPostModel") : xGF M 54 5 13 := ⟨RX5, TX5, 24, tyX5, cl_X5, by decide, by rw [h]; exact q_548⟩
theorem pf_X5_54 (M : xY) (h : M.1.cls = "WaitedPostModel") : xPF M 54 5 13 .int := ⟨RX5, TX5, 24, tyX5, cl_X5, by decide, by rw [h]; exact q_548, rfl, rfl⟩
theorem gf_X5_57 (M : xY) (h : M.1.cls = "WaitedPostModel") : xGF M 57 5 15 := ⟨RX5, TX5, 24, tyX5, cl_X5, by decide, by rw [h]; exact q_550⟩
theorem pf_X5_57 (M : xY) (h : M.1.cls = "WaitedPostModel") : xPF M 57 5 15 .int := ⟨RX5, TX5, 24, tyX5, cl_X5, by decide, by rw [h]; exact q_550, rfl, rfl⟩
theorem gf_X5_60 (M : xY) (h : M.1.cls = "WaitedPostModel") : xGF M 60 5 14 := ⟨RX5, TX5, 24, tyX5, cl_X5, by decide, by rw [h]; exact q_549⟩
theorem pf_X5_60 (M : xY) (h : M.1.cls = "WaitedPostModel") : xPF M 60 5 14 .int := ⟨RX5, TX5, 24, tyX5, cl_X5, by decide, by rw [h]; exact q_549, rfl, rfl⟩
theorem gf_X5_69 (M : xY) (h : M.1.cls = "WaitedPostModel") : xGF M 69 5 9 := ⟨RX5, TX5, 24, tyX5, cl_X5, by decide, by rw [h]; exact q_544⟩
theorem pf_X5_69 (M : xY) (h : M.1.cls = "WaitedPostModel") : xPF M 69 5 9 .int := ⟨RX5, TX5, 24, tyX5, cl_X5, by decide, by rw [h]; exact q_544, rfl, rfl⟩
theorem gf_X5_80 (M : xY) (h : M.1.cls = "WaitedPostModel") : xGF M 80 5 10 := ⟨RX5, TX5, 24, tyX5, cl_X5, by decide, by rw [h]; exact q_545⟩
theorem pf_X5_80 (M : xY) (h : M.1.cls = "WaitedPostModel") : xPF M 80 5 10 .int := ⟨RX5, TX5, 24, tyX5, cl_X5, by decide, by rw [h]; exact q_545, rfl, rfl⟩
theorem gf_X5_83 (M : xY) (h : M.1.cls = "WaitedPostModel") : xGF M 83 5 11 := ⟨RX5, TX5, 24, tyX5, cl_X5, by decide, by rw [h]; exact q_546⟩
theorem pf_X5_83 (M : xY) (h : M.1.cls = "WaitedPostModel") : xPF M 83 5 11 .int := ⟨RX5, TX5, 24, tyX5, cl_X5, by decide, by rw [h]; exact q_546, rfl, rfl⟩
theorem gf_X5_96 (M : xY) (h : M.1.cls = "WaitedPostModel") : xGF M 96 5 0 := ⟨RX5, TX5, 24, tyX5, cl_X5, by decide, by rw [h]; exact q_535⟩
theorem pf_X5_96 (M : xY) (h : M.1.cls = "WaitedPostModel") : xPF M 96 5 0 .int := ⟨RX5, TX5, 24, tyX5, cl_X5, by decide, by rw [h]; exact q_535, rfl, rfl⟩
theorem gf_X5_99 (M : xY) (h : M.1.cls = "WaitedPostModel") : xGF M 99 5 1 := ⟨RX5, TX5, 24, tyX5, cl_X5, by decide, by rw [h]; exact q_536⟩
theorem pf_X5_99 (M : xY) (h : M.1.cls = "WaitedPostModel") : xPF M 99 5 1 .int := ⟨RX5, TX5, 24, tyX5, cl_X5, by decide, by rw [h]; exact q_536, rfl, rfl⟩
theorem gf_X5_102 (M : xY) (h : M.1.cls = "WaitedPostModel") : xGF M 102 5 16 := ⟨RX5, TX5, 24, tyX5, cl_X5, by decide, by rw [h]; exact q_551⟩
theorem pf_X5_102 (M : xY) (h : M.1.cls = "WaitedPostModel") : xPF M 102 5 16 .int := ⟨RX5, TX5, 24, tyX5, cl_X5, by decide, by rw [h]; exact q_551, rfl, rfl⟩
theorem gf_X5_122 (M : xY) (h : M.1.cls = "WaitedPostModel") : xGF M 122 5 17 := ⟨RX5, TX5, 24, tyX5, cl_X5, by decide, by rw [h]; exact q_552⟩
theorem pf_X5_122 (M : xY) (h : M.1.cls = "WaitedPostModel") : xPF M 122 5 17 .int := ⟨RX5, TX5, 24, tyX5, cl_X5, by decide, by rw [h]; exact q_552, rfl, rfl⟩
theorem gf_X5_151 (M : xY) (h : M.1.cls = "WaitedPostModel") : xGF M 151 5 19 := ⟨RX5, TX5, 24, tyX5, cl_X5, by decide, by rw [h]; exact q_554⟩
theorem pf_X5_151 (M : xY) (h : M.1.cls = "WaitedPostModel") : xPF M 151 5 19 .int := ⟨RX5, TX5, 24, tyX5, cl_X5, by decide, by rw [h]; exact q_554, rfl, rfl⟩
theorem gf_X5_197 (M : xY) (h : M.1.cls = "WaitedPostModel") : xGF M 197 5 21 := ⟨RX5, TX5, 24, tyX5, cl_X5, by decide, by rw [h]; exact q_556⟩
theorem pf_X5_197 (M : xY) (h : M.1.cls = "WaitedPostModel") : xPF M 197 5 21 .long := ⟨RX5, TX5, 24, tyX5, cl_X5, by decide, by rw [h]; exact q_556, rfl, rfl⟩
theorem nw_X4_13 : Cond.classLink "WaitedPost" 13 "WaitedPost$Reader" ∈ xtbl ∧ Cond.instantiable "WaitedPost$Reader" 3 ∈ xtbl ∧ Cond.initialized "WaitedPost$Reader" ∈ xtbl := ⟨q_18, q_19, q_2⟩
theorem nw_X4_20 : Cond.classLink "WaitedPost" 20 "WaitedPost$Told" ∈ xtbl ∧ Cond.instantiable "WaitedPost$Told" 6 ∈ xtbl ∧ Cond.initialized "WaitedPost$Told" ∈ xtbl := ⟨q_72, q_25, q_3⟩
theorem nw_X4_27 : Cond.classLink "WaitedPost" 27 "WaitedPost$Standing" ∈ xtbl ∧ Cond.instantiable "WaitedPost$Standing" 7 ∈ xtbl ∧ Cond.initialized "WaitedPost$Standing" ∈ xtbl := ⟨q_74, q_75, q_4⟩
theorem nw_X4_47 : Cond.classLink "WaitedPost" 47 "WaitedPost$Planner" ∈ xtbl ∧ Cond.instantiable "WaitedPost$Planner" 1 ∈ xtbl ∧ Cond.initialized "WaitedPost$Planner" ∈ xtbl := ⟨q_116, q_117, q_5⟩
theorem nw_X1_9 : Cond.classLink "WaitedPost$Reader" 9 "WaitedPost$Told" ∈ xtbl ∧ Cond.instantiable "WaitedPost$Told" 6 ∈ xtbl ∧ Cond.initialized "WaitedPost$Told" ∈ xtbl := ⟨q_24, q_25, q_3⟩
theorem nw_L_7 : Cond.classLink "WaitedPostLaw" 7 "WaitedPost" ∈ xtbl ∧ Cond.instantiable "WaitedPost" 13 ∈ xtbl ∧ Cond.initialized "WaitedPost" ∈ xtbl := ⟨q_10, q_11, q_1⟩
theorem nw_L_10 : Cond.classLink "WaitedPostLaw" 10 "WaitedPostModel" ∈ xtbl ∧ Cond.instantiable "WaitedPostModel" 24 ∈ xtbl ∧ Cond.initialized "WaitedPostModel" ∈ xtbl := ⟨q_529, q_530, q_6⟩
theorem ac_int : Cond.arrayClass .int ∈ xtbl := q_60
theorem ac_long : Cond.arrayClass .long ∈ xtbl := q_126
theorem ac_boolean : Cond.arrayClass .boolean ∈ xtbl := q_608
theorem cn_J6_265 : Cond.constant "java/lang/Integer" 265 (1431655765 : Int32) ∈ xtbl := q_312
theorem cn_J6_266 : Cond.constant "java/lang/Integer" 266 (858993459 : Int32) ∈ xtbl := q_313
theorem cn_J6_267 : Cond.constant "java/lang/Integer" 267 (252645135 : Int32) ∈ xtbl := q_314
theorem cn_X0_15 : Cond.constantLong "WaitedPost$Planner" 15 (1152921504606846976 : Int64) ∈ xtbl := q_381
theorem cn_X0_48 : Cond.constantLong "WaitedPost$Planner" 48 (1000000 : Int64) ∈ xtbl := q_401
theorem cn_X4_210 : Cond.constantLong "WaitedPost" 210 (6364136223846793005 : Int64) ∈ xtbl := q_511
theorem cn_X4_212 : Cond.constantLong "WaitedPost" 212 (1442695040888963407 : Int64) ∈ xtbl := q_512
theorem cn_X5_48 : Cond.constantLong "WaitedPostModel" 48 (255 : Int64) ∈ xtbl := q_613
theorem cn_X5_63 : Cond.constantLong "WaitedPostModel" 63 (9 : Int64) ∈ xtbl := q_648
theorem cn_X5_160 : Cond.constantLong "WaitedPostModel" 160 (6 : Int64) ∈ xtbl := q_758
theorem cn_X5_171 : Cond.constantLong "WaitedPostModel" 171 (60 : Int64) ∈ xtbl := q_774
theorem cn_X5_173 : Cond.constantLong "WaitedPostModel" 173 (2 : Int64) ∈ xtbl := q_779
theorem cn_X5_192 : Cond.constantLong "WaitedPostModel" 192 (10 : Int64) ∈ xtbl := q_810
theorem cn_X5_201 : Cond.constantLong "WaitedPostModel" 201 (30 : Int64) ∈ xtbl := q_822
theorem cn_X5_203 : Cond.constantLong "WaitedPostModel" 203 (6364136223846793005 : Int64) ∈ xtbl := q_823
theorem cn_X5_205 : Cond.constantLong "WaitedPostModel" 205 (1442695040888963407 : Int64) ∈ xtbl := q_824
theorem cn_L_103 : Cond.constantLong "WaitedPostLaw" 103 (4294967295 : Int64) ∈ xtbl := q_837
