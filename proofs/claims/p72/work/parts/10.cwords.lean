abbrev M_X0_init : Mt := (yX0_init, cX0_init, 1, none)
abbrev M_X8_init : Mt := (yX8_init, cX8_init, 3, none)
abbrev M_X6_init : Mt := (yX6_init, cX6_init, 3, none)
abbrev M_X7_init : Mt := (yX7_init, cX7_init, 1, none)
abbrev M_X2_init : Mt := (yX2_init, cX2_init, 1, none)
abbrev M_X5_init : Mt := (yX5_init, cX5_init, 1, none)
abbrev M_X1_init : Mt := (yX1_init, cX1_init, 1, none)
abbrev M_X3_init : Mt := (yX3_init, cX3_init, 1, none)
abbrev M_X4_init : Mt := (yX4_init, cX4_init, 1, none)
abbrev M_X9_init : Mt := (yX9_init, cX9_init, 2, none)
abbrev M_X10_init : Mt := (yX10_init, cX10_init, 1, none)
theorem k_25 : (Jvm.Cond.methodLink "HoopCabinet" (1 : Nat) ({ cls := "java/lang/Object", name := "<init>", desc := "()V" } : Jvm.MethodName)) ∈ lw_tbl := List.mem_append_right _ (List.mem_of_getElem? (i := 25) (by decide +kernel))
theorem k_26 : (Jvm.Cond.instanceMethod ({ cls := "java/lang/Object", name := "<init>", desc := "()V" } : Jvm.MethodName)) ∈ lw_tbl := List.mem_append_right _ (List.mem_of_getElem? (i := 26) (by decide +kernel))
theorem k_27 : (Jvm.Cond.code ({ cls := "java/lang/Object", name := "<init>", desc := "()V" } : Jvm.MethodName) object_method_1_code (1 : Nat) (Option.none : Option Jvm.ClassFile.FieldType)) ∈ lw_tbl := List.mem_append_right _ (List.mem_of_getElem? (i := 27) (by decide +kernel))
theorem k_62 : (Jvm.Cond.arrayClass Jvm.ClassFile.FieldType.byte) ∈ lw_tbl := List.mem_append_right _ (List.mem_of_getElem? (i := 62) (by decide +kernel))
theorem k_302 : (Jvm.Cond.fieldLink "HoopCabinet" (9 : Nat) "HoopCabinet" "tape" "[B") ∈ lw_tbl := List.mem_append_right _ (List.mem_of_getElem? (i := 302) (by decide +kernel))
theorem k_303 : (Jvm.Cond.fieldLink "HoopCabinet" (13 : Nat) "HoopCabinet" "tapeLength" "I") ∈ lw_tbl := List.mem_append_right _ (List.mem_of_getElem? (i := 303) (by decide +kernel))
theorem k_28 : (Jvm.Cond.classLink "HoopCabinet" (17 : Nat) "HoopCabinet$Ball") ∈ lw_tbl := List.mem_append_right _ (List.mem_of_getElem? (i := 28) (by decide +kernel))
theorem k_29 : (Jvm.Cond.instantiable "HoopCabinet$Ball" (10 : Nat)) ∈ lw_tbl := List.mem_append_right _ (List.mem_of_getElem? (i := 29) (by decide +kernel))
theorem k_2 : (Jvm.Cond.initialized "HoopCabinet$Ball") ∈ lw_tbl := List.mem_append_right _ (List.mem_of_getElem? (i := 2) (by decide +kernel))
theorem k_32 : (Jvm.Cond.code ({ cls := "HoopCabinet$Ball", name := "<init>", desc := "()V" } : Jvm.MethodName) prog_2_method_1_code (1 : Nat) (Option.none : Option Jvm.ClassFile.FieldType)) ∈ lw_tbl := List.mem_append_right _ (List.mem_of_getElem? (i := 32) (by decide +kernel))
theorem k_30 : (Jvm.Cond.methodLinkNest "HoopCabinet" (19 : Nat) ({ cls := "HoopCabinet$Ball", name := "<init>", desc := "()V" } : Jvm.MethodName) "HoopCabinet") ∈ lw_tbl := List.mem_append_right _ (List.mem_of_getElem? (i := 30) (by decide +kernel))
theorem k_31 : (Jvm.Cond.instanceMethod ({ cls := "HoopCabinet$Ball", name := "<init>", desc := "()V" } : Jvm.MethodName)) ∈ lw_tbl := List.mem_append_right _ (List.mem_of_getElem? (i := 31) (by decide +kernel))
theorem k_33 : (Jvm.Cond.methodLink "HoopCabinet$Ball" (3 : Nat) ({ cls := "java/lang/Object", name := "<init>", desc := "()V" } : Jvm.MethodName)) ∈ lw_tbl := List.mem_append_right _ (List.mem_of_getElem? (i := 33) (by decide +kernel))
theorem k_34 : (Jvm.Cond.classLink "HoopCabinet$Ball" (9 : Nat) "HoopCabinet$Table") ∈ lw_tbl := List.mem_append_right _ (List.mem_of_getElem? (i := 34) (by decide +kernel))
theorem k_35 : (Jvm.Cond.instantiable "HoopCabinet$Table" (4 : Nat)) ∈ lw_tbl := List.mem_append_right _ (List.mem_of_getElem? (i := 35) (by decide +kernel))
theorem k_3 : (Jvm.Cond.initialized "HoopCabinet$Table") ∈ lw_tbl := List.mem_append_right _ (List.mem_of_getElem? (i := 3) (by decide +kernel))
theorem k_38 : (Jvm.Cond.code ({ cls := "HoopCabinet$Table", name := "<init>", desc := "(II)V" } : Jvm.MethodName) prog_10_method_1_code (3 : Nat) (Option.none : Option Jvm.ClassFile.FieldType)) ∈ lw_tbl := List.mem_append_right _ (List.mem_of_getElem? (i := 38) (by decide +kernel))
theorem k_36 : (Jvm.Cond.methodLink "HoopCabinet$Ball" (11 : Nat) ({ cls := "HoopCabinet$Table", name := "<init>", desc := "(II)V" } : Jvm.MethodName)) ∈ lw_tbl := List.mem_append_right _ (List.mem_of_getElem? (i := 36) (by decide +kernel))
theorem k_37 : (Jvm.Cond.instanceMethod ({ cls := "HoopCabinet$Table", name := "<init>", desc := "(II)V" } : Jvm.MethodName)) ∈ lw_tbl := List.mem_append_right _ (List.mem_of_getElem? (i := 37) (by decide +kernel))
theorem k_39 : (Jvm.Cond.methodLink "HoopCabinet$Table" (3 : Nat) ({ cls := "java/lang/Object", name := "<init>", desc := "()V" } : Jvm.MethodName)) ∈ lw_tbl := List.mem_append_right _ (List.mem_of_getElem? (i := 39) (by decide +kernel))
theorem k_40 : (Jvm.Cond.methodLink "HoopCabinet$Table" (9 : Nat) ({ cls := "java/lang/Math", name := "max", desc := "(II)I" } : Jvm.MethodName)) ∈ lw_tbl := List.mem_append_right _ (List.mem_of_getElem? (i := 40) (by decide +kernel))
theorem k_41 : (Jvm.Cond.static ({ cls := "java/lang/Math", name := "max", desc := "(II)I" } : Jvm.MethodName)) ∈ lw_tbl := List.mem_append_right _ (List.mem_of_getElem? (i := 41) (by decide +kernel))
theorem k_4 : (Jvm.Cond.initialized "java/lang/Math") ∈ lw_tbl := List.mem_append_right _ (List.mem_of_getElem? (i := 4) (by decide +kernel))
theorem k_42 : (Jvm.Cond.code ({ cls := "java/lang/Math", name := "max", desc := "(II)I" } : Jvm.MethodName) prog_14_method_65_code (2 : Nat) (Option.some Jvm.ClassFile.FieldType.int)) ∈ lw_tbl := List.mem_append_right _ (List.mem_of_getElem? (i := 42) (by decide +kernel))
theorem k_44 : (Jvm.Cond.fieldLink "HoopCabinet$Table" (15 : Nat) "HoopCabinet$Table" "limit" "I") ∈ lw_tbl := List.mem_append_right _ (List.mem_of_getElem? (i := 44) (by decide +kernel))
theorem k_45 : (Jvm.Cond.fieldLink "HoopCabinet$Table" (21 : Nat) "HoopCabinet$Table" "width" "I") ∈ lw_tbl := List.mem_append_right _ (List.mem_of_getElem? (i := 45) (by decide +kernel))
theorem k_63 : (Jvm.Cond.arrayClass Jvm.ClassFile.FieldType.int) ∈ lw_tbl := List.mem_append_right _ (List.mem_of_getElem? (i := 63) (by decide +kernel))
theorem k_43 : (Jvm.Cond.fieldLink "HoopCabinet$Table" (24 : Nat) "HoopCabinet$Table" "cells" "[I") ∈ lw_tbl := List.mem_append_right _ (List.mem_of_getElem? (i := 43) (by decide +kernel))
theorem k_46 : (Jvm.Cond.fieldLink "HoopCabinet$Table" (28 : Nat) "HoopCabinet$Table" "rows" "I") ∈ lw_tbl := List.mem_append_right _ (List.mem_of_getElem? (i := 46) (by decide +kernel))
theorem k_82 : (Jvm.Cond.fieldLink "HoopCabinet$Ball" (14 : Nat) "HoopCabinet$Ball" "doors" "LHoopCabinet$Table;") ∈ lw_tbl := List.mem_append_right _ (List.mem_of_getElem? (i := 82) (by decide +kernel))
theorem k_86 : (Jvm.Cond.fieldLink "HoopCabinet$Ball" (20 : Nat) "HoopCabinet$Ball" "ladies" "LHoopCabinet$Table;") ∈ lw_tbl := List.mem_append_right _ (List.mem_of_getElem? (i := 86) (by decide +kernel))
theorem k_92 : (Jvm.Cond.fieldLink "HoopCabinet$Ball" (23 : Nat) "HoopCabinet$Ball" "ministers" "LHoopCabinet$Table;") ∈ lw_tbl := List.mem_append_right _ (List.mem_of_getElem? (i := 92) (by decide +kernel))
theorem k_95 : (Jvm.Cond.fieldLink "HoopCabinet$Ball" (26 : Nat) "HoopCabinet$Ball" "bids" "LHoopCabinet$Table;") ∈ lw_tbl := List.mem_append_right _ (List.mem_of_getElem? (i := 95) (by decide +kernel))
theorem k_99 : (Jvm.Cond.fieldLink "HoopCabinet$Ball" (29 : Nat) "HoopCabinet$Ball" "acts" "LHoopCabinet$Table;") ∈ lw_tbl := List.mem_append_right _ (List.mem_of_getElem? (i := 99) (by decide +kernel))
theorem k_305 : (Jvm.Cond.fieldLink "HoopCabinet" (20 : Nat) "HoopCabinet" "now" "LHoopCabinet$Ball;") ∈ lw_tbl := List.mem_append_right _ (List.mem_of_getElem? (i := 305) (by decide +kernel))
theorem k_306 : (Jvm.Cond.fieldLink "HoopCabinet" (24 : Nat) "HoopCabinet" "draft" "LHoopCabinet$Ball;") ∈ lw_tbl := List.mem_append_right _ (List.mem_of_getElem? (i := 306) (by decide +kernel))
theorem k_123 : (Jvm.Cond.classLink "HoopCabinet" (27 : Nat) "HoopCabinet$Reader") ∈ lw_tbl := List.mem_append_right _ (List.mem_of_getElem? (i := 123) (by decide +kernel))
theorem k_124 : (Jvm.Cond.instantiable "HoopCabinet$Reader" (8 : Nat)) ∈ lw_tbl := List.mem_append_right _ (List.mem_of_getElem? (i := 124) (by decide +kernel))
theorem k_5 : (Jvm.Cond.initialized "HoopCabinet$Reader") ∈ lw_tbl := List.mem_append_right _ (List.mem_of_getElem? (i := 5) (by decide +kernel))
theorem k_127 : (Jvm.Cond.code ({ cls := "HoopCabinet$Reader", name := "<init>", desc := "([BLHoopCabinet$Ball;)V" } : Jvm.MethodName) prog_8_method_1_code (3 : Nat) (Option.none : Option Jvm.ClassFile.FieldType)) ∈ lw_tbl := List.mem_append_right _ (List.mem_of_getElem? (i := 127) (by decide +kernel))
theorem k_125 : (Jvm.Cond.methodLink "HoopCabinet" (29 : Nat) ({ cls := "HoopCabinet$Reader", name := "<init>", desc := "([BLHoopCabinet$Ball;)V" } : Jvm.MethodName)) ∈ lw_tbl := List.mem_append_right _ (List.mem_of_getElem? (i := 125) (by decide +kernel))
theorem k_126 : (Jvm.Cond.instanceMethod ({ cls := "HoopCabinet$Reader", name := "<init>", desc := "([BLHoopCabinet$Ball;)V" } : Jvm.MethodName)) ∈ lw_tbl := List.mem_append_right _ (List.mem_of_getElem? (i := 126) (by decide +kernel))
theorem k_128 : (Jvm.Cond.methodLink "HoopCabinet$Reader" (3 : Nat) ({ cls := "java/lang/Object", name := "<init>", desc := "()V" } : Jvm.MethodName)) ∈ lw_tbl := List.mem_append_right _ (List.mem_of_getElem? (i := 128) (by decide +kernel))
theorem k_129 : (Jvm.Cond.fieldLink "HoopCabinet$Reader" (9 : Nat) "HoopCabinet$Reader" "tape" "[B") ∈ lw_tbl := List.mem_append_right _ (List.mem_of_getElem? (i := 129) (by decide +kernel))
theorem k_130 : (Jvm.Cond.fieldLink "HoopCabinet$Reader" (15 : Nat) "HoopCabinet$Reader" "ball" "LHoopCabinet$Ball;") ∈ lw_tbl := List.mem_append_right _ (List.mem_of_getElem? (i := 130) (by decide +kernel))
theorem k_137 : (Jvm.Cond.fieldLink "HoopCabinet$Reader" (19 : Nat) "HoopCabinet$Reader" "faultPlace" "I") ∈ lw_tbl := List.mem_append_right _ (List.mem_of_getElem? (i := 137) (by decide +kernel))
theorem k_304 : (Jvm.Cond.fieldLink "HoopCabinet" (32 : Nat) "HoopCabinet" "reader" "LHoopCabinet$Reader;") ∈ lw_tbl := List.mem_append_right _ (List.mem_of_getElem? (i := 304) (by decide +kernel))
theorem k_156 : (Jvm.Cond.arrayOver (Jvm.ClassFile.FieldType.object "HoopCabinet$Ball")) ∈ lw_tbl := List.mem_append_right _ (List.mem_of_getElem? (i := 156) (by decide +kernel))
theorem k_307 : (Jvm.Cond.fieldLink "HoopCabinet" (36 : Nat) "HoopCabinet" "images" "[LHoopCabinet$Ball;") ∈ lw_tbl := List.mem_append_right _ (List.mem_of_getElem? (i := 307) (by decide +kernel))
theorem k_177 : (Jvm.Cond.arrayClass Jvm.ClassFile.FieldType.boolean) ∈ lw_tbl := List.mem_append_right _ (List.mem_of_getElem? (i := 177) (by decide +kernel))
theorem k_308 : (Jvm.Cond.fieldLink "HoopCabinet" (40 : Nat) "HoopCabinet" "kept" "[Z") ∈ lw_tbl := List.mem_append_right _ (List.mem_of_getElem? (i := 308) (by decide +kernel))
theorem k_157 : (Jvm.Cond.classLink "HoopCabinet" (44 : Nat) "HoopCabinet$Slot") ∈ lw_tbl := List.mem_append_right _ (List.mem_of_getElem? (i := 157) (by decide +kernel))
theorem k_158 : (Jvm.Cond.arrayOver (Jvm.ClassFile.FieldType.object "HoopCabinet$Slot")) ∈ lw_tbl := List.mem_append_right _ (List.mem_of_getElem? (i := 158) (by decide +kernel))
theorem k_309 : (Jvm.Cond.fieldLink "HoopCabinet" (46 : Nat) "HoopCabinet" "slots" "[LHoopCabinet$Slot;") ∈ lw_tbl := List.mem_append_right _ (List.mem_of_getElem? (i := 309) (by decide +kernel))
theorem k_159 : (Jvm.Cond.instantiable "HoopCabinet$Slot" (3 : Nat)) ∈ lw_tbl := List.mem_append_right _ (List.mem_of_getElem? (i := 159) (by decide +kernel))
theorem k_6 : (Jvm.Cond.initialized "HoopCabinet$Slot") ∈ lw_tbl := List.mem_append_right _ (List.mem_of_getElem? (i := 6) (by decide +kernel))
theorem k_162 : (Jvm.Cond.code ({ cls := "HoopCabinet$Slot", name := "<init>", desc := "()V" } : Jvm.MethodName) prog_9_method_1_code (1 : Nat) (Option.none : Option Jvm.ClassFile.FieldType)) ∈ lw_tbl := List.mem_append_right _ (List.mem_of_getElem? (i := 162) (by decide +kernel))
theorem k_160 : (Jvm.Cond.methodLinkNest "HoopCabinet" (50 : Nat) ({ cls := "HoopCabinet$Slot", name := "<init>", desc := "()V" } : Jvm.MethodName) "HoopCabinet") ∈ lw_tbl := List.mem_append_right _ (List.mem_of_getElem? (i := 160) (by decide +kernel))
theorem k_161 : (Jvm.Cond.instanceMethod ({ cls := "HoopCabinet$Slot", name := "<init>", desc := "()V" } : Jvm.MethodName)) ∈ lw_tbl := List.mem_append_right _ (List.mem_of_getElem? (i := 161) (by decide +kernel))
theorem k_163 : (Jvm.Cond.methodLink "HoopCabinet$Slot" (3 : Nat) ({ cls := "java/lang/Object", name := "<init>", desc := "()V" } : Jvm.MethodName)) ∈ lw_tbl := List.mem_append_right _ (List.mem_of_getElem? (i := 163) (by decide +kernel))
theorem k_178 : (Jvm.Cond.arrayClass Jvm.ClassFile.FieldType.long) ∈ lw_tbl := List.mem_append_right _ (List.mem_of_getElem? (i := 178) (by decide +kernel))
theorem k_164 : (Jvm.Cond.fieldLink "HoopCabinet$Slot" (11 : Nat) "HoopCabinet$Slot" "cells" "[J") ∈ lw_tbl := List.mem_append_right _ (List.mem_of_getElem? (i := 164) (by decide +kernel))
theorem k_168 : (Jvm.Cond.fieldLink "HoopCabinet$Slot" (15 : Nat) "HoopCabinet$Slot" "size" "I") ∈ lw_tbl := List.mem_append_right _ (List.mem_of_getElem? (i := 168) (by decide +kernel))
theorem k_179 : (Jvm.Cond.classLink "HoopCabinet" (51 : Nat) "HoopCabinet$Floor") ∈ lw_tbl := List.mem_append_right _ (List.mem_of_getElem? (i := 179) (by decide +kernel))
theorem k_180 : (Jvm.Cond.instantiable "HoopCabinet$Floor" (8 : Nat)) ∈ lw_tbl := List.mem_append_right _ (List.mem_of_getElem? (i := 180) (by decide +kernel))
theorem k_7 : (Jvm.Cond.initialized "HoopCabinet$Floor") ∈ lw_tbl := List.mem_append_right _ (List.mem_of_getElem? (i := 7) (by decide +kernel))
theorem k_183 : (Jvm.Cond.code ({ cls := "HoopCabinet$Floor", name := "<init>", desc := "()V" } : Jvm.MethodName) prog_4_method_1_code (1 : Nat) (Option.none : Option Jvm.ClassFile.FieldType)) ∈ lw_tbl := List.mem_append_right _ (List.mem_of_getElem? (i := 183) (by decide +kernel))
theorem k_181 : (Jvm.Cond.methodLinkNest "HoopCabinet" (53 : Nat) ({ cls := "HoopCabinet$Floor", name := "<init>", desc := "()V" } : Jvm.MethodName) "HoopCabinet") ∈ lw_tbl := List.mem_append_right _ (List.mem_of_getElem? (i := 181) (by decide +kernel))
theorem k_182 : (Jvm.Cond.instanceMethod ({ cls := "HoopCabinet$Floor", name := "<init>", desc := "()V" } : Jvm.MethodName)) ∈ lw_tbl := List.mem_append_right _ (List.mem_of_getElem? (i := 182) (by decide +kernel))
theorem k_184 : (Jvm.Cond.methodLink "HoopCabinet$Floor" (3 : Nat) ({ cls := "java/lang/Object", name := "<init>", desc := "()V" } : Jvm.MethodName)) ∈ lw_tbl := List.mem_append_right _ (List.mem_of_getElem? (i := 184) (by decide +kernel))
theorem k_185 : (Jvm.Cond.fieldLink "HoopCabinet$Floor" (9 : Nat) "HoopCabinet$Floor" "near" "[I") ∈ lw_tbl := List.mem_append_right _ (List.mem_of_getElem? (i := 185) (by decide +kernel))
theorem k_186 : (Jvm.Cond.fieldLink "HoopCabinet$Floor" (15 : Nat) "HoopCabinet$Floor" "goals" "[I") ∈ lw_tbl := List.mem_append_right _ (List.mem_of_getElem? (i := 186) (by decide +kernel))
theorem k_187 : (Jvm.Cond.fieldLink "HoopCabinet$Floor" (18 : Nat) "HoopCabinet$Floor" "since" "[I") ∈ lw_tbl := List.mem_append_right _ (List.mem_of_getElem? (i := 187) (by decide +kernel))
theorem k_188 : (Jvm.Cond.fieldLink "HoopCabinet$Floor" (21 : Nat) "HoopCabinet$Floor" "places" "[I") ∈ lw_tbl := List.mem_append_right _ (List.mem_of_getElem? (i := 188) (by decide +kernel))
theorem k_189 : (Jvm.Cond.fieldLink "HoopCabinet$Floor" (24 : Nat) "HoopCabinet$Floor" "company" "[I") ∈ lw_tbl := List.mem_append_right _ (List.mem_of_getElem? (i := 189) (by decide +kernel))
theorem k_310 : (Jvm.Cond.fieldLink "HoopCabinet" (54 : Nat) "HoopCabinet" "floor" "LHoopCabinet$Floor;") ∈ lw_tbl := List.mem_append_right _ (List.mem_of_getElem? (i := 310) (by decide +kernel))
theorem k_311 : (Jvm.Cond.fieldLink "HoopCabinet" (58 : Nat) "HoopCabinet" "trial" "LHoopCabinet$Floor;") ∈ lw_tbl := List.mem_append_right _ (List.mem_of_getElem? (i := 311) (by decide +kernel))
theorem k_210 : (Jvm.Cond.classLink "HoopCabinet" (61 : Nat) "HoopCabinet$Notes") ∈ lw_tbl := List.mem_append_right _ (List.mem_of_getElem? (i := 210) (by decide +kernel))
theorem k_211 : (Jvm.Cond.instantiable "HoopCabinet$Notes" (6 : Nat)) ∈ lw_tbl := List.mem_append_right _ (List.mem_of_getElem? (i := 211) (by decide +kernel))
theorem k_8 : (Jvm.Cond.initialized "HoopCabinet$Notes") ∈ lw_tbl := List.mem_append_right _ (List.mem_of_getElem? (i := 8) (by decide +kernel))
theorem k_214 : (Jvm.Cond.code ({ cls := "HoopCabinet$Notes", name := "<init>", desc := "()V" } : Jvm.MethodName) prog_7_method_1_code (1 : Nat) (Option.none : Option Jvm.ClassFile.FieldType)) ∈ lw_tbl := List.mem_append_right _ (List.mem_of_getElem? (i := 214) (by decide +kernel))
theorem k_212 : (Jvm.Cond.methodLinkNest "HoopCabinet" (63 : Nat) ({ cls := "HoopCabinet$Notes", name := "<init>", desc := "()V" } : Jvm.MethodName) "HoopCabinet") ∈ lw_tbl := List.mem_append_right _ (List.mem_of_getElem? (i := 212) (by decide +kernel))
theorem k_213 : (Jvm.Cond.instanceMethod ({ cls := "HoopCabinet$Notes", name := "<init>", desc := "()V" } : Jvm.MethodName)) ∈ lw_tbl := List.mem_append_right _ (List.mem_of_getElem? (i := 213) (by decide +kernel))
theorem k_215 : (Jvm.Cond.methodLink "HoopCabinet$Notes" (3 : Nat) ({ cls := "java/lang/Object", name := "<init>", desc := "()V" } : Jvm.MethodName)) ∈ lw_tbl := List.mem_append_right _ (List.mem_of_getElem? (i := 215) (by decide +kernel))
theorem k_216 : (Jvm.Cond.fieldLink "HoopCabinet$Notes" (9 : Nat) "HoopCabinet$Notes" "allowed" "[I") ∈ lw_tbl := List.mem_append_right _ (List.mem_of_getElem? (i := 216) (by decide +kernel))
theorem k_217 : (Jvm.Cond.fieldLink "HoopCabinet$Notes" (15 : Nat) "HoopCabinet$Notes" "seatsUnder" "[I") ∈ lw_tbl := List.mem_append_right _ (List.mem_of_getElem? (i := 217) (by decide +kernel))
theorem k_218 : (Jvm.Cond.fieldLink "HoopCabinet$Notes" (18 : Nat) "HoopCabinet$Notes" "holders" "[I") ∈ lw_tbl := List.mem_append_right _ (List.mem_of_getElem? (i := 218) (by decide +kernel))
theorem k_312 : (Jvm.Cond.fieldLink "HoopCabinet" (64 : Nat) "HoopCabinet" "notes" "LHoopCabinet$Notes;") ∈ lw_tbl := List.mem_append_right _ (List.mem_of_getElem? (i := 312) (by decide +kernel))
theorem k_237 : (Jvm.Cond.classLink "HoopCabinet" (68 : Nat) "HoopCabinet$Carrier") ∈ lw_tbl := List.mem_append_right _ (List.mem_of_getElem? (i := 237) (by decide +kernel))
theorem k_238 : (Jvm.Cond.instantiable "HoopCabinet$Carrier" (8 : Nat)) ∈ lw_tbl := List.mem_append_right _ (List.mem_of_getElem? (i := 238) (by decide +kernel))
theorem k_9 : (Jvm.Cond.initialized "HoopCabinet$Carrier") ∈ lw_tbl := List.mem_append_right _ (List.mem_of_getElem? (i := 9) (by decide +kernel))
theorem k_241 : (Jvm.Cond.code ({ cls := "HoopCabinet$Carrier", name := "<init>", desc := "()V" } : Jvm.MethodName) prog_3_method_1_code (1 : Nat) (Option.none : Option Jvm.ClassFile.FieldType)) ∈ lw_tbl := List.mem_append_right _ (List.mem_of_getElem? (i := 241) (by decide +kernel))
theorem k_239 : (Jvm.Cond.methodLinkNest "HoopCabinet" (70 : Nat) ({ cls := "HoopCabinet$Carrier", name := "<init>", desc := "()V" } : Jvm.MethodName) "HoopCabinet") ∈ lw_tbl := List.mem_append_right _ (List.mem_of_getElem? (i := 239) (by decide +kernel))
theorem k_240 : (Jvm.Cond.instanceMethod ({ cls := "HoopCabinet$Carrier", name := "<init>", desc := "()V" } : Jvm.MethodName)) ∈ lw_tbl := List.mem_append_right _ (List.mem_of_getElem? (i := 240) (by decide +kernel))
theorem k_242 : (Jvm.Cond.methodLink "HoopCabinet$Carrier" (3 : Nat) ({ cls := "java/lang/Object", name := "<init>", desc := "()V" } : Jvm.MethodName)) ∈ lw_tbl := List.mem_append_right _ (List.mem_of_getElem? (i := 242) (by decide +kernel))
theorem k_243 : (Jvm.Cond.fieldLink "HoopCabinet$Carrier" (9 : Nat) "HoopCabinet$Carrier" "taking" "[I") ∈ lw_tbl := List.mem_append_right _ (List.mem_of_getElem? (i := 243) (by decide +kernel))
theorem k_244 : (Jvm.Cond.fieldLink "HoopCabinet$Carrier" (15 : Nat) "HoopCabinet$Carrier" "holding" "[I") ∈ lw_tbl := List.mem_append_right _ (List.mem_of_getElem? (i := 244) (by decide +kernel))
theorem k_245 : (Jvm.Cond.fieldLink "HoopCabinet$Carrier" (18 : Nat) "HoopCabinet$Carrier" "bare" "[I") ∈ lw_tbl := List.mem_append_right _ (List.mem_of_getElem? (i := 245) (by decide +kernel))
theorem k_313 : (Jvm.Cond.fieldLink "HoopCabinet" (71 : Nat) "HoopCabinet" "carrier" "LHoopCabinet$Carrier;") ∈ lw_tbl := List.mem_append_right _ (List.mem_of_getElem? (i := 313) (by decide +kernel))
theorem k_268 : (Jvm.Cond.classLink "HoopCabinet" (75 : Nat) "HoopCabinet$House") ∈ lw_tbl := List.mem_append_right _ (List.mem_of_getElem? (i := 268) (by decide +kernel))
theorem k_269 : (Jvm.Cond.instantiable "HoopCabinet$House" (3 : Nat)) ∈ lw_tbl := List.mem_append_right _ (List.mem_of_getElem? (i := 269) (by decide +kernel))
theorem k_10 : (Jvm.Cond.initialized "HoopCabinet$House") ∈ lw_tbl := List.mem_append_right _ (List.mem_of_getElem? (i := 10) (by decide +kernel))
theorem k_272 : (Jvm.Cond.code ({ cls := "HoopCabinet$House", name := "<init>", desc := "()V" } : Jvm.MethodName) prog_5_method_1_code (1 : Nat) (Option.none : Option Jvm.ClassFile.FieldType)) ∈ lw_tbl := List.mem_append_right _ (List.mem_of_getElem? (i := 272) (by decide +kernel))
theorem k_270 : (Jvm.Cond.methodLinkNest "HoopCabinet" (77 : Nat) ({ cls := "HoopCabinet$House", name := "<init>", desc := "()V" } : Jvm.MethodName) "HoopCabinet") ∈ lw_tbl := List.mem_append_right _ (List.mem_of_getElem? (i := 270) (by decide +kernel))
theorem k_271 : (Jvm.Cond.instanceMethod ({ cls := "HoopCabinet$House", name := "<init>", desc := "()V" } : Jvm.MethodName)) ∈ lw_tbl := List.mem_append_right _ (List.mem_of_getElem? (i := 271) (by decide +kernel))
theorem k_273 : (Jvm.Cond.methodLink "HoopCabinet$House" (3 : Nat) ({ cls := "java/lang/Object", name := "<init>", desc := "()V" } : Jvm.MethodName)) ∈ lw_tbl := List.mem_append_right _ (List.mem_of_getElem? (i := 273) (by decide +kernel))
theorem k_274 : (Jvm.Cond.fieldLink "HoopCabinet$House" (9 : Nat) "HoopCabinet$House" "seatsUnder" "[I") ∈ lw_tbl := List.mem_append_right _ (List.mem_of_getElem? (i := 274) (by decide +kernel))
theorem k_314 : (Jvm.Cond.fieldLink "HoopCabinet" (78 : Nat) "HoopCabinet" "house" "LHoopCabinet$House;") ∈ lw_tbl := List.mem_append_right _ (List.mem_of_getElem? (i := 314) (by decide +kernel))
theorem k_285 : (Jvm.Cond.classLink "HoopCabinet" (82 : Nat) "HoopCabinet$Music") ∈ lw_tbl := List.mem_append_right _ (List.mem_of_getElem? (i := 285) (by decide +kernel))
theorem k_286 : (Jvm.Cond.instantiable "HoopCabinet$Music" (3 : Nat)) ∈ lw_tbl := List.mem_append_right _ (List.mem_of_getElem? (i := 286) (by decide +kernel))
theorem k_11 : (Jvm.Cond.initialized "HoopCabinet$Music") ∈ lw_tbl := List.mem_append_right _ (List.mem_of_getElem? (i := 11) (by decide +kernel))
theorem k_289 : (Jvm.Cond.code ({ cls := "HoopCabinet$Music", name := "<init>", desc := "()V" } : Jvm.MethodName) prog_6_method_1_code (1 : Nat) (Option.none : Option Jvm.ClassFile.FieldType)) ∈ lw_tbl := List.mem_append_right _ (List.mem_of_getElem? (i := 289) (by decide +kernel))
theorem k_287 : (Jvm.Cond.methodLinkNest "HoopCabinet" (84 : Nat) ({ cls := "HoopCabinet$Music", name := "<init>", desc := "()V" } : Jvm.MethodName) "HoopCabinet") ∈ lw_tbl := List.mem_append_right _ (List.mem_of_getElem? (i := 287) (by decide +kernel))
theorem k_288 : (Jvm.Cond.instanceMethod ({ cls := "HoopCabinet$Music", name := "<init>", desc := "()V" } : Jvm.MethodName)) ∈ lw_tbl := List.mem_append_right _ (List.mem_of_getElem? (i := 288) (by decide +kernel))
theorem k_290 : (Jvm.Cond.methodLink "HoopCabinet$Music" (3 : Nat) ({ cls := "java/lang/Object", name := "<init>", desc := "()V" } : Jvm.MethodName)) ∈ lw_tbl := List.mem_append_right _ (List.mem_of_getElem? (i := 290) (by decide +kernel))
theorem k_291 : (Jvm.Cond.fieldLink "HoopCabinet$Music" (9 : Nat) "HoopCabinet$Music" "weights" "[J") ∈ lw_tbl := List.mem_append_right _ (List.mem_of_getElem? (i := 291) (by decide +kernel))
theorem k_292 : (Jvm.Cond.fieldLink "HoopCabinet$Music" (15 : Nat) "HoopCabinet$Music" "later" "[J") ∈ lw_tbl := List.mem_append_right _ (List.mem_of_getElem? (i := 292) (by decide +kernel))
theorem k_315 : (Jvm.Cond.fieldLink "HoopCabinet" (85 : Nat) "HoopCabinet" "music" "LHoopCabinet$Music;") ∈ lw_tbl := List.mem_append_right _ (List.mem_of_getElem? (i := 315) (by decide +kernel))
theorem k_316 : (Jvm.Cond.fieldLink "HoopCabinet" (89 : Nat) "HoopCabinet" "answers" "[I") ∈ lw_tbl := List.mem_append_right _ (List.mem_of_getElem? (i := 316) (by decide +kernel))
theorem k_1240 : (Jvm.Cond.methodLink "HoopCabinetModel" (3 : Nat) ({ cls := "java/lang/Object", name := "<init>", desc := "()V" } : Jvm.MethodName)) ∈ lw_tbl := List.mem_append_right _ (List.mem_of_getElem? (i := 1240) (by decide +kernel))
theorem k_1241 : (Jvm.Cond.fieldLink "HoopCabinetModel" (9 : Nat) "HoopCabinetModel" "world" "[I") ∈ lw_tbl := List.mem_append_right _ (List.mem_of_getElem? (i := 1241) (by decide +kernel))
theorem k_1242 : (Jvm.Cond.fieldLink "HoopCabinetModel" (13 : Nat) "HoopCabinetModel" "images" "[I") ∈ lw_tbl := List.mem_append_right _ (List.mem_of_getElem? (i := 1242) (by decide +kernel))
theorem k_1243 : (Jvm.Cond.fieldLink "HoopCabinetModel" (16 : Nat) "HoopCabinetModel" "hasImage" "[Z") ∈ lw_tbl := List.mem_append_right _ (List.mem_of_getElem? (i := 1243) (by decide +kernel))
theorem k_1244 : (Jvm.Cond.fieldLink "HoopCabinetModel" (20 : Nat) "HoopCabinetModel" "tape" "[B") ∈ lw_tbl := List.mem_append_right _ (List.mem_of_getElem? (i := 1244) (by decide +kernel))
theorem k_1246 : (Jvm.Cond.fieldLink "HoopCabinetModel" (24 : Nat) "HoopCabinetModel" "five" "[I") ∈ lw_tbl := List.mem_append_right _ (List.mem_of_getElem? (i := 1246) (by decide +kernel))
theorem k_1253 : (Jvm.Cond.fieldLink "HoopCabinetModel" (27 : Nat) "HoopCabinetModel" "faultPlace" "I") ∈ lw_tbl := List.mem_append_right _ (List.mem_of_getElem? (i := 1253) (by decide +kernel))
theorem k_1254 : (Jvm.Cond.fieldLink "HoopCabinetModel" (31 : Nat) "HoopCabinetModel" "fresh" "[I") ∈ lw_tbl := List.mem_append_right _ (List.mem_of_getElem? (i := 1254) (by decide +kernel))
theorem k_1255 : (Jvm.Cond.fieldLink "HoopCabinetModel" (34 : Nat) "HoopCabinetModel" "ways" "[I") ∈ lw_tbl := List.mem_append_right _ (List.mem_of_getElem? (i := 1255) (by decide +kernel))
theorem k_1258 : (Jvm.Cond.fieldLink "HoopCabinetModel" (37 : Nat) "HoopCabinetModel" "atBy" "[I") ∈ lw_tbl := List.mem_append_right _ (List.mem_of_getElem? (i := 1258) (by decide +kernel))
theorem k_1259 : (Jvm.Cond.fieldLink "HoopCabinetModel" (40 : Nat) "HoopCabinetModel" "underOf" "[I") ∈ lw_tbl := List.mem_append_right _ (List.mem_of_getElem? (i := 1259) (by decide +kernel))
theorem k_1260 : (Jvm.Cond.fieldLink "HoopCabinetModel" (43 : Nat) "HoopCabinetModel" "seatsOf" "[I") ∈ lw_tbl := List.mem_append_right _ (List.mem_of_getElem? (i := 1260) (by decide +kernel))
theorem k_1266 : (Jvm.Cond.fieldLink "HoopCabinetModel" (46 : Nat) "HoopCabinetModel" "haveAt" "[I") ∈ lw_tbl := List.mem_append_right _ (List.mem_of_getElem? (i := 1266) (by decide +kernel))
theorem k_1267 : (Jvm.Cond.fieldLink "HoopCabinetModel" (49 : Nat) "HoopCabinetModel" "getsAt" "[I") ∈ lw_tbl := List.mem_append_right _ (List.mem_of_getElem? (i := 1267) (by decide +kernel))
theorem k_1268 : (Jvm.Cond.fieldLink "HoopCabinetModel" (52 : Nat) "HoopCabinetModel" "giverOf" "[I") ∈ lw_tbl := List.mem_append_right _ (List.mem_of_getElem? (i := 1268) (by decide +kernel))
theorem k_1269 : (Jvm.Cond.fieldLink "HoopCabinetModel" (55 : Nat) "HoopCabinetModel" "canGive" "[Z") ∈ lw_tbl := List.mem_append_right _ (List.mem_of_getElem? (i := 1269) (by decide +kernel))
theorem k_1270 : (Jvm.Cond.fieldLink "HoopCabinetModel" (58 : Nat) "HoopCabinetModel" "walkRow" "[I") ∈ lw_tbl := List.mem_append_right _ (List.mem_of_getElem? (i := 1270) (by decide +kernel))
theorem k_1271 : (Jvm.Cond.fieldLink "HoopCabinetModel" (61 : Nat) "HoopCabinetModel" "getsBy" "[I") ∈ lw_tbl := List.mem_append_right _ (List.mem_of_getElem? (i := 1271) (by decide +kernel))
theorem k_1276 : (Jvm.Cond.fieldLink "HoopCabinetModel" (64 : Nat) "HoopCabinetModel" "many" "[I") ∈ lw_tbl := List.mem_append_right _ (List.mem_of_getElem? (i := 1276) (by decide +kernel))
theorem k_1277 : (Jvm.Cond.fieldLink "HoopCabinetModel" (67 : Nat) "HoopCabinetModel" "width" "[I") ∈ lw_tbl := List.mem_append_right _ (List.mem_of_getElem? (i := 1277) (by decide +kernel))
theorem k_1278 : (Jvm.Cond.fieldLink "HoopCabinetModel" (70 : Nat) "HoopCabinetModel" "numbers" "[J") ∈ lw_tbl := List.mem_append_right _ (List.mem_of_getElem? (i := 1278) (by decide +kernel))
theorem k_1279 : (Jvm.Cond.fieldLink "HoopCabinetModel" (74 : Nat) "HoopCabinetModel" "moving" "[J") ∈ lw_tbl := List.mem_append_right _ (List.mem_of_getElem? (i := 1279) (by decide +kernel))
theorem ff_X9_9 : FF RX9 9 9 0 15 := ⟨RX9, TX9, CI9, by decide, rfl, rfl, k_302⟩
theorem fp_X9_13 : FP RX9 13 9 1 15 := ⟨RX9, TX9, CI9, by decide, rfl, Or.inl k_303⟩
theorem ci_X9_19 : CIw RX9 19 M_X0_init 0 := ⟨⟨k_32, k_2, by decide +kernel, Or.inr ⟨_, k_30⟩⟩, rfl, k_31⟩
theorem ci_X0_11 : CIw RX0 11 M_X8_init 2 := ⟨⟨k_38, k_3, by decide +kernel, Or.inl k_36⟩, rfl, k_37⟩
theorem ff_X8_15 : FF RX8 15 8 1 4 := ⟨RX8, TX8, CI8, by decide, rfl, rfl, k_44⟩
theorem ff_X8_21 : FF RX8 21 8 2 4 := ⟨RX8, TX8, CI8, by decide, rfl, rfl, k_45⟩
theorem fg_X8_15 : FG RX8 15 8 1 4 := ⟨RX8, TX8, CI8, by decide, Or.inl k_44⟩
theorem fg_X8_21 : FG RX8 21 8 2 4 := ⟨RX8, TX8, CI8, by decide, Or.inl k_45⟩
theorem ff_X8_24 : FF RX8 24 8 0 4 := ⟨RX8, TX8, CI8, by decide, rfl, rfl, k_43⟩
theorem fp_X8_28 : FP RX8 28 8 3 4 := ⟨RX8, TX8, CI8, by decide, rfl, Or.inl k_46⟩
theorem ff_X0_14 : FF RX0 14 0 5 10 := ⟨RX0, TX0, CI0, by decide, rfl, rfl, k_82⟩
theorem ff_X0_20 : FF RX0 20 0 6 10 := ⟨RX0, TX0, CI0, by decide, rfl, rfl, k_86⟩
theorem ff_X0_23 : FF RX0 23 0 7 10 := ⟨RX0, TX0, CI0, by decide, rfl, rfl, k_92⟩
theorem ff_X0_26 : FF RX0 26 0 8 10 := ⟨RX0, TX0, CI0, by decide, rfl, rfl, k_95⟩
theorem ff_X0_29 : FF RX0 29 0 9 10 := ⟨RX0, TX0, CI0, by decide, rfl, rfl, k_99⟩
theorem ff_X9_20 : FF RX9 20 9 3 15 := ⟨RX9, TX9, CI9, by decide, rfl, rfl, k_305⟩
theorem ff_X9_24 : FF RX9 24 9 4 15 := ⟨RX9, TX9, CI9, by decide, rfl, rfl, k_306⟩
theorem fg_X9_9 : FG RX9 9 9 0 15 := ⟨RX9, TX9, CI9, by decide, Or.inl k_302⟩
theorem fg_X9_24 : FG RX9 24 9 4 15 := ⟨RX9, TX9, CI9, by decide, Or.inl k_306⟩
theorem ci_X9_29 : CIw RX9 29 M_X6_init 2 := ⟨⟨k_127, k_5, by decide +kernel, Or.inl k_125⟩, rfl, k_126⟩
theorem ff_X6_9 : FF RX6 9 6 0 8 := ⟨RX6, TX6, CI6, by decide, rfl, rfl, k_129⟩
theorem ff_X6_15 : FF RX6 15 6 1 8 := ⟨RX6, TX6, CI6, by decide, rfl, rfl, k_130⟩
theorem fp_X6_19 : FP RX6 19 6 7 8 := ⟨RX6, TX6, CI6, by decide, rfl, Or.inl k_137⟩
theorem ff_X9_32 : FF RX9 32 9 2 15 := ⟨RX9, TX9, CI9, by decide, rfl, rfl, k_304⟩
theorem ff_X9_36 : FF RX9 36 9 5 15 := ⟨RX9, TX9, CI9, by decide, rfl, rfl, k_307⟩
theorem ff_X9_40 : FF RX9 40 9 6 15 := ⟨RX9, TX9, CI9, by decide, rfl, rfl, k_308⟩
theorem fg_X9_36 : FG RX9 36 9 5 15 := ⟨RX9, TX9, CI9, by decide, Or.inl k_307⟩
theorem ff_X9_46 : FF RX9 46 9 7 15 := ⟨RX9, TX9, CI9, by decide, rfl, rfl, k_309⟩
theorem fg_X9_46 : FG RX9 46 9 7 15 := ⟨RX9, TX9, CI9, by decide, Or.inl k_309⟩
theorem ci_X9_50 : CIw RX9 50 M_X7_init 0 := ⟨⟨k_162, k_6, by decide +kernel, Or.inr ⟨_, k_160⟩⟩, rfl, k_161⟩
theorem ff_X7_11 : FF RX7 11 7 0 3 := ⟨RX7, TX7, CI7, by decide, rfl, rfl, k_164⟩
theorem fp_X7_15 : FP RX7 15 7 2 3 := ⟨RX7, TX7, CI7, by decide, rfl, Or.inl k_168⟩
theorem ci_X9_53 : CIw RX9 53 M_X2_init 0 := ⟨⟨k_183, k_7, by decide +kernel, Or.inr ⟨_, k_181⟩⟩, rfl, k_182⟩
theorem ff_X2_9 : FF RX2 9 2 0 8 := ⟨RX2, TX2, CI2, by decide, rfl, rfl, k_185⟩
theorem ff_X2_15 : FF RX2 15 2 1 8 := ⟨RX2, TX2, CI2, by decide, rfl, rfl, k_186⟩
theorem ff_X2_18 : FF RX2 18 2 2 8 := ⟨RX2, TX2, CI2, by decide, rfl, rfl, k_187⟩
theorem ff_X2_21 : FF RX2 21 2 3 8 := ⟨RX2, TX2, CI2, by decide, rfl, rfl, k_188⟩
theorem ff_X2_24 : FF RX2 24 2 4 8 := ⟨RX2, TX2, CI2, by decide, rfl, rfl, k_189⟩
theorem ff_X9_54 : FF RX9 54 9 8 15 := ⟨RX9, TX9, CI9, by decide, rfl, rfl, k_310⟩
theorem ff_X9_58 : FF RX9 58 9 9 15 := ⟨RX9, TX9, CI9, by decide, rfl, rfl, k_311⟩
theorem ci_X9_63 : CIw RX9 63 M_X5_init 0 := ⟨⟨k_214, k_8, by decide +kernel, Or.inr ⟨_, k_212⟩⟩, rfl, k_213⟩
theorem ff_X5_9 : FF RX5 9 5 0 6 := ⟨RX5, TX5, CI5, by decide, rfl, rfl, k_216⟩
theorem ff_X5_15 : FF RX5 15 5 1 6 := ⟨RX5, TX5, CI5, by decide, rfl, rfl, k_217⟩
theorem ff_X5_18 : FF RX5 18 5 2 6 := ⟨RX5, TX5, CI5, by decide, rfl, rfl, k_218⟩
theorem ff_X9_64 : FF RX9 64 9 10 15 := ⟨RX9, TX9, CI9, by decide, rfl, rfl, k_312⟩
theorem ci_X9_70 : CIw RX9 70 M_X1_init 0 := ⟨⟨k_241, k_9, by decide +kernel, Or.inr ⟨_, k_239⟩⟩, rfl, k_240⟩
theorem ff_X1_9 : FF RX1 9 1 0 8 := ⟨RX1, TX1, CI1, by decide, rfl, rfl, k_243⟩
theorem ff_X1_15 : FF RX1 15 1 1 8 := ⟨RX1, TX1, CI1, by decide, rfl, rfl, k_244⟩
theorem ff_X1_18 : FF RX1 18 1 2 8 := ⟨RX1, TX1, CI1, by decide, rfl, rfl, k_245⟩
theorem ff_X9_71 : FF RX9 71 9 11 15 := ⟨RX9, TX9, CI9, by decide, rfl, rfl, k_313⟩
theorem ci_X9_77 : CIw RX9 77 M_X3_init 0 := ⟨⟨k_272, k_10, by decide +kernel, Or.inr ⟨_, k_270⟩⟩, rfl, k_271⟩
theorem ff_X3_9 : FF RX3 9 3 0 3 := ⟨RX3, TX3, CI3, by decide, rfl, rfl, k_274⟩
theorem ff_X9_78 : FF RX9 78 9 12 15 := ⟨RX9, TX9, CI9, by decide, rfl, rfl, k_314⟩
theorem ci_X9_84 : CIw RX9 84 M_X4_init 0 := ⟨⟨k_289, k_11, by decide +kernel, Or.inr ⟨_, k_287⟩⟩, rfl, k_288⟩
theorem fp_X4_9 : FP RX4 9 4 0 3 := ⟨RX4, TX4, CI4, by decide, rfl, Or.inl k_291⟩
theorem fp_X4_15 : FP RX4 15 4 1 3 := ⟨RX4, TX4, CI4, by decide, rfl, Or.inl k_292⟩
theorem ff_X9_85 : FF RX9 85 9 13 15 := ⟨RX9, TX9, CI9, by decide, rfl, rfl, k_315⟩
theorem ff_X9_89 : FF RX9 89 9 14 15 := ⟨RX9, TX9, CI9, by decide, rfl, rfl, k_316⟩
theorem ff_X10_9 : FF RX10 9 10 1 40 := ⟨RX10, TX10, CI10, by decide, rfl, rfl, k_1241⟩
theorem ff_X10_13 : FF RX10 13 10 2 40 := ⟨RX10, TX10, CI10, by decide, rfl, rfl, k_1242⟩
theorem ff_X10_16 : FF RX10 16 10 3 40 := ⟨RX10, TX10, CI10, by decide, rfl, rfl, k_1243⟩
theorem ff_X10_20 : FF RX10 20 10 4 40 := ⟨RX10, TX10, CI10, by decide, rfl, rfl, k_1244⟩
theorem ff_X10_24 : FF RX10 24 10 6 40 := ⟨RX10, TX10, CI10, by decide, rfl, rfl, k_1246⟩
theorem fp_X10_27 : FP RX10 27 10 13 40 := ⟨RX10, TX10, CI10, by decide, rfl, Or.inl k_1253⟩
theorem ff_X10_31 : FF RX10 31 10 14 40 := ⟨RX10, TX10, CI10, by decide, rfl, rfl, k_1254⟩
theorem ff_X10_34 : FF RX10 34 10 15 40 := ⟨RX10, TX10, CI10, by decide, rfl, rfl, k_1255⟩
theorem ff_X10_37 : FF RX10 37 10 18 40 := ⟨RX10, TX10, CI10, by decide, rfl, rfl, k_1258⟩
theorem ff_X10_40 : FF RX10 40 10 19 40 := ⟨RX10, TX10, CI10, by decide, rfl, rfl, k_1259⟩
theorem ff_X10_43 : FF RX10 43 10 20 40 := ⟨RX10, TX10, CI10, by decide, rfl, rfl, k_1260⟩
theorem ff_X10_46 : FF RX10 46 10 26 40 := ⟨RX10, TX10, CI10, by decide, rfl, rfl, k_1266⟩
theorem ff_X10_49 : FF RX10 49 10 27 40 := ⟨RX10, TX10, CI10, by decide, rfl, rfl, k_1267⟩
theorem ff_X10_52 : FF RX10 52 10 28 40 := ⟨RX10, TX10, CI10, by decide, rfl, rfl, k_1268⟩
theorem ff_X10_55 : FF RX10 55 10 29 40 := ⟨RX10, TX10, CI10, by decide, rfl, rfl, k_1269⟩
theorem ff_X10_58 : FF RX10 58 10 30 40 := ⟨RX10, TX10, CI10, by decide, rfl, rfl, k_1270⟩
theorem ff_X10_61 : FF RX10 61 10 31 40 := ⟨RX10, TX10, CI10, by decide, rfl, rfl, k_1271⟩
theorem ff_X10_64 : FF RX10 64 10 36 40 := ⟨RX10, TX10, CI10, by decide, rfl, rfl, k_1276⟩
theorem ff_X10_67 : FF RX10 67 10 37 40 := ⟨RX10, TX10, CI10, by decide, rfl, rfl, k_1277⟩
theorem ff_X10_70 : FF RX10 70 10 38 40 := ⟨RX10, TX10, CI10, by decide, rfl, rfl, k_1278⟩
theorem ff_X10_74 : FF RX10 74 10 39 40 := ⟨RX10, TX10, CI10, by decide, rfl, rfl, k_1279⟩
