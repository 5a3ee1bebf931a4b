theorem tk_93 : (Jvm.Cond.initialized "BarrowNights$Sheets") ∈ lw_tbl := List.mem_of_getElem? (i := 93) (by decide +kernel)
theorem tk_94 : (Jvm.Cond.initialized "BarrowNights$Text") ∈ lw_tbl := List.mem_of_getElem? (i := 94) (by decide +kernel)
theorem tk_95 : (Jvm.Cond.initialized "BarrowNights$Down") ∈ lw_tbl := List.mem_of_getElem? (i := 95) (by decide +kernel)
theorem tk_96 : (Jvm.Cond.initialized "BarrowNights$Season") ∈ lw_tbl := List.mem_of_getElem? (i := 96) (by decide +kernel)
theorem tk_97 : (Jvm.Cond.initialized "BarrowNights$Housing") ∈ lw_tbl := List.mem_of_getElem? (i := 97) (by decide +kernel)
theorem tk_98 : (Jvm.Cond.initialized "BarrowNights$Lying") ∈ lw_tbl := List.mem_of_getElem? (i := 98) (by decide +kernel)
theorem tk_99 : (Jvm.Cond.initialized "BarrowNights$Readings") ∈ lw_tbl := List.mem_of_getElem? (i := 99) (by decide +kernel)
theorem tk_109 : (Jvm.Cond.methodLink "BarrowNights" (3 : Nat) ({ cls := "java/lang/Object", name := "<init>", desc := "()V" } : Jvm.MethodName)) ∈ lw_tbl := List.mem_of_getElem? (i := 109) (by decide +kernel)
theorem tk_110 : (Jvm.Cond.instanceMethod ({ cls := "java/lang/Object", name := "<init>", desc := "()V" } : Jvm.MethodName)) ∈ lw_tbl := List.mem_of_getElem? (i := 110) (by decide +kernel)
theorem tk_111 : (Jvm.Cond.code ({ cls := "java/lang/Object", name := "<init>", desc := "()V" } : Jvm.MethodName) object_method_1_code (1 : Nat) (Option.none : Option Jvm.ClassFile.FieldType)) ∈ lw_tbl := List.mem_of_getElem? (i := 111) (rfl)
theorem tk_112 : (Jvm.Cond.classLink "BarrowNights" (9 : Nat) "BarrowNights$Sheets") ∈ lw_tbl := List.mem_of_getElem? (i := 112) (by decide +kernel)
theorem tk_113 : (Jvm.Cond.instantiable "BarrowNights$Sheets" (3 : Nat)) ∈ lw_tbl := List.mem_of_getElem? (i := 113) (by decide +kernel)
theorem tk_114 : (Jvm.Cond.methodLinkNest "BarrowNights" (11 : Nat) ({ cls := "BarrowNights$Sheets", name := "<init>", desc := "()V" } : Jvm.MethodName) "BarrowNights") ∈ lw_tbl := List.mem_of_getElem? (i := 114) (by decide +kernel)
theorem tk_115 : (Jvm.Cond.instanceMethod ({ cls := "BarrowNights$Sheets", name := "<init>", desc := "()V" } : Jvm.MethodName)) ∈ lw_tbl := List.mem_of_getElem? (i := 115) (by decide +kernel)
theorem tk_117 : (Jvm.Cond.methodLink "BarrowNights$Sheets" (3 : Nat) ({ cls := "java/lang/Object", name := "<init>", desc := "()V" } : Jvm.MethodName)) ∈ lw_tbl := List.mem_of_getElem? (i := 117) (by decide +kernel)
theorem tk_118 : (Jvm.Cond.fieldLink "BarrowNights$Sheets" (11 : Nat) "BarrowNights$Sheets" "lanes" "[I") ∈ lw_tbl := List.mem_of_getElem? (i := 118) (by decide +kernel)
theorem tk_119 : (Jvm.Cond.fieldLink "BarrowNights$Sheets" (15 : Nat) "BarrowNights$Sheets" "sizes" "[I") ∈ lw_tbl := List.mem_of_getElem? (i := 119) (by decide +kernel)
theorem tk_120 : (Jvm.Cond.fieldLink "BarrowNights$Sheets" (18 : Nat) "BarrowNights$Sheets" "cells" "[I") ∈ lw_tbl := List.mem_of_getElem? (i := 120) (by decide +kernel)
theorem tk_128 : (Jvm.Cond.arrayClass Jvm.ClassFile.FieldType.int) ∈ lw_tbl := List.mem_of_getElem? (i := 128) (by decide +kernel)
theorem tk_129 : (Jvm.Cond.classLink "BarrowNights" (18 : Nat) "BarrowNights$Text") ∈ lw_tbl := List.mem_of_getElem? (i := 129) (by decide +kernel)
theorem tk_130 : (Jvm.Cond.instantiable "BarrowNights$Text" (4 : Nat)) ∈ lw_tbl := List.mem_of_getElem? (i := 130) (by decide +kernel)
theorem tk_131 : (Jvm.Cond.methodLinkNest "BarrowNights" (20 : Nat) ({ cls := "BarrowNights$Text", name := "<init>", desc := "()V" } : Jvm.MethodName) "BarrowNights") ∈ lw_tbl := List.mem_of_getElem? (i := 131) (by decide +kernel)
theorem tk_132 : (Jvm.Cond.instanceMethod ({ cls := "BarrowNights$Text", name := "<init>", desc := "()V" } : Jvm.MethodName)) ∈ lw_tbl := List.mem_of_getElem? (i := 132) (by decide +kernel)
theorem tk_134 : (Jvm.Cond.methodLink "BarrowNights$Text" (3 : Nat) ({ cls := "java/lang/Object", name := "<init>", desc := "()V" } : Jvm.MethodName)) ∈ lw_tbl := List.mem_of_getElem? (i := 134) (by decide +kernel)
theorem tk_135 : (Jvm.Cond.fieldLink "BarrowNights$Text" (11 : Nat) "BarrowNights$Text" "codes" "[I") ∈ lw_tbl := List.mem_of_getElem? (i := 135) (by decide +kernel)
theorem tk_148 : (Jvm.Cond.classLink "BarrowNights" (25 : Nat) "BarrowNights$Down") ∈ lw_tbl := List.mem_of_getElem? (i := 148) (by decide +kernel)
theorem tk_149 : (Jvm.Cond.instantiable "BarrowNights$Down" (12 : Nat)) ∈ lw_tbl := List.mem_of_getElem? (i := 149) (by decide +kernel)
theorem tk_150 : (Jvm.Cond.methodLinkNest "BarrowNights" (27 : Nat) ({ cls := "BarrowNights$Down", name := "<init>", desc := "()V" } : Jvm.MethodName) "BarrowNights") ∈ lw_tbl := List.mem_of_getElem? (i := 150) (by decide +kernel)
theorem tk_151 : (Jvm.Cond.instanceMethod ({ cls := "BarrowNights$Down", name := "<init>", desc := "()V" } : Jvm.MethodName)) ∈ lw_tbl := List.mem_of_getElem? (i := 151) (by decide +kernel)
theorem tk_153 : (Jvm.Cond.methodLink "BarrowNights$Down" (3 : Nat) ({ cls := "java/lang/Object", name := "<init>", desc := "()V" } : Jvm.MethodName)) ∈ lw_tbl := List.mem_of_getElem? (i := 153) (by decide +kernel)
theorem tk_167 : (Jvm.Cond.fieldLink "BarrowNights$Down" (9 : Nat) "BarrowNights$Down" "kind" "[I") ∈ lw_tbl := List.mem_of_getElem? (i := 167) (by decide +kernel)
theorem tk_170 : (Jvm.Cond.fieldLink "BarrowNights$Down" (15 : Nat) "BarrowNights$Down" "beds" "[I") ∈ lw_tbl := List.mem_of_getElem? (i := 170) (by decide +kernel)
theorem tk_173 : (Jvm.Cond.fieldLink "BarrowNights$Down" (18 : Nat) "BarrowNights$Down" "pence" "[I") ∈ lw_tbl := List.mem_of_getElem? (i := 173) (by decide +kernel)
theorem tk_177 : (Jvm.Cond.fieldLink "BarrowNights$Down" (21 : Nat) "BarrowNights$Down" "site" "[I") ∈ lw_tbl := List.mem_of_getElem? (i := 177) (by decide +kernel)
theorem tk_180 : (Jvm.Cond.fieldLink "BarrowNights$Down" (24 : Nat) "BarrowNights$Down" "means" "[I") ∈ lw_tbl := List.mem_of_getElem? (i := 180) (by decide +kernel)
theorem tk_183 : (Jvm.Cond.fieldLink "BarrowNights$Down" (27 : Nat) "BarrowNights$Down" "place" "[I") ∈ lw_tbl := List.mem_of_getElem? (i := 183) (by decide +kernel)
theorem tk_186 : (Jvm.Cond.fieldLink "BarrowNights$Down" (30 : Nat) "BarrowNights$Down" "reach" "[I") ∈ lw_tbl := List.mem_of_getElem? (i := 186) (by decide +kernel)
theorem tk_189 : (Jvm.Cond.fieldLink "BarrowNights$Down" (33 : Nat) "BarrowNights$Down" "lodging" "[I") ∈ lw_tbl := List.mem_of_getElem? (i := 189) (by decide +kernel)
theorem tk_193 : (Jvm.Cond.fieldLink "BarrowNights$Down" (36 : Nat) "BarrowNights$Down" "cold" "[I") ∈ lw_tbl := List.mem_of_getElem? (i := 193) (by decide +kernel)
theorem tk_222 : (Jvm.Cond.classLink "BarrowNights" (32 : Nat) "BarrowNights$Season") ∈ lw_tbl := List.mem_of_getElem? (i := 222) (by decide +kernel)
theorem tk_223 : (Jvm.Cond.instantiable "BarrowNights$Season" (6 : Nat)) ∈ lw_tbl := List.mem_of_getElem? (i := 223) (by decide +kernel)
theorem tk_224 : (Jvm.Cond.methodLinkNest "BarrowNights" (34 : Nat) ({ cls := "BarrowNights$Season", name := "<init>", desc := "()V" } : Jvm.MethodName) "BarrowNights") ∈ lw_tbl := List.mem_of_getElem? (i := 224) (by decide +kernel)
theorem tk_225 : (Jvm.Cond.instanceMethod ({ cls := "BarrowNights$Season", name := "<init>", desc := "()V" } : Jvm.MethodName)) ∈ lw_tbl := List.mem_of_getElem? (i := 225) (by decide +kernel)
theorem tk_227 : (Jvm.Cond.methodLink "BarrowNights$Season" (3 : Nat) ({ cls := "java/lang/Object", name := "<init>", desc := "()V" } : Jvm.MethodName)) ∈ lw_tbl := List.mem_of_getElem? (i := 227) (by decide +kernel)
theorem tk_228 : (Jvm.Cond.classLink "BarrowNights$Season" (9 : Nat) "BarrowNights$Down") ∈ lw_tbl := List.mem_of_getElem? (i := 228) (by decide +kernel)
theorem tk_229 : (Jvm.Cond.methodLinkNest "BarrowNights$Season" (11 : Nat) ({ cls := "BarrowNights$Down", name := "<init>", desc := "()V" } : Jvm.MethodName) "BarrowNights") ∈ lw_tbl := List.mem_of_getElem? (i := 229) (by decide +kernel)
theorem tk_230 : (Jvm.Cond.fieldLink "BarrowNights$Season" (12 : Nat) "BarrowNights$Season" "then" "LBarrowNights$Down;") ∈ lw_tbl := List.mem_of_getElem? (i := 230) (by decide +kernel)
theorem tk_231 : (Jvm.Cond.fieldLink "BarrowNights$Season" (18 : Nat) "BarrowNights$Season" "first" "[I") ∈ lw_tbl := List.mem_of_getElem? (i := 231) (by decide +kernel)
theorem tk_232 : (Jvm.Cond.fieldLink "BarrowNights$Season" (22 : Nat) "BarrowNights$Season" "second" "[I") ∈ lw_tbl := List.mem_of_getElem? (i := 232) (by decide +kernel)
theorem tk_249 : (Jvm.Cond.classLink "BarrowNights" (39 : Nat) "BarrowNights$Housing") ∈ lw_tbl := List.mem_of_getElem? (i := 249) (by decide +kernel)
theorem tk_250 : (Jvm.Cond.instantiable "BarrowNights$Housing" (5 : Nat)) ∈ lw_tbl := List.mem_of_getElem? (i := 250) (by decide +kernel)
theorem tk_251 : (Jvm.Cond.methodLinkNest "BarrowNights" (41 : Nat) ({ cls := "BarrowNights$Housing", name := "<init>", desc := "()V" } : Jvm.MethodName) "BarrowNights") ∈ lw_tbl := List.mem_of_getElem? (i := 251) (by decide +kernel)
theorem tk_252 : (Jvm.Cond.instanceMethod ({ cls := "BarrowNights$Housing", name := "<init>", desc := "()V" } : Jvm.MethodName)) ∈ lw_tbl := List.mem_of_getElem? (i := 252) (by decide +kernel)
theorem tk_254 : (Jvm.Cond.methodLink "BarrowNights$Housing" (3 : Nat) ({ cls := "java/lang/Object", name := "<init>", desc := "()V" } : Jvm.MethodName)) ∈ lw_tbl := List.mem_of_getElem? (i := 254) (by decide +kernel)
theorem tk_255 : (Jvm.Cond.fieldLink "BarrowNights$Housing" (9 : Nat) "BarrowNights$Housing" "row" "[I") ∈ lw_tbl := List.mem_of_getElem? (i := 255) (by decide +kernel)
theorem tk_256 : (Jvm.Cond.fieldLink "BarrowNights$Housing" (15 : Nat) "BarrowNights$Housing" "best" "[I") ∈ lw_tbl := List.mem_of_getElem? (i := 256) (by decide +kernel)
theorem tk_258 : (Jvm.Cond.fieldLink "BarrowNights$Housing" (18 : Nat) "BarrowNights$Housing" "left" "[I") ∈ lw_tbl := List.mem_of_getElem? (i := 258) (by decide +kernel)
theorem tk_274 : (Jvm.Cond.classLink "BarrowNights" (46 : Nat) "BarrowNights$Lying") ∈ lw_tbl := List.mem_of_getElem? (i := 274) (by decide +kernel)
theorem tk_275 : (Jvm.Cond.instantiable "BarrowNights$Lying" (7 : Nat)) ∈ lw_tbl := List.mem_of_getElem? (i := 275) (by decide +kernel)
theorem tk_276 : (Jvm.Cond.methodLinkNest "BarrowNights" (48 : Nat) ({ cls := "BarrowNights$Lying", name := "<init>", desc := "()V" } : Jvm.MethodName) "BarrowNights") ∈ lw_tbl := List.mem_of_getElem? (i := 276) (by decide +kernel)
theorem tk_277 : (Jvm.Cond.instanceMethod ({ cls := "BarrowNights$Lying", name := "<init>", desc := "()V" } : Jvm.MethodName)) ∈ lw_tbl := List.mem_of_getElem? (i := 277) (by decide +kernel)
theorem tk_279 : (Jvm.Cond.methodLink "BarrowNights$Lying" (3 : Nat) ({ cls := "java/lang/Object", name := "<init>", desc := "()V" } : Jvm.MethodName)) ∈ lw_tbl := List.mem_of_getElem? (i := 279) (by decide +kernel)
theorem tk_280 : (Jvm.Cond.fieldLink "BarrowNights$Lying" (9 : Nat) "BarrowNights$Lying" "dreams" "[I") ∈ lw_tbl := List.mem_of_getElem? (i := 280) (by decide +kernel)
theorem tk_281 : (Jvm.Cond.fieldLink "BarrowNights$Lying" (15 : Nat) "BarrowNights$Lying" "row" "[I") ∈ lw_tbl := List.mem_of_getElem? (i := 281) (by decide +kernel)
theorem tk_282 : (Jvm.Cond.fieldLink "BarrowNights$Lying" (18 : Nat) "BarrowNights$Lying" "first" "[I") ∈ lw_tbl := List.mem_of_getElem? (i := 282) (by decide +kernel)
theorem tk_284 : (Jvm.Cond.fieldLink "BarrowNights$Lying" (21 : Nat) "BarrowNights$Lying" "left" "[I") ∈ lw_tbl := List.mem_of_getElem? (i := 284) (by decide +kernel)
theorem tk_285 : (Jvm.Cond.fieldLink "BarrowNights$Lying" (24 : Nat) "BarrowNights$Lying" "latest" "[I") ∈ lw_tbl := List.mem_of_getElem? (i := 285) (by decide +kernel)
theorem tk_304 : (Jvm.Cond.classLink "BarrowNights" (53 : Nat) "BarrowNights$Readings") ∈ lw_tbl := List.mem_of_getElem? (i := 304) (by decide +kernel)
theorem tk_305 : (Jvm.Cond.instantiable "BarrowNights$Readings" (4 : Nat)) ∈ lw_tbl := List.mem_of_getElem? (i := 305) (by decide +kernel)
theorem tk_306 : (Jvm.Cond.methodLinkNest "BarrowNights" (55 : Nat) ({ cls := "BarrowNights$Readings", name := "<init>", desc := "()V" } : Jvm.MethodName) "BarrowNights") ∈ lw_tbl := List.mem_of_getElem? (i := 306) (by decide +kernel)
theorem tk_307 : (Jvm.Cond.instanceMethod ({ cls := "BarrowNights$Readings", name := "<init>", desc := "()V" } : Jvm.MethodName)) ∈ lw_tbl := List.mem_of_getElem? (i := 307) (by decide +kernel)
theorem tk_309 : (Jvm.Cond.methodLink "BarrowNights$Readings" (3 : Nat) ({ cls := "java/lang/Object", name := "<init>", desc := "()V" } : Jvm.MethodName)) ∈ lw_tbl := List.mem_of_getElem? (i := 309) (by decide +kernel)
theorem tk_310 : (Jvm.Cond.fieldLink "BarrowNights$Readings" (11 : Nat) "BarrowNights$Readings" "barrow" "[I") ∈ lw_tbl := List.mem_of_getElem? (i := 310) (by decide +kernel)
theorem tk_311 : (Jvm.Cond.fieldLink "BarrowNights$Readings" (15 : Nat) "BarrowNights$Readings" "lodgers" "[I") ∈ lw_tbl := List.mem_of_getElem? (i := 311) (by decide +kernel)
theorem tk_312 : (Jvm.Cond.fieldLink "BarrowNights$Readings" (18 : Nat) "BarrowNights$Readings" "full" "[I") ∈ lw_tbl := List.mem_of_getElem? (i := 312) (by decide +kernel)
theorem tk_324 : (Jvm.Cond.fieldLink "BarrowNights" (12 : Nat) "BarrowNights" "sheets" "LBarrowNights$Sheets;") ∈ lw_tbl := List.mem_of_getElem? (i := 324) (by decide +kernel)
theorem tk_325 : (Jvm.Cond.fieldLink "BarrowNights" (21 : Nat) "BarrowNights" "text" "LBarrowNights$Text;") ∈ lw_tbl := List.mem_of_getElem? (i := 325) (by decide +kernel)
theorem tk_326 : (Jvm.Cond.fieldLink "BarrowNights" (28 : Nat) "BarrowNights" "now" "LBarrowNights$Down;") ∈ lw_tbl := List.mem_of_getElem? (i := 326) (by decide +kernel)
theorem tk_327 : (Jvm.Cond.fieldLink "BarrowNights" (35 : Nat) "BarrowNights" "told" "LBarrowNights$Season;") ∈ lw_tbl := List.mem_of_getElem? (i := 327) (by decide +kernel)
theorem tk_328 : (Jvm.Cond.fieldLink "BarrowNights" (42 : Nat) "BarrowNights" "housing" "LBarrowNights$Housing;") ∈ lw_tbl := List.mem_of_getElem? (i := 328) (by decide +kernel)
theorem tk_329 : (Jvm.Cond.fieldLink "BarrowNights" (49 : Nat) "BarrowNights" "lying" "LBarrowNights$Lying;") ∈ lw_tbl := List.mem_of_getElem? (i := 329) (by decide +kernel)
theorem tk_330 : (Jvm.Cond.fieldLink "BarrowNights" (56 : Nat) "BarrowNights" "readings" "LBarrowNights$Readings;") ∈ lw_tbl := List.mem_of_getElem? (i := 330) (by decide +kernel)
theorem tk_331 : (Jvm.Cond.fieldLink "BarrowNights" (60 : Nat) "BarrowNights" "trace" "I") ∈ lw_tbl := List.mem_of_getElem? (i := 331) (by decide +kernel)
theorem tk_332 : (Jvm.Cond.fieldLink "BarrowNights" (64 : Nat) "BarrowNights" "fault" "I") ∈ lw_tbl := List.mem_of_getElem? (i := 332) (by decide +kernel)
theorem tk_787 : (Jvm.Cond.methodLink "BarrowNightsModel" (1 : Nat) ({ cls := "java/lang/Object", name := "<init>", desc := "()V" } : Jvm.MethodName)) ∈ lw_tbl := List.mem_of_getElem? (i := 787) (by decide +kernel)
theorem tk_790 : (Jvm.Cond.fieldLink "BarrowNightsModel" (9 : Nat) "BarrowNightsModel" "sorts" "[I") ∈ lw_tbl := List.mem_of_getElem? (i := 790) (by decide +kernel)
theorem tk_791 : (Jvm.Cond.fieldLink "BarrowNightsModel" (13 : Nat) "BarrowNightsModel" "sheetLong" "[I") ∈ lw_tbl := List.mem_of_getElem? (i := 791) (by decide +kernel)
theorem tk_792 : (Jvm.Cond.fieldLink "BarrowNightsModel" (16 : Nat) "BarrowNightsModel" "cells" "[I") ∈ lw_tbl := List.mem_of_getElem? (i := 792) (by decide +kernel)
theorem tk_796 : (Jvm.Cond.fieldLink "BarrowNightsModel" (19 : Nat) "BarrowNightsModel" "kind" "[I") ∈ lw_tbl := List.mem_of_getElem? (i := 796) (by decide +kernel)
theorem tk_797 : (Jvm.Cond.fieldLink "BarrowNightsModel" (22 : Nat) "BarrowNightsModel" "beds" "[I") ∈ lw_tbl := List.mem_of_getElem? (i := 797) (by decide +kernel)
theorem tk_798 : (Jvm.Cond.fieldLink "BarrowNightsModel" (25 : Nat) "BarrowNightsModel" "pence" "[I") ∈ lw_tbl := List.mem_of_getElem? (i := 798) (by decide +kernel)
theorem tk_799 : (Jvm.Cond.fieldLink "BarrowNightsModel" (28 : Nat) "BarrowNightsModel" "place" "[I") ∈ lw_tbl := List.mem_of_getElem? (i := 799) (by decide +kernel)
theorem tk_800 : (Jvm.Cond.fieldLink "BarrowNightsModel" (31 : Nat) "BarrowNightsModel" "means" "[I") ∈ lw_tbl := List.mem_of_getElem? (i := 800) (by decide +kernel)
theorem tk_801 : (Jvm.Cond.fieldLink "BarrowNightsModel" (34 : Nat) "BarrowNightsModel" "stands" "[I") ∈ lw_tbl := List.mem_of_getElem? (i := 801) (by decide +kernel)
theorem tk_802 : (Jvm.Cond.fieldLink "BarrowNightsModel" (37 : Nat) "BarrowNightsModel" "goesFar" "[I") ∈ lw_tbl := List.mem_of_getElem? (i := 802) (by decide +kernel)
theorem tk_803 : (Jvm.Cond.fieldLink "BarrowNightsModel" (40 : Nat) "BarrowNightsModel" "lodgesIn" "[I") ∈ lw_tbl := List.mem_of_getElem? (i := 803) (by decide +kernel)
theorem tk_804 : (Jvm.Cond.fieldLink "BarrowNightsModel" (43 : Nat) "BarrowNightsModel" "cold" "[I") ∈ lw_tbl := List.mem_of_getElem? (i := 804) (by decide +kernel)
theorem tk_808 : (Jvm.Cond.fieldLink "BarrowNightsModel" (46 : Nat) "BarrowNightsModel" "read" "[I") ∈ lw_tbl := List.mem_of_getElem? (i := 808) (by decide +kernel)
theorem tk_809 : (Jvm.Cond.fieldLink "BarrowNightsModel" (49 : Nat) "BarrowNightsModel" "readWho" "[I") ∈ lw_tbl := List.mem_of_getElem? (i := 809) (by decide +kernel)
theorem tk_810 : (Jvm.Cond.fieldLink "BarrowNightsModel" (52 : Nat) "BarrowNightsModel" "keptMeans" "[I") ∈ lw_tbl := List.mem_of_getElem? (i := 810) (by decide +kernel)
theorem tk_811 : (Jvm.Cond.fieldLink "BarrowNightsModel" (55 : Nat) "BarrowNightsModel" "keptStands" "[I") ∈ lw_tbl := List.mem_of_getElem? (i := 811) (by decide +kernel)
theorem tk_812 : (Jvm.Cond.fieldLink "BarrowNightsModel" (58 : Nat) "BarrowNightsModel" "keptLodges" "[I") ∈ lw_tbl := List.mem_of_getElem? (i := 812) (by decide +kernel)
theorem tk_813 : (Jvm.Cond.fieldLink "BarrowNightsModel" (61 : Nat) "BarrowNightsModel" "keptCold" "[I") ∈ lw_tbl := List.mem_of_getElem? (i := 813) (by decide +kernel)
theorem tk_815 : (Jvm.Cond.fieldLink "BarrowNightsModel" (64 : Nat) "BarrowNightsModel" "row" "[I") ∈ lw_tbl := List.mem_of_getElem? (i := 815) (by decide +kernel)
theorem tk_816 : (Jvm.Cond.fieldLink "BarrowNightsModel" (67 : Nat) "BarrowNightsModel" "housedIn" "[I") ∈ lw_tbl := List.mem_of_getElem? (i := 816) (by decide +kernel)
theorem tk_819 : (Jvm.Cond.fieldLink "BarrowNightsModel" (70 : Nat) "BarrowNightsModel" "steps" "[I") ∈ lw_tbl := List.mem_of_getElem? (i := 819) (by decide +kernel)
theorem tk_821 : (Jvm.Cond.fieldLink "BarrowNightsModel" (73 : Nat) "BarrowNightsModel" "readWhich" "[I") ∈ lw_tbl := List.mem_of_getElem? (i := 821) (by decide +kernel)
theorem tk_822 : (Jvm.Cond.fieldLink "BarrowNightsModel" (76 : Nat) "BarrowNightsModel" "readLodgers" "[I") ∈ lw_tbl := List.mem_of_getElem? (i := 822) (by decide +kernel)
theorem tk_823 : (Jvm.Cond.fieldLink "BarrowNightsModel" (79 : Nat) "BarrowNightsModel" "readFull" "[I") ∈ lw_tbl := List.mem_of_getElem? (i := 823) (by decide +kernel)
def kw_X_9 (w : mW) : mW := mUp (mUp (mUp (mUp (mUp (mUp (mUp (mUp (mUp (mUp (w) 2 (.inl (4, fun _ => 0))) 2 (.inl (4, upd (fun _ => 0) 0 (-1)))) 2 (.inl (4, upd (upd (fun _ => 0) 0 (-1)) 1 (-1)))) 2 (.inl (4, upd (upd (upd (fun _ => 0) 0 (-1)) 1 (-1)) 2 (-1)))) 2 (.inl (4, upd (upd (upd (upd (fun _ => 0) 0 (-1)) 1 (-1)) 2 (-1)) 3 (-1)))) 1 (.inr (5, [.ref 2, .null, .null]))) 3 (.inl (4, fun _ => 0))) 1 (.inr (5, [.ref 2, .ref 3, .null]))) 4 (.inl (240, fun _ => 0))) 1 (.inr (5, [.ref 2, .ref 3, .ref 4]))
theorem kcl_X_9 {w : mW} (hc : cloW 2 w) : cloW 5 (kw_X_9 w) := ((((((((((((((((((((hc).push rfl)).set rfl)).set rfl)).set rfl)).set rfl)).set rfl)).push rfl)).set rfl)).push rfl)).set rfl)
theorem kne_X_9 {w : mW} {j : Nat} (hj : j < 2) (hi : j ≠ 1) : kw_X_9 w j = w j := by
  unfold kw_X_9
  rw [mUp_ne (by omega), mUp_ne (by omega), mUp_ne (by omega), mUp_ne (by omega), mUp_ne (by omega), mUp_ne (by omega), mUp_ne (by omega), mUp_ne (by omega), mUp_ne (by omega), mUp_ne (by omega)]
theorem kc_X_9 {d : Nat} {w : mW} (hc0 : cloW 2 w) (h0 : w 1 = .inr (5, [.null, .null, .null])) : kC (d + 1) kX5_init [.ref 1] 2 w 3 248 5 (kw_X_9 w) := by
  refine kC.of okX5_init rfl rfl rfl ?_
  refine k_aload (pc := 0) dX5_init_0 rfl ?_
  refine k_obj (pc := 1) rfl (mTT_mem tk_117 rfl) (mTT_mem tk_110 rfl) (mTT_mem tk_111 rfl) dX5_init_1 rfl ?_
  refine k_aload (pc := 4) dX5_init_4 rfl ?_
  refine k_iconst (pc := 5) (v := 4) dX5_init_5 (by decide) ?_
  refine k_newa1 (pc := 6) (N := 4) (n1 := 3) (cs1 := 1) (sl1 := 4) rfl rfl rfl (mTT_mem tk_128 rfl) dX5_init_6 (by decide) (by decide) (by decide) (by decide) (by decide) (by decide) hc0 rfl rfl (fun w1 e1 => ?_)
  have hc1 : cloW 3 w1 := by rw [e1]; exact hc0.push rfl
  have h1 : w1 1 = .inr (5, [.null, .null, .null]) := by rw [e1]; exact (mUp_ne (by decide)).trans h0
  refine k_dup (pc := 8) dX5_init_8 rfl ?_
  refine k_iconst (pc := 9) (v := 0) dX5_init_9 (by decide) ?_
  refine k_iconst (pc := 10) (v := (-1)) dX5_init_10 (by decide) ?_
  refine k_iast1 (pc := 11) (i' := 0) dX5_init_11 (by decide) (by rw [e1]; exact mUp_eq) (by unfold vp_in; decide) (by decide) (fun w2 e2 => ?_)
  have hc2 : cloW 3 w2 := by rw [e2]; exact hc1.set rfl
  have h2 : w2 1 = .inr (5, [.null, .null, .null]) := by rw [e2]; exact (mUp_ne (by decide)).trans h1
  refine k_dup (pc := 12) dX5_init_12 rfl ?_
  refine k_iconst (pc := 13) (v := 1) dX5_init_13 (by decide) ?_
  refine k_iconst (pc := 14) (v := (-1)) dX5_init_14 (by decide) ?_
  refine k_iast1 (pc := 15) (i' := 1) dX5_init_15 (by decide) (by rw [e2]; exact mUp_eq) (by unfold vp_in; decide) (by decide) (fun w3 e3 => ?_)
  have hc3 : cloW 3 w3 := by rw [e3]; exact hc2.set rfl
  have h3 : w3 1 = .inr (5, [.null, .null, .null]) := by rw [e3]; exact (mUp_ne (by decide)).trans h2
  refine k_dup (pc := 16) dX5_init_16 rfl ?_
  refine k_iconst (pc := 17) (v := 2) dX5_init_17 (by decide) ?_
  refine k_iconst (pc := 18) (v := (-1)) dX5_init_18 (by decide) ?_
  refine k_iast1 (pc := 19) (i' := 2) dX5_init_19 (by decide) (by rw [e3]; exact mUp_eq) (by unfold vp_in; decide) (by decide) (fun w4 e4 => ?_)
  have hc4 : cloW 3 w4 := by rw [e4]; exact hc3.set rfl
  have h4 : w4 1 = .inr (5, [.null, .null, .null]) := by rw [e4]; exact (mUp_ne (by decide)).trans h3
  refine k_dup (pc := 20) dX5_init_20 rfl ?_
  refine k_iconst (pc := 21) (v := 3) dX5_init_21 (by decide) ?_
  refine k_iconst (pc := 22) (v := (-1)) dX5_init_22 (by decide) ?_
  refine k_iast1 (pc := 23) (i' := 3) dX5_init_23 (by decide) (by rw [e4]; exact mUp_eq) (by unfold vp_in; decide) (by decide) (fun w5 e5 => ?_)
  have hc5 : cloW 3 w5 := by rw [e5]; exact hc4.set rfl
  have h5 : w5 1 = .inr (5, [.null, .null, .null]) := by rw [e5]; exact (mUp_ne (by decide)).trans h4
  refine k_putF1 (pc := 24) (kf := 0) (fs1 := [.ref 2, .null, .null]) (ty := .array .int) rfl tyX5 (C := RX5) (T := TX5) (N := 3) rfl inX5 tyX5_ok nmX5 (by decide) (mTT_mem tk_118 rfl) rfl rfl rfl (by decide +kernel) (fun _ => rfl) (fun _ => rfl) dX5_init_24 (by decide) h5 (by decide) (fun w6 e6 => ?_)
  have hc6 : cloW 3 w6 := by rw [e6]; exact hc5.set rfl
  have h6 : w6 1 = .inr (5, [.ref 2, .null, .null]) := by rw [e6]; exact mUp_eq
  refine k_aload (pc := 27) dX5_init_27 rfl ?_
  refine k_iconst (pc := 28) (v := 4) dX5_init_28 (by decide) ?_
  refine k_newa1 (pc := 29) (N := 4) (n1 := 4) (cs1 := 2) (sl1 := 8) rfl rfl rfl (mTT_mem tk_128 rfl) dX5_init_29 (by decide) (by decide) (by decide) (by decide) (by decide) (by decide) hc6 rfl rfl (fun w7 e7 => ?_)
  have hc7 : cloW 4 w7 := by rw [e7]; exact hc6.push rfl
  have h7 : w7 1 = .inr (5, [.ref 2, .null, .null]) := by rw [e7]; exact (mUp_ne (by decide)).trans h6
  refine k_putF1 (pc := 31) (kf := 1) (fs1 := [.ref 2, .ref 3, .null]) (ty := .array .int) rfl tyX5 (C := RX5) (T := TX5) (N := 3) rfl inX5 tyX5_ok nmX5 (by decide) (mTT_mem tk_119 rfl) rfl rfl rfl (by decide +kernel) (fun _ => rfl) (fun _ => rfl) dX5_init_31 (by decide) h7 (by decide) (fun w8 e8 => ?_)
  have hc8 : cloW 4 w8 := by rw [e8]; exact hc7.set rfl
  have h8 : w8 1 = .inr (5, [.ref 2, .ref 3, .null]) := by rw [e8]; exact mUp_eq
  refine k_aload (pc := 34) dX5_init_34 rfl ?_
  refine k_sipush (pc := 35) (v := 240) dX5_init_35 (by decide) ?_
  refine k_newa1 (pc := 38) (N := 240) (n1 := 5) (cs1 := 3) (sl1 := 248) rfl rfl rfl (mTT_mem tk_128 rfl) dX5_init_38 (by decide) (by decide) (by decide) (by decide) (by decide) (by decide) hc8 rfl rfl (fun w9 e9 => ?_)
  have hc9 : cloW 5 w9 := by rw [e9]; exact hc8.push rfl
  have h9 : w9 1 = .inr (5, [.ref 2, .ref 3, .null]) := by rw [e9]; exact (mUp_ne (by decide)).trans h8
  refine k_putF1 (pc := 40) (kf := 2) (fs1 := [.ref 2, .ref 3, .ref 4]) (ty := .array .int) rfl tyX5 (C := RX5) (T := TX5) (N := 3) rfl inX5 tyX5_ok nmX5 (by decide) (mTT_mem tk_120 rfl) rfl rfl rfl (by decide +kernel) (fun _ => rfl) (fun _ => rfl) dX5_init_40 (by decide) h9 (by decide) (fun w10 e10 => ?_)
  have hc10 : cloW 5 w10 := by rw [e10]; exact hc9.set rfl
  have h10 : w10 1 = .inr (5, [.ref 2, .ref 3, .ref 4]) := by rw [e10]; exact mUp_eq
  exact k_ret (pc := 43) dX5_init_43 rfl (by rw [e10, e9, e8, e7, e6, e5, e4, e3, e2, e1]; rfl) (by decide) (by decide)
def kw_X_20 (w : mW) : mW := mUp (mUp (w) 6 (.inl (60, fun _ => 0))) 5 (.inr (6, [.ref 6, .int 0, .int 0, .int 0]))
theorem kcl_X_20 {w : mW} (hc : cloW 6 w) : cloW 7 (kw_X_20 w) := ((((hc).push rfl)).set rfl)
theorem kne_X_20 {w : mW} {j : Nat} (hj : j < 6) (hi : j ≠ 5) : kw_X_20 w j = w j := by
  unfold kw_X_20
  rw [mUp_ne (by omega), mUp_ne (by omega)]
theorem kc_X_20 {d : Nat} {w : mW} (hc0 : cloW 6 w) (h0 : w 5 = .inr (6, [.null, .int 0, .int 0, .int 0])) : kC (d + 1) kX6_init [.ref 5] 6 w 1 60 7 (kw_X_20 w) := by
  refine kC.of okX6_init rfl rfl rfl ?_
  refine k_aload (pc := 0) dX6_init_0 rfl ?_
  refine k_obj (pc := 1) rfl (mTT_mem tk_134 rfl) (mTT_mem tk_110 rfl) (mTT_mem tk_111 rfl) dX6_init_1 rfl ?_
  refine k_aload (pc := 4) dX6_init_4 rfl ?_
  refine k_bipush (pc := 5) (v := 60) dX6_init_5 (by decide) ?_
  refine k_newa1 (pc := 7) (N := 60) (n1 := 7) (cs1 := 1) (sl1 := 60) rfl rfl rfl (mTT_mem tk_128 rfl) dX6_init_7 (by decide) (by decide) (by decide) (by decide) (by decide) (by decide) hc0 rfl rfl (fun w1 e1 => ?_)
  have hc1 : cloW 7 w1 := by rw [e1]; exact hc0.push rfl
  have h1 : w1 5 = .inr (6, [.null, .int 0, .int 0, .int 0]) := by rw [e1]; exact (mUp_ne (by decide)).trans h0
  refine k_putF1 (pc := 9) (kf := 0) (fs1 := [.ref 6, .int 0, .int 0, .int 0]) (ty := .array .int) rfl tyX6 (C := RX6) (T := TX6) (N := 4) rfl inX6 tyX6_ok nmX6 (by decide) (mTT_mem tk_135 rfl) rfl rfl rfl (by decide +kernel) (fun _ => rfl) (fun _ => rfl) dX6_init_9 (by decide) h1 (by decide) (fun w2 e2 => ?_)
  have hc2 : cloW 7 w2 := by rw [e2]; exact hc1.set rfl
  have h2 : w2 5 = .inr (6, [.ref 6, .int 0, .int 0, .int 0]) := by rw [e2]; exact mUp_eq
  exact k_ret (pc := 12) dX6_init_12 rfl (by rw [e2, e1]; rfl) (by decide) (by decide)
def kw_X_31 (w : mW) : mW := mUp (mUp (mUp (mUp (mUp (mUp (mUp (mUp (mUp (mUp (mUp (mUp (mUp (mUp (mUp (mUp (mUp (mUp (w) 8 (.inl (5, fun _ => 0))) 7 (.inr (0, [.int 0, .int 0, .int 0, .ref 8, .null, .null, .null, .null, .null, .null, .null, .null]))) 9 (.inl (5, fun _ => 0))) 7 (.inr (0, [.int 0, .int 0, .int 0, .ref 8, .ref 9, .null, .null, .null, .null, .null, .null, .null]))) 10 (.inl (5, fun _ => 0))) 7 (.inr (0, [.int 0, .int 0, .int 0, .ref 8, .ref 9, .ref 10, .null, .null, .null, .null, .null, .null]))) 11 (.inl (5, fun _ => 0))) 7 (.inr (0, [.int 0, .int 0, .int 0, .ref 8, .ref 9, .ref 10, .ref 11, .null, .null, .null, .null, .null]))) 12 (.inl (5, fun _ => 0))) 7 (.inr (0, [.int 0, .int 0, .int 0, .ref 8, .ref 9, .ref 10, .ref 11, .ref 12, .null, .null, .null, .null]))) 13 (.inl (5, fun _ => 0))) 7 (.inr (0, [.int 0, .int 0, .int 0, .ref 8, .ref 9, .ref 10, .ref 11, .ref 12, .ref 13, .null, .null, .null]))) 14 (.inl (5, fun _ => 0))) 7 (.inr (0, [.int 0, .int 0, .int 0, .ref 8, .ref 9, .ref 10, .ref 11, .ref 12, .ref 13, .ref 14, .null, .null]))) 15 (.inl (5, fun _ => 0))) 7 (.inr (0, [.int 0, .int 0, .int 0, .ref 8, .ref 9, .ref 10, .ref 11, .ref 12, .ref 13, .ref 14, .ref 15, .null]))) 16 (.inl (5, fun _ => 0))) 7 (.inr (0, [.int 0, .int 0, .int 0, .ref 8, .ref 9, .ref 10, .ref 11, .ref 12, .ref 13, .ref 14, .ref 15, .ref 16]))
theorem kcl_X_31 {w : mW} (hc : cloW 8 w) : cloW 17 (kw_X_31 w) := ((((((((((((((((((((((((((((((((((((hc).push rfl)).set rfl)).push rfl)).set rfl)).push rfl)).set rfl)).push rfl)).set rfl)).push rfl)).set rfl)).push rfl)).set rfl)).push rfl)).set rfl)).push rfl)).set rfl)).push rfl)).set rfl)
theorem kne_X_31 {w : mW} {j : Nat} (hj : j < 8) (hi : j ≠ 7) : kw_X_31 w j = w j := by
  unfold kw_X_31
  rw [mUp_ne (by omega), mUp_ne (by omega), mUp_ne (by omega), mUp_ne (by omega), mUp_ne (by omega), mUp_ne (by omega), mUp_ne (by omega), mUp_ne (by omega), mUp_ne (by omega), mUp_ne (by omega), mUp_ne (by omega), mUp_ne (by omega), mUp_ne (by omega), mUp_ne (by omega), mUp_ne (by omega), mUp_ne (by omega), mUp_ne (by omega), mUp_ne (by omega)]
theorem kc_X_31 {d : Nat} {w : mW} (hc0 : cloW 8 w) (h0 : w 7 = .inr (0, [.int 0, .int 0, .int 0, .null, .null, .null, .null, .null, .null, .null, .null, .null])) : kC (d + 1) kX0_init [.ref 7] 8 w 9 45 17 (kw_X_31 w) := by
  refine kC.of okX0_init rfl rfl rfl ?_
  refine k_aload (pc := 0) dX0_init_0 rfl ?_
  refine k_obj (pc := 1) rfl (mTT_mem tk_153 rfl) (mTT_mem tk_110 rfl) (mTT_mem tk_111 rfl) dX0_init_1 rfl ?_
  refine k_aload (pc := 4) dX0_init_4 rfl ?_
  refine k_iconst (pc := 5) (v := 5) dX0_init_5 (by decide) ?_
  refine k_newa1 (pc := 6) (N := 5) (n1 := 9) (cs1 := 1) (sl1 := 5) rfl rfl rfl (mTT_mem tk_128 rfl) dX0_init_6 (by decide) (by decide) (by decide) (by decide) (by decide) (by decide) hc0 rfl rfl (fun w1 e1 => ?_)
  have hc1 : cloW 9 w1 := by rw [e1]; exact hc0.push rfl
  have h1 : w1 7 = .inr (0, [.int 0, .int 0, .int 0, .null, .null, .null, .null, .null, .null, .null, .null, .null]) := by rw [e1]; exact (mUp_ne (by decide)).trans h0
  refine k_putF1 (pc := 8) (kf := 3) (fs1 := [.int 0, .int 0, .int 0, .ref 8, .null, .null, .null, .null, .null, .null, .null, .null]) (ty := .array .int) rfl tyX0 (C := RX0) (T := TX0) (N := 12) rfl inX0 tyX0_ok nmX0 (by decide) (mTT_mem tk_167 rfl) rfl rfl rfl (by decide +kernel) (fun _ => rfl) (fun _ => rfl) dX0_init_8 (by decide) h1 (by decide) (fun w2 e2 => ?_)
  have hc2 : cloW 9 w2 := by rw [e2]; exact hc1.set rfl
  have h2 : w2 7 = .inr (0, [.int 0, .int 0, .int 0, .ref 8, .null, .null, .null, .null, .null, .null, .null, .null]) := by rw [e2]; exact mUp_eq
  refine k_aload (pc := 11) dX0_init_11 rfl ?_
  refine k_iconst (pc := 12) (v := 5) dX0_init_12 (by decide) ?_
  refine k_newa1 (pc := 13) (N := 5) (n1 := 10) (cs1 := 2) (sl1 := 10) rfl rfl rfl (mTT_mem tk_128 rfl) dX0_init_13 (by decide) (by decide) (by decide) (by decide) (by decide) (by decide) hc2 rfl rfl (fun w3 e3 => ?_)
  have hc3 : cloW 10 w3 := by rw [e3]; exact hc2.push rfl
  have h3 : w3 7 = .inr (0, [.int 0, .int 0, .int 0, .ref 8, .null, .null, .null, .null, .null, .null, .null, .null]) := by rw [e3]; exact (mUp_ne (by decide)).trans h2
  refine k_putF1 (pc := 15) (kf := 4) (fs1 := [.int 0, .int 0, .int 0, .ref 8, .ref 9, .null, .null, .null, .null, .null, .null, .null]) (ty := .array .int) rfl tyX0 (C := RX0) (T := TX0) (N := 12) rfl inX0 tyX0_ok nmX0 (by decide) (mTT_mem tk_170 rfl) rfl rfl rfl (by decide +kernel) (fun _ => rfl) (fun _ => rfl) dX0_init_15 (by decide) h3 (by decide) (fun w4 e4 => ?_)
  have hc4 : cloW 10 w4 := by rw [e4]; exact hc3.set rfl
  have h4 : w4 7 = .inr (0, [.int 0, .int 0, .int 0, .ref 8, .ref 9, .null, .null, .null, .null, .null, .null, .null]) := by rw [e4]; exact mUp_eq
  refine k_aload (pc := 18) dX0_init_18 rfl ?_
  refine k_iconst (pc := 19) (v := 5) dX0_init_19 (by decide) ?_
  refine k_newa1 (pc := 20) (N := 5) (n1 := 11) (cs1 := 3) (sl1 := 15) rfl rfl rfl (mTT_mem tk_128 rfl) dX0_init_20 (by decide) (by decide) (by decide) (by decide) (by decide) (by decide) hc4 rfl rfl (fun w5 e5 => ?_)
  have hc5 : cloW 11 w5 := by rw [e5]; exact hc4.push rfl
  have h5 : w5 7 = .inr (0, [.int 0, .int 0, .int 0, .ref 8, .ref 9, .null, .null, .null, .null, .null, .null, .null]) := by rw [e5]; exact (mUp_ne (by decide)).trans h4
  refine k_putF1 (pc := 22) (kf := 5) (fs1 := [.int 0, .int 0, .int 0, .ref 8, .ref 9, .ref 10, .null, .null, .null, .null, .null, .null]) (ty := .array .int) rfl tyX0 (C := RX0) (T := TX0) (N := 12) rfl inX0 tyX0_ok nmX0 (by decide) (mTT_mem tk_173 rfl) rfl rfl rfl (by decide +kernel) (fun _ => rfl) (fun _ => rfl) dX0_init_22 (by decide) h5 (by decide) (fun w6 e6 => ?_)
  have hc6 : cloW 11 w6 := by rw [e6]; exact hc5.set rfl
  have h6 : w6 7 = .inr (0, [.int 0, .int 0, .int 0, .ref 8, .ref 9, .ref 10, .null, .null, .null, .null, .null, .null]) := by rw [e6]; exact mUp_eq
  refine k_aload (pc := 25) dX0_init_25 rfl ?_
  refine k_iconst (pc := 26) (v := 5) dX0_init_26 (by decide) ?_
  refine k_newa1 (pc := 27) (N := 5) (n1 := 12) (cs1 := 4) (sl1 := 20) rfl rfl rfl (mTT_mem tk_128 rfl) dX0_init_27 (by decide) (by decide) (by decide) (by decide) (by decide) (by decide) hc6 rfl rfl (fun w7 e7 => ?_)
  have hc7 : cloW 12 w7 := by rw [e7]; exact hc6.push rfl
  have h7 : w7 7 = .inr (0, [.int 0, .int 0, .int 0, .ref 8, .ref 9, .ref 10, .null, .null, .null, .null, .null, .null]) := by rw [e7]; exact (mUp_ne (by decide)).trans h6
  refine k_putF1 (pc := 29) (kf := 6) (fs1 := [.int 0, .int 0, .int 0, .ref 8, .ref 9, .ref 10, .ref 11, .null, .null, .null, .null, .null]) (ty := .array .int) rfl tyX0 (C := RX0) (T := TX0) (N := 12) rfl inX0 tyX0_ok nmX0 (by decide) (mTT_mem tk_177 rfl) rfl rfl rfl (by decide +kernel) (fun _ => rfl) (fun _ => rfl) dX0_init_29 (by decide) h7 (by decide) (fun w8 e8 => ?_)
  have hc8 : cloW 12 w8 := by rw [e8]; exact hc7.set rfl
  have h8 : w8 7 = .inr (0, [.int 0, .int 0, .int 0, .ref 8, .ref 9, .ref 10, .ref 11, .null, .null, .null, .null, .null]) := by rw [e8]; exact mUp_eq
  refine k_aload (pc := 32) dX0_init_32 rfl ?_
  refine k_iconst (pc := 33) (v := 5) dX0_init_33 (by decide) ?_
  refine k_newa1 (pc := 34) (N := 5) (n1 := 13) (cs1 := 5) (sl1 := 25) rfl rfl rfl (mTT_mem tk_128 rfl) dX0_init_34 (by decide) (by decide) (by decide) (by decide) (by decide) (by decide) hc8 rfl rfl (fun w9 e9 => ?_)
  have hc9 : cloW 13 w9 := by rw [e9]; exact hc8.push rfl
  have h9 : w9 7 = .inr (0, [.int 0, .int 0, .int 0, .ref 8, .ref 9, .ref 10, .ref 11, .null, .null, .null, .null, .null]) := by rw [e9]; exact (mUp_ne (by decide)).trans h8
  refine k_putF1 (pc := 36) (kf := 7) (fs1 := [.int 0, .int 0, .int 0, .ref 8, .ref 9, .ref 10, .ref 11, .ref 12, .null, .null, .null, .null]) (ty := .array .int) rfl tyX0 (C := RX0) (T := TX0) (N := 12) rfl inX0 tyX0_ok nmX0 (by decide) (mTT_mem tk_180 rfl) rfl rfl rfl (by decide +kernel) (fun _ => rfl) (fun _ => rfl) dX0_init_36 (by decide) h9 (by decide) (fun w10 e10 => ?_)
  have hc10 : cloW 13 w10 := by rw [e10]; exact hc9.set rfl
  have h10 : w10 7 = .inr (0, [.int 0, .int 0, .int 0, .ref 8, .ref 9, .ref 10, .ref 11, .ref 12, .null, .null, .null, .null]) := by rw [e10]; exact mUp_eq
  refine k_aload (pc := 39) dX0_init_39 rfl ?_
  refine k_iconst (pc := 40) (v := 5) dX0_init_40 (by decide) ?_
  refine k_newa1 (pc := 41) (N := 5) (n1 := 14) (cs1 := 6) (sl1 := 30) rfl rfl rfl (mTT_mem tk_128 rfl) dX0_init_41 (by decide) (by decide) (by decide) (by decide) (by decide) (by decide) hc10 rfl rfl (fun w11 e11 => ?_)
  have hc11 : cloW 14 w11 := by rw [e11]; exact hc10.push rfl
  have h11 : w11 7 = .inr (0, [.int 0, .int 0, .int 0, .ref 8, .ref 9, .ref 10, .ref 11, .ref 12, .null, .null, .null, .null]) := by rw [e11]; exact (mUp_ne (by decide)).trans h10
  refine k_putF1 (pc := 43) (kf := 8) (fs1 := [.int 0, .int 0, .int 0, .ref 8, .ref 9, .ref 10, .ref 11, .ref 12, .ref 13, .null, .null, .null]) (ty := .array .int) rfl tyX0 (C := RX0) (T := TX0) (N := 12) rfl inX0 tyX0_ok nmX0 (by decide) (mTT_mem tk_183 rfl) rfl rfl rfl (by decide +kernel) (fun _ => rfl) (fun _ => rfl) dX0_init_43 (by decide) h11 (by decide) (fun w12 e12 => ?_)
  have hc12 : cloW 14 w12 := by rw [e12]; exact hc11.set rfl
  have h12 : w12 7 = .inr (0, [.int 0, .int 0, .int 0, .ref 8, .ref 9, .ref 10, .ref 11, .ref 12, .ref 13, .null, .null, .null]) := by rw [e12]; exact mUp_eq
  refine k_aload (pc := 46) dX0_init_46 rfl ?_
  refine k_iconst (pc := 47) (v := 5) dX0_init_47 (by decide) ?_
  refine k_newa1 (pc := 48) (N := 5) (n1 := 15) (cs1 := 7) (sl1 := 35) rfl rfl rfl (mTT_mem tk_128 rfl) dX0_init_48 (by decide) (by decide) (by decide) (by decide) (by decide) (by decide) hc12 rfl rfl (fun w13 e13 => ?_)
  have hc13 : cloW 15 w13 := by rw [e13]; exact hc12.push rfl
  have h13 : w13 7 = .inr (0, [.int 0, .int 0, .int 0, .ref 8, .ref 9, .ref 10, .ref 11, .ref 12, .ref 13, .null, .null, .null]) := by rw [e13]; exact (mUp_ne (by decide)).trans h12
  refine k_putF1 (pc := 50) (kf := 9) (fs1 := [.int 0, .int 0, .int 0, .ref 8, .ref 9, .ref 10, .ref 11, .ref 12, .ref 13, .ref 14, .null, .null]) (ty := .array .int) rfl tyX0 (C := RX0) (T := TX0) (N := 12) rfl inX0 tyX0_ok nmX0 (by decide) (mTT_mem tk_186 rfl) rfl rfl rfl (by decide +kernel) (fun _ => rfl) (fun _ => rfl) dX0_init_50 (by decide) h13 (by decide) (fun w14 e14 => ?_)
  have hc14 : cloW 15 w14 := by rw [e14]; exact hc13.set rfl
  have h14 : w14 7 = .inr (0, [.int 0, .int 0, .int 0, .ref 8, .ref 9, .ref 10, .ref 11, .ref 12, .ref 13, .ref 14, .null, .null]) := by rw [e14]; exact mUp_eq
  refine k_aload (pc := 53) dX0_init_53 rfl ?_
  refine k_iconst (pc := 54) (v := 5) dX0_init_54 (by decide) ?_
  refine k_newa1 (pc := 55) (N := 5) (n1 := 16) (cs1 := 8) (sl1 := 40) rfl rfl rfl (mTT_mem tk_128 rfl) dX0_init_55 (by decide) (by decide) (by decide) (by decide) (by decide) (by decide) hc14 rfl rfl (fun w15 e15 => ?_)
  have hc15 : cloW 16 w15 := by rw [e15]; exact hc14.push rfl
  have h15 : w15 7 = .inr (0, [.int 0, .int 0, .int 0, .ref 8, .ref 9, .ref 10, .ref 11, .ref 12, .ref 13, .ref 14, .null, .null]) := by rw [e15]; exact (mUp_ne (by decide)).trans h14
  refine k_putF1 (pc := 57) (kf := 10) (fs1 := [.int 0, .int 0, .int 0, .ref 8, .ref 9, .ref 10, .ref 11, .ref 12, .ref 13, .ref 14, .ref 15, .null]) (ty := .array .int) rfl tyX0 (C := RX0) (T := TX0) (N := 12) rfl inX0 tyX0_ok nmX0 (by decide) (mTT_mem tk_189 rfl) rfl rfl rfl (by decide +kernel) (fun _ => rfl) (fun _ => rfl) dX0_init_57 (by decide) h15 (by decide) (fun w16 e16 => ?_)
  have hc16 : cloW 16 w16 := by rw [e16]; exact hc15.set rfl
  have h16 : w16 7 = .inr (0, [.int 0, .int 0, .int 0, .ref 8, .ref 9, .ref 10, .ref 11, .ref 12, .ref 13, .ref 14, .ref 15, .null]) := by rw [e16]; exact mUp_eq
  refine k_aload (pc := 60) dX0_init_60 rfl ?_
  refine k_iconst (pc := 61) (v := 5) dX0_init_61 (by decide) ?_
  refine k_newa1 (pc := 62) (N := 5) (n1 := 17) (cs1 := 9) (sl1 := 45) rfl rfl rfl (mTT_mem tk_128 rfl) dX0_init_62 (by decide) (by decide) (by decide) (by decide) (by decide) (by decide) hc16 rfl rfl (fun w17 e17 => ?_)
  have hc17 : cloW 17 w17 := by rw [e17]; exact hc16.push rfl
  have h17 : w17 7 = .inr (0, [.int 0, .int 0, .int 0, .ref 8, .ref 9, .ref 10, .ref 11, .ref 12, .ref 13, .ref 14, .ref 15, .null]) := by rw [e17]; exact (mUp_ne (by decide)).trans h16
  refine k_putF1 (pc := 64) (kf := 11) (fs1 := [.int 0, .int 0, .int 0, .ref 8, .ref 9, .ref 10, .ref 11, .ref 12, .ref 13, .ref 14, .ref 15, .ref 16]) (ty := .array .int) rfl tyX0 (C := RX0) (T := TX0) (N := 12) rfl inX0 tyX0_ok nmX0 (by decide) (mTT_mem tk_193 rfl) rfl rfl rfl (by decide +kernel) (fun _ => rfl) (fun _ => rfl) dX0_init_64 (by decide) h17 (by decide) (fun w18 e18 => ?_)
  have hc18 : cloW 17 w18 := by rw [e18]; exact hc17.set rfl
  have h18 : w18 7 = .inr (0, [.int 0, .int 0, .int 0, .ref 8, .ref 9, .ref 10, .ref 11, .ref 12, .ref 13, .ref 14, .ref 15, .ref 16]) := by rw [e18]; exact mUp_eq
  exact k_ret (pc := 67) dX0_init_67 rfl (by rw [e18, e17, e16, e15, e14, e13, e12, e11, e10, e9, e8, e7, e6, e5, e4, e3, e2, e1]; rfl) (by decide) (by decide)
def kw_X_42_9 (w : mW) : mW := mUp (mUp (mUp (mUp (mUp (mUp (mUp (mUp (mUp (mUp (mUp (mUp (mUp (mUp (mUp (mUp (mUp (mUp (w) 19 (.inl (5, fun _ => 0))) 18 (.inr (0, [.int 0, .int 0, .int 0, .ref 19, .null, .null, .null, .null, .null, .null, .null, .null]))) 20 (.inl (5, fun _ => 0))) 18 (.inr (0, [.int 0, .int 0, .int 0, .ref 19, .ref 20, .null, .null, .null, .null, .null, .null, .null]))) 21 (.inl (5, fun _ => 0))) 18 (.inr (0, [.int 0, .int 0, .int 0, .ref 19, .ref 20, .ref 21, .null, .null, .null, .null, .null, .null]))) 22 (.inl (5, fun _ => 0))) 18 (.inr (0, [.int 0, .int 0, .int 0, .ref 19, .ref 20, .ref 21, .ref 22, .null, .null, .null, .null, .null]))) 23 (.inl (5, fun _ => 0))) 18 (.inr (0, [.int 0, .int 0, .int 0, .ref 19, .ref 20, .ref 21, .ref 22, .ref 23, .null, .null, .null, .null]))) 24 (.inl (5, fun _ => 0))) 18 (.inr (0, [.int 0, .int 0, .int 0, .ref 19, .ref 20, .ref 21, .ref 22, .ref 23, .ref 24, .null, .null, .null]))) 25 (.inl (5, fun _ => 0))) 18 (.inr (0, [.int 0, .int 0, .int 0, .ref 19, .ref 20, .ref 21, .ref 22, .ref 23, .ref 24, .ref 25, .null, .null]))) 26 (.inl (5, fun _ => 0))) 18 (.inr (0, [.int 0, .int 0, .int 0, .ref 19, .ref 20, .ref 21, .ref 22, .ref 23, .ref 24, .ref 25, .ref 26, .null]))) 27 (.inl (5, fun _ => 0))) 18 (.inr (0, [.int 0, .int 0, .int 0, .ref 19, .ref 20, .ref 21, .ref 22, .ref 23, .ref 24, .ref 25, .ref 26, .ref 27]))
theorem kcl_X_42_9 {w : mW} (hc : cloW 19 w) : cloW 28 (kw_X_42_9 w) := ((((((((((((((((((((((((((((((((((((hc).push rfl)).set rfl)).push rfl)).set rfl)).push rfl)).set rfl)).push rfl)).set rfl)).push rfl)).set rfl)).push rfl)).set rfl)).push rfl)).set rfl)).push rfl)).set rfl)).push rfl)).set rfl)
theorem kne_X_42_9 {w : mW} {j : Nat} (hj : j < 19) (hi : j ≠ 18) : kw_X_42_9 w j = w j := by
  unfold kw_X_42_9
  rw [mUp_ne (by omega), mUp_ne (by omega), mUp_ne (by omega), mUp_ne (by omega), mUp_ne (by omega), mUp_ne (by omega), mUp_ne (by omega), mUp_ne (by omega), mUp_ne (by omega), mUp_ne (by omega), mUp_ne (by omega), mUp_ne (by omega), mUp_ne (by omega), mUp_ne (by omega), mUp_ne (by omega), mUp_ne (by omega), mUp_ne (by omega), mUp_ne (by omega)]
theorem kc_X_42_9 {d : Nat} {w : mW} (hc0 : cloW 19 w) (h0 : w 18 = .inr (0, [.int 0, .int 0, .int 0, .null, .null, .null, .null, .null, .null, .null, .null, .null])) : kC (d + 1) kX0_init [.ref 18] 19 w 9 45 28 (kw_X_42_9 w) := by
  refine kC.of okX0_init rfl rfl rfl ?_
  refine k_aload (pc := 0) dX0_init_0 rfl ?_
  refine k_obj (pc := 1) rfl (mTT_mem tk_153 rfl) (mTT_mem tk_110 rfl) (mTT_mem tk_111 rfl) dX0_init_1 rfl ?_
  refine k_aload (pc := 4) dX0_init_4 rfl ?_
  refine k_iconst (pc := 5) (v := 5) dX0_init_5 (by decide) ?_
  refine k_newa1 (pc := 6) (N := 5) (n1 := 20) (cs1 := 1) (sl1 := 5) rfl rfl rfl (mTT_mem tk_128 rfl) dX0_init_6 (by decide) (by decide) (by decide) (by decide) (by decide) (by decide) hc0 rfl rfl (fun w1 e1 => ?_)
  have hc1 : cloW 20 w1 := by rw [e1]; exact hc0.push rfl
  have h1 : w1 18 = .inr (0, [.int 0, .int 0, .int 0, .null, .null, .null, .null, .null, .null, .null, .null, .null]) := by rw [e1]; exact (mUp_ne (by decide)).trans h0
  refine k_putF1 (pc := 8) (kf := 3) (fs1 := [.int 0, .int 0, .int 0, .ref 19, .null, .null, .null, .null, .null, .null, .null, .null]) (ty := .array .int) rfl tyX0 (C := RX0) (T := TX0) (N := 12) rfl inX0 tyX0_ok nmX0 (by decide) (mTT_mem tk_167 rfl) rfl rfl rfl (by decide +kernel) (fun _ => rfl) (fun _ => rfl) dX0_init_8 (by decide) h1 (by decide) (fun w2 e2 => ?_)
  have hc2 : cloW 20 w2 := by rw [e2]; exact hc1.set rfl
  have h2 : w2 18 = .inr (0, [.int 0, .int 0, .int 0, .ref 19, .null, .null, .null, .null, .null, .null, .null, .null]) := by rw [e2]; exact mUp_eq
  refine k_aload (pc := 11) dX0_init_11 rfl ?_
  refine k_iconst (pc := 12) (v := 5) dX0_init_12 (by decide) ?_
  refine k_newa1 (pc := 13) (N := 5) (n1 := 21) (cs1 := 2) (sl1 := 10) rfl rfl rfl (mTT_mem tk_128 rfl) dX0_init_13 (by decide) (by decide) (by decide) (by decide) (by decide) (by decide) hc2 rfl rfl (fun w3 e3 => ?_)
  have hc3 : cloW 21 w3 := by rw [e3]; exact hc2.push rfl
  have h3 : w3 18 = .inr (0, [.int 0, .int 0, .int 0, .ref 19, .null, .null, .null, .null, .null, .null, .null, .null]) := by rw [e3]; exact (mUp_ne (by decide)).trans h2
  refine k_putF1 (pc := 15) (kf := 4) (fs1 := [.int 0, .int 0, .int 0, .ref 19, .ref 20, .null, .null, .null, .null, .null, .null, .null]) (ty := .array .int) rfl tyX0 (C := RX0) (T := TX0) (N := 12) rfl inX0 tyX0_ok nmX0 (by decide) (mTT_mem tk_170 rfl) rfl rfl rfl (by decide +kernel) (fun _ => rfl) (fun _ => rfl) dX0_init_15 (by decide) h3 (by decide) (fun w4 e4 => ?_)
  have hc4 : cloW 21 w4 := by rw [e4]; exact hc3.set rfl
  have h4 : w4 18 = .inr (0, [.int 0, .int 0, .int 0, .ref 19, .ref 20, .null, .null, .null, .null, .null, .null, .null]) := by rw [e4]; exact mUp_eq
  refine k_aload (pc := 18) dX0_init_18 rfl ?_
  refine k_iconst (pc := 19) (v := 5) dX0_init_19 (by decide) ?_
  refine k_newa1 (pc := 20) (N := 5) (n1 := 22) (cs1 := 3) (sl1 := 15) rfl rfl rfl (mTT_mem tk_128 rfl) dX0_init_20 (by decide) (by decide) (by decide) (by decide) (by decide) (by decide) hc4 rfl rfl (fun w5 e5 => ?_)
  have hc5 : cloW 22 w5 := by rw [e5]; exact hc4.push rfl
  have h5 : w5 18 = .inr (0, [.int 0, .int 0, .int 0, .ref 19, .ref 20, .null, .null, .null, .null, .null, .null, .null]) := by rw [e5]; exact (mUp_ne (by decide)).trans h4
  refine k_putF1 (pc := 22) (kf := 5) (fs1 := [.int 0, .int 0, .int 0, .ref 19, .ref 20, .ref 21, .null, .null, .null, .null, .null, .null]) (ty := .array .int) rfl tyX0 (C := RX0) (T := TX0) (N := 12) rfl inX0 tyX0_ok nmX0 (by decide) (mTT_mem tk_173 rfl) rfl rfl rfl (by decide +kernel) (fun _ => rfl) (fun _ => rfl) dX0_init_22 (by decide) h5 (by decide) (fun w6 e6 => ?_)
  have hc6 : cloW 22 w6 := by rw [e6]; exact hc5.set rfl
  have h6 : w6 18 = .inr (0, [.int 0, .int 0, .int 0, .ref 19, .ref 20, .ref 21, .null, .null, .null, .null, .null, .null]) := by rw [e6]; exact mUp_eq
  refine k_aload (pc := 25) dX0_init_25 rfl ?_
  refine k_iconst (pc := 26) (v := 5) dX0_init_26 (by decide) ?_
  refine k_newa1 (pc := 27) (N := 5) (n1 := 23) (cs1 := 4) (sl1 := 20) rfl rfl rfl (mTT_mem tk_128 rfl) dX0_init_27 (by decide) (by decide) (by decide) (by decide) (by decide) (by decide) hc6 rfl rfl (fun w7 e7 => ?_)
  have hc7 : cloW 23 w7 := by rw [e7]; exact hc6.push rfl
  have h7 : w7 18 = .inr (0, [.int 0, .int 0, .int 0, .ref 19, .ref 20, .ref 21, .null, .null, .null, .null, .null, .null]) := by rw [e7]; exact (mUp_ne (by decide)).trans h6
  refine k_putF1 (pc := 29) (kf := 6) (fs1 := [.int 0, .int 0, .int 0, .ref 19, .ref 20, .ref 21, .ref 22, .null, .null, .null, .null, .null]) (ty := .array .int) rfl tyX0 (C := RX0) (T := TX0) (N := 12) rfl inX0 tyX0_ok nmX0 (by decide) (mTT_mem tk_177 rfl) rfl rfl rfl (by decide +kernel) (fun _ => rfl) (fun _ => rfl) dX0_init_29 (by decide) h7 (by decide) (fun w8 e8 => ?_)
  have hc8 : cloW 23 w8 := by rw [e8]; exact hc7.set rfl
  have h8 : w8 18 = .inr (0, [.int 0, .int 0, .int 0, .ref 19, .ref 20, .ref 21, .ref 22, .null, .null, .null, .null, .null]) := by rw [e8]; exact mUp_eq
  refine k_aload (pc := 32) dX0_init_32 rfl ?_
  refine k_iconst (pc := 33) (v := 5) dX0_init_33 (by decide) ?_
  refine k_newa1 (pc := 34) (N := 5) (n1 := 24) (cs1 := 5) (sl1 := 25) rfl rfl rfl (mTT_mem tk_128 rfl) dX0_init_34 (by decide) (by decide) (by decide) (by decide) (by decide) (by decide) hc8 rfl rfl (fun w9 e9 => ?_)
  have hc9 : cloW 24 w9 := by rw [e9]; exact hc8.push rfl
  have h9 : w9 18 = .inr (0, [.int 0, .int 0, .int 0, .ref 19, .ref 20, .ref 21, .ref 22, .null, .null, .null, .null, .null]) := by rw [e9]; exact (mUp_ne (by decide)).trans h8
  refine k_putF1 (pc := 36) (kf := 7) (fs1 := [.int 0, .int 0, .int 0, .ref 19, .ref 20, .ref 21, .ref 22, .ref 23, .null, .null, .null, .null]) (ty := .array .int) rfl tyX0 (C := RX0) (T := TX0) (N := 12) rfl inX0 tyX0_ok nmX0 (by decide) (mTT_mem tk_180 rfl) rfl rfl rfl (by decide +kernel) (fun _ => rfl) (fun _ => rfl) dX0_init_36 (by decide) h9 (by decide) (fun w10 e10 => ?_)
  have hc10 : cloW 24 w10 := by rw [e10]; exact hc9.set rfl
  have h10 : w10 18 = .inr (0, [.int 0, .int 0, .int 0, .ref 19, .ref 20, .ref 21, .ref 22, .ref 23, .null, .null, .null, .null]) := by rw [e10]; exact mUp_eq
  refine k_aload (pc := 39) dX0_init_39 rfl ?_
  refine k_iconst (pc := 40) (v := 5) dX0_init_40 (by decide) ?_
  refine k_newa1 (pc := 41) (N := 5) (n1 := 25) (cs1 := 6) (sl1 := 30) rfl rfl rfl (mTT_mem tk_128 rfl) dX0_init_41 (by decide) (by decide) (by decide) (by decide) (by decide) (by decide) hc10 rfl rfl (fun w11 e11 => ?_)
  have hc11 : cloW 25 w11 := by rw [e11]; exact hc10.push rfl
  have h11 : w11 18 = .inr (0, [.int 0, .int 0, .int 0, .ref 19, .ref 20, .ref 21, .ref 22, .ref 23, .null, .null, .null, .null]) := by rw [e11]; exact (mUp_ne (by decide)).trans h10
  refine k_putF1 (pc := 43) (kf := 8) (fs1 := [.int 0, .int 0, .int 0, .ref 19, .ref 20, .ref 21, .ref 22, .ref 23, .ref 24, .null, .null, .null]) (ty := .array .int) rfl tyX0 (C := RX0) (T := TX0) (N := 12) rfl inX0 tyX0_ok nmX0 (by decide) (mTT_mem tk_183 rfl) rfl rfl rfl (by decide +kernel) (fun _ => rfl) (fun _ => rfl) dX0_init_43 (by decide) h11 (by decide) (fun w12 e12 => ?_)
  have hc12 : cloW 25 w12 := by rw [e12]; exact hc11.set rfl
  have h12 : w12 18 = .inr (0, [.int 0, .int 0, .int 0, .ref 19, .ref 20, .ref 21, .ref 22, .ref 23, .ref 24, .null, .null, .null]) := by rw [e12]; exact mUp_eq
  refine k_aload (pc := 46) dX0_init_46 rfl ?_
  refine k_iconst (pc := 47) (v := 5) dX0_init_47 (by decide) ?_
  refine k_newa1 (pc := 48) (N := 5) (n1 := 26) (cs1 := 7) (sl1 := 35) rfl rfl rfl (mTT_mem tk_128 rfl) dX0_init_48 (by decide) (by decide) (by decide) (by decide) (by decide) (by decide) hc12 rfl rfl (fun w13 e13 => ?_)
  have hc13 : cloW 26 w13 := by rw [e13]; exact hc12.push rfl
  have h13 : w13 18 = .inr (0, [.int 0, .int 0, .int 0, .ref 19, .ref 20, .ref 21, .ref 22, .ref 23, .ref 24, .null, .null, .null]) := by rw [e13]; exact (mUp_ne (by decide)).trans h12
  refine k_putF1 (pc := 50) (kf := 9) (fs1 := [.int 0, .int 0, .int 0, .ref 19, .ref 20, .ref 21, .ref 22, .ref 23, .ref 24, .ref 25, .null, .null]) (ty := .array .int) rfl tyX0 (C := RX0) (T := TX0) (N := 12) rfl inX0 tyX0_ok nmX0 (by decide) (mTT_mem tk_186 rfl) rfl rfl rfl (by decide +kernel) (fun _ => rfl) (fun _ => rfl) dX0_init_50 (by decide) h13 (by decide) (fun w14 e14 => ?_)
  have hc14 : cloW 26 w14 := by rw [e14]; exact hc13.set rfl
  have h14 : w14 18 = .inr (0, [.int 0, .int 0, .int 0, .ref 19, .ref 20, .ref 21, .ref 22, .ref 23, .ref 24, .ref 25, .null, .null]) := by rw [e14]; exact mUp_eq
  refine k_aload (pc := 53) dX0_init_53 rfl ?_
  refine k_iconst (pc := 54) (v := 5) dX0_init_54 (by decide) ?_
  refine k_newa1 (pc := 55) (N := 5) (n1 := 27) (cs1 := 8) (sl1 := 40) rfl rfl rfl (mTT_mem tk_128 rfl) dX0_init_55 (by decide) (by decide) (by decide) (by decide) (by decide) (by decide) hc14 rfl rfl (fun w15 e15 => ?_)
  have hc15 : cloW 27 w15 := by rw [e15]; exact hc14.push rfl
  have h15 : w15 18 = .inr (0, [.int 0, .int 0, .int 0, .ref 19, .ref 20, .ref 21, .ref 22, .ref 23, .ref 24, .ref 25, .null, .null]) := by rw [e15]; exact (mUp_ne (by decide)).trans h14
  refine k_putF1 (pc := 57) (kf := 10) (fs1 := [.int 0, .int 0, .int 0, .ref 19, .ref 20, .ref 21, .ref 22, .ref 23, .ref 24, .ref 25, .ref 26, .null]) (ty := .array .int) rfl tyX0 (C := RX0) (T := TX0) (N := 12) rfl inX0 tyX0_ok nmX0 (by decide) (mTT_mem tk_189 rfl) rfl rfl rfl (by decide +kernel) (fun _ => rfl) (fun _ => rfl) dX0_init_57 (by decide) h15 (by decide) (fun w16 e16 => ?_)
  have hc16 : cloW 27 w16 := by rw [e16]; exact hc15.set rfl
  have h16 : w16 18 = .inr (0, [.int 0, .int 0, .int 0, .ref 19, .ref 20, .ref 21, .ref 22, .ref 23, .ref 24, .ref 25, .ref 26, .null]) := by rw [e16]; exact mUp_eq
  refine k_aload (pc := 60) dX0_init_60 rfl ?_
  refine k_iconst (pc := 61) (v := 5) dX0_init_61 (by decide) ?_
  refine k_newa1 (pc := 62) (N := 5) (n1 := 28) (cs1 := 9) (sl1 := 45) rfl rfl rfl (mTT_mem tk_128 rfl) dX0_init_62 (by decide) (by decide) (by decide) (by decide) (by decide) (by decide) hc16 rfl rfl (fun w17 e17 => ?_)
  have hc17 : cloW 28 w17 := by rw [e17]; exact hc16.push rfl
  have h17 : w17 18 = .inr (0, [.int 0, .int 0, .int 0, .ref 19, .ref 20, .ref 21, .ref 22, .ref 23, .ref 24, .ref 25, .ref 26, .null]) := by rw [e17]; exact (mUp_ne (by decide)).trans h16
  refine k_putF1 (pc := 64) (kf := 11) (fs1 := [.int 0, .int 0, .int 0, .ref 19, .ref 20, .ref 21, .ref 22, .ref 23, .ref 24, .ref 25, .ref 26, .ref 27]) (ty := .array .int) rfl tyX0 (C := RX0) (T := TX0) (N := 12) rfl inX0 tyX0_ok nmX0 (by decide) (mTT_mem tk_193 rfl) rfl rfl rfl (by decide +kernel) (fun _ => rfl) (fun _ => rfl) dX0_init_64 (by decide) h17 (by decide) (fun w18 e18 => ?_)
  have hc18 : cloW 28 w18 := by rw [e18]; exact hc17.set rfl
  have h18 : w18 18 = .inr (0, [.int 0, .int 0, .int 0, .ref 19, .ref 20, .ref 21, .ref 22, .ref 23, .ref 24, .ref 25, .ref 26, .ref 27]) := by rw [e18]; exact mUp_eq
  exact k_ret (pc := 67) dX0_init_67 rfl (by rw [e18, e17, e16, e15, e14, e13, e12, e11, e10, e9, e8, e7, e6, e5, e4, e3, e2, e1]; rfl) (by decide) (by decide)
def kw_X_42 (w : mW) : mW := mUp (mUp (mUp (mUp (mUp (kw_X_42_9 (mUp (w) 18 (.inr (0, [.int 0, .int 0, .int 0, .null, .null, .null, .null, .null, .null, .null, .null, .null])))) 17 (.inr (4, [.ref 18, .null, .null, .int 0, .int 0, .int 0]))) 28 (.inl (20, fun _ => 0))) 17 (.inr (4, [.ref 18, .ref 28, .null, .int 0, .int 0, .int 0]))) 29 (.inl (20, fun _ => 0))) 17 (.inr (4, [.ref 18, .ref 28, .ref 29, .int 0, .int 0, .int 0]))
theorem kcl_X_42 {w : mW} (hc : cloW 18 w) : cloW 30 (kw_X_42 w) := (((((((((((kcl_X_42_9 ((hc).push rfl))).set rfl)).push rfl)).set rfl)).push rfl)).set rfl)
theorem kne_X_42 {w : mW} {j : Nat} (hj : j < 18) (hi : j ≠ 17) : kw_X_42 w j = w j := by
  unfold kw_X_42
  rw [mUp_ne (by omega), mUp_ne (by omega), mUp_ne (by omega), mUp_ne (by omega), mUp_ne (by omega), kne_X_42_9 (by omega) (by omega), mUp_ne (by omega)]
theorem kc_X_42 {d : Nat} {w : mW} (hc0 : cloW 18 w) (h0 : w 17 = .inr (4, [.null, .null, .null, .int 0, .int 0, .int 0])) : kC (d + 2) kX4_init [.ref 17] 18 w 12 97 30 (kw_X_42 w) := by
  refine kC.of okX4_init rfl rfl rfl ?_
  refine k_aload (pc := 0) dX4_init_0 rfl ?_
  refine k_obj (pc := 1) rfl (mTT_mem tk_227 rfl) (mTT_mem tk_110 rfl) (mTT_mem tk_111 rfl) dX4_init_1 rfl ?_
  refine k_aload (pc := 4) dX4_init_4 rfl ?_
  refine k_new1 (pc := 5) (ci := 0) (fs := [.int 0, .int 0, .int 0, .null, .null, .null, .null, .null, .null, .null, .null, .null]) (n1 := 19) (cs1 := 1) (sl1 := 12) rfl rfl rfl tyX0 (mTT_mem tk_228 rfl) (mTT_mem tk_149 rfl) (mTT_mem tk_95 rfl) inX0 tyX0_ok rfl (by decide +kernel) (fun _ => rfl) dX4_init_5 (by decide) (by decide) (by decide) hc0 rfl rfl (fun w1 e1 => ?_)
  have hc1 : cloW 19 w1 := by rw [e1]; exact hc0.push rfl
  have h1 : w1 17 = .inr (4, [.null, .null, .null, .int 0, .int 0, .int 0]) := by rw [e1]; exact (mUp_ne (by decide)).trans h0
  have hn1 : w1 18 = .inr (0, [.int 0, .int 0, .int 0, .null, .null, .null, .null, .null, .null, .null, .null, .null]) := by rw [e1]; exact mUp_eq
  refine k_dup (pc := 8) dX4_init_8 rfl ?_
  refine k_init1 (pc := 9) (mc := 9) (ms := 45) (cs1 := 10) (sl1 := 57) rfl rfl (M2 := kX0_init) okX0_init rfl rfl (by decide +kernel) tk_229 (mTT_mem tk_151 rfl) dX4_init_9 (Nat.le_of_ble_eq_true rfl) (by decide) (by decide) hc1 rfl rfl (by decide) (kc_X_42_9 hc1 hn1) (fun w2 e2 => ?_)
  have hc2 : cloW 28 w2 := by rw [e2]; exact kcl_X_42_9 hc1
  have h2 : w2 17 = .inr (4, [.null, .null, .null, .int 0, .int 0, .int 0]) := by rw [e2]; exact (kne_X_42_9 (by decide) (by decide)).trans h1
  refine k_putF1 (pc := 12) (kf := 0) (fs1 := [.ref 18, .null, .null, .int 0, .int 0, .int 0]) (ty := .object "BarrowNights$Down") rfl tyX4 (C := RX4) (T := TX4) (N := 6) rfl inX4 tyX4_ok nmX4 (by decide) (mTT_mem tk_230 rfl) rfl rfl rfl (by decide +kernel) (fun _ => rfl) (fun _ => rfl) dX4_init_12 (by decide) h2 (by decide) (fun w3 e3 => ?_)
  have hc3 : cloW 28 w3 := by rw [e3]; exact hc2.set rfl
  have h3 : w3 17 = .inr (4, [.ref 18, .null, .null, .int 0, .int 0, .int 0]) := by rw [e3]; exact mUp_eq
  refine k_aload (pc := 15) dX4_init_15 rfl ?_
  refine k_bipush (pc := 16) (v := 20) dX4_init_16 (by decide) ?_
  refine k_newa1 (pc := 18) (N := 20) (n1 := 29) (cs1 := 11) (sl1 := 77) rfl rfl rfl (mTT_mem tk_128 rfl) dX4_init_18 (by decide) (by decide) (by decide) (by decide) (by decide) (by decide) hc3 rfl rfl (fun w4 e4 => ?_)
  have hc4 : cloW 29 w4 := by rw [e4]; exact hc3.push rfl
  have h4 : w4 17 = .inr (4, [.ref 18, .null, .null, .int 0, .int 0, .int 0]) := by rw [e4]; exact (mUp_ne (by decide)).trans h3
  refine k_putF1 (pc := 20) (kf := 1) (fs1 := [.ref 18, .ref 28, .null, .int 0, .int 0, .int 0]) (ty := .array .int) rfl tyX4 (C := RX4) (T := TX4) (N := 6) rfl inX4 tyX4_ok nmX4 (by decide) (mTT_mem tk_231 rfl) rfl rfl rfl (by decide +kernel) (fun _ => rfl) (fun _ => rfl) dX4_init_20 (by decide) h4 (by decide) (fun w5 e5 => ?_)
  have hc5 : cloW 29 w5 := by rw [e5]; exact hc4.set rfl
  have h5 : w5 17 = .inr (4, [.ref 18, .ref 28, .null, .int 0, .int 0, .int 0]) := by rw [e5]; exact mUp_eq
  refine k_aload (pc := 23) dX4_init_23 rfl ?_
  refine k_bipush (pc := 24) (v := 20) dX4_init_24 (by decide) ?_
  refine k_newa1 (pc := 26) (N := 20) (n1 := 30) (cs1 := 12) (sl1 := 97) rfl rfl rfl (mTT_mem tk_128 rfl) dX4_init_26 (by decide) (by decide) (by decide) (by decide) (by decide) (by decide) hc5 rfl rfl (fun w6 e6 => ?_)
  have hc6 : cloW 30 w6 := by rw [e6]; exact hc5.push rfl
  have h6 : w6 17 = .inr (4, [.ref 18, .ref 28, .null, .int 0, .int 0, .int 0]) := by rw [e6]; exact (mUp_ne (by decide)).trans h5
  refine k_putF1 (pc := 28) (kf := 2) (fs1 := [.ref 18, .ref 28, .ref 29, .int 0, .int 0, .int 0]) (ty := .array .int) rfl tyX4 (C := RX4) (T := TX4) (N := 6) rfl inX4 tyX4_ok nmX4 (by decide) (mTT_mem tk_232 rfl) rfl rfl rfl (by decide +kernel) (fun _ => rfl) (fun _ => rfl) dX4_init_28 (by decide) h6 (by decide) (fun w7 e7 => ?_)
  have hc7 : cloW 30 w7 := by rw [e7]; exact hc6.set rfl
  have h7 : w7 17 = .inr (4, [.ref 18, .ref 28, .ref 29, .int 0, .int 0, .int 0]) := by rw [e7]; exact mUp_eq
  exact k_ret (pc := 31) dX4_init_31 rfl (by rw [e7, e6, e5, e4, e3, e2, e1]; rfl) (by decide) (by decide)
def kw_X_53 (w : mW) : mW := mUp (mUp (mUp (mUp (mUp (mUp (w) 31 (.inl (5, fun _ => 0))) 30 (.inr (1, [.ref 31, .null, .null, .int 0, .int 0]))) 32 (.inl (5, fun _ => 0))) 30 (.inr (1, [.ref 31, .ref 32, .null, .int 0, .int 0]))) 33 (.inl (5, fun _ => 0))) 30 (.inr (1, [.ref 31, .ref 32, .ref 33, .int 0, .int 0]))
theorem kcl_X_53 {w : mW} (hc : cloW 31 w) : cloW 34 (kw_X_53 w) := ((((((((((((hc).push rfl)).set rfl)).push rfl)).set rfl)).push rfl)).set rfl)
theorem kne_X_53 {w : mW} {j : Nat} (hj : j < 31) (hi : j ≠ 30) : kw_X_53 w j = w j := by
  unfold kw_X_53
  rw [mUp_ne (by omega), mUp_ne (by omega), mUp_ne (by omega), mUp_ne (by omega), mUp_ne (by omega), mUp_ne (by omega)]
theorem kc_X_53 {d : Nat} {w : mW} (hc0 : cloW 31 w) (h0 : w 30 = .inr (1, [.null, .null, .null, .int 0, .int 0])) : kC (d + 1) kX1_init [.ref 30] 31 w 3 15 34 (kw_X_53 w) := by
  refine kC.of okX1_init rfl rfl rfl ?_
  refine k_aload (pc := 0) dX1_init_0 rfl ?_
  refine k_obj (pc := 1) rfl (mTT_mem tk_254 rfl) (mTT_mem tk_110 rfl) (mTT_mem tk_111 rfl) dX1_init_1 rfl ?_
  refine k_aload (pc := 4) dX1_init_4 rfl ?_
  refine k_iconst (pc := 5) (v := 5) dX1_init_5 (by decide) ?_
  refine k_newa1 (pc := 6) (N := 5) (n1 := 32) (cs1 := 1) (sl1 := 5) rfl rfl rfl (mTT_mem tk_128 rfl) dX1_init_6 (by decide) (by decide) (by decide) (by decide) (by decide) (by decide) hc0 rfl rfl (fun w1 e1 => ?_)
  have hc1 : cloW 32 w1 := by rw [e1]; exact hc0.push rfl
  have h1 : w1 30 = .inr (1, [.null, .null, .null, .int 0, .int 0]) := by rw [e1]; exact (mUp_ne (by decide)).trans h0
  refine k_putF1 (pc := 8) (kf := 0) (fs1 := [.ref 31, .null, .null, .int 0, .int 0]) (ty := .array .int) rfl tyX1 (C := RX1) (T := TX1) (N := 5) rfl inX1 tyX1_ok nmX1 (by decide) (mTT_mem tk_255 rfl) rfl rfl rfl (by decide +kernel) (fun _ => rfl) (fun _ => rfl) dX1_init_8 (by decide) h1 (by decide) (fun w2 e2 => ?_)
  have hc2 : cloW 32 w2 := by rw [e2]; exact hc1.set rfl
  have h2 : w2 30 = .inr (1, [.ref 31, .null, .null, .int 0, .int 0]) := by rw [e2]; exact mUp_eq
  refine k_aload (pc := 11) dX1_init_11 rfl ?_
  refine k_iconst (pc := 12) (v := 5) dX1_init_12 (by decide) ?_
  refine k_newa1 (pc := 13) (N := 5) (n1 := 33) (cs1 := 2) (sl1 := 10) rfl rfl rfl (mTT_mem tk_128 rfl) dX1_init_13 (by decide) (by decide) (by decide) (by decide) (by decide) (by decide) hc2 rfl rfl (fun w3 e3 => ?_)
  have hc3 : cloW 33 w3 := by rw [e3]; exact hc2.push rfl
  have h3 : w3 30 = .inr (1, [.ref 31, .null, .null, .int 0, .int 0]) := by rw [e3]; exact (mUp_ne (by decide)).trans h2
  refine k_putF1 (pc := 15) (kf := 1) (fs1 := [.ref 31, .ref 32, .null, .int 0, .int 0]) (ty := .array .int) rfl tyX1 (C := RX1) (T := TX1) (N := 5) rfl inX1 tyX1_ok nmX1 (by decide) (mTT_mem tk_256 rfl) rfl rfl rfl (by decide +kernel) (fun _ => rfl) (fun _ => rfl) dX1_init_15 (by decide) h3 (by decide) (fun w4 e4 => ?_)
  have hc4 : cloW 33 w4 := by rw [e4]; exact hc3.set rfl
  have h4 : w4 30 = .inr (1, [.ref 31, .ref 32, .null, .int 0, .int 0]) := by rw [e4]; exact mUp_eq
  refine k_aload (pc := 18) dX1_init_18 rfl ?_
  refine k_iconst (pc := 19) (v := 5) dX1_init_19 (by decide) ?_
  refine k_newa1 (pc := 20) (N := 5) (n1 := 34) (cs1 := 3) (sl1 := 15) rfl rfl rfl (mTT_mem tk_128 rfl) dX1_init_20 (by decide) (by decide) (by decide) (by decide) (by decide) (by decide) hc4 rfl rfl (fun w5 e5 => ?_)
  have hc5 : cloW 34 w5 := by rw [e5]; exact hc4.push rfl
  have h5 : w5 30 = .inr (1, [.ref 31, .ref 32, .null, .int 0, .int 0]) := by rw [e5]; exact (mUp_ne (by decide)).trans h4
  refine k_putF1 (pc := 22) (kf := 2) (fs1 := [.ref 31, .ref 32, .ref 33, .int 0, .int 0]) (ty := .array .int) rfl tyX1 (C := RX1) (T := TX1) (N := 5) rfl inX1 tyX1_ok nmX1 (by decide) (mTT_mem tk_258 rfl) rfl rfl rfl (by decide +kernel) (fun _ => rfl) (fun _ => rfl) dX1_init_22 (by decide) h5 (by decide) (fun w6 e6 => ?_)
  have hc6 : cloW 34 w6 := by rw [e6]; exact hc5.set rfl
  have h6 : w6 30 = .inr (1, [.ref 31, .ref 32, .ref 33, .int 0, .int 0]) := by rw [e6]; exact mUp_eq
  exact k_ret (pc := 25) dX1_init_25 rfl (by rw [e6, e5, e4, e3, e2, e1]; rfl) (by decide) (by decide)
def kw_X_64 (w : mW) : mW := mUp (mUp (mUp (mUp (mUp (mUp (mUp (mUp (mUp (mUp (w) 35 (.inl (5, fun _ => 0))) 34 (.inr (2, [.ref 35, .null, .null, .null, .null, .int 0, .int 0]))) 36 (.inl (5, fun _ => 0))) 34 (.inr (2, [.ref 35, .ref 36, .null, .null, .null, .int 0, .int 0]))) 37 (.inl (5, fun _ => 0))) 34 (.inr (2, [.ref 35, .ref 36, .ref 37, .null, .null, .int 0, .int 0]))) 38 (.inl (5, fun _ => 0))) 34 (.inr (2, [.ref 35, .ref 36, .ref 37, .ref 38, .null, .int 0, .int 0]))) 39 (.inl (5, fun _ => 0))) 34 (.inr (2, [.ref 35, .ref 36, .ref 37, .ref 38, .ref 39, .int 0, .int 0]))
theorem kcl_X_64 {w : mW} (hc : cloW 35 w) : cloW 40 (kw_X_64 w) := ((((((((((((((((((((hc).push rfl)).set rfl)).push rfl)).set rfl)).push rfl)).set rfl)).push rfl)).set rfl)).push rfl)).set rfl)
theorem kne_X_64 {w : mW} {j : Nat} (hj : j < 35) (hi : j ≠ 34) : kw_X_64 w j = w j := by
  unfold kw_X_64
  rw [mUp_ne (by omega), mUp_ne (by omega), mUp_ne (by omega), mUp_ne (by omega), mUp_ne (by omega), mUp_ne (by omega), mUp_ne (by omega), mUp_ne (by omega), mUp_ne (by omega), mUp_ne (by omega)]
theorem kc_X_64 {d : Nat} {w : mW} (hc0 : cloW 35 w) (h0 : w 34 = .inr (2, [.null, .null, .null, .null, .null, .int 0, .int 0])) : kC (d + 1) kX2_init [.ref 34] 35 w 5 25 40 (kw_X_64 w) := by
  refine kC.of okX2_init rfl rfl rfl ?_
  refine k_aload (pc := 0) dX2_init_0 rfl ?_
  refine k_obj (pc := 1) rfl (mTT_mem tk_279 rfl) (mTT_mem tk_110 rfl) (mTT_mem tk_111 rfl) dX2_init_1 rfl ?_
  refine k_aload (pc := 4) dX2_init_4 rfl ?_
  refine k_iconst (pc := 5) (v := 5) dX2_init_5 (by decide) ?_
  refine k_newa1 (pc := 6) (N := 5) (n1 := 36) (cs1 := 1) (sl1 := 5) rfl rfl rfl (mTT_mem tk_128 rfl) dX2_init_6 (by decide) (by decide) (by decide) (by decide) (by decide) (by decide) hc0 rfl rfl (fun w1 e1 => ?_)
  have hc1 : cloW 36 w1 := by rw [e1]; exact hc0.push rfl
  have h1 : w1 34 = .inr (2, [.null, .null, .null, .null, .null, .int 0, .int 0]) := by rw [e1]; exact (mUp_ne (by decide)).trans h0
  refine k_putF1 (pc := 8) (kf := 0) (fs1 := [.ref 35, .null, .null, .null, .null, .int 0, .int 0]) (ty := .array .int) rfl tyX2 (C := RX2) (T := TX2) (N := 7) rfl inX2 tyX2_ok nmX2 (by decide) (mTT_mem tk_280 rfl) rfl rfl rfl (by decide +kernel) (fun _ => rfl) (fun _ => rfl) dX2_init_8 (by decide) h1 (by decide) (fun w2 e2 => ?_)
  have hc2 : cloW 36 w2 := by rw [e2]; exact hc1.set rfl
  have h2 : w2 34 = .inr (2, [.ref 35, .null, .null, .null, .null, .int 0, .int 0]) := by rw [e2]; exact mUp_eq
  refine k_aload (pc := 11) dX2_init_11 rfl ?_
  refine k_iconst (pc := 12) (v := 5) dX2_init_12 (by decide) ?_
  refine k_newa1 (pc := 13) (N := 5) (n1 := 37) (cs1 := 2) (sl1 := 10) rfl rfl rfl (mTT_mem tk_128 rfl) dX2_init_13 (by decide) (by decide) (by decide) (by decide) (by decide) (by decide) hc2 rfl rfl (fun w3 e3 => ?_)
  have hc3 : cloW 37 w3 := by rw [e3]; exact hc2.push rfl
  have h3 : w3 34 = .inr (2, [.ref 35, .null, .null, .null, .null, .int 0, .int 0]) := by rw [e3]; exact (mUp_ne (by decide)).trans h2
  refine k_putF1 (pc := 15) (kf := 1) (fs1 := [.ref 35, .ref 36, .null, .null, .null, .int 0, .int 0]) (ty := .array .int) rfl tyX2 (C := RX2) (T := TX2) (N := 7) rfl inX2 tyX2_ok nmX2 (by decide) (mTT_mem tk_281 rfl) rfl rfl rfl (by decide +kernel) (fun _ => rfl) (fun _ => rfl) dX2_init_15 (by decide) h3 (by decide) (fun w4 e4 => ?_)
  have hc4 : cloW 37 w4 := by rw [e4]; exact hc3.set rfl
  have h4 : w4 34 = .inr (2, [.ref 35, .ref 36, .null, .null, .null, .int 0, .int 0]) := by rw [e4]; exact mUp_eq
  refine k_aload (pc := 18) dX2_init_18 rfl ?_
  refine k_iconst (pc := 19) (v := 5) dX2_init_19 (by decide) ?_
  refine k_newa1 (pc := 20) (N := 5) (n1 := 38) (cs1 := 3) (sl1 := 15) rfl rfl rfl (mTT_mem tk_128 rfl) dX2_init_20 (by decide) (by decide) (by decide) (by decide) (by decide) (by decide) hc4 rfl rfl (fun w5 e5 => ?_)
  have hc5 : cloW 38 w5 := by rw [e5]; exact hc4.push rfl
  have h5 : w5 34 = .inr (2, [.ref 35, .ref 36, .null, .null, .null, .int 0, .int 0]) := by rw [e5]; exact (mUp_ne (by decide)).trans h4
  refine k_putF1 (pc := 22) (kf := 2) (fs1 := [.ref 35, .ref 36, .ref 37, .null, .null, .int 0, .int 0]) (ty := .array .int) rfl tyX2 (C := RX2) (T := TX2) (N := 7) rfl inX2 tyX2_ok nmX2 (by decide) (mTT_mem tk_282 rfl) rfl rfl rfl (by decide +kernel) (fun _ => rfl) (fun _ => rfl) dX2_init_22 (by decide) h5 (by decide) (fun w6 e6 => ?_)
  have hc6 : cloW 38 w6 := by rw [e6]; exact hc5.set rfl
  have h6 : w6 34 = .inr (2, [.ref 35, .ref 36, .ref 37, .null, .null, .int 0, .int 0]) := by rw [e6]; exact mUp_eq
  refine k_aload (pc := 25) dX2_init_25 rfl ?_
  refine k_iconst (pc := 26) (v := 5) dX2_init_26 (by decide) ?_
  refine k_newa1 (pc := 27) (N := 5) (n1 := 39) (cs1 := 4) (sl1 := 20) rfl rfl rfl (mTT_mem tk_128 rfl) dX2_init_27 (by decide) (by decide) (by decide) (by decide) (by decide) (by decide) hc6 rfl rfl (fun w7 e7 => ?_)
  have hc7 : cloW 39 w7 := by rw [e7]; exact hc6.push rfl
  have h7 : w7 34 = .inr (2, [.ref 35, .ref 36, .ref 37, .null, .null, .int 0, .int 0]) := by rw [e7]; exact (mUp_ne (by decide)).trans h6
  refine k_putF1 (pc := 29) (kf := 3) (fs1 := [.ref 35, .ref 36, .ref 37, .ref 38, .null, .int 0, .int 0]) (ty := .array .int) rfl tyX2 (C := RX2) (T := TX2) (N := 7) rfl inX2 tyX2_ok nmX2 (by decide) (mTT_mem tk_284 rfl) rfl rfl rfl (by decide +kernel) (fun _ => rfl) (fun _ => rfl) dX2_init_29 (by decide) h7 (by decide) (fun w8 e8 => ?_)
  have hc8 : cloW 39 w8 := by rw [e8]; exact hc7.set rfl
  have h8 : w8 34 = .inr (2, [.ref 35, .ref 36, .ref 37, .ref 38, .null, .int 0, .int 0]) := by rw [e8]; exact mUp_eq
  refine k_aload (pc := 32) dX2_init_32 rfl ?_
  refine k_iconst (pc := 33) (v := 5) dX2_init_33 (by decide) ?_
  refine k_newa1 (pc := 34) (N := 5) (n1 := 40) (cs1 := 5) (sl1 := 25) rfl rfl rfl (mTT_mem tk_128 rfl) dX2_init_34 (by decide) (by decide) (by decide) (by decide) (by decide) (by decide) hc8 rfl rfl (fun w9 e9 => ?_)
  have hc9 : cloW 40 w9 := by rw [e9]; exact hc8.push rfl
  have h9 : w9 34 = .inr (2, [.ref 35, .ref 36, .ref 37, .ref 38, .null, .int 0, .int 0]) := by rw [e9]; exact (mUp_ne (by decide)).trans h8
  refine k_putF1 (pc := 36) (kf := 4) (fs1 := [.ref 35, .ref 36, .ref 37, .ref 38, .ref 39, .int 0, .int 0]) (ty := .array .int) rfl tyX2 (C := RX2) (T := TX2) (N := 7) rfl inX2 tyX2_ok nmX2 (by decide) (mTT_mem tk_285 rfl) rfl rfl rfl (by decide +kernel) (fun _ => rfl) (fun _ => rfl) dX2_init_36 (by decide) h9 (by decide) (fun w10 e10 => ?_)
  have hc10 : cloW 40 w10 := by rw [e10]; exact hc9.set rfl
  have h10 : w10 34 = .inr (2, [.ref 35, .ref 36, .ref 37, .ref 38, .ref 39, .int 0, .int 0]) := by rw [e10]; exact mUp_eq
  exact k_ret (pc := 39) dX2_init_39 rfl (by rw [e10, e9, e8, e7, e6, e5, e4, e3, e2, e1]; rfl) (by decide) (by decide)
def kw_X_75 (w : mW) : mW := mUp (mUp (mUp (mUp (mUp (mUp (w) 41 (.inl (8, fun _ => 0))) 40 (.inr (3, [.ref 41, .null, .null, .int 0]))) 42 (.inl (8, fun _ => 0))) 40 (.inr (3, [.ref 41, .ref 42, .null, .int 0]))) 43 (.inl (8, fun _ => 0))) 40 (.inr (3, [.ref 41, .ref 42, .ref 43, .int 0]))
theorem kcl_X_75 {w : mW} (hc : cloW 41 w) : cloW 44 (kw_X_75 w) := ((((((((((((hc).push rfl)).set rfl)).push rfl)).set rfl)).push rfl)).set rfl)
theorem kne_X_75 {w : mW} {j : Nat} (hj : j < 41) (hi : j ≠ 40) : kw_X_75 w j = w j := by
  unfold kw_X_75
  rw [mUp_ne (by omega), mUp_ne (by omega), mUp_ne (by omega), mUp_ne (by omega), mUp_ne (by omega), mUp_ne (by omega)]
theorem kc_X_75 {d : Nat} {w : mW} (hc0 : cloW 41 w) (h0 : w 40 = .inr (3, [.null, .null, .null, .int 0])) : kC (d + 1) kX3_init [.ref 40] 41 w 3 24 44 (kw_X_75 w) := by
  refine kC.of okX3_init rfl rfl rfl ?_
  refine k_aload (pc := 0) dX3_init_0 rfl ?_
  refine k_obj (pc := 1) rfl (mTT_mem tk_309 rfl) (mTT_mem tk_110 rfl) (mTT_mem tk_111 rfl) dX3_init_1 rfl ?_
  refine k_aload (pc := 4) dX3_init_4 rfl ?_
  refine k_bipush (pc := 5) (v := 8) dX3_init_5 (by decide) ?_
  refine k_newa1 (pc := 7) (N := 8) (n1 := 42) (cs1 := 1) (sl1 := 8) rfl rfl rfl (mTT_mem tk_128 rfl) dX3_init_7 (by decide) (by decide) (by decide) (by decide) (by decide) (by decide) hc0 rfl rfl (fun w1 e1 => ?_)
  have hc1 : cloW 42 w1 := by rw [e1]; exact hc0.push rfl
  have h1 : w1 40 = .inr (3, [.null, .null, .null, .int 0]) := by rw [e1]; exact (mUp_ne (by decide)).trans h0
  refine k_putF1 (pc := 9) (kf := 0) (fs1 := [.ref 41, .null, .null, .int 0]) (ty := .array .int) rfl tyX3 (C := RX3) (T := TX3) (N := 4) rfl inX3 tyX3_ok nmX3 (by decide) (mTT_mem tk_310 rfl) rfl rfl rfl (by decide +kernel) (fun _ => rfl) (fun _ => rfl) dX3_init_9 (by decide) h1 (by decide) (fun w2 e2 => ?_)
  have hc2 : cloW 42 w2 := by rw [e2]; exact hc1.set rfl
  have h2 : w2 40 = .inr (3, [.ref 41, .null, .null, .int 0]) := by rw [e2]; exact mUp_eq
  refine k_aload (pc := 12) dX3_init_12 rfl ?_
  refine k_bipush (pc := 13) (v := 8) dX3_init_13 (by decide) ?_
  refine k_newa1 (pc := 15) (N := 8) (n1 := 43) (cs1 := 2) (sl1 := 16) rfl rfl rfl (mTT_mem tk_128 rfl) dX3_init_15 (by decide) (by decide) (by decide) (by decide) (by decide) (by decide) hc2 rfl rfl (fun w3 e3 => ?_)
  have hc3 : cloW 43 w3 := by rw [e3]; exact hc2.push rfl
  have h3 : w3 40 = .inr (3, [.ref 41, .null, .null, .int 0]) := by rw [e3]; exact (mUp_ne (by decide)).trans h2
  refine k_putF1 (pc := 17) (kf := 1) (fs1 := [.ref 41, .ref 42, .null, .int 0]) (ty := .array .int) rfl tyX3 (C := RX3) (T := TX3) (N := 4) rfl inX3 tyX3_ok nmX3 (by decide) (mTT_mem tk_311 rfl) rfl rfl rfl (by decide +kernel) (fun _ => rfl) (fun _ => rfl) dX3_init_17 (by decide) h3 (by decide) (fun w4 e4 => ?_)
  have hc4 : cloW 43 w4 := by rw [e4]; exact hc3.set rfl
  have h4 : w4 40 = .inr (3, [.ref 41, .ref 42, .null, .int 0]) := by rw [e4]; exact mUp_eq
  refine k_aload (pc := 20) dX3_init_20 rfl ?_
  refine k_bipush (pc := 21) (v := 8) dX3_init_21 (by decide) ?_
  refine k_newa1 (pc := 23) (N := 8) (n1 := 44) (cs1 := 3) (sl1 := 24) rfl rfl rfl (mTT_mem tk_128 rfl) dX3_init_23 (by decide) (by decide) (by decide) (by decide) (by decide) (by decide) hc4 rfl rfl (fun w5 e5 => ?_)
  have hc5 : cloW 44 w5 := by rw [e5]; exact hc4.push rfl
  have h5 : w5 40 = .inr (3, [.ref 41, .ref 42, .null, .int 0]) := by rw [e5]; exact (mUp_ne (by decide)).trans h4
  refine k_putF1 (pc := 25) (kf := 2) (fs1 := [.ref 41, .ref 42, .ref 43, .int 0]) (ty := .array .int) rfl tyX3 (C := RX3) (T := TX3) (N := 4) rfl inX3 tyX3_ok nmX3 (by decide) (mTT_mem tk_312 rfl) rfl rfl rfl (by decide +kernel) (fun _ => rfl) (fun _ => rfl) dX3_init_25 (by decide) h5 (by decide) (fun w6 e6 => ?_)
  have hc6 : cloW 44 w6 := by rw [e6]; exact hc5.set rfl
  have h6 : w6 40 = .inr (3, [.ref 41, .ref 42, .ref 43, .int 0]) := by rw [e6]; exact mUp_eq
  exact k_ret (pc := 28) dX3_init_28 rfl (by rw [e6, e5, e4, e3, e2, e1]; rfl) (by decide) (by decide)
def kw_X (w : mW) : mW := mUp (mUp (mUp (kw_X_75 (mUp (mUp (kw_X_64 (mUp (mUp (kw_X_53 (mUp (mUp (kw_X_42 (mUp (mUp (kw_X_31 (mUp (mUp (kw_X_20 (mUp (mUp (kw_X_9 (mUp (w) 1 (.inr (5, [.null, .null, .null])))) 0 (.inr (7, [.ref 1, .null, .null, .null, .null, .null, .null, .int 0, .int 0]))) 5 (.inr (6, [.null, .int 0, .int 0, .int 0])))) 0 (.inr (7, [.ref 1, .ref 5, .null, .null, .null, .null, .null, .int 0, .int 0]))) 7 (.inr (0, [.int 0, .int 0, .int 0, .null, .null, .null, .null, .null, .null, .null, .null, .null])))) 0 (.inr (7, [.ref 1, .ref 5, .ref 7, .null, .null, .null, .null, .int 0, .int 0]))) 17 (.inr (4, [.null, .null, .null, .int 0, .int 0, .int 0])))) 0 (.inr (7, [.ref 1, .ref 5, .ref 7, .ref 17, .null, .null, .null, .int 0, .int 0]))) 30 (.inr (1, [.null, .null, .null, .int 0, .int 0])))) 0 (.inr (7, [.ref 1, .ref 5, .ref 7, .ref 17, .ref 30, .null, .null, .int 0, .int 0]))) 34 (.inr (2, [.null, .null, .null, .null, .null, .int 0, .int 0])))) 0 (.inr (7, [.ref 1, .ref 5, .ref 7, .ref 17, .ref 30, .ref 34, .null, .int 0, .int 0]))) 40 (.inr (3, [.null, .null, .null, .int 0])))) 0 (.inr (7, [.ref 1, .ref 5, .ref 7, .ref 17, .ref 30, .ref 34, .ref 40, .int 0, .int 0]))) 0 (.inr (7, [.ref 1, .ref 5, .ref 7, .ref 17, .ref 30, .ref 34, .ref 40, .int 0, .int 0]))) 0 (.inr (7, [.ref 1, .ref 5, .ref 7, .ref 17, .ref 30, .ref 34, .ref 40, .int 0, .int 0]))
theorem kcl_X {w : mW} (hc : cloW 1 w) : cloW 44 (kw_X w) := (((((((kcl_X_75 (((((kcl_X_64 (((((kcl_X_53 (((((kcl_X_42 (((((kcl_X_31 (((((kcl_X_20 (((((kcl_X_9 ((hc).push rfl))).set rfl)).push rfl))).set rfl)).push rfl))).set rfl)).push rfl))).set rfl)).push rfl))).set rfl)).push rfl))).set rfl)).push rfl))).set rfl)).set rfl)).set rfl)
theorem kne_X {w : mW} {j : Nat} (hj : j < 1) (hi : j ≠ 0) : kw_X w j = w j := by
  unfold kw_X
  rw [mUp_ne (by omega), mUp_ne (by omega), mUp_ne (by omega), kne_X_75 (by omega) (by omega), mUp_ne (by omega), mUp_ne (by omega), kne_X_64 (by omega) (by omega), mUp_ne (by omega), mUp_ne (by omega), kne_X_53 (by omega) (by omega), mUp_ne (by omega), mUp_ne (by omega), kne_X_42 (by omega) (by omega), mUp_ne (by omega), mUp_ne (by omega), kne_X_31 (by omega) (by omega), mUp_ne (by omega), mUp_ne (by omega), kne_X_20 (by omega) (by omega), mUp_ne (by omega), mUp_ne (by omega), kne_X_9 (by omega) (by omega), mUp_ne (by omega)]
theorem kc_X {d : Nat} {w : mW} (hc0 : cloW 1 w) (h0 : w 0 = .inr (7, [.null, .null, .null, .null, .null, .null, .null, .int 0, .int 0])) : kC (d + 3) kX7_init [.ref 0] 1 w 43 555 44 (kw_X w) := by
  refine kC.of okX7_init rfl rfl rfl ?_
  refine k_aload (pc := 0) dX7_init_0 rfl ?_
  refine k_obj (pc := 1) rfl (mTT_mem tk_109 rfl) (mTT_mem tk_110 rfl) (mTT_mem tk_111 rfl) dX7_init_1 rfl ?_
  refine k_aload (pc := 4) dX7_init_4 rfl ?_
  refine k_new1 (pc := 5) (ci := 5) (fs := [.null, .null, .null]) (n1 := 2) (cs1 := 1) (sl1 := 3) rfl rfl rfl tyX5 (mTT_mem tk_112 rfl) (mTT_mem tk_113 rfl) (mTT_mem tk_93 rfl) inX5 tyX5_ok rfl (by decide +kernel) (fun _ => rfl) dX7_init_5 (by decide) (by decide) (by decide) hc0 rfl rfl (fun w1 e1 => ?_)
  have hc1 : cloW 2 w1 := by rw [e1]; exact hc0.push rfl
  have h1 : w1 0 = .inr (7, [.null, .null, .null, .null, .null, .null, .null, .int 0, .int 0]) := by rw [e1]; exact (mUp_ne (by decide)).trans h0
  have hn1 : w1 1 = .inr (5, [.null, .null, .null]) := by rw [e1]; exact mUp_eq
  refine k_dup (pc := 8) dX7_init_8 rfl ?_
  refine k_init1 (pc := 9) (mc := 3) (ms := 248) (cs1 := 4) (sl1 := 251) rfl rfl (M2 := kX5_init) okX5_init rfl rfl (by decide +kernel) tk_114 (mTT_mem tk_115 rfl) dX7_init_9 (Nat.le_of_ble_eq_true rfl) (by decide) (by decide) hc1 rfl rfl (by decide) (kc_X_9 hc1 hn1) (fun w2 e2 => ?_)
  have hc2 : cloW 5 w2 := by rw [e2]; exact kcl_X_9 hc1
  have h2 : w2 0 = .inr (7, [.null, .null, .null, .null, .null, .null, .null, .int 0, .int 0]) := by rw [e2]; exact (kne_X_9 (by decide) (by decide)).trans h1
  refine k_putF1 (pc := 12) (kf := 0) (fs1 := [.ref 1, .null, .null, .null, .null, .null, .null, .int 0, .int 0]) (ty := .object "BarrowNights$Sheets") rfl tyX7 (C := RX7) (T := TX7) (N := 9) rfl inX7 tyX7_ok nmX7 (by decide) (mTT_mem tk_324 rfl) rfl rfl rfl (by decide +kernel) (fun _ => rfl) (fun _ => rfl) dX7_init_12 (by decide) h2 (by decide) (fun w3 e3 => ?_)
  have hc3 : cloW 5 w3 := by rw [e3]; exact hc2.set rfl
  have h3 : w3 0 = .inr (7, [.ref 1, .null, .null, .null, .null, .null, .null, .int 0, .int 0]) := by rw [e3]; exact mUp_eq
  refine k_aload (pc := 15) dX7_init_15 rfl ?_
  refine k_new1 (pc := 16) (ci := 6) (fs := [.null, .int 0, .int 0, .int 0]) (n1 := 6) (cs1 := 5) (sl1 := 255) rfl rfl rfl tyX6 (mTT_mem tk_129 rfl) (mTT_mem tk_130 rfl) (mTT_mem tk_94 rfl) inX6 tyX6_ok rfl (by decide +kernel) (fun _ => rfl) dX7_init_16 (by decide) (by decide) (by decide) hc3 rfl rfl (fun w4 e4 => ?_)
  have hc4 : cloW 6 w4 := by rw [e4]; exact hc3.push rfl
  have h4 : w4 0 = .inr (7, [.ref 1, .null, .null, .null, .null, .null, .null, .int 0, .int 0]) := by rw [e4]; exact (mUp_ne (by decide)).trans h3
  have hn4 : w4 5 = .inr (6, [.null, .int 0, .int 0, .int 0]) := by rw [e4]; exact mUp_eq
  refine k_dup (pc := 19) dX7_init_19 rfl ?_
  refine k_init1 (pc := 20) (mc := 1) (ms := 60) (cs1 := 6) (sl1 := 315) rfl rfl (M2 := kX6_init) okX6_init rfl rfl (by decide +kernel) tk_131 (mTT_mem tk_132 rfl) dX7_init_20 (Nat.le_of_ble_eq_true rfl) (by decide) (by decide) hc4 rfl rfl (by decide) (kc_X_20 hc4 hn4) (fun w5 e5 => ?_)
  have hc5 : cloW 7 w5 := by rw [e5]; exact kcl_X_20 hc4
  have h5 : w5 0 = .inr (7, [.ref 1, .null, .null, .null, .null, .null, .null, .int 0, .int 0]) := by rw [e5]; exact (kne_X_20 (by decide) (by decide)).trans h4
  refine k_putF1 (pc := 23) (kf := 1) (fs1 := [.ref 1, .ref 5, .null, .null, .null, .null, .null, .int 0, .int 0]) (ty := .object "BarrowNights$Text") rfl tyX7 (C := RX7) (T := TX7) (N := 9) rfl inX7 tyX7_ok nmX7 (by decide) (mTT_mem tk_325 rfl) rfl rfl rfl (by decide +kernel) (fun _ => rfl) (fun _ => rfl) dX7_init_23 (by decide) h5 (by decide) (fun w6 e6 => ?_)
  have hc6 : cloW 7 w6 := by rw [e6]; exact hc5.set rfl
  have h6 : w6 0 = .inr (7, [.ref 1, .ref 5, .null, .null, .null, .null, .null, .int 0, .int 0]) := by rw [e6]; exact mUp_eq
  refine k_aload (pc := 26) dX7_init_26 rfl ?_
  refine k_new1 (pc := 27) (ci := 0) (fs := [.int 0, .int 0, .int 0, .null, .null, .null, .null, .null, .null, .null, .null, .null]) (n1 := 8) (cs1 := 7) (sl1 := 327) rfl rfl rfl tyX0 (mTT_mem tk_148 rfl) (mTT_mem tk_149 rfl) (mTT_mem tk_95 rfl) inX0 tyX0_ok rfl (by decide +kernel) (fun _ => rfl) dX7_init_27 (by decide) (by decide) (by decide) hc6 rfl rfl (fun w7 e7 => ?_)
  have hc7 : cloW 8 w7 := by rw [e7]; exact hc6.push rfl
  have h7 : w7 0 = .inr (7, [.ref 1, .ref 5, .null, .null, .null, .null, .null, .int 0, .int 0]) := by rw [e7]; exact (mUp_ne (by decide)).trans h6
  have hn7 : w7 7 = .inr (0, [.int 0, .int 0, .int 0, .null, .null, .null, .null, .null, .null, .null, .null, .null]) := by rw [e7]; exact mUp_eq
  refine k_dup (pc := 30) dX7_init_30 rfl ?_
  refine k_init1 (pc := 31) (mc := 9) (ms := 45) (cs1 := 16) (sl1 := 372) rfl rfl (M2 := kX0_init) okX0_init rfl rfl (by decide +kernel) tk_150 (mTT_mem tk_151 rfl) dX7_init_31 (Nat.le_of_ble_eq_true rfl) (by decide) (by decide) hc7 rfl rfl (by decide) (kc_X_31 hc7 hn7) (fun w8 e8 => ?_)
  have hc8 : cloW 17 w8 := by rw [e8]; exact kcl_X_31 hc7
  have h8 : w8 0 = .inr (7, [.ref 1, .ref 5, .null, .null, .null, .null, .null, .int 0, .int 0]) := by rw [e8]; exact (kne_X_31 (by decide) (by decide)).trans h7
  refine k_putF1 (pc := 34) (kf := 2) (fs1 := [.ref 1, .ref 5, .ref 7, .null, .null, .null, .null, .int 0, .int 0]) (ty := .object "BarrowNights$Down") rfl tyX7 (C := RX7) (T := TX7) (N := 9) rfl inX7 tyX7_ok nmX7 (by decide) (mTT_mem tk_326 rfl) rfl rfl rfl (by decide +kernel) (fun _ => rfl) (fun _ => rfl) dX7_init_34 (by decide) h8 (by decide) (fun w9 e9 => ?_)
  have hc9 : cloW 17 w9 := by rw [e9]; exact hc8.set rfl
  have h9 : w9 0 = .inr (7, [.ref 1, .ref 5, .ref 7, .null, .null, .null, .null, .int 0, .int 0]) := by rw [e9]; exact mUp_eq
  refine k_aload (pc := 37) dX7_init_37 rfl ?_
  refine k_new1 (pc := 38) (ci := 4) (fs := [.null, .null, .null, .int 0, .int 0, .int 0]) (n1 := 18) (cs1 := 17) (sl1 := 378) rfl rfl rfl tyX4 (mTT_mem tk_222 rfl) (mTT_mem tk_223 rfl) (mTT_mem tk_96 rfl) inX4 tyX4_ok rfl (by decide +kernel) (fun _ => rfl) dX7_init_38 (by decide) (by decide) (by decide) hc9 rfl rfl (fun w10 e10 => ?_)
  have hc10 : cloW 18 w10 := by rw [e10]; exact hc9.push rfl
  have h10 : w10 0 = .inr (7, [.ref 1, .ref 5, .ref 7, .null, .null, .null, .null, .int 0, .int 0]) := by rw [e10]; exact (mUp_ne (by decide)).trans h9
  have hn10 : w10 17 = .inr (4, [.null, .null, .null, .int 0, .int 0, .int 0]) := by rw [e10]; exact mUp_eq
  refine k_dup (pc := 41) dX7_init_41 rfl ?_
  refine k_init1 (pc := 42) (mc := 12) (ms := 97) (cs1 := 29) (sl1 := 475) rfl rfl (M2 := kX4_init) okX4_init rfl rfl (by decide +kernel) tk_224 (mTT_mem tk_225 rfl) dX7_init_42 (Nat.le_of_ble_eq_true rfl) (by decide) (by decide) hc10 rfl rfl (by decide) (kc_X_42 hc10 hn10) (fun w11 e11 => ?_)
  have hc11 : cloW 30 w11 := by rw [e11]; exact kcl_X_42 hc10
  have h11 : w11 0 = .inr (7, [.ref 1, .ref 5, .ref 7, .null, .null, .null, .null, .int 0, .int 0]) := by rw [e11]; exact (kne_X_42 (by decide) (by decide)).trans h10
  refine k_putF1 (pc := 45) (kf := 3) (fs1 := [.ref 1, .ref 5, .ref 7, .ref 17, .null, .null, .null, .int 0, .int 0]) (ty := .object "BarrowNights$Season") rfl tyX7 (C := RX7) (T := TX7) (N := 9) rfl inX7 tyX7_ok nmX7 (by decide) (mTT_mem tk_327 rfl) rfl rfl rfl (by decide +kernel) (fun _ => rfl) (fun _ => rfl) dX7_init_45 (by decide) h11 (by decide) (fun w12 e12 => ?_)
  have hc12 : cloW 30 w12 := by rw [e12]; exact hc11.set rfl
  have h12 : w12 0 = .inr (7, [.ref 1, .ref 5, .ref 7, .ref 17, .null, .null, .null, .int 0, .int 0]) := by rw [e12]; exact mUp_eq
  refine k_aload (pc := 48) dX7_init_48 rfl ?_
  refine k_new1 (pc := 49) (ci := 1) (fs := [.null, .null, .null, .int 0, .int 0]) (n1 := 31) (cs1 := 30) (sl1 := 480) rfl rfl rfl tyX1 (mTT_mem tk_249 rfl) (mTT_mem tk_250 rfl) (mTT_mem tk_97 rfl) inX1 tyX1_ok rfl (by decide +kernel) (fun _ => rfl) dX7_init_49 (by decide) (by decide) (by decide) hc12 rfl rfl (fun w13 e13 => ?_)
  have hc13 : cloW 31 w13 := by rw [e13]; exact hc12.push rfl
  have h13 : w13 0 = .inr (7, [.ref 1, .ref 5, .ref 7, .ref 17, .null, .null, .null, .int 0, .int 0]) := by rw [e13]; exact (mUp_ne (by decide)).trans h12
  have hn13 : w13 30 = .inr (1, [.null, .null, .null, .int 0, .int 0]) := by rw [e13]; exact mUp_eq
  refine k_dup (pc := 52) dX7_init_52 rfl ?_
  refine k_init1 (pc := 53) (mc := 3) (ms := 15) (cs1 := 33) (sl1 := 495) rfl rfl (M2 := kX1_init) okX1_init rfl rfl (by decide +kernel) tk_251 (mTT_mem tk_252 rfl) dX7_init_53 (Nat.le_of_ble_eq_true rfl) (by decide) (by decide) hc13 rfl rfl (by decide) (kc_X_53 hc13 hn13) (fun w14 e14 => ?_)
  have hc14 : cloW 34 w14 := by rw [e14]; exact kcl_X_53 hc13
  have h14 : w14 0 = .inr (7, [.ref 1, .ref 5, .ref 7, .ref 17, .null, .null, .null, .int 0, .int 0]) := by rw [e14]; exact (kne_X_53 (by decide) (by decide)).trans h13
  refine k_putF1 (pc := 56) (kf := 4) (fs1 := [.ref 1, .ref 5, .ref 7, .ref 17, .ref 30, .null, .null, .int 0, .int 0]) (ty := .object "BarrowNights$Housing") rfl tyX7 (C := RX7) (T := TX7) (N := 9) rfl inX7 tyX7_ok nmX7 (by decide) (mTT_mem tk_328 rfl) rfl rfl rfl (by decide +kernel) (fun _ => rfl) (fun _ => rfl) dX7_init_56 (by decide) h14 (by decide) (fun w15 e15 => ?_)
  have hc15 : cloW 34 w15 := by rw [e15]; exact hc14.set rfl
  have h15 : w15 0 = .inr (7, [.ref 1, .ref 5, .ref 7, .ref 17, .ref 30, .null, .null, .int 0, .int 0]) := by rw [e15]; exact mUp_eq
  refine k_aload (pc := 59) dX7_init_59 rfl ?_
  refine k_new1 (pc := 60) (ci := 2) (fs := [.null, .null, .null, .null, .null, .int 0, .int 0]) (n1 := 35) (cs1 := 34) (sl1 := 502) rfl rfl rfl tyX2 (mTT_mem tk_274 rfl) (mTT_mem tk_275 rfl) (mTT_mem tk_98 rfl) inX2 tyX2_ok rfl (by decide +kernel) (fun _ => rfl) dX7_init_60 (by decide) (by decide) (by decide) hc15 rfl rfl (fun w16 e16 => ?_)
  have hc16 : cloW 35 w16 := by rw [e16]; exact hc15.push rfl
  have h16 : w16 0 = .inr (7, [.ref 1, .ref 5, .ref 7, .ref 17, .ref 30, .null, .null, .int 0, .int 0]) := by rw [e16]; exact (mUp_ne (by decide)).trans h15
  have hn16 : w16 34 = .inr (2, [.null, .null, .null, .null, .null, .int 0, .int 0]) := by rw [e16]; exact mUp_eq
  refine k_dup (pc := 63) dX7_init_63 rfl ?_
  refine k_init1 (pc := 64) (mc := 5) (ms := 25) (cs1 := 39) (sl1 := 527) rfl rfl (M2 := kX2_init) okX2_init rfl rfl (by decide +kernel) tk_276 (mTT_mem tk_277 rfl) dX7_init_64 (Nat.le_of_ble_eq_true rfl) (by decide) (by decide) hc16 rfl rfl (by decide) (kc_X_64 hc16 hn16) (fun w17 e17 => ?_)
  have hc17 : cloW 40 w17 := by rw [e17]; exact kcl_X_64 hc16
  have h17 : w17 0 = .inr (7, [.ref 1, .ref 5, .ref 7, .ref 17, .ref 30, .null, .null, .int 0, .int 0]) := by rw [e17]; exact (kne_X_64 (by decide) (by decide)).trans h16
  refine k_putF1 (pc := 67) (kf := 5) (fs1 := [.ref 1, .ref 5, .ref 7, .ref 17, .ref 30, .ref 34, .null, .int 0, .int 0]) (ty := .object "BarrowNights$Lying") rfl tyX7 (C := RX7) (T := TX7) (N := 9) rfl inX7 tyX7_ok nmX7 (by decide) (mTT_mem tk_329 rfl) rfl rfl rfl (by decide +kernel) (fun _ => rfl) (fun _ => rfl) dX7_init_67 (by decide) h17 (by decide) (fun w18 e18 => ?_)
  have hc18 : cloW 40 w18 := by rw [e18]; exact hc17.set rfl
  have h18 : w18 0 = .inr (7, [.ref 1, .ref 5, .ref 7, .ref 17, .ref 30, .ref 34, .null, .int 0, .int 0]) := by rw [e18]; exact mUp_eq
  refine k_aload (pc := 70) dX7_init_70 rfl ?_
  refine k_new1 (pc := 71) (ci := 3) (fs := [.null, .null, .null, .int 0]) (n1 := 41) (cs1 := 40) (sl1 := 531) rfl rfl rfl tyX3 (mTT_mem tk_304 rfl) (mTT_mem tk_305 rfl) (mTT_mem tk_99 rfl) inX3 tyX3_ok rfl (by decide +kernel) (fun _ => rfl) dX7_init_71 (by decide) (by decide) (by decide) hc18 rfl rfl (fun w19 e19 => ?_)
  have hc19 : cloW 41 w19 := by rw [e19]; exact hc18.push rfl
  have h19 : w19 0 = .inr (7, [.ref 1, .ref 5, .ref 7, .ref 17, .ref 30, .ref 34, .null, .int 0, .int 0]) := by rw [e19]; exact (mUp_ne (by decide)).trans h18
  have hn19 : w19 40 = .inr (3, [.null, .null, .null, .int 0]) := by rw [e19]; exact mUp_eq
  refine k_dup (pc := 74) dX7_init_74 rfl ?_
  refine k_init1 (pc := 75) (mc := 3) (ms := 24) (cs1 := 43) (sl1 := 555) rfl rfl (M2 := kX3_init) okX3_init rfl rfl (by decide +kernel) tk_306 (mTT_mem tk_307 rfl) dX7_init_75 (Nat.le_of_ble_eq_true rfl) (by decide) (by decide) hc19 rfl rfl (by decide) (kc_X_75 hc19 hn19) (fun w20 e20 => ?_)
  have hc20 : cloW 44 w20 := by rw [e20]; exact kcl_X_75 hc19
  have h20 : w20 0 = .inr (7, [.ref 1, .ref 5, .ref 7, .ref 17, .ref 30, .ref 34, .null, .int 0, .int 0]) := by rw [e20]; exact (kne_X_75 (by decide) (by decide)).trans h19
  refine k_putF1 (pc := 78) (kf := 6) (fs1 := [.ref 1, .ref 5, .ref 7, .ref 17, .ref 30, .ref 34, .ref 40, .int 0, .int 0]) (ty := .object "BarrowNights$Readings") rfl tyX7 (C := RX7) (T := TX7) (N := 9) rfl inX7 tyX7_ok nmX7 (by decide) (mTT_mem tk_330 rfl) rfl rfl rfl (by decide +kernel) (fun _ => rfl) (fun _ => rfl) dX7_init_78 (by decide) h20 (by decide) (fun w21 e21 => ?_)
  have hc21 : cloW 44 w21 := by rw [e21]; exact hc20.set rfl
  have h21 : w21 0 = .inr (7, [.ref 1, .ref 5, .ref 7, .ref 17, .ref 30, .ref 34, .ref 40, .int 0, .int 0]) := by rw [e21]; exact mUp_eq
  refine k_aload (pc := 81) dX7_init_81 rfl ?_
  refine k_iconst (pc := 82) (v := 0) dX7_init_82 (by decide) ?_
  refine k_putI1 (pc := 83) (kf := 7) (fs1 := [.ref 1, .ref 5, .ref 7, .ref 17, .ref 30, .ref 34, .ref 40, .int 0, .int 0]) rfl tyX7 (C := RX7) (T := TX7) (N := 9) rfl inX7 tyX7_ok nmX7 (by decide) (mTT_mem tk_331 rfl) rfl rfl (by decide +kernel) dX7_init_83 (by decide) h21 (by decide) (fun w22 e22 => ?_)
  have hc22 : cloW 44 w22 := by rw [e22]; exact hc21.set rfl
  have h22 : w22 0 = .inr (7, [.ref 1, .ref 5, .ref 7, .ref 17, .ref 30, .ref 34, .ref 40, .int 0, .int 0]) := by rw [e22]; exact mUp_eq
  refine k_aload (pc := 86) dX7_init_86 rfl ?_
  refine k_iconst (pc := 87) (v := 0) dX7_init_87 (by decide) ?_
  refine k_putI1 (pc := 88) (kf := 8) (fs1 := [.ref 1, .ref 5, .ref 7, .ref 17, .ref 30, .ref 34, .ref 40, .int 0, .int 0]) rfl tyX7 (C := RX7) (T := TX7) (N := 9) rfl inX7 tyX7_ok nmX7 (by decide) (mTT_mem tk_332 rfl) rfl rfl (by decide +kernel) dX7_init_88 (by decide) h22 (by decide) (fun w23 e23 => ?_)
  have hc23 : cloW 44 w23 := by rw [e23]; exact hc22.set rfl
  have h23 : w23 0 = .inr (7, [.ref 1, .ref 5, .ref 7, .ref 17, .ref 30, .ref 34, .ref 40, .int 0, .int 0]) := by rw [e23]; exact mUp_eq
  exact k_ret (pc := 91) dX7_init_91 rfl (by rw [e23, e22, e21, e20, e19, e18, e17, e16, e15, e14, e13, e12, e11, e10, e9, e8, e7, e6, e5, e4, e3, e2, e1]; rfl) (by decide) (by decide)
def kw_M (w : mW) : mW := mUp (mUp (mUp (mUp (mUp (mUp (mUp (mUp (mUp (mUp (mUp (mUp (mUp (mUp (mUp (mUp (mUp (mUp (mUp (mUp (mUp (mUp (mUp (mUp (mUp (mUp (mUp (mUp (mUp (mUp (mUp (mUp (mUp (mUp (mUp (mUp (mUp (mUp (mUp (mUp (mUp (mUp (mUp (mUp (mUp (mUp (mUp (mUp (mUp (mUp (mUp (mUp (w) 45 (.inl (4, fun _ => 0))) 45 (.inl (4, upd (fun _ => 0) 0 (-9)))) 45 (.inl (4, upd (upd (fun _ => 0) 0 (-9)) 1 (-9)))) 45 (.inl (4, upd (upd (upd (fun _ => 0) 0 (-9)) 1 (-9)) 2 (-9)))) 45 (.inl (4, upd (upd (upd (upd (fun _ => 0) 0 (-9)) 1 (-9)) 2 (-9)) 3 (-9)))) 44 (.inr (8, [.int 0, .int 0, .ref 45, .null, .null, .int 0, .int 0, .int 0, .null, .null, .null, .null, .null, .null, .null, .null, .null, .int 0, .int 0, .int 0, .null, .null, .null, .null, .null, .null, .int 0, .null, .null, .int 0, .int 0, .null, .int 0, .null, .null, .null]))) 46 (.inl (4, fun _ => 0))) 44 (.inr (8, [.int 0, .int 0, .ref 45, .ref 46, .null, .int 0, .int 0, .int 0, .null, .null, .null, .null, .null, .null, .null, .null, .null, .int 0, .int 0, .int 0, .null, .null, .null, .null, .null, .null, .int 0, .null, .null, .int 0, .int 0, .null, .int 0, .null, .null, .null]))) 47 (.inl (240, fun _ => 0))) 44 (.inr (8, [.int 0, .int 0, .ref 45, .ref 46, .ref 47, .int 0, .int 0, .int 0, .null, .null, .null, .null, .null, .null, .null, .null, .null, .int 0, .int 0, .int 0, .null, .null, .null, .null, .null, .null, .int 0, .null, .null, .int 0, .int 0, .null, .int 0, .null, .null, .null]))) 48 (.inl (5, fun _ => 0))) 44 (.inr (8, [.int 0, .int 0, .ref 45, .ref 46, .ref 47, .int 0, .int 0, .int 0, .ref 48, .null, .null, .null, .null, .null, .null, .null, .null, .int 0, .int 0, .int 0, .null, .null, .null, .null, .null, .null, .int 0, .null, .null, .int 0, .int 0, .null, .int 0, .null, .null, .null]))) 49 (.inl (5, fun _ => 0))) 44 (.inr (8, [.int 0, .int 0, .ref 45, .ref 46, .ref 47, .int 0, .int 0, .int 0, .ref 48, .ref 49, .null, .null, .null, .null, .null, .null, .null, .int 0, .int 0, .int 0, .null, .null, .null, .null, .null, .null, .int 0, .null, .null, .int 0, .int 0, .null, .int 0, .null, .null, .null]))) 50 (.inl (5, fun _ => 0))) 44 (.inr (8, [.int 0, .int 0, .ref 45, .ref 46, .ref 47, .int 0, .int 0, .int 0, .ref 48, .ref 49, .ref 50, .null, .null, .null, .null, .null, .null, .int 0, .int 0, .int 0, .null, .null, .null, .null, .null, .null, .int 0, .null, .null, .int 0, .int 0, .null, .int 0, .null, .null, .null]))) 51 (.inl (5, fun _ => 0))) 44 (.inr (8, [.int 0, .int 0, .ref 45, .ref 46, .ref 47, .int 0, .int 0, .int 0, .ref 48, .ref 49, .ref 50, .ref 51, .null, .null, .null, .null, .null, .int 0, .int 0, .int 0, .null, .null, .null, .null, .null, .null, .int 0, .null, .null, .int 0, .int 0, .null, .int 0, .null, .null, .null]))) 52 (.inl (5, fun _ => 0))) 44 (.inr (8, [.int 0, .int 0, .ref 45, .ref 46, .ref 47, .int 0, .int 0, .int 0, .ref 48, .ref 49, .ref 50, .ref 51, .ref 52, .null, .null, .null, .null, .int 0, .int 0, .int 0, .null, .null, .null, .null, .null, .null, .int 0, .null, .null, .int 0, .int 0, .null, .int 0, .null, .null, .null]))) 53 (.inl (5, fun _ => 0))) 44 (.inr (8, [.int 0, .int 0, .ref 45, .ref 46, .ref 47, .int 0, .int 0, .int 0, .ref 48, .ref 49, .ref 50, .ref 51, .ref 52, .ref 53, .null, .null, .null, .int 0, .int 0, .int 0, .null, .null, .null, .null, .null, .null, .int 0, .null, .null, .int 0, .int 0, .null, .int 0, .null, .null, .null]))) 54 (.inl (5, fun _ => 0))) 44 (.inr (8, [.int 0, .int 0, .ref 45, .ref 46, .ref 47, .int 0, .int 0, .int 0, .ref 48, .ref 49, .ref 50, .ref 51, .ref 52, .ref 53, .ref 54, .null, .null, .int 0, .int 0, .int 0, .null, .null, .null, .null, .null, .null, .int 0, .null, .null, .int 0, .int 0, .null, .int 0, .null, .null, .null]))) 55 (.inl (5, fun _ => 0))) 44 (.inr (8, [.int 0, .int 0, .ref 45, .ref 46, .ref 47, .int 0, .int 0, .int 0, .ref 48, .ref 49, .ref 50, .ref 51, .ref 52, .ref 53, .ref 54, .ref 55, .null, .int 0, .int 0, .int 0, .null, .null, .null, .null, .null, .null, .int 0, .null, .null, .int 0, .int 0, .null, .int 0, .null, .null, .null]))) 56 (.inl (5, fun _ => 0))) 44 (.inr (8, [.int 0, .int 0, .ref 45, .ref 46, .ref 47, .int 0, .int 0, .int 0, .ref 48, .ref 49, .ref 50, .ref 51, .ref 52, .ref 53, .ref 54, .ref 55, .ref 56, .int 0, .int 0, .int 0, .null, .null, .null, .null, .null, .null, .int 0, .null, .null, .int 0, .int 0, .null, .int 0, .null, .null, .null]))) 57 (.inl (20, fun _ => 0))) 44 (.inr (8, [.int 0, .int 0, .ref 45, .ref 46, .ref 47, .int 0, .int 0, .int 0, .ref 48, .ref 49, .ref 50, .ref 51, .ref 52, .ref 53, .ref 54, .ref 55, .ref 56, .int 0, .int 0, .int 0, .ref 57, .null, .null, .null, .null, .null, .int 0, .null, .null, .int 0, .int 0, .null, .int 0, .null, .null, .null]))) 58 (.inl (15, fun _ => 0))) 44 (.inr (8, [.int 0, .int 0, .ref 45, .ref 46, .ref 47, .int 0, .int 0, .int 0, .ref 48, .ref 49, .ref 50, .ref 51, .ref 52, .ref 53, .ref 54, .ref 55, .ref 56, .int 0, .int 0, .int 0, .ref 57, .ref 58, .null, .null, .null, .null, .int 0, .null, .null, .int 0, .int 0, .null, .int 0, .null, .null, .null]))) 59 (.inl (5, fun _ => 0))) 44 (.inr (8, [.int 0, .int 0, .ref 45, .ref 46, .ref 47, .int 0, .int 0, .int 0, .ref 48, .ref 49, .ref 50, .ref 51, .ref 52, .ref 53, .ref 54, .ref 55, .ref 56, .int 0, .int 0, .int 0, .ref 57, .ref 58, .ref 59, .null, .null, .null, .int 0, .null, .null, .int 0, .int 0, .null, .int 0, .null, .null, .null]))) 60 (.inl (5, fun _ => 0))) 44 (.inr (8, [.int 0, .int 0, .ref 45, .ref 46, .ref 47, .int 0, .int 0, .int 0, .ref 48, .ref 49, .ref 50, .ref 51, .ref 52, .ref 53, .ref 54, .ref 55, .ref 56, .int 0, .int 0, .int 0, .ref 57, .ref 58, .ref 59, .ref 60, .null, .null, .int 0, .null, .null, .int 0, .int 0, .null, .int 0, .null, .null, .null]))) 61 (.inl (5, fun _ => 0))) 44 (.inr (8, [.int 0, .int 0, .ref 45, .ref 46, .ref 47, .int 0, .int 0, .int 0, .ref 48, .ref 49, .ref 50, .ref 51, .ref 52, .ref 53, .ref 54, .ref 55, .ref 56, .int 0, .int 0, .int 0, .ref 57, .ref 58, .ref 59, .ref 60, .ref 61, .null, .int 0, .null, .null, .int 0, .int 0, .null, .int 0, .null, .null, .null]))) 62 (.inl (5, fun _ => 0))) 44 (.inr (8, [.int 0, .int 0, .ref 45, .ref 46, .ref 47, .int 0, .int 0, .int 0, .ref 48, .ref 49, .ref 50, .ref 51, .ref 52, .ref 53, .ref 54, .ref 55, .ref 56, .int 0, .int 0, .int 0, .ref 57, .ref 58, .ref 59, .ref 60, .ref 61, .ref 62, .int 0, .null, .null, .int 0, .int 0, .null, .int 0, .null, .null, .null]))) 63 (.inl (5, fun _ => 0))) 44 (.inr (8, [.int 0, .int 0, .ref 45, .ref 46, .ref 47, .int 0, .int 0, .int 0, .ref 48, .ref 49, .ref 50, .ref 51, .ref 52, .ref 53, .ref 54, .ref 55, .ref 56, .int 0, .int 0, .int 0, .ref 57, .ref 58, .ref 59, .ref 60, .ref 61, .ref 62, .int 0, .ref 63, .null, .int 0, .int 0, .null, .int 0, .null, .null, .null]))) 64 (.inl (5, fun _ => 0))) 44 (.inr (8, [.int 0, .int 0, .ref 45, .ref 46, .ref 47, .int 0, .int 0, .int 0, .ref 48, .ref 49, .ref 50, .ref 51, .ref 52, .ref 53, .ref 54, .ref 55, .ref 56, .int 0, .int 0, .int 0, .ref 57, .ref 58, .ref 59, .ref 60, .ref 61, .ref 62, .int 0, .ref 63, .ref 64, .int 0, .int 0, .null, .int 0, .null, .null, .null]))) 65 (.inl (5, fun _ => 0))) 44 (.inr (8, [.int 0, .int 0, .ref 45, .ref 46, .ref 47, .int 0, .int 0, .int 0, .ref 48, .ref 49, .ref 50, .ref 51, .ref 52, .ref 53, .ref 54, .ref 55, .ref 56, .int 0, .int 0, .int 0, .ref 57, .ref 58, .ref 59, .ref 60, .ref 61, .ref 62, .int 0, .ref 63, .ref 64, .int 0, .int 0, .ref 65, .int 0, .null, .null, .null]))) 66 (.inl (8, fun _ => 0))) 44 (.inr (8, [.int 0, .int 0, .ref 45, .ref 46, .ref 47, .int 0, .int 0, .int 0, .ref 48, .ref 49, .ref 50, .ref 51, .ref 52, .ref 53, .ref 54, .ref 55, .ref 56, .int 0, .int 0, .int 0, .ref 57, .ref 58, .ref 59, .ref 60, .ref 61, .ref 62, .int 0, .ref 63, .ref 64, .int 0, .int 0, .ref 65, .int 0, .ref 66, .null, .null]))) 67 (.inl (8, fun _ => 0))) 44 (.inr (8, [.int 0, .int 0, .ref 45, .ref 46, .ref 47, .int 0, .int 0, .int 0, .ref 48, .ref 49, .ref 50, .ref 51, .ref 52, .ref 53, .ref 54, .ref 55, .ref 56, .int 0, .int 0, .int 0, .ref 57, .ref 58, .ref 59, .ref 60, .ref 61, .ref 62, .int 0, .ref 63, .ref 64, .int 0, .int 0, .ref 65, .int 0, .ref 66, .ref 67, .null]))) 68 (.inl (8, fun _ => 0))) 44 (.inr (8, [.int 0, .int 0, .ref 45, .ref 46, .ref 47, .int 0, .int 0, .int 0, .ref 48, .ref 49, .ref 50, .ref 51, .ref 52, .ref 53, .ref 54, .ref 55, .ref 56, .int 0, .int 0, .int 0, .ref 57, .ref 58, .ref 59, .ref 60, .ref 61, .ref 62, .int 0, .ref 63, .ref 64, .int 0, .int 0, .ref 65, .int 0, .ref 66, .ref 67, .ref 68]))
theorem kcl_M {w : mW} (hc : cloW 45 w) : cloW 69 (kw_M w) := ((((((((((((((((((((((((((((((((((((((((((((((((((((((((((((((((((((((((((((((((((((((((((((((((((((((((hc).push rfl)).set rfl)).set rfl)).set rfl)).set rfl)).set rfl)).push rfl)).set rfl)).push rfl)).set rfl)).push rfl)).set rfl)).push rfl)).set rfl)).push rfl)).set rfl)).push rfl)).set rfl)).push rfl)).set rfl)).push rfl)).set rfl)).push rfl)).set rfl)).push rfl)).set rfl)).push rfl)).set rfl)).push rfl)).set rfl)).push rfl)).set rfl)).push rfl)).set rfl)).push rfl)).set rfl)).push rfl)).set rfl)).push rfl)).set rfl)).push rfl)).set rfl)).push rfl)).set rfl)).push rfl)).set rfl)).push rfl)).set rfl)).push rfl)).set rfl)).push rfl)).set rfl)
theorem kne_M {w : mW} {j : Nat} (hj : j < 45) (hi : j ≠ 44) : kw_M w j = w j := by
  unfold kw_M
  rw [mUp_ne (by omega), mUp_ne (by omega), mUp_ne (by omega), mUp_ne (by omega), mUp_ne (by omega), mUp_ne (by omega), mUp_ne (by omega), mUp_ne (by omega), mUp_ne (by omega), mUp_ne (by omega), mUp_ne (by omega), mUp_ne (by omega), mUp_ne (by omega), mUp_ne (by omega), mUp_ne (by omega), mUp_ne (by omega), mUp_ne (by omega), mUp_ne (by omega), mUp_ne (by omega), mUp_ne (by omega), mUp_ne (by omega), mUp_ne (by omega), mUp_ne (by omega), mUp_ne (by omega), mUp_ne (by omega), mUp_ne (by omega), mUp_ne (by omega), mUp_ne (by omega), mUp_ne (by omega), mUp_ne (by omega), mUp_ne (by omega), mUp_ne (by omega), mUp_ne (by omega), mUp_ne (by omega), mUp_ne (by omega), mUp_ne (by omega), mUp_ne (by omega), mUp_ne (by omega), mUp_ne (by omega), mUp_ne (by omega), mUp_ne (by omega), mUp_ne (by omega), mUp_ne (by omega), mUp_ne (by omega), mUp_ne (by omega), mUp_ne (by omega), mUp_ne (by omega), mUp_ne (by omega), mUp_ne (by omega), mUp_ne (by omega), mUp_ne (by omega), mUp_ne (by omega)]
theorem kc_M {d : Nat} {w : mW} (hc0 : cloW 45 w) (h0 : w 44 = .inr (8, [.int 0, .int 0, .null, .null, .null, .int 0, .int 0, .int 0, .null, .null, .null, .null, .null, .null, .null, .null, .null, .int 0, .int 0, .int 0, .null, .null, .null, .null, .null, .null, .int 0, .null, .null, .int 0, .int 0, .null, .int 0, .null, .null, .null])) : kC (d + 1) kX8_init [.ref 44] 45 w 24 387 69 (kw_M w) := by
  refine kC.of okX8_init rfl rfl rfl ?_
  refine k_aload (pc := 0) dX8_init_0 rfl ?_
  refine k_obj (pc := 1) rfl (mTT_mem tk_787 rfl) (mTT_mem tk_110 rfl) (mTT_mem tk_111 rfl) dX8_init_1 rfl ?_
  refine k_aload (pc := 4) dX8_init_4 rfl ?_
  refine k_iconst (pc := 5) (v := 4) dX8_init_5 (by decide) ?_
  refine k_newa1 (pc := 6) (N := 4) (n1 := 46) (cs1 := 1) (sl1 := 4) rfl rfl rfl (mTT_mem tk_128 rfl) dX8_init_6 (by decide) (by decide) (by decide) (by decide) (by decide) (by decide) hc0 rfl rfl (fun w1 e1 => ?_)
  have hc1 : cloW 46 w1 := by rw [e1]; exact hc0.push rfl
  have h1 : w1 44 = .inr (8, [.int 0, .int 0, .null, .null, .null, .int 0, .int 0, .int 0, .null, .null, .null, .null, .null, .null, .null, .null, .null, .int 0, .int 0, .int 0, .null, .null, .null, .null, .null, .null, .int 0, .null, .null, .int 0, .int 0, .null, .int 0, .null, .null, .null]) := by rw [e1]; exact (mUp_ne (by decide)).trans h0
  refine k_dup (pc := 8) dX8_init_8 rfl ?_
  refine k_iconst (pc := 9) (v := 0) dX8_init_9 (by decide) ?_
  refine k_bipush (pc := 10) (v := (-9)) dX8_init_10 (by decide) ?_
  refine k_iast1 (pc := 12) (i' := 0) dX8_init_12 (by decide) (by rw [e1]; exact mUp_eq) (by unfold vp_in; decide) (by decide) (fun w2 e2 => ?_)
  have hc2 : cloW 46 w2 := by rw [e2]; exact hc1.set rfl
  have h2 : w2 44 = .inr (8, [.int 0, .int 0, .null, .null, .null, .int 0, .int 0, .int 0, .null, .null, .null, .null, .null, .null, .null, .null, .null, .int 0, .int 0, .int 0, .null, .null, .null, .null, .null, .null, .int 0, .null, .null, .int 0, .int 0, .null, .int 0, .null, .null, .null]) := by rw [e2]; exact (mUp_ne (by decide)).trans h1
  refine k_dup (pc := 13) dX8_init_13 rfl ?_
  refine k_iconst (pc := 14) (v := 1) dX8_init_14 (by decide) ?_
  refine k_bipush (pc := 15) (v := (-9)) dX8_init_15 (by decide) ?_
  refine k_iast1 (pc := 17) (i' := 1) dX8_init_17 (by decide) (by rw [e2]; exact mUp_eq) (by unfold vp_in; decide) (by decide) (fun w3 e3 => ?_)
  have hc3 : cloW 46 w3 := by rw [e3]; exact hc2.set rfl
  have h3 : w3 44 = .inr (8, [.int 0, .int 0, .null, .null, .null, .int 0, .int 0, .int 0, .null, .null, .null, .null, .null, .null, .null, .null, .null, .int 0, .int 0, .int 0, .null, .null, .null, .null, .null, .null, .int 0, .null, .null, .int 0, .int 0, .null, .int 0, .null, .null, .null]) := by rw [e3]; exact (mUp_ne (by decide)).trans h2
  refine k_dup (pc := 18) dX8_init_18 rfl ?_
  refine k_iconst (pc := 19) (v := 2) dX8_init_19 (by decide) ?_
  refine k_bipush (pc := 20) (v := (-9)) dX8_init_20 (by decide) ?_
  refine k_iast1 (pc := 22) (i' := 2) dX8_init_22 (by decide) (by rw [e3]; exact mUp_eq) (by unfold vp_in; decide) (by decide) (fun w4 e4 => ?_)
  have hc4 : cloW 46 w4 := by rw [e4]; exact hc3.set rfl
  have h4 : w4 44 = .inr (8, [.int 0, .int 0, .null, .null, .null, .int 0, .int 0, .int 0, .null, .null, .null, .null, .null, .null, .null, .null, .null, .int 0, .int 0, .int 0, .null, .null, .null, .null, .null, .null, .int 0, .null, .null, .int 0, .int 0, .null, .int 0, .null, .null, .null]) := by rw [e4]; exact (mUp_ne (by decide)).trans h3
  refine k_dup (pc := 23) dX8_init_23 rfl ?_
  refine k_iconst (pc := 24) (v := 3) dX8_init_24 (by decide) ?_
  refine k_bipush (pc := 25) (v := (-9)) dX8_init_25 (by decide) ?_
  refine k_iast1 (pc := 27) (i' := 3) dX8_init_27 (by decide) (by rw [e4]; exact mUp_eq) (by unfold vp_in; decide) (by decide) (fun w5 e5 => ?_)
  have hc5 : cloW 46 w5 := by rw [e5]; exact hc4.set rfl
  have h5 : w5 44 = .inr (8, [.int 0, .int 0, .null, .null, .null, .int 0, .int 0, .int 0, .null, .null, .null, .null, .null, .null, .null, .null, .null, .int 0, .int 0, .int 0, .null, .null, .null, .null, .null, .null, .int 0, .null, .null, .int 0, .int 0, .null, .int 0, .null, .null, .null]) := by rw [e5]; exact (mUp_ne (by decide)).trans h4
  refine k_putF1 (pc := 28) (kf := 2) (fs1 := [.int 0, .int 0, .ref 45, .null, .null, .int 0, .int 0, .int 0, .null, .null, .null, .null, .null, .null, .null, .null, .null, .int 0, .int 0, .int 0, .null, .null, .null, .null, .null, .null, .int 0, .null, .null, .int 0, .int 0, .null, .int 0, .null, .null, .null]) (ty := .array .int) rfl tyX8 (C := RX8) (T := TX8) (N := 36) rfl inX8 tyX8_ok nmX8 (by decide) (mTT_mem tk_790 rfl) rfl rfl rfl (by decide +kernel) (fun _ => rfl) (fun _ => rfl) dX8_init_28 (by decide) h5 (by decide) (fun w6 e6 => ?_)
  have hc6 : cloW 46 w6 := by rw [e6]; exact hc5.set rfl
  have h6 : w6 44 = .inr (8, [.int 0, .int 0, .ref 45, .null, .null, .int 0, .int 0, .int 0, .null, .null, .null, .null, .null, .null, .null, .null, .null, .int 0, .int 0, .int 0, .null, .null, .null, .null, .null, .null, .int 0, .null, .null, .int 0, .int 0, .null, .int 0, .null, .null, .null]) := by rw [e6]; exact mUp_eq
  refine k_aload (pc := 31) dX8_init_31 rfl ?_
  refine k_iconst (pc := 32) (v := 4) dX8_init_32 (by decide) ?_
  refine k_newa1 (pc := 33) (N := 4) (n1 := 47) (cs1 := 2) (sl1 := 8) rfl rfl rfl (mTT_mem tk_128 rfl) dX8_init_33 (by decide) (by decide) (by decide) (by decide) (by decide) (by decide) hc6 rfl rfl (fun w7 e7 => ?_)
  have hc7 : cloW 47 w7 := by rw [e7]; exact hc6.push rfl
  have h7 : w7 44 = .inr (8, [.int 0, .int 0, .ref 45, .null, .null, .int 0, .int 0, .int 0, .null, .null, .null, .null, .null, .null, .null, .null, .null, .int 0, .int 0, .int 0, .null, .null, .null, .null, .null, .null, .int 0, .null, .null, .int 0, .int 0, .null, .int 0, .null, .null, .null]) := by rw [e7]; exact (mUp_ne (by decide)).trans h6
  refine k_putF1 (pc := 35) (kf := 3) (fs1 := [.int 0, .int 0, .ref 45, .ref 46, .null, .int 0, .int 0, .int 0, .null, .null, .null, .null, .null, .null, .null, .null, .null, .int 0, .int 0, .int 0, .null, .null, .null, .null, .null, .null, .int 0, .null, .null, .int 0, .int 0, .null, .int 0, .null, .null, .null]) (ty := .array .int) rfl tyX8 (C := RX8) (T := TX8) (N := 36) rfl inX8 tyX8_ok nmX8 (by decide) (mTT_mem tk_791 rfl) rfl rfl rfl (by decide +kernel) (fun _ => rfl) (fun _ => rfl) dX8_init_35 (by decide) h7 (by decide) (fun w8 e8 => ?_)
  have hc8 : cloW 47 w8 := by rw [e8]; exact hc7.set rfl
  have h8 : w8 44 = .inr (8, [.int 0, .int 0, .ref 45, .ref 46, .null, .int 0, .int 0, .int 0, .null, .null, .null, .null, .null, .null, .null, .null, .null, .int 0, .int 0, .int 0, .null, .null, .null, .null, .null, .null, .int 0, .null, .null, .int 0, .int 0, .null, .int 0, .null, .null, .null]) := by rw [e8]; exact mUp_eq
  refine k_aload (pc := 38) dX8_init_38 rfl ?_
  refine k_sipush (pc := 39) (v := 240) dX8_init_39 (by decide) ?_
  refine k_newa1 (pc := 42) (N := 240) (n1 := 48) (cs1 := 3) (sl1 := 248) rfl rfl rfl (mTT_mem tk_128 rfl) dX8_init_42 (by decide) (by decide) (by decide) (by decide) (by decide) (by decide) hc8 rfl rfl (fun w9 e9 => ?_)
  have hc9 : cloW 48 w9 := by rw [e9]; exact hc8.push rfl
  have h9 : w9 44 = .inr (8, [.int 0, .int 0, .ref 45, .ref 46, .null, .int 0, .int 0, .int 0, .null, .null, .null, .null, .null, .null, .null, .null, .null, .int 0, .int 0, .int 0, .null, .null, .null, .null, .null, .null, .int 0, .null, .null, .int 0, .int 0, .null, .int 0, .null, .null, .null]) := by rw [e9]; exact (mUp_ne (by decide)).trans h8
  refine k_putF1 (pc := 44) (kf := 4) (fs1 := [.int 0, .int 0, .ref 45, .ref 46, .ref 47, .int 0, .int 0, .int 0, .null, .null, .null, .null, .null, .null, .null, .null, .null, .int 0, .int 0, .int 0, .null, .null, .null, .null, .null, .null, .int 0, .null, .null, .int 0, .int 0, .null, .int 0, .null, .null, .null]) (ty := .array .int) rfl tyX8 (C := RX8) (T := TX8) (N := 36) rfl inX8 tyX8_ok nmX8 (by decide) (mTT_mem tk_792 rfl) rfl rfl rfl (by decide +kernel) (fun _ => rfl) (fun _ => rfl) dX8_init_44 (by decide) h9 (by decide) (fun w10 e10 => ?_)
  have hc10 : cloW 48 w10 := by rw [e10]; exact hc9.set rfl
  have h10 : w10 44 = .inr (8, [.int 0, .int 0, .ref 45, .ref 46, .ref 47, .int 0, .int 0, .int 0, .null, .null, .null, .null, .null, .null, .null, .null, .null, .int 0, .int 0, .int 0, .null, .null, .null, .null, .null, .null, .int 0, .null, .null, .int 0, .int 0, .null, .int 0, .null, .null, .null]) := by rw [e10]; exact mUp_eq
  refine k_aload (pc := 47) dX8_init_47 rfl ?_
  refine k_iconst (pc := 48) (v := 5) dX8_init_48 (by decide) ?_
  refine k_newa1 (pc := 49) (N := 5) (n1 := 49) (cs1 := 4) (sl1 := 253) rfl rfl rfl (mTT_mem tk_128 rfl) dX8_init_49 (by decide) (by decide) (by decide) (by decide) (by decide) (by decide) hc10 rfl rfl (fun w11 e11 => ?_)
  have hc11 : cloW 49 w11 := by rw [e11]; exact hc10.push rfl
  have h11 : w11 44 = .inr (8, [.int 0, .int 0, .ref 45, .ref 46, .ref 47, .int 0, .int 0, .int 0, .null, .null, .null, .null, .null, .null, .null, .null, .null, .int 0, .int 0, .int 0, .null, .null, .null, .null, .null, .null, .int 0, .null, .null, .int 0, .int 0, .null, .int 0, .null, .null, .null]) := by rw [e11]; exact (mUp_ne (by decide)).trans h10
  refine k_putF1 (pc := 51) (kf := 8) (fs1 := [.int 0, .int 0, .ref 45, .ref 46, .ref 47, .int 0, .int 0, .int 0, .ref 48, .null, .null, .null, .null, .null, .null, .null, .null, .int 0, .int 0, .int 0, .null, .null, .null, .null, .null, .null, .int 0, .null, .null, .int 0, .int 0, .null, .int 0, .null, .null, .null]) (ty := .array .int) rfl tyX8 (C := RX8) (T := TX8) (N := 36) rfl inX8 tyX8_ok nmX8 (by decide) (mTT_mem tk_796 rfl) rfl rfl rfl (by decide +kernel) (fun _ => rfl) (fun _ => rfl) dX8_init_51 (by decide) h11 (by decide) (fun w12 e12 => ?_)
  have hc12 : cloW 49 w12 := by rw [e12]; exact hc11.set rfl
  have h12 : w12 44 = .inr (8, [.int 0, .int 0, .ref 45, .ref 46, .ref 47, .int 0, .int 0, .int 0, .ref 48, .null, .null, .null, .null, .null, .null, .null, .null, .int 0, .int 0, .int 0, .null, .null, .null, .null, .null, .null, .int 0, .null, .null, .int 0, .int 0, .null, .int 0, .null, .null, .null]) := by rw [e12]; exact mUp_eq
  refine k_aload (pc := 54) dX8_init_54 rfl ?_
  refine k_iconst (pc := 55) (v := 5) dX8_init_55 (by decide) ?_
  refine k_newa1 (pc := 56) (N := 5) (n1 := 50) (cs1 := 5) (sl1 := 258) rfl rfl rfl (mTT_mem tk_128 rfl) dX8_init_56 (by decide) (by decide) (by decide) (by decide) (by decide) (by decide) hc12 rfl rfl (fun w13 e13 => ?_)
  have hc13 : cloW 50 w13 := by rw [e13]; exact hc12.push rfl
  have h13 : w13 44 = .inr (8, [.int 0, .int 0, .ref 45, .ref 46, .ref 47, .int 0, .int 0, .int 0, .ref 48, .null, .null, .null, .null, .null, .null, .null, .null, .int 0, .int 0, .int 0, .null, .null, .null, .null, .null, .null, .int 0, .null, .null, .int 0, .int 0, .null, .int 0, .null, .null, .null]) := by rw [e13]; exact (mUp_ne (by decide)).trans h12
  refine k_putF1 (pc := 58) (kf := 9) (fs1 := [.int 0, .int 0, .ref 45, .ref 46, .ref 47, .int 0, .int 0, .int 0, .ref 48, .ref 49, .null, .null, .null, .null, .null, .null, .null, .int 0, .int 0, .int 0, .null, .null, .null, .null, .null, .null, .int 0, .null, .null, .int 0, .int 0, .null, .int 0, .null, .null, .null]) (ty := .array .int) rfl tyX8 (C := RX8) (T := TX8) (N := 36) rfl inX8 tyX8_ok nmX8 (by decide) (mTT_mem tk_797 rfl) rfl rfl rfl (by decide +kernel) (fun _ => rfl) (fun _ => rfl) dX8_init_58 (by decide) h13 (by decide) (fun w14 e14 => ?_)
  have hc14 : cloW 50 w14 := by rw [e14]; exact hc13.set rfl
  have h14 : w14 44 = .inr (8, [.int 0, .int 0, .ref 45, .ref 46, .ref 47, .int 0, .int 0, .int 0, .ref 48, .ref 49, .null, .null, .null, .null, .null, .null, .null, .int 0, .int 0, .int 0, .null, .null, .null, .null, .null, .null, .int 0, .null, .null, .int 0, .int 0, .null, .int 0, .null, .null, .null]) := by rw [e14]; exact mUp_eq
  refine k_aload (pc := 61) dX8_init_61 rfl ?_
  refine k_iconst (pc := 62) (v := 5) dX8_init_62 (by decide) ?_
  refine k_newa1 (pc := 63) (N := 5) (n1 := 51) (cs1 := 6) (sl1 := 263) rfl rfl rfl (mTT_mem tk_128 rfl) dX8_init_63 (by decide) (by decide) (by decide) (by decide) (by decide) (by decide) hc14 rfl rfl (fun w15 e15 => ?_)
  have hc15 : cloW 51 w15 := by rw [e15]; exact hc14.push rfl
  have h15 : w15 44 = .inr (8, [.int 0, .int 0, .ref 45, .ref 46, .ref 47, .int 0, .int 0, .int 0, .ref 48, .ref 49, .null, .null, .null, .null, .null, .null, .null, .int 0, .int 0, .int 0, .null, .null, .null, .null, .null, .null, .int 0, .null, .null, .int 0, .int 0, .null, .int 0, .null, .null, .null]) := by rw [e15]; exact (mUp_ne (by decide)).trans h14
  refine k_putF1 (pc := 65) (kf := 10) (fs1 := [.int 0, .int 0, .ref 45, .ref 46, .ref 47, .int 0, .int 0, .int 0, .ref 48, .ref 49, .ref 50, .null, .null, .null, .null, .null, .null, .int 0, .int 0, .int 0, .null, .null, .null, .null, .null, .null, .int 0, .null, .null, .int 0, .int 0, .null, .int 0, .null, .null, .null]) (ty := .array .int) rfl tyX8 (C := RX8) (T := TX8) (N := 36) rfl inX8 tyX8_ok nmX8 (by decide) (mTT_mem tk_798 rfl) rfl rfl rfl (by decide +kernel) (fun _ => rfl) (fun _ => rfl) dX8_init_65 (by decide) h15 (by decide) (fun w16 e16 => ?_)
  have hc16 : cloW 51 w16 := by rw [e16]; exact hc15.set rfl
  have h16 : w16 44 = .inr (8, [.int 0, .int 0, .ref 45, .ref 46, .ref 47, .int 0, .int 0, .int 0, .ref 48, .ref 49, .ref 50, .null, .null, .null, .null, .null, .null, .int 0, .int 0, .int 0, .null, .null, .null, .null, .null, .null, .int 0, .null, .null, .int 0, .int 0, .null, .int 0, .null, .null, .null]) := by rw [e16]; exact mUp_eq
  refine k_aload (pc := 68) dX8_init_68 rfl ?_
  refine k_iconst (pc := 69) (v := 5) dX8_init_69 (by decide) ?_
  refine k_newa1 (pc := 70) (N := 5) (n1 := 52) (cs1 := 7) (sl1 := 268) rfl rfl rfl (mTT_mem tk_128 rfl) dX8_init_70 (by decide) (by decide) (by decide) (by decide) (by decide) (by decide) hc16 rfl rfl (fun w17 e17 => ?_)
  have hc17 : cloW 52 w17 := by rw [e17]; exact hc16.push rfl
  have h17 : w17 44 = .inr (8, [.int 0, .int 0, .ref 45, .ref 46, .ref 47, .int 0, .int 0, .int 0, .ref 48, .ref 49, .ref 50, .null, .null, .null, .null, .null, .null, .int 0, .int 0, .int 0, .null, .null, .null, .null, .null, .null, .int 0, .null, .null, .int 0, .int 0, .null, .int 0, .null, .null, .null]) := by rw [e17]; exact (mUp_ne (by decide)).trans h16
  refine k_putF1 (pc := 72) (kf := 11) (fs1 := [.int 0, .int 0, .ref 45, .ref 46, .ref 47, .int 0, .int 0, .int 0, .ref 48, .ref 49, .ref 50, .ref 51, .null, .null, .null, .null, .null, .int 0, .int 0, .int 0, .null, .null, .null, .null, .null, .null, .int 0, .null, .null, .int 0, .int 0, .null, .int 0, .null, .null, .null]) (ty := .array .int) rfl tyX8 (C := RX8) (T := TX8) (N := 36) rfl inX8 tyX8_ok nmX8 (by decide) (mTT_mem tk_799 rfl) rfl rfl rfl (by decide +kernel) (fun _ => rfl) (fun _ => rfl) dX8_init_72 (by decide) h17 (by decide) (fun w18 e18 => ?_)
  have hc18 : cloW 52 w18 := by rw [e18]; exact hc17.set rfl
  have h18 : w18 44 = .inr (8, [.int 0, .int 0, .ref 45, .ref 46, .ref 47, .int 0, .int 0, .int 0, .ref 48, .ref 49, .ref 50, .ref 51, .null, .null, .null, .null, .null, .int 0, .int 0, .int 0, .null, .null, .null, .null, .null, .null, .int 0, .null, .null, .int 0, .int 0, .null, .int 0, .null, .null, .null]) := by rw [e18]; exact mUp_eq
  refine k_aload (pc := 75) dX8_init_75 rfl ?_
  refine k_iconst (pc := 76) (v := 5) dX8_init_76 (by decide) ?_
  refine k_newa1 (pc := 77) (N := 5) (n1 := 53) (cs1 := 8) (sl1 := 273) rfl rfl rfl (mTT_mem tk_128 rfl) dX8_init_77 (by decide) (by decide) (by decide) (by decide) (by decide) (by decide) hc18 rfl rfl (fun w19 e19 => ?_)
  have hc19 : cloW 53 w19 := by rw [e19]; exact hc18.push rfl
  have h19 : w19 44 = .inr (8, [.int 0, .int 0, .ref 45, .ref 46, .ref 47, .int 0, .int 0, .int 0, .ref 48, .ref 49, .ref 50, .ref 51, .null, .null, .null, .null, .null, .int 0, .int 0, .int 0, .null, .null, .null, .null, .null, .null, .int 0, .null, .null, .int 0, .int 0, .null, .int 0, .null, .null, .null]) := by rw [e19]; exact (mUp_ne (by decide)).trans h18
  refine k_putF1 (pc := 79) (kf := 12) (fs1 := [.int 0, .int 0, .ref 45, .ref 46, .ref 47, .int 0, .int 0, .int 0, .ref 48, .ref 49, .ref 50, .ref 51, .ref 52, .null, .null, .null, .null, .int 0, .int 0, .int 0, .null, .null, .null, .null, .null, .null, .int 0, .null, .null, .int 0, .int 0, .null, .int 0, .null, .null, .null]) (ty := .array .int) rfl tyX8 (C := RX8) (T := TX8) (N := 36) rfl inX8 tyX8_ok nmX8 (by decide) (mTT_mem tk_800 rfl) rfl rfl rfl (by decide +kernel) (fun _ => rfl) (fun _ => rfl) dX8_init_79 (by decide) h19 (by decide) (fun w20 e20 => ?_)
  have hc20 : cloW 53 w20 := by rw [e20]; exact hc19.set rfl
  have h20 : w20 44 = .inr (8, [.int 0, .int 0, .ref 45, .ref 46, .ref 47, .int 0, .int 0, .int 0, .ref 48, .ref 49, .ref 50, .ref 51, .ref 52, .null, .null, .null, .null, .int 0, .int 0, .int 0, .null, .null, .null, .null, .null, .null, .int 0, .null, .null, .int 0, .int 0, .null, .int 0, .null, .null, .null]) := by rw [e20]; exact mUp_eq
  refine k_aload (pc := 82) dX8_init_82 rfl ?_
  refine k_iconst (pc := 83) (v := 5) dX8_init_83 (by decide) ?_
  refine k_newa1 (pc := 84) (N := 5) (n1 := 54) (cs1 := 9) (sl1 := 278) rfl rfl rfl (mTT_mem tk_128 rfl) dX8_init_84 (by decide) (by decide) (by decide) (by decide) (by decide) (by decide) hc20 rfl rfl (fun w21 e21 => ?_)
  have hc21 : cloW 54 w21 := by rw [e21]; exact hc20.push rfl
  have h21 : w21 44 = .inr (8, [.int 0, .int 0, .ref 45, .ref 46, .ref 47, .int 0, .int 0, .int 0, .ref 48, .ref 49, .ref 50, .ref 51, .ref 52, .null, .null, .null, .null, .int 0, .int 0, .int 0, .null, .null, .null, .null, .null, .null, .int 0, .null, .null, .int 0, .int 0, .null, .int 0, .null, .null, .null]) := by rw [e21]; exact (mUp_ne (by decide)).trans h20
  refine k_putF1 (pc := 86) (kf := 13) (fs1 := [.int 0, .int 0, .ref 45, .ref 46, .ref 47, .int 0, .int 0, .int 0, .ref 48, .ref 49, .ref 50, .ref 51, .ref 52, .ref 53, .null, .null, .null, .int 0, .int 0, .int 0, .null, .null, .null, .null, .null, .null, .int 0, .null, .null, .int 0, .int 0, .null, .int 0, .null, .null, .null]) (ty := .array .int) rfl tyX8 (C := RX8) (T := TX8) (N := 36) rfl inX8 tyX8_ok nmX8 (by decide) (mTT_mem tk_801 rfl) rfl rfl rfl (by decide +kernel) (fun _ => rfl) (fun _ => rfl) dX8_init_86 (by decide) h21 (by decide) (fun w22 e22 => ?_)
  have hc22 : cloW 54 w22 := by rw [e22]; exact hc21.set rfl
  have h22 : w22 44 = .inr (8, [.int 0, .int 0, .ref 45, .ref 46, .ref 47, .int 0, .int 0, .int 0, .ref 48, .ref 49, .ref 50, .ref 51, .ref 52, .ref 53, .null, .null, .null, .int 0, .int 0, .int 0, .null, .null, .null, .null, .null, .null, .int 0, .null, .null, .int 0, .int 0, .null, .int 0, .null, .null, .null]) := by rw [e22]; exact mUp_eq
  refine k_aload (pc := 89) dX8_init_89 rfl ?_
  refine k_iconst (pc := 90) (v := 5) dX8_init_90 (by decide) ?_
  refine k_newa1 (pc := 91) (N := 5) (n1 := 55) (cs1 := 10) (sl1 := 283) rfl rfl rfl (mTT_mem tk_128 rfl) dX8_init_91 (by decide) (by decide) (by decide) (by decide) (by decide) (by decide) hc22 rfl rfl (fun w23 e23 => ?_)
  have hc23 : cloW 55 w23 := by rw [e23]; exact hc22.push rfl
  have h23 : w23 44 = .inr (8, [.int 0, .int 0, .ref 45, .ref 46, .ref 47, .int 0, .int 0, .int 0, .ref 48, .ref 49, .ref 50, .ref 51, .ref 52, .ref 53, .null, .null, .null, .int 0, .int 0, .int 0, .null, .null, .null, .null, .null, .null, .int 0, .null, .null, .int 0, .int 0, .null, .int 0, .null, .null, .null]) := by rw [e23]; exact (mUp_ne (by decide)).trans h22
  refine k_putF1 (pc := 93) (kf := 14) (fs1 := [.int 0, .int 0, .ref 45, .ref 46, .ref 47, .int 0, .int 0, .int 0, .ref 48, .ref 49, .ref 50, .ref 51, .ref 52, .ref 53, .ref 54, .null, .null, .int 0, .int 0, .int 0, .null, .null, .null, .null, .null, .null, .int 0, .null, .null, .int 0, .int 0, .null, .int 0, .null, .null, .null]) (ty := .array .int) rfl tyX8 (C := RX8) (T := TX8) (N := 36) rfl inX8 tyX8_ok nmX8 (by decide) (mTT_mem tk_802 rfl) rfl rfl rfl (by decide +kernel) (fun _ => rfl) (fun _ => rfl) dX8_init_93 (by decide) h23 (by decide) (fun w24 e24 => ?_)
  have hc24 : cloW 55 w24 := by rw [e24]; exact hc23.set rfl
  have h24 : w24 44 = .inr (8, [.int 0, .int 0, .ref 45, .ref 46, .ref 47, .int 0, .int 0, .int 0, .ref 48, .ref 49, .ref 50, .ref 51, .ref 52, .ref 53, .ref 54, .null, .null, .int 0, .int 0, .int 0, .null, .null, .null, .null, .null, .null, .int 0, .null, .null, .int 0, .int 0, .null, .int 0, .null, .null, .null]) := by rw [e24]; exact mUp_eq
  refine k_aload (pc := 96) dX8_init_96 rfl ?_
  refine k_iconst (pc := 97) (v := 5) dX8_init_97 (by decide) ?_
  refine k_newa1 (pc := 98) (N := 5) (n1 := 56) (cs1 := 11) (sl1 := 288) rfl rfl rfl (mTT_mem tk_128 rfl) dX8_init_98 (by decide) (by decide) (by decide) (by decide) (by decide) (by decide) hc24 rfl rfl (fun w25 e25 => ?_)
  have hc25 : cloW 56 w25 := by rw [e25]; exact hc24.push rfl
  have h25 : w25 44 = .inr (8, [.int 0, .int 0, .ref 45, .ref 46, .ref 47, .int 0, .int 0, .int 0, .ref 48, .ref 49, .ref 50, .ref 51, .ref 52, .ref 53, .ref 54, .null, .null, .int 0, .int 0, .int 0, .null, .null, .null, .null, .null, .null, .int 0, .null, .null, .int 0, .int 0, .null, .int 0, .null, .null, .null]) := by rw [e25]; exact (mUp_ne (by decide)).trans h24
  refine k_putF1 (pc := 100) (kf := 15) (fs1 := [.int 0, .int 0, .ref 45, .ref 46, .ref 47, .int 0, .int 0, .int 0, .ref 48, .ref 49, .ref 50, .ref 51, .ref 52, .ref 53, .ref 54, .ref 55, .null, .int 0, .int 0, .int 0, .null, .null, .null, .null, .null, .null, .int 0, .null, .null, .int 0, .int 0, .null, .int 0, .null, .null, .null]) (ty := .array .int) rfl tyX8 (C := RX8) (T := TX8) (N := 36) rfl inX8 tyX8_ok nmX8 (by decide) (mTT_mem tk_803 rfl) rfl rfl rfl (by decide +kernel) (fun _ => rfl) (fun _ => rfl) dX8_init_100 (by decide) h25 (by decide) (fun w26 e26 => ?_)
  have hc26 : cloW 56 w26 := by rw [e26]; exact hc25.set rfl
  have h26 : w26 44 = .inr (8, [.int 0, .int 0, .ref 45, .ref 46, .ref 47, .int 0, .int 0, .int 0, .ref 48, .ref 49, .ref 50, .ref 51, .ref 52, .ref 53, .ref 54, .ref 55, .null, .int 0, .int 0, .int 0, .null, .null, .null, .null, .null, .null, .int 0, .null, .null, .int 0, .int 0, .null, .int 0, .null, .null, .null]) := by rw [e26]; exact mUp_eq
  refine k_aload (pc := 103) dX8_init_103 rfl ?_
  refine k_iconst (pc := 104) (v := 5) dX8_init_104 (by decide) ?_
  refine k_newa1 (pc := 105) (N := 5) (n1 := 57) (cs1 := 12) (sl1 := 293) rfl rfl rfl (mTT_mem tk_128 rfl) dX8_init_105 (by decide) (by decide) (by decide) (by decide) (by decide) (by decide) hc26 rfl rfl (fun w27 e27 => ?_)
  have hc27 : cloW 57 w27 := by rw [e27]; exact hc26.push rfl
  have h27 : w27 44 = .inr (8, [.int 0, .int 0, .ref 45, .ref 46, .ref 47, .int 0, .int 0, .int 0, .ref 48, .ref 49, .ref 50, .ref 51, .ref 52, .ref 53, .ref 54, .ref 55, .null, .int 0, .int 0, .int 0, .null, .null, .null, .null, .null, .null, .int 0, .null, .null, .int 0, .int 0, .null, .int 0, .null, .null, .null]) := by rw [e27]; exact (mUp_ne (by decide)).trans h26
  refine k_putF1 (pc := 107) (kf := 16) (fs1 := [.int 0, .int 0, .ref 45, .ref 46, .ref 47, .int 0, .int 0, .int 0, .ref 48, .ref 49, .ref 50, .ref 51, .ref 52, .ref 53, .ref 54, .ref 55, .ref 56, .int 0, .int 0, .int 0, .null, .null, .null, .null, .null, .null, .int 0, .null, .null, .int 0, .int 0, .null, .int 0, .null, .null, .null]) (ty := .array .int) rfl tyX8 (C := RX8) (T := TX8) (N := 36) rfl inX8 tyX8_ok nmX8 (by decide) (mTT_mem tk_804 rfl) rfl rfl rfl (by decide +kernel) (fun _ => rfl) (fun _ => rfl) dX8_init_107 (by decide) h27 (by decide) (fun w28 e28 => ?_)
  have hc28 : cloW 57 w28 := by rw [e28]; exact hc27.set rfl
  have h28 : w28 44 = .inr (8, [.int 0, .int 0, .ref 45, .ref 46, .ref 47, .int 0, .int 0, .int 0, .ref 48, .ref 49, .ref 50, .ref 51, .ref 52, .ref 53, .ref 54, .ref 55, .ref 56, .int 0, .int 0, .int 0, .null, .null, .null, .null, .null, .null, .int 0, .null, .null, .int 0, .int 0, .null, .int 0, .null, .null, .null]) := by rw [e28]; exact mUp_eq
  refine k_aload (pc := 110) dX8_init_110 rfl ?_
  refine k_bipush (pc := 111) (v := 20) dX8_init_111 (by decide) ?_
  refine k_newa1 (pc := 113) (N := 20) (n1 := 58) (cs1 := 13) (sl1 := 313) rfl rfl rfl (mTT_mem tk_128 rfl) dX8_init_113 (by decide) (by decide) (by decide) (by decide) (by decide) (by decide) hc28 rfl rfl (fun w29 e29 => ?_)
  have hc29 : cloW 58 w29 := by rw [e29]; exact hc28.push rfl
  have h29 : w29 44 = .inr (8, [.int 0, .int 0, .ref 45, .ref 46, .ref 47, .int 0, .int 0, .int 0, .ref 48, .ref 49, .ref 50, .ref 51, .ref 52, .ref 53, .ref 54, .ref 55, .ref 56, .int 0, .int 0, .int 0, .null, .null, .null, .null, .null, .null, .int 0, .null, .null, .int 0, .int 0, .null, .int 0, .null, .null, .null]) := by rw [e29]; exact (mUp_ne (by decide)).trans h28
  refine k_putF1 (pc := 115) (kf := 20) (fs1 := [.int 0, .int 0, .ref 45, .ref 46, .ref 47, .int 0, .int 0, .int 0, .ref 48, .ref 49, .ref 50, .ref 51, .ref 52, .ref 53, .ref 54, .ref 55, .ref 56, .int 0, .int 0, .int 0, .ref 57, .null, .null, .null, .null, .null, .int 0, .null, .null, .int 0, .int 0, .null, .int 0, .null, .null, .null]) (ty := .array .int) rfl tyX8 (C := RX8) (T := TX8) (N := 36) rfl inX8 tyX8_ok nmX8 (by decide) (mTT_mem tk_808 rfl) rfl rfl rfl (by decide +kernel) (fun _ => rfl) (fun _ => rfl) dX8_init_115 (by decide) h29 (by decide) (fun w30 e30 => ?_)
  have hc30 : cloW 58 w30 := by rw [e30]; exact hc29.set rfl
  have h30 : w30 44 = .inr (8, [.int 0, .int 0, .ref 45, .ref 46, .ref 47, .int 0, .int 0, .int 0, .ref 48, .ref 49, .ref 50, .ref 51, .ref 52, .ref 53, .ref 54, .ref 55, .ref 56, .int 0, .int 0, .int 0, .ref 57, .null, .null, .null, .null, .null, .int 0, .null, .null, .int 0, .int 0, .null, .int 0, .null, .null, .null]) := by rw [e30]; exact mUp_eq
  refine k_aload (pc := 118) dX8_init_118 rfl ?_
  refine k_bipush (pc := 119) (v := 15) dX8_init_119 (by decide) ?_
  refine k_newa1 (pc := 121) (N := 15) (n1 := 59) (cs1 := 14) (sl1 := 328) rfl rfl rfl (mTT_mem tk_128 rfl) dX8_init_121 (by decide) (by decide) (by decide) (by decide) (by decide) (by decide) hc30 rfl rfl (fun w31 e31 => ?_)
  have hc31 : cloW 59 w31 := by rw [e31]; exact hc30.push rfl
  have h31 : w31 44 = .inr (8, [.int 0, .int 0, .ref 45, .ref 46, .ref 47, .int 0, .int 0, .int 0, .ref 48, .ref 49, .ref 50, .ref 51, .ref 52, .ref 53, .ref 54, .ref 55, .ref 56, .int 0, .int 0, .int 0, .ref 57, .null, .null, .null, .null, .null, .int 0, .null, .null, .int 0, .int 0, .null, .int 0, .null, .null, .null]) := by rw [e31]; exact (mUp_ne (by decide)).trans h30
  refine k_putF1 (pc := 123) (kf := 21) (fs1 := [.int 0, .int 0, .ref 45, .ref 46, .ref 47, .int 0, .int 0, .int 0, .ref 48, .ref 49, .ref 50, .ref 51, .ref 52, .ref 53, .ref 54, .ref 55, .ref 56, .int 0, .int 0, .int 0, .ref 57, .ref 58, .null, .null, .null, .null, .int 0, .null, .null, .int 0, .int 0, .null, .int 0, .null, .null, .null]) (ty := .array .int) rfl tyX8 (C := RX8) (T := TX8) (N := 36) rfl inX8 tyX8_ok nmX8 (by decide) (mTT_mem tk_809 rfl) rfl rfl rfl (by decide +kernel) (fun _ => rfl) (fun _ => rfl) dX8_init_123 (by decide) h31 (by decide) (fun w32 e32 => ?_)
  have hc32 : cloW 59 w32 := by rw [e32]; exact hc31.set rfl
  have h32 : w32 44 = .inr (8, [.int 0, .int 0, .ref 45, .ref 46, .ref 47, .int 0, .int 0, .int 0, .ref 48, .ref 49, .ref 50, .ref 51, .ref 52, .ref 53, .ref 54, .ref 55, .ref 56, .int 0, .int 0, .int 0, .ref 57, .ref 58, .null, .null, .null, .null, .int 0, .null, .null, .int 0, .int 0, .null, .int 0, .null, .null, .null]) := by rw [e32]; exact mUp_eq
  refine k_aload (pc := 126) dX8_init_126 rfl ?_
  refine k_iconst (pc := 127) (v := 5) dX8_init_127 (by decide) ?_
  refine k_newa1 (pc := 128) (N := 5) (n1 := 60) (cs1 := 15) (sl1 := 333) rfl rfl rfl (mTT_mem tk_128 rfl) dX8_init_128 (by decide) (by decide) (by decide) (by decide) (by decide) (by decide) hc32 rfl rfl (fun w33 e33 => ?_)
  have hc33 : cloW 60 w33 := by rw [e33]; exact hc32.push rfl
  have h33 : w33 44 = .inr (8, [.int 0, .int 0, .ref 45, .ref 46, .ref 47, .int 0, .int 0, .int 0, .ref 48, .ref 49, .ref 50, .ref 51, .ref 52, .ref 53, .ref 54, .ref 55, .ref 56, .int 0, .int 0, .int 0, .ref 57, .ref 58, .null, .null, .null, .null, .int 0, .null, .null, .int 0, .int 0, .null, .int 0, .null, .null, .null]) := by rw [e33]; exact (mUp_ne (by decide)).trans h32
  refine k_putF1 (pc := 130) (kf := 22) (fs1 := [.int 0, .int 0, .ref 45, .ref 46, .ref 47, .int 0, .int 0, .int 0, .ref 48, .ref 49, .ref 50, .ref 51, .ref 52, .ref 53, .ref 54, .ref 55, .ref 56, .int 0, .int 0, .int 0, .ref 57, .ref 58, .ref 59, .null, .null, .null, .int 0, .null, .null, .int 0, .int 0, .null, .int 0, .null, .null, .null]) (ty := .array .int) rfl tyX8 (C := RX8) (T := TX8) (N := 36) rfl inX8 tyX8_ok nmX8 (by decide) (mTT_mem tk_810 rfl) rfl rfl rfl (by decide +kernel) (fun _ => rfl) (fun _ => rfl) dX8_init_130 (by decide) h33 (by decide) (fun w34 e34 => ?_)
  have hc34 : cloW 60 w34 := by rw [e34]; exact hc33.set rfl
  have h34 : w34 44 = .inr (8, [.int 0, .int 0, .ref 45, .ref 46, .ref 47, .int 0, .int 0, .int 0, .ref 48, .ref 49, .ref 50, .ref 51, .ref 52, .ref 53, .ref 54, .ref 55, .ref 56, .int 0, .int 0, .int 0, .ref 57, .ref 58, .ref 59, .null, .null, .null, .int 0, .null, .null, .int 0, .int 0, .null, .int 0, .null, .null, .null]) := by rw [e34]; exact mUp_eq
  refine k_aload (pc := 133) dX8_init_133 rfl ?_
  refine k_iconst (pc := 134) (v := 5) dX8_init_134 (by decide) ?_
  refine k_newa1 (pc := 135) (N := 5) (n1 := 61) (cs1 := 16) (sl1 := 338) rfl rfl rfl (mTT_mem tk_128 rfl) dX8_init_135 (by decide) (by decide) (by decide) (by decide) (by decide) (by decide) hc34 rfl rfl (fun w35 e35 => ?_)
  have hc35 : cloW 61 w35 := by rw [e35]; exact hc34.push rfl
  have h35 : w35 44 = .inr (8, [.int 0, .int 0, .ref 45, .ref 46, .ref 47, .int 0, .int 0, .int 0, .ref 48, .ref 49, .ref 50, .ref 51, .ref 52, .ref 53, .ref 54, .ref 55, .ref 56, .int 0, .int 0, .int 0, .ref 57, .ref 58, .ref 59, .null, .null, .null, .int 0, .null, .null, .int 0, .int 0, .null, .int 0, .null, .null, .null]) := by rw [e35]; exact (mUp_ne (by decide)).trans h34
  refine k_putF1 (pc := 137) (kf := 23) (fs1 := [.int 0, .int 0, .ref 45, .ref 46, .ref 47, .int 0, .int 0, .int 0, .ref 48, .ref 49, .ref 50, .ref 51, .ref 52, .ref 53, .ref 54, .ref 55, .ref 56, .int 0, .int 0, .int 0, .ref 57, .ref 58, .ref 59, .ref 60, .null, .null, .int 0, .null, .null, .int 0, .int 0, .null, .int 0, .null, .null, .null]) (ty := .array .int) rfl tyX8 (C := RX8) (T := TX8) (N := 36) rfl inX8 tyX8_ok nmX8 (by decide) (mTT_mem tk_811 rfl) rfl rfl rfl (by decide +kernel) (fun _ => rfl) (fun _ => rfl) dX8_init_137 (by decide) h35 (by decide) (fun w36 e36 => ?_)
  have hc36 : cloW 61 w36 := by rw [e36]; exact hc35.set rfl
  have h36 : w36 44 = .inr (8, [.int 0, .int 0, .ref 45, .ref 46, .ref 47, .int 0, .int 0, .int 0, .ref 48, .ref 49, .ref 50, .ref 51, .ref 52, .ref 53, .ref 54, .ref 55, .ref 56, .int 0, .int 0, .int 0, .ref 57, .ref 58, .ref 59, .ref 60, .null, .null, .int 0, .null, .null, .int 0, .int 0, .null, .int 0, .null, .null, .null]) := by rw [e36]; exact mUp_eq
  refine k_aload (pc := 140) dX8_init_140 rfl ?_
  refine k_iconst (pc := 141) (v := 5) dX8_init_141 (by decide) ?_
  refine k_newa1 (pc := 142) (N := 5) (n1 := 62) (cs1 := 17) (sl1 := 343) rfl rfl rfl (mTT_mem tk_128 rfl) dX8_init_142 (by decide) (by decide) (by decide) (by decide) (by decide) (by decide) hc36 rfl rfl (fun w37 e37 => ?_)
  have hc37 : cloW 62 w37 := by rw [e37]; exact hc36.push rfl
  have h37 : w37 44 = .inr (8, [.int 0, .int 0, .ref 45, .ref 46, .ref 47, .int 0, .int 0, .int 0, .ref 48, .ref 49, .ref 50, .ref 51, .ref 52, .ref 53, .ref 54, .ref 55, .ref 56, .int 0, .int 0, .int 0, .ref 57, .ref 58, .ref 59, .ref 60, .null, .null, .int 0, .null, .null, .int 0, .int 0, .null, .int 0, .null, .null, .null]) := by rw [e37]; exact (mUp_ne (by decide)).trans h36
  refine k_putF1 (pc := 144) (kf := 24) (fs1 := [.int 0, .int 0, .ref 45, .ref 46, .ref 47, .int 0, .int 0, .int 0, .ref 48, .ref 49, .ref 50, .ref 51, .ref 52, .ref 53, .ref 54, .ref 55, .ref 56, .int 0, .int 0, .int 0, .ref 57, .ref 58, .ref 59, .ref 60, .ref 61, .null, .int 0, .null, .null, .int 0, .int 0, .null, .int 0, .null, .null, .null]) (ty := .array .int) rfl tyX8 (C := RX8) (T := TX8) (N := 36) rfl inX8 tyX8_ok nmX8 (by decide) (mTT_mem tk_812 rfl) rfl rfl rfl (by decide +kernel) (fun _ => rfl) (fun _ => rfl) dX8_init_144 (by decide) h37 (by decide) (fun w38 e38 => ?_)
  have hc38 : cloW 62 w38 := by rw [e38]; exact hc37.set rfl
  have h38 : w38 44 = .inr (8, [.int 0, .int 0, .ref 45, .ref 46, .ref 47, .int 0, .int 0, .int 0, .ref 48, .ref 49, .ref 50, .ref 51, .ref 52, .ref 53, .ref 54, .ref 55, .ref 56, .int 0, .int 0, .int 0, .ref 57, .ref 58, .ref 59, .ref 60, .ref 61, .null, .int 0, .null, .null, .int 0, .int 0, .null, .int 0, .null, .null, .null]) := by rw [e38]; exact mUp_eq
  refine k_aload (pc := 147) dX8_init_147 rfl ?_
  refine k_iconst (pc := 148) (v := 5) dX8_init_148 (by decide) ?_
  refine k_newa1 (pc := 149) (N := 5) (n1 := 63) (cs1 := 18) (sl1 := 348) rfl rfl rfl (mTT_mem tk_128 rfl) dX8_init_149 (by decide) (by decide) (by decide) (by decide) (by decide) (by decide) hc38 rfl rfl (fun w39 e39 => ?_)
  have hc39 : cloW 63 w39 := by rw [e39]; exact hc38.push rfl
  have h39 : w39 44 = .inr (8, [.int 0, .int 0, .ref 45, .ref 46, .ref 47, .int 0, .int 0, .int 0, .ref 48, .ref 49, .ref 50, .ref 51, .ref 52, .ref 53, .ref 54, .ref 55, .ref 56, .int 0, .int 0, .int 0, .ref 57, .ref 58, .ref 59, .ref 60, .ref 61, .null, .int 0, .null, .null, .int 0, .int 0, .null, .int 0, .null, .null, .null]) := by rw [e39]; exact (mUp_ne (by decide)).trans h38
  refine k_putF1 (pc := 151) (kf := 25) (fs1 := [.int 0, .int 0, .ref 45, .ref 46, .ref 47, .int 0, .int 0, .int 0, .ref 48, .ref 49, .ref 50, .ref 51, .ref 52, .ref 53, .ref 54, .ref 55, .ref 56, .int 0, .int 0, .int 0, .ref 57, .ref 58, .ref 59, .ref 60, .ref 61, .ref 62, .int 0, .null, .null, .int 0, .int 0, .null, .int 0, .null, .null, .null]) (ty := .array .int) rfl tyX8 (C := RX8) (T := TX8) (N := 36) rfl inX8 tyX8_ok nmX8 (by decide) (mTT_mem tk_813 rfl) rfl rfl rfl (by decide +kernel) (fun _ => rfl) (fun _ => rfl) dX8_init_151 (by decide) h39 (by decide) (fun w40 e40 => ?_)
  have hc40 : cloW 63 w40 := by rw [e40]; exact hc39.set rfl
  have h40 : w40 44 = .inr (8, [.int 0, .int 0, .ref 45, .ref 46, .ref 47, .int 0, .int 0, .int 0, .ref 48, .ref 49, .ref 50, .ref 51, .ref 52, .ref 53, .ref 54, .ref 55, .ref 56, .int 0, .int 0, .int 0, .ref 57, .ref 58, .ref 59, .ref 60, .ref 61, .ref 62, .int 0, .null, .null, .int 0, .int 0, .null, .int 0, .null, .null, .null]) := by rw [e40]; exact mUp_eq
  refine k_aload (pc := 154) dX8_init_154 rfl ?_
  refine k_iconst (pc := 155) (v := 5) dX8_init_155 (by decide) ?_
  refine k_newa1 (pc := 156) (N := 5) (n1 := 64) (cs1 := 19) (sl1 := 353) rfl rfl rfl (mTT_mem tk_128 rfl) dX8_init_156 (by decide) (by decide) (by decide) (by decide) (by decide) (by decide) hc40 rfl rfl (fun w41 e41 => ?_)
  have hc41 : cloW 64 w41 := by rw [e41]; exact hc40.push rfl
  have h41 : w41 44 = .inr (8, [.int 0, .int 0, .ref 45, .ref 46, .ref 47, .int 0, .int 0, .int 0, .ref 48, .ref 49, .ref 50, .ref 51, .ref 52, .ref 53, .ref 54, .ref 55, .ref 56, .int 0, .int 0, .int 0, .ref 57, .ref 58, .ref 59, .ref 60, .ref 61, .ref 62, .int 0, .null, .null, .int 0, .int 0, .null, .int 0, .null, .null, .null]) := by rw [e41]; exact (mUp_ne (by decide)).trans h40
  refine k_putF1 (pc := 158) (kf := 27) (fs1 := [.int 0, .int 0, .ref 45, .ref 46, .ref 47, .int 0, .int 0, .int 0, .ref 48, .ref 49, .ref 50, .ref 51, .ref 52, .ref 53, .ref 54, .ref 55, .ref 56, .int 0, .int 0, .int 0, .ref 57, .ref 58, .ref 59, .ref 60, .ref 61, .ref 62, .int 0, .ref 63, .null, .int 0, .int 0, .null, .int 0, .null, .null, .null]) (ty := .array .int) rfl tyX8 (C := RX8) (T := TX8) (N := 36) rfl inX8 tyX8_ok nmX8 (by decide) (mTT_mem tk_815 rfl) rfl rfl rfl (by decide +kernel) (fun _ => rfl) (fun _ => rfl) dX8_init_158 (by decide) h41 (by decide) (fun w42 e42 => ?_)
  have hc42 : cloW 64 w42 := by rw [e42]; exact hc41.set rfl
  have h42 : w42 44 = .inr (8, [.int 0, .int 0, .ref 45, .ref 46, .ref 47, .int 0, .int 0, .int 0, .ref 48, .ref 49, .ref 50, .ref 51, .ref 52, .ref 53, .ref 54, .ref 55, .ref 56, .int 0, .int 0, .int 0, .ref 57, .ref 58, .ref 59, .ref 60, .ref 61, .ref 62, .int 0, .ref 63, .null, .int 0, .int 0, .null, .int 0, .null, .null, .null]) := by rw [e42]; exact mUp_eq
  refine k_aload (pc := 161) dX8_init_161 rfl ?_
  refine k_iconst (pc := 162) (v := 5) dX8_init_162 (by decide) ?_
  refine k_newa1 (pc := 163) (N := 5) (n1 := 65) (cs1 := 20) (sl1 := 358) rfl rfl rfl (mTT_mem tk_128 rfl) dX8_init_163 (by decide) (by decide) (by decide) (by decide) (by decide) (by decide) hc42 rfl rfl (fun w43 e43 => ?_)
  have hc43 : cloW 65 w43 := by rw [e43]; exact hc42.push rfl
  have h43 : w43 44 = .inr (8, [.int 0, .int 0, .ref 45, .ref 46, .ref 47, .int 0, .int 0, .int 0, .ref 48, .ref 49, .ref 50, .ref 51, .ref 52, .ref 53, .ref 54, .ref 55, .ref 56, .int 0, .int 0, .int 0, .ref 57, .ref 58, .ref 59, .ref 60, .ref 61, .ref 62, .int 0, .ref 63, .null, .int 0, .int 0, .null, .int 0, .null, .null, .null]) := by rw [e43]; exact (mUp_ne (by decide)).trans h42
  refine k_putF1 (pc := 165) (kf := 28) (fs1 := [.int 0, .int 0, .ref 45, .ref 46, .ref 47, .int 0, .int 0, .int 0, .ref 48, .ref 49, .ref 50, .ref 51, .ref 52, .ref 53, .ref 54, .ref 55, .ref 56, .int 0, .int 0, .int 0, .ref 57, .ref 58, .ref 59, .ref 60, .ref 61, .ref 62, .int 0, .ref 63, .ref 64, .int 0, .int 0, .null, .int 0, .null, .null, .null]) (ty := .array .int) rfl tyX8 (C := RX8) (T := TX8) (N := 36) rfl inX8 tyX8_ok nmX8 (by decide) (mTT_mem tk_816 rfl) rfl rfl rfl (by decide +kernel) (fun _ => rfl) (fun _ => rfl) dX8_init_165 (by decide) h43 (by decide) (fun w44 e44 => ?_)
  have hc44 : cloW 65 w44 := by rw [e44]; exact hc43.set rfl
  have h44 : w44 44 = .inr (8, [.int 0, .int 0, .ref 45, .ref 46, .ref 47, .int 0, .int 0, .int 0, .ref 48, .ref 49, .ref 50, .ref 51, .ref 52, .ref 53, .ref 54, .ref 55, .ref 56, .int 0, .int 0, .int 0, .ref 57, .ref 58, .ref 59, .ref 60, .ref 61, .ref 62, .int 0, .ref 63, .ref 64, .int 0, .int 0, .null, .int 0, .null, .null, .null]) := by rw [e44]; exact mUp_eq
  refine k_aload (pc := 168) dX8_init_168 rfl ?_
  refine k_iconst (pc := 169) (v := 5) dX8_init_169 (by decide) ?_
  refine k_newa1 (pc := 170) (N := 5) (n1 := 66) (cs1 := 21) (sl1 := 363) rfl rfl rfl (mTT_mem tk_128 rfl) dX8_init_170 (by decide) (by decide) (by decide) (by decide) (by decide) (by decide) hc44 rfl rfl (fun w45 e45 => ?_)
  have hc45 : cloW 66 w45 := by rw [e45]; exact hc44.push rfl
  have h45 : w45 44 = .inr (8, [.int 0, .int 0, .ref 45, .ref 46, .ref 47, .int 0, .int 0, .int 0, .ref 48, .ref 49, .ref 50, .ref 51, .ref 52, .ref 53, .ref 54, .ref 55, .ref 56, .int 0, .int 0, .int 0, .ref 57, .ref 58, .ref 59, .ref 60, .ref 61, .ref 62, .int 0, .ref 63, .ref 64, .int 0, .int 0, .null, .int 0, .null, .null, .null]) := by rw [e45]; exact (mUp_ne (by decide)).trans h44
  refine k_putF1 (pc := 172) (kf := 31) (fs1 := [.int 0, .int 0, .ref 45, .ref 46, .ref 47, .int 0, .int 0, .int 0, .ref 48, .ref 49, .ref 50, .ref 51, .ref 52, .ref 53, .ref 54, .ref 55, .ref 56, .int 0, .int 0, .int 0, .ref 57, .ref 58, .ref 59, .ref 60, .ref 61, .ref 62, .int 0, .ref 63, .ref 64, .int 0, .int 0, .ref 65, .int 0, .null, .null, .null]) (ty := .array .int) rfl tyX8 (C := RX8) (T := TX8) (N := 36) rfl inX8 tyX8_ok nmX8 (by decide) (mTT_mem tk_819 rfl) rfl rfl rfl (by decide +kernel) (fun _ => rfl) (fun _ => rfl) dX8_init_172 (by decide) h45 (by decide) (fun w46 e46 => ?_)
  have hc46 : cloW 66 w46 := by rw [e46]; exact hc45.set rfl
  have h46 : w46 44 = .inr (8, [.int 0, .int 0, .ref 45, .ref 46, .ref 47, .int 0, .int 0, .int 0, .ref 48, .ref 49, .ref 50, .ref 51, .ref 52, .ref 53, .ref 54, .ref 55, .ref 56, .int 0, .int 0, .int 0, .ref 57, .ref 58, .ref 59, .ref 60, .ref 61, .ref 62, .int 0, .ref 63, .ref 64, .int 0, .int 0, .ref 65, .int 0, .null, .null, .null]) := by rw [e46]; exact mUp_eq
  refine k_aload (pc := 175) dX8_init_175 rfl ?_
  refine k_bipush (pc := 176) (v := 8) dX8_init_176 (by decide) ?_
  refine k_newa1 (pc := 178) (N := 8) (n1 := 67) (cs1 := 22) (sl1 := 371) rfl rfl rfl (mTT_mem tk_128 rfl) dX8_init_178 (by decide) (by decide) (by decide) (by decide) (by decide) (by decide) hc46 rfl rfl (fun w47 e47 => ?_)
  have hc47 : cloW 67 w47 := by rw [e47]; exact hc46.push rfl
  have h47 : w47 44 = .inr (8, [.int 0, .int 0, .ref 45, .ref 46, .ref 47, .int 0, .int 0, .int 0, .ref 48, .ref 49, .ref 50, .ref 51, .ref 52, .ref 53, .ref 54, .ref 55, .ref 56, .int 0, .int 0, .int 0, .ref 57, .ref 58, .ref 59, .ref 60, .ref 61, .ref 62, .int 0, .ref 63, .ref 64, .int 0, .int 0, .ref 65, .int 0, .null, .null, .null]) := by rw [e47]; exact (mUp_ne (by decide)).trans h46
  refine k_putF1 (pc := 180) (kf := 33) (fs1 := [.int 0, .int 0, .ref 45, .ref 46, .ref 47, .int 0, .int 0, .int 0, .ref 48, .ref 49, .ref 50, .ref 51, .ref 52, .ref 53, .ref 54, .ref 55, .ref 56, .int 0, .int 0, .int 0, .ref 57, .ref 58, .ref 59, .ref 60, .ref 61, .ref 62, .int 0, .ref 63, .ref 64, .int 0, .int 0, .ref 65, .int 0, .ref 66, .null, .null]) (ty := .array .int) rfl tyX8 (C := RX8) (T := TX8) (N := 36) rfl inX8 tyX8_ok nmX8 (by decide) (mTT_mem tk_821 rfl) rfl rfl rfl (by decide +kernel) (fun _ => rfl) (fun _ => rfl) dX8_init_180 (by decide) h47 (by decide) (fun w48 e48 => ?_)
  have hc48 : cloW 67 w48 := by rw [e48]; exact hc47.set rfl
  have h48 : w48 44 = .inr (8, [.int 0, .int 0, .ref 45, .ref 46, .ref 47, .int 0, .int 0, .int 0, .ref 48, .ref 49, .ref 50, .ref 51, .ref 52, .ref 53, .ref 54, .ref 55, .ref 56, .int 0, .int 0, .int 0, .ref 57, .ref 58, .ref 59, .ref 60, .ref 61, .ref 62, .int 0, .ref 63, .ref 64, .int 0, .int 0, .ref 65, .int 0, .ref 66, .null, .null]) := by rw [e48]; exact mUp_eq
  refine k_aload (pc := 183) dX8_init_183 rfl ?_
  refine k_bipush (pc := 184) (v := 8) dX8_init_184 (by decide) ?_
  refine k_newa1 (pc := 186) (N := 8) (n1 := 68) (cs1 := 23) (sl1 := 379) rfl rfl rfl (mTT_mem tk_128 rfl) dX8_init_186 (by decide) (by decide) (by decide) (by decide) (by decide) (by decide) hc48 rfl rfl (fun w49 e49 => ?_)
  have hc49 : cloW 68 w49 := by rw [e49]; exact hc48.push rfl
  have h49 : w49 44 = .inr (8, [.int 0, .int 0, .ref 45, .ref 46, .ref 47, .int 0, .int 0, .int 0, .ref 48, .ref 49, .ref 50, .ref 51, .ref 52, .ref 53, .ref 54, .ref 55, .ref 56, .int 0, .int 0, .int 0, .ref 57, .ref 58, .ref 59, .ref 60, .ref 61, .ref 62, .int 0, .ref 63, .ref 64, .int 0, .int 0, .ref 65, .int 0, .ref 66, .null, .null]) := by rw [e49]; exact (mUp_ne (by decide)).trans h48
  refine k_putF1 (pc := 188) (kf := 34) (fs1 := [.int 0, .int 0, .ref 45, .ref 46, .ref 47, .int 0, .int 0, .int 0, .ref 48, .ref 49, .ref 50, .ref 51, .ref 52, .ref 53, .ref 54, .ref 55, .ref 56, .int 0, .int 0, .int 0, .ref 57, .ref 58, .ref 59, .ref 60, .ref 61, .ref 62, .int 0, .ref 63, .ref 64, .int 0, .int 0, .ref 65, .int 0, .ref 66, .ref 67, .null]) (ty := .array .int) rfl tyX8 (C := RX8) (T := TX8) (N := 36) rfl inX8 tyX8_ok nmX8 (by decide) (mTT_mem tk_822 rfl) rfl rfl rfl (by decide +kernel) (fun _ => rfl) (fun _ => rfl) dX8_init_188 (by decide) h49 (by decide) (fun w50 e50 => ?_)
  have hc50 : cloW 68 w50 := by rw [e50]; exact hc49.set rfl
  have h50 : w50 44 = .inr (8, [.int 0, .int 0, .ref 45, .ref 46, .ref 47, .int 0, .int 0, .int 0, .ref 48, .ref 49, .ref 50, .ref 51, .ref 52, .ref 53, .ref 54, .ref 55, .ref 56, .int 0, .int 0, .int 0, .ref 57, .ref 58, .ref 59, .ref 60, .ref 61, .ref 62, .int 0, .ref 63, .ref 64, .int 0, .int 0, .ref 65, .int 0, .ref 66, .ref 67, .null]) := by rw [e50]; exact mUp_eq
  refine k_aload (pc := 191) dX8_init_191 rfl ?_
  refine k_bipush (pc := 192) (v := 8) dX8_init_192 (by decide) ?_
  refine k_newa1 (pc := 194) (N := 8) (n1 := 69) (cs1 := 24) (sl1 := 387) rfl rfl rfl (mTT_mem tk_128 rfl) dX8_init_194 (by decide) (by decide) (by decide) (by decide) (by decide) (by decide) hc50 rfl rfl (fun w51 e51 => ?_)
  have hc51 : cloW 69 w51 := by rw [e51]; exact hc50.push rfl
  have h51 : w51 44 = .inr (8, [.int 0, .int 0, .ref 45, .ref 46, .ref 47, .int 0, .int 0, .int 0, .ref 48, .ref 49, .ref 50, .ref 51, .ref 52, .ref 53, .ref 54, .ref 55, .ref 56, .int 0, .int 0, .int 0, .ref 57, .ref 58, .ref 59, .ref 60, .ref 61, .ref 62, .int 0, .ref 63, .ref 64, .int 0, .int 0, .ref 65, .int 0, .ref 66, .ref 67, .null]) := by rw [e51]; exact (mUp_ne (by decide)).trans h50
  refine k_putF1 (pc := 196) (kf := 35) (fs1 := [.int 0, .int 0, .ref 45, .ref 46, .ref 47, .int 0, .int 0, .int 0, .ref 48, .ref 49, .ref 50, .ref 51, .ref 52, .ref 53, .ref 54, .ref 55, .ref 56, .int 0, .int 0, .int 0, .ref 57, .ref 58, .ref 59, .ref 60, .ref 61, .ref 62, .int 0, .ref 63, .ref 64, .int 0, .int 0, .ref 65, .int 0, .ref 66, .ref 67, .ref 68]) (ty := .array .int) rfl tyX8 (C := RX8) (T := TX8) (N := 36) rfl inX8 tyX8_ok nmX8 (by decide) (mTT_mem tk_823 rfl) rfl rfl rfl (by decide +kernel) (fun _ => rfl) (fun _ => rfl) dX8_init_196 (by decide) h51 (by decide) (fun w52 e52 => ?_)
  have hc52 : cloW 69 w52 := by rw [e52]; exact hc51.set rfl
  have h52 : w52 44 = .inr (8, [.int 0, .int 0, .ref 45, .ref 46, .ref 47, .int 0, .int 0, .int 0, .ref 48, .ref 49, .ref 50, .ref 51, .ref 52, .ref 53, .ref 54, .ref 55, .ref 56, .int 0, .int 0, .int 0, .ref 57, .ref 58, .ref 59, .ref 60, .ref 61, .ref 62, .int 0, .ref 63, .ref 64, .int 0, .int 0, .ref 65, .int 0, .ref 66, .ref 67, .ref 68]) := by rw [e52]; exact mUp_eq
  exact k_ret (pc := 199) dX8_init_199 rfl (by rw [e52, e51, e50, e49, e48, e47, e46, e45, e44, e43, e42, e41, e40, e39, e38, e37, e36, e35, e34, e33, e32, e31, e30, e29, e28, e27, e26, e25, e24, e23, e22, e21, e20, e19, e18, e17, e16, e15, e14, e13, e12, e11, e10, e9, e8, e7, e6, e5, e4, e3, e2, e1]; rfl) (by decide) (by decide)
def kWm : mW := mUp (kw_X (mUp (fun _ => .inl (0, fun _ => 0)) 0 (.inr (7, [.null, .null, .null, .null, .null, .null, .null, .int 0, .int 0])))) 44 (.inr (8, [.int 0, .int 0, .null, .null, .null, .int 0, .int 0, .int 0, .null, .null, .null, .null, .null, .null, .null, .null, .null, .int 0, .int 0, .int 0, .null, .null, .null, .null, .null, .null, .int 0, .null, .null, .int 0, .int 0, .null, .int 0, .null, .null, .null]))
def kWf : mW := kw_M kWm
theorem kWf_0 : kWf 0 = .inr (7, [.ref 1, .ref 5, .ref 7, .ref 17, .ref 30, .ref 34, .ref 40, .int 0, .int 0]) := rfl
theorem kWf_1 : kWf 1 = .inr (5, [.ref 2, .ref 3, .ref 4]) := rfl
theorem kWf_2 : kWf 2 = .inl (4, upd (upd (upd (upd (fun _ => 0) 0 (-1)) 1 (-1)) 2 (-1)) 3 (-1)) := rfl
theorem kWf_3 : kWf 3 = .inl (4, fun _ => 0) := rfl
theorem kWf_4 : kWf 4 = .inl (240, fun _ => 0) := rfl
theorem kWf_5 : kWf 5 = .inr (6, [.ref 6, .int 0, .int 0, .int 0]) := rfl
theorem kWf_6 : kWf 6 = .inl (60, fun _ => 0) := rfl
theorem kWf_7 : kWf 7 = .inr (0, [.int 0, .int 0, .int 0, .ref 8, .ref 9, .ref 10, .ref 11, .ref 12, .ref 13, .ref 14, .ref 15, .ref 16]) := rfl
theorem kWf_8 : kWf 8 = .inl (5, fun _ => 0) := rfl
theorem kWf_9 : kWf 9 = .inl (5, fun _ => 0) := rfl
theorem kWf_10 : kWf 10 = .inl (5, fun _ => 0) := rfl
theorem kWf_11 : kWf 11 = .inl (5, fun _ => 0) := rfl
theorem kWf_12 : kWf 12 = .inl (5, fun _ => 0) := rfl
theorem kWf_13 : kWf 13 = .inl (5, fun _ => 0) := rfl
theorem kWf_14 : kWf 14 = .inl (5, fun _ => 0) := rfl
theorem kWf_15 : kWf 15 = .inl (5, fun _ => 0) := rfl
theorem kWf_16 : kWf 16 = .inl (5, fun _ => 0) := rfl
theorem kWf_17 : kWf 17 = .inr (4, [.ref 18, .ref 28, .ref 29, .int 0, .int 0, .int 0]) := rfl
theorem kWf_18 : kWf 18 = .inr (0, [.int 0, .int 0, .int 0, .ref 19, .ref 20, .ref 21, .ref 22, .ref 23, .ref 24, .ref 25, .ref 26, .ref 27]) := rfl
theorem kWf_19 : kWf 19 = .inl (5, fun _ => 0) := rfl
theorem kWf_20 : kWf 20 = .inl (5, fun _ => 0) := rfl
theorem kWf_21 : kWf 21 = .inl (5, fun _ => 0) := rfl
theorem kWf_22 : kWf 22 = .inl (5, fun _ => 0) := rfl
theorem kWf_23 : kWf 23 = .inl (5, fun _ => 0) := rfl
theorem kWf_24 : kWf 24 = .inl (5, fun _ => 0) := rfl
theorem kWf_25 : kWf 25 = .inl (5, fun _ => 0) := rfl
theorem kWf_26 : kWf 26 = .inl (5, fun _ => 0) := rfl
theorem kWf_27 : kWf 27 = .inl (5, fun _ => 0) := rfl
theorem kWf_28 : kWf 28 = .inl (20, fun _ => 0) := rfl
theorem kWf_29 : kWf 29 = .inl (20, fun _ => 0) := rfl
theorem kWf_30 : kWf 30 = .inr (1, [.ref 31, .ref 32, .ref 33, .int 0, .int 0]) := rfl
theorem kWf_31 : kWf 31 = .inl (5, fun _ => 0) := rfl
theorem kWf_32 : kWf 32 = .inl (5, fun _ => 0) := rfl
theorem kWf_33 : kWf 33 = .inl (5, fun _ => 0) := rfl
theorem kWf_34 : kWf 34 = .inr (2, [.ref 35, .ref 36, .ref 37, .ref 38, .ref 39, .int 0, .int 0]) := rfl
theorem kWf_35 : kWf 35 = .inl (5, fun _ => 0) := rfl
theorem kWf_36 : kWf 36 = .inl (5, fun _ => 0) := rfl
theorem kWf_37 : kWf 37 = .inl (5, fun _ => 0) := rfl
theorem kWf_38 : kWf 38 = .inl (5, fun _ => 0) := rfl
theorem kWf_39 : kWf 39 = .inl (5, fun _ => 0) := rfl
theorem kWf_40 : kWf 40 = .inr (3, [.ref 41, .ref 42, .ref 43, .int 0]) := rfl
theorem kWf_41 : kWf 41 = .inl (8, fun _ => 0) := rfl
theorem kWf_42 : kWf 42 = .inl (8, fun _ => 0) := rfl
theorem kWf_43 : kWf 43 = .inl (8, fun _ => 0) := rfl
theorem kWf_44 : kWf 44 = .inr (8, [.int 0, .int 0, .ref 45, .ref 46, .ref 47, .int 0, .int 0, .int 0, .ref 48, .ref 49, .ref 50, .ref 51, .ref 52, .ref 53, .ref 54, .ref 55, .ref 56, .int 0, .int 0, .int 0, .ref 57, .ref 58, .ref 59, .ref 60, .ref 61, .ref 62, .int 0, .ref 63, .ref 64, .int 0, .int 0, .ref 65, .int 0, .ref 66, .ref 67, .ref 68]) := rfl
theorem kWf_45 : kWf 45 = .inl (4, upd (upd (upd (upd (fun _ => 0) 0 (-9)) 1 (-9)) 2 (-9)) 3 (-9)) := rfl
theorem kWf_46 : kWf 46 = .inl (4, fun _ => 0) := rfl
theorem kWf_47 : kWf 47 = .inl (240, fun _ => 0) := rfl
theorem kWf_48 : kWf 48 = .inl (5, fun _ => 0) := rfl
theorem kWf_49 : kWf 49 = .inl (5, fun _ => 0) := rfl
theorem kWf_50 : kWf 50 = .inl (5, fun _ => 0) := rfl
theorem kWf_51 : kWf 51 = .inl (5, fun _ => 0) := rfl
theorem kWf_52 : kWf 52 = .inl (5, fun _ => 0) := rfl
theorem kWf_53 : kWf 53 = .inl (5, fun _ => 0) := rfl
theorem kWf_54 : kWf 54 = .inl (5, fun _ => 0) := rfl
theorem kWf_55 : kWf 55 = .inl (5, fun _ => 0) := rfl
theorem kWf_56 : kWf 56 = .inl (5, fun _ => 0) := rfl
theorem kWf_57 : kWf 57 = .inl (20, fun _ => 0) := rfl
theorem kWf_58 : kWf 58 = .inl (15, fun _ => 0) := rfl
theorem kWf_59 : kWf 59 = .inl (5, fun _ => 0) := rfl
theorem kWf_60 : kWf 60 = .inl (5, fun _ => 0) := rfl
theorem kWf_61 : kWf 61 = .inl (5, fun _ => 0) := rfl
theorem kWf_62 : kWf 62 = .inl (5, fun _ => 0) := rfl
theorem kWf_63 : kWf 63 = .inl (5, fun _ => 0) := rfl
theorem kWf_64 : kWf 64 = .inl (5, fun _ => 0) := rfl
theorem kWf_65 : kWf 65 = .inl (5, fun _ => 0) := rfl
theorem kWf_66 : kWf 66 = .inl (8, fun _ => 0) := rfl
theorem kWf_67 : kWf 67 = .inl (8, fun _ => 0) := rfl
theorem kWf_68 : kWf 68 = .inl (8, fun _ => 0) := rfl
