set_option maxRecDepth 100000 in
theorem m_64 : (Cond.initialized R_Lw) ∈ GW := gw_in (List.mem_of_getElem? (i := 64) (by decide +kernel)) rfl
set_option maxRecDepth 100000 in
theorem m_70 : (Cond.initialized "java/lang/Math") ∈ GW := gw_in (List.mem_of_getElem? (i := 70) (by decide +kernel)) rfl
set_option maxRecDepth 100000 in
theorem m_76 : (Cond.classLink R_Lw 7 R_V) ∈ GW := gw_in (List.mem_of_getElem? (i := 76) (by decide +kernel)) rfl
set_option maxRecDepth 100000 in
theorem m_77 : (Cond.instantiable R_V 11) ∈ GW := gw_in (List.mem_of_getElem? (i := 77) (by decide +kernel)) rfl
set_option maxRecDepth 100000 in
theorem m_78 : (Cond.methodLink R_Lw 15 y_V_init) ∈ GW := gw_in (List.mem_of_getElem? (i := 78) (by decide +kernel)) rfl
set_option maxRecDepth 100000 in
theorem m_79 : (Cond.instanceMethod y_V_init) ∈ GW := gw_in (List.mem_of_getElem? (i := 79) (by decide +kernel)) rfl
set_option maxRecDepth 100000 in
theorem m_80 : (Cond.code y_V_init prog_1_method_1_code 2 none) ∈ GW := gw_in (List.mem_of_getElem? (i := 80) rfl) rfl
set_option maxRecDepth 100000 in
theorem m_81 : (Cond.methodLink R_V 3 Lib.objectInit) ∈ GW := gw_in (List.mem_of_getElem? (i := 81) (by decide +kernel)) rfl
set_option maxRecDepth 100000 in
theorem m_82 : (Cond.instanceMethod Lib.objectInit) ∈ GW := gw_in (List.mem_of_getElem? (i := 82) (by decide +kernel)) rfl
set_option maxRecDepth 100000 in
theorem m_83 : (Cond.code Lib.objectInit object_method_1_code 1 none) ∈ GW := gw_in (List.mem_of_getElem? (i := 83) rfl) rfl
set_option maxRecDepth 100000 in
theorem m_84 : (Cond.classLink R_V 9 R_Me) ∈ GW := gw_in (List.mem_of_getElem? (i := 84) (by decide +kernel)) rfl
set_option maxRecDepth 100000 in
theorem m_85 : (Cond.instantiable R_Me 2) ∈ GW := gw_in (List.mem_of_getElem? (i := 85) (by decide +kernel)) rfl
set_option maxRecDepth 100000 in
theorem m_86 : (Cond.methodLinkNest R_V 11 y_Me_init R_V) ∈ nestW := nest_in (List.mem_of_getElem? (i := 86) (by decide +kernel)) rfl
set_option maxRecDepth 100000 in
theorem m_87 : (Cond.instanceMethod y_Me_init) ∈ GW := gw_in (List.mem_of_getElem? (i := 87) (by decide +kernel)) rfl
set_option maxRecDepth 100000 in
theorem m_88 : (Cond.code y_Me_init prog_5_method_1_code 1 none) ∈ GW := gw_in (List.mem_of_getElem? (i := 88) rfl) rfl
set_option maxRecDepth 100000 in
theorem m_89 : (Cond.methodLink R_Me 3 Lib.objectInit) ∈ GW := gw_in (List.mem_of_getElem? (i := 89) (by decide +kernel)) rfl
set_option maxRecDepth 100000 in
theorem m_99 : (Cond.arrayClass .long) ∈ GW := gw_in (List.mem_of_getElem? (i := 99) (by decide +kernel)) rfl
set_option maxRecDepth 100000 in
theorem m_100 : (Cond.classLink R_V 16 R_Ca) ∈ GW := gw_in (List.mem_of_getElem? (i := 100) (by decide +kernel)) rfl
set_option maxRecDepth 100000 in
theorem m_101 : (Cond.instantiable R_Ca 2) ∈ GW := gw_in (List.mem_of_getElem? (i := 101) (by decide +kernel)) rfl
set_option maxRecDepth 100000 in
theorem m_102 : (Cond.methodLinkNest R_V 18 y_Ca_init R_V) ∈ nestW := nest_in (List.mem_of_getElem? (i := 102) (by decide +kernel)) rfl
set_option maxRecDepth 100000 in
theorem m_103 : (Cond.instanceMethod y_Ca_init) ∈ GW := gw_in (List.mem_of_getElem? (i := 103) (by decide +kernel)) rfl
set_option maxRecDepth 100000 in
theorem m_104 : (Cond.code y_Ca_init prog_2_method_1_code 1 none) ∈ GW := gw_in (List.mem_of_getElem? (i := 104) rfl) rfl
set_option maxRecDepth 100000 in
theorem m_105 : (Cond.methodLink R_Ca 3 Lib.objectInit) ∈ GW := gw_in (List.mem_of_getElem? (i := 105) (by decide +kernel)) rfl
set_option maxRecDepth 100000 in
theorem m_115 : (Cond.classLink R_V 26 R_Re) ∈ GW := gw_in (List.mem_of_getElem? (i := 115) (by decide +kernel)) rfl
set_option maxRecDepth 100000 in
theorem m_116 : (Cond.instantiable R_Re 2) ∈ GW := gw_in (List.mem_of_getElem? (i := 116) (by decide +kernel)) rfl
set_option maxRecDepth 100000 in
theorem m_117 : (Cond.methodLinkNest R_V 28 y_Re_init R_V) ∈ nestW := nest_in (List.mem_of_getElem? (i := 117) (by decide +kernel)) rfl
set_option maxRecDepth 100000 in
theorem m_118 : (Cond.instanceMethod y_Re_init) ∈ GW := gw_in (List.mem_of_getElem? (i := 118) (by decide +kernel)) rfl
set_option maxRecDepth 100000 in
theorem m_119 : (Cond.code y_Re_init prog_6_method_1_code 1 none) ∈ GW := gw_in (List.mem_of_getElem? (i := 119) rfl) rfl
set_option maxRecDepth 100000 in
theorem m_120 : (Cond.methodLink R_Re 3 Lib.objectInit) ∈ GW := gw_in (List.mem_of_getElem? (i := 120) (by decide +kernel)) rfl
set_option maxRecDepth 100000 in
theorem m_130 : (Cond.arrayClass .int) ∈ GW := gw_in (List.mem_of_getElem? (i := 130) (by decide +kernel)) rfl
set_option maxRecDepth 100000 in
theorem m_131 : (Cond.classLink R_V 33 R_Fa) ∈ GW := gw_in (List.mem_of_getElem? (i := 131) (by decide +kernel)) rfl
set_option maxRecDepth 100000 in
theorem m_132 : (Cond.instantiable R_Fa 4) ∈ GW := gw_in (List.mem_of_getElem? (i := 132) (by decide +kernel)) rfl
set_option maxRecDepth 100000 in
theorem m_133 : (Cond.methodLinkNest R_V 35 y_Fa_init R_V) ∈ nestW := nest_in (List.mem_of_getElem? (i := 133) (by decide +kernel)) rfl
set_option maxRecDepth 100000 in
theorem m_134 : (Cond.instanceMethod y_Fa_init) ∈ GW := gw_in (List.mem_of_getElem? (i := 134) (by decide +kernel)) rfl
set_option maxRecDepth 100000 in
theorem m_135 : (Cond.code y_Fa_init prog_4_method_1_code 1 none) ∈ GW := gw_in (List.mem_of_getElem? (i := 135) rfl) rfl
set_option maxRecDepth 100000 in
theorem m_136 : (Cond.methodLink R_Fa 3 Lib.objectInit) ∈ GW := gw_in (List.mem_of_getElem? (i := 136) (by decide +kernel)) rfl
set_option maxRecDepth 100000 in
theorem m_154 : (Cond.methodLink R_V 40 Lib.Math.min.name) ∈ GW := gw_in (List.mem_of_getElem? (i := 154) (by decide +kernel)) rfl
set_option maxRecDepth 100000 in
theorem m_155 : (Cond.static Lib.Math.min.name) ∈ GW := gw_in (List.mem_of_getElem? (i := 155) (by decide +kernel)) rfl
set_option maxRecDepth 100000 in
theorem m_156 : (Cond.code Lib.Math.min.name prog_11_method_69_code 2 (some .int)) ∈ GW := gw_in (List.mem_of_getElem? (i := 156) rfl) rfl
set_option maxRecDepth 100000 in
theorem m_157 : (Cond.methodLink R_V 46 Lib.Math.max.name) ∈ GW := gw_in (List.mem_of_getElem? (i := 157) (by decide +kernel)) rfl
set_option maxRecDepth 100000 in
theorem m_158 : (Cond.static Lib.Math.max.name) ∈ GW := gw_in (List.mem_of_getElem? (i := 158) (by decide +kernel)) rfl
set_option maxRecDepth 100000 in
theorem m_159 : (Cond.code Lib.Math.max.name prog_11_method_65_code 2 (some .int)) ∈ GW := gw_in (List.mem_of_getElem? (i := 159) rfl) rfl
set_option maxRecDepth 100000 in
theorem m_194 : (Cond.methodLink R_Lw 21 y_V_write) ∈ GW := gw_in (List.mem_of_getElem? (i := 194) (by decide +kernel)) rfl
set_option maxRecDepth 100000 in
theorem m_195 : (Cond.instanceMethod y_V_write) ∈ GW := gw_in (List.mem_of_getElem? (i := 195) (by decide +kernel)) rfl
set_option maxRecDepth 100000 in
theorem m_196 : (Cond.selects R_V y_V_write y_V_write) ∈ GW := gw_in (List.mem_of_getElem? (i := 196) (by decide +kernel)) rfl
set_option maxRecDepth 100000 in
theorem m_197 : (Cond.code y_V_write prog_1_method_2_code 3 (some .boolean)) ∈ GW := gw_in (List.mem_of_getElem? (i := 197) rfl) rfl
set_option maxRecDepth 100000 in
theorem m_230 : (Cond.methodLink R_Lw 26 y_V_set) ∈ GW := gw_in (List.mem_of_getElem? (i := 230) (by decide +kernel)) rfl
set_option maxRecDepth 100000 in
theorem m_231 : (Cond.instanceMethod y_V_set) ∈ GW := gw_in (List.mem_of_getElem? (i := 231) (by decide +kernel)) rfl
set_option maxRecDepth 100000 in
theorem m_232 : (Cond.selects R_V y_V_set y_V_set) ∈ GW := gw_in (List.mem_of_getElem? (i := 232) (by decide +kernel)) rfl
set_option maxRecDepth 100000 in
theorem m_233 : (Cond.code y_V_set prog_1_method_3_code 3 (some .boolean)) ∈ GW := gw_in (List.mem_of_getElem? (i := 233) rfl) rfl
set_option maxRecDepth 100000 in
theorem m_241 : (Cond.methodLink R_Lw 30 y_V_register) ∈ GW := gw_in (List.mem_of_getElem? (i := 241) (by decide +kernel)) rfl
set_option maxRecDepth 100000 in
theorem m_242 : (Cond.instanceMethod y_V_register) ∈ GW := gw_in (List.mem_of_getElem? (i := 242) (by decide +kernel)) rfl
set_option maxRecDepth 100000 in
theorem m_243 : (Cond.selects R_V y_V_register y_V_register) ∈ GW := gw_in (List.mem_of_getElem? (i := 243) (by decide +kernel)) rfl
set_option maxRecDepth 100000 in
theorem m_244 : (Cond.code y_V_register prog_1_method_4_code 2 (some .int)) ∈ GW := gw_in (List.mem_of_getElem? (i := 244) rfl) rfl
set_option maxRecDepth 100000 in
theorem m_249 : (Cond.methodLink R_Lw 35 y_V_look) ∈ GW := gw_in (List.mem_of_getElem? (i := 249) (by decide +kernel)) rfl
set_option maxRecDepth 100000 in
theorem m_250 : (Cond.instanceMethod y_V_look) ∈ GW := gw_in (List.mem_of_getElem? (i := 250) (by decide +kernel)) rfl
set_option maxRecDepth 100000 in
theorem m_251 : (Cond.selects R_V y_V_look y_V_look) ∈ GW := gw_in (List.mem_of_getElem? (i := 251) (by decide +kernel)) rfl
set_option maxRecDepth 100000 in
theorem m_252 : (Cond.code y_V_look prog_1_method_5_code 2 (some .long)) ∈ GW := gw_in (List.mem_of_getElem? (i := 252) rfl) rfl
set_option maxRecDepth 100000 in
theorem m_265 : (Cond.methodLink R_Lw 40 y_V_bits) ∈ GW := gw_in (List.mem_of_getElem? (i := 265) (by decide +kernel)) rfl
set_option maxRecDepth 100000 in
theorem m_266 : (Cond.instanceMethod y_V_bits) ∈ GW := gw_in (List.mem_of_getElem? (i := 266) (by decide +kernel)) rfl
set_option maxRecDepth 100000 in
theorem m_267 : (Cond.selects R_V y_V_bits y_V_bits) ∈ GW := gw_in (List.mem_of_getElem? (i := 267) (by decide +kernel)) rfl
set_option maxRecDepth 100000 in
theorem m_268 : (Cond.code y_V_bits prog_1_method_6_code 2 (some .long)) ∈ GW := gw_in (List.mem_of_getElem? (i := 268) rfl) rfl
set_option maxRecDepth 100000 in
theorem m_270 : (Cond.methodLink R_Lw 44 y_V_flip) ∈ GW := gw_in (List.mem_of_getElem? (i := 270) (by decide +kernel)) rfl
set_option maxRecDepth 100000 in
theorem m_271 : (Cond.instanceMethod y_V_flip) ∈ GW := gw_in (List.mem_of_getElem? (i := 271) (by decide +kernel)) rfl
set_option maxRecDepth 100000 in
theorem m_272 : (Cond.selects R_V y_V_flip y_V_flip) ∈ GW := gw_in (List.mem_of_getElem? (i := 272) (by decide +kernel)) rfl
set_option maxRecDepth 100000 in
theorem m_273 : (Cond.code y_V_flip prog_1_method_7_code 3 (some .boolean)) ∈ GW := gw_in (List.mem_of_getElem? (i := 273) rfl) rfl
set_option maxRecDepth 100000 in
theorem m_281 : (Cond.methodLink R_Lw 48 y_V_plan) ∈ GW := gw_in (List.mem_of_getElem? (i := 281) (by decide +kernel)) rfl
set_option maxRecDepth 100000 in
theorem m_282 : (Cond.instanceMethod y_V_plan) ∈ GW := gw_in (List.mem_of_getElem? (i := 282) (by decide +kernel)) rfl
set_option maxRecDepth 100000 in
theorem m_283 : (Cond.selects R_V y_V_plan y_V_plan) ∈ GW := gw_in (List.mem_of_getElem? (i := 283) (by decide +kernel)) rfl
set_option maxRecDepth 100000 in
theorem m_284 : (Cond.code y_V_plan prog_1_method_8_code 4 (some .boolean)) ∈ GW := gw_in (List.mem_of_getElem? (i := 284) rfl) rfl
set_option maxRecDepth 100000 in
theorem m_289 : (Cond.methodLink R_Lw 53 y_V_planned) ∈ GW := gw_in (List.mem_of_getElem? (i := 289) (by decide +kernel)) rfl
set_option maxRecDepth 100000 in
theorem m_290 : (Cond.instanceMethod y_V_planned) ∈ GW := gw_in (List.mem_of_getElem? (i := 290) (by decide +kernel)) rfl
set_option maxRecDepth 100000 in
theorem m_291 : (Cond.selects R_V y_V_planned y_V_planned) ∈ GW := gw_in (List.mem_of_getElem? (i := 291) (by decide +kernel)) rfl
set_option maxRecDepth 100000 in
theorem m_292 : (Cond.code y_V_planned prog_1_method_9_code 1 (some .int)) ∈ GW := gw_in (List.mem_of_getElem? (i := 292) rfl) rfl
set_option maxRecDepth 100000 in
theorem m_293 : (Cond.methodLink R_Lw 58 y_V_run) ∈ GW := gw_in (List.mem_of_getElem? (i := 293) (by decide +kernel)) rfl
set_option maxRecDepth 100000 in
theorem m_294 : (Cond.instanceMethod y_V_run) ∈ GW := gw_in (List.mem_of_getElem? (i := 294) (by decide +kernel)) rfl
set_option maxRecDepth 100000 in
theorem m_295 : (Cond.selects R_V y_V_run y_V_run) ∈ GW := gw_in (List.mem_of_getElem? (i := 295) (by decide +kernel)) rfl
set_option maxRecDepth 100000 in
theorem m_296 : (Cond.code y_V_run prog_1_method_10_code 3 (some .int)) ∈ GW := gw_in (List.mem_of_getElem? (i := 296) rfl) rfl
set_option maxRecDepth 100000 in
theorem m_474 : (Cond.methodLink R_Lw 62 y_V_cause) ∈ GW := gw_in (List.mem_of_getElem? (i := 474) (by decide +kernel)) rfl
set_option maxRecDepth 100000 in
theorem m_475 : (Cond.instanceMethod y_V_cause) ∈ GW := gw_in (List.mem_of_getElem? (i := 475) (by decide +kernel)) rfl
set_option maxRecDepth 100000 in
theorem m_476 : (Cond.selects R_V y_V_cause y_V_cause) ∈ GW := gw_in (List.mem_of_getElem? (i := 476) (by decide +kernel)) rfl
set_option maxRecDepth 100000 in
theorem m_477 : (Cond.code y_V_cause prog_1_method_11_code 1 (some .int)) ∈ GW := gw_in (List.mem_of_getElem? (i := 477) rfl) rfl
set_option maxRecDepth 100000 in
theorem m_478 : (Cond.methodLink R_Lw 66 y_V_value) ∈ GW := gw_in (List.mem_of_getElem? (i := 478) (by decide +kernel)) rfl
set_option maxRecDepth 100000 in
theorem m_479 : (Cond.instanceMethod y_V_value) ∈ GW := gw_in (List.mem_of_getElem? (i := 479) (by decide +kernel)) rfl
set_option maxRecDepth 100000 in
theorem m_480 : (Cond.selects R_V y_V_value y_V_value) ∈ GW := gw_in (List.mem_of_getElem? (i := 480) (by decide +kernel)) rfl
set_option maxRecDepth 100000 in
theorem m_481 : (Cond.code y_V_value prog_1_method_12_code 1 (some .int)) ∈ GW := gw_in (List.mem_of_getElem? (i := 481) rfl) rfl
set_option maxRecDepth 100000 in
theorem m_482 : (Cond.methodLink R_Lw 70 y_V_resume) ∈ GW := gw_in (List.mem_of_getElem? (i := 482) (by decide +kernel)) rfl
set_option maxRecDepth 100000 in
theorem m_483 : (Cond.instanceMethod y_V_resume) ∈ GW := gw_in (List.mem_of_getElem? (i := 483) (by decide +kernel)) rfl
set_option maxRecDepth 100000 in
theorem m_484 : (Cond.selects R_V y_V_resume y_V_resume) ∈ GW := gw_in (List.mem_of_getElem? (i := 484) (by decide +kernel)) rfl
set_option maxRecDepth 100000 in
theorem m_485 : (Cond.code y_V_resume prog_1_method_13_code 2 (some .boolean)) ∈ GW := gw_in (List.mem_of_getElem? (i := 485) rfl) rfl
set_option maxRecDepth 100000 in
theorem m_486 : (Cond.methodLink R_Lw 75 y_V_cycles) ∈ GW := gw_in (List.mem_of_getElem? (i := 486) (by decide +kernel)) rfl
set_option maxRecDepth 100000 in
theorem m_487 : (Cond.instanceMethod y_V_cycles) ∈ GW := gw_in (List.mem_of_getElem? (i := 487) (by decide +kernel)) rfl
set_option maxRecDepth 100000 in
theorem m_488 : (Cond.selects R_V y_V_cycles y_V_cycles) ∈ GW := gw_in (List.mem_of_getElem? (i := 488) (by decide +kernel)) rfl
set_option maxRecDepth 100000 in
theorem m_489 : (Cond.code y_V_cycles prog_1_method_14_code 1 (some .int)) ∈ GW := gw_in (List.mem_of_getElem? (i := 489) rfl) rfl
set_option maxRecDepth 100000 in
theorem m_490 : (Cond.methodLink R_Lw 79 y_V_count) ∈ GW := gw_in (List.mem_of_getElem? (i := 490) (by decide +kernel)) rfl
set_option maxRecDepth 100000 in
theorem m_491 : (Cond.instanceMethod y_V_count) ∈ GW := gw_in (List.mem_of_getElem? (i := 491) (by decide +kernel)) rfl
set_option maxRecDepth 100000 in
theorem m_492 : (Cond.selects R_V y_V_count y_V_count) ∈ GW := gw_in (List.mem_of_getElem? (i := 492) (by decide +kernel)) rfl
set_option maxRecDepth 100000 in
theorem m_493 : (Cond.code y_V_count prog_1_method_15_code 2 (some .int)) ∈ GW := gw_in (List.mem_of_getElem? (i := 493) rfl) rfl
set_option maxRecDepth 100000 in
theorem m_494 : (Cond.methodLink R_Lw 9 y_Lw_cell) ∈ GW := gw_in (List.mem_of_getElem? (i := 494) (by decide +kernel)) rfl
set_option maxRecDepth 100000 in
theorem m_495 : (Cond.static y_Lw_cell) ∈ GW := gw_in (List.mem_of_getElem? (i := 495) (by decide +kernel)) rfl
set_option maxRecDepth 100000 in
theorem m_496 : (Cond.code y_Lw_cell method_2_code 2 (some .int)) ∈ GW := gw_in (List.mem_of_getElem? (i := 496) rfl) rfl
set_option maxRecDepth 100000 in
theorem m_497 : (Cond.classLink R_Lw 18 R_Mo) ∈ GW := gw_in (List.mem_of_getElem? (i := 497) (by decide +kernel)) rfl
set_option maxRecDepth 100000 in
theorem m_498 : (Cond.instantiable R_Mo 18) ∈ GW := gw_in (List.mem_of_getElem? (i := 498) (by decide +kernel)) rfl
set_option maxRecDepth 100000 in
theorem m_499 : (Cond.methodLink R_Lw 20 y_Mo_init) ∈ GW := gw_in (List.mem_of_getElem? (i := 499) (by decide +kernel)) rfl
set_option maxRecDepth 100000 in
theorem m_500 : (Cond.instanceMethod y_Mo_init) ∈ GW := gw_in (List.mem_of_getElem? (i := 500) (by decide +kernel)) rfl
set_option maxRecDepth 100000 in
theorem m_501 : (Cond.code y_Mo_init prog_8_method_1_code 2 none) ∈ GW := gw_in (List.mem_of_getElem? (i := 501) rfl) rfl
set_option maxRecDepth 100000 in
theorem m_502 : (Cond.methodLink R_Mo 1 Lib.objectInit) ∈ GW := gw_in (List.mem_of_getElem? (i := 502) (by decide +kernel)) rfl
set_option maxRecDepth 100000 in
theorem m_558 : (Cond.methodLink R_Lw 61 y_Mo_run) ∈ GW := gw_in (List.mem_of_getElem? (i := 558) (by decide +kernel)) rfl
set_option maxRecDepth 100000 in
theorem m_559 : (Cond.instanceMethod y_Mo_run) ∈ GW := gw_in (List.mem_of_getElem? (i := 559) (by decide +kernel)) rfl
set_option maxRecDepth 100000 in
theorem m_560 : (Cond.selects R_Mo y_Mo_run y_Mo_run) ∈ GW := gw_in (List.mem_of_getElem? (i := 560) (by decide +kernel)) rfl
set_option maxRecDepth 100000 in
theorem m_561 : (Cond.code y_Mo_run prog_8_method_42_code 3 (some .int)) ∈ GW := gw_in (List.mem_of_getElem? (i := 561) rfl) rfl
set_option maxRecDepth 100000 in
theorem m_715 : (Cond.methodLink R_Lw 74 y_Mo_resume) ∈ GW := gw_in (List.mem_of_getElem? (i := 715) (by decide +kernel)) rfl
set_option maxRecDepth 100000 in
theorem m_716 : (Cond.instanceMethod y_Mo_resume) ∈ GW := gw_in (List.mem_of_getElem? (i := 716) (by decide +kernel)) rfl
set_option maxRecDepth 100000 in
theorem m_717 : (Cond.selects R_Mo y_Mo_resume y_Mo_resume) ∈ GW := gw_in (List.mem_of_getElem? (i := 717) (by decide +kernel)) rfl
set_option maxRecDepth 100000 in
theorem m_718 : (Cond.code y_Mo_resume prog_8_method_43_code 2 (some .boolean)) ∈ GW := gw_in (List.mem_of_getElem? (i := 718) rfl) rfl
set_option maxRecDepth 100000 in
theorem m_719 : (Cond.methodLink R_Lw 25 y_Mo_write) ∈ GW := gw_in (List.mem_of_getElem? (i := 719) (by decide +kernel)) rfl
set_option maxRecDepth 100000 in
theorem m_720 : (Cond.instanceMethod y_Mo_write) ∈ GW := gw_in (List.mem_of_getElem? (i := 720) (by decide +kernel)) rfl
set_option maxRecDepth 100000 in
theorem m_721 : (Cond.selects R_Mo y_Mo_write y_Mo_write) ∈ GW := gw_in (List.mem_of_getElem? (i := 721) (by decide +kernel)) rfl
set_option maxRecDepth 100000 in
theorem m_722 : (Cond.code y_Mo_write prog_8_method_44_code 4 (some .boolean)) ∈ GW := gw_in (List.mem_of_getElem? (i := 722) rfl) rfl
set_option maxRecDepth 100000 in
theorem m_723 : (Cond.methodLink R_Lw 29 y_Mo_set) ∈ GW := gw_in (List.mem_of_getElem? (i := 723) (by decide +kernel)) rfl
set_option maxRecDepth 100000 in
theorem m_724 : (Cond.instanceMethod y_Mo_set) ∈ GW := gw_in (List.mem_of_getElem? (i := 724) (by decide +kernel)) rfl
set_option maxRecDepth 100000 in
theorem m_725 : (Cond.selects R_Mo y_Mo_set y_Mo_set) ∈ GW := gw_in (List.mem_of_getElem? (i := 725) (by decide +kernel)) rfl
set_option maxRecDepth 100000 in
theorem m_726 : (Cond.code y_Mo_set prog_8_method_45_code 3 (some .boolean)) ∈ GW := gw_in (List.mem_of_getElem? (i := 726) rfl) rfl
set_option maxRecDepth 100000 in
theorem m_727 : (Cond.methodLink R_Lw 47 y_Mo_flip) ∈ GW := gw_in (List.mem_of_getElem? (i := 727) (by decide +kernel)) rfl
set_option maxRecDepth 100000 in
theorem m_728 : (Cond.instanceMethod y_Mo_flip) ∈ GW := gw_in (List.mem_of_getElem? (i := 728) (by decide +kernel)) rfl
set_option maxRecDepth 100000 in
theorem m_729 : (Cond.selects R_Mo y_Mo_flip y_Mo_flip) ∈ GW := gw_in (List.mem_of_getElem? (i := 729) (by decide +kernel)) rfl
set_option maxRecDepth 100000 in
theorem m_730 : (Cond.code y_Mo_flip prog_8_method_47_code 3 (some .boolean)) ∈ GW := gw_in (List.mem_of_getElem? (i := 730) rfl) rfl
set_option maxRecDepth 100000 in
theorem m_734 : (Cond.methodLink R_Lw 52 y_Mo_plan) ∈ GW := gw_in (List.mem_of_getElem? (i := 734) (by decide +kernel)) rfl
set_option maxRecDepth 100000 in
theorem m_735 : (Cond.instanceMethod y_Mo_plan) ∈ GW := gw_in (List.mem_of_getElem? (i := 735) (by decide +kernel)) rfl
set_option maxRecDepth 100000 in
theorem m_736 : (Cond.selects R_Mo y_Mo_plan y_Mo_plan) ∈ GW := gw_in (List.mem_of_getElem? (i := 736) (by decide +kernel)) rfl
set_option maxRecDepth 100000 in
theorem m_737 : (Cond.code y_Mo_plan prog_8_method_48_code 4 (some .boolean)) ∈ GW := gw_in (List.mem_of_getElem? (i := 737) rfl) rfl
set_option maxRecDepth 100000 in
theorem m_738 : (Cond.methodLink R_Lw 57 y_Mo_planned) ∈ GW := gw_in (List.mem_of_getElem? (i := 738) (by decide +kernel)) rfl
set_option maxRecDepth 100000 in
theorem m_739 : (Cond.instanceMethod y_Mo_planned) ∈ GW := gw_in (List.mem_of_getElem? (i := 739) (by decide +kernel)) rfl
set_option maxRecDepth 100000 in
theorem m_740 : (Cond.selects R_Mo y_Mo_planned y_Mo_planned) ∈ GW := gw_in (List.mem_of_getElem? (i := 740) (by decide +kernel)) rfl
set_option maxRecDepth 100000 in
theorem m_741 : (Cond.code y_Mo_planned prog_8_method_49_code 1 (some .int)) ∈ GW := gw_in (List.mem_of_getElem? (i := 741) rfl) rfl
set_option maxRecDepth 100000 in
theorem m_742 : (Cond.methodLink R_Lw 34 y_Mo_register) ∈ GW := gw_in (List.mem_of_getElem? (i := 742) (by decide +kernel)) rfl
set_option maxRecDepth 100000 in
theorem m_743 : (Cond.instanceMethod y_Mo_register) ∈ GW := gw_in (List.mem_of_getElem? (i := 743) (by decide +kernel)) rfl
set_option maxRecDepth 100000 in
theorem m_744 : (Cond.selects R_Mo y_Mo_register y_Mo_register) ∈ GW := gw_in (List.mem_of_getElem? (i := 744) (by decide +kernel)) rfl
set_option maxRecDepth 100000 in
theorem m_745 : (Cond.code y_Mo_register prog_8_method_50_code 2 (some .int)) ∈ GW := gw_in (List.mem_of_getElem? (i := 745) rfl) rfl
set_option maxRecDepth 100000 in
theorem m_746 : (Cond.methodLink R_Lw 39 y_Mo_look) ∈ GW := gw_in (List.mem_of_getElem? (i := 746) (by decide +kernel)) rfl
set_option maxRecDepth 100000 in
theorem m_747 : (Cond.instanceMethod y_Mo_look) ∈ GW := gw_in (List.mem_of_getElem? (i := 747) (by decide +kernel)) rfl
set_option maxRecDepth 100000 in
theorem m_748 : (Cond.selects R_Mo y_Mo_look y_Mo_look) ∈ GW := gw_in (List.mem_of_getElem? (i := 748) (by decide +kernel)) rfl
set_option maxRecDepth 100000 in
theorem m_749 : (Cond.code y_Mo_look prog_8_method_51_code 5 (some .long)) ∈ GW := gw_in (List.mem_of_getElem? (i := 749) rfl) rfl
set_option maxRecDepth 100000 in
theorem m_752 : (Cond.methodLink R_Lw 43 y_Mo_bits) ∈ GW := gw_in (List.mem_of_getElem? (i := 752) (by decide +kernel)) rfl
set_option maxRecDepth 100000 in
theorem m_753 : (Cond.instanceMethod y_Mo_bits) ∈ GW := gw_in (List.mem_of_getElem? (i := 753) (by decide +kernel)) rfl
set_option maxRecDepth 100000 in
theorem m_754 : (Cond.selects R_Mo y_Mo_bits y_Mo_bits) ∈ GW := gw_in (List.mem_of_getElem? (i := 754) (by decide +kernel)) rfl
set_option maxRecDepth 100000 in
theorem m_755 : (Cond.code y_Mo_bits prog_8_method_52_code 2 (some .long)) ∈ GW := gw_in (List.mem_of_getElem? (i := 755) rfl) rfl
set_option maxRecDepth 100000 in
theorem m_759 : (Cond.methodLink R_Lw 65 y_Mo_cause) ∈ GW := gw_in (List.mem_of_getElem? (i := 759) (by decide +kernel)) rfl
set_option maxRecDepth 100000 in
theorem m_760 : (Cond.instanceMethod y_Mo_cause) ∈ GW := gw_in (List.mem_of_getElem? (i := 760) (by decide +kernel)) rfl
set_option maxRecDepth 100000 in
theorem m_761 : (Cond.selects R_Mo y_Mo_cause y_Mo_cause) ∈ GW := gw_in (List.mem_of_getElem? (i := 761) (by decide +kernel)) rfl
set_option maxRecDepth 100000 in
theorem m_762 : (Cond.code y_Mo_cause prog_8_method_53_code 1 (some .int)) ∈ GW := gw_in (List.mem_of_getElem? (i := 762) rfl) rfl
set_option maxRecDepth 100000 in
theorem m_763 : (Cond.methodLink R_Lw 69 y_Mo_value) ∈ GW := gw_in (List.mem_of_getElem? (i := 763) (by decide +kernel)) rfl
set_option maxRecDepth 100000 in
theorem m_764 : (Cond.instanceMethod y_Mo_value) ∈ GW := gw_in (List.mem_of_getElem? (i := 764) (by decide +kernel)) rfl
set_option maxRecDepth 100000 in
theorem m_765 : (Cond.selects R_Mo y_Mo_value y_Mo_value) ∈ GW := gw_in (List.mem_of_getElem? (i := 765) (by decide +kernel)) rfl
set_option maxRecDepth 100000 in
theorem m_766 : (Cond.code y_Mo_value prog_8_method_54_code 1 (some .int)) ∈ GW := gw_in (List.mem_of_getElem? (i := 766) rfl) rfl
set_option maxRecDepth 100000 in
theorem m_767 : (Cond.methodLink R_Lw 78 y_Mo_cycles) ∈ GW := gw_in (List.mem_of_getElem? (i := 767) (by decide +kernel)) rfl
set_option maxRecDepth 100000 in
theorem m_768 : (Cond.instanceMethod y_Mo_cycles) ∈ GW := gw_in (List.mem_of_getElem? (i := 768) (by decide +kernel)) rfl
set_option maxRecDepth 100000 in
theorem m_769 : (Cond.selects R_Mo y_Mo_cycles y_Mo_cycles) ∈ GW := gw_in (List.mem_of_getElem? (i := 769) (by decide +kernel)) rfl
set_option maxRecDepth 100000 in
theorem m_770 : (Cond.code y_Mo_cycles prog_8_method_55_code 1 (some .int)) ∈ GW := gw_in (List.mem_of_getElem? (i := 770) rfl) rfl
set_option maxRecDepth 100000 in
theorem m_771 : (Cond.methodLink R_Lw 82 y_Mo_count) ∈ GW := gw_in (List.mem_of_getElem? (i := 771) (by decide +kernel)) rfl
set_option maxRecDepth 100000 in
theorem m_772 : (Cond.instanceMethod y_Mo_count) ∈ GW := gw_in (List.mem_of_getElem? (i := 772) (by decide +kernel)) rfl
set_option maxRecDepth 100000 in
theorem m_773 : (Cond.selects R_Mo y_Mo_count y_Mo_count) ∈ GW := gw_in (List.mem_of_getElem? (i := 773) (by decide +kernel)) rfl
set_option maxRecDepth 100000 in
theorem m_774 : (Cond.code y_Mo_count prog_8_method_56_code 2 (some .int)) ∈ GW := gw_in (List.mem_of_getElem? (i := 774) rfl) rfl
abbrev b_law : ByteArray := code
theorem d_Me_init_0 : decode b_Me_init 0 = .ok (.aload_n 0, 1) := by decide +kernel
theorem d_Me_init_1 : decode b_Me_init 1 = .ok (.invokespecial 3, 3) := by decide +kernel
theorem d_Me_init_4 : decode b_Me_init 4 = .ok (.aload_n 0, 1) := by decide +kernel
theorem d_Me_init_5 : decode b_Me_init 5 = .ok (.bipush 64, 2) := by decide +kernel
theorem d_Me_init_7 : decode b_Me_init 7 = .ok (.newarray .long, 2) := by decide +kernel
theorem d_Me_init_9 : decode b_Me_init 9 = .ok (.putfield 9, 3) := by decide +kernel
theorem d_Me_init_12 : decode b_Me_init 12 = .ok (.return_, 1) := by decide +kernel
theorem d_Ca_init_0 : decode b_Ca_init 0 = .ok (.aload_n 0, 1) := by decide +kernel
theorem d_Ca_init_1 : decode b_Ca_init 1 = .ok (.invokespecial 3, 3) := by decide +kernel
theorem d_Ca_init_4 : decode b_Ca_init 4 = .ok (.aload_n 0, 1) := by decide +kernel
theorem d_Ca_init_5 : decode b_Ca_init 5 = .ok (.iconst 4, 1) := by decide +kernel
theorem d_Ca_init_6 : decode b_Ca_init 6 = .ok (.newarray .long, 2) := by decide +kernel
theorem d_Ca_init_8 : decode b_Ca_init 8 = .ok (.putfield 9, 3) := by decide +kernel
theorem d_Ca_init_11 : decode b_Ca_init 11 = .ok (.return_, 1) := by decide +kernel
theorem d_Re_init_0 : decode b_Re_init 0 = .ok (.aload_n 0, 1) := by decide +kernel
theorem d_Re_init_1 : decode b_Re_init 1 = .ok (.invokespecial 3, 3) := by decide +kernel
theorem d_Re_init_4 : decode b_Re_init 4 = .ok (.aload_n 0, 1) := by decide +kernel
theorem d_Re_init_5 : decode b_Re_init 5 = .ok (.bipush 96, 2) := by decide +kernel
theorem d_Re_init_7 : decode b_Re_init 7 = .ok (.newarray .int, 2) := by decide +kernel
theorem d_Re_init_9 : decode b_Re_init 9 = .ok (.putfield 9, 3) := by decide +kernel
theorem d_Re_init_12 : decode b_Re_init 12 = .ok (.return_, 1) := by decide +kernel
theorem d_Fa_init_0 : decode b_Fa_init 0 = .ok (.aload_n 0, 1) := by decide +kernel
theorem d_Fa_init_1 : decode b_Fa_init 1 = .ok (.invokespecial 3, 3) := by decide +kernel
theorem d_Fa_init_4 : decode b_Fa_init 4 = .ok (.aload_n 0, 1) := by decide +kernel
theorem d_Fa_init_5 : decode b_Fa_init 5 = .ok (.bipush 16, 2) := by decide +kernel
theorem d_Fa_init_7 : decode b_Fa_init 7 = .ok (.newarray .int, 2) := by decide +kernel
theorem d_Fa_init_9 : decode b_Fa_init 9 = .ok (.putfield 9, 3) := by decide +kernel
theorem d_Fa_init_12 : decode b_Fa_init 12 = .ok (.aload_n 0, 1) := by decide +kernel
theorem d_Fa_init_13 : decode b_Fa_init 13 = .ok (.bipush 16, 2) := by decide +kernel
theorem d_Fa_init_15 : decode b_Fa_init 15 = .ok (.newarray .int, 2) := by decide +kernel
theorem d_Fa_init_17 : decode b_Fa_init 17 = .ok (.putfield 15, 3) := by decide +kernel
theorem d_Fa_init_20 : decode b_Fa_init 20 = .ok (.aload_n 0, 1) := by decide +kernel
theorem d_Fa_init_21 : decode b_Fa_init 21 = .ok (.bipush 16, 2) := by decide +kernel
theorem d_Fa_init_23 : decode b_Fa_init 23 = .ok (.newarray .int, 2) := by decide +kernel
theorem d_Fa_init_25 : decode b_Fa_init 25 = .ok (.putfield 18, 3) := by decide +kernel
theorem d_Fa_init_28 : decode b_Fa_init 28 = .ok (.return_, 1) := by decide +kernel
theorem d_V_init_0 : decode b_V_init 0 = .ok (.aload_n 0, 1) := by decide +kernel
theorem d_V_init_1 : decode b_V_init 1 = .ok (.invokespecial 3, 3) := by decide +kernel
theorem d_V_init_4 : decode b_V_init 4 = .ok (.aload_n 0, 1) := by decide +kernel
theorem d_V_init_5 : decode b_V_init 5 = .ok (.new 9, 3) := by decide +kernel
theorem d_V_init_8 : decode b_V_init 8 = .ok (.dup, 1) := by decide +kernel
theorem d_V_init_9 : decode b_V_init 9 = .ok (.invokespecial 11, 3) := by decide +kernel
theorem d_V_init_12 : decode b_V_init 12 = .ok (.putfield 12, 3) := by decide +kernel
theorem d_V_init_15 : decode b_V_init 15 = .ok (.aload_n 0, 1) := by decide +kernel
theorem d_V_init_16 : decode b_V_init 16 = .ok (.new 16, 3) := by decide +kernel
theorem d_V_init_19 : decode b_V_init 19 = .ok (.dup, 1) := by decide +kernel
theorem d_V_init_20 : decode b_V_init 20 = .ok (.invokespecial 18, 3) := by decide +kernel
theorem d_V_init_23 : decode b_V_init 23 = .ok (.putfield 19, 3) := by decide +kernel
theorem d_V_init_26 : decode b_V_init 26 = .ok (.aload_n 0, 1) := by decide +kernel
theorem d_V_init_27 : decode b_V_init 27 = .ok (.new 16, 3) := by decide +kernel
theorem d_V_init_30 : decode b_V_init 30 = .ok (.dup, 1) := by decide +kernel
theorem d_V_init_31 : decode b_V_init 31 = .ok (.invokespecial 18, 3) := by decide +kernel
theorem d_V_init_34 : decode b_V_init 34 = .ok (.putfield 23, 3) := by decide +kernel
theorem d_V_init_37 : decode b_V_init 37 = .ok (.aload_n 0, 1) := by decide +kernel
theorem d_V_init_38 : decode b_V_init 38 = .ok (.new 26, 3) := by decide +kernel
theorem d_V_init_41 : decode b_V_init 41 = .ok (.dup, 1) := by decide +kernel
theorem d_V_init_42 : decode b_V_init 42 = .ok (.invokespecial 28, 3) := by decide +kernel
theorem d_V_init_45 : decode b_V_init 45 = .ok (.putfield 29, 3) := by decide +kernel
theorem d_V_init_48 : decode b_V_init 48 = .ok (.aload_n 0, 1) := by decide +kernel
theorem d_V_init_49 : decode b_V_init 49 = .ok (.new 33, 3) := by decide +kernel
theorem d_V_init_52 : decode b_V_init 52 = .ok (.dup, 1) := by decide +kernel
theorem d_V_init_53 : decode b_V_init 53 = .ok (.invokespecial 35, 3) := by decide +kernel
theorem d_V_init_56 : decode b_V_init 56 = .ok (.putfield 36, 3) := by decide +kernel
theorem d_V_init_59 : decode b_V_init 59 = .ok (.aload_n 0, 1) := by decide +kernel
theorem d_V_init_60 : decode b_V_init 60 = .ok (.iconst 1, 1) := by decide +kernel
theorem d_V_init_61 : decode b_V_init 61 = .ok (.bipush 64, 2) := by decide +kernel
theorem d_V_init_63 : decode b_V_init 63 = .ok (.iload_n 1, 1) := by decide +kernel
theorem d_V_init_64 : decode b_V_init 64 = .ok (.invokestatic 40, 3) := by decide +kernel
theorem d_V_init_67 : decode b_V_init 67 = .ok (.invokestatic 46, 3) := by decide +kernel
theorem d_V_init_70 : decode b_V_init 70 = .ok (.putfield 49, 3) := by decide +kernel
theorem d_V_init_73 : decode b_V_init 73 = .ok (.return_, 1) := by decide +kernel
theorem d_Mo_init_0 : decode b_Mo_init 0 = .ok (.aload_n 0, 1) := by decide +kernel
theorem d_Mo_init_1 : decode b_Mo_init 1 = .ok (.invokespecial 1, 3) := by decide +kernel
theorem d_Mo_init_4 : decode b_Mo_init 4 = .ok (.aload_n 0, 1) := by decide +kernel
theorem d_Mo_init_5 : decode b_Mo_init 5 = .ok (.bipush 64, 2) := by decide +kernel
theorem d_Mo_init_7 : decode b_Mo_init 7 = .ok (.newarray .int, 2) := by decide +kernel
theorem d_Mo_init_9 : decode b_Mo_init 9 = .ok (.putfield 7, 3) := by decide +kernel
theorem d_Mo_init_12 : decode b_Mo_init 12 = .ok (.aload_n 0, 1) := by decide +kernel
theorem d_Mo_init_13 : decode b_Mo_init 13 = .ok (.bipush 64, 2) := by decide +kernel
theorem d_Mo_init_15 : decode b_Mo_init 15 = .ok (.newarray .long, 2) := by decide +kernel
theorem d_Mo_init_17 : decode b_Mo_init 17 = .ok (.putfield 13, 3) := by decide +kernel
theorem d_Mo_init_20 : decode b_Mo_init 20 = .ok (.aload_n 0, 1) := by decide +kernel
theorem d_Mo_init_21 : decode b_Mo_init 21 = .ok (.bipush 32, 2) := by decide +kernel
theorem d_Mo_init_23 : decode b_Mo_init 23 = .ok (.newarray .int, 2) := by decide +kernel
theorem d_Mo_init_25 : decode b_Mo_init 25 = .ok (.putfield 17, 3) := by decide +kernel
theorem d_Mo_init_28 : decode b_Mo_init 28 = .ok (.aload_n 0, 1) := by decide +kernel
theorem d_Mo_init_29 : decode b_Mo_init 29 = .ok (.bipush 96, 2) := by decide +kernel
theorem d_Mo_init_31 : decode b_Mo_init 31 = .ok (.newarray .int, 2) := by decide +kernel
theorem d_Mo_init_33 : decode b_Mo_init 33 = .ok (.putfield 20, 3) := by decide +kernel
theorem d_Mo_init_36 : decode b_Mo_init 36 = .ok (.aload_n 0, 1) := by decide +kernel
theorem d_Mo_init_37 : decode b_Mo_init 37 = .ok (.bipush 8, 2) := by decide +kernel
theorem d_Mo_init_39 : decode b_Mo_init 39 = .ok (.newarray .long, 2) := by decide +kernel
theorem d_Mo_init_41 : decode b_Mo_init 41 = .ok (.putfield 23, 3) := by decide +kernel
theorem d_Mo_init_44 : decode b_Mo_init 44 = .ok (.aload_n 0, 1) := by decide +kernel
theorem d_Mo_init_45 : decode b_Mo_init 45 = .ok (.bipush 48, 2) := by decide +kernel
theorem d_Mo_init_47 : decode b_Mo_init 47 = .ok (.newarray .int, 2) := by decide +kernel
theorem d_Mo_init_49 : decode b_Mo_init 49 = .ok (.putfield 26, 3) := by decide +kernel
theorem d_Mo_init_52 : decode b_Mo_init 52 = .ok (.aload_n 0, 1) := by decide +kernel
theorem d_Mo_init_53 : decode b_Mo_init 53 = .ok (.bipush 6, 2) := by decide +kernel
theorem d_Mo_init_55 : decode b_Mo_init 55 = .ok (.newarray .int, 2) := by decide +kernel
theorem d_Mo_init_57 : decode b_Mo_init 57 = .ok (.putfield 29, 3) := by decide +kernel
theorem d_Mo_init_60 : decode b_Mo_init 60 = .ok (.aload_n 0, 1) := by decide +kernel
theorem d_Mo_init_61 : decode b_Mo_init 61 = .ok (.iload_n 1, 1) := by decide +kernel
theorem d_Mo_init_62 : decode b_Mo_init 62 = .ok (.iconst 1, 1) := by decide +kernel
theorem d_Mo_init_63 : decode b_Mo_init 63 = .ok (.if_icmp .ge 7, 3) := by decide +kernel
theorem d_Mo_init_66 : decode b_Mo_init 66 = .ok (.iconst 1, 1) := by decide +kernel
theorem d_Mo_init_67 : decode b_Mo_init 67 = .ok (.goto 15, 3) := by decide +kernel
theorem d_Mo_init_70 : decode b_Mo_init 70 = .ok (.iload_n 1, 1) := by decide +kernel
theorem d_Mo_init_71 : decode b_Mo_init 71 = .ok (.bipush 64, 2) := by decide +kernel
theorem d_Mo_init_73 : decode b_Mo_init 73 = .ok (.if_icmp .le 8, 3) := by decide +kernel
theorem d_Mo_init_76 : decode b_Mo_init 76 = .ok (.bipush 64, 2) := by decide +kernel
theorem d_Mo_init_78 : decode b_Mo_init 78 = .ok (.goto 4, 3) := by decide +kernel
theorem d_Mo_init_81 : decode b_Mo_init 81 = .ok (.iload_n 1, 1) := by decide +kernel
theorem d_Mo_init_82 : decode b_Mo_init 82 = .ok (.putfield 32, 3) := by decide +kernel
theorem d_Mo_init_85 : decode b_Mo_init 85 = .ok (.return_, 1) := by decide +kernel
theorem d_law_36 : decode b_law 36 = .ok (.aload_n 0, 1) := by decide +kernel
theorem d_law_37 : decode b_law 37 = .ok (.iload_n 3, 1) := by decide +kernel
theorem d_law_38 : decode b_law 38 = .ok (.iaload, 1) := by decide +kernel
theorem d_law_39 : decode b_law 39 = .ok (.bipush 15, 2) := by decide +kernel
theorem d_law_41 : decode b_law 41 = .ok (.iand, 1) := by decide +kernel
theorem d_law_42 : decode b_law 42 = .ok (.tableswitch 404 0 13 #[70, 103, 136, 159, 183, 207, 240, 283, 296, 319, 332, 345, 368, 381], 70) := by decide +kernel
theorem d_law_112 : decode b_law 112 = .ok (.aload_n 1, 1) := by decide +kernel
theorem d_law_113 : decode b_law 113 = .ok (.aload_n 0, 1) := by decide +kernel
theorem d_law_114 : decode b_law 114 = .ok (.iload_n 3, 1) := by decide +kernel
theorem d_law_115 : decode b_law 115 = .ok (.iconst 1, 1) := by decide +kernel
theorem d_law_116 : decode b_law 116 = .ok (.iadd, 1) := by decide +kernel
theorem d_law_117 : decode b_law 117 = .ok (.iaload, 1) := by decide +kernel
theorem d_law_118 : decode b_law 118 = .ok (.aload_n 0, 1) := by decide +kernel
theorem d_law_119 : decode b_law 119 = .ok (.iload_n 3, 1) := by decide +kernel
theorem d_law_120 : decode b_law 120 = .ok (.iconst 2, 1) := by decide +kernel
theorem d_law_121 : decode b_law 121 = .ok (.iadd, 1) := by decide +kernel
theorem d_law_122 : decode b_law 122 = .ok (.iaload, 1) := by decide +kernel
theorem d_law_123 : decode b_law 123 = .ok (.invokevirtual 21, 3) := by decide +kernel
theorem d_law_126 : decode b_law 126 = .ok (.aload_n 2, 1) := by decide +kernel
theorem d_law_127 : decode b_law 127 = .ok (.aload_n 0, 1) := by decide +kernel
theorem d_law_128 : decode b_law 128 = .ok (.iload_n 3, 1) := by decide +kernel
theorem d_law_129 : decode b_law 129 = .ok (.iconst 1, 1) := by decide +kernel
theorem d_law_130 : decode b_law 130 = .ok (.iadd, 1) := by decide +kernel
theorem d_law_131 : decode b_law 131 = .ok (.iaload, 1) := by decide +kernel
theorem d_law_132 : decode b_law 132 = .ok (.aload_n 0, 1) := by decide +kernel
theorem d_law_133 : decode b_law 133 = .ok (.iload_n 3, 1) := by decide +kernel
theorem d_law_134 : decode b_law 134 = .ok (.iconst 2, 1) := by decide +kernel
theorem d_law_135 : decode b_law 135 = .ok (.iadd, 1) := by decide +kernel
theorem d_law_136 : decode b_law 136 = .ok (.iaload, 1) := by decide +kernel
theorem d_law_137 : decode b_law 137 = .ok (.invokevirtual 25, 3) := by decide +kernel
theorem d_law_140 : decode b_law 140 = .ok (.if_icmp .eq 306, 3) := by decide +kernel
theorem d_law_446 : decode b_law 446 = .ok (.iinc 3 4, 3) := by decide +kernel
theorem d_law_449 : decode b_law 449 = .ok (.goto (-421), 3) := by decide +kernel
theorem d_law_145 : decode b_law 145 = .ok (.aload_n 1, 1) := by decide +kernel
theorem d_law_146 : decode b_law 146 = .ok (.aload_n 0, 1) := by decide +kernel
theorem d_law_147 : decode b_law 147 = .ok (.iload_n 3, 1) := by decide +kernel
theorem d_law_148 : decode b_law 148 = .ok (.iconst 1, 1) := by decide +kernel
theorem d_law_149 : decode b_law 149 = .ok (.iadd, 1) := by decide +kernel
theorem d_law_150 : decode b_law 150 = .ok (.iaload, 1) := by decide +kernel
theorem d_law_151 : decode b_law 151 = .ok (.aload_n 0, 1) := by decide +kernel
theorem d_law_152 : decode b_law 152 = .ok (.iload_n 3, 1) := by decide +kernel
theorem d_law_153 : decode b_law 153 = .ok (.iconst 2, 1) := by decide +kernel
theorem d_law_154 : decode b_law 154 = .ok (.iadd, 1) := by decide +kernel
theorem d_law_155 : decode b_law 155 = .ok (.iaload, 1) := by decide +kernel
theorem d_law_156 : decode b_law 156 = .ok (.invokevirtual 26, 3) := by decide +kernel
theorem d_law_159 : decode b_law 159 = .ok (.aload_n 2, 1) := by decide +kernel
theorem d_law_160 : decode b_law 160 = .ok (.aload_n 0, 1) := by decide +kernel
theorem d_law_161 : decode b_law 161 = .ok (.iload_n 3, 1) := by decide +kernel
theorem d_law_162 : decode b_law 162 = .ok (.iconst 1, 1) := by decide +kernel
theorem d_law_163 : decode b_law 163 = .ok (.iadd, 1) := by decide +kernel
theorem d_law_164 : decode b_law 164 = .ok (.iaload, 1) := by decide +kernel
theorem d_law_165 : decode b_law 165 = .ok (.aload_n 0, 1) := by decide +kernel
theorem d_law_166 : decode b_law 166 = .ok (.iload_n 3, 1) := by decide +kernel
theorem d_law_167 : decode b_law 167 = .ok (.iconst 2, 1) := by decide +kernel
theorem d_law_168 : decode b_law 168 = .ok (.iadd, 1) := by decide +kernel
theorem d_law_169 : decode b_law 169 = .ok (.iaload, 1) := by decide +kernel
theorem d_law_170 : decode b_law 170 = .ok (.invokevirtual 29, 3) := by decide +kernel
theorem d_law_173 : decode b_law 173 = .ok (.if_icmp .eq 273, 3) := by decide +kernel
theorem d_law_178 : decode b_law 178 = .ok (.aload_n 1, 1) := by decide +kernel
theorem d_law_179 : decode b_law 179 = .ok (.aload_n 0, 1) := by decide +kernel
theorem d_law_180 : decode b_law 180 = .ok (.iload_n 3, 1) := by decide +kernel
theorem d_law_181 : decode b_law 181 = .ok (.iconst 1, 1) := by decide +kernel
theorem d_law_182 : decode b_law 182 = .ok (.iadd, 1) := by decide +kernel
theorem d_law_183 : decode b_law 183 = .ok (.iaload, 1) := by decide +kernel
theorem d_law_184 : decode b_law 184 = .ok (.invokevirtual 30, 3) := by decide +kernel
theorem d_law_187 : decode b_law 187 = .ok (.aload_n 2, 1) := by decide +kernel
theorem d_law_188 : decode b_law 188 = .ok (.aload_n 0, 1) := by decide +kernel
theorem d_law_189 : decode b_law 189 = .ok (.iload_n 3, 1) := by decide +kernel
theorem d_law_190 : decode b_law 190 = .ok (.iconst 1, 1) := by decide +kernel
theorem d_law_191 : decode b_law 191 = .ok (.iadd, 1) := by decide +kernel
theorem d_law_192 : decode b_law 192 = .ok (.iaload, 1) := by decide +kernel
theorem d_law_193 : decode b_law 193 = .ok (.invokevirtual 34, 3) := by decide +kernel
theorem d_law_196 : decode b_law 196 = .ok (.if_icmp .eq 250, 3) := by decide +kernel
theorem d_law_201 : decode b_law 201 = .ok (.aload_n 1, 1) := by decide +kernel
theorem d_law_202 : decode b_law 202 = .ok (.aload_n 0, 1) := by decide +kernel
theorem d_law_203 : decode b_law 203 = .ok (.iload_n 3, 1) := by decide +kernel
theorem d_law_204 : decode b_law 204 = .ok (.iconst 1, 1) := by decide +kernel
theorem d_law_205 : decode b_law 205 = .ok (.iadd, 1) := by decide +kernel
theorem d_law_206 : decode b_law 206 = .ok (.iaload, 1) := by decide +kernel
theorem d_law_207 : decode b_law 207 = .ok (.invokevirtual 35, 3) := by decide +kernel
theorem d_law_210 : decode b_law 210 = .ok (.aload_n 2, 1) := by decide +kernel
theorem d_law_211 : decode b_law 211 = .ok (.aload_n 0, 1) := by decide +kernel
theorem d_law_212 : decode b_law 212 = .ok (.iload_n 3, 1) := by decide +kernel
theorem d_law_213 : decode b_law 213 = .ok (.iconst 1, 1) := by decide +kernel
theorem d_law_214 : decode b_law 214 = .ok (.iadd, 1) := by decide +kernel
theorem d_law_215 : decode b_law 215 = .ok (.iaload, 1) := by decide +kernel
theorem d_law_216 : decode b_law 216 = .ok (.invokevirtual 39, 3) := by decide +kernel
theorem d_law_219 : decode b_law 219 = .ok (.lcmp, 1) := by decide +kernel
theorem d_law_220 : decode b_law 220 = .ok (.ifCond .eq 226, 3) := by decide +kernel
theorem d_law_225 : decode b_law 225 = .ok (.aload_n 1, 1) := by decide +kernel
theorem d_law_226 : decode b_law 226 = .ok (.aload_n 0, 1) := by decide +kernel
theorem d_law_227 : decode b_law 227 = .ok (.iload_n 3, 1) := by decide +kernel
theorem d_law_228 : decode b_law 228 = .ok (.iconst 1, 1) := by decide +kernel
theorem d_law_229 : decode b_law 229 = .ok (.iadd, 1) := by decide +kernel
theorem d_law_230 : decode b_law 230 = .ok (.iaload, 1) := by decide +kernel
theorem d_law_231 : decode b_law 231 = .ok (.invokevirtual 40, 3) := by decide +kernel
theorem d_law_234 : decode b_law 234 = .ok (.aload_n 2, 1) := by decide +kernel
theorem d_law_235 : decode b_law 235 = .ok (.aload_n 0, 1) := by decide +kernel
theorem d_law_236 : decode b_law 236 = .ok (.iload_n 3, 1) := by decide +kernel
theorem d_law_237 : decode b_law 237 = .ok (.iconst 1, 1) := by decide +kernel
theorem d_law_238 : decode b_law 238 = .ok (.iadd, 1) := by decide +kernel
theorem d_law_239 : decode b_law 239 = .ok (.iaload, 1) := by decide +kernel
theorem d_law_240 : decode b_law 240 = .ok (.invokevirtual 43, 3) := by decide +kernel
theorem d_law_243 : decode b_law 243 = .ok (.lcmp, 1) := by decide +kernel
theorem d_law_244 : decode b_law 244 = .ok (.ifCond .eq 202, 3) := by decide +kernel
theorem d_law_249 : decode b_law 249 = .ok (.aload_n 1, 1) := by decide +kernel
theorem d_law_250 : decode b_law 250 = .ok (.aload_n 0, 1) := by decide +kernel
theorem d_law_251 : decode b_law 251 = .ok (.iload_n 3, 1) := by decide +kernel
theorem d_law_252 : decode b_law 252 = .ok (.iconst 1, 1) := by decide +kernel
theorem d_law_253 : decode b_law 253 = .ok (.iadd, 1) := by decide +kernel
theorem d_law_254 : decode b_law 254 = .ok (.iaload, 1) := by decide +kernel
theorem d_law_255 : decode b_law 255 = .ok (.aload_n 0, 1) := by decide +kernel
theorem d_law_256 : decode b_law 256 = .ok (.iload_n 3, 1) := by decide +kernel
theorem d_law_257 : decode b_law 257 = .ok (.iconst 2, 1) := by decide +kernel
theorem d_law_258 : decode b_law 258 = .ok (.iadd, 1) := by decide +kernel
theorem d_law_259 : decode b_law 259 = .ok (.iaload, 1) := by decide +kernel
theorem d_law_260 : decode b_law 260 = .ok (.invokevirtual 44, 3) := by decide +kernel
theorem d_law_263 : decode b_law 263 = .ok (.aload_n 2, 1) := by decide +kernel
theorem d_law_264 : decode b_law 264 = .ok (.aload_n 0, 1) := by decide +kernel
theorem d_law_265 : decode b_law 265 = .ok (.iload_n 3, 1) := by decide +kernel
theorem d_law_266 : decode b_law 266 = .ok (.iconst 1, 1) := by decide +kernel
theorem d_law_267 : decode b_law 267 = .ok (.iadd, 1) := by decide +kernel
theorem d_law_268 : decode b_law 268 = .ok (.iaload, 1) := by decide +kernel
theorem d_law_269 : decode b_law 269 = .ok (.aload_n 0, 1) := by decide +kernel
theorem d_law_270 : decode b_law 270 = .ok (.iload_n 3, 1) := by decide +kernel
theorem d_law_271 : decode b_law 271 = .ok (.iconst 2, 1) := by decide +kernel
theorem d_law_272 : decode b_law 272 = .ok (.iadd, 1) := by decide +kernel
theorem d_law_273 : decode b_law 273 = .ok (.iaload, 1) := by decide +kernel
theorem d_law_274 : decode b_law 274 = .ok (.invokevirtual 47, 3) := by decide +kernel
theorem d_law_277 : decode b_law 277 = .ok (.if_icmp .eq 169, 3) := by decide +kernel
theorem d_law_282 : decode b_law 282 = .ok (.aload_n 1, 1) := by decide +kernel
theorem d_law_283 : decode b_law 283 = .ok (.aload_n 0, 1) := by decide +kernel
theorem d_law_284 : decode b_law 284 = .ok (.iload_n 3, 1) := by decide +kernel
theorem d_law_285 : decode b_law 285 = .ok (.iconst 1, 1) := by decide +kernel
theorem d_law_286 : decode b_law 286 = .ok (.iadd, 1) := by decide +kernel
theorem d_law_287 : decode b_law 287 = .ok (.iaload, 1) := by decide +kernel
theorem d_law_288 : decode b_law 288 = .ok (.aload_n 0, 1) := by decide +kernel
theorem d_law_289 : decode b_law 289 = .ok (.iload_n 3, 1) := by decide +kernel
theorem d_law_290 : decode b_law 290 = .ok (.iconst 2, 1) := by decide +kernel
theorem d_law_291 : decode b_law 291 = .ok (.iadd, 1) := by decide +kernel
theorem d_law_292 : decode b_law 292 = .ok (.iaload, 1) := by decide +kernel
theorem d_law_293 : decode b_law 293 = .ok (.aload_n 0, 1) := by decide +kernel
theorem d_law_294 : decode b_law 294 = .ok (.iload_n 3, 1) := by decide +kernel
theorem d_law_295 : decode b_law 295 = .ok (.iconst 3, 1) := by decide +kernel
theorem d_law_296 : decode b_law 296 = .ok (.iadd, 1) := by decide +kernel
theorem d_law_297 : decode b_law 297 = .ok (.iaload, 1) := by decide +kernel
theorem d_law_298 : decode b_law 298 = .ok (.invokevirtual 48, 3) := by decide +kernel
theorem d_law_301 : decode b_law 301 = .ok (.aload_n 2, 1) := by decide +kernel
theorem d_law_302 : decode b_law 302 = .ok (.aload_n 0, 1) := by decide +kernel
theorem d_law_303 : decode b_law 303 = .ok (.iload_n 3, 1) := by decide +kernel
theorem d_law_304 : decode b_law 304 = .ok (.iconst 1, 1) := by decide +kernel
theorem d_law_305 : decode b_law 305 = .ok (.iadd, 1) := by decide +kernel
theorem d_law_306 : decode b_law 306 = .ok (.iaload, 1) := by decide +kernel
theorem d_law_307 : decode b_law 307 = .ok (.aload_n 0, 1) := by decide +kernel
theorem d_law_308 : decode b_law 308 = .ok (.iload_n 3, 1) := by decide +kernel
theorem d_law_309 : decode b_law 309 = .ok (.iconst 2, 1) := by decide +kernel
theorem d_law_310 : decode b_law 310 = .ok (.iadd, 1) := by decide +kernel
theorem d_law_311 : decode b_law 311 = .ok (.iaload, 1) := by decide +kernel
theorem d_law_312 : decode b_law 312 = .ok (.aload_n 0, 1) := by decide +kernel
theorem d_law_313 : decode b_law 313 = .ok (.iload_n 3, 1) := by decide +kernel
theorem d_law_314 : decode b_law 314 = .ok (.iconst 3, 1) := by decide +kernel
theorem d_law_315 : decode b_law 315 = .ok (.iadd, 1) := by decide +kernel
theorem d_law_316 : decode b_law 316 = .ok (.iaload, 1) := by decide +kernel
theorem d_law_317 : decode b_law 317 = .ok (.invokevirtual 52, 3) := by decide +kernel
theorem d_law_320 : decode b_law 320 = .ok (.if_icmp .eq 126, 3) := by decide +kernel
theorem d_law_325 : decode b_law 325 = .ok (.aload_n 1, 1) := by decide +kernel
theorem d_law_326 : decode b_law 326 = .ok (.invokevirtual 53, 3) := by decide +kernel
theorem d_law_329 : decode b_law 329 = .ok (.aload_n 2, 1) := by decide +kernel
theorem d_law_330 : decode b_law 330 = .ok (.invokevirtual 57, 3) := by decide +kernel
theorem d_law_333 : decode b_law 333 = .ok (.if_icmp .eq 113, 3) := by decide +kernel
theorem d_law_338 : decode b_law 338 = .ok (.aload_n 1, 1) := by decide +kernel
theorem d_law_339 : decode b_law 339 = .ok (.aload_n 0, 1) := by decide +kernel
theorem d_law_340 : decode b_law 340 = .ok (.iload_n 3, 1) := by decide +kernel
theorem d_law_341 : decode b_law 341 = .ok (.iconst 1, 1) := by decide +kernel
theorem d_law_342 : decode b_law 342 = .ok (.iadd, 1) := by decide +kernel
theorem d_law_343 : decode b_law 343 = .ok (.iaload, 1) := by decide +kernel
theorem d_law_344 : decode b_law 344 = .ok (.invokevirtual 58, 3) := by decide +kernel
theorem d_law_347 : decode b_law 347 = .ok (.aload_n 2, 1) := by decide +kernel
theorem d_law_348 : decode b_law 348 = .ok (.aload_n 0, 1) := by decide +kernel
theorem d_law_349 : decode b_law 349 = .ok (.iload_n 3, 1) := by decide +kernel
theorem d_law_350 : decode b_law 350 = .ok (.iconst 1, 1) := by decide +kernel
theorem d_law_351 : decode b_law 351 = .ok (.iadd, 1) := by decide +kernel
theorem d_law_352 : decode b_law 352 = .ok (.iaload, 1) := by decide +kernel
theorem d_law_353 : decode b_law 353 = .ok (.invokevirtual 61, 3) := by decide +kernel
theorem d_law_356 : decode b_law 356 = .ok (.if_icmp .eq 90, 3) := by decide +kernel
theorem d_law_361 : decode b_law 361 = .ok (.aload_n 1, 1) := by decide +kernel
theorem d_law_362 : decode b_law 362 = .ok (.invokevirtual 62, 3) := by decide +kernel
theorem d_law_365 : decode b_law 365 = .ok (.aload_n 2, 1) := by decide +kernel
theorem d_law_366 : decode b_law 366 = .ok (.invokevirtual 65, 3) := by decide +kernel
theorem d_law_369 : decode b_law 369 = .ok (.if_icmp .eq 77, 3) := by decide +kernel
theorem d_law_374 : decode b_law 374 = .ok (.aload_n 1, 1) := by decide +kernel
theorem d_law_375 : decode b_law 375 = .ok (.invokevirtual 66, 3) := by decide +kernel
theorem d_law_378 : decode b_law 378 = .ok (.aload_n 2, 1) := by decide +kernel
theorem d_law_379 : decode b_law 379 = .ok (.invokevirtual 69, 3) := by decide +kernel
theorem d_law_382 : decode b_law 382 = .ok (.if_icmp .eq 64, 3) := by decide +kernel
theorem d_law_387 : decode b_law 387 = .ok (.aload_n 1, 1) := by decide +kernel
theorem d_law_388 : decode b_law 388 = .ok (.aload_n 0, 1) := by decide +kernel
theorem d_law_389 : decode b_law 389 = .ok (.iload_n 3, 1) := by decide +kernel
theorem d_law_390 : decode b_law 390 = .ok (.iconst 1, 1) := by decide +kernel
theorem d_law_391 : decode b_law 391 = .ok (.iadd, 1) := by decide +kernel
theorem d_law_392 : decode b_law 392 = .ok (.iaload, 1) := by decide +kernel
theorem d_law_393 : decode b_law 393 = .ok (.invokevirtual 70, 3) := by decide +kernel
theorem d_law_396 : decode b_law 396 = .ok (.aload_n 2, 1) := by decide +kernel
theorem d_law_397 : decode b_law 397 = .ok (.aload_n 0, 1) := by decide +kernel
theorem d_law_398 : decode b_law 398 = .ok (.iload_n 3, 1) := by decide +kernel
theorem d_law_399 : decode b_law 399 = .ok (.iconst 1, 1) := by decide +kernel
theorem d_law_400 : decode b_law 400 = .ok (.iadd, 1) := by decide +kernel
theorem d_law_401 : decode b_law 401 = .ok (.iaload, 1) := by decide +kernel
theorem d_law_402 : decode b_law 402 = .ok (.invokevirtual 74, 3) := by decide +kernel
theorem d_law_405 : decode b_law 405 = .ok (.if_icmp .eq 41, 3) := by decide +kernel
theorem d_law_410 : decode b_law 410 = .ok (.aload_n 1, 1) := by decide +kernel
theorem d_law_411 : decode b_law 411 = .ok (.invokevirtual 75, 3) := by decide +kernel
theorem d_law_414 : decode b_law 414 = .ok (.aload_n 2, 1) := by decide +kernel
theorem d_law_415 : decode b_law 415 = .ok (.invokevirtual 78, 3) := by decide +kernel
theorem d_law_418 : decode b_law 418 = .ok (.if_icmp .eq 28, 3) := by decide +kernel
theorem d_law_423 : decode b_law 423 = .ok (.aload_n 1, 1) := by decide +kernel
theorem d_law_424 : decode b_law 424 = .ok (.aload_n 0, 1) := by decide +kernel
theorem d_law_425 : decode b_law 425 = .ok (.iload_n 3, 1) := by decide +kernel
theorem d_law_426 : decode b_law 426 = .ok (.iconst 1, 1) := by decide +kernel
theorem d_law_427 : decode b_law 427 = .ok (.iadd, 1) := by decide +kernel
theorem d_law_428 : decode b_law 428 = .ok (.iaload, 1) := by decide +kernel
theorem d_law_429 : decode b_law 429 = .ok (.invokevirtual 79, 3) := by decide +kernel
theorem d_law_432 : decode b_law 432 = .ok (.aload_n 2, 1) := by decide +kernel
theorem d_law_433 : decode b_law 433 = .ok (.aload_n 0, 1) := by decide +kernel
theorem d_law_434 : decode b_law 434 = .ok (.iload_n 3, 1) := by decide +kernel
theorem d_law_435 : decode b_law 435 = .ok (.iconst 1, 1) := by decide +kernel
theorem d_law_436 : decode b_law 436 = .ok (.iadd, 1) := by decide +kernel
theorem d_law_437 : decode b_law 437 = .ok (.iaload, 1) := by decide +kernel
theorem d_law_438 : decode b_law 438 = .ok (.invokevirtual 82, 3) := by decide +kernel
theorem d_law_441 : decode b_law 441 = .ok (.if_icmp .eq 5, 3) := by decide +kernel
theorem d_Lw_cell_0 : decode b_Lw_cell 0 = .ok (.iload_n 1, 1) := by decide +kernel
theorem d_Lw_cell_1 : decode b_Lw_cell 1 = .ok (.aload_n 0, 1) := by decide +kernel
theorem d_Lw_cell_2 : decode b_Lw_cell 2 = .ok (.arraylength, 1) := by decide +kernel
theorem d_Lw_cell_3 : decode b_Lw_cell 3 = .ok (.if_icmp .ge 9, 3) := by decide +kernel
theorem d_Lw_cell_6 : decode b_Lw_cell 6 = .ok (.aload_n 0, 1) := by decide +kernel
theorem d_Lw_cell_7 : decode b_Lw_cell 7 = .ok (.iload_n 1, 1) := by decide +kernel
theorem d_Lw_cell_8 : decode b_Lw_cell 8 = .ok (.iaload, 1) := by decide +kernel
theorem d_Lw_cell_9 : decode b_Lw_cell 9 = .ok (.goto 4, 3) := by decide +kernel
theorem d_Lw_cell_12 : decode b_Lw_cell 12 = .ok (.iconst 0, 1) := by decide +kernel
theorem d_Lw_cell_13 : decode b_Lw_cell 13 = .ok (.ireturn, 1) := by decide +kernel
theorem d_law_0 : decode b_law 0 = .ok (.new 7, 3) := by decide +kernel
theorem d_law_3 : decode b_law 3 = .ok (.dup, 1) := by decide +kernel
theorem d_law_4 : decode b_law 4 = .ok (.aload_n 0, 1) := by decide +kernel
theorem d_law_5 : decode b_law 5 = .ok (.iconst 0, 1) := by decide +kernel
theorem d_law_6 : decode b_law 6 = .ok (.invokestatic 9, 3) := by decide +kernel
theorem d_law_9 : decode b_law 9 = .ok (.invokespecial 15, 3) := by decide +kernel
theorem d_law_12 : decode b_law 12 = .ok (.astore_n 1, 1) := by decide +kernel
theorem d_law_13 : decode b_law 13 = .ok (.new 18, 3) := by decide +kernel
theorem d_law_16 : decode b_law 16 = .ok (.dup, 1) := by decide +kernel
theorem d_law_17 : decode b_law 17 = .ok (.aload_n 0, 1) := by decide +kernel
theorem d_law_18 : decode b_law 18 = .ok (.iconst 0, 1) := by decide +kernel
theorem d_law_19 : decode b_law 19 = .ok (.invokestatic 9, 3) := by decide +kernel
theorem d_law_22 : decode b_law 22 = .ok (.invokespecial 20, 3) := by decide +kernel
theorem d_law_25 : decode b_law 25 = .ok (.astore_n 2, 1) := by decide +kernel
theorem d_law_26 : decode b_law 26 = .ok (.iconst 1, 1) := by decide +kernel
theorem d_law_27 : decode b_law 27 = .ok (.istore_n 3, 1) := by decide +kernel
theorem d_law_28 : decode b_law 28 = .ok (.iload_n 3, 1) := by decide +kernel
theorem d_law_29 : decode b_law 29 = .ok (.aload_n 0, 1) := by decide +kernel
theorem d_law_30 : decode b_law 30 = .ok (.arraylength, 1) := by decide +kernel
theorem d_law_31 : decode b_law 31 = .ok (.iconst 4, 1) := by decide +kernel
theorem d_law_32 : decode b_law 32 = .ok (.isub, 1) := by decide +kernel
theorem d_law_33 : decode b_law 33 = .ok (.if_icmp .gt 419, 3) := by decide +kernel
theorem d_law_143 : decode b_law 143 = .ok (.iconst 0, 1) := by decide +kernel
theorem d_law_144 : decode b_law 144 = .ok (.ireturn, 1) := by decide +kernel
theorem d_law_176 : decode b_law 176 = .ok (.iconst 0, 1) := by decide +kernel
theorem d_law_177 : decode b_law 177 = .ok (.ireturn, 1) := by decide +kernel
theorem d_law_199 : decode b_law 199 = .ok (.iconst 0, 1) := by decide +kernel
theorem d_law_200 : decode b_law 200 = .ok (.ireturn, 1) := by decide +kernel
theorem d_law_223 : decode b_law 223 = .ok (.iconst 0, 1) := by decide +kernel
theorem d_law_224 : decode b_law 224 = .ok (.ireturn, 1) := by decide +kernel
theorem d_law_247 : decode b_law 247 = .ok (.iconst 0, 1) := by decide +kernel
theorem d_law_248 : decode b_law 248 = .ok (.ireturn, 1) := by decide +kernel
theorem d_law_280 : decode b_law 280 = .ok (.iconst 0, 1) := by decide +kernel
theorem d_law_281 : decode b_law 281 = .ok (.ireturn, 1) := by decide +kernel
theorem d_law_323 : decode b_law 323 = .ok (.iconst 0, 1) := by decide +kernel
theorem d_law_324 : decode b_law 324 = .ok (.ireturn, 1) := by decide +kernel
theorem d_law_336 : decode b_law 336 = .ok (.iconst 0, 1) := by decide +kernel
theorem d_law_337 : decode b_law 337 = .ok (.ireturn, 1) := by decide +kernel
theorem d_law_359 : decode b_law 359 = .ok (.iconst 0, 1) := by decide +kernel
theorem d_law_360 : decode b_law 360 = .ok (.ireturn, 1) := by decide +kernel
theorem d_law_372 : decode b_law 372 = .ok (.iconst 0, 1) := by decide +kernel
theorem d_law_373 : decode b_law 373 = .ok (.ireturn, 1) := by decide +kernel
theorem d_law_385 : decode b_law 385 = .ok (.iconst 0, 1) := by decide +kernel
theorem d_law_386 : decode b_law 386 = .ok (.ireturn, 1) := by decide +kernel
theorem d_law_408 : decode b_law 408 = .ok (.iconst 0, 1) := by decide +kernel
theorem d_law_409 : decode b_law 409 = .ok (.ireturn, 1) := by decide +kernel
theorem d_law_421 : decode b_law 421 = .ok (.iconst 0, 1) := by decide +kernel
theorem d_law_422 : decode b_law 422 = .ok (.ireturn, 1) := by decide +kernel
theorem d_law_444 : decode b_law 444 = .ok (.iconst 0, 1) := by decide +kernel
theorem d_law_445 : decode b_law 445 = .ok (.ireturn, 1) := by decide +kernel
theorem d_law_452 : decode b_law 452 = .ok (.iconst 1, 1) := by decide +kernel
theorem d_law_453 : decode b_law 453 = .ok (.ireturn, 1) := by decide +kernel
