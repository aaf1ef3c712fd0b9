set_option maxRecDepth 20000 in
theorem fl_Me_24 : Cond.fieldLink R_Me 24 (F_Me 3).1 (F_Me 3).2.1 (F_Me 3).2.2.1 ∈ kw := kw_in (List.mem_append_right _ (List.mem_of_getElem? (i := 37) rfl)) (by decide +kernel)
set_option maxRecDepth 20000 in
theorem fl_Me_9 : Cond.fieldLink R_Me 9 (F_Me 0).1 (F_Me 0).2.1 (F_Me 0).2.2.1 ∈ kw := kw_in (List.mem_append_right _ (List.mem_of_getElem? (i := 31) rfl)) (by decide +kernel)
set_option maxRecDepth 20000 in
theorem fl_Me_15 : Cond.fieldLink R_Me 15 (F_Me 1).1 (F_Me 1).2.1 (F_Me 1).2.2.1 ∈ kw := kw_in (List.mem_append_right _ (List.mem_of_getElem? (i := 33) rfl)) (by decide +kernel)
set_option maxRecDepth 20000 in
theorem fl_Me_18 : Cond.fieldLink R_Me 18 (F_Me 2).1 (F_Me 2).2.1 (F_Me 2).2.2.1 ∈ kw := kw_in (List.mem_append_right _ (List.mem_of_getElem? (i := 35) rfl)) (by decide +kernel)
set_option maxRecDepth 20000 in
theorem mw_219 : Cond.methodLink R_Me 28 y_Me_onLattice ∈ kw := kw_in (List.mem_append_right _ (List.mem_of_getElem? (i := 219) rfl)) (by decide +kernel)
set_option maxRecDepth 20000 in
theorem mw_220 : Cond.static y_Me_onLattice ∈ kw := kw_in (List.mem_append_right _ (List.mem_of_getElem? (i := 220) rfl)) (by decide +kernel)
set_option maxRecDepth 20000 in
theorem mw_2 : Cond.initialized R_Me ∈ kw := kw_in (List.mem_append_right _ (List.mem_of_getElem? (i := 2) rfl)) (by decide +kernel)
set_option maxRecDepth 20000 in
theorem mc_Me_onLattice : Cond.code y_Me_onLattice b_Me_onLattice 1 (some .boolean) ∈ kw := kw_in (List.mem_append_right _ (List.mem_of_getElem? (i := 221) rfl)) (by decide +kernel)
theorem wS_Me_28 : wS R_Me 28 y_Me_onLattice b_Me_onLattice 1 (some .boolean) 1 := ⟨mw_219, mw_220, mw_2, mc_Me_onLattice, by decide +kernel, by decide +kernel, by decide +kernel⟩
set_option maxRecDepth 20000 in
theorem fl_LS_12 : Cond.fieldLink R_LS 12 (F_LS 0).1 (F_LS 0).2.1 (F_LS 0).2.2.1 ∈ kw := kw_in (List.mem_append_right _ (List.mem_of_getElem? (i := 192) rfl)) (by decide +kernel)
set_option maxRecDepth 20000 in
theorem mw_215 : Cond.methodLink R_LS 51 y_Me_addCorner ∈ kw := kw_in (List.mem_append_right _ (List.mem_of_getElem? (i := 215) rfl)) (by decide +kernel)
set_option maxRecDepth 20000 in
theorem mw_216 : Cond.instanceMethod y_Me_addCorner ∈ kw := kw_in (List.mem_append_right _ (List.mem_of_getElem? (i := 216) rfl)) (by decide +kernel)
set_option maxRecDepth 20000 in
theorem mw_217 : Cond.selects R_Me y_Me_addCorner y_Me_addCorner ∈ kw := kw_in (List.mem_append_right _ (List.mem_of_getElem? (i := 217) rfl)) (by decide +kernel)
set_option maxRecDepth 20000 in
theorem mc_Me_addCorner : Cond.code y_Me_addCorner b_Me_addCorner 4 (some .int) ∈ kw := kw_in (List.mem_append_right _ (List.mem_of_getElem? (i := 218) rfl)) (by decide +kernel)
theorem wV_LS_51 : wV R_LS 51 y_Me_addCorner b_Me_addCorner 4 (some .int) 3 := ⟨mw_215, mw_216, mw_217, mw_2, mc_Me_addCorner, by decide +kernel, by decide +kernel, by decide +kernel⟩
set_option maxRecDepth 20000 in
theorem fl_Me_21 : Cond.fieldLink R_Me 21 (F_Me 4).1 (F_Me 4).2.1 (F_Me 4).2.2.1 ∈ kw := kw_in (List.mem_append_right _ (List.mem_of_getElem? (i := 39) rfl)) (by decide +kernel)
set_option maxRecDepth 20000 in
theorem fl_Me_32 : Cond.fieldLink R_Me 32 (F_Me 5).1 (F_Me 5).2.1 (F_Me 5).2.2.1 ∈ kw := kw_in (List.mem_append_right _ (List.mem_of_getElem? (i := 43) rfl)) (by decide +kernel)
set_option maxRecDepth 20000 in
theorem mw_234 : Cond.methodLink R_Me 38 y_Me_name ∈ kw := kw_in (List.mem_append_right _ (List.mem_of_getElem? (i := 234) rfl)) (by decide +kernel)
set_option maxRecDepth 20000 in
theorem mw_235 : Cond.instanceMethod y_Me_name ∈ kw := kw_in (List.mem_append_right _ (List.mem_of_getElem? (i := 235) rfl)) (by decide +kernel)
set_option maxRecDepth 20000 in
theorem mw_236 : Cond.selects R_Me y_Me_name y_Me_name ∈ kw := kw_in (List.mem_append_right _ (List.mem_of_getElem? (i := 236) rfl)) (by decide +kernel)
set_option maxRecDepth 20000 in
theorem mc_Me_name : Cond.code y_Me_name b_Me_name 5 none ∈ kw := kw_in (List.mem_append_right _ (List.mem_of_getElem? (i := 237) rfl)) (by decide +kernel)
theorem wV_Me_38 : wV R_Me 38 y_Me_name b_Me_name 5 none 4 := ⟨mw_234, mw_235, mw_236, mw_2, mc_Me_name, by decide +kernel, by decide +kernel, by decide +kernel⟩
set_option maxRecDepth 20000 in
theorem mw_230 : Cond.methodLink R_Me 35 y_Me_hasCorner ∈ kw := kw_in (List.mem_append_right _ (List.mem_of_getElem? (i := 230) rfl)) (by decide +kernel)
set_option maxRecDepth 20000 in
theorem mw_232 : Cond.instanceMethod y_Me_hasCorner ∈ kw := kw_in (List.mem_append_right _ (List.mem_of_getElem? (i := 232) rfl)) (by decide +kernel)
set_option maxRecDepth 20000 in
theorem ms_0 : Cond.selects R_Me y_Me_hasCorner y_Me_hasCorner ∈ kw := kw_in (List.mem_append_left _ (List.mem_of_getElem? (i := 0) rfl)) (by decide +kernel)
set_option maxRecDepth 20000 in
theorem mc_Me_hasCorner : Cond.code y_Me_hasCorner b_Me_hasCorner 2 (some .boolean) ∈ kw := kw_in (List.mem_append_right _ (List.mem_of_getElem? (i := 233) rfl)) (by decide +kernel)
theorem wV_Me_35 : wV R_Me 35 y_Me_hasCorner b_Me_hasCorner 2 (some .boolean) 1 := ⟨mw_230, mw_232, ms_0, mw_2, mc_Me_hasCorner, by decide +kernel, by decide +kernel, by decide +kernel⟩
set_option maxRecDepth 20000 in
theorem mw_226 : Cond.methodLink R_LS 55 y_Me_addTriangle ∈ kw := kw_in (List.mem_append_right _ (List.mem_of_getElem? (i := 226) rfl)) (by decide +kernel)
set_option maxRecDepth 20000 in
theorem mw_227 : Cond.instanceMethod y_Me_addTriangle ∈ kw := kw_in (List.mem_append_right _ (List.mem_of_getElem? (i := 227) rfl)) (by decide +kernel)
set_option maxRecDepth 20000 in
theorem mw_228 : Cond.selects R_Me y_Me_addTriangle y_Me_addTriangle ∈ kw := kw_in (List.mem_append_right _ (List.mem_of_getElem? (i := 228) rfl)) (by decide +kernel)
set_option maxRecDepth 20000 in
theorem mc_Me_addTriangle : Cond.code y_Me_addTriangle b_Me_addTriangle 4 (some .int) ∈ kw := kw_in (List.mem_append_right _ (List.mem_of_getElem? (i := 229) rfl)) (by decide +kernel)
theorem wV_LS_55 : wV R_LS 55 y_Me_addTriangle b_Me_addTriangle 4 (some .int) 3 := ⟨mw_226, mw_227, mw_228, mw_2, mc_Me_addTriangle, by decide +kernel, by decide +kernel, by decide +kernel⟩
set_option maxRecDepth 20000 in
theorem mw_253 : Cond.methodLink R_Mn 65 y_Me_samePlace ∈ kw := kw_in (List.mem_append_right _ (List.mem_of_getElem? (i := 253) rfl)) (by decide +kernel)
set_option maxRecDepth 20000 in
theorem mw_254 : Cond.instanceMethod y_Me_samePlace ∈ kw := kw_in (List.mem_append_right _ (List.mem_of_getElem? (i := 254) rfl)) (by decide +kernel)
set_option maxRecDepth 20000 in
theorem mw_255 : Cond.selects R_Me y_Me_samePlace y_Me_samePlace ∈ kw := kw_in (List.mem_append_right _ (List.mem_of_getElem? (i := 255) rfl)) (by decide +kernel)
set_option maxRecDepth 20000 in
theorem mc_Me_samePlace : Cond.code y_Me_samePlace b_Me_samePlace 3 (some .boolean) ∈ kw := kw_in (List.mem_append_right _ (List.mem_of_getElem? (i := 256) rfl)) (by decide +kernel)
theorem wV_Mn_65 : wV R_Mn 65 y_Me_samePlace b_Me_samePlace 3 (some .boolean) 2 := ⟨mw_253, mw_254, mw_255, mw_2, mc_Me_samePlace, by decide +kernel, by decide +kernel, by decide +kernel⟩
set_option maxRecDepth 20000 in
theorem fl_Mn_42 : Cond.fieldLink R_Mn 42 (F_Me 3).1 (F_Me 3).2.1 (F_Me 3).2.2.1 ∈ kw := kw_in (List.mem_append_right _ (List.mem_of_getElem? (i := 38) rfl)) (by decide +kernel)
set_option maxRecDepth 20000 in
theorem fl_Mn_9 : Cond.fieldLink R_Mn 9 (F_Mn 3).1 (F_Mn 3).2.1 (F_Mn 3).2.2.1 ∈ kw := kw_in (List.mem_append_right _ (List.mem_of_getElem? (i := 73) rfl)) (by decide +kernel)
set_option maxRecDepth 20000 in
theorem fl_Mn_15 : Cond.fieldLink R_Mn 15 (F_Mn 4).1 (F_Mn 4).2.1 (F_Mn 4).2.2.1 ∈ kw := kw_in (List.mem_append_right _ (List.mem_of_getElem? (i := 74) rfl)) (by decide +kernel)
set_option maxRecDepth 20000 in
theorem mw_250 : Cond.methodLink R_Mn 52 y_Mn_lowestAtPlaceOf ∈ kw := kw_in (List.mem_append_right _ (List.mem_of_getElem? (i := 250) rfl)) (by decide +kernel)
set_option maxRecDepth 20000 in
theorem mw_251 : Cond.static y_Mn_lowestAtPlaceOf ∈ kw := kw_in (List.mem_append_right _ (List.mem_of_getElem? (i := 251) rfl)) (by decide +kernel)
set_option maxRecDepth 20000 in
theorem mw_3 : Cond.initialized R_Mn ∈ kw := kw_in (List.mem_append_right _ (List.mem_of_getElem? (i := 3) rfl)) (by decide +kernel)
set_option maxRecDepth 20000 in
theorem mc_Mn_lowestAtPlaceOf : Cond.code y_Mn_lowestAtPlaceOf b_Mn_lowestAtPlaceOf 3 (some .int) ∈ kw := kw_in (List.mem_append_right _ (List.mem_of_getElem? (i := 252) rfl)) (by decide +kernel)
theorem wS_Mn_52 : wS R_Mn 52 y_Mn_lowestAtPlaceOf b_Mn_lowestAtPlaceOf 3 (some .int) 2 := ⟨mw_250, mw_251, mw_3, mc_Mn_lowestAtPlaceOf, by decide +kernel, by decide +kernel, by decide +kernel⟩
set_option maxRecDepth 20000 in
theorem fl_Mn_56 : Cond.fieldLink R_Mn 56 (F_Me 5).1 (F_Me 5).2.1 (F_Me 5).2.2.1 ∈ kw := kw_in (List.mem_append_right _ (List.mem_of_getElem? (i := 44) rfl)) (by decide +kernel)
set_option maxRecDepth 20000 in
theorem fl_Mn_59 : Cond.fieldLink R_Mn 59 (F_Me 4).1 (F_Me 4).2.1 (F_Me 4).2.2.1 ∈ kw := kw_in (List.mem_append_right _ (List.mem_of_getElem? (i := 40) rfl)) (by decide +kernel)
set_option maxRecDepth 20000 in
theorem fl_Mn_62 : Cond.fieldLink R_Mn 62 (F_Mn 0).1 (F_Mn 0).2.1 (F_Mn 0).2.2.1 ∈ kw := kw_in (List.mem_append_right _ (List.mem_of_getElem? (i := 67) rfl)) (by decide +kernel)
set_option maxRecDepth 20000 in
theorem fl_Mn_77 : Cond.fieldLink R_Mn 77 (F_Mn 1).1 (F_Mn 1).2.1 (F_Mn 1).2.2.1 ∈ kw := kw_in (List.mem_append_right _ (List.mem_of_getElem? (i := 70) rfl)) (by decide +kernel)
set_option maxRecDepth 20000 in
theorem mw_265 : Cond.methodLink R_Mn 73 y_Me_name ∈ kw := kw_in (List.mem_append_right _ (List.mem_of_getElem? (i := 265) rfl)) (by decide +kernel)
theorem wV_Mn_73 : wV R_Mn 73 y_Me_name b_Me_name 5 none 4 := ⟨mw_265, mw_235, mw_236, mw_2, mc_Me_name, by decide +kernel, by decide +kernel, by decide +kernel⟩
set_option maxRecDepth 20000 in
theorem mw_261 : Cond.methodLink R_Mn 69 y_Me_onOneLine ∈ kw := kw_in (List.mem_append_right _ (List.mem_of_getElem? (i := 261) rfl)) (by decide +kernel)
set_option maxRecDepth 20000 in
theorem mw_262 : Cond.instanceMethod y_Me_onOneLine ∈ kw := kw_in (List.mem_append_right _ (List.mem_of_getElem? (i := 262) rfl)) (by decide +kernel)
set_option maxRecDepth 20000 in
theorem mw_263 : Cond.selects R_Me y_Me_onOneLine y_Me_onOneLine ∈ kw := kw_in (List.mem_append_right _ (List.mem_of_getElem? (i := 263) rfl)) (by decide +kernel)
set_option maxRecDepth 20000 in
theorem mc_Me_onOneLine : Cond.code y_Me_onOneLine b_Me_onOneLine 10 (some .boolean) ∈ kw := kw_in (List.mem_append_right _ (List.mem_of_getElem? (i := 264) rfl)) (by decide +kernel)
theorem wV_Mn_69 : wV R_Mn 69 y_Me_onOneLine b_Me_onOneLine 10 (some .boolean) 3 := ⟨mw_261, mw_262, mw_263, mw_2, mc_Me_onOneLine, by decide +kernel, by decide +kernel, by decide +kernel⟩
set_option maxRecDepth 20000 in
theorem fl_Mn_19 : Cond.fieldLink R_Mn 19 (F_Mn 5).1 (F_Mn 5).2.1 (F_Mn 5).2.2.1 ∈ kw := kw_in (List.mem_append_right _ (List.mem_of_getElem? (i := 75) rfl)) (by decide +kernel)
set_option maxRecDepth 20000 in
theorem fl_Mn_22 : Cond.fieldLink R_Mn 22 (F_Mn 6).1 (F_Mn 6).2.1 (F_Mn 6).2.2.1 ∈ kw := kw_in (List.mem_append_right _ (List.mem_of_getElem? (i := 76) rfl)) (by decide +kernel)
set_option maxRecDepth 20000 in
theorem mw_277 : Cond.methodLink R_Mn 90 y_Mn_addEdge ∈ kw := kw_in (List.mem_append_right _ (List.mem_of_getElem? (i := 277) rfl)) (by decide +kernel)
set_option maxRecDepth 20000 in
theorem mw_279 : Cond.instanceMethod y_Mn_addEdge ∈ kw := kw_in (List.mem_append_right _ (List.mem_of_getElem? (i := 279) rfl)) (by decide +kernel)
set_option maxRecDepth 20000 in
theorem ms_5 : Cond.selects R_Mn y_Mn_addEdge y_Mn_addEdge ∈ kw := kw_in (List.mem_append_left _ (List.mem_of_getElem? (i := 5) rfl)) (by decide +kernel)
set_option maxRecDepth 20000 in
theorem mc_Mn_addEdge : Cond.code y_Mn_addEdge b_Mn_addEdge 3 none ∈ kw := kw_in (List.mem_append_right _ (List.mem_of_getElem? (i := 280) rfl)) (by decide +kernel)
theorem wV_Mn_90 : wV R_Mn 90 y_Mn_addEdge b_Mn_addEdge 3 none 2 := ⟨mw_277, mw_279, ms_5, mw_3, mc_Mn_addEdge, by decide +kernel, by decide +kernel, by decide +kernel⟩
set_option maxRecDepth 20000 in
theorem mw_270 : Cond.methodLink R_Mn 80 y_Arr_fill ∈ kw := kw_in (List.mem_append_right _ (List.mem_of_getElem? (i := 270) rfl)) (by decide +kernel)
set_option maxRecDepth 20000 in
theorem mw_271 : Cond.static y_Arr_fill ∈ kw := kw_in (List.mem_append_right _ (List.mem_of_getElem? (i := 271) rfl)) (by decide +kernel)
set_option maxRecDepth 20000 in
theorem mw_9 : Cond.initialized R_Arr ∈ kw := kw_in (List.mem_append_right _ (List.mem_of_getElem? (i := 9) rfl)) (by decide +kernel)
set_option maxRecDepth 20000 in
theorem mc_Arr_fill : Cond.code y_Arr_fill b_Arr_fill 4 none ∈ kw := kw_in (List.mem_append_right _ (List.mem_of_getElem? (i := 272) rfl)) (by decide +kernel)
theorem wS_Mn_80 : wS R_Mn 80 y_Arr_fill b_Arr_fill 4 none 2 := ⟨mw_270, mw_271, mw_9, mc_Arr_fill, by decide +kernel, by decide +kernel, by decide +kernel⟩
set_option maxRecDepth 20000 in
theorem mw_273 : Cond.methodLink R_Mn 86 y_Mn_addEdgesOf ∈ kw := kw_in (List.mem_append_right _ (List.mem_of_getElem? (i := 273) rfl)) (by decide +kernel)
set_option maxRecDepth 20000 in
theorem mw_275 : Cond.instanceMethod y_Mn_addEdgesOf ∈ kw := kw_in (List.mem_append_right _ (List.mem_of_getElem? (i := 275) rfl)) (by decide +kernel)
set_option maxRecDepth 20000 in
theorem ms_4 : Cond.selects R_Mn y_Mn_addEdgesOf y_Mn_addEdgesOf ∈ kw := kw_in (List.mem_append_left _ (List.mem_of_getElem? (i := 4) rfl)) (by decide +kernel)
set_option maxRecDepth 20000 in
theorem mc_Mn_addEdgesOf : Cond.code y_Mn_addEdgesOf b_Mn_addEdgesOf 6 none ∈ kw := kw_in (List.mem_append_right _ (List.mem_of_getElem? (i := 276) rfl)) (by decide +kernel)
theorem wV_Mn_86 : wV R_Mn 86 y_Mn_addEdgesOf b_Mn_addEdgesOf 6 none 2 := ⟨mw_273, mw_275, ms_4, mw_3, mc_Mn_addEdgesOf, by decide +kernel, by decide +kernel, by decide +kernel⟩
set_option maxRecDepth 20000 in
theorem fl_Mn_25 : Cond.fieldLink R_Mn 25 (F_Mn 7).1 (F_Mn 7).2.1 (F_Mn 7).2.2.1 ∈ kw := kw_in (List.mem_append_right _ (List.mem_of_getElem? (i := 77) rfl)) (by decide +kernel)
set_option maxRecDepth 20000 in
theorem mw_293 : Cond.methodLink R_Mn 104 y_Mn_nextCorner ∈ kw := kw_in (List.mem_append_right _ (List.mem_of_getElem? (i := 293) rfl)) (by decide +kernel)
set_option maxRecDepth 20000 in
theorem mw_295 : Cond.instanceMethod y_Mn_nextCorner ∈ kw := kw_in (List.mem_append_right _ (List.mem_of_getElem? (i := 295) rfl)) (by decide +kernel)
set_option maxRecDepth 20000 in
theorem ms_9 : Cond.selects R_Mn y_Mn_nextCorner y_Mn_nextCorner ∈ kw := kw_in (List.mem_append_left _ (List.mem_of_getElem? (i := 9) rfl)) (by decide +kernel)
set_option maxRecDepth 20000 in
theorem mc_Mn_nextCorner : Cond.code y_Mn_nextCorner b_Mn_nextCorner 4 (some .int) ∈ kw := kw_in (List.mem_append_right _ (List.mem_of_getElem? (i := 296) rfl)) (by decide +kernel)
theorem wV_Mn_104 : wV R_Mn 104 y_Mn_nextCorner b_Mn_nextCorner 4 (some .int) 2 := ⟨mw_293, mw_295, ms_9, mw_3, mc_Mn_nextCorner, by decide +kernel, by decide +kernel, by decide +kernel⟩
set_option maxRecDepth 20000 in
theorem mw_289 : Cond.methodLink R_Mn 101 y_Mn_isInHole ∈ kw := kw_in (List.mem_append_right _ (List.mem_of_getElem? (i := 289) rfl)) (by decide +kernel)
set_option maxRecDepth 20000 in
theorem mw_291 : Cond.instanceMethod y_Mn_isInHole ∈ kw := kw_in (List.mem_append_right _ (List.mem_of_getElem? (i := 291) rfl)) (by decide +kernel)
set_option maxRecDepth 20000 in
theorem ms_8 : Cond.selects R_Mn y_Mn_isInHole y_Mn_isInHole ∈ kw := kw_in (List.mem_append_left _ (List.mem_of_getElem? (i := 8) rfl)) (by decide +kernel)
set_option maxRecDepth 20000 in
theorem mc_Mn_isInHole : Cond.code y_Mn_isInHole b_Mn_isInHole 4 (some .boolean) ∈ kw := kw_in (List.mem_append_right _ (List.mem_of_getElem? (i := 292) rfl)) (by decide +kernel)
theorem wV_Mn_101 : wV R_Mn 101 y_Mn_isInHole b_Mn_isInHole 4 (some .boolean) 2 := ⟨mw_289, mw_291, ms_8, mw_3, mc_Mn_isInHole, by decide +kernel, by decide +kernel, by decide +kernel⟩
set_option maxRecDepth 20000 in
theorem fl_Mn_111 : Cond.fieldLink R_Mn 111 (F_Mn 2).1 (F_Mn 2).2.1 (F_Mn 2).2.2.1 ∈ kw := kw_in (List.mem_append_right _ (List.mem_of_getElem? (i := 72) rfl)) (by decide +kernel)
set_option maxRecDepth 20000 in
theorem mw_301 : Cond.methodLink R_Mn 107 y_Me_addTriangle ∈ kw := kw_in (List.mem_append_right _ (List.mem_of_getElem? (i := 301) rfl)) (by decide +kernel)
theorem wV_Mn_107 : wV R_Mn 107 y_Me_addTriangle b_Me_addTriangle 4 (some .int) 3 := ⟨mw_301, mw_227, mw_228, mw_2, mc_Me_addTriangle, by decide +kernel, by decide +kernel, by decide +kernel⟩
set_option maxRecDepth 20000 in
theorem mw_297 : Cond.methodLink R_Mn 98 y_Mn_fillHole ∈ kw := kw_in (List.mem_append_right _ (List.mem_of_getElem? (i := 297) rfl)) (by decide +kernel)
set_option maxRecDepth 20000 in
theorem mw_299 : Cond.instanceMethod y_Mn_fillHole ∈ kw := kw_in (List.mem_append_right _ (List.mem_of_getElem? (i := 299) rfl)) (by decide +kernel)
set_option maxRecDepth 20000 in
theorem ms_10 : Cond.selects R_Mn y_Mn_fillHole y_Mn_fillHole ∈ kw := kw_in (List.mem_append_left _ (List.mem_of_getElem? (i := 10) rfl)) (by decide +kernel)
set_option maxRecDepth 20000 in
theorem mc_Mn_fillHole : Cond.code y_Mn_fillHole b_Mn_fillHole 4 none ∈ kw := kw_in (List.mem_append_right _ (List.mem_of_getElem? (i := 300) rfl)) (by decide +kernel)
theorem wV_Mn_98 : wV R_Mn 98 y_Mn_fillHole b_Mn_fillHole 4 none 2 := ⟨mw_297, mw_299, ms_10, mw_3, mc_Mn_fillHole, by decide +kernel, by decide +kernel, by decide +kernel⟩
set_option maxRecDepth 20000 in
theorem mw_285 : Cond.methodLink R_Mn 94 y_Mn_walkHole ∈ kw := kw_in (List.mem_append_right _ (List.mem_of_getElem? (i := 285) rfl)) (by decide +kernel)
set_option maxRecDepth 20000 in
theorem mw_287 : Cond.instanceMethod y_Mn_walkHole ∈ kw := kw_in (List.mem_append_right _ (List.mem_of_getElem? (i := 287) rfl)) (by decide +kernel)
set_option maxRecDepth 20000 in
theorem ms_7 : Cond.selects R_Mn y_Mn_walkHole y_Mn_walkHole ∈ kw := kw_in (List.mem_append_left _ (List.mem_of_getElem? (i := 7) rfl)) (by decide +kernel)
set_option maxRecDepth 20000 in
theorem mc_Mn_walkHole : Cond.code y_Mn_walkHole b_Mn_walkHole 5 (some .int) ∈ kw := kw_in (List.mem_append_right _ (List.mem_of_getElem? (i := 288) rfl)) (by decide +kernel)
theorem wV_Mn_94 : wV R_Mn 94 y_Mn_walkHole b_Mn_walkHole 5 (some .int) 2 := ⟨mw_285, mw_287, ms_7, mw_3, mc_Mn_walkHole, by decide +kernel, by decide +kernel, by decide +kernel⟩
set_option maxRecDepth 20000 in
theorem mw_266 : Cond.methodLink R_Mn 35 y_Mn_weighEdges ∈ kw := kw_in (List.mem_append_right _ (List.mem_of_getElem? (i := 266) rfl)) (by decide +kernel)
set_option maxRecDepth 20000 in
theorem mw_268 : Cond.instanceMethod y_Mn_weighEdges ∈ kw := kw_in (List.mem_append_right _ (List.mem_of_getElem? (i := 268) rfl)) (by decide +kernel)
set_option maxRecDepth 20000 in
theorem ms_3 : Cond.selects R_Mn y_Mn_weighEdges y_Mn_weighEdges ∈ kw := kw_in (List.mem_append_left _ (List.mem_of_getElem? (i := 3) rfl)) (by decide +kernel)
set_option maxRecDepth 20000 in
theorem mc_Mn_weighEdges : Cond.code y_Mn_weighEdges b_Mn_weighEdges 3 none ∈ kw := kw_in (List.mem_append_right _ (List.mem_of_getElem? (i := 269) rfl)) (by decide +kernel)
theorem wV_Mn_35 : wV R_Mn 35 y_Mn_weighEdges b_Mn_weighEdges 3 none 1 := ⟨mw_266, mw_268, ms_3, mw_3, mc_Mn_weighEdges, by decide +kernel, by decide +kernel, by decide +kernel⟩
set_option maxRecDepth 20000 in
theorem mw_257 : Cond.methodLink R_Mn 32 y_Mn_dropTriangles ∈ kw := kw_in (List.mem_append_right _ (List.mem_of_getElem? (i := 257) rfl)) (by decide +kernel)
set_option maxRecDepth 20000 in
theorem mw_259 : Cond.instanceMethod y_Mn_dropTriangles ∈ kw := kw_in (List.mem_append_right _ (List.mem_of_getElem? (i := 259) rfl)) (by decide +kernel)
set_option maxRecDepth 20000 in
theorem ms_2 : Cond.selects R_Mn y_Mn_dropTriangles y_Mn_dropTriangles ∈ kw := kw_in (List.mem_append_left _ (List.mem_of_getElem? (i := 2) rfl)) (by decide +kernel)
set_option maxRecDepth 20000 in
theorem mc_Mn_dropTriangles : Cond.code y_Mn_dropTriangles b_Mn_dropTriangles 7 none ∈ kw := kw_in (List.mem_append_right _ (List.mem_of_getElem? (i := 260) rfl)) (by decide +kernel)
theorem wV_Mn_32 : wV R_Mn 32 y_Mn_dropTriangles b_Mn_dropTriangles 7 none 1 := ⟨mw_257, mw_259, ms_2, mw_3, mc_Mn_dropTriangles, by decide +kernel, by decide +kernel, by decide +kernel⟩
set_option maxRecDepth 20000 in
theorem mw_246 : Cond.methodLink R_Mn 28 y_Mn_joinCorners ∈ kw := kw_in (List.mem_append_right _ (List.mem_of_getElem? (i := 246) rfl)) (by decide +kernel)
set_option maxRecDepth 20000 in
theorem mw_248 : Cond.instanceMethod y_Mn_joinCorners ∈ kw := kw_in (List.mem_append_right _ (List.mem_of_getElem? (i := 248) rfl)) (by decide +kernel)
set_option maxRecDepth 20000 in
theorem ms_1 : Cond.selects R_Mn y_Mn_joinCorners y_Mn_joinCorners ∈ kw := kw_in (List.mem_append_left _ (List.mem_of_getElem? (i := 1) rfl)) (by decide +kernel)
set_option maxRecDepth 20000 in
theorem mc_Mn_joinCorners : Cond.code y_Mn_joinCorners b_Mn_joinCorners 4 none ∈ kw := kw_in (List.mem_append_right _ (List.mem_of_getElem? (i := 249) rfl)) (by decide +kernel)
theorem wV_Mn_28 : wV R_Mn 28 y_Mn_joinCorners b_Mn_joinCorners 4 none 1 := ⟨mw_246, mw_248, ms_1, mw_3, mc_Mn_joinCorners, by decide +kernel, by decide +kernel, by decide +kernel⟩
set_option maxRecDepth 20000 in
theorem mw_302 : Cond.methodLink R_Mn 48 y_Mn_openInAll ∈ kw := kw_in (List.mem_append_right _ (List.mem_of_getElem? (i := 302) rfl)) (by decide +kernel)
set_option maxRecDepth 20000 in
theorem mw_304 : Cond.instanceMethod y_Mn_openInAll ∈ kw := kw_in (List.mem_append_right _ (List.mem_of_getElem? (i := 304) rfl)) (by decide +kernel)
set_option maxRecDepth 20000 in
theorem ms_11 : Cond.selects R_Mn y_Mn_openInAll y_Mn_openInAll ∈ kw := kw_in (List.mem_append_left _ (List.mem_of_getElem? (i := 11) rfl)) (by decide +kernel)
set_option maxRecDepth 20000 in
theorem mc_Mn_openInAll : Cond.code y_Mn_openInAll b_Mn_openInAll 4 (some .int) ∈ kw := kw_in (List.mem_append_right _ (List.mem_of_getElem? (i := 305) rfl)) (by decide +kernel)
theorem wV_Mn_48 : wV R_Mn 48 y_Mn_openInAll b_Mn_openInAll 4 (some .int) 1 := ⟨mw_302, mw_304, ms_11, mw_3, mc_Mn_openInAll, by decide +kernel, by decide +kernel, by decide +kernel⟩
set_option maxRecDepth 20000 in
theorem mw_281 : Cond.methodLink R_Mn 38 y_Mn_closeFirstHole ∈ kw := kw_in (List.mem_append_right _ (List.mem_of_getElem? (i := 281) rfl)) (by decide +kernel)
set_option maxRecDepth 20000 in
theorem mw_283 : Cond.instanceMethod y_Mn_closeFirstHole ∈ kw := kw_in (List.mem_append_right _ (List.mem_of_getElem? (i := 283) rfl)) (by decide +kernel)
set_option maxRecDepth 20000 in
theorem ms_6 : Cond.selects R_Mn y_Mn_closeFirstHole y_Mn_closeFirstHole ∈ kw := kw_in (List.mem_append_left _ (List.mem_of_getElem? (i := 6) rfl)) (by decide +kernel)
set_option maxRecDepth 20000 in
theorem mc_Mn_closeFirstHole : Cond.code y_Mn_closeFirstHole b_Mn_closeFirstHole 4 (some .boolean) ∈ kw := kw_in (List.mem_append_right _ (List.mem_of_getElem? (i := 284) rfl)) (by decide +kernel)
theorem wV_Mn_38 : wV R_Mn 38 y_Mn_closeFirstHole b_Mn_closeFirstHole 4 (some .boolean) 1 := ⟨mw_281, mw_283, ms_6, mw_3, mc_Mn_closeFirstHole, by decide +kernel, by decide +kernel, by decide +kernel⟩
set_option maxRecDepth 20000 in
theorem fl_LS_19 : Cond.fieldLink R_LS 19 (F_LS 1).1 (F_LS 1).2.1 (F_LS 1).2.2.1 ∈ kw := kw_in (List.mem_append_right _ (List.mem_of_getElem? (i := 193) rfl)) (by decide +kernel)
set_option maxRecDepth 20000 in
theorem mw_242 : Cond.methodLink R_LS 58 y_Mn_mendMesh ∈ kw := kw_in (List.mem_append_right _ (List.mem_of_getElem? (i := 242) rfl)) (by decide +kernel)
set_option maxRecDepth 20000 in
theorem mw_243 : Cond.instanceMethod y_Mn_mendMesh ∈ kw := kw_in (List.mem_append_right _ (List.mem_of_getElem? (i := 243) rfl)) (by decide +kernel)
set_option maxRecDepth 20000 in
theorem mw_244 : Cond.selects R_Mn y_Mn_mendMesh y_Mn_mendMesh ∈ kw := kw_in (List.mem_append_right _ (List.mem_of_getElem? (i := 244) rfl)) (by decide +kernel)
set_option maxRecDepth 20000 in
theorem mc_Mn_mendMesh : Cond.code y_Mn_mendMesh b_Mn_mendMesh 4 (some .int) ∈ kw := kw_in (List.mem_append_right _ (List.mem_of_getElem? (i := 245) rfl)) (by decide +kernel)
theorem wV_LS_58 : wV R_LS 58 y_Mn_mendMesh b_Mn_mendMesh 4 (some .int) 1 := ⟨mw_242, mw_243, mw_244, mw_3, mc_Mn_mendMesh, by decide +kernel, by decide +kernel, by decide +kernel⟩
set_option maxRecDepth 20000 in
theorem fl_LS_62 : Cond.fieldLink R_LS 62 (F_Mn 0).1 (F_Mn 0).2.1 (F_Mn 0).2.2.1 ∈ kw := kw_in (List.mem_append_right _ (List.mem_of_getElem? (i := 68) rfl)) (by decide +kernel)
set_option maxRecDepth 20000 in
theorem fl_LS_66 : Cond.fieldLink R_LS 66 (F_Mn 1).1 (F_Mn 1).2.1 (F_Mn 1).2.2.1 ∈ kw := kw_in (List.mem_append_right _ (List.mem_of_getElem? (i := 69) rfl)) (by decide +kernel)
set_option maxRecDepth 20000 in
theorem fl_LS_69 : Cond.fieldLink R_LS 69 (F_Mn 2).1 (F_Mn 2).2.1 (F_Mn 2).2.2.1 ∈ kw := kw_in (List.mem_append_right _ (List.mem_of_getElem? (i := 71) rfl)) (by decide +kernel)
set_option maxRecDepth 20000 in
theorem fl_LS_72 : Cond.fieldLink R_LS 72 (F_Me 5).1 (F_Me 5).2.1 (F_Me 5).2.2.1 ∈ kw := kw_in (List.mem_append_right _ (List.mem_of_getElem? (i := 45) rfl)) (by decide +kernel)
set_option maxRecDepth 20000 in
theorem fl_LS_75 : Cond.fieldLink R_LS 75 (F_Me 4).1 (F_Me 4).2.1 (F_Me 4).2.2.1 ∈ kw := kw_in (List.mem_append_right _ (List.mem_of_getElem? (i := 41) rfl)) (by decide +kernel)
set_option maxRecDepth 20000 in
theorem mw_318 : Cond.methodLink R_LS 79 y_Me_turnQuarter ∈ kw := kw_in (List.mem_append_right _ (List.mem_of_getElem? (i := 318) rfl)) (by decide +kernel)
set_option maxRecDepth 20000 in
theorem mw_319 : Cond.instanceMethod y_Me_turnQuarter ∈ kw := kw_in (List.mem_append_right _ (List.mem_of_getElem? (i := 319) rfl)) (by decide +kernel)
set_option maxRecDepth 20000 in
theorem mw_320 : Cond.selects R_Me y_Me_turnQuarter y_Me_turnQuarter ∈ kw := kw_in (List.mem_append_right _ (List.mem_of_getElem? (i := 320) rfl)) (by decide +kernel)
set_option maxRecDepth 20000 in
theorem mc_Me_turnQuarter : Cond.code y_Me_turnQuarter b_Me_turnQuarter 5 none ∈ kw := kw_in (List.mem_append_right _ (List.mem_of_getElem? (i := 321) rfl)) (by decide +kernel)
theorem wV_LS_79 : wV R_LS 79 y_Me_turnQuarter b_Me_turnQuarter 5 none 1 := ⟨mw_318, mw_319, mw_320, mw_2, mc_Me_turnQuarter, by decide +kernel, by decide +kernel, by decide +kernel⟩
set_option maxRecDepth 20000 in
theorem wC_Me_48 : wCpy R_Me 48 := ⟨(kw_in (List.mem_append_right _ (List.mem_of_getElem? (i := 334) rfl)) (by decide +kernel)), (kw_in (List.mem_append_right _ (List.mem_of_getElem? (i := 336) rfl)) (by decide +kernel)), (kw_in (List.mem_append_right _ (List.mem_of_getElem? (i := 335) rfl)) (by decide +kernel)), (kw_in (List.mem_append_right _ (List.mem_of_getElem? (i := 10) rfl)) (by decide +kernel))⟩
set_option maxRecDepth 20000 in
theorem wM_Me_42 : wMax R_Me 42 := ⟨(kw_in (List.mem_append_right _ (List.mem_of_getElem? (i := 341) rfl)) (by decide +kernel)), (kw_in (List.mem_append_right _ (List.mem_of_getElem? (i := 342) rfl)) (by decide +kernel)), (kw_in (List.mem_append_right _ (List.mem_of_getElem? (i := 11) rfl)) (by decide +kernel)), (kw_in (List.mem_append_right _ (List.mem_of_getElem? (i := 343) rfl)) (by decide +kernel))⟩
set_option maxRecDepth 20000 in
theorem fl_Sl_29 : Cond.fieldLink R_Sl 29 (F_Sl 2).1 (F_Sl 2).2.1 (F_Sl 2).2.2.1 ∈ kw := kw_in (List.mem_append_right _ (List.mem_of_getElem? (i := 109) rfl)) (by decide +kernel)
set_option maxRecDepth 20000 in
theorem fl_Sl_37 : Cond.fieldLink R_Sl 37 (F_Sl 0).1 (F_Sl 0).2.1 (F_Sl 0).2.2.1 ∈ kw := kw_in (List.mem_append_right _ (List.mem_of_getElem? (i := 104) rfl)) (by decide +kernel)
set_option maxRecDepth 20000 in
theorem fl_Sl_18 : Cond.fieldLink R_Sl 18 (F_Sl 3).1 (F_Sl 3).2.1 (F_Sl 3).2.2.1 ∈ kw := kw_in (List.mem_append_right _ (List.mem_of_getElem? (i := 110) rfl)) (by decide +kernel)
set_option maxRecDepth 20000 in
theorem fl_Sl_73 : Cond.fieldLink R_Sl 73 (F_Me 2).1 (F_Me 2).2.1 (F_Me 2).2.2.1 ∈ kw := kw_in (List.mem_append_right _ (List.mem_of_getElem? (i := 36) rfl)) (by decide +kernel)
set_option maxRecDepth 20000 in
theorem mw_344 : Cond.methodLink R_Sl 40 y_Sl_doubleHeight ∈ kw := kw_in (List.mem_append_right _ (List.mem_of_getElem? (i := 344) rfl)) (by decide +kernel)
set_option maxRecDepth 20000 in
theorem mw_346 : Cond.instanceMethod y_Sl_doubleHeight ∈ kw := kw_in (List.mem_append_right _ (List.mem_of_getElem? (i := 346) rfl)) (by decide +kernel)
set_option maxRecDepth 20000 in
theorem ms_12 : Cond.selects R_Sl y_Sl_doubleHeight y_Sl_doubleHeight ∈ kw := kw_in (List.mem_append_left _ (List.mem_of_getElem? (i := 12) rfl)) (by decide +kernel)
set_option maxRecDepth 20000 in
theorem mw_4 : Cond.initialized R_Sl ∈ kw := kw_in (List.mem_append_right _ (List.mem_of_getElem? (i := 4) rfl)) (by decide +kernel)
set_option maxRecDepth 20000 in
theorem mc_Sl_doubleHeight : Cond.code y_Sl_doubleHeight b_Sl_doubleHeight 2 (some .int) ∈ kw := kw_in (List.mem_append_right _ (List.mem_of_getElem? (i := 347) rfl)) (by decide +kernel)
theorem wV_Sl_40 : wV R_Sl 40 y_Sl_doubleHeight b_Sl_doubleHeight 2 (some .int) 1 := ⟨mw_344, mw_346, ms_12, mw_4, mc_Sl_doubleHeight, by decide +kernel, by decide +kernel, by decide +kernel⟩
set_option maxRecDepth 20000 in
theorem fl_Sl_9 : Cond.fieldLink R_Sl 9 (F_Sl 1).1 (F_Sl 1).2.1 (F_Sl 1).2.2.1 ∈ kw := kw_in (List.mem_append_right _ (List.mem_of_getElem? (i := 107) rfl)) (by decide +kernel)
set_option maxRecDepth 20000 in
theorem fl_Sl_76 : Cond.fieldLink R_Sl 76 (F_Me 0).1 (F_Me 0).2.1 (F_Me 0).2.2.1 ∈ kw := kw_in (List.mem_append_right _ (List.mem_of_getElem? (i := 32) rfl)) (by decide +kernel)
set_option maxRecDepth 20000 in
theorem fl_Sl_79 : Cond.fieldLink R_Sl 79 (F_Me 1).1 (F_Me 1).2.1 (F_Me 1).2.2.1 ∈ kw := kw_in (List.mem_append_right _ (List.mem_of_getElem? (i := 34) rfl)) (by decide +kernel)
set_option maxRecDepth 20000 in
theorem fl_Sl_60 : Cond.fieldLink R_Sl 60 (F_Me 5).1 (F_Me 5).2.1 (F_Me 5).2.2.1 ∈ kw := kw_in (List.mem_append_right _ (List.mem_of_getElem? (i := 46) rfl)) (by decide +kernel)
set_option maxRecDepth 20000 in
theorem mw_356 : Cond.methodLink R_Sl 48 y_Sl_hasLayer ∈ kw := kw_in (List.mem_append_right _ (List.mem_of_getElem? (i := 356) rfl)) (by decide +kernel)
set_option maxRecDepth 20000 in
theorem mw_357 : Cond.instanceMethod y_Sl_hasLayer ∈ kw := kw_in (List.mem_append_right _ (List.mem_of_getElem? (i := 357) rfl)) (by decide +kernel)
set_option maxRecDepth 20000 in
theorem mw_358 : Cond.selects R_Sl y_Sl_hasLayer y_Sl_hasLayer ∈ kw := kw_in (List.mem_append_right _ (List.mem_of_getElem? (i := 358) rfl)) (by decide +kernel)
set_option maxRecDepth 20000 in
theorem mc_Sl_hasLayer : Cond.code y_Sl_hasLayer b_Sl_hasLayer 2 (some .boolean) ∈ kw := kw_in (List.mem_append_right _ (List.mem_of_getElem? (i := 359) rfl)) (by decide +kernel)
theorem wV_Sl_48 : wV R_Sl 48 y_Sl_hasLayer b_Sl_hasLayer 2 (some .boolean) 1 := ⟨mw_356, mw_357, mw_358, mw_4, mc_Sl_hasLayer, by decide +kernel, by decide +kernel, by decide +kernel⟩
set_option maxRecDepth 20000 in
theorem fl_Sl_63 : Cond.fieldLink R_Sl 63 (F_Me 4).1 (F_Me 4).2.1 (F_Me 4).2.2.1 ∈ kw := kw_in (List.mem_append_right _ (List.mem_of_getElem? (i := 42) rfl)) (by decide +kernel)
set_option maxRecDepth 20000 in
theorem mw_360 : Cond.methodLink R_Sl 66 y_Sl_isBelow ∈ kw := kw_in (List.mem_append_right _ (List.mem_of_getElem? (i := 360) rfl)) (by decide +kernel)
set_option maxRecDepth 20000 in
theorem mw_362 : Cond.instanceMethod y_Sl_isBelow ∈ kw := kw_in (List.mem_append_right _ (List.mem_of_getElem? (i := 362) rfl)) (by decide +kernel)
set_option maxRecDepth 20000 in
theorem ms_14 : Cond.selects R_Sl y_Sl_isBelow y_Sl_isBelow ∈ kw := kw_in (List.mem_append_left _ (List.mem_of_getElem? (i := 14) rfl)) (by decide +kernel)
set_option maxRecDepth 20000 in
theorem mc_Sl_isBelow : Cond.code y_Sl_isBelow b_Sl_isBelow 3 (some .boolean) ∈ kw := kw_in (List.mem_append_right _ (List.mem_of_getElem? (i := 363) rfl)) (by decide +kernel)
theorem wV_Sl_66 : wV R_Sl 66 y_Sl_isBelow b_Sl_isBelow 3 (some .boolean) 2 := ⟨mw_360, mw_362, ms_14, mw_4, mc_Sl_isBelow, by decide +kernel, by decide +kernel, by decide +kernel⟩
set_option maxRecDepth 20000 in
theorem mw_364 : Cond.methodLink R_Sl 69 y_Sl_writeEnd ∈ kw := kw_in (List.mem_append_right _ (List.mem_of_getElem? (i := 364) rfl)) (by decide +kernel)
set_option maxRecDepth 20000 in
theorem mw_366 : Cond.instanceMethod y_Sl_writeEnd ∈ kw := kw_in (List.mem_append_right _ (List.mem_of_getElem? (i := 366) rfl)) (by decide +kernel)
set_option maxRecDepth 20000 in
theorem ms_15 : Cond.selects R_Sl y_Sl_writeEnd y_Sl_writeEnd ∈ kw := kw_in (List.mem_append_left _ (List.mem_of_getElem? (i := 15) rfl)) (by decide +kernel)
set_option maxRecDepth 20000 in
theorem mc_Sl_writeEnd : Cond.code y_Sl_writeEnd b_Sl_writeEnd 7 none ∈ kw := kw_in (List.mem_append_right _ (List.mem_of_getElem? (i := 367) rfl)) (by decide +kernel)
theorem wV_Sl_69 : wV R_Sl 69 y_Sl_writeEnd b_Sl_writeEnd 7 none 4 := ⟨mw_364, mw_366, ms_15, mw_4, mc_Sl_writeEnd, by decide +kernel, by decide +kernel, by decide +kernel⟩
set_option maxRecDepth 20000 in
theorem kc_Sl_95 : Cond.constantLong R_Sl 95 (lI 2) ∈ kw := kw_in (List.mem_append_right _ (List.mem_of_getElem? (i := 379) rfl)) (by decide +kernel)
set_option maxRecDepth 20000 in
theorem kc_Sl_97 : Cond.constantLong R_Sl 97 (lI 11) ∈ kw := kw_in (List.mem_append_right _ (List.mem_of_getElem? (i := 380) rfl)) (by decide +kernel)
set_option maxRecDepth 20000 in
theorem kc_Sl_99 : Cond.constantLong R_Sl 99 (lI 20) ∈ kw := kw_in (List.mem_append_right _ (List.mem_of_getElem? (i := 381) rfl)) (by decide +kernel)
set_option maxRecDepth 20000 in
theorem mw_372 : Cond.methodLink R_Sl 88 y_Sl_doubleCentre ∈ kw := kw_in (List.mem_append_right _ (List.mem_of_getElem? (i := 372) rfl)) (by decide +kernel)
set_option maxRecDepth 20000 in
theorem mw_373 : Cond.static y_Sl_doubleCentre ∈ kw := kw_in (List.mem_append_right _ (List.mem_of_getElem? (i := 373) rfl)) (by decide +kernel)
set_option maxRecDepth 20000 in
theorem mc_Sl_doubleCentre : Cond.code y_Sl_doubleCentre b_Sl_doubleCentre 1 (some .int) ∈ kw := kw_in (List.mem_append_right _ (List.mem_of_getElem? (i := 374) rfl)) (by decide +kernel)
theorem wS_Sl_88 : wS R_Sl 88 y_Sl_doubleCentre b_Sl_doubleCentre 1 (some .int) 1 := ⟨mw_372, mw_373, mw_4, mc_Sl_doubleCentre, by decide +kernel, by decide +kernel, by decide +kernel⟩
set_option maxRecDepth 20000 in
theorem mw_375 : Cond.methodLink R_Sl 91 y_Sl_cellsRightOfLine ∈ kw := kw_in (List.mem_append_right _ (List.mem_of_getElem? (i := 375) rfl)) (by decide +kernel)
set_option maxRecDepth 20000 in
theorem mw_377 : Cond.instanceMethod y_Sl_cellsRightOfLine ∈ kw := kw_in (List.mem_append_right _ (List.mem_of_getElem? (i := 377) rfl)) (by decide +kernel)
set_option maxRecDepth 20000 in
theorem ms_17 : Cond.selects R_Sl y_Sl_cellsRightOfLine y_Sl_cellsRightOfLine ∈ kw := kw_in (List.mem_append_left _ (List.mem_of_getElem? (i := 17) rfl)) (by decide +kernel)
set_option maxRecDepth 20000 in
theorem mc_Sl_cellsRightOfLine : Cond.code y_Sl_cellsRightOfLine b_Sl_cellsRightOfLine 12 (some .int) ∈ kw := kw_in (List.mem_append_right _ (List.mem_of_getElem? (i := 378) rfl)) (by decide +kernel)
theorem wV_Sl_91 : wV R_Sl 91 y_Sl_cellsRightOfLine b_Sl_cellsRightOfLine 12 (some .int) 4 := ⟨mw_375, mw_377, ms_17, mw_4, mc_Sl_cellsRightOfLine, by decide +kernel, by decide +kernel, by decide +kernel⟩
set_option maxRecDepth 20000 in
theorem fl_Sl_22 : Cond.fieldLink R_Sl 22 (F_Sl 4).1 (F_Sl 4).2.1 (F_Sl 4).2.2.1 ∈ kw := kw_in (List.mem_append_right _ (List.mem_of_getElem? (i := 111) rfl)) (by decide +kernel)
set_option maxRecDepth 20000 in
theorem mw_352 : Cond.methodLink R_Sl 82 y_Sl_findEnds ∈ kw := kw_in (List.mem_append_right _ (List.mem_of_getElem? (i := 352) rfl)) (by decide +kernel)
set_option maxRecDepth 20000 in
theorem mw_353 : Cond.instanceMethod y_Sl_findEnds ∈ kw := kw_in (List.mem_append_right _ (List.mem_of_getElem? (i := 353) rfl)) (by decide +kernel)
set_option maxRecDepth 20000 in
theorem mw_354 : Cond.selects R_Sl y_Sl_findEnds y_Sl_findEnds ∈ kw := kw_in (List.mem_append_right _ (List.mem_of_getElem? (i := 354) rfl)) (by decide +kernel)
set_option maxRecDepth 20000 in
theorem mc_Sl_findEnds : Cond.code y_Sl_findEnds b_Sl_findEnds 7 (some .boolean) ∈ kw := kw_in (List.mem_append_right _ (List.mem_of_getElem? (i := 355) rfl)) (by decide +kernel)
theorem wV_Sl_82 : wV R_Sl 82 y_Sl_findEnds b_Sl_findEnds 7 (some .boolean) 2 := ⟨mw_352, mw_353, mw_354, mw_4, mc_Sl_findEnds, by decide +kernel, by decide +kernel, by decide +kernel⟩
set_option maxRecDepth 20000 in
theorem mw_368 : Cond.methodLink R_Sl 85 y_Sl_cellsRightOfCut ∈ kw := kw_in (List.mem_append_right _ (List.mem_of_getElem? (i := 368) rfl)) (by decide +kernel)
set_option maxRecDepth 20000 in
theorem mw_370 : Cond.instanceMethod y_Sl_cellsRightOfCut ∈ kw := kw_in (List.mem_append_right _ (List.mem_of_getElem? (i := 370) rfl)) (by decide +kernel)
set_option maxRecDepth 20000 in
theorem ms_16 : Cond.selects R_Sl y_Sl_cellsRightOfCut y_Sl_cellsRightOfCut ∈ kw := kw_in (List.mem_append_left _ (List.mem_of_getElem? (i := 16) rfl)) (by decide +kernel)
set_option maxRecDepth 20000 in
theorem mc_Sl_cellsRightOfCut : Cond.code y_Sl_cellsRightOfCut b_Sl_cellsRightOfCut 5 (some .int) ∈ kw := kw_in (List.mem_append_right _ (List.mem_of_getElem? (i := 371) rfl)) (by decide +kernel)
theorem wV_Sl_85 : wV R_Sl 85 y_Sl_cellsRightOfCut b_Sl_cellsRightOfCut 5 (some .int) 1 := ⟨mw_368, mw_370, ms_16, mw_4, mc_Sl_cellsRightOfCut, by decide +kernel, by decide +kernel, by decide +kernel⟩
set_option maxRecDepth 20000 in
theorem mw_337 : Cond.methodLink R_Sl 33 y_Me_greatestZ ∈ kw := kw_in (List.mem_append_right _ (List.mem_of_getElem? (i := 337) rfl)) (by decide +kernel)
set_option maxRecDepth 20000 in
theorem mw_338 : Cond.instanceMethod y_Me_greatestZ ∈ kw := kw_in (List.mem_append_right _ (List.mem_of_getElem? (i := 338) rfl)) (by decide +kernel)
set_option maxRecDepth 20000 in
theorem mw_339 : Cond.selects R_Me y_Me_greatestZ y_Me_greatestZ ∈ kw := kw_in (List.mem_append_right _ (List.mem_of_getElem? (i := 339) rfl)) (by decide +kernel)
set_option maxRecDepth 20000 in
theorem mc_Me_greatestZ : Cond.code y_Me_greatestZ b_Me_greatestZ 3 (some .int) ∈ kw := kw_in (List.mem_append_right _ (List.mem_of_getElem? (i := 340) rfl)) (by decide +kernel)
theorem wV_Sl_33 : wV R_Sl 33 y_Me_greatestZ b_Me_greatestZ 3 (some .int) 0 := ⟨mw_337, mw_338, mw_339, mw_2, mc_Me_greatestZ, by decide +kernel, by decide +kernel, by decide +kernel⟩
set_option maxRecDepth 20000 in
theorem mw_330 : Cond.methodLink R_Sl 25 y_Me_copyFrom ∈ kw := kw_in (List.mem_append_right _ (List.mem_of_getElem? (i := 330) rfl)) (by decide +kernel)
set_option maxRecDepth 20000 in
theorem mw_331 : Cond.instanceMethod y_Me_copyFrom ∈ kw := kw_in (List.mem_append_right _ (List.mem_of_getElem? (i := 331) rfl)) (by decide +kernel)
set_option maxRecDepth 20000 in
theorem mw_332 : Cond.selects R_Me y_Me_copyFrom y_Me_copyFrom ∈ kw := kw_in (List.mem_append_right _ (List.mem_of_getElem? (i := 332) rfl)) (by decide +kernel)
set_option maxRecDepth 20000 in
theorem mc_Me_copyFrom : Cond.code y_Me_copyFrom b_Me_copyFrom 2 none ∈ kw := kw_in (List.mem_append_right _ (List.mem_of_getElem? (i := 333) rfl)) (by decide +kernel)
theorem wV_Sl_25 : wV R_Sl 25 y_Me_copyFrom b_Me_copyFrom 2 none 1 := ⟨mw_330, mw_331, mw_332, mw_2, mc_Me_copyFrom, by decide +kernel, by decide +kernel, by decide +kernel⟩
set_option maxRecDepth 20000 in
theorem mw_348 : Cond.methodLink R_Sl 44 y_Sl_fillLayer ∈ kw := kw_in (List.mem_append_right _ (List.mem_of_getElem? (i := 348) rfl)) (by decide +kernel)
set_option maxRecDepth 20000 in
theorem mw_350 : Cond.instanceMethod y_Sl_fillLayer ∈ kw := kw_in (List.mem_append_right _ (List.mem_of_getElem? (i := 350) rfl)) (by decide +kernel)
set_option maxRecDepth 20000 in
theorem ms_13 : Cond.selects R_Sl y_Sl_fillLayer y_Sl_fillLayer ∈ kw := kw_in (List.mem_append_left _ (List.mem_of_getElem? (i := 13) rfl)) (by decide +kernel)
set_option maxRecDepth 20000 in
theorem mc_Sl_fillLayer : Cond.code y_Sl_fillLayer b_Sl_fillLayer 4 none ∈ kw := kw_in (List.mem_append_right _ (List.mem_of_getElem? (i := 351) rfl)) (by decide +kernel)
theorem wV_Sl_44 : wV R_Sl 44 y_Sl_fillLayer b_Sl_fillLayer 4 none 1 := ⟨mw_348, mw_350, ms_13, mw_4, mc_Sl_fillLayer, by decide +kernel, by decide +kernel, by decide +kernel⟩
set_option maxRecDepth 20000 in
theorem mw_394 : Cond.methodLink R_Sl 52 y_Sl_hasRow ∈ kw := kw_in (List.mem_append_right _ (List.mem_of_getElem? (i := 394) rfl)) (by decide +kernel)
set_option maxRecDepth 20000 in
theorem mw_395 : Cond.instanceMethod y_Sl_hasRow ∈ kw := kw_in (List.mem_append_right _ (List.mem_of_getElem? (i := 395) rfl)) (by decide +kernel)
set_option maxRecDepth 20000 in
theorem mw_396 : Cond.selects R_Sl y_Sl_hasRow y_Sl_hasRow ∈ kw := kw_in (List.mem_append_right _ (List.mem_of_getElem? (i := 396) rfl)) (by decide +kernel)
set_option maxRecDepth 20000 in
theorem mc_Sl_hasRow : Cond.code y_Sl_hasRow b_Sl_hasRow 3 (some .boolean) ∈ kw := kw_in (List.mem_append_right _ (List.mem_of_getElem? (i := 397) rfl)) (by decide +kernel)
theorem wV_Sl_52 : wV R_Sl 52 y_Sl_hasRow b_Sl_hasRow 3 (some .boolean) 2 := ⟨mw_394, mw_395, mw_396, mw_4, mc_Sl_hasRow, by decide +kernel, by decide +kernel, by decide +kernel⟩
set_option maxRecDepth 20000 in
theorem mw_402 : Cond.methodLink R_Sl 56 y_Sl_solidRow ∈ kw := kw_in (List.mem_append_right _ (List.mem_of_getElem? (i := 402) rfl)) (by decide +kernel)
set_option maxRecDepth 20000 in
theorem mw_391 : Cond.instanceMethod y_Sl_solidRow ∈ kw := kw_in (List.mem_append_right _ (List.mem_of_getElem? (i := 391) rfl)) (by decide +kernel)
set_option maxRecDepth 20000 in
theorem mw_392 : Cond.selects R_Sl y_Sl_solidRow y_Sl_solidRow ∈ kw := kw_in (List.mem_append_right _ (List.mem_of_getElem? (i := 392) rfl)) (by decide +kernel)
set_option maxRecDepth 20000 in
theorem mc_Sl_solidRow : Cond.code y_Sl_solidRow b_Sl_solidRow 3 (some .int) ∈ kw := kw_in (List.mem_append_right _ (List.mem_of_getElem? (i := 393) rfl)) (by decide +kernel)
theorem wV_Sl_56 : wV R_Sl 56 y_Sl_solidRow b_Sl_solidRow 3 (some .int) 2 := ⟨mw_402, mw_391, mw_392, mw_4, mc_Sl_solidRow, by decide +kernel, by decide +kernel, by decide +kernel⟩
set_option maxRecDepth 20000 in
theorem fl_So_24 : Cond.fieldLink R_So 24 (F_So 3).1 (F_So 3).2.1 (F_So 3).2.2.1 ∈ kw := kw_in (List.mem_append_right _ (List.mem_of_getElem? (i := 136) rfl)) (by decide +kernel)
set_option maxRecDepth 20000 in
theorem mw_390 : Cond.methodLink R_So 53 y_Sl_solidRow ∈ kw := kw_in (List.mem_append_right _ (List.mem_of_getElem? (i := 390) rfl)) (by decide +kernel)
theorem wV_So_53 : wV R_So 53 y_Sl_solidRow b_Sl_solidRow 3 (some .int) 2 := ⟨mw_390, mw_391, mw_392, mw_4, mc_Sl_solidRow, by decide +kernel, by decide +kernel, by decide +kernel⟩
set_option maxRecDepth 20000 in
theorem fl_So_27 : Cond.fieldLink R_So 27 (F_So 4).1 (F_So 4).2.1 (F_So 4).2.2.1 ∈ kw := kw_in (List.mem_append_right _ (List.mem_of_getElem? (i := 137) rfl)) (by decide +kernel)
set_option maxRecDepth 20000 in
theorem fl_So_20 : Cond.fieldLink R_So 20 (F_So 2).1 (F_So 2).2.1 (F_So 2).2.2.1 ∈ kw := kw_in (List.mem_append_right _ (List.mem_of_getElem? (i := 135) rfl)) (by decide +kernel)
set_option maxRecDepth 20000 in
theorem fl_So_11 : Cond.fieldLink R_So 11 (F_So 0).1 (F_So 0).2.1 (F_So 0).2.2.1 ∈ kw := kw_in (List.mem_append_right _ (List.mem_of_getElem? (i := 131) rfl)) (by decide +kernel)
set_option maxRecDepth 20000 in
theorem fl_So_16 : Cond.fieldLink R_So 16 (F_So 1).1 (F_So 1).2.1 (F_So 1).2.2.1 ∈ kw := kw_in (List.mem_append_right _ (List.mem_of_getElem? (i := 133) rfl)) (by decide +kernel)
set_option maxRecDepth 20000 in
theorem fl_So_30 : Cond.fieldLink R_So 30 (F_So 5).1 (F_So 5).2.1 (F_So 5).2.2.1 ∈ kw := kw_in (List.mem_append_right _ (List.mem_of_getElem? (i := 138) rfl)) (by decide +kernel)
set_option maxRecDepth 20000 in
theorem mw_411 : Cond.methodLink R_So 68 y_Sl_rowNearSolid ∈ kw := kw_in (List.mem_append_right _ (List.mem_of_getElem? (i := 411) rfl)) (by decide +kernel)
set_option maxRecDepth 20000 in
theorem mw_412 : Cond.instanceMethod y_Sl_rowNearSolid ∈ kw := kw_in (List.mem_append_right _ (List.mem_of_getElem? (i := 412) rfl)) (by decide +kernel)
set_option maxRecDepth 20000 in
theorem mw_413 : Cond.selects R_Sl y_Sl_rowNearSolid y_Sl_rowNearSolid ∈ kw := kw_in (List.mem_append_right _ (List.mem_of_getElem? (i := 413) rfl)) (by decide +kernel)
set_option maxRecDepth 20000 in
theorem mc_Sl_rowNearSolid : Cond.code y_Sl_rowNearSolid b_Sl_rowNearSolid 8 (some .int) ∈ kw := kw_in (List.mem_append_right _ (List.mem_of_getElem? (i := 414) rfl)) (by decide +kernel)
theorem wV_So_68 : wV R_So 68 y_Sl_rowNearSolid b_Sl_rowNearSolid 8 (some .int) 3 := ⟨mw_411, mw_412, mw_413, mw_4, mc_Sl_rowNearSolid, by decide +kernel, by decide +kernel, by decide +kernel⟩
set_option maxRecDepth 20000 in
theorem mw_407 : Cond.methodLink R_So 65 y_So_lineCells ∈ kw := kw_in (List.mem_append_right _ (List.mem_of_getElem? (i := 407) rfl)) (by decide +kernel)
set_option maxRecDepth 20000 in
theorem mw_409 : Cond.instanceMethod y_So_lineCells ∈ kw := kw_in (List.mem_append_right _ (List.mem_of_getElem? (i := 409) rfl)) (by decide +kernel)
set_option maxRecDepth 20000 in
theorem ms_20 : Cond.selects R_So y_So_lineCells y_So_lineCells ∈ kw := kw_in (List.mem_append_left _ (List.mem_of_getElem? (i := 20) rfl)) (by decide +kernel)
set_option maxRecDepth 20000 in
theorem mw_5 : Cond.initialized R_So ∈ kw := kw_in (List.mem_append_right _ (List.mem_of_getElem? (i := 5) rfl)) (by decide +kernel)
set_option maxRecDepth 20000 in
theorem mc_So_lineCells : Cond.code y_So_lineCells b_So_lineCells 5 (some .int) ∈ kw := kw_in (List.mem_append_right _ (List.mem_of_getElem? (i := 410) rfl)) (by decide +kernel)
theorem wV_So_65 : wV R_So 65 y_So_lineCells b_So_lineCells 5 (some .int) 2 := ⟨mw_407, mw_409, ms_20, mw_5, mc_So_lineCells, by decide +kernel, by decide +kernel, by decide +kernel⟩
set_option maxRecDepth 20000 in
theorem mw_403 : Cond.methodLink R_So 61 y_So_rowBetweenSolid ∈ kw := kw_in (List.mem_append_right _ (List.mem_of_getElem? (i := 403) rfl)) (by decide +kernel)
set_option maxRecDepth 20000 in
theorem mw_405 : Cond.instanceMethod y_So_rowBetweenSolid ∈ kw := kw_in (List.mem_append_right _ (List.mem_of_getElem? (i := 405) rfl)) (by decide +kernel)
set_option maxRecDepth 20000 in
theorem ms_19 : Cond.selects R_So y_So_rowBetweenSolid y_So_rowBetweenSolid ∈ kw := kw_in (List.mem_append_left _ (List.mem_of_getElem? (i := 19) rfl)) (by decide +kernel)
set_option maxRecDepth 20000 in
theorem mc_So_rowBetweenSolid : Cond.code y_So_rowBetweenSolid b_So_rowBetweenSolid 6 (some .int) ∈ kw := kw_in (List.mem_append_right _ (List.mem_of_getElem? (i := 406) rfl)) (by decide +kernel)
theorem wV_So_61 : wV R_So 61 y_So_rowBetweenSolid b_So_rowBetweenSolid 6 (some .int) 3 := ⟨mw_403, mw_405, ms_19, mw_5, mc_So_rowBetweenSolid, by decide +kernel, by decide +kernel, by decide +kernel⟩
set_option maxRecDepth 20000 in
theorem mw_398 : Cond.methodLink R_So 57 y_Sl_rowAmongSolid ∈ kw := kw_in (List.mem_append_right _ (List.mem_of_getElem? (i := 398) rfl)) (by decide +kernel)
set_option maxRecDepth 20000 in
theorem mw_399 : Cond.instanceMethod y_Sl_rowAmongSolid ∈ kw := kw_in (List.mem_append_right _ (List.mem_of_getElem? (i := 399) rfl)) (by decide +kernel)
set_option maxRecDepth 20000 in
theorem mw_400 : Cond.selects R_Sl y_Sl_rowAmongSolid y_Sl_rowAmongSolid ∈ kw := kw_in (List.mem_append_right _ (List.mem_of_getElem? (i := 400) rfl)) (by decide +kernel)
set_option maxRecDepth 20000 in
theorem mc_Sl_rowAmongSolid : Cond.code y_Sl_rowAmongSolid b_Sl_rowAmongSolid 8 (some .int) ∈ kw := kw_in (List.mem_append_right _ (List.mem_of_getElem? (i := 401) rfl)) (by decide +kernel)
theorem wV_So_57 : wV R_So 57 y_Sl_rowAmongSolid b_Sl_rowAmongSolid 8 (some .int) 3 := ⟨mw_398, mw_399, mw_400, mw_4, mc_Sl_rowAmongSolid, by decide +kernel, by decide +kernel, by decide +kernel⟩
set_option maxRecDepth 20000 in
theorem fl_So_33 : Cond.fieldLink R_So 33 (F_So 6).1 (F_So 6).2.1 (F_So 6).2.2.1 ∈ kw := kw_in (List.mem_append_right _ (List.mem_of_getElem? (i := 139) rfl)) (by decide +kernel)
set_option maxRecDepth 20000 in
theorem fl_So_40 : Cond.fieldLink R_So 40 (F_Sl 0).1 (F_Sl 0).2.1 (F_Sl 0).2.2.1 ∈ kw := kw_in (List.mem_append_right _ (List.mem_of_getElem? (i := 105) rfl)) (by decide +kernel)
set_option maxRecDepth 20000 in
theorem mw_415 : Cond.methodLink R_So 49 y_So_sortOpen ∈ kw := kw_in (List.mem_append_right _ (List.mem_of_getElem? (i := 415) rfl)) (by decide +kernel)
set_option maxRecDepth 20000 in
theorem mw_417 : Cond.instanceMethod y_So_sortOpen ∈ kw := kw_in (List.mem_append_right _ (List.mem_of_getElem? (i := 417) rfl)) (by decide +kernel)
set_option maxRecDepth 20000 in
theorem ms_21 : Cond.selects R_So y_So_sortOpen y_So_sortOpen ∈ kw := kw_in (List.mem_append_left _ (List.mem_of_getElem? (i := 21) rfl)) (by decide +kernel)
set_option maxRecDepth 20000 in
theorem mc_So_sortOpen : Cond.code y_So_sortOpen b_So_sortOpen 9 none ∈ kw := kw_in (List.mem_append_right _ (List.mem_of_getElem? (i := 418) rfl)) (by decide +kernel)
theorem wV_So_49 : wV R_So 49 y_So_sortOpen b_So_sortOpen 9 none 4 := ⟨mw_415, mw_417, ms_21, mw_5, mc_So_sortOpen, by decide +kernel, by decide +kernel, by decide +kernel⟩
set_option maxRecDepth 20000 in
theorem mw_386 : Cond.methodLink R_So 45 y_So_sortSolid ∈ kw := kw_in (List.mem_append_right _ (List.mem_of_getElem? (i := 386) rfl)) (by decide +kernel)
set_option maxRecDepth 20000 in
theorem mw_388 : Cond.instanceMethod y_So_sortSolid ∈ kw := kw_in (List.mem_append_right _ (List.mem_of_getElem? (i := 388) rfl)) (by decide +kernel)
set_option maxRecDepth 20000 in
theorem ms_18 : Cond.selects R_So y_So_sortSolid y_So_sortSolid ∈ kw := kw_in (List.mem_append_left _ (List.mem_of_getElem? (i := 18) rfl)) (by decide +kernel)
set_option maxRecDepth 20000 in
theorem mc_So_sortSolid : Cond.code y_So_sortSolid b_So_sortSolid 9 none ∈ kw := kw_in (List.mem_append_right _ (List.mem_of_getElem? (i := 389) rfl)) (by decide +kernel)
theorem wV_So_45 : wV R_So 45 y_So_sortSolid b_So_sortSolid 9 none 3 := ⟨mw_386, mw_388, ms_18, mw_5, mc_So_sortSolid, by decide +kernel, by decide +kernel, by decide +kernel⟩
set_option maxRecDepth 20000 in
theorem fl_Pr_22 : Cond.fieldLink R_Pr 22 (F_Pr 1).1 (F_Pr 1).2.1 (F_Pr 1).2.2.1 ∈ kw := kw_in (List.mem_append_right _ (List.mem_of_getElem? (i := 175) rfl)) (by decide +kernel)
set_option maxRecDepth 20000 in
theorem fl_Pr_25 : Cond.fieldLink R_Pr 25 (F_Pr 3).1 (F_Pr 3).2.1 (F_Pr 3).2.2.1 ∈ kw := kw_in (List.mem_append_right _ (List.mem_of_getElem? (i := 179) rfl)) (by decide +kernel)
set_option maxRecDepth 20000 in
theorem fl_Pr_18 : Cond.fieldLink R_Pr 18 (F_Pr 4).1 (F_Pr 4).2.1 (F_Pr 4).2.2.1 ∈ kw := kw_in (List.mem_append_right _ (List.mem_of_getElem? (i := 180) rfl)) (by decide +kernel)
set_option maxRecDepth 20000 in
theorem fl_Pr_15 : Cond.fieldLink R_Pr 15 (F_Pr 2).1 (F_Pr 2).2.1 (F_Pr 2).2.2.1 ∈ kw := kw_in (List.mem_append_right _ (List.mem_of_getElem? (i := 177) rfl)) (by decide +kernel)
set_option maxRecDepth 20000 in
theorem mw_423 : Cond.methodLink R_Pr 28 y_Arr_fill ∈ kw := kw_in (List.mem_append_right _ (List.mem_of_getElem? (i := 423) rfl)) (by decide +kernel)
theorem wS_Pr_28 : wS R_Pr 28 y_Arr_fill b_Arr_fill 4 none 2 := ⟨mw_423, mw_271, mw_9, mc_Arr_fill, by decide +kernel, by decide +kernel, by decide +kernel⟩
set_option maxRecDepth 20000 in
theorem fl_LS_26 : Cond.fieldLink R_LS 26 (F_LS 2).1 (F_LS 2).2.1 (F_LS 2).2.2.1 ∈ kw := kw_in (List.mem_append_right _ (List.mem_of_getElem? (i := 194) rfl)) (by decide +kernel)
set_option maxRecDepth 20000 in
theorem fl_LS_33 : Cond.fieldLink R_LS 33 (F_LS 3).1 (F_LS 3).2.1 (F_LS 3).2.2.1 ∈ kw := kw_in (List.mem_append_right _ (List.mem_of_getElem? (i := 195) rfl)) (by decide +kernel)
set_option maxRecDepth 20000 in
theorem fl_LS_47 : Cond.fieldLink R_LS 47 (F_LS 5).1 (F_LS 5).2.1 (F_LS 5).2.2.1 ∈ kw := kw_in (List.mem_append_right _ (List.mem_of_getElem? (i := 197) rfl)) (by decide +kernel)
set_option maxRecDepth 20000 in
theorem fl_LS_94 : Cond.fieldLink R_LS 94 (F_Sl 0).1 (F_Sl 0).2.1 (F_Sl 0).2.2.1 ∈ kw := kw_in (List.mem_append_right _ (List.mem_of_getElem? (i := 106) rfl)) (by decide +kernel)
set_option maxRecDepth 20000 in
theorem mw_419 : Cond.methodLink R_LS 91 y_Pr_clear ∈ kw := kw_in (List.mem_append_right _ (List.mem_of_getElem? (i := 419) rfl)) (by decide +kernel)
set_option maxRecDepth 20000 in
theorem mw_420 : Cond.instanceMethod y_Pr_clear ∈ kw := kw_in (List.mem_append_right _ (List.mem_of_getElem? (i := 420) rfl)) (by decide +kernel)
set_option maxRecDepth 20000 in
theorem mw_421 : Cond.selects R_Pr y_Pr_clear y_Pr_clear ∈ kw := kw_in (List.mem_append_right _ (List.mem_of_getElem? (i := 421) rfl)) (by decide +kernel)
set_option maxRecDepth 20000 in
theorem mw_7 : Cond.initialized R_Pr ∈ kw := kw_in (List.mem_append_right _ (List.mem_of_getElem? (i := 7) rfl)) (by decide +kernel)
set_option maxRecDepth 20000 in
theorem mc_Pr_clear : Cond.code y_Pr_clear b_Pr_clear 1 none ∈ kw := kw_in (List.mem_append_right _ (List.mem_of_getElem? (i := 422) rfl)) (by decide +kernel)
theorem wV_LS_91 : wV R_LS 91 y_Pr_clear b_Pr_clear 1 none 0 := ⟨mw_419, mw_420, mw_421, mw_7, mc_Pr_clear, by decide +kernel, by decide +kernel, by decide +kernel⟩
set_option maxRecDepth 20000 in
theorem mw_382 : Cond.methodLink R_LS 87 y_So_sortCells ∈ kw := kw_in (List.mem_append_right _ (List.mem_of_getElem? (i := 382) rfl)) (by decide +kernel)
set_option maxRecDepth 20000 in
theorem mw_383 : Cond.instanceMethod y_So_sortCells ∈ kw := kw_in (List.mem_append_right _ (List.mem_of_getElem? (i := 383) rfl)) (by decide +kernel)
set_option maxRecDepth 20000 in
theorem mw_384 : Cond.selects R_So y_So_sortCells y_So_sortCells ∈ kw := kw_in (List.mem_append_right _ (List.mem_of_getElem? (i := 384) rfl)) (by decide +kernel)
set_option maxRecDepth 20000 in
theorem mc_So_sortCells : Cond.code y_So_sortCells b_So_sortCells 5 none ∈ kw := kw_in (List.mem_append_right _ (List.mem_of_getElem? (i := 385) rfl)) (by decide +kernel)
theorem wV_LS_87 : wV R_LS 87 y_So_sortCells b_So_sortCells 5 none 1 := ⟨mw_382, mw_383, mw_384, mw_5, mc_So_sortCells, by decide +kernel, by decide +kernel, by decide +kernel⟩
set_option maxRecDepth 20000 in
theorem mw_326 : Cond.methodLink R_LS 83 y_Sl_cutAnew ∈ kw := kw_in (List.mem_append_right _ (List.mem_of_getElem? (i := 326) rfl)) (by decide +kernel)
set_option maxRecDepth 20000 in
theorem mw_327 : Cond.instanceMethod y_Sl_cutAnew ∈ kw := kw_in (List.mem_append_right _ (List.mem_of_getElem? (i := 327) rfl)) (by decide +kernel)
set_option maxRecDepth 20000 in
theorem mw_328 : Cond.selects R_Sl y_Sl_cutAnew y_Sl_cutAnew ∈ kw := kw_in (List.mem_append_right _ (List.mem_of_getElem? (i := 328) rfl)) (by decide +kernel)
set_option maxRecDepth 20000 in
theorem mc_Sl_cutAnew : Cond.code y_Sl_cutAnew b_Sl_cutAnew 5 none ∈ kw := kw_in (List.mem_append_right _ (List.mem_of_getElem? (i := 329) rfl)) (by decide +kernel)
theorem wV_LS_83 : wV R_LS 83 y_Sl_cutAnew b_Sl_cutAnew 5 none 2 := ⟨mw_326, mw_327, mw_328, mw_4, mc_Sl_cutAnew, by decide +kernel, by decide +kernel, by decide +kernel⟩
set_option maxRecDepth 20000 in
theorem fl_LS_104 : Cond.fieldLink R_LS 104 (F_Sl 1).1 (F_Sl 1).2.1 (F_Sl 1).2.2.1 ∈ kw := kw_in (List.mem_append_right _ (List.mem_of_getElem? (i := 108) rfl)) (by decide +kernel)
set_option maxRecDepth 20000 in
theorem mw_530 : Cond.methodLink R_LS 97 y_Sl_findEnds ∈ kw := kw_in (List.mem_append_right _ (List.mem_of_getElem? (i := 530) rfl)) (by decide +kernel)
theorem wV_LS_97 : wV R_LS 97 y_Sl_findEnds b_Sl_findEnds 7 (some .boolean) 2 := ⟨mw_530, mw_353, mw_354, mw_4, mc_Sl_findEnds, by decide +kernel, by decide +kernel, by decide +kernel⟩
set_option maxRecDepth 20000 in
theorem mw_428 : Cond.methodLink R_LS 107 y_Sl_solidRow ∈ kw := kw_in (List.mem_append_right _ (List.mem_of_getElem? (i := 428) rfl)) (by decide +kernel)
theorem wV_LS_107 : wV R_LS 107 y_Sl_solidRow b_Sl_solidRow 3 (some .int) 2 := ⟨mw_428, mw_391, mw_392, mw_4, mc_Sl_solidRow, by decide +kernel, by decide +kernel, by decide +kernel⟩
set_option maxRecDepth 20000 in
theorem mw_437 : Cond.methodLink R_So 36 y_So_upTo ∈ kw := kw_in (List.mem_append_right _ (List.mem_of_getElem? (i := 437) rfl)) (by decide +kernel)
set_option maxRecDepth 20000 in
theorem mw_438 : Cond.static y_So_upTo ∈ kw := kw_in (List.mem_append_right _ (List.mem_of_getElem? (i := 438) rfl)) (by decide +kernel)
set_option maxRecDepth 20000 in
theorem mc_So_upTo : Cond.code y_So_upTo b_So_upTo 2 (some .boolean) ∈ kw := kw_in (List.mem_append_right _ (List.mem_of_getElem? (i := 439) rfl)) (by decide +kernel)
theorem wS_So_36 : wS R_So 36 y_So_upTo b_So_upTo 2 (some .boolean) 2 := ⟨mw_437, mw_438, mw_5, mc_So_upTo, by decide +kernel, by decide +kernel, by decide +kernel⟩
set_option maxRecDepth 20000 in
theorem mw_433 : Cond.methodLink R_LS 111 y_So_accept ∈ kw := kw_in (List.mem_append_right _ (List.mem_of_getElem? (i := 433) rfl)) (by decide +kernel)
set_option maxRecDepth 20000 in
theorem mw_434 : Cond.instanceMethod y_So_accept ∈ kw := kw_in (List.mem_append_right _ (List.mem_of_getElem? (i := 434) rfl)) (by decide +kernel)
set_option maxRecDepth 20000 in
theorem mw_435 : Cond.selects R_So y_So_accept y_So_accept ∈ kw := kw_in (List.mem_append_right _ (List.mem_of_getElem? (i := 435) rfl)) (by decide +kernel)
set_option maxRecDepth 20000 in
theorem mc_So_accept : Cond.code y_So_accept b_So_accept 6 (some .boolean) ∈ kw := kw_in (List.mem_append_right _ (List.mem_of_getElem? (i := 436) rfl)) (by decide +kernel)
theorem wV_LS_111 : wV R_LS 111 y_So_accept b_So_accept 6 (some .boolean) 5 := ⟨mw_433, mw_434, mw_435, mw_5, mc_So_accept, by decide +kernel, by decide +kernel, by decide +kernel⟩
set_option maxRecDepth 20000 in
theorem mw_445 : Cond.methodLink R_LS 118 y_So_kindAt ∈ kw := kw_in (List.mem_append_right _ (List.mem_of_getElem? (i := 445) rfl)) (by decide +kernel)
set_option maxRecDepth 20000 in
theorem mw_446 : Cond.instanceMethod y_So_kindAt ∈ kw := kw_in (List.mem_append_right _ (List.mem_of_getElem? (i := 446) rfl)) (by decide +kernel)
set_option maxRecDepth 20000 in
theorem mw_447 : Cond.selects R_So y_So_kindAt y_So_kindAt ∈ kw := kw_in (List.mem_append_right _ (List.mem_of_getElem? (i := 447) rfl)) (by decide +kernel)
set_option maxRecDepth 20000 in
theorem mc_So_kindAt : Cond.code y_So_kindAt b_So_kindAt 5 (some .int) ∈ kw := kw_in (List.mem_append_right _ (List.mem_of_getElem? (i := 448) rfl)) (by decide +kernel)
theorem wV_LS_118 : wV R_LS 118 y_So_kindAt b_So_kindAt 5 (some .int) 3 := ⟨mw_445, mw_446, mw_447, mw_5, mc_So_kindAt, by decide +kernel, by decide +kernel, by decide +kernel⟩
set_option maxRecDepth 20000 in
theorem mw_444 : Cond.methodLink R_LS 115 y_Sl_hasRow ∈ kw := kw_in (List.mem_append_right _ (List.mem_of_getElem? (i := 444) rfl)) (by decide +kernel)
theorem wV_LS_115 : wV R_LS 115 y_Sl_hasRow b_Sl_hasRow 3 (some .boolean) 2 := ⟨mw_444, mw_395, mw_396, mw_4, mc_Sl_hasRow, by decide +kernel, by decide +kernel, by decide +kernel⟩
set_option maxRecDepth 20000 in
theorem fl_Ro_9 : Cond.fieldLink R_Ro 9 (F_Ro 0).1 (F_Ro 0).2.1 (F_Ro 0).2.2.1 ∈ kw := kw_in (List.mem_append_right _ (List.mem_of_getElem? (i := 161) rfl)) (by decide +kernel)
set_option maxRecDepth 20000 in
theorem mw_462 : Cond.methodLink R_Ro 25 y_Ro_beginRun ∈ kw := kw_in (List.mem_append_right _ (List.mem_of_getElem? (i := 462) rfl)) (by decide +kernel)
set_option maxRecDepth 20000 in
theorem mw_464 : Cond.instanceMethod y_Ro_beginRun ∈ kw := kw_in (List.mem_append_right _ (List.mem_of_getElem? (i := 464) rfl)) (by decide +kernel)
set_option maxRecDepth 20000 in
theorem ms_22 : Cond.selects R_Ro y_Ro_beginRun y_Ro_beginRun ∈ kw := kw_in (List.mem_append_left _ (List.mem_of_getElem? (i := 22) rfl)) (by decide +kernel)
set_option maxRecDepth 20000 in
theorem mw_6 : Cond.initialized R_Ro ∈ kw := kw_in (List.mem_append_right _ (List.mem_of_getElem? (i := 6) rfl)) (by decide +kernel)
set_option maxRecDepth 20000 in
theorem mc_Ro_beginRun : Cond.code y_Ro_beginRun b_Ro_beginRun 5 none ∈ kw := kw_in (List.mem_append_right _ (List.mem_of_getElem? (i := 465) rfl)) (by decide +kernel)
theorem wV_Ro_25 : wV R_Ro 25 y_Ro_beginRun b_Ro_beginRun 5 none 4 := ⟨mw_462, mw_464, ms_22, mw_6, mc_Ro_beginRun, by decide +kernel, by decide +kernel, by decide +kernel⟩
set_option maxRecDepth 20000 in
theorem mw_459 : Cond.methodLink R_Ro 21 y_Ro_isPrinted ∈ kw := kw_in (List.mem_append_right _ (List.mem_of_getElem? (i := 459) rfl)) (by decide +kernel)
set_option maxRecDepth 20000 in
theorem mw_460 : Cond.static y_Ro_isPrinted ∈ kw := kw_in (List.mem_append_right _ (List.mem_of_getElem? (i := 460) rfl)) (by decide +kernel)
set_option maxRecDepth 20000 in
theorem mc_Ro_isPrinted : Cond.code y_Ro_isPrinted b_Ro_isPrinted 1 (some .boolean) ∈ kw := kw_in (List.mem_append_right _ (List.mem_of_getElem? (i := 461) rfl)) (by decide +kernel)
theorem wS_Ro_21 : wS R_Ro 21 y_Ro_isPrinted b_Ro_isPrinted 1 (some .boolean) 1 := ⟨mw_459, mw_460, mw_6, mc_Ro_isPrinted, by decide +kernel, by decide +kernel, by decide +kernel⟩
set_option maxRecDepth 20000 in
theorem mw_458 : Cond.methodLink R_Ro 15 y_So_kindAt ∈ kw := kw_in (List.mem_append_right _ (List.mem_of_getElem? (i := 458) rfl)) (by decide +kernel)
theorem wV_Ro_15 : wV R_Ro 15 y_So_kindAt b_So_kindAt 5 (some .int) 3 := ⟨mw_458, mw_446, mw_447, mw_5, mc_So_kindAt, by decide +kernel, by decide +kernel, by decide +kernel⟩
set_option maxRecDepth 20000 in
theorem fl_LS_40 : Cond.fieldLink R_LS 40 (F_LS 4).1 (F_LS 4).2.1 (F_LS 4).2.2.1 ∈ kw := kw_in (List.mem_append_right _ (List.mem_of_getElem? (i := 196) rfl)) (by decide +kernel)
set_option maxRecDepth 20000 in
theorem mw_454 : Cond.methodLink R_LS 125 y_Ro_findRuns ∈ kw := kw_in (List.mem_append_right _ (List.mem_of_getElem? (i := 454) rfl)) (by decide +kernel)
set_option maxRecDepth 20000 in
theorem mw_455 : Cond.instanceMethod y_Ro_findRuns ∈ kw := kw_in (List.mem_append_right _ (List.mem_of_getElem? (i := 455) rfl)) (by decide +kernel)
set_option maxRecDepth 20000 in
theorem mw_456 : Cond.selects R_Ro y_Ro_findRuns y_Ro_findRuns ∈ kw := kw_in (List.mem_append_right _ (List.mem_of_getElem? (i := 456) rfl)) (by decide +kernel)
set_option maxRecDepth 20000 in
theorem mc_Ro_findRuns : Cond.code y_Ro_findRuns b_Ro_findRuns 8 (some .int) ∈ kw := kw_in (List.mem_append_right _ (List.mem_of_getElem? (i := 457) rfl)) (by decide +kernel)
theorem wV_LS_125 : wV R_LS 125 y_Ro_findRuns b_Ro_findRuns 8 (some .int) 2 := ⟨mw_454, mw_455, mw_456, mw_6, mc_Ro_findRuns, by decide +kernel, by decide +kernel, by decide +kernel⟩
set_option maxRecDepth 20000 in
theorem mw_453 : Cond.methodLink R_LS 121 y_Sl_hasLayer ∈ kw := kw_in (List.mem_append_right _ (List.mem_of_getElem? (i := 453) rfl)) (by decide +kernel)
theorem wV_LS_121 : wV R_LS 121 y_Sl_hasLayer b_Sl_hasLayer 2 (some .boolean) 1 := ⟨mw_453, mw_357, mw_358, mw_4, mc_Sl_hasLayer, by decide +kernel, by decide +kernel, by decide +kernel⟩
set_option maxRecDepth 20000 in
theorem fl_LS_129 : Cond.fieldLink R_LS 129 (F_Ro 0).1 (F_Ro 0).2.1 (F_Ro 0).2.2.1 ∈ kw := kw_in (List.mem_append_right _ (List.mem_of_getElem? (i := 163) rfl)) (by decide +kernel)
set_option maxRecDepth 20000 in
theorem fl_Pr_9 : Cond.fieldLink R_Pr 9 (F_Pr 0).1 (F_Pr 0).2.1 (F_Pr 0).2.2.1 ∈ kw := kw_in (List.mem_append_right _ (List.mem_of_getElem? (i := 173) rfl)) (by decide +kernel)
set_option maxRecDepth 20000 in
theorem mw_474 : Cond.methodLink R_Pr 34 y_Pr_addByte ∈ kw := kw_in (List.mem_append_right _ (List.mem_of_getElem? (i := 474) rfl)) (by decide +kernel)
set_option maxRecDepth 20000 in
theorem mw_476 : Cond.instanceMethod y_Pr_addByte ∈ kw := kw_in (List.mem_append_right _ (List.mem_of_getElem? (i := 476) rfl)) (by decide +kernel)
set_option maxRecDepth 20000 in
theorem ms_23 : Cond.selects R_Pr y_Pr_addByte y_Pr_addByte ∈ kw := kw_in (List.mem_append_left _ (List.mem_of_getElem? (i := 23) rfl)) (by decide +kernel)
set_option maxRecDepth 20000 in
theorem mc_Pr_addByte : Cond.code y_Pr_addByte b_Pr_addByte 2 none ∈ kw := kw_in (List.mem_append_right _ (List.mem_of_getElem? (i := 477) rfl)) (by decide +kernel)
theorem wV_Pr_34 : wV R_Pr 34 y_Pr_addByte b_Pr_addByte 2 none 1 := ⟨mw_474, mw_476, ms_23, mw_7, mc_Pr_addByte, by decide +kernel, by decide +kernel, by decide +kernel⟩
set_option maxRecDepth 20000 in
theorem fl_Pr_38 : Cond.fieldLink R_Pr 38 (F_Ro 0).1 (F_Ro 0).2.1 (F_Ro 0).2.2.1 ∈ kw := kw_in (List.mem_append_right _ (List.mem_of_getElem? (i := 162) rfl)) (by decide +kernel)
set_option maxRecDepth 20000 in
theorem fl_LS_136 : Cond.fieldLink R_LS 136 (F_Pr 1).1 (F_Pr 1).2.1 (F_Pr 1).2.2.1 ∈ kw := kw_in (List.mem_append_right _ (List.mem_of_getElem? (i := 176) rfl)) (by decide +kernel)
set_option maxRecDepth 20000 in
theorem mw_470 : Cond.methodLink R_LS 132 y_Pr_addLayer ∈ kw := kw_in (List.mem_append_right _ (List.mem_of_getElem? (i := 470) rfl)) (by decide +kernel)
set_option maxRecDepth 20000 in
theorem mw_471 : Cond.instanceMethod y_Pr_addLayer ∈ kw := kw_in (List.mem_append_right _ (List.mem_of_getElem? (i := 471) rfl)) (by decide +kernel)
set_option maxRecDepth 20000 in
theorem mw_472 : Cond.selects R_Pr y_Pr_addLayer y_Pr_addLayer ∈ kw := kw_in (List.mem_append_right _ (List.mem_of_getElem? (i := 472) rfl)) (by decide +kernel)
set_option maxRecDepth 20000 in
theorem mc_Pr_addLayer : Cond.code y_Pr_addLayer b_Pr_addLayer 4 none ∈ kw := kw_in (List.mem_append_right _ (List.mem_of_getElem? (i := 473) rfl)) (by decide +kernel)
theorem wV_LS_132 : wV R_LS 132 y_Pr_addLayer b_Pr_addLayer 4 none 2 := ⟨mw_470, mw_471, mw_472, mw_7, mc_Pr_addLayer, by decide +kernel, by decide +kernel, by decide +kernel⟩
set_option maxRecDepth 20000 in
theorem fl_LS_139 : Cond.fieldLink R_LS 139 (F_Pr 0).1 (F_Pr 0).2.1 (F_Pr 0).2.2.1 ∈ kw := kw_in (List.mem_append_right _ (List.mem_of_getElem? (i := 174) rfl)) (by decide +kernel)
set_option maxRecDepth 20000 in
theorem mw_495 : Cond.static y_LS_cellIndex ∈ kw := kw_in (List.mem_append_right _ (List.mem_of_getElem? (i := 495) rfl)) (by decide +kernel)
set_option maxRecDepth 20000 in
theorem mw_1 : Cond.initialized R_LS ∈ kw := kw_in (List.mem_append_right _ (List.mem_of_getElem? (i := 1) rfl)) (by decide +kernel)
set_option maxRecDepth 20000 in
theorem mc_LS_cellIndex : Cond.code y_LS_cellIndex b_LS_cellIndex 3 (some .int) ∈ kw := kw_in (List.mem_append_right _ (List.mem_of_getElem? (i := 496) rfl)) (by decide +kernel)
theorem wN_Pr_47 : wN R_Pr 47 y_LS_cellIndex b_LS_cellIndex 3 (some .int) 3 "LayerSlicer" := ⟨by decide +kernel, mw_495, mw_1, mc_LS_cellIndex, by decide +kernel, by decide +kernel, by decide +kernel⟩
set_option maxRecDepth 20000 in
theorem mw_490 : Cond.methodLink R_Pr 43 y_Pr_layRun ∈ kw := kw_in (List.mem_append_right _ (List.mem_of_getElem? (i := 490) rfl)) (by decide +kernel)
set_option maxRecDepth 20000 in
theorem mw_492 : Cond.instanceMethod y_Pr_layRun ∈ kw := kw_in (List.mem_append_right _ (List.mem_of_getElem? (i := 492) rfl)) (by decide +kernel)
set_option maxRecDepth 20000 in
theorem ms_24 : Cond.selects R_Pr y_Pr_layRun y_Pr_layRun ∈ kw := kw_in (List.mem_append_left _ (List.mem_of_getElem? (i := 24) rfl)) (by decide +kernel)
set_option maxRecDepth 20000 in
theorem mc_Pr_layRun : Cond.code y_Pr_layRun b_Pr_layRun 5 none ∈ kw := kw_in (List.mem_append_right _ (List.mem_of_getElem? (i := 493) rfl)) (by decide +kernel)
theorem wV_Pr_43 : wV R_Pr 43 y_Pr_layRun b_Pr_layRun 5 none 3 := ⟨mw_490, mw_492, ms_24, mw_7, mc_Pr_layRun, by decide +kernel, by decide +kernel, by decide +kernel⟩
set_option maxRecDepth 20000 in
theorem mw_486 : Cond.methodLink R_LS 142 y_Pr_playCommands ∈ kw := kw_in (List.mem_append_right _ (List.mem_of_getElem? (i := 486) rfl)) (by decide +kernel)
set_option maxRecDepth 20000 in
theorem mw_487 : Cond.instanceMethod y_Pr_playCommands ∈ kw := kw_in (List.mem_append_right _ (List.mem_of_getElem? (i := 487) rfl)) (by decide +kernel)
set_option maxRecDepth 20000 in
theorem mw_488 : Cond.selects R_Pr y_Pr_playCommands y_Pr_playCommands ∈ kw := kw_in (List.mem_append_right _ (List.mem_of_getElem? (i := 488) rfl)) (by decide +kernel)
set_option maxRecDepth 20000 in
theorem mc_Pr_playCommands : Cond.code y_Pr_playCommands b_Pr_playCommands 3 (some .int) ∈ kw := kw_in (List.mem_append_right _ (List.mem_of_getElem? (i := 489) rfl)) (by decide +kernel)
theorem wV_LS_142 : wV R_LS 142 y_Pr_playCommands b_Pr_playCommands 3 (some .int) 1 := ⟨mw_486, mw_487, mw_488, mw_7, mc_Pr_playCommands, by decide +kernel, by decide +kernel, by decide +kernel⟩
set_option maxRecDepth 20000 in
theorem fl_LS_150 : Cond.fieldLink R_LS 150 (F_Pr 2).1 (F_Pr 2).2.1 (F_Pr 2).2.2.1 ∈ kw := kw_in (List.mem_append_right _ (List.mem_of_getElem? (i := 178) rfl)) (by decide +kernel)
set_option maxRecDepth 20000 in
theorem mw_504 : Cond.methodLink R_LS 153 y_LS_cellIndex ∈ kw := kw_in (List.mem_append_right _ (List.mem_of_getElem? (i := 504) rfl)) (by decide +kernel)
theorem wS_LS_153 : wS R_LS 153 y_LS_cellIndex b_LS_cellIndex 3 (some .int) 3 := ⟨mw_504, mw_495, mw_1, mc_LS_cellIndex, by decide +kernel, by decide +kernel, by decide +kernel⟩
set_option maxRecDepth 20000 in
theorem mw_501 : Cond.methodLink R_LS 146 y_LS_isCell ∈ kw := kw_in (List.mem_append_right _ (List.mem_of_getElem? (i := 501) rfl)) (by decide +kernel)
set_option maxRecDepth 20000 in
theorem mw_502 : Cond.static y_LS_isCell ∈ kw := kw_in (List.mem_append_right _ (List.mem_of_getElem? (i := 502) rfl)) (by decide +kernel)
set_option maxRecDepth 20000 in
theorem mc_LS_isCell : Cond.code y_LS_isCell b_LS_isCell 3 (some .boolean) ∈ kw := kw_in (List.mem_append_right _ (List.mem_of_getElem? (i := 503) rfl)) (by decide +kernel)
theorem wS_LS_146 : wS R_LS 146 y_LS_isCell b_LS_isCell 3 (some .boolean) 3 := ⟨mw_501, mw_502, mw_1, mc_LS_isCell, by decide +kernel, by decide +kernel, by decide +kernel⟩
set_option maxRecDepth 20000 in
theorem kc_Int_265 : Cond.constant R_Int 265 (zI 1431655765) ∈ kw := kw_in (List.mem_append_right _ (List.mem_of_getElem? (i := 515) rfl)) (by decide +kernel)
set_option maxRecDepth 20000 in
theorem kc_Int_266 : Cond.constant R_Int 266 (zI 858993459) ∈ kw := kw_in (List.mem_append_right _ (List.mem_of_getElem? (i := 516) rfl)) (by decide +kernel)
set_option maxRecDepth 20000 in
theorem kc_Int_267 : Cond.constant R_Int 267 (zI 252645135) ∈ kw := kw_in (List.mem_append_right _ (List.mem_of_getElem? (i := 517) rfl)) (by decide +kernel)
set_option maxRecDepth 20000 in
theorem mw_512 : Cond.methodLink R_LS 167 y_Int_bitCount ∈ kw := kw_in (List.mem_append_right _ (List.mem_of_getElem? (i := 512) rfl)) (by decide +kernel)
set_option maxRecDepth 20000 in
theorem mw_513 : Cond.static y_Int_bitCount ∈ kw := kw_in (List.mem_append_right _ (List.mem_of_getElem? (i := 513) rfl)) (by decide +kernel)
set_option maxRecDepth 20000 in
theorem mw_16 : Cond.initialized R_Int ∈ kw := kw_in (List.mem_append_right _ (List.mem_of_getElem? (i := 16) rfl)) (by decide +kernel)
set_option maxRecDepth 20000 in
theorem mc_Int_bitCount : Cond.code y_Int_bitCount b_Int_bitCount 1 (some .int) ∈ kw := kw_in (List.mem_append_right _ (List.mem_of_getElem? (i := 514) rfl)) (by decide +kernel)
theorem wS_LS_167 : wS R_LS 167 y_Int_bitCount b_Int_bitCount 1 (some .int) 1 := ⟨mw_512, mw_513, mw_16, mc_Int_bitCount, by decide +kernel, by decide +kernel, by decide +kernel⟩
set_option maxRecDepth 20000 in
theorem fl_LS_156 : Cond.fieldLink R_LS 156 (F_So 1).1 (F_So 1).2.1 (F_So 1).2.2.1 ∈ kw := kw_in (List.mem_append_right _ (List.mem_of_getElem? (i := 134) rfl)) (by decide +kernel)
set_option maxRecDepth 20000 in
theorem mw_509 : Cond.methodLink R_LS 159 y_LS_countCells ∈ kw := kw_in (List.mem_append_right _ (List.mem_of_getElem? (i := 509) rfl)) (by decide +kernel)
set_option maxRecDepth 20000 in
theorem mw_510 : Cond.static y_LS_countCells ∈ kw := kw_in (List.mem_append_right _ (List.mem_of_getElem? (i := 510) rfl)) (by decide +kernel)
set_option maxRecDepth 20000 in
theorem mc_LS_countCells : Cond.code y_LS_countCells b_LS_countCells 5 (some .int) ∈ kw := kw_in (List.mem_append_right _ (List.mem_of_getElem? (i := 511) rfl)) (by decide +kernel)
theorem wS_LS_159 : wS R_LS 159 y_LS_countCells b_LS_countCells 5 (some .int) 3 := ⟨mw_509, mw_510, mw_1, mc_LS_countCells, by decide +kernel, by decide +kernel, by decide +kernel⟩
set_option maxRecDepth 20000 in
theorem fl_LS_163 : Cond.fieldLink R_LS 163 (F_So 0).1 (F_So 0).2.1 (F_So 0).2.2.1 ∈ kw := kw_in (List.mem_append_right _ (List.mem_of_getElem? (i := 132) rfl)) (by decide +kernel)
set_option maxRecDepth 20000 in
theorem fl_Mo_60 : Cond.fieldLink R_Mo 60 (F_Mo 0).1 (F_Mo 0).2.1 (F_Mo 0).2.2.1 ∈ kw := kw_in (List.mem_append_right _ (List.mem_of_getElem? (i := 605) rfl)) (by decide +kernel)
set_option maxRecDepth 20000 in
theorem fl_Mo_63 : Cond.fieldLink R_Mo 63 (F_Mo 1).1 (F_Mo 1).2.1 (F_Mo 1).2.2.1 ∈ kw := kw_in (List.mem_append_right _ (List.mem_of_getElem? (i := 606) rfl)) (by decide +kernel)
set_option maxRecDepth 20000 in
theorem fl_Mo_7 : Cond.fieldLink R_Mo 7 (F_Mo 2).1 (F_Mo 2).2.1 (F_Mo 2).2.2.1 ∈ kw := kw_in (List.mem_append_right _ (List.mem_of_getElem? (i := 607) rfl)) (by decide +kernel)
set_option maxRecDepth 20000 in
theorem fl_Mo_13 : Cond.fieldLink R_Mo 13 (F_Mo 3).1 (F_Mo 3).2.1 (F_Mo 3).2.2.1 ∈ kw := kw_in (List.mem_append_right _ (List.mem_of_getElem? (i := 608) rfl)) (by decide +kernel)
set_option maxRecDepth 20000 in
theorem fl_Mo_16 : Cond.fieldLink R_Mo 16 (F_Mo 4).1 (F_Mo 4).2.1 (F_Mo 4).2.2.1 ∈ kw := kw_in (List.mem_append_right _ (List.mem_of_getElem? (i := 609) rfl)) (by decide +kernel)
set_option maxRecDepth 20000 in
theorem mw_698 : Cond.methodLink R_Mo 66 y_Mo_in ∈ kw := kw_in (List.mem_append_right _ (List.mem_of_getElem? (i := 698) rfl)) (by decide +kernel)
set_option maxRecDepth 20000 in
theorem mw_699 : Cond.static y_Mo_in ∈ kw := kw_in (List.mem_append_right _ (List.mem_of_getElem? (i := 699) rfl)) (by decide +kernel)
set_option maxRecDepth 20000 in
theorem mw_8 : Cond.initialized R_Mo ∈ kw := kw_in (List.mem_append_right _ (List.mem_of_getElem? (i := 8) rfl)) (by decide +kernel)
set_option maxRecDepth 20000 in
theorem mc_Mo_in : Cond.code y_Mo_in b_Mo_in 3 (some .boolean) ∈ kw := kw_in (List.mem_append_right _ (List.mem_of_getElem? (i := 700) rfl)) (by decide +kernel)
theorem wS_Mo_66 : wS R_Mo 66 y_Mo_in b_Mo_in 3 (some .boolean) 3 := ⟨mw_698, mw_699, mw_8, mc_Mo_in, by decide +kernel, by decide +kernel, by decide +kernel⟩
set_option maxRecDepth 20000 in
theorem fl_Mo_19 : Cond.fieldLink R_Mo 19 (F_Mo 6).1 (F_Mo 6).2.1 (F_Mo 6).2.2.1 ∈ kw := kw_in (List.mem_append_right _ (List.mem_of_getElem? (i := 611) rfl)) (by decide +kernel)
set_option maxRecDepth 20000 in
theorem fl_Mo_70 : Cond.fieldLink R_Mo 70 (F_Mo 5).1 (F_Mo 5).2.1 (F_Mo 5).2.2.1 ∈ kw := kw_in (List.mem_append_right _ (List.mem_of_getElem? (i := 610) rfl)) (by decide +kernel)
set_option maxRecDepth 20000 in
theorem mw_705 : Cond.methodLink R_Mo 73 y_Mo_add ∈ kw := kw_in (List.mem_append_right _ (List.mem_of_getElem? (i := 705) rfl)) (by decide +kernel)
set_option maxRecDepth 20000 in
theorem mw_707 : Cond.instanceMethod y_Mo_add ∈ kw := kw_in (List.mem_append_right _ (List.mem_of_getElem? (i := 707) rfl)) (by decide +kernel)
set_option maxRecDepth 20000 in
theorem ms_26 : Cond.selects R_Mo y_Mo_add y_Mo_add ∈ kw := kw_in (List.mem_append_left _ (List.mem_of_getElem? (i := 26) rfl)) (by decide +kernel)
set_option maxRecDepth 20000 in
theorem mc_Mo_add : Cond.code y_Mo_add b_Mo_add 4 (some .int) ∈ kw := kw_in (List.mem_append_right _ (List.mem_of_getElem? (i := 708) rfl)) (by decide +kernel)
theorem wV_Mo_73 : wV R_Mo 73 y_Mo_add b_Mo_add 4 (some .int) 3 := ⟨mw_705, mw_707, ms_26, mw_8, mc_Mo_add, by decide +kernel, by decide +kernel, by decide +kernel⟩
set_option maxRecDepth 20000 in
theorem mw_717 : Cond.methodLink R_Mo 77 y_Mo_lowestAt ∈ kw := kw_in (List.mem_append_right _ (List.mem_of_getElem? (i := 717) rfl)) (by decide +kernel)
set_option maxRecDepth 20000 in
theorem mw_719 : Cond.instanceMethod y_Mo_lowestAt ∈ kw := kw_in (List.mem_append_right _ (List.mem_of_getElem? (i := 719) rfl)) (by decide +kernel)
set_option maxRecDepth 20000 in
theorem ms_28 : Cond.selects R_Mo y_Mo_lowestAt y_Mo_lowestAt ∈ kw := kw_in (List.mem_append_left _ (List.mem_of_getElem? (i := 28) rfl)) (by decide +kernel)
set_option maxRecDepth 20000 in
theorem mc_Mo_lowestAt : Cond.code y_Mo_lowestAt b_Mo_lowestAt 3 (some .int) ∈ kw := kw_in (List.mem_append_right _ (List.mem_of_getElem? (i := 720) rfl)) (by decide +kernel)
theorem wV_Mo_77 : wV R_Mo 77 y_Mo_lowestAt b_Mo_lowestAt 3 (some .int) 1 := ⟨mw_717, mw_719, ms_28, mw_8, mc_Mo_lowestAt, by decide +kernel, by decide +kernel, by decide +kernel⟩
set_option maxRecDepth 20000 in
theorem fl_Mo_81 : Cond.fieldLink R_Mo 81 (F_Mo 7).1 (F_Mo 7).2.1 (F_Mo 7).2.2.1 ∈ kw := kw_in (List.mem_append_right _ (List.mem_of_getElem? (i := 612) rfl)) (by decide +kernel)
set_option maxRecDepth 20000 in
theorem fl_Mo_88 : Cond.fieldLink R_Mo 88 (F_Mo 8).1 (F_Mo 8).2.1 (F_Mo 8).2.2.1 ∈ kw := kw_in (List.mem_append_right _ (List.mem_of_getElem? (i := 613) rfl)) (by decide +kernel)
set_option maxRecDepth 20000 in
theorem mw_725 : Cond.methodLink R_Mo 84 y_Mo_isFlat ∈ kw := kw_in (List.mem_append_right _ (List.mem_of_getElem? (i := 725) rfl)) (by decide +kernel)
set_option maxRecDepth 20000 in
theorem mw_727 : Cond.instanceMethod y_Mo_isFlat ∈ kw := kw_in (List.mem_append_right _ (List.mem_of_getElem? (i := 727) rfl)) (by decide +kernel)
set_option maxRecDepth 20000 in
theorem ms_30 : Cond.selects R_Mo y_Mo_isFlat y_Mo_isFlat ∈ kw := kw_in (List.mem_append_left _ (List.mem_of_getElem? (i := 30) rfl)) (by decide +kernel)
set_option maxRecDepth 20000 in
theorem mc_Mo_isFlat : Cond.code y_Mo_isFlat b_Mo_isFlat 11 (some .boolean) ∈ kw := kw_in (List.mem_append_right _ (List.mem_of_getElem? (i := 728) rfl)) (by decide +kernel)
theorem wV_Mo_84 : wV R_Mo 84 y_Mo_isFlat b_Mo_isFlat 11 (some .boolean) 1 := ⟨mw_725, mw_727, ms_30, mw_8, mc_Mo_isFlat, by decide +kernel, by decide +kernel, by decide +kernel⟩
set_option maxRecDepth 20000 in
theorem mw_737 : Cond.methodLink R_Mo 91 y_Mo_open ∈ kw := kw_in (List.mem_append_right _ (List.mem_of_getElem? (i := 737) rfl)) (by decide +kernel)
set_option maxRecDepth 20000 in
theorem mw_739 : Cond.instanceMethod y_Mo_open ∈ kw := kw_in (List.mem_append_right _ (List.mem_of_getElem? (i := 739) rfl)) (by decide +kernel)
set_option maxRecDepth 20000 in
theorem ms_33 : Cond.selects R_Mo y_Mo_open y_Mo_open ∈ kw := kw_in (List.mem_append_left _ (List.mem_of_getElem? (i := 33) rfl)) (by decide +kernel)
set_option maxRecDepth 20000 in
theorem mc_Mo_open : Cond.code y_Mo_open b_Mo_open 7 (some .int) ∈ kw := kw_in (List.mem_append_right _ (List.mem_of_getElem? (i := 740) rfl)) (by decide +kernel)
theorem wV_Mo_91 : wV R_Mo 91 y_Mo_open b_Mo_open 7 (some .int) 2 := ⟨mw_737, mw_739, ms_33, mw_8, mc_Mo_open, by decide +kernel, by decide +kernel, by decide +kernel⟩
set_option maxRecDepth 20000 in
theorem mw_733 : Cond.methodLink R_Mo 95 y_Mo_only ∈ kw := kw_in (List.mem_append_right _ (List.mem_of_getElem? (i := 733) rfl)) (by decide +kernel)
set_option maxRecDepth 20000 in
theorem mw_735 : Cond.instanceMethod y_Mo_only ∈ kw := kw_in (List.mem_append_right _ (List.mem_of_getElem? (i := 735) rfl)) (by decide +kernel)
set_option maxRecDepth 20000 in
theorem ms_32 : Cond.selects R_Mo y_Mo_only y_Mo_only ∈ kw := kw_in (List.mem_append_left _ (List.mem_of_getElem? (i := 32) rfl)) (by decide +kernel)
set_option maxRecDepth 20000 in
theorem mc_Mo_only : Cond.code y_Mo_only b_Mo_only 5 (some .int) ∈ kw := kw_in (List.mem_append_right _ (List.mem_of_getElem? (i := 736) rfl)) (by decide +kernel)
theorem wV_Mo_95 : wV R_Mo 95 y_Mo_only b_Mo_only 5 (some .int) 1 := ⟨mw_733, mw_735, ms_32, mw_8, mc_Mo_only, by decide +kernel, by decide +kernel, by decide +kernel⟩
set_option maxRecDepth 20000 in
theorem fl_Mo_41 : Cond.fieldLink R_Mo 41 (F_Mo 27).1 (F_Mo 27).2.1 (F_Mo 27).2.2.1 ∈ kw := kw_in (List.mem_append_right _ (List.mem_of_getElem? (i := 632) rfl)) (by decide +kernel)
set_option maxRecDepth 20000 in
theorem mw_721 : Cond.methodLink R_Mo 101 y_Mo_drop ∈ kw := kw_in (List.mem_append_right _ (List.mem_of_getElem? (i := 721) rfl)) (by decide +kernel)
set_option maxRecDepth 20000 in
theorem mw_723 : Cond.instanceMethod y_Mo_drop ∈ kw := kw_in (List.mem_append_right _ (List.mem_of_getElem? (i := 723) rfl)) (by decide +kernel)
set_option maxRecDepth 20000 in
theorem ms_29 : Cond.selects R_Mo y_Mo_drop y_Mo_drop ∈ kw := kw_in (List.mem_append_left _ (List.mem_of_getElem? (i := 29) rfl)) (by decide +kernel)
set_option maxRecDepth 20000 in
theorem mc_Mo_drop : Cond.code y_Mo_drop b_Mo_drop 4 none ∈ kw := kw_in (List.mem_append_right _ (List.mem_of_getElem? (i := 724) rfl)) (by decide +kernel)
theorem wV_Mo_101 : wV R_Mo 101 y_Mo_drop b_Mo_drop 4 none 0 := ⟨mw_721, mw_723, ms_29, mw_8, mc_Mo_drop, by decide +kernel, by decide +kernel, by decide +kernel⟩
set_option maxRecDepth 20000 in
theorem mw_713 : Cond.methodLink R_Mo 98 y_Mo_join ∈ kw := kw_in (List.mem_append_right _ (List.mem_of_getElem? (i := 713) rfl)) (by decide +kernel)
set_option maxRecDepth 20000 in
theorem mw_715 : Cond.instanceMethod y_Mo_join ∈ kw := kw_in (List.mem_append_right _ (List.mem_of_getElem? (i := 715) rfl)) (by decide +kernel)
set_option maxRecDepth 20000 in
theorem ms_27 : Cond.selects R_Mo y_Mo_join y_Mo_join ∈ kw := kw_in (List.mem_append_left _ (List.mem_of_getElem? (i := 27) rfl)) (by decide +kernel)
set_option maxRecDepth 20000 in
theorem mc_Mo_join : Cond.code y_Mo_join b_Mo_join 5 none ∈ kw := kw_in (List.mem_append_right _ (List.mem_of_getElem? (i := 716) rfl)) (by decide +kernel)
theorem wV_Mo_98 : wV R_Mo 98 y_Mo_join b_Mo_join 5 none 0 := ⟨mw_713, mw_715, ms_27, mw_8, mc_Mo_join, by decide +kernel, by decide +kernel, by decide +kernel⟩
set_option maxRecDepth 20000 in
theorem mw_729 : Cond.methodLink R_Mo 104 y_Mo_hole ∈ kw := kw_in (List.mem_append_right _ (List.mem_of_getElem? (i := 729) rfl)) (by decide +kernel)
set_option maxRecDepth 20000 in
theorem mw_731 : Cond.instanceMethod y_Mo_hole ∈ kw := kw_in (List.mem_append_right _ (List.mem_of_getElem? (i := 731) rfl)) (by decide +kernel)
set_option maxRecDepth 20000 in
theorem ms_31 : Cond.selects R_Mo y_Mo_hole y_Mo_hole ∈ kw := kw_in (List.mem_append_left _ (List.mem_of_getElem? (i := 31) rfl)) (by decide +kernel)
set_option maxRecDepth 20000 in
theorem mc_Mo_hole : Cond.code y_Mo_hole b_Mo_hole 6 (some .int) ∈ kw := kw_in (List.mem_append_right _ (List.mem_of_getElem? (i := 732) rfl)) (by decide +kernel)
theorem wV_Mo_104 : wV R_Mo 104 y_Mo_hole b_Mo_hole 6 (some .int) 1 := ⟨mw_729, mw_731, ms_31, mw_8, mc_Mo_hole, by decide +kernel, by decide +kernel, by decide +kernel⟩
set_option maxRecDepth 20000 in
theorem fl_Mo_107 : Cond.fieldLink R_Mo 107 (F_Mo 9).1 (F_Mo 9).2.1 (F_Mo 9).2.2.1 ∈ kw := kw_in (List.mem_append_right _ (List.mem_of_getElem? (i := 614) rfl)) (by decide +kernel)
set_option maxRecDepth 20000 in
theorem fl_Mo_110 : Cond.fieldLink R_Mo 110 (F_Mo 11).1 (F_Mo 11).2.1 (F_Mo 11).2.2.1 ∈ kw := kw_in (List.mem_append_right _ (List.mem_of_getElem? (i := 616) rfl)) (by decide +kernel)
set_option maxRecDepth 20000 in
theorem fl_Mo_28 : Cond.fieldLink R_Mo 28 (F_Mo 15).1 (F_Mo 15).2.1 (F_Mo 15).2.2.1 ∈ kw := kw_in (List.mem_append_right _ (List.mem_of_getElem? (i := 620) rfl)) (by decide +kernel)
set_option maxRecDepth 20000 in
theorem mw_757 : Cond.methodLink R_Mo 119 y_Mo_high ∈ kw := kw_in (List.mem_append_right _ (List.mem_of_getElem? (i := 757) rfl)) (by decide +kernel)
set_option maxRecDepth 20000 in
theorem mw_759 : Cond.instanceMethod y_Mo_high ∈ kw := kw_in (List.mem_append_right _ (List.mem_of_getElem? (i := 759) rfl)) (by decide +kernel)
set_option maxRecDepth 20000 in
theorem ms_34 : Cond.selects R_Mo y_Mo_high y_Mo_high ∈ kw := kw_in (List.mem_append_left _ (List.mem_of_getElem? (i := 34) rfl)) (by decide +kernel)
set_option maxRecDepth 20000 in
theorem mc_Mo_high : Cond.code y_Mo_high b_Mo_high 2 (some .int) ∈ kw := kw_in (List.mem_append_right _ (List.mem_of_getElem? (i := 760) rfl)) (by decide +kernel)
theorem wV_Mo_119 : wV R_Mo 119 y_Mo_high b_Mo_high 2 (some .int) 1 := ⟨mw_757, mw_759, ms_34, mw_8, mc_Mo_high, by decide +kernel, by decide +kernel, by decide +kernel⟩
set_option maxRecDepth 20000 in
theorem mw_769 : Cond.methodLink R_Mo 131 y_Mo_isAbove ∈ kw := kw_in (List.mem_append_right _ (List.mem_of_getElem? (i := 769) rfl)) (by decide +kernel)
set_option maxRecDepth 20000 in
theorem mw_771 : Cond.instanceMethod y_Mo_isAbove ∈ kw := kw_in (List.mem_append_right _ (List.mem_of_getElem? (i := 771) rfl)) (by decide +kernel)
set_option maxRecDepth 20000 in
theorem ms_37 : Cond.selects R_Mo y_Mo_isAbove y_Mo_isAbove ∈ kw := kw_in (List.mem_append_left _ (List.mem_of_getElem? (i := 37) rfl)) (by decide +kernel)
set_option maxRecDepth 20000 in
theorem mc_Mo_isAbove : Cond.code y_Mo_isAbove b_Mo_isAbove 3 (some .boolean) ∈ kw := kw_in (List.mem_append_right _ (List.mem_of_getElem? (i := 772) rfl)) (by decide +kernel)
theorem wV_Mo_131 : wV R_Mo 131 y_Mo_isAbove b_Mo_isAbove 3 (some .boolean) 2 := ⟨mw_769, mw_771, ms_37, mw_8, mc_Mo_isAbove, by decide +kernel, by decide +kernel, by decide +kernel⟩
set_option maxRecDepth 20000 in
theorem mw_781 : Cond.methodLink R_Mo 135 y_Mo_edgeOf ∈ kw := kw_in (List.mem_append_right _ (List.mem_of_getElem? (i := 781) rfl)) (by decide +kernel)
set_option maxRecDepth 20000 in
theorem mw_783 : Cond.instanceMethod y_Mo_edgeOf ∈ kw := kw_in (List.mem_append_right _ (List.mem_of_getElem? (i := 783) rfl)) (by decide +kernel)
set_option maxRecDepth 20000 in
theorem ms_40 : Cond.selects R_Mo y_Mo_edgeOf y_Mo_edgeOf ∈ kw := kw_in (List.mem_append_left _ (List.mem_of_getElem? (i := 40) rfl)) (by decide +kernel)
set_option maxRecDepth 20000 in
theorem mc_Mo_edgeOf : Cond.code y_Mo_edgeOf b_Mo_edgeOf 6 (some .int) ∈ kw := kw_in (List.mem_append_right _ (List.mem_of_getElem? (i := 784) rfl)) (by decide +kernel)
theorem wV_Mo_135 : wV R_Mo 135 y_Mo_edgeOf b_Mo_edgeOf 6 (some .int) 3 := ⟨mw_781, mw_783, ms_40, mw_8, mc_Mo_edgeOf, by decide +kernel, by decide +kernel, by decide +kernel⟩
set_option maxRecDepth 20000 in
theorem fl_Mo_25 : Cond.fieldLink R_Mo 25 (F_Mo 14).1 (F_Mo 14).2.1 (F_Mo 14).2.2.1 ∈ kw := kw_in (List.mem_append_right _ (List.mem_of_getElem? (i := 619) rfl)) (by decide +kernel)
set_option maxRecDepth 20000 in
theorem fl_Mo_22 : Cond.fieldLink R_Mo 22 (F_Mo 13).1 (F_Mo 13).2.1 (F_Mo 13).2.2.1 ∈ kw := kw_in (List.mem_append_right _ (List.mem_of_getElem? (i := 618) rfl)) (by decide +kernel)
set_option maxRecDepth 20000 in
theorem kc_Mo_145 : Cond.constantLong R_Mo 145 (lI 20) ∈ kw := kw_in (List.mem_append_right _ (List.mem_of_getElem? (i := 785) rfl)) (by decide +kernel)
set_option maxRecDepth 20000 in
theorem kc_Mo_147 : Cond.constantLong R_Mo 147 (lI 9) ∈ kw := kw_in (List.mem_append_right _ (List.mem_of_getElem? (i := 786) rfl)) (by decide +kernel)
set_option maxRecDepth 20000 in
theorem kc_Mo_149 : Cond.constantLong R_Mo 149 (lI 2) ∈ kw := kw_in (List.mem_append_right _ (List.mem_of_getElem? (i := 787) rfl)) (by decide +kernel)
set_option maxRecDepth 20000 in
theorem mw_777 : Cond.methodLink R_Mo 141 y_Mo_end ∈ kw := kw_in (List.mem_append_right _ (List.mem_of_getElem? (i := 777) rfl)) (by decide +kernel)
set_option maxRecDepth 20000 in
theorem mw_779 : Cond.instanceMethod y_Mo_end ∈ kw := kw_in (List.mem_append_right _ (List.mem_of_getElem? (i := 779) rfl)) (by decide +kernel)
set_option maxRecDepth 20000 in
theorem ms_39 : Cond.selects R_Mo y_Mo_end y_Mo_end ∈ kw := kw_in (List.mem_append_left _ (List.mem_of_getElem? (i := 39) rfl)) (by decide +kernel)
set_option maxRecDepth 20000 in
theorem mc_Mo_end : Cond.code y_Mo_end b_Mo_end 10 (some .int) ∈ kw := kw_in (List.mem_append_right _ (List.mem_of_getElem? (i := 780) rfl)) (by decide +kernel)
theorem wV_Mo_141 : wV R_Mo 141 y_Mo_end b_Mo_end 10 (some .int) 4 := ⟨mw_777, mw_779, ms_39, mw_8, mc_Mo_end, by decide +kernel, by decide +kernel, by decide +kernel⟩
set_option maxRecDepth 20000 in
theorem fl_Mo_113 : Cond.fieldLink R_Mo 113 (F_Mo 12).1 (F_Mo 12).2.1 (F_Mo 12).2.2.1 ∈ kw := kw_in (List.mem_append_right _ (List.mem_of_getElem? (i := 617) rfl)) (by decide +kernel)
set_option maxRecDepth 20000 in
theorem mw_773 : Cond.methodLink R_Mo 151 y_Mo_isLeft ∈ kw := kw_in (List.mem_append_right _ (List.mem_of_getElem? (i := 773) rfl)) (by decide +kernel)
set_option maxRecDepth 20000 in
theorem mw_775 : Cond.instanceMethod y_Mo_isLeft ∈ kw := kw_in (List.mem_append_right _ (List.mem_of_getElem? (i := 775) rfl)) (by decide +kernel)
set_option maxRecDepth 20000 in
theorem ms_38 : Cond.selects R_Mo y_Mo_isLeft y_Mo_isLeft ∈ kw := kw_in (List.mem_append_left _ (List.mem_of_getElem? (i := 38) rfl)) (by decide +kernel)
set_option maxRecDepth 20000 in
theorem mc_Mo_isLeft : Cond.code y_Mo_isLeft b_Mo_isLeft 25 (some .boolean) ∈ kw := kw_in (List.mem_append_right _ (List.mem_of_getElem? (i := 776) rfl)) (by decide +kernel)
theorem wV_Mo_151 : wV R_Mo 151 y_Mo_isLeft b_Mo_isLeft 25 (some .boolean) 4 := ⟨mw_773, mw_775, ms_38, mw_8, mc_Mo_isLeft, by decide +kernel, by decide +kernel, by decide +kernel⟩
set_option maxRecDepth 20000 in
theorem mw_765 : Cond.methodLink R_Mo 138 y_Mo_isCut ∈ kw := kw_in (List.mem_append_right _ (List.mem_of_getElem? (i := 765) rfl)) (by decide +kernel)
set_option maxRecDepth 20000 in
theorem mw_767 : Cond.instanceMethod y_Mo_isCut ∈ kw := kw_in (List.mem_append_right _ (List.mem_of_getElem? (i := 767) rfl)) (by decide +kernel)
set_option maxRecDepth 20000 in
theorem ms_36 : Cond.selects R_Mo y_Mo_isCut y_Mo_isCut ∈ kw := kw_in (List.mem_append_left _ (List.mem_of_getElem? (i := 36) rfl)) (by decide +kernel)
set_option maxRecDepth 20000 in
theorem mc_Mo_isCut : Cond.code y_Mo_isCut b_Mo_isCut 4 (some .boolean) ∈ kw := kw_in (List.mem_append_right _ (List.mem_of_getElem? (i := 768) rfl)) (by decide +kernel)
theorem wV_Mo_138 : wV R_Mo 138 y_Mo_isCut b_Mo_isCut 4 (some .boolean) 2 := ⟨mw_765, mw_767, ms_36, mw_8, mc_Mo_isCut, by decide +kernel, by decide +kernel, by decide +kernel⟩
set_option maxRecDepth 20000 in
theorem fl_Mo_182 : Cond.fieldLink R_Mo 182 (F_Mo 23).1 (F_Mo 23).2.1 (F_Mo 23).2.2.1 ∈ kw := kw_in (List.mem_append_right _ (List.mem_of_getElem? (i := 628) rfl)) (by decide +kernel)
set_option maxRecDepth 20000 in
theorem fl_Mo_57 : Cond.fieldLink R_Mo 57 (F_Mo 24).1 (F_Mo 24).2.1 (F_Mo 24).2.2.1 ∈ kw := kw_in (List.mem_append_right _ (List.mem_of_getElem? (i := 629) rfl)) (by decide +kernel)
set_option maxRecDepth 20000 in
theorem fl_Mo_38 : Cond.fieldLink R_Mo 38 (F_Mo 26).1 (F_Mo 26).2.1 (F_Mo 26).2.2.1 ∈ kw := kw_in (List.mem_append_right _ (List.mem_of_getElem? (i := 631) rfl)) (by decide +kernel)
set_option maxRecDepth 20000 in
theorem fl_Mo_116 : Cond.fieldLink R_Mo 116 (F_Mo 10).1 (F_Mo 10).2.1 (F_Mo 10).2.2.1 ∈ kw := kw_in (List.mem_append_right _ (List.mem_of_getElem? (i := 615) rfl)) (by decide +kernel)
set_option maxRecDepth 20000 in
theorem fl_Mo_125 : Cond.fieldLink R_Mo 125 (F_Mo 22).1 (F_Mo 22).2.1 (F_Mo 22).2.2.1 ∈ kw := kw_in (List.mem_append_right _ (List.mem_of_getElem? (i := 627) rfl)) (by decide +kernel)
set_option maxRecDepth 20000 in
theorem mw_788 : Cond.methodLink R_Mo 128 y_Mo_clear ∈ kw := kw_in (List.mem_append_right _ (List.mem_of_getElem? (i := 788) rfl)) (by decide +kernel)
set_option maxRecDepth 20000 in
theorem mw_790 : Cond.instanceMethod y_Mo_clear ∈ kw := kw_in (List.mem_append_right _ (List.mem_of_getElem? (i := 790) rfl)) (by decide +kernel)
set_option maxRecDepth 20000 in
theorem ms_41 : Cond.selects R_Mo y_Mo_clear y_Mo_clear ∈ kw := kw_in (List.mem_append_left _ (List.mem_of_getElem? (i := 41) rfl)) (by decide +kernel)
set_option maxRecDepth 20000 in
theorem mc_Mo_clear : Cond.code y_Mo_clear b_Mo_clear 2 none ∈ kw := kw_in (List.mem_append_right _ (List.mem_of_getElem? (i := 791) rfl)) (by decide +kernel)
theorem wV_Mo_128 : wV R_Mo 128 y_Mo_clear b_Mo_clear 2 none 0 := ⟨mw_788, mw_790, ms_41, mw_8, mc_Mo_clear, by decide +kernel, by decide +kernel, by decide +kernel⟩
set_option maxRecDepth 20000 in
theorem fl_Mo_31 : Cond.fieldLink R_Mo 31 (F_Mo 16).1 (F_Mo 16).2.1 (F_Mo 16).2.2.1 ∈ kw := kw_in (List.mem_append_right _ (List.mem_of_getElem? (i := 621) rfl)) (by decide +kernel)
set_option maxRecDepth 20000 in
theorem mw_761 : Cond.methodLink R_Mo 122 y_Mo_isInside ∈ kw := kw_in (List.mem_append_right _ (List.mem_of_getElem? (i := 761) rfl)) (by decide +kernel)
set_option maxRecDepth 20000 in
theorem mw_763 : Cond.instanceMethod y_Mo_isInside ∈ kw := kw_in (List.mem_append_right _ (List.mem_of_getElem? (i := 763) rfl)) (by decide +kernel)
set_option maxRecDepth 20000 in
theorem ms_35 : Cond.selects R_Mo y_Mo_isInside y_Mo_isInside ∈ kw := kw_in (List.mem_append_left _ (List.mem_of_getElem? (i := 35) rfl)) (by decide +kernel)
set_option maxRecDepth 20000 in
theorem mc_Mo_isInside : Cond.code y_Mo_isInside b_Mo_isInside 6 (some .boolean) ∈ kw := kw_in (List.mem_append_right _ (List.mem_of_getElem? (i := 764) rfl)) (by decide +kernel)
theorem wV_Mo_122 : wV R_Mo 122 y_Mo_isInside b_Mo_isInside 6 (some .boolean) 3 := ⟨mw_761, mw_763, ms_35, mw_8, mc_Mo_isInside, by decide +kernel, by decide +kernel, by decide +kernel⟩
set_option maxRecDepth 20000 in
theorem mw_800 : Cond.methodLink R_Mo 155 y_Mo_isSolid ∈ kw := kw_in (List.mem_append_right _ (List.mem_of_getElem? (i := 800) rfl)) (by decide +kernel)
set_option maxRecDepth 20000 in
theorem mw_802 : Cond.instanceMethod y_Mo_isSolid ∈ kw := kw_in (List.mem_append_right _ (List.mem_of_getElem? (i := 802) rfl)) (by decide +kernel)
set_option maxRecDepth 20000 in
theorem ms_42 : Cond.selects R_Mo y_Mo_isSolid y_Mo_isSolid ∈ kw := kw_in (List.mem_append_left _ (List.mem_of_getElem? (i := 42) rfl)) (by decide +kernel)
set_option maxRecDepth 20000 in
theorem mc_Mo_isSolid : Cond.code y_Mo_isSolid b_Mo_isSolid 4 (some .boolean) ∈ kw := kw_in (List.mem_append_right _ (List.mem_of_getElem? (i := 803) rfl)) (by decide +kernel)
theorem wV_Mo_155 : wV R_Mo 155 y_Mo_isSolid b_Mo_isSolid 4 (some .boolean) 3 := ⟨mw_800, mw_802, ms_42, mw_8, mc_Mo_isSolid, by decide +kernel, by decide +kernel, by decide +kernel⟩
set_option maxRecDepth 20000 in
theorem fl_Mo_44 : Cond.fieldLink R_Mo 44 (F_Mo 17).1 (F_Mo 17).2.1 (F_Mo 17).2.2.1 ∈ kw := kw_in (List.mem_append_right _ (List.mem_of_getElem? (i := 622) rfl)) (by decide +kernel)
set_option maxRecDepth 20000 in
theorem fl_Mo_48 : Cond.fieldLink R_Mo 48 (F_Mo 18).1 (F_Mo 18).2.1 (F_Mo 18).2.2.1 ∈ kw := kw_in (List.mem_append_right _ (List.mem_of_getElem? (i := 623) rfl)) (by decide +kernel)
set_option maxRecDepth 20000 in
theorem fl_Mo_51 : Cond.fieldLink R_Mo 51 (F_Mo 19).1 (F_Mo 19).2.1 (F_Mo 19).2.2.1 ∈ kw := kw_in (List.mem_append_right _ (List.mem_of_getElem? (i := 624) rfl)) (by decide +kernel)
set_option maxRecDepth 20000 in
theorem fl_Mo_54 : Cond.fieldLink R_Mo 54 (F_Mo 20).1 (F_Mo 20).2.1 (F_Mo 20).2.2.1 ∈ kw := kw_in (List.mem_append_right _ (List.mem_of_getElem? (i := 625) rfl)) (by decide +kernel)
set_option maxRecDepth 20000 in
theorem fl_Mo_158 : Cond.fieldLink R_Mo 158 (F_Mo 21).1 (F_Mo 21).2.1 (F_Mo 21).2.2.1 ∈ kw := kw_in (List.mem_append_right _ (List.mem_of_getElem? (i := 626) rfl)) (by decide +kernel)
set_option maxRecDepth 20000 in
theorem mw_820 : Cond.methodLink R_Mo 161 y_Mo_around ∈ kw := kw_in (List.mem_append_right _ (List.mem_of_getElem? (i := 820) rfl)) (by decide +kernel)
set_option maxRecDepth 20000 in
theorem mw_822 : Cond.instanceMethod y_Mo_around ∈ kw := kw_in (List.mem_append_right _ (List.mem_of_getElem? (i := 822) rfl)) (by decide +kernel)
set_option maxRecDepth 20000 in
theorem ms_45 : Cond.selects R_Mo y_Mo_around y_Mo_around ∈ kw := kw_in (List.mem_append_left _ (List.mem_of_getElem? (i := 45) rfl)) (by decide +kernel)
set_option maxRecDepth 20000 in
theorem mc_Mo_around : Cond.code y_Mo_around b_Mo_around 8 (some .int) ∈ kw := kw_in (List.mem_append_right _ (List.mem_of_getElem? (i := 823) rfl)) (by decide +kernel)
theorem wV_Mo_161 : wV R_Mo 161 y_Mo_around b_Mo_around 8 (some .int) 4 := ⟨mw_820, mw_822, ms_45, mw_8, mc_Mo_around, by decide +kernel, by decide +kernel, by decide +kernel⟩
set_option maxRecDepth 20000 in
theorem mw_816 : Cond.methodLink R_Mo 164 y_Mo_hangs ∈ kw := kw_in (List.mem_append_right _ (List.mem_of_getElem? (i := 816) rfl)) (by decide +kernel)
set_option maxRecDepth 20000 in
theorem mw_818 : Cond.instanceMethod y_Mo_hangs ∈ kw := kw_in (List.mem_append_right _ (List.mem_of_getElem? (i := 818) rfl)) (by decide +kernel)
set_option maxRecDepth 20000 in
theorem ms_44 : Cond.selects R_Mo y_Mo_hangs y_Mo_hangs ∈ kw := kw_in (List.mem_append_left _ (List.mem_of_getElem? (i := 44) rfl)) (by decide +kernel)
set_option maxRecDepth 20000 in
theorem mc_Mo_hangs : Cond.code y_Mo_hangs b_Mo_hangs 4 (some .boolean) ∈ kw := kw_in (List.mem_append_right _ (List.mem_of_getElem? (i := 819) rfl)) (by decide +kernel)
theorem wV_Mo_164 : wV R_Mo 164 y_Mo_hangs b_Mo_hangs 4 (some .boolean) 3 := ⟨mw_816, mw_818, ms_44, mw_8, mc_Mo_hangs, by decide +kernel, by decide +kernel, by decide +kernel⟩
set_option maxRecDepth 20000 in
theorem mw_812 : Cond.methodLink R_Mo 167 y_Mo_kindOf ∈ kw := kw_in (List.mem_append_right _ (List.mem_of_getElem? (i := 812) rfl)) (by decide +kernel)
set_option maxRecDepth 20000 in
theorem mw_814 : Cond.instanceMethod y_Mo_kindOf ∈ kw := kw_in (List.mem_append_right _ (List.mem_of_getElem? (i := 814) rfl)) (by decide +kernel)
set_option maxRecDepth 20000 in
theorem ms_43 : Cond.selects R_Mo y_Mo_kindOf y_Mo_kindOf ∈ kw := kw_in (List.mem_append_left _ (List.mem_of_getElem? (i := 43) rfl)) (by decide +kernel)
set_option maxRecDepth 20000 in
theorem mc_Mo_kindOf : Cond.code y_Mo_kindOf b_Mo_kindOf 6 (some .int) ∈ kw := kw_in (List.mem_append_right _ (List.mem_of_getElem? (i := 815) rfl)) (by decide +kernel)
theorem wV_Mo_167 : wV R_Mo 167 y_Mo_kindOf b_Mo_kindOf 6 (some .int) 3 := ⟨mw_812, mw_814, ms_43, mw_8, mc_Mo_kindOf, by decide +kernel, by decide +kernel, by decide +kernel⟩
set_option maxRecDepth 20000 in
theorem mw_844 : Cond.methodLink R_Mo 170 y_Mo_isLaid ∈ kw := kw_in (List.mem_append_right _ (List.mem_of_getElem? (i := 844) rfl)) (by decide +kernel)
set_option maxRecDepth 20000 in
theorem mw_845 : Cond.static y_Mo_isLaid ∈ kw := kw_in (List.mem_append_right _ (List.mem_of_getElem? (i := 845) rfl)) (by decide +kernel)
set_option maxRecDepth 20000 in
theorem mc_Mo_isLaid : Cond.code y_Mo_isLaid b_Mo_isLaid 1 (some .boolean) ∈ kw := kw_in (List.mem_append_right _ (List.mem_of_getElem? (i := 846) rfl)) (by decide +kernel)
theorem wS_Mo_170 : wS R_Mo 170 y_Mo_isLaid b_Mo_isLaid 1 (some .boolean) 1 := ⟨mw_844, mw_845, mw_8, mc_Mo_isLaid, by decide +kernel, by decide +kernel, by decide +kernel⟩
set_option maxRecDepth 20000 in
theorem mw_840 : Cond.methodLink R_Mo 173 y_Mo_begins ∈ kw := kw_in (List.mem_append_right _ (List.mem_of_getElem? (i := 840) rfl)) (by decide +kernel)
set_option maxRecDepth 20000 in
theorem mw_842 : Cond.instanceMethod y_Mo_begins ∈ kw := kw_in (List.mem_append_right _ (List.mem_of_getElem? (i := 842) rfl)) (by decide +kernel)
set_option maxRecDepth 20000 in
theorem ms_47 : Cond.selects R_Mo y_Mo_begins y_Mo_begins ∈ kw := kw_in (List.mem_append_left _ (List.mem_of_getElem? (i := 47) rfl)) (by decide +kernel)
set_option maxRecDepth 20000 in
theorem mc_Mo_begins : Cond.code y_Mo_begins b_Mo_begins 6 (some .int) ∈ kw := kw_in (List.mem_append_right _ (List.mem_of_getElem? (i := 843) rfl)) (by decide +kernel)
theorem wV_Mo_173 : wV R_Mo 173 y_Mo_begins b_Mo_begins 6 (some .int) 2 := ⟨mw_840, mw_842, ms_47, mw_8, mc_Mo_begins, by decide +kernel, by decide +kernel, by decide +kernel⟩
set_option maxRecDepth 20000 in
theorem mw_836 : Cond.methodLink R_Mo 176 y_Mo_pathsOf ∈ kw := kw_in (List.mem_append_right _ (List.mem_of_getElem? (i := 836) rfl)) (by decide +kernel)
set_option maxRecDepth 20000 in
theorem mw_838 : Cond.instanceMethod y_Mo_pathsOf ∈ kw := kw_in (List.mem_append_right _ (List.mem_of_getElem? (i := 838) rfl)) (by decide +kernel)
set_option maxRecDepth 20000 in
theorem ms_46 : Cond.selects R_Mo y_Mo_pathsOf y_Mo_pathsOf ∈ kw := kw_in (List.mem_append_left _ (List.mem_of_getElem? (i := 46) rfl)) (by decide +kernel)
set_option maxRecDepth 20000 in
theorem mc_Mo_pathsOf : Cond.code y_Mo_pathsOf b_Mo_pathsOf 3 (some .int) ∈ kw := kw_in (List.mem_append_right _ (List.mem_of_getElem? (i := 839) rfl)) (by decide +kernel)
theorem wV_Mo_176 : wV R_Mo 176 y_Mo_pathsOf b_Mo_pathsOf 3 (some .int) 1 := ⟨mw_836, mw_838, ms_46, mw_8, mc_Mo_pathsOf, by decide +kernel, by decide +kernel, by decide +kernel⟩
set_option maxRecDepth 20000 in
theorem mw_851 : Cond.methodLink R_Mo 179 y_Mo_longAt ∈ kw := kw_in (List.mem_append_right _ (List.mem_of_getElem? (i := 851) rfl)) (by decide +kernel)
set_option maxRecDepth 20000 in
theorem mw_853 : Cond.instanceMethod y_Mo_longAt ∈ kw := kw_in (List.mem_append_right _ (List.mem_of_getElem? (i := 853) rfl)) (by decide +kernel)
set_option maxRecDepth 20000 in
theorem ms_48 : Cond.selects R_Mo y_Mo_longAt y_Mo_longAt ∈ kw := kw_in (List.mem_append_left _ (List.mem_of_getElem? (i := 48) rfl)) (by decide +kernel)
set_option maxRecDepth 20000 in
theorem mc_Mo_longAt : Cond.code y_Mo_longAt b_Mo_longAt 4 (some .int) ∈ kw := kw_in (List.mem_append_right _ (List.mem_of_getElem? (i := 854) rfl)) (by decide +kernel)
theorem wV_Mo_179 : wV R_Mo 179 y_Mo_longAt b_Mo_longAt 4 (some .int) 2 := ⟨mw_851, mw_853, ms_48, mw_8, mc_Mo_longAt, by decide +kernel, by decide +kernel, by decide +kernel⟩
set_option maxRecDepth 20000 in
theorem fl_Mo_35 : Cond.fieldLink R_Mo 35 (F_Mo 25).1 (F_Mo 25).2.1 (F_Mo 25).2.2.1 ∈ kw := kw_in (List.mem_append_right _ (List.mem_of_getElem? (i := 630) rfl)) (by decide +kernel)
set_option maxRecDepth 20000 in
theorem mw_859 : Cond.methodLink R_Mo 185 y_Mo_put ∈ kw := kw_in (List.mem_append_right _ (List.mem_of_getElem? (i := 859) rfl)) (by decide +kernel)
set_option maxRecDepth 20000 in
theorem mw_861 : Cond.instanceMethod y_Mo_put ∈ kw := kw_in (List.mem_append_right _ (List.mem_of_getElem? (i := 861) rfl)) (by decide +kernel)
set_option maxRecDepth 20000 in
theorem ms_49 : Cond.selects R_Mo y_Mo_put y_Mo_put ∈ kw := kw_in (List.mem_append_left _ (List.mem_of_getElem? (i := 49) rfl)) (by decide +kernel)
set_option maxRecDepth 20000 in
theorem mc_Mo_put : Cond.code y_Mo_put b_Mo_put 2 none ∈ kw := kw_in (List.mem_append_right _ (List.mem_of_getElem? (i := 862) rfl)) (by decide +kernel)
theorem wV_Mo_185 : wV R_Mo 185 y_Mo_put b_Mo_put 2 none 1 := ⟨mw_859, mw_861, ms_49, mw_8, mc_Mo_put, by decide +kernel, by decide +kernel, by decide +kernel⟩
set_option maxRecDepth 20000 in
theorem wO_Me_3 : wO R_Me 3 := ⟨(kw_in (List.mem_append_right _ (List.mem_of_getElem? (i := 30) rfl)) (by decide +kernel)), (kw_in (List.mem_append_right _ (List.mem_of_getElem? (i := 23) rfl)) (by decide +kernel)), (kw_in (List.mem_append_right _ (List.mem_of_getElem? (i := 24) rfl)) (by decide +kernel))⟩
set_option maxRecDepth 20000 in
theorem ka_int : Cond.arrayClass .int ∈ kw := kw_in (List.mem_append_right _ (List.mem_of_getElem? (i := 60) rfl)) (by decide +kernel)
set_option maxRecDepth 20000 in
theorem wO_Mn_3 : wO R_Mn 3 := ⟨(kw_in (List.mem_append_right _ (List.mem_of_getElem? (i := 66) rfl)) (by decide +kernel)), (kw_in (List.mem_append_right _ (List.mem_of_getElem? (i := 23) rfl)) (by decide +kernel)), (kw_in (List.mem_append_right _ (List.mem_of_getElem? (i := 24) rfl)) (by decide +kernel))⟩
set_option maxRecDepth 20000 in
theorem ka_boolean : Cond.arrayClass .boolean ∈ kw := kw_in (List.mem_append_right _ (List.mem_of_getElem? (i := 95) rfl)) (by decide +kernel)
set_option maxRecDepth 20000 in
theorem wO_Sl_3 : wO R_Sl 3 := ⟨(kw_in (List.mem_append_right _ (List.mem_of_getElem? (i := 101) rfl)) (by decide +kernel)), (kw_in (List.mem_append_right _ (List.mem_of_getElem? (i := 23) rfl)) (by decide +kernel)), (kw_in (List.mem_append_right _ (List.mem_of_getElem? (i := 24) rfl)) (by decide +kernel))⟩
set_option maxRecDepth 20000 in
theorem mw_102 : Cond.classLink R_Sl 15 R_Me ∈ kw := kw_in (List.mem_append_right _ (List.mem_of_getElem? (i := 102) rfl)) (by decide +kernel)
set_option maxRecDepth 20000 in
theorem mw_26 : Cond.instantiable R_Me 6 ∈ kw := kw_in (List.mem_append_right _ (List.mem_of_getElem? (i := 26) rfl)) (by decide +kernel)
set_option maxRecDepth 20000 in
theorem mw_28 : Cond.instanceMethod y_Me_init ∈ kw := kw_in (List.mem_append_right _ (List.mem_of_getElem? (i := 28) rfl)) (by decide +kernel)
set_option maxRecDepth 20000 in
theorem mc_Me_init : Cond.code y_Me_init b_Me_init 1 none ∈ kw := kw_in (List.mem_append_right _ (List.mem_of_getElem? (i := 29) rfl)) (by decide +kernel)
theorem wJ_Sl_17 : wJ R_Sl 17 y_Me_init b_Me_init 1 0 "LayerSlicer" := ⟨by decide +kernel, mw_28, mw_2, mc_Me_init, rfl, by decide +kernel, by decide +kernel, by decide +kernel⟩
set_option maxRecDepth 20000 in
theorem wO_So_3 : wO R_So 3 := ⟨(kw_in (List.mem_append_right _ (List.mem_of_getElem? (i := 128) rfl)) (by decide +kernel)), (kw_in (List.mem_append_right _ (List.mem_of_getElem? (i := 23) rfl)) (by decide +kernel)), (kw_in (List.mem_append_right _ (List.mem_of_getElem? (i := 24) rfl)) (by decide +kernel))⟩
set_option maxRecDepth 20000 in
theorem wU_So_9 : wMulti R_So 9 := ⟨(kw_in (List.mem_append_right _ (List.mem_of_getElem? (i := 129) rfl)) (by decide +kernel)), (kw_in (List.mem_append_right _ (List.mem_of_getElem? (i := 60) rfl)) (by decide +kernel))⟩
set_option maxRecDepth 20000 in
theorem wO_Ro_3 : wO R_Ro 3 := ⟨(kw_in (List.mem_append_right _ (List.mem_of_getElem? (i := 160) rfl)) (by decide +kernel)), (kw_in (List.mem_append_right _ (List.mem_of_getElem? (i := 23) rfl)) (by decide +kernel)), (kw_in (List.mem_append_right _ (List.mem_of_getElem? (i := 24) rfl)) (by decide +kernel))⟩
set_option maxRecDepth 20000 in
theorem wO_Pr_3 : wO R_Pr 3 := ⟨(kw_in (List.mem_append_right _ (List.mem_of_getElem? (i := 172) rfl)) (by decide +kernel)), (kw_in (List.mem_append_right _ (List.mem_of_getElem? (i := 23) rfl)) (by decide +kernel)), (kw_in (List.mem_append_right _ (List.mem_of_getElem? (i := 24) rfl)) (by decide +kernel))⟩
set_option maxRecDepth 20000 in
theorem wO_LS_3 : wO R_LS 3 := ⟨(kw_in (List.mem_append_right _ (List.mem_of_getElem? (i := 22) rfl)) (by decide +kernel)), (kw_in (List.mem_append_right _ (List.mem_of_getElem? (i := 23) rfl)) (by decide +kernel)), (kw_in (List.mem_append_right _ (List.mem_of_getElem? (i := 24) rfl)) (by decide +kernel))⟩
set_option maxRecDepth 20000 in
theorem mw_25 : Cond.classLink R_LS 9 R_Me ∈ kw := kw_in (List.mem_append_right _ (List.mem_of_getElem? (i := 25) rfl)) (by decide +kernel)
theorem wJ_LS_11 : wJ R_LS 11 y_Me_init b_Me_init 1 0 "LayerSlicer" := ⟨by decide +kernel, mw_28, mw_2, mc_Me_init, rfl, by decide +kernel, by decide +kernel, by decide +kernel⟩
set_option maxRecDepth 20000 in
theorem mw_61 : Cond.classLink R_LS 16 R_Mn ∈ kw := kw_in (List.mem_append_right _ (List.mem_of_getElem? (i := 61) rfl)) (by decide +kernel)
set_option maxRecDepth 20000 in
theorem mw_62 : Cond.instantiable R_Mn 8 ∈ kw := kw_in (List.mem_append_right _ (List.mem_of_getElem? (i := 62) rfl)) (by decide +kernel)
set_option maxRecDepth 20000 in
theorem mw_64 : Cond.instanceMethod y_Mn_init ∈ kw := kw_in (List.mem_append_right _ (List.mem_of_getElem? (i := 64) rfl)) (by decide +kernel)
set_option maxRecDepth 20000 in
theorem mc_Mn_init : Cond.code y_Mn_init b_Mn_init 1 none ∈ kw := kw_in (List.mem_append_right _ (List.mem_of_getElem? (i := 65) rfl)) (by decide +kernel)
theorem wJ_LS_18 : wJ R_LS 18 y_Mn_init b_Mn_init 1 0 "LayerSlicer" := ⟨by decide +kernel, mw_64, mw_3, mc_Mn_init, rfl, by decide +kernel, by decide +kernel, by decide +kernel⟩
set_option maxRecDepth 20000 in
theorem mw_96 : Cond.classLink R_LS 23 R_Sl ∈ kw := kw_in (List.mem_append_right _ (List.mem_of_getElem? (i := 96) rfl)) (by decide +kernel)
set_option maxRecDepth 20000 in
theorem mw_97 : Cond.instantiable R_Sl 5 ∈ kw := kw_in (List.mem_append_right _ (List.mem_of_getElem? (i := 97) rfl)) (by decide +kernel)
set_option maxRecDepth 20000 in
theorem mw_99 : Cond.instanceMethod y_Sl_init ∈ kw := kw_in (List.mem_append_right _ (List.mem_of_getElem? (i := 99) rfl)) (by decide +kernel)
set_option maxRecDepth 20000 in
theorem mc_Sl_init : Cond.code y_Sl_init b_Sl_init 1 none ∈ kw := kw_in (List.mem_append_right _ (List.mem_of_getElem? (i := 100) rfl)) (by decide +kernel)
theorem wJ_LS_25 : wJ R_LS 25 y_Sl_init b_Sl_init 1 0 "LayerSlicer" := ⟨by decide +kernel, mw_99, mw_4, mc_Sl_init, rfl, by decide +kernel, by decide +kernel, by decide +kernel⟩
set_option maxRecDepth 20000 in
theorem mw_123 : Cond.classLink R_LS 30 R_So ∈ kw := kw_in (List.mem_append_right _ (List.mem_of_getElem? (i := 123) rfl)) (by decide +kernel)
set_option maxRecDepth 20000 in
theorem mw_124 : Cond.instantiable R_So 7 ∈ kw := kw_in (List.mem_append_right _ (List.mem_of_getElem? (i := 124) rfl)) (by decide +kernel)
set_option maxRecDepth 20000 in
theorem mw_126 : Cond.instanceMethod y_So_init ∈ kw := kw_in (List.mem_append_right _ (List.mem_of_getElem? (i := 126) rfl)) (by decide +kernel)
set_option maxRecDepth 20000 in
theorem mc_So_init : Cond.code y_So_init b_So_init 1 none ∈ kw := kw_in (List.mem_append_right _ (List.mem_of_getElem? (i := 127) rfl)) (by decide +kernel)
theorem wJ_LS_32 : wJ R_LS 32 y_So_init b_So_init 1 0 "LayerSlicer" := ⟨by decide +kernel, mw_126, mw_5, mc_So_init, rfl, by decide +kernel, by decide +kernel, by decide +kernel⟩
set_option maxRecDepth 20000 in
theorem mw_155 : Cond.classLink R_LS 37 R_Ro ∈ kw := kw_in (List.mem_append_right _ (List.mem_of_getElem? (i := 155) rfl)) (by decide +kernel)
set_option maxRecDepth 20000 in
theorem mw_156 : Cond.instantiable R_Ro 1 ∈ kw := kw_in (List.mem_append_right _ (List.mem_of_getElem? (i := 156) rfl)) (by decide +kernel)
set_option maxRecDepth 20000 in
theorem mw_158 : Cond.instanceMethod y_Ro_init ∈ kw := kw_in (List.mem_append_right _ (List.mem_of_getElem? (i := 158) rfl)) (by decide +kernel)
set_option maxRecDepth 20000 in
theorem mc_Ro_init : Cond.code y_Ro_init b_Ro_init 1 none ∈ kw := kw_in (List.mem_append_right _ (List.mem_of_getElem? (i := 159) rfl)) (by decide +kernel)
theorem wJ_LS_39 : wJ R_LS 39 y_Ro_init b_Ro_init 1 0 "LayerSlicer" := ⟨by decide +kernel, mw_158, mw_6, mc_Ro_init, rfl, by decide +kernel, by decide +kernel, by decide +kernel⟩
set_option maxRecDepth 20000 in
theorem mw_167 : Cond.classLink R_LS 44 R_Pr ∈ kw := kw_in (List.mem_append_right _ (List.mem_of_getElem? (i := 167) rfl)) (by decide +kernel)
set_option maxRecDepth 20000 in
theorem mw_168 : Cond.instantiable R_Pr 5 ∈ kw := kw_in (List.mem_append_right _ (List.mem_of_getElem? (i := 168) rfl)) (by decide +kernel)
set_option maxRecDepth 20000 in
theorem mw_170 : Cond.instanceMethod y_Pr_init ∈ kw := kw_in (List.mem_append_right _ (List.mem_of_getElem? (i := 170) rfl)) (by decide +kernel)
set_option maxRecDepth 20000 in
theorem mc_Pr_init : Cond.code y_Pr_init b_Pr_init 1 none ∈ kw := kw_in (List.mem_append_right _ (List.mem_of_getElem? (i := 171) rfl)) (by decide +kernel)
theorem wJ_LS_46 : wJ R_LS 46 y_Pr_init b_Pr_init 1 0 "LayerSlicer" := ⟨by decide +kernel, mw_170, mw_7, mc_Pr_init, rfl, by decide +kernel, by decide +kernel, by decide +kernel⟩
set_option maxRecDepth 20000 in
theorem wO_Mo_1 : wO R_Mo 1 := ⟨(kw_in (List.mem_append_right _ (List.mem_of_getElem? (i := 604) rfl)) (by decide +kernel)), (kw_in (List.mem_append_right _ (List.mem_of_getElem? (i := 23) rfl)) (by decide +kernel)), (kw_in (List.mem_append_right _ (List.mem_of_getElem? (i := 24) rfl)) (by decide +kernel))⟩
theorem in_LS : ∀ w ∈ u_ws R_LS F_LS 6, w ∈ kw := by decide +kernel
theorem in_Me : ∀ w ∈ u_ws R_Me F_Me 6, w ∈ kw := by decide +kernel
theorem in_Mn : ∀ w ∈ u_ws R_Mn F_Mn 8, w ∈ kw := by decide +kernel
theorem in_Sl : ∀ w ∈ u_ws R_Sl F_Sl 5, w ∈ kw := by decide +kernel
theorem in_So : ∀ w ∈ u_ws R_So F_So 7, w ∈ kw := by decide +kernel
theorem in_Ro : ∀ w ∈ u_ws R_Ro F_Ro 1, w ∈ kw := by decide +kernel
theorem in_Pr : ∀ w ∈ u_ws R_Pr F_Pr 5, w ∈ kw := by decide +kernel
theorem in_Mo : ∀ w ∈ u_ws R_Mo F_Mo 28, w ∈ kw := by decide +kernel
set_option maxRecDepth 20000 in
theorem mw_341 : Cond.methodLink R_Me 42 y_Mat_max ∈ kw := kw_in (List.mem_append_right _ (List.mem_of_getElem? (i := 341) rfl)) (by decide +kernel)
set_option maxRecDepth 20000 in
theorem mw_342 : Cond.static y_Mat_max ∈ kw := kw_in (List.mem_append_right _ (List.mem_of_getElem? (i := 342) rfl)) (by decide +kernel)
set_option maxRecDepth 20000 in
theorem mw_11 : Cond.initialized R_Mat ∈ kw := kw_in (List.mem_append_right _ (List.mem_of_getElem? (i := 11) rfl)) (by decide +kernel)
set_option maxRecDepth 20000 in
theorem mc_Mat_max : Cond.code y_Mat_max b_Mat_max 2 (some .int) ∈ kw := kw_in (List.mem_append_right _ (List.mem_of_getElem? (i := 343) rfl)) (by decide +kernel)
theorem wS_Me_42 : wS R_Me 42 y_Mat_max b_Mat_max 2 (some .int) 2 := ⟨mw_341, mw_342, mw_11, mc_Mat_max, by decide +kernel, by decide +kernel, by decide +kernel⟩
set_option maxRecDepth 20000 in
theorem mw_526 : Cond.methodLink R_law 7 y_LS_cut ∈ kw := kw_in (List.mem_append_right _ (List.mem_of_getElem? (i := 526) rfl)) (by decide +kernel)
set_option maxRecDepth 20000 in
theorem mw_527 : Cond.instanceMethod y_LS_cut ∈ kw := kw_in (List.mem_append_right _ (List.mem_of_getElem? (i := 527) rfl)) (by decide +kernel)
set_option maxRecDepth 20000 in
theorem mw_528 : Cond.selects R_LS y_LS_cut y_LS_cut ∈ kw := kw_in (List.mem_append_right _ (List.mem_of_getElem? (i := 528) rfl)) (by decide +kernel)
set_option maxRecDepth 20000 in
theorem mc_LS_cut : Cond.code y_LS_cut b_LS_cut 5 (some .int) ∈ kw := kw_in (List.mem_append_right _ (List.mem_of_getElem? (i := 529) rfl)) (by decide +kernel)
theorem wV_law_7 : wV R_law 7 y_LS_cut b_LS_cut 5 (some .int) 4 := ⟨mw_526, mw_527, mw_528, mw_1, mc_LS_cut, by decide +kernel, by decide +kernel, by decide +kernel⟩
set_option maxRecDepth 20000 in
theorem mw_595 : Cond.methodLink R_law 15 y_LS_path ∈ kw := kw_in (List.mem_append_right _ (List.mem_of_getElem? (i := 595) rfl)) (by decide +kernel)
set_option maxRecDepth 20000 in
theorem mw_596 : Cond.instanceMethod y_LS_path ∈ kw := kw_in (List.mem_append_right _ (List.mem_of_getElem? (i := 596) rfl)) (by decide +kernel)
set_option maxRecDepth 20000 in
theorem mw_597 : Cond.selects R_LS y_LS_path y_LS_path ∈ kw := kw_in (List.mem_append_right _ (List.mem_of_getElem? (i := 597) rfl)) (by decide +kernel)
set_option maxRecDepth 20000 in
theorem mc_LS_path : Cond.code y_LS_path b_LS_path 4 (some .int) ∈ kw := kw_in (List.mem_append_right _ (List.mem_of_getElem? (i := 598) rfl)) (by decide +kernel)
theorem wV_law_15 : wV R_law 15 y_LS_path b_LS_path 4 (some .int) 3 := ⟨mw_595, mw_596, mw_597, mw_1, mc_LS_path, by decide +kernel, by decide +kernel, by decide +kernel⟩
set_option maxRecDepth 20000 in
theorem mw_211 : Cond.methodLink R_law 23 y_LS_corner ∈ kw := kw_in (List.mem_append_right _ (List.mem_of_getElem? (i := 211) rfl)) (by decide +kernel)
set_option maxRecDepth 20000 in
theorem mw_212 : Cond.instanceMethod y_LS_corner ∈ kw := kw_in (List.mem_append_right _ (List.mem_of_getElem? (i := 212) rfl)) (by decide +kernel)
set_option maxRecDepth 20000 in
theorem mw_213 : Cond.selects R_LS y_LS_corner y_LS_corner ∈ kw := kw_in (List.mem_append_right _ (List.mem_of_getElem? (i := 213) rfl)) (by decide +kernel)
set_option maxRecDepth 20000 in
theorem mc_LS_corner : Cond.code y_LS_corner b_LS_corner 4 (some .int) ∈ kw := kw_in (List.mem_append_right _ (List.mem_of_getElem? (i := 214) rfl)) (by decide +kernel)
theorem wV_law_23 : wV R_law 23 y_LS_corner b_LS_corner 4 (some .int) 3 := ⟨mw_211, mw_212, mw_213, mw_1, mc_LS_corner, by decide +kernel, by decide +kernel, by decide +kernel⟩
set_option maxRecDepth 20000 in
theorem mw_694 : Cond.methodLink R_law 26 y_Mo_corner ∈ kw := kw_in (List.mem_append_right _ (List.mem_of_getElem? (i := 694) rfl)) (by decide +kernel)
set_option maxRecDepth 20000 in
theorem mw_695 : Cond.instanceMethod y_Mo_corner ∈ kw := kw_in (List.mem_append_right _ (List.mem_of_getElem? (i := 695) rfl)) (by decide +kernel)
set_option maxRecDepth 20000 in
theorem mw_696 : Cond.selects R_Mo y_Mo_corner y_Mo_corner ∈ kw := kw_in (List.mem_append_right _ (List.mem_of_getElem? (i := 696) rfl)) (by decide +kernel)
set_option maxRecDepth 20000 in
theorem mc_Mo_corner : Cond.code y_Mo_corner b_Mo_corner 4 (some .int) ∈ kw := kw_in (List.mem_append_right _ (List.mem_of_getElem? (i := 697) rfl)) (by decide +kernel)
theorem wV_law_26 : wV R_law 26 y_Mo_corner b_Mo_corner 4 (some .int) 3 := ⟨mw_694, mw_695, mw_696, mw_8, mc_Mo_corner, by decide +kernel, by decide +kernel, by decide +kernel⟩
set_option maxRecDepth 20000 in
theorem mw_222 : Cond.methodLink R_law 27 y_LS_tri ∈ kw := kw_in (List.mem_append_right _ (List.mem_of_getElem? (i := 222) rfl)) (by decide +kernel)
set_option maxRecDepth 20000 in
theorem mw_223 : Cond.instanceMethod y_LS_tri ∈ kw := kw_in (List.mem_append_right _ (List.mem_of_getElem? (i := 223) rfl)) (by decide +kernel)
set_option maxRecDepth 20000 in
theorem mw_224 : Cond.selects R_LS y_LS_tri y_LS_tri ∈ kw := kw_in (List.mem_append_right _ (List.mem_of_getElem? (i := 224) rfl)) (by decide +kernel)
set_option maxRecDepth 20000 in
theorem mc_LS_tri : Cond.code y_LS_tri b_LS_tri 4 (some .int) ∈ kw := kw_in (List.mem_append_right _ (List.mem_of_getElem? (i := 225) rfl)) (by decide +kernel)
theorem wV_law_27 : wV R_law 27 y_LS_tri b_LS_tri 4 (some .int) 3 := ⟨mw_222, mw_223, mw_224, mw_1, mc_LS_tri, by decide +kernel, by decide +kernel, by decide +kernel⟩
set_option maxRecDepth 20000 in
theorem mw_701 : Cond.methodLink R_law 30 y_Mo_tri ∈ kw := kw_in (List.mem_append_right _ (List.mem_of_getElem? (i := 701) rfl)) (by decide +kernel)
set_option maxRecDepth 20000 in
theorem mw_702 : Cond.instanceMethod y_Mo_tri ∈ kw := kw_in (List.mem_append_right _ (List.mem_of_getElem? (i := 702) rfl)) (by decide +kernel)
set_option maxRecDepth 20000 in
theorem mw_703 : Cond.selects R_Mo y_Mo_tri y_Mo_tri ∈ kw := kw_in (List.mem_append_right _ (List.mem_of_getElem? (i := 703) rfl)) (by decide +kernel)
set_option maxRecDepth 20000 in
theorem mc_Mo_tri : Cond.code y_Mo_tri b_Mo_tri 4 (some .int) ∈ kw := kw_in (List.mem_append_right _ (List.mem_of_getElem? (i := 704) rfl)) (by decide +kernel)
theorem wV_law_30 : wV R_law 30 y_Mo_tri b_Mo_tri 4 (some .int) 3 := ⟨mw_701, mw_702, mw_703, mw_8, mc_Mo_tri, by decide +kernel, by decide +kernel, by decide +kernel⟩
set_option maxRecDepth 20000 in
theorem mw_238 : Cond.methodLink R_law 31 y_LS_mend ∈ kw := kw_in (List.mem_append_right _ (List.mem_of_getElem? (i := 238) rfl)) (by decide +kernel)
set_option maxRecDepth 20000 in
theorem mw_239 : Cond.instanceMethod y_LS_mend ∈ kw := kw_in (List.mem_append_right _ (List.mem_of_getElem? (i := 239) rfl)) (by decide +kernel)
set_option maxRecDepth 20000 in
theorem mw_240 : Cond.selects R_LS y_LS_mend y_LS_mend ∈ kw := kw_in (List.mem_append_right _ (List.mem_of_getElem? (i := 240) rfl)) (by decide +kernel)
set_option maxRecDepth 20000 in
theorem mc_LS_mend : Cond.code y_LS_mend b_LS_mend 1 (some .int) ∈ kw := kw_in (List.mem_append_right _ (List.mem_of_getElem? (i := 241) rfl)) (by decide +kernel)
theorem wV_law_31 : wV R_law 31 y_LS_mend b_LS_mend 1 (some .int) 0 := ⟨mw_238, mw_239, mw_240, mw_1, mc_LS_mend, by decide +kernel, by decide +kernel, by decide +kernel⟩
set_option maxRecDepth 20000 in
theorem mw_709 : Cond.methodLink R_law 35 y_Mo_mend ∈ kw := kw_in (List.mem_append_right _ (List.mem_of_getElem? (i := 709) rfl)) (by decide +kernel)
set_option maxRecDepth 20000 in
theorem mw_710 : Cond.instanceMethod y_Mo_mend ∈ kw := kw_in (List.mem_append_right _ (List.mem_of_getElem? (i := 710) rfl)) (by decide +kernel)
set_option maxRecDepth 20000 in
theorem mw_711 : Cond.selects R_Mo y_Mo_mend y_Mo_mend ∈ kw := kw_in (List.mem_append_right _ (List.mem_of_getElem? (i := 711) rfl)) (by decide +kernel)
set_option maxRecDepth 20000 in
theorem mc_Mo_mend : Cond.code y_Mo_mend b_Mo_mend 5 (some .int) ∈ kw := kw_in (List.mem_append_right _ (List.mem_of_getElem? (i := 712) rfl)) (by decide +kernel)
theorem wV_law_35 : wV R_law 35 y_Mo_mend b_Mo_mend 5 (some .int) 0 := ⟨mw_709, mw_710, mw_711, mw_8, mc_Mo_mend, by decide +kernel, by decide +kernel, by decide +kernel⟩
set_option maxRecDepth 20000 in
theorem mw_306 : Cond.methodLink R_law 36 y_LS_mended ∈ kw := kw_in (List.mem_append_right _ (List.mem_of_getElem? (i := 306) rfl)) (by decide +kernel)
set_option maxRecDepth 20000 in
theorem mw_307 : Cond.instanceMethod y_LS_mended ∈ kw := kw_in (List.mem_append_right _ (List.mem_of_getElem? (i := 307) rfl)) (by decide +kernel)
set_option maxRecDepth 20000 in
theorem mw_308 : Cond.selects R_LS y_LS_mended y_LS_mended ∈ kw := kw_in (List.mem_append_right _ (List.mem_of_getElem? (i := 308) rfl)) (by decide +kernel)
set_option maxRecDepth 20000 in
theorem mc_LS_mended : Cond.code y_LS_mended b_LS_mended 2 (some .int) ∈ kw := kw_in (List.mem_append_right _ (List.mem_of_getElem? (i := 309) rfl)) (by decide +kernel)
theorem wV_law_36 : wV R_law 36 y_LS_mended b_LS_mended 2 (some .int) 1 := ⟨mw_306, mw_307, mw_308, mw_1, mc_LS_mended, by decide +kernel, by decide +kernel, by decide +kernel⟩
set_option maxRecDepth 20000 in
theorem mw_741 : Cond.methodLink R_law 40 y_Mo_mended ∈ kw := kw_in (List.mem_append_right _ (List.mem_of_getElem? (i := 741) rfl)) (by decide +kernel)
set_option maxRecDepth 20000 in
theorem mw_742 : Cond.instanceMethod y_Mo_mended ∈ kw := kw_in (List.mem_append_right _ (List.mem_of_getElem? (i := 742) rfl)) (by decide +kernel)
set_option maxRecDepth 20000 in
theorem mw_743 : Cond.selects R_Mo y_Mo_mended y_Mo_mended ∈ kw := kw_in (List.mem_append_right _ (List.mem_of_getElem? (i := 743) rfl)) (by decide +kernel)
set_option maxRecDepth 20000 in
theorem mc_Mo_mended : Cond.code y_Mo_mended b_Mo_mended 2 (some .int) ∈ kw := kw_in (List.mem_append_right _ (List.mem_of_getElem? (i := 744) rfl)) (by decide +kernel)
theorem wV_law_40 : wV R_law 40 y_Mo_mended b_Mo_mended 2 (some .int) 1 := ⟨mw_741, mw_742, mw_743, mw_8, mc_Mo_mended, by decide +kernel, by decide +kernel, by decide +kernel⟩
set_option maxRecDepth 20000 in
theorem mw_310 : Cond.methodLink R_law 41 y_LS_triangle ∈ kw := kw_in (List.mem_append_right _ (List.mem_of_getElem? (i := 310) rfl)) (by decide +kernel)
set_option maxRecDepth 20000 in
theorem mw_311 : Cond.instanceMethod y_LS_triangle ∈ kw := kw_in (List.mem_append_right _ (List.mem_of_getElem? (i := 311) rfl)) (by decide +kernel)
set_option maxRecDepth 20000 in
theorem mw_312 : Cond.selects R_LS y_LS_triangle y_LS_triangle ∈ kw := kw_in (List.mem_append_right _ (List.mem_of_getElem? (i := 312) rfl)) (by decide +kernel)
set_option maxRecDepth 20000 in
theorem mc_LS_triangle : Cond.code y_LS_triangle b_LS_triangle 3 (some .int) ∈ kw := kw_in (List.mem_append_right _ (List.mem_of_getElem? (i := 313) rfl)) (by decide +kernel)
theorem wV_law_41 : wV R_law 41 y_LS_triangle b_LS_triangle 3 (some .int) 2 := ⟨mw_310, mw_311, mw_312, mw_1, mc_LS_triangle, by decide +kernel, by decide +kernel, by decide +kernel⟩
set_option maxRecDepth 20000 in
theorem mw_745 : Cond.methodLink R_law 45 y_Mo_triangle ∈ kw := kw_in (List.mem_append_right _ (List.mem_of_getElem? (i := 745) rfl)) (by decide +kernel)
set_option maxRecDepth 20000 in
theorem mw_746 : Cond.instanceMethod y_Mo_triangle ∈ kw := kw_in (List.mem_append_right _ (List.mem_of_getElem? (i := 746) rfl)) (by decide +kernel)
set_option maxRecDepth 20000 in
theorem mw_747 : Cond.selects R_Mo y_Mo_triangle y_Mo_triangle ∈ kw := kw_in (List.mem_append_right _ (List.mem_of_getElem? (i := 747) rfl)) (by decide +kernel)
set_option maxRecDepth 20000 in
theorem mc_Mo_triangle : Cond.code y_Mo_triangle b_Mo_triangle 3 (some .int) ∈ kw := kw_in (List.mem_append_right _ (List.mem_of_getElem? (i := 748) rfl)) (by decide +kernel)
theorem wV_law_45 : wV R_law 45 y_Mo_triangle b_Mo_triangle 3 (some .int) 2 := ⟨mw_745, mw_746, mw_747, mw_8, mc_Mo_triangle, by decide +kernel, by decide +kernel, by decide +kernel⟩
set_option maxRecDepth 20000 in
theorem mw_314 : Cond.methodLink R_law 46 y_LS_turn ∈ kw := kw_in (List.mem_append_right _ (List.mem_of_getElem? (i := 314) rfl)) (by decide +kernel)
set_option maxRecDepth 20000 in
theorem mw_315 : Cond.instanceMethod y_LS_turn ∈ kw := kw_in (List.mem_append_right _ (List.mem_of_getElem? (i := 315) rfl)) (by decide +kernel)
set_option maxRecDepth 20000 in
theorem mw_316 : Cond.selects R_LS y_LS_turn y_LS_turn ∈ kw := kw_in (List.mem_append_right _ (List.mem_of_getElem? (i := 316) rfl)) (by decide +kernel)
set_option maxRecDepth 20000 in
theorem mc_LS_turn : Cond.code y_LS_turn b_LS_turn 4 (some .boolean) ∈ kw := kw_in (List.mem_append_right _ (List.mem_of_getElem? (i := 317) rfl)) (by decide +kernel)
theorem wV_law_46 : wV R_law 46 y_LS_turn b_LS_turn 4 (some .boolean) 2 := ⟨mw_314, mw_315, mw_316, mw_1, mc_LS_turn, by decide +kernel, by decide +kernel, by decide +kernel⟩
set_option maxRecDepth 20000 in
theorem mw_749 : Cond.methodLink R_law 50 y_Mo_turn ∈ kw := kw_in (List.mem_append_right _ (List.mem_of_getElem? (i := 749) rfl)) (by decide +kernel)
set_option maxRecDepth 20000 in
theorem mw_750 : Cond.instanceMethod y_Mo_turn ∈ kw := kw_in (List.mem_append_right _ (List.mem_of_getElem? (i := 750) rfl)) (by decide +kernel)
set_option maxRecDepth 20000 in
theorem mw_751 : Cond.selects R_Mo y_Mo_turn y_Mo_turn ∈ kw := kw_in (List.mem_append_right _ (List.mem_of_getElem? (i := 751) rfl)) (by decide +kernel)
set_option maxRecDepth 20000 in
theorem mc_Mo_turn : Cond.code y_Mo_turn b_Mo_turn 8 (some .boolean) ∈ kw := kw_in (List.mem_append_right _ (List.mem_of_getElem? (i := 752) rfl)) (by decide +kernel)
theorem wV_law_50 : wV R_law 50 y_Mo_turn b_Mo_turn 8 (some .boolean) 2 := ⟨mw_749, mw_750, mw_751, mw_8, mc_Mo_turn, by decide +kernel, by decide +kernel, by decide +kernel⟩
set_option maxRecDepth 20000 in
theorem mw_322 : Cond.methodLink R_law 51 y_LS_layers ∈ kw := kw_in (List.mem_append_right _ (List.mem_of_getElem? (i := 322) rfl)) (by decide +kernel)
set_option maxRecDepth 20000 in
theorem mw_323 : Cond.instanceMethod y_LS_layers ∈ kw := kw_in (List.mem_append_right _ (List.mem_of_getElem? (i := 323) rfl)) (by decide +kernel)
set_option maxRecDepth 20000 in
theorem mw_324 : Cond.selects R_LS y_LS_layers y_LS_layers ∈ kw := kw_in (List.mem_append_right _ (List.mem_of_getElem? (i := 324) rfl)) (by decide +kernel)
set_option maxRecDepth 20000 in
theorem mc_LS_layers : Cond.code y_LS_layers b_LS_layers 2 (some .int) ∈ kw := kw_in (List.mem_append_right _ (List.mem_of_getElem? (i := 325) rfl)) (by decide +kernel)
theorem wV_law_51 : wV R_law 51 y_LS_layers b_LS_layers 2 (some .int) 1 := ⟨mw_322, mw_323, mw_324, mw_1, mc_LS_layers, by decide +kernel, by decide +kernel, by decide +kernel⟩
set_option maxRecDepth 20000 in
theorem mw_753 : Cond.methodLink R_law 54 y_Mo_layers ∈ kw := kw_in (List.mem_append_right _ (List.mem_of_getElem? (i := 753) rfl)) (by decide +kernel)
set_option maxRecDepth 20000 in
theorem mw_754 : Cond.instanceMethod y_Mo_layers ∈ kw := kw_in (List.mem_append_right _ (List.mem_of_getElem? (i := 754) rfl)) (by decide +kernel)
set_option maxRecDepth 20000 in
theorem mw_755 : Cond.selects R_Mo y_Mo_layers y_Mo_layers ∈ kw := kw_in (List.mem_append_right _ (List.mem_of_getElem? (i := 755) rfl)) (by decide +kernel)
set_option maxRecDepth 20000 in
theorem mc_Mo_layers : Cond.code y_Mo_layers b_Mo_layers 6 (some .int) ∈ kw := kw_in (List.mem_append_right _ (List.mem_of_getElem? (i := 756) rfl)) (by decide +kernel)
theorem wV_law_54 : wV R_law 54 y_Mo_layers b_Mo_layers 6 (some .int) 1 := ⟨mw_753, mw_754, mw_755, mw_8, mc_Mo_layers, by decide +kernel, by decide +kernel, by decide +kernel⟩
set_option maxRecDepth 20000 in
theorem mw_792 : Cond.methodLink R_law 60 y_Mo_cut ∈ kw := kw_in (List.mem_append_right _ (List.mem_of_getElem? (i := 792) rfl)) (by decide +kernel)
set_option maxRecDepth 20000 in
theorem mw_793 : Cond.instanceMethod y_Mo_cut ∈ kw := kw_in (List.mem_append_right _ (List.mem_of_getElem? (i := 793) rfl)) (by decide +kernel)
set_option maxRecDepth 20000 in
theorem mw_794 : Cond.selects R_Mo y_Mo_cut y_Mo_cut ∈ kw := kw_in (List.mem_append_right _ (List.mem_of_getElem? (i := 794) rfl)) (by decide +kernel)
set_option maxRecDepth 20000 in
theorem mc_Mo_cut : Cond.code y_Mo_cut b_Mo_cut 6 (some .int) ∈ kw := kw_in (List.mem_append_right _ (List.mem_of_getElem? (i := 795) rfl)) (by decide +kernel)
theorem wV_law_60 : wV R_law 60 y_Mo_cut b_Mo_cut 6 (some .int) 4 := ⟨mw_792, mw_793, mw_794, mw_8, mc_Mo_cut, by decide +kernel, by decide +kernel, by decide +kernel⟩
set_option maxRecDepth 20000 in
theorem mw_690 : Cond.methodLink R_law 61 y_Mo_thrown ∈ kw := kw_in (List.mem_append_right _ (List.mem_of_getElem? (i := 690) rfl)) (by decide +kernel)
set_option maxRecDepth 20000 in
theorem mw_691 : Cond.instanceMethod y_Mo_thrown ∈ kw := kw_in (List.mem_append_right _ (List.mem_of_getElem? (i := 691) rfl)) (by decide +kernel)
set_option maxRecDepth 20000 in
theorem mw_692 : Cond.selects R_Mo y_Mo_thrown y_Mo_thrown ∈ kw := kw_in (List.mem_append_right _ (List.mem_of_getElem? (i := 692) rfl)) (by decide +kernel)
set_option maxRecDepth 20000 in
theorem mc_Mo_thrown : Cond.code y_Mo_thrown b_Mo_thrown 1 (some .int) ∈ kw := kw_in (List.mem_append_right _ (List.mem_of_getElem? (i := 693) rfl)) (by decide +kernel)
theorem wV_law_61 : wV R_law 61 y_Mo_thrown b_Mo_thrown 1 (some .int) 0 := ⟨mw_690, mw_691, mw_692, mw_8, mc_Mo_thrown, by decide +kernel, by decide +kernel, by decide +kernel⟩
set_option maxRecDepth 20000 in
theorem mw_424 : Cond.methodLink R_law 64 y_LS_solid ∈ kw := kw_in (List.mem_append_right _ (List.mem_of_getElem? (i := 424) rfl)) (by decide +kernel)
set_option maxRecDepth 20000 in
theorem mw_425 : Cond.instanceMethod y_LS_solid ∈ kw := kw_in (List.mem_append_right _ (List.mem_of_getElem? (i := 425) rfl)) (by decide +kernel)
set_option maxRecDepth 20000 in
theorem mw_426 : Cond.selects R_LS y_LS_solid y_LS_solid ∈ kw := kw_in (List.mem_append_right _ (List.mem_of_getElem? (i := 426) rfl)) (by decide +kernel)
set_option maxRecDepth 20000 in
theorem mc_LS_solid : Cond.code y_LS_solid b_LS_solid 4 (some .int) ∈ kw := kw_in (List.mem_append_right _ (List.mem_of_getElem? (i := 427) rfl)) (by decide +kernel)
theorem wV_law_64 : wV R_law 64 y_LS_solid b_LS_solid 4 (some .int) 3 := ⟨mw_424, mw_425, mw_426, mw_1, mc_LS_solid, by decide +kernel, by decide +kernel, by decide +kernel⟩
set_option maxRecDepth 20000 in
theorem mw_796 : Cond.methodLink R_law 67 y_Mo_solid ∈ kw := kw_in (List.mem_append_right _ (List.mem_of_getElem? (i := 796) rfl)) (by decide +kernel)
set_option maxRecDepth 20000 in
theorem mw_797 : Cond.instanceMethod y_Mo_solid ∈ kw := kw_in (List.mem_append_right _ (List.mem_of_getElem? (i := 797) rfl)) (by decide +kernel)
set_option maxRecDepth 20000 in
theorem mw_798 : Cond.selects R_Mo y_Mo_solid y_Mo_solid ∈ kw := kw_in (List.mem_append_right _ (List.mem_of_getElem? (i := 798) rfl)) (by decide +kernel)
set_option maxRecDepth 20000 in
theorem mc_Mo_solid : Cond.code y_Mo_solid b_Mo_solid 4 (some .int) ∈ kw := kw_in (List.mem_append_right _ (List.mem_of_getElem? (i := 799) rfl)) (by decide +kernel)
theorem wV_law_67 : wV R_law 67 y_Mo_solid b_Mo_solid 4 (some .int) 3 := ⟨mw_796, mw_797, mw_798, mw_8, mc_Mo_solid, by decide +kernel, by decide +kernel, by decide +kernel⟩
set_option maxRecDepth 20000 in
theorem mw_429 : Cond.methodLink R_law 68 y_LS_settings ∈ kw := kw_in (List.mem_append_right _ (List.mem_of_getElem? (i := 429) rfl)) (by decide +kernel)
set_option maxRecDepth 20000 in
theorem mw_430 : Cond.instanceMethod y_LS_settings ∈ kw := kw_in (List.mem_append_right _ (List.mem_of_getElem? (i := 430) rfl)) (by decide +kernel)
set_option maxRecDepth 20000 in
theorem mw_431 : Cond.selects R_LS y_LS_settings y_LS_settings ∈ kw := kw_in (List.mem_append_right _ (List.mem_of_getElem? (i := 431) rfl)) (by decide +kernel)
set_option maxRecDepth 20000 in
theorem mc_LS_settings : Cond.code y_LS_settings b_LS_settings 6 (some .boolean) ∈ kw := kw_in (List.mem_append_right _ (List.mem_of_getElem? (i := 432) rfl)) (by decide +kernel)
theorem wV_law_68 : wV R_law 68 y_LS_settings b_LS_settings 6 (some .boolean) 5 := ⟨mw_429, mw_430, mw_431, mw_1, mc_LS_settings, by decide +kernel, by decide +kernel, by decide +kernel⟩
set_option maxRecDepth 20000 in
theorem mw_804 : Cond.methodLink R_law 72 y_Mo_settings ∈ kw := kw_in (List.mem_append_right _ (List.mem_of_getElem? (i := 804) rfl)) (by decide +kernel)
set_option maxRecDepth 20000 in
theorem mw_805 : Cond.instanceMethod y_Mo_settings ∈ kw := kw_in (List.mem_append_right _ (List.mem_of_getElem? (i := 805) rfl)) (by decide +kernel)
set_option maxRecDepth 20000 in
theorem mw_806 : Cond.selects R_Mo y_Mo_settings y_Mo_settings ∈ kw := kw_in (List.mem_append_right _ (List.mem_of_getElem? (i := 806) rfl)) (by decide +kernel)
set_option maxRecDepth 20000 in
theorem mc_Mo_settings : Cond.code y_Mo_settings b_Mo_settings 6 (some .boolean) ∈ kw := kw_in (List.mem_append_right _ (List.mem_of_getElem? (i := 807) rfl)) (by decide +kernel)
theorem wV_law_72 : wV R_law 72 y_Mo_settings b_Mo_settings 6 (some .boolean) 5 := ⟨mw_804, mw_805, mw_806, mw_8, mc_Mo_settings, by decide +kernel, by decide +kernel, by decide +kernel⟩
set_option maxRecDepth 20000 in
theorem mw_440 : Cond.methodLink R_law 73 y_LS_kind ∈ kw := kw_in (List.mem_append_right _ (List.mem_of_getElem? (i := 440) rfl)) (by decide +kernel)
set_option maxRecDepth 20000 in
theorem mw_441 : Cond.instanceMethod y_LS_kind ∈ kw := kw_in (List.mem_append_right _ (List.mem_of_getElem? (i := 441) rfl)) (by decide +kernel)
set_option maxRecDepth 20000 in
theorem mw_442 : Cond.selects R_LS y_LS_kind y_LS_kind ∈ kw := kw_in (List.mem_append_right _ (List.mem_of_getElem? (i := 442) rfl)) (by decide +kernel)
set_option maxRecDepth 20000 in
theorem mc_LS_kind : Cond.code y_LS_kind b_LS_kind 4 (some .int) ∈ kw := kw_in (List.mem_append_right _ (List.mem_of_getElem? (i := 443) rfl)) (by decide +kernel)
theorem wV_law_73 : wV R_law 73 y_LS_kind b_LS_kind 4 (some .int) 3 := ⟨mw_440, mw_441, mw_442, mw_1, mc_LS_kind, by decide +kernel, by decide +kernel, by decide +kernel⟩
set_option maxRecDepth 20000 in
theorem mw_808 : Cond.methodLink R_law 76 y_Mo_kind ∈ kw := kw_in (List.mem_append_right _ (List.mem_of_getElem? (i := 808) rfl)) (by decide +kernel)
set_option maxRecDepth 20000 in
theorem mw_809 : Cond.instanceMethod y_Mo_kind ∈ kw := kw_in (List.mem_append_right _ (List.mem_of_getElem? (i := 809) rfl)) (by decide +kernel)
set_option maxRecDepth 20000 in
theorem mw_810 : Cond.selects R_Mo y_Mo_kind y_Mo_kind ∈ kw := kw_in (List.mem_append_right _ (List.mem_of_getElem? (i := 810) rfl)) (by decide +kernel)
set_option maxRecDepth 20000 in
theorem mc_Mo_kind : Cond.code y_Mo_kind b_Mo_kind 4 (some .int) ∈ kw := kw_in (List.mem_append_right _ (List.mem_of_getElem? (i := 811) rfl)) (by decide +kernel)
theorem wV_law_76 : wV R_law 76 y_Mo_kind b_Mo_kind 4 (some .int) 3 := ⟨mw_808, mw_809, mw_810, mw_8, mc_Mo_kind, by decide +kernel, by decide +kernel, by decide +kernel⟩
set_option maxRecDepth 20000 in
theorem mw_449 : Cond.methodLink R_law 77 y_LS_paths ∈ kw := kw_in (List.mem_append_right _ (List.mem_of_getElem? (i := 449) rfl)) (by decide +kernel)
set_option maxRecDepth 20000 in
theorem mw_450 : Cond.instanceMethod y_LS_paths ∈ kw := kw_in (List.mem_append_right _ (List.mem_of_getElem? (i := 450) rfl)) (by decide +kernel)
set_option maxRecDepth 20000 in
theorem mw_451 : Cond.selects R_LS y_LS_paths y_LS_paths ∈ kw := kw_in (List.mem_append_right _ (List.mem_of_getElem? (i := 451) rfl)) (by decide +kernel)
set_option maxRecDepth 20000 in
theorem mc_LS_paths : Cond.code y_LS_paths b_LS_paths 2 (some .int) ∈ kw := kw_in (List.mem_append_right _ (List.mem_of_getElem? (i := 452) rfl)) (by decide +kernel)
theorem wV_law_77 : wV R_law 77 y_LS_paths b_LS_paths 2 (some .int) 1 := ⟨mw_449, mw_450, mw_451, mw_1, mc_LS_paths, by decide +kernel, by decide +kernel, by decide +kernel⟩
set_option maxRecDepth 20000 in
theorem mw_832 : Cond.methodLink R_law 80 y_Mo_paths ∈ kw := kw_in (List.mem_append_right _ (List.mem_of_getElem? (i := 832) rfl)) (by decide +kernel)
set_option maxRecDepth 20000 in
theorem mw_833 : Cond.instanceMethod y_Mo_paths ∈ kw := kw_in (List.mem_append_right _ (List.mem_of_getElem? (i := 833) rfl)) (by decide +kernel)
set_option maxRecDepth 20000 in
theorem mw_834 : Cond.selects R_Mo y_Mo_paths y_Mo_paths ∈ kw := kw_in (List.mem_append_right _ (List.mem_of_getElem? (i := 834) rfl)) (by decide +kernel)
set_option maxRecDepth 20000 in
theorem mc_Mo_paths : Cond.code y_Mo_paths b_Mo_paths 2 (some .int) ∈ kw := kw_in (List.mem_append_right _ (List.mem_of_getElem? (i := 835) rfl)) (by decide +kernel)
theorem wV_law_80 : wV R_law 80 y_Mo_paths b_Mo_paths 2 (some .int) 1 := ⟨mw_832, mw_833, mw_834, mw_8, mc_Mo_paths, by decide +kernel, by decide +kernel, by decide +kernel⟩
set_option maxRecDepth 20000 in
theorem mw_847 : Cond.methodLink R_law 84 y_Mo_path ∈ kw := kw_in (List.mem_append_right _ (List.mem_of_getElem? (i := 847) rfl)) (by decide +kernel)
set_option maxRecDepth 20000 in
theorem mw_848 : Cond.instanceMethod y_Mo_path ∈ kw := kw_in (List.mem_append_right _ (List.mem_of_getElem? (i := 848) rfl)) (by decide +kernel)
set_option maxRecDepth 20000 in
theorem mw_849 : Cond.selects R_Mo y_Mo_path y_Mo_path ∈ kw := kw_in (List.mem_append_right _ (List.mem_of_getElem? (i := 849) rfl)) (by decide +kernel)
set_option maxRecDepth 20000 in
theorem mc_Mo_path : Cond.code y_Mo_path b_Mo_path 5 (some .int) ∈ kw := kw_in (List.mem_append_right _ (List.mem_of_getElem? (i := 850) rfl)) (by decide +kernel)
theorem wV_law_84 : wV R_law 84 y_Mo_path b_Mo_path 5 (some .int) 3 := ⟨mw_847, mw_848, mw_849, mw_8, mc_Mo_path, by decide +kernel, by decide +kernel, by decide +kernel⟩
set_option maxRecDepth 20000 in
theorem mw_466 : Cond.methodLink R_law 85 y_LS_emit ∈ kw := kw_in (List.mem_append_right _ (List.mem_of_getElem? (i := 466) rfl)) (by decide +kernel)
set_option maxRecDepth 20000 in
theorem mw_467 : Cond.instanceMethod y_LS_emit ∈ kw := kw_in (List.mem_append_right _ (List.mem_of_getElem? (i := 467) rfl)) (by decide +kernel)
set_option maxRecDepth 20000 in
theorem mw_468 : Cond.selects R_LS y_LS_emit y_LS_emit ∈ kw := kw_in (List.mem_append_right _ (List.mem_of_getElem? (i := 468) rfl)) (by decide +kernel)
set_option maxRecDepth 20000 in
theorem mc_LS_emit : Cond.code y_LS_emit b_LS_emit 2 (some .int) ∈ kw := kw_in (List.mem_append_right _ (List.mem_of_getElem? (i := 469) rfl)) (by decide +kernel)
theorem wV_law_85 : wV R_law 85 y_LS_emit b_LS_emit 2 (some .int) 0 := ⟨mw_466, mw_467, mw_468, mw_1, mc_LS_emit, by decide +kernel, by decide +kernel, by decide +kernel⟩
set_option maxRecDepth 20000 in
theorem mw_855 : Cond.methodLink R_law 88 y_Mo_emit ∈ kw := kw_in (List.mem_append_right _ (List.mem_of_getElem? (i := 855) rfl)) (by decide +kernel)
set_option maxRecDepth 20000 in
theorem mw_856 : Cond.instanceMethod y_Mo_emit ∈ kw := kw_in (List.mem_append_right _ (List.mem_of_getElem? (i := 856) rfl)) (by decide +kernel)
set_option maxRecDepth 20000 in
theorem mw_857 : Cond.selects R_Mo y_Mo_emit y_Mo_emit ∈ kw := kw_in (List.mem_append_right _ (List.mem_of_getElem? (i := 857) rfl)) (by decide +kernel)
set_option maxRecDepth 20000 in
theorem mc_Mo_emit : Cond.code y_Mo_emit b_Mo_emit 4 (some .int) ∈ kw := kw_in (List.mem_append_right _ (List.mem_of_getElem? (i := 858) rfl)) (by decide +kernel)
theorem wV_law_88 : wV R_law 88 y_Mo_emit b_Mo_emit 4 (some .int) 0 := ⟨mw_855, mw_856, mw_857, mw_8, mc_Mo_emit, by decide +kernel, by decide +kernel, by decide +kernel⟩
set_option maxRecDepth 20000 in
theorem mw_478 : Cond.methodLink R_law 89 y_LS_byteOf ∈ kw := kw_in (List.mem_append_right _ (List.mem_of_getElem? (i := 478) rfl)) (by decide +kernel)
set_option maxRecDepth 20000 in
theorem mw_479 : Cond.instanceMethod y_LS_byteOf ∈ kw := kw_in (List.mem_append_right _ (List.mem_of_getElem? (i := 479) rfl)) (by decide +kernel)
set_option maxRecDepth 20000 in
theorem mw_480 : Cond.selects R_LS y_LS_byteOf y_LS_byteOf ∈ kw := kw_in (List.mem_append_right _ (List.mem_of_getElem? (i := 480) rfl)) (by decide +kernel)
set_option maxRecDepth 20000 in
theorem mc_LS_byteOf : Cond.code y_LS_byteOf b_LS_byteOf 2 (some .int) ∈ kw := kw_in (List.mem_append_right _ (List.mem_of_getElem? (i := 481) rfl)) (by decide +kernel)
theorem wV_law_89 : wV R_law 89 y_LS_byteOf b_LS_byteOf 2 (some .int) 1 := ⟨mw_478, mw_479, mw_480, mw_1, mc_LS_byteOf, by decide +kernel, by decide +kernel, by decide +kernel⟩
set_option maxRecDepth 20000 in
theorem mw_863 : Cond.methodLink R_law 92 y_Mo_byteOf ∈ kw := kw_in (List.mem_append_right _ (List.mem_of_getElem? (i := 863) rfl)) (by decide +kernel)
set_option maxRecDepth 20000 in
theorem mw_864 : Cond.instanceMethod y_Mo_byteOf ∈ kw := kw_in (List.mem_append_right _ (List.mem_of_getElem? (i := 864) rfl)) (by decide +kernel)
set_option maxRecDepth 20000 in
theorem mw_865 : Cond.selects R_Mo y_Mo_byteOf y_Mo_byteOf ∈ kw := kw_in (List.mem_append_right _ (List.mem_of_getElem? (i := 865) rfl)) (by decide +kernel)
set_option maxRecDepth 20000 in
theorem mc_Mo_byteOf : Cond.code y_Mo_byteOf b_Mo_byteOf 2 (some .int) ∈ kw := kw_in (List.mem_append_right _ (List.mem_of_getElem? (i := 866) rfl)) (by decide +kernel)
theorem wV_law_92 : wV R_law 92 y_Mo_byteOf b_Mo_byteOf 2 (some .int) 1 := ⟨mw_863, mw_864, mw_865, mw_8, mc_Mo_byteOf, by decide +kernel, by decide +kernel, by decide +kernel⟩
set_option maxRecDepth 20000 in
theorem mw_482 : Cond.methodLink R_law 93 y_LS_play ∈ kw := kw_in (List.mem_append_right _ (List.mem_of_getElem? (i := 482) rfl)) (by decide +kernel)
set_option maxRecDepth 20000 in
theorem mw_483 : Cond.instanceMethod y_LS_play ∈ kw := kw_in (List.mem_append_right _ (List.mem_of_getElem? (i := 483) rfl)) (by decide +kernel)
set_option maxRecDepth 20000 in
theorem mw_484 : Cond.selects R_LS y_LS_play y_LS_play ∈ kw := kw_in (List.mem_append_right _ (List.mem_of_getElem? (i := 484) rfl)) (by decide +kernel)
set_option maxRecDepth 20000 in
theorem mc_LS_play : Cond.code y_LS_play b_LS_play 2 (some .int) ∈ kw := kw_in (List.mem_append_right _ (List.mem_of_getElem? (i := 485) rfl)) (by decide +kernel)
theorem wV_law_93 : wV R_law 93 y_LS_play b_LS_play 2 (some .int) 1 := ⟨mw_482, mw_483, mw_484, mw_1, mc_LS_play, by decide +kernel, by decide +kernel, by decide +kernel⟩
set_option maxRecDepth 20000 in
theorem mw_867 : Cond.methodLink R_law 96 y_Mo_play ∈ kw := kw_in (List.mem_append_right _ (List.mem_of_getElem? (i := 867) rfl)) (by decide +kernel)
set_option maxRecDepth 20000 in
theorem mw_868 : Cond.instanceMethod y_Mo_play ∈ kw := kw_in (List.mem_append_right _ (List.mem_of_getElem? (i := 868) rfl)) (by decide +kernel)
set_option maxRecDepth 20000 in
theorem mw_869 : Cond.selects R_Mo y_Mo_play y_Mo_play ∈ kw := kw_in (List.mem_append_right _ (List.mem_of_getElem? (i := 869) rfl)) (by decide +kernel)
set_option maxRecDepth 20000 in
theorem mc_Mo_play : Cond.code y_Mo_play b_Mo_play 4 (some .int) ∈ kw := kw_in (List.mem_append_right _ (List.mem_of_getElem? (i := 870) rfl)) (by decide +kernel)
theorem wV_law_96 : wV R_law 96 y_Mo_play b_Mo_play 4 (some .int) 1 := ⟨mw_867, mw_868, mw_869, mw_8, mc_Mo_play, by decide +kernel, by decide +kernel, by decide +kernel⟩
set_option maxRecDepth 20000 in
theorem mw_497 : Cond.methodLink R_law 97 y_LS_laid ∈ kw := kw_in (List.mem_append_right _ (List.mem_of_getElem? (i := 497) rfl)) (by decide +kernel)
set_option maxRecDepth 20000 in
theorem mw_498 : Cond.instanceMethod y_LS_laid ∈ kw := kw_in (List.mem_append_right _ (List.mem_of_getElem? (i := 498) rfl)) (by decide +kernel)
set_option maxRecDepth 20000 in
theorem mw_499 : Cond.selects R_LS y_LS_laid y_LS_laid ∈ kw := kw_in (List.mem_append_right _ (List.mem_of_getElem? (i := 499) rfl)) (by decide +kernel)
set_option maxRecDepth 20000 in
theorem mc_LS_laid : Cond.code y_LS_laid b_LS_laid 4 (some .int) ∈ kw := kw_in (List.mem_append_right _ (List.mem_of_getElem? (i := 500) rfl)) (by decide +kernel)
theorem wV_law_97 : wV R_law 97 y_LS_laid b_LS_laid 4 (some .int) 3 := ⟨mw_497, mw_498, mw_499, mw_1, mc_LS_laid, by decide +kernel, by decide +kernel, by decide +kernel⟩
set_option maxRecDepth 20000 in
theorem mw_871 : Cond.methodLink R_law 100 y_Mo_laid ∈ kw := kw_in (List.mem_append_right _ (List.mem_of_getElem? (i := 871) rfl)) (by decide +kernel)
set_option maxRecDepth 20000 in
theorem mw_872 : Cond.instanceMethod y_Mo_laid ∈ kw := kw_in (List.mem_append_right _ (List.mem_of_getElem? (i := 872) rfl)) (by decide +kernel)
set_option maxRecDepth 20000 in
theorem mw_873 : Cond.selects R_Mo y_Mo_laid y_Mo_laid ∈ kw := kw_in (List.mem_append_right _ (List.mem_of_getElem? (i := 873) rfl)) (by decide +kernel)
set_option maxRecDepth 20000 in
theorem mc_Mo_laid : Cond.code y_Mo_laid b_Mo_laid 4 (some .int) ∈ kw := kw_in (List.mem_append_right _ (List.mem_of_getElem? (i := 874) rfl)) (by decide +kernel)
theorem wV_law_100 : wV R_law 100 y_Mo_laid b_Mo_laid 4 (some .int) 3 := ⟨mw_871, mw_872, mw_873, mw_8, mc_Mo_laid, by decide +kernel, by decide +kernel, by decide +kernel⟩
set_option maxRecDepth 20000 in
theorem mw_505 : Cond.methodLink R_law 101 y_LS_overhang ∈ kw := kw_in (List.mem_append_right _ (List.mem_of_getElem? (i := 505) rfl)) (by decide +kernel)
set_option maxRecDepth 20000 in
theorem mw_506 : Cond.instanceMethod y_LS_overhang ∈ kw := kw_in (List.mem_append_right _ (List.mem_of_getElem? (i := 506) rfl)) (by decide +kernel)
set_option maxRecDepth 20000 in
theorem mw_507 : Cond.selects R_LS y_LS_overhang y_LS_overhang ∈ kw := kw_in (List.mem_append_right _ (List.mem_of_getElem? (i := 507) rfl)) (by decide +kernel)
set_option maxRecDepth 20000 in
theorem mc_LS_overhang : Cond.code y_LS_overhang b_LS_overhang 2 (some .int) ∈ kw := kw_in (List.mem_append_right _ (List.mem_of_getElem? (i := 508) rfl)) (by decide +kernel)
theorem wV_law_101 : wV R_law 101 y_LS_overhang b_LS_overhang 2 (some .int) 1 := ⟨mw_505, mw_506, mw_507, mw_1, mc_LS_overhang, by decide +kernel, by decide +kernel, by decide +kernel⟩
set_option maxRecDepth 20000 in
theorem mw_824 : Cond.methodLink R_law 104 y_Mo_overhang ∈ kw := kw_in (List.mem_append_right _ (List.mem_of_getElem? (i := 824) rfl)) (by decide +kernel)
set_option maxRecDepth 20000 in
theorem mw_825 : Cond.instanceMethod y_Mo_overhang ∈ kw := kw_in (List.mem_append_right _ (List.mem_of_getElem? (i := 825) rfl)) (by decide +kernel)
set_option maxRecDepth 20000 in
theorem mw_826 : Cond.selects R_Mo y_Mo_overhang y_Mo_overhang ∈ kw := kw_in (List.mem_append_right _ (List.mem_of_getElem? (i := 826) rfl)) (by decide +kernel)
set_option maxRecDepth 20000 in
theorem mc_Mo_overhang : Cond.code y_Mo_overhang b_Mo_overhang 5 (some .int) ∈ kw := kw_in (List.mem_append_right _ (List.mem_of_getElem? (i := 827) rfl)) (by decide +kernel)
theorem wV_law_104 : wV R_law 104 y_Mo_overhang b_Mo_overhang 5 (some .int) 1 := ⟨mw_824, mw_825, mw_826, mw_8, mc_Mo_overhang, by decide +kernel, by decide +kernel, by decide +kernel⟩
set_option maxRecDepth 20000 in
theorem mw_518 : Cond.methodLink R_law 105 y_LS_volume ∈ kw := kw_in (List.mem_append_right _ (List.mem_of_getElem? (i := 518) rfl)) (by decide +kernel)
set_option maxRecDepth 20000 in
theorem mw_519 : Cond.instanceMethod y_LS_volume ∈ kw := kw_in (List.mem_append_right _ (List.mem_of_getElem? (i := 519) rfl)) (by decide +kernel)
set_option maxRecDepth 20000 in
theorem mw_520 : Cond.selects R_LS y_LS_volume y_LS_volume ∈ kw := kw_in (List.mem_append_right _ (List.mem_of_getElem? (i := 520) rfl)) (by decide +kernel)
set_option maxRecDepth 20000 in
theorem mc_LS_volume : Cond.code y_LS_volume b_LS_volume 2 (some .int) ∈ kw := kw_in (List.mem_append_right _ (List.mem_of_getElem? (i := 521) rfl)) (by decide +kernel)
theorem wV_law_105 : wV R_law 105 y_LS_volume b_LS_volume 2 (some .int) 1 := ⟨mw_518, mw_519, mw_520, mw_1, mc_LS_volume, by decide +kernel, by decide +kernel, by decide +kernel⟩
set_option maxRecDepth 20000 in
theorem mw_828 : Cond.methodLink R_law 108 y_Mo_volume ∈ kw := kw_in (List.mem_append_right _ (List.mem_of_getElem? (i := 828) rfl)) (by decide +kernel)
set_option maxRecDepth 20000 in
theorem mw_829 : Cond.instanceMethod y_Mo_volume ∈ kw := kw_in (List.mem_append_right _ (List.mem_of_getElem? (i := 829) rfl)) (by decide +kernel)
set_option maxRecDepth 20000 in
theorem mw_830 : Cond.selects R_Mo y_Mo_volume y_Mo_volume ∈ kw := kw_in (List.mem_append_right _ (List.mem_of_getElem? (i := 830) rfl)) (by decide +kernel)
set_option maxRecDepth 20000 in
theorem mc_Mo_volume : Cond.code y_Mo_volume b_Mo_volume 6 (some .int) ∈ kw := kw_in (List.mem_append_right _ (List.mem_of_getElem? (i := 831) rfl)) (by decide +kernel)
theorem wV_law_108 : wV R_law 108 y_Mo_volume b_Mo_volume 6 (some .int) 1 := ⟨mw_828, mw_829, mw_830, mw_8, mc_Mo_volume, by decide +kernel, by decide +kernel, by decide +kernel⟩
set_option maxRecDepth 20000 in
theorem mw_561 : Cond.methodLink R_Thr 27 y_Thr_fillInStackTrace ∈ kw := kw_in (List.mem_append_right _ (List.mem_of_getElem? (i := 561) rfl)) (by decide +kernel)
set_option maxRecDepth 20000 in
theorem mw_562 : Cond.instanceMethod y_Thr_fillInStackTrace ∈ kw := kw_in (List.mem_append_right _ (List.mem_of_getElem? (i := 562) rfl)) (by decide +kernel)
