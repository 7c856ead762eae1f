theorem tb1 {w : Cond} (i : Nat) (h : tables_1_1[i]? = some w) (hg : goodWord w = true) : w ∈ vT := List.mem_filter.mpr ⟨List.mem_append_right _ (show w ∈ tables_1 from List.mem_append_left _ (List.mem_of_getElem? h)), hg⟩
theorem tb2 {w : Cond} (i : Nat) (h : tables_1_2[i]? = some w) (hg : goodWord w = true) : w ∈ vT := List.mem_filter.mpr ⟨List.mem_append_right _ (show w ∈ tables_1 from List.mem_append_right _ (List.mem_append_left _ (List.mem_of_getElem? h))), hg⟩
theorem tb3 {w : Cond} (i : Nat) (h : tables_1_3[i]? = some w) (hg : goodWord w = true) : w ∈ vT := List.mem_filter.mpr ⟨List.mem_append_right _ (show w ∈ tables_1 from List.mem_append_right _ (List.mem_append_right _ (List.mem_append_left _ (List.mem_of_getElem? h)))), hg⟩
theorem tb4 {w : Cond} (i : Nat) (h : tables_1_4[i]? = some w) (hg : goodWord w = true) : w ∈ vT := List.mem_filter.mpr ⟨List.mem_append_right _ (show w ∈ tables_1 from List.mem_append_right _ (List.mem_append_right _ (List.mem_append_right _ (List.mem_append_left _ (List.mem_of_getElem? h))))), hg⟩
theorem tb5 {w : Cond} (i : Nat) (h : tables_1_5[i]? = some w) (hg : goodWord w = true) : w ∈ vT := List.mem_filter.mpr ⟨List.mem_append_right _ (show w ∈ tables_1 from List.mem_append_right _ (List.mem_append_right _ (List.mem_append_right _ (List.mem_append_right _ (List.mem_of_getElem? h))))), hg⟩
theorem tbp {w : Cond} (i : Nat) (h : (k2_sels lw_privs)[i]? = some w) (hg : goodWord w = true) : w ∈ vT := List.mem_filter.mpr ⟨List.mem_append_left _ (List.mem_of_getElem? h), hg⟩
theorem mf_X11_init : MF yX11_init cX11_init 2 (none) 0 := ⟨tb1 20 (by decide +kernel) (by decide +kernel), tb1 1 (by decide +kernel) (by decide +kernel), by decide +kernel, by decide +kernel, by decide, by decide +kernel⟩
theorem ii_X11_init : yX11_init.name = "<init>" ∧ Cond.instanceMethod yX11_init ∈ vT := ⟨rfl, tb1 19 (by decide +kernel) (by decide +kernel)⟩
theorem mf_X0_init : MF yX0_init cX0_init 1 (none) 0 := ⟨tb1 30 (by decide +kernel) (by decide +kernel), tb1 2 (by decide +kernel) (by decide +kernel), by decide +kernel, by decide +kernel, by decide, by decide +kernel⟩
theorem ii_X0_init : yX0_init.name = "<init>" ∧ Cond.instanceMethod yX0_init ∈ vT := ⟨rfl, tb1 29 (by decide +kernel) (by decide +kernel)⟩
theorem mf_X8_init : MF yX8_init cX8_init 1 (none) 0 := ⟨tb1 46 (by decide +kernel) (by decide +kernel), tb1 3 (by decide +kernel) (by decide +kernel), by decide +kernel, by decide +kernel, by decide, by decide +kernel⟩
theorem ii_X8_init : yX8_init.name = "<init>" ∧ Cond.instanceMethod yX8_init ∈ vT := ⟨rfl, tb1 45 (by decide +kernel) (by decide +kernel)⟩
theorem mf_X10_init : MF yX10_init cX10_init 1 (none) 0 := ⟨tb1 104 (by decide +kernel) (by decide +kernel), tb1 4 (by decide +kernel) (by decide +kernel), by decide +kernel, by decide +kernel, by decide, by decide +kernel⟩
theorem ii_X10_init : yX10_init.name = "<init>" ∧ Cond.instanceMethod yX10_init ∈ vT := ⟨rfl, tb1 103 (by decide +kernel) (by decide +kernel)⟩
theorem mf_X9_init : MF yX9_init cX9_init 1 (none) 0 := ⟨tb1 141 (by decide +kernel) (by decide +kernel), tb1 5 (by decide +kernel) (by decide +kernel), by decide +kernel, by decide +kernel, by decide, by decide +kernel⟩
theorem ii_X9_init : yX9_init.name = "<init>" ∧ Cond.instanceMethod yX9_init ∈ vT := ⟨rfl, tb1 140 (by decide +kernel) (by decide +kernel)⟩
theorem mf_X11_road : MF yX11_road cX11_road 5 (some .int) 4 := ⟨tb1 199 (by decide +kernel) (by decide +kernel), tb1 1 (by decide +kernel) (by decide +kernel), by decide +kernel, by decide +kernel, by decide, by decide +kernel⟩
theorem iv_X11_road : Cond.instanceMethod yX11_road ∈ vT ∧ Cond.selects yX11_road.cls yX11_road yX11_road ∈ vT := ⟨tb1 197 (by decide +kernel) (by decide +kernel), tb1 198 (by decide +kernel) (by decide +kernel)⟩
theorem mf_X11_isSpot : MF yX11_isSpot cX11_isSpot 1 (some .boolean) 1 := ⟨tb1 202 (by decide +kernel) (by decide +kernel), tb1 1 (by decide +kernel) (by decide +kernel), by decide +kernel, by decide +kernel, by decide, by decide +kernel⟩
theorem st_X11_isSpot : Cond.static yX11_isSpot ∈ vT := tb1 201 (by decide +kernel) (by decide +kernel)
theorem mf_X11_isWithin : MF yX11_isWithin cX11_isWithin 3 (some .boolean) 3 := ⟨tb1 205 (by decide +kernel) (by decide +kernel), tb1 1 (by decide +kernel) (by decide +kernel), by decide +kernel, by decide +kernel, by decide, by decide +kernel⟩
theorem st_X11_isWithin : Cond.static yX11_isWithin ∈ vT := tb1 204 (by decide +kernel) (by decide +kernel)
theorem mf_X11_newRoad : MF yX11_newRoad cX11_newRoad 4 (some (.object "RegularRally$Road")) 4 := ⟨tb1 208 (by decide +kernel) (by decide +kernel), tb1 1 (by decide +kernel) (by decide +kernel), by decide +kernel, by decide +kernel, by decide, by decide +kernel⟩
theorem st_X11_newRoad : Cond.static yX11_newRoad ∈ vT := tb1 207 (by decide +kernel) (by decide +kernel)
theorem mf_X6_init : MF yX6_init cX6_init 4 (none) 3 := ⟨tb1 213 (by decide +kernel) (by decide +kernel), tb1 8 (by decide +kernel) (by decide +kernel), by decide +kernel, by decide +kernel, by decide, by decide +kernel⟩
theorem ii_X6_init : yX6_init.name = "<init>" ∧ Cond.instanceMethod yX6_init ∈ vT := ⟨rfl, tb1 212 (by decide +kernel) (by decide +kernel)⟩
theorem mf_X7_init : MF yX7_init cX7_init 5 (none) 4 := ⟨tb1 216 (by decide +kernel) (by decide +kernel), tb1 7 (by decide +kernel) (by decide +kernel), by decide +kernel, by decide +kernel, by decide, by decide +kernel⟩
theorem ii_X7_init : yX7_init.name = "<init>" ∧ Cond.instanceMethod yX7_init ∈ vT := ⟨rfl, tb1 215 (by decide +kernel) (by decide +kernel)⟩
theorem mf_X3_init : MF yX3_init cX3_init 4 (none) 3 := ⟨tb2 6 (by decide +kernel) (by decide +kernel), tb1 9 (by decide +kernel) (by decide +kernel), by decide +kernel, by decide +kernel, by decide, by decide +kernel⟩
theorem ii_X3_init : yX3_init.name = "<init>" ∧ Cond.instanceMethod yX3_init ∈ vT := ⟨rfl, tb2 5 (by decide +kernel) (by decide +kernel)⟩
theorem mf_X11_shut : MF yX11_shut cX11_shut 4 (some .int) 2 := ⟨tb2 29 (by decide +kernel) (by decide +kernel), tb1 1 (by decide +kernel) (by decide +kernel), by decide +kernel, by decide +kernel, by decide, by decide +kernel⟩
theorem iv_X11_shut : Cond.instanceMethod yX11_shut ∈ vT ∧ Cond.selects yX11_shut.cls yX11_shut yX11_shut ∈ vT := ⟨tb2 27 (by decide +kernel) (by decide +kernel), tb2 28 (by decide +kernel) (by decide +kernel)⟩
theorem mf_X11_roadOf : MF yX11_roadOf cX11_roadOf 2 (some (.object "RegularRally$Road")) 1 := ⟨tb2 33 (by decide +kernel) (by decide +kernel), tb1 1 (by decide +kernel) (by decide +kernel), by decide +kernel, by decide +kernel, by decide, by decide +kernel⟩
theorem iv_X11_roadOf : Cond.instanceMethod yX11_roadOf ∈ vT ∧ Cond.selects yX11_roadOf.cls yX11_roadOf yX11_roadOf ∈ vT := ⟨tb2 32 (by decide +kernel) (by decide +kernel), tbp 0 (by decide +kernel) (by decide +kernel)⟩
theorem mf_X11_wet : MF yX11_wet cX11_wet 6 (some .int) 2 := ⟨tb2 37 (by decide +kernel) (by decide +kernel), tb1 1 (by decide +kernel) (by decide +kernel), by decide +kernel, by decide +kernel, by decide, by decide +kernel⟩
theorem iv_X11_wet : Cond.instanceMethod yX11_wet ∈ vT ∧ Cond.selects yX11_wet.cls yX11_wet yX11_wet ∈ vT := ⟨tb2 35 (by decide +kernel) (by decide +kernel), tb2 36 (by decide +kernel) (by decide +kernel)⟩
theorem mf_X11_answerOfFault : MF yX11_answerOfFault cX11_answerOfFault 2 (some .int) 1 := ⟨tb2 41 (by decide +kernel) (by decide +kernel), tb1 1 (by decide +kernel) (by decide +kernel), by decide +kernel, by decide +kernel, by decide, by decide +kernel⟩
theorem iv_X11_answerOfFault : Cond.instanceMethod yX11_answerOfFault ∈ vT ∧ Cond.selects yX11_answerOfFault.cls yX11_answerOfFault yX11_answerOfFault ∈ vT := ⟨tb2 40 (by decide +kernel) (by decide +kernel), tbp 1 (by decide +kernel) (by decide +kernel)⟩
theorem mf_X11_about : MF yX11_about cX11_about 4 (some .int) 2 := ⟨tb2 45 (by decide +kernel) (by decide +kernel), tb1 1 (by decide +kernel) (by decide +kernel), by decide +kernel, by decide +kernel, by decide, by decide +kernel⟩
theorem iv_X11_about : Cond.instanceMethod yX11_about ∈ vT ∧ Cond.selects yX11_about.cls yX11_about yX11_about ∈ vT := ⟨tb2 43 (by decide +kernel) (by decide +kernel), tb2 44 (by decide +kernel) (by decide +kernel)⟩
theorem mf_X3_isOpen : MF yX3_isOpen cX3_isOpen 1 (some .boolean) 0 := ⟨tb2 52 (by decide +kernel) (by decide +kernel), tb1 9 (by decide +kernel) (by decide +kernel), by decide +kernel, by decide +kernel, by decide, by decide +kernel⟩
theorem mf_X7_isOpen : MF yX7_isOpen cX7_isOpen 1 (some .boolean) 0 := ⟨tb2 55 (by decide +kernel) (by decide +kernel), tb1 7 (by decide +kernel) (by decide +kernel), by decide +kernel, by decide +kernel, by decide, by decide +kernel⟩
theorem iv_X7_isOpen : Cond.instanceMethod yX7_isOpen ∈ vT ∧ Cond.selects yX7_isOpen.cls yX7_isOpen yX7_isOpen ∈ vT := ⟨tb2 47 (by decide +kernel) (by decide +kernel), tb2 48 (by decide +kernel) (by decide +kernel)⟩
theorem mf_X10_placeOfRoad : MF yX10_placeOfRoad cX10_placeOfRoad 3 (some .int) 1 := ⟨tb2 59 (by decide +kernel) (by decide +kernel), tb1 4 (by decide +kernel) (by decide +kernel), by decide +kernel, by decide +kernel, by decide, by decide +kernel⟩
theorem iv_X10_placeOfRoad : Cond.instanceMethod yX10_placeOfRoad ∈ vT ∧ Cond.selects yX10_placeOfRoad.cls yX10_placeOfRoad yX10_placeOfRoad ∈ vT := ⟨tb2 57 (by decide +kernel) (by decide +kernel), tb2 58 (by decide +kernel) (by decide +kernel)⟩
theorem mf_X11_book : MF yX11_book cX11_book 7 (some .int) 4 := ⟨tb2 63 (by decide +kernel) (by decide +kernel), tb1 1 (by decide +kernel) (by decide +kernel), by decide +kernel, by decide +kernel, by decide, by decide +kernel⟩
theorem iv_X11_book : Cond.instanceMethod yX11_book ∈ vT ∧ Cond.selects yX11_book.cls yX11_book yX11_book ∈ vT := ⟨tb2 61 (by decide +kernel) (by decide +kernel), tb2 62 (by decide +kernel) (by decide +kernel)⟩
theorem mf_X11_sheetOf : MF yX11_sheetOf cX11_sheetOf 2 (some (.object "RegularRally$Sheet")) 1 := ⟨tb2 67 (by decide +kernel) (by decide +kernel), tb1 1 (by decide +kernel) (by decide +kernel), by decide +kernel, by decide +kernel, by decide, by decide +kernel⟩
theorem iv_X11_sheetOf : Cond.instanceMethod yX11_sheetOf ∈ vT ∧ Cond.selects yX11_sheetOf.cls yX11_sheetOf yX11_sheetOf ∈ vT := ⟨tb2 66 (by decide +kernel) (by decide +kernel), tbp 2 (by decide +kernel) (by decide +kernel)⟩
theorem mf_X11_isLane : MF yX11_isLane cX11_isLane 1 (some .boolean) 1 := ⟨tb2 70 (by decide +kernel) (by decide +kernel), tb1 1 (by decide +kernel) (by decide +kernel), by decide +kernel, by decide +kernel, by decide, by decide +kernel⟩
theorem st_X11_isLane : Cond.static yX11_isLane ∈ vT := tb2 69 (by decide +kernel) (by decide +kernel)
theorem mf_X9_faultOfCells : MF yX9_faultOfCells cX9_faultOfCells 4 (some .int) 3 := ⟨tb2 74 (by decide +kernel) (by decide +kernel), tb1 5 (by decide +kernel) (by decide +kernel), by decide +kernel, by decide +kernel, by decide, by decide +kernel⟩
theorem iv_X9_faultOfCells : Cond.instanceMethod yX9_faultOfCells ∈ vT ∧ Cond.selects yX9_faultOfCells.cls yX9_faultOfCells yX9_faultOfCells ∈ vT := ⟨tb2 72 (by decide +kernel) (by decide +kernel), tb2 73 (by decide +kernel) (by decide +kernel)⟩
theorem mf_X9_holds : MF yX9_holds cX9_holds 3 (some .boolean) 2 := ⟨tb2 78 (by decide +kernel) (by decide +kernel), tb1 5 (by decide +kernel) (by decide +kernel), by decide +kernel, by decide +kernel, by decide, by decide +kernel⟩
theorem iv_X9_holds : Cond.instanceMethod yX9_holds ∈ vT ∧ Cond.selects yX9_holds.cls yX9_holds yX9_holds ∈ vT := ⟨tb2 76 (by decide +kernel) (by decide +kernel), tb2 77 (by decide +kernel) (by decide +kernel)⟩
theorem mf_X11_areBookSpots : MF yX11_areBookSpots cX11_areBookSpots 4 (some .boolean) 3 := ⟨tb2 81 (by decide +kernel) (by decide +kernel), tb1 1 (by decide +kernel) (by decide +kernel), by decide +kernel, by decide +kernel, by decide, by decide +kernel⟩
theorem st_X11_areBookSpots : Cond.static yX11_areBookSpots ∈ vT := tb2 80 (by decide +kernel) (by decide +kernel)
theorem mf_X0_become : MF yX0_become cX0_become 5 (none) 3 := ⟨tb2 85 (by decide +kernel) (by decide +kernel), tb1 2 (by decide +kernel) (by decide +kernel), by decide +kernel, by decide +kernel, by decide, by decide +kernel⟩
theorem iv_X0_become : Cond.instanceMethod yX0_become ∈ vT ∧ Cond.selects yX0_become.cls yX0_become yX0_become ∈ vT := ⟨tb2 83 (by decide +kernel) (by decide +kernel), tb2 84 (by decide +kernel) (by decide +kernel)⟩
theorem mf_X11_ways : MF yX11_ways cX11_ways 1 (some .int) 0 := ⟨tb2 89 (by decide +kernel) (by decide +kernel), tb1 1 (by decide +kernel) (by decide +kernel), by decide +kernel, by decide +kernel, by decide, by decide +kernel⟩
theorem iv_X11_ways : Cond.instanceMethod yX11_ways ∈ vT ∧ Cond.selects yX11_ways.cls yX11_ways yX11_ways ∈ vT := ⟨tb2 87 (by decide +kernel) (by decide +kernel), tb2 88 (by decide +kernel) (by decide +kernel)⟩
theorem mf_X11_searchTheMap : MF yX11_searchTheMap cX11_searchTheMap 1 (none) 0 := ⟨tb2 93 (by decide +kernel) (by decide +kernel), tb1 1 (by decide +kernel) (by decide +kernel), by decide +kernel, by decide +kernel, by decide, by decide +kernel⟩
theorem iv_X11_searchTheMap : Cond.instanceMethod yX11_searchTheMap ∈ vT ∧ Cond.selects yX11_searchTheMap.cls yX11_searchTheMap yX11_searchTheMap ∈ vT := ⟨tb2 92 (by decide +kernel) (by decide +kernel), tbp 3 (by decide +kernel) (by decide +kernel)⟩
theorem mf_X8_begin : MF yX8_begin cX8_begin 6 (none) 3 := ⟨tb2 97 (by decide +kernel) (by decide +kernel), tb1 3 (by decide +kernel) (by decide +kernel), by decide +kernel, by decide +kernel, by decide, by decide +kernel⟩
theorem iv_X8_begin : Cond.instanceMethod yX8_begin ∈ vT ∧ Cond.selects yX8_begin.cls yX8_begin yX8_begin ∈ vT := ⟨tb2 95 (by decide +kernel) (by decide +kernel), tb2 96 (by decide +kernel) (by decide +kernel)⟩
theorem mf_X8_addExit : MF yX8_addExit cX8_addExit 6 (none) 3 := ⟨tb2 101 (by decide +kernel) (by decide +kernel), tb1 3 (by decide +kernel) (by decide +kernel), by decide +kernel, by decide +kernel, by decide, by decide +kernel⟩
theorem iv_X8_addExit : Cond.instanceMethod yX8_addExit ∈ vT ∧ Cond.selects yX8_addExit.cls yX8_addExit yX8_addExit ∈ vT := ⟨tb2 100 (by decide +kernel) (by decide +kernel), tbp 4 (by decide +kernel) (by decide +kernel)⟩
theorem mf_X6_endFrom : MF yX6_endFrom cX6_endFrom 2 (some .int) 1 := ⟨tb2 109 (by decide +kernel) (by decide +kernel), tb1 8 (by decide +kernel) (by decide +kernel), by decide +kernel, by decide +kernel, by decide, by decide +kernel⟩
theorem mf_X7_endFrom : MF yX7_endFrom cX7_endFrom 2 (some .int) 1 := ⟨tb2 111 (by decide +kernel) (by decide +kernel), tb1 7 (by decide +kernel) (by decide +kernel), by decide +kernel, by decide +kernel, by decide, by decide +kernel⟩
theorem iv_X7_endFrom : Cond.instanceMethod yX7_endFrom ∈ vT ∧ Cond.selects yX7_endFrom.cls yX7_endFrom yX7_endFrom ∈ vT := ⟨tb2 103 (by decide +kernel) (by decide +kernel), tb2 104 (by decide +kernel) (by decide +kernel)⟩
theorem mf_X11_goOn : MF yX11_goOn cX11_goOn 11 (none) 5 := ⟨tb2 115 (by decide +kernel) (by decide +kernel), tb1 1 (by decide +kernel) (by decide +kernel), by decide +kernel, by decide +kernel, by decide, by decide +kernel⟩
theorem st_X11_goOn : Cond.static yX11_goOn ∈ vT := tb2 114 (by decide +kernel) (by decide +kernel)
theorem mf_X8_isInRow : MF yX8_isInRow cX8_isInRow 2 (some .boolean) 1 := ⟨tb2 119 (by decide +kernel) (by decide +kernel), tb1 3 (by decide +kernel) (by decide +kernel), by decide +kernel, by decide +kernel, by decide, by decide +kernel⟩
theorem iv_X8_isInRow : Cond.instanceMethod yX8_isInRow ∈ vT ∧ Cond.selects yX8_isInRow.cls yX8_isInRow yX8_isInRow ∈ vT := ⟨tb2 117 (by decide +kernel) (by decide +kernel), tb2 118 (by decide +kernel) (by decide +kernel)⟩
theorem mf_X8_isTooLong : MF yX8_isTooLong cX8_isTooLong 2 (some .boolean) 1 := ⟨tb2 123 (by decide +kernel) (by decide +kernel), tb1 3 (by decide +kernel) (by decide +kernel), by decide +kernel, by decide +kernel, by decide, by decide +kernel⟩
theorem iv_X8_isTooLong : Cond.instanceMethod yX8_isTooLong ∈ vT ∧ Cond.selects yX8_isTooLong.cls yX8_isTooLong yX8_isTooLong ∈ vT := ⟨tb2 121 (by decide +kernel) (by decide +kernel), tb2 122 (by decide +kernel) (by decide +kernel)⟩
theorem mf_X0_metAfter : MF yX0_metAfter cX0_metAfter 3 (some .int) 2 := ⟨tb2 128 (by decide +kernel) (by decide +kernel), tb1 2 (by decide +kernel) (by decide +kernel), by decide +kernel, by decide +kernel, by decide, by decide +kernel⟩
theorem iv_X0_metAfter : Cond.instanceMethod yX0_metAfter ∈ vT ∧ Cond.selects yX0_metAfter.cls yX0_metAfter yX0_metAfter ∈ vT := ⟨tb2 126 (by decide +kernel) (by decide +kernel), tb2 127 (by decide +kernel) (by decide +kernel)⟩
theorem mf_X0_isPassed : MF yX0_isPassed cX0_isPassed 3 (some .boolean) 2 := ⟨tb2 132 (by decide +kernel) (by decide +kernel), tb1 2 (by decide +kernel) (by decide +kernel), by decide +kernel, by decide +kernel, by decide, by decide +kernel⟩
theorem iv_X0_isPassed : Cond.instanceMethod yX0_isPassed ∈ vT ∧ Cond.selects yX0_isPassed.cls yX0_isPassed yX0_isPassed ∈ vT := ⟨tb2 130 (by decide +kernel) (by decide +kernel), tb2 131 (by decide +kernel) (by decide +kernel)⟩
theorem mf_X8_found : MF yX8_found cX8_found 4 (none) 2 := ⟨tb2 136 (by decide +kernel) (by decide +kernel), tb1 3 (by decide +kernel) (by decide +kernel), by decide +kernel, by decide +kernel, by decide, by decide +kernel⟩
theorem iv_X8_found : Cond.instanceMethod yX8_found ∈ vT ∧ Cond.selects yX8_found.cls yX8_found yX8_found ∈ vT := ⟨tb2 134 (by decide +kernel) (by decide +kernel), tb2 135 (by decide +kernel) (by decide +kernel)⟩
theorem mf_X11_lay : MF yX11_lay cX11_lay 1 (some .int) 0 := ⟨tb2 140 (by decide +kernel) (by decide +kernel), tb1 1 (by decide +kernel) (by decide +kernel), by decide +kernel, by decide +kernel, by decide, by decide +kernel⟩
theorem iv_X11_lay : Cond.instanceMethod yX11_lay ∈ vT ∧ Cond.selects yX11_lay.cls yX11_lay yX11_lay ∈ vT := ⟨tb2 138 (by decide +kernel) (by decide +kernel), tb2 139 (by decide +kernel) (by decide +kernel)⟩
theorem mf_X11_layTheBest : MF yX11_layTheBest cX11_layTheBest 3 (none) 0 := ⟨tb2 144 (by decide +kernel) (by decide +kernel), tb1 1 (by decide +kernel) (by decide +kernel), by decide +kernel, by decide +kernel, by decide, by decide +kernel⟩
theorem iv_X11_layTheBest : Cond.instanceMethod yX11_layTheBest ∈ vT ∧ Cond.selects yX11_layTheBest.cls yX11_layTheBest yX11_layTheBest ∈ vT := ⟨tb2 143 (by decide +kernel) (by decide +kernel), tbp 5 (by decide +kernel) (by decide +kernel)⟩
theorem mf_X10_begin : MF yX10_begin cX10_begin 1 (none) 0 := ⟨tb2 148 (by decide +kernel) (by decide +kernel), tb1 4 (by decide +kernel) (by decide +kernel), by decide +kernel, by decide +kernel, by decide, by decide +kernel⟩
theorem iv_X10_begin : Cond.instanceMethod yX10_begin ∈ vT ∧ Cond.selects yX10_begin.cls yX10_begin yX10_begin ∈ vT := ⟨tb2 146 (by decide +kernel) (by decide +kernel), tb2 147 (by decide +kernel) (by decide +kernel)⟩
theorem mf_X10_addRoad : MF yX10_addRoad cX10_addRoad 3 (none) 2 := ⟨tb2 152 (by decide +kernel) (by decide +kernel), tb1 4 (by decide +kernel) (by decide +kernel), by decide +kernel, by decide +kernel, by decide, by decide +kernel⟩
theorem iv_X10_addRoad : Cond.instanceMethod yX10_addRoad ∈ vT ∧ Cond.selects yX10_addRoad.cls yX10_addRoad yX10_addRoad ∈ vT := ⟨tb2 150 (by decide +kernel) (by decide +kernel), tb2 151 (by decide +kernel) (by decide +kernel)⟩
theorem mf_X1_forgetTheWay : MF yX1_forgetTheWay cX1_forgetTheWay 2 (none) 0 := ⟨tb2 159 (by decide +kernel) (by decide +kernel), tb1 11 (by decide +kernel) (by decide +kernel), by decide +kernel, by decide +kernel, by decide, by decide +kernel⟩
theorem iv_X1_forgetTheWay : Cond.instanceMethod yX1_forgetTheWay ∈ vT ∧ Cond.selects yX1_forgetTheWay.cls yX1_forgetTheWay yX1_forgetTheWay ∈ vT := ⟨tb2 154 (by decide +kernel) (by decide +kernel), tb2 155 (by decide +kernel) (by decide +kernel)⟩
theorem mf_X11_laid : MF yX11_laid cX11_laid 2 (some .int) 1 := ⟨tb2 163 (by decide +kernel) (by decide +kernel), tb1 1 (by decide +kernel) (by decide +kernel), by decide +kernel, by decide +kernel, by decide, by decide +kernel⟩
theorem iv_X11_laid : Cond.instanceMethod yX11_laid ∈ vT ∧ Cond.selects yX11_laid.cls yX11_laid yX11_laid ∈ vT := ⟨tb2 161 (by decide +kernel) (by decide +kernel), tb2 162 (by decide +kernel) (by decide +kernel)⟩
theorem mf_X11_proof : MF yX11_proof cX11_proof 7 (some .long) 4 := ⟨tb2 167 (by decide +kernel) (by decide +kernel), tb1 1 (by decide +kernel) (by decide +kernel), by decide +kernel, by decide +kernel, by decide, by decide +kernel⟩
theorem iv_X11_proof : Cond.instanceMethod yX11_proof ∈ vT ∧ Cond.selects yX11_proof.cls yX11_proof yX11_proof ∈ vT := ⟨tb2 165 (by decide +kernel) (by decide +kernel), tb2 166 (by decide +kernel) (by decide +kernel)⟩
theorem mf_X11_lostByFault : MF yX11_lostByFault cX11_lostByFault 2 (some .long) 1 := ⟨tb2 172 (by decide +kernel) (by decide +kernel), tb1 1 (by decide +kernel) (by decide +kernel), by decide +kernel, by decide +kernel, by decide, by decide +kernel⟩
theorem iv_X11_lostByFault : Cond.instanceMethod yX11_lostByFault ∈ vT ∧ Cond.selects yX11_lostByFault.cls yX11_lostByFault yX11_lostByFault ∈ vT := ⟨tb2 171 (by decide +kernel) (by decide +kernel), tbp 6 (by decide +kernel) (by decide +kernel)⟩
theorem mf_X11_proofOfRow : MF yX11_proofOfRow cX11_proofOfRow 13 (some .long) 3 := ⟨tb2 176 (by decide +kernel) (by decide +kernel), tb1 1 (by decide +kernel) (by decide +kernel), by decide +kernel, by decide +kernel, by decide, by decide +kernel⟩
theorem iv_X11_proofOfRow : Cond.instanceMethod yX11_proofOfRow ∈ vT ∧ Cond.selects yX11_proofOfRow.cls yX11_proofOfRow yX11_proofOfRow ∈ vT := ⟨tb2 175 (by decide +kernel) (by decide +kernel), tbp 7 (by decide +kernel) (by decide +kernel)⟩
theorem mf_X11_speed : MF yX11_speed cX11_speed 3 (some .int) 2 := ⟨tb2 182 (by decide +kernel) (by decide +kernel), tb1 1 (by decide +kernel) (by decide +kernel), by decide +kernel, by decide +kernel, by decide, by decide +kernel⟩
theorem iv_X11_speed : Cond.instanceMethod yX11_speed ∈ vT ∧ Cond.selects yX11_speed.cls yX11_speed yX11_speed ∈ vT := ⟨tb2 180 (by decide +kernel) (by decide +kernel), tb2 181 (by decide +kernel) (by decide +kernel)⟩
theorem mf_X10_addSpeed : MF yX10_addSpeed cX10_addSpeed 3 (none) 2 := ⟨tb2 186 (by decide +kernel) (by decide +kernel), tb1 4 (by decide +kernel) (by decide +kernel), by decide +kernel, by decide +kernel, by decide, by decide +kernel⟩
theorem iv_X10_addSpeed : Cond.instanceMethod yX10_addSpeed ∈ vT ∧ Cond.selects yX10_addSpeed.cls yX10_addSpeed yX10_addSpeed ∈ vT := ⟨tb2 184 (by decide +kernel) (by decide +kernel), tb2 185 (by decide +kernel) (by decide +kernel)⟩
theorem mf_X11_due : MF yX11_due cX11_due 2 (some .long) 1 := ⟨tb2 190 (by decide +kernel) (by decide +kernel), tb1 1 (by decide +kernel) (by decide +kernel), by decide +kernel, by decide +kernel, by decide, by decide +kernel⟩
theorem iv_X11_due : Cond.instanceMethod yX11_due ∈ vT ∧ Cond.selects yX11_due.cls yX11_due yX11_due ∈ vT := ⟨tb2 188 (by decide +kernel) (by decide +kernel), tb2 189 (by decide +kernel) (by decide +kernel)⟩
theorem mf_X10_hasFirstSpeed : MF yX10_hasFirstSpeed cX10_hasFirstSpeed 1 (some .boolean) 0 := ⟨tb2 194 (by decide +kernel) (by decide +kernel), tb1 4 (by decide +kernel) (by decide +kernel), by decide +kernel, by decide +kernel, by decide, by decide +kernel⟩
theorem iv_X10_hasFirstSpeed : Cond.instanceMethod yX10_hasFirstSpeed ∈ vT ∧ Cond.selects yX10_hasFirstSpeed.cls yX10_hasFirstSpeed yX10_hasFirstSpeed ∈ vT := ⟨tb2 192 (by decide +kernel) (by decide +kernel), tb2 193 (by decide +kernel) (by decide +kernel)⟩
theorem mf_X10_speedFrom : MF yX10_speedFrom cX10_speedFrom 4 (some .int) 1 := ⟨tb2 198 (by decide +kernel) (by decide +kernel), tb1 4 (by decide +kernel) (by decide +kernel), by decide +kernel, by decide +kernel, by decide, by decide +kernel⟩
theorem iv_X10_speedFrom : Cond.instanceMethod yX10_speedFrom ∈ vT ∧ Cond.selects yX10_speedFrom.cls yX10_speedFrom yX10_speedFrom ∈ vT := ⟨tb2 197 (by decide +kernel) (by decide +kernel), tbp 8 (by decide +kernel) (by decide +kernel)⟩
theorem mf_X10_dueAt : MF yX10_dueAt cX10_dueAt 8 (some .long) 1 := ⟨tb2 202 (by decide +kernel) (by decide +kernel), tb1 4 (by decide +kernel) (by decide +kernel), by decide +kernel, by decide +kernel, by decide, by decide +kernel⟩
theorem iv_X10_dueAt : Cond.instanceMethod yX10_dueAt ∈ vT ∧ Cond.selects yX10_dueAt.cls yX10_dueAt yX10_dueAt ∈ vT := ⟨tb2 200 (by decide +kernel) (by decide +kernel), tb2 201 (by decide +kernel) (by decide +kernel)⟩
theorem mf_X10_endOfStretch : MF yX10_endOfStretch cX10_endOfStretch 5 (some .int) 2 := ⟨tb2 206 (by decide +kernel) (by decide +kernel), tb1 4 (by decide +kernel) (by decide +kernel), by decide +kernel, by decide +kernel, by decide, by decide +kernel⟩
theorem iv_X10_endOfStretch : Cond.instanceMethod yX10_endOfStretch ∈ vT ∧ Cond.selects yX10_endOfStretch.cls yX10_endOfStretch yX10_endOfStretch ∈ vT := ⟨tb2 205 (by decide +kernel) (by decide +kernel), tbp 9 (by decide +kernel) (by decide +kernel)⟩
theorem mf_X11_roadAt : MF yX11_roadAt cX11_roadAt 2 (some .int) 1 := ⟨tb2 211 (by decide +kernel) (by decide +kernel), tb1 1 (by decide +kernel) (by decide +kernel), by decide +kernel, by decide +kernel, by decide, by decide +kernel⟩
theorem iv_X11_roadAt : Cond.instanceMethod yX11_roadAt ∈ vT ∧ Cond.selects yX11_roadAt.cls yX11_roadAt yX11_roadAt ∈ vT := ⟨tb2 209 (by decide +kernel) (by decide +kernel), tb2 210 (by decide +kernel) (by decide +kernel)⟩
theorem mf_X10_roadUnder : MF yX10_roadUnder cX10_roadUnder 3 (some .int) 1 := ⟨tb2 215 (by decide +kernel) (by decide +kernel), tb1 4 (by decide +kernel) (by decide +kernel), by decide +kernel, by decide +kernel, by decide, by decide +kernel⟩
theorem iv_X10_roadUnder : Cond.instanceMethod yX10_roadUnder ∈ vT ∧ Cond.selects yX10_roadUnder.cls yX10_roadUnder yX10_roadUnder ∈ vT := ⟨tb2 213 (by decide +kernel) (by decide +kernel), tb2 214 (by decide +kernel) (by decide +kernel)⟩
theorem mf_X11_control : MF yX11_control cX11_control 2 (some .int) 1 := ⟨tb2 219 (by decide +kernel) (by decide +kernel), tb1 1 (by decide +kernel) (by decide +kernel), by decide +kernel, by decide +kernel, by decide, by decide +kernel⟩
theorem iv_X11_control : Cond.instanceMethod yX11_control ∈ vT ∧ Cond.selects yX11_control.cls yX11_control yX11_control ∈ vT := ⟨tb2 217 (by decide +kernel) (by decide +kernel), tb2 218 (by decide +kernel) (by decide +kernel)⟩
theorem mf_X11_isControlAt : MF yX11_isControlAt cX11_isControlAt 3 (some .boolean) 1 := ⟨tb2 223 (by decide +kernel) (by decide +kernel), tb1 1 (by decide +kernel) (by decide +kernel), by decide +kernel, by decide +kernel, by decide, by decide +kernel⟩
theorem iv_X11_isControlAt : Cond.instanceMethod yX11_isControlAt ∈ vT ∧ Cond.selects yX11_isControlAt.cls yX11_isControlAt yX11_isControlAt ∈ vT := ⟨tb2 222 (by decide +kernel) (by decide +kernel), tbp 10 (by decide +kernel) (by decide +kernel)⟩
theorem mf_X2_init : MF yX2_init cX2_init 2 (none) 1 := ⟨tb2 227 (by decide +kernel) (by decide +kernel), tb1 10 (by decide +kernel) (by decide +kernel), by decide +kernel, by decide +kernel, by decide, by decide +kernel⟩
theorem ii_X2_init : yX2_init.name = "<init>" ∧ Cond.instanceMethod yX2_init ∈ vT := ⟨rfl, tb2 226 (by decide +kernel) (by decide +kernel)⟩
theorem mf_X11_watch : MF yX11_watch cX11_watch 7 (some .int) 5 := ⟨tb3 12 (by decide +kernel) (by decide +kernel), tb1 1 (by decide +kernel) (by decide +kernel), by decide +kernel, by decide +kernel, by decide, by decide +kernel⟩
theorem iv_X11_watch : Cond.instanceMethod yX11_watch ∈ vT ∧ Cond.selects yX11_watch.cls yX11_watch yX11_watch ∈ vT := ⟨tb3 10 (by decide +kernel) (by decide +kernel), tb3 11 (by decide +kernel) (by decide +kernel)⟩
theorem mf_X11_controlOf : MF yX11_controlOf cX11_controlOf 2 (some (.object "RegularRally$Control")) 1 := ⟨tb3 16 (by decide +kernel) (by decide +kernel), tb1 1 (by decide +kernel) (by decide +kernel), by decide +kernel, by decide +kernel, by decide, by decide +kernel⟩
theorem iv_X11_controlOf : Cond.instanceMethod yX11_controlOf ∈ vT ∧ Cond.selects yX11_controlOf.cls yX11_controlOf yX11_controlOf ∈ vT := ⟨tb3 15 (by decide +kernel) (by decide +kernel), tbp 11 (by decide +kernel) (by decide +kernel)⟩
theorem mf_X11_isSpanOfTime : MF yX11_isSpanOfTime cX11_isSpanOfTime 2 (some .boolean) 2 := ⟨tb3 19 (by decide +kernel) (by decide +kernel), tb1 1 (by decide +kernel) (by decide +kernel), by decide +kernel, by decide +kernel, by decide, by decide +kernel⟩
theorem st_X11_isSpanOfTime : Cond.static yX11_isSpanOfTime ∈ vT := tb3 18 (by decide +kernel) (by decide +kernel)
theorem mf_X11_isTime : MF yX11_isTime cX11_isTime 1 (some .boolean) 1 := ⟨tb3 22 (by decide +kernel) (by decide +kernel), tb1 1 (by decide +kernel) (by decide +kernel), by decide +kernel, by decide +kernel, by decide, by decide +kernel⟩
theorem st_X11_isTime : Cond.static yX11_isTime ∈ vT := tb3 21 (by decide +kernel) (by decide +kernel)
theorem mf_X2_check : MF yX2_check cX2_check 5 (none) 4 := ⟨tb3 27 (by decide +kernel) (by decide +kernel), tb1 10 (by decide +kernel) (by decide +kernel), by decide +kernel, by decide +kernel, by decide, by decide +kernel⟩
theorem iv_X2_check : Cond.instanceMethod yX2_check ∈ vT ∧ Cond.selects yX2_check.cls yX2_check yX2_check ∈ vT := ⟨tb3 25 (by decide +kernel) (by decide +kernel), tb3 26 (by decide +kernel) (by decide +kernel)⟩
theorem mf_X11_right : MF yX11_right cX11_right 4 (some .long) 2 := ⟨tb3 31 (by decide +kernel) (by decide +kernel), tb1 1 (by decide +kernel) (by decide +kernel), by decide +kernel, by decide +kernel, by decide, by decide +kernel⟩
theorem iv_X11_right : Cond.instanceMethod yX11_right ∈ vT ∧ Cond.selects yX11_right.cls yX11_right yX11_right ∈ vT := ⟨tb3 29 (by decide +kernel) (by decide +kernel), tb3 30 (by decide +kernel) (by decide +kernel)⟩
theorem mf_X2_putRight : MF yX2_putRight cX2_putRight 2 (some .long) 1 := ⟨tb3 35 (by decide +kernel) (by decide +kernel), tb1 10 (by decide +kernel) (by decide +kernel), by decide +kernel, by decide +kernel, by decide, by decide +kernel⟩
theorem iv_X2_putRight : Cond.instanceMethod yX2_putRight ∈ vT ∧ Cond.selects yX2_putRight.cls yX2_putRight yX2_putRight ∈ vT := ⟨tb3 33 (by decide +kernel) (by decide +kernel), tb3 34 (by decide +kernel) (by decide +kernel)⟩
theorem mf_X11_strike : MF yX11_strike cX11_strike 4 (some .int) 2 := ⟨tb3 39 (by decide +kernel) (by decide +kernel), tb1 1 (by decide +kernel) (by decide +kernel), by decide +kernel, by decide +kernel, by decide, by decide +kernel⟩
theorem iv_X11_strike : Cond.instanceMethod yX11_strike ∈ vT ∧ Cond.selects yX11_strike.cls yX11_strike yX11_strike ∈ vT := ⟨tb3 37 (by decide +kernel) (by decide +kernel), tb3 38 (by decide +kernel) (by decide +kernel)⟩
theorem mf_X11_car : MF yX11_car cX11_car 3 (some .int) 2 := ⟨tb3 43 (by decide +kernel) (by decide +kernel), tb1 1 (by decide +kernel) (by decide +kernel), by decide +kernel, by decide +kernel, by decide, by decide +kernel⟩
theorem iv_X11_car : Cond.instanceMethod yX11_car ∈ vT ∧ Cond.selects yX11_car.cls yX11_car yX11_car ∈ vT := ⟨tb3 41 (by decide +kernel) (by decide +kernel), tb3 42 (by decide +kernel) (by decide +kernel)⟩
theorem mf_X11_newCar : MF yX11_newCar cX11_newCar 3 (some (.object "RegularRally$Car")) 3 := ⟨tb3 47 (by decide +kernel) (by decide +kernel), tb1 1 (by decide +kernel) (by decide +kernel), by decide +kernel, by decide +kernel, by decide, by decide +kernel⟩
theorem st_X11_newCar : Cond.static yX11_newCar ∈ vT := tb3 46 (by decide +kernel) (by decide +kernel)
theorem mf_X5_init : MF yX5_init cX5_init 3 (none) 2 := ⟨tb3 52 (by decide +kernel) (by decide +kernel), tb1 12 (by decide +kernel) (by decide +kernel), by decide +kernel, by decide +kernel, by decide, by decide +kernel⟩
theorem ii_X5_init : yX5_init.name = "<init>" ∧ Cond.instanceMethod yX5_init ∈ vT := ⟨rfl, tb3 51 (by decide +kernel) (by decide +kernel)⟩
theorem mf_X1_init : MF yX1_init cX1_init 3 (none) 2 := ⟨tb3 55 (by decide +kernel) (by decide +kernel), tb1 11 (by decide +kernel) (by decide +kernel), by decide +kernel, by decide +kernel, by decide, by decide +kernel⟩
theorem ii_X1_init : yX1_init.name = "<init>" ∧ Cond.instanceMethod yX1_init ∈ vT := ⟨rfl, tb3 54 (by decide +kernel) (by decide +kernel)⟩
theorem mf_X4_init : MF yX4_init cX4_init 3 (none) 2 := ⟨tb3 85 (by decide +kernel) (by decide +kernel), tb1 13 (by decide +kernel) (by decide +kernel), by decide +kernel, by decide +kernel, by decide, by decide +kernel⟩
theorem ii_X4_init : yX4_init.name = "<init>" ∧ Cond.instanceMethod yX4_init ∈ vT := ⟨rfl, tb3 84 (by decide +kernel) (by decide +kernel)⟩
theorem mf_X11_clock : MF yX11_clock cX11_clock 5 (some .int) 3 := ⟨tb3 106 (by decide +kernel) (by decide +kernel), tb1 1 (by decide +kernel) (by decide +kernel), by decide +kernel, by decide +kernel, by decide, by decide +kernel⟩
theorem iv_X11_clock : Cond.instanceMethod yX11_clock ∈ vT ∧ Cond.selects yX11_clock.cls yX11_clock yX11_clock ∈ vT := ⟨tb3 104 (by decide +kernel) (by decide +kernel), tb3 105 (by decide +kernel) (by decide +kernel)⟩
theorem mf_X11_carOf : MF yX11_carOf cX11_carOf 2 (some (.object "RegularRally$Car")) 1 := ⟨tb3 110 (by decide +kernel) (by decide +kernel), tb1 1 (by decide +kernel) (by decide +kernel), by decide +kernel, by decide +kernel, by decide, by decide +kernel⟩
theorem iv_X11_carOf : Cond.instanceMethod yX11_carOf ∈ vT ∧ Cond.selects yX11_carOf.cls yX11_carOf yX11_carOf ∈ vT := ⟨tb3 109 (by decide +kernel) (by decide +kernel), tbp 12 (by decide +kernel) (by decide +kernel)⟩
theorem mf_X1_isClockedAt : MF yX1_isClockedAt cX1_isClockedAt 2 (some .boolean) 1 := ⟨tb3 117 (by decide +kernel) (by decide +kernel), tb1 11 (by decide +kernel) (by decide +kernel), by decide +kernel, by decide +kernel, by decide, by decide +kernel⟩
theorem iv_X1_isClockedAt : Cond.instanceMethod yX1_isClockedAt ∈ vT ∧ Cond.selects yX1_isClockedAt.cls yX1_isClockedAt yX1_isClockedAt ∈ vT := ⟨tb3 112 (by decide +kernel) (by decide +kernel), tb3 113 (by decide +kernel) (by decide +kernel)⟩
theorem mf_X1_arrive : MF yX1_arrive cX1_arrive 3 (none) 2 := ⟨tb3 124 (by decide +kernel) (by decide +kernel), tb1 11 (by decide +kernel) (by decide +kernel), by decide +kernel, by decide +kernel, by decide, by decide +kernel⟩
theorem iv_X1_arrive : Cond.instanceMethod yX1_arrive ∈ vT ∧ Cond.selects yX1_arrive.cls yX1_arrive yX1_arrive ∈ vT := ⟨tb3 119 (by decide +kernel) (by decide +kernel), tb3 120 (by decide +kernel) (by decide +kernel)⟩
theorem mf_X11_allow : MF yX11_allow cX11_allow 6 (some .int) 3 := ⟨tb3 128 (by decide +kernel) (by decide +kernel), tb1 1 (by decide +kernel) (by decide +kernel), by decide +kernel, by decide +kernel, by decide, by decide +kernel⟩
theorem iv_X11_allow : Cond.instanceMethod yX11_allow ∈ vT ∧ Cond.selects yX11_allow.cls yX11_allow yX11_allow ∈ vT := ⟨tb3 126 (by decide +kernel) (by decide +kernel), tb3 127 (by decide +kernel) (by decide +kernel)⟩
theorem mf_X11_error : MF yX11_error cX11_error 4 (some .long) 2 := ⟨tb3 132 (by decide +kernel) (by decide +kernel), tb1 1 (by decide +kernel) (by decide +kernel), by decide +kernel, by decide +kernel, by decide, by decide +kernel⟩
theorem iv_X11_error : Cond.instanceMethod yX11_error ∈ vT ∧ Cond.selects yX11_error.cls yX11_error yX11_error ∈ vT := ⟨tb3 130 (by decide +kernel) (by decide +kernel), tb3 131 (by decide +kernel) (by decide +kernel)⟩
theorem mf_X11_errorOf : MF yX11_errorOf cX11_errorOf 6 (some .long) 2 := ⟨tb3 136 (by decide +kernel) (by decide +kernel), tb1 1 (by decide +kernel) (by decide +kernel), by decide +kernel, by decide +kernel, by decide, by decide +kernel⟩
theorem iv_X11_errorOf : Cond.instanceMethod yX11_errorOf ∈ vT ∧ Cond.selects yX11_errorOf.cls yX11_errorOf yX11_errorOf ∈ vT := ⟨tb3 135 (by decide +kernel) (by decide +kernel), tbp 13 (by decide +kernel) (by decide +kernel)⟩
theorem mf_X11_carriedTo : MF yX11_carriedTo cX11_carriedTo 5 (some .int) 2 := ⟨tb3 140 (by decide +kernel) (by decide +kernel), tb1 1 (by decide +kernel) (by decide +kernel), by decide +kernel, by decide +kernel, by decide, by decide +kernel⟩
theorem iv_X11_carriedTo : Cond.instanceMethod yX11_carriedTo ∈ vT ∧ Cond.selects yX11_carriedTo.cls yX11_carriedTo yX11_carriedTo ∈ vT := ⟨tb3 139 (by decide +kernel) (by decide +kernel), tbp 14 (by decide +kernel) (by decide +kernel)⟩
theorem mf_X11_points : MF yX11_points cX11_points 4 (some .int) 2 := ⟨tb3 150 (by decide +kernel) (by decide +kernel), tb1 1 (by decide +kernel) (by decide +kernel), by decide +kernel, by decide +kernel, by decide, by decide +kernel⟩
theorem iv_X11_points : Cond.instanceMethod yX11_points ∈ vT ∧ Cond.selects yX11_points.cls yX11_points yX11_points ∈ vT := ⟨tb3 148 (by decide +kernel) (by decide +kernel), tb3 149 (by decide +kernel) (by decide +kernel)⟩
theorem mf_X11_pointsOf : MF yX11_pointsOf cX11_pointsOf 3 (some .int) 2 := ⟨tb3 154 (by decide +kernel) (by decide +kernel), tb1 1 (by decide +kernel) (by decide +kernel), by decide +kernel, by decide +kernel, by decide, by decide +kernel⟩
theorem iv_X11_pointsOf : Cond.instanceMethod yX11_pointsOf ∈ vT ∧ Cond.selects yX11_pointsOf.cls yX11_pointsOf yX11_pointsOf ∈ vT := ⟨tb3 153 (by decide +kernel) (by decide +kernel), tbp 15 (by decide +kernel) (by decide +kernel)⟩
theorem mf_X11_isOutOfOrder : MF yX11_isOutOfOrder cX11_isOutOfOrder 4 (some .boolean) 2 := ⟨tb3 158 (by decide +kernel) (by decide +kernel), tb1 1 (by decide +kernel) (by decide +kernel), by decide +kernel, by decide +kernel, by decide, by decide +kernel⟩
theorem iv_X11_isOutOfOrder : Cond.instanceMethod yX11_isOutOfOrder ∈ vT ∧ Cond.selects yX11_isOutOfOrder.cls yX11_isOutOfOrder yX11_isOutOfOrder ∈ vT := ⟨tb3 157 (by decide +kernel) (by decide +kernel), tbp 16 (by decide +kernel) (by decide +kernel)⟩
theorem mf_X11_pointsForError : MF yX11_pointsForError cX11_pointsForError 4 (some .int) 1 := ⟨tb3 161 (by decide +kernel) (by decide +kernel), tb1 1 (by decide +kernel) (by decide +kernel), by decide +kernel, by decide +kernel, by decide, by decide +kernel⟩
theorem st_X11_pointsForError : Cond.static yX11_pointsForError ∈ vT := tb3 160 (by decide +kernel) (by decide +kernel)
theorem mf_X4_share : MF yX4_share cX4_share 2 (some .int) 1 := ⟨tb3 178 (by decide +kernel) (by decide +kernel), tb1 13 (by decide +kernel) (by decide +kernel), by decide +kernel, by decide +kernel, by decide, by decide +kernel⟩
theorem mf_X5_share : MF yX5_share cX5_share 2 (some .int) 1 := ⟨tb3 181 (by decide +kernel) (by decide +kernel), tb1 12 (by decide +kernel) (by decide +kernel), by decide +kernel, by decide +kernel, by decide, by decide +kernel⟩
theorem mf_X1_share : MF yX1_share cX1_share 2 (some .int) 1 := ⟨tb3 184 (by decide +kernel) (by decide +kernel), tb1 11 (by decide +kernel) (by decide +kernel), by decide +kernel, by decide +kernel, by decide, by decide +kernel⟩
theorem iv_X1_share : Cond.instanceMethod yX1_share ∈ vT ∧ Cond.selects yX1_share.cls yX1_share yX1_share ∈ vT := ⟨tb3 173 (by decide +kernel) (by decide +kernel), tb3 174 (by decide +kernel) (by decide +kernel)⟩
theorem mf_X11_result : MF yX11_result cX11_result 4 (some .int) 2 := ⟨tb3 188 (by decide +kernel) (by decide +kernel), tb1 1 (by decide +kernel) (by decide +kernel), by decide +kernel, by decide +kernel, by decide, by decide +kernel⟩
theorem iv_X11_result : Cond.instanceMethod yX11_result ∈ vT ∧ Cond.selects yX11_result.cls yX11_result yX11_result ∈ vT := ⟨tb3 186 (by decide +kernel) (by decide +kernel), tb3 187 (by decide +kernel) (by decide +kernel)⟩
theorem mf_X11_totalOf : MF yX11_totalOf cX11_totalOf 4 (some .int) 1 := ⟨tb3 192 (by decide +kernel) (by decide +kernel), tb1 1 (by decide +kernel) (by decide +kernel), by decide +kernel, by decide +kernel, by decide, by decide +kernel⟩
theorem iv_X11_totalOf : Cond.instanceMethod yX11_totalOf ∈ vT ∧ Cond.selects yX11_totalOf.cls yX11_totalOf yX11_totalOf ∈ vT := ⟨tb3 191 (by decide +kernel) (by decide +kernel), tbp 17 (by decide +kernel) (by decide +kernel)⟩
theorem mf_X11_rankOf : MF yX11_rankOf cX11_rankOf 6 (some .int) 1 := ⟨tb3 196 (by decide +kernel) (by decide +kernel), tb1 1 (by decide +kernel) (by decide +kernel), by decide +kernel, by decide +kernel, by decide, by decide +kernel⟩
theorem iv_X11_rankOf : Cond.instanceMethod yX11_rankOf ∈ vT ∧ Cond.selects yX11_rankOf.cls yX11_rankOf yX11_rankOf ∈ vT := ⟨tb3 195 (by decide +kernel) (by decide +kernel), tbp 18 (by decide +kernel) (by decide +kernel)⟩
theorem mf_X11_isBetterOfTie : MF yX11_isBetterOfTie cX11_isBetterOfTie 8 (some .boolean) 2 := ⟨tb3 200 (by decide +kernel) (by decide +kernel), tb1 1 (by decide +kernel) (by decide +kernel), by decide +kernel, by decide +kernel, by decide, by decide +kernel⟩
theorem iv_X11_isBetterOfTie : Cond.instanceMethod yX11_isBetterOfTie ∈ vT ∧ Cond.selects yX11_isBetterOfTie.cls yX11_isBetterOfTie yX11_isBetterOfTie ∈ vT := ⟨tb3 199 (by decide +kernel) (by decide +kernel), tbp 19 (by decide +kernel) (by decide +kernel)⟩
theorem mf_X11_missedBy : MF yX11_missedBy cX11_missedBy 4 (some .int) 1 := ⟨tb3 204 (by decide +kernel) (by decide +kernel), tb1 1 (by decide +kernel) (by decide +kernel), by decide +kernel, by decide +kernel, by decide, by decide +kernel⟩
theorem iv_X11_missedBy : Cond.instanceMethod yX11_missedBy ∈ vT ∧ Cond.selects yX11_missedBy.cls yX11_missedBy yX11_missedBy ∈ vT := ⟨tb3 203 (by decide +kernel) (by decide +kernel), tbp 20 (by decide +kernel) (by decide +kernel)⟩
theorem mf_X11_outOfOrderBy : MF yX11_outOfOrderBy cX11_outOfOrderBy 4 (some .int) 1 := ⟨tb3 208 (by decide +kernel) (by decide +kernel), tb1 1 (by decide +kernel) (by decide +kernel), by decide +kernel, by decide +kernel, by decide, by decide +kernel⟩
theorem iv_X11_outOfOrderBy : Cond.instanceMethod yX11_outOfOrderBy ∈ vT ∧ Cond.selects yX11_outOfOrderBy.cls yX11_outOfOrderBy yX11_outOfOrderBy ∈ vT := ⟨tb3 207 (by decide +kernel) (by decide +kernel), tbp 21 (by decide +kernel) (by decide +kernel)⟩
theorem mf_X11_sheet : MF yX11_sheet cX11_sheet 5 (some .int) 3 := ⟨tb3 212 (by decide +kernel) (by decide +kernel), tb1 1 (by decide +kernel) (by decide +kernel), by decide +kernel, by decide +kernel, by decide, by decide +kernel⟩
theorem iv_X11_sheet : Cond.instanceMethod yX11_sheet ∈ vT ∧ Cond.selects yX11_sheet.cls yX11_sheet yX11_sheet ∈ vT := ⟨tb3 210 (by decide +kernel) (by decide +kernel), tb3 211 (by decide +kernel) (by decide +kernel)⟩
theorem mf_X9_begin : MF yX9_begin cX9_begin 4 (none) 2 := ⟨tb3 216 (by decide +kernel) (by decide +kernel), tb1 5 (by decide +kernel) (by decide +kernel), by decide +kernel, by decide +kernel, by decide, by decide +kernel⟩
theorem iv_X9_begin : Cond.instanceMethod yX9_begin ∈ vT ∧ Cond.selects yX9_begin.cls yX9_begin yX9_begin ∈ vT := ⟨tb3 214 (by decide +kernel) (by decide +kernel), tb3 215 (by decide +kernel) (by decide +kernel)⟩
theorem mf_X11_lose : MF yX11_lose cX11_lose 3 (some .int) 1 := ⟨tb3 220 (by decide +kernel) (by decide +kernel), tb1 1 (by decide +kernel) (by decide +kernel), by decide +kernel, by decide +kernel, by decide, by decide +kernel⟩
theorem iv_X11_lose : Cond.instanceMethod yX11_lose ∈ vT ∧ Cond.selects yX11_lose.cls yX11_lose yX11_lose ∈ vT := ⟨tb3 218 (by decide +kernel) (by decide +kernel), tb3 219 (by decide +kernel) (by decide +kernel)⟩
theorem mf_X11_put : MF yX11_put cX11_put 6 (some .int) 3 := ⟨tb3 224 (by decide +kernel) (by decide +kernel), tb1 1 (by decide +kernel) (by decide +kernel), by decide +kernel, by decide +kernel, by decide, by decide +kernel⟩
theorem iv_X11_put : Cond.instanceMethod yX11_put ∈ vT ∧ Cond.selects yX11_put.cls yX11_put yX11_put ∈ vT := ⟨tb3 222 (by decide +kernel) (by decide +kernel), tb3 223 (by decide +kernel) (by decide +kernel)⟩
theorem mf_X11_cutToLane : MF yX11_cutToLane cX11_cutToLane 2 (some .int) 2 := ⟨tb3 227 (by decide +kernel) (by decide +kernel), tb1 1 (by decide +kernel) (by decide +kernel), by decide +kernel, by decide +kernel, by decide, by decide +kernel⟩
theorem st_X11_cutToLane : Cond.static yX11_cutToLane ∈ vT := tb3 226 (by decide +kernel) (by decide +kernel)
theorem mf_X11_cell : MF yX11_cell cX11_cell 6 (some .long) 3 := ⟨tb3 231 (by decide +kernel) (by decide +kernel), tb1 1 (by decide +kernel) (by decide +kernel), by decide +kernel, by decide +kernel, by decide, by decide +kernel⟩
theorem iv_X11_cell : Cond.instanceMethod yX11_cell ∈ vT ∧ Cond.selects yX11_cell.cls yX11_cell yX11_cell ∈ vT := ⟨tb3 229 (by decide +kernel) (by decide +kernel), tb3 230 (by decide +kernel) (by decide +kernel)⟩
theorem mf_X11_copy : MF yX11_copy cX11_copy 8 (some .int) 5 := ⟨tb3 235 (by decide +kernel) (by decide +kernel), tb1 1 (by decide +kernel) (by decide +kernel), by decide +kernel, by decide +kernel, by decide, by decide +kernel⟩
theorem iv_X11_copy : Cond.instanceMethod yX11_copy ∈ vT ∧ Cond.selects yX11_copy.cls yX11_copy yX11_copy ∈ vT := ⟨tb3 233 (by decide +kernel) (by decide +kernel), tb3 234 (by decide +kernel) (by decide +kernel)⟩
theorem mf_X11_tell : MF yX11_tell cX11_tell 3 (some .int) 1 := ⟨tb4 3 (by decide +kernel) (by decide +kernel), tb1 1 (by decide +kernel) (by decide +kernel), by decide +kernel, by decide +kernel, by decide, by decide +kernel⟩
theorem iv_X11_tell : Cond.instanceMethod yX11_tell ∈ vT ∧ Cond.selects yX11_tell.cls yX11_tell yX11_tell ∈ vT := ⟨tb4 1 (by decide +kernel) (by decide +kernel), tb4 2 (by decide +kernel) (by decide +kernel)⟩
theorem mf_X3_telling : MF yX3_telling cX3_telling 3 (some .int) 1 := ⟨tb4 10 (by decide +kernel) (by decide +kernel), tb1 9 (by decide +kernel) (by decide +kernel), by decide +kernel, by decide +kernel, by decide, by decide +kernel⟩
theorem mf_X11_leaveNumber : MF yX11_leaveNumber cX11_leaveNumber 2 (none) 1 := ⟨tb4 14 (by decide +kernel) (by decide +kernel), tb1 1 (by decide +kernel) (by decide +kernel), by decide +kernel, by decide +kernel, by decide, by decide +kernel⟩
theorem iv_X11_leaveNumber : Cond.instanceMethod yX11_leaveNumber ∈ vT ∧ Cond.selects yX11_leaveNumber.cls yX11_leaveNumber yX11_leaveNumber ∈ vT := ⟨tb4 13 (by decide +kernel) (by decide +kernel), tbp 22 (by decide +kernel) (by decide +kernel)⟩
theorem mf_X6_telling : MF yX6_telling cX6_telling 2 (some .int) 1 := ⟨tb4 18 (by decide +kernel) (by decide +kernel), tb1 8 (by decide +kernel) (by decide +kernel), by decide +kernel, by decide +kernel, by decide, by decide +kernel⟩
theorem mf_X7_telling : MF yX7_telling cX7_telling 2 (some .int) 1 := ⟨tb4 21 (by decide +kernel) (by decide +kernel), tb1 7 (by decide +kernel) (by decide +kernel), by decide +kernel, by decide +kernel, by decide, by decide +kernel⟩
theorem iv_X7_telling : Cond.instanceMethod yX7_telling ∈ vT ∧ Cond.selects yX7_telling.cls yX7_telling yX7_telling ∈ vT := ⟨tb4 5 (by decide +kernel) (by decide +kernel), tb4 6 (by decide +kernel) (by decide +kernel)⟩
theorem mf_X11_greet : MF yX11_greet cX11_greet 3 (some .int) 1 := ⟨tb4 26 (by decide +kernel) (by decide +kernel), tb1 1 (by decide +kernel) (by decide +kernel), by decide +kernel, by decide +kernel, by decide, by decide +kernel⟩
theorem iv_X11_greet : Cond.instanceMethod yX11_greet ∈ vT ∧ Cond.selects yX11_greet.cls yX11_greet yX11_greet ∈ vT := ⟨tb4 24 (by decide +kernel) (by decide +kernel), tb4 25 (by decide +kernel) (by decide +kernel)⟩
theorem mf_X4_greeting : MF yX4_greeting cX4_greeting 2 (some .int) 1 := ⟨tb4 33 (by decide +kernel) (by decide +kernel), tb1 13 (by decide +kernel) (by decide +kernel), by decide +kernel, by decide +kernel, by decide, by decide +kernel⟩
theorem mf_X5_greeting : MF yX5_greeting cX5_greeting 2 (some .int) 1 := ⟨tb4 37 (by decide +kernel) (by decide +kernel), tb1 12 (by decide +kernel) (by decide +kernel), by decide +kernel, by decide +kernel, by decide, by decide +kernel⟩
theorem mf_X1_greeting : MF yX1_greeting cX1_greeting 2 (some .int) 1 := ⟨tb4 40 (by decide +kernel) (by decide +kernel), tb1 11 (by decide +kernel) (by decide +kernel), by decide +kernel, by decide +kernel, by decide, by decide +kernel⟩
theorem iv_X1_greeting : Cond.instanceMethod yX1_greeting ∈ vT ∧ Cond.selects yX1_greeting.cls yX1_greeting yX1_greeting ∈ vT := ⟨tb4 28 (by decide +kernel) (by decide +kernel), tb4 29 (by decide +kernel) (by decide +kernel)⟩
theorem mf_X11_as : MF yX11_as cX11_as 4 (some .int) 2 := ⟨tb4 45 (by decide +kernel) (by decide +kernel), tb1 1 (by decide +kernel) (by decide +kernel), by decide +kernel, by decide +kernel, by decide, by decide +kernel⟩
theorem iv_X11_as : Cond.instanceMethod yX11_as ∈ vT ∧ Cond.selects yX11_as.cls yX11_as yX11_as ∈ vT := ⟨tb4 43 (by decide +kernel) (by decide +kernel), tb4 44 (by decide +kernel) (by decide +kernel)⟩
theorem mf_X11_isOfClass : MF yX11_isOfClass cX11_isOfClass 2 (some .boolean) 2 := ⟨tb4 48 (by decide +kernel) (by decide +kernel), tb1 1 (by decide +kernel) (by decide +kernel), by decide +kernel, by decide +kernel, by decide, by decide +kernel⟩
theorem st_X11_isOfClass : Cond.static yX11_isOfClass ∈ vT := tb4 47 (by decide +kernel) (by decide +kernel)
theorem mf_X11_trace : MF yX11_trace cX11_trace 1 (some .int) 0 := ⟨tb4 52 (by decide +kernel) (by decide +kernel), tb1 1 (by decide +kernel) (by decide +kernel), by decide +kernel, by decide +kernel, by decide, by decide +kernel⟩
theorem iv_X11_trace : Cond.instanceMethod yX11_trace ∈ vT ∧ Cond.selects yX11_trace.cls yX11_trace yX11_trace ∈ vT := ⟨tb4 50 (by decide +kernel) (by decide +kernel), tb4 51 (by decide +kernel) (by decide +kernel)⟩
theorem mf_X11_fault : MF yX11_fault cX11_fault 1 (some .int) 0 := ⟨tb4 56 (by decide +kernel) (by decide +kernel), tb1 1 (by decide +kernel) (by decide +kernel), by decide +kernel, by decide +kernel, by decide, by decide +kernel⟩
theorem iv_X11_fault : Cond.instanceMethod yX11_fault ∈ vT ∧ Cond.selects yX11_fault.cls yX11_fault yX11_fault ∈ vT := ⟨tb4 54 (by decide +kernel) (by decide +kernel), tb4 55 (by decide +kernel) (by decide +kernel)⟩
theorem mf_X11_told : MF yX11_told cX11_told 2 (some .int) 1 := ⟨tb4 60 (by decide +kernel) (by decide +kernel), tb1 1 (by decide +kernel) (by decide +kernel), by decide +kernel, by decide +kernel, by decide, by decide +kernel⟩
theorem iv_X11_told : Cond.instanceMethod yX11_told ∈ vT ∧ Cond.selects yX11_told.cls yX11_told yX11_told ∈ vT := ⟨tb4 58 (by decide +kernel) (by decide +kernel), tb4 59 (by decide +kernel) (by decide +kernel)⟩
theorem mf_X12_init : MF yX12_init cX12_init 2 (none) 0 := ⟨tb4 65 (by decide +kernel) (by decide +kernel), tb1 6 (by decide +kernel) (by decide +kernel), by decide +kernel, by decide +kernel, by decide, by decide +kernel⟩
theorem ii_X12_init : yX12_init.name = "<init>" ∧ Cond.instanceMethod yX12_init ∈ vT := ⟨rfl, tb4 64 (by decide +kernel) (by decide +kernel)⟩
theorem mf_X12_road : MF yX12_road cX12_road 5 (some .int) 4 := ⟨tb4 201 (by decide +kernel) (by decide +kernel), tb1 6 (by decide +kernel) (by decide +kernel), by decide +kernel, by decide +kernel, by decide, by decide +kernel⟩
theorem iv_X12_road : Cond.instanceMethod yX12_road ∈ vT ∧ Cond.selects yX12_road.cls yX12_road yX12_road ∈ vT := ⟨tb4 199 (by decide +kernel) (by decide +kernel), tb4 200 (by decide +kernel) (by decide +kernel)⟩
theorem mf_X12_isSpot : MF yX12_isSpot cX12_isSpot 1 (some .boolean) 1 := ⟨tb4 204 (by decide +kernel) (by decide +kernel), tb1 6 (by decide +kernel) (by decide +kernel), by decide +kernel, by decide +kernel, by decide, by decide +kernel⟩
theorem st_X12_isSpot : Cond.static yX12_isSpot ∈ vT := tb4 203 (by decide +kernel) (by decide +kernel)
theorem mf_X12_in : MF yX12_in cX12_in 6 (some .boolean) 3 := ⟨tb4 208 (by decide +kernel) (by decide +kernel), tb1 6 (by decide +kernel) (by decide +kernel), by decide +kernel, by decide +kernel, by decide, by decide +kernel⟩
theorem st_X12_in : Cond.static yX12_in ∈ vT := tb4 207 (by decide +kernel) (by decide +kernel)
theorem mf_X12_shut : MF yX12_shut cX12_shut 4 (some .int) 2 := ⟨tb4 214 (by decide +kernel) (by decide +kernel), tb1 6 (by decide +kernel) (by decide +kernel), by decide +kernel, by decide +kernel, by decide, by decide +kernel⟩
theorem iv_X12_shut : Cond.instanceMethod yX12_shut ∈ vT ∧ Cond.selects yX12_shut.cls yX12_shut yX12_shut ∈ vT := ⟨tb4 212 (by decide +kernel) (by decide +kernel), tb4 213 (by decide +kernel) (by decide +kernel)⟩
theorem mf_X12_noRoad : MF yX12_noRoad cX12_noRoad 2 (some .boolean) 1 := ⟨tb4 218 (by decide +kernel) (by decide +kernel), tb1 6 (by decide +kernel) (by decide +kernel), by decide +kernel, by decide +kernel, by decide, by decide +kernel⟩
theorem iv_X12_noRoad : Cond.instanceMethod yX12_noRoad ∈ vT ∧ Cond.selects yX12_noRoad.cls yX12_noRoad yX12_noRoad ∈ vT := ⟨tb4 217 (by decide +kernel) (by decide +kernel), tbp 23 (by decide +kernel) (by decide +kernel)⟩
theorem mf_X12_wet : MF yX12_wet cX12_wet 4 (some .int) 2 := ⟨tb4 222 (by decide +kernel) (by decide +kernel), tb1 6 (by decide +kernel) (by decide +kernel), by decide +kernel, by decide +kernel, by decide, by decide +kernel⟩
theorem iv_X12_wet : Cond.instanceMethod yX12_wet ∈ vT ∧ Cond.selects yX12_wet.cls yX12_wet yX12_wet ∈ vT := ⟨tb4 220 (by decide +kernel) (by decide +kernel), tb4 221 (by decide +kernel) (by decide +kernel)⟩
theorem mf_X12_refused : MF yX12_refused cX12_refused 2 (some .int) 1 := ⟨tb4 226 (by decide +kernel) (by decide +kernel), tb1 6 (by decide +kernel) (by decide +kernel), by decide +kernel, by decide +kernel, by decide, by decide +kernel⟩
theorem iv_X12_refused : Cond.instanceMethod yX12_refused ∈ vT ∧ Cond.selects yX12_refused.cls yX12_refused yX12_refused ∈ vT := ⟨tb4 225 (by decide +kernel) (by decide +kernel), tbp 24 (by decide +kernel) (by decide +kernel)⟩
theorem mf_X12_failed : MF yX12_failed cX12_failed 2 (some .int) 1 := ⟨tb4 230 (by decide +kernel) (by decide +kernel), tb1 6 (by decide +kernel) (by decide +kernel), by decide +kernel, by decide +kernel, by decide, by decide +kernel⟩
theorem iv_X12_failed : Cond.instanceMethod yX12_failed ∈ vT ∧ Cond.selects yX12_failed.cls yX12_failed yX12_failed ∈ vT := ⟨tb4 229 (by decide +kernel) (by decide +kernel), tbp 25 (by decide +kernel) (by decide +kernel)⟩
theorem mf_X12_about : MF yX12_about cX12_about 4 (some .int) 2 := ⟨tb4 234 (by decide +kernel) (by decide +kernel), tb1 6 (by decide +kernel) (by decide +kernel), by decide +kernel, by decide +kernel, by decide, by decide +kernel⟩
theorem iv_X12_about : Cond.instanceMethod yX12_about ∈ vT ∧ Cond.selects yX12_about.cls yX12_about yX12_about ∈ vT := ⟨tb4 232 (by decide +kernel) (by decide +kernel), tb4 233 (by decide +kernel) (by decide +kernel)⟩
theorem mf_X12_sheet : MF yX12_sheet cX12_sheet 5 (some .int) 3 := ⟨tb4 238 (by decide +kernel) (by decide +kernel), tb1 6 (by decide +kernel) (by decide +kernel), by decide +kernel, by decide +kernel, by decide, by decide +kernel⟩
theorem iv_X12_sheet : Cond.instanceMethod yX12_sheet ∈ vT ∧ Cond.selects yX12_sheet.cls yX12_sheet yX12_sheet ∈ vT := ⟨tb4 236 (by decide +kernel) (by decide +kernel), tb4 237 (by decide +kernel) (by decide +kernel)⟩
theorem mf_X12_noSheet : MF yX12_noSheet cX12_noSheet 1 (some .boolean) 1 := ⟨tb5 1 (by decide +kernel) (by decide +kernel), tb1 6 (by decide +kernel) (by decide +kernel), by decide +kernel, by decide +kernel, by decide, by decide +kernel⟩
theorem st_X12_noSheet : Cond.static yX12_noSheet ∈ vT := tb5 0 (by decide +kernel) (by decide +kernel)
theorem mf_X12_lose : MF yX12_lose cX12_lose 3 (some .int) 1 := ⟨tb5 6 (by decide +kernel) (by decide +kernel), tb1 6 (by decide +kernel) (by decide +kernel), by decide +kernel, by decide +kernel, by decide, by decide +kernel⟩
theorem iv_X12_lose : Cond.instanceMethod yX12_lose ∈ vT ∧ Cond.selects yX12_lose.cls yX12_lose yX12_lose ∈ vT := ⟨tb5 4 (by decide +kernel) (by decide +kernel), tb5 5 (by decide +kernel) (by decide +kernel)⟩
theorem mf_X12_put : MF yX12_put cX12_put 4 (some .int) 3 := ⟨tb5 10 (by decide +kernel) (by decide +kernel), tb1 6 (by decide +kernel) (by decide +kernel), by decide +kernel, by decide +kernel, by decide, by decide +kernel⟩
theorem iv_X12_put : Cond.instanceMethod yX12_put ∈ vT ∧ Cond.selects yX12_put.cls yX12_put yX12_put ∈ vT := ⟨tb5 8 (by decide +kernel) (by decide +kernel), tb5 9 (by decide +kernel) (by decide +kernel)⟩
theorem mf_X12_noCell : MF yX12_noCell cX12_noCell 3 (some .int) 2 := ⟨tb5 14 (by decide +kernel) (by decide +kernel), tb1 6 (by decide +kernel) (by decide +kernel), by decide +kernel, by decide +kernel, by decide, by decide +kernel⟩
theorem iv_X12_noCell : Cond.instanceMethod yX12_noCell ∈ vT ∧ Cond.selects yX12_noCell.cls yX12_noCell yX12_noCell ∈ vT := ⟨tb5 13 (by decide +kernel) (by decide +kernel), tbp 26 (by decide +kernel) (by decide +kernel)⟩
theorem mf_X12_cell : MF yX12_cell cX12_cell 4 (some .long) 3 := ⟨tb5 18 (by decide +kernel) (by decide +kernel), tb1 6 (by decide +kernel) (by decide +kernel), by decide +kernel, by decide +kernel, by decide, by decide +kernel⟩
theorem iv_X12_cell : Cond.instanceMethod yX12_cell ∈ vT ∧ Cond.selects yX12_cell.cls yX12_cell yX12_cell ∈ vT := ⟨tb5 16 (by decide +kernel) (by decide +kernel), tb5 17 (by decide +kernel) (by decide +kernel)⟩
theorem mf_X12_lost : MF yX12_lost cX12_lost 0 (some .long) 0 := ⟨tb5 21 (by decide +kernel) (by decide +kernel), tb1 6 (by decide +kernel) (by decide +kernel), by decide +kernel, by decide +kernel, by decide, by decide +kernel⟩
theorem st_X12_lost : Cond.static yX12_lost ∈ vT := tb5 20 (by decide +kernel) (by decide +kernel)
theorem mf_X12_failedLong : MF yX12_failedLong cX12_failedLong 2 (some .long) 1 := ⟨tb5 26 (by decide +kernel) (by decide +kernel), tb1 6 (by decide +kernel) (by decide +kernel), by decide +kernel, by decide +kernel, by decide, by decide +kernel⟩
theorem iv_X12_failedLong : Cond.instanceMethod yX12_failedLong ∈ vT ∧ Cond.selects yX12_failedLong.cls yX12_failedLong yX12_failedLong ∈ vT := ⟨tb5 25 (by decide +kernel) (by decide +kernel), tbp 27 (by decide +kernel) (by decide +kernel)⟩
theorem mf_X12_copy : MF yX12_copy cX12_copy 7 (some .int) 5 := ⟨tb5 30 (by decide +kernel) (by decide +kernel), tb1 6 (by decide +kernel) (by decide +kernel), by decide +kernel, by decide +kernel, by decide, by decide +kernel⟩
theorem iv_X12_copy : Cond.instanceMethod yX12_copy ∈ vT ∧ Cond.selects yX12_copy.cls yX12_copy yX12_copy ∈ vT := ⟨tb5 28 (by decide +kernel) (by decide +kernel), tb5 29 (by decide +kernel) (by decide +kernel)⟩
theorem mf_X12_isBeyond : MF yX12_isBeyond cX12_isBeyond 3 (some .boolean) 3 := ⟨tb5 33 (by decide +kernel) (by decide +kernel), tb1 6 (by decide +kernel) (by decide +kernel), by decide +kernel, by decide +kernel, by decide, by decide +kernel⟩
theorem st_X12_isBeyond : Cond.static yX12_isBeyond ∈ vT := tb5 32 (by decide +kernel) (by decide +kernel)
theorem mf_X12_book : MF yX12_book cX12_book 7 (some .int) 4 := ⟨tb5 37 (by decide +kernel) (by decide +kernel), tb1 6 (by decide +kernel) (by decide +kernel), by decide +kernel, by decide +kernel, by decide, by decide +kernel⟩
theorem iv_X12_book : Cond.instanceMethod yX12_book ∈ vT ∧ Cond.selects yX12_book.cls yX12_book yX12_book ∈ vT := ⟨tb5 35 (by decide +kernel) (by decide +kernel), tb5 36 (by decide +kernel) (by decide +kernel)⟩
theorem mf_X12_faultOf : MF yX12_faultOf cX12_faultOf 5 (some .int) 4 := ⟨tb5 41 (by decide +kernel) (by decide +kernel), tb1 6 (by decide +kernel) (by decide +kernel), by decide +kernel, by decide +kernel, by decide, by decide +kernel⟩
theorem iv_X12_faultOf : Cond.instanceMethod yX12_faultOf ∈ vT ∧ Cond.selects yX12_faultOf.cls yX12_faultOf yX12_faultOf ∈ vT := ⟨tb5 40 (by decide +kernel) (by decide +kernel), tbp 28 (by decide +kernel) (by decide +kernel)⟩
theorem mf_X12_isBook : MF yX12_isBook cX12_isBook 7 (some .boolean) 3 := ⟨tb5 45 (by decide +kernel) (by decide +kernel), tb1 6 (by decide +kernel) (by decide +kernel), by decide +kernel, by decide +kernel, by decide, by decide +kernel⟩
theorem iv_X12_isBook : Cond.instanceMethod yX12_isBook ∈ vT ∧ Cond.selects yX12_isBook.cls yX12_isBook yX12_isBook ∈ vT := ⟨tb5 44 (by decide +kernel) (by decide +kernel), tbp 29 (by decide +kernel) (by decide +kernel)⟩
theorem mf_X12_ways : MF yX12_ways cX12_ways 1 (some .int) 0 := ⟨tb5 50 (by decide +kernel) (by decide +kernel), tb1 6 (by decide +kernel) (by decide +kernel), by decide +kernel, by decide +kernel, by decide, by decide +kernel⟩
theorem iv_X12_ways : Cond.instanceMethod yX12_ways ∈ vT ∧ Cond.selects yX12_ways.cls yX12_ways yX12_ways ∈ vT := ⟨tb5 48 (by decide +kernel) (by decide +kernel), tb5 49 (by decide +kernel) (by decide +kernel)⟩
theorem mf_X12_search : MF yX12_search cX12_search 3 (some .boolean) 0 := ⟨tb5 54 (by decide +kernel) (by decide +kernel), tb1 6 (by decide +kernel) (by decide +kernel), by decide +kernel, by decide +kernel, by decide, by decide +kernel⟩
theorem iv_X12_search : Cond.instanceMethod yX12_search ∈ vT ∧ Cond.selects yX12_search.cls yX12_search yX12_search ∈ vT := ⟨tb5 53 (by decide +kernel) (by decide +kernel), tbp 30 (by decide +kernel) (by decide +kernel)⟩
theorem mf_X12_isIn : MF yX12_isIn cX12_isIn 4 (some .boolean) 1 := ⟨tb5 58 (by decide +kernel) (by decide +kernel), tb1 6 (by decide +kernel) (by decide +kernel), by decide +kernel, by decide +kernel, by decide, by decide +kernel⟩
theorem iv_X12_isIn : Cond.instanceMethod yX12_isIn ∈ vT ∧ Cond.selects yX12_isIn.cls yX12_isIn yX12_isIn ∈ vT := ⟨tb5 57 (by decide +kernel) (by decide +kernel), tbp 31 (by decide +kernel) (by decide +kernel)⟩
theorem mf_X12_leads : MF yX12_leads cX12_leads 3 (some .int) 2 := ⟨tb5 62 (by decide +kernel) (by decide +kernel), tb1 6 (by decide +kernel) (by decide +kernel), by decide +kernel, by decide +kernel, by decide, by decide +kernel⟩
theorem iv_X12_leads : Cond.instanceMethod yX12_leads ∈ vT ∧ Cond.selects yX12_leads.cls yX12_leads yX12_leads ∈ vT := ⟨tb5 61 (by decide +kernel) (by decide +kernel), tbp 32 (by decide +kernel) (by decide +kernel)⟩
theorem mf_X12_judge : MF yX12_judge cX12_judge 2 (none) 0 := ⟨tb5 67 (by decide +kernel) (by decide +kernel), tb1 6 (by decide +kernel) (by decide +kernel), by decide +kernel, by decide +kernel, by decide, by decide +kernel⟩
theorem iv_X12_judge : Cond.instanceMethod yX12_judge ∈ vT ∧ Cond.selects yX12_judge.cls yX12_judge yX12_judge ∈ vT := ⟨tb5 66 (by decide +kernel) (by decide +kernel), tbp 33 (by decide +kernel) (by decide +kernel)⟩
theorem mf_X12_lay : MF yX12_lay cX12_lay 2 (some .int) 0 := ⟨tb5 71 (by decide +kernel) (by decide +kernel), tb1 6 (by decide +kernel) (by decide +kernel), by decide +kernel, by decide +kernel, by decide, by decide +kernel⟩
theorem iv_X12_lay : Cond.instanceMethod yX12_lay ∈ vT ∧ Cond.selects yX12_lay.cls yX12_lay yX12_lay ∈ vT := ⟨tb5 69 (by decide +kernel) (by decide +kernel), tb5 70 (by decide +kernel) (by decide +kernel)⟩
theorem mf_X12_laid : MF yX12_laid cX12_laid 2 (some .int) 1 := ⟨tb5 75 (by decide +kernel) (by decide +kernel), tb1 6 (by decide +kernel) (by decide +kernel), by decide +kernel, by decide +kernel, by decide, by decide +kernel⟩
theorem iv_X12_laid : Cond.instanceMethod yX12_laid ∈ vT ∧ Cond.selects yX12_laid.cls yX12_laid yX12_laid ∈ vT := ⟨tb5 73 (by decide +kernel) (by decide +kernel), tb5 74 (by decide +kernel) (by decide +kernel)⟩
theorem mf_X12_proof : MF yX12_proof cX12_proof 6 (some .long) 4 := ⟨tb5 79 (by decide +kernel) (by decide +kernel), tb1 6 (by decide +kernel) (by decide +kernel), by decide +kernel, by decide +kernel, by decide, by decide +kernel⟩
theorem iv_X12_proof : Cond.instanceMethod yX12_proof ∈ vT ∧ Cond.selects yX12_proof.cls yX12_proof yX12_proof ∈ vT := ⟨tb5 77 (by decide +kernel) (by decide +kernel), tb5 78 (by decide +kernel) (by decide +kernel)⟩
theorem mf_X12_proved : MF yX12_proved cX12_proved 11 (some .long) 3 := ⟨tb5 83 (by decide +kernel) (by decide +kernel), tb1 6 (by decide +kernel) (by decide +kernel), by decide +kernel, by decide +kernel, by decide, by decide +kernel⟩
theorem iv_X12_proved : Cond.instanceMethod yX12_proved ∈ vT ∧ Cond.selects yX12_proved.cls yX12_proved yX12_proved ∈ vT := ⟨tb5 82 (by decide +kernel) (by decide +kernel), tbp 34 (by decide +kernel) (by decide +kernel)⟩
theorem mf_X12_wasAhead : MF yX12_wasAhead cX12_wasAhead 6 (some .boolean) 3 := ⟨tb5 87 (by decide +kernel) (by decide +kernel), tb1 6 (by decide +kernel) (by decide +kernel), by decide +kernel, by decide +kernel, by decide, by decide +kernel⟩
theorem iv_X12_wasAhead : Cond.instanceMethod yX12_wasAhead ∈ vT ∧ Cond.selects yX12_wasAhead.cls yX12_wasAhead yX12_wasAhead ∈ vT := ⟨tb5 86 (by decide +kernel) (by decide +kernel), tbp 35 (by decide +kernel) (by decide +kernel)⟩
theorem mf_X12_speed : MF yX12_speed cX12_speed 3 (some .int) 2 := ⟨tb5 93 (by decide +kernel) (by decide +kernel), tb1 6 (by decide +kernel) (by decide +kernel), by decide +kernel, by decide +kernel, by decide, by decide +kernel⟩
theorem iv_X12_speed : Cond.instanceMethod yX12_speed ∈ vT ∧ Cond.selects yX12_speed.cls yX12_speed yX12_speed ∈ vT := ⟨tb5 91 (by decide +kernel) (by decide +kernel), tb5 92 (by decide +kernel) (by decide +kernel)⟩
theorem mf_X12_due : MF yX12_due cX12_due 2 (some .long) 1 := ⟨tb5 98 (by decide +kernel) (by decide +kernel), tb1 6 (by decide +kernel) (by decide +kernel), by decide +kernel, by decide +kernel, by decide, by decide +kernel⟩
theorem iv_X12_due : Cond.instanceMethod yX12_due ∈ vT ∧ Cond.selects yX12_due.cls yX12_due yX12_due ∈ vT := ⟨tb5 96 (by decide +kernel) (by decide +kernel), tb5 97 (by decide +kernel) (by decide +kernel)⟩
theorem mf_X12_hasDue : MF yX12_hasDue cX12_hasDue 3 (some .boolean) 0 := ⟨tb5 102 (by decide +kernel) (by decide +kernel), tb1 6 (by decide +kernel) (by decide +kernel), by decide +kernel, by decide +kernel, by decide, by decide +kernel⟩
theorem iv_X12_hasDue : Cond.instanceMethod yX12_hasDue ∈ vT ∧ Cond.selects yX12_hasDue.cls yX12_hasDue yX12_hasDue ∈ vT := ⟨tb5 101 (by decide +kernel) (by decide +kernel), tbp 36 (by decide +kernel) (by decide +kernel)⟩
theorem mf_X12_dueAt : MF yX12_dueAt cX12_dueAt 8 (some .long) 1 := ⟨tb5 106 (by decide +kernel) (by decide +kernel), tb1 6 (by decide +kernel) (by decide +kernel), by decide +kernel, by decide +kernel, by decide, by decide +kernel⟩
theorem iv_X12_dueAt : Cond.instanceMethod yX12_dueAt ∈ vT ∧ Cond.selects yX12_dueAt.cls yX12_dueAt yX12_dueAt ∈ vT := ⟨tb5 105 (by decide +kernel) (by decide +kernel), tbp 37 (by decide +kernel) (by decide +kernel)⟩
theorem mf_X12_roadAt : MF yX12_roadAt cX12_roadAt 4 (some .int) 1 := ⟨tb5 111 (by decide +kernel) (by decide +kernel), tb1 6 (by decide +kernel) (by decide +kernel), by decide +kernel, by decide +kernel, by decide, by decide +kernel⟩
theorem iv_X12_roadAt : Cond.instanceMethod yX12_roadAt ∈ vT ∧ Cond.selects yX12_roadAt.cls yX12_roadAt yX12_roadAt ∈ vT := ⟨tb5 109 (by decide +kernel) (by decide +kernel), tb5 110 (by decide +kernel) (by decide +kernel)⟩
theorem mf_X12_control : MF yX12_control cX12_control 3 (some .int) 1 := ⟨tb5 115 (by decide +kernel) (by decide +kernel), tb1 6 (by decide +kernel) (by decide +kernel), by decide +kernel, by decide +kernel, by decide, by decide +kernel⟩
theorem iv_X12_control : Cond.instanceMethod yX12_control ∈ vT ∧ Cond.selects yX12_control.cls yX12_control yX12_control ∈ vT := ⟨tb5 113 (by decide +kernel) (by decide +kernel), tb5 114 (by decide +kernel) (by decide +kernel)⟩
theorem mf_X12_watch : MF yX12_watch cX12_watch 6 (some .int) 5 := ⟨tb5 119 (by decide +kernel) (by decide +kernel), tb1 6 (by decide +kernel) (by decide +kernel), by decide +kernel, by decide +kernel, by decide, by decide +kernel⟩
theorem iv_X12_watch : Cond.instanceMethod yX12_watch ∈ vT ∧ Cond.selects yX12_watch.cls yX12_watch yX12_watch ∈ vT := ⟨tb5 117 (by decide +kernel) (by decide +kernel), tb5 118 (by decide +kernel) (by decide +kernel)⟩
theorem mf_X12_noControl : MF yX12_noControl cX12_noControl 2 (some .boolean) 1 := ⟨tb5 123 (by decide +kernel) (by decide +kernel), tb1 6 (by decide +kernel) (by decide +kernel), by decide +kernel, by decide +kernel, by decide, by decide +kernel⟩
theorem iv_X12_noControl : Cond.instanceMethod yX12_noControl ∈ vT ∧ Cond.selects yX12_noControl.cls yX12_noControl yX12_noControl ∈ vT := ⟨tb5 122 (by decide +kernel) (by decide +kernel), tbp 38 (by decide +kernel) (by decide +kernel)⟩
theorem mf_X12_isTime : MF yX12_isTime cX12_isTime 1 (some .boolean) 1 := ⟨tb5 126 (by decide +kernel) (by decide +kernel), tb1 6 (by decide +kernel) (by decide +kernel), by decide +kernel, by decide +kernel, by decide, by decide +kernel⟩
theorem st_X12_isTime : Cond.static yX12_isTime ∈ vT := tb5 125 (by decide +kernel) (by decide +kernel)
theorem mf_X12_right : MF yX12_right cX12_right 3 (some .long) 2 := ⟨tb5 131 (by decide +kernel) (by decide +kernel), tb1 6 (by decide +kernel) (by decide +kernel), by decide +kernel, by decide +kernel, by decide, by decide +kernel⟩
theorem iv_X12_right : Cond.instanceMethod yX12_right ∈ vT ∧ Cond.selects yX12_right.cls yX12_right yX12_right ∈ vT := ⟨tb5 129 (by decide +kernel) (by decide +kernel), tb5 130 (by decide +kernel) (by decide +kernel)⟩
theorem mf_X12_rightAt : MF yX12_rightAt cX12_rightAt 8 (some .long) 2 := ⟨tb5 135 (by decide +kernel) (by decide +kernel), tb1 6 (by decide +kernel) (by decide +kernel), by decide +kernel, by decide +kernel, by decide, by decide +kernel⟩
theorem iv_X12_rightAt : Cond.instanceMethod yX12_rightAt ∈ vT ∧ Cond.selects yX12_rightAt.cls yX12_rightAt yX12_rightAt ∈ vT := ⟨tb5 134 (by decide +kernel) (by decide +kernel), tbp 39 (by decide +kernel) (by decide +kernel)⟩
theorem mf_X12_strike : MF yX12_strike cX12_strike 4 (some .int) 2 := ⟨tb5 139 (by decide +kernel) (by decide +kernel), tb1 6 (by decide +kernel) (by decide +kernel), by decide +kernel, by decide +kernel, by decide, by decide +kernel⟩
theorem iv_X12_strike : Cond.instanceMethod yX12_strike ∈ vT ∧ Cond.selects yX12_strike.cls yX12_strike yX12_strike ∈ vT := ⟨tb5 137 (by decide +kernel) (by decide +kernel), tb5 138 (by decide +kernel) (by decide +kernel)⟩
theorem mf_X12_car : MF yX12_car cX12_car 3 (some .int) 2 := ⟨tb5 143 (by decide +kernel) (by decide +kernel), tb1 6 (by decide +kernel) (by decide +kernel), by decide +kernel, by decide +kernel, by decide, by decide +kernel⟩
theorem iv_X12_car : Cond.instanceMethod yX12_car ∈ vT ∧ Cond.selects yX12_car.cls yX12_car yX12_car ∈ vT := ⟨tb5 141 (by decide +kernel) (by decide +kernel), tb5 142 (by decide +kernel) (by decide +kernel)⟩
theorem mf_X12_clock : MF yX12_clock cX12_clock 4 (some .int) 3 := ⟨tb5 148 (by decide +kernel) (by decide +kernel), tb1 6 (by decide +kernel) (by decide +kernel), by decide +kernel, by decide +kernel, by decide, by decide +kernel⟩
theorem iv_X12_clock : Cond.instanceMethod yX12_clock ∈ vT ∧ Cond.selects yX12_clock.cls yX12_clock yX12_clock ∈ vT := ⟨tb5 146 (by decide +kernel) (by decide +kernel), tb5 147 (by decide +kernel) (by decide +kernel)⟩
theorem mf_X12_noCar : MF yX12_noCar cX12_noCar 2 (some .boolean) 1 := ⟨tb5 152 (by decide +kernel) (by decide +kernel), tb1 6 (by decide +kernel) (by decide +kernel), by decide +kernel, by decide +kernel, by decide, by decide +kernel⟩
theorem iv_X12_noCar : Cond.instanceMethod yX12_noCar ∈ vT ∧ Cond.selects yX12_noCar.cls yX12_noCar yX12_noCar ∈ vT := ⟨tb5 151 (by decide +kernel) (by decide +kernel), tbp 40 (by decide +kernel) (by decide +kernel)⟩
theorem mf_X12_allow : MF yX12_allow cX12_allow 5 (some .int) 3 := ⟨tb5 156 (by decide +kernel) (by decide +kernel), tb1 6 (by decide +kernel) (by decide +kernel), by decide +kernel, by decide +kernel, by decide, by decide +kernel⟩
theorem iv_X12_allow : Cond.instanceMethod yX12_allow ∈ vT ∧ Cond.selects yX12_allow.cls yX12_allow yX12_allow ∈ vT := ⟨tb5 154 (by decide +kernel) (by decide +kernel), tb5 155 (by decide +kernel) (by decide +kernel)⟩
theorem mf_X12_error : MF yX12_error cX12_error 3 (some .long) 2 := ⟨tb5 160 (by decide +kernel) (by decide +kernel), tb1 6 (by decide +kernel) (by decide +kernel), by decide +kernel, by decide +kernel, by decide, by decide +kernel⟩
theorem iv_X12_error : Cond.instanceMethod yX12_error ∈ vT ∧ Cond.selects yX12_error.cls yX12_error yX12_error ∈ vT := ⟨tb5 158 (by decide +kernel) (by decide +kernel), tb5 159 (by decide +kernel) (by decide +kernel)⟩
theorem mf_X12_errorAt : MF yX12_errorAt cX12_errorAt 7 (some .long) 2 := ⟨tb5 164 (by decide +kernel) (by decide +kernel), tb1 6 (by decide +kernel) (by decide +kernel), by decide +kernel, by decide +kernel, by decide, by decide +kernel⟩
theorem iv_X12_errorAt : Cond.instanceMethod yX12_errorAt ∈ vT ∧ Cond.selects yX12_errorAt.cls yX12_errorAt yX12_errorAt ∈ vT := ⟨tb5 163 (by decide +kernel) (by decide +kernel), tbp 41 (by decide +kernel) (by decide +kernel)⟩
theorem mf_X12_carried : MF yX12_carried cX12_carried 7 (some .long) 2 := ⟨tb5 168 (by decide +kernel) (by decide +kernel), tb1 6 (by decide +kernel) (by decide +kernel), by decide +kernel, by decide +kernel, by decide, by decide +kernel⟩
theorem iv_X12_carried : Cond.instanceMethod yX12_carried ∈ vT ∧ Cond.selects yX12_carried.cls yX12_carried yX12_carried ∈ vT := ⟨tb5 167 (by decide +kernel) (by decide +kernel), tbp 42 (by decide +kernel) (by decide +kernel)⟩
theorem mf_X12_points : MF yX12_points cX12_points 3 (some .int) 2 := ⟨tb5 173 (by decide +kernel) (by decide +kernel), tb1 6 (by decide +kernel) (by decide +kernel), by decide +kernel, by decide +kernel, by decide, by decide +kernel⟩
theorem iv_X12_points : Cond.instanceMethod yX12_points ∈ vT ∧ Cond.selects yX12_points.cls yX12_points yX12_points ∈ vT := ⟨tb5 171 (by decide +kernel) (by decide +kernel), tb5 172 (by decide +kernel) (by decide +kernel)⟩
theorem mf_X12_pointsAt : MF yX12_pointsAt cX12_pointsAt 7 (some .int) 2 := ⟨tb5 177 (by decide +kernel) (by decide +kernel), tb1 6 (by decide +kernel) (by decide +kernel), by decide +kernel, by decide +kernel, by decide, by decide +kernel⟩
theorem iv_X12_pointsAt : Cond.instanceMethod yX12_pointsAt ∈ vT ∧ Cond.selects yX12_pointsAt.cls yX12_pointsAt yX12_pointsAt ∈ vT := ⟨tb5 176 (by decide +kernel) (by decide +kernel), tbp 43 (by decide +kernel) (by decide +kernel)⟩
theorem mf_X12_isOutOfOrder : MF yX12_isOutOfOrder cX12_isOutOfOrder 7 (some .boolean) 2 := ⟨tb5 181 (by decide +kernel) (by decide +kernel), tb1 6 (by decide +kernel) (by decide +kernel), by decide +kernel, by decide +kernel, by decide, by decide +kernel⟩
theorem iv_X12_isOutOfOrder : Cond.instanceMethod yX12_isOutOfOrder ∈ vT ∧ Cond.selects yX12_isOutOfOrder.cls yX12_isOutOfOrder yX12_isOutOfOrder ∈ vT := ⟨tb5 180 (by decide +kernel) (by decide +kernel), tbp 44 (by decide +kernel) (by decide +kernel)⟩
theorem mf_X12_result : MF yX12_result cX12_result 6 (some .int) 2 := ⟨tb5 188 (by decide +kernel) (by decide +kernel), tb1 6 (by decide +kernel) (by decide +kernel), by decide +kernel, by decide +kernel, by decide, by decide +kernel⟩
theorem iv_X12_result : Cond.instanceMethod yX12_result ∈ vT ∧ Cond.selects yX12_result.cls yX12_result yX12_result ∈ vT := ⟨tb5 186 (by decide +kernel) (by decide +kernel), tb5 187 (by decide +kernel) (by decide +kernel)⟩
theorem mf_X12_totalOf : MF yX12_totalOf cX12_totalOf 4 (some .int) 1 := ⟨tb5 192 (by decide +kernel) (by decide +kernel), tb1 6 (by decide +kernel) (by decide +kernel), by decide +kernel, by decide +kernel, by decide, by decide +kernel⟩
theorem iv_X12_totalOf : Cond.instanceMethod yX12_totalOf ∈ vT ∧ Cond.selects yX12_totalOf.cls yX12_totalOf yX12_totalOf ∈ vT := ⟨tb5 191 (by decide +kernel) (by decide +kernel), tbp 45 (by decide +kernel) (by decide +kernel)⟩
theorem mf_X12_isBetter : MF yX12_isBetter cX12_isBetter 8 (some .boolean) 2 := ⟨tb5 196 (by decide +kernel) (by decide +kernel), tb1 6 (by decide +kernel) (by decide +kernel), by decide +kernel, by decide +kernel, by decide, by decide +kernel⟩
theorem iv_X12_isBetter : Cond.instanceMethod yX12_isBetter ∈ vT ∧ Cond.selects yX12_isBetter.cls yX12_isBetter yX12_isBetter ∈ vT := ⟨tb5 195 (by decide +kernel) (by decide +kernel), tbp 46 (by decide +kernel) (by decide +kernel)⟩
theorem mf_X12_tell : MF yX12_tell cX12_tell 2 (some .int) 1 := ⟨tb5 200 (by decide +kernel) (by decide +kernel), tb1 6 (by decide +kernel) (by decide +kernel), by decide +kernel, by decide +kernel, by decide, by decide +kernel⟩
theorem iv_X12_tell : Cond.instanceMethod yX12_tell ∈ vT ∧ Cond.selects yX12_tell.cls yX12_tell yX12_tell ∈ vT := ⟨tb5 198 (by decide +kernel) (by decide +kernel), tb5 199 (by decide +kernel) (by decide +kernel)⟩
theorem mf_X12_traced : MF yX12_traced cX12_traced 2 (none) 1 := ⟨tb5 204 (by decide +kernel) (by decide +kernel), tb1 6 (by decide +kernel) (by decide +kernel), by decide +kernel, by decide +kernel, by decide, by decide +kernel⟩
theorem iv_X12_traced : Cond.instanceMethod yX12_traced ∈ vT ∧ Cond.selects yX12_traced.cls yX12_traced yX12_traced ∈ vT := ⟨tb5 203 (by decide +kernel) (by decide +kernel), tbp 47 (by decide +kernel) (by decide +kernel)⟩
theorem mf_X12_greet : MF yX12_greet cX12_greet 2 (some .int) 1 := ⟨tb5 208 (by decide +kernel) (by decide +kernel), tb1 6 (by decide +kernel) (by decide +kernel), by decide +kernel, by decide +kernel, by decide, by decide +kernel⟩
theorem iv_X12_greet : Cond.instanceMethod yX12_greet ∈ vT ∧ Cond.selects yX12_greet.cls yX12_greet yX12_greet ∈ vT := ⟨tb5 206 (by decide +kernel) (by decide +kernel), tb5 207 (by decide +kernel) (by decide +kernel)⟩
theorem mf_X12_as : MF yX12_as cX12_as 3 (some .int) 2 := ⟨tb5 212 (by decide +kernel) (by decide +kernel), tb1 6 (by decide +kernel) (by decide +kernel), by decide +kernel, by decide +kernel, by decide, by decide +kernel⟩
theorem iv_X12_as : Cond.instanceMethod yX12_as ∈ vT ∧ Cond.selects yX12_as.cls yX12_as yX12_as ∈ vT := ⟨tb5 210 (by decide +kernel) (by decide +kernel), tb5 211 (by decide +kernel) (by decide +kernel)⟩
theorem mf_X12_trace : MF yX12_trace cX12_trace 1 (some .int) 0 := ⟨tb5 216 (by decide +kernel) (by decide +kernel), tb1 6 (by decide +kernel) (by decide +kernel), by decide +kernel, by decide +kernel, by decide, by decide +kernel⟩
theorem iv_X12_trace : Cond.instanceMethod yX12_trace ∈ vT ∧ Cond.selects yX12_trace.cls yX12_trace yX12_trace ∈ vT := ⟨tb5 214 (by decide +kernel) (by decide +kernel), tb5 215 (by decide +kernel) (by decide +kernel)⟩
theorem mf_X12_fault : MF yX12_fault cX12_fault 1 (some .int) 0 := ⟨tb5 220 (by decide +kernel) (by decide +kernel), tb1 6 (by decide +kernel) (by decide +kernel), by decide +kernel, by decide +kernel, by decide, by decide +kernel⟩
theorem iv_X12_fault : Cond.instanceMethod yX12_fault ∈ vT ∧ Cond.selects yX12_fault.cls yX12_fault yX12_fault ∈ vT := ⟨tb5 218 (by decide +kernel) (by decide +kernel), tb5 219 (by decide +kernel) (by decide +kernel)⟩
theorem mf_X12_told : MF yX12_told cX12_told 2 (some .int) 1 := ⟨tb5 224 (by decide +kernel) (by decide +kernel), tb1 6 (by decide +kernel) (by decide +kernel), by decide +kernel, by decide +kernel, by decide, by decide +kernel⟩
theorem iv_X12_told : Cond.instanceMethod yX12_told ∈ vT ∧ Cond.selects yX12_told.cls yX12_told yX12_told ∈ vT := ⟨tb5 222 (by decide +kernel) (by decide +kernel), tb5 223 (by decide +kernel) (by decide +kernel)⟩
theorem ml_L_9 : Cond.methodLink RL 9 yX11_init ∈ vT := tb1 18 (by decide +kernel) (by decide +kernel)
theorem ml_L_13 : Cond.methodLink RL 13 yX11_road ∈ vT := tb1 196 (by decide +kernel) (by decide +kernel)
theorem ml_X11_57 : Cond.methodLink RX11 57 yX11_isSpot ∈ vT := tb1 200 (by decide +kernel) (by decide +kernel)
theorem ml_X11_61 : Cond.methodLink RX11 61 yX11_isWithin ∈ vT := tb1 203 (by decide +kernel) (by decide +kernel)
theorem ml_X11_69 : Cond.methodLink RX11 69 yX11_newRoad ∈ vT := tb1 206 (by decide +kernel) (by decide +kernel)
theorem ml_X11_297 : Cond.methodLink RX11 297 yX6_init ∈ vT := tb1 211 (by decide +kernel) (by decide +kernel)
theorem ml_X6_3 : Cond.methodLink RX6 3 yX7_init ∈ vT := tb1 214 (by decide +kernel) (by decide +kernel)
theorem ml_X11_300 : Cond.methodLink RX11 300 yX3_init ∈ vT := tb2 4 (by decide +kernel) (by decide +kernel)
theorem ml_X3_1 : Cond.methodLink RX3 1 yX7_init ∈ vT := tb2 7 (by decide +kernel) (by decide +kernel)
theorem ml_X11_301 : Cond.methodLink RX11 301 yX7_init ∈ vT := tb2 19 (by decide +kernel) (by decide +kernel)
theorem ml_L_18 : Cond.methodLink RL 18 yX11_shut ∈ vT := tb2 26 (by decide +kernel) (by decide +kernel)
theorem ml_X11_73 : Cond.methodLink RX11 73 yX11_roadOf ∈ vT := tb2 30 (by decide +kernel) (by decide +kernel)
theorem ml_L_23 : Cond.methodLink RL 23 yX11_wet ∈ vT := tb2 34 (by decide +kernel) (by decide +kernel)
theorem ml_X11_89 : Cond.methodLink RX11 89 yX11_answerOfFault ∈ vT := tb2 38 (by decide +kernel) (by decide +kernel)
theorem ml_L_27 : Cond.methodLink RL 27 yX11_about ∈ vT := tb2 42 (by decide +kernel) (by decide +kernel)
theorem ml_X11_105 : Cond.methodLink RX11 105 yX7_isOpen ∈ vT := tb2 46 (by decide +kernel) (by decide +kernel)
theorem ml_X3_13 : Cond.methodLink RX3 13 yX7_isOpen ∈ vT := tb2 53 (by decide +kernel) (by decide +kernel)
theorem ml_X11_109 : Cond.methodLink RX11 109 yX10_placeOfRoad ∈ vT := tb2 56 (by decide +kernel) (by decide +kernel)
theorem ml_L_32 : Cond.methodLink RL 32 yX11_book ∈ vT := tb2 60 (by decide +kernel) (by decide +kernel)
theorem ml_X11_112 : Cond.methodLink RX11 112 yX11_sheetOf ∈ vT := tb2 64 (by decide +kernel) (by decide +kernel)
theorem ml_X11_116 : Cond.methodLink RX11 116 yX11_isLane ∈ vT := tb2 68 (by decide +kernel) (by decide +kernel)
theorem ml_X11_119 : Cond.methodLink RX11 119 yX9_faultOfCells ∈ vT := tb2 71 (by decide +kernel) (by decide +kernel)
theorem ml_X9_26 : Cond.methodLink RX9 26 yX9_holds ∈ vT := tb2 75 (by decide +kernel) (by decide +kernel)
theorem ml_X11_127 : Cond.methodLink RX11 127 yX11_areBookSpots ∈ vT := tb2 79 (by decide +kernel) (by decide +kernel)
theorem ml_X11_131 : Cond.methodLink RX11 131 yX0_become ∈ vT := tb2 82 (by decide +kernel) (by decide +kernel)
theorem ml_L_36 : Cond.methodLink RL 36 yX11_ways ∈ vT := tb2 86 (by decide +kernel) (by decide +kernel)
theorem ml_X11_138 : Cond.methodLink RX11 138 yX11_searchTheMap ∈ vT := tb2 90 (by decide +kernel) (by decide +kernel)
theorem ml_X11_303 : Cond.methodLink RX11 303 yX8_begin ∈ vT := tb2 94 (by decide +kernel) (by decide +kernel)
theorem ml_X8_48 : Cond.methodLink RX8 48 yX8_addExit ∈ vT := tb2 98 (by decide +kernel) (by decide +kernel)
theorem ml_X8_52 : Cond.methodLink RX8 52 yX7_endFrom ∈ vT := tb2 102 (by decide +kernel) (by decide +kernel)
theorem ml_X6_15 : Cond.methodLink RX6 15 yX7_endFrom ∈ vT := tb2 110 (by decide +kernel) (by decide +kernel)
theorem ml_X7_28 : Cond.methodLink RX7 28 yX7_isOpen ∈ vT := tb2 112 (by decide +kernel) (by decide +kernel)
theorem ml_X11_309 : Cond.methodLink RX11 309 yX11_goOn ∈ vT := tb2 113 (by decide +kernel) (by decide +kernel)
theorem ml_X11_322 : Cond.methodLink RX11 322 yX8_isInRow ∈ vT := tb2 116 (by decide +kernel) (by decide +kernel)
theorem ml_X11_325 : Cond.methodLink RX11 325 yX8_isTooLong ∈ vT := tb2 120 (by decide +kernel) (by decide +kernel)
theorem ml_X11_336 : Cond.methodLink RX11 336 yX0_metAfter ∈ vT := tb2 125 (by decide +kernel) (by decide +kernel)
theorem ml_X11_339 : Cond.methodLink RX11 339 yX0_isPassed ∈ vT := tb2 129 (by decide +kernel) (by decide +kernel)
theorem ml_X11_342 : Cond.methodLink RX11 342 yX8_found ∈ vT := tb2 133 (by decide +kernel) (by decide +kernel)
theorem ml_L_41 : Cond.methodLink RL 41 yX11_lay ∈ vT := tb2 137 (by decide +kernel) (by decide +kernel)
theorem ml_X11_147 : Cond.methodLink RX11 147 yX11_layTheBest ∈ vT := tb2 141 (by decide +kernel) (by decide +kernel)
theorem ml_X11_348 : Cond.methodLink RX11 348 yX10_begin ∈ vT := tb2 145 (by decide +kernel) (by decide +kernel)
theorem ml_X11_356 : Cond.methodLink RX11 356 yX10_addRoad ∈ vT := tb2 149 (by decide +kernel) (by decide +kernel)
theorem ml_X11_359 : Cond.methodLink RX11 359 yX1_forgetTheWay ∈ vT := tb2 153 (by decide +kernel) (by decide +kernel)
theorem ml_L_45 : Cond.methodLink RL 45 yX11_laid ∈ vT := tb2 160 (by decide +kernel) (by decide +kernel)
theorem ml_L_50 : Cond.methodLink RL 50 yX11_proof ∈ vT := tb2 164 (by decide +kernel) (by decide +kernel)
theorem ml_X11_156 : Cond.methodLink RX11 156 yX11_lostByFault ∈ vT := tb2 169 (by decide +kernel) (by decide +kernel)
theorem ml_X11_160 : Cond.methodLink RX11 160 yX11_proofOfRow ∈ vT := tb2 173 (by decide +kernel) (by decide +kernel)
theorem ml_X11_362 : Cond.methodLink RX11 362 yX7_endFrom ∈ vT := tb2 177 (by decide +kernel) (by decide +kernel)
theorem ml_L_55 : Cond.methodLink RL 55 yX11_speed ∈ vT := tb2 179 (by decide +kernel) (by decide +kernel)
theorem ml_X11_170 : Cond.methodLink RX11 170 yX10_addSpeed ∈ vT := tb2 183 (by decide +kernel) (by decide +kernel)
theorem ml_L_59 : Cond.methodLink RL 59 yX11_due ∈ vT := tb2 187 (by decide +kernel) (by decide +kernel)
theorem ml_X11_174 : Cond.methodLink RX11 174 yX10_hasFirstSpeed ∈ vT := tb2 191 (by decide +kernel) (by decide +kernel)
theorem ml_X10_34 : Cond.methodLink RX10 34 yX10_speedFrom ∈ vT := tb2 195 (by decide +kernel) (by decide +kernel)
theorem ml_X11_177 : Cond.methodLink RX11 177 yX10_dueAt ∈ vT := tb2 199 (by decide +kernel) (by decide +kernel)
theorem ml_X10_38 : Cond.methodLink RX10 38 yX10_endOfStretch ∈ vT := tb2 203 (by decide +kernel) (by decide +kernel)
theorem ml_L_64 : Cond.methodLink RL 64 yX11_roadAt ∈ vT := tb2 208 (by decide +kernel) (by decide +kernel)
theorem ml_X11_180 : Cond.methodLink RX11 180 yX10_roadUnder ∈ vT := tb2 212 (by decide +kernel) (by decide +kernel)
theorem ml_L_68 : Cond.methodLink RL 68 yX11_control ∈ vT := tb2 216 (by decide +kernel) (by decide +kernel)
theorem ml_X11_183 : Cond.methodLink RX11 183 yX11_isControlAt ∈ vT := tb2 220 (by decide +kernel) (by decide +kernel)
theorem ml_X11_189 : Cond.methodLink RX11 189 yX2_init ∈ vT := tb2 225 (by decide +kernel) (by decide +kernel)
theorem ml_L_72 : Cond.methodLink RL 72 yX11_watch ∈ vT := tb3 9 (by decide +kernel) (by decide +kernel)
theorem ml_X11_192 : Cond.methodLink RX11 192 yX11_controlOf ∈ vT := tb3 13 (by decide +kernel) (by decide +kernel)
theorem ml_X11_196 : Cond.methodLink RX11 196 yX11_isSpanOfTime ∈ vT := tb3 17 (by decide +kernel) (by decide +kernel)
theorem ml_X11_204 : Cond.methodLink RX11 204 yX11_isTime ∈ vT := tb3 20 (by decide +kernel) (by decide +kernel)
theorem ml_X11_200 : Cond.methodLink RX11 200 yX2_check ∈ vT := tb3 24 (by decide +kernel) (by decide +kernel)
theorem ml_L_77 : Cond.methodLink RL 77 yX11_right ∈ vT := tb3 28 (by decide +kernel) (by decide +kernel)
theorem ml_X11_207 : Cond.methodLink RX11 207 yX2_putRight ∈ vT := tb3 32 (by decide +kernel) (by decide +kernel)
theorem ml_L_82 : Cond.methodLink RL 82 yX11_strike ∈ vT := tb3 36 (by decide +kernel) (by decide +kernel)
theorem ml_L_86 : Cond.methodLink RL 86 yX11_car ∈ vT := tb3 40 (by decide +kernel) (by decide +kernel)
theorem ml_X11_217 : Cond.methodLink RX11 217 yX11_newCar ∈ vT := tb3 45 (by decide +kernel) (by decide +kernel)
theorem ml_X11_372 : Cond.methodLink RX11 372 yX5_init ∈ vT := tb3 50 (by decide +kernel) (by decide +kernel)
theorem ml_X5_1 : Cond.methodLink RX5 1 yX1_init ∈ vT := tb3 53 (by decide +kernel) (by decide +kernel)
theorem ml_X11_376 : Cond.methodLink RX11 376 yX4_init ∈ vT := tb3 83 (by decide +kernel) (by decide +kernel)
theorem ml_X4_3 : Cond.methodLink RX4 3 yX5_init ∈ vT := tb3 86 (by decide +kernel) (by decide +kernel)
theorem ml_X11_377 : Cond.methodLink RX11 377 yX1_init ∈ vT := tb3 95 (by decide +kernel) (by decide +kernel)
theorem ml_L_90 : Cond.methodLink RL 90 yX11_clock ∈ vT := tb3 103 (by decide +kernel) (by decide +kernel)
theorem ml_X11_221 : Cond.methodLink RX11 221 yX11_carOf ∈ vT := tb3 107 (by decide +kernel) (by decide +kernel)
theorem ml_X11_225 : Cond.methodLink RX11 225 yX1_isClockedAt ∈ vT := tb3 111 (by decide +kernel) (by decide +kernel)
theorem ml_X11_228 : Cond.methodLink RX11 228 yX1_arrive ∈ vT := tb3 118 (by decide +kernel) (by decide +kernel)
theorem ml_L_95 : Cond.methodLink RL 95 yX11_allow ∈ vT := tb3 125 (by decide +kernel) (by decide +kernel)
theorem ml_L_99 : Cond.methodLink RL 99 yX11_error ∈ vT := tb3 129 (by decide +kernel) (by decide +kernel)
theorem ml_X11_234 : Cond.methodLink RX11 234 yX11_errorOf ∈ vT := tb3 133 (by decide +kernel) (by decide +kernel)
theorem ml_X11_384 : Cond.methodLink RX11 384 yX11_carriedTo ∈ vT := tb3 137 (by decide +kernel) (by decide +kernel)
theorem ml_L_103 : Cond.methodLink RL 103 yX11_points ∈ vT := tb3 147 (by decide +kernel) (by decide +kernel)
theorem ml_X11_238 : Cond.methodLink RX11 238 yX11_pointsOf ∈ vT := tb3 151 (by decide +kernel) (by decide +kernel)
theorem ml_X11_396 : Cond.methodLink RX11 396 yX11_isOutOfOrder ∈ vT := tb3 155 (by decide +kernel) (by decide +kernel)
theorem ml_X11_399 : Cond.methodLink RX11 399 yX11_pointsForError ∈ vT := tb3 159 (by decide +kernel) (by decide +kernel)
theorem ml_X11_403 : Cond.methodLink RX11 403 yX1_share ∈ vT := tb3 172 (by decide +kernel) (by decide +kernel)
theorem ml_X4_9 : Cond.methodLink RX4 9 yX5_share ∈ vT := tb3 179 (by decide +kernel) (by decide +kernel)
theorem ml_L_107 : Cond.methodLink RL 107 yX11_result ∈ vT := tb3 185 (by decide +kernel) (by decide +kernel)
theorem ml_X11_242 : Cond.methodLink RX11 242 yX11_totalOf ∈ vT := tb3 189 (by decide +kernel) (by decide +kernel)
theorem ml_X11_246 : Cond.methodLink RX11 246 yX11_rankOf ∈ vT := tb3 193 (by decide +kernel) (by decide +kernel)
theorem ml_X11_423 : Cond.methodLink RX11 423 yX11_isBetterOfTie ∈ vT := tb3 197 (by decide +kernel) (by decide +kernel)
theorem ml_X11_249 : Cond.methodLink RX11 249 yX11_missedBy ∈ vT := tb3 201 (by decide +kernel) (by decide +kernel)
theorem ml_X11_252 : Cond.methodLink RX11 252 yX11_outOfOrderBy ∈ vT := tb3 205 (by decide +kernel) (by decide +kernel)
theorem ml_L_111 : Cond.methodLink RL 111 yX11_sheet ∈ vT := tb3 209 (by decide +kernel) (by decide +kernel)
theorem ml_X11_255 : Cond.methodLink RX11 255 yX9_begin ∈ vT := tb3 213 (by decide +kernel) (by decide +kernel)
theorem ml_L_115 : Cond.methodLink RL 115 yX11_lose ∈ vT := tb3 217 (by decide +kernel) (by decide +kernel)
theorem ml_L_119 : Cond.methodLink RL 119 yX11_put ∈ vT := tb3 221 (by decide +kernel) (by decide +kernel)
theorem ml_X11_264 : Cond.methodLink RX11 264 yX11_cutToLane ∈ vT := tb3 225 (by decide +kernel) (by decide +kernel)
theorem ml_L_123 : Cond.methodLink RL 123 yX11_cell ∈ vT := tb3 228 (by decide +kernel) (by decide +kernel)
theorem ml_L_128 : Cond.methodLink RL 128 yX11_copy ∈ vT := tb3 232 (by decide +kernel) (by decide +kernel)
theorem ml_X11_268 : Cond.methodLink RX11 268 yX9_holds ∈ vT := tb3 236 (by decide +kernel) (by decide +kernel)
theorem ml_L_132 : Cond.methodLink RL 132 yX11_tell ∈ vT := tb4 0 (by decide +kernel) (by decide +kernel)
theorem ml_X11_277 : Cond.methodLink RX11 277 yX7_telling ∈ vT := tb4 4 (by decide +kernel) (by decide +kernel)
theorem ml_X3_23 : Cond.methodLink RX3 23 yX7_telling ∈ vT := tb4 15 (by decide +kernel) (by decide +kernel)
theorem ml_X6_23 : Cond.methodLink RX6 23 yX7_telling ∈ vT := tb4 20 (by decide +kernel) (by decide +kernel)
theorem ml_L_136 : Cond.methodLink RL 136 yX11_greet ∈ vT := tb4 23 (by decide +kernel) (by decide +kernel)
theorem ml_X11_281 : Cond.methodLink RX11 281 yX1_greeting ∈ vT := tb4 27 (by decide +kernel) (by decide +kernel)
theorem ml_X4_23 : Cond.methodLink RX4 23 yX5_greeting ∈ vT := tb4 35 (by decide +kernel) (by decide +kernel)
theorem ml_L_140 : Cond.methodLink RL 140 yX11_as ∈ vT := tb4 42 (by decide +kernel) (by decide +kernel)
theorem ml_X11_284 : Cond.methodLink RX11 284 yX11_isOfClass ∈ vT := tb4 46 (by decide +kernel) (by decide +kernel)
theorem ml_L_144 : Cond.methodLink RL 144 yX11_trace ∈ vT := tb4 49 (by decide +kernel) (by decide +kernel)
theorem ml_L_148 : Cond.methodLink RL 148 yX11_fault ∈ vT := tb4 53 (by decide +kernel) (by decide +kernel)
theorem ml_L_152 : Cond.methodLink RL 152 yX11_told ∈ vT := tb4 57 (by decide +kernel) (by decide +kernel)
theorem ml_L_12 : Cond.methodLink RL 12 yX12_init ∈ vT := tb4 63 (by decide +kernel) (by decide +kernel)
theorem ml_L_17 : Cond.methodLink RL 17 yX12_road ∈ vT := tb4 198 (by decide +kernel) (by decide +kernel)
theorem ml_X12_117 : Cond.methodLink RX12 117 yX12_isSpot ∈ vT := tb4 202 (by decide +kernel) (by decide +kernel)
theorem ml_X12_111 : Cond.methodLink RX12 111 yX12_in ∈ vT := tb4 206 (by decide +kernel) (by decide +kernel)
theorem ml_L_22 : Cond.methodLink RL 22 yX12_shut ∈ vT := tb4 211 (by decide +kernel) (by decide +kernel)
theorem ml_X12_125 : Cond.methodLink RX12 125 yX12_noRoad ∈ vT := tb4 215 (by decide +kernel) (by decide +kernel)
theorem ml_L_26 : Cond.methodLink RL 26 yX12_wet ∈ vT := tb4 219 (by decide +kernel) (by decide +kernel)
theorem ml_X12_128 : Cond.methodLink RX12 128 yX12_refused ∈ vT := tb4 223 (by decide +kernel) (by decide +kernel)
theorem ml_X12_132 : Cond.methodLink RX12 132 yX12_failed ∈ vT := tb4 227 (by decide +kernel) (by decide +kernel)
theorem ml_L_31 : Cond.methodLink RL 31 yX12_about ∈ vT := tb4 231 (by decide +kernel) (by decide +kernel)
theorem ml_L_114 : Cond.methodLink RL 114 yX12_sheet ∈ vT := tb4 235 (by decide +kernel) (by decide +kernel)
theorem ml_X12_137 : Cond.methodLink RX12 137 yX12_noSheet ∈ vT := tb4 239 (by decide +kernel) (by decide +kernel)
theorem ml_L_118 : Cond.methodLink RL 118 yX12_lose ∈ vT := tb5 3 (by decide +kernel) (by decide +kernel)
theorem ml_L_122 : Cond.methodLink RL 122 yX12_put ∈ vT := tb5 7 (by decide +kernel) (by decide +kernel)
theorem ml_X12_140 : Cond.methodLink RX12 140 yX12_noCell ∈ vT := tb5 11 (by decide +kernel) (by decide +kernel)
theorem ml_L_127 : Cond.methodLink RL 127 yX12_cell ∈ vT := tb5 15 (by decide +kernel) (by decide +kernel)
theorem ml_X12_104 : Cond.methodLink RX12 104 yX12_lost ∈ vT := tb5 19 (by decide +kernel) (by decide +kernel)
theorem ml_X12_144 : Cond.methodLink RX12 144 yX12_failedLong ∈ vT := tb5 23 (by decide +kernel) (by decide +kernel)
theorem ml_L_131 : Cond.methodLink RL 131 yX12_copy ∈ vT := tb5 27 (by decide +kernel) (by decide +kernel)
theorem ml_X12_148 : Cond.methodLink RX12 148 yX12_isBeyond ∈ vT := tb5 31 (by decide +kernel) (by decide +kernel)
theorem ml_L_35 : Cond.methodLink RL 35 yX12_book ∈ vT := tb5 34 (by decide +kernel) (by decide +kernel)
theorem ml_X12_154 : Cond.methodLink RX12 154 yX12_faultOf ∈ vT := tb5 38 (by decide +kernel) (by decide +kernel)
theorem ml_X12_158 : Cond.methodLink RX12 158 yX12_isBook ∈ vT := tb5 42 (by decide +kernel) (by decide +kernel)
theorem ml_L_40 : Cond.methodLink RL 40 yX12_ways ∈ vT := tb5 47 (by decide +kernel) (by decide +kernel)
theorem ml_X12_189 : Cond.methodLink RX12 189 yX12_search ∈ vT := tb5 51 (by decide +kernel) (by decide +kernel)
theorem ml_X12_179 : Cond.methodLink RX12 179 yX12_isIn ∈ vT := tb5 55 (by decide +kernel) (by decide +kernel)
theorem ml_X12_182 : Cond.methodLink RX12 182 yX12_leads ∈ vT := tb5 59 (by decide +kernel) (by decide +kernel)
theorem ml_X12_186 : Cond.methodLink RX12 186 yX12_judge ∈ vT := tb5 64 (by decide +kernel) (by decide +kernel)
theorem ml_L_44 : Cond.methodLink RL 44 yX12_lay ∈ vT := tb5 68 (by decide +kernel) (by decide +kernel)
theorem ml_L_49 : Cond.methodLink RL 49 yX12_laid ∈ vT := tb5 72 (by decide +kernel) (by decide +kernel)
theorem ml_L_54 : Cond.methodLink RL 54 yX12_proof ∈ vT := tb5 76 (by decide +kernel) (by decide +kernel)
theorem ml_X12_212 : Cond.methodLink RX12 212 yX12_proved ∈ vT := tb5 80 (by decide +kernel) (by decide +kernel)
theorem ml_X12_205 : Cond.methodLink RX12 205 yX12_wasAhead ∈ vT := tb5 84 (by decide +kernel) (by decide +kernel)
theorem ml_L_58 : Cond.methodLink RL 58 yX12_speed ∈ vT := tb5 90 (by decide +kernel) (by decide +kernel)
theorem ml_L_63 : Cond.methodLink RL 63 yX12_due ∈ vT := tb5 95 (by decide +kernel) (by decide +kernel)
theorem ml_X12_220 : Cond.methodLink RX12 220 yX12_hasDue ∈ vT := tb5 99 (by decide +kernel) (by decide +kernel)
theorem ml_X12_223 : Cond.methodLink RX12 223 yX12_dueAt ∈ vT := tb5 103 (by decide +kernel) (by decide +kernel)
theorem ml_L_67 : Cond.methodLink RL 67 yX12_roadAt ∈ vT := tb5 108 (by decide +kernel) (by decide +kernel)
theorem ml_L_71 : Cond.methodLink RL 71 yX12_control ∈ vT := tb5 112 (by decide +kernel) (by decide +kernel)
theorem ml_L_76 : Cond.methodLink RL 76 yX12_watch ∈ vT := tb5 116 (by decide +kernel) (by decide +kernel)
theorem ml_X12_228 : Cond.methodLink RX12 228 yX12_noControl ∈ vT := tb5 120 (by decide +kernel) (by decide +kernel)
theorem ml_X12_231 : Cond.methodLink RX12 231 yX12_isTime ∈ vT := tb5 124 (by decide +kernel) (by decide +kernel)
theorem ml_L_81 : Cond.methodLink RL 81 yX12_right ∈ vT := tb5 128 (by decide +kernel) (by decide +kernel)
theorem ml_X12_234 : Cond.methodLink RX12 234 yX12_rightAt ∈ vT := tb5 132 (by decide +kernel) (by decide +kernel)
theorem ml_L_85 : Cond.methodLink RL 85 yX12_strike ∈ vT := tb5 136 (by decide +kernel) (by decide +kernel)
theorem ml_L_89 : Cond.methodLink RL 89 yX12_car ∈ vT := tb5 140 (by decide +kernel) (by decide +kernel)
theorem ml_L_94 : Cond.methodLink RL 94 yX12_clock ∈ vT := tb5 145 (by decide +kernel) (by decide +kernel)
theorem ml_X12_243 : Cond.methodLink RX12 243 yX12_noCar ∈ vT := tb5 149 (by decide +kernel) (by decide +kernel)
theorem ml_L_98 : Cond.methodLink RL 98 yX12_allow ∈ vT := tb5 153 (by decide +kernel) (by decide +kernel)
theorem ml_L_102 : Cond.methodLink RL 102 yX12_error ∈ vT := tb5 157 (by decide +kernel) (by decide +kernel)
theorem ml_X12_252 : Cond.methodLink RX12 252 yX12_errorAt ∈ vT := tb5 161 (by decide +kernel) (by decide +kernel)
theorem ml_X12_248 : Cond.methodLink RX12 248 yX12_carried ∈ vT := tb5 165 (by decide +kernel) (by decide +kernel)
theorem ml_L_106 : Cond.methodLink RL 106 yX12_points ∈ vT := tb5 170 (by decide +kernel) (by decide +kernel)
theorem ml_X12_265 : Cond.methodLink RX12 265 yX12_pointsAt ∈ vT := tb5 174 (by decide +kernel) (by decide +kernel)
theorem ml_X12_255 : Cond.methodLink RX12 255 yX12_isOutOfOrder ∈ vT := tb5 178 (by decide +kernel) (by decide +kernel)
theorem ml_L_110 : Cond.methodLink RL 110 yX12_result ∈ vT := tb5 185 (by decide +kernel) (by decide +kernel)
theorem ml_X12_268 : Cond.methodLink RX12 268 yX12_totalOf ∈ vT := tb5 189 (by decide +kernel) (by decide +kernel)
theorem ml_X12_271 : Cond.methodLink RX12 271 yX12_isBetter ∈ vT := tb5 193 (by decide +kernel) (by decide +kernel)
theorem ml_L_135 : Cond.methodLink RL 135 yX12_tell ∈ vT := tb5 197 (by decide +kernel) (by decide +kernel)
theorem ml_X12_277 : Cond.methodLink RX12 277 yX12_traced ∈ vT := tb5 201 (by decide +kernel) (by decide +kernel)
theorem ml_L_139 : Cond.methodLink RL 139 yX12_greet ∈ vT := tb5 205 (by decide +kernel) (by decide +kernel)
theorem ml_L_143 : Cond.methodLink RL 143 yX12_as ∈ vT := tb5 209 (by decide +kernel) (by decide +kernel)
theorem ml_L_147 : Cond.methodLink RL 147 yX12_trace ∈ vT := tb5 213 (by decide +kernel) (by decide +kernel)
theorem ml_L_151 : Cond.methodLink RL 151 yX12_fault ∈ vT := tb5 217 (by decide +kernel) (by decide +kernel)
theorem ml_L_155 : Cond.methodLink RL 155 yX12_told ∈ vT := tb5 221 (by decide +kernel) (by decide +kernel)
theorem mm_min : Cond.code Lib.Math.min.name Lib.Math.min.code 2 (some .int) ∈ vT := tb3 143 (by decide +kernel) (by decide +kernel)
theorem mms_min : Cond.static Lib.Math.min.name ∈ vT := tb3 142 (by decide +kernel) (by decide +kernel)
theorem mml_X11_393 : Cond.methodLink RX11 393 Lib.Math.min.name ∈ vT := tb3 141 (by decide +kernel) (by decide +kernel)
theorem mml_X4_13 : Cond.methodLink RX4 13 Lib.Math.min.name ∈ vT := tb3 182 (by decide +kernel) (by decide +kernel)
theorem mm_maxl : Cond.code Lib.MathLoose.max_long.x Lib.MathLoose.max_long.code 4 (some .long) ∈ vT := tb3 146 (by decide +kernel) (by decide +kernel)
theorem mms_maxl : Cond.static Lib.MathLoose.max_long.x ∈ vT := tb3 145 (by decide +kernel) (by decide +kernel)
theorem mml_X11_387 : Cond.methodLink RX11 387 Lib.MathLoose.max_long.x ∈ vT := tb3 144 (by decide +kernel) (by decide +kernel)
theorem mm_minl : Cond.code Lib.MathLoose.min_long.x Lib.MathLoose.min_long.code 4 (some .long) ∈ vT := tb3 171 (by decide +kernel) (by decide +kernel)
theorem mms_minl : Cond.static Lib.MathLoose.min_long.x ∈ vT := tb3 170 (by decide +kernel) (by decide +kernel)
theorem mml_X11_418 : Cond.methodLink RX11 418 Lib.MathLoose.min_long.x ∈ vT := tb3 169 (by decide +kernel) (by decide +kernel)
theorem mm_absl : Cond.code Lib.MathLoose.abs_long.x Lib.MathLoose.abs_long.code 2 (some .long) ∈ vT := tb3 164 (by decide +kernel) (by decide +kernel)
theorem mms_absl : Cond.static Lib.MathLoose.abs_long.x ∈ vT := tb3 163 (by decide +kernel) (by decide +kernel)
theorem mml_X11_406 : Cond.methodLink RX11 406 Lib.MathLoose.abs_long.x ∈ vT := tb3 162 (by decide +kernel) (by decide +kernel)
theorem mm_ini : Cond.initialized "java/lang/Math" ∈ vT := tb1 14 (by decide +kernel) (by decide +kernel)
theorem mo_i : Cond.instanceMethod Lib.objectInit ∈ vT := tb1 22 (by decide +kernel) (by decide +kernel)
theorem mo_c : Cond.code Lib.objectInit ⟨#[0xb1]⟩ 1 none ∈ vT := tb1 23 (by decide +kernel) (by decide +kernel)
theorem mo_X11 : Cond.methodLink RX11 3 Lib.objectInit ∈ vT := tb1 21 (by decide +kernel) (by decide +kernel)
theorem mo_X0 : Cond.methodLink RX0 3 Lib.objectInit ∈ vT := tb1 31 (by decide +kernel) (by decide +kernel)
theorem mo_X8 : Cond.methodLink RX8 3 Lib.objectInit ∈ vT := tb1 47 (by decide +kernel) (by decide +kernel)
theorem mo_X10 : Cond.methodLink RX10 3 Lib.objectInit ∈ vT := tb1 105 (by decide +kernel) (by decide +kernel)
theorem mo_X9 : Cond.methodLink RX9 3 Lib.objectInit ∈ vT := tb1 142 (by decide +kernel) (by decide +kernel)
theorem mo_X7 : Cond.methodLink RX7 3 Lib.objectInit ∈ vT := tb1 217 (by decide +kernel) (by decide +kernel)
theorem mo_X2 : Cond.methodLink RX2 1 Lib.objectInit ∈ vT := tb2 228 (by decide +kernel) (by decide +kernel)
theorem mo_X1 : Cond.methodLink RX1 3 Lib.objectInit ∈ vT := tb3 56 (by decide +kernel) (by decide +kernel)
theorem mo_X12 : Cond.methodLink RX12 1 Lib.objectInit ∈ vT := tb4 66 (by decide +kernel) (by decide +kernel)
theorem kl_L_7 : Cond.classLink RL 7 RX11 ∈ vT := tb1 16 (by decide +kernel) (by decide +kernel)
theorem kl_X11_11 : Cond.classLink RX11 11 RX7 ∈ vT := tb1 24 (by decide +kernel) (by decide +kernel)
theorem kl_X11_17 : Cond.classLink RX11 17 RX0 ∈ vT := tb1 26 (by decide +kernel) (by decide +kernel)
theorem kl_X11_24 : Cond.classLink RX11 24 RX8 ∈ vT := tb1 42 (by decide +kernel) (by decide +kernel)
theorem kl_X11_31 : Cond.classLink RX11 31 RX10 ∈ vT := tb1 100 (by decide +kernel) (by decide +kernel)
theorem kl_X11_38 : Cond.classLink RX11 38 RX2 ∈ vT := tb1 132 (by decide +kernel) (by decide +kernel)
theorem kl_X11_44 : Cond.classLink RX11 44 RX1 ∈ vT := tb1 134 (by decide +kernel) (by decide +kernel)
theorem kl_X11_50 : Cond.classLink RX11 50 RX9 ∈ vT := tb1 136 (by decide +kernel) (by decide +kernel)
theorem kl_X11_295 : Cond.classLink RX11 295 RX6 ∈ vT := tb1 209 (by decide +kernel) (by decide +kernel)
theorem kl_X11_84 : Cond.classLink RX11 84 RX3 ∈ vT := tb2 2 (by decide +kernel) (by decide +kernel)
theorem kl_X11_370 : Cond.classLink RX11 370 RX5 ∈ vT := tb3 48 (by decide +kernel) (by decide +kernel)
theorem kl_X11_374 : Cond.classLink RX11 374 RX4 ∈ vT := tb3 81 (by decide +kernel) (by decide +kernel)
theorem kl_L_10 : Cond.classLink RL 10 RX12 ∈ vT := tb4 61 (by decide +kernel) (by decide +kernel)
theorem kin_X11 : Cond.instantiable RX11 12 ∈ vT := tb1 17 (by decide +kernel) (by decide +kernel)
theorem kin_X0 : Cond.instantiable RX0 2 ∈ vT := tb1 27 (by decide +kernel) (by decide +kernel)
theorem kin_X8 : Cond.instantiable RX8 13 ∈ vT := tb1 43 (by decide +kernel) (by decide +kernel)
theorem kin_X10 : Cond.instantiable RX10 7 ∈ vT := tb1 101 (by decide +kernel) (by decide +kernel)
theorem kin_X9 : Cond.instantiable RX9 4 ∈ vT := tb1 138 (by decide +kernel) (by decide +kernel)
theorem kin_X6 : Cond.instantiable RX6 5 ∈ vT := tb1 210 (by decide +kernel) (by decide +kernel)
theorem kin_X3 : Cond.instantiable RX3 6 ∈ vT := tb2 3 (by decide +kernel) (by decide +kernel)
theorem kin_X7 : Cond.instantiable RX7 5 ∈ vT := tb2 18 (by decide +kernel) (by decide +kernel)
theorem kin_X2 : Cond.instantiable RX2 6 ∈ vT := tb2 224 (by decide +kernel) (by decide +kernel)
theorem kin_X5 : Cond.instantiable RX5 6 ∈ vT := tb3 49 (by decide +kernel) (by decide +kernel)
theorem kin_X4 : Cond.instantiable RX4 6 ∈ vT := tb3 82 (by decide +kernel) (by decide +kernel)
theorem kin_X1 : Cond.instantiable RX1 6 ∈ vT := tb3 94 (by decide +kernel) (by decide +kernel)
theorem kin_X12 : Cond.instantiable RX12 43 ∈ vT := tb4 62 (by decide +kernel) (by decide +kernel)
theorem kini_L : Cond.initialized RL ∈ vT := tb1 0 (by decide +kernel) (by decide +kernel)
theorem kini_X11 : Cond.initialized RX11 ∈ vT := tb1 1 (by decide +kernel) (by decide +kernel)
theorem kini_X0 : Cond.initialized RX0 ∈ vT := tb1 2 (by decide +kernel) (by decide +kernel)
theorem kini_X8 : Cond.initialized RX8 ∈ vT := tb1 3 (by decide +kernel) (by decide +kernel)
theorem kini_X10 : Cond.initialized RX10 ∈ vT := tb1 4 (by decide +kernel) (by decide +kernel)
theorem kini_X9 : Cond.initialized RX9 ∈ vT := tb1 5 (by decide +kernel) (by decide +kernel)
theorem kini_X12 : Cond.initialized RX12 ∈ vT := tb1 6 (by decide +kernel) (by decide +kernel)
theorem kini_X7 : Cond.initialized RX7 ∈ vT := tb1 7 (by decide +kernel) (by decide +kernel)
theorem kini_X6 : Cond.initialized RX6 ∈ vT := tb1 8 (by decide +kernel) (by decide +kernel)
theorem kini_X3 : Cond.initialized RX3 ∈ vT := tb1 9 (by decide +kernel) (by decide +kernel)
theorem kini_X2 : Cond.initialized RX2 ∈ vT := tb1 10 (by decide +kernel) (by decide +kernel)
theorem kini_X1 : Cond.initialized RX1 ∈ vT := tb1 11 (by decide +kernel) (by decide +kernel)
theorem kini_X5 : Cond.initialized RX5 ∈ vT := tb1 12 (by decide +kernel) (by decide +kernel)
theorem kini_X4 : Cond.initialized RX4 ∈ vT := tb1 13 (by decide +kernel) (by decide +kernel)
theorem kini_J9 : Cond.initialized RJ9 ∈ vT := tb1 14 (by decide +kernel) (by decide +kernel)
theorem kini_J10 : Cond.initialized RJ10 ∈ vT := tb1 15 (by decide +kernel) (by decide +kernel)
theorem kac_int : Cond.arrayClass .int ∈ vT := tb1 41 (by decide +kernel) (by decide +kernel)
theorem kac_boolean : Cond.arrayClass .boolean ∈ vT := tb4 197 (by decide +kernel) (by decide +kernel)
theorem kk_X11_328 : Cond.constant RX11 328 (60000) ∈ vT := tb2 124 (by decide +kernel) (by decide +kernel)
theorem kk_X11_294 : Cond.constant RX11 294 (1000000) ∈ vT := tb3 23 (by decide +kernel) (by decide +kernel)
theorem kk_X11_213 : Cond.constant RX11 213 (500000) ∈ vT := tb3 44 (by decide +kernel) (by decide +kernel)
theorem kk_X12_185 : Cond.constant RX12 185 (60000) ∈ vT := tb5 63 (by decide +kernel) (by decide +kernel)
theorem kk_X11_154 : Cond.constantLong RX11 154 (-9223372036854775808) ∈ vT := tb2 168 (by decide +kernel) (by decide +kernel)
theorem kk_X11_365 : Cond.constantLong RX11 365 (-100) ∈ vT := tb2 178 (by decide +kernel) (by decide +kernel)
theorem kk_X10_42 : Cond.constantLong RX10 42 (600) ∈ vT := tb2 207 (by decide +kernel) (by decide +kernel)
theorem kk_X11_410 : Cond.constantLong RX11 410 (9) ∈ vT := tb3 165 (by decide +kernel) (by decide +kernel)
theorem kk_X11_412 : Cond.constantLong RX11 412 (10) ∈ vT := tb3 166 (by decide +kernel) (by decide +kernel)
theorem kk_X11_414 : Cond.constantLong RX11 414 (2) ∈ vT := tb3 167 (by decide +kernel) (by decide +kernel)
theorem kk_X11_416 : Cond.constantLong RX11 416 (300) ∈ vT := tb3 168 (by decide +kernel) (by decide +kernel)
theorem kk_X12_115 : Cond.constantLong RX12 115 (9) ∈ vT := tb4 205 (by decide +kernel) (by decide +kernel)
theorem kk_X12_121 : Cond.constantLong RX12 121 (20000) ∈ vT := tb4 209 (by decide +kernel) (by decide +kernel)
theorem kk_X12_123 : Cond.constantLong RX12 123 (2) ∈ vT := tb4 210 (by decide +kernel) (by decide +kernel)
theorem kk_X12_135 : Cond.constantLong RX12 135 (3) ∈ vT := tb5 2 (by decide +kernel) (by decide +kernel)
theorem kk_X12_99 : Cond.constantLong RX12 99 (-9223372036854775808) ∈ vT := tb5 22 (by decide +kernel) (by decide +kernel)
theorem kk_X12_152 : Cond.constantLong RX12 152 (8) ∈ vT := tb5 46 (by decide +kernel) (by decide +kernel)
theorem kk_X12_208 : Cond.constantLong RX12 208 (-1) ∈ vT := tb5 88 (by decide +kernel) (by decide +kernel)
theorem kk_X12_210 : Cond.constantLong RX12 210 (-100) ∈ vT := tb5 89 (by decide +kernel) (by decide +kernel)
theorem kk_X12_216 : Cond.constantLong RX12 216 (3000) ∈ vT := tb5 94 (by decide +kernel) (by decide +kernel)
theorem kk_X12_218 : Cond.constantLong RX12 218 (600) ∈ vT := tb5 107 (by decide +kernel) (by decide +kernel)
theorem kk_X12_226 : Cond.constantLong RX12 226 (1000000) ∈ vT := tb5 127 (by decide +kernel) (by decide +kernel)
theorem kk_X12_241 : Cond.constantLong RX12 241 (500000) ∈ vT := tb5 144 (by decide +kernel) (by decide +kernel)
theorem kk_X12_246 : Cond.constantLong RX12 246 (1500) ∈ vT := tb5 169 (by decide +kernel) (by decide +kernel)
theorem kk_X12_259 : Cond.constantLong RX12 259 (10) ∈ vT := tb5 182 (by decide +kernel) (by decide +kernel)
theorem kk_X12_261 : Cond.constantLong RX12 261 (300) ∈ vT := tb5 183 (by decide +kernel) (by decide +kernel)
theorem kk_X12_263 : Cond.constantLong RX12 263 (50) ∈ vT := tb5 184 (by decide +kernel) (by decide +kernel)
theorem in_X0 : ∀ w ∈ u_ws RX0 TX0 2, w ∈ vT := by
  intro w hw
  obtain ⟨k, hk, rfl⟩ := List.mem_map.mp hw
  have hk := List.mem_range.mp hk
  match k, hk with
  | 0, _ => exact tb1 36 (by decide +kernel) (by decide +kernel)
  | 1, _ => exact tb1 38 (by decide +kernel) (by decide +kernel)
  | k + 2, hk => exact absurd hk (by omega)
theorem in_X1 : ∀ w ∈ u_ws RX1 TX1 6, w ∈ vT := by
  intro w hw
  obtain ⟨k, hk, rfl⟩ := List.mem_map.mp hw
  have hk := List.mem_range.mp hk
  match k, hk with
  | 0, _ => exact tb3 96 (by decide +kernel) (by decide +kernel)
  | 1, _ => exact tb3 97 (by decide +kernel) (by decide +kernel)
  | 2, _ => exact tb3 98 (by decide +kernel) (by decide +kernel)
  | 3, _ => exact tb3 99 (by decide +kernel) (by decide +kernel)
  | 4, _ => exact tb3 100 (by decide +kernel) (by decide +kernel)
  | 5, _ => exact tb3 101 (by decide +kernel) (by decide +kernel)
  | k + 6, hk => exact absurd hk (by omega)
theorem in_X2 : ∀ w ∈ u_ws RX2 TX2 6, w ∈ vT := by
  intro w hw
  obtain ⟨k, hk, rfl⟩ := List.mem_map.mp hw
  have hk := List.mem_range.mp hk
  match k, hk with
  | 0, _ => exact tb2 236 (by decide +kernel) (by decide +kernel)
  | 1, _ => exact tb2 238 (by decide +kernel) (by decide +kernel)
  | 2, _ => exact tb3 0 (by decide +kernel) (by decide +kernel)
  | 3, _ => exact tb3 2 (by decide +kernel) (by decide +kernel)
  | 4, _ => exact tb3 4 (by decide +kernel) (by decide +kernel)
  | 5, _ => exact tb3 6 (by decide +kernel) (by decide +kernel)
  | k + 6, hk => exact absurd hk (by omega)
theorem in_X3 : ∀ w ∈ u_ws RX3 TX3 6, w ∈ vT := by
  intro w hw
  obtain ⟨k, hk, rfl⟩ := List.mem_map.mp hw
  have hk := List.mem_range.mp hk
  match k, hk with
  | 0, _ => exact tb2 12 (by decide +kernel) (by decide +kernel)
  | 1, _ => exact tb2 13 (by decide +kernel) (by decide +kernel)
  | 2, _ => exact tb2 14 (by decide +kernel) (by decide +kernel)
  | 3, _ => exact tb2 15 (by decide +kernel) (by decide +kernel)
  | 4, _ => exact tb2 16 (by decide +kernel) (by decide +kernel)
  | 5, _ => exact tb2 10 (by decide +kernel) (by decide +kernel)
  | k + 6, hk => exact absurd hk (by omega)
theorem in_X4 : ∀ w ∈ u_ws RX4 TX4 6, w ∈ vT := by
  intro w hw
  obtain ⟨k, hk, rfl⟩ := List.mem_map.mp hw
  have hk := List.mem_range.mp hk
  match k, hk with
  | 0, _ => exact tb3 87 (by decide +kernel) (by decide +kernel)
  | 1, _ => exact tb3 88 (by decide +kernel) (by decide +kernel)
  | 2, _ => exact tb3 89 (by decide +kernel) (by decide +kernel)
  | 3, _ => exact tb3 90 (by decide +kernel) (by decide +kernel)
  | 4, _ => exact tb3 91 (by decide +kernel) (by decide +kernel)
  | 5, _ => exact tb3 92 (by decide +kernel) (by decide +kernel)
  | k + 6, hk => exact absurd hk (by omega)
theorem in_X5 : ∀ w ∈ u_ws RX5 TX5 6, w ∈ vT := by
  intro w hw
  obtain ⟨k, hk, rfl⟩ := List.mem_map.mp hw
  have hk := List.mem_range.mp hk
  match k, hk with
  | 0, _ => exact tb3 68 (by decide +kernel) (by decide +kernel)
  | 1, _ => exact tb3 70 (by decide +kernel) (by decide +kernel)
  | 2, _ => exact tb3 72 (by decide +kernel) (by decide +kernel)
  | 3, _ => exact tb3 74 (by decide +kernel) (by decide +kernel)
  | 4, _ => exact tb3 76 (by decide +kernel) (by decide +kernel)
  | 5, _ => exact tb3 78 (by decide +kernel) (by decide +kernel)
  | k + 6, hk => exact absurd hk (by omega)
theorem in_X6 : ∀ w ∈ u_ws RX6 TX6 5, w ∈ vT := by
  intro w hw
  obtain ⟨k, hk, rfl⟩ := List.mem_map.mp hw
  have hk := List.mem_range.mp hk
  match k, hk with
  | 0, _ => exact tb1 231 (by decide +kernel) (by decide +kernel)
  | 1, _ => exact tb1 233 (by decide +kernel) (by decide +kernel)
  | 2, _ => exact tb1 235 (by decide +kernel) (by decide +kernel)
  | 3, _ => exact tb1 237 (by decide +kernel) (by decide +kernel)
  | 4, _ => exact tb1 239 (by decide +kernel) (by decide +kernel)
  | k + 5, hk => exact absurd hk (by omega)
theorem in_X7 : ∀ w ∈ u_ws RX7 TX7 5, w ∈ vT := by
  intro w hw
  obtain ⟨k, hk, rfl⟩ := List.mem_map.mp hw
  have hk := List.mem_range.mp hk
  match k, hk with
  | 0, _ => exact tb2 20 (by decide +kernel) (by decide +kernel)
  | 1, _ => exact tb2 21 (by decide +kernel) (by decide +kernel)
  | 2, _ => exact tb2 22 (by decide +kernel) (by decide +kernel)
  | 3, _ => exact tb2 23 (by decide +kernel) (by decide +kernel)
  | 4, _ => exact tb2 24 (by decide +kernel) (by decide +kernel)
  | k + 5, hk => exact absurd hk (by omega)
theorem in_X8 : ∀ w ∈ u_ws RX8 TX8 13, w ∈ vT := by
  intro w hw
  obtain ⟨k, hk, rfl⟩ := List.mem_map.mp hw
  have hk := List.mem_range.mp hk
  match k, hk with
  | 0, _ => exact tb1 73 (by decide +kernel) (by decide +kernel)
  | 1, _ => exact tb1 75 (by decide +kernel) (by decide +kernel)
  | 2, _ => exact tb1 77 (by decide +kernel) (by decide +kernel)
  | 3, _ => exact tb1 79 (by decide +kernel) (by decide +kernel)
  | 4, _ => exact tb1 81 (by decide +kernel) (by decide +kernel)
  | 5, _ => exact tb1 83 (by decide +kernel) (by decide +kernel)
  | 6, _ => exact tb1 85 (by decide +kernel) (by decide +kernel)
  | 7, _ => exact tb1 87 (by decide +kernel) (by decide +kernel)
  | 8, _ => exact tb1 89 (by decide +kernel) (by decide +kernel)
  | 9, _ => exact tb1 91 (by decide +kernel) (by decide +kernel)
  | 10, _ => exact tb1 93 (by decide +kernel) (by decide +kernel)
  | 11, _ => exact tb1 95 (by decide +kernel) (by decide +kernel)
  | 12, _ => exact tb1 97 (by decide +kernel) (by decide +kernel)
  | k + 13, hk => exact absurd hk (by omega)
theorem in_X9 : ∀ w ∈ u_ws RX9 TX9 4, w ∈ vT := by
  intro w hw
  obtain ⟨k, hk, rfl⟩ := List.mem_map.mp hw
  have hk := List.mem_range.mp hk
  match k, hk with
  | 0, _ => exact tb1 150 (by decide +kernel) (by decide +kernel)
  | 1, _ => exact tb1 152 (by decide +kernel) (by decide +kernel)
  | 2, _ => exact tb1 154 (by decide +kernel) (by decide +kernel)
  | 3, _ => exact tb1 156 (by decide +kernel) (by decide +kernel)
  | k + 4, hk => exact absurd hk (by omega)
theorem in_X10 : ∀ w ∈ u_ws RX10 TX10 7, w ∈ vT := by
  intro w hw
  obtain ⟨k, hk, rfl⟩ := List.mem_map.mp hw
  have hk := List.mem_range.mp hk
  match k, hk with
  | 0, _ => exact tb1 117 (by decide +kernel) (by decide +kernel)
  | 1, _ => exact tb1 119 (by decide +kernel) (by decide +kernel)
  | 2, _ => exact tb1 121 (by decide +kernel) (by decide +kernel)
  | 3, _ => exact tb1 123 (by decide +kernel) (by decide +kernel)
  | 4, _ => exact tb1 125 (by decide +kernel) (by decide +kernel)
  | 5, _ => exact tb1 127 (by decide +kernel) (by decide +kernel)
  | 6, _ => exact tb1 129 (by decide +kernel) (by decide +kernel)
  | k + 7, hk => exact absurd hk (by omega)
theorem in_X11 : ∀ w ∈ u_ws RX11 TX11 12, w ∈ vT := by
  intro w hw
  obtain ⟨k, hk, rfl⟩ := List.mem_map.mp hw
  have hk := List.mem_range.mp hk
  match k, hk with
  | 0, _ => exact tb1 171 (by decide +kernel) (by decide +kernel)
  | 1, _ => exact tb1 173 (by decide +kernel) (by decide +kernel)
  | 2, _ => exact tb1 175 (by decide +kernel) (by decide +kernel)
  | 3, _ => exact tb1 177 (by decide +kernel) (by decide +kernel)
  | 4, _ => exact tb1 179 (by decide +kernel) (by decide +kernel)
  | 5, _ => exact tb1 181 (by decide +kernel) (by decide +kernel)
  | 6, _ => exact tb1 183 (by decide +kernel) (by decide +kernel)
  | 7, _ => exact tb1 185 (by decide +kernel) (by decide +kernel)
  | 8, _ => exact tb1 187 (by decide +kernel) (by decide +kernel)
  | 9, _ => exact tb1 189 (by decide +kernel) (by decide +kernel)
  | 10, _ => exact tb1 191 (by decide +kernel) (by decide +kernel)
  | 11, _ => exact tb1 193 (by decide +kernel) (by decide +kernel)
  | k + 12, hk => exact absurd hk (by omega)
theorem in_X12 : ∀ w ∈ u_ws RX12 TX12 43, w ∈ vT := by
  intro w hw
  obtain ⟨k, hk, rfl⟩ := List.mem_map.mp hw
  have hk := List.mem_range.mp hk
  match k, hk with
  | 0, _ => exact tb4 110 (by decide +kernel) (by decide +kernel)
  | 1, _ => exact tb4 112 (by decide +kernel) (by decide +kernel)
  | 2, _ => exact tb4 114 (by decide +kernel) (by decide +kernel)
  | 3, _ => exact tb4 116 (by decide +kernel) (by decide +kernel)
  | 4, _ => exact tb4 118 (by decide +kernel) (by decide +kernel)
  | 5, _ => exact tb4 120 (by decide +kernel) (by decide +kernel)
  | 6, _ => exact tb4 122 (by decide +kernel) (by decide +kernel)
  | 7, _ => exact tb4 124 (by decide +kernel) (by decide +kernel)
  | 8, _ => exact tb4 126 (by decide +kernel) (by decide +kernel)
  | 9, _ => exact tb4 128 (by decide +kernel) (by decide +kernel)
  | 10, _ => exact tb4 130 (by decide +kernel) (by decide +kernel)
  | 11, _ => exact tb4 132 (by decide +kernel) (by decide +kernel)
  | 12, _ => exact tb4 134 (by decide +kernel) (by decide +kernel)
  | 13, _ => exact tb4 136 (by decide +kernel) (by decide +kernel)
  | 14, _ => exact tb4 138 (by decide +kernel) (by decide +kernel)
  | 15, _ => exact tb4 140 (by decide +kernel) (by decide +kernel)
  | 16, _ => exact tb4 142 (by decide +kernel) (by decide +kernel)
  | 17, _ => exact tb4 144 (by decide +kernel) (by decide +kernel)
  | 18, _ => exact tb4 146 (by decide +kernel) (by decide +kernel)
  | 19, _ => exact tb4 148 (by decide +kernel) (by decide +kernel)
  | 20, _ => exact tb4 150 (by decide +kernel) (by decide +kernel)
  | 21, _ => exact tb4 152 (by decide +kernel) (by decide +kernel)
  | 22, _ => exact tb4 154 (by decide +kernel) (by decide +kernel)
  | 23, _ => exact tb4 156 (by decide +kernel) (by decide +kernel)
  | 24, _ => exact tb4 158 (by decide +kernel) (by decide +kernel)
  | 25, _ => exact tb4 160 (by decide +kernel) (by decide +kernel)
  | 26, _ => exact tb4 162 (by decide +kernel) (by decide +kernel)
  | 27, _ => exact tb4 164 (by decide +kernel) (by decide +kernel)
  | 28, _ => exact tb4 166 (by decide +kernel) (by decide +kernel)
  | 29, _ => exact tb4 168 (by decide +kernel) (by decide +kernel)
  | 30, _ => exact tb4 170 (by decide +kernel) (by decide +kernel)
  | 31, _ => exact tb4 172 (by decide +kernel) (by decide +kernel)
  | 32, _ => exact tb4 174 (by decide +kernel) (by decide +kernel)
  | 33, _ => exact tb4 176 (by decide +kernel) (by decide +kernel)
  | 34, _ => exact tb4 178 (by decide +kernel) (by decide +kernel)
  | 35, _ => exact tb4 180 (by decide +kernel) (by decide +kernel)
  | 36, _ => exact tb4 182 (by decide +kernel) (by decide +kernel)
  | 37, _ => exact tb4 184 (by decide +kernel) (by decide +kernel)
  | 38, _ => exact tb4 186 (by decide +kernel) (by decide +kernel)
  | 39, _ => exact tb4 188 (by decide +kernel) (by decide +kernel)
  | 40, _ => exact tb4 190 (by decide +kernel) (by decide +kernel)
  | 41, _ => exact tb4 192 (by decide +kernel) (by decide +kernel)
  | 42, _ => exact tb4 194 (by decide +kernel) (by decide +kernel)
  | k + 43, hk => exact absurd hk (by omega)
theorem fk_X0_9_0 : FK RX0 9 0 0 2 := ⟨RX0, TX0, 2, rfl, by decide, by decide, rfl, in_X0, RX0, tb1 32 (by decide +kernel) (by decide +kernel), Or.inl rfl⟩
theorem fw_X0_9_0 : FW RX0 9 0 0 2 (.array .int) true := ⟨RX0, TX0, 2, tyX0, rfl, by decide, by decide, rfl, in_X0, tb1 32 (by decide +kernel) (by decide +kernel), tyX0_ok, nmX0, by decide +kernel, rfl, fun h => by first | rfl | cases h⟩
theorem fk_X11_306_0 : FK RX11 306 0 0 2 := ⟨RX0, TX0, 2, rfl, by decide, by decide, rfl, in_X0, RX0, tb1 33 (by decide +kernel) (by decide +kernel), Or.inl rfl⟩
theorem fk_X0_15_0 : FK RX0 15 0 1 0 := ⟨RX0, TX0, 2, rfl, by decide, by decide, rfl, in_X0, RX0, tb1 34 (by decide +kernel) (by decide +kernel), Or.inl rfl⟩
theorem fw_X0_15_0 : FW RX0 15 0 1 0 (.int) false := ⟨RX0, TX0, 2, tyX0, rfl, by decide, by decide, rfl, in_X0, tb1 34 (by decide +kernel) (by decide +kernel), tyX0_ok, nmX0, by decide +kernel, rfl, fun h => by first | rfl | cases h⟩
theorem fk_X11_135_0 : FK RX11 135 0 1 0 := ⟨RX0, TX0, 2, rfl, by decide, by decide, rfl, in_X0, RX0, tb1 35 (by decide +kernel) (by decide +kernel), Or.inl rfl⟩
theorem fw_X11_135_0 : FW RX11 135 0 1 0 (.int) false := ⟨RX0, TX0, 2, tyX0, rfl, by decide, by decide, rfl, in_X0, tb1 35 (by decide +kernel) (by decide +kernel), tyX0_ok, nmX0, by decide +kernel, rfl, fun h => by first | rfl | cases h⟩
theorem fk_X8_9_8 : FK RX8 9 8 0 2 := ⟨RX8, TX8, 13, rfl, by decide, by decide, rfl, in_X8, RX8, tb1 48 (by decide +kernel) (by decide +kernel), Or.inl rfl⟩
theorem fw_X8_9_8 : FW RX8 9 8 0 2 (.array .int) true := ⟨RX8, TX8, 13, tyX8, rfl, by decide, by decide, rfl, in_X8, tb1 48 (by decide +kernel) (by decide +kernel), tyX8_ok, nmX8, by decide +kernel, rfl, fun h => by first | rfl | cases h⟩
theorem fk_X11_313_8 : FK RX11 313 8 0 2 := ⟨RX8, TX8, 13, rfl, by decide, by decide, rfl, in_X8, RX8, tb1 49 (by decide +kernel) (by decide +kernel), Or.inl rfl⟩
theorem fk_X8_15_8 : FK RX8 15 8 1 2 := ⟨RX8, TX8, 13, rfl, by decide, by decide, rfl, in_X8, RX8, tb1 50 (by decide +kernel) (by decide +kernel), Or.inl rfl⟩
theorem fw_X8_15_8 : FW RX8 15 8 1 2 (.array .int) true := ⟨RX8, TX8, 13, tyX8, rfl, by decide, by decide, rfl, in_X8, tb1 50 (by decide +kernel) (by decide +kernel), tyX8_ok, nmX8, by decide +kernel, rfl, fun h => by first | rfl | cases h⟩
theorem fk_X11_316_8 : FK RX11 316 8 1 2 := ⟨RX8, TX8, 13, rfl, by decide, by decide, rfl, in_X8, RX8, tb1 51 (by decide +kernel) (by decide +kernel), Or.inl rfl⟩
theorem fk_X8_18_8 : FK RX8 18 8 2 2 := ⟨RX8, TX8, 13, rfl, by decide, by decide, rfl, in_X8, RX8, tb1 52 (by decide +kernel) (by decide +kernel), Or.inl rfl⟩
theorem fw_X8_18_8 : FW RX8 18 8 2 2 (.array .int) true := ⟨RX8, TX8, 13, tyX8, rfl, by decide, by decide, rfl, in_X8, tb1 52 (by decide +kernel) (by decide +kernel), tyX8_ok, nmX8, by decide +kernel, rfl, fun h => by first | rfl | cases h⟩
theorem fk_X11_330_8 : FK RX11 330 8 2 2 := ⟨RX8, TX8, 13, rfl, by decide, by decide, rfl, in_X8, RX8, tb1 53 (by decide +kernel) (by decide +kernel), Or.inl rfl⟩
theorem fk_X8_21_8 : FK RX8 21 8 3 2 := ⟨RX8, TX8, 13, rfl, by decide, by decide, rfl, in_X8, RX8, tb1 54 (by decide +kernel) (by decide +kernel), Or.inl rfl⟩
theorem fw_X8_21_8 : FW RX8 21 8 3 2 (.array .int) true := ⟨RX8, TX8, 13, tyX8, rfl, by decide, by decide, rfl, in_X8, tb1 54 (by decide +kernel) (by decide +kernel), tyX8_ok, nmX8, by decide +kernel, rfl, fun h => by first | rfl | cases h⟩
theorem fk_X11_319_8 : FK RX11 319 8 3 2 := ⟨RX8, TX8, 13, rfl, by decide, by decide, rfl, in_X8, RX8, tb1 55 (by decide +kernel) (by decide +kernel), Or.inl rfl⟩
theorem fk_X8_30_8 : FK RX8 30 8 4 2 := ⟨RX8, TX8, 13, rfl, by decide, by decide, rfl, in_X8, RX8, tb1 56 (by decide +kernel) (by decide +kernel), Or.inl rfl⟩
theorem fw_X8_30_8 : FW RX8 30 8 4 2 (.object "RegularRally$Book") false := ⟨RX8, TX8, 13, tyX8, rfl, by decide, by decide, rfl, in_X8, tb1 56 (by decide +kernel) (by decide +kernel), tyX8_ok, nmX8, by decide +kernel, rfl, fun h => by first | rfl | cases h⟩
theorem fk_X11_333_8 : FK RX11 333 8 4 2 := ⟨RX8, TX8, 13, rfl, by decide, by decide, rfl, in_X8, RX8, tb1 57 (by decide +kernel) (by decide +kernel), Or.inl rfl⟩
theorem fw_X11_333_8 : FW RX11 333 8 4 2 (.object "RegularRally$Book") false := ⟨RX8, TX8, 13, tyX8, rfl, by decide, by decide, rfl, in_X8, tb1 57 (by decide +kernel) (by decide +kernel), tyX8_ok, nmX8, by decide +kernel, rfl, fun h => by first | rfl | cases h⟩
theorem fk_X8_24_8 : FK RX8 24 8 5 2 := ⟨RX8, TX8, 13, rfl, by decide, by decide, rfl, in_X8, RX8, tb1 58 (by decide +kernel) (by decide +kernel), Or.inl rfl⟩
theorem fw_X8_24_8 : FW RX8 24 8 5 2 (.array .int) true := ⟨RX8, TX8, 13, tyX8, rfl, by decide, by decide, rfl, in_X8, tb1 58 (by decide +kernel) (by decide +kernel), tyX8_ok, nmX8, by decide +kernel, rfl, fun h => by first | rfl | cases h⟩
theorem fk_X11_329_8 : FK RX11 329 8 5 2 := ⟨RX8, TX8, 13, rfl, by decide, by decide, rfl, in_X8, RX8, tb1 59 (by decide +kernel) (by decide +kernel), Or.inl rfl⟩
theorem fk_X8_34_8 : FK RX8 34 8 6 0 := ⟨RX8, TX8, 13, rfl, by decide, by decide, rfl, in_X8, RX8, tb1 60 (by decide +kernel) (by decide +kernel), Or.inl rfl⟩
theorem fw_X8_34_8 : FW RX8 34 8 6 0 (.int) false := ⟨RX8, TX8, 13, tyX8, rfl, by decide, by decide, rfl, in_X8, tb1 60 (by decide +kernel) (by decide +kernel), tyX8_ok, nmX8, by decide +kernel, rfl, fun h => by first | rfl | cases h⟩
theorem fk_X11_345_8 : FK RX11 345 8 6 0 := ⟨RX8, TX8, 13, rfl, by decide, by decide, rfl, in_X8, RX8, tb1 61 (by decide +kernel) (by decide +kernel), Or.inl rfl⟩
theorem fw_X11_345_8 : FW RX11 345 8 6 0 (.int) false := ⟨RX8, TX8, 13, tyX8, rfl, by decide, by decide, rfl, in_X8, tb1 61 (by decide +kernel) (by decide +kernel), tyX8_ok, nmX8, by decide +kernel, rfl, fun h => by first | rfl | cases h⟩
theorem fk_X8_38_8 : FK RX8 38 8 7 0 := ⟨RX8, TX8, 13, rfl, by decide, by decide, rfl, in_X8, RX8, tb1 62 (by decide +kernel) (by decide +kernel), Or.inl rfl⟩
theorem fw_X8_38_8 : FW RX8 38 8 7 0 (.int) false := ⟨RX8, TX8, 13, tyX8, rfl, by decide, by decide, rfl, in_X8, tb1 62 (by decide +kernel) (by decide +kernel), tyX8_ok, nmX8, by decide +kernel, rfl, fun h => by first | rfl | cases h⟩
theorem fk_X11_291_8 : FK RX11 291 8 7 0 := ⟨RX8, TX8, 13, rfl, by decide, by decide, rfl, in_X8, RX8, tb1 63 (by decide +kernel) (by decide +kernel), Or.inl rfl⟩
theorem fw_X11_291_8 : FW RX11 291 8 7 0 (.int) false := ⟨RX8, TX8, 13, tyX8, rfl, by decide, by decide, rfl, in_X8, tb1 63 (by decide +kernel) (by decide +kernel), tyX8_ok, nmX8, by decide +kernel, rfl, fun h => by first | rfl | cases h⟩
theorem fk_X8_41_8 : FK RX8 41 8 8 0 := ⟨RX8, TX8, 13, rfl, by decide, by decide, rfl, in_X8, RX8, tb1 64 (by decide +kernel) (by decide +kernel), Or.inl rfl⟩
theorem fw_X8_41_8 : FW RX8 41 8 8 0 (.boolean) false := ⟨RX8, TX8, 13, tyX8, rfl, by decide, by decide, rfl, in_X8, tb1 64 (by decide +kernel) (by decide +kernel), tyX8_ok, nmX8, by decide +kernel, rfl, fun h => by first | rfl | cases h⟩
theorem fk_X11_141_8 : FK RX11 141 8 8 0 := ⟨RX8, TX8, 13, rfl, by decide, by decide, rfl, in_X8, RX8, tb1 65 (by decide +kernel) (by decide +kernel), Or.inl rfl⟩
theorem fw_X11_141_8 : FW RX11 141 8 8 0 (.boolean) false := ⟨RX8, TX8, 13, tyX8, rfl, by decide, by decide, rfl, in_X8, tb1 65 (by decide +kernel) (by decide +kernel), tyX8_ok, nmX8, by decide +kernel, rfl, fun h => by first | rfl | cases h⟩
theorem fk_X8_27_8 : FK RX8 27 8 9 2 := ⟨RX8, TX8, 13, rfl, by decide, by decide, rfl, in_X8, RX8, tb1 66 (by decide +kernel) (by decide +kernel), Or.inl rfl⟩
theorem fw_X8_27_8 : FW RX8 27 8 9 2 (.array .int) true := ⟨RX8, TX8, 13, tyX8, rfl, by decide, by decide, rfl, in_X8, tb1 66 (by decide +kernel) (by decide +kernel), tyX8_ok, nmX8, by decide +kernel, rfl, fun h => by first | rfl | cases h⟩
theorem fk_X11_353_8 : FK RX11 353 8 9 2 := ⟨RX8, TX8, 13, rfl, by decide, by decide, rfl, in_X8, RX8, tb1 67 (by decide +kernel) (by decide +kernel), Or.inl rfl⟩
theorem fk_X8_64_8 : FK RX8 64 8 10 0 := ⟨RX8, TX8, 13, rfl, by decide, by decide, rfl, in_X8, RX8, tb1 68 (by decide +kernel) (by decide +kernel), Or.inl rfl⟩
theorem fw_X8_64_8 : FW RX8 64 8 10 0 (.int) false := ⟨RX8, TX8, 13, tyX8, rfl, by decide, by decide, rfl, in_X8, tb1 68 (by decide +kernel) (by decide +kernel), tyX8_ok, nmX8, by decide +kernel, rfl, fun h => by first | rfl | cases h⟩
theorem fk_X11_350_8 : FK RX11 350 8 10 0 := ⟨RX8, TX8, 13, rfl, by decide, by decide, rfl, in_X8, RX8, tb1 69 (by decide +kernel) (by decide +kernel), Or.inl rfl⟩
theorem fw_X11_350_8 : FW RX11 350 8 10 0 (.int) false := ⟨RX8, TX8, 13, tyX8, rfl, by decide, by decide, rfl, in_X8, tb1 69 (by decide +kernel) (by decide +kernel), tyX8_ok, nmX8, by decide +kernel, rfl, fun h => by first | rfl | cases h⟩
theorem fk_X8_61_8 : FK RX8 61 8 11 0 := ⟨RX8, TX8, 13, rfl, by decide, by decide, rfl, in_X8, RX8, tb1 70 (by decide +kernel) (by decide +kernel), Or.inl rfl⟩
theorem fw_X8_61_8 : FW RX8 61 8 11 0 (.int) false := ⟨RX8, TX8, 13, tyX8, rfl, by decide, by decide, rfl, in_X8, tb1 70 (by decide +kernel) (by decide +kernel), tyX8_ok, nmX8, by decide +kernel, rfl, fun h => by first | rfl | cases h⟩
theorem fk_X8_45_8 : FK RX8 45 8 12 0 := ⟨RX8, TX8, 13, rfl, by decide, by decide, rfl, in_X8, RX8, tb1 71 (by decide +kernel) (by decide +kernel), Or.inl rfl⟩
theorem fw_X8_45_8 : FW RX8 45 8 12 0 (.int) false := ⟨RX8, TX8, 13, tyX8, rfl, by decide, by decide, rfl, in_X8, tb1 71 (by decide +kernel) (by decide +kernel), tyX8_ok, nmX8, by decide +kernel, rfl, fun h => by first | rfl | cases h⟩
theorem fk_X11_144_8 : FK RX11 144 8 12 0 := ⟨RX8, TX8, 13, rfl, by decide, by decide, rfl, in_X8, RX8, tb1 72 (by decide +kernel) (by decide +kernel), Or.inl rfl⟩
theorem fw_X11_144_8 : FW RX11 144 8 12 0 (.int) false := ⟨RX8, TX8, 13, tyX8, rfl, by decide, by decide, rfl, in_X8, tb1 72 (by decide +kernel) (by decide +kernel), tyX8_ok, nmX8, by decide +kernel, rfl, fun h => by first | rfl | cases h⟩
theorem fk_X10_9_10 : FK RX10 9 10 0 2 := ⟨RX10, TX10, 7, rfl, by decide, by decide, rfl, in_X10, RX10, tb1 106 (by decide +kernel) (by decide +kernel), Or.inl rfl⟩
theorem fw_X10_9_10 : FW RX10 9 10 0 2 (.array .int) true := ⟨RX10, TX10, 7, tyX10, rfl, by decide, by decide, rfl, in_X10, tb1 106 (by decide +kernel) (by decide +kernel), tyX10_ok, nmX10, by decide +kernel, rfl, fun h => by first | rfl | cases h⟩
theorem fk_X11_151_10 : FK RX11 151 10 0 2 := ⟨RX10, TX10, 7, rfl, by decide, by decide, rfl, in_X10, RX10, tb1 107 (by decide +kernel) (by decide +kernel), Or.inl rfl⟩
theorem fk_X10_15_10 : FK RX10 15 10 1 2 := ⟨RX10, TX10, 7, rfl, by decide, by decide, rfl, in_X10, RX10, tb1 108 (by decide +kernel) (by decide +kernel), Or.inl rfl⟩
theorem fw_X10_15_10 : FW RX10 15 10 1 2 (.array .int) true := ⟨RX10, TX10, 7, tyX10, rfl, by decide, by decide, rfl, in_X10, tb1 108 (by decide +kernel) (by decide +kernel), tyX10_ok, nmX10, by decide +kernel, rfl, fun h => by first | rfl | cases h⟩
theorem fk_X10_24_10 : FK RX10 24 10 2 0 := ⟨RX10, TX10, 7, rfl, by decide, by decide, rfl, in_X10, RX10, tb1 109 (by decide +kernel) (by decide +kernel), Or.inl rfl⟩
theorem fw_X10_24_10 : FW RX10 24 10 2 0 (.int) false := ⟨RX10, TX10, 7, tyX10, rfl, by decide, by decide, rfl, in_X10, tb1 109 (by decide +kernel) (by decide +kernel), tyX10_ok, nmX10, by decide +kernel, rfl, fun h => by first | rfl | cases h⟩
theorem fk_X11_150_10 : FK RX11 150 10 2 0 := ⟨RX10, TX10, 7, rfl, by decide, by decide, rfl, in_X10, RX10, tb1 110 (by decide +kernel) (by decide +kernel), Or.inl rfl⟩
theorem fw_X11_150_10 : FW RX11 150 10 2 0 (.int) false := ⟨RX10, TX10, 7, tyX10, rfl, by decide, by decide, rfl, in_X10, tb1 110 (by decide +kernel) (by decide +kernel), tyX10_ok, nmX10, by decide +kernel, rfl, fun h => by first | rfl | cases h⟩
theorem fk_X10_28_10 : FK RX10 28 10 3 0 := ⟨RX10, TX10, 7, rfl, by decide, by decide, rfl, in_X10, RX10, tb1 111 (by decide +kernel) (by decide +kernel), Or.inl rfl⟩
theorem fw_X10_28_10 : FW RX10 28 10 3 0 (.int) false := ⟨RX10, TX10, 7, tyX10, rfl, by decide, by decide, rfl, in_X10, tb1 111 (by decide +kernel) (by decide +kernel), tyX10_ok, nmX10, by decide +kernel, rfl, fun h => by first | rfl | cases h⟩
theorem fk_X11_164_10 : FK RX11 164 10 3 0 := ⟨RX10, TX10, 7, rfl, by decide, by decide, rfl, in_X10, RX10, tb1 112 (by decide +kernel) (by decide +kernel), Or.inl rfl⟩
theorem fw_X11_164_10 : FW RX11 164 10 3 0 (.int) false := ⟨RX10, TX10, 7, tyX10, rfl, by decide, by decide, rfl, in_X10, tb1 112 (by decide +kernel) (by decide +kernel), tyX10_ok, nmX10, by decide +kernel, rfl, fun h => by first | rfl | cases h⟩
theorem fk_X10_18_10 : FK RX10 18 10 4 2 := ⟨RX10, TX10, 7, rfl, by decide, by decide, rfl, in_X10, RX10, tb1 113 (by decide +kernel) (by decide +kernel), Or.inl rfl⟩
theorem fw_X10_18_10 : FW RX10 18 10 4 2 (.array .int) true := ⟨RX10, TX10, 7, tyX10, rfl, by decide, by decide, rfl, in_X10, tb1 113 (by decide +kernel) (by decide +kernel), tyX10_ok, nmX10, by decide +kernel, rfl, fun h => by first | rfl | cases h⟩
theorem fk_X10_21_10 : FK RX10 21 10 5 2 := ⟨RX10, TX10, 7, rfl, by decide, by decide, rfl, in_X10, RX10, tb1 114 (by decide +kernel) (by decide +kernel), Or.inl rfl⟩
theorem fw_X10_21_10 : FW RX10 21 10 5 2 (.array .int) true := ⟨RX10, TX10, 7, tyX10, rfl, by decide, by decide, rfl, in_X10, tb1 114 (by decide +kernel) (by decide +kernel), tyX10_ok, nmX10, by decide +kernel, rfl, fun h => by first | rfl | cases h⟩
theorem fk_X10_31_10 : FK RX10 31 10 6 0 := ⟨RX10, TX10, 7, rfl, by decide, by decide, rfl, in_X10, RX10, tb1 115 (by decide +kernel) (by decide +kernel), Or.inl rfl⟩
theorem fw_X10_31_10 : FW RX10 31 10 6 0 (.int) false := ⟨RX10, TX10, 7, tyX10, rfl, by decide, by decide, rfl, in_X10, tb1 115 (by decide +kernel) (by decide +kernel), tyX10_ok, nmX10, by decide +kernel, rfl, fun h => by first | rfl | cases h⟩
theorem fk_X11_167_10 : FK RX11 167 10 6 0 := ⟨RX10, TX10, 7, rfl, by decide, by decide, rfl, in_X10, RX10, tb1 116 (by decide +kernel) (by decide +kernel), Or.inl rfl⟩
theorem fw_X11_167_10 : FW RX11 167 10 6 0 (.int) false := ⟨RX10, TX10, 7, tyX10, rfl, by decide, by decide, rfl, in_X10, tb1 116 (by decide +kernel) (by decide +kernel), tyX10_ok, nmX10, by decide +kernel, rfl, fun h => by first | rfl | cases h⟩
theorem fk_X9_9_9 : FK RX9 9 9 0 2 := ⟨RX9, TX9, 4, rfl, by decide, by decide, rfl, in_X9, RX9, tb1 143 (by decide +kernel) (by decide +kernel), Or.inl rfl⟩
theorem fw_X9_9_9 : FW RX9 9 9 0 2 (.array .int) true := ⟨RX9, TX9, 4, tyX9, rfl, by decide, by decide, rfl, in_X9, tb1 143 (by decide +kernel) (by decide +kernel), tyX9_ok, nmX9, by decide +kernel, rfl, fun h => by first | rfl | cases h⟩
theorem fk_X11_123_9 : FK RX11 123 9 0 2 := ⟨RX9, TX9, 4, rfl, by decide, by decide, rfl, in_X9, RX9, tb1 144 (by decide +kernel) (by decide +kernel), Or.inl rfl⟩
theorem fk_X9_15_9 : FK RX9 15 9 1 0 := ⟨RX9, TX9, 4, rfl, by decide, by decide, rfl, in_X9, RX9, tb1 145 (by decide +kernel) (by decide +kernel), Or.inl rfl⟩
theorem fw_X9_15_9 : FW RX9 15 9 1 0 (.boolean) false := ⟨RX9, TX9, 4, tyX9, rfl, by decide, by decide, rfl, in_X9, tb1 145 (by decide +kernel) (by decide +kernel), tyX9_ok, nmX9, by decide +kernel, rfl, fun h => by first | rfl | cases h⟩
theorem fk_X11_258_9 : FK RX11 258 9 1 0 := ⟨RX9, TX9, 4, rfl, by decide, by decide, rfl, in_X9, RX9, tb1 146 (by decide +kernel) (by decide +kernel), Or.inl rfl⟩
theorem fw_X11_258_9 : FW RX11 258 9 1 0 (.boolean) false := ⟨RX9, TX9, 4, tyX9, rfl, by decide, by decide, rfl, in_X9, tb1 146 (by decide +kernel) (by decide +kernel), tyX9_ok, nmX9, by decide +kernel, rfl, fun h => by first | rfl | cases h⟩
theorem fk_X9_19_9 : FK RX9 19 9 2 0 := ⟨RX9, TX9, 4, rfl, by decide, by decide, rfl, in_X9, RX9, tb1 147 (by decide +kernel) (by decide +kernel), Or.inl rfl⟩
theorem fw_X9_19_9 : FW RX9 19 9 2 0 (.int) false := ⟨RX9, TX9, 4, tyX9, rfl, by decide, by decide, rfl, in_X9, tb1 147 (by decide +kernel) (by decide +kernel), tyX9_ok, nmX9, by decide +kernel, rfl, fun h => by first | rfl | cases h⟩
theorem fk_X11_261_9 : FK RX11 261 9 2 0 := ⟨RX9, TX9, 4, rfl, by decide, by decide, rfl, in_X9, RX9, tb1 148 (by decide +kernel) (by decide +kernel), Or.inl rfl⟩
theorem fw_X11_261_9 : FW RX11 261 9 2 0 (.int) false := ⟨RX9, TX9, 4, tyX9, rfl, by decide, by decide, rfl, in_X9, tb1 148 (by decide +kernel) (by decide +kernel), tyX9_ok, nmX9, by decide +kernel, rfl, fun h => by first | rfl | cases h⟩
theorem fk_X9_23_9 : FK RX9 23 9 3 0 := ⟨RX9, TX9, 4, rfl, by decide, by decide, rfl, in_X9, RX9, tb1 149 (by decide +kernel) (by decide +kernel), Or.inl rfl⟩
theorem fw_X9_23_9 : FW RX9 23 9 3 0 (.int) false := ⟨RX9, TX9, 4, tyX9, rfl, by decide, by decide, rfl, in_X9, tb1 149 (by decide +kernel) (by decide +kernel), tyX9_ok, nmX9, by decide +kernel, rfl, fun h => by first | rfl | cases h⟩
theorem fk_X11_13_11 : FK RX11 13 11 0 2 := ⟨RX11, TX11, 12, rfl, by decide, by decide, rfl, in_X11, RX11, tb1 159 (by decide +kernel) (by decide +kernel), Or.inl rfl⟩
theorem fw_X11_13_11 : FW RX11 13 11 0 2 (.array (.object "RegularRally$Road")) true := ⟨RX11, TX11, 12, tyX11, rfl, by decide, by decide, rfl, in_X11, tb1 159 (by decide +kernel) (by decide +kernel), tyX11_ok, nmX11, by decide +kernel, rfl, fun h => by first | rfl | cases h⟩
theorem fk_X11_65_11 : FK RX11 65 11 1 0 := ⟨RX11, TX11, 12, rfl, by decide, by decide, rfl, in_X11, RX11, tb1 160 (by decide +kernel) (by decide +kernel), Or.inl rfl⟩
theorem fw_X11_65_11 : FW RX11 65 11 1 0 (.int) false := ⟨RX11, TX11, 12, tyX11, rfl, by decide, by decide, rfl, in_X11, tb1 160 (by decide +kernel) (by decide +kernel), tyX11_ok, nmX11, by decide +kernel, rfl, fun h => by first | rfl | cases h⟩
theorem fk_X11_20_11 : FK RX11 20 11 2 2 := ⟨RX11, TX11, 12, rfl, by decide, by decide, rfl, in_X11, RX11, tb1 161 (by decide +kernel) (by decide +kernel), Or.inl rfl⟩
theorem fw_X11_20_11 : FW RX11 20 11 2 2 (.object "RegularRally$Book") true := ⟨RX11, TX11, 12, tyX11, rfl, by decide, by decide, rfl, in_X11, tb1 161 (by decide +kernel) (by decide +kernel), tyX11_ok, nmX11, by decide +kernel, rfl, fun h => by first | rfl | cases h⟩
theorem fk_X11_27_11 : FK RX11 27 11 3 2 := ⟨RX11, TX11, 12, rfl, by decide, by decide, rfl, in_X11, RX11, tb1 162 (by decide +kernel) (by decide +kernel), Or.inl rfl⟩
theorem fw_X11_27_11 : FW RX11 27 11 3 2 (.object "RegularRally$Search") true := ⟨RX11, TX11, 12, tyX11, rfl, by decide, by decide, rfl, in_X11, tb1 162 (by decide +kernel) (by decide +kernel), tyX11_ok, nmX11, by decide +kernel, rfl, fun h => by first | rfl | cases h⟩
theorem fk_X11_34_11 : FK RX11 34 11 4 2 := ⟨RX11, TX11, 12, rfl, by decide, by decide, rfl, in_X11, RX11, tb1 163 (by decide +kernel) (by decide +kernel), Or.inl rfl⟩
theorem fw_X11_34_11 : FW RX11 34 11 4 2 (.object "RegularRally$Way") true := ⟨RX11, TX11, 12, tyX11, rfl, by decide, by decide, rfl, in_X11, tb1 163 (by decide +kernel) (by decide +kernel), tyX11_ok, nmX11, by decide +kernel, rfl, fun h => by first | rfl | cases h⟩
theorem fk_X11_40_11 : FK RX11 40 11 5 2 := ⟨RX11, TX11, 12, rfl, by decide, by decide, rfl, in_X11, RX11, tb1 164 (by decide +kernel) (by decide +kernel), Or.inl rfl⟩
theorem fw_X11_40_11 : FW RX11 40 11 5 2 (.array (.object "RegularRally$Control")) true := ⟨RX11, TX11, 12, tyX11, rfl, by decide, by decide, rfl, in_X11, tb1 164 (by decide +kernel) (by decide +kernel), tyX11_ok, nmX11, by decide +kernel, rfl, fun h => by first | rfl | cases h⟩
theorem fk_X11_186_11 : FK RX11 186 11 6 0 := ⟨RX11, TX11, 12, rfl, by decide, by decide, rfl, in_X11, RX11, tb1 165 (by decide +kernel) (by decide +kernel), Or.inl rfl⟩
theorem fw_X11_186_11 : FW RX11 186 11 6 0 (.int) false := ⟨RX11, TX11, 12, tyX11, rfl, by decide, by decide, rfl, in_X11, tb1 165 (by decide +kernel) (by decide +kernel), tyX11_ok, nmX11, by decide +kernel, rfl, fun h => by first | rfl | cases h⟩
theorem fk_X11_46_11 : FK RX11 46 11 7 2 := ⟨RX11, TX11, 12, rfl, by decide, by decide, rfl, in_X11, RX11, tb1 166 (by decide +kernel) (by decide +kernel), Or.inl rfl⟩
theorem fw_X11_46_11 : FW RX11 46 11 7 2 (.array (.object "RegularRally$Car")) true := ⟨RX11, TX11, 12, tyX11, rfl, by decide, by decide, rfl, in_X11, tb1 166 (by decide +kernel) (by decide +kernel), tyX11_ok, nmX11, by decide +kernel, rfl, fun h => by first | rfl | cases h⟩
theorem fk_X11_214_11 : FK RX11 214 11 8 0 := ⟨RX11, TX11, 12, rfl, by decide, by decide, rfl, in_X11, RX11, tb1 167 (by decide +kernel) (by decide +kernel), Or.inl rfl⟩
theorem fw_X11_214_11 : FW RX11 214 11 8 0 (.int) false := ⟨RX11, TX11, 12, tyX11, rfl, by decide, by decide, rfl, in_X11, tb1 167 (by decide +kernel) (by decide +kernel), tyX11_ok, nmX11, by decide +kernel, rfl, fun h => by first | rfl | cases h⟩
theorem fk_X11_52_11 : FK RX11 52 11 9 2 := ⟨RX11, TX11, 12, rfl, by decide, by decide, rfl, in_X11, RX11, tb1 168 (by decide +kernel) (by decide +kernel), Or.inl rfl⟩
theorem fw_X11_52_11 : FW RX11 52 11 9 2 (.array (.object "RegularRally$Sheet")) true := ⟨RX11, TX11, 12, tyX11, rfl, by decide, by decide, rfl, in_X11, tb1 168 (by decide +kernel) (by decide +kernel), tyX11_ok, nmX11, by decide +kernel, rfl, fun h => by first | rfl | cases h⟩
theorem fk_X11_288_11 : FK RX11 288 11 10 0 := ⟨RX11, TX11, 12, rfl, by decide, by decide, rfl, in_X11, RX11, tb1 169 (by decide +kernel) (by decide +kernel), Or.inl rfl⟩
theorem fw_X11_288_11 : FW RX11 288 11 10 0 (.int) false := ⟨RX11, TX11, 12, tyX11, rfl, by decide, by decide, rfl, in_X11, tb1 169 (by decide +kernel) (by decide +kernel), tyX11_ok, nmX11, by decide +kernel, rfl, fun h => by first | rfl | cases h⟩
theorem fk_X11_81_11 : FK RX11 81 11 11 0 := ⟨RX11, TX11, 12, rfl, by decide, by decide, rfl, in_X11, RX11, tb1 170 (by decide +kernel) (by decide +kernel), Or.inl rfl⟩
theorem fw_X11_81_11 : FW RX11 81 11 11 0 (.int) false := ⟨RX11, TX11, 12, tyX11, rfl, by decide, by decide, rfl, in_X11, tb1 170 (by decide +kernel) (by decide +kernel), tyX11_ok, nmX11, by decide +kernel, rfl, fun h => by first | rfl | cases h⟩
theorem fk_X7_9_3 : FK RX7 9 3 0 0 := ⟨RX3, TX3, 6, rfl, by decide, by decide, rfl, in_X3, RX7, tb1 218 (by decide +kernel) (by decide +kernel), Or.inl rfl⟩
theorem fw_X7_9_3 : FW RX7 9 3 0 0 (.int) true := ⟨RX3, TX3, 6, tyX3, rfl, by decide, by decide, rfl, in_X3, tb1 218 (by decide +kernel) (by decide +kernel), tyX3_ok, nmX3, by decide +kernel, rfl, fun h => by first | rfl | cases h⟩
theorem fk_X7_9_6 : FK RX7 9 6 0 0 := ⟨RX6, TX6, 5, rfl, by decide, by decide, rfl, in_X6, RX7, tb1 218 (by decide +kernel) (by decide +kernel), Or.inl rfl⟩
theorem fw_X7_9_6 : FW RX7 9 6 0 0 (.int) true := ⟨RX6, TX6, 5, tyX6, rfl, by decide, by decide, rfl, in_X6, tb1 218 (by decide +kernel) (by decide +kernel), tyX6_ok, nmX6, by decide +kernel, rfl, fun h => by first | rfl | cases h⟩
theorem fk_X7_9_7 : FK RX7 9 7 0 0 := ⟨RX7, TX7, 5, rfl, by decide, by decide, rfl, in_X7, RX7, tb1 218 (by decide +kernel) (by decide +kernel), Or.inl rfl⟩
theorem fw_X7_9_7 : FW RX7 9 7 0 0 (.int) true := ⟨RX7, TX7, 5, tyX7, rfl, by decide, by decide, rfl, in_X7, tb1 218 (by decide +kernel) (by decide +kernel), tyX7_ok, nmX7, by decide +kernel, rfl, fun h => by first | rfl | cases h⟩
theorem fk_X6_9_6 : FK RX6 9 6 0 0 := ⟨RX6, TX6, 5, rfl, by decide, by decide, rfl, in_X6, RX6, tb1 219 (by decide +kernel) (by decide +kernel), Or.inr (tb1 220 (by decide +kernel) (by decide +kernel))⟩
theorem fk_X11_93_3 : FK RX11 93 3 0 0 := ⟨RX3, TX3, 6, rfl, by decide, by decide, rfl, in_X3, RX7, tb1 221 (by decide +kernel) (by decide +kernel), Or.inl rfl⟩
theorem fk_X11_93_6 : FK RX11 93 6 0 0 := ⟨RX6, TX6, 5, rfl, by decide, by decide, rfl, in_X6, RX7, tb1 221 (by decide +kernel) (by decide +kernel), Or.inl rfl⟩
theorem fk_X11_93_7 : FK RX11 93 7 0 0 := ⟨RX7, TX7, 5, rfl, by decide, by decide, rfl, in_X7, RX7, tb1 221 (by decide +kernel) (by decide +kernel), Or.inl rfl⟩
theorem fk_X7_15_3 : FK RX7 15 3 1 0 := ⟨RX3, TX3, 6, rfl, by decide, by decide, rfl, in_X3, RX7, tb1 222 (by decide +kernel) (by decide +kernel), Or.inl rfl⟩
theorem fw_X7_15_3 : FW RX7 15 3 1 0 (.int) true := ⟨RX3, TX3, 6, tyX3, rfl, by decide, by decide, rfl, in_X3, tb1 222 (by decide +kernel) (by decide +kernel), tyX3_ok, nmX3, by decide +kernel, rfl, fun h => by first | rfl | cases h⟩
theorem fk_X7_15_6 : FK RX7 15 6 1 0 := ⟨RX6, TX6, 5, rfl, by decide, by decide, rfl, in_X6, RX7, tb1 222 (by decide +kernel) (by decide +kernel), Or.inl rfl⟩
theorem fw_X7_15_6 : FW RX7 15 6 1 0 (.int) true := ⟨RX6, TX6, 5, tyX6, rfl, by decide, by decide, rfl, in_X6, tb1 222 (by decide +kernel) (by decide +kernel), tyX6_ok, nmX6, by decide +kernel, rfl, fun h => by first | rfl | cases h⟩
theorem fk_X7_15_7 : FK RX7 15 7 1 0 := ⟨RX7, TX7, 5, rfl, by decide, by decide, rfl, in_X7, RX7, tb1 222 (by decide +kernel) (by decide +kernel), Or.inl rfl⟩
theorem fw_X7_15_7 : FW RX7 15 7 1 0 (.int) true := ⟨RX7, TX7, 5, tyX7, rfl, by decide, by decide, rfl, in_X7, tb1 222 (by decide +kernel) (by decide +kernel), tyX7_ok, nmX7, by decide +kernel, rfl, fun h => by first | rfl | cases h⟩
theorem fk_X11_96_3 : FK RX11 96 3 1 0 := ⟨RX3, TX3, 6, rfl, by decide, by decide, rfl, in_X3, RX7, tb1 223 (by decide +kernel) (by decide +kernel), Or.inl rfl⟩
theorem fk_X11_96_6 : FK RX11 96 6 1 0 := ⟨RX6, TX6, 5, rfl, by decide, by decide, rfl, in_X6, RX7, tb1 223 (by decide +kernel) (by decide +kernel), Or.inl rfl⟩
theorem fk_X11_96_7 : FK RX11 96 7 1 0 := ⟨RX7, TX7, 5, rfl, by decide, by decide, rfl, in_X7, RX7, tb1 223 (by decide +kernel) (by decide +kernel), Or.inl rfl⟩
theorem fk_X7_18_3 : FK RX7 18 3 2 0 := ⟨RX3, TX3, 6, rfl, by decide, by decide, rfl, in_X3, RX7, tb1 224 (by decide +kernel) (by decide +kernel), Or.inl rfl⟩
theorem fw_X7_18_3 : FW RX7 18 3 2 0 (.int) true := ⟨RX3, TX3, 6, tyX3, rfl, by decide, by decide, rfl, in_X3, tb1 224 (by decide +kernel) (by decide +kernel), tyX3_ok, nmX3, by decide +kernel, rfl, fun h => by first | rfl | cases h⟩
theorem fk_X7_18_6 : FK RX7 18 6 2 0 := ⟨RX6, TX6, 5, rfl, by decide, by decide, rfl, in_X6, RX7, tb1 224 (by decide +kernel) (by decide +kernel), Or.inl rfl⟩
theorem fw_X7_18_6 : FW RX7 18 6 2 0 (.int) true := ⟨RX6, TX6, 5, tyX6, rfl, by decide, by decide, rfl, in_X6, tb1 224 (by decide +kernel) (by decide +kernel), tyX6_ok, nmX6, by decide +kernel, rfl, fun h => by first | rfl | cases h⟩
theorem fk_X7_18_7 : FK RX7 18 7 2 0 := ⟨RX7, TX7, 5, rfl, by decide, by decide, rfl, in_X7, RX7, tb1 224 (by decide +kernel) (by decide +kernel), Or.inl rfl⟩
theorem fw_X7_18_7 : FW RX7 18 7 2 0 (.int) true := ⟨RX7, TX7, 5, tyX7, rfl, by decide, by decide, rfl, in_X7, tb1 224 (by decide +kernel) (by decide +kernel), tyX7_ok, nmX7, by decide +kernel, rfl, fun h => by first | rfl | cases h⟩
theorem fk_X8_58_3 : FK RX8 58 3 2 0 := ⟨RX3, TX3, 6, rfl, by decide, by decide, rfl, in_X3, RX7, tb1 225 (by decide +kernel) (by decide +kernel), Or.inl rfl⟩
theorem fk_X8_58_6 : FK RX8 58 6 2 0 := ⟨RX6, TX6, 5, rfl, by decide, by decide, rfl, in_X6, RX7, tb1 225 (by decide +kernel) (by decide +kernel), Or.inl rfl⟩
theorem fk_X8_58_7 : FK RX8 58 7 2 0 := ⟨RX7, TX7, 5, rfl, by decide, by decide, rfl, in_X7, RX7, tb1 225 (by decide +kernel) (by decide +kernel), Or.inl rfl⟩
theorem fk_X11_99_3 : FK RX11 99 3 2 0 := ⟨RX3, TX3, 6, rfl, by decide, by decide, rfl, in_X3, RX7, tb1 226 (by decide +kernel) (by decide +kernel), Or.inl rfl⟩
theorem fk_X11_99_6 : FK RX11 99 6 2 0 := ⟨RX6, TX6, 5, rfl, by decide, by decide, rfl, in_X6, RX7, tb1 226 (by decide +kernel) (by decide +kernel), Or.inl rfl⟩
theorem fk_X11_99_7 : FK RX11 99 7 2 0 := ⟨RX7, TX7, 5, rfl, by decide, by decide, rfl, in_X7, RX7, tb1 226 (by decide +kernel) (by decide +kernel), Or.inl rfl⟩
theorem fk_X7_21_3 : FK RX7 21 3 3 0 := ⟨RX3, TX3, 6, rfl, by decide, by decide, rfl, in_X3, RX7, tb1 227 (by decide +kernel) (by decide +kernel), Or.inl rfl⟩
theorem fw_X7_21_3 : FW RX7 21 3 3 0 (.int) true := ⟨RX3, TX3, 6, tyX3, rfl, by decide, by decide, rfl, in_X3, tb1 227 (by decide +kernel) (by decide +kernel), tyX3_ok, nmX3, by decide +kernel, rfl, fun h => by first | rfl | cases h⟩
theorem fk_X7_21_6 : FK RX7 21 6 3 0 := ⟨RX6, TX6, 5, rfl, by decide, by decide, rfl, in_X6, RX7, tb1 227 (by decide +kernel) (by decide +kernel), Or.inl rfl⟩
theorem fw_X7_21_6 : FW RX7 21 6 3 0 (.int) true := ⟨RX6, TX6, 5, tyX6, rfl, by decide, by decide, rfl, in_X6, tb1 227 (by decide +kernel) (by decide +kernel), tyX6_ok, nmX6, by decide +kernel, rfl, fun h => by first | rfl | cases h⟩
theorem fk_X7_21_7 : FK RX7 21 7 3 0 := ⟨RX7, TX7, 5, rfl, by decide, by decide, rfl, in_X7, RX7, tb1 227 (by decide +kernel) (by decide +kernel), Or.inl rfl⟩
theorem fw_X7_21_7 : FW RX7 21 7 3 0 (.int) true := ⟨RX7, TX7, 5, tyX7, rfl, by decide, by decide, rfl, in_X7, tb1 227 (by decide +kernel) (by decide +kernel), tyX7_ok, nmX7, by decide +kernel, rfl, fun h => by first | rfl | cases h⟩
theorem fk_X11_102_3 : FK RX11 102 3 3 0 := ⟨RX3, TX3, 6, rfl, by decide, by decide, rfl, in_X3, RX7, tb1 228 (by decide +kernel) (by decide +kernel), Or.inl rfl⟩
theorem fk_X11_102_6 : FK RX11 102 6 3 0 := ⟨RX6, TX6, 5, rfl, by decide, by decide, rfl, in_X6, RX7, tb1 228 (by decide +kernel) (by decide +kernel), Or.inl rfl⟩
theorem fk_X11_102_7 : FK RX11 102 7 3 0 := ⟨RX7, TX7, 5, rfl, by decide, by decide, rfl, in_X7, RX7, tb1 228 (by decide +kernel) (by decide +kernel), Or.inl rfl⟩
theorem fk_X7_24_3 : FK RX7 24 3 4 0 := ⟨RX3, TX3, 6, rfl, by decide, by decide, rfl, in_X3, RX7, tb1 229 (by decide +kernel) (by decide +kernel), Or.inl rfl⟩
theorem fw_X7_24_3 : FW RX7 24 3 4 0 (.boolean) false := ⟨RX3, TX3, 6, tyX3, rfl, by decide, by decide, rfl, in_X3, tb1 229 (by decide +kernel) (by decide +kernel), tyX3_ok, nmX3, by decide +kernel, rfl, fun h => by first | rfl | cases h⟩
theorem fk_X7_24_6 : FK RX7 24 6 4 0 := ⟨RX6, TX6, 5, rfl, by decide, by decide, rfl, in_X6, RX7, tb1 229 (by decide +kernel) (by decide +kernel), Or.inl rfl⟩
theorem fw_X7_24_6 : FW RX7 24 6 4 0 (.boolean) false := ⟨RX6, TX6, 5, tyX6, rfl, by decide, by decide, rfl, in_X6, tb1 229 (by decide +kernel) (by decide +kernel), tyX6_ok, nmX6, by decide +kernel, rfl, fun h => by first | rfl | cases h⟩
theorem fk_X7_24_7 : FK RX7 24 7 4 0 := ⟨RX7, TX7, 5, rfl, by decide, by decide, rfl, in_X7, RX7, tb1 229 (by decide +kernel) (by decide +kernel), Or.inl rfl⟩
theorem fw_X7_24_7 : FW RX7 24 7 4 0 (.boolean) false := ⟨RX7, TX7, 5, tyX7, rfl, by decide, by decide, rfl, in_X7, tb1 229 (by decide +kernel) (by decide +kernel), tyX7_ok, nmX7, by decide +kernel, rfl, fun h => by first | rfl | cases h⟩
theorem fk_X11_77_3 : FK RX11 77 3 4 0 := ⟨RX3, TX3, 6, rfl, by decide, by decide, rfl, in_X3, RX7, tb1 230 (by decide +kernel) (by decide +kernel), Or.inl rfl⟩
theorem fw_X11_77_3 : FW RX11 77 3 4 0 (.boolean) false := ⟨RX3, TX3, 6, tyX3, rfl, by decide, by decide, rfl, in_X3, tb1 230 (by decide +kernel) (by decide +kernel), tyX3_ok, nmX3, by decide +kernel, rfl, fun h => by first | rfl | cases h⟩
theorem fk_X11_77_6 : FK RX11 77 6 4 0 := ⟨RX6, TX6, 5, rfl, by decide, by decide, rfl, in_X6, RX7, tb1 230 (by decide +kernel) (by decide +kernel), Or.inl rfl⟩
theorem fw_X11_77_6 : FW RX11 77 6 4 0 (.boolean) false := ⟨RX6, TX6, 5, tyX6, rfl, by decide, by decide, rfl, in_X6, tb1 230 (by decide +kernel) (by decide +kernel), tyX6_ok, nmX6, by decide +kernel, rfl, fun h => by first | rfl | cases h⟩
theorem fk_X11_77_7 : FK RX11 77 7 4 0 := ⟨RX7, TX7, 5, rfl, by decide, by decide, rfl, in_X7, RX7, tb1 230 (by decide +kernel) (by decide +kernel), Or.inl rfl⟩
theorem fw_X11_77_7 : FW RX11 77 7 4 0 (.boolean) false := ⟨RX7, TX7, 5, tyX7, rfl, by decide, by decide, rfl, in_X7, tb1 230 (by decide +kernel) (by decide +kernel), tyX7_ok, nmX7, by decide +kernel, rfl, fun h => by first | rfl | cases h⟩
theorem fk_X3_7_3 : FK RX3 7 3 5 0 := ⟨RX3, TX3, 6, rfl, by decide, by decide, rfl, in_X3, RX3, tb2 8 (by decide +kernel) (by decide +kernel), Or.inl rfl⟩
theorem fw_X3_7_3 : FW RX3 7 3 5 0 (.boolean) false := ⟨RX3, TX3, 6, tyX3, rfl, by decide, by decide, rfl, in_X3, tb2 8 (by decide +kernel) (by decide +kernel), tyX3_ok, nmX3, by decide +kernel, rfl, fun h => by first | rfl | cases h⟩
theorem fk_X11_86_3 : FK RX11 86 3 5 0 := ⟨RX3, TX3, 6, rfl, by decide, by decide, rfl, in_X3, RX3, tb2 9 (by decide +kernel) (by decide +kernel), Or.inl rfl⟩
theorem fw_X11_86_3 : FW RX11 86 3 5 0 (.boolean) false := ⟨RX3, TX3, 6, tyX3, rfl, by decide, by decide, rfl, in_X3, tb2 9 (by decide +kernel) (by decide +kernel), tyX3_ok, nmX3, by decide +kernel, rfl, fun h => by first | rfl | cases h⟩
theorem fk_X2_7_2 : FK RX2 7 2 0 0 := ⟨RX2, TX2, 6, rfl, by decide, by decide, rfl, in_X2, RX2, tb2 229 (by decide +kernel) (by decide +kernel), Or.inl rfl⟩
theorem fw_X2_7_2 : FW RX2 7 2 0 0 (.int) true := ⟨RX2, TX2, 6, tyX2, rfl, by decide, by decide, rfl, in_X2, tb2 229 (by decide +kernel) (by decide +kernel), tyX2_ok, nmX2, by decide +kernel, rfl, fun h => by first | rfl | cases h⟩
theorem fk_X11_367_2 : FK RX11 367 2 0 0 := ⟨RX2, TX2, 6, rfl, by decide, by decide, rfl, in_X2, RX2, tb2 230 (by decide +kernel) (by decide +kernel), Or.inl rfl⟩
theorem fk_X11_210_2 : FK RX11 210 2 1 0 := ⟨RX2, TX2, 6, rfl, by decide, by decide, rfl, in_X2, RX2, tb2 231 (by decide +kernel) (by decide +kernel), Or.inl rfl⟩
theorem fw_X11_210_2 : FW RX11 210 2 1 0 (.boolean) false := ⟨RX2, TX2, 6, tyX2, rfl, by decide, by decide, rfl, in_X2, tb2 231 (by decide +kernel) (by decide +kernel), tyX2_ok, nmX2, by decide +kernel, rfl, fun h => by first | rfl | cases h⟩
theorem fk_X2_13_2 : FK RX2 13 2 2 0 := ⟨RX2, TX2, 6, rfl, by decide, by decide, rfl, in_X2, RX2, tb2 232 (by decide +kernel) (by decide +kernel), Or.inl rfl⟩
theorem fw_X2_13_2 : FW RX2 13 2 2 0 (.int) false := ⟨RX2, TX2, 6, tyX2, rfl, by decide, by decide, rfl, in_X2, tb2 232 (by decide +kernel) (by decide +kernel), tyX2_ok, nmX2, by decide +kernel, rfl, fun h => by first | rfl | cases h⟩
theorem fk_X2_16_2 : FK RX2 16 2 3 1 := ⟨RX2, TX2, 6, rfl, by decide, by decide, rfl, in_X2, RX2, tb2 233 (by decide +kernel) (by decide +kernel), Or.inl rfl⟩
theorem fw_X2_16_2 : FW RX2 16 2 3 1 (.long) false := ⟨RX2, TX2, 6, tyX2, rfl, by decide, by decide, rfl, in_X2, tb2 233 (by decide +kernel) (by decide +kernel), tyX2_ok, nmX2, by decide +kernel, rfl, fun h => by first | rfl | cases h⟩
theorem fk_X2_20_2 : FK RX2 20 2 4 0 := ⟨RX2, TX2, 6, rfl, by decide, by decide, rfl, in_X2, RX2, tb2 234 (by decide +kernel) (by decide +kernel), Or.inl rfl⟩
theorem fw_X2_20_2 : FW RX2 20 2 4 0 (.int) false := ⟨RX2, TX2, 6, tyX2, rfl, by decide, by decide, rfl, in_X2, tb2 234 (by decide +kernel) (by decide +kernel), tyX2_ok, nmX2, by decide +kernel, rfl, fun h => by first | rfl | cases h⟩
theorem fk_X2_23_2 : FK RX2 23 2 5 1 := ⟨RX2, TX2, 6, rfl, by decide, by decide, rfl, in_X2, RX2, tb2 235 (by decide +kernel) (by decide +kernel), Or.inl rfl⟩
theorem fw_X2_23_2 : FW RX2 23 2 5 1 (.long) false := ⟨RX2, TX2, 6, tyX2, rfl, by decide, by decide, rfl, in_X2, tb2 235 (by decide +kernel) (by decide +kernel), tyX2_ok, nmX2, by decide +kernel, rfl, fun h => by first | rfl | cases h⟩
theorem fk_X1_21_1 : FK RX1 21 1 0 0 := ⟨RX1, TX1, 6, rfl, by decide, by decide, rfl, in_X1, RX1, tb3 57 (by decide +kernel) (by decide +kernel), Or.inl rfl⟩
theorem fw_X1_21_1 : FW RX1 21 1 0 0 (.int) true := ⟨RX1, TX1, 6, tyX1, rfl, by decide, by decide, rfl, in_X1, tb3 57 (by decide +kernel) (by decide +kernel), tyX1_ok, nmX1, by decide +kernel, rfl, fun h => by first | rfl | cases h⟩
theorem fk_X1_21_4 : FK RX1 21 4 0 0 := ⟨RX4, TX4, 6, rfl, by decide, by decide, rfl, in_X4, RX1, tb3 57 (by decide +kernel) (by decide +kernel), Or.inl rfl⟩
theorem fw_X1_21_4 : FW RX1 21 4 0 0 (.int) true := ⟨RX4, TX4, 6, tyX4, rfl, by decide, by decide, rfl, in_X4, tb3 57 (by decide +kernel) (by decide +kernel), tyX4_ok, nmX4, by decide +kernel, rfl, fun h => by first | rfl | cases h⟩
theorem fk_X1_21_5 : FK RX1 21 5 0 0 := ⟨RX5, TX5, 6, rfl, by decide, by decide, rfl, in_X5, RX1, tb3 57 (by decide +kernel) (by decide +kernel), Or.inl rfl⟩
theorem fw_X1_21_5 : FW RX1 21 5 0 0 (.int) true := ⟨RX5, TX5, 6, tyX5, rfl, by decide, by decide, rfl, in_X5, tb3 57 (by decide +kernel) (by decide +kernel), tyX5_ok, nmX5, by decide +kernel, rfl, fun h => by first | rfl | cases h⟩
theorem fk_X11_427_1 : FK RX11 427 1 0 0 := ⟨RX1, TX1, 6, rfl, by decide, by decide, rfl, in_X1, RX1, tb3 58 (by decide +kernel) (by decide +kernel), Or.inl rfl⟩
theorem fk_X11_427_4 : FK RX11 427 4 0 0 := ⟨RX4, TX4, 6, rfl, by decide, by decide, rfl, in_X4, RX1, tb3 58 (by decide +kernel) (by decide +kernel), Or.inl rfl⟩
theorem fk_X11_427_5 : FK RX11 427 5 0 0 := ⟨RX5, TX5, 6, rfl, by decide, by decide, rfl, in_X5, RX1, tb3 58 (by decide +kernel) (by decide +kernel), Or.inl rfl⟩
theorem fk_X1_25_1 : FK RX1 25 1 1 0 := ⟨RX1, TX1, 6, rfl, by decide, by decide, rfl, in_X1, RX1, tb3 59 (by decide +kernel) (by decide +kernel), Or.inl rfl⟩
theorem fw_X1_25_1 : FW RX1 25 1 1 0 (.int) true := ⟨RX1, TX1, 6, tyX1, rfl, by decide, by decide, rfl, in_X1, tb3 59 (by decide +kernel) (by decide +kernel), tyX1_ok, nmX1, by decide +kernel, rfl, fun h => by first | rfl | cases h⟩
theorem fk_X1_25_4 : FK RX1 25 4 1 0 := ⟨RX4, TX4, 6, rfl, by decide, by decide, rfl, in_X4, RX1, tb3 59 (by decide +kernel) (by decide +kernel), Or.inl rfl⟩
theorem fw_X1_25_4 : FW RX1 25 4 1 0 (.int) true := ⟨RX4, TX4, 6, tyX4, rfl, by decide, by decide, rfl, in_X4, tb3 59 (by decide +kernel) (by decide +kernel), tyX4_ok, nmX4, by decide +kernel, rfl, fun h => by first | rfl | cases h⟩
theorem fk_X1_25_5 : FK RX1 25 5 1 0 := ⟨RX5, TX5, 6, rfl, by decide, by decide, rfl, in_X5, RX1, tb3 59 (by decide +kernel) (by decide +kernel), Or.inl rfl⟩
theorem fw_X1_25_5 : FW RX1 25 5 1 0 (.int) true := ⟨RX5, TX5, 6, tyX5, rfl, by decide, by decide, rfl, in_X5, tb3 59 (by decide +kernel) (by decide +kernel), tyX5_ok, nmX5, by decide +kernel, rfl, fun h => by first | rfl | cases h⟩
theorem fk_X11_381_1 : FK RX11 381 1 1 0 := ⟨RX1, TX1, 6, rfl, by decide, by decide, rfl, in_X1, RX1, tb3 60 (by decide +kernel) (by decide +kernel), Or.inl rfl⟩
theorem fk_X11_381_4 : FK RX11 381 4 1 0 := ⟨RX4, TX4, 6, rfl, by decide, by decide, rfl, in_X4, RX1, tb3 60 (by decide +kernel) (by decide +kernel), Or.inl rfl⟩
theorem fk_X11_381_5 : FK RX11 381 5 1 0 := ⟨RX5, TX5, 6, rfl, by decide, by decide, rfl, in_X5, RX1, tb3 60 (by decide +kernel) (by decide +kernel), Or.inl rfl⟩
theorem fk_X1_9_1 : FK RX1 9 1 2 2 := ⟨RX1, TX1, 6, rfl, by decide, by decide, rfl, in_X1, RX1, tb3 61 (by decide +kernel) (by decide +kernel), Or.inl rfl⟩
theorem fw_X1_9_1 : FW RX1 9 1 2 2 (.array .int) true := ⟨RX1, TX1, 6, tyX1, rfl, by decide, by decide, rfl, in_X1, tb3 61 (by decide +kernel) (by decide +kernel), tyX1_ok, nmX1, by decide +kernel, rfl, fun h => by first | rfl | cases h⟩
theorem fk_X1_9_4 : FK RX1 9 4 2 2 := ⟨RX4, TX4, 6, rfl, by decide, by decide, rfl, in_X4, RX1, tb3 61 (by decide +kernel) (by decide +kernel), Or.inl rfl⟩
theorem fw_X1_9_4 : FW RX1 9 4 2 2 (.array .int) true := ⟨RX4, TX4, 6, tyX4, rfl, by decide, by decide, rfl, in_X4, tb3 61 (by decide +kernel) (by decide +kernel), tyX4_ok, nmX4, by decide +kernel, rfl, fun h => by first | rfl | cases h⟩
theorem fk_X1_9_5 : FK RX1 9 5 2 2 := ⟨RX5, TX5, 6, rfl, by decide, by decide, rfl, in_X5, RX1, tb3 61 (by decide +kernel) (by decide +kernel), Or.inl rfl⟩
theorem fw_X1_9_5 : FW RX1 9 5 2 2 (.array .int) true := ⟨RX5, TX5, 6, tyX5, rfl, by decide, by decide, rfl, in_X5, tb3 61 (by decide +kernel) (by decide +kernel), tyX5_ok, nmX5, by decide +kernel, rfl, fun h => by first | rfl | cases h⟩
theorem fk_X11_378_1 : FK RX11 378 1 2 2 := ⟨RX1, TX1, 6, rfl, by decide, by decide, rfl, in_X1, RX1, tb3 62 (by decide +kernel) (by decide +kernel), Or.inl rfl⟩
theorem fk_X11_378_4 : FK RX11 378 4 2 2 := ⟨RX4, TX4, 6, rfl, by decide, by decide, rfl, in_X4, RX1, tb3 62 (by decide +kernel) (by decide +kernel), Or.inl rfl⟩
theorem fk_X11_378_5 : FK RX11 378 5 2 2 := ⟨RX5, TX5, 6, rfl, by decide, by decide, rfl, in_X5, RX1, tb3 62 (by decide +kernel) (by decide +kernel), Or.inl rfl⟩
theorem fk_X1_15_1 : FK RX1 15 1 3 2 := ⟨RX1, TX1, 6, rfl, by decide, by decide, rfl, in_X1, RX1, tb3 63 (by decide +kernel) (by decide +kernel), Or.inl rfl⟩
theorem fw_X1_15_1 : FW RX1 15 1 3 2 (.array .int) true := ⟨RX1, TX1, 6, tyX1, rfl, by decide, by decide, rfl, in_X1, tb3 63 (by decide +kernel) (by decide +kernel), tyX1_ok, nmX1, by decide +kernel, rfl, fun h => by first | rfl | cases h⟩
theorem fk_X1_15_4 : FK RX1 15 4 3 2 := ⟨RX4, TX4, 6, rfl, by decide, by decide, rfl, in_X4, RX1, tb3 63 (by decide +kernel) (by decide +kernel), Or.inl rfl⟩
theorem fw_X1_15_4 : FW RX1 15 4 3 2 (.array .int) true := ⟨RX4, TX4, 6, tyX4, rfl, by decide, by decide, rfl, in_X4, tb3 63 (by decide +kernel) (by decide +kernel), tyX4_ok, nmX4, by decide +kernel, rfl, fun h => by first | rfl | cases h⟩
theorem fk_X1_15_5 : FK RX1 15 5 3 2 := ⟨RX5, TX5, 6, rfl, by decide, by decide, rfl, in_X5, RX1, tb3 63 (by decide +kernel) (by decide +kernel), Or.inl rfl⟩
theorem fw_X1_15_5 : FW RX1 15 5 3 2 (.array .int) true := ⟨RX5, TX5, 6, tyX5, rfl, by decide, by decide, rfl, in_X5, tb3 63 (by decide +kernel) (by decide +kernel), tyX5_ok, nmX5, by decide +kernel, rfl, fun h => by first | rfl | cases h⟩
theorem fk_X11_420_1 : FK RX11 420 1 3 2 := ⟨RX1, TX1, 6, rfl, by decide, by decide, rfl, in_X1, RX1, tb3 64 (by decide +kernel) (by decide +kernel), Or.inl rfl⟩
theorem fk_X11_420_4 : FK RX11 420 4 3 2 := ⟨RX4, TX4, 6, rfl, by decide, by decide, rfl, in_X4, RX1, tb3 64 (by decide +kernel) (by decide +kernel), Or.inl rfl⟩
theorem fk_X11_420_5 : FK RX11 420 5 3 2 := ⟨RX5, TX5, 6, rfl, by decide, by decide, rfl, in_X5, RX1, tb3 64 (by decide +kernel) (by decide +kernel), Or.inl rfl⟩
theorem fk_X1_28_1 : FK RX1 28 1 4 0 := ⟨RX1, TX1, 6, rfl, by decide, by decide, rfl, in_X1, RX1, tb3 65 (by decide +kernel) (by decide +kernel), Or.inl rfl⟩
theorem fw_X1_28_1 : FW RX1 28 1 4 0 (.int) false := ⟨RX1, TX1, 6, tyX1, rfl, by decide, by decide, rfl, in_X1, tb3 65 (by decide +kernel) (by decide +kernel), tyX1_ok, nmX1, by decide +kernel, rfl, fun h => by first | rfl | cases h⟩
theorem fk_X1_28_4 : FK RX1 28 4 4 0 := ⟨RX4, TX4, 6, rfl, by decide, by decide, rfl, in_X4, RX1, tb3 65 (by decide +kernel) (by decide +kernel), Or.inl rfl⟩
theorem fw_X1_28_4 : FW RX1 28 4 4 0 (.int) false := ⟨RX4, TX4, 6, tyX4, rfl, by decide, by decide, rfl, in_X4, tb3 65 (by decide +kernel) (by decide +kernel), tyX4_ok, nmX4, by decide +kernel, rfl, fun h => by first | rfl | cases h⟩
theorem fk_X1_28_5 : FK RX1 28 5 4 0 := ⟨RX5, TX5, 6, rfl, by decide, by decide, rfl, in_X5, RX1, tb3 65 (by decide +kernel) (by decide +kernel), Or.inl rfl⟩
theorem fw_X1_28_5 : FW RX1 28 5 4 0 (.int) false := ⟨RX5, TX5, 6, tyX5, rfl, by decide, by decide, rfl, in_X5, tb3 65 (by decide +kernel) (by decide +kernel), tyX5_ok, nmX5, by decide +kernel, rfl, fun h => by first | rfl | cases h⟩
theorem fk_X1_18_1 : FK RX1 18 1 5 2 := ⟨RX1, TX1, 6, rfl, by decide, by decide, rfl, in_X1, RX1, tb3 66 (by decide +kernel) (by decide +kernel), Or.inl rfl⟩
theorem fw_X1_18_1 : FW RX1 18 1 5 2 (.array .int) true := ⟨RX1, TX1, 6, tyX1, rfl, by decide, by decide, rfl, in_X1, tb3 66 (by decide +kernel) (by decide +kernel), tyX1_ok, nmX1, by decide +kernel, rfl, fun h => by first | rfl | cases h⟩
theorem fk_X1_18_4 : FK RX1 18 4 5 2 := ⟨RX4, TX4, 6, rfl, by decide, by decide, rfl, in_X4, RX1, tb3 66 (by decide +kernel) (by decide +kernel), Or.inl rfl⟩
theorem fw_X1_18_4 : FW RX1 18 4 5 2 (.array .int) true := ⟨RX4, TX4, 6, tyX4, rfl, by decide, by decide, rfl, in_X4, tb3 66 (by decide +kernel) (by decide +kernel), tyX4_ok, nmX4, by decide +kernel, rfl, fun h => by first | rfl | cases h⟩
theorem fk_X1_18_5 : FK RX1 18 5 5 2 := ⟨RX5, TX5, 6, rfl, by decide, by decide, rfl, in_X5, RX1, tb3 66 (by decide +kernel) (by decide +kernel), Or.inl rfl⟩
theorem fw_X1_18_5 : FW RX1 18 5 5 2 (.array .int) true := ⟨RX5, TX5, 6, tyX5, rfl, by decide, by decide, rfl, in_X5, tb3 66 (by decide +kernel) (by decide +kernel), tyX5_ok, nmX5, by decide +kernel, rfl, fun h => by first | rfl | cases h⟩
theorem fk_X11_231_1 : FK RX11 231 1 5 2 := ⟨RX1, TX1, 6, rfl, by decide, by decide, rfl, in_X1, RX1, tb3 67 (by decide +kernel) (by decide +kernel), Or.inl rfl⟩
theorem fk_X11_231_4 : FK RX11 231 4 5 2 := ⟨RX4, TX4, 6, rfl, by decide, by decide, rfl, in_X4, RX1, tb3 67 (by decide +kernel) (by decide +kernel), Or.inl rfl⟩
theorem fk_X11_231_5 : FK RX11 231 5 5 2 := ⟨RX5, TX5, 6, rfl, by decide, by decide, rfl, in_X5, RX1, tb3 67 (by decide +kernel) (by decide +kernel), Or.inl rfl⟩
theorem fk_X12_101_12 : FK RX12 101 12 0 0 := ⟨RX12, TX12, 43, rfl, by decide, by decide, rfl, in_X12, RX12, tb4 67 (by decide +kernel) (by decide +kernel), Or.inl rfl⟩
theorem fw_X12_101_12 : FW RX12 101 12 0 0 (.int) false := ⟨RX12, TX12, 43, tyX12, rfl, by decide, by decide, rfl, in_X12, tb4 67 (by decide +kernel) (by decide +kernel), tyX12_ok, nmX12, by decide +kernel, rfl, fun h => by first | rfl | cases h⟩
theorem fk_X12_108_12 : FK RX12 108 12 1 0 := ⟨RX12, TX12, 43, rfl, by decide, by decide, rfl, in_X12, RX12, tb4 68 (by decide +kernel) (by decide +kernel), Or.inl rfl⟩
theorem fw_X12_108_12 : FW RX12 108 12 1 0 (.int) false := ⟨RX12, TX12, 43, tyX12, rfl, by decide, by decide, rfl, in_X12, tb4 68 (by decide +kernel) (by decide +kernel), tyX12_ok, nmX12, by decide +kernel, rfl, fun h => by first | rfl | cases h⟩
theorem fk_X12_7_12 : FK RX12 7 12 2 2 := ⟨RX12, TX12, 43, rfl, by decide, by decide, rfl, in_X12, RX12, tb4 69 (by decide +kernel) (by decide +kernel), Or.inl rfl⟩
theorem fw_X12_7_12 : FW RX12 7 12 2 2 (.array .int) true := ⟨RX12, TX12, 43, tyX12, rfl, by decide, by decide, rfl, in_X12, tb4 69 (by decide +kernel) (by decide +kernel), tyX12_ok, nmX12, by decide +kernel, rfl, fun h => by first | rfl | cases h⟩
theorem fk_X12_13_12 : FK RX12 13 12 3 2 := ⟨RX12, TX12, 43, rfl, by decide, by decide, rfl, in_X12, RX12, tb4 70 (by decide +kernel) (by decide +kernel), Or.inl rfl⟩
theorem fw_X12_13_12 : FW RX12 13 12 3 2 (.array .int) true := ⟨RX12, TX12, 43, tyX12, rfl, by decide, by decide, rfl, in_X12, tb4 70 (by decide +kernel) (by decide +kernel), tyX12_ok, nmX12, by decide +kernel, rfl, fun h => by first | rfl | cases h⟩
theorem fk_X12_16_12 : FK RX12 16 12 4 2 := ⟨RX12, TX12, 43, rfl, by decide, by decide, rfl, in_X12, RX12, tb4 71 (by decide +kernel) (by decide +kernel), Or.inl rfl⟩
theorem fw_X12_16_12 : FW RX12 16 12 4 2 (.array .int) true := ⟨RX12, TX12, 43, tyX12, rfl, by decide, by decide, rfl, in_X12, tb4 71 (by decide +kernel) (by decide +kernel), tyX12_ok, nmX12, by decide +kernel, rfl, fun h => by first | rfl | cases h⟩
theorem fk_X12_19_12 : FK RX12 19 12 5 2 := ⟨RX12, TX12, 43, rfl, by decide, by decide, rfl, in_X12, RX12, tb4 72 (by decide +kernel) (by decide +kernel), Or.inl rfl⟩
theorem fw_X12_19_12 : FW RX12 19 12 5 2 (.array .int) true := ⟨RX12, TX12, 43, tyX12, rfl, by decide, by decide, rfl, in_X12, tb4 72 (by decide +kernel) (by decide +kernel), tyX12_ok, nmX12, by decide +kernel, rfl, fun h => by first | rfl | cases h⟩
theorem fk_X12_22_12 : FK RX12 22 12 6 2 := ⟨RX12, TX12, 43, rfl, by decide, by decide, rfl, in_X12, RX12, tb4 73 (by decide +kernel) (by decide +kernel), Or.inl rfl⟩
theorem fw_X12_22_12 : FW RX12 22 12 6 2 (.array .boolean) true := ⟨RX12, TX12, 43, tyX12, rfl, by decide, by decide, rfl, in_X12, tb4 73 (by decide +kernel) (by decide +kernel), tyX12_ok, nmX12, by decide +kernel, rfl, fun h => by first | rfl | cases h⟩
theorem fk_X12_26_12 : FK RX12 26 12 7 2 := ⟨RX12, TX12, 43, rfl, by decide, by decide, rfl, in_X12, RX12, tb4 74 (by decide +kernel) (by decide +kernel), Or.inl rfl⟩
theorem fw_X12_26_12 : FW RX12 26 12 7 2 (.array .boolean) true := ⟨RX12, TX12, 43, tyX12, rfl, by decide, by decide, rfl, in_X12, tb4 74 (by decide +kernel) (by decide +kernel), tyX12_ok, nmX12, by decide +kernel, rfl, fun h => by first | rfl | cases h⟩
theorem fk_X12_29_12 : FK RX12 29 12 8 2 := ⟨RX12, TX12, 43, rfl, by decide, by decide, rfl, in_X12, RX12, tb4 75 (by decide +kernel) (by decide +kernel), Or.inl rfl⟩
theorem fw_X12_29_12 : FW RX12 29 12 8 2 (.array .int) true := ⟨RX12, TX12, 43, tyX12, rfl, by decide, by decide, rfl, in_X12, tb4 75 (by decide +kernel) (by decide +kernel), tyX12_ok, nmX12, by decide +kernel, rfl, fun h => by first | rfl | cases h⟩
theorem fk_X12_32_12 : FK RX12 32 12 9 2 := ⟨RX12, TX12, 43, rfl, by decide, by decide, rfl, in_X12, RX12, tb4 76 (by decide +kernel) (by decide +kernel), Or.inl rfl⟩
theorem fw_X12_32_12 : FW RX12 32 12 9 2 (.array .int) true := ⟨RX12, TX12, 43, tyX12, rfl, by decide, by decide, rfl, in_X12, tb4 76 (by decide +kernel) (by decide +kernel), tyX12_ok, nmX12, by decide +kernel, rfl, fun h => by first | rfl | cases h⟩
theorem fk_X12_35_12 : FK RX12 35 12 10 2 := ⟨RX12, TX12, 43, rfl, by decide, by decide, rfl, in_X12, RX12, tb4 77 (by decide +kernel) (by decide +kernel), Or.inl rfl⟩
theorem fw_X12_35_12 : FW RX12 35 12 10 2 (.array .int) true := ⟨RX12, TX12, 43, tyX12, rfl, by decide, by decide, rfl, in_X12, tb4 77 (by decide +kernel) (by decide +kernel), tyX12_ok, nmX12, by decide +kernel, rfl, fun h => by first | rfl | cases h⟩
theorem fk_X12_38_12 : FK RX12 38 12 11 2 := ⟨RX12, TX12, 43, rfl, by decide, by decide, rfl, in_X12, RX12, tb4 78 (by decide +kernel) (by decide +kernel), Or.inl rfl⟩
theorem fw_X12_38_12 : FW RX12 38 12 11 2 (.array .int) true := ⟨RX12, TX12, 43, tyX12, rfl, by decide, by decide, rfl, in_X12, tb4 78 (by decide +kernel) (by decide +kernel), tyX12_ok, nmX12, by decide +kernel, rfl, fun h => by first | rfl | cases h⟩
theorem fk_X12_161_12 : FK RX12 161 12 12 0 := ⟨RX12, TX12, 43, rfl, by decide, by decide, rfl, in_X12, RX12, tb4 79 (by decide +kernel) (by decide +kernel), Or.inl rfl⟩
theorem fw_X12_161_12 : FW RX12 161 12 12 0 (.int) false := ⟨RX12, TX12, 43, tyX12, rfl, by decide, by decide, rfl, in_X12, tb4 79 (by decide +kernel) (by decide +kernel), tyX12_ok, nmX12, by decide +kernel, rfl, fun h => by first | rfl | cases h⟩
theorem fk_X12_41_12 : FK RX12 41 12 13 2 := ⟨RX12, TX12, 43, rfl, by decide, by decide, rfl, in_X12, RX12, tb4 80 (by decide +kernel) (by decide +kernel), Or.inl rfl⟩
theorem fw_X12_41_12 : FW RX12 41 12 13 2 (.array .int) true := ⟨RX12, TX12, 43, tyX12, rfl, by decide, by decide, rfl, in_X12, tb4 80 (by decide +kernel) (by decide +kernel), tyX12_ok, nmX12, by decide +kernel, rfl, fun h => by first | rfl | cases h⟩
theorem fk_X12_176_12 : FK RX12 176 12 14 0 := ⟨RX12, TX12, 43, rfl, by decide, by decide, rfl, in_X12, RX12, tb4 81 (by decide +kernel) (by decide +kernel), Or.inl rfl⟩
theorem fw_X12_176_12 : FW RX12 176 12 14 0 (.int) false := ⟨RX12, TX12, 43, tyX12, rfl, by decide, by decide, rfl, in_X12, tb4 81 (by decide +kernel) (by decide +kernel), tyX12_ok, nmX12, by decide +kernel, rfl, fun h => by first | rfl | cases h⟩
theorem fk_X12_167_12 : FK RX12 167 12 15 0 := ⟨RX12, TX12, 43, rfl, by decide, by decide, rfl, in_X12, RX12, tb4 82 (by decide +kernel) (by decide +kernel), Or.inl rfl⟩
theorem fw_X12_167_12 : FW RX12 167 12 15 0 (.int) false := ⟨RX12, TX12, 43, tyX12, rfl, by decide, by decide, rfl, in_X12, tb4 82 (by decide +kernel) (by decide +kernel), tyX12_ok, nmX12, by decide +kernel, rfl, fun h => by first | rfl | cases h⟩
theorem fk_X12_170_12 : FK RX12 170 12 16 0 := ⟨RX12, TX12, 43, rfl, by decide, by decide, rfl, in_X12, RX12, tb4 83 (by decide +kernel) (by decide +kernel), Or.inl rfl⟩
theorem fw_X12_170_12 : FW RX12 170 12 16 0 (.int) false := ⟨RX12, TX12, 43, tyX12, rfl, by decide, by decide, rfl, in_X12, tb4 83 (by decide +kernel) (by decide +kernel), tyX12_ok, nmX12, by decide +kernel, rfl, fun h => by first | rfl | cases h⟩
theorem fk_X12_44_12 : FK RX12 44 12 17 2 := ⟨RX12, TX12, 43, rfl, by decide, by decide, rfl, in_X12, RX12, tb4 84 (by decide +kernel) (by decide +kernel), Or.inl rfl⟩
theorem fw_X12_44_12 : FW RX12 44 12 17 2 (.array .int) true := ⟨RX12, TX12, 43, tyX12, rfl, by decide, by decide, rfl, in_X12, tb4 84 (by decide +kernel) (by decide +kernel), tyX12_ok, nmX12, by decide +kernel, rfl, fun h => by first | rfl | cases h⟩
theorem fk_X12_173_12 : FK RX12 173 12 18 0 := ⟨RX12, TX12, 43, rfl, by decide, by decide, rfl, in_X12, RX12, tb4 85 (by decide +kernel) (by decide +kernel), Or.inl rfl⟩
theorem fw_X12_173_12 : FW RX12 173 12 18 0 (.int) false := ⟨RX12, TX12, 43, tyX12, rfl, by decide, by decide, rfl, in_X12, tb4 85 (by decide +kernel) (by decide +kernel), tyX12_ok, nmX12, by decide +kernel, rfl, fun h => by first | rfl | cases h⟩
theorem fk_X12_164_12 : FK RX12 164 12 19 0 := ⟨RX12, TX12, 43, rfl, by decide, by decide, rfl, in_X12, RX12, tb4 86 (by decide +kernel) (by decide +kernel), Or.inl rfl⟩
theorem fw_X12_164_12 : FW RX12 164 12 19 0 (.int) false := ⟨RX12, TX12, 43, tyX12, rfl, by decide, by decide, rfl, in_X12, tb4 86 (by decide +kernel) (by decide +kernel), tyX12_ok, nmX12, by decide +kernel, rfl, fun h => by first | rfl | cases h⟩
theorem fk_X12_47_12 : FK RX12 47 12 20 2 := ⟨RX12, TX12, 43, rfl, by decide, by decide, rfl, in_X12, RX12, tb4 87 (by decide +kernel) (by decide +kernel), Or.inl rfl⟩
theorem fw_X12_47_12 : FW RX12 47 12 20 2 (.array .int) true := ⟨RX12, TX12, 43, tyX12, rfl, by decide, by decide, rfl, in_X12, tb4 87 (by decide +kernel) (by decide +kernel), tyX12_ok, nmX12, by decide +kernel, rfl, fun h => by first | rfl | cases h⟩
theorem fk_X12_50_12 : FK RX12 50 12 21 2 := ⟨RX12, TX12, 43, rfl, by decide, by decide, rfl, in_X12, RX12, tb4 88 (by decide +kernel) (by decide +kernel), Or.inl rfl⟩
theorem fw_X12_50_12 : FW RX12 50 12 21 2 (.array .int) true := ⟨RX12, TX12, 43, tyX12, rfl, by decide, by decide, rfl, in_X12, tb4 88 (by decide +kernel) (by decide +kernel), tyX12_ok, nmX12, by decide +kernel, rfl, fun h => by first | rfl | cases h⟩
theorem fk_X12_53_12 : FK RX12 53 12 22 2 := ⟨RX12, TX12, 43, rfl, by decide, by decide, rfl, in_X12, RX12, tb4 89 (by decide +kernel) (by decide +kernel), Or.inl rfl⟩
theorem fw_X12_53_12 : FW RX12 53 12 22 2 (.array .int) true := ⟨RX12, TX12, 43, tyX12, rfl, by decide, by decide, rfl, in_X12, tb4 89 (by decide +kernel) (by decide +kernel), tyX12_ok, nmX12, by decide +kernel, rfl, fun h => by first | rfl | cases h⟩
theorem fk_X12_56_12 : FK RX12 56 12 23 2 := ⟨RX12, TX12, 43, rfl, by decide, by decide, rfl, in_X12, RX12, tb4 90 (by decide +kernel) (by decide +kernel), Or.inl rfl⟩
theorem fw_X12_56_12 : FW RX12 56 12 23 2 (.array .int) true := ⟨RX12, TX12, 43, tyX12, rfl, by decide, by decide, rfl, in_X12, tb4 90 (by decide +kernel) (by decide +kernel), tyX12_ok, nmX12, by decide +kernel, rfl, fun h => by first | rfl | cases h⟩
theorem fk_X12_95_12 : FK RX12 95 12 24 0 := ⟨RX12, TX12, 43, rfl, by decide, by decide, rfl, in_X12, RX12, tb4 91 (by decide +kernel) (by decide +kernel), Or.inl rfl⟩
theorem fw_X12_95_12 : FW RX12 95 12 24 0 (.int) false := ⟨RX12, TX12, 43, tyX12, rfl, by decide, by decide, rfl, in_X12, tb4 91 (by decide +kernel) (by decide +kernel), tyX12_ok, nmX12, by decide +kernel, rfl, fun h => by first | rfl | cases h⟩
theorem fk_X12_193_12 : FK RX12 193 12 25 0 := ⟨RX12, TX12, 43, rfl, by decide, by decide, rfl, in_X12, RX12, tb4 92 (by decide +kernel) (by decide +kernel), Or.inl rfl⟩
theorem fw_X12_193_12 : FW RX12 193 12 25 0 (.int) false := ⟨RX12, TX12, 43, tyX12, rfl, by decide, by decide, rfl, in_X12, tb4 92 (by decide +kernel) (by decide +kernel), tyX12_ok, nmX12, by decide +kernel, rfl, fun h => by first | rfl | cases h⟩
theorem fk_X12_59_12 : FK RX12 59 12 26 2 := ⟨RX12, TX12, 43, rfl, by decide, by decide, rfl, in_X12, RX12, tb4 93 (by decide +kernel) (by decide +kernel), Or.inl rfl⟩
theorem fw_X12_59_12 : FW RX12 59 12 26 2 (.array .int) true := ⟨RX12, TX12, 43, tyX12, rfl, by decide, by decide, rfl, in_X12, tb4 93 (by decide +kernel) (by decide +kernel), tyX12_ok, nmX12, by decide +kernel, rfl, fun h => by first | rfl | cases h⟩
theorem fk_X12_196_12 : FK RX12 196 12 27 0 := ⟨RX12, TX12, 43, rfl, by decide, by decide, rfl, in_X12, RX12, tb4 94 (by decide +kernel) (by decide +kernel), Or.inl rfl⟩
theorem fw_X12_196_12 : FW RX12 196 12 27 0 (.int) false := ⟨RX12, TX12, 43, tyX12, rfl, by decide, by decide, rfl, in_X12, tb4 94 (by decide +kernel) (by decide +kernel), tyX12_ok, nmX12, by decide +kernel, rfl, fun h => by first | rfl | cases h⟩
theorem fk_X12_62_12 : FK RX12 62 12 28 2 := ⟨RX12, TX12, 43, rfl, by decide, by decide, rfl, in_X12, RX12, tb4 95 (by decide +kernel) (by decide +kernel), Or.inl rfl⟩
theorem fw_X12_62_12 : FW RX12 62 12 28 2 (.array .int) true := ⟨RX12, TX12, 43, tyX12, rfl, by decide, by decide, rfl, in_X12, tb4 95 (by decide +kernel) (by decide +kernel), tyX12_ok, nmX12, by decide +kernel, rfl, fun h => by first | rfl | cases h⟩
theorem fk_X12_65_12 : FK RX12 65 12 29 2 := ⟨RX12, TX12, 43, rfl, by decide, by decide, rfl, in_X12, RX12, tb4 96 (by decide +kernel) (by decide +kernel), Or.inl rfl⟩
theorem fw_X12_65_12 : FW RX12 65 12 29 2 (.array .int) true := ⟨RX12, TX12, 43, tyX12, rfl, by decide, by decide, rfl, in_X12, tb4 96 (by decide +kernel) (by decide +kernel), tyX12_ok, nmX12, by decide +kernel, rfl, fun h => by first | rfl | cases h⟩
theorem fk_X12_199_12 : FK RX12 199 12 30 0 := ⟨RX12, TX12, 43, rfl, by decide, by decide, rfl, in_X12, RX12, tb4 97 (by decide +kernel) (by decide +kernel), Or.inl rfl⟩
theorem fw_X12_199_12 : FW RX12 199 12 30 0 (.int) false := ⟨RX12, TX12, 43, tyX12, rfl, by decide, by decide, rfl, in_X12, tb4 97 (by decide +kernel) (by decide +kernel), tyX12_ok, nmX12, by decide +kernel, rfl, fun h => by first | rfl | cases h⟩
theorem fk_X12_68_12 : FK RX12 68 12 31 2 := ⟨RX12, TX12, 43, rfl, by decide, by decide, rfl, in_X12, RX12, tb4 98 (by decide +kernel) (by decide +kernel), Or.inl rfl⟩
theorem fw_X12_68_12 : FW RX12 68 12 31 2 (.array .int) true := ⟨RX12, TX12, 43, tyX12, rfl, by decide, by decide, rfl, in_X12, tb4 98 (by decide +kernel) (by decide +kernel), tyX12_ok, nmX12, by decide +kernel, rfl, fun h => by first | rfl | cases h⟩
theorem fk_X12_71_12 : FK RX12 71 12 32 2 := ⟨RX12, TX12, 43, rfl, by decide, by decide, rfl, in_X12, RX12, tb4 99 (by decide +kernel) (by decide +kernel), Or.inl rfl⟩
theorem fw_X12_71_12 : FW RX12 71 12 32 2 (.array .boolean) true := ⟨RX12, TX12, 43, tyX12, rfl, by decide, by decide, rfl, in_X12, tb4 99 (by decide +kernel) (by decide +kernel), tyX12_ok, nmX12, by decide +kernel, rfl, fun h => by first | rfl | cases h⟩
theorem fk_X12_74_12 : FK RX12 74 12 33 2 := ⟨RX12, TX12, 43, rfl, by decide, by decide, rfl, in_X12, RX12, tb4 100 (by decide +kernel) (by decide +kernel), Or.inl rfl⟩
theorem fw_X12_74_12 : FW RX12 74 12 33 2 (.array .boolean) true := ⟨RX12, TX12, 43, tyX12, rfl, by decide, by decide, rfl, in_X12, tb4 100 (by decide +kernel) (by decide +kernel), tyX12_ok, nmX12, by decide +kernel, rfl, fun h => by first | rfl | cases h⟩
theorem fk_X12_77_12 : FK RX12 77 12 34 2 := ⟨RX12, TX12, 43, rfl, by decide, by decide, rfl, in_X12, RX12, tb4 101 (by decide +kernel) (by decide +kernel), Or.inl rfl⟩
theorem fw_X12_77_12 : FW RX12 77 12 34 2 (.array .int) true := ⟨RX12, TX12, 43, tyX12, rfl, by decide, by decide, rfl, in_X12, tb4 101 (by decide +kernel) (by decide +kernel), tyX12_ok, nmX12, by decide +kernel, rfl, fun h => by first | rfl | cases h⟩
theorem fk_X12_238_12 : FK RX12 238 12 35 0 := ⟨RX12, TX12, 43, rfl, by decide, by decide, rfl, in_X12, RX12, tb4 102 (by decide +kernel) (by decide +kernel), Or.inl rfl⟩
theorem fw_X12_238_12 : FW RX12 238 12 35 0 (.int) false := ⟨RX12, TX12, 43, tyX12, rfl, by decide, by decide, rfl, in_X12, tb4 102 (by decide +kernel) (by decide +kernel), tyX12_ok, nmX12, by decide +kernel, rfl, fun h => by first | rfl | cases h⟩
theorem fk_X12_80_12 : FK RX12 80 12 36 2 := ⟨RX12, TX12, 43, rfl, by decide, by decide, rfl, in_X12, RX12, tb4 103 (by decide +kernel) (by decide +kernel), Or.inl rfl⟩
theorem fw_X12_80_12 : FW RX12 80 12 36 2 (.array .int) true := ⟨RX12, TX12, 43, tyX12, rfl, by decide, by decide, rfl, in_X12, tb4 103 (by decide +kernel) (by decide +kernel), tyX12_ok, nmX12, by decide +kernel, rfl, fun h => by first | rfl | cases h⟩
theorem fk_X12_83_12 : FK RX12 83 12 37 2 := ⟨RX12, TX12, 43, rfl, by decide, by decide, rfl, in_X12, RX12, tb4 104 (by decide +kernel) (by decide +kernel), Or.inl rfl⟩
theorem fw_X12_83_12 : FW RX12 83 12 37 2 (.array .int) true := ⟨RX12, TX12, 43, tyX12, rfl, by decide, by decide, rfl, in_X12, tb4 104 (by decide +kernel) (by decide +kernel), tyX12_ok, nmX12, by decide +kernel, rfl, fun h => by first | rfl | cases h⟩
theorem fk_X12_202_12 : FK RX12 202 12 38 0 := ⟨RX12, TX12, 43, rfl, by decide, by decide, rfl, in_X12, RX12, tb4 105 (by decide +kernel) (by decide +kernel), Or.inl rfl⟩
theorem fw_X12_202_12 : FW RX12 202 12 38 0 (.int) false := ⟨RX12, TX12, 43, tyX12, rfl, by decide, by decide, rfl, in_X12, tb4 105 (by decide +kernel) (by decide +kernel), tyX12_ok, nmX12, by decide +kernel, rfl, fun h => by first | rfl | cases h⟩
theorem fk_X12_86_12 : FK RX12 86 12 39 2 := ⟨RX12, TX12, 43, rfl, by decide, by decide, rfl, in_X12, RX12, tb4 106 (by decide +kernel) (by decide +kernel), Or.inl rfl⟩
theorem fw_X12_86_12 : FW RX12 86 12 39 2 (.array .int) true := ⟨RX12, TX12, 43, tyX12, rfl, by decide, by decide, rfl, in_X12, tb4 106 (by decide +kernel) (by decide +kernel), tyX12_ok, nmX12, by decide +kernel, rfl, fun h => by first | rfl | cases h⟩
theorem fk_X12_89_12 : FK RX12 89 12 40 2 := ⟨RX12, TX12, 43, rfl, by decide, by decide, rfl, in_X12, RX12, tb4 107 (by decide +kernel) (by decide +kernel), Or.inl rfl⟩
theorem fw_X12_89_12 : FW RX12 89 12 40 2 (.array .int) true := ⟨RX12, TX12, 43, tyX12, rfl, by decide, by decide, rfl, in_X12, tb4 107 (by decide +kernel) (by decide +kernel), tyX12_ok, nmX12, by decide +kernel, rfl, fun h => by first | rfl | cases h⟩
theorem fk_X12_92_12 : FK RX12 92 12 41 2 := ⟨RX12, TX12, 43, rfl, by decide, by decide, rfl, in_X12, RX12, tb4 108 (by decide +kernel) (by decide +kernel), Or.inl rfl⟩
theorem fw_X12_92_12 : FW RX12 92 12 41 2 (.array .int) true := ⟨RX12, TX12, 43, tyX12, rfl, by decide, by decide, rfl, in_X12, tb4 108 (by decide +kernel) (by decide +kernel), tyX12_ok, nmX12, by decide +kernel, rfl, fun h => by first | rfl | cases h⟩
theorem fk_X12_274_12 : FK RX12 274 12 42 0 := ⟨RX12, TX12, 43, rfl, by decide, by decide, rfl, in_X12, RX12, tb4 109 (by decide +kernel) (by decide +kernel), Or.inl rfl⟩
theorem fw_X12_274_12 : FW RX12 274 12 42 0 (.int) false := ⟨RX12, TX12, 43, tyX12, rfl, by decide, by decide, rfl, in_X12, tb4 109 (by decide +kernel) (by decide +kernel), tyX12_ok, nmX12, by decide +kernel, rfl, fun h => by first | rfl | cases h⟩
