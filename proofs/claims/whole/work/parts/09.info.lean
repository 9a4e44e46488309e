abbrev mX8_init : MI := (yX8_init, cX8_init, 1, none)
theorem ok_X8_init : MOK mX8_init 0 := ⟨k1_32, k1_2, by decide +kernel, by decide⟩
abbrev mX3_init : MI := (yX3_init, cX3_init, 1, none)
theorem ok_X3_init : MOK mX3_init 0 := ⟨k1_55, k1_3, by decide +kernel, by decide⟩
abbrev mJ7_fill_53178 : MI := (yJ7_fill_53178, cJ7_fill_53178, 4, none)
theorem ok_J7_fill_53178 : MOK mJ7_fill_53178 2 := ⟨k1_79, k1_5, by decide +kernel, by decide⟩
abbrev mX0_init : MI := (yX0_init, cX0_init, 1, none)
theorem ok_X0_init : MOK mX0_init 0 := ⟨k1_75, k1_4, by decide +kernel, by decide⟩
abbrev mX5_init : MI := (yX5_init, cX5_init, 1, none)
theorem ok_X5_init : MOK mX5_init 0 := ⟨k1_112, k1_6, by decide +kernel, by decide⟩
abbrev mX4_init : MI := (yX4_init, cX4_init, 1, none)
theorem ok_X4_init : MOK mX4_init 0 := ⟨k1_135, k1_7, by decide +kernel, by decide⟩
abbrev mX1_turnOver : MI := (yX1_turnOver, cX1_turnOver, 7, none)
theorem ok_X1_turnOver : MOK mX1_turnOver 5 := ⟨k1_185, k1_8, by decide +kernel, by decide⟩
abbrev mX1_foldedPile : MI := (yX1_foldedPile, cX1_foldedPile, 14, some (.array .int))
theorem ok_X1_foldedPile : MOK mX1_foldedPile 2 := ⟨k1_182, k1_8, by decide +kernel, by decide⟩
abbrev mX1_init : MI := (yX1_init, cX1_init, 9, none)
theorem ok_X1_init : MOK mX1_init 2 := ⟨k1_178, k1_8, by decide +kernel, by decide⟩
abbrev mX9_init : MI := (yX9_init, cX9_init, 1, none)
theorem ok_X9_init : MOK mX9_init 0 := ⟨k1_24, k1_1, by decide +kernel, by decide⟩
abbrev mX8_append : MI := (yX8_append, cX8_append, 5, none)
theorem ok_X8_append : MOK mX8_append 2 := ⟨k2_12, k1_2, by decide +kernel, by decide⟩
abbrev mX9_feed : MI := (yX9_feed, cX9_feed, 4, some .int)
theorem ok_X9_feed : MOK mX9_feed 2 := ⟨k2_8, k1_1, by decide +kernel, by decide⟩
abbrev mX9_isLetter : MI := (yX9_isLetter, cX9_isLetter, 1, some .boolean)
theorem ok_X9_isLetter : MOK mX9_isLetter 1 := ⟨k2_19, k1_1, by decide +kernel, by decide⟩
abbrev mX9_cast : MI := (yX9_cast, cX9_cast, 3, some .int)
theorem ok_X9_cast : MOK mX9_cast 2 := ⟨k2_16, k1_1, by decide +kernel, by decide⟩
abbrev mX9_sorts : MI := (yX9_sorts, cX9_sorts, 2, some .int)
theorem ok_X9_sorts : MOK mX9_sorts 1 := ⟨k2_23, k1_1, by decide +kernel, by decide⟩
abbrev mX8_byteAt : MI := (yX8_byteAt, cX8_byteAt, 2, some .int)
theorem ok_X8_byteAt : MOK mX8_byteAt 1 := ⟨k2_42, k1_2, by decide +kernel, by decide⟩
abbrev mX8_codeAt : MI := (yX8_codeAt, cX8_codeAt, 3, some .int)
theorem ok_X8_codeAt : MOK mX8_codeAt 1 := ⟨k2_38, k1_2, by decide +kernel, by decide⟩
abbrev mX8_firstNotOfCopy : MI := (yX8_firstNotOfCopy, cX8_firstNotOfCopy, 3, some .int)
theorem ok_X8_firstNotOfCopy : MOK mX8_firstNotOfCopy 0 := ⟨k2_31, k1_2, by decide +kernel, by decide⟩
abbrev mX6_init : MI := (yX6_init, cX6_init, 5, none)
theorem ok_X6_init : MOK mX6_init 2 := ⟨k2_46, k1_11, by decide +kernel, by decide⟩
abbrev mX9_page : MI := (yX9_page, cX9_page, 2, some .int)
theorem ok_X9_page : MOK mX9_page 0 := ⟨k2_27, k1_1, by decide +kernel, by decide⟩
abbrev mX9_findPage : MI := (yX9_findPage, cX9_findPage, 2, some (.object "TypeHouse$Page"))
theorem ok_X9_findPage : MOK mX9_findPage 1 := ⟨k2_93, k1_1, by decide +kernel, by decide⟩
abbrev mX9_isHand : MI := (yX9_isHand, cX9_isHand, 1, some .boolean)
theorem ok_X9_isHand : MOK mX9_isHand 1 := ⟨k2_96, k1_1, by decide +kernel, by decide⟩
abbrev mX9_firstMissing : MI := (yX9_firstMissing, cX9_firstMissing, 4, some .int)
theorem ok_X9_firstMissing : MOK mX9_firstMissing 1 := ⟨k2_100, k1_1, by decide +kernel, by decide⟩
abbrev mX6_compose : MI := (yX6_compose, cX6_compose, 2, none)
theorem ok_X6_compose : MOK mX6_compose 1 := ⟨k2_105, k1_11, by decide +kernel, by decide⟩
abbrev mX9_set : MI := (yX9_set, cX9_set, 6, some .int)
theorem ok_X9_set : MOK mX9_set 2 := ⟨k2_89, k1_1, by decide +kernel, by decide⟩
abbrev mX6_hasPlace : MI := (yX6_hasPlace, cX6_hasPlace, 2, some .boolean)
theorem ok_X6_hasPlace : MOK mX6_hasPlace 1 := ⟨k2_116, k1_11, by decide +kernel, by decide⟩
abbrev mX2_isImposed : MI := (yX2_isImposed, cX2_isImposed, 1, some .boolean)
theorem ok_X2_isImposed : MOK mX2_isImposed 0 := ⟨k2_124, k1_14, by decide +kernel, by decide⟩
abbrev mX6_isInForme : MI := (yX6_isInForme, cX6_isInForme, 1, some .boolean)
theorem ok_X6_isInForme : MOK mX6_isInForme 0 := ⟨k2_120, k1_11, by decide +kernel, by decide⟩
abbrev mX2_noteChange : MI := (yX2_noteChange, cX2_noteChange, 4, none)
theorem ok_X2_noteChange : MOK mX2_noteChange 3 := ⟨k2_128, k1_14, by decide +kernel, by decide⟩
abbrev mX9_misset : MI := (yX9_misset, cX9_misset, 7, some .int)
theorem ok_X9_misset : MOK mX9_misset 3 := ⟨k2_112, k1_1, by decide +kernel, by decide⟩
abbrev mX9_distribute : MI := (yX9_distribute, cX9_distribute, 5, some .int)
theorem ok_X9_distribute : MOK mX9_distribute 1 := ⟨k2_132, k1_1, by decide +kernel, by decide⟩
abbrev mX9_at : MI := (yX9_at, cX9_at, 5, some .int)
theorem ok_X9_at : MOK mX9_at 3 := ⟨k2_136, k1_1, by decide +kernel, by decide⟩
abbrev mX6_countFaults : MI := (yX6_countFaults, cX6_countFaults, 3, some .int)
theorem ok_X6_countFaults : MOK mX6_countFaults 0 := ⟨k2_144, k1_11, by decide +kernel, by decide⟩
abbrev mX9_faults : MI := (yX9_faults, cX9_faults, 3, some .int)
theorem ok_X9_faults : MOK mX9_faults 1 := ⟨k2_140, k1_1, by decide +kernel, by decide⟩
abbrev mX6_placeOfFault : MI := (yX6_placeOfFault, cX6_placeOfFault, 4, some .int)
theorem ok_X6_placeOfFault : MOK mX6_placeOfFault 1 := ⟨k2_152, k1_11, by decide +kernel, by decide⟩
abbrev mX9_fault : MI := (yX9_fault, cX9_fault, 4, some .int)
theorem ok_X9_fault : MOK mX9_fault 2 := ⟨k2_148, k1_1, by decide +kernel, by decide⟩
abbrev mX9_isFormat : MI := (yX9_isFormat, cX9_isFormat, 1, some .boolean)
theorem ok_X9_isFormat : MOK mX9_isFormat 1 := ⟨k2_159, k1_1, by decide +kernel, by decide⟩
abbrev mX1_faces : MI := (yX1_faces, cX1_faces, 1, some .int)
theorem ok_X1_faces : MOK mX1_faces 0 := ⟨k2_163, k1_8, by decide +kernel, by decide⟩
abbrev mX2_init : MI := (yX2_init, cX2_init, 3, none)
theorem ok_X2_init : MOK mX2_init 2 := ⟨k2_173, k1_14, by decide +kernel, by decide⟩
abbrev mX7_init : MI := (yX7_init, cX7_init, 5, none)
theorem ok_X7_init : MOK mX7_init 3 := ⟨k2_167, k1_13, by decide +kernel, by decide⟩
abbrev mX7_formeOn : MI := (yX7_formeOn, cX7_formeOn, 2, some (.object "TypeHouse$Forme"))
theorem ok_X7_formeOn : MOK mX7_formeOn 1 := ⟨k3_12, k1_13, by decide +kernel, by decide⟩
abbrev mX7_takePages : MI := (yX7_takePages, cX7_takePages, 5, none)
theorem ok_X7_takePages : MOK mX7_takePages 2 := ⟨k3_8, k1_13, by decide +kernel, by decide⟩
abbrev mX9_sheet : MI := (yX9_sheet, cX9_sheet, 6, some .int)
theorem ok_X9_sheet : MOK mX9_sheet 3 := ⟨k2_156, k1_1, by decide +kernel, by decide⟩
abbrev mX1_hasLeaf : MI := (yX1_hasLeaf, cX1_hasLeaf, 3, some .boolean)
theorem ok_X1_hasLeaf : MOK mX1_hasLeaf 2 := ⟨k3_20, k1_8, by decide +kernel, by decide⟩
abbrev mX9_isSide : MI := (yX9_isSide, cX9_isSide, 1, some .boolean)
theorem ok_X9_isSide : MOK mX9_isSide 1 := ⟨k3_23, k1_1, by decide +kernel, by decide⟩
abbrev mX1_leafAt : MI := (yX1_leafAt, cX1_leafAt, 3, some .int)
theorem ok_X1_leafAt : MOK mX1_leafAt 2 := ⟨k3_27, k1_8, by decide +kernel, by decide⟩
abbrev mX9_fold : MI := (yX9_fold, cX9_fold, 8, some .int)
theorem ok_X9_fold : MOK mX9_fold 5 := ⟨k3_16, k1_1, by decide +kernel, by decide⟩
abbrev mX9_findForme : MI := (yX9_findForme, cX9_findForme, 2, some (.object "TypeHouse$Forme"))
theorem ok_X9_findForme : MOK mX9_findForme 1 := ⟨k3_35, k1_1, by decide +kernel, by decide⟩
abbrev mX2_allPagesSet : MI := (yX2_allPagesSet, cX2_allPagesSet, 2, some .boolean)
theorem ok_X2_allPagesSet : MOK mX2_allPagesSet 0 := ⟨k3_41, k1_14, by decide +kernel, by decide⟩
abbrev mX9_impose : MI := (yX9_impose, cX9_impose, 4, some .int)
theorem ok_X9_impose : MOK mX9_impose 2 := ⟨k3_31, k1_1, by decide +kernel, by decide⟩
abbrev mX2_hasAll : MI := (yX2_hasAll, cX2_hasAll, 1, some .boolean)
theorem ok_X2_hasAll : MOK mX2_hasAll 0 := ⟨k3_49, k1_14, by decide +kernel, by decide⟩
abbrev mX9_breakUp : MI := (yX9_breakUp, cX9_breakUp, 4, some .int)
theorem ok_X9_breakUp : MOK mX9_breakUp 1 := ⟨k3_45, k1_1, by decide +kernel, by decide⟩
abbrev mX9_paper : MI := (yX9_paper, cX9_paper, 2, some .int)
theorem ok_X9_paper : MOK mX9_paper 1 := ⟨k3_53, k1_1, by decide +kernel, by decide⟩
abbrev mX7_isFirstSide : MI := (yX7_isFirstSide, cX7_isFirstSide, 2, some .boolean)
theorem ok_X7_isFirstSide : MOK mX7_isFirstSide 1 := ⟨k3_65, k1_13, by decide +kernel, by decide⟩
abbrev mX7_mayBePrintedOn : MI := (yX7_mayBePrintedOn, cX7_mayBePrintedOn, 2, some .boolean)
theorem ok_X7_mayBePrintedOn : MOK mX7_mayBePrintedOn 1 := ⟨k3_61, k1_13, by decide +kernel, by decide⟩
abbrev mX2_keepWhatStands : MI := (yX2_keepWhatStands, cX2_keepWhatStands, 2, none)
theorem ok_X2_keepWhatStands : MOK mX2_keepWhatStands 0 := ⟨k3_80, k1_14, by decide +kernel, by decide⟩
abbrev mX2_impress : MI := (yX2_impress, cX2_impress, 2, none)
theorem ok_X2_impress : MOK mX2_impress 1 := ⟨k3_76, k1_14, by decide +kernel, by decide⟩
abbrev mX7_printRun : MI := (yX7_printRun, cX7_printRun, 5, none)
theorem ok_X7_printRun : MOK mX7_printRun 2 := ⟨k3_72, k1_13, by decide +kernel, by decide⟩
abbrev mX9_print : MI := (yX9_print, cX9_print, 9, some .int)
theorem ok_X9_print : MOK mX9_print 3 := ⟨k3_57, k1_1, by decide +kernel, by decide⟩
abbrev mX9_forme : MI := (yX9_forme, cX9_forme, 4, some .int)
theorem ok_X9_forme : MOK mX9_forme 2 := ⟨k3_85, k1_1, by decide +kernel, by decide⟩
abbrev mX9_findSheet : MI := (yX9_findSheet, cX9_findSheet, 2, some (.object "TypeHouse$Sheet"))
theorem ok_X9_findSheet : MOK mX9_findSheet 1 := ⟨k3_93, k1_1, by decide +kernel, by decide⟩
abbrev mX7_hasCopy : MI := (yX7_hasCopy, cX7_hasCopy, 2, some .boolean)
theorem ok_X7_hasCopy : MOK mX7_hasCopy 1 := ⟨k3_97, k1_13, by decide +kernel, by decide⟩
abbrev mX9_state : MI := (yX9_state, cX9_state, 5, some .int)
theorem ok_X9_state : MOK mX9_state 3 := ⟨k3_89, k1_1, by decide +kernel, by decide⟩
abbrev mX7_hasPage : MI := (yX7_hasPage, cX7_hasPage, 2, some .boolean)
theorem ok_X7_hasPage : MOK mX7_hasPage 1 := ⟨k3_105, k1_13, by decide +kernel, by decide⟩
abbrev mX2_shownAt : MI := (yX2_shownAt, cX2_shownAt, 7, some .int)
theorem ok_X2_shownAt : MOK mX2_shownAt 3 := ⟨k3_109, k1_14, by decide +kernel, by decide⟩
abbrev mX9_read : MI := (yX9_read, cX9_read, 7, some .int)
theorem ok_X9_read : MOK mX9_read 4 := ⟨k3_101, k1_1, by decide +kernel, by decide⟩
abbrev mX7_placeAmongGood : MI := (yX7_placeAmongGood, cX7_placeAmongGood, 3, some .int)
theorem ok_X7_placeAmongGood : MOK mX7_placeAmongGood 1 := ⟨k3_117, k1_13, by decide +kernel, by decide⟩
abbrev mX7_isPrintedAtAll : MI := (yX7_isPrintedAtAll, cX7_isPrintedAtAll, 2, some .boolean)
theorem ok_X7_isPrintedAtAll : MOK mX7_isPrintedAtAll 1 := ⟨k3_121, k1_13, by decide +kernel, by decide⟩
abbrev mX7_dropGood : MI := (yX7_dropGood, cX7_dropGood, 3, none)
theorem ok_X7_dropGood : MOK mX7_dropGood 1 := ⟨k3_125, k1_13, by decide +kernel, by decide⟩
abbrev mX7_spoiltCount : MI := (yX7_spoiltCount, cX7_spoiltCount, 1, some .int)
theorem ok_X7_spoiltCount : MOK mX7_spoiltCount 0 := ⟨k3_129, k1_13, by decide +kernel, by decide⟩
abbrev mX9_spoil : MI := (yX9_spoil, cX9_spoil, 6, some .int)
theorem ok_X9_spoil : MOK mX9_spoil 3 := ⟨k3_113, k1_1, by decide +kernel, by decide⟩
abbrev mX7_hasForBook : MI := (yX7_hasForBook, cX7_hasForBook, 2, some .boolean)
theorem ok_X7_hasForBook : MOK mX7_hasForBook 1 := ⟨k3_141, k1_13, by decide +kernel, by decide⟩
abbrev mX9_isBook : MI := (yX9_isBook, cX9_isBook, 3, some .boolean)
theorem ok_X9_isBook : MOK mX9_isBook 1 := ⟨k3_137, k1_1, by decide +kernel, by decide⟩
abbrev mX9_books : MI := (yX9_books, cX9_books, 3, some .int)
theorem ok_X9_books : MOK mX9_books 0 := ⟨k3_133, k1_1, by decide +kernel, by decide⟩
abbrev mX9_inBook : MI := (yX9_inBook, cX9_inBook, 4, some .int)
theorem ok_X9_inBook : MOK mX9_inBook 2 := ⟨k3_145, k1_1, by decide +kernel, by decide⟩
abbrev mX7_unlikeSides : MI := (yX7_unlikeSides, cX7_unlikeSides, 4, some .int)
theorem ok_X7_unlikeSides : MOK mX7_unlikeSides 2 := ⟨k3_157, k1_13, by decide +kernel, by decide⟩
abbrev mX9_sidesUnlike : MI := (yX9_sidesUnlike, cX9_sidesUnlike, 5, some .int)
theorem ok_X9_sidesUnlike : MOK mX9_sidesUnlike 2 := ⟨k3_153, k1_1, by decide +kernel, by decide⟩
abbrev mX9_unlike : MI := (yX9_unlike, cX9_unlike, 3, some .int)
theorem ok_X9_unlike : MOK mX9_unlike 2 := ⟨k3_149, k1_1, by decide +kernel, by decide⟩
abbrev mX9_hasTwinAhead : MI := (yX9_hasTwinAhead, cX9_hasTwinAhead, 3, some .boolean)
theorem ok_X9_hasTwinAhead : MOK mX9_hasTwinAhead 1 := ⟨k3_165, k1_1, by decide +kernel, by decide⟩
abbrev mX9_kinds : MI := (yX9_kinds, cX9_kinds, 3, some .int)
theorem ok_X9_kinds : MOK mX9_kinds 0 := ⟨k3_161, k1_1, by decide +kernel, by decide⟩
abbrev mX0_replaceWear : MI := (yX0_replaceWear, cX0_replaceWear, 5, some .int)
theorem ok_X0_replaceWear : MOK mX0_replaceWear 3 := ⟨k3_173, k1_4, by decide +kernel, by decide⟩
abbrev mX9_seen : MI := (yX9_seen, cX9_seen, 4, some .int)
theorem ok_X9_seen : MOK mX9_seen 3 := ⟨k3_169, k1_1, by decide +kernel, by decide⟩
abbrev mJ6_bitCount_0f7a4 : MI := (yJ6_bitCount_0f7a4, cJ6_bitCount_0f7a4, 1, some .int)
theorem ok_J6_bitCount_0f7a4 : MOK mJ6_bitCount_0f7a4 1 := ⟨k3_180, k1_15, by decide +kernel, by decide⟩
abbrev mX0_quarrelsOf : MI := (yX0_quarrelsOf, cX0_quarrelsOf, 6, some .int)
theorem ok_X0_quarrelsOf : MOK mX0_quarrelsOf 2 := ⟨k3_195, k1_4, by decide +kernel, by decide⟩
abbrev mX0_countPairs : MI := (yX0_countPairs, cX0_countPairs, 3, none)
theorem ok_X0_countPairs : MOK mX0_countPairs 0 := ⟨k3_191, k1_4, by decide +kernel, by decide⟩
abbrev mX0_withHead : MI := (yX0_withHead, cX0_withHead, 6, some .int)
theorem ok_X0_withHead : MOK mX0_withHead 2 := ⟨k3_204, k1_4, by decide +kernel, by decide⟩
abbrev mX0_solve : MI := (yX0_solve, cX0_solve, 6, none)
theorem ok_X0_solve : MOK mX0_solve 1 := ⟨k3_199, k1_4, by decide +kernel, by decide⟩
abbrev mX0_leastHead : MI := (yX0_leastHead, cX0_leastHead, 3, some .int)
theorem ok_X0_leastHead : MOK mX0_leastHead 1 := ⟨k3_212, k1_4, by decide +kernel, by decide⟩
abbrev mX0_takeLeast : MI := (yX0_takeLeast, cX0_takeLeast, 5, none)
theorem ok_X0_takeLeast : MOK mX0_takeLeast 1 := ⟨k3_208, k1_4, by decide +kernel, by decide⟩
abbrev mX0_findOrder : MI := (yX0_findOrder, cX0_findOrder, 4, some .int)
theorem ok_X0_findOrder : MOK mX0_findOrder 1 := ⟨k3_187, k1_4, by decide +kernel, by decide⟩
abbrev mX9_order : MI := (yX9_order, cX9_order, 3, some .int)
theorem ok_X9_order : MOK mX9_order 1 := ⟨k3_177, k1_1, by decide +kernel, by decide⟩
abbrev mX9_ordered : MI := (yX9_ordered, cX9_ordered, 2, some .int)
theorem ok_X9_ordered : MOK mX9_ordered 1 := ⟨k3_216, k1_1, by decide +kernel, by decide⟩
abbrev mX9_rivals : MI := (yX9_rivals, cX9_rivals, 1, some .int)
theorem ok_X9_rivals : MOK mX9_rivals 0 := ⟨k3_220, k1_1, by decide +kernel, by decide⟩
abbrev mX5_textOf : MI := (yX5_textOf, cX5_textOf, 1, some (.object "java/lang/String"))
theorem ok_X5_textOf : MOK mX5_textOf 1 := ⟨k3_239, k1_6, by decide +kernel, by decide⟩
abbrev mJ0_coder_7d493 : MI := (yJ0_coder_7d493, cJ0_coder_7d493, 1, some .byte)
theorem ok_J0_coder_7d493 : MOK mJ0_coder_7d493 0 := ⟨k4_15, k1_16, by decide +kernel, by decide⟩
abbrev mJ0_length_8abf5 : MI := (yJ0_length_8abf5, cJ0_length_8abf5, 1, some .int)
theorem ok_J0_length_8abf5 : MOK mJ0_length_8abf5 0 := ⟨k4_11, k1_16, by decide +kernel, by decide⟩
abbrev mJ0_isLatin1_aae02 : MI := (yJ0_isLatin1_aae02, cJ0_isLatin1_aae02, 1, some .boolean)
theorem ok_J0_isLatin1_aae02 : MOK mJ0_isLatin1_aae02 0 := ⟨k4_26, k1_16, by decide +kernel, by decide⟩
abbrev mJ3_checkIndex_8e157 : MI := (yJ3_checkIndex_8e157, cJ3_checkIndex_8e157, 3, some .int)
theorem ok_J3_checkIndex_8e157 : MOK mJ3_checkIndex_8e157 3 := ⟨k4_37, k1_18, by decide +kernel, by decide⟩
abbrev mJ0_checkIndex_df160 : MI := (yJ0_checkIndex_df160, cJ0_checkIndex_df160, 2, none)
theorem ok_J0_checkIndex_df160 : MOK mJ0_checkIndex_df160 2 := ⟨k4_32, k1_16, by decide +kernel, by decide⟩
abbrev mJ1_charAt_3b067 : MI := (yJ1_charAt_3b067, cJ1_charAt_3b067, 2, some .char)
theorem ok_J1_charAt_3b067 : MOK mJ1_charAt_3b067 2 := ⟨k4_29, k1_17, by decide +kernel, by decide⟩
abbrev mJ0_charAt_5068e : MI := (yJ0_charAt_5068e, cJ0_charAt_5068e, 2, some .char)
theorem ok_J0_charAt_5068e : MOK mJ0_charAt_5068e 1 := ⟨k4_22, k1_16, by decide +kernel, by decide⟩
abbrev mX5_sameAs : MI := (yX5_sameAs, cX5_sameAs, 4, some .int)
theorem ok_X5_sameAs : MOK mX5_sameAs 2 := ⟨k4_7, k1_6, by decide +kernel, by decide⟩
abbrev mX5_readWord : MI := (yX5_readWord, cX5_readWord, 6, some .int)
theorem ok_X5_readWord : MOK mX5_readWord 1 := ⟨k3_236, k1_6, by decide +kernel, by decide⟩
abbrev mX5_skip : MI := (yX5_skip, cX5_skip, 3, some .boolean)
theorem ok_X5_skip : MOK mX5_skip 2 := ⟨k4_63, k1_6, by decide +kernel, by decide⟩
abbrev mX5_digitHere : MI := (yX5_digitHere, cX5_digitHere, 3, some .int)
theorem ok_X5_digitHere : MOK mX5_digitHere 1 := ⟨k4_71, k1_6, by decide +kernel, by decide⟩
abbrev mX5_readNumber : MI := (yX5_readNumber, cX5_readNumber, 6, some .int)
theorem ok_X5_readNumber : MOK mX5_readNumber 2 := ⟨k4_67, k1_6, by decide +kernel, by decide⟩
abbrev mX5_readClause : MI := (yX5_readClause, cX5_readClause, 5, some .boolean)
theorem ok_X5_readClause : MOK mX5_readClause 1 := ⟨k3_232, k1_6, by decide +kernel, by decide⟩
abbrev mX5_take : MI := (yX5_take, cX5_take, 3, some .int)
theorem ok_X5_take : MOK mX5_take 1 := ⟨k3_228, k1_6, by decide +kernel, by decide⟩
abbrev mX9_law : MI := (yX9_law, cX9_law, 2, some .int)
theorem ok_X9_law : MOK mX9_law 0 := ⟨k3_224, k1_1, by decide +kernel, by decide⟩
abbrev mX5_amount : MI := (yX5_amount, cX5_amount, 3, some .long)
theorem ok_X5_amount : MOK mX5_amount 2 := ⟨k4_81, k1_6, by decide +kernel, by decide⟩
abbrev mX9_faultsNow : MI := (yX9_faultsNow, cX9_faultsNow, 4, some .int)
theorem ok_X9_faultsNow : MOK mX9_faultsNow 1 := ⟨k4_85, k1_1, by decide +kernel, by decide⟩
abbrev mX9_wages : MI := (yX9_wages, cX9_wages, 6, some .int)
theorem ok_X9_wages : MOK mX9_wages 1 := ⟨k4_77, k1_1, by decide +kernel, by decide⟩
abbrev mX9_did : MI := (yX9_did, cX9_did, 3, some .int)
theorem ok_X9_did : MOK mX9_did 2 := ⟨k4_92, k1_1, by decide +kernel, by decide⟩
abbrev mX4_append : MI := (yX4_append, cX4_append, 4, none)
theorem ok_X4_append : MOK mX4_append 3 := ⟨k4_100, k1_7, by decide +kernel, by decide⟩
abbrev mX9_job : MI := (yX9_job, cX9_job, 4, some .int)
theorem ok_X9_job : MOK mX9_job 3 := ⟨k4_96, k1_1, by decide +kernel, by decide⟩
abbrev mX4_tryFrom : MI := (yX4_tryFrom, cX4_tryFrom, 9, none)
theorem ok_X4_tryFrom : MOK mX4_tryFrom 5 := ⟨k4_113, k1_7, by decide +kernel, by decide⟩
abbrev mX4_findPlan : MI := (yX4_findPlan, cX4_findPlan, 1, some .int)
theorem ok_X4_findPlan : MOK mX4_findPlan 0 := ⟨k4_108, k1_7, by decide +kernel, by decide⟩
abbrev mX9_plan : MI := (yX9_plan, cX9_plan, 1, some .int)
theorem ok_X9_plan : MOK mX9_plan 0 := ⟨k4_104, k1_1, by decide +kernel, by decide⟩
abbrev mX9_planned : MI := (yX9_planned, cX9_planned, 3, some .int)
theorem ok_X9_planned : MOK mX9_planned 2 := ⟨k4_119, k1_1, by decide +kernel, by decide⟩
abbrev mX9_sortsInPages : MI := (yX9_sortsInPages, cX9_sortsInPages, 3, some .int)
theorem ok_X9_sortsInPages : MOK mX9_sortsInPages 0 := ⟨k4_139, k1_1, by decide +kernel, by decide⟩
abbrev mX9_pagesSet : MI := (yX9_pagesSet, cX9_pagesSet, 3, some .int)
theorem ok_X9_pagesSet : MOK mX9_pagesSet 0 := ⟨k4_127, k1_1, by decide +kernel, by decide⟩
abbrev mX3_total : MI := (yX3_total, cX3_total, 7, some .int)
theorem ok_X3_total : MOK mX3_total 1 := ⟨k4_131, k1_3, by decide +kernel, by decide⟩
abbrev mX9_formesImposed : MI := (yX9_formesImposed, cX9_formesImposed, 3, some .int)
theorem ok_X9_formesImposed : MOK mX9_formesImposed 0 := ⟨k4_135, k1_1, by decide +kernel, by decide⟩
abbrev mX9_count : MI := (yX9_count, cX9_count, 2, some .int)
theorem ok_X9_count : MOK mX9_count 1 := ⟨k4_123, k1_1, by decide +kernel, by decide⟩
abbrev mX10_columnsOf : MI := (yX10_columnsOf, cX10_columnsOf, 1, some .int)
theorem ok_X10_columnsOf : MOK mX10_columnsOf 1 := ⟨k4_152, k1_9, by decide +kernel, by decide⟩
abbrev mX10_rowsOf : MI := (yX10_rowsOf, cX10_rowsOf, 1, some .int)
theorem ok_X10_rowsOf : MOK mX10_rowsOf 1 := ⟨k4_155, k1_9, by decide +kernel, by decide⟩
abbrev mX10_leavesOf : MI := (yX10_leavesOf, cX10_leavesOf, 1, some .int)
theorem ok_X10_leavesOf : MOK mX10_leavesOf 1 := ⟨k4_158, k1_9, by decide +kernel, by decide⟩
abbrev mX10_puts : MI := (yX10_puts, cX10_puts, 7, none)
theorem ok_X10_puts : MOK mX10_puts 4 := ⟨k4_162, k1_9, by decide +kernel, by decide⟩
abbrev mX10_folds : MI := (yX10_folds, cX10_folds, 9, none)
theorem ok_X10_folds : MOK mX10_folds 1 := ⟨k4_149, k1_9, by decide +kernel, by decide⟩
abbrev mX10_init : MI := (yX10_init, cX10_init, 2, none)
theorem ok_X10_init : MOK mX10_init 0 := ⟨k4_144, k1_9, by decide +kernel, by decide⟩
abbrev mX10_isIn : MI := (yX10_isIn, cX10_isIn, 6, some .boolean)
theorem ok_X10_isIn : MOK mX10_isIn 3 := ⟨k5_90, k1_9, by decide +kernel, by decide⟩
abbrev mX10_isLetter : MI := (yX10_isLetter, cX10_isLetter, 1, some .boolean)
theorem ok_X10_isLetter : MOK mX10_isLetter 1 := ⟨k5_98, k1_9, by decide +kernel, by decide⟩
abbrev mX10_isPage : MI := (yX10_isPage, cX10_isPage, 2, some .boolean)
theorem ok_X10_isPage : MOK mX10_isPage 1 := ⟨k5_118, k1_9, by decide +kernel, by decide⟩
abbrev mX10_isPlace : MI := (yX10_isPlace, cX10_isPlace, 3, some .boolean)
theorem ok_X10_isPlace : MOK mX10_isPlace 2 := ⟨k5_133, k1_9, by decide +kernel, by decide⟩
abbrev mX10_isHand : MI := (yX10_isHand, cX10_isHand, 1, some .boolean)
theorem ok_X10_isHand : MOK mX10_isHand 1 := ⟨k5_121, k1_9, by decide +kernel, by decide⟩
abbrev mX10_feed : MI := (yX10_feed, cX10_feed, 5, some .int)
theorem ok_X10_feed : MOK mX10_feed 2 := ⟨k5_86, k1_9, by decide +kernel, by decide⟩
abbrev mX10_cast : MI := (yX10_cast, cX10_cast, 3, some .int)
theorem ok_X10_cast : MOK mX10_cast 2 := ⟨k5_95, k1_9, by decide +kernel, by decide⟩
abbrev mX10_sorts : MI := (yX10_sorts, cX10_sorts, 2, some .int)
theorem ok_X10_sorts : MOK mX10_sorts 1 := ⟨k5_103, k1_9, by decide +kernel, by decide⟩
abbrev mX10_signOf : MI := (yX10_signOf, cX10_signOf, 1, some .int)
theorem ok_X10_signOf : MOK mX10_signOf 1 := ⟨k5_110, k1_9, by decide +kernel, by decide⟩
abbrev mX10_page : MI := (yX10_page, cX10_page, 4, some .int)
theorem ok_X10_page : MOK mX10_page 0 := ⟨k5_107, k1_9, by decide +kernel, by decide⟩
abbrev mX10_lettersOf : MI := (yX10_lettersOf, cX10_lettersOf, 4, some .int)
theorem ok_X10_lettersOf : MOK mX10_lettersOf 1 := ⟨k5_125, k1_9, by decide +kernel, by decide⟩
abbrev mX10_set : MI := (yX10_set, cX10_set, 6, some .int)
theorem ok_X10_set : MOK mX10_set 2 := ⟨k5_114, k1_9, by decide +kernel, by decide⟩
abbrev mX10_misset : MI := (yX10_misset, cX10_misset, 7, some .int)
theorem ok_X10_misset : MOK mX10_misset 3 := ⟨k5_129, k1_9, by decide +kernel, by decide⟩
abbrev mX10_distribute : MI := (yX10_distribute, cX10_distribute, 4, some .int)
theorem ok_X10_distribute : MOK mX10_distribute 1 := ⟨k5_137, k1_9, by decide +kernel, by decide⟩
abbrev mX10_at : MI := (yX10_at, cX10_at, 4, some .int)
theorem ok_X10_at : MOK mX10_at 3 := ⟨k5_141, k1_9, by decide +kernel, by decide⟩
abbrev mX10_faultsOf : MI := (yX10_faultsOf, cX10_faultsOf, 4, some .int)
theorem ok_X10_faultsOf : MOK mX10_faultsOf 1 := ⟨k5_149, k1_9, by decide +kernel, by decide⟩
abbrev mX10_faults : MI := (yX10_faults, cX10_faults, 2, some .int)
theorem ok_X10_faults : MOK mX10_faults 1 := ⟨k5_145, k1_9, by decide +kernel, by decide⟩
abbrev mX10_fault : MI := (yX10_fault, cX10_fault, 5, some .int)
theorem ok_X10_fault : MOK mX10_fault 2 := ⟨k5_153, k1_9, by decide +kernel, by decide⟩
abbrev mX10_fold : MI := (yX10_fold, cX10_fold, 7, some .int)
theorem ok_X10_fold : MOK mX10_fold 5 := ⟨k5_157, k1_9, by decide +kernel, by decide⟩
abbrev mX10_sheet : MI := (yX10_sheet, cX10_sheet, 7, some .int)
theorem ok_X10_sheet : MOK mX10_sheet 3 := ⟨k5_162, k1_9, by decide +kernel, by decide⟩
abbrev mX10_isSheet : MI := (yX10_isSheet, cX10_isSheet, 2, some .boolean)
theorem ok_X10_isSheet : MOK mX10_isSheet 1 := ⟨k5_211, k1_9, by decide +kernel, by decide⟩
abbrev mX10_isForme : MI := (yX10_isForme, cX10_isForme, 2, some .boolean)
theorem ok_X10_isForme : MOK mX10_isForme 1 := ⟨k5_171, k1_9, by decide +kernel, by decide⟩
abbrev mX10_pageIn : MI := (yX10_pageIn, cX10_pageIn, 3, some .int)
theorem ok_X10_pageIn : MOK mX10_pageIn 2 := ⟨k5_175, k1_9, by decide +kernel, by decide⟩
abbrev mX10_impose : MI := (yX10_impose, cX10_impose, 6, some .int)
theorem ok_X10_impose : MOK mX10_impose 2 := ⟨k5_167, k1_9, by decide +kernel, by decide⟩
abbrev mX10_breakUp : MI := (yX10_breakUp, cX10_breakUp, 4, some .int)
theorem ok_X10_breakUp : MOK mX10_breakUp 1 := ⟨k5_179, k1_9, by decide +kernel, by decide⟩
abbrev mX10_paper : MI := (yX10_paper, cX10_paper, 2, some .int)
theorem ok_X10_paper : MOK mX10_paper 1 := ⟨k5_183, k1_9, by decide +kernel, by decide⟩
abbrev mX10_shows : MI := (yX10_shows, cX10_shows, 5, none)
theorem ok_X10_shows : MOK mX10_shows 1 := ⟨k5_191, k1_9, by decide +kernel, by decide⟩
abbrev mX10_print : MI := (yX10_print, cX10_print, 8, some .int)
theorem ok_X10_print : MOK mX10_print 3 := ⟨k5_187, k1_9, by decide +kernel, by decide⟩
abbrev mX10_statesOf : MI := (yX10_statesOf, cX10_statesOf, 6, some .int)
theorem ok_X10_statesOf : MOK mX10_statesOf 1 := ⟨k5_199, k1_9, by decide +kernel, by decide⟩
abbrev mX10_forme : MI := (yX10_forme, cX10_forme, 3, some .int)
theorem ok_X10_forme : MOK mX10_forme 2 := ⟨k5_195, k1_9, by decide +kernel, by decide⟩
abbrev mX10_isCopy : MI := (yX10_isCopy, cX10_isCopy, 3, some .boolean)
theorem ok_X10_isCopy : MOK mX10_isCopy 2 := ⟨k5_207, k1_9, by decide +kernel, by decide⟩
abbrev mX10_state : MI := (yX10_state, cX10_state, 4, some .int)
theorem ok_X10_state : MOK mX10_state 3 := ⟨k5_203, k1_9, by decide +kernel, by decide⟩
abbrev mX10_read : MI := (yX10_read, cX10_read, 9, some .int)
theorem ok_X10_read : MOK mX10_read 4 := ⟨k5_215, k1_9, by decide +kernel, by decide⟩
abbrev mX10_isPrinted : MI := (yX10_isPrinted, cX10_isPrinted, 4, some .boolean)
theorem ok_X10_isPrinted : MOK mX10_isPrinted 3 := ⟨k5_223, k1_9, by decide +kernel, by decide⟩
abbrev mX10_spoiltOf : MI := (yX10_spoiltOf, cX10_spoiltOf, 4, some .int)
theorem ok_X10_spoiltOf : MOK mX10_spoiltOf 1 := ⟨k5_227, k1_9, by decide +kernel, by decide⟩
abbrev mX10_spoil : MI := (yX10_spoil, cX10_spoil, 4, some .int)
theorem ok_X10_spoil : MOK mX10_spoil 3 := ⟨k5_219, k1_9, by decide +kernel, by decide⟩
abbrev mX10_copyIn : MI := (yX10_copyIn, cX10_copyIn, 5, some .int)
theorem ok_X10_copyIn : MOK mX10_copyIn 2 := ⟨k5_239, k1_9, by decide +kernel, by decide⟩
abbrev mX10_isBook : MI := (yX10_isBook, cX10_isBook, 4, some .boolean)
theorem ok_X10_isBook : MOK mX10_isBook 1 := ⟨k5_235, k1_9, by decide +kernel, by decide⟩
abbrev mX10_books : MI := (yX10_books, cX10_books, 3, some .int)
theorem ok_X10_books : MOK mX10_books 0 := ⟨k5_231, k1_9, by decide +kernel, by decide⟩
abbrev mX10_inBook : MI := (yX10_inBook, cX10_inBook, 3, some .int)
theorem ok_X10_inBook : MOK mX10_inBook 2 := ⟨k6_3, k1_9, by decide +kernel, by decide⟩
abbrev mX10_apart : MI := (yX10_apart, cX10_apart, 5, some .int)
theorem ok_X10_apart : MOK mX10_apart 2 := ⟨k6_11, k1_9, by decide +kernel, by decide⟩
abbrev mX10_unlike : MI := (yX10_unlike, cX10_unlike, 3, some .int)
theorem ok_X10_unlike : MOK mX10_unlike 2 := ⟨k6_7, k1_9, by decide +kernel, by decide⟩
abbrev mX10_kinds : MI := (yX10_kinds, cX10_kinds, 5, some .int)
theorem ok_X10_kinds : MOK mX10_kinds 0 := ⟨k6_15, k1_9, by decide +kernel, by decide⟩
abbrev mX10_exchanges : MI := (yX10_exchanges, cX10_exchanges, 4, none)
theorem ok_X10_exchanges : MOK mX10_exchanges 2 := ⟨k6_41, k1_9, by decide +kernel, by decide⟩
abbrev mX10_next : MI := (yX10_next, cX10_next, 6, some .boolean)
theorem ok_X10_next : MOK mX10_next 1 := ⟨k6_37, k1_9, by decide +kernel, by decide⟩
abbrev mX10_seen : MI := (yX10_seen, cX10_seen, 5, some .int)
theorem ok_X10_seen : MOK mX10_seen 3 := ⟨k6_19, k1_9, by decide +kernel, by decide⟩
abbrev mX10_quarrels : MI := (yX10_quarrels, cX10_quarrels, 5, some .int)
theorem ok_X10_quarrels : MOK mX10_quarrels 2 := ⟨k6_32, k1_9, by decide +kernel, by decide⟩
abbrev mX10_order : MI := (yX10_order, cX10_order, 9, some .int)
theorem ok_X10_order : MOK mX10_order 1 := ⟨k6_27, k1_9, by decide +kernel, by decide⟩
abbrev mX10_ordered : MI := (yX10_ordered, cX10_ordered, 2, some .int)
theorem ok_X10_ordered : MOK mX10_ordered 1 := ⟨k6_45, k1_9, by decide +kernel, by decide⟩
abbrev mX10_rivals : MI := (yX10_rivals, cX10_rivals, 1, some .int)
theorem ok_X10_rivals : MOK mX10_rivals 0 := ⟨k6_49, k1_9, by decide +kernel, by decide⟩
abbrev mX10_signOf_ : MI := (yX10_signOf_, cX10_signOf_, 2, some .int)
theorem ok_X10_signOf_ : MOK mX10_signOf_ 2 := ⟨k6_64, k1_9, by decide +kernel, by decide⟩
abbrev mX10_sign : MI := (yX10_sign, cX10_sign, 1, some .int)
theorem ok_X10_sign : MOK mX10_sign 0 := ⟨k6_68, k1_9, by decide +kernel, by decide⟩
abbrev mX10_word : MI := (yX10_word, cX10_word, 5, some .int)
theorem ok_X10_word : MOK mX10_word 0 := ⟨k6_61, k1_9, by decide +kernel, by decide⟩
abbrev mX10_isDigit : MI := (yX10_isDigit, cX10_isDigit, 1, some .boolean)
theorem ok_X10_isDigit : MOK mX10_isDigit 1 := ⟨k6_75, k1_9, by decide +kernel, by decide⟩
abbrev mX10_number : MI := (yX10_number, cX10_number, 4, some .int)
theorem ok_X10_number : MOK mX10_number 1 := ⟨k6_72, k1_9, by decide +kernel, by decide⟩
abbrev mX10_clauses : MI := (yX10_clauses, cX10_clauses, 5, some .int)
theorem ok_X10_clauses : MOK mX10_clauses 0 := ⟨k6_57, k1_9, by decide +kernel, by decide⟩
abbrev mX10_law : MI := (yX10_law, cX10_law, 3, some .int)
theorem ok_X10_law : MOK mX10_law 0 := ⟨k6_53, k1_9, by decide +kernel, by decide⟩
abbrev mX10_faultsBy : MI := (yX10_faultsBy, cX10_faultsBy, 4, some .int)
theorem ok_X10_faultsBy : MOK mX10_faultsBy 1 := ⟨k6_87, k1_9, by decide +kernel, by decide⟩
abbrev mX10_part : MI := (yX10_part, cX10_part, 4, some .long)
theorem ok_X10_part : MOK mX10_part 2 := ⟨k6_83, k1_9, by decide +kernel, by decide⟩
abbrev mX10_wages : MI := (yX10_wages, cX10_wages, 4, some .int)
theorem ok_X10_wages : MOK mX10_wages 1 := ⟨k6_79, k1_9, by decide +kernel, by decide⟩
abbrev mX10_did : MI := (yX10_did, cX10_did, 3, some .int)
theorem ok_X10_did : MOK mX10_did 2 := ⟨k6_91, k1_9, by decide +kernel, by decide⟩
abbrev mX10_job : MI := (yX10_job, cX10_job, 4, some .int)
theorem ok_X10_job : MOK mX10_job 3 := ⟨k6_95, k1_9, by decide +kernel, by decide⟩
abbrev mX10_late : MI := (yX10_late, cX10_late, 4, some .int)
theorem ok_X10_late : MOK mX10_late 0 := ⟨k6_105, k1_9, by decide +kernel, by decide⟩
abbrev mX10_plan : MI := (yX10_plan, cX10_plan, 7, some .int)
theorem ok_X10_plan : MOK mX10_plan 0 := ⟨k6_101, k1_9, by decide +kernel, by decide⟩
abbrev mX10_planned : MI := (yX10_planned, cX10_planned, 3, some .int)
theorem ok_X10_planned : MOK mX10_planned 2 := ⟨k6_109, k1_9, by decide +kernel, by decide⟩
abbrev mX10_count : MI := (yX10_count, cX10_count, 4, some .int)
theorem ok_X10_count : MOK mX10_count 1 := ⟨k6_113, k1_9, by decide +kernel, by decide⟩
theorem fdX8_9 : FDp RX8 9 8 0 true (.array .int) := ⟨by decide, by decide, RX8, TX8, 2, tyX8, rfl, by decide, lay8, k1_34, tyX8_ok, nmX8, rfl, tyX8_ok 0 (by decide), fun q => rfl⟩
theorem fgX8_9 : FGp RX8 9 8 0 := ⟨by decide, by decide, RX8, TX8, 2, rfl, by decide, lay8, k1_34⟩
theorem fdX6_15 : FDp RX6 15 8 1 false (.int) := ⟨by decide, by decide, RX8, TX8, 2, tyX8, rfl, by decide, lay8, k1_35, tyX8_ok, nmX8, rfl, tyX8_ok 1 (by decide), fun q => absurd q (by decide)⟩
theorem fgX6_15 : FGp RX6 15 8 1 := ⟨by decide, by decide, RX8, TX8, 2, rfl, by decide, lay8, k1_35⟩
theorem fdX8_15 : FDp RX8 15 8 1 false (.int) := ⟨by decide, by decide, RX8, TX8, 2, tyX8, rfl, by decide, lay8, k1_36, tyX8_ok, nmX8, rfl, tyX8_ok 1 (by decide), fun q => absurd q (by decide)⟩
theorem fgX8_15 : FGp RX8 15 8 1 := ⟨by decide, by decide, RX8, TX8, 2, rfl, by decide, lay8, k1_36⟩
theorem fdX9_76 : FDp RX9 76 8 1 false (.int) := ⟨by decide, by decide, RX8, TX8, 2, tyX8, rfl, by decide, lay8, k1_37, tyX8_ok, nmX8, rfl, tyX8_ok 1 (by decide), fun q => absurd q (by decide)⟩
theorem fgX9_76 : FGp RX9 76 8 1 := ⟨by decide, by decide, RX8, TX8, 2, rfl, by decide, lay8, k1_37⟩
theorem fdX5_42 : FDp RX5 42 8 1 false (.int) := ⟨by decide, by decide, RX8, TX8, 2, tyX8, rfl, by decide, lay8, k1_38, tyX8_ok, nmX8, rfl, tyX8_ok 1 (by decide), fun q => absurd q (by decide)⟩
theorem fgX5_42 : FGp RX5 42 8 1 := ⟨by decide, by decide, RX8, TX8, 2, rfl, by decide, lay8, k1_38⟩
theorem fdX3_9 : FDp RX3 9 3 0 true (.array .int) := ⟨by decide, by decide, RX3, TX3, 3, tyX3, rfl, by decide, lay3, k1_57, tyX3_ok, nmX3, rfl, tyX3_ok 0 (by decide), fun q => rfl⟩
theorem fgX3_9 : FGp RX3 9 3 0 := ⟨by decide, by decide, RX3, TX3, 3, rfl, by decide, lay3, k1_57⟩
theorem fgX9_117 : FGp RX9 117 3 0 := ⟨by decide, by decide, RX3, TX3, 3, rfl, by decide, lay3, k1_58⟩
theorem fdX3_15 : FDp RX3 15 3 1 true (.array .int) := ⟨by decide, by decide, RX3, TX3, 3, tyX3, rfl, by decide, lay3, k1_59, tyX3_ok, nmX3, rfl, tyX3_ok 1 (by decide), fun q => rfl⟩
theorem fgX3_15 : FGp RX3 15 3 1 := ⟨by decide, by decide, RX3, TX3, 3, rfl, by decide, lay3, k1_59⟩
theorem fgX9_228 : FGp RX9 228 3 1 := ⟨by decide, by decide, RX3, TX3, 3, rfl, by decide, lay3, k1_60⟩
theorem fdX3_18 : FDp RX3 18 3 2 true (.array .int) := ⟨by decide, by decide, RX3, TX3, 3, tyX3, rfl, by decide, lay3, k1_61, tyX3_ok, nmX3, rfl, tyX3_ok 2 (by decide), fun q => rfl⟩
theorem fgX3_18 : FGp RX3 18 3 2 := ⟨by decide, by decide, RX3, TX3, 3, rfl, by decide, lay3, k1_61⟩
theorem fgX9_266 : FGp RX9 266 3 2 := ⟨by decide, by decide, RX3, TX3, 3, rfl, by decide, lay3, k1_62⟩
theorem fdX0_9 : FDp RX0 9 0 0 true (.array .int) := ⟨by decide, by decide, RX0, TX0, 8, tyX0, rfl, by decide, lay0, k1_80, tyX0_ok, nmX0, rfl, tyX0_ok 0 (by decide), fun q => rfl⟩
theorem fgX0_9 : FGp RX0 9 0 0 := ⟨by decide, by decide, RX0, TX0, 8, rfl, by decide, lay0, k1_80⟩
theorem fdX0_15 : FDp RX0 15 0 1 true (.array .int) := ⟨by decide, by decide, RX0, TX0, 8, tyX0, rfl, by decide, lay0, k1_81, tyX0_ok, nmX0, rfl, tyX0_ok 1 (by decide), fun q => rfl⟩
theorem fgX0_15 : FGp RX0 15 0 1 := ⟨by decide, by decide, RX0, TX0, 8, rfl, by decide, lay0, k1_81⟩
theorem fdX0_18 : FDp RX0 18 0 2 true (.array .int) := ⟨by decide, by decide, RX0, TX0, 8, tyX0, rfl, by decide, lay0, k1_82, tyX0_ok, nmX0, rfl, tyX0_ok 2 (by decide), fun q => rfl⟩
theorem fgX0_18 : FGp RX0 18 0 2 := ⟨by decide, by decide, RX0, TX0, 8, rfl, by decide, lay0, k1_82⟩
theorem fdX0_21 : FDp RX0 21 0 3 true (.array .int) := ⟨by decide, by decide, RX0, TX0, 8, tyX0, rfl, by decide, lay0, k1_83, tyX0_ok, nmX0, rfl, tyX0_ok 3 (by decide), fun q => rfl⟩
theorem fgX0_21 : FGp RX0 21 0 3 := ⟨by decide, by decide, RX0, TX0, 8, rfl, by decide, lay0, k1_83⟩
theorem fdX0_24 : FDp RX0 24 0 4 true (.array .int) := ⟨by decide, by decide, RX0, TX0, 8, tyX0, rfl, by decide, lay0, k1_84, tyX0_ok, nmX0, rfl, tyX0_ok 4 (by decide), fun q => rfl⟩
theorem fgX0_24 : FGp RX0 24 0 4 := ⟨by decide, by decide, RX0, TX0, 8, rfl, by decide, lay0, k1_84⟩
theorem fdX0_27 : FDp RX0 27 0 5 true (.array .int) := ⟨by decide, by decide, RX0, TX0, 8, tyX0, rfl, by decide, lay0, k1_85, tyX0_ok, nmX0, rfl, tyX0_ok 5 (by decide), fun q => rfl⟩
theorem fgX0_27 : FGp RX0 27 0 5 := ⟨by decide, by decide, RX0, TX0, 8, rfl, by decide, lay0, k1_85⟩
theorem fgX9_297 : FGp RX9 297 0 5 := ⟨by decide, by decide, RX0, TX0, 8, rfl, by decide, lay0, k1_86⟩
theorem fdX0_36 : FDp RX0 36 0 6 false (.int) := ⟨by decide, by decide, RX0, TX0, 8, tyX0, rfl, by decide, lay0, k1_87, tyX0_ok, nmX0, rfl, tyX0_ok 6 (by decide), fun q => absurd q (by decide)⟩
theorem fgX0_36 : FGp RX0 36 0 6 := ⟨by decide, by decide, RX0, TX0, 8, rfl, by decide, lay0, k1_87⟩
theorem fdX9_296 : FDp RX9 296 0 6 false (.int) := ⟨by decide, by decide, RX0, TX0, 8, tyX0, rfl, by decide, lay0, k1_88, tyX0_ok, nmX0, rfl, tyX0_ok 6 (by decide), fun q => absurd q (by decide)⟩
theorem fgX9_296 : FGp RX9 296 0 6 := ⟨by decide, by decide, RX0, TX0, 8, rfl, by decide, lay0, k1_88⟩
theorem fdX0_50 : FDp RX0 50 0 7 false (.int) := ⟨by decide, by decide, RX0, TX0, 8, tyX0, rfl, by decide, lay0, k1_89, tyX0_ok, nmX0, rfl, tyX0_ok 7 (by decide), fun q => absurd q (by decide)⟩
theorem fgX0_50 : FGp RX0 50 0 7 := ⟨by decide, by decide, RX0, TX0, 8, rfl, by decide, lay0, k1_89⟩
theorem fdX9_300 : FDp RX9 300 0 7 false (.int) := ⟨by decide, by decide, RX0, TX0, 8, tyX0, rfl, by decide, lay0, k1_90, tyX0_ok, nmX0, rfl, tyX0_ok 7 (by decide), fun q => absurd q (by decide)⟩
theorem fgX9_300 : FGp RX9 300 0 7 := ⟨by decide, by decide, RX0, TX0, 8, rfl, by decide, lay0, k1_90⟩
theorem fdX5_9 : FDp RX5 9 5 0 true (.array .int) := ⟨by decide, by decide, RX5, TX5, 5, tyX5, rfl, by decide, lay5, k1_115, tyX5_ok, nmX5, rfl, tyX5_ok 0 (by decide), fun q => rfl⟩
theorem fgX5_9 : FGp RX5 9 5 0 := ⟨by decide, by decide, RX5, TX5, 5, rfl, by decide, lay5, k1_115⟩
theorem fdX5_15 : FDp RX5 15 5 1 true (.array .int) := ⟨by decide, by decide, RX5, TX5, 5, tyX5, rfl, by decide, lay5, k1_116, tyX5_ok, nmX5, rfl, tyX5_ok 1 (by decide), fun q => rfl⟩
theorem fgX5_15 : FGp RX5 15 5 1 := ⟨by decide, by decide, RX5, TX5, 5, rfl, by decide, lay5, k1_116⟩
theorem fdX5_18 : FDp RX5 18 5 2 true (.array .int) := ⟨by decide, by decide, RX5, TX5, 5, tyX5, rfl, by decide, lay5, k1_117, tyX5_ok, nmX5, rfl, tyX5_ok 2 (by decide), fun q => rfl⟩
theorem fgX5_18 : FGp RX5 18 5 2 := ⟨by decide, by decide, RX5, TX5, 5, rfl, by decide, lay5, k1_117⟩
theorem fdX5_21 : FDp RX5 21 5 3 true (.array .int) := ⟨by decide, by decide, RX5, TX5, 5, tyX5, rfl, by decide, lay5, k1_118, tyX5_ok, nmX5, rfl, tyX5_ok 3 (by decide), fun q => rfl⟩
theorem fgX5_21 : FGp RX5 21 5 3 := ⟨by decide, by decide, RX5, TX5, 5, rfl, by decide, lay5, k1_118⟩
theorem fdX5_30 : FDp RX5 30 5 4 false (.int) := ⟨by decide, by decide, RX5, TX5, 5, tyX5, rfl, by decide, lay5, k1_119, tyX5_ok, nmX5, rfl, tyX5_ok 4 (by decide), fun q => absurd q (by decide)⟩
theorem fgX5_30 : FGp RX5 30 5 4 := ⟨by decide, by decide, RX5, TX5, 5, rfl, by decide, lay5, k1_119⟩
theorem fdX4_9 : FDp RX4 9 4 0 true (.array .int) := ⟨by decide, by decide, RX4, TX4, 11, tyX4, rfl, by decide, lay4, k1_137, tyX4_ok, nmX4, rfl, tyX4_ok 0 (by decide), fun q => rfl⟩
theorem fgX4_9 : FGp RX4 9 4 0 := ⟨by decide, by decide, RX4, TX4, 11, rfl, by decide, lay4, k1_137⟩
theorem fdX4_15 : FDp RX4 15 4 1 true (.array .int) := ⟨by decide, by decide, RX4, TX4, 11, tyX4, rfl, by decide, lay4, k1_138, tyX4_ok, nmX4, rfl, tyX4_ok 1 (by decide), fun q => rfl⟩
theorem fgX4_15 : FGp RX4 15 4 1 := ⟨by decide, by decide, RX4, TX4, 11, rfl, by decide, lay4, k1_138⟩
theorem fdX4_18 : FDp RX4 18 4 2 true (.array .int) := ⟨by decide, by decide, RX4, TX4, 11, tyX4, rfl, by decide, lay4, k1_139, tyX4_ok, nmX4, rfl, tyX4_ok 2 (by decide), fun q => rfl⟩
theorem fgX4_18 : FGp RX4 18 4 2 := ⟨by decide, by decide, RX4, TX4, 11, rfl, by decide, lay4, k1_139⟩
theorem fdX4_33 : FDp RX4 33 4 3 false (.int) := ⟨by decide, by decide, RX4, TX4, 11, tyX4, rfl, by decide, lay4, k1_140, tyX4_ok, nmX4, rfl, tyX4_ok 3 (by decide), fun q => absurd q (by decide)⟩
theorem fgX4_33 : FGp RX4 33 4 3 := ⟨by decide, by decide, RX4, TX4, 11, rfl, by decide, lay4, k1_140⟩
theorem fdX9_318 : FDp RX9 318 4 3 false (.int) := ⟨by decide, by decide, RX4, TX4, 11, tyX4, rfl, by decide, lay4, k1_141, tyX4_ok, nmX4, rfl, tyX4_ok 3 (by decide), fun q => absurd q (by decide)⟩
theorem fgX9_318 : FGp RX9 318 4 3 := ⟨by decide, by decide, RX4, TX4, 11, rfl, by decide, lay4, k1_141⟩
theorem fdX4_21 : FDp RX4 21 4 4 true (.array .int) := ⟨by decide, by decide, RX4, TX4, 11, tyX4, rfl, by decide, lay4, k1_142, tyX4_ok, nmX4, rfl, tyX4_ok 4 (by decide), fun q => rfl⟩
theorem fgX4_21 : FGp RX4 21 4 4 := ⟨by decide, by decide, RX4, TX4, 11, rfl, by decide, lay4, k1_142⟩
theorem fdX4_24 : FDp RX4 24 4 5 true (.array .int) := ⟨by decide, by decide, RX4, TX4, 11, tyX4, rfl, by decide, lay4, k1_143, tyX4_ok, nmX4, rfl, tyX4_ok 5 (by decide), fun q => rfl⟩
theorem fgX4_24 : FGp RX4 24 4 5 := ⟨by decide, by decide, RX4, TX4, 11, rfl, by decide, lay4, k1_143⟩
theorem fdX4_27 : FDp RX4 27 4 6 true (.array .int) := ⟨by decide, by decide, RX4, TX4, 11, tyX4, rfl, by decide, lay4, k1_144, tyX4_ok, nmX4, rfl, tyX4_ok 6 (by decide), fun q => rfl⟩
theorem fgX4_27 : FGp RX4 27 4 6 := ⟨by decide, by decide, RX4, TX4, 11, rfl, by decide, lay4, k1_144⟩
theorem fgX9_327 : FGp RX9 327 4 6 := ⟨by decide, by decide, RX4, TX4, 11, rfl, by decide, lay4, k1_145⟩
theorem fdX4_30 : FDp RX4 30 4 7 true (.array .int) := ⟨by decide, by decide, RX4, TX4, 11, tyX4, rfl, by decide, lay4, k1_146, tyX4_ok, nmX4, rfl, tyX4_ok 7 (by decide), fun q => rfl⟩
theorem fgX4_30 : FGp RX4 30 4 7 := ⟨by decide, by decide, RX4, TX4, 11, rfl, by decide, lay4, k1_146⟩
theorem fgX9_330 : FGp RX9 330 4 7 := ⟨by decide, by decide, RX4, TX4, 11, rfl, by decide, lay4, k1_147⟩
theorem fdX4_37 : FDp RX4 37 4 8 false (.int) := ⟨by decide, by decide, RX4, TX4, 11, tyX4, rfl, by decide, lay4, k1_148, tyX4_ok, nmX4, rfl, tyX4_ok 8 (by decide), fun q => absurd q (by decide)⟩
theorem fgX4_37 : FGp RX4 37 4 8 := ⟨by decide, by decide, RX4, TX4, 11, rfl, by decide, lay4, k1_148⟩
theorem fdX9_324 : FDp RX9 324 4 8 false (.int) := ⟨by decide, by decide, RX4, TX4, 11, tyX4, rfl, by decide, lay4, k1_149, tyX4_ok, nmX4, rfl, tyX4_ok 8 (by decide), fun q => absurd q (by decide)⟩
theorem fgX9_324 : FGp RX9 324 4 8 := ⟨by decide, by decide, RX4, TX4, 11, rfl, by decide, lay4, k1_149⟩
theorem fdX4_43 : FDp RX4 43 4 9 false (.int) := ⟨by decide, by decide, RX4, TX4, 11, tyX4, rfl, by decide, lay4, k1_150, tyX4_ok, nmX4, rfl, tyX4_ok 9 (by decide), fun q => absurd q (by decide)⟩
theorem fgX4_43 : FGp RX4 43 4 9 := ⟨by decide, by decide, RX4, TX4, 11, rfl, by decide, lay4, k1_150⟩
theorem fdX4_46 : FDp RX4 46 4 10 false (.int) := ⟨by decide, by decide, RX4, TX4, 11, tyX4, rfl, by decide, lay4, k1_151, tyX4_ok, nmX4, rfl, tyX4_ok 10 (by decide), fun q => absurd q (by decide)⟩
theorem fgX4_46 : FGp RX4 46 4 10 := ⟨by decide, by decide, RX4, TX4, 11, rfl, by decide, lay4, k1_151⟩
theorem fdX1_9 : FDp RX1 9 1 0 true (.int) := ⟨by decide, by decide, RX1, TX1, 4, tyX1, rfl, by decide, lay1, k1_186, tyX1_ok, nmX1, rfl, tyX1_ok 0 (by decide), fun q => rfl⟩
theorem fgX1_9 : FGp RX1 9 1 0 := ⟨by decide, by decide, RX1, TX1, 4, rfl, by decide, lay1, k1_186⟩
theorem fdX1_15 : FDp RX1 15 1 1 true (.int) := ⟨by decide, by decide, RX1, TX1, 4, tyX1, rfl, by decide, lay1, k1_187, tyX1_ok, nmX1, rfl, tyX1_ok 1 (by decide), fun q => rfl⟩
theorem fgX1_15 : FGp RX1 15 1 1 := ⟨by decide, by decide, RX1, TX1, 4, rfl, by decide, lay1, k1_187⟩
theorem fdX1_18 : FDp RX1 18 1 2 true (.array .int) := ⟨by decide, by decide, RX1, TX1, 4, tyX1, rfl, by decide, lay1, k1_188, tyX1_ok, nmX1, rfl, tyX1_ok 2 (by decide), fun q => rfl⟩
theorem fgX1_18 : FGp RX1 18 1 2 := ⟨by decide, by decide, RX1, TX1, 4, rfl, by decide, lay1, k1_188⟩
theorem fgX7_43 : FGp RX7 43 1 2 := ⟨by decide, by decide, RX1, TX1, 4, rfl, by decide, lay1, k1_189⟩
theorem fgX9_185 : FGp RX9 185 1 2 := ⟨by decide, by decide, RX1, TX1, 4, rfl, by decide, lay1, k1_190⟩
theorem fdX1_22 : FDp RX1 22 1 3 true (.array .int) := ⟨by decide, by decide, RX1, TX1, 4, tyX1, rfl, by decide, lay1, k1_191, tyX1_ok, nmX1, rfl, tyX1_ok 3 (by decide), fun q => rfl⟩
theorem fgX1_22 : FGp RX1 22 1 3 := ⟨by decide, by decide, RX1, TX1, 4, rfl, by decide, lay1, k1_191⟩
theorem fgX9_188 : FGp RX9 188 1 3 := ⟨by decide, by decide, RX1, TX1, 4, rfl, by decide, lay1, k1_192⟩
theorem fdX9_10 : FDp RX9 10 9 0 true (.object "TypeHouse$Tape") := ⟨by decide, by decide, RX9, TX9, 14, tyX9, rfl, by decide, lay9, k1_202, tyX9_ok, nmX9, rfl, tyX9_ok 0 (by decide), fun q => rfl⟩
theorem fgX9_10 : FGp RX9 10 9 0 := ⟨by decide, by decide, RX9, TX9, 14, rfl, by decide, lay9, k1_202⟩
theorem fdX9_16 : FDp RX9 16 9 1 true (.array .int) := ⟨by decide, by decide, RX9, TX9, 14, tyX9, rfl, by decide, lay9, k1_203, tyX9_ok, nmX9, rfl, tyX9_ok 1 (by decide), fun q => rfl⟩
theorem fgX9_16 : FGp RX9 16 9 1 := ⟨by decide, by decide, RX9, TX9, 14, rfl, by decide, lay9, k1_203⟩
theorem fdX9_20 : FDp RX9 20 9 2 true (.array .int) := ⟨by decide, by decide, RX9, TX9, 14, tyX9, rfl, by decide, lay9, k1_204, tyX9_ok, nmX9, rfl, tyX9_ok 2 (by decide), fun q => rfl⟩
theorem fgX9_20 : FGp RX9 20 9 2 := ⟨by decide, by decide, RX9, TX9, 14, rfl, by decide, lay9, k1_204⟩
theorem fdX9_25 : FDp RX9 25 9 3 true (.array (.object "TypeHouse$Page")) := ⟨by decide, by decide, RX9, TX9, 14, tyX9, rfl, by decide, lay9, k1_205, tyX9_ok, nmX9, rfl, tyX9_ok 3 (by decide), fun q => rfl⟩
theorem fgX9_25 : FGp RX9 25 9 3 := ⟨by decide, by decide, RX9, TX9, 14, rfl, by decide, lay9, k1_205⟩
theorem fdX9_88 : FDp RX9 88 9 4 false (.int) := ⟨by decide, by decide, RX9, TX9, 14, tyX9, rfl, by decide, lay9, k1_206, tyX9_ok, nmX9, rfl, tyX9_ok 4 (by decide), fun q => absurd q (by decide)⟩
theorem fgX9_88 : FGp RX9 88 9 4 := ⟨by decide, by decide, RX9, TX9, 14, rfl, by decide, lay9, k1_206⟩
theorem fdX9_31 : FDp RX9 31 9 5 true (.array (.object "TypeHouse$Folding")) := ⟨by decide, by decide, RX9, TX9, 14, tyX9, rfl, by decide, lay9, k1_207, tyX9_ok, nmX9, rfl, tyX9_ok 5 (by decide), fun q => rfl⟩
theorem fgX9_31 : FGp RX9 31 9 5 := ⟨by decide, by decide, RX9, TX9, 14, rfl, by decide, lay9, k1_207⟩
theorem fdX9_37 : FDp RX9 37 9 6 true (.array (.object "TypeHouse$Sheet")) := ⟨by decide, by decide, RX9, TX9, 14, tyX9, rfl, by decide, lay9, k1_208, tyX9_ok, nmX9, rfl, tyX9_ok 6 (by decide), fun q => rfl⟩
theorem fgX9_37 : FGp RX9 37 9 6 := ⟨by decide, by decide, RX9, TX9, 14, rfl, by decide, lay9, k1_208⟩
theorem fdX9_165 : FDp RX9 165 9 7 false (.int) := ⟨by decide, by decide, RX9, TX9, 14, tyX9, rfl, by decide, lay9, k1_209, tyX9_ok, nmX9, rfl, tyX9_ok 7 (by decide), fun q => absurd q (by decide)⟩
theorem fgX9_165 : FGp RX9 165 9 7 := ⟨by decide, by decide, RX9, TX9, 14, rfl, by decide, lay9, k1_209⟩
theorem fdX9_41 : FDp RX9 41 9 8 true (.array .boolean) := ⟨by decide, by decide, RX9, TX9, 14, tyX9, rfl, by decide, lay9, k1_210, tyX9_ok, nmX9, rfl, tyX9_ok 8 (by decide), fun q => rfl⟩
theorem fgX9_41 : FGp RX9 41 9 8 := ⟨by decide, by decide, RX9, TX9, 14, rfl, by decide, lay9, k1_210⟩
theorem fdX9_208 : FDp RX9 208 9 9 false (.int) := ⟨by decide, by decide, RX9, TX9, 14, tyX9, rfl, by decide, lay9, k1_211, tyX9_ok, nmX9, rfl, tyX9_ok 9 (by decide), fun q => absurd q (by decide)⟩
theorem fgX9_208 : FGp RX9 208 9 9 := ⟨by decide, by decide, RX9, TX9, 14, rfl, by decide, lay9, k1_211⟩
theorem fdX9_48 : FDp RX9 48 9 10 true (.object "TypeHouse$Hands") := ⟨by decide, by decide, RX9, TX9, 14, tyX9, rfl, by decide, lay9, k1_212, tyX9_ok, nmX9, rfl, tyX9_ok 10 (by decide), fun q => rfl⟩
theorem fgX9_48 : FGp RX9 48 9 10 := ⟨by decide, by decide, RX9, TX9, 14, rfl, by decide, lay9, k1_212⟩
theorem fdX9_55 : FDp RX9 55 9 11 true (.object "TypeHouse$BrokenLetters") := ⟨by decide, by decide, RX9, TX9, 14, tyX9, rfl, by decide, lay9, k1_213, tyX9_ok, nmX9, rfl, tyX9_ok 11 (by decide), fun q => rfl⟩
theorem fgX9_55 : FGp RX9 55 9 11 := ⟨by decide, by decide, RX9, TX9, 14, rfl, by decide, lay9, k1_213⟩
theorem fdX9_62 : FDp RX9 62 9 12 true (.object "TypeHouse$Law") := ⟨by decide, by decide, RX9, TX9, 14, tyX9, rfl, by decide, lay9, k1_214, tyX9_ok, nmX9, rfl, tyX9_ok 12 (by decide), fun q => rfl⟩
theorem fgX9_62 : FGp RX9 62 9 12 := ⟨by decide, by decide, RX9, TX9, 14, rfl, by decide, lay9, k1_214⟩
theorem fdX9_69 : FDp RX9 69 9 13 true (.object "TypeHouse$Jobs") := ⟨by decide, by decide, RX9, TX9, 14, tyX9, rfl, by decide, lay9, k1_215, tyX9_ok, nmX9, rfl, tyX9_ok 13 (by decide), fun q => rfl⟩
theorem fgX9_69 : FGp RX9 69 9 13 := ⟨by decide, by decide, RX9, TX9, 14, rfl, by decide, lay9, k1_215⟩
theorem fdX6_9 : FDp RX6 9 6 0 true (.int) := ⟨by decide, by decide, RX6, TX6, 8, tyX6, rfl, by decide, lay6, k2_50, tyX6_ok, nmX6, rfl, tyX6_ok 0 (by decide), fun q => rfl⟩
theorem fgX6_9 : FGp RX6 9 6 0 := ⟨by decide, by decide, RX6, TX6, 8, rfl, by decide, lay6, k2_50⟩
theorem fgX2_71 : FGp RX2 71 6 0 := ⟨by decide, by decide, RX6, TX6, 8, rfl, by decide, lay6, k2_51⟩
theorem fdX6_20 : FDp RX6 20 6 1 true (.array .int) := ⟨by decide, by decide, RX6, TX6, 8, tyX6, rfl, by decide, lay6, k2_52, tyX6_ok, nmX6, rfl, tyX6_ok 1 (by decide), fun q => rfl⟩
theorem fgX6_20 : FGp RX6 20 6 1 := ⟨by decide, by decide, RX6, TX6, 8, rfl, by decide, lay6, k2_52⟩
theorem fgX9_149 : FGp RX9 149 6 1 := ⟨by decide, by decide, RX6, TX6, 8, rfl, by decide, lay6, k2_53⟩
theorem fdX6_24 : FDp RX6 24 6 2 true (.array .int) := ⟨by decide, by decide, RX6, TX6, 8, tyX6, rfl, by decide, lay6, k2_54, tyX6_ok, nmX6, rfl, tyX6_ok 2 (by decide), fun q => rfl⟩
theorem fgX6_24 : FGp RX6 24 6 2 := ⟨by decide, by decide, RX6, TX6, 8, rfl, by decide, lay6, k2_54⟩
theorem fgX2_59 : FGp RX2 59 6 2 := ⟨by decide, by decide, RX6, TX6, 8, rfl, by decide, lay6, k2_55⟩
theorem fgX9_126 : FGp RX9 126 6 2 := ⟨by decide, by decide, RX6, TX6, 8, rfl, by decide, lay6, k2_56⟩
theorem fdX6_27 : FDp RX6 27 6 3 true (.array .int) := ⟨by decide, by decide, RX6, TX6, 8, tyX6, rfl, by decide, lay6, k2_57, tyX6_ok, nmX6, rfl, tyX6_ok 3 (by decide), fun q => rfl⟩
theorem fgX6_27 : FGp RX6 27 6 3 := ⟨by decide, by decide, RX6, TX6, 8, rfl, by decide, lay6, k2_57⟩
theorem fgX2_62 : FGp RX2 62 6 3 := ⟨by decide, by decide, RX6, TX6, 8, rfl, by decide, lay6, k2_58⟩
theorem fdX6_38 : FDp RX6 38 6 4 true (.int) := ⟨by decide, by decide, RX6, TX6, 8, tyX6, rfl, by decide, lay6, k2_59, tyX6_ok, nmX6, rfl, tyX6_ok 4 (by decide), fun q => rfl⟩
theorem fgX6_38 : FGp RX6 38 6 4 := ⟨by decide, by decide, RX6, TX6, 8, rfl, by decide, lay6, k2_59⟩
theorem fgX9_120 : FGp RX9 120 6 4 := ⟨by decide, by decide, RX6, TX6, 8, rfl, by decide, lay6, k2_60⟩
theorem fdX2_46 : FDp RX2 46 6 5 false (.boolean) := ⟨by decide, by decide, RX6, TX6, 8, tyX6, rfl, by decide, lay6, k2_61, tyX6_ok, nmX6, rfl, tyX6_ok 5 (by decide), fun q => absurd q (by decide)⟩
theorem fgX2_46 : FGp RX2 46 6 5 := ⟨by decide, by decide, RX6, TX6, 8, rfl, by decide, lay6, k2_61⟩
theorem fdX6_57 : FDp RX6 57 6 5 false (.boolean) := ⟨by decide, by decide, RX6, TX6, 8, tyX6, rfl, by decide, lay6, k2_62, tyX6_ok, nmX6, rfl, tyX6_ok 5 (by decide), fun q => absurd q (by decide)⟩
theorem fgX6_57 : FGp RX6 57 6 5 := ⟨by decide, by decide, RX6, TX6, 8, rfl, by decide, lay6, k2_62⟩
theorem fdX9_105 : FDp RX9 105 6 5 false (.boolean) := ⟨by decide, by decide, RX6, TX6, 8, tyX6, rfl, by decide, lay6, k2_63, tyX6_ok, nmX6, rfl, tyX6_ok 5 (by decide), fun q => absurd q (by decide)⟩
theorem fgX9_105 : FGp RX9 105 6 5 := ⟨by decide, by decide, RX6, TX6, 8, rfl, by decide, lay6, k2_63⟩
theorem fdX6_61 : FDp RX6 61 6 6 false (.int) := ⟨by decide, by decide, RX6, TX6, 8, tyX6, rfl, by decide, lay6, k2_64, tyX6_ok, nmX6, rfl, tyX6_ok 6 (by decide), fun q => absurd q (by decide)⟩
theorem fgX6_61 : FGp RX6 61 6 6 := ⟨by decide, by decide, RX6, TX6, 8, rfl, by decide, lay6, k2_64⟩
theorem fdX9_358 : FDp RX9 358 6 6 false (.int) := ⟨by decide, by decide, RX6, TX6, 8, tyX6, rfl, by decide, lay6, k2_65, tyX6_ok, nmX6, rfl, tyX6_ok 6 (by decide), fun q => absurd q (by decide)⟩
theorem fgX9_358 : FGp RX9 358 6 6 := ⟨by decide, by decide, RX6, TX6, 8, rfl, by decide, lay6, k2_65⟩
theorem fdX7_52 : FDp RX7 52 6 7 false (.object "TypeHouse$Forme") := ⟨by decide, by decide, RX6, TX6, 8, tyX6, rfl, by decide, lay6, k2_66, tyX6_ok, nmX6, rfl, tyX6_ok 7 (by decide), fun q => absurd q (by decide)⟩
theorem fgX7_52 : FGp RX7 52 6 7 := ⟨by decide, by decide, RX6, TX6, 8, rfl, by decide, lay6, k2_66⟩
theorem fdX6_41 : FDp RX6 41 6 7 false (.object "TypeHouse$Forme") := ⟨by decide, by decide, RX6, TX6, 8, tyX6, rfl, by decide, lay6, k2_67, tyX6_ok, nmX6, rfl, tyX6_ok 7 (by decide), fun q => absurd q (by decide)⟩
theorem fgX6_41 : FGp RX6 41 6 7 := ⟨by decide, by decide, RX6, TX6, 8, rfl, by decide, lay6, k2_67⟩
theorem fdX9_133 : FDp RX9 133 6 7 false (.object "TypeHouse$Forme") := ⟨by decide, by decide, RX6, TX6, 8, tyX6, rfl, by decide, lay6, k2_68, tyX6_ok, nmX6, rfl, tyX6_ok 7 (by decide), fun q => absurd q (by decide)⟩
theorem fgX9_133 : FGp RX9 133 6 7 := ⟨by decide, by decide, RX6, TX6, 8, rfl, by decide, lay6, k2_68⟩
theorem fdX2_30 : FDp RX2 30 2 0 true (.array (.object "TypeHouse$Page")) := ⟨by decide, by decide, RX2, TX2, 10, tyX2, rfl, by decide, lay2, k2_177, tyX2_ok, nmX2, rfl, tyX2_ok 0 (by decide), fun q => rfl⟩
theorem fgX2_30 : FGp RX2 30 2 0 := ⟨by decide, by decide, RX2, TX2, 10, rfl, by decide, lay2, k2_177⟩
theorem fgX7_57 : FGp RX7 57 2 0 := ⟨by decide, by decide, RX2, TX2, 10, rfl, by decide, lay2, k2_178⟩
theorem fgX9_204 : FGp RX9 204 2 0 := ⟨by decide, by decide, RX2, TX2, 10, rfl, by decide, lay2, k2_179⟩
theorem fdX2_34 : FDp RX2 34 2 1 true (.array .int) := ⟨by decide, by decide, RX2, TX2, 10, tyX2, rfl, by decide, lay2, k2_180, tyX2_ok, nmX2, rfl, tyX2_ok 1 (by decide), fun q => rfl⟩
theorem fgX2_34 : FGp RX2 34 2 1 := ⟨by decide, by decide, RX2, TX2, 10, rfl, by decide, lay2, k2_180⟩
theorem fgX7_76 : FGp RX7 76 2 1 := ⟨by decide, by decide, RX2, TX2, 10, rfl, by decide, lay2, k2_181⟩
theorem fgX9_247 : FGp RX9 247 2 1 := ⟨by decide, by decide, RX2, TX2, 10, rfl, by decide, lay2, k2_182⟩
theorem fdX2_9 : FDp RX2 9 2 2 false (.int) := ⟨by decide, by decide, RX2, TX2, 10, tyX2, rfl, by decide, lay2, k2_183, tyX2_ok, nmX2, rfl, tyX2_ok 2 (by decide), fun q => absurd q (by decide)⟩
theorem fgX2_9 : FGp RX2 9 2 2 := ⟨by decide, by decide, RX2, TX2, 10, rfl, by decide, lay2, k2_183⟩
theorem fdX9_201 : FDp RX9 201 2 2 false (.int) := ⟨by decide, by decide, RX2, TX2, 10, tyX2, rfl, by decide, lay2, k2_184, tyX2_ok, nmX2, rfl, tyX2_ok 2 (by decide), fun q => absurd q (by decide)⟩
theorem fgX9_201 : FGp RX9 201 2 2 := ⟨by decide, by decide, RX2, TX2, 10, rfl, by decide, lay2, k2_184⟩
theorem fdX2_43 : FDp RX2 43 2 3 false (.int) := ⟨by decide, by decide, RX2, TX2, 10, tyX2, rfl, by decide, lay2, k2_185, tyX2_ok, nmX2, rfl, tyX2_ok 3 (by decide), fun q => absurd q (by decide)⟩
theorem fgX2_43 : FGp RX2 43 2 3 := ⟨by decide, by decide, RX2, TX2, 10, rfl, by decide, lay2, k2_185⟩
theorem fdX9_137 : FDp RX9 137 2 3 false (.int) := ⟨by decide, by decide, RX2, TX2, 10, tyX2, rfl, by decide, lay2, k2_186, tyX2_ok, nmX2, rfl, tyX2_ok 3 (by decide), fun q => absurd q (by decide)⟩
theorem fgX9_137 : FGp RX9 137 2 3 := ⟨by decide, by decide, RX2, TX2, 10, rfl, by decide, lay2, k2_186⟩
theorem fdX7_69 : FDp RX7 69 2 3 false (.int) := ⟨by decide, by decide, RX2, TX2, 10, tyX2, rfl, by decide, lay2, k2_187, tyX2_ok, nmX2, rfl, tyX2_ok 3 (by decide), fun q => absurd q (by decide)⟩
theorem fgX7_69 : FGp RX7 69 2 3 := ⟨by decide, by decide, RX2, TX2, 10, rfl, by decide, lay2, k2_187⟩
theorem fdX2_50 : FDp RX2 50 2 4 false (.int) := ⟨by decide, by decide, RX2, TX2, 10, tyX2, rfl, by decide, lay2, k2_188, tyX2_ok, nmX2, rfl, tyX2_ok 4 (by decide), fun q => absurd q (by decide)⟩
theorem fgX2_50 : FGp RX2 50 2 4 := ⟨by decide, by decide, RX2, TX2, 10, rfl, by decide, lay2, k2_188⟩
theorem fdX9_142 : FDp RX9 142 2 4 false (.int) := ⟨by decide, by decide, RX2, TX2, 10, tyX2, rfl, by decide, lay2, k2_189, tyX2_ok, nmX2, rfl, tyX2_ok 4 (by decide), fun q => absurd q (by decide)⟩
theorem fgX9_142 : FGp RX9 142 2 4 := ⟨by decide, by decide, RX2, TX2, 10, rfl, by decide, lay2, k2_189⟩
theorem fdX2_56 : FDp RX2 56 2 5 false (.int) := ⟨by decide, by decide, RX2, TX2, 10, tyX2, rfl, by decide, lay2, k2_190, tyX2_ok, nmX2, rfl, tyX2_ok 5 (by decide), fun q => absurd q (by decide)⟩
theorem fgX2_56 : FGp RX2 56 2 5 := ⟨by decide, by decide, RX2, TX2, 10, rfl, by decide, lay2, k2_190⟩
theorem fdX9_231 : FDp RX9 231 2 5 false (.int) := ⟨by decide, by decide, RX2, TX2, 10, tyX2, rfl, by decide, lay2, k2_191, tyX2_ok, nmX2, rfl, tyX2_ok 5 (by decide), fun q => absurd q (by decide)⟩
theorem fgX9_231 : FGp RX9 231 2 5 := ⟨by decide, by decide, RX2, TX2, 10, rfl, by decide, lay2, k2_191⟩
theorem fdX2_15 : FDp RX2 15 2 6 false (.int) := ⟨by decide, by decide, RX2, TX2, 10, tyX2, rfl, by decide, lay2, k2_192, tyX2_ok, nmX2, rfl, tyX2_ok 6 (by decide), fun q => absurd q (by decide)⟩
theorem fgX2_15 : FGp RX2 15 2 6 := ⟨by decide, by decide, RX2, TX2, 10, rfl, by decide, lay2, k2_192⟩
theorem fdX2_18 : FDp RX2 18 2 7 true (.array .int) := ⟨by decide, by decide, RX2, TX2, 10, tyX2, rfl, by decide, lay2, k2_193, tyX2_ok, nmX2, rfl, tyX2_ok 7 (by decide), fun q => rfl⟩
theorem fgX2_18 : FGp RX2 18 2 7 := ⟨by decide, by decide, RX2, TX2, 10, rfl, by decide, lay2, k2_193⟩
theorem fdX2_22 : FDp RX2 22 2 8 true (.array .int) := ⟨by decide, by decide, RX2, TX2, 10, tyX2, rfl, by decide, lay2, k2_194, tyX2_ok, nmX2, rfl, tyX2_ok 8 (by decide), fun q => rfl⟩
theorem fgX2_22 : FGp RX2 22 2 8 := ⟨by decide, by decide, RX2, TX2, 10, rfl, by decide, lay2, k2_194⟩
theorem fdX2_25 : FDp RX2 25 2 9 true (.array .int) := ⟨by decide, by decide, RX2, TX2, 10, tyX2, rfl, by decide, lay2, k2_195, tyX2_ok, nmX2, rfl, tyX2_ok 9 (by decide), fun q => rfl⟩
theorem fgX2_25 : FGp RX2 25 2 9 := ⟨by decide, by decide, RX2, TX2, 10, rfl, by decide, lay2, k2_195⟩
theorem fdX7_15 : FDp RX7 15 7 0 true (.int) := ⟨by decide, by decide, RX7, TX7, 8, tyX7, rfl, by decide, lay7, k2_217, tyX7_ok, nmX7, rfl, tyX7_ok 0 (by decide), fun q => rfl⟩
theorem fgX7_15 : FGp RX7 15 7 0 := ⟨by decide, by decide, RX7, TX7, 8, rfl, by decide, lay7, k2_217⟩
theorem fdX7_18 : FDp RX7 18 7 1 true (.int) := ⟨by decide, by decide, RX7, TX7, 8, tyX7, rfl, by decide, lay7, k2_218, tyX7_ok, nmX7, rfl, tyX7_ok 1 (by decide), fun q => rfl⟩
theorem fgX7_18 : FGp RX7 18 7 1 := ⟨by decide, by decide, RX7, TX7, 8, rfl, by decide, lay7, k2_218⟩
theorem fgX9_214 : FGp RX9 214 7 1 := ⟨by decide, by decide, RX7, TX7, 8, rfl, by decide, lay7, k2_219⟩
theorem fdX7_21 : FDp RX7 21 7 2 true (.int) := ⟨by decide, by decide, RX7, TX7, 8, tyX7, rfl, by decide, lay7, k2_220, tyX7_ok, nmX7, rfl, tyX7_ok 2 (by decide), fun q => rfl⟩
theorem fgX7_21 : FGp RX7 21 7 2 := ⟨by decide, by decide, RX7, TX7, 8, rfl, by decide, lay7, k2_220⟩
theorem fdX7_29 : FDp RX7 29 7 3 true (.object "TypeHouse$Forme") := ⟨by decide, by decide, RX7, TX7, 8, tyX7, rfl, by decide, lay7, k2_221, tyX7_ok, nmX7, rfl, tyX7_ok 3 (by decide), fun q => rfl⟩
theorem fgX7_29 : FGp RX7 29 7 3 := ⟨by decide, by decide, RX7, TX7, 8, rfl, by decide, lay7, k2_221⟩
theorem fdX7_33 : FDp RX7 33 7 4 true (.object "TypeHouse$Forme") := ⟨by decide, by decide, RX7, TX7, 8, tyX7, rfl, by decide, lay7, k2_222, tyX7_ok, nmX7, rfl, tyX7_ok 4 (by decide), fun q => rfl⟩
theorem fgX7_33 : FGp RX7 33 7 4 := ⟨by decide, by decide, RX7, TX7, 8, rfl, by decide, lay7, k2_222⟩
theorem fdX7_9 : FDp RX7 9 7 5 false (.int) := ⟨by decide, by decide, RX7, TX7, 8, tyX7, rfl, by decide, lay7, k2_223, tyX7_ok, nmX7, rfl, tyX7_ok 5 (by decide), fun q => absurd q (by decide)⟩
theorem fgX7_9 : FGp RX7 9 7 5 := ⟨by decide, by decide, RX7, TX7, 8, rfl, by decide, lay7, k2_223⟩
theorem fdX9_234 : FDp RX9 234 7 5 false (.int) := ⟨by decide, by decide, RX7, TX7, 8, tyX7, rfl, by decide, lay7, k2_224, tyX7_ok, nmX7, rfl, tyX7_ok 5 (by decide), fun q => absurd q (by decide)⟩
theorem fgX9_234 : FGp RX9 234 7 5 := ⟨by decide, by decide, RX7, TX7, 8, rfl, by decide, lay7, k2_224⟩
theorem fdX7_36 : FDp RX7 36 7 6 true (.array .int) := ⟨by decide, by decide, RX7, TX7, 8, tyX7, rfl, by decide, lay7, k2_225, tyX7_ok, nmX7, rfl, tyX7_ok 6 (by decide), fun q => rfl⟩
theorem fgX7_36 : FGp RX7 36 7 6 := ⟨by decide, by decide, RX7, TX7, 8, rfl, by decide, lay7, k2_225⟩
theorem fgX9_275 : FGp RX9 275 7 6 := ⟨by decide, by decide, RX7, TX7, 8, rfl, by decide, lay7, k2_226⟩
theorem fdX7_40 : FDp RX7 40 7 7 false (.int) := ⟨by decide, by decide, RX7, TX7, 8, tyX7, rfl, by decide, lay7, k2_227, tyX7_ok, nmX7, rfl, tyX7_ok 7 (by decide), fun q => absurd q (by decide)⟩
theorem fgX7_40 : FGp RX7 40 7 7 := ⟨by decide, by decide, RX7, TX7, 8, rfl, by decide, lay7, k2_227⟩
theorem fdX10_7 : FDp RX10 7 10 0 true (.array .int) := ⟨by decide, by decide, RX10, TX10, 53, tyX10, rfl, by decide, lay10, k4_163, tyX10_ok, nmX10, rfl, tyX10_ok 0 (by decide), fun q => rfl⟩
theorem fgX10_7 : FGp RX10 7 10 0 := ⟨by decide, by decide, RX10, TX10, 53, rfl, by decide, lay10, k4_163⟩
theorem fdX10_13 : FDp RX10 13 10 1 true (.array .int) := ⟨by decide, by decide, RX10, TX10, 53, tyX10, rfl, by decide, lay10, k4_164, tyX10_ok, nmX10, rfl, tyX10_ok 1 (by decide), fun q => rfl⟩
theorem fgX10_13 : FGp RX10 13 10 1 := ⟨by decide, by decide, RX10, TX10, 53, rfl, by decide, lay10, k4_164⟩
theorem fdX10_155 : FDp RX10 155 10 2 false (.int) := ⟨by decide, by decide, RX10, TX10, 53, tyX10, rfl, by decide, lay10, k4_165, tyX10_ok, nmX10, rfl, tyX10_ok 2 (by decide), fun q => absurd q (by decide)⟩
theorem fgX10_155 : FGp RX10 155 10 2 := ⟨by decide, by decide, RX10, TX10, 53, rfl, by decide, lay10, k4_165⟩
theorem fdX10_16 : FDp RX10 16 10 3 true (.array .int) := ⟨by decide, by decide, RX10, TX10, 53, tyX10, rfl, by decide, lay10, k4_166, tyX10_ok, nmX10, rfl, tyX10_ok 3 (by decide), fun q => rfl⟩
theorem fgX10_16 : FGp RX10 16 10 3 := ⟨by decide, by decide, RX10, TX10, 53, rfl, by decide, lay10, k4_166⟩
theorem fdX10_19 : FDp RX10 19 10 4 true (.array .int) := ⟨by decide, by decide, RX10, TX10, 53, tyX10, rfl, by decide, lay10, k4_167, tyX10_ok, nmX10, rfl, tyX10_ok 4 (by decide), fun q => rfl⟩
theorem fgX10_19 : FGp RX10 19 10 4 := ⟨by decide, by decide, RX10, TX10, 53, rfl, by decide, lay10, k4_167⟩
theorem fdX10_22 : FDp RX10 22 10 5 true (.array .int) := ⟨by decide, by decide, RX10, TX10, 53, tyX10, rfl, by decide, lay10, k4_168, tyX10_ok, nmX10, rfl, tyX10_ok 5 (by decide), fun q => rfl⟩
theorem fgX10_22 : FGp RX10 22 10 5 := ⟨by decide, by decide, RX10, TX10, 53, rfl, by decide, lay10, k4_168⟩
theorem fdX10_25 : FDp RX10 25 10 6 true (.array .int) := ⟨by decide, by decide, RX10, TX10, 53, tyX10, rfl, by decide, lay10, k4_169, tyX10_ok, nmX10, rfl, tyX10_ok 6 (by decide), fun q => rfl⟩
theorem fgX10_25 : FGp RX10 25 10 6 := ⟨by decide, by decide, RX10, TX10, 53, rfl, by decide, lay10, k4_169⟩
theorem fdX10_28 : FDp RX10 28 10 7 true (.array .int) := ⟨by decide, by decide, RX10, TX10, 53, tyX10, rfl, by decide, lay10, k4_170, tyX10_ok, nmX10, rfl, tyX10_ok 7 (by decide), fun q => rfl⟩
theorem fgX10_28 : FGp RX10 28 10 7 := ⟨by decide, by decide, RX10, TX10, 53, rfl, by decide, lay10, k4_170⟩
theorem fdX10_31 : FDp RX10 31 10 8 true (.array .int) := ⟨by decide, by decide, RX10, TX10, 53, tyX10, rfl, by decide, lay10, k4_171, tyX10_ok, nmX10, rfl, tyX10_ok 8 (by decide), fun q => rfl⟩
theorem fgX10_31 : FGp RX10 31 10 8 := ⟨by decide, by decide, RX10, TX10, 53, rfl, by decide, lay10, k4_171⟩
theorem fdX10_34 : FDp RX10 34 10 9 true (.array .int) := ⟨by decide, by decide, RX10, TX10, 53, tyX10, rfl, by decide, lay10, k4_172, tyX10_ok, nmX10, rfl, tyX10_ok 9 (by decide), fun q => rfl⟩
theorem fgX10_34 : FGp RX10 34 10 9 := ⟨by decide, by decide, RX10, TX10, 53, rfl, by decide, lay10, k4_172⟩
theorem fdX10_37 : FDp RX10 37 10 10 true (.array .int) := ⟨by decide, by decide, RX10, TX10, 53, tyX10, rfl, by decide, lay10, k4_173, tyX10_ok, nmX10, rfl, tyX10_ok 10 (by decide), fun q => rfl⟩
theorem fgX10_37 : FGp RX10 37 10 10 := ⟨by decide, by decide, RX10, TX10, 53, rfl, by decide, lay10, k4_173⟩
theorem fdX10_141 : FDp RX10 141 10 11 false (.int) := ⟨by decide, by decide, RX10, TX10, 53, tyX10, rfl, by decide, lay10, k4_174, tyX10_ok, nmX10, rfl, tyX10_ok 11 (by decide), fun q => absurd q (by decide)⟩
theorem fgX10_141 : FGp RX10 141 10 11 := ⟨by decide, by decide, RX10, TX10, 53, rfl, by decide, lay10, k4_174⟩
theorem fdX10_40 : FDp RX10 40 10 12 true (.array .int) := ⟨by decide, by decide, RX10, TX10, 53, tyX10, rfl, by decide, lay10, k4_175, tyX10_ok, nmX10, rfl, tyX10_ok 12 (by decide), fun q => rfl⟩
theorem fgX10_40 : FGp RX10 40 10 12 := ⟨by decide, by decide, RX10, TX10, 53, rfl, by decide, lay10, k4_175⟩
theorem fdX10_43 : FDp RX10 43 10 13 true (.array .int) := ⟨by decide, by decide, RX10, TX10, 53, tyX10, rfl, by decide, lay10, k4_176, tyX10_ok, nmX10, rfl, tyX10_ok 13 (by decide), fun q => rfl⟩
theorem fgX10_43 : FGp RX10 43 10 13 := ⟨by decide, by decide, RX10, TX10, 53, rfl, by decide, lay10, k4_176⟩
theorem fdX10_46 : FDp RX10 46 10 14 true (.array .int) := ⟨by decide, by decide, RX10, TX10, 53, tyX10, rfl, by decide, lay10, k4_177, tyX10_ok, nmX10, rfl, tyX10_ok 14 (by decide), fun q => rfl⟩
theorem fgX10_46 : FGp RX10 46 10 14 := ⟨by decide, by decide, RX10, TX10, 53, rfl, by decide, lay10, k4_177⟩
theorem fdX10_49 : FDp RX10 49 10 15 true (.array .int) := ⟨by decide, by decide, RX10, TX10, 53, tyX10, rfl, by decide, lay10, k4_178, tyX10_ok, nmX10, rfl, tyX10_ok 15 (by decide), fun q => rfl⟩
theorem fgX10_49 : FGp RX10 49 10 15 := ⟨by decide, by decide, RX10, TX10, 53, rfl, by decide, lay10, k4_178⟩
theorem fdX10_52 : FDp RX10 52 10 16 true (.array .int) := ⟨by decide, by decide, RX10, TX10, 53, tyX10, rfl, by decide, lay10, k4_179, tyX10_ok, nmX10, rfl, tyX10_ok 16 (by decide), fun q => rfl⟩
theorem fgX10_52 : FGp RX10 52 10 16 := ⟨by decide, by decide, RX10, TX10, 53, rfl, by decide, lay10, k4_179⟩
theorem fdX10_55 : FDp RX10 55 10 17 true (.array .int) := ⟨by decide, by decide, RX10, TX10, 53, tyX10, rfl, by decide, lay10, k4_180, tyX10_ok, nmX10, rfl, tyX10_ok 17 (by decide), fun q => rfl⟩
theorem fgX10_55 : FGp RX10 55 10 17 := ⟨by decide, by decide, RX10, TX10, 53, rfl, by decide, lay10, k4_180⟩
theorem fdX10_58 : FDp RX10 58 10 18 true (.array .int) := ⟨by decide, by decide, RX10, TX10, 53, tyX10, rfl, by decide, lay10, k4_181, tyX10_ok, nmX10, rfl, tyX10_ok 18 (by decide), fun q => rfl⟩
theorem fgX10_58 : FGp RX10 58 10 18 := ⟨by decide, by decide, RX10, TX10, 53, rfl, by decide, lay10, k4_181⟩
theorem fdX10_61 : FDp RX10 61 10 19 true (.array .int) := ⟨by decide, by decide, RX10, TX10, 53, tyX10, rfl, by decide, lay10, k4_182, tyX10_ok, nmX10, rfl, tyX10_ok 19 (by decide), fun q => rfl⟩
theorem fgX10_61 : FGp RX10 61 10 19 := ⟨by decide, by decide, RX10, TX10, 53, rfl, by decide, lay10, k4_182⟩
theorem fdX10_64 : FDp RX10 64 10 20 true (.array .int) := ⟨by decide, by decide, RX10, TX10, 53, tyX10, rfl, by decide, lay10, k4_183, tyX10_ok, nmX10, rfl, tyX10_ok 20 (by decide), fun q => rfl⟩
theorem fgX10_64 : FGp RX10 64 10 20 := ⟨by decide, by decide, RX10, TX10, 53, rfl, by decide, lay10, k4_183⟩
theorem fdX10_67 : FDp RX10 67 10 21 true (.array .int) := ⟨by decide, by decide, RX10, TX10, 53, tyX10, rfl, by decide, lay10, k4_184, tyX10_ok, nmX10, rfl, tyX10_ok 21 (by decide), fun q => rfl⟩
theorem fgX10_67 : FGp RX10 67 10 21 := ⟨by decide, by decide, RX10, TX10, 53, rfl, by decide, lay10, k4_184⟩
theorem fdX10_70 : FDp RX10 70 10 22 true (.array .int) := ⟨by decide, by decide, RX10, TX10, 53, tyX10, rfl, by decide, lay10, k4_185, tyX10_ok, nmX10, rfl, tyX10_ok 22 (by decide), fun q => rfl⟩
theorem fgX10_70 : FGp RX10 70 10 22 := ⟨by decide, by decide, RX10, TX10, 53, rfl, by decide, lay10, k4_185⟩
theorem fdX10_199 : FDp RX10 199 10 23 false (.int) := ⟨by decide, by decide, RX10, TX10, 53, tyX10, rfl, by decide, lay10, k4_186, tyX10_ok, nmX10, rfl, tyX10_ok 23 (by decide), fun q => absurd q (by decide)⟩
theorem fgX10_199 : FGp RX10 199 10 23 := ⟨by decide, by decide, RX10, TX10, 53, rfl, by decide, lay10, k4_186⟩
theorem fdX10_209 : FDp RX10 209 10 24 false (.int) := ⟨by decide, by decide, RX10, TX10, 53, tyX10, rfl, by decide, lay10, k4_187, tyX10_ok, nmX10, rfl, tyX10_ok 24 (by decide), fun q => absurd q (by decide)⟩
theorem fgX10_209 : FGp RX10 209 10 24 := ⟨by decide, by decide, RX10, TX10, 53, rfl, by decide, lay10, k4_187⟩
theorem fdX10_73 : FDp RX10 73 10 25 true (.array .int) := ⟨by decide, by decide, RX10, TX10, 53, tyX10, rfl, by decide, lay10, k4_188, tyX10_ok, nmX10, rfl, tyX10_ok 25 (by decide), fun q => rfl⟩
theorem fgX10_73 : FGp RX10 73 10 25 := ⟨by decide, by decide, RX10, TX10, 53, rfl, by decide, lay10, k4_188⟩
theorem fdX10_76 : FDp RX10 76 10 26 true (.array .int) := ⟨by decide, by decide, RX10, TX10, 53, tyX10, rfl, by decide, lay10, k4_189, tyX10_ok, nmX10, rfl, tyX10_ok 26 (by decide), fun q => rfl⟩
theorem fgX10_76 : FGp RX10 76 10 26 := ⟨by decide, by decide, RX10, TX10, 53, rfl, by decide, lay10, k4_189⟩
theorem fdX10_79 : FDp RX10 79 10 27 true (.array .int) := ⟨by decide, by decide, RX10, TX10, 53, tyX10, rfl, by decide, lay10, k4_190, tyX10_ok, nmX10, rfl, tyX10_ok 27 (by decide), fun q => rfl⟩
theorem fgX10_79 : FGp RX10 79 10 27 := ⟨by decide, by decide, RX10, TX10, 53, rfl, by decide, lay10, k4_190⟩
theorem fdX10_82 : FDp RX10 82 10 28 true (.array .int) := ⟨by decide, by decide, RX10, TX10, 53, tyX10, rfl, by decide, lay10, k4_191, tyX10_ok, nmX10, rfl, tyX10_ok 28 (by decide), fun q => rfl⟩
theorem fgX10_82 : FGp RX10 82 10 28 := ⟨by decide, by decide, RX10, TX10, 53, rfl, by decide, lay10, k4_191⟩
theorem fdX10_85 : FDp RX10 85 10 29 true (.array .int) := ⟨by decide, by decide, RX10, TX10, 53, tyX10, rfl, by decide, lay10, k4_192, tyX10_ok, nmX10, rfl, tyX10_ok 29 (by decide), fun q => rfl⟩
theorem fgX10_85 : FGp RX10 85 10 29 := ⟨by decide, by decide, RX10, TX10, 53, rfl, by decide, lay10, k4_192⟩
theorem fdX10_88 : FDp RX10 88 10 30 true (.array .int) := ⟨by decide, by decide, RX10, TX10, 53, tyX10, rfl, by decide, lay10, k4_193, tyX10_ok, nmX10, rfl, tyX10_ok 30 (by decide), fun q => rfl⟩
theorem fgX10_88 : FGp RX10 88 10 30 := ⟨by decide, by decide, RX10, TX10, 53, rfl, by decide, lay10, k4_193⟩
theorem fdX10_91 : FDp RX10 91 10 31 true (.array .int) := ⟨by decide, by decide, RX10, TX10, 53, tyX10, rfl, by decide, lay10, k4_194, tyX10_ok, nmX10, rfl, tyX10_ok 31 (by decide), fun q => rfl⟩
theorem fgX10_91 : FGp RX10 91 10 31 := ⟨by decide, by decide, RX10, TX10, 53, rfl, by decide, lay10, k4_194⟩
theorem fdX10_94 : FDp RX10 94 10 32 true (.array .boolean) := ⟨by decide, by decide, RX10, TX10, 53, tyX10, rfl, by decide, lay10, k4_195, tyX10_ok, nmX10, rfl, tyX10_ok 32 (by decide), fun q => rfl⟩
theorem fgX10_94 : FGp RX10 94 10 32 := ⟨by decide, by decide, RX10, TX10, 53, rfl, by decide, lay10, k4_195⟩
theorem fdX10_98 : FDp RX10 98 10 33 true (.array .int) := ⟨by decide, by decide, RX10, TX10, 53, tyX10, rfl, by decide, lay10, k4_196, tyX10_ok, nmX10, rfl, tyX10_ok 33 (by decide), fun q => rfl⟩
theorem fgX10_98 : FGp RX10 98 10 33 := ⟨by decide, by decide, RX10, TX10, 53, rfl, by decide, lay10, k4_196⟩
theorem fdX10_101 : FDp RX10 101 10 34 true (.array .int) := ⟨by decide, by decide, RX10, TX10, 53, tyX10, rfl, by decide, lay10, k4_197, tyX10_ok, nmX10, rfl, tyX10_ok 34 (by decide), fun q => rfl⟩
theorem fgX10_101 : FGp RX10 101 10 34 := ⟨by decide, by decide, RX10, TX10, 53, rfl, by decide, lay10, k4_197⟩
theorem fdX10_104 : FDp RX10 104 10 35 true (.array .int) := ⟨by decide, by decide, RX10, TX10, 53, tyX10, rfl, by decide, lay10, k4_198, tyX10_ok, nmX10, rfl, tyX10_ok 35 (by decide), fun q => rfl⟩
theorem fgX10_104 : FGp RX10 104 10 35 := ⟨by decide, by decide, RX10, TX10, 53, rfl, by decide, lay10, k4_198⟩
theorem fdX10_107 : FDp RX10 107 10 36 true (.array .int) := ⟨by decide, by decide, RX10, TX10, 53, tyX10, rfl, by decide, lay10, k4_199, tyX10_ok, nmX10, rfl, tyX10_ok 36 (by decide), fun q => rfl⟩
theorem fgX10_107 : FGp RX10 107 10 36 := ⟨by decide, by decide, RX10, TX10, 53, rfl, by decide, lay10, k4_199⟩
theorem fdX10_264 : FDp RX10 264 10 37 false (.int) := ⟨by decide, by decide, RX10, TX10, 53, tyX10, rfl, by decide, lay10, k4_200, tyX10_ok, nmX10, rfl, tyX10_ok 37 (by decide), fun q => absurd q (by decide)⟩
theorem fgX10_264 : FGp RX10 264 10 37 := ⟨by decide, by decide, RX10, TX10, 53, rfl, by decide, lay10, k4_200⟩
theorem fdX10_258 : FDp RX10 258 10 38 false (.int) := ⟨by decide, by decide, RX10, TX10, 53, tyX10, rfl, by decide, lay10, k4_201, tyX10_ok, nmX10, rfl, tyX10_ok 38 (by decide), fun q => absurd q (by decide)⟩
theorem fgX10_258 : FGp RX10 258 10 38 := ⟨by decide, by decide, RX10, TX10, 53, rfl, by decide, lay10, k4_201⟩
theorem fdX10_267 : FDp RX10 267 10 39 false (.boolean) := ⟨by decide, by decide, RX10, TX10, 53, tyX10, rfl, by decide, lay10, k4_202, tyX10_ok, nmX10, rfl, tyX10_ok 39 (by decide), fun q => absurd q (by decide)⟩
theorem fgX10_267 : FGp RX10 267 10 39 := ⟨by decide, by decide, RX10, TX10, 53, rfl, by decide, lay10, k4_202⟩
theorem fdX10_110 : FDp RX10 110 10 40 true (.array .int) := ⟨by decide, by decide, RX10, TX10, 53, tyX10, rfl, by decide, lay10, k4_203, tyX10_ok, nmX10, rfl, tyX10_ok 40 (by decide), fun q => rfl⟩
theorem fgX10_110 : FGp RX10 110 10 40 := ⟨by decide, by decide, RX10, TX10, 53, rfl, by decide, lay10, k4_203⟩
theorem fdX10_113 : FDp RX10 113 10 41 true (.array .int) := ⟨by decide, by decide, RX10, TX10, 53, tyX10, rfl, by decide, lay10, k4_204, tyX10_ok, nmX10, rfl, tyX10_ok 41 (by decide), fun q => rfl⟩
theorem fgX10_113 : FGp RX10 113 10 41 := ⟨by decide, by decide, RX10, TX10, 53, rfl, by decide, lay10, k4_204⟩
theorem fdX10_116 : FDp RX10 116 10 42 true (.array .int) := ⟨by decide, by decide, RX10, TX10, 53, tyX10, rfl, by decide, lay10, k4_205, tyX10_ok, nmX10, rfl, tyX10_ok 42 (by decide), fun q => rfl⟩
theorem fgX10_116 : FGp RX10 116 10 42 := ⟨by decide, by decide, RX10, TX10, 53, rfl, by decide, lay10, k4_205⟩
theorem fdX10_119 : FDp RX10 119 10 43 true (.array .int) := ⟨by decide, by decide, RX10, TX10, 53, tyX10, rfl, by decide, lay10, k4_206, tyX10_ok, nmX10, rfl, tyX10_ok 43 (by decide), fun q => rfl⟩
theorem fgX10_119 : FGp RX10 119 10 43 := ⟨by decide, by decide, RX10, TX10, 53, rfl, by decide, lay10, k4_206⟩
theorem fdX10_271 : FDp RX10 271 10 44 false (.int) := ⟨by decide, by decide, RX10, TX10, 53, tyX10, rfl, by decide, lay10, k4_207, tyX10_ok, nmX10, rfl, tyX10_ok 44 (by decide), fun q => absurd q (by decide)⟩
theorem fgX10_271 : FGp RX10 271 10 44 := ⟨by decide, by decide, RX10, TX10, 53, rfl, by decide, lay10, k4_207⟩
theorem fdX10_122 : FDp RX10 122 10 45 true (.array .int) := ⟨by decide, by decide, RX10, TX10, 53, tyX10, rfl, by decide, lay10, k4_208, tyX10_ok, nmX10, rfl, tyX10_ok 45 (by decide), fun q => rfl⟩
theorem fgX10_122 : FGp RX10 122 10 45 := ⟨by decide, by decide, RX10, TX10, 53, rfl, by decide, lay10, k4_208⟩
theorem fdX10_125 : FDp RX10 125 10 46 true (.array .int) := ⟨by decide, by decide, RX10, TX10, 53, tyX10, rfl, by decide, lay10, k4_209, tyX10_ok, nmX10, rfl, tyX10_ok 46 (by decide), fun q => rfl⟩
theorem fgX10_125 : FGp RX10 125 10 46 := ⟨by decide, by decide, RX10, TX10, 53, rfl, by decide, lay10, k4_209⟩
theorem fdX10_128 : FDp RX10 128 10 47 true (.array .int) := ⟨by decide, by decide, RX10, TX10, 53, tyX10, rfl, by decide, lay10, k4_210, tyX10_ok, nmX10, rfl, tyX10_ok 47 (by decide), fun q => rfl⟩
theorem fgX10_128 : FGp RX10 128 10 47 := ⟨by decide, by decide, RX10, TX10, 53, rfl, by decide, lay10, k4_210⟩
theorem fdX10_131 : FDp RX10 131 10 48 true (.array .int) := ⟨by decide, by decide, RX10, TX10, 53, tyX10, rfl, by decide, lay10, k4_211, tyX10_ok, nmX10, rfl, tyX10_ok 48 (by decide), fun q => rfl⟩
theorem fgX10_131 : FGp RX10 131 10 48 := ⟨by decide, by decide, RX10, TX10, 53, rfl, by decide, lay10, k4_211⟩
theorem fdX10_134 : FDp RX10 134 10 49 true (.array .int) := ⟨by decide, by decide, RX10, TX10, 53, tyX10, rfl, by decide, lay10, k4_212, tyX10_ok, nmX10, rfl, tyX10_ok 49 (by decide), fun q => rfl⟩
theorem fgX10_134 : FGp RX10 134 10 49 := ⟨by decide, by decide, RX10, TX10, 53, rfl, by decide, lay10, k4_212⟩
theorem fdX10_304 : FDp RX10 304 10 50 false (.int) := ⟨by decide, by decide, RX10, TX10, 53, tyX10, rfl, by decide, lay10, k4_213, tyX10_ok, nmX10, rfl, tyX10_ok 50 (by decide), fun q => absurd q (by decide)⟩
theorem fgX10_304 : FGp RX10 304 10 50 := ⟨by decide, by decide, RX10, TX10, 53, rfl, by decide, lay10, k4_213⟩
theorem fdX10_310 : FDp RX10 310 10 51 false (.int) := ⟨by decide, by decide, RX10, TX10, 53, tyX10, rfl, by decide, lay10, k4_214, tyX10_ok, nmX10, rfl, tyX10_ok 51 (by decide), fun q => absurd q (by decide)⟩
theorem fgX10_310 : FGp RX10 310 10 51 := ⟨by decide, by decide, RX10, TX10, 53, rfl, by decide, lay10, k4_214⟩
theorem fdX10_307 : FDp RX10 307 10 52 false (.int) := ⟨by decide, by decide, RX10, TX10, 53, tyX10, rfl, by decide, lay10, k4_215, tyX10_ok, nmX10, rfl, tyX10_ok 52 (by decide), fun q => absurd q (by decide)⟩
theorem fgX10_307 : FGp RX10 307 10 52 := ⟨by decide, by decide, RX10, TX10, 53, rfl, by decide, lay10, k4_215⟩
theorem ndX9_7 : NDp RX9 7 8 := ⟨by decide, RX8, TX8, 2, tyX8, rfl, rfl, lay8, tyX8_ok, k1_28, k1_29, k1_2, by decide +kernel⟩
theorem ndX9_23 : NDp RX9 23 6 := ⟨by decide, RX6, TX6, 8, tyX6, rfl, rfl, lay6, tyX6_ok, k1_45, k2_43, k1_11, by decide +kernel⟩
theorem ndX9_29 : NDp RX9 29 1 := ⟨by decide, RX1, TX1, 4, tyX1, rfl, rfl, lay1, tyX1_ok, k1_47, k1_175, k1_8, by decide +kernel⟩
theorem ndX9_35 : NDp RX9 35 7 := ⟨by decide, RX7, TX7, 8, tyX7, rfl, rfl, lay7, tyX7_ok, k1_49, k2_164, k1_13, by decide +kernel⟩
theorem ndX9_45 : NDp RX9 45 3 := ⟨by decide, RX3, TX3, 3, tyX3, rfl, rfl, lay3, tyX3_ok, k1_51, k1_52, k1_3, by decide +kernel⟩
theorem ndX9_52 : NDp RX9 52 0 := ⟨by decide, RX0, TX0, 8, tyX0, rfl, rfl, lay0, tyX0_ok, k1_71, k1_72, k1_4, by decide +kernel⟩
theorem ndX9_59 : NDp RX9 59 5 := ⟨by decide, RX5, TX5, 5, tyX5, rfl, rfl, lay5, tyX5_ok, k1_108, k1_109, k1_6, by decide +kernel⟩
theorem ndX9_66 : NDp RX9 66 4 := ⟨by decide, RX4, TX4, 11, tyX4, rfl, rfl, lay4, tyX4_ok, k1_131, k1_132, k1_7, by decide +kernel⟩
theorem ndX7_24 : NDp RX7 24 2 := ⟨by decide, RX2, TX2, 10, tyX2, rfl, rfl, lay2, tyX2_ok, k2_169, k2_170, k1_14, by decide +kernel⟩
theorem ndX2_28 : NDp RX2 28 6 := ⟨by decide, RX6, TX6, 8, tyX6, rfl, rfl, lay6, tyX6_ok, k2_175, k2_43, k1_11, by decide +kernel⟩
