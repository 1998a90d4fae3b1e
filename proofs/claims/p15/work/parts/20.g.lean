/-! 12.kcal -/
section
theorem kc_J7_fill_53178 : kCal yJ7_fill_53178 cJ7_fill_53178 4 none wsJ7_fill_53178 2 := ⟨⟨_, rfl⟩, by decide +kernel⟩
theorem kc_X0_length : kCal yX0_length cX0_length 1 (some .int) wsX0_length 0 := ⟨⟨_, rfl⟩, by decide +kernel⟩
theorem kc_X0_remember : kCal yX0_remember cX0_remember 4 none wsX0_remember 1 := ⟨⟨_, rfl⟩, by decide +kernel⟩
theorem kc_X0_takeBack : kCal yX0_takeBack cX0_takeBack 3 (some .boolean) wsX0_takeBack 1 := ⟨⟨_, rfl⟩, by decide +kernel⟩
theorem kc_X10_byteFor : kCal yX10_byteFor cX10_byteFor 3 (some .int) wsX10_byteFor 1 := ⟨⟨_, rfl⟩, by decide +kernel⟩
theorem kc_X10_canTake : kCal yX10_canTake cX10_canTake 8 (some .boolean) wsX10_canTake 4 := ⟨⟨_, rfl⟩, by decide +kernel⟩
theorem kc_X10_empty : kCal yX10_empty cX10_empty 1 none wsX10_empty 0 := ⟨⟨_, rfl⟩, by decide +kernel⟩
theorem kc_X10_length : kCal yX10_length cX10_length 1 (some .int) wsX10_length 0 := ⟨⟨_, rfl⟩, by decide +kernel⟩
theorem kc_X10_letterFor : kCal yX10_letterFor cX10_letterFor 2 (some .int) wsX10_letterFor 1 := ⟨⟨_, rfl⟩, by decide +kernel⟩
theorem kc_X10_placeFor : kCal yX10_placeFor cX10_placeFor 5 (some .int) wsX10_placeFor 1 := ⟨⟨_, rfl⟩, by decide +kernel⟩
theorem kc_X10_tell : kCal yX10_tell cX10_tell 4 none wsX10_tell 2 := ⟨⟨_, rfl⟩, by decide +kernel⟩
theorem kc_X11_back : kCal yX11_back cX11_back 1 (some .int) wsX11_back 0 := ⟨⟨_, rfl⟩, by decide +kernel⟩
theorem kc_X11_become : kCal yX11_become cX11_become 2 (some .int) wsX11_become 1 := ⟨⟨_, rfl⟩, by decide +kernel⟩
theorem kc_X11_blank : kCal yX11_blank cX11_blank 3 (some .boolean) wsX11_blank 1 := ⟨⟨_, rfl⟩, by decide +kernel⟩
theorem kc_X11_byteOf : kCal yX11_byteOf cX11_byteOf 3 (some .int) wsX11_byteOf 2 := ⟨⟨_, rfl⟩, by decide +kernel⟩
theorem kc_X11_choice : kCal yX11_choice cX11_choice 3 (some .int) wsX11_choice 2 := ⟨⟨_, rfl⟩, by decide +kernel⟩
theorem kc_X11_choices : kCal yX11_choices cX11_choices 5 (some .int) wsX11_choices 2 := ⟨⟨_, rfl⟩, by decide +kernel⟩
theorem kc_X11_chosen : kCal yX11_chosen cX11_chosen 2 (some .boolean) wsX11_chosen 1 := ⟨⟨_, rfl⟩, by decide +kernel⟩
theorem kc_X11_cost : kCal yX11_cost cX11_cost 4 (some .boolean) wsX11_cost 3 := ⟨⟨_, rfl⟩, by decide +kernel⟩
theorem kc_X11_count : kCal yX11_count cX11_count 2 (some .int) wsX11_count 1 := ⟨⟨_, rfl⟩, by decide +kernel⟩
theorem kc_X11_end : kCal yX11_end cX11_end 2 (some .boolean) wsX11_end 1 := ⟨⟨_, rfl⟩, by decide +kernel⟩
theorem kc_X11_feed : kCal yX11_feed cX11_feed 6 (some .int) wsX11_feed 5 := ⟨⟨_, rfl⟩, by decide +kernel⟩
theorem kc_X11_harm : kCal yX11_harm cX11_harm 3 (some .int) wsX11_harm 2 := ⟨⟨_, rfl⟩, by decide +kernel⟩
theorem kc_X11_isLetter : kCal yX11_isLetter cX11_isLetter 1 (some .boolean) wsX11_isLetter 1 := ⟨⟨_, rfl⟩, by decide +kernel⟩
theorem kc_X11_list : kCal yX11_list cX11_list 3 (some .int) wsX11_list 2 := ⟨⟨_, rfl⟩, by decide +kernel⟩
theorem kc_X11_marksOf : kCal yX11_marksOf cX11_marksOf 3 (some .int) wsX11_marksOf 1 := ⟨⟨_, rfl⟩, by decide +kernel⟩
theorem kc_X11_mend : kCal yX11_mend cX11_mend 4 (some .int) wsX11_mend 2 := ⟨⟨_, rfl⟩, by decide +kernel⟩
theorem kc_X11_parts : kCal yX11_parts cX11_parts 3 (some .int) wsX11_parts 1 := ⟨⟨_, rfl⟩, by decide +kernel⟩
theorem kc_X11_passes : kCal yX11_passes cX11_passes 4 (some .boolean) wsX11_passes 2 := ⟨⟨_, rfl⟩, by decide +kernel⟩
theorem kc_X11_read : kCal yX11_read cX11_read 3 (some .int) wsX11_read 1 := ⟨⟨_, rfl⟩, by decide +kernel⟩
theorem kc_X11_rough : kCal yX11_rough cX11_rough 4 (some .int) wsX11_rough 2 := ⟨⟨_, rfl⟩, by decide +kernel⟩
theorem kc_X11_row : kCal yX11_row cX11_row 3 (some .int) wsX11_row 2 := ⟨⟨_, rfl⟩, by decide +kernel⟩
theorem kc_X11_rows : kCal yX11_rows cX11_rows 2 (some .int) wsX11_rows 1 := ⟨⟨_, rfl⟩, by decide +kernel⟩
theorem kc_X11_safe : kCal yX11_safe cX11_safe 3 (some .int) wsX11_safe 2 := ⟨⟨_, rfl⟩, by decide +kernel⟩
theorem kc_X11_size : kCal yX11_size cX11_size 2 (some .int) wsX11_size 1 := ⟨⟨_, rfl⟩, by decide +kernel⟩
theorem kc_X11_span : kCal yX11_span cX11_span 8 (some .int) wsX11_span 5 := ⟨⟨_, rfl⟩, by decide +kernel⟩
theorem kc_X11_tapeHoldsBytes : kCal yX11_tapeHoldsBytes cX11_tapeHoldsBytes 3 (some .boolean) wsX11_tapeHoldsBytes 0 := ⟨⟨_, rfl⟩, by decide +kernel⟩
theorem kc_X11_tapeHoldsLetters : kCal yX11_tapeHoldsLetters cX11_tapeHoldsLetters 2 (some .boolean) wsX11_tapeHoldsLetters 0 := ⟨⟨_, rfl⟩, by decide +kernel⟩
theorem kc_X11_text : kCal yX11_text cX11_text 2 (some .int) wsX11_text 0 := ⟨⟨_, rfl⟩, by decide +kernel⟩
theorem kc_X11_undo : kCal yX11_undo cX11_undo 3 (some .int) wsX11_undo 2 := ⟨⟨_, rfl⟩, by decide +kernel⟩
theorem kc_X11_unlist : kCal yX11_unlist cX11_unlist 2 (some .int) wsX11_unlist 0 := ⟨⟨_, rfl⟩, by decide +kernel⟩
theorem kc_X11_where : kCal yX11_where cX11_where 1 (some .int) wsX11_where 0 := ⟨⟨_, rfl⟩, by decide +kernel⟩
theorem kc_X11_worth : kCal yX11_worth cX11_worth 1 (some .int) wsX11_worth 0 := ⟨⟨_, rfl⟩, by decide +kernel⟩
theorem kc_X11_writes : kCal yX11_writes cX11_writes 3 (some .boolean) wsX11_writes 1 := ⟨⟨_, rfl⟩, by decide +kernel⟩
theorem kc_X12_at : kCal yX12_at cX12_at 2 (some .int) wsX12_at 1 := ⟨⟨_, rfl⟩, by decide +kernel⟩
theorem kc_X12_back : kCal yX12_back cX12_back 3 (some .int) wsX12_back 0 := ⟨⟨_, rfl⟩, by decide +kernel⟩
theorem kc_X12_become : kCal yX12_become cX12_become 5 none wsX12_become 2 := ⟨⟨_, rfl⟩, by decide +kernel⟩
theorem kc_X12_blank : kCal yX12_blank cX12_blank 4 (some .boolean) wsX12_blank 1 := ⟨⟨_, rfl⟩, by decide +kernel⟩
theorem kc_X12_byteAt : kCal yX12_byteAt cX12_byteAt 2 (some .int) wsX12_byteAt 1 := ⟨⟨_, rfl⟩, by decide +kernel⟩
theorem kc_X12_byteOf : kCal yX12_byteOf cX12_byteOf 3 (some .int) wsX12_byteOf 2 := ⟨⟨_, rfl⟩, by decide +kernel⟩
theorem kc_X12_canCome : kCal yX12_canCome cX12_canCome 3 (some .boolean) wsX12_canCome 2 := ⟨⟨_, rfl⟩, by decide +kernel⟩
theorem kc_X12_choice : kCal yX12_choice cX12_choice 3 (some .int) wsX12_choice 2 := ⟨⟨_, rfl⟩, by decide +kernel⟩
theorem kc_X12_choices : kCal yX12_choices cX12_choices 11 (some .int) wsX12_choices 2 := ⟨⟨_, rfl⟩, by decide +kernel⟩
theorem kc_X12_chosen : kCal yX12_chosen cX12_chosen 2 (some .boolean) wsX12_chosen 1 := ⟨⟨_, rfl⟩, by decide +kernel⟩
theorem kc_X12_cost : kCal yX12_cost cX12_cost 5 (some .boolean) wsX12_cost 3 := ⟨⟨_, rfl⟩, by decide +kernel⟩
theorem kc_X12_costOf : kCal yX12_costOf cX12_costOf 5 (some .int) wsX12_costOf 2 := ⟨⟨_, rfl⟩, by decide +kernel⟩
theorem kc_X12_costOf_ : kCal yX12_costOf_ cX12_costOf_ 7 (some .int) wsX12_costOf_ 3 := ⟨⟨_, rfl⟩, by decide +kernel⟩
theorem kc_X12_count : kCal yX12_count cX12_count 2 (some .int) wsX12_count 1 := ⟨⟨_, rfl⟩, by decide +kernel⟩
theorem kc_X12_does : kCal yX12_does cX12_does 5 (some .boolean) wsX12_does 4 := ⟨⟨_, rfl⟩, by decide +kernel⟩
theorem kc_X12_end : kCal yX12_end cX12_end 2 (some .boolean) wsX12_end 1 := ⟨⟨_, rfl⟩, by decide +kernel⟩
theorem kc_X12_feed : kCal yX12_feed cX12_feed 6 (some .int) wsX12_feed 5 := ⟨⟨_, rfl⟩, by decide +kernel⟩
theorem kc_X12_goesOn : kCal yX12_goesOn cX12_goesOn 1 (some .boolean) wsX12_goesOn 1 := ⟨⟨_, rfl⟩, by decide +kernel⟩
theorem kc_X12_harm : kCal yX12_harm cX12_harm 3 (some .int) wsX12_harm 2 := ⟨⟨_, rfl⟩, by decide +kernel⟩
theorem kc_X12_isAlone : kCal yX12_isAlone cX12_isAlone 3 (some .boolean) wsX12_isAlone 2 := ⟨⟨_, rfl⟩, by decide +kernel⟩
theorem kc_X12_isChoice : kCal yX12_isChoice cX12_isChoice 7 (some .boolean) wsX12_isChoice 4 := ⟨⟨_, rfl⟩, by decide +kernel⟩
theorem kc_X12_isCode : kCal yX12_isCode cX12_isCode 1 (some .boolean) wsX12_isCode 1 := ⟨⟨_, rfl⟩, by decide +kernel⟩
theorem kc_X12_isLetter : kCal yX12_isLetter cX12_isLetter 1 (some .boolean) wsX12_isLetter 1 := ⟨⟨_, rfl⟩, by decide +kernel⟩
theorem kc_X12_isToldChoice : kCal yX12_isToldChoice cX12_isToldChoice 2 (some .boolean) wsX12_isToldChoice 1 := ⟨⟨_, rfl⟩, by decide +kernel⟩
theorem kc_X12_list : kCal yX12_list cX12_list 4 (some .int) wsX12_list 2 := ⟨⟨_, rfl⟩, by decide +kernel⟩
theorem kc_X12_makes : kCal yX12_makes cX12_makes 6 (some .boolean) wsX12_makes 2 := ⟨⟨_, rfl⟩, by decide +kernel⟩
theorem kc_X12_marksOf : kCal yX12_marksOf cX12_marksOf 3 (some .int) wsX12_marksOf 0 := ⟨⟨_, rfl⟩, by decide +kernel⟩
theorem kc_X12_mend : kCal yX12_mend cX12_mend 12 (some .int) wsX12_mend 2 := ⟨⟨_, rfl⟩, by decide +kernel⟩
theorem kc_X12_parts : kCal yX12_parts cX12_parts 8 (some .int) wsX12_parts 1 := ⟨⟨_, rfl⟩, by decide +kernel⟩
theorem kc_X12_power : kCal yX12_power cX12_power 4 (some .int) wsX12_power 2 := ⟨⟨_, rfl⟩, by decide +kernel⟩
theorem kc_X12_put : kCal yX12_put cX12_put 2 none wsX12_put 1 := ⟨⟨_, rfl⟩, by decide +kernel⟩
theorem kc_X12_read : kCal yX12_read cX12_read 5 (some .boolean) wsX12_read 2 := ⟨⟨_, rfl⟩, by decide +kernel⟩
theorem kc_X12_readAt : kCal yX12_readAt cX12_readAt 7 (some .int) wsX12_readAt 2 := ⟨⟨_, rfl⟩, by decide +kernel⟩
theorem kc_X12_read_ : kCal yX12_read_ cX12_read_ 4 (some .int) wsX12_read_ 1 := ⟨⟨_, rfl⟩, by decide +kernel⟩
theorem kc_X12_rough : kCal yX12_rough cX12_rough 6 (some .int) wsX12_rough 2 := ⟨⟨_, rfl⟩, by decide +kernel⟩
theorem kc_X12_row : kCal yX12_row cX12_row 3 (some .int) wsX12_row 2 := ⟨⟨_, rfl⟩, by decide +kernel⟩
theorem kc_X12_rows : kCal yX12_rows cX12_rows 7 (some .int) wsX12_rows 1 := ⟨⟨_, rfl⟩, by decide +kernel⟩
theorem kc_X12_safe : kCal yX12_safe cX12_safe 5 (some .int) wsX12_safe 2 := ⟨⟨_, rfl⟩, by decide +kernel⟩
theorem kc_X12_size : kCal yX12_size cX12_size 2 (some .int) wsX12_size 1 := ⟨⟨_, rfl⟩, by decide +kernel⟩
theorem kc_X12_sortOf : kCal yX12_sortOf cX12_sortOf 1 (some .int) wsX12_sortOf 1 := ⟨⟨_, rfl⟩, by decide +kernel⟩
theorem kc_X12_span : kCal yX12_span cX12_span 9 (some .int) wsX12_span 5 := ⟨⟨_, rfl⟩, by decide +kernel⟩
theorem kc_X12_takeSpan : kCal yX12_takeSpan cX12_takeSpan 5 (some .boolean) wsX12_takeSpan 3 := ⟨⟨_, rfl⟩, by decide +kernel⟩
theorem kc_X12_takeText : kCal yX12_takeText cX12_takeText 2 none wsX12_takeText 0 := ⟨⟨_, rfl⟩, by decide +kernel⟩
theorem kc_X12_text : kCal yX12_text cX12_text 3 (some .int) wsX12_text 0 := ⟨⟨_, rfl⟩, by decide +kernel⟩
theorem kc_X12_undo : kCal yX12_undo cX12_undo 3 (some .int) wsX12_undo 2 := ⟨⟨_, rfl⟩, by decide +kernel⟩
theorem kc_X12_undoes : kCal yX12_undoes cX12_undoes 6 (some .boolean) wsX12_undoes 2 := ⟨⟨_, rfl⟩, by decide +kernel⟩
theorem kc_X12_unlist : kCal yX12_unlist cX12_unlist 2 (some .int) wsX12_unlist 0 := ⟨⟨_, rfl⟩, by decide +kernel⟩
theorem kc_X12_where : kCal yX12_where cX12_where 1 (some .int) wsX12_where 0 := ⟨⟨_, rfl⟩, by decide +kernel⟩
theorem kc_X12_worth : kCal yX12_worth cX12_worth 1 (some .int) wsX12_worth 0 := ⟨⟨_, rfl⟩, by decide +kernel⟩
theorem kc_X12_write : kCal yX12_write cX12_write 5 (some .boolean) wsX12_write 3 := ⟨⟨_, rfl⟩, by decide +kernel⟩
theorem kc_X12_writeLetter : kCal yX12_writeLetter cX12_writeLetter 4 (some .boolean) wsX12_writeLetter 2 := ⟨⟨_, rfl⟩, by decide +kernel⟩
theorem kc_X12_writeWith : kCal yX12_writeWith cX12_writeWith 6 (some .boolean) wsX12_writeWith 3 := ⟨⟨_, rfl⟩, by decide +kernel⟩
theorem kc_X1_build : kCal yX1_build cX1_build 5 (some .boolean) wsX1_build 4 := ⟨⟨_, rfl⟩, by decide +kernel⟩
theorem kc_X1_comesBack : kCal yX1_comesBack cX1_comesBack 2 (some .boolean) wsX1_comesBack 0 := ⟨⟨_, rfl⟩, by decide +kernel⟩
theorem kc_X1_find : kCal yX1_find cX1_find 4 (some .int) wsX1_find 2 := ⟨⟨_, rfl⟩, by decide +kernel⟩
theorem kc_X1_findTails : kCal yX1_findTails cX1_findTails 5 none wsX1_findTails 0 := ⟨⟨_, rfl⟩, by decide +kernel⟩
theorem kc_X1_forgetFreshness : kCal yX1_forgetFreshness cX1_forgetFreshness 1 none wsX1_forgetFreshness 0 := ⟨⟨_, rfl⟩, by decide +kernel⟩
theorem kc_X1_isFresh : kCal yX1_isFresh cX1_isFresh 2 (some .boolean) wsX1_isFresh 1 := ⟨⟨_, rfl⟩, by decide +kernel⟩
theorem kc_X1_keep : kCal yX1_keep cX1_keep 6 none wsX1_keep 4 := ⟨⟨_, rfl⟩, by decide +kernel⟩
theorem kc_X1_layOut : kCal yX1_layOut cX1_layOut 4 (some .int) wsX1_layOut 2 := ⟨⟨_, rfl⟩, by decide +kernel⟩
theorem kc_X1_told : kCal yX1_told cX1_told 3 (some .int) wsX1_told 2 := ⟨⟨_, rfl⟩, by decide +kernel⟩
theorem kc_X1_tryLast : kCal yX1_tryLast cX1_tryLast 3 none wsX1_tryLast 1 := ⟨⟨_, rfl⟩, by decide +kernel⟩
theorem kc_X1_tryWhole : kCal yX1_tryWhole cX1_tryWhole 5 none wsX1_tryWhole 2 := ⟨⟨_, rfl⟩, by decide +kernel⟩
theorem kc_X2_bytesIn : kCal yX2_bytesIn cX2_bytesIn 1 (some .int) wsX2_bytesIn 1 := ⟨⟨_, rfl⟩, by decide +kernel⟩
theorem kc_X2_decode : kCal yX2_decode cX2_decode 7 (some .int) wsX2_decode 4 := ⟨⟨_, rfl⟩, by decide +kernel⟩
theorem kc_X2_decodeMany : kCal yX2_decodeMany cX2_decodeMany 8 (some .int) wsX2_decodeMany 3 := ⟨⟨_, rfl⟩, by decide +kernel⟩
theorem kc_X2_decodeNumber : kCal yX2_decodeNumber cX2_decodeNumber 7 (some .int) wsX2_decodeNumber 3 := ⟨⟨_, rfl⟩, by decide +kernel⟩
theorem kc_X2_encode : kCal yX2_encode cX2_encode 6 (some .boolean) wsX2_encode 3 := ⟨⟨_, rfl⟩, by decide +kernel⟩
theorem kc_X2_encodeMany : kCal yX2_encodeMany cX2_encodeMany 3 (some .boolean) wsX2_encodeMany 2 := ⟨⟨_, rfl⟩, by decide +kernel⟩
theorem kc_X2_encodeNumber : kCal yX2_encodeNumber cX2_encodeNumber 6 (some .boolean) wsX2_encodeNumber 2 := ⟨⟨_, rfl⟩, by decide +kernel⟩
theorem kc_X2_found : kCal yX2_found cX2_found 2 (some .int) wsX2_found 2 := ⟨⟨_, rfl⟩, by decide +kernel⟩
theorem kc_X2_isNumbered : kCal yX2_isNumbered cX2_isNumbered 1 (some .boolean) wsX2_isNumbered 1 := ⟨⟨_, rfl⟩, by decide +kernel⟩
theorem kc_X2_isWritten : kCal yX2_isWritten cX2_isWritten 3 (some .boolean) wsX2_isWritten 2 := ⟨⟨_, rfl⟩, by decide +kernel⟩
theorem kc_X2_known : kCal yX2_known cX2_known 1 (some .boolean) wsX2_known 1 := ⟨⟨_, rfl⟩, by decide +kernel⟩
theorem kc_X2_lengthOf : kCal yX2_lengthOf cX2_lengthOf 3 (some .int) wsX2_lengthOf 1 := ⟨⟨_, rfl⟩, by decide +kernel⟩
theorem kc_X2_letterAlone : kCal yX2_letterAlone cX2_letterAlone 4 (some .int) wsX2_letterAlone 2 := ⟨⟨_, rfl⟩, by decide +kernel⟩
theorem kc_X2_letterIn : kCal yX2_letterIn cX2_letterIn 1 (some .int) wsX2_letterIn 1 := ⟨⟨_, rfl⟩, by decide +kernel⟩
theorem kc_X2_neverLost : kCal yX2_neverLost cX2_neverLost 4 (some .boolean) wsX2_neverLost 2 := ⟨⟨_, rfl⟩, by decide +kernel⟩
theorem kc_X2_toldCode : kCal yX2_toldCode cX2_toldCode 2 (some (.object "TextMender$ToldCode")) wsX2_toldCode 1 := ⟨⟨_, rfl⟩, by decide +kernel⟩
theorem kc_X3_length : kCal yX3_length cX3_length 1 (some .int) wsX3_length 0 := ⟨⟨_, rfl⟩, by decide +kernel⟩
theorem kc_X3_of : kCal yX3_of cX3_of 7 (some .int) wsX3_of 2 := ⟨⟨_, rfl⟩, by decide +kernel⟩
theorem kc_X3_ofText : kCal yX3_ofText cX3_ofText 6 (some .int) wsX3_ofText 1 := ⟨⟨_, rfl⟩, by decide +kernel⟩
theorem kc_X3_pairOf : kCal yX3_pairOf cX3_pairOf 2 (some .int) wsX3_pairOf 2 := ⟨⟨_, rfl⟩, by decide +kernel⟩
theorem kc_X3_placeFor : kCal yX3_placeFor cX3_placeFor 7 (some .int) wsX3_placeFor 2 := ⟨⟨_, rfl⟩, by decide +kernel⟩
theorem kc_X3_sortOf : kCal yX3_sortOf cX3_sortOf 1 (some .int) wsX3_sortOf 1 := ⟨⟨_, rfl⟩, by decide +kernel⟩
theorem kc_X3_sortOutside : kCal yX3_sortOutside cX3_sortOutside 1 (some .int) wsX3_sortOutside 1 := ⟨⟨_, rfl⟩, by decide +kernel⟩
theorem kc_X3_tell : kCal yX3_tell cX3_tell 5 (some .boolean) wsX3_tell 3 := ⟨⟨_, rfl⟩, by decide +kernel⟩
theorem kc_X4_empty : kCal yX4_empty cX4_empty 1 none wsX4_empty 0 := ⟨⟨_, rfl⟩, by decide +kernel⟩
theorem kc_X4_length : kCal yX4_length cX4_length 1 (some .int) wsX4_length 0 := ⟨⟨_, rfl⟩, by decide +kernel⟩
theorem kc_X4_readIn : kCal yX4_readIn cX4_readIn 2 (some .int) wsX4_readIn 1 := ⟨⟨_, rfl⟩, by decide +kernel⟩
theorem kc_X4_takeOff : kCal yX4_takeOff cX4_takeOff 4 (some .boolean) wsX4_takeOff 3 := ⟨⟨_, rfl⟩, by decide +kernel⟩
theorem kc_X4_tell : kCal yX4_tell cX4_tell 4 (some .boolean) wsX4_tell 2 := ⟨⟨_, rfl⟩, by decide +kernel⟩
theorem kc_X4_writtenIn : kCal yX4_writtenIn cX4_writtenIn 2 (some .int) wsX4_writtenIn 1 := ⟨⟨_, rfl⟩, by decide +kernel⟩
theorem kc_X5_add : kCal yX5_add cX5_add 2 (some .boolean) wsX5_add 1 := ⟨⟨_, rfl⟩, by decide +kernel⟩
theorem kc_X5_addAll : kCal yX5_addAll cX5_addAll 2 (some .boolean) wsX5_addAll 1 := ⟨⟨_, rfl⟩, by decide +kernel⟩
theorem kc_X5_cut : kCal yX5_cut cX5_cut 2 none wsX5_cut 1 := ⟨⟨_, rfl⟩, by decide +kernel⟩
theorem kc_X5_get : kCal yX5_get cX5_get 2 (some .int) wsX5_get 1 := ⟨⟨_, rfl⟩, by decide +kernel⟩
theorem kc_X5_length : kCal yX5_length cX5_length 1 (some .int) wsX5_length 0 := ⟨⟨_, rfl⟩, by decide +kernel⟩
theorem kc_X5_set : kCal yX5_set cX5_set 3 none wsX5_set 2 := ⟨⟨_, rfl⟩, by decide +kernel⟩
theorem kc_X5_takeAll : kCal yX5_takeAll cX5_takeAll 2 (some .boolean) wsX5_takeAll 1 := ⟨⟨_, rfl⟩, by decide +kernel⟩
theorem kc_X6_build : kCal yX6_build cX6_build 6 (some .boolean) wsX6_build 2 := ⟨⟨_, rfl⟩, by decide +kernel⟩
theorem kc_X6_find : kCal yX6_find cX6_find 6 none wsX6_find 2 := ⟨⟨_, rfl⟩, by decide +kernel⟩
theorem kc_X6_isBetter : kCal yX6_isBetter cX6_isBetter 5 (some .boolean) wsX6_isBetter 4 := ⟨⟨_, rfl⟩, by decide +kernel⟩
theorem kc_X6_offer : kCal yX6_offer cX6_offer 7 none wsX6_offer 4 := ⟨⟨_, rfl⟩, by decide +kernel⟩
theorem kc_X6_spans : kCal yX6_spans cX6_spans 1 (some .int) wsX6_spans 0 := ⟨⟨_, rfl⟩, by decide +kernel⟩
theorem kc_X6_tryAsItIs : kCal yX6_tryAsItIs cX6_tryAsItIs 8 none wsX6_tryAsItIs 3 := ⟨⟨_, rfl⟩, by decide +kernel⟩
theorem kc_X6_tryUndone : kCal yX6_tryUndone cX6_tryUndone 6 none wsX6_tryUndone 4 := ⟨⟨_, rfl⟩, by decide +kernel⟩
theorem kc_X7_bytes : kCal yX7_bytes cX7_bytes 1 (some (.object "TextMender$Numbers")) wsX7_bytes 0 := ⟨⟨_, rfl⟩, by decide +kernel⟩
theorem kc_X7_fault : kCal yX7_fault cX7_fault 1 (some .int) wsX7_fault 0 := ⟨⟨_, rfl⟩, by decide +kernel⟩
theorem kc_X7_pass : kCal yX7_pass cX7_pass 5 (some .boolean) wsX7_pass 4 := ⟨⟨_, rfl⟩, by decide +kernel⟩
theorem kc_X7_passRoughly : kCal yX7_passRoughly cX7_passRoughly 8 (some .int) wsX7_passRoughly 4 := ⟨⟨_, rfl⟩, by decide +kernel⟩
theorem kc_X7_readExactly : kCal yX7_readExactly cX7_readExactly 7 (some .boolean) wsX7_readExactly 3 := ⟨⟨_, rfl⟩, by decide +kernel⟩
theorem kc_X7_write : kCal yX7_write cX7_write 4 (some .boolean) wsX7_write 2 := ⟨⟨_, rfl⟩, by decide +kernel⟩
theorem kc_X8_begin : kCal yX8_begin cX8_begin 1 none wsX8_begin 0 := ⟨⟨_, rfl⟩, by decide +kernel⟩
theorem kc_X8_goOn : kCal yX8_goOn cX8_goOn 6 none wsX8_goOn 3 := ⟨⟨_, rfl⟩, by decide +kernel⟩
theorem kc_X8_letters : kCal yX8_letters cX8_letters 1 (some .int) wsX8_letters 0 := ⟨⟨_, rfl⟩, by decide +kernel⟩
theorem kc_X8_reached : kCal yX8_reached cX8_reached 1 (some .int) wsX8_reached 0 := ⟨⟨_, rfl⟩, by decide +kernel⟩
theorem kc_X8_step : kCal yX8_step cX8_step 6 (some .boolean) wsX8_step 3 := ⟨⟨_, rfl⟩, by decide +kernel⟩
theorem kc_X8_sumWith : kCal yX8_sumWith cX8_sumWith 2 (some .int) wsX8_sumWith 1 := ⟨⟨_, rfl⟩, by decide +kernel⟩
theorem kc_X8_takeAll : kCal yX8_takeAll cX8_takeAll 2 none wsX8_takeAll 1 := ⟨⟨_, rfl⟩, by decide +kernel⟩
theorem kc_X9_build : kCal yX9_build cX9_build 6 (some .boolean) wsX9_build 3 := ⟨⟨_, rfl⟩, by decide +kernel⟩
theorem kc_X9_cheapest : kCal yX9_cheapest cX9_cheapest 3 (some .int) wsX9_cheapest 0 := ⟨⟨_, rfl⟩, by decide +kernel⟩
theorem kc_X9_costAt : kCal yX9_costAt cX9_costAt 2 (some .int) wsX9_costAt 1 := ⟨⟨_, rfl⟩, by decide +kernel⟩
theorem kc_X9_find : kCal yX9_find cX9_find 9 none wsX9_find 2 := ⟨⟨_, rfl⟩, by decide +kernel⟩
theorem kc_X9_keepFound : kCal yX9_keepFound cX9_keepFound 3 (some .int) wsX9_keepFound 0 := ⟨⟨_, rfl⟩, by decide +kernel⟩
theorem kc_X9_nameHarms : kCal yX9_nameHarms cX9_nameHarms 5 none wsX9_nameHarms 4 := ⟨⟨_, rfl⟩, by decide +kernel⟩
theorem kc_X9_note : kCal yX9_note cX9_note 3 none wsX9_note 2 := ⟨⟨_, rfl⟩, by decide +kernel⟩
theorem kc_X9_numberOf : kCal yX9_numberOf cX9_numberOf 4 (some .int) wsX9_numberOf 1 := ⟨⟨_, rfl⟩, by decide +kernel⟩
theorem kc_X9_told : kCal yX9_told cX9_told 4 (some .int) wsX9_told 2 := ⟨⟨_, rfl⟩, by decide +kernel⟩
end

/-! 20.a.rows -/
section
set_option maxRecDepth 100000 in
theorem dA1_cX5_length : kDec cX5_length [(0, .aload_n 0, 1), (1, .getfield 21, 3), (4, .ireturn, 1)] = true := by decide +kernel
theorem dX5_length_0 : decode cX5_length 0 = .ok (.aload_n 0, 1) := kDec_at dA1_cX5_length 0 rfl
theorem dX5_length_1 : decode cX5_length 1 = .ok (.getfield 21, 3) := kDec_at dA1_cX5_length 1 rfl
theorem dX5_length_4 : decode cX5_length 4 = .ok (.ireturn, 1) := kDec_at dA1_cX5_length 2 rfl
set_option maxRecDepth 100000 in
theorem dA2_cX5_get : kDec cX5_get [(0, .iload_n 1, 1), (1, .ifCond .lt 20, 3), (21, .iconst (-1), 1), (22, .ireturn, 1), (4, .iload_n 1, 1), (5, .aload_n 0, 1), (6, .getfield 21, 3), (9, .if_icmp .ge 12, 3), (12, .aload_n 0, 1), (13, .getfield 15, 3), (16, .iload_n 1, 1), (17, .iaload, 1), (18, .goto 4, 3)] = true := by decide +kernel
theorem dX5_get_0 : decode cX5_get 0 = .ok (.iload_n 1, 1) := kDec_at dA2_cX5_get 0 rfl
theorem dX5_get_1 : decode cX5_get 1 = .ok (.ifCond .lt 20, 3) := kDec_at dA2_cX5_get 1 rfl
theorem dX5_get_21 : decode cX5_get 21 = .ok (.iconst (-1), 1) := kDec_at dA2_cX5_get 2 rfl
theorem dX5_get_22 : decode cX5_get 22 = .ok (.ireturn, 1) := kDec_at dA2_cX5_get 3 rfl
theorem dX5_get_4 : decode cX5_get 4 = .ok (.iload_n 1, 1) := kDec_at dA2_cX5_get 4 rfl
theorem dX5_get_5 : decode cX5_get 5 = .ok (.aload_n 0, 1) := kDec_at dA2_cX5_get 5 rfl
theorem dX5_get_6 : decode cX5_get 6 = .ok (.getfield 21, 3) := kDec_at dA2_cX5_get 6 rfl
theorem dX5_get_9 : decode cX5_get 9 = .ok (.if_icmp .ge 12, 3) := kDec_at dA2_cX5_get 7 rfl
theorem dX5_get_12 : decode cX5_get 12 = .ok (.aload_n 0, 1) := kDec_at dA2_cX5_get 8 rfl
theorem dX5_get_13 : decode cX5_get 13 = .ok (.getfield 15, 3) := kDec_at dA2_cX5_get 9 rfl
theorem dX5_get_16 : decode cX5_get 16 = .ok (.iload_n 1, 1) := kDec_at dA2_cX5_get 10 rfl
theorem dX5_get_17 : decode cX5_get 17 = .ok (.iaload, 1) := kDec_at dA2_cX5_get 11 rfl
theorem dX5_get_18 : decode cX5_get 18 = .ok (.goto 4, 3) := kDec_at dA2_cX5_get 12 rfl
set_option maxRecDepth 100000 in
theorem dA3_cX5_add : kDec cX5_add [(0, .aload_n 0, 1), (1, .getfield 21, 3), (4, .aload_n 0, 1), (5, .getfield 15, 3), (8, .arraylength, 1), (9, .if_icmp .lt 5, 3), (14, .aload_n 0, 1), (15, .getfield 15, 3), (18, .aload_n 0, 1), (19, .getfield 21, 3), (22, .iload_n 1, 1), (23, .iastore, 1), (24, .aload_n 0, 1), (25, .dup, 1), (26, .getfield 21, 3), (29, .iconst 1, 1), (30, .iadd, 1), (31, .putfield 21, 3), (34, .iconst 1, 1), (35, .ireturn, 1), (12, .iconst 0, 1), (13, .ireturn, 1)] = true := by decide +kernel
theorem dX5_add_0 : decode cX5_add 0 = .ok (.aload_n 0, 1) := kDec_at dA3_cX5_add 0 rfl
theorem dX5_add_1 : decode cX5_add 1 = .ok (.getfield 21, 3) := kDec_at dA3_cX5_add 1 rfl
theorem dX5_add_4 : decode cX5_add 4 = .ok (.aload_n 0, 1) := kDec_at dA3_cX5_add 2 rfl
theorem dX5_add_5 : decode cX5_add 5 = .ok (.getfield 15, 3) := kDec_at dA3_cX5_add 3 rfl
theorem dX5_add_8 : decode cX5_add 8 = .ok (.arraylength, 1) := kDec_at dA3_cX5_add 4 rfl
theorem dX5_add_9 : decode cX5_add 9 = .ok (.if_icmp .lt 5, 3) := kDec_at dA3_cX5_add 5 rfl
theorem dX5_add_14 : decode cX5_add 14 = .ok (.aload_n 0, 1) := kDec_at dA3_cX5_add 6 rfl
theorem dX5_add_15 : decode cX5_add 15 = .ok (.getfield 15, 3) := kDec_at dA3_cX5_add 7 rfl
theorem dX5_add_18 : decode cX5_add 18 = .ok (.aload_n 0, 1) := kDec_at dA3_cX5_add 8 rfl
theorem dX5_add_19 : decode cX5_add 19 = .ok (.getfield 21, 3) := kDec_at dA3_cX5_add 9 rfl
theorem dX5_add_22 : decode cX5_add 22 = .ok (.iload_n 1, 1) := kDec_at dA3_cX5_add 10 rfl
theorem dX5_add_23 : decode cX5_add 23 = .ok (.iastore, 1) := kDec_at dA3_cX5_add 11 rfl
theorem dX5_add_24 : decode cX5_add 24 = .ok (.aload_n 0, 1) := kDec_at dA3_cX5_add 12 rfl
theorem dX5_add_25 : decode cX5_add 25 = .ok (.dup, 1) := kDec_at dA3_cX5_add 13 rfl
theorem dX5_add_26 : decode cX5_add 26 = .ok (.getfield 21, 3) := kDec_at dA3_cX5_add 14 rfl
theorem dX5_add_29 : decode cX5_add 29 = .ok (.iconst 1, 1) := kDec_at dA3_cX5_add 15 rfl
theorem dX5_add_30 : decode cX5_add 30 = .ok (.iadd, 1) := kDec_at dA3_cX5_add 16 rfl
theorem dX5_add_31 : decode cX5_add 31 = .ok (.putfield 21, 3) := kDec_at dA3_cX5_add 17 rfl
theorem dX5_add_34 : decode cX5_add 34 = .ok (.iconst 1, 1) := kDec_at dA3_cX5_add 18 rfl
theorem dX5_add_35 : decode cX5_add 35 = .ok (.ireturn, 1) := kDec_at dA3_cX5_add 19 rfl
theorem dX5_add_12 : decode cX5_add 12 = .ok (.iconst 0, 1) := kDec_at dA3_cX5_add 20 rfl
theorem dX5_add_13 : decode cX5_add 13 = .ok (.ireturn, 1) := kDec_at dA3_cX5_add 21 rfl
set_option maxRecDepth 100000 in
theorem dA4_cX5_cut : kDec cX5_cut [(0, .iload_n 1, 1), (1, .ifCond .lt 16, 3), (17, .return_, 1), (4, .iload_n 1, 1), (5, .aload_n 0, 1), (6, .getfield 21, 3), (9, .if_icmp .ge 8, 3), (12, .aload_n 0, 1), (13, .iload_n 1, 1), (14, .putfield 21, 3)] = true := by decide +kernel
theorem dX5_cut_0 : decode cX5_cut 0 = .ok (.iload_n 1, 1) := kDec_at dA4_cX5_cut 0 rfl
theorem dX5_cut_1 : decode cX5_cut 1 = .ok (.ifCond .lt 16, 3) := kDec_at dA4_cX5_cut 1 rfl
theorem dX5_cut_17 : decode cX5_cut 17 = .ok (.return_, 1) := kDec_at dA4_cX5_cut 2 rfl
theorem dX5_cut_4 : decode cX5_cut 4 = .ok (.iload_n 1, 1) := kDec_at dA4_cX5_cut 3 rfl
theorem dX5_cut_5 : decode cX5_cut 5 = .ok (.aload_n 0, 1) := kDec_at dA4_cX5_cut 4 rfl
theorem dX5_cut_6 : decode cX5_cut 6 = .ok (.getfield 21, 3) := kDec_at dA4_cX5_cut 5 rfl
theorem dX5_cut_9 : decode cX5_cut 9 = .ok (.if_icmp .ge 8, 3) := kDec_at dA4_cX5_cut 6 rfl
theorem dX5_cut_12 : decode cX5_cut 12 = .ok (.aload_n 0, 1) := kDec_at dA4_cX5_cut 7 rfl
theorem dX5_cut_13 : decode cX5_cut 13 = .ok (.iload_n 1, 1) := kDec_at dA4_cX5_cut 8 rfl
theorem dX5_cut_14 : decode cX5_cut 14 = .ok (.putfield 21, 3) := kDec_at dA4_cX5_cut 9 rfl
set_option maxRecDepth 100000 in
theorem dA5_cX5_addAll : kDec cX5_addAll [(0, .aload_n 1, 1), (1, .getfield 21, 3), (4, .aload_n 0, 1), (5, .getfield 15, 3), (8, .arraylength, 1), (9, .aload_n 0, 1), (10, .getfield 21, 3), (13, .isub, 1), (14, .if_icmp .le 5, 3), (19, .aload_n 1, 1), (20, .getfield 15, 3), (23, .iconst 0, 1), (24, .aload_n 0, 1), (25, .getfield 15, 3), (28, .aload_n 0, 1), (29, .getfield 21, 3), (32, .aload_n 1, 1), (33, .getfield 21, 3), (36, .invokestatic 25, 3), (39, .aload_n 0, 1), (40, .dup, 1), (41, .getfield 21, 3), (44, .aload_n 1, 1), (45, .getfield 21, 3)] = true := by decide +kernel
theorem dX5_addAll_0 : decode cX5_addAll 0 = .ok (.aload_n 1, 1) := kDec_at dA5_cX5_addAll 0 rfl
theorem dX5_addAll_1 : decode cX5_addAll 1 = .ok (.getfield 21, 3) := kDec_at dA5_cX5_addAll 1 rfl
theorem dX5_addAll_4 : decode cX5_addAll 4 = .ok (.aload_n 0, 1) := kDec_at dA5_cX5_addAll 2 rfl
theorem dX5_addAll_5 : decode cX5_addAll 5 = .ok (.getfield 15, 3) := kDec_at dA5_cX5_addAll 3 rfl
theorem dX5_addAll_8 : decode cX5_addAll 8 = .ok (.arraylength, 1) := kDec_at dA5_cX5_addAll 4 rfl
theorem dX5_addAll_9 : decode cX5_addAll 9 = .ok (.aload_n 0, 1) := kDec_at dA5_cX5_addAll 5 rfl
theorem dX5_addAll_10 : decode cX5_addAll 10 = .ok (.getfield 21, 3) := kDec_at dA5_cX5_addAll 6 rfl
theorem dX5_addAll_13 : decode cX5_addAll 13 = .ok (.isub, 1) := kDec_at dA5_cX5_addAll 7 rfl
theorem dX5_addAll_14 : decode cX5_addAll 14 = .ok (.if_icmp .le 5, 3) := kDec_at dA5_cX5_addAll 8 rfl
theorem dX5_addAll_19 : decode cX5_addAll 19 = .ok (.aload_n 1, 1) := kDec_at dA5_cX5_addAll 9 rfl
theorem dX5_addAll_20 : decode cX5_addAll 20 = .ok (.getfield 15, 3) := kDec_at dA5_cX5_addAll 10 rfl
theorem dX5_addAll_23 : decode cX5_addAll 23 = .ok (.iconst 0, 1) := kDec_at dA5_cX5_addAll 11 rfl
theorem dX5_addAll_24 : decode cX5_addAll 24 = .ok (.aload_n 0, 1) := kDec_at dA5_cX5_addAll 12 rfl
theorem dX5_addAll_25 : decode cX5_addAll 25 = .ok (.getfield 15, 3) := kDec_at dA5_cX5_addAll 13 rfl
theorem dX5_addAll_28 : decode cX5_addAll 28 = .ok (.aload_n 0, 1) := kDec_at dA5_cX5_addAll 14 rfl
theorem dX5_addAll_29 : decode cX5_addAll 29 = .ok (.getfield 21, 3) := kDec_at dA5_cX5_addAll 15 rfl
theorem dX5_addAll_32 : decode cX5_addAll 32 = .ok (.aload_n 1, 1) := kDec_at dA5_cX5_addAll 16 rfl
theorem dX5_addAll_33 : decode cX5_addAll 33 = .ok (.getfield 21, 3) := kDec_at dA5_cX5_addAll 17 rfl
theorem dX5_addAll_36 : decode cX5_addAll 36 = .ok (.invokestatic 25, 3) := kDec_at dA5_cX5_addAll 18 rfl
theorem dX5_addAll_39 : decode cX5_addAll 39 = .ok (.aload_n 0, 1) := kDec_at dA5_cX5_addAll 19 rfl
theorem dX5_addAll_40 : decode cX5_addAll 40 = .ok (.dup, 1) := kDec_at dA5_cX5_addAll 20 rfl
theorem dX5_addAll_41 : decode cX5_addAll 41 = .ok (.getfield 21, 3) := kDec_at dA5_cX5_addAll 21 rfl
theorem dX5_addAll_44 : decode cX5_addAll 44 = .ok (.aload_n 1, 1) := kDec_at dA5_cX5_addAll 22 rfl
theorem dX5_addAll_45 : decode cX5_addAll 45 = .ok (.getfield 21, 3) := kDec_at dA5_cX5_addAll 23 rfl
set_option maxRecDepth 100000 in
theorem dA6_cX5_addAll : kDec cX5_addAll [(48, .iadd, 1), (49, .putfield 21, 3), (52, .iconst 1, 1), (53, .ireturn, 1), (17, .iconst 0, 1), (18, .ireturn, 1)] = true := by decide +kernel
theorem dX5_addAll_48 : decode cX5_addAll 48 = .ok (.iadd, 1) := kDec_at dA6_cX5_addAll 0 rfl
theorem dX5_addAll_49 : decode cX5_addAll 49 = .ok (.putfield 21, 3) := kDec_at dA6_cX5_addAll 1 rfl
theorem dX5_addAll_52 : decode cX5_addAll 52 = .ok (.iconst 1, 1) := kDec_at dA6_cX5_addAll 2 rfl
theorem dX5_addAll_53 : decode cX5_addAll 53 = .ok (.ireturn, 1) := kDec_at dA6_cX5_addAll 3 rfl
theorem dX5_addAll_17 : decode cX5_addAll 17 = .ok (.iconst 0, 1) := kDec_at dA6_cX5_addAll 4 rfl
theorem dX5_addAll_18 : decode cX5_addAll 18 = .ok (.ireturn, 1) := kDec_at dA6_cX5_addAll 5 rfl
set_option maxRecDepth 100000 in
theorem dA7_cX5_takeAll : kDec cX5_takeAll [(0, .aload_n 0, 1), (1, .iconst 0, 1), (2, .putfield 21, 3), (5, .aload_n 0, 1), (6, .aload_n 1, 1), (7, .invokevirtual 31, 3), (10, .ireturn, 1)] = true := by decide +kernel
theorem dX5_takeAll_0 : decode cX5_takeAll 0 = .ok (.aload_n 0, 1) := kDec_at dA7_cX5_takeAll 0 rfl
theorem dX5_takeAll_1 : decode cX5_takeAll 1 = .ok (.iconst 0, 1) := kDec_at dA7_cX5_takeAll 1 rfl
theorem dX5_takeAll_2 : decode cX5_takeAll 2 = .ok (.putfield 21, 3) := kDec_at dA7_cX5_takeAll 2 rfl
theorem dX5_takeAll_5 : decode cX5_takeAll 5 = .ok (.aload_n 0, 1) := kDec_at dA7_cX5_takeAll 3 rfl
theorem dX5_takeAll_6 : decode cX5_takeAll 6 = .ok (.aload_n 1, 1) := kDec_at dA7_cX5_takeAll 4 rfl
theorem dX5_takeAll_7 : decode cX5_takeAll 7 = .ok (.invokevirtual 31, 3) := kDec_at dA7_cX5_takeAll 5 rfl
theorem dX5_takeAll_10 : decode cX5_takeAll 10 = .ok (.ireturn, 1) := kDec_at dA7_cX5_takeAll 6 rfl
set_option maxRecDepth 20000 in
theorem ggX5_takeAll_X5_addAll : GoodIn wsX5_takeAll wsX5_addAll := goodIn_r _ [6, 1, 7, 8, 9, 10, 11, 12, 13] rfl (by decide +kernel)
set_option maxRecDepth 20000 in
theorem gX5_takeAll_X5_addAll : GoodIn wsX5_takeAll (wsV RX5 31 RX5 yX5_addAll wsX5_addAll) := goodIn_app (goodIn_r _ [2, 3, 4, 5] rfl (by decide +kernel)) ggX5_takeAll_X5_addAll

end

/-! 20.numbers -/
section
set_option maxHeartbeats 40000000 in
set_option maxRecDepth 100000 in
theorem m_X5_length (l : Launch) (dC : Nat → ClassId) (dI : Nat → Nat → Nat) (cI cS : ClassId) (sz : Nat) (nu : Nat) (au : Nat) (lu : Int32)  : kMi l yX5_length wsX5_length ({ frames := 0, cells := 0, slots := 0, locals := 0 } : Room) [.ref nu] sz (dC, dI) vwCl [(cI, .int), (cS, .short)] [(nu, .inr (5, [.ref au, .int lu]))] (fun _ => True) 0 0 (fun (A : Nat → Prop) (r : Int32) (hh9 : Heap) => kPD (dC, dI) vwCl A [(nu, .inr (5, [.ref au, .int lu]))] hh9 ∧ (r = lu)) := by
  refine kMi_of (cc := cX5_length) (maxL := 1) (ret := (some .int)) (lv := [(0, .ref nu)]) (by decide +kernel) rfl rfl (Nat.le_of_ble_eq_true rfl) ?_
  intro p e s m below meth c A QQ ls hx hb hr hts hml hown hlocks hA hQQ hK hX hP hD hS hl
  have hown : s.vm.findClass RX5 = some m.cls := hown
  have hcf := k_cf hx hb hml hown hts
  have in_X5 : ∀ w ∈ wsX50, w ∈ wsX5_length := fun _ h => List.mem_cons_of_mem _ (List.mem_append_right _ (h))
  refine lv_aload_n hx hb dX5_length_0 rfl (lv_at hl 0 rfl) ?_
  refine va_get (D := (dC, dI)) (ci := 5) (v := .int lu) (C := RX5) (T := TX5) (N := 2) hx hb hts in_X5 hown hK hP 0 rfl rfl 1 (by decide) (hts (.fieldLink RX5 21 "TextMender$Numbers" "length" "I") (List.mem_of_getElem? (i := 1) rfl)) (fun _ h9 => h9) rfl dX5_length_1 ?_
  exact kl_i (v := lu) hQQ hx hb hr hlocks hS dX5_length_4 ⟨⟨hP, hD⟩, rfl⟩

set_option maxHeartbeats 40000000 in
set_option maxRecDepth 100000 in
theorem m_X5_get (l : Launch) (dC : Nat → ClassId) (dI : Nat → Nat → Nat) (cI cS : ClassId) (sz : Nat) (nu : Nat) (au : Nat) (cap : Nat) (lu : Int32) (fu : Nat → Int32) (i : Int32) (g_lu : 0 ≤ lu.toInt ∧ lu.toInt ≤ (cap : Int)) (hcap : cap ≤ 2400) : kMi l yX5_get wsX5_get ({ frames := 0, cells := 0, slots := 0, locals := 0 } : Room) [.ref nu, .int i] sz (dC, dI) vwCl [(cI, .int), (cS, .short)] [(nu, .inr (5, [.ref au, .int lu])), (au, .inl (cI, cap, .inl fu))] (fun _ => True) 0 0 (fun (A : Nat → Prop) (r : Int32) (hh9 : Heap) => kPD (dC, dI) vwCl A [(nu, .inr (5, [.ref au, .int lu])), (au, .inl (cI, cap, .inl fu))] hh9 ∧ (F_get lu i r fu)) := by
  refine kMi_of (cc := cX5_get) (maxL := 2) (ret := (some .int)) (lv := [(0, .ref nu), (1, .int i)]) (by decide +kernel) rfl rfl (Nat.le_of_ble_eq_true rfl) ?_
  intro p e s m below meth c A QQ ls hx hb hr hts hml hown hlocks hA hQQ hK hX hP hD hS hl
  have hown : s.vm.findClass RX5 = some m.cls := hown
  have hcf := k_cf hx hb hml hown hts
  have in_X5 : ∀ w ∈ wsX50, w ∈ wsX5_get := fun _ h => List.mem_cons_of_mem _ (List.mem_append_right _ (h))
  refine lv_iload_n hx hb dX5_get_0 rfl (lv_at hl 1 rfl) ?_
  refine lv_if_lt (tgt := 21) hx hb dX5_get_1 (by decide) (fun c_1 => ?_) (fun c_1 => ?_)
  · have tc_1 : i.toInt < 0 := v_lt c_1
    refine lv_iconst (v := (-1)) hx hb dX5_get_21 (by decide) ?_
    exact kl_i (v := (-1)) hQQ hx hb hr hlocks hS dX5_get_22 ⟨⟨hP, hD⟩, by first | exact Or.inl ⟨by omega, by omega, by assumption⟩ | exact Or.inr ⟨by omega, rfl⟩⟩
  · have tc_1 : 0 ≤ i.toInt := v_nlt c_1
    refine lv_iload_n hx hb dX5_get_4 rfl (lv_at hl 1 rfl) ?_
    refine lv_aload_n hx hb dX5_get_5 rfl (lv_at hl 0 rfl) ?_
    refine va_get (D := (dC, dI)) (ci := 5) (v := .int lu) (C := RX5) (T := TX5) (N := 2) hx hb hts in_X5 hown hK hP 0 rfl rfl 1 (by decide) (hts (.fieldLink RX5 21 "TextMender$Numbers" "length" "I") (List.mem_of_getElem? (i := 1) rfl)) (fun _ h9 => h9) rfl dX5_get_6 ?_
    refine lv_icmp_ge (tgt := 21) hx hb dX5_get_9 (by decide) (fun c_2 => ?_) (fun c_2 => ?_)
    · have tc_2 : lu.toInt ≤ i.toInt := v_le c_2
      have rw2_0 := v_rng i
      refine lv_iconst (v := (-1)) hx hb dX5_get_21 (by decide) ?_
      exact kl_i (v := (-1)) hQQ hx hb hr hlocks hS dX5_get_22 ⟨⟨hP, hD⟩, by first | exact Or.inl ⟨by omega, by omega, by assumption⟩ | exact Or.inr ⟨by omega, rfl⟩⟩
    · have tc_2 : i.toInt < lu.toInt := v_nle c_2
      have rw2_0 := v_rng i
      refine lv_aload_n hx hb dX5_get_12 rfl (lv_at hl 0 rfl) ?_
      refine va_get (D := (dC, dI)) (ci := 5) (v := .ref au) (C := RX5) (T := TX5) (N := 2) hx hb hts in_X5 hown hK hP 0 rfl rfl 0 (by decide) (hts (.fieldLink RX5 15 "TextMender$Numbers" "numbers" "[I") (List.mem_of_getElem? (i := 2) rfl)) (fun _ h9 => h9) rfl dX5_get_13 ?_
      refine lv_iload_n hx hb dX5_get_16 rfl (lv_at hl 1 rfl) ?_
      refine va_iald hx hb hK hP 1 0 rfl rfl (v_in (by omega)) dX5_get_17 ?_
      refine lv_topi (fun x_3 ex_3 => ?_)
      refine lv_goto (tgt := 22) hx hb dX5_get_18 (by decide) ?_
      exact kl_i (v := x_3) hQQ hx hb hr hlocks hS dX5_get_22 ⟨⟨hP, hD⟩, by first | exact Or.inl ⟨by omega, by omega, by assumption⟩ | exact Or.inr ⟨by omega, rfl⟩⟩

set_option maxHeartbeats 40000000 in
set_option maxRecDepth 100000 in
theorem m_X5_add (l : Launch) (dC : Nat → ClassId) (dI : Nat → Nat → Nat) (cI cS : ClassId) (sz : Nat) (nu : Nat) (au : Nat) (cap : Nat) (lu : Int32) (fu : Nat → Int32) (v : Int32) (g_lu : 0 ≤ lu.toInt ∧ lu.toInt ≤ (cap : Int)) (hcap : cap ≤ 2400) : kMi l yX5_add wsX5_add ({ frames := 0, cells := 0, slots := 0, locals := 0 } : Room) [.ref nu, .int v] sz (dC, dI) vwCl [(cI, .int), (cS, .short)] [(nu, .inr (5, [.ref au, .int lu])), (au, .inl (cI, cap, .inl fu))] (fun _ => True) 0 0 (fun (A : Nat → Prop) (r : Int32) (hh9 : Heap) => ∃ (lu' : Int32) (fu' : Nat → Int32), kPD (dC, dI) vwCl A [(nu, .inr (5, [.ref au, .int lu'])), (au, .inl (cI, cap, .inl fu'))] hh9 ∧ (0 ≤ lu'.toInt ∧ lu'.toInt ≤ (cap : Int)) ∧ (0 ≤ r.toInt ∧ r.toInt ≤ 1) ∧ (F_add cap lu lu' r fu fu' v)) := by
  refine kMi_of (cc := cX5_add) (maxL := 2) (ret := (some .boolean)) (lv := [(0, .ref nu), (1, .int v)]) (by decide +kernel) rfl rfl (Nat.le_of_ble_eq_true rfl) ?_
  intro p e s m below meth c A QQ ls hx hb hr hts hml hown hlocks hA hQQ hK hX hP hD hS hl
  have hown : s.vm.findClass RX5 = some m.cls := hown
  have hcf := k_cf hx hb hml hown hts
  have in_X5 : ∀ w ∈ wsX50, w ∈ wsX5_add := fun _ h => List.mem_cons_of_mem _ (List.mem_append_right _ (h))
  refine lv_aload_n hx hb dX5_add_0 rfl (lv_at hl 0 rfl) ?_
  refine va_get (D := (dC, dI)) (ci := 5) (v := .int lu) (C := RX5) (T := TX5) (N := 2) hx hb hts in_X5 hown hK hP 0 rfl rfl 1 (by decide) (hts (.fieldLink RX5 21 "TextMender$Numbers" "length" "I") (List.mem_of_getElem? (i := 1) rfl)) (fun _ h9 => h9) rfl dX5_add_1 ?_
  refine lv_aload_n hx hb dX5_add_4 rfl (lv_at hl 0 rfl) ?_
  refine va_get (D := (dC, dI)) (ci := 5) (v := .ref au) (C := RX5) (T := TX5) (N := 2) hx hb hts in_X5 hown hK hP 0 rfl rfl 0 (by decide) (hts (.fieldLink RX5 15 "TextMender$Numbers" "numbers" "[I") (List.mem_of_getElem? (i := 2) rfl)) (fun _ h9 => h9) rfl dX5_add_5 ?_
  refine va_alen hx hb hK hP 1 0 rfl rfl (v := Int32.ofNat cap) rfl dX5_add_8 ?_
  refine lv_topi (fun x_1 ex_1 => ?_)
  have tx_1 : x_1.toInt = (cap : Int) := by rw [ex_1]; exact v_nat (by omega)
  refine lv_icmp_lt (tgt := 14) hx hb dX5_add_9 (by decide) (fun c_2 => ?_) (fun c_2 => ?_)
  · have tc_2 : lu.toInt < x_1.toInt := v_lt c_2
    refine lv_aload_n hx hb dX5_add_14 rfl (lv_at hl 0 rfl) ?_
    refine va_get (D := (dC, dI)) (ci := 5) (v := .ref au) (C := RX5) (T := TX5) (N := 2) hx hb hts in_X5 hown hK hP 0 rfl rfl 0 (by decide) (hts (.fieldLink RX5 15 "TextMender$Numbers" "numbers" "[I") (List.mem_of_getElem? (i := 2) rfl)) (fun _ h9 => h9) rfl dX5_add_15 ?_
    refine lv_aload_n hx hb dX5_add_18 rfl (lv_at hl 0 rfl) ?_
    refine va_get (D := (dC, dI)) (ci := 5) (v := .int lu) (C := RX5) (T := TX5) (N := 2) hx hb hts in_X5 hown hK hP 0 rfl rfl 1 (by decide) (hts (.fieldLink RX5 21 "TextMender$Numbers" "length" "I") (List.mem_of_getElem? (i := 1) rfl)) (fun _ h9 => h9) rfl dX5_add_19 ?_
    refine lv_iload_n hx hb dX5_add_22 rfl (lv_at hl 1 rfl) ?_
    obtain ⟨f_3, ef_3⟩ : ∃ g : Nat → Int32, g = upd fu (lu : Int32).toNatClampNeg v := ⟨_, rfl⟩
    refine va_iast hx hb hK hP hD hS 1 0 rfl rfl (v_in (by omega)) dX5_add_23 (kWf (g := f_3) (F := fun f_3 => [(nu, .inr (5, [.ref au, .int lu])), (au, .inl (cI, cap, .inl f_3))]) ef_3 rfl (fun H locs hPn hDn hSn => ?_))
    clear hP hD hS
    have hP := hPn
    have hD := hDn
    have hS := hSn
    clear hPn hDn hSn
    refine lv_aload_n hx hb dX5_add_24 rfl (lv_at hl 0 rfl) ?_
    refine lv_dup hx hb dX5_add_25 rfl ?_
    refine va_get (D := (dC, dI)) (ci := 5) (v := .int lu) (C := RX5) (T := TX5) (N := 2) hx hb hts in_X5 hown hK hP 0 rfl rfl 1 (by decide) (hts (.fieldLink RX5 21 "TextMender$Numbers" "length" "I") (List.mem_of_getElem? (i := 1) rfl)) (fun _ h9 => h9) rfl dX5_add_26 ?_
    refine lv_iconst (v := 1) hx hb dX5_add_29 (by decide) ?_
    refine lv_iadd hx hb dX5_add_30 ?_
    refine lv_topi (fun x_4 ex_4 => ?_)
    have tx_4 : x_4.toInt = lu.toInt + 1 := v_add ex_4 (by show -2147483648 ≤ lu.toInt + 1; omega) (by show lu.toInt + 1 < 2147483648; omega)
    refine va_put (D := (dC, dI)) (ci := 5) (v := .int x_4) (ty := .int) (C := RX5) (T := TX5) (N := 2) hx hb hts in_X5 tyX5 tyX5_ok nmX5 hown hK hP hD hS 0 rfl rfl 1 (by decide) (hts (.fieldLink RX5 21 "TextMender$Numbers" "length" "I") (List.mem_of_getElem? (i := 1) rfl)) (fun _ h9 => h9) rfl (by decide +kernel) rfl rfl (Nat.le_of_ble_eq_true rfl) dX5_add_31 (kW (wn := [(nu, .inr (5, [.ref au, .int x_4])), (au, .inl (cI, cap, .inl f_3))]) rfl (fun H locs hPn hDn hSn => ?_))
    clear hP hD hS
    have hP := hPn
    have hD := hDn
    have hS := hSn
    clear hPn hDn hSn
    refine lv_iconst (v := 1) hx hb dX5_add_34 (by decide) ?_
    exact kl_z (v := 1) hQQ hx hb hr hlocks hS dX5_add_35 (rfl) ⟨x_4, f_3, ⟨hP, hD⟩, by omega, by decide, by first | exact Or.inl ⟨by omega, by omega, rfl, by assumption⟩ | exact Or.inr ⟨by omega, rfl, rfl, rfl⟩⟩
  · have tc_2 : x_1.toInt ≤ lu.toInt := v_nlt c_2
    refine lv_iconst (v := 0) hx hb dX5_add_12 (by decide) ?_
    exact kl_z (v := 0) hQQ hx hb hr hlocks hS dX5_add_13 (rfl) ⟨lu, fu, ⟨hP, hD⟩, g_lu, by decide, by first | exact Or.inl ⟨by omega, by omega, rfl, by assumption⟩ | exact Or.inr ⟨by omega, rfl, rfl, rfl⟩⟩

set_option maxHeartbeats 40000000 in
set_option maxRecDepth 100000 in
theorem m_X5_cut (l : Launch) (dC : Nat → ClassId) (dI : Nat → Nat → Nat) (cI cS : ClassId) (sz : Nat) (nu : Nat) (au : Nat) (lu : Int32) (n : Int32) (g_lu : 0 ≤ lu.toInt ∧ lu.toInt ≤ 2147483647) : kMv l yX5_cut wsX5_cut ({ frames := 0, cells := 0, slots := 0, locals := 0 } : Room) [.ref nu, .int n] sz (dC, dI) vwCl [(cI, .int), (cS, .short)] [(nu, .inr (5, [.ref au, .int lu]))] (fun _ => True) 0 0 (fun (A : Nat → Prop) (hh9 : Heap) => ∃ (lu' : Int32), kPD (dC, dI) vwCl A [(nu, .inr (5, [.ref au, .int lu']))] hh9 ∧ (0 ≤ lu'.toInt ∧ lu'.toInt ≤ 2147483647) ∧ (lu'.toInt ≤ lu.toInt) ∧ (F_cut lu lu' n)) := by
  refine kMv_of (cc := cX5_cut) (maxL := 2) (ret := none) (lv := [(0, .ref nu), (1, .int n)]) (by decide +kernel) rfl rfl (Nat.le_of_ble_eq_true rfl) ?_
  intro p e s m below meth c A QQ ls hx hb hr hts hml hown hlocks hA hQQ hK hX hP hD hS hl
  have hown : s.vm.findClass RX5 = some m.cls := hown
  have hcf := k_cf hx hb hml hown hts
  have in_X5 : ∀ w ∈ wsX50, w ∈ wsX5_cut := fun _ h => List.mem_cons_of_mem _ (List.mem_append_right _ (h))
  refine lv_iload_n hx hb dX5_cut_0 rfl (lv_at hl 1 rfl) ?_
  refine lv_if_lt (tgt := 17) hx hb dX5_cut_1 (by decide) (fun c_1 => ?_) (fun c_1 => ?_)
  · have tc_1 : n.toInt < 0 := v_lt c_1
    exact kl_v hQQ hx hb hr hlocks hS dX5_cut_17 ⟨lu, ⟨hP, hD⟩, g_lu, by show lu.toInt ≤ lu.toInt; omega, by first | exact Or.inl ⟨by omega, by omega, rfl⟩ | exact Or.inr ⟨by omega, rfl⟩⟩
  · have tc_1 : 0 ≤ n.toInt := v_nlt c_1
    refine lv_iload_n hx hb dX5_cut_4 rfl (lv_at hl 1 rfl) ?_
    refine lv_aload_n hx hb dX5_cut_5 rfl (lv_at hl 0 rfl) ?_
    refine va_get (D := (dC, dI)) (ci := 5) (v := .int lu) (C := RX5) (T := TX5) (N := 2) hx hb hts in_X5 hown hK hP 0 rfl rfl 1 (by decide) (hts (.fieldLink RX5 21 "TextMender$Numbers" "length" "I") (List.mem_of_getElem? (i := 1) rfl)) (fun _ h9 => h9) rfl dX5_cut_6 ?_
    refine lv_icmp_ge (tgt := 17) hx hb dX5_cut_9 (by decide) (fun c_2 => ?_) (fun c_2 => ?_)
    · have tc_2 : lu.toInt ≤ n.toInt := v_le c_2
      have rw2_0 := v_rng n
      have rw2_1 := v_rng lu
      exact kl_v hQQ hx hb hr hlocks hS dX5_cut_17 ⟨lu, ⟨hP, hD⟩, g_lu, by show lu.toInt ≤ lu.toInt; omega, by first | exact Or.inl ⟨by omega, by omega, rfl⟩ | exact Or.inr ⟨by omega, rfl⟩⟩
    · have tc_2 : n.toInt < lu.toInt := v_nle c_2
      have rw2_0 := v_rng n
      have rw2_1 := v_rng lu
      refine lv_aload_n hx hb dX5_cut_12 rfl (lv_at hl 0 rfl) ?_
      refine lv_iload_n hx hb dX5_cut_13 rfl (lv_at hl 1 rfl) ?_
      refine va_put (D := (dC, dI)) (ci := 5) (v := .int n) (ty := .int) (C := RX5) (T := TX5) (N := 2) hx hb hts in_X5 tyX5 tyX5_ok nmX5 hown hK hP hD hS 0 rfl rfl 1 (by decide) (hts (.fieldLink RX5 21 "TextMender$Numbers" "length" "I") (List.mem_of_getElem? (i := 1) rfl)) (fun _ h9 => h9) rfl (by decide +kernel) rfl rfl (Nat.le_of_ble_eq_true rfl) dX5_cut_14 (kW (wn := [(nu, .inr (5, [.ref au, .int n]))]) rfl (fun H locs hPn hDn hSn => ?_))
      clear hP hD hS
      have hP := hPn
      have hD := hDn
      have hS := hSn
      clear hPn hDn hSn
      exact kl_v hQQ hx hb hr hlocks hS dX5_cut_17 ⟨n, ⟨hP, hD⟩, by omega, by show n.toInt ≤ lu.toInt; omega, by first | exact Or.inl ⟨by omega, by omega, rfl⟩ | exact Or.inr ⟨by omega, rfl⟩⟩

set_option maxHeartbeats 40000000 in
set_option maxRecDepth 100000 in
theorem m_X5_addAll (l : Launch) (dC : Nat → ClassId) (dI : Nat → Nat → Nat) (cI cS : ClassId) (sz : Nat) (nu : Nat) (no : Nat) (au : Nat) (ao : Nat) (cap : Nat) (co : Nat) (lu : Int32) (fu : Nat → Int32) (lo : Int32) (fo : Nat → Int32) (g_lu : 0 ≤ lu.toInt ∧ lu.toInt ≤ (cap : Int)) (g_lo : 0 ≤ lo.toInt ∧ lo.toInt ≤ (co : Int)) (hcap : cap ≤ 2400) (hco : co ≤ 2400) : kMi l yX5_addAll wsX5_addAll ({ frames := 1, cells := 0, slots := 0, locals := 48 } : Room) [.ref nu, .ref no] sz (dC, dI) vwCl [(cI, .int), (cS, .short)] [(nu, .inr (5, [.ref au, .int lu])), (au, .inl (cI, cap, .inl fu)), (no, .inr (5, [.ref ao, .int lo])), (ao, .inl (cI, co, .inl fo))] (fun _ => True) 0 0 (fun (A : Nat → Prop) (r : Int32) (hh9 : Heap) => ∃ (lu' : Int32) (fu' : Nat → Int32), kPD (dC, dI) vwCl A [(nu, .inr (5, [.ref au, .int lu'])), (au, .inl (cI, cap, .inl fu')), (no, .inr (5, [.ref ao, .int lo])), (ao, .inl (cI, co, .inl fo))] hh9 ∧ (0 ≤ lu'.toInt ∧ lu'.toInt ≤ (cap : Int)) ∧ (0 ≤ r.toInt ∧ r.toInt ≤ 1) ∧ (F_addAll cap lu lu' lo r fu fu' fo)) := by
  refine kMi_of (cc := cX5_addAll) (maxL := 2) (ret := (some .boolean)) (lv := [(0, .ref nu), (1, .ref no)]) (by decide +kernel) rfl rfl (Nat.le_of_ble_eq_true rfl) ?_
  intro p e s m below meth c A QQ ls hx hb hr hts hml hown hlocks hA hQQ hK hX hP hD hS hl
  have hown : s.vm.findClass RX5 = some m.cls := hown
  have hcf := k_cf hx hb hml hown hts
  have in_X5 : ∀ w ∈ wsX50, w ∈ wsX5_addAll := fun _ h => List.mem_cons_of_mem _ (List.mem_append_right _ (h))
  refine lv_aload_n hx hb dX5_addAll_0 rfl (lv_at hl 1 rfl) ?_
  refine va_get (D := (dC, dI)) (ci := 5) (v := .int lo) (C := RX5) (T := TX5) (N := 2) hx hb hts in_X5 hown hK hP 2 rfl rfl 1 (by decide) (hts (.fieldLink RX5 21 "TextMender$Numbers" "length" "I") (List.mem_of_getElem? (i := 1) rfl)) (fun _ h9 => h9) rfl dX5_addAll_1 ?_
  refine lv_aload_n hx hb dX5_addAll_4 rfl (lv_at hl 0 rfl) ?_
  refine va_get (D := (dC, dI)) (ci := 5) (v := .ref au) (C := RX5) (T := TX5) (N := 2) hx hb hts in_X5 hown hK hP 0 rfl rfl 0 (by decide) (hts (.fieldLink RX5 15 "TextMender$Numbers" "numbers" "[I") (List.mem_of_getElem? (i := 2) rfl)) (fun _ h9 => h9) rfl dX5_addAll_5 ?_
  refine va_alen hx hb hK hP 1 0 rfl rfl (v := Int32.ofNat cap) rfl dX5_addAll_8 ?_
  refine lv_topi (fun x_1 ex_1 => ?_)
  have tx_1 : x_1.toInt = (cap : Int) := by rw [ex_1]; exact v_nat (by omega)
  refine lv_aload_n hx hb dX5_addAll_9 rfl (lv_at hl 0 rfl) ?_
  refine va_get (D := (dC, dI)) (ci := 5) (v := .int lu) (C := RX5) (T := TX5) (N := 2) hx hb hts in_X5 hown hK hP 0 rfl rfl 1 (by decide) (hts (.fieldLink RX5 21 "TextMender$Numbers" "length" "I") (List.mem_of_getElem? (i := 1) rfl)) (fun _ h9 => h9) rfl dX5_addAll_10 ?_
  refine lv_isub hx hb dX5_addAll_13 ?_
  refine lv_topi (fun x_2 ex_2 => ?_)
  have tx_2 : x_2.toInt = x_1.toInt - lu.toInt := v_sub ex_2 (by show -2147483648 ≤ x_1.toInt - lu.toInt; omega) (by show x_1.toInt - lu.toInt < 2147483648; omega)
  refine lv_icmp_le (tgt := 19) hx hb dX5_addAll_14 (by decide) (fun c_3 => ?_) (fun c_3 => ?_)
  · have tc_3 : lo.toInt ≤ x_2.toInt := v_le c_3
    refine lv_aload_n hx hb dX5_addAll_19 rfl (lv_at hl 1 rfl) ?_
    refine va_get (D := (dC, dI)) (ci := 5) (v := .ref ao) (C := RX5) (T := TX5) (N := 2) hx hb hts in_X5 hown hK hP 2 rfl rfl 0 (by decide) (hts (.fieldLink RX5 15 "TextMender$Numbers" "numbers" "[I") (List.mem_of_getElem? (i := 2) rfl)) (fun _ h9 => h9) rfl dX5_addAll_20 ?_
    refine lv_iconst (v := 0) hx hb dX5_addAll_23 (by decide) ?_
    refine lv_aload_n hx hb dX5_addAll_24 rfl (lv_at hl 0 rfl) ?_
    refine va_get (D := (dC, dI)) (ci := 5) (v := .ref au) (C := RX5) (T := TX5) (N := 2) hx hb hts in_X5 hown hK hP 0 rfl rfl 0 (by decide) (hts (.fieldLink RX5 15 "TextMender$Numbers" "numbers" "[I") (List.mem_of_getElem? (i := 2) rfl)) (fun _ h9 => h9) rfl dX5_addAll_25 ?_
    refine lv_aload_n hx hb dX5_addAll_28 rfl (lv_at hl 0 rfl) ?_
    refine va_get (D := (dC, dI)) (ci := 5) (v := .int lu) (C := RX5) (T := TX5) (N := 2) hx hb hts in_X5 hown hK hP 0 rfl rfl 1 (by decide) (hts (.fieldLink RX5 21 "TextMender$Numbers" "length" "I") (List.mem_of_getElem? (i := 1) rfl)) (fun _ h9 => h9) rfl dX5_addAll_29 ?_
    refine lv_aload_n hx hb dX5_addAll_32 rfl (lv_at hl 1 rfl) ?_
    refine va_get (D := (dC, dI)) (ci := 5) (v := .int lo) (C := RX5) (T := TX5) (N := 2) hx hb hts in_X5 hown hK hP 2 rfl rfl 1 (by decide) (hts (.fieldLink RX5 21 "TextMender$Numbers" "length" "I") (List.mem_of_getElem? (i := 1) rfl)) (fun _ h9 => h9) rfl dX5_addAll_33 ?_
    obtain ⟨f_4, ef_4⟩ : ∃ g : Nat → Int32, g = va_cpy fo fu (0 : Int32).toNatClampNeg (lu : Int32).toNatClampNeg (lo : Int32).toNatClampNeg := ⟨_, rfl⟩
    refine va_copyi hx hb (by rw [hml]; exact hl.1.symm) hown (hts (.methodLink RX5 25 arraycopyName) (List.mem_of_getElem? (i := 3) rfl)) (hts (.native arraycopyName) (List.mem_of_getElem? (i := 4) rfl)) (hts (.static arraycopyName) (List.mem_of_getElem? (i := 5) rfl)) (hts (.initialized "java/lang/System") (List.mem_of_getElem? (i := 6) rfl)) hK hP hD hS 3 1 0 0 rfl rfl rfl rfl rfl (by decide) (v_nneg (by omega)) (v_nneg (by omega)) (v_cp (by decide) (by omega) (by show (0 : Int) + _ ≤ _; omega)) (v_cp (by omega) (by omega) (by omega)) (fun i hi => rfl) (Nat.le_of_ble_eq_true rfl) (Nat.le_of_ble_eq_true rfl) dX5_addAll_36 (kWf (g := f_4) (F := fun f_4 => [(nu, .inr (5, [.ref au, .int lu])), (au, .inl (cI, cap, .inl f_4)), (no, .inr (5, [.ref ao, .int lo])), (ao, .inl (cI, co, .inl fo))]) ef_4 rfl (fun H locs hPn hDn hSn => ?_))
    clear hP hD hS
    have hP := hPn
    have hD := hDn
    have hS := hSn
    clear hPn hDn hSn
    refine lv_aload_n hx hb dX5_addAll_39 rfl (lv_at hl 0 rfl) ?_
    refine lv_dup hx hb dX5_addAll_40 rfl ?_
    refine va_get (D := (dC, dI)) (ci := 5) (v := .int lu) (C := RX5) (T := TX5) (N := 2) hx hb hts in_X5 hown hK hP 0 rfl rfl 1 (by decide) (hts (.fieldLink RX5 21 "TextMender$Numbers" "length" "I") (List.mem_of_getElem? (i := 1) rfl)) (fun _ h9 => h9) rfl dX5_addAll_41 ?_
    refine lv_aload_n hx hb dX5_addAll_44 rfl (lv_at hl 1 rfl) ?_
    refine va_get (D := (dC, dI)) (ci := 5) (v := .int lo) (C := RX5) (T := TX5) (N := 2) hx hb hts in_X5 hown hK hP 2 rfl rfl 1 (by decide) (hts (.fieldLink RX5 21 "TextMender$Numbers" "length" "I") (List.mem_of_getElem? (i := 1) rfl)) (fun _ h9 => h9) rfl dX5_addAll_45 ?_
    refine lv_iadd hx hb dX5_addAll_48 ?_
    refine lv_topi (fun x_5 ex_5 => ?_)
    have tx_5 : x_5.toInt = lu.toInt + lo.toInt := v_add ex_5 (by show -2147483648 ≤ lu.toInt + lo.toInt; omega) (by show lu.toInt + lo.toInt < 2147483648; omega)
    refine va_put (D := (dC, dI)) (ci := 5) (v := .int x_5) (ty := .int) (C := RX5) (T := TX5) (N := 2) hx hb hts in_X5 tyX5 tyX5_ok nmX5 hown hK hP hD hS 0 rfl rfl 1 (by decide) (hts (.fieldLink RX5 21 "TextMender$Numbers" "length" "I") (List.mem_of_getElem? (i := 1) rfl)) (fun _ h9 => h9) rfl (by decide +kernel) rfl rfl (Nat.le_of_ble_eq_true rfl) dX5_addAll_49 (kW (wn := [(nu, .inr (5, [.ref au, .int x_5])), (au, .inl (cI, cap, .inl f_4)), (no, .inr (5, [.ref ao, .int lo])), (ao, .inl (cI, co, .inl fo))]) rfl (fun H locs hPn hDn hSn => ?_))
    clear hP hD hS
    have hP := hPn
    have hD := hDn
    have hS := hSn
    clear hPn hDn hSn
    refine lv_iconst (v := 1) hx hb dX5_addAll_52 (by decide) ?_
    exact kl_z (v := 1) hQQ hx hb hr hlocks hS dX5_addAll_53 (rfl) ⟨x_5, f_4, ⟨hP, hD⟩, by omega, by decide, by first | exact Or.inl ⟨by omega, by omega, rfl, by assumption⟩ | exact Or.inr ⟨by omega, rfl, rfl, rfl⟩⟩
  · have tc_3 : x_2.toInt < lo.toInt := v_nle c_3
    refine lv_iconst (v := 0) hx hb dX5_addAll_17 (by decide) ?_
    exact kl_z (v := 0) hQQ hx hb hr hlocks hS dX5_addAll_18 (rfl) ⟨lu, fu, ⟨hP, hD⟩, g_lu, by decide, by first | exact Or.inl ⟨by omega, by omega, rfl, by assumption⟩ | exact Or.inr ⟨by omega, rfl, rfl, rfl⟩⟩

set_option maxHeartbeats 40000000 in
set_option maxRecDepth 100000 in
theorem m_X5_takeAll (l : Launch) (dC : Nat → ClassId) (dI : Nat → Nat → Nat) (cI cS : ClassId) (sz : Nat) (nu : Nat) (no : Nat) (au : Nat) (ao : Nat) (cap : Nat) (co : Nat) (lu : Int32) (fu : Nat → Int32) (lo : Int32) (fo : Nat → Int32) (g_lu : 0 ≤ lu.toInt ∧ lu.toInt ≤ (cap : Int)) (g_lo : 0 ≤ lo.toInt ∧ lo.toInt ≤ (co : Int)) (hcap : cap ≤ 2400) (hco : co ≤ 2400) : kMi l yX5_takeAll wsX5_takeAll ({ frames := 2, cells := 0, slots := 0, locals := 69 } : Room) [.ref nu, .ref no] sz (dC, dI) vwCl [(cI, .int), (cS, .short)] [(nu, .inr (5, [.ref au, .int lu])), (au, .inl (cI, cap, .inl fu)), (no, .inr (5, [.ref ao, .int lo])), (ao, .inl (cI, co, .inl fo))] (fun _ => True) 0 0 (fun (A : Nat → Prop) (r : Int32) (hh9 : Heap) => ∃ (lu' : Int32) (fu' : Nat → Int32), kPD (dC, dI) vwCl A [(nu, .inr (5, [.ref au, .int lu'])), (au, .inl (cI, cap, .inl fu')), (no, .inr (5, [.ref ao, .int lo])), (ao, .inl (cI, co, .inl fo))] hh9 ∧ (0 ≤ lu'.toInt ∧ lu'.toInt ≤ (cap : Int)) ∧ (0 ≤ r.toInt ∧ r.toInt ≤ 1) ∧ (F_addAll cap 0 lu' lo r fu fu' fo)) := by
  refine kMi_of (cc := cX5_takeAll) (maxL := 2) (ret := (some .boolean)) (lv := [(0, .ref nu), (1, .ref no)]) (by decide +kernel) rfl rfl (Nat.le_of_ble_eq_true rfl) ?_
  intro p e s m below meth c A QQ ls hx hb hr hts hml hown hlocks hA hQQ hK hX hP hD hS hl
  have hown : s.vm.findClass RX5 = some m.cls := hown
  have hcf := k_cf hx hb hml hown hts
  have in_X5 : ∀ w ∈ wsX50, w ∈ wsX5_takeAll := fun _ h => List.mem_cons_of_mem _ (List.mem_append_right _ (h))
  refine lv_aload_n hx hb dX5_takeAll_0 rfl (lv_at hl 0 rfl) ?_
  refine lv_iconst (v := 0) hx hb dX5_takeAll_1 (by decide) ?_
  refine va_put (D := (dC, dI)) (ci := 5) (v := .int 0) (ty := .int) (C := RX5) (T := TX5) (N := 2) hx hb hts in_X5 tyX5 tyX5_ok nmX5 hown hK hP hD hS 0 rfl rfl 1 (by decide) (hts (.fieldLink RX5 21 "TextMender$Numbers" "length" "I") (List.mem_of_getElem? (i := 1) rfl)) (fun _ h9 => h9) rfl (by decide +kernel) rfl rfl (Nat.le_of_ble_eq_true rfl) dX5_takeAll_2 (kW (wn := [(nu, .inr (5, [.ref au, .int 0])), (au, .inl (cI, cap, .inl fu)), (no, .inr (5, [.ref ao, .int lo])), (ao, .inl (cI, co, .inl fo))]) rfl (fun H locs hPn hDn hSn => ?_))
  clear hP hD hS
  have hP := hPn
  have hD := hDn
  have hS := hSn
  clear hPn hDn hSn
  refine lv_aload_n hx hb dX5_takeAll_5 rfl (lv_at hl 0 rfl) ?_
  refine lv_aload_n hx hb dX5_takeAll_6 rfl (lv_at hl 1 rfl) ?_
  refine kV_i (rest := []) (q0 := 0) (ci := 5) hcf (m_X5_addAll l dC dI cI cS H.size nu no au ao cap co 0 fu lo fo (by show 0 ≤ (0 : Int) ∧ (0 : Int) ≤ (cap : Int); omega) (g_lo) (by omega) (by omega)) kc_X5_addAll gX5_takeAll_X5_addAll rfl rfl rfl ⟨Nat.le_of_ble_eq_true rfl, Nat.le_of_ble_eq_true rfl⟩ kX_t hK hP hD hS hA [0, 1, 2, 3] [] rfl (by decide +kernel) rfl rfl rfl hl rfl (Nat.le_of_ble_eq_true rfl) dX5_takeAll_7 ⟨Nat.le_of_ble_eq_true rfl, Nat.le_of_ble_eq_true rfl⟩ (fun r_1 H locs hB hJ hSn => ?_)
  obtain ⟨lu_1, fu_1, ⟨hP1, hD1⟩, hf1_0, hf1_1, hf1_2⟩ := hB
  obtain ⟨hPn, hDn⟩ := hJ _ hP1 hD1 [(nu, .inr (5, [.ref au, .int lu_1])), (au, .inl (cI, cap, .inl fu_1)), (no, .inr (5, [.ref ao, .int lo])), (ao, .inl (cI, co, .inl fo))] rfl
  clear hP hD hS hJ hP1 hD1
  have hP := hPn
  have hD := hDn
  have hS := hSn
  clear hPn hDn hSn
  exact kl_z (v := r_1) hQQ hx hb hr hlocks hS dX5_takeAll_10 (v_bool (by omega)) ⟨lu_1, fu_1, ⟨hP, hD⟩, hf1_0, hf1_1, hf1_2⟩

end

/-! 22.a.rows -/
section
set_option maxRecDepth 100000 in
theorem dA8_cJ7_fill_53178 : kDec cJ7_fill_53178 [(0, .iconst 0, 1), (1, .istore_n 2, 1), (2, .aload_n 0, 1), (3, .arraylength, 1), (4, .istore_n 3, 1), (5, .iload_n 2, 1), (6, .iload_n 3, 1), (7, .if_icmp .ge 13, 3), (20, .return_, 1), (10, .aload_n 0, 1), (11, .iload_n 2, 1), (12, .iload_n 1, 1), (13, .iastore, 1), (14, .iinc 2 1, 3), (17, .goto (-12), 3)] = true := by decide +kernel
theorem dJ7_fill_53178_0 : decode cJ7_fill_53178 0 = .ok (.iconst 0, 1) := kDec_at dA8_cJ7_fill_53178 0 rfl
theorem dJ7_fill_53178_1 : decode cJ7_fill_53178 1 = .ok (.istore_n 2, 1) := kDec_at dA8_cJ7_fill_53178 1 rfl
theorem dJ7_fill_53178_2 : decode cJ7_fill_53178 2 = .ok (.aload_n 0, 1) := kDec_at dA8_cJ7_fill_53178 2 rfl
theorem dJ7_fill_53178_3 : decode cJ7_fill_53178 3 = .ok (.arraylength, 1) := kDec_at dA8_cJ7_fill_53178 3 rfl
theorem dJ7_fill_53178_4 : decode cJ7_fill_53178 4 = .ok (.istore_n 3, 1) := kDec_at dA8_cJ7_fill_53178 4 rfl
theorem dJ7_fill_53178_5 : decode cJ7_fill_53178 5 = .ok (.iload_n 2, 1) := kDec_at dA8_cJ7_fill_53178 5 rfl
theorem dJ7_fill_53178_6 : decode cJ7_fill_53178 6 = .ok (.iload_n 3, 1) := kDec_at dA8_cJ7_fill_53178 6 rfl
theorem dJ7_fill_53178_7 : decode cJ7_fill_53178 7 = .ok (.if_icmp .ge 13, 3) := kDec_at dA8_cJ7_fill_53178 7 rfl
theorem dJ7_fill_53178_20 : decode cJ7_fill_53178 20 = .ok (.return_, 1) := kDec_at dA8_cJ7_fill_53178 8 rfl
theorem dJ7_fill_53178_10 : decode cJ7_fill_53178 10 = .ok (.aload_n 0, 1) := kDec_at dA8_cJ7_fill_53178 9 rfl
theorem dJ7_fill_53178_11 : decode cJ7_fill_53178 11 = .ok (.iload_n 2, 1) := kDec_at dA8_cJ7_fill_53178 10 rfl
theorem dJ7_fill_53178_12 : decode cJ7_fill_53178 12 = .ok (.iload_n 1, 1) := kDec_at dA8_cJ7_fill_53178 11 rfl
theorem dJ7_fill_53178_13 : decode cJ7_fill_53178 13 = .ok (.iastore, 1) := kDec_at dA8_cJ7_fill_53178 12 rfl
theorem dJ7_fill_53178_14 : decode cJ7_fill_53178 14 = .ok (.iinc 2 1, 3) := kDec_at dA8_cJ7_fill_53178 13 rfl
theorem dJ7_fill_53178_17 : decode cJ7_fill_53178 17 = .ok (.goto (-12), 3) := kDec_at dA8_cJ7_fill_53178 14 rfl
set_option maxRecDepth 100000 in
theorem dA9_cX10_length : kDec cX10_length [(0, .aload_n 0, 1), (1, .getfield 27, 3), (4, .ireturn, 1)] = true := by decide +kernel
theorem dX10_length_0 : decode cX10_length 0 = .ok (.aload_n 0, 1) := kDec_at dA9_cX10_length 0 rfl
theorem dX10_length_1 : decode cX10_length 1 = .ok (.getfield 27, 3) := kDec_at dA9_cX10_length 1 rfl
theorem dX10_length_4 : decode cX10_length 4 = .ok (.ireturn, 1) := kDec_at dA9_cX10_length 2 rfl
set_option maxRecDepth 100000 in
theorem dA10_cX10_empty : kDec cX10_empty [(0, .aload_n 0, 1), (1, .getfield 9, 3), (4, .iconst (-1), 1), (5, .invokestatic 21, 3), (8, .aload_n 0, 1), (9, .getfield 18, 3), (12, .iconst (-1), 1), (13, .invokestatic 21, 3), (16, .aload_n 0, 1), (17, .iconst 0, 1), (18, .putfield 27, 3), (21, .return_, 1)] = true := by decide +kernel
theorem dX10_empty_0 : decode cX10_empty 0 = .ok (.aload_n 0, 1) := kDec_at dA10_cX10_empty 0 rfl
theorem dX10_empty_1 : decode cX10_empty 1 = .ok (.getfield 9, 3) := kDec_at dA10_cX10_empty 1 rfl
theorem dX10_empty_4 : decode cX10_empty 4 = .ok (.iconst (-1), 1) := kDec_at dA10_cX10_empty 2 rfl
theorem dX10_empty_5 : decode cX10_empty 5 = .ok (.invokestatic 21, 3) := kDec_at dA10_cX10_empty 3 rfl
theorem dX10_empty_8 : decode cX10_empty 8 = .ok (.aload_n 0, 1) := kDec_at dA10_cX10_empty 4 rfl
theorem dX10_empty_9 : decode cX10_empty 9 = .ok (.getfield 18, 3) := kDec_at dA10_cX10_empty 5 rfl
theorem dX10_empty_12 : decode cX10_empty 12 = .ok (.iconst (-1), 1) := kDec_at dA10_cX10_empty 6 rfl
theorem dX10_empty_13 : decode cX10_empty 13 = .ok (.invokestatic 21, 3) := kDec_at dA10_cX10_empty 7 rfl
theorem dX10_empty_16 : decode cX10_empty 16 = .ok (.aload_n 0, 1) := kDec_at dA10_cX10_empty 8 rfl
theorem dX10_empty_17 : decode cX10_empty 17 = .ok (.iconst 0, 1) := kDec_at dA10_cX10_empty 9 rfl
theorem dX10_empty_18 : decode cX10_empty 18 = .ok (.putfield 27, 3) := kDec_at dA10_cX10_empty 10 rfl
theorem dX10_empty_21 : decode cX10_empty 21 = .ok (.return_, 1) := kDec_at dA10_cX10_empty 11 rfl
set_option maxRecDepth 20000 in
theorem ggX10_empty_J7_fill_53178 : GoodIn wsX10_empty wsJ7_fill_53178 := goodIn_r _ [7] rfl (by decide +kernel)
set_option maxRecDepth 20000 in
theorem gX10_empty_J7_fill_53178 : GoodIn wsX10_empty (va_wsS RX10 21 yJ7_fill_53178 wsJ7_fill_53178) := goodIn_app (goodIn_r _ [4, 5, 6] rfl (by decide +kernel)) ggX10_empty_J7_fill_53178
set_option maxRecDepth 100000 in
theorem dA11_cX10_letterFor : kDec cX10_letterFor [(0, .iload_n 1, 1), (1, .ifCond .lt 19, 3), (20, .iconst (-1), 1), (21, .ireturn, 1), (4, .iload_n 1, 1), (5, .sipush 256, 3), (8, .if_icmp .ge 12, 3), (11, .aload_n 0, 1), (12, .getfield 9, 3), (15, .iload_n 1, 1), (16, .iaload, 1), (17, .goto 4, 3)] = true := by decide +kernel
theorem dX10_letterFor_0 : decode cX10_letterFor 0 = .ok (.iload_n 1, 1) := kDec_at dA11_cX10_letterFor 0 rfl
theorem dX10_letterFor_1 : decode cX10_letterFor 1 = .ok (.ifCond .lt 19, 3) := kDec_at dA11_cX10_letterFor 1 rfl
theorem dX10_letterFor_20 : decode cX10_letterFor 20 = .ok (.iconst (-1), 1) := kDec_at dA11_cX10_letterFor 2 rfl
theorem dX10_letterFor_21 : decode cX10_letterFor 21 = .ok (.ireturn, 1) := kDec_at dA11_cX10_letterFor 3 rfl
theorem dX10_letterFor_4 : decode cX10_letterFor 4 = .ok (.iload_n 1, 1) := kDec_at dA11_cX10_letterFor 4 rfl
theorem dX10_letterFor_5 : decode cX10_letterFor 5 = .ok (.sipush 256, 3) := kDec_at dA11_cX10_letterFor 5 rfl
theorem dX10_letterFor_8 : decode cX10_letterFor 8 = .ok (.if_icmp .ge 12, 3) := kDec_at dA11_cX10_letterFor 6 rfl
theorem dX10_letterFor_11 : decode cX10_letterFor 11 = .ok (.aload_n 0, 1) := kDec_at dA11_cX10_letterFor 7 rfl
theorem dX10_letterFor_12 : decode cX10_letterFor 12 = .ok (.getfield 9, 3) := kDec_at dA11_cX10_letterFor 8 rfl
theorem dX10_letterFor_15 : decode cX10_letterFor 15 = .ok (.iload_n 1, 1) := kDec_at dA11_cX10_letterFor 9 rfl
theorem dX10_letterFor_16 : decode cX10_letterFor 16 = .ok (.iaload, 1) := kDec_at dA11_cX10_letterFor 10 rfl
theorem dX10_letterFor_17 : decode cX10_letterFor 17 = .ok (.goto 4, 3) := kDec_at dA11_cX10_letterFor 11 rfl
set_option maxRecDepth 100000 in
theorem dA12_cX10_placeFor : kDec cX10_placeFor [(0, .iload_n 1, 1), (1, .ldc 45, 2), (3, .imul, 1), (4, .bipush 23, 2), (6, .iushr, 1), (7, .istore_n 2, 1), (8, .iconst 0, 1), (9, .istore_n 3, 1), (10, .iload_n 3, 1), (11, .sipush 512, 3), (14, .if_icmp .ge 43, 3), (57, .iconst (-1), 1), (58, .ireturn, 1), (17, .iload_n 2, 1), (18, .iload_n 3, 1), (19, .iadd, 1), (20, .sipush 511, 3), (23, .iand, 1), (24, .istore 4, 2), (26, .aload_n 0, 1), (27, .getfield 18, 3), (30, .iload 4, 2), (32, .iaload, 1), (33, .iconst (-1), 1)] = true := by decide +kernel
theorem dX10_placeFor_0 : decode cX10_placeFor 0 = .ok (.iload_n 1, 1) := kDec_at dA12_cX10_placeFor 0 rfl
theorem dX10_placeFor_1 : decode cX10_placeFor 1 = .ok (.ldc 45, 2) := kDec_at dA12_cX10_placeFor 1 rfl
theorem dX10_placeFor_3 : decode cX10_placeFor 3 = .ok (.imul, 1) := kDec_at dA12_cX10_placeFor 2 rfl
theorem dX10_placeFor_4 : decode cX10_placeFor 4 = .ok (.bipush 23, 2) := kDec_at dA12_cX10_placeFor 3 rfl
theorem dX10_placeFor_6 : decode cX10_placeFor 6 = .ok (.iushr, 1) := kDec_at dA12_cX10_placeFor 4 rfl
theorem dX10_placeFor_7 : decode cX10_placeFor 7 = .ok (.istore_n 2, 1) := kDec_at dA12_cX10_placeFor 5 rfl
theorem dX10_placeFor_8 : decode cX10_placeFor 8 = .ok (.iconst 0, 1) := kDec_at dA12_cX10_placeFor 6 rfl
theorem dX10_placeFor_9 : decode cX10_placeFor 9 = .ok (.istore_n 3, 1) := kDec_at dA12_cX10_placeFor 7 rfl
theorem dX10_placeFor_10 : decode cX10_placeFor 10 = .ok (.iload_n 3, 1) := kDec_at dA12_cX10_placeFor 8 rfl
theorem dX10_placeFor_11 : decode cX10_placeFor 11 = .ok (.sipush 512, 3) := kDec_at dA12_cX10_placeFor 9 rfl
theorem dX10_placeFor_14 : decode cX10_placeFor 14 = .ok (.if_icmp .ge 43, 3) := kDec_at dA12_cX10_placeFor 10 rfl
theorem dX10_placeFor_57 : decode cX10_placeFor 57 = .ok (.iconst (-1), 1) := kDec_at dA12_cX10_placeFor 11 rfl
theorem dX10_placeFor_58 : decode cX10_placeFor 58 = .ok (.ireturn, 1) := kDec_at dA12_cX10_placeFor 12 rfl
theorem dX10_placeFor_17 : decode cX10_placeFor 17 = .ok (.iload_n 2, 1) := kDec_at dA12_cX10_placeFor 13 rfl
theorem dX10_placeFor_18 : decode cX10_placeFor 18 = .ok (.iload_n 3, 1) := kDec_at dA12_cX10_placeFor 14 rfl
theorem dX10_placeFor_19 : decode cX10_placeFor 19 = .ok (.iadd, 1) := kDec_at dA12_cX10_placeFor 15 rfl
theorem dX10_placeFor_20 : decode cX10_placeFor 20 = .ok (.sipush 511, 3) := kDec_at dA12_cX10_placeFor 16 rfl
theorem dX10_placeFor_23 : decode cX10_placeFor 23 = .ok (.iand, 1) := kDec_at dA12_cX10_placeFor 17 rfl
theorem dX10_placeFor_24 : decode cX10_placeFor 24 = .ok (.istore 4, 2) := kDec_at dA12_cX10_placeFor 18 rfl
theorem dX10_placeFor_26 : decode cX10_placeFor 26 = .ok (.aload_n 0, 1) := kDec_at dA12_cX10_placeFor 19 rfl
theorem dX10_placeFor_27 : decode cX10_placeFor 27 = .ok (.getfield 18, 3) := kDec_at dA12_cX10_placeFor 20 rfl
theorem dX10_placeFor_30 : decode cX10_placeFor 30 = .ok (.iload 4, 2) := kDec_at dA12_cX10_placeFor 21 rfl
theorem dX10_placeFor_32 : decode cX10_placeFor 32 = .ok (.iaload, 1) := kDec_at dA12_cX10_placeFor 22 rfl
theorem dX10_placeFor_33 : decode cX10_placeFor 33 = .ok (.iconst (-1), 1) := kDec_at dA12_cX10_placeFor 23 rfl
set_option maxRecDepth 100000 in
theorem dA13_cX10_placeFor : kDec cX10_placeFor [(34, .if_icmp .eq 14, 3), (48, .iload 4, 2), (50, .ireturn, 1), (37, .aload_n 0, 1), (38, .getfield 15, 3), (41, .iload 4, 2), (43, .iaload, 1), (44, .iload_n 1, 1), (45, .if_icmp .ne 6, 3), (51, .iinc 3 1, 3), (54, .goto (-44), 3)] = true := by decide +kernel
theorem dX10_placeFor_34 : decode cX10_placeFor 34 = .ok (.if_icmp .eq 14, 3) := kDec_at dA13_cX10_placeFor 0 rfl
theorem dX10_placeFor_48 : decode cX10_placeFor 48 = .ok (.iload 4, 2) := kDec_at dA13_cX10_placeFor 1 rfl
theorem dX10_placeFor_50 : decode cX10_placeFor 50 = .ok (.ireturn, 1) := kDec_at dA13_cX10_placeFor 2 rfl
theorem dX10_placeFor_37 : decode cX10_placeFor 37 = .ok (.aload_n 0, 1) := kDec_at dA13_cX10_placeFor 3 rfl
theorem dX10_placeFor_38 : decode cX10_placeFor 38 = .ok (.getfield 15, 3) := kDec_at dA13_cX10_placeFor 4 rfl
theorem dX10_placeFor_41 : decode cX10_placeFor 41 = .ok (.iload 4, 2) := kDec_at dA13_cX10_placeFor 5 rfl
theorem dX10_placeFor_43 : decode cX10_placeFor 43 = .ok (.iaload, 1) := kDec_at dA13_cX10_placeFor 6 rfl
theorem dX10_placeFor_44 : decode cX10_placeFor 44 = .ok (.iload_n 1, 1) := kDec_at dA13_cX10_placeFor 7 rfl
theorem dX10_placeFor_45 : decode cX10_placeFor 45 = .ok (.if_icmp .ne 6, 3) := kDec_at dA13_cX10_placeFor 8 rfl
theorem dX10_placeFor_51 : decode cX10_placeFor 51 = .ok (.iinc 3 1, 3) := kDec_at dA13_cX10_placeFor 9 rfl
theorem dX10_placeFor_54 : decode cX10_placeFor 54 = .ok (.goto (-44), 3) := kDec_at dA13_cX10_placeFor 10 rfl
set_option maxRecDepth 100000 in
theorem dA14_cX10_byteFor : kDec cX10_byteFor [(0, .aload_n 0, 1), (1, .iload_n 1, 1), (2, .invokevirtual 31, 3), (5, .istore_n 2, 1), (6, .iload_n 2, 1), (7, .iconst (-1), 1), (8, .if_icmp .ne 7, 3), (15, .aload_n 0, 1), (16, .getfield 18, 3), (19, .iload_n 2, 1), (20, .iaload, 1), (21, .ireturn, 1), (11, .iconst (-1), 1), (12, .goto 9, 3)] = true := by decide +kernel
theorem dX10_byteFor_0 : decode cX10_byteFor 0 = .ok (.aload_n 0, 1) := kDec_at dA14_cX10_byteFor 0 rfl
theorem dX10_byteFor_1 : decode cX10_byteFor 1 = .ok (.iload_n 1, 1) := kDec_at dA14_cX10_byteFor 1 rfl
theorem dX10_byteFor_2 : decode cX10_byteFor 2 = .ok (.invokevirtual 31, 3) := kDec_at dA14_cX10_byteFor 2 rfl
theorem dX10_byteFor_5 : decode cX10_byteFor 5 = .ok (.istore_n 2, 1) := kDec_at dA14_cX10_byteFor 3 rfl
theorem dX10_byteFor_6 : decode cX10_byteFor 6 = .ok (.iload_n 2, 1) := kDec_at dA14_cX10_byteFor 4 rfl
theorem dX10_byteFor_7 : decode cX10_byteFor 7 = .ok (.iconst (-1), 1) := kDec_at dA14_cX10_byteFor 5 rfl
theorem dX10_byteFor_8 : decode cX10_byteFor 8 = .ok (.if_icmp .ne 7, 3) := kDec_at dA14_cX10_byteFor 6 rfl
theorem dX10_byteFor_15 : decode cX10_byteFor 15 = .ok (.aload_n 0, 1) := kDec_at dA14_cX10_byteFor 7 rfl
theorem dX10_byteFor_16 : decode cX10_byteFor 16 = .ok (.getfield 18, 3) := kDec_at dA14_cX10_byteFor 8 rfl
theorem dX10_byteFor_19 : decode cX10_byteFor 19 = .ok (.iload_n 2, 1) := kDec_at dA14_cX10_byteFor 9 rfl
theorem dX10_byteFor_20 : decode cX10_byteFor 20 = .ok (.iaload, 1) := kDec_at dA14_cX10_byteFor 10 rfl
theorem dX10_byteFor_21 : decode cX10_byteFor 21 = .ok (.ireturn, 1) := kDec_at dA14_cX10_byteFor 11 rfl
theorem dX10_byteFor_11 : decode cX10_byteFor 11 = .ok (.iconst (-1), 1) := kDec_at dA14_cX10_byteFor 12 rfl
theorem dX10_byteFor_12 : decode cX10_byteFor 12 = .ok (.goto 9, 3) := kDec_at dA14_cX10_byteFor 13 rfl
set_option maxRecDepth 20000 in
theorem ggX10_byteFor_X10_placeFor : GoodIn wsX10_byteFor wsX10_placeFor := goodIn_r _ [6, 7, 1, 8, 9, 10, 11, 12] rfl (by decide +kernel)
set_option maxRecDepth 20000 in
theorem gX10_byteFor_X10_placeFor : GoodIn wsX10_byteFor (wsV RX10 31 RX10 yX10_placeFor wsX10_placeFor) := goodIn_app (goodIn_r _ [2, 3, 4, 5] rfl (by decide +kernel)) ggX10_byteFor_X10_placeFor
set_option maxRecDepth 100000 in
theorem dA15_cX11_isLetter : kDec cX11_isLetter [(0, .iload_n 0, 1), (1, .ifCond .lt 28, 3), (29, .iconst 0, 1), (30, .ireturn, 1), (4, .iload_n 0, 1), (5, .ldc_w 262, 3), (8, .if_icmp .gt 21, 3), (11, .iload_n 0, 1), (12, .ldc_w 263, 3), (15, .if_icmp .lt 10, 3), (25, .iconst 1, 1), (26, .goto 4, 3), (18, .iload_n 0, 1), (19, .ldc_w 264, 3), (22, .if_icmp .le 7, 3)] = true := by decide +kernel
theorem dX11_isLetter_0 : decode cX11_isLetter 0 = .ok (.iload_n 0, 1) := kDec_at dA15_cX11_isLetter 0 rfl
theorem dX11_isLetter_1 : decode cX11_isLetter 1 = .ok (.ifCond .lt 28, 3) := kDec_at dA15_cX11_isLetter 1 rfl
theorem dX11_isLetter_29 : decode cX11_isLetter 29 = .ok (.iconst 0, 1) := kDec_at dA15_cX11_isLetter 2 rfl
theorem dX11_isLetter_30 : decode cX11_isLetter 30 = .ok (.ireturn, 1) := kDec_at dA15_cX11_isLetter 3 rfl
theorem dX11_isLetter_4 : decode cX11_isLetter 4 = .ok (.iload_n 0, 1) := kDec_at dA15_cX11_isLetter 4 rfl
theorem dX11_isLetter_5 : decode cX11_isLetter 5 = .ok (.ldc_w 262, 3) := kDec_at dA15_cX11_isLetter 5 rfl
theorem dX11_isLetter_8 : decode cX11_isLetter 8 = .ok (.if_icmp .gt 21, 3) := kDec_at dA15_cX11_isLetter 6 rfl
theorem dX11_isLetter_11 : decode cX11_isLetter 11 = .ok (.iload_n 0, 1) := kDec_at dA15_cX11_isLetter 7 rfl
theorem dX11_isLetter_12 : decode cX11_isLetter 12 = .ok (.ldc_w 263, 3) := kDec_at dA15_cX11_isLetter 8 rfl
theorem dX11_isLetter_15 : decode cX11_isLetter 15 = .ok (.if_icmp .lt 10, 3) := kDec_at dA15_cX11_isLetter 9 rfl
theorem dX11_isLetter_25 : decode cX11_isLetter 25 = .ok (.iconst 1, 1) := kDec_at dA15_cX11_isLetter 10 rfl
theorem dX11_isLetter_26 : decode cX11_isLetter 26 = .ok (.goto 4, 3) := kDec_at dA15_cX11_isLetter 11 rfl
theorem dX11_isLetter_18 : decode cX11_isLetter 18 = .ok (.iload_n 0, 1) := kDec_at dA15_cX11_isLetter 12 rfl
theorem dX11_isLetter_19 : decode cX11_isLetter 19 = .ok (.ldc_w 264, 3) := kDec_at dA15_cX11_isLetter 13 rfl
theorem dX11_isLetter_22 : decode cX11_isLetter 22 = .ok (.if_icmp .le 7, 3) := kDec_at dA15_cX11_isLetter 14 rfl

end

/-! 22.told -/
section
set_option maxHeartbeats 40000000 in
set_option maxRecDepth 100000 in
theorem m_J7_fill_53178 (l : Launch) (dC : Nat → ClassId) (dI : Nat → Nat → Nat) (cI cS : ClassId) (sz : Nat) (ar : Nat) (n : Nat) (f : Nat → Int32) (v : Int32) (hn : n < 2 ^ 31) : kMv l yJ7_fill_53178 wsJ7_fill_53178 ({ frames := 0, cells := 0, slots := 0, locals := 0 } : Room) [.ref ar, .int v] sz (dC, dI) vwCl [(cI, .int), (cS, .short)] [(ar, .inl (cI, n, .inl f))] (fun _ => True) 0 0 (fun (A : Nat → Prop) (hh9 : Heap) => ∃ (f' : Nat → Int32), kPD (dC, dI) vwCl A [(ar, .inl (cI, n, .inl f'))] hh9 ∧ (F_fill n f' v)) := by
  refine kMv_of (cc := cJ7_fill_53178) (maxL := 4) (ret := none) (lv := [(0, .ref ar), (1, .int v)]) (by decide +kernel) rfl rfl (Nat.le_of_ble_eq_true rfl) ?_
  intro p e s m below meth c A QQ ls hx hb hr hts hml hown hlocks hA hQQ hK hX hP hD hS hl
  have hown : s.vm.findClass RJ7 = some m.cls := hown
  have hcf := k_cf hx hb hml hown hts
  refine lv_iconst (v := 0) hx hb dJ7_fill_53178_0 (by decide) ?_
  refine lv_istore_n (lv' := [(2, .int 0), (0, .ref ar), (1, .int v)]) hx hb dJ7_fill_53178_1 rfl hl (by decide) rfl (fun ls hl => ?_)
  refine lv_aload_n hx hb dJ7_fill_53178_2 rfl (lv_at hl 1 rfl) ?_
  refine va_alen hx hb hK hP 0 0 rfl rfl (v := Int32.ofNat n) rfl dJ7_fill_53178_3 ?_
  refine lv_topi (fun x_1 ex_1 => ?_)
  have tx_1 : x_1.toInt = (n : Int) := by rw [ex_1]; exact v_nat (by omega)
  refine lv_istore_n (lv' := [(3, .int x_1), (2, .int 0), (0, .ref ar), (1, .int v)]) hx hb dJ7_fill_53178_4 rfl hl (by decide) rfl (fun ls hl => ?_)
  have LOOP_5 : ∀ (k_5 : Nat) (i : Int32) (f2 : Nat → Int32) (H : Heap) (locs : List Loc) (ls : Array Slot), MSd ((n : Int) - i.toInt : Int) k_5 → (0 ≤ i.toInt ∧ i.toInt ≤ (n : Int)) → (∀ j : Nat, (j : Int) < i.toInt → f2 j = v) → va_P (dC, dI) vwCl [(ar, .inl (cI, n, .inl f2))] H → va_D A [(ar, .inl (cI, n, .inl f2))] → va_S A s.heap H locs → lv_has ls 4 [(3, .int x_1), (2, .int i), (0, .ref ar), (1, .int v)] → W p l e (headSpec wsJ7_fill_53178 ({ frames := 0, cells := 0, slots := 0, locals := 0 } : Room)).room s m ([.ref ar, .int v] : List Value).toArray below meth c H locs 0 0 (MQ below QQ ([.ref ar, .int v] : List Value).toArray s 0 0 A) (F0 m 5 ls []) := by
    clear hP hD hS hl
    intro k_5
    induction k_5 with
    | zero =>
      intro i f2 H locs ls hm_5 g_i hfl hP hD hS hl
      exact ms_0 hm_5
    | succ k_5 ih_5 =>
      intro i f2 H locs ls hm_5 g_i hfl hP hD hS hl
      refine lv_iload_n hx hb dJ7_fill_53178_5 rfl (lv_at hl 1 rfl) ?_
      refine lv_iload_n hx hb dJ7_fill_53178_6 rfl (lv_at hl 0 rfl) ?_
      refine lv_icmp_ge (tgt := 20) hx hb dJ7_fill_53178_7 (by decide) (fun c_2 => ?_) (fun c_2 => ?_)
      · have tc_2 : x_1.toInt ≤ i.toInt := v_le c_2
        have rw2_0 := v_rng i
        have rw2_1 := v_rng x_1
        exact kl_v hQQ hx hb hr hlocks hS dJ7_fill_53178_20 ⟨f2, ⟨hP, hD⟩, fun j hj => hfl j (by omega)⟩
      · have tc_2 : i.toInt < x_1.toInt := v_nle c_2
        have rw2_0 := v_rng i
        have rw2_1 := v_rng x_1
        refine lv_aload_n hx hb dJ7_fill_53178_10 rfl (lv_at hl 2 rfl) ?_
        refine lv_iload_n hx hb dJ7_fill_53178_11 rfl (lv_at hl 1 rfl) ?_
        refine lv_iload_n hx hb dJ7_fill_53178_12 rfl (lv_at hl 3 rfl) ?_
        obtain ⟨f_3, ef_3⟩ : ∃ g : Nat → Int32, g = upd f2 (i : Int32).toNatClampNeg v := ⟨_, rfl⟩
        refine va_iast hx hb hK hP hD hS 0 0 rfl rfl (v_in (by omega)) dJ7_fill_53178_13 (kWf (g := f_3) (F := fun f_3 => [(ar, .inl (cI, n, .inl f_3))]) ef_3 rfl (fun H locs hPn hDn hSn => ?_))
        clear hP hD hS
        have hP := hPn
        have hD := hDn
        have hS := hSn
        clear hPn hDn hSn
        obtain ⟨x_4, ex_4⟩ : ∃ y : Int32, y = i + 1 := ⟨_, rfl⟩
        have tx_4 : x_4.toInt = i.toInt + 1 := v_add ex_4 (by show -2147483648 ≤ i.toInt + 1; omega) (by show i.toInt + 1 < 2147483648; omega)
        refine lv_iinc (v := x_4) (lv' := [(2, .int x_4), (3, .int x_1), (0, .ref ar), (1, .int v)]) hx hb dJ7_fill_53178_14 hl (k := 1) rfl (by rw [ex_4]; rfl) (by decide) rfl (fun ls hl => ?_)
        refine lv_goto (tgt := 5) hx hb dJ7_fill_53178_17 (by decide) ?_
        exact ih_5 x_4 f_3 _ _ _ (ms_lt hm_5 (by show (((n : Int) - x_4.toInt : Int)) < (n : Int) - i.toInt; omega) (by show (0 : Int) < (n : Int) - i.toInt; omega)) (by show 0 ≤ x_4.toInt ∧ x_4.toInt ≤ (n : Int); omega) (v_fill ef_3 (by omega) hfl (by omega)) hP hD hS (lv_sub hl [1, 0, 2, 3] rfl)
  exact LOOP_5 _ 0 f _ _ _ (ms_s _) (by show 0 ≤ (0 : Int) ∧ (0 : Int) ≤ (n : Int); omega) (fun j hj => by exact absurd hj (by show ¬ (j : Int) < 0; omega)) hP hD hS (lv_sub hl [0, 1, 2, 3] rfl)

set_option maxHeartbeats 40000000 in
set_option maxRecDepth 100000 in
theorem m_X10_length (l : Launch) (dC : Nat → ClassId) (dI : Nat → Nat → Nat) (cI cS : ClassId) (sz : Nat) (ot : Nat) (at1 : Nat) (at2 : Nat) (at3 : Nat) (lt : Int32)  : kMi l yX10_length wsX10_length ({ frames := 0, cells := 0, slots := 0, locals := 0 } : Room) [.ref ot] sz (dC, dI) vwCl [(cI, .int), (cS, .short)] [(ot, .inr (10, [.ref at1, .ref at2, .ref at3, .int lt]))] (fun _ => True) 0 0 (fun (A : Nat → Prop) (r : Int32) (hh9 : Heap) => kPD (dC, dI) vwCl A [(ot, .inr (10, [.ref at1, .ref at2, .ref at3, .int lt]))] hh9 ∧ (r = lt)) := by
  refine kMi_of (cc := cX10_length) (maxL := 1) (ret := (some .int)) (lv := [(0, .ref ot)]) (by decide +kernel) rfl rfl (Nat.le_of_ble_eq_true rfl) ?_
  intro p e s m below meth c A QQ ls hx hb hr hts hml hown hlocks hA hQQ hK hX hP hD hS hl
  have hown : s.vm.findClass RX10 = some m.cls := hown
  have hcf := k_cf hx hb hml hown hts
  have in_X10 : ∀ w ∈ wsX100, w ∈ wsX10_length := fun _ h => List.mem_cons_of_mem _ (List.mem_append_right _ (h))
  refine lv_aload_n hx hb dX10_length_0 rfl (lv_at hl 0 rfl) ?_
  refine va_get (D := (dC, dI)) (ci := 10) (v := .int lt) (C := RX10) (T := TX10) (N := 4) hx hb hts in_X10 hown hK hP 0 rfl rfl 3 (by decide) (hts (.fieldLink RX10 27 "TextMender$ToldCode" "length" "I") (List.mem_of_getElem? (i := 1) rfl)) (fun _ h9 => h9) rfl dX10_length_1 ?_
  exact kl_i (v := lt) hQQ hx hb hr hlocks hS dX10_length_4 ⟨⟨hP, hD⟩, rfl⟩

set_option maxHeartbeats 40000000 in
set_option maxRecDepth 100000 in
theorem m_X10_empty (l : Launch) (dC : Nat → ClassId) (dI : Nat → Nat → Nat) (cI cS : ClassId) (sz : Nat) (ot : Nat) (at1 : Nat) (at2 : Nat) (at3 : Nat) (lt : Int32) (ft1 : Nat → Int32) (ft3 : Nat → Int32)  : kMv l yX10_empty wsX10_empty ({ frames := 1, cells := 0, slots := 0, locals := 23 } : Room) [.ref ot] sz (dC, dI) vwCl [(cI, .int), (cS, .short)] [(ot, .inr (10, [.ref at1, .ref at2, .ref at3, .int lt])), (at1, .inl (cI, 256, .inl ft1)), (at3, .inl (cI, 512, .inl ft3))] (fun _ => True) 0 0 (fun (A : Nat → Prop) (hh9 : Heap) => ∃ (lt' : Int32) (ft1' : Nat → Int32) (ft3' : Nat → Int32), kPD (dC, dI) vwCl A [(ot, .inr (10, [.ref at1, .ref at2, .ref at3, .int lt'])), (at1, .inl (cI, 256, .inl ft1')), (at3, .inl (cI, 512, .inl ft3'))] hh9 ∧ (lt' = 0) ∧ (F_fill 256 ft1' (-1)) ∧ (F_fill 512 ft3' (-1))) := by
  refine kMv_of (cc := cX10_empty) (maxL := 1) (ret := none) (lv := [(0, .ref ot)]) (by decide +kernel) rfl rfl (Nat.le_of_ble_eq_true rfl) ?_
  intro p e s m below meth c A QQ ls hx hb hr hts hml hown hlocks hA hQQ hK hX hP hD hS hl
  have hown : s.vm.findClass RX10 = some m.cls := hown
  have hcf := k_cf hx hb hml hown hts
  have in_X10 : ∀ w ∈ wsX100, w ∈ wsX10_empty := fun _ h => List.mem_cons_of_mem _ (List.mem_append_right _ (h))
  refine lv_aload_n hx hb dX10_empty_0 rfl (lv_at hl 0 rfl) ?_
  refine va_get (D := (dC, dI)) (ci := 10) (v := .ref at1) (C := RX10) (T := TX10) (N := 4) hx hb hts in_X10 hown hK hP 0 rfl rfl 0 (by decide) (hts (.fieldLink RX10 9 "TextMender$ToldCode" "letterOf" "[I") (List.mem_of_getElem? (i := 1) rfl)) (fun _ h9 => h9) rfl dX10_empty_1 ?_
  refine lv_iconst (v := (-1)) hx hb dX10_empty_4 (by decide) ?_
  refine kS_v (rest := []) hcf (m_J7_fill_53178 l dC dI cI cS s.heap.size at1 256 ft1 (-1) (by omega)) kc_J7_fill_53178 gX10_empty_J7_fill_53178 rfl rfl ⟨Nat.le_of_ble_eq_true rfl, Nat.le_of_ble_eq_true rfl⟩ kX_t hK hP hD hS hA [1] [0, 2] rfl (by decide +kernel) rfl hl rfl (Nat.le_of_ble_eq_true rfl) dX10_empty_5 ⟨Nat.le_of_ble_eq_true rfl, Nat.le_of_ble_eq_true rfl⟩ (fun H locs hB hJ hSn => ?_)
  obtain ⟨f_1, ⟨hP1, hD1⟩, hf1_0⟩ := hB
  obtain ⟨hPn, hDn⟩ := hJ _ hP1 hD1 [(ot, .inr (10, [.ref at1, .ref at2, .ref at3, .int lt])), (at3, .inl (cI, 512, .inl ft3)), (at1, .inl (cI, 256, .inl f_1))] rfl
  clear hP hD hS hJ hP1 hD1
  have hP := hPn
  have hD := hDn
  have hS := hSn
  clear hPn hDn hSn
  refine lv_aload_n hx hb dX10_empty_8 rfl (lv_at hl 0 rfl) ?_
  refine va_get (D := (dC, dI)) (ci := 10) (v := .ref at3) (C := RX10) (T := TX10) (N := 4) hx hb hts in_X10 hown hK hP 0 rfl rfl 2 (by decide) (hts (.fieldLink RX10 18 "TextMender$ToldCode" "placeByte" "[I") (List.mem_of_getElem? (i := 2) rfl)) (fun _ h9 => h9) rfl dX10_empty_9 ?_
  refine lv_iconst (v := (-1)) hx hb dX10_empty_12 (by decide) ?_
  refine kS_v (rest := []) hcf (m_J7_fill_53178 l dC dI cI cS H.size at3 512 ft3 (-1) (by omega)) kc_J7_fill_53178 gX10_empty_J7_fill_53178 rfl rfl ⟨Nat.le_of_ble_eq_true rfl, Nat.le_of_ble_eq_true rfl⟩ kX_t hK hP hD hS hA [1] [0, 2] rfl (by decide +kernel) rfl hl rfl (Nat.le_of_ble_eq_true rfl) dX10_empty_13 ⟨Nat.le_of_ble_eq_true rfl, Nat.le_of_ble_eq_true rfl⟩ (fun H locs hB hJ hSn => ?_)
  obtain ⟨f_2, ⟨hP1, hD1⟩, hf2_0⟩ := hB
  obtain ⟨hPn, hDn⟩ := hJ _ hP1 hD1 [(ot, .inr (10, [.ref at1, .ref at2, .ref at3, .int lt])), (at1, .inl (cI, 256, .inl f_1)), (at3, .inl (cI, 512, .inl f_2))] rfl
  clear hP hD hS hJ hP1 hD1
  have hP := hPn
  have hD := hDn
  have hS := hSn
  clear hPn hDn hSn
  refine lv_aload_n hx hb dX10_empty_16 rfl (lv_at hl 0 rfl) ?_
  refine lv_iconst (v := 0) hx hb dX10_empty_17 (by decide) ?_
  refine va_put (D := (dC, dI)) (ci := 10) (v := .int 0) (ty := .int) (C := RX10) (T := TX10) (N := 4) hx hb hts in_X10 tyX10 tyX10_ok nmX10 hown hK hP hD hS 0 rfl rfl 3 (by decide) (hts (.fieldLink RX10 27 "TextMender$ToldCode" "length" "I") (List.mem_of_getElem? (i := 3) rfl)) (fun _ h9 => h9) rfl (by decide +kernel) rfl rfl (Nat.le_of_ble_eq_true rfl) dX10_empty_18 (kW (wn := [(ot, .inr (10, [.ref at1, .ref at2, .ref at3, .int 0])), (at1, .inl (cI, 256, .inl f_1)), (at3, .inl (cI, 512, .inl f_2))]) rfl (fun H locs hPn hDn hSn => ?_))
  clear hP hD hS
  have hP := hPn
  have hD := hDn
  have hS := hSn
  clear hPn hDn hSn
  exact kl_v hQQ hx hb hr hlocks hS dX10_empty_21 ⟨0, f_1, f_2, ⟨hP, hD⟩, rfl, hf1_0, hf2_0⟩

set_option maxHeartbeats 40000000 in
set_option maxRecDepth 100000 in
theorem m_X10_letterFor (l : Launch) (dC : Nat → ClassId) (dI : Nat → Nat → Nat) (cI cS : ClassId) (sz : Nat) (ot : Nat) (at1 : Nat) (at2 : Nat) (at3 : Nat) (lt : Int32) (ft1 : Nat → Int32) (v : Int32)  : kMi l yX10_letterFor wsX10_letterFor ({ frames := 0, cells := 0, slots := 0, locals := 0 } : Room) [.ref ot, .int v] sz (dC, dI) vwCl [(cI, .int), (cS, .short)] [(ot, .inr (10, [.ref at1, .ref at2, .ref at3, .int lt])), (at1, .inl (cI, 256, .inl ft1))] (fun _ => True) 0 0 (fun (A : Nat → Prop) (r : Int32) (hh9 : Heap) => kPD (dC, dI) vwCl A [(ot, .inr (10, [.ref at1, .ref at2, .ref at3, .int lt])), (at1, .inl (cI, 256, .inl ft1))] hh9 ∧ (F_get 256 v r ft1)) := by
  refine kMi_of (cc := cX10_letterFor) (maxL := 2) (ret := (some .int)) (lv := [(0, .ref ot), (1, .int v)]) (by decide +kernel) rfl rfl (Nat.le_of_ble_eq_true rfl) ?_
  intro p e s m below meth c A QQ ls hx hb hr hts hml hown hlocks hA hQQ hK hX hP hD hS hl
  have hown : s.vm.findClass RX10 = some m.cls := hown
  have hcf := k_cf hx hb hml hown hts
  have in_X10 : ∀ w ∈ wsX100, w ∈ wsX10_letterFor := fun _ h => List.mem_cons_of_mem _ (List.mem_append_right _ (h))
  refine lv_iload_n hx hb dX10_letterFor_0 rfl (lv_at hl 1 rfl) ?_
  refine lv_if_lt (tgt := 20) hx hb dX10_letterFor_1 (by decide) (fun c_1 => ?_) (fun c_1 => ?_)
  · have tc_1 : v.toInt < 0 := v_lt c_1
    refine lv_iconst (v := (-1)) hx hb dX10_letterFor_20 (by decide) ?_
    exact kl_i (v := (-1)) hQQ hx hb hr hlocks hS dX10_letterFor_21 ⟨⟨hP, hD⟩, by first | exact Or.inl ⟨by omega, by show v.toInt < 256; omega, by assumption⟩ | exact Or.inr ⟨Or.inl (by omega), rfl⟩ | exact Or.inr ⟨Or.inr (by show (256 : Int) ≤ v.toInt; omega), rfl⟩⟩
  · have tc_1 : 0 ≤ v.toInt := v_nlt c_1
    refine lv_iload_n hx hb dX10_letterFor_4 rfl (lv_at hl 1 rfl) ?_
    refine lv_sipush (v := 256) hx hb dX10_letterFor_5 (by decide) ?_
    refine lv_icmp_ge (tgt := 20) hx hb dX10_letterFor_8 (by decide) (fun c_2 => ?_) (fun c_2 => ?_)
    · have tc_2 : 256 ≤ v.toInt := v_le c_2
      refine lv_iconst (v := (-1)) hx hb dX10_letterFor_20 (by decide) ?_
      exact kl_i (v := (-1)) hQQ hx hb hr hlocks hS dX10_letterFor_21 ⟨⟨hP, hD⟩, by first | exact Or.inl ⟨by omega, by show v.toInt < 256; omega, by assumption⟩ | exact Or.inr ⟨Or.inl (by omega), rfl⟩ | exact Or.inr ⟨Or.inr (by show (256 : Int) ≤ v.toInt; omega), rfl⟩⟩
    · have tc_2 : v.toInt < 256 := v_nle c_2
      refine lv_aload_n hx hb dX10_letterFor_11 rfl (lv_at hl 0 rfl) ?_
      refine va_get (D := (dC, dI)) (ci := 10) (v := .ref at1) (C := RX10) (T := TX10) (N := 4) hx hb hts in_X10 hown hK hP 0 rfl rfl 0 (by decide) (hts (.fieldLink RX10 9 "TextMender$ToldCode" "letterOf" "[I") (List.mem_of_getElem? (i := 1) rfl)) (fun _ h9 => h9) rfl dX10_letterFor_12 ?_
      refine lv_iload_n hx hb dX10_letterFor_15 rfl (lv_at hl 1 rfl) ?_
      refine va_iald hx hb hK hP 1 0 rfl rfl (v_in (by omega)) dX10_letterFor_16 ?_
      refine lv_topi (fun x_3 ex_3 => ?_)
      refine lv_goto (tgt := 21) hx hb dX10_letterFor_17 (by decide) ?_
      exact kl_i (v := x_3) hQQ hx hb hr hlocks hS dX10_letterFor_21 ⟨⟨hP, hD⟩, by first | exact Or.inl ⟨by omega, by show v.toInt < 256; omega, by assumption⟩ | exact Or.inr ⟨Or.inl (by omega), rfl⟩ | exact Or.inr ⟨Or.inr (by show (256 : Int) ≤ v.toInt; omega), rfl⟩⟩

set_option maxHeartbeats 40000000 in
set_option maxRecDepth 100000 in
theorem m_X10_placeFor (l : Launch) (dC : Nat → ClassId) (dI : Nat → Nat → Nat) (cI cS : ClassId) (sz : Nat) (ot : Nat) (at1 : Nat) (at2 : Nat) (at3 : Nat) (lt : Int32) (ft2 : Nat → Int32) (ft3 : Nat → Int32) (le : Int32)  : kMi l yX10_placeFor wsX10_placeFor ({ frames := 0, cells := 0, slots := 0, locals := 0 } : Room) [.ref ot, .int le] sz (dC, dI) vwCl [(cI, .int), (cS, .short)] [(ot, .inr (10, [.ref at1, .ref at2, .ref at3, .int lt])), (at2, .inl (cI, 512, .inl ft2)), (at3, .inl (cI, 512, .inl ft3))] (fun _ => True) 0 0 (fun (A : Nat → Prop) (r : Int32) (hh9 : Heap) => kPD (dC, dI) vwCl A [(ot, .inr (10, [.ref at1, .ref at2, .ref at3, .int lt])), (at2, .inl (cI, 512, .inl ft2)), (at3, .inl (cI, 512, .inl ft3))] hh9 ∧ (-1 ≤ r.toInt ∧ r.toInt ≤ 511)) := by
  refine kMi_of (cc := cX10_placeFor) (maxL := 5) (ret := (some .int)) (lv := [(0, .ref ot), (1, .int le)]) (by decide +kernel) rfl rfl (Nat.le_of_ble_eq_true rfl) ?_
  intro p e s m below meth c A QQ ls hx hb hr hts hml hown hlocks hA hQQ hK hX hP hD hS hl
  have hown : s.vm.findClass RX10 = some m.cls := hown
  have hcf := k_cf hx hb hml hown hts
  have in_X10 : ∀ w ∈ wsX100, w ∈ wsX10_placeFor := fun _ h => List.mem_cons_of_mem _ (List.mem_append_right _ (h))
  refine lv_iload_n hx hb dX10_placeFor_0 rfl (lv_at hl 1 rfl) ?_
  refine lv_ldc hx hb hown (hts (.constant RX10 45 (-1640531535)) (List.mem_of_getElem? (i := 1) rfl)) dX10_placeFor_1 ?_
  refine lv_imul hx hb dX10_placeFor_3 ?_
  refine lv_topi (fun x_1 ex_1 => ?_)
  have rv1_0 := v_rng le
  refine lv_bipush (v := 23) hx hb dX10_placeFor_4 (by decide) ?_
  obtain ⟨x_2, ex_2⟩ : ∃ v : Int32, v = ((x_1 : Int32).toUInt32 >>> ((23 : Int32).toUInt32 &&& Int32.toUInt32 31)).toInt32 := ⟨_, rfl⟩
  refine lv_iushr (v := x_2) hx hb dX10_placeFor_6 ex_2.symm ?_
  have tx_2 : 0 ≤ x_2.toInt ∧ x_2.toInt < 512 := v_ushr 23 ex_2 (by decide) (by decide) (by decide)
  refine lv_istore_n (lv' := [(2, .int x_2), (0, .ref ot), (1, .int le)]) hx hb dX10_placeFor_7 rfl hl (by decide) rfl (fun ls hl => ?_)
  refine lv_iconst (v := 0) hx hb dX10_placeFor_8 (by decide) ?_
  refine lv_istore_n (lv' := [(3, .int 0), (2, .int x_2), (0, .ref ot), (1, .int le)]) hx hb dX10_placeFor_9 rfl hl (by decide) rfl (fun ls hl => ?_)
  have LOOP_10 : ∀ (k_10 : Nat) (k : Int32) (H : Heap) (locs : List Loc) (ls : Array Slot), MSd (512 - k.toInt : Int) k_10 → (0 ≤ k.toInt ∧ k.toInt ≤ 512) → va_P (dC, dI) vwCl [(ot, .inr (10, [.ref at1, .ref at2, .ref at3, .int lt])), (at2, .inl (cI, 512, .inl ft2)), (at3, .inl (cI, 512, .inl ft3))] H → va_D A [(ot, .inr (10, [.ref at1, .ref at2, .ref at3, .int lt])), (at2, .inl (cI, 512, .inl ft2)), (at3, .inl (cI, 512, .inl ft3))] → va_S A s.heap H locs → lv_has ls 5 [(3, .int k), (2, .int x_2), (0, .ref ot), (1, .int le)] → W p l e (headSpec wsX10_placeFor ({ frames := 0, cells := 0, slots := 0, locals := 0 } : Room)).room s m ([.ref ot, .int le] : List Value).toArray below meth c H locs 0 0 (MQ below QQ ([.ref ot, .int le] : List Value).toArray s 0 0 A) (F0 m 10 ls []) := by
    clear hP hD hS hl
    try (clear rv1_0)
    intro k_10
    induction k_10 with
    | zero =>
      intro k H locs ls hm_10 g_k hP hD hS hl
      exact ms_0 hm_10
    | succ k_10 ih_10 =>
      intro k H locs ls hm_10 g_k hP hD hS hl
      refine lv_iload_n hx hb dX10_placeFor_10 rfl (lv_at hl 0 rfl) ?_
      refine lv_sipush (v := 512) hx hb dX10_placeFor_11 (by decide) ?_
      refine lv_icmp_ge (tgt := 57) hx hb dX10_placeFor_14 (by decide) (fun c_3 => ?_) (fun c_3 => ?_)
      · have tc_3 : 512 ≤ k.toInt := v_le c_3
        refine lv_iconst (v := (-1)) hx hb dX10_placeFor_57 (by decide) ?_
        exact kl_i (v := (-1)) hQQ hx hb hr hlocks hS dX10_placeFor_58 ⟨⟨hP, hD⟩, by decide⟩
      · have tc_3 : k.toInt < 512 := v_nle c_3
        refine lv_iload_n hx hb dX10_placeFor_17 rfl (lv_at hl 1 rfl) ?_
        refine lv_iload_n hx hb dX10_placeFor_18 rfl (lv_at hl 0 rfl) ?_
        refine lv_iadd hx hb dX10_placeFor_19 ?_
        refine lv_topi (fun x_4 ex_4 => ?_)
        have tx_4 : x_4.toInt = x_2.toInt + k.toInt := v_add ex_4 (by show -2147483648 ≤ x_2.toInt + k.toInt; omega) (by show x_2.toInt + k.toInt < 2147483648; omega)
        refine lv_sipush (v := 511) hx hb dX10_placeFor_20 (by decide) ?_
        refine lv_iand hx hb dX10_placeFor_23 ?_
        refine lv_topi (fun x_5 ex_5 => ?_)
        have tx_5 : 0 ≤ x_5.toInt ∧ x_5.toInt < 512 := v_and 9 ex_5 (by decide) (by decide)
        refine lv_istore (lv' := [(4, .int x_5), (3, .int k), (2, .int x_2), (0, .ref ot), (1, .int le)]) hx hb dX10_placeFor_24 hl (by decide) rfl (fun ls hl => ?_)
        refine lv_aload_n hx hb dX10_placeFor_26 rfl (lv_at hl 3 rfl) ?_
        refine va_get (D := (dC, dI)) (ci := 10) (v := .ref at3) (C := RX10) (T := TX10) (N := 4) hx hb hts in_X10 hown hK hP 0 rfl rfl 2 (by decide) (hts (.fieldLink RX10 18 "TextMender$ToldCode" "placeByte" "[I") (List.mem_of_getElem? (i := 2) rfl)) (fun _ h9 => h9) rfl dX10_placeFor_27 ?_
        refine lv_iload hx hb dX10_placeFor_30 (lv_at hl 0 rfl) ?_
        refine va_iald hx hb hK hP 2 0 rfl rfl (v_in (by omega)) dX10_placeFor_32 ?_
        refine lv_topi (fun x_6 ex_6 => ?_)
        refine lv_iconst (v := (-1)) hx hb dX10_placeFor_33 (by decide) ?_
        refine lv_icmp_eq (tgt := 48) hx hb dX10_placeFor_34 (by decide) (fun c_7 => ?_) (fun c_7 => ?_)
        · have tc_7 : x_6.toInt = (-1) := v_eq c_7
          refine lv_iload hx hb dX10_placeFor_48 (lv_at hl 0 rfl) ?_
          exact kl_i (v := x_5) hQQ hx hb hr hlocks hS dX10_placeFor_50 ⟨⟨hP, hD⟩, by omega⟩
        · have tc_7 : ¬ x_6.toInt = (-1) := v_ne c_7
          refine lv_aload_n hx hb dX10_placeFor_37 rfl (lv_at hl 3 rfl) ?_
          refine va_get (D := (dC, dI)) (ci := 10) (v := .ref at2) (C := RX10) (T := TX10) (N := 4) hx hb hts in_X10 hown hK hP 0 rfl rfl 1 (by decide) (hts (.fieldLink RX10 15 "TextMender$ToldCode" "placeLetter" "[I") (List.mem_of_getElem? (i := 3) rfl)) (fun _ h9 => h9) rfl dX10_placeFor_38 ?_
          refine lv_iload hx hb dX10_placeFor_41 (lv_at hl 0 rfl) ?_
          refine va_iald hx hb hK hP 1 0 rfl rfl (v_in (by omega)) dX10_placeFor_43 ?_
          refine lv_topi (fun x_8 ex_8 => ?_)
          refine lv_iload_n hx hb dX10_placeFor_44 rfl (lv_at hl 4 rfl) ?_
          refine lv_icmp_ne (tgt := 51) hx hb dX10_placeFor_45 (by decide) (fun c_9 => ?_) (fun c_9 => ?_)
          · have tc_9 : ¬ x_8.toInt = le.toInt := v_ne c_9
            have rw9_0 := v_rng x_8
            obtain ⟨x_10, ex_10⟩ : ∃ y : Int32, y = k + 1 := ⟨_, rfl⟩
            have tx_10 : x_10.toInt = k.toInt + 1 := v_addR (l2 := 1) (h2 := 1) ex_10 g_k (by decide) (by decide) (by decide)
            refine lv_iinc (v := x_10) (lv' := [(3, .int x_10), (4, .int x_5), (2, .int x_2), (0, .ref ot), (1, .int le)]) hx hb dX10_placeFor_51 hl (k := 1) rfl (by rw [ex_10]; rfl) (by decide) rfl (fun ls hl => ?_)
            refine lv_goto (tgt := 10) hx hb dX10_placeFor_54 (by decide) ?_
            exact ih_10 x_10 _ _ _ (ms_lt hm_10 (by show ((512 - x_10.toInt : Int)) < 512 - k.toInt; omega) (by show (0 : Int) < 512 - k.toInt; omega)) (by show 0 ≤ x_10.toInt ∧ x_10.toInt ≤ 512; omega) hP hD hS (lv_sub hl [0, 2, 3, 4] rfl)
          · have tc_9 : x_8.toInt = le.toInt := v_eq c_9
            have rw9_0 := v_rng x_8
            refine lv_iload hx hb dX10_placeFor_48 (lv_at hl 0 rfl) ?_
            exact kl_i (v := x_5) hQQ hx hb hr hlocks hS dX10_placeFor_50 ⟨⟨hP, hD⟩, by omega⟩
  exact LOOP_10 _ 0 _ _ _ (ms_s _) (by decide) hP hD hS (lv_sub hl [0, 1, 2, 3] rfl)

set_option maxHeartbeats 40000000 in
set_option maxRecDepth 100000 in
theorem m_X10_byteFor (l : Launch) (dC : Nat → ClassId) (dI : Nat → Nat → Nat) (cI cS : ClassId) (sz : Nat) (ot : Nat) (at1 : Nat) (at2 : Nat) (at3 : Nat) (lt : Int32) (ft2 : Nat → Int32) (ft3 : Nat → Int32) (le : Int32)  : kMi l yX10_byteFor wsX10_byteFor ({ frames := 1, cells := 0, slots := 0, locals := 24 } : Room) [.ref ot, .int le] sz (dC, dI) vwCl [(cI, .int), (cS, .short)] [(ot, .inr (10, [.ref at1, .ref at2, .ref at3, .int lt])), (at2, .inl (cI, 512, .inl ft2)), (at3, .inl (cI, 512, .inl ft3))] (fun _ => True) 0 0 (fun (A : Nat → Prop) (r : Int32) (hh9 : Heap) => kPD (dC, dI) vwCl A [(ot, .inr (10, [.ref at1, .ref at2, .ref at3, .int lt])), (at2, .inl (cI, 512, .inl ft2)), (at3, .inl (cI, 512, .inl ft3))] hh9) := by
  refine kMi_of (cc := cX10_byteFor) (maxL := 3) (ret := (some .int)) (lv := [(0, .ref ot), (1, .int le)]) (by decide +kernel) rfl rfl (Nat.le_of_ble_eq_true rfl) ?_
  intro p e s m below meth c A QQ ls hx hb hr hts hml hown hlocks hA hQQ hK hX hP hD hS hl
  have hown : s.vm.findClass RX10 = some m.cls := hown
  have hcf := k_cf hx hb hml hown hts
  have in_X10 : ∀ w ∈ wsX100, w ∈ wsX10_byteFor := fun _ h => List.mem_cons_of_mem _ (List.mem_append_right _ (h))
  refine lv_aload_n hx hb dX10_byteFor_0 rfl (lv_at hl 0 rfl) ?_
  refine lv_iload_n hx hb dX10_byteFor_1 rfl (lv_at hl 1 rfl) ?_
  refine kV_i (rest := []) (q0 := 0) (ci := 10) hcf (m_X10_placeFor l dC dI cI cS s.heap.size ot at1 at2 at3 lt ft2 ft3 le ) kc_X10_placeFor gX10_byteFor_X10_placeFor rfl rfl rfl ⟨Nat.le_of_ble_eq_true rfl, Nat.le_of_ble_eq_true rfl⟩ kX_t hK hP hD hS hA [0, 1, 2] [] rfl (by decide +kernel) rfl rfl rfl hl rfl (Nat.le_of_ble_eq_true rfl) dX10_byteFor_2 ⟨Nat.le_of_ble_eq_true rfl, Nat.le_of_ble_eq_true rfl⟩ (fun r_1 H locs hB hJ hSn => ?_)
  obtain ⟨⟨hP1, hD1⟩, hf1_0⟩ := hB
  obtain ⟨hPn, hDn⟩ := hJ _ hP1 hD1 [(ot, .inr (10, [.ref at1, .ref at2, .ref at3, .int lt])), (at2, .inl (cI, 512, .inl ft2)), (at3, .inl (cI, 512, .inl ft3))] rfl
  clear hP hD hS hJ hP1 hD1
  have hP := hPn
  have hD := hDn
  have hS := hSn
  clear hPn hDn hSn
  refine lv_istore_n (lv' := [(2, .int r_1), (0, .ref ot), (1, .int le)]) hx hb dX10_byteFor_5 rfl hl (by decide) rfl (fun ls hl => ?_)
  refine lv_iload_n hx hb dX10_byteFor_6 rfl (lv_at hl 0 rfl) ?_
  refine lv_iconst (v := (-1)) hx hb dX10_byteFor_7 (by decide) ?_
  refine lv_icmp_ne (tgt := 15) hx hb dX10_byteFor_8 (by decide) (fun c_2 => ?_) (fun c_2 => ?_)
  · have tc_2 : ¬ r_1.toInt = (-1) := v_ne c_2
    refine lv_aload_n hx hb dX10_byteFor_15 rfl (lv_at hl 1 rfl) ?_
    refine va_get (D := (dC, dI)) (ci := 10) (v := .ref at3) (C := RX10) (T := TX10) (N := 4) hx hb hts in_X10 hown hK hP 0 rfl rfl 2 (by decide) (hts (.fieldLink RX10 18 "TextMender$ToldCode" "placeByte" "[I") (List.mem_of_getElem? (i := 1) rfl)) (fun _ h9 => h9) rfl dX10_byteFor_16 ?_
    refine lv_iload_n hx hb dX10_byteFor_19 rfl (lv_at hl 0 rfl) ?_
    refine va_iald hx hb hK hP 2 0 rfl rfl (v_in (by omega)) dX10_byteFor_20 ?_
    refine lv_topi (fun x_3 ex_3 => ?_)
    exact kl_i (v := x_3) hQQ hx hb hr hlocks hS dX10_byteFor_21 ⟨hP, hD⟩
  · have tc_2 : r_1.toInt = (-1) := v_eq c_2
    refine lv_iconst (v := (-1)) hx hb dX10_byteFor_11 (by decide) ?_
    refine lv_goto (tgt := 21) hx hb dX10_byteFor_12 (by decide) ?_
    exact kl_i (v := (-1)) hQQ hx hb hr hlocks hS dX10_byteFor_21 ⟨hP, hD⟩

set_option maxHeartbeats 40000000 in
set_option maxRecDepth 100000 in
theorem m_X11_isLetter (l : Launch) (dC : Nat → ClassId) (dI : Nat → Nat → Nat) (cI cS : ClassId) (sz : Nat) (x : Int32)  : kMi l yX11_isLetter wsX11_isLetter ({ frames := 0, cells := 0, slots := 0, locals := 0 } : Room) [.int x] sz (dC, dI) vwCl [(cI, .int), (cS, .short)] [] (fun _ => True) 0 0 (fun (A : Nat → Prop) (r : Int32) (hh9 : Heap) => kPD (dC, dI) vwCl A [] hh9 ∧ (0 ≤ r.toInt ∧ r.toInt ≤ 1) ∧ ((r.toInt = 1 ∧ 0 ≤ x.toInt ∧ x.toInt ≤ 65535 ∧ (x.toInt < 55296 ∨ 57343 < x.toInt)) ∨ (r.toInt = 0 ∧ (x.toInt < 0 ∨ 65535 < x.toInt ∨ (55296 ≤ x.toInt ∧ x.toInt ≤ 57343))))) := by
  refine kMi_of (cc := cX11_isLetter) (maxL := 1) (ret := (some .boolean)) (lv := [(0, .int x)]) (by decide +kernel) rfl rfl (Nat.le_of_ble_eq_true rfl) ?_
  intro p e s m below meth c A QQ ls hx hb hr hts hml hown hlocks hA hQQ hK hX hP hD hS hl
  have hown : s.vm.findClass RX11 = some m.cls := hown
  have hcf := k_cf hx hb hml hown hts
  refine lv_iload_n hx hb dX11_isLetter_0 rfl (lv_at hl 0 rfl) ?_
  refine lv_if_lt (tgt := 29) hx hb dX11_isLetter_1 (by decide) (fun c_1 => ?_) (fun c_1 => ?_)
  · have tc_1 : x.toInt < 0 := v_lt c_1
    refine lv_iconst (v := 0) hx hb dX11_isLetter_29 (by decide) ?_
    exact kl_z (v := 0) hQQ hx hb hr hlocks hS dX11_isLetter_30 (rfl) ⟨⟨hP, hD⟩, by decide, by show (0 = 1 ∧ 0 ≤ x.toInt ∧ x.toInt ≤ 65535 ∧ (x.toInt < 55296 ∨ 57343 < x.toInt)) ∨ (0 = 0 ∧ (x.toInt < 0 ∨ 65535 < x.toInt ∨ (55296 ≤ x.toInt ∧ x.toInt ≤ 57343))); omega⟩
  · have tc_1 : 0 ≤ x.toInt := v_nlt c_1
    refine lv_iload_n hx hb dX11_isLetter_4 rfl (lv_at hl 0 rfl) ?_
    refine lv_ldcw hx hb hown (hts (.constant RX11 262 (65535)) (List.mem_of_getElem? (i := 1) rfl)) dX11_isLetter_5 ?_
    refine lv_icmp_gt (tgt := 29) hx hb dX11_isLetter_8 (by decide) (fun c_2 => ?_) (fun c_2 => ?_)
    · have tc_2 : 65535 < x.toInt := v_lt c_2
      refine lv_iconst (v := 0) hx hb dX11_isLetter_29 (by decide) ?_
      exact kl_z (v := 0) hQQ hx hb hr hlocks hS dX11_isLetter_30 (rfl) ⟨⟨hP, hD⟩, by decide, by show (0 = 1 ∧ 0 ≤ x.toInt ∧ x.toInt ≤ 65535 ∧ (x.toInt < 55296 ∨ 57343 < x.toInt)) ∨ (0 = 0 ∧ (x.toInt < 0 ∨ 65535 < x.toInt ∨ (55296 ≤ x.toInt ∧ x.toInt ≤ 57343))); omega⟩
    · have tc_2 : x.toInt ≤ 65535 := v_nlt c_2
      refine lv_iload_n hx hb dX11_isLetter_11 rfl (lv_at hl 0 rfl) ?_
      refine lv_ldcw hx hb hown (hts (.constant RX11 263 (55296)) (List.mem_of_getElem? (i := 2) rfl)) dX11_isLetter_12 ?_
      refine lv_icmp_lt (tgt := 25) hx hb dX11_isLetter_15 (by decide) (fun c_3 => ?_) (fun c_3 => ?_)
      · have tc_3 : x.toInt < 55296 := v_lt c_3
        refine lv_iconst (v := 1) hx hb dX11_isLetter_25 (by decide) ?_
        refine lv_goto (tgt := 30) hx hb dX11_isLetter_26 (by decide) ?_
        exact kl_z (v := 1) hQQ hx hb hr hlocks hS dX11_isLetter_30 (rfl) ⟨⟨hP, hD⟩, by decide, by show (1 = 1 ∧ 0 ≤ x.toInt ∧ x.toInt ≤ 65535 ∧ (x.toInt < 55296 ∨ 57343 < x.toInt)) ∨ (1 = 0 ∧ (x.toInt < 0 ∨ 65535 < x.toInt ∨ (55296 ≤ x.toInt ∧ x.toInt ≤ 57343))); omega⟩
      · have tc_3 : 55296 ≤ x.toInt := v_nlt c_3
        refine lv_iload_n hx hb dX11_isLetter_18 rfl (lv_at hl 0 rfl) ?_
        refine lv_ldcw hx hb hown (hts (.constant RX11 264 (57343)) (List.mem_of_getElem? (i := 3) rfl)) dX11_isLetter_19 ?_
        refine lv_icmp_le (tgt := 29) hx hb dX11_isLetter_22 (by decide) (fun c_4 => ?_) (fun c_4 => ?_)
        · have tc_4 : x.toInt ≤ 57343 := v_le c_4
          refine lv_iconst (v := 0) hx hb dX11_isLetter_29 (by decide) ?_
          exact kl_z (v := 0) hQQ hx hb hr hlocks hS dX11_isLetter_30 (rfl) ⟨⟨hP, hD⟩, by decide, by show (0 = 1 ∧ 0 ≤ x.toInt ∧ x.toInt ≤ 65535 ∧ (x.toInt < 55296 ∨ 57343 < x.toInt)) ∨ (0 = 0 ∧ (x.toInt < 0 ∨ 65535 < x.toInt ∨ (55296 ≤ x.toInt ∧ x.toInt ≤ 57343))); omega⟩
        · have tc_4 : 57343 < x.toInt := v_nle c_4
          refine lv_iconst (v := 1) hx hb dX11_isLetter_25 (by decide) ?_
          refine lv_goto (tgt := 30) hx hb dX11_isLetter_26 (by decide) ?_
          exact kl_z (v := 1) hQQ hx hb hr hlocks hS dX11_isLetter_30 (rfl) ⟨⟨hP, hD⟩, by decide, by show (1 = 1 ∧ 0 ≤ x.toInt ∧ x.toInt ≤ 65535 ∧ (x.toInt < 55296 ∨ 57343 < x.toInt)) ∨ (1 = 0 ∧ (x.toInt < 0 ∨ 65535 < x.toInt ∨ (55296 ≤ x.toInt ∧ x.toInt ≤ 57343))); omega⟩

end

/-! 24.a.rows -/
section
set_option maxRecDepth 100000 in
theorem dA16_cX2_known : kDec cX2_known [(0, .iload_n 0, 1), (1, .ifCond .lt 12, 3), (13, .iconst 0, 1), (14, .ireturn, 1), (4, .iload_n 0, 1), (5, .iconst 5, 1), (6, .if_icmp .gt 7, 3), (9, .iconst 1, 1), (10, .goto 4, 3)] = true := by decide +kernel
theorem dX2_known_0 : decode cX2_known 0 = .ok (.iload_n 0, 1) := kDec_at dA16_cX2_known 0 rfl
theorem dX2_known_1 : decode cX2_known 1 = .ok (.ifCond .lt 12, 3) := kDec_at dA16_cX2_known 1 rfl
theorem dX2_known_13 : decode cX2_known 13 = .ok (.iconst 0, 1) := kDec_at dA16_cX2_known 2 rfl
theorem dX2_known_14 : decode cX2_known 14 = .ok (.ireturn, 1) := kDec_at dA16_cX2_known 3 rfl
theorem dX2_known_4 : decode cX2_known 4 = .ok (.iload_n 0, 1) := kDec_at dA16_cX2_known 4 rfl
theorem dX2_known_5 : decode cX2_known 5 = .ok (.iconst 5, 1) := kDec_at dA16_cX2_known 5 rfl
theorem dX2_known_6 : decode cX2_known 6 = .ok (.if_icmp .gt 7, 3) := kDec_at dA16_cX2_known 6 rfl
theorem dX2_known_9 : decode cX2_known 9 = .ok (.iconst 1, 1) := kDec_at dA16_cX2_known 7 rfl
theorem dX2_known_10 : decode cX2_known 10 = .ok (.goto 4, 3) := kDec_at dA16_cX2_known 8 rfl
set_option maxRecDepth 100000 in
theorem dA17_cX2_toldCode : kDec cX2_toldCode [(0, .iload_n 1, 1), (1, .iconst 4, 1), (2, .if_icmp .ne 10, 3), (5, .aload_n 0, 1), (6, .getfield 12, 3), (9, .goto 16, 3), (25, .areturn, 1), (12, .iload_n 1, 1), (13, .iconst 5, 1), (14, .if_icmp .ne 10, 3), (17, .aload_n 0, 1), (18, .getfield 18, 3), (21, .goto 4, 3), (24, .aconst_null, 1)] = true := by decide +kernel
theorem dX2_toldCode_0 : decode cX2_toldCode 0 = .ok (.iload_n 1, 1) := kDec_at dA17_cX2_toldCode 0 rfl
theorem dX2_toldCode_1 : decode cX2_toldCode 1 = .ok (.iconst 4, 1) := kDec_at dA17_cX2_toldCode 1 rfl
theorem dX2_toldCode_2 : decode cX2_toldCode 2 = .ok (.if_icmp .ne 10, 3) := kDec_at dA17_cX2_toldCode 2 rfl
theorem dX2_toldCode_5 : decode cX2_toldCode 5 = .ok (.aload_n 0, 1) := kDec_at dA17_cX2_toldCode 3 rfl
theorem dX2_toldCode_6 : decode cX2_toldCode 6 = .ok (.getfield 12, 3) := kDec_at dA17_cX2_toldCode 4 rfl
theorem dX2_toldCode_9 : decode cX2_toldCode 9 = .ok (.goto 16, 3) := kDec_at dA17_cX2_toldCode 5 rfl
theorem dX2_toldCode_25 : decode cX2_toldCode 25 = .ok (.areturn, 1) := kDec_at dA17_cX2_toldCode 6 rfl
theorem dX2_toldCode_12 : decode cX2_toldCode 12 = .ok (.iload_n 1, 1) := kDec_at dA17_cX2_toldCode 7 rfl
theorem dX2_toldCode_13 : decode cX2_toldCode 13 = .ok (.iconst 5, 1) := kDec_at dA17_cX2_toldCode 8 rfl
theorem dX2_toldCode_14 : decode cX2_toldCode 14 = .ok (.if_icmp .ne 10, 3) := kDec_at dA17_cX2_toldCode 9 rfl
theorem dX2_toldCode_17 : decode cX2_toldCode 17 = .ok (.aload_n 0, 1) := kDec_at dA17_cX2_toldCode 10 rfl
theorem dX2_toldCode_18 : decode cX2_toldCode 18 = .ok (.getfield 18, 3) := kDec_at dA17_cX2_toldCode 11 rfl
theorem dX2_toldCode_21 : decode cX2_toldCode 21 = .ok (.goto 4, 3) := kDec_at dA17_cX2_toldCode 12 rfl
theorem dX2_toldCode_24 : decode cX2_toldCode 24 = .ok (.aconst_null, 1) := kDec_at dA17_cX2_toldCode 13 rfl
set_option maxRecDepth 100000 in
theorem dA18_cX2_lengthOf : kDec cX2_lengthOf [(0, .aload_n 0, 1), (1, .iload_n 1, 1), (2, .invokevirtual 21, 3), (5, .astore_n 2, 1), (6, .aload_n 2, 1), (7, .ifnonnull 7, 3), (14, .aload_n 2, 1), (15, .invokevirtual 25, 3), (18, .ireturn, 1), (10, .iconst (-1), 1), (11, .goto 7, 3)] = true := by decide +kernel
theorem dX2_lengthOf_0 : decode cX2_lengthOf 0 = .ok (.aload_n 0, 1) := kDec_at dA18_cX2_lengthOf 0 rfl
theorem dX2_lengthOf_1 : decode cX2_lengthOf 1 = .ok (.iload_n 1, 1) := kDec_at dA18_cX2_lengthOf 1 rfl
theorem dX2_lengthOf_2 : decode cX2_lengthOf 2 = .ok (.invokevirtual 21, 3) := kDec_at dA18_cX2_lengthOf 2 rfl
theorem dX2_lengthOf_5 : decode cX2_lengthOf 5 = .ok (.astore_n 2, 1) := kDec_at dA18_cX2_lengthOf 3 rfl
theorem dX2_lengthOf_6 : decode cX2_lengthOf 6 = .ok (.aload_n 2, 1) := kDec_at dA18_cX2_lengthOf 4 rfl
theorem dX2_lengthOf_7 : decode cX2_lengthOf 7 = .ok (.ifnonnull 7, 3) := kDec_at dA18_cX2_lengthOf 5 rfl
theorem dX2_lengthOf_14 : decode cX2_lengthOf 14 = .ok (.aload_n 2, 1) := kDec_at dA18_cX2_lengthOf 6 rfl
theorem dX2_lengthOf_15 : decode cX2_lengthOf 15 = .ok (.invokevirtual 25, 3) := kDec_at dA18_cX2_lengthOf 7 rfl
theorem dX2_lengthOf_18 : decode cX2_lengthOf 18 = .ok (.ireturn, 1) := kDec_at dA18_cX2_lengthOf 8 rfl
theorem dX2_lengthOf_10 : decode cX2_lengthOf 10 = .ok (.iconst (-1), 1) := kDec_at dA18_cX2_lengthOf 9 rfl
theorem dX2_lengthOf_11 : decode cX2_lengthOf 11 = .ok (.goto 7, 3) := kDec_at dA18_cX2_lengthOf 10 rfl
set_option maxRecDepth 20000 in
theorem ggX2_lengthOf_X2_toldCode : GoodIn wsX2_lengthOf wsX2_toldCode := goodIn_r _ [5, 6, 7, 14, 15] rfl (by decide +kernel)
set_option maxRecDepth 20000 in
theorem gX2_lengthOf_X2_toldCode : GoodIn wsX2_lengthOf (wsV RX2 21 RX2 yX2_toldCode wsX2_toldCode) := goodIn_app (goodIn_r _ [1, 2, 3, 4] rfl (by decide +kernel)) ggX2_lengthOf_X2_toldCode
set_option maxRecDepth 20000 in
theorem ggX2_lengthOf_X10_length : GoodIn wsX2_lengthOf wsX10_length := goodIn_r _ [12, 13, 16, 17, 18, 19] rfl (by decide +kernel)
set_option maxRecDepth 20000 in
theorem gX2_lengthOf_X10_length : GoodIn wsX2_lengthOf (wsV RX2 25 RX10 yX10_length wsX10_length) := goodIn_app (goodIn_r _ [8, 9, 10, 11] rfl (by decide +kernel)) ggX2_lengthOf_X10_length
set_option maxRecDepth 100000 in
theorem dA19_cX2_letterIn : kDec cX2_letterIn [(0, .iload_n 0, 1), (1, .iconst 4, 1), (2, .ishr, 1), (3, .ireturn, 1)] = true := by decide +kernel
theorem dX2_letterIn_0 : decode cX2_letterIn 0 = .ok (.iload_n 0, 1) := kDec_at dA19_cX2_letterIn 0 rfl
theorem dX2_letterIn_1 : decode cX2_letterIn 1 = .ok (.iconst 4, 1) := kDec_at dA19_cX2_letterIn 1 rfl
theorem dX2_letterIn_2 : decode cX2_letterIn 2 = .ok (.ishr, 1) := kDec_at dA19_cX2_letterIn 2 rfl
theorem dX2_letterIn_3 : decode cX2_letterIn 3 = .ok (.ireturn, 1) := kDec_at dA19_cX2_letterIn 3 rfl
set_option maxRecDepth 100000 in
theorem dA20_cX2_bytesIn : kDec cX2_bytesIn [(0, .iload_n 0, 1), (1, .bipush 15, 2), (3, .iand, 1), (4, .ireturn, 1)] = true := by decide +kernel
theorem dX2_bytesIn_0 : decode cX2_bytesIn 0 = .ok (.iload_n 0, 1) := kDec_at dA20_cX2_bytesIn 0 rfl
theorem dX2_bytesIn_1 : decode cX2_bytesIn 1 = .ok (.bipush 15, 2) := kDec_at dA20_cX2_bytesIn 1 rfl
theorem dX2_bytesIn_3 : decode cX2_bytesIn 3 = .ok (.iand, 1) := kDec_at dA20_cX2_bytesIn 2 rfl
theorem dX2_bytesIn_4 : decode cX2_bytesIn 4 = .ok (.ireturn, 1) := kDec_at dA20_cX2_bytesIn 3 rfl
set_option maxRecDepth 100000 in
theorem dA21_cX2_found : kDec cX2_found [(0, .iload_n 0, 1), (1, .iconst (-1), 1), (2, .if_icmp .ne 7, 3), (9, .iload_n 0, 1), (10, .iconst 4, 1), (11, .ishl, 1), (12, .iload_n 1, 1), (13, .iadd, 1), (14, .ireturn, 1), (5, .iconst (-1), 1), (6, .goto 8, 3)] = true := by decide +kernel
theorem dX2_found_0 : decode cX2_found 0 = .ok (.iload_n 0, 1) := kDec_at dA21_cX2_found 0 rfl
theorem dX2_found_1 : decode cX2_found 1 = .ok (.iconst (-1), 1) := kDec_at dA21_cX2_found 1 rfl
theorem dX2_found_2 : decode cX2_found 2 = .ok (.if_icmp .ne 7, 3) := kDec_at dA21_cX2_found 2 rfl
theorem dX2_found_9 : decode cX2_found 9 = .ok (.iload_n 0, 1) := kDec_at dA21_cX2_found 3 rfl
theorem dX2_found_10 : decode cX2_found 10 = .ok (.iconst 4, 1) := kDec_at dA21_cX2_found 4 rfl
theorem dX2_found_11 : decode cX2_found 11 = .ok (.ishl, 1) := kDec_at dA21_cX2_found 5 rfl
theorem dX2_found_12 : decode cX2_found 12 = .ok (.iload_n 1, 1) := kDec_at dA21_cX2_found 6 rfl
theorem dX2_found_13 : decode cX2_found 13 = .ok (.iadd, 1) := kDec_at dA21_cX2_found 7 rfl
theorem dX2_found_14 : decode cX2_found 14 = .ok (.ireturn, 1) := kDec_at dA21_cX2_found 8 rfl
theorem dX2_found_5 : decode cX2_found 5 = .ok (.iconst (-1), 1) := kDec_at dA21_cX2_found 9 rfl
theorem dX2_found_6 : decode cX2_found 6 = .ok (.goto 8, 3) := kDec_at dA21_cX2_found 10 rfl
set_option maxRecDepth 100000 in
theorem dA22_cX2_letterAlone : kDec cX2_letterAlone [(0, .iload_n 1, 1), (1, .tableswitch 65 0 3 #[31, 44, 31, 46], 31), (32, .iload_n 2, 1), (33, .sipush 128, 3), (36, .if_icmp .ge 7, 3), (43, .iconst (-1), 1), (44, .ireturn, 1), (39, .iload_n 2, 1), (40, .goto 4, 3), (45, .iload_n 2, 1), (46, .ireturn, 1), (47, .iload_n 2, 1), (48, .sipush 128, 3), (51, .if_icmp .ge 13, 3), (64, .iconst (-1), 1), (65, .ireturn, 1), (54, .iload_n 2, 1), (55, .bipush 38, 2), (57, .if_icmp .eq 7, 3), (60, .iload_n 2, 1), (61, .goto 4, 3), (66, .aload_n 0, 1), (67, .iload_n 1, 1), (68, .invokevirtual 21, 3)] = true := by decide +kernel
theorem dX2_letterAlone_0 : decode cX2_letterAlone 0 = .ok (.iload_n 1, 1) := kDec_at dA22_cX2_letterAlone 0 rfl
theorem dX2_letterAlone_1 : decode cX2_letterAlone 1 = .ok (.tableswitch 65 0 3 #[31, 44, 31, 46], 31) := kDec_at dA22_cX2_letterAlone 1 rfl
theorem dX2_letterAlone_32 : decode cX2_letterAlone 32 = .ok (.iload_n 2, 1) := kDec_at dA22_cX2_letterAlone 2 rfl
theorem dX2_letterAlone_33 : decode cX2_letterAlone 33 = .ok (.sipush 128, 3) := kDec_at dA22_cX2_letterAlone 3 rfl
theorem dX2_letterAlone_36 : decode cX2_letterAlone 36 = .ok (.if_icmp .ge 7, 3) := kDec_at dA22_cX2_letterAlone 4 rfl
theorem dX2_letterAlone_43 : decode cX2_letterAlone 43 = .ok (.iconst (-1), 1) := kDec_at dA22_cX2_letterAlone 5 rfl
theorem dX2_letterAlone_44 : decode cX2_letterAlone 44 = .ok (.ireturn, 1) := kDec_at dA22_cX2_letterAlone 6 rfl
theorem dX2_letterAlone_39 : decode cX2_letterAlone 39 = .ok (.iload_n 2, 1) := kDec_at dA22_cX2_letterAlone 7 rfl
theorem dX2_letterAlone_40 : decode cX2_letterAlone 40 = .ok (.goto 4, 3) := kDec_at dA22_cX2_letterAlone 8 rfl
theorem dX2_letterAlone_45 : decode cX2_letterAlone 45 = .ok (.iload_n 2, 1) := kDec_at dA22_cX2_letterAlone 9 rfl
theorem dX2_letterAlone_46 : decode cX2_letterAlone 46 = .ok (.ireturn, 1) := kDec_at dA22_cX2_letterAlone 10 rfl
theorem dX2_letterAlone_47 : decode cX2_letterAlone 47 = .ok (.iload_n 2, 1) := kDec_at dA22_cX2_letterAlone 11 rfl
theorem dX2_letterAlone_48 : decode cX2_letterAlone 48 = .ok (.sipush 128, 3) := kDec_at dA22_cX2_letterAlone 12 rfl
theorem dX2_letterAlone_51 : decode cX2_letterAlone 51 = .ok (.if_icmp .ge 13, 3) := kDec_at dA22_cX2_letterAlone 13 rfl
theorem dX2_letterAlone_64 : decode cX2_letterAlone 64 = .ok (.iconst (-1), 1) := kDec_at dA22_cX2_letterAlone 14 rfl
theorem dX2_letterAlone_65 : decode cX2_letterAlone 65 = .ok (.ireturn, 1) := kDec_at dA22_cX2_letterAlone 15 rfl
theorem dX2_letterAlone_54 : decode cX2_letterAlone 54 = .ok (.iload_n 2, 1) := kDec_at dA22_cX2_letterAlone 16 rfl
theorem dX2_letterAlone_55 : decode cX2_letterAlone 55 = .ok (.bipush 38, 2) := kDec_at dA22_cX2_letterAlone 17 rfl
theorem dX2_letterAlone_57 : decode cX2_letterAlone 57 = .ok (.if_icmp .eq 7, 3) := kDec_at dA22_cX2_letterAlone 18 rfl
theorem dX2_letterAlone_60 : decode cX2_letterAlone 60 = .ok (.iload_n 2, 1) := kDec_at dA22_cX2_letterAlone 19 rfl
theorem dX2_letterAlone_61 : decode cX2_letterAlone 61 = .ok (.goto 4, 3) := kDec_at dA22_cX2_letterAlone 20 rfl
theorem dX2_letterAlone_66 : decode cX2_letterAlone 66 = .ok (.aload_n 0, 1) := kDec_at dA22_cX2_letterAlone 21 rfl
theorem dX2_letterAlone_67 : decode cX2_letterAlone 67 = .ok (.iload_n 1, 1) := kDec_at dA22_cX2_letterAlone 22 rfl
theorem dX2_letterAlone_68 : decode cX2_letterAlone 68 = .ok (.invokevirtual 21, 3) := kDec_at dA22_cX2_letterAlone 23 rfl
set_option maxRecDepth 20000 in
theorem ggX2_letterAlone_X2_toldCode : GoodIn wsX2_letterAlone wsX2_toldCode := goodIn_r _ [5, 6, 7, 14, 15] rfl (by decide +kernel)
set_option maxRecDepth 20000 in
theorem gX2_letterAlone_X2_toldCode : GoodIn wsX2_letterAlone (wsV RX2 21 RX2 yX2_toldCode wsX2_toldCode) := goodIn_app (goodIn_r _ [1, 2, 3, 4] rfl (by decide +kernel)) ggX2_letterAlone_X2_toldCode
set_option maxRecDepth 100000 in
theorem dA23_cX2_letterAlone : kDec cX2_letterAlone [(71, .astore_n 3, 1), (72, .aload_n 3, 1), (73, .ifnonnull 7, 3), (80, .aload_n 3, 1), (81, .iload_n 2, 1), (82, .invokevirtual 29, 3), (85, .ireturn, 1), (76, .iconst (-1), 1), (77, .goto 8, 3)] = true := by decide +kernel
theorem dX2_letterAlone_71 : decode cX2_letterAlone 71 = .ok (.astore_n 3, 1) := kDec_at dA23_cX2_letterAlone 0 rfl
theorem dX2_letterAlone_72 : decode cX2_letterAlone 72 = .ok (.aload_n 3, 1) := kDec_at dA23_cX2_letterAlone 1 rfl
theorem dX2_letterAlone_73 : decode cX2_letterAlone 73 = .ok (.ifnonnull 7, 3) := kDec_at dA23_cX2_letterAlone 2 rfl
theorem dX2_letterAlone_80 : decode cX2_letterAlone 80 = .ok (.aload_n 3, 1) := kDec_at dA23_cX2_letterAlone 3 rfl
theorem dX2_letterAlone_81 : decode cX2_letterAlone 81 = .ok (.iload_n 2, 1) := kDec_at dA23_cX2_letterAlone 4 rfl
theorem dX2_letterAlone_82 : decode cX2_letterAlone 82 = .ok (.invokevirtual 29, 3) := kDec_at dA23_cX2_letterAlone 5 rfl
theorem dX2_letterAlone_85 : decode cX2_letterAlone 85 = .ok (.ireturn, 1) := kDec_at dA23_cX2_letterAlone 6 rfl
theorem dX2_letterAlone_76 : decode cX2_letterAlone 76 = .ok (.iconst (-1), 1) := kDec_at dA23_cX2_letterAlone 7 rfl
theorem dX2_letterAlone_77 : decode cX2_letterAlone 77 = .ok (.goto 8, 3) := kDec_at dA23_cX2_letterAlone 8 rfl
set_option maxRecDepth 20000 in
theorem ggX2_letterAlone_X10_letterFor : GoodIn wsX2_letterAlone wsX10_letterFor := goodIn_r _ [12, 13, 16, 17, 18, 19] rfl (by decide +kernel)
set_option maxRecDepth 20000 in
theorem gX2_letterAlone_X10_letterFor : GoodIn wsX2_letterAlone (wsV RX2 29 RX10 yX10_letterFor wsX10_letterFor) := goodIn_app (goodIn_r _ [8, 9, 10, 11] rfl (by decide +kernel)) ggX2_letterAlone_X10_letterFor
set_option maxRecDepth 100000 in
theorem dA24_cX2_isNumbered : kDec cX2_isNumbered [(0, .iload_n 0, 1), (1, .sipush 128, 3), (4, .if_icmp .ge 9, 3), (13, .iconst 1, 1), (14, .goto 4, 3), (18, .ireturn, 1), (7, .iload_n 0, 1), (8, .bipush 38, 2), (10, .if_icmp .ne 7, 3), (17, .iconst 0, 1)] = true := by decide +kernel
theorem dX2_isNumbered_0 : decode cX2_isNumbered 0 = .ok (.iload_n 0, 1) := kDec_at dA24_cX2_isNumbered 0 rfl
theorem dX2_isNumbered_1 : decode cX2_isNumbered 1 = .ok (.sipush 128, 3) := kDec_at dA24_cX2_isNumbered 1 rfl
theorem dX2_isNumbered_4 : decode cX2_isNumbered 4 = .ok (.if_icmp .ge 9, 3) := kDec_at dA24_cX2_isNumbered 2 rfl
theorem dX2_isNumbered_13 : decode cX2_isNumbered 13 = .ok (.iconst 1, 1) := kDec_at dA24_cX2_isNumbered 3 rfl
theorem dX2_isNumbered_14 : decode cX2_isNumbered 14 = .ok (.goto 4, 3) := kDec_at dA24_cX2_isNumbered 4 rfl
theorem dX2_isNumbered_18 : decode cX2_isNumbered 18 = .ok (.ireturn, 1) := kDec_at dA24_cX2_isNumbered 5 rfl
theorem dX2_isNumbered_7 : decode cX2_isNumbered 7 = .ok (.iload_n 0, 1) := kDec_at dA24_cX2_isNumbered 6 rfl
theorem dX2_isNumbered_8 : decode cX2_isNumbered 8 = .ok (.bipush 38, 2) := kDec_at dA24_cX2_isNumbered 7 rfl
theorem dX2_isNumbered_10 : decode cX2_isNumbered 10 = .ok (.if_icmp .ne 7, 3) := kDec_at dA24_cX2_isNumbered 8 rfl
theorem dX2_isNumbered_17 : decode cX2_isNumbered 17 = .ok (.iconst 0, 1) := kDec_at dA24_cX2_isNumbered 9 rfl
set_option maxRecDepth 100000 in
theorem dA25_cX2_decodeMany : kDec cX2_decodeMany [(0, .aload_n 0, 1), (1, .iload_n 1, 1), (2, .invokevirtual 33, 3), (5, .istore_n 3, 1), (6, .iload_n 3, 1), (7, .sipush 224, 3), (10, .if_icmp .lt 7, 3), (17, .iconst 2, 1), (18, .istore 4, 2), (20, .iload_n 3, 1), (21, .sipush 192, 3), (24, .if_icmp .lt 18, 3), (42, .iconst (-1), 1), (43, .ireturn, 1), (27, .iload_n 3, 1), (28, .sipush 239, 3), (31, .if_icmp .gt 11, 3), (34, .iload 4, 2), (36, .iload_n 2, 1), (37, .iload_n 1, 1), (38, .isub, 1), (39, .if_icmp .le 5, 3), (44, .iload 4, 2), (46, .iconst 3, 1)] = true := by decide +kernel
theorem dX2_decodeMany_0 : decode cX2_decodeMany 0 = .ok (.aload_n 0, 1) := kDec_at dA25_cX2_decodeMany 0 rfl
theorem dX2_decodeMany_1 : decode cX2_decodeMany 1 = .ok (.iload_n 1, 1) := kDec_at dA25_cX2_decodeMany 1 rfl
theorem dX2_decodeMany_2 : decode cX2_decodeMany 2 = .ok (.invokevirtual 33, 3) := kDec_at dA25_cX2_decodeMany 2 rfl
theorem dX2_decodeMany_5 : decode cX2_decodeMany 5 = .ok (.istore_n 3, 1) := kDec_at dA25_cX2_decodeMany 3 rfl
theorem dX2_decodeMany_6 : decode cX2_decodeMany 6 = .ok (.iload_n 3, 1) := kDec_at dA25_cX2_decodeMany 4 rfl
theorem dX2_decodeMany_7 : decode cX2_decodeMany 7 = .ok (.sipush 224, 3) := kDec_at dA25_cX2_decodeMany 5 rfl
theorem dX2_decodeMany_10 : decode cX2_decodeMany 10 = .ok (.if_icmp .lt 7, 3) := kDec_at dA25_cX2_decodeMany 6 rfl
theorem dX2_decodeMany_17 : decode cX2_decodeMany 17 = .ok (.iconst 2, 1) := kDec_at dA25_cX2_decodeMany 7 rfl
theorem dX2_decodeMany_18 : decode cX2_decodeMany 18 = .ok (.istore 4, 2) := kDec_at dA25_cX2_decodeMany 8 rfl
theorem dX2_decodeMany_20 : decode cX2_decodeMany 20 = .ok (.iload_n 3, 1) := kDec_at dA25_cX2_decodeMany 9 rfl
theorem dX2_decodeMany_21 : decode cX2_decodeMany 21 = .ok (.sipush 192, 3) := kDec_at dA25_cX2_decodeMany 10 rfl
theorem dX2_decodeMany_24 : decode cX2_decodeMany 24 = .ok (.if_icmp .lt 18, 3) := kDec_at dA25_cX2_decodeMany 11 rfl
theorem dX2_decodeMany_42 : decode cX2_decodeMany 42 = .ok (.iconst (-1), 1) := kDec_at dA25_cX2_decodeMany 12 rfl
theorem dX2_decodeMany_43 : decode cX2_decodeMany 43 = .ok (.ireturn, 1) := kDec_at dA25_cX2_decodeMany 13 rfl
theorem dX2_decodeMany_27 : decode cX2_decodeMany 27 = .ok (.iload_n 3, 1) := kDec_at dA25_cX2_decodeMany 14 rfl
theorem dX2_decodeMany_28 : decode cX2_decodeMany 28 = .ok (.sipush 239, 3) := kDec_at dA25_cX2_decodeMany 15 rfl
theorem dX2_decodeMany_31 : decode cX2_decodeMany 31 = .ok (.if_icmp .gt 11, 3) := kDec_at dA25_cX2_decodeMany 16 rfl
theorem dX2_decodeMany_34 : decode cX2_decodeMany 34 = .ok (.iload 4, 2) := kDec_at dA25_cX2_decodeMany 17 rfl
theorem dX2_decodeMany_36 : decode cX2_decodeMany 36 = .ok (.iload_n 2, 1) := kDec_at dA25_cX2_decodeMany 18 rfl
theorem dX2_decodeMany_37 : decode cX2_decodeMany 37 = .ok (.iload_n 1, 1) := kDec_at dA25_cX2_decodeMany 19 rfl
theorem dX2_decodeMany_38 : decode cX2_decodeMany 38 = .ok (.isub, 1) := kDec_at dA25_cX2_decodeMany 20 rfl
theorem dX2_decodeMany_39 : decode cX2_decodeMany 39 = .ok (.if_icmp .le 5, 3) := kDec_at dA25_cX2_decodeMany 21 rfl
theorem dX2_decodeMany_44 : decode cX2_decodeMany 44 = .ok (.iload 4, 2) := kDec_at dA25_cX2_decodeMany 22 rfl
theorem dX2_decodeMany_46 : decode cX2_decodeMany 46 = .ok (.iconst 3, 1) := kDec_at dA25_cX2_decodeMany 23 rfl
set_option maxRecDepth 20000 in
theorem ggX2_decodeMany_X5_get : GoodIn wsX2_decodeMany wsX5_get := goodIn_r _ [5, 6, 7, 18, 19] rfl (by decide +kernel)
set_option maxRecDepth 20000 in
theorem gX2_decodeMany_X5_get : GoodIn wsX2_decodeMany (wsV RX2 33 RX5 yX5_get wsX5_get) := goodIn_app (goodIn_r _ [1, 2, 3, 4] rfl (by decide +kernel)) ggX2_decodeMany_X5_get
set_option maxRecDepth 100000 in
theorem dA26_cX2_decodeMany : kDec cX2_decodeMany [(47, .if_icmp .ne 11, 3), (58, .iload_n 3, 1), (59, .sipush 192, 3), (62, .isub, 1), (63, .istore 5, 2), (65, .iconst 1, 1), (66, .istore 6, 2), (68, .iload 6, 2), (70, .iload 4, 2), (72, .if_icmp .ge 51, 3), (123, .iload 5, 2), (125, .iload 4, 2), (127, .iconst 3, 1), (128, .if_icmp .ne 9, 3), (137, .sipush 128, 3), (140, .if_icmp .lt 7, 3), (147, .iconst 0, 1), (148, .istore 6, 2), (150, .iload 6, 2), (152, .ifCond .eq 21, 3), (173, .iconst (-1), 1), (174, .ireturn, 1), (143, .iconst 1, 1), (144, .goto 4, 3)] = true := by decide +kernel
theorem dX2_decodeMany_47 : decode cX2_decodeMany 47 = .ok (.if_icmp .ne 11, 3) := kDec_at dA26_cX2_decodeMany 0 rfl
theorem dX2_decodeMany_58 : decode cX2_decodeMany 58 = .ok (.iload_n 3, 1) := kDec_at dA26_cX2_decodeMany 1 rfl
theorem dX2_decodeMany_59 : decode cX2_decodeMany 59 = .ok (.sipush 192, 3) := kDec_at dA26_cX2_decodeMany 2 rfl
theorem dX2_decodeMany_62 : decode cX2_decodeMany 62 = .ok (.isub, 1) := kDec_at dA26_cX2_decodeMany 3 rfl
theorem dX2_decodeMany_63 : decode cX2_decodeMany 63 = .ok (.istore 5, 2) := kDec_at dA26_cX2_decodeMany 4 rfl
theorem dX2_decodeMany_65 : decode cX2_decodeMany 65 = .ok (.iconst 1, 1) := kDec_at dA26_cX2_decodeMany 5 rfl
theorem dX2_decodeMany_66 : decode cX2_decodeMany 66 = .ok (.istore 6, 2) := kDec_at dA26_cX2_decodeMany 6 rfl
theorem dX2_decodeMany_68 : decode cX2_decodeMany 68 = .ok (.iload 6, 2) := kDec_at dA26_cX2_decodeMany 7 rfl
theorem dX2_decodeMany_70 : decode cX2_decodeMany 70 = .ok (.iload 4, 2) := kDec_at dA26_cX2_decodeMany 8 rfl
theorem dX2_decodeMany_72 : decode cX2_decodeMany 72 = .ok (.if_icmp .ge 51, 3) := kDec_at dA26_cX2_decodeMany 9 rfl
theorem dX2_decodeMany_123 : decode cX2_decodeMany 123 = .ok (.iload 5, 2) := kDec_at dA26_cX2_decodeMany 10 rfl
theorem dX2_decodeMany_125 : decode cX2_decodeMany 125 = .ok (.iload 4, 2) := kDec_at dA26_cX2_decodeMany 11 rfl
theorem dX2_decodeMany_127 : decode cX2_decodeMany 127 = .ok (.iconst 3, 1) := kDec_at dA26_cX2_decodeMany 12 rfl
theorem dX2_decodeMany_128 : decode cX2_decodeMany 128 = .ok (.if_icmp .ne 9, 3) := kDec_at dA26_cX2_decodeMany 13 rfl
theorem dX2_decodeMany_137 : decode cX2_decodeMany 137 = .ok (.sipush 128, 3) := kDec_at dA26_cX2_decodeMany 14 rfl
theorem dX2_decodeMany_140 : decode cX2_decodeMany 140 = .ok (.if_icmp .lt 7, 3) := kDec_at dA26_cX2_decodeMany 15 rfl
theorem dX2_decodeMany_147 : decode cX2_decodeMany 147 = .ok (.iconst 0, 1) := kDec_at dA26_cX2_decodeMany 16 rfl
theorem dX2_decodeMany_148 : decode cX2_decodeMany 148 = .ok (.istore 6, 2) := kDec_at dA26_cX2_decodeMany 17 rfl
theorem dX2_decodeMany_150 : decode cX2_decodeMany 150 = .ok (.iload 6, 2) := kDec_at dA26_cX2_decodeMany 18 rfl
theorem dX2_decodeMany_152 : decode cX2_decodeMany 152 = .ok (.ifCond .eq 21, 3) := kDec_at dA26_cX2_decodeMany 19 rfl
theorem dX2_decodeMany_173 : decode cX2_decodeMany 173 = .ok (.iconst (-1), 1) := kDec_at dA26_cX2_decodeMany 20 rfl
theorem dX2_decodeMany_174 : decode cX2_decodeMany 174 = .ok (.ireturn, 1) := kDec_at dA26_cX2_decodeMany 21 rfl
theorem dX2_decodeMany_143 : decode cX2_decodeMany 143 = .ok (.iconst 1, 1) := kDec_at dA26_cX2_decodeMany 22 rfl
theorem dX2_decodeMany_144 : decode cX2_decodeMany 144 = .ok (.goto 4, 3) := kDec_at dA26_cX2_decodeMany 23 rfl
set_option maxRecDepth 100000 in
theorem dA27_cX2_decodeMany : kDec cX2_decodeMany [(155, .iload 5, 2), (157, .invokestatic 52, 3), (160, .ifCond .eq 13, 3), (163, .iload 5, 2), (165, .iload 4, 2), (167, .invokestatic 42, 3), (170, .goto 4, 3), (75, .aload_n 0, 1), (76, .iload_n 1, 1), (77, .iload 6, 2), (79, .iadd, 1), (80, .invokevirtual 33, 3), (83, .istore 7, 2), (85, .iload 7, 2), (87, .sipush 128, 3), (90, .if_icmp .lt 11, 3), (101, .iconst (-1), 1), (102, .ireturn, 1), (93, .iload 7, 2), (95, .sipush 191, 3), (98, .if_icmp .le 5, 3), (103, .iload 5, 2), (105, .bipush 64, 2), (107, .imul, 1)] = true := by decide +kernel
theorem dX2_decodeMany_155 : decode cX2_decodeMany 155 = .ok (.iload 5, 2) := kDec_at dA27_cX2_decodeMany 0 rfl
theorem dX2_decodeMany_157 : decode cX2_decodeMany 157 = .ok (.invokestatic 52, 3) := kDec_at dA27_cX2_decodeMany 1 rfl
theorem dX2_decodeMany_160 : decode cX2_decodeMany 160 = .ok (.ifCond .eq 13, 3) := kDec_at dA27_cX2_decodeMany 2 rfl
theorem dX2_decodeMany_163 : decode cX2_decodeMany 163 = .ok (.iload 5, 2) := kDec_at dA27_cX2_decodeMany 3 rfl
theorem dX2_decodeMany_165 : decode cX2_decodeMany 165 = .ok (.iload 4, 2) := kDec_at dA27_cX2_decodeMany 4 rfl
theorem dX2_decodeMany_167 : decode cX2_decodeMany 167 = .ok (.invokestatic 42, 3) := kDec_at dA27_cX2_decodeMany 5 rfl
theorem dX2_decodeMany_170 : decode cX2_decodeMany 170 = .ok (.goto 4, 3) := kDec_at dA27_cX2_decodeMany 6 rfl
theorem dX2_decodeMany_75 : decode cX2_decodeMany 75 = .ok (.aload_n 0, 1) := kDec_at dA27_cX2_decodeMany 7 rfl
theorem dX2_decodeMany_76 : decode cX2_decodeMany 76 = .ok (.iload_n 1, 1) := kDec_at dA27_cX2_decodeMany 8 rfl
theorem dX2_decodeMany_77 : decode cX2_decodeMany 77 = .ok (.iload 6, 2) := kDec_at dA27_cX2_decodeMany 9 rfl
theorem dX2_decodeMany_79 : decode cX2_decodeMany 79 = .ok (.iadd, 1) := kDec_at dA27_cX2_decodeMany 10 rfl
theorem dX2_decodeMany_80 : decode cX2_decodeMany 80 = .ok (.invokevirtual 33, 3) := kDec_at dA27_cX2_decodeMany 11 rfl
theorem dX2_decodeMany_83 : decode cX2_decodeMany 83 = .ok (.istore 7, 2) := kDec_at dA27_cX2_decodeMany 12 rfl
theorem dX2_decodeMany_85 : decode cX2_decodeMany 85 = .ok (.iload 7, 2) := kDec_at dA27_cX2_decodeMany 13 rfl
theorem dX2_decodeMany_87 : decode cX2_decodeMany 87 = .ok (.sipush 128, 3) := kDec_at dA27_cX2_decodeMany 14 rfl
theorem dX2_decodeMany_90 : decode cX2_decodeMany 90 = .ok (.if_icmp .lt 11, 3) := kDec_at dA27_cX2_decodeMany 15 rfl
theorem dX2_decodeMany_101 : decode cX2_decodeMany 101 = .ok (.iconst (-1), 1) := kDec_at dA27_cX2_decodeMany 16 rfl
theorem dX2_decodeMany_102 : decode cX2_decodeMany 102 = .ok (.ireturn, 1) := kDec_at dA27_cX2_decodeMany 17 rfl
theorem dX2_decodeMany_93 : decode cX2_decodeMany 93 = .ok (.iload 7, 2) := kDec_at dA27_cX2_decodeMany 18 rfl
theorem dX2_decodeMany_95 : decode cX2_decodeMany 95 = .ok (.sipush 191, 3) := kDec_at dA27_cX2_decodeMany 19 rfl
theorem dX2_decodeMany_98 : decode cX2_decodeMany 98 = .ok (.if_icmp .le 5, 3) := kDec_at dA27_cX2_decodeMany 20 rfl
theorem dX2_decodeMany_103 : decode cX2_decodeMany 103 = .ok (.iload 5, 2) := kDec_at dA27_cX2_decodeMany 21 rfl
theorem dX2_decodeMany_105 : decode cX2_decodeMany 105 = .ok (.bipush 64, 2) := kDec_at dA27_cX2_decodeMany 22 rfl
theorem dX2_decodeMany_107 : decode cX2_decodeMany 107 = .ok (.imul, 1) := kDec_at dA27_cX2_decodeMany 23 rfl
set_option maxRecDepth 20000 in
theorem ggX2_decodeMany_X11_isLetter : GoodIn wsX2_decodeMany wsX11_isLetter := goodIn_r _ [10, 11, 12, 13] rfl (by decide +kernel)
set_option maxRecDepth 20000 in
theorem gX2_decodeMany_X11_isLetter_n52 : GoodIn wsX2_decodeMany (wsX11_isLetter) := ggX2_decodeMany_X11_isLetter
set_option maxRecDepth 20000 in
theorem ggX2_decodeMany_X2_found : GoodIn wsX2_decodeMany wsX2_found := goodIn_r _ [17] rfl (by decide +kernel)
set_option maxRecDepth 20000 in
theorem gX2_decodeMany_X2_found : GoodIn wsX2_decodeMany (va_wsS RX2 42 yX2_found wsX2_found) := goodIn_app (goodIn_r _ [14, 15, 16] rfl (by decide +kernel)) ggX2_decodeMany_X2_found
set_option maxRecDepth 100000 in
theorem dA28_cX2_decodeMany : kDec cX2_decodeMany [(108, .iload 7, 2), (110, .iadd, 1), (111, .sipush 128, 3), (114, .isub, 1), (115, .istore 5, 2), (117, .iinc 6 1, 3), (120, .goto (-52), 3), (13, .iconst 3, 1), (14, .goto 4, 3), (50, .iload_n 3, 1), (51, .sipush 224, 3), (54, .isub, 1), (55, .goto 8, 3), (131, .sipush 2048, 3), (134, .goto 6, 3)] = true := by decide +kernel
theorem dX2_decodeMany_108 : decode cX2_decodeMany 108 = .ok (.iload 7, 2) := kDec_at dA28_cX2_decodeMany 0 rfl
theorem dX2_decodeMany_110 : decode cX2_decodeMany 110 = .ok (.iadd, 1) := kDec_at dA28_cX2_decodeMany 1 rfl
theorem dX2_decodeMany_111 : decode cX2_decodeMany 111 = .ok (.sipush 128, 3) := kDec_at dA28_cX2_decodeMany 2 rfl
theorem dX2_decodeMany_114 : decode cX2_decodeMany 114 = .ok (.isub, 1) := kDec_at dA28_cX2_decodeMany 3 rfl
theorem dX2_decodeMany_115 : decode cX2_decodeMany 115 = .ok (.istore 5, 2) := kDec_at dA28_cX2_decodeMany 4 rfl
theorem dX2_decodeMany_117 : decode cX2_decodeMany 117 = .ok (.iinc 6 1, 3) := kDec_at dA28_cX2_decodeMany 5 rfl
theorem dX2_decodeMany_120 : decode cX2_decodeMany 120 = .ok (.goto (-52), 3) := kDec_at dA28_cX2_decodeMany 6 rfl
theorem dX2_decodeMany_13 : decode cX2_decodeMany 13 = .ok (.iconst 3, 1) := kDec_at dA28_cX2_decodeMany 7 rfl
theorem dX2_decodeMany_14 : decode cX2_decodeMany 14 = .ok (.goto 4, 3) := kDec_at dA28_cX2_decodeMany 8 rfl
theorem dX2_decodeMany_50 : decode cX2_decodeMany 50 = .ok (.iload_n 3, 1) := kDec_at dA28_cX2_decodeMany 9 rfl
theorem dX2_decodeMany_51 : decode cX2_decodeMany 51 = .ok (.sipush 224, 3) := kDec_at dA28_cX2_decodeMany 10 rfl
theorem dX2_decodeMany_54 : decode cX2_decodeMany 54 = .ok (.isub, 1) := kDec_at dA28_cX2_decodeMany 11 rfl
theorem dX2_decodeMany_55 : decode cX2_decodeMany 55 = .ok (.goto 8, 3) := kDec_at dA28_cX2_decodeMany 12 rfl
theorem dX2_decodeMany_131 : decode cX2_decodeMany 131 = .ok (.sipush 2048, 3) := kDec_at dA28_cX2_decodeMany 13 rfl
theorem dX2_decodeMany_134 : decode cX2_decodeMany 134 = .ok (.goto 6, 3) := kDec_at dA28_cX2_decodeMany 14 rfl
set_option maxRecDepth 100000 in
theorem dA29_cX2_decodeNumber : kDec cX2_decodeNumber [(0, .aload_n 0, 1), (1, .iload_n 1, 1), (2, .invokevirtual 33, 3), (5, .bipush 38, 2), (7, .if_icmp .ne 22, 3), (29, .iconst (-1), 1), (30, .ireturn, 1), (10, .iload_n 1, 1), (11, .iconst 1, 1), (12, .iadd, 1), (13, .iload_n 2, 1), (14, .if_icmp .ge 15, 3), (17, .aload_n 0, 1), (18, .iload_n 1, 1), (19, .iconst 1, 1), (20, .iadd, 1), (21, .invokevirtual 33, 3), (24, .bipush 35, 2), (26, .if_icmp .eq 5, 3), (31, .iconst 0, 1), (32, .istore_n 3, 1), (33, .iload_n 1, 1), (34, .iconst 2, 1), (35, .iadd, 1)] = true := by decide +kernel
theorem dX2_decodeNumber_0 : decode cX2_decodeNumber 0 = .ok (.aload_n 0, 1) := kDec_at dA29_cX2_decodeNumber 0 rfl
theorem dX2_decodeNumber_1 : decode cX2_decodeNumber 1 = .ok (.iload_n 1, 1) := kDec_at dA29_cX2_decodeNumber 1 rfl
theorem dX2_decodeNumber_2 : decode cX2_decodeNumber 2 = .ok (.invokevirtual 33, 3) := kDec_at dA29_cX2_decodeNumber 2 rfl
theorem dX2_decodeNumber_5 : decode cX2_decodeNumber 5 = .ok (.bipush 38, 2) := kDec_at dA29_cX2_decodeNumber 3 rfl
theorem dX2_decodeNumber_7 : decode cX2_decodeNumber 7 = .ok (.if_icmp .ne 22, 3) := kDec_at dA29_cX2_decodeNumber 4 rfl
theorem dX2_decodeNumber_29 : decode cX2_decodeNumber 29 = .ok (.iconst (-1), 1) := kDec_at dA29_cX2_decodeNumber 5 rfl
theorem dX2_decodeNumber_30 : decode cX2_decodeNumber 30 = .ok (.ireturn, 1) := kDec_at dA29_cX2_decodeNumber 6 rfl
theorem dX2_decodeNumber_10 : decode cX2_decodeNumber 10 = .ok (.iload_n 1, 1) := kDec_at dA29_cX2_decodeNumber 7 rfl
theorem dX2_decodeNumber_11 : decode cX2_decodeNumber 11 = .ok (.iconst 1, 1) := kDec_at dA29_cX2_decodeNumber 8 rfl
theorem dX2_decodeNumber_12 : decode cX2_decodeNumber 12 = .ok (.iadd, 1) := kDec_at dA29_cX2_decodeNumber 9 rfl
theorem dX2_decodeNumber_13 : decode cX2_decodeNumber 13 = .ok (.iload_n 2, 1) := kDec_at dA29_cX2_decodeNumber 10 rfl
theorem dX2_decodeNumber_14 : decode cX2_decodeNumber 14 = .ok (.if_icmp .ge 15, 3) := kDec_at dA29_cX2_decodeNumber 11 rfl
theorem dX2_decodeNumber_17 : decode cX2_decodeNumber 17 = .ok (.aload_n 0, 1) := kDec_at dA29_cX2_decodeNumber 12 rfl
theorem dX2_decodeNumber_18 : decode cX2_decodeNumber 18 = .ok (.iload_n 1, 1) := kDec_at dA29_cX2_decodeNumber 13 rfl
theorem dX2_decodeNumber_19 : decode cX2_decodeNumber 19 = .ok (.iconst 1, 1) := kDec_at dA29_cX2_decodeNumber 14 rfl
theorem dX2_decodeNumber_20 : decode cX2_decodeNumber 20 = .ok (.iadd, 1) := kDec_at dA29_cX2_decodeNumber 15 rfl
theorem dX2_decodeNumber_21 : decode cX2_decodeNumber 21 = .ok (.invokevirtual 33, 3) := kDec_at dA29_cX2_decodeNumber 16 rfl
theorem dX2_decodeNumber_24 : decode cX2_decodeNumber 24 = .ok (.bipush 35, 2) := kDec_at dA29_cX2_decodeNumber 17 rfl
theorem dX2_decodeNumber_26 : decode cX2_decodeNumber 26 = .ok (.if_icmp .eq 5, 3) := kDec_at dA29_cX2_decodeNumber 18 rfl
theorem dX2_decodeNumber_31 : decode cX2_decodeNumber 31 = .ok (.iconst 0, 1) := kDec_at dA29_cX2_decodeNumber 19 rfl
theorem dX2_decodeNumber_32 : decode cX2_decodeNumber 32 = .ok (.istore_n 3, 1) := kDec_at dA29_cX2_decodeNumber 20 rfl
theorem dX2_decodeNumber_33 : decode cX2_decodeNumber 33 = .ok (.iload_n 1, 1) := kDec_at dA29_cX2_decodeNumber 21 rfl
theorem dX2_decodeNumber_34 : decode cX2_decodeNumber 34 = .ok (.iconst 2, 1) := kDec_at dA29_cX2_decodeNumber 22 rfl
theorem dX2_decodeNumber_35 : decode cX2_decodeNumber 35 = .ok (.iadd, 1) := kDec_at dA29_cX2_decodeNumber 23 rfl
set_option maxRecDepth 20000 in
theorem ggX2_decodeNumber_X5_get : GoodIn wsX2_decodeNumber wsX5_get := goodIn_r _ [5, 6, 7, 21, 22] rfl (by decide +kernel)
set_option maxRecDepth 20000 in
theorem gX2_decodeNumber_X5_get : GoodIn wsX2_decodeNumber (wsV RX2 33 RX5 yX5_get wsX5_get) := goodIn_app (goodIn_r _ [1, 2, 3, 4] rfl (by decide +kernel)) ggX2_decodeNumber_X5_get
set_option maxRecDepth 100000 in
theorem dA30_cX2_decodeNumber : kDec cX2_decodeNumber [(36, .istore 4, 2), (38, .iload 4, 2), (40, .iload_n 2, 1), (41, .if_icmp .ge 112, 3), (153, .iconst (-1), 1), (154, .ireturn, 1), (44, .iload 4, 2), (46, .iload_n 1, 1), (47, .bipush 8, 2), (49, .iadd, 1), (50, .if_icmp .ge 103, 3), (53, .aload_n 0, 1), (54, .iload 4, 2), (56, .invokevirtual 33, 3), (59, .istore 5, 2), (61, .iload 5, 2), (63, .bipush 59, 2), (65, .if_icmp .ne 32, 3), (97, .iload_n 3, 1), (98, .ifCond .ne 14, 3), (112, .iconst 0, 1), (113, .istore 6, 2), (115, .iload 5, 2), (117, .bipush 48, 2)] = true := by decide +kernel
theorem dX2_decodeNumber_36 : decode cX2_decodeNumber 36 = .ok (.istore 4, 2) := kDec_at dA30_cX2_decodeNumber 0 rfl
theorem dX2_decodeNumber_38 : decode cX2_decodeNumber 38 = .ok (.iload 4, 2) := kDec_at dA30_cX2_decodeNumber 1 rfl
theorem dX2_decodeNumber_40 : decode cX2_decodeNumber 40 = .ok (.iload_n 2, 1) := kDec_at dA30_cX2_decodeNumber 2 rfl
theorem dX2_decodeNumber_41 : decode cX2_decodeNumber 41 = .ok (.if_icmp .ge 112, 3) := kDec_at dA30_cX2_decodeNumber 3 rfl
theorem dX2_decodeNumber_153 : decode cX2_decodeNumber 153 = .ok (.iconst (-1), 1) := kDec_at dA30_cX2_decodeNumber 4 rfl
theorem dX2_decodeNumber_154 : decode cX2_decodeNumber 154 = .ok (.ireturn, 1) := kDec_at dA30_cX2_decodeNumber 5 rfl
theorem dX2_decodeNumber_44 : decode cX2_decodeNumber 44 = .ok (.iload 4, 2) := kDec_at dA30_cX2_decodeNumber 6 rfl
theorem dX2_decodeNumber_46 : decode cX2_decodeNumber 46 = .ok (.iload_n 1, 1) := kDec_at dA30_cX2_decodeNumber 7 rfl
theorem dX2_decodeNumber_47 : decode cX2_decodeNumber 47 = .ok (.bipush 8, 2) := kDec_at dA30_cX2_decodeNumber 8 rfl
theorem dX2_decodeNumber_49 : decode cX2_decodeNumber 49 = .ok (.iadd, 1) := kDec_at dA30_cX2_decodeNumber 9 rfl
theorem dX2_decodeNumber_50 : decode cX2_decodeNumber 50 = .ok (.if_icmp .ge 103, 3) := kDec_at dA30_cX2_decodeNumber 10 rfl
theorem dX2_decodeNumber_53 : decode cX2_decodeNumber 53 = .ok (.aload_n 0, 1) := kDec_at dA30_cX2_decodeNumber 11 rfl
theorem dX2_decodeNumber_54 : decode cX2_decodeNumber 54 = .ok (.iload 4, 2) := kDec_at dA30_cX2_decodeNumber 12 rfl
theorem dX2_decodeNumber_56 : decode cX2_decodeNumber 56 = .ok (.invokevirtual 33, 3) := kDec_at dA30_cX2_decodeNumber 13 rfl
theorem dX2_decodeNumber_59 : decode cX2_decodeNumber 59 = .ok (.istore 5, 2) := kDec_at dA30_cX2_decodeNumber 14 rfl
theorem dX2_decodeNumber_61 : decode cX2_decodeNumber 61 = .ok (.iload 5, 2) := kDec_at dA30_cX2_decodeNumber 15 rfl
theorem dX2_decodeNumber_63 : decode cX2_decodeNumber 63 = .ok (.bipush 59, 2) := kDec_at dA30_cX2_decodeNumber 16 rfl
theorem dX2_decodeNumber_65 : decode cX2_decodeNumber 65 = .ok (.if_icmp .ne 32, 3) := kDec_at dA30_cX2_decodeNumber 17 rfl
theorem dX2_decodeNumber_97 : decode cX2_decodeNumber 97 = .ok (.iload_n 3, 1) := kDec_at dA30_cX2_decodeNumber 18 rfl
theorem dX2_decodeNumber_98 : decode cX2_decodeNumber 98 = .ok (.ifCond .ne 14, 3) := kDec_at dA30_cX2_decodeNumber 19 rfl
theorem dX2_decodeNumber_112 : decode cX2_decodeNumber 112 = .ok (.iconst 0, 1) := kDec_at dA30_cX2_decodeNumber 20 rfl
theorem dX2_decodeNumber_113 : decode cX2_decodeNumber 113 = .ok (.istore 6, 2) := kDec_at dA30_cX2_decodeNumber 21 rfl
theorem dX2_decodeNumber_115 : decode cX2_decodeNumber 115 = .ok (.iload 5, 2) := kDec_at dA30_cX2_decodeNumber 22 rfl
theorem dX2_decodeNumber_117 : decode cX2_decodeNumber 117 = .ok (.bipush 48, 2) := kDec_at dA30_cX2_decodeNumber 23 rfl
set_option maxRecDepth 100000 in
theorem dA31_cX2_decodeNumber : kDec cX2_decodeNumber [(119, .if_icmp .lt 15, 3), (134, .iconst (-1), 1), (135, .ireturn, 1), (122, .iload 5, 2), (124, .bipush 57, 2), (126, .if_icmp .gt 8, 3), (129, .iload 6, 2), (131, .ifCond .eq 5, 3), (136, .iload_n 3, 1), (137, .bipush 10, 2), (139, .imul, 1), (140, .iload 5, 2), (142, .iadd, 1), (143, .bipush 48, 2), (145, .isub, 1), (146, .istore_n 3, 1), (147, .iinc 4 1, 3), (150, .goto (-112), 3), (101, .iload 5, 2), (103, .bipush 48, 2), (105, .if_icmp .ne 7, 3), (108, .iconst 1, 1), (109, .goto 4, 3), (68, .iload_n 3, 1)] = true := by decide +kernel
theorem dX2_decodeNumber_119 : decode cX2_decodeNumber 119 = .ok (.if_icmp .lt 15, 3) := kDec_at dA31_cX2_decodeNumber 0 rfl
theorem dX2_decodeNumber_134 : decode cX2_decodeNumber 134 = .ok (.iconst (-1), 1) := kDec_at dA31_cX2_decodeNumber 1 rfl
theorem dX2_decodeNumber_135 : decode cX2_decodeNumber 135 = .ok (.ireturn, 1) := kDec_at dA31_cX2_decodeNumber 2 rfl
theorem dX2_decodeNumber_122 : decode cX2_decodeNumber 122 = .ok (.iload 5, 2) := kDec_at dA31_cX2_decodeNumber 3 rfl
theorem dX2_decodeNumber_124 : decode cX2_decodeNumber 124 = .ok (.bipush 57, 2) := kDec_at dA31_cX2_decodeNumber 4 rfl
theorem dX2_decodeNumber_126 : decode cX2_decodeNumber 126 = .ok (.if_icmp .gt 8, 3) := kDec_at dA31_cX2_decodeNumber 5 rfl
theorem dX2_decodeNumber_129 : decode cX2_decodeNumber 129 = .ok (.iload 6, 2) := kDec_at dA31_cX2_decodeNumber 6 rfl
theorem dX2_decodeNumber_131 : decode cX2_decodeNumber 131 = .ok (.ifCond .eq 5, 3) := kDec_at dA31_cX2_decodeNumber 7 rfl
theorem dX2_decodeNumber_136 : decode cX2_decodeNumber 136 = .ok (.iload_n 3, 1) := kDec_at dA31_cX2_decodeNumber 8 rfl
theorem dX2_decodeNumber_137 : decode cX2_decodeNumber 137 = .ok (.bipush 10, 2) := kDec_at dA31_cX2_decodeNumber 9 rfl
theorem dX2_decodeNumber_139 : decode cX2_decodeNumber 139 = .ok (.imul, 1) := kDec_at dA31_cX2_decodeNumber 10 rfl
theorem dX2_decodeNumber_140 : decode cX2_decodeNumber 140 = .ok (.iload 5, 2) := kDec_at dA31_cX2_decodeNumber 11 rfl
theorem dX2_decodeNumber_142 : decode cX2_decodeNumber 142 = .ok (.iadd, 1) := kDec_at dA31_cX2_decodeNumber 12 rfl
theorem dX2_decodeNumber_143 : decode cX2_decodeNumber 143 = .ok (.bipush 48, 2) := kDec_at dA31_cX2_decodeNumber 13 rfl
theorem dX2_decodeNumber_145 : decode cX2_decodeNumber 145 = .ok (.isub, 1) := kDec_at dA31_cX2_decodeNumber 14 rfl
theorem dX2_decodeNumber_146 : decode cX2_decodeNumber 146 = .ok (.istore_n 3, 1) := kDec_at dA31_cX2_decodeNumber 15 rfl
theorem dX2_decodeNumber_147 : decode cX2_decodeNumber 147 = .ok (.iinc 4 1, 3) := kDec_at dA31_cX2_decodeNumber 16 rfl
theorem dX2_decodeNumber_150 : decode cX2_decodeNumber 150 = .ok (.goto (-112), 3) := kDec_at dA31_cX2_decodeNumber 17 rfl
theorem dX2_decodeNumber_101 : decode cX2_decodeNumber 101 = .ok (.iload 5, 2) := kDec_at dA31_cX2_decodeNumber 18 rfl
theorem dX2_decodeNumber_103 : decode cX2_decodeNumber 103 = .ok (.bipush 48, 2) := kDec_at dA31_cX2_decodeNumber 19 rfl
theorem dX2_decodeNumber_105 : decode cX2_decodeNumber 105 = .ok (.if_icmp .ne 7, 3) := kDec_at dA31_cX2_decodeNumber 20 rfl
theorem dX2_decodeNumber_108 : decode cX2_decodeNumber 108 = .ok (.iconst 1, 1) := kDec_at dA31_cX2_decodeNumber 21 rfl
theorem dX2_decodeNumber_109 : decode cX2_decodeNumber 109 = .ok (.goto 4, 3) := kDec_at dA31_cX2_decodeNumber 22 rfl
theorem dX2_decodeNumber_68 : decode cX2_decodeNumber 68 = .ok (.iload_n 3, 1) := kDec_at dA31_cX2_decodeNumber 23 rfl
set_option maxRecDepth 20000 in
theorem ggX2_decodeNumber_X11_isLetter : GoodIn wsX2_decodeNumber wsX11_isLetter := goodIn_r _ [10, 11, 12, 13] rfl (by decide +kernel)
set_option maxRecDepth 20000 in
theorem gX2_decodeNumber_X11_isLetter_n52 : GoodIn wsX2_decodeNumber (wsX11_isLetter) := ggX2_decodeNumber_X11_isLetter
set_option maxRecDepth 100000 in
theorem dA32_cX2_decodeNumber : kDec cX2_decodeNumber [(69, .invokestatic 52, 3), (72, .ifCond .eq 23, 3), (95, .iconst (-1), 1), (96, .ireturn, 1), (75, .iload_n 3, 1), (76, .invokestatic 56, 3), (79, .ifCond .eq 16, 3), (82, .iload_n 3, 1), (83, .iload 4, 2), (85, .iconst 1, 1), (86, .iadd, 1), (87, .iload_n 1, 1), (88, .isub, 1), (89, .invokestatic 42, 3), (92, .goto 4, 3)] = true := by decide +kernel
theorem dX2_decodeNumber_69 : decode cX2_decodeNumber 69 = .ok (.invokestatic 52, 3) := kDec_at dA32_cX2_decodeNumber 0 rfl
theorem dX2_decodeNumber_72 : decode cX2_decodeNumber 72 = .ok (.ifCond .eq 23, 3) := kDec_at dA32_cX2_decodeNumber 1 rfl
theorem dX2_decodeNumber_95 : decode cX2_decodeNumber 95 = .ok (.iconst (-1), 1) := kDec_at dA32_cX2_decodeNumber 2 rfl
theorem dX2_decodeNumber_96 : decode cX2_decodeNumber 96 = .ok (.ireturn, 1) := kDec_at dA32_cX2_decodeNumber 3 rfl
theorem dX2_decodeNumber_75 : decode cX2_decodeNumber 75 = .ok (.iload_n 3, 1) := kDec_at dA32_cX2_decodeNumber 4 rfl
theorem dX2_decodeNumber_76 : decode cX2_decodeNumber 76 = .ok (.invokestatic 56, 3) := kDec_at dA32_cX2_decodeNumber 5 rfl
theorem dX2_decodeNumber_79 : decode cX2_decodeNumber 79 = .ok (.ifCond .eq 16, 3) := kDec_at dA32_cX2_decodeNumber 6 rfl
theorem dX2_decodeNumber_82 : decode cX2_decodeNumber 82 = .ok (.iload_n 3, 1) := kDec_at dA32_cX2_decodeNumber 7 rfl
theorem dX2_decodeNumber_83 : decode cX2_decodeNumber 83 = .ok (.iload 4, 2) := kDec_at dA32_cX2_decodeNumber 8 rfl
theorem dX2_decodeNumber_85 : decode cX2_decodeNumber 85 = .ok (.iconst 1, 1) := kDec_at dA32_cX2_decodeNumber 9 rfl
theorem dX2_decodeNumber_86 : decode cX2_decodeNumber 86 = .ok (.iadd, 1) := kDec_at dA32_cX2_decodeNumber 10 rfl
theorem dX2_decodeNumber_87 : decode cX2_decodeNumber 87 = .ok (.iload_n 1, 1) := kDec_at dA32_cX2_decodeNumber 11 rfl
theorem dX2_decodeNumber_88 : decode cX2_decodeNumber 88 = .ok (.isub, 1) := kDec_at dA32_cX2_decodeNumber 12 rfl
theorem dX2_decodeNumber_89 : decode cX2_decodeNumber 89 = .ok (.invokestatic 42, 3) := kDec_at dA32_cX2_decodeNumber 13 rfl
theorem dX2_decodeNumber_92 : decode cX2_decodeNumber 92 = .ok (.goto 4, 3) := kDec_at dA32_cX2_decodeNumber 14 rfl
set_option maxRecDepth 20000 in
theorem ggX2_decodeNumber_X2_isNumbered : GoodIn wsX2_decodeNumber wsX2_isNumbered := goodIn_r _ [17] rfl (by decide +kernel)
set_option maxRecDepth 20000 in
theorem gX2_decodeNumber_X2_isNumbered : GoodIn wsX2_decodeNumber (va_wsS RX2 56 yX2_isNumbered wsX2_isNumbered) := goodIn_app (goodIn_r _ [14, 15, 16] rfl (by decide +kernel)) ggX2_decodeNumber_X2_isNumbered
set_option maxRecDepth 20000 in
theorem ggX2_decodeNumber_X2_found : GoodIn wsX2_decodeNumber wsX2_found := goodIn_r _ [20] rfl (by decide +kernel)
set_option maxRecDepth 20000 in
theorem gX2_decodeNumber_X2_found : GoodIn wsX2_decodeNumber (va_wsS RX2 42 yX2_found wsX2_found) := goodIn_app (goodIn_r _ [18, 19, 16] rfl (by decide +kernel)) ggX2_decodeNumber_X2_found
set_option maxRecDepth 100000 in
theorem dA33_cX2_decode : kDec cX2_decode [(0, .aload_n 2, 1), (1, .iload_n 3, 1), (2, .invokevirtual 33, 3), (5, .istore 5, 2), (7, .iload 5, 2), (9, .iconst (-1), 1), (10, .if_icmp .eq 9, 3), (19, .iconst (-1), 1), (20, .ireturn, 1), (13, .iload_n 3, 1), (14, .iload 4, 2), (16, .if_icmp .lt 5, 3), (21, .aload_n 0, 1), (22, .iload_n 1, 1), (23, .iload 5, 2), (25, .invokevirtual 38, 3), (28, .istore 6, 2), (30, .iload 6, 2), (32, .iconst (-1), 1), (33, .if_icmp .eq 10, 3), (43, .iload_n 1, 1), (44, .iconst 2, 1), (45, .if_icmp .ne 11, 3), (56, .iload_n 1, 1)] = true := by decide +kernel
theorem dX2_decode_0 : decode cX2_decode 0 = .ok (.aload_n 2, 1) := kDec_at dA33_cX2_decode 0 rfl
theorem dX2_decode_1 : decode cX2_decode 1 = .ok (.iload_n 3, 1) := kDec_at dA33_cX2_decode 1 rfl
theorem dX2_decode_2 : decode cX2_decode 2 = .ok (.invokevirtual 33, 3) := kDec_at dA33_cX2_decode 2 rfl
theorem dX2_decode_5 : decode cX2_decode 5 = .ok (.istore 5, 2) := kDec_at dA33_cX2_decode 3 rfl
theorem dX2_decode_7 : decode cX2_decode 7 = .ok (.iload 5, 2) := kDec_at dA33_cX2_decode 4 rfl
theorem dX2_decode_9 : decode cX2_decode 9 = .ok (.iconst (-1), 1) := kDec_at dA33_cX2_decode 5 rfl
theorem dX2_decode_10 : decode cX2_decode 10 = .ok (.if_icmp .eq 9, 3) := kDec_at dA33_cX2_decode 6 rfl
theorem dX2_decode_19 : decode cX2_decode 19 = .ok (.iconst (-1), 1) := kDec_at dA33_cX2_decode 7 rfl
theorem dX2_decode_20 : decode cX2_decode 20 = .ok (.ireturn, 1) := kDec_at dA33_cX2_decode 8 rfl
theorem dX2_decode_13 : decode cX2_decode 13 = .ok (.iload_n 3, 1) := kDec_at dA33_cX2_decode 9 rfl
theorem dX2_decode_14 : decode cX2_decode 14 = .ok (.iload 4, 2) := kDec_at dA33_cX2_decode 10 rfl
theorem dX2_decode_16 : decode cX2_decode 16 = .ok (.if_icmp .lt 5, 3) := kDec_at dA33_cX2_decode 11 rfl
theorem dX2_decode_21 : decode cX2_decode 21 = .ok (.aload_n 0, 1) := kDec_at dA33_cX2_decode 12 rfl
theorem dX2_decode_22 : decode cX2_decode 22 = .ok (.iload_n 1, 1) := kDec_at dA33_cX2_decode 13 rfl
theorem dX2_decode_23 : decode cX2_decode 23 = .ok (.iload 5, 2) := kDec_at dA33_cX2_decode 14 rfl
theorem dX2_decode_25 : decode cX2_decode 25 = .ok (.invokevirtual 38, 3) := kDec_at dA33_cX2_decode 15 rfl
theorem dX2_decode_28 : decode cX2_decode 28 = .ok (.istore 6, 2) := kDec_at dA33_cX2_decode 16 rfl
theorem dX2_decode_30 : decode cX2_decode 30 = .ok (.iload 6, 2) := kDec_at dA33_cX2_decode 17 rfl
theorem dX2_decode_32 : decode cX2_decode 32 = .ok (.iconst (-1), 1) := kDec_at dA33_cX2_decode 18 rfl
theorem dX2_decode_33 : decode cX2_decode 33 = .ok (.if_icmp .eq 10, 3) := kDec_at dA33_cX2_decode 19 rfl
theorem dX2_decode_43 : decode cX2_decode 43 = .ok (.iload_n 1, 1) := kDec_at dA33_cX2_decode 20 rfl
theorem dX2_decode_44 : decode cX2_decode 44 = .ok (.iconst 2, 1) := kDec_at dA33_cX2_decode 21 rfl
theorem dX2_decode_45 : decode cX2_decode 45 = .ok (.if_icmp .ne 11, 3) := kDec_at dA33_cX2_decode 22 rfl
theorem dX2_decode_56 : decode cX2_decode 56 = .ok (.iload_n 1, 1) := kDec_at dA33_cX2_decode 23 rfl
set_option maxRecDepth 20000 in
theorem ggX2_decode_X5_get : GoodIn wsX2_decode wsX5_get := goodIn_r _ [5, 6, 7, 43, 44] rfl (by decide +kernel)
set_option maxRecDepth 20000 in
theorem gX2_decode_X5_get : GoodIn wsX2_decode (wsV RX2 33 RX5 yX5_get wsX5_get) := goodIn_app (goodIn_r _ [1, 2, 3, 4] rfl (by decide +kernel)) ggX2_decode_X5_get
set_option maxRecDepth 20000 in
theorem ggX2_decode_X2_letterAlone : GoodIn wsX2_decode wsX2_letterAlone := goodIn_r _ [12, 13, 14, 15, 11, 16, 17, 18, 19, 20, 21, 22, 23, 24, 45, 46, 47, 48, 49, 50] rfl (by decide +kernel)
set_option maxRecDepth 20000 in
theorem gX2_decode_X2_letterAlone : GoodIn wsX2_decode (wsV RX2 38 RX2 yX2_letterAlone wsX2_letterAlone) := goodIn_app (goodIn_r _ [8, 9, 10, 11] rfl (by decide +kernel)) ggX2_decode_X2_letterAlone
set_option maxRecDepth 100000 in
theorem dA34_cX2_decode : kDec cX2_decode [(57, .iconst 3, 1), (58, .if_icmp .ne 13, 3), (71, .iconst (-1), 1), (72, .ireturn, 1), (61, .aload_n 2, 1), (62, .iload_n 3, 1), (63, .iload 4, 2), (65, .invokestatic 49, 3), (68, .goto 4, 3), (48, .aload_n 2, 1), (49, .iload_n 3, 1), (50, .iload 4, 2), (52, .invokestatic 45, 3), (55, .ireturn, 1), (36, .iload 6, 2), (38, .iconst 1, 1), (39, .invokestatic 42, 3), (42, .ireturn, 1)] = true := by decide +kernel
theorem dX2_decode_57 : decode cX2_decode 57 = .ok (.iconst 3, 1) := kDec_at dA34_cX2_decode 0 rfl
theorem dX2_decode_58 : decode cX2_decode 58 = .ok (.if_icmp .ne 13, 3) := kDec_at dA34_cX2_decode 1 rfl
theorem dX2_decode_71 : decode cX2_decode 71 = .ok (.iconst (-1), 1) := kDec_at dA34_cX2_decode 2 rfl
theorem dX2_decode_72 : decode cX2_decode 72 = .ok (.ireturn, 1) := kDec_at dA34_cX2_decode 3 rfl
theorem dX2_decode_61 : decode cX2_decode 61 = .ok (.aload_n 2, 1) := kDec_at dA34_cX2_decode 4 rfl
theorem dX2_decode_62 : decode cX2_decode 62 = .ok (.iload_n 3, 1) := kDec_at dA34_cX2_decode 5 rfl
theorem dX2_decode_63 : decode cX2_decode 63 = .ok (.iload 4, 2) := kDec_at dA34_cX2_decode 6 rfl
theorem dX2_decode_65 : decode cX2_decode 65 = .ok (.invokestatic 49, 3) := kDec_at dA34_cX2_decode 7 rfl
theorem dX2_decode_68 : decode cX2_decode 68 = .ok (.goto 4, 3) := kDec_at dA34_cX2_decode 8 rfl
theorem dX2_decode_48 : decode cX2_decode 48 = .ok (.aload_n 2, 1) := kDec_at dA34_cX2_decode 9 rfl
theorem dX2_decode_49 : decode cX2_decode 49 = .ok (.iload_n 3, 1) := kDec_at dA34_cX2_decode 10 rfl
theorem dX2_decode_50 : decode cX2_decode 50 = .ok (.iload 4, 2) := kDec_at dA34_cX2_decode 11 rfl
theorem dX2_decode_52 : decode cX2_decode 52 = .ok (.invokestatic 45, 3) := kDec_at dA34_cX2_decode 12 rfl
theorem dX2_decode_55 : decode cX2_decode 55 = .ok (.ireturn, 1) := kDec_at dA34_cX2_decode 13 rfl
theorem dX2_decode_36 : decode cX2_decode 36 = .ok (.iload 6, 2) := kDec_at dA34_cX2_decode 14 rfl
theorem dX2_decode_38 : decode cX2_decode 38 = .ok (.iconst 1, 1) := kDec_at dA34_cX2_decode 15 rfl
theorem dX2_decode_39 : decode cX2_decode 39 = .ok (.invokestatic 42, 3) := kDec_at dA34_cX2_decode 16 rfl
theorem dX2_decode_42 : decode cX2_decode 42 = .ok (.ireturn, 1) := kDec_at dA34_cX2_decode 17 rfl
set_option maxRecDepth 20000 in
theorem ggX2_decode_X2_decodeNumber : GoodIn wsX2_decode wsX2_decodeNumber := goodIn_r _ [39, 1, 2, 3, 4, 5, 6, 7, 31, 32, 33, 34, 35, 36, 40, 41, 11, 42, 25, 26, 27, 43, 44] rfl (by decide +kernel)
set_option maxRecDepth 20000 in
theorem gX2_decode_X2_decodeNumber : GoodIn wsX2_decode (va_wsS RX2 49 yX2_decodeNumber wsX2_decodeNumber) := goodIn_app (goodIn_r _ [37, 38, 11] rfl (by decide +kernel)) ggX2_decode_X2_decodeNumber
set_option maxRecDepth 20000 in
theorem ggX2_decode_X2_decodeMany : GoodIn wsX2_decode wsX2_decodeMany := goodIn_r _ [30, 1, 2, 3, 4, 5, 6, 7, 31, 32, 33, 34, 35, 36, 25, 26, 11, 27, 43, 44] rfl (by decide +kernel)
set_option maxRecDepth 20000 in
theorem gX2_decode_X2_decodeMany : GoodIn wsX2_decode (va_wsS RX2 45 yX2_decodeMany wsX2_decodeMany) := goodIn_app (goodIn_r _ [28, 29, 11] rfl (by decide +kernel)) ggX2_decode_X2_decodeMany
set_option maxRecDepth 20000 in
theorem ggX2_decode_X2_found : GoodIn wsX2_decode wsX2_found := goodIn_r _ [27] rfl (by decide +kernel)
set_option maxRecDepth 20000 in
theorem gX2_decode_X2_found : GoodIn wsX2_decode (va_wsS RX2 42 yX2_found wsX2_found) := goodIn_app (goodIn_r _ [25, 26, 11] rfl (by decide +kernel)) ggX2_decode_X2_found
set_option maxRecDepth 100000 in
theorem dA35_cX2_encodeMany : kDec cX2_encodeMany [(0, .iload_n 0, 1), (1, .sipush 128, 3), (4, .if_icmp .ge 9, 3), (13, .iload_n 0, 1), (14, .sipush 2048, 3), (17, .if_icmp .ge 19, 3), (36, .aload_n 1, 1), (37, .sipush 224, 3), (40, .iload_n 0, 1), (41, .bipush 12, 2), (43, .ishr, 1), (44, .iadd, 1), (45, .invokevirtual 59, 3), (48, .ifCond .eq 25, 3), (73, .iconst 0, 1), (74, .istore_n 2, 1), (75, .iload_n 2, 1), (76, .ifCond .eq 22, 3), (98, .iconst 0, 1), (99, .ireturn, 1), (51, .aload_n 1, 1), (52, .sipush 128, 3), (55, .iload_n 0, 1), (56, .bipush 6, 2)] = true := by decide +kernel
theorem dX2_encodeMany_0 : decode cX2_encodeMany 0 = .ok (.iload_n 0, 1) := kDec_at dA35_cX2_encodeMany 0 rfl
theorem dX2_encodeMany_1 : decode cX2_encodeMany 1 = .ok (.sipush 128, 3) := kDec_at dA35_cX2_encodeMany 1 rfl
theorem dX2_encodeMany_4 : decode cX2_encodeMany 4 = .ok (.if_icmp .ge 9, 3) := kDec_at dA35_cX2_encodeMany 2 rfl
theorem dX2_encodeMany_13 : decode cX2_encodeMany 13 = .ok (.iload_n 0, 1) := kDec_at dA35_cX2_encodeMany 3 rfl
theorem dX2_encodeMany_14 : decode cX2_encodeMany 14 = .ok (.sipush 2048, 3) := kDec_at dA35_cX2_encodeMany 4 rfl
theorem dX2_encodeMany_17 : decode cX2_encodeMany 17 = .ok (.if_icmp .ge 19, 3) := kDec_at dA35_cX2_encodeMany 5 rfl
theorem dX2_encodeMany_36 : decode cX2_encodeMany 36 = .ok (.aload_n 1, 1) := kDec_at dA35_cX2_encodeMany 6 rfl
theorem dX2_encodeMany_37 : decode cX2_encodeMany 37 = .ok (.sipush 224, 3) := kDec_at dA35_cX2_encodeMany 7 rfl
theorem dX2_encodeMany_40 : decode cX2_encodeMany 40 = .ok (.iload_n 0, 1) := kDec_at dA35_cX2_encodeMany 8 rfl
theorem dX2_encodeMany_41 : decode cX2_encodeMany 41 = .ok (.bipush 12, 2) := kDec_at dA35_cX2_encodeMany 9 rfl
theorem dX2_encodeMany_43 : decode cX2_encodeMany 43 = .ok (.ishr, 1) := kDec_at dA35_cX2_encodeMany 10 rfl
theorem dX2_encodeMany_44 : decode cX2_encodeMany 44 = .ok (.iadd, 1) := kDec_at dA35_cX2_encodeMany 11 rfl
theorem dX2_encodeMany_45 : decode cX2_encodeMany 45 = .ok (.invokevirtual 59, 3) := kDec_at dA35_cX2_encodeMany 12 rfl
theorem dX2_encodeMany_48 : decode cX2_encodeMany 48 = .ok (.ifCond .eq 25, 3) := kDec_at dA35_cX2_encodeMany 13 rfl
theorem dX2_encodeMany_73 : decode cX2_encodeMany 73 = .ok (.iconst 0, 1) := kDec_at dA35_cX2_encodeMany 14 rfl
theorem dX2_encodeMany_74 : decode cX2_encodeMany 74 = .ok (.istore_n 2, 1) := kDec_at dA35_cX2_encodeMany 15 rfl
theorem dX2_encodeMany_75 : decode cX2_encodeMany 75 = .ok (.iload_n 2, 1) := kDec_at dA35_cX2_encodeMany 16 rfl
theorem dX2_encodeMany_76 : decode cX2_encodeMany 76 = .ok (.ifCond .eq 22, 3) := kDec_at dA35_cX2_encodeMany 17 rfl
theorem dX2_encodeMany_98 : decode cX2_encodeMany 98 = .ok (.iconst 0, 1) := kDec_at dA35_cX2_encodeMany 18 rfl
theorem dX2_encodeMany_99 : decode cX2_encodeMany 99 = .ok (.ireturn, 1) := kDec_at dA35_cX2_encodeMany 19 rfl
theorem dX2_encodeMany_51 : decode cX2_encodeMany 51 = .ok (.aload_n 1, 1) := kDec_at dA35_cX2_encodeMany 20 rfl
theorem dX2_encodeMany_52 : decode cX2_encodeMany 52 = .ok (.sipush 128, 3) := kDec_at dA35_cX2_encodeMany 21 rfl
theorem dX2_encodeMany_55 : decode cX2_encodeMany 55 = .ok (.iload_n 0, 1) := kDec_at dA35_cX2_encodeMany 22 rfl
theorem dX2_encodeMany_56 : decode cX2_encodeMany 56 = .ok (.bipush 6, 2) := kDec_at dA35_cX2_encodeMany 23 rfl
set_option maxRecDepth 20000 in
theorem ggX2_encodeMany_X5_add : GoodIn wsX2_encodeMany wsX5_add := goodIn_r _ [5, 6, 7, 8, 9] rfl (by decide +kernel)
set_option maxRecDepth 20000 in
theorem gX2_encodeMany_X5_add : GoodIn wsX2_encodeMany (wsV RX2 59 RX5 yX5_add wsX5_add) := goodIn_app (goodIn_r _ [1, 2, 3, 4] rfl (by decide +kernel)) ggX2_encodeMany_X5_add
set_option maxRecDepth 100000 in
theorem dA36_cX2_encodeMany : kDec cX2_encodeMany [(58, .ishr, 1), (59, .bipush 63, 2), (61, .iand, 1), (62, .iadd, 1), (63, .invokevirtual 59, 3), (66, .ifCond .eq 7, 3), (69, .iconst 1, 1), (70, .goto 4, 3), (79, .aload_n 1, 1), (80, .sipush 128, 3), (83, .iload_n 0, 1), (84, .bipush 63, 2), (86, .iand, 1), (87, .iadd, 1), (88, .invokevirtual 59, 3), (91, .ifCond .eq 7, 3), (94, .iconst 1, 1), (95, .goto 4, 3), (20, .aload_n 1, 1), (21, .sipush 192, 3), (24, .iload_n 0, 1), (25, .bipush 6, 2), (27, .ishr, 1), (28, .iadd, 1)] = true := by decide +kernel
theorem dX2_encodeMany_58 : decode cX2_encodeMany 58 = .ok (.ishr, 1) := kDec_at dA36_cX2_encodeMany 0 rfl
theorem dX2_encodeMany_59 : decode cX2_encodeMany 59 = .ok (.bipush 63, 2) := kDec_at dA36_cX2_encodeMany 1 rfl
theorem dX2_encodeMany_61 : decode cX2_encodeMany 61 = .ok (.iand, 1) := kDec_at dA36_cX2_encodeMany 2 rfl
theorem dX2_encodeMany_62 : decode cX2_encodeMany 62 = .ok (.iadd, 1) := kDec_at dA36_cX2_encodeMany 3 rfl
theorem dX2_encodeMany_63 : decode cX2_encodeMany 63 = .ok (.invokevirtual 59, 3) := kDec_at dA36_cX2_encodeMany 4 rfl
theorem dX2_encodeMany_66 : decode cX2_encodeMany 66 = .ok (.ifCond .eq 7, 3) := kDec_at dA36_cX2_encodeMany 5 rfl
theorem dX2_encodeMany_69 : decode cX2_encodeMany 69 = .ok (.iconst 1, 1) := kDec_at dA36_cX2_encodeMany 6 rfl
theorem dX2_encodeMany_70 : decode cX2_encodeMany 70 = .ok (.goto 4, 3) := kDec_at dA36_cX2_encodeMany 7 rfl
theorem dX2_encodeMany_79 : decode cX2_encodeMany 79 = .ok (.aload_n 1, 1) := kDec_at dA36_cX2_encodeMany 8 rfl
theorem dX2_encodeMany_80 : decode cX2_encodeMany 80 = .ok (.sipush 128, 3) := kDec_at dA36_cX2_encodeMany 9 rfl
theorem dX2_encodeMany_83 : decode cX2_encodeMany 83 = .ok (.iload_n 0, 1) := kDec_at dA36_cX2_encodeMany 10 rfl
theorem dX2_encodeMany_84 : decode cX2_encodeMany 84 = .ok (.bipush 63, 2) := kDec_at dA36_cX2_encodeMany 11 rfl
theorem dX2_encodeMany_86 : decode cX2_encodeMany 86 = .ok (.iand, 1) := kDec_at dA36_cX2_encodeMany 12 rfl
theorem dX2_encodeMany_87 : decode cX2_encodeMany 87 = .ok (.iadd, 1) := kDec_at dA36_cX2_encodeMany 13 rfl
theorem dX2_encodeMany_88 : decode cX2_encodeMany 88 = .ok (.invokevirtual 59, 3) := kDec_at dA36_cX2_encodeMany 14 rfl
theorem dX2_encodeMany_91 : decode cX2_encodeMany 91 = .ok (.ifCond .eq 7, 3) := kDec_at dA36_cX2_encodeMany 15 rfl
theorem dX2_encodeMany_94 : decode cX2_encodeMany 94 = .ok (.iconst 1, 1) := kDec_at dA36_cX2_encodeMany 16 rfl
theorem dX2_encodeMany_95 : decode cX2_encodeMany 95 = .ok (.goto 4, 3) := kDec_at dA36_cX2_encodeMany 17 rfl
theorem dX2_encodeMany_20 : decode cX2_encodeMany 20 = .ok (.aload_n 1, 1) := kDec_at dA36_cX2_encodeMany 18 rfl
theorem dX2_encodeMany_21 : decode cX2_encodeMany 21 = .ok (.sipush 192, 3) := kDec_at dA36_cX2_encodeMany 19 rfl
theorem dX2_encodeMany_24 : decode cX2_encodeMany 24 = .ok (.iload_n 0, 1) := kDec_at dA36_cX2_encodeMany 20 rfl
theorem dX2_encodeMany_25 : decode cX2_encodeMany 25 = .ok (.bipush 6, 2) := kDec_at dA36_cX2_encodeMany 21 rfl
theorem dX2_encodeMany_27 : decode cX2_encodeMany 27 = .ok (.ishr, 1) := kDec_at dA36_cX2_encodeMany 22 rfl
theorem dX2_encodeMany_28 : decode cX2_encodeMany 28 = .ok (.iadd, 1) := kDec_at dA36_cX2_encodeMany 23 rfl
set_option maxRecDepth 100000 in
theorem dA37_cX2_encodeMany : kDec cX2_encodeMany [(29, .invokevirtual 59, 3), (32, .istore_n 2, 1), (33, .goto 42, 3), (7, .aload_n 1, 1), (8, .iload_n 0, 1), (9, .invokevirtual 59, 3), (12, .ireturn, 1)] = true := by decide +kernel
theorem dX2_encodeMany_29 : decode cX2_encodeMany 29 = .ok (.invokevirtual 59, 3) := kDec_at dA37_cX2_encodeMany 0 rfl
theorem dX2_encodeMany_32 : decode cX2_encodeMany 32 = .ok (.istore_n 2, 1) := kDec_at dA37_cX2_encodeMany 1 rfl
theorem dX2_encodeMany_33 : decode cX2_encodeMany 33 = .ok (.goto 42, 3) := kDec_at dA37_cX2_encodeMany 2 rfl
theorem dX2_encodeMany_7 : decode cX2_encodeMany 7 = .ok (.aload_n 1, 1) := kDec_at dA37_cX2_encodeMany 3 rfl
theorem dX2_encodeMany_8 : decode cX2_encodeMany 8 = .ok (.iload_n 0, 1) := kDec_at dA37_cX2_encodeMany 4 rfl
theorem dX2_encodeMany_9 : decode cX2_encodeMany 9 = .ok (.invokevirtual 59, 3) := kDec_at dA37_cX2_encodeMany 5 rfl
theorem dX2_encodeMany_12 : decode cX2_encodeMany 12 = .ok (.ireturn, 1) := kDec_at dA37_cX2_encodeMany 6 rfl
set_option maxRecDepth 100000 in
theorem dA38_cX2_encodeNumber : kDec cX2_encodeNumber [(0, .aload_n 1, 1), (1, .bipush 38, 2), (3, .invokevirtual 59, 3), (6, .ifCond .eq 16, 3), (22, .iconst 0, 1), (23, .istore_n 2, 1), (24, .iconst 0, 1), (25, .istore_n 3, 1), (26, .sipush 10000, 3), (29, .istore 4, 2), (31, .iload 4, 2), (33, .ifCond .le 63, 3), (96, .iload_n 2, 1), (97, .ifCond .eq 16, 3), (113, .iconst 0, 1), (114, .ireturn, 1), (100, .aload_n 1, 1), (101, .bipush 59, 2), (103, .invokevirtual 59, 3), (106, .ifCond .eq 7, 3), (109, .iconst 1, 1), (110, .goto 4, 3), (36, .iload_n 0, 1), (37, .iload 4, 2)] = true := by decide +kernel
theorem dX2_encodeNumber_0 : decode cX2_encodeNumber 0 = .ok (.aload_n 1, 1) := kDec_at dA38_cX2_encodeNumber 0 rfl
theorem dX2_encodeNumber_1 : decode cX2_encodeNumber 1 = .ok (.bipush 38, 2) := kDec_at dA38_cX2_encodeNumber 1 rfl
theorem dX2_encodeNumber_3 : decode cX2_encodeNumber 3 = .ok (.invokevirtual 59, 3) := kDec_at dA38_cX2_encodeNumber 2 rfl
theorem dX2_encodeNumber_6 : decode cX2_encodeNumber 6 = .ok (.ifCond .eq 16, 3) := kDec_at dA38_cX2_encodeNumber 3 rfl
theorem dX2_encodeNumber_22 : decode cX2_encodeNumber 22 = .ok (.iconst 0, 1) := kDec_at dA38_cX2_encodeNumber 4 rfl
theorem dX2_encodeNumber_23 : decode cX2_encodeNumber 23 = .ok (.istore_n 2, 1) := kDec_at dA38_cX2_encodeNumber 5 rfl
theorem dX2_encodeNumber_24 : decode cX2_encodeNumber 24 = .ok (.iconst 0, 1) := kDec_at dA38_cX2_encodeNumber 6 rfl
theorem dX2_encodeNumber_25 : decode cX2_encodeNumber 25 = .ok (.istore_n 3, 1) := kDec_at dA38_cX2_encodeNumber 7 rfl
theorem dX2_encodeNumber_26 : decode cX2_encodeNumber 26 = .ok (.sipush 10000, 3) := kDec_at dA38_cX2_encodeNumber 8 rfl
theorem dX2_encodeNumber_29 : decode cX2_encodeNumber 29 = .ok (.istore 4, 2) := kDec_at dA38_cX2_encodeNumber 9 rfl
theorem dX2_encodeNumber_31 : decode cX2_encodeNumber 31 = .ok (.iload 4, 2) := kDec_at dA38_cX2_encodeNumber 10 rfl
theorem dX2_encodeNumber_33 : decode cX2_encodeNumber 33 = .ok (.ifCond .le 63, 3) := kDec_at dA38_cX2_encodeNumber 11 rfl
theorem dX2_encodeNumber_96 : decode cX2_encodeNumber 96 = .ok (.iload_n 2, 1) := kDec_at dA38_cX2_encodeNumber 12 rfl
theorem dX2_encodeNumber_97 : decode cX2_encodeNumber 97 = .ok (.ifCond .eq 16, 3) := kDec_at dA38_cX2_encodeNumber 13 rfl
theorem dX2_encodeNumber_113 : decode cX2_encodeNumber 113 = .ok (.iconst 0, 1) := kDec_at dA38_cX2_encodeNumber 14 rfl
theorem dX2_encodeNumber_114 : decode cX2_encodeNumber 114 = .ok (.ireturn, 1) := kDec_at dA38_cX2_encodeNumber 15 rfl
theorem dX2_encodeNumber_100 : decode cX2_encodeNumber 100 = .ok (.aload_n 1, 1) := kDec_at dA38_cX2_encodeNumber 16 rfl
theorem dX2_encodeNumber_101 : decode cX2_encodeNumber 101 = .ok (.bipush 59, 2) := kDec_at dA38_cX2_encodeNumber 17 rfl
theorem dX2_encodeNumber_103 : decode cX2_encodeNumber 103 = .ok (.invokevirtual 59, 3) := kDec_at dA38_cX2_encodeNumber 18 rfl
theorem dX2_encodeNumber_106 : decode cX2_encodeNumber 106 = .ok (.ifCond .eq 7, 3) := kDec_at dA38_cX2_encodeNumber 19 rfl
theorem dX2_encodeNumber_109 : decode cX2_encodeNumber 109 = .ok (.iconst 1, 1) := kDec_at dA38_cX2_encodeNumber 20 rfl
theorem dX2_encodeNumber_110 : decode cX2_encodeNumber 110 = .ok (.goto 4, 3) := kDec_at dA38_cX2_encodeNumber 21 rfl
theorem dX2_encodeNumber_36 : decode cX2_encodeNumber 36 = .ok (.iload_n 0, 1) := kDec_at dA38_cX2_encodeNumber 22 rfl
theorem dX2_encodeNumber_37 : decode cX2_encodeNumber 37 = .ok (.iload 4, 2) := kDec_at dA38_cX2_encodeNumber 23 rfl
set_option maxRecDepth 20000 in
theorem ggX2_encodeNumber_X5_add : GoodIn wsX2_encodeNumber wsX5_add := goodIn_r _ [5, 6, 7, 8, 9] rfl (by decide +kernel)
set_option maxRecDepth 20000 in
theorem gX2_encodeNumber_X5_add : GoodIn wsX2_encodeNumber (wsV RX2 59 RX5 yX5_add wsX5_add) := goodIn_app (goodIn_r _ [1, 2, 3, 4] rfl (by decide +kernel)) ggX2_encodeNumber_X5_add
set_option maxRecDepth 100000 in
theorem dA39_cX2_encodeNumber : kDec cX2_encodeNumber [(39, .idiv, 1), (40, .bipush 10, 2), (42, .irem, 1), (43, .istore 5, 2), (45, .iload_n 3, 1), (46, .ifCond .ne 8, 3), (54, .iconst 1, 1), (55, .goto 4, 3), (59, .istore_n 3, 1), (60, .iload_n 3, 1), (61, .ifCond .eq 25, 3), (64, .iload_n 2, 1), (65, .ifCond .eq 19, 3), (84, .iconst 0, 1), (85, .istore_n 2, 1), (86, .iload 4, 2), (88, .bipush 10, 2), (90, .idiv, 1), (91, .istore 4, 2), (93, .goto (-62), 3), (68, .aload_n 1, 1), (69, .bipush 48, 2), (71, .iload 5, 2), (73, .iadd, 1)] = true := by decide +kernel
theorem dX2_encodeNumber_39 : decode cX2_encodeNumber 39 = .ok (.idiv, 1) := kDec_at dA39_cX2_encodeNumber 0 rfl
theorem dX2_encodeNumber_40 : decode cX2_encodeNumber 40 = .ok (.bipush 10, 2) := kDec_at dA39_cX2_encodeNumber 1 rfl
theorem dX2_encodeNumber_42 : decode cX2_encodeNumber 42 = .ok (.irem, 1) := kDec_at dA39_cX2_encodeNumber 2 rfl
theorem dX2_encodeNumber_43 : decode cX2_encodeNumber 43 = .ok (.istore 5, 2) := kDec_at dA39_cX2_encodeNumber 3 rfl
theorem dX2_encodeNumber_45 : decode cX2_encodeNumber 45 = .ok (.iload_n 3, 1) := kDec_at dA39_cX2_encodeNumber 4 rfl
theorem dX2_encodeNumber_46 : decode cX2_encodeNumber 46 = .ok (.ifCond .ne 8, 3) := kDec_at dA39_cX2_encodeNumber 5 rfl
theorem dX2_encodeNumber_54 : decode cX2_encodeNumber 54 = .ok (.iconst 1, 1) := kDec_at dA39_cX2_encodeNumber 6 rfl
theorem dX2_encodeNumber_55 : decode cX2_encodeNumber 55 = .ok (.goto 4, 3) := kDec_at dA39_cX2_encodeNumber 7 rfl
theorem dX2_encodeNumber_59 : decode cX2_encodeNumber 59 = .ok (.istore_n 3, 1) := kDec_at dA39_cX2_encodeNumber 8 rfl
theorem dX2_encodeNumber_60 : decode cX2_encodeNumber 60 = .ok (.iload_n 3, 1) := kDec_at dA39_cX2_encodeNumber 9 rfl
theorem dX2_encodeNumber_61 : decode cX2_encodeNumber 61 = .ok (.ifCond .eq 25, 3) := kDec_at dA39_cX2_encodeNumber 10 rfl
theorem dX2_encodeNumber_64 : decode cX2_encodeNumber 64 = .ok (.iload_n 2, 1) := kDec_at dA39_cX2_encodeNumber 11 rfl
theorem dX2_encodeNumber_65 : decode cX2_encodeNumber 65 = .ok (.ifCond .eq 19, 3) := kDec_at dA39_cX2_encodeNumber 12 rfl
theorem dX2_encodeNumber_84 : decode cX2_encodeNumber 84 = .ok (.iconst 0, 1) := kDec_at dA39_cX2_encodeNumber 13 rfl
theorem dX2_encodeNumber_85 : decode cX2_encodeNumber 85 = .ok (.istore_n 2, 1) := kDec_at dA39_cX2_encodeNumber 14 rfl
theorem dX2_encodeNumber_86 : decode cX2_encodeNumber 86 = .ok (.iload 4, 2) := kDec_at dA39_cX2_encodeNumber 15 rfl
theorem dX2_encodeNumber_88 : decode cX2_encodeNumber 88 = .ok (.bipush 10, 2) := kDec_at dA39_cX2_encodeNumber 16 rfl
theorem dX2_encodeNumber_90 : decode cX2_encodeNumber 90 = .ok (.idiv, 1) := kDec_at dA39_cX2_encodeNumber 17 rfl
theorem dX2_encodeNumber_91 : decode cX2_encodeNumber 91 = .ok (.istore 4, 2) := kDec_at dA39_cX2_encodeNumber 18 rfl
theorem dX2_encodeNumber_93 : decode cX2_encodeNumber 93 = .ok (.goto (-62), 3) := kDec_at dA39_cX2_encodeNumber 19 rfl
theorem dX2_encodeNumber_68 : decode cX2_encodeNumber 68 = .ok (.aload_n 1, 1) := kDec_at dA39_cX2_encodeNumber 20 rfl
theorem dX2_encodeNumber_69 : decode cX2_encodeNumber 69 = .ok (.bipush 48, 2) := kDec_at dA39_cX2_encodeNumber 21 rfl
theorem dX2_encodeNumber_71 : decode cX2_encodeNumber 71 = .ok (.iload 5, 2) := kDec_at dA39_cX2_encodeNumber 22 rfl
theorem dX2_encodeNumber_73 : decode cX2_encodeNumber 73 = .ok (.iadd, 1) := kDec_at dA39_cX2_encodeNumber 23 rfl
set_option maxRecDepth 100000 in
theorem dA40_cX2_encodeNumber : kDec cX2_encodeNumber [(74, .invokevirtual 59, 3), (77, .ifCond .eq 7, 3), (80, .iconst 1, 1), (81, .goto 4, 3), (49, .iload 5, 2), (51, .ifCond .eq 7, 3), (58, .iconst 0, 1), (9, .aload_n 1, 1), (10, .bipush 35, 2), (12, .invokevirtual 59, 3), (15, .ifCond .eq 7, 3), (18, .iconst 1, 1), (19, .goto 4, 3)] = true := by decide +kernel
theorem dX2_encodeNumber_74 : decode cX2_encodeNumber 74 = .ok (.invokevirtual 59, 3) := kDec_at dA40_cX2_encodeNumber 0 rfl
theorem dX2_encodeNumber_77 : decode cX2_encodeNumber 77 = .ok (.ifCond .eq 7, 3) := kDec_at dA40_cX2_encodeNumber 1 rfl
theorem dX2_encodeNumber_80 : decode cX2_encodeNumber 80 = .ok (.iconst 1, 1) := kDec_at dA40_cX2_encodeNumber 2 rfl
theorem dX2_encodeNumber_81 : decode cX2_encodeNumber 81 = .ok (.goto 4, 3) := kDec_at dA40_cX2_encodeNumber 3 rfl
theorem dX2_encodeNumber_49 : decode cX2_encodeNumber 49 = .ok (.iload 5, 2) := kDec_at dA40_cX2_encodeNumber 4 rfl
theorem dX2_encodeNumber_51 : decode cX2_encodeNumber 51 = .ok (.ifCond .eq 7, 3) := kDec_at dA40_cX2_encodeNumber 5 rfl
theorem dX2_encodeNumber_58 : decode cX2_encodeNumber 58 = .ok (.iconst 0, 1) := kDec_at dA40_cX2_encodeNumber 6 rfl
theorem dX2_encodeNumber_9 : decode cX2_encodeNumber 9 = .ok (.aload_n 1, 1) := kDec_at dA40_cX2_encodeNumber 7 rfl
theorem dX2_encodeNumber_10 : decode cX2_encodeNumber 10 = .ok (.bipush 35, 2) := kDec_at dA40_cX2_encodeNumber 8 rfl
theorem dX2_encodeNumber_12 : decode cX2_encodeNumber 12 = .ok (.invokevirtual 59, 3) := kDec_at dA40_cX2_encodeNumber 9 rfl
theorem dX2_encodeNumber_15 : decode cX2_encodeNumber 15 = .ok (.ifCond .eq 7, 3) := kDec_at dA40_cX2_encodeNumber 10 rfl
theorem dX2_encodeNumber_18 : decode cX2_encodeNumber 18 = .ok (.iconst 1, 1) := kDec_at dA40_cX2_encodeNumber 11 rfl
theorem dX2_encodeNumber_19 : decode cX2_encodeNumber 19 = .ok (.goto 4, 3) := kDec_at dA40_cX2_encodeNumber 12 rfl
set_option maxRecDepth 100000 in
theorem dA41_cX2_encode : kDec cX2_encode [(0, .iload_n 1, 1), (1, .tableswitch 100 0 3 #[31, 52, 73, 79], 31), (32, .iload_n 2, 1), (33, .sipush 128, 3), (36, .if_icmp .ge 15, 3), (51, .iconst 0, 1), (52, .ireturn, 1), (39, .aload_n 3, 1), (40, .iload_n 2, 1), (41, .invokevirtual 59, 3), (44, .ifCond .eq 7, 3), (47, .iconst 1, 1), (48, .goto 4, 3), (53, .iload_n 2, 1), (54, .sipush 256, 3), (57, .if_icmp .ge 15, 3), (72, .iconst 0, 1), (73, .ireturn, 1), (60, .aload_n 3, 1), (61, .iload_n 2, 1), (62, .invokevirtual 59, 3), (65, .ifCond .eq 7, 3), (68, .iconst 1, 1), (69, .goto 4, 3)] = true := by decide +kernel
theorem dX2_encode_0 : decode cX2_encode 0 = .ok (.iload_n 1, 1) := kDec_at dA41_cX2_encode 0 rfl
theorem dX2_encode_1 : decode cX2_encode 1 = .ok (.tableswitch 100 0 3 #[31, 52, 73, 79], 31) := kDec_at dA41_cX2_encode 1 rfl
theorem dX2_encode_32 : decode cX2_encode 32 = .ok (.iload_n 2, 1) := kDec_at dA41_cX2_encode 2 rfl
theorem dX2_encode_33 : decode cX2_encode 33 = .ok (.sipush 128, 3) := kDec_at dA41_cX2_encode 3 rfl
theorem dX2_encode_36 : decode cX2_encode 36 = .ok (.if_icmp .ge 15, 3) := kDec_at dA41_cX2_encode 4 rfl
theorem dX2_encode_51 : decode cX2_encode 51 = .ok (.iconst 0, 1) := kDec_at dA41_cX2_encode 5 rfl
theorem dX2_encode_52 : decode cX2_encode 52 = .ok (.ireturn, 1) := kDec_at dA41_cX2_encode 6 rfl
theorem dX2_encode_39 : decode cX2_encode 39 = .ok (.aload_n 3, 1) := kDec_at dA41_cX2_encode 7 rfl
theorem dX2_encode_40 : decode cX2_encode 40 = .ok (.iload_n 2, 1) := kDec_at dA41_cX2_encode 8 rfl
theorem dX2_encode_41 : decode cX2_encode 41 = .ok (.invokevirtual 59, 3) := kDec_at dA41_cX2_encode 9 rfl
theorem dX2_encode_44 : decode cX2_encode 44 = .ok (.ifCond .eq 7, 3) := kDec_at dA41_cX2_encode 10 rfl
theorem dX2_encode_47 : decode cX2_encode 47 = .ok (.iconst 1, 1) := kDec_at dA41_cX2_encode 11 rfl
theorem dX2_encode_48 : decode cX2_encode 48 = .ok (.goto 4, 3) := kDec_at dA41_cX2_encode 12 rfl
theorem dX2_encode_53 : decode cX2_encode 53 = .ok (.iload_n 2, 1) := kDec_at dA41_cX2_encode 13 rfl
theorem dX2_encode_54 : decode cX2_encode 54 = .ok (.sipush 256, 3) := kDec_at dA41_cX2_encode 14 rfl
theorem dX2_encode_57 : decode cX2_encode 57 = .ok (.if_icmp .ge 15, 3) := kDec_at dA41_cX2_encode 15 rfl
theorem dX2_encode_72 : decode cX2_encode 72 = .ok (.iconst 0, 1) := kDec_at dA41_cX2_encode 16 rfl
theorem dX2_encode_73 : decode cX2_encode 73 = .ok (.ireturn, 1) := kDec_at dA41_cX2_encode 17 rfl
theorem dX2_encode_60 : decode cX2_encode 60 = .ok (.aload_n 3, 1) := kDec_at dA41_cX2_encode 18 rfl
theorem dX2_encode_61 : decode cX2_encode 61 = .ok (.iload_n 2, 1) := kDec_at dA41_cX2_encode 19 rfl
theorem dX2_encode_62 : decode cX2_encode 62 = .ok (.invokevirtual 59, 3) := kDec_at dA41_cX2_encode 20 rfl
theorem dX2_encode_65 : decode cX2_encode 65 = .ok (.ifCond .eq 7, 3) := kDec_at dA41_cX2_encode 21 rfl
theorem dX2_encode_68 : decode cX2_encode 68 = .ok (.iconst 1, 1) := kDec_at dA41_cX2_encode 22 rfl
theorem dX2_encode_69 : decode cX2_encode 69 = .ok (.goto 4, 3) := kDec_at dA41_cX2_encode 23 rfl
set_option maxRecDepth 20000 in
theorem ggX2_encode_X5_add : GoodIn wsX2_encode wsX5_add := goodIn_r _ [5, 6, 7, 36, 37] rfl (by decide +kernel)
set_option maxRecDepth 20000 in
theorem gX2_encode_X5_add : GoodIn wsX2_encode (wsV RX2 59 RX5 yX5_add wsX5_add) := goodIn_app (goodIn_r _ [1, 2, 3, 4] rfl (by decide +kernel)) ggX2_encode_X5_add
set_option maxRecDepth 100000 in
theorem dA42_cX2_encode : kDec cX2_encode [(74, .iload_n 2, 1), (75, .aload_n 3, 1), (76, .invokestatic 62, 3), (79, .ireturn, 1), (80, .iload_n 2, 1), (81, .invokestatic 56, 3), (84, .ifCond .eq 11, 3), (95, .aload_n 3, 1), (96, .iload_n 2, 1), (97, .invokevirtual 59, 3), (100, .ireturn, 1), (87, .iload_n 2, 1), (88, .aload_n 3, 1), (89, .invokestatic 66, 3), (92, .goto 8, 3), (101, .aload_n 0, 1), (102, .iload_n 1, 1), (103, .invokevirtual 21, 3), (106, .astore 4, 2), (108, .aload 4, 2), (110, .ifnonnull 7, 3), (117, .aload 4, 2), (119, .iload_n 2, 1), (120, .invokevirtual 69, 3)] = true := by decide +kernel
theorem dX2_encode_74 : decode cX2_encode 74 = .ok (.iload_n 2, 1) := kDec_at dA42_cX2_encode 0 rfl
theorem dX2_encode_75 : decode cX2_encode 75 = .ok (.aload_n 3, 1) := kDec_at dA42_cX2_encode 1 rfl
theorem dX2_encode_76 : decode cX2_encode 76 = .ok (.invokestatic 62, 3) := kDec_at dA42_cX2_encode 2 rfl
theorem dX2_encode_79 : decode cX2_encode 79 = .ok (.ireturn, 1) := kDec_at dA42_cX2_encode 3 rfl
theorem dX2_encode_80 : decode cX2_encode 80 = .ok (.iload_n 2, 1) := kDec_at dA42_cX2_encode 4 rfl
theorem dX2_encode_81 : decode cX2_encode 81 = .ok (.invokestatic 56, 3) := kDec_at dA42_cX2_encode 5 rfl
theorem dX2_encode_84 : decode cX2_encode 84 = .ok (.ifCond .eq 11, 3) := kDec_at dA42_cX2_encode 6 rfl
theorem dX2_encode_95 : decode cX2_encode 95 = .ok (.aload_n 3, 1) := kDec_at dA42_cX2_encode 7 rfl
theorem dX2_encode_96 : decode cX2_encode 96 = .ok (.iload_n 2, 1) := kDec_at dA42_cX2_encode 8 rfl
theorem dX2_encode_97 : decode cX2_encode 97 = .ok (.invokevirtual 59, 3) := kDec_at dA42_cX2_encode 9 rfl
theorem dX2_encode_100 : decode cX2_encode 100 = .ok (.ireturn, 1) := kDec_at dA42_cX2_encode 10 rfl
theorem dX2_encode_87 : decode cX2_encode 87 = .ok (.iload_n 2, 1) := kDec_at dA42_cX2_encode 11 rfl
theorem dX2_encode_88 : decode cX2_encode 88 = .ok (.aload_n 3, 1) := kDec_at dA42_cX2_encode 12 rfl
theorem dX2_encode_89 : decode cX2_encode 89 = .ok (.invokestatic 66, 3) := kDec_at dA42_cX2_encode 13 rfl
theorem dX2_encode_92 : decode cX2_encode 92 = .ok (.goto 8, 3) := kDec_at dA42_cX2_encode 14 rfl
theorem dX2_encode_101 : decode cX2_encode 101 = .ok (.aload_n 0, 1) := kDec_at dA42_cX2_encode 15 rfl
theorem dX2_encode_102 : decode cX2_encode 102 = .ok (.iload_n 1, 1) := kDec_at dA42_cX2_encode 16 rfl
theorem dX2_encode_103 : decode cX2_encode 103 = .ok (.invokevirtual 21, 3) := kDec_at dA42_cX2_encode 17 rfl
theorem dX2_encode_106 : decode cX2_encode 106 = .ok (.astore 4, 2) := kDec_at dA42_cX2_encode 18 rfl
theorem dX2_encode_108 : decode cX2_encode 108 = .ok (.aload 4, 2) := kDec_at dA42_cX2_encode 19 rfl
theorem dX2_encode_110 : decode cX2_encode 110 = .ok (.ifnonnull 7, 3) := kDec_at dA42_cX2_encode 20 rfl
theorem dX2_encode_117 : decode cX2_encode 117 = .ok (.aload 4, 2) := kDec_at dA42_cX2_encode 21 rfl
theorem dX2_encode_119 : decode cX2_encode 119 = .ok (.iload_n 2, 1) := kDec_at dA42_cX2_encode 22 rfl
theorem dX2_encode_120 : decode cX2_encode 120 = .ok (.invokevirtual 69, 3) := kDec_at dA42_cX2_encode 23 rfl
set_option maxRecDepth 20000 in
theorem ggX2_encode_X2_encodeMany : GoodIn wsX2_encode wsX2_encodeMany := goodIn_r _ [11, 1, 2, 3, 4, 5, 6, 7, 36, 37] rfl (by decide +kernel)
set_option maxRecDepth 20000 in
theorem gX2_encode_X2_encodeMany : GoodIn wsX2_encode (va_wsS RX2 62 yX2_encodeMany wsX2_encodeMany) := goodIn_app (goodIn_r _ [8, 9, 10] rfl (by decide +kernel)) ggX2_encode_X2_encodeMany
set_option maxRecDepth 20000 in
theorem ggX2_encode_X2_isNumbered : GoodIn wsX2_encode wsX2_isNumbered := goodIn_r _ [14] rfl (by decide +kernel)
set_option maxRecDepth 20000 in
theorem gX2_encode_X2_isNumbered : GoodIn wsX2_encode (va_wsS RX2 56 yX2_isNumbered wsX2_isNumbered) := goodIn_app (goodIn_r _ [12, 13, 10] rfl (by decide +kernel)) ggX2_encode_X2_isNumbered
set_option maxRecDepth 20000 in
theorem ggX2_encode_X2_encodeNumber : GoodIn wsX2_encode wsX2_encodeNumber := goodIn_r _ [17, 1, 2, 3, 4, 5, 6, 7, 36, 37] rfl (by decide +kernel)
set_option maxRecDepth 20000 in
theorem gX2_encode_X2_encodeNumber : GoodIn wsX2_encode (va_wsS RX2 66 yX2_encodeNumber wsX2_encodeNumber) := goodIn_app (goodIn_r _ [15, 16, 10] rfl (by decide +kernel)) ggX2_encode_X2_encodeNumber
set_option maxRecDepth 20000 in
theorem ggX2_encode_X2_toldCode : GoodIn wsX2_encode wsX2_toldCode := goodIn_r _ [21, 22, 23, 38, 39] rfl (by decide +kernel)
set_option maxRecDepth 20000 in
theorem gX2_encode_X2_toldCode : GoodIn wsX2_encode (wsV RX2 21 RX2 yX2_toldCode wsX2_toldCode) := goodIn_app (goodIn_r _ [18, 19, 20, 10] rfl (by decide +kernel)) ggX2_encode_X2_toldCode
set_option maxRecDepth 20000 in
theorem ggX2_encode_X10_byteFor : GoodIn wsX2_encode wsX10_byteFor := goodIn_r _ [28, 29, 30, 31, 32, 27, 33, 34, 35, 40, 41, 42, 43] rfl (by decide +kernel)
set_option maxRecDepth 20000 in
theorem gX2_encode_X10_byteFor : GoodIn wsX2_encode (wsV RX2 69 RX10 yX10_byteFor wsX10_byteFor) := goodIn_app (goodIn_r _ [24, 25, 26, 27] rfl (by decide +kernel)) ggX2_encode_X10_byteFor
set_option maxRecDepth 100000 in
theorem dA43_cX2_encode : kDec cX2_encode [(123, .istore 5, 2), (125, .iload 5, 2), (127, .iconst (-1), 1), (128, .if_icmp .eq 16, 3), (144, .iconst 0, 1), (145, .ireturn, 1), (131, .aload_n 3, 1), (132, .iload 5, 2), (134, .invokevirtual 59, 3), (137, .ifCond .eq 7, 3), (140, .iconst 1, 1), (141, .goto 4, 3), (113, .iconst (-1), 1), (114, .goto 9, 3)] = true := by decide +kernel
theorem dX2_encode_123 : decode cX2_encode 123 = .ok (.istore 5, 2) := kDec_at dA43_cX2_encode 0 rfl
theorem dX2_encode_125 : decode cX2_encode 125 = .ok (.iload 5, 2) := kDec_at dA43_cX2_encode 1 rfl
theorem dX2_encode_127 : decode cX2_encode 127 = .ok (.iconst (-1), 1) := kDec_at dA43_cX2_encode 2 rfl
theorem dX2_encode_128 : decode cX2_encode 128 = .ok (.if_icmp .eq 16, 3) := kDec_at dA43_cX2_encode 3 rfl
theorem dX2_encode_144 : decode cX2_encode 144 = .ok (.iconst 0, 1) := kDec_at dA43_cX2_encode 4 rfl
theorem dX2_encode_145 : decode cX2_encode 145 = .ok (.ireturn, 1) := kDec_at dA43_cX2_encode 5 rfl
theorem dX2_encode_131 : decode cX2_encode 131 = .ok (.aload_n 3, 1) := kDec_at dA43_cX2_encode 6 rfl
theorem dX2_encode_132 : decode cX2_encode 132 = .ok (.iload 5, 2) := kDec_at dA43_cX2_encode 7 rfl
theorem dX2_encode_134 : decode cX2_encode 134 = .ok (.invokevirtual 59, 3) := kDec_at dA43_cX2_encode 8 rfl
theorem dX2_encode_137 : decode cX2_encode 137 = .ok (.ifCond .eq 7, 3) := kDec_at dA43_cX2_encode 9 rfl
theorem dX2_encode_140 : decode cX2_encode 140 = .ok (.iconst 1, 1) := kDec_at dA43_cX2_encode 10 rfl
theorem dX2_encode_141 : decode cX2_encode 141 = .ok (.goto 4, 3) := kDec_at dA43_cX2_encode 11 rfl
theorem dX2_encode_113 : decode cX2_encode 113 = .ok (.iconst (-1), 1) := kDec_at dA43_cX2_encode 12 rfl
theorem dX2_encode_114 : decode cX2_encode 114 = .ok (.goto 9, 3) := kDec_at dA43_cX2_encode 13 rfl
set_option maxRecDepth 100000 in
theorem dA44_cX2_isWritten : kDec cX2_isWritten [(0, .iload_n 1, 1), (1, .lookupswitch 67 #[(2, 27), (3, 54)], 27), (28, .iload_n 2, 1), (29, .sipush 192, 3), (32, .if_icmp .lt 17, 3), (49, .iconst 1, 1), (50, .goto 4, 3), (54, .ireturn, 1), (35, .iload_n 2, 1), (36, .sipush 193, 3), (39, .if_icmp .le 14, 3), (53, .iconst 0, 1), (42, .iload_n 2, 1), (43, .sipush 240, 3), (46, .if_icmp .ge 7, 3), (55, .iload_n 2, 1), (56, .sipush 128, 3), (59, .if_icmp .ge 7, 3), (66, .iconst 0, 1), (67, .ireturn, 1), (62, .iconst 1, 1), (63, .goto 4, 3), (68, .aload_n 0, 1), (69, .iload_n 1, 1)] = true := by decide +kernel
theorem dX2_isWritten_0 : decode cX2_isWritten 0 = .ok (.iload_n 1, 1) := kDec_at dA44_cX2_isWritten 0 rfl
theorem dX2_isWritten_1 : decode cX2_isWritten 1 = .ok (.lookupswitch 67 #[(2, 27), (3, 54)], 27) := kDec_at dA44_cX2_isWritten 1 rfl
theorem dX2_isWritten_28 : decode cX2_isWritten 28 = .ok (.iload_n 2, 1) := kDec_at dA44_cX2_isWritten 2 rfl
theorem dX2_isWritten_29 : decode cX2_isWritten 29 = .ok (.sipush 192, 3) := kDec_at dA44_cX2_isWritten 3 rfl
theorem dX2_isWritten_32 : decode cX2_isWritten 32 = .ok (.if_icmp .lt 17, 3) := kDec_at dA44_cX2_isWritten 4 rfl
theorem dX2_isWritten_49 : decode cX2_isWritten 49 = .ok (.iconst 1, 1) := kDec_at dA44_cX2_isWritten 5 rfl
theorem dX2_isWritten_50 : decode cX2_isWritten 50 = .ok (.goto 4, 3) := kDec_at dA44_cX2_isWritten 6 rfl
theorem dX2_isWritten_54 : decode cX2_isWritten 54 = .ok (.ireturn, 1) := kDec_at dA44_cX2_isWritten 7 rfl
theorem dX2_isWritten_35 : decode cX2_isWritten 35 = .ok (.iload_n 2, 1) := kDec_at dA44_cX2_isWritten 8 rfl
theorem dX2_isWritten_36 : decode cX2_isWritten 36 = .ok (.sipush 193, 3) := kDec_at dA44_cX2_isWritten 9 rfl
theorem dX2_isWritten_39 : decode cX2_isWritten 39 = .ok (.if_icmp .le 14, 3) := kDec_at dA44_cX2_isWritten 10 rfl
theorem dX2_isWritten_53 : decode cX2_isWritten 53 = .ok (.iconst 0, 1) := kDec_at dA44_cX2_isWritten 11 rfl
theorem dX2_isWritten_42 : decode cX2_isWritten 42 = .ok (.iload_n 2, 1) := kDec_at dA44_cX2_isWritten 12 rfl
theorem dX2_isWritten_43 : decode cX2_isWritten 43 = .ok (.sipush 240, 3) := kDec_at dA44_cX2_isWritten 13 rfl
theorem dX2_isWritten_46 : decode cX2_isWritten 46 = .ok (.if_icmp .ge 7, 3) := kDec_at dA44_cX2_isWritten 14 rfl
theorem dX2_isWritten_55 : decode cX2_isWritten 55 = .ok (.iload_n 2, 1) := kDec_at dA44_cX2_isWritten 15 rfl
theorem dX2_isWritten_56 : decode cX2_isWritten 56 = .ok (.sipush 128, 3) := kDec_at dA44_cX2_isWritten 16 rfl
theorem dX2_isWritten_59 : decode cX2_isWritten 59 = .ok (.if_icmp .ge 7, 3) := kDec_at dA44_cX2_isWritten 17 rfl
theorem dX2_isWritten_66 : decode cX2_isWritten 66 = .ok (.iconst 0, 1) := kDec_at dA44_cX2_isWritten 18 rfl
theorem dX2_isWritten_67 : decode cX2_isWritten 67 = .ok (.ireturn, 1) := kDec_at dA44_cX2_isWritten 19 rfl
theorem dX2_isWritten_62 : decode cX2_isWritten 62 = .ok (.iconst 1, 1) := kDec_at dA44_cX2_isWritten 20 rfl
theorem dX2_isWritten_63 : decode cX2_isWritten 63 = .ok (.goto 4, 3) := kDec_at dA44_cX2_isWritten 21 rfl
theorem dX2_isWritten_68 : decode cX2_isWritten 68 = .ok (.aload_n 0, 1) := kDec_at dA44_cX2_isWritten 22 rfl
theorem dX2_isWritten_69 : decode cX2_isWritten 69 = .ok (.iload_n 1, 1) := kDec_at dA44_cX2_isWritten 23 rfl
set_option maxRecDepth 100000 in
theorem dA45_cX2_isWritten : kDec cX2_isWritten [(70, .iload_n 2, 1), (71, .invokevirtual 38, 3), (74, .iconst (-1), 1), (75, .if_icmp .eq 7, 3), (82, .iconst 0, 1), (83, .ireturn, 1), (78, .iconst 1, 1), (79, .goto 4, 3)] = true := by decide +kernel
theorem dX2_isWritten_70 : decode cX2_isWritten 70 = .ok (.iload_n 2, 1) := kDec_at dA45_cX2_isWritten 0 rfl
theorem dX2_isWritten_71 : decode cX2_isWritten 71 = .ok (.invokevirtual 38, 3) := kDec_at dA45_cX2_isWritten 1 rfl
theorem dX2_isWritten_74 : decode cX2_isWritten 74 = .ok (.iconst (-1), 1) := kDec_at dA45_cX2_isWritten 2 rfl
theorem dX2_isWritten_75 : decode cX2_isWritten 75 = .ok (.if_icmp .eq 7, 3) := kDec_at dA45_cX2_isWritten 3 rfl
theorem dX2_isWritten_82 : decode cX2_isWritten 82 = .ok (.iconst 0, 1) := kDec_at dA45_cX2_isWritten 4 rfl
theorem dX2_isWritten_83 : decode cX2_isWritten 83 = .ok (.ireturn, 1) := kDec_at dA45_cX2_isWritten 5 rfl
theorem dX2_isWritten_78 : decode cX2_isWritten 78 = .ok (.iconst 1, 1) := kDec_at dA45_cX2_isWritten 6 rfl
theorem dX2_isWritten_79 : decode cX2_isWritten 79 = .ok (.goto 4, 3) := kDec_at dA45_cX2_isWritten 7 rfl
set_option maxRecDepth 20000 in
theorem ggX2_isWritten_X2_letterAlone : GoodIn wsX2_isWritten wsX2_letterAlone := goodIn_r _ [5, 6, 7, 8, 4, 9, 10, 11, 12, 13, 14, 15, 16, 17, 18, 19, 20, 21, 22, 23] rfl (by decide +kernel)
set_option maxRecDepth 20000 in
theorem gX2_isWritten_X2_letterAlone : GoodIn wsX2_isWritten (wsV RX2 38 RX2 yX2_letterAlone wsX2_letterAlone) := goodIn_app (goodIn_r _ [1, 2, 3, 4] rfl (by decide +kernel)) ggX2_isWritten_X2_letterAlone
set_option maxRecDepth 100000 in
theorem dA46_cX2_neverLost : kDec cX2_neverLost [(0, .iload_n 1, 1), (1, .iload_n 2, 1), (2, .if_icmp .ne 5, 3), (7, .iconst 0, 1), (8, .istore_n 3, 1), (9, .iload_n 3, 1), (10, .sipush 256, 3), (13, .if_icmp .ge 30, 3), (43, .iconst 1, 1), (44, .ireturn, 1), (16, .aload_n 0, 1), (17, .iload_n 1, 1), (18, .iload_n 3, 1), (19, .invokevirtual 72, 3), (22, .ifCond .eq 15, 3), (37, .iinc 3 1, 3), (40, .goto (-31), 3), (25, .aload_n 0, 1), (26, .iload_n 2, 1), (27, .iload_n 3, 1), (28, .invokevirtual 38, 3), (31, .iconst (-1), 1), (32, .if_icmp .ne 5, 3), (35, .iconst 0, 1)] = true := by decide +kernel
theorem dX2_neverLost_0 : decode cX2_neverLost 0 = .ok (.iload_n 1, 1) := kDec_at dA46_cX2_neverLost 0 rfl
theorem dX2_neverLost_1 : decode cX2_neverLost 1 = .ok (.iload_n 2, 1) := kDec_at dA46_cX2_neverLost 1 rfl
theorem dX2_neverLost_2 : decode cX2_neverLost 2 = .ok (.if_icmp .ne 5, 3) := kDec_at dA46_cX2_neverLost 2 rfl
theorem dX2_neverLost_7 : decode cX2_neverLost 7 = .ok (.iconst 0, 1) := kDec_at dA46_cX2_neverLost 3 rfl
theorem dX2_neverLost_8 : decode cX2_neverLost 8 = .ok (.istore_n 3, 1) := kDec_at dA46_cX2_neverLost 4 rfl
theorem dX2_neverLost_9 : decode cX2_neverLost 9 = .ok (.iload_n 3, 1) := kDec_at dA46_cX2_neverLost 5 rfl
theorem dX2_neverLost_10 : decode cX2_neverLost 10 = .ok (.sipush 256, 3) := kDec_at dA46_cX2_neverLost 6 rfl
theorem dX2_neverLost_13 : decode cX2_neverLost 13 = .ok (.if_icmp .ge 30, 3) := kDec_at dA46_cX2_neverLost 7 rfl
theorem dX2_neverLost_43 : decode cX2_neverLost 43 = .ok (.iconst 1, 1) := kDec_at dA46_cX2_neverLost 8 rfl
theorem dX2_neverLost_44 : decode cX2_neverLost 44 = .ok (.ireturn, 1) := kDec_at dA46_cX2_neverLost 9 rfl
theorem dX2_neverLost_16 : decode cX2_neverLost 16 = .ok (.aload_n 0, 1) := kDec_at dA46_cX2_neverLost 10 rfl
theorem dX2_neverLost_17 : decode cX2_neverLost 17 = .ok (.iload_n 1, 1) := kDec_at dA46_cX2_neverLost 11 rfl
theorem dX2_neverLost_18 : decode cX2_neverLost 18 = .ok (.iload_n 3, 1) := kDec_at dA46_cX2_neverLost 12 rfl
theorem dX2_neverLost_19 : decode cX2_neverLost 19 = .ok (.invokevirtual 72, 3) := kDec_at dA46_cX2_neverLost 13 rfl
theorem dX2_neverLost_22 : decode cX2_neverLost 22 = .ok (.ifCond .eq 15, 3) := kDec_at dA46_cX2_neverLost 14 rfl
theorem dX2_neverLost_37 : decode cX2_neverLost 37 = .ok (.iinc 3 1, 3) := kDec_at dA46_cX2_neverLost 15 rfl
theorem dX2_neverLost_40 : decode cX2_neverLost 40 = .ok (.goto (-31), 3) := kDec_at dA46_cX2_neverLost 16 rfl
theorem dX2_neverLost_25 : decode cX2_neverLost 25 = .ok (.aload_n 0, 1) := kDec_at dA46_cX2_neverLost 17 rfl
theorem dX2_neverLost_26 : decode cX2_neverLost 26 = .ok (.iload_n 2, 1) := kDec_at dA46_cX2_neverLost 18 rfl
theorem dX2_neverLost_27 : decode cX2_neverLost 27 = .ok (.iload_n 3, 1) := kDec_at dA46_cX2_neverLost 19 rfl
theorem dX2_neverLost_28 : decode cX2_neverLost 28 = .ok (.invokevirtual 38, 3) := kDec_at dA46_cX2_neverLost 20 rfl
theorem dX2_neverLost_31 : decode cX2_neverLost 31 = .ok (.iconst (-1), 1) := kDec_at dA46_cX2_neverLost 21 rfl
theorem dX2_neverLost_32 : decode cX2_neverLost 32 = .ok (.if_icmp .ne 5, 3) := kDec_at dA46_cX2_neverLost 22 rfl
theorem dX2_neverLost_35 : decode cX2_neverLost 35 = .ok (.iconst 0, 1) := kDec_at dA46_cX2_neverLost 23 rfl
set_option maxRecDepth 20000 in
theorem ggX2_neverLost_X2_isWritten : GoodIn wsX2_neverLost wsX2_isWritten := goodIn_r _ [5, 6, 7, 8, 4, 9, 10, 11, 12, 13, 14, 15, 16, 17, 18, 19, 20, 21, 22, 23, 24, 25, 26, 27] rfl (by decide +kernel)
set_option maxRecDepth 20000 in
theorem gX2_neverLost_X2_isWritten : GoodIn wsX2_neverLost (wsV RX2 72 RX2 yX2_isWritten wsX2_isWritten) := goodIn_app (goodIn_r _ [1, 2, 3, 4] rfl (by decide +kernel)) ggX2_neverLost_X2_isWritten
set_option maxRecDepth 20000 in
theorem ggX2_neverLost_X2_letterAlone : GoodIn wsX2_neverLost wsX2_letterAlone := goodIn_r _ [9, 10, 11, 12, 4, 13, 14, 15, 16, 17, 18, 19, 20, 21, 22, 23, 24, 25, 26, 27] rfl (by decide +kernel)
set_option maxRecDepth 20000 in
theorem gX2_neverLost_X2_letterAlone : GoodIn wsX2_neverLost (wsV RX2 38 RX2 yX2_letterAlone wsX2_letterAlone) := goodIn_app (goodIn_r _ [6, 7, 8, 4] rfl (by decide +kernel)) ggX2_neverLost_X2_letterAlone
set_option maxRecDepth 100000 in
theorem dA47_cX2_neverLost : kDec cX2_neverLost [(36, .ireturn, 1), (5, .iconst 1, 1), (6, .ireturn, 1)] = true := by decide +kernel
theorem dX2_neverLost_36 : decode cX2_neverLost 36 = .ok (.ireturn, 1) := kDec_at dA47_cX2_neverLost 0 rfl
theorem dX2_neverLost_5 : decode cX2_neverLost 5 = .ok (.iconst 1, 1) := kDec_at dA47_cX2_neverLost 1 rfl
theorem dX2_neverLost_6 : decode cX2_neverLost 6 = .ok (.ireturn, 1) := kDec_at dA47_cX2_neverLost 2 rfl

end

/-! 24.codes -/
section
set_option maxHeartbeats 40000000 in
set_option maxRecDepth 100000 in
theorem m_X2_known (l : Launch) (dC : Nat → ClassId) (dI : Nat → Nat → Nat) (cI cS : ClassId) (sz : Nat) (cd : Int32)  : kMi l yX2_known wsX2_known ({ frames := 0, cells := 0, slots := 0, locals := 0 } : Room) [.int cd] sz (dC, dI) vwCl [(cI, .int), (cS, .short)] [] (fun _ => True) 0 0 (fun (A : Nat → Prop) (r : Int32) (hh9 : Heap) => kPD (dC, dI) vwCl A [] hh9 ∧ (0 ≤ r.toInt ∧ r.toInt ≤ 1) ∧ ((r.toInt = 1 ∧ 0 ≤ cd.toInt ∧ cd.toInt ≤ 5) ∨ (r.toInt = 0 ∧ (cd.toInt < 0 ∨ 5 < cd.toInt)))) := by
  refine kMi_of (cc := cX2_known) (maxL := 1) (ret := (some .boolean)) (lv := [(0, .int cd)]) (by decide +kernel) rfl rfl (Nat.le_of_ble_eq_true rfl) ?_
  intro p e s m below meth c A QQ ls hx hb hr hts hml hown hlocks hA hQQ hK hX hP hD hS hl
  have hown : s.vm.findClass RX2 = some m.cls := hown
  have hcf := k_cf hx hb hml hown hts
  refine lv_iload_n hx hb dX2_known_0 rfl (lv_at hl 0 rfl) ?_
  refine lv_if_lt (tgt := 13) hx hb dX2_known_1 (by decide) (fun c_1 => ?_) (fun c_1 => ?_)
  · have tc_1 : cd.toInt < 0 := v_lt c_1
    refine lv_iconst (v := 0) hx hb dX2_known_13 (by decide) ?_
    exact kl_z (v := 0) hQQ hx hb hr hlocks hS dX2_known_14 (rfl) ⟨⟨hP, hD⟩, by decide, by show (0 = 1 ∧ 0 ≤ cd.toInt ∧ cd.toInt ≤ 5) ∨ (0 = 0 ∧ (cd.toInt < 0 ∨ 5 < cd.toInt)); omega⟩
  · have tc_1 : 0 ≤ cd.toInt := v_nlt c_1
    refine lv_iload_n hx hb dX2_known_4 rfl (lv_at hl 0 rfl) ?_
    refine lv_iconst (v := 5) hx hb dX2_known_5 (by decide) ?_
    refine lv_icmp_gt (tgt := 13) hx hb dX2_known_6 (by decide) (fun c_2 => ?_) (fun c_2 => ?_)
    · have tc_2 : 5 < cd.toInt := v_lt c_2
      refine lv_iconst (v := 0) hx hb dX2_known_13 (by decide) ?_
      exact kl_z (v := 0) hQQ hx hb hr hlocks hS dX2_known_14 (rfl) ⟨⟨hP, hD⟩, by decide, by show (0 = 1 ∧ 0 ≤ cd.toInt ∧ cd.toInt ≤ 5) ∨ (0 = 0 ∧ (cd.toInt < 0 ∨ 5 < cd.toInt)); omega⟩
    · have tc_2 : cd.toInt ≤ 5 := v_nlt c_2
      refine lv_iconst (v := 1) hx hb dX2_known_9 (by decide) ?_
      refine lv_goto (tgt := 14) hx hb dX2_known_10 (by decide) ?_
      exact kl_z (v := 1) hQQ hx hb hr hlocks hS dX2_known_14 (rfl) ⟨⟨hP, hD⟩, by decide, by show (1 = 1 ∧ 0 ≤ cd.toInt ∧ cd.toInt ≤ 5) ∨ (1 = 0 ∧ (cd.toInt < 0 ∨ 5 < cd.toInt)); omega⟩

set_option maxHeartbeats 40000000 in
set_option maxRecDepth 100000 in
theorem m_X2_toldCode_4 (l : Launch) (dC : Nat → ClassId) (dI : Nat → Nat → Nat) (cI cS : ClassId) (sz : Nat) (oC : Nat) (o4 : Nat) (o5 : Nat) (cd : Int32) (h4 : cd.toInt = 4) : kMr l yX2_toldCode wsX2_toldCode ({ frames := 0, cells := 0, slots := 0, locals := 0 } : Room) [.ref oC, .int cd] sz (dC, dI) vwCl [(cI, .int), (cS, .short)] [(oC, .inr (2, [.ref o4, .ref o5]))] (fun _ => True) 0 0 (fun (A : Nat → Prop) (ra : Nat) (hh9 : Heap) => ra = o4 ∧ kPD (dC, dI) vwCl A [(oC, .inr (2, [.ref o4, .ref o5]))] hh9) := by
  refine kMr_of (cc := cX2_toldCode) (maxL := 2) (ret := (some (.object "TextMender$ToldCode"))) (lv := [(0, .ref oC), (1, .int cd)]) (by decide +kernel) rfl rfl (Nat.le_of_ble_eq_true rfl) ?_
  intro p e s m below meth c A QQ ls hx hb hr hts hml hown hlocks hA hQQ hK hX hP hD hS hl
  have hown : s.vm.findClass RX2 = some m.cls := hown
  have hcf := k_cf hx hb hml hown hts
  have in_X2 : ∀ w ∈ wsX20, w ∈ wsX2_toldCode := fun _ h => List.mem_cons_of_mem _ (List.mem_append_right _ (h))
  refine lv_iload_n hx hb dX2_toldCode_0 rfl (lv_at hl 1 rfl) ?_
  refine lv_iconst (v := 4) hx hb dX2_toldCode_1 (by decide) ?_
  refine lv_icmp_ne (tgt := 12) hx hb dX2_toldCode_2 (by decide) (fun c_1 => by exfalso; have tc_1 : ¬ cd.toInt = 4 := v_ne c_1; omega) (fun c_1 => ?_)
  have tc_1 : cd.toInt = 4 := v_eq c_1
  refine lv_aload_n hx hb dX2_toldCode_5 rfl (lv_at hl 0 rfl) ?_
  refine va_get (D := (dC, dI)) (ci := 2) (v := .ref o4) (C := RX2) (T := TX2) (N := 2) hx hb hts in_X2 hown hK hP 0 rfl rfl 0 (by decide) (hts (.fieldLink RX2 12 "TextMender$Codes" "four" "LTextMender$ToldCode;") (List.mem_of_getElem? (i := 1) rfl)) (fun _ h9 => h9) rfl dX2_toldCode_6 ?_
  refine lv_goto (tgt := 25) hx hb dX2_toldCode_9 (by decide) ?_
  exact kl_r hQQ hx hb hr (Or.inl ⟨_, rfl⟩) hlocks hS dX2_toldCode_25 ⟨rfl, ⟨hP, hD⟩⟩

set_option maxHeartbeats 40000000 in
set_option maxRecDepth 100000 in
theorem m_X2_toldCode_5 (l : Launch) (dC : Nat → ClassId) (dI : Nat → Nat → Nat) (cI cS : ClassId) (sz : Nat) (oC : Nat) (o4 : Nat) (o5 : Nat) (cd : Int32) (h5 : cd.toInt = 5) : kMr l yX2_toldCode wsX2_toldCode ({ frames := 0, cells := 0, slots := 0, locals := 0 } : Room) [.ref oC, .int cd] sz (dC, dI) vwCl [(cI, .int), (cS, .short)] [(oC, .inr (2, [.ref o4, .ref o5]))] (fun _ => True) 0 0 (fun (A : Nat → Prop) (ra : Nat) (hh9 : Heap) => ra = o5 ∧ kPD (dC, dI) vwCl A [(oC, .inr (2, [.ref o4, .ref o5]))] hh9) := by
  refine kMr_of (cc := cX2_toldCode) (maxL := 2) (ret := (some (.object "TextMender$ToldCode"))) (lv := [(0, .ref oC), (1, .int cd)]) (by decide +kernel) rfl rfl (Nat.le_of_ble_eq_true rfl) ?_
  intro p e s m below meth c A QQ ls hx hb hr hts hml hown hlocks hA hQQ hK hX hP hD hS hl
  have hown : s.vm.findClass RX2 = some m.cls := hown
  have hcf := k_cf hx hb hml hown hts
  have in_X2 : ∀ w ∈ wsX20, w ∈ wsX2_toldCode := fun _ h => List.mem_cons_of_mem _ (List.mem_append_right _ (h))
  refine lv_iload_n hx hb dX2_toldCode_0 rfl (lv_at hl 1 rfl) ?_
  refine lv_iconst (v := 4) hx hb dX2_toldCode_1 (by decide) ?_
  refine lv_icmp_ne (tgt := 12) hx hb dX2_toldCode_2 (by decide) (fun c_1 => ?_) (fun c_1 => by exfalso; have tc_1 : cd.toInt = 4 := v_eq c_1; omega)
  have tc_1 : ¬ cd.toInt = 4 := v_ne c_1
  refine lv_iload_n hx hb dX2_toldCode_12 rfl (lv_at hl 1 rfl) ?_
  refine lv_iconst (v := 5) hx hb dX2_toldCode_13 (by decide) ?_
  refine lv_icmp_ne (tgt := 24) hx hb dX2_toldCode_14 (by decide) (fun c_2 => by exfalso; have tc_2 : ¬ cd.toInt = 5 := v_ne c_2; omega) (fun c_2 => ?_)
  have tc_2 : cd.toInt = 5 := v_eq c_2
  refine lv_aload_n hx hb dX2_toldCode_17 rfl (lv_at hl 0 rfl) ?_
  refine va_get (D := (dC, dI)) (ci := 2) (v := .ref o5) (C := RX2) (T := TX2) (N := 2) hx hb hts in_X2 hown hK hP 0 rfl rfl 1 (by decide) (hts (.fieldLink RX2 18 "TextMender$Codes" "five" "LTextMender$ToldCode;") (List.mem_of_getElem? (i := 2) rfl)) (fun _ h9 => h9) rfl dX2_toldCode_18 ?_
  refine lv_goto (tgt := 25) hx hb dX2_toldCode_21 (by decide) ?_
  exact kl_r hQQ hx hb hr (Or.inl ⟨_, rfl⟩) hlocks hS dX2_toldCode_25 ⟨rfl, ⟨hP, hD⟩⟩

set_option maxHeartbeats 40000000 in
set_option maxRecDepth 100000 in
theorem m_X2_toldCode_n (l : Launch) (dC : Nat → ClassId) (dI : Nat → Nat → Nat) (cI cS : ClassId) (sz : Nat) (oC : Nat) (o4 : Nat) (o5 : Nat) (cd : Int32) (h4 : ¬ cd.toInt = 4) (h5 : ¬ cd.toInt = 5) : kMq l yX2_toldCode wsX2_toldCode ({ frames := 0, cells := 0, slots := 0, locals := 0 } : Room) [.ref oC, .int cd] sz (dC, dI) vwCl [(cI, .int), (cS, .short)] [(oC, .inr (2, [.ref o4, .ref o5]))] (fun _ => True) 0 0 (fun (A : Nat → Prop) (hh9 : Heap) => kPD (dC, dI) vwCl A [(oC, .inr (2, [.ref o4, .ref o5]))] hh9) := by
  refine kMq_of (cc := cX2_toldCode) (maxL := 2) (ret := (some (.object "TextMender$ToldCode"))) (lv := [(0, .ref oC), (1, .int cd)]) (by decide +kernel) rfl rfl (Nat.le_of_ble_eq_true rfl) ?_
  intro p e s m below meth c A QQ ls hx hb hr hts hml hown hlocks hA hQQ hK hX hP hD hS hl
  have hown : s.vm.findClass RX2 = some m.cls := hown
  have hcf := k_cf hx hb hml hown hts
  refine lv_iload_n hx hb dX2_toldCode_0 rfl (lv_at hl 1 rfl) ?_
  refine lv_iconst (v := 4) hx hb dX2_toldCode_1 (by decide) ?_
  refine lv_icmp_ne (tgt := 12) hx hb dX2_toldCode_2 (by decide) (fun c_1 => ?_) (fun c_1 => by exfalso; have tc_1 : cd.toInt = 4 := v_eq c_1; omega)
  have tc_1 : ¬ cd.toInt = 4 := v_ne c_1
  refine lv_iload_n hx hb dX2_toldCode_12 rfl (lv_at hl 1 rfl) ?_
  refine lv_iconst (v := 5) hx hb dX2_toldCode_13 (by decide) ?_
  refine lv_icmp_ne (tgt := 24) hx hb dX2_toldCode_14 (by decide) (fun c_2 => ?_) (fun c_2 => by exfalso; have tc_2 : cd.toInt = 5 := v_eq c_2; omega)
  have tc_2 : ¬ cd.toInt = 5 := v_ne c_2
  refine lv_null hx hb dX2_toldCode_24 ?_
  exact kl_q hQQ hx hb hr (Or.inl ⟨_, rfl⟩) hlocks hS dX2_toldCode_25 ⟨hP, hD⟩

set_option maxHeartbeats 40000000 in
set_option maxRecDepth 100000 in
theorem m_X2_lengthOf (l : Launch) (dC : Nat → ClassId) (dI : Nat → Nat → Nat) (cI cS : ClassId) (sz : Nat) (oC : Nat) (o4 : Nat) (o5 : Nat) (a41 : Nat) (a42 : Nat) (a43 : Nat) (a51 : Nat) (a52 : Nat) (a53 : Nat) (l4 : Int32) (l5 : Int32) (cd : Int32)  : kMi l yX2_lengthOf wsX2_lengthOf ({ frames := 1, cells := 0, slots := 0, locals := 21 } : Room) [.ref oC, .int cd] sz (dC, dI) vwCl [(cI, .int), (cS, .short)] [(oC, .inr (2, [.ref o4, .ref o5])), (o4, .inr (10, [.ref a41, .ref a42, .ref a43, .int l4])), (o5, .inr (10, [.ref a51, .ref a52, .ref a53, .int l5]))] (fun _ => True) 0 0 (fun (A : Nat → Prop) (r : Int32) (hh9 : Heap) => kPD (dC, dI) vwCl A [(oC, .inr (2, [.ref o4, .ref o5])), (o4, .inr (10, [.ref a41, .ref a42, .ref a43, .int l4])), (o5, .inr (10, [.ref a51, .ref a52, .ref a53, .int l5]))] hh9) := by
  refine kMi_of (cc := cX2_lengthOf) (maxL := 3) (ret := (some .int)) (lv := [(0, .ref oC), (1, .int cd)]) (by decide +kernel) rfl rfl (Nat.le_of_ble_eq_true rfl) ?_
  intro p e s m below meth c A QQ ls hx hb hr hts hml hown hlocks hA hQQ hK hX hP hD hS hl
  have hown : s.vm.findClass RX2 = some m.cls := hown
  have hcf := k_cf hx hb hml hown hts
  refine lv_aload_n hx hb dX2_lengthOf_0 rfl (lv_at hl 0 rfl) ?_
  refine lv_iload_n hx hb dX2_lengthOf_1 rfl (lv_at hl 1 rfl) ?_
  by_cases cs_1 : cd.toInt = 4
  · refine kV_r (rest := []) (q0 := 0) (ci := 2) hcf (m_X2_toldCode_4 l dC dI cI cS s.heap.size oC o4 o5 cd (by omega)) kc_X2_toldCode gX2_lengthOf_X2_toldCode rfl rfl rfl ⟨Nat.le_of_ble_eq_true rfl, Nat.le_of_ble_eq_true rfl⟩ kX_t hK hP hD hS hA [0] [1, 2] rfl (by decide +kernel) rfl rfl rfl hl rfl (Nat.le_of_ble_eq_true rfl) dX2_lengthOf_2 ⟨Nat.le_of_ble_eq_true rfl, Nat.le_of_ble_eq_true rfl⟩ (fun r_2 H locs hB hJ hSn => ?_)
    obtain ⟨hra, ⟨hP1, hD1⟩⟩ := hB
    rw [hra]
    obtain ⟨hPn, hDn⟩ := hJ _ hP1 hD1 [(o4, .inr (10, [.ref a41, .ref a42, .ref a43, .int l4])), (o5, .inr (10, [.ref a51, .ref a52, .ref a53, .int l5])), (oC, .inr (2, [.ref o4, .ref o5]))] rfl
    clear hP hD hS hJ hP1 hD1
    have hP := hPn
    have hD := hDn
    have hS := hSn
    clear hPn hDn hSn
    refine lv_astore_n (lv' := [(2, .ref o4), (0, .ref oC), (1, .int cd)]) hx hb dX2_lengthOf_5 rfl hl (by decide) rfl (fun ls hl => ?_)
    refine lv_aload_n hx hb dX2_lengthOf_6 rfl (lv_at hl 0 rfl) ?_
    refine lv_ifnonnull (tgt := 14) hx hb dX2_lengthOf_7 (by decide) ?_
    refine lv_aload_n hx hb dX2_lengthOf_14 rfl (lv_at hl 0 rfl) ?_
    refine kV_i (rest := []) (q0 := 0) (ci := 10) hcf (m_X10_length l dC dI cI cS H.size o4 a41 a42 a43 l4 ) kc_X10_length gX2_lengthOf_X10_length rfl rfl rfl ⟨Nat.le_of_ble_eq_true rfl, Nat.le_of_ble_eq_true rfl⟩ kX_t hK hP hD hS hA [0] [1, 2] rfl (by decide +kernel) rfl rfl rfl hl rfl (Nat.le_of_ble_eq_true rfl) dX2_lengthOf_15 ⟨Nat.le_of_ble_eq_true rfl, Nat.le_of_ble_eq_true rfl⟩ (fun r_3 H locs hB hJ hSn => ?_)
    obtain ⟨⟨hP1, hD1⟩, hf3_0⟩ := hB
    obtain ⟨hPn, hDn⟩ := hJ _ hP1 hD1 [(o5, .inr (10, [.ref a51, .ref a52, .ref a53, .int l5])), (oC, .inr (2, [.ref o4, .ref o5])), (o4, .inr (10, [.ref a41, .ref a42, .ref a43, .int l4]))] rfl
    clear hP hD hS hJ hP1 hD1
    have hP := hPn
    have hD := hDn
    have hS := hSn
    clear hPn hDn hSn
    rw [hf3_0]
    exact kl_i (v := l4) hQQ hx hb hr hlocks hS dX2_lengthOf_18 (kPD_sub hP hD [1, 2, 0] (by decide +kernel) rfl)
  · skip
    by_cases cs_4 : cd.toInt = 5
    · refine kV_r (rest := []) (q0 := 0) (ci := 2) hcf (m_X2_toldCode_5 l dC dI cI cS s.heap.size oC o4 o5 cd (by omega)) kc_X2_toldCode gX2_lengthOf_X2_toldCode rfl rfl rfl ⟨Nat.le_of_ble_eq_true rfl, Nat.le_of_ble_eq_true rfl⟩ kX_t hK hP hD hS hA [0] [1, 2] rfl (by decide +kernel) rfl rfl rfl hl rfl (Nat.le_of_ble_eq_true rfl) dX2_lengthOf_2 ⟨Nat.le_of_ble_eq_true rfl, Nat.le_of_ble_eq_true rfl⟩ (fun r_5 H locs hB hJ hSn => ?_)
      obtain ⟨hra, ⟨hP1, hD1⟩⟩ := hB
      rw [hra]
      obtain ⟨hPn, hDn⟩ := hJ _ hP1 hD1 [(o4, .inr (10, [.ref a41, .ref a42, .ref a43, .int l4])), (o5, .inr (10, [.ref a51, .ref a52, .ref a53, .int l5])), (oC, .inr (2, [.ref o4, .ref o5]))] rfl
      clear hP hD hS hJ hP1 hD1
      have hP := hPn
      have hD := hDn
      have hS := hSn
      clear hPn hDn hSn
      refine lv_astore_n (lv' := [(2, .ref o5), (0, .ref oC), (1, .int cd)]) hx hb dX2_lengthOf_5 rfl hl (by decide) rfl (fun ls hl => ?_)
      refine lv_aload_n hx hb dX2_lengthOf_6 rfl (lv_at hl 0 rfl) ?_
      refine lv_ifnonnull (tgt := 14) hx hb dX2_lengthOf_7 (by decide) ?_
      refine lv_aload_n hx hb dX2_lengthOf_14 rfl (lv_at hl 0 rfl) ?_
      refine kV_i (rest := []) (q0 := 0) (ci := 10) hcf (m_X10_length l dC dI cI cS H.size o5 a51 a52 a53 l5 ) kc_X10_length gX2_lengthOf_X10_length rfl rfl rfl ⟨Nat.le_of_ble_eq_true rfl, Nat.le_of_ble_eq_true rfl⟩ kX_t hK hP hD hS hA [1] [0, 2] rfl (by decide +kernel) rfl rfl rfl hl rfl (Nat.le_of_ble_eq_true rfl) dX2_lengthOf_15 ⟨Nat.le_of_ble_eq_true rfl, Nat.le_of_ble_eq_true rfl⟩ (fun r_6 H locs hB hJ hSn => ?_)
      obtain ⟨⟨hP1, hD1⟩, hf6_0⟩ := hB
      obtain ⟨hPn, hDn⟩ := hJ _ hP1 hD1 [(o4, .inr (10, [.ref a41, .ref a42, .ref a43, .int l4])), (oC, .inr (2, [.ref o4, .ref o5])), (o5, .inr (10, [.ref a51, .ref a52, .ref a53, .int l5]))] rfl
      clear hP hD hS hJ hP1 hD1
      have hP := hPn
      have hD := hDn
      have hS := hSn
      clear hPn hDn hSn
      rw [hf6_0]
      exact kl_i (v := l5) hQQ hx hb hr hlocks hS dX2_lengthOf_18 (kPD_sub hP hD [1, 0, 2] (by decide +kernel) rfl)
    · skip
      refine kV_q (rest := []) (q0 := 0) (ci := 2) hcf (m_X2_toldCode_n l dC dI cI cS s.heap.size oC o4 o5 cd (by omega) (by omega)) kc_X2_toldCode gX2_lengthOf_X2_toldCode rfl rfl rfl ⟨Nat.le_of_ble_eq_true rfl, Nat.le_of_ble_eq_true rfl⟩ kX_t hK hP hD hS hA [0] [1, 2] rfl (by decide +kernel) rfl rfl rfl hl rfl (Nat.le_of_ble_eq_true rfl) dX2_lengthOf_2 ⟨Nat.le_of_ble_eq_true rfl, Nat.le_of_ble_eq_true rfl⟩ (fun H locs hB hJ hSn => ?_)
      obtain ⟨hP1, hD1⟩ := hB
      obtain ⟨hPn, hDn⟩ := hJ _ hP1 hD1 [(o4, .inr (10, [.ref a41, .ref a42, .ref a43, .int l4])), (o5, .inr (10, [.ref a51, .ref a52, .ref a53, .int l5])), (oC, .inr (2, [.ref o4, .ref o5]))] rfl
      clear hP hD hS hJ hP1 hD1
      have hP := hPn
      have hD := hDn
      have hS := hSn
      clear hPn hDn hSn
      refine lv_astore_nN (lv' := [(2, .null), (0, .ref oC), (1, .int cd)]) hx hb dX2_lengthOf_5 rfl hl (by decide) rfl (fun ls hl => ?_)
      refine lv_aload_nN hx hb dX2_lengthOf_6 rfl (lv_at hl 0 rfl) ?_
      refine lv_ifnonnullN hx hb dX2_lengthOf_7 ?_
      refine lv_iconst (v := (-1)) hx hb dX2_lengthOf_10 (by decide) ?_
      refine lv_goto (tgt := 18) hx hb dX2_lengthOf_11 (by decide) ?_
      exact kl_i (v := (-1)) hQQ hx hb hr hlocks hS dX2_lengthOf_18 (kPD_sub hP hD [2, 0, 1] (by decide +kernel) rfl)

set_option maxHeartbeats 40000000 in
set_option maxRecDepth 100000 in
theorem m_X2_letterIn (l : Launch) (dC : Nat → ClassId) (dI : Nat → Nat → Nat) (cI cS : ClassId) (sz : Nat) (fd : Int32)  : kMi l yX2_letterIn wsX2_letterIn ({ frames := 0, cells := 0, slots := 0, locals := 0 } : Room) [.int fd] sz (dC, dI) vwCl [(cI, .int), (cS, .short)] [] (fun _ => True) 0 0 (fun (A : Nat → Prop) (r : Int32) (hh9 : Heap) => kPD (dC, dI) vwCl A [] hh9) := by
  refine kMi_of (cc := cX2_letterIn) (maxL := 1) (ret := (some .int)) (lv := [(0, .int fd)]) (by decide +kernel) rfl rfl (Nat.le_of_ble_eq_true rfl) ?_
  intro p e s m below meth c A QQ ls hx hb hr hts hml hown hlocks hA hQQ hK hX hP hD hS hl
  have hown : s.vm.findClass RX2 = some m.cls := hown
  have hcf := k_cf hx hb hml hown hts
  refine lv_iload_n hx hb dX2_letterIn_0 rfl (lv_at hl 0 rfl) ?_
  refine lv_iconst (v := 4) hx hb dX2_letterIn_1 (by decide) ?_
  refine lv_ishr hx hb dX2_letterIn_2 ?_
  refine lv_topi (fun x_1 ex_1 => ?_)
  have rv1_0 := v_rng fd
  have tx_1 : x_1.toInt = fd.toInt / 16 := v_shr 4 ex_1 (by decide)
  exact kl_i (v := x_1) hQQ hx hb hr hlocks hS dX2_letterIn_3 ⟨hP, hD⟩

set_option maxHeartbeats 40000000 in
set_option maxRecDepth 100000 in
theorem m_X2_bytesIn (l : Launch) (dC : Nat → ClassId) (dI : Nat → Nat → Nat) (cI cS : ClassId) (sz : Nat) (fd : Int32)  : kMi l yX2_bytesIn wsX2_bytesIn ({ frames := 0, cells := 0, slots := 0, locals := 0 } : Room) [.int fd] sz (dC, dI) vwCl [(cI, .int), (cS, .short)] [] (fun _ => True) 0 0 (fun (A : Nat → Prop) (r : Int32) (hh9 : Heap) => kPD (dC, dI) vwCl A [] hh9 ∧ (0 ≤ r.toInt ∧ r.toInt ≤ 15)) := by
  refine kMi_of (cc := cX2_bytesIn) (maxL := 1) (ret := (some .int)) (lv := [(0, .int fd)]) (by decide +kernel) rfl rfl (Nat.le_of_ble_eq_true rfl) ?_
  intro p e s m below meth c A QQ ls hx hb hr hts hml hown hlocks hA hQQ hK hX hP hD hS hl
  have hown : s.vm.findClass RX2 = some m.cls := hown
  have hcf := k_cf hx hb hml hown hts
  refine lv_iload_n hx hb dX2_bytesIn_0 rfl (lv_at hl 0 rfl) ?_
  refine lv_bipush (v := 15) hx hb dX2_bytesIn_1 (by decide) ?_
  refine lv_iand hx hb dX2_bytesIn_3 ?_
  refine lv_topi (fun x_1 ex_1 => ?_)
  have tx_1 : 0 ≤ x_1.toInt ∧ x_1.toInt < 16 := v_and 4 ex_1 (by decide) (by decide)
  exact kl_i (v := x_1) hQQ hx hb hr hlocks hS dX2_bytesIn_4 ⟨⟨hP, hD⟩, by omega⟩

set_option maxHeartbeats 40000000 in
set_option maxRecDepth 100000 in
theorem m_X2_found (l : Launch) (dC : Nat → ClassId) (dI : Nat → Nat → Nat) (cI cS : ClassId) (sz : Nat) (le : Int32) (by_ : Int32)  : kMi l yX2_found wsX2_found ({ frames := 0, cells := 0, slots := 0, locals := 0 } : Room) [.int le, .int by_] sz (dC, dI) vwCl [(cI, .int), (cS, .short)] [] (fun _ => True) 0 0 (fun (A : Nat → Prop) (r : Int32) (hh9 : Heap) => kPD (dC, dI) vwCl A [] hh9) := by
  refine kMi_of (cc := cX2_found) (maxL := 2) (ret := (some .int)) (lv := [(0, .int le), (1, .int by_)]) (by decide +kernel) rfl rfl (Nat.le_of_ble_eq_true rfl) ?_
  intro p e s m below meth c A QQ ls hx hb hr hts hml hown hlocks hA hQQ hK hX hP hD hS hl
  have hown : s.vm.findClass RX2 = some m.cls := hown
  have hcf := k_cf hx hb hml hown hts
  refine lv_iload_n hx hb dX2_found_0 rfl (lv_at hl 0 rfl) ?_
  refine lv_iconst (v := (-1)) hx hb dX2_found_1 (by decide) ?_
  refine lv_icmp_ne (tgt := 9) hx hb dX2_found_2 (by decide) (fun c_1 => ?_) (fun c_1 => ?_)
  · have tc_1 : ¬ le.toInt = (-1) := v_ne c_1
    refine lv_iload_n hx hb dX2_found_9 rfl (lv_at hl 0 rfl) ?_
    refine lv_iconst (v := 4) hx hb dX2_found_10 (by decide) ?_
    refine lv_ishl hx hb dX2_found_11 ?_
    refine lv_topi (fun x_2 ex_2 => ?_)
    refine lv_iload_n hx hb dX2_found_12 rfl (lv_at hl 1 rfl) ?_
    refine lv_iadd hx hb dX2_found_13 ?_
    refine lv_topi (fun x_3 ex_3 => ?_)
    have rv3_0 := v_rng x_2
    have rv3_1 := v_rng by_
    exact kl_i (v := x_3) hQQ hx hb hr hlocks hS dX2_found_14 ⟨hP, hD⟩
  · have tc_1 : le.toInt = (-1) := v_eq c_1
    refine lv_iconst (v := (-1)) hx hb dX2_found_5 (by decide) ?_
    refine lv_goto (tgt := 14) hx hb dX2_found_6 (by decide) ?_
    exact kl_i (v := (-1)) hQQ hx hb hr hlocks hS dX2_found_14 ⟨hP, hD⟩

set_option maxHeartbeats 40000000 in
set_option maxRecDepth 100000 in
theorem m_X2_letterAlone (l : Launch) (dC : Nat → ClassId) (dI : Nat → Nat → Nat) (cI cS : ClassId) (sz : Nat) (oC : Nat) (o4 : Nat) (o5 : Nat) (a41 : Nat) (a42 : Nat) (a43 : Nat) (a51 : Nat) (a52 : Nat) (a53 : Nat) (l4 : Int32) (f41 : Nat → Int32) (l5 : Int32) (f51 : Nat → Int32) (cd : Int32) (v : Int32)  : kMi l yX2_letterAlone wsX2_letterAlone ({ frames := 1, cells := 0, slots := 0, locals := 21 } : Room) [.ref oC, .int cd, .int v] sz (dC, dI) vwCl [(cI, .int), (cS, .short)] [(oC, .inr (2, [.ref o4, .ref o5])), (o4, .inr (10, [.ref a41, .ref a42, .ref a43, .int l4])), (a41, .inl (cI, 256, .inl f41)), (o5, .inr (10, [.ref a51, .ref a52, .ref a53, .int l5])), (a51, .inl (cI, 256, .inl f51))] (fun _ => True) 0 0 (fun (A : Nat → Prop) (r : Int32) (hh9 : Heap) => kPD (dC, dI) vwCl A [(oC, .inr (2, [.ref o4, .ref o5])), (o4, .inr (10, [.ref a41, .ref a42, .ref a43, .int l4])), (a41, .inl (cI, 256, .inl f41)), (o5, .inr (10, [.ref a51, .ref a52, .ref a53, .int l5])), (a51, .inl (cI, 256, .inl f51))] hh9) := by
  refine kMi_of (cc := cX2_letterAlone) (maxL := 4) (ret := (some .int)) (lv := [(0, .ref oC), (1, .int cd), (2, .int v)]) (by decide +kernel) rfl rfl (Nat.le_of_ble_eq_true rfl) ?_
  intro p e s m below meth c A QQ ls hx hb hr hts hml hown hlocks hA hQQ hK hX hP hD hS hl
  have hown : s.vm.findClass RX2 = some m.cls := hown
  have hcf := k_cf hx hb hml hown hts
  refine lv_iload_n hx hb dX2_letterAlone_0 rfl (lv_at hl 1 rfl) ?_
  by_cases c_1 : cd = 0
  · refine lv_tableIn (tgt := 32) hx hb dX2_letterAlone_1 (by rw [c_1]; decide) (by rw [c_1]; decide) (by rw [c_1]; rfl) (by decide) ?_
    have tc_1 : cd.toInt = 0 := v_eq c_1
    refine lv_iload_n hx hb dX2_letterAlone_32 rfl (lv_at hl 2 rfl) ?_
    refine lv_sipush (v := 128) hx hb dX2_letterAlone_33 (by decide) ?_
    refine lv_icmp_ge (tgt := 43) hx hb dX2_letterAlone_36 (by decide) (fun c_2 => ?_) (fun c_2 => ?_)
    · have tc_2 : 128 ≤ v.toInt := v_le c_2
      refine lv_iconst (v := (-1)) hx hb dX2_letterAlone_43 (by decide) ?_
      exact kl_i (v := (-1)) hQQ hx hb hr hlocks hS dX2_letterAlone_44 ⟨hP, hD⟩
    · have tc_2 : v.toInt < 128 := v_nle c_2
      refine lv_iload_n hx hb dX2_letterAlone_39 rfl (lv_at hl 2 rfl) ?_
      refine lv_goto (tgt := 44) hx hb dX2_letterAlone_40 (by decide) ?_
      exact kl_i (v := v) hQQ hx hb hr hlocks hS dX2_letterAlone_44 ⟨hP, hD⟩
  · skip
    have tc_1 : ¬ cd.toInt = 0 := v_ne c_1
    by_cases c_3 : cd = 1
    · refine lv_tableIn (tgt := 45) hx hb dX2_letterAlone_1 (by rw [c_3]; decide) (by rw [c_3]; decide) (by rw [c_3]; rfl) (by decide) ?_
      have tc_3 : cd.toInt = 1 := v_eq c_3
      refine lv_iload_n hx hb dX2_letterAlone_45 rfl (lv_at hl 2 rfl) ?_
      exact kl_i (v := v) hQQ hx hb hr hlocks hS dX2_letterAlone_46 ⟨hP, hD⟩
    · skip
      have tc_3 : ¬ cd.toInt = 1 := v_ne c_3
      by_cases c_4 : cd = 2
      · refine lv_tableIn (tgt := 32) hx hb dX2_letterAlone_1 (by rw [c_4]; decide) (by rw [c_4]; decide) (by rw [c_4]; rfl) (by decide) ?_
        have tc_4 : cd.toInt = 2 := v_eq c_4
        refine lv_iload_n hx hb dX2_letterAlone_32 rfl (lv_at hl 2 rfl) ?_
        refine lv_sipush (v := 128) hx hb dX2_letterAlone_33 (by decide) ?_
        refine lv_icmp_ge (tgt := 43) hx hb dX2_letterAlone_36 (by decide) (fun c_5 => ?_) (fun c_5 => ?_)
        · have tc_5 : 128 ≤ v.toInt := v_le c_5
          refine lv_iconst (v := (-1)) hx hb dX2_letterAlone_43 (by decide) ?_
          exact kl_i (v := (-1)) hQQ hx hb hr hlocks hS dX2_letterAlone_44 ⟨hP, hD⟩
        · have tc_5 : v.toInt < 128 := v_nle c_5
          refine lv_iload_n hx hb dX2_letterAlone_39 rfl (lv_at hl 2 rfl) ?_
          refine lv_goto (tgt := 44) hx hb dX2_letterAlone_40 (by decide) ?_
          exact kl_i (v := v) hQQ hx hb hr hlocks hS dX2_letterAlone_44 ⟨hP, hD⟩
      · skip
        have tc_4 : ¬ cd.toInt = 2 := v_ne c_4
        by_cases c_6 : cd = 3
        · refine lv_tableIn (tgt := 47) hx hb dX2_letterAlone_1 (by rw [c_6]; decide) (by rw [c_6]; decide) (by rw [c_6]; rfl) (by decide) ?_
          have tc_6 : cd.toInt = 3 := v_eq c_6
          refine lv_iload_n hx hb dX2_letterAlone_47 rfl (lv_at hl 2 rfl) ?_
          refine lv_sipush (v := 128) hx hb dX2_letterAlone_48 (by decide) ?_
          refine lv_icmp_ge (tgt := 64) hx hb dX2_letterAlone_51 (by decide) (fun c_7 => ?_) (fun c_7 => ?_)
          · have tc_7 : 128 ≤ v.toInt := v_le c_7
            refine lv_iconst (v := (-1)) hx hb dX2_letterAlone_64 (by decide) ?_
            exact kl_i (v := (-1)) hQQ hx hb hr hlocks hS dX2_letterAlone_65 ⟨hP, hD⟩
          · have tc_7 : v.toInt < 128 := v_nle c_7
            refine lv_iload_n hx hb dX2_letterAlone_54 rfl (lv_at hl 2 rfl) ?_
            refine lv_bipush (v := 38) hx hb dX2_letterAlone_55 (by decide) ?_
            refine lv_icmp_eq (tgt := 64) hx hb dX2_letterAlone_57 (by decide) (fun c_8 => ?_) (fun c_8 => ?_)
            · have tc_8 : v.toInt = 38 := v_eq c_8
              refine lv_iconst (v := (-1)) hx hb dX2_letterAlone_64 (by decide) ?_
              exact kl_i (v := (-1)) hQQ hx hb hr hlocks hS dX2_letterAlone_65 ⟨hP, hD⟩
            · have tc_8 : ¬ v.toInt = 38 := v_ne c_8
              refine lv_iload_n hx hb dX2_letterAlone_60 rfl (lv_at hl 2 rfl) ?_
              refine lv_goto (tgt := 65) hx hb dX2_letterAlone_61 (by decide) ?_
              exact kl_i (v := v) hQQ hx hb hr hlocks hS dX2_letterAlone_65 ⟨hP, hD⟩
        · skip
          have tc_6 : ¬ cd.toInt = 3 := v_ne c_6
          refine lv_tableOut (tgt := 66) hx hb dX2_letterAlone_1 (by omega) (by decide) ?_
          refine lv_aload_n hx hb dX2_letterAlone_66 rfl (lv_at hl 0 rfl) ?_
          refine lv_iload_n hx hb dX2_letterAlone_67 rfl (lv_at hl 1 rfl) ?_
          by_cases cs_9 : cd.toInt = 4
          · refine kV_r (rest := []) (q0 := 0) (ci := 2) hcf (m_X2_toldCode_4 l dC dI cI cS s.heap.size oC o4 o5 cd (by omega)) kc_X2_toldCode gX2_letterAlone_X2_toldCode rfl rfl rfl ⟨Nat.le_of_ble_eq_true rfl, Nat.le_of_ble_eq_true rfl⟩ kX_t hK hP hD hS hA [0] [1, 2, 3, 4] rfl (by decide +kernel) rfl rfl rfl hl rfl (Nat.le_of_ble_eq_true rfl) dX2_letterAlone_68 ⟨Nat.le_of_ble_eq_true rfl, Nat.le_of_ble_eq_true rfl⟩ (fun r_10 H locs hB hJ hSn => ?_)
            obtain ⟨hra, ⟨hP1, hD1⟩⟩ := hB
            rw [hra]
            obtain ⟨hPn, hDn⟩ := hJ _ hP1 hD1 [(o4, .inr (10, [.ref a41, .ref a42, .ref a43, .int l4])), (a41, .inl (cI, 256, .inl f41)), (o5, .inr (10, [.ref a51, .ref a52, .ref a53, .int l5])), (a51, .inl (cI, 256, .inl f51)), (oC, .inr (2, [.ref o4, .ref o5]))] rfl
            clear hP hD hS hJ hP1 hD1
            have hP := hPn
            have hD := hDn
            have hS := hSn
            clear hPn hDn hSn
            refine lv_astore_n (lv' := [(3, .ref o4), (0, .ref oC), (1, .int cd), (2, .int v)]) hx hb dX2_letterAlone_71 rfl hl (by decide) rfl (fun ls hl => ?_)
            refine lv_aload_n hx hb dX2_letterAlone_72 rfl (lv_at hl 0 rfl) ?_
            refine lv_ifnonnull (tgt := 80) hx hb dX2_letterAlone_73 (by decide) ?_
            refine lv_aload_n hx hb dX2_letterAlone_80 rfl (lv_at hl 0 rfl) ?_
            refine lv_iload_n hx hb dX2_letterAlone_81 rfl (lv_at hl 3 rfl) ?_
            refine kV_i (rest := []) (q0 := 0) (ci := 10) hcf (m_X10_letterFor l dC dI cI cS H.size o4 a41 a42 a43 l4 f41 v ) kc_X10_letterFor gX2_letterAlone_X10_letterFor rfl rfl rfl ⟨Nat.le_of_ble_eq_true rfl, Nat.le_of_ble_eq_true rfl⟩ kX_t hK hP hD hS hA [0, 1] [2, 3, 4] rfl (by decide +kernel) rfl rfl rfl hl rfl (Nat.le_of_ble_eq_true rfl) dX2_letterAlone_82 ⟨Nat.le_of_ble_eq_true rfl, Nat.le_of_ble_eq_true rfl⟩ (fun r_11 H locs hB hJ hSn => ?_)
            obtain ⟨⟨hP1, hD1⟩, hf11_0⟩ := hB
            obtain ⟨hPn, hDn⟩ := hJ _ hP1 hD1 [(o5, .inr (10, [.ref a51, .ref a52, .ref a53, .int l5])), (a51, .inl (cI, 256, .inl f51)), (oC, .inr (2, [.ref o4, .ref o5])), (o4, .inr (10, [.ref a41, .ref a42, .ref a43, .int l4])), (a41, .inl (cI, 256, .inl f41))] rfl
            clear hP hD hS hJ hP1 hD1
            have hP := hPn
            have hD := hDn
            have hS := hSn
            clear hPn hDn hSn
            exact kl_i (v := r_11) hQQ hx hb hr hlocks hS dX2_letterAlone_85 (kPD_sub hP hD [2, 3, 4, 0, 1] (by decide +kernel) rfl)
          · skip
            by_cases cs_12 : cd.toInt = 5
            · refine kV_r (rest := []) (q0 := 0) (ci := 2) hcf (m_X2_toldCode_5 l dC dI cI cS s.heap.size oC o4 o5 cd (by omega)) kc_X2_toldCode gX2_letterAlone_X2_toldCode rfl rfl rfl ⟨Nat.le_of_ble_eq_true rfl, Nat.le_of_ble_eq_true rfl⟩ kX_t hK hP hD hS hA [0] [1, 2, 3, 4] rfl (by decide +kernel) rfl rfl rfl hl rfl (Nat.le_of_ble_eq_true rfl) dX2_letterAlone_68 ⟨Nat.le_of_ble_eq_true rfl, Nat.le_of_ble_eq_true rfl⟩ (fun r_13 H locs hB hJ hSn => ?_)
              obtain ⟨hra, ⟨hP1, hD1⟩⟩ := hB
              rw [hra]
              obtain ⟨hPn, hDn⟩ := hJ _ hP1 hD1 [(o4, .inr (10, [.ref a41, .ref a42, .ref a43, .int l4])), (a41, .inl (cI, 256, .inl f41)), (o5, .inr (10, [.ref a51, .ref a52, .ref a53, .int l5])), (a51, .inl (cI, 256, .inl f51)), (oC, .inr (2, [.ref o4, .ref o5]))] rfl
              clear hP hD hS hJ hP1 hD1
              have hP := hPn
              have hD := hDn
              have hS := hSn
              clear hPn hDn hSn
              refine lv_astore_n (lv' := [(3, .ref o5), (0, .ref oC), (1, .int cd), (2, .int v)]) hx hb dX2_letterAlone_71 rfl hl (by decide) rfl (fun ls hl => ?_)
              refine lv_aload_n hx hb dX2_letterAlone_72 rfl (lv_at hl 0 rfl) ?_
              refine lv_ifnonnull (tgt := 80) hx hb dX2_letterAlone_73 (by decide) ?_
              refine lv_aload_n hx hb dX2_letterAlone_80 rfl (lv_at hl 0 rfl) ?_
              refine lv_iload_n hx hb dX2_letterAlone_81 rfl (lv_at hl 3 rfl) ?_
              refine kV_i (rest := []) (q0 := 0) (ci := 10) hcf (m_X10_letterFor l dC dI cI cS H.size o5 a51 a52 a53 l5 f51 v ) kc_X10_letterFor gX2_letterAlone_X10_letterFor rfl rfl rfl ⟨Nat.le_of_ble_eq_true rfl, Nat.le_of_ble_eq_true rfl⟩ kX_t hK hP hD hS hA [2, 3] [0, 1, 4] rfl (by decide +kernel) rfl rfl rfl hl rfl (Nat.le_of_ble_eq_true rfl) dX2_letterAlone_82 ⟨Nat.le_of_ble_eq_true rfl, Nat.le_of_ble_eq_true rfl⟩ (fun r_14 H locs hB hJ hSn => ?_)
              obtain ⟨⟨hP1, hD1⟩, hf14_0⟩ := hB
              obtain ⟨hPn, hDn⟩ := hJ _ hP1 hD1 [(o4, .inr (10, [.ref a41, .ref a42, .ref a43, .int l4])), (a41, .inl (cI, 256, .inl f41)), (oC, .inr (2, [.ref o4, .ref o5])), (o5, .inr (10, [.ref a51, .ref a52, .ref a53, .int l5])), (a51, .inl (cI, 256, .inl f51))] rfl
              clear hP hD hS hJ hP1 hD1
              have hP := hPn
              have hD := hDn
              have hS := hSn
              clear hPn hDn hSn
              exact kl_i (v := r_14) hQQ hx hb hr hlocks hS dX2_letterAlone_85 (kPD_sub hP hD [2, 0, 1, 3, 4] (by decide +kernel) rfl)
            · skip
              refine kV_q (rest := []) (q0 := 0) (ci := 2) hcf (m_X2_toldCode_n l dC dI cI cS s.heap.size oC o4 o5 cd (by omega) (by omega)) kc_X2_toldCode gX2_letterAlone_X2_toldCode rfl rfl rfl ⟨Nat.le_of_ble_eq_true rfl, Nat.le_of_ble_eq_true rfl⟩ kX_t hK hP hD hS hA [0] [1, 2, 3, 4] rfl (by decide +kernel) rfl rfl rfl hl rfl (Nat.le_of_ble_eq_true rfl) dX2_letterAlone_68 ⟨Nat.le_of_ble_eq_true rfl, Nat.le_of_ble_eq_true rfl⟩ (fun H locs hB hJ hSn => ?_)
              obtain ⟨hP1, hD1⟩ := hB
              obtain ⟨hPn, hDn⟩ := hJ _ hP1 hD1 [(o4, .inr (10, [.ref a41, .ref a42, .ref a43, .int l4])), (a41, .inl (cI, 256, .inl f41)), (o5, .inr (10, [.ref a51, .ref a52, .ref a53, .int l5])), (a51, .inl (cI, 256, .inl f51)), (oC, .inr (2, [.ref o4, .ref o5]))] rfl
              clear hP hD hS hJ hP1 hD1
              have hP := hPn
              have hD := hDn
              have hS := hSn
              clear hPn hDn hSn
              refine lv_astore_nN (lv' := [(3, .null), (0, .ref oC), (1, .int cd), (2, .int v)]) hx hb dX2_letterAlone_71 rfl hl (by decide) rfl (fun ls hl => ?_)
              refine lv_aload_nN hx hb dX2_letterAlone_72 rfl (lv_at hl 0 rfl) ?_
              refine lv_ifnonnullN hx hb dX2_letterAlone_73 ?_
              refine lv_iconst (v := (-1)) hx hb dX2_letterAlone_76 (by decide) ?_
              refine lv_goto (tgt := 85) hx hb dX2_letterAlone_77 (by decide) ?_
              exact kl_i (v := (-1)) hQQ hx hb hr hlocks hS dX2_letterAlone_85 (kPD_sub hP hD [4, 0, 1, 2, 3] (by decide +kernel) rfl)

set_option maxHeartbeats 40000000 in
set_option maxRecDepth 100000 in
theorem m_X2_isNumbered (l : Launch) (dC : Nat → ClassId) (dI : Nat → Nat → Nat) (cI cS : ClassId) (sz : Nat) (le : Int32)  : kMi l yX2_isNumbered wsX2_isNumbered ({ frames := 0, cells := 0, slots := 0, locals := 0 } : Room) [.int le] sz (dC, dI) vwCl [(cI, .int), (cS, .short)] [] (fun _ => True) 0 0 (fun (A : Nat → Prop) (r : Int32) (hh9 : Heap) => kPD (dC, dI) vwCl A [] hh9 ∧ (0 ≤ r.toInt ∧ r.toInt ≤ 1)) := by
  refine kMi_of (cc := cX2_isNumbered) (maxL := 1) (ret := (some .boolean)) (lv := [(0, .int le)]) (by decide +kernel) rfl rfl (Nat.le_of_ble_eq_true rfl) ?_
  intro p e s m below meth c A QQ ls hx hb hr hts hml hown hlocks hA hQQ hK hX hP hD hS hl
  have hown : s.vm.findClass RX2 = some m.cls := hown
  have hcf := k_cf hx hb hml hown hts
  refine lv_iload_n hx hb dX2_isNumbered_0 rfl (lv_at hl 0 rfl) ?_
  refine lv_sipush (v := 128) hx hb dX2_isNumbered_1 (by decide) ?_
  refine lv_icmp_ge (tgt := 13) hx hb dX2_isNumbered_4 (by decide) (fun c_1 => ?_) (fun c_1 => ?_)
  · have tc_1 : 128 ≤ le.toInt := v_le c_1
    refine lv_iconst (v := 1) hx hb dX2_isNumbered_13 (by decide) ?_
    refine lv_goto (tgt := 18) hx hb dX2_isNumbered_14 (by decide) ?_
    exact kl_z (v := 1) hQQ hx hb hr hlocks hS dX2_isNumbered_18 (rfl) ⟨⟨hP, hD⟩, by decide⟩
  · have tc_1 : le.toInt < 128 := v_nle c_1
    refine lv_iload_n hx hb dX2_isNumbered_7 rfl (lv_at hl 0 rfl) ?_
    refine lv_bipush (v := 38) hx hb dX2_isNumbered_8 (by decide) ?_
    refine lv_icmp_ne (tgt := 17) hx hb dX2_isNumbered_10 (by decide) (fun c_2 => ?_) (fun c_2 => ?_)
    · have tc_2 : ¬ le.toInt = 38 := v_ne c_2
      refine lv_iconst (v := 0) hx hb dX2_isNumbered_17 (by decide) ?_
      exact kl_z (v := 0) hQQ hx hb hr hlocks hS dX2_isNumbered_18 (rfl) ⟨⟨hP, hD⟩, by decide⟩
    · have tc_2 : le.toInt = 38 := v_eq c_2
      refine lv_iconst (v := 1) hx hb dX2_isNumbered_13 (by decide) ?_
      refine lv_goto (tgt := 18) hx hb dX2_isNumbered_14 (by decide) ?_
      exact kl_z (v := 1) hQQ hx hb hr hlocks hS dX2_isNumbered_18 (rfl) ⟨⟨hP, hD⟩, by decide⟩

set_option maxHeartbeats 40000000 in
set_option maxRecDepth 100000 in
theorem m_X2_decodeMany (l : Launch) (dC : Nat → ClassId) (dI : Nat → Nat → Nat) (cI cS : ClassId) (sz : Nat) (nu : Nat) (au : Nat) (cap : Nat) (lu : Int32) (fu : Nat → Int32) (fr : Int32) (en : Int32) (g_lu : 0 ≤ lu.toInt ∧ lu.toInt ≤ (cap : Int)) (hcap : cap ≤ 2400) : kMi l yX2_decodeMany wsX2_decodeMany ({ frames := 1, cells := 0, slots := 0, locals := 21 } : Room) [.ref nu, .int fr, .int en] sz (dC, dI) vwCl [(cI, .int), (cS, .short)] [(nu, .inr (5, [.ref au, .int lu])), (au, .inl (cI, cap, .inl fu))] (va_Nw (.methodLinkNest RX2 52 yX11_isLetter "TextMender")) 0 0 (fun (A : Nat → Prop) (r : Int32) (hh9 : Heap) => kPD (dC, dI) vwCl A [(nu, .inr (5, [.ref au, .int lu])), (au, .inl (cI, cap, .inl fu))] hh9) := by
  refine kMi_of (cc := cX2_decodeMany) (maxL := 8) (ret := (some .int)) (lv := [(0, .ref nu), (1, .int fr), (2, .int en)]) (by decide +kernel) rfl rfl (Nat.le_of_ble_eq_true rfl) ?_
  intro p e s m below meth c A QQ ls hx hb hr hts hml hown hlocks hA hQQ hK hX hP hD hS hl
  have hown : s.vm.findClass RX2 = some m.cls := hown
  have hcf := k_cf hx hb hml hown hts
  have hN52 := hX
  refine lv_aload_n hx hb dX2_decodeMany_0 rfl (lv_at hl 0 rfl) ?_
  refine lv_iload_n hx hb dX2_decodeMany_1 rfl (lv_at hl 1 rfl) ?_
  refine kV_i (rest := []) (q0 := 0) (ci := 5) hcf (m_X5_get l dC dI cI cS s.heap.size nu au cap lu fu fr (g_lu) (by omega)) kc_X5_get gX2_decodeMany_X5_get rfl rfl rfl ⟨Nat.le_of_ble_eq_true rfl, Nat.le_of_ble_eq_true rfl⟩ kX_t hK hP hD hS hA [0, 1] [] rfl (by decide +kernel) rfl rfl rfl hl rfl (Nat.le_of_ble_eq_true rfl) dX2_decodeMany_2 ⟨Nat.le_of_ble_eq_true rfl, Nat.le_of_ble_eq_true rfl⟩ (fun r_1 H locs hB hJ hSn => ?_)
  obtain ⟨⟨hP1, hD1⟩, hf1_0⟩ := hB
  obtain ⟨hPn, hDn⟩ := hJ _ hP1 hD1 [(nu, .inr (5, [.ref au, .int lu])), (au, .inl (cI, cap, .inl fu))] rfl
  clear hP hD hS hJ hP1 hD1
  have hP := hPn
  have hD := hDn
  have hS := hSn
  clear hPn hDn hSn
  refine lv_istore_n (lv' := [(3, .int r_1), (0, .ref nu), (1, .int fr), (2, .int en)]) hx hb dX2_decodeMany_5 rfl hl (by decide) rfl (fun ls hl => ?_)
  refine lv_iload_n hx hb dX2_decodeMany_6 rfl (lv_at hl 0 rfl) ?_
  refine lv_sipush (v := 224) hx hb dX2_decodeMany_7 (by decide) ?_
  refine lv_icmp_lt (tgt := 17) hx hb dX2_decodeMany_10 (by decide) (fun c_2 => ?_) (fun c_2 => ?_)
  · have tc_2 : r_1.toInt < 224 := v_lt c_2
    refine lv_iconst (v := 2) hx hb dX2_decodeMany_17 (by decide) ?_
    refine lv_istore (lv' := [(4, .int 2), (3, .int r_1), (0, .ref nu), (1, .int fr), (2, .int en)]) hx hb dX2_decodeMany_18 hl (by decide) rfl (fun ls hl => ?_)
    refine lv_iload_n hx hb dX2_decodeMany_20 rfl (lv_at hl 1 rfl) ?_
    refine lv_sipush (v := 192) hx hb dX2_decodeMany_21 (by decide) ?_
    refine lv_icmp_lt (tgt := 42) hx hb dX2_decodeMany_24 (by decide) (fun c_3 => ?_) (fun c_3 => ?_)
    · have tc_3 : r_1.toInt < 192 := v_lt c_3
      refine lv_iconst (v := (-1)) hx hb dX2_decodeMany_42 (by decide) ?_
      exact kl_i (v := (-1)) hQQ hx hb hr hlocks hS dX2_decodeMany_43 ⟨hP, hD⟩
    · have tc_3 : 192 ≤ r_1.toInt := v_nlt c_3
      refine lv_iload_n hx hb dX2_decodeMany_27 rfl (lv_at hl 1 rfl) ?_
      refine lv_sipush (v := 239) hx hb dX2_decodeMany_28 (by decide) ?_
      refine lv_icmp_gt (tgt := 42) hx hb dX2_decodeMany_31 (by decide) (fun c_4 => by exfalso; have tc_4 : 239 < r_1.toInt := v_lt c_4; omega) (fun c_4 => ?_)
      have tc_4 : r_1.toInt ≤ 239 := v_nlt c_4
      refine lv_iload hx hb dX2_decodeMany_34 (lv_at hl 0 rfl) ?_
      refine lv_iload_n hx hb dX2_decodeMany_36 rfl (lv_at hl 4 rfl) ?_
      refine lv_iload_n hx hb dX2_decodeMany_37 rfl (lv_at hl 3 rfl) ?_
      refine lv_isub hx hb dX2_decodeMany_38 ?_
      refine lv_topi (fun x_5 ex_5 => ?_)
      have rv5_0 := v_rng en
      have rv5_1 := v_rng fr
      refine lv_icmp_le (tgt := 44) hx hb dX2_decodeMany_39 (by decide) (fun c_6 => ?_) (fun c_6 => ?_)
      · have tc_6 : 2 ≤ x_5.toInt := v_le c_6
        refine lv_iload hx hb dX2_decodeMany_44 (lv_at hl 0 rfl) ?_
        refine lv_iconst (v := 3) hx hb dX2_decodeMany_46 (by decide) ?_
        refine lv_icmp_ne (tgt := 58) hx hb dX2_decodeMany_47 (by decide) (fun c_7 => ?_) (fun c_7 => absurd c_7 (by decide))
        refine lv_iload_n hx hb dX2_decodeMany_58 rfl (lv_at hl 1 rfl) ?_
        refine lv_sipush (v := 192) hx hb dX2_decodeMany_59 (by decide) ?_
        refine lv_isub hx hb dX2_decodeMany_62 ?_
        refine lv_topi (fun x_8 ex_8 => ?_)
        have tx_8 : x_8.toInt = r_1.toInt - 192 := v_sub ex_8 (by show -2147483648 ≤ r_1.toInt - 192; omega) (by show r_1.toInt - 192 < 2147483648; omega)
        refine lv_istore (lv' := [(5, .int x_8), (4, .int 2), (3, .int r_1), (0, .ref nu), (1, .int fr), (2, .int en)]) hx hb dX2_decodeMany_63 hl (by decide) rfl (fun ls hl => ?_)
        refine lv_iconst (v := 1) hx hb dX2_decodeMany_65 (by decide) ?_
        refine lv_istore (lv' := [(6, .int 1), (5, .int x_8), (4, .int 2), (3, .int r_1), (0, .ref nu), (1, .int fr), (2, .int en)]) hx hb dX2_decodeMany_66 hl (by decide) rfl (fun ls hl => ?_)
        have LOOP_68 : ∀ (k_68 : Nat) (le : Int32) (i : Int32) (H : Heap) (locs : List Loc) (ls : Array Slot), MSd (4 - i.toInt : Int) k_68 → (1 ≤ i.toInt ∧ i.toInt ≤ 3) → va_P (dC, dI) vwCl [(nu, .inr (5, [.ref au, .int lu])), (au, .inl (cI, cap, .inl fu))] H → va_D A [(nu, .inr (5, [.ref au, .int lu])), (au, .inl (cI, cap, .inl fu))] → va_S A s.heap H locs → lv_has ls 8 [(6, .int i), (5, .int le), (4, .int 2), (0, .ref nu), (1, .int fr), (2, .int en)] → W p l e (headSpec wsX2_decodeMany ({ frames := 1, cells := 0, slots := 0, locals := 21 } : Room)).room s m ([.ref nu, .int fr, .int en] : List Value).toArray below meth c H locs 0 0 (MQ below QQ ([.ref nu, .int fr, .int en] : List Value).toArray s 0 0 A) (F0 m 68 ls []) := by
          clear hP hD hS hl
          try (clear tc_6)
          intro k_68
          induction k_68 with
          | zero =>
            intro le i H locs ls hm_68 g_i hP hD hS hl
            exact ms_0 hm_68
          | succ k_68 ih_68 =>
            intro le i H locs ls hm_68 g_i hP hD hS hl
            refine lv_iload hx hb dX2_decodeMany_68 (lv_at hl 0 rfl) ?_
            refine lv_iload hx hb dX2_decodeMany_70 (lv_at hl 2 rfl) ?_
            refine lv_icmp_ge (tgt := 123) hx hb dX2_decodeMany_72 (by decide) (fun c_9 => ?_) (fun c_9 => ?_)
            · have tc_9 : 2 ≤ i.toInt := v_le c_9
              refine lv_iload hx hb dX2_decodeMany_123 (lv_at hl 1 rfl) ?_
              refine lv_iload hx hb dX2_decodeMany_125 (lv_at hl 2 rfl) ?_
              refine lv_iconst (v := 3) hx hb dX2_decodeMany_127 (by decide) ?_
              refine lv_icmp_ne (tgt := 137) hx hb dX2_decodeMany_128 (by decide) (fun c_10 => ?_) (fun c_10 => absurd c_10 (by decide))
              refine lv_sipush (v := 128) hx hb dX2_decodeMany_137 (by decide) ?_
              refine lv_icmp_lt (tgt := 147) hx hb dX2_decodeMany_140 (by decide) (fun c_11 => ?_) (fun c_11 => ?_)
              · have tc_11 : le.toInt < 128 := v_lt c_11
                refine lv_iconst (v := 0) hx hb dX2_decodeMany_147 (by decide) ?_
                refine lv_istore (lv' := [(6, .int 0), (5, .int le), (4, .int 2), (0, .ref nu), (1, .int fr), (2, .int en)]) hx hb dX2_decodeMany_148 hl (by decide) rfl (fun ls hl => ?_)
                refine lv_iload hx hb dX2_decodeMany_150 (lv_at hl 0 rfl) ?_
                refine lv_if_eq (tgt := 173) hx hb dX2_decodeMany_152 (by decide) (fun c_12 => ?_) (fun c_12 => absurd c_12 (by decide))
                refine lv_iconst (v := (-1)) hx hb dX2_decodeMany_173 (by decide) ?_
                exact kl_i (v := (-1)) hQQ hx hb hr hlocks hS dX2_decodeMany_174 ⟨hP, hD⟩
              · have tc_11 : 128 ≤ le.toInt := v_nlt c_11
                refine lv_iconst (v := 1) hx hb dX2_decodeMany_143 (by decide) ?_
                refine lv_goto (tgt := 148) hx hb dX2_decodeMany_144 (by decide) ?_
                refine lv_istore (lv' := [(6, .int 1), (5, .int le), (4, .int 2), (0, .ref nu), (1, .int fr), (2, .int en)]) hx hb dX2_decodeMany_148 hl (by decide) rfl (fun ls hl => ?_)
                refine lv_iload hx hb dX2_decodeMany_150 (lv_at hl 0 rfl) ?_
                refine lv_if_eq (tgt := 173) hx hb dX2_decodeMany_152 (by decide) (fun c_13 => absurd c_13 (by decide)) (fun c_13 => ?_)
                refine lv_iload hx hb dX2_decodeMany_155 (lv_at hl 1 rfl) ?_
                refine kSN_i (rest := []) hcf (m_X11_isLetter l dC dI cI cS H.size le ) ⟨va_cnB 1 hts gX2_decodeMany_X11_isLetter_n52 rfl rfl rfl hN52 (hts (.initialized RX11) (List.mem_of_getElem? (i := 9) rfl)) (by decide +kernel) ⟨Nat.le_of_ble_eq_true rfl, Nat.le_of_ble_eq_true rfl⟩, (hts (.static yX11_isLetter) (List.mem_of_getElem? (i := 8) rfl)), trivial⟩ kX_t hK hP hD hS hA [] [0, 1] rfl (by decide +kernel) rfl hl rfl (Nat.le_of_ble_eq_true rfl) dX2_decodeMany_157 ⟨Nat.le_of_ble_eq_true rfl, Nat.le_of_ble_eq_true rfl⟩ (fun r_14 H locs hB hJ hSn => ?_)
                obtain ⟨⟨hP1, hD1⟩, hf14_0, hf14_1⟩ := hB
                obtain ⟨hPn, hDn⟩ := hJ _ hP1 hD1 [(nu, .inr (5, [.ref au, .int lu])), (au, .inl (cI, cap, .inl fu))] rfl
                clear hP hD hS hJ hP1 hD1
                have hP := hPn
                have hD := hDn
                have hS := hSn
                clear hPn hDn hSn
                refine lv_if_eq (tgt := 173) hx hb dX2_decodeMany_160 (by decide) (fun c_15 => ?_) (fun c_15 => ?_)
                · have tc_15 : r_14.toInt = 0 := v_eq c_15
                  refine lv_iconst (v := (-1)) hx hb dX2_decodeMany_173 (by decide) ?_
                  exact kl_i (v := (-1)) hQQ hx hb hr hlocks hS dX2_decodeMany_174 ⟨hP, hD⟩
                · have tc_15 : ¬ r_14.toInt = 0 := v_ne c_15
                  refine lv_iload hx hb dX2_decodeMany_163 (lv_at hl 1 rfl) ?_
                  refine lv_iload hx hb dX2_decodeMany_165 (lv_at hl 2 rfl) ?_
                  refine kS_i (rest := []) hcf (m_X2_found l dC dI cI cS H.size le 2 ) kc_X2_found gX2_decodeMany_X2_found rfl rfl ⟨Nat.le_of_ble_eq_true rfl, Nat.le_of_ble_eq_true rfl⟩ kX_t hK hP hD hS hA [] [0, 1] rfl (by decide +kernel) rfl hl rfl (Nat.le_of_ble_eq_true rfl) dX2_decodeMany_167 ⟨Nat.le_of_ble_eq_true rfl, Nat.le_of_ble_eq_true rfl⟩ (fun r_16 H locs hB hJ hSn => ?_)
                  obtain ⟨hP1, hD1⟩ := hB
                  obtain ⟨hPn, hDn⟩ := hJ _ hP1 hD1 [(nu, .inr (5, [.ref au, .int lu])), (au, .inl (cI, cap, .inl fu))] rfl
                  clear hP hD hS hJ hP1 hD1
                  have hP := hPn
                  have hD := hDn
                  have hS := hSn
                  clear hPn hDn hSn
                  refine lv_goto (tgt := 174) hx hb dX2_decodeMany_170 (by decide) ?_
                  exact kl_i (v := r_16) hQQ hx hb hr hlocks hS dX2_decodeMany_174 ⟨hP, hD⟩
            · have tc_9 : i.toInt < 2 := v_nle c_9
              refine lv_aload_n hx hb dX2_decodeMany_75 rfl (lv_at hl 3 rfl) ?_
              refine lv_iload_n hx hb dX2_decodeMany_76 rfl (lv_at hl 4 rfl) ?_
              refine lv_iload hx hb dX2_decodeMany_77 (lv_at hl 0 rfl) ?_
              refine lv_iadd hx hb dX2_decodeMany_79 ?_
              refine lv_topi (fun x_17 ex_17 => ?_)
              refine kV_i (rest := []) (q0 := 0) (ci := 5) hcf (m_X5_get l dC dI cI cS H.size nu au cap lu fu x_17 (g_lu) (by omega)) kc_X5_get gX2_decodeMany_X5_get rfl rfl rfl ⟨Nat.le_of_ble_eq_true rfl, Nat.le_of_ble_eq_true rfl⟩ kX_t hK hP hD hS hA [0, 1] [] rfl (by decide +kernel) rfl rfl rfl hl rfl (Nat.le_of_ble_eq_true rfl) dX2_decodeMany_80 ⟨Nat.le_of_ble_eq_true rfl, Nat.le_of_ble_eq_true rfl⟩ (fun r_18 H locs hB hJ hSn => ?_)
              obtain ⟨⟨hP1, hD1⟩, hf18_0⟩ := hB
              obtain ⟨hPn, hDn⟩ := hJ _ hP1 hD1 [(nu, .inr (5, [.ref au, .int lu])), (au, .inl (cI, cap, .inl fu))] rfl
              clear hP hD hS hJ hP1 hD1
              have hP := hPn
              have hD := hDn
              have hS := hSn
              clear hPn hDn hSn
              refine lv_istore (lv' := [(7, .int r_18), (6, .int i), (5, .int le), (4, .int 2), (0, .ref nu), (1, .int fr), (2, .int en)]) hx hb dX2_decodeMany_83 hl (by decide) rfl (fun ls hl => ?_)
              refine lv_iload hx hb dX2_decodeMany_85 (lv_at hl 0 rfl) ?_
              refine lv_sipush (v := 128) hx hb dX2_decodeMany_87 (by decide) ?_
              refine lv_icmp_lt (tgt := 101) hx hb dX2_decodeMany_90 (by decide) (fun c_19 => ?_) (fun c_19 => ?_)
              · have tc_19 : r_18.toInt < 128 := v_lt c_19
                refine lv_iconst (v := (-1)) hx hb dX2_decodeMany_101 (by decide) ?_
                exact kl_i (v := (-1)) hQQ hx hb hr hlocks hS dX2_decodeMany_102 ⟨hP, hD⟩
              · have tc_19 : 128 ≤ r_18.toInt := v_nlt c_19
                refine lv_iload hx hb dX2_decodeMany_93 (lv_at hl 0 rfl) ?_
                refine lv_sipush (v := 191) hx hb dX2_decodeMany_95 (by decide) ?_
                refine lv_icmp_le (tgt := 103) hx hb dX2_decodeMany_98 (by decide) (fun c_20 => ?_) (fun c_20 => ?_)
                · have tc_20 : r_18.toInt ≤ 191 := v_le c_20
                  refine lv_iload hx hb dX2_decodeMany_103 (lv_at hl 2 rfl) ?_
                  refine lv_bipush (v := 64) hx hb dX2_decodeMany_105 (by decide) ?_
                  refine lv_imul hx hb dX2_decodeMany_107 ?_
                  refine lv_topi (fun x_21 ex_21 => ?_)
                  have rv21_0 := v_rng le
                  refine lv_iload hx hb dX2_decodeMany_108 (lv_at hl 0 rfl) ?_
                  refine lv_iadd hx hb dX2_decodeMany_110 ?_
                  refine lv_topi (fun x_22 ex_22 => ?_)
                  have rv22_0 := v_rng x_21
                  refine lv_sipush (v := 128) hx hb dX2_decodeMany_111 (by decide) ?_
                  refine lv_isub hx hb dX2_decodeMany_114 ?_
                  refine lv_topi (fun x_23 ex_23 => ?_)
                  have rv23_0 := v_rng x_22
                  refine lv_istore (lv' := [(5, .int x_23), (7, .int r_18), (6, .int i), (4, .int 2), (0, .ref nu), (1, .int fr), (2, .int en)]) hx hb dX2_decodeMany_115 hl (by decide) rfl (fun ls hl => ?_)
                  obtain ⟨x_24, ex_24⟩ : ∃ y : Int32, y = i + 1 := ⟨_, rfl⟩
                  have tx_24 : x_24.toInt = i.toInt + 1 := v_addR (l2 := 1) (h2 := 1) ex_24 g_i (by decide) (by decide) (by decide)
                  refine lv_iinc (v := x_24) (lv' := [(6, .int x_24), (5, .int x_23), (7, .int r_18), (4, .int 2), (0, .ref nu), (1, .int fr), (2, .int en)]) hx hb dX2_decodeMany_117 hl (k := 2) rfl (by rw [ex_24]; rfl) (by decide) rfl (fun ls hl => ?_)
                  refine lv_goto (tgt := 68) hx hb dX2_decodeMany_120 (by decide) ?_
                  exact ih_68 x_23 x_24 _ _ _ (ms_lt hm_68 (by show ((4 - x_24.toInt : Int)) < 4 - i.toInt; omega) (by show (0 : Int) < 4 - i.toInt; omega)) (by show 1 ≤ x_24.toInt ∧ x_24.toInt ≤ 3; omega) hP hD hS (lv_sub hl [0, 1, 3, 4, 5, 6] rfl)
                · have tc_20 : 191 < r_18.toInt := v_nle c_20
                  refine lv_iconst (v := (-1)) hx hb dX2_decodeMany_101 (by decide) ?_
                  exact kl_i (v := (-1)) hQQ hx hb hr hlocks hS dX2_decodeMany_102 ⟨hP, hD⟩
        exact LOOP_68 _ x_8 1 _ _ _ (ms_s _) (by decide) hP hD hS (lv_sub hl [0, 1, 2, 4, 5, 6] rfl)
      · have tc_6 : x_5.toInt < 2 := v_nle c_6
        refine lv_iconst (v := (-1)) hx hb dX2_decodeMany_42 (by decide) ?_
        exact kl_i (v := (-1)) hQQ hx hb hr hlocks hS dX2_decodeMany_43 ⟨hP, hD⟩
  · have tc_2 : 224 ≤ r_1.toInt := v_nlt c_2
    refine lv_iconst (v := 3) hx hb dX2_decodeMany_13 (by decide) ?_
    refine lv_goto (tgt := 18) hx hb dX2_decodeMany_14 (by decide) ?_
    refine lv_istore (lv' := [(4, .int 3), (3, .int r_1), (0, .ref nu), (1, .int fr), (2, .int en)]) hx hb dX2_decodeMany_18 hl (by decide) rfl (fun ls hl => ?_)
    refine lv_iload_n hx hb dX2_decodeMany_20 rfl (lv_at hl 1 rfl) ?_
    refine lv_sipush (v := 192) hx hb dX2_decodeMany_21 (by decide) ?_
    refine lv_icmp_lt (tgt := 42) hx hb dX2_decodeMany_24 (by decide) (fun c_25 => by exfalso; have tc_25 : r_1.toInt < 192 := v_lt c_25; omega) (fun c_25 => ?_)
    have tc_25 : 192 ≤ r_1.toInt := v_nlt c_25
    refine lv_iload_n hx hb dX2_decodeMany_27 rfl (lv_at hl 1 rfl) ?_
    refine lv_sipush (v := 239) hx hb dX2_decodeMany_28 (by decide) ?_
    refine lv_icmp_gt (tgt := 42) hx hb dX2_decodeMany_31 (by decide) (fun c_26 => ?_) (fun c_26 => ?_)
    · have tc_26 : 239 < r_1.toInt := v_lt c_26
      refine lv_iconst (v := (-1)) hx hb dX2_decodeMany_42 (by decide) ?_
      exact kl_i (v := (-1)) hQQ hx hb hr hlocks hS dX2_decodeMany_43 ⟨hP, hD⟩
    · have tc_26 : r_1.toInt ≤ 239 := v_nlt c_26
      refine lv_iload hx hb dX2_decodeMany_34 (lv_at hl 0 rfl) ?_
      refine lv_iload_n hx hb dX2_decodeMany_36 rfl (lv_at hl 4 rfl) ?_
      refine lv_iload_n hx hb dX2_decodeMany_37 rfl (lv_at hl 3 rfl) ?_
      refine lv_isub hx hb dX2_decodeMany_38 ?_
      refine lv_topi (fun x_27 ex_27 => ?_)
      have rv27_0 := v_rng en
      have rv27_1 := v_rng fr
      refine lv_icmp_le (tgt := 44) hx hb dX2_decodeMany_39 (by decide) (fun c_28 => ?_) (fun c_28 => ?_)
      · have tc_28 : 3 ≤ x_27.toInt := v_le c_28
        refine lv_iload hx hb dX2_decodeMany_44 (lv_at hl 0 rfl) ?_
        refine lv_iconst (v := 3) hx hb dX2_decodeMany_46 (by decide) ?_
        refine lv_icmp_ne (tgt := 58) hx hb dX2_decodeMany_47 (by decide) (fun c_29 => absurd c_29 (by decide)) (fun c_29 => ?_)
        refine lv_iload_n hx hb dX2_decodeMany_50 rfl (lv_at hl 1 rfl) ?_
        refine lv_sipush (v := 224) hx hb dX2_decodeMany_51 (by decide) ?_
        refine lv_isub hx hb dX2_decodeMany_54 ?_
        refine lv_topi (fun x_30 ex_30 => ?_)
        have tx_30 : x_30.toInt = r_1.toInt - 224 := v_sub ex_30 (by show -2147483648 ≤ r_1.toInt - 224; omega) (by show r_1.toInt - 224 < 2147483648; omega)
        refine lv_goto (tgt := 63) hx hb dX2_decodeMany_55 (by decide) ?_
        refine lv_istore (lv' := [(5, .int x_30), (4, .int 3), (3, .int r_1), (0, .ref nu), (1, .int fr), (2, .int en)]) hx hb dX2_decodeMany_63 hl (by decide) rfl (fun ls hl => ?_)
        refine lv_iconst (v := 1) hx hb dX2_decodeMany_65 (by decide) ?_
        refine lv_istore (lv' := [(6, .int 1), (5, .int x_30), (4, .int 3), (3, .int r_1), (0, .ref nu), (1, .int fr), (2, .int en)]) hx hb dX2_decodeMany_66 hl (by decide) rfl (fun ls hl => ?_)
        have LOOP_68 : ∀ (k_68 : Nat) (le : Int32) (i : Int32) (H : Heap) (locs : List Loc) (ls : Array Slot), MSd (4 - i.toInt : Int) k_68 → (1 ≤ i.toInt ∧ i.toInt ≤ 3) → va_P (dC, dI) vwCl [(nu, .inr (5, [.ref au, .int lu])), (au, .inl (cI, cap, .inl fu))] H → va_D A [(nu, .inr (5, [.ref au, .int lu])), (au, .inl (cI, cap, .inl fu))] → va_S A s.heap H locs → lv_has ls 8 [(6, .int i), (5, .int le), (4, .int 3), (0, .ref nu), (1, .int fr), (2, .int en)] → W p l e (headSpec wsX2_decodeMany ({ frames := 1, cells := 0, slots := 0, locals := 21 } : Room)).room s m ([.ref nu, .int fr, .int en] : List Value).toArray below meth c H locs 0 0 (MQ below QQ ([.ref nu, .int fr, .int en] : List Value).toArray s 0 0 A) (F0 m 68 ls []) := by
          clear hP hD hS hl
          try (clear tc_28)
          intro k_68
          induction k_68 with
          | zero =>
            intro le i H locs ls hm_68 g_i hP hD hS hl
            exact ms_0 hm_68
          | succ k_68 ih_68 =>
            intro le i H locs ls hm_68 g_i hP hD hS hl
            refine lv_iload hx hb dX2_decodeMany_68 (lv_at hl 0 rfl) ?_
            refine lv_iload hx hb dX2_decodeMany_70 (lv_at hl 2 rfl) ?_
            refine lv_icmp_ge (tgt := 123) hx hb dX2_decodeMany_72 (by decide) (fun c_31 => ?_) (fun c_31 => ?_)
            · have tc_31 : 3 ≤ i.toInt := v_le c_31
              refine lv_iload hx hb dX2_decodeMany_123 (lv_at hl 1 rfl) ?_
              refine lv_iload hx hb dX2_decodeMany_125 (lv_at hl 2 rfl) ?_
              refine lv_iconst (v := 3) hx hb dX2_decodeMany_127 (by decide) ?_
              refine lv_icmp_ne (tgt := 137) hx hb dX2_decodeMany_128 (by decide) (fun c_32 => absurd c_32 (by decide)) (fun c_32 => ?_)
              refine lv_sipush (v := 2048) hx hb dX2_decodeMany_131 (by decide) ?_
              refine lv_goto (tgt := 140) hx hb dX2_decodeMany_134 (by decide) ?_
              refine lv_icmp_lt (tgt := 147) hx hb dX2_decodeMany_140 (by decide) (fun c_33 => ?_) (fun c_33 => ?_)
              · have tc_33 : le.toInt < 2048 := v_lt c_33
                refine lv_iconst (v := 0) hx hb dX2_decodeMany_147 (by decide) ?_
                refine lv_istore (lv' := [(6, .int 0), (5, .int le), (4, .int 3), (0, .ref nu), (1, .int fr), (2, .int en)]) hx hb dX2_decodeMany_148 hl (by decide) rfl (fun ls hl => ?_)
                refine lv_iload hx hb dX2_decodeMany_150 (lv_at hl 0 rfl) ?_
                refine lv_if_eq (tgt := 173) hx hb dX2_decodeMany_152 (by decide) (fun c_34 => ?_) (fun c_34 => absurd c_34 (by decide))
                refine lv_iconst (v := (-1)) hx hb dX2_decodeMany_173 (by decide) ?_
                exact kl_i (v := (-1)) hQQ hx hb hr hlocks hS dX2_decodeMany_174 ⟨hP, hD⟩
              · have tc_33 : 2048 ≤ le.toInt := v_nlt c_33
                refine lv_iconst (v := 1) hx hb dX2_decodeMany_143 (by decide) ?_
                refine lv_goto (tgt := 148) hx hb dX2_decodeMany_144 (by decide) ?_
                refine lv_istore (lv' := [(6, .int 1), (5, .int le), (4, .int 3), (0, .ref nu), (1, .int fr), (2, .int en)]) hx hb dX2_decodeMany_148 hl (by decide) rfl (fun ls hl => ?_)
                refine lv_iload hx hb dX2_decodeMany_150 (lv_at hl 0 rfl) ?_
                refine lv_if_eq (tgt := 173) hx hb dX2_decodeMany_152 (by decide) (fun c_35 => absurd c_35 (by decide)) (fun c_35 => ?_)
                refine lv_iload hx hb dX2_decodeMany_155 (lv_at hl 1 rfl) ?_
                refine kSN_i (rest := []) hcf (m_X11_isLetter l dC dI cI cS H.size le ) ⟨va_cnB 1 hts gX2_decodeMany_X11_isLetter_n52 rfl rfl rfl hN52 (hts (.initialized RX11) (List.mem_of_getElem? (i := 9) rfl)) (by decide +kernel) ⟨Nat.le_of_ble_eq_true rfl, Nat.le_of_ble_eq_true rfl⟩, (hts (.static yX11_isLetter) (List.mem_of_getElem? (i := 8) rfl)), trivial⟩ kX_t hK hP hD hS hA [] [0, 1] rfl (by decide +kernel) rfl hl rfl (Nat.le_of_ble_eq_true rfl) dX2_decodeMany_157 ⟨Nat.le_of_ble_eq_true rfl, Nat.le_of_ble_eq_true rfl⟩ (fun r_36 H locs hB hJ hSn => ?_)
                obtain ⟨⟨hP1, hD1⟩, hf36_0, hf36_1⟩ := hB
                obtain ⟨hPn, hDn⟩ := hJ _ hP1 hD1 [(nu, .inr (5, [.ref au, .int lu])), (au, .inl (cI, cap, .inl fu))] rfl
                clear hP hD hS hJ hP1 hD1
                have hP := hPn
                have hD := hDn
                have hS := hSn
                clear hPn hDn hSn
                refine lv_if_eq (tgt := 173) hx hb dX2_decodeMany_160 (by decide) (fun c_37 => ?_) (fun c_37 => ?_)
                · have tc_37 : r_36.toInt = 0 := v_eq c_37
                  refine lv_iconst (v := (-1)) hx hb dX2_decodeMany_173 (by decide) ?_
                  exact kl_i (v := (-1)) hQQ hx hb hr hlocks hS dX2_decodeMany_174 ⟨hP, hD⟩
                · have tc_37 : ¬ r_36.toInt = 0 := v_ne c_37
                  refine lv_iload hx hb dX2_decodeMany_163 (lv_at hl 1 rfl) ?_
                  refine lv_iload hx hb dX2_decodeMany_165 (lv_at hl 2 rfl) ?_
                  refine kS_i (rest := []) hcf (m_X2_found l dC dI cI cS H.size le 3 ) kc_X2_found gX2_decodeMany_X2_found rfl rfl ⟨Nat.le_of_ble_eq_true rfl, Nat.le_of_ble_eq_true rfl⟩ kX_t hK hP hD hS hA [] [0, 1] rfl (by decide +kernel) rfl hl rfl (Nat.le_of_ble_eq_true rfl) dX2_decodeMany_167 ⟨Nat.le_of_ble_eq_true rfl, Nat.le_of_ble_eq_true rfl⟩ (fun r_38 H locs hB hJ hSn => ?_)
                  obtain ⟨hP1, hD1⟩ := hB
                  obtain ⟨hPn, hDn⟩ := hJ _ hP1 hD1 [(nu, .inr (5, [.ref au, .int lu])), (au, .inl (cI, cap, .inl fu))] rfl
                  clear hP hD hS hJ hP1 hD1
                  have hP := hPn
                  have hD := hDn
                  have hS := hSn
                  clear hPn hDn hSn
                  refine lv_goto (tgt := 174) hx hb dX2_decodeMany_170 (by decide) ?_
                  exact kl_i (v := r_38) hQQ hx hb hr hlocks hS dX2_decodeMany_174 ⟨hP, hD⟩
            · have tc_31 : i.toInt < 3 := v_nle c_31
              refine lv_aload_n hx hb dX2_decodeMany_75 rfl (lv_at hl 3 rfl) ?_
              refine lv_iload_n hx hb dX2_decodeMany_76 rfl (lv_at hl 4 rfl) ?_
              refine lv_iload hx hb dX2_decodeMany_77 (lv_at hl 0 rfl) ?_
              refine lv_iadd hx hb dX2_decodeMany_79 ?_
              refine lv_topi (fun x_39 ex_39 => ?_)
              refine kV_i (rest := []) (q0 := 0) (ci := 5) hcf (m_X5_get l dC dI cI cS H.size nu au cap lu fu x_39 (g_lu) (by omega)) kc_X5_get gX2_decodeMany_X5_get rfl rfl rfl ⟨Nat.le_of_ble_eq_true rfl, Nat.le_of_ble_eq_true rfl⟩ kX_t hK hP hD hS hA [0, 1] [] rfl (by decide +kernel) rfl rfl rfl hl rfl (Nat.le_of_ble_eq_true rfl) dX2_decodeMany_80 ⟨Nat.le_of_ble_eq_true rfl, Nat.le_of_ble_eq_true rfl⟩ (fun r_40 H locs hB hJ hSn => ?_)
              obtain ⟨⟨hP1, hD1⟩, hf40_0⟩ := hB
              obtain ⟨hPn, hDn⟩ := hJ _ hP1 hD1 [(nu, .inr (5, [.ref au, .int lu])), (au, .inl (cI, cap, .inl fu))] rfl
              clear hP hD hS hJ hP1 hD1
              have hP := hPn
              have hD := hDn
              have hS := hSn
              clear hPn hDn hSn
              refine lv_istore (lv' := [(7, .int r_40), (6, .int i), (5, .int le), (4, .int 3), (0, .ref nu), (1, .int fr), (2, .int en)]) hx hb dX2_decodeMany_83 hl (by decide) rfl (fun ls hl => ?_)
              refine lv_iload hx hb dX2_decodeMany_85 (lv_at hl 0 rfl) ?_
              refine lv_sipush (v := 128) hx hb dX2_decodeMany_87 (by decide) ?_
              refine lv_icmp_lt (tgt := 101) hx hb dX2_decodeMany_90 (by decide) (fun c_41 => ?_) (fun c_41 => ?_)
              · have tc_41 : r_40.toInt < 128 := v_lt c_41
                refine lv_iconst (v := (-1)) hx hb dX2_decodeMany_101 (by decide) ?_
                exact kl_i (v := (-1)) hQQ hx hb hr hlocks hS dX2_decodeMany_102 ⟨hP, hD⟩
              · have tc_41 : 128 ≤ r_40.toInt := v_nlt c_41
                refine lv_iload hx hb dX2_decodeMany_93 (lv_at hl 0 rfl) ?_
                refine lv_sipush (v := 191) hx hb dX2_decodeMany_95 (by decide) ?_
                refine lv_icmp_le (tgt := 103) hx hb dX2_decodeMany_98 (by decide) (fun c_42 => ?_) (fun c_42 => ?_)
                · have tc_42 : r_40.toInt ≤ 191 := v_le c_42
                  refine lv_iload hx hb dX2_decodeMany_103 (lv_at hl 2 rfl) ?_
                  refine lv_bipush (v := 64) hx hb dX2_decodeMany_105 (by decide) ?_
                  refine lv_imul hx hb dX2_decodeMany_107 ?_
                  refine lv_topi (fun x_43 ex_43 => ?_)
                  have rv43_0 := v_rng le
                  refine lv_iload hx hb dX2_decodeMany_108 (lv_at hl 0 rfl) ?_
                  refine lv_iadd hx hb dX2_decodeMany_110 ?_
                  refine lv_topi (fun x_44 ex_44 => ?_)
                  have rv44_0 := v_rng x_43
                  refine lv_sipush (v := 128) hx hb dX2_decodeMany_111 (by decide) ?_
                  refine lv_isub hx hb dX2_decodeMany_114 ?_
                  refine lv_topi (fun x_45 ex_45 => ?_)
                  have rv45_0 := v_rng x_44
                  refine lv_istore (lv' := [(5, .int x_45), (7, .int r_40), (6, .int i), (4, .int 3), (0, .ref nu), (1, .int fr), (2, .int en)]) hx hb dX2_decodeMany_115 hl (by decide) rfl (fun ls hl => ?_)
                  obtain ⟨x_46, ex_46⟩ : ∃ y : Int32, y = i + 1 := ⟨_, rfl⟩
                  have tx_46 : x_46.toInt = i.toInt + 1 := v_addR (l2 := 1) (h2 := 1) ex_46 g_i (by decide) (by decide) (by decide)
                  refine lv_iinc (v := x_46) (lv' := [(6, .int x_46), (5, .int x_45), (7, .int r_40), (4, .int 3), (0, .ref nu), (1, .int fr), (2, .int en)]) hx hb dX2_decodeMany_117 hl (k := 2) rfl (by rw [ex_46]; rfl) (by decide) rfl (fun ls hl => ?_)
                  refine lv_goto (tgt := 68) hx hb dX2_decodeMany_120 (by decide) ?_
                  exact ih_68 x_45 x_46 _ _ _ (ms_lt hm_68 (by show ((4 - x_46.toInt : Int)) < 4 - i.toInt; omega) (by show (0 : Int) < 4 - i.toInt; omega)) (by show 1 ≤ x_46.toInt ∧ x_46.toInt ≤ 3; omega) hP hD hS (lv_sub hl [0, 1, 3, 4, 5, 6] rfl)
                · have tc_42 : 191 < r_40.toInt := v_nle c_42
                  refine lv_iconst (v := (-1)) hx hb dX2_decodeMany_101 (by decide) ?_
                  exact kl_i (v := (-1)) hQQ hx hb hr hlocks hS dX2_decodeMany_102 ⟨hP, hD⟩
        exact LOOP_68 _ x_30 1 _ _ _ (ms_s _) (by decide) hP hD hS (lv_sub hl [0, 1, 2, 4, 5, 6] rfl)
      · have tc_28 : x_27.toInt < 3 := v_nle c_28
        refine lv_iconst (v := (-1)) hx hb dX2_decodeMany_42 (by decide) ?_
        exact kl_i (v := (-1)) hQQ hx hb hr hlocks hS dX2_decodeMany_43 ⟨hP, hD⟩

set_option maxHeartbeats 40000000 in
set_option maxRecDepth 100000 in
theorem m_X2_decodeNumber (l : Launch) (dC : Nat → ClassId) (dI : Nat → Nat → Nat) (cI cS : ClassId) (sz : Nat) (nu : Nat) (au : Nat) (cap : Nat) (lu : Int32) (fu : Nat → Int32) (fr : Int32) (en : Int32) (g_lu : 0 ≤ lu.toInt ∧ lu.toInt ≤ (cap : Int)) (hcap : cap ≤ 2400) : kMi l yX2_decodeNumber wsX2_decodeNumber ({ frames := 1, cells := 0, slots := 0, locals := 21 } : Room) [.ref nu, .int fr, .int en] sz (dC, dI) vwCl [(cI, .int), (cS, .short)] [(nu, .inr (5, [.ref au, .int lu])), (au, .inl (cI, cap, .inl fu))] (va_Nw (.methodLinkNest RX2 52 yX11_isLetter "TextMender")) 0 0 (fun (A : Nat → Prop) (r : Int32) (hh9 : Heap) => kPD (dC, dI) vwCl A [(nu, .inr (5, [.ref au, .int lu])), (au, .inl (cI, cap, .inl fu))] hh9) := by
  refine kMi_of (cc := cX2_decodeNumber) (maxL := 7) (ret := (some .int)) (lv := [(0, .ref nu), (1, .int fr), (2, .int en)]) (by decide +kernel) rfl rfl (Nat.le_of_ble_eq_true rfl) ?_
  intro p e s m below meth c A QQ ls hx hb hr hts hml hown hlocks hA hQQ hK hX hP hD hS hl
  have hown : s.vm.findClass RX2 = some m.cls := hown
  have hcf := k_cf hx hb hml hown hts
  have hN52 := hX
  have re_ := v_rng en
  refine lv_aload_n hx hb dX2_decodeNumber_0 rfl (lv_at hl 0 rfl) ?_
  refine lv_iload_n hx hb dX2_decodeNumber_1 rfl (lv_at hl 1 rfl) ?_
  refine kV_i (rest := []) (q0 := 0) (ci := 5) hcf (m_X5_get l dC dI cI cS s.heap.size nu au cap lu fu fr (g_lu) (by omega)) kc_X5_get gX2_decodeNumber_X5_get rfl rfl rfl ⟨Nat.le_of_ble_eq_true rfl, Nat.le_of_ble_eq_true rfl⟩ kX_t hK hP hD hS hA [0, 1] [] rfl (by decide +kernel) rfl rfl rfl hl rfl (Nat.le_of_ble_eq_true rfl) dX2_decodeNumber_2 ⟨Nat.le_of_ble_eq_true rfl, Nat.le_of_ble_eq_true rfl⟩ (fun r_1 H locs hB hJ hSn => ?_)
  obtain ⟨⟨hP1, hD1⟩, hf1_0⟩ := hB
  obtain ⟨hPn, hDn⟩ := hJ _ hP1 hD1 [(nu, .inr (5, [.ref au, .int lu])), (au, .inl (cI, cap, .inl fu))] rfl
  clear hP hD hS hJ hP1 hD1
  have hP := hPn
  have hD := hDn
  have hS := hSn
  clear hPn hDn hSn
  refine lv_bipush (v := 38) hx hb dX2_decodeNumber_5 (by decide) ?_
  refine lv_icmp_ne (tgt := 29) hx hb dX2_decodeNumber_7 (by decide) (fun c_2 => ?_) (fun c_2 => ?_)
  · have tc_2 : ¬ r_1.toInt = 38 := v_ne c_2
    refine lv_iconst (v := (-1)) hx hb dX2_decodeNumber_29 (by decide) ?_
    exact kl_i (v := (-1)) hQQ hx hb hr hlocks hS dX2_decodeNumber_30 ⟨hP, hD⟩
  · have tc_2 : r_1.toInt = 38 := v_eq c_2
    refine lv_iload_n hx hb dX2_decodeNumber_10 rfl (lv_at hl 1 rfl) ?_
    refine lv_iconst (v := 1) hx hb dX2_decodeNumber_11 (by decide) ?_
    refine lv_iadd hx hb dX2_decodeNumber_12 ?_
    refine lv_topi (fun x_3 ex_3 => ?_)
    have rv3_0 := v_rng fr
    refine lv_iload_n hx hb dX2_decodeNumber_13 rfl (lv_at hl 2 rfl) ?_
    refine lv_icmp_ge (tgt := 29) hx hb dX2_decodeNumber_14 (by decide) (fun c_4 => ?_) (fun c_4 => ?_)
    · have tc_4 : en.toInt ≤ x_3.toInt := v_le c_4
      have rw4_0 := v_rng x_3
      have rw4_1 := v_rng en
      refine lv_iconst (v := (-1)) hx hb dX2_decodeNumber_29 (by decide) ?_
      exact kl_i (v := (-1)) hQQ hx hb hr hlocks hS dX2_decodeNumber_30 ⟨hP, hD⟩
    · have tc_4 : x_3.toInt < en.toInt := v_nle c_4
      have rw4_0 := v_rng x_3
      have rw4_1 := v_rng en
      refine lv_aload_n hx hb dX2_decodeNumber_17 rfl (lv_at hl 0 rfl) ?_
      refine lv_iload_n hx hb dX2_decodeNumber_18 rfl (lv_at hl 1 rfl) ?_
      refine lv_iconst (v := 1) hx hb dX2_decodeNumber_19 (by decide) ?_
      refine lv_iadd hx hb dX2_decodeNumber_20 ?_
      refine lv_topi (fun x_5 ex_5 => ?_)
      refine kV_i (rest := []) (q0 := 0) (ci := 5) hcf (m_X5_get l dC dI cI cS H.size nu au cap lu fu x_5 (g_lu) (by omega)) kc_X5_get gX2_decodeNumber_X5_get rfl rfl rfl ⟨Nat.le_of_ble_eq_true rfl, Nat.le_of_ble_eq_true rfl⟩ kX_t hK hP hD hS hA [0, 1] [] rfl (by decide +kernel) rfl rfl rfl hl rfl (Nat.le_of_ble_eq_true rfl) dX2_decodeNumber_21 ⟨Nat.le_of_ble_eq_true rfl, Nat.le_of_ble_eq_true rfl⟩ (fun r_6 H locs hB hJ hSn => ?_)
      obtain ⟨⟨hP1, hD1⟩, hf6_0⟩ := hB
      obtain ⟨hPn, hDn⟩ := hJ _ hP1 hD1 [(nu, .inr (5, [.ref au, .int lu])), (au, .inl (cI, cap, .inl fu))] rfl
      clear hP hD hS hJ hP1 hD1
      have hP := hPn
      have hD := hDn
      have hS := hSn
      clear hPn hDn hSn
      refine lv_bipush (v := 35) hx hb dX2_decodeNumber_24 (by decide) ?_
      refine lv_icmp_eq (tgt := 31) hx hb dX2_decodeNumber_26 (by decide) (fun c_7 => ?_) (fun c_7 => ?_)
      · have tc_7 : r_6.toInt = 35 := v_eq c_7
        refine lv_iconst (v := 0) hx hb dX2_decodeNumber_31 (by decide) ?_
        refine lv_istore_n (lv' := [(3, .int 0), (0, .ref nu), (1, .int fr), (2, .int en)]) hx hb dX2_decodeNumber_32 rfl hl (by decide) rfl (fun ls hl => ?_)
        refine lv_iload_n hx hb dX2_decodeNumber_33 rfl (lv_at hl 2 rfl) ?_
        refine lv_iconst (v := 2) hx hb dX2_decodeNumber_34 (by decide) ?_
        refine lv_iadd hx hb dX2_decodeNumber_35 ?_
        refine lv_topi (fun x_8 ex_8 => ?_)
        refine lv_istore (lv' := [(4, .int x_8), (3, .int 0), (0, .ref nu), (1, .int fr), (2, .int en)]) hx hb dX2_decodeNumber_36 hl (by decide) rfl (fun ls hl => ?_)
        have LOOP_38 : ∀ (k_38 : Nat) (nb : Int32) (p_ : Int32) (H : Heap) (locs : List Loc) (ls : Array Slot), MSd (en.toInt - p_.toInt : Int) k_38 →  va_P (dC, dI) vwCl [(nu, .inr (5, [.ref au, .int lu])), (au, .inl (cI, cap, .inl fu))] H → va_D A [(nu, .inr (5, [.ref au, .int lu])), (au, .inl (cI, cap, .inl fu))] → va_S A s.heap H locs → lv_has ls 7 [(4, .int p_), (3, .int nb), (0, .ref nu), (1, .int fr), (2, .int en)] → W p l e (headSpec wsX2_decodeNumber ({ frames := 1, cells := 0, slots := 0, locals := 21 } : Room)).room s m ([.ref nu, .int fr, .int en] : List Value).toArray below meth c H locs 0 0 (MQ below QQ ([.ref nu, .int fr, .int en] : List Value).toArray s 0 0 A) (F0 m 38 ls []) := by
          clear hP hD hS hl
          intro k_38
          induction k_38 with
          | zero =>
            intro nb p_ H locs ls hm_38  hP hD hS hl
            exact ms_0 hm_38
          | succ k_38 ih_38 =>
            intro nb p_ H locs ls hm_38  hP hD hS hl
            refine lv_iload hx hb dX2_decodeNumber_38 (lv_at hl 0 rfl) ?_
            refine lv_iload_n hx hb dX2_decodeNumber_40 rfl (lv_at hl 4 rfl) ?_
            refine lv_icmp_ge (tgt := 153) hx hb dX2_decodeNumber_41 (by decide) (fun c_9 => ?_) (fun c_9 => ?_)
            · have tc_9 : en.toInt ≤ p_.toInt := v_le c_9
              have rw9_0 := v_rng p_
              refine lv_iconst (v := (-1)) hx hb dX2_decodeNumber_153 (by decide) ?_
              exact kl_i (v := (-1)) hQQ hx hb hr hlocks hS dX2_decodeNumber_154 ⟨hP, hD⟩
            · have tc_9 : p_.toInt < en.toInt := v_nle c_9
              have rw9_0 := v_rng p_
              refine lv_iload hx hb dX2_decodeNumber_44 (lv_at hl 0 rfl) ?_
              refine lv_iload_n hx hb dX2_decodeNumber_46 rfl (lv_at hl 3 rfl) ?_
              refine lv_bipush (v := 8) hx hb dX2_decodeNumber_47 (by decide) ?_
              refine lv_iadd hx hb dX2_decodeNumber_49 ?_
              refine lv_topi (fun x_10 ex_10 => ?_)
              refine lv_icmp_ge (tgt := 153) hx hb dX2_decodeNumber_50 (by decide) (fun c_11 => ?_) (fun c_11 => ?_)
              · have tc_11 : x_10.toInt ≤ p_.toInt := v_le c_11
                have rw11_1 := v_rng x_10
                refine lv_iconst (v := (-1)) hx hb dX2_decodeNumber_153 (by decide) ?_
                exact kl_i (v := (-1)) hQQ hx hb hr hlocks hS dX2_decodeNumber_154 ⟨hP, hD⟩
              · have tc_11 : p_.toInt < x_10.toInt := v_nle c_11
                have rw11_1 := v_rng x_10
                refine lv_aload_n hx hb dX2_decodeNumber_53 rfl (lv_at hl 2 rfl) ?_
                refine lv_iload hx hb dX2_decodeNumber_54 (lv_at hl 0 rfl) ?_
                refine kV_i (rest := []) (q0 := 0) (ci := 5) hcf (m_X5_get l dC dI cI cS H.size nu au cap lu fu p_ (g_lu) (by omega)) kc_X5_get gX2_decodeNumber_X5_get rfl rfl rfl ⟨Nat.le_of_ble_eq_true rfl, Nat.le_of_ble_eq_true rfl⟩ kX_t hK hP hD hS hA [0, 1] [] rfl (by decide +kernel) rfl rfl rfl hl rfl (Nat.le_of_ble_eq_true rfl) dX2_decodeNumber_56 ⟨Nat.le_of_ble_eq_true rfl, Nat.le_of_ble_eq_true rfl⟩ (fun r_12 H locs hB hJ hSn => ?_)
                obtain ⟨⟨hP1, hD1⟩, hf12_0⟩ := hB
                obtain ⟨hPn, hDn⟩ := hJ _ hP1 hD1 [(nu, .inr (5, [.ref au, .int lu])), (au, .inl (cI, cap, .inl fu))] rfl
                clear hP hD hS hJ hP1 hD1
                have hP := hPn
                have hD := hDn
                have hS := hSn
                clear hPn hDn hSn
                refine lv_istore (lv' := [(5, .int r_12), (4, .int p_), (3, .int nb), (0, .ref nu), (1, .int fr), (2, .int en)]) hx hb dX2_decodeNumber_59 hl (by decide) rfl (fun ls hl => ?_)
                refine lv_iload hx hb dX2_decodeNumber_61 (lv_at hl 0 rfl) ?_
                refine lv_bipush (v := 59) hx hb dX2_decodeNumber_63 (by decide) ?_
                refine lv_icmp_ne (tgt := 97) hx hb dX2_decodeNumber_65 (by decide) (fun c_13 => ?_) (fun c_13 => ?_)
                · have tc_13 : ¬ r_12.toInt = 59 := v_ne c_13
                  refine lv_iload_n hx hb dX2_decodeNumber_97 rfl (lv_at hl 2 rfl) ?_
                  refine lv_if_ne (tgt := 112) hx hb dX2_decodeNumber_98 (by decide) (fun c_14 => ?_) (fun c_14 => ?_)
                  · have tc_14 : ¬ nb.toInt = 0 := v_ne c_14
                    refine lv_iconst (v := 0) hx hb dX2_decodeNumber_112 (by decide) ?_
                    refine lv_istore (lv' := [(6, .int 0), (5, .int r_12), (4, .int p_), (3, .int nb), (0, .ref nu), (1, .int fr), (2, .int en)]) hx hb dX2_decodeNumber_113 hl (by decide) rfl (fun ls hl => ?_)
                    refine lv_iload hx hb dX2_decodeNumber_115 (lv_at hl 1 rfl) ?_
                    refine lv_bipush (v := 48) hx hb dX2_decodeNumber_117 (by decide) ?_
                    refine lv_icmp_lt (tgt := 134) hx hb dX2_decodeNumber_119 (by decide) (fun c_15 => ?_) (fun c_15 => ?_)
                    · have tc_15 : r_12.toInt < 48 := v_lt c_15
                      refine lv_iconst (v := (-1)) hx hb dX2_decodeNumber_134 (by decide) ?_
                      exact kl_i (v := (-1)) hQQ hx hb hr hlocks hS dX2_decodeNumber_135 ⟨hP, hD⟩
                    · have tc_15 : 48 ≤ r_12.toInt := v_nlt c_15
                      refine lv_iload hx hb dX2_decodeNumber_122 (lv_at hl 1 rfl) ?_
                      refine lv_bipush (v := 57) hx hb dX2_decodeNumber_124 (by decide) ?_
                      refine lv_icmp_gt (tgt := 134) hx hb dX2_decodeNumber_126 (by decide) (fun c_16 => ?_) (fun c_16 => ?_)
                      · have tc_16 : 57 < r_12.toInt := v_lt c_16
                        refine lv_iconst (v := (-1)) hx hb dX2_decodeNumber_134 (by decide) ?_
                        exact kl_i (v := (-1)) hQQ hx hb hr hlocks hS dX2_decodeNumber_135 ⟨hP, hD⟩
                      · have tc_16 : r_12.toInt ≤ 57 := v_nlt c_16
                        refine lv_iload hx hb dX2_decodeNumber_129 (lv_at hl 0 rfl) ?_
                        refine lv_if_eq (tgt := 136) hx hb dX2_decodeNumber_131 (by decide) (fun c_17 => ?_) (fun c_17 => absurd c_17 (by decide))
                        refine lv_iload_n hx hb dX2_decodeNumber_136 rfl (lv_at hl 3 rfl) ?_
                        refine lv_bipush (v := 10) hx hb dX2_decodeNumber_137 (by decide) ?_
                        refine lv_imul hx hb dX2_decodeNumber_139 ?_
                        refine lv_topi (fun x_18 ex_18 => ?_)
                        have rv18_0 := v_rng nb
                        refine lv_iload hx hb dX2_decodeNumber_140 (lv_at hl 1 rfl) ?_
                        refine lv_iadd hx hb dX2_decodeNumber_142 ?_
                        refine lv_topi (fun x_19 ex_19 => ?_)
                        have rv19_0 := v_rng x_18
                        refine lv_bipush (v := 48) hx hb dX2_decodeNumber_143 (by decide) ?_
                        refine lv_isub hx hb dX2_decodeNumber_145 ?_
                        refine lv_topi (fun x_20 ex_20 => ?_)
                        have rv20_0 := v_rng x_19
                        refine lv_istore_n (lv' := [(3, .int x_20), (6, .int 0), (5, .int r_12), (4, .int p_), (0, .ref nu), (1, .int fr), (2, .int en)]) hx hb dX2_decodeNumber_146 rfl hl (by decide) rfl (fun ls hl => ?_)
                        have rp_ := v_rng p_
                        obtain ⟨x_21, ex_21⟩ : ∃ y : Int32, y = p_ + 1 := ⟨_, rfl⟩
                        have tx_21 : x_21.toInt = p_.toInt + 1 := v_add ex_21 (by show -2147483648 ≤ p_.toInt + 1; omega) (by show p_.toInt + 1 < 2147483648; omega)
                        refine lv_iinc (v := x_21) (lv' := [(4, .int x_21), (3, .int x_20), (6, .int 0), (5, .int r_12), (0, .ref nu), (1, .int fr), (2, .int en)]) hx hb dX2_decodeNumber_147 hl (k := 3) rfl (by rw [ex_21]; rfl) (by decide) rfl (fun ls hl => ?_)
                        refine lv_goto (tgt := 38) hx hb dX2_decodeNumber_150 (by decide) ?_
                        exact ih_38 x_20 x_21 _ _ _ (ms_lt hm_38 (by show ((en.toInt - x_21.toInt : Int)) < en.toInt - p_.toInt; omega) (by show (0 : Int) < en.toInt - p_.toInt; omega))  hP hD hS (lv_sub hl [0, 1, 4, 5, 6] rfl)
                  · have tc_14 : nb.toInt = 0 := v_eq c_14
                    refine lv_iload hx hb dX2_decodeNumber_101 (lv_at hl 0 rfl) ?_
                    refine lv_bipush (v := 48) hx hb dX2_decodeNumber_103 (by decide) ?_
                    refine lv_icmp_ne (tgt := 112) hx hb dX2_decodeNumber_105 (by decide) (fun c_22 => ?_) (fun c_22 => ?_)
                    · have tc_22 : ¬ r_12.toInt = 48 := v_ne c_22
                      refine lv_iconst (v := 0) hx hb dX2_decodeNumber_112 (by decide) ?_
                      refine lv_istore (lv' := [(6, .int 0), (5, .int r_12), (4, .int p_), (3, .int nb), (0, .ref nu), (1, .int fr), (2, .int en)]) hx hb dX2_decodeNumber_113 hl (by decide) rfl (fun ls hl => ?_)
                      refine lv_iload hx hb dX2_decodeNumber_115 (lv_at hl 1 rfl) ?_
                      refine lv_bipush (v := 48) hx hb dX2_decodeNumber_117 (by decide) ?_
                      refine lv_icmp_lt (tgt := 134) hx hb dX2_decodeNumber_119 (by decide) (fun c_23 => ?_) (fun c_23 => ?_)
                      · have tc_23 : r_12.toInt < 48 := v_lt c_23
                        refine lv_iconst (v := (-1)) hx hb dX2_decodeNumber_134 (by decide) ?_
                        exact kl_i (v := (-1)) hQQ hx hb hr hlocks hS dX2_decodeNumber_135 ⟨hP, hD⟩
                      · have tc_23 : 48 ≤ r_12.toInt := v_nlt c_23
                        refine lv_iload hx hb dX2_decodeNumber_122 (lv_at hl 1 rfl) ?_
                        refine lv_bipush (v := 57) hx hb dX2_decodeNumber_124 (by decide) ?_
                        refine lv_icmp_gt (tgt := 134) hx hb dX2_decodeNumber_126 (by decide) (fun c_24 => ?_) (fun c_24 => ?_)
                        · have tc_24 : 57 < r_12.toInt := v_lt c_24
                          refine lv_iconst (v := (-1)) hx hb dX2_decodeNumber_134 (by decide) ?_
                          exact kl_i (v := (-1)) hQQ hx hb hr hlocks hS dX2_decodeNumber_135 ⟨hP, hD⟩
                        · have tc_24 : r_12.toInt ≤ 57 := v_nlt c_24
                          refine lv_iload hx hb dX2_decodeNumber_129 (lv_at hl 0 rfl) ?_
                          refine lv_if_eq (tgt := 136) hx hb dX2_decodeNumber_131 (by decide) (fun c_25 => ?_) (fun c_25 => absurd c_25 (by decide))
                          refine lv_iload_n hx hb dX2_decodeNumber_136 rfl (lv_at hl 3 rfl) ?_
                          refine lv_bipush (v := 10) hx hb dX2_decodeNumber_137 (by decide) ?_
                          refine lv_imul hx hb dX2_decodeNumber_139 ?_
                          refine lv_topi (fun x_26 ex_26 => ?_)
                          have tx_26 : x_26.toInt = nb.toInt * 10 := v_mul ex_26 (by show -2147483648 ≤ nb.toInt * 10; omega) (by show nb.toInt * 10 < 2147483648; omega)
                          refine lv_iload hx hb dX2_decodeNumber_140 (lv_at hl 1 rfl) ?_
                          refine lv_iadd hx hb dX2_decodeNumber_142 ?_
                          refine lv_topi (fun x_27 ex_27 => ?_)
                          have tx_27 : x_27.toInt = x_26.toInt + r_12.toInt := v_add ex_27 (by show -2147483648 ≤ x_26.toInt + r_12.toInt; omega) (by show x_26.toInt + r_12.toInt < 2147483648; omega)
                          refine lv_bipush (v := 48) hx hb dX2_decodeNumber_143 (by decide) ?_
                          refine lv_isub hx hb dX2_decodeNumber_145 ?_
                          refine lv_topi (fun x_28 ex_28 => ?_)
                          have tx_28 : x_28.toInt = x_27.toInt - 48 := v_sub ex_28 (by show -2147483648 ≤ x_27.toInt - 48; omega) (by show x_27.toInt - 48 < 2147483648; omega)
                          refine lv_istore_n (lv' := [(3, .int x_28), (6, .int 0), (5, .int r_12), (4, .int p_), (0, .ref nu), (1, .int fr), (2, .int en)]) hx hb dX2_decodeNumber_146 rfl hl (by decide) rfl (fun ls hl => ?_)
                          have rp_ := v_rng p_
                          obtain ⟨x_29, ex_29⟩ : ∃ y : Int32, y = p_ + 1 := ⟨_, rfl⟩
                          have tx_29 : x_29.toInt = p_.toInt + 1 := v_add ex_29 (by show -2147483648 ≤ p_.toInt + 1; omega) (by show p_.toInt + 1 < 2147483648; omega)
                          refine lv_iinc (v := x_29) (lv' := [(4, .int x_29), (3, .int x_28), (6, .int 0), (5, .int r_12), (0, .ref nu), (1, .int fr), (2, .int en)]) hx hb dX2_decodeNumber_147 hl (k := 3) rfl (by rw [ex_29]; rfl) (by decide) rfl (fun ls hl => ?_)
                          refine lv_goto (tgt := 38) hx hb dX2_decodeNumber_150 (by decide) ?_
                          exact ih_38 x_28 x_29 _ _ _ (ms_lt hm_38 (by show ((en.toInt - x_29.toInt : Int)) < en.toInt - p_.toInt; omega) (by show (0 : Int) < en.toInt - p_.toInt; omega))  hP hD hS (lv_sub hl [0, 1, 4, 5, 6] rfl)
                    · have tc_22 : r_12.toInt = 48 := v_eq c_22
                      refine lv_iconst (v := 1) hx hb dX2_decodeNumber_108 (by decide) ?_
                      refine lv_goto (tgt := 113) hx hb dX2_decodeNumber_109 (by decide) ?_
                      refine lv_istore (lv' := [(6, .int 1), (5, .int r_12), (4, .int p_), (3, .int nb), (0, .ref nu), (1, .int fr), (2, .int en)]) hx hb dX2_decodeNumber_113 hl (by decide) rfl (fun ls hl => ?_)
                      refine lv_iload hx hb dX2_decodeNumber_115 (lv_at hl 1 rfl) ?_
                      refine lv_bipush (v := 48) hx hb dX2_decodeNumber_117 (by decide) ?_
                      refine lv_icmp_lt (tgt := 134) hx hb dX2_decodeNumber_119 (by decide) (fun c_30 => by exfalso; have tc_30 : r_12.toInt < 48 := v_lt c_30; omega) (fun c_30 => ?_)
                      have tc_30 : 48 ≤ r_12.toInt := v_nlt c_30
                      refine lv_iload hx hb dX2_decodeNumber_122 (lv_at hl 1 rfl) ?_
                      refine lv_bipush (v := 57) hx hb dX2_decodeNumber_124 (by decide) ?_
                      refine lv_icmp_gt (tgt := 134) hx hb dX2_decodeNumber_126 (by decide) (fun c_31 => by exfalso; have tc_31 : 57 < r_12.toInt := v_lt c_31; omega) (fun c_31 => ?_)
                      have tc_31 : r_12.toInt ≤ 57 := v_nlt c_31
                      refine lv_iload hx hb dX2_decodeNumber_129 (lv_at hl 0 rfl) ?_
                      refine lv_if_eq (tgt := 136) hx hb dX2_decodeNumber_131 (by decide) (fun c_32 => absurd c_32 (by decide)) (fun c_32 => ?_)
                      refine lv_iconst (v := (-1)) hx hb dX2_decodeNumber_134 (by decide) ?_
                      exact kl_i (v := (-1)) hQQ hx hb hr hlocks hS dX2_decodeNumber_135 ⟨hP, hD⟩
                · have tc_13 : r_12.toInt = 59 := v_eq c_13
                  refine lv_iload_n hx hb dX2_decodeNumber_68 rfl (lv_at hl 2 rfl) ?_
                  refine kSN_i (rest := []) hcf (m_X11_isLetter l dC dI cI cS H.size nb ) ⟨va_cnB 1 hts gX2_decodeNumber_X11_isLetter_n52 rfl rfl rfl hN52 (hts (.initialized RX11) (List.mem_of_getElem? (i := 9) rfl)) (by decide +kernel) ⟨Nat.le_of_ble_eq_true rfl, Nat.le_of_ble_eq_true rfl⟩, (hts (.static yX11_isLetter) (List.mem_of_getElem? (i := 8) rfl)), trivial⟩ kX_t hK hP hD hS hA [] [0, 1] rfl (by decide +kernel) rfl hl rfl (Nat.le_of_ble_eq_true rfl) dX2_decodeNumber_69 ⟨Nat.le_of_ble_eq_true rfl, Nat.le_of_ble_eq_true rfl⟩ (fun r_33 H locs hB hJ hSn => ?_)
                  obtain ⟨⟨hP1, hD1⟩, hf33_0, hf33_1⟩ := hB
                  obtain ⟨hPn, hDn⟩ := hJ _ hP1 hD1 [(nu, .inr (5, [.ref au, .int lu])), (au, .inl (cI, cap, .inl fu))] rfl
                  clear hP hD hS hJ hP1 hD1
                  have hP := hPn
                  have hD := hDn
                  have hS := hSn
                  clear hPn hDn hSn
                  refine lv_if_eq (tgt := 95) hx hb dX2_decodeNumber_72 (by decide) (fun c_34 => ?_) (fun c_34 => ?_)
                  · have tc_34 : r_33.toInt = 0 := v_eq c_34
                    refine lv_iconst (v := (-1)) hx hb dX2_decodeNumber_95 (by decide) ?_
                    exact kl_i (v := (-1)) hQQ hx hb hr hlocks hS dX2_decodeNumber_96 ⟨hP, hD⟩
                  · have tc_34 : ¬ r_33.toInt = 0 := v_ne c_34
                    refine lv_iload_n hx hb dX2_decodeNumber_75 rfl (lv_at hl 2 rfl) ?_
                    refine kS_i (rest := []) hcf (m_X2_isNumbered l dC dI cI cS H.size nb ) kc_X2_isNumbered gX2_decodeNumber_X2_isNumbered rfl rfl ⟨Nat.le_of_ble_eq_true rfl, Nat.le_of_ble_eq_true rfl⟩ kX_t hK hP hD hS hA [] [0, 1] rfl (by decide +kernel) rfl hl rfl (Nat.le_of_ble_eq_true rfl) dX2_decodeNumber_76 ⟨Nat.le_of_ble_eq_true rfl, Nat.le_of_ble_eq_true rfl⟩ (fun r_35 H locs hB hJ hSn => ?_)
                    obtain ⟨⟨hP1, hD1⟩, hf35_0⟩ := hB
                    obtain ⟨hPn, hDn⟩ := hJ _ hP1 hD1 [(nu, .inr (5, [.ref au, .int lu])), (au, .inl (cI, cap, .inl fu))] rfl
                    clear hP hD hS hJ hP1 hD1
                    have hP := hPn
                    have hD := hDn
                    have hS := hSn
                    clear hPn hDn hSn
                    refine lv_if_eq (tgt := 95) hx hb dX2_decodeNumber_79 (by decide) (fun c_36 => ?_) (fun c_36 => ?_)
                    · have tc_36 : r_35.toInt = 0 := v_eq c_36
                      refine lv_iconst (v := (-1)) hx hb dX2_decodeNumber_95 (by decide) ?_
                      exact kl_i (v := (-1)) hQQ hx hb hr hlocks hS dX2_decodeNumber_96 ⟨hP, hD⟩
                    · have tc_36 : ¬ r_35.toInt = 0 := v_ne c_36
                      refine lv_iload_n hx hb dX2_decodeNumber_82 rfl (lv_at hl 2 rfl) ?_
                      refine lv_iload hx hb dX2_decodeNumber_83 (lv_at hl 1 rfl) ?_
                      refine lv_iconst (v := 1) hx hb dX2_decodeNumber_85 (by decide) ?_
                      refine lv_iadd hx hb dX2_decodeNumber_86 ?_
                      refine lv_topi (fun x_37 ex_37 => ?_)
                      have tx_37 : x_37.toInt = p_.toInt + 1 := v_add ex_37 (by show -2147483648 ≤ p_.toInt + 1; omega) (by show p_.toInt + 1 < 2147483648; omega)
                      refine lv_iload_n hx hb dX2_decodeNumber_87 rfl (lv_at hl 4 rfl) ?_
                      refine lv_isub hx hb dX2_decodeNumber_88 ?_
                      refine lv_topi (fun x_38 ex_38 => ?_)
                      have rv38_0 := v_rng x_37
                      refine kS_i (rest := []) hcf (m_X2_found l dC dI cI cS H.size nb x_38 ) kc_X2_found gX2_decodeNumber_X2_found rfl rfl ⟨Nat.le_of_ble_eq_true rfl, Nat.le_of_ble_eq_true rfl⟩ kX_t hK hP hD hS hA [] [0, 1] rfl (by decide +kernel) rfl hl rfl (Nat.le_of_ble_eq_true rfl) dX2_decodeNumber_89 ⟨Nat.le_of_ble_eq_true rfl, Nat.le_of_ble_eq_true rfl⟩ (fun r_39 H locs hB hJ hSn => ?_)
                      obtain ⟨hP1, hD1⟩ := hB
                      obtain ⟨hPn, hDn⟩ := hJ _ hP1 hD1 [(nu, .inr (5, [.ref au, .int lu])), (au, .inl (cI, cap, .inl fu))] rfl
                      clear hP hD hS hJ hP1 hD1
                      have hP := hPn
                      have hD := hDn
                      have hS := hSn
                      clear hPn hDn hSn
                      refine lv_goto (tgt := 96) hx hb dX2_decodeNumber_92 (by decide) ?_
                      exact kl_i (v := r_39) hQQ hx hb hr hlocks hS dX2_decodeNumber_96 ⟨hP, hD⟩
        exact LOOP_38 _ 0 x_8 _ _ _ (ms_s _)  hP hD hS (lv_sub hl [0, 1, 2, 3, 4] rfl)
      · have tc_7 : ¬ r_6.toInt = 35 := v_ne c_7
        refine lv_iconst (v := (-1)) hx hb dX2_decodeNumber_29 (by decide) ?_
        exact kl_i (v := (-1)) hQQ hx hb hr hlocks hS dX2_decodeNumber_30 ⟨hP, hD⟩

set_option maxHeartbeats 40000000 in
set_option maxRecDepth 100000 in
theorem m_X2_decode (l : Launch) (dC : Nat → ClassId) (dI : Nat → Nat → Nat) (cI cS : ClassId) (sz : Nat) (oC : Nat) (nu : Nat) (o4 : Nat) (o5 : Nat) (a41 : Nat) (a42 : Nat) (a43 : Nat) (a51 : Nat) (a52 : Nat) (a53 : Nat) (au : Nat) (cap : Nat) (l4 : Int32) (f41 : Nat → Int32) (l5 : Int32) (f51 : Nat → Int32) (lu : Int32) (fu : Nat → Int32) (cd : Int32) (fr : Int32) (en : Int32) (g_lu : 0 ≤ lu.toInt ∧ lu.toInt ≤ (cap : Int)) (hcap : cap ≤ 2400) : kMi l yX2_decode wsX2_decode ({ frames := 2, cells := 0, slots := 0, locals := 48 } : Room) [.ref oC, .int cd, .ref nu, .int fr, .int en] sz (dC, dI) vwCl [(cI, .int), (cS, .short)] [(oC, .inr (2, [.ref o4, .ref o5])), (o4, .inr (10, [.ref a41, .ref a42, .ref a43, .int l4])), (a41, .inl (cI, 256, .inl f41)), (o5, .inr (10, [.ref a51, .ref a52, .ref a53, .int l5])), (a51, .inl (cI, 256, .inl f51)), (nu, .inr (5, [.ref au, .int lu])), (au, .inl (cI, cap, .inl fu))] (va_Nw (.methodLinkNest RX2 52 yX11_isLetter "TextMender")) 0 0 (fun (A : Nat → Prop) (r : Int32) (hh9 : Heap) => kPD (dC, dI) vwCl A [(oC, .inr (2, [.ref o4, .ref o5])), (o4, .inr (10, [.ref a41, .ref a42, .ref a43, .int l4])), (a41, .inl (cI, 256, .inl f41)), (o5, .inr (10, [.ref a51, .ref a52, .ref a53, .int l5])), (a51, .inl (cI, 256, .inl f51)), (nu, .inr (5, [.ref au, .int lu])), (au, .inl (cI, cap, .inl fu))] hh9) := by
  refine kMi_of (cc := cX2_decode) (maxL := 7) (ret := (some .int)) (lv := [(0, .ref oC), (1, .int cd), (2, .ref nu), (3, .int fr), (4, .int en)]) (by decide +kernel) rfl rfl (Nat.le_of_ble_eq_true rfl) ?_
  intro p e s m below meth c A QQ ls hx hb hr hts hml hown hlocks hA hQQ hK hX hP hD hS hl
  have hown : s.vm.findClass RX2 = some m.cls := hown
  have hcf := k_cf hx hb hml hown hts
  have hN52 := hX
  refine lv_aload_n hx hb dX2_decode_0 rfl (lv_at hl 2 rfl) ?_
  refine lv_iload_n hx hb dX2_decode_1 rfl (lv_at hl 3 rfl) ?_
  refine kV_i (rest := []) (q0 := 0) (ci := 5) hcf (m_X5_get l dC dI cI cS s.heap.size nu au cap lu fu fr (g_lu) (by omega)) kc_X5_get gX2_decode_X5_get rfl rfl rfl ⟨Nat.le_of_ble_eq_true rfl, Nat.le_of_ble_eq_true rfl⟩ kX_t hK hP hD hS hA [5, 6] [0, 1, 2, 3, 4] rfl (by decide +kernel) rfl rfl rfl hl rfl (Nat.le_of_ble_eq_true rfl) dX2_decode_2 ⟨Nat.le_of_ble_eq_true rfl, Nat.le_of_ble_eq_true rfl⟩ (fun r_1 H locs hB hJ hSn => ?_)
  obtain ⟨⟨hP1, hD1⟩, hf1_0⟩ := hB
  obtain ⟨hPn, hDn⟩ := hJ _ hP1 hD1 [(oC, .inr (2, [.ref o4, .ref o5])), (o4, .inr (10, [.ref a41, .ref a42, .ref a43, .int l4])), (a41, .inl (cI, 256, .inl f41)), (o5, .inr (10, [.ref a51, .ref a52, .ref a53, .int l5])), (a51, .inl (cI, 256, .inl f51)), (nu, .inr (5, [.ref au, .int lu])), (au, .inl (cI, cap, .inl fu))] rfl
  clear hP hD hS hJ hP1 hD1
  have hP := hPn
  have hD := hDn
  have hS := hSn
  clear hPn hDn hSn
  refine lv_istore (lv' := [(5, .int r_1), (0, .ref oC), (1, .int cd), (2, .ref nu), (3, .int fr), (4, .int en)]) hx hb dX2_decode_5 hl (by decide) rfl (fun ls hl => ?_)
  refine lv_iload hx hb dX2_decode_7 (lv_at hl 0 rfl) ?_
  refine lv_iconst (v := (-1)) hx hb dX2_decode_9 (by decide) ?_
  refine lv_icmp_eq (tgt := 19) hx hb dX2_decode_10 (by decide) (fun c_2 => ?_) (fun c_2 => ?_)
  · have tc_2 : r_1.toInt = (-1) := v_eq c_2
    refine lv_iconst (v := (-1)) hx hb dX2_decode_19 (by decide) ?_
    exact kl_i (v := (-1)) hQQ hx hb hr hlocks hS dX2_decode_20 ⟨hP, hD⟩
  · have tc_2 : ¬ r_1.toInt = (-1) := v_ne c_2
    refine lv_iload_n hx hb dX2_decode_13 rfl (lv_at hl 4 rfl) ?_
    refine lv_iload hx hb dX2_decode_14 (lv_at hl 5 rfl) ?_
    refine lv_icmp_lt (tgt := 21) hx hb dX2_decode_16 (by decide) (fun c_3 => ?_) (fun c_3 => ?_)
    · have tc_3 : fr.toInt < en.toInt := v_lt c_3
      have rw3_0 := v_rng fr
      have rw3_1 := v_rng en
      refine lv_aload_n hx hb dX2_decode_21 rfl (lv_at hl 1 rfl) ?_
      refine lv_iload_n hx hb dX2_decode_22 rfl (lv_at hl 2 rfl) ?_
      refine lv_iload hx hb dX2_decode_23 (lv_at hl 0 rfl) ?_
      refine kV_i (rest := []) (q0 := 0) (ci := 2) hcf (m_X2_letterAlone l dC dI cI cS H.size oC o4 o5 a41 a42 a43 a51 a52 a53 l4 f41 l5 f51 cd r_1 ) kc_X2_letterAlone gX2_decode_X2_letterAlone rfl rfl rfl ⟨Nat.le_of_ble_eq_true rfl, Nat.le_of_ble_eq_true rfl⟩ kX_t hK hP hD hS hA [0, 1, 2, 3, 4] [5, 6] rfl (by decide +kernel) rfl rfl rfl hl rfl (Nat.le_of_ble_eq_true rfl) dX2_decode_25 ⟨Nat.le_of_ble_eq_true rfl, Nat.le_of_ble_eq_true rfl⟩ (fun r_4 H locs hB hJ hSn => ?_)
      obtain ⟨hP1, hD1⟩ := hB
      obtain ⟨hPn, hDn⟩ := hJ _ hP1 hD1 [(nu, .inr (5, [.ref au, .int lu])), (au, .inl (cI, cap, .inl fu)), (oC, .inr (2, [.ref o4, .ref o5])), (o4, .inr (10, [.ref a41, .ref a42, .ref a43, .int l4])), (a41, .inl (cI, 256, .inl f41)), (o5, .inr (10, [.ref a51, .ref a52, .ref a53, .int l5])), (a51, .inl (cI, 256, .inl f51))] rfl
      clear hP hD hS hJ hP1 hD1
      have hP := hPn
      have hD := hDn
      have hS := hSn
      clear hPn hDn hSn
      refine lv_istore (lv' := [(6, .int r_4), (5, .int r_1), (0, .ref oC), (1, .int cd), (2, .ref nu), (3, .int fr), (4, .int en)]) hx hb dX2_decode_28 hl (by decide) rfl (fun ls hl => ?_)
      refine lv_iload hx hb dX2_decode_30 (lv_at hl 0 rfl) ?_
      refine lv_iconst (v := (-1)) hx hb dX2_decode_32 (by decide) ?_
      refine lv_icmp_eq (tgt := 43) hx hb dX2_decode_33 (by decide) (fun c_5 => ?_) (fun c_5 => ?_)
      · have tc_5 : r_4.toInt = (-1) := v_eq c_5
        refine lv_iload_n hx hb dX2_decode_43 rfl (lv_at hl 3 rfl) ?_
        refine lv_iconst (v := 2) hx hb dX2_decode_44 (by decide) ?_
        refine lv_icmp_ne (tgt := 56) hx hb dX2_decode_45 (by decide) (fun c_6 => ?_) (fun c_6 => ?_)
        · have tc_6 : ¬ cd.toInt = 2 := v_ne c_6
          refine lv_iload_n hx hb dX2_decode_56 rfl (lv_at hl 3 rfl) ?_
          refine lv_iconst (v := 3) hx hb dX2_decode_57 (by decide) ?_
          refine lv_icmp_ne (tgt := 71) hx hb dX2_decode_58 (by decide) (fun c_7 => ?_) (fun c_7 => ?_)
          · have tc_7 : ¬ cd.toInt = 3 := v_ne c_7
            refine lv_iconst (v := (-1)) hx hb dX2_decode_71 (by decide) ?_
            exact kl_i (v := (-1)) hQQ hx hb hr hlocks hS dX2_decode_72 (kPD_sub hP hD [2, 3, 4, 5, 6, 0, 1] (by decide +kernel) rfl)
          · have tc_7 : cd.toInt = 3 := v_eq c_7
            refine lv_aload_n hx hb dX2_decode_61 rfl (lv_at hl 4 rfl) ?_
            refine lv_iload_n hx hb dX2_decode_62 rfl (lv_at hl 5 rfl) ?_
            refine lv_iload hx hb dX2_decode_63 (lv_at hl 6 rfl) ?_
            refine kS_i (rest := []) hcf (m_X2_decodeNumber l dC dI cI cS H.size nu au cap lu fu fr en (g_lu) (by omega)) kc_X2_decodeNumber gX2_decode_X2_decodeNumber rfl rfl ⟨Nat.le_of_ble_eq_true rfl, Nat.le_of_ble_eq_true rfl⟩ (kX_1 hN52) hK hP hD hS hA [0, 1] [2, 3, 4, 5, 6] rfl (by decide +kernel) rfl hl rfl (Nat.le_of_ble_eq_true rfl) dX2_decode_65 ⟨Nat.le_of_ble_eq_true rfl, Nat.le_of_ble_eq_true rfl⟩ (fun r_8 H locs hB hJ hSn => ?_)
            obtain ⟨hP1, hD1⟩ := hB
            obtain ⟨hPn, hDn⟩ := hJ _ hP1 hD1 [(oC, .inr (2, [.ref o4, .ref o5])), (o4, .inr (10, [.ref a41, .ref a42, .ref a43, .int l4])), (a41, .inl (cI, 256, .inl f41)), (o5, .inr (10, [.ref a51, .ref a52, .ref a53, .int l5])), (a51, .inl (cI, 256, .inl f51)), (nu, .inr (5, [.ref au, .int lu])), (au, .inl (cI, cap, .inl fu))] rfl
            clear hP hD hS hJ hP1 hD1
            have hP := hPn
            have hD := hDn
            have hS := hSn
            clear hPn hDn hSn
            refine lv_goto (tgt := 72) hx hb dX2_decode_68 (by decide) ?_
            exact kl_i (v := r_8) hQQ hx hb hr hlocks hS dX2_decode_72 ⟨hP, hD⟩
        · have tc_6 : cd.toInt = 2 := v_eq c_6
          refine lv_aload_n hx hb dX2_decode_48 rfl (lv_at hl 4 rfl) ?_
          refine lv_iload_n hx hb dX2_decode_49 rfl (lv_at hl 5 rfl) ?_
          refine lv_iload hx hb dX2_decode_50 (lv_at hl 6 rfl) ?_
          refine kS_i (rest := []) hcf (m_X2_decodeMany l dC dI cI cS H.size nu au cap lu fu fr en (g_lu) (by omega)) kc_X2_decodeMany gX2_decode_X2_decodeMany rfl rfl ⟨Nat.le_of_ble_eq_true rfl, Nat.le_of_ble_eq_true rfl⟩ (kX_1 hN52) hK hP hD hS hA [0, 1] [2, 3, 4, 5, 6] rfl (by decide +kernel) rfl hl rfl (Nat.le_of_ble_eq_true rfl) dX2_decode_52 ⟨Nat.le_of_ble_eq_true rfl, Nat.le_of_ble_eq_true rfl⟩ (fun r_9 H locs hB hJ hSn => ?_)
          obtain ⟨hP1, hD1⟩ := hB
          obtain ⟨hPn, hDn⟩ := hJ _ hP1 hD1 [(oC, .inr (2, [.ref o4, .ref o5])), (o4, .inr (10, [.ref a41, .ref a42, .ref a43, .int l4])), (a41, .inl (cI, 256, .inl f41)), (o5, .inr (10, [.ref a51, .ref a52, .ref a53, .int l5])), (a51, .inl (cI, 256, .inl f51)), (nu, .inr (5, [.ref au, .int lu])), (au, .inl (cI, cap, .inl fu))] rfl
          clear hP hD hS hJ hP1 hD1
          have hP := hPn
          have hD := hDn
          have hS := hSn
          clear hPn hDn hSn
          exact kl_i (v := r_9) hQQ hx hb hr hlocks hS dX2_decode_55 ⟨hP, hD⟩
      · have tc_5 : ¬ r_4.toInt = (-1) := v_ne c_5
        refine lv_iload hx hb dX2_decode_36 (lv_at hl 0 rfl) ?_
        refine lv_iconst (v := 1) hx hb dX2_decode_38 (by decide) ?_
        refine kS_i (rest := []) hcf (m_X2_found l dC dI cI cS H.size r_4 1 ) kc_X2_found gX2_decode_X2_found rfl rfl ⟨Nat.le_of_ble_eq_true rfl, Nat.le_of_ble_eq_true rfl⟩ kX_t hK hP hD hS hA [] [0, 1, 2, 3, 4, 5, 6] rfl (by decide +kernel) rfl hl rfl (Nat.le_of_ble_eq_true rfl) dX2_decode_39 ⟨Nat.le_of_ble_eq_true rfl, Nat.le_of_ble_eq_true rfl⟩ (fun r_10 H locs hB hJ hSn => ?_)
        obtain ⟨hP1, hD1⟩ := hB
        obtain ⟨hPn, hDn⟩ := hJ _ hP1 hD1 [(nu, .inr (5, [.ref au, .int lu])), (au, .inl (cI, cap, .inl fu)), (oC, .inr (2, [.ref o4, .ref o5])), (o4, .inr (10, [.ref a41, .ref a42, .ref a43, .int l4])), (a41, .inl (cI, 256, .inl f41)), (o5, .inr (10, [.ref a51, .ref a52, .ref a53, .int l5])), (a51, .inl (cI, 256, .inl f51))] rfl
        clear hP hD hS hJ hP1 hD1
        have hP := hPn
        have hD := hDn
        have hS := hSn
        clear hPn hDn hSn
        exact kl_i (v := r_10) hQQ hx hb hr hlocks hS dX2_decode_42 (kPD_sub hP hD [2, 3, 4, 5, 6, 0, 1] (by decide +kernel) rfl)
    · have tc_3 : en.toInt ≤ fr.toInt := v_nlt c_3
      have rw3_0 := v_rng fr
      have rw3_1 := v_rng en
      refine lv_iconst (v := (-1)) hx hb dX2_decode_19 (by decide) ?_
      exact kl_i (v := (-1)) hQQ hx hb hr hlocks hS dX2_decode_20 ⟨hP, hD⟩

set_option maxHeartbeats 40000000 in
set_option maxRecDepth 100000 in
theorem m_X2_encodeMany (l : Launch) (dC : Nat → ClassId) (dI : Nat → Nat → Nat) (cI cS : ClassId) (sz : Nat) (nu : Nat) (au : Nat) (cap : Nat) (lu : Int32) (fu : Nat → Int32) (le : Int32) (g_lu : 0 ≤ lu.toInt ∧ lu.toInt ≤ (cap : Int)) (hcap : cap ≤ 2400) : kMi l yX2_encodeMany wsX2_encodeMany ({ frames := 1, cells := 0, slots := 0, locals := 21 } : Room) [.int le, .ref nu] sz (dC, dI) vwCl [(cI, .int), (cS, .short)] [(nu, .inr (5, [.ref au, .int lu])), (au, .inl (cI, cap, .inl fu))] (fun _ => True) 0 0 (fun (A : Nat → Prop) (r : Int32) (hh9 : Heap) => ∃ (lu' : Int32) (fu' : Nat → Int32), kPD (dC, dI) vwCl A [(nu, .inr (5, [.ref au, .int lu'])), (au, .inl (cI, cap, .inl fu'))] hh9 ∧ (0 ≤ lu'.toInt ∧ lu'.toInt ≤ (cap : Int)) ∧ (0 ≤ r.toInt ∧ r.toInt ≤ 1)) := by
  refine kMi_of (cc := cX2_encodeMany) (maxL := 3) (ret := (some .boolean)) (lv := [(0, .int le), (1, .ref nu)]) (by decide +kernel) rfl rfl (Nat.le_of_ble_eq_true rfl) ?_
  intro p e s m below meth c A QQ ls hx hb hr hts hml hown hlocks hA hQQ hK hX hP hD hS hl
  have hown : s.vm.findClass RX2 = some m.cls := hown
  have hcf := k_cf hx hb hml hown hts
  refine lv_iload_n hx hb dX2_encodeMany_0 rfl (lv_at hl 0 rfl) ?_
  refine lv_sipush (v := 128) hx hb dX2_encodeMany_1 (by decide) ?_
  refine lv_icmp_ge (tgt := 13) hx hb dX2_encodeMany_4 (by decide) (fun c_1 => ?_) (fun c_1 => ?_)
  · have tc_1 : 128 ≤ le.toInt := v_le c_1
    refine lv_iload_n hx hb dX2_encodeMany_13 rfl (lv_at hl 0 rfl) ?_
    refine lv_sipush (v := 2048) hx hb dX2_encodeMany_14 (by decide) ?_
    refine lv_icmp_ge (tgt := 36) hx hb dX2_encodeMany_17 (by decide) (fun c_2 => ?_) (fun c_2 => ?_)
    · have tc_2 : 2048 ≤ le.toInt := v_le c_2
      refine lv_aload_n hx hb dX2_encodeMany_36 rfl (lv_at hl 1 rfl) ?_
      refine lv_sipush (v := 224) hx hb dX2_encodeMany_37 (by decide) ?_
      refine lv_iload_n hx hb dX2_encodeMany_40 rfl (lv_at hl 0 rfl) ?_
      refine lv_bipush (v := 12) hx hb dX2_encodeMany_41 (by decide) ?_
      refine lv_ishr hx hb dX2_encodeMany_43 ?_
      refine lv_topi (fun x_3 ex_3 => ?_)
      have rv3_0 := v_rng le
      have tx_3 : x_3.toInt = le.toInt / 4096 := v_shr 12 ex_3 (by decide)
      refine lv_iadd hx hb dX2_encodeMany_44 ?_
      refine lv_topi (fun x_4 ex_4 => ?_)
      have tx_4 : x_4.toInt = 224 + x_3.toInt := v_add ex_4 (by show -2147483648 ≤ 224 + x_3.toInt; omega) (by show 224 + x_3.toInt < 2147483648; omega)
      refine kV_i (rest := []) (q0 := 0) (ci := 5) hcf (m_X5_add l dC dI cI cS s.heap.size nu au cap lu fu x_4 (g_lu) (by omega)) kc_X5_add gX2_encodeMany_X5_add rfl rfl rfl ⟨Nat.le_of_ble_eq_true rfl, Nat.le_of_ble_eq_true rfl⟩ kX_t hK hP hD hS hA [0, 1] [] rfl (by decide +kernel) rfl rfl rfl hl rfl (Nat.le_of_ble_eq_true rfl) dX2_encodeMany_45 ⟨Nat.le_of_ble_eq_true rfl, Nat.le_of_ble_eq_true rfl⟩ (fun r_5 H locs hB hJ hSn => ?_)
      obtain ⟨lu_5, fu_5, ⟨hP1, hD1⟩, hf5_0, hf5_1, hf5_2⟩ := hB
      obtain ⟨hPn, hDn⟩ := hJ _ hP1 hD1 [(nu, .inr (5, [.ref au, .int lu_5])), (au, .inl (cI, cap, .inl fu_5))] rfl
      clear hP hD hS hJ hP1 hD1
      have hP := hPn
      have hD := hDn
      have hS := hSn
      clear hPn hDn hSn
      refine lv_if_eq (tgt := 73) hx hb dX2_encodeMany_48 (by decide) (fun c_6 => ?_) (fun c_6 => ?_)
      · have tc_6 : r_5.toInt = 0 := v_eq c_6
        refine lv_iconst (v := 0) hx hb dX2_encodeMany_73 (by decide) ?_
        refine lv_istore_n (lv' := [(2, .int 0), (0, .int le), (1, .ref nu)]) hx hb dX2_encodeMany_74 rfl hl (by decide) rfl (fun ls hl => ?_)
        refine lv_iload_n hx hb dX2_encodeMany_75 rfl (lv_at hl 0 rfl) ?_
        refine lv_if_eq (tgt := 98) hx hb dX2_encodeMany_76 (by decide) (fun c_7 => ?_) (fun c_7 => absurd c_7 (by decide))
        refine lv_iconst (v := 0) hx hb dX2_encodeMany_98 (by decide) ?_
        exact kl_z (v := 0) hQQ hx hb hr hlocks hS dX2_encodeMany_99 (rfl) ⟨lu_5, fu_5, ⟨hP, hD⟩, hf5_0, by decide⟩
      · have tc_6 : ¬ r_5.toInt = 0 := v_ne c_6
        refine lv_aload_n hx hb dX2_encodeMany_51 rfl (lv_at hl 1 rfl) ?_
        refine lv_sipush (v := 128) hx hb dX2_encodeMany_52 (by decide) ?_
        refine lv_iload_n hx hb dX2_encodeMany_55 rfl (lv_at hl 0 rfl) ?_
        refine lv_bipush (v := 6) hx hb dX2_encodeMany_56 (by decide) ?_
        refine lv_ishr hx hb dX2_encodeMany_58 ?_
        refine lv_topi (fun x_8 ex_8 => ?_)
        have tx_8 : x_8.toInt = le.toInt / 64 := v_shr 6 ex_8 (by decide)
        refine lv_bipush (v := 63) hx hb dX2_encodeMany_59 (by decide) ?_
        refine lv_iand hx hb dX2_encodeMany_61 ?_
        refine lv_topi (fun x_9 ex_9 => ?_)
        have tx_9 : 0 ≤ x_9.toInt ∧ x_9.toInt < 64 := v_and 6 ex_9 (by decide) (by decide)
        refine lv_iadd hx hb dX2_encodeMany_62 ?_
        refine lv_topi (fun x_10 ex_10 => ?_)
        have tx_10 : x_10.toInt = 128 + x_9.toInt := v_add ex_10 (by show -2147483648 ≤ 128 + x_9.toInt; omega) (by show 128 + x_9.toInt < 2147483648; omega)
        refine kV_i (rest := []) (q0 := 0) (ci := 5) hcf (m_X5_add l dC dI cI cS H.size nu au cap lu_5 fu_5 x_10 (hf5_0) (by omega)) kc_X5_add gX2_encodeMany_X5_add rfl rfl rfl ⟨Nat.le_of_ble_eq_true rfl, Nat.le_of_ble_eq_true rfl⟩ kX_t hK hP hD hS hA [0, 1] [] rfl (by decide +kernel) rfl rfl rfl hl rfl (Nat.le_of_ble_eq_true rfl) dX2_encodeMany_63 ⟨Nat.le_of_ble_eq_true rfl, Nat.le_of_ble_eq_true rfl⟩ (fun r_11 H locs hB hJ hSn => ?_)
        obtain ⟨lu_11, fu_11, ⟨hP1, hD1⟩, hf11_0, hf11_1, hf11_2⟩ := hB
        obtain ⟨hPn, hDn⟩ := hJ _ hP1 hD1 [(nu, .inr (5, [.ref au, .int lu_11])), (au, .inl (cI, cap, .inl fu_11))] rfl
        clear hP hD hS hJ hP1 hD1
        have hP := hPn
        have hD := hDn
        have hS := hSn
        clear hPn hDn hSn
        refine lv_if_eq (tgt := 73) hx hb dX2_encodeMany_66 (by decide) (fun c_12 => ?_) (fun c_12 => ?_)
        · have tc_12 : r_11.toInt = 0 := v_eq c_12
          refine lv_iconst (v := 0) hx hb dX2_encodeMany_73 (by decide) ?_
          refine lv_istore_n (lv' := [(2, .int 0), (0, .int le), (1, .ref nu)]) hx hb dX2_encodeMany_74 rfl hl (by decide) rfl (fun ls hl => ?_)
          refine lv_iload_n hx hb dX2_encodeMany_75 rfl (lv_at hl 0 rfl) ?_
          refine lv_if_eq (tgt := 98) hx hb dX2_encodeMany_76 (by decide) (fun c_13 => ?_) (fun c_13 => absurd c_13 (by decide))
          refine lv_iconst (v := 0) hx hb dX2_encodeMany_98 (by decide) ?_
          exact kl_z (v := 0) hQQ hx hb hr hlocks hS dX2_encodeMany_99 (rfl) ⟨lu_11, fu_11, ⟨hP, hD⟩, hf11_0, by decide⟩
        · have tc_12 : ¬ r_11.toInt = 0 := v_ne c_12
          refine lv_iconst (v := 1) hx hb dX2_encodeMany_69 (by decide) ?_
          refine lv_goto (tgt := 74) hx hb dX2_encodeMany_70 (by decide) ?_
          refine lv_istore_n (lv' := [(2, .int 1), (0, .int le), (1, .ref nu)]) hx hb dX2_encodeMany_74 rfl hl (by decide) rfl (fun ls hl => ?_)
          refine lv_iload_n hx hb dX2_encodeMany_75 rfl (lv_at hl 0 rfl) ?_
          refine lv_if_eq (tgt := 98) hx hb dX2_encodeMany_76 (by decide) (fun c_14 => absurd c_14 (by decide)) (fun c_14 => ?_)
          refine lv_aload_n hx hb dX2_encodeMany_79 rfl (lv_at hl 2 rfl) ?_
          refine lv_sipush (v := 128) hx hb dX2_encodeMany_80 (by decide) ?_
          refine lv_iload_n hx hb dX2_encodeMany_83 rfl (lv_at hl 1 rfl) ?_
          refine lv_bipush (v := 63) hx hb dX2_encodeMany_84 (by decide) ?_
          refine lv_iand hx hb dX2_encodeMany_86 ?_
          refine lv_topi (fun x_15 ex_15 => ?_)
          have tx_15 : 0 ≤ x_15.toInt ∧ x_15.toInt < 64 := v_and 6 ex_15 (by decide) (by decide)
          refine lv_iadd hx hb dX2_encodeMany_87 ?_
          refine lv_topi (fun x_16 ex_16 => ?_)
          have tx_16 : x_16.toInt = 128 + x_15.toInt := v_add ex_16 (by show -2147483648 ≤ 128 + x_15.toInt; omega) (by show 128 + x_15.toInt < 2147483648; omega)
          refine kV_i (rest := []) (q0 := 0) (ci := 5) hcf (m_X5_add l dC dI cI cS H.size nu au cap lu_11 fu_11 x_16 (hf11_0) (by omega)) kc_X5_add gX2_encodeMany_X5_add rfl rfl rfl ⟨Nat.le_of_ble_eq_true rfl, Nat.le_of_ble_eq_true rfl⟩ kX_t hK hP hD hS hA [0, 1] [] rfl (by decide +kernel) rfl rfl rfl hl rfl (Nat.le_of_ble_eq_true rfl) dX2_encodeMany_88 ⟨Nat.le_of_ble_eq_true rfl, Nat.le_of_ble_eq_true rfl⟩ (fun r_17 H locs hB hJ hSn => ?_)
          obtain ⟨lu_17, fu_17, ⟨hP1, hD1⟩, hf17_0, hf17_1, hf17_2⟩ := hB
          obtain ⟨hPn, hDn⟩ := hJ _ hP1 hD1 [(nu, .inr (5, [.ref au, .int lu_17])), (au, .inl (cI, cap, .inl fu_17))] rfl
          clear hP hD hS hJ hP1 hD1
          have hP := hPn
          have hD := hDn
          have hS := hSn
          clear hPn hDn hSn
          refine lv_if_eq (tgt := 98) hx hb dX2_encodeMany_91 (by decide) (fun c_18 => ?_) (fun c_18 => ?_)
          · have tc_18 : r_17.toInt = 0 := v_eq c_18
            refine lv_iconst (v := 0) hx hb dX2_encodeMany_98 (by decide) ?_
            exact kl_z (v := 0) hQQ hx hb hr hlocks hS dX2_encodeMany_99 (rfl) ⟨lu_17, fu_17, ⟨hP, hD⟩, hf17_0, by decide⟩
          · have tc_18 : ¬ r_17.toInt = 0 := v_ne c_18
            refine lv_iconst (v := 1) hx hb dX2_encodeMany_94 (by decide) ?_
            refine lv_goto (tgt := 99) hx hb dX2_encodeMany_95 (by decide) ?_
            exact kl_z (v := 1) hQQ hx hb hr hlocks hS dX2_encodeMany_99 (rfl) ⟨lu_17, fu_17, ⟨hP, hD⟩, hf17_0, by decide⟩
    · have tc_2 : le.toInt < 2048 := v_nle c_2
      refine lv_aload_n hx hb dX2_encodeMany_20 rfl (lv_at hl 1 rfl) ?_
      refine lv_sipush (v := 192) hx hb dX2_encodeMany_21 (by decide) ?_
      refine lv_iload_n hx hb dX2_encodeMany_24 rfl (lv_at hl 0 rfl) ?_
      refine lv_bipush (v := 6) hx hb dX2_encodeMany_25 (by decide) ?_
      refine lv_ishr hx hb dX2_encodeMany_27 ?_
      refine lv_topi (fun x_19 ex_19 => ?_)
      have tx_19 : x_19.toInt = le.toInt / 64 := v_shr 6 ex_19 (by decide)
      refine lv_iadd hx hb dX2_encodeMany_28 ?_
      refine lv_topi (fun x_20 ex_20 => ?_)
      have tx_20 : x_20.toInt = 192 + x_19.toInt := v_add ex_20 (by show -2147483648 ≤ 192 + x_19.toInt; omega) (by show 192 + x_19.toInt < 2147483648; omega)
      refine kV_i (rest := []) (q0 := 0) (ci := 5) hcf (m_X5_add l dC dI cI cS s.heap.size nu au cap lu fu x_20 (g_lu) (by omega)) kc_X5_add gX2_encodeMany_X5_add rfl rfl rfl ⟨Nat.le_of_ble_eq_true rfl, Nat.le_of_ble_eq_true rfl⟩ kX_t hK hP hD hS hA [0, 1] [] rfl (by decide +kernel) rfl rfl rfl hl rfl (Nat.le_of_ble_eq_true rfl) dX2_encodeMany_29 ⟨Nat.le_of_ble_eq_true rfl, Nat.le_of_ble_eq_true rfl⟩ (fun r_21 H locs hB hJ hSn => ?_)
      obtain ⟨lu_21, fu_21, ⟨hP1, hD1⟩, hf21_0, hf21_1, hf21_2⟩ := hB
      obtain ⟨hPn, hDn⟩ := hJ _ hP1 hD1 [(nu, .inr (5, [.ref au, .int lu_21])), (au, .inl (cI, cap, .inl fu_21))] rfl
      clear hP hD hS hJ hP1 hD1
      have hP := hPn
      have hD := hDn
      have hS := hSn
      clear hPn hDn hSn
      refine lv_istore_n (lv' := [(2, .int r_21), (0, .int le), (1, .ref nu)]) hx hb dX2_encodeMany_32 rfl hl (by decide) rfl (fun ls hl => ?_)
      refine lv_goto (tgt := 75) hx hb dX2_encodeMany_33 (by decide) ?_
      refine lv_iload_n hx hb dX2_encodeMany_75 rfl (lv_at hl 0 rfl) ?_
      refine lv_if_eq (tgt := 98) hx hb dX2_encodeMany_76 (by decide) (fun c_22 => ?_) (fun c_22 => ?_)
      · have tc_22 : r_21.toInt = 0 := v_eq c_22
        refine lv_iconst (v := 0) hx hb dX2_encodeMany_98 (by decide) ?_
        exact kl_z (v := 0) hQQ hx hb hr hlocks hS dX2_encodeMany_99 (rfl) ⟨lu_21, fu_21, ⟨hP, hD⟩, hf21_0, by decide⟩
      · have tc_22 : ¬ r_21.toInt = 0 := v_ne c_22
        refine lv_aload_n hx hb dX2_encodeMany_79 rfl (lv_at hl 2 rfl) ?_
        refine lv_sipush (v := 128) hx hb dX2_encodeMany_80 (by decide) ?_
        refine lv_iload_n hx hb dX2_encodeMany_83 rfl (lv_at hl 1 rfl) ?_
        refine lv_bipush (v := 63) hx hb dX2_encodeMany_84 (by decide) ?_
        refine lv_iand hx hb dX2_encodeMany_86 ?_
        refine lv_topi (fun x_23 ex_23 => ?_)
        have tx_23 : 0 ≤ x_23.toInt ∧ x_23.toInt < 64 := v_and 6 ex_23 (by decide) (by decide)
        refine lv_iadd hx hb dX2_encodeMany_87 ?_
        refine lv_topi (fun x_24 ex_24 => ?_)
        have tx_24 : x_24.toInt = 128 + x_23.toInt := v_add ex_24 (by show -2147483648 ≤ 128 + x_23.toInt; omega) (by show 128 + x_23.toInt < 2147483648; omega)
        refine kV_i (rest := []) (q0 := 0) (ci := 5) hcf (m_X5_add l dC dI cI cS H.size nu au cap lu_21 fu_21 x_24 (hf21_0) (by omega)) kc_X5_add gX2_encodeMany_X5_add rfl rfl rfl ⟨Nat.le_of_ble_eq_true rfl, Nat.le_of_ble_eq_true rfl⟩ kX_t hK hP hD hS hA [0, 1] [] rfl (by decide +kernel) rfl rfl rfl hl rfl (Nat.le_of_ble_eq_true rfl) dX2_encodeMany_88 ⟨Nat.le_of_ble_eq_true rfl, Nat.le_of_ble_eq_true rfl⟩ (fun r_25 H locs hB hJ hSn => ?_)
        obtain ⟨lu_25, fu_25, ⟨hP1, hD1⟩, hf25_0, hf25_1, hf25_2⟩ := hB
        obtain ⟨hPn, hDn⟩ := hJ _ hP1 hD1 [(nu, .inr (5, [.ref au, .int lu_25])), (au, .inl (cI, cap, .inl fu_25))] rfl
        clear hP hD hS hJ hP1 hD1
        have hP := hPn
        have hD := hDn
        have hS := hSn
        clear hPn hDn hSn
        refine lv_if_eq (tgt := 98) hx hb dX2_encodeMany_91 (by decide) (fun c_26 => ?_) (fun c_26 => ?_)
        · have tc_26 : r_25.toInt = 0 := v_eq c_26
          refine lv_iconst (v := 0) hx hb dX2_encodeMany_98 (by decide) ?_
          exact kl_z (v := 0) hQQ hx hb hr hlocks hS dX2_encodeMany_99 (rfl) ⟨lu_25, fu_25, ⟨hP, hD⟩, hf25_0, by decide⟩
        · have tc_26 : ¬ r_25.toInt = 0 := v_ne c_26
          refine lv_iconst (v := 1) hx hb dX2_encodeMany_94 (by decide) ?_
          refine lv_goto (tgt := 99) hx hb dX2_encodeMany_95 (by decide) ?_
          exact kl_z (v := 1) hQQ hx hb hr hlocks hS dX2_encodeMany_99 (rfl) ⟨lu_25, fu_25, ⟨hP, hD⟩, hf25_0, by decide⟩
  · have tc_1 : le.toInt < 128 := v_nle c_1
    refine lv_aload_n hx hb dX2_encodeMany_7 rfl (lv_at hl 1 rfl) ?_
    refine lv_iload_n hx hb dX2_encodeMany_8 rfl (lv_at hl 0 rfl) ?_
    refine kV_i (rest := []) (q0 := 0) (ci := 5) hcf (m_X5_add l dC dI cI cS s.heap.size nu au cap lu fu le (g_lu) (by omega)) kc_X5_add gX2_encodeMany_X5_add rfl rfl rfl ⟨Nat.le_of_ble_eq_true rfl, Nat.le_of_ble_eq_true rfl⟩ kX_t hK hP hD hS hA [0, 1] [] rfl (by decide +kernel) rfl rfl rfl hl rfl (Nat.le_of_ble_eq_true rfl) dX2_encodeMany_9 ⟨Nat.le_of_ble_eq_true rfl, Nat.le_of_ble_eq_true rfl⟩ (fun r_27 H locs hB hJ hSn => ?_)
    obtain ⟨lu_27, fu_27, ⟨hP1, hD1⟩, hf27_0, hf27_1, hf27_2⟩ := hB
    obtain ⟨hPn, hDn⟩ := hJ _ hP1 hD1 [(nu, .inr (5, [.ref au, .int lu_27])), (au, .inl (cI, cap, .inl fu_27))] rfl
    clear hP hD hS hJ hP1 hD1
    have hP := hPn
    have hD := hDn
    have hS := hSn
    clear hPn hDn hSn
    exact kl_z (v := r_27) hQQ hx hb hr hlocks hS dX2_encodeMany_12 (v_bool (by omega)) ⟨lu_27, fu_27, ⟨hP, hD⟩, hf27_0, hf27_1⟩

set_option maxHeartbeats 40000000 in
set_option maxRecDepth 100000 in
theorem m_X2_encodeNumber (l : Launch) (dC : Nat → ClassId) (dI : Nat → Nat → Nat) (cI cS : ClassId) (sz : Nat) (nu : Nat) (au : Nat) (cap : Nat) (lu : Int32) (fu : Nat → Int32) (le : Int32) (g_lu : 0 ≤ lu.toInt ∧ lu.toInt ≤ (cap : Int)) (hcap : cap ≤ 2400) : kMi l yX2_encodeNumber wsX2_encodeNumber ({ frames := 1, cells := 0, slots := 0, locals := 21 } : Room) [.int le, .ref nu] sz (dC, dI) vwCl [(cI, .int), (cS, .short)] [(nu, .inr (5, [.ref au, .int lu])), (au, .inl (cI, cap, .inl fu))] (fun _ => True) 0 0 (fun (A : Nat → Prop) (r : Int32) (hh9 : Heap) => ∃ (lu' : Int32) (fu' : Nat → Int32), kPD (dC, dI) vwCl A [(nu, .inr (5, [.ref au, .int lu'])), (au, .inl (cI, cap, .inl fu'))] hh9 ∧ (0 ≤ lu'.toInt ∧ lu'.toInt ≤ (cap : Int)) ∧ (0 ≤ r.toInt ∧ r.toInt ≤ 1)) := by
  refine kMi_of (cc := cX2_encodeNumber) (maxL := 6) (ret := (some .boolean)) (lv := [(0, .int le), (1, .ref nu)]) (by decide +kernel) rfl rfl (Nat.le_of_ble_eq_true rfl) ?_
  intro p e s m below meth c A QQ ls hx hb hr hts hml hown hlocks hA hQQ hK hX hP hD hS hl
  have hown : s.vm.findClass RX2 = some m.cls := hown
  have hcf := k_cf hx hb hml hown hts
  refine lv_aload_n hx hb dX2_encodeNumber_0 rfl (lv_at hl 1 rfl) ?_
  refine lv_bipush (v := 38) hx hb dX2_encodeNumber_1 (by decide) ?_
  refine kV_i (rest := []) (q0 := 0) (ci := 5) hcf (m_X5_add l dC dI cI cS s.heap.size nu au cap lu fu 38 (g_lu) (by omega)) kc_X5_add gX2_encodeNumber_X5_add rfl rfl rfl ⟨Nat.le_of_ble_eq_true rfl, Nat.le_of_ble_eq_true rfl⟩ kX_t hK hP hD hS hA [0, 1] [] rfl (by decide +kernel) rfl rfl rfl hl rfl (Nat.le_of_ble_eq_true rfl) dX2_encodeNumber_3 ⟨Nat.le_of_ble_eq_true rfl, Nat.le_of_ble_eq_true rfl⟩ (fun r_1 H locs hB hJ hSn => ?_)
  obtain ⟨lu_1, fu_1, ⟨hP1, hD1⟩, hf1_0, hf1_1, hf1_2⟩ := hB
  obtain ⟨hPn, hDn⟩ := hJ _ hP1 hD1 [(nu, .inr (5, [.ref au, .int lu_1])), (au, .inl (cI, cap, .inl fu_1))] rfl
  clear hP hD hS hJ hP1 hD1
  have hP := hPn
  have hD := hDn
  have hS := hSn
  clear hPn hDn hSn
  refine lv_if_eq (tgt := 22) hx hb dX2_encodeNumber_6 (by decide) (fun c_2 => ?_) (fun c_2 => ?_)
  · have tc_2 : r_1.toInt = 0 := v_eq c_2
    refine lv_iconst (v := 0) hx hb dX2_encodeNumber_22 (by decide) ?_
    refine lv_istore_n (lv' := [(2, .int 0), (0, .int le), (1, .ref nu)]) hx hb dX2_encodeNumber_23 rfl hl (by decide) rfl (fun ls hl => ?_)
    refine lv_iconst (v := 0) hx hb dX2_encodeNumber_24 (by decide) ?_
    refine lv_istore_n (lv' := [(3, .int 0), (2, .int 0), (0, .int le), (1, .ref nu)]) hx hb dX2_encodeNumber_25 rfl hl (by decide) rfl (fun ls hl => ?_)
    refine lv_sipush (v := 10000) hx hb dX2_encodeNumber_26 (by decide) ?_
    refine lv_istore (lv' := [(4, .int 10000), (3, .int 0), (2, .int 0), (0, .int le), (1, .ref nu)]) hx hb dX2_encodeNumber_29 hl (by decide) rfl (fun ls hl => ?_)
    have LOOP_31 : ∀ (k_31 : Nat) (gd : Int32) (bg : Int32) (un : Int32) (l2 : Int32) (f2 : Nat → Int32) (H : Heap) (locs : List Loc) (ls : Array Slot), MSd (un.toInt : Int) k_31 → (0 ≤ gd.toInt ∧ gd.toInt ≤ 1) → (0 ≤ bg.toInt ∧ bg.toInt ≤ 1) → (0 ≤ un.toInt ∧ un.toInt ≤ 10000) → (0 ≤ l2.toInt ∧ l2.toInt ≤ (cap : Int)) → va_P (dC, dI) vwCl [(nu, .inr (5, [.ref au, .int l2])), (au, .inl (cI, cap, .inl f2))] H → va_D A [(nu, .inr (5, [.ref au, .int l2])), (au, .inl (cI, cap, .inl f2))] → va_S A s.heap H locs → lv_has ls 6 [(4, .int un), (3, .int bg), (2, .int gd), (0, .int le), (1, .ref nu)] → W p l e (headSpec wsX2_encodeNumber ({ frames := 1, cells := 0, slots := 0, locals := 21 } : Room)).room s m ([.int le, .ref nu] : List Value).toArray below meth c H locs 0 0 (MQ below QQ ([.int le, .ref nu] : List Value).toArray s 0 0 A) (F0 m 31 ls []) := by
      clear hP hD hS hl
      intro k_31
      induction k_31 with
      | zero =>
        intro gd bg un l2 f2 H locs ls hm_31 g_gd g_bg g_un g_l2 hP hD hS hl
        exact ms_0 hm_31
      | succ k_31 ih_31 =>
        intro gd bg un l2 f2 H locs ls hm_31 g_gd g_bg g_un g_l2 hP hD hS hl
        refine lv_iload hx hb dX2_encodeNumber_31 (lv_at hl 0 rfl) ?_
        refine lv_if_le (tgt := 96) hx hb dX2_encodeNumber_33 (by decide) (fun c_3 => ?_) (fun c_3 => ?_)
        · have tc_3 : un.toInt ≤ 0 := v_le c_3
          refine lv_iload_n hx hb dX2_encodeNumber_96 rfl (lv_at hl 2 rfl) ?_
          refine lv_if_eq (tgt := 113) hx hb dX2_encodeNumber_97 (by decide) (fun c_4 => ?_) (fun c_4 => ?_)
          · have tc_4 : gd.toInt = 0 := v_eq c_4
            refine lv_iconst (v := 0) hx hb dX2_encodeNumber_113 (by decide) ?_
            exact kl_z (v := 0) hQQ hx hb hr hlocks hS dX2_encodeNumber_114 (rfl) ⟨l2, f2, ⟨hP, hD⟩, g_l2, by decide⟩
          · have tc_4 : ¬ gd.toInt = 0 := v_ne c_4
            refine lv_aload_n hx hb dX2_encodeNumber_100 rfl (lv_at hl 4 rfl) ?_
            refine lv_bipush (v := 59) hx hb dX2_encodeNumber_101 (by decide) ?_
            refine kV_i (rest := []) (q0 := 0) (ci := 5) hcf (m_X5_add l dC dI cI cS H.size nu au cap l2 f2 59 (g_l2) (by omega)) kc_X5_add gX2_encodeNumber_X5_add rfl rfl rfl ⟨Nat.le_of_ble_eq_true rfl, Nat.le_of_ble_eq_true rfl⟩ kX_t hK hP hD hS hA [0, 1] [] rfl (by decide +kernel) rfl rfl rfl hl rfl (Nat.le_of_ble_eq_true rfl) dX2_encodeNumber_103 ⟨Nat.le_of_ble_eq_true rfl, Nat.le_of_ble_eq_true rfl⟩ (fun r_5 H locs hB hJ hSn => ?_)
            obtain ⟨lu_5, fu_5, ⟨hP1, hD1⟩, hf5_0, hf5_1, hf5_2⟩ := hB
            obtain ⟨hPn, hDn⟩ := hJ _ hP1 hD1 [(nu, .inr (5, [.ref au, .int lu_5])), (au, .inl (cI, cap, .inl fu_5))] rfl
            clear hP hD hS hJ hP1 hD1
            have hP := hPn
            have hD := hDn
            have hS := hSn
            clear hPn hDn hSn
            refine lv_if_eq (tgt := 113) hx hb dX2_encodeNumber_106 (by decide) (fun c_6 => ?_) (fun c_6 => ?_)
            · have tc_6 : r_5.toInt = 0 := v_eq c_6
              refine lv_iconst (v := 0) hx hb dX2_encodeNumber_113 (by decide) ?_
              exact kl_z (v := 0) hQQ hx hb hr hlocks hS dX2_encodeNumber_114 (rfl) ⟨lu_5, fu_5, ⟨hP, hD⟩, hf5_0, by decide⟩
            · have tc_6 : ¬ r_5.toInt = 0 := v_ne c_6
              refine lv_iconst (v := 1) hx hb dX2_encodeNumber_109 (by decide) ?_
              refine lv_goto (tgt := 114) hx hb dX2_encodeNumber_110 (by decide) ?_
              exact kl_z (v := 1) hQQ hx hb hr hlocks hS dX2_encodeNumber_114 (rfl) ⟨lu_5, fu_5, ⟨hP, hD⟩, hf5_0, by decide⟩
        · have tc_3 : 0 < un.toInt := v_nle c_3
          refine lv_iload_n hx hb dX2_encodeNumber_36 rfl (lv_at hl 3 rfl) ?_
          refine lv_iload hx hb dX2_encodeNumber_37 (lv_at hl 0 rfl) ?_
          refine lv_idiv hx hb dX2_encodeNumber_39 (v_nz (by omega)) ?_
          refine lv_topi (fun x_7 ex_7 => ?_)
          refine lv_bipush (v := 10) hx hb dX2_encodeNumber_40 (by decide) ?_
          refine lv_irem hx hb dX2_encodeNumber_42 (by decide) ?_
          refine lv_topi (fun x_8 ex_8 => ?_)
          refine lv_istore (lv' := [(5, .int x_8), (4, .int un), (3, .int bg), (2, .int gd), (0, .int le), (1, .ref nu)]) hx hb dX2_encodeNumber_43 hl (by decide) rfl (fun ls hl => ?_)
          refine lv_iload_n hx hb dX2_encodeNumber_45 rfl (lv_at hl 2 rfl) ?_
          refine lv_if_ne (tgt := 54) hx hb dX2_encodeNumber_46 (by decide) (fun c_9 => ?_) (fun c_9 => ?_)
          · have tc_9 : ¬ bg.toInt = 0 := v_ne c_9
            refine lv_iconst (v := 1) hx hb dX2_encodeNumber_54 (by decide) ?_
            refine lv_goto (tgt := 59) hx hb dX2_encodeNumber_55 (by decide) ?_
            refine lv_istore_n (lv' := [(3, .int 1), (5, .int x_8), (4, .int un), (2, .int gd), (0, .int le), (1, .ref nu)]) hx hb dX2_encodeNumber_59 rfl hl (by decide) rfl (fun ls hl => ?_)
            refine lv_iload_n hx hb dX2_encodeNumber_60 rfl (lv_at hl 0 rfl) ?_
            refine lv_if_eq (tgt := 86) hx hb dX2_encodeNumber_61 (by decide) (fun c_10 => absurd c_10 (by decide)) (fun c_10 => ?_)
            refine lv_iload_n hx hb dX2_encodeNumber_64 rfl (lv_at hl 3 rfl) ?_
            refine lv_if_eq (tgt := 84) hx hb dX2_encodeNumber_65 (by decide) (fun c_11 => ?_) (fun c_11 => ?_)
            · have tc_11 : gd.toInt = 0 := v_eq c_11
              refine lv_iconst (v := 0) hx hb dX2_encodeNumber_84 (by decide) ?_
              refine lv_istore_n (lv' := [(2, .int 0), (3, .int 1), (5, .int x_8), (4, .int un), (0, .int le), (1, .ref nu)]) hx hb dX2_encodeNumber_85 rfl hl (by decide) rfl (fun ls hl => ?_)
              refine lv_iload hx hb dX2_encodeNumber_86 (lv_at hl 3 rfl) ?_
              refine lv_bipush (v := 10) hx hb dX2_encodeNumber_88 (by decide) ?_
              refine lv_idiv hx hb dX2_encodeNumber_90 (by decide) ?_
              refine lv_topi (fun x_12 ex_12 => ?_)
              have tx_12 : x_12.toInt = un.toInt / 10 := v_div ex_12 (by omega) (by decide)
              refine lv_istore (lv' := [(4, .int x_12), (2, .int 0), (3, .int 1), (5, .int x_8), (0, .int le), (1, .ref nu)]) hx hb dX2_encodeNumber_91 hl (by decide) rfl (fun ls hl => ?_)
              refine lv_goto (tgt := 31) hx hb dX2_encodeNumber_93 (by decide) ?_
              exact ih_31 0 1 x_12 l2 f2 _ _ _ (ms_lt hm_31 (by show ((x_12.toInt : Int)) < un.toInt; omega) (by show (0 : Int) < un.toInt; omega)) (by decide) (by decide) (by show 0 ≤ x_12.toInt ∧ x_12.toInt ≤ 10000; omega) (g_l2) hP hD hS (lv_sub hl [0, 2, 1, 4, 5] rfl)
            · have tc_11 : ¬ gd.toInt = 0 := v_ne c_11
              refine lv_aload_n hx hb dX2_encodeNumber_68 rfl (lv_at hl 5 rfl) ?_
              refine lv_bipush (v := 48) hx hb dX2_encodeNumber_69 (by decide) ?_
              refine lv_iload hx hb dX2_encodeNumber_71 (lv_at hl 1 rfl) ?_
              refine lv_iadd hx hb dX2_encodeNumber_73 ?_
              refine lv_topi (fun x_13 ex_13 => ?_)
              have rv13_1 := v_rng x_8
              refine kV_i (rest := []) (q0 := 0) (ci := 5) hcf (m_X5_add l dC dI cI cS H.size nu au cap l2 f2 x_13 (g_l2) (by omega)) kc_X5_add gX2_encodeNumber_X5_add rfl rfl rfl ⟨Nat.le_of_ble_eq_true rfl, Nat.le_of_ble_eq_true rfl⟩ kX_t hK hP hD hS hA [0, 1] [] rfl (by decide +kernel) rfl rfl rfl hl rfl (Nat.le_of_ble_eq_true rfl) dX2_encodeNumber_74 ⟨Nat.le_of_ble_eq_true rfl, Nat.le_of_ble_eq_true rfl⟩ (fun r_14 H locs hB hJ hSn => ?_)
              obtain ⟨lu_14, fu_14, ⟨hP1, hD1⟩, hf14_0, hf14_1, hf14_2⟩ := hB
              obtain ⟨hPn, hDn⟩ := hJ _ hP1 hD1 [(nu, .inr (5, [.ref au, .int lu_14])), (au, .inl (cI, cap, .inl fu_14))] rfl
              clear hP hD hS hJ hP1 hD1
              have hP := hPn
              have hD := hDn
              have hS := hSn
              clear hPn hDn hSn
              refine lv_if_eq (tgt := 84) hx hb dX2_encodeNumber_77 (by decide) (fun c_15 => ?_) (fun c_15 => ?_)
              · have tc_15 : r_14.toInt = 0 := v_eq c_15
                refine lv_iconst (v := 0) hx hb dX2_encodeNumber_84 (by decide) ?_
                refine lv_istore_n (lv' := [(2, .int 0), (3, .int 1), (5, .int x_8), (4, .int un), (0, .int le), (1, .ref nu)]) hx hb dX2_encodeNumber_85 rfl hl (by decide) rfl (fun ls hl => ?_)
                refine lv_iload hx hb dX2_encodeNumber_86 (lv_at hl 3 rfl) ?_
                refine lv_bipush (v := 10) hx hb dX2_encodeNumber_88 (by decide) ?_
                refine lv_idiv hx hb dX2_encodeNumber_90 (by decide) ?_
                refine lv_topi (fun x_16 ex_16 => ?_)
                have tx_16 : x_16.toInt = un.toInt / 10 := v_div ex_16 (by omega) (by decide)
                refine lv_istore (lv' := [(4, .int x_16), (2, .int 0), (3, .int 1), (5, .int x_8), (0, .int le), (1, .ref nu)]) hx hb dX2_encodeNumber_91 hl (by decide) rfl (fun ls hl => ?_)
                refine lv_goto (tgt := 31) hx hb dX2_encodeNumber_93 (by decide) ?_
                exact ih_31 0 1 x_16 lu_14 fu_14 _ _ _ (ms_lt hm_31 (by show ((x_16.toInt : Int)) < un.toInt; omega) (by show (0 : Int) < un.toInt; omega)) (by decide) (by decide) (by show 0 ≤ x_16.toInt ∧ x_16.toInt ≤ 10000; omega) (hf14_0) hP hD hS (lv_sub hl [0, 2, 1, 4, 5] rfl)
              · have tc_15 : ¬ r_14.toInt = 0 := v_ne c_15
                refine lv_iconst (v := 1) hx hb dX2_encodeNumber_80 (by decide) ?_
                refine lv_goto (tgt := 85) hx hb dX2_encodeNumber_81 (by decide) ?_
                refine lv_istore_n (lv' := [(2, .int 1), (3, .int 1), (5, .int x_8), (4, .int un), (0, .int le), (1, .ref nu)]) hx hb dX2_encodeNumber_85 rfl hl (by decide) rfl (fun ls hl => ?_)
                refine lv_iload hx hb dX2_encodeNumber_86 (lv_at hl 3 rfl) ?_
                refine lv_bipush (v := 10) hx hb dX2_encodeNumber_88 (by decide) ?_
                refine lv_idiv hx hb dX2_encodeNumber_90 (by decide) ?_
                refine lv_topi (fun x_17 ex_17 => ?_)
                have tx_17 : x_17.toInt = un.toInt / 10 := v_div ex_17 (by omega) (by decide)
                refine lv_istore (lv' := [(4, .int x_17), (2, .int 1), (3, .int 1), (5, .int x_8), (0, .int le), (1, .ref nu)]) hx hb dX2_encodeNumber_91 hl (by decide) rfl (fun ls hl => ?_)
                refine lv_goto (tgt := 31) hx hb dX2_encodeNumber_93 (by decide) ?_
                exact ih_31 1 1 x_17 lu_14 fu_14 _ _ _ (ms_lt hm_31 (by show ((x_17.toInt : Int)) < un.toInt; omega) (by show (0 : Int) < un.toInt; omega)) (by decide) (by decide) (by show 0 ≤ x_17.toInt ∧ x_17.toInt ≤ 10000; omega) (hf14_0) hP hD hS (lv_sub hl [0, 2, 1, 4, 5] rfl)
          · have tc_9 : bg.toInt = 0 := v_eq c_9
            refine lv_iload hx hb dX2_encodeNumber_49 (lv_at hl 0 rfl) ?_
            refine lv_if_eq (tgt := 58) hx hb dX2_encodeNumber_51 (by decide) (fun c_18 => ?_) (fun c_18 => ?_)
            · have tc_18 : x_8.toInt = 0 := v_eq c_18
              refine lv_iconst (v := 0) hx hb dX2_encodeNumber_58 (by decide) ?_
              refine lv_istore_n (lv' := [(3, .int 0), (5, .int x_8), (4, .int un), (2, .int gd), (0, .int le), (1, .ref nu)]) hx hb dX2_encodeNumber_59 rfl hl (by decide) rfl (fun ls hl => ?_)
              refine lv_iload_n hx hb dX2_encodeNumber_60 rfl (lv_at hl 0 rfl) ?_
              refine lv_if_eq (tgt := 86) hx hb dX2_encodeNumber_61 (by decide) (fun c_19 => ?_) (fun c_19 => absurd c_19 (by decide))
              refine lv_iload hx hb dX2_encodeNumber_86 (lv_at hl 2 rfl) ?_
              refine lv_bipush (v := 10) hx hb dX2_encodeNumber_88 (by decide) ?_
              refine lv_idiv hx hb dX2_encodeNumber_90 (by decide) ?_
              refine lv_topi (fun x_20 ex_20 => ?_)
              have tx_20 : x_20.toInt = un.toInt / 10 := v_div ex_20 (by omega) (by decide)
              refine lv_istore (lv' := [(4, .int x_20), (3, .int 0), (5, .int x_8), (2, .int gd), (0, .int le), (1, .ref nu)]) hx hb dX2_encodeNumber_91 hl (by decide) rfl (fun ls hl => ?_)
              refine lv_goto (tgt := 31) hx hb dX2_encodeNumber_93 (by decide) ?_
              exact ih_31 gd 0 x_20 l2 f2 _ _ _ (ms_lt hm_31 (by show ((x_20.toInt : Int)) < un.toInt; omega) (by show (0 : Int) < un.toInt; omega)) (g_gd) (by decide) (by show 0 ≤ x_20.toInt ∧ x_20.toInt ≤ 10000; omega) (g_l2) hP hD hS (lv_sub hl [0, 1, 3, 4, 5] rfl)
            · have tc_18 : ¬ x_8.toInt = 0 := v_ne c_18
              refine lv_iconst (v := 1) hx hb dX2_encodeNumber_54 (by decide) ?_
              refine lv_goto (tgt := 59) hx hb dX2_encodeNumber_55 (by decide) ?_
              refine lv_istore_n (lv' := [(3, .int 1), (5, .int x_8), (4, .int un), (2, .int gd), (0, .int le), (1, .ref nu)]) hx hb dX2_encodeNumber_59 rfl hl (by decide) rfl (fun ls hl => ?_)
              refine lv_iload_n hx hb dX2_encodeNumber_60 rfl (lv_at hl 0 rfl) ?_
              refine lv_if_eq (tgt := 86) hx hb dX2_encodeNumber_61 (by decide) (fun c_21 => absurd c_21 (by decide)) (fun c_21 => ?_)
              refine lv_iload_n hx hb dX2_encodeNumber_64 rfl (lv_at hl 3 rfl) ?_
              refine lv_if_eq (tgt := 84) hx hb dX2_encodeNumber_65 (by decide) (fun c_22 => ?_) (fun c_22 => ?_)
              · have tc_22 : gd.toInt = 0 := v_eq c_22
                refine lv_iconst (v := 0) hx hb dX2_encodeNumber_84 (by decide) ?_
                refine lv_istore_n (lv' := [(2, .int 0), (3, .int 1), (5, .int x_8), (4, .int un), (0, .int le), (1, .ref nu)]) hx hb dX2_encodeNumber_85 rfl hl (by decide) rfl (fun ls hl => ?_)
                refine lv_iload hx hb dX2_encodeNumber_86 (lv_at hl 3 rfl) ?_
                refine lv_bipush (v := 10) hx hb dX2_encodeNumber_88 (by decide) ?_
                refine lv_idiv hx hb dX2_encodeNumber_90 (by decide) ?_
                refine lv_topi (fun x_23 ex_23 => ?_)
                have tx_23 : x_23.toInt = un.toInt / 10 := v_div ex_23 (by omega) (by decide)
                refine lv_istore (lv' := [(4, .int x_23), (2, .int 0), (3, .int 1), (5, .int x_8), (0, .int le), (1, .ref nu)]) hx hb dX2_encodeNumber_91 hl (by decide) rfl (fun ls hl => ?_)
                refine lv_goto (tgt := 31) hx hb dX2_encodeNumber_93 (by decide) ?_
                exact ih_31 0 1 x_23 l2 f2 _ _ _ (ms_lt hm_31 (by show ((x_23.toInt : Int)) < un.toInt; omega) (by show (0 : Int) < un.toInt; omega)) (by decide) (by decide) (by show 0 ≤ x_23.toInt ∧ x_23.toInt ≤ 10000; omega) (g_l2) hP hD hS (lv_sub hl [0, 2, 1, 4, 5] rfl)
              · have tc_22 : ¬ gd.toInt = 0 := v_ne c_22
                refine lv_aload_n hx hb dX2_encodeNumber_68 rfl (lv_at hl 5 rfl) ?_
                refine lv_bipush (v := 48) hx hb dX2_encodeNumber_69 (by decide) ?_
                refine lv_iload hx hb dX2_encodeNumber_71 (lv_at hl 1 rfl) ?_
                refine lv_iadd hx hb dX2_encodeNumber_73 ?_
                refine lv_topi (fun x_24 ex_24 => ?_)
                have rv24_1 := v_rng x_8
                refine kV_i (rest := []) (q0 := 0) (ci := 5) hcf (m_X5_add l dC dI cI cS H.size nu au cap l2 f2 x_24 (g_l2) (by omega)) kc_X5_add gX2_encodeNumber_X5_add rfl rfl rfl ⟨Nat.le_of_ble_eq_true rfl, Nat.le_of_ble_eq_true rfl⟩ kX_t hK hP hD hS hA [0, 1] [] rfl (by decide +kernel) rfl rfl rfl hl rfl (Nat.le_of_ble_eq_true rfl) dX2_encodeNumber_74 ⟨Nat.le_of_ble_eq_true rfl, Nat.le_of_ble_eq_true rfl⟩ (fun r_25 H locs hB hJ hSn => ?_)
                obtain ⟨lu_25, fu_25, ⟨hP1, hD1⟩, hf25_0, hf25_1, hf25_2⟩ := hB
                obtain ⟨hPn, hDn⟩ := hJ _ hP1 hD1 [(nu, .inr (5, [.ref au, .int lu_25])), (au, .inl (cI, cap, .inl fu_25))] rfl
                clear hP hD hS hJ hP1 hD1
                have hP := hPn
                have hD := hDn
                have hS := hSn
                clear hPn hDn hSn
                refine lv_if_eq (tgt := 84) hx hb dX2_encodeNumber_77 (by decide) (fun c_26 => ?_) (fun c_26 => ?_)
                · have tc_26 : r_25.toInt = 0 := v_eq c_26
                  refine lv_iconst (v := 0) hx hb dX2_encodeNumber_84 (by decide) ?_
                  refine lv_istore_n (lv' := [(2, .int 0), (3, .int 1), (5, .int x_8), (4, .int un), (0, .int le), (1, .ref nu)]) hx hb dX2_encodeNumber_85 rfl hl (by decide) rfl (fun ls hl => ?_)
                  refine lv_iload hx hb dX2_encodeNumber_86 (lv_at hl 3 rfl) ?_
                  refine lv_bipush (v := 10) hx hb dX2_encodeNumber_88 (by decide) ?_
                  refine lv_idiv hx hb dX2_encodeNumber_90 (by decide) ?_
                  refine lv_topi (fun x_27 ex_27 => ?_)
                  have tx_27 : x_27.toInt = un.toInt / 10 := v_div ex_27 (by omega) (by decide)
                  refine lv_istore (lv' := [(4, .int x_27), (2, .int 0), (3, .int 1), (5, .int x_8), (0, .int le), (1, .ref nu)]) hx hb dX2_encodeNumber_91 hl (by decide) rfl (fun ls hl => ?_)
                  refine lv_goto (tgt := 31) hx hb dX2_encodeNumber_93 (by decide) ?_
                  exact ih_31 0 1 x_27 lu_25 fu_25 _ _ _ (ms_lt hm_31 (by show ((x_27.toInt : Int)) < un.toInt; omega) (by show (0 : Int) < un.toInt; omega)) (by decide) (by decide) (by show 0 ≤ x_27.toInt ∧ x_27.toInt ≤ 10000; omega) (hf25_0) hP hD hS (lv_sub hl [0, 2, 1, 4, 5] rfl)
                · have tc_26 : ¬ r_25.toInt = 0 := v_ne c_26
                  refine lv_iconst (v := 1) hx hb dX2_encodeNumber_80 (by decide) ?_
                  refine lv_goto (tgt := 85) hx hb dX2_encodeNumber_81 (by decide) ?_
                  refine lv_istore_n (lv' := [(2, .int 1), (3, .int 1), (5, .int x_8), (4, .int un), (0, .int le), (1, .ref nu)]) hx hb dX2_encodeNumber_85 rfl hl (by decide) rfl (fun ls hl => ?_)
                  refine lv_iload hx hb dX2_encodeNumber_86 (lv_at hl 3 rfl) ?_
                  refine lv_bipush (v := 10) hx hb dX2_encodeNumber_88 (by decide) ?_
                  refine lv_idiv hx hb dX2_encodeNumber_90 (by decide) ?_
                  refine lv_topi (fun x_28 ex_28 => ?_)
                  have tx_28 : x_28.toInt = un.toInt / 10 := v_div ex_28 (by omega) (by decide)
                  refine lv_istore (lv' := [(4, .int x_28), (2, .int 1), (3, .int 1), (5, .int x_8), (0, .int le), (1, .ref nu)]) hx hb dX2_encodeNumber_91 hl (by decide) rfl (fun ls hl => ?_)
                  refine lv_goto (tgt := 31) hx hb dX2_encodeNumber_93 (by decide) ?_
                  exact ih_31 1 1 x_28 lu_25 fu_25 _ _ _ (ms_lt hm_31 (by show ((x_28.toInt : Int)) < un.toInt; omega) (by show (0 : Int) < un.toInt; omega)) (by decide) (by decide) (by show 0 ≤ x_28.toInt ∧ x_28.toInt ≤ 10000; omega) (hf25_0) hP hD hS (lv_sub hl [0, 2, 1, 4, 5] rfl)
    exact LOOP_31 _ 0 0 10000 lu_1 fu_1 _ _ _ (ms_s _) (by decide) (by decide) (by decide) (hf1_0) hP hD hS (lv_sub hl [0, 1, 2, 3, 4] rfl)
  · have tc_2 : ¬ r_1.toInt = 0 := v_ne c_2
    refine lv_aload_n hx hb dX2_encodeNumber_9 rfl (lv_at hl 1 rfl) ?_
    refine lv_bipush (v := 35) hx hb dX2_encodeNumber_10 (by decide) ?_
    refine kV_i (rest := []) (q0 := 0) (ci := 5) hcf (m_X5_add l dC dI cI cS H.size nu au cap lu_1 fu_1 35 (hf1_0) (by omega)) kc_X5_add gX2_encodeNumber_X5_add rfl rfl rfl ⟨Nat.le_of_ble_eq_true rfl, Nat.le_of_ble_eq_true rfl⟩ kX_t hK hP hD hS hA [0, 1] [] rfl (by decide +kernel) rfl rfl rfl hl rfl (Nat.le_of_ble_eq_true rfl) dX2_encodeNumber_12 ⟨Nat.le_of_ble_eq_true rfl, Nat.le_of_ble_eq_true rfl⟩ (fun r_29 H locs hB hJ hSn => ?_)
    obtain ⟨lu_29, fu_29, ⟨hP1, hD1⟩, hf29_0, hf29_1, hf29_2⟩ := hB
    obtain ⟨hPn, hDn⟩ := hJ _ hP1 hD1 [(nu, .inr (5, [.ref au, .int lu_29])), (au, .inl (cI, cap, .inl fu_29))] rfl
    clear hP hD hS hJ hP1 hD1
    have hP := hPn
    have hD := hDn
    have hS := hSn
    clear hPn hDn hSn
    refine lv_if_eq (tgt := 22) hx hb dX2_encodeNumber_15 (by decide) (fun c_30 => ?_) (fun c_30 => ?_)
    · have tc_30 : r_29.toInt = 0 := v_eq c_30
      refine lv_iconst (v := 0) hx hb dX2_encodeNumber_22 (by decide) ?_
      refine lv_istore_n (lv' := [(2, .int 0), (0, .int le), (1, .ref nu)]) hx hb dX2_encodeNumber_23 rfl hl (by decide) rfl (fun ls hl => ?_)
      refine lv_iconst (v := 0) hx hb dX2_encodeNumber_24 (by decide) ?_
      refine lv_istore_n (lv' := [(3, .int 0), (2, .int 0), (0, .int le), (1, .ref nu)]) hx hb dX2_encodeNumber_25 rfl hl (by decide) rfl (fun ls hl => ?_)
      refine lv_sipush (v := 10000) hx hb dX2_encodeNumber_26 (by decide) ?_
      refine lv_istore (lv' := [(4, .int 10000), (3, .int 0), (2, .int 0), (0, .int le), (1, .ref nu)]) hx hb dX2_encodeNumber_29 hl (by decide) rfl (fun ls hl => ?_)
      have LOOP_31 : ∀ (k_31 : Nat) (gd : Int32) (bg : Int32) (un : Int32) (l2 : Int32) (f2 : Nat → Int32) (H : Heap) (locs : List Loc) (ls : Array Slot), MSd (un.toInt : Int) k_31 → (0 ≤ gd.toInt ∧ gd.toInt ≤ 1) → (0 ≤ bg.toInt ∧ bg.toInt ≤ 1) → (0 ≤ un.toInt ∧ un.toInt ≤ 10000) → (0 ≤ l2.toInt ∧ l2.toInt ≤ (cap : Int)) → va_P (dC, dI) vwCl [(nu, .inr (5, [.ref au, .int l2])), (au, .inl (cI, cap, .inl f2))] H → va_D A [(nu, .inr (5, [.ref au, .int l2])), (au, .inl (cI, cap, .inl f2))] → va_S A s.heap H locs → lv_has ls 6 [(4, .int un), (3, .int bg), (2, .int gd), (0, .int le), (1, .ref nu)] → W p l e (headSpec wsX2_encodeNumber ({ frames := 1, cells := 0, slots := 0, locals := 21 } : Room)).room s m ([.int le, .ref nu] : List Value).toArray below meth c H locs 0 0 (MQ below QQ ([.int le, .ref nu] : List Value).toArray s 0 0 A) (F0 m 31 ls []) := by
        clear hP hD hS hl
        intro k_31
        induction k_31 with
        | zero =>
          intro gd bg un l2 f2 H locs ls hm_31 g_gd g_bg g_un g_l2 hP hD hS hl
          exact ms_0 hm_31
        | succ k_31 ih_31 =>
          intro gd bg un l2 f2 H locs ls hm_31 g_gd g_bg g_un g_l2 hP hD hS hl
          refine lv_iload hx hb dX2_encodeNumber_31 (lv_at hl 0 rfl) ?_
          refine lv_if_le (tgt := 96) hx hb dX2_encodeNumber_33 (by decide) (fun c_31 => ?_) (fun c_31 => ?_)
          · have tc_31 : un.toInt ≤ 0 := v_le c_31
            refine lv_iload_n hx hb dX2_encodeNumber_96 rfl (lv_at hl 2 rfl) ?_
            refine lv_if_eq (tgt := 113) hx hb dX2_encodeNumber_97 (by decide) (fun c_32 => ?_) (fun c_32 => ?_)
            · have tc_32 : gd.toInt = 0 := v_eq c_32
              refine lv_iconst (v := 0) hx hb dX2_encodeNumber_113 (by decide) ?_
              exact kl_z (v := 0) hQQ hx hb hr hlocks hS dX2_encodeNumber_114 (rfl) ⟨l2, f2, ⟨hP, hD⟩, g_l2, by decide⟩
            · have tc_32 : ¬ gd.toInt = 0 := v_ne c_32
              refine lv_aload_n hx hb dX2_encodeNumber_100 rfl (lv_at hl 4 rfl) ?_
              refine lv_bipush (v := 59) hx hb dX2_encodeNumber_101 (by decide) ?_
              refine kV_i (rest := []) (q0 := 0) (ci := 5) hcf (m_X5_add l dC dI cI cS H.size nu au cap l2 f2 59 (g_l2) (by omega)) kc_X5_add gX2_encodeNumber_X5_add rfl rfl rfl ⟨Nat.le_of_ble_eq_true rfl, Nat.le_of_ble_eq_true rfl⟩ kX_t hK hP hD hS hA [0, 1] [] rfl (by decide +kernel) rfl rfl rfl hl rfl (Nat.le_of_ble_eq_true rfl) dX2_encodeNumber_103 ⟨Nat.le_of_ble_eq_true rfl, Nat.le_of_ble_eq_true rfl⟩ (fun r_33 H locs hB hJ hSn => ?_)
              obtain ⟨lu_33, fu_33, ⟨hP1, hD1⟩, hf33_0, hf33_1, hf33_2⟩ := hB
              obtain ⟨hPn, hDn⟩ := hJ _ hP1 hD1 [(nu, .inr (5, [.ref au, .int lu_33])), (au, .inl (cI, cap, .inl fu_33))] rfl
              clear hP hD hS hJ hP1 hD1
              have hP := hPn
              have hD := hDn
              have hS := hSn
              clear hPn hDn hSn
              refine lv_if_eq (tgt := 113) hx hb dX2_encodeNumber_106 (by decide) (fun c_34 => ?_) (fun c_34 => ?_)
              · have tc_34 : r_33.toInt = 0 := v_eq c_34
                refine lv_iconst (v := 0) hx hb dX2_encodeNumber_113 (by decide) ?_
                exact kl_z (v := 0) hQQ hx hb hr hlocks hS dX2_encodeNumber_114 (rfl) ⟨lu_33, fu_33, ⟨hP, hD⟩, hf33_0, by decide⟩
              · have tc_34 : ¬ r_33.toInt = 0 := v_ne c_34
                refine lv_iconst (v := 1) hx hb dX2_encodeNumber_109 (by decide) ?_
                refine lv_goto (tgt := 114) hx hb dX2_encodeNumber_110 (by decide) ?_
                exact kl_z (v := 1) hQQ hx hb hr hlocks hS dX2_encodeNumber_114 (rfl) ⟨lu_33, fu_33, ⟨hP, hD⟩, hf33_0, by decide⟩
          · have tc_31 : 0 < un.toInt := v_nle c_31
            refine lv_iload_n hx hb dX2_encodeNumber_36 rfl (lv_at hl 3 rfl) ?_
            refine lv_iload hx hb dX2_encodeNumber_37 (lv_at hl 0 rfl) ?_
            refine lv_idiv hx hb dX2_encodeNumber_39 (v_nz (by omega)) ?_
            refine lv_topi (fun x_35 ex_35 => ?_)
            refine lv_bipush (v := 10) hx hb dX2_encodeNumber_40 (by decide) ?_
            refine lv_irem hx hb dX2_encodeNumber_42 (by decide) ?_
            refine lv_topi (fun x_36 ex_36 => ?_)
            refine lv_istore (lv' := [(5, .int x_36), (4, .int un), (3, .int bg), (2, .int gd), (0, .int le), (1, .ref nu)]) hx hb dX2_encodeNumber_43 hl (by decide) rfl (fun ls hl => ?_)
            refine lv_iload_n hx hb dX2_encodeNumber_45 rfl (lv_at hl 2 rfl) ?_
            refine lv_if_ne (tgt := 54) hx hb dX2_encodeNumber_46 (by decide) (fun c_37 => ?_) (fun c_37 => ?_)
            · have tc_37 : ¬ bg.toInt = 0 := v_ne c_37
              refine lv_iconst (v := 1) hx hb dX2_encodeNumber_54 (by decide) ?_
              refine lv_goto (tgt := 59) hx hb dX2_encodeNumber_55 (by decide) ?_
              refine lv_istore_n (lv' := [(3, .int 1), (5, .int x_36), (4, .int un), (2, .int gd), (0, .int le), (1, .ref nu)]) hx hb dX2_encodeNumber_59 rfl hl (by decide) rfl (fun ls hl => ?_)
              refine lv_iload_n hx hb dX2_encodeNumber_60 rfl (lv_at hl 0 rfl) ?_
              refine lv_if_eq (tgt := 86) hx hb dX2_encodeNumber_61 (by decide) (fun c_38 => absurd c_38 (by decide)) (fun c_38 => ?_)
              refine lv_iload_n hx hb dX2_encodeNumber_64 rfl (lv_at hl 3 rfl) ?_
              refine lv_if_eq (tgt := 84) hx hb dX2_encodeNumber_65 (by decide) (fun c_39 => ?_) (fun c_39 => ?_)
              · have tc_39 : gd.toInt = 0 := v_eq c_39
                refine lv_iconst (v := 0) hx hb dX2_encodeNumber_84 (by decide) ?_
                refine lv_istore_n (lv' := [(2, .int 0), (3, .int 1), (5, .int x_36), (4, .int un), (0, .int le), (1, .ref nu)]) hx hb dX2_encodeNumber_85 rfl hl (by decide) rfl (fun ls hl => ?_)
                refine lv_iload hx hb dX2_encodeNumber_86 (lv_at hl 3 rfl) ?_
                refine lv_bipush (v := 10) hx hb dX2_encodeNumber_88 (by decide) ?_
                refine lv_idiv hx hb dX2_encodeNumber_90 (by decide) ?_
                refine lv_topi (fun x_40 ex_40 => ?_)
                have tx_40 : x_40.toInt = un.toInt / 10 := v_div ex_40 (by omega) (by decide)
                refine lv_istore (lv' := [(4, .int x_40), (2, .int 0), (3, .int 1), (5, .int x_36), (0, .int le), (1, .ref nu)]) hx hb dX2_encodeNumber_91 hl (by decide) rfl (fun ls hl => ?_)
                refine lv_goto (tgt := 31) hx hb dX2_encodeNumber_93 (by decide) ?_
                exact ih_31 0 1 x_40 l2 f2 _ _ _ (ms_lt hm_31 (by show ((x_40.toInt : Int)) < un.toInt; omega) (by show (0 : Int) < un.toInt; omega)) (by decide) (by decide) (by show 0 ≤ x_40.toInt ∧ x_40.toInt ≤ 10000; omega) (g_l2) hP hD hS (lv_sub hl [0, 2, 1, 4, 5] rfl)
              · have tc_39 : ¬ gd.toInt = 0 := v_ne c_39
                refine lv_aload_n hx hb dX2_encodeNumber_68 rfl (lv_at hl 5 rfl) ?_
                refine lv_bipush (v := 48) hx hb dX2_encodeNumber_69 (by decide) ?_
                refine lv_iload hx hb dX2_encodeNumber_71 (lv_at hl 1 rfl) ?_
                refine lv_iadd hx hb dX2_encodeNumber_73 ?_
                refine lv_topi (fun x_41 ex_41 => ?_)
                have rv41_1 := v_rng x_36
                refine kV_i (rest := []) (q0 := 0) (ci := 5) hcf (m_X5_add l dC dI cI cS H.size nu au cap l2 f2 x_41 (g_l2) (by omega)) kc_X5_add gX2_encodeNumber_X5_add rfl rfl rfl ⟨Nat.le_of_ble_eq_true rfl, Nat.le_of_ble_eq_true rfl⟩ kX_t hK hP hD hS hA [0, 1] [] rfl (by decide +kernel) rfl rfl rfl hl rfl (Nat.le_of_ble_eq_true rfl) dX2_encodeNumber_74 ⟨Nat.le_of_ble_eq_true rfl, Nat.le_of_ble_eq_true rfl⟩ (fun r_42 H locs hB hJ hSn => ?_)
                obtain ⟨lu_42, fu_42, ⟨hP1, hD1⟩, hf42_0, hf42_1, hf42_2⟩ := hB
                obtain ⟨hPn, hDn⟩ := hJ _ hP1 hD1 [(nu, .inr (5, [.ref au, .int lu_42])), (au, .inl (cI, cap, .inl fu_42))] rfl
                clear hP hD hS hJ hP1 hD1
                have hP := hPn
                have hD := hDn
                have hS := hSn
                clear hPn hDn hSn
                refine lv_if_eq (tgt := 84) hx hb dX2_encodeNumber_77 (by decide) (fun c_43 => ?_) (fun c_43 => ?_)
                · have tc_43 : r_42.toInt = 0 := v_eq c_43
                  refine lv_iconst (v := 0) hx hb dX2_encodeNumber_84 (by decide) ?_
                  refine lv_istore_n (lv' := [(2, .int 0), (3, .int 1), (5, .int x_36), (4, .int un), (0, .int le), (1, .ref nu)]) hx hb dX2_encodeNumber_85 rfl hl (by decide) rfl (fun ls hl => ?_)
                  refine lv_iload hx hb dX2_encodeNumber_86 (lv_at hl 3 rfl) ?_
                  refine lv_bipush (v := 10) hx hb dX2_encodeNumber_88 (by decide) ?_
                  refine lv_idiv hx hb dX2_encodeNumber_90 (by decide) ?_
                  refine lv_topi (fun x_44 ex_44 => ?_)
                  have tx_44 : x_44.toInt = un.toInt / 10 := v_div ex_44 (by omega) (by decide)
                  refine lv_istore (lv' := [(4, .int x_44), (2, .int 0), (3, .int 1), (5, .int x_36), (0, .int le), (1, .ref nu)]) hx hb dX2_encodeNumber_91 hl (by decide) rfl (fun ls hl => ?_)
                  refine lv_goto (tgt := 31) hx hb dX2_encodeNumber_93 (by decide) ?_
                  exact ih_31 0 1 x_44 lu_42 fu_42 _ _ _ (ms_lt hm_31 (by show ((x_44.toInt : Int)) < un.toInt; omega) (by show (0 : Int) < un.toInt; omega)) (by decide) (by decide) (by show 0 ≤ x_44.toInt ∧ x_44.toInt ≤ 10000; omega) (hf42_0) hP hD hS (lv_sub hl [0, 2, 1, 4, 5] rfl)
                · have tc_43 : ¬ r_42.toInt = 0 := v_ne c_43
                  refine lv_iconst (v := 1) hx hb dX2_encodeNumber_80 (by decide) ?_
                  refine lv_goto (tgt := 85) hx hb dX2_encodeNumber_81 (by decide) ?_
                  refine lv_istore_n (lv' := [(2, .int 1), (3, .int 1), (5, .int x_36), (4, .int un), (0, .int le), (1, .ref nu)]) hx hb dX2_encodeNumber_85 rfl hl (by decide) rfl (fun ls hl => ?_)
                  refine lv_iload hx hb dX2_encodeNumber_86 (lv_at hl 3 rfl) ?_
                  refine lv_bipush (v := 10) hx hb dX2_encodeNumber_88 (by decide) ?_
                  refine lv_idiv hx hb dX2_encodeNumber_90 (by decide) ?_
                  refine lv_topi (fun x_45 ex_45 => ?_)
                  have tx_45 : x_45.toInt = un.toInt / 10 := v_div ex_45 (by omega) (by decide)
                  refine lv_istore (lv' := [(4, .int x_45), (2, .int 1), (3, .int 1), (5, .int x_36), (0, .int le), (1, .ref nu)]) hx hb dX2_encodeNumber_91 hl (by decide) rfl (fun ls hl => ?_)
                  refine lv_goto (tgt := 31) hx hb dX2_encodeNumber_93 (by decide) ?_
                  exact ih_31 1 1 x_45 lu_42 fu_42 _ _ _ (ms_lt hm_31 (by show ((x_45.toInt : Int)) < un.toInt; omega) (by show (0 : Int) < un.toInt; omega)) (by decide) (by decide) (by show 0 ≤ x_45.toInt ∧ x_45.toInt ≤ 10000; omega) (hf42_0) hP hD hS (lv_sub hl [0, 2, 1, 4, 5] rfl)
            · have tc_37 : bg.toInt = 0 := v_eq c_37
              refine lv_iload hx hb dX2_encodeNumber_49 (lv_at hl 0 rfl) ?_
              refine lv_if_eq (tgt := 58) hx hb dX2_encodeNumber_51 (by decide) (fun c_46 => ?_) (fun c_46 => ?_)
              · have tc_46 : x_36.toInt = 0 := v_eq c_46
                refine lv_iconst (v := 0) hx hb dX2_encodeNumber_58 (by decide) ?_
                refine lv_istore_n (lv' := [(3, .int 0), (5, .int x_36), (4, .int un), (2, .int gd), (0, .int le), (1, .ref nu)]) hx hb dX2_encodeNumber_59 rfl hl (by decide) rfl (fun ls hl => ?_)
                refine lv_iload_n hx hb dX2_encodeNumber_60 rfl (lv_at hl 0 rfl) ?_
                refine lv_if_eq (tgt := 86) hx hb dX2_encodeNumber_61 (by decide) (fun c_47 => ?_) (fun c_47 => absurd c_47 (by decide))
                refine lv_iload hx hb dX2_encodeNumber_86 (lv_at hl 2 rfl) ?_
                refine lv_bipush (v := 10) hx hb dX2_encodeNumber_88 (by decide) ?_
                refine lv_idiv hx hb dX2_encodeNumber_90 (by decide) ?_
                refine lv_topi (fun x_48 ex_48 => ?_)
                have tx_48 : x_48.toInt = un.toInt / 10 := v_div ex_48 (by omega) (by decide)
                refine lv_istore (lv' := [(4, .int x_48), (3, .int 0), (5, .int x_36), (2, .int gd), (0, .int le), (1, .ref nu)]) hx hb dX2_encodeNumber_91 hl (by decide) rfl (fun ls hl => ?_)
                refine lv_goto (tgt := 31) hx hb dX2_encodeNumber_93 (by decide) ?_
                exact ih_31 gd 0 x_48 l2 f2 _ _ _ (ms_lt hm_31 (by show ((x_48.toInt : Int)) < un.toInt; omega) (by show (0 : Int) < un.toInt; omega)) (g_gd) (by decide) (by show 0 ≤ x_48.toInt ∧ x_48.toInt ≤ 10000; omega) (g_l2) hP hD hS (lv_sub hl [0, 1, 3, 4, 5] rfl)
              · have tc_46 : ¬ x_36.toInt = 0 := v_ne c_46
                refine lv_iconst (v := 1) hx hb dX2_encodeNumber_54 (by decide) ?_
                refine lv_goto (tgt := 59) hx hb dX2_encodeNumber_55 (by decide) ?_
                refine lv_istore_n (lv' := [(3, .int 1), (5, .int x_36), (4, .int un), (2, .int gd), (0, .int le), (1, .ref nu)]) hx hb dX2_encodeNumber_59 rfl hl (by decide) rfl (fun ls hl => ?_)
                refine lv_iload_n hx hb dX2_encodeNumber_60 rfl (lv_at hl 0 rfl) ?_
                refine lv_if_eq (tgt := 86) hx hb dX2_encodeNumber_61 (by decide) (fun c_49 => absurd c_49 (by decide)) (fun c_49 => ?_)
                refine lv_iload_n hx hb dX2_encodeNumber_64 rfl (lv_at hl 3 rfl) ?_
                refine lv_if_eq (tgt := 84) hx hb dX2_encodeNumber_65 (by decide) (fun c_50 => ?_) (fun c_50 => ?_)
                · have tc_50 : gd.toInt = 0 := v_eq c_50
                  refine lv_iconst (v := 0) hx hb dX2_encodeNumber_84 (by decide) ?_
                  refine lv_istore_n (lv' := [(2, .int 0), (3, .int 1), (5, .int x_36), (4, .int un), (0, .int le), (1, .ref nu)]) hx hb dX2_encodeNumber_85 rfl hl (by decide) rfl (fun ls hl => ?_)
                  refine lv_iload hx hb dX2_encodeNumber_86 (lv_at hl 3 rfl) ?_
                  refine lv_bipush (v := 10) hx hb dX2_encodeNumber_88 (by decide) ?_
                  refine lv_idiv hx hb dX2_encodeNumber_90 (by decide) ?_
                  refine lv_topi (fun x_51 ex_51 => ?_)
                  have tx_51 : x_51.toInt = un.toInt / 10 := v_div ex_51 (by omega) (by decide)
                  refine lv_istore (lv' := [(4, .int x_51), (2, .int 0), (3, .int 1), (5, .int x_36), (0, .int le), (1, .ref nu)]) hx hb dX2_encodeNumber_91 hl (by decide) rfl (fun ls hl => ?_)
                  refine lv_goto (tgt := 31) hx hb dX2_encodeNumber_93 (by decide) ?_
                  exact ih_31 0 1 x_51 l2 f2 _ _ _ (ms_lt hm_31 (by show ((x_51.toInt : Int)) < un.toInt; omega) (by show (0 : Int) < un.toInt; omega)) (by decide) (by decide) (by show 0 ≤ x_51.toInt ∧ x_51.toInt ≤ 10000; omega) (g_l2) hP hD hS (lv_sub hl [0, 2, 1, 4, 5] rfl)
                · have tc_50 : ¬ gd.toInt = 0 := v_ne c_50
                  refine lv_aload_n hx hb dX2_encodeNumber_68 rfl (lv_at hl 5 rfl) ?_
                  refine lv_bipush (v := 48) hx hb dX2_encodeNumber_69 (by decide) ?_
                  refine lv_iload hx hb dX2_encodeNumber_71 (lv_at hl 1 rfl) ?_
                  refine lv_iadd hx hb dX2_encodeNumber_73 ?_
                  refine lv_topi (fun x_52 ex_52 => ?_)
                  have rv52_1 := v_rng x_36
                  refine kV_i (rest := []) (q0 := 0) (ci := 5) hcf (m_X5_add l dC dI cI cS H.size nu au cap l2 f2 x_52 (g_l2) (by omega)) kc_X5_add gX2_encodeNumber_X5_add rfl rfl rfl ⟨Nat.le_of_ble_eq_true rfl, Nat.le_of_ble_eq_true rfl⟩ kX_t hK hP hD hS hA [0, 1] [] rfl (by decide +kernel) rfl rfl rfl hl rfl (Nat.le_of_ble_eq_true rfl) dX2_encodeNumber_74 ⟨Nat.le_of_ble_eq_true rfl, Nat.le_of_ble_eq_true rfl⟩ (fun r_53 H locs hB hJ hSn => ?_)
                  obtain ⟨lu_53, fu_53, ⟨hP1, hD1⟩, hf53_0, hf53_1, hf53_2⟩ := hB
                  obtain ⟨hPn, hDn⟩ := hJ _ hP1 hD1 [(nu, .inr (5, [.ref au, .int lu_53])), (au, .inl (cI, cap, .inl fu_53))] rfl
                  clear hP hD hS hJ hP1 hD1
                  have hP := hPn
                  have hD := hDn
                  have hS := hSn
                  clear hPn hDn hSn
                  refine lv_if_eq (tgt := 84) hx hb dX2_encodeNumber_77 (by decide) (fun c_54 => ?_) (fun c_54 => ?_)
                  · have tc_54 : r_53.toInt = 0 := v_eq c_54
                    refine lv_iconst (v := 0) hx hb dX2_encodeNumber_84 (by decide) ?_
                    refine lv_istore_n (lv' := [(2, .int 0), (3, .int 1), (5, .int x_36), (4, .int un), (0, .int le), (1, .ref nu)]) hx hb dX2_encodeNumber_85 rfl hl (by decide) rfl (fun ls hl => ?_)
                    refine lv_iload hx hb dX2_encodeNumber_86 (lv_at hl 3 rfl) ?_
                    refine lv_bipush (v := 10) hx hb dX2_encodeNumber_88 (by decide) ?_
                    refine lv_idiv hx hb dX2_encodeNumber_90 (by decide) ?_
                    refine lv_topi (fun x_55 ex_55 => ?_)
                    have tx_55 : x_55.toInt = un.toInt / 10 := v_div ex_55 (by omega) (by decide)
                    refine lv_istore (lv' := [(4, .int x_55), (2, .int 0), (3, .int 1), (5, .int x_36), (0, .int le), (1, .ref nu)]) hx hb dX2_encodeNumber_91 hl (by decide) rfl (fun ls hl => ?_)
                    refine lv_goto (tgt := 31) hx hb dX2_encodeNumber_93 (by decide) ?_
                    exact ih_31 0 1 x_55 lu_53 fu_53 _ _ _ (ms_lt hm_31 (by show ((x_55.toInt : Int)) < un.toInt; omega) (by show (0 : Int) < un.toInt; omega)) (by decide) (by decide) (by show 0 ≤ x_55.toInt ∧ x_55.toInt ≤ 10000; omega) (hf53_0) hP hD hS (lv_sub hl [0, 2, 1, 4, 5] rfl)
                  · have tc_54 : ¬ r_53.toInt = 0 := v_ne c_54
                    refine lv_iconst (v := 1) hx hb dX2_encodeNumber_80 (by decide) ?_
                    refine lv_goto (tgt := 85) hx hb dX2_encodeNumber_81 (by decide) ?_
                    refine lv_istore_n (lv' := [(2, .int 1), (3, .int 1), (5, .int x_36), (4, .int un), (0, .int le), (1, .ref nu)]) hx hb dX2_encodeNumber_85 rfl hl (by decide) rfl (fun ls hl => ?_)
                    refine lv_iload hx hb dX2_encodeNumber_86 (lv_at hl 3 rfl) ?_
                    refine lv_bipush (v := 10) hx hb dX2_encodeNumber_88 (by decide) ?_
                    refine lv_idiv hx hb dX2_encodeNumber_90 (by decide) ?_
                    refine lv_topi (fun x_56 ex_56 => ?_)
                    have tx_56 : x_56.toInt = un.toInt / 10 := v_div ex_56 (by omega) (by decide)
                    refine lv_istore (lv' := [(4, .int x_56), (2, .int 1), (3, .int 1), (5, .int x_36), (0, .int le), (1, .ref nu)]) hx hb dX2_encodeNumber_91 hl (by decide) rfl (fun ls hl => ?_)
                    refine lv_goto (tgt := 31) hx hb dX2_encodeNumber_93 (by decide) ?_
                    exact ih_31 1 1 x_56 lu_53 fu_53 _ _ _ (ms_lt hm_31 (by show ((x_56.toInt : Int)) < un.toInt; omega) (by show (0 : Int) < un.toInt; omega)) (by decide) (by decide) (by show 0 ≤ x_56.toInt ∧ x_56.toInt ≤ 10000; omega) (hf53_0) hP hD hS (lv_sub hl [0, 2, 1, 4, 5] rfl)
      exact LOOP_31 _ 0 0 10000 lu_29 fu_29 _ _ _ (ms_s _) (by decide) (by decide) (by decide) (hf29_0) hP hD hS (lv_sub hl [0, 1, 2, 3, 4] rfl)
    · have tc_30 : ¬ r_29.toInt = 0 := v_ne c_30
      refine lv_iconst (v := 1) hx hb dX2_encodeNumber_18 (by decide) ?_
      refine lv_goto (tgt := 23) hx hb dX2_encodeNumber_19 (by decide) ?_
      refine lv_istore_n (lv' := [(2, .int 1), (0, .int le), (1, .ref nu)]) hx hb dX2_encodeNumber_23 rfl hl (by decide) rfl (fun ls hl => ?_)
      refine lv_iconst (v := 0) hx hb dX2_encodeNumber_24 (by decide) ?_
      refine lv_istore_n (lv' := [(3, .int 0), (2, .int 1), (0, .int le), (1, .ref nu)]) hx hb dX2_encodeNumber_25 rfl hl (by decide) rfl (fun ls hl => ?_)
      refine lv_sipush (v := 10000) hx hb dX2_encodeNumber_26 (by decide) ?_
      refine lv_istore (lv' := [(4, .int 10000), (3, .int 0), (2, .int 1), (0, .int le), (1, .ref nu)]) hx hb dX2_encodeNumber_29 hl (by decide) rfl (fun ls hl => ?_)
      have LOOP_31 : ∀ (k_31 : Nat) (gd : Int32) (bg : Int32) (un : Int32) (l2 : Int32) (f2 : Nat → Int32) (H : Heap) (locs : List Loc) (ls : Array Slot), MSd (un.toInt : Int) k_31 → (0 ≤ gd.toInt ∧ gd.toInt ≤ 1) → (0 ≤ bg.toInt ∧ bg.toInt ≤ 1) → (0 ≤ un.toInt ∧ un.toInt ≤ 10000) → (0 ≤ l2.toInt ∧ l2.toInt ≤ (cap : Int)) → va_P (dC, dI) vwCl [(nu, .inr (5, [.ref au, .int l2])), (au, .inl (cI, cap, .inl f2))] H → va_D A [(nu, .inr (5, [.ref au, .int l2])), (au, .inl (cI, cap, .inl f2))] → va_S A s.heap H locs → lv_has ls 6 [(4, .int un), (3, .int bg), (2, .int gd), (0, .int le), (1, .ref nu)] → W p l e (headSpec wsX2_encodeNumber ({ frames := 1, cells := 0, slots := 0, locals := 21 } : Room)).room s m ([.int le, .ref nu] : List Value).toArray below meth c H locs 0 0 (MQ below QQ ([.int le, .ref nu] : List Value).toArray s 0 0 A) (F0 m 31 ls []) := by
        clear hP hD hS hl
        intro k_31
        induction k_31 with
        | zero =>
          intro gd bg un l2 f2 H locs ls hm_31 g_gd g_bg g_un g_l2 hP hD hS hl
          exact ms_0 hm_31
        | succ k_31 ih_31 =>
          intro gd bg un l2 f2 H locs ls hm_31 g_gd g_bg g_un g_l2 hP hD hS hl
          refine lv_iload hx hb dX2_encodeNumber_31 (lv_at hl 0 rfl) ?_
          refine lv_if_le (tgt := 96) hx hb dX2_encodeNumber_33 (by decide) (fun c_57 => ?_) (fun c_57 => ?_)
          · have tc_57 : un.toInt ≤ 0 := v_le c_57
            refine lv_iload_n hx hb dX2_encodeNumber_96 rfl (lv_at hl 2 rfl) ?_
            refine lv_if_eq (tgt := 113) hx hb dX2_encodeNumber_97 (by decide) (fun c_58 => ?_) (fun c_58 => ?_)
            · have tc_58 : gd.toInt = 0 := v_eq c_58
              refine lv_iconst (v := 0) hx hb dX2_encodeNumber_113 (by decide) ?_
              exact kl_z (v := 0) hQQ hx hb hr hlocks hS dX2_encodeNumber_114 (rfl) ⟨l2, f2, ⟨hP, hD⟩, g_l2, by decide⟩
            · have tc_58 : ¬ gd.toInt = 0 := v_ne c_58
              refine lv_aload_n hx hb dX2_encodeNumber_100 rfl (lv_at hl 4 rfl) ?_
              refine lv_bipush (v := 59) hx hb dX2_encodeNumber_101 (by decide) ?_
              refine kV_i (rest := []) (q0 := 0) (ci := 5) hcf (m_X5_add l dC dI cI cS H.size nu au cap l2 f2 59 (g_l2) (by omega)) kc_X5_add gX2_encodeNumber_X5_add rfl rfl rfl ⟨Nat.le_of_ble_eq_true rfl, Nat.le_of_ble_eq_true rfl⟩ kX_t hK hP hD hS hA [0, 1] [] rfl (by decide +kernel) rfl rfl rfl hl rfl (Nat.le_of_ble_eq_true rfl) dX2_encodeNumber_103 ⟨Nat.le_of_ble_eq_true rfl, Nat.le_of_ble_eq_true rfl⟩ (fun r_59 H locs hB hJ hSn => ?_)
              obtain ⟨lu_59, fu_59, ⟨hP1, hD1⟩, hf59_0, hf59_1, hf59_2⟩ := hB
              obtain ⟨hPn, hDn⟩ := hJ _ hP1 hD1 [(nu, .inr (5, [.ref au, .int lu_59])), (au, .inl (cI, cap, .inl fu_59))] rfl
              clear hP hD hS hJ hP1 hD1
              have hP := hPn
              have hD := hDn
              have hS := hSn
              clear hPn hDn hSn
              refine lv_if_eq (tgt := 113) hx hb dX2_encodeNumber_106 (by decide) (fun c_60 => ?_) (fun c_60 => ?_)
              · have tc_60 : r_59.toInt = 0 := v_eq c_60
                refine lv_iconst (v := 0) hx hb dX2_encodeNumber_113 (by decide) ?_
                exact kl_z (v := 0) hQQ hx hb hr hlocks hS dX2_encodeNumber_114 (rfl) ⟨lu_59, fu_59, ⟨hP, hD⟩, hf59_0, by decide⟩
              · have tc_60 : ¬ r_59.toInt = 0 := v_ne c_60
                refine lv_iconst (v := 1) hx hb dX2_encodeNumber_109 (by decide) ?_
                refine lv_goto (tgt := 114) hx hb dX2_encodeNumber_110 (by decide) ?_
                exact kl_z (v := 1) hQQ hx hb hr hlocks hS dX2_encodeNumber_114 (rfl) ⟨lu_59, fu_59, ⟨hP, hD⟩, hf59_0, by decide⟩
          · have tc_57 : 0 < un.toInt := v_nle c_57
            refine lv_iload_n hx hb dX2_encodeNumber_36 rfl (lv_at hl 3 rfl) ?_
            refine lv_iload hx hb dX2_encodeNumber_37 (lv_at hl 0 rfl) ?_
            refine lv_idiv hx hb dX2_encodeNumber_39 (v_nz (by omega)) ?_
            refine lv_topi (fun x_61 ex_61 => ?_)
            refine lv_bipush (v := 10) hx hb dX2_encodeNumber_40 (by decide) ?_
            refine lv_irem hx hb dX2_encodeNumber_42 (by decide) ?_
            refine lv_topi (fun x_62 ex_62 => ?_)
            refine lv_istore (lv' := [(5, .int x_62), (4, .int un), (3, .int bg), (2, .int gd), (0, .int le), (1, .ref nu)]) hx hb dX2_encodeNumber_43 hl (by decide) rfl (fun ls hl => ?_)
            refine lv_iload_n hx hb dX2_encodeNumber_45 rfl (lv_at hl 2 rfl) ?_
            refine lv_if_ne (tgt := 54) hx hb dX2_encodeNumber_46 (by decide) (fun c_63 => ?_) (fun c_63 => ?_)
            · have tc_63 : ¬ bg.toInt = 0 := v_ne c_63
              refine lv_iconst (v := 1) hx hb dX2_encodeNumber_54 (by decide) ?_
              refine lv_goto (tgt := 59) hx hb dX2_encodeNumber_55 (by decide) ?_
              refine lv_istore_n (lv' := [(3, .int 1), (5, .int x_62), (4, .int un), (2, .int gd), (0, .int le), (1, .ref nu)]) hx hb dX2_encodeNumber_59 rfl hl (by decide) rfl (fun ls hl => ?_)
              refine lv_iload_n hx hb dX2_encodeNumber_60 rfl (lv_at hl 0 rfl) ?_
              refine lv_if_eq (tgt := 86) hx hb dX2_encodeNumber_61 (by decide) (fun c_64 => absurd c_64 (by decide)) (fun c_64 => ?_)
              refine lv_iload_n hx hb dX2_encodeNumber_64 rfl (lv_at hl 3 rfl) ?_
              refine lv_if_eq (tgt := 84) hx hb dX2_encodeNumber_65 (by decide) (fun c_65 => ?_) (fun c_65 => ?_)
              · have tc_65 : gd.toInt = 0 := v_eq c_65
                refine lv_iconst (v := 0) hx hb dX2_encodeNumber_84 (by decide) ?_
                refine lv_istore_n (lv' := [(2, .int 0), (3, .int 1), (5, .int x_62), (4, .int un), (0, .int le), (1, .ref nu)]) hx hb dX2_encodeNumber_85 rfl hl (by decide) rfl (fun ls hl => ?_)
                refine lv_iload hx hb dX2_encodeNumber_86 (lv_at hl 3 rfl) ?_
                refine lv_bipush (v := 10) hx hb dX2_encodeNumber_88 (by decide) ?_
                refine lv_idiv hx hb dX2_encodeNumber_90 (by decide) ?_
                refine lv_topi (fun x_66 ex_66 => ?_)
                have tx_66 : x_66.toInt = un.toInt / 10 := v_div ex_66 (by omega) (by decide)
                refine lv_istore (lv' := [(4, .int x_66), (2, .int 0), (3, .int 1), (5, .int x_62), (0, .int le), (1, .ref nu)]) hx hb dX2_encodeNumber_91 hl (by decide) rfl (fun ls hl => ?_)
                refine lv_goto (tgt := 31) hx hb dX2_encodeNumber_93 (by decide) ?_
                exact ih_31 0 1 x_66 l2 f2 _ _ _ (ms_lt hm_31 (by show ((x_66.toInt : Int)) < un.toInt; omega) (by show (0 : Int) < un.toInt; omega)) (by decide) (by decide) (by show 0 ≤ x_66.toInt ∧ x_66.toInt ≤ 10000; omega) (g_l2) hP hD hS (lv_sub hl [0, 2, 1, 4, 5] rfl)
              · have tc_65 : ¬ gd.toInt = 0 := v_ne c_65
                refine lv_aload_n hx hb dX2_encodeNumber_68 rfl (lv_at hl 5 rfl) ?_
                refine lv_bipush (v := 48) hx hb dX2_encodeNumber_69 (by decide) ?_
                refine lv_iload hx hb dX2_encodeNumber_71 (lv_at hl 1 rfl) ?_
                refine lv_iadd hx hb dX2_encodeNumber_73 ?_
                refine lv_topi (fun x_67 ex_67 => ?_)
                have rv67_1 := v_rng x_62
                refine kV_i (rest := []) (q0 := 0) (ci := 5) hcf (m_X5_add l dC dI cI cS H.size nu au cap l2 f2 x_67 (g_l2) (by omega)) kc_X5_add gX2_encodeNumber_X5_add rfl rfl rfl ⟨Nat.le_of_ble_eq_true rfl, Nat.le_of_ble_eq_true rfl⟩ kX_t hK hP hD hS hA [0, 1] [] rfl (by decide +kernel) rfl rfl rfl hl rfl (Nat.le_of_ble_eq_true rfl) dX2_encodeNumber_74 ⟨Nat.le_of_ble_eq_true rfl, Nat.le_of_ble_eq_true rfl⟩ (fun r_68 H locs hB hJ hSn => ?_)
                obtain ⟨lu_68, fu_68, ⟨hP1, hD1⟩, hf68_0, hf68_1, hf68_2⟩ := hB
                obtain ⟨hPn, hDn⟩ := hJ _ hP1 hD1 [(nu, .inr (5, [.ref au, .int lu_68])), (au, .inl (cI, cap, .inl fu_68))] rfl
                clear hP hD hS hJ hP1 hD1
                have hP := hPn
                have hD := hDn
                have hS := hSn
                clear hPn hDn hSn
                refine lv_if_eq (tgt := 84) hx hb dX2_encodeNumber_77 (by decide) (fun c_69 => ?_) (fun c_69 => ?_)
                · have tc_69 : r_68.toInt = 0 := v_eq c_69
                  refine lv_iconst (v := 0) hx hb dX2_encodeNumber_84 (by decide) ?_
                  refine lv_istore_n (lv' := [(2, .int 0), (3, .int 1), (5, .int x_62), (4, .int un), (0, .int le), (1, .ref nu)]) hx hb dX2_encodeNumber_85 rfl hl (by decide) rfl (fun ls hl => ?_)
                  refine lv_iload hx hb dX2_encodeNumber_86 (lv_at hl 3 rfl) ?_
                  refine lv_bipush (v := 10) hx hb dX2_encodeNumber_88 (by decide) ?_
                  refine lv_idiv hx hb dX2_encodeNumber_90 (by decide) ?_
                  refine lv_topi (fun x_70 ex_70 => ?_)
                  have tx_70 : x_70.toInt = un.toInt / 10 := v_div ex_70 (by omega) (by decide)
                  refine lv_istore (lv' := [(4, .int x_70), (2, .int 0), (3, .int 1), (5, .int x_62), (0, .int le), (1, .ref nu)]) hx hb dX2_encodeNumber_91 hl (by decide) rfl (fun ls hl => ?_)
                  refine lv_goto (tgt := 31) hx hb dX2_encodeNumber_93 (by decide) ?_
                  exact ih_31 0 1 x_70 lu_68 fu_68 _ _ _ (ms_lt hm_31 (by show ((x_70.toInt : Int)) < un.toInt; omega) (by show (0 : Int) < un.toInt; omega)) (by decide) (by decide) (by show 0 ≤ x_70.toInt ∧ x_70.toInt ≤ 10000; omega) (hf68_0) hP hD hS (lv_sub hl [0, 2, 1, 4, 5] rfl)
                · have tc_69 : ¬ r_68.toInt = 0 := v_ne c_69
                  refine lv_iconst (v := 1) hx hb dX2_encodeNumber_80 (by decide) ?_
                  refine lv_goto (tgt := 85) hx hb dX2_encodeNumber_81 (by decide) ?_
                  refine lv_istore_n (lv' := [(2, .int 1), (3, .int 1), (5, .int x_62), (4, .int un), (0, .int le), (1, .ref nu)]) hx hb dX2_encodeNumber_85 rfl hl (by decide) rfl (fun ls hl => ?_)
                  refine lv_iload hx hb dX2_encodeNumber_86 (lv_at hl 3 rfl) ?_
                  refine lv_bipush (v := 10) hx hb dX2_encodeNumber_88 (by decide) ?_
                  refine lv_idiv hx hb dX2_encodeNumber_90 (by decide) ?_
                  refine lv_topi (fun x_71 ex_71 => ?_)
                  have tx_71 : x_71.toInt = un.toInt / 10 := v_div ex_71 (by omega) (by decide)
                  refine lv_istore (lv' := [(4, .int x_71), (2, .int 1), (3, .int 1), (5, .int x_62), (0, .int le), (1, .ref nu)]) hx hb dX2_encodeNumber_91 hl (by decide) rfl (fun ls hl => ?_)
                  refine lv_goto (tgt := 31) hx hb dX2_encodeNumber_93 (by decide) ?_
                  exact ih_31 1 1 x_71 lu_68 fu_68 _ _ _ (ms_lt hm_31 (by show ((x_71.toInt : Int)) < un.toInt; omega) (by show (0 : Int) < un.toInt; omega)) (by decide) (by decide) (by show 0 ≤ x_71.toInt ∧ x_71.toInt ≤ 10000; omega) (hf68_0) hP hD hS (lv_sub hl [0, 2, 1, 4, 5] rfl)
            · have tc_63 : bg.toInt = 0 := v_eq c_63
              refine lv_iload hx hb dX2_encodeNumber_49 (lv_at hl 0 rfl) ?_
              refine lv_if_eq (tgt := 58) hx hb dX2_encodeNumber_51 (by decide) (fun c_72 => ?_) (fun c_72 => ?_)
              · have tc_72 : x_62.toInt = 0 := v_eq c_72
                refine lv_iconst (v := 0) hx hb dX2_encodeNumber_58 (by decide) ?_
                refine lv_istore_n (lv' := [(3, .int 0), (5, .int x_62), (4, .int un), (2, .int gd), (0, .int le), (1, .ref nu)]) hx hb dX2_encodeNumber_59 rfl hl (by decide) rfl (fun ls hl => ?_)
                refine lv_iload_n hx hb dX2_encodeNumber_60 rfl (lv_at hl 0 rfl) ?_
                refine lv_if_eq (tgt := 86) hx hb dX2_encodeNumber_61 (by decide) (fun c_73 => ?_) (fun c_73 => absurd c_73 (by decide))
                refine lv_iload hx hb dX2_encodeNumber_86 (lv_at hl 2 rfl) ?_
                refine lv_bipush (v := 10) hx hb dX2_encodeNumber_88 (by decide) ?_
                refine lv_idiv hx hb dX2_encodeNumber_90 (by decide) ?_
                refine lv_topi (fun x_74 ex_74 => ?_)
                have tx_74 : x_74.toInt = un.toInt / 10 := v_div ex_74 (by omega) (by decide)
                refine lv_istore (lv' := [(4, .int x_74), (3, .int 0), (5, .int x_62), (2, .int gd), (0, .int le), (1, .ref nu)]) hx hb dX2_encodeNumber_91 hl (by decide) rfl (fun ls hl => ?_)
                refine lv_goto (tgt := 31) hx hb dX2_encodeNumber_93 (by decide) ?_
                exact ih_31 gd 0 x_74 l2 f2 _ _ _ (ms_lt hm_31 (by show ((x_74.toInt : Int)) < un.toInt; omega) (by show (0 : Int) < un.toInt; omega)) (g_gd) (by decide) (by show 0 ≤ x_74.toInt ∧ x_74.toInt ≤ 10000; omega) (g_l2) hP hD hS (lv_sub hl [0, 1, 3, 4, 5] rfl)
              · have tc_72 : ¬ x_62.toInt = 0 := v_ne c_72
                refine lv_iconst (v := 1) hx hb dX2_encodeNumber_54 (by decide) ?_
                refine lv_goto (tgt := 59) hx hb dX2_encodeNumber_55 (by decide) ?_
                refine lv_istore_n (lv' := [(3, .int 1), (5, .int x_62), (4, .int un), (2, .int gd), (0, .int le), (1, .ref nu)]) hx hb dX2_encodeNumber_59 rfl hl (by decide) rfl (fun ls hl => ?_)
                refine lv_iload_n hx hb dX2_encodeNumber_60 rfl (lv_at hl 0 rfl) ?_
                refine lv_if_eq (tgt := 86) hx hb dX2_encodeNumber_61 (by decide) (fun c_75 => absurd c_75 (by decide)) (fun c_75 => ?_)
                refine lv_iload_n hx hb dX2_encodeNumber_64 rfl (lv_at hl 3 rfl) ?_
                refine lv_if_eq (tgt := 84) hx hb dX2_encodeNumber_65 (by decide) (fun c_76 => ?_) (fun c_76 => ?_)
                · have tc_76 : gd.toInt = 0 := v_eq c_76
                  refine lv_iconst (v := 0) hx hb dX2_encodeNumber_84 (by decide) ?_
                  refine lv_istore_n (lv' := [(2, .int 0), (3, .int 1), (5, .int x_62), (4, .int un), (0, .int le), (1, .ref nu)]) hx hb dX2_encodeNumber_85 rfl hl (by decide) rfl (fun ls hl => ?_)
                  refine lv_iload hx hb dX2_encodeNumber_86 (lv_at hl 3 rfl) ?_
                  refine lv_bipush (v := 10) hx hb dX2_encodeNumber_88 (by decide) ?_
                  refine lv_idiv hx hb dX2_encodeNumber_90 (by decide) ?_
                  refine lv_topi (fun x_77 ex_77 => ?_)
                  have tx_77 : x_77.toInt = un.toInt / 10 := v_div ex_77 (by omega) (by decide)
                  refine lv_istore (lv' := [(4, .int x_77), (2, .int 0), (3, .int 1), (5, .int x_62), (0, .int le), (1, .ref nu)]) hx hb dX2_encodeNumber_91 hl (by decide) rfl (fun ls hl => ?_)
                  refine lv_goto (tgt := 31) hx hb dX2_encodeNumber_93 (by decide) ?_
                  exact ih_31 0 1 x_77 l2 f2 _ _ _ (ms_lt hm_31 (by show ((x_77.toInt : Int)) < un.toInt; omega) (by show (0 : Int) < un.toInt; omega)) (by decide) (by decide) (by show 0 ≤ x_77.toInt ∧ x_77.toInt ≤ 10000; omega) (g_l2) hP hD hS (lv_sub hl [0, 2, 1, 4, 5] rfl)
                · have tc_76 : ¬ gd.toInt = 0 := v_ne c_76
                  refine lv_aload_n hx hb dX2_encodeNumber_68 rfl (lv_at hl 5 rfl) ?_
                  refine lv_bipush (v := 48) hx hb dX2_encodeNumber_69 (by decide) ?_
                  refine lv_iload hx hb dX2_encodeNumber_71 (lv_at hl 1 rfl) ?_
                  refine lv_iadd hx hb dX2_encodeNumber_73 ?_
                  refine lv_topi (fun x_78 ex_78 => ?_)
                  have rv78_1 := v_rng x_62
                  refine kV_i (rest := []) (q0 := 0) (ci := 5) hcf (m_X5_add l dC dI cI cS H.size nu au cap l2 f2 x_78 (g_l2) (by omega)) kc_X5_add gX2_encodeNumber_X5_add rfl rfl rfl ⟨Nat.le_of_ble_eq_true rfl, Nat.le_of_ble_eq_true rfl⟩ kX_t hK hP hD hS hA [0, 1] [] rfl (by decide +kernel) rfl rfl rfl hl rfl (Nat.le_of_ble_eq_true rfl) dX2_encodeNumber_74 ⟨Nat.le_of_ble_eq_true rfl, Nat.le_of_ble_eq_true rfl⟩ (fun r_79 H locs hB hJ hSn => ?_)
                  obtain ⟨lu_79, fu_79, ⟨hP1, hD1⟩, hf79_0, hf79_1, hf79_2⟩ := hB
                  obtain ⟨hPn, hDn⟩ := hJ _ hP1 hD1 [(nu, .inr (5, [.ref au, .int lu_79])), (au, .inl (cI, cap, .inl fu_79))] rfl
                  clear hP hD hS hJ hP1 hD1
                  have hP := hPn
                  have hD := hDn
                  have hS := hSn
                  clear hPn hDn hSn
                  refine lv_if_eq (tgt := 84) hx hb dX2_encodeNumber_77 (by decide) (fun c_80 => ?_) (fun c_80 => ?_)
                  · have tc_80 : r_79.toInt = 0 := v_eq c_80
                    refine lv_iconst (v := 0) hx hb dX2_encodeNumber_84 (by decide) ?_
                    refine lv_istore_n (lv' := [(2, .int 0), (3, .int 1), (5, .int x_62), (4, .int un), (0, .int le), (1, .ref nu)]) hx hb dX2_encodeNumber_85 rfl hl (by decide) rfl (fun ls hl => ?_)
                    refine lv_iload hx hb dX2_encodeNumber_86 (lv_at hl 3 rfl) ?_
                    refine lv_bipush (v := 10) hx hb dX2_encodeNumber_88 (by decide) ?_
                    refine lv_idiv hx hb dX2_encodeNumber_90 (by decide) ?_
                    refine lv_topi (fun x_81 ex_81 => ?_)
                    have tx_81 : x_81.toInt = un.toInt / 10 := v_div ex_81 (by omega) (by decide)
                    refine lv_istore (lv' := [(4, .int x_81), (2, .int 0), (3, .int 1), (5, .int x_62), (0, .int le), (1, .ref nu)]) hx hb dX2_encodeNumber_91 hl (by decide) rfl (fun ls hl => ?_)
                    refine lv_goto (tgt := 31) hx hb dX2_encodeNumber_93 (by decide) ?_
                    exact ih_31 0 1 x_81 lu_79 fu_79 _ _ _ (ms_lt hm_31 (by show ((x_81.toInt : Int)) < un.toInt; omega) (by show (0 : Int) < un.toInt; omega)) (by decide) (by decide) (by show 0 ≤ x_81.toInt ∧ x_81.toInt ≤ 10000; omega) (hf79_0) hP hD hS (lv_sub hl [0, 2, 1, 4, 5] rfl)
                  · have tc_80 : ¬ r_79.toInt = 0 := v_ne c_80
                    refine lv_iconst (v := 1) hx hb dX2_encodeNumber_80 (by decide) ?_
                    refine lv_goto (tgt := 85) hx hb dX2_encodeNumber_81 (by decide) ?_
                    refine lv_istore_n (lv' := [(2, .int 1), (3, .int 1), (5, .int x_62), (4, .int un), (0, .int le), (1, .ref nu)]) hx hb dX2_encodeNumber_85 rfl hl (by decide) rfl (fun ls hl => ?_)
                    refine lv_iload hx hb dX2_encodeNumber_86 (lv_at hl 3 rfl) ?_
                    refine lv_bipush (v := 10) hx hb dX2_encodeNumber_88 (by decide) ?_
                    refine lv_idiv hx hb dX2_encodeNumber_90 (by decide) ?_
                    refine lv_topi (fun x_82 ex_82 => ?_)
                    have tx_82 : x_82.toInt = un.toInt / 10 := v_div ex_82 (by omega) (by decide)
                    refine lv_istore (lv' := [(4, .int x_82), (2, .int 1), (3, .int 1), (5, .int x_62), (0, .int le), (1, .ref nu)]) hx hb dX2_encodeNumber_91 hl (by decide) rfl (fun ls hl => ?_)
                    refine lv_goto (tgt := 31) hx hb dX2_encodeNumber_93 (by decide) ?_
                    exact ih_31 1 1 x_82 lu_79 fu_79 _ _ _ (ms_lt hm_31 (by show ((x_82.toInt : Int)) < un.toInt; omega) (by show (0 : Int) < un.toInt; omega)) (by decide) (by decide) (by show 0 ≤ x_82.toInt ∧ x_82.toInt ≤ 10000; omega) (hf79_0) hP hD hS (lv_sub hl [0, 2, 1, 4, 5] rfl)
      exact LOOP_31 _ 1 0 10000 lu_29 fu_29 _ _ _ (ms_s _) (by decide) (by decide) (by decide) (hf29_0) hP hD hS (lv_sub hl [0, 1, 2, 3, 4] rfl)

set_option maxHeartbeats 40000000 in
set_option maxRecDepth 100000 in
theorem m_X2_encode (l : Launch) (dC : Nat → ClassId) (dI : Nat → Nat → Nat) (cI cS : ClassId) (sz : Nat) (oC : Nat) (nu : Nat) (o4 : Nat) (o5 : Nat) (a41 : Nat) (a42 : Nat) (a43 : Nat) (a51 : Nat) (a52 : Nat) (a53 : Nat) (au : Nat) (cap : Nat) (l4 : Int32) (f42 : Nat → Int32) (f43 : Nat → Int32) (l5 : Int32) (f52 : Nat → Int32) (f53 : Nat → Int32) (lu : Int32) (fu : Nat → Int32) (cd : Int32) (le : Int32) (g_lu : 0 ≤ lu.toInt ∧ lu.toInt ≤ (cap : Int)) (hcap : cap ≤ 2400) : kMi l yX2_encode wsX2_encode ({ frames := 2, cells := 0, slots := 0, locals := 46 } : Room) [.ref oC, .int cd, .int le, .ref nu] sz (dC, dI) vwCl [(cI, .int), (cS, .short)] [(oC, .inr (2, [.ref o4, .ref o5])), (o4, .inr (10, [.ref a41, .ref a42, .ref a43, .int l4])), (a42, .inl (cI, 512, .inl f42)), (a43, .inl (cI, 512, .inl f43)), (o5, .inr (10, [.ref a51, .ref a52, .ref a53, .int l5])), (a52, .inl (cI, 512, .inl f52)), (a53, .inl (cI, 512, .inl f53)), (nu, .inr (5, [.ref au, .int lu])), (au, .inl (cI, cap, .inl fu))] (fun _ => True) 0 0 (fun (A : Nat → Prop) (r : Int32) (hh9 : Heap) => ∃ (lu' : Int32) (fu' : Nat → Int32), kPD (dC, dI) vwCl A [(oC, .inr (2, [.ref o4, .ref o5])), (o4, .inr (10, [.ref a41, .ref a42, .ref a43, .int l4])), (a42, .inl (cI, 512, .inl f42)), (a43, .inl (cI, 512, .inl f43)), (o5, .inr (10, [.ref a51, .ref a52, .ref a53, .int l5])), (a52, .inl (cI, 512, .inl f52)), (a53, .inl (cI, 512, .inl f53)), (nu, .inr (5, [.ref au, .int lu'])), (au, .inl (cI, cap, .inl fu'))] hh9 ∧ (0 ≤ lu'.toInt ∧ lu'.toInt ≤ (cap : Int)) ∧ (0 ≤ r.toInt ∧ r.toInt ≤ 1)) := by
  refine kMi_of (cc := cX2_encode) (maxL := 6) (ret := (some .boolean)) (lv := [(0, .ref oC), (1, .int cd), (2, .int le), (3, .ref nu)]) (by decide +kernel) rfl rfl (Nat.le_of_ble_eq_true rfl) ?_
  intro p e s m below meth c A QQ ls hx hb hr hts hml hown hlocks hA hQQ hK hX hP hD hS hl
  have hown : s.vm.findClass RX2 = some m.cls := hown
  have hcf := k_cf hx hb hml hown hts
  refine lv_iload_n hx hb dX2_encode_0 rfl (lv_at hl 1 rfl) ?_
  by_cases c_1 : cd = 0
  · refine lv_tableIn (tgt := 32) hx hb dX2_encode_1 (by rw [c_1]; decide) (by rw [c_1]; decide) (by rw [c_1]; rfl) (by decide) ?_
    have tc_1 : cd.toInt = 0 := v_eq c_1
    refine lv_iload_n hx hb dX2_encode_32 rfl (lv_at hl 2 rfl) ?_
    refine lv_sipush (v := 128) hx hb dX2_encode_33 (by decide) ?_
    refine lv_icmp_ge (tgt := 51) hx hb dX2_encode_36 (by decide) (fun c_2 => ?_) (fun c_2 => ?_)
    · have tc_2 : 128 ≤ le.toInt := v_le c_2
      refine lv_iconst (v := 0) hx hb dX2_encode_51 (by decide) ?_
      exact kl_z (v := 0) hQQ hx hb hr hlocks hS dX2_encode_52 (rfl) ⟨lu, fu, ⟨hP, hD⟩, g_lu, by decide⟩
    · have tc_2 : le.toInt < 128 := v_nle c_2
      refine lv_aload_n hx hb dX2_encode_39 rfl (lv_at hl 3 rfl) ?_
      refine lv_iload_n hx hb dX2_encode_40 rfl (lv_at hl 2 rfl) ?_
      refine kV_i (rest := []) (q0 := 0) (ci := 5) hcf (m_X5_add l dC dI cI cS s.heap.size nu au cap lu fu le (g_lu) (by omega)) kc_X5_add gX2_encode_X5_add rfl rfl rfl ⟨Nat.le_of_ble_eq_true rfl, Nat.le_of_ble_eq_true rfl⟩ kX_t hK hP hD hS hA [7, 8] [0, 1, 2, 3, 4, 5, 6] rfl (by decide +kernel) rfl rfl rfl hl rfl (Nat.le_of_ble_eq_true rfl) dX2_encode_41 ⟨Nat.le_of_ble_eq_true rfl, Nat.le_of_ble_eq_true rfl⟩ (fun r_3 H locs hB hJ hSn => ?_)
      obtain ⟨lu_3, fu_3, ⟨hP1, hD1⟩, hf3_0, hf3_1, hf3_2⟩ := hB
      obtain ⟨hPn, hDn⟩ := hJ _ hP1 hD1 [(oC, .inr (2, [.ref o4, .ref o5])), (o4, .inr (10, [.ref a41, .ref a42, .ref a43, .int l4])), (a42, .inl (cI, 512, .inl f42)), (a43, .inl (cI, 512, .inl f43)), (o5, .inr (10, [.ref a51, .ref a52, .ref a53, .int l5])), (a52, .inl (cI, 512, .inl f52)), (a53, .inl (cI, 512, .inl f53)), (nu, .inr (5, [.ref au, .int lu_3])), (au, .inl (cI, cap, .inl fu_3))] rfl
      clear hP hD hS hJ hP1 hD1
      have hP := hPn
      have hD := hDn
      have hS := hSn
      clear hPn hDn hSn
      refine lv_if_eq (tgt := 51) hx hb dX2_encode_44 (by decide) (fun c_4 => ?_) (fun c_4 => ?_)
      · have tc_4 : r_3.toInt = 0 := v_eq c_4
        refine lv_iconst (v := 0) hx hb dX2_encode_51 (by decide) ?_
        exact kl_z (v := 0) hQQ hx hb hr hlocks hS dX2_encode_52 (rfl) ⟨lu_3, fu_3, ⟨hP, hD⟩, hf3_0, by decide⟩
      · have tc_4 : ¬ r_3.toInt = 0 := v_ne c_4
        refine lv_iconst (v := 1) hx hb dX2_encode_47 (by decide) ?_
        refine lv_goto (tgt := 52) hx hb dX2_encode_48 (by decide) ?_
        exact kl_z (v := 1) hQQ hx hb hr hlocks hS dX2_encode_52 (rfl) ⟨lu_3, fu_3, ⟨hP, hD⟩, hf3_0, by decide⟩
  · skip
    have tc_1 : ¬ cd.toInt = 0 := v_ne c_1
    by_cases c_5 : cd = 1
    · refine lv_tableIn (tgt := 53) hx hb dX2_encode_1 (by rw [c_5]; decide) (by rw [c_5]; decide) (by rw [c_5]; rfl) (by decide) ?_
      have tc_5 : cd.toInt = 1 := v_eq c_5
      refine lv_iload_n hx hb dX2_encode_53 rfl (lv_at hl 2 rfl) ?_
      refine lv_sipush (v := 256) hx hb dX2_encode_54 (by decide) ?_
      refine lv_icmp_ge (tgt := 72) hx hb dX2_encode_57 (by decide) (fun c_6 => ?_) (fun c_6 => ?_)
      · have tc_6 : 256 ≤ le.toInt := v_le c_6
        refine lv_iconst (v := 0) hx hb dX2_encode_72 (by decide) ?_
        exact kl_z (v := 0) hQQ hx hb hr hlocks hS dX2_encode_73 (rfl) ⟨lu, fu, ⟨hP, hD⟩, g_lu, by decide⟩
      · have tc_6 : le.toInt < 256 := v_nle c_6
        refine lv_aload_n hx hb dX2_encode_60 rfl (lv_at hl 3 rfl) ?_
        refine lv_iload_n hx hb dX2_encode_61 rfl (lv_at hl 2 rfl) ?_
        refine kV_i (rest := []) (q0 := 0) (ci := 5) hcf (m_X5_add l dC dI cI cS s.heap.size nu au cap lu fu le (g_lu) (by omega)) kc_X5_add gX2_encode_X5_add rfl rfl rfl ⟨Nat.le_of_ble_eq_true rfl, Nat.le_of_ble_eq_true rfl⟩ kX_t hK hP hD hS hA [7, 8] [0, 1, 2, 3, 4, 5, 6] rfl (by decide +kernel) rfl rfl rfl hl rfl (Nat.le_of_ble_eq_true rfl) dX2_encode_62 ⟨Nat.le_of_ble_eq_true rfl, Nat.le_of_ble_eq_true rfl⟩ (fun r_7 H locs hB hJ hSn => ?_)
        obtain ⟨lu_7, fu_7, ⟨hP1, hD1⟩, hf7_0, hf7_1, hf7_2⟩ := hB
        obtain ⟨hPn, hDn⟩ := hJ _ hP1 hD1 [(oC, .inr (2, [.ref o4, .ref o5])), (o4, .inr (10, [.ref a41, .ref a42, .ref a43, .int l4])), (a42, .inl (cI, 512, .inl f42)), (a43, .inl (cI, 512, .inl f43)), (o5, .inr (10, [.ref a51, .ref a52, .ref a53, .int l5])), (a52, .inl (cI, 512, .inl f52)), (a53, .inl (cI, 512, .inl f53)), (nu, .inr (5, [.ref au, .int lu_7])), (au, .inl (cI, cap, .inl fu_7))] rfl
        clear hP hD hS hJ hP1 hD1
        have hP := hPn
        have hD := hDn
        have hS := hSn
        clear hPn hDn hSn
        refine lv_if_eq (tgt := 72) hx hb dX2_encode_65 (by decide) (fun c_8 => ?_) (fun c_8 => ?_)
        · have tc_8 : r_7.toInt = 0 := v_eq c_8
          refine lv_iconst (v := 0) hx hb dX2_encode_72 (by decide) ?_
          exact kl_z (v := 0) hQQ hx hb hr hlocks hS dX2_encode_73 (rfl) ⟨lu_7, fu_7, ⟨hP, hD⟩, hf7_0, by decide⟩
        · have tc_8 : ¬ r_7.toInt = 0 := v_ne c_8
          refine lv_iconst (v := 1) hx hb dX2_encode_68 (by decide) ?_
          refine lv_goto (tgt := 73) hx hb dX2_encode_69 (by decide) ?_
          exact kl_z (v := 1) hQQ hx hb hr hlocks hS dX2_encode_73 (rfl) ⟨lu_7, fu_7, ⟨hP, hD⟩, hf7_0, by decide⟩
    · skip
      have tc_5 : ¬ cd.toInt = 1 := v_ne c_5
      by_cases c_9 : cd = 2
      · refine lv_tableIn (tgt := 74) hx hb dX2_encode_1 (by rw [c_9]; decide) (by rw [c_9]; decide) (by rw [c_9]; rfl) (by decide) ?_
        have tc_9 : cd.toInt = 2 := v_eq c_9
        refine lv_iload_n hx hb dX2_encode_74 rfl (lv_at hl 2 rfl) ?_
        refine lv_aload_n hx hb dX2_encode_75 rfl (lv_at hl 3 rfl) ?_
        refine kS_i (rest := []) hcf (m_X2_encodeMany l dC dI cI cS s.heap.size nu au cap lu fu le (g_lu) (by omega)) kc_X2_encodeMany gX2_encode_X2_encodeMany rfl rfl ⟨Nat.le_of_ble_eq_true rfl, Nat.le_of_ble_eq_true rfl⟩ kX_t hK hP hD hS hA [7, 8] [0, 1, 2, 3, 4, 5, 6] rfl (by decide +kernel) rfl hl rfl (Nat.le_of_ble_eq_true rfl) dX2_encode_76 ⟨Nat.le_of_ble_eq_true rfl, Nat.le_of_ble_eq_true rfl⟩ (fun r_10 H locs hB hJ hSn => ?_)
        obtain ⟨lu_10, fu_10, ⟨hP1, hD1⟩, hf10_0, hf10_1⟩ := hB
        obtain ⟨hPn, hDn⟩ := hJ _ hP1 hD1 [(oC, .inr (2, [.ref o4, .ref o5])), (o4, .inr (10, [.ref a41, .ref a42, .ref a43, .int l4])), (a42, .inl (cI, 512, .inl f42)), (a43, .inl (cI, 512, .inl f43)), (o5, .inr (10, [.ref a51, .ref a52, .ref a53, .int l5])), (a52, .inl (cI, 512, .inl f52)), (a53, .inl (cI, 512, .inl f53)), (nu, .inr (5, [.ref au, .int lu_10])), (au, .inl (cI, cap, .inl fu_10))] rfl
        clear hP hD hS hJ hP1 hD1
        have hP := hPn
        have hD := hDn
        have hS := hSn
        clear hPn hDn hSn
        exact kl_z (v := r_10) hQQ hx hb hr hlocks hS dX2_encode_79 (v_bool (by omega)) ⟨lu_10, fu_10, ⟨hP, hD⟩, hf10_0, hf10_1⟩
      · skip
        have tc_9 : ¬ cd.toInt = 2 := v_ne c_9
        by_cases c_11 : cd = 3
        · refine lv_tableIn (tgt := 80) hx hb dX2_encode_1 (by rw [c_11]; decide) (by rw [c_11]; decide) (by rw [c_11]; rfl) (by decide) ?_
          have tc_11 : cd.toInt = 3 := v_eq c_11
          refine lv_iload_n hx hb dX2_encode_80 rfl (lv_at hl 2 rfl) ?_
          refine kS_i (rest := []) hcf (m_X2_isNumbered l dC dI cI cS s.heap.size le ) kc_X2_isNumbered gX2_encode_X2_isNumbered rfl rfl ⟨Nat.le_of_ble_eq_true rfl, Nat.le_of_ble_eq_true rfl⟩ kX_t hK hP hD hS hA [] [0, 1, 2, 3, 4, 5, 6, 7, 8] rfl (by decide +kernel) rfl hl rfl (Nat.le_of_ble_eq_true rfl) dX2_encode_81 ⟨Nat.le_of_ble_eq_true rfl, Nat.le_of_ble_eq_true rfl⟩ (fun r_12 H locs hB hJ hSn => ?_)
          obtain ⟨⟨hP1, hD1⟩, hf12_0⟩ := hB
          obtain ⟨hPn, hDn⟩ := hJ _ hP1 hD1 [(oC, .inr (2, [.ref o4, .ref o5])), (o4, .inr (10, [.ref a41, .ref a42, .ref a43, .int l4])), (a42, .inl (cI, 512, .inl f42)), (a43, .inl (cI, 512, .inl f43)), (o5, .inr (10, [.ref a51, .ref a52, .ref a53, .int l5])), (a52, .inl (cI, 512, .inl f52)), (a53, .inl (cI, 512, .inl f53)), (nu, .inr (5, [.ref au, .int lu])), (au, .inl (cI, cap, .inl fu))] rfl
          clear hP hD hS hJ hP1 hD1
          have hP := hPn
          have hD := hDn
          have hS := hSn
          clear hPn hDn hSn
          refine lv_if_eq (tgt := 95) hx hb dX2_encode_84 (by decide) (fun c_13 => ?_) (fun c_13 => ?_)
          · have tc_13 : r_12.toInt = 0 := v_eq c_13
            refine lv_aload_n hx hb dX2_encode_95 rfl (lv_at hl 3 rfl) ?_
            refine lv_iload_n hx hb dX2_encode_96 rfl (lv_at hl 2 rfl) ?_
            refine kV_i (rest := []) (q0 := 0) (ci := 5) hcf (m_X5_add l dC dI cI cS H.size nu au cap lu fu le (g_lu) (by omega)) kc_X5_add gX2_encode_X5_add rfl rfl rfl ⟨Nat.le_of_ble_eq_true rfl, Nat.le_of_ble_eq_true rfl⟩ kX_t hK hP hD hS hA [7, 8] [0, 1, 2, 3, 4, 5, 6] rfl (by decide +kernel) rfl rfl rfl hl rfl (Nat.le_of_ble_eq_true rfl) dX2_encode_97 ⟨Nat.le_of_ble_eq_true rfl, Nat.le_of_ble_eq_true rfl⟩ (fun r_14 H locs hB hJ hSn => ?_)
            obtain ⟨lu_14, fu_14, ⟨hP1, hD1⟩, hf14_0, hf14_1, hf14_2⟩ := hB
            obtain ⟨hPn, hDn⟩ := hJ _ hP1 hD1 [(oC, .inr (2, [.ref o4, .ref o5])), (o4, .inr (10, [.ref a41, .ref a42, .ref a43, .int l4])), (a42, .inl (cI, 512, .inl f42)), (a43, .inl (cI, 512, .inl f43)), (o5, .inr (10, [.ref a51, .ref a52, .ref a53, .int l5])), (a52, .inl (cI, 512, .inl f52)), (a53, .inl (cI, 512, .inl f53)), (nu, .inr (5, [.ref au, .int lu_14])), (au, .inl (cI, cap, .inl fu_14))] rfl
            clear hP hD hS hJ hP1 hD1
            have hP := hPn
            have hD := hDn
            have hS := hSn
            clear hPn hDn hSn
            exact kl_z (v := r_14) hQQ hx hb hr hlocks hS dX2_encode_100 (v_bool (by omega)) ⟨lu_14, fu_14, ⟨hP, hD⟩, hf14_0, hf14_1⟩
          · have tc_13 : ¬ r_12.toInt = 0 := v_ne c_13
            refine lv_iload_n hx hb dX2_encode_87 rfl (lv_at hl 2 rfl) ?_
            refine lv_aload_n hx hb dX2_encode_88 rfl (lv_at hl 3 rfl) ?_
            refine kS_i (rest := []) hcf (m_X2_encodeNumber l dC dI cI cS H.size nu au cap lu fu le (g_lu) (by omega)) kc_X2_encodeNumber gX2_encode_X2_encodeNumber rfl rfl ⟨Nat.le_of_ble_eq_true rfl, Nat.le_of_ble_eq_true rfl⟩ kX_t hK hP hD hS hA [7, 8] [0, 1, 2, 3, 4, 5, 6] rfl (by decide +kernel) rfl hl rfl (Nat.le_of_ble_eq_true rfl) dX2_encode_89 ⟨Nat.le_of_ble_eq_true rfl, Nat.le_of_ble_eq_true rfl⟩ (fun r_15 H locs hB hJ hSn => ?_)
            obtain ⟨lu_15, fu_15, ⟨hP1, hD1⟩, hf15_0, hf15_1⟩ := hB
            obtain ⟨hPn, hDn⟩ := hJ _ hP1 hD1 [(oC, .inr (2, [.ref o4, .ref o5])), (o4, .inr (10, [.ref a41, .ref a42, .ref a43, .int l4])), (a42, .inl (cI, 512, .inl f42)), (a43, .inl (cI, 512, .inl f43)), (o5, .inr (10, [.ref a51, .ref a52, .ref a53, .int l5])), (a52, .inl (cI, 512, .inl f52)), (a53, .inl (cI, 512, .inl f53)), (nu, .inr (5, [.ref au, .int lu_15])), (au, .inl (cI, cap, .inl fu_15))] rfl
            clear hP hD hS hJ hP1 hD1
            have hP := hPn
            have hD := hDn
            have hS := hSn
            clear hPn hDn hSn
            refine lv_goto (tgt := 100) hx hb dX2_encode_92 (by decide) ?_
            exact kl_z (v := r_15) hQQ hx hb hr hlocks hS dX2_encode_100 (v_bool (by omega)) ⟨lu_15, fu_15, ⟨hP, hD⟩, hf15_0, hf15_1⟩
        · skip
          have tc_11 : ¬ cd.toInt = 3 := v_ne c_11
          refine lv_tableOut (tgt := 101) hx hb dX2_encode_1 (by omega) (by decide) ?_
          refine lv_aload_n hx hb dX2_encode_101 rfl (lv_at hl 0 rfl) ?_
          refine lv_iload_n hx hb dX2_encode_102 rfl (lv_at hl 1 rfl) ?_
          by_cases cs_16 : cd.toInt = 4
          · refine kV_r (rest := []) (q0 := 0) (ci := 2) hcf (m_X2_toldCode_4 l dC dI cI cS s.heap.size oC o4 o5 cd (by omega)) kc_X2_toldCode gX2_encode_X2_toldCode rfl rfl rfl ⟨Nat.le_of_ble_eq_true rfl, Nat.le_of_ble_eq_true rfl⟩ kX_t hK hP hD hS hA [0] [1, 2, 3, 4, 5, 6, 7, 8] rfl (by decide +kernel) rfl rfl rfl hl rfl (Nat.le_of_ble_eq_true rfl) dX2_encode_103 ⟨Nat.le_of_ble_eq_true rfl, Nat.le_of_ble_eq_true rfl⟩ (fun r_17 H locs hB hJ hSn => ?_)
            obtain ⟨hra, ⟨hP1, hD1⟩⟩ := hB
            rw [hra]
            obtain ⟨hPn, hDn⟩ := hJ _ hP1 hD1 [(o4, .inr (10, [.ref a41, .ref a42, .ref a43, .int l4])), (a42, .inl (cI, 512, .inl f42)), (a43, .inl (cI, 512, .inl f43)), (o5, .inr (10, [.ref a51, .ref a52, .ref a53, .int l5])), (a52, .inl (cI, 512, .inl f52)), (a53, .inl (cI, 512, .inl f53)), (nu, .inr (5, [.ref au, .int lu])), (au, .inl (cI, cap, .inl fu)), (oC, .inr (2, [.ref o4, .ref o5]))] rfl
            clear hP hD hS hJ hP1 hD1
            have hP := hPn
            have hD := hDn
            have hS := hSn
            clear hPn hDn hSn
            refine lv_astore (lv' := [(4, .ref o4), (0, .ref oC), (1, .int cd), (2, .int le), (3, .ref nu)]) hx hb dX2_encode_106 hl (by decide) rfl (fun ls hl => ?_)
            refine lv_aload hx hb dX2_encode_108 (lv_at hl 0 rfl) ?_
            refine lv_ifnonnull (tgt := 117) hx hb dX2_encode_110 (by decide) ?_
            refine lv_aload hx hb dX2_encode_117 (lv_at hl 0 rfl) ?_
            refine lv_iload_n hx hb dX2_encode_119 rfl (lv_at hl 3 rfl) ?_
            refine kV_i (rest := []) (q0 := 0) (ci := 10) hcf (m_X10_byteFor l dC dI cI cS H.size o4 a41 a42 a43 l4 f42 f43 le ) kc_X10_byteFor gX2_encode_X10_byteFor rfl rfl rfl ⟨Nat.le_of_ble_eq_true rfl, Nat.le_of_ble_eq_true rfl⟩ kX_t hK hP hD hS hA [0, 1, 2] [3, 4, 5, 6, 7, 8] rfl (by decide +kernel) rfl rfl rfl hl rfl (Nat.le_of_ble_eq_true rfl) dX2_encode_120 ⟨Nat.le_of_ble_eq_true rfl, Nat.le_of_ble_eq_true rfl⟩ (fun r_18 H locs hB hJ hSn => ?_)
            obtain ⟨hP1, hD1⟩ := hB
            obtain ⟨hPn, hDn⟩ := hJ _ hP1 hD1 [(o5, .inr (10, [.ref a51, .ref a52, .ref a53, .int l5])), (a52, .inl (cI, 512, .inl f52)), (a53, .inl (cI, 512, .inl f53)), (nu, .inr (5, [.ref au, .int lu])), (au, .inl (cI, cap, .inl fu)), (oC, .inr (2, [.ref o4, .ref o5])), (o4, .inr (10, [.ref a41, .ref a42, .ref a43, .int l4])), (a42, .inl (cI, 512, .inl f42)), (a43, .inl (cI, 512, .inl f43))] rfl
            clear hP hD hS hJ hP1 hD1
            have hP := hPn
            have hD := hDn
            have hS := hSn
            clear hPn hDn hSn
            refine lv_istore (lv' := [(5, .int r_18), (4, .ref o4), (0, .ref oC), (1, .int cd), (2, .int le), (3, .ref nu)]) hx hb dX2_encode_123 hl (by decide) rfl (fun ls hl => ?_)
            refine lv_iload hx hb dX2_encode_125 (lv_at hl 0 rfl) ?_
            refine lv_iconst (v := (-1)) hx hb dX2_encode_127 (by decide) ?_
            refine lv_icmp_eq (tgt := 144) hx hb dX2_encode_128 (by decide) (fun c_19 => ?_) (fun c_19 => ?_)
            · have tc_19 : r_18.toInt = (-1) := v_eq c_19
              refine lv_iconst (v := 0) hx hb dX2_encode_144 (by decide) ?_
              exact kl_z (v := 0) hQQ hx hb hr hlocks hS dX2_encode_145 (rfl) ⟨lu, fu, kPD_sub hP hD [5, 6, 7, 8, 0, 1, 2, 3, 4] (by decide +kernel) rfl, g_lu, by decide⟩
            · have tc_19 : ¬ r_18.toInt = (-1) := v_ne c_19
              refine lv_aload_n hx hb dX2_encode_131 rfl (lv_at hl 5 rfl) ?_
              refine lv_iload hx hb dX2_encode_132 (lv_at hl 0 rfl) ?_
              refine kV_i (rest := []) (q0 := 0) (ci := 5) hcf (m_X5_add l dC dI cI cS H.size nu au cap lu fu r_18 (g_lu) (by omega)) kc_X5_add gX2_encode_X5_add rfl rfl rfl ⟨Nat.le_of_ble_eq_true rfl, Nat.le_of_ble_eq_true rfl⟩ kX_t hK hP hD hS hA [3, 4] [0, 1, 2, 5, 6, 7, 8] rfl (by decide +kernel) rfl rfl rfl hl rfl (Nat.le_of_ble_eq_true rfl) dX2_encode_134 ⟨Nat.le_of_ble_eq_true rfl, Nat.le_of_ble_eq_true rfl⟩ (fun r_20 H locs hB hJ hSn => ?_)
              obtain ⟨lu_20, fu_20, ⟨hP1, hD1⟩, hf20_0, hf20_1, hf20_2⟩ := hB
              obtain ⟨hPn, hDn⟩ := hJ _ hP1 hD1 [(o5, .inr (10, [.ref a51, .ref a52, .ref a53, .int l5])), (a52, .inl (cI, 512, .inl f52)), (a53, .inl (cI, 512, .inl f53)), (oC, .inr (2, [.ref o4, .ref o5])), (o4, .inr (10, [.ref a41, .ref a42, .ref a43, .int l4])), (a42, .inl (cI, 512, .inl f42)), (a43, .inl (cI, 512, .inl f43)), (nu, .inr (5, [.ref au, .int lu_20])), (au, .inl (cI, cap, .inl fu_20))] rfl
              clear hP hD hS hJ hP1 hD1
              have hP := hPn
              have hD := hDn
              have hS := hSn
              clear hPn hDn hSn
              refine lv_if_eq (tgt := 144) hx hb dX2_encode_137 (by decide) (fun c_21 => ?_) (fun c_21 => ?_)
              · have tc_21 : r_20.toInt = 0 := v_eq c_21
                refine lv_iconst (v := 0) hx hb dX2_encode_144 (by decide) ?_
                exact kl_z (v := 0) hQQ hx hb hr hlocks hS dX2_encode_145 (rfl) ⟨lu_20, fu_20, kPD_sub hP hD [3, 4, 5, 6, 0, 1, 2, 7, 8] (by decide +kernel) rfl, hf20_0, by decide⟩
              · have tc_21 : ¬ r_20.toInt = 0 := v_ne c_21
                refine lv_iconst (v := 1) hx hb dX2_encode_140 (by decide) ?_
                refine lv_goto (tgt := 145) hx hb dX2_encode_141 (by decide) ?_
                exact kl_z (v := 1) hQQ hx hb hr hlocks hS dX2_encode_145 (rfl) ⟨lu_20, fu_20, kPD_sub hP hD [3, 4, 5, 6, 0, 1, 2, 7, 8] (by decide +kernel) rfl, hf20_0, by decide⟩
          · skip
            by_cases cs_22 : cd.toInt = 5
            · refine kV_r (rest := []) (q0 := 0) (ci := 2) hcf (m_X2_toldCode_5 l dC dI cI cS s.heap.size oC o4 o5 cd (by omega)) kc_X2_toldCode gX2_encode_X2_toldCode rfl rfl rfl ⟨Nat.le_of_ble_eq_true rfl, Nat.le_of_ble_eq_true rfl⟩ kX_t hK hP hD hS hA [0] [1, 2, 3, 4, 5, 6, 7, 8] rfl (by decide +kernel) rfl rfl rfl hl rfl (Nat.le_of_ble_eq_true rfl) dX2_encode_103 ⟨Nat.le_of_ble_eq_true rfl, Nat.le_of_ble_eq_true rfl⟩ (fun r_23 H locs hB hJ hSn => ?_)
              obtain ⟨hra, ⟨hP1, hD1⟩⟩ := hB
              rw [hra]
              obtain ⟨hPn, hDn⟩ := hJ _ hP1 hD1 [(o4, .inr (10, [.ref a41, .ref a42, .ref a43, .int l4])), (a42, .inl (cI, 512, .inl f42)), (a43, .inl (cI, 512, .inl f43)), (o5, .inr (10, [.ref a51, .ref a52, .ref a53, .int l5])), (a52, .inl (cI, 512, .inl f52)), (a53, .inl (cI, 512, .inl f53)), (nu, .inr (5, [.ref au, .int lu])), (au, .inl (cI, cap, .inl fu)), (oC, .inr (2, [.ref o4, .ref o5]))] rfl
              clear hP hD hS hJ hP1 hD1
              have hP := hPn
              have hD := hDn
              have hS := hSn
              clear hPn hDn hSn
              refine lv_astore (lv' := [(4, .ref o5), (0, .ref oC), (1, .int cd), (2, .int le), (3, .ref nu)]) hx hb dX2_encode_106 hl (by decide) rfl (fun ls hl => ?_)
              refine lv_aload hx hb dX2_encode_108 (lv_at hl 0 rfl) ?_
              refine lv_ifnonnull (tgt := 117) hx hb dX2_encode_110 (by decide) ?_
              refine lv_aload hx hb dX2_encode_117 (lv_at hl 0 rfl) ?_
              refine lv_iload_n hx hb dX2_encode_119 rfl (lv_at hl 3 rfl) ?_
              refine kV_i (rest := []) (q0 := 0) (ci := 10) hcf (m_X10_byteFor l dC dI cI cS H.size o5 a51 a52 a53 l5 f52 f53 le ) kc_X10_byteFor gX2_encode_X10_byteFor rfl rfl rfl ⟨Nat.le_of_ble_eq_true rfl, Nat.le_of_ble_eq_true rfl⟩ kX_t hK hP hD hS hA [3, 4, 5] [0, 1, 2, 6, 7, 8] rfl (by decide +kernel) rfl rfl rfl hl rfl (Nat.le_of_ble_eq_true rfl) dX2_encode_120 ⟨Nat.le_of_ble_eq_true rfl, Nat.le_of_ble_eq_true rfl⟩ (fun r_24 H locs hB hJ hSn => ?_)
              obtain ⟨hP1, hD1⟩ := hB
              obtain ⟨hPn, hDn⟩ := hJ _ hP1 hD1 [(o4, .inr (10, [.ref a41, .ref a42, .ref a43, .int l4])), (a42, .inl (cI, 512, .inl f42)), (a43, .inl (cI, 512, .inl f43)), (nu, .inr (5, [.ref au, .int lu])), (au, .inl (cI, cap, .inl fu)), (oC, .inr (2, [.ref o4, .ref o5])), (o5, .inr (10, [.ref a51, .ref a52, .ref a53, .int l5])), (a52, .inl (cI, 512, .inl f52)), (a53, .inl (cI, 512, .inl f53))] rfl
              clear hP hD hS hJ hP1 hD1
              have hP := hPn
              have hD := hDn
              have hS := hSn
              clear hPn hDn hSn
              refine lv_istore (lv' := [(5, .int r_24), (4, .ref o5), (0, .ref oC), (1, .int cd), (2, .int le), (3, .ref nu)]) hx hb dX2_encode_123 hl (by decide) rfl (fun ls hl => ?_)
              refine lv_iload hx hb dX2_encode_125 (lv_at hl 0 rfl) ?_
              refine lv_iconst (v := (-1)) hx hb dX2_encode_127 (by decide) ?_
              refine lv_icmp_eq (tgt := 144) hx hb dX2_encode_128 (by decide) (fun c_25 => ?_) (fun c_25 => ?_)
              · have tc_25 : r_24.toInt = (-1) := v_eq c_25
                refine lv_iconst (v := 0) hx hb dX2_encode_144 (by decide) ?_
                exact kl_z (v := 0) hQQ hx hb hr hlocks hS dX2_encode_145 (rfl) ⟨lu, fu, kPD_sub hP hD [5, 0, 1, 2, 6, 7, 8, 3, 4] (by decide +kernel) rfl, g_lu, by decide⟩
              · have tc_25 : ¬ r_24.toInt = (-1) := v_ne c_25
                refine lv_aload_n hx hb dX2_encode_131 rfl (lv_at hl 5 rfl) ?_
                refine lv_iload hx hb dX2_encode_132 (lv_at hl 0 rfl) ?_
                refine kV_i (rest := []) (q0 := 0) (ci := 5) hcf (m_X5_add l dC dI cI cS H.size nu au cap lu fu r_24 (g_lu) (by omega)) kc_X5_add gX2_encode_X5_add rfl rfl rfl ⟨Nat.le_of_ble_eq_true rfl, Nat.le_of_ble_eq_true rfl⟩ kX_t hK hP hD hS hA [3, 4] [0, 1, 2, 5, 6, 7, 8] rfl (by decide +kernel) rfl rfl rfl hl rfl (Nat.le_of_ble_eq_true rfl) dX2_encode_134 ⟨Nat.le_of_ble_eq_true rfl, Nat.le_of_ble_eq_true rfl⟩ (fun r_26 H locs hB hJ hSn => ?_)
                obtain ⟨lu_26, fu_26, ⟨hP1, hD1⟩, hf26_0, hf26_1, hf26_2⟩ := hB
                obtain ⟨hPn, hDn⟩ := hJ _ hP1 hD1 [(o4, .inr (10, [.ref a41, .ref a42, .ref a43, .int l4])), (a42, .inl (cI, 512, .inl f42)), (a43, .inl (cI, 512, .inl f43)), (oC, .inr (2, [.ref o4, .ref o5])), (o5, .inr (10, [.ref a51, .ref a52, .ref a53, .int l5])), (a52, .inl (cI, 512, .inl f52)), (a53, .inl (cI, 512, .inl f53)), (nu, .inr (5, [.ref au, .int lu_26])), (au, .inl (cI, cap, .inl fu_26))] rfl
                clear hP hD hS hJ hP1 hD1
                have hP := hPn
                have hD := hDn
                have hS := hSn
                clear hPn hDn hSn
                refine lv_if_eq (tgt := 144) hx hb dX2_encode_137 (by decide) (fun c_27 => ?_) (fun c_27 => ?_)
                · have tc_27 : r_26.toInt = 0 := v_eq c_27
                  refine lv_iconst (v := 0) hx hb dX2_encode_144 (by decide) ?_
                  exact kl_z (v := 0) hQQ hx hb hr hlocks hS dX2_encode_145 (rfl) ⟨lu_26, fu_26, kPD_sub hP hD [3, 0, 1, 2, 4, 5, 6, 7, 8] (by decide +kernel) rfl, hf26_0, by decide⟩
                · have tc_27 : ¬ r_26.toInt = 0 := v_ne c_27
                  refine lv_iconst (v := 1) hx hb dX2_encode_140 (by decide) ?_
                  refine lv_goto (tgt := 145) hx hb dX2_encode_141 (by decide) ?_
                  exact kl_z (v := 1) hQQ hx hb hr hlocks hS dX2_encode_145 (rfl) ⟨lu_26, fu_26, kPD_sub hP hD [3, 0, 1, 2, 4, 5, 6, 7, 8] (by decide +kernel) rfl, hf26_0, by decide⟩
            · skip
              refine kV_q (rest := []) (q0 := 0) (ci := 2) hcf (m_X2_toldCode_n l dC dI cI cS s.heap.size oC o4 o5 cd (by omega) (by omega)) kc_X2_toldCode gX2_encode_X2_toldCode rfl rfl rfl ⟨Nat.le_of_ble_eq_true rfl, Nat.le_of_ble_eq_true rfl⟩ kX_t hK hP hD hS hA [0] [1, 2, 3, 4, 5, 6, 7, 8] rfl (by decide +kernel) rfl rfl rfl hl rfl (Nat.le_of_ble_eq_true rfl) dX2_encode_103 ⟨Nat.le_of_ble_eq_true rfl, Nat.le_of_ble_eq_true rfl⟩ (fun H locs hB hJ hSn => ?_)
              obtain ⟨hP1, hD1⟩ := hB
              obtain ⟨hPn, hDn⟩ := hJ _ hP1 hD1 [(o4, .inr (10, [.ref a41, .ref a42, .ref a43, .int l4])), (a42, .inl (cI, 512, .inl f42)), (a43, .inl (cI, 512, .inl f43)), (o5, .inr (10, [.ref a51, .ref a52, .ref a53, .int l5])), (a52, .inl (cI, 512, .inl f52)), (a53, .inl (cI, 512, .inl f53)), (nu, .inr (5, [.ref au, .int lu])), (au, .inl (cI, cap, .inl fu)), (oC, .inr (2, [.ref o4, .ref o5]))] rfl
              clear hP hD hS hJ hP1 hD1
              have hP := hPn
              have hD := hDn
              have hS := hSn
              clear hPn hDn hSn
              refine lv_astoreN (lv' := [(4, .null), (0, .ref oC), (1, .int cd), (2, .int le), (3, .ref nu)]) hx hb dX2_encode_106 hl (by decide) rfl (fun ls hl => ?_)
              refine lv_aloadN hx hb dX2_encode_108 (lv_at hl 0 rfl) ?_
              refine lv_ifnonnullN hx hb dX2_encode_110 ?_
              refine lv_iconst (v := (-1)) hx hb dX2_encode_113 (by decide) ?_
              refine lv_goto (tgt := 123) hx hb dX2_encode_114 (by decide) ?_
              refine lv_istore (lv' := [(5, .int (-1)), (4, .null), (0, .ref oC), (1, .int cd), (2, .int le), (3, .ref nu)]) hx hb dX2_encode_123 hl (by decide) rfl (fun ls hl => ?_)
              refine lv_iload hx hb dX2_encode_125 (lv_at hl 0 rfl) ?_
              refine lv_iconst (v := (-1)) hx hb dX2_encode_127 (by decide) ?_
              refine lv_icmp_eq (tgt := 144) hx hb dX2_encode_128 (by decide) (fun c_29 => ?_) (fun c_29 => absurd c_29 (by decide))
              refine lv_iconst (v := 0) hx hb dX2_encode_144 (by decide) ?_
              exact kl_z (v := 0) hQQ hx hb hr hlocks hS dX2_encode_145 (rfl) ⟨lu, fu, kPD_sub hP hD [8, 0, 1, 2, 3, 4, 5, 6, 7] (by decide +kernel) rfl, g_lu, by decide⟩

set_option maxHeartbeats 40000000 in
set_option maxRecDepth 100000 in
theorem m_X2_isWritten (l : Launch) (dC : Nat → ClassId) (dI : Nat → Nat → Nat) (cI cS : ClassId) (sz : Nat) (oC : Nat) (o4 : Nat) (o5 : Nat) (a41 : Nat) (a42 : Nat) (a43 : Nat) (a51 : Nat) (a52 : Nat) (a53 : Nat) (l4 : Int32) (f41 : Nat → Int32) (l5 : Int32) (f51 : Nat → Int32) (cd : Int32) (v : Int32)  : kMi l yX2_isWritten wsX2_isWritten ({ frames := 2, cells := 0, slots := 0, locals := 44 } : Room) [.ref oC, .int cd, .int v] sz (dC, dI) vwCl [(cI, .int), (cS, .short)] [(oC, .inr (2, [.ref o4, .ref o5])), (o4, .inr (10, [.ref a41, .ref a42, .ref a43, .int l4])), (a41, .inl (cI, 256, .inl f41)), (o5, .inr (10, [.ref a51, .ref a52, .ref a53, .int l5])), (a51, .inl (cI, 256, .inl f51))] (fun _ => True) 0 0 (fun (A : Nat → Prop) (r : Int32) (hh9 : Heap) => kPD (dC, dI) vwCl A [(oC, .inr (2, [.ref o4, .ref o5])), (o4, .inr (10, [.ref a41, .ref a42, .ref a43, .int l4])), (a41, .inl (cI, 256, .inl f41)), (o5, .inr (10, [.ref a51, .ref a52, .ref a53, .int l5])), (a51, .inl (cI, 256, .inl f51))] hh9 ∧ (0 ≤ r.toInt ∧ r.toInt ≤ 1)) := by
  refine kMi_of (cc := cX2_isWritten) (maxL := 3) (ret := (some .boolean)) (lv := [(0, .ref oC), (1, .int cd), (2, .int v)]) (by decide +kernel) rfl rfl (Nat.le_of_ble_eq_true rfl) ?_
  intro p e s m below meth c A QQ ls hx hb hr hts hml hown hlocks hA hQQ hK hX hP hD hS hl
  have hown : s.vm.findClass RX2 = some m.cls := hown
  have hcf := k_cf hx hb hml hown hts
  refine lv_iload_n hx hb dX2_isWritten_0 rfl (lv_at hl 1 rfl) ?_
  by_cases c_1 : cd = 2
  · refine lv_lookup (tgt := 28) hx hb dX2_isWritten_1 (by decide) (by rw [c_1] <;> rfl) (by decide) ?_
    have tc_1 : cd.toInt = 2 := v_eq c_1
    refine lv_iload_n hx hb dX2_isWritten_28 rfl (lv_at hl 2 rfl) ?_
    refine lv_sipush (v := 192) hx hb dX2_isWritten_29 (by decide) ?_
    refine lv_icmp_lt (tgt := 49) hx hb dX2_isWritten_32 (by decide) (fun c_2 => ?_) (fun c_2 => ?_)
    · have tc_2 : v.toInt < 192 := v_lt c_2
      refine lv_iconst (v := 1) hx hb dX2_isWritten_49 (by decide) ?_
      refine lv_goto (tgt := 54) hx hb dX2_isWritten_50 (by decide) ?_
      exact kl_z (v := 1) hQQ hx hb hr hlocks hS dX2_isWritten_54 (rfl) ⟨⟨hP, hD⟩, by decide⟩
    · have tc_2 : 192 ≤ v.toInt := v_nlt c_2
      refine lv_iload_n hx hb dX2_isWritten_35 rfl (lv_at hl 2 rfl) ?_
      refine lv_sipush (v := 193) hx hb dX2_isWritten_36 (by decide) ?_
      refine lv_icmp_le (tgt := 53) hx hb dX2_isWritten_39 (by decide) (fun c_3 => ?_) (fun c_3 => ?_)
      · have tc_3 : v.toInt ≤ 193 := v_le c_3
        refine lv_iconst (v := 0) hx hb dX2_isWritten_53 (by decide) ?_
        exact kl_z (v := 0) hQQ hx hb hr hlocks hS dX2_isWritten_54 (rfl) ⟨⟨hP, hD⟩, by decide⟩
      · have tc_3 : 193 < v.toInt := v_nle c_3
        refine lv_iload_n hx hb dX2_isWritten_42 rfl (lv_at hl 2 rfl) ?_
        refine lv_sipush (v := 240) hx hb dX2_isWritten_43 (by decide) ?_
        refine lv_icmp_ge (tgt := 53) hx hb dX2_isWritten_46 (by decide) (fun c_4 => ?_) (fun c_4 => ?_)
        · have tc_4 : 240 ≤ v.toInt := v_le c_4
          refine lv_iconst (v := 0) hx hb dX2_isWritten_53 (by decide) ?_
          exact kl_z (v := 0) hQQ hx hb hr hlocks hS dX2_isWritten_54 (rfl) ⟨⟨hP, hD⟩, by decide⟩
        · have tc_4 : v.toInt < 240 := v_nle c_4
          refine lv_iconst (v := 1) hx hb dX2_isWritten_49 (by decide) ?_
          refine lv_goto (tgt := 54) hx hb dX2_isWritten_50 (by decide) ?_
          exact kl_z (v := 1) hQQ hx hb hr hlocks hS dX2_isWritten_54 (rfl) ⟨⟨hP, hD⟩, by decide⟩
  · skip
    have tc_1 : ¬ cd.toInt = 2 := v_ne c_1
    by_cases c_5 : cd = 3
    · refine lv_lookup (tgt := 55) hx hb dX2_isWritten_1 (by decide) (by rw [c_5] <;> rfl) (by decide) ?_
      have tc_5 : cd.toInt = 3 := v_eq c_5
      refine lv_iload_n hx hb dX2_isWritten_55 rfl (lv_at hl 2 rfl) ?_
      refine lv_sipush (v := 128) hx hb dX2_isWritten_56 (by decide) ?_
      refine lv_icmp_ge (tgt := 66) hx hb dX2_isWritten_59 (by decide) (fun c_6 => ?_) (fun c_6 => ?_)
      · have tc_6 : 128 ≤ v.toInt := v_le c_6
        refine lv_iconst (v := 0) hx hb dX2_isWritten_66 (by decide) ?_
        exact kl_z (v := 0) hQQ hx hb hr hlocks hS dX2_isWritten_67 (rfl) ⟨⟨hP, hD⟩, by decide⟩
      · have tc_6 : v.toInt < 128 := v_nle c_6
        refine lv_iconst (v := 1) hx hb dX2_isWritten_62 (by decide) ?_
        refine lv_goto (tgt := 67) hx hb dX2_isWritten_63 (by decide) ?_
        exact kl_z (v := 1) hQQ hx hb hr hlocks hS dX2_isWritten_67 (rfl) ⟨⟨hP, hD⟩, by decide⟩
    · skip
      have tc_5 : ¬ cd.toInt = 3 := v_ne c_5
      refine lv_lookup (tgt := 68) hx hb dX2_isWritten_1 (by decide) (by show Op.lookupswitch.offset [(2, 27), (3, 54)] _ _ = 67; rw [lv_osw (a := 2) c_1 rfl, lv_osw (a := 3) c_5 rfl] <;> rfl) (by decide) ?_
      refine lv_aload_n hx hb dX2_isWritten_68 rfl (lv_at hl 0 rfl) ?_
      refine lv_iload_n hx hb dX2_isWritten_69 rfl (lv_at hl 1 rfl) ?_
      refine lv_iload_n hx hb dX2_isWritten_70 rfl (lv_at hl 2 rfl) ?_
      refine kV_i (rest := []) (q0 := 0) (ci := 2) hcf (m_X2_letterAlone l dC dI cI cS s.heap.size oC o4 o5 a41 a42 a43 a51 a52 a53 l4 f41 l5 f51 cd v ) kc_X2_letterAlone gX2_isWritten_X2_letterAlone rfl rfl rfl ⟨Nat.le_of_ble_eq_true rfl, Nat.le_of_ble_eq_true rfl⟩ kX_t hK hP hD hS hA [0, 1, 2, 3, 4] [] rfl (by decide +kernel) rfl rfl rfl hl rfl (Nat.le_of_ble_eq_true rfl) dX2_isWritten_71 ⟨Nat.le_of_ble_eq_true rfl, Nat.le_of_ble_eq_true rfl⟩ (fun r_7 H locs hB hJ hSn => ?_)
      obtain ⟨hP1, hD1⟩ := hB
      obtain ⟨hPn, hDn⟩ := hJ _ hP1 hD1 [(oC, .inr (2, [.ref o4, .ref o5])), (o4, .inr (10, [.ref a41, .ref a42, .ref a43, .int l4])), (a41, .inl (cI, 256, .inl f41)), (o5, .inr (10, [.ref a51, .ref a52, .ref a53, .int l5])), (a51, .inl (cI, 256, .inl f51))] rfl
      clear hP hD hS hJ hP1 hD1
      have hP := hPn
      have hD := hDn
      have hS := hSn
      clear hPn hDn hSn
      refine lv_iconst (v := (-1)) hx hb dX2_isWritten_74 (by decide) ?_
      refine lv_icmp_eq (tgt := 82) hx hb dX2_isWritten_75 (by decide) (fun c_8 => ?_) (fun c_8 => ?_)
      · have tc_8 : r_7.toInt = (-1) := v_eq c_8
        refine lv_iconst (v := 0) hx hb dX2_isWritten_82 (by decide) ?_
        exact kl_z (v := 0) hQQ hx hb hr hlocks hS dX2_isWritten_83 (rfl) ⟨⟨hP, hD⟩, by decide⟩
      · have tc_8 : ¬ r_7.toInt = (-1) := v_ne c_8
        refine lv_iconst (v := 1) hx hb dX2_isWritten_78 (by decide) ?_
        refine lv_goto (tgt := 83) hx hb dX2_isWritten_79 (by decide) ?_
        exact kl_z (v := 1) hQQ hx hb hr hlocks hS dX2_isWritten_83 (rfl) ⟨⟨hP, hD⟩, by decide⟩

set_option maxHeartbeats 40000000 in
set_option maxRecDepth 100000 in
theorem m_X2_neverLost (l : Launch) (dC : Nat → ClassId) (dI : Nat → Nat → Nat) (cI cS : ClassId) (sz : Nat) (oC : Nat) (o4 : Nat) (o5 : Nat) (a41 : Nat) (a42 : Nat) (a43 : Nat) (a51 : Nat) (a52 : Nat) (a53 : Nat) (l4 : Int32) (f41 : Nat → Int32) (l5 : Int32) (f51 : Nat → Int32) (a : Int32) (b : Int32)  : kMi l yX2_neverLost wsX2_neverLost ({ frames := 3, cells := 0, slots := 0, locals := 66 } : Room) [.ref oC, .int a, .int b] sz (dC, dI) vwCl [(cI, .int), (cS, .short)] [(oC, .inr (2, [.ref o4, .ref o5])), (o4, .inr (10, [.ref a41, .ref a42, .ref a43, .int l4])), (a41, .inl (cI, 256, .inl f41)), (o5, .inr (10, [.ref a51, .ref a52, .ref a53, .int l5])), (a51, .inl (cI, 256, .inl f51))] (fun _ => True) 0 0 (fun (A : Nat → Prop) (r : Int32) (hh9 : Heap) => kPD (dC, dI) vwCl A [(oC, .inr (2, [.ref o4, .ref o5])), (o4, .inr (10, [.ref a41, .ref a42, .ref a43, .int l4])), (a41, .inl (cI, 256, .inl f41)), (o5, .inr (10, [.ref a51, .ref a52, .ref a53, .int l5])), (a51, .inl (cI, 256, .inl f51))] hh9 ∧ (0 ≤ r.toInt ∧ r.toInt ≤ 1)) := by
  refine kMi_of (cc := cX2_neverLost) (maxL := 4) (ret := (some .boolean)) (lv := [(0, .ref oC), (1, .int a), (2, .int b)]) (by decide +kernel) rfl rfl (Nat.le_of_ble_eq_true rfl) ?_
  intro p e s m below meth c A QQ ls hx hb hr hts hml hown hlocks hA hQQ hK hX hP hD hS hl
  have hown : s.vm.findClass RX2 = some m.cls := hown
  have hcf := k_cf hx hb hml hown hts
  refine lv_iload_n hx hb dX2_neverLost_0 rfl (lv_at hl 1 rfl) ?_
  refine lv_iload_n hx hb dX2_neverLost_1 rfl (lv_at hl 2 rfl) ?_
  refine lv_icmp_ne (tgt := 7) hx hb dX2_neverLost_2 (by decide) (fun c_1 => ?_) (fun c_1 => ?_)
  · have tc_1 : ¬ a.toInt = b.toInt := v_ne c_1
    have rw1_0 := v_rng a
    have rw1_1 := v_rng b
    refine lv_iconst (v := 0) hx hb dX2_neverLost_7 (by decide) ?_
    refine lv_istore_n (lv' := [(3, .int 0), (0, .ref oC), (1, .int a), (2, .int b)]) hx hb dX2_neverLost_8 rfl hl (by decide) rfl (fun ls hl => ?_)
    have LOOP_9 : ∀ (k_9 : Nat) (v : Int32) (H : Heap) (locs : List Loc) (ls : Array Slot), MSd (256 - v.toInt : Int) k_9 → (0 ≤ v.toInt ∧ v.toInt ≤ 256) → va_P (dC, dI) vwCl [(oC, .inr (2, [.ref o4, .ref o5])), (o4, .inr (10, [.ref a41, .ref a42, .ref a43, .int l4])), (a41, .inl (cI, 256, .inl f41)), (o5, .inr (10, [.ref a51, .ref a52, .ref a53, .int l5])), (a51, .inl (cI, 256, .inl f51))] H → va_D A [(oC, .inr (2, [.ref o4, .ref o5])), (o4, .inr (10, [.ref a41, .ref a42, .ref a43, .int l4])), (a41, .inl (cI, 256, .inl f41)), (o5, .inr (10, [.ref a51, .ref a52, .ref a53, .int l5])), (a51, .inl (cI, 256, .inl f51))] → va_S A s.heap H locs → lv_has ls 4 [(3, .int v), (0, .ref oC), (1, .int a), (2, .int b)] → W p l e (headSpec wsX2_neverLost ({ frames := 3, cells := 0, slots := 0, locals := 66 } : Room)).room s m ([.ref oC, .int a, .int b] : List Value).toArray below meth c H locs 0 0 (MQ below QQ ([.ref oC, .int a, .int b] : List Value).toArray s 0 0 A) (F0 m 9 ls []) := by
      clear hP hD hS hl
      try (clear rw1_1 rw1_0 tc_1)
      intro k_9
      induction k_9 with
      | zero =>
        intro v H locs ls hm_9 g_v hP hD hS hl
        exact ms_0 hm_9
      | succ k_9 ih_9 =>
        intro v H locs ls hm_9 g_v hP hD hS hl
        refine lv_iload_n hx hb dX2_neverLost_9 rfl (lv_at hl 0 rfl) ?_
        refine lv_sipush (v := 256) hx hb dX2_neverLost_10 (by decide) ?_
        refine lv_icmp_ge (tgt := 43) hx hb dX2_neverLost_13 (by decide) (fun c_2 => ?_) (fun c_2 => ?_)
        · have tc_2 : 256 ≤ v.toInt := v_le c_2
          refine lv_iconst (v := 1) hx hb dX2_neverLost_43 (by decide) ?_
          exact kl_z (v := 1) hQQ hx hb hr hlocks hS dX2_neverLost_44 (rfl) ⟨⟨hP, hD⟩, by decide⟩
        · have tc_2 : v.toInt < 256 := v_nle c_2
          refine lv_aload_n hx hb dX2_neverLost_16 rfl (lv_at hl 1 rfl) ?_
          refine lv_iload_n hx hb dX2_neverLost_17 rfl (lv_at hl 2 rfl) ?_
          refine lv_iload_n hx hb dX2_neverLost_18 rfl (lv_at hl 0 rfl) ?_
          refine kV_i (rest := []) (q0 := 0) (ci := 2) hcf (m_X2_isWritten l dC dI cI cS H.size oC o4 o5 a41 a42 a43 a51 a52 a53 l4 f41 l5 f51 a v ) kc_X2_isWritten gX2_neverLost_X2_isWritten rfl rfl rfl ⟨Nat.le_of_ble_eq_true rfl, Nat.le_of_ble_eq_true rfl⟩ kX_t hK hP hD hS hA [0, 1, 2, 3, 4] [] rfl (by decide +kernel) rfl rfl rfl hl rfl (Nat.le_of_ble_eq_true rfl) dX2_neverLost_19 ⟨Nat.le_of_ble_eq_true rfl, Nat.le_of_ble_eq_true rfl⟩ (fun r_3 H locs hB hJ hSn => ?_)
          obtain ⟨⟨hP1, hD1⟩, hf3_0⟩ := hB
          obtain ⟨hPn, hDn⟩ := hJ _ hP1 hD1 [(oC, .inr (2, [.ref o4, .ref o5])), (o4, .inr (10, [.ref a41, .ref a42, .ref a43, .int l4])), (a41, .inl (cI, 256, .inl f41)), (o5, .inr (10, [.ref a51, .ref a52, .ref a53, .int l5])), (a51, .inl (cI, 256, .inl f51))] rfl
          clear hP hD hS hJ hP1 hD1
          have hP := hPn
          have hD := hDn
          have hS := hSn
          clear hPn hDn hSn
          refine lv_if_eq (tgt := 37) hx hb dX2_neverLost_22 (by decide) (fun c_4 => ?_) (fun c_4 => ?_)
          · have tc_4 : r_3.toInt = 0 := v_eq c_4
            obtain ⟨x_5, ex_5⟩ : ∃ y : Int32, y = v + 1 := ⟨_, rfl⟩
            have tx_5 : x_5.toInt = v.toInt + 1 := v_addR (l2 := 1) (h2 := 1) ex_5 g_v (by decide) (by decide) (by decide)
            refine lv_iinc (v := x_5) (lv' := [(3, .int x_5), (0, .ref oC), (1, .int a), (2, .int b)]) hx hb dX2_neverLost_37 hl (k := 0) rfl (by rw [ex_5]; rfl) (by decide) rfl (fun ls hl => ?_)
            refine lv_goto (tgt := 9) hx hb dX2_neverLost_40 (by decide) ?_
            exact ih_9 x_5 _ _ _ (ms_lt hm_9 (by show ((256 - x_5.toInt : Int)) < 256 - v.toInt; omega) (by show (0 : Int) < 256 - v.toInt; omega)) (by show 0 ≤ x_5.toInt ∧ x_5.toInt ≤ 256; omega) hP hD hS (lv_sub hl [0, 1, 2, 3] rfl)
          · have tc_4 : ¬ r_3.toInt = 0 := v_ne c_4
            refine lv_aload_n hx hb dX2_neverLost_25 rfl (lv_at hl 1 rfl) ?_
            refine lv_iload_n hx hb dX2_neverLost_26 rfl (lv_at hl 3 rfl) ?_
            refine lv_iload_n hx hb dX2_neverLost_27 rfl (lv_at hl 0 rfl) ?_
            refine kV_i (rest := []) (q0 := 0) (ci := 2) hcf (m_X2_letterAlone l dC dI cI cS H.size oC o4 o5 a41 a42 a43 a51 a52 a53 l4 f41 l5 f51 b v ) kc_X2_letterAlone gX2_neverLost_X2_letterAlone rfl rfl rfl ⟨Nat.le_of_ble_eq_true rfl, Nat.le_of_ble_eq_true rfl⟩ kX_t hK hP hD hS hA [0, 1, 2, 3, 4] [] rfl (by decide +kernel) rfl rfl rfl hl rfl (Nat.le_of_ble_eq_true rfl) dX2_neverLost_28 ⟨Nat.le_of_ble_eq_true rfl, Nat.le_of_ble_eq_true rfl⟩ (fun r_6 H locs hB hJ hSn => ?_)
            obtain ⟨hP1, hD1⟩ := hB
            obtain ⟨hPn, hDn⟩ := hJ _ hP1 hD1 [(oC, .inr (2, [.ref o4, .ref o5])), (o4, .inr (10, [.ref a41, .ref a42, .ref a43, .int l4])), (a41, .inl (cI, 256, .inl f41)), (o5, .inr (10, [.ref a51, .ref a52, .ref a53, .int l5])), (a51, .inl (cI, 256, .inl f51))] rfl
            clear hP hD hS hJ hP1 hD1
            have hP := hPn
            have hD := hDn
            have hS := hSn
            clear hPn hDn hSn
            refine lv_iconst (v := (-1)) hx hb dX2_neverLost_31 (by decide) ?_
            refine lv_icmp_ne (tgt := 37) hx hb dX2_neverLost_32 (by decide) (fun c_7 => ?_) (fun c_7 => ?_)
            · have tc_7 : ¬ r_6.toInt = (-1) := v_ne c_7
              obtain ⟨x_8, ex_8⟩ : ∃ y : Int32, y = v + 1 := ⟨_, rfl⟩
              have tx_8 : x_8.toInt = v.toInt + 1 := v_addR (l2 := 1) (h2 := 1) ex_8 g_v (by decide) (by decide) (by decide)
              refine lv_iinc (v := x_8) (lv' := [(3, .int x_8), (0, .ref oC), (1, .int a), (2, .int b)]) hx hb dX2_neverLost_37 hl (k := 0) rfl (by rw [ex_8]; rfl) (by decide) rfl (fun ls hl => ?_)
              refine lv_goto (tgt := 9) hx hb dX2_neverLost_40 (by decide) ?_
              exact ih_9 x_8 _ _ _ (ms_lt hm_9 (by show ((256 - x_8.toInt : Int)) < 256 - v.toInt; omega) (by show (0 : Int) < 256 - v.toInt; omega)) (by show 0 ≤ x_8.toInt ∧ x_8.toInt ≤ 256; omega) hP hD hS (lv_sub hl [0, 1, 2, 3] rfl)
            · have tc_7 : r_6.toInt = (-1) := v_eq c_7
              refine lv_iconst (v := 0) hx hb dX2_neverLost_35 (by decide) ?_
              exact kl_z (v := 0) hQQ hx hb hr hlocks hS dX2_neverLost_36 (rfl) ⟨⟨hP, hD⟩, by decide⟩
    exact LOOP_9 _ 0 _ _ _ (ms_s _) (by decide) hP hD hS (lv_sub hl [0, 1, 2, 3] rfl)
  · have tc_1 : a.toInt = b.toInt := v_eq c_1
    have rw1_0 := v_rng a
    have rw1_1 := v_rng b
    refine lv_iconst (v := 1) hx hb dX2_neverLost_5 (by decide) ?_
    exact kl_z (v := 1) hQQ hx hb hr hlocks hS dX2_neverLost_6 (rfl) ⟨⟨hP, hD⟩, by decide⟩

end
