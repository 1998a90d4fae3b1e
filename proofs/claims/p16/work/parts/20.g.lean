/-! 12.kcal -/
section
theorem kc_J7_fill_53178 : kCal yJ7_fill_53178 cJ7_fill_53178 4 none wsJ7_fill_53178 2 := ⟨⟨_, rfl⟩, by decide +kernel⟩
theorem kc_X0_length : kCal yX0_length cX0_length 1 (some .int) wsX0_length 0 := ⟨⟨_, rfl⟩, by decide +kernel⟩
theorem kc_X0_remember : kCal yX0_remember cX0_remember 4 none wsX0_remember 1 := ⟨⟨_, rfl⟩, by decide +kernel⟩
theorem kc_X0_takeBack : kCal yX0_takeBack cX0_takeBack 3 (some .boolean) wsX0_takeBack 1 := ⟨⟨_, rfl⟩, by decide +kernel⟩
theorem kc_X10_byteFor : kCal yX10_byteFor cX10_byteFor 3 (some .int) wsX10_byteFor 1 := ⟨⟨_, rfl⟩, by decide +kernel⟩
theorem kc_X10_canTake : kCal yX10_canTake cX10_canTake 8 (some .boolean) wsX10_canTake 4 := ⟨⟨_, rfl⟩, by decide +kernel⟩
theorem kc_X10_empty : kCal yX10_empty cX10_empty 1 none wsX10_empty 0 := ⟨⟨_, rfl⟩, by decide +kernel⟩
theorem kc_X10_length : kCal yX10_length cX10_length 1 (some .int) wsX10_length 0 := ⟨⟨_, rfl⟩, by decide +kernel⟩
theorem kc_X10_letterFor : kCal yX10_letterFor cX10_letterFor 2 (some .int) wsX10_letterFor 1 := ⟨⟨_, rfl⟩, by decide +kernel⟩
theorem kc_X10_placeFor : kCal yX10_placeFor cX10_placeFor 5 (some .int) wsX10_placeFor 1 := ⟨⟨_, rfl⟩, by decide +kernel⟩
theorem kc_X10_tell : kCal yX10_tell cX10_tell 4 none wsX10_tell 2 := ⟨⟨_, rfl⟩, by decide +kernel⟩
theorem kc_X11_back : kCal yX11_back cX11_back 1 (some .int) wsX11_back 0 := ⟨⟨_, rfl⟩, by decide +kernel⟩
theorem kc_X11_become : kCal yX11_become cX11_become 2 (some .int) wsX11_become 1 := ⟨⟨_, rfl⟩, by decide +kernel⟩
theorem kc_X11_blank : kCal yX11_blank cX11_blank 3 (some .boolean) wsX11_blank 1 := ⟨⟨_, rfl⟩, by decide +kernel⟩
theorem kc_X11_byteOf : kCal yX11_byteOf cX11_byteOf 3 (some .int) wsX11_byteOf 2 := ⟨⟨_, rfl⟩, by decide +kernel⟩
theorem kc_X11_choice : kCal yX11_choice cX11_choice 3 (some .int) wsX11_choice 2 := ⟨⟨_, rfl⟩, by decide +kernel⟩
theorem kc_X11_choices : kCal yX11_choices cX11_choices 5 (some .int) wsX11_choices 2 := ⟨⟨_, rfl⟩, by decide +kernel⟩
theorem kc_X11_chosen : kCal yX11_chosen cX11_chosen 2 (some .boolean) wsX11_chosen 1 := ⟨⟨_, rfl⟩, by decide +kernel⟩
theorem kc_X11_cost : kCal yX11_cost cX11_cost 4 (some .boolean) wsX11_cost 3 := ⟨⟨_, rfl⟩, by decide +kernel⟩
theorem kc_X11_count : kCal yX11_count cX11_count 2 (some .int) wsX11_count 1 := ⟨⟨_, rfl⟩, by decide +kernel⟩
theorem kc_X11_end : kCal yX11_end cX11_end 2 (some .boolean) wsX11_end 1 := ⟨⟨_, rfl⟩, by decide +kernel⟩
theorem kc_X11_feed : kCal yX11_feed cX11_feed 6 (some .int) wsX11_feed 5 := ⟨⟨_, rfl⟩, by decide +kernel⟩
theorem kc_X11_harm : kCal yX11_harm cX11_harm 3 (some .int) wsX11_harm 2 := ⟨⟨_, rfl⟩, by decide +kernel⟩
theorem kc_X11_isLetter : kCal yX11_isLetter cX11_isLetter 1 (some .boolean) wsX11_isLetter 1 := ⟨⟨_, rfl⟩, by decide +kernel⟩
theorem kc_X11_list : kCal yX11_list cX11_list 3 (some .int) wsX11_list 2 := ⟨⟨_, rfl⟩, by decide +kernel⟩
theorem kc_X11_marksOf : kCal yX11_marksOf cX11_marksOf 3 (some .int) wsX11_marksOf 1 := ⟨⟨_, rfl⟩, by decide +kernel⟩
theorem kc_X11_mend : kCal yX11_mend cX11_mend 4 (some .int) wsX11_mend 2 := ⟨⟨_, rfl⟩, by decide +kernel⟩
theorem kc_X11_parts : kCal yX11_parts cX11_parts 3 (some .int) wsX11_parts 1 := ⟨⟨_, rfl⟩, by decide +kernel⟩
theorem kc_X11_passes : kCal yX11_passes cX11_passes 4 (some .boolean) wsX11_passes 2 := ⟨⟨_, rfl⟩, by decide +kernel⟩
theorem kc_X11_read : kCal yX11_read cX11_read 3 (some .int) wsX11_read 1 := ⟨⟨_, rfl⟩, by decide +kernel⟩
theorem kc_X11_rough : kCal yX11_rough cX11_rough 4 (some .int) wsX11_rough 2 := ⟨⟨_, rfl⟩, by decide +kernel⟩
theorem kc_X11_row : kCal yX11_row cX11_row 3 (some .int) wsX11_row 2 := ⟨⟨_, rfl⟩, by decide +kernel⟩
theorem kc_X11_rows : kCal yX11_rows cX11_rows 2 (some .int) wsX11_rows 1 := ⟨⟨_, rfl⟩, by decide +kernel⟩
theorem kc_X11_safe : kCal yX11_safe cX11_safe 3 (some .int) wsX11_safe 2 := ⟨⟨_, rfl⟩, by decide +kernel⟩
theorem kc_X11_size : kCal yX11_size cX11_size 2 (some .int) wsX11_size 1 := ⟨⟨_, rfl⟩, by decide +kernel⟩
theorem kc_X11_span : kCal yX11_span cX11_span 8 (some .int) wsX11_span 5 := ⟨⟨_, rfl⟩, by decide +kernel⟩
theorem kc_X11_tapeHoldsBytes : kCal yX11_tapeHoldsBytes cX11_tapeHoldsBytes 3 (some .boolean) wsX11_tapeHoldsBytes 0 := ⟨⟨_, rfl⟩, by decide +kernel⟩
theorem kc_X11_tapeHoldsLetters : kCal yX11_tapeHoldsLetters cX11_tapeHoldsLetters 2 (some .boolean) wsX11_tapeHoldsLetters 0 := ⟨⟨_, rfl⟩, by decide +kernel⟩
theorem kc_X11_text : kCal yX11_text cX11_text 2 (some .int) wsX11_text 0 := ⟨⟨_, rfl⟩, by decide +kernel⟩
theorem kc_X11_undo : kCal yX11_undo cX11_undo 3 (some .int) wsX11_undo 2 := ⟨⟨_, rfl⟩, by decide +kernel⟩
theorem kc_X11_unlist : kCal yX11_unlist cX11_unlist 2 (some .int) wsX11_unlist 0 := ⟨⟨_, rfl⟩, by decide +kernel⟩
theorem kc_X11_where : kCal yX11_where cX11_where 1 (some .int) wsX11_where 0 := ⟨⟨_, rfl⟩, by decide +kernel⟩
theorem kc_X11_worth : kCal yX11_worth cX11_worth 1 (some .int) wsX11_worth 0 := ⟨⟨_, rfl⟩, by decide +kernel⟩
theorem kc_X11_writes : kCal yX11_writes cX11_writes 3 (some .boolean) wsX11_writes 1 := ⟨⟨_, rfl⟩, by decide +kernel⟩
theorem kc_X12_at : kCal yX12_at cX12_at 2 (some .int) wsX12_at 1 := ⟨⟨_, rfl⟩, by decide +kernel⟩
theorem kc_X12_back : kCal yX12_back cX12_back 3 (some .int) wsX12_back 0 := ⟨⟨_, rfl⟩, by decide +kernel⟩
theorem kc_X12_become : kCal yX12_become cX12_become 5 none wsX12_become 2 := ⟨⟨_, rfl⟩, by decide +kernel⟩
theorem kc_X12_blank : kCal yX12_blank cX12_blank 4 (some .boolean) wsX12_blank 1 := ⟨⟨_, rfl⟩, by decide +kernel⟩
theorem kc_X12_byteAt : kCal yX12_byteAt cX12_byteAt 2 (some .int) wsX12_byteAt 1 := ⟨⟨_, rfl⟩, by decide +kernel⟩
theorem kc_X12_byteOf : kCal yX12_byteOf cX12_byteOf 3 (some .int) wsX12_byteOf 2 := ⟨⟨_, rfl⟩, by decide +kernel⟩
theorem kc_X12_canCome : kCal yX12_canCome cX12_canCome 3 (some .boolean) wsX12_canCome 2 := ⟨⟨_, rfl⟩, by decide +kernel⟩
theorem kc_X12_choice : kCal yX12_choice cX12_choice 3 (some .int) wsX12_choice 2 := ⟨⟨_, rfl⟩, by decide +kernel⟩
theorem kc_X12_choices : kCal yX12_choices cX12_choices 11 (some .int) wsX12_choices 2 := ⟨⟨_, rfl⟩, by decide +kernel⟩
theorem kc_X12_chosen : kCal yX12_chosen cX12_chosen 2 (some .boolean) wsX12_chosen 1 := ⟨⟨_, rfl⟩, by decide +kernel⟩
theorem kc_X12_cost : kCal yX12_cost cX12_cost 5 (some .boolean) wsX12_cost 3 := ⟨⟨_, rfl⟩, by decide +kernel⟩
theorem kc_X12_costOf : kCal yX12_costOf cX12_costOf 5 (some .int) wsX12_costOf 2 := ⟨⟨_, rfl⟩, by decide +kernel⟩
theorem kc_X12_costOf_ : kCal yX12_costOf_ cX12_costOf_ 7 (some .int) wsX12_costOf_ 3 := ⟨⟨_, rfl⟩, by decide +kernel⟩
theorem kc_X12_count : kCal yX12_count cX12_count 2 (some .int) wsX12_count 1 := ⟨⟨_, rfl⟩, by decide +kernel⟩
theorem kc_X12_does : kCal yX12_does cX12_does 5 (some .boolean) wsX12_does 4 := ⟨⟨_, rfl⟩, by decide +kernel⟩
theorem kc_X12_end : kCal yX12_end cX12_end 2 (some .boolean) wsX12_end 1 := ⟨⟨_, rfl⟩, by decide +kernel⟩
theorem kc_X12_feed : kCal yX12_feed cX12_feed 6 (some .int) wsX12_feed 5 := ⟨⟨_, rfl⟩, by decide +kernel⟩
theorem kc_X12_goesOn : kCal yX12_goesOn cX12_goesOn 1 (some .boolean) wsX12_goesOn 1 := ⟨⟨_, rfl⟩, by decide +kernel⟩
theorem kc_X12_harm : kCal yX12_harm cX12_harm 3 (some .int) wsX12_harm 2 := ⟨⟨_, rfl⟩, by decide +kernel⟩
theorem kc_X12_isAlone : kCal yX12_isAlone cX12_isAlone 3 (some .boolean) wsX12_isAlone 2 := ⟨⟨_, rfl⟩, by decide +kernel⟩
theorem kc_X12_isChoice : kCal yX12_isChoice cX12_isChoice 7 (some .boolean) wsX12_isChoice 4 := ⟨⟨_, rfl⟩, by decide +kernel⟩
theorem kc_X12_isCode : kCal yX12_isCode cX12_isCode 1 (some .boolean) wsX12_isCode 1 := ⟨⟨_, rfl⟩, by decide +kernel⟩
theorem kc_X12_isLetter : kCal yX12_isLetter cX12_isLetter 1 (some .boolean) wsX12_isLetter 1 := ⟨⟨_, rfl⟩, by decide +kernel⟩
theorem kc_X12_isToldChoice : kCal yX12_isToldChoice cX12_isToldChoice 2 (some .boolean) wsX12_isToldChoice 1 := ⟨⟨_, rfl⟩, by decide +kernel⟩
theorem kc_X12_list : kCal yX12_list cX12_list 4 (some .int) wsX12_list 2 := ⟨⟨_, rfl⟩, by decide +kernel⟩
theorem kc_X12_makes : kCal yX12_makes cX12_makes 6 (some .boolean) wsX12_makes 2 := ⟨⟨_, rfl⟩, by decide +kernel⟩
theorem kc_X12_marksOf : kCal yX12_marksOf cX12_marksOf 3 (some .int) wsX12_marksOf 0 := ⟨⟨_, rfl⟩, by decide +kernel⟩
theorem kc_X12_mend : kCal yX12_mend cX12_mend 12 (some .int) wsX12_mend 2 := ⟨⟨_, rfl⟩, by decide +kernel⟩
theorem kc_X12_parts : kCal yX12_parts cX12_parts 8 (some .int) wsX12_parts 1 := ⟨⟨_, rfl⟩, by decide +kernel⟩
theorem kc_X12_power : kCal yX12_power cX12_power 4 (some .int) wsX12_power 2 := ⟨⟨_, rfl⟩, by decide +kernel⟩
theorem kc_X12_put : kCal yX12_put cX12_put 2 none wsX12_put 1 := ⟨⟨_, rfl⟩, by decide +kernel⟩
theorem kc_X12_read : kCal yX12_read cX12_read 5 (some .boolean) wsX12_read 2 := ⟨⟨_, rfl⟩, by decide +kernel⟩
theorem kc_X12_readAt : kCal yX12_readAt cX12_readAt 7 (some .int) wsX12_readAt 2 := ⟨⟨_, rfl⟩, by decide +kernel⟩
theorem kc_X12_read_ : kCal yX12_read_ cX12_read_ 4 (some .int) wsX12_read_ 1 := ⟨⟨_, rfl⟩, by decide +kernel⟩
theorem kc_X12_rough : kCal yX12_rough cX12_rough 6 (some .int) wsX12_rough 2 := ⟨⟨_, rfl⟩, by decide +kernel⟩
theorem kc_X12_row : kCal yX12_row cX12_row 3 (some .int) wsX12_row 2 := ⟨⟨_, rfl⟩, by decide +kernel⟩
theorem kc_X12_rows : kCal yX12_rows cX12_rows 7 (some .int) wsX12_rows 1 := ⟨⟨_, rfl⟩, by decide +kernel⟩
theorem kc_X12_safe : kCal yX12_safe cX12_safe 5 (some .int) wsX12_safe 2 := ⟨⟨_, rfl⟩, by decide +kernel⟩
theorem kc_X12_size : kCal yX12_size cX12_size 2 (some .int) wsX12_size 1 := ⟨⟨_, rfl⟩, by decide +kernel⟩
theorem kc_X12_sortOf : kCal yX12_sortOf cX12_sortOf 1 (some .int) wsX12_sortOf 1 := ⟨⟨_, rfl⟩, by decide +kernel⟩
theorem kc_X12_span : kCal yX12_span cX12_span 9 (some .int) wsX12_span 5 := ⟨⟨_, rfl⟩, by decide +kernel⟩
theorem kc_X12_takeSpan : kCal yX12_takeSpan cX12_takeSpan 5 (some .boolean) wsX12_takeSpan 3 := ⟨⟨_, rfl⟩, by decide +kernel⟩
theorem kc_X12_takeText : kCal yX12_takeText cX12_takeText 2 none wsX12_takeText 0 := ⟨⟨_, rfl⟩, by decide +kernel⟩
theorem kc_X12_text : kCal yX12_text cX12_text 3 (some .int) wsX12_text 0 := ⟨⟨_, rfl⟩, by decide +kernel⟩
theorem kc_X12_undo : kCal yX12_undo cX12_undo 3 (some .int) wsX12_undo 2 := ⟨⟨_, rfl⟩, by decide +kernel⟩
theorem kc_X12_undoes : kCal yX12_undoes cX12_undoes 6 (some .boolean) wsX12_undoes 2 := ⟨⟨_, rfl⟩, by decide +kernel⟩
theorem kc_X12_unlist : kCal yX12_unlist cX12_unlist 2 (some .int) wsX12_unlist 0 := ⟨⟨_, rfl⟩, by decide +kernel⟩
theorem kc_X12_where : kCal yX12_where cX12_where 1 (some .int) wsX12_where 0 := ⟨⟨_, rfl⟩, by decide +kernel⟩
theorem kc_X12_worth : kCal yX12_worth cX12_worth 1 (some .int) wsX12_worth 0 := ⟨⟨_, rfl⟩, by decide +kernel⟩
theorem kc_X12_write : kCal yX12_write cX12_write 5 (some .boolean) wsX12_write 3 := ⟨⟨_, rfl⟩, by decide +kernel⟩
theorem kc_X12_writeLetter : kCal yX12_writeLetter cX12_writeLetter 4 (some .boolean) wsX12_writeLetter 2 := ⟨⟨_, rfl⟩, by decide +kernel⟩
theorem kc_X12_writeWith : kCal yX12_writeWith cX12_writeWith 6 (some .boolean) wsX12_writeWith 3 := ⟨⟨_, rfl⟩, by decide +kernel⟩
theorem kc_X1_build : kCal yX1_build cX1_build 5 (some .boolean) wsX1_build 4 := ⟨⟨_, rfl⟩, by decide +kernel⟩
theorem kc_X1_comesBack : kCal yX1_comesBack cX1_comesBack 2 (some .boolean) wsX1_comesBack 0 := ⟨⟨_, rfl⟩, by decide +kernel⟩
theorem kc_X1_find : kCal yX1_find cX1_find 4 (some .int) wsX1_find 2 := ⟨⟨_, rfl⟩, by decide +kernel⟩
theorem kc_X1_findTails : kCal yX1_findTails cX1_findTails 5 none wsX1_findTails 0 := ⟨⟨_, rfl⟩, by decide +kernel⟩
theorem kc_X1_forgetFreshness : kCal yX1_forgetFreshness cX1_forgetFreshness 1 none wsX1_forgetFreshness 0 := ⟨⟨_, rfl⟩, by decide +kernel⟩
theorem kc_X1_isFresh : kCal yX1_isFresh cX1_isFresh 2 (some .boolean) wsX1_isFresh 1 := ⟨⟨_, rfl⟩, by decide +kernel⟩
theorem kc_X1_keep : kCal yX1_keep cX1_keep 6 none wsX1_keep 4 := ⟨⟨_, rfl⟩, by decide +kernel⟩
theorem kc_X1_layOut : kCal yX1_layOut cX1_layOut 4 (some .int) wsX1_layOut 2 := ⟨⟨_, rfl⟩, by decide +kernel⟩
theorem kc_X1_told : kCal yX1_told cX1_told 3 (some .int) wsX1_told 2 := ⟨⟨_, rfl⟩, by decide +kernel⟩
theorem kc_X1_tryLast : kCal yX1_tryLast cX1_tryLast 3 none wsX1_tryLast 1 := ⟨⟨_, rfl⟩, by decide +kernel⟩
theorem kc_X1_tryWhole : kCal yX1_tryWhole cX1_tryWhole 5 none wsX1_tryWhole 2 := ⟨⟨_, rfl⟩, by decide +kernel⟩
theorem kc_X2_bytesIn : kCal yX2_bytesIn cX2_bytesIn 1 (some .int) wsX2_bytesIn 1 := ⟨⟨_, rfl⟩, by decide +kernel⟩
theorem kc_X2_decode : kCal yX2_decode cX2_decode 7 (some .int) wsX2_decode 4 := ⟨⟨_, rfl⟩, by decide +kernel⟩
theorem kc_X2_decodeMany : kCal yX2_decodeMany cX2_decodeMany 8 (some .int) wsX2_decodeMany 3 := ⟨⟨_, rfl⟩, by decide +kernel⟩
theorem kc_X2_decodeNumber : kCal yX2_decodeNumber cX2_decodeNumber 7 (some .int) wsX2_decodeNumber 3 := ⟨⟨_, rfl⟩, by decide +kernel⟩
theorem kc_X2_encode : kCal yX2_encode cX2_encode 6 (some .boolean) wsX2_encode 3 := ⟨⟨_, rfl⟩, by decide +kernel⟩
theorem kc_X2_encodeMany : kCal yX2_encodeMany cX2_encodeMany 3 (some .boolean) wsX2_encodeMany 2 := ⟨⟨_, rfl⟩, by decide +kernel⟩
theorem kc_X2_encodeNumber : kCal yX2_encodeNumber cX2_encodeNumber 6 (some .boolean) wsX2_encodeNumber 2 := ⟨⟨_, rfl⟩, by decide +kernel⟩
theorem kc_X2_found : kCal yX2_found cX2_found 2 (some .int) wsX2_found 2 := ⟨⟨_, rfl⟩, by decide +kernel⟩
theorem kc_X2_isNumbered : kCal yX2_isNumbered cX2_isNumbered 1 (some .boolean) wsX2_isNumbered 1 := ⟨⟨_, rfl⟩, by decide +kernel⟩
theorem kc_X2_isWritten : kCal yX2_isWritten cX2_isWritten 3 (some .boolean) wsX2_isWritten 2 := ⟨⟨_, rfl⟩, by decide +kernel⟩
theorem kc_X2_known : kCal yX2_known cX2_known 1 (some .boolean) wsX2_known 1 := ⟨⟨_, rfl⟩, by decide +kernel⟩
theorem kc_X2_lengthOf : kCal yX2_lengthOf cX2_lengthOf 3 (some .int) wsX2_lengthOf 1 := ⟨⟨_, rfl⟩, by decide +kernel⟩
theorem kc_X2_letterAlone : kCal yX2_letterAlone cX2_letterAlone 4 (some .int) wsX2_letterAlone 2 := ⟨⟨_, rfl⟩, by decide +kernel⟩
theorem kc_X2_letterIn : kCal yX2_letterIn cX2_letterIn 1 (some .int) wsX2_letterIn 1 := ⟨⟨_, rfl⟩, by decide +kernel⟩
theorem kc_X2_neverLost : kCal yX2_neverLost cX2_neverLost 4 (some .boolean) wsX2_neverLost 2 := ⟨⟨_, rfl⟩, by decide +kernel⟩
theorem kc_X2_toldCode : kCal yX2_toldCode cX2_toldCode 2 (some (.object "TextMender$ToldCode")) wsX2_toldCode 1 := ⟨⟨_, rfl⟩, by decide +kernel⟩
theorem kc_X3_length : kCal yX3_length cX3_length 1 (some .int) wsX3_length 0 := ⟨⟨_, rfl⟩, by decide +kernel⟩
theorem kc_X3_of : kCal yX3_of cX3_of 7 (some .int) wsX3_of 2 := ⟨⟨_, rfl⟩, by decide +kernel⟩
theorem kc_X3_ofText : kCal yX3_ofText cX3_ofText 6 (some .int) wsX3_ofText 1 := ⟨⟨_, rfl⟩, by decide +kernel⟩
theorem kc_X3_pairOf : kCal yX3_pairOf cX3_pairOf 2 (some .int) wsX3_pairOf 2 := ⟨⟨_, rfl⟩, by decide +kernel⟩
theorem kc_X3_placeFor : kCal yX3_placeFor cX3_placeFor 7 (some .int) wsX3_placeFor 2 := ⟨⟨_, rfl⟩, by decide +kernel⟩
theorem kc_X3_sortOf : kCal yX3_sortOf cX3_sortOf 1 (some .int) wsX3_sortOf 1 := ⟨⟨_, rfl⟩, by decide +kernel⟩
theorem kc_X3_sortOutside : kCal yX3_sortOutside cX3_sortOutside 1 (some .int) wsX3_sortOutside 1 := ⟨⟨_, rfl⟩, by decide +kernel⟩
theorem kc_X3_tell : kCal yX3_tell cX3_tell 5 (some .boolean) wsX3_tell 3 := ⟨⟨_, rfl⟩, by decide +kernel⟩
theorem kc_X4_empty : kCal yX4_empty cX4_empty 1 none wsX4_empty 0 := ⟨⟨_, rfl⟩, by decide +kernel⟩
theorem kc_X4_length : kCal yX4_length cX4_length 1 (some .int) wsX4_length 0 := ⟨⟨_, rfl⟩, by decide +kernel⟩
theorem kc_X4_readIn : kCal yX4_readIn cX4_readIn 2 (some .int) wsX4_readIn 1 := ⟨⟨_, rfl⟩, by decide +kernel⟩
theorem kc_X4_takeOff : kCal yX4_takeOff cX4_takeOff 4 (some .boolean) wsX4_takeOff 3 := ⟨⟨_, rfl⟩, by decide +kernel⟩
theorem kc_X4_tell : kCal yX4_tell cX4_tell 4 (some .boolean) wsX4_tell 2 := ⟨⟨_, rfl⟩, by decide +kernel⟩
theorem kc_X4_writtenIn : kCal yX4_writtenIn cX4_writtenIn 2 (some .int) wsX4_writtenIn 1 := ⟨⟨_, rfl⟩, by decide +kernel⟩
theorem kc_X5_add : kCal yX5_add cX5_add 2 (some .boolean) wsX5_add 1 := ⟨⟨_, rfl⟩, by decide +kernel⟩
theorem kc_X5_addAll : kCal yX5_addAll cX5_addAll 2 (some .boolean) wsX5_addAll 1 := ⟨⟨_, rfl⟩, by decide +kernel⟩
theorem kc_X5_cut : kCal yX5_cut cX5_cut 2 none wsX5_cut 1 := ⟨⟨_, rfl⟩, by decide +kernel⟩
theorem kc_X5_get : kCal yX5_get cX5_get 2 (some .int) wsX5_get 1 := ⟨⟨_, rfl⟩, by decide +kernel⟩
theorem kc_X5_length : kCal yX5_length cX5_length 1 (some .int) wsX5_length 0 := ⟨⟨_, rfl⟩, by decide +kernel⟩
theorem kc_X5_set : kCal yX5_set cX5_set 3 none wsX5_set 2 := ⟨⟨_, rfl⟩, by decide +kernel⟩
theorem kc_X5_takeAll : kCal yX5_takeAll cX5_takeAll 2 (some .boolean) wsX5_takeAll 1 := ⟨⟨_, rfl⟩, by decide +kernel⟩
theorem kc_X6_build : kCal yX6_build cX6_build 6 (some .boolean) wsX6_build 2 := ⟨⟨_, rfl⟩, by decide +kernel⟩
theorem kc_X6_find : kCal yX6_find cX6_find 6 none wsX6_find 2 := ⟨⟨_, rfl⟩, by decide +kernel⟩
theorem kc_X6_isBetter : kCal yX6_isBetter cX6_isBetter 5 (some .boolean) wsX6_isBetter 4 := ⟨⟨_, rfl⟩, by decide +kernel⟩
theorem kc_X6_offer : kCal yX6_offer cX6_offer 7 none wsX6_offer 4 := ⟨⟨_, rfl⟩, by decide +kernel⟩
theorem kc_X6_spans : kCal yX6_spans cX6_spans 1 (some .int) wsX6_spans 0 := ⟨⟨_, rfl⟩, by decide +kernel⟩
theorem kc_X6_tryAsItIs : kCal yX6_tryAsItIs cX6_tryAsItIs 8 none wsX6_tryAsItIs 3 := ⟨⟨_, rfl⟩, by decide +kernel⟩
theorem kc_X6_tryUndone : kCal yX6_tryUndone cX6_tryUndone 6 none wsX6_tryUndone 4 := ⟨⟨_, rfl⟩, by decide +kernel⟩
theorem kc_X7_bytes : kCal yX7_bytes cX7_bytes 1 (some (.object "TextMender$Numbers")) wsX7_bytes 0 := ⟨⟨_, rfl⟩, by decide +kernel⟩
theorem kc_X7_fault : kCal yX7_fault cX7_fault 1 (some .int) wsX7_fault 0 := ⟨⟨_, rfl⟩, by decide +kernel⟩
theorem kc_X7_pass : kCal yX7_pass cX7_pass 5 (some .boolean) wsX7_pass 4 := ⟨⟨_, rfl⟩, by decide +kernel⟩
theorem kc_X7_passRoughly : kCal yX7_passRoughly cX7_passRoughly 8 (some .int) wsX7_passRoughly 4 := ⟨⟨_, rfl⟩, by decide +kernel⟩
theorem kc_X7_readExactly : kCal yX7_readExactly cX7_readExactly 7 (some .boolean) wsX7_readExactly 3 := ⟨⟨_, rfl⟩, by decide +kernel⟩
theorem kc_X7_write : kCal yX7_write cX7_write 4 (some .boolean) wsX7_write 2 := ⟨⟨_, rfl⟩, by decide +kernel⟩
theorem kc_X8_begin : kCal yX8_begin cX8_begin 1 none wsX8_begin 0 := ⟨⟨_, rfl⟩, by decide +kernel⟩
theorem kc_X8_goOn : kCal yX8_goOn cX8_goOn 6 none wsX8_goOn 3 := ⟨⟨_, rfl⟩, by decide +kernel⟩
theorem kc_X8_letters : kCal yX8_letters cX8_letters 1 (some .int) wsX8_letters 0 := ⟨⟨_, rfl⟩, by decide +kernel⟩
theorem kc_X8_reached : kCal yX8_reached cX8_reached 1 (some .int) wsX8_reached 0 := ⟨⟨_, rfl⟩, by decide +kernel⟩
theorem kc_X8_step : kCal yX8_step cX8_step 6 (some .boolean) wsX8_step 3 := ⟨⟨_, rfl⟩, by decide +kernel⟩
theorem kc_X8_sumWith : kCal yX8_sumWith cX8_sumWith 2 (some .int) wsX8_sumWith 1 := ⟨⟨_, rfl⟩, by decide +kernel⟩
theorem kc_X8_takeAll : kCal yX8_takeAll cX8_takeAll 2 none wsX8_takeAll 1 := ⟨⟨_, rfl⟩, by decide +kernel⟩
theorem kc_X9_build : kCal yX9_build cX9_build 6 (some .boolean) wsX9_build 3 := ⟨⟨_, rfl⟩, by decide +kernel⟩
theorem kc_X9_cheapest : kCal yX9_cheapest cX9_cheapest 3 (some .int) wsX9_cheapest 0 := ⟨⟨_, rfl⟩, by decide +kernel⟩
theorem kc_X9_costAt : kCal yX9_costAt cX9_costAt 2 (some .int) wsX9_costAt 1 := ⟨⟨_, rfl⟩, by decide +kernel⟩
theorem kc_X9_find : kCal yX9_find cX9_find 9 none wsX9_find 2 := ⟨⟨_, rfl⟩, by decide +kernel⟩
theorem kc_X9_keepFound : kCal yX9_keepFound cX9_keepFound 3 (some .int) wsX9_keepFound 0 := ⟨⟨_, rfl⟩, by decide +kernel⟩
theorem kc_X9_nameHarms : kCal yX9_nameHarms cX9_nameHarms 5 none wsX9_nameHarms 4 := ⟨⟨_, rfl⟩, by decide +kernel⟩
theorem kc_X9_note : kCal yX9_note cX9_note 3 none wsX9_note 2 := ⟨⟨_, rfl⟩, by decide +kernel⟩
theorem kc_X9_numberOf : kCal yX9_numberOf cX9_numberOf 4 (some .int) wsX9_numberOf 1 := ⟨⟨_, rfl⟩, by decide +kernel⟩
theorem kc_X9_told : kCal yX9_told cX9_told 4 (some .int) wsX9_told 2 := ⟨⟨_, rfl⟩, by decide +kernel⟩
def mk_0 : List Bool := [false, false, false, false, false, true, true]
def mk_1 : List Bool := [true, true, true, true, true, false, false]
def mk_2 : List Bool := [false, false, false, false, false, false, false]
def mk_3 : List Bool := [false, false, false, false, false, false, false, true, true]
def mk_4 : List Bool := [false, false, false, false, false, false, false, false, false]
def mk_5 : List Bool := [true, false, false, false, false, false, false, false, false]
def mk_6 : List Bool := [false, true, true, true, false, false, false, false, false]
def mk_7 : List Bool := [false, false, false, false, true, true, true, false, false]
def mk_8 : List Bool := [false, true, false, false, false, false, false, false, false, false, false, false]
def mk_9 : List Bool := [false, false, false, false, false, false, false, false, false, false, true, false]
def mk_10 : List Bool := [false, false, false, false, false, false, false, false, false, false, true, true]
def mk_11 : List Bool := [false, true, true, true, true, true, true, true, true, true, false, false]
def mk_12 : List Bool := [false, false, false, true, false, false, false, false, false, false]
def mk_13 : List Bool := [false, true, false, false, false, false, false, false, false, false]
def mk_14 : List Bool := [false, true, true, false, false, true, true, true, true, true]
def mk_15 : List Bool := [false, false, false, false, false, false, false, false, false, false]
def mk_16 : List Bool := [false, false, false, true, true, false, false, false, false, false]
def mk_17 : List Bool := [true, true, true, true, true, false, false, true, true, false, true, true, true, false, true, true]
def mk_18 : List Bool := [true, true, true, false, false, true, true, true, true, true, false, false, true, true, false, false]
def mk_19 : List Bool := [false, true, false, false, false, false, false, false, false, false, false, false, false, false, false, false]
def mk_20 : List Bool := [false, false, false, false, false, true, false, false, false, false, false, false, false, false, false, false]
def mk_21 : List Bool := [false, true, true, false, false, false, false, true, true, true, false, false, true, true, false, false]
def mk_22 : List Bool := [false, false, false, false, false, false, false, false, false, false, false, false, false, false, false, false]
def mk_23 : List Bool := [false, false, false, false, false, true, true, false, false, false, false, false, false, false, false, false]
def mk_24 : List Bool := [false, false, false, true, true, true, true, true, true, true, true, true, true, true, true, true, true, true, true]
def mk_25 : List Bool := [false, false, false, true, true, true, true, true]
def mk_26 : List Bool := [false, false, false, false, false, false, true, false]
def mk_27 : List Bool := [false, true, false, false, false, false, false, false, false, false, false, false, false, false, false, false, false, false, false, false, false, false, false, false, false, false, false, false, false, false]
def mk_28 : List Bool := [false, false, false, false, false, false, false, false, false, false, true, false, false, false, false, false, false, false, false, false, false, false, false, false, false, false, false, false, false, false]
def mk_29 : List Bool := [false, false, false, false, true, true, false, false, false, false, true, true, true, true, true, true, true, true, true, true, true, true, true, true, true, false, false, false, true, true]
def mk_30 : List Bool := [true, true, true, false, true, true, false, false, false, false, false, false, false, false, false, false, false, false, false, false, false, false, false, false, false, true, true, true, false, false]
def mk_31 : List Bool := [true, false, false, true, false, false, false, false, false, false, false, false, false, false, false, false, false, false, false, false, false, false, false, false, false, false, false, false, false, false]
def mk_32 : List Bool := [false, false, false, false, true, true, true, true, false, false, true, true, true, true, true, true, true, true, true, true, true, true, true, true, true, false, false, false, false, false]
def mk_33 : List Bool := [true, true, true, false, false, false, true, true, false, false, false, false, false, false, false, false, false, false, false, false, false, false, false, false, false, true, true, true, false, false]
def mk_34 : List Bool := [false, false, false, false, false, false, true, true, true, true, true, true, true, true, true, true, true, true, true, true, true, true, true, true, true, false, false, false, false, false]
def mk_35 : List Bool := [true, true, true, false, false, false, false, false, true, true, false, false, false, false, false, false, false, false, false, false, false, false, false, false, false, true, true, true, false, false]
def mk_36 : List Bool := [false, false, true, true, false, false, false, false, false, false, false, false, false, false, false, false, false, false, false, false, false, true, true, false, false]
def mk_37 : List Bool := [false, false, true, true, false, false, false, false, false, false, false, false, false, false, false, false, false, false, false, false, false, false, false, true, true]
def mk_38 : List Bool := [false, false, true, true, true, true, true, true, true, true, true, true, true, true, true, true, true, true, true, true, true, false, false, false, false]
def mk_39 : List Bool := [false, false, true, true, true, true, false, false, false, false, false, false, false, false, false, false, false, false, false, false, false, false, false, false, false]
def mk_40 : List Bool := [false, true, true, true, true, true, false, false, false, true, true]
def mk_41 : List Bool := [false, false, false, false, false, false, false, false, false, false, false]
def mk_42 : List Bool := [false, false, false, false, false, false, true, true, true, false, false]
def mk_43 : List Bool := [true, true, true, true, true, true, true, true, true, true, true]
def mk_44 : List Bool := [false, false, false, false, false, false, false, false, true, true]
def mk_45 : List Bool := [false, false, false, false, false, true, true, true, false, false]
def mk_46 : List Bool := [true, true, true, true, true, false, false, false, false, false]
def mk_47 : List Bool := [false, false, false, false, false, false, false, true, false, false, false, false, false, false, false, false, false, false, false, false, false, false, false, false, false]
def mk_48 : List Bool := [false, false, false, false, false, true, false, false, false, false, false, false, false, false, false, false, false, false, false, false, false, false, false, false, false]
def mk_49 : List Bool := [false, false, false, false, false, false, false, false, true, false, true, false, false, false, false, false, false, false, false, false, false, false, false, false, false]
def mk_50 : List Bool := [false, false, false, false, false, false, false, false, false, false, false, false, false, false, false, false, false, false, false, false, false, false, false, true, true]
def mk_51 : List Bool := [false, false, false, false, false, true, true, false, false, false, false, true, true, false, true, true, true, false, true, true, false, false, false, false, false]
def mk_52 : List Bool := [false, false, false, false, false, false, false, false, true, true, false, false, false, false, false, false, false, false, false, false, false, false, false, false, false]
def mk_53 : List Bool := [false, false, false, false, false, true, true, true, false, false, false, true, true, true, false, false, true, true, false, false, true, true, true, false, false]
def mk_54 : List Bool := [false, false, false, false, false, false, false, true, false, false, false, false, false, false, false, false, false, false, false, false, true, true, true, false, false]
def mk_55 : List Bool := [true, true, true, true, true, false, false, false, false, false, false, false, false, false, false, false, false, false, false, false, false, false, false, false, false]
def mk_56 : List Bool := [false, false, false, false, false, false, false, false, false, false, false, false, false, false, false, false, false, false, false, false, false, false, false, true, false]
def mk_57 : List Bool := [true, true, true, true, true, false, false, false, false, false, false, false, false, false, false, false, false, false, false, false, true, true, true, true, true]
def mk_58 : List Bool := [false, false, false, false, false, false, false, false, true, false, false, false, false, false, false, false, false, false, false, false, false, false, false, false, false]
def mk_59 : List Bool := [true, true, true, true, true, true, true, true, true, true, true, true, true, true, true, true, true, true, true, true, true, true, true, true, true]
def mk_60 : List Bool := [false, false, false, false, false, false, false, false, false, false, false, false, false, false, false, false, false, false, false, false, false, false, false, false, true, false]
def mk_61 : List Bool := [false, false, false, false, false, false, false, false, false, false, false, false, false, false, false, false, false, false, false, false, false, false, true, false, false, false]
def mk_62 : List Bool := [false, false, false, true, false, false, false, false, false, false, false, false, false, false, false, false, false, false, false, false, false, false, false, false, false, false]
def mk_63 : List Bool := [false, false, false, true, true, true, true, true, true, true, true, true, true, true, true, true, true, true, true, true, true, true, false, false, false, false]
def mk_64 : List Bool := [false, false, false, false, false, true, true, false, false, false, false, false, false, false, false, false, false, false, false, false, false, false, false, false, true, true]
def mk_65 : List Bool := [false, false, false, true, true, true, true, false, false, false, false, false, false, false, false, false, false, false, false, false, false, false, false, false, false, false]
def mk_66 : List Bool := [false, false, false, false, false, false, false, false, false, false, false, false, false, false, false, false, false, false, false, false, false, false, true, true, false, false]
def mk_67 : List Bool := [false, false, false, true, true, false, false, false, false, false, false, false, false, false, false, false, false, false, false, false, false, false, false, false, false, false]
def mk_68 : List Bool := [false, true, true, false, false, false, false, false, false, false, false, false]
def mk_69 : List Bool := [false, false, false, false, true, false, false, false, false, false, false, false, false, false]
def mk_70 : List Bool := [false, false, false, false, true, true, true, true, true, true, true, false, false, false]
def mk_71 : List Bool := [false, false, false, false, false, false, false, false, false, false, false, false, false, false]
def mk_72 : List Bool := [false, false, false, false, false, false, false, false, false, false, false, true, true, true]
def mk_73 : List Bool := [false, true, false, false, false, false, false, false]
def mk_74 : List Bool := [false, true, true, true, true, true, true, true]
def mk_75 : List Bool := [false, false, false, false, false, false, false, false, false, false, true, true, false, false, false, false, false, false, false, false]
def mk_76 : List Bool := [false, false, false, false, false, false, false, false, false, false, false, true, false, false, false, false, false, false, false, false]
def mk_77 : List Bool := [false, false, false, false, false, false, false, false, false, false, false, true, false, false, false, false, false, true, true, true]
def mk_78 : List Bool := [true, false, false, false, true, true, true, true, false, false, false, false, false, false, false, false, false, false, false, false]
def mk_79 : List Bool := [false, false, false, false, false, false, false, false, true, false, false, false, false, false, false, false, false, false, false, false]
def mk_80 : List Bool := [false, false, false, false, false, false, false, false, true, true, false, true, true, true, true, true, true, true, true, true]
def mk_81 : List Bool := [false, false, false, false, false, false, false, false, false, false, false, false, true, true, true, true, true, false, false, false]
def mk_82 : List Bool := [false, false, false, false, false, false, false, false, true, true, false, false, false, false, false, false, false, false, false, false]
def mk_83 : List Bool := [true, false, false, false, false, false, false, false, true, true, false, false, true, true, true, true, true, false, false, false]
def mk_84 : List Bool := [true, true, true, true, true, true, true, true, true, true, true, true, true, true, true, true, true, true, true, true]
def mk_85 : List Bool := [true, true, true, true, false, false, false, false, true, true, false, false, false, true, true, true, true, true, true, true, true]
def mk_86 : List Bool := [false, false, false, false, false, false, false, false, false, false, true, false, false, false, false, false, false, false, false, false, false]
def mk_87 : List Bool := [false, false, false, false, false, false, false, false, true, true, true, false, false, true, true, true, true, true, true, true, true]
def mk_88 : List Bool := [false, false, false, false, false, false, false, false, false, false, false, false, false, true, true, true, true, true, false, false, false]
def mk_89 : List Bool := [false, false, false, false, false, false, false, false, true, true, false, false, false, false, false, false, false, false, false, false, false]
def mk_90 : List Bool := [false, false, false, false, false, false, false, false, false, false, true, true, false, false, false, false, false, false, false, false, false]
def mk_91 : List Bool := [false, false, false, false, false, false, false, false, true, true, false, true, false, true, true, true, true, true, true, true, true]
def mk_92 : List Bool := [true, true, true, true, true, true, true, true, true, true, false, true, true, true, true, true, true, true, true, true, true]
def mk_93 : List Bool := [true, false, false, true, true, true, true, false, false, false, true, true, false, true, true, true, false, true, true]
def mk_94 : List Bool := [false, false, false, true, true, false, false, false, false, false, false, false, false, false, false, false, false, false, false]
def mk_95 : List Bool := [false, false, false, true, true, false, false, true, true, true, true, true, true, false, false, true, true, false, false]
def mk_96 : List Bool := [false, true, true, false, false, true, true, true, false]
def mk_97 : List Bool := [false, true, true, true, true, false, false, false, false]
def mk_98 : List Bool := [false, false, false, false, false, false, false, false, true]
def mk_99 : List Bool := [false, true, false, false, false, false, false, false, false]
def mk_100 : List Bool := [false, true, false, false, false, false, false, false, false, false, false]
def mk_101 : List Bool := [true, true, true, false, false, false, false, false, false, false, false]
def mk_102 : List Bool := [false, true, true, false, false, true, true, false, false, false, false]
def mk_103 : List Bool := [true, false, false, true, true, true, true, true, true, true, true]
def mk_104 : List Bool := [false, false, false, false, false, false, false, false, false, false, false, false, false, false, false, false, false]
def mk_105 : List Bool := [false, true, false, false, false, false, false, false, false, false, false, false, false, false, false, false, false]
def mk_106 : List Bool := [true, true, true, false, false, false, false, false, false, false, false, false, false, false, false, false, false]
def mk_107 : List Bool := [false, true, true, false, false, true, true, false, false, false, false, true, true, true, true, true, true]
def mk_108 : List Bool := [false, false, false, false, false, false, false, false, false, false, false, true, false, false, false, false, false]
def mk_109 : List Bool := [true, false, false, true, true, true, true, true, true, true, true, false, false, false, false, false, false]
def mk_110 : List Bool := [false, true, false, false, false, false, false]
def mk_111 : List Bool := [false, false, true, true, true, true, false]
def mk_112 : List Bool := [false, false, false, false, false, false, true]
def mk_113 : List Bool := [false, false, true, false, false, false, false]
def mk_114 : List Bool := [false, true, false, false, false, false]
def mk_115 : List Bool := [false, false, true, true, true, false]
def mk_116 : List Bool := [false, false, false, false, false, true]
def mk_117 : List Bool := [false, false, false, false, true, false, false, false, false, false]
def mk_118 : List Bool := [false, false, false, false, false, true, false, false, false, false]
def mk_119 : List Bool := [false, true, true, false, false, false, false, false, false, false]
def mk_120 : List Bool := [false, false, false, false, false, false, true, false, false, false]
def mk_121 : List Bool := [false, false, false, false, false, false, false, true, true, true]
def mk_122 : List Bool := [false, false, false, false, false, false, false, false, false, false, false, false, false]
def mk_123 : List Bool := [false, true, true, true, true, true, true, true, true, true, true, true, true]
def mk_124 : List Bool := [false, false, false, true, false, false, false, false, false, false, false, false, false]
def mk_125 : List Bool := [false, true, true, true, true, true, true, true, true, true, true, true, true, true, true, true, true]
def mk_126 : List Bool := [false, false, false, false, false, true, false, false, false, false, false, false, false, false, false, false, false]
def mk_127 : List Bool := [true, true, true, true, true, true, true, true, true, true, true, true, true]
def mk_128 : List Bool := [false, false, false, false, true, false, false, false, false, false, false, false, false]
def mk_129 : List Bool := [false, false, false, false, true, true, false, false, false, false, false, false, false]
def mk_130 : List Bool := [true, true, true, true, true, true, true, true, true, true, true, true, true, true, true, true, true, false, false, false, false]
def mk_131 : List Bool := [true, true, true, true, true, false, false, false, false, false, false, false, false, false, false, false, false, true, true, true, true]
def mk_132 : List Bool := [false, false, false, false, false, false, false, false, false, false, false, false, false, false, false, false, false, false, false, false, false]
def mk_133 : List Bool := [false, true, true, true, true, true, true, true, true, true, true, true, true, true, true, true, true, false, false, false, false]
def mk_134 : List Bool := [false, false, false, false, false, true, false, false, false, false, false, false, false, false, false, false, false, false, false, false, false]
def mk_135 : List Bool := [false, false, false, false, false, false]
def mk_136 : List Bool := [false, true, true, true, true, true]
def mk_137 : List Bool := [false, true, true, true, true, true, false]
def mk_138 : List Bool := [false, false, false, true, false, false, false]
def mk_139 : List Bool := [false, true, true, true, true, false, false, false, true, true, true, true, true, true, true, true, true, true, true, true, true, true, true, true, true, true, true, true, true, true, true, true, true, true]
def mk_140 : List Bool := [false, true, true, true, true, true, true, true, false, false, false, false, false, false, false, false, false, false, false, false, false, false, false, false, false, false, false, false, false, false, false, false, false, false]
def mk_141 : List Bool := [false, true, true, true, true, true, true, true, true, true, true, true, true, true, true, true, true, true, true, true, true, true, true, true, true, true, true, true, true, true, true, false, false, false, false, false, false]
def mk_142 : List Bool := [false, true, true, false, false, false, false, false, false, false, false, false, false, false, false, false, false, false, false, false, false, false, false, false, false, false, false, false, false, false, false, false, false, false, false, false, false]
def mk_143 : List Bool := [false, false, false, false, false, false, false, false, false, false, false, false, false, false, false, false, false, false, false, false, false, false, false, false, false, false, true, true, true, true, true, false, false, false, false, false, false]
def mk_144 : List Bool := [false, true, false, false, true, true, true, true, true, false, false, true, true, true, true, true, true, true, true, true, true, true, true, true, true, true, false, false, false, true, true, true, true, false, false, false, false]
def mk_145 : List Bool := [true, false, false, false, false, false, false, false, false, false, false, false, false, false, false, false, false, false, false, false, false, false, false, false, false, false, false, false, false, true, true, true, true, true, true, true, true]
def mk_146 : List Bool := [false, false, false, false, false, false, false, false, false, false, false, false, false, false, false, false, false, false, false, false, false, false, false, false, false, false, false, false, false, false, false, true, false, false, false, false, false, false, false]
def mk_147 : List Bool := [false, true, true, true, true, true, true, true, false, false, false, false, true, true, true, true, false, false, false, true, true, true, true, true, true, true, true, true, true, true, true, true, true, false, false, false, false, false, false]
def mk_148 : List Bool := [false, true, false, false, true, true, false, false, true, true, true, true, false, true, true, true, true, true, true, true, true, true, true, true, true, true, true, true, false, false, false, true, true, true, true, false, false, false, false]
def mk_149 : List Bool := [true, false, false, false, false, false, false, false, false, false, false, false, false, false, false, false, false, false, false, false, false, false, false, false, false, false, false, false, false, false, false, true, true, true, true, true, true, true, true]
def mk_150 : List Bool := [false, true, false, true, false, false, false, false, false, false, false, false, false, false, false, false, false, false, false, false, false, false, false, false, false, false, false, false, false, false, false, false, false, false, false, false, false, false, false]
def mk_151 : List Bool := [false, true, true, false, false, false, false, false, false, false, false, false, false, false, false, false, false, false, false, false, false, false, false, false, false, false, false, false]
def mk_152 : List Bool := [false, false, false, false, false, false, false, false, false, false, false, false, false, false, false, false, false, false, false, false, false, false, false, false, false, false, false, false]
def mk_153 : List Bool := [false, true, false, false, false, false, false, false, false, false, false, false, false, false, false, false, false, false, false, false, false, false, false, false, false, false, false, false]
def mk_154 : List Bool := [false, true, true, true, false, false, false, false, false, false, false, true, true, false, false, false, true, true, false, true, true, true, false, true, true, false, false, false]
def mk_155 : List Bool := [false, false, false, true, true, true, true, true, true, true, true, true, true, true, true, true, true, true, true, false, false, true, true, false, false, true, true, true]
def mk_156 : List Bool := [false, true, false, false, false, false, false, false, false, false, false, false, false, false, false, false, false, false, false, false, false, false, false]
def mk_157 : List Bool := [false, true, true, true, true, true, true, true, true, true, true, true, true, true, true, true, true, true, true, true, false, false, false]
def mk_158 : List Bool := [true, true, false, false, false, false, true, true, false, true, true, false, false, false, false, false, false, false, false, false, true, true, true]
def mk_159 : List Bool := [true, true, true, false, false, true]
def mk_160 : List Bool := [true, true, false, true, true, false]
def mk_161 : List Bool := [true, true, true, true, true, true, false]
def mk_162 : List Bool := [true, true, true, true, true, false, true]
def mk_163 : List Bool := [true, false, true, true, true, false, false]
def mk_164 : List Bool := [true, false, false, false, true, true, true]
def mk_165 : List Bool := [true, true, true, false, false, false, true]
def mk_166 : List Bool := [true, true, false, true, false, false, false]
def mk_167 : List Bool := [true, false, false, false, false, true, false, true, true]
def mk_168 : List Bool := [true, true, true, true, true, true, true, false, false]
def mk_169 : List Bool := [true, false, false, false, false, true, false, true, true, false, false]
def mk_170 : List Bool := [true, true, true, true, true, true, true, false, false, false, false]
def mk_171 : List Bool := [true, true, true, true, false, true]
def mk_172 : List Bool := [false, false, false, false, false, false, false, false, false, false, false, false, false, false, false]
def mk_173 : List Bool := [true, true, true, true, true, true, true, true, true, true, true, false, false, false, false]
def mk_174 : List Bool := [true, false, false, false, false, true, false, false, false, false, false, false, true, true, true]
def mk_175 : List Bool := [true, false, false, false, false, false, false, false, true, false, false, true, true, true]
def mk_176 : List Bool := [true, true, true, true, true, true, true, true, true, true, true, false, false, false]
def mk_177 : List Bool := [true, false, false, false, false, true, false, true, true, false, false, false, false, false]
def mk_178 : List Bool := [true, false, false, false, false, true, false, false, false, false, false, true, true, true]
def mk_179 : List Bool := [true, false, false, false, false, false, false, true, true, false, false, false, false, false, false, false, false, false, true]
def mk_180 : List Bool := [true, true, true, true, true, true, true, true, true, true, true, false, false, false, false, false, false, false, false]
def mk_181 : List Bool := [true, false, false, false, false, true, false, false, false, false, false, false, false, false, false, true, true, true, false]
def mk_182 : List Bool := [true, true, true, false, false, false, true, true]
def mk_183 : List Bool := [true, true, false, true, true, false, false, false]
def mk_184 : List Bool := [true, true, true, false, false, true, false, false]
def mk_185 : List Bool := [true, false, false, false, false, false, false, true, true, false, false, false]
def mk_186 : List Bool := [false, false, false, false, false, false, false, false, false, false, false, false]
def mk_187 : List Bool := [true, true, true, false, false, false, false, true, true, false, false, false]
def mk_188 : List Bool := [true, true, true, true, true, true, false, true, true, false, false, false]
def mk_189 : List Bool := [true, false, false, false, false, true, false, false, false, true, true, true]
def mk_190 : List Bool := [true, true, false, true, false, false, false, false, false, false, false, false]
def mk_191 : List Bool := [true, true, true, true, true, true, false, true, true]
def mk_192 : List Bool := [true, true, true, false, false, false, false, false, false, false, false, false, false, false, false, false, false, false, false, false, false, false, false, false, false, false, false, false, false, false, false, false, false, false, false, false, false, false, false, false, false, false, false, false, false, false, false, false, false, false, false, false, false, false, false, false, false, false, false, false, false, false, false, false, false, false, false, false, false, false, false, false, false, false, false, false, false, false, false, false, false, false, false, false, false, false, false, false, false, false]
def mk_193 : List Bool := [false, false, false, false, false, false, false, false, false, false, false, false, false, false, false, false, false, false, false, false, false, false, false, false, false, false, false, false, false, false, false, false, false, false, false, false, false, false, false, false, false, false, false, false, false, false, false, false, false, false, false, false, false, false, false, false, false, false, false, false, false, false, false, false, false, false, true, true, false, false, false, false, false, false, false, false, false, false, false, false, false, false, false, false, false, false, false, false, false, false]
def mk_194 : List Bool := [true, true, false, false, false, false, false, false, false, false, false, false, false, false, false, false, false, false, false, false, false, false, false, false, false, false, false, false, false, false, false, false, false, false, false, false, false, false, false, false, false, false, false, false, false, false, false, false, false, false, false, false, false, false, false, false, false, false, false, false, false, false, false, false, false, false, false, false, false, false, false, false, false, false, false, false, false, false, false, false, false, false, false, false, false, false, false, false, false, false]
def mk_195 : List Bool := [false, false, false, false, false, false, false, false, false, false, false, false, false, false, false, false, false, false, false, false, false, false, false, false, false, false, false, false, false, false, false, false, false, false, false, false, false, false, false, false, false, false, false, false, false, false, false, false, false, false, false, false, false, false, false, false, false, false, false, false, false, false, false, false, false, false, true, false, false, false, false, false, false, false, false, false, false, false, false, false, false, false, false, false, false, false, false, false, false, false]
def mk_196 : List Bool := [true, true, true, true, true, true, true, false, false, false, false, false, false, false, false, false, false, false, false, false, false, false, false, false, false, true, true, true, false, false, false, false, false, false, false, false, false, false, false, false, false, false, false, false, false, false, false, false, false, false, false, false, false, true, false, false, false, false, false, false, false, false, false, false, false, false, false, false, false, false, false, false, false, false, false, false, false, false, false, false, false, false, false, false, false, false, false, false, false, false]
def mk_197 : List Bool := [false, false, false, false, false, false, false, false, false, false, false, false, false, false, false, false, false, false, false, false, false, false, false, false, false, false, false, false, false, false, false, false, false, false, false, false, false, false, false, false, false, false, false, false, false, false, false, false, false, false, false, false, false, false, false, false, false, false, false, false, false, false, false, false, false, false, true, true, true, true, false, false, false, false, false, false, false, false, false, false, false, false, false, false, false, false, false, false, false, false]
def mk_198 : List Bool := [true, true, true, true, true, true, true, true, true, true, false, false, true, true, false, false, true, false, false, false, false, false, false, false, false, true, true, true, false, false, false, false, false, false, false, false, false, false, false, false, false, false, false, false, false, false, false, false, false, false, false, false, false, true, false, false, false, false, false, false, false, false, false, false, false, false, false, false, false, false, false, false, false, false, false, false, false, false, false, false, false, false, false, false, false, false, false, false, false, false]
def mk_199 : List Bool := [false, false, false, false, false, false, false, false, false, false, false, false, false, false, false, false, false, false, false, false, false, false, false, false, false, false, false, false, false, false, false, false, false, false, false, false, false, false, false, false, false, false, false, false, false, false, false, false, false, false, false, false, false, false, false, false, false, false, false, false, false, false, false, false, false, false, true, true, true, true, true, false, false, false, false, false, false, false, false, false, true, true, false, false, false, false, false, false, false, false]
def mk_200 : List Bool := [true, false, false, false, false, false, false, true, true, true, true, true, false, false, false, false, false, false, false, false, false, false, false, false, false, false, false, false, false, false, false, false, false, false, false, false, false, false, false, false, false, false, false, false, false, false, false, false, false, false, false, false, false, true, false, false, false, false, false, false, false, false, false, false, false, false, false, false, false, false, false, false, false, false, false, false, false, false, false, false, false, false, false, false, false, false, false, false, false, false]
def mk_201 : List Bool := [false, false, false, false, false, false, false, false, false, false, false, false, false, false, false, false, false, false, false, false, false, false, false, false, false, false, false, false, false, false, false, false, false, false, false, false, false, false, false, false, false, false, false, false, false, false, false, false, false, false, false, false, false, false, false, false, false, false, false, false, false, false, false, false, false, false, true, false, false, false, true, true, true, false, false, false, false, false, false, false, false, false, false, false, false, false, false, false, false, false]
def mk_202 : List Bool := [true, false, false, false, false, false, false, true, false, false, false, false, true, true, true, true, false, false, false, false, false, false, false, false, false, false, false, false, false, false, false, false, false, false, false, false, false, false, false, false, false, false, false, false, false, false, false, false, false, false, false, false, false, true, false, false, false, false, false, false, false, false, false, false, false, false, false, false, false, false, false, false, false, false, false, false, false, false, false, false, false, false, false, false, false, false, false, false, false, false]
def mk_203 : List Bool := [true, false, false, false, false, false, false, true, false, false, false, false, false, false, false, false, false, false, false, false, false, false, false, false, false, false, false, false, false, false, false, false, false, false, false, false, false, false, false, false, false, false, false, false, false, false, false, false, false, false, false, false, false, false, false, false, false, false, false, false, false, false, false, false, false, false, false, false, false, false, false, false, false, false, false, false, false, false, false, false, false, false, false, false, false, false, false, false, false, false]
def mk_204 : List Bool := [true, false, false, false, false, false, false, true, true, true, false, true, false, false, false, false, false, false, false, false, false, false, false, false, false, false, false, false, false, false, false, false, false, false, false, false, false, false, false, false, false, false, false, false, false, false, false, false, false, false, false, false, false, true, false, false, false, false, false, false, false, false, false, false, false, false, false, false, false, false, false, false, false, false, false, false, false, false, false, false, false, false, false, false, false, false, false, false, false, false]
def mk_205 : List Bool := [true, false, false, false, false, false, false, true, false, false, false, false, true, true, false, true, false, false, false, false, false, false, false, false, false, false, false, false, false, false, false, false, false, false, false, false, false, false, false, false, false, false, false, false, false, false, false, false, false, false, false, false, false, true, false, false, false, false, false, false, false, false, false, false, false, false, false, false, false, false, false, false, false, false, false, false, false, false, false, false, false, false, false, false, false, false, false, false, false, false]
def mk_206 : List Bool := [true, true, false, true, true, false, false, true, true, false, false, false, true, false, false, false, false, false, false, true, false, false, true, false, false, true, false, false, false, false, false, false, false, false, false, false, false, false, false, false, false, false, false, false, false, false, false, false, false, false, false, false, false, false, false, false, false, false, false, false, false, false, false, false, false, false, false, false, false, false, false, false, false, false, false, false, false, false, false, false, false, false, false, false, false, false, false, false, false, false]
def mk_207 : List Bool := [false, false, false, false, false, false, false, false, false, false, false, false, false, false, false, false, false, false, false, false, false, false, false, false, false, false, false, false, false, false, false, false, false, false, false, false, false, false, false, false, false, false, false, false, false, false, false, false, false, false, false, false, false, false, false, false, false, false, false, false, false, false, false, false, false, false, true, false, true, true, false, false, true, false, false, false, false, false, false, false, false, false, false, false, false, false, false, false, false, false]
def mk_208 : List Bool := [true, false, false, true, true, false, false, true, true, false, true, true, true, false, true, true, true, true, true, false, false, false, false, false, false, false, false, false, false, false, false, false, false, false, false, false, false, false, false, false, false, false, false, false, false, false, false, false, false, false, false, false, false, false, false, false, false, false, false, false, false, false, false, false, false, false, false, false, false, false, false, false, false, false, false, false, false, false, false, false, false, false, false, false, false, false, false, false, false, false]
def mk_209 : List Bool := [false, false, false, false, false, false, false, false, false, false, false, false, false, false, false, false, false, false, false, false, false, false, false, false, false, false, false, false, false, false, false, false, false, false, false, false, false, false, false, false, false, false, false, false, false, false, false, false, false, false, false, false, false, false, false, false, false, false, false, false, false, false, false, false, false, false, true, false, true, true, false, true, false, false, false, false, false, false, false, false, true, false, false, false, false, false, false, false, false, false]
def mk_210 : List Bool := [true, false, false, false, false, false, false, false, false, false, false, false, false, false, false, false, false, false, false, false, false, false, false, false, false, false, false, false, false, false, false, false, false, false, false, false, false, false, false, false, false, false, false, false, false, false, false, false, false, false, false, false, false, false, false, false, false, false, false, false, false, false, false, false, false, false, false, false, false, false, false, false, false, false, false, false, false, false, false, false, false, false, false, false, false, false, false, false, false, false]
def mk_211 : List Bool := [true, false, false, true, true, true, true, true, true, true, true, true, true, true, true, true, true, true, true, false, false, false, false, false, false, true, true, true, false, false, false, false, false, false, false, false, false, false, false, false, false, false, false, false, false, false, false, false, false, false, false, false, false, true, false, false, false, false, false, false, false, false, false, false, false, false, false, false, false, false, false, false, false, false, false, false, false, false, false, false, false, false, false, false, false, false, false, false, false, false]
def mk_212 : List Bool := [false, false, false, false, false, false, false, false, false, false, false, false, false, false, false, false, false, false, false, false, false, false, false, false, false, false, false, false, false, false, false, false, false, false, false, false, false, false, false, false, false, false, false, false, false, false, false, false, false, false, false, false, false, false, false, false, false, false, false, false, false, false, false, false, false, false, true, false, true, true, true, true, false, false, false, false, false, false, false, false, true, true, false, false, false, false, false, false, false, false]
def mk_213 : List Bool := [false, false, false, false, false, false, false, false, false, false, false, false, false, false, false, false, false, false, false, false, false, false, false, false, false, false, false, false, false, false, false, false, false, false, false, false, false, false, false, false, false, false, false, false, false, false, false, false, false, false, false, false, false, false, false, false, false, false, false, false, false, false, false, false, false, false, true, false, true, true, true, true, false, false, false, false, false, false, false, false, true, true, true, true, false, false, false, false, false, false]
def mk_214 : List Bool := [true, false, false, false, false, false, false, true, true, true, false, false, true, true, false, false, false, false, false, false, false, false, false, false, false, false, false, false, false, false, false, false, false, false, false, false, false, false, false, false, false, false, false, false, false, false, false, false, false, false, false, false, false, false, false, false, false, false, false, false, false, false, false, false, false, false, false, false, false, false, false, false, false, false, false, false, false, false, false, false, false, false, false, false, false, false, false, false, false, false]
def mk_215 : List Bool := [false, false, false, false, false, false, false, false, false, false, false, false, false, false, false, false, false, false, false, false, false, false, false, false, false, false, false, false, false, false, false, false, false, false, false, false, false, false, false, false, false, false, false, false, false, false, false, false, false, false, false, false, false, false, false, false, false, false, false, false, false, false, false, false, false, false, true, false, false, false, true, false, false, false, false, false, false, false, false, false, false, false, false, false, false, false, false, false, false, false]
def mk_216 : List Bool := [true, false, false, true, true, false, false, false, false, false, false, false, false, false, false, false, false, false, false, false, false, false, false, false, false, true, true, true, false, false, false, false, false, false, false, false, false, false, false, false, false, false, false, false, false, false, false, false, false, false, false, false, false, true, false, false, false, false, false, false, false, false, false, false, false, false, false, false, false, false, false, false, false, false, false, false, false, false, false, false, false, false, false, false, false, false, false, false, false, false]
def mk_217 : List Bool := [false, false, false, false, false, false, false, false, false, false, false, false, false, false, false, false, false, false, false, false, false, false, false, false, false, false, false, false, false, false, false, false, false, false, false, false, false, false, false, false, false, false, false, false, false, false, false, false, false, false, false, false, false, false, false, false, false, false, false, false, false, false, false, false, false, false, true, false, true, true, false, false, false, false, false, false, false, false, false, false, false, false, false, false, false, false, false, false, false, false]
def mk_218 : List Bool := [true, false, false, false, false, false, false, false, false, false, false, false, false, false, false, false, false, false, false, true, true, true, false, false, false, false, false, false, false, false, false, false, false, false, false, false, false, false, false, false, false, false, false, false, false, false, false, false, false, false, false, false, false, true, false, false, false, false, false, false, false, false, false, false, false, false, false, false, false, false, false, false, false, false, false, false, false, false, false, false, false, false, false, false, false, false, false, false, false, false]
def mk_219 : List Bool := [false, false, false, false, false, false, false, false, false, false, false, false, false, false, false, false, false, false, false, false, false, false, false, false, false, false, false, false, false, false, false, false, false, false, false, false, false, false, false, false, false, false, false, false, false, false, false, false, false, false, false, false, false, false, false, false, false, false, false, false, false, false, false, false, false, false, true, false, false, false, false, false, false, true, true, false, false, false, false, false, false, false, false, false, false, false, false, false, false, false]
def mk_220 : List Bool := [true, false, false, false, false, false, false, false, false, false, false, false, false, false, false, false, false, false, false, true, false, false, false, false, false, false, false, false, false, false, false, false, false, false, false, false, false, false, false, false, false, false, false, false, false, false, false, false, false, false, false, false, false, true, false, false, false, false, false, false, false, false, false, false, false, false, false, false, false, false, false, false, false, false, false, false, false, false, false, false, false, false, false, false, false, false, false, false, false, false]
def mk_221 : List Bool := [true, false, false, true, true, false, false, true, true, true, true, true, true, true, true, true, true, true, true, true, true, true, true, true, true, false, false, false, true, true, true, true, true, true, true, true, true, true, true, true, true, false, false, false, false, false, false, false, false, false, false, false, false, false, false, false, false, false, false, false, false, false, false, false, false, false, false, false, false, false, false, false, false, false, false, false, false, false, false, false, false, false, false, false, false, false, false, false, false, false]
def mk_222 : List Bool := [false, false, false, false, false, false, false, false, false, false, false, false, false, false, false, false, false, false, false, false, false, false, false, false, false, false, false, false, false, false, false, false, false, false, false, false, false, false, false, false, false, false, false, false, false, false, false, false, false, false, false, false, false, false, false, false, false, false, false, false, false, false, false, false, false, false, true, false, true, true, true, true, false, true, true, true, true, true, true, false, true, true, true, true, false, false, false, false, false, false]
def mk_223 : List Bool := [true, false, false, false, false, false, false, false, false, false, false, false, false, false, false, false, false, false, false, false, false, false, false, false, false, false, false, false, true, false, false, false, false, false, false, false, false, false, true, true, true, false, false, false, false, false, false, false, false, false, false, false, false, false, false, false, false, false, false, false, false, false, false, false, false, false, false, false, false, false, false, false, false, false, false, false, false, false, false, false, false, false, false, false, false, false, false, false, false, false]
def mk_224 : List Bool := [false, false, false, false, false, false, false, false, false, false, false, false, false, false, false, false, false, false, false, false, false, false, false, false, false, false, false, false, false, false, false, false, false, false, false, false, false, false, false, false, false, false, false, false, false, false, false, false, false, false, false, false, false, false, false, false, false, false, false, false, false, false, false, false, false, false, true, false, false, false, false, false, false, false, false, true, false, false, false, false, false, false, false, false, false, false, false, false, false, false]
def mk_225 : List Bool := [true, false, false, false, false, false, false, false, false, false, false, false, false, false, false, false, false, false, false, false, false, false, true, true, true, false, false, false, false, false, false, false, false, false, false, false, false, false, false, false, false, false, false, false, false, false, false, false, false, false, false, false, false, true, false, false, false, false, false, false, false, false, false, false, false, false, false, false, false, false, false, false, false, false, false, false, false, false, false, false, false, false, false, false, false, false, false, false, false, false]
def mk_226 : List Bool := [false, false, false, false, false, false, false, false, false, false, false, false, false, false, false, false, false, false, false, false, false, false, false, false, false, false, false, false, false, false, false, false, false, false, false, false, false, false, false, false, false, false, false, false, false, false, false, false, false, false, false, false, false, false, false, false, false, false, false, false, false, false, false, false, false, false, true, false, false, false, false, false, false, false, false, false, true, true, true, false, false, false, false, false, false, false, false, false, false, false]
def mk_227 : List Bool := [true, false, false, true, true, false, false, false, false, false, false, false, false, false, false, false, false, false, false, false, false, false, true, true, true, false, false, false, false, false, false, false, false, false, false, false, false, false, false, false, false, false, false, false, false, false, false, false, false, false, false, false, false, false, false, false, false, false, false, false, false, false, false, false, false, false, false, false, false, false, false, false, false, false, false, false, false, false, false, false, false, false, false, false, false, false, false, false, false, false]
def mk_228 : List Bool := [false, false, false, false, false, false, false, false, false, false, false, false, false, false, false, false, false, false, false, false, false, false, false, false, false, false, false, false, false, false, false, false, false, false, false, false, false, false, false, false, false, false, false, false, false, false, false, false, false, false, false, false, false, false, false, false, false, false, false, false, false, false, false, false, false, false, true, false, true, true, false, false, false, false, false, false, true, true, true, false, false, false, false, false, false, false, false, false, false, false]
def mk_229 : List Bool := [true, false, false, true, true, true, true, true, true, true, true, true, true, true, true, true, true, true, true, true, true, true, true, true, true, true, true, true, true, true, true, true, true, true, true, true, true, true, false, false, false, false, false, false, false, false, false, false, false, false, false, false, false, true, false, false, false, false, false, false, false, false, false, false, false, false, false, false, false, false, false, false, false, false, false, false, false, false, false, false, false, false, false, false, false, false, false, false, false, false]
def mk_230 : List Bool := [false, false, false, false, false, false, false, false, false, false, false, false, false, false, false, false, false, false, false, false, false, false, false, false, false, false, false, false, false, false, false, false, false, false, false, false, false, false, false, false, false, false, false, false, false, false, false, false, false, false, false, false, false, false, false, false, false, false, false, false, false, false, false, false, false, false, true, false, true, true, true, true, false, true, true, false, true, true, true, false, true, true, true, true, false, false, false, false, false, false]
def mk_231 : List Bool := [true, false, false, true, true, true, true, true, true, true, true, true, true, true, true, true, true, true, true, true, true, true, true, true, true, true, true, true, false, false, false, false, false, false, false, false, false, false, false, false, false, true, true, true, true, true, true, true, true, true, true, true, true, true, false, false, false, false, false, false, false, false, false, false, false, false, false, false, false, false, false, false, false, false, false, false, false, false, false, false, false, false, false, false, false, false, false, false, false, false]
def mk_232 : List Bool := [false, false, false, false, false, false, false, false, false, false, false, false, false, false, false, false, false, false, false, false, false, false, false, false, false, false, false, false, false, false, false, false, false, false, false, false, false, false, false, false, false, false, false, false, false, false, false, false, false, false, false, false, false, false, false, false, false, false, false, false, false, false, false, false, false, false, true, false, true, true, true, true, false, true, true, false, true, true, true, false, true, true, true, true, true, true, true, true, true, false]
def mk_233 : List Bool := [true, false, false, true, true, false, false, true, true, true, true, true, true, true, true, true, false, false, false, false, false, false, true, true, true, false, false, false, false, false, false, false, false, false, false, false, false, false, false, false, false, false, false, false, false, false, false, false, false, false, false, false, false, true, true, true, true, true, true, true, true, true, true, true, true, true, false, false, false, false, false, false, false, false, false, false, false, false, false, false, false, false, false, false, false, false, false, false, false, false]
def mk_234 : List Bool := [false, false, false, false, false, false, false, false, false, false, false, false, false, false, false, false, false, false, false, false, false, false, false, false, false, false, false, false, false, false, false, false, false, false, false, false, false, false, false, false, false, false, false, false, false, false, false, false, false, false, false, false, false, false, false, false, false, false, false, false, false, false, false, false, false, false, true, false, true, true, true, true, false, false, false, false, true, true, true, true, true, true, true, false, false, false, false, false, false, false]
def mk_235 : List Bool := [true, false, false, false, false, false, false, false, false, false, false, false, false, false, false, false, false, false, false, false, false, false, false, false, false, false, false, false, false, false, false, false, false, false, false, false, false, false, false, false, false, false, false, false, false, false, false, false, false, false, false, false, false, true, false, false, false, false, false, false, false, false, true, true, true, true, false, false, false, false, false, false, false, false, false, false, false, false, false, false, false, false, false, false, false, false, false, false, false, false]
def mk_236 : List Bool := [false, false, false, false, false, false, false, false, false, false, false, false, false, false, false, false, false, false, false, false, false, false, false, false, false, false, false, false, false, false, false, false, false, false, false, false, false, false, false, false, false, false, false, false, false, false, false, false, false, false, false, false, false, false, false, false, false, false, false, false, false, false, false, false, false, false, true, false, false, false, false, false, false, false, false, false, false, false, false, true, false, false, false, false, false, false, false, false, false, false]
def mk_237 : List Bool := [true, false, false, true, true, true, true, true, true, true, true, true, true, true, true, true, true, false, false, false, false, false, false, false, false, true, true, true, false, false, false, false, false, false, false, false, false, false, false, false, false, false, false, false, false, false, false, false, false, false, false, false, false, true, true, true, false, false, false, false, false, false, true, true, false, false, false, false, false, false, false, false, false, false, false, false, false, false, false, false, false, false, false, false, false, false, false, false, false, false]
def mk_238 : List Bool := [false, false, false, false, false, false, false, false, false, false, false, false, false, false, false, false, false, false, false, false, false, false, false, false, false, false, false, false, false, false, false, false, false, false, false, false, false, false, false, false, false, false, false, false, false, false, false, false, false, false, false, false, false, false, false, false, false, false, false, false, false, false, false, false, false, false, true, false, true, true, true, true, false, false, false, false, false, false, false, true, true, true, true, false, false, false, false, false, false, false]

end

/-! 20.a.rows -/
section
set_option maxRecDepth 100000 in
theorem dA1_cX5_length : kDec cX5_length [(0, .aload_n 0, 1), (1, .getfield 21, 3), (4, .ireturn, 1)] = true := by decide +kernel
theorem dX5_length_0 : decode cX5_length 0 = .ok (.aload_n 0, 1) := kDec_at dA1_cX5_length 0 rfl
theorem dX5_length_1 : decode cX5_length 1 = .ok (.getfield 21, 3) := kDec_at dA1_cX5_length 1 rfl
theorem dX5_length_4 : decode cX5_length 4 = .ok (.ireturn, 1) := kDec_at dA1_cX5_length 2 rfl
set_option maxRecDepth 100000 in
theorem dA2_cX5_get : kDec cX5_get [(0, .iload_n 1, 1), (1, .ifCond .lt 20, 3), (21, .iconst (-1), 1), (22, .ireturn, 1), (4, .iload_n 1, 1), (5, .aload_n 0, 1), (6, .getfield 21, 3), (9, .if_icmp .ge 12, 3), (12, .aload_n 0, 1), (13, .getfield 15, 3), (16, .iload_n 1, 1), (17, .iaload, 1), (18, .goto 4, 3)] = true := by decide +kernel
theorem dX5_get_0 : decode cX5_get 0 = .ok (.iload_n 1, 1) := kDec_at dA2_cX5_get 0 rfl
theorem dX5_get_1 : decode cX5_get 1 = .ok (.ifCond .lt 20, 3) := kDec_at dA2_cX5_get 1 rfl
theorem dX5_get_21 : decode cX5_get 21 = .ok (.iconst (-1), 1) := kDec_at dA2_cX5_get 2 rfl
theorem dX5_get_22 : decode cX5_get 22 = .ok (.ireturn, 1) := kDec_at dA2_cX5_get 3 rfl
theorem dX5_get_4 : decode cX5_get 4 = .ok (.iload_n 1, 1) := kDec_at dA2_cX5_get 4 rfl
theorem dX5_get_5 : decode cX5_get 5 = .ok (.aload_n 0, 1) := kDec_at dA2_cX5_get 5 rfl
theorem dX5_get_6 : decode cX5_get 6 = .ok (.getfield 21, 3) := kDec_at dA2_cX5_get 6 rfl
theorem dX5_get_9 : decode cX5_get 9 = .ok (.if_icmp .ge 12, 3) := kDec_at dA2_cX5_get 7 rfl
theorem dX5_get_12 : decode cX5_get 12 = .ok (.aload_n 0, 1) := kDec_at dA2_cX5_get 8 rfl
theorem dX5_get_13 : decode cX5_get 13 = .ok (.getfield 15, 3) := kDec_at dA2_cX5_get 9 rfl
theorem dX5_get_16 : decode cX5_get 16 = .ok (.iload_n 1, 1) := kDec_at dA2_cX5_get 10 rfl
theorem dX5_get_17 : decode cX5_get 17 = .ok (.iaload, 1) := kDec_at dA2_cX5_get 11 rfl
theorem dX5_get_18 : decode cX5_get 18 = .ok (.goto 4, 3) := kDec_at dA2_cX5_get 12 rfl
set_option maxRecDepth 100000 in
theorem dA3_cX5_add : kDec cX5_add [(0, .aload_n 0, 1), (1, .getfield 21, 3), (4, .aload_n 0, 1), (5, .getfield 15, 3), (8, .arraylength, 1), (9, .if_icmp .lt 5, 3), (14, .aload_n 0, 1), (15, .getfield 15, 3), (18, .aload_n 0, 1), (19, .getfield 21, 3), (22, .iload_n 1, 1), (23, .iastore, 1), (24, .aload_n 0, 1), (25, .dup, 1), (26, .getfield 21, 3), (29, .iconst 1, 1), (30, .iadd, 1), (31, .putfield 21, 3), (34, .iconst 1, 1), (35, .ireturn, 1), (12, .iconst 0, 1), (13, .ireturn, 1)] = true := by decide +kernel
theorem dX5_add_0 : decode cX5_add 0 = .ok (.aload_n 0, 1) := kDec_at dA3_cX5_add 0 rfl
theorem dX5_add_1 : decode cX5_add 1 = .ok (.getfield 21, 3) := kDec_at dA3_cX5_add 1 rfl
theorem dX5_add_4 : decode cX5_add 4 = .ok (.aload_n 0, 1) := kDec_at dA3_cX5_add 2 rfl
theorem dX5_add_5 : decode cX5_add 5 = .ok (.getfield 15, 3) := kDec_at dA3_cX5_add 3 rfl
theorem dX5_add_8 : decode cX5_add 8 = .ok (.arraylength, 1) := kDec_at dA3_cX5_add 4 rfl
theorem dX5_add_9 : decode cX5_add 9 = .ok (.if_icmp .lt 5, 3) := kDec_at dA3_cX5_add 5 rfl
theorem dX5_add_14 : decode cX5_add 14 = .ok (.aload_n 0, 1) := kDec_at dA3_cX5_add 6 rfl
theorem dX5_add_15 : decode cX5_add 15 = .ok (.getfield 15, 3) := kDec_at dA3_cX5_add 7 rfl
theorem dX5_add_18 : decode cX5_add 18 = .ok (.aload_n 0, 1) := kDec_at dA3_cX5_add 8 rfl
theorem dX5_add_19 : decode cX5_add 19 = .ok (.getfield 21, 3) := kDec_at dA3_cX5_add 9 rfl
theorem dX5_add_22 : decode cX5_add 22 = .ok (.iload_n 1, 1) := kDec_at dA3_cX5_add 10 rfl
theorem dX5_add_23 : decode cX5_add 23 = .ok (.iastore, 1) := kDec_at dA3_cX5_add 11 rfl
theorem dX5_add_24 : decode cX5_add 24 = .ok (.aload_n 0, 1) := kDec_at dA3_cX5_add 12 rfl
theorem dX5_add_25 : decode cX5_add 25 = .ok (.dup, 1) := kDec_at dA3_cX5_add 13 rfl
theorem dX5_add_26 : decode cX5_add 26 = .ok (.getfield 21, 3) := kDec_at dA3_cX5_add 14 rfl
theorem dX5_add_29 : decode cX5_add 29 = .ok (.iconst 1, 1) := kDec_at dA3_cX5_add 15 rfl
theorem dX5_add_30 : decode cX5_add 30 = .ok (.iadd, 1) := kDec_at dA3_cX5_add 16 rfl
theorem dX5_add_31 : decode cX5_add 31 = .ok (.putfield 21, 3) := kDec_at dA3_cX5_add 17 rfl
theorem dX5_add_34 : decode cX5_add 34 = .ok (.iconst 1, 1) := kDec_at dA3_cX5_add 18 rfl
theorem dX5_add_35 : decode cX5_add 35 = .ok (.ireturn, 1) := kDec_at dA3_cX5_add 19 rfl
theorem dX5_add_12 : decode cX5_add 12 = .ok (.iconst 0, 1) := kDec_at dA3_cX5_add 20 rfl
theorem dX5_add_13 : decode cX5_add 13 = .ok (.ireturn, 1) := kDec_at dA3_cX5_add 21 rfl
set_option maxRecDepth 100000 in
theorem dA4_cX5_cut : kDec cX5_cut [(0, .iload_n 1, 1), (1, .ifCond .lt 16, 3), (17, .return_, 1), (4, .iload_n 1, 1), (5, .aload_n 0, 1), (6, .getfield 21, 3), (9, .if_icmp .ge 8, 3), (12, .aload_n 0, 1), (13, .iload_n 1, 1), (14, .putfield 21, 3)] = true := by decide +kernel
theorem dX5_cut_0 : decode cX5_cut 0 = .ok (.iload_n 1, 1) := kDec_at dA4_cX5_cut 0 rfl
theorem dX5_cut_1 : decode cX5_cut 1 = .ok (.ifCond .lt 16, 3) := kDec_at dA4_cX5_cut 1 rfl
theorem dX5_cut_17 : decode cX5_cut 17 = .ok (.return_, 1) := kDec_at dA4_cX5_cut 2 rfl
theorem dX5_cut_4 : decode cX5_cut 4 = .ok (.iload_n 1, 1) := kDec_at dA4_cX5_cut 3 rfl
theorem dX5_cut_5 : decode cX5_cut 5 = .ok (.aload_n 0, 1) := kDec_at dA4_cX5_cut 4 rfl
theorem dX5_cut_6 : decode cX5_cut 6 = .ok (.getfield 21, 3) := kDec_at dA4_cX5_cut 5 rfl
theorem dX5_cut_9 : decode cX5_cut 9 = .ok (.if_icmp .ge 8, 3) := kDec_at dA4_cX5_cut 6 rfl
theorem dX5_cut_12 : decode cX5_cut 12 = .ok (.aload_n 0, 1) := kDec_at dA4_cX5_cut 7 rfl
theorem dX5_cut_13 : decode cX5_cut 13 = .ok (.iload_n 1, 1) := kDec_at dA4_cX5_cut 8 rfl
theorem dX5_cut_14 : decode cX5_cut 14 = .ok (.putfield 21, 3) := kDec_at dA4_cX5_cut 9 rfl
set_option maxRecDepth 100000 in
theorem dA5_cX5_addAll : kDec cX5_addAll [(0, .aload_n 1, 1), (1, .getfield 21, 3), (4, .aload_n 0, 1), (5, .getfield 15, 3), (8, .arraylength, 1), (9, .aload_n 0, 1), (10, .getfield 21, 3), (13, .isub, 1), (14, .if_icmp .le 5, 3), (19, .aload_n 1, 1), (20, .getfield 15, 3), (23, .iconst 0, 1), (24, .aload_n 0, 1), (25, .getfield 15, 3), (28, .aload_n 0, 1), (29, .getfield 21, 3), (32, .aload_n 1, 1), (33, .getfield 21, 3), (36, .invokestatic 25, 3), (39, .aload_n 0, 1), (40, .dup, 1), (41, .getfield 21, 3), (44, .aload_n 1, 1), (45, .getfield 21, 3)] = true := by decide +kernel
theorem dX5_addAll_0 : decode cX5_addAll 0 = .ok (.aload_n 1, 1) := kDec_at dA5_cX5_addAll 0 rfl
theorem dX5_addAll_1 : decode cX5_addAll 1 = .ok (.getfield 21, 3) := kDec_at dA5_cX5_addAll 1 rfl
theorem dX5_addAll_4 : decode cX5_addAll 4 = .ok (.aload_n 0, 1) := kDec_at dA5_cX5_addAll 2 rfl
theorem dX5_addAll_5 : decode cX5_addAll 5 = .ok (.getfield 15, 3) := kDec_at dA5_cX5_addAll 3 rfl
theorem dX5_addAll_8 : decode cX5_addAll 8 = .ok (.arraylength, 1) := kDec_at dA5_cX5_addAll 4 rfl
theorem dX5_addAll_9 : decode cX5_addAll 9 = .ok (.aload_n 0, 1) := kDec_at dA5_cX5_addAll 5 rfl
theorem dX5_addAll_10 : decode cX5_addAll 10 = .ok (.getfield 21, 3) := kDec_at dA5_cX5_addAll 6 rfl
theorem dX5_addAll_13 : decode cX5_addAll 13 = .ok (.isub, 1) := kDec_at dA5_cX5_addAll 7 rfl
theorem dX5_addAll_14 : decode cX5_addAll 14 = .ok (.if_icmp .le 5, 3) := kDec_at dA5_cX5_addAll 8 rfl
theorem dX5_addAll_19 : decode cX5_addAll 19 = .ok (.aload_n 1, 1) := kDec_at dA5_cX5_addAll 9 rfl
theorem dX5_addAll_20 : decode cX5_addAll 20 = .ok (.getfield 15, 3) := kDec_at dA5_cX5_addAll 10 rfl
theorem dX5_addAll_23 : decode cX5_addAll 23 = .ok (.iconst 0, 1) := kDec_at dA5_cX5_addAll 11 rfl
theorem dX5_addAll_24 : decode cX5_addAll 24 = .ok (.aload_n 0, 1) := kDec_at dA5_cX5_addAll 12 rfl
theorem dX5_addAll_25 : decode cX5_addAll 25 = .ok (.getfield 15, 3) := kDec_at dA5_cX5_addAll 13 rfl
theorem dX5_addAll_28 : decode cX5_addAll 28 = .ok (.aload_n 0, 1) := kDec_at dA5_cX5_addAll 14 rfl
theorem dX5_addAll_29 : decode cX5_addAll 29 = .ok (.getfield 21, 3) := kDec_at dA5_cX5_addAll 15 rfl
theorem dX5_addAll_32 : decode cX5_addAll 32 = .ok (.aload_n 1, 1) := kDec_at dA5_cX5_addAll 16 rfl
theorem dX5_addAll_33 : decode cX5_addAll 33 = .ok (.getfield 21, 3) := kDec_at dA5_cX5_addAll 17 rfl
theorem dX5_addAll_36 : decode cX5_addAll 36 = .ok (.invokestatic 25, 3) := kDec_at dA5_cX5_addAll 18 rfl
theorem dX5_addAll_39 : decode cX5_addAll 39 = .ok (.aload_n 0, 1) := kDec_at dA5_cX5_addAll 19 rfl
theorem dX5_addAll_40 : decode cX5_addAll 40 = .ok (.dup, 1) := kDec_at dA5_cX5_addAll 20 rfl
theorem dX5_addAll_41 : decode cX5_addAll 41 = .ok (.getfield 21, 3) := kDec_at dA5_cX5_addAll 21 rfl
theorem dX5_addAll_44 : decode cX5_addAll 44 = .ok (.aload_n 1, 1) := kDec_at dA5_cX5_addAll 22 rfl
theorem dX5_addAll_45 : decode cX5_addAll 45 = .ok (.getfield 21, 3) := kDec_at dA5_cX5_addAll 23 rfl
set_option maxRecDepth 100000 in
theorem dA6_cX5_addAll : kDec cX5_addAll [(48, .iadd, 1), (49, .putfield 21, 3), (52, .iconst 1, 1), (53, .ireturn, 1), (17, .iconst 0, 1), (18, .ireturn, 1)] = true := by decide +kernel
theorem dX5_addAll_48 : decode cX5_addAll 48 = .ok (.iadd, 1) := kDec_at dA6_cX5_addAll 0 rfl
theorem dX5_addAll_49 : decode cX5_addAll 49 = .ok (.putfield 21, 3) := kDec_at dA6_cX5_addAll 1 rfl
theorem dX5_addAll_52 : decode cX5_addAll 52 = .ok (.iconst 1, 1) := kDec_at dA6_cX5_addAll 2 rfl
theorem dX5_addAll_53 : decode cX5_addAll 53 = .ok (.ireturn, 1) := kDec_at dA6_cX5_addAll 3 rfl
theorem dX5_addAll_17 : decode cX5_addAll 17 = .ok (.iconst 0, 1) := kDec_at dA6_cX5_addAll 4 rfl
theorem dX5_addAll_18 : decode cX5_addAll 18 = .ok (.ireturn, 1) := kDec_at dA6_cX5_addAll 5 rfl
set_option maxRecDepth 100000 in
theorem dA7_cX5_takeAll : kDec cX5_takeAll [(0, .aload_n 0, 1), (1, .iconst 0, 1), (2, .putfield 21, 3), (5, .aload_n 0, 1), (6, .aload_n 1, 1), (7, .invokevirtual 31, 3), (10, .ireturn, 1)] = true := by decide +kernel
theorem dX5_takeAll_0 : decode cX5_takeAll 0 = .ok (.aload_n 0, 1) := kDec_at dA7_cX5_takeAll 0 rfl
theorem dX5_takeAll_1 : decode cX5_takeAll 1 = .ok (.iconst 0, 1) := kDec_at dA7_cX5_takeAll 1 rfl
theorem dX5_takeAll_2 : decode cX5_takeAll 2 = .ok (.putfield 21, 3) := kDec_at dA7_cX5_takeAll 2 rfl
theorem dX5_takeAll_5 : decode cX5_takeAll 5 = .ok (.aload_n 0, 1) := kDec_at dA7_cX5_takeAll 3 rfl
theorem dX5_takeAll_6 : decode cX5_takeAll 6 = .ok (.aload_n 1, 1) := kDec_at dA7_cX5_takeAll 4 rfl
theorem dX5_takeAll_7 : decode cX5_takeAll 7 = .ok (.invokevirtual 31, 3) := kDec_at dA7_cX5_takeAll 5 rfl
theorem dX5_takeAll_10 : decode cX5_takeAll 10 = .ok (.ireturn, 1) := kDec_at dA7_cX5_takeAll 6 rfl
set_option maxRecDepth 20000 in
theorem gX5_clsall : wsX50.all goodWord = true := by decide +kernel
set_option maxRecDepth 20000 in
theorem gX5_addAll_all : wsX5_addAll.all goodWord = true := by
  unfold wsX5_addAll
  exact good_c (by decide +kernel) (good_a ((by decide +kernel)) gX5_clsall)
set_option maxRecDepth 20000 in
theorem ggX5_takeAll_X5_addAll : GoodIn wsX5_takeAll wsX5_addAll := goodIn_sub (fun _ h => List.mem_cons_of_mem _ (List.mem_append_right _ (h))) gX5_addAll_all
set_option maxRecDepth 20000 in
theorem gX5_takeAll_X5_addAll : GoodIn wsX5_takeAll (wsV RX5 31 RX5 yX5_addAll wsX5_addAll) := goodIn_app (goodIn_r _ [2, 3, 4, 5] rfl (by decide +kernel)) ggX5_takeAll_X5_addAll

end

/-! 20.numbers -/
section
set_option maxHeartbeats 40000000 in
set_option maxRecDepth 100000 in
theorem m_X5_length (l : Launch) (dC : Nat → ClassId) (dI : Nat → Nat → Nat) (cI cS : ClassId) (sz : Nat) (nu : Nat) (au : Nat) (lu : Int32)  : kMi l yX5_length wsX5_length ({ frames := 0, cells := 0, slots := 0, locals := 0 } : Room) [.ref nu] sz (dC, dI) vwCl [(cI, .int), (cS, .short)] [(nu, .inr (5, [.ref au, .int lu]))] (fun _ => True) 0 0 (fun (A : Nat → Prop) (r : Int32) (hh9 : Heap) => ∀ PZ9 : Prop, (kPD (dC, dI) vwCl A [(nu, .inr (5, [.ref au, .int lu]))] hh9 → (r = lu) → PZ9) → PZ9) := by
  refine kMi_of (cc := cX5_length) (maxL := 1) (ret := (some .int)) (lv := [(0, .ref nu)]) (by decide +kernel) rfl rfl (Nat.le_of_ble_eq_true rfl) ?_
  intro p e s m below meth c A QQ ls hx hb hr hts hml hown hlocks hA hQQ hK hX hP hD hS hl
  have hown : s.vm.findClass RX5 = some m.cls := hown
  have hcf := k_cf hx hb hml hown hts
  have in_X5 : ∀ w ∈ wsX50, w ∈ wsX5_length := fun _ h => List.mem_cons_of_mem _ (List.mem_append_right _ (h))
  refine lv_aload_n hx hb dX5_length_0 rfl (lv_at hl 0 rfl) ?_
  refine va_get (D := (dC, dI)) (ci := 5) (v := .int lu) (C := RX5) (T := TX5) (N := 2) hx hb hts in_X5 hown hK hP 0 rfl rfl 1 (Nat.le_of_ble_eq_true rfl) (hts (.fieldLink RX5 21 "TextMender$Numbers" "length" "I") (List.mem_of_getElem? (i := 1) rfl)) (fun _ h9 => h9) rfl dX5_length_1 ?_
  exact kl_i (v := lu) hQQ hx hb hr hlocks hS dX5_length_4 (fun PZ9 kZ9 => kZ9 (⟨hP, hD⟩) (rfl))

set_option maxHeartbeats 40000000 in
set_option maxRecDepth 100000 in
theorem m_X5_get (l : Launch) (dC : Nat → ClassId) (dI : Nat → Nat → Nat) (cI cS : ClassId) (sz : Nat) (nu : Nat) (au : Nat) (cap : Nat) (lu : Int32) (fu : Nat → Int32) (i : Int32) (g_lu : 0 ≤ lu.toInt ∧ lu.toInt ≤ (cap : Int)) (hcap : cap ≤ 2400) : kMi l yX5_get wsX5_get ({ frames := 0, cells := 0, slots := 0, locals := 0 } : Room) [.ref nu, .int i] sz (dC, dI) vwCl [(cI, .int), (cS, .short)] [(nu, .inr (5, [.ref au, .int lu])), (au, .inl (cI, cap, .inl fu))] (fun _ => True) 0 0 (fun (A : Nat → Prop) (r : Int32) (hh9 : Heap) => ∀ PZ9 : Prop, (kPD (dC, dI) vwCl A [(nu, .inr (5, [.ref au, .int lu])), (au, .inl (cI, cap, .inl fu))] hh9 → (F_get lu i r fu) → PZ9) → PZ9) := by
  refine kMi_of (cc := cX5_get) (maxL := 2) (ret := (some .int)) (lv := [(0, .ref nu), (1, .int i)]) (by decide +kernel) rfl rfl (Nat.le_of_ble_eq_true rfl) ?_
  intro p e s m below meth c A QQ ls hx hb hr hts hml hown hlocks hA hQQ hK hX hP hD hS hl
  have hown : s.vm.findClass RX5 = some m.cls := hown
  have hcf := k_cf hx hb hml hown hts
  have in_X5 : ∀ w ∈ wsX50, w ∈ wsX5_get := fun _ h => List.mem_cons_of_mem _ (List.mem_append_right _ (h))
  refine lv_iload_n hx hb dX5_get_0 rfl (lv_at hl 1 rfl) ?_
  refine lv_if_lt (tgt := 21) hx hb dX5_get_1 (by decide) (fun c_1 => ?_) (fun c_1 => ?_)
  · have tc_1 : i.toInt < 0 := v_lt c_1
    refine lv_iconst (v := (-1)) hx hb dX5_get_21 (by decide) ?_
    exact kl_i (v := (-1)) hQQ hx hb hr hlocks hS dX5_get_22 (fun PZ9 kZ9 => kZ9 (⟨hP, hD⟩) (by first | exact Or.inl ⟨by omega, by omega, by assumption⟩ | exact Or.inr ⟨by omega, rfl⟩))
  · have tc_1 : 0 ≤ i.toInt := v_nlt c_1
    refine lv_iload_n hx hb dX5_get_4 rfl (lv_at hl 1 rfl) ?_
    refine lv_aload_n hx hb dX5_get_5 rfl (lv_at hl 0 rfl) ?_
    refine va_get (D := (dC, dI)) (ci := 5) (v := .int lu) (C := RX5) (T := TX5) (N := 2) hx hb hts in_X5 hown hK hP 0 rfl rfl 1 (Nat.le_of_ble_eq_true rfl) (hts (.fieldLink RX5 21 "TextMender$Numbers" "length" "I") (List.mem_of_getElem? (i := 1) rfl)) (fun _ h9 => h9) rfl dX5_get_6 ?_
    refine lv_icmp_ge (tgt := 21) hx hb dX5_get_9 (by decide) (fun c_2 => ?_) (fun c_2 => ?_)
    · have tc_2 : lu.toInt ≤ i.toInt := v_le c_2
      have rw2_0 := v_rng i
      refine lv_iconst (v := (-1)) hx hb dX5_get_21 (by decide) ?_
      exact kl_i (v := (-1)) hQQ hx hb hr hlocks hS dX5_get_22 (fun PZ9 kZ9 => kZ9 (⟨hP, hD⟩) (by first | exact Or.inl ⟨by omega, by omega, by assumption⟩ | exact Or.inr ⟨by omega, rfl⟩))
    · have tc_2 : i.toInt < lu.toInt := v_nle c_2
      have rw2_0 := v_rng i
      refine lv_aload_n hx hb dX5_get_12 rfl (lv_at hl 0 rfl) ?_
      refine va_get (D := (dC, dI)) (ci := 5) (v := .ref au) (C := RX5) (T := TX5) (N := 2) hx hb hts in_X5 hown hK hP 0 rfl rfl 0 (Nat.le_of_ble_eq_true rfl) (hts (.fieldLink RX5 15 "TextMender$Numbers" "numbers" "[I") (List.mem_of_getElem? (i := 2) rfl)) (fun _ h9 => h9) rfl dX5_get_13 ?_
      refine lv_iload_n hx hb dX5_get_16 rfl (lv_at hl 1 rfl) ?_
      refine va_iald hx hb hK hP 1 0 rfl rfl (v_in (by omega)) dX5_get_17 ?_
      refine lv_topi (fun x_3 ex_3 => ?_)
      refine lv_goto (tgt := 22) hx hb dX5_get_18 (by decide) ?_
      exact kl_i (v := x_3) hQQ hx hb hr hlocks hS dX5_get_22 (fun PZ9 kZ9 => kZ9 (⟨hP, hD⟩) (by first | exact Or.inl ⟨by omega, by omega, by assumption⟩ | exact Or.inr ⟨by omega, rfl⟩))

set_option maxHeartbeats 40000000 in
set_option maxRecDepth 100000 in
theorem m_X5_add (l : Launch) (dC : Nat → ClassId) (dI : Nat → Nat → Nat) (cI cS : ClassId) (sz : Nat) (nu : Nat) (au : Nat) (cap : Nat) (lu : Int32) (fu : Nat → Int32) (v : Int32) (g_lu : 0 ≤ lu.toInt ∧ lu.toInt ≤ (cap : Int)) (hcap : cap ≤ 2400) : kMi l yX5_add wsX5_add ({ frames := 0, cells := 0, slots := 0, locals := 0 } : Room) [.ref nu, .int v] sz (dC, dI) vwCl [(cI, .int), (cS, .short)] [(nu, .inr (5, [.ref au, .int lu])), (au, .inl (cI, cap, .inl fu))] (fun _ => True) 0 0 (fun (A : Nat → Prop) (r : Int32) (hh9 : Heap) => ∀ PZ9 : Prop, (∀ (lu' : Int32) (fu' : Nat → Int32), kPD (dC, dI) vwCl A [(nu, .inr (5, [.ref au, .int lu'])), (au, .inl (cI, cap, .inl fu'))] hh9 → (0 ≤ lu'.toInt ∧ lu'.toInt ≤ (cap : Int)) → (0 ≤ r.toInt ∧ r.toInt ≤ 1) → (F_add cap lu lu' r fu fu' v) → PZ9) → PZ9) := by
  refine kMi_of (cc := cX5_add) (maxL := 2) (ret := (some .boolean)) (lv := [(0, .ref nu), (1, .int v)]) (by decide +kernel) rfl rfl (Nat.le_of_ble_eq_true rfl) ?_
  intro p e s m below meth c A QQ ls hx hb hr hts hml hown hlocks hA hQQ hK hX hP hD hS hl
  have hown : s.vm.findClass RX5 = some m.cls := hown
  have hcf := k_cf hx hb hml hown hts
  have in_X5 : ∀ w ∈ wsX50, w ∈ wsX5_add := fun _ h => List.mem_cons_of_mem _ (List.mem_append_right _ (h))
  refine lv_aload_n hx hb dX5_add_0 rfl (lv_at hl 0 rfl) ?_
  refine va_get (D := (dC, dI)) (ci := 5) (v := .int lu) (C := RX5) (T := TX5) (N := 2) hx hb hts in_X5 hown hK hP 0 rfl rfl 1 (Nat.le_of_ble_eq_true rfl) (hts (.fieldLink RX5 21 "TextMender$Numbers" "length" "I") (List.mem_of_getElem? (i := 1) rfl)) (fun _ h9 => h9) rfl dX5_add_1 ?_
  refine lv_aload_n hx hb dX5_add_4 rfl (lv_at hl 0 rfl) ?_
  refine va_get (D := (dC, dI)) (ci := 5) (v := .ref au) (C := RX5) (T := TX5) (N := 2) hx hb hts in_X5 hown hK hP 0 rfl rfl 0 (Nat.le_of_ble_eq_true rfl) (hts (.fieldLink RX5 15 "TextMender$Numbers" "numbers" "[I") (List.mem_of_getElem? (i := 2) rfl)) (fun _ h9 => h9) rfl dX5_add_5 ?_
  refine va_alen hx hb hK hP 1 0 rfl rfl (v := Int32.ofNat cap) rfl dX5_add_8 ?_
  refine lv_topi (fun x_1 ex_1 => ?_)
  have tx_1 : x_1.toInt = (cap : Int) := by rw [ex_1]; exact v_nat (by omega)
  refine lv_icmp_lt (tgt := 14) hx hb dX5_add_9 (by decide) (fun c_2 => ?_) (fun c_2 => ?_)
  · have tc_2 : lu.toInt < x_1.toInt := v_lt c_2
    refine lv_aload_n hx hb dX5_add_14 rfl (lv_at hl 0 rfl) ?_
    refine va_get (D := (dC, dI)) (ci := 5) (v := .ref au) (C := RX5) (T := TX5) (N := 2) hx hb hts in_X5 hown hK hP 0 rfl rfl 0 (Nat.le_of_ble_eq_true rfl) (hts (.fieldLink RX5 15 "TextMender$Numbers" "numbers" "[I") (List.mem_of_getElem? (i := 2) rfl)) (fun _ h9 => h9) rfl dX5_add_15 ?_
    refine lv_aload_n hx hb dX5_add_18 rfl (lv_at hl 0 rfl) ?_
    refine va_get (D := (dC, dI)) (ci := 5) (v := .int lu) (C := RX5) (T := TX5) (N := 2) hx hb hts in_X5 hown hK hP 0 rfl rfl 1 (Nat.le_of_ble_eq_true rfl) (hts (.fieldLink RX5 21 "TextMender$Numbers" "length" "I") (List.mem_of_getElem? (i := 1) rfl)) (fun _ h9 => h9) rfl dX5_add_19 ?_
    refine lv_iload_n hx hb dX5_add_22 rfl (lv_at hl 1 rfl) ?_
    obtain ⟨f_3, ef_3⟩ : ∃ g : Nat → Int32, g = upd fu (lu : Int32).toNatClampNeg v := ⟨_, rfl⟩
    refine va_iast hx hb hK hP hD hS 1 0 rfl rfl (v_in (by omega)) dX5_add_23 (kWf (g := f_3) (F := fun f_3 => [(nu, .inr (5, [.ref au, .int lu])), (au, .inl (cI, cap, .inl f_3))]) ef_3 rfl (fun H locs hPn hDn hSn => ?_))
    clear hP hD hS
    have hP := hPn
    have hD := hDn
    have hS := hSn
    clear hPn hDn hSn
    refine lv_aload_n hx hb dX5_add_24 rfl (lv_at hl 0 rfl) ?_
    refine lv_dup hx hb dX5_add_25 rfl ?_
    refine va_get (D := (dC, dI)) (ci := 5) (v := .int lu) (C := RX5) (T := TX5) (N := 2) hx hb hts in_X5 hown hK hP 0 rfl rfl 1 (Nat.le_of_ble_eq_true rfl) (hts (.fieldLink RX5 21 "TextMender$Numbers" "length" "I") (List.mem_of_getElem? (i := 1) rfl)) (fun _ h9 => h9) rfl dX5_add_26 ?_
    refine lv_iconst (v := 1) hx hb dX5_add_29 (by decide) ?_
    refine lv_iadd hx hb dX5_add_30 ?_
    refine lv_topi (fun x_4 ex_4 => ?_)
    have tx_4 : x_4.toInt = lu.toInt + 1 := v_add ex_4 (by show -2147483648 ≤ lu.toInt + 1; omega) (by show lu.toInt + 1 < 2147483648; omega)
    refine va_put (D := (dC, dI)) (ci := 5) (v := .int x_4) (ty := .int) (C := RX5) (T := TX5) (N := 2) hx hb hts in_X5 tyX5 tyX5_ok nmX5 hown hK hP hD hS 0 rfl rfl 1 (Nat.le_of_ble_eq_true rfl) (hts (.fieldLink RX5 21 "TextMender$Numbers" "length" "I") (List.mem_of_getElem? (i := 1) rfl)) (fun _ h9 => h9) rfl (tyX5_ok 1 (Nat.le_of_ble_eq_true rfl)) rfl rfl (Nat.le_of_ble_eq_true rfl) dX5_add_31 (kW (wn := [(nu, .inr (5, [.ref au, .int x_4])), (au, .inl (cI, cap, .inl f_3))]) rfl (fun H locs hPn hDn hSn => ?_))
    clear hP hD hS
    have hP := hPn
    have hD := hDn
    have hS := hSn
    clear hPn hDn hSn
    refine lv_iconst (v := 1) hx hb dX5_add_34 (by decide) ?_
    exact kl_z (v := 1) hQQ hx hb hr hlocks hS dX5_add_35 (rfl) (fun PZ9 kZ9 => kZ9 x_4 f_3 (⟨hP, hD⟩) (by omega) (by decide) (by first | exact Or.inl ⟨by omega, by omega, rfl, by assumption⟩ | exact Or.inr ⟨by omega, rfl, rfl, rfl⟩))
  · have tc_2 : x_1.toInt ≤ lu.toInt := v_nlt c_2
    refine lv_iconst (v := 0) hx hb dX5_add_12 (by decide) ?_
    exact kl_z (v := 0) hQQ hx hb hr hlocks hS dX5_add_13 (rfl) (fun PZ9 kZ9 => kZ9 lu fu (⟨hP, hD⟩) (g_lu) (by decide) (by first | exact Or.inl ⟨by omega, by omega, rfl, by assumption⟩ | exact Or.inr ⟨by omega, rfl, rfl, rfl⟩))

set_option maxHeartbeats 40000000 in
set_option maxRecDepth 100000 in
theorem m_X5_cut (l : Launch) (dC : Nat → ClassId) (dI : Nat → Nat → Nat) (cI cS : ClassId) (sz : Nat) (nu : Nat) (au : Nat) (lu : Int32) (n : Int32) (g_lu : 0 ≤ lu.toInt ∧ lu.toInt ≤ 2147483647) : kMv l yX5_cut wsX5_cut ({ frames := 0, cells := 0, slots := 0, locals := 0 } : Room) [.ref nu, .int n] sz (dC, dI) vwCl [(cI, .int), (cS, .short)] [(nu, .inr (5, [.ref au, .int lu]))] (fun _ => True) 0 0 (fun (A : Nat → Prop) (hh9 : Heap) => ∀ PZ9 : Prop, (∀ (lu' : Int32), kPD (dC, dI) vwCl A [(nu, .inr (5, [.ref au, .int lu']))] hh9 → (0 ≤ lu'.toInt ∧ lu'.toInt ≤ 2147483647) → (lu'.toInt ≤ lu.toInt) → (F_cut lu lu' n) → PZ9) → PZ9) := by
  refine kMv_of (cc := cX5_cut) (maxL := 2) (ret := none) (lv := [(0, .ref nu), (1, .int n)]) (by decide +kernel) rfl rfl (Nat.le_of_ble_eq_true rfl) ?_
  intro p e s m below meth c A QQ ls hx hb hr hts hml hown hlocks hA hQQ hK hX hP hD hS hl
  have hown : s.vm.findClass RX5 = some m.cls := hown
  have hcf := k_cf hx hb hml hown hts
  have in_X5 : ∀ w ∈ wsX50, w ∈ wsX5_cut := fun _ h => List.mem_cons_of_mem _ (List.mem_append_right _ (h))
  refine lv_iload_n hx hb dX5_cut_0 rfl (lv_at hl 1 rfl) ?_
  refine lv_if_lt (tgt := 17) hx hb dX5_cut_1 (by decide) (fun c_1 => ?_) (fun c_1 => ?_)
  · have tc_1 : n.toInt < 0 := v_lt c_1
    exact kl_v hQQ hx hb hr hlocks hS dX5_cut_17 (fun PZ9 kZ9 => kZ9 lu (⟨hP, hD⟩) (g_lu) (by show lu.toInt ≤ lu.toInt; omega) (by first | exact Or.inl ⟨by omega, by omega, rfl⟩ | exact Or.inr ⟨by omega, rfl⟩))
  · have tc_1 : 0 ≤ n.toInt := v_nlt c_1
    refine lv_iload_n hx hb dX5_cut_4 rfl (lv_at hl 1 rfl) ?_
    refine lv_aload_n hx hb dX5_cut_5 rfl (lv_at hl 0 rfl) ?_
    refine va_get (D := (dC, dI)) (ci := 5) (v := .int lu) (C := RX5) (T := TX5) (N := 2) hx hb hts in_X5 hown hK hP 0 rfl rfl 1 (Nat.le_of_ble_eq_true rfl) (hts (.fieldLink RX5 21 "TextMender$Numbers" "length" "I") (List.mem_of_getElem? (i := 1) rfl)) (fun _ h9 => h9) rfl dX5_cut_6 ?_
    refine lv_icmp_ge (tgt := 17) hx hb dX5_cut_9 (by decide) (fun c_2 => ?_) (fun c_2 => ?_)
    · have tc_2 : lu.toInt ≤ n.toInt := v_le c_2
      have rw2_0 := v_rng n
      have rw2_1 := v_rng lu
      exact kl_v hQQ hx hb hr hlocks hS dX5_cut_17 (fun PZ9 kZ9 => kZ9 lu (⟨hP, hD⟩) (g_lu) (by show lu.toInt ≤ lu.toInt; omega) (by first | exact Or.inl ⟨by omega, by omega, rfl⟩ | exact Or.inr ⟨by omega, rfl⟩))
    · have tc_2 : n.toInt < lu.toInt := v_nle c_2
      have rw2_0 := v_rng n
      have rw2_1 := v_rng lu
      refine lv_aload_n hx hb dX5_cut_12 rfl (lv_at hl 0 rfl) ?_
      refine lv_iload_n hx hb dX5_cut_13 rfl (lv_at hl 1 rfl) ?_
      refine va_put (D := (dC, dI)) (ci := 5) (v := .int n) (ty := .int) (C := RX5) (T := TX5) (N := 2) hx hb hts in_X5 tyX5 tyX5_ok nmX5 hown hK hP hD hS 0 rfl rfl 1 (Nat.le_of_ble_eq_true rfl) (hts (.fieldLink RX5 21 "TextMender$Numbers" "length" "I") (List.mem_of_getElem? (i := 1) rfl)) (fun _ h9 => h9) rfl (tyX5_ok 1 (Nat.le_of_ble_eq_true rfl)) rfl rfl (Nat.le_of_ble_eq_true rfl) dX5_cut_14 (kW (wn := [(nu, .inr (5, [.ref au, .int n]))]) rfl (fun H locs hPn hDn hSn => ?_))
      clear hP hD hS
      have hP := hPn
      have hD := hDn
      have hS := hSn
      clear hPn hDn hSn
      exact kl_v hQQ hx hb hr hlocks hS dX5_cut_17 (fun PZ9 kZ9 => kZ9 n (⟨hP, hD⟩) (by omega) (by show n.toInt ≤ lu.toInt; omega) (by first | exact Or.inl ⟨by omega, by omega, rfl⟩ | exact Or.inr ⟨by omega, rfl⟩))

set_option maxHeartbeats 40000000 in
set_option maxRecDepth 100000 in
theorem m_X5_addAll (l : Launch) (dC : Nat → ClassId) (dI : Nat → Nat → Nat) (cI cS : ClassId) (sz : Nat) (nu : Nat) (no : Nat) (au : Nat) (ao : Nat) (cap : Nat) (co : Nat) (lu : Int32) (fu : Nat → Int32) (lo : Int32) (fo : Nat → Int32) (g_lu : 0 ≤ lu.toInt ∧ lu.toInt ≤ (cap : Int)) (g_lo : 0 ≤ lo.toInt ∧ lo.toInt ≤ (co : Int)) (hcap : cap ≤ 2400) (hco : co ≤ 2400) : kMi l yX5_addAll wsX5_addAll ({ frames := 1, cells := 0, slots := 0, locals := 48 } : Room) [.ref nu, .ref no] sz (dC, dI) vwCl [(cI, .int), (cS, .short)] [(nu, .inr (5, [.ref au, .int lu])), (au, .inl (cI, cap, .inl fu)), (no, .inr (5, [.ref ao, .int lo])), (ao, .inl (cI, co, .inl fo))] (fun _ => True) 0 0 (fun (A : Nat → Prop) (r : Int32) (hh9 : Heap) => ∀ PZ9 : Prop, (∀ (lu' : Int32) (fu' : Nat → Int32), kPD (dC, dI) vwCl A [(nu, .inr (5, [.ref au, .int lu'])), (au, .inl (cI, cap, .inl fu')), (no, .inr (5, [.ref ao, .int lo])), (ao, .inl (cI, co, .inl fo))] hh9 → (0 ≤ lu'.toInt ∧ lu'.toInt ≤ (cap : Int)) → (0 ≤ r.toInt ∧ r.toInt ≤ 1) → (F_addAll cap lu lu' lo r fu fu' fo) → PZ9) → PZ9) := by
  refine kMi_of (cc := cX5_addAll) (maxL := 2) (ret := (some .boolean)) (lv := [(0, .ref nu), (1, .ref no)]) (by decide +kernel) rfl rfl (Nat.le_of_ble_eq_true rfl) ?_
  intro p e s m below meth c A QQ ls hx hb hr hts hml hown hlocks hA hQQ hK hX hP hD hS hl
  have hown : s.vm.findClass RX5 = some m.cls := hown
  have hcf := k_cf hx hb hml hown hts
  have in_X5 : ∀ w ∈ wsX50, w ∈ wsX5_addAll := fun _ h => List.mem_cons_of_mem _ (List.mem_append_right _ (h))
  refine lv_aload_n hx hb dX5_addAll_0 rfl (lv_at hl 1 rfl) ?_
  refine va_get (D := (dC, dI)) (ci := 5) (v := .int lo) (C := RX5) (T := TX5) (N := 2) hx hb hts in_X5 hown hK hP 2 rfl rfl 1 (Nat.le_of_ble_eq_true rfl) (hts (.fieldLink RX5 21 "TextMender$Numbers" "length" "I") (List.mem_of_getElem? (i := 1) rfl)) (fun _ h9 => h9) rfl dX5_addAll_1 ?_
  refine lv_aload_n hx hb dX5_addAll_4 rfl (lv_at hl 0 rfl) ?_
  refine va_get (D := (dC, dI)) (ci := 5) (v := .ref au) (C := RX5) (T := TX5) (N := 2) hx hb hts in_X5 hown hK hP 0 rfl rfl 0 (Nat.le_of_ble_eq_true rfl) (hts (.fieldLink RX5 15 "TextMender$Numbers" "numbers" "[I") (List.mem_of_getElem? (i := 2) rfl)) (fun _ h9 => h9) rfl dX5_addAll_5 ?_
  refine va_alen hx hb hK hP 1 0 rfl rfl (v := Int32.ofNat cap) rfl dX5_addAll_8 ?_
  refine lv_topi (fun x_1 ex_1 => ?_)
  have tx_1 : x_1.toInt = (cap : Int) := by rw [ex_1]; exact v_nat (by omega)
  refine lv_aload_n hx hb dX5_addAll_9 rfl (lv_at hl 0 rfl) ?_
  refine va_get (D := (dC, dI)) (ci := 5) (v := .int lu) (C := RX5) (T := TX5) (N := 2) hx hb hts in_X5 hown hK hP 0 rfl rfl 1 (Nat.le_of_ble_eq_true rfl) (hts (.fieldLink RX5 21 "TextMender$Numbers" "length" "I") (List.mem_of_getElem? (i := 1) rfl)) (fun _ h9 => h9) rfl dX5_addAll_10 ?_
  refine lv_isub hx hb dX5_addAll_13 ?_
  refine lv_topi (fun x_2 ex_2 => ?_)
  have tx_2 : x_2.toInt = x_1.toInt - lu.toInt := v_sub ex_2 (by show -2147483648 ≤ x_1.toInt - lu.toInt; omega) (by show x_1.toInt - lu.toInt < 2147483648; omega)
  refine lv_icmp_le (tgt := 19) hx hb dX5_addAll_14 (by decide) (fun c_3 => ?_) (fun c_3 => ?_)
  · have tc_3 : lo.toInt ≤ x_2.toInt := v_le c_3
    refine lv_aload_n hx hb dX5_addAll_19 rfl (lv_at hl 1 rfl) ?_
    refine va_get (D := (dC, dI)) (ci := 5) (v := .ref ao) (C := RX5) (T := TX5) (N := 2) hx hb hts in_X5 hown hK hP 2 rfl rfl 0 (Nat.le_of_ble_eq_true rfl) (hts (.fieldLink RX5 15 "TextMender$Numbers" "numbers" "[I") (List.mem_of_getElem? (i := 2) rfl)) (fun _ h9 => h9) rfl dX5_addAll_20 ?_
    refine lv_iconst (v := 0) hx hb dX5_addAll_23 (by decide) ?_
    refine lv_aload_n hx hb dX5_addAll_24 rfl (lv_at hl 0 rfl) ?_
    refine va_get (D := (dC, dI)) (ci := 5) (v := .ref au) (C := RX5) (T := TX5) (N := 2) hx hb hts in_X5 hown hK hP 0 rfl rfl 0 (Nat.le_of_ble_eq_true rfl) (hts (.fieldLink RX5 15 "TextMender$Numbers" "numbers" "[I") (List.mem_of_getElem? (i := 2) rfl)) (fun _ h9 => h9) rfl dX5_addAll_25 ?_
    refine lv_aload_n hx hb dX5_addAll_28 rfl (lv_at hl 0 rfl) ?_
    refine va_get (D := (dC, dI)) (ci := 5) (v := .int lu) (C := RX5) (T := TX5) (N := 2) hx hb hts in_X5 hown hK hP 0 rfl rfl 1 (Nat.le_of_ble_eq_true rfl) (hts (.fieldLink RX5 21 "TextMender$Numbers" "length" "I") (List.mem_of_getElem? (i := 1) rfl)) (fun _ h9 => h9) rfl dX5_addAll_29 ?_
    refine lv_aload_n hx hb dX5_addAll_32 rfl (lv_at hl 1 rfl) ?_
    refine va_get (D := (dC, dI)) (ci := 5) (v := .int lo) (C := RX5) (T := TX5) (N := 2) hx hb hts in_X5 hown hK hP 2 rfl rfl 1 (Nat.le_of_ble_eq_true rfl) (hts (.fieldLink RX5 21 "TextMender$Numbers" "length" "I") (List.mem_of_getElem? (i := 1) rfl)) (fun _ h9 => h9) rfl dX5_addAll_33 ?_
    obtain ⟨f_4, ef_4⟩ : ∃ g : Nat → Int32, g = va_cpy fo fu (0 : Int32).toNatClampNeg (lu : Int32).toNatClampNeg (lo : Int32).toNatClampNeg := ⟨_, rfl⟩
    refine va_copyi hx hb (by rw [hml]; exact hl.1.symm) hown (hts (.methodLink RX5 25 arraycopyName) (List.mem_of_getElem? (i := 3) rfl)) (hts (.native arraycopyName) (List.mem_of_getElem? (i := 4) rfl)) (hts (.static arraycopyName) (List.mem_of_getElem? (i := 5) rfl)) (hts (.initialized "java/lang/System") (List.mem_of_getElem? (i := 6) rfl)) hK hP hD hS 3 1 0 0 rfl rfl rfl rfl rfl (by decide) (v_nneg (by omega)) (v_nneg (by omega)) (v_cp (by decide) (by omega) (by show (0 : Int) + _ ≤ _; omega)) (v_cp (by omega) (by omega) (by omega)) (fun i hi => rfl) (Nat.le_of_ble_eq_true rfl) (Nat.le_of_ble_eq_true rfl) dX5_addAll_36 (kWf (g := f_4) (F := fun f_4 => [(nu, .inr (5, [.ref au, .int lu])), (au, .inl (cI, cap, .inl f_4)), (no, .inr (5, [.ref ao, .int lo])), (ao, .inl (cI, co, .inl fo))]) ef_4 rfl (fun H locs hPn hDn hSn => ?_))
    clear hP hD hS
    have hP := hPn
    have hD := hDn
    have hS := hSn
    clear hPn hDn hSn
    refine lv_aload_n hx hb dX5_addAll_39 rfl (lv_at hl 0 rfl) ?_
    refine lv_dup hx hb dX5_addAll_40 rfl ?_
    refine va_get (D := (dC, dI)) (ci := 5) (v := .int lu) (C := RX5) (T := TX5) (N := 2) hx hb hts in_X5 hown hK hP 0 rfl rfl 1 (Nat.le_of_ble_eq_true rfl) (hts (.fieldLink RX5 21 "TextMender$Numbers" "length" "I") (List.mem_of_getElem? (i := 1) rfl)) (fun _ h9 => h9) rfl dX5_addAll_41 ?_
    refine lv_aload_n hx hb dX5_addAll_44 rfl (lv_at hl 1 rfl) ?_
    refine va_get (D := (dC, dI)) (ci := 5) (v := .int lo) (C := RX5) (T := TX5) (N := 2) hx hb hts in_X5 hown hK hP 2 rfl rfl 1 (Nat.le_of_ble_eq_true rfl) (hts (.fieldLink RX5 21 "TextMender$Numbers" "length" "I") (List.mem_of_getElem? (i := 1) rfl)) (fun _ h9 => h9) rfl dX5_addAll_45 ?_
    refine lv_iadd hx hb dX5_addAll_48 ?_
    refine lv_topi (fun x_5 ex_5 => ?_)
    have tx_5 : x_5.toInt = lu.toInt + lo.toInt := v_add ex_5 (by show -2147483648 ≤ lu.toInt + lo.toInt; omega) (by show lu.toInt + lo.toInt < 2147483648; omega)
    refine va_put (D := (dC, dI)) (ci := 5) (v := .int x_5) (ty := .int) (C := RX5) (T := TX5) (N := 2) hx hb hts in_X5 tyX5 tyX5_ok nmX5 hown hK hP hD hS 0 rfl rfl 1 (Nat.le_of_ble_eq_true rfl) (hts (.fieldLink RX5 21 "TextMender$Numbers" "length" "I") (List.mem_of_getElem? (i := 1) rfl)) (fun _ h9 => h9) rfl (tyX5_ok 1 (Nat.le_of_ble_eq_true rfl)) rfl rfl (Nat.le_of_ble_eq_true rfl) dX5_addAll_49 (kW (wn := [(nu, .inr (5, [.ref au, .int x_5])), (au, .inl (cI, cap, .inl f_4)), (no, .inr (5, [.ref ao, .int lo])), (ao, .inl (cI, co, .inl fo))]) rfl (fun H locs hPn hDn hSn => ?_))
    clear hP hD hS
    have hP := hPn
    have hD := hDn
    have hS := hSn
    clear hPn hDn hSn
    refine lv_iconst (v := 1) hx hb dX5_addAll_52 (by decide) ?_
    exact kl_z (v := 1) hQQ hx hb hr hlocks hS dX5_addAll_53 (rfl) (fun PZ9 kZ9 => kZ9 x_5 f_4 (⟨hP, hD⟩) (by omega) (by decide) (by first | exact Or.inl ⟨by omega, by omega, rfl, by assumption⟩ | exact Or.inr ⟨by omega, rfl, rfl, rfl⟩))
  · have tc_3 : x_2.toInt < lo.toInt := v_nle c_3
    refine lv_iconst (v := 0) hx hb dX5_addAll_17 (by decide) ?_
    exact kl_z (v := 0) hQQ hx hb hr hlocks hS dX5_addAll_18 (rfl) (fun PZ9 kZ9 => kZ9 lu fu (⟨hP, hD⟩) (g_lu) (by decide) (by first | exact Or.inl ⟨by omega, by omega, rfl, by assumption⟩ | exact Or.inr ⟨by omega, rfl, rfl, rfl⟩))

set_option maxHeartbeats 40000000 in
set_option maxRecDepth 100000 in
theorem m_X5_takeAll (l : Launch) (dC : Nat → ClassId) (dI : Nat → Nat → Nat) (cI cS : ClassId) (sz : Nat) (nu : Nat) (no : Nat) (au : Nat) (ao : Nat) (cap : Nat) (co : Nat) (lu : Int32) (fu : Nat → Int32) (lo : Int32) (fo : Nat → Int32) (g_lu : 0 ≤ lu.toInt ∧ lu.toInt ≤ (cap : Int)) (g_lo : 0 ≤ lo.toInt ∧ lo.toInt ≤ (co : Int)) (hcap : cap ≤ 2400) (hco : co ≤ 2400) : kMi l yX5_takeAll wsX5_takeAll ({ frames := 2, cells := 0, slots := 0, locals := 69 } : Room) [.ref nu, .ref no] sz (dC, dI) vwCl [(cI, .int), (cS, .short)] [(nu, .inr (5, [.ref au, .int lu])), (au, .inl (cI, cap, .inl fu)), (no, .inr (5, [.ref ao, .int lo])), (ao, .inl (cI, co, .inl fo))] (fun _ => True) 0 0 (fun (A : Nat → Prop) (r : Int32) (hh9 : Heap) => ∀ PZ9 : Prop, (∀ (lu' : Int32) (fu' : Nat → Int32), kPD (dC, dI) vwCl A [(nu, .inr (5, [.ref au, .int lu'])), (au, .inl (cI, cap, .inl fu')), (no, .inr (5, [.ref ao, .int lo])), (ao, .inl (cI, co, .inl fo))] hh9 → (0 ≤ lu'.toInt ∧ lu'.toInt ≤ (cap : Int)) → (0 ≤ r.toInt ∧ r.toInt ≤ 1) → (F_addAll cap 0 lu' lo r fu fu' fo) → PZ9) → PZ9) := by
  refine kMi_of (cc := cX5_takeAll) (maxL := 2) (ret := (some .boolean)) (lv := [(0, .ref nu), (1, .ref no)]) (by decide +kernel) rfl rfl (Nat.le_of_ble_eq_true rfl) ?_
  intro p e s m below meth c A QQ ls hx hb hr hts hml hown hlocks hA hQQ hK hX hP hD hS hl
  have hown : s.vm.findClass RX5 = some m.cls := hown
  have hcf := k_cf hx hb hml hown hts
  have in_X5 : ∀ w ∈ wsX50, w ∈ wsX5_takeAll := fun _ h => List.mem_cons_of_mem _ (List.mem_append_left _ (List.mem_append_right _ (h)))
  refine lv_aload_n hx hb dX5_takeAll_0 rfl (lv_at hl 0 rfl) ?_
  refine lv_iconst (v := 0) hx hb dX5_takeAll_1 (by decide) ?_
  refine va_put (D := (dC, dI)) (ci := 5) (v := .int 0) (ty := .int) (C := RX5) (T := TX5) (N := 2) hx hb hts in_X5 tyX5 tyX5_ok nmX5 hown hK hP hD hS 0 rfl rfl 1 (Nat.le_of_ble_eq_true rfl) (hts (.fieldLink RX5 21 "TextMender$Numbers" "length" "I") (List.mem_of_getElem? (i := 1) rfl)) (fun _ h9 => h9) rfl (tyX5_ok 1 (Nat.le_of_ble_eq_true rfl)) rfl rfl (Nat.le_of_ble_eq_true rfl) dX5_takeAll_2 (kW (wn := [(nu, .inr (5, [.ref au, .int 0])), (au, .inl (cI, cap, .inl fu)), (no, .inr (5, [.ref ao, .int lo])), (ao, .inl (cI, co, .inl fo))]) rfl (fun H locs hPn hDn hSn => ?_))
  clear hP hD hS
  have hP := hPn
  have hD := hDn
  have hS := hSn
  clear hPn hDn hSn
  refine lv_aload_n hx hb dX5_takeAll_5 rfl (lv_at hl 0 rfl) ?_
  refine lv_aload_n hx hb dX5_takeAll_6 rfl (lv_at hl 1 rfl) ?_
  refine kV_i (rest := []) (q0 := 0) (ci := 5) hcf (m_X5_addAll l dC dI cI cS H.size nu no au ao cap co 0 fu lo fo (by show 0 ≤ (0 : Int) ∧ (0 : Int) ≤ (cap : Int); omega) (g_lo) (by omega) (by omega)) kc_X5_addAll gX5_takeAll_X5_addAll rfl rfl rfl ⟨Nat.le_of_ble_eq_true rfl, Nat.le_of_ble_eq_true rfl⟩ kX_t hK hP hD hS hA [0, 1, 2, 3] [] rfl (by decide +kernel) rfl rfl rfl hl rfl (Nat.le_of_ble_eq_true rfl) dX5_takeAll_7 ⟨Nat.le_of_ble_eq_true rfl, Nat.le_of_ble_eq_true rfl⟩ (fun r_1 H locs hB hJ hSn => ?_)
  refine hB _ (fun lu_1 fu_1 hPD9 hf1_0 hf1_1 hf1_2 => ?_)
  clear hB
  obtain ⟨hPn, hDn⟩ := hJ _ hPD9.1 hPD9.2 [(nu, .inr (5, [.ref au, .int lu_1])), (au, .inl (cI, cap, .inl fu_1)), (no, .inr (5, [.ref ao, .int lo])), (ao, .inl (cI, co, .inl fo))] rfl
  clear hP hD hS hJ hPD9
  have hP := hPn
  have hD := hDn
  have hS := hSn
  clear hPn hDn hSn
  exact kl_z (v := r_1) hQQ hx hb hr hlocks hS dX5_takeAll_10 (v_bool (by omega)) (fun PZ9 kZ9 => kZ9 lu_1 fu_1 (⟨hP, hD⟩) (hf1_0) (hf1_1) (hf1_2))

end

/-! 22.a.rows -/
section
set_option maxRecDepth 100000 in
theorem dA8_cJ7_fill_53178 : kDec cJ7_fill_53178 [(0, .iconst 0, 1), (1, .istore_n 2, 1), (2, .aload_n 0, 1), (3, .arraylength, 1), (4, .istore_n 3, 1), (5, .iload_n 2, 1), (6, .iload_n 3, 1), (7, .if_icmp .ge 13, 3), (20, .return_, 1), (10, .aload_n 0, 1), (11, .iload_n 2, 1), (12, .iload_n 1, 1), (13, .iastore, 1), (14, .iinc 2 1, 3), (17, .goto (-12), 3)] = true := by decide +kernel
theorem dJ7_fill_53178_0 : decode cJ7_fill_53178 0 = .ok (.iconst 0, 1) := kDec_at dA8_cJ7_fill_53178 0 rfl
theorem dJ7_fill_53178_1 : decode cJ7_fill_53178 1 = .ok (.istore_n 2, 1) := kDec_at dA8_cJ7_fill_53178 1 rfl
theorem dJ7_fill_53178_2 : decode cJ7_fill_53178 2 = .ok (.aload_n 0, 1) := kDec_at dA8_cJ7_fill_53178 2 rfl
theorem dJ7_fill_53178_3 : decode cJ7_fill_53178 3 = .ok (.arraylength, 1) := kDec_at dA8_cJ7_fill_53178 3 rfl
theorem dJ7_fill_53178_4 : decode cJ7_fill_53178 4 = .ok (.istore_n 3, 1) := kDec_at dA8_cJ7_fill_53178 4 rfl
theorem dJ7_fill_53178_5 : decode cJ7_fill_53178 5 = .ok (.iload_n 2, 1) := kDec_at dA8_cJ7_fill_53178 5 rfl
theorem dJ7_fill_53178_6 : decode cJ7_fill_53178 6 = .ok (.iload_n 3, 1) := kDec_at dA8_cJ7_fill_53178 6 rfl
theorem dJ7_fill_53178_7 : decode cJ7_fill_53178 7 = .ok (.if_icmp .ge 13, 3) := kDec_at dA8_cJ7_fill_53178 7 rfl
theorem dJ7_fill_53178_20 : decode cJ7_fill_53178 20 = .ok (.return_, 1) := kDec_at dA8_cJ7_fill_53178 8 rfl
theorem dJ7_fill_53178_10 : decode cJ7_fill_53178 10 = .ok (.aload_n 0, 1) := kDec_at dA8_cJ7_fill_53178 9 rfl
theorem dJ7_fill_53178_11 : decode cJ7_fill_53178 11 = .ok (.iload_n 2, 1) := kDec_at dA8_cJ7_fill_53178 10 rfl
theorem dJ7_fill_53178_12 : decode cJ7_fill_53178 12 = .ok (.iload_n 1, 1) := kDec_at dA8_cJ7_fill_53178 11 rfl
theorem dJ7_fill_53178_13 : decode cJ7_fill_53178 13 = .ok (.iastore, 1) := kDec_at dA8_cJ7_fill_53178 12 rfl
theorem dJ7_fill_53178_14 : decode cJ7_fill_53178 14 = .ok (.iinc 2 1, 3) := kDec_at dA8_cJ7_fill_53178 13 rfl
theorem dJ7_fill_53178_17 : decode cJ7_fill_53178 17 = .ok (.goto (-12), 3) := kDec_at dA8_cJ7_fill_53178 14 rfl
set_option maxRecDepth 100000 in
theorem dA9_cX10_length : kDec cX10_length [(0, .aload_n 0, 1), (1, .getfield 27, 3), (4, .ireturn, 1)] = true := by decide +kernel
theorem dX10_length_0 : decode cX10_length 0 = .ok (.aload_n 0, 1) := kDec_at dA9_cX10_length 0 rfl
theorem dX10_length_1 : decode cX10_length 1 = .ok (.getfield 27, 3) := kDec_at dA9_cX10_length 1 rfl
theorem dX10_length_4 : decode cX10_length 4 = .ok (.ireturn, 1) := kDec_at dA9_cX10_length 2 rfl
set_option maxRecDepth 100000 in
theorem dA10_cX10_empty : kDec cX10_empty [(0, .aload_n 0, 1), (1, .getfield 9, 3), (4, .iconst (-1), 1), (5, .invokestatic 21, 3), (8, .aload_n 0, 1), (9, .getfield 18, 3), (12, .iconst (-1), 1), (13, .invokestatic 21, 3), (16, .aload_n 0, 1), (17, .iconst 0, 1), (18, .putfield 27, 3), (21, .return_, 1)] = true := by decide +kernel
theorem dX10_empty_0 : decode cX10_empty 0 = .ok (.aload_n 0, 1) := kDec_at dA10_cX10_empty 0 rfl
theorem dX10_empty_1 : decode cX10_empty 1 = .ok (.getfield 9, 3) := kDec_at dA10_cX10_empty 1 rfl
theorem dX10_empty_4 : decode cX10_empty 4 = .ok (.iconst (-1), 1) := kDec_at dA10_cX10_empty 2 rfl
theorem dX10_empty_5 : decode cX10_empty 5 = .ok (.invokestatic 21, 3) := kDec_at dA10_cX10_empty 3 rfl
theorem dX10_empty_8 : decode cX10_empty 8 = .ok (.aload_n 0, 1) := kDec_at dA10_cX10_empty 4 rfl
theorem dX10_empty_9 : decode cX10_empty 9 = .ok (.getfield 18, 3) := kDec_at dA10_cX10_empty 5 rfl
theorem dX10_empty_12 : decode cX10_empty 12 = .ok (.iconst (-1), 1) := kDec_at dA10_cX10_empty 6 rfl
theorem dX10_empty_13 : decode cX10_empty 13 = .ok (.invokestatic 21, 3) := kDec_at dA10_cX10_empty 7 rfl
theorem dX10_empty_16 : decode cX10_empty 16 = .ok (.aload_n 0, 1) := kDec_at dA10_cX10_empty 8 rfl
theorem dX10_empty_17 : decode cX10_empty 17 = .ok (.iconst 0, 1) := kDec_at dA10_cX10_empty 9 rfl
theorem dX10_empty_18 : decode cX10_empty 18 = .ok (.putfield 27, 3) := kDec_at dA10_cX10_empty 10 rfl
theorem dX10_empty_21 : decode cX10_empty 21 = .ok (.return_, 1) := kDec_at dA10_cX10_empty 11 rfl
set_option maxRecDepth 20000 in
theorem gJ7_fill_53178_all : wsJ7_fill_53178.all goodWord = true := by
  unfold wsJ7_fill_53178
  exact good_c (by decide +kernel) (rfl)
set_option maxRecDepth 20000 in
theorem ggX10_empty_J7_fill_53178 : GoodIn wsX10_empty wsJ7_fill_53178 := goodIn_sub (fun _ h => List.mem_cons_of_mem _ (List.mem_append_right _ (h))) gJ7_fill_53178_all
set_option maxRecDepth 20000 in
theorem gX10_empty_J7_fill_53178 : GoodIn wsX10_empty (va_wsS RX10 21 yJ7_fill_53178 wsJ7_fill_53178) := goodIn_app (goodIn_r _ [4, 5, 6] rfl (by decide +kernel)) ggX10_empty_J7_fill_53178
set_option maxRecDepth 100000 in
theorem dA11_cX10_letterFor : kDec cX10_letterFor [(0, .iload_n 1, 1), (1, .ifCond .lt 19, 3), (20, .iconst (-1), 1), (21, .ireturn, 1), (4, .iload_n 1, 1), (5, .sipush 256, 3), (8, .if_icmp .ge 12, 3), (11, .aload_n 0, 1), (12, .getfield 9, 3), (15, .iload_n 1, 1), (16, .iaload, 1), (17, .goto 4, 3)] = true := by decide +kernel
theorem dX10_letterFor_0 : decode cX10_letterFor 0 = .ok (.iload_n 1, 1) := kDec_at dA11_cX10_letterFor 0 rfl
theorem dX10_letterFor_1 : decode cX10_letterFor 1 = .ok (.ifCond .lt 19, 3) := kDec_at dA11_cX10_letterFor 1 rfl
theorem dX10_letterFor_20 : decode cX10_letterFor 20 = .ok (.iconst (-1), 1) := kDec_at dA11_cX10_letterFor 2 rfl
theorem dX10_letterFor_21 : decode cX10_letterFor 21 = .ok (.ireturn, 1) := kDec_at dA11_cX10_letterFor 3 rfl
theorem dX10_letterFor_4 : decode cX10_letterFor 4 = .ok (.iload_n 1, 1) := kDec_at dA11_cX10_letterFor 4 rfl
theorem dX10_letterFor_5 : decode cX10_letterFor 5 = .ok (.sipush 256, 3) := kDec_at dA11_cX10_letterFor 5 rfl
theorem dX10_letterFor_8 : decode cX10_letterFor 8 = .ok (.if_icmp .ge 12, 3) := kDec_at dA11_cX10_letterFor 6 rfl
theorem dX10_letterFor_11 : decode cX10_letterFor 11 = .ok (.aload_n 0, 1) := kDec_at dA11_cX10_letterFor 7 rfl
theorem dX10_letterFor_12 : decode cX10_letterFor 12 = .ok (.getfield 9, 3) := kDec_at dA11_cX10_letterFor 8 rfl
theorem dX10_letterFor_15 : decode cX10_letterFor 15 = .ok (.iload_n 1, 1) := kDec_at dA11_cX10_letterFor 9 rfl
theorem dX10_letterFor_16 : decode cX10_letterFor 16 = .ok (.iaload, 1) := kDec_at dA11_cX10_letterFor 10 rfl
theorem dX10_letterFor_17 : decode cX10_letterFor 17 = .ok (.goto 4, 3) := kDec_at dA11_cX10_letterFor 11 rfl
set_option maxRecDepth 100000 in
theorem dA12_cX11_isLetter : kDec cX11_isLetter [(0, .iload_n 0, 1), (1, .ifCond .lt 28, 3), (29, .iconst 0, 1), (30, .ireturn, 1), (4, .iload_n 0, 1), (5, .ldc_w 262, 3), (8, .if_icmp .gt 21, 3), (11, .iload_n 0, 1), (12, .ldc_w 263, 3), (15, .if_icmp .lt 10, 3), (25, .iconst 1, 1), (26, .goto 4, 3), (18, .iload_n 0, 1), (19, .ldc_w 264, 3), (22, .if_icmp .le 7, 3)] = true := by decide +kernel
theorem dX11_isLetter_0 : decode cX11_isLetter 0 = .ok (.iload_n 0, 1) := kDec_at dA12_cX11_isLetter 0 rfl
theorem dX11_isLetter_1 : decode cX11_isLetter 1 = .ok (.ifCond .lt 28, 3) := kDec_at dA12_cX11_isLetter 1 rfl
theorem dX11_isLetter_29 : decode cX11_isLetter 29 = .ok (.iconst 0, 1) := kDec_at dA12_cX11_isLetter 2 rfl
theorem dX11_isLetter_30 : decode cX11_isLetter 30 = .ok (.ireturn, 1) := kDec_at dA12_cX11_isLetter 3 rfl
theorem dX11_isLetter_4 : decode cX11_isLetter 4 = .ok (.iload_n 0, 1) := kDec_at dA12_cX11_isLetter 4 rfl
theorem dX11_isLetter_5 : decode cX11_isLetter 5 = .ok (.ldc_w 262, 3) := kDec_at dA12_cX11_isLetter 5 rfl
theorem dX11_isLetter_8 : decode cX11_isLetter 8 = .ok (.if_icmp .gt 21, 3) := kDec_at dA12_cX11_isLetter 6 rfl
theorem dX11_isLetter_11 : decode cX11_isLetter 11 = .ok (.iload_n 0, 1) := kDec_at dA12_cX11_isLetter 7 rfl
theorem dX11_isLetter_12 : decode cX11_isLetter 12 = .ok (.ldc_w 263, 3) := kDec_at dA12_cX11_isLetter 8 rfl
theorem dX11_isLetter_15 : decode cX11_isLetter 15 = .ok (.if_icmp .lt 10, 3) := kDec_at dA12_cX11_isLetter 9 rfl
theorem dX11_isLetter_25 : decode cX11_isLetter 25 = .ok (.iconst 1, 1) := kDec_at dA12_cX11_isLetter 10 rfl
theorem dX11_isLetter_26 : decode cX11_isLetter 26 = .ok (.goto 4, 3) := kDec_at dA12_cX11_isLetter 11 rfl
theorem dX11_isLetter_18 : decode cX11_isLetter 18 = .ok (.iload_n 0, 1) := kDec_at dA12_cX11_isLetter 12 rfl
theorem dX11_isLetter_19 : decode cX11_isLetter 19 = .ok (.ldc_w 264, 3) := kDec_at dA12_cX11_isLetter 13 rfl
theorem dX11_isLetter_22 : decode cX11_isLetter 22 = .ok (.if_icmp .le 7, 3) := kDec_at dA12_cX11_isLetter 14 rfl

end

/-! 22.told -/
section
set_option maxHeartbeats 40000000 in
set_option maxRecDepth 100000 in
theorem m_J7_fill_53178 (l : Launch) (dC : Nat → ClassId) (dI : Nat → Nat → Nat) (cI cS : ClassId) (sz : Nat) (ar : Nat) (n : Nat) (f : Nat → Int32) (v : Int32) (hn : n < 2 ^ 31) : kMv l yJ7_fill_53178 wsJ7_fill_53178 ({ frames := 0, cells := 0, slots := 0, locals := 0 } : Room) [.ref ar, .int v] sz (dC, dI) vwCl [(cI, .int), (cS, .short)] [(ar, .inl (cI, n, .inl f))] (fun _ => True) 0 0 (fun (A : Nat → Prop) (hh9 : Heap) => ∀ PZ9 : Prop, (∀ (f' : Nat → Int32), kPD (dC, dI) vwCl A [(ar, .inl (cI, n, .inl f'))] hh9 → (F_fill n f' v) → PZ9) → PZ9) := by
  refine kMv_of (cc := cJ7_fill_53178) (maxL := 4) (ret := none) (lv := [(0, .ref ar), (1, .int v)]) (by decide +kernel) rfl rfl (Nat.le_of_ble_eq_true rfl) ?_
  intro p e s m below meth c A QQ ls hx hb hr hts hml hown hlocks hA hQQ hK hX hP hD hS hl
  have hown : s.vm.findClass RJ7 = some m.cls := hown
  have hcf := k_cf hx hb hml hown hts
  refine lv_iconst (v := 0) hx hb dJ7_fill_53178_0 (by decide) ?_
  refine lv_istore_n (lv' := [(2, .int 0), (0, .ref ar), (1, .int v)]) hx hb dJ7_fill_53178_1 rfl hl (by decide) rfl (fun ls hl => ?_)
  refine lv_aload_n hx hb dJ7_fill_53178_2 rfl (lv_at hl 1 rfl) ?_
  refine va_alen hx hb hK hP 0 0 rfl rfl (v := Int32.ofNat n) rfl dJ7_fill_53178_3 ?_
  refine lv_topi (fun x_1 ex_1 => ?_)
  have tx_1 : x_1.toInt = (n : Int) := by rw [ex_1]; exact v_nat (by omega)
  refine lv_istore_n (lv' := [(3, .int x_1), (2, .int 0), (0, .ref ar), (1, .int v)]) hx hb dJ7_fill_53178_4 rfl hl (by decide) rfl (fun ls hl => ?_)
  have LOOP_5 : ∀ (k_5 : Nat) (i : Int32) (f2 : Nat → Int32) (H : Heap) (locs : List Loc) (ls : Array Slot), MSd ((n : Int) - i.toInt : Int) k_5 → (0 ≤ i.toInt ∧ i.toInt ≤ (n : Int)) → (∀ j : Nat, (j : Int) < i.toInt → f2 j = v) → va_P (dC, dI) vwCl [(ar, .inl (cI, n, .inl f2))] H → va_D A [(ar, .inl (cI, n, .inl f2))] → va_S A s.heap H locs → lv_has ls 4 [(3, .int x_1), (2, .int i), (0, .ref ar), (1, .int v)] → W p l e (headSpec wsJ7_fill_53178 ({ frames := 0, cells := 0, slots := 0, locals := 0 } : Room)).room s m ([.ref ar, .int v] : List Value).toArray below meth c H locs 0 0 (MQ below QQ ([.ref ar, .int v] : List Value).toArray s 0 0 A) (F0 m 5 ls []) := by
    clear hP hD hS hl
    intro k_5
    induction k_5 with
    | zero =>
      intro i f2 H locs ls hm_5 g_i hfl hP hD hS hl
      exact ms_0 hm_5
    | succ k_5 ih_5 =>
      intro i f2 H locs ls hm_5 g_i hfl hP hD hS hl
      refine lv_iload_n hx hb dJ7_fill_53178_5 rfl (lv_at hl 1 rfl) ?_
      refine lv_iload_n hx hb dJ7_fill_53178_6 rfl (lv_at hl 0 rfl) ?_
      refine lv_icmp_ge (tgt := 20) hx hb dJ7_fill_53178_7 (by decide) (fun c_2 => ?_) (fun c_2 => ?_)
      · have tc_2 : x_1.toInt ≤ i.toInt := v_le c_2
        have rw2_0 := v_rng i
        have rw2_1 := v_rng x_1
        exact kl_v hQQ hx hb hr hlocks hS dJ7_fill_53178_20 (fun PZ9 kZ9 => kZ9 f2 (⟨hP, hD⟩) (fun j hj => hfl j (by omega)))
      · have tc_2 : i.toInt < x_1.toInt := v_nle c_2
        have rw2_0 := v_rng i
        have rw2_1 := v_rng x_1
        refine lv_aload_n hx hb dJ7_fill_53178_10 rfl (lv_at hl 2 rfl) ?_
        refine lv_iload_n hx hb dJ7_fill_53178_11 rfl (lv_at hl 1 rfl) ?_
        refine lv_iload_n hx hb dJ7_fill_53178_12 rfl (lv_at hl 3 rfl) ?_
        obtain ⟨f_3, ef_3⟩ : ∃ g : Nat → Int32, g = upd f2 (i : Int32).toNatClampNeg v := ⟨_, rfl⟩
        refine va_iast hx hb hK hP hD hS 0 0 rfl rfl (v_in (by omega)) dJ7_fill_53178_13 (kWf (g := f_3) (F := fun f_3 => [(ar, .inl (cI, n, .inl f_3))]) ef_3 rfl (fun H locs hPn hDn hSn => ?_))
        clear hP hD hS
        have hP := hPn
        have hD := hDn
        have hS := hSn
        clear hPn hDn hSn
        obtain ⟨x_4, ex_4⟩ : ∃ y : Int32, y = i + 1 := ⟨_, rfl⟩
        have tx_4 : x_4.toInt = i.toInt + 1 := v_add ex_4 (by show -2147483648 ≤ i.toInt + 1; omega) (by show i.toInt + 1 < 2147483648; omega)
        refine lv_iinc (v := x_4) (lv' := [(2, .int x_4), (3, .int x_1), (0, .ref ar), (1, .int v)]) hx hb dJ7_fill_53178_14 hl (k := 1) rfl (by rw [ex_4]; rfl) (by decide) rfl (fun ls hl => ?_)
        refine lv_goto (tgt := 5) hx hb dJ7_fill_53178_17 (by decide) ?_
        exact ih_5 x_4 f_3 _ _ _ (ms_lt hm_5 (by show (((n : Int) - x_4.toInt : Int)) < (n : Int) - i.toInt; omega) (by show (0 : Int) < (n : Int) - i.toInt; omega)) (by show 0 ≤ x_4.toInt ∧ x_4.toInt ≤ (n : Int); omega) (v_fill ef_3 (by omega) hfl (by omega)) hP hD hS (lv_sub hl [1, 0, 2, 3] rfl)
  exact LOOP_5 _ 0 f _ _ _ (ms_s _) (by show 0 ≤ (0 : Int) ∧ (0 : Int) ≤ (n : Int); omega) (fun j hj => by exact absurd hj (by show ¬ (j : Int) < 0; omega)) hP hD hS (lv_sub hl [0, 1, 2, 3] rfl)

set_option maxHeartbeats 40000000 in
set_option maxRecDepth 100000 in
theorem m_X10_length (l : Launch) (dC : Nat → ClassId) (dI : Nat → Nat → Nat) (cI cS : ClassId) (sz : Nat) (ot : Nat) (at1 : Nat) (at2 : Nat) (at3 : Nat) (lt : Int32)  : kMi l yX10_length wsX10_length ({ frames := 0, cells := 0, slots := 0, locals := 0 } : Room) [.ref ot] sz (dC, dI) vwCl [(cI, .int), (cS, .short)] [(ot, .inr (10, [.ref at1, .ref at2, .ref at3, .int lt]))] (fun _ => True) 0 0 (fun (A : Nat → Prop) (r : Int32) (hh9 : Heap) => ∀ PZ9 : Prop, (kPD (dC, dI) vwCl A [(ot, .inr (10, [.ref at1, .ref at2, .ref at3, .int lt]))] hh9 → (r = lt) → PZ9) → PZ9) := by
  refine kMi_of (cc := cX10_length) (maxL := 1) (ret := (some .int)) (lv := [(0, .ref ot)]) (by decide +kernel) rfl rfl (Nat.le_of_ble_eq_true rfl) ?_
  intro p e s m below meth c A QQ ls hx hb hr hts hml hown hlocks hA hQQ hK hX hP hD hS hl
  have hown : s.vm.findClass RX10 = some m.cls := hown
  have hcf := k_cf hx hb hml hown hts
  have in_X10 : ∀ w ∈ wsX100, w ∈ wsX10_length := fun _ h => List.mem_cons_of_mem _ (List.mem_append_right _ (h))
  refine lv_aload_n hx hb dX10_length_0 rfl (lv_at hl 0 rfl) ?_
  refine va_get (D := (dC, dI)) (ci := 10) (v := .int lt) (C := RX10) (T := TX10) (N := 4) hx hb hts in_X10 hown hK hP 0 rfl rfl 3 (Nat.le_of_ble_eq_true rfl) (hts (.fieldLink RX10 27 "TextMender$ToldCode" "length" "I") (List.mem_of_getElem? (i := 1) rfl)) (fun _ h9 => h9) rfl dX10_length_1 ?_
  exact kl_i (v := lt) hQQ hx hb hr hlocks hS dX10_length_4 (fun PZ9 kZ9 => kZ9 (⟨hP, hD⟩) (rfl))

set_option maxHeartbeats 40000000 in
set_option maxRecDepth 100000 in
theorem m_X10_empty (l : Launch) (dC : Nat → ClassId) (dI : Nat → Nat → Nat) (cI cS : ClassId) (sz : Nat) (ot : Nat) (at1 : Nat) (at2 : Nat) (at3 : Nat) (lt : Int32) (ft1 : Nat → Int32) (ft3 : Nat → Int32)  : kMv l yX10_empty wsX10_empty ({ frames := 1, cells := 0, slots := 0, locals := 23 } : Room) [.ref ot] sz (dC, dI) vwCl [(cI, .int), (cS, .short)] [(ot, .inr (10, [.ref at1, .ref at2, .ref at3, .int lt])), (at1, .inl (cI, 256, .inl ft1)), (at3, .inl (cI, 512, .inl ft3))] (fun _ => True) 0 0 (fun (A : Nat → Prop) (hh9 : Heap) => ∀ PZ9 : Prop, (∀ (lt' : Int32) (ft1' : Nat → Int32) (ft3' : Nat → Int32), kPD (dC, dI) vwCl A [(ot, .inr (10, [.ref at1, .ref at2, .ref at3, .int lt'])), (at1, .inl (cI, 256, .inl ft1')), (at3, .inl (cI, 512, .inl ft3'))] hh9 → (lt' = 0) → (F_fill 256 ft1' (-1)) → (F_fill 512 ft3' (-1)) → PZ9) → PZ9) := by
  refine kMv_of (cc := cX10_empty) (maxL := 1) (ret := none) (lv := [(0, .ref ot)]) (by decide +kernel) rfl rfl (Nat.le_of_ble_eq_true rfl) ?_
  intro p e s m below meth c A QQ ls hx hb hr hts hml hown hlocks hA hQQ hK hX hP hD hS hl
  have hown : s.vm.findClass RX10 = some m.cls := hown
  have hcf := k_cf hx hb hml hown hts
  have in_X10 : ∀ w ∈ wsX100, w ∈ wsX10_empty := fun _ h => List.mem_cons_of_mem _ (List.mem_append_left _ (List.mem_append_right _ (h)))
  refine lv_aload_n hx hb dX10_empty_0 rfl (lv_at hl 0 rfl) ?_
  refine va_get (D := (dC, dI)) (ci := 10) (v := .ref at1) (C := RX10) (T := TX10) (N := 4) hx hb hts in_X10 hown hK hP 0 rfl rfl 0 (Nat.le_of_ble_eq_true rfl) (hts (.fieldLink RX10 9 "TextMender$ToldCode" "letterOf" "[I") (List.mem_of_getElem? (i := 1) rfl)) (fun _ h9 => h9) rfl dX10_empty_1 ?_
  refine lv_iconst (v := (-1)) hx hb dX10_empty_4 (by decide) ?_
  refine kS_v (rest := []) hcf (m_J7_fill_53178 l dC dI cI cS s.heap.size at1 256 ft1 (-1) (by omega)) kc_J7_fill_53178 gX10_empty_J7_fill_53178 rfl rfl ⟨Nat.le_of_ble_eq_true rfl, Nat.le_of_ble_eq_true rfl⟩ kX_t hK hP hD hS hA [1] [0, 2] rfl (by decide +kernel) rfl hl rfl (Nat.le_of_ble_eq_true rfl) dX10_empty_5 ⟨Nat.le_of_ble_eq_true rfl, Nat.le_of_ble_eq_true rfl⟩ (fun H locs hB hJ hSn => ?_)
  refine hB _ (fun f_1 hPD9 hf1_0 => ?_)
  clear hB
  obtain ⟨hPn, hDn⟩ := hJ _ hPD9.1 hPD9.2 [(ot, .inr (10, [.ref at1, .ref at2, .ref at3, .int lt])), (at3, .inl (cI, 512, .inl ft3)), (at1, .inl (cI, 256, .inl f_1))] rfl
  clear hP hD hS hJ hPD9
  have hP := hPn
  have hD := hDn
  have hS := hSn
  clear hPn hDn hSn
  refine lv_aload_n hx hb dX10_empty_8 rfl (lv_at hl 0 rfl) ?_
  refine va_get (D := (dC, dI)) (ci := 10) (v := .ref at3) (C := RX10) (T := TX10) (N := 4) hx hb hts in_X10 hown hK hP 0 rfl rfl 2 (Nat.le_of_ble_eq_true rfl) (hts (.fieldLink RX10 18 "TextMender$ToldCode" "placeByte" "[I") (List.mem_of_getElem? (i := 2) rfl)) (fun _ h9 => h9) rfl dX10_empty_9 ?_
  refine lv_iconst (v := (-1)) hx hb dX10_empty_12 (by decide) ?_
  refine kS_v (rest := []) hcf (m_J7_fill_53178 l dC dI cI cS H.size at3 512 ft3 (-1) (by omega)) kc_J7_fill_53178 gX10_empty_J7_fill_53178 rfl rfl ⟨Nat.le_of_ble_eq_true rfl, Nat.le_of_ble_eq_true rfl⟩ kX_t hK hP hD hS hA [1] [0, 2] rfl (by decide +kernel) rfl hl rfl (Nat.le_of_ble_eq_true rfl) dX10_empty_13 ⟨Nat.le_of_ble_eq_true rfl, Nat.le_of_ble_eq_true rfl⟩ (fun H locs hB hJ hSn => ?_)
  refine hB _ (fun f_2 hPD9 hf2_0 => ?_)
  clear hB
  obtain ⟨hPn, hDn⟩ := hJ _ hPD9.1 hPD9.2 [(ot, .inr (10, [.ref at1, .ref at2, .ref at3, .int lt])), (at1, .inl (cI, 256, .inl f_1)), (at3, .inl (cI, 512, .inl f_2))] rfl
  clear hP hD hS hJ hPD9
  have hP := hPn
  have hD := hDn
  have hS := hSn
  clear hPn hDn hSn
  refine lv_aload_n hx hb dX10_empty_16 rfl (lv_at hl 0 rfl) ?_
  refine lv_iconst (v := 0) hx hb dX10_empty_17 (by decide) ?_
  refine va_put (D := (dC, dI)) (ci := 10) (v := .int 0) (ty := .int) (C := RX10) (T := TX10) (N := 4) hx hb hts in_X10 tyX10 tyX10_ok nmX10 hown hK hP hD hS 0 rfl rfl 3 (Nat.le_of_ble_eq_true rfl) (hts (.fieldLink RX10 27 "TextMender$ToldCode" "length" "I") (List.mem_of_getElem? (i := 3) rfl)) (fun _ h9 => h9) rfl (tyX10_ok 3 (Nat.le_of_ble_eq_true rfl)) rfl rfl (Nat.le_of_ble_eq_true rfl) dX10_empty_18 (kW (wn := [(ot, .inr (10, [.ref at1, .ref at2, .ref at3, .int 0])), (at1, .inl (cI, 256, .inl f_1)), (at3, .inl (cI, 512, .inl f_2))]) rfl (fun H locs hPn hDn hSn => ?_))
  clear hP hD hS
  have hP := hPn
  have hD := hDn
  have hS := hSn
  clear hPn hDn hSn
  exact kl_v hQQ hx hb hr hlocks hS dX10_empty_21 (fun PZ9 kZ9 => kZ9 0 f_1 f_2 (⟨hP, hD⟩) (rfl) (hf1_0) (hf2_0))

set_option maxHeartbeats 40000000 in
set_option maxRecDepth 100000 in
theorem m_X10_letterFor (l : Launch) (dC : Nat → ClassId) (dI : Nat → Nat → Nat) (cI cS : ClassId) (sz : Nat) (ot : Nat) (at1 : Nat) (at2 : Nat) (at3 : Nat) (lt : Int32) (ft1 : Nat → Int32) (v : Int32)  : kMi l yX10_letterFor wsX10_letterFor ({ frames := 0, cells := 0, slots := 0, locals := 0 } : Room) [.ref ot, .int v] sz (dC, dI) vwCl [(cI, .int), (cS, .short)] [(ot, .inr (10, [.ref at1, .ref at2, .ref at3, .int lt])), (at1, .inl (cI, 256, .inl ft1))] (fun _ => True) 0 0 (fun (A : Nat → Prop) (r : Int32) (hh9 : Heap) => ∀ PZ9 : Prop, (kPD (dC, dI) vwCl A [(ot, .inr (10, [.ref at1, .ref at2, .ref at3, .int lt])), (at1, .inl (cI, 256, .inl ft1))] hh9 → (F_get 256 v r ft1) → PZ9) → PZ9) := by
  refine kMi_of (cc := cX10_letterFor) (maxL := 2) (ret := (some .int)) (lv := [(0, .ref ot), (1, .int v)]) (by decide +kernel) rfl rfl (Nat.le_of_ble_eq_true rfl) ?_
  intro p e s m below meth c A QQ ls hx hb hr hts hml hown hlocks hA hQQ hK hX hP hD hS hl
  have hown : s.vm.findClass RX10 = some m.cls := hown
  have hcf := k_cf hx hb hml hown hts
  have in_X10 : ∀ w ∈ wsX100, w ∈ wsX10_letterFor := fun _ h => List.mem_cons_of_mem _ (List.mem_append_right _ (h))
  refine lv_iload_n hx hb dX10_letterFor_0 rfl (lv_at hl 1 rfl) ?_
  refine lv_if_lt (tgt := 20) hx hb dX10_letterFor_1 (by decide) (fun c_1 => ?_) (fun c_1 => ?_)
  · have tc_1 : v.toInt < 0 := v_lt c_1
    refine lv_iconst (v := (-1)) hx hb dX10_letterFor_20 (by decide) ?_
    exact kl_i (v := (-1)) hQQ hx hb hr hlocks hS dX10_letterFor_21 (fun PZ9 kZ9 => kZ9 (⟨hP, hD⟩) (by first | exact Or.inl ⟨by omega, by show v.toInt < 256; omega, by assumption⟩ | exact Or.inr ⟨Or.inl (by omega), rfl⟩ | exact Or.inr ⟨Or.inr (by show (256 : Int) ≤ v.toInt; omega), rfl⟩))
  · have tc_1 : 0 ≤ v.toInt := v_nlt c_1
    refine lv_iload_n hx hb dX10_letterFor_4 rfl (lv_at hl 1 rfl) ?_
    refine lv_sipush (v := 256) hx hb dX10_letterFor_5 (by decide) ?_
    refine lv_icmp_ge (tgt := 20) hx hb dX10_letterFor_8 (by decide) (fun c_2 => ?_) (fun c_2 => ?_)
    · have tc_2 : 256 ≤ v.toInt := v_le c_2
      refine lv_iconst (v := (-1)) hx hb dX10_letterFor_20 (by decide) ?_
      exact kl_i (v := (-1)) hQQ hx hb hr hlocks hS dX10_letterFor_21 (fun PZ9 kZ9 => kZ9 (⟨hP, hD⟩) (by first | exact Or.inl ⟨by omega, by show v.toInt < 256; omega, by assumption⟩ | exact Or.inr ⟨Or.inl (by omega), rfl⟩ | exact Or.inr ⟨Or.inr (by show (256 : Int) ≤ v.toInt; omega), rfl⟩))
    · have tc_2 : v.toInt < 256 := v_nle c_2
      refine lv_aload_n hx hb dX10_letterFor_11 rfl (lv_at hl 0 rfl) ?_
      refine va_get (D := (dC, dI)) (ci := 10) (v := .ref at1) (C := RX10) (T := TX10) (N := 4) hx hb hts in_X10 hown hK hP 0 rfl rfl 0 (Nat.le_of_ble_eq_true rfl) (hts (.fieldLink RX10 9 "TextMender$ToldCode" "letterOf" "[I") (List.mem_of_getElem? (i := 1) rfl)) (fun _ h9 => h9) rfl dX10_letterFor_12 ?_
      refine lv_iload_n hx hb dX10_letterFor_15 rfl (lv_at hl 1 rfl) ?_
      refine va_iald hx hb hK hP 1 0 rfl rfl (v_in (by omega)) dX10_letterFor_16 ?_
      refine lv_topi (fun x_3 ex_3 => ?_)
      refine lv_goto (tgt := 21) hx hb dX10_letterFor_17 (by decide) ?_
      exact kl_i (v := x_3) hQQ hx hb hr hlocks hS dX10_letterFor_21 (fun PZ9 kZ9 => kZ9 (⟨hP, hD⟩) (by first | exact Or.inl ⟨by omega, by show v.toInt < 256; omega, by assumption⟩ | exact Or.inr ⟨Or.inl (by omega), rfl⟩ | exact Or.inr ⟨Or.inr (by show (256 : Int) ≤ v.toInt; omega), rfl⟩))

set_option maxHeartbeats 40000000 in
set_option maxRecDepth 100000 in
theorem m_X11_isLetter (l : Launch) (dC : Nat → ClassId) (dI : Nat → Nat → Nat) (cI cS : ClassId) (sz : Nat) (x : Int32)  : kMi l yX11_isLetter wsX11_isLetter ({ frames := 0, cells := 0, slots := 0, locals := 0 } : Room) [.int x] sz (dC, dI) vwCl [(cI, .int), (cS, .short)] [] (fun _ => True) 0 0 (fun (A : Nat → Prop) (r : Int32) (hh9 : Heap) => ∀ PZ9 : Prop, (kPD (dC, dI) vwCl A [] hh9 → (0 ≤ r.toInt ∧ r.toInt ≤ 1) → ((r.toInt = 1 ∧ 0 ≤ x.toInt ∧ x.toInt ≤ 65535 ∧ (x.toInt < 55296 ∨ 57343 < x.toInt)) ∨ (r.toInt = 0 ∧ (x.toInt < 0 ∨ 65535 < x.toInt ∨ (55296 ≤ x.toInt ∧ x.toInt ≤ 57343)))) → PZ9) → PZ9) := by
  refine kMi_of (cc := cX11_isLetter) (maxL := 1) (ret := (some .boolean)) (lv := [(0, .int x)]) (by decide +kernel) rfl rfl (Nat.le_of_ble_eq_true rfl) ?_
  intro p e s m below meth c A QQ ls hx hb hr hts hml hown hlocks hA hQQ hK hX hP hD hS hl
  have hown : s.vm.findClass RX11 = some m.cls := hown
  have hcf := k_cf hx hb hml hown hts
  refine lv_iload_n hx hb dX11_isLetter_0 rfl (lv_at hl 0 rfl) ?_
  refine lv_if_lt (tgt := 29) hx hb dX11_isLetter_1 (by decide) (fun c_1 => ?_) (fun c_1 => ?_)
  · have tc_1 : x.toInt < 0 := v_lt c_1
    refine lv_iconst (v := 0) hx hb dX11_isLetter_29 (by decide) ?_
    exact kl_z (v := 0) hQQ hx hb hr hlocks hS dX11_isLetter_30 (rfl) (fun PZ9 kZ9 => kZ9 (⟨hP, hD⟩) (by decide) (by show (0 = 1 ∧ 0 ≤ x.toInt ∧ x.toInt ≤ 65535 ∧ (x.toInt < 55296 ∨ 57343 < x.toInt)) ∨ (0 = 0 ∧ (x.toInt < 0 ∨ 65535 < x.toInt ∨ (55296 ≤ x.toInt ∧ x.toInt ≤ 57343))); omega))
  · have tc_1 : 0 ≤ x.toInt := v_nlt c_1
    refine lv_iload_n hx hb dX11_isLetter_4 rfl (lv_at hl 0 rfl) ?_
    refine lv_ldcw hx hb hown (hts (.constant RX11 262 (65535)) (List.mem_of_getElem? (i := 1) rfl)) dX11_isLetter_5 ?_
    refine lv_icmp_gt (tgt := 29) hx hb dX11_isLetter_8 (by decide) (fun c_2 => ?_) (fun c_2 => ?_)
    · have tc_2 : 65535 < x.toInt := v_lt c_2
      refine lv_iconst (v := 0) hx hb dX11_isLetter_29 (by decide) ?_
      exact kl_z (v := 0) hQQ hx hb hr hlocks hS dX11_isLetter_30 (rfl) (fun PZ9 kZ9 => kZ9 (⟨hP, hD⟩) (by decide) (by show (0 = 1 ∧ 0 ≤ x.toInt ∧ x.toInt ≤ 65535 ∧ (x.toInt < 55296 ∨ 57343 < x.toInt)) ∨ (0 = 0 ∧ (x.toInt < 0 ∨ 65535 < x.toInt ∨ (55296 ≤ x.toInt ∧ x.toInt ≤ 57343))); omega))
    · have tc_2 : x.toInt ≤ 65535 := v_nlt c_2
      refine lv_iload_n hx hb dX11_isLetter_11 rfl (lv_at hl 0 rfl) ?_
      refine lv_ldcw hx hb hown (hts (.constant RX11 263 (55296)) (List.mem_of_getElem? (i := 2) rfl)) dX11_isLetter_12 ?_
      refine lv_icmp_lt (tgt := 25) hx hb dX11_isLetter_15 (by decide) (fun c_3 => ?_) (fun c_3 => ?_)
      · have tc_3 : x.toInt < 55296 := v_lt c_3
        refine lv_iconst (v := 1) hx hb dX11_isLetter_25 (by decide) ?_
        refine lv_goto (tgt := 30) hx hb dX11_isLetter_26 (by decide) ?_
        exact kl_z (v := 1) hQQ hx hb hr hlocks hS dX11_isLetter_30 (rfl) (fun PZ9 kZ9 => kZ9 (⟨hP, hD⟩) (by decide) (by show (1 = 1 ∧ 0 ≤ x.toInt ∧ x.toInt ≤ 65535 ∧ (x.toInt < 55296 ∨ 57343 < x.toInt)) ∨ (1 = 0 ∧ (x.toInt < 0 ∨ 65535 < x.toInt ∨ (55296 ≤ x.toInt ∧ x.toInt ≤ 57343))); omega))
      · have tc_3 : 55296 ≤ x.toInt := v_nlt c_3
        refine lv_iload_n hx hb dX11_isLetter_18 rfl (lv_at hl 0 rfl) ?_
        refine lv_ldcw hx hb hown (hts (.constant RX11 264 (57343)) (List.mem_of_getElem? (i := 3) rfl)) dX11_isLetter_19 ?_
        refine lv_icmp_le (tgt := 29) hx hb dX11_isLetter_22 (by decide) (fun c_4 => ?_) (fun c_4 => ?_)
        · have tc_4 : x.toInt ≤ 57343 := v_le c_4
          refine lv_iconst (v := 0) hx hb dX11_isLetter_29 (by decide) ?_
          exact kl_z (v := 0) hQQ hx hb hr hlocks hS dX11_isLetter_30 (rfl) (fun PZ9 kZ9 => kZ9 (⟨hP, hD⟩) (by decide) (by show (0 = 1 ∧ 0 ≤ x.toInt ∧ x.toInt ≤ 65535 ∧ (x.toInt < 55296 ∨ 57343 < x.toInt)) ∨ (0 = 0 ∧ (x.toInt < 0 ∨ 65535 < x.toInt ∨ (55296 ≤ x.toInt ∧ x.toInt ≤ 57343))); omega))
        · have tc_4 : 57343 < x.toInt := v_nle c_4
          refine lv_iconst (v := 1) hx hb dX11_isLetter_25 (by decide) ?_
          refine lv_goto (tgt := 30) hx hb dX11_isLetter_26 (by decide) ?_
          exact kl_z (v := 1) hQQ hx hb hr hlocks hS dX11_isLetter_30 (rfl) (fun PZ9 kZ9 => kZ9 (⟨hP, hD⟩) (by decide) (by show (1 = 1 ∧ 0 ≤ x.toInt ∧ x.toInt ≤ 65535 ∧ (x.toInt < 55296 ∨ 57343 < x.toInt)) ∨ (1 = 0 ∧ (x.toInt < 0 ∨ 65535 < x.toInt ∨ (55296 ≤ x.toInt ∧ x.toInt ≤ 57343))); omega))

end

/-! 24.a.rows -/
section
set_option maxRecDepth 100000 in
theorem dA13_cX2_known : kDec cX2_known [(0, .iload_n 0, 1), (1, .ifCond .lt 12, 3), (13, .iconst 0, 1), (14, .ireturn, 1), (4, .iload_n 0, 1), (5, .iconst 5, 1), (6, .if_icmp .gt 7, 3), (9, .iconst 1, 1), (10, .goto 4, 3)] = true := by decide +kernel
theorem dX2_known_0 : decode cX2_known 0 = .ok (.iload_n 0, 1) := kDec_at dA13_cX2_known 0 rfl
theorem dX2_known_1 : decode cX2_known 1 = .ok (.ifCond .lt 12, 3) := kDec_at dA13_cX2_known 1 rfl
theorem dX2_known_13 : decode cX2_known 13 = .ok (.iconst 0, 1) := kDec_at dA13_cX2_known 2 rfl
theorem dX2_known_14 : decode cX2_known 14 = .ok (.ireturn, 1) := kDec_at dA13_cX2_known 3 rfl
theorem dX2_known_4 : decode cX2_known 4 = .ok (.iload_n 0, 1) := kDec_at dA13_cX2_known 4 rfl
theorem dX2_known_5 : decode cX2_known 5 = .ok (.iconst 5, 1) := kDec_at dA13_cX2_known 5 rfl
theorem dX2_known_6 : decode cX2_known 6 = .ok (.if_icmp .gt 7, 3) := kDec_at dA13_cX2_known 6 rfl
theorem dX2_known_9 : decode cX2_known 9 = .ok (.iconst 1, 1) := kDec_at dA13_cX2_known 7 rfl
theorem dX2_known_10 : decode cX2_known 10 = .ok (.goto 4, 3) := kDec_at dA13_cX2_known 8 rfl
set_option maxRecDepth 100000 in
theorem dA14_cX2_toldCode : kDec cX2_toldCode [(0, .iload_n 1, 1), (1, .iconst 4, 1), (2, .if_icmp .ne 10, 3), (5, .aload_n 0, 1), (6, .getfield 12, 3), (9, .goto 16, 3), (25, .areturn, 1), (12, .iload_n 1, 1), (13, .iconst 5, 1), (14, .if_icmp .ne 10, 3), (17, .aload_n 0, 1), (18, .getfield 18, 3), (21, .goto 4, 3), (24, .aconst_null, 1)] = true := by decide +kernel
theorem dX2_toldCode_0 : decode cX2_toldCode 0 = .ok (.iload_n 1, 1) := kDec_at dA14_cX2_toldCode 0 rfl
theorem dX2_toldCode_1 : decode cX2_toldCode 1 = .ok (.iconst 4, 1) := kDec_at dA14_cX2_toldCode 1 rfl
theorem dX2_toldCode_2 : decode cX2_toldCode 2 = .ok (.if_icmp .ne 10, 3) := kDec_at dA14_cX2_toldCode 2 rfl
theorem dX2_toldCode_5 : decode cX2_toldCode 5 = .ok (.aload_n 0, 1) := kDec_at dA14_cX2_toldCode 3 rfl
theorem dX2_toldCode_6 : decode cX2_toldCode 6 = .ok (.getfield 12, 3) := kDec_at dA14_cX2_toldCode 4 rfl
theorem dX2_toldCode_9 : decode cX2_toldCode 9 = .ok (.goto 16, 3) := kDec_at dA14_cX2_toldCode 5 rfl
theorem dX2_toldCode_25 : decode cX2_toldCode 25 = .ok (.areturn, 1) := kDec_at dA14_cX2_toldCode 6 rfl
theorem dX2_toldCode_12 : decode cX2_toldCode 12 = .ok (.iload_n 1, 1) := kDec_at dA14_cX2_toldCode 7 rfl
theorem dX2_toldCode_13 : decode cX2_toldCode 13 = .ok (.iconst 5, 1) := kDec_at dA14_cX2_toldCode 8 rfl
theorem dX2_toldCode_14 : decode cX2_toldCode 14 = .ok (.if_icmp .ne 10, 3) := kDec_at dA14_cX2_toldCode 9 rfl
theorem dX2_toldCode_17 : decode cX2_toldCode 17 = .ok (.aload_n 0, 1) := kDec_at dA14_cX2_toldCode 10 rfl
theorem dX2_toldCode_18 : decode cX2_toldCode 18 = .ok (.getfield 18, 3) := kDec_at dA14_cX2_toldCode 11 rfl
theorem dX2_toldCode_21 : decode cX2_toldCode 21 = .ok (.goto 4, 3) := kDec_at dA14_cX2_toldCode 12 rfl
theorem dX2_toldCode_24 : decode cX2_toldCode 24 = .ok (.aconst_null, 1) := kDec_at dA14_cX2_toldCode 13 rfl
set_option maxRecDepth 100000 in
theorem dA15_cX2_lengthOf : kDec cX2_lengthOf [(0, .aload_n 0, 1), (1, .iload_n 1, 1), (2, .invokevirtual 21, 3), (5, .astore_n 2, 1), (6, .aload_n 2, 1), (7, .ifnonnull 7, 3), (14, .aload_n 2, 1), (15, .invokevirtual 25, 3), (18, .ireturn, 1), (10, .iconst (-1), 1), (11, .goto 7, 3)] = true := by decide +kernel
theorem dX2_lengthOf_0 : decode cX2_lengthOf 0 = .ok (.aload_n 0, 1) := kDec_at dA15_cX2_lengthOf 0 rfl
theorem dX2_lengthOf_1 : decode cX2_lengthOf 1 = .ok (.iload_n 1, 1) := kDec_at dA15_cX2_lengthOf 1 rfl
theorem dX2_lengthOf_2 : decode cX2_lengthOf 2 = .ok (.invokevirtual 21, 3) := kDec_at dA15_cX2_lengthOf 2 rfl
theorem dX2_lengthOf_5 : decode cX2_lengthOf 5 = .ok (.astore_n 2, 1) := kDec_at dA15_cX2_lengthOf 3 rfl
theorem dX2_lengthOf_6 : decode cX2_lengthOf 6 = .ok (.aload_n 2, 1) := kDec_at dA15_cX2_lengthOf 4 rfl
theorem dX2_lengthOf_7 : decode cX2_lengthOf 7 = .ok (.ifnonnull 7, 3) := kDec_at dA15_cX2_lengthOf 5 rfl
theorem dX2_lengthOf_14 : decode cX2_lengthOf 14 = .ok (.aload_n 2, 1) := kDec_at dA15_cX2_lengthOf 6 rfl
theorem dX2_lengthOf_15 : decode cX2_lengthOf 15 = .ok (.invokevirtual 25, 3) := kDec_at dA15_cX2_lengthOf 7 rfl
theorem dX2_lengthOf_18 : decode cX2_lengthOf 18 = .ok (.ireturn, 1) := kDec_at dA15_cX2_lengthOf 8 rfl
theorem dX2_lengthOf_10 : decode cX2_lengthOf 10 = .ok (.iconst (-1), 1) := kDec_at dA15_cX2_lengthOf 9 rfl
theorem dX2_lengthOf_11 : decode cX2_lengthOf 11 = .ok (.goto 7, 3) := kDec_at dA15_cX2_lengthOf 10 rfl
set_option maxRecDepth 20000 in
theorem gX2_clsall : wsX20.all goodWord = true := by decide +kernel
set_option maxRecDepth 20000 in
theorem gX2_toldCode_all : wsX2_toldCode.all goodWord = true := by
  unfold wsX2_toldCode
  exact good_c (by decide +kernel) (good_a ((by decide +kernel)) gX2_clsall)
set_option maxRecDepth 20000 in
theorem ggX2_lengthOf_X2_toldCode : GoodIn wsX2_lengthOf wsX2_toldCode := goodIn_sub (fun _ h => List.mem_cons_of_mem _ (List.mem_append_left _ (List.mem_append_right _ (h)))) gX2_toldCode_all
set_option maxRecDepth 20000 in
theorem gX2_lengthOf_X2_toldCode : GoodIn wsX2_lengthOf (wsV RX2 21 RX2 yX2_toldCode wsX2_toldCode) := goodIn_app (goodIn_r _ [1, 2, 3, 4] rfl (by decide +kernel)) ggX2_lengthOf_X2_toldCode
set_option maxRecDepth 20000 in
theorem gX10_clsall : wsX100.all goodWord = true := by decide +kernel
set_option maxRecDepth 20000 in
theorem gX10_length_all : wsX10_length.all goodWord = true := by
  unfold wsX10_length
  exact good_c (by decide +kernel) (good_a ((by decide +kernel)) gX10_clsall)
set_option maxRecDepth 20000 in
theorem ggX2_lengthOf_X10_length : GoodIn wsX2_lengthOf wsX10_length := goodIn_sub (fun _ h => List.mem_cons_of_mem _ (List.mem_append_right _ (h))) gX10_length_all
set_option maxRecDepth 20000 in
theorem gX2_lengthOf_X10_length : GoodIn wsX2_lengthOf (wsV RX2 25 RX10 yX10_length wsX10_length) := goodIn_app (goodIn_r _ [5, 6, 7, 8] rfl (by decide +kernel)) ggX2_lengthOf_X10_length

end

/-! 24.codes -/
section
set_option maxHeartbeats 40000000 in
set_option maxRecDepth 100000 in
theorem m_X2_known (l : Launch) (dC : Nat → ClassId) (dI : Nat → Nat → Nat) (cI cS : ClassId) (sz : Nat) (cd : Int32)  : kMi l yX2_known wsX2_known ({ frames := 0, cells := 0, slots := 0, locals := 0 } : Room) [.int cd] sz (dC, dI) vwCl [(cI, .int), (cS, .short)] [] (fun _ => True) 0 0 (fun (A : Nat → Prop) (r : Int32) (hh9 : Heap) => ∀ PZ9 : Prop, (kPD (dC, dI) vwCl A [] hh9 → (0 ≤ r.toInt ∧ r.toInt ≤ 1) → ((r.toInt = 1 ∧ 0 ≤ cd.toInt ∧ cd.toInt ≤ 5) ∨ (r.toInt = 0 ∧ (cd.toInt < 0 ∨ 5 < cd.toInt))) → PZ9) → PZ9) := by
  refine kMi_of (cc := cX2_known) (maxL := 1) (ret := (some .boolean)) (lv := [(0, .int cd)]) (by decide +kernel) rfl rfl (Nat.le_of_ble_eq_true rfl) ?_
  intro p e s m below meth c A QQ ls hx hb hr hts hml hown hlocks hA hQQ hK hX hP hD hS hl
  have hown : s.vm.findClass RX2 = some m.cls := hown
  have hcf := k_cf hx hb hml hown hts
  refine lv_iload_n hx hb dX2_known_0 rfl (lv_at hl 0 rfl) ?_
  refine lv_if_lt (tgt := 13) hx hb dX2_known_1 (by decide) (fun c_1 => ?_) (fun c_1 => ?_)
  · have tc_1 : cd.toInt < 0 := v_lt c_1
    refine lv_iconst (v := 0) hx hb dX2_known_13 (by decide) ?_
    exact kl_z (v := 0) hQQ hx hb hr hlocks hS dX2_known_14 (rfl) (fun PZ9 kZ9 => kZ9 (⟨hP, hD⟩) (by decide) (by show (0 = 1 ∧ 0 ≤ cd.toInt ∧ cd.toInt ≤ 5) ∨ (0 = 0 ∧ (cd.toInt < 0 ∨ 5 < cd.toInt)); omega))
  · have tc_1 : 0 ≤ cd.toInt := v_nlt c_1
    refine lv_iload_n hx hb dX2_known_4 rfl (lv_at hl 0 rfl) ?_
    refine lv_iconst (v := 5) hx hb dX2_known_5 (by decide) ?_
    refine lv_icmp_gt (tgt := 13) hx hb dX2_known_6 (by decide) (fun c_2 => ?_) (fun c_2 => ?_)
    · have tc_2 : 5 < cd.toInt := v_lt c_2
      refine lv_iconst (v := 0) hx hb dX2_known_13 (by decide) ?_
      exact kl_z (v := 0) hQQ hx hb hr hlocks hS dX2_known_14 (rfl) (fun PZ9 kZ9 => kZ9 (⟨hP, hD⟩) (by decide) (by show (0 = 1 ∧ 0 ≤ cd.toInt ∧ cd.toInt ≤ 5) ∨ (0 = 0 ∧ (cd.toInt < 0 ∨ 5 < cd.toInt)); omega))
    · have tc_2 : cd.toInt ≤ 5 := v_nlt c_2
      refine lv_iconst (v := 1) hx hb dX2_known_9 (by decide) ?_
      refine lv_goto (tgt := 14) hx hb dX2_known_10 (by decide) ?_
      exact kl_z (v := 1) hQQ hx hb hr hlocks hS dX2_known_14 (rfl) (fun PZ9 kZ9 => kZ9 (⟨hP, hD⟩) (by decide) (by show (1 = 1 ∧ 0 ≤ cd.toInt ∧ cd.toInt ≤ 5) ∨ (1 = 0 ∧ (cd.toInt < 0 ∨ 5 < cd.toInt)); omega))

set_option maxHeartbeats 40000000 in
set_option maxRecDepth 100000 in
theorem m_X2_toldCode_4 (l : Launch) (dC : Nat → ClassId) (dI : Nat → Nat → Nat) (cI cS : ClassId) (sz : Nat) (oC : Nat) (o4 : Nat) (o5 : Nat) (cd : Int32) (h4 : cd.toInt = 4) : kMr l yX2_toldCode wsX2_toldCode ({ frames := 0, cells := 0, slots := 0, locals := 0 } : Room) [.ref oC, .int cd] sz (dC, dI) vwCl [(cI, .int), (cS, .short)] [(oC, .inr (2, [.ref o4, .ref o5]))] (fun _ => True) 0 0 (fun (A : Nat → Prop) (ra : Nat) (hh9 : Heap) => ra = o4 ∧ (∀ PZ9 : Prop, (kPD (dC, dI) vwCl A [(oC, .inr (2, [.ref o4, .ref o5]))] hh9 → PZ9) → PZ9)) := by
  refine kMr_of (cc := cX2_toldCode) (maxL := 2) (ret := (some (.object "TextMender$ToldCode"))) (lv := [(0, .ref oC), (1, .int cd)]) (by decide +kernel) rfl rfl (Nat.le_of_ble_eq_true rfl) ?_
  intro p e s m below meth c A QQ ls hx hb hr hts hml hown hlocks hA hQQ hK hX hP hD hS hl
  have hown : s.vm.findClass RX2 = some m.cls := hown
  have hcf := k_cf hx hb hml hown hts
  have in_X2 : ∀ w ∈ wsX20, w ∈ wsX2_toldCode := fun _ h => List.mem_cons_of_mem _ (List.mem_append_right _ (h))
  refine lv_iload_n hx hb dX2_toldCode_0 rfl (lv_at hl 1 rfl) ?_
  refine lv_iconst (v := 4) hx hb dX2_toldCode_1 (by decide) ?_
  refine lv_icmp_ne (tgt := 12) hx hb dX2_toldCode_2 (by decide) (fun c_1 => by exfalso; have tc_1 : ¬ cd.toInt = 4 := v_ne c_1; omega) (fun c_1 => ?_)
  have tc_1 : cd.toInt = 4 := v_eq c_1
  refine lv_aload_n hx hb dX2_toldCode_5 rfl (lv_at hl 0 rfl) ?_
  refine va_get (D := (dC, dI)) (ci := 2) (v := .ref o4) (C := RX2) (T := TX2) (N := 2) hx hb hts in_X2 hown hK hP 0 rfl rfl 0 (Nat.le_of_ble_eq_true rfl) (hts (.fieldLink RX2 12 "TextMender$Codes" "four" "LTextMender$ToldCode;") (List.mem_of_getElem? (i := 1) rfl)) (fun _ h9 => h9) rfl dX2_toldCode_6 ?_
  refine lv_goto (tgt := 25) hx hb dX2_toldCode_9 (by decide) ?_
  exact kl_r hQQ hx hb hr (Or.inl ⟨_, rfl⟩) hlocks hS dX2_toldCode_25 ⟨rfl, fun PZ9 kZ9 => kZ9 (⟨hP, hD⟩)⟩

set_option maxHeartbeats 40000000 in
set_option maxRecDepth 100000 in
theorem m_X2_toldCode_5 (l : Launch) (dC : Nat → ClassId) (dI : Nat → Nat → Nat) (cI cS : ClassId) (sz : Nat) (oC : Nat) (o4 : Nat) (o5 : Nat) (cd : Int32) (h5 : cd.toInt = 5) : kMr l yX2_toldCode wsX2_toldCode ({ frames := 0, cells := 0, slots := 0, locals := 0 } : Room) [.ref oC, .int cd] sz (dC, dI) vwCl [(cI, .int), (cS, .short)] [(oC, .inr (2, [.ref o4, .ref o5]))] (fun _ => True) 0 0 (fun (A : Nat → Prop) (ra : Nat) (hh9 : Heap) => ra = o5 ∧ (∀ PZ9 : Prop, (kPD (dC, dI) vwCl A [(oC, .inr (2, [.ref o4, .ref o5]))] hh9 → PZ9) → PZ9)) := by
  refine kMr_of (cc := cX2_toldCode) (maxL := 2) (ret := (some (.object "TextMender$ToldCode"))) (lv := [(0, .ref oC), (1, .int cd)]) (by decide +kernel) rfl rfl (Nat.le_of_ble_eq_true rfl) ?_
  intro p e s m below meth c A QQ ls hx hb hr hts hml hown hlocks hA hQQ hK hX hP hD hS hl
  have hown : s.vm.findClass RX2 = some m.cls := hown
  have hcf := k_cf hx hb hml hown hts
  have in_X2 : ∀ w ∈ wsX20, w ∈ wsX2_toldCode := fun _ h => List.mem_cons_of_mem _ (List.mem_append_right _ (h))
  refine lv_iload_n hx hb dX2_toldCode_0 rfl (lv_at hl 1 rfl) ?_
  refine lv_iconst (v := 4) hx hb dX2_toldCode_1 (by decide) ?_
  refine lv_icmp_ne (tgt := 12) hx hb dX2_toldCode_2 (by decide) (fun c_1 => ?_) (fun c_1 => by exfalso; have tc_1 : cd.toInt = 4 := v_eq c_1; omega)
  have tc_1 : ¬ cd.toInt = 4 := v_ne c_1
  refine lv_iload_n hx hb dX2_toldCode_12 rfl (lv_at hl 1 rfl) ?_
  refine lv_iconst (v := 5) hx hb dX2_toldCode_13 (by decide) ?_
  refine lv_icmp_ne (tgt := 24) hx hb dX2_toldCode_14 (by decide) (fun c_2 => by exfalso; have tc_2 : ¬ cd.toInt = 5 := v_ne c_2; omega) (fun c_2 => ?_)
  have tc_2 : cd.toInt = 5 := v_eq c_2
  refine lv_aload_n hx hb dX2_toldCode_17 rfl (lv_at hl 0 rfl) ?_
  refine va_get (D := (dC, dI)) (ci := 2) (v := .ref o5) (C := RX2) (T := TX2) (N := 2) hx hb hts in_X2 hown hK hP 0 rfl rfl 1 (Nat.le_of_ble_eq_true rfl) (hts (.fieldLink RX2 18 "TextMender$Codes" "five" "LTextMender$ToldCode;") (List.mem_of_getElem? (i := 2) rfl)) (fun _ h9 => h9) rfl dX2_toldCode_18 ?_
  refine lv_goto (tgt := 25) hx hb dX2_toldCode_21 (by decide) ?_
  exact kl_r hQQ hx hb hr (Or.inl ⟨_, rfl⟩) hlocks hS dX2_toldCode_25 ⟨rfl, fun PZ9 kZ9 => kZ9 (⟨hP, hD⟩)⟩

set_option maxHeartbeats 40000000 in
set_option maxRecDepth 100000 in
theorem m_X2_toldCode_n (l : Launch) (dC : Nat → ClassId) (dI : Nat → Nat → Nat) (cI cS : ClassId) (sz : Nat) (oC : Nat) (o4 : Nat) (o5 : Nat) (cd : Int32) (h4 : ¬ cd.toInt = 4) (h5 : ¬ cd.toInt = 5) : kMq l yX2_toldCode wsX2_toldCode ({ frames := 0, cells := 0, slots := 0, locals := 0 } : Room) [.ref oC, .int cd] sz (dC, dI) vwCl [(cI, .int), (cS, .short)] [(oC, .inr (2, [.ref o4, .ref o5]))] (fun _ => True) 0 0 (fun (A : Nat → Prop) (hh9 : Heap) => ∀ PZ9 : Prop, (kPD (dC, dI) vwCl A [(oC, .inr (2, [.ref o4, .ref o5]))] hh9 → PZ9) → PZ9) := by
  refine kMq_of (cc := cX2_toldCode) (maxL := 2) (ret := (some (.object "TextMender$ToldCode"))) (lv := [(0, .ref oC), (1, .int cd)]) (by decide +kernel) rfl rfl (Nat.le_of_ble_eq_true rfl) ?_
  intro p e s m below meth c A QQ ls hx hb hr hts hml hown hlocks hA hQQ hK hX hP hD hS hl
  have hown : s.vm.findClass RX2 = some m.cls := hown
  have hcf := k_cf hx hb hml hown hts
  refine lv_iload_n hx hb dX2_toldCode_0 rfl (lv_at hl 1 rfl) ?_
  refine lv_iconst (v := 4) hx hb dX2_toldCode_1 (by decide) ?_
  refine lv_icmp_ne (tgt := 12) hx hb dX2_toldCode_2 (by decide) (fun c_1 => ?_) (fun c_1 => by exfalso; have tc_1 : cd.toInt = 4 := v_eq c_1; omega)
  have tc_1 : ¬ cd.toInt = 4 := v_ne c_1
  refine lv_iload_n hx hb dX2_toldCode_12 rfl (lv_at hl 1 rfl) ?_
  refine lv_iconst (v := 5) hx hb dX2_toldCode_13 (by decide) ?_
  refine lv_icmp_ne (tgt := 24) hx hb dX2_toldCode_14 (by decide) (fun c_2 => ?_) (fun c_2 => by exfalso; have tc_2 : cd.toInt = 5 := v_eq c_2; omega)
  have tc_2 : ¬ cd.toInt = 5 := v_ne c_2
  refine lv_null hx hb dX2_toldCode_24 ?_
  exact kl_q hQQ hx hb hr (Or.inl ⟨_, rfl⟩) hlocks hS dX2_toldCode_25 (fun PZ9 kZ9 => kZ9 (⟨hP, hD⟩))

set_option maxHeartbeats 40000000 in
set_option maxRecDepth 100000 in
theorem m_X2_lengthOf (l : Launch) (dC : Nat → ClassId) (dI : Nat → Nat → Nat) (cI cS : ClassId) (sz : Nat) (oC : Nat) (o4 : Nat) (o5 : Nat) (a41 : Nat) (a42 : Nat) (a43 : Nat) (a51 : Nat) (a52 : Nat) (a53 : Nat) (l4 : Int32) (l5 : Int32) (cd : Int32)  : kMi l yX2_lengthOf wsX2_lengthOf ({ frames := 1, cells := 0, slots := 0, locals := 21 } : Room) [.ref oC, .int cd] sz (dC, dI) vwCl [(cI, .int), (cS, .short)] [(oC, .inr (2, [.ref o4, .ref o5])), (o4, .inr (10, [.ref a41, .ref a42, .ref a43, .int l4])), (o5, .inr (10, [.ref a51, .ref a52, .ref a53, .int l5]))] (fun _ => True) 0 0 (fun (A : Nat → Prop) (r : Int32) (hh9 : Heap) => ∀ PZ9 : Prop, (kPD (dC, dI) vwCl A [(oC, .inr (2, [.ref o4, .ref o5])), (o4, .inr (10, [.ref a41, .ref a42, .ref a43, .int l4])), (o5, .inr (10, [.ref a51, .ref a52, .ref a53, .int l5]))] hh9 → PZ9) → PZ9) := by
  refine kMi_of (cc := cX2_lengthOf) (maxL := 3) (ret := (some .int)) (lv := [(0, .ref oC), (1, .int cd)]) (by decide +kernel) rfl rfl (Nat.le_of_ble_eq_true rfl) ?_
  intro p e s m below meth c A QQ ls hx hb hr hts hml hown hlocks hA hQQ hK hX hP hD hS hl
  have hown : s.vm.findClass RX2 = some m.cls := hown
  have hcf := k_cf hx hb hml hown hts
  refine lv_aload_n hx hb dX2_lengthOf_0 rfl (lv_at hl 0 rfl) ?_
  refine lv_iload_n hx hb dX2_lengthOf_1 rfl (lv_at hl 1 rfl) ?_
  by_cases cs_1 : cd.toInt = 4
  · refine kV_r (rest := []) (q0 := 0) (ci := 2) hcf (m_X2_toldCode_4 l dC dI cI cS s.heap.size oC o4 o5 cd (by omega)) kc_X2_toldCode gX2_lengthOf_X2_toldCode rfl rfl rfl ⟨Nat.le_of_ble_eq_true rfl, Nat.le_of_ble_eq_true rfl⟩ kX_t hK hP hD hS hA [0] [1, 2] rfl (by decide +kernel) rfl rfl rfl hl rfl (Nat.le_of_ble_eq_true rfl) dX2_lengthOf_2 ⟨Nat.le_of_ble_eq_true rfl, Nat.le_of_ble_eq_true rfl⟩ (fun r_2 H locs hB hJ hSn => ?_)
    refine And.elim (fun hra hBr => ?_) hB
    clear hB
    refine hBr _ (fun hPD9 => ?_)
    clear hBr
    rw [hra]
    obtain ⟨hPn, hDn⟩ := hJ _ hPD9.1 hPD9.2 [(o4, .inr (10, [.ref a41, .ref a42, .ref a43, .int l4])), (o5, .inr (10, [.ref a51, .ref a52, .ref a53, .int l5])), (oC, .inr (2, [.ref o4, .ref o5]))] rfl
    clear hP hD hS hJ hPD9
    have hP := hPn
    have hD := hDn
    have hS := hSn
    clear hPn hDn hSn
    refine lv_astore_n (lv' := [(2, .ref o4), (0, .ref oC), (1, .int cd)]) hx hb dX2_lengthOf_5 rfl hl (by decide) rfl (fun ls hl => ?_)
    refine lv_aload_n hx hb dX2_lengthOf_6 rfl (lv_at hl 0 rfl) ?_
    refine lv_ifnonnull (tgt := 14) hx hb dX2_lengthOf_7 (by decide) ?_
    refine lv_aload_n hx hb dX2_lengthOf_14 rfl (lv_at hl 0 rfl) ?_
    refine kV_i (rest := []) (q0 := 0) (ci := 10) hcf (m_X10_length l dC dI cI cS H.size o4 a41 a42 a43 l4 ) kc_X10_length gX2_lengthOf_X10_length rfl rfl rfl ⟨Nat.le_of_ble_eq_true rfl, Nat.le_of_ble_eq_true rfl⟩ kX_t hK hP hD hS hA [0] [1, 2] rfl (by decide +kernel) rfl rfl rfl hl rfl (Nat.le_of_ble_eq_true rfl) dX2_lengthOf_15 ⟨Nat.le_of_ble_eq_true rfl, Nat.le_of_ble_eq_true rfl⟩ (fun r_3 H locs hB hJ hSn => ?_)
    refine hB _ (fun hPD9 hf3_0 => ?_)
    clear hB
    obtain ⟨hPn, hDn⟩ := hJ _ hPD9.1 hPD9.2 [(o5, .inr (10, [.ref a51, .ref a52, .ref a53, .int l5])), (oC, .inr (2, [.ref o4, .ref o5])), (o4, .inr (10, [.ref a41, .ref a42, .ref a43, .int l4]))] rfl
    clear hP hD hS hJ hPD9
    have hP := hPn
    have hD := hDn
    have hS := hSn
    clear hPn hDn hSn
    rw [hf3_0]
    exact kl_i (v := l4) hQQ hx hb hr hlocks hS dX2_lengthOf_18 (fun PZ9 kZ9 => kZ9 (kPD_sub hP hD [1, 2, 0] (by decide +kernel) rfl))
  · skip
    by_cases cs_4 : cd.toInt = 5
    · refine kV_r (rest := []) (q0 := 0) (ci := 2) hcf (m_X2_toldCode_5 l dC dI cI cS s.heap.size oC o4 o5 cd (by omega)) kc_X2_toldCode gX2_lengthOf_X2_toldCode rfl rfl rfl ⟨Nat.le_of_ble_eq_true rfl, Nat.le_of_ble_eq_true rfl⟩ kX_t hK hP hD hS hA [0] [1, 2] rfl (by decide +kernel) rfl rfl rfl hl rfl (Nat.le_of_ble_eq_true rfl) dX2_lengthOf_2 ⟨Nat.le_of_ble_eq_true rfl, Nat.le_of_ble_eq_true rfl⟩ (fun r_5 H locs hB hJ hSn => ?_)
      refine And.elim (fun hra hBr => ?_) hB
      clear hB
      refine hBr _ (fun hPD9 => ?_)
      clear hBr
      rw [hra]
      obtain ⟨hPn, hDn⟩ := hJ _ hPD9.1 hPD9.2 [(o4, .inr (10, [.ref a41, .ref a42, .ref a43, .int l4])), (o5, .inr (10, [.ref a51, .ref a52, .ref a53, .int l5])), (oC, .inr (2, [.ref o4, .ref o5]))] rfl
      clear hP hD hS hJ hPD9
      have hP := hPn
      have hD := hDn
      have hS := hSn
      clear hPn hDn hSn
      refine lv_astore_n (lv' := [(2, .ref o5), (0, .ref oC), (1, .int cd)]) hx hb dX2_lengthOf_5 rfl hl (by decide) rfl (fun ls hl => ?_)
      refine lv_aload_n hx hb dX2_lengthOf_6 rfl (lv_at hl 0 rfl) ?_
      refine lv_ifnonnull (tgt := 14) hx hb dX2_lengthOf_7 (by decide) ?_
      refine lv_aload_n hx hb dX2_lengthOf_14 rfl (lv_at hl 0 rfl) ?_
      refine kV_i (rest := []) (q0 := 0) (ci := 10) hcf (m_X10_length l dC dI cI cS H.size o5 a51 a52 a53 l5 ) kc_X10_length gX2_lengthOf_X10_length rfl rfl rfl ⟨Nat.le_of_ble_eq_true rfl, Nat.le_of_ble_eq_true rfl⟩ kX_t hK hP hD hS hA [1] [0, 2] rfl (by decide +kernel) rfl rfl rfl hl rfl (Nat.le_of_ble_eq_true rfl) dX2_lengthOf_15 ⟨Nat.le_of_ble_eq_true rfl, Nat.le_of_ble_eq_true rfl⟩ (fun r_6 H locs hB hJ hSn => ?_)
      refine hB _ (fun hPD9 hf6_0 => ?_)
      clear hB
      obtain ⟨hPn, hDn⟩ := hJ _ hPD9.1 hPD9.2 [(o4, .inr (10, [.ref a41, .ref a42, .ref a43, .int l4])), (oC, .inr (2, [.ref o4, .ref o5])), (o5, .inr (10, [.ref a51, .ref a52, .ref a53, .int l5]))] rfl
      clear hP hD hS hJ hPD9
      have hP := hPn
      have hD := hDn
      have hS := hSn
      clear hPn hDn hSn
      rw [hf6_0]
      exact kl_i (v := l5) hQQ hx hb hr hlocks hS dX2_lengthOf_18 (fun PZ9 kZ9 => kZ9 (kPD_sub hP hD [1, 0, 2] (by decide +kernel) rfl))
    · skip
      refine kV_q (rest := []) (q0 := 0) (ci := 2) hcf (m_X2_toldCode_n l dC dI cI cS s.heap.size oC o4 o5 cd (by omega) (by omega)) kc_X2_toldCode gX2_lengthOf_X2_toldCode rfl rfl rfl ⟨Nat.le_of_ble_eq_true rfl, Nat.le_of_ble_eq_true rfl⟩ kX_t hK hP hD hS hA [0] [1, 2] rfl (by decide +kernel) rfl rfl rfl hl rfl (Nat.le_of_ble_eq_true rfl) dX2_lengthOf_2 ⟨Nat.le_of_ble_eq_true rfl, Nat.le_of_ble_eq_true rfl⟩ (fun H locs hB hJ hSn => ?_)
      refine hB _ (fun hPD9 => ?_)
      clear hB
      obtain ⟨hPn, hDn⟩ := hJ _ hPD9.1 hPD9.2 [(o4, .inr (10, [.ref a41, .ref a42, .ref a43, .int l4])), (o5, .inr (10, [.ref a51, .ref a52, .ref a53, .int l5])), (oC, .inr (2, [.ref o4, .ref o5]))] rfl
      clear hP hD hS hJ hPD9
      have hP := hPn
      have hD := hDn
      have hS := hSn
      clear hPn hDn hSn
      refine lv_astore_nN (lv' := [(2, .null), (0, .ref oC), (1, .int cd)]) hx hb dX2_lengthOf_5 rfl hl (by decide) rfl (fun ls hl => ?_)
      refine lv_aload_nN hx hb dX2_lengthOf_6 rfl (lv_at hl 0 rfl) ?_
      refine lv_ifnonnullN hx hb dX2_lengthOf_7 ?_
      refine lv_iconst (v := (-1)) hx hb dX2_lengthOf_10 (by decide) ?_
      refine lv_goto (tgt := 18) hx hb dX2_lengthOf_11 (by decide) ?_
      exact kl_i (v := (-1)) hQQ hx hb hr hlocks hS dX2_lengthOf_18 (fun PZ9 kZ9 => kZ9 (kPD_sub hP hD [2, 0, 1] (by decide +kernel) rfl))

end

/-! 26.a.rows -/
section
set_option maxRecDepth 100000 in
theorem dA16_cX7_fault : kDec cX7_fault [(0, .aload_n 0, 1), (1, .getfield 24, 3), (4, .ireturn, 1)] = true := by decide +kernel
theorem dX7_fault_0 : decode cX7_fault 0 = .ok (.aload_n 0, 1) := kDec_at dA16_cX7_fault 0 rfl
theorem dX7_fault_1 : decode cX7_fault 1 = .ok (.getfield 24, 3) := kDec_at dA16_cX7_fault 1 rfl
theorem dX7_fault_4 : decode cX7_fault 4 = .ok (.ireturn, 1) := kDec_at dA16_cX7_fault 2 rfl
set_option maxRecDepth 100000 in
theorem dA17_cX7_bytes : kDec cX7_bytes [(0, .aload_n 0, 1), (1, .getfield 14, 3), (4, .areturn, 1)] = true := by decide +kernel
theorem dX7_bytes_0 : decode cX7_bytes 0 = .ok (.aload_n 0, 1) := kDec_at dA17_cX7_bytes 0 rfl
theorem dX7_bytes_1 : decode cX7_bytes 1 = .ok (.getfield 14, 3) := kDec_at dA17_cX7_bytes 1 rfl
theorem dX7_bytes_4 : decode cX7_bytes 4 = .ok (.areturn, 1) := kDec_at dA17_cX7_bytes 2 rfl

end

/-! 26.passage -/
section
set_option maxHeartbeats 40000000 in
set_option maxRecDepth 100000 in
theorem m_X7_fault (l : Launch) (dC : Nat → ClassId) (dI : Nat → Nat → Nat) (cI cS : ClassId) (sz : Nat) (oP : Nat) (oC : Nat) (nB : Nat) (ft : Int32)  : kMi l yX7_fault wsX7_fault ({ frames := 0, cells := 0, slots := 0, locals := 0 } : Room) [.ref oP] sz (dC, dI) vwCl [(cI, .int), (cS, .short)] [(oP, .inr (7, [.ref oC, .ref nB, .int ft]))] (fun _ => True) 0 0 (fun (A : Nat → Prop) (r : Int32) (hh9 : Heap) => ∀ PZ9 : Prop, (kPD (dC, dI) vwCl A [(oP, .inr (7, [.ref oC, .ref nB, .int ft]))] hh9 → (r = ft) → PZ9) → PZ9) := by
  refine kMi_of (cc := cX7_fault) (maxL := 1) (ret := (some .int)) (lv := [(0, .ref oP)]) (by decide +kernel) rfl rfl (Nat.le_of_ble_eq_true rfl) ?_
  intro p e s m below meth c A QQ ls hx hb hr hts hml hown hlocks hA hQQ hK hX hP hD hS hl
  have hown : s.vm.findClass RX7 = some m.cls := hown
  have hcf := k_cf hx hb hml hown hts
  have in_X7 : ∀ w ∈ wsX70, w ∈ wsX7_fault := fun _ h => List.mem_cons_of_mem _ (List.mem_append_right _ (h))
  refine lv_aload_n hx hb dX7_fault_0 rfl (lv_at hl 0 rfl) ?_
  refine va_get (D := (dC, dI)) (ci := 7) (v := .int ft) (C := RX7) (T := TX7) (N := 3) hx hb hts in_X7 hown hK hP 0 rfl rfl 2 (Nat.le_of_ble_eq_true rfl) (hts (.fieldLink RX7 24 "TextMender$Passage" "fault" "I") (List.mem_of_getElem? (i := 1) rfl)) (fun _ h9 => h9) rfl dX7_fault_1 ?_
  exact kl_i (v := ft) hQQ hx hb hr hlocks hS dX7_fault_4 (fun PZ9 kZ9 => kZ9 (⟨hP, hD⟩) (rfl))

set_option maxHeartbeats 40000000 in
set_option maxRecDepth 100000 in
theorem m_X7_bytes (l : Launch) (dC : Nat → ClassId) (dI : Nat → Nat → Nat) (cI cS : ClassId) (sz : Nat) (oP : Nat) (oC : Nat) (nB : Nat) (ft : Int32)  : kMr l yX7_bytes wsX7_bytes ({ frames := 0, cells := 0, slots := 0, locals := 0 } : Room) [.ref oP] sz (dC, dI) vwCl [(cI, .int), (cS, .short)] [(oP, .inr (7, [.ref oC, .ref nB, .int ft]))] (fun _ => True) 0 0 (fun (A : Nat → Prop) (ra : Nat) (hh9 : Heap) => ra = nB ∧ (∀ PZ9 : Prop, (kPD (dC, dI) vwCl A [(oP, .inr (7, [.ref oC, .ref nB, .int ft]))] hh9 → PZ9) → PZ9)) := by
  refine kMr_of (cc := cX7_bytes) (maxL := 1) (ret := (some (.object "TextMender$Numbers"))) (lv := [(0, .ref oP)]) (by decide +kernel) rfl rfl (Nat.le_of_ble_eq_true rfl) ?_
  intro p e s m below meth c A QQ ls hx hb hr hts hml hown hlocks hA hQQ hK hX hP hD hS hl
  have hown : s.vm.findClass RX7 = some m.cls := hown
  have hcf := k_cf hx hb hml hown hts
  have in_X7 : ∀ w ∈ wsX70, w ∈ wsX7_bytes := fun _ h => List.mem_cons_of_mem _ (List.mem_append_right _ (h))
  refine lv_aload_n hx hb dX7_bytes_0 rfl (lv_at hl 0 rfl) ?_
  refine va_get (D := (dC, dI)) (ci := 7) (v := .ref nB) (C := RX7) (T := TX7) (N := 3) hx hb hts in_X7 hown hK hP 0 rfl rfl 1 (Nat.le_of_ble_eq_true rfl) (hts (.fieldLink RX7 14 "TextMender$Passage" "bytes" "LTextMender$Numbers;") (List.mem_of_getElem? (i := 1) rfl)) (fun _ h9 => h9) rfl dX7_bytes_1 ?_
  exact kl_r hQQ hx hb hr (Or.inl ⟨_, rfl⟩) hlocks hS dX7_bytes_4 ⟨rfl, fun PZ9 kZ9 => kZ9 (⟨hP, hD⟩)⟩

end

/-! 28.a.rows -/
section
set_option maxRecDepth 100000 in
theorem dA18_cX4_length : kDec cX4_length [(0, .aload_n 0, 1), (1, .getfield 22, 3), (4, .ireturn, 1)] = true := by decide +kernel
theorem dX4_length_0 : decode cX4_length 0 = .ok (.aload_n 0, 1) := kDec_at dA18_cX4_length 0 rfl
theorem dX4_length_1 : decode cX4_length 1 = .ok (.getfield 22, 3) := kDec_at dA18_cX4_length 1 rfl
theorem dX4_length_4 : decode cX4_length 4 = .ok (.ireturn, 1) := kDec_at dA18_cX4_length 2 rfl
set_option maxRecDepth 100000 in
theorem dA19_cX4_empty : kDec cX4_empty [(0, .aload_n 0, 1), (1, .iconst 0, 1), (2, .putfield 22, 3), (5, .return_, 1)] = true := by decide +kernel
theorem dX4_empty_0 : decode cX4_empty 0 = .ok (.aload_n 0, 1) := kDec_at dA19_cX4_empty 0 rfl
theorem dX4_empty_1 : decode cX4_empty 1 = .ok (.iconst 0, 1) := kDec_at dA19_cX4_empty 1 rfl
theorem dX4_empty_2 : decode cX4_empty 2 = .ok (.putfield 22, 3) := kDec_at dA19_cX4_empty 2 rfl
theorem dX4_empty_5 : decode cX4_empty 5 = .ok (.return_, 1) := kDec_at dA19_cX4_empty 3 rfl
set_option maxRecDepth 100000 in
theorem dA20_cX3_length : kDec cX3_length [(0, .aload_n 0, 1), (1, .getfield 24, 3), (4, .ireturn, 1)] = true := by decide +kernel
theorem dX3_length_0 : decode cX3_length 0 = .ok (.aload_n 0, 1) := kDec_at dA20_cX3_length 0 rfl
theorem dX3_length_1 : decode cX3_length 1 = .ok (.getfield 24, 3) := kDec_at dA20_cX3_length 1 rfl
theorem dX3_length_4 : decode cX3_length 4 = .ok (.ireturn, 1) := kDec_at dA20_cX3_length 2 rfl
set_option maxRecDepth 100000 in
theorem dA21_cX0_length : kDec cX0_length [(0, .aload_n 0, 1), (1, .getfield 22, 3), (4, .ireturn, 1)] = true := by decide +kernel
theorem dX0_length_0 : decode cX0_length 0 = .ok (.aload_n 0, 1) := kDec_at dA21_cX0_length 0 rfl
theorem dX0_length_1 : decode cX0_length 1 = .ok (.getfield 22, 3) := kDec_at dA21_cX0_length 1 rfl
theorem dX0_length_4 : decode cX0_length 4 = .ok (.ireturn, 1) := kDec_at dA21_cX0_length 2 rfl

end

/-! 28.books -/
section
set_option maxHeartbeats 40000000 in
set_option maxRecDepth 100000 in
theorem m_X4_length (l : Launch) (dC : Nat → ClassId) (dI : Nat → Nat → Nat) (cI cS : ClassId) (sz : Nat) (oH : Nat) (oP : Nat) (h1 : Nat) (h2 : Nat) (lH : Int32) (g_lH : 0 ≤ lH.toInt ∧ lH.toInt ≤ 6) : kMi l yX4_length wsX4_length ({ frames := 0, cells := 0, slots := 0, locals := 0 } : Room) [.ref oH] sz (dC, dI) vwCl [(cI, .int), (cS, .short)] [(oH, .inr (4, [.ref oP, .ref h1, .ref h2, .int lH]))] (fun _ => True) 0 0 (fun (A : Nat → Prop) (r : Int32) (hh9 : Heap) => ∀ PZ9 : Prop, (kPD (dC, dI) vwCl A [(oH, .inr (4, [.ref oP, .ref h1, .ref h2, .int lH]))] hh9 → (r = lH) → PZ9) → PZ9) := by
  refine kMi_of (cc := cX4_length) (maxL := 1) (ret := (some .int)) (lv := [(0, .ref oH)]) (by decide +kernel) rfl rfl (Nat.le_of_ble_eq_true rfl) ?_
  intro p e s m below meth c A QQ ls hx hb hr hts hml hown hlocks hA hQQ hK hX hP hD hS hl
  have hown : s.vm.findClass RX4 = some m.cls := hown
  have hcf := k_cf hx hb hml hown hts
  have in_X4 : ∀ w ∈ wsX40, w ∈ wsX4_length := fun _ h => List.mem_cons_of_mem _ (List.mem_append_right _ (h))
  replace g_lH := hid g_lH
  refine lv_aload_n hx hb dX4_length_0 rfl (lv_at hl 0 rfl) ?_
  refine va_get (D := (dC, dI)) (ci := 4) (v := .int lH) (C := RX4) (T := TX4) (N := 4) hx hb hts in_X4 hown hK hP 0 rfl rfl 3 (Nat.le_of_ble_eq_true rfl) (hts (.fieldLink RX4 22 "TextMender$Harms" "length" "I") (List.mem_of_getElem? (i := 1) rfl)) (fun _ h9 => h9) rfl dX4_length_1 ?_
  exact kl_i (v := lH) hQQ hx hb hr hlocks hS dX4_length_4 (fun PZ9 kZ9 => kZ9 (⟨hP, hD⟩) (rfl))

set_option maxHeartbeats 40000000 in
set_option maxRecDepth 100000 in
theorem m_X4_empty (l : Launch) (dC : Nat → ClassId) (dI : Nat → Nat → Nat) (cI cS : ClassId) (sz : Nat) (oH : Nat) (oP : Nat) (h1 : Nat) (h2 : Nat) (lH : Int32) (g_lH : 0 ≤ lH.toInt ∧ lH.toInt ≤ 6) : kMv l yX4_empty wsX4_empty ({ frames := 0, cells := 0, slots := 0, locals := 0 } : Room) [.ref oH] sz (dC, dI) vwCl [(cI, .int), (cS, .short)] [(oH, .inr (4, [.ref oP, .ref h1, .ref h2, .int lH]))] (fun _ => True) 0 0 (fun (A : Nat → Prop) (hh9 : Heap) => ∀ PZ9 : Prop, (∀ (lH' : Int32), kPD (dC, dI) vwCl A [(oH, .inr (4, [.ref oP, .ref h1, .ref h2, .int lH']))] hh9 → (0 ≤ lH'.toInt ∧ lH'.toInt ≤ 6) → (lH' = 0) → PZ9) → PZ9) := by
  refine kMv_of (cc := cX4_empty) (maxL := 1) (ret := none) (lv := [(0, .ref oH)]) (by decide +kernel) rfl rfl (Nat.le_of_ble_eq_true rfl) ?_
  intro p e s m below meth c A QQ ls hx hb hr hts hml hown hlocks hA hQQ hK hX hP hD hS hl
  have hown : s.vm.findClass RX4 = some m.cls := hown
  have hcf := k_cf hx hb hml hown hts
  have in_X4 : ∀ w ∈ wsX40, w ∈ wsX4_empty := fun _ h => List.mem_cons_of_mem _ (List.mem_append_right _ (h))
  replace g_lH := hid g_lH
  refine lv_aload_n hx hb dX4_empty_0 rfl (lv_at hl 0 rfl) ?_
  refine lv_iconst (v := 0) hx hb dX4_empty_1 (by decide) ?_
  refine va_put (D := (dC, dI)) (ci := 4) (v := .int 0) (ty := .int) (C := RX4) (T := TX4) (N := 4) hx hb hts in_X4 tyX4 tyX4_ok nmX4 hown hK hP hD hS 0 rfl rfl 3 (Nat.le_of_ble_eq_true rfl) (hts (.fieldLink RX4 22 "TextMender$Harms" "length" "I") (List.mem_of_getElem? (i := 1) rfl)) (fun _ h9 => h9) rfl (tyX4_ok 3 (Nat.le_of_ble_eq_true rfl)) rfl rfl (Nat.le_of_ble_eq_true rfl) dX4_empty_2 (kW (wn := [(oH, .inr (4, [.ref oP, .ref h1, .ref h2, .int 0]))]) rfl (fun H locs hPn hDn hSn => ?_))
  clear hP hD hS
  have hP := hPn
  have hD := hDn
  have hS := hSn
  clear hPn hDn hSn
  exact kl_v hQQ hx hb hr hlocks hS dX4_empty_5 (fun PZ9 kZ9 => kZ9 0 (⟨hP, hD⟩) (by decide) (rfl))

set_option maxHeartbeats 40000000 in
set_option maxRecDepth 100000 in
theorem m_X3_length (l : Launch) (dC : Nat → ClassId) (dI : Nat → Nat → Nat) (cI cS : ClassId) (sz : Nat) (oK : Nat) (k1 : Nat) (k2 : Nat) (lK : Int32) (g_lK : 0 ≤ lK.toInt ∧ lK.toInt ≤ 300) : kMi l yX3_length wsX3_length ({ frames := 0, cells := 0, slots := 0, locals := 0 } : Room) [.ref oK] sz (dC, dI) vwCl [(cI, .int), (cS, .short)] [(oK, .inr (3, [.ref k1, .ref k2, .int lK]))] (fun _ => True) 0 0 (fun (A : Nat → Prop) (r : Int32) (hh9 : Heap) => ∀ PZ9 : Prop, (kPD (dC, dI) vwCl A [(oK, .inr (3, [.ref k1, .ref k2, .int lK]))] hh9 → (r = lK) → PZ9) → PZ9) := by
  refine kMi_of (cc := cX3_length) (maxL := 1) (ret := (some .int)) (lv := [(0, .ref oK)]) (by decide +kernel) rfl rfl (Nat.le_of_ble_eq_true rfl) ?_
  intro p e s m below meth c A QQ ls hx hb hr hts hml hown hlocks hA hQQ hK hX hP hD hS hl
  have hown : s.vm.findClass RX3 = some m.cls := hown
  have hcf := k_cf hx hb hml hown hts
  have in_X3 : ∀ w ∈ wsX30, w ∈ wsX3_length := fun _ h => List.mem_cons_of_mem _ (List.mem_append_right _ (h))
  replace g_lK := hid g_lK
  refine lv_aload_n hx hb dX3_length_0 rfl (lv_at hl 0 rfl) ?_
  refine va_get (D := (dC, dI)) (ci := 3) (v := .int lK) (C := RX3) (T := TX3) (N := 3) hx hb hts in_X3 hown hK hP 0 rfl rfl 2 (Nat.le_of_ble_eq_true rfl) (hts (.fieldLink RX3 24 "TextMender$Costs" "length" "I") (List.mem_of_getElem? (i := 1) rfl)) (fun _ h9 => h9) rfl dX3_length_1 ?_
  exact kl_i (v := lK) hQQ hx hb hr hlocks hS dX3_length_4 (fun PZ9 kZ9 => kZ9 (⟨hP, hD⟩) (rfl))

set_option maxHeartbeats 40000000 in
set_option maxRecDepth 100000 in
theorem m_X0_length (l : Launch) (dC : Nat → ClassId) (dI : Nat → Nat → Nat) (cI cS : ClassId) (sz : Nat) (oG : Nat) (g1 : Nat) (g2 : Nat) (gn : Int32) (lG : Int32) (g_gn : 0 ≤ gn.toInt ∧ gn.toInt ≤ 19) (g_lG : 0 ≤ lG.toInt ∧ lG.toInt ≤ 20) : kMi l yX0_length wsX0_length ({ frames := 0, cells := 0, slots := 0, locals := 0 } : Room) [.ref oG] sz (dC, dI) vwCl [(cI, .int), (cS, .short)] [(oG, .inr (0, [.ref g1, .ref g2, .int gn, .int lG]))] (fun _ => True) 0 0 (fun (A : Nat → Prop) (r : Int32) (hh9 : Heap) => ∀ PZ9 : Prop, (kPD (dC, dI) vwCl A [(oG, .inr (0, [.ref g1, .ref g2, .int gn, .int lG]))] hh9 → (r = lG) → PZ9) → PZ9) := by
  refine kMi_of (cc := cX0_length) (maxL := 1) (ret := (some .int)) (lv := [(0, .ref oG)]) (by decide +kernel) rfl rfl (Nat.le_of_ble_eq_true rfl) ?_
  intro p e s m below meth c A QQ ls hx hb hr hts hml hown hlocks hA hQQ hK hX hP hD hS hl
  have hown : s.vm.findClass RX0 = some m.cls := hown
  have hcf := k_cf hx hb hml hown hts
  have in_X0 : ∀ w ∈ wsX00, w ∈ wsX0_length := fun _ h => List.mem_cons_of_mem _ (List.mem_append_right _ (h))
  replace g_gn := hid g_gn
  replace g_lG := hid g_lG
  refine lv_aload_n hx hb dX0_length_0 rfl (lv_at hl 0 rfl) ?_
  refine va_get (D := (dC, dI)) (ci := 0) (v := .int lG) (C := RX0) (T := TX0) (N := 4) hx hb hts in_X0 hown hK hP 0 rfl rfl 3 (Nat.le_of_ble_eq_true rfl) (hts (.fieldLink RX0 22 "TextMender$Changes" "length" "I") (List.mem_of_getElem? (i := 1) rfl)) (fun _ h9 => h9) rfl dX0_length_1 ?_
  exact kl_i (v := lG) hQQ hx hb hr hlocks hS dX0_length_4 (fun PZ9 kZ9 => kZ9 (⟨hP, hD⟩) (rfl))

end

/-! 30.a.rows -/
section
set_option maxRecDepth 100000 in
theorem dA22_cX9_told : kDec cX9_told [(0, .iload_n 1, 1), (1, .ifCond .lt 11, 3), (12, .iconst (-1), 1), (13, .ireturn, 1), (4, .iload_n 1, 1), (5, .aload_n 0, 1), (6, .getfield 59, 3), (9, .if_icmp .lt 5, 3), (14, .iload_n 1, 1), (15, .iconst 3, 1), (16, .imul, 1), (17, .istore_n 3, 1), (18, .iload_n 2, 1), (19, .tableswitch 110 0 5 #[37, 71, 78, 87, 96, 103], 37), (56, .aload_n 0, 1), (57, .getfield 42, 3), (60, .iload_n 3, 1), (61, .iconst 1, 1), (62, .iadd, 1), (63, .iaload, 1), (64, .iconst (-1), 1), (65, .if_icmp .ne 7, 3), (72, .aload_n 0, 1), (73, .getfield 42, 3)] = true := by decide +kernel
theorem dX9_told_0 : decode cX9_told 0 = .ok (.iload_n 1, 1) := kDec_at dA22_cX9_told 0 rfl
theorem dX9_told_1 : decode cX9_told 1 = .ok (.ifCond .lt 11, 3) := kDec_at dA22_cX9_told 1 rfl
theorem dX9_told_12 : decode cX9_told 12 = .ok (.iconst (-1), 1) := kDec_at dA22_cX9_told 2 rfl
theorem dX9_told_13 : decode cX9_told 13 = .ok (.ireturn, 1) := kDec_at dA22_cX9_told 3 rfl
theorem dX9_told_4 : decode cX9_told 4 = .ok (.iload_n 1, 1) := kDec_at dA22_cX9_told 4 rfl
theorem dX9_told_5 : decode cX9_told 5 = .ok (.aload_n 0, 1) := kDec_at dA22_cX9_told 5 rfl
theorem dX9_told_6 : decode cX9_told 6 = .ok (.getfield 59, 3) := kDec_at dA22_cX9_told 6 rfl
theorem dX9_told_9 : decode cX9_told 9 = .ok (.if_icmp .lt 5, 3) := kDec_at dA22_cX9_told 7 rfl
theorem dX9_told_14 : decode cX9_told 14 = .ok (.iload_n 1, 1) := kDec_at dA22_cX9_told 8 rfl
theorem dX9_told_15 : decode cX9_told 15 = .ok (.iconst 3, 1) := kDec_at dA22_cX9_told 9 rfl
theorem dX9_told_16 : decode cX9_told 16 = .ok (.imul, 1) := kDec_at dA22_cX9_told 10 rfl
theorem dX9_told_17 : decode cX9_told 17 = .ok (.istore_n 3, 1) := kDec_at dA22_cX9_told 11 rfl
theorem dX9_told_18 : decode cX9_told 18 = .ok (.iload_n 2, 1) := kDec_at dA22_cX9_told 12 rfl
theorem dX9_told_19 : decode cX9_told 19 = .ok (.tableswitch 110 0 5 #[37, 71, 78, 87, 96, 103], 37) := kDec_at dA22_cX9_told 13 rfl
theorem dX9_told_56 : decode cX9_told 56 = .ok (.aload_n 0, 1) := kDec_at dA22_cX9_told 14 rfl
theorem dX9_told_57 : decode cX9_told 57 = .ok (.getfield 42, 3) := kDec_at dA22_cX9_told 15 rfl
theorem dX9_told_60 : decode cX9_told 60 = .ok (.iload_n 3, 1) := kDec_at dA22_cX9_told 16 rfl
theorem dX9_told_61 : decode cX9_told 61 = .ok (.iconst 1, 1) := kDec_at dA22_cX9_told 17 rfl
theorem dX9_told_62 : decode cX9_told 62 = .ok (.iadd, 1) := kDec_at dA22_cX9_told 18 rfl
theorem dX9_told_63 : decode cX9_told 63 = .ok (.iaload, 1) := kDec_at dA22_cX9_told 19 rfl
theorem dX9_told_64 : decode cX9_told 64 = .ok (.iconst (-1), 1) := kDec_at dA22_cX9_told 20 rfl
theorem dX9_told_65 : decode cX9_told 65 = .ok (.if_icmp .ne 7, 3) := kDec_at dA22_cX9_told 21 rfl
theorem dX9_told_72 : decode cX9_told 72 = .ok (.aload_n 0, 1) := kDec_at dA22_cX9_told 22 rfl
theorem dX9_told_73 : decode cX9_told 73 = .ok (.getfield 42, 3) := kDec_at dA22_cX9_told 23 rfl
set_option maxRecDepth 100000 in
theorem dA23_cX9_told : kDec cX9_told [(76, .iload_n 3, 1), (77, .iconst 2, 1), (78, .iadd, 1), (79, .iaload, 1), (80, .iconst (-1), 1), (81, .if_icmp .ne 7, 3), (88, .iconst 3, 1), (89, .ireturn, 1), (84, .iconst 2, 1), (85, .goto 4, 3), (68, .iconst 1, 1), (69, .goto 20, 3), (90, .aload_n 0, 1), (91, .getfield 42, 3), (94, .iload_n 3, 1), (95, .iaload, 1), (96, .ireturn, 1), (97, .aload_n 0, 1), (98, .getfield 42, 3), (101, .iload_n 3, 1), (102, .iconst 1, 1), (103, .iadd, 1), (104, .iaload, 1), (105, .ireturn, 1)] = true := by decide +kernel
theorem dX9_told_76 : decode cX9_told 76 = .ok (.iload_n 3, 1) := kDec_at dA23_cX9_told 0 rfl
theorem dX9_told_77 : decode cX9_told 77 = .ok (.iconst 2, 1) := kDec_at dA23_cX9_told 1 rfl
theorem dX9_told_78 : decode cX9_told 78 = .ok (.iadd, 1) := kDec_at dA23_cX9_told 2 rfl
theorem dX9_told_79 : decode cX9_told 79 = .ok (.iaload, 1) := kDec_at dA23_cX9_told 3 rfl
theorem dX9_told_80 : decode cX9_told 80 = .ok (.iconst (-1), 1) := kDec_at dA23_cX9_told 4 rfl
theorem dX9_told_81 : decode cX9_told 81 = .ok (.if_icmp .ne 7, 3) := kDec_at dA23_cX9_told 5 rfl
theorem dX9_told_88 : decode cX9_told 88 = .ok (.iconst 3, 1) := kDec_at dA23_cX9_told 6 rfl
theorem dX9_told_89 : decode cX9_told 89 = .ok (.ireturn, 1) := kDec_at dA23_cX9_told 7 rfl
theorem dX9_told_84 : decode cX9_told 84 = .ok (.iconst 2, 1) := kDec_at dA23_cX9_told 8 rfl
theorem dX9_told_85 : decode cX9_told 85 = .ok (.goto 4, 3) := kDec_at dA23_cX9_told 9 rfl
theorem dX9_told_68 : decode cX9_told 68 = .ok (.iconst 1, 1) := kDec_at dA23_cX9_told 10 rfl
theorem dX9_told_69 : decode cX9_told 69 = .ok (.goto 20, 3) := kDec_at dA23_cX9_told 11 rfl
theorem dX9_told_90 : decode cX9_told 90 = .ok (.aload_n 0, 1) := kDec_at dA23_cX9_told 12 rfl
theorem dX9_told_91 : decode cX9_told 91 = .ok (.getfield 42, 3) := kDec_at dA23_cX9_told 13 rfl
theorem dX9_told_94 : decode cX9_told 94 = .ok (.iload_n 3, 1) := kDec_at dA23_cX9_told 14 rfl
theorem dX9_told_95 : decode cX9_told 95 = .ok (.iaload, 1) := kDec_at dA23_cX9_told 15 rfl
theorem dX9_told_96 : decode cX9_told 96 = .ok (.ireturn, 1) := kDec_at dA23_cX9_told 16 rfl
theorem dX9_told_97 : decode cX9_told 97 = .ok (.aload_n 0, 1) := kDec_at dA23_cX9_told 17 rfl
theorem dX9_told_98 : decode cX9_told 98 = .ok (.getfield 42, 3) := kDec_at dA23_cX9_told 18 rfl
theorem dX9_told_101 : decode cX9_told 101 = .ok (.iload_n 3, 1) := kDec_at dA23_cX9_told 19 rfl
theorem dX9_told_102 : decode cX9_told 102 = .ok (.iconst 1, 1) := kDec_at dA23_cX9_told 20 rfl
theorem dX9_told_103 : decode cX9_told 103 = .ok (.iadd, 1) := kDec_at dA23_cX9_told 21 rfl
theorem dX9_told_104 : decode cX9_told 104 = .ok (.iaload, 1) := kDec_at dA23_cX9_told 22 rfl
theorem dX9_told_105 : decode cX9_told 105 = .ok (.ireturn, 1) := kDec_at dA23_cX9_told 23 rfl
set_option maxRecDepth 100000 in
theorem dA24_cX9_told : kDec cX9_told [(106, .aload_n 0, 1), (107, .getfield 42, 3), (110, .iload_n 3, 1), (111, .iconst 2, 1), (112, .iadd, 1), (113, .iaload, 1), (114, .ireturn, 1), (115, .aload_n 0, 1), (116, .getfield 36, 3), (119, .iload_n 1, 1), (120, .iaload, 1), (121, .ireturn, 1), (122, .aload_n 0, 1), (123, .getfield 39, 3), (126, .iload_n 1, 1), (127, .iaload, 1), (128, .ireturn, 1), (129, .iconst (-1), 1), (130, .ireturn, 1)] = true := by decide +kernel
theorem dX9_told_106 : decode cX9_told 106 = .ok (.aload_n 0, 1) := kDec_at dA24_cX9_told 0 rfl
theorem dX9_told_107 : decode cX9_told 107 = .ok (.getfield 42, 3) := kDec_at dA24_cX9_told 1 rfl
theorem dX9_told_110 : decode cX9_told 110 = .ok (.iload_n 3, 1) := kDec_at dA24_cX9_told 2 rfl
theorem dX9_told_111 : decode cX9_told 111 = .ok (.iconst 2, 1) := kDec_at dA24_cX9_told 3 rfl
theorem dX9_told_112 : decode cX9_told 112 = .ok (.iadd, 1) := kDec_at dA24_cX9_told 4 rfl
theorem dX9_told_113 : decode cX9_told 113 = .ok (.iaload, 1) := kDec_at dA24_cX9_told 5 rfl
theorem dX9_told_114 : decode cX9_told 114 = .ok (.ireturn, 1) := kDec_at dA24_cX9_told 6 rfl
theorem dX9_told_115 : decode cX9_told 115 = .ok (.aload_n 0, 1) := kDec_at dA24_cX9_told 7 rfl
theorem dX9_told_116 : decode cX9_told 116 = .ok (.getfield 36, 3) := kDec_at dA24_cX9_told 8 rfl
theorem dX9_told_119 : decode cX9_told 119 = .ok (.iload_n 1, 1) := kDec_at dA24_cX9_told 9 rfl
theorem dX9_told_120 : decode cX9_told 120 = .ok (.iaload, 1) := kDec_at dA24_cX9_told 10 rfl
theorem dX9_told_121 : decode cX9_told 121 = .ok (.ireturn, 1) := kDec_at dA24_cX9_told 11 rfl
theorem dX9_told_122 : decode cX9_told 122 = .ok (.aload_n 0, 1) := kDec_at dA24_cX9_told 12 rfl
theorem dX9_told_123 : decode cX9_told 123 = .ok (.getfield 39, 3) := kDec_at dA24_cX9_told 13 rfl
theorem dX9_told_126 : decode cX9_told 126 = .ok (.iload_n 1, 1) := kDec_at dA24_cX9_told 14 rfl
theorem dX9_told_127 : decode cX9_told 127 = .ok (.iaload, 1) := kDec_at dA24_cX9_told 15 rfl
theorem dX9_told_128 : decode cX9_told 128 = .ok (.ireturn, 1) := kDec_at dA24_cX9_told 16 rfl
theorem dX9_told_129 : decode cX9_told 129 = .ok (.iconst (-1), 1) := kDec_at dA24_cX9_told 17 rfl
theorem dX9_told_130 : decode cX9_told 130 = .ok (.ireturn, 1) := kDec_at dA24_cX9_told 18 rfl

end

/-! 30.rows -/
section
set_option maxHeartbeats 40000000 in
set_option maxRecDepth 100000 in
theorem m_X9_told (l : Launch) (dC : Nat → ClassId) (dI : Nat → Nat → Nat) (cI cS : ClassId) (sz : Nat) (oR : Nat) (oH : Nat) (oK : Nat) (n1 : Nat) (n2 : Nat) (n3 : Nat) (r1 : Nat) (r2 : Nat) (r3 : Nat) (r4 : Nat) (r5 : Nat) (r6 : Nat) (lR : Int32) (fR4 : Nat → Int32) (fR5 : Nat → Int32) (fR6 : Nat → Int32) (i : Int32) (wh : Int32) (g_lR : 0 ≤ lR.toInt ∧ lR.toInt ≤ 258) : kMi l yX9_told wsX9_told ({ frames := 0, cells := 0, slots := 0, locals := 0 } : Room) [.ref oR, .int i, .int wh] sz (dC, dI) vwCl [(cI, .int), (cS, .short)] [(oR, .inr (9, [.ref oH, .ref oK, .ref n1, .ref n2, .ref n3, .ref r1, .ref r2, .ref r3, .ref r4, .ref r5, .ref r6, .int lR])), (r4, .inl (cI, 258, .inl fR4)), (r5, .inl (cI, 258, .inl fR5)), (r6, .inl (cI, 774, .inl fR6))] (fun _ => True) 0 0 (fun (A : Nat → Prop) (r : Int32) (hh9 : Heap) => ∀ PZ9 : Prop, (kPD (dC, dI) vwCl A [(oR, .inr (9, [.ref oH, .ref oK, .ref n1, .ref n2, .ref n3, .ref r1, .ref r2, .ref r3, .ref r4, .ref r5, .ref r6, .int lR])), (r4, .inl (cI, 258, .inl fR4)), (r5, .inl (cI, 258, .inl fR5)), (r6, .inl (cI, 774, .inl fR6))] hh9 → PZ9) → PZ9) := by
  refine kMi_of (cc := cX9_told) (maxL := 4) (ret := (some .int)) (lv := [(0, .ref oR), (1, .int i), (2, .int wh)]) (by decide +kernel) rfl rfl (Nat.le_of_ble_eq_true rfl) ?_
  intro p e s m below meth c A QQ ls hx hb hr hts hml hown hlocks hA hQQ hK hX hP hD hS hl
  have hown : s.vm.findClass RX9 = some m.cls := hown
  have hcf := k_cf hx hb hml hown hts
  have in_X9 : ∀ w ∈ wsX90, w ∈ wsX9_told := fun _ h => List.mem_cons_of_mem _ (List.mem_append_right _ (h))
  refine lv_iload_n hx hb dX9_told_0 rfl (lv_at hl 1 rfl) ?_
  refine lv_if_lt (tgt := 12) hx hb dX9_told_1 (by decide) (fun c_1 => ?_) (fun c_1 => ?_)
  · have tc_1 : i.toInt < 0 := v_lt c_1
    refine lv_iconst (v := (-1)) hx hb dX9_told_12 (by decide) ?_
    exact kl_i (v := (-1)) hQQ hx hb hr hlocks hS dX9_told_13 (fun PZ9 kZ9 => kZ9 (⟨hP, hD⟩))
  · have tc_1 : 0 ≤ i.toInt := v_nlt c_1
    refine lv_iload_n hx hb dX9_told_4 rfl (lv_at hl 1 rfl) ?_
    refine lv_aload_n hx hb dX9_told_5 rfl (lv_at hl 0 rfl) ?_
    refine va_get (D := (dC, dI)) (ci := 9) (v := .int lR) (C := RX9) (T := TX9) (N := 12) hx hb hts in_X9 hown hK hP 0 rfl rfl 11 (Nat.le_of_ble_eq_true rfl) (hts (.fieldLink RX9 59 "TextMender$Rows" "told" "I") (List.mem_of_getElem? (i := 1) rfl)) (fun _ h9 => h9) rfl dX9_told_6 ?_
    refine lv_icmp_lt (tgt := 14) hx hb dX9_told_9 (by decide) (fun c_2 => ?_) (fun c_2 => ?_)
    · have tc_2 : i.toInt < lR.toInt := v_lt c_2
      have rw2_0 := v_rng i
      refine lv_iload_n hx hb dX9_told_14 rfl (lv_at hl 1 rfl) ?_
      refine lv_iconst (v := 3) hx hb dX9_told_15 (by decide) ?_
      refine lv_imul hx hb dX9_told_16 ?_
      refine lv_topi (fun x_3 ex_3 => ?_)
      have tx_3 : x_3.toInt = i.toInt * 3 := v_mul ex_3 (by show -2147483648 ≤ i.toInt * 3; omega) (by show i.toInt * 3 < 2147483648; omega)
      refine lv_istore_n (lv' := [(3, .int x_3), (0, .ref oR), (1, .int i), (2, .int wh)]) hx hb dX9_told_17 rfl hl (by decide) rfl (fun ls hl => ?_)
      refine lv_iload_n hx hb dX9_told_18 rfl (lv_at hl 3 rfl) ?_
      by_cases c_4 : wh = 0
      · refine lv_tableIn (tgt := 56) hx hb dX9_told_19 (by rw [c_4]; decide) (by rw [c_4]; decide) (by rw [c_4]; rfl) (by decide) ?_
        have tc_4 : wh.toInt = 0 := v_eq c_4
        refine lv_aload_n hx hb dX9_told_56 rfl (lv_at hl 1 rfl) ?_
        refine va_get (D := (dC, dI)) (ci := 9) (v := .ref r6) (C := RX9) (T := TX9) (N := 12) hx hb hts in_X9 hown hK hP 0 rfl rfl 10 (Nat.le_of_ble_eq_true rfl) (hts (.fieldLink RX9 42 "TextMender$Rows" "toldHarms" "[I") (List.mem_of_getElem? (i := 2) rfl)) (fun _ h9 => h9) rfl dX9_told_57 ?_
        refine lv_iload_n hx hb dX9_told_60 rfl (lv_at hl 0 rfl) ?_
        refine lv_iconst (v := 1) hx hb dX9_told_61 (by decide) ?_
        refine lv_iadd hx hb dX9_told_62 ?_
        refine lv_topi (fun x_5 ex_5 => ?_)
        have tx_5 : x_5.toInt = x_3.toInt + 1 := v_add ex_5 (by show -2147483648 ≤ x_3.toInt + 1; omega) (by show x_3.toInt + 1 < 2147483648; omega)
        refine va_iald hx hb hK hP 3 0 rfl rfl (v_in (by omega)) dX9_told_63 ?_
        refine lv_topi (fun x_6 ex_6 => ?_)
        refine lv_iconst (v := (-1)) hx hb dX9_told_64 (by decide) ?_
        refine lv_icmp_ne (tgt := 72) hx hb dX9_told_65 (by decide) (fun c_7 => ?_) (fun c_7 => ?_)
        · have tc_7 : ¬ x_6.toInt = (-1) := v_ne c_7
          refine lv_aload_n hx hb dX9_told_72 rfl (lv_at hl 1 rfl) ?_
          refine va_get (D := (dC, dI)) (ci := 9) (v := .ref r6) (C := RX9) (T := TX9) (N := 12) hx hb hts in_X9 hown hK hP 0 rfl rfl 10 (Nat.le_of_ble_eq_true rfl) (hts (.fieldLink RX9 42 "TextMender$Rows" "toldHarms" "[I") (List.mem_of_getElem? (i := 2) rfl)) (fun _ h9 => h9) rfl dX9_told_73 ?_
          refine lv_iload_n hx hb dX9_told_76 rfl (lv_at hl 0 rfl) ?_
          refine lv_iconst (v := 2) hx hb dX9_told_77 (by decide) ?_
          refine lv_iadd hx hb dX9_told_78 ?_
          refine lv_topi (fun x_8 ex_8 => ?_)
          have tx_8 : x_8.toInt = x_3.toInt + 2 := v_add ex_8 (by show -2147483648 ≤ x_3.toInt + 2; omega) (by show x_3.toInt + 2 < 2147483648; omega)
          refine va_iald hx hb hK hP 3 0 rfl rfl (v_in (by omega)) dX9_told_79 ?_
          refine lv_topi (fun x_9 ex_9 => ?_)
          refine lv_iconst (v := (-1)) hx hb dX9_told_80 (by decide) ?_
          refine lv_icmp_ne (tgt := 88) hx hb dX9_told_81 (by decide) (fun c_10 => ?_) (fun c_10 => ?_)
          · have tc_10 : ¬ x_9.toInt = (-1) := v_ne c_10
            refine lv_iconst (v := 3) hx hb dX9_told_88 (by decide) ?_
            exact kl_i (v := 3) hQQ hx hb hr hlocks hS dX9_told_89 (fun PZ9 kZ9 => kZ9 (⟨hP, hD⟩))
          · have tc_10 : x_9.toInt = (-1) := v_eq c_10
            refine lv_iconst (v := 2) hx hb dX9_told_84 (by decide) ?_
            refine lv_goto (tgt := 89) hx hb dX9_told_85 (by decide) ?_
            exact kl_i (v := 2) hQQ hx hb hr hlocks hS dX9_told_89 (fun PZ9 kZ9 => kZ9 (⟨hP, hD⟩))
        · have tc_7 : x_6.toInt = (-1) := v_eq c_7
          refine lv_iconst (v := 1) hx hb dX9_told_68 (by decide) ?_
          refine lv_goto (tgt := 89) hx hb dX9_told_69 (by decide) ?_
          exact kl_i (v := 1) hQQ hx hb hr hlocks hS dX9_told_89 (fun PZ9 kZ9 => kZ9 (⟨hP, hD⟩))
      · skip
        have tc_4 : ¬ wh.toInt = 0 := v_ne c_4
        by_cases c_11 : wh = 1
        · refine lv_tableIn (tgt := 90) hx hb dX9_told_19 (by rw [c_11]; decide) (by rw [c_11]; decide) (by rw [c_11]; rfl) (by decide) ?_
          have tc_11 : wh.toInt = 1 := v_eq c_11
          refine lv_aload_n hx hb dX9_told_90 rfl (lv_at hl 1 rfl) ?_
          refine va_get (D := (dC, dI)) (ci := 9) (v := .ref r6) (C := RX9) (T := TX9) (N := 12) hx hb hts in_X9 hown hK hP 0 rfl rfl 10 (Nat.le_of_ble_eq_true rfl) (hts (.fieldLink RX9 42 "TextMender$Rows" "toldHarms" "[I") (List.mem_of_getElem? (i := 2) rfl)) (fun _ h9 => h9) rfl dX9_told_91 ?_
          refine lv_iload_n hx hb dX9_told_94 rfl (lv_at hl 0 rfl) ?_
          refine va_iald hx hb hK hP 3 0 rfl rfl (v_in (by omega)) dX9_told_95 ?_
          refine lv_topi (fun x_12 ex_12 => ?_)
          exact kl_i (v := x_12) hQQ hx hb hr hlocks hS dX9_told_96 (fun PZ9 kZ9 => kZ9 (⟨hP, hD⟩))
        · skip
          have tc_11 : ¬ wh.toInt = 1 := v_ne c_11
          by_cases c_13 : wh = 2
          · refine lv_tableIn (tgt := 97) hx hb dX9_told_19 (by rw [c_13]; decide) (by rw [c_13]; decide) (by rw [c_13]; rfl) (by decide) ?_
            have tc_13 : wh.toInt = 2 := v_eq c_13
            refine lv_aload_n hx hb dX9_told_97 rfl (lv_at hl 1 rfl) ?_
            refine va_get (D := (dC, dI)) (ci := 9) (v := .ref r6) (C := RX9) (T := TX9) (N := 12) hx hb hts in_X9 hown hK hP 0 rfl rfl 10 (Nat.le_of_ble_eq_true rfl) (hts (.fieldLink RX9 42 "TextMender$Rows" "toldHarms" "[I") (List.mem_of_getElem? (i := 2) rfl)) (fun _ h9 => h9) rfl dX9_told_98 ?_
            refine lv_iload_n hx hb dX9_told_101 rfl (lv_at hl 0 rfl) ?_
            refine lv_iconst (v := 1) hx hb dX9_told_102 (by decide) ?_
            refine lv_iadd hx hb dX9_told_103 ?_
            refine lv_topi (fun x_14 ex_14 => ?_)
            have tx_14 : x_14.toInt = x_3.toInt + 1 := v_add ex_14 (by show -2147483648 ≤ x_3.toInt + 1; omega) (by show x_3.toInt + 1 < 2147483648; omega)
            refine va_iald hx hb hK hP 3 0 rfl rfl (v_in (by omega)) dX9_told_104 ?_
            refine lv_topi (fun x_15 ex_15 => ?_)
            exact kl_i (v := x_15) hQQ hx hb hr hlocks hS dX9_told_105 (fun PZ9 kZ9 => kZ9 (⟨hP, hD⟩))
          · skip
            have tc_13 : ¬ wh.toInt = 2 := v_ne c_13
            by_cases c_16 : wh = 3
            · refine lv_tableIn (tgt := 106) hx hb dX9_told_19 (by rw [c_16]; decide) (by rw [c_16]; decide) (by rw [c_16]; rfl) (by decide) ?_
              have tc_16 : wh.toInt = 3 := v_eq c_16
              refine lv_aload_n hx hb dX9_told_106 rfl (lv_at hl 1 rfl) ?_
              refine va_get (D := (dC, dI)) (ci := 9) (v := .ref r6) (C := RX9) (T := TX9) (N := 12) hx hb hts in_X9 hown hK hP 0 rfl rfl 10 (Nat.le_of_ble_eq_true rfl) (hts (.fieldLink RX9 42 "TextMender$Rows" "toldHarms" "[I") (List.mem_of_getElem? (i := 2) rfl)) (fun _ h9 => h9) rfl dX9_told_107 ?_
              refine lv_iload_n hx hb dX9_told_110 rfl (lv_at hl 0 rfl) ?_
              refine lv_iconst (v := 2) hx hb dX9_told_111 (by decide) ?_
              refine lv_iadd hx hb dX9_told_112 ?_
              refine lv_topi (fun x_17 ex_17 => ?_)
              have tx_17 : x_17.toInt = x_3.toInt + 2 := v_add ex_17 (by show -2147483648 ≤ x_3.toInt + 2; omega) (by show x_3.toInt + 2 < 2147483648; omega)
              refine va_iald hx hb hK hP 3 0 rfl rfl (v_in (by omega)) dX9_told_113 ?_
              refine lv_topi (fun x_18 ex_18 => ?_)
              exact kl_i (v := x_18) hQQ hx hb hr hlocks hS dX9_told_114 (fun PZ9 kZ9 => kZ9 (⟨hP, hD⟩))
            · skip
              have tc_16 : ¬ wh.toInt = 3 := v_ne c_16
              by_cases c_19 : wh = 4
              · refine lv_tableIn (tgt := 115) hx hb dX9_told_19 (by rw [c_19]; decide) (by rw [c_19]; decide) (by rw [c_19]; rfl) (by decide) ?_
                have tc_19 : wh.toInt = 4 := v_eq c_19
                refine lv_aload_n hx hb dX9_told_115 rfl (lv_at hl 1 rfl) ?_
                refine va_get (D := (dC, dI)) (ci := 9) (v := .ref r4) (C := RX9) (T := TX9) (N := 12) hx hb hts in_X9 hown hK hP 0 rfl rfl 8 (Nat.le_of_ble_eq_true rfl) (hts (.fieldLink RX9 36 "TextMender$Rows" "toldCost" "[I") (List.mem_of_getElem? (i := 3) rfl)) (fun _ h9 => h9) rfl dX9_told_116 ?_
                refine lv_iload_n hx hb dX9_told_119 rfl (lv_at hl 2 rfl) ?_
                refine va_iald hx hb hK hP 1 0 rfl rfl (v_in (by omega)) dX9_told_120 ?_
                refine lv_topi (fun x_20 ex_20 => ?_)
                exact kl_i (v := x_20) hQQ hx hb hr hlocks hS dX9_told_121 (fun PZ9 kZ9 => kZ9 (⟨hP, hD⟩))
              · skip
                have tc_19 : ¬ wh.toInt = 4 := v_ne c_19
                by_cases c_21 : wh = 5
                · refine lv_tableIn (tgt := 122) hx hb dX9_told_19 (by rw [c_21]; decide) (by rw [c_21]; decide) (by rw [c_21]; rfl) (by decide) ?_
                  have tc_21 : wh.toInt = 5 := v_eq c_21
                  refine lv_aload_n hx hb dX9_told_122 rfl (lv_at hl 1 rfl) ?_
                  refine va_get (D := (dC, dI)) (ci := 9) (v := .ref r5) (C := RX9) (T := TX9) (N := 12) hx hb hts in_X9 hown hK hP 0 rfl rfl 9 (Nat.le_of_ble_eq_true rfl) (hts (.fieldLink RX9 39 "TextMender$Rows" "toldLength" "[I") (List.mem_of_getElem? (i := 4) rfl)) (fun _ h9 => h9) rfl dX9_told_123 ?_
                  refine lv_iload_n hx hb dX9_told_126 rfl (lv_at hl 2 rfl) ?_
                  refine va_iald hx hb hK hP 2 0 rfl rfl (v_in (by omega)) dX9_told_127 ?_
                  refine lv_topi (fun x_22 ex_22 => ?_)
                  exact kl_i (v := x_22) hQQ hx hb hr hlocks hS dX9_told_128 (fun PZ9 kZ9 => kZ9 (⟨hP, hD⟩))
                · skip
                  have tc_21 : ¬ wh.toInt = 5 := v_ne c_21
                  refine lv_tableOut (tgt := 129) hx hb dX9_told_19 (by omega) (by decide) ?_
                  refine lv_iconst (v := (-1)) hx hb dX9_told_129 (by decide) ?_
                  exact kl_i (v := (-1)) hQQ hx hb hr hlocks hS dX9_told_130 (fun PZ9 kZ9 => kZ9 (⟨hP, hD⟩))
    · have tc_2 : lR.toInt ≤ i.toInt := v_nlt c_2
      have rw2_0 := v_rng i
      refine lv_iconst (v := (-1)) hx hb dX9_told_12 (by decide) ?_
      exact kl_i (v := (-1)) hQQ hx hb hr hlocks hS dX9_told_13 (fun PZ9 kZ9 => kZ9 (⟨hP, hD⟩))

end

/-! 32.a.rows -/
section
set_option maxRecDepth 100000 in
theorem dA25_cX8_reached : kDec cX8_reached [(0, .aload_n 0, 1), (1, .getfield 19, 3), (4, .ireturn, 1)] = true := by decide +kernel
theorem dX8_reached_0 : decode cX8_reached 0 = .ok (.aload_n 0, 1) := kDec_at dA25_cX8_reached 0 rfl
theorem dX8_reached_1 : decode cX8_reached 1 = .ok (.getfield 19, 3) := kDec_at dA25_cX8_reached 1 rfl
theorem dX8_reached_4 : decode cX8_reached 4 = .ok (.ireturn, 1) := kDec_at dA25_cX8_reached 2 rfl
set_option maxRecDepth 100000 in
theorem dA26_cX8_letters : kDec cX8_letters [(0, .aload_n 0, 1), (1, .getfield 29, 3), (4, .ireturn, 1)] = true := by decide +kernel
theorem dX8_letters_0 : decode cX8_letters 0 = .ok (.aload_n 0, 1) := kDec_at dA26_cX8_letters 0 rfl
theorem dX8_letters_1 : decode cX8_letters 1 = .ok (.getfield 29, 3) := kDec_at dA26_cX8_letters 1 rfl
theorem dX8_letters_4 : decode cX8_letters 4 = .ok (.ireturn, 1) := kDec_at dA26_cX8_letters 2 rfl

end

/-! 32.parting -/
section
set_option maxHeartbeats 40000000 in
set_option maxRecDepth 100000 in
theorem m_X8_reached (l : Launch) (dC : Nat → ClassId) (dI : Nat → Nat → Nat) (cI cS : ClassId) (sz : Nat) (oE : Nat) (oC : Nat) (oK : Nat) (reE : Int32) (laE : Int32) (suE : Int32) (leE : Int32)  : kMi l yX8_reached wsX8_reached ({ frames := 0, cells := 0, slots := 0, locals := 0 } : Room) [.ref oE] sz (dC, dI) vwCl [(cI, .int), (cS, .short)] [(oE, .inr (8, [.ref oC, .ref oK, .int reE, .int laE, .int suE, .int leE]))] (fun _ => True) 0 0 (fun (A : Nat → Prop) (r : Int32) (hh9 : Heap) => ∀ PZ9 : Prop, (kPD (dC, dI) vwCl A [(oE, .inr (8, [.ref oC, .ref oK, .int reE, .int laE, .int suE, .int leE]))] hh9 → (r = reE) → PZ9) → PZ9) := by
  refine kMi_of (cc := cX8_reached) (maxL := 1) (ret := (some .int)) (lv := [(0, .ref oE)]) (by decide +kernel) rfl rfl (Nat.le_of_ble_eq_true rfl) ?_
  intro p e s m below meth c A QQ ls hx hb hr hts hml hown hlocks hA hQQ hK hX hP hD hS hl
  have hown : s.vm.findClass RX8 = some m.cls := hown
  have hcf := k_cf hx hb hml hown hts
  have in_X8 : ∀ w ∈ wsX80, w ∈ wsX8_reached := fun _ h => List.mem_cons_of_mem _ (List.mem_append_right _ (h))
  refine lv_aload_n hx hb dX8_reached_0 rfl (lv_at hl 0 rfl) ?_
  refine va_get (D := (dC, dI)) (ci := 8) (v := .int reE) (C := RX8) (T := TX8) (N := 6) hx hb hts in_X8 hown hK hP 0 rfl rfl 2 (Nat.le_of_ble_eq_true rfl) (hts (.fieldLink RX8 19 "TextMender$Reading" "reached" "I") (List.mem_of_getElem? (i := 1) rfl)) (fun _ h9 => h9) rfl dX8_reached_1 ?_
  exact kl_i (v := reE) hQQ hx hb hr hlocks hS dX8_reached_4 (fun PZ9 kZ9 => kZ9 (⟨hP, hD⟩) (rfl))

set_option maxHeartbeats 40000000 in
set_option maxRecDepth 100000 in
theorem m_X8_letters (l : Launch) (dC : Nat → ClassId) (dI : Nat → Nat → Nat) (cI cS : ClassId) (sz : Nat) (oE : Nat) (oC : Nat) (oK : Nat) (reE : Int32) (laE : Int32) (suE : Int32) (leE : Int32)  : kMi l yX8_letters wsX8_letters ({ frames := 0, cells := 0, slots := 0, locals := 0 } : Room) [.ref oE] sz (dC, dI) vwCl [(cI, .int), (cS, .short)] [(oE, .inr (8, [.ref oC, .ref oK, .int reE, .int laE, .int suE, .int leE]))] (fun _ => True) 0 0 (fun (A : Nat → Prop) (r : Int32) (hh9 : Heap) => ∀ PZ9 : Prop, (kPD (dC, dI) vwCl A [(oE, .inr (8, [.ref oC, .ref oK, .int reE, .int laE, .int suE, .int leE]))] hh9 → (r = leE) → PZ9) → PZ9) := by
  refine kMi_of (cc := cX8_letters) (maxL := 1) (ret := (some .int)) (lv := [(0, .ref oE)]) (by decide +kernel) rfl rfl (Nat.le_of_ble_eq_true rfl) ?_
  intro p e s m below meth c A QQ ls hx hb hr hts hml hown hlocks hA hQQ hK hX hP hD hS hl
  have hown : s.vm.findClass RX8 = some m.cls := hown
  have hcf := k_cf hx hb hml hown hts
  have in_X8 : ∀ w ∈ wsX80, w ∈ wsX8_letters := fun _ h => List.mem_cons_of_mem _ (List.mem_append_right _ (h))
  refine lv_aload_n hx hb dX8_letters_0 rfl (lv_at hl 0 rfl) ?_
  refine va_get (D := (dC, dI)) (ci := 8) (v := .int leE) (C := RX8) (T := TX8) (N := 6) hx hb hts in_X8 hown hK hP 0 rfl rfl 5 (Nat.le_of_ble_eq_true rfl) (hts (.fieldLink RX8 29 "TextMender$Reading" "letters" "I") (List.mem_of_getElem? (i := 1) rfl)) (fun _ h9 => h9) rfl dX8_letters_1 ?_
  exact kl_i (v := leE) hQQ hx hb hr hlocks hS dX8_letters_4 (fun PZ9 kZ9 => kZ9 (⟨hP, hD⟩) (rfl))

end

/-! 34.a.rows -/
section
set_option maxRecDepth 100000 in
theorem dA27_cX1_told : kDec cX1_told [(0, .iload_n 1, 1), (1, .ifCond .lt 11, 3), (12, .iconst (-1), 1), (13, .ireturn, 1), (4, .iload_n 1, 1), (5, .aload_n 0, 1), (6, .getfield 65, 3), (9, .if_icmp .lt 5, 3), (14, .iload_n 2, 1), (15, .tableswitch 57 0 3 #[29, 36, 43, 50], 29), (44, .aload_n 0, 1), (45, .getfield 30, 3), (48, .iload_n 1, 1), (49, .iaload, 1), (50, .ireturn, 1), (51, .aload_n 0, 1), (52, .getfield 33, 3), (55, .iload_n 1, 1), (56, .iaload, 1), (57, .ireturn, 1), (58, .aload_n 0, 1), (59, .getfield 36, 3), (62, .iload_n 1, 1), (63, .iaload, 1)] = true := by decide +kernel
theorem dX1_told_0 : decode cX1_told 0 = .ok (.iload_n 1, 1) := kDec_at dA27_cX1_told 0 rfl
theorem dX1_told_1 : decode cX1_told 1 = .ok (.ifCond .lt 11, 3) := kDec_at dA27_cX1_told 1 rfl
theorem dX1_told_12 : decode cX1_told 12 = .ok (.iconst (-1), 1) := kDec_at dA27_cX1_told 2 rfl
theorem dX1_told_13 : decode cX1_told 13 = .ok (.ireturn, 1) := kDec_at dA27_cX1_told 3 rfl
theorem dX1_told_4 : decode cX1_told 4 = .ok (.iload_n 1, 1) := kDec_at dA27_cX1_told 4 rfl
theorem dX1_told_5 : decode cX1_told 5 = .ok (.aload_n 0, 1) := kDec_at dA27_cX1_told 5 rfl
theorem dX1_told_6 : decode cX1_told 6 = .ok (.getfield 65, 3) := kDec_at dA27_cX1_told 6 rfl
theorem dX1_told_9 : decode cX1_told 9 = .ok (.if_icmp .lt 5, 3) := kDec_at dA27_cX1_told 7 rfl
theorem dX1_told_14 : decode cX1_told 14 = .ok (.iload_n 2, 1) := kDec_at dA27_cX1_told 8 rfl
theorem dX1_told_15 : decode cX1_told 15 = .ok (.tableswitch 57 0 3 #[29, 36, 43, 50], 29) := kDec_at dA27_cX1_told 9 rfl
theorem dX1_told_44 : decode cX1_told 44 = .ok (.aload_n 0, 1) := kDec_at dA27_cX1_told 10 rfl
theorem dX1_told_45 : decode cX1_told 45 = .ok (.getfield 30, 3) := kDec_at dA27_cX1_told 11 rfl
theorem dX1_told_48 : decode cX1_told 48 = .ok (.iload_n 1, 1) := kDec_at dA27_cX1_told 12 rfl
theorem dX1_told_49 : decode cX1_told 49 = .ok (.iaload, 1) := kDec_at dA27_cX1_told 13 rfl
theorem dX1_told_50 : decode cX1_told 50 = .ok (.ireturn, 1) := kDec_at dA27_cX1_told 14 rfl
theorem dX1_told_51 : decode cX1_told 51 = .ok (.aload_n 0, 1) := kDec_at dA27_cX1_told 15 rfl
theorem dX1_told_52 : decode cX1_told 52 = .ok (.getfield 33, 3) := kDec_at dA27_cX1_told 16 rfl
theorem dX1_told_55 : decode cX1_told 55 = .ok (.iload_n 1, 1) := kDec_at dA27_cX1_told 17 rfl
theorem dX1_told_56 : decode cX1_told 56 = .ok (.iaload, 1) := kDec_at dA27_cX1_told 18 rfl
theorem dX1_told_57 : decode cX1_told 57 = .ok (.ireturn, 1) := kDec_at dA27_cX1_told 19 rfl
theorem dX1_told_58 : decode cX1_told 58 = .ok (.aload_n 0, 1) := kDec_at dA27_cX1_told 20 rfl
theorem dX1_told_59 : decode cX1_told 59 = .ok (.getfield 36, 3) := kDec_at dA27_cX1_told 21 rfl
theorem dX1_told_62 : decode cX1_told 62 = .ok (.iload_n 1, 1) := kDec_at dA27_cX1_told 22 rfl
theorem dX1_told_63 : decode cX1_told 63 = .ok (.iaload, 1) := kDec_at dA27_cX1_told 23 rfl
set_option maxRecDepth 100000 in
theorem dA28_cX1_told : kDec cX1_told [(64, .ireturn, 1), (65, .aload_n 0, 1), (66, .getfield 39, 3), (69, .iload_n 1, 1), (70, .iaload, 1), (71, .ireturn, 1), (72, .iconst (-1), 1), (73, .ireturn, 1)] = true := by decide +kernel
theorem dX1_told_64 : decode cX1_told 64 = .ok (.ireturn, 1) := kDec_at dA28_cX1_told 0 rfl
theorem dX1_told_65 : decode cX1_told 65 = .ok (.aload_n 0, 1) := kDec_at dA28_cX1_told 1 rfl
theorem dX1_told_66 : decode cX1_told 66 = .ok (.getfield 39, 3) := kDec_at dA28_cX1_told 2 rfl
theorem dX1_told_69 : decode cX1_told 69 = .ok (.iload_n 1, 1) := kDec_at dA28_cX1_told 3 rfl
theorem dX1_told_70 : decode cX1_told 70 = .ok (.iaload, 1) := kDec_at dA28_cX1_told 4 rfl
theorem dX1_told_71 : decode cX1_told 71 = .ok (.ireturn, 1) := kDec_at dA28_cX1_told 5 rfl
theorem dX1_told_72 : decode cX1_told 72 = .ok (.iconst (-1), 1) := kDec_at dA28_cX1_told 6 rfl
theorem dX1_told_73 : decode cX1_told 73 = .ok (.ireturn, 1) := kDec_at dA28_cX1_told 7 rfl

end

/-! 34.choices -/
section
set_option maxHeartbeats 40000000 in
set_option maxRecDepth 100000 in
theorem m_X1_told (l : Launch) (dC : Nat → ClassId) (dI : Nat → Nat → Nat) (cI cS : ClassId) (sz : Nat) (oW : Nat) (oC : Nat) (oK : Nat) (nw : Nat) (w1 : Nat) (w2 : Nat) (w3 : Nat) (o7 : Nat) (o8 : Nat) (o9 : Nat) (w4 : Nat) (w5 : Nat) (w6 : Nat) (w7 : Nat) (ke : Int32) (tl : Int32) (fsh : Int32) (wi : Int32) (ri : Int32) (fm : Int32) (lm : Int32) (fW4 : Nat → Int32) (fW5 : Nat → Int32) (fW6 : Nat → Int32) (fW7 : Nat → Int32) (i : Int32) (wh : Int32) (g_ke : 0 ≤ ke.toInt ∧ ke.toInt ≤ 200) (g_fsh : 0 ≤ fsh.toInt ∧ fsh.toInt ≤ 1) (g_fm : -1 ≤ fm.toInt ∧ fm.toInt ≤ 800) (g_lm : -1 ≤ lm.toInt ∧ lm.toInt ≤ 800) : kMi l yX1_told wsX1_told ({ frames := 0, cells := 0, slots := 0, locals := 0 } : Room) [.ref oW, .int i, .int wh] sz (dC, dI) vwCl [(cI, .int), (cS, .short)] [(oW, .inr (1, [.ref oC, .ref oK, .ref nw, .ref w1, .ref w2, .ref w3, .ref o7, .ref o8, .ref o9, .ref w4, .ref w5, .ref w6, .ref w7, .int ke, .int tl, .int fsh, .int wi, .int ri, .int fm, .int lm])), (w4, .inl (cI, 200, .inl fW4)), (w5, .inl (cI, 200, .inl fW5)), (w6, .inl (cI, 200, .inl fW6)), (w7, .inl (cI, 200, .inl fW7))] (fun _ => True) 0 0 (fun (A : Nat → Prop) (r : Int32) (hh9 : Heap) => ∀ PZ9 : Prop, (kPD (dC, dI) vwCl A [(oW, .inr (1, [.ref oC, .ref oK, .ref nw, .ref w1, .ref w2, .ref w3, .ref o7, .ref o8, .ref o9, .ref w4, .ref w5, .ref w6, .ref w7, .int ke, .int tl, .int fsh, .int wi, .int ri, .int fm, .int lm])), (w4, .inl (cI, 200, .inl fW4)), (w5, .inl (cI, 200, .inl fW5)), (w6, .inl (cI, 200, .inl fW6)), (w7, .inl (cI, 200, .inl fW7))] hh9 → PZ9) → PZ9) := by
  refine kMi_of (cc := cX1_told) (maxL := 3) (ret := (some .int)) (lv := [(0, .ref oW), (1, .int i), (2, .int wh)]) (by decide +kernel) rfl rfl (Nat.le_of_ble_eq_true rfl) ?_
  intro p e s m below meth c A QQ ls hx hb hr hts hml hown hlocks hA hQQ hK hX hP hD hS hl
  have hown : s.vm.findClass RX1 = some m.cls := hown
  have hcf := k_cf hx hb hml hown hts
  have in_X1 : ∀ w ∈ wsX10, w ∈ wsX1_told := fun _ h => List.mem_cons_of_mem _ (List.mem_append_right _ (h))
  replace g_fsh := hid g_fsh
  replace g_fm := hid g_fm
  replace g_lm := hid g_lm
  refine lv_iload_n hx hb dX1_told_0 rfl (lv_at hl 1 rfl) ?_
  refine lv_if_lt (tgt := 12) hx hb dX1_told_1 (by decide) (fun c_1 => ?_) (fun c_1 => ?_)
  · have tc_1 : i.toInt < 0 := v_lt c_1
    refine lv_iconst (v := (-1)) hx hb dX1_told_12 (by decide) ?_
    exact kl_i (v := (-1)) hQQ hx hb hr hlocks hS dX1_told_13 (fun PZ9 kZ9 => kZ9 (⟨hP, hD⟩))
  · have tc_1 : 0 ≤ i.toInt := v_nlt c_1
    refine lv_iload_n hx hb dX1_told_4 rfl (lv_at hl 1 rfl) ?_
    refine lv_aload_n hx hb dX1_told_5 rfl (lv_at hl 0 rfl) ?_
    refine va_get (D := (dC, dI)) (ci := 1) (v := .int ke) (C := RX1) (T := TX1) (N := 20) hx hb hts in_X1 hown hK hP 0 rfl rfl 13 (Nat.le_of_ble_eq_true rfl) (hts (.fieldLink RX1 65 "TextMender$Choices" "kept" "I") (List.mem_of_getElem? (i := 1) rfl)) (fun _ h9 => h9) rfl dX1_told_6 ?_
    refine lv_icmp_lt (tgt := 14) hx hb dX1_told_9 (by decide) (fun c_2 => ?_) (fun c_2 => ?_)
    · have tc_2 : i.toInt < ke.toInt := v_lt c_2
      have rw2_0 := v_rng i
      refine lv_iload_n hx hb dX1_told_14 rfl (lv_at hl 2 rfl) ?_
      by_cases c_3 : wh = 0
      · refine lv_tableIn (tgt := 44) hx hb dX1_told_15 (by rw [c_3]; decide) (by rw [c_3]; decide) (by rw [c_3]; rfl) (by decide) ?_
        have tc_3 : wh.toInt = 0 := v_eq c_3
        refine lv_aload_n hx hb dX1_told_44 rfl (lv_at hl 0 rfl) ?_
        refine va_get (D := (dC, dI)) (ci := 1) (v := .ref w4) (C := RX1) (T := TX1) (N := 20) hx hb hts in_X1 hown hK hP 0 rfl rfl 9 (Nat.le_of_ble_eq_true rfl) (hts (.fieldLink RX1 30 "TextMender$Choices" "firstByte" "[I") (List.mem_of_getElem? (i := 2) rfl)) (fun _ h9 => h9) rfl dX1_told_45 ?_
        refine lv_iload_n hx hb dX1_told_48 rfl (lv_at hl 1 rfl) ?_
        refine va_iald hx hb hK hP 1 0 rfl rfl (v_in (by omega)) dX1_told_49 ?_
        refine lv_topi (fun x_4 ex_4 => ?_)
        exact kl_i (v := x_4) hQQ hx hb hr hlocks hS dX1_told_50 (fun PZ9 kZ9 => kZ9 (⟨hP, hD⟩))
      · skip
        have tc_3 : ¬ wh.toInt = 0 := v_ne c_3
        by_cases c_5 : wh = 1
        · refine lv_tableIn (tgt := 51) hx hb dX1_told_15 (by rw [c_5]; decide) (by rw [c_5]; decide) (by rw [c_5]; rfl) (by decide) ?_
          have tc_5 : wh.toInt = 1 := v_eq c_5
          refine lv_aload_n hx hb dX1_told_51 rfl (lv_at hl 0 rfl) ?_
          refine va_get (D := (dC, dI)) (ci := 1) (v := .ref w5) (C := RX1) (T := TX1) (N := 20) hx hb hts in_X1 hown hK hP 0 rfl rfl 10 (Nat.le_of_ble_eq_true rfl) (hts (.fieldLink RX1 33 "TextMender$Choices" "secondByte" "[I") (List.mem_of_getElem? (i := 3) rfl)) (fun _ h9 => h9) rfl dX1_told_52 ?_
          refine lv_iload_n hx hb dX1_told_55 rfl (lv_at hl 1 rfl) ?_
          refine va_iald hx hb hK hP 2 0 rfl rfl (v_in (by omega)) dX1_told_56 ?_
          refine lv_topi (fun x_6 ex_6 => ?_)
          exact kl_i (v := x_6) hQQ hx hb hr hlocks hS dX1_told_57 (fun PZ9 kZ9 => kZ9 (⟨hP, hD⟩))
        · skip
          have tc_5 : ¬ wh.toInt = 1 := v_ne c_5
          by_cases c_7 : wh = 2
          · refine lv_tableIn (tgt := 58) hx hb dX1_told_15 (by rw [c_7]; decide) (by rw [c_7]; decide) (by rw [c_7]; rfl) (by decide) ?_
            have tc_7 : wh.toInt = 2 := v_eq c_7
            refine lv_aload_n hx hb dX1_told_58 rfl (lv_at hl 0 rfl) ?_
            refine va_get (D := (dC, dI)) (ci := 1) (v := .ref w6) (C := RX1) (T := TX1) (N := 20) hx hb hts in_X1 hown hK hP 0 rfl rfl 11 (Nat.le_of_ble_eq_true rfl) (hts (.fieldLink RX1 36 "TextMender$Choices" "costOf" "[I") (List.mem_of_getElem? (i := 4) rfl)) (fun _ h9 => h9) rfl dX1_told_59 ?_
            refine lv_iload_n hx hb dX1_told_62 rfl (lv_at hl 1 rfl) ?_
            refine va_iald hx hb hK hP 3 0 rfl rfl (v_in (by omega)) dX1_told_63 ?_
            refine lv_topi (fun x_8 ex_8 => ?_)
            exact kl_i (v := x_8) hQQ hx hb hr hlocks hS dX1_told_64 (fun PZ9 kZ9 => kZ9 (⟨hP, hD⟩))
          · skip
            have tc_7 : ¬ wh.toInt = 2 := v_ne c_7
            by_cases c_9 : wh = 3
            · refine lv_tableIn (tgt := 65) hx hb dX1_told_15 (by rw [c_9]; decide) (by rw [c_9]; decide) (by rw [c_9]; rfl) (by decide) ?_
              have tc_9 : wh.toInt = 3 := v_eq c_9
              refine lv_aload_n hx hb dX1_told_65 rfl (lv_at hl 0 rfl) ?_
              refine va_get (D := (dC, dI)) (ci := 1) (v := .ref w7) (C := RX1) (T := TX1) (N := 20) hx hb hts in_X1 hown hK hP 0 rfl rfl 12 (Nat.le_of_ble_eq_true rfl) (hts (.fieldLink RX1 39 "TextMender$Choices" "lengthOf" "[I") (List.mem_of_getElem? (i := 5) rfl)) (fun _ h9 => h9) rfl dX1_told_66 ?_
              refine lv_iload_n hx hb dX1_told_69 rfl (lv_at hl 1 rfl) ?_
              refine va_iald hx hb hK hP 4 0 rfl rfl (v_in (by omega)) dX1_told_70 ?_
              refine lv_topi (fun x_10 ex_10 => ?_)
              exact kl_i (v := x_10) hQQ hx hb hr hlocks hS dX1_told_71 (fun PZ9 kZ9 => kZ9 (⟨hP, hD⟩))
            · skip
              have tc_9 : ¬ wh.toInt = 3 := v_ne c_9
              refine lv_tableOut (tgt := 72) hx hb dX1_told_15 (by omega) (by decide) ?_
              refine lv_iconst (v := (-1)) hx hb dX1_told_72 (by decide) ?_
              exact kl_i (v := (-1)) hQQ hx hb hr hlocks hS dX1_told_73 (fun PZ9 kZ9 => kZ9 (⟨hP, hD⟩))
    · have tc_2 : ke.toInt ≤ i.toInt := v_nlt c_2
      have rw2_0 := v_rng i
      refine lv_iconst (v := (-1)) hx hb dX1_told_12 (by decide) ?_
      exact kl_i (v := (-1)) hQQ hx hb hr hlocks hS dX1_told_13 (fun PZ9 kZ9 => kZ9 (⟨hP, hD⟩))

end

/-! 36.a.rows -/
section
set_option maxRecDepth 100000 in
theorem dA29_cX11_end : kDec cX11_end [(0, .iload_n 1, 1), (1, .ifCond .lt 14, 3), (15, .iconst 0, 1), (16, .ireturn, 1), (4, .iload_n 1, 1), (5, .aload_n 0, 1), (6, .getfield 30, 3), (9, .invokevirtual 94, 3), (12, .if_icmp .le 5, 3), (17, .aload_n 0, 1), (18, .getfield 30, 3), (21, .iload_n 1, 1), (22, .invokevirtual 102, 3), (25, .iconst 1, 1), (26, .ireturn, 1)] = true := by decide +kernel
theorem dX11_end_0 : decode cX11_end 0 = .ok (.iload_n 1, 1) := kDec_at dA29_cX11_end 0 rfl
theorem dX11_end_1 : decode cX11_end 1 = .ok (.ifCond .lt 14, 3) := kDec_at dA29_cX11_end 1 rfl
theorem dX11_end_15 : decode cX11_end 15 = .ok (.iconst 0, 1) := kDec_at dA29_cX11_end 2 rfl
theorem dX11_end_16 : decode cX11_end 16 = .ok (.ireturn, 1) := kDec_at dA29_cX11_end 3 rfl
theorem dX11_end_4 : decode cX11_end 4 = .ok (.iload_n 1, 1) := kDec_at dA29_cX11_end 4 rfl
theorem dX11_end_5 : decode cX11_end 5 = .ok (.aload_n 0, 1) := kDec_at dA29_cX11_end 5 rfl
theorem dX11_end_6 : decode cX11_end 6 = .ok (.getfield 30, 3) := kDec_at dA29_cX11_end 6 rfl
theorem dX11_end_9 : decode cX11_end 9 = .ok (.invokevirtual 94, 3) := kDec_at dA29_cX11_end 7 rfl
theorem dX11_end_12 : decode cX11_end 12 = .ok (.if_icmp .le 5, 3) := kDec_at dA29_cX11_end 8 rfl
theorem dX11_end_17 : decode cX11_end 17 = .ok (.aload_n 0, 1) := kDec_at dA29_cX11_end 9 rfl
theorem dX11_end_18 : decode cX11_end 18 = .ok (.getfield 30, 3) := kDec_at dA29_cX11_end 10 rfl
theorem dX11_end_21 : decode cX11_end 21 = .ok (.iload_n 1, 1) := kDec_at dA29_cX11_end 11 rfl
theorem dX11_end_22 : decode cX11_end 22 = .ok (.invokevirtual 102, 3) := kDec_at dA29_cX11_end 12 rfl
theorem dX11_end_25 : decode cX11_end 25 = .ok (.iconst 1, 1) := kDec_at dA29_cX11_end 13 rfl
theorem dX11_end_26 : decode cX11_end 26 = .ok (.ireturn, 1) := kDec_at dA29_cX11_end 14 rfl
set_option maxRecDepth 20000 in
theorem gX5_length_all : wsX5_length.all goodWord = true := by
  unfold wsX5_length
  exact good_c (by decide +kernel) (good_a ((by decide +kernel)) gX5_clsall)
set_option maxRecDepth 20000 in
theorem ggX11_end_X5_length : GoodIn wsX11_end wsX5_length := goodIn_sub (fun _ h => List.mem_cons_of_mem _ (List.mem_append_left _ (List.mem_append_right _ (h)))) gX5_length_all
set_option maxRecDepth 20000 in
theorem gX11_end_X5_length : GoodIn wsX11_end (wsV RX11 94 RX5 yX5_length wsX5_length) := goodIn_app (goodIn_r _ [2, 3, 4, 5] rfl (by decide +kernel)) ggX11_end_X5_length
set_option maxRecDepth 20000 in
theorem gX5_cut_all : wsX5_cut.all goodWord = true := by
  unfold wsX5_cut
  exact good_c (by decide +kernel) (good_a ((by decide +kernel)) gX5_clsall)
set_option maxRecDepth 20000 in
theorem ggX11_end_X5_cut : GoodIn wsX11_end wsX5_cut := goodIn_sub (fun _ h => List.mem_cons_of_mem _ (List.mem_append_right _ (h))) gX5_cut_all
set_option maxRecDepth 20000 in
theorem gX11_end_X5_cut : GoodIn wsX11_end (wsV RX11 102 RX5 yX5_cut wsX5_cut) := goodIn_app (goodIn_r _ [6, 7, 8, 5] rfl (by decide +kernel)) ggX11_end_X5_cut
set_option maxRecDepth 100000 in
theorem dA30_cX11_span : kDec cX11_span [(0, .aload_n 0, 1), (1, .iconst (-1), 1), (2, .putfield 90, 3), (5, .aload_n 0, 1), (6, .getfield 40, 3), (9, .iload_n 1, 1), (10, .invokevirtual 129, 3), (13, .astore 6, 2), (15, .aload 6, 2), (17, .ifnull 17, 3), (34, .iconst (-1), 1), (35, .ireturn, 1)] = true := by decide +kernel
theorem dX11_span_0 : decode cX11_span 0 = .ok (.aload_n 0, 1) := kDec_at dA30_cX11_span 0 rfl
theorem dX11_span_1 : decode cX11_span 1 = .ok (.iconst (-1), 1) := kDec_at dA30_cX11_span 1 rfl
theorem dX11_span_2 : decode cX11_span 2 = .ok (.putfield 90, 3) := kDec_at dA30_cX11_span 2 rfl
theorem dX11_span_5 : decode cX11_span 5 = .ok (.aload_n 0, 1) := kDec_at dA30_cX11_span 3 rfl
theorem dX11_span_6 : decode cX11_span 6 = .ok (.getfield 40, 3) := kDec_at dA30_cX11_span 4 rfl
theorem dX11_span_9 : decode cX11_span 9 = .ok (.iload_n 1, 1) := kDec_at dA30_cX11_span 5 rfl
theorem dX11_span_10 : decode cX11_span 10 = .ok (.invokevirtual 129, 3) := kDec_at dA30_cX11_span 6 rfl
theorem dX11_span_13 : decode cX11_span 13 = .ok (.astore 6, 2) := kDec_at dA30_cX11_span 7 rfl
theorem dX11_span_15 : decode cX11_span 15 = .ok (.aload 6, 2) := kDec_at dA30_cX11_span 8 rfl
theorem dX11_span_17 : decode cX11_span 17 = .ok (.ifnull 17, 3) := kDec_at dA30_cX11_span 9 rfl
theorem dX11_span_34 : decode cX11_span 34 = .ok (.iconst (-1), 1) := kDec_at dA30_cX11_span 10 rfl
theorem dX11_span_35 : decode cX11_span 35 = .ok (.ireturn, 1) := kDec_at dA30_cX11_span 11 rfl
set_option maxRecDepth 20000 in
theorem ggX11_span_X2_toldCode : GoodIn wsX11_span wsX2_toldCode := goodIn_sub (fun _ h => List.mem_cons_of_mem _ (List.mem_append_left _ (List.mem_append_left _ (List.mem_append_left _ (List.mem_append_left _ (List.mem_append_right _ (h))))))) gX2_toldCode_all
set_option maxRecDepth 20000 in
theorem gX11_span_X2_toldCode : GoodIn wsX11_span (wsV RX11 129 RX2 yX2_toldCode wsX2_toldCode) := goodIn_app (goodIn_r _ [4, 5, 6, 7] rfl (by decide +kernel)) ggX11_span_X2_toldCode
set_option maxRecDepth 100000 in
theorem dA31_cX11_blank : kDec cX11_blank [(0, .aload_n 0, 1), (1, .getfield 40, 3), (4, .iload_n 1, 1), (5, .invokevirtual 129, 3), (8, .astore_n 2, 1), (9, .aload_n 2, 1), (10, .ifnonnull 5, 3), (13, .iconst 0, 1), (14, .ireturn, 1)] = true := by decide +kernel
theorem dX11_blank_0 : decode cX11_blank 0 = .ok (.aload_n 0, 1) := kDec_at dA31_cX11_blank 0 rfl
theorem dX11_blank_1 : decode cX11_blank 1 = .ok (.getfield 40, 3) := kDec_at dA31_cX11_blank 1 rfl
theorem dX11_blank_4 : decode cX11_blank 4 = .ok (.iload_n 1, 1) := kDec_at dA31_cX11_blank 2 rfl
theorem dX11_blank_5 : decode cX11_blank 5 = .ok (.invokevirtual 129, 3) := kDec_at dA31_cX11_blank 3 rfl
theorem dX11_blank_8 : decode cX11_blank 8 = .ok (.astore_n 2, 1) := kDec_at dA31_cX11_blank 4 rfl
theorem dX11_blank_9 : decode cX11_blank 9 = .ok (.aload_n 2, 1) := kDec_at dA31_cX11_blank 5 rfl
theorem dX11_blank_10 : decode cX11_blank 10 = .ok (.ifnonnull 5, 3) := kDec_at dA31_cX11_blank 6 rfl
theorem dX11_blank_13 : decode cX11_blank 13 = .ok (.iconst 0, 1) := kDec_at dA31_cX11_blank 7 rfl
theorem dX11_blank_14 : decode cX11_blank 14 = .ok (.ireturn, 1) := kDec_at dA31_cX11_blank 8 rfl
set_option maxRecDepth 20000 in
theorem ggX11_blank_X2_toldCode : GoodIn wsX11_blank wsX2_toldCode := goodIn_sub (fun _ h => List.mem_cons_of_mem _ (List.mem_append_left _ (List.mem_append_left _ (List.mem_append_right _ (h))))) gX2_toldCode_all
set_option maxRecDepth 20000 in
theorem gX11_blank_X2_toldCode : GoodIn wsX11_blank (wsV RX11 129 RX2 yX2_toldCode wsX2_toldCode) := goodIn_app (goodIn_r _ [3, 4, 5, 6] rfl (by decide +kernel)) ggX11_blank_X2_toldCode
set_option maxRecDepth 100000 in
theorem dA32_cX11_marksOf : kDec cX11_marksOf [(0, .iconst 0, 1), (1, .istore_n 1, 1), (2, .iconst 0, 1), (3, .istore_n 2, 1), (4, .iload_n 2, 1), (5, .aload_n 0, 1), (6, .invokevirtual 94, 3), (9, .if_icmp .ge 23, 3), (32, .iload_n 1, 1), (33, .ireturn, 1), (12, .aload_n 0, 1), (13, .iload_n 2, 1), (14, .invokevirtual 167, 3), (17, .ldc_w 261, 3), (20, .if_icmp .ne 6, 3), (26, .iinc 2 1, 3), (29, .goto (-25), 3), (23, .iinc 1 1, 3)] = true := by decide +kernel
theorem dX11_marksOf_0 : decode cX11_marksOf 0 = .ok (.iconst 0, 1) := kDec_at dA32_cX11_marksOf 0 rfl
theorem dX11_marksOf_1 : decode cX11_marksOf 1 = .ok (.istore_n 1, 1) := kDec_at dA32_cX11_marksOf 1 rfl
theorem dX11_marksOf_2 : decode cX11_marksOf 2 = .ok (.iconst 0, 1) := kDec_at dA32_cX11_marksOf 2 rfl
theorem dX11_marksOf_3 : decode cX11_marksOf 3 = .ok (.istore_n 2, 1) := kDec_at dA32_cX11_marksOf 3 rfl
theorem dX11_marksOf_4 : decode cX11_marksOf 4 = .ok (.iload_n 2, 1) := kDec_at dA32_cX11_marksOf 4 rfl
theorem dX11_marksOf_5 : decode cX11_marksOf 5 = .ok (.aload_n 0, 1) := kDec_at dA32_cX11_marksOf 5 rfl
theorem dX11_marksOf_6 : decode cX11_marksOf 6 = .ok (.invokevirtual 94, 3) := kDec_at dA32_cX11_marksOf 6 rfl
theorem dX11_marksOf_9 : decode cX11_marksOf 9 = .ok (.if_icmp .ge 23, 3) := kDec_at dA32_cX11_marksOf 7 rfl
theorem dX11_marksOf_32 : decode cX11_marksOf 32 = .ok (.iload_n 1, 1) := kDec_at dA32_cX11_marksOf 8 rfl
theorem dX11_marksOf_33 : decode cX11_marksOf 33 = .ok (.ireturn, 1) := kDec_at dA32_cX11_marksOf 9 rfl
theorem dX11_marksOf_12 : decode cX11_marksOf 12 = .ok (.aload_n 0, 1) := kDec_at dA32_cX11_marksOf 10 rfl
theorem dX11_marksOf_13 : decode cX11_marksOf 13 = .ok (.iload_n 2, 1) := kDec_at dA32_cX11_marksOf 11 rfl
theorem dX11_marksOf_14 : decode cX11_marksOf 14 = .ok (.invokevirtual 167, 3) := kDec_at dA32_cX11_marksOf 12 rfl
theorem dX11_marksOf_17 : decode cX11_marksOf 17 = .ok (.ldc_w 261, 3) := kDec_at dA32_cX11_marksOf 13 rfl
theorem dX11_marksOf_20 : decode cX11_marksOf 20 = .ok (.if_icmp .ne 6, 3) := kDec_at dA32_cX11_marksOf 14 rfl
theorem dX11_marksOf_26 : decode cX11_marksOf 26 = .ok (.iinc 2 1, 3) := kDec_at dA32_cX11_marksOf 15 rfl
theorem dX11_marksOf_29 : decode cX11_marksOf 29 = .ok (.goto (-25), 3) := kDec_at dA32_cX11_marksOf 16 rfl
theorem dX11_marksOf_23 : decode cX11_marksOf 23 = .ok (.iinc 1 1, 3) := kDec_at dA32_cX11_marksOf 17 rfl
set_option maxRecDepth 20000 in
theorem ggX11_marksOf_X5_length : GoodIn wsX11_marksOf wsX5_length := goodIn_sub (fun _ h => List.mem_cons_of_mem _ (List.mem_append_left _ (List.mem_append_right _ (h)))) gX5_length_all
set_option maxRecDepth 20000 in
theorem gX11_marksOf_X5_length : GoodIn wsX11_marksOf (wsV RX11 94 RX5 yX5_length wsX5_length) := goodIn_app (goodIn_r _ [2, 3, 4, 5] rfl (by decide +kernel)) ggX11_marksOf_X5_length
set_option maxRecDepth 20000 in
theorem gX5_get_all : wsX5_get.all goodWord = true := by
  unfold wsX5_get
  exact good_c (by decide +kernel) (good_a ((by decide +kernel)) gX5_clsall)
set_option maxRecDepth 20000 in
theorem ggX11_marksOf_X5_get : GoodIn wsX11_marksOf wsX5_get := goodIn_sub (fun _ h => List.mem_cons_of_mem _ (List.mem_append_right _ (h))) gX5_get_all
set_option maxRecDepth 20000 in
theorem gX11_marksOf_X5_get : GoodIn wsX11_marksOf (wsV RX11 167 RX5 yX5_get wsX5_get) := goodIn_app (goodIn_r _ [6, 7, 8, 5] rfl (by decide +kernel)) ggX11_marksOf_X5_get
set_option maxRecDepth 100000 in
theorem dA33_cX11_count : kDec cX11_count [(0, .iload_n 1, 1), (1, .tableswitch 113 0 7 #[47, 55, 63, 71, 79, 87, 95, 104], 47), (48, .aload_n 0, 1), (49, .getfield 34, 3), (52, .invokevirtual 94, 3), (55, .ireturn, 1), (56, .aload_n 0, 1), (57, .getfield 30, 3), (60, .invokevirtual 94, 3), (63, .ireturn, 1), (64, .aload_n 0, 1), (65, .getfield 48, 3), (68, .invokevirtual 150, 3), (71, .ireturn, 1), (72, .aload_n 0, 1), (73, .getfield 59, 3), (76, .invokevirtual 151, 3), (79, .ireturn, 1), (80, .aload_n 0, 1), (81, .getfield 34, 3), (84, .invokestatic 152, 3), (87, .ireturn, 1), (88, .aload_n 0, 1), (89, .getfield 52, 3)] = true := by decide +kernel
theorem dX11_count_0 : decode cX11_count 0 = .ok (.iload_n 1, 1) := kDec_at dA33_cX11_count 0 rfl
theorem dX11_count_1 : decode cX11_count 1 = .ok (.tableswitch 113 0 7 #[47, 55, 63, 71, 79, 87, 95, 104], 47) := kDec_at dA33_cX11_count 1 rfl
theorem dX11_count_48 : decode cX11_count 48 = .ok (.aload_n 0, 1) := kDec_at dA33_cX11_count 2 rfl
theorem dX11_count_49 : decode cX11_count 49 = .ok (.getfield 34, 3) := kDec_at dA33_cX11_count 3 rfl
theorem dX11_count_52 : decode cX11_count 52 = .ok (.invokevirtual 94, 3) := kDec_at dA33_cX11_count 4 rfl
theorem dX11_count_55 : decode cX11_count 55 = .ok (.ireturn, 1) := kDec_at dA33_cX11_count 5 rfl
theorem dX11_count_56 : decode cX11_count 56 = .ok (.aload_n 0, 1) := kDec_at dA33_cX11_count 6 rfl
theorem dX11_count_57 : decode cX11_count 57 = .ok (.getfield 30, 3) := kDec_at dA33_cX11_count 7 rfl
theorem dX11_count_60 : decode cX11_count 60 = .ok (.invokevirtual 94, 3) := kDec_at dA33_cX11_count 8 rfl
theorem dX11_count_63 : decode cX11_count 63 = .ok (.ireturn, 1) := kDec_at dA33_cX11_count 9 rfl
theorem dX11_count_64 : decode cX11_count 64 = .ok (.aload_n 0, 1) := kDec_at dA33_cX11_count 10 rfl
theorem dX11_count_65 : decode cX11_count 65 = .ok (.getfield 48, 3) := kDec_at dA33_cX11_count 11 rfl
theorem dX11_count_68 : decode cX11_count 68 = .ok (.invokevirtual 150, 3) := kDec_at dA33_cX11_count 12 rfl
theorem dX11_count_71 : decode cX11_count 71 = .ok (.ireturn, 1) := kDec_at dA33_cX11_count 13 rfl
theorem dX11_count_72 : decode cX11_count 72 = .ok (.aload_n 0, 1) := kDec_at dA33_cX11_count 14 rfl
theorem dX11_count_73 : decode cX11_count 73 = .ok (.getfield 59, 3) := kDec_at dA33_cX11_count 15 rfl
theorem dX11_count_76 : decode cX11_count 76 = .ok (.invokevirtual 151, 3) := kDec_at dA33_cX11_count 16 rfl
theorem dX11_count_79 : decode cX11_count 79 = .ok (.ireturn, 1) := kDec_at dA33_cX11_count 17 rfl
theorem dX11_count_80 : decode cX11_count 80 = .ok (.aload_n 0, 1) := kDec_at dA33_cX11_count 18 rfl
theorem dX11_count_81 : decode cX11_count 81 = .ok (.getfield 34, 3) := kDec_at dA33_cX11_count 19 rfl
theorem dX11_count_84 : decode cX11_count 84 = .ok (.invokestatic 152, 3) := kDec_at dA33_cX11_count 20 rfl
theorem dX11_count_87 : decode cX11_count 87 = .ok (.ireturn, 1) := kDec_at dA33_cX11_count 21 rfl
theorem dX11_count_88 : decode cX11_count 88 = .ok (.aload_n 0, 1) := kDec_at dA33_cX11_count 22 rfl
theorem dX11_count_89 : decode cX11_count 89 = .ok (.getfield 52, 3) := kDec_at dA33_cX11_count 23 rfl
set_option maxRecDepth 20000 in
theorem ggX11_count_X5_length : GoodIn wsX11_count wsX5_length := goodIn_sub (fun _ h => List.mem_cons_of_mem _ (List.mem_append_left _ (List.mem_append_left _ (List.mem_append_left _ (List.mem_append_left _ (List.mem_append_left _ (List.mem_append_right _ (h)))))))) gX5_length_all
set_option maxRecDepth 20000 in
theorem gX11_count_X5_length : GoodIn wsX11_count (wsV RX11 94 RX5 yX5_length wsX5_length) := goodIn_app (goodIn_r _ [7, 8, 9, 10] rfl (by decide +kernel)) ggX11_count_X5_length
set_option maxRecDepth 20000 in
theorem gX4_clsall : wsX40.all goodWord = true := by decide +kernel
set_option maxRecDepth 20000 in
theorem gX4_length_all : wsX4_length.all goodWord = true := by
  unfold wsX4_length
  exact good_c (by decide +kernel) (good_a ((by decide +kernel)) gX4_clsall)
set_option maxRecDepth 20000 in
theorem ggX11_count_X4_length : GoodIn wsX11_count wsX4_length := goodIn_sub (fun _ h => List.mem_cons_of_mem _ (List.mem_append_left _ (List.mem_append_left _ (List.mem_append_left _ (List.mem_append_left _ (List.mem_append_right _ (h))))))) gX4_length_all
set_option maxRecDepth 20000 in
theorem gX11_count_X4_length : GoodIn wsX11_count (wsV RX11 150 RX4 yX4_length wsX4_length) := goodIn_app (goodIn_r _ [11, 12, 13, 14] rfl (by decide +kernel)) ggX11_count_X4_length
set_option maxRecDepth 20000 in
theorem gX0_clsall : wsX00.all goodWord = true := by decide +kernel
set_option maxRecDepth 20000 in
theorem gX0_length_all : wsX0_length.all goodWord = true := by
  unfold wsX0_length
  exact good_c (by decide +kernel) (good_a ((by decide +kernel)) gX0_clsall)
set_option maxRecDepth 20000 in
theorem ggX11_count_X0_length : GoodIn wsX11_count wsX0_length := goodIn_sub (fun _ h => List.mem_cons_of_mem _ (List.mem_append_left _ (List.mem_append_left _ (List.mem_append_left _ (List.mem_append_right _ (h)))))) gX0_length_all
set_option maxRecDepth 20000 in
theorem gX11_count_X0_length : GoodIn wsX11_count (wsV RX11 151 RX0 yX0_length wsX0_length) := goodIn_app (goodIn_r _ [15, 16, 17, 18] rfl (by decide +kernel)) ggX11_count_X0_length
set_option maxRecDepth 20000 in
theorem gX11_marksOf_all : wsX11_marksOf.all goodWord = true := by
  unfold wsX11_marksOf
  exact good_c (by decide +kernel) (good_a (good_a (good_a ((by decide +kernel)) gX5_clsall) gX5_length_all) gX5_get_all)
set_option maxRecDepth 20000 in
theorem ggX11_count_X11_marksOf : GoodIn wsX11_count wsX11_marksOf := goodIn_sub (fun _ h => List.mem_cons_of_mem _ (List.mem_append_left _ (List.mem_append_left _ (List.mem_append_right _ (h))))) gX11_marksOf_all
set_option maxRecDepth 20000 in
theorem gX11_count_X11_marksOf : GoodIn wsX11_count (va_wsS RX11 152 yX11_marksOf wsX11_marksOf) := goodIn_app (goodIn_r _ [19, 20, 21] rfl (by decide +kernel)) ggX11_count_X11_marksOf
set_option maxRecDepth 20000 in
theorem gX3_clsall : wsX30.all goodWord = true := by decide +kernel
set_option maxRecDepth 20000 in
theorem gX3_length_all : wsX3_length.all goodWord = true := by
  unfold wsX3_length
  exact good_c (by decide +kernel) (good_a ((by decide +kernel)) gX3_clsall)
set_option maxRecDepth 20000 in
theorem ggX11_count_X3_length : GoodIn wsX11_count wsX3_length := goodIn_sub (fun _ h => List.mem_cons_of_mem _ (List.mem_append_left _ (List.mem_append_right _ (h)))) gX3_length_all
set_option maxRecDepth 20000 in
theorem gX11_count_X3_length : GoodIn wsX11_count (wsV RX11 155 RX3 yX3_length wsX3_length) := goodIn_app (goodIn_r _ [22, 23, 24, 25] rfl (by decide +kernel)) ggX11_count_X3_length
set_option maxRecDepth 100000 in
theorem dA34_cX11_count : kDec cX11_count [(92, .invokevirtual 155, 3), (95, .ireturn, 1), (96, .aload_n 0, 1), (97, .getfield 40, 3), (100, .iconst 4, 1), (101, .invokevirtual 156, 3), (104, .ireturn, 1), (105, .aload_n 0, 1), (106, .getfield 40, 3), (109, .iconst 5, 1), (110, .invokevirtual 156, 3), (113, .ireturn, 1), (114, .iconst (-1), 1), (115, .ireturn, 1)] = true := by decide +kernel
theorem dX11_count_92 : decode cX11_count 92 = .ok (.invokevirtual 155, 3) := kDec_at dA34_cX11_count 0 rfl
theorem dX11_count_95 : decode cX11_count 95 = .ok (.ireturn, 1) := kDec_at dA34_cX11_count 1 rfl
theorem dX11_count_96 : decode cX11_count 96 = .ok (.aload_n 0, 1) := kDec_at dA34_cX11_count 2 rfl
theorem dX11_count_97 : decode cX11_count 97 = .ok (.getfield 40, 3) := kDec_at dA34_cX11_count 3 rfl
theorem dX11_count_100 : decode cX11_count 100 = .ok (.iconst 4, 1) := kDec_at dA34_cX11_count 4 rfl
theorem dX11_count_101 : decode cX11_count 101 = .ok (.invokevirtual 156, 3) := kDec_at dA34_cX11_count 5 rfl
theorem dX11_count_104 : decode cX11_count 104 = .ok (.ireturn, 1) := kDec_at dA34_cX11_count 6 rfl
theorem dX11_count_105 : decode cX11_count 105 = .ok (.aload_n 0, 1) := kDec_at dA34_cX11_count 7 rfl
theorem dX11_count_106 : decode cX11_count 106 = .ok (.getfield 40, 3) := kDec_at dA34_cX11_count 8 rfl
theorem dX11_count_109 : decode cX11_count 109 = .ok (.iconst 5, 1) := kDec_at dA34_cX11_count 9 rfl
theorem dX11_count_110 : decode cX11_count 110 = .ok (.invokevirtual 156, 3) := kDec_at dA34_cX11_count 10 rfl
theorem dX11_count_113 : decode cX11_count 113 = .ok (.ireturn, 1) := kDec_at dA34_cX11_count 11 rfl
theorem dX11_count_114 : decode cX11_count 114 = .ok (.iconst (-1), 1) := kDec_at dA34_cX11_count 12 rfl
theorem dX11_count_115 : decode cX11_count 115 = .ok (.ireturn, 1) := kDec_at dA34_cX11_count 13 rfl
set_option maxRecDepth 20000 in
theorem gX2_lengthOf_all : wsX2_lengthOf.all goodWord = true := by
  unfold wsX2_lengthOf
  exact good_c (by decide +kernel) (good_a (good_a (good_a (good_a ((by decide +kernel)) gX2_clsall) gX10_clsall) gX2_toldCode_all) gX10_length_all)
set_option maxRecDepth 20000 in
theorem ggX11_count_X2_lengthOf : GoodIn wsX11_count wsX2_lengthOf := goodIn_sub (fun _ h => List.mem_cons_of_mem _ (List.mem_append_right _ (h))) gX2_lengthOf_all
set_option maxRecDepth 20000 in
theorem gX11_count_X2_lengthOf : GoodIn wsX11_count (wsV RX11 156 RX2 yX2_lengthOf wsX2_lengthOf) := goodIn_app (goodIn_r _ [26, 27, 28, 29] rfl (by decide +kernel)) ggX11_count_X2_lengthOf
set_option maxRecDepth 100000 in
theorem dA35_cX11_where : kDec cX11_where [(0, .aload_n 0, 1), (1, .getfield 90, 3), (4, .ireturn, 1)] = true := by decide +kernel
theorem dX11_where_0 : decode cX11_where 0 = .ok (.aload_n 0, 1) := kDec_at dA35_cX11_where 0 rfl
theorem dX11_where_1 : decode cX11_where 1 = .ok (.getfield 90, 3) := kDec_at dA35_cX11_where 1 rfl
theorem dX11_where_4 : decode cX11_where 4 = .ok (.ireturn, 1) := kDec_at dA35_cX11_where 2 rfl
set_option maxRecDepth 100000 in
theorem dA36_cX11_row : kDec cX11_row [(0, .aload_n 0, 1), (1, .getfield 68, 3), (4, .iload_n 1, 1), (5, .iload_n 2, 1), (6, .invokevirtual 201, 3), (9, .ireturn, 1)] = true := by decide +kernel
theorem dX11_row_0 : decode cX11_row 0 = .ok (.aload_n 0, 1) := kDec_at dA36_cX11_row 0 rfl
theorem dX11_row_1 : decode cX11_row 1 = .ok (.getfield 68, 3) := kDec_at dA36_cX11_row 1 rfl
theorem dX11_row_4 : decode cX11_row 4 = .ok (.iload_n 1, 1) := kDec_at dA36_cX11_row 2 rfl
theorem dX11_row_5 : decode cX11_row 5 = .ok (.iload_n 2, 1) := kDec_at dA36_cX11_row 3 rfl
theorem dX11_row_6 : decode cX11_row 6 = .ok (.invokevirtual 201, 3) := kDec_at dA36_cX11_row 4 rfl
theorem dX11_row_9 : decode cX11_row 9 = .ok (.ireturn, 1) := kDec_at dA36_cX11_row 5 rfl
set_option maxRecDepth 20000 in
theorem gX9_clsall : wsX90.all goodWord = true := by decide +kernel
set_option maxRecDepth 20000 in
theorem gX9_told_all : wsX9_told.all goodWord = true := by
  unfold wsX9_told
  exact good_c (by decide +kernel) (good_a ((by decide +kernel)) gX9_clsall)
set_option maxRecDepth 20000 in
theorem ggX11_row_X9_told : GoodIn wsX11_row wsX9_told := goodIn_sub (fun _ h => List.mem_cons_of_mem _ (List.mem_append_right _ (h))) gX9_told_all
set_option maxRecDepth 20000 in
theorem gX11_row_X9_told : GoodIn wsX11_row (wsV RX11 201 RX9 yX9_told wsX9_told) := goodIn_app (goodIn_r _ [2, 3, 4, 5] rfl (by decide +kernel)) ggX11_row_X9_told
set_option maxRecDepth 100000 in
theorem dA37_cX11_choice : kDec cX11_choice [(0, .aload_n 0, 1), (1, .getfield 86, 3), (4, .iload_n 1, 1), (5, .iload_n 2, 1), (6, .invokevirtual 242, 3), (9, .ireturn, 1)] = true := by decide +kernel
theorem dX11_choice_0 : decode cX11_choice 0 = .ok (.aload_n 0, 1) := kDec_at dA37_cX11_choice 0 rfl
theorem dX11_choice_1 : decode cX11_choice 1 = .ok (.getfield 86, 3) := kDec_at dA37_cX11_choice 1 rfl
theorem dX11_choice_4 : decode cX11_choice 4 = .ok (.iload_n 1, 1) := kDec_at dA37_cX11_choice 2 rfl
theorem dX11_choice_5 : decode cX11_choice 5 = .ok (.iload_n 2, 1) := kDec_at dA37_cX11_choice 3 rfl
theorem dX11_choice_6 : decode cX11_choice 6 = .ok (.invokevirtual 242, 3) := kDec_at dA37_cX11_choice 4 rfl
theorem dX11_choice_9 : decode cX11_choice 9 = .ok (.ireturn, 1) := kDec_at dA37_cX11_choice 5 rfl
set_option maxRecDepth 20000 in
theorem gX1_clsall : wsX10.all goodWord = true := by decide +kernel
set_option maxRecDepth 20000 in
theorem gX1_told_all : wsX1_told.all goodWord = true := by
  unfold wsX1_told
  exact good_c (by decide +kernel) (good_a ((by decide +kernel)) gX1_clsall)
set_option maxRecDepth 20000 in
theorem ggX11_choice_X1_told : GoodIn wsX11_choice wsX1_told := goodIn_sub (fun _ h => List.mem_cons_of_mem _ (List.mem_append_right _ (h))) gX1_told_all
set_option maxRecDepth 20000 in
theorem gX11_choice_X1_told : GoodIn wsX11_choice (wsV RX11 242 RX1 yX1_told wsX1_told) := goodIn_app (goodIn_r _ [2, 3, 4, 5] rfl (by decide +kernel)) ggX11_choice_X1_told

end

/-! 36.mender -/
section
set_option maxHeartbeats 40000000 in
set_option maxRecDepth 100000 in
theorem x_end (l : Launch) (dC : Nat → ClassId) (dI : Nat → Nat → Nat) (cI cS : ClassId) (sz : Nat) (oX : Nat) (nT : Nat) (nL : Nat) (nM : Nat) (oC : Nat) (oP : Nat) (oH : Nat) (oK : Nat) (oG : Nat) (oR : Nat) (oQ : Nat) (oW : Nat) (aT : Nat) (fa : Int32) (lT : Int32) (n : Int32) (g_lT : 0 ≤ lT.toInt ∧ lT.toInt ≤ 900) : kMi l yX11_end wsX11_end ({ frames := 1, cells := 0, slots := 0, locals := 21 } : Room) [.ref oX, .int n] sz (dC, dI) vwCl [(cI, .int), (cS, .short)] [(oX, .inr (11, [.ref nT, .ref nL, .ref nM, .ref oC, .ref oP, .ref oH, .ref oK, .ref oG, .ref oR, .ref oQ, .ref oW, .int fa])), (nT, .inr (5, [.ref aT, .int lT]))] (fun _ => True) 0 0 (fun (A : Nat → Prop) (r : Int32) (hh9 : Heap) => ∀ PZ9 : Prop, (∀ (lT' : Int32), kPD (dC, dI) vwCl A [(oX, .inr (11, [.ref nT, .ref nL, .ref nM, .ref oC, .ref oP, .ref oH, .ref oK, .ref oG, .ref oR, .ref oQ, .ref oW, .int fa])), (nT, .inr (5, [.ref aT, .int lT']))] hh9 → (0 ≤ lT'.toInt ∧ lT'.toInt ≤ 900) → ((r.toInt = 1 ∧ 0 ≤ n.toInt ∧ n.toInt ≤ lT.toInt ∧ lT'.toInt = n.toInt) ∨ (r.toInt = 0 ∧ (n.toInt < 0 ∨ lT.toInt < n.toInt) ∧ lT'.toInt = lT.toInt)) → PZ9) → PZ9) := by
  refine kMi_of (cc := cX11_end) (maxL := 2) (ret := (some .boolean)) (lv := [(0, .ref oX), (1, .int n)]) (by decide +kernel) rfl rfl (Nat.le_of_ble_eq_true rfl) ?_
  intro p e s m below meth c A QQ ls hx hb hr hts hml hown hlocks hA hQQ hK hX hP hD hS hl
  have hown : s.vm.findClass RX11 = some m.cls := hown
  have hcf := k_cf hx hb hml hown hts
  have in_X11 : ∀ w ∈ wsX110, w ∈ wsX11_end := fun _ h => List.mem_cons_of_mem _ (List.mem_append_left _ (List.mem_append_left _ (List.mem_append_left _ (List.mem_append_right _ (h)))))
  refine lv_iload_n hx hb dX11_end_0 rfl (lv_at hl 1 rfl) ?_
  refine lv_if_lt (tgt := 15) hx hb dX11_end_1 (by decide) (fun c_1 => ?_) (fun c_1 => ?_)
  · have tc_1 : n.toInt < 0 := v_lt c_1
    refine lv_iconst (v := 0) hx hb dX11_end_15 (by decide) ?_
    exact kl_z (v := 0) hQQ hx hb hr hlocks hS dX11_end_16 (rfl) (fun PZ9 kZ9 => kZ9 lT (⟨hP, hD⟩) (g_lT) (by show (0 = 1 ∧ 0 ≤ n.toInt ∧ n.toInt ≤ lT.toInt ∧ lT.toInt = n.toInt) ∨ (0 = 0 ∧ (n.toInt < 0 ∨ lT.toInt < n.toInt) ∧ lT.toInt = lT.toInt); omega))
  · have tc_1 : 0 ≤ n.toInt := v_nlt c_1
    refine lv_iload_n hx hb dX11_end_4 rfl (lv_at hl 1 rfl) ?_
    refine lv_aload_n hx hb dX11_end_5 rfl (lv_at hl 0 rfl) ?_
    refine va_get (D := (dC, dI)) (ci := 11) (v := .ref nT) (C := RX11) (T := TX11) (N := 12) hx hb hts in_X11 hown hK hP 0 rfl rfl 0 (Nat.le_of_ble_eq_true rfl) (hts (.fieldLink RX11 30 "TextMender" "tape" "LTextMender$Numbers;") (List.mem_of_getElem? (i := 1) rfl)) (fun _ h9 => h9) rfl dX11_end_6 ?_
    refine kV_i (rest := [.int n]) (q0 := 0) (ci := 5) hcf (m_X5_length l dC dI cI cS s.heap.size nT aT lT ) kc_X5_length gX11_end_X5_length rfl rfl rfl ⟨Nat.le_of_ble_eq_true rfl, Nat.le_of_ble_eq_true rfl⟩ kX_t hK hP hD hS hA [1] [0] rfl (by decide +kernel) rfl rfl rfl hl rfl (Nat.le_of_ble_eq_true rfl) dX11_end_9 ⟨Nat.le_of_ble_eq_true rfl, Nat.le_of_ble_eq_true rfl⟩ (fun r_2 H locs hB hJ hSn => ?_)
    refine hB _ (fun hPD9 hf2_0 => ?_)
    clear hB
    obtain ⟨hPn, hDn⟩ := hJ _ hPD9.1 hPD9.2 [(oX, .inr (11, [.ref nT, .ref nL, .ref nM, .ref oC, .ref oP, .ref oH, .ref oK, .ref oG, .ref oR, .ref oQ, .ref oW, .int fa])), (nT, .inr (5, [.ref aT, .int lT]))] rfl
    clear hP hD hS hJ hPD9
    have hP := hPn
    have hD := hDn
    have hS := hSn
    clear hPn hDn hSn
    rw [hf2_0]
    refine lv_icmp_le (tgt := 17) hx hb dX11_end_12 (by decide) (fun c_3 => ?_) (fun c_3 => ?_)
    · have tc_3 : n.toInt ≤ lT.toInt := v_le c_3
      have rw3_0 := v_rng n
      refine lv_aload_n hx hb dX11_end_17 rfl (lv_at hl 0 rfl) ?_
      refine va_get (D := (dC, dI)) (ci := 11) (v := .ref nT) (C := RX11) (T := TX11) (N := 12) hx hb hts in_X11 hown hK hP 0 rfl rfl 0 (Nat.le_of_ble_eq_true rfl) (hts (.fieldLink RX11 30 "TextMender" "tape" "LTextMender$Numbers;") (List.mem_of_getElem? (i := 1) rfl)) (fun _ h9 => h9) rfl dX11_end_18 ?_
      refine lv_iload_n hx hb dX11_end_21 rfl (lv_at hl 1 rfl) ?_
      refine kV_v (rest := []) (q0 := 0) (ci := 5) hcf (m_X5_cut l dC dI cI cS H.size nT aT lT n (v_rr g_lT (by decide) (by decide))) kc_X5_cut gX11_end_X5_cut rfl rfl rfl ⟨Nat.le_of_ble_eq_true rfl, Nat.le_of_ble_eq_true rfl⟩ kX_t hK hP hD hS hA [1] [0] rfl (by decide +kernel) rfl rfl rfl hl rfl (Nat.le_of_ble_eq_true rfl) dX11_end_22 ⟨Nat.le_of_ble_eq_true rfl, Nat.le_of_ble_eq_true rfl⟩ (fun H locs hB hJ hSn => ?_)
      refine hB _ (fun lu_4 hPD9 hf4_0 hf4_1 hf4_2 => ?_)
      clear hB
      obtain ⟨hPn, hDn⟩ := hJ _ hPD9.1 hPD9.2 [(oX, .inr (11, [.ref nT, .ref nL, .ref nM, .ref oC, .ref oP, .ref oH, .ref oK, .ref oG, .ref oR, .ref oQ, .ref oW, .int fa])), (nT, .inr (5, [.ref aT, .int lu_4]))] rfl
      clear hP hD hS hJ hPD9
      have hP := hPn
      have hD := hDn
      have hS := hSn
      clear hPn hDn hSn
      have ha4 : lu_4.toInt = n.toInt := F_cut_l hf4_2 (by first | decide | omega) (by first | omega | (show (0 : Int) ≤ _; omega))
      refine lv_iconst (v := 1) hx hb dX11_end_25 (by decide) ?_
      exact kl_z (v := 1) hQQ hx hb hr hlocks hS dX11_end_26 (rfl) (fun PZ9 kZ9 => kZ9 lu_4 (⟨hP, hD⟩) (by omega) (by show (1 = 1 ∧ 0 ≤ n.toInt ∧ n.toInt ≤ lT.toInt ∧ lu_4.toInt = n.toInt) ∨ (1 = 0 ∧ (n.toInt < 0 ∨ lT.toInt < n.toInt) ∧ lu_4.toInt = lT.toInt); omega))
    · have tc_3 : lT.toInt < n.toInt := v_nle c_3
      have rw3_0 := v_rng n
      refine lv_iconst (v := 0) hx hb dX11_end_15 (by decide) ?_
      exact kl_z (v := 0) hQQ hx hb hr hlocks hS dX11_end_16 (rfl) (fun PZ9 kZ9 => kZ9 lT (⟨hP, hD⟩) (g_lT) (by show (0 = 1 ∧ 0 ≤ n.toInt ∧ n.toInt ≤ lT.toInt ∧ lT.toInt = n.toInt) ∨ (0 = 0 ∧ (n.toInt < 0 ∨ lT.toInt < n.toInt) ∧ lT.toInt = lT.toInt); omega))

set_option maxHeartbeats 40000000 in
set_option maxRecDepth 100000 in
theorem x_span_n (l : Launch) (dC : Nat → ClassId) (dI : Nat → Nat → Nat) (cI cS : ClassId) (sz : Nat) (oX : Nat) (nT : Nat) (nL : Nat) (nM : Nat) (oC : Nat) (oP : Nat) (oH : Nat) (oK : Nat) (oG : Nat) (oR : Nat) (oQ : Nat) (oW : Nat) (o4 : Nat) (o5 : Nat) (fa : Int32) (cd : Int32) (fr : Int32) (n : Int32) (le : Int32) (sp : Int32) (h4 : ¬ cd.toInt = 4) (h5 : ¬ cd.toInt = 5) : kMi l yX11_span wsX11_span ({ frames := 1, cells := 0, slots := 0, locals := 21 } : Room) [.ref oX, .int cd, .int fr, .int n, .int le, .int sp] sz (dC, dI) vwCl [(cI, .int), (cS, .short)] [(oX, .inr (11, [.ref nT, .ref nL, .ref nM, .ref oC, .ref oP, .ref oH, .ref oK, .ref oG, .ref oR, .ref oQ, .ref oW, .int fa])), (oC, .inr (2, [.ref o4, .ref o5]))] (fun _ => True) 0 0 (fun (A : Nat → Prop) (r : Int32) (hh9 : Heap) => ∀ PZ9 : Prop, (∀ (fa' : Int32), kPD (dC, dI) vwCl A [(oX, .inr (11, [.ref nT, .ref nL, .ref nM, .ref oC, .ref oP, .ref oH, .ref oK, .ref oG, .ref oR, .ref oQ, .ref oW, .int fa'])), (oC, .inr (2, [.ref o4, .ref o5]))] hh9 → (r = (-1)) → PZ9) → PZ9) := by
  refine kMi_of (cc := cX11_span) (maxL := 8) (ret := (some .int)) (lv := [(0, .ref oX), (1, .int cd), (2, .int fr), (3, .int n), (4, .int le), (5, .int sp)]) (by decide +kernel) rfl rfl (Nat.le_of_ble_eq_true rfl) ?_
  intro p e s m below meth c A QQ ls hx hb hr hts hml hown hlocks hA hQQ hK hX hP hD hS hl
  have hown : s.vm.findClass RX11 = some m.cls := hown
  have hcf := k_cf hx hb hml hown hts
  have in_X11 : ∀ w ∈ wsX110, w ∈ wsX11_span := fun _ h => List.mem_cons_of_mem _ (List.mem_append_left _ (List.mem_append_left _ (List.mem_append_left _ (List.mem_append_left _ (List.mem_append_left _ (List.mem_append_left _ (List.mem_append_left _ (List.mem_append_left _ (List.mem_append_right _ (h))))))))))
  refine lv_aload_n hx hb dX11_span_0 rfl (lv_at hl 0 rfl) ?_
  refine lv_iconst (v := (-1)) hx hb dX11_span_1 (by decide) ?_
  refine va_put (D := (dC, dI)) (ci := 11) (v := .int (-1)) (ty := .int) (C := RX11) (T := TX11) (N := 12) hx hb hts in_X11 tyX11 tyX11_ok nmX11 hown hK hP hD hS 0 rfl rfl 11 (Nat.le_of_ble_eq_true rfl) (hts (.fieldLink RX11 90 "TextMender" "fault" "I") (List.mem_of_getElem? (i := 1) rfl)) (fun _ h9 => h9) rfl (tyX11_ok 11 (Nat.le_of_ble_eq_true rfl)) rfl rfl (Nat.le_of_ble_eq_true rfl) dX11_span_2 (kW (wn := [(oX, .inr (11, [.ref nT, .ref nL, .ref nM, .ref oC, .ref oP, .ref oH, .ref oK, .ref oG, .ref oR, .ref oQ, .ref oW, .int (-1)])), (oC, .inr (2, [.ref o4, .ref o5]))]) rfl (fun H locs hPn hDn hSn => ?_))
  clear hP hD hS
  have hP := hPn
  have hD := hDn
  have hS := hSn
  clear hPn hDn hSn
  refine lv_aload_n hx hb dX11_span_5 rfl (lv_at hl 0 rfl) ?_
  refine va_get (D := (dC, dI)) (ci := 11) (v := .ref oC) (C := RX11) (T := TX11) (N := 12) hx hb hts in_X11 hown hK hP 0 rfl rfl 3 (Nat.le_of_ble_eq_true rfl) (hts (.fieldLink RX11 40 "TextMender" "codes" "LTextMender$Codes;") (List.mem_of_getElem? (i := 2) rfl)) (fun _ h9 => h9) rfl dX11_span_6 ?_
  refine lv_iload_n hx hb dX11_span_9 rfl (lv_at hl 1 rfl) ?_
  refine kV_q (rest := []) (q0 := 0) (ci := 2) hcf (m_X2_toldCode_n l dC dI cI cS H.size oC o4 o5 cd (by omega) (by omega)) kc_X2_toldCode gX11_span_X2_toldCode rfl rfl rfl ⟨Nat.le_of_ble_eq_true rfl, Nat.le_of_ble_eq_true rfl⟩ kX_t hK hP hD hS hA [1] [0] rfl (by decide +kernel) rfl rfl rfl hl rfl (Nat.le_of_ble_eq_true rfl) dX11_span_10 ⟨Nat.le_of_ble_eq_true rfl, Nat.le_of_ble_eq_true rfl⟩ (fun H locs hB hJ hSn => ?_)
  refine hB _ (fun hPD9 => ?_)
  clear hB
  obtain ⟨hPn, hDn⟩ := hJ _ hPD9.1 hPD9.2 [(oX, .inr (11, [.ref nT, .ref nL, .ref nM, .ref oC, .ref oP, .ref oH, .ref oK, .ref oG, .ref oR, .ref oQ, .ref oW, .int (-1)])), (oC, .inr (2, [.ref o4, .ref o5]))] rfl
  clear hP hD hS hJ hPD9
  have hP := hPn
  have hD := hDn
  have hS := hSn
  clear hPn hDn hSn
  refine lv_astoreN (lv' := [(6, .null), (0, .ref oX), (1, .int cd), (2, .int fr), (3, .int n), (4, .int le), (5, .int sp)]) hx hb dX11_span_13 hl (by decide) rfl (fun ls hl => ?_)
  refine lv_aloadN hx hb dX11_span_15 (lv_at hl 0 rfl) ?_
  refine lv_ifnullN (tgt := 34) hx hb dX11_span_17 (by decide) ?_
  refine lv_iconst (v := (-1)) hx hb dX11_span_34 (by decide) ?_
  exact kl_i (v := (-1)) hQQ hx hb hr hlocks hS dX11_span_35 (fun PZ9 kZ9 => kZ9 (-1) (⟨hP, hD⟩) (rfl))

set_option maxHeartbeats 40000000 in
set_option maxRecDepth 100000 in
theorem x_blank_n (l : Launch) (dC : Nat → ClassId) (dI : Nat → Nat → Nat) (cI cS : ClassId) (sz : Nat) (oX : Nat) (nT : Nat) (nL : Nat) (nM : Nat) (oC : Nat) (oP : Nat) (oH : Nat) (oK : Nat) (oG : Nat) (oR : Nat) (oQ : Nat) (oW : Nat) (o4 : Nat) (o5 : Nat) (fa : Int32) (cd : Int32) (h4 : ¬ cd.toInt = 4) (h5 : ¬ cd.toInt = 5) : kMi l yX11_blank wsX11_blank ({ frames := 1, cells := 0, slots := 0, locals := 21 } : Room) [.ref oX, .int cd] sz (dC, dI) vwCl [(cI, .int), (cS, .short)] [(oX, .inr (11, [.ref nT, .ref nL, .ref nM, .ref oC, .ref oP, .ref oH, .ref oK, .ref oG, .ref oR, .ref oQ, .ref oW, .int fa])), (oC, .inr (2, [.ref o4, .ref o5]))] (fun _ => True) 0 0 (fun (A : Nat → Prop) (r : Int32) (hh9 : Heap) => ∀ PZ9 : Prop, (kPD (dC, dI) vwCl A [(oX, .inr (11, [.ref nT, .ref nL, .ref nM, .ref oC, .ref oP, .ref oH, .ref oK, .ref oG, .ref oR, .ref oQ, .ref oW, .int fa])), (oC, .inr (2, [.ref o4, .ref o5]))] hh9 → (r = 0) → PZ9) → PZ9) := by
  refine kMi_of (cc := cX11_blank) (maxL := 3) (ret := (some .boolean)) (lv := [(0, .ref oX), (1, .int cd)]) (by decide +kernel) rfl rfl (Nat.le_of_ble_eq_true rfl) ?_
  intro p e s m below meth c A QQ ls hx hb hr hts hml hown hlocks hA hQQ hK hX hP hD hS hl
  have hown : s.vm.findClass RX11 = some m.cls := hown
  have hcf := k_cf hx hb hml hown hts
  have in_X11 : ∀ w ∈ wsX110, w ∈ wsX11_blank := fun _ h => List.mem_cons_of_mem _ (List.mem_append_left _ (List.mem_append_left _ (List.mem_append_left _ (List.mem_append_left _ (List.mem_append_left _ (List.mem_append_left _ (List.mem_append_right _ (h))))))))
  refine lv_aload_n hx hb dX11_blank_0 rfl (lv_at hl 0 rfl) ?_
  refine va_get (D := (dC, dI)) (ci := 11) (v := .ref oC) (C := RX11) (T := TX11) (N := 12) hx hb hts in_X11 hown hK hP 0 rfl rfl 3 (Nat.le_of_ble_eq_true rfl) (hts (.fieldLink RX11 40 "TextMender" "codes" "LTextMender$Codes;") (List.mem_of_getElem? (i := 1) rfl)) (fun _ h9 => h9) rfl dX11_blank_1 ?_
  refine lv_iload_n hx hb dX11_blank_4 rfl (lv_at hl 1 rfl) ?_
  refine kV_q (rest := []) (q0 := 0) (ci := 2) hcf (m_X2_toldCode_n l dC dI cI cS s.heap.size oC o4 o5 cd (by omega) (by omega)) kc_X2_toldCode gX11_blank_X2_toldCode rfl rfl rfl ⟨Nat.le_of_ble_eq_true rfl, Nat.le_of_ble_eq_true rfl⟩ kX_t hK hP hD hS hA [1] [0] rfl (by decide +kernel) rfl rfl rfl hl rfl (Nat.le_of_ble_eq_true rfl) dX11_blank_5 ⟨Nat.le_of_ble_eq_true rfl, Nat.le_of_ble_eq_true rfl⟩ (fun H locs hB hJ hSn => ?_)
  refine hB _ (fun hPD9 => ?_)
  clear hB
  obtain ⟨hPn, hDn⟩ := hJ _ hPD9.1 hPD9.2 [(oX, .inr (11, [.ref nT, .ref nL, .ref nM, .ref oC, .ref oP, .ref oH, .ref oK, .ref oG, .ref oR, .ref oQ, .ref oW, .int fa])), (oC, .inr (2, [.ref o4, .ref o5]))] rfl
  clear hP hD hS hJ hPD9
  have hP := hPn
  have hD := hDn
  have hS := hSn
  clear hPn hDn hSn
  refine lv_astore_nN (lv' := [(2, .null), (0, .ref oX), (1, .int cd)]) hx hb dX11_blank_8 rfl hl (by decide) rfl (fun ls hl => ?_)
  refine lv_aload_nN hx hb dX11_blank_9 rfl (lv_at hl 0 rfl) ?_
  refine lv_ifnonnullN hx hb dX11_blank_10 ?_
  refine lv_iconst (v := 0) hx hb dX11_blank_13 (by decide) ?_
  exact kl_z (v := 0) hQQ hx hb hr hlocks hS dX11_blank_14 (rfl) (fun PZ9 kZ9 => kZ9 (⟨hP, hD⟩) (rfl))

set_option maxHeartbeats 40000000 in
set_option maxRecDepth 100000 in
theorem m_X11_marksOf (l : Launch) (dC : Nat → ClassId) (dI : Nat → Nat → Nat) (cI cS : ClassId) (sz : Nat) (nx : Nat) (ax : Nat) (lx : Int32) (fx : Nat → Int32) (g_lx : 0 ≤ lx.toInt ∧ lx.toInt ≤ 300) : kMi l yX11_marksOf wsX11_marksOf ({ frames := 1, cells := 0, slots := 0, locals := 21 } : Room) [.ref nx] sz (dC, dI) vwCl [(cI, .int), (cS, .short)] [(nx, .inr (5, [.ref ax, .int lx])), (ax, .inl (cI, 300, .inl fx))] (fun _ => True) 0 0 (fun (A : Nat → Prop) (r : Int32) (hh9 : Heap) => ∀ PZ9 : Prop, (kPD (dC, dI) vwCl A [(nx, .inr (5, [.ref ax, .int lx])), (ax, .inl (cI, 300, .inl fx))] hh9 → (0 ≤ r.toInt ∧ r.toInt ≤ 300) → PZ9) → PZ9) := by
  refine kMi_of (cc := cX11_marksOf) (maxL := 3) (ret := (some .int)) (lv := [(0, .ref nx)]) (by decide +kernel) rfl rfl (Nat.le_of_ble_eq_true rfl) ?_
  intro p e s m below meth c A QQ ls hx hb hr hts hml hown hlocks hA hQQ hK hX hP hD hS hl
  have hown : s.vm.findClass RX11 = some m.cls := hown
  have hcf := k_cf hx hb hml hown hts
  refine lv_iconst (v := 0) hx hb dX11_marksOf_0 (by decide) ?_
  refine lv_istore_n (lv' := [(1, .int 0), (0, .ref nx)]) hx hb dX11_marksOf_1 rfl hl (by decide) rfl (fun ls hl => ?_)
  refine lv_iconst (v := 0) hx hb dX11_marksOf_2 (by decide) ?_
  refine lv_istore_n (lv' := [(2, .int 0), (1, .int 0), (0, .ref nx)]) hx hb dX11_marksOf_3 rfl hl (by decide) rfl (fun ls hl => ?_)
  have LOOP_4 : ∀ (k_4 : Nat) (i : Int32) (mk : Int32) (H : Heap) (locs : List Loc) (ls : Array Slot), MSd (300 - i.toInt : Int) k_4 → (0 ≤ i.toInt ∧ i.toInt ≤ 300) → (0 ≤ mk.toInt ∧ mk.toInt ≤ i.toInt) → va_P (dC, dI) vwCl [(nx, .inr (5, [.ref ax, .int lx])), (ax, .inl (cI, 300, .inl fx))] H → va_D A [(nx, .inr (5, [.ref ax, .int lx])), (ax, .inl (cI, 300, .inl fx))] → va_S A s.heap H locs → lv_has ls 3 [(2, .int i), (1, .int mk), (0, .ref nx)] → W p l e (headSpec wsX11_marksOf ({ frames := 1, cells := 0, slots := 0, locals := 21 } : Room)).room s m ([.ref nx] : List Value).toArray below meth c H locs 0 0 (MQ below QQ ([.ref nx] : List Value).toArray s 0 0 A) (F0 m 4 ls []) := by
    clear hP hD hS hl
    intro k_4
    induction k_4 with
    | zero =>
      intro i mk H locs ls hm_4 g_i g_mk hP hD hS hl
      exact ms_0 hm_4
    | succ k_4 ih_4 =>
      intro i mk H locs ls hm_4 g_i g_mk hP hD hS hl
      refine lv_iload_n hx hb dX11_marksOf_4 rfl (lv_at hl 0 rfl) ?_
      refine lv_aload_n hx hb dX11_marksOf_5 rfl (lv_at hl 2 rfl) ?_
      refine kV_i (rest := [.int i]) (q0 := 0) (ci := 5) hcf (m_X5_length l dC dI cI cS H.size nx ax lx ) kc_X5_length gX11_marksOf_X5_length rfl rfl rfl ⟨Nat.le_of_ble_eq_true rfl, Nat.le_of_ble_eq_true rfl⟩ kX_t hK hP hD hS hA [0] [1] rfl (by decide +kernel) rfl rfl rfl hl rfl (Nat.le_of_ble_eq_true rfl) dX11_marksOf_6 ⟨Nat.le_of_ble_eq_true rfl, Nat.le_of_ble_eq_true rfl⟩ (fun r_1 H locs hB hJ hSn => ?_)
      refine hB _ (fun hPD9 hf1_0 => ?_)
      clear hB
      obtain ⟨hPn, hDn⟩ := hJ _ hPD9.1 hPD9.2 [(ax, .inl (cI, 300, .inl fx)), (nx, .inr (5, [.ref ax, .int lx]))] rfl
      clear hP hD hS hJ hPD9
      have hP := hPn
      have hD := hDn
      have hS := hSn
      clear hPn hDn hSn
      rw [hf1_0]
      refine lv_icmp_ge (tgt := 32) hx hb dX11_marksOf_9 (by decide) (fun c_2 => ?_) (fun c_2 => ?_)
      · have tc_2 : lx.toInt ≤ i.toInt := v_le c_2
        refine lv_iload_n hx hb dX11_marksOf_32 rfl (lv_at hl 1 rfl) ?_
        exact kl_i (v := mk) hQQ hx hb hr hlocks hS dX11_marksOf_33 (fun PZ9 kZ9 => kZ9 (kPD_sub hP hD [1, 0] (by decide +kernel) rfl) (by omega))
      · have tc_2 : i.toInt < lx.toInt := v_nle c_2
        refine lv_aload_n hx hb dX11_marksOf_12 rfl (lv_at hl 2 rfl) ?_
        refine lv_iload_n hx hb dX11_marksOf_13 rfl (lv_at hl 0 rfl) ?_
        refine kV_i (rest := []) (q0 := 0) (ci := 5) hcf (m_X5_get l dC dI cI cS H.size nx ax 300 lx fx i (by omega) (by omega)) kc_X5_get gX11_marksOf_X5_get rfl rfl rfl ⟨Nat.le_of_ble_eq_true rfl, Nat.le_of_ble_eq_true rfl⟩ kX_t hK hP hD hS hA [1, 0] [] rfl (by decide +kernel) rfl rfl rfl hl rfl (Nat.le_of_ble_eq_true rfl) dX11_marksOf_14 ⟨Nat.le_of_ble_eq_true rfl, Nat.le_of_ble_eq_true rfl⟩ (fun r_3 H locs hB hJ hSn => ?_)
        refine hB _ (fun hPD9 hf3_0 => ?_)
        clear hB
        obtain ⟨hPn, hDn⟩ := hJ _ hPD9.1 hPD9.2 [(nx, .inr (5, [.ref ax, .int lx])), (ax, .inl (cI, 300, .inl fx))] rfl
        clear hP hD hS hJ hPD9
        have hP := hPn
        have hD := hDn
        have hS := hSn
        clear hPn hDn hSn
        refine lv_ldcw hx hb hown (hts (.constant RX11 261 (65533)) (List.mem_of_getElem? (i := 1) rfl)) dX11_marksOf_17 ?_
        refine lv_icmp_ne (tgt := 26) hx hb dX11_marksOf_20 (by decide) (fun c_4 => ?_) (fun c_4 => ?_)
        · have tc_4 : ¬ r_3.toInt = 65533 := v_ne c_4
          obtain ⟨x_5, ex_5⟩ : ∃ y : Int32, y = i + 1 := ⟨_, rfl⟩
          have tx_5 : x_5.toInt = i.toInt + 1 := v_addR (l2 := 1) (h2 := 1) ex_5 g_i (by decide) (by decide) (by decide)
          refine lv_iinc (v := x_5) (lv' := [(2, .int x_5), (1, .int mk), (0, .ref nx)]) hx hb dX11_marksOf_26 hl (k := 0) rfl (by rw [ex_5]; rfl) (by decide) rfl (fun ls hl => ?_)
          refine lv_goto (tgt := 4) hx hb dX11_marksOf_29 (by decide) ?_
          exact ih_4 x_5 mk _ _ _ (ms_lt hm_4 (by show ((300 - x_5.toInt : Int)) < 300 - i.toInt; omega) (by show (0 : Int) < 300 - i.toInt; omega)) (by show 0 ≤ x_5.toInt ∧ x_5.toInt ≤ 300; omega) (by show 0 ≤ mk.toInt ∧ mk.toInt ≤ x_5.toInt; omega) hP hD hS (lv_sub hl [0, 1, 2] rfl)
        · have tc_4 : r_3.toInt = 65533 := v_eq c_4
          obtain ⟨x_6, ex_6⟩ : ∃ y : Int32, y = mk + 1 := ⟨_, rfl⟩
          have tx_6 : x_6.toInt = mk.toInt + 1 := v_add ex_6 (by show -2147483648 ≤ mk.toInt + 1; omega) (by show mk.toInt + 1 < 2147483648; omega)
          refine lv_iinc (v := x_6) (lv' := [(1, .int x_6), (2, .int i), (0, .ref nx)]) hx hb dX11_marksOf_23 hl (k := 1) rfl (by rw [ex_6]; rfl) (by decide) rfl (fun ls hl => ?_)
          obtain ⟨x_7, ex_7⟩ : ∃ y : Int32, y = i + 1 := ⟨_, rfl⟩
          have tx_7 : x_7.toInt = i.toInt + 1 := v_addR (l2 := 1) (h2 := 1) ex_7 g_i (by decide) (by decide) (by decide)
          refine lv_iinc (v := x_7) (lv' := [(2, .int x_7), (1, .int x_6), (0, .ref nx)]) hx hb dX11_marksOf_26 hl (k := 1) rfl (by rw [ex_7]; rfl) (by decide) rfl (fun ls hl => ?_)
          refine lv_goto (tgt := 4) hx hb dX11_marksOf_29 (by decide) ?_
          exact ih_4 x_7 x_6 _ _ _ (ms_lt hm_4 (by show ((300 - x_7.toInt : Int)) < 300 - i.toInt; omega) (by show (0 : Int) < 300 - i.toInt; omega)) (by show 0 ≤ x_7.toInt ∧ x_7.toInt ≤ 300; omega) (by show 0 ≤ x_6.toInt ∧ x_6.toInt ≤ x_7.toInt; omega) hP hD hS (lv_sub hl [0, 1, 2] rfl)
  exact LOOP_4 _ 0 0 _ _ _ (ms_s _) (by decide) (by show 0 ≤ (0 : Int) ∧ (0 : Int) ≤ 0; omega) hP hD hS (lv_sub hl [0, 1, 2] rfl)

set_option maxHeartbeats 40000000 in
set_option maxRecDepth 100000 in
theorem x_count (l : Launch) (dC : Nat → ClassId) (dI : Nat → Nat → Nat) (cI cS : ClassId) (sz : Nat) (oX : Nat) (nT : Nat) (nL : Nat) (nM : Nat) (oC : Nat) (oP : Nat) (oH : Nat) (oK : Nat) (oG : Nat) (oR : Nat) (oQ : Nat) (oW : Nat) (aL : Nat) (aT : Nat) (h1 : Nat) (h2 : Nat) (g1 : Nat) (g2 : Nat) (k1 : Nat) (k2 : Nat) (o4 : Nat) (o5 : Nat) (a41 : Nat) (a42 : Nat) (a43 : Nat) (a51 : Nat) (a52 : Nat) (a53 : Nat) (fa : Int32) (lL : Int32) (fL : Nat → Int32) (lT : Int32) (lH : Int32) (gn : Int32) (lG : Int32) (lK : Int32) (l4 : Int32) (l5 : Int32) (wh : Int32) (g_lL : 0 ≤ lL.toInt ∧ lL.toInt ≤ 300) (g_lT : 0 ≤ lT.toInt ∧ lT.toInt ≤ 900) (g_lH : 0 ≤ lH.toInt ∧ lH.toInt ≤ 6) (g_gn : 0 ≤ gn.toInt ∧ gn.toInt ≤ 19) (g_lG : 0 ≤ lG.toInt ∧ lG.toInt ≤ 20) (g_lK : 0 ≤ lK.toInt ∧ lK.toInt ≤ 300) : kMi l yX11_count wsX11_count ({ frames := 2, cells := 0, slots := 0, locals := 43 } : Room) [.ref oX, .int wh] sz (dC, dI) vwCl [(cI, .int), (cS, .short)] [(oX, .inr (11, [.ref nT, .ref nL, .ref nM, .ref oC, .ref oP, .ref oH, .ref oK, .ref oG, .ref oR, .ref oQ, .ref oW, .int fa])), (nL, .inr (5, [.ref aL, .int lL])), (aL, .inl (cI, 300, .inl fL)), (nT, .inr (5, [.ref aT, .int lT])), (oH, .inr (4, [.ref oP, .ref h1, .ref h2, .int lH])), (oG, .inr (0, [.ref g1, .ref g2, .int gn, .int lG])), (oK, .inr (3, [.ref k1, .ref k2, .int lK])), (oC, .inr (2, [.ref o4, .ref o5])), (o4, .inr (10, [.ref a41, .ref a42, .ref a43, .int l4])), (o5, .inr (10, [.ref a51, .ref a52, .ref a53, .int l5]))] (fun _ => True) 0 0 (fun (A : Nat → Prop) (r : Int32) (hh9 : Heap) => ∀ PZ9 : Prop, (kPD (dC, dI) vwCl A [(oX, .inr (11, [.ref nT, .ref nL, .ref nM, .ref oC, .ref oP, .ref oH, .ref oK, .ref oG, .ref oR, .ref oQ, .ref oW, .int fa])), (nL, .inr (5, [.ref aL, .int lL])), (aL, .inl (cI, 300, .inl fL)), (nT, .inr (5, [.ref aT, .int lT])), (oH, .inr (4, [.ref oP, .ref h1, .ref h2, .int lH])), (oG, .inr (0, [.ref g1, .ref g2, .int gn, .int lG])), (oK, .inr (3, [.ref k1, .ref k2, .int lK])), (oC, .inr (2, [.ref o4, .ref o5])), (o4, .inr (10, [.ref a41, .ref a42, .ref a43, .int l4])), (o5, .inr (10, [.ref a51, .ref a52, .ref a53, .int l5]))] hh9 → PZ9) → PZ9) := by
  refine kMi_of (cc := cX11_count) (maxL := 2) (ret := (some .int)) (lv := [(0, .ref oX), (1, .int wh)]) (by decide +kernel) rfl rfl (Nat.le_of_ble_eq_true rfl) ?_
  intro p e s m below meth c A QQ ls hx hb hr hts hml hown hlocks hA hQQ hK hX hP hD hS hl
  have hown : s.vm.findClass RX11 = some m.cls := hown
  have hcf := k_cf hx hb hml hown hts
  have in_X11 : ∀ w ∈ wsX110, w ∈ wsX11_count := fun _ h => List.mem_cons_of_mem _ (List.mem_append_left _ (List.mem_append_left _ (List.mem_append_left _ (List.mem_append_left _ (List.mem_append_left _ (List.mem_append_left _ (List.mem_append_left _ (List.mem_append_left _ (List.mem_append_left _ (List.mem_append_left _ (List.mem_append_left _ (List.mem_append_left _ (List.mem_append_right _ (h))))))))))))))
  replace g_lL := hid g_lL
  replace g_lT := hid g_lT
  replace g_lH := hid g_lH
  replace g_gn := hid g_gn
  replace g_lG := hid g_lG
  replace g_lK := hid g_lK
  refine lv_iload_n hx hb dX11_count_0 rfl (lv_at hl 1 rfl) ?_
  by_cases c_1 : wh = 0
  · refine lv_tableIn (tgt := 48) hx hb dX11_count_1 (by rw [c_1]; decide) (by rw [c_1]; decide) (by rw [c_1]; rfl) (by decide) ?_
    have tc_1 : wh.toInt = 0 := v_eq c_1
    refine lv_aload_n hx hb dX11_count_48 rfl (lv_at hl 0 rfl) ?_
    refine va_get (D := (dC, dI)) (ci := 11) (v := .ref nL) (C := RX11) (T := TX11) (N := 12) hx hb hts in_X11 hown hK hP 0 rfl rfl 1 (Nat.le_of_ble_eq_true rfl) (hts (.fieldLink RX11 34 "TextMender" "letters" "LTextMender$Numbers;") (List.mem_of_getElem? (i := 1) rfl)) (fun _ h9 => h9) rfl dX11_count_49 ?_
    refine kV_i (rest := []) (q0 := 0) (ci := 5) hcf (m_X5_length l dC dI cI cS s.heap.size nL aL lL ) kc_X5_length gX11_count_X5_length rfl rfl rfl ⟨Nat.le_of_ble_eq_true rfl, Nat.le_of_ble_eq_true rfl⟩ kX_t hK hP hD hS hA (posT mk_13 0) (posF mk_13 0) (kC_of mk_13 rfl rfl) (by decide +kernel) rfl rfl rfl hl rfl (Nat.le_of_ble_eq_true rfl) dX11_count_52 ⟨Nat.le_of_ble_eq_true rfl, Nat.le_of_ble_eq_true rfl⟩ (fun r_2 H locs hB hJ hSn => ?_)
    refine hB _ (fun hPD9 hf2_0 => ?_)
    clear hB
    obtain ⟨hPn, hDn⟩ := kJi (m := mk_13) hJ rfl hPD9.1 hPD9.2 (wn := [(oX, .inr (11, [.ref nT, .ref nL, .ref nM, .ref oC, .ref oP, .ref oH, .ref oK, .ref oG, .ref oR, .ref oQ, .ref oW, .int fa])), (nL, .inr (5, [.ref aL, .int lL])), (aL, .inl (cI, 300, .inl fL)), (nT, .inr (5, [.ref aT, .int lT])), (oH, .inr (4, [.ref oP, .ref h1, .ref h2, .int lH])), (oG, .inr (0, [.ref g1, .ref g2, .int gn, .int lG])), (oK, .inr (3, [.ref k1, .ref k2, .int lK])), (oC, .inr (2, [.ref o4, .ref o5])), (o4, .inr (10, [.ref a41, .ref a42, .ref a43, .int l4])), (o5, .inr (10, [.ref a51, .ref a52, .ref a53, .int l5]))]) rfl
    clear hP hD hS hJ hPD9
    have hP := hPn
    have hD := hDn
    have hS := hSn
    clear hPn hDn hSn
    rw [hf2_0]
    exact kl_i (v := lL) hQQ hx hb hr hlocks hS dX11_count_55 (fun PZ9 kZ9 => kZ9 (⟨hP, hD⟩))
  · skip
    have tc_1 : ¬ wh.toInt = 0 := v_ne c_1
    by_cases c_3 : wh = 1
    · refine lv_tableIn (tgt := 56) hx hb dX11_count_1 (by rw [c_3]; decide) (by rw [c_3]; decide) (by rw [c_3]; rfl) (by decide) ?_
      have tc_3 : wh.toInt = 1 := v_eq c_3
      refine lv_aload_n hx hb dX11_count_56 rfl (lv_at hl 0 rfl) ?_
      refine va_get (D := (dC, dI)) (ci := 11) (v := .ref nT) (C := RX11) (T := TX11) (N := 12) hx hb hts in_X11 hown hK hP 0 rfl rfl 0 (Nat.le_of_ble_eq_true rfl) (hts (.fieldLink RX11 30 "TextMender" "tape" "LTextMender$Numbers;") (List.mem_of_getElem? (i := 2) rfl)) (fun _ h9 => h9) rfl dX11_count_57 ?_
      refine kV_i (rest := []) (q0 := 0) (ci := 5) hcf (m_X5_length l dC dI cI cS s.heap.size nT aT lT ) kc_X5_length gX11_count_X5_length rfl rfl rfl ⟨Nat.le_of_ble_eq_true rfl, Nat.le_of_ble_eq_true rfl⟩ kX_t hK hP hD hS hA (posT mk_12 0) (posF mk_12 0) (kC_of mk_12 rfl rfl) (by decide +kernel) rfl rfl rfl hl rfl (Nat.le_of_ble_eq_true rfl) dX11_count_60 ⟨Nat.le_of_ble_eq_true rfl, Nat.le_of_ble_eq_true rfl⟩ (fun r_4 H locs hB hJ hSn => ?_)
      refine hB _ (fun hPD9 hf4_0 => ?_)
      clear hB
      obtain ⟨hPn, hDn⟩ := kJi (m := mk_12) hJ rfl hPD9.1 hPD9.2 (wn := [(oX, .inr (11, [.ref nT, .ref nL, .ref nM, .ref oC, .ref oP, .ref oH, .ref oK, .ref oG, .ref oR, .ref oQ, .ref oW, .int fa])), (nL, .inr (5, [.ref aL, .int lL])), (aL, .inl (cI, 300, .inl fL)), (nT, .inr (5, [.ref aT, .int lT])), (oH, .inr (4, [.ref oP, .ref h1, .ref h2, .int lH])), (oG, .inr (0, [.ref g1, .ref g2, .int gn, .int lG])), (oK, .inr (3, [.ref k1, .ref k2, .int lK])), (oC, .inr (2, [.ref o4, .ref o5])), (o4, .inr (10, [.ref a41, .ref a42, .ref a43, .int l4])), (o5, .inr (10, [.ref a51, .ref a52, .ref a53, .int l5]))]) rfl
      clear hP hD hS hJ hPD9
      have hP := hPn
      have hD := hDn
      have hS := hSn
      clear hPn hDn hSn
      rw [hf4_0]
      exact kl_i (v := lT) hQQ hx hb hr hlocks hS dX11_count_63 (fun PZ9 kZ9 => kZ9 (⟨hP, hD⟩))
    · skip
      have tc_3 : ¬ wh.toInt = 1 := v_ne c_3
      by_cases c_5 : wh = 2
      · refine lv_tableIn (tgt := 64) hx hb dX11_count_1 (by rw [c_5]; decide) (by rw [c_5]; decide) (by rw [c_5]; rfl) (by decide) ?_
        have tc_5 : wh.toInt = 2 := v_eq c_5
        refine lv_aload_n hx hb dX11_count_64 rfl (lv_at hl 0 rfl) ?_
        refine va_get (D := (dC, dI)) (ci := 11) (v := .ref oH) (C := RX11) (T := TX11) (N := 12) hx hb hts in_X11 hown hK hP 0 rfl rfl 5 (Nat.le_of_ble_eq_true rfl) (hts (.fieldLink RX11 48 "TextMender" "harms" "LTextMender$Harms;") (List.mem_of_getElem? (i := 3) rfl)) (fun _ h9 => h9) rfl dX11_count_65 ?_
        refine kV_i (rest := []) (q0 := 0) (ci := 4) hcf (m_X4_length l dC dI cI cS s.heap.size oH oP h1 h2 lH (g_lH)) kc_X4_length gX11_count_X4_length rfl rfl rfl ⟨Nat.le_of_ble_eq_true rfl, Nat.le_of_ble_eq_true rfl⟩ kX_t hK hP hD hS hA (posT mk_117 0) (posF mk_117 0) (kC_of mk_117 rfl rfl) (by decide +kernel) rfl rfl rfl hl rfl (Nat.le_of_ble_eq_true rfl) dX11_count_68 ⟨Nat.le_of_ble_eq_true rfl, Nat.le_of_ble_eq_true rfl⟩ (fun r_6 H locs hB hJ hSn => ?_)
        refine hB _ (fun hPD9 hf6_0 => ?_)
        clear hB
        obtain ⟨hPn, hDn⟩ := kJi (m := mk_117) hJ rfl hPD9.1 hPD9.2 (wn := [(oX, .inr (11, [.ref nT, .ref nL, .ref nM, .ref oC, .ref oP, .ref oH, .ref oK, .ref oG, .ref oR, .ref oQ, .ref oW, .int fa])), (nL, .inr (5, [.ref aL, .int lL])), (aL, .inl (cI, 300, .inl fL)), (nT, .inr (5, [.ref aT, .int lT])), (oH, .inr (4, [.ref oP, .ref h1, .ref h2, .int lH])), (oG, .inr (0, [.ref g1, .ref g2, .int gn, .int lG])), (oK, .inr (3, [.ref k1, .ref k2, .int lK])), (oC, .inr (2, [.ref o4, .ref o5])), (o4, .inr (10, [.ref a41, .ref a42, .ref a43, .int l4])), (o5, .inr (10, [.ref a51, .ref a52, .ref a53, .int l5]))]) rfl
        clear hP hD hS hJ hPD9
        have hP := hPn
        have hD := hDn
        have hS := hSn
        clear hPn hDn hSn
        rw [hf6_0]
        exact kl_i (v := lH) hQQ hx hb hr hlocks hS dX11_count_71 (fun PZ9 kZ9 => kZ9 (⟨hP, hD⟩))
      · skip
        have tc_5 : ¬ wh.toInt = 2 := v_ne c_5
        by_cases c_7 : wh = 3
        · refine lv_tableIn (tgt := 72) hx hb dX11_count_1 (by rw [c_7]; decide) (by rw [c_7]; decide) (by rw [c_7]; rfl) (by decide) ?_
          have tc_7 : wh.toInt = 3 := v_eq c_7
          refine lv_aload_n hx hb dX11_count_72 rfl (lv_at hl 0 rfl) ?_
          refine va_get (D := (dC, dI)) (ci := 11) (v := .ref oG) (C := RX11) (T := TX11) (N := 12) hx hb hts in_X11 hown hK hP 0 rfl rfl 7 (Nat.le_of_ble_eq_true rfl) (hts (.fieldLink RX11 59 "TextMender" "changes" "LTextMender$Changes;") (List.mem_of_getElem? (i := 4) rfl)) (fun _ h9 => h9) rfl dX11_count_73 ?_
          refine kV_i (rest := []) (q0 := 0) (ci := 0) hcf (m_X0_length l dC dI cI cS s.heap.size oG g1 g2 gn lG (g_gn) (g_lG)) kc_X0_length gX11_count_X0_length rfl rfl rfl ⟨Nat.le_of_ble_eq_true rfl, Nat.le_of_ble_eq_true rfl⟩ kX_t hK hP hD hS hA (posT mk_118 0) (posF mk_118 0) (kC_of mk_118 rfl rfl) (by decide +kernel) rfl rfl rfl hl rfl (Nat.le_of_ble_eq_true rfl) dX11_count_76 ⟨Nat.le_of_ble_eq_true rfl, Nat.le_of_ble_eq_true rfl⟩ (fun r_8 H locs hB hJ hSn => ?_)
          refine hB _ (fun hPD9 hf8_0 => ?_)
          clear hB
          obtain ⟨hPn, hDn⟩ := kJi (m := mk_118) hJ rfl hPD9.1 hPD9.2 (wn := [(oX, .inr (11, [.ref nT, .ref nL, .ref nM, .ref oC, .ref oP, .ref oH, .ref oK, .ref oG, .ref oR, .ref oQ, .ref oW, .int fa])), (nL, .inr (5, [.ref aL, .int lL])), (aL, .inl (cI, 300, .inl fL)), (nT, .inr (5, [.ref aT, .int lT])), (oH, .inr (4, [.ref oP, .ref h1, .ref h2, .int lH])), (oG, .inr (0, [.ref g1, .ref g2, .int gn, .int lG])), (oK, .inr (3, [.ref k1, .ref k2, .int lK])), (oC, .inr (2, [.ref o4, .ref o5])), (o4, .inr (10, [.ref a41, .ref a42, .ref a43, .int l4])), (o5, .inr (10, [.ref a51, .ref a52, .ref a53, .int l5]))]) rfl
          clear hP hD hS hJ hPD9
          have hP := hPn
          have hD := hDn
          have hS := hSn
          clear hPn hDn hSn
          rw [hf8_0]
          exact kl_i (v := lG) hQQ hx hb hr hlocks hS dX11_count_79 (fun PZ9 kZ9 => kZ9 (⟨hP, hD⟩))
        · skip
          have tc_7 : ¬ wh.toInt = 3 := v_ne c_7
          by_cases c_9 : wh = 4
          · refine lv_tableIn (tgt := 80) hx hb dX11_count_1 (by rw [c_9]; decide) (by rw [c_9]; decide) (by rw [c_9]; rfl) (by decide) ?_
            have tc_9 : wh.toInt = 4 := v_eq c_9
            refine lv_aload_n hx hb dX11_count_80 rfl (lv_at hl 0 rfl) ?_
            refine va_get (D := (dC, dI)) (ci := 11) (v := .ref nL) (C := RX11) (T := TX11) (N := 12) hx hb hts in_X11 hown hK hP 0 rfl rfl 1 (Nat.le_of_ble_eq_true rfl) (hts (.fieldLink RX11 34 "TextMender" "letters" "LTextMender$Numbers;") (List.mem_of_getElem? (i := 1) rfl)) (fun _ h9 => h9) rfl dX11_count_81 ?_
            refine kS_i (rest := []) hcf (m_X11_marksOf l dC dI cI cS s.heap.size nL aL lL fL (g_lL)) kc_X11_marksOf gX11_count_X11_marksOf rfl rfl ⟨Nat.le_of_ble_eq_true rfl, Nat.le_of_ble_eq_true rfl⟩ kX_t hK hP hD hS hA (posT mk_119 0) (posF mk_119 0) (kC_of mk_119 rfl rfl) (by decide +kernel) rfl hl rfl (Nat.le_of_ble_eq_true rfl) dX11_count_84 ⟨Nat.le_of_ble_eq_true rfl, Nat.le_of_ble_eq_true rfl⟩ (fun r_10 H locs hB hJ hSn => ?_)
            refine hB _ (fun hPD9 hf10_0 => ?_)
            clear hB
            obtain ⟨hPn, hDn⟩ := kJi (m := mk_119) hJ rfl hPD9.1 hPD9.2 (wn := [(oX, .inr (11, [.ref nT, .ref nL, .ref nM, .ref oC, .ref oP, .ref oH, .ref oK, .ref oG, .ref oR, .ref oQ, .ref oW, .int fa])), (nL, .inr (5, [.ref aL, .int lL])), (aL, .inl (cI, 300, .inl fL)), (nT, .inr (5, [.ref aT, .int lT])), (oH, .inr (4, [.ref oP, .ref h1, .ref h2, .int lH])), (oG, .inr (0, [.ref g1, .ref g2, .int gn, .int lG])), (oK, .inr (3, [.ref k1, .ref k2, .int lK])), (oC, .inr (2, [.ref o4, .ref o5])), (o4, .inr (10, [.ref a41, .ref a42, .ref a43, .int l4])), (o5, .inr (10, [.ref a51, .ref a52, .ref a53, .int l5]))]) rfl
            clear hP hD hS hJ hPD9
            have hP := hPn
            have hD := hDn
            have hS := hSn
            clear hPn hDn hSn
            exact kl_i (v := r_10) hQQ hx hb hr hlocks hS dX11_count_87 (fun PZ9 kZ9 => kZ9 (⟨hP, hD⟩))
          · skip
            have tc_9 : ¬ wh.toInt = 4 := v_ne c_9
            by_cases c_11 : wh = 5
            · refine lv_tableIn (tgt := 88) hx hb dX11_count_1 (by rw [c_11]; decide) (by rw [c_11]; decide) (by rw [c_11]; rfl) (by decide) ?_
              have tc_11 : wh.toInt = 5 := v_eq c_11
              refine lv_aload_n hx hb dX11_count_88 rfl (lv_at hl 0 rfl) ?_
              refine va_get (D := (dC, dI)) (ci := 11) (v := .ref oK) (C := RX11) (T := TX11) (N := 12) hx hb hts in_X11 hown hK hP 0 rfl rfl 6 (Nat.le_of_ble_eq_true rfl) (hts (.fieldLink RX11 52 "TextMender" "costs" "LTextMender$Costs;") (List.mem_of_getElem? (i := 5) rfl)) (fun _ h9 => h9) rfl dX11_count_89 ?_
              refine kV_i (rest := []) (q0 := 0) (ci := 3) hcf (m_X3_length l dC dI cI cS s.heap.size oK k1 k2 lK (g_lK)) kc_X3_length gX11_count_X3_length rfl rfl rfl ⟨Nat.le_of_ble_eq_true rfl, Nat.le_of_ble_eq_true rfl⟩ kX_t hK hP hD hS hA (posT mk_120 0) (posF mk_120 0) (kC_of mk_120 rfl rfl) (by decide +kernel) rfl rfl rfl hl rfl (Nat.le_of_ble_eq_true rfl) dX11_count_92 ⟨Nat.le_of_ble_eq_true rfl, Nat.le_of_ble_eq_true rfl⟩ (fun r_12 H locs hB hJ hSn => ?_)
              refine hB _ (fun hPD9 hf12_0 => ?_)
              clear hB
              obtain ⟨hPn, hDn⟩ := kJi (m := mk_120) hJ rfl hPD9.1 hPD9.2 (wn := [(oX, .inr (11, [.ref nT, .ref nL, .ref nM, .ref oC, .ref oP, .ref oH, .ref oK, .ref oG, .ref oR, .ref oQ, .ref oW, .int fa])), (nL, .inr (5, [.ref aL, .int lL])), (aL, .inl (cI, 300, .inl fL)), (nT, .inr (5, [.ref aT, .int lT])), (oH, .inr (4, [.ref oP, .ref h1, .ref h2, .int lH])), (oG, .inr (0, [.ref g1, .ref g2, .int gn, .int lG])), (oK, .inr (3, [.ref k1, .ref k2, .int lK])), (oC, .inr (2, [.ref o4, .ref o5])), (o4, .inr (10, [.ref a41, .ref a42, .ref a43, .int l4])), (o5, .inr (10, [.ref a51, .ref a52, .ref a53, .int l5]))]) rfl
              clear hP hD hS hJ hPD9
              have hP := hPn
              have hD := hDn
              have hS := hSn
              clear hPn hDn hSn
              rw [hf12_0]
              exact kl_i (v := lK) hQQ hx hb hr hlocks hS dX11_count_95 (fun PZ9 kZ9 => kZ9 (⟨hP, hD⟩))
            · skip
              have tc_11 : ¬ wh.toInt = 5 := v_ne c_11
              by_cases c_13 : wh = 6
              · refine lv_tableIn (tgt := 96) hx hb dX11_count_1 (by rw [c_13]; decide) (by rw [c_13]; decide) (by rw [c_13]; rfl) (by decide) ?_
                have tc_13 : wh.toInt = 6 := v_eq c_13
                refine lv_aload_n hx hb dX11_count_96 rfl (lv_at hl 0 rfl) ?_
                refine va_get (D := (dC, dI)) (ci := 11) (v := .ref oC) (C := RX11) (T := TX11) (N := 12) hx hb hts in_X11 hown hK hP 0 rfl rfl 3 (Nat.le_of_ble_eq_true rfl) (hts (.fieldLink RX11 40 "TextMender" "codes" "LTextMender$Codes;") (List.mem_of_getElem? (i := 6) rfl)) (fun _ h9 => h9) rfl dX11_count_97 ?_
                refine lv_iconst (v := 4) hx hb dX11_count_100 (by decide) ?_
                refine kV_i (rest := []) (q0 := 0) (ci := 2) hcf (m_X2_lengthOf l dC dI cI cS s.heap.size oC o4 o5 a41 a42 a43 a51 a52 a53 l4 l5 4 ) kc_X2_lengthOf gX11_count_X2_lengthOf rfl rfl rfl ⟨Nat.le_of_ble_eq_true rfl, Nat.le_of_ble_eq_true rfl⟩ kX_t hK hP hD hS hA (posT mk_121 0) (posF mk_121 0) (kC_of mk_121 rfl rfl) (by decide +kernel) rfl rfl rfl hl rfl (Nat.le_of_ble_eq_true rfl) dX11_count_101 ⟨Nat.le_of_ble_eq_true rfl, Nat.le_of_ble_eq_true rfl⟩ (fun r_14 H locs hB hJ hSn => ?_)
                refine hB _ (fun hPD9 => ?_)
                clear hB
                obtain ⟨hPn, hDn⟩ := kJi (m := mk_121) hJ rfl hPD9.1 hPD9.2 (wn := [(oX, .inr (11, [.ref nT, .ref nL, .ref nM, .ref oC, .ref oP, .ref oH, .ref oK, .ref oG, .ref oR, .ref oQ, .ref oW, .int fa])), (nL, .inr (5, [.ref aL, .int lL])), (aL, .inl (cI, 300, .inl fL)), (nT, .inr (5, [.ref aT, .int lT])), (oH, .inr (4, [.ref oP, .ref h1, .ref h2, .int lH])), (oG, .inr (0, [.ref g1, .ref g2, .int gn, .int lG])), (oK, .inr (3, [.ref k1, .ref k2, .int lK])), (oC, .inr (2, [.ref o4, .ref o5])), (o4, .inr (10, [.ref a41, .ref a42, .ref a43, .int l4])), (o5, .inr (10, [.ref a51, .ref a52, .ref a53, .int l5]))]) rfl
                clear hP hD hS hJ hPD9
                have hP := hPn
                have hD := hDn
                have hS := hSn
                clear hPn hDn hSn
                exact kl_i (v := r_14) hQQ hx hb hr hlocks hS dX11_count_104 (fun PZ9 kZ9 => kZ9 (⟨hP, hD⟩))
              · skip
                have tc_13 : ¬ wh.toInt = 6 := v_ne c_13
                by_cases c_15 : wh = 7
                · refine lv_tableIn (tgt := 105) hx hb dX11_count_1 (by rw [c_15]; decide) (by rw [c_15]; decide) (by rw [c_15]; rfl) (by decide) ?_
                  have tc_15 : wh.toInt = 7 := v_eq c_15
                  refine lv_aload_n hx hb dX11_count_105 rfl (lv_at hl 0 rfl) ?_
                  refine va_get (D := (dC, dI)) (ci := 11) (v := .ref oC) (C := RX11) (T := TX11) (N := 12) hx hb hts in_X11 hown hK hP 0 rfl rfl 3 (Nat.le_of_ble_eq_true rfl) (hts (.fieldLink RX11 40 "TextMender" "codes" "LTextMender$Codes;") (List.mem_of_getElem? (i := 6) rfl)) (fun _ h9 => h9) rfl dX11_count_106 ?_
                  refine lv_iconst (v := 5) hx hb dX11_count_109 (by decide) ?_
                  refine kV_i (rest := []) (q0 := 0) (ci := 2) hcf (m_X2_lengthOf l dC dI cI cS s.heap.size oC o4 o5 a41 a42 a43 a51 a52 a53 l4 l5 5 ) kc_X2_lengthOf gX11_count_X2_lengthOf rfl rfl rfl ⟨Nat.le_of_ble_eq_true rfl, Nat.le_of_ble_eq_true rfl⟩ kX_t hK hP hD hS hA (posT mk_121 0) (posF mk_121 0) (kC_of mk_121 rfl rfl) (by decide +kernel) rfl rfl rfl hl rfl (Nat.le_of_ble_eq_true rfl) dX11_count_110 ⟨Nat.le_of_ble_eq_true rfl, Nat.le_of_ble_eq_true rfl⟩ (fun r_16 H locs hB hJ hSn => ?_)
                  refine hB _ (fun hPD9 => ?_)
                  clear hB
                  obtain ⟨hPn, hDn⟩ := kJi (m := mk_121) hJ rfl hPD9.1 hPD9.2 (wn := [(oX, .inr (11, [.ref nT, .ref nL, .ref nM, .ref oC, .ref oP, .ref oH, .ref oK, .ref oG, .ref oR, .ref oQ, .ref oW, .int fa])), (nL, .inr (5, [.ref aL, .int lL])), (aL, .inl (cI, 300, .inl fL)), (nT, .inr (5, [.ref aT, .int lT])), (oH, .inr (4, [.ref oP, .ref h1, .ref h2, .int lH])), (oG, .inr (0, [.ref g1, .ref g2, .int gn, .int lG])), (oK, .inr (3, [.ref k1, .ref k2, .int lK])), (oC, .inr (2, [.ref o4, .ref o5])), (o4, .inr (10, [.ref a41, .ref a42, .ref a43, .int l4])), (o5, .inr (10, [.ref a51, .ref a52, .ref a53, .int l5]))]) rfl
                  clear hP hD hS hJ hPD9
                  have hP := hPn
                  have hD := hDn
                  have hS := hSn
                  clear hPn hDn hSn
                  exact kl_i (v := r_16) hQQ hx hb hr hlocks hS dX11_count_113 (fun PZ9 kZ9 => kZ9 (⟨hP, hD⟩))
                · skip
                  have tc_15 : ¬ wh.toInt = 7 := v_ne c_15
                  refine lv_tableOut (tgt := 114) hx hb dX11_count_1 (by omega) (by decide) ?_
                  refine lv_iconst (v := (-1)) hx hb dX11_count_114 (by decide) ?_
                  exact kl_i (v := (-1)) hQQ hx hb hr hlocks hS dX11_count_115 (fun PZ9 kZ9 => kZ9 (⟨hP, hD⟩))

set_option maxHeartbeats 40000000 in
set_option maxRecDepth 100000 in
theorem x_where (l : Launch) (dC : Nat → ClassId) (dI : Nat → Nat → Nat) (cI cS : ClassId) (sz : Nat) (oX : Nat) (nT : Nat) (nL : Nat) (nM : Nat) (oC : Nat) (oP : Nat) (oH : Nat) (oK : Nat) (oG : Nat) (oR : Nat) (oQ : Nat) (oW : Nat) (fa : Int32)  : kMi l yX11_where wsX11_where ({ frames := 0, cells := 0, slots := 0, locals := 0 } : Room) [.ref oX] sz (dC, dI) vwCl [(cI, .int), (cS, .short)] [(oX, .inr (11, [.ref nT, .ref nL, .ref nM, .ref oC, .ref oP, .ref oH, .ref oK, .ref oG, .ref oR, .ref oQ, .ref oW, .int fa]))] (fun _ => True) 0 0 (fun (A : Nat → Prop) (r : Int32) (hh9 : Heap) => ∀ PZ9 : Prop, (kPD (dC, dI) vwCl A [(oX, .inr (11, [.ref nT, .ref nL, .ref nM, .ref oC, .ref oP, .ref oH, .ref oK, .ref oG, .ref oR, .ref oQ, .ref oW, .int fa]))] hh9 → (r = fa) → PZ9) → PZ9) := by
  refine kMi_of (cc := cX11_where) (maxL := 1) (ret := (some .int)) (lv := [(0, .ref oX)]) (by decide +kernel) rfl rfl (Nat.le_of_ble_eq_true rfl) ?_
  intro p e s m below meth c A QQ ls hx hb hr hts hml hown hlocks hA hQQ hK hX hP hD hS hl
  have hown : s.vm.findClass RX11 = some m.cls := hown
  have hcf := k_cf hx hb hml hown hts
  have in_X11 : ∀ w ∈ wsX110, w ∈ wsX11_where := fun _ h => List.mem_cons_of_mem _ (List.mem_append_right _ (h))
  refine lv_aload_n hx hb dX11_where_0 rfl (lv_at hl 0 rfl) ?_
  refine va_get (D := (dC, dI)) (ci := 11) (v := .int fa) (C := RX11) (T := TX11) (N := 12) hx hb hts in_X11 hown hK hP 0 rfl rfl 11 (Nat.le_of_ble_eq_true rfl) (hts (.fieldLink RX11 90 "TextMender" "fault" "I") (List.mem_of_getElem? (i := 1) rfl)) (fun _ h9 => h9) rfl dX11_where_1 ?_
  exact kl_i (v := fa) hQQ hx hb hr hlocks hS dX11_where_4 (fun PZ9 kZ9 => kZ9 (⟨hP, hD⟩) (rfl))

set_option maxHeartbeats 40000000 in
set_option maxRecDepth 100000 in
theorem x_row (l : Launch) (dC : Nat → ClassId) (dI : Nat → Nat → Nat) (cI cS : ClassId) (sz : Nat) (oX : Nat) (nT : Nat) (nL : Nat) (nM : Nat) (oC : Nat) (oP : Nat) (oH : Nat) (oK : Nat) (oG : Nat) (oR : Nat) (oQ : Nat) (oW : Nat) (n1 : Nat) (n2 : Nat) (n3 : Nat) (r1 : Nat) (r2 : Nat) (r3 : Nat) (r4 : Nat) (r5 : Nat) (r6 : Nat) (fa : Int32) (lR : Int32) (fR4 : Nat → Int32) (fR5 : Nat → Int32) (fR6 : Nat → Int32) (i : Int32) (wh : Int32) (g_lR : 0 ≤ lR.toInt ∧ lR.toInt ≤ 258) : kMi l yX11_row wsX11_row ({ frames := 1, cells := 0, slots := 0, locals := 23 } : Room) [.ref oX, .int i, .int wh] sz (dC, dI) vwCl [(cI, .int), (cS, .short)] [(oX, .inr (11, [.ref nT, .ref nL, .ref nM, .ref oC, .ref oP, .ref oH, .ref oK, .ref oG, .ref oR, .ref oQ, .ref oW, .int fa])), (oR, .inr (9, [.ref oH, .ref oK, .ref n1, .ref n2, .ref n3, .ref r1, .ref r2, .ref r3, .ref r4, .ref r5, .ref r6, .int lR])), (r4, .inl (cI, 258, .inl fR4)), (r5, .inl (cI, 258, .inl fR5)), (r6, .inl (cI, 774, .inl fR6))] (fun _ => True) 0 0 (fun (A : Nat → Prop) (r : Int32) (hh9 : Heap) => ∀ PZ9 : Prop, (kPD (dC, dI) vwCl A [(oX, .inr (11, [.ref nT, .ref nL, .ref nM, .ref oC, .ref oP, .ref oH, .ref oK, .ref oG, .ref oR, .ref oQ, .ref oW, .int fa])), (oR, .inr (9, [.ref oH, .ref oK, .ref n1, .ref n2, .ref n3, .ref r1, .ref r2, .ref r3, .ref r4, .ref r5, .ref r6, .int lR])), (r4, .inl (cI, 258, .inl fR4)), (r5, .inl (cI, 258, .inl fR5)), (r6, .inl (cI, 774, .inl fR6))] hh9 → PZ9) → PZ9) := by
  refine kMi_of (cc := cX11_row) (maxL := 3) (ret := (some .int)) (lv := [(0, .ref oX), (1, .int i), (2, .int wh)]) (by decide +kernel) rfl rfl (Nat.le_of_ble_eq_true rfl) ?_
  intro p e s m below meth c A QQ ls hx hb hr hts hml hown hlocks hA hQQ hK hX hP hD hS hl
  have hown : s.vm.findClass RX11 = some m.cls := hown
  have hcf := k_cf hx hb hml hown hts
  have in_X11 : ∀ w ∈ wsX110, w ∈ wsX11_row := fun _ h => List.mem_cons_of_mem _ (List.mem_append_left _ (List.mem_append_left _ (List.mem_append_right _ (h))))
  replace g_lR := hid g_lR
  refine lv_aload_n hx hb dX11_row_0 rfl (lv_at hl 0 rfl) ?_
  refine va_get (D := (dC, dI)) (ci := 11) (v := .ref oR) (C := RX11) (T := TX11) (N := 12) hx hb hts in_X11 hown hK hP 0 rfl rfl 8 (Nat.le_of_ble_eq_true rfl) (hts (.fieldLink RX11 68 "TextMender" "rowBook" "LTextMender$Rows;") (List.mem_of_getElem? (i := 1) rfl)) (fun _ h9 => h9) rfl dX11_row_1 ?_
  refine lv_iload_n hx hb dX11_row_4 rfl (lv_at hl 1 rfl) ?_
  refine lv_iload_n hx hb dX11_row_5 rfl (lv_at hl 2 rfl) ?_
  refine kV_i (rest := []) (q0 := 0) (ci := 9) hcf (m_X9_told l dC dI cI cS s.heap.size oR oH oK n1 n2 n3 r1 r2 r3 r4 r5 r6 lR fR4 fR5 fR6 i wh (g_lR)) kc_X9_told gX11_row_X9_told rfl rfl rfl ⟨Nat.le_of_ble_eq_true rfl, Nat.le_of_ble_eq_true rfl⟩ kX_t hK hP hD hS hA [1, 2, 3, 4] [0] rfl (by decide +kernel) rfl rfl rfl hl rfl (Nat.le_of_ble_eq_true rfl) dX11_row_6 ⟨Nat.le_of_ble_eq_true rfl, Nat.le_of_ble_eq_true rfl⟩ (fun r_1 H locs hB hJ hSn => ?_)
  refine hB _ (fun hPD9 => ?_)
  clear hB
  obtain ⟨hPn, hDn⟩ := hJ _ hPD9.1 hPD9.2 [(oX, .inr (11, [.ref nT, .ref nL, .ref nM, .ref oC, .ref oP, .ref oH, .ref oK, .ref oG, .ref oR, .ref oQ, .ref oW, .int fa])), (oR, .inr (9, [.ref oH, .ref oK, .ref n1, .ref n2, .ref n3, .ref r1, .ref r2, .ref r3, .ref r4, .ref r5, .ref r6, .int lR])), (r4, .inl (cI, 258, .inl fR4)), (r5, .inl (cI, 258, .inl fR5)), (r6, .inl (cI, 774, .inl fR6))] rfl
  clear hP hD hS hJ hPD9
  have hP := hPn
  have hD := hDn
  have hS := hSn
  clear hPn hDn hSn
  exact kl_i (v := r_1) hQQ hx hb hr hlocks hS dX11_row_9 (fun PZ9 kZ9 => kZ9 (⟨hP, hD⟩))

set_option maxHeartbeats 40000000 in
set_option maxRecDepth 100000 in
theorem x_choice (l : Launch) (dC : Nat → ClassId) (dI : Nat → Nat → Nat) (cI cS : ClassId) (sz : Nat) (oX : Nat) (nT : Nat) (nL : Nat) (nM : Nat) (oC : Nat) (oP : Nat) (oH : Nat) (oK : Nat) (oG : Nat) (oR : Nat) (oQ : Nat) (oW : Nat) (nw : Nat) (w1 : Nat) (w2 : Nat) (w3 : Nat) (o7 : Nat) (o8 : Nat) (o9 : Nat) (w4 : Nat) (w5 : Nat) (w6 : Nat) (w7 : Nat) (fa : Int32) (ke : Int32) (tl : Int32) (fsh : Int32) (wi : Int32) (ri : Int32) (fm : Int32) (lm : Int32) (fW4 : Nat → Int32) (fW5 : Nat → Int32) (fW6 : Nat → Int32) (fW7 : Nat → Int32) (i : Int32) (wh : Int32) (g_ke : 0 ≤ ke.toInt ∧ ke.toInt ≤ 200) (g_fsh : 0 ≤ fsh.toInt ∧ fsh.toInt ≤ 1) (g_fm : -1 ≤ fm.toInt ∧ fm.toInt ≤ 800) (g_lm : -1 ≤ lm.toInt ∧ lm.toInt ≤ 800) : kMi l yX11_choice wsX11_choice ({ frames := 1, cells := 0, slots := 0, locals := 22 } : Room) [.ref oX, .int i, .int wh] sz (dC, dI) vwCl [(cI, .int), (cS, .short)] [(oX, .inr (11, [.ref nT, .ref nL, .ref nM, .ref oC, .ref oP, .ref oH, .ref oK, .ref oG, .ref oR, .ref oQ, .ref oW, .int fa])), (oW, .inr (1, [.ref oC, .ref oK, .ref nw, .ref w1, .ref w2, .ref w3, .ref o7, .ref o8, .ref o9, .ref w4, .ref w5, .ref w6, .ref w7, .int ke, .int tl, .int fsh, .int wi, .int ri, .int fm, .int lm])), (w4, .inl (cI, 200, .inl fW4)), (w5, .inl (cI, 200, .inl fW5)), (w6, .inl (cI, 200, .inl fW6)), (w7, .inl (cI, 200, .inl fW7))] (fun _ => True) 0 0 (fun (A : Nat → Prop) (r : Int32) (hh9 : Heap) => ∀ PZ9 : Prop, (kPD (dC, dI) vwCl A [(oX, .inr (11, [.ref nT, .ref nL, .ref nM, .ref oC, .ref oP, .ref oH, .ref oK, .ref oG, .ref oR, .ref oQ, .ref oW, .int fa])), (oW, .inr (1, [.ref oC, .ref oK, .ref nw, .ref w1, .ref w2, .ref w3, .ref o7, .ref o8, .ref o9, .ref w4, .ref w5, .ref w6, .ref w7, .int ke, .int tl, .int fsh, .int wi, .int ri, .int fm, .int lm])), (w4, .inl (cI, 200, .inl fW4)), (w5, .inl (cI, 200, .inl fW5)), (w6, .inl (cI, 200, .inl fW6)), (w7, .inl (cI, 200, .inl fW7))] hh9 → PZ9) → PZ9) := by
  refine kMi_of (cc := cX11_choice) (maxL := 3) (ret := (some .int)) (lv := [(0, .ref oX), (1, .int i), (2, .int wh)]) (by decide +kernel) rfl rfl (Nat.le_of_ble_eq_true rfl) ?_
  intro p e s m below meth c A QQ ls hx hb hr hts hml hown hlocks hA hQQ hK hX hP hD hS hl
  have hown : s.vm.findClass RX11 = some m.cls := hown
  have hcf := k_cf hx hb hml hown hts
  have in_X11 : ∀ w ∈ wsX110, w ∈ wsX11_choice := fun _ h => List.mem_cons_of_mem _ (List.mem_append_left _ (List.mem_append_left _ (List.mem_append_right _ (h))))
  replace g_ke := hid g_ke
  replace g_fsh := hid g_fsh
  replace g_fm := hid g_fm
  replace g_lm := hid g_lm
  refine lv_aload_n hx hb dX11_choice_0 rfl (lv_at hl 0 rfl) ?_
  refine va_get (D := (dC, dI)) (ci := 11) (v := .ref oW) (C := RX11) (T := TX11) (N := 12) hx hb hts in_X11 hown hK hP 0 rfl rfl 10 (Nat.le_of_ble_eq_true rfl) (hts (.fieldLink RX11 86 "TextMender" "choiceBook" "LTextMender$Choices;") (List.mem_of_getElem? (i := 1) rfl)) (fun _ h9 => h9) rfl dX11_choice_1 ?_
  refine lv_iload_n hx hb dX11_choice_4 rfl (lv_at hl 1 rfl) ?_
  refine lv_iload_n hx hb dX11_choice_5 rfl (lv_at hl 2 rfl) ?_
  refine kV_i (rest := []) (q0 := 0) (ci := 1) hcf (m_X1_told l dC dI cI cS s.heap.size oW oC oK nw w1 w2 w3 o7 o8 o9 w4 w5 w6 w7 ke tl fsh wi ri fm lm fW4 fW5 fW6 fW7 i wh (g_ke) (g_fsh) (g_fm) (g_lm)) kc_X1_told gX11_choice_X1_told rfl rfl rfl ⟨Nat.le_of_ble_eq_true rfl, Nat.le_of_ble_eq_true rfl⟩ kX_t hK hP hD hS hA (posT mk_136 0) (posF mk_136 0) (kC_of mk_136 rfl rfl) (by decide +kernel) rfl rfl rfl hl rfl (Nat.le_of_ble_eq_true rfl) dX11_choice_6 ⟨Nat.le_of_ble_eq_true rfl, Nat.le_of_ble_eq_true rfl⟩ (fun r_1 H locs hB hJ hSn => ?_)
  refine hB _ (fun hPD9 => ?_)
  clear hB
  obtain ⟨hPn, hDn⟩ := kJi (m := mk_136) hJ rfl hPD9.1 hPD9.2 (wn := [(oX, .inr (11, [.ref nT, .ref nL, .ref nM, .ref oC, .ref oP, .ref oH, .ref oK, .ref oG, .ref oR, .ref oQ, .ref oW, .int fa])), (oW, .inr (1, [.ref oC, .ref oK, .ref nw, .ref w1, .ref w2, .ref w3, .ref o7, .ref o8, .ref o9, .ref w4, .ref w5, .ref w6, .ref w7, .int ke, .int tl, .int fsh, .int wi, .int ri, .int fm, .int lm])), (w4, .inl (cI, 200, .inl fW4)), (w5, .inl (cI, 200, .inl fW5)), (w6, .inl (cI, 200, .inl fW6)), (w7, .inl (cI, 200, .inl fW7))]) rfl
  clear hP hD hS hJ hPD9
  have hP := hPn
  have hD := hDn
  have hS := hSn
  clear hPn hDn hSn
  exact kl_i (v := r_1) hQQ hx hb hr hlocks hS dX11_choice_9 (fun PZ9 kZ9 => kZ9 (⟨hP, hD⟩))

end

/-! 40.a.rows -/
section
set_option maxRecDepth 100000 in
theorem dA38_cX5_init : kDec cX5_init [(0, .aload_n 0, 1), (1, .invokespecial 3, 3), (4, .aload_n 0, 1), (5, .iconst 0, 1), (6, .iload_n 1, 1), (7, .invokestatic 9, 3), (10, .newarray .int, 2), (12, .putfield 15, 3), (15, .aload_n 0, 1), (16, .iconst 0, 1), (17, .putfield 21, 3), (20, .return_, 1)] = true := by decide +kernel
theorem dX5_init_0 : decode cX5_init 0 = .ok (.aload_n 0, 1) := kDec_at dA38_cX5_init 0 rfl
theorem dX5_init_1 : decode cX5_init 1 = .ok (.invokespecial 3, 3) := kDec_at dA38_cX5_init 1 rfl
theorem dX5_init_4 : decode cX5_init 4 = .ok (.aload_n 0, 1) := kDec_at dA38_cX5_init 2 rfl
theorem dX5_init_5 : decode cX5_init 5 = .ok (.iconst 0, 1) := kDec_at dA38_cX5_init 3 rfl
theorem dX5_init_6 : decode cX5_init 6 = .ok (.iload_n 1, 1) := kDec_at dA38_cX5_init 4 rfl
theorem dX5_init_7 : decode cX5_init 7 = .ok (.invokestatic 9, 3) := kDec_at dA38_cX5_init 5 rfl
theorem dX5_init_10 : decode cX5_init 10 = .ok (.newarray .int, 2) := kDec_at dA38_cX5_init 6 rfl
theorem dX5_init_12 : decode cX5_init 12 = .ok (.putfield 15, 3) := kDec_at dA38_cX5_init 7 rfl
theorem dX5_init_15 : decode cX5_init 15 = .ok (.aload_n 0, 1) := kDec_at dA38_cX5_init 8 rfl
theorem dX5_init_16 : decode cX5_init 16 = .ok (.iconst 0, 1) := kDec_at dA38_cX5_init 9 rfl
theorem dX5_init_17 : decode cX5_init 17 = .ok (.putfield 21, 3) := kDec_at dA38_cX5_init 10 rfl
theorem dX5_init_20 : decode cX5_init 20 = .ok (.return_, 1) := kDec_at dA38_cX5_init 11 rfl
set_option maxRecDepth 100000 in
theorem dA39_cX10_init : kDec cX10_init [(0, .aload_n 0, 1), (1, .invokespecial 3, 3), (4, .aload_n 0, 1), (5, .sipush 256, 3), (8, .newarray .int, 2), (10, .putfield 9, 3), (13, .aload_n 0, 1), (14, .sipush 512, 3), (17, .newarray .int, 2), (19, .putfield 15, 3), (22, .aload_n 0, 1), (23, .sipush 512, 3), (26, .newarray .int, 2), (28, .putfield 18, 3), (31, .aload_n 0, 1), (32, .getfield 9, 3), (35, .iconst (-1), 1), (36, .invokestatic 21, 3), (39, .aload_n 0, 1), (40, .getfield 18, 3), (43, .iconst (-1), 1), (44, .invokestatic 21, 3), (47, .aload_n 0, 1), (48, .iconst 0, 1)] = true := by decide +kernel
theorem dX10_init_0 : decode cX10_init 0 = .ok (.aload_n 0, 1) := kDec_at dA39_cX10_init 0 rfl
theorem dX10_init_1 : decode cX10_init 1 = .ok (.invokespecial 3, 3) := kDec_at dA39_cX10_init 1 rfl
theorem dX10_init_4 : decode cX10_init 4 = .ok (.aload_n 0, 1) := kDec_at dA39_cX10_init 2 rfl
theorem dX10_init_5 : decode cX10_init 5 = .ok (.sipush 256, 3) := kDec_at dA39_cX10_init 3 rfl
theorem dX10_init_8 : decode cX10_init 8 = .ok (.newarray .int, 2) := kDec_at dA39_cX10_init 4 rfl
theorem dX10_init_10 : decode cX10_init 10 = .ok (.putfield 9, 3) := kDec_at dA39_cX10_init 5 rfl
theorem dX10_init_13 : decode cX10_init 13 = .ok (.aload_n 0, 1) := kDec_at dA39_cX10_init 6 rfl
theorem dX10_init_14 : decode cX10_init 14 = .ok (.sipush 512, 3) := kDec_at dA39_cX10_init 7 rfl
theorem dX10_init_17 : decode cX10_init 17 = .ok (.newarray .int, 2) := kDec_at dA39_cX10_init 8 rfl
theorem dX10_init_19 : decode cX10_init 19 = .ok (.putfield 15, 3) := kDec_at dA39_cX10_init 9 rfl
theorem dX10_init_22 : decode cX10_init 22 = .ok (.aload_n 0, 1) := kDec_at dA39_cX10_init 10 rfl
theorem dX10_init_23 : decode cX10_init 23 = .ok (.sipush 512, 3) := kDec_at dA39_cX10_init 11 rfl
theorem dX10_init_26 : decode cX10_init 26 = .ok (.newarray .int, 2) := kDec_at dA39_cX10_init 12 rfl
theorem dX10_init_28 : decode cX10_init 28 = .ok (.putfield 18, 3) := kDec_at dA39_cX10_init 13 rfl
theorem dX10_init_31 : decode cX10_init 31 = .ok (.aload_n 0, 1) := kDec_at dA39_cX10_init 14 rfl
theorem dX10_init_32 : decode cX10_init 32 = .ok (.getfield 9, 3) := kDec_at dA39_cX10_init 15 rfl
theorem dX10_init_35 : decode cX10_init 35 = .ok (.iconst (-1), 1) := kDec_at dA39_cX10_init 16 rfl
theorem dX10_init_36 : decode cX10_init 36 = .ok (.invokestatic 21, 3) := kDec_at dA39_cX10_init 17 rfl
theorem dX10_init_39 : decode cX10_init 39 = .ok (.aload_n 0, 1) := kDec_at dA39_cX10_init 18 rfl
theorem dX10_init_40 : decode cX10_init 40 = .ok (.getfield 18, 3) := kDec_at dA39_cX10_init 19 rfl
theorem dX10_init_43 : decode cX10_init 43 = .ok (.iconst (-1), 1) := kDec_at dA39_cX10_init 20 rfl
theorem dX10_init_44 : decode cX10_init 44 = .ok (.invokestatic 21, 3) := kDec_at dA39_cX10_init 21 rfl
theorem dX10_init_47 : decode cX10_init 47 = .ok (.aload_n 0, 1) := kDec_at dA39_cX10_init 22 rfl
theorem dX10_init_48 : decode cX10_init 48 = .ok (.iconst 0, 1) := kDec_at dA39_cX10_init 23 rfl
set_option maxRecDepth 20000 in
theorem ggX10_init_J7_fill_53178 : GoodIn wsX10_init wsJ7_fill_53178 := goodIn_sub (fun _ h => List.mem_cons_of_mem _ (List.mem_append_right _ (h))) gJ7_fill_53178_all
set_option maxRecDepth 20000 in
theorem gX10_init_J7_fill_53178 : GoodIn wsX10_init (va_wsS RX10 21 yJ7_fill_53178 wsJ7_fill_53178) := goodIn_app (goodIn_r _ [9, 10, 11] rfl (by decide +kernel)) ggX10_init_J7_fill_53178
set_option maxRecDepth 100000 in
theorem dA40_cX10_init : kDec cX10_init [(49, .putfield 27, 3), (52, .return_, 1)] = true := by decide +kernel
theorem dX10_init_49 : decode cX10_init 49 = .ok (.putfield 27, 3) := kDec_at dA40_cX10_init 0 rfl
theorem dX10_init_52 : decode cX10_init 52 = .ok (.return_, 1) := kDec_at dA40_cX10_init 1 rfl
set_option maxRecDepth 100000 in
theorem dA41_cX2_init : kDec cX2_init [(0, .aload_n 0, 1), (1, .invokespecial 3, 3), (4, .aload_n 0, 1), (5, .new 9, 3), (8, .dup, 1), (9, .invokespecial 11, 3), (12, .putfield 12, 3), (15, .aload_n 0, 1), (16, .new 9, 3), (19, .dup, 1), (20, .invokespecial 11, 3), (23, .putfield 18, 3), (26, .return_, 1)] = true := by decide +kernel
theorem dX2_init_0 : decode cX2_init 0 = .ok (.aload_n 0, 1) := kDec_at dA41_cX2_init 0 rfl
theorem dX2_init_1 : decode cX2_init 1 = .ok (.invokespecial 3, 3) := kDec_at dA41_cX2_init 1 rfl
theorem dX2_init_4 : decode cX2_init 4 = .ok (.aload_n 0, 1) := kDec_at dA41_cX2_init 2 rfl
theorem dX2_init_5 : decode cX2_init 5 = .ok (.new 9, 3) := kDec_at dA41_cX2_init 3 rfl
theorem dX2_init_8 : decode cX2_init 8 = .ok (.dup, 1) := kDec_at dA41_cX2_init 4 rfl
theorem dX2_init_9 : decode cX2_init 9 = .ok (.invokespecial 11, 3) := kDec_at dA41_cX2_init 5 rfl
theorem dX2_init_12 : decode cX2_init 12 = .ok (.putfield 12, 3) := kDec_at dA41_cX2_init 6 rfl
theorem dX2_init_15 : decode cX2_init 15 = .ok (.aload_n 0, 1) := kDec_at dA41_cX2_init 7 rfl
theorem dX2_init_16 : decode cX2_init 16 = .ok (.new 9, 3) := kDec_at dA41_cX2_init 8 rfl
theorem dX2_init_19 : decode cX2_init 19 = .ok (.dup, 1) := kDec_at dA41_cX2_init 9 rfl
theorem dX2_init_20 : decode cX2_init 20 = .ok (.invokespecial 11, 3) := kDec_at dA41_cX2_init 10 rfl
theorem dX2_init_23 : decode cX2_init 23 = .ok (.putfield 18, 3) := kDec_at dA41_cX2_init 11 rfl
theorem dX2_init_26 : decode cX2_init 26 = .ok (.return_, 1) := kDec_at dA41_cX2_init 12 rfl
set_option maxRecDepth 20000 in
theorem gX10_init_all : wsX10_init.all goodWord = true := by
  unfold wsX10_init
  exact good_c (by decide +kernel) (good_a (good_a ((by decide +kernel)) gX10_clsall) gJ7_fill_53178_all)
set_option maxRecDepth 20000 in
theorem ggX2_init_X10_init : GoodIn wsX2_init wsX10_init := goodIn_sub (fun _ h => List.mem_cons_of_mem _ (List.mem_append_right _ (h))) gX10_init_all
set_option maxRecDepth 20000 in
theorem gX2_init_X10_init : GoodIn wsX2_init (wsX10_init) := ggX2_init_X10_init
set_option maxRecDepth 100000 in
theorem dA42_cX7_init : kDec cX7_init [(0, .aload_n 0, 1), (1, .invokespecial 3, 3), (4, .aload_n 0, 1), (5, .new 9, 3), (8, .dup, 1), (9, .sipush 2400, 3), (12, .invokespecial 11, 3), (15, .putfield 14, 3), (18, .aload_n 0, 1), (19, .aload_n 1, 1), (20, .putfield 20, 3), (23, .aload_n 0, 1), (24, .iconst (-1), 1), (25, .putfield 24, 3), (28, .return_, 1)] = true := by decide +kernel
theorem dX7_init_0 : decode cX7_init 0 = .ok (.aload_n 0, 1) := kDec_at dA42_cX7_init 0 rfl
theorem dX7_init_1 : decode cX7_init 1 = .ok (.invokespecial 3, 3) := kDec_at dA42_cX7_init 1 rfl
theorem dX7_init_4 : decode cX7_init 4 = .ok (.aload_n 0, 1) := kDec_at dA42_cX7_init 2 rfl
theorem dX7_init_5 : decode cX7_init 5 = .ok (.new 9, 3) := kDec_at dA42_cX7_init 3 rfl
theorem dX7_init_8 : decode cX7_init 8 = .ok (.dup, 1) := kDec_at dA42_cX7_init 4 rfl
theorem dX7_init_9 : decode cX7_init 9 = .ok (.sipush 2400, 3) := kDec_at dA42_cX7_init 5 rfl
theorem dX7_init_12 : decode cX7_init 12 = .ok (.invokespecial 11, 3) := kDec_at dA42_cX7_init 6 rfl
theorem dX7_init_15 : decode cX7_init 15 = .ok (.putfield 14, 3) := kDec_at dA42_cX7_init 7 rfl
theorem dX7_init_18 : decode cX7_init 18 = .ok (.aload_n 0, 1) := kDec_at dA42_cX7_init 8 rfl
theorem dX7_init_19 : decode cX7_init 19 = .ok (.aload_n 1, 1) := kDec_at dA42_cX7_init 9 rfl
theorem dX7_init_20 : decode cX7_init 20 = .ok (.putfield 20, 3) := kDec_at dA42_cX7_init 10 rfl
theorem dX7_init_23 : decode cX7_init 23 = .ok (.aload_n 0, 1) := kDec_at dA42_cX7_init 11 rfl
theorem dX7_init_24 : decode cX7_init 24 = .ok (.iconst (-1), 1) := kDec_at dA42_cX7_init 12 rfl
theorem dX7_init_25 : decode cX7_init 25 = .ok (.putfield 24, 3) := kDec_at dA42_cX7_init 13 rfl
theorem dX7_init_28 : decode cX7_init 28 = .ok (.return_, 1) := kDec_at dA42_cX7_init 14 rfl
set_option maxRecDepth 20000 in
theorem gX5_init_all : wsX5_init.all goodWord = true := by
  unfold wsX5_init
  exact good_c (by decide +kernel) (good_a ((by decide +kernel)) gX5_clsall)
set_option maxRecDepth 20000 in
theorem ggX7_init_X5_init : GoodIn wsX7_init wsX5_init := goodIn_sub (fun _ h => List.mem_cons_of_mem _ (List.mem_append_right _ (h))) gX5_init_all
set_option maxRecDepth 20000 in
theorem gX7_init_X5_init : GoodIn wsX7_init (wsX5_init) := ggX7_init_X5_init
set_option maxRecDepth 100000 in
theorem dA43_cX4_init : kDec cX4_init [(0, .aload_n 0, 1), (1, .invokespecial 3, 3), (4, .aload_n 0, 1), (5, .bipush 6, 2), (7, .newarray .int, 2), (9, .putfield 9, 3), (12, .aload_n 0, 1), (13, .bipush 6, 2), (15, .newarray .int, 2), (17, .putfield 15, 3), (20, .aload_n 0, 1), (21, .aload_n 1, 1), (22, .putfield 18, 3), (25, .aload_n 0, 1), (26, .iconst 0, 1), (27, .putfield 22, 3), (30, .return_, 1)] = true := by decide +kernel
theorem dX4_init_0 : decode cX4_init 0 = .ok (.aload_n 0, 1) := kDec_at dA43_cX4_init 0 rfl
theorem dX4_init_1 : decode cX4_init 1 = .ok (.invokespecial 3, 3) := kDec_at dA43_cX4_init 1 rfl
theorem dX4_init_4 : decode cX4_init 4 = .ok (.aload_n 0, 1) := kDec_at dA43_cX4_init 2 rfl
theorem dX4_init_5 : decode cX4_init 5 = .ok (.bipush 6, 2) := kDec_at dA43_cX4_init 3 rfl
theorem dX4_init_7 : decode cX4_init 7 = .ok (.newarray .int, 2) := kDec_at dA43_cX4_init 4 rfl
theorem dX4_init_9 : decode cX4_init 9 = .ok (.putfield 9, 3) := kDec_at dA43_cX4_init 5 rfl
theorem dX4_init_12 : decode cX4_init 12 = .ok (.aload_n 0, 1) := kDec_at dA43_cX4_init 6 rfl
theorem dX4_init_13 : decode cX4_init 13 = .ok (.bipush 6, 2) := kDec_at dA43_cX4_init 7 rfl
theorem dX4_init_15 : decode cX4_init 15 = .ok (.newarray .int, 2) := kDec_at dA43_cX4_init 8 rfl
theorem dX4_init_17 : decode cX4_init 17 = .ok (.putfield 15, 3) := kDec_at dA43_cX4_init 9 rfl
theorem dX4_init_20 : decode cX4_init 20 = .ok (.aload_n 0, 1) := kDec_at dA43_cX4_init 10 rfl
theorem dX4_init_21 : decode cX4_init 21 = .ok (.aload_n 1, 1) := kDec_at dA43_cX4_init 11 rfl
theorem dX4_init_22 : decode cX4_init 22 = .ok (.putfield 18, 3) := kDec_at dA43_cX4_init 12 rfl
theorem dX4_init_25 : decode cX4_init 25 = .ok (.aload_n 0, 1) := kDec_at dA43_cX4_init 13 rfl
theorem dX4_init_26 : decode cX4_init 26 = .ok (.iconst 0, 1) := kDec_at dA43_cX4_init 14 rfl
theorem dX4_init_27 : decode cX4_init 27 = .ok (.putfield 22, 3) := kDec_at dA43_cX4_init 15 rfl
theorem dX4_init_30 : decode cX4_init 30 = .ok (.return_, 1) := kDec_at dA43_cX4_init 16 rfl
set_option maxRecDepth 100000 in
theorem dA44_cX3_init : kDec cX3_init [(0, .aload_n 0, 1), (1, .invokespecial 3, 3), (4, .aload_n 0, 1), (5, .sipush 1024, 3), (8, .newarray .int, 2), (10, .putfield 11, 3), (13, .aload_n 0, 1), (14, .sipush 1024, 3), (17, .newarray .int, 2), (19, .putfield 15, 3), (22, .aload_n 0, 1), (23, .getfield 15, 3), (26, .iconst (-1), 1), (27, .invokestatic 18, 3), (30, .aload_n 0, 1), (31, .iconst 0, 1), (32, .putfield 24, 3), (35, .return_, 1)] = true := by decide +kernel
theorem dX3_init_0 : decode cX3_init 0 = .ok (.aload_n 0, 1) := kDec_at dA44_cX3_init 0 rfl
theorem dX3_init_1 : decode cX3_init 1 = .ok (.invokespecial 3, 3) := kDec_at dA44_cX3_init 1 rfl
theorem dX3_init_4 : decode cX3_init 4 = .ok (.aload_n 0, 1) := kDec_at dA44_cX3_init 2 rfl
theorem dX3_init_5 : decode cX3_init 5 = .ok (.sipush 1024, 3) := kDec_at dA44_cX3_init 3 rfl
theorem dX3_init_8 : decode cX3_init 8 = .ok (.newarray .int, 2) := kDec_at dA44_cX3_init 4 rfl
theorem dX3_init_10 : decode cX3_init 10 = .ok (.putfield 11, 3) := kDec_at dA44_cX3_init 5 rfl
theorem dX3_init_13 : decode cX3_init 13 = .ok (.aload_n 0, 1) := kDec_at dA44_cX3_init 6 rfl
theorem dX3_init_14 : decode cX3_init 14 = .ok (.sipush 1024, 3) := kDec_at dA44_cX3_init 7 rfl
theorem dX3_init_17 : decode cX3_init 17 = .ok (.newarray .int, 2) := kDec_at dA44_cX3_init 8 rfl
theorem dX3_init_19 : decode cX3_init 19 = .ok (.putfield 15, 3) := kDec_at dA44_cX3_init 9 rfl
theorem dX3_init_22 : decode cX3_init 22 = .ok (.aload_n 0, 1) := kDec_at dA44_cX3_init 10 rfl
theorem dX3_init_23 : decode cX3_init 23 = .ok (.getfield 15, 3) := kDec_at dA44_cX3_init 11 rfl
theorem dX3_init_26 : decode cX3_init 26 = .ok (.iconst (-1), 1) := kDec_at dA44_cX3_init 12 rfl
theorem dX3_init_27 : decode cX3_init 27 = .ok (.invokestatic 18, 3) := kDec_at dA44_cX3_init 13 rfl
theorem dX3_init_30 : decode cX3_init 30 = .ok (.aload_n 0, 1) := kDec_at dA44_cX3_init 14 rfl
theorem dX3_init_31 : decode cX3_init 31 = .ok (.iconst 0, 1) := kDec_at dA44_cX3_init 15 rfl
theorem dX3_init_32 : decode cX3_init 32 = .ok (.putfield 24, 3) := kDec_at dA44_cX3_init 16 rfl
theorem dX3_init_35 : decode cX3_init 35 = .ok (.return_, 1) := kDec_at dA44_cX3_init 17 rfl
set_option maxRecDepth 20000 in
theorem ggX3_init_J7_fill_53178 : GoodIn wsX3_init wsJ7_fill_53178 := goodIn_sub (fun _ h => List.mem_cons_of_mem _ (List.mem_append_right _ (h))) gJ7_fill_53178_all
set_option maxRecDepth 20000 in
theorem gX3_init_J7_fill_53178 : GoodIn wsX3_init (va_wsS RX3 18 yJ7_fill_53178 wsJ7_fill_53178) := goodIn_app (goodIn_r _ [8, 9, 10] rfl (by decide +kernel)) ggX3_init_J7_fill_53178
set_option maxRecDepth 100000 in
theorem dA45_cX0_init : kDec cX0_init [(0, .aload_n 0, 1), (1, .invokespecial 3, 3), (4, .aload_n 0, 1), (5, .sipush 6000, 3), (8, .newarray .int, 2), (10, .putfield 11, 3), (13, .aload_n 0, 1), (14, .bipush 20, 2), (16, .newarray .int, 2), (18, .putfield 15, 3), (21, .aload_n 0, 1), (22, .iconst 0, 1), (23, .putfield 18, 3), (26, .aload_n 0, 1), (27, .iconst 0, 1), (28, .putfield 22, 3), (31, .return_, 1)] = true := by decide +kernel
theorem dX0_init_0 : decode cX0_init 0 = .ok (.aload_n 0, 1) := kDec_at dA45_cX0_init 0 rfl
theorem dX0_init_1 : decode cX0_init 1 = .ok (.invokespecial 3, 3) := kDec_at dA45_cX0_init 1 rfl
theorem dX0_init_4 : decode cX0_init 4 = .ok (.aload_n 0, 1) := kDec_at dA45_cX0_init 2 rfl
theorem dX0_init_5 : decode cX0_init 5 = .ok (.sipush 6000, 3) := kDec_at dA45_cX0_init 3 rfl
theorem dX0_init_8 : decode cX0_init 8 = .ok (.newarray .int, 2) := kDec_at dA45_cX0_init 4 rfl
theorem dX0_init_10 : decode cX0_init 10 = .ok (.putfield 11, 3) := kDec_at dA45_cX0_init 5 rfl
theorem dX0_init_13 : decode cX0_init 13 = .ok (.aload_n 0, 1) := kDec_at dA45_cX0_init 6 rfl
theorem dX0_init_14 : decode cX0_init 14 = .ok (.bipush 20, 2) := kDec_at dA45_cX0_init 7 rfl
theorem dX0_init_16 : decode cX0_init 16 = .ok (.newarray .int, 2) := kDec_at dA45_cX0_init 8 rfl
theorem dX0_init_18 : decode cX0_init 18 = .ok (.putfield 15, 3) := kDec_at dA45_cX0_init 9 rfl
theorem dX0_init_21 : decode cX0_init 21 = .ok (.aload_n 0, 1) := kDec_at dA45_cX0_init 10 rfl
theorem dX0_init_22 : decode cX0_init 22 = .ok (.iconst 0, 1) := kDec_at dA45_cX0_init 11 rfl
theorem dX0_init_23 : decode cX0_init 23 = .ok (.putfield 18, 3) := kDec_at dA45_cX0_init 12 rfl
theorem dX0_init_26 : decode cX0_init 26 = .ok (.aload_n 0, 1) := kDec_at dA45_cX0_init 13 rfl
theorem dX0_init_27 : decode cX0_init 27 = .ok (.iconst 0, 1) := kDec_at dA45_cX0_init 14 rfl
theorem dX0_init_28 : decode cX0_init 28 = .ok (.putfield 22, 3) := kDec_at dA45_cX0_init 15 rfl
theorem dX0_init_31 : decode cX0_init 31 = .ok (.return_, 1) := kDec_at dA45_cX0_init 16 rfl
set_option maxRecDepth 100000 in
theorem dA46_cX9_init : kDec cX9_init [(0, .aload_n 0, 1), (1, .invokespecial 3, 3), (4, .aload_n 0, 1), (5, .new 9, 3), (8, .dup, 1), (9, .sipush 300, 3), (12, .invokespecial 11, 3), (15, .putfield 14, 3), (18, .aload_n 0, 1), (19, .new 9, 3), (22, .dup, 1), (23, .sipush 300, 3), (26, .invokespecial 11, 3), (29, .putfield 20, 3), (32, .aload_n 0, 1), (33, .new 9, 3), (36, .dup, 1), (37, .sipush 300, 3), (40, .invokespecial 11, 3), (43, .putfield 23, 3), (46, .aload_n 0, 1), (47, .sipush 258, 3), (50, .newarray .int, 2), (52, .putfield 26, 3)] = true := by decide +kernel
theorem dX9_init_0 : decode cX9_init 0 = .ok (.aload_n 0, 1) := kDec_at dA46_cX9_init 0 rfl
theorem dX9_init_1 : decode cX9_init 1 = .ok (.invokespecial 3, 3) := kDec_at dA46_cX9_init 1 rfl
theorem dX9_init_4 : decode cX9_init 4 = .ok (.aload_n 0, 1) := kDec_at dA46_cX9_init 2 rfl
theorem dX9_init_5 : decode cX9_init 5 = .ok (.new 9, 3) := kDec_at dA46_cX9_init 3 rfl
theorem dX9_init_8 : decode cX9_init 8 = .ok (.dup, 1) := kDec_at dA46_cX9_init 4 rfl
theorem dX9_init_9 : decode cX9_init 9 = .ok (.sipush 300, 3) := kDec_at dA46_cX9_init 5 rfl
theorem dX9_init_12 : decode cX9_init 12 = .ok (.invokespecial 11, 3) := kDec_at dA46_cX9_init 6 rfl
theorem dX9_init_15 : decode cX9_init 15 = .ok (.putfield 14, 3) := kDec_at dA46_cX9_init 7 rfl
theorem dX9_init_18 : decode cX9_init 18 = .ok (.aload_n 0, 1) := kDec_at dA46_cX9_init 8 rfl
theorem dX9_init_19 : decode cX9_init 19 = .ok (.new 9, 3) := kDec_at dA46_cX9_init 9 rfl
theorem dX9_init_22 : decode cX9_init 22 = .ok (.dup, 1) := kDec_at dA46_cX9_init 10 rfl
theorem dX9_init_23 : decode cX9_init 23 = .ok (.sipush 300, 3) := kDec_at dA46_cX9_init 11 rfl
theorem dX9_init_26 : decode cX9_init 26 = .ok (.invokespecial 11, 3) := kDec_at dA46_cX9_init 12 rfl
theorem dX9_init_29 : decode cX9_init 29 = .ok (.putfield 20, 3) := kDec_at dA46_cX9_init 13 rfl
theorem dX9_init_32 : decode cX9_init 32 = .ok (.aload_n 0, 1) := kDec_at dA46_cX9_init 14 rfl
theorem dX9_init_33 : decode cX9_init 33 = .ok (.new 9, 3) := kDec_at dA46_cX9_init 15 rfl
theorem dX9_init_36 : decode cX9_init 36 = .ok (.dup, 1) := kDec_at dA46_cX9_init 16 rfl
theorem dX9_init_37 : decode cX9_init 37 = .ok (.sipush 300, 3) := kDec_at dA46_cX9_init 17 rfl
theorem dX9_init_40 : decode cX9_init 40 = .ok (.invokespecial 11, 3) := kDec_at dA46_cX9_init 18 rfl
theorem dX9_init_43 : decode cX9_init 43 = .ok (.putfield 23, 3) := kDec_at dA46_cX9_init 19 rfl
theorem dX9_init_46 : decode cX9_init 46 = .ok (.aload_n 0, 1) := kDec_at dA46_cX9_init 20 rfl
theorem dX9_init_47 : decode cX9_init 47 = .ok (.sipush 258, 3) := kDec_at dA46_cX9_init 21 rfl
theorem dX9_init_50 : decode cX9_init 50 = .ok (.newarray .int, 2) := kDec_at dA46_cX9_init 22 rfl
theorem dX9_init_52 : decode cX9_init 52 = .ok (.putfield 26, 3) := kDec_at dA46_cX9_init 23 rfl
set_option maxRecDepth 20000 in
theorem ggX9_init_X5_init : GoodIn wsX9_init wsX5_init := goodIn_sub (fun _ h => List.mem_cons_of_mem _ (List.mem_append_left _ (List.mem_append_right _ (h)))) gX5_init_all
set_option maxRecDepth 20000 in
theorem gX9_init_X5_init : GoodIn wsX9_init (wsX5_init) := ggX9_init_X5_init
set_option maxRecDepth 100000 in
theorem dA47_cX9_init : kDec cX9_init [(55, .aload_n 0, 1), (56, .sipush 258, 3), (59, .newarray .int, 2), (61, .putfield 30, 3), (64, .aload_n 0, 1), (65, .sipush 774, 3), (68, .newarray .int, 2), (70, .putfield 33, 3), (73, .aload_n 0, 1), (74, .sipush 258, 3), (77, .newarray .int, 2), (79, .putfield 36, 3), (82, .aload_n 0, 1), (83, .sipush 258, 3), (86, .newarray .int, 2), (88, .putfield 39, 3), (91, .aload_n 0, 1), (92, .sipush 774, 3), (95, .newarray .int, 2), (97, .putfield 42, 3), (100, .aload_n 0, 1), (101, .aload_n 1, 1), (102, .putfield 45, 3), (105, .aload_n 0, 1)] = true := by decide +kernel
theorem dX9_init_55 : decode cX9_init 55 = .ok (.aload_n 0, 1) := kDec_at dA47_cX9_init 0 rfl
theorem dX9_init_56 : decode cX9_init 56 = .ok (.sipush 258, 3) := kDec_at dA47_cX9_init 1 rfl
theorem dX9_init_59 : decode cX9_init 59 = .ok (.newarray .int, 2) := kDec_at dA47_cX9_init 2 rfl
theorem dX9_init_61 : decode cX9_init 61 = .ok (.putfield 30, 3) := kDec_at dA47_cX9_init 3 rfl
theorem dX9_init_64 : decode cX9_init 64 = .ok (.aload_n 0, 1) := kDec_at dA47_cX9_init 4 rfl
theorem dX9_init_65 : decode cX9_init 65 = .ok (.sipush 774, 3) := kDec_at dA47_cX9_init 5 rfl
theorem dX9_init_68 : decode cX9_init 68 = .ok (.newarray .int, 2) := kDec_at dA47_cX9_init 6 rfl
theorem dX9_init_70 : decode cX9_init 70 = .ok (.putfield 33, 3) := kDec_at dA47_cX9_init 7 rfl
theorem dX9_init_73 : decode cX9_init 73 = .ok (.aload_n 0, 1) := kDec_at dA47_cX9_init 8 rfl
theorem dX9_init_74 : decode cX9_init 74 = .ok (.sipush 258, 3) := kDec_at dA47_cX9_init 9 rfl
theorem dX9_init_77 : decode cX9_init 77 = .ok (.newarray .int, 2) := kDec_at dA47_cX9_init 10 rfl
theorem dX9_init_79 : decode cX9_init 79 = .ok (.putfield 36, 3) := kDec_at dA47_cX9_init 11 rfl
theorem dX9_init_82 : decode cX9_init 82 = .ok (.aload_n 0, 1) := kDec_at dA47_cX9_init 12 rfl
theorem dX9_init_83 : decode cX9_init 83 = .ok (.sipush 258, 3) := kDec_at dA47_cX9_init 13 rfl
theorem dX9_init_86 : decode cX9_init 86 = .ok (.newarray .int, 2) := kDec_at dA47_cX9_init 14 rfl
theorem dX9_init_88 : decode cX9_init 88 = .ok (.putfield 39, 3) := kDec_at dA47_cX9_init 15 rfl
theorem dX9_init_91 : decode cX9_init 91 = .ok (.aload_n 0, 1) := kDec_at dA47_cX9_init 16 rfl
theorem dX9_init_92 : decode cX9_init 92 = .ok (.sipush 774, 3) := kDec_at dA47_cX9_init 17 rfl
theorem dX9_init_95 : decode cX9_init 95 = .ok (.newarray .int, 2) := kDec_at dA47_cX9_init 18 rfl
theorem dX9_init_97 : decode cX9_init 97 = .ok (.putfield 42, 3) := kDec_at dA47_cX9_init 19 rfl
theorem dX9_init_100 : decode cX9_init 100 = .ok (.aload_n 0, 1) := kDec_at dA47_cX9_init 20 rfl
theorem dX9_init_101 : decode cX9_init 101 = .ok (.aload_n 1, 1) := kDec_at dA47_cX9_init 21 rfl
theorem dX9_init_102 : decode cX9_init 102 = .ok (.putfield 45, 3) := kDec_at dA47_cX9_init 22 rfl
theorem dX9_init_105 : decode cX9_init 105 = .ok (.aload_n 0, 1) := kDec_at dA47_cX9_init 23 rfl
set_option maxRecDepth 100000 in
theorem dA48_cX9_init : kDec cX9_init [(106, .aload_n 2, 1), (107, .putfield 49, 3), (110, .aload_n 0, 1), (111, .getfield 26, 3), (114, .iconst (-1), 1), (115, .invokestatic 53, 3), (118, .aload_n 0, 1), (119, .iconst 0, 1), (120, .putfield 59, 3), (123, .return_, 1)] = true := by decide +kernel
theorem dX9_init_106 : decode cX9_init 106 = .ok (.aload_n 2, 1) := kDec_at dA48_cX9_init 0 rfl
theorem dX9_init_107 : decode cX9_init 107 = .ok (.putfield 49, 3) := kDec_at dA48_cX9_init 1 rfl
theorem dX9_init_110 : decode cX9_init 110 = .ok (.aload_n 0, 1) := kDec_at dA48_cX9_init 2 rfl
theorem dX9_init_111 : decode cX9_init 111 = .ok (.getfield 26, 3) := kDec_at dA48_cX9_init 3 rfl
theorem dX9_init_114 : decode cX9_init 114 = .ok (.iconst (-1), 1) := kDec_at dA48_cX9_init 4 rfl
theorem dX9_init_115 : decode cX9_init 115 = .ok (.invokestatic 53, 3) := kDec_at dA48_cX9_init 5 rfl
theorem dX9_init_118 : decode cX9_init 118 = .ok (.aload_n 0, 1) := kDec_at dA48_cX9_init 6 rfl
theorem dX9_init_119 : decode cX9_init 119 = .ok (.iconst 0, 1) := kDec_at dA48_cX9_init 7 rfl
theorem dX9_init_120 : decode cX9_init 120 = .ok (.putfield 59, 3) := kDec_at dA48_cX9_init 8 rfl
theorem dX9_init_123 : decode cX9_init 123 = .ok (.return_, 1) := kDec_at dA48_cX9_init 9 rfl
set_option maxRecDepth 20000 in
theorem ggX9_init_J7_fill_53178 : GoodIn wsX9_init wsJ7_fill_53178 := goodIn_sub (fun _ h => List.mem_cons_of_mem _ (List.mem_append_right _ (h))) gJ7_fill_53178_all
set_option maxRecDepth 20000 in
theorem gX9_init_J7_fill_53178 : GoodIn wsX9_init (va_wsS RX9 53 yJ7_fill_53178 wsJ7_fill_53178) := goodIn_app (goodIn_r _ [22, 23, 24] rfl (by decide +kernel)) ggX9_init_J7_fill_53178
set_option maxRecDepth 100000 in
theorem dA49_cX8_init : kDec cX8_init [(0, .aload_n 0, 1), (1, .invokespecial 3, 3), (4, .aload_n 0, 1), (5, .aload_n 1, 1), (6, .putfield 9, 3), (9, .aload_n 0, 1), (10, .aload_n 2, 1), (11, .putfield 15, 3), (14, .aload_n 0, 1), (15, .iconst 0, 1), (16, .putfield 19, 3), (19, .aload_n 0, 1), (20, .bipush 32, 2), (22, .putfield 23, 3), (25, .aload_n 0, 1), (26, .iconst 0, 1), (27, .putfield 26, 3), (30, .aload_n 0, 1), (31, .iconst 0, 1), (32, .putfield 29, 3), (35, .return_, 1)] = true := by decide +kernel
theorem dX8_init_0 : decode cX8_init 0 = .ok (.aload_n 0, 1) := kDec_at dA49_cX8_init 0 rfl
theorem dX8_init_1 : decode cX8_init 1 = .ok (.invokespecial 3, 3) := kDec_at dA49_cX8_init 1 rfl
theorem dX8_init_4 : decode cX8_init 4 = .ok (.aload_n 0, 1) := kDec_at dA49_cX8_init 2 rfl
theorem dX8_init_5 : decode cX8_init 5 = .ok (.aload_n 1, 1) := kDec_at dA49_cX8_init 3 rfl
theorem dX8_init_6 : decode cX8_init 6 = .ok (.putfield 9, 3) := kDec_at dA49_cX8_init 4 rfl
theorem dX8_init_9 : decode cX8_init 9 = .ok (.aload_n 0, 1) := kDec_at dA49_cX8_init 5 rfl
theorem dX8_init_10 : decode cX8_init 10 = .ok (.aload_n 2, 1) := kDec_at dA49_cX8_init 6 rfl
theorem dX8_init_11 : decode cX8_init 11 = .ok (.putfield 15, 3) := kDec_at dA49_cX8_init 7 rfl
theorem dX8_init_14 : decode cX8_init 14 = .ok (.aload_n 0, 1) := kDec_at dA49_cX8_init 8 rfl
theorem dX8_init_15 : decode cX8_init 15 = .ok (.iconst 0, 1) := kDec_at dA49_cX8_init 9 rfl
theorem dX8_init_16 : decode cX8_init 16 = .ok (.putfield 19, 3) := kDec_at dA49_cX8_init 10 rfl
theorem dX8_init_19 : decode cX8_init 19 = .ok (.aload_n 0, 1) := kDec_at dA49_cX8_init 11 rfl
theorem dX8_init_20 : decode cX8_init 20 = .ok (.bipush 32, 2) := kDec_at dA49_cX8_init 12 rfl
theorem dX8_init_22 : decode cX8_init 22 = .ok (.putfield 23, 3) := kDec_at dA49_cX8_init 13 rfl
theorem dX8_init_25 : decode cX8_init 25 = .ok (.aload_n 0, 1) := kDec_at dA49_cX8_init 14 rfl
theorem dX8_init_26 : decode cX8_init 26 = .ok (.iconst 0, 1) := kDec_at dA49_cX8_init 15 rfl
theorem dX8_init_27 : decode cX8_init 27 = .ok (.putfield 26, 3) := kDec_at dA49_cX8_init 16 rfl
theorem dX8_init_30 : decode cX8_init 30 = .ok (.aload_n 0, 1) := kDec_at dA49_cX8_init 17 rfl
theorem dX8_init_31 : decode cX8_init 31 = .ok (.iconst 0, 1) := kDec_at dA49_cX8_init 18 rfl
theorem dX8_init_32 : decode cX8_init 32 = .ok (.putfield 29, 3) := kDec_at dA49_cX8_init 19 rfl
theorem dX8_init_35 : decode cX8_init 35 = .ok (.return_, 1) := kDec_at dA49_cX8_init 20 rfl
set_option maxRecDepth 100000 in
theorem dA50_cX6_init : kDec cX6_init [(0, .aload_n 0, 1), (1, .invokespecial 3, 3), (4, .aload_n 0, 1), (5, .new 9, 3), (8, .dup, 1), (9, .sipush 480, 3), (12, .invokespecial 11, 3), (15, .putfield 14, 3), (18, .aload_n 0, 1), (19, .new 9, 3), (22, .dup, 1), (23, .sipush 300, 3), (26, .invokespecial 11, 3), (29, .putfield 20, 3), (32, .aload_n 0, 1), (33, .new 9, 3), (36, .dup, 1), (37, .sipush 300, 3), (40, .invokespecial 11, 3), (43, .putfield 23, 3), (46, .aload_n 0, 1), (47, .bipush 61, 2), (49, .newarray .int, 2), (51, .putfield 26, 3)] = true := by decide +kernel
theorem dX6_init_0 : decode cX6_init 0 = .ok (.aload_n 0, 1) := kDec_at dA50_cX6_init 0 rfl
theorem dX6_init_1 : decode cX6_init 1 = .ok (.invokespecial 3, 3) := kDec_at dA50_cX6_init 1 rfl
theorem dX6_init_4 : decode cX6_init 4 = .ok (.aload_n 0, 1) := kDec_at dA50_cX6_init 2 rfl
theorem dX6_init_5 : decode cX6_init 5 = .ok (.new 9, 3) := kDec_at dA50_cX6_init 3 rfl
theorem dX6_init_8 : decode cX6_init 8 = .ok (.dup, 1) := kDec_at dA50_cX6_init 4 rfl
theorem dX6_init_9 : decode cX6_init 9 = .ok (.sipush 480, 3) := kDec_at dA50_cX6_init 5 rfl
theorem dX6_init_12 : decode cX6_init 12 = .ok (.invokespecial 11, 3) := kDec_at dA50_cX6_init 6 rfl
theorem dX6_init_15 : decode cX6_init 15 = .ok (.putfield 14, 3) := kDec_at dA50_cX6_init 7 rfl
theorem dX6_init_18 : decode cX6_init 18 = .ok (.aload_n 0, 1) := kDec_at dA50_cX6_init 8 rfl
theorem dX6_init_19 : decode cX6_init 19 = .ok (.new 9, 3) := kDec_at dA50_cX6_init 9 rfl
theorem dX6_init_22 : decode cX6_init 22 = .ok (.dup, 1) := kDec_at dA50_cX6_init 10 rfl
theorem dX6_init_23 : decode cX6_init 23 = .ok (.sipush 300, 3) := kDec_at dA50_cX6_init 11 rfl
theorem dX6_init_26 : decode cX6_init 26 = .ok (.invokespecial 11, 3) := kDec_at dA50_cX6_init 12 rfl
theorem dX6_init_29 : decode cX6_init 29 = .ok (.putfield 20, 3) := kDec_at dA50_cX6_init 13 rfl
theorem dX6_init_32 : decode cX6_init 32 = .ok (.aload_n 0, 1) := kDec_at dA50_cX6_init 14 rfl
theorem dX6_init_33 : decode cX6_init 33 = .ok (.new 9, 3) := kDec_at dA50_cX6_init 15 rfl
theorem dX6_init_36 : decode cX6_init 36 = .ok (.dup, 1) := kDec_at dA50_cX6_init 16 rfl
theorem dX6_init_37 : decode cX6_init 37 = .ok (.sipush 300, 3) := kDec_at dA50_cX6_init 17 rfl
theorem dX6_init_40 : decode cX6_init 40 = .ok (.invokespecial 11, 3) := kDec_at dA50_cX6_init 18 rfl
theorem dX6_init_43 : decode cX6_init 43 = .ok (.putfield 23, 3) := kDec_at dA50_cX6_init 19 rfl
theorem dX6_init_46 : decode cX6_init 46 = .ok (.aload_n 0, 1) := kDec_at dA50_cX6_init 20 rfl
theorem dX6_init_47 : decode cX6_init 47 = .ok (.bipush 61, 2) := kDec_at dA50_cX6_init 21 rfl
theorem dX6_init_49 : decode cX6_init 49 = .ok (.newarray .int, 2) := kDec_at dA50_cX6_init 22 rfl
theorem dX6_init_51 : decode cX6_init 51 = .ok (.putfield 26, 3) := kDec_at dA50_cX6_init 23 rfl
set_option maxRecDepth 20000 in
theorem ggX6_init_X5_init : GoodIn wsX6_init wsX5_init := goodIn_sub (fun _ h => List.mem_cons_of_mem _ (List.mem_append_left _ (List.mem_append_right _ (h)))) gX5_init_all
set_option maxRecDepth 20000 in
theorem gX6_init_X5_init : GoodIn wsX6_init (wsX5_init) := ggX6_init_X5_init
set_option maxRecDepth 100000 in
theorem dA51_cX6_init : kDec cX6_init [(54, .aload_n 0, 1), (55, .bipush 61, 2), (57, .newarray .int, 2), (59, .putfield 30, 3), (62, .aload_n 0, 1), (63, .bipush 61, 2), (65, .newarray .int, 2), (67, .putfield 33, 3), (70, .aload_n 0, 1), (71, .bipush 61, 2), (73, .newarray .int, 2), (75, .putfield 36, 3), (78, .aload_n 0, 1), (79, .aload_n 1, 1), (80, .putfield 39, 3), (83, .aload_n 0, 1), (84, .aload_n 2, 1), (85, .putfield 43, 3), (88, .aload_n 0, 1), (89, .aload_n 3, 1), (90, .putfield 47, 3), (93, .aload_n 0, 1), (94, .new 51, 3), (97, .dup, 1)] = true := by decide +kernel
theorem dX6_init_54 : decode cX6_init 54 = .ok (.aload_n 0, 1) := kDec_at dA51_cX6_init 0 rfl
theorem dX6_init_55 : decode cX6_init 55 = .ok (.bipush 61, 2) := kDec_at dA51_cX6_init 1 rfl
theorem dX6_init_57 : decode cX6_init 57 = .ok (.newarray .int, 2) := kDec_at dA51_cX6_init 2 rfl
theorem dX6_init_59 : decode cX6_init 59 = .ok (.putfield 30, 3) := kDec_at dA51_cX6_init 3 rfl
theorem dX6_init_62 : decode cX6_init 62 = .ok (.aload_n 0, 1) := kDec_at dA51_cX6_init 4 rfl
theorem dX6_init_63 : decode cX6_init 63 = .ok (.bipush 61, 2) := kDec_at dA51_cX6_init 5 rfl
theorem dX6_init_65 : decode cX6_init 65 = .ok (.newarray .int, 2) := kDec_at dA51_cX6_init 6 rfl
theorem dX6_init_67 : decode cX6_init 67 = .ok (.putfield 33, 3) := kDec_at dA51_cX6_init 7 rfl
theorem dX6_init_70 : decode cX6_init 70 = .ok (.aload_n 0, 1) := kDec_at dA51_cX6_init 8 rfl
theorem dX6_init_71 : decode cX6_init 71 = .ok (.bipush 61, 2) := kDec_at dA51_cX6_init 9 rfl
theorem dX6_init_73 : decode cX6_init 73 = .ok (.newarray .int, 2) := kDec_at dA51_cX6_init 10 rfl
theorem dX6_init_75 : decode cX6_init 75 = .ok (.putfield 36, 3) := kDec_at dA51_cX6_init 11 rfl
theorem dX6_init_78 : decode cX6_init 78 = .ok (.aload_n 0, 1) := kDec_at dA51_cX6_init 12 rfl
theorem dX6_init_79 : decode cX6_init 79 = .ok (.aload_n 1, 1) := kDec_at dA51_cX6_init 13 rfl
theorem dX6_init_80 : decode cX6_init 80 = .ok (.putfield 39, 3) := kDec_at dA51_cX6_init 14 rfl
theorem dX6_init_83 : decode cX6_init 83 = .ok (.aload_n 0, 1) := kDec_at dA51_cX6_init 15 rfl
theorem dX6_init_84 : decode cX6_init 84 = .ok (.aload_n 2, 1) := kDec_at dA51_cX6_init 16 rfl
theorem dX6_init_85 : decode cX6_init 85 = .ok (.putfield 43, 3) := kDec_at dA51_cX6_init 17 rfl
theorem dX6_init_88 : decode cX6_init 88 = .ok (.aload_n 0, 1) := kDec_at dA51_cX6_init 18 rfl
theorem dX6_init_89 : decode cX6_init 89 = .ok (.aload_n 3, 1) := kDec_at dA51_cX6_init 19 rfl
theorem dX6_init_90 : decode cX6_init 90 = .ok (.putfield 47, 3) := kDec_at dA51_cX6_init 20 rfl
theorem dX6_init_93 : decode cX6_init 93 = .ok (.aload_n 0, 1) := kDec_at dA51_cX6_init 21 rfl
theorem dX6_init_94 : decode cX6_init 94 = .ok (.new 51, 3) := kDec_at dA51_cX6_init 22 rfl
theorem dX6_init_97 : decode cX6_init 97 = .ok (.dup, 1) := kDec_at dA51_cX6_init 23 rfl
set_option maxRecDepth 100000 in
theorem dA52_cX6_init : kDec cX6_init [(98, .aload_n 1, 1), (99, .aload_n 3, 1), (100, .invokespecial 53, 3), (103, .putfield 56, 3), (106, .aload_n 0, 1), (107, .iconst 0, 1), (108, .putfield 60, 3), (111, .return_, 1)] = true := by decide +kernel
theorem dX6_init_98 : decode cX6_init 98 = .ok (.aload_n 1, 1) := kDec_at dA52_cX6_init 0 rfl
theorem dX6_init_99 : decode cX6_init 99 = .ok (.aload_n 3, 1) := kDec_at dA52_cX6_init 1 rfl
theorem dX6_init_100 : decode cX6_init 100 = .ok (.invokespecial 53, 3) := kDec_at dA52_cX6_init 2 rfl
theorem dX6_init_103 : decode cX6_init 103 = .ok (.putfield 56, 3) := kDec_at dA52_cX6_init 3 rfl
theorem dX6_init_106 : decode cX6_init 106 = .ok (.aload_n 0, 1) := kDec_at dA52_cX6_init 4 rfl
theorem dX6_init_107 : decode cX6_init 107 = .ok (.iconst 0, 1) := kDec_at dA52_cX6_init 5 rfl
theorem dX6_init_108 : decode cX6_init 108 = .ok (.putfield 60, 3) := kDec_at dA52_cX6_init 6 rfl
theorem dX6_init_111 : decode cX6_init 111 = .ok (.return_, 1) := kDec_at dA52_cX6_init 7 rfl
set_option maxRecDepth 20000 in
theorem gX8_clsall : wsX80.all goodWord = true := by decide +kernel
set_option maxRecDepth 20000 in
theorem gX8_init_all : wsX8_init.all goodWord = true := by
  unfold wsX8_init
  exact good_c (by decide +kernel) (good_a ((by decide +kernel)) gX8_clsall)
set_option maxRecDepth 20000 in
theorem ggX6_init_X8_init : GoodIn wsX6_init wsX8_init := goodIn_sub (fun _ h => List.mem_cons_of_mem _ (List.mem_append_right _ (h))) gX8_init_all
set_option maxRecDepth 20000 in
theorem gX6_init_X8_init : GoodIn wsX6_init (wsX8_init) := ggX6_init_X8_init
set_option maxRecDepth 100000 in
theorem dA53_cX1_init : kDec cX1_init [(0, .aload_n 0, 1), (1, .invokespecial 3, 3), (4, .aload_n 0, 1), (5, .new 9, 3), (8, .dup, 1), (9, .sipush 800, 3), (12, .invokespecial 13, 3), (15, .putfield 16, 3), (18, .aload_n 0, 1), (19, .sipush 801, 3), (22, .newarray .int, 2), (24, .putfield 20, 3), (27, .aload_n 0, 1), (28, .sipush 801, 3), (31, .newarray .int, 2), (33, .putfield 24, 3), (36, .aload_n 0, 1), (37, .sipush 801, 3), (40, .newarray .int, 2), (42, .putfield 27, 3), (45, .aload_n 0, 1), (46, .sipush 200, 3), (49, .newarray .int, 2), (51, .putfield 30, 3)] = true := by decide +kernel
theorem dX1_init_0 : decode cX1_init 0 = .ok (.aload_n 0, 1) := kDec_at dA53_cX1_init 0 rfl
theorem dX1_init_1 : decode cX1_init 1 = .ok (.invokespecial 3, 3) := kDec_at dA53_cX1_init 1 rfl
theorem dX1_init_4 : decode cX1_init 4 = .ok (.aload_n 0, 1) := kDec_at dA53_cX1_init 2 rfl
theorem dX1_init_5 : decode cX1_init 5 = .ok (.new 9, 3) := kDec_at dA53_cX1_init 3 rfl
theorem dX1_init_8 : decode cX1_init 8 = .ok (.dup, 1) := kDec_at dA53_cX1_init 4 rfl
theorem dX1_init_9 : decode cX1_init 9 = .ok (.sipush 800, 3) := kDec_at dA53_cX1_init 5 rfl
theorem dX1_init_12 : decode cX1_init 12 = .ok (.invokespecial 13, 3) := kDec_at dA53_cX1_init 6 rfl
theorem dX1_init_15 : decode cX1_init 15 = .ok (.putfield 16, 3) := kDec_at dA53_cX1_init 7 rfl
theorem dX1_init_18 : decode cX1_init 18 = .ok (.aload_n 0, 1) := kDec_at dA53_cX1_init 8 rfl
theorem dX1_init_19 : decode cX1_init 19 = .ok (.sipush 801, 3) := kDec_at dA53_cX1_init 9 rfl
theorem dX1_init_22 : decode cX1_init 22 = .ok (.newarray .int, 2) := kDec_at dA53_cX1_init 10 rfl
theorem dX1_init_24 : decode cX1_init 24 = .ok (.putfield 20, 3) := kDec_at dA53_cX1_init 11 rfl
theorem dX1_init_27 : decode cX1_init 27 = .ok (.aload_n 0, 1) := kDec_at dA53_cX1_init 12 rfl
theorem dX1_init_28 : decode cX1_init 28 = .ok (.sipush 801, 3) := kDec_at dA53_cX1_init 13 rfl
theorem dX1_init_31 : decode cX1_init 31 = .ok (.newarray .int, 2) := kDec_at dA53_cX1_init 14 rfl
theorem dX1_init_33 : decode cX1_init 33 = .ok (.putfield 24, 3) := kDec_at dA53_cX1_init 15 rfl
theorem dX1_init_36 : decode cX1_init 36 = .ok (.aload_n 0, 1) := kDec_at dA53_cX1_init 16 rfl
theorem dX1_init_37 : decode cX1_init 37 = .ok (.sipush 801, 3) := kDec_at dA53_cX1_init 17 rfl
theorem dX1_init_40 : decode cX1_init 40 = .ok (.newarray .int, 2) := kDec_at dA53_cX1_init 18 rfl
theorem dX1_init_42 : decode cX1_init 42 = .ok (.putfield 27, 3) := kDec_at dA53_cX1_init 19 rfl
theorem dX1_init_45 : decode cX1_init 45 = .ok (.aload_n 0, 1) := kDec_at dA53_cX1_init 20 rfl
theorem dX1_init_46 : decode cX1_init 46 = .ok (.sipush 200, 3) := kDec_at dA53_cX1_init 21 rfl
theorem dX1_init_49 : decode cX1_init 49 = .ok (.newarray .int, 2) := kDec_at dA53_cX1_init 22 rfl
theorem dX1_init_51 : decode cX1_init 51 = .ok (.putfield 30, 3) := kDec_at dA53_cX1_init 23 rfl
set_option maxRecDepth 20000 in
theorem ggX1_init_X5_init : GoodIn wsX1_init wsX5_init := goodIn_sub (fun _ h => List.mem_cons_of_mem _ (List.mem_append_left _ (List.mem_append_right _ (h)))) gX5_init_all
set_option maxRecDepth 20000 in
theorem gX1_init_X5_init : GoodIn wsX1_init (wsX5_init) := ggX1_init_X5_init
set_option maxRecDepth 100000 in
theorem dA54_cX1_init : kDec cX1_init [(54, .aload_n 0, 1), (55, .sipush 200, 3), (58, .newarray .int, 2), (60, .putfield 33, 3), (63, .aload_n 0, 1), (64, .sipush 200, 3), (67, .newarray .int, 2), (69, .putfield 36, 3), (72, .aload_n 0, 1), (73, .sipush 200, 3), (76, .newarray .int, 2), (78, .putfield 39, 3), (81, .aload_n 0, 1), (82, .aload_n 1, 1), (83, .putfield 42, 3), (86, .aload_n 0, 1), (87, .aload_n 2, 1), (88, .putfield 46, 3), (91, .aload_n 0, 1), (92, .new 50, 3), (95, .dup, 1), (96, .aload_n 1, 1), (97, .aload_n 2, 1), (98, .invokespecial 52, 3)] = true := by decide +kernel
theorem dX1_init_54 : decode cX1_init 54 = .ok (.aload_n 0, 1) := kDec_at dA54_cX1_init 0 rfl
theorem dX1_init_55 : decode cX1_init 55 = .ok (.sipush 200, 3) := kDec_at dA54_cX1_init 1 rfl
theorem dX1_init_58 : decode cX1_init 58 = .ok (.newarray .int, 2) := kDec_at dA54_cX1_init 2 rfl
theorem dX1_init_60 : decode cX1_init 60 = .ok (.putfield 33, 3) := kDec_at dA54_cX1_init 3 rfl
theorem dX1_init_63 : decode cX1_init 63 = .ok (.aload_n 0, 1) := kDec_at dA54_cX1_init 4 rfl
theorem dX1_init_64 : decode cX1_init 64 = .ok (.sipush 200, 3) := kDec_at dA54_cX1_init 5 rfl
theorem dX1_init_67 : decode cX1_init 67 = .ok (.newarray .int, 2) := kDec_at dA54_cX1_init 6 rfl
theorem dX1_init_69 : decode cX1_init 69 = .ok (.putfield 36, 3) := kDec_at dA54_cX1_init 7 rfl
theorem dX1_init_72 : decode cX1_init 72 = .ok (.aload_n 0, 1) := kDec_at dA54_cX1_init 8 rfl
theorem dX1_init_73 : decode cX1_init 73 = .ok (.sipush 200, 3) := kDec_at dA54_cX1_init 9 rfl
theorem dX1_init_76 : decode cX1_init 76 = .ok (.newarray .int, 2) := kDec_at dA54_cX1_init 10 rfl
theorem dX1_init_78 : decode cX1_init 78 = .ok (.putfield 39, 3) := kDec_at dA54_cX1_init 11 rfl
theorem dX1_init_81 : decode cX1_init 81 = .ok (.aload_n 0, 1) := kDec_at dA54_cX1_init 12 rfl
theorem dX1_init_82 : decode cX1_init 82 = .ok (.aload_n 1, 1) := kDec_at dA54_cX1_init 13 rfl
theorem dX1_init_83 : decode cX1_init 83 = .ok (.putfield 42, 3) := kDec_at dA54_cX1_init 14 rfl
theorem dX1_init_86 : decode cX1_init 86 = .ok (.aload_n 0, 1) := kDec_at dA54_cX1_init 15 rfl
theorem dX1_init_87 : decode cX1_init 87 = .ok (.aload_n 2, 1) := kDec_at dA54_cX1_init 16 rfl
theorem dX1_init_88 : decode cX1_init 88 = .ok (.putfield 46, 3) := kDec_at dA54_cX1_init 17 rfl
theorem dX1_init_91 : decode cX1_init 91 = .ok (.aload_n 0, 1) := kDec_at dA54_cX1_init 18 rfl
theorem dX1_init_92 : decode cX1_init 92 = .ok (.new 50, 3) := kDec_at dA54_cX1_init 19 rfl
theorem dX1_init_95 : decode cX1_init 95 = .ok (.dup, 1) := kDec_at dA54_cX1_init 20 rfl
theorem dX1_init_96 : decode cX1_init 96 = .ok (.aload_n 1, 1) := kDec_at dA54_cX1_init 21 rfl
theorem dX1_init_97 : decode cX1_init 97 = .ok (.aload_n 2, 1) := kDec_at dA54_cX1_init 22 rfl
theorem dX1_init_98 : decode cX1_init 98 = .ok (.invokespecial 52, 3) := kDec_at dA54_cX1_init 23 rfl
set_option maxRecDepth 20000 in
theorem ggX1_init_X8_init : GoodIn wsX1_init wsX8_init := goodIn_sub (fun _ h => List.mem_cons_of_mem _ (List.mem_append_right _ (h))) gX8_init_all
set_option maxRecDepth 20000 in
theorem gX1_init_X8_init : GoodIn wsX1_init (wsX8_init) := ggX1_init_X8_init
set_option maxRecDepth 100000 in
theorem dA55_cX1_init : kDec cX1_init [(101, .putfield 55, 3), (104, .aload_n 0, 1), (105, .new 50, 3), (108, .dup, 1), (109, .aload_n 1, 1), (110, .aload_n 2, 1), (111, .invokespecial 52, 3), (114, .putfield 59, 3), (117, .aload_n 0, 1), (118, .new 50, 3), (121, .dup, 1), (122, .aload_n 1, 1), (123, .aload_n 2, 1), (124, .invokespecial 52, 3), (127, .putfield 62, 3), (130, .aload_n 0, 1), (131, .iconst 0, 1), (132, .putfield 65, 3), (135, .aload_n 0, 1), (136, .iconst 0, 1), (137, .putfield 69, 3), (140, .aload_n 0, 1), (141, .iconst 0, 1), (142, .putfield 72, 3)] = true := by decide +kernel
theorem dX1_init_101 : decode cX1_init 101 = .ok (.putfield 55, 3) := kDec_at dA55_cX1_init 0 rfl
theorem dX1_init_104 : decode cX1_init 104 = .ok (.aload_n 0, 1) := kDec_at dA55_cX1_init 1 rfl
theorem dX1_init_105 : decode cX1_init 105 = .ok (.new 50, 3) := kDec_at dA55_cX1_init 2 rfl
theorem dX1_init_108 : decode cX1_init 108 = .ok (.dup, 1) := kDec_at dA55_cX1_init 3 rfl
theorem dX1_init_109 : decode cX1_init 109 = .ok (.aload_n 1, 1) := kDec_at dA55_cX1_init 4 rfl
theorem dX1_init_110 : decode cX1_init 110 = .ok (.aload_n 2, 1) := kDec_at dA55_cX1_init 5 rfl
theorem dX1_init_111 : decode cX1_init 111 = .ok (.invokespecial 52, 3) := kDec_at dA55_cX1_init 6 rfl
theorem dX1_init_114 : decode cX1_init 114 = .ok (.putfield 59, 3) := kDec_at dA55_cX1_init 7 rfl
theorem dX1_init_117 : decode cX1_init 117 = .ok (.aload_n 0, 1) := kDec_at dA55_cX1_init 8 rfl
theorem dX1_init_118 : decode cX1_init 118 = .ok (.new 50, 3) := kDec_at dA55_cX1_init 9 rfl
theorem dX1_init_121 : decode cX1_init 121 = .ok (.dup, 1) := kDec_at dA55_cX1_init 10 rfl
theorem dX1_init_122 : decode cX1_init 122 = .ok (.aload_n 1, 1) := kDec_at dA55_cX1_init 11 rfl
theorem dX1_init_123 : decode cX1_init 123 = .ok (.aload_n 2, 1) := kDec_at dA55_cX1_init 12 rfl
theorem dX1_init_124 : decode cX1_init 124 = .ok (.invokespecial 52, 3) := kDec_at dA55_cX1_init 13 rfl
theorem dX1_init_127 : decode cX1_init 127 = .ok (.putfield 62, 3) := kDec_at dA55_cX1_init 14 rfl
theorem dX1_init_130 : decode cX1_init 130 = .ok (.aload_n 0, 1) := kDec_at dA55_cX1_init 15 rfl
theorem dX1_init_131 : decode cX1_init 131 = .ok (.iconst 0, 1) := kDec_at dA55_cX1_init 16 rfl
theorem dX1_init_132 : decode cX1_init 132 = .ok (.putfield 65, 3) := kDec_at dA55_cX1_init 17 rfl
theorem dX1_init_135 : decode cX1_init 135 = .ok (.aload_n 0, 1) := kDec_at dA55_cX1_init 18 rfl
theorem dX1_init_136 : decode cX1_init 136 = .ok (.iconst 0, 1) := kDec_at dA55_cX1_init 19 rfl
theorem dX1_init_137 : decode cX1_init 137 = .ok (.putfield 69, 3) := kDec_at dA55_cX1_init 20 rfl
theorem dX1_init_140 : decode cX1_init 140 = .ok (.aload_n 0, 1) := kDec_at dA55_cX1_init 21 rfl
theorem dX1_init_141 : decode cX1_init 141 = .ok (.iconst 0, 1) := kDec_at dA55_cX1_init 22 rfl
theorem dX1_init_142 : decode cX1_init 142 = .ok (.putfield 72, 3) := kDec_at dA55_cX1_init 23 rfl
set_option maxRecDepth 100000 in
theorem dA56_cX1_init : kDec cX1_init [(145, .aload_n 0, 1), (146, .iconst (-1), 1), (147, .putfield 76, 3), (150, .aload_n 0, 1), (151, .iconst (-1), 1), (152, .putfield 79, 3), (155, .aload_n 0, 1), (156, .iconst (-1), 1), (157, .putfield 82, 3), (160, .aload_n 0, 1), (161, .iconst (-1), 1), (162, .putfield 85, 3), (165, .return_, 1)] = true := by decide +kernel
theorem dX1_init_145 : decode cX1_init 145 = .ok (.aload_n 0, 1) := kDec_at dA56_cX1_init 0 rfl
theorem dX1_init_146 : decode cX1_init 146 = .ok (.iconst (-1), 1) := kDec_at dA56_cX1_init 1 rfl
theorem dX1_init_147 : decode cX1_init 147 = .ok (.putfield 76, 3) := kDec_at dA56_cX1_init 2 rfl
theorem dX1_init_150 : decode cX1_init 150 = .ok (.aload_n 0, 1) := kDec_at dA56_cX1_init 3 rfl
theorem dX1_init_151 : decode cX1_init 151 = .ok (.iconst (-1), 1) := kDec_at dA56_cX1_init 4 rfl
theorem dX1_init_152 : decode cX1_init 152 = .ok (.putfield 79, 3) := kDec_at dA56_cX1_init 5 rfl
theorem dX1_init_155 : decode cX1_init 155 = .ok (.aload_n 0, 1) := kDec_at dA56_cX1_init 6 rfl
theorem dX1_init_156 : decode cX1_init 156 = .ok (.iconst (-1), 1) := kDec_at dA56_cX1_init 7 rfl
theorem dX1_init_157 : decode cX1_init 157 = .ok (.putfield 82, 3) := kDec_at dA56_cX1_init 8 rfl
theorem dX1_init_160 : decode cX1_init 160 = .ok (.aload_n 0, 1) := kDec_at dA56_cX1_init 9 rfl
theorem dX1_init_161 : decode cX1_init 161 = .ok (.iconst (-1), 1) := kDec_at dA56_cX1_init 10 rfl
theorem dX1_init_162 : decode cX1_init 162 = .ok (.putfield 85, 3) := kDec_at dA56_cX1_init 11 rfl
theorem dX1_init_165 : decode cX1_init 165 = .ok (.return_, 1) := kDec_at dA56_cX1_init 12 rfl

end
