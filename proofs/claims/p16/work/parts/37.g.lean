/-! 64.law -/
section
set_option maxRecDepth 20000 in
theorem p_t1 {w : Cond} (h : w ∈ tables_1_1) : w ∈ lw_tbl := by
  unfold lw_tbl tables_1
  exact List.mem_append_right _ (List.mem_append_left _ h)
set_option maxRecDepth 20000 in
theorem p_t2 {w : Cond} (h : w ∈ tables_1_2) : w ∈ lw_tbl := by
  unfold lw_tbl tables_1
  exact List.mem_append_right _ (List.mem_append_right _ (List.mem_append_left _ h))
set_option maxRecDepth 20000 in
theorem p_t3 {w : Cond} (h : w ∈ tables_1_3) : w ∈ lw_tbl := by
  unfold lw_tbl tables_1
  exact List.mem_append_right _ (List.mem_append_right _ (List.mem_append_right _ (List.mem_append_left _ h)))
set_option maxRecDepth 20000 in
theorem p_t4 {w : Cond} (h : w ∈ tables_1_4) : w ∈ lw_tbl := by
  unfold lw_tbl tables_1
  exact List.mem_append_right _ (List.mem_append_right _ (List.mem_append_right _ (List.mem_append_right _ (List.mem_append_left _ h))))
set_option maxRecDepth 20000 in
theorem p_t5 {w : Cond} (h : w ∈ tables_1_5) : w ∈ lw_tbl := by
  unfold lw_tbl tables_1
  exact List.mem_append_right _ (List.mem_append_right _ (List.mem_append_right _ (List.mem_append_right _ (List.mem_append_right _ (List.mem_append_left _ h)))))
set_option maxRecDepth 20000 in
theorem p_t6 {w : Cond} (h : w ∈ tables_1_6) : w ∈ lw_tbl := by
  unfold lw_tbl tables_1
  exact List.mem_append_right _ (List.mem_append_right _ (List.mem_append_right _ (List.mem_append_right _ (List.mem_append_right _ (List.mem_append_right _ (h))))))
set_option maxRecDepth 20000 in
theorem p_tk {w : Cond} (h : w ∈ k2_sels lw_privs) : w ∈ lw_tbl := by
  unfold lw_tbl
  exact List.mem_append_left _ h
set_option maxRecDepth 20000 in
theorem p_c {w : Cond} {l : List Cond} (h : w ∈ lw_tbl) (t : ∀ v ∈ l, v ∈ lw_tbl) : ∀ v ∈ w :: l, v ∈ lw_tbl := List.forall_mem_cons.mpr ⟨h, t⟩
set_option maxRecDepth 20000 in
theorem p_n : ∀ v ∈ ([] : List Cond), v ∈ lw_tbl := fun _ h => absurd h List.not_mem_nil
set_option maxRecDepth 20000 in
theorem p_a {a b : List Cond} (h : ∀ v ∈ a, v ∈ lw_tbl) (t : ∀ v ∈ b, v ∈ lw_tbl) : ∀ v ∈ a ++ b, v ∈ lw_tbl := List.forall_mem_append.mpr ⟨h, t⟩
set_option maxRecDepth 20000 in
theorem p_u {C : String} {T : u_T} {N : Nat} (h : ∀ k, k < N → u_lay C T k ∈ lw_tbl) : ∀ w ∈ u_ws C T N, w ∈ lw_tbl := fun w hw => by
  obtain ⟨k, hk, rfl⟩ := List.mem_map.mp hw
  exact h k (List.mem_range.mp hk)

set_option maxRecDepth 20000 in
theorem wsL_law_x0 : ∀ w ∈ (vx_atX RX11 164 "java/util/NoSuchElementException" 13 prog_22_method_4_code ["java/lang/RuntimeException", "java/lang/Exception"]).filter goodWord, w ∈ lw_tbl := by decide +kernel

set_option maxRecDepth 20000 in
theorem q_1_1 : (Cond.initialized RX11 : Cond) ∈ lw_tbl := p_t1 (List.mem_of_getElem? (i := 1) rfl)
set_option maxRecDepth 20000 in
theorem q_2_140 : (Cond.selects RX11 yX11_feed yX11_feed : Cond) ∈ lw_tbl := p_t2 (List.mem_of_getElem? (i := 140) rfl)
set_option maxRecDepth 20000 in
theorem q_2_139 : (Cond.instanceMethod yX11_feed : Cond) ∈ lw_tbl := p_t2 (List.mem_of_getElem? (i := 139) rfl)
set_option maxRecDepth 20000 in
theorem q_2_138 : (Cond.methodLink RL 19 yX11_feed : Cond) ∈ lw_tbl := p_t2 (List.mem_of_getElem? (i := 138) rfl)
set_option maxRecDepth 20000 in
theorem q_2_141 : (Cond.code yX11_feed cX11_feed 6 (some .int) : Cond) ∈ lw_tbl := p_t2 (List.mem_of_getElem? (i := 141) rfl)
set_option maxRecDepth 20000 in
theorem q_2_148 : (Cond.selects RX5 yX5_add yX5_add : Cond) ∈ lw_tbl := p_t2 (List.mem_of_getElem? (i := 148) rfl)
set_option maxRecDepth 20000 in
theorem q_2_147 : (Cond.instanceMethod yX5_add : Cond) ∈ lw_tbl := p_t2 (List.mem_of_getElem? (i := 147) rfl)
set_option maxRecDepth 20000 in
theorem q_2_146 : (Cond.methodLink RX11 98 yX5_add : Cond) ∈ lw_tbl := p_t2 (List.mem_of_getElem? (i := 146) rfl)
set_option maxRecDepth 20000 in
theorem q_1_6 : (Cond.initialized RX5 : Cond) ∈ lw_tbl := p_t1 (List.mem_of_getElem? (i := 6) rfl)
set_option maxRecDepth 20000 in
theorem q_2_144 : (Cond.selects RX5 yX5_length yX5_length : Cond) ∈ lw_tbl := p_t2 (List.mem_of_getElem? (i := 144) rfl)
set_option maxRecDepth 20000 in
theorem q_2_143 : (Cond.instanceMethod yX5_length : Cond) ∈ lw_tbl := p_t2 (List.mem_of_getElem? (i := 143) rfl)
set_option maxRecDepth 20000 in
theorem q_2_142 : (Cond.methodLink RX11 94 yX5_length : Cond) ∈ lw_tbl := p_t2 (List.mem_of_getElem? (i := 142) rfl)
set_option maxRecDepth 20000 in
theorem q_2_101 : (Cond.fieldLink RX11 30 "TextMender" "tape" "LTextMender$Numbers;" : Cond) ∈ lw_tbl := p_t2 (List.mem_of_getElem? (i := 101) rfl)
set_option maxRecDepth 20000 in
theorem q_2_113 : (Cond.laysFinal RX11 "TextMender" "tape" "LTextMender$Numbers;" : Cond) ∈ lw_tbl := p_t2 (List.mem_of_getElem? (i := 113) rfl)
set_option maxRecDepth 20000 in
theorem q_2_115 : (Cond.laysFinal RX11 "TextMender" "letters" "LTextMender$Numbers;" : Cond) ∈ lw_tbl := p_t2 (List.mem_of_getElem? (i := 115) rfl)
set_option maxRecDepth 20000 in
theorem q_2_117 : (Cond.laysFinal RX11 "TextMender" "made" "LTextMender$Numbers;" : Cond) ∈ lw_tbl := p_t2 (List.mem_of_getElem? (i := 117) rfl)
set_option maxRecDepth 20000 in
theorem q_2_119 : (Cond.laysFinal RX11 "TextMender" "codes" "LTextMender$Codes;" : Cond) ∈ lw_tbl := p_t2 (List.mem_of_getElem? (i := 119) rfl)
set_option maxRecDepth 20000 in
theorem q_2_121 : (Cond.laysFinal RX11 "TextMender" "passage" "LTextMender$Passage;" : Cond) ∈ lw_tbl := p_t2 (List.mem_of_getElem? (i := 121) rfl)
set_option maxRecDepth 20000 in
theorem q_2_123 : (Cond.laysFinal RX11 "TextMender" "harms" "LTextMender$Harms;" : Cond) ∈ lw_tbl := p_t2 (List.mem_of_getElem? (i := 123) rfl)
set_option maxRecDepth 20000 in
theorem q_2_125 : (Cond.laysFinal RX11 "TextMender" "costs" "LTextMender$Costs;" : Cond) ∈ lw_tbl := p_t2 (List.mem_of_getElem? (i := 125) rfl)
set_option maxRecDepth 20000 in
theorem q_2_127 : (Cond.laysFinal RX11 "TextMender" "changes" "LTextMender$Changes;" : Cond) ∈ lw_tbl := p_t2 (List.mem_of_getElem? (i := 127) rfl)
set_option maxRecDepth 20000 in
theorem q_2_129 : (Cond.laysFinal RX11 "TextMender" "rowBook" "LTextMender$Rows;" : Cond) ∈ lw_tbl := p_t2 (List.mem_of_getElem? (i := 129) rfl)
set_option maxRecDepth 20000 in
theorem q_2_131 : (Cond.laysFinal RX11 "TextMender" "parting" "LTextMender$Parting;" : Cond) ∈ lw_tbl := p_t2 (List.mem_of_getElem? (i := 131) rfl)
set_option maxRecDepth 20000 in
theorem q_2_133 : (Cond.laysFinal RX11 "TextMender" "choiceBook" "LTextMender$Choices;" : Cond) ∈ lw_tbl := p_t2 (List.mem_of_getElem? (i := 133) rfl)
set_option maxRecDepth 20000 in
theorem q_2_135 : (Cond.lays RX11 "TextMender" "fault" "I" : Cond) ∈ lw_tbl := p_t2 (List.mem_of_getElem? (i := 135) rfl)
set_option maxRecDepth 20000 in
theorem q_1_82 : (Cond.laysFinal RX5 "TextMender$Numbers" "numbers" "[I" : Cond) ∈ lw_tbl := p_t1 (List.mem_of_getElem? (i := 82) rfl)
set_option maxRecDepth 20000 in
theorem q_1_84 : (Cond.lays RX5 "TextMender$Numbers" "length" "I" : Cond) ∈ lw_tbl := p_t1 (List.mem_of_getElem? (i := 84) rfl)
set_option maxRecDepth 20000 in
theorem q_2_145 : (Cond.code yX5_length cX5_length 1 (some .int) : Cond) ∈ lw_tbl := p_t2 (List.mem_of_getElem? (i := 145) rfl)
set_option maxRecDepth 20000 in
theorem q_1_81 : (Cond.fieldLink RX5 21 "TextMender$Numbers" "length" "I" : Cond) ∈ lw_tbl := p_t1 (List.mem_of_getElem? (i := 81) rfl)
set_option maxRecDepth 20000 in
theorem q_2_149 : (Cond.code yX5_add cX5_add 2 (some .boolean) : Cond) ∈ lw_tbl := p_t2 (List.mem_of_getElem? (i := 149) rfl)
set_option maxRecDepth 20000 in
theorem q_1_80 : (Cond.fieldLink RX5 15 "TextMender$Numbers" "numbers" "[I" : Cond) ∈ lw_tbl := p_t1 (List.mem_of_getElem? (i := 80) rfl)
set_option maxRecDepth 20000 in
theorem q_1_15 : (Cond.initialized RX12 : Cond) ∈ lw_tbl := p_t1 (List.mem_of_getElem? (i := 15) rfl)
set_option maxRecDepth 20000 in
theorem q_5_166 : (Cond.selects RX12 yX12_feed yX12_feed : Cond) ∈ lw_tbl := p_t5 (List.mem_of_getElem? (i := 166) rfl)
set_option maxRecDepth 20000 in
theorem q_5_165 : (Cond.instanceMethod yX12_feed : Cond) ∈ lw_tbl := p_t5 (List.mem_of_getElem? (i := 165) rfl)
set_option maxRecDepth 20000 in
theorem q_5_164 : (Cond.methodLink RL 23 yX12_feed : Cond) ∈ lw_tbl := p_t5 (List.mem_of_getElem? (i := 164) rfl)
set_option maxRecDepth 20000 in
theorem q_5_167 : (Cond.code yX12_feed cX12_feed 6 (some .int) : Cond) ∈ lw_tbl := p_t5 (List.mem_of_getElem? (i := 167) rfl)
set_option maxRecDepth 20000 in
theorem q_5_42 : (Cond.fieldLink RX12 9 "TextMenderModel" "tape" "[I" : Cond) ∈ lw_tbl := p_t5 (List.mem_of_getElem? (i := 42) rfl)
set_option maxRecDepth 20000 in
theorem q_5_43 : (Cond.fieldLink RX12 151 "TextMenderModel" "taped" "I" : Cond) ∈ lw_tbl := p_t5 (List.mem_of_getElem? (i := 43) rfl)
set_option maxRecDepth 20000 in
theorem q_5_67 : (Cond.fieldLink RX12 85 "TextMenderModel" "thrown" "I" : Cond) ∈ lw_tbl := p_t5 (List.mem_of_getElem? (i := 67) rfl)
set_option maxRecDepth 20000 in
theorem q_5_82 : (Cond.laysFinal RX12 "TextMenderModel" "tape" "[I" : Cond) ∈ lw_tbl := p_t5 (List.mem_of_getElem? (i := 82) rfl)
set_option maxRecDepth 20000 in
theorem q_5_84 : (Cond.lays RX12 "TextMenderModel" "taped" "I" : Cond) ∈ lw_tbl := p_t5 (List.mem_of_getElem? (i := 84) rfl)
set_option maxRecDepth 20000 in
theorem q_5_86 : (Cond.laysFinal RX12 "TextMenderModel" "sizes" "[I" : Cond) ∈ lw_tbl := p_t5 (List.mem_of_getElem? (i := 86) rfl)
set_option maxRecDepth 20000 in
theorem q_5_88 : (Cond.laysFinal RX12 "TextMenderModel" "texts" "[I" : Cond) ∈ lw_tbl := p_t5 (List.mem_of_getElem? (i := 88) rfl)
set_option maxRecDepth 20000 in
theorem q_5_90 : (Cond.lays RX12 "TextMenderModel" "past" "I" : Cond) ∈ lw_tbl := p_t5 (List.mem_of_getElem? (i := 90) rfl)
set_option maxRecDepth 20000 in
theorem q_5_92 : (Cond.lays RX12 "TextMenderModel" "firstPast" "I" : Cond) ∈ lw_tbl := p_t5 (List.mem_of_getElem? (i := 92) rfl)
set_option maxRecDepth 20000 in
theorem q_5_94 : (Cond.laysFinal RX12 "TextMenderModel" "letterOf" "[I" : Cond) ∈ lw_tbl := p_t5 (List.mem_of_getElem? (i := 94) rfl)
set_option maxRecDepth 20000 in
theorem q_5_96 : (Cond.laysFinal RX12 "TextMenderModel" "byteOfLetter" "[S" : Cond) ∈ lw_tbl := p_t5 (List.mem_of_getElem? (i := 96) rfl)
set_option maxRecDepth 20000 in
theorem q_5_98 : (Cond.laysFinal RX12 "TextMenderModel" "told" "[I" : Cond) ∈ lw_tbl := p_t5 (List.mem_of_getElem? (i := 98) rfl)
set_option maxRecDepth 20000 in
theorem q_5_100 : (Cond.laysFinal RX12 "TextMenderModel" "harmA" "[I" : Cond) ∈ lw_tbl := p_t5 (List.mem_of_getElem? (i := 100) rfl)
set_option maxRecDepth 20000 in
theorem q_5_102 : (Cond.laysFinal RX12 "TextMenderModel" "harmB" "[I" : Cond) ∈ lw_tbl := p_t5 (List.mem_of_getElem? (i := 102) rfl)
set_option maxRecDepth 20000 in
theorem q_5_104 : (Cond.lays RX12 "TextMenderModel" "harms" "I" : Cond) ∈ lw_tbl := p_t5 (List.mem_of_getElem? (i := 104) rfl)
set_option maxRecDepth 20000 in
theorem q_5_106 : (Cond.laysFinal RX12 "TextMenderModel" "rows" "[I" : Cond) ∈ lw_tbl := p_t5 (List.mem_of_getElem? (i := 106) rfl)
set_option maxRecDepth 20000 in
theorem q_5_108 : (Cond.lays RX12 "TextMenderModel" "rowMany" "I" : Cond) ∈ lw_tbl := p_t5 (List.mem_of_getElem? (i := 108) rfl)
set_option maxRecDepth 20000 in
theorem q_5_110 : (Cond.laysFinal RX12 "TextMenderModel" "costX" "[I" : Cond) ∈ lw_tbl := p_t5 (List.mem_of_getElem? (i := 110) rfl)
set_option maxRecDepth 20000 in
theorem q_5_112 : (Cond.laysFinal RX12 "TextMenderModel" "costY" "[I" : Cond) ∈ lw_tbl := p_t5 (List.mem_of_getElem? (i := 112) rfl)
set_option maxRecDepth 20000 in
theorem q_5_114 : (Cond.laysFinal RX12 "TextMenderModel" "costV" "[I" : Cond) ∈ lw_tbl := p_t5 (List.mem_of_getElem? (i := 114) rfl)
set_option maxRecDepth 20000 in
theorem q_5_116 : (Cond.lays RX12 "TextMenderModel" "costs" "I" : Cond) ∈ lw_tbl := p_t5 (List.mem_of_getElem? (i := 116) rfl)
set_option maxRecDepth 20000 in
theorem q_5_118 : (Cond.laysFinal RX12 "TextMenderModel" "choices" "[I" : Cond) ∈ lw_tbl := p_t5 (List.mem_of_getElem? (i := 118) rfl)
set_option maxRecDepth 20000 in
theorem q_5_120 : (Cond.lays RX12 "TextMenderModel" "choiceMany" "I" : Cond) ∈ lw_tbl := p_t5 (List.mem_of_getElem? (i := 120) rfl)
set_option maxRecDepth 20000 in
theorem q_5_122 : (Cond.lays RX12 "TextMenderModel" "choiceA" "I" : Cond) ∈ lw_tbl := p_t5 (List.mem_of_getElem? (i := 122) rfl)
set_option maxRecDepth 20000 in
theorem q_5_124 : (Cond.lays RX12 "TextMenderModel" "choiceB" "I" : Cond) ∈ lw_tbl := p_t5 (List.mem_of_getElem? (i := 124) rfl)
set_option maxRecDepth 20000 in
theorem q_5_126 : (Cond.lays RX12 "TextMenderModel" "state" "I" : Cond) ∈ lw_tbl := p_t5 (List.mem_of_getElem? (i := 126) rfl)
set_option maxRecDepth 20000 in
theorem q_5_128 : (Cond.lays RX12 "TextMenderModel" "choiceState" "I" : Cond) ∈ lw_tbl := p_t5 (List.mem_of_getElem? (i := 128) rfl)
set_option maxRecDepth 20000 in
theorem q_5_130 : (Cond.lays RX12 "TextMenderModel" "where" "I" : Cond) ∈ lw_tbl := p_t5 (List.mem_of_getElem? (i := 130) rfl)
set_option maxRecDepth 20000 in
theorem q_5_132 : (Cond.lays RX12 "TextMenderModel" "thrown" "I" : Cond) ∈ lw_tbl := p_t5 (List.mem_of_getElem? (i := 132) rfl)
set_option maxRecDepth 20000 in
theorem q_5_134 : (Cond.laysFinal RX12 "TextMenderModel" "bytes" "[I" : Cond) ∈ lw_tbl := p_t5 (List.mem_of_getElem? (i := 134) rfl)
set_option maxRecDepth 20000 in
theorem q_5_136 : (Cond.lays RX12 "TextMenderModel" "byteMany" "I" : Cond) ∈ lw_tbl := p_t5 (List.mem_of_getElem? (i := 136) rfl)
set_option maxRecDepth 20000 in
theorem q_5_138 : (Cond.laysFinal RX12 "TextMenderModel" "came" "[I" : Cond) ∈ lw_tbl := p_t5 (List.mem_of_getElem? (i := 138) rfl)
set_option maxRecDepth 20000 in
theorem q_5_140 : (Cond.lays RX12 "TextMenderModel" "cameMany" "I" : Cond) ∈ lw_tbl := p_t5 (List.mem_of_getElem? (i := 140) rfl)
set_option maxRecDepth 20000 in
theorem q_5_142 : (Cond.lays RX12 "TextMenderModel" "faultAt" "I" : Cond) ∈ lw_tbl := p_t5 (List.mem_of_getElem? (i := 142) rfl)
set_option maxRecDepth 20000 in
theorem q_5_144 : (Cond.laysFinal RX12 "TextMenderModel" "work" "[I" : Cond) ∈ lw_tbl := p_t5 (List.mem_of_getElem? (i := 144) rfl)
set_option maxRecDepth 20000 in
theorem q_5_146 : (Cond.lays RX12 "TextMenderModel" "workMany" "I" : Cond) ∈ lw_tbl := p_t5 (List.mem_of_getElem? (i := 146) rfl)
set_option maxRecDepth 20000 in
theorem q_5_148 : (Cond.laysFinal RX12 "TextMenderModel" "other" "[I" : Cond) ∈ lw_tbl := p_t5 (List.mem_of_getElem? (i := 148) rfl)
set_option maxRecDepth 20000 in
theorem q_5_150 : (Cond.lays RX12 "TextMenderModel" "readLetter" "I" : Cond) ∈ lw_tbl := p_t5 (List.mem_of_getElem? (i := 150) rfl)
set_option maxRecDepth 20000 in
theorem q_5_152 : (Cond.laysFinal RX12 "TextMenderModel" "restCost" "[I" : Cond) ∈ lw_tbl := p_t5 (List.mem_of_getElem? (i := 152) rfl)
set_option maxRecDepth 20000 in
theorem q_5_154 : (Cond.laysFinal RX12 "TextMenderModel" "restSpans" "[I" : Cond) ∈ lw_tbl := p_t5 (List.mem_of_getElem? (i := 154) rfl)
set_option maxRecDepth 20000 in
theorem q_5_156 : (Cond.laysFinal RX12 "TextMenderModel" "restEnd" "[I" : Cond) ∈ lw_tbl := p_t5 (List.mem_of_getElem? (i := 156) rfl)
set_option maxRecDepth 20000 in
theorem q_5_158 : (Cond.laysFinal RX12 "TextMenderModel" "restHarm" "[I" : Cond) ∈ lw_tbl := p_t5 (List.mem_of_getElem? (i := 158) rfl)
set_option maxRecDepth 20000 in
theorem q_5_160 : (Cond.laysFinal RX12 "TextMenderModel" "came2" "[I" : Cond) ∈ lw_tbl := p_t5 (List.mem_of_getElem? (i := 160) rfl)
set_option maxRecDepth 20000 in
theorem q_2_152 : (Cond.selects RX11 yX11_end yX11_end : Cond) ∈ lw_tbl := p_t2 (List.mem_of_getElem? (i := 152) rfl)
set_option maxRecDepth 20000 in
theorem q_2_151 : (Cond.instanceMethod yX11_end : Cond) ∈ lw_tbl := p_t2 (List.mem_of_getElem? (i := 151) rfl)
set_option maxRecDepth 20000 in
theorem q_2_150 : (Cond.methodLink RL 24 yX11_end : Cond) ∈ lw_tbl := p_t2 (List.mem_of_getElem? (i := 150) rfl)
set_option maxRecDepth 20000 in
theorem q_2_153 : (Cond.code yX11_end cX11_end 2 (some .boolean) : Cond) ∈ lw_tbl := p_t2 (List.mem_of_getElem? (i := 153) rfl)
set_option maxRecDepth 20000 in
theorem q_2_156 : (Cond.selects RX5 yX5_cut yX5_cut : Cond) ∈ lw_tbl := p_t2 (List.mem_of_getElem? (i := 156) rfl)
set_option maxRecDepth 20000 in
theorem q_2_155 : (Cond.instanceMethod yX5_cut : Cond) ∈ lw_tbl := p_t2 (List.mem_of_getElem? (i := 155) rfl)
set_option maxRecDepth 20000 in
theorem q_2_154 : (Cond.methodLink RX11 102 yX5_cut : Cond) ∈ lw_tbl := p_t2 (List.mem_of_getElem? (i := 154) rfl)
set_option maxRecDepth 20000 in
theorem q_2_157 : (Cond.code yX5_cut cX5_cut 2 none : Cond) ∈ lw_tbl := p_t2 (List.mem_of_getElem? (i := 157) rfl)
set_option maxRecDepth 20000 in
theorem q_5_170 : (Cond.selects RX12 yX12_end yX12_end : Cond) ∈ lw_tbl := p_t5 (List.mem_of_getElem? (i := 170) rfl)
set_option maxRecDepth 20000 in
theorem q_5_169 : (Cond.instanceMethod yX12_end : Cond) ∈ lw_tbl := p_t5 (List.mem_of_getElem? (i := 169) rfl)
set_option maxRecDepth 20000 in
theorem q_5_168 : (Cond.methodLink RL 28 yX12_end : Cond) ∈ lw_tbl := p_t5 (List.mem_of_getElem? (i := 168) rfl)
set_option maxRecDepth 20000 in
theorem q_5_171 : (Cond.code yX12_end cX12_end 2 (some .boolean) : Cond) ∈ lw_tbl := p_t5 (List.mem_of_getElem? (i := 171) rfl)
set_option maxRecDepth 20000 in
theorem q_2_160 : (Cond.selects RX11 yX11_text yX11_text : Cond) ∈ lw_tbl := p_t2 (List.mem_of_getElem? (i := 160) rfl)
set_option maxRecDepth 20000 in
theorem q_2_159 : (Cond.instanceMethod yX11_text : Cond) ∈ lw_tbl := p_t2 (List.mem_of_getElem? (i := 159) rfl)
set_option maxRecDepth 20000 in
theorem q_2_158 : (Cond.methodLink RL 29 yX11_text : Cond) ∈ lw_tbl := p_t2 (List.mem_of_getElem? (i := 158) rfl)
set_option maxRecDepth 20000 in
theorem q_2_161 : (Cond.code yX11_text cX11_text 2 (some .int) : Cond) ∈ lw_tbl := p_t2 (List.mem_of_getElem? (i := 161) rfl)
set_option maxRecDepth 20000 in
theorem q_k_1 : (Cond.selects RX11 yX11_become yX11_become : Cond) ∈ lw_tbl := p_tk (List.mem_of_getElem? (i := 1) rfl)
set_option maxRecDepth 20000 in
theorem q_2_189 : (Cond.instanceMethod yX11_become : Cond) ∈ lw_tbl := p_t2 (List.mem_of_getElem? (i := 189) rfl)
set_option maxRecDepth 20000 in
theorem q_2_187 : (Cond.methodLink RX11 113 yX11_become : Cond) ∈ lw_tbl := p_t2 (List.mem_of_getElem? (i := 187) rfl)
set_option maxRecDepth 20000 in
theorem q_2_178 : (Cond.selects RX5 yX5_takeAll yX5_takeAll : Cond) ∈ lw_tbl := p_t2 (List.mem_of_getElem? (i := 178) rfl)
set_option maxRecDepth 20000 in
theorem q_2_177 : (Cond.instanceMethod yX5_takeAll : Cond) ∈ lw_tbl := p_t2 (List.mem_of_getElem? (i := 177) rfl)
set_option maxRecDepth 20000 in
theorem q_2_176 : (Cond.methodLink RX11 109 yX5_takeAll : Cond) ∈ lw_tbl := p_t2 (List.mem_of_getElem? (i := 176) rfl)
set_option maxRecDepth 20000 in
theorem q_k_0 : (Cond.selects RX11 yX11_tapeHoldsLetters yX11_tapeHoldsLetters : Cond) ∈ lw_tbl := p_tk (List.mem_of_getElem? (i := 0) rfl)
set_option maxRecDepth 20000 in
theorem q_2_164 : (Cond.instanceMethod yX11_tapeHoldsLetters : Cond) ∈ lw_tbl := p_t2 (List.mem_of_getElem? (i := 164) rfl)
set_option maxRecDepth 20000 in
theorem q_2_162 : (Cond.methodLink RX11 105 yX11_tapeHoldsLetters : Cond) ∈ lw_tbl := p_t2 (List.mem_of_getElem? (i := 162) rfl)
set_option maxRecDepth 20000 in
theorem q_2_103 : (Cond.fieldLink RX11 37 "TextMender" "made" "LTextMender$Numbers;" : Cond) ∈ lw_tbl := p_t2 (List.mem_of_getElem? (i := 103) rfl)
set_option maxRecDepth 20000 in
theorem q_2_112 : (Cond.fieldLink RX11 90 "TextMender" "fault" "I" : Cond) ∈ lw_tbl := p_t2 (List.mem_of_getElem? (i := 112) rfl)
set_option maxRecDepth 20000 in
theorem q_1_145 : (Cond.laysFinal RX0 "TextMender$Changes" "kept" "[I" : Cond) ∈ lw_tbl := p_t1 (List.mem_of_getElem? (i := 145) rfl)
set_option maxRecDepth 20000 in
theorem q_1_147 : (Cond.laysFinal RX0 "TextMender$Changes" "keptLength" "[I" : Cond) ∈ lw_tbl := p_t1 (List.mem_of_getElem? (i := 147) rfl)
set_option maxRecDepth 20000 in
theorem q_1_149 : (Cond.lays RX0 "TextMender$Changes" "next" "I" : Cond) ∈ lw_tbl := p_t1 (List.mem_of_getElem? (i := 149) rfl)
set_option maxRecDepth 20000 in
theorem q_1_151 : (Cond.lays RX0 "TextMender$Changes" "length" "I" : Cond) ∈ lw_tbl := p_t1 (List.mem_of_getElem? (i := 151) rfl)
set_option maxRecDepth 20000 in
theorem q_2_60 : (Cond.laysFinal RX1 "TextMender$Choices" "codes" "LTextMender$Codes;" : Cond) ∈ lw_tbl := p_t2 (List.mem_of_getElem? (i := 60) rfl)
set_option maxRecDepth 20000 in
theorem q_2_62 : (Cond.laysFinal RX1 "TextMender$Choices" "costs" "LTextMender$Costs;" : Cond) ∈ lw_tbl := p_t2 (List.mem_of_getElem? (i := 62) rfl)
set_option maxRecDepth 20000 in
theorem q_2_64 : (Cond.laysFinal RX1 "TextMender$Choices" "bytes" "LTextMender$Numbers;" : Cond) ∈ lw_tbl := p_t2 (List.mem_of_getElem? (i := 64) rfl)
set_option maxRecDepth 20000 in
theorem q_2_66 : (Cond.laysFinal RX1 "TextMender$Choices" "tailFirst" "[I" : Cond) ∈ lw_tbl := p_t2 (List.mem_of_getElem? (i := 66) rfl)
set_option maxRecDepth 20000 in
theorem q_2_68 : (Cond.laysFinal RX1 "TextMender$Choices" "tailSum" "[I" : Cond) ∈ lw_tbl := p_t2 (List.mem_of_getElem? (i := 68) rfl)
set_option maxRecDepth 20000 in
theorem q_2_70 : (Cond.laysFinal RX1 "TextMender$Choices" "tailLetters" "[I" : Cond) ∈ lw_tbl := p_t2 (List.mem_of_getElem? (i := 70) rfl)
set_option maxRecDepth 20000 in
theorem q_2_72 : (Cond.laysFinal RX1 "TextMender$Choices" "head" "LTextMender$Reading;" : Cond) ∈ lw_tbl := p_t2 (List.mem_of_getElem? (i := 72) rfl)
set_option maxRecDepth 20000 in
theorem q_2_74 : (Cond.laysFinal RX1 "TextMender$Choices" "middle" "LTextMender$Reading;" : Cond) ∈ lw_tbl := p_t2 (List.mem_of_getElem? (i := 74) rfl)
set_option maxRecDepth 20000 in
theorem q_2_76 : (Cond.laysFinal RX1 "TextMender$Choices" "whole" "LTextMender$Reading;" : Cond) ∈ lw_tbl := p_t2 (List.mem_of_getElem? (i := 76) rfl)
set_option maxRecDepth 20000 in
theorem q_2_78 : (Cond.laysFinal RX1 "TextMender$Choices" "firstByte" "[I" : Cond) ∈ lw_tbl := p_t2 (List.mem_of_getElem? (i := 78) rfl)
set_option maxRecDepth 20000 in
theorem q_2_80 : (Cond.laysFinal RX1 "TextMender$Choices" "secondByte" "[I" : Cond) ∈ lw_tbl := p_t2 (List.mem_of_getElem? (i := 80) rfl)
set_option maxRecDepth 20000 in
theorem q_2_82 : (Cond.laysFinal RX1 "TextMender$Choices" "costOf" "[I" : Cond) ∈ lw_tbl := p_t2 (List.mem_of_getElem? (i := 82) rfl)
set_option maxRecDepth 20000 in
theorem q_2_84 : (Cond.laysFinal RX1 "TextMender$Choices" "lengthOf" "[I" : Cond) ∈ lw_tbl := p_t2 (List.mem_of_getElem? (i := 84) rfl)
set_option maxRecDepth 20000 in
theorem q_2_86 : (Cond.lays RX1 "TextMender$Choices" "kept" "I" : Cond) ∈ lw_tbl := p_t2 (List.mem_of_getElem? (i := 86) rfl)
set_option maxRecDepth 20000 in
theorem q_2_88 : (Cond.lays RX1 "TextMender$Choices" "total" "I" : Cond) ∈ lw_tbl := p_t2 (List.mem_of_getElem? (i := 88) rfl)
set_option maxRecDepth 20000 in
theorem q_2_90 : (Cond.lays RX1 "TextMender$Choices" "fresh" "Z" : Cond) ∈ lw_tbl := p_t2 (List.mem_of_getElem? (i := 90) rfl)
set_option maxRecDepth 20000 in
theorem q_2_92 : (Cond.lays RX1 "TextMender$Choices" "writtenIn" "I" : Cond) ∈ lw_tbl := p_t2 (List.mem_of_getElem? (i := 92) rfl)
set_option maxRecDepth 20000 in
theorem q_2_94 : (Cond.lays RX1 "TextMender$Choices" "readIn" "I" : Cond) ∈ lw_tbl := p_t2 (List.mem_of_getElem? (i := 94) rfl)
set_option maxRecDepth 20000 in
theorem q_2_96 : (Cond.lays RX1 "TextMender$Choices" "firstMark" "I" : Cond) ∈ lw_tbl := p_t2 (List.mem_of_getElem? (i := 96) rfl)
set_option maxRecDepth 20000 in
theorem q_2_98 : (Cond.lays RX1 "TextMender$Choices" "lastMark" "I" : Cond) ∈ lw_tbl := p_t2 (List.mem_of_getElem? (i := 98) rfl)
set_option maxRecDepth 20000 in
theorem q_2_165 : (Cond.code yX11_tapeHoldsLetters cX11_tapeHoldsLetters 2 (some .boolean) : Cond) ∈ lw_tbl := p_t2 (List.mem_of_getElem? (i := 165) rfl)
set_option maxRecDepth 20000 in
theorem q_2_171 : (Cond.static yX11_isLetter : Cond) ∈ lw_tbl := p_t2 (List.mem_of_getElem? (i := 171) rfl)
set_option maxRecDepth 20000 in
theorem q_2_170 : (Cond.methodLink RX11 205 yX11_isLetter : Cond) ∈ lw_tbl := p_t2 (List.mem_of_getElem? (i := 170) rfl)
set_option maxRecDepth 20000 in
theorem q_2_168 : (Cond.selects RX5 yX5_get yX5_get : Cond) ∈ lw_tbl := p_t2 (List.mem_of_getElem? (i := 168) rfl)
set_option maxRecDepth 20000 in
theorem q_2_167 : (Cond.instanceMethod yX5_get : Cond) ∈ lw_tbl := p_t2 (List.mem_of_getElem? (i := 167) rfl)
set_option maxRecDepth 20000 in
theorem q_2_166 : (Cond.methodLink RX11 167 yX5_get : Cond) ∈ lw_tbl := p_t2 (List.mem_of_getElem? (i := 166) rfl)
set_option maxRecDepth 20000 in
theorem q_2_169 : (Cond.code yX5_get cX5_get 2 (some .int) : Cond) ∈ lw_tbl := p_t2 (List.mem_of_getElem? (i := 169) rfl)
set_option maxRecDepth 20000 in
theorem q_2_172 : (Cond.code yX11_isLetter cX11_isLetter 1 (some .boolean) : Cond) ∈ lw_tbl := p_t2 (List.mem_of_getElem? (i := 172) rfl)
set_option maxRecDepth 20000 in
theorem q_2_175 : (Cond.constant RX11 264 (57343) : Cond) ∈ lw_tbl := p_t2 (List.mem_of_getElem? (i := 175) rfl)
set_option maxRecDepth 20000 in
theorem q_2_174 : (Cond.constant RX11 263 (55296) : Cond) ∈ lw_tbl := p_t2 (List.mem_of_getElem? (i := 174) rfl)
set_option maxRecDepth 20000 in
theorem q_2_173 : (Cond.constant RX11 262 (65535) : Cond) ∈ lw_tbl := p_t2 (List.mem_of_getElem? (i := 173) rfl)
set_option maxRecDepth 20000 in
theorem q_2_179 : (Cond.code yX5_takeAll cX5_takeAll 2 (some .boolean) : Cond) ∈ lw_tbl := p_t2 (List.mem_of_getElem? (i := 179) rfl)
set_option maxRecDepth 20000 in
theorem q_2_182 : (Cond.selects RX5 yX5_addAll yX5_addAll : Cond) ∈ lw_tbl := p_t2 (List.mem_of_getElem? (i := 182) rfl)
set_option maxRecDepth 20000 in
theorem q_2_181 : (Cond.instanceMethod yX5_addAll : Cond) ∈ lw_tbl := p_t2 (List.mem_of_getElem? (i := 181) rfl)
set_option maxRecDepth 20000 in
theorem q_2_180 : (Cond.methodLink RX5 31 yX5_addAll : Cond) ∈ lw_tbl := p_t2 (List.mem_of_getElem? (i := 180) rfl)
set_option maxRecDepth 20000 in
theorem q_2_183 : (Cond.code yX5_addAll cX5_addAll 2 (some .boolean) : Cond) ∈ lw_tbl := p_t2 (List.mem_of_getElem? (i := 183) rfl)
set_option maxRecDepth 20000 in
theorem q_1_16 : (Cond.initialized "java/lang/System" : Cond) ∈ lw_tbl := p_t1 (List.mem_of_getElem? (i := 16) rfl)
set_option maxRecDepth 20000 in
theorem q_2_185 : (Cond.static arraycopyName : Cond) ∈ lw_tbl := p_t2 (List.mem_of_getElem? (i := 185) rfl)
set_option maxRecDepth 20000 in
theorem q_2_186 : (Cond.native arraycopyName : Cond) ∈ lw_tbl := p_t2 (List.mem_of_getElem? (i := 186) rfl)
set_option maxRecDepth 20000 in
theorem q_2_184 : (Cond.methodLink RX5 25 arraycopyName : Cond) ∈ lw_tbl := p_t2 (List.mem_of_getElem? (i := 184) rfl)
set_option maxRecDepth 20000 in
theorem q_2_190 : (Cond.code yX11_become cX11_become 2 (some .int) : Cond) ∈ lw_tbl := p_t2 (List.mem_of_getElem? (i := 190) rfl)
set_option maxRecDepth 20000 in
theorem q_1_14 : (Cond.initialized RX1 : Cond) ∈ lw_tbl := p_t1 (List.mem_of_getElem? (i := 14) rfl)
set_option maxRecDepth 20000 in
theorem q_2_202 : (Cond.selects RX1 yX1_forgetFreshness yX1_forgetFreshness : Cond) ∈ lw_tbl := p_t2 (List.mem_of_getElem? (i := 202) rfl)
set_option maxRecDepth 20000 in
theorem q_2_201 : (Cond.instanceMethod yX1_forgetFreshness : Cond) ∈ lw_tbl := p_t2 (List.mem_of_getElem? (i := 201) rfl)
set_option maxRecDepth 20000 in
theorem q_2_200 : (Cond.methodLink RX11 143 yX1_forgetFreshness : Cond) ∈ lw_tbl := p_t2 (List.mem_of_getElem? (i := 200) rfl)
set_option maxRecDepth 20000 in
theorem q_1_10 : (Cond.initialized RX0 : Cond) ∈ lw_tbl := p_t1 (List.mem_of_getElem? (i := 10) rfl)
set_option maxRecDepth 20000 in
theorem q_2_193 : (Cond.selects RX0 yX0_remember yX0_remember : Cond) ∈ lw_tbl := p_t2 (List.mem_of_getElem? (i := 193) rfl)
set_option maxRecDepth 20000 in
theorem q_2_192 : (Cond.instanceMethod yX0_remember : Cond) ∈ lw_tbl := p_t2 (List.mem_of_getElem? (i := 192) rfl)
set_option maxRecDepth 20000 in
theorem q_2_191 : (Cond.methodLink RX11 257 yX0_remember : Cond) ∈ lw_tbl := p_t2 (List.mem_of_getElem? (i := 191) rfl)
set_option maxRecDepth 20000 in
theorem q_2_111 : (Cond.fieldLink RX11 86 "TextMender" "choiceBook" "LTextMender$Choices;" : Cond) ∈ lw_tbl := p_t2 (List.mem_of_getElem? (i := 111) rfl)
set_option maxRecDepth 20000 in
theorem q_2_102 : (Cond.fieldLink RX11 34 "TextMender" "letters" "LTextMender$Numbers;" : Cond) ∈ lw_tbl := p_t2 (List.mem_of_getElem? (i := 102) rfl)
set_option maxRecDepth 20000 in
theorem q_2_108 : (Cond.fieldLink RX11 59 "TextMender" "changes" "LTextMender$Changes;" : Cond) ∈ lw_tbl := p_t2 (List.mem_of_getElem? (i := 108) rfl)
set_option maxRecDepth 20000 in
theorem q_2_194 : (Cond.code yX0_remember cX0_remember 4 none : Cond) ∈ lw_tbl := p_t2 (List.mem_of_getElem? (i := 194) rfl)
set_option maxRecDepth 20000 in
theorem q_2_199 : (Cond.methodLink RX0 36 yX5_get : Cond) ∈ lw_tbl := p_t2 (List.mem_of_getElem? (i := 199) rfl)
set_option maxRecDepth 20000 in
theorem q_2_195 : (Cond.methodLink RX0 25 yX5_length : Cond) ∈ lw_tbl := p_t2 (List.mem_of_getElem? (i := 195) rfl)
set_option maxRecDepth 20000 in
theorem q_1_144 : (Cond.fieldLink RX0 22 "TextMender$Changes" "length" "I" : Cond) ∈ lw_tbl := p_t1 (List.mem_of_getElem? (i := 144) rfl)
set_option maxRecDepth 20000 in
theorem q_1_142 : (Cond.fieldLink RX0 15 "TextMender$Changes" "keptLength" "[I" : Cond) ∈ lw_tbl := p_t1 (List.mem_of_getElem? (i := 142) rfl)
set_option maxRecDepth 20000 in
theorem q_1_143 : (Cond.fieldLink RX0 18 "TextMender$Changes" "next" "I" : Cond) ∈ lw_tbl := p_t1 (List.mem_of_getElem? (i := 143) rfl)
set_option maxRecDepth 20000 in
theorem q_1_141 : (Cond.fieldLink RX0 11 "TextMender$Changes" "kept" "[I" : Cond) ∈ lw_tbl := p_t1 (List.mem_of_getElem? (i := 141) rfl)
set_option maxRecDepth 20000 in
theorem q_2_198 : (Cond.code Lib.Math.min.name Lib.Math.min.code 2 (some .int) : Cond) ∈ lw_tbl := p_t2 (List.mem_of_getElem? (i := 198) rfl)
set_option maxRecDepth 20000 in
theorem q_1_7 : (Cond.initialized "java/lang/Math" : Cond) ∈ lw_tbl := p_t1 (List.mem_of_getElem? (i := 7) rfl)
set_option maxRecDepth 20000 in
theorem q_2_197 : (Cond.static Lib.Math.min.name : Cond) ∈ lw_tbl := p_t2 (List.mem_of_getElem? (i := 197) rfl)
set_option maxRecDepth 20000 in
theorem q_2_196 : (Cond.methodLink RX0 30 Lib.Math.min.name : Cond) ∈ lw_tbl := p_t2 (List.mem_of_getElem? (i := 196) rfl)
set_option maxRecDepth 20000 in
theorem q_2_203 : (Cond.code yX1_forgetFreshness cX1_forgetFreshness 1 none : Cond) ∈ lw_tbl := p_t2 (List.mem_of_getElem? (i := 203) rfl)
set_option maxRecDepth 20000 in
theorem q_2_55 : (Cond.fieldLink RX1 72 "TextMender$Choices" "fresh" "Z" : Cond) ∈ lw_tbl := p_t2 (List.mem_of_getElem? (i := 55) rfl)
set_option maxRecDepth 20000 in
theorem q_5_174 : (Cond.selects RX12 yX12_text yX12_text : Cond) ∈ lw_tbl := p_t5 (List.mem_of_getElem? (i := 174) rfl)
set_option maxRecDepth 20000 in
theorem q_5_173 : (Cond.instanceMethod yX12_text : Cond) ∈ lw_tbl := p_t5 (List.mem_of_getElem? (i := 173) rfl)
set_option maxRecDepth 20000 in
theorem q_5_172 : (Cond.methodLink RL 33 yX12_text : Cond) ∈ lw_tbl := p_t5 (List.mem_of_getElem? (i := 172) rfl)
set_option maxRecDepth 20000 in
theorem q_5_175 : (Cond.code yX12_text cX12_text 3 (some .int) : Cond) ∈ lw_tbl := p_t5 (List.mem_of_getElem? (i := 175) rfl)
set_option maxRecDepth 20000 in
theorem q_k_20 : (Cond.selects RX12 yX12_become yX12_become : Cond) ∈ lw_tbl := p_tk (List.mem_of_getElem? (i := 20) rfl)
set_option maxRecDepth 20000 in
theorem q_5_184 : (Cond.instanceMethod yX12_become : Cond) ∈ lw_tbl := p_t5 (List.mem_of_getElem? (i := 184) rfl)
set_option maxRecDepth 20000 in
theorem q_5_182 : (Cond.methodLink RX12 154 yX12_become : Cond) ∈ lw_tbl := p_t5 (List.mem_of_getElem? (i := 182) rfl)
set_option maxRecDepth 20000 in
theorem q_5_177 : (Cond.static yX12_isLetter : Cond) ∈ lw_tbl := p_t5 (List.mem_of_getElem? (i := 177) rfl)
set_option maxRecDepth 20000 in
theorem q_5_176 : (Cond.methodLink RX12 116 yX12_isLetter : Cond) ∈ lw_tbl := p_t5 (List.mem_of_getElem? (i := 176) rfl)
set_option maxRecDepth 20000 in
theorem q_5_66 : (Cond.fieldLink RX12 55 "TextMenderModel" "where" "I" : Cond) ∈ lw_tbl := p_t5 (List.mem_of_getElem? (i := 66) rfl)
set_option maxRecDepth 20000 in
theorem q_5_178 : (Cond.code yX12_isLetter cX12_isLetter 1 (some .boolean) : Cond) ∈ lw_tbl := p_t5 (List.mem_of_getElem? (i := 178) rfl)
set_option maxRecDepth 20000 in
theorem q_5_181 : (Cond.constant RX12 90 (57343) : Cond) ∈ lw_tbl := p_t5 (List.mem_of_getElem? (i := 181) rfl)
set_option maxRecDepth 20000 in
theorem q_5_180 : (Cond.constant RX12 89 (55296) : Cond) ∈ lw_tbl := p_t5 (List.mem_of_getElem? (i := 180) rfl)
set_option maxRecDepth 20000 in
theorem q_5_179 : (Cond.constant RX12 88 (65536) : Cond) ∈ lw_tbl := p_t5 (List.mem_of_getElem? (i := 179) rfl)
set_option maxRecDepth 20000 in
theorem q_5_185 : (Cond.code yX12_become cX12_become 5 none : Cond) ∈ lw_tbl := p_t5 (List.mem_of_getElem? (i := 185) rfl)
set_option maxRecDepth 20000 in
theorem q_5_64 : (Cond.fieldLink RX12 148 "TextMenderModel" "state" "I" : Cond) ∈ lw_tbl := p_t5 (List.mem_of_getElem? (i := 64) rfl)
set_option maxRecDepth 20000 in
theorem q_5_45 : (Cond.fieldLink RX12 16 "TextMenderModel" "texts" "[I" : Cond) ∈ lw_tbl := p_t5 (List.mem_of_getElem? (i := 45) rfl)
set_option maxRecDepth 20000 in
theorem q_5_44 : (Cond.fieldLink RX12 13 "TextMenderModel" "sizes" "[I" : Cond) ∈ lw_tbl := p_t5 (List.mem_of_getElem? (i := 44) rfl)
set_option maxRecDepth 20000 in
theorem q_5_47 : (Cond.fieldLink RX12 145 "TextMenderModel" "firstPast" "I" : Cond) ∈ lw_tbl := p_t5 (List.mem_of_getElem? (i := 47) rfl)
set_option maxRecDepth 20000 in
theorem q_5_46 : (Cond.fieldLink RX12 142 "TextMenderModel" "past" "I" : Cond) ∈ lw_tbl := p_t5 (List.mem_of_getElem? (i := 46) rfl)
set_option maxRecDepth 20000 in
theorem q_3_4 : (Cond.methodLinkNest RX2 52 yX11_isLetter "TextMender" : Cond) ∈ lw_tbl := p_t3 (List.mem_of_getElem? (i := 4) rfl)
set_option maxRecDepth 20000 in
theorem q_2_206 : (Cond.selects RX11 yX11_read yX11_read : Cond) ∈ lw_tbl := p_t2 (List.mem_of_getElem? (i := 206) rfl)
set_option maxRecDepth 20000 in
theorem q_2_205 : (Cond.instanceMethod yX11_read : Cond) ∈ lw_tbl := p_t2 (List.mem_of_getElem? (i := 205) rfl)
set_option maxRecDepth 20000 in
theorem q_2_204 : (Cond.methodLink RL 34 yX11_read : Cond) ∈ lw_tbl := p_t2 (List.mem_of_getElem? (i := 204) rfl)
set_option maxRecDepth 20000 in
theorem q_2_207 : (Cond.code yX11_read cX11_read 3 (some .int) : Cond) ∈ lw_tbl := p_t2 (List.mem_of_getElem? (i := 207) rfl)
set_option maxRecDepth 20000 in
theorem q_3_21 : (Cond.selects RX7 yX7_fault yX7_fault : Cond) ∈ lw_tbl := p_t3 (List.mem_of_getElem? (i := 21) rfl)
set_option maxRecDepth 20000 in
theorem q_3_20 : (Cond.instanceMethod yX7_fault : Cond) ∈ lw_tbl := p_t3 (List.mem_of_getElem? (i := 20) rfl)
set_option maxRecDepth 20000 in
theorem q_3_19 : (Cond.methodLink RX11 127 yX7_fault : Cond) ∈ lw_tbl := p_t3 (List.mem_of_getElem? (i := 19) rfl)
set_option maxRecDepth 20000 in
theorem q_1_5 : (Cond.initialized RX7 : Cond) ∈ lw_tbl := p_t1 (List.mem_of_getElem? (i := 5) rfl)
set_option maxRecDepth 20000 in
theorem q_2_217 : (Cond.selects RX7 yX7_readExactly yX7_readExactly : Cond) ∈ lw_tbl := p_t2 (List.mem_of_getElem? (i := 217) rfl)
set_option maxRecDepth 20000 in
theorem q_2_216 : (Cond.instanceMethod yX7_readExactly : Cond) ∈ lw_tbl := p_t2 (List.mem_of_getElem? (i := 216) rfl)
set_option maxRecDepth 20000 in
theorem q_2_215 : (Cond.methodLink RX11 123 yX7_readExactly : Cond) ∈ lw_tbl := p_t2 (List.mem_of_getElem? (i := 215) rfl)
set_option maxRecDepth 20000 in
theorem q_k_2 : (Cond.selects RX11 yX11_tapeHoldsBytes yX11_tapeHoldsBytes : Cond) ∈ lw_tbl := p_tk (List.mem_of_getElem? (i := 2) rfl)
set_option maxRecDepth 20000 in
theorem q_2_213 : (Cond.instanceMethod yX11_tapeHoldsBytes : Cond) ∈ lw_tbl := p_t2 (List.mem_of_getElem? (i := 213) rfl)
set_option maxRecDepth 20000 in
theorem q_2_211 : (Cond.methodLink RX11 120 yX11_tapeHoldsBytes : Cond) ∈ lw_tbl := p_t2 (List.mem_of_getElem? (i := 211) rfl)
set_option maxRecDepth 20000 in
theorem q_1_2 : (Cond.initialized RX2 : Cond) ∈ lw_tbl := p_t1 (List.mem_of_getElem? (i := 2) rfl)
set_option maxRecDepth 20000 in
theorem q_2_209 : (Cond.static yX2_known : Cond) ∈ lw_tbl := p_t2 (List.mem_of_getElem? (i := 209) rfl)
set_option maxRecDepth 20000 in
theorem q_2_208 : (Cond.methodLink RX11 117 yX2_known : Cond) ∈ lw_tbl := p_t2 (List.mem_of_getElem? (i := 208) rfl)
set_option maxRecDepth 20000 in
theorem q_2_105 : (Cond.fieldLink RX11 44 "TextMender" "passage" "LTextMender$Passage;" : Cond) ∈ lw_tbl := p_t2 (List.mem_of_getElem? (i := 105) rfl)
set_option maxRecDepth 20000 in
theorem q_1_90 : (Cond.laysFinal RX7 "TextMender$Passage" "codes" "LTextMender$Codes;" : Cond) ∈ lw_tbl := p_t1 (List.mem_of_getElem? (i := 90) rfl)
set_option maxRecDepth 20000 in
theorem q_1_92 : (Cond.laysFinal RX7 "TextMender$Passage" "bytes" "LTextMender$Numbers;" : Cond) ∈ lw_tbl := p_t1 (List.mem_of_getElem? (i := 92) rfl)
set_option maxRecDepth 20000 in
theorem q_1_94 : (Cond.lays RX7 "TextMender$Passage" "fault" "I" : Cond) ∈ lw_tbl := p_t1 (List.mem_of_getElem? (i := 94) rfl)
set_option maxRecDepth 20000 in
theorem q_1_60 : (Cond.laysFinal RX2 "TextMender$Codes" "four" "LTextMender$ToldCode;" : Cond) ∈ lw_tbl := p_t1 (List.mem_of_getElem? (i := 60) rfl)
set_option maxRecDepth 20000 in
theorem q_1_62 : (Cond.laysFinal RX2 "TextMender$Codes" "five" "LTextMender$ToldCode;" : Cond) ∈ lw_tbl := p_t1 (List.mem_of_getElem? (i := 62) rfl)
set_option maxRecDepth 20000 in
theorem q_1_48 : (Cond.laysFinal RX10 "TextMender$ToldCode" "letterOf" "[I" : Cond) ∈ lw_tbl := p_t1 (List.mem_of_getElem? (i := 48) rfl)
set_option maxRecDepth 20000 in
theorem q_1_50 : (Cond.laysFinal RX10 "TextMender$ToldCode" "placeLetter" "[I" : Cond) ∈ lw_tbl := p_t1 (List.mem_of_getElem? (i := 50) rfl)
set_option maxRecDepth 20000 in
theorem q_1_52 : (Cond.laysFinal RX10 "TextMender$ToldCode" "placeByte" "[I" : Cond) ∈ lw_tbl := p_t1 (List.mem_of_getElem? (i := 52) rfl)
set_option maxRecDepth 20000 in
theorem q_1_54 : (Cond.lays RX10 "TextMender$ToldCode" "length" "I" : Cond) ∈ lw_tbl := p_t1 (List.mem_of_getElem? (i := 54) rfl)
set_option maxRecDepth 20000 in
theorem q_2_210 : (Cond.code yX2_known cX2_known 1 (some .boolean) : Cond) ∈ lw_tbl := p_t2 (List.mem_of_getElem? (i := 210) rfl)
set_option maxRecDepth 20000 in
theorem q_2_214 : (Cond.code yX11_tapeHoldsBytes cX11_tapeHoldsBytes 3 (some .boolean) : Cond) ∈ lw_tbl := p_t2 (List.mem_of_getElem? (i := 214) rfl)
set_option maxRecDepth 20000 in
theorem q_2_218 : (Cond.code yX7_readExactly cX7_readExactly 7 (some .boolean) : Cond) ∈ lw_tbl := p_t2 (List.mem_of_getElem? (i := 218) rfl)
set_option maxRecDepth 20000 in
theorem q_3_16 : (Cond.static yX2_bytesIn : Cond) ∈ lw_tbl := p_t3 (List.mem_of_getElem? (i := 16) rfl)
set_option maxRecDepth 20000 in
theorem q_3_15 : (Cond.methodLink RX7 56 yX2_bytesIn : Cond) ∈ lw_tbl := p_t3 (List.mem_of_getElem? (i := 15) rfl)
set_option maxRecDepth 20000 in
theorem q_3_14 : (Cond.methodLink RX7 52 yX5_add : Cond) ∈ lw_tbl := p_t3 (List.mem_of_getElem? (i := 14) rfl)
set_option maxRecDepth 20000 in
theorem q_3_12 : (Cond.static yX2_letterIn : Cond) ∈ lw_tbl := p_t3 (List.mem_of_getElem? (i := 12) rfl)
set_option maxRecDepth 20000 in
theorem q_3_11 : (Cond.methodLink RX7 49 yX2_letterIn : Cond) ∈ lw_tbl := p_t3 (List.mem_of_getElem? (i := 11) rfl)
set_option maxRecDepth 20000 in
theorem q_2_223 : (Cond.selects RX2 yX2_decode yX2_decode : Cond) ∈ lw_tbl := p_t2 (List.mem_of_getElem? (i := 223) rfl)
set_option maxRecDepth 20000 in
theorem q_2_222 : (Cond.instanceMethod yX2_decode : Cond) ∈ lw_tbl := p_t2 (List.mem_of_getElem? (i := 222) rfl)
set_option maxRecDepth 20000 in
theorem q_2_221 : (Cond.methodLink RX7 45 yX2_decode : Cond) ∈ lw_tbl := p_t2 (List.mem_of_getElem? (i := 221) rfl)
set_option maxRecDepth 20000 in
theorem q_2_220 : (Cond.methodLink RX7 31 yX5_length : Cond) ∈ lw_tbl := p_t2 (List.mem_of_getElem? (i := 220) rfl)
set_option maxRecDepth 20000 in
theorem q_2_219 : (Cond.methodLink RX7 28 yX5_cut : Cond) ∈ lw_tbl := p_t2 (List.mem_of_getElem? (i := 219) rfl)
set_option maxRecDepth 20000 in
theorem q_1_79 : (Cond.code Lib.Math.max.name Lib.Math.max.code 2 (some .int) : Cond) ∈ lw_tbl := p_t1 (List.mem_of_getElem? (i := 79) rfl)
set_option maxRecDepth 20000 in
theorem q_1_78 : (Cond.static Lib.Math.max.name : Cond) ∈ lw_tbl := p_t1 (List.mem_of_getElem? (i := 78) rfl)
set_option maxRecDepth 20000 in
theorem q_3_18 : (Cond.methodLink RX7 59 Lib.Math.max.name : Cond) ∈ lw_tbl := p_t3 (List.mem_of_getElem? (i := 18) rfl)
set_option maxRecDepth 20000 in
theorem q_1_87 : (Cond.fieldLink RX7 20 "TextMender$Passage" "codes" "LTextMender$Codes;" : Cond) ∈ lw_tbl := p_t1 (List.mem_of_getElem? (i := 87) rfl)
set_option maxRecDepth 20000 in
theorem q_1_89 : (Cond.fieldLink RX7 24 "TextMender$Passage" "fault" "I" : Cond) ∈ lw_tbl := p_t1 (List.mem_of_getElem? (i := 89) rfl)
set_option maxRecDepth 20000 in
theorem q_2_224 : (Cond.code yX2_decode cX2_decode 7 (some .int) : Cond) ∈ lw_tbl := p_t2 (List.mem_of_getElem? (i := 224) rfl)
set_option maxRecDepth 20000 in
theorem q_3_6 : (Cond.static yX2_decodeNumber : Cond) ∈ lw_tbl := p_t3 (List.mem_of_getElem? (i := 6) rfl)
set_option maxRecDepth 20000 in
theorem q_3_5 : (Cond.methodLink RX2 49 yX2_decodeNumber : Cond) ∈ lw_tbl := p_t3 (List.mem_of_getElem? (i := 5) rfl)
set_option maxRecDepth 20000 in
theorem q_3_2 : (Cond.static yX2_decodeMany : Cond) ∈ lw_tbl := p_t3 (List.mem_of_getElem? (i := 2) rfl)
set_option maxRecDepth 20000 in
theorem q_3_1 : (Cond.methodLink RX2 45 yX2_decodeMany : Cond) ∈ lw_tbl := p_t3 (List.mem_of_getElem? (i := 1) rfl)
set_option maxRecDepth 20000 in
theorem q_2_239 : (Cond.static yX2_found : Cond) ∈ lw_tbl := p_t2 (List.mem_of_getElem? (i := 239) rfl)
set_option maxRecDepth 20000 in
theorem q_2_238 : (Cond.methodLink RX2 42 yX2_found : Cond) ∈ lw_tbl := p_t2 (List.mem_of_getElem? (i := 238) rfl)
set_option maxRecDepth 20000 in
theorem q_2_228 : (Cond.selects RX2 yX2_letterAlone yX2_letterAlone : Cond) ∈ lw_tbl := p_t2 (List.mem_of_getElem? (i := 228) rfl)
set_option maxRecDepth 20000 in
theorem q_2_227 : (Cond.instanceMethod yX2_letterAlone : Cond) ∈ lw_tbl := p_t2 (List.mem_of_getElem? (i := 227) rfl)
set_option maxRecDepth 20000 in
theorem q_2_226 : (Cond.methodLink RX2 38 yX2_letterAlone : Cond) ∈ lw_tbl := p_t2 (List.mem_of_getElem? (i := 226) rfl)
set_option maxRecDepth 20000 in
theorem q_2_225 : (Cond.methodLink RX2 33 yX5_get : Cond) ∈ lw_tbl := p_t2 (List.mem_of_getElem? (i := 225) rfl)
set_option maxRecDepth 20000 in
theorem q_2_229 : (Cond.code yX2_letterAlone cX2_letterAlone 4 (some .int) : Cond) ∈ lw_tbl := p_t2 (List.mem_of_getElem? (i := 229) rfl)
set_option maxRecDepth 20000 in
theorem q_1_3 : (Cond.initialized RX10 : Cond) ∈ lw_tbl := p_t1 (List.mem_of_getElem? (i := 3) rfl)
set_option maxRecDepth 20000 in
theorem q_2_236 : (Cond.selects RX10 yX10_letterFor yX10_letterFor : Cond) ∈ lw_tbl := p_t2 (List.mem_of_getElem? (i := 236) rfl)
set_option maxRecDepth 20000 in
theorem q_2_235 : (Cond.instanceMethod yX10_letterFor : Cond) ∈ lw_tbl := p_t2 (List.mem_of_getElem? (i := 235) rfl)
set_option maxRecDepth 20000 in
theorem q_2_234 : (Cond.methodLink RX2 29 yX10_letterFor : Cond) ∈ lw_tbl := p_t2 (List.mem_of_getElem? (i := 234) rfl)
set_option maxRecDepth 20000 in
theorem q_2_232 : (Cond.selects RX2 yX2_toldCode yX2_toldCode : Cond) ∈ lw_tbl := p_t2 (List.mem_of_getElem? (i := 232) rfl)
set_option maxRecDepth 20000 in
theorem q_2_231 : (Cond.instanceMethod yX2_toldCode : Cond) ∈ lw_tbl := p_t2 (List.mem_of_getElem? (i := 231) rfl)
set_option maxRecDepth 20000 in
theorem q_2_230 : (Cond.methodLink RX2 21 yX2_toldCode : Cond) ∈ lw_tbl := p_t2 (List.mem_of_getElem? (i := 230) rfl)
set_option maxRecDepth 20000 in
theorem q_2_233 : (Cond.code yX2_toldCode cX2_toldCode 2 (some (.object "TextMender$ToldCode")) : Cond) ∈ lw_tbl := p_t2 (List.mem_of_getElem? (i := 233) rfl)
set_option maxRecDepth 20000 in
theorem q_1_59 : (Cond.fieldLink RX2 18 "TextMender$Codes" "five" "LTextMender$ToldCode;" : Cond) ∈ lw_tbl := p_t1 (List.mem_of_getElem? (i := 59) rfl)
set_option maxRecDepth 20000 in
theorem q_1_58 : (Cond.fieldLink RX2 12 "TextMender$Codes" "four" "LTextMender$ToldCode;" : Cond) ∈ lw_tbl := p_t1 (List.mem_of_getElem? (i := 58) rfl)
set_option maxRecDepth 20000 in
theorem q_2_237 : (Cond.code yX10_letterFor cX10_letterFor 2 (some .int) : Cond) ∈ lw_tbl := p_t2 (List.mem_of_getElem? (i := 237) rfl)
set_option maxRecDepth 20000 in
theorem q_1_44 : (Cond.fieldLink RX10 9 "TextMender$ToldCode" "letterOf" "[I" : Cond) ∈ lw_tbl := p_t1 (List.mem_of_getElem? (i := 44) rfl)
set_option maxRecDepth 20000 in
theorem q_3_0 : (Cond.code yX2_found cX2_found 2 (some .int) : Cond) ∈ lw_tbl := p_t3 (List.mem_of_getElem? (i := 0) rfl)
set_option maxRecDepth 20000 in
theorem q_3_3 : (Cond.code yX2_decodeMany cX2_decodeMany 8 (some .int) : Cond) ∈ lw_tbl := p_t3 (List.mem_of_getElem? (i := 3) rfl)
set_option maxRecDepth 20000 in
theorem q_3_7 : (Cond.code yX2_decodeNumber cX2_decodeNumber 7 (some .int) : Cond) ∈ lw_tbl := p_t3 (List.mem_of_getElem? (i := 7) rfl)
set_option maxRecDepth 20000 in
theorem q_3_9 : (Cond.static yX2_isNumbered : Cond) ∈ lw_tbl := p_t3 (List.mem_of_getElem? (i := 9) rfl)
set_option maxRecDepth 20000 in
theorem q_3_8 : (Cond.methodLink RX2 56 yX2_isNumbered : Cond) ∈ lw_tbl := p_t3 (List.mem_of_getElem? (i := 8) rfl)
set_option maxRecDepth 20000 in
theorem q_3_10 : (Cond.code yX2_isNumbered cX2_isNumbered 1 (some .boolean) : Cond) ∈ lw_tbl := p_t3 (List.mem_of_getElem? (i := 10) rfl)
set_option maxRecDepth 20000 in
theorem q_3_13 : (Cond.code yX2_letterIn cX2_letterIn 1 (some .int) : Cond) ∈ lw_tbl := p_t3 (List.mem_of_getElem? (i := 13) rfl)
set_option maxRecDepth 20000 in
theorem q_3_17 : (Cond.code yX2_bytesIn cX2_bytesIn 1 (some .int) : Cond) ∈ lw_tbl := p_t3 (List.mem_of_getElem? (i := 17) rfl)
set_option maxRecDepth 20000 in
theorem q_3_22 : (Cond.code yX7_fault cX7_fault 1 (some .int) : Cond) ∈ lw_tbl := p_t3 (List.mem_of_getElem? (i := 22) rfl)
set_option maxRecDepth 20000 in
theorem q_5_188 : (Cond.selects RX12 yX12_read_ yX12_read_ : Cond) ∈ lw_tbl := p_t5 (List.mem_of_getElem? (i := 188) rfl)
set_option maxRecDepth 20000 in
theorem q_5_187 : (Cond.instanceMethod yX12_read_ : Cond) ∈ lw_tbl := p_t5 (List.mem_of_getElem? (i := 187) rfl)
set_option maxRecDepth 20000 in
theorem q_5_186 : (Cond.methodLink RL 37 yX12_read_ : Cond) ∈ lw_tbl := p_t5 (List.mem_of_getElem? (i := 186) rfl)
set_option maxRecDepth 20000 in
theorem q_5_189 : (Cond.code yX12_read_ cX12_read_ 4 (some .int) : Cond) ∈ lw_tbl := p_t5 (List.mem_of_getElem? (i := 189) rfl)
set_option maxRecDepth 20000 in
theorem q_k_21 : (Cond.selects RX12 yX12_read yX12_read : Cond) ∈ lw_tbl := p_tk (List.mem_of_getElem? (i := 21) rfl)
set_option maxRecDepth 20000 in
theorem q_5_195 : (Cond.instanceMethod yX12_read : Cond) ∈ lw_tbl := p_t5 (List.mem_of_getElem? (i := 195) rfl)
set_option maxRecDepth 20000 in
theorem q_5_193 : (Cond.methodLink RX12 131 yX12_read : Cond) ∈ lw_tbl := p_t5 (List.mem_of_getElem? (i := 193) rfl)
set_option maxRecDepth 20000 in
theorem q_5_191 : (Cond.static yX12_isCode : Cond) ∈ lw_tbl := p_t5 (List.mem_of_getElem? (i := 191) rfl)
set_option maxRecDepth 20000 in
theorem q_5_190 : (Cond.methodLink RX12 158 yX12_isCode : Cond) ∈ lw_tbl := p_t5 (List.mem_of_getElem? (i := 190) rfl)
set_option maxRecDepth 20000 in
theorem q_5_70 : (Cond.fieldLink RX12 61 "TextMenderModel" "came" "[I" : Cond) ∈ lw_tbl := p_t5 (List.mem_of_getElem? (i := 70) rfl)
set_option maxRecDepth 20000 in
theorem q_5_71 : (Cond.fieldLink RX12 119 "TextMenderModel" "cameMany" "I" : Cond) ∈ lw_tbl := p_t5 (List.mem_of_getElem? (i := 71) rfl)
set_option maxRecDepth 20000 in
theorem q_5_72 : (Cond.fieldLink RX12 102 "TextMenderModel" "faultAt" "I" : Cond) ∈ lw_tbl := p_t5 (List.mem_of_getElem? (i := 72) rfl)
set_option maxRecDepth 20000 in
theorem q_5_69 : (Cond.fieldLink RX12 91 "TextMenderModel" "byteMany" "I" : Cond) ∈ lw_tbl := p_t5 (List.mem_of_getElem? (i := 69) rfl)
set_option maxRecDepth 20000 in
theorem q_5_68 : (Cond.fieldLink RX12 58 "TextMenderModel" "bytes" "[I" : Cond) ∈ lw_tbl := p_t5 (List.mem_of_getElem? (i := 68) rfl)
set_option maxRecDepth 20000 in
theorem q_5_192 : (Cond.code yX12_isCode cX12_isCode 1 (some .boolean) : Cond) ∈ lw_tbl := p_t5 (List.mem_of_getElem? (i := 192) rfl)
set_option maxRecDepth 20000 in
theorem q_5_196 : (Cond.code yX12_read cX12_read 5 (some .boolean) : Cond) ∈ lw_tbl := p_t5 (List.mem_of_getElem? (i := 196) rfl)
set_option maxRecDepth 20000 in
theorem q_k_22 : (Cond.selects RX12 yX12_readAt yX12_readAt : Cond) ∈ lw_tbl := p_tk (List.mem_of_getElem? (i := 22) rfl)
set_option maxRecDepth 20000 in
theorem q_5_199 : (Cond.instanceMethod yX12_readAt : Cond) ∈ lw_tbl := p_t5 (List.mem_of_getElem? (i := 199) rfl)
set_option maxRecDepth 20000 in
theorem q_5_197 : (Cond.methodLink RX12 122 yX12_readAt : Cond) ∈ lw_tbl := p_t5 (List.mem_of_getElem? (i := 197) rfl)
set_option maxRecDepth 20000 in
theorem q_5_76 : (Cond.fieldLink RX12 105 "TextMenderModel" "readLetter" "I" : Cond) ∈ lw_tbl := p_t5 (List.mem_of_getElem? (i := 76) rfl)
set_option maxRecDepth 20000 in
theorem q_5_208 : (Cond.constant RX12 126 (65533) : Cond) ∈ lw_tbl := p_t5 (List.mem_of_getElem? (i := 208) rfl)
set_option maxRecDepth 20000 in
theorem q_5_200 : (Cond.code yX12_readAt cX12_readAt 7 (some .int) : Cond) ∈ lw_tbl := p_t5 (List.mem_of_getElem? (i := 200) rfl)
set_option maxRecDepth 20000 in
theorem q_5_206 : (Cond.static yX12_goesOn : Cond) ∈ lw_tbl := p_t5 (List.mem_of_getElem? (i := 206) rfl)
set_option maxRecDepth 20000 in
theorem q_5_205 : (Cond.methodLink RX12 112 yX12_goesOn : Cond) ∈ lw_tbl := p_t5 (List.mem_of_getElem? (i := 205) rfl)
set_option maxRecDepth 20000 in
theorem q_k_23 : (Cond.selects RX12 yX12_byteAt yX12_byteAt : Cond) ∈ lw_tbl := p_tk (List.mem_of_getElem? (i := 23) rfl)
set_option maxRecDepth 20000 in
theorem q_5_203 : (Cond.instanceMethod yX12_byteAt : Cond) ∈ lw_tbl := p_t5 (List.mem_of_getElem? (i := 203) rfl)
set_option maxRecDepth 20000 in
theorem q_5_201 : (Cond.methodLink RX12 108 yX12_byteAt : Cond) ∈ lw_tbl := p_t5 (List.mem_of_getElem? (i := 201) rfl)
set_option maxRecDepth 20000 in
theorem q_5_48 : (Cond.fieldLink RX12 19 "TextMenderModel" "letterOf" "[I" : Cond) ∈ lw_tbl := p_t5 (List.mem_of_getElem? (i := 48) rfl)
set_option maxRecDepth 20000 in
theorem q_5_204 : (Cond.code yX12_byteAt cX12_byteAt 2 (some .int) : Cond) ∈ lw_tbl := p_t5 (List.mem_of_getElem? (i := 204) rfl)
set_option maxRecDepth 20000 in
theorem q_5_207 : (Cond.code yX12_goesOn cX12_goesOn 1 (some .boolean) : Cond) ∈ lw_tbl := p_t5 (List.mem_of_getElem? (i := 207) rfl)
set_option maxRecDepth 20000 in
theorem q_3_32 : (Cond.methodLinkNest RX10 35 yX11_isLetter "TextMender" : Cond) ∈ lw_tbl := p_t3 (List.mem_of_getElem? (i := 32) rfl)
set_option maxRecDepth 20000 in
theorem q_3_25 : (Cond.selects RX11 yX11_span yX11_span : Cond) ∈ lw_tbl := p_t3 (List.mem_of_getElem? (i := 25) rfl)
set_option maxRecDepth 20000 in
theorem q_3_24 : (Cond.instanceMethod yX11_span : Cond) ∈ lw_tbl := p_t3 (List.mem_of_getElem? (i := 24) rfl)
set_option maxRecDepth 20000 in
theorem q_3_23 : (Cond.methodLink RL 38 yX11_span : Cond) ∈ lw_tbl := p_t3 (List.mem_of_getElem? (i := 23) rfl)
set_option maxRecDepth 20000 in
theorem q_3_26 : (Cond.code yX11_span cX11_span 8 (some .int) : Cond) ∈ lw_tbl := p_t3 (List.mem_of_getElem? (i := 26) rfl)
set_option maxRecDepth 20000 in
theorem q_3_49 : (Cond.selects RX10 yX10_length yX10_length : Cond) ∈ lw_tbl := p_t3 (List.mem_of_getElem? (i := 49) rfl)
set_option maxRecDepth 20000 in
theorem q_3_48 : (Cond.instanceMethod yX10_length : Cond) ∈ lw_tbl := p_t3 (List.mem_of_getElem? (i := 48) rfl)
set_option maxRecDepth 20000 in
theorem q_3_47 : (Cond.methodLink RX11 146 yX10_length : Cond) ∈ lw_tbl := p_t3 (List.mem_of_getElem? (i := 47) rfl)
set_option maxRecDepth 20000 in
theorem q_3_45 : (Cond.selects RX10 yX10_tell yX10_tell : Cond) ∈ lw_tbl := p_t3 (List.mem_of_getElem? (i := 45) rfl)
set_option maxRecDepth 20000 in
theorem q_3_44 : (Cond.instanceMethod yX10_tell : Cond) ∈ lw_tbl := p_t3 (List.mem_of_getElem? (i := 44) rfl)
set_option maxRecDepth 20000 in
theorem q_3_43 : (Cond.methodLink RX11 139 yX10_tell : Cond) ∈ lw_tbl := p_t3 (List.mem_of_getElem? (i := 43) rfl)
set_option maxRecDepth 20000 in
theorem q_3_30 : (Cond.selects RX10 yX10_canTake yX10_canTake : Cond) ∈ lw_tbl := p_t3 (List.mem_of_getElem? (i := 30) rfl)
set_option maxRecDepth 20000 in
theorem q_3_29 : (Cond.instanceMethod yX10_canTake : Cond) ∈ lw_tbl := p_t3 (List.mem_of_getElem? (i := 29) rfl)
set_option maxRecDepth 20000 in
theorem q_3_28 : (Cond.methodLink RX11 133 yX10_canTake : Cond) ∈ lw_tbl := p_t3 (List.mem_of_getElem? (i := 28) rfl)
set_option maxRecDepth 20000 in
theorem q_3_27 : (Cond.methodLink RX11 129 yX2_toldCode : Cond) ∈ lw_tbl := p_t3 (List.mem_of_getElem? (i := 27) rfl)
set_option maxRecDepth 20000 in
theorem q_2_104 : (Cond.fieldLink RX11 40 "TextMender" "codes" "LTextMender$Codes;" : Cond) ∈ lw_tbl := p_t2 (List.mem_of_getElem? (i := 104) rfl)
set_option maxRecDepth 20000 in
theorem q_3_31 : (Cond.code yX10_canTake cX10_canTake 8 (some .boolean) : Cond) ∈ lw_tbl := p_t3 (List.mem_of_getElem? (i := 31) rfl)
set_option maxRecDepth 20000 in
theorem q_3_36 : (Cond.selects RX10 yX10_byteFor yX10_byteFor : Cond) ∈ lw_tbl := p_t3 (List.mem_of_getElem? (i := 36) rfl)
set_option maxRecDepth 20000 in
theorem q_3_35 : (Cond.instanceMethod yX10_byteFor : Cond) ∈ lw_tbl := p_t3 (List.mem_of_getElem? (i := 35) rfl)
set_option maxRecDepth 20000 in
theorem q_3_34 : (Cond.methodLink RX10 42 yX10_byteFor : Cond) ∈ lw_tbl := p_t3 (List.mem_of_getElem? (i := 34) rfl)
set_option maxRecDepth 20000 in
theorem q_3_33 : (Cond.methodLink RX10 39 yX10_letterFor : Cond) ∈ lw_tbl := p_t3 (List.mem_of_getElem? (i := 33) rfl)
set_option maxRecDepth 20000 in
theorem q_3_37 : (Cond.code yX10_byteFor cX10_byteFor 3 (some .int) : Cond) ∈ lw_tbl := p_t3 (List.mem_of_getElem? (i := 37) rfl)
set_option maxRecDepth 20000 in
theorem q_k_3 : (Cond.selects RX10 yX10_placeFor yX10_placeFor : Cond) ∈ lw_tbl := p_tk (List.mem_of_getElem? (i := 3) rfl)
set_option maxRecDepth 20000 in
theorem q_3_40 : (Cond.instanceMethod yX10_placeFor : Cond) ∈ lw_tbl := p_t3 (List.mem_of_getElem? (i := 40) rfl)
set_option maxRecDepth 20000 in
theorem q_3_38 : (Cond.methodLink RX10 31 yX10_placeFor : Cond) ∈ lw_tbl := p_t3 (List.mem_of_getElem? (i := 38) rfl)
set_option maxRecDepth 20000 in
theorem q_1_46 : (Cond.fieldLink RX10 18 "TextMender$ToldCode" "placeByte" "[I" : Cond) ∈ lw_tbl := p_t1 (List.mem_of_getElem? (i := 46) rfl)
set_option maxRecDepth 20000 in
theorem q_3_41 : (Cond.code yX10_placeFor cX10_placeFor 5 (some .int) : Cond) ∈ lw_tbl := p_t3 (List.mem_of_getElem? (i := 41) rfl)
set_option maxRecDepth 20000 in
theorem q_1_45 : (Cond.fieldLink RX10 15 "TextMender$ToldCode" "placeLetter" "[I" : Cond) ∈ lw_tbl := p_t1 (List.mem_of_getElem? (i := 45) rfl)
set_option maxRecDepth 20000 in
theorem q_3_42 : (Cond.constant RX10 45 (-1640531535) : Cond) ∈ lw_tbl := p_t3 (List.mem_of_getElem? (i := 42) rfl)
set_option maxRecDepth 20000 in
theorem q_3_46 : (Cond.code yX10_tell cX10_tell 4 none : Cond) ∈ lw_tbl := p_t3 (List.mem_of_getElem? (i := 46) rfl)
set_option maxRecDepth 20000 in
theorem q_1_47 : (Cond.fieldLink RX10 27 "TextMender$ToldCode" "length" "I" : Cond) ∈ lw_tbl := p_t1 (List.mem_of_getElem? (i := 47) rfl)
set_option maxRecDepth 20000 in
theorem q_3_50 : (Cond.code yX10_length cX10_length 1 (some .int) : Cond) ∈ lw_tbl := p_t3 (List.mem_of_getElem? (i := 50) rfl)
set_option maxRecDepth 20000 in
theorem q_5_211 : (Cond.selects RX12 yX12_span yX12_span : Cond) ∈ lw_tbl := p_t5 (List.mem_of_getElem? (i := 211) rfl)
set_option maxRecDepth 20000 in
theorem q_5_210 : (Cond.instanceMethod yX12_span : Cond) ∈ lw_tbl := p_t5 (List.mem_of_getElem? (i := 210) rfl)
set_option maxRecDepth 20000 in
theorem q_5_209 : (Cond.methodLink RL 41 yX12_span : Cond) ∈ lw_tbl := p_t5 (List.mem_of_getElem? (i := 209) rfl)
set_option maxRecDepth 20000 in
theorem q_5_212 : (Cond.code yX12_span cX12_span 9 (some .int) : Cond) ∈ lw_tbl := p_t5 (List.mem_of_getElem? (i := 212) rfl)
set_option maxRecDepth 20000 in
theorem q_5_50 : (Cond.fieldLink RX12 27 "TextMenderModel" "told" "[I" : Cond) ∈ lw_tbl := p_t5 (List.mem_of_getElem? (i := 50) rfl)
set_option maxRecDepth 20000 in
theorem q_5_49 : (Cond.fieldLink RX12 23 "TextMenderModel" "byteOfLetter" "[S" : Cond) ∈ lw_tbl := p_t5 (List.mem_of_getElem? (i := 49) rfl)
set_option maxRecDepth 20000 in
theorem q_3_53 : (Cond.selects RX11 yX11_blank yX11_blank : Cond) ∈ lw_tbl := p_t3 (List.mem_of_getElem? (i := 53) rfl)
set_option maxRecDepth 20000 in
theorem q_3_52 : (Cond.instanceMethod yX11_blank : Cond) ∈ lw_tbl := p_t3 (List.mem_of_getElem? (i := 52) rfl)
set_option maxRecDepth 20000 in
theorem q_3_51 : (Cond.methodLink RL 42 yX11_blank : Cond) ∈ lw_tbl := p_t3 (List.mem_of_getElem? (i := 51) rfl)
set_option maxRecDepth 20000 in
theorem q_3_54 : (Cond.code yX11_blank cX11_blank 3 (some .boolean) : Cond) ∈ lw_tbl := p_t3 (List.mem_of_getElem? (i := 54) rfl)
set_option maxRecDepth 20000 in
theorem q_3_57 : (Cond.selects RX10 yX10_empty yX10_empty : Cond) ∈ lw_tbl := p_t3 (List.mem_of_getElem? (i := 57) rfl)
set_option maxRecDepth 20000 in
theorem q_3_56 : (Cond.instanceMethod yX10_empty : Cond) ∈ lw_tbl := p_t3 (List.mem_of_getElem? (i := 56) rfl)
set_option maxRecDepth 20000 in
theorem q_3_55 : (Cond.methodLink RX11 147 yX10_empty : Cond) ∈ lw_tbl := p_t3 (List.mem_of_getElem? (i := 55) rfl)
set_option maxRecDepth 20000 in
theorem q_3_58 : (Cond.code yX10_empty cX10_empty 1 none : Cond) ∈ lw_tbl := p_t3 (List.mem_of_getElem? (i := 58) rfl)
set_option maxRecDepth 20000 in
theorem q_1_4 : (Cond.initialized RJ7 : Cond) ∈ lw_tbl := p_t1 (List.mem_of_getElem? (i := 4) rfl)
set_option maxRecDepth 20000 in
theorem q_1_42 : (Cond.static yJ7_fill_53178 : Cond) ∈ lw_tbl := p_t1 (List.mem_of_getElem? (i := 42) rfl)
set_option maxRecDepth 20000 in
theorem q_1_41 : (Cond.methodLink RX10 21 yJ7_fill_53178 : Cond) ∈ lw_tbl := p_t1 (List.mem_of_getElem? (i := 41) rfl)
set_option maxRecDepth 20000 in
theorem q_1_43 : (Cond.code yJ7_fill_53178 cJ7_fill_53178 4 none : Cond) ∈ lw_tbl := p_t1 (List.mem_of_getElem? (i := 43) rfl)
set_option maxRecDepth 20000 in
theorem q_5_215 : (Cond.selects RX12 yX12_blank yX12_blank : Cond) ∈ lw_tbl := p_t5 (List.mem_of_getElem? (i := 215) rfl)
set_option maxRecDepth 20000 in
theorem q_5_214 : (Cond.instanceMethod yX12_blank : Cond) ∈ lw_tbl := p_t5 (List.mem_of_getElem? (i := 214) rfl)
set_option maxRecDepth 20000 in
theorem q_5_213 : (Cond.methodLink RL 45 yX12_blank : Cond) ∈ lw_tbl := p_t5 (List.mem_of_getElem? (i := 213) rfl)
set_option maxRecDepth 20000 in
theorem q_5_216 : (Cond.code yX12_blank cX12_blank 4 (some .boolean) : Cond) ∈ lw_tbl := p_t5 (List.mem_of_getElem? (i := 216) rfl)
set_option maxRecDepth 20000 in
theorem q_3_61 : (Cond.selects RX11 yX11_count yX11_count : Cond) ∈ lw_tbl := p_t3 (List.mem_of_getElem? (i := 61) rfl)
set_option maxRecDepth 20000 in
theorem q_3_60 : (Cond.instanceMethod yX11_count : Cond) ∈ lw_tbl := p_t3 (List.mem_of_getElem? (i := 60) rfl)
set_option maxRecDepth 20000 in
theorem q_3_59 : (Cond.methodLink RL 46 yX11_count : Cond) ∈ lw_tbl := p_t3 (List.mem_of_getElem? (i := 59) rfl)
set_option maxRecDepth 20000 in
theorem q_3_62 : (Cond.code yX11_count cX11_count 2 (some .int) : Cond) ∈ lw_tbl := p_t3 (List.mem_of_getElem? (i := 62) rfl)
set_option maxRecDepth 20000 in
theorem q_3_81 : (Cond.selects RX2 yX2_lengthOf yX2_lengthOf : Cond) ∈ lw_tbl := p_t3 (List.mem_of_getElem? (i := 81) rfl)
set_option maxRecDepth 20000 in
theorem q_3_80 : (Cond.instanceMethod yX2_lengthOf : Cond) ∈ lw_tbl := p_t3 (List.mem_of_getElem? (i := 80) rfl)
set_option maxRecDepth 20000 in
theorem q_3_79 : (Cond.methodLink RX11 156 yX2_lengthOf : Cond) ∈ lw_tbl := p_t3 (List.mem_of_getElem? (i := 79) rfl)
set_option maxRecDepth 20000 in
theorem q_1_9 : (Cond.initialized RX3 : Cond) ∈ lw_tbl := p_t1 (List.mem_of_getElem? (i := 9) rfl)
set_option maxRecDepth 20000 in
theorem q_3_77 : (Cond.selects RX3 yX3_length yX3_length : Cond) ∈ lw_tbl := p_t3 (List.mem_of_getElem? (i := 77) rfl)
set_option maxRecDepth 20000 in
theorem q_3_76 : (Cond.instanceMethod yX3_length : Cond) ∈ lw_tbl := p_t3 (List.mem_of_getElem? (i := 76) rfl)
set_option maxRecDepth 20000 in
theorem q_3_75 : (Cond.methodLink RX11 155 yX3_length : Cond) ∈ lw_tbl := p_t3 (List.mem_of_getElem? (i := 75) rfl)
set_option maxRecDepth 20000 in
theorem q_3_72 : (Cond.static yX11_marksOf : Cond) ∈ lw_tbl := p_t3 (List.mem_of_getElem? (i := 72) rfl)
set_option maxRecDepth 20000 in
theorem q_3_71 : (Cond.methodLink RX11 152 yX11_marksOf : Cond) ∈ lw_tbl := p_t3 (List.mem_of_getElem? (i := 71) rfl)
set_option maxRecDepth 20000 in
theorem q_3_69 : (Cond.selects RX0 yX0_length yX0_length : Cond) ∈ lw_tbl := p_t3 (List.mem_of_getElem? (i := 69) rfl)
set_option maxRecDepth 20000 in
theorem q_3_68 : (Cond.instanceMethod yX0_length : Cond) ∈ lw_tbl := p_t3 (List.mem_of_getElem? (i := 68) rfl)
set_option maxRecDepth 20000 in
theorem q_3_67 : (Cond.methodLink RX11 151 yX0_length : Cond) ∈ lw_tbl := p_t3 (List.mem_of_getElem? (i := 67) rfl)
set_option maxRecDepth 20000 in
theorem q_1_8 : (Cond.initialized RX4 : Cond) ∈ lw_tbl := p_t1 (List.mem_of_getElem? (i := 8) rfl)
set_option maxRecDepth 20000 in
theorem q_3_65 : (Cond.selects RX4 yX4_length yX4_length : Cond) ∈ lw_tbl := p_t3 (List.mem_of_getElem? (i := 65) rfl)
set_option maxRecDepth 20000 in
theorem q_3_64 : (Cond.instanceMethod yX4_length : Cond) ∈ lw_tbl := p_t3 (List.mem_of_getElem? (i := 64) rfl)
set_option maxRecDepth 20000 in
theorem q_3_63 : (Cond.methodLink RX11 150 yX4_length : Cond) ∈ lw_tbl := p_t3 (List.mem_of_getElem? (i := 63) rfl)
set_option maxRecDepth 20000 in
theorem q_2_107 : (Cond.fieldLink RX11 52 "TextMender" "costs" "LTextMender$Costs;" : Cond) ∈ lw_tbl := p_t2 (List.mem_of_getElem? (i := 107) rfl)
set_option maxRecDepth 20000 in
theorem q_2_106 : (Cond.fieldLink RX11 48 "TextMender" "harms" "LTextMender$Harms;" : Cond) ∈ lw_tbl := p_t2 (List.mem_of_getElem? (i := 106) rfl)
set_option maxRecDepth 20000 in
theorem q_1_107 : (Cond.laysFinal RX4 "TextMender$Harms" "passage" "LTextMender$Passage;" : Cond) ∈ lw_tbl := p_t1 (List.mem_of_getElem? (i := 107) rfl)
set_option maxRecDepth 20000 in
theorem q_1_109 : (Cond.laysFinal RX4 "TextMender$Harms" "writtenIn" "[I" : Cond) ∈ lw_tbl := p_t1 (List.mem_of_getElem? (i := 109) rfl)
set_option maxRecDepth 20000 in
theorem q_1_111 : (Cond.laysFinal RX4 "TextMender$Harms" "readIn" "[I" : Cond) ∈ lw_tbl := p_t1 (List.mem_of_getElem? (i := 111) rfl)
set_option maxRecDepth 20000 in
theorem q_1_113 : (Cond.lays RX4 "TextMender$Harms" "length" "I" : Cond) ∈ lw_tbl := p_t1 (List.mem_of_getElem? (i := 113) rfl)
set_option maxRecDepth 20000 in
theorem q_1_126 : (Cond.laysFinal RX3 "TextMender$Costs" "pair" "[I" : Cond) ∈ lw_tbl := p_t1 (List.mem_of_getElem? (i := 126) rfl)
set_option maxRecDepth 20000 in
theorem q_1_128 : (Cond.laysFinal RX3 "TextMender$Costs" "value" "[I" : Cond) ∈ lw_tbl := p_t1 (List.mem_of_getElem? (i := 128) rfl)
set_option maxRecDepth 20000 in
theorem q_1_130 : (Cond.lays RX3 "TextMender$Costs" "length" "I" : Cond) ∈ lw_tbl := p_t1 (List.mem_of_getElem? (i := 130) rfl)
set_option maxRecDepth 20000 in
theorem q_3_66 : (Cond.code yX4_length cX4_length 1 (some .int) : Cond) ∈ lw_tbl := p_t3 (List.mem_of_getElem? (i := 66) rfl)
set_option maxRecDepth 20000 in
theorem q_1_106 : (Cond.fieldLink RX4 22 "TextMender$Harms" "length" "I" : Cond) ∈ lw_tbl := p_t1 (List.mem_of_getElem? (i := 106) rfl)
set_option maxRecDepth 20000 in
theorem q_3_70 : (Cond.code yX0_length cX0_length 1 (some .int) : Cond) ∈ lw_tbl := p_t3 (List.mem_of_getElem? (i := 70) rfl)
set_option maxRecDepth 20000 in
theorem q_3_73 : (Cond.code yX11_marksOf cX11_marksOf 3 (some .int) : Cond) ∈ lw_tbl := p_t3 (List.mem_of_getElem? (i := 73) rfl)
set_option maxRecDepth 20000 in
theorem q_3_74 : (Cond.constant RX11 261 (65533) : Cond) ∈ lw_tbl := p_t3 (List.mem_of_getElem? (i := 74) rfl)
set_option maxRecDepth 20000 in
theorem q_3_78 : (Cond.code yX3_length cX3_length 1 (some .int) : Cond) ∈ lw_tbl := p_t3 (List.mem_of_getElem? (i := 78) rfl)
set_option maxRecDepth 20000 in
theorem q_1_125 : (Cond.fieldLink RX3 24 "TextMender$Costs" "length" "I" : Cond) ∈ lw_tbl := p_t1 (List.mem_of_getElem? (i := 125) rfl)
set_option maxRecDepth 20000 in
theorem q_3_82 : (Cond.code yX2_lengthOf cX2_lengthOf 3 (some .int) : Cond) ∈ lw_tbl := p_t3 (List.mem_of_getElem? (i := 82) rfl)
set_option maxRecDepth 20000 in
theorem q_3_83 : (Cond.methodLink RX2 25 yX10_length : Cond) ∈ lw_tbl := p_t3 (List.mem_of_getElem? (i := 83) rfl)
set_option maxRecDepth 20000 in
theorem q_5_219 : (Cond.selects RX12 yX12_count yX12_count : Cond) ∈ lw_tbl := p_t5 (List.mem_of_getElem? (i := 219) rfl)
set_option maxRecDepth 20000 in
theorem q_5_218 : (Cond.instanceMethod yX12_count : Cond) ∈ lw_tbl := p_t5 (List.mem_of_getElem? (i := 218) rfl)
set_option maxRecDepth 20000 in
theorem q_5_217 : (Cond.methodLink RL 49 yX12_count : Cond) ∈ lw_tbl := p_t5 (List.mem_of_getElem? (i := 217) rfl)
set_option maxRecDepth 20000 in
theorem q_5_220 : (Cond.code yX12_count cX12_count 2 (some .int) : Cond) ∈ lw_tbl := p_t5 (List.mem_of_getElem? (i := 220) rfl)
set_option maxRecDepth 20000 in
theorem q_k_24 : (Cond.selects RX12 yX12_marksOf yX12_marksOf : Cond) ∈ lw_tbl := p_tk (List.mem_of_getElem? (i := 24) rfl)
set_option maxRecDepth 20000 in
theorem q_5_223 : (Cond.instanceMethod yX12_marksOf : Cond) ∈ lw_tbl := p_t5 (List.mem_of_getElem? (i := 223) rfl)
set_option maxRecDepth 20000 in
theorem q_5_221 : (Cond.methodLink RX12 164 yX12_marksOf : Cond) ∈ lw_tbl := p_t5 (List.mem_of_getElem? (i := 221) rfl)
set_option maxRecDepth 20000 in
theorem q_5_59 : (Cond.fieldLink RX12 168 "TextMenderModel" "costs" "I" : Cond) ∈ lw_tbl := p_t5 (List.mem_of_getElem? (i := 59) rfl)
set_option maxRecDepth 20000 in
theorem q_5_53 : (Cond.fieldLink RX12 161 "TextMenderModel" "harms" "I" : Cond) ∈ lw_tbl := p_t5 (List.mem_of_getElem? (i := 53) rfl)
set_option maxRecDepth 20000 in
theorem q_5_224 : (Cond.code yX12_marksOf cX12_marksOf 3 (some .int) : Cond) ∈ lw_tbl := p_t5 (List.mem_of_getElem? (i := 224) rfl)
set_option maxRecDepth 20000 in
theorem q_3_86 : (Cond.selects RX11 yX11_size yX11_size : Cond) ∈ lw_tbl := p_t3 (List.mem_of_getElem? (i := 86) rfl)
set_option maxRecDepth 20000 in
theorem q_3_85 : (Cond.instanceMethod yX11_size : Cond) ∈ lw_tbl := p_t3 (List.mem_of_getElem? (i := 85) rfl)
set_option maxRecDepth 20000 in
theorem q_3_84 : (Cond.methodLink RL 56 yX11_size : Cond) ∈ lw_tbl := p_t3 (List.mem_of_getElem? (i := 84) rfl)
set_option maxRecDepth 20000 in
theorem q_3_87 : (Cond.code yX11_size cX11_size 2 (some .int) : Cond) ∈ lw_tbl := p_t3 (List.mem_of_getElem? (i := 87) rfl)
set_option maxRecDepth 20000 in
theorem q_3_111 : (Cond.selects RX7 yX7_bytes yX7_bytes : Cond) ∈ lw_tbl := p_t3 (List.mem_of_getElem? (i := 111) rfl)
set_option maxRecDepth 20000 in
theorem q_3_110 : (Cond.instanceMethod yX7_bytes : Cond) ∈ lw_tbl := p_t3 (List.mem_of_getElem? (i := 110) rfl)
set_option maxRecDepth 20000 in
theorem q_3_109 : (Cond.methodLink RX11 173 yX7_bytes : Cond) ∈ lw_tbl := p_t3 (List.mem_of_getElem? (i := 109) rfl)
set_option maxRecDepth 20000 in
theorem q_k_4 : (Cond.selects RX11 yX11_writes yX11_writes : Cond) ∈ lw_tbl := p_tk (List.mem_of_getElem? (i := 4) rfl)
set_option maxRecDepth 20000 in
theorem q_3_90 : (Cond.instanceMethod yX11_writes : Cond) ∈ lw_tbl := p_t3 (List.mem_of_getElem? (i := 90) rfl)
set_option maxRecDepth 20000 in
theorem q_3_88 : (Cond.methodLink RX11 170 yX11_writes : Cond) ∈ lw_tbl := p_t3 (List.mem_of_getElem? (i := 88) rfl)
set_option maxRecDepth 20000 in
theorem q_3_91 : (Cond.code yX11_writes cX11_writes 3 (some .boolean) : Cond) ∈ lw_tbl := p_t3 (List.mem_of_getElem? (i := 91) rfl)
set_option maxRecDepth 20000 in
theorem q_3_94 : (Cond.selects RX7 yX7_write yX7_write : Cond) ∈ lw_tbl := p_t3 (List.mem_of_getElem? (i := 94) rfl)
set_option maxRecDepth 20000 in
theorem q_3_93 : (Cond.instanceMethod yX7_write : Cond) ∈ lw_tbl := p_t3 (List.mem_of_getElem? (i := 93) rfl)
set_option maxRecDepth 20000 in
theorem q_3_92 : (Cond.methodLink RX11 249 yX7_write : Cond) ∈ lw_tbl := p_t3 (List.mem_of_getElem? (i := 92) rfl)
set_option maxRecDepth 20000 in
theorem q_3_95 : (Cond.code yX7_write cX7_write 4 (some .boolean) : Cond) ∈ lw_tbl := p_t3 (List.mem_of_getElem? (i := 95) rfl)
set_option maxRecDepth 20000 in
theorem q_3_99 : (Cond.selects RX2 yX2_encode yX2_encode : Cond) ∈ lw_tbl := p_t3 (List.mem_of_getElem? (i := 99) rfl)
set_option maxRecDepth 20000 in
theorem q_3_98 : (Cond.instanceMethod yX2_encode : Cond) ∈ lw_tbl := p_t3 (List.mem_of_getElem? (i := 98) rfl)
set_option maxRecDepth 20000 in
theorem q_3_97 : (Cond.methodLink RX7 39 yX2_encode : Cond) ∈ lw_tbl := p_t3 (List.mem_of_getElem? (i := 97) rfl)
set_option maxRecDepth 20000 in
theorem q_3_96 : (Cond.methodLink RX7 35 yX5_get : Cond) ∈ lw_tbl := p_t3 (List.mem_of_getElem? (i := 96) rfl)
set_option maxRecDepth 20000 in
theorem q_1_88 : (Cond.fieldLink RX7 14 "TextMender$Passage" "bytes" "LTextMender$Numbers;" : Cond) ∈ lw_tbl := p_t1 (List.mem_of_getElem? (i := 88) rfl)
set_option maxRecDepth 20000 in
theorem q_3_100 : (Cond.code yX2_encode cX2_encode 6 (some .boolean) : Cond) ∈ lw_tbl := p_t3 (List.mem_of_getElem? (i := 100) rfl)
set_option maxRecDepth 20000 in
theorem q_3_108 : (Cond.methodLink RX2 69 yX10_byteFor : Cond) ∈ lw_tbl := p_t3 (List.mem_of_getElem? (i := 108) rfl)
set_option maxRecDepth 20000 in
theorem q_3_106 : (Cond.static yX2_encodeNumber : Cond) ∈ lw_tbl := p_t3 (List.mem_of_getElem? (i := 106) rfl)
set_option maxRecDepth 20000 in
theorem q_3_105 : (Cond.methodLink RX2 66 yX2_encodeNumber : Cond) ∈ lw_tbl := p_t3 (List.mem_of_getElem? (i := 105) rfl)
set_option maxRecDepth 20000 in
theorem q_3_103 : (Cond.static yX2_encodeMany : Cond) ∈ lw_tbl := p_t3 (List.mem_of_getElem? (i := 103) rfl)
set_option maxRecDepth 20000 in
theorem q_3_102 : (Cond.methodLink RX2 62 yX2_encodeMany : Cond) ∈ lw_tbl := p_t3 (List.mem_of_getElem? (i := 102) rfl)
set_option maxRecDepth 20000 in
theorem q_3_101 : (Cond.methodLink RX2 59 yX5_add : Cond) ∈ lw_tbl := p_t3 (List.mem_of_getElem? (i := 101) rfl)
set_option maxRecDepth 20000 in
theorem q_3_104 : (Cond.code yX2_encodeMany cX2_encodeMany 3 (some .boolean) : Cond) ∈ lw_tbl := p_t3 (List.mem_of_getElem? (i := 104) rfl)
set_option maxRecDepth 20000 in
theorem q_3_107 : (Cond.code yX2_encodeNumber cX2_encodeNumber 6 (some .boolean) : Cond) ∈ lw_tbl := p_t3 (List.mem_of_getElem? (i := 107) rfl)
set_option maxRecDepth 20000 in
theorem q_3_112 : (Cond.code yX7_bytes cX7_bytes 1 (some (.object "TextMender$Numbers")) : Cond) ∈ lw_tbl := p_t3 (List.mem_of_getElem? (i := 112) rfl)
set_option maxRecDepth 20000 in
theorem q_5_231 : (Cond.selects RX12 yX12_size yX12_size : Cond) ∈ lw_tbl := p_t5 (List.mem_of_getElem? (i := 231) rfl)
set_option maxRecDepth 20000 in
theorem q_5_230 : (Cond.instanceMethod yX12_size : Cond) ∈ lw_tbl := p_t5 (List.mem_of_getElem? (i := 230) rfl)
set_option maxRecDepth 20000 in
theorem q_5_229 : (Cond.methodLink RL 59 yX12_size : Cond) ∈ lw_tbl := p_t5 (List.mem_of_getElem? (i := 229) rfl)
set_option maxRecDepth 20000 in
theorem q_5_232 : (Cond.code yX12_size cX12_size 2 (some .int) : Cond) ∈ lw_tbl := p_t5 (List.mem_of_getElem? (i := 232) rfl)
set_option maxRecDepth 20000 in
theorem q_k_25 : (Cond.selects RX12 yX12_write yX12_write : Cond) ∈ lw_tbl := p_tk (List.mem_of_getElem? (i := 25) rfl)
set_option maxRecDepth 20000 in
theorem q_5_235 : (Cond.instanceMethod yX12_write : Cond) ∈ lw_tbl := p_t5 (List.mem_of_getElem? (i := 235) rfl)
set_option maxRecDepth 20000 in
theorem q_5_233 : (Cond.methodLink RX12 127 yX12_write : Cond) ∈ lw_tbl := p_t5 (List.mem_of_getElem? (i := 233) rfl)
set_option maxRecDepth 20000 in
theorem q_5_236 : (Cond.code yX12_write cX12_write 5 (some .boolean) : Cond) ∈ lw_tbl := p_t5 (List.mem_of_getElem? (i := 236) rfl)
set_option maxRecDepth 20000 in
theorem q_k_26 : (Cond.selects RX12 yX12_writeLetter yX12_writeLetter : Cond) ∈ lw_tbl := p_tk (List.mem_of_getElem? (i := 26) rfl)
set_option maxRecDepth 20000 in
theorem q_5_239 : (Cond.instanceMethod yX12_writeLetter : Cond) ∈ lw_tbl := p_t5 (List.mem_of_getElem? (i := 239) rfl)
set_option maxRecDepth 20000 in
theorem q_5_237 : (Cond.methodLink RX12 98 yX12_writeLetter : Cond) ∈ lw_tbl := p_t5 (List.mem_of_getElem? (i := 237) rfl)
set_option maxRecDepth 20000 in
theorem q_6_0 : (Cond.code yX12_writeLetter cX12_writeLetter 4 (some .boolean) : Cond) ∈ lw_tbl := p_t6 (List.mem_of_getElem? (i := 0) rfl)
set_option maxRecDepth 20000 in
theorem q_k_27 : (Cond.selects RX12 yX12_put yX12_put : Cond) ∈ lw_tbl := p_tk (List.mem_of_getElem? (i := 27) rfl)
set_option maxRecDepth 20000 in
theorem q_6_3 : (Cond.instanceMethod yX12_put : Cond) ∈ lw_tbl := p_t6 (List.mem_of_getElem? (i := 3) rfl)
set_option maxRecDepth 20000 in
theorem q_6_1 : (Cond.methodLink RX12 94 yX12_put : Cond) ∈ lw_tbl := p_t6 (List.mem_of_getElem? (i := 1) rfl)
set_option maxRecDepth 20000 in
theorem q_6_4 : (Cond.code yX12_put cX12_put 2 none : Cond) ∈ lw_tbl := p_t6 (List.mem_of_getElem? (i := 4) rfl)
set_option maxRecDepth 20000 in
theorem q_3_115 : (Cond.selects RX11 yX11_byteOf yX11_byteOf : Cond) ∈ lw_tbl := p_t3 (List.mem_of_getElem? (i := 115) rfl)
set_option maxRecDepth 20000 in
theorem q_3_114 : (Cond.instanceMethod yX11_byteOf : Cond) ∈ lw_tbl := p_t3 (List.mem_of_getElem? (i := 114) rfl)
set_option maxRecDepth 20000 in
theorem q_3_113 : (Cond.methodLink RL 60 yX11_byteOf : Cond) ∈ lw_tbl := p_t3 (List.mem_of_getElem? (i := 113) rfl)
set_option maxRecDepth 20000 in
theorem q_3_116 : (Cond.code yX11_byteOf cX11_byteOf 3 (some .int) : Cond) ∈ lw_tbl := p_t3 (List.mem_of_getElem? (i := 116) rfl)
set_option maxRecDepth 20000 in
theorem q_6_7 : (Cond.selects RX12 yX12_byteOf yX12_byteOf : Cond) ∈ lw_tbl := p_t6 (List.mem_of_getElem? (i := 7) rfl)
set_option maxRecDepth 20000 in
theorem q_6_6 : (Cond.instanceMethod yX12_byteOf : Cond) ∈ lw_tbl := p_t6 (List.mem_of_getElem? (i := 6) rfl)
set_option maxRecDepth 20000 in
theorem q_6_5 : (Cond.methodLink RL 64 yX12_byteOf : Cond) ∈ lw_tbl := p_t6 (List.mem_of_getElem? (i := 5) rfl)
set_option maxRecDepth 20000 in
theorem q_6_8 : (Cond.code yX12_byteOf cX12_byteOf 3 (some .int) : Cond) ∈ lw_tbl := p_t6 (List.mem_of_getElem? (i := 8) rfl)
set_option maxRecDepth 20000 in
theorem q_3_119 : (Cond.selects RX11 yX11_where yX11_where : Cond) ∈ lw_tbl := p_t3 (List.mem_of_getElem? (i := 119) rfl)
set_option maxRecDepth 20000 in
theorem q_3_118 : (Cond.instanceMethod yX11_where : Cond) ∈ lw_tbl := p_t3 (List.mem_of_getElem? (i := 118) rfl)
set_option maxRecDepth 20000 in
theorem q_3_117 : (Cond.methodLink RL 65 yX11_where : Cond) ∈ lw_tbl := p_t3 (List.mem_of_getElem? (i := 117) rfl)
set_option maxRecDepth 20000 in
theorem q_3_120 : (Cond.code yX11_where cX11_where 1 (some .int) : Cond) ∈ lw_tbl := p_t3 (List.mem_of_getElem? (i := 120) rfl)
set_option maxRecDepth 20000 in
theorem q_6_11 : (Cond.selects RX12 yX12_where yX12_where : Cond) ∈ lw_tbl := p_t6 (List.mem_of_getElem? (i := 11) rfl)
set_option maxRecDepth 20000 in
theorem q_6_10 : (Cond.instanceMethod yX12_where : Cond) ∈ lw_tbl := p_t6 (List.mem_of_getElem? (i := 10) rfl)
set_option maxRecDepth 20000 in
theorem q_6_9 : (Cond.methodLink RL 68 yX12_where : Cond) ∈ lw_tbl := p_t6 (List.mem_of_getElem? (i := 9) rfl)
set_option maxRecDepth 20000 in
theorem q_6_12 : (Cond.code yX12_where cX12_where 1 (some .int) : Cond) ∈ lw_tbl := p_t6 (List.mem_of_getElem? (i := 12) rfl)
set_option maxRecDepth 20000 in
theorem q_3_123 : (Cond.selects RX11 yX11_harm yX11_harm : Cond) ∈ lw_tbl := p_t3 (List.mem_of_getElem? (i := 123) rfl)
set_option maxRecDepth 20000 in
theorem q_3_122 : (Cond.instanceMethod yX11_harm : Cond) ∈ lw_tbl := p_t3 (List.mem_of_getElem? (i := 122) rfl)
set_option maxRecDepth 20000 in
theorem q_3_121 : (Cond.methodLink RL 69 yX11_harm : Cond) ∈ lw_tbl := p_t3 (List.mem_of_getElem? (i := 121) rfl)
set_option maxRecDepth 20000 in
theorem q_3_124 : (Cond.code yX11_harm cX11_harm 3 (some .int) : Cond) ∈ lw_tbl := p_t3 (List.mem_of_getElem? (i := 124) rfl)
set_option maxRecDepth 20000 in
theorem q_k_5 : (Cond.selects RX11 yX11_passes yX11_passes : Cond) ∈ lw_tbl := p_tk (List.mem_of_getElem? (i := 5) rfl)
set_option maxRecDepth 20000 in
theorem q_3_127 : (Cond.instanceMethod yX11_passes : Cond) ∈ lw_tbl := p_t3 (List.mem_of_getElem? (i := 127) rfl)
set_option maxRecDepth 20000 in
theorem q_3_125 : (Cond.methodLink RX11 177 yX11_passes : Cond) ∈ lw_tbl := p_t3 (List.mem_of_getElem? (i := 125) rfl)
set_option maxRecDepth 20000 in
theorem q_3_128 : (Cond.code yX11_passes cX11_passes 4 (some .boolean) : Cond) ∈ lw_tbl := p_t3 (List.mem_of_getElem? (i := 128) rfl)
set_option maxRecDepth 20000 in
theorem q_3_131 : (Cond.selects RX7 yX7_pass yX7_pass : Cond) ∈ lw_tbl := p_t3 (List.mem_of_getElem? (i := 131) rfl)
set_option maxRecDepth 20000 in
theorem q_3_130 : (Cond.instanceMethod yX7_pass : Cond) ∈ lw_tbl := p_t3 (List.mem_of_getElem? (i := 130) rfl)
set_option maxRecDepth 20000 in
theorem q_3_129 : (Cond.methodLink RX11 253 yX7_pass : Cond) ∈ lw_tbl := p_t3 (List.mem_of_getElem? (i := 129) rfl)
set_option maxRecDepth 20000 in
theorem q_3_132 : (Cond.code yX7_pass cX7_pass 5 (some .boolean) : Cond) ∈ lw_tbl := p_t3 (List.mem_of_getElem? (i := 132) rfl)
set_option maxRecDepth 20000 in
theorem q_3_134 : (Cond.methodLink RX7 69 yX7_readExactly : Cond) ∈ lw_tbl := p_t3 (List.mem_of_getElem? (i := 134) rfl)
set_option maxRecDepth 20000 in
theorem q_3_133 : (Cond.methodLink RX7 65 yX7_write : Cond) ∈ lw_tbl := p_t3 (List.mem_of_getElem? (i := 133) rfl)
set_option maxRecDepth 20000 in
theorem q_6_15 : (Cond.selects RX12 yX12_harm yX12_harm : Cond) ∈ lw_tbl := p_t6 (List.mem_of_getElem? (i := 15) rfl)
set_option maxRecDepth 20000 in
theorem q_6_14 : (Cond.instanceMethod yX12_harm : Cond) ∈ lw_tbl := p_t6 (List.mem_of_getElem? (i := 14) rfl)
set_option maxRecDepth 20000 in
theorem q_6_13 : (Cond.methodLink RL 72 yX12_harm : Cond) ∈ lw_tbl := p_t6 (List.mem_of_getElem? (i := 13) rfl)
set_option maxRecDepth 20000 in
theorem q_6_16 : (Cond.code yX12_harm cX12_harm 3 (some .int) : Cond) ∈ lw_tbl := p_t6 (List.mem_of_getElem? (i := 16) rfl)
set_option maxRecDepth 20000 in
theorem q_k_28 : (Cond.selects RX12 yX12_does yX12_does : Cond) ∈ lw_tbl := p_tk (List.mem_of_getElem? (i := 28) rfl)
set_option maxRecDepth 20000 in
theorem q_6_19 : (Cond.instanceMethod yX12_does : Cond) ∈ lw_tbl := p_t6 (List.mem_of_getElem? (i := 19) rfl)
set_option maxRecDepth 20000 in
theorem q_6_17 : (Cond.methodLink RX12 138 yX12_does : Cond) ∈ lw_tbl := p_t6 (List.mem_of_getElem? (i := 17) rfl)
set_option maxRecDepth 20000 in
theorem q_6_20 : (Cond.code yX12_does cX12_does 5 (some .boolean) : Cond) ∈ lw_tbl := p_t6 (List.mem_of_getElem? (i := 20) rfl)
set_option maxRecDepth 20000 in
theorem q_3_137 : (Cond.selects RX11 yX11_rough yX11_rough : Cond) ∈ lw_tbl := p_t3 (List.mem_of_getElem? (i := 137) rfl)
set_option maxRecDepth 20000 in
theorem q_3_136 : (Cond.instanceMethod yX11_rough : Cond) ∈ lw_tbl := p_t3 (List.mem_of_getElem? (i := 136) rfl)
set_option maxRecDepth 20000 in
theorem q_3_135 : (Cond.methodLink RL 73 yX11_rough : Cond) ∈ lw_tbl := p_t3 (List.mem_of_getElem? (i := 135) rfl)
set_option maxRecDepth 20000 in
theorem q_3_138 : (Cond.code yX11_rough cX11_rough 4 (some .int) : Cond) ∈ lw_tbl := p_t3 (List.mem_of_getElem? (i := 138) rfl)
set_option maxRecDepth 20000 in
theorem q_3_141 : (Cond.selects RX7 yX7_passRoughly yX7_passRoughly : Cond) ∈ lw_tbl := p_t3 (List.mem_of_getElem? (i := 141) rfl)
set_option maxRecDepth 20000 in
theorem q_3_140 : (Cond.instanceMethod yX7_passRoughly : Cond) ∈ lw_tbl := p_t3 (List.mem_of_getElem? (i := 140) rfl)
set_option maxRecDepth 20000 in
theorem q_3_139 : (Cond.methodLink RX11 181 yX7_passRoughly : Cond) ∈ lw_tbl := p_t3 (List.mem_of_getElem? (i := 139) rfl)
set_option maxRecDepth 20000 in
theorem q_3_142 : (Cond.code yX7_passRoughly cX7_passRoughly 8 (some .int) : Cond) ∈ lw_tbl := p_t3 (List.mem_of_getElem? (i := 142) rfl)
set_option maxRecDepth 20000 in
theorem q_3_143 : (Cond.constant RX7 73 (65533) : Cond) ∈ lw_tbl := p_t3 (List.mem_of_getElem? (i := 143) rfl)
set_option maxRecDepth 20000 in
theorem q_6_23 : (Cond.selects RX12 yX12_rough yX12_rough : Cond) ∈ lw_tbl := p_t6 (List.mem_of_getElem? (i := 23) rfl)
set_option maxRecDepth 20000 in
theorem q_6_22 : (Cond.instanceMethod yX12_rough : Cond) ∈ lw_tbl := p_t6 (List.mem_of_getElem? (i := 22) rfl)
set_option maxRecDepth 20000 in
theorem q_6_21 : (Cond.methodLink RL 76 yX12_rough : Cond) ∈ lw_tbl := p_t6 (List.mem_of_getElem? (i := 21) rfl)
set_option maxRecDepth 20000 in
theorem q_6_24 : (Cond.code yX12_rough cX12_rough 6 (some .int) : Cond) ∈ lw_tbl := p_t6 (List.mem_of_getElem? (i := 24) rfl)
set_option maxRecDepth 20000 in
theorem q_3_146 : (Cond.selects RX11 yX11_undo yX11_undo : Cond) ∈ lw_tbl := p_t3 (List.mem_of_getElem? (i := 146) rfl)
set_option maxRecDepth 20000 in
theorem q_3_145 : (Cond.instanceMethod yX11_undo : Cond) ∈ lw_tbl := p_t3 (List.mem_of_getElem? (i := 145) rfl)
set_option maxRecDepth 20000 in
theorem q_3_144 : (Cond.methodLink RL 77 yX11_undo : Cond) ∈ lw_tbl := p_t3 (List.mem_of_getElem? (i := 144) rfl)
set_option maxRecDepth 20000 in
theorem q_3_147 : (Cond.code yX11_undo cX11_undo 3 (some .int) : Cond) ∈ lw_tbl := p_t3 (List.mem_of_getElem? (i := 147) rfl)
set_option maxRecDepth 20000 in
theorem q_6_27 : (Cond.selects RX12 yX12_undo yX12_undo : Cond) ∈ lw_tbl := p_t6 (List.mem_of_getElem? (i := 27) rfl)
set_option maxRecDepth 20000 in
theorem q_6_26 : (Cond.instanceMethod yX12_undo : Cond) ∈ lw_tbl := p_t6 (List.mem_of_getElem? (i := 26) rfl)
set_option maxRecDepth 20000 in
theorem q_6_25 : (Cond.methodLink RL 80 yX12_undo : Cond) ∈ lw_tbl := p_t6 (List.mem_of_getElem? (i := 25) rfl)
set_option maxRecDepth 20000 in
theorem q_6_28 : (Cond.code yX12_undo cX12_undo 3 (some .int) : Cond) ∈ lw_tbl := p_t6 (List.mem_of_getElem? (i := 28) rfl)
set_option maxRecDepth 20000 in
theorem q_k_30 : (Cond.selects RX12 yX12_undoes yX12_undoes : Cond) ∈ lw_tbl := p_tk (List.mem_of_getElem? (i := 30) rfl)
set_option maxRecDepth 20000 in
theorem q_6_35 : (Cond.instanceMethod yX12_undoes : Cond) ∈ lw_tbl := p_t6 (List.mem_of_getElem? (i := 35) rfl)
set_option maxRecDepth 20000 in
theorem q_6_33 : (Cond.methodLink RX12 174 yX12_undoes : Cond) ∈ lw_tbl := p_t6 (List.mem_of_getElem? (i := 33) rfl)
set_option maxRecDepth 20000 in
theorem q_k_29 : (Cond.selects RX12 yX12_takeText yX12_takeText : Cond) ∈ lw_tbl := p_tk (List.mem_of_getElem? (i := 29) rfl)
set_option maxRecDepth 20000 in
theorem q_6_31 : (Cond.instanceMethod yX12_takeText : Cond) ∈ lw_tbl := p_t6 (List.mem_of_getElem? (i := 31) rfl)
set_option maxRecDepth 20000 in
theorem q_6_29 : (Cond.methodLink RX12 171 yX12_takeText : Cond) ∈ lw_tbl := p_t6 (List.mem_of_getElem? (i := 29) rfl)
set_option maxRecDepth 20000 in
theorem q_5_74 : (Cond.fieldLink RX12 135 "TextMenderModel" "workMany" "I" : Cond) ∈ lw_tbl := p_t5 (List.mem_of_getElem? (i := 74) rfl)
set_option maxRecDepth 20000 in
theorem q_5_73 : (Cond.fieldLink RX12 64 "TextMenderModel" "work" "[I" : Cond) ∈ lw_tbl := p_t5 (List.mem_of_getElem? (i := 73) rfl)
set_option maxRecDepth 20000 in
theorem q_6_32 : (Cond.code yX12_takeText cX12_takeText 2 none : Cond) ∈ lw_tbl := p_t6 (List.mem_of_getElem? (i := 32) rfl)
set_option maxRecDepth 20000 in
theorem q_6_36 : (Cond.code yX12_undoes cX12_undoes 6 (some .boolean) : Cond) ∈ lw_tbl := p_t6 (List.mem_of_getElem? (i := 36) rfl)
set_option maxRecDepth 20000 in
theorem q_5_75 : (Cond.fieldLink RX12 67 "TextMenderModel" "other" "[I" : Cond) ∈ lw_tbl := p_t5 (List.mem_of_getElem? (i := 75) rfl)
set_option maxRecDepth 20000 in
theorem q_3_150 : (Cond.selects RX11 yX11_safe yX11_safe : Cond) ∈ lw_tbl := p_t3 (List.mem_of_getElem? (i := 150) rfl)
set_option maxRecDepth 20000 in
theorem q_3_149 : (Cond.instanceMethod yX11_safe : Cond) ∈ lw_tbl := p_t3 (List.mem_of_getElem? (i := 149) rfl)
set_option maxRecDepth 20000 in
theorem q_3_148 : (Cond.methodLink RL 81 yX11_safe : Cond) ∈ lw_tbl := p_t3 (List.mem_of_getElem? (i := 148) rfl)
set_option maxRecDepth 20000 in
theorem q_3_151 : (Cond.code yX11_safe cX11_safe 3 (some .int) : Cond) ∈ lw_tbl := p_t3 (List.mem_of_getElem? (i := 151) rfl)
set_option maxRecDepth 20000 in
theorem q_3_154 : (Cond.selects RX2 yX2_neverLost yX2_neverLost : Cond) ∈ lw_tbl := p_t3 (List.mem_of_getElem? (i := 154) rfl)
set_option maxRecDepth 20000 in
theorem q_3_153 : (Cond.instanceMethod yX2_neverLost : Cond) ∈ lw_tbl := p_t3 (List.mem_of_getElem? (i := 153) rfl)
set_option maxRecDepth 20000 in
theorem q_3_152 : (Cond.methodLink RX11 185 yX2_neverLost : Cond) ∈ lw_tbl := p_t3 (List.mem_of_getElem? (i := 152) rfl)
set_option maxRecDepth 20000 in
theorem q_3_155 : (Cond.code yX2_neverLost cX2_neverLost 4 (some .boolean) : Cond) ∈ lw_tbl := p_t3 (List.mem_of_getElem? (i := 155) rfl)
set_option maxRecDepth 20000 in
theorem q_k_6 : (Cond.selects RX2 yX2_isWritten yX2_isWritten : Cond) ∈ lw_tbl := p_tk (List.mem_of_getElem? (i := 6) rfl)
set_option maxRecDepth 20000 in
theorem q_3_158 : (Cond.instanceMethod yX2_isWritten : Cond) ∈ lw_tbl := p_t3 (List.mem_of_getElem? (i := 158) rfl)
set_option maxRecDepth 20000 in
theorem q_3_156 : (Cond.methodLink RX2 72 yX2_isWritten : Cond) ∈ lw_tbl := p_t3 (List.mem_of_getElem? (i := 156) rfl)
set_option maxRecDepth 20000 in
theorem q_3_159 : (Cond.code yX2_isWritten cX2_isWritten 3 (some .boolean) : Cond) ∈ lw_tbl := p_t3 (List.mem_of_getElem? (i := 159) rfl)
set_option maxRecDepth 20000 in
theorem q_6_39 : (Cond.selects RX12 yX12_safe yX12_safe : Cond) ∈ lw_tbl := p_t6 (List.mem_of_getElem? (i := 39) rfl)
set_option maxRecDepth 20000 in
theorem q_6_38 : (Cond.instanceMethod yX12_safe : Cond) ∈ lw_tbl := p_t6 (List.mem_of_getElem? (i := 38) rfl)
set_option maxRecDepth 20000 in
theorem q_6_37 : (Cond.methodLink RL 84 yX12_safe : Cond) ∈ lw_tbl := p_t6 (List.mem_of_getElem? (i := 37) rfl)
set_option maxRecDepth 20000 in
theorem q_6_40 : (Cond.code yX12_safe cX12_safe 5 (some .int) : Cond) ∈ lw_tbl := p_t6 (List.mem_of_getElem? (i := 40) rfl)
set_option maxRecDepth 20000 in
theorem q_k_31 : (Cond.selects RX12 yX12_canCome yX12_canCome : Cond) ∈ lw_tbl := p_tk (List.mem_of_getElem? (i := 31) rfl)
set_option maxRecDepth 20000 in
theorem q_6_43 : (Cond.instanceMethod yX12_canCome : Cond) ∈ lw_tbl := p_t6 (List.mem_of_getElem? (i := 43) rfl)
set_option maxRecDepth 20000 in
theorem q_6_41 : (Cond.methodLink RX12 177 yX12_canCome : Cond) ∈ lw_tbl := p_t6 (List.mem_of_getElem? (i := 41) rfl)
set_option maxRecDepth 20000 in
theorem q_6_44 : (Cond.code yX12_canCome cX12_canCome 3 (some .boolean) : Cond) ∈ lw_tbl := p_t6 (List.mem_of_getElem? (i := 44) rfl)
set_option maxRecDepth 20000 in
theorem q_3_162 : (Cond.selects RX11 yX11_back yX11_back : Cond) ∈ lw_tbl := p_t3 (List.mem_of_getElem? (i := 162) rfl)
set_option maxRecDepth 20000 in
theorem q_3_161 : (Cond.instanceMethod yX11_back : Cond) ∈ lw_tbl := p_t3 (List.mem_of_getElem? (i := 161) rfl)
set_option maxRecDepth 20000 in
theorem q_3_160 : (Cond.methodLink RL 85 yX11_back : Cond) ∈ lw_tbl := p_t3 (List.mem_of_getElem? (i := 160) rfl)
set_option maxRecDepth 20000 in
theorem q_3_163 : (Cond.code yX11_back cX11_back 1 (some .int) : Cond) ∈ lw_tbl := p_t3 (List.mem_of_getElem? (i := 163) rfl)
set_option maxRecDepth 20000 in
theorem q_3_166 : (Cond.selects RX0 yX0_takeBack yX0_takeBack : Cond) ∈ lw_tbl := p_t3 (List.mem_of_getElem? (i := 166) rfl)
set_option maxRecDepth 20000 in
theorem q_3_165 : (Cond.instanceMethod yX0_takeBack : Cond) ∈ lw_tbl := p_t3 (List.mem_of_getElem? (i := 165) rfl)
set_option maxRecDepth 20000 in
theorem q_3_164 : (Cond.methodLink RX11 188 yX0_takeBack : Cond) ∈ lw_tbl := p_t3 (List.mem_of_getElem? (i := 164) rfl)
set_option maxRecDepth 20000 in
theorem q_3_167 : (Cond.code yX0_takeBack cX0_takeBack 3 (some .boolean) : Cond) ∈ lw_tbl := p_t3 (List.mem_of_getElem? (i := 167) rfl)
set_option maxRecDepth 20000 in
theorem q_3_169 : (Cond.methodLink RX0 44 yX5_add : Cond) ∈ lw_tbl := p_t3 (List.mem_of_getElem? (i := 169) rfl)
set_option maxRecDepth 20000 in
theorem q_3_168 : (Cond.methodLink RX0 40 yX5_cut : Cond) ∈ lw_tbl := p_t3 (List.mem_of_getElem? (i := 168) rfl)
set_option maxRecDepth 20000 in
theorem q_6_47 : (Cond.selects RX12 yX12_back yX12_back : Cond) ∈ lw_tbl := p_t6 (List.mem_of_getElem? (i := 47) rfl)
set_option maxRecDepth 20000 in
theorem q_6_46 : (Cond.instanceMethod yX12_back : Cond) ∈ lw_tbl := p_t6 (List.mem_of_getElem? (i := 46) rfl)
set_option maxRecDepth 20000 in
theorem q_6_45 : (Cond.methodLink RL 88 yX12_back : Cond) ∈ lw_tbl := p_t6 (List.mem_of_getElem? (i := 45) rfl)
set_option maxRecDepth 20000 in
theorem q_6_48 : (Cond.code yX12_back cX12_back 3 (some .int) : Cond) ∈ lw_tbl := p_t6 (List.mem_of_getElem? (i := 48) rfl)
set_option maxRecDepth 20000 in
theorem q_3_172 : (Cond.selects RX11 yX11_list yX11_list : Cond) ∈ lw_tbl := p_t3 (List.mem_of_getElem? (i := 172) rfl)
set_option maxRecDepth 20000 in
theorem q_3_171 : (Cond.instanceMethod yX11_list : Cond) ∈ lw_tbl := p_t3 (List.mem_of_getElem? (i := 171) rfl)
set_option maxRecDepth 20000 in
theorem q_3_170 : (Cond.methodLink RL 89 yX11_list : Cond) ∈ lw_tbl := p_t3 (List.mem_of_getElem? (i := 170) rfl)
set_option maxRecDepth 20000 in
theorem q_3_173 : (Cond.code yX11_list cX11_list 3 (some .int) : Cond) ∈ lw_tbl := p_t3 (List.mem_of_getElem? (i := 173) rfl)
set_option maxRecDepth 20000 in
theorem q_3_176 : (Cond.selects RX4 yX4_tell yX4_tell : Cond) ∈ lw_tbl := p_t3 (List.mem_of_getElem? (i := 176) rfl)
set_option maxRecDepth 20000 in
theorem q_3_175 : (Cond.instanceMethod yX4_tell : Cond) ∈ lw_tbl := p_t3 (List.mem_of_getElem? (i := 175) rfl)
set_option maxRecDepth 20000 in
theorem q_3_174 : (Cond.methodLink RX11 191 yX4_tell : Cond) ∈ lw_tbl := p_t3 (List.mem_of_getElem? (i := 174) rfl)
set_option maxRecDepth 20000 in
theorem q_3_177 : (Cond.code yX4_tell cX4_tell 4 (some .boolean) : Cond) ∈ lw_tbl := p_t3 (List.mem_of_getElem? (i := 177) rfl)
set_option maxRecDepth 20000 in
theorem q_1_105 : (Cond.fieldLink RX4 15 "TextMender$Harms" "readIn" "[I" : Cond) ∈ lw_tbl := p_t1 (List.mem_of_getElem? (i := 105) rfl)
set_option maxRecDepth 20000 in
theorem q_1_104 : (Cond.fieldLink RX4 9 "TextMender$Harms" "writtenIn" "[I" : Cond) ∈ lw_tbl := p_t1 (List.mem_of_getElem? (i := 104) rfl)
set_option maxRecDepth 20000 in
theorem q_6_51 : (Cond.selects RX12 yX12_list yX12_list : Cond) ∈ lw_tbl := p_t6 (List.mem_of_getElem? (i := 51) rfl)
set_option maxRecDepth 20000 in
theorem q_6_50 : (Cond.instanceMethod yX12_list : Cond) ∈ lw_tbl := p_t6 (List.mem_of_getElem? (i := 50) rfl)
set_option maxRecDepth 20000 in
theorem q_6_49 : (Cond.methodLink RL 92 yX12_list : Cond) ∈ lw_tbl := p_t6 (List.mem_of_getElem? (i := 49) rfl)
set_option maxRecDepth 20000 in
theorem q_6_52 : (Cond.code yX12_list cX12_list 4 (some .int) : Cond) ∈ lw_tbl := p_t6 (List.mem_of_getElem? (i := 52) rfl)
set_option maxRecDepth 20000 in
theorem q_5_52 : (Cond.fieldLink RX12 33 "TextMenderModel" "harmB" "[I" : Cond) ∈ lw_tbl := p_t5 (List.mem_of_getElem? (i := 52) rfl)
set_option maxRecDepth 20000 in
theorem q_5_51 : (Cond.fieldLink RX12 30 "TextMenderModel" "harmA" "[I" : Cond) ∈ lw_tbl := p_t5 (List.mem_of_getElem? (i := 51) rfl)
set_option maxRecDepth 20000 in
theorem q_3_180 : (Cond.selects RX11 yX11_unlist yX11_unlist : Cond) ∈ lw_tbl := p_t3 (List.mem_of_getElem? (i := 180) rfl)
set_option maxRecDepth 20000 in
theorem q_3_179 : (Cond.instanceMethod yX11_unlist : Cond) ∈ lw_tbl := p_t3 (List.mem_of_getElem? (i := 179) rfl)
set_option maxRecDepth 20000 in
theorem q_3_178 : (Cond.methodLink RL 93 yX11_unlist : Cond) ∈ lw_tbl := p_t3 (List.mem_of_getElem? (i := 178) rfl)
set_option maxRecDepth 20000 in
theorem q_3_181 : (Cond.code yX11_unlist cX11_unlist 2 (some .int) : Cond) ∈ lw_tbl := p_t3 (List.mem_of_getElem? (i := 181) rfl)
set_option maxRecDepth 20000 in
theorem q_3_184 : (Cond.selects RX4 yX4_empty yX4_empty : Cond) ∈ lw_tbl := p_t3 (List.mem_of_getElem? (i := 184) rfl)
set_option maxRecDepth 20000 in
theorem q_3_183 : (Cond.instanceMethod yX4_empty : Cond) ∈ lw_tbl := p_t3 (List.mem_of_getElem? (i := 183) rfl)
set_option maxRecDepth 20000 in
theorem q_3_182 : (Cond.methodLink RX11 193 yX4_empty : Cond) ∈ lw_tbl := p_t3 (List.mem_of_getElem? (i := 182) rfl)
set_option maxRecDepth 20000 in
theorem q_3_185 : (Cond.code yX4_empty cX4_empty 1 none : Cond) ∈ lw_tbl := p_t3 (List.mem_of_getElem? (i := 185) rfl)
set_option maxRecDepth 20000 in
theorem q_6_55 : (Cond.selects RX12 yX12_unlist yX12_unlist : Cond) ∈ lw_tbl := p_t6 (List.mem_of_getElem? (i := 55) rfl)
set_option maxRecDepth 20000 in
theorem q_6_54 : (Cond.instanceMethod yX12_unlist : Cond) ∈ lw_tbl := p_t6 (List.mem_of_getElem? (i := 54) rfl)
set_option maxRecDepth 20000 in
theorem q_6_53 : (Cond.methodLink RL 96 yX12_unlist : Cond) ∈ lw_tbl := p_t6 (List.mem_of_getElem? (i := 53) rfl)
set_option maxRecDepth 20000 in
theorem q_6_56 : (Cond.code yX12_unlist cX12_unlist 2 (some .int) : Cond) ∈ lw_tbl := p_t6 (List.mem_of_getElem? (i := 56) rfl)
set_option maxRecDepth 20000 in
theorem q_3_188 : (Cond.selects RX11 yX11_rows yX11_rows : Cond) ∈ lw_tbl := p_t3 (List.mem_of_getElem? (i := 188) rfl)
set_option maxRecDepth 20000 in
theorem q_3_187 : (Cond.instanceMethod yX11_rows : Cond) ∈ lw_tbl := p_t3 (List.mem_of_getElem? (i := 187) rfl)
set_option maxRecDepth 20000 in
theorem q_3_186 : (Cond.methodLink RL 97 yX11_rows : Cond) ∈ lw_tbl := p_t3 (List.mem_of_getElem? (i := 186) rfl)
set_option maxRecDepth 20000 in
theorem q_3_189 : (Cond.code yX11_rows cX11_rows 2 (some .int) : Cond) ∈ lw_tbl := p_t3 (List.mem_of_getElem? (i := 189) rfl)
set_option maxRecDepth 20000 in
theorem q_3_235 : (Cond.selects RX9 yX9_keepFound yX9_keepFound : Cond) ∈ lw_tbl := p_t3 (List.mem_of_getElem? (i := 235) rfl)
set_option maxRecDepth 20000 in
theorem q_3_234 : (Cond.instanceMethod yX9_keepFound : Cond) ∈ lw_tbl := p_t3 (List.mem_of_getElem? (i := 234) rfl)
set_option maxRecDepth 20000 in
theorem q_3_233 : (Cond.methodLink RX11 198 yX9_keepFound : Cond) ∈ lw_tbl := p_t3 (List.mem_of_getElem? (i := 233) rfl)
set_option maxRecDepth 20000 in
theorem q_1_11 : (Cond.initialized RX9 : Cond) ∈ lw_tbl := p_t1 (List.mem_of_getElem? (i := 11) rfl)
set_option maxRecDepth 20000 in
theorem q_3_192 : (Cond.selects RX9 yX9_find yX9_find : Cond) ∈ lw_tbl := p_t3 (List.mem_of_getElem? (i := 192) rfl)
set_option maxRecDepth 20000 in
theorem q_3_191 : (Cond.instanceMethod yX9_find : Cond) ∈ lw_tbl := p_t3 (List.mem_of_getElem? (i := 191) rfl)
set_option maxRecDepth 20000 in
theorem q_3_190 : (Cond.methodLink RX11 194 yX9_find : Cond) ∈ lw_tbl := p_t3 (List.mem_of_getElem? (i := 190) rfl)
set_option maxRecDepth 20000 in
theorem q_2_109 : (Cond.fieldLink RX11 68 "TextMender" "rowBook" "LTextMender$Rows;" : Cond) ∈ lw_tbl := p_t2 (List.mem_of_getElem? (i := 109) rfl)
set_option maxRecDepth 20000 in
theorem q_1_175 : (Cond.laysFinal RX9 "TextMender$Rows" "harms" "LTextMender$Harms;" : Cond) ∈ lw_tbl := p_t1 (List.mem_of_getElem? (i := 175) rfl)
set_option maxRecDepth 20000 in
theorem q_1_177 : (Cond.laysFinal RX9 "TextMender$Rows" "costs" "LTextMender$Costs;" : Cond) ∈ lw_tbl := p_t1 (List.mem_of_getElem? (i := 177) rfl)
set_option maxRecDepth 20000 in
theorem q_1_179 : (Cond.laysFinal RX9 "TextMender$Rows" "one" "LTextMender$Numbers;" : Cond) ∈ lw_tbl := p_t1 (List.mem_of_getElem? (i := 179) rfl)
set_option maxRecDepth 20000 in
theorem q_1_181 : (Cond.laysFinal RX9 "TextMender$Rows" "two" "LTextMender$Numbers;" : Cond) ∈ lw_tbl := p_t1 (List.mem_of_getElem? (i := 181) rfl)
set_option maxRecDepth 20000 in
theorem q_1_183 : (Cond.laysFinal RX9 "TextMender$Rows" "three" "LTextMender$Numbers;" : Cond) ∈ lw_tbl := p_t1 (List.mem_of_getElem? (i := 183) rfl)
set_option maxRecDepth 20000 in
theorem q_1_185 : (Cond.laysFinal RX9 "TextMender$Rows" "foundCost" "[I" : Cond) ∈ lw_tbl := p_t1 (List.mem_of_getElem? (i := 185) rfl)
set_option maxRecDepth 20000 in
theorem q_1_187 : (Cond.laysFinal RX9 "TextMender$Rows" "foundLength" "[I" : Cond) ∈ lw_tbl := p_t1 (List.mem_of_getElem? (i := 187) rfl)
set_option maxRecDepth 20000 in
theorem q_1_189 : (Cond.laysFinal RX9 "TextMender$Rows" "foundHarms" "[I" : Cond) ∈ lw_tbl := p_t1 (List.mem_of_getElem? (i := 189) rfl)
set_option maxRecDepth 20000 in
theorem q_1_191 : (Cond.laysFinal RX9 "TextMender$Rows" "toldCost" "[I" : Cond) ∈ lw_tbl := p_t1 (List.mem_of_getElem? (i := 191) rfl)
set_option maxRecDepth 20000 in
theorem q_1_193 : (Cond.laysFinal RX9 "TextMender$Rows" "toldLength" "[I" : Cond) ∈ lw_tbl := p_t1 (List.mem_of_getElem? (i := 193) rfl)
set_option maxRecDepth 20000 in
theorem q_1_195 : (Cond.laysFinal RX9 "TextMender$Rows" "toldHarms" "[I" : Cond) ∈ lw_tbl := p_t1 (List.mem_of_getElem? (i := 195) rfl)
set_option maxRecDepth 20000 in
theorem q_1_197 : (Cond.lays RX9 "TextMender$Rows" "told" "I" : Cond) ∈ lw_tbl := p_t1 (List.mem_of_getElem? (i := 197) rfl)
set_option maxRecDepth 20000 in
theorem q_3_193 : (Cond.code yX9_find cX9_find 9 none : Cond) ∈ lw_tbl := p_t3 (List.mem_of_getElem? (i := 193) rfl)
set_option maxRecDepth 20000 in
theorem q_k_9 : (Cond.selects RX9 yX9_nameHarms yX9_nameHarms : Cond) ∈ lw_tbl := p_tk (List.mem_of_getElem? (i := 9) rfl)
set_option maxRecDepth 20000 in
theorem q_3_231 : (Cond.instanceMethod yX9_nameHarms : Cond) ∈ lw_tbl := p_t3 (List.mem_of_getElem? (i := 231) rfl)
set_option maxRecDepth 20000 in
theorem q_3_229 : (Cond.methodLink RX9 77 yX9_nameHarms : Cond) ∈ lw_tbl := p_t3 (List.mem_of_getElem? (i := 229) rfl)
set_option maxRecDepth 20000 in
theorem q_k_7 : (Cond.selects RX9 yX9_note yX9_note : Cond) ∈ lw_tbl := p_tk (List.mem_of_getElem? (i := 7) rfl)
set_option maxRecDepth 20000 in
theorem q_3_202 : (Cond.instanceMethod yX9_note : Cond) ∈ lw_tbl := p_t3 (List.mem_of_getElem? (i := 202) rfl)
set_option maxRecDepth 20000 in
theorem q_3_200 : (Cond.methodLink RX9 73 yX9_note : Cond) ∈ lw_tbl := p_t3 (List.mem_of_getElem? (i := 200) rfl)
set_option maxRecDepth 20000 in
theorem q_3_197 : (Cond.selects RX4 yX4_takeOff yX4_takeOff : Cond) ∈ lw_tbl := p_t3 (List.mem_of_getElem? (i := 197) rfl)
set_option maxRecDepth 20000 in
theorem q_3_196 : (Cond.instanceMethod yX4_takeOff : Cond) ∈ lw_tbl := p_t3 (List.mem_of_getElem? (i := 196) rfl)
set_option maxRecDepth 20000 in
theorem q_3_195 : (Cond.methodLink RX9 69 yX4_takeOff : Cond) ∈ lw_tbl := p_t3 (List.mem_of_getElem? (i := 195) rfl)
set_option maxRecDepth 20000 in
theorem q_3_194 : (Cond.methodLink RX9 63 yX4_length : Cond) ∈ lw_tbl := p_t3 (List.mem_of_getElem? (i := 194) rfl)
set_option maxRecDepth 20000 in
theorem q_1_162 : (Cond.methodLink RX9 53 yJ7_fill_53178 : Cond) ∈ lw_tbl := p_t1 (List.mem_of_getElem? (i := 162) rfl)
set_option maxRecDepth 20000 in
theorem q_1_167 : (Cond.fieldLink RX9 23 "TextMender$Rows" "three" "LTextMender$Numbers;" : Cond) ∈ lw_tbl := p_t1 (List.mem_of_getElem? (i := 167) rfl)
set_option maxRecDepth 20000 in
theorem q_1_166 : (Cond.fieldLink RX9 20 "TextMender$Rows" "two" "LTextMender$Numbers;" : Cond) ∈ lw_tbl := p_t1 (List.mem_of_getElem? (i := 166) rfl)
set_option maxRecDepth 20000 in
theorem q_1_165 : (Cond.fieldLink RX9 14 "TextMender$Rows" "one" "LTextMender$Numbers;" : Cond) ∈ lw_tbl := p_t1 (List.mem_of_getElem? (i := 165) rfl)
set_option maxRecDepth 20000 in
theorem q_1_163 : (Cond.fieldLink RX9 45 "TextMender$Rows" "harms" "LTextMender$Harms;" : Cond) ∈ lw_tbl := p_t1 (List.mem_of_getElem? (i := 163) rfl)
set_option maxRecDepth 20000 in
theorem q_1_168 : (Cond.fieldLink RX9 26 "TextMender$Rows" "foundCost" "[I" : Cond) ∈ lw_tbl := p_t1 (List.mem_of_getElem? (i := 168) rfl)
set_option maxRecDepth 20000 in
theorem q_3_198 : (Cond.code yX4_takeOff cX4_takeOff 4 (some .boolean) : Cond) ∈ lw_tbl := p_t3 (List.mem_of_getElem? (i := 198) rfl)
set_option maxRecDepth 20000 in
theorem q_3_199 : (Cond.methodLink RX4 26 yX7_pass : Cond) ∈ lw_tbl := p_t3 (List.mem_of_getElem? (i := 199) rfl)
set_option maxRecDepth 20000 in
theorem q_1_103 : (Cond.fieldLink RX4 18 "TextMender$Harms" "passage" "LTextMender$Passage;" : Cond) ∈ lw_tbl := p_t1 (List.mem_of_getElem? (i := 103) rfl)
set_option maxRecDepth 20000 in
theorem q_3_203 : (Cond.code yX9_note cX9_note 3 none : Cond) ∈ lw_tbl := p_t3 (List.mem_of_getElem? (i := 203) rfl)
set_option maxRecDepth 20000 in
theorem q_3_228 : (Cond.methodLink RX9 87 yX5_length : Cond) ∈ lw_tbl := p_t3 (List.mem_of_getElem? (i := 228) rfl)
set_option maxRecDepth 20000 in
theorem q_3_206 : (Cond.selects RX3 yX3_ofText yX3_ofText : Cond) ∈ lw_tbl := p_t3 (List.mem_of_getElem? (i := 206) rfl)
set_option maxRecDepth 20000 in
theorem q_3_205 : (Cond.instanceMethod yX3_ofText : Cond) ∈ lw_tbl := p_t3 (List.mem_of_getElem? (i := 205) rfl)
set_option maxRecDepth 20000 in
theorem q_3_204 : (Cond.methodLink RX9 81 yX3_ofText : Cond) ∈ lw_tbl := p_t3 (List.mem_of_getElem? (i := 204) rfl)
set_option maxRecDepth 20000 in
theorem q_1_169 : (Cond.fieldLink RX9 30 "TextMender$Rows" "foundLength" "[I" : Cond) ∈ lw_tbl := p_t1 (List.mem_of_getElem? (i := 169) rfl)
set_option maxRecDepth 20000 in
theorem q_1_164 : (Cond.fieldLink RX9 49 "TextMender$Rows" "costs" "LTextMender$Costs;" : Cond) ∈ lw_tbl := p_t1 (List.mem_of_getElem? (i := 164) rfl)
set_option maxRecDepth 20000 in
theorem q_3_207 : (Cond.code yX3_ofText cX3_ofText 6 (some .int) : Cond) ∈ lw_tbl := p_t3 (List.mem_of_getElem? (i := 207) rfl)
set_option maxRecDepth 20000 in
theorem q_3_212 : (Cond.selects RX3 yX3_of yX3_of : Cond) ∈ lw_tbl := p_t3 (List.mem_of_getElem? (i := 212) rfl)
set_option maxRecDepth 20000 in
theorem q_3_211 : (Cond.instanceMethod yX3_of : Cond) ∈ lw_tbl := p_t3 (List.mem_of_getElem? (i := 211) rfl)
set_option maxRecDepth 20000 in
theorem q_3_210 : (Cond.methodLink RX3 47 yX3_of : Cond) ∈ lw_tbl := p_t3 (List.mem_of_getElem? (i := 210) rfl)
set_option maxRecDepth 20000 in
theorem q_3_209 : (Cond.methodLink RX3 44 yX5_get : Cond) ∈ lw_tbl := p_t3 (List.mem_of_getElem? (i := 209) rfl)
set_option maxRecDepth 20000 in
theorem q_3_208 : (Cond.methodLink RX3 39 yX5_length : Cond) ∈ lw_tbl := p_t3 (List.mem_of_getElem? (i := 208) rfl)
set_option maxRecDepth 20000 in
theorem q_3_213 : (Cond.code yX3_of cX3_of 7 (some .int) : Cond) ∈ lw_tbl := p_t3 (List.mem_of_getElem? (i := 213) rfl)
set_option maxRecDepth 20000 in
theorem q_3_223 : (Cond.static yX3_sortOf : Cond) ∈ lw_tbl := p_t3 (List.mem_of_getElem? (i := 223) rfl)
set_option maxRecDepth 20000 in
theorem q_3_222 : (Cond.methodLink RX3 35 yX3_sortOf : Cond) ∈ lw_tbl := p_t3 (List.mem_of_getElem? (i := 222) rfl)
set_option maxRecDepth 20000 in
theorem q_k_8 : (Cond.selects RX3 yX3_placeFor yX3_placeFor : Cond) ∈ lw_tbl := p_tk (List.mem_of_getElem? (i := 8) rfl)
set_option maxRecDepth 20000 in
theorem q_3_216 : (Cond.instanceMethod yX3_placeFor : Cond) ∈ lw_tbl := p_t3 (List.mem_of_getElem? (i := 216) rfl)
set_option maxRecDepth 20000 in
theorem q_3_214 : (Cond.methodLink RX3 28 yX3_placeFor : Cond) ∈ lw_tbl := p_t3 (List.mem_of_getElem? (i := 214) rfl)
set_option maxRecDepth 20000 in
theorem q_1_124 : (Cond.fieldLink RX3 15 "TextMender$Costs" "value" "[I" : Cond) ∈ lw_tbl := p_t1 (List.mem_of_getElem? (i := 124) rfl)
set_option maxRecDepth 20000 in
theorem q_3_217 : (Cond.code yX3_placeFor cX3_placeFor 7 (some .int) : Cond) ∈ lw_tbl := p_t3 (List.mem_of_getElem? (i := 217) rfl)
set_option maxRecDepth 20000 in
theorem q_3_219 : (Cond.static yX3_pairOf : Cond) ∈ lw_tbl := p_t3 (List.mem_of_getElem? (i := 219) rfl)
set_option maxRecDepth 20000 in
theorem q_3_218 : (Cond.methodLink RX3 32 yX3_pairOf : Cond) ∈ lw_tbl := p_t3 (List.mem_of_getElem? (i := 218) rfl)
set_option maxRecDepth 20000 in
theorem q_1_123 : (Cond.fieldLink RX3 11 "TextMender$Costs" "pair" "[I" : Cond) ∈ lw_tbl := p_t1 (List.mem_of_getElem? (i := 123) rfl)
set_option maxRecDepth 20000 in
theorem q_3_221 : (Cond.constant RX3 53 (-1640531535) : Cond) ∈ lw_tbl := p_t3 (List.mem_of_getElem? (i := 221) rfl)
set_option maxRecDepth 20000 in
theorem q_3_220 : (Cond.code yX3_pairOf cX3_pairOf 2 (some .int) : Cond) ∈ lw_tbl := p_t3 (List.mem_of_getElem? (i := 220) rfl)
set_option maxRecDepth 20000 in
theorem q_3_224 : (Cond.code yX3_sortOf cX3_sortOf 1 (some .int) : Cond) ∈ lw_tbl := p_t3 (List.mem_of_getElem? (i := 224) rfl)
set_option maxRecDepth 20000 in
theorem q_3_226 : (Cond.static yX3_sortOutside : Cond) ∈ lw_tbl := p_t3 (List.mem_of_getElem? (i := 226) rfl)
set_option maxRecDepth 20000 in
theorem q_3_225 : (Cond.methodLink RX3 50 yX3_sortOutside : Cond) ∈ lw_tbl := p_t3 (List.mem_of_getElem? (i := 225) rfl)
set_option maxRecDepth 20000 in
theorem q_3_227 : (Cond.code yX3_sortOutside cX3_sortOutside 1 (some .int) : Cond) ∈ lw_tbl := p_t3 (List.mem_of_getElem? (i := 227) rfl)
set_option maxRecDepth 20000 in
theorem q_3_232 : (Cond.code yX9_nameHarms cX9_nameHarms 5 none : Cond) ∈ lw_tbl := p_t3 (List.mem_of_getElem? (i := 232) rfl)
set_option maxRecDepth 20000 in
theorem q_1_170 : (Cond.fieldLink RX9 33 "TextMender$Rows" "foundHarms" "[I" : Cond) ∈ lw_tbl := p_t1 (List.mem_of_getElem? (i := 170) rfl)
set_option maxRecDepth 20000 in
theorem q_3_236 : (Cond.code yX9_keepFound cX9_keepFound 3 (some .int) : Cond) ∈ lw_tbl := p_t3 (List.mem_of_getElem? (i := 236) rfl)
set_option maxRecDepth 20000 in
theorem q_1_173 : (Cond.fieldLink RX9 42 "TextMender$Rows" "toldHarms" "[I" : Cond) ∈ lw_tbl := p_t1 (List.mem_of_getElem? (i := 173) rfl)
set_option maxRecDepth 20000 in
theorem q_1_172 : (Cond.fieldLink RX9 39 "TextMender$Rows" "toldLength" "[I" : Cond) ∈ lw_tbl := p_t1 (List.mem_of_getElem? (i := 172) rfl)
set_option maxRecDepth 20000 in
theorem q_1_171 : (Cond.fieldLink RX9 36 "TextMender$Rows" "toldCost" "[I" : Cond) ∈ lw_tbl := p_t1 (List.mem_of_getElem? (i := 171) rfl)
set_option maxRecDepth 20000 in
theorem q_1_174 : (Cond.fieldLink RX9 59 "TextMender$Rows" "told" "I" : Cond) ∈ lw_tbl := p_t1 (List.mem_of_getElem? (i := 174) rfl)
set_option maxRecDepth 20000 in
theorem q_6_59 : (Cond.selects RX12 yX12_rows yX12_rows : Cond) ∈ lw_tbl := p_t6 (List.mem_of_getElem? (i := 59) rfl)
set_option maxRecDepth 20000 in
theorem q_6_58 : (Cond.instanceMethod yX12_rows : Cond) ∈ lw_tbl := p_t6 (List.mem_of_getElem? (i := 58) rfl)
set_option maxRecDepth 20000 in
theorem q_6_57 : (Cond.methodLink RL 100 yX12_rows : Cond) ∈ lw_tbl := p_t6 (List.mem_of_getElem? (i := 57) rfl)
set_option maxRecDepth 20000 in
theorem q_6_60 : (Cond.code yX12_rows cX12_rows 7 (some .int) : Cond) ∈ lw_tbl := p_t6 (List.mem_of_getElem? (i := 60) rfl)
set_option maxRecDepth 20000 in
theorem q_k_33 : (Cond.selects RX12 yX12_costOf_ yX12_costOf_ : Cond) ∈ lw_tbl := p_tk (List.mem_of_getElem? (i := 33) rfl)
set_option maxRecDepth 20000 in
theorem q_6_70 : (Cond.instanceMethod yX12_costOf_ : Cond) ∈ lw_tbl := p_t6 (List.mem_of_getElem? (i := 70) rfl)
set_option maxRecDepth 20000 in
theorem q_6_68 : (Cond.methodLink RX12 189 yX12_costOf_ : Cond) ∈ lw_tbl := p_t6 (List.mem_of_getElem? (i := 68) rfl)
set_option maxRecDepth 20000 in
theorem q_k_32 : (Cond.selects RX12 yX12_makes yX12_makes : Cond) ∈ lw_tbl := p_tk (List.mem_of_getElem? (i := 32) rfl)
set_option maxRecDepth 20000 in
theorem q_6_66 : (Cond.instanceMethod yX12_makes : Cond) ∈ lw_tbl := p_t6 (List.mem_of_getElem? (i := 66) rfl)
set_option maxRecDepth 20000 in
theorem q_6_64 : (Cond.methodLink RX12 186 yX12_makes : Cond) ∈ lw_tbl := p_t6 (List.mem_of_getElem? (i := 64) rfl)
set_option maxRecDepth 20000 in
theorem q_6_62 : (Cond.static yX12_power : Cond) ∈ lw_tbl := p_t6 (List.mem_of_getElem? (i := 62) rfl)
set_option maxRecDepth 20000 in
theorem q_6_61 : (Cond.methodLink RX12 183 yX12_power : Cond) ∈ lw_tbl := p_t6 (List.mem_of_getElem? (i := 61) rfl)
set_option maxRecDepth 20000 in
theorem q_5_54 : (Cond.fieldLink RX12 36 "TextMenderModel" "rows" "[I" : Cond) ∈ lw_tbl := p_t5 (List.mem_of_getElem? (i := 54) rfl)
set_option maxRecDepth 20000 in
theorem q_5_55 : (Cond.fieldLink RX12 180 "TextMenderModel" "rowMany" "I" : Cond) ∈ lw_tbl := p_t5 (List.mem_of_getElem? (i := 55) rfl)
set_option maxRecDepth 20000 in
theorem q_6_63 : (Cond.code yX12_power cX12_power 4 (some .int) : Cond) ∈ lw_tbl := p_t6 (List.mem_of_getElem? (i := 63) rfl)
set_option maxRecDepth 20000 in
theorem q_6_67 : (Cond.code yX12_makes cX12_makes 6 (some .boolean) : Cond) ∈ lw_tbl := p_t6 (List.mem_of_getElem? (i := 67) rfl)
set_option maxRecDepth 20000 in
theorem q_6_71 : (Cond.code yX12_costOf_ cX12_costOf_ 7 (some .int) : Cond) ∈ lw_tbl := p_t6 (List.mem_of_getElem? (i := 71) rfl)
set_option maxRecDepth 20000 in
theorem q_k_34 : (Cond.selects RX12 yX12_costOf yX12_costOf : Cond) ∈ lw_tbl := p_tk (List.mem_of_getElem? (i := 34) rfl)
set_option maxRecDepth 20000 in
theorem q_6_74 : (Cond.instanceMethod yX12_costOf : Cond) ∈ lw_tbl := p_t6 (List.mem_of_getElem? (i := 74) rfl)
set_option maxRecDepth 20000 in
theorem q_6_72 : (Cond.methodLink RX12 196 yX12_costOf : Cond) ∈ lw_tbl := p_t6 (List.mem_of_getElem? (i := 72) rfl)
set_option maxRecDepth 20000 in
theorem q_6_75 : (Cond.code yX12_costOf cX12_costOf 5 (some .int) : Cond) ∈ lw_tbl := p_t6 (List.mem_of_getElem? (i := 75) rfl)
set_option maxRecDepth 20000 in
theorem q_6_77 : (Cond.static yX12_sortOf : Cond) ∈ lw_tbl := p_t6 (List.mem_of_getElem? (i := 77) rfl)
set_option maxRecDepth 20000 in
theorem q_6_76 : (Cond.methodLink RX12 193 yX12_sortOf : Cond) ∈ lw_tbl := p_t6 (List.mem_of_getElem? (i := 76) rfl)
set_option maxRecDepth 20000 in
theorem q_5_58 : (Cond.fieldLink RX12 45 "TextMenderModel" "costV" "[I" : Cond) ∈ lw_tbl := p_t5 (List.mem_of_getElem? (i := 58) rfl)
set_option maxRecDepth 20000 in
theorem q_5_57 : (Cond.fieldLink RX12 42 "TextMenderModel" "costY" "[I" : Cond) ∈ lw_tbl := p_t5 (List.mem_of_getElem? (i := 57) rfl)
set_option maxRecDepth 20000 in
theorem q_5_56 : (Cond.fieldLink RX12 39 "TextMenderModel" "costX" "[I" : Cond) ∈ lw_tbl := p_t5 (List.mem_of_getElem? (i := 56) rfl)
set_option maxRecDepth 20000 in
theorem q_6_78 : (Cond.code yX12_sortOf cX12_sortOf 1 (some .int) : Cond) ∈ lw_tbl := p_t6 (List.mem_of_getElem? (i := 78) rfl)
set_option maxRecDepth 20000 in
theorem q_3_239 : (Cond.selects RX11 yX11_row yX11_row : Cond) ∈ lw_tbl := p_t3 (List.mem_of_getElem? (i := 239) rfl)
set_option maxRecDepth 20000 in
theorem q_3_238 : (Cond.instanceMethod yX11_row : Cond) ∈ lw_tbl := p_t3 (List.mem_of_getElem? (i := 238) rfl)
set_option maxRecDepth 20000 in
theorem q_3_237 : (Cond.methodLink RL 101 yX11_row : Cond) ∈ lw_tbl := p_t3 (List.mem_of_getElem? (i := 237) rfl)
set_option maxRecDepth 20000 in
theorem q_4_0 : (Cond.code yX11_row cX11_row 3 (some .int) : Cond) ∈ lw_tbl := p_t4 (List.mem_of_getElem? (i := 0) rfl)
set_option maxRecDepth 20000 in
theorem q_4_3 : (Cond.selects RX9 yX9_told yX9_told : Cond) ∈ lw_tbl := p_t4 (List.mem_of_getElem? (i := 3) rfl)
set_option maxRecDepth 20000 in
theorem q_4_2 : (Cond.instanceMethod yX9_told : Cond) ∈ lw_tbl := p_t4 (List.mem_of_getElem? (i := 2) rfl)
set_option maxRecDepth 20000 in
theorem q_4_1 : (Cond.methodLink RX11 201 yX9_told : Cond) ∈ lw_tbl := p_t4 (List.mem_of_getElem? (i := 1) rfl)
set_option maxRecDepth 20000 in
theorem q_4_4 : (Cond.code yX9_told cX9_told 4 (some .int) : Cond) ∈ lw_tbl := p_t4 (List.mem_of_getElem? (i := 4) rfl)
set_option maxRecDepth 20000 in
theorem q_6_81 : (Cond.selects RX12 yX12_row yX12_row : Cond) ∈ lw_tbl := p_t6 (List.mem_of_getElem? (i := 81) rfl)
set_option maxRecDepth 20000 in
theorem q_6_80 : (Cond.instanceMethod yX12_row : Cond) ∈ lw_tbl := p_t6 (List.mem_of_getElem? (i := 80) rfl)
set_option maxRecDepth 20000 in
theorem q_6_79 : (Cond.methodLink RL 104 yX12_row : Cond) ∈ lw_tbl := p_t6 (List.mem_of_getElem? (i := 79) rfl)
set_option maxRecDepth 20000 in
theorem q_6_82 : (Cond.code yX12_row cX12_row 3 (some .int) : Cond) ∈ lw_tbl := p_t6 (List.mem_of_getElem? (i := 82) rfl)
set_option maxRecDepth 20000 in
theorem q_4_7 : (Cond.selects RX11 yX11_cost yX11_cost : Cond) ∈ lw_tbl := p_t4 (List.mem_of_getElem? (i := 7) rfl)
set_option maxRecDepth 20000 in
theorem q_4_6 : (Cond.instanceMethod yX11_cost : Cond) ∈ lw_tbl := p_t4 (List.mem_of_getElem? (i := 6) rfl)
set_option maxRecDepth 20000 in
theorem q_4_5 : (Cond.methodLink RL 105 yX11_cost : Cond) ∈ lw_tbl := p_t4 (List.mem_of_getElem? (i := 5) rfl)
set_option maxRecDepth 20000 in
theorem q_4_8 : (Cond.code yX11_cost cX11_cost 4 (some .boolean) : Cond) ∈ lw_tbl := p_t4 (List.mem_of_getElem? (i := 8) rfl)
set_option maxRecDepth 20000 in
theorem q_4_11 : (Cond.selects RX3 yX3_tell yX3_tell : Cond) ∈ lw_tbl := p_t4 (List.mem_of_getElem? (i := 11) rfl)
set_option maxRecDepth 20000 in
theorem q_4_10 : (Cond.instanceMethod yX3_tell : Cond) ∈ lw_tbl := p_t4 (List.mem_of_getElem? (i := 10) rfl)
set_option maxRecDepth 20000 in
theorem q_4_9 : (Cond.methodLink RX11 208 yX3_tell : Cond) ∈ lw_tbl := p_t4 (List.mem_of_getElem? (i := 9) rfl)
set_option maxRecDepth 20000 in
theorem q_4_12 : (Cond.code yX3_tell cX3_tell 5 (some .boolean) : Cond) ∈ lw_tbl := p_t4 (List.mem_of_getElem? (i := 12) rfl)
set_option maxRecDepth 20000 in
theorem q_6_85 : (Cond.selects RX12 yX12_cost yX12_cost : Cond) ∈ lw_tbl := p_t6 (List.mem_of_getElem? (i := 85) rfl)
set_option maxRecDepth 20000 in
theorem q_6_84 : (Cond.instanceMethod yX12_cost : Cond) ∈ lw_tbl := p_t6 (List.mem_of_getElem? (i := 84) rfl)
set_option maxRecDepth 20000 in
theorem q_6_83 : (Cond.methodLink RL 109 yX12_cost : Cond) ∈ lw_tbl := p_t6 (List.mem_of_getElem? (i := 83) rfl)
set_option maxRecDepth 20000 in
theorem q_6_86 : (Cond.code yX12_cost cX12_cost 5 (some .boolean) : Cond) ∈ lw_tbl := p_t6 (List.mem_of_getElem? (i := 86) rfl)
set_option maxRecDepth 20000 in
theorem q_4_15 : (Cond.selects RX11 yX11_worth yX11_worth : Cond) ∈ lw_tbl := p_t4 (List.mem_of_getElem? (i := 15) rfl)
set_option maxRecDepth 20000 in
theorem q_4_14 : (Cond.instanceMethod yX11_worth : Cond) ∈ lw_tbl := p_t4 (List.mem_of_getElem? (i := 14) rfl)
set_option maxRecDepth 20000 in
theorem q_4_13 : (Cond.methodLink RL 110 yX11_worth : Cond) ∈ lw_tbl := p_t4 (List.mem_of_getElem? (i := 13) rfl)
set_option maxRecDepth 20000 in
theorem q_4_16 : (Cond.code yX11_worth cX11_worth 1 (some .int) : Cond) ∈ lw_tbl := p_t4 (List.mem_of_getElem? (i := 16) rfl)
set_option maxRecDepth 20000 in
theorem q_4_17 : (Cond.methodLink RX11 211 yX3_ofText : Cond) ∈ lw_tbl := p_t4 (List.mem_of_getElem? (i := 17) rfl)
set_option maxRecDepth 20000 in
theorem q_6_89 : (Cond.selects RX12 yX12_worth yX12_worth : Cond) ∈ lw_tbl := p_t6 (List.mem_of_getElem? (i := 89) rfl)
set_option maxRecDepth 20000 in
theorem q_6_88 : (Cond.instanceMethod yX12_worth : Cond) ∈ lw_tbl := p_t6 (List.mem_of_getElem? (i := 88) rfl)
set_option maxRecDepth 20000 in
theorem q_6_87 : (Cond.methodLink RL 113 yX12_worth : Cond) ∈ lw_tbl := p_t6 (List.mem_of_getElem? (i := 87) rfl)
set_option maxRecDepth 20000 in
theorem q_6_90 : (Cond.code yX12_worth cX12_worth 1 (some .int) : Cond) ∈ lw_tbl := p_t6 (List.mem_of_getElem? (i := 90) rfl)
set_option maxRecDepth 20000 in
theorem q_4_20 : (Cond.selects RX11 yX11_mend yX11_mend : Cond) ∈ lw_tbl := p_t4 (List.mem_of_getElem? (i := 20) rfl)
set_option maxRecDepth 20000 in
theorem q_4_19 : (Cond.instanceMethod yX11_mend : Cond) ∈ lw_tbl := p_t4 (List.mem_of_getElem? (i := 19) rfl)
set_option maxRecDepth 20000 in
theorem q_4_18 : (Cond.methodLink RL 114 yX11_mend : Cond) ∈ lw_tbl := p_t4 (List.mem_of_getElem? (i := 18) rfl)
set_option maxRecDepth 20000 in
theorem q_4_21 : (Cond.code yX11_mend cX11_mend 4 (some .int) : Cond) ∈ lw_tbl := p_t4 (List.mem_of_getElem? (i := 21) rfl)
set_option maxRecDepth 20000 in
theorem q_4_38 : (Cond.selects RX9 yX9_numberOf yX9_numberOf : Cond) ∈ lw_tbl := p_t4 (List.mem_of_getElem? (i := 38) rfl)
set_option maxRecDepth 20000 in
theorem q_4_37 : (Cond.instanceMethod yX9_numberOf : Cond) ∈ lw_tbl := p_t4 (List.mem_of_getElem? (i := 37) rfl)
set_option maxRecDepth 20000 in
theorem q_4_36 : (Cond.methodLink RX11 224 yX9_numberOf : Cond) ∈ lw_tbl := p_t4 (List.mem_of_getElem? (i := 36) rfl)
set_option maxRecDepth 20000 in
theorem q_4_33 : (Cond.selects RX9 yX9_build yX9_build : Cond) ∈ lw_tbl := p_t4 (List.mem_of_getElem? (i := 33) rfl)
set_option maxRecDepth 20000 in
theorem q_4_32 : (Cond.instanceMethod yX9_build : Cond) ∈ lw_tbl := p_t4 (List.mem_of_getElem? (i := 32) rfl)
set_option maxRecDepth 20000 in
theorem q_4_31 : (Cond.methodLink RX11 221 yX9_build : Cond) ∈ lw_tbl := p_t4 (List.mem_of_getElem? (i := 31) rfl)
set_option maxRecDepth 20000 in
theorem q_4_29 : (Cond.selects RX9 yX9_costAt yX9_costAt : Cond) ∈ lw_tbl := p_t4 (List.mem_of_getElem? (i := 29) rfl)
set_option maxRecDepth 20000 in
theorem q_4_28 : (Cond.instanceMethod yX9_costAt : Cond) ∈ lw_tbl := p_t4 (List.mem_of_getElem? (i := 28) rfl)
set_option maxRecDepth 20000 in
theorem q_4_27 : (Cond.methodLink RX11 218 yX9_costAt : Cond) ∈ lw_tbl := p_t4 (List.mem_of_getElem? (i := 27) rfl)
set_option maxRecDepth 20000 in
theorem q_4_25 : (Cond.selects RX9 yX9_cheapest yX9_cheapest : Cond) ∈ lw_tbl := p_t4 (List.mem_of_getElem? (i := 25) rfl)
set_option maxRecDepth 20000 in
theorem q_4_24 : (Cond.instanceMethod yX9_cheapest : Cond) ∈ lw_tbl := p_t4 (List.mem_of_getElem? (i := 24) rfl)
set_option maxRecDepth 20000 in
theorem q_4_23 : (Cond.methodLink RX11 215 yX9_cheapest : Cond) ∈ lw_tbl := p_t4 (List.mem_of_getElem? (i := 23) rfl)
set_option maxRecDepth 20000 in
theorem q_4_22 : (Cond.constant RX11 214 (100000) : Cond) ∈ lw_tbl := p_t4 (List.mem_of_getElem? (i := 22) rfl)
set_option maxRecDepth 20000 in
theorem q_4_26 : (Cond.code yX9_cheapest cX9_cheapest 3 (some .int) : Cond) ∈ lw_tbl := p_t4 (List.mem_of_getElem? (i := 26) rfl)
set_option maxRecDepth 20000 in
theorem q_4_30 : (Cond.code yX9_costAt cX9_costAt 2 (some .int) : Cond) ∈ lw_tbl := p_t4 (List.mem_of_getElem? (i := 30) rfl)
set_option maxRecDepth 20000 in
theorem q_4_34 : (Cond.code yX9_build cX9_build 6 (some .boolean) : Cond) ∈ lw_tbl := p_t4 (List.mem_of_getElem? (i := 34) rfl)
set_option maxRecDepth 20000 in
theorem q_4_35 : (Cond.methodLink RX9 88 yX5_takeAll : Cond) ∈ lw_tbl := p_t4 (List.mem_of_getElem? (i := 35) rfl)
set_option maxRecDepth 20000 in
theorem q_4_39 : (Cond.code yX9_numberOf cX9_numberOf 4 (some .int) : Cond) ∈ lw_tbl := p_t4 (List.mem_of_getElem? (i := 39) rfl)
set_option maxRecDepth 20000 in
theorem q_6_93 : (Cond.selects RX12 yX12_mend yX12_mend : Cond) ∈ lw_tbl := p_t6 (List.mem_of_getElem? (i := 93) rfl)
set_option maxRecDepth 20000 in
theorem q_6_92 : (Cond.instanceMethod yX12_mend : Cond) ∈ lw_tbl := p_t6 (List.mem_of_getElem? (i := 92) rfl)
set_option maxRecDepth 20000 in
theorem q_6_91 : (Cond.methodLink RL 117 yX12_mend : Cond) ∈ lw_tbl := p_t6 (List.mem_of_getElem? (i := 91) rfl)
set_option maxRecDepth 20000 in
theorem q_6_94 : (Cond.code yX12_mend cX12_mend 12 (some .int) : Cond) ∈ lw_tbl := p_t6 (List.mem_of_getElem? (i := 94) rfl)
set_option maxRecDepth 20000 in
theorem q_6_95 : (Cond.constant RX12 198 (100000) : Cond) ∈ lw_tbl := p_t6 (List.mem_of_getElem? (i := 95) rfl)
set_option maxRecDepth 20000 in
theorem q_4_42 : (Cond.selects RX11 yX11_parts yX11_parts : Cond) ∈ lw_tbl := p_t4 (List.mem_of_getElem? (i := 42) rfl)
set_option maxRecDepth 20000 in
theorem q_4_41 : (Cond.instanceMethod yX11_parts : Cond) ∈ lw_tbl := p_t4 (List.mem_of_getElem? (i := 41) rfl)
set_option maxRecDepth 20000 in
theorem q_4_40 : (Cond.methodLink RL 118 yX11_parts : Cond) ∈ lw_tbl := p_t4 (List.mem_of_getElem? (i := 40) rfl)
set_option maxRecDepth 20000 in
theorem q_4_43 : (Cond.code yX11_parts cX11_parts 3 (some .int) : Cond) ∈ lw_tbl := p_t4 (List.mem_of_getElem? (i := 43) rfl)
set_option maxRecDepth 20000 in
theorem q_4_119 : (Cond.selects RX6 yX6_spans yX6_spans : Cond) ∈ lw_tbl := p_t4 (List.mem_of_getElem? (i := 119) rfl)
set_option maxRecDepth 20000 in
theorem q_4_118 : (Cond.instanceMethod yX6_spans : Cond) ∈ lw_tbl := p_t4 (List.mem_of_getElem? (i := 118) rfl)
set_option maxRecDepth 20000 in
theorem q_4_117 : (Cond.methodLink RX11 233 yX6_spans : Cond) ∈ lw_tbl := p_t4 (List.mem_of_getElem? (i := 117) rfl)
set_option maxRecDepth 20000 in
theorem q_4_110 : (Cond.selects RX6 yX6_build yX6_build : Cond) ∈ lw_tbl := p_t4 (List.mem_of_getElem? (i := 110) rfl)
set_option maxRecDepth 20000 in
theorem q_4_109 : (Cond.instanceMethod yX6_build : Cond) ∈ lw_tbl := p_t4 (List.mem_of_getElem? (i := 109) rfl)
set_option maxRecDepth 20000 in
theorem q_4_108 : (Cond.methodLink RX11 230 yX6_build : Cond) ∈ lw_tbl := p_t4 (List.mem_of_getElem? (i := 108) rfl)
set_option maxRecDepth 20000 in
theorem q_1_12 : (Cond.initialized RX6 : Cond) ∈ lw_tbl := p_t1 (List.mem_of_getElem? (i := 12) rfl)
set_option maxRecDepth 20000 in
theorem q_4_46 : (Cond.selects RX6 yX6_find yX6_find : Cond) ∈ lw_tbl := p_t4 (List.mem_of_getElem? (i := 46) rfl)
set_option maxRecDepth 20000 in
theorem q_4_45 : (Cond.instanceMethod yX6_find : Cond) ∈ lw_tbl := p_t4 (List.mem_of_getElem? (i := 45) rfl)
set_option maxRecDepth 20000 in
theorem q_4_44 : (Cond.methodLink RX11 227 yX6_find : Cond) ∈ lw_tbl := p_t4 (List.mem_of_getElem? (i := 44) rfl)
set_option maxRecDepth 20000 in
theorem q_2_110 : (Cond.fieldLink RX11 77 "TextMender" "parting" "LTextMender$Parting;" : Cond) ∈ lw_tbl := p_t2 (List.mem_of_getElem? (i := 110) rfl)
set_option maxRecDepth 20000 in
theorem q_2_5 : (Cond.laysFinal RX6 "TextMender$Parting" "codes" "LTextMender$Codes;" : Cond) ∈ lw_tbl := p_t2 (List.mem_of_getElem? (i := 5) rfl)
set_option maxRecDepth 20000 in
theorem q_2_7 : (Cond.laysFinal RX6 "TextMender$Parting" "harms" "LTextMender$Harms;" : Cond) ∈ lw_tbl := p_t2 (List.mem_of_getElem? (i := 7) rfl)
set_option maxRecDepth 20000 in
theorem q_2_9 : (Cond.laysFinal RX6 "TextMender$Parting" "costs" "LTextMender$Costs;" : Cond) ∈ lw_tbl := p_t2 (List.mem_of_getElem? (i := 9) rfl)
set_option maxRecDepth 20000 in
theorem q_2_11 : (Cond.laysFinal RX6 "TextMender$Parting" "reading" "LTextMender$Reading;" : Cond) ∈ lw_tbl := p_t2 (List.mem_of_getElem? (i := 11) rfl)
set_option maxRecDepth 20000 in
theorem q_2_13 : (Cond.laysFinal RX6 "TextMender$Parting" "bytes" "LTextMender$Numbers;" : Cond) ∈ lw_tbl := p_t2 (List.mem_of_getElem? (i := 13) rfl)
set_option maxRecDepth 20000 in
theorem q_2_15 : (Cond.laysFinal RX6 "TextMender$Parting" "part" "LTextMender$Numbers;" : Cond) ∈ lw_tbl := p_t2 (List.mem_of_getElem? (i := 15) rfl)
set_option maxRecDepth 20000 in
theorem q_2_17 : (Cond.laysFinal RX6 "TextMender$Parting" "undone" "LTextMender$Numbers;" : Cond) ∈ lw_tbl := p_t2 (List.mem_of_getElem? (i := 17) rfl)
set_option maxRecDepth 20000 in
theorem q_2_19 : (Cond.laysFinal RX6 "TextMender$Parting" "leastCost" "[I" : Cond) ∈ lw_tbl := p_t2 (List.mem_of_getElem? (i := 19) rfl)
set_option maxRecDepth 20000 in
theorem q_2_21 : (Cond.laysFinal RX6 "TextMender$Parting" "spansFrom" "[I" : Cond) ∈ lw_tbl := p_t2 (List.mem_of_getElem? (i := 21) rfl)
set_option maxRecDepth 20000 in
theorem q_2_23 : (Cond.laysFinal RX6 "TextMender$Parting" "endOf" "[I" : Cond) ∈ lw_tbl := p_t2 (List.mem_of_getElem? (i := 23) rfl)
set_option maxRecDepth 20000 in
theorem q_2_25 : (Cond.laysFinal RX6 "TextMender$Parting" "harmOf" "[I" : Cond) ∈ lw_tbl := p_t2 (List.mem_of_getElem? (i := 25) rfl)
set_option maxRecDepth 20000 in
theorem q_2_27 : (Cond.lays RX6 "TextMender$Parting" "price" "I" : Cond) ∈ lw_tbl := p_t2 (List.mem_of_getElem? (i := 27) rfl)
set_option maxRecDepth 20000 in
theorem q_1_220 : (Cond.laysFinal RX8 "TextMender$Reading" "codes" "LTextMender$Codes;" : Cond) ∈ lw_tbl := p_t1 (List.mem_of_getElem? (i := 220) rfl)
set_option maxRecDepth 20000 in
theorem q_1_222 : (Cond.laysFinal RX8 "TextMender$Reading" "costs" "LTextMender$Costs;" : Cond) ∈ lw_tbl := p_t1 (List.mem_of_getElem? (i := 222) rfl)
set_option maxRecDepth 20000 in
theorem q_1_224 : (Cond.lays RX8 "TextMender$Reading" "reached" "I" : Cond) ∈ lw_tbl := p_t1 (List.mem_of_getElem? (i := 224) rfl)
set_option maxRecDepth 20000 in
theorem q_1_226 : (Cond.lays RX8 "TextMender$Reading" "latest" "I" : Cond) ∈ lw_tbl := p_t1 (List.mem_of_getElem? (i := 226) rfl)
set_option maxRecDepth 20000 in
theorem q_1_228 : (Cond.lays RX8 "TextMender$Reading" "sum" "I" : Cond) ∈ lw_tbl := p_t1 (List.mem_of_getElem? (i := 228) rfl)
set_option maxRecDepth 20000 in
theorem q_1_230 : (Cond.lays RX8 "TextMender$Reading" "letters" "I" : Cond) ∈ lw_tbl := p_t1 (List.mem_of_getElem? (i := 230) rfl)
set_option maxRecDepth 20000 in
theorem q_4_47 : (Cond.code yX6_find cX6_find 6 none : Cond) ∈ lw_tbl := p_t4 (List.mem_of_getElem? (i := 47) rfl)
set_option maxRecDepth 20000 in
theorem q_k_13 : (Cond.selects RX6 yX6_tryUndone yX6_tryUndone : Cond) ∈ lw_tbl := p_tk (List.mem_of_getElem? (i := 13) rfl)
set_option maxRecDepth 20000 in
theorem q_4_67 : (Cond.instanceMethod yX6_tryUndone : Cond) ∈ lw_tbl := p_t4 (List.mem_of_getElem? (i := 67) rfl)
set_option maxRecDepth 20000 in
theorem q_4_65 : (Cond.methodLink RX6 81 yX6_tryUndone : Cond) ∈ lw_tbl := p_t4 (List.mem_of_getElem? (i := 65) rfl)
set_option maxRecDepth 20000 in
theorem q_4_64 : (Cond.methodLink RX6 78 yX4_length : Cond) ∈ lw_tbl := p_t4 (List.mem_of_getElem? (i := 64) rfl)
set_option maxRecDepth 20000 in
theorem q_k_10 : (Cond.selects RX6 yX6_tryAsItIs yX6_tryAsItIs : Cond) ∈ lw_tbl := p_tk (List.mem_of_getElem? (i := 10) rfl)
set_option maxRecDepth 20000 in
theorem q_4_52 : (Cond.instanceMethod yX6_tryAsItIs : Cond) ∈ lw_tbl := p_t4 (List.mem_of_getElem? (i := 52) rfl)
set_option maxRecDepth 20000 in
theorem q_4_50 : (Cond.methodLink RX6 74 yX6_tryAsItIs : Cond) ∈ lw_tbl := p_t4 (List.mem_of_getElem? (i := 50) rfl)
set_option maxRecDepth 20000 in
theorem q_4_48 : (Cond.methodLink RX6 64 yX5_length : Cond) ∈ lw_tbl := p_t4 (List.mem_of_getElem? (i := 48) rfl)
set_option maxRecDepth 20000 in
theorem q_1_234 : (Cond.fieldLink RX6 43 "TextMender$Parting" "harms" "LTextMender$Harms;" : Cond) ∈ lw_tbl := p_t1 (List.mem_of_getElem? (i := 234) rfl)
set_option maxRecDepth 20000 in
theorem q_2_1 : (Cond.fieldLink RX6 30 "TextMender$Parting" "spansFrom" "[I" : Cond) ∈ lw_tbl := p_t2 (List.mem_of_getElem? (i := 1) rfl)
set_option maxRecDepth 20000 in
theorem q_2_0 : (Cond.fieldLink RX6 26 "TextMender$Parting" "leastCost" "[I" : Cond) ∈ lw_tbl := p_t2 (List.mem_of_getElem? (i := 0) rfl)
set_option maxRecDepth 20000 in
theorem q_4_49 : (Cond.methodLink RX6 68 Lib.Math.min.name : Cond) ∈ lw_tbl := p_t4 (List.mem_of_getElem? (i := 49) rfl)
set_option maxRecDepth 20000 in
theorem q_2_4 : (Cond.fieldLink RX6 60 "TextMender$Parting" "price" "I" : Cond) ∈ lw_tbl := p_t2 (List.mem_of_getElem? (i := 4) rfl)
set_option maxRecDepth 20000 in
theorem q_4_53 : (Cond.code yX6_tryAsItIs cX6_tryAsItIs 8 none : Cond) ∈ lw_tbl := p_t4 (List.mem_of_getElem? (i := 53) rfl)
set_option maxRecDepth 20000 in
theorem q_k_11 : (Cond.selects RX6 yX6_offer yX6_offer : Cond) ∈ lw_tbl := p_tk (List.mem_of_getElem? (i := 11) rfl)
set_option maxRecDepth 20000 in
theorem q_4_58 : (Cond.instanceMethod yX6_offer : Cond) ∈ lw_tbl := p_t4 (List.mem_of_getElem? (i := 58) rfl)
set_option maxRecDepth 20000 in
theorem q_4_56 : (Cond.methodLink RX6 94 yX6_offer : Cond) ∈ lw_tbl := p_t4 (List.mem_of_getElem? (i := 56) rfl)
set_option maxRecDepth 20000 in
theorem q_4_55 : (Cond.methodLink RX6 89 yX3_of : Cond) ∈ lw_tbl := p_t4 (List.mem_of_getElem? (i := 55) rfl)
set_option maxRecDepth 20000 in
theorem q_4_54 : (Cond.methodLink RX6 85 yX5_get : Cond) ∈ lw_tbl := p_t4 (List.mem_of_getElem? (i := 54) rfl)
set_option maxRecDepth 20000 in
theorem q_1_235 : (Cond.fieldLink RX6 47 "TextMender$Parting" "costs" "LTextMender$Costs;" : Cond) ∈ lw_tbl := p_t1 (List.mem_of_getElem? (i := 235) rfl)
set_option maxRecDepth 20000 in
theorem q_4_59 : (Cond.code yX6_offer cX6_offer 7 none : Cond) ∈ lw_tbl := p_t4 (List.mem_of_getElem? (i := 59) rfl)
set_option maxRecDepth 20000 in
theorem q_k_12 : (Cond.selects RX6 yX6_isBetter yX6_isBetter : Cond) ∈ lw_tbl := p_tk (List.mem_of_getElem? (i := 12) rfl)
set_option maxRecDepth 20000 in
theorem q_4_62 : (Cond.instanceMethod yX6_isBetter : Cond) ∈ lw_tbl := p_t4 (List.mem_of_getElem? (i := 62) rfl)
set_option maxRecDepth 20000 in
theorem q_4_60 : (Cond.methodLink RX6 128 yX6_isBetter : Cond) ∈ lw_tbl := p_t4 (List.mem_of_getElem? (i := 60) rfl)
set_option maxRecDepth 20000 in
theorem q_2_3 : (Cond.fieldLink RX6 36 "TextMender$Parting" "harmOf" "[I" : Cond) ∈ lw_tbl := p_t2 (List.mem_of_getElem? (i := 3) rfl)
set_option maxRecDepth 20000 in
theorem q_2_2 : (Cond.fieldLink RX6 33 "TextMender$Parting" "endOf" "[I" : Cond) ∈ lw_tbl := p_t2 (List.mem_of_getElem? (i := 2) rfl)
set_option maxRecDepth 20000 in
theorem q_4_63 : (Cond.code yX6_isBetter cX6_isBetter 5 (some .boolean) : Cond) ∈ lw_tbl := p_t4 (List.mem_of_getElem? (i := 63) rfl)
set_option maxRecDepth 20000 in
theorem q_4_68 : (Cond.code yX6_tryUndone cX6_tryUndone 6 none : Cond) ∈ lw_tbl := p_t4 (List.mem_of_getElem? (i := 68) rfl)
set_option maxRecDepth 20000 in
theorem q_4_106 : (Cond.selects RX8 yX8_sumWith yX8_sumWith : Cond) ∈ lw_tbl := p_t4 (List.mem_of_getElem? (i := 106) rfl)
set_option maxRecDepth 20000 in
theorem q_4_105 : (Cond.instanceMethod yX8_sumWith : Cond) ∈ lw_tbl := p_t4 (List.mem_of_getElem? (i := 105) rfl)
set_option maxRecDepth 20000 in
theorem q_4_104 : (Cond.methodLink RX6 125 yX8_sumWith : Cond) ∈ lw_tbl := p_t4 (List.mem_of_getElem? (i := 104) rfl)
set_option maxRecDepth 20000 in
theorem q_4_102 : (Cond.selects RX8 yX8_reached yX8_reached : Cond) ∈ lw_tbl := p_t4 (List.mem_of_getElem? (i := 102) rfl)
set_option maxRecDepth 20000 in
theorem q_4_101 : (Cond.instanceMethod yX8_reached : Cond) ∈ lw_tbl := p_t4 (List.mem_of_getElem? (i := 101) rfl)
set_option maxRecDepth 20000 in
theorem q_4_100 : (Cond.methodLink RX6 122 yX8_reached : Cond) ∈ lw_tbl := p_t4 (List.mem_of_getElem? (i := 100) rfl)
set_option maxRecDepth 20000 in
theorem q_4_98 : (Cond.selects RX8 yX8_letters yX8_letters : Cond) ∈ lw_tbl := p_t4 (List.mem_of_getElem? (i := 98) rfl)
set_option maxRecDepth 20000 in
theorem q_4_97 : (Cond.instanceMethod yX8_letters : Cond) ∈ lw_tbl := p_t4 (List.mem_of_getElem? (i := 97) rfl)
set_option maxRecDepth 20000 in
theorem q_4_96 : (Cond.methodLink RX6 119 yX8_letters : Cond) ∈ lw_tbl := p_t4 (List.mem_of_getElem? (i := 96) rfl)
set_option maxRecDepth 20000 in
theorem q_4_85 : (Cond.selects RX8 yX8_goOn yX8_goOn : Cond) ∈ lw_tbl := p_t4 (List.mem_of_getElem? (i := 85) rfl)
set_option maxRecDepth 20000 in
theorem q_4_84 : (Cond.instanceMethod yX8_goOn : Cond) ∈ lw_tbl := p_t4 (List.mem_of_getElem? (i := 84) rfl)
set_option maxRecDepth 20000 in
theorem q_4_83 : (Cond.methodLink RX6 116 yX8_goOn : Cond) ∈ lw_tbl := p_t4 (List.mem_of_getElem? (i := 83) rfl)
set_option maxRecDepth 20000 in
theorem q_4_81 : (Cond.selects RX4 yX4_writtenIn yX4_writtenIn : Cond) ∈ lw_tbl := p_t4 (List.mem_of_getElem? (i := 81) rfl)
set_option maxRecDepth 20000 in
theorem q_4_80 : (Cond.instanceMethod yX4_writtenIn : Cond) ∈ lw_tbl := p_t4 (List.mem_of_getElem? (i := 80) rfl)
set_option maxRecDepth 20000 in
theorem q_4_79 : (Cond.methodLink RX6 113 yX4_writtenIn : Cond) ∈ lw_tbl := p_t4 (List.mem_of_getElem? (i := 79) rfl)
set_option maxRecDepth 20000 in
theorem q_4_78 : (Cond.methodLink RX6 107 yX2_encode : Cond) ∈ lw_tbl := p_t4 (List.mem_of_getElem? (i := 78) rfl)
set_option maxRecDepth 20000 in
theorem q_4_76 : (Cond.selects RX4 yX4_readIn yX4_readIn : Cond) ∈ lw_tbl := p_t4 (List.mem_of_getElem? (i := 76) rfl)
set_option maxRecDepth 20000 in
theorem q_4_75 : (Cond.instanceMethod yX4_readIn : Cond) ∈ lw_tbl := p_t4 (List.mem_of_getElem? (i := 75) rfl)
set_option maxRecDepth 20000 in
theorem q_4_74 : (Cond.methodLink RX6 104 yX4_readIn : Cond) ∈ lw_tbl := p_t4 (List.mem_of_getElem? (i := 74) rfl)
set_option maxRecDepth 20000 in
theorem q_4_73 : (Cond.methodLink RX6 101 yX5_cut : Cond) ∈ lw_tbl := p_t4 (List.mem_of_getElem? (i := 73) rfl)
set_option maxRecDepth 20000 in
theorem q_1_13 : (Cond.initialized RX8 : Cond) ∈ lw_tbl := p_t1 (List.mem_of_getElem? (i := 13) rfl)
set_option maxRecDepth 20000 in
theorem q_4_71 : (Cond.selects RX8 yX8_begin yX8_begin : Cond) ∈ lw_tbl := p_t4 (List.mem_of_getElem? (i := 71) rfl)
set_option maxRecDepth 20000 in
theorem q_4_70 : (Cond.instanceMethod yX8_begin : Cond) ∈ lw_tbl := p_t4 (List.mem_of_getElem? (i := 70) rfl)
set_option maxRecDepth 20000 in
theorem q_4_69 : (Cond.methodLink RX6 98 yX8_begin : Cond) ∈ lw_tbl := p_t4 (List.mem_of_getElem? (i := 69) rfl)
set_option maxRecDepth 20000 in
theorem q_1_233 : (Cond.fieldLink RX6 39 "TextMender$Parting" "codes" "LTextMender$Codes;" : Cond) ∈ lw_tbl := p_t1 (List.mem_of_getElem? (i := 233) rfl)
set_option maxRecDepth 20000 in
theorem q_1_237 : (Cond.fieldLink RX6 14 "TextMender$Parting" "bytes" "LTextMender$Numbers;" : Cond) ∈ lw_tbl := p_t1 (List.mem_of_getElem? (i := 237) rfl)
set_option maxRecDepth 20000 in
theorem q_1_236 : (Cond.fieldLink RX6 56 "TextMender$Parting" "reading" "LTextMender$Reading;" : Cond) ∈ lw_tbl := p_t1 (List.mem_of_getElem? (i := 236) rfl)
set_option maxRecDepth 20000 in
theorem q_4_72 : (Cond.code yX8_begin cX8_begin 1 none : Cond) ∈ lw_tbl := p_t4 (List.mem_of_getElem? (i := 72) rfl)
set_option maxRecDepth 20000 in
theorem q_1_219 : (Cond.fieldLink RX8 29 "TextMender$Reading" "letters" "I" : Cond) ∈ lw_tbl := p_t1 (List.mem_of_getElem? (i := 219) rfl)
set_option maxRecDepth 20000 in
theorem q_1_218 : (Cond.fieldLink RX8 26 "TextMender$Reading" "sum" "I" : Cond) ∈ lw_tbl := p_t1 (List.mem_of_getElem? (i := 218) rfl)
set_option maxRecDepth 20000 in
theorem q_1_217 : (Cond.fieldLink RX8 23 "TextMender$Reading" "latest" "I" : Cond) ∈ lw_tbl := p_t1 (List.mem_of_getElem? (i := 217) rfl)
set_option maxRecDepth 20000 in
theorem q_1_216 : (Cond.fieldLink RX8 19 "TextMender$Reading" "reached" "I" : Cond) ∈ lw_tbl := p_t1 (List.mem_of_getElem? (i := 216) rfl)
set_option maxRecDepth 20000 in
theorem q_4_77 : (Cond.code yX4_readIn cX4_readIn 2 (some .int) : Cond) ∈ lw_tbl := p_t4 (List.mem_of_getElem? (i := 77) rfl)
set_option maxRecDepth 20000 in
theorem q_4_82 : (Cond.code yX4_writtenIn cX4_writtenIn 2 (some .int) : Cond) ∈ lw_tbl := p_t4 (List.mem_of_getElem? (i := 82) rfl)
set_option maxRecDepth 20000 in
theorem q_4_86 : (Cond.code yX8_goOn cX8_goOn 6 none : Cond) ∈ lw_tbl := p_t4 (List.mem_of_getElem? (i := 86) rfl)
set_option maxRecDepth 20000 in
theorem q_4_89 : (Cond.selects RX8 yX8_step yX8_step : Cond) ∈ lw_tbl := p_t4 (List.mem_of_getElem? (i := 89) rfl)
set_option maxRecDepth 20000 in
theorem q_4_88 : (Cond.instanceMethod yX8_step : Cond) ∈ lw_tbl := p_t4 (List.mem_of_getElem? (i := 88) rfl)
set_option maxRecDepth 20000 in
theorem q_4_87 : (Cond.methodLink RX8 56 yX8_step : Cond) ∈ lw_tbl := p_t4 (List.mem_of_getElem? (i := 87) rfl)
set_option maxRecDepth 20000 in
theorem q_4_90 : (Cond.code yX8_step cX8_step 6 (some .boolean) : Cond) ∈ lw_tbl := p_t4 (List.mem_of_getElem? (i := 90) rfl)
set_option maxRecDepth 20000 in
theorem q_4_94 : (Cond.methodLink RX8 48 yX2_bytesIn : Cond) ∈ lw_tbl := p_t4 (List.mem_of_getElem? (i := 94) rfl)
set_option maxRecDepth 20000 in
theorem q_4_93 : (Cond.methodLink RX8 42 yX3_of : Cond) ∈ lw_tbl := p_t4 (List.mem_of_getElem? (i := 93) rfl)
set_option maxRecDepth 20000 in
theorem q_4_92 : (Cond.methodLink RX8 38 yX2_letterIn : Cond) ∈ lw_tbl := p_t4 (List.mem_of_getElem? (i := 92) rfl)
set_option maxRecDepth 20000 in
theorem q_4_91 : (Cond.methodLink RX8 32 yX2_decode : Cond) ∈ lw_tbl := p_t4 (List.mem_of_getElem? (i := 91) rfl)
set_option maxRecDepth 20000 in
theorem q_4_95 : (Cond.methodLink RX8 51 Lib.Math.max.name : Cond) ∈ lw_tbl := p_t4 (List.mem_of_getElem? (i := 95) rfl)
set_option maxRecDepth 20000 in
theorem q_1_215 : (Cond.fieldLink RX8 15 "TextMender$Reading" "costs" "LTextMender$Costs;" : Cond) ∈ lw_tbl := p_t1 (List.mem_of_getElem? (i := 215) rfl)
set_option maxRecDepth 20000 in
theorem q_1_214 : (Cond.fieldLink RX8 9 "TextMender$Reading" "codes" "LTextMender$Codes;" : Cond) ∈ lw_tbl := p_t1 (List.mem_of_getElem? (i := 214) rfl)
set_option maxRecDepth 20000 in
theorem q_4_99 : (Cond.code yX8_letters cX8_letters 1 (some .int) : Cond) ∈ lw_tbl := p_t4 (List.mem_of_getElem? (i := 99) rfl)
set_option maxRecDepth 20000 in
theorem q_4_103 : (Cond.code yX8_reached cX8_reached 1 (some .int) : Cond) ∈ lw_tbl := p_t4 (List.mem_of_getElem? (i := 103) rfl)
set_option maxRecDepth 20000 in
theorem q_4_107 : (Cond.code yX8_sumWith cX8_sumWith 2 (some .int) : Cond) ∈ lw_tbl := p_t4 (List.mem_of_getElem? (i := 107) rfl)
set_option maxRecDepth 20000 in
theorem q_4_111 : (Cond.code yX6_build cX6_build 6 (some .boolean) : Cond) ∈ lw_tbl := p_t4 (List.mem_of_getElem? (i := 111) rfl)
set_option maxRecDepth 20000 in
theorem q_4_115 : (Cond.methodLink RX6 144 yX5_addAll : Cond) ∈ lw_tbl := p_t4 (List.mem_of_getElem? (i := 115) rfl)
set_option maxRecDepth 20000 in
theorem q_4_114 : (Cond.methodLink RX6 140 yX4_takeOff : Cond) ∈ lw_tbl := p_t4 (List.mem_of_getElem? (i := 114) rfl)
set_option maxRecDepth 20000 in
theorem q_4_113 : (Cond.methodLink RX6 136 yX5_takeAll : Cond) ∈ lw_tbl := p_t4 (List.mem_of_getElem? (i := 113) rfl)
set_option maxRecDepth 20000 in
theorem q_4_112 : (Cond.methodLink RX6 132 yX5_add : Cond) ∈ lw_tbl := p_t4 (List.mem_of_getElem? (i := 112) rfl)
set_option maxRecDepth 20000 in
theorem q_4_116 : (Cond.methodLink RX6 147 Lib.Math.max.name : Cond) ∈ lw_tbl := p_t4 (List.mem_of_getElem? (i := 116) rfl)
set_option maxRecDepth 20000 in
theorem q_1_239 : (Cond.fieldLink RX6 23 "TextMender$Parting" "undone" "LTextMender$Numbers;" : Cond) ∈ lw_tbl := p_t1 (List.mem_of_getElem? (i := 239) rfl)
set_option maxRecDepth 20000 in
theorem q_1_238 : (Cond.fieldLink RX6 20 "TextMender$Parting" "part" "LTextMender$Numbers;" : Cond) ∈ lw_tbl := p_t1 (List.mem_of_getElem? (i := 238) rfl)
set_option maxRecDepth 20000 in
theorem q_4_120 : (Cond.code yX6_spans cX6_spans 1 (some .int) : Cond) ∈ lw_tbl := p_t4 (List.mem_of_getElem? (i := 120) rfl)
set_option maxRecDepth 20000 in
theorem q_6_98 : (Cond.selects RX12 yX12_parts yX12_parts : Cond) ∈ lw_tbl := p_t6 (List.mem_of_getElem? (i := 98) rfl)
set_option maxRecDepth 20000 in
theorem q_6_97 : (Cond.instanceMethod yX12_parts : Cond) ∈ lw_tbl := p_t6 (List.mem_of_getElem? (i := 97) rfl)
set_option maxRecDepth 20000 in
theorem q_6_96 : (Cond.methodLink RL 121 yX12_parts : Cond) ∈ lw_tbl := p_t6 (List.mem_of_getElem? (i := 96) rfl)
set_option maxRecDepth 20000 in
theorem q_6_99 : (Cond.code yX12_parts cX12_parts 8 (some .int) : Cond) ∈ lw_tbl := p_t6 (List.mem_of_getElem? (i := 99) rfl)
set_option maxRecDepth 20000 in
theorem q_k_35 : (Cond.selects RX12 yX12_takeSpan yX12_takeSpan : Cond) ∈ lw_tbl := p_tk (List.mem_of_getElem? (i := 35) rfl)
set_option maxRecDepth 20000 in
theorem q_6_102 : (Cond.instanceMethod yX12_takeSpan : Cond) ∈ lw_tbl := p_t6 (List.mem_of_getElem? (i := 102) rfl)
set_option maxRecDepth 20000 in
theorem q_6_100 : (Cond.methodLink RX12 199 yX12_takeSpan : Cond) ∈ lw_tbl := p_t6 (List.mem_of_getElem? (i := 100) rfl)
set_option maxRecDepth 20000 in
theorem q_5_81 : (Cond.fieldLink RX12 82 "TextMenderModel" "came2" "[I" : Cond) ∈ lw_tbl := p_t5 (List.mem_of_getElem? (i := 81) rfl)
set_option maxRecDepth 20000 in
theorem q_5_80 : (Cond.fieldLink RX12 79 "TextMenderModel" "restHarm" "[I" : Cond) ∈ lw_tbl := p_t5 (List.mem_of_getElem? (i := 80) rfl)
set_option maxRecDepth 20000 in
theorem q_5_79 : (Cond.fieldLink RX12 76 "TextMenderModel" "restEnd" "[I" : Cond) ∈ lw_tbl := p_t5 (List.mem_of_getElem? (i := 79) rfl)
set_option maxRecDepth 20000 in
theorem q_5_77 : (Cond.fieldLink RX12 70 "TextMenderModel" "restCost" "[I" : Cond) ∈ lw_tbl := p_t5 (List.mem_of_getElem? (i := 77) rfl)
set_option maxRecDepth 20000 in
theorem q_5_78 : (Cond.fieldLink RX12 73 "TextMenderModel" "restSpans" "[I" : Cond) ∈ lw_tbl := p_t5 (List.mem_of_getElem? (i := 78) rfl)
set_option maxRecDepth 20000 in
theorem q_6_103 : (Cond.code yX12_takeSpan cX12_takeSpan 5 (some .boolean) : Cond) ∈ lw_tbl := p_t6 (List.mem_of_getElem? (i := 103) rfl)
set_option maxRecDepth 20000 in
theorem q_4_123 : (Cond.selects RX11 yX11_choices yX11_choices : Cond) ∈ lw_tbl := p_t4 (List.mem_of_getElem? (i := 123) rfl)
set_option maxRecDepth 20000 in
theorem q_4_122 : (Cond.instanceMethod yX11_choices : Cond) ∈ lw_tbl := p_t4 (List.mem_of_getElem? (i := 122) rfl)
set_option maxRecDepth 20000 in
theorem q_4_121 : (Cond.methodLink RL 122 yX11_choices : Cond) ∈ lw_tbl := p_t4 (List.mem_of_getElem? (i := 121) rfl)
set_option maxRecDepth 20000 in
theorem q_4_124 : (Cond.code yX11_choices cX11_choices 5 (some .int) : Cond) ∈ lw_tbl := p_t4 (List.mem_of_getElem? (i := 124) rfl)
set_option maxRecDepth 20000 in
theorem q_4_137 : (Cond.selects RX1 yX1_find yX1_find : Cond) ∈ lw_tbl := p_t4 (List.mem_of_getElem? (i := 137) rfl)
set_option maxRecDepth 20000 in
theorem q_4_136 : (Cond.instanceMethod yX1_find : Cond) ∈ lw_tbl := p_t4 (List.mem_of_getElem? (i := 136) rfl)
set_option maxRecDepth 20000 in
theorem q_4_135 : (Cond.methodLink RX11 240 yX1_find : Cond) ∈ lw_tbl := p_t4 (List.mem_of_getElem? (i := 135) rfl)
set_option maxRecDepth 20000 in
theorem q_4_127 : (Cond.selects RX1 yX1_layOut yX1_layOut : Cond) ∈ lw_tbl := p_t4 (List.mem_of_getElem? (i := 127) rfl)
set_option maxRecDepth 20000 in
theorem q_4_126 : (Cond.instanceMethod yX1_layOut : Cond) ∈ lw_tbl := p_t4 (List.mem_of_getElem? (i := 126) rfl)
set_option maxRecDepth 20000 in
theorem q_4_125 : (Cond.methodLink RX11 236 yX1_layOut : Cond) ∈ lw_tbl := p_t4 (List.mem_of_getElem? (i := 125) rfl)
set_option maxRecDepth 20000 in
theorem q_4_128 : (Cond.code yX1_layOut cX1_layOut 4 (some .int) : Cond) ∈ lw_tbl := p_t4 (List.mem_of_getElem? (i := 128) rfl)
set_option maxRecDepth 20000 in
theorem q_4_134 : (Cond.methodLink RX1 104 yX2_encode : Cond) ∈ lw_tbl := p_t4 (List.mem_of_getElem? (i := 134) rfl)
set_option maxRecDepth 20000 in
theorem q_4_133 : (Cond.methodLink RX1 100 yX5_add : Cond) ∈ lw_tbl := p_t4 (List.mem_of_getElem? (i := 133) rfl)
set_option maxRecDepth 20000 in
theorem q_4_131 : (Cond.methodLink RX1 95 yX5_get : Cond) ∈ lw_tbl := p_t4 (List.mem_of_getElem? (i := 131) rfl)
set_option maxRecDepth 20000 in
theorem q_4_130 : (Cond.methodLink RX1 91 yX5_length : Cond) ∈ lw_tbl := p_t4 (List.mem_of_getElem? (i := 130) rfl)
set_option maxRecDepth 20000 in
theorem q_4_129 : (Cond.methodLink RX1 88 yX5_cut : Cond) ∈ lw_tbl := p_t4 (List.mem_of_getElem? (i := 129) rfl)
set_option maxRecDepth 20000 in
theorem q_2_40 : (Cond.fieldLink RX1 42 "TextMender$Choices" "codes" "LTextMender$Codes;" : Cond) ∈ lw_tbl := p_t2 (List.mem_of_getElem? (i := 40) rfl)
set_option maxRecDepth 20000 in
theorem q_4_132 : (Cond.constant RX1 99 (65533) : Cond) ∈ lw_tbl := p_t4 (List.mem_of_getElem? (i := 132) rfl)
set_option maxRecDepth 20000 in
theorem q_2_59 : (Cond.fieldLink RX1 85 "TextMender$Choices" "lastMark" "I" : Cond) ∈ lw_tbl := p_t2 (List.mem_of_getElem? (i := 59) rfl)
set_option maxRecDepth 20000 in
theorem q_2_58 : (Cond.fieldLink RX1 82 "TextMender$Choices" "firstMark" "I" : Cond) ∈ lw_tbl := p_t2 (List.mem_of_getElem? (i := 58) rfl)
set_option maxRecDepth 20000 in
theorem q_2_42 : (Cond.fieldLink RX1 16 "TextMender$Choices" "bytes" "LTextMender$Numbers;" : Cond) ∈ lw_tbl := p_t2 (List.mem_of_getElem? (i := 42) rfl)
set_option maxRecDepth 20000 in
theorem q_4_138 : (Cond.code yX1_find cX1_find 4 (some .int) : Cond) ∈ lw_tbl := p_t4 (List.mem_of_getElem? (i := 138) rfl)
set_option maxRecDepth 20000 in
theorem q_4_161 : (Cond.selects RX5 yX5_set yX5_set : Cond) ∈ lw_tbl := p_t4 (List.mem_of_getElem? (i := 161) rfl)
set_option maxRecDepth 20000 in
theorem q_4_160 : (Cond.instanceMethod yX5_set : Cond) ∈ lw_tbl := p_t4 (List.mem_of_getElem? (i := 160) rfl)
set_option maxRecDepth 20000 in
theorem q_4_159 : (Cond.methodLink RX1 131 yX5_set : Cond) ∈ lw_tbl := p_t4 (List.mem_of_getElem? (i := 159) rfl)
set_option maxRecDepth 20000 in
theorem q_4_158 : (Cond.methodLink RX1 127 yX2_letterAlone : Cond) ∈ lw_tbl := p_t4 (List.mem_of_getElem? (i := 158) rfl)
set_option maxRecDepth 20000 in
theorem q_k_15 : (Cond.selects RX1 yX1_tryLast yX1_tryLast : Cond) ∈ lw_tbl := p_tk (List.mem_of_getElem? (i := 15) rfl)
set_option maxRecDepth 20000 in
theorem q_4_156 : (Cond.instanceMethod yX1_tryLast : Cond) ∈ lw_tbl := p_t4 (List.mem_of_getElem? (i := 156) rfl)
set_option maxRecDepth 20000 in
theorem q_4_154 : (Cond.methodLink RX1 124 yX1_tryLast : Cond) ∈ lw_tbl := p_t4 (List.mem_of_getElem? (i := 154) rfl)
set_option maxRecDepth 20000 in
theorem q_4_152 : (Cond.selects RX8 yX8_takeAll yX8_takeAll : Cond) ∈ lw_tbl := p_t4 (List.mem_of_getElem? (i := 152) rfl)
set_option maxRecDepth 20000 in
theorem q_4_151 : (Cond.instanceMethod yX8_takeAll : Cond) ∈ lw_tbl := p_t4 (List.mem_of_getElem? (i := 151) rfl)
set_option maxRecDepth 20000 in
theorem q_4_150 : (Cond.methodLink RX1 120 yX8_takeAll : Cond) ∈ lw_tbl := p_t4 (List.mem_of_getElem? (i := 150) rfl)
set_option maxRecDepth 20000 in
theorem q_4_149 : (Cond.methodLink RX1 116 yX8_goOn : Cond) ∈ lw_tbl := p_t4 (List.mem_of_getElem? (i := 149) rfl)
set_option maxRecDepth 20000 in
theorem q_4_148 : (Cond.methodLink RX1 113 yX8_begin : Cond) ∈ lw_tbl := p_t4 (List.mem_of_getElem? (i := 148) rfl)
set_option maxRecDepth 20000 in
theorem q_k_14 : (Cond.selects RX1 yX1_findTails yX1_findTails : Cond) ∈ lw_tbl := p_tk (List.mem_of_getElem? (i := 14) rfl)
set_option maxRecDepth 20000 in
theorem q_4_141 : (Cond.instanceMethod yX1_findTails : Cond) ∈ lw_tbl := p_t4 (List.mem_of_getElem? (i := 141) rfl)
set_option maxRecDepth 20000 in
theorem q_4_139 : (Cond.methodLink RX1 110 yX1_findTails : Cond) ∈ lw_tbl := p_t4 (List.mem_of_getElem? (i := 139) rfl)
set_option maxRecDepth 20000 in
theorem q_2_47 : (Cond.fieldLink RX1 59 "TextMender$Choices" "middle" "LTextMender$Reading;" : Cond) ∈ lw_tbl := p_t2 (List.mem_of_getElem? (i := 47) rfl)
set_option maxRecDepth 20000 in
theorem q_2_46 : (Cond.fieldLink RX1 55 "TextMender$Choices" "head" "LTextMender$Reading;" : Cond) ∈ lw_tbl := p_t2 (List.mem_of_getElem? (i := 46) rfl)
set_option maxRecDepth 20000 in
theorem q_2_54 : (Cond.fieldLink RX1 69 "TextMender$Choices" "total" "I" : Cond) ∈ lw_tbl := p_t2 (List.mem_of_getElem? (i := 54) rfl)
set_option maxRecDepth 20000 in
theorem q_2_53 : (Cond.fieldLink RX1 65 "TextMender$Choices" "kept" "I" : Cond) ∈ lw_tbl := p_t2 (List.mem_of_getElem? (i := 53) rfl)
set_option maxRecDepth 20000 in
theorem q_2_57 : (Cond.fieldLink RX1 79 "TextMender$Choices" "readIn" "I" : Cond) ∈ lw_tbl := p_t2 (List.mem_of_getElem? (i := 57) rfl)
set_option maxRecDepth 20000 in
theorem q_2_56 : (Cond.fieldLink RX1 76 "TextMender$Choices" "writtenIn" "I" : Cond) ∈ lw_tbl := p_t2 (List.mem_of_getElem? (i := 56) rfl)
set_option maxRecDepth 20000 in
theorem q_4_142 : (Cond.code yX1_findTails cX1_findTails 5 none : Cond) ∈ lw_tbl := p_t4 (List.mem_of_getElem? (i := 142) rfl)
set_option maxRecDepth 20000 in
theorem q_4_147 : (Cond.methodLink RX1 150 yX3_of : Cond) ∈ lw_tbl := p_t4 (List.mem_of_getElem? (i := 147) rfl)
set_option maxRecDepth 20000 in
theorem q_4_146 : (Cond.methodLink RX1 147 yX2_letterIn : Cond) ∈ lw_tbl := p_t4 (List.mem_of_getElem? (i := 146) rfl)
set_option maxRecDepth 20000 in
theorem q_4_145 : (Cond.methodLink RX1 144 yX2_bytesIn : Cond) ∈ lw_tbl := p_t4 (List.mem_of_getElem? (i := 145) rfl)
set_option maxRecDepth 20000 in
theorem q_4_144 : (Cond.methodLink RX1 140 yX2_decode : Cond) ∈ lw_tbl := p_t4 (List.mem_of_getElem? (i := 144) rfl)
set_option maxRecDepth 20000 in
theorem q_2_41 : (Cond.fieldLink RX1 46 "TextMender$Choices" "costs" "LTextMender$Costs;" : Cond) ∈ lw_tbl := p_t2 (List.mem_of_getElem? (i := 41) rfl)
set_option maxRecDepth 20000 in
theorem q_2_45 : (Cond.fieldLink RX1 27 "TextMender$Choices" "tailLetters" "[I" : Cond) ∈ lw_tbl := p_t2 (List.mem_of_getElem? (i := 45) rfl)
set_option maxRecDepth 20000 in
theorem q_2_44 : (Cond.fieldLink RX1 24 "TextMender$Choices" "tailSum" "[I" : Cond) ∈ lw_tbl := p_t2 (List.mem_of_getElem? (i := 44) rfl)
set_option maxRecDepth 20000 in
theorem q_2_43 : (Cond.fieldLink RX1 20 "TextMender$Choices" "tailFirst" "[I" : Cond) ∈ lw_tbl := p_t2 (List.mem_of_getElem? (i := 43) rfl)
set_option maxRecDepth 20000 in
theorem q_4_143 : (Cond.methodLink RX1 135 Lib.Math.min.name : Cond) ∈ lw_tbl := p_t4 (List.mem_of_getElem? (i := 143) rfl)
set_option maxRecDepth 20000 in
theorem q_4_153 : (Cond.code yX8_takeAll cX8_takeAll 2 none : Cond) ∈ lw_tbl := p_t4 (List.mem_of_getElem? (i := 153) rfl)
set_option maxRecDepth 20000 in
theorem q_4_157 : (Cond.code yX1_tryLast cX1_tryLast 3 none : Cond) ∈ lw_tbl := p_t4 (List.mem_of_getElem? (i := 157) rfl)
set_option maxRecDepth 20000 in
theorem q_k_17 : (Cond.selects RX1 yX1_tryWhole yX1_tryWhole : Cond) ∈ lw_tbl := p_tk (List.mem_of_getElem? (i := 17) rfl)
set_option maxRecDepth 20000 in
theorem q_4_169 : (Cond.instanceMethod yX1_tryWhole : Cond) ∈ lw_tbl := p_t4 (List.mem_of_getElem? (i := 169) rfl)
set_option maxRecDepth 20000 in
theorem q_4_167 : (Cond.methodLink RX1 159 yX1_tryWhole : Cond) ∈ lw_tbl := p_t4 (List.mem_of_getElem? (i := 167) rfl)
set_option maxRecDepth 20000 in
theorem q_k_16 : (Cond.selects RX1 yX1_comesBack yX1_comesBack : Cond) ∈ lw_tbl := p_tk (List.mem_of_getElem? (i := 16) rfl)
set_option maxRecDepth 20000 in
theorem q_4_165 : (Cond.instanceMethod yX1_comesBack : Cond) ∈ lw_tbl := p_t4 (List.mem_of_getElem? (i := 165) rfl)
set_option maxRecDepth 20000 in
theorem q_4_163 : (Cond.methodLink RX1 155 yX1_comesBack : Cond) ∈ lw_tbl := p_t4 (List.mem_of_getElem? (i := 163) rfl)
set_option maxRecDepth 20000 in
theorem q_4_162 : (Cond.code yX5_set cX5_set 3 none : Cond) ∈ lw_tbl := p_t4 (List.mem_of_getElem? (i := 162) rfl)
set_option maxRecDepth 20000 in
theorem q_4_166 : (Cond.code yX1_comesBack cX1_comesBack 2 (some .boolean) : Cond) ∈ lw_tbl := p_t4 (List.mem_of_getElem? (i := 166) rfl)
set_option maxRecDepth 20000 in
theorem q_4_170 : (Cond.code yX1_tryWhole cX1_tryWhole 5 none : Cond) ∈ lw_tbl := p_t4 (List.mem_of_getElem? (i := 170) rfl)
set_option maxRecDepth 20000 in
theorem q_k_18 : (Cond.selects RX1 yX1_keep yX1_keep : Cond) ∈ lw_tbl := p_tk (List.mem_of_getElem? (i := 18) rfl)
set_option maxRecDepth 20000 in
theorem q_4_177 : (Cond.instanceMethod yX1_keep : Cond) ∈ lw_tbl := p_t4 (List.mem_of_getElem? (i := 177) rfl)
set_option maxRecDepth 20000 in
theorem q_4_175 : (Cond.methodLink RX1 175 yX1_keep : Cond) ∈ lw_tbl := p_t4 (List.mem_of_getElem? (i := 175) rfl)
set_option maxRecDepth 20000 in
theorem q_4_174 : (Cond.methodLink RX1 172 yX8_sumWith : Cond) ∈ lw_tbl := p_t4 (List.mem_of_getElem? (i := 174) rfl)
set_option maxRecDepth 20000 in
theorem q_4_173 : (Cond.methodLink RX1 169 yX8_letters : Cond) ∈ lw_tbl := p_t4 (List.mem_of_getElem? (i := 173) rfl)
set_option maxRecDepth 20000 in
theorem q_4_172 : (Cond.methodLink RX1 165 yX8_step : Cond) ∈ lw_tbl := p_t4 (List.mem_of_getElem? (i := 172) rfl)
set_option maxRecDepth 20000 in
theorem q_4_171 : (Cond.methodLink RX1 162 yX8_reached : Cond) ∈ lw_tbl := p_t4 (List.mem_of_getElem? (i := 171) rfl)
set_option maxRecDepth 20000 in
theorem q_2_48 : (Cond.fieldLink RX1 62 "TextMender$Choices" "whole" "LTextMender$Reading;" : Cond) ∈ lw_tbl := p_t2 (List.mem_of_getElem? (i := 48) rfl)
set_option maxRecDepth 20000 in
theorem q_4_178 : (Cond.code yX1_keep cX1_keep 6 none : Cond) ∈ lw_tbl := p_t4 (List.mem_of_getElem? (i := 178) rfl)
set_option maxRecDepth 20000 in
theorem q_2_52 : (Cond.fieldLink RX1 39 "TextMender$Choices" "lengthOf" "[I" : Cond) ∈ lw_tbl := p_t2 (List.mem_of_getElem? (i := 52) rfl)
set_option maxRecDepth 20000 in
theorem q_2_50 : (Cond.fieldLink RX1 33 "TextMender$Choices" "secondByte" "[I" : Cond) ∈ lw_tbl := p_t2 (List.mem_of_getElem? (i := 50) rfl)
set_option maxRecDepth 20000 in
theorem q_2_49 : (Cond.fieldLink RX1 30 "TextMender$Choices" "firstByte" "[I" : Cond) ∈ lw_tbl := p_t2 (List.mem_of_getElem? (i := 49) rfl)
set_option maxRecDepth 20000 in
theorem q_2_51 : (Cond.fieldLink RX1 36 "TextMender$Choices" "costOf" "[I" : Cond) ∈ lw_tbl := p_t2 (List.mem_of_getElem? (i := 51) rfl)
set_option maxRecDepth 20000 in
theorem q_6_106 : (Cond.selects RX12 yX12_choices yX12_choices : Cond) ∈ lw_tbl := p_t6 (List.mem_of_getElem? (i := 106) rfl)
set_option maxRecDepth 20000 in
theorem q_6_105 : (Cond.instanceMethod yX12_choices : Cond) ∈ lw_tbl := p_t6 (List.mem_of_getElem? (i := 105) rfl)
set_option maxRecDepth 20000 in
theorem q_6_104 : (Cond.methodLink RL 125 yX12_choices : Cond) ∈ lw_tbl := p_t6 (List.mem_of_getElem? (i := 104) rfl)
set_option maxRecDepth 20000 in
theorem q_6_107 : (Cond.code yX12_choices cX12_choices 11 (some .int) : Cond) ∈ lw_tbl := p_t6 (List.mem_of_getElem? (i := 107) rfl)
set_option maxRecDepth 20000 in
theorem q_k_38 : (Cond.selects RX12 yX12_isChoice yX12_isChoice : Cond) ∈ lw_tbl := p_tk (List.mem_of_getElem? (i := 38) rfl)
set_option maxRecDepth 20000 in
theorem q_6_118 : (Cond.instanceMethod yX12_isChoice : Cond) ∈ lw_tbl := p_t6 (List.mem_of_getElem? (i := 118) rfl)
set_option maxRecDepth 20000 in
theorem q_6_116 : (Cond.methodLink RX12 209 yX12_isChoice : Cond) ∈ lw_tbl := p_t6 (List.mem_of_getElem? (i := 116) rfl)
set_option maxRecDepth 20000 in
theorem q_k_37 : (Cond.selects RX12 yX12_isAlone yX12_isAlone : Cond) ∈ lw_tbl := p_tk (List.mem_of_getElem? (i := 37) rfl)
set_option maxRecDepth 20000 in
theorem q_6_114 : (Cond.instanceMethod yX12_isAlone : Cond) ∈ lw_tbl := p_t6 (List.mem_of_getElem? (i := 114) rfl)
set_option maxRecDepth 20000 in
theorem q_6_112 : (Cond.methodLink RX12 206 yX12_isAlone : Cond) ∈ lw_tbl := p_t6 (List.mem_of_getElem? (i := 112) rfl)
set_option maxRecDepth 20000 in
theorem q_k_36 : (Cond.selects RX12 yX12_writeWith yX12_writeWith : Cond) ∈ lw_tbl := p_tk (List.mem_of_getElem? (i := 36) rfl)
set_option maxRecDepth 20000 in
theorem q_6_110 : (Cond.instanceMethod yX12_writeWith : Cond) ∈ lw_tbl := p_t6 (List.mem_of_getElem? (i := 110) rfl)
set_option maxRecDepth 20000 in
theorem q_6_108 : (Cond.methodLink RX12 203 yX12_writeWith : Cond) ∈ lw_tbl := p_t6 (List.mem_of_getElem? (i := 108) rfl)
set_option maxRecDepth 20000 in
theorem q_5_65 : (Cond.fieldLink RX12 51 "TextMenderModel" "choiceState" "I" : Cond) ∈ lw_tbl := p_t5 (List.mem_of_getElem? (i := 65) rfl)
set_option maxRecDepth 20000 in
theorem q_5_63 : (Cond.fieldLink RX12 219 "TextMenderModel" "choiceB" "I" : Cond) ∈ lw_tbl := p_t5 (List.mem_of_getElem? (i := 63) rfl)
set_option maxRecDepth 20000 in
theorem q_5_62 : (Cond.fieldLink RX12 216 "TextMenderModel" "choiceA" "I" : Cond) ∈ lw_tbl := p_t5 (List.mem_of_getElem? (i := 62) rfl)
set_option maxRecDepth 20000 in
theorem q_5_61 : (Cond.fieldLink RX12 213 "TextMenderModel" "choiceMany" "I" : Cond) ∈ lw_tbl := p_t5 (List.mem_of_getElem? (i := 61) rfl)
set_option maxRecDepth 20000 in
theorem q_5_60 : (Cond.fieldLink RX12 48 "TextMenderModel" "choices" "[I" : Cond) ∈ lw_tbl := p_t5 (List.mem_of_getElem? (i := 60) rfl)
set_option maxRecDepth 20000 in
theorem q_6_111 : (Cond.code yX12_writeWith cX12_writeWith 6 (some .boolean) : Cond) ∈ lw_tbl := p_t6 (List.mem_of_getElem? (i := 111) rfl)
set_option maxRecDepth 20000 in
theorem q_6_115 : (Cond.code yX12_isAlone cX12_isAlone 3 (some .boolean) : Cond) ∈ lw_tbl := p_t6 (List.mem_of_getElem? (i := 115) rfl)
set_option maxRecDepth 20000 in
theorem q_6_119 : (Cond.code yX12_isChoice cX12_isChoice 7 (some .boolean) : Cond) ∈ lw_tbl := p_t6 (List.mem_of_getElem? (i := 119) rfl)
set_option maxRecDepth 20000 in
theorem q_4_181 : (Cond.selects RX11 yX11_choice yX11_choice : Cond) ∈ lw_tbl := p_t4 (List.mem_of_getElem? (i := 181) rfl)
set_option maxRecDepth 20000 in
theorem q_4_180 : (Cond.instanceMethod yX11_choice : Cond) ∈ lw_tbl := p_t4 (List.mem_of_getElem? (i := 180) rfl)
set_option maxRecDepth 20000 in
theorem q_4_179 : (Cond.methodLink RL 126 yX11_choice : Cond) ∈ lw_tbl := p_t4 (List.mem_of_getElem? (i := 179) rfl)
set_option maxRecDepth 20000 in
theorem q_4_182 : (Cond.code yX11_choice cX11_choice 3 (some .int) : Cond) ∈ lw_tbl := p_t4 (List.mem_of_getElem? (i := 182) rfl)
set_option maxRecDepth 20000 in
theorem q_4_185 : (Cond.selects RX1 yX1_told yX1_told : Cond) ∈ lw_tbl := p_t4 (List.mem_of_getElem? (i := 185) rfl)
set_option maxRecDepth 20000 in
theorem q_4_184 : (Cond.instanceMethod yX1_told : Cond) ∈ lw_tbl := p_t4 (List.mem_of_getElem? (i := 184) rfl)
set_option maxRecDepth 20000 in
theorem q_4_183 : (Cond.methodLink RX11 242 yX1_told : Cond) ∈ lw_tbl := p_t4 (List.mem_of_getElem? (i := 183) rfl)
set_option maxRecDepth 20000 in
theorem q_4_186 : (Cond.code yX1_told cX1_told 3 (some .int) : Cond) ∈ lw_tbl := p_t4 (List.mem_of_getElem? (i := 186) rfl)
set_option maxRecDepth 20000 in
theorem q_6_122 : (Cond.selects RX12 yX12_choice yX12_choice : Cond) ∈ lw_tbl := p_t6 (List.mem_of_getElem? (i := 122) rfl)
set_option maxRecDepth 20000 in
theorem q_6_121 : (Cond.instanceMethod yX12_choice : Cond) ∈ lw_tbl := p_t6 (List.mem_of_getElem? (i := 121) rfl)
set_option maxRecDepth 20000 in
theorem q_6_120 : (Cond.methodLink RL 129 yX12_choice : Cond) ∈ lw_tbl := p_t6 (List.mem_of_getElem? (i := 120) rfl)
set_option maxRecDepth 20000 in
theorem q_6_123 : (Cond.code yX12_choice cX12_choice 3 (some .int) : Cond) ∈ lw_tbl := p_t6 (List.mem_of_getElem? (i := 123) rfl)
set_option maxRecDepth 20000 in
theorem q_k_39 : (Cond.selects RX12 yX12_isToldChoice yX12_isToldChoice : Cond) ∈ lw_tbl := p_tk (List.mem_of_getElem? (i := 39) rfl)
set_option maxRecDepth 20000 in
theorem q_6_126 : (Cond.instanceMethod yX12_isToldChoice : Cond) ∈ lw_tbl := p_t6 (List.mem_of_getElem? (i := 126) rfl)
set_option maxRecDepth 20000 in
theorem q_6_124 : (Cond.methodLink RX12 222 yX12_isToldChoice : Cond) ∈ lw_tbl := p_t6 (List.mem_of_getElem? (i := 124) rfl)
set_option maxRecDepth 20000 in
theorem q_6_127 : (Cond.code yX12_isToldChoice cX12_isToldChoice 2 (some .boolean) : Cond) ∈ lw_tbl := p_t6 (List.mem_of_getElem? (i := 127) rfl)
set_option maxRecDepth 20000 in
theorem q_4_189 : (Cond.selects RX11 yX11_chosen yX11_chosen : Cond) ∈ lw_tbl := p_t4 (List.mem_of_getElem? (i := 189) rfl)
set_option maxRecDepth 20000 in
theorem q_4_188 : (Cond.instanceMethod yX11_chosen : Cond) ∈ lw_tbl := p_t4 (List.mem_of_getElem? (i := 188) rfl)
set_option maxRecDepth 20000 in
theorem q_4_187 : (Cond.methodLink RL 130 yX11_chosen : Cond) ∈ lw_tbl := p_t4 (List.mem_of_getElem? (i := 187) rfl)
set_option maxRecDepth 20000 in
theorem q_4_190 : (Cond.code yX11_chosen cX11_chosen 2 (some .boolean) : Cond) ∈ lw_tbl := p_t4 (List.mem_of_getElem? (i := 190) rfl)
set_option maxRecDepth 20000 in
theorem q_4_197 : (Cond.selects RX1 yX1_build yX1_build : Cond) ∈ lw_tbl := p_t4 (List.mem_of_getElem? (i := 197) rfl)
set_option maxRecDepth 20000 in
theorem q_4_196 : (Cond.instanceMethod yX1_build : Cond) ∈ lw_tbl := p_t4 (List.mem_of_getElem? (i := 196) rfl)
set_option maxRecDepth 20000 in
theorem q_4_195 : (Cond.methodLink RX11 246 yX1_build : Cond) ∈ lw_tbl := p_t4 (List.mem_of_getElem? (i := 195) rfl)
set_option maxRecDepth 20000 in
theorem q_4_193 : (Cond.selects RX1 yX1_isFresh yX1_isFresh : Cond) ∈ lw_tbl := p_t4 (List.mem_of_getElem? (i := 193) rfl)
set_option maxRecDepth 20000 in
theorem q_4_192 : (Cond.instanceMethod yX1_isFresh : Cond) ∈ lw_tbl := p_t4 (List.mem_of_getElem? (i := 192) rfl)
set_option maxRecDepth 20000 in
theorem q_4_191 : (Cond.methodLink RX11 243 yX1_isFresh : Cond) ∈ lw_tbl := p_t4 (List.mem_of_getElem? (i := 191) rfl)
set_option maxRecDepth 20000 in
theorem q_4_194 : (Cond.code yX1_isFresh cX1_isFresh 2 (some .boolean) : Cond) ∈ lw_tbl := p_t4 (List.mem_of_getElem? (i := 194) rfl)
set_option maxRecDepth 20000 in
theorem q_4_198 : (Cond.code yX1_build cX1_build 5 (some .boolean) : Cond) ∈ lw_tbl := p_t4 (List.mem_of_getElem? (i := 198) rfl)
set_option maxRecDepth 20000 in
theorem q_4_200 : (Cond.methodLink RX1 183 yX7_readExactly : Cond) ∈ lw_tbl := p_t4 (List.mem_of_getElem? (i := 200) rfl)
set_option maxRecDepth 20000 in
theorem q_4_199 : (Cond.methodLink RX1 179 yX1_layOut : Cond) ∈ lw_tbl := p_t4 (List.mem_of_getElem? (i := 199) rfl)
set_option maxRecDepth 20000 in
theorem q_6_130 : (Cond.selects RX12 yX12_chosen yX12_chosen : Cond) ∈ lw_tbl := p_t6 (List.mem_of_getElem? (i := 130) rfl)
set_option maxRecDepth 20000 in
theorem q_6_129 : (Cond.instanceMethod yX12_chosen : Cond) ∈ lw_tbl := p_t6 (List.mem_of_getElem? (i := 129) rfl)
set_option maxRecDepth 20000 in
theorem q_6_128 : (Cond.methodLink RL 133 yX12_chosen : Cond) ∈ lw_tbl := p_t6 (List.mem_of_getElem? (i := 128) rfl)
set_option maxRecDepth 20000 in
theorem q_6_131 : (Cond.code yX12_chosen cX12_chosen 2 (some .boolean) : Cond) ∈ lw_tbl := p_t6 (List.mem_of_getElem? (i := 131) rfl)
set_option maxRecDepth 20000 in
theorem q_1_0 : (Cond.initialized RL : Cond) ∈ lw_tbl := p_t1 (List.mem_of_getElem? (i := 0) rfl)
set_option maxRecDepth 20000 in
theorem q_4_202 : (Cond.static yL_at : Cond) ∈ lw_tbl := p_t4 (List.mem_of_getElem? (i := 202) rfl)
set_option maxRecDepth 20000 in
theorem q_4_201 : (Cond.methodLink RL 50 yL_at : Cond) ∈ lw_tbl := p_t4 (List.mem_of_getElem? (i := 201) rfl)
set_option maxRecDepth 20000 in
theorem q_4_203 : (Cond.codeWith yL_at cL_at 4 (some .int) [(0, 9, 12, 13)] : Cond) ∈ lw_tbl := p_t4 (List.mem_of_getElem? (i := 203) rfl)
set_option maxRecDepth 20000 in
theorem q_1_20 : (Cond.initialized "java/util/NoSuchElementException" : Cond) ∈ lw_tbl := p_t1 (List.mem_of_getElem? (i := 20) rfl)
set_option maxRecDepth 20000 in
theorem q_4_209 : (Cond.classLink RX11 160 "java/util/NoSuchElementException" : Cond) ∈ lw_tbl := p_t4 (List.mem_of_getElem? (i := 209) rfl)
set_option maxRecDepth 20000 in
theorem q_4_208 : (Cond.code yX11_at cX11_at 2 (some .int) : Cond) ∈ lw_tbl := p_t4 (List.mem_of_getElem? (i := 208) rfl)
set_option maxRecDepth 20000 in
theorem q_4_207 : (Cond.selects RX11 yX11_at yX11_at : Cond) ∈ lw_tbl := p_t4 (List.mem_of_getElem? (i := 207) rfl)
set_option maxRecDepth 20000 in
theorem q_4_206 : (Cond.instanceMethod yX11_at : Cond) ∈ lw_tbl := p_t4 (List.mem_of_getElem? (i := 206) rfl)
set_option maxRecDepth 20000 in
theorem q_4_205 : (Cond.methodLink RL 7 yX11_at : Cond) ∈ lw_tbl := p_t4 (List.mem_of_getElem? (i := 205) rfl)
set_option maxRecDepth 20000 in
theorem q_4_204 : (Cond.classLink RL 13 "java/util/NoSuchElementException" : Cond) ∈ lw_tbl := p_t4 (List.mem_of_getElem? (i := 204) rfl)
set_option maxRecDepth 20000 in
theorem q_5_227 : (Cond.selects RX12 yX12_at yX12_at : Cond) ∈ lw_tbl := p_t5 (List.mem_of_getElem? (i := 227) rfl)
set_option maxRecDepth 20000 in
theorem q_5_226 : (Cond.instanceMethod yX12_at : Cond) ∈ lw_tbl := p_t5 (List.mem_of_getElem? (i := 226) rfl)
set_option maxRecDepth 20000 in
theorem q_5_225 : (Cond.methodLink RL 55 yX12_at : Cond) ∈ lw_tbl := p_t5 (List.mem_of_getElem? (i := 225) rfl)
set_option maxRecDepth 20000 in
theorem q_5_228 : (Cond.code yX12_at cX12_at 2 (some .int) : Cond) ∈ lw_tbl := p_t5 (List.mem_of_getElem? (i := 228) rfl)
set_option maxRecDepth 20000 in
theorem q_1_21 : (Cond.classLink RL 8 RX11 : Cond) ∈ lw_tbl := p_t1 (List.mem_of_getElem? (i := 21) rfl)
set_option maxRecDepth 20000 in
theorem q_1_22 : (Cond.instantiable RX11 12 : Cond) ∈ lw_tbl := p_t1 (List.mem_of_getElem? (i := 22) rfl)
set_option maxRecDepth 20000 in
theorem q_1_25 : (Cond.code yX11_init cX11_init 5 none : Cond) ∈ lw_tbl := p_t1 (List.mem_of_getElem? (i := 25) rfl)
set_option maxRecDepth 20000 in
theorem q_2_33 : (Cond.instanceMethod yX1_init : Cond) ∈ lw_tbl := p_t2 (List.mem_of_getElem? (i := 33) rfl)
set_option maxRecDepth 20000 in
theorem q_2_32 : (Cond.methodLink RX11 83 yX1_init : Cond) ∈ lw_tbl := p_t2 (List.mem_of_getElem? (i := 32) rfl)
set_option maxRecDepth 20000 in
theorem q_1_203 : (Cond.instanceMethod yX6_init : Cond) ∈ lw_tbl := p_t1 (List.mem_of_getElem? (i := 203) rfl)
set_option maxRecDepth 20000 in
theorem q_1_202 : (Cond.methodLink RX11 74 yX6_init : Cond) ∈ lw_tbl := p_t1 (List.mem_of_getElem? (i := 202) rfl)
set_option maxRecDepth 20000 in
theorem q_1_157 : (Cond.instanceMethod yX9_init : Cond) ∈ lw_tbl := p_t1 (List.mem_of_getElem? (i := 157) rfl)
set_option maxRecDepth 20000 in
theorem q_1_156 : (Cond.methodLink RX11 65 yX9_init : Cond) ∈ lw_tbl := p_t1 (List.mem_of_getElem? (i := 156) rfl)
set_option maxRecDepth 20000 in
theorem q_1_138 : (Cond.instanceMethod yX0_init : Cond) ∈ lw_tbl := p_t1 (List.mem_of_getElem? (i := 138) rfl)
set_option maxRecDepth 20000 in
theorem q_1_137 : (Cond.methodLink RX11 58 yX0_init : Cond) ∈ lw_tbl := p_t1 (List.mem_of_getElem? (i := 137) rfl)
set_option maxRecDepth 20000 in
theorem q_1_134 : (Cond.methodLink RX11 27 yX5_init : Cond) ∈ lw_tbl := p_t1 (List.mem_of_getElem? (i := 134) rfl)
set_option maxRecDepth 20000 in
theorem q_1_119 : (Cond.instanceMethod yX3_init : Cond) ∈ lw_tbl := p_t1 (List.mem_of_getElem? (i := 119) rfl)
set_option maxRecDepth 20000 in
theorem q_1_118 : (Cond.methodLink RX11 22 yX3_init : Cond) ∈ lw_tbl := p_t1 (List.mem_of_getElem? (i := 118) rfl)
set_option maxRecDepth 20000 in
theorem q_1_100 : (Cond.instanceMethod yX4_init : Cond) ∈ lw_tbl := p_t1 (List.mem_of_getElem? (i := 100) rfl)
set_option maxRecDepth 20000 in
theorem q_1_99 : (Cond.methodLink RX11 17 yX4_init : Cond) ∈ lw_tbl := p_t1 (List.mem_of_getElem? (i := 99) rfl)
set_option maxRecDepth 20000 in
theorem q_1_74 : (Cond.instanceMethod yX5_init : Cond) ∈ lw_tbl := p_t1 (List.mem_of_getElem? (i := 74) rfl)
set_option maxRecDepth 20000 in
theorem q_1_68 : (Cond.instanceMethod yX7_init : Cond) ∈ lw_tbl := p_t1 (List.mem_of_getElem? (i := 68) rfl)
set_option maxRecDepth 20000 in
theorem q_1_67 : (Cond.methodLink RX11 12 yX7_init : Cond) ∈ lw_tbl := p_t1 (List.mem_of_getElem? (i := 67) rfl)
set_option maxRecDepth 20000 in
theorem q_1_32 : (Cond.instanceMethod yX2_init : Cond) ∈ lw_tbl := p_t1 (List.mem_of_getElem? (i := 32) rfl)
set_option maxRecDepth 20000 in
theorem q_2_31 : (Cond.instantiable RX1 20 : Cond) ∈ lw_tbl := p_t2 (List.mem_of_getElem? (i := 31) rfl)
set_option maxRecDepth 20000 in
theorem q_2_30 : (Cond.classLink RX11 81 RX1 : Cond) ∈ lw_tbl := p_t2 (List.mem_of_getElem? (i := 30) rfl)
set_option maxRecDepth 20000 in
theorem q_1_201 : (Cond.instantiable RX6 12 : Cond) ∈ lw_tbl := p_t1 (List.mem_of_getElem? (i := 201) rfl)
set_option maxRecDepth 20000 in
theorem q_1_200 : (Cond.classLink RX11 72 RX6 : Cond) ∈ lw_tbl := p_t1 (List.mem_of_getElem? (i := 200) rfl)
set_option maxRecDepth 20000 in
theorem q_1_155 : (Cond.instantiable RX9 12 : Cond) ∈ lw_tbl := p_t1 (List.mem_of_getElem? (i := 155) rfl)
set_option maxRecDepth 20000 in
theorem q_1_154 : (Cond.classLink RX11 63 RX9 : Cond) ∈ lw_tbl := p_t1 (List.mem_of_getElem? (i := 154) rfl)
set_option maxRecDepth 20000 in
theorem q_1_136 : (Cond.instantiable RX0 4 : Cond) ∈ lw_tbl := p_t1 (List.mem_of_getElem? (i := 136) rfl)
set_option maxRecDepth 20000 in
theorem q_1_135 : (Cond.classLink RX11 56 RX0 : Cond) ∈ lw_tbl := p_t1 (List.mem_of_getElem? (i := 135) rfl)
set_option maxRecDepth 20000 in
theorem q_1_72 : (Cond.instantiable RX5 2 : Cond) ∈ lw_tbl := p_t1 (List.mem_of_getElem? (i := 72) rfl)
set_option maxRecDepth 20000 in
theorem q_1_133 : (Cond.classLink RX11 23 RX5 : Cond) ∈ lw_tbl := p_t1 (List.mem_of_getElem? (i := 133) rfl)
set_option maxRecDepth 20000 in
theorem q_1_117 : (Cond.instantiable RX3 3 : Cond) ∈ lw_tbl := p_t1 (List.mem_of_getElem? (i := 117) rfl)
set_option maxRecDepth 20000 in
theorem q_1_116 : (Cond.classLink RX11 20 RX3 : Cond) ∈ lw_tbl := p_t1 (List.mem_of_getElem? (i := 116) rfl)
set_option maxRecDepth 20000 in
theorem q_1_98 : (Cond.instantiable RX4 4 : Cond) ∈ lw_tbl := p_t1 (List.mem_of_getElem? (i := 98) rfl)
set_option maxRecDepth 20000 in
theorem q_1_97 : (Cond.classLink RX11 15 RX4 : Cond) ∈ lw_tbl := p_t1 (List.mem_of_getElem? (i := 97) rfl)
set_option maxRecDepth 20000 in
theorem q_1_66 : (Cond.instantiable RX7 3 : Cond) ∈ lw_tbl := p_t1 (List.mem_of_getElem? (i := 66) rfl)
set_option maxRecDepth 20000 in
theorem q_1_65 : (Cond.classLink RX11 10 RX7 : Cond) ∈ lw_tbl := p_t1 (List.mem_of_getElem? (i := 65) rfl)
set_option maxRecDepth 20000 in
theorem q_1_30 : (Cond.instantiable RX2 2 : Cond) ∈ lw_tbl := p_t1 (List.mem_of_getElem? (i := 30) rfl)
set_option maxRecDepth 20000 in
theorem q_1_29 : (Cond.classLink RX11 7 RX2 : Cond) ∈ lw_tbl := p_t1 (List.mem_of_getElem? (i := 29) rfl)
set_option maxRecDepth 20000 in
theorem q_1_28 : (Cond.code objectInit ⟨#[0xb1]⟩ 1 none : Cond) ∈ lw_tbl := p_t1 (List.mem_of_getElem? (i := 28) rfl)
set_option maxRecDepth 20000 in
theorem q_1_27 : (Cond.instanceMethod objectInit : Cond) ∈ lw_tbl := p_t1 (List.mem_of_getElem? (i := 27) rfl)
set_option maxRecDepth 20000 in
theorem q_1_26 : (Cond.methodLink RX11 1 objectInit : Cond) ∈ lw_tbl := p_t1 (List.mem_of_getElem? (i := 26) rfl)
set_option maxRecDepth 20000 in
theorem q_1_33 : (Cond.code yX2_init cX2_init 1 none : Cond) ∈ lw_tbl := p_t1 (List.mem_of_getElem? (i := 33) rfl)
set_option maxRecDepth 20000 in
theorem q_1_38 : (Cond.instanceMethod yX10_init : Cond) ∈ lw_tbl := p_t1 (List.mem_of_getElem? (i := 38) rfl)
set_option maxRecDepth 20000 in
theorem q_1_37 : (Cond.methodLink RX2 11 yX10_init : Cond) ∈ lw_tbl := p_t1 (List.mem_of_getElem? (i := 37) rfl)
set_option maxRecDepth 20000 in
theorem q_1_36 : (Cond.instantiable RX10 4 : Cond) ∈ lw_tbl := p_t1 (List.mem_of_getElem? (i := 36) rfl)
set_option maxRecDepth 20000 in
theorem q_1_35 : (Cond.classLink RX2 9 RX10 : Cond) ∈ lw_tbl := p_t1 (List.mem_of_getElem? (i := 35) rfl)
set_option maxRecDepth 20000 in
theorem q_1_34 : (Cond.methodLink RX2 3 objectInit : Cond) ∈ lw_tbl := p_t1 (List.mem_of_getElem? (i := 34) rfl)
set_option maxRecDepth 20000 in
theorem q_1_39 : (Cond.code yX10_init cX10_init 1 none : Cond) ∈ lw_tbl := p_t1 (List.mem_of_getElem? (i := 39) rfl)
set_option maxRecDepth 20000 in
theorem q_1_57 : (Cond.arrayClass .int : Cond) ∈ lw_tbl := p_t1 (List.mem_of_getElem? (i := 57) rfl)
set_option maxRecDepth 20000 in
theorem q_1_40 : (Cond.methodLink RX10 3 objectInit : Cond) ∈ lw_tbl := p_t1 (List.mem_of_getElem? (i := 40) rfl)
set_option maxRecDepth 20000 in
theorem q_1_69 : (Cond.code yX7_init cX7_init 2 none : Cond) ∈ lw_tbl := p_t1 (List.mem_of_getElem? (i := 69) rfl)
set_option maxRecDepth 20000 in
theorem q_1_73 : (Cond.methodLink RX7 11 yX5_init : Cond) ∈ lw_tbl := p_t1 (List.mem_of_getElem? (i := 73) rfl)
set_option maxRecDepth 20000 in
theorem q_1_71 : (Cond.classLink RX7 9 RX5 : Cond) ∈ lw_tbl := p_t1 (List.mem_of_getElem? (i := 71) rfl)
set_option maxRecDepth 20000 in
theorem q_1_70 : (Cond.methodLink RX7 3 objectInit : Cond) ∈ lw_tbl := p_t1 (List.mem_of_getElem? (i := 70) rfl)
set_option maxRecDepth 20000 in
theorem q_1_75 : (Cond.code yX5_init cX5_init 2 none : Cond) ∈ lw_tbl := p_t1 (List.mem_of_getElem? (i := 75) rfl)
set_option maxRecDepth 20000 in
theorem q_1_77 : (Cond.methodLink RX5 9 Lib.Math.max.name : Cond) ∈ lw_tbl := p_t1 (List.mem_of_getElem? (i := 77) rfl)
set_option maxRecDepth 20000 in
theorem q_1_76 : (Cond.methodLink RX5 3 objectInit : Cond) ∈ lw_tbl := p_t1 (List.mem_of_getElem? (i := 76) rfl)
set_option maxRecDepth 20000 in
theorem q_1_101 : (Cond.code yX4_init cX4_init 2 none : Cond) ∈ lw_tbl := p_t1 (List.mem_of_getElem? (i := 101) rfl)
set_option maxRecDepth 20000 in
theorem q_1_102 : (Cond.methodLink RX4 3 objectInit : Cond) ∈ lw_tbl := p_t1 (List.mem_of_getElem? (i := 102) rfl)
set_option maxRecDepth 20000 in
theorem q_1_120 : (Cond.code yX3_init cX3_init 1 none : Cond) ∈ lw_tbl := p_t1 (List.mem_of_getElem? (i := 120) rfl)
set_option maxRecDepth 20000 in
theorem q_1_122 : (Cond.methodLink RX3 18 yJ7_fill_53178 : Cond) ∈ lw_tbl := p_t1 (List.mem_of_getElem? (i := 122) rfl)
set_option maxRecDepth 20000 in
theorem q_1_121 : (Cond.methodLink RX3 3 objectInit : Cond) ∈ lw_tbl := p_t1 (List.mem_of_getElem? (i := 121) rfl)
set_option maxRecDepth 20000 in
theorem q_1_139 : (Cond.code yX0_init cX0_init 1 none : Cond) ∈ lw_tbl := p_t1 (List.mem_of_getElem? (i := 139) rfl)
set_option maxRecDepth 20000 in
theorem q_1_140 : (Cond.methodLink RX0 3 objectInit : Cond) ∈ lw_tbl := p_t1 (List.mem_of_getElem? (i := 140) rfl)
set_option maxRecDepth 20000 in
theorem q_1_158 : (Cond.code yX9_init cX9_init 3 none : Cond) ∈ lw_tbl := p_t1 (List.mem_of_getElem? (i := 158) rfl)
set_option maxRecDepth 20000 in
theorem q_1_161 : (Cond.methodLink RX9 11 yX5_init : Cond) ∈ lw_tbl := p_t1 (List.mem_of_getElem? (i := 161) rfl)
set_option maxRecDepth 20000 in
theorem q_1_160 : (Cond.classLink RX9 9 RX5 : Cond) ∈ lw_tbl := p_t1 (List.mem_of_getElem? (i := 160) rfl)
set_option maxRecDepth 20000 in
theorem q_1_159 : (Cond.methodLink RX9 3 objectInit : Cond) ∈ lw_tbl := p_t1 (List.mem_of_getElem? (i := 159) rfl)
set_option maxRecDepth 20000 in
theorem q_1_204 : (Cond.code yX6_init cX6_init 4 none : Cond) ∈ lw_tbl := p_t1 (List.mem_of_getElem? (i := 204) rfl)
set_option maxRecDepth 20000 in
theorem q_1_211 : (Cond.instanceMethod yX8_init : Cond) ∈ lw_tbl := p_t1 (List.mem_of_getElem? (i := 211) rfl)
set_option maxRecDepth 20000 in
theorem q_1_210 : (Cond.methodLink RX6 53 yX8_init : Cond) ∈ lw_tbl := p_t1 (List.mem_of_getElem? (i := 210) rfl)
set_option maxRecDepth 20000 in
theorem q_1_207 : (Cond.methodLink RX6 11 yX5_init : Cond) ∈ lw_tbl := p_t1 (List.mem_of_getElem? (i := 207) rfl)
set_option maxRecDepth 20000 in
theorem q_1_209 : (Cond.instantiable RX8 6 : Cond) ∈ lw_tbl := p_t1 (List.mem_of_getElem? (i := 209) rfl)
set_option maxRecDepth 20000 in
theorem q_1_208 : (Cond.classLink RX6 51 RX8 : Cond) ∈ lw_tbl := p_t1 (List.mem_of_getElem? (i := 208) rfl)
set_option maxRecDepth 20000 in
theorem q_1_206 : (Cond.classLink RX6 9 RX5 : Cond) ∈ lw_tbl := p_t1 (List.mem_of_getElem? (i := 206) rfl)
set_option maxRecDepth 20000 in
theorem q_1_205 : (Cond.methodLink RX6 3 objectInit : Cond) ∈ lw_tbl := p_t1 (List.mem_of_getElem? (i := 205) rfl)
set_option maxRecDepth 20000 in
theorem q_1_212 : (Cond.code yX8_init cX8_init 3 none : Cond) ∈ lw_tbl := p_t1 (List.mem_of_getElem? (i := 212) rfl)
set_option maxRecDepth 20000 in
theorem q_1_213 : (Cond.methodLink RX8 3 objectInit : Cond) ∈ lw_tbl := p_t1 (List.mem_of_getElem? (i := 213) rfl)
set_option maxRecDepth 20000 in
theorem q_2_34 : (Cond.code yX1_init cX1_init 3 none : Cond) ∈ lw_tbl := p_t2 (List.mem_of_getElem? (i := 34) rfl)
set_option maxRecDepth 20000 in
theorem q_2_39 : (Cond.methodLink RX1 52 yX8_init : Cond) ∈ lw_tbl := p_t2 (List.mem_of_getElem? (i := 39) rfl)
set_option maxRecDepth 20000 in
theorem q_2_37 : (Cond.methodLink RX1 13 yX5_init : Cond) ∈ lw_tbl := p_t2 (List.mem_of_getElem? (i := 37) rfl)
set_option maxRecDepth 20000 in
theorem q_2_38 : (Cond.classLink RX1 50 RX8 : Cond) ∈ lw_tbl := p_t2 (List.mem_of_getElem? (i := 38) rfl)
set_option maxRecDepth 20000 in
theorem q_2_36 : (Cond.classLink RX1 9 RX5 : Cond) ∈ lw_tbl := p_t2 (List.mem_of_getElem? (i := 36) rfl)
set_option maxRecDepth 20000 in
theorem q_2_35 : (Cond.methodLink RX1 3 objectInit : Cond) ∈ lw_tbl := p_t2 (List.mem_of_getElem? (i := 35) rfl)
set_option maxRecDepth 20000 in
theorem q_1_23 : (Cond.methodLink RL 15 yX11_init : Cond) ∈ lw_tbl := p_t1 (List.mem_of_getElem? (i := 23) rfl)
set_option maxRecDepth 20000 in
theorem q_1_24 : (Cond.instanceMethod yX11_init : Cond) ∈ lw_tbl := p_t1 (List.mem_of_getElem? (i := 24) rfl)
set_option maxRecDepth 20000 in
theorem q_5_35 : (Cond.classLink RL 16 RX12 : Cond) ∈ lw_tbl := p_t5 (List.mem_of_getElem? (i := 35) rfl)
set_option maxRecDepth 20000 in
theorem q_5_36 : (Cond.instantiable RX12 40 : Cond) ∈ lw_tbl := p_t5 (List.mem_of_getElem? (i := 36) rfl)
set_option maxRecDepth 20000 in
theorem q_5_39 : (Cond.code yX12_init cX12_init 2 none : Cond) ∈ lw_tbl := p_t5 (List.mem_of_getElem? (i := 39) rfl)
set_option maxRecDepth 20000 in
theorem q_5_163 : (Cond.arrayClass .short : Cond) ∈ lw_tbl := p_t5 (List.mem_of_getElem? (i := 163) rfl)
set_option maxRecDepth 20000 in
theorem q_5_41 : (Cond.constant RX12 22 (131072) : Cond) ∈ lw_tbl := p_t5 (List.mem_of_getElem? (i := 41) rfl)
set_option maxRecDepth 20000 in
theorem q_5_40 : (Cond.methodLink RX12 1 objectInit : Cond) ∈ lw_tbl := p_t5 (List.mem_of_getElem? (i := 40) rfl)
set_option maxRecDepth 20000 in
theorem q_5_37 : (Cond.methodLink RL 18 yX12_init : Cond) ∈ lw_tbl := p_t5 (List.mem_of_getElem? (i := 37) rfl)
set_option maxRecDepth 20000 in
theorem q_5_38 : (Cond.instanceMethod yX12_init : Cond) ∈ lw_tbl := p_t5 (List.mem_of_getElem? (i := 38) rfl)
set_option maxRecDepth 20000 in
theorem q_6_132 : (Cond.arrayClass .long : Cond) ∈ lw_tbl := p_t6 (List.mem_of_getElem? (i := 132) rfl)
set_option maxRecDepth 20000 in
theorem q_5_8 : (Cond.stringRef RX11 162 "no such letter" : Cond) ∈ lw_tbl := p_t5 (List.mem_of_getElem? (i := 8) rfl)
set_option maxRecDepth 20000 in
theorem q_4_211 : (Cond.castable "java/util/NoSuchElementException" "java/util/NoSuchElementException" : Cond) ∈ lw_tbl := p_t4 (List.mem_of_getElem? (i := 211) rfl)
set_option maxRecDepth 20000 in
theorem q_4_213 : (Cond.declares ⟨"java/lang/RuntimeException", "<init>", "(Ljava/lang/String;)V"⟩ : Cond) ∈ lw_tbl := p_t4 (List.mem_of_getElem? (i := 213) rfl)
set_option maxRecDepth 20000 in
theorem q_4_215 : (Cond.declares ⟨"java/lang/Exception", "<init>", "(Ljava/lang/String;)V"⟩ : Cond) ∈ lw_tbl := p_t4 (List.mem_of_getElem? (i := 215) rfl)
set_option maxRecDepth 20000 in
theorem q_4_217 : (Cond.declares ⟨"java/lang/Throwable", "<init>", "(Ljava/lang/String;)V"⟩ : Cond) ∈ lw_tbl := p_t4 (List.mem_of_getElem? (i := 217) rfl)
set_option maxRecDepth 20000 in
theorem q_4_236 : (Cond.laysStatic Bundle.tN "UNASSIGNED_STACK" Bundle.steD : Cond) ∈ lw_tbl := p_t4 (List.mem_of_getElem? (i := 236) rfl)
set_option maxRecDepth 20000 in
theorem q_1_17 : (Cond.initialized Bundle.tN : Cond) ∈ lw_tbl := p_t1 (List.mem_of_getElem? (i := 17) rfl)
set_option maxRecDepth 20000 in
theorem q_4_238 : (Cond.laysStatic Bundle.tN "SUPPRESSED_SENTINEL" Bundle.listD : Cond) ∈ lw_tbl := p_t4 (List.mem_of_getElem? (i := 238) rfl)
set_option maxRecDepth 20000 in
theorem q_1_31 : (Cond.methodLinkNest RX11 9 yX2_init "TextMender" : Cond) ∈ lw_tbl := p_t1 (List.mem_of_getElem? (i := 31) rfl)
set_option maxRecDepth 20000 in
theorem inX11 : ∀ w ∈ wsX110, w ∈ lw_tbl := p_u (fun k hk => match k, hk with
  | 0, _ => q_2_113
  | 1, _ => q_2_115
  | 2, _ => q_2_117
  | 3, _ => q_2_119
  | 4, _ => q_2_121
  | 5, _ => q_2_123
  | 6, _ => q_2_125
  | 7, _ => q_2_127
  | 8, _ => q_2_129
  | 9, _ => q_2_131
  | 10, _ => q_2_133
  | 11, _ => q_2_135
  | k + 12, hk => absurd hk (by omega))
set_option maxRecDepth 20000 in
theorem inX5 : ∀ w ∈ wsX50, w ∈ lw_tbl := p_u (fun k hk => match k, hk with
  | 0, _ => q_1_82
  | 1, _ => q_1_84
  | k + 2, hk => absurd hk (by omega))
set_option maxRecDepth 20000 in
theorem mX5_length_in : ∀ w ∈ wsX5_length, w ∈ lw_tbl := by
  unfold wsX5_length
  exact p_c q_2_145 (p_a (p_c q_1_81 p_n) (inX5))
set_option maxRecDepth 20000 in
theorem mX5_add_in : ∀ w ∈ wsX5_add, w ∈ lw_tbl := by
  unfold wsX5_add
  exact p_c q_2_149 (p_a (p_c q_1_81 (p_c q_1_80 p_n)) (inX5))
set_option maxRecDepth 20000 in
theorem mX11_feed_in : ∀ w ∈ wsX11_feed, w ∈ lw_tbl := by
  unfold wsX11_feed
  exact p_c q_2_141 (p_a (p_a (p_a (p_a (p_c q_2_101 (p_c q_2_142 (p_c q_2_143 (p_c q_2_144 (p_c q_1_6 (p_c q_2_146 (p_c q_2_147 (p_c q_2_148 p_n)))))))) (inX11)) (inX5)) (mX5_length_in)) (mX5_add_in))
set_option maxRecDepth 20000 in
theorem inX12 : ∀ w ∈ wsX120, w ∈ lw_tbl := p_u (fun k hk => match k, hk with
  | 0, _ => q_5_82
  | 1, _ => q_5_84
  | 2, _ => q_5_86
  | 3, _ => q_5_88
  | 4, _ => q_5_90
  | 5, _ => q_5_92
  | 6, _ => q_5_94
  | 7, _ => q_5_96
  | 8, _ => q_5_98
  | 9, _ => q_5_100
  | 10, _ => q_5_102
  | 11, _ => q_5_104
  | 12, _ => q_5_106
  | 13, _ => q_5_108
  | 14, _ => q_5_110
  | 15, _ => q_5_112
  | 16, _ => q_5_114
  | 17, _ => q_5_116
  | 18, _ => q_5_118
  | 19, _ => q_5_120
  | 20, _ => q_5_122
  | 21, _ => q_5_124
  | 22, _ => q_5_126
  | 23, _ => q_5_128
  | 24, _ => q_5_130
  | 25, _ => q_5_132
  | 26, _ => q_5_134
  | 27, _ => q_5_136
  | 28, _ => q_5_138
  | 29, _ => q_5_140
  | 30, _ => q_5_142
  | 31, _ => q_5_144
  | 32, _ => q_5_146
  | 33, _ => q_5_148
  | 34, _ => q_5_150
  | 35, _ => q_5_152
  | 36, _ => q_5_154
  | 37, _ => q_5_156
  | 38, _ => q_5_158
  | 39, _ => q_5_160
  | k + 40, hk => absurd hk (by omega))
set_option maxRecDepth 20000 in
theorem mX12_feed_in : ∀ w ∈ wsX12_feed, w ∈ lw_tbl := by
  unfold wsX12_feed
  exact p_c q_5_167 (p_a (p_c q_5_67 (p_c q_5_43 (p_c q_5_42 p_n))) (inX12))
set_option maxRecDepth 20000 in
theorem mX5_cut_in : ∀ w ∈ wsX5_cut, w ∈ lw_tbl := by
  unfold wsX5_cut
  exact p_c q_2_157 (p_a (p_c q_1_81 p_n) (inX5))
set_option maxRecDepth 20000 in
theorem mX11_end_in : ∀ w ∈ wsX11_end, w ∈ lw_tbl := by
  unfold wsX11_end
  exact p_c q_2_153 (p_a (p_a (p_a (p_a (p_c q_2_101 (p_c q_2_142 (p_c q_2_143 (p_c q_2_144 (p_c q_1_6 (p_c q_2_154 (p_c q_2_155 (p_c q_2_156 p_n)))))))) (inX11)) (inX5)) (mX5_length_in)) (mX5_cut_in))
set_option maxRecDepth 20000 in
theorem mX12_end_in : ∀ w ∈ wsX12_end, w ∈ lw_tbl := by
  unfold wsX12_end
  exact p_c q_5_171 (p_a (p_c q_5_67 (p_c q_5_43 p_n)) (inX12))
set_option maxRecDepth 20000 in
theorem inX0 : ∀ w ∈ wsX00, w ∈ lw_tbl := p_u (fun k hk => match k, hk with
  | 0, _ => q_1_145
  | 1, _ => q_1_147
  | 2, _ => q_1_149
  | 3, _ => q_1_151
  | k + 4, hk => absurd hk (by omega))
set_option maxRecDepth 20000 in
theorem inX1 : ∀ w ∈ wsX10, w ∈ lw_tbl := p_u (fun k hk => match k, hk with
  | 0, _ => q_2_60
  | 1, _ => q_2_62
  | 2, _ => q_2_64
  | 3, _ => q_2_66
  | 4, _ => q_2_68
  | 5, _ => q_2_70
  | 6, _ => q_2_72
  | 7, _ => q_2_74
  | 8, _ => q_2_76
  | 9, _ => q_2_78
  | 10, _ => q_2_80
  | 11, _ => q_2_82
  | 12, _ => q_2_84
  | 13, _ => q_2_86
  | 14, _ => q_2_88
  | 15, _ => q_2_90
  | 16, _ => q_2_92
  | 17, _ => q_2_94
  | 18, _ => q_2_96
  | 19, _ => q_2_98
  | k + 20, hk => absurd hk (by omega))
set_option maxRecDepth 20000 in
theorem mX5_get_in : ∀ w ∈ wsX5_get, w ∈ lw_tbl := by
  unfold wsX5_get
  exact p_c q_2_169 (p_a (p_c q_1_81 (p_c q_1_80 p_n)) (inX5))
set_option maxRecDepth 20000 in
theorem mX11_isLetter_in : ∀ w ∈ wsX11_isLetter, w ∈ lw_tbl := by
  unfold wsX11_isLetter
  exact p_c q_2_172 (p_c q_2_173 (p_c q_2_174 (p_c q_2_175 p_n)))
set_option maxRecDepth 20000 in
theorem mX11_tapeHoldsLetters_in : ∀ w ∈ wsX11_tapeHoldsLetters, w ∈ lw_tbl := by
  unfold wsX11_tapeHoldsLetters
  exact p_c q_2_165 (p_a (p_a (p_a (p_a (p_a (p_c q_2_101 (p_c q_2_112 (p_c q_2_142 (p_c q_2_143 (p_c q_2_144 (p_c q_1_6 (p_c q_2_166 (p_c q_2_167 (p_c q_2_168 (p_c q_2_170 (p_c q_2_171 (p_c q_1_1 p_n)))))))))))) (inX11)) (inX5)) (mX5_length_in)) (mX5_get_in)) (mX11_isLetter_in))
set_option maxRecDepth 20000 in
theorem mX5_addAll_in : ∀ w ∈ wsX5_addAll, w ∈ lw_tbl := by
  unfold wsX5_addAll
  exact p_c q_2_183 (p_a (p_c q_1_81 (p_c q_1_80 (p_c q_2_184 (p_c q_2_186 (p_c q_2_185 (p_c q_1_16 p_n)))))) (inX5))
set_option maxRecDepth 20000 in
theorem mX5_takeAll_in : ∀ w ∈ wsX5_takeAll, w ∈ lw_tbl := by
  unfold wsX5_takeAll
  exact p_c q_2_179 (p_a (p_a (p_c q_1_81 (p_c q_2_180 (p_c q_2_181 (p_c q_2_182 (p_c q_1_6 p_n))))) (inX5)) (mX5_addAll_in))
set_option maxRecDepth 20000 in
theorem mX0_remember_in : ∀ w ∈ wsX0_remember, w ∈ lw_tbl := by
  unfold wsX0_remember
  exact p_c q_2_194 (p_a (p_a (p_a (p_a (p_c q_2_196 (p_c q_2_197 (p_c q_1_7 (p_c q_2_198 (p_c q_1_141 (p_c q_1_143 (p_c q_1_142 (p_c q_1_144 (p_c q_2_195 (p_c q_2_143 (p_c q_2_144 (p_c q_1_6 (p_c q_2_199 (p_c q_2_167 (p_c q_2_168 p_n))))))))))))))) (inX0)) (inX5)) (mX5_length_in)) (mX5_get_in))
set_option maxRecDepth 20000 in
theorem mX1_forgetFreshness_in : ∀ w ∈ wsX1_forgetFreshness, w ∈ lw_tbl := by
  unfold wsX1_forgetFreshness
  exact p_c q_2_203 (p_a (p_c q_2_55 p_n) (inX1))
set_option maxRecDepth 20000 in
theorem mX11_become_in : ∀ w ∈ wsX11_become, w ∈ lw_tbl := by
  unfold wsX11_become
  exact p_c q_2_190 (p_a (p_a (p_a (p_a (p_a (p_a (p_a (p_a (p_c q_2_108 (p_c q_2_102 (p_c q_2_111 (p_c q_2_191 (p_c q_2_192 (p_c q_2_193 (p_c q_1_10 (p_c q_2_143 (p_c q_2_144 (p_c q_1_6 (p_c q_2_176 (p_c q_2_177 (p_c q_2_178 (p_c q_2_200 (p_c q_2_201 (p_c q_2_202 (p_c q_1_14 (p_c q_2_142 p_n)))))))))))))))))) (inX11)) (inX0)) (inX5)) (inX1)) (mX0_remember_in)) (mX5_takeAll_in)) (mX1_forgetFreshness_in)) (mX5_length_in))
set_option maxRecDepth 20000 in
theorem mX11_text_in : ∀ w ∈ wsX11_text, w ∈ lw_tbl := by
  unfold wsX11_text
  exact p_c q_2_161 (p_a (p_a (p_a (p_a (p_a (p_a (p_a (p_a (p_a (p_c q_2_112 (p_c q_2_101 (p_c q_2_103 (p_c q_2_142 (p_c q_2_143 (p_c q_2_144 (p_c q_1_6 (p_c q_2_162 (p_c q_2_164 (p_c q_k_0 (p_c q_1_1 (p_c q_2_176 (p_c q_2_177 (p_c q_2_178 (p_c q_2_154 (p_c q_2_155 (p_c q_2_156 (p_c q_2_187 (p_c q_2_189 (p_c q_k_1 p_n)))))))))))))))))))) (inX11)) (inX5)) (inX0)) (inX1)) (mX5_length_in)) (mX11_tapeHoldsLetters_in)) (mX5_takeAll_in)) (mX5_cut_in)) (mX11_become_in))
set_option maxRecDepth 20000 in
theorem mX12_isLetter_in : ∀ w ∈ wsX12_isLetter, w ∈ lw_tbl := by
  unfold wsX12_isLetter
  exact p_c q_5_178 (p_c q_5_179 (p_c q_5_180 (p_c q_5_181 p_n)))
set_option maxRecDepth 20000 in
theorem mX12_become_in : ∀ w ∈ wsX12_become, w ∈ lw_tbl := by
  unfold wsX12_become
  exact p_c q_5_185 (p_a (p_c q_5_46 (p_c q_5_47 (p_c q_5_44 (p_c q_5_45 (p_c q_5_64 p_n))))) (inX12))
set_option maxRecDepth 20000 in
theorem mX12_text_in : ∀ w ∈ wsX12_text, w ∈ lw_tbl := by
  unfold wsX12_text
  exact p_c q_5_175 (p_a (p_a (p_a (p_c q_5_67 (p_c q_5_66 (p_c q_5_43 (p_c q_5_42 (p_c q_5_176 (p_c q_5_177 (p_c q_1_15 (p_c q_5_182 (p_c q_5_184 (p_c q_k_20 p_n)))))))))) (inX12)) (mX12_isLetter_in)) (mX12_become_in))
set_option maxRecDepth 20000 in
theorem inX7 : ∀ w ∈ wsX70, w ∈ lw_tbl := p_u (fun k hk => match k, hk with
  | 0, _ => q_1_90
  | 1, _ => q_1_92
  | 2, _ => q_1_94
  | k + 3, hk => absurd hk (by omega))
set_option maxRecDepth 20000 in
theorem inX2 : ∀ w ∈ wsX20, w ∈ lw_tbl := p_u (fun k hk => match k, hk with
  | 0, _ => q_1_60
  | 1, _ => q_1_62
  | k + 2, hk => absurd hk (by omega))
set_option maxRecDepth 20000 in
theorem inX10 : ∀ w ∈ wsX100, w ∈ lw_tbl := p_u (fun k hk => match k, hk with
  | 0, _ => q_1_48
  | 1, _ => q_1_50
  | 2, _ => q_1_52
  | 3, _ => q_1_54
  | k + 4, hk => absurd hk (by omega))
set_option maxRecDepth 20000 in
theorem mX2_known_in : ∀ w ∈ wsX2_known, w ∈ lw_tbl := by
  unfold wsX2_known
  exact p_c q_2_210 (p_n)
set_option maxRecDepth 20000 in
theorem mX11_tapeHoldsBytes_in : ∀ w ∈ wsX11_tapeHoldsBytes, w ∈ lw_tbl := by
  unfold wsX11_tapeHoldsBytes
  exact p_c q_2_214 (p_a (p_a (p_a (p_a (p_c q_2_101 (p_c q_2_112 (p_c q_2_142 (p_c q_2_143 (p_c q_2_144 (p_c q_1_6 (p_c q_2_166 (p_c q_2_167 (p_c q_2_168 p_n))))))))) (inX11)) (inX5)) (mX5_length_in)) (mX5_get_in))
set_option maxRecDepth 20000 in
theorem mX2_toldCode_in : ∀ w ∈ wsX2_toldCode, w ∈ lw_tbl := by
  unfold wsX2_toldCode
  exact p_c q_2_233 (p_a (p_c q_1_58 (p_c q_1_59 p_n)) (inX2))
set_option maxRecDepth 20000 in
theorem mX10_letterFor_in : ∀ w ∈ wsX10_letterFor, w ∈ lw_tbl := by
  unfold wsX10_letterFor
  exact p_c q_2_237 (p_a (p_c q_1_44 p_n) (inX10))
set_option maxRecDepth 20000 in
theorem mX2_letterAlone_in : ∀ w ∈ wsX2_letterAlone, w ∈ lw_tbl := by
  unfold wsX2_letterAlone
  exact p_c q_2_229 (p_a (p_a (p_a (p_a (p_c q_2_230 (p_c q_2_231 (p_c q_2_232 (p_c q_1_2 (p_c q_2_234 (p_c q_2_235 (p_c q_2_236 (p_c q_1_3 p_n)))))))) (inX2)) (inX10)) (mX2_toldCode_in)) (mX10_letterFor_in))
set_option maxRecDepth 20000 in
theorem mX2_found_in : ∀ w ∈ wsX2_found, w ∈ lw_tbl := by
  unfold wsX2_found
  exact p_c q_3_0 (p_n)
set_option maxRecDepth 20000 in
theorem mX2_decodeMany_in : ∀ w ∈ wsX2_decodeMany, w ∈ lw_tbl := by
  unfold wsX2_decodeMany
  exact p_c q_3_3 (p_a (p_a (p_a (p_a (p_c q_2_225 (p_c q_2_167 (p_c q_2_168 (p_c q_1_6 (p_c q_2_171 (p_c q_1_1 (p_c q_2_238 (p_c q_2_239 (p_c q_1_2 p_n))))))))) (inX5)) (mX5_get_in)) (mX11_isLetter_in)) (mX2_found_in))
set_option maxRecDepth 20000 in
theorem mX2_isNumbered_in : ∀ w ∈ wsX2_isNumbered, w ∈ lw_tbl := by
  unfold wsX2_isNumbered
  exact p_c q_3_10 (p_n)
set_option maxRecDepth 20000 in
theorem mX2_decodeNumber_in : ∀ w ∈ wsX2_decodeNumber, w ∈ lw_tbl := by
  unfold wsX2_decodeNumber
  exact p_c q_3_7 (p_a (p_a (p_a (p_a (p_a (p_c q_2_225 (p_c q_2_167 (p_c q_2_168 (p_c q_1_6 (p_c q_2_171 (p_c q_1_1 (p_c q_3_8 (p_c q_3_9 (p_c q_1_2 (p_c q_2_238 (p_c q_2_239 p_n))))))))))) (inX5)) (mX5_get_in)) (mX11_isLetter_in)) (mX2_isNumbered_in)) (mX2_found_in))
set_option maxRecDepth 20000 in
theorem mX2_decode_in : ∀ w ∈ wsX2_decode, w ∈ lw_tbl := by
  unfold wsX2_decode
  exact p_c q_2_224 (p_a (p_a (p_a (p_a (p_a (p_a (p_a (p_a (p_c q_2_225 (p_c q_2_167 (p_c q_2_168 (p_c q_1_6 (p_c q_2_226 (p_c q_2_227 (p_c q_2_228 (p_c q_1_2 (p_c q_2_238 (p_c q_2_239 (p_c q_3_1 (p_c q_3_2 (p_c q_3_5 (p_c q_3_6 p_n)))))))))))))) (inX5)) (inX2)) (inX10)) (mX5_get_in)) (mX2_letterAlone_in)) (mX2_found_in)) (mX2_decodeMany_in)) (mX2_decodeNumber_in))
set_option maxRecDepth 20000 in
theorem mX2_letterIn_in : ∀ w ∈ wsX2_letterIn, w ∈ lw_tbl := by
  unfold wsX2_letterIn
  exact p_c q_3_13 (p_n)
set_option maxRecDepth 20000 in
theorem mX2_bytesIn_in : ∀ w ∈ wsX2_bytesIn, w ∈ lw_tbl := by
  unfold wsX2_bytesIn
  exact p_c q_3_17 (p_n)
set_option maxRecDepth 20000 in
theorem mX7_readExactly_in : ∀ w ∈ wsX7_readExactly, w ∈ lw_tbl := by
  unfold wsX7_readExactly
  exact p_c q_2_218 (p_a (p_a (p_a (p_a (p_a (p_a (p_a (p_a (p_a (p_a (p_c q_1_89 (p_c q_1_87 (p_c q_3_18 (p_c q_1_78 (p_c q_1_7 (p_c q_1_79 (p_c q_2_219 (p_c q_2_155 (p_c q_2_156 (p_c q_1_6 (p_c q_2_220 (p_c q_2_143 (p_c q_2_144 (p_c q_2_221 (p_c q_2_222 (p_c q_2_223 (p_c q_1_2 (p_c q_3_11 (p_c q_3_12 (p_c q_3_14 (p_c q_2_147 (p_c q_2_148 (p_c q_3_15 (p_c q_3_16 p_n)))))))))))))))))))))))) (inX7)) (inX5)) (inX2)) (inX10)) (mX5_cut_in)) (mX5_length_in)) (mX2_decode_in)) (mX2_letterIn_in)) (mX5_add_in)) (mX2_bytesIn_in))
set_option maxRecDepth 20000 in
theorem mX7_fault_in : ∀ w ∈ wsX7_fault, w ∈ lw_tbl := by
  unfold wsX7_fault
  exact p_c q_3_22 (p_a (p_c q_1_89 p_n) (inX7))
set_option maxRecDepth 20000 in
theorem mX11_read_in : ∀ w ∈ wsX11_read, w ∈ lw_tbl := by
  unfold wsX11_read
  exact p_c q_2_207 (p_a (p_a (p_a (p_a (p_a (p_a (p_a (p_a (p_a (p_a (p_a (p_a (p_a (p_c q_2_112 (p_c q_2_105 (p_c q_2_101 (p_c q_2_103 (p_c q_2_208 (p_c q_2_209 (p_c q_1_2 (p_c q_2_211 (p_c q_2_213 (p_c q_k_2 (p_c q_1_1 (p_c q_1_6 (p_c q_2_215 (p_c q_2_216 (p_c q_2_217 (p_c q_1_5 (p_c q_2_155 (p_c q_2_156 (p_c q_3_19 (p_c q_3_20 (p_c q_3_21 (p_c q_2_154 (p_c q_2_187 (p_c q_2_189 (p_c q_k_1 p_n))))))))))))))))))))))))) (inX11)) (inX5)) (inX7)) (inX2)) (inX10)) (inX0)) (inX1)) (mX2_known_in)) (mX11_tapeHoldsBytes_in)) (mX7_readExactly_in)) (mX7_fault_in)) (mX5_cut_in)) (mX11_become_in))
set_option maxRecDepth 20000 in
theorem mX12_isCode_in : ∀ w ∈ wsX12_isCode, w ∈ lw_tbl := by
  unfold wsX12_isCode
  exact p_c q_5_192 (p_n)
set_option maxRecDepth 20000 in
theorem mX12_byteAt_in : ∀ w ∈ wsX12_byteAt, w ∈ lw_tbl := by
  unfold wsX12_byteAt
  exact p_c q_5_204 (p_a (p_c q_5_69 (p_c q_5_68 p_n)) (inX12))
set_option maxRecDepth 20000 in
theorem mX12_goesOn_in : ∀ w ∈ wsX12_goesOn, w ∈ lw_tbl := by
  unfold wsX12_goesOn
  exact p_c q_5_207 (p_n)
set_option maxRecDepth 20000 in
theorem mX12_readAt_in : ∀ w ∈ wsX12_readAt, w ∈ lw_tbl := by
  unfold wsX12_readAt
  exact p_c q_5_200 (p_a (p_a (p_a (p_a (p_c q_5_68 (p_c q_5_76 (p_c q_5_48 (p_c q_5_201 (p_c q_5_203 (p_c q_k_23 (p_c q_1_15 (p_c q_5_205 (p_c q_5_206 (p_c q_5_176 (p_c q_5_177 p_n))))))))))) (inX12)) (mX12_byteAt_in)) (mX12_goesOn_in)) (mX12_isLetter_in))
set_option maxRecDepth 20000 in
theorem mX12_read_in : ∀ w ∈ wsX12_read, w ∈ lw_tbl := by
  unfold wsX12_read
  exact p_c q_5_196 (p_a (p_a (p_c q_5_71 (p_c q_5_69 (p_c q_5_72 (p_c q_5_70 (p_c q_5_208 (p_c q_5_76 (p_c q_5_197 (p_c q_5_199 (p_c q_k_22 (p_c q_1_15 p_n)))))))))) (inX12)) (mX12_readAt_in))
set_option maxRecDepth 20000 in
theorem mX12_read__in : ∀ w ∈ wsX12_read_, w ∈ lw_tbl := by
  unfold wsX12_read_
  exact p_c q_5_189 (p_a (p_a (p_a (p_a (p_c q_5_67 (p_c q_5_66 (p_c q_5_43 (p_c q_5_42 (p_c q_5_68 (p_c q_5_69 (p_c q_5_72 (p_c q_5_71 (p_c q_5_70 (p_c q_5_190 (p_c q_5_191 (p_c q_1_15 (p_c q_5_193 (p_c q_5_195 (p_c q_k_21 (p_c q_5_182 (p_c q_5_184 (p_c q_k_20 p_n)))))))))))))))))) (inX12)) (mX12_isCode_in)) (mX12_read_in)) (mX12_become_in))
set_option maxRecDepth 20000 in
theorem mX10_placeFor_in : ∀ w ∈ wsX10_placeFor, w ∈ lw_tbl := by
  unfold wsX10_placeFor
  exact p_c q_3_41 (p_a (p_c q_3_42 (p_c q_1_46 (p_c q_1_45 p_n))) (inX10))
set_option maxRecDepth 20000 in
theorem mX10_byteFor_in : ∀ w ∈ wsX10_byteFor, w ∈ lw_tbl := by
  unfold wsX10_byteFor
  exact p_c q_3_37 (p_a (p_a (p_c q_1_46 (p_c q_3_38 (p_c q_3_40 (p_c q_k_3 (p_c q_1_3 p_n))))) (inX10)) (mX10_placeFor_in))
set_option maxRecDepth 20000 in
theorem mX10_canTake_in : ∀ w ∈ wsX10_canTake, w ∈ lw_tbl := by
  unfold wsX10_canTake
  exact p_c q_3_31 (p_a (p_a (p_a (p_a (p_c q_2_171 (p_c q_1_1 (p_c q_3_33 (p_c q_2_235 (p_c q_2_236 (p_c q_1_3 (p_c q_3_34 (p_c q_3_35 (p_c q_3_36 p_n))))))))) (inX10)) (mX11_isLetter_in)) (mX10_letterFor_in)) (mX10_byteFor_in))
set_option maxRecDepth 20000 in
theorem mX10_tell_in : ∀ w ∈ wsX10_tell, w ∈ lw_tbl := by
  unfold wsX10_tell
  exact p_c q_3_46 (p_a (p_a (p_c q_1_44 (p_c q_1_45 (p_c q_1_46 (p_c q_1_47 (p_c q_3_38 (p_c q_3_40 (p_c q_k_3 (p_c q_1_3 p_n)))))))) (inX10)) (mX10_placeFor_in))
set_option maxRecDepth 20000 in
theorem mX10_length_in : ∀ w ∈ wsX10_length, w ∈ lw_tbl := by
  unfold wsX10_length
  exact p_c q_3_50 (p_a (p_c q_1_47 p_n) (inX10))
set_option maxRecDepth 20000 in
theorem mX11_span_in : ∀ w ∈ wsX11_span, w ∈ lw_tbl := by
  unfold wsX11_span
  exact p_c q_3_26 (p_a (p_a (p_a (p_a (p_a (p_a (p_a (p_a (p_a (p_c q_2_112 (p_c q_2_104 (p_c q_2_111 (p_c q_3_27 (p_c q_2_231 (p_c q_2_232 (p_c q_1_2 (p_c q_3_28 (p_c q_3_29 (p_c q_3_30 (p_c q_1_3 (p_c q_3_43 (p_c q_3_44 (p_c q_3_45 (p_c q_2_200 (p_c q_2_201 (p_c q_2_202 (p_c q_1_14 (p_c q_3_47 (p_c q_3_48 (p_c q_3_49 p_n))))))))))))))))))))) (inX11)) (inX2)) (inX10)) (inX1)) (mX2_toldCode_in)) (mX10_canTake_in)) (mX10_tell_in)) (mX1_forgetFreshness_in)) (mX10_length_in))
set_option maxRecDepth 20000 in
theorem mX12_span_in : ∀ w ∈ wsX12_span, w ∈ lw_tbl := by
  unfold wsX12_span
  exact p_c q_5_212 (p_a (p_a (p_c q_5_67 (p_c q_5_66 (p_c q_5_48 (p_c q_5_49 (p_c q_5_179 (p_c q_5_50 (p_c q_5_64 (p_c q_5_176 (p_c q_5_177 (p_c q_1_15 p_n)))))))))) (inX12)) (mX12_isLetter_in))
set_option maxRecDepth 20000 in
theorem mJ7_fill_53178_in : ∀ w ∈ wsJ7_fill_53178, w ∈ lw_tbl := by
  unfold wsJ7_fill_53178
  exact p_c q_1_43 (p_n)
set_option maxRecDepth 20000 in
theorem mX10_empty_in : ∀ w ∈ wsX10_empty, w ∈ lw_tbl := by
  unfold wsX10_empty
  exact p_c q_3_58 (p_a (p_a (p_c q_1_44 (p_c q_1_46 (p_c q_1_47 (p_c q_1_41 (p_c q_1_42 (p_c q_1_4 p_n)))))) (inX10)) (mJ7_fill_53178_in))
set_option maxRecDepth 20000 in
theorem mX11_blank_in : ∀ w ∈ wsX11_blank, w ∈ lw_tbl := by
  unfold wsX11_blank
  exact p_c q_3_54 (p_a (p_a (p_a (p_a (p_a (p_a (p_a (p_c q_2_104 (p_c q_2_111 (p_c q_3_27 (p_c q_2_231 (p_c q_2_232 (p_c q_1_2 (p_c q_3_55 (p_c q_3_56 (p_c q_3_57 (p_c q_1_3 (p_c q_2_200 (p_c q_2_201 (p_c q_2_202 (p_c q_1_14 p_n)))))))))))))) (inX11)) (inX2)) (inX10)) (inX1)) (mX2_toldCode_in)) (mX10_empty_in)) (mX1_forgetFreshness_in))
set_option maxRecDepth 20000 in
theorem mX12_blank_in : ∀ w ∈ wsX12_blank, w ∈ lw_tbl := by
  unfold wsX12_blank
  exact p_c q_5_216 (p_a (p_c q_5_67 (p_c q_5_48 (p_c q_5_179 (p_c q_5_49 (p_c q_5_50 (p_c q_5_64 p_n)))))) (inX12))
set_option maxRecDepth 20000 in
theorem inX4 : ∀ w ∈ wsX40, w ∈ lw_tbl := p_u (fun k hk => match k, hk with
  | 0, _ => q_1_107
  | 1, _ => q_1_109
  | 2, _ => q_1_111
  | 3, _ => q_1_113
  | k + 4, hk => absurd hk (by omega))
set_option maxRecDepth 20000 in
theorem inX3 : ∀ w ∈ wsX30, w ∈ lw_tbl := p_u (fun k hk => match k, hk with
  | 0, _ => q_1_126
  | 1, _ => q_1_128
  | 2, _ => q_1_130
  | k + 3, hk => absurd hk (by omega))
set_option maxRecDepth 20000 in
theorem mX4_length_in : ∀ w ∈ wsX4_length, w ∈ lw_tbl := by
  unfold wsX4_length
  exact p_c q_3_66 (p_a (p_c q_1_106 p_n) (inX4))
set_option maxRecDepth 20000 in
theorem mX0_length_in : ∀ w ∈ wsX0_length, w ∈ lw_tbl := by
  unfold wsX0_length
  exact p_c q_3_70 (p_a (p_c q_1_144 p_n) (inX0))
set_option maxRecDepth 20000 in
theorem mX11_marksOf_in : ∀ w ∈ wsX11_marksOf, w ∈ lw_tbl := by
  unfold wsX11_marksOf
  exact p_c q_3_73 (p_a (p_a (p_a (p_c q_3_74 (p_c q_2_142 (p_c q_2_143 (p_c q_2_144 (p_c q_1_6 (p_c q_2_166 (p_c q_2_167 (p_c q_2_168 p_n)))))))) (inX5)) (mX5_length_in)) (mX5_get_in))
set_option maxRecDepth 20000 in
theorem mX3_length_in : ∀ w ∈ wsX3_length, w ∈ lw_tbl := by
  unfold wsX3_length
  exact p_c q_3_78 (p_a (p_c q_1_125 p_n) (inX3))
set_option maxRecDepth 20000 in
theorem mX2_lengthOf_in : ∀ w ∈ wsX2_lengthOf, w ∈ lw_tbl := by
  unfold wsX2_lengthOf
  exact p_c q_3_82 (p_a (p_a (p_a (p_a (p_c q_2_230 (p_c q_2_231 (p_c q_2_232 (p_c q_1_2 (p_c q_3_83 (p_c q_3_48 (p_c q_3_49 (p_c q_1_3 p_n)))))))) (inX2)) (inX10)) (mX2_toldCode_in)) (mX10_length_in))
set_option maxRecDepth 20000 in
theorem mX11_count_in : ∀ w ∈ wsX11_count, w ∈ lw_tbl := by
  unfold wsX11_count
  exact p_c q_3_62 (p_a (p_a (p_a (p_a (p_a (p_a (p_a (p_a (p_a (p_a (p_a (p_a (p_a (p_c q_2_102 (p_c q_2_101 (p_c q_2_106 (p_c q_2_108 (p_c q_2_107 (p_c q_2_104 (p_c q_2_142 (p_c q_2_143 (p_c q_2_144 (p_c q_1_6 (p_c q_3_63 (p_c q_3_64 (p_c q_3_65 (p_c q_1_8 (p_c q_3_67 (p_c q_3_68 (p_c q_3_69 (p_c q_1_10 (p_c q_3_71 (p_c q_3_72 (p_c q_1_1 (p_c q_3_75 (p_c q_3_76 (p_c q_3_77 (p_c q_1_9 (p_c q_3_79 (p_c q_3_80 (p_c q_3_81 (p_c q_1_2 p_n))))))))))))))))))))))))))))) (inX11)) (inX5)) (inX4)) (inX0)) (inX3)) (inX2)) (inX10)) (mX5_length_in)) (mX4_length_in)) (mX0_length_in)) (mX11_marksOf_in)) (mX3_length_in)) (mX2_lengthOf_in))
set_option maxRecDepth 20000 in
theorem mX12_marksOf_in : ∀ w ∈ wsX12_marksOf, w ∈ lw_tbl := by
  unfold wsX12_marksOf
  exact p_c q_5_224 (p_a (p_c q_5_44 (p_c q_5_45 (p_c q_5_208 p_n))) (inX12))
set_option maxRecDepth 20000 in
theorem mX12_count_in : ∀ w ∈ wsX12_count, w ∈ lw_tbl := by
  unfold wsX12_count
  exact p_c q_5_220 (p_a (p_a (p_c q_5_67 (p_c q_5_44 (p_c q_5_43 (p_c q_5_53 (p_c q_5_46 (p_c q_5_59 (p_c q_5_50 (p_c q_5_221 (p_c q_5_223 (p_c q_k_24 (p_c q_1_15 p_n))))))))))) (inX12)) (mX12_marksOf_in))
set_option maxRecDepth 20000 in
theorem mX2_encodeMany_in : ∀ w ∈ wsX2_encodeMany, w ∈ lw_tbl := by
  unfold wsX2_encodeMany
  exact p_c q_3_104 (p_a (p_a (p_c q_3_101 (p_c q_2_147 (p_c q_2_148 (p_c q_1_6 p_n)))) (inX5)) (mX5_add_in))
set_option maxRecDepth 20000 in
theorem mX2_encodeNumber_in : ∀ w ∈ wsX2_encodeNumber, w ∈ lw_tbl := by
  unfold wsX2_encodeNumber
  exact p_c q_3_107 (p_a (p_a (p_c q_3_101 (p_c q_2_147 (p_c q_2_148 (p_c q_1_6 p_n)))) (inX5)) (mX5_add_in))
set_option maxRecDepth 20000 in
theorem mX2_encode_in : ∀ w ∈ wsX2_encode, w ∈ lw_tbl := by
  unfold wsX2_encode
  exact p_c q_3_100 (p_a (p_a (p_a (p_a (p_a (p_a (p_a (p_a (p_a (p_c q_3_101 (p_c q_2_147 (p_c q_2_148 (p_c q_1_6 (p_c q_3_102 (p_c q_3_103 (p_c q_1_2 (p_c q_3_8 (p_c q_3_9 (p_c q_3_105 (p_c q_3_106 (p_c q_2_230 (p_c q_2_231 (p_c q_2_232 (p_c q_3_108 (p_c q_3_35 (p_c q_3_36 (p_c q_1_3 p_n)))))))))))))))))) (inX5)) (inX2)) (inX10)) (mX5_add_in)) (mX2_encodeMany_in)) (mX2_isNumbered_in)) (mX2_encodeNumber_in)) (mX2_toldCode_in)) (mX10_byteFor_in))
set_option maxRecDepth 20000 in
theorem mX7_write_in : ∀ w ∈ wsX7_write, w ∈ lw_tbl := by
  unfold wsX7_write
  exact p_c q_3_95 (p_a (p_a (p_a (p_a (p_a (p_a (p_a (p_a (p_c q_1_89 (p_c q_1_88 (p_c q_1_87 (p_c q_2_219 (p_c q_2_155 (p_c q_2_156 (p_c q_1_6 (p_c q_2_220 (p_c q_2_143 (p_c q_2_144 (p_c q_3_96 (p_c q_2_167 (p_c q_2_168 (p_c q_3_97 (p_c q_3_98 (p_c q_3_99 (p_c q_1_2 p_n))))))))))))))))) (inX7)) (inX5)) (inX2)) (inX10)) (mX5_cut_in)) (mX5_length_in)) (mX5_get_in)) (mX2_encode_in))
set_option maxRecDepth 20000 in
theorem mX11_writes_in : ∀ w ∈ wsX11_writes, w ∈ lw_tbl := by
  unfold wsX11_writes
  exact p_c q_3_91 (p_a (p_a (p_a (p_a (p_a (p_a (p_a (p_a (p_c q_2_112 (p_c q_2_105 (p_c q_2_102 (p_c q_2_208 (p_c q_2_209 (p_c q_1_2 (p_c q_3_92 (p_c q_3_93 (p_c q_3_94 (p_c q_1_5 (p_c q_3_19 (p_c q_3_20 (p_c q_3_21 p_n))))))))))))) (inX11)) (inX7)) (inX5)) (inX2)) (inX10)) (mX2_known_in)) (mX7_write_in)) (mX7_fault_in))
set_option maxRecDepth 20000 in
theorem mX7_bytes_in : ∀ w ∈ wsX7_bytes, w ∈ lw_tbl := by
  unfold wsX7_bytes
  exact p_c q_3_112 (p_a (p_c q_1_88 p_n) (inX7))
set_option maxRecDepth 20000 in
theorem mX11_size_in : ∀ w ∈ wsX11_size, w ∈ lw_tbl := by
  unfold wsX11_size
  exact p_c q_3_87 (p_a (p_a (p_a (p_a (p_a (p_a (p_a (p_a (p_c q_2_105 (p_c q_3_88 (p_c q_3_90 (p_c q_k_4 (p_c q_1_1 (p_c q_1_5 (p_c q_1_6 (p_c q_2_143 (p_c q_2_144 (p_c q_3_109 (p_c q_3_110 (p_c q_3_111 (p_c q_2_142 p_n))))))))))))) (inX11)) (inX7)) (inX5)) (inX2)) (inX10)) (mX11_writes_in)) (mX7_bytes_in)) (mX5_length_in))
set_option maxRecDepth 20000 in
theorem mX12_put_in : ∀ w ∈ wsX12_put, w ∈ lw_tbl := by
  unfold wsX12_put
  exact p_c q_6_4 (p_a (p_c q_5_68 (p_c q_5_69 p_n)) (inX12))
set_option maxRecDepth 20000 in
theorem mX12_writeLetter_in : ∀ w ∈ wsX12_writeLetter, w ∈ lw_tbl := by
  unfold wsX12_writeLetter
  exact p_c q_6_0 (p_a (p_a (p_c q_5_49 (p_c q_5_179 (p_c q_6_1 (p_c q_6_3 (p_c q_k_27 (p_c q_1_15 p_n)))))) (inX12)) (mX12_put_in))
set_option maxRecDepth 20000 in
theorem mX12_write_in : ∀ w ∈ wsX12_write, w ∈ lw_tbl := by
  unfold wsX12_write
  exact p_c q_5_236 (p_a (p_a (p_c q_5_69 (p_c q_5_72 (p_c q_5_237 (p_c q_5_239 (p_c q_k_26 (p_c q_1_15 p_n)))))) (inX12)) (mX12_writeLetter_in))
set_option maxRecDepth 20000 in
theorem mX12_size_in : ∀ w ∈ wsX12_size, w ∈ lw_tbl := by
  unfold wsX12_size
  exact p_c q_5_232 (p_a (p_a (p_a (p_c q_5_67 (p_c q_5_66 (p_c q_5_45 (p_c q_5_44 (p_c q_5_72 (p_c q_5_69 (p_c q_5_190 (p_c q_5_191 (p_c q_1_15 (p_c q_5_233 (p_c q_5_235 (p_c q_k_25 p_n)))))))))))) (inX12)) (mX12_isCode_in)) (mX12_write_in))
set_option maxRecDepth 20000 in
theorem mX11_byteOf_in : ∀ w ∈ wsX11_byteOf, w ∈ lw_tbl := by
  unfold wsX11_byteOf
  exact p_c q_3_116 (p_a (p_a (p_a (p_a (p_a (p_a (p_a (p_a (p_c q_2_105 (p_c q_3_88 (p_c q_3_90 (p_c q_k_4 (p_c q_1_1 (p_c q_1_5 (p_c q_1_6 (p_c q_2_167 (p_c q_2_168 (p_c q_3_109 (p_c q_3_110 (p_c q_3_111 (p_c q_2_166 p_n))))))))))))) (inX11)) (inX7)) (inX5)) (inX2)) (inX10)) (mX11_writes_in)) (mX7_bytes_in)) (mX5_get_in))
set_option maxRecDepth 20000 in
theorem mX12_byteOf_in : ∀ w ∈ wsX12_byteOf, w ∈ lw_tbl := by
  unfold wsX12_byteOf
  exact p_c q_6_8 (p_a (p_a (p_a (p_c q_5_67 (p_c q_5_66 (p_c q_5_45 (p_c q_5_44 (p_c q_5_72 (p_c q_5_69 (p_c q_5_68 (p_c q_5_190 (p_c q_5_191 (p_c q_1_15 (p_c q_5_233 (p_c q_5_235 (p_c q_k_25 p_n))))))))))))) (inX12)) (mX12_isCode_in)) (mX12_write_in))
set_option maxRecDepth 20000 in
theorem mX11_where_in : ∀ w ∈ wsX11_where, w ∈ lw_tbl := by
  unfold wsX11_where
  exact p_c q_3_120 (p_a (p_c q_2_112 p_n) (inX11))
set_option maxRecDepth 20000 in
theorem mX12_where_in : ∀ w ∈ wsX12_where, w ∈ lw_tbl := by
  unfold wsX12_where
  exact p_c q_6_12 (p_a (p_c q_5_67 (p_c q_5_66 p_n)) (inX12))
set_option maxRecDepth 20000 in
theorem mX7_pass_in : ∀ w ∈ wsX7_pass, w ∈ lw_tbl := by
  unfold wsX7_pass
  exact p_c q_3_132 (p_a (p_a (p_a (p_a (p_a (p_a (p_a (p_c q_1_88 (p_c q_3_133 (p_c q_3_93 (p_c q_3_94 (p_c q_1_5 (p_c q_1_6 (p_c q_2_220 (p_c q_2_143 (p_c q_2_144 (p_c q_3_134 (p_c q_2_216 (p_c q_2_217 p_n)))))))))))) (inX7)) (inX5)) (inX2)) (inX10)) (mX7_write_in)) (mX7_readExactly_in)) (mX5_length_in))
set_option maxRecDepth 20000 in
theorem mX11_passes_in : ∀ w ∈ wsX11_passes, w ∈ lw_tbl := by
  unfold wsX11_passes
  exact p_c q_3_128 (p_a (p_a (p_a (p_a (p_a (p_a (p_a (p_a (p_c q_2_112 (p_c q_2_105 (p_c q_2_102 (p_c q_2_103 (p_c q_2_208 (p_c q_2_209 (p_c q_1_2 (p_c q_3_129 (p_c q_3_130 (p_c q_3_131 (p_c q_1_5 (p_c q_3_19 (p_c q_3_20 (p_c q_3_21 p_n)))))))))))))) (inX11)) (inX7)) (inX5)) (inX2)) (inX10)) (mX2_known_in)) (mX7_pass_in)) (mX7_fault_in))
set_option maxRecDepth 20000 in
theorem mX11_harm_in : ∀ w ∈ wsX11_harm, w ∈ lw_tbl := by
  unfold wsX11_harm
  exact p_c q_3_124 (p_a (p_a (p_a (p_a (p_a (p_a (p_a (p_a (p_a (p_c q_2_103 (p_c q_3_125 (p_c q_3_127 (p_c q_k_5 (p_c q_1_1 (p_c q_2_187 (p_c q_2_189 (p_c q_k_1 p_n)))))))) (inX11)) (inX7)) (inX5)) (inX2)) (inX10)) (inX0)) (inX1)) (mX11_passes_in)) (mX11_become_in))
set_option maxRecDepth 20000 in
theorem mX12_does_in : ∀ w ∈ wsX12_does, w ∈ lw_tbl := by
  unfold wsX12_does
  exact p_c q_6_20 (p_a (p_a (p_a (p_c q_5_72 (p_c q_5_69 (p_c q_5_71 (p_c q_5_233 (p_c q_5_235 (p_c q_k_25 (p_c q_1_15 (p_c q_5_193 (p_c q_5_195 (p_c q_k_21 p_n)))))))))) (inX12)) (mX12_write_in)) (mX12_read_in))
set_option maxRecDepth 20000 in
theorem mX12_harm_in : ∀ w ∈ wsX12_harm, w ∈ lw_tbl := by
  unfold wsX12_harm
  exact p_c q_6_16 (p_a (p_a (p_a (p_a (p_c q_5_67 (p_c q_5_66 (p_c q_5_45 (p_c q_5_44 (p_c q_5_72 (p_c q_5_70 (p_c q_5_71 (p_c q_5_190 (p_c q_5_191 (p_c q_1_15 (p_c q_6_17 (p_c q_6_19 (p_c q_k_28 (p_c q_5_182 (p_c q_5_184 (p_c q_k_20 p_n)))))))))))))))) (inX12)) (mX12_isCode_in)) (mX12_does_in)) (mX12_become_in))
set_option maxRecDepth 20000 in
theorem mX7_passRoughly_in : ∀ w ∈ wsX7_passRoughly, w ∈ lw_tbl := by
  unfold wsX7_passRoughly
  exact p_c q_3_142 (p_a (p_a (p_a (p_a (p_a (p_a (p_a (p_a (p_a (p_a (p_a (p_c q_1_88 (p_c q_1_87 (p_c q_3_143 (p_c q_3_18 (p_c q_1_78 (p_c q_1_7 (p_c q_1_79 (p_c q_3_133 (p_c q_3_93 (p_c q_3_94 (p_c q_1_5 (p_c q_2_219 (p_c q_2_155 (p_c q_2_156 (p_c q_1_6 (p_c q_2_220 (p_c q_2_143 (p_c q_2_144 (p_c q_1_2 (p_c q_2_147 (p_c q_2_148 (p_c q_2_221 (p_c q_2_222 (p_c q_2_223 (p_c q_3_11 (p_c q_3_12 (p_c q_3_14 (p_c q_3_15 (p_c q_3_16 p_n))))))))))))))))))))))))))))) (inX7)) (inX5)) (inX2)) (inX10)) (mX7_write_in)) (mX5_length_in)) (mX5_cut_in)) (mX2_decode_in)) (mX2_letterIn_in)) (mX5_add_in)) (mX2_bytesIn_in))
set_option maxRecDepth 20000 in
theorem mX11_rough_in : ∀ w ∈ wsX11_rough, w ∈ lw_tbl := by
  unfold wsX11_rough
  exact p_c q_3_138 (p_a (p_a (p_a (p_a (p_a (p_a (p_a (p_a (p_a (p_a (p_a (p_c q_2_112 (p_c q_2_105 (p_c q_2_102 (p_c q_2_103 (p_c q_2_208 (p_c q_2_209 (p_c q_1_2 (p_c q_3_139 (p_c q_3_140 (p_c q_3_141 (p_c q_1_5 (p_c q_1_1 (p_c q_3_19 (p_c q_3_20 (p_c q_3_21 (p_c q_2_187 (p_c q_2_189 (p_c q_k_1 p_n)))))))))))))))))) (inX11)) (inX7)) (inX5)) (inX2)) (inX10)) (inX0)) (inX1)) (mX2_known_in)) (mX7_passRoughly_in)) (mX7_fault_in)) (mX11_become_in))
set_option maxRecDepth 20000 in
theorem mX12_rough_in : ∀ w ∈ wsX12_rough, w ∈ lw_tbl := by
  unfold wsX12_rough
  exact p_c q_6_24 (p_a (p_a (p_a (p_a (p_a (p_c q_5_67 (p_c q_5_66 (p_c q_5_45 (p_c q_5_44 (p_c q_5_72 (p_c q_5_69 (p_c q_5_71 (p_c q_5_70 (p_c q_5_208 (p_c q_5_76 (p_c q_5_190 (p_c q_5_191 (p_c q_1_15 (p_c q_5_233 (p_c q_5_235 (p_c q_k_25 (p_c q_5_197 (p_c q_5_199 (p_c q_k_22 (p_c q_5_182 (p_c q_5_184 (p_c q_k_20 p_n)))))))))))))))))))))) (inX12)) (mX12_isCode_in)) (mX12_write_in)) (mX12_readAt_in)) (mX12_become_in))
set_option maxRecDepth 20000 in
theorem mX11_undo_in : ∀ w ∈ wsX11_undo, w ∈ lw_tbl := by
  unfold wsX11_undo
  exact p_c q_3_147 (p_a (p_a (p_a (p_a (p_a (p_a (p_a (p_a (p_a (p_c q_2_103 (p_c q_3_125 (p_c q_3_127 (p_c q_k_5 (p_c q_1_1 (p_c q_2_187 (p_c q_2_189 (p_c q_k_1 p_n)))))))) (inX11)) (inX7)) (inX5)) (inX2)) (inX10)) (inX0)) (inX1)) (mX11_passes_in)) (mX11_become_in))
set_option maxRecDepth 20000 in
theorem mX12_takeText_in : ∀ w ∈ wsX12_takeText, w ∈ lw_tbl := by
  unfold wsX12_takeText
  exact p_c q_6_32 (p_a (p_c q_5_44 (p_c q_5_74 (p_c q_5_73 (p_c q_5_45 p_n)))) (inX12))
set_option maxRecDepth 20000 in
theorem mX12_undoes_in : ∀ w ∈ wsX12_undoes, w ∈ lw_tbl := by
  unfold wsX12_undoes
  exact p_c q_6_36 (p_a (p_a (p_c q_5_73 (p_c q_5_74 (p_c q_5_71 (p_c q_5_75 (p_c q_5_70 (p_c q_5_72 (p_c q_6_17 (p_c q_6_19 (p_c q_k_28 (p_c q_1_15 p_n)))))))))) (inX12)) (mX12_does_in))
set_option maxRecDepth 20000 in
theorem mX12_undo_in : ∀ w ∈ wsX12_undo, w ∈ lw_tbl := by
  unfold wsX12_undo
  exact p_c q_6_28 (p_a (p_a (p_a (p_a (p_a (p_c q_5_67 (p_c q_5_66 (p_c q_5_72 (p_c q_5_73 (p_c q_5_74 (p_c q_5_190 (p_c q_5_191 (p_c q_1_15 (p_c q_6_29 (p_c q_6_31 (p_c q_k_29 (p_c q_6_33 (p_c q_6_35 (p_c q_k_30 (p_c q_5_182 (p_c q_5_184 (p_c q_k_20 p_n))))))))))))))))) (inX12)) (mX12_isCode_in)) (mX12_takeText_in)) (mX12_undoes_in)) (mX12_become_in))
set_option maxRecDepth 20000 in
theorem mX2_isWritten_in : ∀ w ∈ wsX2_isWritten, w ∈ lw_tbl := by
  unfold wsX2_isWritten
  exact p_c q_3_159 (p_a (p_a (p_a (p_c q_2_226 (p_c q_2_227 (p_c q_2_228 (p_c q_1_2 p_n)))) (inX2)) (inX10)) (mX2_letterAlone_in))
set_option maxRecDepth 20000 in
theorem mX2_neverLost_in : ∀ w ∈ wsX2_neverLost, w ∈ lw_tbl := by
  unfold wsX2_neverLost
  exact p_c q_3_155 (p_a (p_a (p_a (p_a (p_c q_3_156 (p_c q_3_158 (p_c q_k_6 (p_c q_1_2 (p_c q_2_226 (p_c q_2_227 (p_c q_2_228 p_n))))))) (inX2)) (inX10)) (mX2_isWritten_in)) (mX2_letterAlone_in))
set_option maxRecDepth 20000 in
theorem mX11_safe_in : ∀ w ∈ wsX11_safe, w ∈ lw_tbl := by
  unfold wsX11_safe
  exact p_c q_3_151 (p_a (p_a (p_a (p_a (p_a (p_c q_2_112 (p_c q_2_104 (p_c q_2_208 (p_c q_2_209 (p_c q_1_2 (p_c q_3_152 (p_c q_3_153 (p_c q_3_154 p_n)))))))) (inX11)) (inX2)) (inX10)) (mX2_known_in)) (mX2_neverLost_in))
set_option maxRecDepth 20000 in
theorem mX12_canCome_in : ∀ w ∈ wsX12_canCome, w ∈ lw_tbl := by
  unfold wsX12_canCome
  exact p_c q_6_44 (p_a (p_c q_5_48 p_n) (inX12))
set_option maxRecDepth 20000 in
theorem mX12_safe_in : ∀ w ∈ wsX12_safe, w ∈ lw_tbl := by
  unfold wsX12_safe
  exact p_c q_6_40 (p_a (p_a (p_a (p_c q_5_67 (p_c q_5_66 (p_c q_5_48 (p_c q_5_190 (p_c q_5_191 (p_c q_1_15 (p_c q_6_41 (p_c q_6_43 (p_c q_k_31 p_n))))))))) (inX12)) (mX12_isCode_in)) (mX12_canCome_in))
set_option maxRecDepth 20000 in
theorem mX0_takeBack_in : ∀ w ∈ wsX0_takeBack, w ∈ lw_tbl := by
  unfold wsX0_takeBack
  exact p_c q_3_167 (p_a (p_a (p_a (p_a (p_c q_1_144 (p_c q_1_143 (p_c q_1_142 (p_c q_1_141 (p_c q_3_168 (p_c q_2_155 (p_c q_2_156 (p_c q_1_6 (p_c q_3_169 (p_c q_2_147 (p_c q_2_148 p_n))))))))))) (inX0)) (inX5)) (mX5_cut_in)) (mX5_add_in))
set_option maxRecDepth 20000 in
theorem mX11_back_in : ∀ w ∈ wsX11_back, w ∈ lw_tbl := by
  unfold wsX11_back
  exact p_c q_3_163 (p_a (p_a (p_a (p_a (p_a (p_a (p_a (p_c q_2_108 (p_c q_2_102 (p_c q_2_111 (p_c q_3_164 (p_c q_3_165 (p_c q_3_166 (p_c q_1_10 (p_c q_2_200 (p_c q_2_201 (p_c q_2_202 (p_c q_1_14 (p_c q_3_67 (p_c q_3_68 (p_c q_3_69 p_n)))))))))))))) (inX11)) (inX0)) (inX5)) (inX1)) (mX0_takeBack_in)) (mX1_forgetFreshness_in)) (mX0_length_in))
set_option maxRecDepth 20000 in
theorem mX12_back_in : ∀ w ∈ wsX12_back, w ∈ lw_tbl := by
  unfold wsX12_back
  exact p_c q_6_48 (p_a (p_c q_5_67 (p_c q_5_46 (p_c q_5_47 (p_c q_5_44 (p_c q_5_45 (p_c q_5_64 p_n)))))) (inX12))
set_option maxRecDepth 20000 in
theorem mX4_tell_in : ∀ w ∈ wsX4_tell, w ∈ lw_tbl := by
  unfold wsX4_tell
  exact p_c q_3_177 (p_a (p_c q_1_106 (p_c q_1_104 (p_c q_1_105 p_n))) (inX4))
set_option maxRecDepth 20000 in
theorem mX11_list_in : ∀ w ∈ wsX11_list, w ∈ lw_tbl := by
  unfold wsX11_list
  exact p_c q_3_173 (p_a (p_a (p_a (p_a (p_a (p_a (p_a (p_c q_2_112 (p_c q_2_106 (p_c q_2_111 (p_c q_2_208 (p_c q_2_209 (p_c q_1_2 (p_c q_3_174 (p_c q_3_175 (p_c q_3_176 (p_c q_1_8 (p_c q_2_200 (p_c q_2_201 (p_c q_2_202 (p_c q_1_14 (p_c q_3_63 (p_c q_3_64 (p_c q_3_65 p_n))))))))))))))))) (inX11)) (inX4)) (inX1)) (mX2_known_in)) (mX4_tell_in)) (mX1_forgetFreshness_in)) (mX4_length_in))
set_option maxRecDepth 20000 in
theorem mX12_list_in : ∀ w ∈ wsX12_list, w ∈ lw_tbl := by
  unfold wsX12_list
  exact p_c q_6_52 (p_a (p_a (p_c q_5_67 (p_c q_5_66 (p_c q_5_53 (p_c q_5_51 (p_c q_5_52 (p_c q_5_64 (p_c q_5_190 (p_c q_5_191 (p_c q_1_15 p_n))))))))) (inX12)) (mX12_isCode_in))
set_option maxRecDepth 20000 in
theorem mX4_empty_in : ∀ w ∈ wsX4_empty, w ∈ lw_tbl := by
  unfold wsX4_empty
  exact p_c q_3_185 (p_a (p_c q_1_106 p_n) (inX4))
set_option maxRecDepth 20000 in
theorem mX11_unlist_in : ∀ w ∈ wsX11_unlist, w ∈ lw_tbl := by
  unfold wsX11_unlist
  exact p_c q_3_181 (p_a (p_a (p_a (p_a (p_a (p_a (p_c q_2_106 (p_c q_2_111 (p_c q_3_63 (p_c q_3_64 (p_c q_3_65 (p_c q_1_8 (p_c q_3_182 (p_c q_3_183 (p_c q_3_184 (p_c q_2_200 (p_c q_2_201 (p_c q_2_202 (p_c q_1_14 p_n))))))))))))) (inX11)) (inX4)) (inX1)) (mX4_length_in)) (mX4_empty_in)) (mX1_forgetFreshness_in))
set_option maxRecDepth 20000 in
theorem mX12_unlist_in : ∀ w ∈ wsX12_unlist, w ∈ lw_tbl := by
  unfold wsX12_unlist
  exact p_c q_6_56 (p_a (p_c q_5_67 (p_c q_5_53 (p_c q_5_64 p_n))) (inX12))
set_option maxRecDepth 20000 in
theorem inX9 : ∀ w ∈ wsX90, w ∈ lw_tbl := p_u (fun k hk => match k, hk with
  | 0, _ => q_1_175
  | 1, _ => q_1_177
  | 2, _ => q_1_179
  | 3, _ => q_1_181
  | 4, _ => q_1_183
  | 5, _ => q_1_185
  | 6, _ => q_1_187
  | 7, _ => q_1_189
  | 8, _ => q_1_191
  | 9, _ => q_1_193
  | 10, _ => q_1_195
  | 11, _ => q_1_197
  | k + 12, hk => absurd hk (by omega))
set_option maxRecDepth 20000 in
theorem mX4_takeOff_in : ∀ w ∈ wsX4_takeOff, w ∈ lw_tbl := by
  unfold wsX4_takeOff
  exact p_c q_3_198 (p_a (p_a (p_a (p_a (p_a (p_a (p_c q_1_106 (p_c q_1_103 (p_c q_1_105 (p_c q_1_104 (p_c q_3_199 (p_c q_3_130 (p_c q_3_131 (p_c q_1_5 p_n)))))))) (inX4)) (inX7)) (inX5)) (inX2)) (inX10)) (mX7_pass_in))
set_option maxRecDepth 20000 in
theorem mX3_pairOf_in : ∀ w ∈ wsX3_pairOf, w ∈ lw_tbl := by
  unfold wsX3_pairOf
  exact p_c q_3_220 (p_n)
set_option maxRecDepth 20000 in
theorem mX3_placeFor_in : ∀ w ∈ wsX3_placeFor, w ∈ lw_tbl := by
  unfold wsX3_placeFor
  exact p_c q_3_217 (p_a (p_a (p_c q_3_221 (p_c q_1_124 (p_c q_1_123 (p_c q_3_218 (p_c q_3_219 (p_c q_1_9 p_n)))))) (inX3)) (mX3_pairOf_in))
set_option maxRecDepth 20000 in
theorem mX3_sortOutside_in : ∀ w ∈ wsX3_sortOutside, w ∈ lw_tbl := by
  unfold wsX3_sortOutside
  exact p_c q_3_227 (p_n)
set_option maxRecDepth 20000 in
theorem mX3_sortOf_in : ∀ w ∈ wsX3_sortOf, w ∈ lw_tbl := by
  unfold wsX3_sortOf
  exact p_c q_3_224 (p_a (p_c q_3_225 (p_c q_3_226 (p_c q_1_9 p_n))) (mX3_sortOutside_in))
set_option maxRecDepth 20000 in
theorem mX3_of_in : ∀ w ∈ wsX3_of, w ∈ lw_tbl := by
  unfold wsX3_of
  exact p_c q_3_213 (p_a (p_a (p_a (p_c q_1_125 (p_c q_1_124 (p_c q_3_214 (p_c q_3_216 (p_c q_k_8 (p_c q_1_9 (p_c q_3_222 (p_c q_3_223 p_n)))))))) (inX3)) (mX3_placeFor_in)) (mX3_sortOf_in))
set_option maxRecDepth 20000 in
theorem mX3_ofText_in : ∀ w ∈ wsX3_ofText, w ∈ lw_tbl := by
  unfold wsX3_ofText
  exact p_c q_3_207 (p_a (p_a (p_a (p_a (p_a (p_c q_3_208 (p_c q_2_143 (p_c q_2_144 (p_c q_1_6 (p_c q_3_209 (p_c q_2_167 (p_c q_2_168 (p_c q_3_210 (p_c q_3_211 (p_c q_3_212 (p_c q_1_9 p_n))))))))))) (inX5)) (inX3)) (mX5_length_in)) (mX5_get_in)) (mX3_of_in))
set_option maxRecDepth 20000 in
theorem mX9_note_in : ∀ w ∈ wsX9_note, w ∈ lw_tbl := by
  unfold wsX9_note
  exact p_c q_3_203 (p_a (p_a (p_a (p_a (p_a (p_c q_1_168 (p_c q_1_164 (p_c q_1_169 (p_c q_3_204 (p_c q_3_205 (p_c q_3_206 (p_c q_1_9 (p_c q_2_143 (p_c q_2_144 (p_c q_1_6 (p_c q_3_228 p_n))))))))))) (inX9)) (inX5)) (inX3)) (mX3_ofText_in)) (mX5_length_in))
set_option maxRecDepth 20000 in
theorem mX9_nameHarms_in : ∀ w ∈ wsX9_nameHarms, w ∈ lw_tbl := by
  unfold wsX9_nameHarms
  exact p_c q_3_232 (p_a (p_c q_1_170 p_n) (inX9))
set_option maxRecDepth 20000 in
theorem mX9_find_in : ∀ w ∈ wsX9_find, w ∈ lw_tbl := by
  unfold wsX9_find
  exact p_c q_3_193 (p_a (p_a (p_a (p_a (p_a (p_a (p_a (p_a (p_a (p_a (p_a (p_a (p_c q_1_168 (p_c q_1_163 (p_c q_1_165 (p_c q_1_166 (p_c q_1_167 (p_c q_1_162 (p_c q_1_42 (p_c q_1_4 (p_c q_3_194 (p_c q_3_64 (p_c q_3_65 (p_c q_1_8 (p_c q_3_195 (p_c q_3_196 (p_c q_3_197 (p_c q_3_200 (p_c q_3_202 (p_c q_k_7 (p_c q_1_11 (p_c q_3_229 (p_c q_3_231 (p_c q_k_9 p_n)))))))))))))))))))))) (inX9)) (inX4)) (inX7)) (inX5)) (inX2)) (inX10)) (inX3)) (mJ7_fill_53178_in)) (mX4_length_in)) (mX4_takeOff_in)) (mX9_note_in)) (mX9_nameHarms_in))
set_option maxRecDepth 20000 in
theorem mX9_keepFound_in : ∀ w ∈ wsX9_keepFound, w ∈ lw_tbl := by
  unfold wsX9_keepFound
  exact p_c q_3_236 (p_a (p_c q_1_174 (p_c q_1_168 (p_c q_1_171 (p_c q_1_172 (p_c q_1_169 (p_c q_1_173 (p_c q_1_170 p_n))))))) (inX9))
set_option maxRecDepth 20000 in
theorem mX11_rows_in : ∀ w ∈ wsX11_rows, w ∈ lw_tbl := by
  unfold wsX11_rows
  exact p_c q_3_189 (p_a (p_a (p_a (p_a (p_a (p_a (p_a (p_a (p_a (p_a (p_c q_2_112 (p_c q_2_109 (p_c q_2_102 (p_c q_3_190 (p_c q_3_191 (p_c q_3_192 (p_c q_1_11 (p_c q_3_233 (p_c q_3_234 (p_c q_3_235 p_n)))))))))) (inX11)) (inX9)) (inX4)) (inX7)) (inX5)) (inX2)) (inX10)) (inX3)) (mX9_find_in)) (mX9_keepFound_in))
set_option maxRecDepth 20000 in
theorem mX12_power_in : ∀ w ∈ wsX12_power, w ∈ lw_tbl := by
  unfold wsX12_power
  exact p_c q_6_63 (p_n)
set_option maxRecDepth 20000 in
theorem mX12_makes_in : ∀ w ∈ wsX12_makes, w ∈ lw_tbl := by
  unfold wsX12_makes
  exact p_c q_6_67 (p_a (p_a (p_a (p_c q_5_53 (p_c q_5_51 (p_c q_5_52 (p_c q_6_29 (p_c q_6_31 (p_c q_k_29 (p_c q_1_15 (p_c q_6_33 (p_c q_6_35 (p_c q_k_30 p_n)))))))))) (inX12)) (mX12_takeText_in)) (mX12_undoes_in))
set_option maxRecDepth 20000 in
theorem mX12_sortOf_in : ∀ w ∈ wsX12_sortOf, w ∈ lw_tbl := by
  unfold wsX12_sortOf
  exact p_c q_6_78 (p_n)
set_option maxRecDepth 20000 in
theorem mX12_costOf_in : ∀ w ∈ wsX12_costOf, w ∈ lw_tbl := by
  unfold wsX12_costOf
  exact p_c q_6_75 (p_a (p_a (p_c q_5_59 (p_c q_5_56 (p_c q_5_57 (p_c q_5_58 (p_c q_6_76 (p_c q_6_77 (p_c q_1_15 p_n))))))) (inX12)) (mX12_sortOf_in))
set_option maxRecDepth 20000 in
theorem mX12_costOf__in : ∀ w ∈ wsX12_costOf_, w ∈ lw_tbl := by
  unfold wsX12_costOf_
  exact p_c q_6_71 (p_a (p_a (p_c q_6_72 (p_c q_6_74 (p_c q_k_34 (p_c q_1_15 p_n)))) (inX12)) (mX12_costOf_in))
set_option maxRecDepth 20000 in
theorem mX12_rows_in : ∀ w ∈ wsX12_rows, w ∈ lw_tbl := by
  unfold wsX12_rows
  exact p_c q_6_60 (p_a (p_a (p_a (p_a (p_c q_5_67 (p_c q_5_66 (p_c q_5_55 (p_c q_5_53 (p_c q_5_54 (p_c q_5_73 (p_c q_5_74 (p_c q_6_61 (p_c q_6_62 (p_c q_1_15 (p_c q_6_64 (p_c q_6_66 (p_c q_k_32 (p_c q_6_68 (p_c q_6_70 (p_c q_k_33 p_n)))))))))))))))) (inX12)) (mX12_power_in)) (mX12_makes_in)) (mX12_costOf__in))
set_option maxRecDepth 20000 in
theorem mX9_told_in : ∀ w ∈ wsX9_told, w ∈ lw_tbl := by
  unfold wsX9_told
  exact p_c q_4_4 (p_a (p_c q_1_174 (p_c q_1_173 (p_c q_1_171 (p_c q_1_172 p_n)))) (inX9))
set_option maxRecDepth 20000 in
theorem mX11_row_in : ∀ w ∈ wsX11_row, w ∈ lw_tbl := by
  unfold wsX11_row
  exact p_c q_4_0 (p_a (p_a (p_a (p_c q_2_109 (p_c q_4_1 (p_c q_4_2 (p_c q_4_3 (p_c q_1_11 p_n))))) (inX11)) (inX9)) (mX9_told_in))
set_option maxRecDepth 20000 in
theorem mX12_row_in : ∀ w ∈ wsX12_row, w ∈ lw_tbl := by
  unfold wsX12_row
  exact p_c q_6_82 (p_a (p_c q_5_67 (p_c q_5_55 (p_c q_5_54 p_n))) (inX12))
set_option maxRecDepth 20000 in
theorem mX3_tell_in : ∀ w ∈ wsX3_tell, w ∈ lw_tbl := by
  unfold wsX3_tell
  exact p_c q_4_12 (p_a (p_a (p_a (p_c q_1_124 (p_c q_1_125 (p_c q_1_123 (p_c q_3_214 (p_c q_3_216 (p_c q_k_8 (p_c q_1_9 (p_c q_3_218 (p_c q_3_219 p_n))))))))) (inX3)) (mX3_placeFor_in)) (mX3_pairOf_in))
set_option maxRecDepth 20000 in
theorem mX11_cost_in : ∀ w ∈ wsX11_cost, w ∈ lw_tbl := by
  unfold wsX11_cost
  exact p_c q_4_8 (p_a (p_a (p_a (p_a (p_a (p_a (p_c q_2_107 (p_c q_2_111 (p_c q_2_170 (p_c q_2_171 (p_c q_1_1 (p_c q_4_9 (p_c q_4_10 (p_c q_4_11 (p_c q_1_9 (p_c q_2_200 (p_c q_2_201 (p_c q_2_202 (p_c q_1_14 p_n))))))))))))) (inX11)) (inX3)) (inX1)) (mX11_isLetter_in)) (mX3_tell_in)) (mX1_forgetFreshness_in))
set_option maxRecDepth 20000 in
theorem mX12_cost_in : ∀ w ∈ wsX12_cost, w ∈ lw_tbl := by
  unfold wsX12_cost
  exact p_c q_6_86 (p_a (p_a (p_c q_5_67 (p_c q_5_59 (p_c q_5_56 (p_c q_5_57 (p_c q_5_58 (p_c q_5_64 (p_c q_5_176 (p_c q_5_177 (p_c q_1_15 p_n))))))))) (inX12)) (mX12_isLetter_in))
set_option maxRecDepth 20000 in
theorem mX11_worth_in : ∀ w ∈ wsX11_worth, w ∈ lw_tbl := by
  unfold wsX11_worth
  exact p_c q_4_16 (p_a (p_a (p_a (p_a (p_c q_2_107 (p_c q_2_102 (p_c q_4_17 (p_c q_3_205 (p_c q_3_206 (p_c q_1_9 p_n)))))) (inX11)) (inX5)) (inX3)) (mX3_ofText_in))
set_option maxRecDepth 20000 in
theorem mX12_worth_in : ∀ w ∈ wsX12_worth, w ∈ lw_tbl := by
  unfold wsX12_worth
  exact p_c q_6_90 (p_a (p_a (p_c q_5_67 (p_c q_5_45 (p_c q_5_44 (p_c q_6_68 (p_c q_6_70 (p_c q_k_33 (p_c q_1_15 p_n))))))) (inX12)) (mX12_costOf__in))
set_option maxRecDepth 20000 in
theorem mX9_cheapest_in : ∀ w ∈ wsX9_cheapest, w ∈ lw_tbl := by
  unfold wsX9_cheapest
  exact p_c q_4_26 (p_a (p_c q_1_168 p_n) (inX9))
set_option maxRecDepth 20000 in
theorem mX9_costAt_in : ∀ w ∈ wsX9_costAt, w ∈ lw_tbl := by
  unfold wsX9_costAt
  exact p_c q_4_30 (p_a (p_c q_1_168 p_n) (inX9))
set_option maxRecDepth 20000 in
theorem mX9_build_in : ∀ w ∈ wsX9_build, w ∈ lw_tbl := by
  unfold wsX9_build
  exact p_c q_4_34 (p_a (p_a (p_a (p_a (p_a (p_a (p_a (p_a (p_c q_1_165 (p_c q_1_170 (p_c q_1_163 (p_c q_1_166 (p_c q_4_35 (p_c q_2_177 (p_c q_2_178 (p_c q_1_6 (p_c q_3_195 (p_c q_3_196 (p_c q_3_197 (p_c q_1_8 p_n)))))))))))) (inX9)) (inX5)) (inX4)) (inX7)) (inX2)) (inX10)) (mX5_takeAll_in)) (mX4_takeOff_in))
set_option maxRecDepth 20000 in
theorem mX9_numberOf_in : ∀ w ∈ wsX9_numberOf, w ∈ lw_tbl := by
  unfold wsX9_numberOf
  exact p_c q_4_39 (p_a (p_c q_1_168 p_n) (inX9))
set_option maxRecDepth 20000 in
theorem mX11_mend_in : ∀ w ∈ wsX11_mend, w ∈ lw_tbl := by
  unfold wsX11_mend
  exact p_c q_4_21 (p_a (p_a (p_a (p_a (p_a (p_a (p_a (p_a (p_a (p_a (p_a (p_a (p_a (p_a (p_a (p_a (p_a (p_c q_2_112 (p_c q_4_22 (p_c q_2_109 (p_c q_2_102 (p_c q_2_107 (p_c q_2_103 (p_c q_3_190 (p_c q_3_191 (p_c q_3_192 (p_c q_1_11 (p_c q_1_1 (p_c q_3_205 (p_c q_3_206 (p_c q_1_9 (p_c q_4_23 (p_c q_4_24 (p_c q_4_25 (p_c q_4_17 (p_c q_4_27 (p_c q_4_28 (p_c q_4_29 (p_c q_4_31 (p_c q_4_32 (p_c q_4_33 (p_c q_2_187 (p_c q_2_189 (p_c q_k_1 (p_c q_4_36 (p_c q_4_37 (p_c q_4_38 p_n)))))))))))))))))))))))))))))) (inX11)) (inX9)) (inX4)) (inX7)) (inX5)) (inX2)) (inX10)) (inX3)) (inX0)) (inX1)) (mX9_find_in)) (mX9_cheapest_in)) (mX3_ofText_in)) (mX9_costAt_in)) (mX9_build_in)) (mX11_become_in)) (mX9_numberOf_in))
set_option maxRecDepth 20000 in
theorem mX12_mend_in : ∀ w ∈ wsX12_mend, w ∈ lw_tbl := by
  unfold wsX12_mend
  exact p_c q_6_94 (p_a (p_a (p_a (p_a (p_a (p_c q_5_67 (p_c q_5_66 (p_c q_6_95 (p_c q_5_53 (p_c q_5_73 (p_c q_5_74 (p_c q_5_45 (p_c q_5_44 (p_c q_6_61 (p_c q_6_62 (p_c q_1_15 (p_c q_6_64 (p_c q_6_66 (p_c q_k_32 (p_c q_6_68 (p_c q_6_70 (p_c q_k_33 (p_c q_5_182 (p_c q_5_184 (p_c q_k_20 p_n)))))))))))))))))))) (inX12)) (mX12_power_in)) (mX12_makes_in)) (mX12_costOf__in)) (mX12_become_in))
set_option maxRecDepth 20000 in
theorem inX6 : ∀ w ∈ wsX60, w ∈ lw_tbl := p_u (fun k hk => match k, hk with
  | 0, _ => q_2_5
  | 1, _ => q_2_7
  | 2, _ => q_2_9
  | 3, _ => q_2_11
  | 4, _ => q_2_13
  | 5, _ => q_2_15
  | 6, _ => q_2_17
  | 7, _ => q_2_19
  | 8, _ => q_2_21
  | 9, _ => q_2_23
  | 10, _ => q_2_25
  | 11, _ => q_2_27
  | k + 12, hk => absurd hk (by omega))
set_option maxRecDepth 20000 in
theorem inX8 : ∀ w ∈ wsX80, w ∈ lw_tbl := p_u (fun k hk => match k, hk with
  | 0, _ => q_1_220
  | 1, _ => q_1_222
  | 2, _ => q_1_224
  | 3, _ => q_1_226
  | 4, _ => q_1_228
  | 5, _ => q_1_230
  | k + 6, hk => absurd hk (by omega))
set_option maxRecDepth 20000 in
theorem mX6_isBetter_in : ∀ w ∈ wsX6_isBetter, w ∈ lw_tbl := by
  unfold wsX6_isBetter
  exact p_c q_4_63 (p_a (p_c q_2_0 (p_c q_2_1 (p_c q_2_2 p_n))) (inX6))
set_option maxRecDepth 20000 in
theorem mX6_offer_in : ∀ w ∈ wsX6_offer, w ∈ lw_tbl := by
  unfold wsX6_offer
  exact p_c q_4_59 (p_a (p_a (p_c q_2_0 (p_c q_2_1 (p_c q_2_4 (p_c q_2_2 (p_c q_2_3 (p_c q_4_60 (p_c q_4_62 (p_c q_k_12 (p_c q_1_12 p_n))))))))) (inX6)) (mX6_isBetter_in))
set_option maxRecDepth 20000 in
theorem mX6_tryAsItIs_in : ∀ w ∈ wsX6_tryAsItIs, w ∈ lw_tbl := by
  unfold wsX6_tryAsItIs
  exact p_c q_4_53 (p_a (p_a (p_a (p_a (p_a (p_a (p_c q_1_235 (p_c q_4_54 (p_c q_2_167 (p_c q_2_168 (p_c q_1_6 (p_c q_4_55 (p_c q_3_211 (p_c q_3_212 (p_c q_1_9 (p_c q_4_56 (p_c q_4_58 (p_c q_k_11 (p_c q_1_12 p_n))))))))))))) (inX6)) (inX5)) (inX3)) (mX5_get_in)) (mX3_of_in)) (mX6_offer_in))
set_option maxRecDepth 20000 in
theorem mX8_begin_in : ∀ w ∈ wsX8_begin, w ∈ lw_tbl := by
  unfold wsX8_begin
  exact p_c q_4_72 (p_a (p_c q_1_216 (p_c q_1_217 (p_c q_1_218 (p_c q_1_219 p_n)))) (inX8))
set_option maxRecDepth 20000 in
theorem mX4_readIn_in : ∀ w ∈ wsX4_readIn, w ∈ lw_tbl := by
  unfold wsX4_readIn
  exact p_c q_4_77 (p_a (p_c q_1_106 (p_c q_1_105 p_n)) (inX4))
set_option maxRecDepth 20000 in
theorem mX4_writtenIn_in : ∀ w ∈ wsX4_writtenIn, w ∈ lw_tbl := by
  unfold wsX4_writtenIn
  exact p_c q_4_82 (p_a (p_c q_1_106 (p_c q_1_104 p_n)) (inX4))
set_option maxRecDepth 20000 in
theorem mX8_step_in : ∀ w ∈ wsX8_step, w ∈ lw_tbl := by
  unfold wsX8_step
  exact p_c q_4_90 (p_a (p_a (p_a (p_a (p_a (p_a (p_a (p_a (p_a (p_c q_1_214 (p_c q_1_216 (p_c q_1_218 (p_c q_1_215 (p_c q_1_217 (p_c q_1_219 (p_c q_4_95 (p_c q_1_78 (p_c q_1_7 (p_c q_1_79 (p_c q_4_91 (p_c q_2_222 (p_c q_2_223 (p_c q_1_2 (p_c q_4_92 (p_c q_3_12 (p_c q_4_93 (p_c q_3_211 (p_c q_3_212 (p_c q_1_9 (p_c q_4_94 (p_c q_3_16 p_n)))))))))))))))))))))) (inX8)) (inX5)) (inX2)) (inX10)) (inX3)) (mX2_decode_in)) (mX2_letterIn_in)) (mX3_of_in)) (mX2_bytesIn_in))
set_option maxRecDepth 20000 in
theorem mX8_goOn_in : ∀ w ∈ wsX8_goOn, w ∈ lw_tbl := by
  unfold wsX8_goOn
  exact p_c q_4_86 (p_a (p_a (p_a (p_a (p_a (p_a (p_c q_1_216 (p_c q_4_87 (p_c q_4_88 (p_c q_4_89 (p_c q_1_13 p_n))))) (inX8)) (inX5)) (inX2)) (inX10)) (inX3)) (mX8_step_in))
set_option maxRecDepth 20000 in
theorem mX8_letters_in : ∀ w ∈ wsX8_letters, w ∈ lw_tbl := by
  unfold wsX8_letters
  exact p_c q_4_99 (p_a (p_c q_1_219 p_n) (inX8))
set_option maxRecDepth 20000 in
theorem mX8_reached_in : ∀ w ∈ wsX8_reached, w ∈ lw_tbl := by
  unfold wsX8_reached
  exact p_c q_4_103 (p_a (p_c q_1_216 p_n) (inX8))
set_option maxRecDepth 20000 in
theorem mX8_sumWith_in : ∀ w ∈ wsX8_sumWith, w ∈ lw_tbl := by
  unfold wsX8_sumWith
  exact p_c q_4_107 (p_a (p_a (p_a (p_c q_1_218 (p_c q_1_215 (p_c q_1_217 (p_c q_4_93 (p_c q_3_211 (p_c q_3_212 (p_c q_1_9 p_n))))))) (inX8)) (inX3)) (mX3_of_in))
set_option maxRecDepth 20000 in
theorem mX6_tryUndone_in : ∀ w ∈ wsX6_tryUndone, w ∈ lw_tbl := by
  unfold wsX6_tryUndone
  exact p_c q_4_68 (p_a (p_a (p_a (p_a (p_a (p_a (p_a (p_a (p_a (p_a (p_a (p_a (p_a (p_a (p_a (p_a (p_a (p_a (p_a (p_c q_1_236 (p_c q_1_237 (p_c q_1_233 (p_c q_1_234 (p_c q_4_69 (p_c q_4_70 (p_c q_4_71 (p_c q_1_13 (p_c q_4_73 (p_c q_2_155 (p_c q_2_156 (p_c q_1_6 (p_c q_4_74 (p_c q_4_75 (p_c q_4_76 (p_c q_1_8 (p_c q_4_54 (p_c q_2_167 (p_c q_2_168 (p_c q_4_78 (p_c q_3_98 (p_c q_3_99 (p_c q_1_2 (p_c q_4_79 (p_c q_4_80 (p_c q_4_81 (p_c q_4_48 (p_c q_2_143 (p_c q_2_144 (p_c q_4_83 (p_c q_4_84 (p_c q_4_85 (p_c q_4_96 (p_c q_4_97 (p_c q_4_98 (p_c q_4_100 (p_c q_4_101 (p_c q_4_102 (p_c q_4_104 (p_c q_4_105 (p_c q_4_106 (p_c q_4_56 (p_c q_4_58 (p_c q_k_11 (p_c q_1_12 p_n))))))))))))))))))))))))))))))))))))))))))))) (inX6)) (inX8)) (inX5)) (inX4)) (inX2)) (inX10)) (inX3)) (mX8_begin_in)) (mX5_cut_in)) (mX4_readIn_in)) (mX5_get_in)) (mX2_encode_in)) (mX4_writtenIn_in)) (mX5_length_in)) (mX8_goOn_in)) (mX8_letters_in)) (mX8_reached_in)) (mX8_sumWith_in)) (mX6_offer_in))
set_option maxRecDepth 20000 in
theorem mX6_find_in : ∀ w ∈ wsX6_find, w ∈ lw_tbl := by
  unfold wsX6_find
  exact p_c q_4_47 (p_a (p_a (p_a (p_a (p_a (p_a (p_a (p_a (p_a (p_a (p_a (p_c q_2_4 (p_c q_4_49 (p_c q_2_197 (p_c q_1_7 (p_c q_2_198 (p_c q_2_0 (p_c q_2_1 (p_c q_1_234 (p_c q_4_48 (p_c q_2_143 (p_c q_2_144 (p_c q_1_6 (p_c q_4_50 (p_c q_4_52 (p_c q_k_10 (p_c q_1_12 (p_c q_4_64 (p_c q_3_64 (p_c q_3_65 (p_c q_1_8 (p_c q_4_65 (p_c q_4_67 (p_c q_k_13 p_n))))))))))))))))))))))) (inX6)) (inX5)) (inX3)) (inX4)) (inX8)) (inX2)) (inX10)) (mX5_length_in)) (mX6_tryAsItIs_in)) (mX4_length_in)) (mX6_tryUndone_in))
set_option maxRecDepth 20000 in
theorem mX6_build_in : ∀ w ∈ wsX6_build, w ∈ lw_tbl := by
  unfold wsX6_build
  exact p_c q_4_111 (p_a (p_a (p_a (p_a (p_a (p_a (p_a (p_a (p_a (p_a (p_a (p_a (p_a (p_c q_4_49 (p_c q_2_197 (p_c q_1_7 (p_c q_2_198 (p_c q_1_238 (p_c q_2_2 (p_c q_2_3 (p_c q_1_239 (p_c q_1_234 (p_c q_4_116 (p_c q_1_78 (p_c q_1_79 (p_c q_4_73 (p_c q_2_155 (p_c q_2_156 (p_c q_1_6 (p_c q_4_48 (p_c q_2_143 (p_c q_2_144 (p_c q_4_54 (p_c q_2_167 (p_c q_2_168 (p_c q_4_112 (p_c q_2_147 (p_c q_2_148 (p_c q_4_113 (p_c q_2_177 (p_c q_2_178 (p_c q_2_181 (p_c q_2_182 (p_c q_4_114 (p_c q_3_196 (p_c q_3_197 (p_c q_1_8 (p_c q_4_115 p_n))))))))))))))))))))))))))))))))))) (inX6)) (inX5)) (inX4)) (inX7)) (inX2)) (inX10)) (mX5_cut_in)) (mX5_length_in)) (mX5_get_in)) (mX5_add_in)) (mX5_takeAll_in)) (mX4_takeOff_in)) (mX5_addAll_in))
set_option maxRecDepth 20000 in
theorem mX6_spans_in : ∀ w ∈ wsX6_spans, w ∈ lw_tbl := by
  unfold wsX6_spans
  exact p_c q_4_120 (p_a (p_c q_2_1 p_n) (inX6))
set_option maxRecDepth 20000 in
theorem mX11_parts_in : ∀ w ∈ wsX11_parts, w ∈ lw_tbl := by
  unfold wsX11_parts
  exact p_c q_4_43 (p_a (p_a (p_a (p_a (p_a (p_a (p_a (p_a (p_a (p_a (p_a (p_a (p_a (p_a (p_a (p_a (p_c q_2_112 (p_c q_2_102 (p_c q_2_110 (p_c q_2_103 (p_c q_2_142 (p_c q_2_143 (p_c q_2_144 (p_c q_1_6 (p_c q_4_44 (p_c q_4_45 (p_c q_4_46 (p_c q_1_12 (p_c q_1_1 (p_c q_4_108 (p_c q_4_109 (p_c q_4_110 (p_c q_2_187 (p_c q_2_189 (p_c q_k_1 (p_c q_4_117 (p_c q_4_118 (p_c q_4_119 p_n)))))))))))))))))))))) (inX11)) (inX5)) (inX6)) (inX3)) (inX4)) (inX8)) (inX2)) (inX10)) (inX7)) (inX0)) (inX1)) (mX5_length_in)) (mX6_find_in)) (mX6_build_in)) (mX11_become_in)) (mX6_spans_in))
set_option maxRecDepth 20000 in
theorem mX12_takeSpan_in : ∀ w ∈ wsX12_takeSpan, w ∈ lw_tbl := by
  unfold wsX12_takeSpan
  exact p_c q_6_103 (p_a (p_a (p_c q_5_74 (p_c q_5_73 (p_c q_5_45 (p_c q_5_51 (p_c q_5_52 (p_c q_6_33 (p_c q_6_35 (p_c q_k_30 (p_c q_1_15 p_n))))))))) (inX12)) (mX12_undoes_in))
set_option maxRecDepth 20000 in
theorem mX12_parts_in : ∀ w ∈ wsX12_parts, w ∈ lw_tbl := by
  unfold wsX12_parts
  exact p_c q_6_99 (p_a (p_a (p_a (p_a (p_c q_5_67 (p_c q_5_66 (p_c q_5_44 (p_c q_5_78 (p_c q_5_53 (p_c q_5_73 (p_c q_5_74 (p_c q_5_77 (p_c q_5_79 (p_c q_5_80 (p_c q_5_81 (p_c q_6_100 (p_c q_6_102 (p_c q_k_35 (p_c q_1_15 (p_c q_6_68 (p_c q_6_70 (p_c q_k_33 (p_c q_5_182 (p_c q_5_184 (p_c q_k_20 p_n))))))))))))))))))))) (inX12)) (mX12_takeSpan_in)) (mX12_costOf__in)) (mX12_become_in))
set_option maxRecDepth 20000 in
theorem mX1_layOut_in : ∀ w ∈ wsX1_layOut, w ∈ lw_tbl := by
  unfold wsX1_layOut
  exact p_c q_4_128 (p_a (p_a (p_a (p_a (p_a (p_a (p_a (p_a (p_a (p_c q_2_42 (p_c q_2_58 (p_c q_2_59 (p_c q_4_132 (p_c q_2_40 (p_c q_4_129 (p_c q_2_155 (p_c q_2_156 (p_c q_1_6 (p_c q_4_130 (p_c q_2_143 (p_c q_2_144 (p_c q_4_131 (p_c q_2_167 (p_c q_2_168 (p_c q_4_133 (p_c q_2_147 (p_c q_2_148 (p_c q_4_134 (p_c q_3_98 (p_c q_3_99 (p_c q_1_2 p_n)))))))))))))))))))))) (inX1)) (inX5)) (inX2)) (inX10)) (mX5_cut_in)) (mX5_length_in)) (mX5_get_in)) (mX5_add_in)) (mX2_encode_in))
set_option maxRecDepth 20000 in
theorem mX1_findTails_in : ∀ w ∈ wsX1_findTails, w ∈ lw_tbl := by
  unfold wsX1_findTails
  exact p_c q_4_142 (p_a (p_a (p_a (p_a (p_a (p_a (p_a (p_a (p_a (p_a (p_c q_2_42 (p_c q_4_143 (p_c q_2_197 (p_c q_1_7 (p_c q_2_198 (p_c q_2_43 (p_c q_2_44 (p_c q_2_45 (p_c q_2_59 (p_c q_2_40 (p_c q_2_56 (p_c q_2_41 (p_c q_4_130 (p_c q_2_143 (p_c q_2_144 (p_c q_1_6 (p_c q_4_144 (p_c q_2_222 (p_c q_2_223 (p_c q_1_2 (p_c q_4_145 (p_c q_3_16 (p_c q_4_146 (p_c q_3_12 (p_c q_4_147 (p_c q_3_211 (p_c q_3_212 (p_c q_1_9 p_n)))))))))))))))))))))))))))) (inX1)) (inX5)) (inX2)) (inX10)) (inX3)) (mX5_length_in)) (mX2_decode_in)) (mX2_bytesIn_in)) (mX2_letterIn_in)) (mX3_of_in))
set_option maxRecDepth 20000 in
theorem mX8_takeAll_in : ∀ w ∈ wsX8_takeAll, w ∈ lw_tbl := by
  unfold wsX8_takeAll
  exact p_c q_4_153 (p_a (p_c q_1_216 (p_c q_1_217 (p_c q_1_218 (p_c q_1_219 p_n)))) (inX8))
set_option maxRecDepth 20000 in
theorem mX5_set_in : ∀ w ∈ wsX5_set, w ∈ lw_tbl := by
  unfold wsX5_set
  exact p_c q_4_162 (p_a (p_c q_1_81 (p_c q_1_80 p_n)) (inX5))
set_option maxRecDepth 20000 in
theorem mX1_comesBack_in : ∀ w ∈ wsX1_comesBack, w ∈ lw_tbl := by
  unfold wsX1_comesBack
  exact p_c q_4_166 (p_a (p_a (p_a (p_a (p_a (p_a (p_c q_2_42 (p_c q_2_40 (p_c q_2_57 (p_c q_2_59 (p_c q_2_58 (p_c q_4_130 (p_c q_2_143 (p_c q_2_144 (p_c q_1_6 (p_c q_4_144 (p_c q_2_222 (p_c q_2_223 (p_c q_1_2 p_n))))))))))))) (inX1)) (inX5)) (inX2)) (inX10)) (mX5_length_in)) (mX2_decode_in))
set_option maxRecDepth 20000 in
theorem mX1_keep_in : ∀ w ∈ wsX1_keep, w ∈ lw_tbl := by
  unfold wsX1_keep
  exact p_c q_4_178 (p_a (p_c q_2_53 (p_c q_2_51 (p_c q_4_143 (p_c q_2_197 (p_c q_1_7 (p_c q_2_198 (p_c q_2_49 (p_c q_2_50 (p_c q_2_52 p_n))))))))) (inX1))
set_option maxRecDepth 20000 in
theorem mX1_tryWhole_in : ∀ w ∈ wsX1_tryWhole, w ∈ lw_tbl := by
  unfold wsX1_tryWhole
  exact p_c q_4_170 (p_a (p_a (p_a (p_a (p_a (p_a (p_a (p_a (p_a (p_a (p_a (p_a (p_a (p_c q_2_48 (p_c q_2_47 (p_c q_2_59 (p_c q_2_56 (p_c q_2_42 (p_c q_2_45 (p_c q_2_54 (p_c q_2_43 (p_c q_2_44 (p_c q_4_150 (p_c q_4_151 (p_c q_4_152 (p_c q_1_13 (p_c q_4_171 (p_c q_4_101 (p_c q_4_102 (p_c q_4_130 (p_c q_2_143 (p_c q_2_144 (p_c q_1_6 (p_c q_4_172 (p_c q_4_88 (p_c q_4_89 (p_c q_4_173 (p_c q_4_97 (p_c q_4_98 (p_c q_4_174 (p_c q_4_105 (p_c q_4_106 (p_c q_4_175 (p_c q_4_177 (p_c q_k_18 (p_c q_1_14 p_n))))))))))))))))))))))))))))))))) (inX1)) (inX8)) (inX5)) (inX2)) (inX10)) (inX3)) (mX8_takeAll_in)) (mX8_reached_in)) (mX5_length_in)) (mX8_step_in)) (mX8_letters_in)) (mX8_sumWith_in)) (mX1_keep_in))
set_option maxRecDepth 20000 in
theorem mX1_tryLast_in : ∀ w ∈ wsX1_tryLast, w ∈ lw_tbl := by
  unfold wsX1_tryLast
  exact p_c q_4_157 (p_a (p_a (p_a (p_a (p_a (p_a (p_a (p_a (p_a (p_a (p_c q_2_40 (p_c q_2_57 (p_c q_2_42 (p_c q_2_59 (p_c q_4_158 (p_c q_2_227 (p_c q_2_228 (p_c q_1_2 (p_c q_4_159 (p_c q_4_160 (p_c q_4_161 (p_c q_1_6 (p_c q_4_163 (p_c q_4_165 (p_c q_k_16 (p_c q_1_14 (p_c q_4_167 (p_c q_4_169 (p_c q_k_17 p_n))))))))))))))))))) (inX1)) (inX2)) (inX10)) (inX5)) (inX8)) (inX3)) (mX2_letterAlone_in)) (mX5_set_in)) (mX1_comesBack_in)) (mX1_tryWhole_in))
set_option maxRecDepth 20000 in
theorem mX1_find_in : ∀ w ∈ wsX1_find, w ∈ lw_tbl := by
  unfold wsX1_find
  exact p_c q_4_138 (p_a (p_a (p_a (p_a (p_a (p_a (p_a (p_a (p_a (p_a (p_a (p_a (p_a (p_c q_2_56 (p_c q_2_57 (p_c q_2_53 (p_c q_2_54 (p_c q_2_46 (p_c q_2_58 (p_c q_2_42 (p_c q_2_59 (p_c q_2_47 (p_c q_2_40 (p_c q_2_55 (p_c q_4_139 (p_c q_4_141 (p_c q_k_14 (p_c q_1_14 (p_c q_1_6 (p_c q_1_2 (p_c q_2_227 (p_c q_2_228 (p_c q_4_148 (p_c q_4_70 (p_c q_4_71 (p_c q_1_13 (p_c q_4_149 (p_c q_4_84 (p_c q_4_85 (p_c q_4_150 (p_c q_4_151 (p_c q_4_152 (p_c q_4_154 (p_c q_4_156 (p_c q_k_15 (p_c q_4_158 (p_c q_4_159 (p_c q_4_160 (p_c q_4_161 p_n)))))))))))))))))))))))))))))))))))) (inX1)) (inX5)) (inX2)) (inX10)) (inX3)) (inX8)) (mX1_findTails_in)) (mX8_begin_in)) (mX8_goOn_in)) (mX8_takeAll_in)) (mX1_tryLast_in)) (mX2_letterAlone_in)) (mX5_set_in))
set_option maxRecDepth 20000 in
theorem mX11_choices_in : ∀ w ∈ wsX11_choices, w ∈ lw_tbl := by
  unfold wsX11_choices
  exact p_c q_4_124 (p_a (p_a (p_a (p_a (p_a (p_a (p_a (p_a (p_a (p_a (p_a (p_a (p_c q_2_112 (p_c q_2_102 (p_c q_2_111 (p_c q_3_71 (p_c q_3_72 (p_c q_1_1 (p_c q_2_142 (p_c q_2_143 (p_c q_2_144 (p_c q_1_6 (p_c q_2_208 (p_c q_2_209 (p_c q_1_2 (p_c q_4_125 (p_c q_4_126 (p_c q_4_127 (p_c q_1_14 (p_c q_4_135 (p_c q_4_136 (p_c q_4_137 p_n)))))))))))))))))))) (inX11)) (inX5)) (inX1)) (inX2)) (inX10)) (inX3)) (inX8)) (mX11_marksOf_in)) (mX2_known_in)) (mX5_length_in)) (mX1_layOut_in)) (mX1_find_in))
set_option maxRecDepth 20000 in
theorem mX12_writeWith_in : ∀ w ∈ wsX12_writeWith, w ∈ lw_tbl := by
  unfold wsX12_writeWith
  exact p_c q_6_111 (p_a (p_a (p_a (p_c q_5_69 (p_c q_5_44 (p_c q_5_45 (p_c q_5_208 (p_c q_5_72 (p_c q_6_1 (p_c q_6_3 (p_c q_k_27 (p_c q_1_15 (p_c q_5_237 (p_c q_5_239 (p_c q_k_26 p_n)))))))))))) (inX12)) (mX12_put_in)) (mX12_writeLetter_in))
set_option maxRecDepth 20000 in
theorem mX12_isAlone_in : ∀ w ∈ wsX12_isAlone, w ∈ lw_tbl := by
  unfold wsX12_isAlone
  exact p_c q_6_115 (p_a (p_a (p_c q_5_68 (p_c q_5_69 (p_c q_5_197 (p_c q_5_199 (p_c q_k_22 (p_c q_1_15 p_n)))))) (inX12)) (mX12_readAt_in))
set_option maxRecDepth 20000 in
theorem mX12_isChoice_in : ∀ w ∈ wsX12_isChoice, w ∈ lw_tbl := by
  unfold wsX12_isChoice
  exact p_c q_6_119 (p_a (p_a (p_a (p_a (p_c q_5_71 (p_c q_5_74 (p_c q_5_73 (p_c q_5_70 (p_c q_5_69 (p_c q_5_44 (p_c q_5_45 (p_c q_6_108 (p_c q_6_110 (p_c q_k_36 (p_c q_1_15 (p_c q_5_193 (p_c q_5_195 (p_c q_k_21 (p_c q_5_233 (p_c q_5_235 (p_c q_k_25 p_n))))))))))))))))) (inX12)) (mX12_writeWith_in)) (mX12_read_in)) (mX12_write_in))
set_option maxRecDepth 20000 in
theorem mX12_choices_in : ∀ w ∈ wsX12_choices, w ∈ lw_tbl := by
  unfold wsX12_choices
  exact p_c q_6_107 (p_a (p_a (p_a (p_a (p_a (p_a (p_a (p_c q_5_67 (p_c q_5_66 (p_c q_5_44 (p_c q_5_72 (p_c q_5_73 (p_c q_5_74 (p_c q_5_60 (p_c q_5_61 (p_c q_5_62 (p_c q_5_63 (p_c q_5_64 (p_c q_5_65 (p_c q_5_221 (p_c q_5_223 (p_c q_k_24 (p_c q_1_15 (p_c q_5_190 (p_c q_5_191 (p_c q_6_108 (p_c q_6_110 (p_c q_k_36 (p_c q_6_112 (p_c q_6_114 (p_c q_k_37 (p_c q_6_116 (p_c q_6_118 (p_c q_k_38 (p_c q_6_68 (p_c q_6_70 (p_c q_k_33 p_n)))))))))))))))))))))))))))))) (inX12)) (mX12_marksOf_in)) (mX12_isCode_in)) (mX12_writeWith_in)) (mX12_isAlone_in)) (mX12_isChoice_in)) (mX12_costOf__in))
set_option maxRecDepth 20000 in
theorem mX1_told_in : ∀ w ∈ wsX1_told, w ∈ lw_tbl := by
  unfold wsX1_told
  exact p_c q_4_186 (p_a (p_c q_2_53 (p_c q_2_49 (p_c q_2_50 (p_c q_2_51 (p_c q_2_52 p_n))))) (inX1))
set_option maxRecDepth 20000 in
theorem mX11_choice_in : ∀ w ∈ wsX11_choice, w ∈ lw_tbl := by
  unfold wsX11_choice
  exact p_c q_4_182 (p_a (p_a (p_a (p_c q_2_111 (p_c q_4_183 (p_c q_4_184 (p_c q_4_185 (p_c q_1_14 p_n))))) (inX11)) (inX1)) (mX1_told_in))
set_option maxRecDepth 20000 in
theorem mX12_isToldChoice_in : ∀ w ∈ wsX12_isToldChoice, w ∈ lw_tbl := by
  unfold wsX12_isToldChoice
  exact p_c q_6_127 (p_a (p_c q_5_61 p_n) (inX12))
set_option maxRecDepth 20000 in
theorem mX12_choice_in : ∀ w ∈ wsX12_choice, w ∈ lw_tbl := by
  unfold wsX12_choice
  exact p_c q_6_123 (p_a (p_a (p_c q_5_67 (p_c q_5_60 (p_c q_6_124 (p_c q_6_126 (p_c q_k_39 (p_c q_1_15 p_n)))))) (inX12)) (mX12_isToldChoice_in))
set_option maxRecDepth 20000 in
theorem mX1_isFresh_in : ∀ w ∈ wsX1_isFresh, w ∈ lw_tbl := by
  unfold wsX1_isFresh
  exact p_c q_4_194 (p_a (p_c q_2_55 (p_c q_2_53 p_n)) (inX1))
set_option maxRecDepth 20000 in
theorem mX1_build_in : ∀ w ∈ wsX1_build, w ∈ lw_tbl := by
  unfold wsX1_build
  exact p_c q_4_198 (p_a (p_a (p_a (p_a (p_a (p_a (p_a (p_a (p_c q_2_53 (p_c q_2_57 (p_c q_2_42 (p_c q_2_58 (p_c q_2_59 (p_c q_2_49 (p_c q_2_50 (p_c q_2_56 (p_c q_4_199 (p_c q_4_126 (p_c q_4_127 (p_c q_1_14 (p_c q_1_6 (p_c q_4_159 (p_c q_4_160 (p_c q_4_161 (p_c q_4_200 (p_c q_2_216 (p_c q_2_217 (p_c q_1_5 p_n)))))))))))))))))))) (inX1)) (inX5)) (inX2)) (inX10)) (inX7)) (mX1_layOut_in)) (mX5_set_in)) (mX7_readExactly_in))
set_option maxRecDepth 20000 in
theorem mX11_chosen_in : ∀ w ∈ wsX11_chosen, w ∈ lw_tbl := by
  unfold wsX11_chosen
  exact p_c q_4_190 (p_a (p_a (p_a (p_a (p_a (p_a (p_a (p_a (p_a (p_a (p_c q_2_111 (p_c q_2_102 (p_c q_2_105 (p_c q_2_103 (p_c q_4_191 (p_c q_4_192 (p_c q_4_193 (p_c q_1_14 (p_c q_4_195 (p_c q_4_196 (p_c q_4_197 (p_c q_1_1 (p_c q_2_187 (p_c q_2_189 (p_c q_k_1 p_n))))))))))))))) (inX11)) (inX1)) (inX5)) (inX2)) (inX10)) (inX7)) (inX0)) (mX1_isFresh_in)) (mX1_build_in)) (mX11_become_in))
set_option maxRecDepth 20000 in
theorem mX12_chosen_in : ∀ w ∈ wsX12_chosen, w ∈ lw_tbl := by
  unfold wsX12_chosen
  exact p_c q_6_131 (p_a (p_a (p_a (p_a (p_c q_5_67 (p_c q_5_65 (p_c q_5_64 (p_c q_5_62 (p_c q_5_63 (p_c q_5_60 (p_c q_5_73 (p_c q_5_74 (p_c q_6_124 (p_c q_6_126 (p_c q_k_39 (p_c q_1_15 (p_c q_6_116 (p_c q_6_118 (p_c q_k_38 (p_c q_5_182 (p_c q_5_184 (p_c q_k_20 p_n)))))))))))))))))) (inX12)) (mX12_isToldChoice_in)) (mX12_isChoice_in)) (mX12_become_in))
set_option maxRecDepth 20000 in
theorem mL_at2_in : ∀ w ∈ wsL_at2, w ∈ lw_tbl := by
  unfold wsL_at2
  exact p_c q_4_203 (p_a (p_a (p_a (p_c q_4_204 (p_c q_4_205 (p_c q_4_206 (p_c q_4_207 (p_c q_1_1 (p_c q_4_208 (p_c q_4_209 (p_c q_1_20 (p_c q_2_102 (p_c q_2_142 (p_c q_2_143 (p_c q_2_144 (p_c q_1_6 (p_c q_2_145 (p_c q_1_81 (p_c q_2_166 (p_c q_2_167 (p_c q_2_168 (p_c q_2_169 (p_c q_1_80 p_n)))))))))))))))))))) (inX11)) (inX5)) (wsL_law_x0))
set_option maxRecDepth 20000 in
theorem mX12_at_in : ∀ w ∈ wsX12_at, w ∈ lw_tbl := by
  unfold wsX12_at
  exact p_c q_5_228 (p_a (p_c q_5_67 (p_c q_5_44 (p_c q_5_45 p_n))) (inX12))
set_option maxRecDepth 20000 in
theorem mX10_init_in : ∀ w ∈ wsX10_init, w ∈ lw_tbl := by
  unfold wsX10_init
  exact p_c q_1_39 (p_a (p_a (p_c q_1_40 (p_c q_1_27 (p_c q_1_28 (p_c q_1_57 (p_c q_1_44 (p_c q_1_45 (p_c q_1_46 (p_c q_1_47 (p_c q_1_41 (p_c q_1_42 (p_c q_1_4 p_n))))))))))) (inX10)) (mJ7_fill_53178_in))
set_option maxRecDepth 20000 in
theorem mX2_init_in : ∀ w ∈ wsX2_init, w ∈ lw_tbl := by
  unfold wsX2_init
  exact p_c q_1_33 (p_a (p_a (p_a (p_c q_1_34 (p_c q_1_27 (p_c q_1_28 (p_c q_1_35 (p_c q_1_36 (p_c q_1_3 (p_c q_1_58 (p_c q_1_59 (p_c q_1_37 (p_c q_1_38 p_n)))))))))) (inX10)) (inX2)) (mX10_init_in))
set_option maxRecDepth 20000 in
theorem mX5_init_in : ∀ w ∈ wsX5_init, w ∈ lw_tbl := by
  unfold wsX5_init
  exact p_c q_1_75 (p_a (p_c q_1_76 (p_c q_1_27 (p_c q_1_28 (p_c q_1_77 (p_c q_1_78 (p_c q_1_7 (p_c q_1_79 (p_c q_1_57 (p_c q_1_80 (p_c q_1_81 p_n)))))))))) (inX5))
set_option maxRecDepth 20000 in
theorem mX7_init_in : ∀ w ∈ wsX7_init, w ∈ lw_tbl := by
  unfold wsX7_init
  exact p_c q_1_69 (p_a (p_a (p_a (p_c q_1_70 (p_c q_1_27 (p_c q_1_28 (p_c q_1_71 (p_c q_1_72 (p_c q_1_6 (p_c q_1_88 (p_c q_1_87 (p_c q_1_89 (p_c q_1_73 (p_c q_1_74 p_n))))))))))) (inX5)) (inX7)) (mX5_init_in))
set_option maxRecDepth 20000 in
theorem mX4_init_in : ∀ w ∈ wsX4_init, w ∈ lw_tbl := by
  unfold wsX4_init
  exact p_c q_1_101 (p_a (p_c q_1_102 (p_c q_1_27 (p_c q_1_28 (p_c q_1_57 (p_c q_1_104 (p_c q_1_105 (p_c q_1_103 (p_c q_1_106 p_n)))))))) (inX4))
set_option maxRecDepth 20000 in
theorem mX3_init_in : ∀ w ∈ wsX3_init, w ∈ lw_tbl := by
  unfold wsX3_init
  exact p_c q_1_120 (p_a (p_a (p_c q_1_121 (p_c q_1_27 (p_c q_1_28 (p_c q_1_57 (p_c q_1_123 (p_c q_1_124 (p_c q_1_125 (p_c q_1_122 (p_c q_1_42 (p_c q_1_4 p_n)))))))))) (inX3)) (mJ7_fill_53178_in))
set_option maxRecDepth 20000 in
theorem mX0_init_in : ∀ w ∈ wsX0_init, w ∈ lw_tbl := by
  unfold wsX0_init
  exact p_c q_1_139 (p_a (p_c q_1_140 (p_c q_1_27 (p_c q_1_28 (p_c q_1_57 (p_c q_1_141 (p_c q_1_142 (p_c q_1_143 (p_c q_1_144 p_n)))))))) (inX0))
set_option maxRecDepth 20000 in
theorem mX9_init_in : ∀ w ∈ wsX9_init, w ∈ lw_tbl := by
  unfold wsX9_init
  exact p_c q_1_158 (p_a (p_a (p_a (p_a (p_c q_1_159 (p_c q_1_27 (p_c q_1_28 (p_c q_1_160 (p_c q_1_72 (p_c q_1_6 (p_c q_1_165 (p_c q_1_166 (p_c q_1_167 (p_c q_1_57 (p_c q_1_168 (p_c q_1_169 (p_c q_1_170 (p_c q_1_171 (p_c q_1_172 (p_c q_1_173 (p_c q_1_163 (p_c q_1_164 (p_c q_1_174 (p_c q_1_161 (p_c q_1_74 (p_c q_1_162 (p_c q_1_42 (p_c q_1_4 p_n)))))))))))))))))))))))) (inX5)) (inX9)) (mX5_init_in)) (mJ7_fill_53178_in))
set_option maxRecDepth 20000 in
theorem mX8_init_in : ∀ w ∈ wsX8_init, w ∈ lw_tbl := by
  unfold wsX8_init
  exact p_c q_1_212 (p_a (p_c q_1_213 (p_c q_1_27 (p_c q_1_28 (p_c q_1_214 (p_c q_1_215 (p_c q_1_216 (p_c q_1_217 (p_c q_1_218 (p_c q_1_219 p_n))))))))) (inX8))
set_option maxRecDepth 20000 in
theorem mX6_init_in : ∀ w ∈ wsX6_init, w ∈ lw_tbl := by
  unfold wsX6_init
  exact p_c q_1_204 (p_a (p_a (p_a (p_a (p_a (p_c q_1_205 (p_c q_1_27 (p_c q_1_28 (p_c q_1_206 (p_c q_1_72 (p_c q_1_6 (p_c q_1_237 (p_c q_1_238 (p_c q_1_239 (p_c q_1_57 (p_c q_2_0 (p_c q_2_1 (p_c q_2_2 (p_c q_2_3 (p_c q_1_233 (p_c q_1_234 (p_c q_1_235 (p_c q_1_208 (p_c q_1_209 (p_c q_1_13 (p_c q_1_236 (p_c q_2_4 (p_c q_1_207 (p_c q_1_74 (p_c q_1_210 (p_c q_1_211 p_n)))))))))))))))))))))))))) (inX5)) (inX6)) (inX8)) (mX5_init_in)) (mX8_init_in))
set_option maxRecDepth 20000 in
theorem mX1_init_in : ∀ w ∈ wsX1_init, w ∈ lw_tbl := by
  unfold wsX1_init
  exact p_c q_2_34 (p_a (p_a (p_a (p_a (p_a (p_c q_2_35 (p_c q_1_27 (p_c q_1_28 (p_c q_2_36 (p_c q_1_72 (p_c q_1_6 (p_c q_2_42 (p_c q_1_57 (p_c q_2_43 (p_c q_2_44 (p_c q_2_45 (p_c q_2_49 (p_c q_2_50 (p_c q_2_51 (p_c q_2_52 (p_c q_2_40 (p_c q_2_41 (p_c q_2_38 (p_c q_1_209 (p_c q_1_13 (p_c q_2_46 (p_c q_2_47 (p_c q_2_48 (p_c q_2_53 (p_c q_2_54 (p_c q_2_55 (p_c q_2_56 (p_c q_2_57 (p_c q_2_58 (p_c q_2_59 (p_c q_2_37 (p_c q_1_74 (p_c q_2_39 (p_c q_1_211 p_n)))))))))))))))))))))))))))))))))) (inX5)) (inX1)) (inX8)) (mX5_init_in)) (mX8_init_in))
set_option maxRecDepth 20000 in
theorem mX11_init_in : ∀ w ∈ wsX11_init, w ∈ lw_tbl := by
  unfold wsX11_init
  exact p_c q_1_25 (p_a (p_a (p_a (p_a (p_a (p_a (p_a (p_a (p_a (p_a (p_a (p_a (p_a (p_a (p_a (p_a (p_a (p_a (p_a (p_a (p_a (p_c q_1_26 (p_c q_1_27 (p_c q_1_28 (p_c q_1_29 (p_c q_1_30 (p_c q_1_2 (p_c q_1_65 (p_c q_1_66 (p_c q_1_5 (p_c q_1_97 (p_c q_1_98 (p_c q_1_8 (p_c q_1_116 (p_c q_1_117 (p_c q_1_9 (p_c q_1_133 (p_c q_1_72 (p_c q_1_6 (p_c q_2_101 (p_c q_2_102 (p_c q_2_103 (p_c q_2_104 (p_c q_2_105 (p_c q_2_106 (p_c q_2_107 (p_c q_1_135 (p_c q_1_136 (p_c q_1_10 (p_c q_2_108 (p_c q_1_154 (p_c q_1_155 (p_c q_1_11 (p_c q_2_109 (p_c q_1_200 (p_c q_1_201 (p_c q_1_12 (p_c q_2_110 (p_c q_2_30 (p_c q_2_31 (p_c q_1_14 (p_c q_2_111 (p_c q_2_112 (p_c q_1_32 (p_c q_1_67 (p_c q_1_68 (p_c q_1_74 (p_c q_1_99 (p_c q_1_100 (p_c q_1_118 (p_c q_1_119 (p_c q_1_134 (p_c q_1_137 (p_c q_1_138 (p_c q_1_156 (p_c q_1_157 (p_c q_1_202 (p_c q_1_203 (p_c q_2_32 (p_c q_2_33 p_n))))))))))))))))))))))))))))))))))))))))))))))))))))))))))) (inX2)) (inX7)) (inX4)) (inX3)) (inX5)) (inX11)) (inX0)) (inX9)) (inX6)) (inX1)) (inX10)) (inX8)) (mX2_init_in)) (mX7_init_in)) (mX4_init_in)) (mX3_init_in)) (mX5_init_in)) (mX0_init_in)) (mX9_init_in)) (mX6_init_in)) (mX1_init_in))
set_option maxRecDepth 20000 in
theorem mX12_init_in : ∀ w ∈ wsX12_init, w ∈ lw_tbl := by
  unfold wsX12_init
  exact p_c q_5_39 (p_a (p_c q_5_40 (p_c q_1_27 (p_c q_1_28 (p_c q_1_57 (p_c q_5_42 (p_c q_5_44 (p_c q_5_45 (p_c q_5_48 (p_c q_5_41 (p_c q_5_163 (p_c q_5_49 (p_c q_5_50 (p_c q_5_51 (p_c q_5_52 (p_c q_5_54 (p_c q_5_56 (p_c q_5_57 (p_c q_5_58 (p_c q_5_60 (p_c q_5_65 (p_c q_5_66 (p_c q_5_68 (p_c q_5_70 (p_c q_5_73 (p_c q_5_75 (p_c q_5_77 (p_c q_5_78 (p_c q_5_79 (p_c q_5_80 (p_c q_5_81 p_n)))))))))))))))))))))))))))))) (inX12))
set_option maxRecDepth 20000 in
theorem gL_law_X11_feed : GoodIn lw_tbl (wsV RL 19 RX11 yX11_feed wsX11_feed) := by
  unfold wsV
  exact goodIn_app (goodIn_sub (p_c q_2_138 (p_c q_2_139 (p_c q_2_140 (p_c q_1_1 p_n)))) (by decide +kernel)) (goodIn_sub mX11_feed_in gX11_feed_all)
set_option maxRecDepth 20000 in
theorem gL_law_X12_feed : GoodIn lw_tbl (wsV RL 23 RX12 yX12_feed wsX12_feed) := by
  unfold wsV
  exact goodIn_app (goodIn_sub (p_c q_5_164 (p_c q_5_165 (p_c q_5_166 (p_c q_1_15 p_n)))) (by decide +kernel)) (goodIn_sub mX12_feed_in gX12_feed_all)
set_option maxRecDepth 20000 in
theorem gL_law_X11_end : GoodIn lw_tbl (wsV RL 24 RX11 yX11_end wsX11_end) := by
  unfold wsV
  exact goodIn_app (goodIn_sub (p_c q_2_150 (p_c q_2_151 (p_c q_2_152 (p_c q_1_1 p_n)))) (by decide +kernel)) (goodIn_sub mX11_end_in gX11_end_all)
set_option maxRecDepth 20000 in
theorem gL_law_X12_end : GoodIn lw_tbl (wsV RL 28 RX12 yX12_end wsX12_end) := by
  unfold wsV
  exact goodIn_app (goodIn_sub (p_c q_5_168 (p_c q_5_169 (p_c q_5_170 (p_c q_1_15 p_n)))) (by decide +kernel)) (goodIn_sub mX12_end_in gX12_end_all)
set_option maxRecDepth 20000 in
theorem gL_law_X11_text : GoodIn lw_tbl (wsV RL 29 RX11 yX11_text wsX11_text) := by
  unfold wsV
  exact goodIn_app (goodIn_sub (p_c q_2_158 (p_c q_2_159 (p_c q_2_160 (p_c q_1_1 p_n)))) (by decide +kernel)) (goodIn_sub mX11_text_in gX11_text_all)
set_option maxRecDepth 20000 in
theorem gL_law_X12_text : GoodIn lw_tbl (wsV RL 33 RX12 yX12_text wsX12_text) := by
  unfold wsV
  exact goodIn_app (goodIn_sub (p_c q_5_172 (p_c q_5_173 (p_c q_5_174 (p_c q_1_15 p_n)))) (by decide +kernel)) (goodIn_sub mX12_text_in gX12_text_all)
set_option maxRecDepth 20000 in
theorem gL_law_X11_read : GoodIn lw_tbl (wsV RL 34 RX11 yX11_read wsX11_read) := by
  unfold wsV
  exact goodIn_app (goodIn_sub (p_c q_2_204 (p_c q_2_205 (p_c q_2_206 (p_c q_1_1 p_n)))) (by decide +kernel)) (goodIn_sub mX11_read_in gX11_read_all)
set_option maxRecDepth 20000 in
theorem gL_law_X12_read_ : GoodIn lw_tbl (wsV RL 37 RX12 yX12_read_ wsX12_read_) := by
  unfold wsV
  exact goodIn_app (goodIn_sub (p_c q_5_186 (p_c q_5_187 (p_c q_5_188 (p_c q_1_15 p_n)))) (by decide +kernel)) (goodIn_sub mX12_read__in gX12_read__all)
set_option maxRecDepth 20000 in
theorem gL_law_X11_span : GoodIn lw_tbl (wsV RL 38 RX11 yX11_span wsX11_span) := by
  unfold wsV
  exact goodIn_app (goodIn_sub (p_c q_3_23 (p_c q_3_24 (p_c q_3_25 (p_c q_1_1 p_n)))) (by decide +kernel)) (goodIn_sub mX11_span_in gX11_span_all)
set_option maxRecDepth 20000 in
theorem gL_law_X12_span : GoodIn lw_tbl (wsV RL 41 RX12 yX12_span wsX12_span) := by
  unfold wsV
  exact goodIn_app (goodIn_sub (p_c q_5_209 (p_c q_5_210 (p_c q_5_211 (p_c q_1_15 p_n)))) (by decide +kernel)) (goodIn_sub mX12_span_in gX12_span_all)
set_option maxRecDepth 20000 in
theorem gL_law_X11_blank : GoodIn lw_tbl (wsV RL 42 RX11 yX11_blank wsX11_blank) := by
  unfold wsV
  exact goodIn_app (goodIn_sub (p_c q_3_51 (p_c q_3_52 (p_c q_3_53 (p_c q_1_1 p_n)))) (by decide +kernel)) (goodIn_sub mX11_blank_in gX11_blank_all)
set_option maxRecDepth 20000 in
theorem gL_law_X12_blank : GoodIn lw_tbl (wsV RL 45 RX12 yX12_blank wsX12_blank) := by
  unfold wsV
  exact goodIn_app (goodIn_sub (p_c q_5_213 (p_c q_5_214 (p_c q_5_215 (p_c q_1_15 p_n)))) (by decide +kernel)) (goodIn_sub mX12_blank_in gX12_blank_all)
set_option maxRecDepth 20000 in
theorem gL_law_X11_count : GoodIn lw_tbl (wsV RL 46 RX11 yX11_count wsX11_count) := by
  unfold wsV
  exact goodIn_app (goodIn_sub (p_c q_3_59 (p_c q_3_60 (p_c q_3_61 (p_c q_1_1 p_n)))) (by decide +kernel)) (goodIn_sub mX11_count_in gX11_count_all)
set_option maxRecDepth 20000 in
theorem gL_law_X12_count : GoodIn lw_tbl (wsV RL 49 RX12 yX12_count wsX12_count) := by
  unfold wsV
  exact goodIn_app (goodIn_sub (p_c q_5_217 (p_c q_5_218 (p_c q_5_219 (p_c q_1_15 p_n)))) (by decide +kernel)) (goodIn_sub mX12_count_in gX12_count_all)
set_option maxRecDepth 20000 in
theorem gL_law_X11_size : GoodIn lw_tbl (wsV RL 56 RX11 yX11_size wsX11_size) := by
  unfold wsV
  exact goodIn_app (goodIn_sub (p_c q_3_84 (p_c q_3_85 (p_c q_3_86 (p_c q_1_1 p_n)))) (by decide +kernel)) (goodIn_sub mX11_size_in gX11_size_all)
set_option maxRecDepth 20000 in
theorem gL_law_X12_size : GoodIn lw_tbl (wsV RL 59 RX12 yX12_size wsX12_size) := by
  unfold wsV
  exact goodIn_app (goodIn_sub (p_c q_5_229 (p_c q_5_230 (p_c q_5_231 (p_c q_1_15 p_n)))) (by decide +kernel)) (goodIn_sub mX12_size_in gX12_size_all)
set_option maxRecDepth 20000 in
theorem gL_law_X11_byteOf : GoodIn lw_tbl (wsV RL 60 RX11 yX11_byteOf wsX11_byteOf) := by
  unfold wsV
  exact goodIn_app (goodIn_sub (p_c q_3_113 (p_c q_3_114 (p_c q_3_115 (p_c q_1_1 p_n)))) (by decide +kernel)) (goodIn_sub mX11_byteOf_in gX11_byteOf_all)
set_option maxRecDepth 20000 in
theorem gL_law_X12_byteOf : GoodIn lw_tbl (wsV RL 64 RX12 yX12_byteOf wsX12_byteOf) := by
  unfold wsV
  exact goodIn_app (goodIn_sub (p_c q_6_5 (p_c q_6_6 (p_c q_6_7 (p_c q_1_15 p_n)))) (by decide +kernel)) (goodIn_sub mX12_byteOf_in gX12_byteOf_all)
set_option maxRecDepth 20000 in
theorem gL_law_X11_where : GoodIn lw_tbl (wsV RL 65 RX11 yX11_where wsX11_where) := by
  unfold wsV
  exact goodIn_app (goodIn_sub (p_c q_3_117 (p_c q_3_118 (p_c q_3_119 (p_c q_1_1 p_n)))) (by decide +kernel)) (goodIn_sub mX11_where_in gX11_where_all)
set_option maxRecDepth 20000 in
theorem gL_law_X12_where : GoodIn lw_tbl (wsV RL 68 RX12 yX12_where wsX12_where) := by
  unfold wsV
  exact goodIn_app (goodIn_sub (p_c q_6_9 (p_c q_6_10 (p_c q_6_11 (p_c q_1_15 p_n)))) (by decide +kernel)) (goodIn_sub mX12_where_in gX12_where_all)
set_option maxRecDepth 20000 in
theorem gL_law_X11_harm : GoodIn lw_tbl (wsV RL 69 RX11 yX11_harm wsX11_harm) := by
  unfold wsV
  exact goodIn_app (goodIn_sub (p_c q_3_121 (p_c q_3_122 (p_c q_3_123 (p_c q_1_1 p_n)))) (by decide +kernel)) (goodIn_sub mX11_harm_in gX11_harm_all)
set_option maxRecDepth 20000 in
theorem gL_law_X12_harm : GoodIn lw_tbl (wsV RL 72 RX12 yX12_harm wsX12_harm) := by
  unfold wsV
  exact goodIn_app (goodIn_sub (p_c q_6_13 (p_c q_6_14 (p_c q_6_15 (p_c q_1_15 p_n)))) (by decide +kernel)) (goodIn_sub mX12_harm_in gX12_harm_all)
set_option maxRecDepth 20000 in
theorem gL_law_X11_rough : GoodIn lw_tbl (wsV RL 73 RX11 yX11_rough wsX11_rough) := by
  unfold wsV
  exact goodIn_app (goodIn_sub (p_c q_3_135 (p_c q_3_136 (p_c q_3_137 (p_c q_1_1 p_n)))) (by decide +kernel)) (goodIn_sub mX11_rough_in gX11_rough_all)
set_option maxRecDepth 20000 in
theorem gL_law_X12_rough : GoodIn lw_tbl (wsV RL 76 RX12 yX12_rough wsX12_rough) := by
  unfold wsV
  exact goodIn_app (goodIn_sub (p_c q_6_21 (p_c q_6_22 (p_c q_6_23 (p_c q_1_15 p_n)))) (by decide +kernel)) (goodIn_sub mX12_rough_in gX12_rough_all)
set_option maxRecDepth 20000 in
theorem gL_law_X11_undo : GoodIn lw_tbl (wsV RL 77 RX11 yX11_undo wsX11_undo) := by
  unfold wsV
  exact goodIn_app (goodIn_sub (p_c q_3_144 (p_c q_3_145 (p_c q_3_146 (p_c q_1_1 p_n)))) (by decide +kernel)) (goodIn_sub mX11_undo_in gX11_undo_all)
set_option maxRecDepth 20000 in
theorem gL_law_X12_undo : GoodIn lw_tbl (wsV RL 80 RX12 yX12_undo wsX12_undo) := by
  unfold wsV
  exact goodIn_app (goodIn_sub (p_c q_6_25 (p_c q_6_26 (p_c q_6_27 (p_c q_1_15 p_n)))) (by decide +kernel)) (goodIn_sub mX12_undo_in gX12_undo_all)
set_option maxRecDepth 20000 in
theorem gL_law_X11_safe : GoodIn lw_tbl (wsV RL 81 RX11 yX11_safe wsX11_safe) := by
  unfold wsV
  exact goodIn_app (goodIn_sub (p_c q_3_148 (p_c q_3_149 (p_c q_3_150 (p_c q_1_1 p_n)))) (by decide +kernel)) (goodIn_sub mX11_safe_in gX11_safe_all)
set_option maxRecDepth 20000 in
theorem gL_law_X12_safe : GoodIn lw_tbl (wsV RL 84 RX12 yX12_safe wsX12_safe) := by
  unfold wsV
  exact goodIn_app (goodIn_sub (p_c q_6_37 (p_c q_6_38 (p_c q_6_39 (p_c q_1_15 p_n)))) (by decide +kernel)) (goodIn_sub mX12_safe_in gX12_safe_all)
set_option maxRecDepth 20000 in
theorem gL_law_X11_back : GoodIn lw_tbl (wsV RL 85 RX11 yX11_back wsX11_back) := by
  unfold wsV
  exact goodIn_app (goodIn_sub (p_c q_3_160 (p_c q_3_161 (p_c q_3_162 (p_c q_1_1 p_n)))) (by decide +kernel)) (goodIn_sub mX11_back_in gX11_back_all)
set_option maxRecDepth 20000 in
theorem gL_law_X12_back : GoodIn lw_tbl (wsV RL 88 RX12 yX12_back wsX12_back) := by
  unfold wsV
  exact goodIn_app (goodIn_sub (p_c q_6_45 (p_c q_6_46 (p_c q_6_47 (p_c q_1_15 p_n)))) (by decide +kernel)) (goodIn_sub mX12_back_in gX12_back_all)
set_option maxRecDepth 20000 in
theorem gL_law_X11_list : GoodIn lw_tbl (wsV RL 89 RX11 yX11_list wsX11_list) := by
  unfold wsV
  exact goodIn_app (goodIn_sub (p_c q_3_170 (p_c q_3_171 (p_c q_3_172 (p_c q_1_1 p_n)))) (by decide +kernel)) (goodIn_sub mX11_list_in gX11_list_all)
set_option maxRecDepth 20000 in
theorem gL_law_X12_list : GoodIn lw_tbl (wsV RL 92 RX12 yX12_list wsX12_list) := by
  unfold wsV
  exact goodIn_app (goodIn_sub (p_c q_6_49 (p_c q_6_50 (p_c q_6_51 (p_c q_1_15 p_n)))) (by decide +kernel)) (goodIn_sub mX12_list_in gX12_list_all)
set_option maxRecDepth 20000 in
theorem gL_law_X11_unlist : GoodIn lw_tbl (wsV RL 93 RX11 yX11_unlist wsX11_unlist) := by
  unfold wsV
  exact goodIn_app (goodIn_sub (p_c q_3_178 (p_c q_3_179 (p_c q_3_180 (p_c q_1_1 p_n)))) (by decide +kernel)) (goodIn_sub mX11_unlist_in gX11_unlist_all)
set_option maxRecDepth 20000 in
theorem gL_law_X12_unlist : GoodIn lw_tbl (wsV RL 96 RX12 yX12_unlist wsX12_unlist) := by
  unfold wsV
  exact goodIn_app (goodIn_sub (p_c q_6_53 (p_c q_6_54 (p_c q_6_55 (p_c q_1_15 p_n)))) (by decide +kernel)) (goodIn_sub mX12_unlist_in gX12_unlist_all)
set_option maxRecDepth 20000 in
theorem gL_law_X11_rows : GoodIn lw_tbl (wsV RL 97 RX11 yX11_rows wsX11_rows) := by
  unfold wsV
  exact goodIn_app (goodIn_sub (p_c q_3_186 (p_c q_3_187 (p_c q_3_188 (p_c q_1_1 p_n)))) (by decide +kernel)) (goodIn_sub mX11_rows_in gX11_rows_all)
set_option maxRecDepth 20000 in
theorem gL_law_X12_rows : GoodIn lw_tbl (wsV RL 100 RX12 yX12_rows wsX12_rows) := by
  unfold wsV
  exact goodIn_app (goodIn_sub (p_c q_6_57 (p_c q_6_58 (p_c q_6_59 (p_c q_1_15 p_n)))) (by decide +kernel)) (goodIn_sub mX12_rows_in gX12_rows_all)
set_option maxRecDepth 20000 in
theorem gL_law_X11_row : GoodIn lw_tbl (wsV RL 101 RX11 yX11_row wsX11_row) := by
  unfold wsV
  exact goodIn_app (goodIn_sub (p_c q_3_237 (p_c q_3_238 (p_c q_3_239 (p_c q_1_1 p_n)))) (by decide +kernel)) (goodIn_sub mX11_row_in gX11_row_all)
set_option maxRecDepth 20000 in
theorem gL_law_X12_row : GoodIn lw_tbl (wsV RL 104 RX12 yX12_row wsX12_row) := by
  unfold wsV
  exact goodIn_app (goodIn_sub (p_c q_6_79 (p_c q_6_80 (p_c q_6_81 (p_c q_1_15 p_n)))) (by decide +kernel)) (goodIn_sub mX12_row_in gX12_row_all)
set_option maxRecDepth 20000 in
theorem gL_law_X11_cost : GoodIn lw_tbl (wsV RL 105 RX11 yX11_cost wsX11_cost) := by
  unfold wsV
  exact goodIn_app (goodIn_sub (p_c q_4_5 (p_c q_4_6 (p_c q_4_7 (p_c q_1_1 p_n)))) (by decide +kernel)) (goodIn_sub mX11_cost_in gX11_cost_all)
set_option maxRecDepth 20000 in
theorem gL_law_X12_cost : GoodIn lw_tbl (wsV RL 109 RX12 yX12_cost wsX12_cost) := by
  unfold wsV
  exact goodIn_app (goodIn_sub (p_c q_6_83 (p_c q_6_84 (p_c q_6_85 (p_c q_1_15 p_n)))) (by decide +kernel)) (goodIn_sub mX12_cost_in gX12_cost_all)
set_option maxRecDepth 20000 in
theorem gL_law_X11_worth : GoodIn lw_tbl (wsV RL 110 RX11 yX11_worth wsX11_worth) := by
  unfold wsV
  exact goodIn_app (goodIn_sub (p_c q_4_13 (p_c q_4_14 (p_c q_4_15 (p_c q_1_1 p_n)))) (by decide +kernel)) (goodIn_sub mX11_worth_in gX11_worth_all)
set_option maxRecDepth 20000 in
theorem gL_law_X12_worth : GoodIn lw_tbl (wsV RL 113 RX12 yX12_worth wsX12_worth) := by
  unfold wsV
  exact goodIn_app (goodIn_sub (p_c q_6_87 (p_c q_6_88 (p_c q_6_89 (p_c q_1_15 p_n)))) (by decide +kernel)) (goodIn_sub mX12_worth_in gX12_worth_all)
set_option maxRecDepth 20000 in
theorem gL_law_X11_mend : GoodIn lw_tbl (wsV RL 114 RX11 yX11_mend wsX11_mend) := by
  unfold wsV
  exact goodIn_app (goodIn_sub (p_c q_4_18 (p_c q_4_19 (p_c q_4_20 (p_c q_1_1 p_n)))) (by decide +kernel)) (goodIn_sub mX11_mend_in gX11_mend_all)
set_option maxRecDepth 20000 in
theorem gL_law_X12_mend : GoodIn lw_tbl (wsV RL 117 RX12 yX12_mend wsX12_mend) := by
  unfold wsV
  exact goodIn_app (goodIn_sub (p_c q_6_91 (p_c q_6_92 (p_c q_6_93 (p_c q_1_15 p_n)))) (by decide +kernel)) (goodIn_sub mX12_mend_in gX12_mend_all)
set_option maxRecDepth 20000 in
theorem gL_law_X11_parts : GoodIn lw_tbl (wsV RL 118 RX11 yX11_parts wsX11_parts) := by
  unfold wsV
  exact goodIn_app (goodIn_sub (p_c q_4_40 (p_c q_4_41 (p_c q_4_42 (p_c q_1_1 p_n)))) (by decide +kernel)) (goodIn_sub mX11_parts_in gX11_parts_all)
set_option maxRecDepth 20000 in
theorem gL_law_X12_parts : GoodIn lw_tbl (wsV RL 121 RX12 yX12_parts wsX12_parts) := by
  unfold wsV
  exact goodIn_app (goodIn_sub (p_c q_6_96 (p_c q_6_97 (p_c q_6_98 (p_c q_1_15 p_n)))) (by decide +kernel)) (goodIn_sub mX12_parts_in gX12_parts_all)
set_option maxRecDepth 20000 in
theorem gL_law_X11_choices : GoodIn lw_tbl (wsV RL 122 RX11 yX11_choices wsX11_choices) := by
  unfold wsV
  exact goodIn_app (goodIn_sub (p_c q_4_121 (p_c q_4_122 (p_c q_4_123 (p_c q_1_1 p_n)))) (by decide +kernel)) (goodIn_sub mX11_choices_in gX11_choices_all)
set_option maxRecDepth 20000 in
theorem gL_law_X12_choices : GoodIn lw_tbl (wsV RL 125 RX12 yX12_choices wsX12_choices) := by
  unfold wsV
  exact goodIn_app (goodIn_sub (p_c q_6_104 (p_c q_6_105 (p_c q_6_106 (p_c q_1_15 p_n)))) (by decide +kernel)) (goodIn_sub mX12_choices_in gX12_choices_all)
set_option maxRecDepth 20000 in
theorem gL_law_X11_choice : GoodIn lw_tbl (wsV RL 126 RX11 yX11_choice wsX11_choice) := by
  unfold wsV
  exact goodIn_app (goodIn_sub (p_c q_4_179 (p_c q_4_180 (p_c q_4_181 (p_c q_1_1 p_n)))) (by decide +kernel)) (goodIn_sub mX11_choice_in gX11_choice_all)
set_option maxRecDepth 20000 in
theorem gL_law_X12_choice : GoodIn lw_tbl (wsV RL 129 RX12 yX12_choice wsX12_choice) := by
  unfold wsV
  exact goodIn_app (goodIn_sub (p_c q_6_120 (p_c q_6_121 (p_c q_6_122 (p_c q_1_15 p_n)))) (by decide +kernel)) (goodIn_sub mX12_choice_in gX12_choice_all)
set_option maxRecDepth 20000 in
theorem gL_law_X11_chosen : GoodIn lw_tbl (wsV RL 130 RX11 yX11_chosen wsX11_chosen) := by
  unfold wsV
  exact goodIn_app (goodIn_sub (p_c q_4_187 (p_c q_4_188 (p_c q_4_189 (p_c q_1_1 p_n)))) (by decide +kernel)) (goodIn_sub mX11_chosen_in gX11_chosen_all)
set_option maxRecDepth 20000 in
theorem gL_law_X12_chosen : GoodIn lw_tbl (wsV RL 133 RX12 yX12_chosen wsX12_chosen) := by
  unfold wsV
  exact goodIn_app (goodIn_sub (p_c q_6_128 (p_c q_6_129 (p_c q_6_130 (p_c q_1_15 p_n)))) (by decide +kernel)) (goodIn_sub mX12_chosen_in gX12_chosen_all)
set_option maxRecDepth 20000 in
theorem gL_law_L_at : GoodIn lw_tbl (va_wsS RL 50 yL_at wsL_at2) := goodIn_sub (by unfold va_wsS; exact p_a (p_c q_4_201 (p_c q_4_202 (p_c q_1_0 p_n))) mL_at2_in) (by decide +kernel)
set_option maxRecDepth 20000 in
theorem gL_law_X12_at : GoodIn lw_tbl (wsV RL 55 RX12 yX12_at wsX12_at) := by
  unfold wsV
  exact goodIn_app (goodIn_sub (p_c q_5_225 (p_c q_5_226 (p_c q_5_227 (p_c q_1_15 p_n)))) (by decide +kernel)) (goodIn_sub mX12_at_in gX12_at_all)
set_option maxRecDepth 20000 in
theorem gL_law_X11_init : GoodIn lw_tbl (wsX11_init) := goodIn_sub (mX11_init_in) gX11_init_all
set_option maxRecDepth 20000 in
theorem gL_law_X12_init : GoodIn lw_tbl (wsX12_init) := goodIn_sub (mX12_init_in) gX12_init_all

end

/-! 65.law -/
section
/-! THE CLAIM OUT OF ONE WALK OF THE LAW'S BODY. Your part is whole_start (and what it stands on); all else here is the same for every law, but numbers. -/
def R_law : String := "TextMenderLaw"
def lw_P (b : Addr) (xs : List Int32) (args : Array Value) (s : State) : Prop := args = #[.ref b] ∧ s.IntsAt b xs ∧ xs.length ≤ 3072 ∧ (Jvm.Cond.and given_1 narrow_1).before args s = true
def lw_Q (_ : Array Value) (s : State) (o : Outcome) (t : State) : Prop := o = .returned (some (.int 1)) ∧ Framed s o t [] 601024 7293034
def lw_Z (below : List Frame) (a : Array Value) (s : State) : State → Prop := fun t => ∃ o, t.status = .running ∧ Ended t below o ∧ lw_Q a s o t
/-- the law's own end, with 1 on the stack, nothing written that was there before, its room as the claim has it -/
theorem lw_ret {p : Program} {l : Launch} {e : Env} {s : State} {m : MethodId} {below : List Frame} {meth : Method} {c : Code} {b : Nat} (hx : p.tables.exec = Jvm.exec) (hb : c.code = code) (hr : meth.sig.returnType = ret) (hlocks : meth.locks = false) {pc : Nat} {H : Heap} {ls : Array Slot} (hdg : decode code pc = .ok (.ireturn, 1)) : W p l e room_1 s m #[Value.ref b] below meth c H [] 601024 7293034 (lw_Z below #[Value.ref b] s) (F0 m pc ls [.int 1]) := by
  intro T hT X
  obtain ⟨fs, hret, hrun, hended, hW, hframe⟩ := X.leave (v := some (.int 1)) (hlocks := hlocks) (fun h => by rw [hr] at h; cases h)
  have hmeth' : T.vm.method? m = some meth := X.method'
  refine ⟨T.setFrames fs, ?_, .returned (some (.int 1)), hrun, hended, rfl, ⟨_, rfl⟩, hW, hframe⟩
  jvm_step X.here [X.here.top, hx, hb, hdg, hmeth', hr, ret, narrow_b1]
  (try refine ⟨rfl, ?_⟩); (try refine ⟨rfl, ?_⟩)
  first | (intro acts; rw [hret _ acts rfl rfl rfl]) | rw [hret _ _ rfl rfl rfl]
  exact Steps.refl _
/-- what holds at the law's entry: the machine, the code, the tables' words (any of lw_tbl by 'hts w (by decide +kernel)'), the script of L ints xs at the cell b, what the Statement gives of the start (any of its parts by flat_of_before) -/
def lw_At (p : Program) (s : State) (m : MethodId) (meth : Method) (c : Code) (b L : Nat) (xs : Nat → Int32) : Prop :=
  p.tables.exec = Jvm.exec ∧ c.code = code ∧ meth.sig.returnType = ret ∧ c.maxLocals = 7 ∧ s.vm.findClass R_law = some m.cls ∧ (∀ w ∈ lw_tbl, w.before #[Value.ref b] s = true) ∧ va_X b L xs s s.heap ∧ b < s.heap.size ∧ meth.locks = false ∧ (Jvm.Cond.and given_1 narrow_1).before #[Value.ref b] s = true

/-- what holds ahead of each call -/
def INV (nc : Nat) (lT : Int32) (lL : Int32) (lM : Int32) (l4 : Int32) (l5 : Int32) (lB : Int32) (lH : Int32) (lK : Int32) (gn : Int32) (lG : Int32) (lR : Int32) (l1 : Int32) (l2 : Int32) (l3 : Int32) (lq : Int32) (lp : Int32) (lv : Int32) (ke : Int32) (fsh : Int32) (wi : Int32) (ri : Int32) (fm : Int32) (lm : Int32) (lw : Int32) (zt : Int32) (zp : Int32) (zf : Int32) (zh : Int32) (zr : Int32) (zc : Int32) (zy : Int32) (za : Int32) (zb : Int32) (zs : Int32) (zq : Int32) (zn : Int32) (zm : Int32) (zk : Int32) (fT : Nat → Int32) (fL : Nat → Int32) (f41 : Nat → Int32) (f42 : Nat → Int32) (f43 : Nat → Int32) (f51 : Nat → Int32) (f52 : Nat → Int32) (f53 : Nat → Int32) (fH1 : Nat → Int32) (fH2 : Nat → Int32) (fK1 : Nat → Int32) (fK2 : Nat → Int32) (fG1 : Nat → Int32) (fG2 : Nat → Int32) (fW4 : Nat → Int32) (fW5 : Nat → Int32) (fW6 : Nat → Int32) (fW7 : Nat → Int32) (eT : Nat → Int32) (eS : Nat → Int32) (eX : Nat → Int32) (eL : Nat → Int32) (eB : Nat → Int32) (eD : Nat → Int32) (e1 : Nat → Int32) (e2 : Nat → Int32) (ec1 : Nat → Int32) (ec2 : Nat → Int32) (ec3 : Nat → Int32) (eH : Nat → Int32) (eY : Nat → Int32) (eE : Nat → Int32) (eW : Nat → Int32) (eO : Nat → Int32) (eZ : Nat → Int32) : Prop := (0 ≤ lT.toInt ∧ lT.toInt ≤ 900) ∧ (0 ≤ lL.toInt ∧ lL.toInt ≤ 300) ∧ (0 ≤ lM.toInt ∧ lM.toInt ≤ 300) ∧ (0 ≤ lB.toInt ∧ lB.toInt ≤ 2400) ∧ (0 ≤ lH.toInt ∧ lH.toInt ≤ 6) ∧ (0 ≤ lK.toInt ∧ lK.toInt ≤ 300) ∧ (0 ≤ gn.toInt ∧ gn.toInt ≤ 19) ∧ (0 ≤ lG.toInt ∧ lG.toInt ≤ 20) ∧ (0 ≤ lR.toInt ∧ lR.toInt ≤ 258) ∧ (0 ≤ l1.toInt ∧ l1.toInt ≤ 300) ∧ (0 ≤ l2.toInt ∧ l2.toInt ≤ 300) ∧ (0 ≤ l3.toInt ∧ l3.toInt ≤ 300) ∧ (0 ≤ lq.toInt ∧ lq.toInt ≤ 480) ∧ (0 ≤ lp.toInt ∧ lp.toInt ≤ 300) ∧ (0 ≤ lv.toInt ∧ lv.toInt ≤ 300) ∧ (0 ≤ ke.toInt ∧ ke.toInt ≤ 200) ∧ (0 ≤ fsh.toInt ∧ fsh.toInt ≤ 1) ∧ (-1 ≤ fm.toInt ∧ fm.toInt ≤ 800) ∧ (-1 ≤ lm.toInt ∧ lm.toInt ≤ 800) ∧ (0 ≤ lw.toInt ∧ lw.toInt ≤ 800) ∧ (0 ≤ zt.toInt ∧ zt.toInt ≤ 900) ∧ (0 ≤ zp.toInt ∧ zp.toInt ≤ 20) ∧ (0 ≤ zf.toInt ∧ zf.toInt ≤ 19) ∧ (0 ≤ zh.toInt ∧ zh.toInt ≤ 6) ∧ (0 ≤ zr.toInt ∧ zr.toInt ≤ 258) ∧ (0 ≤ zc.toInt ∧ zc.toInt ≤ 300) ∧ (0 ≤ zy.toInt ∧ zy.toInt ≤ 65536) ∧ (0 ≤ za.toInt ∧ za.toInt ≤ 5) ∧ (0 ≤ zb.toInt ∧ zb.toInt ≤ 5) ∧ (0 ≤ zs.toInt ∧ zs.toInt ≤ 2000000) ∧ (-1 ≤ zq.toInt ∧ zq.toInt ≤ 2000000) ∧ (0 ≤ zn.toInt ∧ zn.toInt ≤ 2600) ∧ (0 ≤ zm.toInt ∧ zm.toInt ≤ 2600) ∧ (0 ≤ zk.toInt ∧ zk.toInt ≤ 300) ∧ rg (0) (300) fG2 ∧ rg (0) (300) eS ∧ rg (0) (65535) eX ∧ rg (-1) (65535) eL ∧ rg (-1) (255) eB ∧ rg (0) (5) e1 ∧ rg (0) (5) e2 ∧ rg (0) (255) eY ∧ rg (0) (65535) eE ∧ rg (0) (65535) eW ∧ rg (0) (65535) eO ∧ rg (0) (65535) eZ ∧ zs.toInt ≤ (nc : Int) ∧ lT.toInt = zt.toInt ∧ eqT lT.toInt fT eT ∧ TR 0 l4 f41 f42 f43 eL eB eD ∧ TR 1 l5 f51 f52 f53 eL eB eD ∧ LB 0 eL eB ∧ LB 1 eL eB ∧ LZ eL ∧ lH.toInt = zh.toInt ∧ eqP lH.toInt fH1 e1 fH2 e2 ∧ lK.toInt = zc.toInt ∧ HT 1024 1023 hsK fK1 fK2 ∧ (occ fK2 1024 : Int) ≤ lK.toInt ∧ alK zc.toInt fK1 fK2 ec1 ec2 ∧ CVR zc.toInt fK1 fK2 ec1 ec2 ec3 ∧ prg 1024 (-1) 200 fK2 ∧ rg 0 200 ec3 ∧ TXR lL fL eS eX ∧ CHR gn lG zp zf fG1 fG2 eS eX ∧ RVC ke zy fW4 fW5 fW6 fW7 eH ∧ RFr fsh zq zs ∧ RFx fsh wi ri za zb ∧ frsR zq zs zy za zb eH eL eX (fun c9 => Br c9 eB) (eS 0).toInt.toNat
abbrev WLD (cI cS cJ : ClassId) (oX nT aT nL aL nM aM oC o4 a41 a42 a43 o5 a51 a52 a53 oP nB aB oH h1 h2 oK k1 k2 oG g1 g2 oR n1 a1 n2 a2 n3 a3 r1 r2 r3 r4 r5 r6 oQ oE nq aq np ap nv av q1 q2 q3 q4 oW nw aw o7 o8 o9 w1 w2 w3 w4 w5 w6 w7 oM mT mS mX mL mB mD m1 m2 mR x1 x2 x3 mH mY mE mW mO y1 y2 y3 y4 mZ oJ : Nat) (fa : Int32) (lT : Int32) (lL : Int32) (lM : Int32) (l4 : Int32) (l5 : Int32) (ft : Int32) (lB : Int32) (lH : Int32) (lK : Int32) (gn : Int32) (lG : Int32) (lR : Int32) (l1 : Int32) (l2 : Int32) (l3 : Int32) (pr : Int32) (reE : Int32) (laE : Int32) (suE : Int32) (leE : Int32) (lq : Int32) (lp : Int32) (lv : Int32) (ke : Int32) (tl : Int32) (fsh : Int32) (wi : Int32) (ri : Int32) (fm : Int32) (lm : Int32) (lw : Int32) (re7 : Int32) (la7 : Int32) (su7 : Int32) (le7 : Int32) (re8 : Int32) (la8 : Int32) (su8 : Int32) (le8 : Int32) (re9 : Int32) (la9 : Int32) (su9 : Int32) (le9 : Int32) (zt : Int32) (zp : Int32) (zf : Int32) (zh : Int32) (zr : Int32) (zc : Int32) (zy : Int32) (za : Int32) (zb : Int32) (zs : Int32) (zq : Int32) (zw : Int32) (ze : Int32) (zn : Int32) (zm : Int32) (zl : Int32) (zk : Int32) (zd : Int32) (fT : Nat → Int32) (fL : Nat → Int32) (fM : Nat → Int32) (f41 : Nat → Int32) (f42 : Nat → Int32) (f43 : Nat → Int32) (f51 : Nat → Int32) (f52 : Nat → Int32) (f53 : Nat → Int32) (fB : Nat → Int32) (fH1 : Nat → Int32) (fH2 : Nat → Int32) (fK1 : Nat → Int32) (fK2 : Nat → Int32) (fG1 : Nat → Int32) (fG2 : Nat → Int32) (f1 : Nat → Int32) (f2 : Nat → Int32) (f3 : Nat → Int32) (fR1 : Nat → Int32) (fR2 : Nat → Int32) (fR3 : Nat → Int32) (fR4 : Nat → Int32) (fR5 : Nat → Int32) (fR6 : Nat → Int32) (fq : Nat → Int32) (fp : Nat → Int32) (fv : Nat → Int32) (fQ1 : Nat → Int32) (fQ2 : Nat → Int32) (fQ3 : Nat → Int32) (fQ4 : Nat → Int32) (fw : Nat → Int32) (fW1 : Nat → Int32) (fW2 : Nat → Int32) (fW3 : Nat → Int32) (fW4 : Nat → Int32) (fW5 : Nat → Int32) (fW6 : Nat → Int32) (fW7 : Nat → Int32) (eT : Nat → Int32) (eS : Nat → Int32) (eX : Nat → Int32) (eL : Nat → Int32) (eB : Nat → Int32) (eD : Nat → Int32) (e1 : Nat → Int32) (e2 : Nat → Int32) (eR : Nat → Int32) (ec1 : Nat → Int32) (ec2 : Nat → Int32) (ec3 : Nat → Int32) (eH : Nat → Int32) (eY : Nat → Int32) (eE : Nat → Int32) (eW : Nat → Int32) (eO : Nat → Int32) (er1 : Nat → Int32) (er2 : Nat → Int32) (er3 : Nat → Int32) (er4 : Nat → Int32) (eZ : Nat → Int32) (fJ : Nat → Int64) : va_W := [(oX, .inr (11, [.ref nT, .ref nL, .ref nM, .ref oC, .ref oP, .ref oH, .ref oK, .ref oG, .ref oR, .ref oQ, .ref oW, .int fa])), (nT, .inr (5, [.ref aT, .int lT])), (aT, .inl (cI, 900, .inl fT)), (nL, .inr (5, [.ref aL, .int lL])), (aL, .inl (cI, 300, .inl fL)), (nM, .inr (5, [.ref aM, .int lM])), (aM, .inl (cI, 300, .inl fM)), (oC, .inr (2, [.ref o4, .ref o5])), (o4, .inr (10, [.ref a41, .ref a42, .ref a43, .int l4])), (a41, .inl (cI, 256, .inl f41)), (a42, .inl (cI, 512, .inl f42)), (a43, .inl (cI, 512, .inl f43)), (o5, .inr (10, [.ref a51, .ref a52, .ref a53, .int l5])), (a51, .inl (cI, 256, .inl f51)), (a52, .inl (cI, 512, .inl f52)), (a53, .inl (cI, 512, .inl f53)), (oP, .inr (7, [.ref oC, .ref nB, .int ft])), (nB, .inr (5, [.ref aB, .int lB])), (aB, .inl (cI, 2400, .inl fB)), (oH, .inr (4, [.ref oP, .ref h1, .ref h2, .int lH])), (h1, .inl (cI, 6, .inl fH1)), (h2, .inl (cI, 6, .inl fH2)), (oK, .inr (3, [.ref k1, .ref k2, .int lK])), (k1, .inl (cI, 1024, .inl fK1)), (k2, .inl (cI, 1024, .inl fK2)), (oG, .inr (0, [.ref g1, .ref g2, .int gn, .int lG])), (g1, .inl (cI, 6000, .inl fG1)), (g2, .inl (cI, 20, .inl fG2)), (oR, .inr (9, [.ref oH, .ref oK, .ref n1, .ref n2, .ref n3, .ref r1, .ref r2, .ref r3, .ref r4, .ref r5, .ref r6, .int lR])), (n1, .inr (5, [.ref a1, .int l1])), (a1, .inl (cI, 300, .inl f1)), (n2, .inr (5, [.ref a2, .int l2])), (a2, .inl (cI, 300, .inl f2)), (n3, .inr (5, [.ref a3, .int l3])), (a3, .inl (cI, 300, .inl f3)), (r1, .inl (cI, 258, .inl fR1)), (r2, .inl (cI, 258, .inl fR2)), (r3, .inl (cI, 774, .inl fR3)), (r4, .inl (cI, 258, .inl fR4)), (r5, .inl (cI, 258, .inl fR5)), (r6, .inl (cI, 774, .inl fR6)), (oQ, .inr (6, [.ref oC, .ref oH, .ref oK, .ref oE, .ref nq, .ref np, .ref nv, .ref q1, .ref q2, .ref q3, .ref q4, .int pr])), (oE, .inr (8, [.ref oC, .ref oK, .int reE, .int laE, .int suE, .int leE])), (nq, .inr (5, [.ref aq, .int lq])), (aq, .inl (cI, 480, .inl fq)), (np, .inr (5, [.ref ap, .int lp])), (ap, .inl (cI, 300, .inl fp)), (nv, .inr (5, [.ref av, .int lv])), (av, .inl (cI, 300, .inl fv)), (q1, .inl (cI, 61, .inl fQ1)), (q2, .inl (cI, 61, .inl fQ2)), (q3, .inl (cI, 61, .inl fQ3)), (q4, .inl (cI, 61, .inl fQ4)), (oW, .inr (1, [.ref oC, .ref oK, .ref nw, .ref w1, .ref w2, .ref w3, .ref o7, .ref o8, .ref o9, .ref w4, .ref w5, .ref w6, .ref w7, .int ke, .int tl, .int fsh, .int wi, .int ri, .int fm, .int lm])), (nw, .inr (5, [.ref aw, .int lw])), (aw, .inl (cI, 800, .inl fw)), (o7, .inr (8, [.ref oC, .ref oK, .int re7, .int la7, .int su7, .int le7])), (o8, .inr (8, [.ref oC, .ref oK, .int re8, .int la8, .int su8, .int le8])), (o9, .inr (8, [.ref oC, .ref oK, .int re9, .int la9, .int su9, .int le9])), (w1, .inl (cI, 801, .inl fW1)), (w2, .inl (cI, 801, .inl fW2)), (w3, .inl (cI, 801, .inl fW3)), (w4, .inl (cI, 200, .inl fW4)), (w5, .inl (cI, 200, .inl fW5)), (w6, .inl (cI, 200, .inl fW6)), (w7, .inl (cI, 200, .inl fW7)), (oM, .inr (12, [.ref mT, .int zt, .ref mS, .ref mX, .int zp, .int zf, .ref mL, .ref mB, .ref mD, .ref m1, .ref m2, .int zh, .ref mR, .int zr, .ref x1, .ref x2, .ref x3, .int zc, .ref mH, .int zy, .int za, .int zb, .int zs, .int zq, .int zw, .int ze, .ref mY, .int zn, .ref mE, .int zm, .int zl, .ref mW, .int zk, .ref mO, .int zd, .ref y1, .ref y2, .ref y3, .ref y4, .ref mZ])), (mT, .inl (cI, 900, .inl eT)), (mS, .inl (cI, 21, .inl eS)), (mX, .inl (cI, 6300, .inl eX)), (mL, .inl (cI, 512, .inl eL)), (mB, .inl (cS, 131072, .inl eB)), (mD, .inl (cI, 2, .inl eD)), (m1, .inl (cI, 6, .inl e1)), (m2, .inl (cI, 6, .inl e2)), (mR, .inl (cI, 1548, .inl eR)), (x1, .inl (cI, 300, .inl ec1)), (x2, .inl (cI, 300, .inl ec2)), (x3, .inl (cI, 300, .inl ec3)), (mH, .inl (cI, 800, .inl eH)), (mY, .inl (cI, 2600, .inl eY)), (mE, .inl (cI, 2600, .inl eE)), (mW, .inl (cI, 300, .inl eW)), (mO, .inl (cI, 300, .inl eO)), (y1, .inl (cI, 61, .inl er1)), (y2, .inl (cI, 61, .inl er2)), (y3, .inl (cI, 61, .inl er3)), (y4, .inl (cI, 61, .inl er4)), (mZ, .inl (cI, 600, .inl eZ)), (oJ, .inl (cJ, 1, .inr (.inl fJ)))]
theorem GCh_st {zq zs zs' zy : Int32} {f eX eX' eS eS' : Nat → Int32} (h : GCh zq zs zy f eX eS) (hq : zq.toInt ≤ zs.toInt) (hf : F_st zs zs' eX eX' eS eS') : GCh zq zs' zy f eX' eS' := by
  rcases hf with hf | ⟨h1, h2, h3⟩
  · intro e; omega
  · rw [h1, h2, h3]; exact h
theorem GCh_up {zq zs zs' zy : Int32} {f eX eS : Nat → Int32} (h : GCh zq zs zy f eX eS) (hq : zq.toInt ≤ zs.toInt) (hz : zs'.toInt ≤ zs.toInt + 1 ∧ zs.toInt ≤ zs'.toInt) : GCh zq zs' zy f eX eS := by
  intro e
  exact h (by omega)

/-- what comes behind a call -/
def KK (p : Program) (l : Launch) (e : Env) (s : State) (m : MethodId) (below : List Frame) (meth : Method) (c : Code) (dC : Nat → ClassId) (dI : Nat → Nat → Nat) (cI cS cJ : ClassId) (A : Nat → Prop) (b : Nat) (oX nT aT nL aL nM aM oC o4 a41 a42 a43 o5 a51 a52 a53 oP nB aB oH h1 h2 oK k1 k2 oG g1 g2 oR n1 a1 n2 a2 n3 a3 r1 r2 r3 r4 r5 r6 oQ oE nq aq np ap nv av q1 q2 q3 q4 oW nw aw o7 o8 o9 w1 w2 w3 w4 w5 w6 w7 oM mT mS mX mL mB mD m1 m2 mR x1 x2 x3 mH mY mE mW mO y1 y2 y3 y4 mZ oJ : Nat) (i : Int32) (nc : Nat) : Prop :=
  ∀ (fa : Int32) (lT : Int32) (lL : Int32) (lM : Int32) (l4 : Int32) (l5 : Int32) (ft : Int32) (lB : Int32) (lH : Int32) (lK : Int32) (gn : Int32) (lG : Int32) (lR : Int32) (l1 : Int32) (l2 : Int32) (l3 : Int32) (pr : Int32) (reE : Int32) (laE : Int32) (suE : Int32) (leE : Int32) (lq : Int32) (lp : Int32) (lv : Int32) (ke : Int32) (tl : Int32) (fsh : Int32) (wi : Int32) (ri : Int32) (fm : Int32) (lm : Int32) (lw : Int32) (re7 : Int32) (la7 : Int32) (su7 : Int32) (le7 : Int32) (re8 : Int32) (la8 : Int32) (su8 : Int32) (le8 : Int32) (re9 : Int32) (la9 : Int32) (su9 : Int32) (le9 : Int32) (zt : Int32) (zp : Int32) (zf : Int32) (zh : Int32) (zr : Int32) (zc : Int32) (zy : Int32) (za : Int32) (zb : Int32) (zs : Int32) (zq : Int32) (zw : Int32) (ze : Int32) (zn : Int32) (zm : Int32) (zl : Int32) (zk : Int32) (zd : Int32) (fT : Nat → Int32) (fL : Nat → Int32) (fM : Nat → Int32) (f41 : Nat → Int32) (f42 : Nat → Int32) (f43 : Nat → Int32) (f51 : Nat → Int32) (f52 : Nat → Int32) (f53 : Nat → Int32) (fB : Nat → Int32) (fH1 : Nat → Int32) (fH2 : Nat → Int32) (fK1 : Nat → Int32) (fK2 : Nat → Int32) (fG1 : Nat → Int32) (fG2 : Nat → Int32) (f1 : Nat → Int32) (f2 : Nat → Int32) (f3 : Nat → Int32) (fR1 : Nat → Int32) (fR2 : Nat → Int32) (fR3 : Nat → Int32) (fR4 : Nat → Int32) (fR5 : Nat → Int32) (fR6 : Nat → Int32) (fq : Nat → Int32) (fp : Nat → Int32) (fv : Nat → Int32) (fQ1 : Nat → Int32) (fQ2 : Nat → Int32) (fQ3 : Nat → Int32) (fQ4 : Nat → Int32) (fw : Nat → Int32) (fW1 : Nat → Int32) (fW2 : Nat → Int32) (fW3 : Nat → Int32) (fW4 : Nat → Int32) (fW5 : Nat → Int32) (fW6 : Nat → Int32) (fW7 : Nat → Int32) (eT : Nat → Int32) (eS : Nat → Int32) (eX : Nat → Int32) (eL : Nat → Int32) (eB : Nat → Int32) (eD : Nat → Int32) (e1 : Nat → Int32) (e2 : Nat → Int32) (eR : Nat → Int32) (ec1 : Nat → Int32) (ec2 : Nat → Int32) (ec3 : Nat → Int32) (eH : Nat → Int32) (eY : Nat → Int32) (eE : Nat → Int32) (eW : Nat → Int32) (eO : Nat → Int32) (er1 : Nat → Int32) (er2 : Nat → Int32) (er3 : Nat → Int32) (er4 : Nat → Int32) (eZ : Nat → Int32) (fJ : Nat → Int64) (H : Heap) (locs : List Loc) (ls : Array Slot), INV (nc + 1) lT lL lM l4 l5 lB lH lK gn lG lR l1 l2 l3 lq lp lv ke fsh wi ri fm lm lw zt zp zf zh zr zc zy za zb zs zq zn zm zk fT fL f41 f42 f43 f51 f52 f53 fH1 fH2 fK1 fK2 fG1 fG2 fW4 fW5 fW6 fW7 eT eS eX eL eB eD e1 e2 ec1 ec2 ec3 eH eY eE eW eO eZ → va_P (dC, dI) vwCl (WLD cI cS cJ oX nT aT nL aL nM aM oC o4 a41 a42 a43 o5 a51 a52 a53 oP nB aB oH h1 h2 oK k1 k2 oG g1 g2 oR n1 a1 n2 a2 n3 a3 r1 r2 r3 r4 r5 r6 oQ oE nq aq np ap nv av q1 q2 q3 q4 oW nw aw o7 o8 o9 w1 w2 w3 w4 w5 w6 w7 oM mT mS mX mL mB mD m1 m2 mR x1 x2 x3 mH mY mE mW mO y1 y2 y3 y4 mZ oJ fa lT lL lM l4 l5 ft lB lH lK gn lG lR l1 l2 l3 pr reE laE suE leE lq lp lv ke tl fsh wi ri fm lm lw re7 la7 su7 le7 re8 la8 su8 le8 re9 la9 su9 le9 zt zp zf zh zr zc zy za zb zs zq zw ze zn zm zl zk zd fT fL fM f41 f42 f43 f51 f52 f53 fB fH1 fH2 fK1 fK2 fG1 fG2 f1 f2 f3 fR1 fR2 fR3 fR4 fR5 fR6 fq fp fv fQ1 fQ2 fQ3 fQ4 fw fW1 fW2 fW3 fW4 fW5 fW6 fW7 eT eS eX eL eB eD e1 e2 eR ec1 ec2 ec3 eH eY eE eW eO er1 er2 er3 er4 eZ fJ) H → va_D A (WLD cI cS cJ oX nT aT nL aL nM aM oC o4 a41 a42 a43 o5 a51 a52 a53 oP nB aB oH h1 h2 oK k1 k2 oG g1 g2 oR n1 a1 n2 a2 n3 a3 r1 r2 r3 r4 r5 r6 oQ oE nq aq np ap nv av q1 q2 q3 q4 oW nw aw o7 o8 o9 w1 w2 w3 w4 w5 w6 w7 oM mT mS mX mL mB mD m1 m2 mR x1 x2 x3 mH mY mE mW mO y1 y2 y3 y4 mZ oJ fa lT lL lM l4 l5 ft lB lH lK gn lG lR l1 l2 l3 pr reE laE suE leE lq lp lv ke tl fsh wi ri fm lm lw re7 la7 su7 le7 re8 la8 su8 le8 re9 la9 su9 le9 zt zp zf zh zr zc zy za zb zs zq zw ze zn zm zl zk zd fT fL fM f41 f42 f43 f51 f52 f53 fB fH1 fH2 fK1 fK2 fG1 fG2 f1 f2 f3 fR1 fR2 fR3 fR4 fR5 fR6 fq fp fv fQ1 fQ2 fQ3 fQ4 fw fW1 fW2 fW3 fW4 fW5 fW6 fW7 eT eS eX eL eB eD e1 e2 eR ec1 ec2 ec3 eH eY eE eW eO er1 er2 er3 er4 eZ fJ) → va_S A s.heap H locs → lv_has ls 7 [(0, .ref b), (1, .ref oX), (2, .ref oM), (3, .ref oJ), (4, .int i)] → W p l e room_1 s m #[Value.ref b] below meth c H locs (90 + (nc + 1)) (172225 + 6 * (nc + 1)) (lw_Z below #[Value.ref b] s) (F0 m 1022 ls [])

end
