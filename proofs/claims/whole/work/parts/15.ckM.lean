/-! ## callees: their words -/
set_option maxRecDepth 100000 in
theorem kX12_in : CkS yX12_in cX12_in 3 (some .boolean) 3 := ⟨⟨(lw_t6 174 rfl rfl), (lw_t1 14 rfl rfl), by decide +kernel, by decide⟩, (lw_t6 173 rfl rfl)⟩
set_option maxRecDepth 100000 in
theorem kX12_has : CkS yX12_has cX12_has 2 (some .boolean) 2 := ⟨⟨(lw_t6 157 rfl rfl), (lw_t1 14 rfl rfl), by decide +kernel, by decide⟩, (lw_t6 156 rfl rfl)⟩
set_option maxRecDepth 100000 in
theorem kX12_thrown : CkV yX12_thrown cX12_thrown 1 (some .int) 0 := ⟨⟨(lw_t6 117 rfl rfl), (lw_t1 14 rfl rfl), by decide +kernel, by decide⟩, (lw_t6 115 rfl rfl), (lw_t6 116 rfl rfl)⟩
set_option maxRecDepth 100000 in
theorem kX12_byteOf : CkS yX12_byteOf cX12_byteOf 7 (some .int) 6 := ⟨⟨(lw_t6 124 rfl rfl), (lw_t1 14 rfl rfl), by decide +kernel, by decide⟩, (lw_t6 123 rfl rfl)⟩
set_option maxRecDepth 100000 in
theorem kX12_feed : CkV yX12_feed cX12_feed 9 (some .int) 5 := ⟨⟨(lw_t6 121 rfl rfl), (lw_t1 14 rfl rfl), by decide +kernel, by decide⟩, (lw_t6 119 rfl rfl), (lw_t6 120 rfl rfl)⟩
set_option maxRecDepth 100000 in
theorem kX12_end : CkV yX12_end cX12_end 2 (some .boolean) 1 := ⟨⟨(lw_t6 128 rfl rfl), (lw_t1 14 rfl rfl), by decide +kernel, by decide⟩, (lw_t6 126 rfl rfl), (lw_t6 127 rfl rfl)⟩
set_option maxRecDepth 100000 in
theorem kX12_here : CkV yX12_here cX12_here 1 (some .int) 0 := ⟨⟨(lw_t6 147 rfl rfl), (lw_t1 14 rfl rfl), by decide +kernel, by decide⟩, (lw_t6 146 rfl rfl), (lw_q2 8 rfl)⟩
set_option maxRecDepth 100000 in
theorem kX12_look : CkV yX12_look cX12_look 1 (some .int) 0 := ⟨⟨(lw_t6 143 rfl rfl), (lw_t1 14 rfl rfl), by decide +kernel, by decide⟩, (lw_t6 142 rfl rfl), (lw_q2 7 rfl)⟩
set_option maxRecDepth 100000 in
theorem kX12_bad : CkV yX12_bad cX12_bad 1 none 0 := ⟨⟨(lw_t6 171 rfl rfl), (lw_t1 14 rfl rfl), by decide +kernel, by decide⟩, (lw_t6 170 rfl rfl), (lw_q2 11 rfl)⟩
set_option maxRecDepth 100000 in
theorem kX12_isDigit : CkS yX12_isDigit cX12_isDigit 1 (some .boolean) 1 := ⟨⟨(lw_t6 167 rfl rfl), (lw_t1 14 rfl rfl), by decide +kernel, by decide⟩, (lw_t6 166 rfl rfl)⟩
set_option maxRecDepth 100000 in
theorem kX12_put : CkV yX12_put cX12_put 3 none 2 := ⟨⟨(lw_t6 202 rfl rfl), (lw_t1 14 rfl rfl), by decide +kernel, by decide⟩, (lw_t6 201 rfl rfl), (lw_q3 2 rfl)⟩
set_option maxRecDepth 100000 in
theorem kX12_letterOf : CkS yX12_letterOf cX12_letterOf 1 (some .int) 1 := ⟨⟨(lw_t6 225 rfl rfl), (lw_t1 14 rfl rfl), by decide +kernel, by decide⟩, (lw_t6 224 rfl rfl)⟩
set_option maxRecDepth 100000 in
theorem kX12_opens : CkV yX12_opens cX12_opens 1 none 0 := ⟨⟨(lw_t6 198 rfl rfl), (lw_t1 14 rfl rfl), by decide +kernel, by decide⟩, (lw_t6 197 rfl rfl), (lw_q3 1 rfl)⟩
set_option maxRecDepth 100000 in
theorem kX12_closes : CkV yX12_closes cX12_closes 2 none 1 := ⟨⟨(lw_t6 206 rfl rfl), (lw_t1 14 rfl rfl), by decide +kernel, by decide⟩, (lw_t6 205 rfl rfl), (lw_q3 3 rfl)⟩
set_option maxRecDepth 100000 in
theorem kX12_plainNumber : CkV yX12_plainNumber cX12_plainNumber 3 (some .int) 0 := ⟨⟨(lw_t6 222 rfl rfl), (lw_t1 14 rfl rfl), by decide +kernel, by decide⟩, (lw_t6 221 rfl rfl), (lw_q3 7 rfl)⟩
set_option maxRecDepth 100000 in
theorem kX12_atom : CkV yX12_atom cX12_atom 2 none 0 := ⟨⟨(lw_t6 218 rfl rfl), (lw_t1 14 rfl rfl), by decide +kernel, by decide⟩, (lw_t6 217 rfl rfl), (lw_q3 6 rfl)⟩
set_option maxRecDepth 100000 in
theorem kX12_term : CkV yX12_term cX12_term 2 none 0 := ⟨⟨(lw_t6 214 rfl rfl), (lw_t1 14 rfl rfl), by decide +kernel, by decide⟩, (lw_t6 213 rfl rfl), (lw_q3 5 rfl)⟩
set_option maxRecDepth 100000 in
theorem kX12_sum : CkV yX12_sum cX12_sum 2 none 0 := ⟨⟨(lw_t6 210 rfl rfl), (lw_t1 14 rfl rfl), by decide +kernel, by decide⟩, (lw_t6 209 rfl rfl), (lw_q3 4 rfl)⟩
set_option maxRecDepth 100000 in
theorem kX12_isSign : CkS yX12_isSign cX12_isSign 1 (some .boolean) 1 := ⟨⟨(lw_t6 232 rfl rfl), (lw_t1 14 rfl rfl), by decide +kernel, by decide⟩, (lw_t6 231 rfl rfl)⟩
set_option maxRecDepth 100000 in
theorem kX12_compare : CkV yX12_compare cX12_compare 2 none 0 := ⟨⟨(lw_t6 229 rfl rfl), (lw_t1 14 rfl rfl), by decide +kernel, by decide⟩, (lw_t6 228 rfl rfl), (lw_q3 8 rfl)⟩
set_option maxRecDepth 100000 in
theorem kX12_unit : CkV yX12_unit cX12_unit 2 none 0 := ⟨⟨(lw_t6 194 rfl rfl), (lw_t1 14 rfl rfl), by decide +kernel, by decide⟩, (lw_t6 193 rfl rfl), (lw_q3 0 rfl)⟩
set_option maxRecDepth 100000 in
theorem kX12_goOnAnd : CkV yX12_goOnAnd cX12_goOnAnd 1 none 0 := ⟨⟨(lw_t6 236 rfl rfl), (lw_t1 14 rfl rfl), by decide +kernel, by decide⟩, (lw_t6 235 rfl rfl), (lw_q3 9 rfl)⟩
set_option maxRecDepth 100000 in
theorem kX12_goOnOr : CkV yX12_goOnOr cX12_goOnOr 1 none 0 := ⟨⟨(lw_t7 0 rfl rfl), (lw_t1 14 rfl rfl), by decide +kernel, by decide⟩, (lw_t6 239 rfl rfl), (lw_q3 10 rfl)⟩
set_option maxRecDepth 100000 in
theorem kX12_condition : CkV yX12_condition cX12_condition 1 none 0 := ⟨⟨(lw_t6 190 rfl rfl), (lw_t1 14 rfl rfl), by decide +kernel, by decide⟩, (lw_t6 189 rfl rfl), (lw_q2 15 rfl)⟩
set_option maxRecDepth 100000 in
theorem kX12_clause : CkV yX12_clause cX12_clause 3 none 0 := ⟨⟨(lw_t6 186 rfl rfl), (lw_t1 14 rfl rfl), by decide +kernel, by decide⟩, (lw_t6 185 rfl rfl), (lw_q2 14 rfl)⟩
set_option maxRecDepth 100000 in
theorem kX12_open : CkV yX12_open cX12_open 2 none 1 := ⟨⟨(lw_t6 182 rfl rfl), (lw_t1 14 rfl rfl), by decide +kernel, by decide⟩, (lw_t6 181 rfl rfl), (lw_q2 13 rfl)⟩
set_option maxRecDepth 100000 in
theorem kX12_atEnd : CkV yX12_atEnd cX12_atEnd 1 (some .int) 0 := ⟨⟨(lw_t7 4 rfl rfl), (lw_t1 14 rfl rfl), by decide +kernel, by decide⟩, (lw_t7 3 rfl rfl), (lw_q3 11 rfl)⟩
set_option maxRecDepth 100000 in
theorem kX12_readLaw : CkV yX12_readLaw cX12_readLaw 2 (some .int) 1 := ⟨⟨(lw_t6 178 rfl rfl), (lw_t1 14 rfl rfl), by decide +kernel, by decide⟩, (lw_t6 177 rfl rfl), (lw_q2 12 rfl)⟩
set_option maxRecDepth 100000 in
theorem kX12_bounded : CkS yX12_bounded cX12_bounded 2 (some .int) 1 := ⟨⟨(lw_t7 129 rfl rfl), (lw_t1 14 rfl rfl), by decide +kernel, by decide⟩, (lw_t7 128 rfl rfl)⟩
set_option maxRecDepth 100000 in
theorem kX12_worked : CkS yX12_worked cX12_worked 5 (some .int) 3 := ⟨⟨(lw_t7 126 rfl rfl), (lw_t1 14 rfl rfl), by decide +kernel, by decide⟩, (lw_t7 125 rfl rfl)⟩
set_option maxRecDepth 100000 in
theorem kX12_workOut : CkV yX12_workOut cX12_workOut 6 (some .int) 3 := ⟨⟨(lw_t7 123 rfl rfl), (lw_t1 14 rfl rfl), by decide +kernel, by decide⟩, (lw_t7 122 rfl rfl), (lw_q4 14 rfl)⟩
set_option maxRecDepth 100000 in
theorem kX12_worthOf : CkV yX12_worthOf cX12_worthOf 3 (some .int) 1 := ⟨⟨(lw_t7 119 rfl rfl), (lw_t1 14 rfl rfl), by decide +kernel, by decide⟩, (lw_t7 118 rfl rfl), (lw_q4 13 rfl)⟩
set_option maxRecDepth 100000 in
theorem kX12_number : CkV yX12_number cX12_number 4 (some .int) 2 := ⟨⟨(lw_t6 164 rfl rfl), (lw_t1 14 rfl rfl), by decide +kernel, by decide⟩, (lw_t6 163 rfl rfl), (lw_q2 10 rfl)⟩
set_option maxRecDepth 100000 in
theorem kX12_itemOf : CkS yX12_itemOf cX12_itemOf 2 (some .int) 2 := ⟨⟨(lw_t6 154 rfl rfl), (lw_t1 14 rfl rfl), by decide +kernel, by decide⟩, (lw_t6 153 rfl rfl)⟩
set_option maxRecDepth 100000 in
theorem kX12_highest : CkS yX12_highest cX12_highest 2 (some .int) 2 := ⟨⟨(lw_t6 160 rfl rfl), (lw_t1 14 rfl rfl), by decide +kernel, by decide⟩, (lw_t6 159 rfl rfl)⟩
set_option maxRecDepth 100000 in
theorem kX12_usual : CkS yX12_usual cX12_usual 2 (some .int) 2 := ⟨⟨(lw_t6 139 rfl rfl), (lw_t1 14 rfl rfl), by decide +kernel, by decide⟩, (lw_t6 138 rfl rfl)⟩
set_option maxRecDepth 100000 in
theorem kX12_items : CkV yX12_items cX12_items 7 none 4 := ⟨⟨(lw_t6 151 rfl rfl), (lw_t1 14 rfl rfl), by decide +kernel, by decide⟩, (lw_t6 150 rfl rfl), (lw_q2 9 rfl)⟩
set_option maxRecDepth 100000 in
theorem kX12_readTown : CkV yX12_readTown cX12_readTown 4 (some .int) 0 := ⟨⟨(lw_t6 136 rfl rfl), (lw_t1 14 rfl rfl), by decide +kernel, by decide⟩, (lw_t6 135 rfl rfl), (lw_q2 6 rfl)⟩
set_option maxRecDepth 100000 in
theorem kX12_fault : CkV yX12_fault cX12_fault 2 (some .int) 1 := ⟨⟨(lw_t6 132 rfl rfl), (lw_t1 14 rfl rfl), by decide +kernel, by decide⟩, (lw_t6 130 rfl rfl), (lw_t6 131 rfl rfl)⟩
set_option maxRecDepth 100000 in
theorem kX12_takeTown : CkV yX12_takeTown cX12_takeTown 2 (some .int) 0 := ⟨⟨(lw_t7 12 rfl rfl), (lw_t1 14 rfl rfl), by decide +kernel, by decide⟩, (lw_t7 11 rfl rfl), (lw_q3 12 rfl)⟩
set_option maxRecDepth 100000 in
theorem kX12_text : CkV yX12_text cX12_text 2 (some .int) 1 := ⟨⟨(lw_t7 8 rfl rfl), (lw_t1 14 rfl rfl), by decide +kernel, by decide⟩, (lw_t7 6 rfl rfl), (lw_t7 7 rfl rfl)⟩
set_option maxRecDepth 100000 in
theorem kX12_of : CkV yX12_of cX12_of 3 (some .int) 2 := ⟨⟨(lw_t7 28 rfl rfl), (lw_t1 14 rfl rfl), by decide +kernel, by decide⟩, (lw_t7 27 rfl rfl), (lw_q3 14 rfl)⟩
set_option maxRecDepth 100000 in
theorem kX12_isPerson : CkV yX12_isPerson cX12_isPerson 2 (some .boolean) 1 := ⟨⟨(lw_t7 24 rfl rfl), (lw_t1 14 rfl rfl), by decide +kernel, by decide⟩, (lw_t7 23 rfl rfl), (lw_q3 13 rfl)⟩
set_option maxRecDepth 100000 in
theorem kX12_isAway : CkV yX12_isAway cX12_isAway 2 (some .boolean) 1 := ⟨⟨(lw_t7 32 rfl rfl), (lw_t1 14 rfl rfl), by decide +kernel, by decide⟩, (lw_t7 31 rfl rfl), (lw_q3 15 rfl)⟩
set_option maxRecDepth 100000 in
theorem kX12_everybody : CkV yX12_everybody cX12_everybody 1 (some .int) 0 := ⟨⟨(lw_t7 219 rfl rfl), (lw_t1 14 rfl rfl), by decide +kernel, by decide⟩, (lw_t7 218 rfl rfl), (lw_q5 8 rfl)⟩
set_option maxRecDepth 100000 in
theorem kX12_seems : CkV yX12_seems cX12_seems 3 (some .int) 2 := ⟨⟨(lw_t7 36 rfl rfl), (lw_t1 14 rfl rfl), by decide +kernel, by decide⟩, (lw_t7 35 rfl rfl), (lw_q4 0 rfl)⟩
set_option maxRecDepth 100000 in
theorem kX12_held : CkS yX12_held cX12_held 1 (some .int) 1 := ⟨⟨(lw_t7 140 rfl rfl), (lw_t1 14 rfl rfl), by decide +kernel, by decide⟩, (lw_t7 139 rfl rfl)⟩
set_option maxRecDepth 100000 in
theorem kX12_appealOf : CkV yX12_appealOf cX12_appealOf 3 (some .int) 1 := ⟨⟨(lw_t7 115 rfl rfl), (lw_t1 14 rfl rfl), by decide +kernel, by decide⟩, (lw_t7 114 rfl rfl), (lw_q4 12 rfl)⟩
set_option maxRecDepth 100000 in
theorem kX12_mayBe : CkV yX12_mayBe cX12_mayBe 2 (some .boolean) 1 := ⟨⟨(lw_t7 111 rfl rfl), (lw_t1 14 rfl rfl), by decide +kernel, by decide⟩, (lw_t7 110 rfl rfl), (lw_q4 11 rfl)⟩
set_option maxRecDepth 100000 in
theorem kX12_pickedByHim : CkV yX12_pickedByHim cX12_pickedByHim 3 (some .int) 0 := ⟨⟨(lw_t7 107 rfl rfl), (lw_t1 14 rfl rfl), by decide +kernel, by decide⟩, (lw_t7 106 rfl rfl), (lw_q4 10 rfl)⟩
set_option maxRecDepth 100000 in
theorem kX12_pickedByRest : CkV yX12_pickedByRest cX12_pickedByRest 3 (some .int) 0 := ⟨⟨(lw_t7 148 rfl rfl), (lw_t1 14 rfl rfl), by decide +kernel, by decide⟩, (lw_t7 147 rfl rfl), (lw_q5 0 rfl)⟩
set_option maxRecDepth 100000 in
theorem kX12_picked : CkV yX12_picked cX12_picked 2 (some .int) 0 := ⟨⟨(lw_t7 144 rfl rfl), (lw_t1 14 rfl rfl), by decide +kernel, by decide⟩, (lw_t7 143 rfl rfl), (lw_q4 15 rfl)⟩
set_option maxRecDepth 100000 in
theorem kX12_metBy : CkV yX12_metBy cX12_metBy 4 (some .int) 1 := ⟨⟨(lw_t7 152 rfl rfl), (lw_t1 14 rfl rfl), by decide +kernel, by decide⟩, (lw_t7 151 rfl rfl), (lw_q5 1 rfl)⟩
set_option maxRecDepth 100000 in
theorem kX12_live : CkV yX12_live cX12_live 4 none 0 := ⟨⟨(lw_t7 103 rfl rfl), (lw_t1 14 rfl rfl), by decide +kernel, by decide⟩, (lw_t7 102 rfl rfl), (lw_q4 9 rfl)⟩
set_option maxRecDepth 100000 in
theorem kX12_passYear : CkV yX12_passYear cX12_passYear 2 none 0 := ⟨⟨(lw_t7 99 rfl rfl), (lw_t1 14 rfl rfl), by decide +kernel, by decide⟩, (lw_t7 98 rfl rfl), (lw_q4 8 rfl)⟩
set_option maxRecDepth 100000 in
theorem kX12_rule : CkV yX12_rule cX12_rule 2 (some .int) 1 := ⟨⟨(lw_t7 16 rfl rfl), (lw_t1 14 rfl rfl), by decide +kernel, by decide⟩, (lw_t7 14 rfl rfl), (lw_t7 15 rfl rfl)⟩
set_option maxRecDepth 100000 in
theorem kX12_person : CkV yX12_person cX12_person 3 (some .int) 2 := ⟨⟨(lw_t7 20 rfl rfl), (lw_t1 14 rfl rfl), by decide +kernel, by decide⟩, (lw_t7 18 rfl rfl), (lw_t7 19 rfl rfl)⟩
set_option maxRecDepth 100000 in
theorem kX12_trouble : CkV yX12_trouble cX12_trouble 3 (some .int) 2 := ⟨⟨(lw_t7 41 rfl rfl), (lw_t1 14 rfl rfl), by decide +kernel, by decide⟩, (lw_t7 39 rfl rfl), (lw_t7 40 rfl rfl)⟩
set_option maxRecDepth 100000 in
theorem kX12_law : CkV yX12_law cX12_law 2 (some .boolean) 1 := ⟨⟨(lw_t7 45 rfl rfl), (lw_t1 14 rfl rfl), by decide +kernel, by decide⟩, (lw_t7 43 rfl rfl), (lw_t7 44 rfl rfl)⟩
set_option maxRecDepth 100000 in
theorem kX12_keep : CkV yX12_keep cX12_keep 2 none 0 := ⟨⟨(lw_t7 66 rfl rfl), (lw_t1 14 rfl rfl), by decide +kernel, by decide⟩, (lw_t7 65 rfl rfl), (lw_q4 4 rfl)⟩
set_option maxRecDepth 100000 in
theorem kX12_isRefused : CkV yX12_isRefused cX12_isRefused 2 (some .boolean) 1 := ⟨⟨(lw_t7 62 rfl rfl), (lw_t1 14 rfl rfl), by decide +kernel, by decide⟩, (lw_t7 61 rfl rfl), (lw_q4 3 rfl)⟩
set_option maxRecDepth 100000 in
theorem kX12_farTo : CkV yX12_farTo cX12_farTo 2 (some .int) 1 := ⟨⟨(lw_t7 57 rfl rfl), (lw_t1 14 rfl rfl), by decide +kernel, by decide⟩, (lw_t7 56 rfl rfl), (lw_q4 2 rfl)⟩
set_option maxRecDepth 100000 in
theorem kX12_isTooFar : CkV yX12_isTooFar cX12_isTooFar 2 (some .boolean) 1 := ⟨⟨(lw_t7 53 rfl rfl), (lw_t1 14 rfl rfl), by decide +kernel, by decide⟩, (lw_t7 52 rfl rfl), (lw_q4 1 rfl)⟩
set_option maxRecDepth 100000 in
theorem kX12_walkNow : CkV yX12_walkNow cX12_walkNow 6 (some .int) 1 := ⟨⟨(lw_t7 70 rfl rfl), (lw_t1 14 rfl rfl), by decide +kernel, by decide⟩, (lw_t7 69 rfl rfl), (lw_q4 5 rfl)⟩
set_option maxRecDepth 100000 in
theorem kX12_walks : CkV yX12_walks cX12_walks 2 (some .int) 1 := ⟨⟨(lw_t7 49 rfl rfl), (lw_t1 14 rfl rfl), by decide +kernel, by decide⟩, (lw_t7 47 rfl rfl), (lw_t7 48 rfl rfl)⟩
set_option maxRecDepth 100000 in
theorem kX12_canFeign : CkV yX12_canFeign cX12_canFeign 3 (some .boolean) 2 := ⟨⟨(lw_t7 79 rfl rfl), (lw_t1 14 rfl rfl), by decide +kernel, by decide⟩, (lw_t7 78 rfl rfl), (lw_q4 6 rfl)⟩
set_option maxRecDepth 100000 in
theorem kX12_feigns : CkV yX12_feigns cX12_feigns 3 (some .int) 2 := ⟨⟨(lw_t7 75 rfl rfl), (lw_t1 14 rfl rfl), by decide +kernel, by decide⟩, (lw_t7 73 rfl rfl), (lw_t7 74 rfl rfl)⟩
set_option maxRecDepth 100000 in
theorem kX12_leaves : CkV yX12_leaves cX12_leaves 2 (some .int) 1 := ⟨⟨(lw_t7 83 rfl rfl), (lw_t1 14 rfl rfl), by decide +kernel, by decide⟩, (lw_t7 81 rfl rfl), (lw_t7 82 rfl rfl)⟩
set_option maxRecDepth 100000 in
theorem kX12_give : CkV yX12_give cX12_give 2 (some .int) 1 := ⟨⟨(lw_t7 87 rfl rfl), (lw_t1 14 rfl rfl), by decide +kernel, by decide⟩, (lw_t7 85 rfl rfl), (lw_t7 86 rfl rfl)⟩
set_option maxRecDepth 100000 in
theorem kX12_areYears : CkV yX12_areYears cX12_areYears 2 (some .boolean) 1 := ⟨⟨(lw_t7 95 rfl rfl), (lw_t1 14 rfl rfl), by decide +kernel, by decide⟩, (lw_t7 94 rfl rfl), (lw_q4 7 rfl)⟩
set_option maxRecDepth 100000 in
theorem kX12_martinmas : CkV yX12_martinmas cX12_martinmas 3 (some .int) 1 := ⟨⟨(lw_t7 91 rfl rfl), (lw_t1 14 rfl rfl), by decide +kernel, by decide⟩, (lw_t7 89 rfl rfl), (lw_t7 90 rfl rfl)⟩
set_option maxRecDepth 100000 in
theorem kX12_fate : CkV yX12_fate cX12_fate 2 (some .boolean) 1 := ⟨⟨(lw_t7 156 rfl rfl), (lw_t1 14 rfl rfl), by decide +kernel, by decide⟩, (lw_t7 154 rfl rfl), (lw_t7 155 rfl rfl)⟩
set_option maxRecDepth 100000 in
theorem kX12_draw : CkV yX12_draw cX12_draw 2 (some .int) 1 := ⟨⟨(lw_t7 168 rfl rfl), (lw_t1 14 rfl rfl), by decide +kernel, by decide⟩, (lw_t7 167 rfl rfl), (lw_q5 3 rfl)⟩
set_option maxRecDepth 100000 in
theorem kX12_drawYear : CkV yX12_drawYear cX12_drawYear 3 none 0 := ⟨⟨(lw_t7 164 rfl rfl), (lw_t1 14 rfl rfl), by decide +kernel, by decide⟩, (lw_t7 163 rfl rfl), (lw_q5 2 rfl)⟩
set_option maxRecDepth 100000 in
theorem kX12_years : CkV yX12_years cX12_years 5 (some .int) 2 := ⟨⟨(lw_t7 160 rfl rfl), (lw_t1 14 rfl rfl), by decide +kernel, by decide⟩, (lw_t7 158 rfl rfl), (lw_t7 159 rfl rfl)⟩
set_option maxRecDepth 100000 in
theorem kX12_status : CkV yX12_status cX12_status 2 (some .int) 1 := ⟨⟨(lw_t7 174 rfl rfl), (lw_t1 14 rfl rfl), by decide +kernel, by decide⟩, (lw_t7 172 rfl rfl), (lw_t7 173 rfl rfl)⟩
set_option maxRecDepth 100000 in
theorem kX12_undo : CkV yX12_undo cX12_undo 2 (some .int) 0 := ⟨⟨(lw_t7 178 rfl rfl), (lw_t1 14 rfl rfl), by decide +kernel, by decide⟩, (lw_t7 176 rfl rfl), (lw_t7 177 rfl rfl)⟩
set_option maxRecDepth 100000 in
theorem kX12_log : CkV yX12_log cX12_log 3 (some .int) 2 := ⟨⟨(lw_t7 182 rfl rfl), (lw_t1 14 rfl rfl), by decide +kernel, by decide⟩, (lw_t7 180 rfl rfl), (lw_t7 181 rfl rfl)⟩
set_option maxRecDepth 100000 in
theorem kX12_putAside : CkV yX12_putAside cX12_putAside 2 none 0 := ⟨⟨(lw_t7 203 rfl rfl), (lw_t1 14 rfl rfl), by decide +kernel, by decide⟩, (lw_t7 202 rfl rfl), (lw_q5 5 rfl)⟩
set_option maxRecDepth 100000 in
theorem kX12_takeBack : CkV yX12_takeBack cX12_takeBack 2 none 0 := ⟨⟨(lw_t7 211 rfl rfl), (lw_t1 14 rfl rfl), by decide +kernel, by decide⟩, (lw_t7 210 rfl rfl), (lw_q5 7 rfl)⟩
set_option maxRecDepth 100000 in
theorem kX12_appeal : CkV yX12_appeal cX12_appeal 2 (some .int) 1 := ⟨⟨(lw_t7 187 rfl rfl), (lw_t1 14 rfl rfl), by decide +kernel, by decide⟩, (lw_t7 185 rfl rfl), (lw_t7 186 rfl rfl)⟩
set_option maxRecDepth 100000 in
theorem kX12_lead : CkV yX12_lead cX12_lead 4 (some .int) 1 := ⟨⟨(lw_t7 191 rfl rfl), (lw_t1 14 rfl rfl), by decide +kernel, by decide⟩, (lw_t7 189 rfl rfl), (lw_t7 190 rfl rfl)⟩
set_option maxRecDepth 100000 in
theorem kX12_meetMore : CkV yX12_meetMore cX12_meetMore 2 none 1 := ⟨⟨(lw_t7 207 rfl rfl), (lw_t1 14 rfl rfl), by decide +kernel, by decide⟩, (lw_t7 206 rfl rfl), (lw_q5 6 rfl)⟩
set_option maxRecDepth 100000 in
theorem kX12_isPickedBy : CkV yX12_isPickedBy cX12_isPickedBy 5 (some .boolean) 3 := ⟨⟨(lw_t7 199 rfl rfl), (lw_t1 14 rfl rfl), by decide +kernel, by decide⟩, (lw_t7 198 rfl rfl), (lw_q5 4 rfl)⟩
set_option maxRecDepth 100000 in
theorem kX12_feigning : CkV yX12_feigning cX12_feigning 6 (some .int) 1 := ⟨⟨(lw_t7 195 rfl rfl), (lw_t1 14 rfl rfl), by decide +kernel, by decide⟩, (lw_t7 193 rfl rfl), (lw_t7 194 rfl rfl)⟩
set_option maxRecDepth 100000 in
theorem kX12_tour : CkV yX12_tour cX12_tour 8 (some .int) 2 := ⟨⟨(lw_t7 215 rfl rfl), (lw_t1 14 rfl rfl), by decide +kernel, by decide⟩, (lw_t7 213 rfl rfl), (lw_t7 214 rfl rfl)⟩
set_option maxRecDepth 100000 in
theorem kX12_given : CkV yX12_given cX12_given 4 (some .int) 3 := ⟨⟨(lw_t7 223 rfl rfl), (lw_t1 14 rfl rfl), by decide +kernel, by decide⟩, (lw_t7 221 rfl rfl), (lw_t7 222 rfl rfl)⟩
set_option maxRecDepth 100000 in
theorem kX12_toldAppeal : CkV yX12_toldAppeal cX12_toldAppeal 3 (some .int) 2 := ⟨⟨(lw_t8 0 rfl rfl), (lw_t1 14 rfl rfl), by decide +kernel, by decide⟩, (lw_t7 239 rfl rfl), (lw_q5 11 rfl)⟩
set_option maxRecDepth 100000 in
theorem kX12_toldPick : CkV yX12_toldPick cX12_toldPick 5 (some .int) 2 := ⟨⟨(lw_t7 236 rfl rfl), (lw_t1 14 rfl rfl), by decide +kernel, by decide⟩, (lw_t7 235 rfl rfl), (lw_q5 10 rfl)⟩
set_option maxRecDepth 100000 in
theorem kX12_areLikings : CkV yX12_areLikings cX12_areLikings 3 (some .boolean) 1 := ⟨⟨(lw_t7 232 rfl rfl), (lw_t1 14 rfl rfl), by decide +kernel, by decide⟩, (lw_t7 231 rfl rfl), (lw_q5 9 rfl)⟩
set_option maxRecDepth 100000 in
theorem kX12_likings : CkV yX12_likings cX12_likings 4 (some .int) 1 := ⟨⟨(lw_t7 228 rfl rfl), (lw_t1 14 rfl rfl), by decide +kernel, by decide⟩, (lw_t7 226 rfl rfl), (lw_t7 227 rfl rfl)⟩
set_option maxRecDepth 100000 in
theorem kX12_apartBy : CkV yX12_apartBy cX12_apartBy 5 (some .int) 2 := ⟨⟨(lw_t8 9 rfl rfl), (lw_t1 14 rfl rfl), by decide +kernel, by decide⟩, (lw_t8 8 rfl rfl), (lw_q5 12 rfl)⟩
set_option maxRecDepth 100000 in
theorem kX12_show : CkV yX12_show cX12_show 6 (some .int) 0 := ⟨⟨(lw_t8 4 rfl rfl), (lw_t1 14 rfl rfl), by decide +kernel, by decide⟩, (lw_t8 2 rfl rfl), (lw_t8 3 rfl rfl)⟩
set_option maxRecDepth 100000 in
theorem kX12_tryWork : CkV yX12_tryWork cX12_tryWork 6 none 4 := ⟨⟨(lw_t8 17 rfl rfl), (lw_t1 14 rfl rfl), by decide +kernel, by decide⟩, (lw_t8 16 rfl rfl), (lw_q5 13 rfl)⟩
set_option maxRecDepth 100000 in
theorem kX12_work : CkV yX12_work cX12_work 2 (some .int) 1 := ⟨⟨(lw_t8 13 rfl rfl), (lw_t1 14 rfl rfl), by decide +kernel, by decide⟩, (lw_t8 11 rfl rfl), (lw_t8 12 rfl rfl)⟩
set_option maxRecDepth 100000 in
theorem kX12_gameOf : CkV yX12_gameOf cX12_gameOf 7 (some .int) 5 := ⟨⟨(lw_t8 29 rfl rfl), (lw_t1 14 rfl rfl), by decide +kernel, by decide⟩, (lw_t8 28 rfl rfl), (lw_q5 15 rfl)⟩
set_option maxRecDepth 100000 in
theorem kX12_areTwo : CkV yX12_areTwo cX12_areTwo 3 (some .boolean) 2 := ⟨⟨(lw_t8 25 rfl rfl), (lw_t1 14 rfl rfl), by decide +kernel, by decide⟩, (lw_t8 24 rfl rfl), (lw_q5 14 rfl)⟩
set_option maxRecDepth 100000 in
theorem kX12_game : CkV yX12_game cX12_game 6 (some .int) 5 := ⟨⟨(lw_t8 21 rfl rfl), (lw_t1 14 rfl rfl), by decide +kernel, by decide⟩, (lw_t8 19 rfl rfl), (lw_t8 20 rfl rfl)⟩
set_option maxRecDepth 100000 in
theorem kX12_isRest : CkV yX12_isRest cX12_isRest 6 (some .boolean) 4 := ⟨⟨(lw_t8 37 rfl rfl), (lw_t1 14 rfl rfl), by decide +kernel, by decide⟩, (lw_t8 36 rfl rfl), (lw_q6 0 rfl)⟩
set_option maxRecDepth 100000 in
theorem kX12_rests : CkV yX12_rests cX12_rests 7 (some .int) 3 := ⟨⟨(lw_t8 33 rfl rfl), (lw_t1 14 rfl rfl), by decide +kernel, by decide⟩, (lw_t8 31 rfl rfl), (lw_t8 32 rfl rfl)⟩
set_option maxRecDepth 100000 in
theorem kX12_oddsFrom : CkV yX12_oddsFrom cX12_oddsFrom 7 (some .int) 4 := ⟨⟨(lw_t8 46 rfl rfl), (lw_t1 14 rfl rfl), by decide +kernel, by decide⟩, (lw_t8 45 rfl rfl), (lw_q6 1 rfl)⟩
set_option maxRecDepth 100000 in
theorem kX12_odds : CkV yX12_odds cX12_odds 4 (some .int) 2 := ⟨⟨(lw_t8 41 rfl rfl), (lw_t1 14 rfl rfl), by decide +kernel, by decide⟩, (lw_t8 39 rfl rfl), (lw_t8 40 rfl rfl)⟩
set_option maxRecDepth 100000 in
theorem kX12_first : CkV yX12_first cX12_first 5 (some .int) 1 := ⟨⟨(lw_t8 51 rfl rfl), (lw_t1 14 rfl rfl), by decide +kernel, by decide⟩, (lw_t8 49 rfl rfl), (lw_t8 50 rfl rfl)⟩
set_option maxRecDepth 100000 in
theorem kX12_shares : CkV yX12_shares cX12_shares 5 (some .int) 2 := ⟨⟨(lw_t8 55 rfl rfl), (lw_t1 14 rfl rfl), by decide +kernel, by decide⟩, (lw_t8 53 rfl rfl), (lw_t8 54 rfl rfl)⟩
set_option maxRecDepth 100000 in
theorem kX12_valueOf : CkV yX12_valueOf cX12_valueOf 3 (some .int) 2 := ⟨⟨(lw_t8 75 rfl rfl), (lw_t1 14 rfl rfl), by decide +kernel, by decide⟩, (lw_t8 74 rfl rfl), (lw_q6 5 rfl)⟩
set_option maxRecDepth 100000 in
theorem kX12_topBy : CkV yX12_topBy cX12_topBy 4 (some .int) 1 := ⟨⟨(lw_t8 71 rfl rfl), (lw_t1 14 rfl rfl), by decide +kernel, by decide⟩, (lw_t8 70 rfl rfl), (lw_q6 4 rfl)⟩
set_option maxRecDepth 100000 in
theorem kX12_gravest : CkV yX12_gravest cX12_gravest 3 (some .int) 0 := ⟨⟨(lw_t8 63 rfl rfl), (lw_t1 14 rfl rfl), by decide +kernel, by decide⟩, (lw_t8 62 rfl rfl), (lw_q6 2 rfl)⟩
set_option maxRecDepth 100000 in
theorem kX12_metOnes : CkV yX12_metOnes cX12_metOnes 3 (some .int) 0 := ⟨⟨(lw_t8 67 rfl rfl), (lw_t1 14 rfl rfl), by decide +kernel, by decide⟩, (lw_t8 66 rfl rfl), (lw_q6 3 rfl)⟩
set_option maxRecDepth 100000 in
theorem kX12_most : CkV yX12_most cX12_most 2 (some .int) 1 := ⟨⟨(lw_t8 59 rfl rfl), (lw_t1 14 rfl rfl), by decide +kernel, by decide⟩, (lw_t8 57 rfl rfl), (lw_t8 58 rfl rfl)⟩
set_option maxRecDepth 100000 in
theorem kX12_image : CkV yX12_image cX12_image 2 (some .int) 0 := ⟨⟨(lw_t8 79 rfl rfl), (lw_t1 14 rfl rfl), by decide +kernel, by decide⟩, (lw_t8 77 rfl rfl), (lw_t8 78 rfl rfl)⟩
set_option maxRecDepth 100000 in
theorem kX12_back : CkV yX12_back cX12_back 2 (some .int) 0 := ⟨⟨(lw_t8 83 rfl rfl), (lw_t1 14 rfl rfl), by decide +kernel, by decide⟩, (lw_t8 81 rfl rfl), (lw_t8 82 rfl rfl)⟩
set_option maxRecDepth 100000 in
theorem kX12_count : CkV yX12_count cX12_count 2 (some .int) 1 := ⟨⟨(lw_t8 87 rfl rfl), (lw_t1 14 rfl rfl), by decide +kernel, by decide⟩, (lw_t8 85 rfl rfl), (lw_t8 86 rfl rfl)⟩
