/-! ## the class: callees' words -/
set_option maxRecDepth 100000 in
theorem kX0_keep : CkV yX0_keep cX0_keep 2 none 1 := ⟨⟨(lw_t3 146 rfl rfl), (lw_t1 8 rfl rfl), by decide +kernel, by decide⟩, (lw_t3 144 rfl rfl), (lw_t3 145 rfl rfl)⟩
set_option maxRecDepth 100000 in
theorem kX0_takeBack : CkV yX0_takeBack cX0_takeBack 2 none 1 := ⟨⟨(lw_t4 116 rfl rfl), (lw_t1 8 rfl rfl), by decide +kernel, by decide⟩, (lw_t4 114 rfl rfl), (lw_t4 115 rfl rfl)⟩
set_option maxRecDepth 100000 in
theorem kX0_forget : CkV yX0_forget cX0_forget 1 none 0 := ⟨⟨(lw_t3 82 rfl rfl), (lw_t1 8 rfl rfl), by decide +kernel, by decide⟩, (lw_t3 80 rfl rfl), (lw_t3 81 rfl rfl)⟩
set_option maxRecDepth 100000 in
theorem kX1_canReach : CkV yX1_canReach cX1_canReach 4 (some .boolean) 2 := ⟨⟨(lw_t3 139 rfl rfl), (lw_t1 11 rfl rfl), by decide +kernel, by decide⟩, (lw_t3 137 rfl rfl), (lw_t3 138 rfl rfl)⟩
set_option maxRecDepth 100000 in
theorem kX1_walkTo : CkV yX1_walkTo cX1_walkTo 8 (some .int) 2 := ⟨⟨(lw_t3 151 rfl rfl), (lw_t1 11 rfl rfl), by decide +kernel, by decide⟩, (lw_t3 149 rfl rfl), (lw_t3 150 rfl rfl)⟩
set_option maxRecDepth 100000 in
theorem kX1_endYear : CkV yX1_endYear cX1_endYear 6 none 1 := ⟨⟨(lw_t3 220 rfl rfl), (lw_t1 11 rfl rfl), by decide +kernel, by decide⟩, (lw_t3 218 rfl rfl), (lw_t3 219 rfl rfl)⟩
set_option maxRecDepth 100000 in
theorem kX1_metBy : CkV yX1_metBy cX1_metBy 5 (some .int) 2 := ⟨⟨(lw_t4 52 rfl rfl), (lw_t1 11 rfl rfl), by decide +kernel, by decide⟩, (lw_t4 50 rfl rfl), (lw_t4 51 rfl rfl)⟩
set_option maxRecDepth 100000 in
theorem kX1_liveYear : CkV yX1_liveYear cX1_liveYear 5 none 2 := ⟨⟨(lw_t4 91 rfl rfl), (lw_t1 11 rfl rfl), by decide +kernel, by decide⟩, (lw_t4 89 rfl rfl), (lw_t4 90 rfl rfl)⟩
set_option maxRecDepth 100000 in
theorem kX1_draw : CkV yX1_draw cX1_draw 2 (some .int) 1 := ⟨⟨(lw_t4 95 rfl rfl), (lw_t1 11 rfl rfl), by decide +kernel, by decide⟩, (lw_t4 94 rfl rfl), (lw_q1 10 rfl)⟩
set_option maxRecDepth 100000 in
theorem kX2_forget : CkV yX2_forget cX2_forget 2 none 0 := ⟨⟨(lw_t3 86 rfl rfl), (lw_t1 13 rfl rfl), by decide +kernel, by decide⟩, (lw_t3 84 rfl rfl), (lw_t3 85 rfl rfl)⟩
set_option maxRecDepth 100000 in
theorem kX2_add : CkV yX2_add cX2_add 6 none 3 := ⟨⟨(lw_t4 226 rfl rfl), (lw_t1 13 rfl rfl), by decide +kernel, by decide⟩, (lw_t4 224 rfl rfl), (lw_t4 225 rfl rfl)⟩
set_option maxRecDepth 100000 in
theorem kX2_weigh : CkV yX2_weigh cX2_weigh 7 none 1 := ⟨⟨(lw_t4 230 rfl rfl), (lw_t1 13 rfl rfl), by decide +kernel, by decide⟩, (lw_t4 229 rfl rfl), (lw_q2 0 rfl)⟩
set_option maxRecDepth 100000 in
theorem kX2_bestPair : CkV yX2_bestPair cX2_bestPair 6 (some .int) 0 := ⟨⟨(lw_t5 5 rfl rfl), (lw_t1 13 rfl rfl), by decide +kernel, by decide⟩, (lw_t5 3 rfl rfl), (lw_t5 4 rfl rfl)⟩
set_option maxRecDepth 100000 in
theorem kX2_weighPairs : CkV yX2_weighPairs cX2_weighPairs 4 none 0 := ⟨⟨(lw_t5 9 rfl rfl), (lw_t1 13 rfl rfl), by decide +kernel, by decide⟩, (lw_t5 8 rfl rfl), (lw_q2 1 rfl)⟩
set_option maxRecDepth 100000 in
theorem kX3_seeming : CkV yX3_seeming cX3_seeming 5 (some .int) 3 := ⟨⟨(lw_t3 191 rfl rfl), (lw_t1 9 rfl rfl), by decide +kernel, by decide⟩, (lw_t3 189 rfl rfl), (lw_t3 190 rfl rfl)⟩
set_option maxRecDepth 100000 in
theorem kX3_appealOf : CkV yX3_appealOf cX3_appealOf 7 (some .int) 2 := ⟨⟨(lw_t4 8 rfl rfl), (lw_t1 9 rfl rfl), by decide +kernel, by decide⟩, (lw_t4 6 rfl rfl), (lw_t4 7 rfl rfl)⟩
set_option maxRecDepth 100000 in
theorem kX3_inTown : CkV yX3_inTown cX3_inTown 2 (some .int) 1 := ⟨⟨(lw_t3 232 rfl rfl), (lw_t1 9 rfl rfl), by decide +kernel, by decide⟩, (lw_t3 230 rfl rfl), (lw_t3 231 rfl rfl)⟩
set_option maxRecDepth 100000 in
theorem kX3_candidates : CkV yX3_candidates cX3_candidates 2 (some .int) 1 := ⟨⟨(lw_t3 228 rfl rfl), (lw_t1 9 rfl rfl), by decide +kernel, by decide⟩, (lw_t3 226 rfl rfl), (lw_t3 227 rfl rfl)⟩
set_option maxRecDepth 100000 in
theorem kX3_picked : CkV yX3_picked cX3_picked 3 (some .int) 1 := ⟨⟨(lw_t3 224 rfl rfl), (lw_t1 9 rfl rfl), by decide +kernel, by decide⟩, (lw_t3 222 rfl rfl), (lw_t3 223 rfl rfl)⟩
set_option maxRecDepth 100000 in
theorem kX3_weigh : CkV yX3_weigh cX3_weigh 4 none 2 := ⟨⟨(lw_t4 4 rfl rfl), (lw_t1 9 rfl rfl), by decide +kernel, by decide⟩, (lw_t4 2 rfl rfl), (lw_t4 3 rfl rfl)⟩
set_option maxRecDepth 100000 in
theorem kX3_choice : CkV yX3_choice cX3_choice 4 (some .int) 2 := ⟨⟨(lw_t4 31 rfl rfl), (lw_t1 9 rfl rfl), by decide +kernel, by decide⟩, (lw_t4 29 rfl rfl), (lw_t4 30 rfl rfl)⟩
set_option maxRecDepth 100000 in
theorem kX3_mostAppealing : CkV yX3_mostAppealing cX3_mostAppealing 2 (some .int) 1 := ⟨⟨(lw_t4 35 rfl rfl), (lw_t1 9 rfl rfl), by decide +kernel, by decide⟩, (lw_t4 33 rfl rfl), (lw_t4 34 rfl rfl)⟩
set_option maxRecDepth 100000 in
theorem kX4_copyFrom : CkV yX4_copyFrom cX4_copyFrom 2 none 1 := ⟨⟨(lw_t3 90 rfl rfl), (lw_t1 6 rfl rfl), by decide +kernel, by decide⟩, (lw_t3 88 rfl rfl), (lw_t3 89 rfl rfl)⟩
set_option maxRecDepth 100000 in
theorem kX4_add : CkV yX4_add cX4_add 2 none 1 := ⟨⟨(lw_t3 31 rfl rfl), (lw_t1 6 rfl rfl), by decide +kernel, by decide⟩, (lw_t3 29 rfl rfl), (lw_t3 30 rfl rfl)⟩
set_option maxRecDepth 100000 in
theorem kX4_addSign : CkV yX4_addSign cX4_addSign 2 none 1 := ⟨⟨(lw_t3 36 rfl rfl), (lw_t1 6 rfl rfl), by decide +kernel, by decide⟩, (lw_t3 34 rfl rfl), (lw_t3 35 rfl rfl)⟩
set_option maxRecDepth 100000 in
theorem kX4_skipToEnd : CkV yX4_skipToEnd cX4_skipToEnd 2 none 1 := ⟨⟨(lw_t3 52 rfl rfl), (lw_t1 6 rfl rfl), by decide +kernel, by decide⟩, (lw_t3 50 rfl rfl), (lw_t3 51 rfl rfl)⟩
set_option maxRecDepth 100000 in
theorem kX4_worth : CkV yX4_worth cX4_worth 6 (some .int) 1 := ⟨⟨(lw_t4 22 rfl rfl), (lw_t1 6 rfl rfl), by decide +kernel, by decide⟩, (lw_t4 20 rfl rfl), (lw_t4 21 rfl rfl)⟩
set_option maxRecDepth 100000 in
theorem kX4_join : CkS yX4_join cX4_join 5 (some .long) 3 := ⟨⟨(lw_t4 25 rfl rfl), (lw_t1 6 rfl rfl), by decide +kernel, by decide⟩, (lw_t4 24 rfl rfl)⟩
set_option maxRecDepth 100000 in
theorem kX5_read : CkV yX5_read cX5_read 3 (some .int) 0 := ⟨⟨(lw_t3 10 rfl rfl), (lw_t1 5 rfl rfl), by decide +kernel, by decide⟩, (lw_t3 8 rfl rfl), (lw_t3 9 rfl rfl)⟩
set_option maxRecDepth 100000 in
theorem kX5_readClause : CkV yX5_readClause cX5_readClause 3 (some .boolean) 0 := ⟨⟨(lw_t3 15 rfl rfl), (lw_t1 5 rfl rfl), by decide +kernel, by decide⟩, (lw_t3 14 rfl rfl), (lw_q1 3 rfl)⟩
set_option maxRecDepth 100000 in
theorem kX5_readCondition : CkV yX5_readCondition cX5_readCondition 6 (some .boolean) 2 := ⟨⟨(lw_t3 44 rfl rfl), (lw_t1 5 rfl rfl), by decide +kernel, by decide⟩, (lw_t3 43 rfl rfl), (lw_q1 6 rfl)⟩
set_option maxRecDepth 100000 in
theorem kX5_readUnit : CkV yX5_readUnit cX5_readUnit 5 (some .boolean) 2 := ⟨⟨(lw_t3 48 rfl rfl), (lw_t1 5 rfl rfl), by decide +kernel, by decide⟩, (lw_t3 47 rfl rfl), (lw_q1 7 rfl)⟩
set_option maxRecDepth 100000 in
theorem kX5_readSum : CkV yX5_readSum cX5_readSum 6 (some .boolean) 1 := ⟨⟨(lw_t3 21 rfl rfl), (lw_t1 5 rfl rfl), by decide +kernel, by decide⟩, (lw_t3 20 rfl rfl), (lw_q1 4 rfl)⟩
set_option maxRecDepth 100000 in
theorem kX5_readAtom : CkV yX5_readAtom cX5_readAtom 5 (some .boolean) 1 := ⟨⟨(lw_t3 25 rfl rfl), (lw_t1 5 rfl rfl), by decide +kernel, by decide⟩, (lw_t3 24 rfl rfl), (lw_q1 5 rfl)⟩
set_option maxRecDepth 100000 in
theorem kX5_isRelation : CkS yX5_isRelation cX5_isRelation 1 (some .boolean) 1 := ⟨⟨(lw_t3 40 rfl rfl), (lw_t1 5 rfl rfl), by decide +kernel, by decide⟩, (lw_t3 39 rfl rfl)⟩
set_option maxRecDepth 100000 in
theorem kX6_leadOf : CkV yX6_leadOf cX6_leadOf 5 (some .int) 2 := ⟨⟨(lw_t4 162 rfl rfl), (lw_t1 12 rfl rfl), by decide +kernel, by decide⟩, (lw_t4 160 rfl rfl), (lw_t4 161 rfl rfl)⟩
set_option maxRecDepth 100000 in
theorem kX6_leastFeigning : CkV yX6_leastFeigning cX6_leastFeigning 10 (some .int) 2 := ⟨⟨(lw_t4 174 rfl rfl), (lw_t1 12 rfl rfl), by decide +kernel, by decide⟩, (lw_t4 172 rfl rfl), (lw_t4 173 rfl rfl)⟩
set_option maxRecDepth 100000 in
theorem kX6_tourSteps : CkV yX6_tourSteps cX6_tourSteps 6 (some .int) 2 := ⟨⟨(lw_t4 197 rfl rfl), (lw_t1 12 rfl rfl), by decide +kernel, by decide⟩, (lw_t4 195 rfl rfl), (lw_t4 196 rfl rfl)⟩
set_option maxRecDepth 100000 in
theorem kX6_tourEnd : CkV yX6_tourEnd cX6_tourEnd 6 (some .int) 2 := ⟨⟨(lw_t4 212 rfl rfl), (lw_t1 12 rfl rfl), by decide +kernel, by decide⟩, (lw_t4 210 rfl rfl), (lw_t4 211 rfl rfl)⟩
set_option maxRecDepth 100000 in
theorem kX6_lowestDoor : CkV yX6_lowestDoor cX6_lowestDoor 5 (some .int) 2 := ⟨⟨(lw_t4 201 rfl rfl), (lw_t1 12 rfl rfl), by decide +kernel, by decide⟩, (lw_t4 200 rfl rfl), (lw_q1 14 rfl)⟩
set_option maxRecDepth 100000 in
theorem kX6_highestDoor : CkV yX6_highestDoor cX6_highestDoor 5 (some .int) 2 := ⟨⟨(lw_t4 207 rfl rfl), (lw_t1 12 rfl rfl), by decide +kernel, by decide⟩, (lw_t4 206 rfl rfl), (lw_q1 15 rfl)⟩
set_option maxRecDepth 100000 in
theorem kX6_shareOut : CkV yX6_shareOut cX6_shareOut 4 none 1 := ⟨⟨(lw_t5 19 rfl rfl), (lw_t1 12 rfl rfl), by decide +kernel, by decide⟩, (lw_t5 17 rfl rfl), (lw_t5 18 rfl rfl)⟩
set_option maxRecDepth 100000 in
theorem kX6_assign : CkV yX6_assign cX6_assign 10 none 6 := ⟨⟨(lw_t5 24 rfl rfl), (lw_t1 12 rfl rfl), by decide +kernel, by decide⟩, (lw_t5 23 rfl rfl), (lw_q2 2 rfl)⟩
set_option maxRecDepth 100000 in
theorem kX6_play : CkV yX6_play cX6_play 8 none 3 := ⟨⟨(lw_t5 40 rfl rfl), (lw_t1 12 rfl rfl), by decide +kernel, by decide⟩, (lw_t5 38 rfl rfl), (lw_t5 39 rfl rfl)⟩
set_option maxRecDepth 100000 in
theorem kX6_gain : CkV yX6_gain cX6_gain 5 (some .int) 4 := ⟨⟨(lw_t5 44 rfl rfl), (lw_t1 12 rfl rfl), by decide +kernel, by decide⟩, (lw_t5 42 rfl rfl), (lw_t5 43 rfl rfl)⟩
set_option maxRecDepth 100000 in
theorem kX6_isRest : CkV yX6_isRest cX6_isRest 8 (some .boolean) 4 := ⟨⟨(lw_t5 52 rfl rfl), (lw_t1 12 rfl rfl), by decide +kernel, by decide⟩, (lw_t5 50 rfl rfl), (lw_t5 51 rfl rfl)⟩
set_option maxRecDepth 100000 in
theorem kX6_oddsOf : CkV yX6_oddsOf cX6_oddsOf 5 (some .int) 3 := ⟨⟨(lw_t5 61 rfl rfl), (lw_t1 12 rfl rfl), by decide +kernel, by decide⟩, (lw_t5 59 rfl rfl), (lw_t5 60 rfl rfl)⟩
set_option maxRecDepth 100000 in
theorem kX6_partsFor : CkV yX6_partsFor cX6_partsFor 9 (some .long) 5 := ⟨⟨(lw_t5 70 rfl rfl), (lw_t1 12 rfl rfl), by decide +kernel, by decide⟩, (lw_t5 69 rfl rfl), (lw_q2 4 rfl)⟩
set_option maxRecDepth 100000 in
theorem kX6_firstOf : CkV yX6_firstOf cX6_firstOf 3 (some .int) 2 := ⟨⟨(lw_t5 80 rfl rfl), (lw_t1 12 rfl rfl), by decide +kernel, by decide⟩, (lw_t5 78 rfl rfl), (lw_t5 79 rfl rfl)⟩
set_option maxRecDepth 100000 in
theorem kX6_favourite : CkV yX6_favourite cX6_favourite 2 (some .int) 1 := ⟨⟨(lw_t5 96 rfl rfl), (lw_t1 12 rfl rfl), by decide +kernel, by decide⟩, (lw_t5 94 rfl rfl), (lw_t5 95 rfl rfl)⟩
set_option maxRecDepth 100000 in
theorem kX6_chained : CkV yX6_chained cX6_chained 4 (some .int) 1 := ⟨⟨(lw_t5 101 rfl rfl), (lw_t1 12 rfl rfl), by decide +kernel, by decide⟩, (lw_t5 99 rfl rfl), (lw_t5 100 rfl rfl)⟩
set_option maxRecDepth 100000 in
theorem kX7_begin : CkV yX7_begin cX7_begin 3 none 1 := ⟨⟨(lw_t3 69 rfl rfl), (lw_t1 7 rfl rfl), by decide +kernel, by decide⟩, (lw_t3 67 rfl rfl), (lw_t3 68 rfl rfl)⟩
set_option maxRecDepth 100000 in
theorem kX7_copyFrom : CkV yX7_copyFrom cX7_copyFrom 2 none 1 := ⟨⟨(lw_t4 178 rfl rfl), (lw_t1 7 rfl rfl), by decide +kernel, by decide⟩, (lw_t4 176 rfl rfl), (lw_t4 177 rfl rfl)⟩
set_option maxRecDepth 100000 in
theorem kX7_isAway : CkV yX7_isAway cX7_isAway 2 (some .boolean) 1 := ⟨⟨(lw_t3 157 rfl rfl), (lw_t1 7 rfl rfl), by decide +kernel, by decide⟩, (lw_t3 155 rfl rfl), (lw_t3 156 rfl rfl)⟩
set_option maxRecDepth 100000 in
theorem kX7_move : CkV yX7_move cX7_move 2 none 1 := ⟨⟨(lw_t3 207 rfl rfl), (lw_t1 7 rfl rfl), by decide +kernel, by decide⟩, (lw_t3 205 rfl rfl), (lw_t3 206 rfl rfl)⟩
set_option maxRecDepth 100000 in
theorem kX7_meetings : CkV yX7_meetings cX7_meetings 2 (some .int) 1 := ⟨⟨(lw_t4 14 rfl rfl), (lw_t1 7 rfl rfl), by decide +kernel, by decide⟩, (lw_t4 12 rfl rfl), (lw_t4 13 rfl rfl)⟩
set_option maxRecDepth 100000 in
theorem kX7_setMeetings : CkV yX7_setMeetings cX7_setMeetings 3 none 2 := ⟨⟨(lw_t5 65 rfl rfl), (lw_t1 7 rfl rfl), by decide +kernel, by decide⟩, (lw_t5 63 rfl rfl), (lw_t5 64 rfl rfl)⟩
set_option maxRecDepth 100000 in
theorem kX7_meet : CkV yX7_meet cX7_meet 2 none 1 := ⟨⟨(lw_t3 165 rfl rfl), (lw_t1 7 rfl rfl), by decide +kernel, by decide⟩, (lw_t3 163 rfl rfl), (lw_t3 164 rfl rfl)⟩
set_option maxRecDepth 100000 in
theorem kX7_metBits : CkV yX7_metBits cX7_metBits 3 (some .int) 0 := ⟨⟨(lw_t4 0 rfl rfl), (lw_t1 7 rfl rfl), by decide +kernel, by decide⟩, (lw_t3 238 rfl rfl), (lw_t3 239 rfl rfl)⟩
set_option maxRecDepth 100000 in
theorem kX7_feigned : CkV yX7_feigned cX7_feigned 3 (some .int) 2 := ⟨⟨(lw_t3 182 rfl rfl), (lw_t1 7 rfl rfl), by decide +kernel, by decide⟩, (lw_t3 180 rfl rfl), (lw_t3 181 rfl rfl)⟩
set_option maxRecDepth 100000 in
theorem kX7_setFeigned : CkV yX7_setFeigned cX7_setFeigned 4 none 3 := ⟨⟨(lw_t3 187 rfl rfl), (lw_t1 7 rfl rfl), by decide +kernel, by decide⟩, (lw_t3 185 rfl rfl), (lw_t3 186 rfl rfl)⟩
set_option maxRecDepth 100000 in
theorem kX7_canFeign : CkV yX7_canFeign cX7_canFeign 3 (some .boolean) 2 := ⟨⟨(lw_t3 177 rfl rfl), (lw_t1 7 rfl rfl), by decide +kernel, by decide⟩, (lw_t3 175 rfl rfl), (lw_t3 176 rfl rfl)⟩
set_option maxRecDepth 100000 in
theorem kX7_chains : CkV yX7_chains cX7_chains 2 (some .int) 1 := ⟨⟨(lw_t4 18 rfl rfl), (lw_t1 7 rfl rfl), by decide +kernel, by decide⟩, (lw_t4 16 rfl rfl), (lw_t4 17 rfl rfl)⟩
set_option maxRecDepth 100000 in
theorem kX7_asks : CkV yX7_asks cX7_asks 2 (some .int) 1 := ⟨⟨(lw_t3 119 rfl rfl), (lw_t1 7 rfl rfl), by decide +kernel, by decide⟩, (lw_t3 117 rfl rfl), (lw_t3 118 rfl rfl)⟩
set_option maxRecDepth 100000 in
theorem kX7_setAsks : CkV yX7_setAsks cX7_setAsks 3 none 2 := ⟨⟨(lw_t4 59 rfl rfl), (lw_t1 7 rfl rfl), by decide +kernel, by decide⟩, (lw_t4 57 rfl rfl), (lw_t4 58 rfl rfl)⟩
set_option maxRecDepth 100000 in
theorem kX7_crown : CkV yX7_crown cX7_crown 3 none 2 := ⟨⟨(lw_t4 48 rfl rfl), (lw_t1 7 rfl rfl), by decide +kernel, by decide⟩, (lw_t4 46 rfl rfl), (lw_t4 47 rfl rfl)⟩
set_option maxRecDepth 100000 in
theorem kX7_harm : CkV yX7_harm cX7_harm 2 none 1 := ⟨⟨(lw_t4 64 rfl rfl), (lw_t1 7 rfl rfl), by decide +kernel, by decide⟩, (lw_t4 62 rfl rfl), (lw_t4 63 rfl rfl)⟩
set_option maxRecDepth 100000 in
theorem kX7_startYear : CkV yX7_startYear cX7_startYear 1 none 0 := ⟨⟨(lw_t4 73 rfl rfl), (lw_t1 7 rfl rfl), by decide +kernel, by decide⟩, (lw_t4 71 rfl rfl), (lw_t4 72 rfl rfl)⟩
set_option maxRecDepth 100000 in
theorem kX7_record : CkV yX7_record cX7_record 5 none 3 := ⟨⟨(lw_t4 69 rfl rfl), (lw_t1 7 rfl rfl), by decide +kernel, by decide⟩, (lw_t4 67 rfl rfl), (lw_t4 68 rfl rfl)⟩
set_option maxRecDepth 100000 in
theorem kX7_logLength : CkV yX7_logLength cX7_logLength 1 (some .int) 0 := ⟨⟨(lw_t4 124 rfl rfl), (lw_t1 7 rfl rfl), by decide +kernel, by decide⟩, (lw_t4 122 rfl rfl), (lw_t4 123 rfl rfl)⟩
set_option maxRecDepth 100000 in
theorem kX7_loggedMayor : CkV yX7_loggedMayor cX7_loggedMayor 2 (some .int) 1 := ⟨⟨(lw_t4 129 rfl rfl), (lw_t1 7 rfl rfl), by decide +kernel, by decide⟩, (lw_t4 127 rfl rfl), (lw_t4 128 rfl rfl)⟩
set_option maxRecDepth 100000 in
theorem kX7_loggedRest : CkV yX7_loggedRest cX7_loggedRest 2 (some .int) 1 := ⟨⟨(lw_t4 140 rfl rfl), (lw_t1 7 rfl rfl), by decide +kernel, by decide⟩, (lw_t4 138 rfl rfl), (lw_t4 139 rfl rfl)⟩
set_option maxRecDepth 100000 in
theorem kX7_loggedTroubles : CkV yX7_loggedTroubles cX7_loggedTroubles 2 (some .int) 1 := ⟨⟨(lw_t4 144 rfl rfl), (lw_t1 7 rfl rfl), by decide +kernel, by decide⟩, (lw_t4 142 rfl rfl), (lw_t4 143 rfl rfl)⟩
set_option maxRecDepth 100000 in
theorem kX7_logged : CkV yX7_logged cX7_logged 2 (some .int) 1 := ⟨⟨(lw_t4 133 rfl rfl), (lw_t1 7 rfl rfl), by decide +kernel, by decide⟩, (lw_t4 132 rfl rfl), (lw_q1 11 rfl)⟩
set_option maxRecDepth 100000 in
theorem kX8_bytesIn : CkS yX8_bytesIn cX8_bytesIn 3 (some .int) 1 := ⟨⟨(lw_t2 103 rfl rfl), (lw_t1 2 rfl rfl), by decide +kernel, by decide⟩, (lw_t2 102 rfl rfl)⟩
set_option maxRecDepth 100000 in
theorem kX8_add : CkV yX8_add cX8_add 4 none 1 := ⟨⟨(lw_t2 107 rfl rfl), (lw_t1 2 rfl rfl), by decide +kernel, by decide⟩, (lw_t2 105 rfl rfl), (lw_t2 106 rfl rfl)⟩
set_option maxRecDepth 100000 in
theorem kX8_rewind : CkV yX8_rewind cX8_rewind 2 none 0 := ⟨⟨(lw_t2 135 rfl rfl), (lw_t1 2 rfl rfl), by decide +kernel, by decide⟩, (lw_t2 133 rfl rfl), (lw_t2 134 rfl rfl)⟩
set_option maxRecDepth 100000 in
theorem kX8_sign : CkV yX8_sign cX8_sign 1 (some .int) 0 := ⟨⟨(lw_t2 143 rfl rfl), (lw_t1 2 rfl rfl), by decide +kernel, by decide⟩, (lw_t2 141 rfl rfl), (lw_t2 142 rfl rfl)⟩
set_option maxRecDepth 100000 in
theorem kX8_takes : CkV yX8_takes cX8_takes 2 (some .boolean) 1 := ⟨⟨(lw_t2 227 rfl rfl), (lw_t1 2 rfl rfl), by decide +kernel, by decide⟩, (lw_t2 225 rfl rfl), (lw_t2 226 rfl rfl)⟩
set_option maxRecDepth 100000 in
theorem kX8_number : CkV yX8_number cX8_number 4 (some .int) 1 := ⟨⟨(lw_t3 2 rfl rfl), (lw_t1 2 rfl rfl), by decide +kernel, by decide⟩, (lw_t3 0 rfl rfl), (lw_t3 1 rfl rfl)⟩
set_option maxRecDepth 100000 in
theorem kX9_copyFrom : CkV yX9_copyFrom cX9_copyFrom 2 none 1 := ⟨⟨(lw_t3 60 rfl rfl), (lw_t1 4 rfl rfl), by decide +kernel, by decide⟩, (lw_t3 58 rfl rfl), (lw_t3 59 rfl rfl)⟩
set_option maxRecDepth 100000 in
theorem kX9_isTold : CkV yX9_isTold cX9_isTold 1 (some .boolean) 0 := ⟨⟨(lw_t3 99 rfl rfl), (lw_t1 4 rfl rfl), by decide +kernel, by decide⟩, (lw_t3 97 rfl rfl), (lw_t3 98 rfl rfl)⟩
set_option maxRecDepth 100000 in
theorem kX9_hasPerson : CkV yX9_hasPerson cX9_hasPerson 2 (some .boolean) 1 := ⟨⟨(lw_t3 173 rfl rfl), (lw_t1 4 rfl rfl), by decide +kernel, by decide⟩, (lw_t3 171 rfl rfl), (lw_t3 172 rfl rfl)⟩
set_option maxRecDepth 100000 in
theorem kX9_hasTrouble : CkV yX9_hasTrouble cX9_hasTrouble 2 (some .boolean) 1 := ⟨⟨(lw_t3 111 rfl rfl), (lw_t1 4 rfl rfl), by decide +kernel, by decide⟩, (lw_t3 109 rfl rfl), (lw_t3 110 rfl rfl)⟩
set_option maxRecDepth 100000 in
theorem kX9_allPersons : CkV yX9_allPersons cX9_allPersons 1 (some .int) 0 := ⟨⟨(lw_t3 236 rfl rfl), (lw_t1 4 rfl rfl), by decide +kernel, by decide⟩, (lw_t3 234 rfl rfl), (lw_t3 235 rfl rfl)⟩
set_option maxRecDepth 100000 in
theorem kX9_allTroubles : CkV yX9_allTroubles cX9_allTroubles 1 (some .int) 0 := ⟨⟨(lw_t5 118 rfl rfl), (lw_t1 4 rfl rfl), by decide +kernel, by decide⟩, (lw_t5 116 rfl rfl), (lw_t5 117 rfl rfl)⟩
set_option maxRecDepth 100000 in
theorem kX9_liking : CkV yX9_liking cX9_liking 2 (some .int) 1 := ⟨⟨(lw_t3 103 rfl rfl), (lw_t1 4 rfl rfl), by decide +kernel, by decide⟩, (lw_t3 101 rfl rfl), (lw_t3 102 rfl rfl)⟩
set_option maxRecDepth 100000 in
theorem kX9_coins : CkV yX9_coins cX9_coins 1 (some .int) 0 := ⟨⟨(lw_t3 74 rfl rfl), (lw_t1 4 rfl rfl), by decide +kernel, by decide⟩, (lw_t3 72 rfl rfl), (lw_t3 73 rfl rfl)⟩
set_option maxRecDepth 100000 in
theorem kX9_trait : CkV yX9_trait cX9_trait 3 (some .int) 2 := ⟨⟨(lw_t3 195 rfl rfl), (lw_t1 4 rfl rfl), by decide +kernel, by decide⟩, (lw_t3 193 rfl rfl), (lw_t3 194 rfl rfl)⟩
set_option maxRecDepth 100000 in
theorem kX9_door : CkV yX9_door cX9_door 2 (some .int) 1 := ⟨⟨(lw_t3 161 rfl rfl), (lw_t1 4 rfl rfl), by decide +kernel, by decide⟩, (lw_t3 159 rfl rfl), (lw_t3 160 rfl rfl)⟩
set_option maxRecDepth 100000 in
theorem kX9_asksFor : CkV yX9_asksFor cX9_asksFor 2 (some .int) 1 := ⟨⟨(lw_t3 115 rfl rfl), (lw_t1 4 rfl rfl), by decide +kernel, by decide⟩, (lw_t3 113 rfl rfl), (lw_t3 114 rfl rfl)⟩
set_option maxRecDepth 100000 in
theorem kX9_asksAtFirst : CkV yX9_asksAtFirst cX9_asksAtFirst 2 (some .int) 1 := ⟨⟨(lw_t3 78 rfl rfl), (lw_t1 4 rfl rfl), by decide +kernel, by decide⟩, (lw_t3 76 rfl rfl), (lw_t3 77 rfl rfl)⟩
set_option maxRecDepth 100000 in
theorem kX9_gravity : CkV yX9_gravity cX9_gravity 2 (some .int) 1 := ⟨⟨(lw_t3 123 rfl rfl), (lw_t1 4 rfl rfl), by decide +kernel, by decide⟩, (lw_t3 121 rfl rfl), (lw_t3 122 rfl rfl)⟩
set_option maxRecDepth 100000 in
theorem kX9_mostOf : CkV yX9_mostOf cX9_mostOf 2 (some .int) 1 := ⟨⟨(lw_t5 105 rfl rfl), (lw_t1 4 rfl rfl), by decide +kernel, by decide⟩, (lw_t5 103 rfl rfl), (lw_t5 104 rfl rfl)⟩
set_option maxRecDepth 100000 in
theorem kX9_mostOfThese : CkV yX9_mostOfThese cX9_mostOfThese 5 (some .int) 2 := ⟨⟨(lw_t4 42 rfl rfl), (lw_t1 4 rfl rfl), by decide +kernel, by decide⟩, (lw_t4 40 rfl rfl), (lw_t4 41 rfl rfl)⟩
set_option maxRecDepth 100000 in
theorem kX9_gravest : CkV yX9_gravest cX9_gravest 3 (some .int) 0 := ⟨⟨(lw_t5 111 rfl rfl), (lw_t1 4 rfl rfl), by decide +kernel, by decide⟩, (lw_t5 109 rfl rfl), (lw_t5 110 rfl rfl)⟩
set_option maxRecDepth 100000 in
theorem kX10_read : CkV yX10_read cX10_read 3 (some .int) 0 := ⟨⟨(lw_t2 119 rfl rfl), (lw_t1 3 rfl rfl), by decide +kernel, by decide⟩, (lw_t2 117 rfl rfl), (lw_t2 118 rfl rfl)⟩
set_option maxRecDepth 100000 in
theorem kX10_readClause : CkV yX10_readClause cX10_readClause 4 (some .boolean) 0 := ⟨⟨(lw_t2 139 rfl rfl), (lw_t1 3 rfl rfl), by decide +kernel, by decide⟩, (lw_t2 138 rfl rfl), (lw_q1 1 rfl)⟩
set_option maxRecDepth 100000 in
theorem kX10_startRow : CkV yX10_startRow cX10_startRow 3 none 2 := ⟨⟨(lw_t2 126 rfl rfl), (lw_t1 3 rfl rfl), by decide +kernel, by decide⟩, (lw_t2 125 rfl rfl), (lw_q1 0 rfl)⟩
set_option maxRecDepth 100000 in
theorem kX10_readItems : CkV yX10_readItems cX10_readItems 8 (some .boolean) 2 := ⟨⟨(lw_t2 233 rfl rfl), (lw_t1 3 rfl rfl), by decide +kernel, by decide⟩, (lw_t2 232 rfl rfl), (lw_q1 2 rfl)⟩
set_option maxRecDepth 100000 in
theorem kX10_itemOf : CkS yX10_itemOf cX10_itemOf 3 (some .int) 2 := ⟨⟨(lw_t2 236 rfl rfl), (lw_t1 3 rfl rfl), by decide +kernel, by decide⟩, (lw_t2 235 rfl rfl)⟩
set_option maxRecDepth 100000 in
theorem kX11_feed : CkV yX11_feed cX11_feed 7 (some .int) 5 := ⟨⟨(lw_t2 100 rfl rfl), (lw_t1 1 rfl rfl), by decide +kernel, by decide⟩, (lw_t2 98 rfl rfl), (lw_t2 99 rfl rfl)⟩
set_option maxRecDepth 100000 in
theorem kX11_end : CkV yX11_end cX11_end 2 (some .boolean) 1 := ⟨⟨(lw_t2 111 rfl rfl), (lw_t1 1 rfl rfl), by decide +kernel, by decide⟩, (lw_t2 109 rfl rfl), (lw_t2 110 rfl rfl)⟩
set_option maxRecDepth 100000 in
theorem kX11_fault : CkV yX11_fault cX11_fault 2 (some .int) 1 := ⟨⟨(lw_t2 115 rfl rfl), (lw_t1 1 rfl rfl), by decide +kernel, by decide⟩, (lw_t2 113 rfl rfl), (lw_t2 114 rfl rfl)⟩
set_option maxRecDepth 100000 in
theorem kX11_text : CkV yX11_text cX11_text 2 (some .int) 1 := ⟨⟨(lw_t3 56 rfl rfl), (lw_t1 1 rfl rfl), by decide +kernel, by decide⟩, (lw_t3 54 rfl rfl), (lw_t3 55 rfl rfl)⟩
set_option maxRecDepth 100000 in
theorem kX11_beginTown : CkV yX11_beginTown cX11_beginTown 1 none 0 := ⟨⟨(lw_t3 65 rfl rfl), (lw_t1 1 rfl rfl), by decide +kernel, by decide⟩, (lw_t3 64 rfl rfl), (lw_q1 8 rfl)⟩
set_option maxRecDepth 100000 in
theorem kX11_rule : CkV yX11_rule cX11_rule 2 (some .int) 1 := ⟨⟨(lw_t3 95 rfl rfl), (lw_t1 1 rfl rfl), by decide +kernel, by decide⟩, (lw_t3 93 rfl rfl), (lw_t3 94 rfl rfl)⟩
set_option maxRecDepth 100000 in
theorem kX11_person : CkV yX11_person cX11_person 3 (some .int) 2 := ⟨⟨(lw_t5 140 rfl rfl), (lw_t1 1 rfl rfl), by decide +kernel, by decide⟩, (lw_t5 138 rfl rfl), (lw_t5 139 rfl rfl)⟩
set_option maxRecDepth 100000 in
theorem kX11_trouble : CkV yX11_trouble cX11_trouble 3 (some .int) 2 := ⟨⟨(lw_t3 107 rfl rfl), (lw_t1 1 rfl rfl), by decide +kernel, by decide⟩, (lw_t3 105 rfl rfl), (lw_t3 106 rfl rfl)⟩
set_option maxRecDepth 100000 in
theorem kX11_law : CkV yX11_law cX11_law 2 (some .boolean) 1 := ⟨⟨(lw_t3 127 rfl rfl), (lw_t1 1 rfl rfl), by decide +kernel, by decide⟩, (lw_t3 125 rfl rfl), (lw_t3 126 rfl rfl)⟩
set_option maxRecDepth 100000 in
theorem kX11_walks : CkV yX11_walks cX11_walks 2 (some .int) 1 := ⟨⟨(lw_t3 131 rfl rfl), (lw_t1 1 rfl rfl), by decide +kernel, by decide⟩, (lw_t3 129 rfl rfl), (lw_t3 130 rfl rfl)⟩
set_option maxRecDepth 100000 in
theorem kX11_feigns : CkV yX11_feigns cX11_feigns 3 (some .int) 2 := ⟨⟨(lw_t3 169 rfl rfl), (lw_t1 1 rfl rfl), by decide +kernel, by decide⟩, (lw_t3 167 rfl rfl), (lw_t3 168 rfl rfl)⟩
set_option maxRecDepth 100000 in
theorem kX11_leaves : CkV yX11_leaves cX11_leaves 2 (some .int) 1 := ⟨⟨(lw_t3 203 rfl rfl), (lw_t1 1 rfl rfl), by decide +kernel, by decide⟩, (lw_t3 201 rfl rfl), (lw_t3 202 rfl rfl)⟩
set_option maxRecDepth 100000 in
theorem kX11_give : CkV yX11_give cX11_give 2 (some .int) 1 := ⟨⟨(lw_t3 212 rfl rfl), (lw_t1 1 rfl rfl), by decide +kernel, by decide⟩, (lw_t3 210 rfl rfl), (lw_t3 211 rfl rfl)⟩
set_option maxRecDepth 100000 in
theorem kX11_martinmas : CkV yX11_martinmas cX11_martinmas 3 (some .int) 1 := ⟨⟨(lw_t3 216 rfl rfl), (lw_t1 1 rfl rfl), by decide +kernel, by decide⟩, (lw_t3 214 rfl rfl), (lw_t3 215 rfl rfl)⟩
set_option maxRecDepth 100000 in
theorem kX11_fate : CkV yX11_fate cX11_fate 2 (some .boolean) 1 := ⟨⟨(lw_t4 83 rfl rfl), (lw_t1 1 rfl rfl), by decide +kernel, by decide⟩, (lw_t4 81 rfl rfl), (lw_t4 82 rfl rfl)⟩
set_option maxRecDepth 100000 in
theorem kX11_years : CkV yX11_years cX11_years 5 (some .int) 2 := ⟨⟨(lw_t4 87 rfl rfl), (lw_t1 1 rfl rfl), by decide +kernel, by decide⟩, (lw_t4 85 rfl rfl), (lw_t4 86 rfl rfl)⟩
set_option maxRecDepth 100000 in
theorem kX11_status : CkV yX11_status cX11_status 2 (some .int) 1 := ⟨⟨(lw_t4 108 rfl rfl), (lw_t1 1 rfl rfl), by decide +kernel, by decide⟩, (lw_t4 106 rfl rfl), (lw_t4 107 rfl rfl)⟩
set_option maxRecDepth 100000 in
theorem kX11_refuse : CkV yX11_refuse cX11_refuse 2 (some .int) 1 := ⟨⟨(lw_t3 135 rfl rfl), (lw_t1 1 rfl rfl), by decide +kernel, by decide⟩, (lw_t3 134 rfl rfl), (lw_q1 9 rfl)⟩
set_option maxRecDepth 100000 in
theorem kX11_undo : CkV yX11_undo cX11_undo 1 (some .int) 0 := ⟨⟨(lw_t4 112 rfl rfl), (lw_t1 1 rfl rfl), by decide +kernel, by decide⟩, (lw_t4 110 rfl rfl), (lw_t4 111 rfl rfl)⟩
set_option maxRecDepth 100000 in
theorem kX11_log : CkV yX11_log cX11_log 3 (some .int) 2 := ⟨⟨(lw_t4 120 rfl rfl), (lw_t1 1 rfl rfl), by decide +kernel, by decide⟩, (lw_t4 118 rfl rfl), (lw_t4 119 rfl rfl)⟩
set_option maxRecDepth 100000 in
theorem kX11_appeal : CkV yX11_appeal cX11_appeal 2 (some .int) 1 := ⟨⟨(lw_t4 148 rfl rfl), (lw_t1 1 rfl rfl), by decide +kernel, by decide⟩, (lw_t4 146 rfl rfl), (lw_t4 147 rfl rfl)⟩
set_option maxRecDepth 100000 in
theorem kX11_lead : CkV yX11_lead cX11_lead 2 (some .int) 1 := ⟨⟨(lw_t4 153 rfl rfl), (lw_t1 1 rfl rfl), by decide +kernel, by decide⟩, (lw_t4 151 rfl rfl), (lw_t4 152 rfl rfl)⟩
set_option maxRecDepth 100000 in
theorem kX11_feigning : CkV yX11_feigning cX11_feigning 2 (some .int) 1 := ⟨⟨(lw_t4 170 rfl rfl), (lw_t1 1 rfl rfl), by decide +kernel, by decide⟩, (lw_t4 168 rfl rfl), (lw_t4 169 rfl rfl)⟩
set_option maxRecDepth 100000 in
theorem kX11_tour : CkV yX11_tour cX11_tour 3 (some .int) 2 := ⟨⟨(lw_t4 188 rfl rfl), (lw_t1 1 rfl rfl), by decide +kernel, by decide⟩, (lw_t4 186 rfl rfl), (lw_t4 187 rfl rfl)⟩
set_option maxRecDepth 100000 in
theorem kX11_given : CkV yX11_given cX11_given 4 (some .int) 3 := ⟨⟨(lw_t4 216 rfl rfl), (lw_t1 1 rfl rfl), by decide +kernel, by decide⟩, (lw_t4 214 rfl rfl), (lw_t4 215 rfl rfl)⟩
set_option maxRecDepth 100000 in
theorem kX11_likings : CkV yX11_likings cX11_likings 2 (some .int) 1 := ⟨⟨(lw_t4 237 rfl rfl), (lw_t1 1 rfl rfl), by decide +kernel, by decide⟩, (lw_t4 235 rfl rfl), (lw_t4 236 rfl rfl)⟩
set_option maxRecDepth 100000 in
theorem kX11_show : CkV yX11_show cX11_show 1 (some .int) 0 := ⟨⟨(lw_t5 1 rfl rfl), (lw_t1 1 rfl rfl), by decide +kernel, by decide⟩, (lw_t4 239 rfl rfl), (lw_t5 0 rfl rfl)⟩
set_option maxRecDepth 100000 in
theorem kX11_work : CkV yX11_work cX11_work 2 (some .int) 1 := ⟨⟨(lw_t5 15 rfl rfl), (lw_t1 1 rfl rfl), by decide +kernel, by decide⟩, (lw_t5 13 rfl rfl), (lw_t5 14 rfl rfl)⟩
set_option maxRecDepth 100000 in
theorem kX11_game : CkV yX11_game cX11_game 6 (some .int) 5 := ⟨⟨(lw_t5 32 rfl rfl), (lw_t1 1 rfl rfl), by decide +kernel, by decide⟩, (lw_t5 30 rfl rfl), (lw_t5 31 rfl rfl)⟩
set_option maxRecDepth 100000 in
theorem kX11_rests : CkV yX11_rests cX11_rests 7 (some .int) 3 := ⟨⟨(lw_t5 48 rfl rfl), (lw_t1 1 rfl rfl), by decide +kernel, by decide⟩, (lw_t5 46 rfl rfl), (lw_t5 47 rfl rfl)⟩
set_option maxRecDepth 100000 in
theorem kX11_odds : CkV yX11_odds cX11_odds 3 (some .int) 2 := ⟨⟨(lw_t5 57 rfl rfl), (lw_t1 1 rfl rfl), by decide +kernel, by decide⟩, (lw_t5 55 rfl rfl), (lw_t5 56 rfl rfl)⟩
set_option maxRecDepth 100000 in
theorem kX11_first : CkV yX11_first cX11_first 2 (some .int) 1 := ⟨⟨(lw_t5 76 rfl rfl), (lw_t1 1 rfl rfl), by decide +kernel, by decide⟩, (lw_t5 74 rfl rfl), (lw_t5 75 rfl rfl)⟩
set_option maxRecDepth 100000 in
theorem kX11_shares : CkV yX11_shares cX11_shares 5 (some .int) 2 := ⟨⟨(lw_t5 87 rfl rfl), (lw_t1 1 rfl rfl), by decide +kernel, by decide⟩, (lw_t5 85 rfl rfl), (lw_t5 86 rfl rfl)⟩
set_option maxRecDepth 100000 in
theorem kX11_most : CkV yX11_most cX11_most 2 (some .int) 1 := ⟨⟨(lw_t5 92 rfl rfl), (lw_t1 1 rfl rfl), by decide +kernel, by decide⟩, (lw_t5 90 rfl rfl), (lw_t5 91 rfl rfl)⟩
set_option maxRecDepth 100000 in
theorem kX11_image : CkV yX11_image cX11_image 1 (some .int) 0 := ⟨⟨(lw_t5 123 rfl rfl), (lw_t1 1 rfl rfl), by decide +kernel, by decide⟩, (lw_t5 121 rfl rfl), (lw_t5 122 rfl rfl)⟩
set_option maxRecDepth 100000 in
theorem kX11_back : CkV yX11_back cX11_back 1 (some .int) 0 := ⟨⟨(lw_t5 128 rfl rfl), (lw_t1 1 rfl rfl), by decide +kernel, by decide⟩, (lw_t5 126 rfl rfl), (lw_t5 127 rfl rfl)⟩
set_option maxRecDepth 100000 in
theorem kX11_count : CkV yX11_count cX11_count 2 (some .int) 1 := ⟨⟨(lw_t5 132 rfl rfl), (lw_t1 1 rfl rfl), by decide +kernel, by decide⟩, (lw_t5 130 rfl rfl), (lw_t5 131 rfl rfl)⟩
set_option maxRecDepth 100000 in
theorem kX11_isInTown : CkV yX11_isInTown cX11_isInTown 2 (some .boolean) 1 := ⟨⟨(lw_t4 157 rfl rfl), (lw_t1 1 rfl rfl), by decide +kernel, by decide⟩, (lw_t4 156 rfl rfl), (lw_q1 12 rfl)⟩
set_option maxRecDepth 100000 in
theorem kX11_isPair : CkV yX11_isPair cX11_isPair 3 (some .boolean) 2 := ⟨⟨(lw_t5 36 rfl rfl), (lw_t1 1 rfl rfl), by decide +kernel, by decide⟩, (lw_t5 35 rfl rfl), (lw_q2 3 rfl)⟩
set_option maxRecDepth 100000 in
theorem kX11_isGroup : CkV yX11_isGroup cX11_isGroup 2 (some .boolean) 1 := ⟨⟨(lw_t4 192 rfl rfl), (lw_t1 1 rfl rfl), by decide +kernel, by decide⟩, (lw_t4 191 rfl rfl), (lw_q1 13 rfl)⟩
set_option maxRecDepth 100000 in
theorem kX11_within : CkS yX11_within cX11_within 3 (some .int) 2 := ⟨⟨(lw_t3 199 rfl rfl), (lw_t1 1 rfl rfl), by decide +kernel, by decide⟩, (lw_t3 198 rfl rfl)⟩
set_option maxRecDepth 100000 in
theorem kX11_highest : CkS yX11_highest cX11_highest 4 (some .int) 2 := ⟨⟨(lw_t4 38 rfl rfl), (lw_t1 1 rfl rfl), by decide +kernel, by decide⟩, (lw_t4 37 rfl rfl)⟩
set_option maxRecDepth 100000 in
theorem kJ11_isValidCodePoint_9a6ad : CkS yJ11_isValidCodePoint_9a6ad cJ11_isValidCodePoint_9a6ad 2 (some .boolean) 1 := ⟨⟨(lw_t2 213 rfl rfl), (lw_t1 21 rfl rfl), by decide +kernel, by decide⟩, (lw_t2 212 rfl rfl)⟩
set_option maxRecDepth 100000 in
theorem kJ11_highSurrogate_5068e : CkS yJ11_highSurrogate_5068e cJ11_highSurrogate_5068e 1 (some .char) 1 := ⟨⟨(lw_t2 216 rfl rfl), (lw_t1 21 rfl rfl), by decide +kernel, by decide⟩, (lw_t2 215 rfl rfl)⟩
set_option maxRecDepth 100000 in
theorem kJ11_lowSurrogate_5068e : CkS yJ11_lowSurrogate_5068e cJ11_lowSurrogate_5068e 1 (some .char) 1 := ⟨⟨(lw_t2 220 rfl rfl), (lw_t1 21 rfl rfl), by decide +kernel, by decide⟩, (lw_t2 219 rfl rfl)⟩
set_option maxRecDepth 100000 in
theorem kJ9_floorMod_7cf53 : CkS yJ9_floorMod_7cf53 cJ9_floorMod_7cf53 3 (some .int) 2 := ⟨⟨(lw_t4 136 rfl rfl), (lw_t1 18 rfl rfl), by decide +kernel, by decide⟩, (lw_t4 135 rfl rfl)⟩
set_option maxRecDepth 100000 in
theorem kJ9_abs_0f7a4 : CkS yJ9_abs_0f7a4 cJ9_abs_0f7a4 1 (some .int) 1 := ⟨⟨(lw_t3 142 rfl rfl), (lw_t1 18 rfl rfl), by decide +kernel, by decide⟩, (lw_t3 141 rfl rfl)⟩
set_option maxRecDepth 100000 in
theorem kJ9_max_7cf53 : CkS yJ9_max_7cf53 cJ9_max_7cf53 2 (some .int) 2 := ⟨⟨(lw_t2 166 rfl rfl), (lw_t1 18 rfl rfl), by decide +kernel, by decide⟩, (lw_t2 165 rfl rfl)⟩
set_option maxRecDepth 100000 in
theorem kJ9_max_f86c9 : CkS yJ9_max_f86c9 cJ9_max_f86c9 4 (some .long) 2 := ⟨⟨(lw_t7 137 rfl rfl), (lw_t1 18 rfl rfl), by decide +kernel, by decide⟩, (lw_t7 136 rfl rfl)⟩
set_option maxRecDepth 100000 in
theorem kJ9_min_7cf53 : CkS yJ9_min_7cf53 cJ9_min_7cf53 2 (some .int) 2 := ⟨⟨(lw_t2 169 rfl rfl), (lw_t1 18 rfl rfl), by decide +kernel, by decide⟩, (lw_t2 168 rfl rfl)⟩
set_option maxRecDepth 100000 in
theorem kJ9_min_f86c9 : CkS yJ9_min_f86c9 cJ9_min_f86c9 4 (some .long) 2 := ⟨⟨(lw_t7 134 rfl rfl), (lw_t1 18 rfl rfl), by decide +kernel, by decide⟩, (lw_t7 133 rfl rfl)⟩
set_option maxRecDepth 100000 in
theorem kJ0_length_8abf5 : CkV yJ0_length_8abf5 cJ0_length_8abf5 1 (some .int) 0 := ⟨⟨(lw_t1 187 rfl rfl), (lw_t1 10 rfl rfl), by decide +kernel, by decide⟩, (lw_t1 185 rfl rfl), (lw_t1 186 rfl rfl)⟩
set_option maxRecDepth 100000 in
theorem kJ0_indexOf_0f7a4 : CkV yJ0_indexOf_0f7a4 cJ0_indexOf_0f7a4 2 (some .int) 1 := ⟨⟨(lw_t2 148 rfl rfl), (lw_t1 10 rfl rfl), by decide +kernel, by decide⟩, (lw_t2 146 rfl rfl), (lw_t2 147 rfl rfl)⟩
set_option maxRecDepth 100000 in
theorem kJ0_indexOf_7cf53 : CkV yJ0_indexOf_7cf53 cJ0_indexOf_7cf53 3 (some .int) 2 := ⟨⟨(lw_t2 152 rfl rfl), (lw_t1 10 rfl rfl), by decide +kernel, by decide⟩, (lw_t2 150 rfl rfl), (lw_t2 151 rfl rfl)⟩
set_option maxRecDepth 100000 in
theorem kJ0_coder_7d493 : CkV yJ0_coder_7d493 cJ0_coder_7d493 1 (some .byte) 0 := ⟨⟨(lw_t1 191 rfl rfl), (lw_t1 10 rfl rfl), by decide +kernel, by decide⟩, (lw_t1 189 rfl rfl), (lw_t1 190 rfl rfl)⟩
set_option maxRecDepth 100000 in
theorem kJ0_isLatin1_aae02 : CkV yJ0_isLatin1_aae02 cJ0_isLatin1_aae02 1 (some .boolean) 0 := ⟨⟨(lw_t2 156 rfl rfl), (lw_t1 10 rfl rfl), by decide +kernel, by decide⟩, (lw_t2 154 rfl rfl), (lw_t2 155 rfl rfl)⟩
set_option maxRecDepth 100000 in
theorem kJ0_checkBoundsBeginEnd_23922 : CkS yJ0_checkBoundsBeginEnd_23922 cJ0_checkBoundsBeginEnd_23922 3 none 3 := ⟨⟨(lw_t2 190 rfl rfl), (lw_t1 10 rfl rfl), by decide +kernel, by decide⟩, (lw_t2 189 rfl rfl)⟩
set_option maxRecDepth 100000 in
theorem kJ1_canEncode_9a6ad : CkS yJ1_canEncode_9a6ad cJ1_canEncode_9a6ad 1 (some .boolean) 1 := ⟨⟨(lw_t2 163 rfl rfl), (lw_t1 17 rfl rfl), by decide +kernel, by decide⟩, (lw_t2 162 rfl rfl)⟩
set_option maxRecDepth 100000 in
theorem kJ1_indexOf_4cfef : CkS yJ1_indexOf_4cfef cJ1_indexOf_4cfef 4 (some .int) 4 := ⟨⟨(lw_t2 160 rfl rfl), (lw_t1 17 rfl rfl), by decide +kernel, by decide⟩, (lw_t2 159 rfl rfl)⟩
set_option maxRecDepth 100000 in
theorem kJ1_indexOfChar_4cfef : CkS yJ1_indexOfChar_4cfef cJ1_indexOfChar_4cfef 6 (some .int) 4 := ⟨⟨(lw_t2 172 rfl rfl), (lw_t1 17 rfl rfl), by decide +kernel, by decide⟩, (lw_t2 171 rfl rfl)⟩
set_option maxRecDepth 100000 in
theorem kJ2_getChar_3b067 : CkS yJ2_getChar_3b067 cJ2_getChar_3b067 2 (some .char) 2 := ⟨⟨(lw_t2 201 rfl rfl), (lw_t1 19 rfl rfl), by decide +kernel, by decide⟩, (lw_t2 200 rfl rfl)⟩
set_option maxRecDepth 100000 in
theorem kJ2_length_9d52b : CkS yJ2_length_9d52b cJ2_length_9d52b 1 (some .int) 1 := ⟨⟨(lw_t2 187 rfl rfl), (lw_t1 19 rfl rfl), by decide +kernel, by decide⟩, (lw_t2 186 rfl rfl)⟩
set_option maxRecDepth 100000 in
theorem kJ2_indexOf_4cfef : CkS yJ2_indexOf_4cfef cJ2_indexOf_4cfef 4 (some .int) 4 := ⟨⟨(lw_t2 175 rfl rfl), (lw_t1 19 rfl rfl), by decide +kernel, by decide⟩, (lw_t2 174 rfl rfl)⟩
set_option maxRecDepth 100000 in
theorem kJ2_indexOfChar_4cfef : CkS yJ2_indexOfChar_4cfef cJ2_indexOfChar_4cfef 4 (some .int) 4 := ⟨⟨(lw_t2 181 rfl rfl), (lw_t1 19 rfl rfl), by decide +kernel, by decide⟩, (lw_t2 180 rfl rfl)⟩
set_option maxRecDepth 100000 in
theorem kJ2_indexOfCharUnsafe_4cfef : CkS yJ2_indexOfCharUnsafe_4cfef cJ2_indexOfCharUnsafe_4cfef 5 (some .int) 4 := ⟨⟨(lw_t2 198 rfl rfl), (lw_t1 19 rfl rfl), by decide +kernel, by decide⟩, (lw_t2 197 rfl rfl)⟩
set_option maxRecDepth 100000 in
theorem kJ2_indexOfSupplementary_4cfef : CkS yJ2_indexOfSupplementary_4cfef cJ2_indexOfSupplementary_4cfef 7 (some .int) 4 := ⟨⟨(lw_t2 210 rfl rfl), (lw_t1 19 rfl rfl), by decide +kernel, by decide⟩, (lw_t2 209 rfl rfl)⟩
set_option maxRecDepth 100000 in
theorem kJ2_checkBoundsBeginEnd_d044e : CkS yJ2_checkBoundsBeginEnd_d044e cJ2_checkBoundsBeginEnd_d044e 3 none 3 := ⟨⟨(lw_t2 184 rfl rfl), (lw_t1 19 rfl rfl), by decide +kernel, by decide⟩, (lw_t2 183 rfl rfl)⟩
set_option maxRecDepth 100000 in
theorem kJ7_rangeCheck_23922 : CkS yJ7_rangeCheck_23922 cJ7_rangeCheck_23922 3 none 3 := ⟨⟨(lw_t4 79 rfl rfl), (lw_t1 15 rfl rfl), by decide +kernel, by decide⟩, (lw_t4 78 rfl rfl)⟩
set_option maxRecDepth 100000 in
theorem kJ7_fill_53178 : CkS yJ7_fill_53178 cJ7_fill_53178 4 none 2 := ⟨⟨(lw_t2 122 rfl rfl), (lw_t1 15 rfl rfl), by decide +kernel, by decide⟩, (lw_t2 121 rfl rfl)⟩
set_option maxRecDepth 100000 in
theorem kJ7_fill_fda19 : CkS yJ7_fill_fda19 cJ7_fill_fda19 5 none 4 := ⟨⟨(lw_t4 76 rfl rfl), (lw_t1 15 rfl rfl), by decide +kernel, by decide⟩, (lw_t4 75 rfl rfl)⟩
set_option maxRecDepth 100000 in
theorem kJ3_checkFromToIndex_8c36e : CkS yJ3_checkFromToIndex_8c36e cJ3_checkFromToIndex_8c36e 4 (some .int) 4 := ⟨⟨(lw_t2 195 rfl rfl), (lw_t1 20 rfl rfl), by decide +kernel, by decide⟩, (lw_t2 194 rfl rfl)⟩
set_option maxRecDepth 100000 in
theorem cpw : Cond.native arraycopyName ∈ lw_g ∧ Cond.static arraycopyName ∈ lw_g ∧ Cond.initialized "java/lang/System" ∈ lw_g := ⟨(lw_t2 131 rfl rfl), (lw_t2 130 rfl rfl), (lw_t1 16 rfl rfl)⟩
