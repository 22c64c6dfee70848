def wsL_rigs_r3 : List Cond := [Cond.code yX3_checkBar cX3_checkBar 2 none, Cond.instanceMethod yX1_hasBar, Cond.selects RX1 yX1_hasBar yX1_hasBar, Cond.code yX1_hasBar cX1_hasBar 2 (some .boolean), Cond.fieldLink RX1 9 "PlotPatch$Rig" "house" "I", Cond.instanceMethod yX1_hasPlace, Cond.selects RX1 yX1_hasPlace yX1_hasPlace, Cond.code yX1_hasPlace cX1_hasPlace 3 (some .boolean), Cond.instanceMethod yX1_bears, Cond.selects RX1 yX1_bears yX1_bears, Cond.code yX1_bears cX1_bears 4 (some .boolean), Cond.fieldLink RX1 28 "PlotPatch$Rig" "bars" "[I", Cond.fieldLink RX1 25 "PlotPatch$Rig" "weights" "[I", Cond.methodLink RX1 47 yX1_weightOn, Cond.instanceMethod yX1_weightOn, Cond.selects RX1 yX1_weightOn yX1_weightOn, Cond.code yX1_weightOn cX1_weightOn 4 (some .int), Cond.instanceMethod yX1_isClear, Cond.selects RX1 yX1_isClear yX1_isClear, Cond.code yX1_isClear cX1_isClear 5 (some .boolean), Cond.fieldLink RX1 40 "PlotPatch$Rig" "places" "[I", Cond.methodLink RX1 51 Lib.Math.abs.name, Cond.static Lib.Math.abs.name, Cond.initialized "java/lang/Math"]
def wsL_rigs_r4 : List Cond := [Cond.code Lib.Math.abs.name Lib.Math.abs.code 1 (some .int), Cond.instanceMethod yX1_put, Cond.selects RX1 yX1_put yX1_put, Cond.code yX1_put cX1_put 4 none, Cond.methodLink RL 105 yL_made, Cond.static yL_made, Cond.codeWith yL_made cL_made 6 (some .int) [(0, 21, 22, 38), (0, 21, 27, 40)], Cond.methodLink RL 42 yX3_lamp, Cond.instanceMethod yX3_lamp, Cond.selects RX3 yX3_lamp yX3_lamp, Cond.code yX3_lamp cX3_lamp 4 (some .int), Cond.fieldLink RX3 13 "PlotPatch" "colours" "[I", Cond.fieldLink RX3 34 "PlotPatch" "board" "LPlotPatch$Board;", Cond.methodLink RX3 73 yX3_weightOfKind, Cond.static yX3_weightOfKind, Cond.code yX3_weightOfKind cX3_weightOfKind 1 (some .int), Cond.methodLink RX3 80 yX3_widthOfKind, Cond.static yX3_widthOfKind, Cond.code yX3_widthOfKind cX3_widthOfKind 1 (some .int), Cond.methodLink RX3 86 yX3_wattsOfKind, Cond.static yX3_wattsOfKind, Cond.code yX3_wattsOfKind cX3_wattsOfKind 1 (some .int), Cond.methodLink RL 46 yX3_cue, Cond.instanceMethod yX3_cue]
def wsL_rigs_r5 : List Cond := [Cond.selects RX3 yX3_cue yX3_cue, Cond.code yX3_cue cX3_cue 4 (some .int), Cond.fieldLink RX3 41 "PlotPatch" "show" "LPlotPatch$Show;", Cond.instanceMethod yX2_addCue, Cond.initialized RX2, Cond.selects RX2 yX2_addCue yX2_addCue, Cond.code yX2_addCue cX2_addCue 5 (some .int), Cond.fieldLink RX2 9 "PlotPatch$Show" "cueCount" "I", Cond.fieldLink RX2 15 "PlotPatch$Show" "fades" "[I", Cond.fieldLink RX2 19 "PlotPatch$Show" "curves" "[I", Cond.fieldLink RX2 22 "PlotPatch$Show" "follows" "[I", Cond.methodLink RL 108 yL_fits, Cond.static yL_fits, Cond.code yL_fits cL_fits 10 (some .boolean), Cond.methodLink RL 15 yL_weight, Cond.static yL_weight, Cond.code yL_weight cL_weight 6 (some .int), Cond.methodLink RL 9 yL_heavy, Cond.static yL_heavy, Cond.code yL_heavy cL_heavy 1 (some .int), Cond.methodLink RL 112 yL_of, Cond.static yL_of, Cond.codeWith yL_of cL_of 5 (some .int) [(0, 128, 129, 36)], Cond.methodLink RL 71 yX3_down]
def wsL_rigs_r6 : List Cond := [Cond.instanceMethod yX3_down, Cond.selects RX3 yX3_down yX3_down, Cond.code yX3_down cX3_down 3 (some .boolean), Cond.instanceMethod yX1_hangs, Cond.selects RX1 yX1_hangs yX1_hangs, Cond.code yX1_hangs cX1_hangs 2 (some .boolean), Cond.methodLink RL 75 yX3_onBar, Cond.instanceMethod yX3_onBar, Cond.selects RX3 yX3_onBar yX3_onBar, Cond.code yX3_onBar cX3_onBar 4 (some .int), Cond.instanceMethod yX1_ranked, Cond.selects RX1 yX1_ranked yX1_ranked, Cond.code yX1_ranked cX1_ranked 4 (some .int), Cond.methodLink RX1 56 yX1_countBelow, Cond.instanceMethod yX1_countBelow, Cond.selects RX1 yX1_countBelow yX1_countBelow, Cond.code yX1_countBelow cX1_countBelow 5 (some .int), Cond.methodLink RL 78 yX3_where, Cond.instanceMethod yX3_where, Cond.selects RX3 yX3_where yX3_where, Cond.code yX3_where cX3_where 2 (some .int), Cond.methodLink RL 81 yX3_plug, Cond.instanceMethod yX3_plug, Cond.selects RX3 yX3_plug yX3_plug]
def wsL_rigs_r7 : List Cond := [Cond.code yX3_plug cX3_plug 4 (some .int), Cond.methodLink RX3 146 yX3_checkCircuit, Cond.static yX3_checkCircuit, Cond.code yX3_checkCircuit cX3_checkCircuit 1 none, Cond.methodLink RL 84 yX3_load, Cond.instanceMethod yX3_load, Cond.selects RX3 yX3_load yX3_load, Cond.code yX3_load cX3_load 4 (some .int), Cond.methodLink RX3 152 yX3_shownLevel, Cond.instanceMethod yX3_shownLevel, Cond.selects RX3 yX3_shownLevel yX3_shownLevel, Cond.code yX3_shownLevel cX3_shownLevel 2 (some .int), Cond.fieldLink RX3 20 "PlotPatch" "deaths" "[Z", Cond.instanceMethod yX2_wantedLevel, Cond.selects RX2 yX2_wantedLevel yX2_wantedLevel, Cond.code yX2_wantedLevel cX2_wantedLevel 5 (some .int), Cond.fieldLink RX2 43 "PlotPatch$Show" "ruling" "[I", Cond.fieldLink RX2 34 "PlotPatch$Show" "time" "I", Cond.fieldLink RX2 40 "PlotPatch$Show" "beganAt" "[I", Cond.fieldLink RX2 49 "PlotPatch$Show" "to" "[I", Cond.fieldLink RX2 46 "PlotPatch$Show" "from" "[I", Cond.methodLink RX2 68 yX2_gained, Cond.static yX2_gained, Cond.code yX2_gained cX2_gained 4 (some .int)]
def wsL_rigs_r8 : List Cond := [Cond.methodLink RX2 72 yJ9_floorDiv_7cf53, Cond.static yJ9_floorDiv_7cf53, Cond.initialized RJ9, Cond.code yJ9_floorDiv_7cf53 cJ9_floorDiv_7cf53 3 (some .int), Cond.methodLink RL 87 yX3_level, Cond.instanceMethod yX3_level, Cond.selects RX3 yX3_level yX3_level, Cond.code yX3_level cX3_level 2 (some .int), Cond.methodLink RL 90 yX3_wanted, Cond.instanceMethod yX3_wanted, Cond.selects RX3 yX3_wanted yX3_wanted, Cond.code yX3_wanted cX3_wanted 2 (some .int), Cond.methodLink RL 92 yX3_wantedByCues, Cond.instanceMethod yX3_wantedByCues, Cond.selects RX3 yX3_wantedByCues yX3_wantedByCues, Cond.code yX3_wantedByCues cX3_wantedByCues 2 (some .int), Cond.methodLink RL 95 yX3_bulb, Cond.instanceMethod yX3_bulb, Cond.selects RX3 yX3_bulb yX3_bulb, Cond.code yX3_bulb cX3_bulb 2 (some .boolean), Cond.methodLink RL 116 yX3_tour, Cond.instanceMethod yX3_tour, Cond.selects RX3 yX3_tour yX3_tour, Cond.code yX3_tour cX3_tour 1 (some .int)]
def wsL_rigs_r9 : List Cond := [Cond.instanceMethod yX1_changeHouse, Cond.selects RX1 yX1_changeHouse yX1_changeHouse, Cond.code yX1_changeHouse cX1_changeHouse 3 (some .int), Cond.fieldLink RX1 37 "PlotPatch$Rig" "formerBars" "[I", Cond.methodLink RX1 59 yX1_hangAgain, Cond.instanceMethod yX1_hangAgain, Cond.selects RX1 yX1_hangAgain yX1_hangAgain, Cond.code yX1_hangAgain cX1_hangAgain 4 (some .boolean), Cond.methodLink RX1 63 yX1_hasBar, Cond.methodLink RX1 67 yX1_bears, Cond.methodLink RX1 70 yX1_nearestPlace, Cond.instanceMethod yX1_nearestPlace, Cond.selects RX1 yX1_nearestPlace yX1_nearestPlace, Cond.code yX1_nearestPlace cX1_nearestPlace 5 (some .int), Cond.methodLink RX1 78 yX1_hasPlace, Cond.methodLink RX1 81 yX1_isClear, Cond.methodLink RX1 74 yX1_put, Cond.methodLink RL 119 yL_has, Cond.static yL_has, Cond.code yL_has cL_has 1 (some .int), Cond.methodLink RL 122 yL_set, Cond.static yL_set, Cond.codeWith yL_set cL_set 6 (some .int) [(0, 49, 50, 36), (0, 49, 55, 38), (0, 49, 60, 40)], Cond.methodLink RL 49 yX3_patch]
def wsL_rigs_r10 : List Cond := [Cond.instanceMethod yX3_patch, Cond.selects RX3 yX3_patch yX3_patch, Cond.code yX3_patch cX3_patch 3 (some .int), Cond.instanceMethod yX0_countDoubles, Cond.initialized RX0, Cond.selects RX0 yX0_countDoubles yX0_countDoubles, Cond.code yX0_countDoubles cX0_countDoubles 3 (some .int), Cond.methodLink RX0 30 yX0_countHolders, Cond.instanceMethod yX0_countHolders, Cond.selects RX0 yX0_countHolders yX0_countHolders, Cond.code yX0_countHolders cX0_countHolders 5 (some .int), Cond.fieldLink RX0 9 "PlotPatch$Board" "firsts" "[I", Cond.fieldLink RX0 21 "PlotPatch$Board" "widths" "[I", Cond.methodLink RL 52 yX3_name, Cond.instanceMethod yX3_name, Cond.selects RX3 yX3_name yX3_name, Cond.code yX3_name cX3_name 6 (some .int), Cond.static yX2_cell, Cond.code yX2_cell cX2_cell 2 (some .int), Cond.methodLink RL 55 yX3_colour, Cond.instanceMethod yX3_colour, Cond.selects RX3 yX3_colour yX3_colour, Cond.code yX3_colour cX3_colour 4 (some .int), Cond.fieldLink RX3 17 "PlotPatch" "burns" "[I"]
def wsL_rigs_r11 : List Cond := [Cond.methodLink RL 58 yX3_standIn, Cond.instanceMethod yX3_standIn, Cond.selects RX3 yX3_standIn yX3_standIn, Cond.code yX3_standIn cX3_standIn 3 (some .int), Cond.instanceMethod yX2_handOver, Cond.selects RX2 yX2_handOver yX2_handOver, Cond.code yX2_handOver cX2_handOver 6 (some .int), Cond.fieldLink RX2 25 "PlotPatch$Show" "named" "[I", Cond.methodLink RX2 56 yX2_cell]
def wsL_rigs : List Cond := .code yL_rigs cL_rigs 14 (some .boolean) :: ((wsL_rigs_r1 ++ (wsL_rigs_r2 ++ (wsL_rigs_r3 ++ (wsL_rigs_r4 ++ (wsL_rigs_r5 ++ (wsL_rigs_r6 ++ (wsL_rigs_r7 ++ (wsL_rigs_r8 ++ (wsL_rigs_r9 ++ (wsL_rigs_r10 ++ wsL_rigs_r11)))))))))) ++ wsX30 ++ wsX10 ++ wsX00 ++ wsX20 ++ (vx_atS RX3 49 "java/lang/IndexOutOfBoundsException" ["java/lang/RuntimeException", "java/lang/Exception"]).filter goodWord ++ (vx_atS RX3 63 "java/lang/IllegalStateException" ["java/lang/RuntimeException", "java/lang/Exception"]).filter goodWord ++ (vx_atS RX3 195 "java/lang/IllegalArgumentException" ["java/lang/RuntimeException", "java/lang/Exception"]).filter goodWord)
def wsL_plays_r1 : List Cond := [Cond.methodLink RL 98 yL_some, Cond.static yL_some, Cond.initialized RL, Cond.code yL_some cL_some 2 (some .int), Cond.methodLink RL 105 yL_made, Cond.static yL_made, Cond.codeWith yL_made cL_made 6 (some .int) [(0, 21, 22, 38), (0, 21, 27, 40)], Cond.classLink RL 38 "java/lang/IllegalArgumentException", Cond.classLink RL 40 "java/lang/IllegalStateException", Cond.methodLink RL 42 yX3_lamp, Cond.instanceMethod yX3_lamp, Cond.selects RX3 yX3_lamp yX3_lamp, Cond.initialized RX3, Cond.code yX3_lamp cX3_lamp 4 (some .int), Cond.classLink RX3 59 "java/lang/IllegalStateException", Cond.initialized "java/lang/IllegalStateException", Cond.fieldLink RX3 7 "PlotPatch" "lampCount" "I", Cond.fieldLink RX3 13 "PlotPatch" "colours" "[I", Cond.fieldLink RX3 27 "PlotPatch" "rig" "LPlotPatch$Rig;", Cond.fieldLink RX3 34 "PlotPatch" "board" "LPlotPatch$Board;", Cond.methodLink RX3 52 yX3_checkRange, Cond.static yX3_checkRange, Cond.code yX3_checkRange cX3_checkRange 3 none, Cond.classLink RX3 191 "java/lang/IllegalArgumentException"]
def wsL_plays_r2 : List Cond := [Cond.initialized "java/lang/IllegalArgumentException", Cond.methodLink RX3 73 yX3_weightOfKind, Cond.static yX3_weightOfKind, Cond.code yX3_weightOfKind cX3_weightOfKind 1 (some .int), Cond.methodLink RX3 80 yX3_widthOfKind, Cond.static yX3_widthOfKind, Cond.code yX3_widthOfKind cX3_widthOfKind 1 (some .int), Cond.methodLink RX3 86 yX3_wattsOfKind, Cond.static yX3_wattsOfKind, Cond.code yX3_wattsOfKind cX3_wattsOfKind 1 (some .int), Cond.methodLink RL 46 yX3_cue, Cond.instanceMethod yX3_cue, Cond.selects RX3 yX3_cue yX3_cue, Cond.code yX3_cue cX3_cue 4 (some .int), Cond.fieldLink RX3 41 "PlotPatch" "show" "LPlotPatch$Show;", Cond.instanceMethod yX2_addCue, Cond.initialized RX2, Cond.selects RX2 yX2_addCue yX2_addCue, Cond.code yX2_addCue cX2_addCue 5 (some .int), Cond.fieldLink RX2 9 "PlotPatch$Show" "cueCount" "I", Cond.fieldLink RX2 15 "PlotPatch$Show" "fades" "[I", Cond.fieldLink RX2 19 "PlotPatch$Show" "curves" "[I", Cond.fieldLink RX2 22 "PlotPatch$Show" "follows" "[I", Cond.methodLink RL 122 yL_set]
def wsL_plays_r3 : List Cond := [Cond.static yL_set, Cond.codeWith yL_set cL_set 6 (some .int) [(0, 49, 50, 36), (0, 49, 55, 38), (0, 49, 60, 40)], Cond.classLink RL 36 "java/lang/IndexOutOfBoundsException", Cond.methodLink RL 49 yX3_patch, Cond.instanceMethod yX3_patch, Cond.selects RX3 yX3_patch yX3_patch, Cond.code yX3_patch cX3_patch 3 (some .int), Cond.methodLink RX3 89 yX3_checkLamp, Cond.instanceMethod yX3_checkLamp, Cond.selects RX3 yX3_checkLamp yX3_checkLamp, Cond.code yX3_checkLamp cX3_checkLamp 2 none, Cond.classLink RX3 45 "java/lang/IndexOutOfBoundsException", Cond.initialized "java/lang/IndexOutOfBoundsException", Cond.instanceMethod yX0_countDoubles, Cond.initialized RX0, Cond.selects RX0 yX0_countDoubles yX0_countDoubles, Cond.code yX0_countDoubles cX0_countDoubles 3 (some .int), Cond.methodLink RX0 30 yX0_countHolders, Cond.instanceMethod yX0_countHolders, Cond.selects RX0 yX0_countHolders yX0_countHolders, Cond.code yX0_countHolders cX0_countHolders 5 (some .int), Cond.fieldLink RX0 9 "PlotPatch$Board" "firsts" "[I", Cond.fieldLink RX0 21 "PlotPatch$Board" "widths" "[I", Cond.methodLink RL 52 yX3_name]
def wsL_plays_r4 : List Cond := [Cond.instanceMethod yX3_name, Cond.selects RX3 yX3_name yX3_name, Cond.code yX3_name cX3_name 6 (some .int), Cond.static yX2_cell, Cond.code yX2_cell cX2_cell 2 (some .int), Cond.methodLink RL 55 yX3_colour, Cond.instanceMethod yX3_colour, Cond.selects RX3 yX3_colour yX3_colour, Cond.code yX3_colour cX3_colour 4 (some .int), Cond.fieldLink RX3 17 "PlotPatch" "burns" "[I", Cond.methodLink RL 58 yX3_standIn, Cond.instanceMethod yX3_standIn, Cond.selects RX3 yX3_standIn yX3_standIn, Cond.code yX3_standIn cX3_standIn 3 (some .int), Cond.fieldLink RX3 20 "PlotPatch" "deaths" "[Z", Cond.instanceMethod yX2_handOver, Cond.selects RX2 yX2_handOver yX2_handOver, Cond.code yX2_handOver cX2_handOver 6 (some .int), Cond.fieldLink RX2 25 "PlotPatch$Show" "named" "[I", Cond.methodLink RX2 56 yX2_cell, Cond.methodLink RL 125 yL_begins, Cond.static yL_begins, Cond.code yL_begins cL_begins 7 (some .int), Cond.methodLink RL 129 yL_goes]
def wsL_plays_r5 : List Cond := [Cond.static yL_goes, Cond.codeWith yL_goes cL_goes 2 (some .int) [(0, 4, 5, 40)], Cond.methodLink RL 61 yX3_go, Cond.instanceMethod yX3_go, Cond.selects RX3 yX3_go yX3_go, Cond.code yX3_go cX3_go 1 (some .int), Cond.instanceMethod yX2_beginNext, Cond.selects RX2 yX2_beginNext yX2_beginNext, Cond.code yX2_beginNext cX2_beginNext 3 (some .int), Cond.fieldLink RX2 37 "PlotPatch$Show" "last" "I", Cond.methodLink RX2 52 yX2_begin, Cond.instanceMethod yX2_begin, Cond.selects RX2 yX2_begin yX2_begin, Cond.code yX2_begin cX2_begin 4 none, Cond.fieldLink RX2 46 "PlotPatch$Show" "from" "[I", Cond.fieldLink RX2 49 "PlotPatch$Show" "to" "[I", Cond.fieldLink RX2 43 "PlotPatch$Show" "ruling" "[I", Cond.fieldLink RX2 40 "PlotPatch$Show" "beganAt" "[I", Cond.fieldLink RX2 34 "PlotPatch$Show" "time" "I", Cond.methodLink RX2 60 yX2_wantedLevel, Cond.instanceMethod yX2_wantedLevel, Cond.selects RX2 yX2_wantedLevel yX2_wantedLevel, Cond.code yX2_wantedLevel cX2_wantedLevel 5 (some .int), Cond.methodLink RX2 68 yX2_gained]
def wsL_plays_r6 : List Cond := [Cond.static yX2_gained, Cond.code yX2_gained cX2_gained 4 (some .int), Cond.methodLink RX2 72 yJ9_floorDiv_7cf53, Cond.static yJ9_floorDiv_7cf53, Cond.initialized RJ9, Cond.code yJ9_floorDiv_7cf53 cJ9_floorDiv_7cf53 3 (some .int), Cond.methodLink RL 133 yL_level, Cond.static yL_level, Cond.code yL_level cL_level 4 (some .int), Cond.methodLink RL 23 yL_wanted, Cond.static yL_wanted, Cond.code yL_wanted cL_wanted 9 (some .int), Cond.methodLink RL 19 yL_fade, Cond.static yL_fade, Cond.code yL_fade cL_fade 5 (some .int), Cond.methodLink RL 136 yL_ticks, Cond.static yL_ticks, Cond.codeWith yL_ticks cL_ticks 4 (some .int) [(0, 17, 18, 38)], Cond.methodLink RL 65 yX3_tick, Cond.instanceMethod yX3_tick, Cond.selects RX3 yX3_tick yX3_tick, Cond.code yX3_tick cX3_tick 4 (some .int), Cond.instanceMethod yX2_advance, Cond.selects RX2 yX2_advance yX2_advance]
def wsL_plays_r7 : List Cond := [Cond.code yX2_advance cX2_advance 1 (some .int), Cond.methodLink RX2 64 yX2_beginNext, Cond.methodLink RX3 182 yX3_burnColours, Cond.instanceMethod yX3_burnColours, Cond.selects RX3 yX3_burnColours yX3_burnColours, Cond.code yX3_burnColours cX3_burnColours 2 none, Cond.methodLink RX3 152 yX3_shownLevel, Cond.instanceMethod yX3_shownLevel, Cond.selects RX3 yX3_shownLevel yX3_shownLevel, Cond.code yX3_shownLevel cX3_shownLevel 2 (some .int), Cond.instanceMethod yX1_hangs, Cond.initialized RX1, Cond.selects RX1 yX1_hangs yX1_hangs, Cond.code yX1_hangs cX1_hangs 2 (some .boolean), Cond.fieldLink RX1 28 "PlotPatch$Rig" "bars" "[I", Cond.methodLink RL 68 yX3_gap, Cond.instanceMethod yX3_gap, Cond.selects RX3 yX3_gap yX3_gap, Cond.code yX3_gap cX3_gap 2 (some .int), Cond.instanceMethod yX0_lowestGap, Cond.selects RX0 yX0_lowestGap yX0_lowestGap, Cond.code yX0_lowestGap cX0_lowestGap 4 (some .int), Cond.methodLink RL 140 yX3_rewind, Cond.instanceMethod yX3_rewind]
def wsL_plays_r8 : List Cond := [Cond.selects RX3 yX3_rewind yX3_rewind, Cond.code yX3_rewind cX3_rewind 1 (some .int), Cond.instanceMethod yX2_reset, Cond.selects RX2 yX2_reset yX2_reset, Cond.code yX2_reset cX2_reset 2 (some .int), Cond.methodLink RX2 28 yJ7_fill_53178, Cond.static yJ7_fill_53178, Cond.initialized RJ7, Cond.code yJ7_fill_53178 cJ7_fill_53178 4 none, Cond.methodLink RL 112 yL_of, Cond.static yL_of, Cond.codeWith yL_of cL_of 5 (some .int) [(0, 128, 129, 36)], Cond.methodLink RL 71 yX3_down, Cond.instanceMethod yX3_down, Cond.selects RX3 yX3_down yX3_down, Cond.code yX3_down cX3_down 3 (some .boolean), Cond.methodLink RL 75 yX3_onBar, Cond.instanceMethod yX3_onBar, Cond.selects RX3 yX3_onBar yX3_onBar, Cond.code yX3_onBar cX3_onBar 4 (some .int), Cond.methodLink RX3 93 yX3_checkBar, Cond.instanceMethod yX3_checkBar, Cond.selects RX3 yX3_checkBar yX3_checkBar, Cond.code yX3_checkBar cX3_checkBar 2 none]
def wsL_plays_r9 : List Cond := [Cond.instanceMethod yX1_hasBar, Cond.selects RX1 yX1_hasBar yX1_hasBar, Cond.code yX1_hasBar cX1_hasBar 2 (some .boolean), Cond.fieldLink RX1 15 "PlotPatch$Rig" "barCounts" "[I", Cond.fieldLink RX1 9 "PlotPatch$Rig" "house" "I", Cond.instanceMethod yX1_ranked, Cond.selects RX1 yX1_ranked yX1_ranked, Cond.code yX1_ranked cX1_ranked 4 (some .int), Cond.fieldLink RX1 40 "PlotPatch$Rig" "places" "[I", Cond.methodLink RX1 56 yX1_countBelow, Cond.instanceMethod yX1_countBelow, Cond.selects RX1 yX1_countBelow yX1_countBelow, Cond.code yX1_countBelow cX1_countBelow 5 (some .int), Cond.methodLink RL 78 yX3_where, Cond.instanceMethod yX3_where, Cond.selects RX3 yX3_where yX3_where, Cond.code yX3_where cX3_where 2 (some .int), Cond.methodLink RL 81 yX3_plug, Cond.instanceMethod yX3_plug, Cond.selects RX3 yX3_plug yX3_plug, Cond.code yX3_plug cX3_plug 4 (some .int), Cond.methodLink RX3 146 yX3_checkCircuit, Cond.static yX3_checkCircuit, Cond.code yX3_checkCircuit cX3_checkCircuit 1 none]
def wsL_plays_r10 : List Cond := [Cond.methodLink RL 84 yX3_load, Cond.instanceMethod yX3_load, Cond.selects RX3 yX3_load yX3_load, Cond.code yX3_load cX3_load 4 (some .int), Cond.methodLink RL 87 yX3_level, Cond.instanceMethod yX3_level, Cond.selects RX3 yX3_level yX3_level, Cond.code yX3_level cX3_level 2 (some .int), Cond.methodLink RL 90 yX3_wanted, Cond.instanceMethod yX3_wanted, Cond.selects RX3 yX3_wanted yX3_wanted, Cond.code yX3_wanted cX3_wanted 2 (some .int), Cond.methodLink RL 92 yX3_wantedByCues, Cond.instanceMethod yX3_wantedByCues, Cond.selects RX3 yX3_wantedByCues yX3_wantedByCues, Cond.code yX3_wantedByCues cX3_wantedByCues 2 (some .int), Cond.methodLink RL 95 yX3_bulb, Cond.instanceMethod yX3_bulb, Cond.selects RX3 yX3_bulb yX3_bulb, Cond.code yX3_bulb cX3_bulb 2 (some .boolean)]
def wsL_plays : List Cond := .code yL_plays cL_plays 15 (some .boolean) :: ((wsL_plays_r1 ++ (wsL_plays_r2 ++ (wsL_plays_r3 ++ (wsL_plays_r4 ++ (wsL_plays_r5 ++ (wsL_plays_r6 ++ (wsL_plays_r7 ++ (wsL_plays_r8 ++ (wsL_plays_r9 ++ wsL_plays_r10))))))))) ++ wsX30 ++ wsX10 ++ wsX00 ++ wsX20 ++ (vx_atS RX3 63 "java/lang/IllegalStateException" ["java/lang/RuntimeException", "java/lang/Exception"]).filter goodWord ++ (vx_atS RX3 195 "java/lang/IllegalArgumentException" ["java/lang/RuntimeException", "java/lang/Exception"]).filter goodWord ++ (vx_atS RX3 49 "java/lang/IndexOutOfBoundsException" ["java/lang/RuntimeException", "java/lang/Exception"]).filter goodWord)
def wsL_asks_r1 : List Cond := [Cond.arrayClass .int, Cond.methodLink RL 133 yL_level, Cond.static yL_level, Cond.initialized RL, Cond.code yL_level cL_level 4 (some .int), Cond.methodLink RL 23 yL_wanted, Cond.static yL_wanted, Cond.code yL_wanted cL_wanted 9 (some .int), Cond.methodLink RL 19 yL_fade, Cond.static yL_fade, Cond.code yL_fade cL_fade 5 (some .int), Cond.methodLink RL 112 yL_of, Cond.static yL_of, Cond.codeWith yL_of cL_of 5 (some .int) [(0, 128, 129, 36)], Cond.classLink RL 36 "java/lang/IndexOutOfBoundsException", Cond.methodLink RL 71 yX3_down, Cond.instanceMethod yX3_down, Cond.selects RX3 yX3_down yX3_down, Cond.initialized RX3, Cond.code yX3_down cX3_down 3 (some .boolean), Cond.fieldLink RX3 27 "PlotPatch" "rig" "LPlotPatch$Rig;", Cond.methodLink RX3 89 yX3_checkLamp, Cond.instanceMethod yX3_checkLamp, Cond.selects RX3 yX3_checkLamp yX3_checkLamp]
def wsL_asks_r2 : List Cond := [Cond.code yX3_checkLamp cX3_checkLamp 2 none, Cond.classLink RX3 45 "java/lang/IndexOutOfBoundsException", Cond.initialized "java/lang/IndexOutOfBoundsException", Cond.fieldLink RX3 7 "PlotPatch" "lampCount" "I", Cond.instanceMethod yX1_hangs, Cond.initialized RX1, Cond.selects RX1 yX1_hangs yX1_hangs, Cond.code yX1_hangs cX1_hangs 2 (some .boolean), Cond.fieldLink RX1 28 "PlotPatch$Rig" "bars" "[I", Cond.methodLink RL 75 yX3_onBar, Cond.instanceMethod yX3_onBar, Cond.selects RX3 yX3_onBar yX3_onBar, Cond.code yX3_onBar cX3_onBar 4 (some .int), Cond.methodLink RX3 93 yX3_checkBar, Cond.instanceMethod yX3_checkBar, Cond.selects RX3 yX3_checkBar yX3_checkBar, Cond.code yX3_checkBar cX3_checkBar 2 none, Cond.instanceMethod yX1_hasBar, Cond.selects RX1 yX1_hasBar yX1_hasBar, Cond.code yX1_hasBar cX1_hasBar 2 (some .boolean), Cond.fieldLink RX1 15 "PlotPatch$Rig" "barCounts" "[I", Cond.fieldLink RX1 9 "PlotPatch$Rig" "house" "I", Cond.instanceMethod yX1_ranked, Cond.selects RX1 yX1_ranked yX1_ranked]
def wsL_asks_r3 : List Cond := [Cond.code yX1_ranked cX1_ranked 4 (some .int), Cond.fieldLink RX1 40 "PlotPatch$Rig" "places" "[I", Cond.methodLink RX1 56 yX1_countBelow, Cond.instanceMethod yX1_countBelow, Cond.selects RX1 yX1_countBelow yX1_countBelow, Cond.code yX1_countBelow cX1_countBelow 5 (some .int), Cond.methodLink RL 78 yX3_where, Cond.instanceMethod yX3_where, Cond.selects RX3 yX3_where yX3_where, Cond.code yX3_where cX3_where 2 (some .int), Cond.methodLink RL 81 yX3_plug, Cond.instanceMethod yX3_plug, Cond.selects RX3 yX3_plug yX3_plug, Cond.code yX3_plug cX3_plug 4 (some .int), Cond.fieldLink RX3 34 "PlotPatch" "board" "LPlotPatch$Board;", Cond.methodLink RX3 146 yX3_checkCircuit, Cond.static yX3_checkCircuit, Cond.code yX3_checkCircuit cX3_checkCircuit 1 none, Cond.methodLink RL 84 yX3_load, Cond.instanceMethod yX3_load, Cond.selects RX3 yX3_load yX3_load, Cond.code yX3_load cX3_load 4 (some .int), Cond.methodLink RX3 152 yX3_shownLevel, Cond.instanceMethod yX3_shownLevel]
def wsL_asks_r4 : List Cond := [Cond.selects RX3 yX3_shownLevel yX3_shownLevel, Cond.code yX3_shownLevel cX3_shownLevel 2 (some .int), Cond.fieldLink RX3 20 "PlotPatch" "deaths" "[Z", Cond.fieldLink RX3 41 "PlotPatch" "show" "LPlotPatch$Show;", Cond.instanceMethod yX2_wantedLevel, Cond.initialized RX2, Cond.selects RX2 yX2_wantedLevel yX2_wantedLevel, Cond.code yX2_wantedLevel cX2_wantedLevel 5 (some .int), Cond.fieldLink RX2 43 "PlotPatch$Show" "ruling" "[I", Cond.fieldLink RX2 9 "PlotPatch$Show" "cueCount" "I", Cond.fieldLink RX2 34 "PlotPatch$Show" "time" "I", Cond.fieldLink RX2 40 "PlotPatch$Show" "beganAt" "[I", Cond.fieldLink RX2 15 "PlotPatch$Show" "fades" "[I", Cond.fieldLink RX2 49 "PlotPatch$Show" "to" "[I", Cond.fieldLink RX2 46 "PlotPatch$Show" "from" "[I", Cond.fieldLink RX2 19 "PlotPatch$Show" "curves" "[I", Cond.methodLink RX2 68 yX2_gained, Cond.static yX2_gained, Cond.code yX2_gained cX2_gained 4 (some .int), Cond.methodLink RX2 72 yJ9_floorDiv_7cf53, Cond.static yJ9_floorDiv_7cf53, Cond.initialized RJ9, Cond.code yJ9_floorDiv_7cf53 cJ9_floorDiv_7cf53 3 (some .int), Cond.methodLink RL 87 yX3_level]
def wsL_asks_r5 : List Cond := [Cond.instanceMethod yX3_level, Cond.selects RX3 yX3_level yX3_level, Cond.code yX3_level cX3_level 2 (some .int), Cond.methodLink RL 90 yX3_wanted, Cond.instanceMethod yX3_wanted, Cond.selects RX3 yX3_wanted yX3_wanted, Cond.code yX3_wanted cX3_wanted 2 (some .int), Cond.methodLink RL 92 yX3_wantedByCues, Cond.instanceMethod yX3_wantedByCues, Cond.selects RX3 yX3_wantedByCues yX3_wantedByCues, Cond.code yX3_wantedByCues cX3_wantedByCues 2 (some .int), Cond.methodLink RL 95 yX3_bulb, Cond.instanceMethod yX3_bulb, Cond.selects RX3 yX3_bulb yX3_bulb, Cond.code yX3_bulb cX3_bulb 2 (some .boolean), Cond.methodLink RL 98 yL_some, Cond.static yL_some, Cond.code yL_some cL_some 2 (some .int), Cond.methodLink RL 143 yX3_burnt, Cond.instanceMethod yX3_burnt, Cond.selects RX3 yX3_burnt yX3_burnt, Cond.code yX3_burnt cX3_burnt 3 (some .int), Cond.fieldLink RX3 17 "PlotPatch" "burns" "[I", Cond.methodLink RL 119 yL_has]
def wsL_asks_r6 : List Cond := [Cond.static yL_has, Cond.code yL_has cL_has 1 (some .int), Cond.methodLink RL 136 yL_ticks, Cond.static yL_ticks, Cond.codeWith yL_ticks cL_ticks 4 (some .int) [(0, 17, 18, 38)], Cond.classLink RL 38 "java/lang/IllegalArgumentException", Cond.methodLink RL 65 yX3_tick, Cond.instanceMethod yX3_tick, Cond.selects RX3 yX3_tick yX3_tick, Cond.code yX3_tick cX3_tick 4 (some .int), Cond.methodLink RX3 52 yX3_checkRange, Cond.static yX3_checkRange, Cond.code yX3_checkRange cX3_checkRange 3 none, Cond.classLink RX3 191 "java/lang/IllegalArgumentException", Cond.initialized "java/lang/IllegalArgumentException", Cond.instanceMethod yX2_advance, Cond.selects RX2 yX2_advance yX2_advance, Cond.code yX2_advance cX2_advance 1 (some .int), Cond.fieldLink RX2 37 "PlotPatch$Show" "last" "I", Cond.fieldLink RX2 22 "PlotPatch$Show" "follows" "[I", Cond.methodLink RX2 64 yX2_beginNext, Cond.instanceMethod yX2_beginNext, Cond.selects RX2 yX2_beginNext yX2_beginNext, Cond.code yX2_beginNext cX2_beginNext 3 (some .int)]
def wsL_asks_r7 : List Cond := [Cond.methodLink RX2 52 yX2_begin, Cond.instanceMethod yX2_begin, Cond.selects RX2 yX2_begin yX2_begin, Cond.code yX2_begin cX2_begin 4 none, Cond.fieldLink RX2 25 "PlotPatch$Show" "named" "[I", Cond.methodLink RX2 56 yX2_cell, Cond.static yX2_cell, Cond.code yX2_cell cX2_cell 2 (some .int), Cond.methodLink RX2 60 yX2_wantedLevel, Cond.methodLink RX3 182 yX3_burnColours, Cond.instanceMethod yX3_burnColours, Cond.selects RX3 yX3_burnColours yX3_burnColours, Cond.code yX3_burnColours cX3_burnColours 2 none, Cond.methodLink RL 68 yX3_gap, Cond.instanceMethod yX3_gap, Cond.selects RX3 yX3_gap yX3_gap, Cond.code yX3_gap cX3_gap 2 (some .int), Cond.instanceMethod yX0_lowestGap, Cond.initialized RX0, Cond.selects RX0 yX0_lowestGap yX0_lowestGap, Cond.code yX0_lowestGap cX0_lowestGap 4 (some .int), Cond.methodLink RX0 30 yX0_countHolders, Cond.instanceMethod yX0_countHolders, Cond.selects RX0 yX0_countHolders yX0_countHolders]
def wsL_asks_r8 : List Cond := [Cond.code yX0_countHolders cX0_countHolders 5 (some .int), Cond.fieldLink RX0 9 "PlotPatch$Board" "firsts" "[I", Cond.fieldLink RX0 21 "PlotPatch$Board" "widths" "[I"]
def wsL_asks : List Cond := .code yL_asks cL_asks 15 (some .boolean) :: ((wsL_asks_r1 ++ (wsL_asks_r2 ++ (wsL_asks_r3 ++ (wsL_asks_r4 ++ (wsL_asks_r5 ++ (wsL_asks_r6 ++ (wsL_asks_r7 ++ wsL_asks_r8))))))) ++ wsX30 ++ wsX10 ++ wsX00 ++ wsX20 ++ (vx_atS RX3 49 "java/lang/IndexOutOfBoundsException" ["java/lang/RuntimeException", "java/lang/Exception"]).filter goodWord ++ (vx_atS RX3 195 "java/lang/IllegalArgumentException" ["java/lang/RuntimeException", "java/lang/Exception"]).filter goodWord)
def wsL_law0_r1 : List Cond := [Cond.classLink RL 28 RX3, Cond.instantiable RX3 7, Cond.initialized RX3, Cond.arrayClass .int, Cond.methodLink RL 146 yX3_init, Cond.instanceMethod yX3_init, Cond.code yX3_init cX3_init 1 none, Cond.methodLink RX3 1 objectInit, Cond.instanceMethod objectInit, Cond.code objectInit ⟨#[0xb1]⟩ 1 none, Cond.fieldLink RX3 7 "PlotPatch" "lampCount" "I", Cond.fieldLink RX3 13 "PlotPatch" "colours" "[I", Cond.fieldLink RX3 17 "PlotPatch" "burns" "[I", Cond.arrayClass .boolean, Cond.fieldLink RX3 20 "PlotPatch" "deaths" "[Z", Cond.classLink RX3 24 RX1, Cond.instantiable RX1 8, Cond.initialized RX1, Cond.fieldLink RX3 27 "PlotPatch" "rig" "LPlotPatch$Rig;", Cond.classLink RX3 31 RX0, Cond.instantiable RX0 4, Cond.initialized RX0, Cond.fieldLink RX3 34 "PlotPatch" "board" "LPlotPatch$Board;", Cond.classLink RX3 38 RX2]
def wsL_law0_r2 : List Cond := [Cond.instantiable RX2 11, Cond.initialized RX2, Cond.fieldLink RX3 41 "PlotPatch" "show" "LPlotPatch$Show;", Cond.instanceMethod yX1_init, Cond.code yX1_init cX1_init 1 none, Cond.methodLink RX1 3 objectInit, Cond.fieldLink RX1 9 "PlotPatch$Rig" "house" "I", Cond.fieldLink RX1 15 "PlotPatch$Rig" "barCounts" "[I", Cond.fieldLink RX1 19 "PlotPatch$Rig" "lengths" "[I", Cond.fieldLink RX1 22 "PlotPatch$Rig" "limits" "[I", Cond.fieldLink RX1 25 "PlotPatch$Rig" "weights" "[I", Cond.fieldLink RX1 28 "PlotPatch$Rig" "bars" "[I", Cond.fieldLink RX1 37 "PlotPatch$Rig" "formerBars" "[I", Cond.fieldLink RX1 40 "PlotPatch$Rig" "places" "[I", Cond.methodLink RX1 31 yJ7_fill_53178, Cond.static yJ7_fill_53178, Cond.initialized RJ7, Cond.code yJ7_fill_53178 cJ7_fill_53178 4 none, Cond.instanceMethod yX0_init, Cond.code yX0_init cX0_init 1 none, Cond.methodLink RX0 3 objectInit, Cond.fieldLink RX0 9 "PlotPatch$Board" "firsts" "[I", Cond.fieldLink RX0 21 "PlotPatch$Board" "widths" "[I", Cond.fieldLink RX0 24 "PlotPatch$Board" "circuits" "[I"]
def wsL_law0_r3 : List Cond := [Cond.fieldLink RX0 27 "PlotPatch$Board" "watts" "[I", Cond.methodLink RX0 15 yJ7_fill_53178, Cond.instanceMethod yX2_init, Cond.code yX2_init cX2_init 1 none, Cond.methodLink RX2 3 objectInit, Cond.fieldLink RX2 9 "PlotPatch$Show" "cueCount" "I", Cond.fieldLink RX2 15 "PlotPatch$Show" "fades" "[I", Cond.fieldLink RX2 19 "PlotPatch$Show" "curves" "[I", Cond.fieldLink RX2 22 "PlotPatch$Show" "follows" "[I", Cond.fieldLink RX2 25 "PlotPatch$Show" "named" "[I", Cond.fieldLink RX2 34 "PlotPatch$Show" "time" "I", Cond.fieldLink RX2 37 "PlotPatch$Show" "last" "I", Cond.fieldLink RX2 40 "PlotPatch$Show" "beganAt" "[I", Cond.fieldLink RX2 43 "PlotPatch$Show" "ruling" "[I", Cond.fieldLink RX2 46 "PlotPatch$Show" "from" "[I", Cond.fieldLink RX2 49 "PlotPatch$Show" "to" "[I", Cond.methodLink RX2 28 yJ7_fill_53178, Cond.methodLink RL 147 yL_cell, Cond.static yL_cell, Cond.initialized RL, Cond.code yL_cell cL_cell 2 (some .int), Cond.constantLong RL 7 (2246822519), Cond.methodLink RL 98 yL_some, Cond.static yL_some]
def wsL_law0_r4 : List Cond := [Cond.code yL_some cL_some 2 (some .int), Cond.methodLink RL 151 yL_rigs, Cond.static yL_rigs, Cond.code yL_rigs cL_rigs 14 (some .boolean), Cond.methodLink RL 101 yL_hangs, Cond.static yL_hangs, Cond.codeWith yL_hangs cL_hangs 6 (some .int) [(0, 23, 24, 36), (0, 23, 29, 38), (0, 23, 34, 40)], Cond.classLink RL 36 "java/lang/IndexOutOfBoundsException", Cond.classLink RL 38 "java/lang/IllegalArgumentException", Cond.classLink RL 40 "java/lang/IllegalStateException", Cond.methodLink RL 27 yX3_bar, Cond.instanceMethod yX3_bar, Cond.selects RX3 yX3_bar yX3_bar, Cond.code yX3_bar cX3_bar 4 (some .int), Cond.classLink RX3 45 "java/lang/IndexOutOfBoundsException", Cond.initialized "java/lang/IndexOutOfBoundsException", Cond.classLink RX3 59 "java/lang/IllegalStateException", Cond.initialized "java/lang/IllegalStateException", Cond.methodLink RX3 52 yX3_checkRange, Cond.static yX3_checkRange, Cond.code yX3_checkRange cX3_checkRange 3 none, Cond.classLink RX3 191 "java/lang/IllegalArgumentException", Cond.initialized "java/lang/IllegalArgumentException", Cond.instanceMethod yX1_addBar]
def wsL_law0_r5 : List Cond := [Cond.selects RX1 yX1_addBar yX1_addBar, Cond.code yX1_addBar cX1_addBar 5 (some .int), Cond.methodLink RX1 43 yX1_cell, Cond.static yX1_cell, Cond.code yX1_cell cX1_cell 2 (some .int), Cond.methodLink RL 33 yX3_hang, Cond.instanceMethod yX3_hang, Cond.selects RX3 yX3_hang yX3_hang, Cond.code yX3_hang cX3_hang 4 (some .int), Cond.methodLink RX3 89 yX3_checkLamp, Cond.instanceMethod yX3_checkLamp, Cond.selects RX3 yX3_checkLamp yX3_checkLamp, Cond.code yX3_checkLamp cX3_checkLamp 2 none, Cond.methodLink RX3 93 yX3_checkBar, Cond.instanceMethod yX3_checkBar, Cond.selects RX3 yX3_checkBar yX3_checkBar, Cond.code yX3_checkBar cX3_checkBar 2 none, Cond.instanceMethod yX1_hasBar, Cond.selects RX1 yX1_hasBar yX1_hasBar, Cond.code yX1_hasBar cX1_hasBar 2 (some .boolean), Cond.instanceMethod yX1_hasPlace, Cond.selects RX1 yX1_hasPlace yX1_hasPlace, Cond.code yX1_hasPlace cX1_hasPlace 3 (some .boolean), Cond.instanceMethod yX1_bears]
def wsL_law0_r6 : List Cond := [Cond.selects RX1 yX1_bears yX1_bears, Cond.code yX1_bears cX1_bears 4 (some .boolean), Cond.methodLink RX1 47 yX1_weightOn, Cond.instanceMethod yX1_weightOn, Cond.selects RX1 yX1_weightOn yX1_weightOn, Cond.code yX1_weightOn cX1_weightOn 4 (some .int), Cond.instanceMethod yX1_isClear, Cond.selects RX1 yX1_isClear yX1_isClear, Cond.code yX1_isClear cX1_isClear 5 (some .boolean), Cond.methodLink RX1 51 Lib.Math.abs.name, Cond.static Lib.Math.abs.name, Cond.initialized "java/lang/Math", Cond.code Lib.Math.abs.name Lib.Math.abs.code 1 (some .int), Cond.instanceMethod yX1_put, Cond.selects RX1 yX1_put yX1_put, Cond.code yX1_put cX1_put 4 none, Cond.methodLink RL 105 yL_made, Cond.static yL_made, Cond.codeWith yL_made cL_made 6 (some .int) [(0, 21, 22, 38), (0, 21, 27, 40)], Cond.methodLink RL 42 yX3_lamp, Cond.instanceMethod yX3_lamp, Cond.selects RX3 yX3_lamp yX3_lamp, Cond.code yX3_lamp cX3_lamp 4 (some .int), Cond.methodLink RX3 73 yX3_weightOfKind]
def wsL_law0_r7 : List Cond := [Cond.static yX3_weightOfKind, Cond.code yX3_weightOfKind cX3_weightOfKind 1 (some .int), Cond.methodLink RX3 80 yX3_widthOfKind, Cond.static yX3_widthOfKind, Cond.code yX3_widthOfKind cX3_widthOfKind 1 (some .int), Cond.methodLink RX3 86 yX3_wattsOfKind, Cond.static yX3_wattsOfKind, Cond.code yX3_wattsOfKind cX3_wattsOfKind 1 (some .int), Cond.methodLink RL 46 yX3_cue, Cond.instanceMethod yX3_cue, Cond.selects RX3 yX3_cue yX3_cue, Cond.code yX3_cue cX3_cue 4 (some .int), Cond.instanceMethod yX2_addCue, Cond.selects RX2 yX2_addCue yX2_addCue, Cond.code yX2_addCue cX2_addCue 5 (some .int), Cond.methodLink RL 108 yL_fits, Cond.static yL_fits, Cond.code yL_fits cL_fits 10 (some .boolean), Cond.methodLink RL 15 yL_weight, Cond.static yL_weight, Cond.code yL_weight cL_weight 6 (some .int), Cond.methodLink RL 9 yL_heavy, Cond.static yL_heavy, Cond.code yL_heavy cL_heavy 1 (some .int)]
def wsL_law0_r8 : List Cond := [Cond.methodLink RL 112 yL_of, Cond.static yL_of, Cond.codeWith yL_of cL_of 5 (some .int) [(0, 128, 129, 36)], Cond.methodLink RL 71 yX3_down, Cond.instanceMethod yX3_down, Cond.selects RX3 yX3_down yX3_down, Cond.code yX3_down cX3_down 3 (some .boolean), Cond.instanceMethod yX1_hangs, Cond.selects RX1 yX1_hangs yX1_hangs, Cond.code yX1_hangs cX1_hangs 2 (some .boolean), Cond.methodLink RL 75 yX3_onBar, Cond.instanceMethod yX3_onBar, Cond.selects RX3 yX3_onBar yX3_onBar, Cond.code yX3_onBar cX3_onBar 4 (some .int), Cond.instanceMethod yX1_ranked, Cond.selects RX1 yX1_ranked yX1_ranked, Cond.code yX1_ranked cX1_ranked 4 (some .int), Cond.methodLink RX1 56 yX1_countBelow, Cond.instanceMethod yX1_countBelow, Cond.selects RX1 yX1_countBelow yX1_countBelow, Cond.code yX1_countBelow cX1_countBelow 5 (some .int), Cond.methodLink RL 78 yX3_where, Cond.instanceMethod yX3_where, Cond.selects RX3 yX3_where yX3_where]
def wsL_law0_r9 : List Cond := [Cond.code yX3_where cX3_where 2 (some .int), Cond.methodLink RL 81 yX3_plug, Cond.instanceMethod yX3_plug, Cond.selects RX3 yX3_plug yX3_plug, Cond.code yX3_plug cX3_plug 4 (some .int), Cond.methodLink RX3 146 yX3_checkCircuit, Cond.static yX3_checkCircuit, Cond.code yX3_checkCircuit cX3_checkCircuit 1 none, Cond.methodLink RL 84 yX3_load, Cond.instanceMethod yX3_load, Cond.selects RX3 yX3_load yX3_load, Cond.code yX3_load cX3_load 4 (some .int), Cond.methodLink RX3 152 yX3_shownLevel, Cond.instanceMethod yX3_shownLevel, Cond.selects RX3 yX3_shownLevel yX3_shownLevel, Cond.code yX3_shownLevel cX3_shownLevel 2 (some .int), Cond.instanceMethod yX2_wantedLevel, Cond.selects RX2 yX2_wantedLevel yX2_wantedLevel, Cond.code yX2_wantedLevel cX2_wantedLevel 5 (some .int), Cond.methodLink RX2 68 yX2_gained, Cond.static yX2_gained, Cond.code yX2_gained cX2_gained 4 (some .int), Cond.methodLink RX2 72 yJ9_floorDiv_7cf53, Cond.static yJ9_floorDiv_7cf53]
def wsL_law0_r10 : List Cond := [Cond.initialized RJ9, Cond.code yJ9_floorDiv_7cf53 cJ9_floorDiv_7cf53 3 (some .int), Cond.methodLink RL 87 yX3_level, Cond.instanceMethod yX3_level, Cond.selects RX3 yX3_level yX3_level, Cond.code yX3_level cX3_level 2 (some .int), Cond.methodLink RL 90 yX3_wanted, Cond.instanceMethod yX3_wanted, Cond.selects RX3 yX3_wanted yX3_wanted, Cond.code yX3_wanted cX3_wanted 2 (some .int), Cond.methodLink RL 92 yX3_wantedByCues, Cond.instanceMethod yX3_wantedByCues, Cond.selects RX3 yX3_wantedByCues yX3_wantedByCues, Cond.code yX3_wantedByCues cX3_wantedByCues 2 (some .int), Cond.methodLink RL 95 yX3_bulb, Cond.instanceMethod yX3_bulb, Cond.selects RX3 yX3_bulb yX3_bulb, Cond.code yX3_bulb cX3_bulb 2 (some .boolean), Cond.methodLink RL 116 yX3_tour, Cond.instanceMethod yX3_tour, Cond.selects RX3 yX3_tour yX3_tour, Cond.code yX3_tour cX3_tour 1 (some .int), Cond.instanceMethod yX1_changeHouse, Cond.selects RX1 yX1_changeHouse yX1_changeHouse]
def wsL_law0_r11 : List Cond := [Cond.code yX1_changeHouse cX1_changeHouse 3 (some .int), Cond.methodLink RX1 59 yX1_hangAgain, Cond.instanceMethod yX1_hangAgain, Cond.selects RX1 yX1_hangAgain yX1_hangAgain, Cond.code yX1_hangAgain cX1_hangAgain 4 (some .boolean), Cond.methodLink RX1 63 yX1_hasBar, Cond.methodLink RX1 67 yX1_bears, Cond.methodLink RX1 70 yX1_nearestPlace, Cond.instanceMethod yX1_nearestPlace, Cond.selects RX1 yX1_nearestPlace yX1_nearestPlace, Cond.code yX1_nearestPlace cX1_nearestPlace 5 (some .int), Cond.methodLink RX1 78 yX1_hasPlace, Cond.methodLink RX1 81 yX1_isClear, Cond.methodLink RX1 74 yX1_put, Cond.methodLink RL 119 yL_has, Cond.static yL_has, Cond.code yL_has cL_has 1 (some .int), Cond.methodLink RL 122 yL_set, Cond.static yL_set, Cond.codeWith yL_set cL_set 6 (some .int) [(0, 49, 50, 36), (0, 49, 55, 38), (0, 49, 60, 40)], Cond.methodLink RL 49 yX3_patch, Cond.instanceMethod yX3_patch, Cond.selects RX3 yX3_patch yX3_patch, Cond.code yX3_patch cX3_patch 3 (some .int)]
def wsL_law0_r12 : List Cond := [Cond.instanceMethod yX0_countDoubles, Cond.selects RX0 yX0_countDoubles yX0_countDoubles, Cond.code yX0_countDoubles cX0_countDoubles 3 (some .int), Cond.methodLink RX0 30 yX0_countHolders, Cond.instanceMethod yX0_countHolders, Cond.selects RX0 yX0_countHolders yX0_countHolders, Cond.code yX0_countHolders cX0_countHolders 5 (some .int), Cond.methodLink RL 52 yX3_name, Cond.instanceMethod yX3_name, Cond.selects RX3 yX3_name yX3_name, Cond.code yX3_name cX3_name 6 (some .int), Cond.static yX2_cell, Cond.code yX2_cell cX2_cell 2 (some .int), Cond.methodLink RL 55 yX3_colour, Cond.instanceMethod yX3_colour, Cond.selects RX3 yX3_colour yX3_colour, Cond.code yX3_colour cX3_colour 4 (some .int), Cond.methodLink RL 58 yX3_standIn, Cond.instanceMethod yX3_standIn, Cond.selects RX3 yX3_standIn yX3_standIn, Cond.code yX3_standIn cX3_standIn 3 (some .int), Cond.instanceMethod yX2_handOver, Cond.selects RX2 yX2_handOver yX2_handOver, Cond.code yX2_handOver cX2_handOver 6 (some .int)]
def wsL_law0_r13 : List Cond := [Cond.methodLink RX2 56 yX2_cell, Cond.methodLink RL 155 yL_plays, Cond.static yL_plays, Cond.code yL_plays cL_plays 15 (some .boolean), Cond.methodLink RL 125 yL_begins, Cond.static yL_begins, Cond.code yL_begins cL_begins 7 (some .int), Cond.methodLink RL 129 yL_goes, Cond.static yL_goes, Cond.codeWith yL_goes cL_goes 2 (some .int) [(0, 4, 5, 40)], Cond.methodLink RL 61 yX3_go, Cond.instanceMethod yX3_go, Cond.selects RX3 yX3_go yX3_go, Cond.code yX3_go cX3_go 1 (some .int), Cond.instanceMethod yX2_beginNext, Cond.selects RX2 yX2_beginNext yX2_beginNext, Cond.code yX2_beginNext cX2_beginNext 3 (some .int), Cond.methodLink RX2 52 yX2_begin, Cond.instanceMethod yX2_begin, Cond.selects RX2 yX2_begin yX2_begin, Cond.code yX2_begin cX2_begin 4 none, Cond.methodLink RX2 60 yX2_wantedLevel, Cond.methodLink RL 133 yL_level, Cond.static yL_level]
def wsL_law0_r14 : List Cond := [Cond.code yL_level cL_level 4 (some .int), Cond.methodLink RL 23 yL_wanted, Cond.static yL_wanted, Cond.code yL_wanted cL_wanted 9 (some .int), Cond.methodLink RL 19 yL_fade, Cond.static yL_fade, Cond.code yL_fade cL_fade 5 (some .int), Cond.methodLink RL 136 yL_ticks, Cond.static yL_ticks, Cond.codeWith yL_ticks cL_ticks 4 (some .int) [(0, 17, 18, 38)], Cond.methodLink RL 65 yX3_tick, Cond.instanceMethod yX3_tick, Cond.selects RX3 yX3_tick yX3_tick, Cond.code yX3_tick cX3_tick 4 (some .int), Cond.instanceMethod yX2_advance, Cond.selects RX2 yX2_advance yX2_advance, Cond.code yX2_advance cX2_advance 1 (some .int), Cond.methodLink RX2 64 yX2_beginNext, Cond.methodLink RX3 182 yX3_burnColours, Cond.instanceMethod yX3_burnColours, Cond.selects RX3 yX3_burnColours yX3_burnColours, Cond.code yX3_burnColours cX3_burnColours 2 none, Cond.methodLink RL 68 yX3_gap, Cond.instanceMethod yX3_gap]
def wsL_law0_r15 : List Cond := [Cond.selects RX3 yX3_gap yX3_gap, Cond.code yX3_gap cX3_gap 2 (some .int), Cond.instanceMethod yX0_lowestGap, Cond.selects RX0 yX0_lowestGap yX0_lowestGap, Cond.code yX0_lowestGap cX0_lowestGap 4 (some .int), Cond.methodLink RL 140 yX3_rewind, Cond.instanceMethod yX3_rewind, Cond.selects RX3 yX3_rewind yX3_rewind, Cond.code yX3_rewind cX3_rewind 1 (some .int), Cond.instanceMethod yX2_reset, Cond.selects RX2 yX2_reset yX2_reset, Cond.code yX2_reset cX2_reset 2 (some .int), Cond.methodLink RL 159 yL_asks, Cond.static yL_asks, Cond.code yL_asks cL_asks 15 (some .boolean), Cond.methodLink RL 143 yX3_burnt, Cond.instanceMethod yX3_burnt, Cond.selects RX3 yX3_burnt yX3_burnt, Cond.code yX3_burnt cX3_burnt 3 (some .int)]
def wsL_law0 : List Cond := (wsL_law0_r1 ++ (wsL_law0_r2 ++ (wsL_law0_r3 ++ (wsL_law0_r4 ++ (wsL_law0_r5 ++ (wsL_law0_r6 ++ (wsL_law0_r7 ++ (wsL_law0_r8 ++ (wsL_law0_r9 ++ (wsL_law0_r10 ++ (wsL_law0_r11 ++ (wsL_law0_r12 ++ (wsL_law0_r13 ++ (wsL_law0_r14 ++ wsL_law0_r15)))))))))))))) ++ wsX30 ++ wsX10 ++ wsX00 ++ wsX20 ++ ([] : List Cond)
def wsL_law : List Cond := wsL_law0 ++ (vx_atS RX3 49 "java/lang/IndexOutOfBoundsException" ["java/lang/RuntimeException", "java/lang/Exception"]).filter goodWord ++ (vx_atS RX3 63 "java/lang/IllegalStateException" ["java/lang/RuntimeException", "java/lang/Exception"]).filter goodWord ++ (vx_atS RX3 195 "java/lang/IllegalArgumentException" ["java/lang/RuntimeException", "java/lang/Exception"]).filter goodWord
theorem inlX0 : ∀ w ∈ wsX00, w ∈ wsL_law := fun _ h => List.mem_append_left _ (List.mem_append_left _ (List.mem_append_left _ (List.mem_append_left _ (List.mem_append_left _ (List.mem_append_right _ h)))))
theorem inlX1 : ∀ w ∈ wsX10, w ∈ wsL_law := fun _ h => List.mem_append_left _ (List.mem_append_left _ (List.mem_append_left _ (List.mem_append_left _ (List.mem_append_left _ (List.mem_append_left _ (List.mem_append_right _ h))))))
theorem inlX2 : ∀ w ∈ wsX20, w ∈ wsL_law := fun _ h => List.mem_append_left _ (List.mem_append_left _ (List.mem_append_left _ (List.mem_append_left _ (List.mem_append_right _ h))))
theorem inlX3 : ∀ w ∈ wsX30, w ∈ wsL_law := fun _ h => List.mem_append_left _ (List.mem_append_left _ (List.mem_append_left _ (List.mem_append_left _ (List.mem_append_left _ (List.mem_append_left _ (List.mem_append_left _ (List.mem_append_right _ h)))))))
set_option maxRecDepth 20000 in
theorem ggX0_init_J7_fill_53178 : GoodIn wsX0_init wsJ7_fill_53178 := goodIn_r _ [12] (by decide +kernel) (by decide +kernel)
set_option maxRecDepth 20000 in
theorem gX0_init_J7_fill_53178 : GoodIn wsX0_init (va_wsS RX0 15 yJ7_fill_53178 wsJ7_fill_53178) := goodIn_app (goodIn_of _ (by decide +kernel)) ggX0_init_J7_fill_53178
theorem dX0_init_0 : decode cX0_init 0 = .ok (.aload_n 0, 1) := by decide +kernel
theorem dX0_init_1 : decode cX0_init 1 = .ok (.invokespecial 3, 3) := by decide +kernel
theorem dX0_init_4 : decode cX0_init 4 = .ok (.aload_n 0, 1) := by decide +kernel
theorem dX0_init_5 : decode cX0_init 5 = .ok (.bipush 10, 2) := by decide +kernel
theorem dX0_init_7 : decode cX0_init 7 = .ok (.newarray .int, 2) := by decide +kernel
theorem dX0_init_9 : decode cX0_init 9 = .ok (.putfield 9, 3) := by decide +kernel
theorem dX0_init_12 : decode cX0_init 12 = .ok (.aload_n 0, 1) := by decide +kernel
theorem dX0_init_13 : decode cX0_init 13 = .ok (.getfield 9, 3) := by decide +kernel
theorem dX0_init_16 : decode cX0_init 16 = .ok (.iconst (-1), 1) := by decide +kernel
theorem dX0_init_17 : decode cX0_init 17 = .ok (.invokestatic 15, 3) := by decide +kernel
theorem dX0_init_20 : decode cX0_init 20 = .ok (.aload_n 0, 1) := by decide +kernel
theorem dX0_init_21 : decode cX0_init 21 = .ok (.bipush 10, 2) := by decide +kernel
theorem dX0_init_23 : decode cX0_init 23 = .ok (.newarray .int, 2) := by decide +kernel
theorem dX0_init_25 : decode cX0_init 25 = .ok (.putfield 21, 3) := by decide +kernel
theorem dX0_init_28 : decode cX0_init 28 = .ok (.aload_n 0, 1) := by decide +kernel
theorem dX0_init_29 : decode cX0_init 29 = .ok (.bipush 10, 2) := by decide +kernel
theorem dX0_init_31 : decode cX0_init 31 = .ok (.newarray .int, 2) := by decide +kernel
theorem dX0_init_33 : decode cX0_init 33 = .ok (.putfield 24, 3) := by decide +kernel
theorem dX0_init_36 : decode cX0_init 36 = .ok (.aload_n 0, 1) := by decide +kernel
theorem dX0_init_37 : decode cX0_init 37 = .ok (.getfield 24, 3) := by decide +kernel
theorem dX0_init_40 : decode cX0_init 40 = .ok (.iconst (-1), 1) := by decide +kernel
theorem dX0_init_41 : decode cX0_init 41 = .ok (.invokestatic 15, 3) := by decide +kernel
theorem dX0_init_44 : decode cX0_init 44 = .ok (.aload_n 0, 1) := by decide +kernel
theorem dX0_init_45 : decode cX0_init 45 = .ok (.bipush 10, 2) := by decide +kernel
theorem dX0_init_47 : decode cX0_init 47 = .ok (.newarray .int, 2) := by decide +kernel
theorem dX0_init_49 : decode cX0_init 49 = .ok (.putfield 27, 3) := by decide +kernel
theorem dX0_init_52 : decode cX0_init 52 = .ok (.return_, 1) := by decide +kernel
theorem dX0_countHolders_0 : decode cX0_countHolders 0 = .ok (.iconst 0, 1) := by decide +kernel
theorem dX0_countHolders_1 : decode cX0_countHolders 1 = .ok (.istore_n 2, 1) := by decide +kernel
theorem dX0_countHolders_2 : decode cX0_countHolders 2 = .ok (.iconst 0, 1) := by decide +kernel
theorem dX0_countHolders_3 : decode cX0_countHolders 3 = .ok (.istore_n 3, 1) := by decide +kernel
theorem dX0_countHolders_4 : decode cX0_countHolders 4 = .ok (.iload_n 3, 1) := by decide +kernel
theorem dX0_countHolders_5 : decode cX0_countHolders 5 = .ok (.bipush 10, 2) := by decide +kernel
theorem dX0_countHolders_7 : decode cX0_countHolders 7 = .ok (.if_icmp .ge 45, 3) := by decide +kernel
theorem dX0_countHolders_10 : decode cX0_countHolders 10 = .ok (.aload_n 0, 1) := by decide +kernel
theorem dX0_countHolders_11 : decode cX0_countHolders 11 = .ok (.getfield 9, 3) := by decide +kernel
theorem dX0_countHolders_14 : decode cX0_countHolders 14 = .ok (.iload_n 3, 1) := by decide +kernel
theorem dX0_countHolders_15 : decode cX0_countHolders 15 = .ok (.iaload, 1) := by decide +kernel
theorem dX0_countHolders_16 : decode cX0_countHolders 16 = .ok (.istore 4, 2) := by decide +kernel
theorem dX0_countHolders_18 : decode cX0_countHolders 18 = .ok (.iload 4, 2) := by decide +kernel
theorem dX0_countHolders_20 : decode cX0_countHolders 20 = .ok (.iconst (-1), 1) := by decide +kernel
theorem dX0_countHolders_21 : decode cX0_countHolders 21 = .ok (.if_icmp .eq 25, 3) := by decide +kernel
theorem dX0_countHolders_24 : decode cX0_countHolders 24 = .ok (.iload 4, 2) := by decide +kernel
theorem dX0_countHolders_26 : decode cX0_countHolders 26 = .ok (.iload_n 1, 1) := by decide +kernel
theorem dX0_countHolders_27 : decode cX0_countHolders 27 = .ok (.if_icmp .gt 19, 3) := by decide +kernel
theorem dX0_countHolders_30 : decode cX0_countHolders 30 = .ok (.iload_n 1, 1) := by decide +kernel
theorem dX0_countHolders_31 : decode cX0_countHolders 31 = .ok (.iload 4, 2) := by decide +kernel
theorem dX0_countHolders_33 : decode cX0_countHolders 33 = .ok (.aload_n 0, 1) := by decide +kernel
theorem dX0_countHolders_34 : decode cX0_countHolders 34 = .ok (.getfield 21, 3) := by decide +kernel
theorem dX0_countHolders_37 : decode cX0_countHolders 37 = .ok (.iload_n 3, 1) := by decide +kernel
theorem dX0_countHolders_38 : decode cX0_countHolders 38 = .ok (.iaload, 1) := by decide +kernel
theorem dX0_countHolders_39 : decode cX0_countHolders 39 = .ok (.iadd, 1) := by decide +kernel
theorem dX0_countHolders_40 : decode cX0_countHolders 40 = .ok (.if_icmp .ge 6, 3) := by decide +kernel
theorem dX0_countHolders_43 : decode cX0_countHolders 43 = .ok (.iinc 2 1, 3) := by decide +kernel
theorem dX0_countHolders_46 : decode cX0_countHolders 46 = .ok (.iinc 3 1, 3) := by decide +kernel
theorem dX0_countHolders_49 : decode cX0_countHolders 49 = .ok (.goto (-45), 3) := by decide +kernel
theorem dX0_countHolders_52 : decode cX0_countHolders 52 = .ok (.iload_n 2, 1) := by decide +kernel
theorem dX0_countHolders_53 : decode cX0_countHolders 53 = .ok (.ireturn, 1) := by decide +kernel
set_option maxRecDepth 20000 in
theorem ggX0_countDoubles_X0_countHolders : GoodIn wsX0_countDoubles wsX0_countHolders := goodIn_r _ [5, 6, 7, 8, 9, 10, 11] (by decide +kernel) (by decide +kernel)
set_option maxRecDepth 20000 in
theorem gX0_countDoubles_X0_countHolders : GoodIn wsX0_countDoubles (wsV RX0 30 RX0 yX0_countHolders wsX0_countHolders) := goodIn_app (goodIn_of _ (by decide +kernel)) ggX0_countDoubles_X0_countHolders
theorem dX0_countDoubles_0 : decode cX0_countDoubles 0 = .ok (.iconst 0, 1) := by decide +kernel
theorem dX0_countDoubles_1 : decode cX0_countDoubles 1 = .ok (.istore_n 1, 1) := by decide +kernel
theorem dX0_countDoubles_2 : decode cX0_countDoubles 2 = .ok (.iconst 0, 1) := by decide +kernel
theorem dX0_countDoubles_3 : decode cX0_countDoubles 3 = .ok (.istore_n 2, 1) := by decide +kernel
theorem dX0_countDoubles_4 : decode cX0_countDoubles 4 = .ok (.iload_n 2, 1) := by decide +kernel
theorem dX0_countDoubles_5 : decode cX0_countDoubles 5 = .ok (.bipush 100, 2) := by decide +kernel
theorem dX0_countDoubles_7 : decode cX0_countDoubles 7 = .ok (.if_icmp .ge 21, 3) := by decide +kernel
theorem dX0_countDoubles_10 : decode cX0_countDoubles 10 = .ok (.aload_n 0, 1) := by decide +kernel
theorem dX0_countDoubles_11 : decode cX0_countDoubles 11 = .ok (.iload_n 2, 1) := by decide +kernel
theorem dX0_countDoubles_12 : decode cX0_countDoubles 12 = .ok (.invokevirtual 30, 3) := by decide +kernel
theorem dX0_countDoubles_15 : decode cX0_countDoubles 15 = .ok (.iconst 1, 1) := by decide +kernel
theorem dX0_countDoubles_16 : decode cX0_countDoubles 16 = .ok (.if_icmp .le 6, 3) := by decide +kernel
theorem dX0_countDoubles_19 : decode cX0_countDoubles 19 = .ok (.iinc 1 1, 3) := by decide +kernel
theorem dX0_countDoubles_22 : decode cX0_countDoubles 22 = .ok (.iinc 2 1, 3) := by decide +kernel
theorem dX0_countDoubles_25 : decode cX0_countDoubles 25 = .ok (.goto (-21), 3) := by decide +kernel
theorem dX0_countDoubles_28 : decode cX0_countDoubles 28 = .ok (.iload_n 1, 1) := by decide +kernel
theorem dX0_countDoubles_29 : decode cX0_countDoubles 29 = .ok (.ireturn, 1) := by decide +kernel
set_option maxRecDepth 20000 in
theorem ggX0_lowestGap_X0_countHolders : GoodIn wsX0_lowestGap wsX0_countHolders := goodIn_r _ [5, 6, 7, 8, 9, 10, 11] (by decide +kernel) (by decide +kernel)
set_option maxRecDepth 20000 in
theorem gX0_lowestGap_X0_countHolders : GoodIn wsX0_lowestGap (wsV RX0 30 RX0 yX0_countHolders wsX0_countHolders) := goodIn_app (goodIn_of _ (by decide +kernel)) ggX0_lowestGap_X0_countHolders
theorem dX0_lowestGap_0 : decode cX0_lowestGap 0 = .ok (.iconst 0, 1) := by decide +kernel
theorem dX0_lowestGap_1 : decode cX0_lowestGap 1 = .ok (.istore_n 2, 1) := by decide +kernel
theorem dX0_lowestGap_2 : decode cX0_lowestGap 2 = .ok (.iconst 0, 1) := by decide +kernel
theorem dX0_lowestGap_3 : decode cX0_lowestGap 3 = .ok (.istore_n 3, 1) := by decide +kernel
theorem dX0_lowestGap_4 : decode cX0_lowestGap 4 = .ok (.iload_n 3, 1) := by decide +kernel
theorem dX0_lowestGap_5 : decode cX0_lowestGap 5 = .ok (.bipush 100, 2) := by decide +kernel
theorem dX0_lowestGap_7 : decode cX0_lowestGap 7 = .ok (.if_icmp .ge 36, 3) := by decide +kernel
theorem dX0_lowestGap_10 : decode cX0_lowestGap 10 = .ok (.aload_n 0, 1) := by decide +kernel
theorem dX0_lowestGap_11 : decode cX0_lowestGap 11 = .ok (.iload_n 3, 1) := by decide +kernel
theorem dX0_lowestGap_12 : decode cX0_lowestGap 12 = .ok (.invokevirtual 30, 3) := by decide +kernel
theorem dX0_lowestGap_15 : decode cX0_lowestGap 15 = .ok (.ifCond .ne 9, 3) := by decide +kernel
theorem dX0_lowestGap_18 : decode cX0_lowestGap 18 = .ok (.iload_n 2, 1) := by decide +kernel
theorem dX0_lowestGap_19 : decode cX0_lowestGap 19 = .ok (.iconst 1, 1) := by decide +kernel
theorem dX0_lowestGap_20 : decode cX0_lowestGap 20 = .ok (.iadd, 1) := by decide +kernel
theorem dX0_lowestGap_21 : decode cX0_lowestGap 21 = .ok (.goto 4, 3) := by decide +kernel
theorem dX0_lowestGap_24 : decode cX0_lowestGap 24 = .ok (.iconst 0, 1) := by decide +kernel
theorem dX0_lowestGap_25 : decode cX0_lowestGap 25 = .ok (.istore_n 2, 1) := by decide +kernel
theorem dX0_lowestGap_26 : decode cX0_lowestGap 26 = .ok (.iload_n 2, 1) := by decide +kernel
theorem dX0_lowestGap_27 : decode cX0_lowestGap 27 = .ok (.iload_n 1, 1) := by decide +kernel
theorem dX0_lowestGap_28 : decode cX0_lowestGap 28 = .ok (.if_icmp .ne 9, 3) := by decide +kernel
theorem dX0_lowestGap_31 : decode cX0_lowestGap 31 = .ok (.iload_n 3, 1) := by decide +kernel
theorem dX0_lowestGap_32 : decode cX0_lowestGap 32 = .ok (.iload_n 1, 1) := by decide +kernel
theorem dX0_lowestGap_33 : decode cX0_lowestGap 33 = .ok (.isub, 1) := by decide +kernel
theorem dX0_lowestGap_34 : decode cX0_lowestGap 34 = .ok (.iconst 1, 1) := by decide +kernel
theorem dX0_lowestGap_35 : decode cX0_lowestGap 35 = .ok (.iadd, 1) := by decide +kernel
theorem dX0_lowestGap_36 : decode cX0_lowestGap 36 = .ok (.ireturn, 1) := by decide +kernel
theorem dX0_lowestGap_37 : decode cX0_lowestGap 37 = .ok (.iinc 3 1, 3) := by decide +kernel
theorem dX0_lowestGap_40 : decode cX0_lowestGap 40 = .ok (.goto (-36), 3) := by decide +kernel
theorem dX0_lowestGap_43 : decode cX0_lowestGap 43 = .ok (.iconst (-1), 1) := by decide +kernel
theorem dX0_lowestGap_44 : decode cX0_lowestGap 44 = .ok (.ireturn, 1) := by decide +kernel
set_option maxRecDepth 20000 in
theorem ggX1_init_J7_fill_53178 : GoodIn wsX1_init wsJ7_fill_53178 := goodIn_r _ [16] (by decide +kernel) (by decide +kernel)
set_option maxRecDepth 20000 in
theorem gX1_init_J7_fill_53178 : GoodIn wsX1_init (va_wsS RX1 31 yJ7_fill_53178 wsJ7_fill_53178) := goodIn_app (goodIn_of _ (by decide +kernel)) ggX1_init_J7_fill_53178
theorem dX1_init_0 : decode cX1_init 0 = .ok (.aload_n 0, 1) := by decide +kernel
theorem dX1_init_1 : decode cX1_init 1 = .ok (.invokespecial 3, 3) := by decide +kernel
theorem dX1_init_4 : decode cX1_init 4 = .ok (.aload_n 0, 1) := by decide +kernel
theorem dX1_init_5 : decode cX1_init 5 = .ok (.iconst 0, 1) := by decide +kernel
theorem dX1_init_6 : decode cX1_init 6 = .ok (.putfield 9, 3) := by decide +kernel
theorem dX1_init_9 : decode cX1_init 9 = .ok (.aload_n 0, 1) := by decide +kernel
theorem dX1_init_10 : decode cX1_init 10 = .ok (.iconst 2, 1) := by decide +kernel
theorem dX1_init_11 : decode cX1_init 11 = .ok (.newarray .int, 2) := by decide +kernel
theorem dX1_init_13 : decode cX1_init 13 = .ok (.putfield 15, 3) := by decide +kernel
theorem dX1_init_16 : decode cX1_init 16 = .ok (.aload_n 0, 1) := by decide +kernel
theorem dX1_init_17 : decode cX1_init 17 = .ok (.bipush 8, 2) := by decide +kernel
theorem dX1_init_19 : decode cX1_init 19 = .ok (.newarray .int, 2) := by decide +kernel
theorem dX1_init_21 : decode cX1_init 21 = .ok (.putfield 19, 3) := by decide +kernel
theorem dX1_init_24 : decode cX1_init 24 = .ok (.aload_n 0, 1) := by decide +kernel
theorem dX1_init_25 : decode cX1_init 25 = .ok (.bipush 8, 2) := by decide +kernel
theorem dX1_init_27 : decode cX1_init 27 = .ok (.newarray .int, 2) := by decide +kernel
theorem dX1_init_29 : decode cX1_init 29 = .ok (.putfield 22, 3) := by decide +kernel
theorem dX1_init_32 : decode cX1_init 32 = .ok (.aload_n 0, 1) := by decide +kernel
theorem dX1_init_33 : decode cX1_init 33 = .ok (.bipush 10, 2) := by decide +kernel
theorem dX1_init_35 : decode cX1_init 35 = .ok (.newarray .int, 2) := by decide +kernel
theorem dX1_init_37 : decode cX1_init 37 = .ok (.putfield 25, 3) := by decide +kernel
theorem dX1_init_40 : decode cX1_init 40 = .ok (.aload_n 0, 1) := by decide +kernel
theorem dX1_init_41 : decode cX1_init 41 = .ok (.bipush 10, 2) := by decide +kernel
theorem dX1_init_43 : decode cX1_init 43 = .ok (.newarray .int, 2) := by decide +kernel
theorem dX1_init_45 : decode cX1_init 45 = .ok (.putfield 28, 3) := by decide +kernel
theorem dX1_init_48 : decode cX1_init 48 = .ok (.aload_n 0, 1) := by decide +kernel
theorem dX1_init_49 : decode cX1_init 49 = .ok (.getfield 28, 3) := by decide +kernel
theorem dX1_init_52 : decode cX1_init 52 = .ok (.iconst (-1), 1) := by decide +kernel
theorem dX1_init_53 : decode cX1_init 53 = .ok (.invokestatic 31, 3) := by decide +kernel
theorem dX1_init_56 : decode cX1_init 56 = .ok (.aload_n 0, 1) := by decide +kernel
theorem dX1_init_57 : decode cX1_init 57 = .ok (.bipush 10, 2) := by decide +kernel
theorem dX1_init_59 : decode cX1_init 59 = .ok (.newarray .int, 2) := by decide +kernel
theorem dX1_init_61 : decode cX1_init 61 = .ok (.putfield 37, 3) := by decide +kernel
theorem dX1_init_64 : decode cX1_init 64 = .ok (.aload_n 0, 1) := by decide +kernel
theorem dX1_init_65 : decode cX1_init 65 = .ok (.bipush 10, 2) := by decide +kernel
theorem dX1_init_67 : decode cX1_init 67 = .ok (.newarray .int, 2) := by decide +kernel
theorem dX1_init_69 : decode cX1_init 69 = .ok (.putfield 40, 3) := by decide +kernel
theorem dX1_init_72 : decode cX1_init 72 = .ok (.return_, 1) := by decide +kernel
theorem dX1_cell_0 : decode cX1_cell 0 = .ok (.iload_n 0, 1) := by decide +kernel
theorem dX1_cell_1 : decode cX1_cell 1 = .ok (.iconst 4, 1) := by decide +kernel
theorem dX1_cell_2 : decode cX1_cell 2 = .ok (.imul, 1) := by decide +kernel
theorem dX1_cell_3 : decode cX1_cell 3 = .ok (.iload_n 1, 1) := by decide +kernel
theorem dX1_cell_4 : decode cX1_cell 4 = .ok (.iadd, 1) := by decide +kernel
theorem dX1_cell_5 : decode cX1_cell 5 = .ok (.ireturn, 1) := by decide +kernel
set_option maxRecDepth 20000 in
theorem ggX1_addBar_X1_cell : GoodIn wsX1_addBar wsX1_cell := goodIn_r _ [7] (by decide +kernel) (by decide +kernel)
set_option maxRecDepth 20000 in
theorem gX1_addBar_X1_cell : GoodIn wsX1_addBar (va_wsS RX1 43 yX1_cell wsX1_cell) := goodIn_app (goodIn_of _ (by decide +kernel)) ggX1_addBar_X1_cell
theorem dX1_addBar_0 : decode cX1_addBar 0 = .ok (.aload_n 0, 1) := by decide +kernel
theorem dX1_addBar_1 : decode cX1_addBar 1 = .ok (.getfield 15, 3) := by decide +kernel
theorem dX1_addBar_4 : decode cX1_addBar 4 = .ok (.iload_n 1, 1) := by decide +kernel
theorem dX1_addBar_5 : decode cX1_addBar 5 = .ok (.iaload, 1) := by decide +kernel
theorem dX1_addBar_6 : decode cX1_addBar 6 = .ok (.istore 4, 2) := by decide +kernel
theorem dX1_addBar_8 : decode cX1_addBar 8 = .ok (.aload_n 0, 1) := by decide +kernel
theorem dX1_addBar_9 : decode cX1_addBar 9 = .ok (.getfield 15, 3) := by decide +kernel
theorem dX1_addBar_12 : decode cX1_addBar 12 = .ok (.iload_n 1, 1) := by decide +kernel
theorem dX1_addBar_13 : decode cX1_addBar 13 = .ok (.dup2, 1) := by decide +kernel
theorem dX1_addBar_14 : decode cX1_addBar 14 = .ok (.iaload, 1) := by decide +kernel
theorem dX1_addBar_15 : decode cX1_addBar 15 = .ok (.iconst 1, 1) := by decide +kernel
theorem dX1_addBar_16 : decode cX1_addBar 16 = .ok (.iadd, 1) := by decide +kernel
theorem dX1_addBar_17 : decode cX1_addBar 17 = .ok (.iastore, 1) := by decide +kernel
theorem dX1_addBar_18 : decode cX1_addBar 18 = .ok (.aload_n 0, 1) := by decide +kernel
theorem dX1_addBar_19 : decode cX1_addBar 19 = .ok (.getfield 19, 3) := by decide +kernel
theorem dX1_addBar_22 : decode cX1_addBar 22 = .ok (.iload_n 1, 1) := by decide +kernel
theorem dX1_addBar_23 : decode cX1_addBar 23 = .ok (.iload 4, 2) := by decide +kernel
theorem dX1_addBar_25 : decode cX1_addBar 25 = .ok (.invokestatic 43, 3) := by decide +kernel
theorem dX1_addBar_28 : decode cX1_addBar 28 = .ok (.iload_n 2, 1) := by decide +kernel
theorem dX1_addBar_29 : decode cX1_addBar 29 = .ok (.iastore, 1) := by decide +kernel
theorem dX1_addBar_30 : decode cX1_addBar 30 = .ok (.aload_n 0, 1) := by decide +kernel
theorem dX1_addBar_31 : decode cX1_addBar 31 = .ok (.getfield 22, 3) := by decide +kernel
theorem dX1_addBar_34 : decode cX1_addBar 34 = .ok (.iload_n 1, 1) := by decide +kernel
theorem dX1_addBar_35 : decode cX1_addBar 35 = .ok (.iload 4, 2) := by decide +kernel
theorem dX1_addBar_37 : decode cX1_addBar 37 = .ok (.invokestatic 43, 3) := by decide +kernel
theorem dX1_addBar_40 : decode cX1_addBar 40 = .ok (.iload_n 3, 1) := by decide +kernel
theorem dX1_addBar_41 : decode cX1_addBar 41 = .ok (.iastore, 1) := by decide +kernel
theorem dX1_addBar_42 : decode cX1_addBar 42 = .ok (.iload 4, 2) := by decide +kernel
theorem dX1_addBar_44 : decode cX1_addBar 44 = .ok (.ireturn, 1) := by decide +kernel
theorem dX1_hasBar_0 : decode cX1_hasBar 0 = .ok (.iload_n 1, 1) := by decide +kernel
theorem dX1_hasBar_1 : decode cX1_hasBar 1 = .ok (.ifCond .lt 20, 3) := by decide +kernel
theorem dX1_hasBar_4 : decode cX1_hasBar 4 = .ok (.iload_n 1, 1) := by decide +kernel
theorem dX1_hasBar_5 : decode cX1_hasBar 5 = .ok (.aload_n 0, 1) := by decide +kernel
theorem dX1_hasBar_6 : decode cX1_hasBar 6 = .ok (.getfield 15, 3) := by decide +kernel
theorem dX1_hasBar_9 : decode cX1_hasBar 9 = .ok (.aload_n 0, 1) := by decide +kernel
theorem dX1_hasBar_10 : decode cX1_hasBar 10 = .ok (.getfield 9, 3) := by decide +kernel
theorem dX1_hasBar_13 : decode cX1_hasBar 13 = .ok (.iaload, 1) := by decide +kernel
theorem dX1_hasBar_14 : decode cX1_hasBar 14 = .ok (.if_icmp .ge 7, 3) := by decide +kernel
theorem dX1_hasBar_17 : decode cX1_hasBar 17 = .ok (.iconst 1, 1) := by decide +kernel
theorem dX1_hasBar_18 : decode cX1_hasBar 18 = .ok (.goto 4, 3) := by decide +kernel
theorem dX1_hasBar_21 : decode cX1_hasBar 21 = .ok (.iconst 0, 1) := by decide +kernel
theorem dX1_hasBar_22 : decode cX1_hasBar 22 = .ok (.ireturn, 1) := by decide +kernel
set_option maxRecDepth 20000 in
theorem ggX1_hasPlace_X1_cell : GoodIn wsX1_hasPlace wsX1_cell := goodIn_r _ [6] (by decide +kernel) (by decide +kernel)
set_option maxRecDepth 20000 in
theorem gX1_hasPlace_X1_cell : GoodIn wsX1_hasPlace (va_wsS RX1 43 yX1_cell wsX1_cell) := goodIn_app (goodIn_of _ (by decide +kernel)) ggX1_hasPlace_X1_cell
theorem dX1_hasPlace_0 : decode cX1_hasPlace 0 = .ok (.iload_n 2, 1) := by decide +kernel
theorem dX1_hasPlace_1 : decode cX1_hasPlace 1 = .ok (.ifCond .lt 24, 3) := by decide +kernel
theorem dX1_hasPlace_4 : decode cX1_hasPlace 4 = .ok (.iload_n 2, 1) := by decide +kernel
theorem dX1_hasPlace_5 : decode cX1_hasPlace 5 = .ok (.aload_n 0, 1) := by decide +kernel
theorem dX1_hasPlace_6 : decode cX1_hasPlace 6 = .ok (.getfield 19, 3) := by decide +kernel
theorem dX1_hasPlace_9 : decode cX1_hasPlace 9 = .ok (.aload_n 0, 1) := by decide +kernel
theorem dX1_hasPlace_10 : decode cX1_hasPlace 10 = .ok (.getfield 9, 3) := by decide +kernel
theorem dX1_hasPlace_13 : decode cX1_hasPlace 13 = .ok (.iload_n 1, 1) := by decide +kernel
theorem dX1_hasPlace_14 : decode cX1_hasPlace 14 = .ok (.invokestatic 43, 3) := by decide +kernel
theorem dX1_hasPlace_17 : decode cX1_hasPlace 17 = .ok (.iaload, 1) := by decide +kernel
theorem dX1_hasPlace_18 : decode cX1_hasPlace 18 = .ok (.if_icmp .gt 7, 3) := by decide +kernel
theorem dX1_hasPlace_21 : decode cX1_hasPlace 21 = .ok (.iconst 1, 1) := by decide +kernel
theorem dX1_hasPlace_22 : decode cX1_hasPlace 22 = .ok (.goto 4, 3) := by decide +kernel
theorem dX1_hasPlace_25 : decode cX1_hasPlace 25 = .ok (.iconst 0, 1) := by decide +kernel
theorem dX1_hasPlace_26 : decode cX1_hasPlace 26 = .ok (.ireturn, 1) := by decide +kernel
theorem dX1_hangs_0 : decode cX1_hangs 0 = .ok (.aload_n 0, 1) := by decide +kernel
theorem dX1_hangs_1 : decode cX1_hangs 1 = .ok (.getfield 28, 3) := by decide +kernel
theorem dX1_hangs_4 : decode cX1_hangs 4 = .ok (.iload_n 1, 1) := by decide +kernel
theorem dX1_hangs_5 : decode cX1_hangs 5 = .ok (.iaload, 1) := by decide +kernel
theorem dX1_hangs_6 : decode cX1_hangs 6 = .ok (.iconst (-1), 1) := by decide +kernel
theorem dX1_hangs_7 : decode cX1_hangs 7 = .ok (.if_icmp .eq 7, 3) := by decide +kernel
theorem dX1_hangs_10 : decode cX1_hangs 10 = .ok (.iconst 1, 1) := by decide +kernel
theorem dX1_hangs_11 : decode cX1_hangs 11 = .ok (.goto 4, 3) := by decide +kernel
theorem dX1_hangs_14 : decode cX1_hangs 14 = .ok (.iconst 0, 1) := by decide +kernel
theorem dX1_hangs_15 : decode cX1_hangs 15 = .ok (.ireturn, 1) := by decide +kernel
theorem dX1_put_0 : decode cX1_put 0 = .ok (.aload_n 0, 1) := by decide +kernel
theorem dX1_put_1 : decode cX1_put 1 = .ok (.getfield 28, 3) := by decide +kernel
theorem dX1_put_4 : decode cX1_put 4 = .ok (.iload_n 1, 1) := by decide +kernel
theorem dX1_put_5 : decode cX1_put 5 = .ok (.iload_n 2, 1) := by decide +kernel
theorem dX1_put_6 : decode cX1_put 6 = .ok (.iastore, 1) := by decide +kernel
theorem dX1_put_7 : decode cX1_put 7 = .ok (.aload_n 0, 1) := by decide +kernel
theorem dX1_put_8 : decode cX1_put 8 = .ok (.getfield 40, 3) := by decide +kernel
theorem dX1_put_11 : decode cX1_put 11 = .ok (.iload_n 1, 1) := by decide +kernel
theorem dX1_put_12 : decode cX1_put 12 = .ok (.iload_n 3, 1) := by decide +kernel
theorem dX1_put_13 : decode cX1_put 13 = .ok (.iastore, 1) := by decide +kernel
theorem dX1_put_14 : decode cX1_put 14 = .ok (.return_, 1) := by decide +kernel
theorem dX1_weightOn_0 : decode cX1_weightOn 0 = .ok (.iconst 0, 1) := by decide +kernel
theorem dX1_weightOn_1 : decode cX1_weightOn 1 = .ok (.istore_n 2, 1) := by decide +kernel
theorem dX1_weightOn_2 : decode cX1_weightOn 2 = .ok (.iconst 0, 1) := by decide +kernel
theorem dX1_weightOn_3 : decode cX1_weightOn 3 = .ok (.istore_n 3, 1) := by decide +kernel
theorem dX1_weightOn_4 : decode cX1_weightOn 4 = .ok (.iload_n 3, 1) := by decide +kernel
theorem dX1_weightOn_5 : decode cX1_weightOn 5 = .ok (.bipush 10, 2) := by decide +kernel
theorem dX1_weightOn_7 : decode cX1_weightOn 7 = .ok (.if_icmp .ge 28, 3) := by decide +kernel
theorem dX1_weightOn_10 : decode cX1_weightOn 10 = .ok (.aload_n 0, 1) := by decide +kernel
theorem dX1_weightOn_11 : decode cX1_weightOn 11 = .ok (.getfield 28, 3) := by decide +kernel
theorem dX1_weightOn_14 : decode cX1_weightOn 14 = .ok (.iload_n 3, 1) := by decide +kernel
theorem dX1_weightOn_15 : decode cX1_weightOn 15 = .ok (.iaload, 1) := by decide +kernel
theorem dX1_weightOn_16 : decode cX1_weightOn 16 = .ok (.iload_n 1, 1) := by decide +kernel
theorem dX1_weightOn_17 : decode cX1_weightOn 17 = .ok (.if_icmp .ne 12, 3) := by decide +kernel
theorem dX1_weightOn_20 : decode cX1_weightOn 20 = .ok (.iload_n 2, 1) := by decide +kernel
theorem dX1_weightOn_21 : decode cX1_weightOn 21 = .ok (.aload_n 0, 1) := by decide +kernel
theorem dX1_weightOn_22 : decode cX1_weightOn 22 = .ok (.getfield 25, 3) := by decide +kernel
theorem dX1_weightOn_25 : decode cX1_weightOn 25 = .ok (.iload_n 3, 1) := by decide +kernel
theorem dX1_weightOn_26 : decode cX1_weightOn 26 = .ok (.iaload, 1) := by decide +kernel
theorem dX1_weightOn_27 : decode cX1_weightOn 27 = .ok (.iadd, 1) := by decide +kernel
theorem dX1_weightOn_28 : decode cX1_weightOn 28 = .ok (.istore_n 2, 1) := by decide +kernel
theorem dX1_weightOn_29 : decode cX1_weightOn 29 = .ok (.iinc 3 1, 3) := by decide +kernel
theorem dX1_weightOn_32 : decode cX1_weightOn 32 = .ok (.goto (-28), 3) := by decide +kernel
theorem dX1_weightOn_35 : decode cX1_weightOn 35 = .ok (.iload_n 2, 1) := by decide +kernel
theorem dX1_weightOn_36 : decode cX1_weightOn 36 = .ok (.ireturn, 1) := by decide +kernel
set_option maxRecDepth 20000 in
theorem ggX1_bears_X1_weightOn : GoodIn wsX1_bears wsX1_weightOn := goodIn_r _ [9, 1, 2, 13, 14, 15, 16, 17, 18, 19, 20] (by decide +kernel) (by decide +kernel)
set_option maxRecDepth 20000 in
theorem gX1_bears_X1_weightOn : GoodIn wsX1_bears (wsV RX1 47 RX1 yX1_weightOn wsX1_weightOn) := goodIn_app (goodIn_of _ (by decide +kernel)) ggX1_bears_X1_weightOn
set_option maxRecDepth 20000 in
theorem ggX1_bears_X1_cell : GoodIn wsX1_bears wsX1_cell := goodIn_r _ [12] (by decide +kernel) (by decide +kernel)
set_option maxRecDepth 20000 in
theorem gX1_bears_X1_cell : GoodIn wsX1_bears (va_wsS RX1 43 yX1_cell wsX1_cell) := goodIn_app (goodIn_of _ (by decide +kernel)) ggX1_bears_X1_cell
theorem dX1_bears_0 : decode cX1_bears 0 = .ok (.aload_n 0, 1) := by decide +kernel
theorem dX1_bears_1 : decode cX1_bears 1 = .ok (.iload_n 2, 1) := by decide +kernel
theorem dX1_bears_2 : decode cX1_bears 2 = .ok (.invokevirtual 47, 3) := by decide +kernel
theorem dX1_bears_5 : decode cX1_bears 5 = .ok (.aload_n 0, 1) := by decide +kernel
theorem dX1_bears_6 : decode cX1_bears 6 = .ok (.getfield 28, 3) := by decide +kernel
theorem dX1_bears_9 : decode cX1_bears 9 = .ok (.iload_n 1, 1) := by decide +kernel
theorem dX1_bears_10 : decode cX1_bears 10 = .ok (.iaload, 1) := by decide +kernel
theorem dX1_bears_11 : decode cX1_bears 11 = .ok (.iload_n 2, 1) := by decide +kernel
theorem dX1_bears_12 : decode cX1_bears 12 = .ok (.if_icmp .ne 12, 3) := by decide +kernel
theorem dX1_bears_15 : decode cX1_bears 15 = .ok (.aload_n 0, 1) := by decide +kernel
theorem dX1_bears_16 : decode cX1_bears 16 = .ok (.getfield 25, 3) := by decide +kernel
theorem dX1_bears_19 : decode cX1_bears 19 = .ok (.iload_n 1, 1) := by decide +kernel
theorem dX1_bears_20 : decode cX1_bears 20 = .ok (.iaload, 1) := by decide +kernel
theorem dX1_bears_21 : decode cX1_bears 21 = .ok (.goto 4, 3) := by decide +kernel
theorem dX1_bears_24 : decode cX1_bears 24 = .ok (.iconst 0, 1) := by decide +kernel
theorem dX1_bears_25 : decode cX1_bears 25 = .ok (.isub, 1) := by decide +kernel
theorem dX1_bears_26 : decode cX1_bears 26 = .ok (.istore_n 3, 1) := by decide +kernel
theorem dX1_bears_27 : decode cX1_bears 27 = .ok (.iload_n 3, 1) := by decide +kernel
theorem dX1_bears_28 : decode cX1_bears 28 = .ok (.aload_n 0, 1) := by decide +kernel
theorem dX1_bears_29 : decode cX1_bears 29 = .ok (.getfield 25, 3) := by decide +kernel
theorem dX1_bears_32 : decode cX1_bears 32 = .ok (.iload_n 1, 1) := by decide +kernel
theorem dX1_bears_33 : decode cX1_bears 33 = .ok (.iaload, 1) := by decide +kernel
theorem dX1_bears_34 : decode cX1_bears 34 = .ok (.iadd, 1) := by decide +kernel
theorem dX1_bears_35 : decode cX1_bears 35 = .ok (.aload_n 0, 1) := by decide +kernel
theorem dX1_bears_36 : decode cX1_bears 36 = .ok (.getfield 22, 3) := by decide +kernel
theorem dX1_bears_39 : decode cX1_bears 39 = .ok (.aload_n 0, 1) := by decide +kernel
theorem dX1_bears_40 : decode cX1_bears 40 = .ok (.getfield 9, 3) := by decide +kernel
theorem dX1_bears_43 : decode cX1_bears 43 = .ok (.iload_n 2, 1) := by decide +kernel
theorem dX1_bears_44 : decode cX1_bears 44 = .ok (.invokestatic 43, 3) := by decide +kernel
theorem dX1_bears_47 : decode cX1_bears 47 = .ok (.iaload, 1) := by decide +kernel
theorem dX1_bears_48 : decode cX1_bears 48 = .ok (.if_icmp .gt 7, 3) := by decide +kernel
theorem dX1_bears_51 : decode cX1_bears 51 = .ok (.iconst 1, 1) := by decide +kernel
theorem dX1_bears_52 : decode cX1_bears 52 = .ok (.goto 4, 3) := by decide +kernel
theorem dX1_bears_55 : decode cX1_bears 55 = .ok (.iconst 0, 1) := by decide +kernel
theorem dX1_bears_56 : decode cX1_bears 56 = .ok (.ireturn, 1) := by decide +kernel
theorem dX1_isClear_0 : decode cX1_isClear 0 = .ok (.iconst 0, 1) := by decide +kernel
theorem dX1_isClear_1 : decode cX1_isClear 1 = .ok (.istore 4, 2) := by decide +kernel
theorem dX1_isClear_3 : decode cX1_isClear 3 = .ok (.iload 4, 2) := by decide +kernel
theorem dX1_isClear_5 : decode cX1_isClear 5 = .ok (.bipush 10, 2) := by decide +kernel
theorem dX1_isClear_7 : decode cX1_isClear 7 = .ok (.if_icmp .ge 44, 3) := by decide +kernel
theorem dX1_isClear_10 : decode cX1_isClear 10 = .ok (.iload 4, 2) := by decide +kernel
theorem dX1_isClear_12 : decode cX1_isClear 12 = .ok (.iload_n 1, 1) := by decide +kernel
theorem dX1_isClear_13 : decode cX1_isClear 13 = .ok (.if_icmp .eq 32, 3) := by decide +kernel
theorem dX1_isClear_16 : decode cX1_isClear 16 = .ok (.aload_n 0, 1) := by decide +kernel
theorem dX1_isClear_17 : decode cX1_isClear 17 = .ok (.getfield 28, 3) := by decide +kernel
theorem dX1_isClear_20 : decode cX1_isClear 20 = .ok (.iload 4, 2) := by decide +kernel
theorem dX1_isClear_22 : decode cX1_isClear 22 = .ok (.iaload, 1) := by decide +kernel
theorem dX1_isClear_23 : decode cX1_isClear 23 = .ok (.iload_n 2, 1) := by decide +kernel
theorem dX1_isClear_24 : decode cX1_isClear 24 = .ok (.if_icmp .ne 21, 3) := by decide +kernel
theorem dX1_isClear_27 : decode cX1_isClear 27 = .ok (.aload_n 0, 1) := by decide +kernel
theorem dX1_isClear_28 : decode cX1_isClear 28 = .ok (.getfield 40, 3) := by decide +kernel
theorem dX1_isClear_31 : decode cX1_isClear 31 = .ok (.iload 4, 2) := by decide +kernel
theorem dX1_isClear_33 : decode cX1_isClear 33 = .ok (.iaload, 1) := by decide +kernel
theorem dX1_isClear_34 : decode cX1_isClear 34 = .ok (.iload_n 3, 1) := by decide +kernel
theorem dX1_isClear_35 : decode cX1_isClear 35 = .ok (.isub, 1) := by decide +kernel
theorem dX1_isClear_36 : decode cX1_isClear 36 = .ok (.invokestatic 51, 3) := by decide +kernel
theorem dX1_isClear_39 : decode cX1_isClear 39 = .ok (.iconst 3, 1) := by decide +kernel
theorem dX1_isClear_40 : decode cX1_isClear 40 = .ok (.if_icmp .ge 5, 3) := by decide +kernel
theorem dX1_isClear_43 : decode cX1_isClear 43 = .ok (.iconst 0, 1) := by decide +kernel
theorem dX1_isClear_44 : decode cX1_isClear 44 = .ok (.ireturn, 1) := by decide +kernel
theorem dX1_isClear_45 : decode cX1_isClear 45 = .ok (.iinc 4 1, 3) := by decide +kernel
theorem dX1_isClear_48 : decode cX1_isClear 48 = .ok (.goto (-45), 3) := by decide +kernel
theorem dX1_isClear_51 : decode cX1_isClear 51 = .ok (.iconst 1, 1) := by decide +kernel
theorem dX1_isClear_52 : decode cX1_isClear 52 = .ok (.ireturn, 1) := by decide +kernel
set_option maxRecDepth 20000 in
theorem ggX1_ranked_X1_countBelow : GoodIn wsX1_ranked wsX1_countBelow := goodIn_r _ [7, 1, 2, 8, 9, 10, 11, 12, 13, 14, 15] (by decide +kernel) (by decide +kernel)
set_option maxRecDepth 20000 in
theorem gX1_ranked_X1_countBelow : GoodIn wsX1_ranked (wsV RX1 56 RX1 yX1_countBelow wsX1_countBelow) := goodIn_app (goodIn_of _ (by decide +kernel)) ggX1_ranked_X1_countBelow
theorem dX1_ranked_0 : decode cX1_ranked 0 = .ok (.iconst 0, 1) := by decide +kernel
theorem dX1_ranked_1 : decode cX1_ranked 1 = .ok (.istore_n 3, 1) := by decide +kernel
theorem dX1_ranked_2 : decode cX1_ranked 2 = .ok (.iload_n 3, 1) := by decide +kernel
theorem dX1_ranked_3 : decode cX1_ranked 3 = .ok (.bipush 10, 2) := by decide +kernel
theorem dX1_ranked_5 : decode cX1_ranked 5 = .ok (.if_icmp .ge 36, 3) := by decide +kernel
theorem dX1_ranked_8 : decode cX1_ranked 8 = .ok (.aload_n 0, 1) := by decide +kernel
theorem dX1_ranked_9 : decode cX1_ranked 9 = .ok (.getfield 28, 3) := by decide +kernel
theorem dX1_ranked_12 : decode cX1_ranked 12 = .ok (.iload_n 3, 1) := by decide +kernel
theorem dX1_ranked_13 : decode cX1_ranked 13 = .ok (.iaload, 1) := by decide +kernel
theorem dX1_ranked_14 : decode cX1_ranked 14 = .ok (.iload_n 1, 1) := by decide +kernel
theorem dX1_ranked_15 : decode cX1_ranked 15 = .ok (.if_icmp .ne 20, 3) := by decide +kernel
theorem dX1_ranked_18 : decode cX1_ranked 18 = .ok (.aload_n 0, 1) := by decide +kernel
theorem dX1_ranked_19 : decode cX1_ranked 19 = .ok (.iload_n 1, 1) := by decide +kernel
theorem dX1_ranked_20 : decode cX1_ranked 20 = .ok (.aload_n 0, 1) := by decide +kernel
theorem dX1_ranked_21 : decode cX1_ranked 21 = .ok (.getfield 40, 3) := by decide +kernel
theorem dX1_ranked_24 : decode cX1_ranked 24 = .ok (.iload_n 3, 1) := by decide +kernel
theorem dX1_ranked_25 : decode cX1_ranked 25 = .ok (.iaload, 1) := by decide +kernel
theorem dX1_ranked_26 : decode cX1_ranked 26 = .ok (.invokevirtual 56, 3) := by decide +kernel
theorem dX1_ranked_29 : decode cX1_ranked 29 = .ok (.iload_n 2, 1) := by decide +kernel
theorem dX1_ranked_30 : decode cX1_ranked 30 = .ok (.if_icmp .ne 5, 3) := by decide +kernel
theorem dX1_ranked_33 : decode cX1_ranked 33 = .ok (.iload_n 3, 1) := by decide +kernel
theorem dX1_ranked_34 : decode cX1_ranked 34 = .ok (.ireturn, 1) := by decide +kernel
theorem dX1_ranked_35 : decode cX1_ranked 35 = .ok (.iinc 3 1, 3) := by decide +kernel
theorem dX1_ranked_38 : decode cX1_ranked 38 = .ok (.goto (-36), 3) := by decide +kernel
theorem dX1_ranked_41 : decode cX1_ranked 41 = .ok (.iconst (-1), 1) := by decide +kernel
theorem dX1_ranked_42 : decode cX1_ranked 42 = .ok (.ireturn, 1) := by decide +kernel
theorem dX1_countBelow_0 : decode cX1_countBelow 0 = .ok (.iconst 0, 1) := by decide +kernel
theorem dX1_countBelow_1 : decode cX1_countBelow 1 = .ok (.istore_n 3, 1) := by decide +kernel
theorem dX1_countBelow_2 : decode cX1_countBelow 2 = .ok (.iconst 0, 1) := by decide +kernel
theorem dX1_countBelow_3 : decode cX1_countBelow 3 = .ok (.istore 4, 2) := by decide +kernel
theorem dX1_countBelow_5 : decode cX1_countBelow 5 = .ok (.iload 4, 2) := by decide +kernel
theorem dX1_countBelow_7 : decode cX1_countBelow 7 = .ok (.bipush 10, 2) := by decide +kernel
theorem dX1_countBelow_9 : decode cX1_countBelow 9 = .ok (.if_icmp .ge 34, 3) := by decide +kernel
theorem dX1_countBelow_12 : decode cX1_countBelow 12 = .ok (.aload_n 0, 1) := by decide +kernel
theorem dX1_countBelow_13 : decode cX1_countBelow 13 = .ok (.getfield 28, 3) := by decide +kernel
theorem dX1_countBelow_16 : decode cX1_countBelow 16 = .ok (.iload 4, 2) := by decide +kernel
theorem dX1_countBelow_18 : decode cX1_countBelow 18 = .ok (.iaload, 1) := by decide +kernel
theorem dX1_countBelow_19 : decode cX1_countBelow 19 = .ok (.iload_n 1, 1) := by decide +kernel
theorem dX1_countBelow_20 : decode cX1_countBelow 20 = .ok (.if_icmp .ne 17, 3) := by decide +kernel
theorem dX1_countBelow_23 : decode cX1_countBelow 23 = .ok (.aload_n 0, 1) := by decide +kernel
theorem dX1_countBelow_24 : decode cX1_countBelow 24 = .ok (.getfield 40, 3) := by decide +kernel
theorem dX1_countBelow_27 : decode cX1_countBelow 27 = .ok (.iload 4, 2) := by decide +kernel
theorem dX1_countBelow_29 : decode cX1_countBelow 29 = .ok (.iaload, 1) := by decide +kernel
theorem dX1_countBelow_30 : decode cX1_countBelow 30 = .ok (.iload_n 2, 1) := by decide +kernel
theorem dX1_countBelow_31 : decode cX1_countBelow 31 = .ok (.if_icmp .ge 6, 3) := by decide +kernel
theorem dX1_countBelow_34 : decode cX1_countBelow 34 = .ok (.iinc 3 1, 3) := by decide +kernel
theorem dX1_countBelow_37 : decode cX1_countBelow 37 = .ok (.iinc 4 1, 3) := by decide +kernel
theorem dX1_countBelow_40 : decode cX1_countBelow 40 = .ok (.goto (-35), 3) := by decide +kernel
theorem dX1_countBelow_43 : decode cX1_countBelow 43 = .ok (.iload_n 3, 1) := by decide +kernel
theorem dX1_countBelow_44 : decode cX1_countBelow 44 = .ok (.ireturn, 1) := by decide +kernel
set_option maxRecDepth 20000 in
theorem ggX1_changeHouse_X1_hangAgain : GoodIn wsX1_changeHouse wsX1_hangAgain := goodIn_r _ [8, 9, 10, 11, 12, 7, 13, 14, 3, 15, 16, 17, 18, 2, 19, 20, 21, 22, 23, 24, 25, 26, 27, 28, 29, 30, 31, 32, 33, 34, 35, 36, 37, 38, 39, 40, 41, 42, 43, 44, 45, 46, 47, 48, 49, 50, 51, 52, 53, 54, 55, 56] (by decide +kernel) (by decide +kernel)
set_option maxRecDepth 20000 in
theorem gX1_changeHouse_X1_hangAgain : GoodIn wsX1_changeHouse (wsV RX1 59 RX1 yX1_hangAgain wsX1_hangAgain) := goodIn_app (goodIn_of _ (by decide +kernel)) ggX1_changeHouse_X1_hangAgain
theorem dX1_changeHouse_0 : decode cX1_changeHouse 0 = .ok (.iconst 0, 1) := by decide +kernel
theorem dX1_changeHouse_1 : decode cX1_changeHouse 1 = .ok (.istore_n 1, 1) := by decide +kernel
theorem dX1_changeHouse_2 : decode cX1_changeHouse 2 = .ok (.iload_n 1, 1) := by decide +kernel
theorem dX1_changeHouse_3 : decode cX1_changeHouse 3 = .ok (.bipush 10, 2) := by decide +kernel
theorem dX1_changeHouse_5 : decode cX1_changeHouse 5 = .ok (.if_icmp .ge 28, 3) := by decide +kernel
theorem dX1_changeHouse_8 : decode cX1_changeHouse 8 = .ok (.aload_n 0, 1) := by decide +kernel
theorem dX1_changeHouse_9 : decode cX1_changeHouse 9 = .ok (.getfield 37, 3) := by decide +kernel
theorem dX1_changeHouse_12 : decode cX1_changeHouse 12 = .ok (.iload_n 1, 1) := by decide +kernel
theorem dX1_changeHouse_13 : decode cX1_changeHouse 13 = .ok (.aload_n 0, 1) := by decide +kernel
theorem dX1_changeHouse_14 : decode cX1_changeHouse 14 = .ok (.getfield 28, 3) := by decide +kernel
theorem dX1_changeHouse_17 : decode cX1_changeHouse 17 = .ok (.iload_n 1, 1) := by decide +kernel
theorem dX1_changeHouse_18 : decode cX1_changeHouse 18 = .ok (.iaload, 1) := by decide +kernel
theorem dX1_changeHouse_19 : decode cX1_changeHouse 19 = .ok (.iastore, 1) := by decide +kernel
theorem dX1_changeHouse_20 : decode cX1_changeHouse 20 = .ok (.aload_n 0, 1) := by decide +kernel
theorem dX1_changeHouse_21 : decode cX1_changeHouse 21 = .ok (.getfield 28, 3) := by decide +kernel
theorem dX1_changeHouse_24 : decode cX1_changeHouse 24 = .ok (.iload_n 1, 1) := by decide +kernel
theorem dX1_changeHouse_25 : decode cX1_changeHouse 25 = .ok (.iconst (-1), 1) := by decide +kernel
theorem dX1_changeHouse_26 : decode cX1_changeHouse 26 = .ok (.iastore, 1) := by decide +kernel
theorem dX1_changeHouse_27 : decode cX1_changeHouse 27 = .ok (.iinc 1 1, 3) := by decide +kernel
theorem dX1_changeHouse_30 : decode cX1_changeHouse 30 = .ok (.goto (-28), 3) := by decide +kernel
theorem dX1_changeHouse_33 : decode cX1_changeHouse 33 = .ok (.aload_n 0, 1) := by decide +kernel
theorem dX1_changeHouse_34 : decode cX1_changeHouse 34 = .ok (.aload_n 0, 1) := by decide +kernel
theorem dX1_changeHouse_35 : decode cX1_changeHouse 35 = .ok (.getfield 9, 3) := by decide +kernel
theorem dX1_changeHouse_38 : decode cX1_changeHouse 38 = .ok (.ifCond .ne 7, 3) := by decide +kernel
theorem dX1_changeHouse_41 : decode cX1_changeHouse 41 = .ok (.iconst 1, 1) := by decide +kernel
theorem dX1_changeHouse_42 : decode cX1_changeHouse 42 = .ok (.goto 4, 3) := by decide +kernel
theorem dX1_changeHouse_45 : decode cX1_changeHouse 45 = .ok (.iconst 0, 1) := by decide +kernel
theorem dX1_changeHouse_46 : decode cX1_changeHouse 46 = .ok (.putfield 9, 3) := by decide +kernel
theorem dX1_changeHouse_49 : decode cX1_changeHouse 49 = .ok (.iconst 0, 1) := by decide +kernel
theorem dX1_changeHouse_50 : decode cX1_changeHouse 50 = .ok (.istore_n 1, 1) := by decide +kernel
theorem dX1_changeHouse_51 : decode cX1_changeHouse 51 = .ok (.iconst 0, 1) := by decide +kernel
theorem dX1_changeHouse_52 : decode cX1_changeHouse 52 = .ok (.istore_n 2, 1) := by decide +kernel
theorem dX1_changeHouse_53 : decode cX1_changeHouse 53 = .ok (.iload_n 2, 1) := by decide +kernel
theorem dX1_changeHouse_54 : decode cX1_changeHouse 54 = .ok (.bipush 10, 2) := by decide +kernel
theorem dX1_changeHouse_56 : decode cX1_changeHouse 56 = .ok (.if_icmp .ge 36, 3) := by decide +kernel
theorem dX1_changeHouse_59 : decode cX1_changeHouse 59 = .ok (.aload_n 0, 1) := by decide +kernel
theorem dX1_changeHouse_60 : decode cX1_changeHouse 60 = .ok (.getfield 37, 3) := by decide +kernel
theorem dX1_changeHouse_63 : decode cX1_changeHouse 63 = .ok (.iload_n 2, 1) := by decide +kernel
theorem dX1_changeHouse_64 : decode cX1_changeHouse 64 = .ok (.iaload, 1) := by decide +kernel
theorem dX1_changeHouse_65 : decode cX1_changeHouse 65 = .ok (.iconst (-1), 1) := by decide +kernel
theorem dX1_changeHouse_66 : decode cX1_changeHouse 66 = .ok (.if_icmp .eq 20, 3) := by decide +kernel
theorem dX1_changeHouse_69 : decode cX1_changeHouse 69 = .ok (.aload_n 0, 1) := by decide +kernel
theorem dX1_changeHouse_70 : decode cX1_changeHouse 70 = .ok (.iload_n 2, 1) := by decide +kernel
theorem dX1_changeHouse_71 : decode cX1_changeHouse 71 = .ok (.aload_n 0, 1) := by decide +kernel
theorem dX1_changeHouse_72 : decode cX1_changeHouse 72 = .ok (.getfield 37, 3) := by decide +kernel
theorem dX1_changeHouse_75 : decode cX1_changeHouse 75 = .ok (.iload_n 2, 1) := by decide +kernel
theorem dX1_changeHouse_76 : decode cX1_changeHouse 76 = .ok (.iaload, 1) := by decide +kernel
theorem dX1_changeHouse_77 : decode cX1_changeHouse 77 = .ok (.invokevirtual 59, 3) := by decide +kernel
theorem dX1_changeHouse_80 : decode cX1_changeHouse 80 = .ok (.ifCond .ne 6, 3) := by decide +kernel
theorem dX1_changeHouse_83 : decode cX1_changeHouse 83 = .ok (.iinc 1 1, 3) := by decide +kernel
theorem dX1_changeHouse_86 : decode cX1_changeHouse 86 = .ok (.iinc 2 1, 3) := by decide +kernel
theorem dX1_changeHouse_89 : decode cX1_changeHouse 89 = .ok (.goto (-36), 3) := by decide +kernel
theorem dX1_changeHouse_92 : decode cX1_changeHouse 92 = .ok (.iload_n 1, 1) := by decide +kernel
theorem dX1_changeHouse_93 : decode cX1_changeHouse 93 = .ok (.ireturn, 1) := by decide +kernel
set_option maxRecDepth 20000 in
theorem ggX1_hangAgain_X1_hasBar : GoodIn wsX1_hangAgain wsX1_hasBar := goodIn_r _ [6, 7, 8, 44, 45, 46, 47, 48, 49, 50, 51] (by decide +kernel) (by decide +kernel)
set_option maxRecDepth 20000 in
theorem gX1_hangAgain_X1_hasBar : GoodIn wsX1_hangAgain (wsV RX1 63 RX1 yX1_hasBar wsX1_hasBar) := goodIn_app (goodIn_of _ (by decide +kernel)) ggX1_hangAgain_X1_hasBar
set_option maxRecDepth 20000 in
theorem ggX1_hangAgain_X1_bears : GoodIn wsX1_hangAgain wsX1_bears := goodIn_r _ [12, 13, 14, 15, 8, 16, 17, 18, 5, 19, 20, 21, 22, 44, 45, 46, 47, 48, 49, 50, 51] (by decide +kernel) (by decide +kernel)
set_option maxRecDepth 20000 in
theorem gX1_hangAgain_X1_bears : GoodIn wsX1_hangAgain (wsV RX1 67 RX1 yX1_bears wsX1_bears) := goodIn_app (goodIn_of _ (by decide +kernel)) ggX1_hangAgain_X1_bears
set_option maxRecDepth 20000 in
theorem ggX1_hangAgain_X1_nearestPlace : GoodIn wsX1_hangAgain wsX1_nearestPlace := goodIn_r _ [26, 27, 28, 29, 5, 30, 31, 8, 20, 21, 22, 32, 33, 34, 35, 13, 1, 36, 37, 38, 39, 44, 45, 46, 47, 48, 49, 50, 51] (by decide +kernel) (by decide +kernel)
set_option maxRecDepth 20000 in
theorem gX1_hangAgain_X1_nearestPlace : GoodIn wsX1_hangAgain (wsV RX1 70 RX1 yX1_nearestPlace wsX1_nearestPlace) := goodIn_app (goodIn_of _ (by decide +kernel)) ggX1_hangAgain_X1_nearestPlace
set_option maxRecDepth 20000 in
theorem ggX1_hangAgain_X1_put : GoodIn wsX1_hangAgain wsX1_put := goodIn_r _ [43, 13, 1, 44, 45, 46, 47, 48, 49, 50, 51] (by decide +kernel) (by decide +kernel)
set_option maxRecDepth 20000 in
theorem gX1_hangAgain_X1_put : GoodIn wsX1_hangAgain (wsV RX1 74 RX1 yX1_put wsX1_put) := goodIn_app (goodIn_of _ (by decide +kernel)) ggX1_hangAgain_X1_put
theorem dX1_hangAgain_0 : decode cX1_hangAgain 0 = .ok (.aload_n 0, 1) := by decide +kernel
theorem dX1_hangAgain_1 : decode cX1_hangAgain 1 = .ok (.iload_n 2, 1) := by decide +kernel
theorem dX1_hangAgain_2 : decode cX1_hangAgain 2 = .ok (.invokevirtual 63, 3) := by decide +kernel
theorem dX1_hangAgain_5 : decode cX1_hangAgain 5 = .ok (.ifCond .eq 12, 3) := by decide +kernel
theorem dX1_hangAgain_8 : decode cX1_hangAgain 8 = .ok (.aload_n 0, 1) := by decide +kernel
theorem dX1_hangAgain_9 : decode cX1_hangAgain 9 = .ok (.iload_n 1, 1) := by decide +kernel
theorem dX1_hangAgain_10 : decode cX1_hangAgain 10 = .ok (.iload_n 2, 1) := by decide +kernel
theorem dX1_hangAgain_11 : decode cX1_hangAgain 11 = .ok (.invokevirtual 67, 3) := by decide +kernel
theorem dX1_hangAgain_14 : decode cX1_hangAgain 14 = .ok (.ifCond .ne 5, 3) := by decide +kernel
theorem dX1_hangAgain_17 : decode cX1_hangAgain 17 = .ok (.iconst 0, 1) := by decide +kernel
theorem dX1_hangAgain_18 : decode cX1_hangAgain 18 = .ok (.ireturn, 1) := by decide +kernel
theorem dX1_hangAgain_19 : decode cX1_hangAgain 19 = .ok (.aload_n 0, 1) := by decide +kernel
theorem dX1_hangAgain_20 : decode cX1_hangAgain 20 = .ok (.iload_n 1, 1) := by decide +kernel
theorem dX1_hangAgain_21 : decode cX1_hangAgain 21 = .ok (.iload_n 2, 1) := by decide +kernel
theorem dX1_hangAgain_22 : decode cX1_hangAgain 22 = .ok (.aload_n 0, 1) := by decide +kernel
theorem dX1_hangAgain_23 : decode cX1_hangAgain 23 = .ok (.getfield 40, 3) := by decide +kernel
theorem dX1_hangAgain_26 : decode cX1_hangAgain 26 = .ok (.iload_n 1, 1) := by decide +kernel
theorem dX1_hangAgain_27 : decode cX1_hangAgain 27 = .ok (.iaload, 1) := by decide +kernel
theorem dX1_hangAgain_28 : decode cX1_hangAgain 28 = .ok (.invokevirtual 70, 3) := by decide +kernel
theorem dX1_hangAgain_31 : decode cX1_hangAgain 31 = .ok (.istore_n 3, 1) := by decide +kernel
theorem dX1_hangAgain_32 : decode cX1_hangAgain 32 = .ok (.iload_n 3, 1) := by decide +kernel
theorem dX1_hangAgain_33 : decode cX1_hangAgain 33 = .ok (.iconst (-1), 1) := by decide +kernel
theorem dX1_hangAgain_34 : decode cX1_hangAgain 34 = .ok (.if_icmp .ne 5, 3) := by decide +kernel
theorem dX1_hangAgain_37 : decode cX1_hangAgain 37 = .ok (.iconst 0, 1) := by decide +kernel
theorem dX1_hangAgain_38 : decode cX1_hangAgain 38 = .ok (.ireturn, 1) := by decide +kernel
theorem dX1_hangAgain_39 : decode cX1_hangAgain 39 = .ok (.aload_n 0, 1) := by decide +kernel
theorem dX1_hangAgain_40 : decode cX1_hangAgain 40 = .ok (.iload_n 1, 1) := by decide +kernel
theorem dX1_hangAgain_41 : decode cX1_hangAgain 41 = .ok (.iload_n 2, 1) := by decide +kernel
theorem dX1_hangAgain_42 : decode cX1_hangAgain 42 = .ok (.iload_n 3, 1) := by decide +kernel
theorem dX1_hangAgain_43 : decode cX1_hangAgain 43 = .ok (.invokevirtual 74, 3) := by decide +kernel
theorem dX1_hangAgain_46 : decode cX1_hangAgain 46 = .ok (.iconst 1, 1) := by decide +kernel
theorem dX1_hangAgain_47 : decode cX1_hangAgain 47 = .ok (.ireturn, 1) := by decide +kernel
set_option maxRecDepth 20000 in
theorem ggX1_nearestPlace_X1_hasPlace : GoodIn wsX1_nearestPlace wsX1_hasPlace := goodIn_r _ [5, 6, 7, 8, 9, 4, 10, 21, 22, 23, 24, 25, 26, 27, 28] (by decide +kernel) (by decide +kernel)
set_option maxRecDepth 20000 in
theorem gX1_nearestPlace_X1_hasPlace : GoodIn wsX1_nearestPlace (wsV RX1 78 RX1 yX1_hasPlace wsX1_hasPlace) := goodIn_app (goodIn_of _ (by decide +kernel)) ggX1_nearestPlace_X1_hasPlace
set_option maxRecDepth 20000 in
theorem ggX1_nearestPlace_X1_isClear : GoodIn wsX1_nearestPlace wsX1_isClear := goodIn_r _ [14, 15, 16, 17, 18, 19, 20, 21, 22, 23, 24, 25, 26, 27, 28] (by decide +kernel) (by decide +kernel)
set_option maxRecDepth 20000 in
theorem gX1_nearestPlace_X1_isClear : GoodIn wsX1_nearestPlace (wsV RX1 81 RX1 yX1_isClear wsX1_isClear) := goodIn_app (goodIn_of _ (by decide +kernel)) ggX1_nearestPlace_X1_isClear
theorem dX1_nearestPlace_0 : decode cX1_nearestPlace 0 = .ok (.iconst 0, 1) := by decide +kernel
theorem dX1_nearestPlace_1 : decode cX1_nearestPlace 1 = .ok (.istore 4, 2) := by decide +kernel
theorem dX1_nearestPlace_3 : decode cX1_nearestPlace 3 = .ok (.iload 4, 2) := by decide +kernel
theorem dX1_nearestPlace_5 : decode cX1_nearestPlace 5 = .ok (.bipush 100, 2) := by decide +kernel
theorem dX1_nearestPlace_7 : decode cX1_nearestPlace 7 = .ok (.if_icmp .gt 69, 3) := by decide +kernel
theorem dX1_nearestPlace_10 : decode cX1_nearestPlace 10 = .ok (.aload_n 0, 1) := by decide +kernel
theorem dX1_nearestPlace_11 : decode cX1_nearestPlace 11 = .ok (.iload_n 2, 1) := by decide +kernel
theorem dX1_nearestPlace_12 : decode cX1_nearestPlace 12 = .ok (.iload_n 3, 1) := by decide +kernel
theorem dX1_nearestPlace_13 : decode cX1_nearestPlace 13 = .ok (.iload 4, 2) := by decide +kernel
theorem dX1_nearestPlace_15 : decode cX1_nearestPlace 15 = .ok (.isub, 1) := by decide +kernel
theorem dX1_nearestPlace_16 : decode cX1_nearestPlace 16 = .ok (.invokevirtual 78, 3) := by decide +kernel
theorem dX1_nearestPlace_19 : decode cX1_nearestPlace 19 = .ok (.ifCond .eq 21, 3) := by decide +kernel
theorem dX1_nearestPlace_22 : decode cX1_nearestPlace 22 = .ok (.aload_n 0, 1) := by decide +kernel
theorem dX1_nearestPlace_23 : decode cX1_nearestPlace 23 = .ok (.iload_n 1, 1) := by decide +kernel
theorem dX1_nearestPlace_24 : decode cX1_nearestPlace 24 = .ok (.iload_n 2, 1) := by decide +kernel
theorem dX1_nearestPlace_25 : decode cX1_nearestPlace 25 = .ok (.iload_n 3, 1) := by decide +kernel
theorem dX1_nearestPlace_26 : decode cX1_nearestPlace 26 = .ok (.iload 4, 2) := by decide +kernel
theorem dX1_nearestPlace_28 : decode cX1_nearestPlace 28 = .ok (.isub, 1) := by decide +kernel
theorem dX1_nearestPlace_29 : decode cX1_nearestPlace 29 = .ok (.invokevirtual 81, 3) := by decide +kernel
theorem dX1_nearestPlace_32 : decode cX1_nearestPlace 32 = .ok (.ifCond .eq 8, 3) := by decide +kernel
theorem dX1_nearestPlace_35 : decode cX1_nearestPlace 35 = .ok (.iload_n 3, 1) := by decide +kernel
theorem dX1_nearestPlace_36 : decode cX1_nearestPlace 36 = .ok (.iload 4, 2) := by decide +kernel
theorem dX1_nearestPlace_38 : decode cX1_nearestPlace 38 = .ok (.isub, 1) := by decide +kernel
theorem dX1_nearestPlace_39 : decode cX1_nearestPlace 39 = .ok (.ireturn, 1) := by decide +kernel
theorem dX1_nearestPlace_40 : decode cX1_nearestPlace 40 = .ok (.aload_n 0, 1) := by decide +kernel
theorem dX1_nearestPlace_41 : decode cX1_nearestPlace 41 = .ok (.iload_n 2, 1) := by decide +kernel
theorem dX1_nearestPlace_42 : decode cX1_nearestPlace 42 = .ok (.iload_n 3, 1) := by decide +kernel
theorem dX1_nearestPlace_43 : decode cX1_nearestPlace 43 = .ok (.iload 4, 2) := by decide +kernel
theorem dX1_nearestPlace_45 : decode cX1_nearestPlace 45 = .ok (.iadd, 1) := by decide +kernel
theorem dX1_nearestPlace_46 : decode cX1_nearestPlace 46 = .ok (.invokevirtual 78, 3) := by decide +kernel
theorem dX1_nearestPlace_49 : decode cX1_nearestPlace 49 = .ok (.ifCond .eq 21, 3) := by decide +kernel
theorem dX1_nearestPlace_52 : decode cX1_nearestPlace 52 = .ok (.aload_n 0, 1) := by decide +kernel
theorem dX1_nearestPlace_53 : decode cX1_nearestPlace 53 = .ok (.iload_n 1, 1) := by decide +kernel
theorem dX1_nearestPlace_54 : decode cX1_nearestPlace 54 = .ok (.iload_n 2, 1) := by decide +kernel
theorem dX1_nearestPlace_55 : decode cX1_nearestPlace 55 = .ok (.iload_n 3, 1) := by decide +kernel
theorem dX1_nearestPlace_56 : decode cX1_nearestPlace 56 = .ok (.iload 4, 2) := by decide +kernel
theorem dX1_nearestPlace_58 : decode cX1_nearestPlace 58 = .ok (.iadd, 1) := by decide +kernel
theorem dX1_nearestPlace_59 : decode cX1_nearestPlace 59 = .ok (.invokevirtual 81, 3) := by decide +kernel
theorem dX1_nearestPlace_62 : decode cX1_nearestPlace 62 = .ok (.ifCond .eq 8, 3) := by decide +kernel
theorem dX1_nearestPlace_65 : decode cX1_nearestPlace 65 = .ok (.iload_n 3, 1) := by decide +kernel
theorem dX1_nearestPlace_66 : decode cX1_nearestPlace 66 = .ok (.iload 4, 2) := by decide +kernel
theorem dX1_nearestPlace_68 : decode cX1_nearestPlace 68 = .ok (.iadd, 1) := by decide +kernel
theorem dX1_nearestPlace_69 : decode cX1_nearestPlace 69 = .ok (.ireturn, 1) := by decide +kernel
