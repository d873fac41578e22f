def wsX5_doMeet_r2 : List Cond := [Cond.selects RX5 yX5_next yX5_next, Cond.code yX5_next cX5_next 3 (some .int), Cond.methodLink RX5 259 yX5_goNight, Cond.instanceMethod yX5_goNight, Cond.selects RX5 yX5_goNight yX5_goNight, Cond.code yX5_goNight cX5_goNight 2 none, Cond.fieldLink RX5 54 "NightPlotsModel" "way" "[I", Cond.fieldLink RX5 78 "NightPlotsModel" "houses" "I", Cond.methodLink RX5 253 yX5_goLot, Cond.instanceMethod yX5_goLot, Cond.selects RX5 yX5_goLot yX5_goLot, Cond.code yX5_goLot cX5_goLot 4 none, Cond.fieldLink RX5 225 "NightPlotsModel" "wayMany" "I", Cond.constant RX5 248 (65521), Cond.methodLink RX5 242 yX5_layWays, Cond.instanceMethod yX5_layWays, Cond.selects RX5 yX5_layWays yX5_layWays, Cond.code yX5_layWays cX5_layWays 6 none, Cond.fieldLink RX5 85 "NightPlotsModel" "paths" "I", Cond.fieldLink RX5 23 "NightPlotsModel" "path" "[I", Cond.methodLink RX5 228 yX5_full, Cond.instanceMethod yX5_full, Cond.selects RX5 yX5_full yX5_full, Cond.code yX5_full cX5_full 3 (some .int)]
def wsX5_doMeet_r3 : List Cond := [Cond.methodLink RX5 232 yX5_has, Cond.static yX5_has, Cond.code yX5_has cX5_has 2 (some .boolean), Cond.methodLink RX5 235 yX5_addWay, Cond.instanceMethod yX5_addWay, Cond.selects RX5 yX5_addWay yX5_addWay, Cond.code yX5_addWay cX5_addWay 3 none, Cond.methodLink RX5 249 yX5_rollTo, Cond.instanceMethod yX5_rollTo, Cond.selects RX5 yX5_rollTo yX5_rollTo, Cond.code yX5_rollTo cX5_rollTo 3 none, Cond.methodLink RX5 256 yX5_rolls, Cond.instanceMethod yX5_rolls, Cond.selects RX5 yX5_rolls yX5_rolls, Cond.code yX5_rolls cX5_rolls 5 (some .int), Cond.methodLink RX5 269 yX5_putBack, Cond.instanceMethod yX5_putBack, Cond.selects RX5 yX5_putBack yX5_putBack, Cond.code yX5_putBack cX5_putBack 1 none]
def wsX5_doMeet : List Cond := .code yX5_doMeet cX5_doMeet 6 (some .boolean) :: ((wsX5_doMeet_r1 ++ (wsX5_doMeet_r2 ++ wsX5_doMeet_r3)) ++ wsX50)
def wsX5_mend : List Cond := .code yX5_mend cX5_mend 4 none :: ([.fieldLink RX5 78 "NightPlotsModel" "houses" "I", .fieldLink RX5 17 "NightPlotsModel" "kind" "[I", .methodLink RX5 232 yX5_has, .static yX5_has, .initialized RX5, .code yX5_has cX5_has 2 (some .boolean)] ++ wsX50)
def wsX5_mends_r1 : List Cond := [Cond.fieldLink RX5 78 "NightPlotsModel" "houses" "I", Cond.fieldLink RX5 17 "NightPlotsModel" "kind" "[I", Cond.methodLink RX5 81 yX5_in, Cond.static yX5_in, Cond.initialized RX5, Cond.code yX5_in cX5_in 3 (some .boolean), Cond.methodLink RX5 288 yX5_whyNot, Cond.instanceMethod yX5_whyNot, Cond.selects RX5 yX5_whyNot yX5_whyNot, Cond.code yX5_whyNot cX5_whyNot 4 (some .int), Cond.methodLink RX5 239 yX5_isHouse, Cond.instanceMethod yX5_isHouse, Cond.selects RX5 yX5_isHouse yX5_isHouse, Cond.code yX5_isHouse cX5_isHouse 2 (some .boolean), Cond.methodLink RX5 232 yX5_has, Cond.static yX5_has, Cond.code yX5_has cX5_has 2 (some .boolean), Cond.methodLink RX5 308 yX5_mend, Cond.instanceMethod yX5_mend, Cond.selects RX5 yX5_mend yX5_mend, Cond.code yX5_mend cX5_mend 4 none, Cond.methodLink RX5 311 yX5_doMeet, Cond.instanceMethod yX5_doMeet, Cond.selects RX5 yX5_doMeet yX5_doMeet]
def wsX5_mends_r2 : List Cond := [Cond.code yX5_doMeet cX5_doMeet 6 (some .boolean), Cond.methodLink RX5 266 yX5_putAside, Cond.instanceMethod yX5_putAside, Cond.selects RX5 yX5_putAside yX5_putAside, Cond.code yX5_putAside cX5_putAside 1 none, Cond.fieldLink RX5 38 "NightPlotsModel" "now" "[I", Cond.fieldLink RX5 41 "NightPlotsModel" "aside" "[I", Cond.fieldLink RX5 91 "NightPlotsModel" "law" "I", Cond.fieldLink RX5 245 "NightPlotsModel" "triedLaw" "I", Cond.methodLink RX5 262 yX5_copy, Cond.static yX5_copy, Cond.code yX5_copy cX5_copy 5 none, Cond.methodLink RX5 285 yX5_areBeside, Cond.instanceMethod yX5_areBeside, Cond.selects RX5 yX5_areBeside yX5_areBeside, Cond.code yX5_areBeside cX5_areBeside 5 (some .boolean), Cond.fieldLink RX5 7 "NightPlotsModel" "plots" "I", Cond.methodLink RX5 222 yX5_standsOn, Cond.instanceMethod yX5_standsOn, Cond.selects RX5 yX5_standsOn yX5_standsOn, Cond.code yX5_standsOn cX5_standsOn 3 (some .boolean), Cond.methodLink RX5 215 yX5_next, Cond.instanceMethod yX5_next, Cond.selects RX5 yX5_next yX5_next]
def wsX5_mends_r3 : List Cond := [Cond.code yX5_next cX5_next 3 (some .int), Cond.methodLink RX5 259 yX5_goNight, Cond.instanceMethod yX5_goNight, Cond.selects RX5 yX5_goNight yX5_goNight, Cond.code yX5_goNight cX5_goNight 2 none, Cond.fieldLink RX5 54 "NightPlotsModel" "way" "[I", Cond.methodLink RX5 253 yX5_goLot, Cond.instanceMethod yX5_goLot, Cond.selects RX5 yX5_goLot yX5_goLot, Cond.code yX5_goLot cX5_goLot 4 none, Cond.fieldLink RX5 225 "NightPlotsModel" "wayMany" "I", Cond.constant RX5 248 (65521), Cond.methodLink RX5 242 yX5_layWays, Cond.instanceMethod yX5_layWays, Cond.selects RX5 yX5_layWays yX5_layWays, Cond.code yX5_layWays cX5_layWays 6 none, Cond.fieldLink RX5 85 "NightPlotsModel" "paths" "I", Cond.fieldLink RX5 23 "NightPlotsModel" "path" "[I", Cond.methodLink RX5 228 yX5_full, Cond.instanceMethod yX5_full, Cond.selects RX5 yX5_full yX5_full, Cond.code yX5_full cX5_full 3 (some .int), Cond.methodLink RX5 235 yX5_addWay, Cond.instanceMethod yX5_addWay]
def wsX5_mends_r4 : List Cond := [Cond.selects RX5 yX5_addWay yX5_addWay, Cond.code yX5_addWay cX5_addWay 3 none, Cond.methodLink RX5 249 yX5_rollTo, Cond.instanceMethod yX5_rollTo, Cond.selects RX5 yX5_rollTo yX5_rollTo, Cond.code yX5_rollTo cX5_rollTo 3 none, Cond.methodLink RX5 256 yX5_rolls, Cond.instanceMethod yX5_rolls, Cond.selects RX5 yX5_rolls yX5_rolls, Cond.code yX5_rolls cX5_rolls 5 (some .int), Cond.methodLink RX5 269 yX5_putBack, Cond.instanceMethod yX5_putBack, Cond.selects RX5 yX5_putBack yX5_putBack, Cond.code yX5_putBack cX5_putBack 1 none]
def wsX5_mends : List Cond := .code yX5_mends cX5_mends 12 (some .int) :: ((wsX5_mends_r1 ++ (wsX5_mends_r2 ++ (wsX5_mends_r3 ++ wsX5_mends_r4))) ++ wsX50)
def wsX5_seen : List Cond := .code yX5_seen cX5_seen 4 (some .int) :: ([.fieldLink RX5 212 "NightPlotsModel" "sights" "I", .fieldLink RX5 51 "NightPlotsModel" "sight" "[I", .methodLink RX5 239 yX5_isHouse, .instanceMethod yX5_isHouse, .selects RX5 yX5_isHouse yX5_isHouse, .initialized RX5, .code yX5_isHouse cX5_isHouse 2 (some .boolean), .fieldLink RX5 78 "NightPlotsModel" "houses" "I", .methodLink RX5 81 yX5_in, .static yX5_in, .code yX5_in cX5_in 3 (some .boolean), .methodLink RX5 219 yX5_isPlot, .instanceMethod yX5_isPlot, .selects RX5 yX5_isPlot yX5_isPlot, .code yX5_isPlot cX5_isPlot 2 (some .boolean), .fieldLink RX5 7 "NightPlotsModel" "plots" "I"] ++ wsX50)
def wsX5_forget : List Cond := .code yX5_forget cX5_forget 2 (some .int) :: ([.fieldLink RX5 212 "NightPlotsModel" "sights" "I"] ++ wsX50)
def wsX5_laws_r1 : List Cond := [Cond.fieldLink RX5 245 "NightPlotsModel" "triedLaw" "I", Cond.fieldLink RX5 212 "NightPlotsModel" "sights" "I", Cond.fieldLink RX5 51 "NightPlotsModel" "sight" "[I", Cond.fieldLink RX5 38 "NightPlotsModel" "now" "[I", Cond.methodLink RX5 266 yX5_putAside, Cond.instanceMethod yX5_putAside, Cond.selects RX5 yX5_putAside yX5_putAside, Cond.initialized RX5, Cond.code yX5_putAside cX5_putAside 1 none, Cond.fieldLink RX5 41 "NightPlotsModel" "aside" "[I", Cond.fieldLink RX5 91 "NightPlotsModel" "law" "I", Cond.methodLink RX5 262 yX5_copy, Cond.static yX5_copy, Cond.code yX5_copy cX5_copy 5 none, Cond.methodLink RX5 75 yX5_begin, Cond.instanceMethod yX5_begin, Cond.selects RX5 yX5_begin yX5_begin, Cond.code yX5_begin cX5_begin 2 none, Cond.fieldLink RX5 20 "NightPlotsModel" "begins" "[I", Cond.fieldLink RX5 29 "NightPlotsModel" "seed" "I", Cond.methodLink RX5 259 yX5_goNight, Cond.instanceMethod yX5_goNight, Cond.selects RX5 yX5_goNight yX5_goNight, Cond.code yX5_goNight cX5_goNight 2 none]
def wsX5_laws_r2 : List Cond := [Cond.fieldLink RX5 54 "NightPlotsModel" "way" "[I", Cond.fieldLink RX5 78 "NightPlotsModel" "houses" "I", Cond.methodLink RX5 253 yX5_goLot, Cond.instanceMethod yX5_goLot, Cond.selects RX5 yX5_goLot yX5_goLot, Cond.code yX5_goLot cX5_goLot 4 none, Cond.fieldLink RX5 225 "NightPlotsModel" "wayMany" "I", Cond.constant RX5 248 (65521), Cond.methodLink RX5 242 yX5_layWays, Cond.instanceMethod yX5_layWays, Cond.selects RX5 yX5_layWays yX5_layWays, Cond.code yX5_layWays cX5_layWays 6 none, Cond.fieldLink RX5 17 "NightPlotsModel" "kind" "[I", Cond.fieldLink RX5 85 "NightPlotsModel" "paths" "I", Cond.fieldLink RX5 23 "NightPlotsModel" "path" "[I", Cond.methodLink RX5 228 yX5_full, Cond.instanceMethod yX5_full, Cond.selects RX5 yX5_full yX5_full, Cond.code yX5_full cX5_full 3 (some .int), Cond.methodLink RX5 215 yX5_next, Cond.instanceMethod yX5_next, Cond.selects RX5 yX5_next yX5_next, Cond.code yX5_next cX5_next 3 (some .int), Cond.fieldLink RX5 7 "NightPlotsModel" "plots" "I"]
def wsX5_laws_r3 : List Cond := [Cond.methodLink RX5 232 yX5_has, Cond.static yX5_has, Cond.code yX5_has cX5_has 2 (some .boolean), Cond.methodLink RX5 235 yX5_addWay, Cond.instanceMethod yX5_addWay, Cond.selects RX5 yX5_addWay yX5_addWay, Cond.code yX5_addWay cX5_addWay 3 none, Cond.methodLink RX5 249 yX5_rollTo, Cond.instanceMethod yX5_rollTo, Cond.selects RX5 yX5_rollTo yX5_rollTo, Cond.code yX5_rollTo cX5_rollTo 3 none, Cond.methodLink RX5 256 yX5_rolls, Cond.instanceMethod yX5_rolls, Cond.selects RX5 yX5_rolls yX5_rolls, Cond.code yX5_rolls cX5_rolls 5 (some .int), Cond.methodLink RX5 269 yX5_putBack, Cond.instanceMethod yX5_putBack, Cond.selects RX5 yX5_putBack yX5_putBack, Cond.code yX5_putBack cX5_putBack 1 none]
def wsX5_laws : List Cond := .code yX5_laws cX5_laws 6 (some .int) :: ((wsX5_laws_r1 ++ (wsX5_laws_r2 ++ wsX5_laws_r3)) ++ wsX50)
def wsX5_count : List Cond := .code yX5_count cX5_count 2 (some .int) :: ([.fieldLink RX5 7 "NightPlotsModel" "plots" "I", .fieldLink RX5 78 "NightPlotsModel" "houses" "I", .fieldLink RX5 85 "NightPlotsModel" "paths" "I", .fieldLink RX5 88 "NightPlotsModel" "feuds" "I", .fieldLink RX5 91 "NightPlotsModel" "law" "I", .fieldLink RX5 38 "NightPlotsModel" "now" "[I", .fieldLink RX5 212 "NightPlotsModel" "sights" "I", .fieldLink RX5 94 "NightPlotsModel" "bytes" "I", .methodLink RX5 228 yX5_full, .instanceMethod yX5_full, .selects RX5 yX5_full yX5_full, .initialized RX5, .code yX5_full cX5_full 3 (some .int), .fieldLink RX5 17 "NightPlotsModel" "kind" "[I", .methodLink RX5 215 yX5_next, .instanceMethod yX5_next, .selects RX5 yX5_next yX5_next, .code yX5_next cX5_next 3 (some .int)] ++ wsX50)
def wsJ9_abs_0f7a4 : List Cond := .code yJ9_abs_0f7a4 cJ9_abs_0f7a4 1 (some .int) :: ([])
def wsL_law_r1 : List Cond := [Cond.classLink RL 7 RX4, Cond.instantiable RX4 14, Cond.initialized RX4, Cond.classLink RL 10 RX5, Cond.instantiable RX5 40, Cond.initialized RX5, Cond.constantLong RL 13 (4294967295), Cond.methodLink RL 9 yX4_init, Cond.instanceMethod yX4_init, Cond.code yX4_init cX4_init 2 none, Cond.methodLink RX4 3 objectInit, Cond.instanceMethod objectInit, Cond.code objectInit ⟨#[0xb1]⟩ 1 none, Cond.classLink RX4 9 RX3, Cond.instantiable RX3 13, Cond.initialized RX3, Cond.fieldLink RX4 12 "NightPlots" "told" "LNightPlots$Told;", Cond.fieldLink RX4 16 "NightPlots" "draft" "LNightPlots$Told;", Cond.classLink RX4 19 RX2, Cond.instantiable RX2 5, Cond.initialized RX2, Cond.fieldLink RX4 22 "NightPlots" "text" "LNightPlots$Text;", Cond.classLink RX4 26 RX1, Cond.instantiable RX1 9]
def wsL_law_r2 : List Cond := [Cond.initialized RX1, Cond.fieldLink RX4 31 "NightPlots" "now" "LNightPlots$Standing;", Cond.fieldLink RX4 35 "NightPlots" "ahead" "LNightPlots$Standing;", Cond.fieldLink RX4 38 "NightPlots" "kept" "[LNightPlots$Standing;", Cond.arrayClass .boolean, Cond.fieldLink RX4 42 "NightPlots" "isKept" "[Z", Cond.classLink RX4 46 RX0, Cond.instantiable RX0 6, Cond.initialized RX0, Cond.fieldLink RX4 51 "NightPlots" "search" "LNightPlots$Search;", Cond.arrayClass .int, Cond.fieldLink RX4 55 "NightPlots" "ways" "[I", Cond.arrayClass .long, Cond.fieldLink RX4 59 "NightPlots" "passed" "[J", Cond.fieldLink RX4 63 "NightPlots" "seenHouse" "[I", Cond.fieldLink RX4 66 "NightPlots" "seenPlot" "[I", Cond.fieldLink RX4 69 "NightPlots" "seenNight" "[I", Cond.methodLink RX4 11 yX3_init, Cond.instanceMethod yX3_init, Cond.code yX3_init cX3_init 1 none, Cond.methodLink RX3 3 objectInit, Cond.fieldLink RX3 9 "NightPlots$Told" "crop" "[I", Cond.fieldLink RX3 15 "NightPlots$Told" "kind" "[I", Cond.fieldLink RX3 18 "NightPlots$Told" "place" "[I"]
def wsL_law_r3 : List Cond := [Cond.fieldLink RX3 21 "NightPlots$Told" "pathFrom" "[I", Cond.fieldLink RX3 24 "NightPlots$Told" "pathTo" "[I", Cond.fieldLink RX3 27 "NightPlots$Told" "feudOne" "[I", Cond.fieldLink RX3 30 "NightPlots$Told" "feudOther" "[I", Cond.methodLink RX3 33 yX3_layOut, Cond.instanceMethod yX3_layOut, Cond.selects RX3 yX3_layOut yX3_layOut, Cond.code yX3_layOut cX3_layOut 2 none, Cond.fieldLink RX3 37 "NightPlots$Told" "plots" "I", Cond.fieldLink RX3 41 "NightPlots$Told" "paths" "I", Cond.fieldLink RX3 44 "NightPlots$Told" "law" "I", Cond.fieldLink RX3 47 "NightPlots$Told" "seed" "I", Cond.methodLink RX3 50 yJ7_fill_53178, Cond.static yJ7_fill_53178, Cond.initialized RJ7, Cond.code yJ7_fill_53178 cJ7_fill_53178 4 none, Cond.methodLink RX3 56 yX3_removeHouses, Cond.instanceMethod yX3_removeHouses, Cond.selects RX3 yX3_removeHouses yX3_removeHouses, Cond.code yX3_removeHouses cX3_removeHouses 1 none, Cond.fieldLink RX3 59 "NightPlots$Told" "houses" "I", Cond.fieldLink RX3 62 "NightPlots$Told" "feuds" "I", Cond.instanceMethod yX2_init, Cond.code yX2_init cX2_init 1 none]
def wsL_law_r4 : List Cond := [Cond.methodLink RX2 3 objectInit, Cond.fieldLink RX2 9 "NightPlots$Text" "bytes" "[I", Cond.methodLink RX4 28 yX1_init, Cond.instanceMethod yX1_init, Cond.code yX1_init cX1_init 2 none, Cond.methodLink RX1 3 objectInit, Cond.fieldLink RX1 9 "NightPlots$Standing" "place" "[I", Cond.fieldLink RX1 15 "NightPlots$Standing" "rolled" "[I", Cond.fieldLink RX1 18 "NightPlots$Standing" "ways" "[I", Cond.fieldLink RX1 21 "NightPlots$Standing" "told" "LNightPlots$Told;", Cond.methodLink RX1 25 yX1_startAsTold, Cond.instanceMethod yX1_startAsTold, Cond.selects RX1 yX1_startAsTold yX1_startAsTold, Cond.code yX1_startAsTold cX1_startAsTold 1 none, Cond.fieldLink RX1 28 "NightPlots$Told" "place" "[I", Cond.methodLink RX1 31 arraycopyName, Cond.native arraycopyName, Cond.static arraycopyName, Cond.initialized "java/lang/System", Cond.fieldLink RX1 47 "NightPlots$Standing" "taken" "I", Cond.fieldLink RX1 51 "NightPlots$Standing" "nights" "I", Cond.fieldLink RX1 54 "NightPlots$Standing" "turn" "I", Cond.fieldLink RX1 57 "NightPlots$Told" "seed" "I", Cond.fieldLink RX1 60 "NightPlots$Standing" "x" "I"]
def wsL_law_r5 : List Cond := [Cond.fieldLink RX1 63 "NightPlots$Standing" "mended" "I", Cond.methodLink RX1 37 yJ7_fill_53178, Cond.methodLink RX1 43 yX3_takenAtFirst, Cond.instanceMethod yX3_takenAtFirst, Cond.selects RX3 yX3_takenAtFirst yX3_takenAtFirst, Cond.code yX3_takenAtFirst cX3_takenAtFirst 3 (some .int), Cond.methodLink RX3 79 yX3_ground, Cond.instanceMethod yX3_ground, Cond.selects RX3 yX3_ground yX3_ground, Cond.code yX3_ground cX3_ground 3 (some .int), Cond.methodLink RX3 71 yX3_next, Cond.instanceMethod yX3_next, Cond.selects RX3 yX3_next yX3_next, Cond.code yX3_next cX3_next 2 (some .int), Cond.methodLink RX4 48 yX0_init, Cond.instanceMethod yX0_init, Cond.code yX0_init cX0_init 2 none, Cond.methodLink RX0 3 objectInit, Cond.classLink RX0 9 "[[I", Cond.fieldLink RX0 11 "NightPlots$Search" "ways" "[[I", Cond.fieldLink RX0 16 "NightPlots$Search" "deadEnds" "[J", Cond.fieldLink RX0 20 "NightPlots$Search" "standing" "LNightPlots$Standing;", Cond.methodLink RL 12 yX5_init, Cond.instanceMethod yX5_init]
def wsL_law_r6 : List Cond := [Cond.code yX5_init cX5_init 1 none, Cond.methodLink RX5 1 objectInit, Cond.fieldLink RX5 7 "NightPlotsModel" "plots" "I", Cond.fieldLink RX5 13 "NightPlotsModel" "crop" "[I", Cond.fieldLink RX5 17 "NightPlotsModel" "kind" "[I", Cond.fieldLink RX5 20 "NightPlotsModel" "begins" "[I", Cond.fieldLink RX5 23 "NightPlotsModel" "path" "[I", Cond.fieldLink RX5 26 "NightPlotsModel" "feud" "[I", Cond.fieldLink RX5 29 "NightPlotsModel" "seed" "I", Cond.fieldLink RX5 32 "NightPlotsModel" "text" "[I", Cond.fieldLink RX5 35 "NightPlotsModel" "read" "[I", Cond.fieldLink RX5 38 "NightPlotsModel" "now" "[I", Cond.fieldLink RX5 41 "NightPlotsModel" "aside" "[I", Cond.fieldLink RX5 44 "NightPlotsModel" "image" "[I", Cond.fieldLink RX5 47 "NightPlotsModel" "isKept" "[Z", Cond.fieldLink RX5 51 "NightPlotsModel" "sight" "[I", Cond.fieldLink RX5 54 "NightPlotsModel" "way" "[I", Cond.fieldLink RX5 57 "NightPlotsModel" "states" "[I", Cond.fieldLink RX5 60 "NightPlotsModel" "deep" "[I", Cond.fieldLink RX5 63 "NightPlotsModel" "deepHouse" "[I", Cond.fieldLink RX5 66 "NightPlotsModel" "deepWay" "[I", Cond.fieldLink RX5 69 "NightPlotsModel" "deepRoll" "[I", Cond.methodLink RX5 72 yX5_plain, Cond.instanceMethod yX5_plain]
def wsL_law_r7 : List Cond := [Cond.selects RX5 yX5_plain yX5_plain, Cond.code yX5_plain cX5_plain 2 none, Cond.fieldLink RX5 78 "NightPlotsModel" "houses" "I", Cond.fieldLink RX5 85 "NightPlotsModel" "paths" "I", Cond.fieldLink RX5 88 "NightPlotsModel" "feuds" "I", Cond.fieldLink RX5 91 "NightPlotsModel" "law" "I", Cond.methodLink RX5 75 yX5_begin, Cond.instanceMethod yX5_begin, Cond.selects RX5 yX5_begin yX5_begin, Cond.code yX5_begin cX5_begin 2 none, Cond.methodLink RL 15 yX4_write, Cond.instanceMethod yX4_write, Cond.selects RX4 yX4_write yX4_write, Cond.code yX4_write cX4_write 4 (some .int), Cond.fieldLink RX4 76 "NightPlots$Text" "length" "I", Cond.methodLink RX4 72 yX2_append, Cond.instanceMethod yX2_append, Cond.selects RX2 yX2_append yX2_append, Cond.code yX2_append cX2_append 5 (some .boolean), Cond.fieldLink RX2 15 "NightPlots$Text" "length" "I", Cond.constantLong RX2 19 (255), Cond.methodLink RL 19 yX5_write, Cond.instanceMethod yX5_write, Cond.selects RX5 yX5_write yX5_write]
def wsL_law_r8 : List Cond := [Cond.code yX5_write cX5_write 5 (some .int), Cond.fieldLink RX5 94 "NightPlotsModel" "bytes" "I", Cond.constantLong RX5 97 (255), Cond.methodLink RX5 81 yX5_in, Cond.static yX5_in, Cond.code yX5_in cX5_in 3 (some .boolean), Cond.methodLink RL 20 yX4_erase, Cond.instanceMethod yX4_erase, Cond.selects RX4 yX4_erase yX4_erase, Cond.code yX4_erase cX4_erase 2 (some .int), Cond.methodLink RL 24 yX5_erase, Cond.instanceMethod yX5_erase, Cond.selects RX5 yX5_erase yX5_erase, Cond.code yX5_erase cX5_erase 2 (some .int), Cond.methodLink RL 25 yX4_fault, Cond.instanceMethod yX4_fault, Cond.selects RX4 yX4_fault yX4_fault, Cond.code yX4_fault cX4_fault 1 (some .int), Cond.methodLink RX4 80 yX3_copyFrom, Cond.instanceMethod yX3_copyFrom, Cond.selects RX3 yX3_copyFrom yX3_copyFrom, Cond.code yX3_copyFrom cX3_copyFrom 2 none, Cond.methodLink RX3 65 arraycopyName, Cond.methodLink RX4 83 yX2_readInto]
def wsL_law_r9 : List Cond := [Cond.instanceMethod yX2_readInto, Cond.selects RX2 yX2_readInto yX2_readInto, Cond.code yX2_readInto cX2_readInto 2 (some .int), Cond.fieldLink RX2 21 "NightPlots$Text" "tokenEnd" "I", Cond.fieldLink RX2 24 "NightPlots$Text" "lines" "I", Cond.fieldLink RX2 34 "NightPlots$Text" "tokenBegin" "I", Cond.methodLink RX2 27 yX2_stepToToken, Cond.instanceMethod yX2_stepToToken, Cond.selects RX2 yX2_stepToToken yX2_stepToToken, Cond.code yX2_stepToToken cX2_stepToToken 2 none, Cond.methodLink RX2 139 yX2_goesOn, Cond.instanceMethod yX2_goesOn, Cond.selects RX2 yX2_goesOn yX2_goesOn, Cond.code yX2_goesOn cX2_goesOn 3 (some .boolean), Cond.methodLink RX2 143 yX2_isLetter, Cond.static yX2_isLetter, Cond.code yX2_isLetter cX2_isLetter 1 (some .boolean), Cond.methodLink RX2 146 yX2_isDigit, Cond.static yX2_isDigit, Cond.code yX2_isDigit cX2_isDigit 1 (some .boolean), Cond.methodLink RX2 30 yX2_readLine, Cond.instanceMethod yX2_readLine, Cond.selects RX2 yX2_readLine yX2_readLine, Cond.code yX2_readLine cX2_readLine 3 (some .boolean)]
def wsL_law_r10 : List Cond := [Cond.methodLink RX2 39 yX2_isWord, Cond.instanceMethod yX2_isWord, Cond.selects RX2 yX2_isWord yX2_isWord, Cond.code yX2_isWord cX2_isWord 3 (some .boolean), Cond.methodLink RX2 149 yJ0_length_8abf5, Cond.instanceMethod yJ0_length_8abf5, Cond.selects RJ0 yJ0_length_8abf5 yJ0_length_8abf5, Cond.initialized RJ0, Cond.code yJ0_length_8abf5 cJ0_length_8abf5 1 (some .int), Cond.fieldLink RJ0 9 "java/lang/String" "value" "[B", Cond.methodLink RJ0 335 yJ0_coder_7d493, Cond.instanceMethod yJ0_coder_7d493, Cond.selects RJ0 yJ0_coder_7d493 yJ0_coder_7d493, Cond.code yJ0_coder_7d493 cJ0_coder_7d493 1 (some .byte), Cond.fieldLink RJ0 38 "java/lang/String" "COMPACT_STRINGS" "Z", Cond.fieldLink RJ0 15 "java/lang/String" "coder" "B", Cond.methodLink RX2 153 yJ0_charAt_5068e, Cond.instanceMethod yJ0_charAt_5068e, Cond.selects RJ0 yJ0_charAt_5068e yJ0_charAt_5068e, Cond.code yJ0_charAt_5068e cJ0_charAt_5068e 2 (some .char), Cond.methodLink RJ0 492 yJ0_isLatin1_aae02, Cond.instanceMethod yJ0_isLatin1_aae02, Cond.selects RJ0 yJ0_isLatin1_aae02 yJ0_isLatin1_aae02, Cond.code yJ0_isLatin1_aae02 cJ0_isLatin1_aae02 1 (some .boolean)]
def wsL_law_r11 : List Cond := [Cond.methodLink RJ0 495 yJ1_charAt_3b067, Cond.static yJ1_charAt_3b067, Cond.initialized RJ1, Cond.code yJ1_charAt_3b067 cJ1_charAt_3b067 2 (some .char), Cond.methodLink RJ1 9 yJ0_checkIndex_df160, Cond.static yJ0_checkIndex_df160, Cond.code yJ0_checkIndex_df160 cJ0_checkIndex_df160 2 none, Cond.fieldLink RJ0 1053 "jdk/internal/util/Preconditions" "SIOOBE_FORMATTER" "Ljava/util/function/BiFunction;", Cond.methodLink RJ0 1059 yJ3_checkIndex_8e157, Cond.static yJ3_checkIndex_8e157, Cond.initialized RJ3, Cond.code yJ3_checkIndex_8e157 cJ3_checkIndex_8e157 3 (some .int), Cond.methodLink RJ0 498 yJ2_charAt_3b067, Cond.static yJ2_charAt_3b067, Cond.initialized RJ2, Cond.code yJ2_charAt_3b067 cJ2_charAt_3b067 2 (some .char), Cond.methodLink RJ2 67 yJ2_checkIndex_2214a, Cond.static yJ2_checkIndex_2214a, Cond.code yJ2_checkIndex_2214a cJ2_checkIndex_2214a 2 none, Cond.methodLink RJ2 48 yJ2_length_9d52b, Cond.static yJ2_length_9d52b, Cond.code yJ2_length_9d52b cJ2_length_9d52b 1 (some .int), Cond.methodLink RJ2 414 yJ0_checkIndex_df160, Cond.methodLink RJ2 71 yJ2_getChar_3b067]
def wsL_law_r12 : List Cond := [Cond.static yJ2_getChar_3b067, Cond.code yJ2_getChar_3b067 cJ2_getChar_3b067 2 (some .char), Cond.fieldLink RJ2 44 "java/lang/StringUTF16" "$assertionsDisabled" "Z", Cond.fieldLink RJ2 59 "java/lang/StringUTF16" "HI_BYTE_SHIFT" "I", Cond.fieldLink RJ2 63 "java/lang/StringUTF16" "LO_BYTE_SHIFT" "I", Cond.methodLink RX2 43 yX2_readGreen, Cond.instanceMethod yX2_readGreen, Cond.selects RX2 yX2_readGreen yX2_readGreen, Cond.code yX2_readGreen cX2_readGreen 3 (some .boolean), Cond.methodLink RX2 84 yX2_readNumber, Cond.instanceMethod yX2_readNumber, Cond.selects RX2 yX2_readNumber yX2_readNumber, Cond.code yX2_readNumber cX2_readNumber 7 (some .int), Cond.methodLink RX2 88 yX3_layOut, Cond.methodLink RX2 48 yX2_readCrop, Cond.instanceMethod yX2_readCrop, Cond.selects RX2 yX2_readCrop yX2_readCrop, Cond.code yX2_readCrop cX2_readCrop 4 (some .boolean), Cond.fieldLink RX2 92 "NightPlots$Told" "plots" "I", Cond.fieldLink RX2 95 "NightPlots$Told" "crop" "[I", Cond.methodLink RX2 51 yX2_kindHere, Cond.instanceMethod yX2_kindHere, Cond.selects RX2 yX2_kindHere yX2_kindHere, Cond.code yX2_kindHere cX2_kindHere 1 (some .int)]
def wsL_law_r13 : List Cond := [Cond.methodLink RX2 55 yX2_readHouse, Cond.instanceMethod yX2_readHouse, Cond.selects RX2 yX2_readHouse yX2_readHouse, Cond.code yX2_readHouse cX2_readHouse 4 (some .boolean), Cond.fieldLink RX2 97 "NightPlots$Told" "houses" "I", Cond.methodLink RX2 100 yX3_settle, Cond.instanceMethod yX3_settle, Cond.selects RX3 yX3_settle yX3_settle, Cond.code yX3_settle cX3_settle 5 (some .boolean), Cond.methodLink RX3 83 yX3_takenAtFirst, Cond.methodLink RX3 75 yX3_allPlots, Cond.instanceMethod yX3_allPlots, Cond.selects RX3 yX3_allPlots yX3_allPlots, Cond.code yX3_allPlots cX3_allPlots 1 (some .int), Cond.methodLink RX2 61 yX2_readPath, Cond.instanceMethod yX2_readPath, Cond.selects RX2 yX2_readPath yX2_readPath, Cond.code yX2_readPath cX2_readPath 4 (some .boolean), Cond.fieldLink RX2 104 "NightPlots$Told" "paths" "I", Cond.methodLink RX2 107 yX3_addPath, Cond.instanceMethod yX3_addPath, Cond.selects RX3 yX3_addPath yX3_addPath, Cond.code yX3_addPath cX3_addPath 3 (some .boolean), Cond.methodLink RX2 66 yX2_readFeud]
def wsL_law_r14 : List Cond := [Cond.instanceMethod yX2_readFeud, Cond.selects RX2 yX2_readFeud yX2_readFeud, Cond.code yX2_readFeud cX2_readFeud 4 (some .boolean), Cond.fieldLink RX2 110 "NightPlots$Told" "feuds" "I", Cond.methodLink RX2 113 yX3_addFeud, Cond.instanceMethod yX3_addFeud, Cond.selects RX3 yX3_addFeud yX3_addFeud, Cond.code yX3_addFeud cX3_addFeud 3 (some .boolean), Cond.methodLink RX2 71 yX2_readLot, Cond.instanceMethod yX2_readLot, Cond.selects RX2 yX2_readLot yX2_readLot, Cond.code yX2_readLot cX2_readLot 3 (some .boolean), Cond.fieldLink RX2 116 "NightPlots$Told" "law" "I", Cond.fieldLink RX2 119 "NightPlots$Told" "seed" "I", Cond.methodLink RX2 76 yX3_removeHouses, Cond.methodLink RX2 81 yX2_readPlainLaw, Cond.instanceMethod yX2_readPlainLaw, Cond.selects RX2 yX2_readPlainLaw yX2_readPlainLaw, Cond.code yX2_readPlainLaw cX2_readPlainLaw 3 (some .boolean), Cond.methodLink RX2 122 yX2_plainLawHere, Cond.instanceMethod yX2_plainLawHere, Cond.selects RX2 yX2_plainLawHere yX2_plainLawHere, Cond.code yX2_plainLawHere cX2_plainLawHere 1 (some .int), Cond.methodLink RL 28 yX5_fault]
def wsL_law_r15 : List Cond := [Cond.instanceMethod yX5_fault, Cond.selects RX5 yX5_fault yX5_fault, Cond.code yX5_fault cX5_fault 1 (some .int), Cond.fieldLink RX5 127 "NightPlotsModel" "faultAt" "I", Cond.methodLink RX5 205 yX5_isRead, Cond.instanceMethod yX5_isRead, Cond.selects RX5 yX5_isRead yX5_isRead, Cond.code yX5_isRead cX5_isRead 2 (some .boolean), Cond.fieldLink RX5 99 "NightPlotsModel" "position" "I", Cond.fieldLink RX5 199 "NightPlotsModel" "readMany" "I", Cond.fieldLink RX5 140 "NightPlotsModel" "readPlots" "I", Cond.fieldLink RX5 143 "NightPlotsModel" "readHouses" "I", Cond.fieldLink RX5 149 "NightPlotsModel" "readPaths" "I", Cond.fieldLink RX5 152 "NightPlotsModel" "readFeuds" "I", Cond.fieldLink RX5 146 "NightPlotsModel" "readFull" "I", Cond.fieldLink RX5 113 "NightPlotsModel" "token" "J", Cond.constantLong RX5 125 (-3), Cond.constantLong RX5 111 (-2), Cond.methodLink RX5 202 yX5_isLine, Cond.instanceMethod yX5_isLine, Cond.selects RX5 yX5_isLine yX5_isLine, Cond.code yX5_isLine cX5_isLine 4 (some .boolean), Cond.constantLong RX5 159 (4078175), Cond.constantLong RX5 161 (72592)]
def wsL_law_r16 : List Cond := [Cond.constantLong RX5 163 (201783983), Cond.constantLong RX5 165 (60284), Cond.constantLong RX5 167 (10506440), Cond.constantLong RX5 169 (459383), Cond.constantLong RX5 171 (316205), Cond.constantLong RX5 173 (122314), Cond.constantLong RX5 175 (923), Cond.constantLong RX5 177 (409469), Cond.constantLong RX5 179 (358472), Cond.constantLong RX5 181 (9173), Cond.constantLong RX5 183 (1834209), Cond.methodLink RX5 130 yX5_nextToken, Cond.instanceMethod yX5_nextToken, Cond.selects RX5 yX5_nextToken yX5_nextToken, Cond.code yX5_nextToken cX5_nextToken 1 none, Cond.fieldLink RX5 102 "NightPlotsModel" "tokenAt" "I", Cond.fieldLink RX5 105 "NightPlotsModel" "digits" "I", Cond.fieldLink RX5 108 "NightPlotsModel" "number" "I", Cond.constantLong RX5 117 (27), Cond.constantLong RX5 119 (96), Cond.constantLong RX5 121 (-4), Cond.constantLong RX5 123 (-1), Cond.methodLink RX5 185 yX5_isGreen, Cond.instanceMethod yX5_isGreen]
def wsL_law_r17 : List Cond := [Cond.selects RX5 yX5_isGreen yX5_isGreen, Cond.code yX5_isGreen cX5_isGreen 2 (some .boolean), Cond.methodLink RX5 137 yX5_isNumber, Cond.instanceMethod yX5_isNumber, Cond.selects RX5 yX5_isNumber yX5_isNumber, Cond.code yX5_isNumber cX5_isNumber 4 (some .boolean), Cond.methodLink RX5 133 yX5_fails, Cond.instanceMethod yX5_fails, Cond.selects RX5 yX5_fails yX5_fails, Cond.code yX5_fails cX5_fails 1 (some .boolean), Cond.methodLink RX5 189 yX5_isHouseLine, Cond.instanceMethod yX5_isHouseLine, Cond.selects RX5 yX5_isHouseLine yX5_isHouseLine, Cond.code yX5_isHouseLine cX5_isHouseLine 4 (some .boolean), Cond.methodLink RX5 193 yX5_isPath, Cond.instanceMethod yX5_isPath, Cond.selects RX5 yX5_isPath yX5_isPath, Cond.code yX5_isPath cX5_isPath 2 (some .boolean), Cond.methodLink RX5 155 yX5_areUnlike, Cond.instanceMethod yX5_areUnlike, Cond.selects RX5 yX5_areUnlike yX5_areUnlike, Cond.code yX5_areUnlike cX5_areUnlike 3 (some .boolean), Cond.methodLink RX5 196 yX5_isFeud, Cond.instanceMethod yX5_isFeud]
def wsL_law_r18 : List Cond := [Cond.selects RX5 yX5_isFeud yX5_isFeud, Cond.code yX5_isFeud cX5_isFeud 2 (some .boolean), Cond.methodLink RL 29 yX4_green, Cond.instanceMethod yX4_green, Cond.selects RX4 yX4_green yX4_green, Cond.code yX4_green cX4_green 2 (some .int), Cond.fieldLink RX4 90 "NightPlots" "seenSoFar" "I", Cond.fieldLink RX4 93 "NightPlots$Text" "lines" "I", Cond.methodLink RX4 87 yX1_startAsTold, Cond.methodLink RL 32 yX5_green, Cond.instanceMethod yX5_green, Cond.selects RX5 yX5_green yX5_green, Cond.code yX5_green cX5_green 2 (some .int), Cond.fieldLink RX5 212 "NightPlotsModel" "sights" "I", Cond.methodLink RX5 208 yX5_doLine, Cond.instanceMethod yX5_doLine, Cond.selects RX5 yX5_doLine yX5_doLine, Cond.code yX5_doLine cX5_doLine 4 none, Cond.methodLink RL 33 yX4_plot, Cond.instanceMethod yX4_plot, Cond.selects RX4 yX4_plot yX4_plot, Cond.code yX4_plot cX4_plot 3 (some .int), Cond.fieldLink RX4 104 "NightPlots$Told" "crop" "[I", Cond.methodLink RX4 96 yX4_isPlot]
def wsL_law_r19 : List Cond := [Cond.instanceMethod yX4_isPlot, Cond.selects RX4 yX4_isPlot yX4_isPlot, Cond.code yX4_isPlot cX4_isPlot 2 (some .boolean), Cond.fieldLink RX4 204 "NightPlots$Told" "plots" "I", Cond.methodLink RX4 100 yX1_houseOn, Cond.instanceMethod yX1_houseOn, Cond.selects RX1 yX1_houseOn yX1_houseOn, Cond.code yX1_houseOn cX1_houseOn 3 (some .int), Cond.fieldLink RX1 73 "NightPlots$Told" "houses" "I", Cond.methodLink RX1 76 yX1_groundOf, Cond.instanceMethod yX1_groundOf, Cond.selects RX1 yX1_groundOf yX1_groundOf, Cond.code yX1_groundOf cX1_groundOf 2 (some .int), Cond.fieldLink RX1 66 "NightPlots$Told" "kind" "[I", Cond.methodLink RX1 69 yX3_ground, Cond.methodLink RL 37 yX5_plot, Cond.instanceMethod yX5_plot, Cond.selects RX5 yX5_plot yX5_plot, Cond.code yX5_plot cX5_plot 5 (some .int), Cond.methodLink RX5 219 yX5_isPlot, Cond.instanceMethod yX5_isPlot, Cond.selects RX5 yX5_isPlot yX5_isPlot, Cond.code yX5_isPlot cX5_isPlot 2 (some .boolean), Cond.methodLink RX5 222 yX5_standsOn]
def wsL_law_r20 : List Cond := [Cond.instanceMethod yX5_standsOn, Cond.selects RX5 yX5_standsOn yX5_standsOn, Cond.code yX5_standsOn cX5_standsOn 3 (some .boolean), Cond.methodLink RX5 215 yX5_next, Cond.instanceMethod yX5_next, Cond.selects RX5 yX5_next yX5_next, Cond.code yX5_next cX5_next 3 (some .int), Cond.methodLink RL 38 yX4_house, Cond.instanceMethod yX4_house, Cond.selects RX4 yX4_house yX4_house, Cond.code yX4_house cX4_house 3 (some .int), Cond.fieldLink RX4 110 "NightPlots$Told" "kind" "[I", Cond.fieldLink RX4 113 "NightPlots$Standing" "place" "[I", Cond.fieldLink RX4 116 "NightPlots$Standing" "rolled" "[I", Cond.fieldLink RX4 119 "NightPlots$Standing" "nights" "I", Cond.methodLink RX4 107 yX4_isHouse, Cond.instanceMethod yX4_isHouse, Cond.selects RX4 yX4_isHouse yX4_isHouse, Cond.code yX4_isHouse cX4_isHouse 2 (some .boolean), Cond.fieldLink RX4 207 "NightPlots$Told" "houses" "I", Cond.methodLink RL 41 yX5_house, Cond.instanceMethod yX5_house, Cond.selects RX5 yX5_house yX5_house, Cond.code yX5_house cX5_house 3 (some .int)]
def wsL_law_r21 : List Cond := [Cond.methodLink RX5 239 yX5_isHouse, Cond.instanceMethod yX5_isHouse, Cond.selects RX5 yX5_isHouse yX5_isHouse, Cond.code yX5_isHouse cX5_isHouse 2 (some .boolean), Cond.methodLink RL 42 yX4_as, Cond.instanceMethod yX4_as, Cond.selects RX4 yX4_as yX4_as, Cond.code yX4_as cX4_as 3 (some .int), Cond.methodLink RX4 122 yX4_isSuch, Cond.static yX4_isSuch, Cond.code yX4_isSuch cX4_isSuch 2 (some .boolean), Cond.methodLink RX4 126 yX1_findWays, Cond.instanceMethod yX1_findWays, Cond.selects RX1 yX1_findWays yX1_findWays, Cond.code yX1_findWays cX1_findWays 7 (some .int), Cond.methodLink RX1 83 yX3_next, Cond.methodLink RX1 86 yX3_previous, Cond.instanceMethod yX3_previous, Cond.selects RX3 yX3_previous yX3_previous, Cond.code yX3_previous cX3_previous 2 (some .int), Cond.methodLink RX1 89 yX1_isEmpty, Cond.instanceMethod yX1_isEmpty, Cond.selects RX1 yX1_isEmpty yX1_isEmpty, Cond.code yX1_isEmpty cX1_isEmpty 2 (some .boolean)]
def wsL_law_r22 : List Cond := [Cond.methodLink RX1 93 yX1_findPathWays, Cond.instanceMethod yX1_findPathWays, Cond.selects RX1 yX1_findPathWays yX1_findPathWays, Cond.code yX1_findPathWays cX1_findPathWays 7 (some .int), Cond.fieldLink RX1 97 "NightPlots$Told" "paths" "I", Cond.methodLink RX1 100 yX3_otherEnd, Cond.instanceMethod yX3_otherEnd, Cond.selects RX3 yX3_otherEnd yX3_otherEnd, Cond.code yX3_otherEnd cX3_otherEnd 3 (some .int), Cond.methodLink RL 45 yX5_as, Cond.instanceMethod yX5_as, Cond.selects RX5 yX5_as yX5_as, Cond.code yX5_as cX5_as 4 (some .int), Cond.fieldLink RX5 225 "NightPlotsModel" "wayMany" "I", Cond.methodLink RX5 242 yX5_layWays, Cond.instanceMethod yX5_layWays, Cond.selects RX5 yX5_layWays yX5_layWays, Cond.code yX5_layWays cX5_layWays 6 none, Cond.methodLink RX5 228 yX5_full, Cond.instanceMethod yX5_full, Cond.selects RX5 yX5_full yX5_full, Cond.code yX5_full cX5_full 3 (some .int), Cond.methodLink RX5 232 yX5_has, Cond.static yX5_has]
def wsL_law_r23 : List Cond := [Cond.code yX5_has cX5_has 2 (some .boolean), Cond.methodLink RX5 235 yX5_addWay, Cond.instanceMethod yX5_addWay, Cond.selects RX5 yX5_addWay yX5_addWay, Cond.code yX5_addWay cX5_addWay 3 none, Cond.methodLink RL 46 yX4_can, Cond.instanceMethod yX4_can, Cond.selects RX4 yX4_can yX4_can, Cond.code yX4_can cX4_can 4 (some .int), Cond.methodLink RL 49 yX5_can, Cond.instanceMethod yX5_can, Cond.selects RX5 yX5_can yX5_can, Cond.code yX5_can cX5_can 3 (some .int), Cond.methodLink RL 50 yX4_go, Cond.instanceMethod yX4_go, Cond.selects RX4 yX4_go yX4_go, Cond.code yX4_go cX4_go 3 (some .int), Cond.fieldLink RX4 130 "NightPlots$Told" "law" "I", Cond.methodLink RX4 133 yX1_passNight, Cond.instanceMethod yX1_passNight, Cond.selects RX1 yX1_passNight yX1_passNight, Cond.code yX1_passNight cX1_passNight 3 none, Cond.methodLink RX1 107 yX1_passNightByLot, Cond.instanceMethod yX1_passNightByLot]
def wsL_law_r24 : List Cond := [Cond.selects RX1 yX1_passNightByLot yX1_passNightByLot, Cond.code yX1_passNightByLot cX1_passNightByLot 3 none, Cond.constant RX1 121 (65521), Cond.methodLink RX1 103 yX1_findWays, Cond.methodLink RX1 122 yX1_rollByNumber, Cond.instanceMethod yX1_rollByNumber, Cond.selects RX1 yX1_rollByNumber yX1_rollByNumber, Cond.code yX1_rollByNumber cX1_rollByNumber 5 none, Cond.methodLink RX1 113 yX1_passNightOf, Cond.instanceMethod yX1_passNightOf, Cond.selects RX1 yX1_passNightOf yX1_passNightOf, Cond.code yX1_passNightOf cX1_passNightOf 4 none, Cond.methodLink RX1 117 yX1_moveHouse, Cond.instanceMethod yX1_moveHouse, Cond.selects RX1 yX1_moveHouse yX1_moveHouse, Cond.code yX1_moveHouse cX1_moveHouse 3 none, Cond.methodLink RX1 110 yX1_chooseRoller, Cond.instanceMethod yX1_chooseRoller, Cond.selects RX1 yX1_chooseRoller yX1_chooseRoller, Cond.code yX1_chooseRoller cX1_chooseRoller 2 (some .int), Cond.methodLink RX1 126 yX1_longestRested, Cond.instanceMethod yX1_longestRested, Cond.selects RX1 yX1_longestRested yX1_longestRested, Cond.code yX1_longestRested cX1_longestRested 4 (some .int)]
def wsL_law_r25 : List Cond := [Cond.methodLink RX1 129 yX1_firstThatCan, Cond.instanceMethod yX1_firstThatCan, Cond.selects RX1 yX1_firstThatCan yX1_firstThatCan, Cond.code yX1_firstThatCan cX1_firstThatCan 4 (some .int), Cond.methodLink RL 54 yX5_go, Cond.instanceMethod yX5_go, Cond.selects RX5 yX5_go yX5_go, Cond.code yX5_go cX5_go 3 (some .int), Cond.fieldLink RX5 245 "NightPlotsModel" "triedLaw" "I", Cond.methodLink RX5 259 yX5_goNight, Cond.instanceMethod yX5_goNight, Cond.selects RX5 yX5_goNight yX5_goNight, Cond.code yX5_goNight cX5_goNight 2 none, Cond.methodLink RX5 253 yX5_goLot, Cond.instanceMethod yX5_goLot, Cond.selects RX5 yX5_goLot yX5_goLot, Cond.code yX5_goLot cX5_goLot 4 none, Cond.constant RX5 248 (65521), Cond.methodLink RX5 249 yX5_rollTo, Cond.instanceMethod yX5_rollTo, Cond.selects RX5 yX5_rollTo yX5_rollTo, Cond.code yX5_rollTo cX5_rollTo 3 none, Cond.methodLink RX5 256 yX5_rolls, Cond.instanceMethod yX5_rolls]
def wsL_law_r26 : List Cond := [Cond.selects RX5 yX5_rolls yX5_rolls, Cond.code yX5_rolls cX5_rolls 5 (some .int), Cond.methodLink RL 55 yX4_roll, Cond.instanceMethod yX4_roll, Cond.selects RX4 yX4_roll yX4_roll, Cond.code yX4_roll cX4_roll 3 (some .int), Cond.methodLink RX4 137 yX1_hasWayTo, Cond.instanceMethod yX1_hasWayTo, Cond.selects RX1 yX1_hasWayTo yX1_hasWayTo, Cond.code yX1_hasWayTo cX1_hasWayTo 5 (some .boolean), Cond.methodLink RX4 140 yX1_passNightOf, Cond.methodLink RL 58 yX5_roll, Cond.instanceMethod yX5_roll, Cond.selects RX5 yX5_roll yX5_roll, Cond.code yX5_roll cX5_roll 5 (some .int), Cond.methodLink RL 59 yX4_keep, Cond.instanceMethod yX4_keep, Cond.selects RX4 yX4_keep yX4_keep, Cond.code yX4_keep cX4_keep 2 (some .int), Cond.methodLink RX4 144 yX1_copyFrom, Cond.instanceMethod yX1_copyFrom, Cond.selects RX1 yX1_copyFrom yX1_copyFrom, Cond.code yX1_copyFrom cX1_copyFrom 2 none, Cond.methodLink RL 62 yX5_keep]
def wsL_law_r27 : List Cond := [Cond.instanceMethod yX5_keep, Cond.selects RX5 yX5_keep yX5_keep, Cond.code yX5_keep cX5_keep 2 (some .int), Cond.methodLink RX5 262 yX5_copy, Cond.static yX5_copy, Cond.code yX5_copy cX5_copy 5 none, Cond.methodLink RL 63 yX4_back, Cond.instanceMethod yX4_back, Cond.selects RX4 yX4_back yX4_back, Cond.code yX4_back cX4_back 2 (some .int), Cond.methodLink RL 66 yX5_back, Cond.instanceMethod yX5_back, Cond.selects RX5 yX5_back yX5_back, Cond.code yX5_back cX5_back 2 (some .int), Cond.methodLink RL 67 yX4_later, Cond.instanceMethod yX4_later, Cond.selects RX4 yX4_later yX4_later, Cond.code yX4_later cX4_later 4 (some .int), Cond.methodLink RL 70 yX5_later, Cond.instanceMethod yX5_later, Cond.selects RX5 yX5_later yX5_later, Cond.code yX5_later cX5_later 4 (some .int), Cond.methodLink RX5 266 yX5_putAside, Cond.instanceMethod yX5_putAside]
def wsL_law_r28 : List Cond := [Cond.selects RX5 yX5_putAside yX5_putAside, Cond.code yX5_putAside cX5_putAside 1 none, Cond.methodLink RX5 269 yX5_putBack, Cond.instanceMethod yX5_putBack, Cond.selects RX5 yX5_putBack yX5_putBack, Cond.code yX5_putBack cX5_putBack 1 none, Cond.methodLink RL 71 yX4_round, Cond.instanceMethod yX4_round, Cond.selects RX4 yX4_round yX4_round, Cond.code yX4_round cX4_round 6 (some .int), Cond.methodLink RX4 146 yX1_stateKey, Cond.instanceMethod yX1_stateKey, Cond.selects RX1 yX1_stateKey yX1_stateKey, Cond.code yX1_stateKey cX1_stateKey 4 (some .long), Cond.methodLink RX1 159 yX1_placesKey, Cond.instanceMethod yX1_placesKey, Cond.selects RX1 yX1_placesKey yX1_placesKey, Cond.code yX1_placesKey cX1_placesKey 4 (some .long), Cond.methodLink RX1 163 yX1_restKey, Cond.instanceMethod yX1_restKey, Cond.selects RX1 yX1_restKey yX1_restKey, Cond.code yX1_restKey cX1_restKey 6 (some .long), Cond.methodLink RX1 167 yX1_restRank, Cond.instanceMethod yX1_restRank]
def wsL_law_r29 : List Cond := [Cond.selects RX1 yX1_restRank yX1_restRank, Cond.code yX1_restRank cX1_restRank 4 (some .int), Cond.methodLink RX4 150 yX4_firstNightWith, Cond.instanceMethod yX4_firstNightWith, Cond.selects RX4 yX4_firstNightWith yX4_firstNightWith, Cond.code yX4_firstNightWith cX4_firstNightWith 5 (some .int), Cond.methodLink RL 74 yX5_round, Cond.instanceMethod yX5_round, Cond.selects RX5 yX5_round yX5_round, Cond.code yX5_round cX5_round 3 (some .int), Cond.methodLink RX5 282 yX5_roundOf, Cond.instanceMethod yX5_roundOf, Cond.selects RX5 yX5_roundOf yX5_roundOf, Cond.code yX5_roundOf cX5_roundOf 4 (some .int), Cond.methodLink RX5 276 yX5_layState, Cond.instanceMethod yX5_layState, Cond.selects RX5 yX5_layState yX5_layState, Cond.code yX5_layState cX5_layState 3 none, Cond.methodLink RX5 272 yX5_rankOf, Cond.instanceMethod yX5_rankOf, Cond.selects RX5 yX5_rankOf yX5_rankOf, Cond.code yX5_rankOf cX5_rankOf 4 (some .int), Cond.methodLink RX5 279 yX5_isLike, Cond.instanceMethod yX5_isLike]
def wsL_law_r30 : List Cond := [Cond.selects RX5 yX5_isLike yX5_isLike, Cond.code yX5_isLike cX5_isLike 5 (some .boolean), Cond.methodLink RL 75 yX4_touch, Cond.instanceMethod yX4_touch, Cond.selects RX4 yX4_touch yX4_touch, Cond.code yX4_touch cX4_touch 5 (some .int), Cond.methodLink RX4 154 yX4_refusePair, Cond.instanceMethod yX4_refusePair, Cond.selects RX4 yX4_refusePair yX4_refusePair, Cond.code yX4_refusePair cX4_refusePair 4 (some .int), Cond.methodLink RX4 158 yX1_meets, Cond.instanceMethod yX1_meets, Cond.selects RX1 yX1_meets yX1_meets, Cond.code yX1_meets cX1_meets 4 (some .boolean), Cond.methodLink RX1 132 yX1_areBeside, Cond.instanceMethod yX1_areBeside, Cond.selects RX1 yX1_areBeside yX1_areBeside, Cond.code yX1_areBeside cX1_areBeside 3 (some .boolean), Cond.methodLink RX1 139 yX3_around, Cond.instanceMethod yX3_around, Cond.selects RX3 yX3_around yX3_around, Cond.code yX3_around cX3_around 4 (some .int), Cond.methodLink RX1 136 yX1_areOpposite, Cond.instanceMethod yX1_areOpposite]
def wsL_law_r31 : List Cond := [Cond.selects RX1 yX1_areOpposite yX1_areOpposite, Cond.code yX1_areOpposite cX1_areOpposite 3 (some .boolean), Cond.methodLink RX1 142 Lib.Math.abs.name, Cond.static Lib.Math.abs.name, Cond.initialized "java/lang/Math", Cond.code Lib.Math.abs.name Lib.Math.abs.code 1 (some .int), Cond.fieldLink RX1 147 "NightPlots$Told" "plots" "I", Cond.methodLink RL 79 yX5_touch, Cond.instanceMethod yX5_touch, Cond.selects RX5 yX5_touch yX5_touch, Cond.code yX5_touch cX5_touch 5 (some .int), Cond.methodLink RX5 288 yX5_whyNot, Cond.instanceMethod yX5_whyNot, Cond.selects RX5 yX5_whyNot yX5_whyNot, Cond.code yX5_whyNot cX5_whyNot 4 (some .int), Cond.methodLink RX5 292 yX5_doTouch, Cond.instanceMethod yX5_doTouch, Cond.selects RX5 yX5_doTouch yX5_doTouch, Cond.code yX5_doTouch cX5_doTouch 4 (some .boolean), Cond.methodLink RX5 285 yX5_areBeside, Cond.instanceMethod yX5_areBeside, Cond.selects RX5 yX5_areBeside yX5_areBeside, Cond.code yX5_areBeside cX5_areBeside 5 (some .boolean), Cond.methodLink RL 80 yX4_when]
def wsL_law_r32 : List Cond := [Cond.instanceMethod yX4_when, Cond.selects RX4 yX4_when yX4_when, Cond.code yX4_when cX4_when 5 (some .int), Cond.methodLink RX4 162 yX4_firstMeeting, Cond.instanceMethod yX4_firstMeeting, Cond.selects RX4 yX4_firstMeeting yX4_firstMeeting, Cond.code yX4_firstMeeting cX4_firstMeeting 6 (some .int), Cond.methodLink RL 83 yX5_when, Cond.instanceMethod yX5_when, Cond.selects RX5 yX5_when yX5_when, Cond.code yX5_when cX5_when 7 (some .int), Cond.methodLink RL 84 yX4_often, Cond.instanceMethod yX4_often, Cond.selects RX4 yX4_often yX4_often, Cond.code yX4_often cX4_often 8 (some .int), Cond.methodLink RX4 166 yX4_areDays, Cond.static yX4_areDays, Cond.code yX4_areDays cX4_areDays 1 (some .boolean), Cond.methodLink RL 88 yX5_often, Cond.instanceMethod yX5_often, Cond.selects RX5 yX5_often yX5_often, Cond.code yX5_often cX5_often 8 (some .int), Cond.methodLink RX5 295 yX5_areDays, Cond.static yX5_areDays]
def wsL_law_r33 : List Cond := [Cond.code yX5_areDays cX5_areDays 1 (some .boolean), Cond.methodLink RL 89 yX4_brings, Cond.instanceMethod yX4_brings, Cond.selects RX4 yX4_brings yX4_brings, Cond.code yX4_brings cX4_brings 5 (some .int), Cond.methodLink RX4 169 yX1_cropUnder, Cond.instanceMethod yX1_cropUnder, Cond.selects RX1 yX1_cropUnder yX1_cropUnder, Cond.code yX1_cropUnder cX1_cropUnder 3 (some .int), Cond.fieldLink RX1 80 "NightPlots$Told" "crop" "[I", Cond.methodLink RL 92 yX5_brings, Cond.instanceMethod yX5_brings, Cond.selects RX5 yX5_brings yX5_brings, Cond.code yX5_brings cX5_brings 6 (some .int), Cond.methodLink RL 93 yX4_feuding, Cond.instanceMethod yX4_feuding, Cond.selects RX4 yX4_feuding yX4_feuding, Cond.code yX4_feuding cX4_feuding 4 (some .int), Cond.methodLink RX4 172 yX1_hasFeudBeside, Cond.instanceMethod yX1_hasFeudBeside, Cond.selects RX1 yX1_hasFeudBeside yX1_hasFeudBeside, Cond.code yX1_hasFeudBeside cX1_hasFeudBeside 2 (some .boolean), Cond.fieldLink RX1 150 "NightPlots$Told" "feuds" "I", Cond.fieldLink RX1 153 "NightPlots$Told" "feudOne" "[I"]
def wsL_law_r34 : List Cond := [Cond.fieldLink RX1 156 "NightPlots$Told" "feudOther" "[I", Cond.methodLink RL 96 yX5_feuding, Cond.instanceMethod yX5_feuding, Cond.selects RX5 yX5_feuding yX5_feuding, Cond.code yX5_feuding cX5_feuding 6 (some .int), Cond.methodLink RL 97 yX4_nearest, Cond.instanceMethod yX4_nearest, Cond.selects RX4 yX4_nearest yX4_nearest, Cond.code yX4_nearest cX4_nearest 6 (some .int), Cond.fieldLink RX4 187 "NightPlots$Search" "firstRoll" "I", Cond.methodLink RX4 176 yX1_areBeside, Cond.methodLink RX4 179 yX0_prepare, Cond.instanceMethod yX0_prepare, Cond.selects RX0 yX0_prepare yX0_prepare, Cond.code yX0_prepare cX0_prepare 3 none, Cond.fieldLink RX0 24 "NightPlots$Search" "a" "I", Cond.fieldLink RX0 28 "NightPlots$Search" "b" "I", Cond.fieldLink RX0 31 "NightPlots$Search" "firstRoll" "I", Cond.methodLink RX0 34 yJ7_fill_d0a16, Cond.static yJ7_fill_d0a16, Cond.code yJ7_fill_d0a16 cJ7_fill_d0a16 5 none, Cond.static yX0_reaches, Cond.code yX0_reaches cX0_reaches 6 (some .boolean), Cond.constantLong RX0 46 (8)]
def wsL_law_r35 : List Cond := [Cond.constantLong RX0 48 (-7046029254386353131), Cond.fieldLink RX0 54 "NightPlots$Told" "houses" "I", Cond.methodLink RX0 40 yX1_placesKey, Cond.methodLink RX0 59 yX0_mayHelp, Cond.instanceMethod yX0_mayHelp, Cond.selects RX0 yX0_mayHelp yX0_mayHelp, Cond.code yX0_mayHelp cX0_mayHelp 3 (some .boolean), Cond.methodLink RX0 63 yX0_reachesBy, Cond.static yX0_reachesBy, Cond.code yX0_reachesBy cX0_reachesBy 8 (some .boolean), Cond.fieldLink RX0 67 "NightPlots$Standing" "place" "[I", Cond.methodLink RX0 71 yX1_findWays, Cond.methodLink RX0 75 yX1_moveHouse, Cond.methodLink RX0 79 yX1_areBeside, Cond.methodLink RX0 82 yX0_reaches, Cond.methodLink RL 100 yX5_nearest, Cond.instanceMethod yX5_nearest, Cond.selects RX5 yX5_nearest yX5_nearest, Cond.code yX5_nearest cX5_nearest 9 (some .int), Cond.methodLink RX5 304 yX5_firstRow, Cond.instanceMethod yX5_firstRow, Cond.selects RX5 yX5_firstRow yX5_firstRow, Cond.code yX5_firstRow cX5_firstRow 7 (some .int), Cond.methodLink RX5 298 yX5_enter]
def wsL_law_r36 : List Cond := [Cond.instanceMethod yX5_enter, Cond.selects RX5 yX5_enter yX5_enter, Cond.code yX5_enter cX5_enter 3 none, Cond.methodLink RX5 301 yX5_restore, Cond.instanceMethod yX5_restore, Cond.selects RX5 yX5_restore yX5_restore, Cond.code yX5_restore cX5_restore 3 none, Cond.methodLink RL 101 yX4_mends, Cond.instanceMethod yX4_mends, Cond.selects RX4 yX4_mends yX4_mends, Cond.code yX4_mends cX4_mends 12 (some .int), Cond.methodLink RX4 190 yX3_stuckOnes, Cond.instanceMethod yX3_stuckOnes, Cond.selects RX3 yX3_stuckOnes yX3_stuckOnes, Cond.code yX3_stuckOnes cX3_stuckOnes 3 (some .int), Cond.methodLink RX4 194 yX4_costOf, Cond.static yX4_costOf, Cond.code yX4_costOf cX4_costOf 3 (some .int), Cond.methodLink RX4 197 yX4_meetsMended, Cond.instanceMethod yX4_meetsMended, Cond.selects RX4 yX4_meetsMended yX4_meetsMended, Cond.code yX4_meetsMended cX4_meetsMended 5 (some .boolean), Cond.fieldLink RX4 228 "NightPlots$Standing" "mended" "I", Cond.methodLink RL 104 yX5_mends]
def wsL_law_r37 : List Cond := [Cond.instanceMethod yX5_mends, Cond.selects RX5 yX5_mends yX5_mends, Cond.code yX5_mends cX5_mends 12 (some .int), Cond.methodLink RX5 308 yX5_mend, Cond.instanceMethod yX5_mend, Cond.selects RX5 yX5_mend yX5_mend, Cond.code yX5_mend cX5_mend 4 none, Cond.methodLink RX5 311 yX5_doMeet, Cond.instanceMethod yX5_doMeet, Cond.selects RX5 yX5_doMeet yX5_doMeet, Cond.code yX5_doMeet cX5_doMeet 6 (some .boolean), Cond.methodLink RL 105 yX4_seen, Cond.instanceMethod yX4_seen, Cond.selects RX4 yX4_seen yX4_seen, Cond.code yX4_seen cX4_seen 4 (some .int), Cond.methodLink RL 108 yX5_seen, Cond.instanceMethod yX5_seen, Cond.selects RX5 yX5_seen yX5_seen, Cond.code yX5_seen cX5_seen 4 (some .int), Cond.methodLink RL 109 yX4_forget, Cond.instanceMethod yX4_forget, Cond.selects RX4 yX4_forget yX4_forget, Cond.code yX4_forget cX4_forget 2 (some .int), Cond.methodLink RL 112 yX5_forget]
def wsL_law_r38 : List Cond := [Cond.instanceMethod yX5_forget, Cond.selects RX5 yX5_forget yX5_forget, Cond.code yX5_forget cX5_forget 2 (some .int), Cond.methodLink RL 113 yX4_laws, Cond.instanceMethod yX4_laws, Cond.selects RX4 yX4_laws yX4_laws, Cond.code yX4_laws cX4_laws 3 (some .int), Cond.methodLink RX4 201 yX4_explainsAllSeen, Cond.instanceMethod yX4_explainsAllSeen, Cond.selects RX4 yX4_explainsAllSeen yX4_explainsAllSeen, Cond.code yX4_explainsAllSeen cX4_explainsAllSeen 3 (some .boolean), Cond.methodLink RX4 231 yX4_explainsNight, Cond.instanceMethod yX4_explainsNight, Cond.selects RX4 yX4_explainsNight yX4_explainsNight, Cond.code yX4_explainsNight cX4_explainsNight 3 (some .boolean), Cond.methodLink RL 116 yX5_laws, Cond.instanceMethod yX5_laws, Cond.selects RX5 yX5_laws yX5_laws, Cond.code yX5_laws cX5_laws 6 (some .int), Cond.methodLink RL 117 yX4_count, Cond.instanceMethod yX4_count, Cond.selects RX4 yX4_count yX4_count, Cond.code yX4_count cX4_count 2 (some .int), Cond.fieldLink RX4 210 "NightPlots$Told" "paths" "I"]
def wsL_law_r39 : List Cond := [Cond.fieldLink RX4 213 "NightPlots$Told" "feuds" "I", Cond.fieldLink RX4 216 "NightPlots$Standing" "turn" "I", Cond.fieldLink RX4 219 "NightPlots$Standing" "x" "I", Cond.fieldLink RX4 225 "NightPlots$Standing" "taken" "I", Cond.methodLink RX4 222 yX3_allPlots, Cond.methodLink RL 120 yX5_count, Cond.instanceMethod yX5_count, Cond.selects RX5 yX5_count yX5_count, Cond.code yX5_count cX5_count 2 (some .int)]
def wsL_law : List Cond := (wsL_law_r1 ++ (wsL_law_r2 ++ (wsL_law_r3 ++ (wsL_law_r4 ++ (wsL_law_r5 ++ (wsL_law_r6 ++ (wsL_law_r7 ++ (wsL_law_r8 ++ (wsL_law_r9 ++ (wsL_law_r10 ++ (wsL_law_r11 ++ (wsL_law_r12 ++ (wsL_law_r13 ++ (wsL_law_r14 ++ (wsL_law_r15 ++ (wsL_law_r16 ++ (wsL_law_r17 ++ (wsL_law_r18 ++ (wsL_law_r19 ++ (wsL_law_r20 ++ (wsL_law_r21 ++ (wsL_law_r22 ++ (wsL_law_r23 ++ (wsL_law_r24 ++ (wsL_law_r25 ++ (wsL_law_r26 ++ (wsL_law_r27 ++ (wsL_law_r28 ++ (wsL_law_r29 ++ (wsL_law_r30 ++ (wsL_law_r31 ++ (wsL_law_r32 ++ (wsL_law_r33 ++ (wsL_law_r34 ++ (wsL_law_r35 ++ (wsL_law_r36 ++ (wsL_law_r37 ++ (wsL_law_r38 ++ wsL_law_r39)))))))))))))))))))))))))))))))))))))) ++ wsX40 ++ wsX50 ++ wsX30 ++ wsX20 ++ wsX10 ++ wsX00 ++ ([] : List Cond)
set_option maxRecDepth 20000 in
theorem wsL_law_in : ∀ w ∈ wsL_law, w ∈ lw_tbl := fun w h => (goodIn_p wsL_law [88, 91, 96, 101, 104, 108, 179, 203, 208, 216, 220, 224, 267, 785, 790, 794, 339, 343, 919, 922, 348, 927, 352, 356, 361, 365, 369, 372, 375, 379, 384, 388, 392, 398, 402, 405, 408, 413, 416, 419, 422, 426, 436, 440, 446, 450, 458, 462, 467, 472, 476, 481, 485, 490, 496, 500, 931, 935, 939, 943, 966, 970, 974, 978, 982, 986, 990, 508, 994, 998, 513, 517, 521, 525, 1002, 1006, 1010, 1014, 530, 534, 1018, 1022, 538, 541, 545, 550, 554, 558, 562, 1026, 1030, 1034, 1037, 1041, 566, 1045, 570, 574, 578, 584, 588, 592, 596, 600, 604, 1049, 1053, 1057, 1062, 1066, 608, 612, 1070, 617, 621, 1074, 1077, 625, 1081, 629, 1085, 1089, 1093, 633, 637, 641, 645, 649, 653, 1097, 1101, 1105, 1109, 1113, 657, 661, 665, 669, 673, 677, 680, 1117, 1121, 1125, 1129, 684, 688, 1133, 692, 695, 1137, 1140, 699, 703, 1144, 707, 711, 1148, 715, 720, 723, 726, 733, 736, 1152, 1156, 1160, 1164, 744, 748, 751, 755, 1168, 1172, 1176, 759, 1180, 763, 1184, 767, 771, 775, 1188, 779, 1192] (by decide +kernel) (by decide +kernel) w h).1
theorem inlX0 : ∀ w ∈ wsX00, w ∈ wsL_law := fun _ h => List.mem_append_left _ (List.mem_append_right _ h)
theorem inX0 : ∀ w ∈ wsX00, w ∈ lw_tbl := fun w h => wsL_law_in w (inlX0 w h)
theorem inlX1 : ∀ w ∈ wsX10, w ∈ wsL_law := fun _ h => List.mem_append_left _ (List.mem_append_left _ (List.mem_append_right _ h))
theorem inX1 : ∀ w ∈ wsX10, w ∈ lw_tbl := fun w h => wsL_law_in w (inlX1 w h)
theorem inlX2 : ∀ w ∈ wsX20, w ∈ wsL_law := fun _ h => List.mem_append_left _ (List.mem_append_left _ (List.mem_append_left _ (List.mem_append_right _ h)))
theorem inX2 : ∀ w ∈ wsX20, w ∈ lw_tbl := fun w h => wsL_law_in w (inlX2 w h)
theorem inlX3 : ∀ w ∈ wsX30, w ∈ wsL_law := fun _ h => List.mem_append_left _ (List.mem_append_left _ (List.mem_append_left _ (List.mem_append_left _ (List.mem_append_right _ h))))
theorem inX3 : ∀ w ∈ wsX30, w ∈ lw_tbl := fun w h => wsL_law_in w (inlX3 w h)
theorem inlX4 : ∀ w ∈ wsX40, w ∈ wsL_law := fun _ h => List.mem_append_left _ (List.mem_append_left _ (List.mem_append_left _ (List.mem_append_left _ (List.mem_append_left _ (List.mem_append_left _ (List.mem_append_right _ h))))))
theorem inX4 : ∀ w ∈ wsX40, w ∈ lw_tbl := fun w h => wsL_law_in w (inlX4 w h)
theorem inlX5 : ∀ w ∈ wsX50, w ∈ wsL_law := fun _ h => List.mem_append_left _ (List.mem_append_left _ (List.mem_append_left _ (List.mem_append_left _ (List.mem_append_left _ (List.mem_append_right _ h)))))
theorem inX5 : ∀ w ∈ wsX50, w ∈ lw_tbl := fun w h => wsL_law_in w (inlX5 w h)
theorem inJx145de : ∀ w ∈ wsJx145de0, w ∈ lw_tbl := by decide +kernel
theorem inJx9f9b0 : ∀ w ∈ wsJx9f9b00, w ∈ lw_tbl := by decide +kernel
theorem inJxb160c : ∀ w ∈ wsJxb160c0, w ∈ lw_tbl := by decide +kernel
theorem inJ9 : ∀ w ∈ wsJ90, w ∈ lw_tbl := by decide +kernel
theorem inJ0 : ∀ w ∈ wsJ00, w ∈ lw_tbl := by decide +kernel
theorem inJ1 : ∀ w ∈ wsJ10, w ∈ lw_tbl := by decide +kernel
theorem inJ2 : ∀ w ∈ wsJ20, w ∈ lw_tbl := by decide +kernel
theorem inJ10 : ∀ w ∈ wsJ100, w ∈ lw_tbl := by decide +kernel
theorem inJxfd54e : ∀ w ∈ wsJxfd54e0, w ∈ lw_tbl := by decide +kernel
theorem inJx3cf43 : ∀ w ∈ wsJx3cf430, w ∈ lw_tbl := by decide +kernel
theorem inJ7 : ∀ w ∈ wsJ70, w ∈ lw_tbl := by decide +kernel
theorem inJ3 : ∀ w ∈ wsJ30, w ∈ lw_tbl := by decide +kernel
theorem dX0_init_0 : decode cX0_init 0 = .ok (.aload_n 0, 1) := by decide +kernel
theorem dX0_init_1 : decode cX0_init 1 = .ok (.invokespecial 3, 3) := by decide +kernel
theorem dX0_init_4 : decode cX0_init 4 = .ok (.aload_n 0, 1) := by decide +kernel
theorem dX0_init_5 : decode cX0_init 5 = .ok (.bipush 6, 2) := by decide +kernel
theorem dX0_init_7 : decode cX0_init 7 = .ok (.bipush 8, 2) := by decide +kernel
theorem dX0_init_9 : decode cX0_init 9 = .ok (.multianewarray 9 2, 4) := by decide +kernel
theorem dX0_init_13 : decode cX0_init 13 = .ok (.putfield 11, 3) := by decide +kernel
theorem dX0_init_16 : decode cX0_init 16 = .ok (.aload_n 0, 1) := by decide +kernel
theorem dX0_init_17 : decode cX0_init 17 = .ok (.sipush 4096, 3) := by decide +kernel
theorem dX0_init_20 : decode cX0_init 20 = .ok (.newarray .long, 2) := by decide +kernel
theorem dX0_init_22 : decode cX0_init 22 = .ok (.putfield 16, 3) := by decide +kernel
theorem dX0_init_25 : decode cX0_init 25 = .ok (.aload_n 0, 1) := by decide +kernel
theorem dX0_init_26 : decode cX0_init 26 = .ok (.aload_n 1, 1) := by decide +kernel
theorem dX0_init_27 : decode cX0_init 27 = .ok (.putfield 20, 3) := by decide +kernel
theorem dX0_init_30 : decode cX0_init 30 = .ok (.return_, 1) := by decide +kernel
set_option maxRecDepth 20000 in
theorem ggX0_prepare_J7_fill_d0a16 : GoodIn wsX0_prepare wsJ7_fill_d0a16 := goodIn_r _ [8] (by decide +kernel) (by decide +kernel)
set_option maxRecDepth 20000 in
theorem gX0_prepare_J7_fill_d0a16 : GoodIn wsX0_prepare (va_wsS RX0 34 yJ7_fill_d0a16 wsJ7_fill_d0a16) := goodIn_app (goodIn_of _ (by decide +kernel)) ggX0_prepare_J7_fill_d0a16
theorem dX0_prepare_0 : decode cX0_prepare 0 = .ok (.aload_n 0, 1) := by decide +kernel
theorem dX0_prepare_1 : decode cX0_prepare 1 = .ok (.iload_n 1, 1) := by decide +kernel
theorem dX0_prepare_2 : decode cX0_prepare 2 = .ok (.putfield 24, 3) := by decide +kernel
theorem dX0_prepare_5 : decode cX0_prepare 5 = .ok (.aload_n 0, 1) := by decide +kernel
theorem dX0_prepare_6 : decode cX0_prepare 6 = .ok (.iload_n 2, 1) := by decide +kernel
theorem dX0_prepare_7 : decode cX0_prepare 7 = .ok (.putfield 28, 3) := by decide +kernel
theorem dX0_prepare_10 : decode cX0_prepare 10 = .ok (.aload_n 0, 1) := by decide +kernel
theorem dX0_prepare_11 : decode cX0_prepare 11 = .ok (.iconst (-1), 1) := by decide +kernel
theorem dX0_prepare_12 : decode cX0_prepare 12 = .ok (.putfield 31, 3) := by decide +kernel
theorem dX0_prepare_15 : decode cX0_prepare 15 = .ok (.aload_n 0, 1) := by decide +kernel
theorem dX0_prepare_16 : decode cX0_prepare 16 = .ok (.getfield 16, 3) := by decide +kernel
theorem dX0_prepare_19 : decode cX0_prepare 19 = .ok (.lconst 0, 1) := by decide +kernel
theorem dX0_prepare_20 : decode cX0_prepare 20 = .ok (.invokestatic 34, 3) := by decide +kernel
theorem dX0_prepare_23 : decode cX0_prepare 23 = .ok (.return_, 1) := by decide +kernel
set_option maxRecDepth 20000 in
theorem ggX0_reaches_X1_placesKey : GoodIn wsX0_reaches wsX1_placesKey := goodIn_r _ [10, 11, 12, 13, 92, 93, 94, 95, 96, 97, 98, 99, 100, 101, 102, 103, 104, 105, 106, 107, 108, 109, 110, 111, 112, 113] (by decide +kernel) (by decide +kernel)
set_option maxRecDepth 20000 in
theorem gX0_reaches_X1_placesKey : GoodIn wsX0_reaches (wsV RX0 40 RX1 yX1_placesKey wsX1_placesKey) := goodIn_app (goodIn_of _ (by decide +kernel)) ggX0_reaches_X1_placesKey
set_option maxRecDepth 20000 in
theorem ggX0_reaches_X0_mayHelp : GoodIn wsX0_reaches wsX0_mayHelp := goodIn_r _ [18, 19, 20, 86, 87, 88, 89, 90, 91] (by decide +kernel) (by decide +kernel)
set_option maxRecDepth 20000 in
theorem gX0_reaches_X0_mayHelp : GoodIn wsX0_reaches (wsV RX0 59 RX0 yX0_mayHelp wsX0_mayHelp) := goodIn_app (goodIn_of _ (by decide +kernel)) ggX0_reaches_X0_mayHelp
set_option maxRecDepth 20000 in
theorem ggX0_reaches_X0_reachesBy : GoodIn wsX0_reaches wsX0_reachesBy := goodIn_r _ [23, 24, 1, 25, 19, 20, 26, 27, 28, 29, 9, 30, 11, 31, 32, 13, 33, 34, 35, 36, 37, 38, 39, 40, 41, 42, 43, 44, 45, 46, 47, 48, 49, 50, 51, 52, 53, 54, 55, 56, 57, 58, 59, 60, 61, 62, 63, 64, 65, 66, 67, 68, 69, 70, 71, 72, 73, 74, 75, 76, 77, 78, 79, 80, 81, 82, 83, 84, 85, 17, 0, 2, 3, 4, 5, 6, 7, 8, 10, 12, 14, 15, 16, 18, 21, 22, 86, 87, 88, 89, 90, 91, 92, 93, 94, 95, 96, 97, 98, 99, 100, 101, 102, 103, 104, 105, 106, 107, 108, 109, 110, 111, 112, 113] (by decide +kernel) (by decide +kernel)
set_option maxRecDepth 20000 in
theorem gX0_reaches_X0_reachesBy : GoodIn wsX0_reaches (va_wsS RX0 63 yX0_reachesBy wsX0_reachesBy) := goodIn_app (goodIn_of _ (by decide +kernel)) ggX0_reaches_X0_reachesBy
theorem dX0_reaches_0 : decode cX0_reaches 0 = .ok (.iload_n 1, 1) := by decide +kernel
theorem dX0_reaches_1 : decode cX0_reaches 1 = .ok (.iconst 1, 1) := by decide +kernel
theorem dX0_reaches_2 : decode cX0_reaches 2 = .ok (.if_icmp .lt 8, 3) := by decide +kernel
theorem dX0_reaches_5 : decode cX0_reaches 5 = .ok (.iload_n 1, 1) := by decide +kernel
theorem dX0_reaches_6 : decode cX0_reaches 6 = .ok (.iconst 5, 1) := by decide +kernel
theorem dX0_reaches_7 : decode cX0_reaches 7 = .ok (.if_icmp .le 5, 3) := by decide +kernel
theorem dX0_reaches_10 : decode cX0_reaches 10 = .ok (.iconst 0, 1) := by decide +kernel
theorem dX0_reaches_11 : decode cX0_reaches 11 = .ok (.ireturn, 1) := by decide +kernel
theorem dX0_reaches_12 : decode cX0_reaches 12 = .ok (.aload_n 0, 1) := by decide +kernel
theorem dX0_reaches_13 : decode cX0_reaches 13 = .ok (.getfield 20, 3) := by decide +kernel
theorem dX0_reaches_16 : decode cX0_reaches 16 = .ok (.invokevirtual 40, 3) := by decide +kernel
theorem dX0_reaches_19 : decode cX0_reaches 19 = .ok (.ldc2_w 46, 3) := by decide +kernel
theorem dX0_reaches_22 : decode cX0_reaches 22 = .ok (.lmul, 1) := by decide +kernel
theorem dX0_reaches_23 : decode cX0_reaches 23 = .ok (.iload_n 1, 1) := by decide +kernel
theorem dX0_reaches_24 : decode cX0_reaches 24 = .ok (.i2l, 1) := by decide +kernel
theorem dX0_reaches_25 : decode cX0_reaches 25 = .ok (.ladd, 1) := by decide +kernel
theorem dX0_reaches_26 : decode cX0_reaches 26 = .ok (.lstore_n 2, 1) := by decide +kernel
theorem dX0_reaches_27 : decode cX0_reaches 27 = .ok (.lload_n 2, 1) := by decide +kernel
theorem dX0_reaches_28 : decode cX0_reaches 28 = .ok (.ldc2_w 48, 3) := by decide +kernel
theorem dX0_reaches_31 : decode cX0_reaches 31 = .ok (.lmul, 1) := by decide +kernel
theorem dX0_reaches_32 : decode cX0_reaches 32 = .ok (.bipush 52, 2) := by decide +kernel
theorem dX0_reaches_34 : decode cX0_reaches 34 = .ok (.lushr, 1) := by decide +kernel
theorem dX0_reaches_35 : decode cX0_reaches 35 = .ok (.l2i, 1) := by decide +kernel
theorem dX0_reaches_36 : decode cX0_reaches 36 = .ok (.istore 4, 2) := by decide +kernel
theorem dX0_reaches_38 : decode cX0_reaches 38 = .ok (.aload_n 0, 1) := by decide +kernel
theorem dX0_reaches_39 : decode cX0_reaches 39 = .ok (.getfield 16, 3) := by decide +kernel
theorem dX0_reaches_42 : decode cX0_reaches 42 = .ok (.iload 4, 2) := by decide +kernel
theorem dX0_reaches_44 : decode cX0_reaches 44 = .ok (.laload, 1) := by decide +kernel
theorem dX0_reaches_45 : decode cX0_reaches 45 = .ok (.lload_n 2, 1) := by decide +kernel
theorem dX0_reaches_46 : decode cX0_reaches 46 = .ok (.lcmp, 1) := by decide +kernel
theorem dX0_reaches_47 : decode cX0_reaches 47 = .ok (.ifCond .ne 5, 3) := by decide +kernel
theorem dX0_reaches_50 : decode cX0_reaches 50 = .ok (.iconst 0, 1) := by decide +kernel
theorem dX0_reaches_51 : decode cX0_reaches 51 = .ok (.ireturn, 1) := by decide +kernel
theorem dX0_reaches_52 : decode cX0_reaches 52 = .ok (.iconst 0, 1) := by decide +kernel
theorem dX0_reaches_53 : decode cX0_reaches 53 = .ok (.istore 5, 2) := by decide +kernel
theorem dX0_reaches_55 : decode cX0_reaches 55 = .ok (.iload 5, 2) := by decide +kernel
theorem dX0_reaches_57 : decode cX0_reaches 57 = .ok (.aload_n 0, 1) := by decide +kernel
theorem dX0_reaches_58 : decode cX0_reaches 58 = .ok (.getfield 20, 3) := by decide +kernel
theorem dX0_reaches_61 : decode cX0_reaches 61 = .ok (.getfield 50, 3) := by decide +kernel
theorem dX0_reaches_64 : decode cX0_reaches 64 = .ok (.getfield 54, 3) := by decide +kernel
theorem dX0_reaches_67 : decode cX0_reaches 67 = .ok (.if_icmp .ge 31, 3) := by decide +kernel
theorem dX0_reaches_70 : decode cX0_reaches 70 = .ok (.aload_n 0, 1) := by decide +kernel
theorem dX0_reaches_71 : decode cX0_reaches 71 = .ok (.iload 5, 2) := by decide +kernel
theorem dX0_reaches_73 : decode cX0_reaches 73 = .ok (.iload_n 1, 1) := by decide +kernel
theorem dX0_reaches_74 : decode cX0_reaches 74 = .ok (.invokevirtual 59, 3) := by decide +kernel
theorem dX0_reaches_77 : decode cX0_reaches 77 = .ok (.ifCond .eq 15, 3) := by decide +kernel
theorem dX0_reaches_80 : decode cX0_reaches 80 = .ok (.aload_n 0, 1) := by decide +kernel
theorem dX0_reaches_81 : decode cX0_reaches 81 = .ok (.iload 5, 2) := by decide +kernel
theorem dX0_reaches_83 : decode cX0_reaches 83 = .ok (.iload_n 1, 1) := by decide +kernel
theorem dX0_reaches_84 : decode cX0_reaches 84 = .ok (.invokestatic 63, 3) := by decide +kernel
theorem dX0_reaches_87 : decode cX0_reaches 87 = .ok (.ifCond .eq 5, 3) := by decide +kernel
theorem dX0_reaches_90 : decode cX0_reaches 90 = .ok (.iconst 1, 1) := by decide +kernel
theorem dX0_reaches_91 : decode cX0_reaches 91 = .ok (.ireturn, 1) := by decide +kernel
theorem dX0_reaches_92 : decode cX0_reaches 92 = .ok (.iinc 5 1, 3) := by decide +kernel
theorem dX0_reaches_95 : decode cX0_reaches 95 = .ok (.goto (-40), 3) := by decide +kernel
theorem dX0_reaches_98 : decode cX0_reaches 98 = .ok (.aload_n 0, 1) := by decide +kernel
theorem dX0_reaches_99 : decode cX0_reaches 99 = .ok (.getfield 16, 3) := by decide +kernel
theorem dX0_reaches_102 : decode cX0_reaches 102 = .ok (.iload 4, 2) := by decide +kernel
theorem dX0_reaches_104 : decode cX0_reaches 104 = .ok (.lload_n 2, 1) := by decide +kernel
theorem dX0_reaches_105 : decode cX0_reaches 105 = .ok (.lastore, 1) := by decide +kernel
theorem dX0_reaches_106 : decode cX0_reaches 106 = .ok (.iconst 0, 1) := by decide +kernel
theorem dX0_reaches_107 : decode cX0_reaches 107 = .ok (.ireturn, 1) := by decide +kernel
set_option maxRecDepth 20000 in
theorem ggX0_reachesBy_X1_findWays : GoodIn wsX0_reachesBy wsX1_findWays := goodIn_r _ [11, 12, 13, 14, 15, 16, 17, 18, 19, 20, 21, 22, 23, 24, 25, 26, 27, 28, 10, 29, 30, 31, 32, 33, 34, 35, 36, 37, 38, 39, 40, 41, 92, 93, 94, 95, 96, 97, 98, 99, 100, 101, 102, 103, 104, 105, 106, 107, 108, 109, 110, 111, 112, 113] (by decide +kernel) (by decide +kernel)
set_option maxRecDepth 20000 in
theorem gX0_reachesBy_X1_findWays : GoodIn wsX0_reachesBy (wsV RX0 71 RX1 yX1_findWays wsX1_findWays) := goodIn_app (goodIn_of _ (by decide +kernel)) ggX0_reachesBy_X1_findWays
set_option maxRecDepth 20000 in
theorem ggX0_reachesBy_X1_moveHouse : GoodIn wsX0_reachesBy wsX1_moveHouse := goodIn_r _ [45, 30, 15, 46, 47, 48, 10, 49, 12, 13, 50, 51, 52, 19, 53, 54, 17, 18, 20, 21, 92, 93, 94, 95, 96, 97, 98, 99, 100, 101, 102, 103, 104, 105, 106, 107, 108, 109, 110, 111, 112, 113] (by decide +kernel) (by decide +kernel)
set_option maxRecDepth 20000 in
theorem gX0_reachesBy_X1_moveHouse : GoodIn wsX0_reachesBy (wsV RX0 75 RX1 yX1_moveHouse wsX1_moveHouse) := goodIn_app (goodIn_of _ (by decide +kernel)) ggX0_reachesBy_X1_moveHouse
set_option maxRecDepth 20000 in
theorem ggX0_reachesBy_X1_areBeside : GoodIn wsX0_reachesBy wsX1_areBeside := goodIn_r _ [58, 12, 46, 47, 48, 10, 49, 13, 15, 50, 51, 52, 19, 53, 54, 17, 18, 20, 21, 59, 60, 61, 62, 63, 64, 65, 66, 92, 93, 94, 95, 96, 97, 98, 99, 100, 101, 102, 103, 104, 105, 106, 107, 108, 109, 110, 111, 112, 113] (by decide +kernel) (by decide +kernel)
set_option maxRecDepth 20000 in
theorem gX0_reachesBy_X1_areBeside : GoodIn wsX0_reachesBy (wsV RX0 79 RX1 yX1_areBeside wsX1_areBeside) := goodIn_app (goodIn_of _ (by decide +kernel)) ggX0_reachesBy_X1_areBeside
set_option maxRecDepth 20000 in
theorem ggX0_reachesBy_X0_reaches : GoodIn wsX0_reachesBy wsX0_reaches := goodIn_r _ [70, 2, 71, 72, 73, 74, 75, 76, 77, 10, 78, 12, 79, 15, 80, 81, 82, 69, 83, 4, 5, 84, 85, 0, 1, 3, 6, 7, 8, 9, 11, 13, 14, 16, 17, 18, 19, 20, 21, 22, 23, 24, 25, 26, 27, 28, 29, 30, 31, 32, 33, 34, 35, 36, 37, 38, 39, 40, 41, 42, 43, 44, 45, 46, 47, 48, 49, 50, 51, 52, 53, 54, 55, 56, 57, 58, 59, 60, 61, 62, 63, 64, 65, 66, 67, 68, 86, 87, 88, 89, 90, 91, 92, 93, 94, 95, 96, 97, 98, 99, 100, 101, 102, 103, 104, 105, 106, 107, 108, 109, 110, 111, 112, 113] (by decide +kernel) (by decide +kernel)
set_option maxRecDepth 20000 in
theorem gX0_reachesBy_X0_reaches : GoodIn wsX0_reachesBy (va_wsS RX0 82 yX0_reaches wsX0_reaches) := goodIn_app (goodIn_of _ (by decide +kernel)) ggX0_reachesBy_X0_reaches
theorem dX0_reachesBy_0 : decode cX0_reachesBy 0 = .ok (.aload_n 0, 1) := by decide +kernel
theorem dX0_reachesBy_1 : decode cX0_reachesBy 1 = .ok (.getfield 11, 3) := by decide +kernel
theorem dX0_reachesBy_4 : decode cX0_reachesBy 4 = .ok (.iload_n 2, 1) := by decide +kernel
theorem dX0_reachesBy_5 : decode cX0_reachesBy 5 = .ok (.aaload, 1) := by decide +kernel
theorem dX0_reachesBy_6 : decode cX0_reachesBy 6 = .ok (.astore_n 3, 1) := by decide +kernel
theorem dX0_reachesBy_7 : decode cX0_reachesBy 7 = .ok (.aload_n 0, 1) := by decide +kernel
theorem dX0_reachesBy_8 : decode cX0_reachesBy 8 = .ok (.getfield 20, 3) := by decide +kernel
theorem dX0_reachesBy_11 : decode cX0_reachesBy 11 = .ok (.getfield 67, 3) := by decide +kernel
theorem dX0_reachesBy_14 : decode cX0_reachesBy 14 = .ok (.iload_n 1, 1) := by decide +kernel
theorem dX0_reachesBy_15 : decode cX0_reachesBy 15 = .ok (.iaload, 1) := by decide +kernel
theorem dX0_reachesBy_16 : decode cX0_reachesBy 16 = .ok (.istore 4, 2) := by decide +kernel
theorem dX0_reachesBy_18 : decode cX0_reachesBy 18 = .ok (.aload_n 0, 1) := by decide +kernel
theorem dX0_reachesBy_19 : decode cX0_reachesBy 19 = .ok (.getfield 20, 3) := by decide +kernel
theorem dX0_reachesBy_22 : decode cX0_reachesBy 22 = .ok (.iload_n 1, 1) := by decide +kernel
theorem dX0_reachesBy_23 : decode cX0_reachesBy 23 = .ok (.aload_n 3, 1) := by decide +kernel
theorem dX0_reachesBy_24 : decode cX0_reachesBy 24 = .ok (.invokevirtual 71, 3) := by decide +kernel
theorem dX0_reachesBy_27 : decode cX0_reachesBy 27 = .ok (.istore 5, 2) := by decide +kernel
theorem dX0_reachesBy_29 : decode cX0_reachesBy 29 = .ok (.iconst 0, 1) := by decide +kernel
theorem dX0_reachesBy_30 : decode cX0_reachesBy 30 = .ok (.istore 6, 2) := by decide +kernel
theorem dX0_reachesBy_32 : decode cX0_reachesBy 32 = .ok (.iload 6, 2) := by decide +kernel
theorem dX0_reachesBy_34 : decode cX0_reachesBy 34 = .ok (.iload 5, 2) := by decide +kernel
theorem dX0_reachesBy_36 : decode cX0_reachesBy 36 = .ok (.if_icmp .ge 90, 3) := by decide +kernel
theorem dX0_reachesBy_39 : decode cX0_reachesBy 39 = .ok (.iload 6, 2) := by decide +kernel
theorem dX0_reachesBy_41 : decode cX0_reachesBy 41 = .ok (.aload_n 3, 1) := by decide +kernel
theorem dX0_reachesBy_42 : decode cX0_reachesBy 42 = .ok (.arraylength, 1) := by decide +kernel
theorem dX0_reachesBy_43 : decode cX0_reachesBy 43 = .ok (.if_icmp .ge 83, 3) := by decide +kernel
theorem dX0_reachesBy_46 : decode cX0_reachesBy 46 = .ok (.aload_n 0, 1) := by decide +kernel
theorem dX0_reachesBy_47 : decode cX0_reachesBy 47 = .ok (.getfield 20, 3) := by decide +kernel
theorem dX0_reachesBy_50 : decode cX0_reachesBy 50 = .ok (.iload_n 1, 1) := by decide +kernel
theorem dX0_reachesBy_51 : decode cX0_reachesBy 51 = .ok (.aload_n 3, 1) := by decide +kernel
theorem dX0_reachesBy_52 : decode cX0_reachesBy 52 = .ok (.iload 6, 2) := by decide +kernel
theorem dX0_reachesBy_54 : decode cX0_reachesBy 54 = .ok (.iaload, 1) := by decide +kernel
theorem dX0_reachesBy_55 : decode cX0_reachesBy 55 = .ok (.invokevirtual 75, 3) := by decide +kernel
theorem dX0_reachesBy_58 : decode cX0_reachesBy 58 = .ok (.iload_n 2, 1) := by decide +kernel
theorem dX0_reachesBy_59 : decode cX0_reachesBy 59 = .ok (.iconst 1, 1) := by decide +kernel
theorem dX0_reachesBy_60 : decode cX0_reachesBy 60 = .ok (.if_icmp .ne 21, 3) := by decide +kernel
theorem dX0_reachesBy_63 : decode cX0_reachesBy 63 = .ok (.aload_n 0, 1) := by decide +kernel
theorem dX0_reachesBy_64 : decode cX0_reachesBy 64 = .ok (.getfield 20, 3) := by decide +kernel
theorem dX0_reachesBy_67 : decode cX0_reachesBy 67 = .ok (.aload_n 0, 1) := by decide +kernel
theorem dX0_reachesBy_68 : decode cX0_reachesBy 68 = .ok (.getfield 24, 3) := by decide +kernel
theorem dX0_reachesBy_71 : decode cX0_reachesBy 71 = .ok (.aload_n 0, 1) := by decide +kernel
theorem dX0_reachesBy_72 : decode cX0_reachesBy 72 = .ok (.getfield 28, 3) := by decide +kernel
theorem dX0_reachesBy_75 : decode cX0_reachesBy 75 = .ok (.invokevirtual 79, 3) := by decide +kernel
theorem dX0_reachesBy_78 : decode cX0_reachesBy 78 = .ok (.goto 10, 3) := by decide +kernel
theorem dX0_reachesBy_81 : decode cX0_reachesBy 81 = .ok (.aload_n 0, 1) := by decide +kernel
theorem dX0_reachesBy_82 : decode cX0_reachesBy 82 = .ok (.iload_n 2, 1) := by decide +kernel
theorem dX0_reachesBy_83 : decode cX0_reachesBy 83 = .ok (.iconst 1, 1) := by decide +kernel
theorem dX0_reachesBy_84 : decode cX0_reachesBy 84 = .ok (.isub, 1) := by decide +kernel
theorem dX0_reachesBy_85 : decode cX0_reachesBy 85 = .ok (.invokestatic 82, 3) := by decide +kernel
theorem dX0_reachesBy_88 : decode cX0_reachesBy 88 = .ok (.istore 7, 2) := by decide +kernel
theorem dX0_reachesBy_90 : decode cX0_reachesBy 90 = .ok (.aload_n 0, 1) := by decide +kernel
theorem dX0_reachesBy_91 : decode cX0_reachesBy 91 = .ok (.getfield 20, 3) := by decide +kernel
theorem dX0_reachesBy_94 : decode cX0_reachesBy 94 = .ok (.iload_n 1, 1) := by decide +kernel
theorem dX0_reachesBy_95 : decode cX0_reachesBy 95 = .ok (.iload 4, 2) := by decide +kernel
theorem dX0_reachesBy_97 : decode cX0_reachesBy 97 = .ok (.invokevirtual 75, 3) := by decide +kernel
theorem dX0_reachesBy_100 : decode cX0_reachesBy 100 = .ok (.iload 7, 2) := by decide +kernel
theorem dX0_reachesBy_102 : decode cX0_reachesBy 102 = .ok (.ifCond .eq 18, 3) := by decide +kernel
theorem dX0_reachesBy_105 : decode cX0_reachesBy 105 = .ok (.aload_n 0, 1) := by decide +kernel
theorem dX0_reachesBy_106 : decode cX0_reachesBy 106 = .ok (.bipush 20, 2) := by decide +kernel
theorem dX0_reachesBy_108 : decode cX0_reachesBy 108 = .ok (.iload_n 1, 1) := by decide +kernel
theorem dX0_reachesBy_109 : decode cX0_reachesBy 109 = .ok (.imul, 1) := by decide +kernel
theorem dX0_reachesBy_110 : decode cX0_reachesBy 110 = .ok (.aload_n 3, 1) := by decide +kernel
theorem dX0_reachesBy_111 : decode cX0_reachesBy 111 = .ok (.iload 6, 2) := by decide +kernel
theorem dX0_reachesBy_113 : decode cX0_reachesBy 113 = .ok (.iaload, 1) := by decide +kernel
theorem dX0_reachesBy_114 : decode cX0_reachesBy 114 = .ok (.iadd, 1) := by decide +kernel
theorem dX0_reachesBy_115 : decode cX0_reachesBy 115 = .ok (.putfield 31, 3) := by decide +kernel
theorem dX0_reachesBy_118 : decode cX0_reachesBy 118 = .ok (.iconst 1, 1) := by decide +kernel
theorem dX0_reachesBy_119 : decode cX0_reachesBy 119 = .ok (.ireturn, 1) := by decide +kernel
theorem dX0_reachesBy_120 : decode cX0_reachesBy 120 = .ok (.iinc 6 1, 3) := by decide +kernel
theorem dX0_reachesBy_123 : decode cX0_reachesBy 123 = .ok (.goto (-91), 3) := by decide +kernel
theorem dX0_reachesBy_126 : decode cX0_reachesBy 126 = .ok (.iconst 0, 1) := by decide +kernel
theorem dX0_reachesBy_127 : decode cX0_reachesBy 127 = .ok (.ireturn, 1) := by decide +kernel
theorem dX0_mayHelp_0 : decode cX0_mayHelp 0 = .ok (.iload_n 2, 1) := by decide +kernel
theorem dX0_mayHelp_1 : decode cX0_mayHelp 1 = .ok (.iconst 1, 1) := by decide +kernel
theorem dX0_mayHelp_2 : decode cX0_mayHelp 2 = .ok (.if_icmp .gt 19, 3) := by decide +kernel
theorem dX0_mayHelp_5 : decode cX0_mayHelp 5 = .ok (.iload_n 1, 1) := by decide +kernel
theorem dX0_mayHelp_6 : decode cX0_mayHelp 6 = .ok (.aload_n 0, 1) := by decide +kernel
theorem dX0_mayHelp_7 : decode cX0_mayHelp 7 = .ok (.getfield 24, 3) := by decide +kernel
theorem dX0_mayHelp_10 : decode cX0_mayHelp 10 = .ok (.if_icmp .eq 11, 3) := by decide +kernel
theorem dX0_mayHelp_13 : decode cX0_mayHelp 13 = .ok (.iload_n 1, 1) := by decide +kernel
theorem dX0_mayHelp_14 : decode cX0_mayHelp 14 = .ok (.aload_n 0, 1) := by decide +kernel
theorem dX0_mayHelp_15 : decode cX0_mayHelp 15 = .ok (.getfield 28, 3) := by decide +kernel
theorem dX0_mayHelp_18 : decode cX0_mayHelp 18 = .ok (.if_icmp .ne 7, 3) := by decide +kernel
theorem dX0_mayHelp_21 : decode cX0_mayHelp 21 = .ok (.iconst 1, 1) := by decide +kernel
theorem dX0_mayHelp_22 : decode cX0_mayHelp 22 = .ok (.goto 4, 3) := by decide +kernel
theorem dX0_mayHelp_25 : decode cX0_mayHelp 25 = .ok (.iconst 0, 1) := by decide +kernel
theorem dX0_mayHelp_26 : decode cX0_mayHelp 26 = .ok (.ireturn, 1) := by decide +kernel
set_option maxRecDepth 20000 in
theorem ggX1_init_X1_startAsTold : GoodIn wsX1_init wsX1_startAsTold := goodIn_r _ [13, 8, 14, 5, 15, 16, 17, 18, 6, 19, 20, 21, 22, 23, 24, 25, 26, 27, 28, 29, 30, 31, 32, 33, 34, 35, 36, 37, 38, 39, 40, 41, 42, 43, 44, 45, 46, 47, 48, 49, 50, 51, 52, 53, 54, 55, 56, 57, 58, 59, 60, 61, 62, 63, 64, 65, 66, 67] (by decide +kernel) (by decide +kernel)
set_option maxRecDepth 20000 in
theorem gX1_init_X1_startAsTold : GoodIn wsX1_init (wsV RX1 25 RX1 yX1_startAsTold wsX1_startAsTold) := goodIn_app (goodIn_of _ (by decide +kernel)) ggX1_init_X1_startAsTold
theorem dX1_init_0 : decode cX1_init 0 = .ok (.aload_n 0, 1) := by decide +kernel
theorem dX1_init_1 : decode cX1_init 1 = .ok (.invokespecial 3, 3) := by decide +kernel
theorem dX1_init_4 : decode cX1_init 4 = .ok (.aload_n 0, 1) := by decide +kernel
theorem dX1_init_5 : decode cX1_init 5 = .ok (.bipush 8, 2) := by decide +kernel
theorem dX1_init_7 : decode cX1_init 7 = .ok (.newarray .int, 2) := by decide +kernel
theorem dX1_init_9 : decode cX1_init 9 = .ok (.putfield 9, 3) := by decide +kernel
theorem dX1_init_12 : decode cX1_init 12 = .ok (.aload_n 0, 1) := by decide +kernel
theorem dX1_init_13 : decode cX1_init 13 = .ok (.bipush 8, 2) := by decide +kernel
theorem dX1_init_15 : decode cX1_init 15 = .ok (.newarray .int, 2) := by decide +kernel
theorem dX1_init_17 : decode cX1_init 17 = .ok (.putfield 15, 3) := by decide +kernel
theorem dX1_init_20 : decode cX1_init 20 = .ok (.aload_n 0, 1) := by decide +kernel
theorem dX1_init_21 : decode cX1_init 21 = .ok (.bipush 8, 2) := by decide +kernel
theorem dX1_init_23 : decode cX1_init 23 = .ok (.newarray .int, 2) := by decide +kernel
theorem dX1_init_25 : decode cX1_init 25 = .ok (.putfield 18, 3) := by decide +kernel
theorem dX1_init_28 : decode cX1_init 28 = .ok (.aload_n 0, 1) := by decide +kernel
theorem dX1_init_29 : decode cX1_init 29 = .ok (.aload_n 1, 1) := by decide +kernel
theorem dX1_init_30 : decode cX1_init 30 = .ok (.putfield 21, 3) := by decide +kernel
theorem dX1_init_33 : decode cX1_init 33 = .ok (.aload_n 0, 1) := by decide +kernel
theorem dX1_init_34 : decode cX1_init 34 = .ok (.invokevirtual 25, 3) := by decide +kernel
theorem dX1_init_37 : decode cX1_init 37 = .ok (.return_, 1) := by decide +kernel
set_option maxRecDepth 20000 in
theorem ggX1_startAsTold_J7_fill_53178 : GoodIn wsX1_startAsTold wsJ7_fill_53178 := goodIn_r _ [18] (by decide +kernel) (by decide +kernel)
set_option maxRecDepth 20000 in
theorem gX1_startAsTold_J7_fill_53178 : GoodIn wsX1_startAsTold (va_wsS RX1 37 yJ7_fill_53178 wsJ7_fill_53178) := goodIn_app (goodIn_of _ (by decide +kernel)) ggX1_startAsTold_J7_fill_53178
set_option maxRecDepth 20000 in
theorem ggX1_startAsTold_X3_takenAtFirst : GoodIn wsX1_startAsTold wsX3_takenAtFirst := goodIn_r _ [23, 24, 25, 26, 27, 28, 29, 22, 30, 31, 32, 33, 34, 35, 45, 46, 47, 48, 49, 50, 51, 52, 53, 54, 55, 56, 57] (by decide +kernel) (by decide +kernel)
set_option maxRecDepth 20000 in
theorem gX1_startAsTold_X3_takenAtFirst : GoodIn wsX1_startAsTold (wsV RX1 43 RX3 yX3_takenAtFirst wsX3_takenAtFirst) := goodIn_app (goodIn_of _ (by decide +kernel)) ggX1_startAsTold_X3_takenAtFirst
theorem dX1_startAsTold_0 : decode cX1_startAsTold 0 = .ok (.aload_n 0, 1) := by decide +kernel
theorem dX1_startAsTold_1 : decode cX1_startAsTold 1 = .ok (.getfield 21, 3) := by decide +kernel
theorem dX1_startAsTold_4 : decode cX1_startAsTold 4 = .ok (.getfield 28, 3) := by decide +kernel
theorem dX1_startAsTold_7 : decode cX1_startAsTold 7 = .ok (.iconst 0, 1) := by decide +kernel
theorem dX1_startAsTold_8 : decode cX1_startAsTold 8 = .ok (.aload_n 0, 1) := by decide +kernel
theorem dX1_startAsTold_9 : decode cX1_startAsTold 9 = .ok (.getfield 9, 3) := by decide +kernel
theorem dX1_startAsTold_12 : decode cX1_startAsTold 12 = .ok (.iconst 0, 1) := by decide +kernel
theorem dX1_startAsTold_13 : decode cX1_startAsTold 13 = .ok (.bipush 8, 2) := by decide +kernel
theorem dX1_startAsTold_15 : decode cX1_startAsTold 15 = .ok (.invokestatic 31, 3) := by decide +kernel
theorem dX1_startAsTold_18 : decode cX1_startAsTold 18 = .ok (.aload_n 0, 1) := by decide +kernel
theorem dX1_startAsTold_19 : decode cX1_startAsTold 19 = .ok (.getfield 15, 3) := by decide +kernel
theorem dX1_startAsTold_22 : decode cX1_startAsTold 22 = .ok (.iconst 0, 1) := by decide +kernel
theorem dX1_startAsTold_23 : decode cX1_startAsTold 23 = .ok (.invokestatic 37, 3) := by decide +kernel
theorem dX1_startAsTold_26 : decode cX1_startAsTold 26 = .ok (.aload_n 0, 1) := by decide +kernel
theorem dX1_startAsTold_27 : decode cX1_startAsTold 27 = .ok (.aload_n 0, 1) := by decide +kernel
theorem dX1_startAsTold_28 : decode cX1_startAsTold 28 = .ok (.getfield 21, 3) := by decide +kernel
theorem dX1_startAsTold_31 : decode cX1_startAsTold 31 = .ok (.invokevirtual 43, 3) := by decide +kernel
theorem dX1_startAsTold_34 : decode cX1_startAsTold 34 = .ok (.putfield 47, 3) := by decide +kernel
theorem dX1_startAsTold_37 : decode cX1_startAsTold 37 = .ok (.aload_n 0, 1) := by decide +kernel
theorem dX1_startAsTold_38 : decode cX1_startAsTold 38 = .ok (.iconst 0, 1) := by decide +kernel
theorem dX1_startAsTold_39 : decode cX1_startAsTold 39 = .ok (.putfield 51, 3) := by decide +kernel
theorem dX1_startAsTold_42 : decode cX1_startAsTold 42 = .ok (.aload_n 0, 1) := by decide +kernel
theorem dX1_startAsTold_43 : decode cX1_startAsTold 43 = .ok (.iconst 0, 1) := by decide +kernel
theorem dX1_startAsTold_44 : decode cX1_startAsTold 44 = .ok (.putfield 54, 3) := by decide +kernel
theorem dX1_startAsTold_47 : decode cX1_startAsTold 47 = .ok (.aload_n 0, 1) := by decide +kernel
theorem dX1_startAsTold_48 : decode cX1_startAsTold 48 = .ok (.aload_n 0, 1) := by decide +kernel
theorem dX1_startAsTold_49 : decode cX1_startAsTold 49 = .ok (.getfield 21, 3) := by decide +kernel
theorem dX1_startAsTold_52 : decode cX1_startAsTold 52 = .ok (.getfield 57, 3) := by decide +kernel
theorem dX1_startAsTold_55 : decode cX1_startAsTold 55 = .ok (.putfield 60, 3) := by decide +kernel
theorem dX1_startAsTold_58 : decode cX1_startAsTold 58 = .ok (.aload_n 0, 1) := by decide +kernel
theorem dX1_startAsTold_59 : decode cX1_startAsTold 59 = .ok (.iconst 0, 1) := by decide +kernel
theorem dX1_startAsTold_60 : decode cX1_startAsTold 60 = .ok (.putfield 63, 3) := by decide +kernel
theorem dX1_startAsTold_63 : decode cX1_startAsTold 63 = .ok (.return_, 1) := by decide +kernel
theorem dX1_copyFrom_0 : decode cX1_copyFrom 0 = .ok (.aload_n 1, 1) := by decide +kernel
theorem dX1_copyFrom_1 : decode cX1_copyFrom 1 = .ok (.getfield 9, 3) := by decide +kernel
theorem dX1_copyFrom_4 : decode cX1_copyFrom 4 = .ok (.iconst 0, 1) := by decide +kernel
theorem dX1_copyFrom_5 : decode cX1_copyFrom 5 = .ok (.aload_n 0, 1) := by decide +kernel
theorem dX1_copyFrom_6 : decode cX1_copyFrom 6 = .ok (.getfield 9, 3) := by decide +kernel
theorem dX1_copyFrom_9 : decode cX1_copyFrom 9 = .ok (.iconst 0, 1) := by decide +kernel
theorem dX1_copyFrom_10 : decode cX1_copyFrom 10 = .ok (.bipush 8, 2) := by decide +kernel
theorem dX1_copyFrom_12 : decode cX1_copyFrom 12 = .ok (.invokestatic 31, 3) := by decide +kernel
theorem dX1_copyFrom_15 : decode cX1_copyFrom 15 = .ok (.aload_n 1, 1) := by decide +kernel
theorem dX1_copyFrom_16 : decode cX1_copyFrom 16 = .ok (.getfield 15, 3) := by decide +kernel
theorem dX1_copyFrom_19 : decode cX1_copyFrom 19 = .ok (.iconst 0, 1) := by decide +kernel
theorem dX1_copyFrom_20 : decode cX1_copyFrom 20 = .ok (.aload_n 0, 1) := by decide +kernel
theorem dX1_copyFrom_21 : decode cX1_copyFrom 21 = .ok (.getfield 15, 3) := by decide +kernel
theorem dX1_copyFrom_24 : decode cX1_copyFrom 24 = .ok (.iconst 0, 1) := by decide +kernel
theorem dX1_copyFrom_25 : decode cX1_copyFrom 25 = .ok (.bipush 8, 2) := by decide +kernel
theorem dX1_copyFrom_27 : decode cX1_copyFrom 27 = .ok (.invokestatic 31, 3) := by decide +kernel
theorem dX1_copyFrom_30 : decode cX1_copyFrom 30 = .ok (.aload_n 0, 1) := by decide +kernel
theorem dX1_copyFrom_31 : decode cX1_copyFrom 31 = .ok (.aload_n 1, 1) := by decide +kernel
theorem dX1_copyFrom_32 : decode cX1_copyFrom 32 = .ok (.getfield 47, 3) := by decide +kernel
theorem dX1_copyFrom_35 : decode cX1_copyFrom 35 = .ok (.putfield 47, 3) := by decide +kernel
theorem dX1_copyFrom_38 : decode cX1_copyFrom 38 = .ok (.aload_n 0, 1) := by decide +kernel
theorem dX1_copyFrom_39 : decode cX1_copyFrom 39 = .ok (.aload_n 1, 1) := by decide +kernel
theorem dX1_copyFrom_40 : decode cX1_copyFrom 40 = .ok (.getfield 51, 3) := by decide +kernel
theorem dX1_copyFrom_43 : decode cX1_copyFrom 43 = .ok (.putfield 51, 3) := by decide +kernel
theorem dX1_copyFrom_46 : decode cX1_copyFrom 46 = .ok (.aload_n 0, 1) := by decide +kernel
theorem dX1_copyFrom_47 : decode cX1_copyFrom 47 = .ok (.aload_n 1, 1) := by decide +kernel
theorem dX1_copyFrom_48 : decode cX1_copyFrom 48 = .ok (.getfield 54, 3) := by decide +kernel
theorem dX1_copyFrom_51 : decode cX1_copyFrom 51 = .ok (.putfield 54, 3) := by decide +kernel
theorem dX1_copyFrom_54 : decode cX1_copyFrom 54 = .ok (.aload_n 0, 1) := by decide +kernel
theorem dX1_copyFrom_55 : decode cX1_copyFrom 55 = .ok (.aload_n 1, 1) := by decide +kernel
theorem dX1_copyFrom_56 : decode cX1_copyFrom 56 = .ok (.getfield 60, 3) := by decide +kernel
theorem dX1_copyFrom_59 : decode cX1_copyFrom 59 = .ok (.putfield 60, 3) := by decide +kernel
theorem dX1_copyFrom_62 : decode cX1_copyFrom 62 = .ok (.aload_n 0, 1) := by decide +kernel
theorem dX1_copyFrom_63 : decode cX1_copyFrom 63 = .ok (.aload_n 1, 1) := by decide +kernel
theorem dX1_copyFrom_64 : decode cX1_copyFrom 64 = .ok (.getfield 63, 3) := by decide +kernel
theorem dX1_copyFrom_67 : decode cX1_copyFrom 67 = .ok (.putfield 63, 3) := by decide +kernel
theorem dX1_copyFrom_70 : decode cX1_copyFrom 70 = .ok (.return_, 1) := by decide +kernel
set_option maxRecDepth 20000 in
theorem ggX1_groundOf_X3_ground : GoodIn wsX1_groundOf wsX3_ground := goodIn_r _ [8, 9, 10, 11, 7, 12, 13, 23, 24, 25, 26, 27, 28, 29, 30, 31, 32, 33, 34, 35] (by decide +kernel) (by decide +kernel)
set_option maxRecDepth 20000 in
theorem gX1_groundOf_X3_ground : GoodIn wsX1_groundOf (wsV RX1 69 RX3 yX3_ground wsX3_ground) := goodIn_app (goodIn_of _ (by decide +kernel)) ggX1_groundOf_X3_ground
theorem dX1_groundOf_0 : decode cX1_groundOf 0 = .ok (.aload_n 0, 1) := by decide +kernel
theorem dX1_groundOf_1 : decode cX1_groundOf 1 = .ok (.getfield 21, 3) := by decide +kernel
theorem dX1_groundOf_4 : decode cX1_groundOf 4 = .ok (.aload_n 0, 1) := by decide +kernel
theorem dX1_groundOf_5 : decode cX1_groundOf 5 = .ok (.getfield 21, 3) := by decide +kernel
theorem dX1_groundOf_8 : decode cX1_groundOf 8 = .ok (.getfield 66, 3) := by decide +kernel
theorem dX1_groundOf_11 : decode cX1_groundOf 11 = .ok (.iload_n 1, 1) := by decide +kernel
theorem dX1_groundOf_12 : decode cX1_groundOf 12 = .ok (.iaload, 1) := by decide +kernel
theorem dX1_groundOf_13 : decode cX1_groundOf 13 = .ok (.aload_n 0, 1) := by decide +kernel
theorem dX1_groundOf_14 : decode cX1_groundOf 14 = .ok (.getfield 9, 3) := by decide +kernel
theorem dX1_groundOf_17 : decode cX1_groundOf 17 = .ok (.iload_n 1, 1) := by decide +kernel
theorem dX1_groundOf_18 : decode cX1_groundOf 18 = .ok (.iaload, 1) := by decide +kernel
theorem dX1_groundOf_19 : decode cX1_groundOf 19 = .ok (.invokevirtual 69, 3) := by decide +kernel
theorem dX1_groundOf_22 : decode cX1_groundOf 22 = .ok (.ireturn, 1) := by decide +kernel
theorem dX1_isEmpty_0 : decode cX1_isEmpty 0 = .ok (.aload_n 0, 1) := by decide +kernel
theorem dX1_isEmpty_1 : decode cX1_isEmpty 1 = .ok (.getfield 47, 3) := by decide +kernel
theorem dX1_isEmpty_4 : decode cX1_isEmpty 4 = .ok (.iload_n 1, 1) := by decide +kernel
theorem dX1_isEmpty_5 : decode cX1_isEmpty 5 = .ok (.ishr, 1) := by decide +kernel
theorem dX1_isEmpty_6 : decode cX1_isEmpty 6 = .ok (.iconst 1, 1) := by decide +kernel
theorem dX1_isEmpty_7 : decode cX1_isEmpty 7 = .ok (.iand, 1) := by decide +kernel
theorem dX1_isEmpty_8 : decode cX1_isEmpty 8 = .ok (.ifCond .ne 7, 3) := by decide +kernel
theorem dX1_isEmpty_11 : decode cX1_isEmpty 11 = .ok (.iconst 1, 1) := by decide +kernel
theorem dX1_isEmpty_12 : decode cX1_isEmpty 12 = .ok (.goto 4, 3) := by decide +kernel
theorem dX1_isEmpty_15 : decode cX1_isEmpty 15 = .ok (.iconst 0, 1) := by decide +kernel
theorem dX1_isEmpty_16 : decode cX1_isEmpty 16 = .ok (.ireturn, 1) := by decide +kernel
set_option maxRecDepth 20000 in
theorem ggX1_houseOn_X1_groundOf : GoodIn wsX1_houseOn wsX1_groundOf := goodIn_r _ [7, 1, 8, 9, 10, 11, 12, 13, 14, 15, 16, 17, 18, 19, 20, 21, 22, 23, 24, 25, 26, 27, 28, 29, 30, 31, 32, 33, 34, 35, 36, 37, 38, 39, 40, 41] (by decide +kernel) (by decide +kernel)
set_option maxRecDepth 20000 in
theorem gX1_houseOn_X1_groundOf : GoodIn wsX1_houseOn (wsV RX1 76 RX1 yX1_groundOf wsX1_groundOf) := goodIn_app (goodIn_of _ (by decide +kernel)) ggX1_houseOn_X1_groundOf
theorem dX1_houseOn_0 : decode cX1_houseOn 0 = .ok (.iconst 0, 1) := by decide +kernel
theorem dX1_houseOn_1 : decode cX1_houseOn 1 = .ok (.istore_n 2, 1) := by decide +kernel
theorem dX1_houseOn_2 : decode cX1_houseOn 2 = .ok (.iload_n 2, 1) := by decide +kernel
theorem dX1_houseOn_3 : decode cX1_houseOn 3 = .ok (.aload_n 0, 1) := by decide +kernel
theorem dX1_houseOn_4 : decode cX1_houseOn 4 = .ok (.getfield 21, 3) := by decide +kernel
theorem dX1_houseOn_7 : decode cX1_houseOn 7 = .ok (.getfield 73, 3) := by decide +kernel
theorem dX1_houseOn_10 : decode cX1_houseOn 10 = .ok (.if_icmp .ge 23, 3) := by decide +kernel
theorem dX1_houseOn_13 : decode cX1_houseOn 13 = .ok (.aload_n 0, 1) := by decide +kernel
theorem dX1_houseOn_14 : decode cX1_houseOn 14 = .ok (.iload_n 2, 1) := by decide +kernel
theorem dX1_houseOn_15 : decode cX1_houseOn 15 = .ok (.invokevirtual 76, 3) := by decide +kernel
theorem dX1_houseOn_18 : decode cX1_houseOn 18 = .ok (.iload_n 1, 1) := by decide +kernel
theorem dX1_houseOn_19 : decode cX1_houseOn 19 = .ok (.ishr, 1) := by decide +kernel
theorem dX1_houseOn_20 : decode cX1_houseOn 20 = .ok (.iconst 1, 1) := by decide +kernel
theorem dX1_houseOn_21 : decode cX1_houseOn 21 = .ok (.iand, 1) := by decide +kernel
theorem dX1_houseOn_22 : decode cX1_houseOn 22 = .ok (.ifCond .eq 5, 3) := by decide +kernel
theorem dX1_houseOn_25 : decode cX1_houseOn 25 = .ok (.iload_n 2, 1) := by decide +kernel
theorem dX1_houseOn_26 : decode cX1_houseOn 26 = .ok (.ireturn, 1) := by decide +kernel
theorem dX1_houseOn_27 : decode cX1_houseOn 27 = .ok (.iinc 2 1, 3) := by decide +kernel
theorem dX1_houseOn_30 : decode cX1_houseOn 30 = .ok (.goto (-28), 3) := by decide +kernel
theorem dX1_houseOn_33 : decode cX1_houseOn 33 = .ok (.iconst (-1), 1) := by decide +kernel
theorem dX1_houseOn_34 : decode cX1_houseOn 34 = .ok (.ireturn, 1) := by decide +kernel
set_option maxRecDepth 20000 in
theorem ggX1_cropUnder_X3_next : GoodIn wsX1_cropUnder wsX3_next := goodIn_r _ [9, 10, 20, 21, 22, 23, 24, 25, 26, 27, 28, 29, 30, 31, 32] (by decide +kernel) (by decide +kernel)
set_option maxRecDepth 20000 in
theorem gX1_cropUnder_X3_next : GoodIn wsX1_cropUnder (wsV RX1 83 RX3 yX3_next wsX3_next) := goodIn_app (goodIn_of _ (by decide +kernel)) ggX1_cropUnder_X3_next
theorem dX1_cropUnder_0 : decode cX1_cropUnder 0 = .ok (.aload_n 0, 1) := by decide +kernel
theorem dX1_cropUnder_1 : decode cX1_cropUnder 1 = .ok (.getfield 21, 3) := by decide +kernel
theorem dX1_cropUnder_4 : decode cX1_cropUnder 4 = .ok (.getfield 80, 3) := by decide +kernel
theorem dX1_cropUnder_7 : decode cX1_cropUnder 7 = .ok (.aload_n 0, 1) := by decide +kernel
theorem dX1_cropUnder_8 : decode cX1_cropUnder 8 = .ok (.getfield 9, 3) := by decide +kernel
theorem dX1_cropUnder_11 : decode cX1_cropUnder 11 = .ok (.iload_n 1, 1) := by decide +kernel
theorem dX1_cropUnder_12 : decode cX1_cropUnder 12 = .ok (.iaload, 1) := by decide +kernel
theorem dX1_cropUnder_13 : decode cX1_cropUnder 13 = .ok (.iaload, 1) := by decide +kernel
theorem dX1_cropUnder_14 : decode cX1_cropUnder 14 = .ok (.istore_n 2, 1) := by decide +kernel
theorem dX1_cropUnder_15 : decode cX1_cropUnder 15 = .ok (.aload_n 0, 1) := by decide +kernel
theorem dX1_cropUnder_16 : decode cX1_cropUnder 16 = .ok (.getfield 21, 3) := by decide +kernel
theorem dX1_cropUnder_19 : decode cX1_cropUnder 19 = .ok (.getfield 66, 3) := by decide +kernel
theorem dX1_cropUnder_22 : decode cX1_cropUnder 22 = .ok (.iload_n 1, 1) := by decide +kernel
theorem dX1_cropUnder_23 : decode cX1_cropUnder 23 = .ok (.iaload, 1) := by decide +kernel
theorem dX1_cropUnder_24 : decode cX1_cropUnder 24 = .ok (.iconst 3, 1) := by decide +kernel
theorem dX1_cropUnder_25 : decode cX1_cropUnder 25 = .ok (.if_icmp .ne 29, 3) := by decide +kernel
theorem dX1_cropUnder_28 : decode cX1_cropUnder 28 = .ok (.iload_n 2, 1) := by decide +kernel
theorem dX1_cropUnder_29 : decode cX1_cropUnder 29 = .ok (.aload_n 0, 1) := by decide +kernel
theorem dX1_cropUnder_30 : decode cX1_cropUnder 30 = .ok (.getfield 21, 3) := by decide +kernel
theorem dX1_cropUnder_33 : decode cX1_cropUnder 33 = .ok (.getfield 80, 3) := by decide +kernel
theorem dX1_cropUnder_36 : decode cX1_cropUnder 36 = .ok (.aload_n 0, 1) := by decide +kernel
theorem dX1_cropUnder_37 : decode cX1_cropUnder 37 = .ok (.getfield 21, 3) := by decide +kernel
theorem dX1_cropUnder_40 : decode cX1_cropUnder 40 = .ok (.aload_n 0, 1) := by decide +kernel
theorem dX1_cropUnder_41 : decode cX1_cropUnder 41 = .ok (.getfield 9, 3) := by decide +kernel
theorem dX1_cropUnder_44 : decode cX1_cropUnder 44 = .ok (.iload_n 1, 1) := by decide +kernel
theorem dX1_cropUnder_45 : decode cX1_cropUnder 45 = .ok (.iaload, 1) := by decide +kernel
theorem dX1_cropUnder_46 : decode cX1_cropUnder 46 = .ok (.invokevirtual 83, 3) := by decide +kernel
theorem dX1_cropUnder_49 : decode cX1_cropUnder 49 = .ok (.iaload, 1) := by decide +kernel
theorem dX1_cropUnder_50 : decode cX1_cropUnder 50 = .ok (.iadd, 1) := by decide +kernel
theorem dX1_cropUnder_51 : decode cX1_cropUnder 51 = .ok (.goto 4, 3) := by decide +kernel
theorem dX1_cropUnder_54 : decode cX1_cropUnder 54 = .ok (.iload_n 2, 1) := by decide +kernel
theorem dX1_cropUnder_55 : decode cX1_cropUnder 55 = .ok (.ireturn, 1) := by decide +kernel
set_option maxRecDepth 20000 in
theorem ggX1_findWays_X3_next : GoodIn wsX1_findWays wsX3_next := goodIn_r _ [9, 10, 41, 42, 43, 44, 45, 46, 47, 48, 49, 50, 51, 52, 53] (by decide +kernel) (by decide +kernel)
set_option maxRecDepth 20000 in
theorem gX1_findWays_X3_next : GoodIn wsX1_findWays (wsV RX1 83 RX3 yX3_next wsX3_next) := goodIn_app (goodIn_of _ (by decide +kernel)) ggX1_findWays_X3_next
set_option maxRecDepth 20000 in
theorem ggX1_findWays_X3_previous : GoodIn wsX1_findWays wsX3_previous := goodIn_r _ [14, 10, 41, 42, 43, 44, 45, 46, 47, 48, 49, 50, 51, 52, 53] (by decide +kernel) (by decide +kernel)
set_option maxRecDepth 20000 in
theorem gX1_findWays_X3_previous : GoodIn wsX1_findWays (wsV RX1 86 RX3 yX3_previous wsX3_previous) := goodIn_app (goodIn_of _ (by decide +kernel)) ggX1_findWays_X3_previous
set_option maxRecDepth 20000 in
theorem ggX1_findWays_X1_isEmpty : GoodIn wsX1_findWays wsX1_isEmpty := goodIn_r _ [19, 20, 32, 33, 34, 35, 36, 37, 38, 39, 40] (by decide +kernel) (by decide +kernel)
set_option maxRecDepth 20000 in
theorem gX1_findWays_X1_isEmpty : GoodIn wsX1_findWays (wsV RX1 89 RX1 yX1_isEmpty wsX1_isEmpty) := goodIn_app (goodIn_of _ (by decide +kernel)) ggX1_findWays_X1_isEmpty
set_option maxRecDepth 20000 in
theorem ggX1_findWays_X1_findPathWays : GoodIn wsX1_findWays wsX1_findPathWays := goodIn_r _ [24, 1, 25, 26, 27, 28, 8, 29, 30, 31, 15, 16, 17, 18, 19, 20, 32, 33, 34, 35, 36, 37, 38, 39, 40, 41, 42, 43, 44, 45, 46, 47, 48, 49, 50, 51, 52, 53] (by decide +kernel) (by decide +kernel)
set_option maxRecDepth 20000 in
theorem gX1_findWays_X1_findPathWays : GoodIn wsX1_findWays (wsV RX1 93 RX1 yX1_findPathWays wsX1_findPathWays) := goodIn_app (goodIn_of _ (by decide +kernel)) ggX1_findWays_X1_findPathWays
theorem dX1_findWays_0 : decode cX1_findWays 0 = .ok (.aload_n 0, 1) := by decide +kernel
theorem dX1_findWays_1 : decode cX1_findWays 1 = .ok (.getfield 21, 3) := by decide +kernel
theorem dX1_findWays_4 : decode cX1_findWays 4 = .ok (.getfield 66, 3) := by decide +kernel
theorem dX1_findWays_7 : decode cX1_findWays 7 = .ok (.iload_n 1, 1) := by decide +kernel
theorem dX1_findWays_8 : decode cX1_findWays 8 = .ok (.iaload, 1) := by decide +kernel
theorem dX1_findWays_9 : decode cX1_findWays 9 = .ok (.istore_n 3, 1) := by decide +kernel
theorem dX1_findWays_10 : decode cX1_findWays 10 = .ok (.iload_n 3, 1) := by decide +kernel
theorem dX1_findWays_11 : decode cX1_findWays 11 = .ok (.iconst 2, 1) := by decide +kernel
theorem dX1_findWays_12 : decode cX1_findWays 12 = .ok (.if_icmp .ne 16, 3) := by decide +kernel
theorem dX1_findWays_15 : decode cX1_findWays 15 = .ok (.aload_n 0, 1) := by decide +kernel
theorem dX1_findWays_16 : decode cX1_findWays 16 = .ok (.getfield 63, 3) := by decide +kernel
theorem dX1_findWays_19 : decode cX1_findWays 19 = .ok (.iload_n 1, 1) := by decide +kernel
theorem dX1_findWays_20 : decode cX1_findWays 20 = .ok (.ishr, 1) := by decide +kernel
theorem dX1_findWays_21 : decode cX1_findWays 21 = .ok (.iconst 1, 1) := by decide +kernel
theorem dX1_findWays_22 : decode cX1_findWays 22 = .ok (.iand, 1) := by decide +kernel
theorem dX1_findWays_23 : decode cX1_findWays 23 = .ok (.ifCond .ne 5, 3) := by decide +kernel
theorem dX1_findWays_26 : decode cX1_findWays 26 = .ok (.iconst 0, 1) := by decide +kernel
theorem dX1_findWays_27 : decode cX1_findWays 27 = .ok (.ireturn, 1) := by decide +kernel
theorem dX1_findWays_28 : decode cX1_findWays 28 = .ok (.aload_n 0, 1) := by decide +kernel
theorem dX1_findWays_29 : decode cX1_findWays 29 = .ok (.getfield 21, 3) := by decide +kernel
theorem dX1_findWays_32 : decode cX1_findWays 32 = .ok (.aload_n 0, 1) := by decide +kernel
theorem dX1_findWays_33 : decode cX1_findWays 33 = .ok (.getfield 9, 3) := by decide +kernel
theorem dX1_findWays_36 : decode cX1_findWays 36 = .ok (.iload_n 1, 1) := by decide +kernel
theorem dX1_findWays_37 : decode cX1_findWays 37 = .ok (.iaload, 1) := by decide +kernel
theorem dX1_findWays_38 : decode cX1_findWays 38 = .ok (.invokevirtual 83, 3) := by decide +kernel
theorem dX1_findWays_41 : decode cX1_findWays 41 = .ok (.istore 4, 2) := by decide +kernel
theorem dX1_findWays_43 : decode cX1_findWays 43 = .ok (.aload_n 0, 1) := by decide +kernel
theorem dX1_findWays_44 : decode cX1_findWays 44 = .ok (.getfield 21, 3) := by decide +kernel
theorem dX1_findWays_47 : decode cX1_findWays 47 = .ok (.aload_n 0, 1) := by decide +kernel
theorem dX1_findWays_48 : decode cX1_findWays 48 = .ok (.getfield 9, 3) := by decide +kernel
theorem dX1_findWays_51 : decode cX1_findWays 51 = .ok (.iload_n 1, 1) := by decide +kernel
theorem dX1_findWays_52 : decode cX1_findWays 52 = .ok (.iaload, 1) := by decide +kernel
theorem dX1_findWays_53 : decode cX1_findWays 53 = .ok (.invokevirtual 86, 3) := by decide +kernel
theorem dX1_findWays_56 : decode cX1_findWays 56 = .ok (.istore 5, 2) := by decide +kernel
theorem dX1_findWays_58 : decode cX1_findWays 58 = .ok (.iconst 0, 1) := by decide +kernel
theorem dX1_findWays_59 : decode cX1_findWays 59 = .ok (.istore 6, 2) := by decide +kernel
theorem dX1_findWays_61 : decode cX1_findWays 61 = .ok (.aload_n 0, 1) := by decide +kernel
theorem dX1_findWays_62 : decode cX1_findWays 62 = .ok (.iload_n 3, 1) := by decide +kernel
theorem dX1_findWays_63 : decode cX1_findWays 63 = .ok (.iconst 3, 1) := by decide +kernel
theorem dX1_findWays_64 : decode cX1_findWays 64 = .ok (.if_icmp .ne 15, 3) := by decide +kernel
theorem dX1_findWays_67 : decode cX1_findWays 67 = .ok (.aload_n 0, 1) := by decide +kernel
theorem dX1_findWays_68 : decode cX1_findWays 68 = .ok (.getfield 21, 3) := by decide +kernel
theorem dX1_findWays_71 : decode cX1_findWays 71 = .ok (.iload 4, 2) := by decide +kernel
theorem dX1_findWays_73 : decode cX1_findWays 73 = .ok (.invokevirtual 83, 3) := by decide +kernel
theorem dX1_findWays_76 : decode cX1_findWays 76 = .ok (.goto 5, 3) := by decide +kernel
theorem dX1_findWays_79 : decode cX1_findWays 79 = .ok (.iload 4, 2) := by decide +kernel
theorem dX1_findWays_81 : decode cX1_findWays 81 = .ok (.invokevirtual 89, 3) := by decide +kernel
theorem dX1_findWays_84 : decode cX1_findWays 84 = .ok (.ifCond .eq 12, 3) := by decide +kernel
theorem dX1_findWays_87 : decode cX1_findWays 87 = .ok (.aload_n 2, 1) := by decide +kernel
theorem dX1_findWays_88 : decode cX1_findWays 88 = .ok (.iload 6, 2) := by decide +kernel
theorem dX1_findWays_90 : decode cX1_findWays 90 = .ok (.iload 4, 2) := by decide +kernel
theorem dX1_findWays_92 : decode cX1_findWays 92 = .ok (.iastore, 1) := by decide +kernel
theorem dX1_findWays_93 : decode cX1_findWays 93 = .ok (.iinc 6 1, 3) := by decide +kernel
theorem dX1_findWays_96 : decode cX1_findWays 96 = .ok (.aload_n 0, 1) := by decide +kernel
theorem dX1_findWays_97 : decode cX1_findWays 97 = .ok (.iload 5, 2) := by decide +kernel
theorem dX1_findWays_99 : decode cX1_findWays 99 = .ok (.invokevirtual 89, 3) := by decide +kernel
theorem dX1_findWays_102 : decode cX1_findWays 102 = .ok (.ifCond .eq 12, 3) := by decide +kernel
theorem dX1_findWays_105 : decode cX1_findWays 105 = .ok (.aload_n 2, 1) := by decide +kernel
theorem dX1_findWays_106 : decode cX1_findWays 106 = .ok (.iload 6, 2) := by decide +kernel
theorem dX1_findWays_108 : decode cX1_findWays 108 = .ok (.iload 5, 2) := by decide +kernel
theorem dX1_findWays_110 : decode cX1_findWays 110 = .ok (.iastore, 1) := by decide +kernel
theorem dX1_findWays_111 : decode cX1_findWays 111 = .ok (.iinc 6 1, 3) := by decide +kernel
theorem dX1_findWays_114 : decode cX1_findWays 114 = .ok (.iload_n 3, 1) := by decide +kernel
theorem dX1_findWays_115 : decode cX1_findWays 115 = .ok (.iconst 1, 1) := by decide +kernel
theorem dX1_findWays_116 : decode cX1_findWays 116 = .ok (.if_icmp .ne 19, 3) := by decide +kernel
theorem dX1_findWays_119 : decode cX1_findWays 119 = .ok (.aload_n 0, 1) := by decide +kernel
theorem dX1_findWays_120 : decode cX1_findWays 120 = .ok (.aload_n 0, 1) := by decide +kernel
theorem dX1_findWays_121 : decode cX1_findWays 121 = .ok (.getfield 9, 3) := by decide +kernel
theorem dX1_findWays_124 : decode cX1_findWays 124 = .ok (.iload_n 1, 1) := by decide +kernel
theorem dX1_findWays_125 : decode cX1_findWays 125 = .ok (.iaload, 1) := by decide +kernel
theorem dX1_findWays_126 : decode cX1_findWays 126 = .ok (.aload_n 2, 1) := by decide +kernel
theorem dX1_findWays_127 : decode cX1_findWays 127 = .ok (.iload 6, 2) := by decide +kernel
theorem dX1_findWays_129 : decode cX1_findWays 129 = .ok (.invokevirtual 93, 3) := by decide +kernel
theorem dX1_findWays_132 : decode cX1_findWays 132 = .ok (.goto 5, 3) := by decide +kernel
theorem dX1_findWays_135 : decode cX1_findWays 135 = .ok (.iload 6, 2) := by decide +kernel
theorem dX1_findWays_137 : decode cX1_findWays 137 = .ok (.ireturn, 1) := by decide +kernel
set_option maxRecDepth 20000 in
theorem ggX1_findPathWays_X3_otherEnd : GoodIn wsX1_findPathWays wsX3_otherEnd := goodIn_r _ [7, 8, 9, 25, 26, 27, 28, 29, 30, 31, 32, 33, 34, 35, 36, 37] (by decide +kernel) (by decide +kernel)
set_option maxRecDepth 20000 in
theorem gX1_findPathWays_X3_otherEnd : GoodIn wsX1_findPathWays (wsV RX1 100 RX3 yX3_otherEnd wsX3_otherEnd) := goodIn_app (goodIn_of _ (by decide +kernel)) ggX1_findPathWays_X3_otherEnd
set_option maxRecDepth 20000 in
theorem ggX1_findPathWays_X1_isEmpty : GoodIn wsX1_findPathWays wsX1_isEmpty := goodIn_r _ [14, 15, 16, 17, 18, 19, 20, 21, 22, 23, 24] (by decide +kernel) (by decide +kernel)
set_option maxRecDepth 20000 in
theorem gX1_findPathWays_X1_isEmpty : GoodIn wsX1_findPathWays (wsV RX1 89 RX1 yX1_isEmpty wsX1_isEmpty) := goodIn_app (goodIn_of _ (by decide +kernel)) ggX1_findPathWays_X1_isEmpty
theorem dX1_findPathWays_0 : decode cX1_findPathWays 0 = .ok (.iload_n 3, 1) := by decide +kernel
theorem dX1_findPathWays_1 : decode cX1_findPathWays 1 = .ok (.istore 4, 2) := by decide +kernel
theorem dX1_findPathWays_3 : decode cX1_findPathWays 3 = .ok (.iconst 0, 1) := by decide +kernel
theorem dX1_findPathWays_4 : decode cX1_findPathWays 4 = .ok (.istore 5, 2) := by decide +kernel
theorem dX1_findPathWays_6 : decode cX1_findPathWays 6 = .ok (.iload 5, 2) := by decide +kernel
theorem dX1_findPathWays_8 : decode cX1_findPathWays 8 = .ok (.aload_n 0, 1) := by decide +kernel
theorem dX1_findPathWays_9 : decode cX1_findPathWays 9 = .ok (.getfield 21, 3) := by decide +kernel
theorem dX1_findPathWays_12 : decode cX1_findPathWays 12 = .ok (.getfield 97, 3) := by decide +kernel
theorem dX1_findPathWays_15 : decode cX1_findPathWays 15 = .ok (.if_icmp .ge 52, 3) := by decide +kernel
theorem dX1_findPathWays_18 : decode cX1_findPathWays 18 = .ok (.iload 4, 2) := by decide +kernel
theorem dX1_findPathWays_20 : decode cX1_findPathWays 20 = .ok (.aload_n 2, 1) := by decide +kernel
theorem dX1_findPathWays_21 : decode cX1_findPathWays 21 = .ok (.arraylength, 1) := by decide +kernel
theorem dX1_findPathWays_22 : decode cX1_findPathWays 22 = .ok (.if_icmp .ge 45, 3) := by decide +kernel
theorem dX1_findPathWays_25 : decode cX1_findPathWays 25 = .ok (.aload_n 0, 1) := by decide +kernel
theorem dX1_findPathWays_26 : decode cX1_findPathWays 26 = .ok (.getfield 21, 3) := by decide +kernel
theorem dX1_findPathWays_29 : decode cX1_findPathWays 29 = .ok (.iload 5, 2) := by decide +kernel
theorem dX1_findPathWays_31 : decode cX1_findPathWays 31 = .ok (.iload_n 1, 1) := by decide +kernel
theorem dX1_findPathWays_32 : decode cX1_findPathWays 32 = .ok (.invokevirtual 100, 3) := by decide +kernel
theorem dX1_findPathWays_35 : decode cX1_findPathWays 35 = .ok (.istore 6, 2) := by decide +kernel
theorem dX1_findPathWays_37 : decode cX1_findPathWays 37 = .ok (.iload 6, 2) := by decide +kernel
theorem dX1_findPathWays_39 : decode cX1_findPathWays 39 = .ok (.iconst (-1), 1) := by decide +kernel
theorem dX1_findPathWays_40 : decode cX1_findPathWays 40 = .ok (.if_icmp .eq 21, 3) := by decide +kernel
theorem dX1_findPathWays_43 : decode cX1_findPathWays 43 = .ok (.aload_n 0, 1) := by decide +kernel
theorem dX1_findPathWays_44 : decode cX1_findPathWays 44 = .ok (.iload 6, 2) := by decide +kernel
theorem dX1_findPathWays_46 : decode cX1_findPathWays 46 = .ok (.invokevirtual 89, 3) := by decide +kernel
theorem dX1_findPathWays_49 : decode cX1_findPathWays 49 = .ok (.ifCond .eq 12, 3) := by decide +kernel
theorem dX1_findPathWays_52 : decode cX1_findPathWays 52 = .ok (.aload_n 2, 1) := by decide +kernel
theorem dX1_findPathWays_53 : decode cX1_findPathWays 53 = .ok (.iload 4, 2) := by decide +kernel
theorem dX1_findPathWays_55 : decode cX1_findPathWays 55 = .ok (.iload 6, 2) := by decide +kernel
theorem dX1_findPathWays_57 : decode cX1_findPathWays 57 = .ok (.iastore, 1) := by decide +kernel
theorem dX1_findPathWays_58 : decode cX1_findPathWays 58 = .ok (.iinc 4 1, 3) := by decide +kernel
theorem dX1_findPathWays_61 : decode cX1_findPathWays 61 = .ok (.iinc 5 1, 3) := by decide +kernel
theorem dX1_findPathWays_64 : decode cX1_findPathWays 64 = .ok (.goto (-58), 3) := by decide +kernel
theorem dX1_findPathWays_67 : decode cX1_findPathWays 67 = .ok (.iload 4, 2) := by decide +kernel
theorem dX1_findPathWays_69 : decode cX1_findPathWays 69 = .ok (.ireturn, 1) := by decide +kernel
set_option maxRecDepth 20000 in
theorem ggX1_hasWayTo_X1_findWays : GoodIn wsX1_hasWayTo wsX1_findWays := goodIn_r _ [6, 7, 8, 9, 10, 11, 12, 13, 14, 15, 16, 17, 18, 19, 20, 21, 22, 23, 5, 24, 25, 26, 27, 28, 29, 30, 31, 32, 33, 34, 35, 36, 37, 38, 39, 40, 41, 42, 43, 44, 45, 46, 47, 48, 49, 50, 51, 52, 53, 54, 55, 56, 57, 58] (by decide +kernel) (by decide +kernel)
set_option maxRecDepth 20000 in
theorem gX1_hasWayTo_X1_findWays : GoodIn wsX1_hasWayTo (wsV RX1 103 RX1 yX1_findWays wsX1_findWays) := goodIn_app (goodIn_of _ (by decide +kernel)) ggX1_hasWayTo_X1_findWays
theorem dX1_hasWayTo_0 : decode cX1_hasWayTo 0 = .ok (.aload_n 0, 1) := by decide +kernel
theorem dX1_hasWayTo_1 : decode cX1_hasWayTo 1 = .ok (.iload_n 1, 1) := by decide +kernel
theorem dX1_hasWayTo_2 : decode cX1_hasWayTo 2 = .ok (.aload_n 0, 1) := by decide +kernel
theorem dX1_hasWayTo_3 : decode cX1_hasWayTo 3 = .ok (.getfield 18, 3) := by decide +kernel
theorem dX1_hasWayTo_6 : decode cX1_hasWayTo 6 = .ok (.invokevirtual 103, 3) := by decide +kernel
theorem dX1_hasWayTo_9 : decode cX1_hasWayTo 9 = .ok (.istore_n 3, 1) := by decide +kernel
theorem dX1_hasWayTo_10 : decode cX1_hasWayTo 10 = .ok (.iconst 0, 1) := by decide +kernel
theorem dX1_hasWayTo_11 : decode cX1_hasWayTo 11 = .ok (.istore 4, 2) := by decide +kernel
theorem dX1_hasWayTo_13 : decode cX1_hasWayTo 13 = .ok (.iload 4, 2) := by decide +kernel
theorem dX1_hasWayTo_15 : decode cX1_hasWayTo 15 = .ok (.iload_n 3, 1) := by decide +kernel
theorem dX1_hasWayTo_16 : decode cX1_hasWayTo 16 = .ok (.if_icmp .ge 32, 3) := by decide +kernel
theorem dX1_hasWayTo_19 : decode cX1_hasWayTo 19 = .ok (.iload 4, 2) := by decide +kernel
theorem dX1_hasWayTo_21 : decode cX1_hasWayTo 21 = .ok (.aload_n 0, 1) := by decide +kernel
theorem dX1_hasWayTo_22 : decode cX1_hasWayTo 22 = .ok (.getfield 18, 3) := by decide +kernel
theorem dX1_hasWayTo_25 : decode cX1_hasWayTo 25 = .ok (.arraylength, 1) := by decide +kernel
theorem dX1_hasWayTo_26 : decode cX1_hasWayTo 26 = .ok (.if_icmp .ge 22, 3) := by decide +kernel
theorem dX1_hasWayTo_29 : decode cX1_hasWayTo 29 = .ok (.aload_n 0, 1) := by decide +kernel
theorem dX1_hasWayTo_30 : decode cX1_hasWayTo 30 = .ok (.getfield 18, 3) := by decide +kernel
theorem dX1_hasWayTo_33 : decode cX1_hasWayTo 33 = .ok (.iload 4, 2) := by decide +kernel
theorem dX1_hasWayTo_35 : decode cX1_hasWayTo 35 = .ok (.iaload, 1) := by decide +kernel
theorem dX1_hasWayTo_36 : decode cX1_hasWayTo 36 = .ok (.iload_n 2, 1) := by decide +kernel
theorem dX1_hasWayTo_37 : decode cX1_hasWayTo 37 = .ok (.if_icmp .ne 5, 3) := by decide +kernel
theorem dX1_hasWayTo_40 : decode cX1_hasWayTo 40 = .ok (.iconst 1, 1) := by decide +kernel
theorem dX1_hasWayTo_41 : decode cX1_hasWayTo 41 = .ok (.ireturn, 1) := by decide +kernel
theorem dX1_hasWayTo_42 : decode cX1_hasWayTo 42 = .ok (.iinc 4 1, 3) := by decide +kernel
theorem dX1_hasWayTo_45 : decode cX1_hasWayTo 45 = .ok (.goto (-32), 3) := by decide +kernel
theorem dX1_hasWayTo_48 : decode cX1_hasWayTo 48 = .ok (.iconst 0, 1) := by decide +kernel
theorem dX1_hasWayTo_49 : decode cX1_hasWayTo 49 = .ok (.ireturn, 1) := by decide +kernel
set_option maxRecDepth 20000 in
theorem ggX1_moveHouse_X1_groundOf : GoodIn wsX1_moveHouse wsX1_groundOf := goodIn_r _ [7, 8, 9, 2, 10, 11, 12, 13, 14, 15, 16, 17, 18, 19, 20, 21, 22, 23, 24, 25, 26, 27, 28, 29, 30, 31, 32, 33, 34, 35, 36, 37, 38, 39, 40, 41] (by decide +kernel) (by decide +kernel)
set_option maxRecDepth 20000 in
theorem gX1_moveHouse_X1_groundOf : GoodIn wsX1_moveHouse (wsV RX1 76 RX1 yX1_groundOf wsX1_groundOf) := goodIn_app (goodIn_of _ (by decide +kernel)) ggX1_moveHouse_X1_groundOf
theorem dX1_moveHouse_0 : decode cX1_moveHouse 0 = .ok (.aload_n 0, 1) := by decide +kernel
theorem dX1_moveHouse_1 : decode cX1_moveHouse 1 = .ok (.dup, 1) := by decide +kernel
theorem dX1_moveHouse_2 : decode cX1_moveHouse 2 = .ok (.getfield 47, 3) := by decide +kernel
theorem dX1_moveHouse_5 : decode cX1_moveHouse 5 = .ok (.aload_n 0, 1) := by decide +kernel
theorem dX1_moveHouse_6 : decode cX1_moveHouse 6 = .ok (.iload_n 1, 1) := by decide +kernel
theorem dX1_moveHouse_7 : decode cX1_moveHouse 7 = .ok (.invokevirtual 76, 3) := by decide +kernel
theorem dX1_moveHouse_10 : decode cX1_moveHouse 10 = .ok (.iconst (-1), 1) := by decide +kernel
theorem dX1_moveHouse_11 : decode cX1_moveHouse 11 = .ok (.ixor, 1) := by decide +kernel
theorem dX1_moveHouse_12 : decode cX1_moveHouse 12 = .ok (.iand, 1) := by decide +kernel
theorem dX1_moveHouse_13 : decode cX1_moveHouse 13 = .ok (.putfield 47, 3) := by decide +kernel
theorem dX1_moveHouse_16 : decode cX1_moveHouse 16 = .ok (.aload_n 0, 1) := by decide +kernel
theorem dX1_moveHouse_17 : decode cX1_moveHouse 17 = .ok (.getfield 9, 3) := by decide +kernel
theorem dX1_moveHouse_20 : decode cX1_moveHouse 20 = .ok (.iload_n 1, 1) := by decide +kernel
theorem dX1_moveHouse_21 : decode cX1_moveHouse 21 = .ok (.iload_n 2, 1) := by decide +kernel
theorem dX1_moveHouse_22 : decode cX1_moveHouse 22 = .ok (.iastore, 1) := by decide +kernel
theorem dX1_moveHouse_23 : decode cX1_moveHouse 23 = .ok (.aload_n 0, 1) := by decide +kernel
theorem dX1_moveHouse_24 : decode cX1_moveHouse 24 = .ok (.dup, 1) := by decide +kernel
theorem dX1_moveHouse_25 : decode cX1_moveHouse 25 = .ok (.getfield 47, 3) := by decide +kernel
theorem dX1_moveHouse_28 : decode cX1_moveHouse 28 = .ok (.aload_n 0, 1) := by decide +kernel
theorem dX1_moveHouse_29 : decode cX1_moveHouse 29 = .ok (.iload_n 1, 1) := by decide +kernel
theorem dX1_moveHouse_30 : decode cX1_moveHouse 30 = .ok (.invokevirtual 76, 3) := by decide +kernel
theorem dX1_moveHouse_33 : decode cX1_moveHouse 33 = .ok (.ior, 1) := by decide +kernel
theorem dX1_moveHouse_34 : decode cX1_moveHouse 34 = .ok (.putfield 47, 3) := by decide +kernel
theorem dX1_moveHouse_37 : decode cX1_moveHouse 37 = .ok (.return_, 1) := by decide +kernel
set_option maxRecDepth 20000 in
theorem ggX1_passNight_X1_passNightByLot : GoodIn wsX1_passNight wsX1_passNightByLot := goodIn_r _ [7, 8, 9, 2, 1, 10, 11, 12, 13, 14, 6, 15, 16, 17, 18, 19, 20, 21, 22, 23, 24, 25, 26, 27, 28, 29, 30, 31, 32, 33, 34, 35, 36, 37, 38, 39, 40, 41, 42, 43, 44, 45, 46, 47, 48, 49, 50, 51, 52, 53, 54, 55, 56, 57, 58, 59, 60, 61, 62, 63, 64, 65, 66, 67, 80, 81, 82, 83, 84, 85, 86, 87, 88, 89, 90, 91, 92, 93, 94, 95, 96, 97, 98, 99, 100, 101] (by decide +kernel) (by decide +kernel)
set_option maxRecDepth 20000 in
theorem gX1_passNight_X1_passNightByLot : GoodIn wsX1_passNight (wsV RX1 107 RX1 yX1_passNightByLot wsX1_passNightByLot) := goodIn_app (goodIn_of _ (by decide +kernel)) ggX1_passNight_X1_passNightByLot
set_option maxRecDepth 20000 in
theorem ggX1_passNight_X1_chooseRoller : GoodIn wsX1_passNight wsX1_chooseRoller := goodIn_r _ [71, 54, 72, 73, 74, 6, 75, 8, 9, 53, 2, 12, 13, 14, 15, 16, 17, 18, 19, 20, 21, 22, 23, 24, 25, 26, 27, 28, 29, 30, 31, 32, 33, 34, 35, 36, 37, 38, 39, 40, 41, 42, 43, 44, 76, 77, 78, 79, 80, 81, 82, 83, 84, 85, 86, 87, 88, 89, 90, 91, 92, 93, 94, 95, 96, 97, 98, 99, 100, 101] (by decide +kernel) (by decide +kernel)
set_option maxRecDepth 20000 in
theorem gX1_passNight_X1_chooseRoller : GoodIn wsX1_passNight (wsV RX1 110 RX1 yX1_chooseRoller wsX1_chooseRoller) := goodIn_app (goodIn_of _ (by decide +kernel)) ggX1_passNight_X1_chooseRoller
set_option maxRecDepth 20000 in
theorem ggX1_passNight_X1_findWays : GoodIn wsX1_passNight wsX1_findWays := goodIn_r _ [15, 8, 16, 17, 18, 19, 20, 21, 22, 23, 24, 25, 26, 27, 28, 29, 30, 31, 6, 32, 33, 34, 35, 36, 37, 38, 39, 40, 41, 42, 43, 44, 80, 81, 82, 83, 84, 85, 86, 87, 88, 89, 90, 91, 92, 93, 94, 95, 96, 97, 98, 99, 100, 101] (by decide +kernel) (by decide +kernel)
set_option maxRecDepth 20000 in
theorem gX1_passNight_X1_findWays : GoodIn wsX1_passNight (wsV RX1 103 RX1 yX1_findWays wsX1_findWays) := goodIn_app (goodIn_of _ (by decide +kernel)) ggX1_passNight_X1_findWays
set_option maxRecDepth 20000 in
theorem ggX1_passNight_X1_passNightOf : GoodIn wsX1_passNight wsX1_passNightOf := goodIn_r _ [52, 1, 53, 8, 9, 54, 55, 56, 57, 6, 58, 33, 18, 59, 60, 61, 62, 16, 63, 64, 65, 22, 66, 67, 20, 21, 23, 24, 80, 81, 82, 83, 84, 85, 86, 87, 88, 89, 90, 91, 92, 93, 94, 95, 96, 97, 98, 99, 100, 101] (by decide +kernel) (by decide +kernel)
set_option maxRecDepth 20000 in
theorem gX1_passNight_X1_passNightOf : GoodIn wsX1_passNight (wsV RX1 113 RX1 yX1_passNightOf wsX1_passNightOf) := goodIn_app (goodIn_of _ (by decide +kernel)) ggX1_passNight_X1_passNightOf
theorem dX1_passNight_0 : decode cX1_passNight 0 = .ok (.iload_n 1, 1) := by decide +kernel
theorem dX1_passNight_1 : decode cX1_passNight 1 = .ok (.iconst 3, 1) := by decide +kernel
theorem dX1_passNight_2 : decode cX1_passNight 2 = .ok (.if_icmp .ne 8, 3) := by decide +kernel
theorem dX1_passNight_5 : decode cX1_passNight 5 = .ok (.aload_n 0, 1) := by decide +kernel
theorem dX1_passNight_6 : decode cX1_passNight 6 = .ok (.invokevirtual 107, 3) := by decide +kernel
theorem dX1_passNight_9 : decode cX1_passNight 9 = .ok (.return_, 1) := by decide +kernel
theorem dX1_passNight_10 : decode cX1_passNight 10 = .ok (.aload_n 0, 1) := by decide +kernel
theorem dX1_passNight_11 : decode cX1_passNight 11 = .ok (.iload_n 1, 1) := by decide +kernel
theorem dX1_passNight_12 : decode cX1_passNight 12 = .ok (.invokevirtual 110, 3) := by decide +kernel
theorem dX1_passNight_15 : decode cX1_passNight 15 = .ok (.istore_n 2, 1) := by decide +kernel
theorem dX1_passNight_16 : decode cX1_passNight 16 = .ok (.iload_n 2, 1) := by decide +kernel
theorem dX1_passNight_17 : decode cX1_passNight 17 = .ok (.iconst (-1), 1) := by decide +kernel
theorem dX1_passNight_18 : decode cX1_passNight 18 = .ok (.if_icmp .ne 14, 3) := by decide +kernel
theorem dX1_passNight_21 : decode cX1_passNight 21 = .ok (.aload_n 0, 1) := by decide +kernel
theorem dX1_passNight_22 : decode cX1_passNight 22 = .ok (.dup, 1) := by decide +kernel
theorem dX1_passNight_23 : decode cX1_passNight 23 = .ok (.getfield 51, 3) := by decide +kernel
theorem dX1_passNight_26 : decode cX1_passNight 26 = .ok (.iconst 1, 1) := by decide +kernel
theorem dX1_passNight_27 : decode cX1_passNight 27 = .ok (.iadd, 1) := by decide +kernel
theorem dX1_passNight_28 : decode cX1_passNight 28 = .ok (.putfield 51, 3) := by decide +kernel
theorem dX1_passNight_31 : decode cX1_passNight 31 = .ok (.return_, 1) := by decide +kernel
theorem dX1_passNight_32 : decode cX1_passNight 32 = .ok (.aload_n 0, 1) := by decide +kernel
theorem dX1_passNight_33 : decode cX1_passNight 33 = .ok (.iload_n 2, 1) := by decide +kernel
theorem dX1_passNight_34 : decode cX1_passNight 34 = .ok (.aload_n 0, 1) := by decide +kernel
theorem dX1_passNight_35 : decode cX1_passNight 35 = .ok (.getfield 18, 3) := by decide +kernel
theorem dX1_passNight_38 : decode cX1_passNight 38 = .ok (.invokevirtual 103, 3) := by decide +kernel
theorem dX1_passNight_41 : decode cX1_passNight 41 = .ok (.pop, 1) := by decide +kernel
theorem dX1_passNight_42 : decode cX1_passNight 42 = .ok (.aload_n 0, 1) := by decide +kernel
theorem dX1_passNight_43 : decode cX1_passNight 43 = .ok (.iload_n 2, 1) := by decide +kernel
theorem dX1_passNight_44 : decode cX1_passNight 44 = .ok (.aload_n 0, 1) := by decide +kernel
theorem dX1_passNight_45 : decode cX1_passNight 45 = .ok (.getfield 18, 3) := by decide +kernel
theorem dX1_passNight_48 : decode cX1_passNight 48 = .ok (.iconst 0, 1) := by decide +kernel
theorem dX1_passNight_49 : decode cX1_passNight 49 = .ok (.iaload, 1) := by decide +kernel
theorem dX1_passNight_50 : decode cX1_passNight 50 = .ok (.iload_n 1, 1) := by decide +kernel
theorem dX1_passNight_51 : decode cX1_passNight 51 = .ok (.invokevirtual 113, 3) := by decide +kernel
theorem dX1_passNight_54 : decode cX1_passNight 54 = .ok (.return_, 1) := by decide +kernel
set_option maxRecDepth 20000 in
theorem ggX1_passNightOf_X1_moveHouse : GoodIn wsX1_passNightOf wsX1_moveHouse := goodIn_r _ [10, 11, 12, 13, 14, 15, 9, 16, 3, 17, 18, 19, 20, 21, 22, 23, 24, 25, 26, 27, 28, 29, 30, 31, 32, 33, 34, 35, 36, 37, 38, 39, 40, 41, 42, 43, 44, 45, 46, 47, 48, 49] (by decide +kernel) (by decide +kernel)
set_option maxRecDepth 20000 in
theorem gX1_passNightOf_X1_moveHouse : GoodIn wsX1_passNightOf (wsV RX1 117 RX1 yX1_moveHouse wsX1_moveHouse) := goodIn_app (goodIn_of _ (by decide +kernel)) ggX1_passNightOf_X1_moveHouse
theorem dX1_passNightOf_0 : decode cX1_passNightOf 0 = .ok (.aload_n 0, 1) := by decide +kernel
theorem dX1_passNightOf_1 : decode cX1_passNightOf 1 = .ok (.dup, 1) := by decide +kernel
theorem dX1_passNightOf_2 : decode cX1_passNightOf 2 = .ok (.getfield 51, 3) := by decide +kernel
theorem dX1_passNightOf_5 : decode cX1_passNightOf 5 = .ok (.iconst 1, 1) := by decide +kernel
theorem dX1_passNightOf_6 : decode cX1_passNightOf 6 = .ok (.iadd, 1) := by decide +kernel
theorem dX1_passNightOf_7 : decode cX1_passNightOf 7 = .ok (.putfield 51, 3) := by decide +kernel
theorem dX1_passNightOf_10 : decode cX1_passNightOf 10 = .ok (.aload_n 0, 1) := by decide +kernel
theorem dX1_passNightOf_11 : decode cX1_passNightOf 11 = .ok (.iload_n 1, 1) := by decide +kernel
theorem dX1_passNightOf_12 : decode cX1_passNightOf 12 = .ok (.iload_n 2, 1) := by decide +kernel
theorem dX1_passNightOf_13 : decode cX1_passNightOf 13 = .ok (.invokevirtual 117, 3) := by decide +kernel
theorem dX1_passNightOf_16 : decode cX1_passNightOf 16 = .ok (.aload_n 0, 1) := by decide +kernel
theorem dX1_passNightOf_17 : decode cX1_passNightOf 17 = .ok (.getfield 15, 3) := by decide +kernel
theorem dX1_passNightOf_20 : decode cX1_passNightOf 20 = .ok (.iload_n 1, 1) := by decide +kernel
theorem dX1_passNightOf_21 : decode cX1_passNightOf 21 = .ok (.aload_n 0, 1) := by decide +kernel
theorem dX1_passNightOf_22 : decode cX1_passNightOf 22 = .ok (.getfield 51, 3) := by decide +kernel
theorem dX1_passNightOf_25 : decode cX1_passNightOf 25 = .ok (.iastore, 1) := by decide +kernel
theorem dX1_passNightOf_26 : decode cX1_passNightOf 26 = .ok (.iload_n 3, 1) := by decide +kernel
theorem dX1_passNightOf_27 : decode cX1_passNightOf 27 = .ok (.iconst 1, 1) := by decide +kernel
theorem dX1_passNightOf_28 : decode cX1_passNightOf 28 = .ok (.if_icmp .ne 27, 3) := by decide +kernel
theorem dX1_passNightOf_31 : decode cX1_passNightOf 31 = .ok (.aload_n 0, 1) := by decide +kernel
theorem dX1_passNightOf_32 : decode cX1_passNightOf 32 = .ok (.iload_n 1, 1) := by decide +kernel
theorem dX1_passNightOf_33 : decode cX1_passNightOf 33 = .ok (.iconst 1, 1) := by decide +kernel
theorem dX1_passNightOf_34 : decode cX1_passNightOf 34 = .ok (.iadd, 1) := by decide +kernel
theorem dX1_passNightOf_35 : decode cX1_passNightOf 35 = .ok (.aload_n 0, 1) := by decide +kernel
theorem dX1_passNightOf_36 : decode cX1_passNightOf 36 = .ok (.getfield 21, 3) := by decide +kernel
theorem dX1_passNightOf_39 : decode cX1_passNightOf 39 = .ok (.getfield 73, 3) := by decide +kernel
theorem dX1_passNightOf_42 : decode cX1_passNightOf 42 = .ok (.if_icmp .ge 9, 3) := by decide +kernel
theorem dX1_passNightOf_45 : decode cX1_passNightOf 45 = .ok (.iload_n 1, 1) := by decide +kernel
theorem dX1_passNightOf_46 : decode cX1_passNightOf 46 = .ok (.iconst 1, 1) := by decide +kernel
theorem dX1_passNightOf_47 : decode cX1_passNightOf 47 = .ok (.iadd, 1) := by decide +kernel
theorem dX1_passNightOf_48 : decode cX1_passNightOf 48 = .ok (.goto 4, 3) := by decide +kernel
theorem dX1_passNightOf_51 : decode cX1_passNightOf 51 = .ok (.iconst 0, 1) := by decide +kernel
theorem dX1_passNightOf_52 : decode cX1_passNightOf 52 = .ok (.putfield 54, 3) := by decide +kernel
theorem dX1_passNightOf_55 : decode cX1_passNightOf 55 = .ok (.return_, 1) := by decide +kernel
set_option maxRecDepth 20000 in
theorem ggX1_passNightByLot_X1_findWays : GoodIn wsX1_passNightByLot wsX1_findWays := goodIn_r _ [11, 1, 12, 13, 14, 15, 16, 17, 18, 19, 20, 21, 22, 23, 24, 25, 26, 27, 10, 28, 29, 30, 31, 32, 33, 34, 35, 36, 37, 38, 39, 40, 64, 65, 66, 67, 68, 69, 70, 71, 72, 73, 74, 75, 76, 77, 78, 79, 80, 81, 82, 83, 84, 85] (by decide +kernel) (by decide +kernel)
set_option maxRecDepth 20000 in
theorem gX1_passNightByLot_X1_findWays : GoodIn wsX1_passNightByLot (wsV RX1 103 RX1 yX1_findWays wsX1_findWays) := goodIn_app (goodIn_of _ (by decide +kernel)) ggX1_passNightByLot_X1_findWays
set_option maxRecDepth 20000 in
theorem ggX1_passNightByLot_X1_rollByNumber : GoodIn wsX1_passNightByLot wsX1_rollByNumber := goodIn_r _ [44, 1, 2, 3, 7, 8, 9, 10, 11, 12, 13, 14, 15, 16, 17, 18, 19, 20, 21, 22, 23, 24, 25, 26, 27, 28, 29, 30, 31, 32, 33, 34, 35, 36, 37, 38, 39, 40, 45, 46, 47, 48, 4, 49, 50, 51, 52, 53, 54, 55, 56, 57, 58, 59, 60, 61, 62, 63, 64, 65, 66, 67, 68, 69, 70, 71, 72, 73, 74, 75, 76, 77, 78, 79, 80, 81, 82, 83, 84, 85] (by decide +kernel) (by decide +kernel)
set_option maxRecDepth 20000 in
theorem gX1_passNightByLot_X1_rollByNumber : GoodIn wsX1_passNightByLot (wsV RX1 122 RX1 yX1_rollByNumber wsX1_rollByNumber) := goodIn_app (goodIn_of _ (by decide +kernel)) ggX1_passNightByLot_X1_rollByNumber
theorem dX1_passNightByLot_0 : decode cX1_passNightByLot 0 = .ok (.iconst 0, 1) := by decide +kernel
theorem dX1_passNightByLot_1 : decode cX1_passNightByLot 1 = .ok (.istore_n 1, 1) := by decide +kernel
theorem dX1_passNightByLot_2 : decode cX1_passNightByLot 2 = .ok (.iconst 0, 1) := by decide +kernel
theorem dX1_passNightByLot_3 : decode cX1_passNightByLot 3 = .ok (.istore_n 2, 1) := by decide +kernel
theorem dX1_passNightByLot_4 : decode cX1_passNightByLot 4 = .ok (.iload_n 2, 1) := by decide +kernel
theorem dX1_passNightByLot_5 : decode cX1_passNightByLot 5 = .ok (.aload_n 0, 1) := by decide +kernel
theorem dX1_passNightByLot_6 : decode cX1_passNightByLot 6 = .ok (.getfield 21, 3) := by decide +kernel
theorem dX1_passNightByLot_9 : decode cX1_passNightByLot 9 = .ok (.getfield 73, 3) := by decide +kernel
theorem dX1_passNightByLot_12 : decode cX1_passNightByLot 12 = .ok (.if_icmp .ge 21, 3) := by decide +kernel
theorem dX1_passNightByLot_15 : decode cX1_passNightByLot 15 = .ok (.iload_n 1, 1) := by decide +kernel
theorem dX1_passNightByLot_16 : decode cX1_passNightByLot 16 = .ok (.aload_n 0, 1) := by decide +kernel
theorem dX1_passNightByLot_17 : decode cX1_passNightByLot 17 = .ok (.iload_n 2, 1) := by decide +kernel
theorem dX1_passNightByLot_18 : decode cX1_passNightByLot 18 = .ok (.aload_n 0, 1) := by decide +kernel
theorem dX1_passNightByLot_19 : decode cX1_passNightByLot 19 = .ok (.getfield 18, 3) := by decide +kernel
theorem dX1_passNightByLot_22 : decode cX1_passNightByLot 22 = .ok (.invokevirtual 103, 3) := by decide +kernel
theorem dX1_passNightByLot_25 : decode cX1_passNightByLot 25 = .ok (.iadd, 1) := by decide +kernel
theorem dX1_passNightByLot_26 : decode cX1_passNightByLot 26 = .ok (.istore_n 1, 1) := by decide +kernel
theorem dX1_passNightByLot_27 : decode cX1_passNightByLot 27 = .ok (.iinc 2 1, 3) := by decide +kernel
theorem dX1_passNightByLot_30 : decode cX1_passNightByLot 30 = .ok (.goto (-26), 3) := by decide +kernel
theorem dX1_passNightByLot_33 : decode cX1_passNightByLot 33 = .ok (.iload_n 1, 1) := by decide +kernel
theorem dX1_passNightByLot_34 : decode cX1_passNightByLot 34 = .ok (.ifCond .gt 14, 3) := by decide +kernel
theorem dX1_passNightByLot_37 : decode cX1_passNightByLot 37 = .ok (.aload_n 0, 1) := by decide +kernel
theorem dX1_passNightByLot_38 : decode cX1_passNightByLot 38 = .ok (.dup, 1) := by decide +kernel
theorem dX1_passNightByLot_39 : decode cX1_passNightByLot 39 = .ok (.getfield 51, 3) := by decide +kernel
theorem dX1_passNightByLot_42 : decode cX1_passNightByLot 42 = .ok (.iconst 1, 1) := by decide +kernel
theorem dX1_passNightByLot_43 : decode cX1_passNightByLot 43 = .ok (.iadd, 1) := by decide +kernel
theorem dX1_passNightByLot_44 : decode cX1_passNightByLot 44 = .ok (.putfield 51, 3) := by decide +kernel
theorem dX1_passNightByLot_47 : decode cX1_passNightByLot 47 = .ok (.return_, 1) := by decide +kernel
theorem dX1_passNightByLot_48 : decode cX1_passNightByLot 48 = .ok (.aload_n 0, 1) := by decide +kernel
theorem dX1_passNightByLot_49 : decode cX1_passNightByLot 49 = .ok (.sipush 16807, 3) := by decide +kernel
theorem dX1_passNightByLot_52 : decode cX1_passNightByLot 52 = .ok (.aload_n 0, 1) := by decide +kernel
theorem dX1_passNightByLot_53 : decode cX1_passNightByLot 53 = .ok (.getfield 60, 3) := by decide +kernel
theorem dX1_passNightByLot_56 : decode cX1_passNightByLot 56 = .ok (.imul, 1) := by decide +kernel
theorem dX1_passNightByLot_57 : decode cX1_passNightByLot 57 = .ok (.ldc 121, 2) := by decide +kernel
theorem dX1_passNightByLot_59 : decode cX1_passNightByLot 59 = .ok (.irem, 1) := by decide +kernel
theorem dX1_passNightByLot_60 : decode cX1_passNightByLot 60 = .ok (.putfield 60, 3) := by decide +kernel
theorem dX1_passNightByLot_63 : decode cX1_passNightByLot 63 = .ok (.aload_n 0, 1) := by decide +kernel
theorem dX1_passNightByLot_64 : decode cX1_passNightByLot 64 = .ok (.aload_n 0, 1) := by decide +kernel
theorem dX1_passNightByLot_65 : decode cX1_passNightByLot 65 = .ok (.getfield 60, 3) := by decide +kernel
theorem dX1_passNightByLot_68 : decode cX1_passNightByLot 68 = .ok (.iload_n 1, 1) := by decide +kernel
theorem dX1_passNightByLot_69 : decode cX1_passNightByLot 69 = .ok (.irem, 1) := by decide +kernel
theorem dX1_passNightByLot_70 : decode cX1_passNightByLot 70 = .ok (.invokevirtual 122, 3) := by decide +kernel
theorem dX1_passNightByLot_73 : decode cX1_passNightByLot 73 = .ok (.return_, 1) := by decide +kernel
set_option maxRecDepth 20000 in
theorem ggX1_rollByNumber_X1_findWays : GoodIn wsX1_rollByNumber wsX1_findWays := goodIn_r _ [8, 1, 9, 10, 11, 12, 13, 14, 15, 16, 17, 18, 19, 20, 21, 22, 23, 24, 7, 25, 26, 27, 28, 29, 30, 31, 32, 33, 34, 35, 36, 37, 58, 59, 60, 61, 62, 63, 64, 65, 66, 67, 68, 69, 70, 71, 72, 73, 74, 75, 76, 77, 78, 79] (by decide +kernel) (by decide +kernel)
set_option maxRecDepth 20000 in
theorem gX1_rollByNumber_X1_findWays : GoodIn wsX1_rollByNumber (wsV RX1 103 RX1 yX1_findWays wsX1_findWays) := goodIn_app (goodIn_of _ (by decide +kernel)) ggX1_rollByNumber_X1_findWays
set_option maxRecDepth 20000 in
theorem ggX1_rollByNumber_X1_passNightOf : GoodIn wsX1_rollByNumber wsX1_passNightOf := goodIn_r _ [41, 42, 43, 1, 2, 44, 45, 46, 47, 7, 48, 26, 11, 49, 50, 51, 52, 9, 53, 54, 55, 15, 56, 57, 13, 14, 16, 17, 58, 59, 60, 61, 62, 63, 64, 65, 66, 67, 68, 69, 70, 71, 72, 73, 74, 75, 76, 77, 78, 79] (by decide +kernel) (by decide +kernel)
set_option maxRecDepth 20000 in
theorem gX1_rollByNumber_X1_passNightOf : GoodIn wsX1_rollByNumber (wsV RX1 113 RX1 yX1_passNightOf wsX1_passNightOf) := goodIn_app (goodIn_of _ (by decide +kernel)) ggX1_rollByNumber_X1_passNightOf
theorem dX1_rollByNumber_0 : decode cX1_rollByNumber 0 = .ok (.iload_n 1, 1) := by decide +kernel
theorem dX1_rollByNumber_1 : decode cX1_rollByNumber 1 = .ok (.istore_n 2, 1) := by decide +kernel
theorem dX1_rollByNumber_2 : decode cX1_rollByNumber 2 = .ok (.iconst 0, 1) := by decide +kernel
theorem dX1_rollByNumber_3 : decode cX1_rollByNumber 3 = .ok (.istore_n 3, 1) := by decide +kernel
theorem dX1_rollByNumber_4 : decode cX1_rollByNumber 4 = .ok (.iload_n 3, 1) := by decide +kernel
theorem dX1_rollByNumber_5 : decode cX1_rollByNumber 5 = .ok (.aload_n 0, 1) := by decide +kernel
theorem dX1_rollByNumber_6 : decode cX1_rollByNumber 6 = .ok (.getfield 21, 3) := by decide +kernel
theorem dX1_rollByNumber_9 : decode cX1_rollByNumber 9 = .ok (.getfield 73, 3) := by decide +kernel
theorem dX1_rollByNumber_12 : decode cX1_rollByNumber 12 = .ok (.if_icmp .ge 57, 3) := by decide +kernel
theorem dX1_rollByNumber_15 : decode cX1_rollByNumber 15 = .ok (.aload_n 0, 1) := by decide +kernel
theorem dX1_rollByNumber_16 : decode cX1_rollByNumber 16 = .ok (.iload_n 3, 1) := by decide +kernel
theorem dX1_rollByNumber_17 : decode cX1_rollByNumber 17 = .ok (.aload_n 0, 1) := by decide +kernel
theorem dX1_rollByNumber_18 : decode cX1_rollByNumber 18 = .ok (.getfield 18, 3) := by decide +kernel
theorem dX1_rollByNumber_21 : decode cX1_rollByNumber 21 = .ok (.invokevirtual 103, 3) := by decide +kernel
theorem dX1_rollByNumber_24 : decode cX1_rollByNumber 24 = .ok (.istore 4, 2) := by decide +kernel
theorem dX1_rollByNumber_26 : decode cX1_rollByNumber 26 = .ok (.iload_n 2, 1) := by decide +kernel
theorem dX1_rollByNumber_27 : decode cX1_rollByNumber 27 = .ok (.ifCond .lt 31, 3) := by decide +kernel
theorem dX1_rollByNumber_30 : decode cX1_rollByNumber 30 = .ok (.iload_n 2, 1) := by decide +kernel
theorem dX1_rollByNumber_31 : decode cX1_rollByNumber 31 = .ok (.iload 4, 2) := by decide +kernel
theorem dX1_rollByNumber_33 : decode cX1_rollByNumber 33 = .ok (.if_icmp .ge 25, 3) := by decide +kernel
theorem dX1_rollByNumber_36 : decode cX1_rollByNumber 36 = .ok (.iload_n 2, 1) := by decide +kernel
theorem dX1_rollByNumber_37 : decode cX1_rollByNumber 37 = .ok (.aload_n 0, 1) := by decide +kernel
theorem dX1_rollByNumber_38 : decode cX1_rollByNumber 38 = .ok (.getfield 18, 3) := by decide +kernel
theorem dX1_rollByNumber_41 : decode cX1_rollByNumber 41 = .ok (.arraylength, 1) := by decide +kernel
theorem dX1_rollByNumber_42 : decode cX1_rollByNumber 42 = .ok (.if_icmp .ge 16, 3) := by decide +kernel
theorem dX1_rollByNumber_45 : decode cX1_rollByNumber 45 = .ok (.aload_n 0, 1) := by decide +kernel
theorem dX1_rollByNumber_46 : decode cX1_rollByNumber 46 = .ok (.iload_n 3, 1) := by decide +kernel
theorem dX1_rollByNumber_47 : decode cX1_rollByNumber 47 = .ok (.aload_n 0, 1) := by decide +kernel
theorem dX1_rollByNumber_48 : decode cX1_rollByNumber 48 = .ok (.getfield 18, 3) := by decide +kernel
theorem dX1_rollByNumber_51 : decode cX1_rollByNumber 51 = .ok (.iload_n 2, 1) := by decide +kernel
theorem dX1_rollByNumber_52 : decode cX1_rollByNumber 52 = .ok (.iaload, 1) := by decide +kernel
theorem dX1_rollByNumber_53 : decode cX1_rollByNumber 53 = .ok (.iconst 3, 1) := by decide +kernel
theorem dX1_rollByNumber_54 : decode cX1_rollByNumber 54 = .ok (.invokevirtual 113, 3) := by decide +kernel
theorem dX1_rollByNumber_57 : decode cX1_rollByNumber 57 = .ok (.return_, 1) := by decide +kernel
theorem dX1_rollByNumber_58 : decode cX1_rollByNumber 58 = .ok (.iload_n 2, 1) := by decide +kernel
theorem dX1_rollByNumber_59 : decode cX1_rollByNumber 59 = .ok (.iload 4, 2) := by decide +kernel
theorem dX1_rollByNumber_61 : decode cX1_rollByNumber 61 = .ok (.isub, 1) := by decide +kernel
theorem dX1_rollByNumber_62 : decode cX1_rollByNumber 62 = .ok (.istore_n 2, 1) := by decide +kernel
theorem dX1_rollByNumber_63 : decode cX1_rollByNumber 63 = .ok (.iinc 3 1, 3) := by decide +kernel
theorem dX1_rollByNumber_66 : decode cX1_rollByNumber 66 = .ok (.goto (-62), 3) := by decide +kernel
theorem dX1_rollByNumber_69 : decode cX1_rollByNumber 69 = .ok (.return_, 1) := by decide +kernel
set_option maxRecDepth 20000 in
theorem ggX1_chooseRoller_X1_longestRested : GoodIn wsX1_chooseRoller wsX1_longestRested := goodIn_r _ [6, 7, 8, 9, 10, 11, 12, 13, 5, 14, 15, 16, 17, 18, 19, 20, 21, 22, 23, 24, 25, 26, 27, 28, 29, 30, 31, 32, 33, 34, 35, 36, 37, 38, 39, 40, 41, 42, 43, 48, 49, 50, 51, 52, 53, 54, 55, 56, 57, 58, 59, 60, 61, 62, 63, 64, 65, 66, 67, 68, 69] (by decide +kernel) (by decide +kernel)
set_option maxRecDepth 20000 in
theorem gX1_chooseRoller_X1_longestRested : GoodIn wsX1_chooseRoller (wsV RX1 126 RX1 yX1_longestRested wsX1_longestRested) := goodIn_app (goodIn_of _ (by decide +kernel)) ggX1_chooseRoller_X1_longestRested
set_option maxRecDepth 20000 in
theorem ggX1_chooseRoller_X1_firstThatCan : GoodIn wsX1_chooseRoller wsX1_firstThatCan := goodIn_r _ [47, 7, 8, 10, 11, 12, 13, 5, 14, 15, 16, 17, 18, 19, 20, 21, 22, 23, 24, 25, 26, 27, 28, 29, 30, 31, 32, 33, 34, 35, 36, 37, 38, 39, 40, 41, 42, 43, 48, 49, 50, 51, 52, 53, 54, 55, 56, 57, 58, 59, 60, 61, 62, 63, 64, 65, 66, 67, 68, 69] (by decide +kernel) (by decide +kernel)
set_option maxRecDepth 20000 in
theorem gX1_chooseRoller_X1_firstThatCan : GoodIn wsX1_chooseRoller (wsV RX1 129 RX1 yX1_firstThatCan wsX1_firstThatCan) := goodIn_app (goodIn_of _ (by decide +kernel)) ggX1_chooseRoller_X1_firstThatCan
theorem dX1_chooseRoller_0 : decode cX1_chooseRoller 0 = .ok (.iload_n 1, 1) := by decide +kernel
theorem dX1_chooseRoller_1 : decode cX1_chooseRoller 1 = .ok (.iconst 2, 1) := by decide +kernel
theorem dX1_chooseRoller_2 : decode cX1_chooseRoller 2 = .ok (.if_icmp .ne 8, 3) := by decide +kernel
theorem dX1_chooseRoller_5 : decode cX1_chooseRoller 5 = .ok (.aload_n 0, 1) := by decide +kernel
theorem dX1_chooseRoller_6 : decode cX1_chooseRoller 6 = .ok (.invokevirtual 126, 3) := by decide +kernel
theorem dX1_chooseRoller_9 : decode cX1_chooseRoller 9 = .ok (.ireturn, 1) := by decide +kernel
theorem dX1_chooseRoller_10 : decode cX1_chooseRoller 10 = .ok (.aload_n 0, 1) := by decide +kernel
theorem dX1_chooseRoller_11 : decode cX1_chooseRoller 11 = .ok (.iload_n 1, 1) := by decide +kernel
theorem dX1_chooseRoller_12 : decode cX1_chooseRoller 12 = .ok (.iconst 1, 1) := by decide +kernel
theorem dX1_chooseRoller_13 : decode cX1_chooseRoller 13 = .ok (.if_icmp .ne 10, 3) := by decide +kernel
theorem dX1_chooseRoller_16 : decode cX1_chooseRoller 16 = .ok (.aload_n 0, 1) := by decide +kernel
theorem dX1_chooseRoller_17 : decode cX1_chooseRoller 17 = .ok (.getfield 54, 3) := by decide +kernel
theorem dX1_chooseRoller_20 : decode cX1_chooseRoller 20 = .ok (.goto 4, 3) := by decide +kernel
theorem dX1_chooseRoller_23 : decode cX1_chooseRoller 23 = .ok (.iconst 0, 1) := by decide +kernel
theorem dX1_chooseRoller_24 : decode cX1_chooseRoller 24 = .ok (.invokevirtual 129, 3) := by decide +kernel
theorem dX1_chooseRoller_27 : decode cX1_chooseRoller 27 = .ok (.ireturn, 1) := by decide +kernel
set_option maxRecDepth 20000 in
theorem ggX1_firstThatCan_X1_findWays : GoodIn wsX1_firstThatCan wsX1_findWays := goodIn_r _ [8, 1, 9, 10, 11, 12, 13, 14, 15, 16, 17, 18, 19, 20, 21, 22, 23, 24, 7, 25, 26, 27, 28, 29, 30, 31, 32, 33, 34, 35, 36, 37, 38, 39, 40, 41, 42, 43, 44, 45, 46, 47, 48, 49, 50, 51, 52, 53, 54, 55, 56, 57, 58, 59] (by decide +kernel) (by decide +kernel)
set_option maxRecDepth 20000 in
theorem gX1_firstThatCan_X1_findWays : GoodIn wsX1_firstThatCan (wsV RX1 103 RX1 yX1_findWays wsX1_findWays) := goodIn_app (goodIn_of _ (by decide +kernel)) ggX1_firstThatCan_X1_findWays
theorem dX1_firstThatCan_0 : decode cX1_firstThatCan 0 = .ok (.iload_n 1, 1) := by decide +kernel
theorem dX1_firstThatCan_1 : decode cX1_firstThatCan 1 = .ok (.istore_n 2, 1) := by decide +kernel
theorem dX1_firstThatCan_2 : decode cX1_firstThatCan 2 = .ok (.iconst 0, 1) := by decide +kernel
theorem dX1_firstThatCan_3 : decode cX1_firstThatCan 3 = .ok (.istore_n 3, 1) := by decide +kernel
theorem dX1_firstThatCan_4 : decode cX1_firstThatCan 4 = .ok (.iload_n 3, 1) := by decide +kernel
theorem dX1_firstThatCan_5 : decode cX1_firstThatCan 5 = .ok (.aload_n 0, 1) := by decide +kernel
theorem dX1_firstThatCan_6 : decode cX1_firstThatCan 6 = .ok (.getfield 21, 3) := by decide +kernel
theorem dX1_firstThatCan_9 : decode cX1_firstThatCan 9 = .ok (.getfield 73, 3) := by decide +kernel
theorem dX1_firstThatCan_12 : decode cX1_firstThatCan 12 = .ok (.if_icmp .ge 44, 3) := by decide +kernel
theorem dX1_firstThatCan_15 : decode cX1_firstThatCan 15 = .ok (.aload_n 0, 1) := by decide +kernel
theorem dX1_firstThatCan_16 : decode cX1_firstThatCan 16 = .ok (.iload_n 2, 1) := by decide +kernel
theorem dX1_firstThatCan_17 : decode cX1_firstThatCan 17 = .ok (.aload_n 0, 1) := by decide +kernel
theorem dX1_firstThatCan_18 : decode cX1_firstThatCan 18 = .ok (.getfield 18, 3) := by decide +kernel
theorem dX1_firstThatCan_21 : decode cX1_firstThatCan 21 = .ok (.invokevirtual 103, 3) := by decide +kernel
theorem dX1_firstThatCan_24 : decode cX1_firstThatCan 24 = .ok (.ifCond .le 5, 3) := by decide +kernel
theorem dX1_firstThatCan_27 : decode cX1_firstThatCan 27 = .ok (.iload_n 2, 1) := by decide +kernel
theorem dX1_firstThatCan_28 : decode cX1_firstThatCan 28 = .ok (.ireturn, 1) := by decide +kernel
theorem dX1_firstThatCan_29 : decode cX1_firstThatCan 29 = .ok (.iload_n 2, 1) := by decide +kernel
theorem dX1_firstThatCan_30 : decode cX1_firstThatCan 30 = .ok (.iconst 1, 1) := by decide +kernel
theorem dX1_firstThatCan_31 : decode cX1_firstThatCan 31 = .ok (.iadd, 1) := by decide +kernel
theorem dX1_firstThatCan_32 : decode cX1_firstThatCan 32 = .ok (.aload_n 0, 1) := by decide +kernel
theorem dX1_firstThatCan_33 : decode cX1_firstThatCan 33 = .ok (.getfield 21, 3) := by decide +kernel
theorem dX1_firstThatCan_36 : decode cX1_firstThatCan 36 = .ok (.getfield 73, 3) := by decide +kernel
theorem dX1_firstThatCan_39 : decode cX1_firstThatCan 39 = .ok (.if_icmp .ge 9, 3) := by decide +kernel
theorem dX1_firstThatCan_42 : decode cX1_firstThatCan 42 = .ok (.iload_n 2, 1) := by decide +kernel
theorem dX1_firstThatCan_43 : decode cX1_firstThatCan 43 = .ok (.iconst 1, 1) := by decide +kernel
theorem dX1_firstThatCan_44 : decode cX1_firstThatCan 44 = .ok (.iadd, 1) := by decide +kernel
theorem dX1_firstThatCan_45 : decode cX1_firstThatCan 45 = .ok (.goto 4, 3) := by decide +kernel
theorem dX1_firstThatCan_48 : decode cX1_firstThatCan 48 = .ok (.iconst 0, 1) := by decide +kernel
theorem dX1_firstThatCan_49 : decode cX1_firstThatCan 49 = .ok (.istore_n 2, 1) := by decide +kernel
theorem dX1_firstThatCan_50 : decode cX1_firstThatCan 50 = .ok (.iinc 3 1, 3) := by decide +kernel
theorem dX1_firstThatCan_53 : decode cX1_firstThatCan 53 = .ok (.goto (-49), 3) := by decide +kernel
theorem dX1_firstThatCan_56 : decode cX1_firstThatCan 56 = .ok (.iconst (-1), 1) := by decide +kernel
theorem dX1_firstThatCan_57 : decode cX1_firstThatCan 57 = .ok (.ireturn, 1) := by decide +kernel
set_option maxRecDepth 20000 in
theorem ggX1_longestRested_X1_findWays : GoodIn wsX1_longestRested wsX1_findWays := goodIn_r _ [9, 1, 10, 11, 12, 13, 14, 15, 16, 17, 18, 19, 20, 21, 22, 23, 24, 25, 8, 26, 27, 28, 29, 30, 31, 32, 33, 34, 35, 36, 37, 38, 39, 40, 41, 42, 43, 44, 45, 46, 47, 48, 49, 50, 51, 52, 53, 54, 55, 56, 57, 58, 59, 60] (by decide +kernel) (by decide +kernel)
set_option maxRecDepth 20000 in
theorem gX1_longestRested_X1_findWays : GoodIn wsX1_longestRested (wsV RX1 103 RX1 yX1_findWays wsX1_findWays) := goodIn_app (goodIn_of _ (by decide +kernel)) ggX1_longestRested_X1_findWays
theorem dX1_longestRested_0 : decode cX1_longestRested 0 = .ok (.iconst (-1), 1) := by decide +kernel
theorem dX1_longestRested_1 : decode cX1_longestRested 1 = .ok (.istore_n 1, 1) := by decide +kernel
theorem dX1_longestRested_2 : decode cX1_longestRested 2 = .ok (.iconst 0, 1) := by decide +kernel
theorem dX1_longestRested_3 : decode cX1_longestRested 3 = .ok (.istore_n 2, 1) := by decide +kernel
theorem dX1_longestRested_4 : decode cX1_longestRested 4 = .ok (.iload_n 2, 1) := by decide +kernel
theorem dX1_longestRested_5 : decode cX1_longestRested 5 = .ok (.aload_n 0, 1) := by decide +kernel
theorem dX1_longestRested_6 : decode cX1_longestRested 6 = .ok (.getfield 21, 3) := by decide +kernel
theorem dX1_longestRested_9 : decode cX1_longestRested 9 = .ok (.getfield 73, 3) := by decide +kernel
theorem dX1_longestRested_12 : decode cX1_longestRested 12 = .ok (.if_icmp .ge 53, 3) := by decide +kernel
theorem dX1_longestRested_15 : decode cX1_longestRested 15 = .ok (.iload_n 1, 1) := by decide +kernel
theorem dX1_longestRested_16 : decode cX1_longestRested 16 = .ok (.iconst (-1), 1) := by decide +kernel
theorem dX1_longestRested_17 : decode cX1_longestRested 17 = .ok (.if_icmp .eq 18, 3) := by decide +kernel
theorem dX1_longestRested_20 : decode cX1_longestRested 20 = .ok (.aload_n 0, 1) := by decide +kernel
theorem dX1_longestRested_21 : decode cX1_longestRested 21 = .ok (.getfield 15, 3) := by decide +kernel
theorem dX1_longestRested_24 : decode cX1_longestRested 24 = .ok (.iload_n 2, 1) := by decide +kernel
theorem dX1_longestRested_25 : decode cX1_longestRested 25 = .ok (.iaload, 1) := by decide +kernel
theorem dX1_longestRested_26 : decode cX1_longestRested 26 = .ok (.aload_n 0, 1) := by decide +kernel
theorem dX1_longestRested_27 : decode cX1_longestRested 27 = .ok (.getfield 15, 3) := by decide +kernel
theorem dX1_longestRested_30 : decode cX1_longestRested 30 = .ok (.iload_n 1, 1) := by decide +kernel
theorem dX1_longestRested_31 : decode cX1_longestRested 31 = .ok (.iaload, 1) := by decide +kernel
theorem dX1_longestRested_32 : decode cX1_longestRested 32 = .ok (.if_icmp .ge 7, 3) := by decide +kernel
theorem dX1_longestRested_35 : decode cX1_longestRested 35 = .ok (.iconst 1, 1) := by decide +kernel
theorem dX1_longestRested_36 : decode cX1_longestRested 36 = .ok (.goto 4, 3) := by decide +kernel
theorem dX1_longestRested_39 : decode cX1_longestRested 39 = .ok (.iconst 0, 1) := by decide +kernel
theorem dX1_longestRested_40 : decode cX1_longestRested 40 = .ok (.istore_n 3, 1) := by decide +kernel
theorem dX1_longestRested_41 : decode cX1_longestRested 41 = .ok (.iload_n 3, 1) := by decide +kernel
theorem dX1_longestRested_42 : decode cX1_longestRested 42 = .ok (.ifCond .eq 17, 3) := by decide +kernel
theorem dX1_longestRested_45 : decode cX1_longestRested 45 = .ok (.aload_n 0, 1) := by decide +kernel
theorem dX1_longestRested_46 : decode cX1_longestRested 46 = .ok (.iload_n 2, 1) := by decide +kernel
theorem dX1_longestRested_47 : decode cX1_longestRested 47 = .ok (.aload_n 0, 1) := by decide +kernel
theorem dX1_longestRested_48 : decode cX1_longestRested 48 = .ok (.getfield 18, 3) := by decide +kernel
theorem dX1_longestRested_51 : decode cX1_longestRested 51 = .ok (.invokevirtual 103, 3) := by decide +kernel
theorem dX1_longestRested_54 : decode cX1_longestRested 54 = .ok (.ifCond .le 5, 3) := by decide +kernel
theorem dX1_longestRested_57 : decode cX1_longestRested 57 = .ok (.iload_n 2, 1) := by decide +kernel
theorem dX1_longestRested_58 : decode cX1_longestRested 58 = .ok (.istore_n 1, 1) := by decide +kernel
theorem dX1_longestRested_59 : decode cX1_longestRested 59 = .ok (.iinc 2 1, 3) := by decide +kernel
theorem dX1_longestRested_62 : decode cX1_longestRested 62 = .ok (.goto (-58), 3) := by decide +kernel
theorem dX1_longestRested_65 : decode cX1_longestRested 65 = .ok (.iload_n 1, 1) := by decide +kernel
theorem dX1_longestRested_66 : decode cX1_longestRested 66 = .ok (.ireturn, 1) := by decide +kernel
set_option maxRecDepth 20000 in
theorem ggX1_meets_X1_areBeside : GoodIn wsX1_meets wsX1_areBeside := goodIn_r _ [5, 6, 7, 8, 9, 4, 10, 11, 12, 13, 14, 15, 16, 17, 18, 19, 20, 21, 22, 23, 24, 25, 26, 27, 28, 29, 30, 40, 41, 42, 43, 44, 45, 46, 47, 48, 49, 50, 51, 52, 53, 54, 55, 56, 57, 58, 59, 60, 61] (by decide +kernel) (by decide +kernel)
set_option maxRecDepth 20000 in
theorem gX1_meets_X1_areBeside : GoodIn wsX1_meets (wsV RX1 132 RX1 yX1_areBeside wsX1_areBeside) := goodIn_app (goodIn_of _ (by decide +kernel)) ggX1_meets_X1_areBeside
set_option maxRecDepth 20000 in
theorem ggX1_meets_X1_areOpposite : GoodIn wsX1_meets wsX1_areOpposite := goodIn_r _ [34, 12, 35, 36, 37, 38, 6, 39, 40, 41, 42, 43, 44, 45, 46, 47, 48, 49, 50, 51, 52, 53, 54, 55, 56, 57, 58, 59, 60, 61] (by decide +kernel) (by decide +kernel)
set_option maxRecDepth 20000 in
theorem gX1_meets_X1_areOpposite : GoodIn wsX1_meets (wsV RX1 136 RX1 yX1_areOpposite wsX1_areOpposite) := goodIn_app (goodIn_of _ (by decide +kernel)) ggX1_meets_X1_areOpposite
theorem dX1_meets_0 : decode cX1_meets 0 = .ok (.iload_n 3, 1) := by decide +kernel
theorem dX1_meets_1 : decode cX1_meets 1 = .ok (.ifCond .ne 12, 3) := by decide +kernel
theorem dX1_meets_4 : decode cX1_meets 4 = .ok (.aload_n 0, 1) := by decide +kernel
theorem dX1_meets_5 : decode cX1_meets 5 = .ok (.iload_n 1, 1) := by decide +kernel
theorem dX1_meets_6 : decode cX1_meets 6 = .ok (.iload_n 2, 1) := by decide +kernel
theorem dX1_meets_7 : decode cX1_meets 7 = .ok (.invokevirtual 132, 3) := by decide +kernel
theorem dX1_meets_10 : decode cX1_meets 10 = .ok (.goto 9, 3) := by decide +kernel
theorem dX1_meets_13 : decode cX1_meets 13 = .ok (.aload_n 0, 1) := by decide +kernel
theorem dX1_meets_14 : decode cX1_meets 14 = .ok (.iload_n 1, 1) := by decide +kernel
theorem dX1_meets_15 : decode cX1_meets 15 = .ok (.iload_n 2, 1) := by decide +kernel
theorem dX1_meets_16 : decode cX1_meets 16 = .ok (.invokevirtual 136, 3) := by decide +kernel
theorem dX1_meets_19 : decode cX1_meets 19 = .ok (.ireturn, 1) := by decide +kernel
set_option maxRecDepth 20000 in
theorem ggX1_areBeside_X1_groundOf : GoodIn wsX1_areBeside wsX1_groundOf := goodIn_r _ [6, 1, 7, 8, 9, 10, 11, 12, 13, 14, 15, 16, 17, 18, 27, 28, 29, 30, 31, 32, 33, 34, 35, 36, 37, 38, 39, 40, 41, 42, 43, 44, 45, 46, 47, 48] (by decide +kernel) (by decide +kernel)
set_option maxRecDepth 20000 in
theorem gX1_areBeside_X1_groundOf : GoodIn wsX1_areBeside (wsV RX1 76 RX1 yX1_groundOf wsX1_groundOf) := goodIn_app (goodIn_of _ (by decide +kernel)) ggX1_areBeside_X1_groundOf
set_option maxRecDepth 20000 in
theorem ggX1_areBeside_X3_around : GoodIn wsX1_areBeside wsX3_around := goodIn_r _ [22, 18, 23, 24, 25, 12, 26, 36, 37, 38, 39, 40, 41, 42, 43, 44, 45, 46, 47, 48] (by decide +kernel) (by decide +kernel)
set_option maxRecDepth 20000 in
theorem gX1_areBeside_X3_around : GoodIn wsX1_areBeside (wsV RX1 139 RX3 yX3_around wsX3_around) := goodIn_app (goodIn_of _ (by decide +kernel)) ggX1_areBeside_X3_around
theorem dX1_areBeside_0 : decode cX1_areBeside 0 = .ok (.aload_n 0, 1) := by decide +kernel
theorem dX1_areBeside_1 : decode cX1_areBeside 1 = .ok (.getfield 21, 3) := by decide +kernel
theorem dX1_areBeside_4 : decode cX1_areBeside 4 = .ok (.aload_n 0, 1) := by decide +kernel
theorem dX1_areBeside_5 : decode cX1_areBeside 5 = .ok (.iload_n 1, 1) := by decide +kernel
theorem dX1_areBeside_6 : decode cX1_areBeside 6 = .ok (.invokevirtual 76, 3) := by decide +kernel
theorem dX1_areBeside_9 : decode cX1_areBeside 9 = .ok (.invokevirtual 139, 3) := by decide +kernel
theorem dX1_areBeside_12 : decode cX1_areBeside 12 = .ok (.aload_n 0, 1) := by decide +kernel
theorem dX1_areBeside_13 : decode cX1_areBeside 13 = .ok (.iload_n 2, 1) := by decide +kernel
theorem dX1_areBeside_14 : decode cX1_areBeside 14 = .ok (.invokevirtual 76, 3) := by decide +kernel
theorem dX1_areBeside_17 : decode cX1_areBeside 17 = .ok (.iand, 1) := by decide +kernel
theorem dX1_areBeside_18 : decode cX1_areBeside 18 = .ok (.ifCond .eq 7, 3) := by decide +kernel
theorem dX1_areBeside_21 : decode cX1_areBeside 21 = .ok (.iconst 1, 1) := by decide +kernel
theorem dX1_areBeside_22 : decode cX1_areBeside 22 = .ok (.goto 4, 3) := by decide +kernel
theorem dX1_areBeside_25 : decode cX1_areBeside 25 = .ok (.iconst 0, 1) := by decide +kernel
theorem dX1_areBeside_26 : decode cX1_areBeside 26 = .ok (.ireturn, 1) := by decide +kernel
theorem dX1_areOpposite_0 : decode cX1_areOpposite 0 = .ok (.iconst 2, 1) := by decide +kernel
theorem dX1_areOpposite_1 : decode cX1_areOpposite 1 = .ok (.aload_n 0, 1) := by decide +kernel
theorem dX1_areOpposite_2 : decode cX1_areOpposite 2 = .ok (.getfield 9, 3) := by decide +kernel
theorem dX1_areOpposite_5 : decode cX1_areOpposite 5 = .ok (.iload_n 1, 1) := by decide +kernel
theorem dX1_areOpposite_6 : decode cX1_areOpposite 6 = .ok (.iaload, 1) := by decide +kernel
theorem dX1_areOpposite_7 : decode cX1_areOpposite 7 = .ok (.aload_n 0, 1) := by decide +kernel
theorem dX1_areOpposite_8 : decode cX1_areOpposite 8 = .ok (.getfield 9, 3) := by decide +kernel
theorem dX1_areOpposite_11 : decode cX1_areOpposite 11 = .ok (.iload_n 2, 1) := by decide +kernel
theorem dX1_areOpposite_12 : decode cX1_areOpposite 12 = .ok (.iaload, 1) := by decide +kernel
theorem dX1_areOpposite_13 : decode cX1_areOpposite 13 = .ok (.isub, 1) := by decide +kernel
theorem dX1_areOpposite_14 : decode cX1_areOpposite 14 = .ok (.invokestatic 142, 3) := by decide +kernel
theorem dX1_areOpposite_17 : decode cX1_areOpposite 17 = .ok (.imul, 1) := by decide +kernel
theorem dX1_areOpposite_18 : decode cX1_areOpposite 18 = .ok (.aload_n 0, 1) := by decide +kernel
theorem dX1_areOpposite_19 : decode cX1_areOpposite 19 = .ok (.getfield 21, 3) := by decide +kernel
theorem dX1_areOpposite_22 : decode cX1_areOpposite 22 = .ok (.getfield 147, 3) := by decide +kernel
theorem dX1_areOpposite_25 : decode cX1_areOpposite 25 = .ok (.if_icmp .ne 7, 3) := by decide +kernel
theorem dX1_areOpposite_28 : decode cX1_areOpposite 28 = .ok (.iconst 1, 1) := by decide +kernel
theorem dX1_areOpposite_29 : decode cX1_areOpposite 29 = .ok (.goto 4, 3) := by decide +kernel
theorem dX1_areOpposite_32 : decode cX1_areOpposite 32 = .ok (.iconst 0, 1) := by decide +kernel
theorem dX1_areOpposite_33 : decode cX1_areOpposite 33 = .ok (.ireturn, 1) := by decide +kernel
set_option maxRecDepth 20000 in
theorem ggX1_hasFeudBeside_X1_areBeside : GoodIn wsX1_hasFeudBeside wsX1_areBeside := goodIn_r _ [9, 1, 10, 11, 12, 8, 13, 14, 15, 16, 17, 18, 19, 20, 21, 22, 23, 24, 25, 26, 27, 28, 29, 30, 31, 32, 33, 34, 35, 36, 37, 38, 39, 40, 41, 42, 43, 44, 45, 46, 47, 48, 49, 50, 51, 52, 53, 54, 55] (by decide +kernel) (by decide +kernel)
set_option maxRecDepth 20000 in
theorem gX1_hasFeudBeside_X1_areBeside : GoodIn wsX1_hasFeudBeside (wsV RX1 132 RX1 yX1_areBeside wsX1_areBeside) := goodIn_app (goodIn_of _ (by decide +kernel)) ggX1_hasFeudBeside_X1_areBeside
theorem dX1_hasFeudBeside_0 : decode cX1_hasFeudBeside 0 = .ok (.iconst 0, 1) := by decide +kernel
theorem dX1_hasFeudBeside_1 : decode cX1_hasFeudBeside 1 = .ok (.istore_n 1, 1) := by decide +kernel
theorem dX1_hasFeudBeside_2 : decode cX1_hasFeudBeside 2 = .ok (.iload_n 1, 1) := by decide +kernel
theorem dX1_hasFeudBeside_3 : decode cX1_hasFeudBeside 3 = .ok (.aload_n 0, 1) := by decide +kernel
theorem dX1_hasFeudBeside_4 : decode cX1_hasFeudBeside 4 = .ok (.getfield 21, 3) := by decide +kernel
theorem dX1_hasFeudBeside_7 : decode cX1_hasFeudBeside 7 = .ok (.getfield 150, 3) := by decide +kernel
theorem dX1_hasFeudBeside_10 : decode cX1_hasFeudBeside 10 = .ok (.if_icmp .ge 36, 3) := by decide +kernel
theorem dX1_hasFeudBeside_13 : decode cX1_hasFeudBeside 13 = .ok (.aload_n 0, 1) := by decide +kernel
theorem dX1_hasFeudBeside_14 : decode cX1_hasFeudBeside 14 = .ok (.aload_n 0, 1) := by decide +kernel
theorem dX1_hasFeudBeside_15 : decode cX1_hasFeudBeside 15 = .ok (.getfield 21, 3) := by decide +kernel
theorem dX1_hasFeudBeside_18 : decode cX1_hasFeudBeside 18 = .ok (.getfield 153, 3) := by decide +kernel
theorem dX1_hasFeudBeside_21 : decode cX1_hasFeudBeside 21 = .ok (.iload_n 1, 1) := by decide +kernel
theorem dX1_hasFeudBeside_22 : decode cX1_hasFeudBeside 22 = .ok (.iaload, 1) := by decide +kernel
theorem dX1_hasFeudBeside_23 : decode cX1_hasFeudBeside 23 = .ok (.aload_n 0, 1) := by decide +kernel
theorem dX1_hasFeudBeside_24 : decode cX1_hasFeudBeside 24 = .ok (.getfield 21, 3) := by decide +kernel
theorem dX1_hasFeudBeside_27 : decode cX1_hasFeudBeside 27 = .ok (.getfield 156, 3) := by decide +kernel
theorem dX1_hasFeudBeside_30 : decode cX1_hasFeudBeside 30 = .ok (.iload_n 1, 1) := by decide +kernel
theorem dX1_hasFeudBeside_31 : decode cX1_hasFeudBeside 31 = .ok (.iaload, 1) := by decide +kernel
theorem dX1_hasFeudBeside_32 : decode cX1_hasFeudBeside 32 = .ok (.invokevirtual 132, 3) := by decide +kernel
theorem dX1_hasFeudBeside_35 : decode cX1_hasFeudBeside 35 = .ok (.ifCond .eq 5, 3) := by decide +kernel
theorem dX1_hasFeudBeside_38 : decode cX1_hasFeudBeside 38 = .ok (.iconst 1, 1) := by decide +kernel
theorem dX1_hasFeudBeside_39 : decode cX1_hasFeudBeside 39 = .ok (.ireturn, 1) := by decide +kernel
theorem dX1_hasFeudBeside_40 : decode cX1_hasFeudBeside 40 = .ok (.iinc 1 1, 3) := by decide +kernel
theorem dX1_hasFeudBeside_43 : decode cX1_hasFeudBeside 43 = .ok (.goto (-41), 3) := by decide +kernel
theorem dX1_hasFeudBeside_46 : decode cX1_hasFeudBeside 46 = .ok (.iconst 0, 1) := by decide +kernel
theorem dX1_hasFeudBeside_47 : decode cX1_hasFeudBeside 47 = .ok (.ireturn, 1) := by decide +kernel
theorem dX1_placesKey_0 : decode cX1_placesKey 0 = .ok (.lconst 0, 1) := by decide +kernel
theorem dX1_placesKey_1 : decode cX1_placesKey 1 = .ok (.lstore_n 1, 1) := by decide +kernel
theorem dX1_placesKey_2 : decode cX1_placesKey 2 = .ok (.iconst 0, 1) := by decide +kernel
theorem dX1_placesKey_3 : decode cX1_placesKey 3 = .ok (.istore_n 3, 1) := by decide +kernel
theorem dX1_placesKey_4 : decode cX1_placesKey 4 = .ok (.iload_n 3, 1) := by decide +kernel
theorem dX1_placesKey_5 : decode cX1_placesKey 5 = .ok (.aload_n 0, 1) := by decide +kernel
theorem dX1_placesKey_6 : decode cX1_placesKey 6 = .ok (.getfield 21, 3) := by decide +kernel
theorem dX1_placesKey_9 : decode cX1_placesKey 9 = .ok (.getfield 73, 3) := by decide +kernel
theorem dX1_placesKey_12 : decode cX1_placesKey 12 = .ok (.if_icmp .ge 21, 3) := by decide +kernel
theorem dX1_placesKey_15 : decode cX1_placesKey 15 = .ok (.lload_n 1, 1) := by decide +kernel
theorem dX1_placesKey_16 : decode cX1_placesKey 16 = .ok (.iconst 4, 1) := by decide +kernel
theorem dX1_placesKey_17 : decode cX1_placesKey 17 = .ok (.lshl, 1) := by decide +kernel
theorem dX1_placesKey_18 : decode cX1_placesKey 18 = .ok (.aload_n 0, 1) := by decide +kernel
theorem dX1_placesKey_19 : decode cX1_placesKey 19 = .ok (.getfield 9, 3) := by decide +kernel
theorem dX1_placesKey_22 : decode cX1_placesKey 22 = .ok (.iload_n 3, 1) := by decide +kernel
theorem dX1_placesKey_23 : decode cX1_placesKey 23 = .ok (.iaload, 1) := by decide +kernel
theorem dX1_placesKey_24 : decode cX1_placesKey 24 = .ok (.i2l, 1) := by decide +kernel
theorem dX1_placesKey_25 : decode cX1_placesKey 25 = .ok (.lor, 1) := by decide +kernel
theorem dX1_placesKey_26 : decode cX1_placesKey 26 = .ok (.lstore_n 1, 1) := by decide +kernel
theorem dX1_placesKey_27 : decode cX1_placesKey 27 = .ok (.iinc 3 1, 3) := by decide +kernel
theorem dX1_placesKey_30 : decode cX1_placesKey 30 = .ok (.goto (-26), 3) := by decide +kernel
theorem dX1_placesKey_33 : decode cX1_placesKey 33 = .ok (.lload_n 1, 1) := by decide +kernel
theorem dX1_placesKey_34 : decode cX1_placesKey 34 = .ok (.lreturn, 1) := by decide +kernel
set_option maxRecDepth 20000 in
theorem ggX1_stateKey_X1_placesKey : GoodIn wsX1_stateKey wsX1_placesKey := goodIn_r _ [7, 8, 9, 10, 20, 21, 22, 23, 24, 25, 26, 27, 28, 29, 30, 31, 32, 33, 34, 35, 36, 37, 38, 39, 40, 41] (by decide +kernel) (by decide +kernel)
set_option maxRecDepth 20000 in
theorem gX1_stateKey_X1_placesKey : GoodIn wsX1_stateKey (wsV RX1 159 RX1 yX1_placesKey wsX1_placesKey) := goodIn_app (goodIn_of _ (by decide +kernel)) ggX1_stateKey_X1_placesKey
set_option maxRecDepth 20000 in
theorem ggX1_stateKey_X1_restKey : GoodIn wsX1_stateKey wsX1_restKey := goodIn_r _ [14, 8, 9, 15, 16, 17, 6, 18, 19, 20, 21, 22, 23, 24, 25, 26, 27, 28, 29, 30, 31, 32, 33, 34, 35, 36, 37, 38, 39, 40, 41] (by decide +kernel) (by decide +kernel)
set_option maxRecDepth 20000 in
theorem gX1_stateKey_X1_restKey : GoodIn wsX1_stateKey (wsV RX1 163 RX1 yX1_restKey wsX1_restKey) := goodIn_app (goodIn_of _ (by decide +kernel)) ggX1_stateKey_X1_restKey
theorem dX1_stateKey_0 : decode cX1_stateKey 0 = .ok (.aload_n 0, 1) := by decide +kernel
theorem dX1_stateKey_1 : decode cX1_stateKey 1 = .ok (.invokevirtual 159, 3) := by decide +kernel
theorem dX1_stateKey_4 : decode cX1_stateKey 4 = .ok (.lstore_n 2, 1) := by decide +kernel
theorem dX1_stateKey_5 : decode cX1_stateKey 5 = .ok (.iload_n 1, 1) := by decide +kernel
theorem dX1_stateKey_6 : decode cX1_stateKey 6 = .ok (.tableswitch 53 1 3 #[26, 36, 42], 26) := by decide +kernel
theorem dX1_stateKey_32 : decode cX1_stateKey 32 = .ok (.lload_n 2, 1) := by decide +kernel
theorem dX1_stateKey_33 : decode cX1_stateKey 33 = .ok (.iconst 3, 1) := by decide +kernel
theorem dX1_stateKey_34 : decode cX1_stateKey 34 = .ok (.lshl, 1) := by decide +kernel
theorem dX1_stateKey_35 : decode cX1_stateKey 35 = .ok (.aload_n 0, 1) := by decide +kernel
theorem dX1_stateKey_36 : decode cX1_stateKey 36 = .ok (.getfield 54, 3) := by decide +kernel
theorem dX1_stateKey_39 : decode cX1_stateKey 39 = .ok (.i2l, 1) := by decide +kernel
theorem dX1_stateKey_40 : decode cX1_stateKey 40 = .ok (.lor, 1) := by decide +kernel
theorem dX1_stateKey_41 : decode cX1_stateKey 41 = .ok (.lreturn, 1) := by decide +kernel
theorem dX1_stateKey_42 : decode cX1_stateKey 42 = .ok (.aload_n 0, 1) := by decide +kernel
theorem dX1_stateKey_43 : decode cX1_stateKey 43 = .ok (.lload_n 2, 1) := by decide +kernel
theorem dX1_stateKey_44 : decode cX1_stateKey 44 = .ok (.invokevirtual 163, 3) := by decide +kernel
theorem dX1_stateKey_47 : decode cX1_stateKey 47 = .ok (.lreturn, 1) := by decide +kernel
theorem dX1_stateKey_48 : decode cX1_stateKey 48 = .ok (.lload_n 2, 1) := by decide +kernel
theorem dX1_stateKey_49 : decode cX1_stateKey 49 = .ok (.bipush 16, 2) := by decide +kernel
theorem dX1_stateKey_51 : decode cX1_stateKey 51 = .ok (.lshl, 1) := by decide +kernel
theorem dX1_stateKey_52 : decode cX1_stateKey 52 = .ok (.aload_n 0, 1) := by decide +kernel
theorem dX1_stateKey_53 : decode cX1_stateKey 53 = .ok (.getfield 60, 3) := by decide +kernel
theorem dX1_stateKey_56 : decode cX1_stateKey 56 = .ok (.i2l, 1) := by decide +kernel
theorem dX1_stateKey_57 : decode cX1_stateKey 57 = .ok (.lor, 1) := by decide +kernel
theorem dX1_stateKey_58 : decode cX1_stateKey 58 = .ok (.lreturn, 1) := by decide +kernel
theorem dX1_stateKey_59 : decode cX1_stateKey 59 = .ok (.lload_n 2, 1) := by decide +kernel
theorem dX1_stateKey_60 : decode cX1_stateKey 60 = .ok (.lreturn, 1) := by decide +kernel
set_option maxRecDepth 20000 in
theorem ggX1_restKey_X1_restRank : GoodIn wsX1_restKey wsX1_restRank := goodIn_r _ [7, 1, 2, 8, 9, 10, 11, 12, 13, 14, 15, 16, 17, 18, 19, 20, 21, 22, 23, 24, 25, 26, 27, 28, 29, 30] (by decide +kernel) (by decide +kernel)
set_option maxRecDepth 20000 in
theorem gX1_restKey_X1_restRank : GoodIn wsX1_restKey (wsV RX1 167 RX1 yX1_restRank wsX1_restRank) := goodIn_app (goodIn_of _ (by decide +kernel)) ggX1_restKey_X1_restRank
theorem dX1_restKey_0 : decode cX1_restKey 0 = .ok (.lload_n 1, 1) := by decide +kernel
theorem dX1_restKey_1 : decode cX1_restKey 1 = .ok (.lstore_n 3, 1) := by decide +kernel
theorem dX1_restKey_2 : decode cX1_restKey 2 = .ok (.iconst 0, 1) := by decide +kernel
theorem dX1_restKey_3 : decode cX1_restKey 3 = .ok (.istore 5, 2) := by decide +kernel
theorem dX1_restKey_5 : decode cX1_restKey 5 = .ok (.iload 5, 2) := by decide +kernel
theorem dX1_restKey_7 : decode cX1_restKey 7 = .ok (.aload_n 0, 1) := by decide +kernel
theorem dX1_restKey_8 : decode cX1_restKey 8 = .ok (.getfield 21, 3) := by decide +kernel
theorem dX1_restKey_11 : decode cX1_restKey 11 = .ok (.getfield 73, 3) := by decide +kernel
theorem dX1_restKey_14 : decode cX1_restKey 14 = .ok (.if_icmp .ge 21, 3) := by decide +kernel
theorem dX1_restKey_17 : decode cX1_restKey 17 = .ok (.lload_n 3, 1) := by decide +kernel
theorem dX1_restKey_18 : decode cX1_restKey 18 = .ok (.iconst 3, 1) := by decide +kernel
theorem dX1_restKey_19 : decode cX1_restKey 19 = .ok (.lshl, 1) := by decide +kernel
theorem dX1_restKey_20 : decode cX1_restKey 20 = .ok (.aload_n 0, 1) := by decide +kernel
theorem dX1_restKey_21 : decode cX1_restKey 21 = .ok (.iload 5, 2) := by decide +kernel
theorem dX1_restKey_23 : decode cX1_restKey 23 = .ok (.invokevirtual 167, 3) := by decide +kernel
theorem dX1_restKey_26 : decode cX1_restKey 26 = .ok (.i2l, 1) := by decide +kernel
theorem dX1_restKey_27 : decode cX1_restKey 27 = .ok (.lor, 1) := by decide +kernel
theorem dX1_restKey_28 : decode cX1_restKey 28 = .ok (.lstore_n 3, 1) := by decide +kernel
theorem dX1_restKey_29 : decode cX1_restKey 29 = .ok (.iinc 5 1, 3) := by decide +kernel
theorem dX1_restKey_32 : decode cX1_restKey 32 = .ok (.goto (-27), 3) := by decide +kernel
theorem dX1_restKey_35 : decode cX1_restKey 35 = .ok (.lload_n 3, 1) := by decide +kernel
theorem dX1_restKey_36 : decode cX1_restKey 36 = .ok (.lreturn, 1) := by decide +kernel
theorem dX1_restRank_0 : decode cX1_restRank 0 = .ok (.iconst 0, 1) := by decide +kernel
theorem dX1_restRank_1 : decode cX1_restRank 1 = .ok (.istore_n 2, 1) := by decide +kernel
theorem dX1_restRank_2 : decode cX1_restRank 2 = .ok (.iconst 0, 1) := by decide +kernel
theorem dX1_restRank_3 : decode cX1_restRank 3 = .ok (.istore_n 3, 1) := by decide +kernel
theorem dX1_restRank_4 : decode cX1_restRank 4 = .ok (.iload_n 3, 1) := by decide +kernel
theorem dX1_restRank_5 : decode cX1_restRank 5 = .ok (.aload_n 0, 1) := by decide +kernel
theorem dX1_restRank_6 : decode cX1_restRank 6 = .ok (.getfield 21, 3) := by decide +kernel
theorem dX1_restRank_9 : decode cX1_restRank 9 = .ok (.getfield 73, 3) := by decide +kernel
theorem dX1_restRank_12 : decode cX1_restRank 12 = .ok (.if_icmp .ge 27, 3) := by decide +kernel
theorem dX1_restRank_15 : decode cX1_restRank 15 = .ok (.aload_n 0, 1) := by decide +kernel
theorem dX1_restRank_16 : decode cX1_restRank 16 = .ok (.getfield 15, 3) := by decide +kernel
theorem dX1_restRank_19 : decode cX1_restRank 19 = .ok (.iload_n 3, 1) := by decide +kernel
theorem dX1_restRank_20 : decode cX1_restRank 20 = .ok (.iaload, 1) := by decide +kernel
theorem dX1_restRank_21 : decode cX1_restRank 21 = .ok (.aload_n 0, 1) := by decide +kernel
theorem dX1_restRank_22 : decode cX1_restRank 22 = .ok (.getfield 15, 3) := by decide +kernel
theorem dX1_restRank_25 : decode cX1_restRank 25 = .ok (.iload_n 1, 1) := by decide +kernel
theorem dX1_restRank_26 : decode cX1_restRank 26 = .ok (.iaload, 1) := by decide +kernel
theorem dX1_restRank_27 : decode cX1_restRank 27 = .ok (.if_icmp .ge 6, 3) := by decide +kernel
theorem dX1_restRank_30 : decode cX1_restRank 30 = .ok (.iinc 2 1, 3) := by decide +kernel
theorem dX1_restRank_33 : decode cX1_restRank 33 = .ok (.iinc 3 1, 3) := by decide +kernel
theorem dX1_restRank_36 : decode cX1_restRank 36 = .ok (.goto (-32), 3) := by decide +kernel
theorem dX1_restRank_39 : decode cX1_restRank 39 = .ok (.iload_n 2, 1) := by decide +kernel
theorem dX1_restRank_40 : decode cX1_restRank 40 = .ok (.ireturn, 1) := by decide +kernel
theorem dX2_init_0 : decode cX2_init 0 = .ok (.aload_n 0, 1) := by decide +kernel
theorem dX2_init_1 : decode cX2_init 1 = .ok (.invokespecial 3, 3) := by decide +kernel
theorem dX2_init_4 : decode cX2_init 4 = .ok (.aload_n 0, 1) := by decide +kernel
theorem dX2_init_5 : decode cX2_init 5 = .ok (.sipush 200, 3) := by decide +kernel
theorem dX2_init_8 : decode cX2_init 8 = .ok (.newarray .int, 2) := by decide +kernel
theorem dX2_init_10 : decode cX2_init 10 = .ok (.putfield 9, 3) := by decide +kernel
theorem dX2_init_13 : decode cX2_init 13 = .ok (.return_, 1) := by decide +kernel
theorem dX2_append_0 : decode cX2_append 0 = .ok (.iload_n 3, 1) := by decide +kernel
theorem dX2_append_1 : decode cX2_append 1 = .ok (.sipush 200, 3) := by decide +kernel
theorem dX2_append_4 : decode cX2_append 4 = .ok (.aload_n 0, 1) := by decide +kernel
theorem dX2_append_5 : decode cX2_append 5 = .ok (.getfield 15, 3) := by decide +kernel
theorem dX2_append_8 : decode cX2_append 8 = .ok (.isub, 1) := by decide +kernel
theorem dX2_append_9 : decode cX2_append 9 = .ok (.if_icmp .le 5, 3) := by decide +kernel
theorem dX2_append_12 : decode cX2_append 12 = .ok (.iconst 0, 1) := by decide +kernel
theorem dX2_append_13 : decode cX2_append 13 = .ok (.ireturn, 1) := by decide +kernel
theorem dX2_append_14 : decode cX2_append 14 = .ok (.iconst 0, 1) := by decide +kernel
theorem dX2_append_15 : decode cX2_append 15 = .ok (.istore 4, 2) := by decide +kernel
theorem dX2_append_17 : decode cX2_append 17 = .ok (.iload 4, 2) := by decide +kernel
theorem dX2_append_19 : decode cX2_append 19 = .ok (.iload_n 3, 1) := by decide +kernel
theorem dX2_append_20 : decode cX2_append 20 = .ok (.if_icmp .ge 33, 3) := by decide +kernel
theorem dX2_append_23 : decode cX2_append 23 = .ok (.aload_n 0, 1) := by decide +kernel
theorem dX2_append_24 : decode cX2_append 24 = .ok (.getfield 9, 3) := by decide +kernel
theorem dX2_append_27 : decode cX2_append 27 = .ok (.aload_n 0, 1) := by decide +kernel
theorem dX2_append_28 : decode cX2_append 28 = .ok (.getfield 15, 3) := by decide +kernel
theorem dX2_append_31 : decode cX2_append 31 = .ok (.iload 4, 2) := by decide +kernel
theorem dX2_append_33 : decode cX2_append 33 = .ok (.iadd, 1) := by decide +kernel
theorem dX2_append_34 : decode cX2_append 34 = .ok (.lload_n 1, 1) := by decide +kernel
theorem dX2_append_35 : decode cX2_append 35 = .ok (.bipush 8, 2) := by decide +kernel
theorem dX2_append_37 : decode cX2_append 37 = .ok (.iload 4, 2) := by decide +kernel
theorem dX2_append_39 : decode cX2_append 39 = .ok (.imul, 1) := by decide +kernel
theorem dX2_append_40 : decode cX2_append 40 = .ok (.lshr, 1) := by decide +kernel
theorem dX2_append_41 : decode cX2_append 41 = .ok (.ldc2_w 19, 3) := by decide +kernel
theorem dX2_append_44 : decode cX2_append 44 = .ok (.land, 1) := by decide +kernel
theorem dX2_append_45 : decode cX2_append 45 = .ok (.l2i, 1) := by decide +kernel
theorem dX2_append_46 : decode cX2_append 46 = .ok (.iastore, 1) := by decide +kernel
theorem dX2_append_47 : decode cX2_append 47 = .ok (.iinc 4 1, 3) := by decide +kernel
theorem dX2_append_50 : decode cX2_append 50 = .ok (.goto (-33), 3) := by decide +kernel
theorem dX2_append_53 : decode cX2_append 53 = .ok (.aload_n 0, 1) := by decide +kernel
theorem dX2_append_54 : decode cX2_append 54 = .ok (.dup, 1) := by decide +kernel
theorem dX2_append_55 : decode cX2_append 55 = .ok (.getfield 15, 3) := by decide +kernel
theorem dX2_append_58 : decode cX2_append 58 = .ok (.iload_n 3, 1) := by decide +kernel
theorem dX2_append_59 : decode cX2_append 59 = .ok (.iadd, 1) := by decide +kernel
theorem dX2_append_60 : decode cX2_append 60 = .ok (.putfield 15, 3) := by decide +kernel
theorem dX2_append_63 : decode cX2_append 63 = .ok (.iconst 1, 1) := by decide +kernel
theorem dX2_append_64 : decode cX2_append 64 = .ok (.ireturn, 1) := by decide +kernel
set_option maxRecDepth 20000 in
theorem ggX2_readInto_X2_stepToToken : GoodIn wsX2_readInto wsX2_stepToToken := goodIn_r _ [10, 1, 4, 5, 3, 11, 12, 13, 9, 14, 15, 16, 17, 18, 19, 20, 180, 181, 182, 183, 184] (by decide +kernel) (by decide +kernel)
set_option maxRecDepth 20000 in
theorem gX2_readInto_X2_stepToToken : GoodIn wsX2_readInto (wsV RX2 27 RX2 yX2_stepToToken wsX2_stepToToken) := goodIn_app (goodIn_of _ (by decide +kernel)) ggX2_readInto_X2_stepToToken
set_option maxRecDepth 20000 in
theorem ggX2_readInto_X2_readLine : GoodIn wsX2_readInto wsX2_readLine := goodIn_r _ [24, 25, 26, 27, 9, 28, 1, 3, 5, 29, 30, 31, 32, 33, 34, 35, 36, 37, 38, 39, 40, 41, 42, 43, 44, 45, 46, 47, 48, 49, 50, 51, 52, 53, 54, 55, 56, 57, 58, 59, 60, 61, 62, 63, 64, 65, 66, 67, 68, 69, 70, 71, 72, 73, 74, 75, 76, 77, 78, 79, 80, 81, 82, 83, 84, 85, 6, 7, 8, 10, 4, 11, 12, 13, 14, 15, 16, 17, 18, 19, 20, 86, 87, 88, 89, 90, 91, 92, 93, 94, 95, 96, 97, 98, 99, 100, 101, 102, 103, 104, 105, 106, 107, 108, 109, 110, 111, 112, 113, 114, 115, 116, 117, 118, 119, 120, 121, 122, 123, 124, 125, 126, 127, 128, 129, 130, 131, 132, 133, 134, 135, 136, 137, 138, 139, 140, 141, 142, 143, 144, 145, 146, 147, 148, 149, 150, 151, 152, 153, 154, 155, 156, 157, 158, 159, 160, 161, 162, 163, 164, 165, 166, 167, 168, 169, 170, 171, 172, 173, 174, 175, 176, 177, 178, 179, 180, 181, 182, 183, 184, 185, 186, 187, 188, 189, 190, 191, 192, 193, 194, 195, 196, 197] (by decide +kernel) (by decide +kernel)
set_option maxRecDepth 20000 in
theorem gX2_readInto_X2_readLine : GoodIn wsX2_readInto (wsV RX2 30 RX2 yX2_readLine wsX2_readLine) := goodIn_app (goodIn_of _ (by decide +kernel)) ggX2_readInto_X2_readLine
