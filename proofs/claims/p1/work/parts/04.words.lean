abbrev nse : String := "java/util/NoSuchElementException"
abbrev iae : String := "java/lang/IllegalArgumentException"
def wsE : List Cond := [Cond.constantLong RJ13 314 (6148914691236517205), Cond.constantLong RJ13 316 (3689348814741910323), Cond.constantLong RJ13 318 (1085102592571150095), Cond.fieldLink RX9 55 "TabledGoals" "tapeBytes" "I", Cond.fieldLink RX9 9 "TabledGoals" "tape" "[I", Cond.code yX9_putBytes cX9_putBytes 3 none, Cond.initialized RX9, Cond.methodLink RX9 58 yX9_putBytes, Cond.instanceMethod yX9_putBytes, Cond.selects RX9 yX9_putBytes yX9_putBytes, Cond.fieldLink RX9 13 "TabledGoals" "faultPlace" "I", Cond.fieldLink RX9 17 "TabledGoals" "refused" "[I", Cond.classLink RX9 285 nse, Cond.initialized nse, Cond.classLink RX9 292 iae, Cond.initialized iae, Cond.code yX9_refuseMissing cX9_refuseMissing 1 none, Cond.methodLink RX9 262 yX9_refuseMissing, Cond.instanceMethod yX9_refuseMissing, Cond.selects RX9 yX9_refuseMissing yX9_refuseMissing, Cond.fieldLink RX9 23 "TabledGoals" "program" "LTabledGoals$Program;", Cond.fieldLink RX9 138 "TabledGoals$Program" "predicates" "I", Cond.code yX9_needIndex cX9_needIndex 3 none, Cond.methodLink RX9 199 yX9_needIndex, Cond.instanceMethod yX9_needIndex, Cond.selects RX9 yX9_needIndex yX9_needIndex, Cond.fieldLink RX9 141 "TabledGoals$Program" "constants" "I", Cond.code yX9_needPredicate cX9_needPredicate 2 none, Cond.methodLink RX9 166 yX9_needPredicate, Cond.instanceMethod yX9_needPredicate, Cond.selects RX9 yX9_needPredicate yX9_needPredicate, Cond.code yX9_needAtom cX9_needAtom 5 none, Cond.methodLink RX9 90 yX9_needAtom, Cond.instanceMethod yX9_needAtom, Cond.selects RX9 yX9_needAtom yX9_needAtom, Cond.code yX9_needGoal cX9_needGoal 5 none, Cond.methodLink RX9 115 yX9_needGoal, Cond.instanceMethod yX9_needGoal, Cond.selects RX9 yX9_needGoal yX9_needGoal, Cond.fieldLink RX9 87 "TabledGoals$Program" "clauses" "I", Cond.code yX9_refuseArgument cX9_refuseArgument 1 none, Cond.methodLink RX9 62 yX9_refuseArgument, Cond.instanceMethod yX9_refuseArgument, Cond.selects RX9 yX9_refuseArgument yX9_refuseArgument, Cond.fieldLink RX1 9 "TabledGoals$Follower" "program" "LTabledGoals$Program;", Cond.sameField "TabledGoals$Follower" "TabledGoals$Walk" "program" "LTabledGoals$Program;", Cond.fieldLink RX1 40 "TabledGoals$Follower" "barred" "[J", Cond.sameField "TabledGoals$Follower" "TabledGoals$Walk" "barred" "[J", Cond.fieldLink RX1 37 "TabledGoals$Follower" "grownNow" "I", Cond.fieldLink RX1 43 "TabledGoals$Program" "clauses" "I", Cond.fieldLink RX2 9 "TabledGoals$Model" "truth" "[J", Cond.fieldLink RX2 22 "TabledGoals$Model" "grown" "[J", Cond.methodLink RX2 68 arraycopyName, Cond.native arraycopyName, Cond.static arraycopyName, Cond.initialized "java/lang/System", Cond.fieldLink RX2 30 "TabledGoals$Model" "follower" "LTabledGoals$Follower;", Cond.code yX1_follow cX1_follow 6 none, Cond.initialized RX1, Cond.methodLink RX2 74 yX1_follow, Cond.instanceMethod yX1_follow, Cond.selects RX1 yX1_follow yX1_follow, Cond.fieldLink RX2 15 "TabledGoals$Model" "possible" "[J", Cond.fieldLink RX2 34 "TabledGoals$Model" "known" "Z", Cond.code yJ7_fill_d0a16 cJ7_fill_d0a16 5 none, Cond.initialized RJ7, Cond.methodLink RX2 38 yJ7_fill_d0a16, Cond.static yJ7_fill_d0a16, Cond.fieldLink RX2 18 "TabledGoals$Model" "stageOf" "[I", Cond.code yJ7_fill_53178 cJ7_fill_53178 4 none, Cond.methodLink RX2 44 yJ7_fill_53178, Cond.static yJ7_fill_53178, Cond.fieldLink RX2 47 "TabledGoals$Model" "stages" "I", Cond.code yX2_growPossible cX2_growPossible 2 none, Cond.initialized RX2, Cond.methodLink RX2 51 yX2_growPossible, Cond.instanceMethod yX2_growPossible, Cond.selects RX2 yX2_growPossible yX2_growPossible, Cond.fieldLink RX2 55 "TabledGoals$Program" "predicates" "I", Cond.code yX2_noteStage cX2_noteStage 7 none, Cond.methodLink RX2 60 yX2_noteStage, Cond.instanceMethod yX2_noteStage, Cond.selects RX2 yX2_noteStage yX2_noteStage, Cond.code yX2_growTruth cX2_growTruth 4 (some .boolean), Cond.methodLink RX2 64 yX2_growTruth, Cond.instanceMethod yX2_growTruth, Cond.selects RX2 yX2_growTruth yX2_growTruth, Cond.constantLong RX2 78 (-1), Cond.code yJ13_bitCount_95d88 cJ13_bitCount_95d88 2 (some .int), Cond.initialized RJ13, Cond.methodLink RX2 80 yJ13_bitCount_95d88, Cond.static yJ13_bitCount_95d88, Cond.code yX2_undefinedOf cX2_undefinedOf 2 (some .long), Cond.methodLink RX2 86 yX2_undefinedOf, Cond.instanceMethod yX2_undefinedOf, Cond.selects RX2 yX2_undefinedOf yX2_undefinedOf, Cond.fieldLink RX3 37 "TabledGoals$Program" "clauses" "I", Cond.fieldLink RX6 60 "TabledGoals$Tables" "count" "I", Cond.fieldLink RX6 15 "TabledGoals$Tables" "numberOf" "[I", Cond.methodLink RX6 44 yJ7_fill_53178, Cond.fieldLink RX6 63 "TabledGoals$Tables" "completedCount" "I", Cond.code yX6_clear cX6_clear 1 none, Cond.initialized RX6, Cond.methodLink RX6 50 yX6_clear, Cond.instanceMethod yX6_clear, Cond.selects RX6 yX6_clear yX6_clear, Cond.fieldLink RX6 53 "TabledGoals$Tables" "madeInAll" "I", Cond.fieldLink RX6 57 "TabledGoals$Tables" "hitsInAll" "I", Cond.fieldLink RX3 30 "TabledGoals$Program" "predicates" "I", Cond.fieldLink RX3 34 "TabledGoals$Program" "constants" "I", Cond.methodLink RX4 3 objectInit, Cond.instanceMethod objectInit, Cond.code objectInit ⟨#[0xb1]⟩ 1 none, Cond.fieldLink RX4 9 "TabledGoals$Reader" "place" "I", Cond.arrayClass .int, Cond.fieldLink RX4 15 "TabledGoals$Reader" "variables" "[I", Cond.fieldLink RX4 19 "TabledGoals$Reader" "headPlaces" "[I", Cond.fieldLink RX4 22 "TabledGoals$Reader" "bytes" "[I", Cond.methodLink RX4 25 Lib.Math.min.name, Cond.static Lib.Math.min.name, Cond.initialized "java/lang/Math", Cond.code Lib.Math.min.name Lib.Math.min.code 2 (some .int), Cond.fieldLink RX4 31 "TabledGoals$Reader" "end" "I", Cond.fieldLink RX4 34 "TabledGoals$Reader" "into" "LTabledGoals$Program;", Cond.fieldLink RX4 54 "TabledGoals$Reader" "at" "I", Cond.code yX3_clear cX3_clear 1 none, Cond.initialized RX3, Cond.methodLink RX4 38 yX3_clear, Cond.instanceMethod yX3_clear, Cond.selects RX3 yX3_clear yX3_clear, Cond.code yX4_next cX4_next 1 (some .int), Cond.initialized RX4, Cond.methodLink RX4 43 yX4_next, Cond.instanceMethod yX4_next, Cond.selects RX4 yX4_next yX4_next, Cond.classLink RX9 65 RX4, Cond.instantiable RX4 10, Cond.fieldLink RX9 27 "TabledGoals" "spare" "LTabledGoals$Program;", Cond.code yX4_init cX4_init 4 none, Cond.instanceMethod yX4_init, Cond.methodLink RX9 67 yX4_init, Cond.code yX4_readText cX4_readText 2 (some .boolean), Cond.methodLink RX9 70 yX4_readText, Cond.instanceMethod yX4_readText, Cond.selects RX4 yX4_readText yX4_readText, Cond.fieldLink RX9 74 "TabledGoals$Reader" "place" "I", Cond.fieldLink RX9 35 "TabledGoals" "model" "LTabledGoals$Model;", Cond.fieldLink RX9 80 "TabledGoals$Model" "known" "Z", Cond.fieldLink RX9 51 "TabledGoals" "tables" "LTabledGoals$Tables;", Cond.code yX6_startAnew cX6_startAnew 1 none, Cond.methodLink RX9 84 yX6_startAnew, Cond.instanceMethod yX6_startAnew, Cond.selects RX6 yX6_startAnew yX6_startAnew, Cond.fieldLink RX9 128 "TabledGoals$Tables" "count" "I", Cond.methodLink RX9 131 yX6_clear, Cond.code yX9_needWhat cX9_needWhat 3 none, Cond.methodLink RX9 134 yX9_needWhat, Cond.instanceMethod yX9_needWhat, Cond.selects RX9 yX9_needWhat yX9_needWhat, Cond.code yX3_facts cX3_facts 3 (some .int), Cond.methodLink RX9 144 yX3_facts, Cond.instanceMethod yX3_facts, Cond.selects RX3 yX3_facts yX3_facts, Cond.code yX6_freshOnes cX6_freshOnes 3 (some .int), Cond.methodLink RX9 148 yX6_freshOnes, Cond.instanceMethod yX6_freshOnes, Cond.selects RX6 yX6_freshOnes yX6_freshOnes, Cond.fieldLink RX9 151 "TabledGoals$Tables" "madeInAll" "I", Cond.fieldLink RX9 154 "TabledGoals$Tables" "hitsInAll" "I", Cond.code yX2_settle cX2_settle 2 none, Cond.methodLink RX9 118 yX2_settle, Cond.instanceMethod yX2_settle, Cond.selects RX2 yX2_settle yX2_settle, Cond.fieldLink RX9 157 "TabledGoals$Model" "stages" "I", Cond.code yX2_trueAtoms cX2_trueAtoms 3 (some .int), Cond.methodLink RX9 160 yX2_trueAtoms, Cond.instanceMethod yX2_trueAtoms, Cond.selects RX2 yX2_trueAtoms yX2_trueAtoms, Cond.code yX2_undefinedAtoms cX2_undefinedAtoms 3 (some .int), Cond.methodLink RX9 163 yX2_undefinedAtoms, Cond.instanceMethod yX2_undefinedAtoms, Cond.selects RX2 yX2_undefinedAtoms yX2_undefinedAtoms, Cond.code yX9_needConstant cX9_needConstant 2 none, Cond.methodLink RX9 196 yX9_needConstant, Cond.instanceMethod yX9_needConstant, Cond.selects RX9 yX9_needConstant yX9_needConstant, Cond.fieldLink RX9 256 "TabledGoals$Tables" "completedCount" "I", Cond.code yX6_sum cX6_sum 5 (some .long), Cond.methodLink RX9 282 yX6_sum, Cond.instanceMethod yX6_sum, Cond.selects RX6 yX6_sum yX6_sum, Cond.fieldLink RX10 164 "TabledGoalsModel" "thrown" "I", Cond.fieldLink RX10 7 "TabledGoalsModel" "refused" "[I", Cond.fieldLink RX10 48 "TabledGoalsModel" "tape" "[B", Cond.fieldLink RX10 231 "TabledGoalsModel" "taped" "I", Cond.code yX10_puts cX10_puts 3 none, Cond.initialized RX10, Cond.methodLink RX10 234 yX10_puts, Cond.instanceMethod yX10_puts, Cond.selects RX10 yX10_puts yX10_puts, Cond.fieldLink RX10 55 "TabledGoalsModel" "faultAt" "I", Cond.fieldLink RX10 344 "TabledGoalsModel" "predicates" "I", Cond.code yX10_within cX10_within 3 (some .boolean), Cond.methodLink RX10 330 yX10_within, Cond.static yX10_within, Cond.code yX10_isFine cX10_isFine 4 (some .boolean), Cond.methodLink RX10 334 yX10_isFine, Cond.instanceMethod yX10_isFine, Cond.selects RX10 yX10_isFine yX10_isFine, Cond.code yX10_isGiven cX10_isGiven 8 (some .boolean), Cond.methodLink RX10 449 yX10_isGiven, Cond.instanceMethod yX10_isGiven, Cond.selects RX10 yX10_isGiven yX10_isGiven, Cond.fieldLink RX10 191 "TabledGoalsModel" "clauses" "I", Cond.fieldLink RX10 400 "TabledGoalsModel" "tables" "I", Cond.code yX10_isTable cX10_isTable 2 (some .boolean), Cond.methodLink RX10 490 yX10_isTable, Cond.instanceMethod yX10_isTable, Cond.selects RX10 yX10_isTable yX10_isTable, Cond.fieldLink RX10 403 "TabledGoalsModel" "completedMany" "I", Cond.fieldLink RX10 98 "TabledGoalsModel" "tableOf" "[I", Cond.code yX10_noTables cX10_noTables 2 none, Cond.methodLink RX10 353 yX10_noTables, Cond.instanceMethod yX10_noTables, Cond.selects RX10 yX10_noTables yX10_noTables, Cond.fieldLink RX10 307 "TabledGoalsModel" "readPredicates" "I", Cond.fieldLink RX10 292 "TabledGoalsModel" "readConstants" "I", Cond.fieldLink RX10 181 "TabledGoalsModel" "constants" "I", Cond.fieldLink RX10 324 "TabledGoalsModel" "readClauses" "I", Cond.fieldLink RX10 205 "TabledGoalsModel" "isMade" "Z", Cond.fieldLink RX10 347 "TabledGoalsModel" "made" "I", Cond.fieldLink RX10 350 "TabledGoalsModel" "hits" "I", Cond.fieldLink RX10 23 "TabledGoalsModel" "constantName" "[J", Cond.fieldLink RX10 68 "TabledGoalsModel" "readConstant" "[J", Cond.fieldLink RX10 13 "TabledGoalsModel" "arity" "[I", Cond.fieldLink RX10 59 "TabledGoalsModel" "readArity" "[I", Cond.fieldLink RX10 19 "TabledGoalsModel" "predicateName" "[J", Cond.fieldLink RX10 65 "TabledGoalsModel" "readPredicate" "[J", Cond.fieldLink RX10 16 "TabledGoalsModel" "rule" "[I", Cond.fieldLink RX10 62 "TabledGoalsModel" "readRule" "[I", Cond.fieldLink RX10 243 "TabledGoalsModel" "here" "I", Cond.fieldLink RX10 246 "TabledGoalsModel" "size" "I", Cond.fieldLink RX10 237 "TabledGoalsModel" "fault" "I", Cond.code yX10_sign cX10_sign 1 (some .int), Cond.methodLink RX10 249 yX10_sign, Cond.instanceMethod yX10_sign, Cond.selects RX10 yX10_sign yX10_sign, Cond.code yX10_stands cX10_stands 2 none, Cond.methodLink RX10 341 yX10_stands, Cond.instanceMethod yX10_stands, Cond.selects RX10 yX10_stands yX10_stands, Cond.fieldLink RX10 29 "TabledGoalsModel" "known" "[Z", Cond.fieldLink RX10 33 "TabledGoalsModel" "possible" "[Z", Cond.fieldLink RX10 42 "TabledGoalsModel" "falseAt" "[I", Cond.fieldLink RX10 209 "TabledGoalsModel" "stages" "I", Cond.code yX10_follows cX10_follows 6 none, Cond.methodLink RX10 212 yX10_follows, Cond.instanceMethod yX10_follows, Cond.selects RX10 yX10_follows yX10_follows, Cond.code yX10_marks cX10_marks 3 none, Cond.methodLink RX10 216 yX10_marks, Cond.instanceMethod yX10_marks, Cond.selects RX10 yX10_marks yX10_marks, Cond.fieldLink RX10 36 "TabledGoalsModel" "next" "[Z", Cond.fieldLink RX10 39 "TabledGoalsModel" "trueAt" "[I", Cond.code yX10_makes cX10_makes 3 none, Cond.methodLink RX10 391 yX10_makes, Cond.instanceMethod yX10_makes, Cond.selects RX10 yX10_makes yX10_makes, Cond.code yX10_factMany cX10_factMany 3 (some .int), Cond.methodLink RX10 468 yX10_factMany, Cond.instanceMethod yX10_factMany, Cond.selects RX10 yX10_factMany yX10_factMany, Cond.code yX10_freshMany cX10_freshMany 3 (some .int), Cond.methodLink RX10 471 yX10_freshMany, Cond.instanceMethod yX10_freshMany, Cond.selects RX10 yX10_freshMany yX10_freshMany, Cond.code yX10_allAtoms cX10_allAtoms 4 (some .int), Cond.methodLink RX10 474 yX10_allAtoms, Cond.instanceMethod yX10_allAtoms, Cond.selects RX10 yX10_allAtoms yX10_allAtoms, Cond.code yX10_lettersOf cX10_lettersOf 5 (some .int), Cond.methodLink RX10 483 yX10_lettersOf, Cond.static yX10_lettersOf, Cond.methodLink RX3 3 objectInit, Cond.fieldLink RX3 9 "TabledGoals$Program" "terms" "[I", Cond.fieldLink RX3 15 "TabledGoals$Program" "lengths" "[I", Cond.fieldLink RX3 18 "TabledGoals$Program" "letters" "[I", Cond.fieldLink RX3 21 "TabledGoals$Program" "sizes" "[I", Cond.fieldLink RX3 24 "TabledGoals$Program" "needs" "[I", Cond.fieldLink RX3 27 "TabledGoals$Program" "parts" "[I", Cond.methodLink RX7 3 objectInit, Cond.fieldLink RX7 9 "TabledGoals$Walk" "bound" "[I", Cond.fieldLink RX7 15 "TabledGoals$Walk" "same" "[I", Cond.fieldLink RX7 18 "TabledGoals$Walk" "program" "LTabledGoals$Program;", Cond.fieldLink RX7 22 "TabledGoals$Walk" "plain" "[J", Cond.fieldLink RX7 26 "TabledGoals$Walk" "barred" "[J", Cond.code yX7_init cX7_init 4 none, Cond.initialized RX7, Cond.instanceMethod yX7_init, Cond.methodLink RX1 3 yX7_init, Cond.methodLink RX2 3 objectInit, Cond.arrayClass .long, Cond.classLink RX2 25 RX1, Cond.instantiable RX1 7, Cond.code yX1_init cX1_init 4 none, Cond.instanceMethod yX1_init, Cond.methodLink RX2 27 yX1_init, Cond.fieldLink RX8 3 "TabledGoals$Model" "possible" "[J", Cond.fieldLink RX8 9 "TabledGoals$Model" "truth" "[J", Cond.methodLink RX8 12 yX7_init, Cond.fieldLink RX8 18 "TabledGoals$Weigher" "delayed" "[I", Cond.fieldLink RX8 24 "TabledGoals$Weigher" "model" "LTabledGoals$Model;", Cond.fieldLink RX0 3 "TabledGoals$Model" "possible" "[J", Cond.fieldLink RX0 9 "TabledGoals$Model" "truth" "[J", Cond.methodLink RX0 12 yX7_init, Cond.fieldLink RX0 18 "TabledGoals$Caller" "keys" "[I", Cond.fieldLink RX0 24 "TabledGoals$Caller" "ways" "[I", Cond.methodLink RX6 3 objectInit, Cond.fieldLink RX6 9 "TabledGoals$Tables" "completedOnes" "[I", Cond.classLink RX6 18 RX5, Cond.fieldLink RX6 20 "TabledGoals$Tables" "all" "[LTabledGoals$Table;", Cond.fieldLink RX6 24 "TabledGoals$Tables" "queue" "[I", Cond.arrayClass .boolean, Cond.fieldLink RX6 27 "TabledGoals$Tables" "seen" "[Z", Cond.fieldLink RX6 31 "TabledGoals$Tables" "model" "LTabledGoals$Model;", Cond.classLink RX6 35 RX0, Cond.instantiable RX0 9, Cond.initialized RX0, Cond.code yX0_init cX0_init 3 none, Cond.instanceMethod yX0_init, Cond.methodLink RX6 37 yX0_init, Cond.fieldLink RX6 40 "TabledGoals$Tables" "caller" "LTabledGoals$Caller;", Cond.methodLink RX9 3 objectInit, Cond.classLink RX9 20 RX3, Cond.instantiable RX3 9, Cond.code yX3_init cX3_init 1 none, Cond.instanceMethod yX3_init, Cond.classLink RX9 30 RX2, Cond.instantiable RX2 7, Cond.code yX2_init cX2_init 2 none, Cond.instanceMethod yX2_init, Cond.methodLink RX9 32 yX2_init, Cond.classLink RX9 39 RX8, Cond.instantiable RX8 12, Cond.initialized RX8, Cond.code yX8_init cX8_init 3 none, Cond.instanceMethod yX8_init, Cond.methodLink RX9 41 yX8_init, Cond.fieldLink RX9 44 "TabledGoals" "weigher" "LTabledGoals$Weigher;", Cond.classLink RX9 48 RX6, Cond.instantiable RX6 14, Cond.code yX6_init cX6_init 3 none, Cond.instanceMethod yX6_init, Cond.methodLink RX9 50 yX6_init, Cond.methodLink RX10 1 objectInit, Cond.fieldLink RX10 26 "TabledGoalsModel" "is" "[I", Cond.fieldLink RX10 45 "TabledGoalsModel" "stratum" "[I", Cond.arrayClass .byte, Cond.fieldLink RX10 52 "TabledGoalsModel" "text" "[B", Cond.fieldLink RX10 71 "TabledGoalsModel" "name" "[I", Cond.fieldLink RX10 74 "TabledGoalsModel" "isBound" "[Z", Cond.fieldLink RX10 77 "TabledGoalsModel" "placeOf" "[I", Cond.fieldLink RX10 80 "TabledGoalsModel" "called" "[I", Cond.fieldLink RX10 83 "TabledGoalsModel" "how" "[I", Cond.fieldLink RX10 86 "TabledGoalsModel" "way" "[I", Cond.fieldLink RX10 89 "TabledGoalsModel" "bound" "[I", Cond.fieldLink RX10 92 "TabledGoalsModel" "alike" "[I", Cond.fieldLink RX10 95 "TabledGoalsModel" "goalOf" "[I", Cond.fieldLink RX10 101 "TabledGoalsModel" "went" "[I", Cond.fieldLink RX10 104 "TabledGoalsModel" "hitsOf" "[I", Cond.fieldLink RX10 107 "TabledGoalsModel" "madeOf" "[I", Cond.fieldLink RX10 110 "TabledGoalsModel" "isFresh" "[Z", Cond.constant RX10 113 (672400), Cond.arrayClass .short, Cond.fieldLink RX10 114 "TabledGoalsModel" "callRow" "[S", Cond.fieldLink RX10 118 "TabledGoalsModel" "callHow" "[B", Cond.fieldLink RX10 121 "TabledGoalsModel" "callMany" "[I", Cond.constant RX10 124 (52480), Cond.fieldLink RX10 125 "TabledGoalsModel" "answers" "[B", Cond.fieldLink RX10 128 "TabledGoalsModel" "open" "[I", Cond.fieldLink RX10 131 "TabledGoalsModel" "done" "[I", Cond.fieldLink RX10 134 "TabledGoalsModel" "left" "[I", Cond.fieldLink RX10 137 "TabledGoalsModel" "leftAt" "[I", Cond.fieldLink RX10 140 "TabledGoalsModel" "finished" "[I", Cond.fieldLink RX10 143 "TabledGoalsModel" "comeTo" "[Z", Cond.fieldLink RX10 146 "TabledGoalsModel" "row" "[I", Cond.fieldLink RX10 149 "TabledGoalsModel" "leader" "[I", Cond.fieldLink RX10 152 "TabledGoalsModel" "hither" "[Z", Cond.fieldLink RX10 155 "TabledGoalsModel" "delays" "[I", Cond.fieldLink RX10 158 "TabledGoalsModel" "reached" "[I", Cond.fieldLink RX10 161 "TabledGoalsModel" "isReached" "[Z", Cond.code yX9_text cX9_text 5 (some .int), Cond.methodLink RL 7 yX9_text, Cond.instanceMethod yX9_text, Cond.selects RX9 yX9_text yX9_text, Cond.classLink RL 13 iae, Cond.code yX9_assume cX9_assume 4 (some .int), Cond.methodLink RL 15 yX9_assume, Cond.instanceMethod yX9_assume, Cond.selects RX9 yX9_assume yX9_assume, Cond.classLink RL 19 nse, Cond.code yX9_retract cX9_retract 5 (some .int), Cond.methodLink RL 23 yX9_retract, Cond.instanceMethod yX9_retract, Cond.selects RX9 yX9_retract yX9_retract, Cond.code yX9_ask cX9_ask 4 (some .int), Cond.methodLink RL 26 yX9_ask, Cond.instanceMethod yX9_ask, Cond.selects RX9 yX9_ask yX9_ask, Cond.code yX9_value cX9_value 4 (some .int), Cond.methodLink RL 45 yX9_value, Cond.instanceMethod yX9_value, Cond.selects RX9 yX9_value yX9_value, Cond.code yX9_stage cX9_stage 4 (some .int), Cond.methodLink RL 48 yX9_stage, Cond.instanceMethod yX9_stage, Cond.selects RX9 yX9_stage yX9_stage, Cond.code yX9_find cX9_find 4 (some .int), Cond.methodLink RL 51 yX9_find, Cond.instanceMethod yX9_find, Cond.selects RX9 yX9_find yX9_find, Cond.code yX9_reach cX9_reach 4 (some .int), Cond.methodLink RL 67 yX9_reach, Cond.instanceMethod yX9_reach, Cond.selects RX9 yX9_reach yX9_reach, Cond.code yX9_condition cX9_condition 6 (some .int), Cond.methodLink RL 63 yX9_condition, Cond.instanceMethod yX9_condition, Cond.selects RX9 yX9_condition yX9_condition, Cond.code yX9_predicate cX9_predicate 3 (some .int), Cond.methodLink RL 32 yX9_predicate, Cond.instanceMethod yX9_predicate, Cond.selects RX9 yX9_predicate yX9_predicate, Cond.code yX9_clause cX9_clause 4 (some .int), Cond.methodLink RL 39 yX9_clause, Cond.instanceMethod yX9_clause, Cond.selects RX9 yX9_clause yX9_clause, Cond.code yX9_literals cX9_literals 2 (some .int), Cond.methodLink RL 42 yX9_literals, Cond.instanceMethod yX9_literals, Cond.selects RX9 yX9_literals yX9_literals, Cond.code yX9_table cX9_table 4 (some .int), Cond.methodLink RL 54 yX9_table, Cond.instanceMethod yX9_table, Cond.selects RX9 yX9_table yX9_table, Cond.code yX9_calls cX9_calls 5 (some .int), Cond.methodLink RL 57 yX9_calls, Cond.instanceMethod yX9_calls, Cond.selects RX9 yX9_calls yX9_calls, Cond.code yX9_answer cX9_answer 8 (some .int), Cond.methodLink RL 60 yX9_answer, Cond.instanceMethod yX9_answer, Cond.selects RX9 yX9_answer yX9_answer, Cond.code yX9_told cX9_told 2 (some .int), Cond.methodLink RL 29 yX9_told, Cond.instanceMethod yX9_told, Cond.selects RX9 yX9_told yX9_told, Cond.code yX9_nameAt cX9_nameAt 5 (some .int), Cond.methodLink RL 36 yX9_nameAt, Cond.instanceMethod yX9_nameAt, Cond.selects RX9 yX9_nameAt yX9_nameAt, Cond.code yX9_feed cX9_feed 6 (some .int), Cond.methodLink RL 74 yX9_feed, Cond.instanceMethod yX9_feed, Cond.selects RX9 yX9_feed yX9_feed, Cond.code yX10_feed cX10_feed 6 (some .int), Cond.methodLink RL 77 yX10_feed, Cond.instanceMethod yX10_feed, Cond.selects RX10 yX10_feed yX10_feed, Cond.codeWith yL_text cL_text 4 (some .int) [(0, 9, 12, 13)], Cond.initialized RL, Cond.methodLink RL 78 yL_text, Cond.static yL_text, Cond.code yX10_text cX10_text 3 (some .int), Cond.methodLink RL 83 yX10_text, Cond.instanceMethod yX10_text, Cond.selects RX10 yX10_text yX10_text, Cond.code yX10_thrown cX10_thrown 1 (some .int), Cond.methodLink RL 84 yX10_thrown, Cond.instanceMethod yX10_thrown, Cond.selects RX10 yX10_thrown yX10_thrown, Cond.code yX9_fault cX9_fault 1 (some .int), Cond.methodLink RL 88 yX9_fault, Cond.instanceMethod yX9_fault, Cond.selects RX9 yX9_fault yX9_fault, Cond.code yX10_fault cX10_fault 1 (some .int), Cond.methodLink RL 91 yX10_fault, Cond.instanceMethod yX10_fault, Cond.selects RX10 yX10_fault yX10_fault, Cond.codeWith yL_assume cL_assume 6 (some .int) [(0, 12, 15, 19), (0, 12, 19, 13), (0, 12, 23, 21)], Cond.methodLink RL 92 yL_assume, Cond.static yL_assume, Cond.code yX10_assume cX10_assume 5 (some .int), Cond.methodLink RL 95 yX10_assume, Cond.instanceMethod yX10_assume, Cond.selects RX10 yX10_assume yX10_assume, Cond.codeWith yL_retract cL_retract 6 (some .int) [(0, 12, 15, 19), (0, 12, 19, 13)], Cond.methodLink RL 96 yL_retract, Cond.static yL_retract, Cond.code yX10_retract cX10_retract 6 (some .int), Cond.methodLink RL 98 yX10_retract, Cond.instanceMethod yX10_retract, Cond.selects RX10 yX10_retract yX10_retract, Cond.codeWith yL_ask cL_ask 6 (some .int) [(0, 12, 15, 19), (0, 12, 19, 13)], Cond.methodLink RL 99 yL_ask, Cond.static yL_ask, Cond.code yX10_ask cX10_ask 5 (some .int), Cond.methodLink RL 101 yX10_ask, Cond.instanceMethod yX10_ask, Cond.selects RX10 yX10_ask yX10_ask, Cond.code yX9_abolish cX9_abolish 2 (some .int), Cond.methodLink RL 102 yX9_abolish, Cond.instanceMethod yX9_abolish, Cond.selects RX9 yX9_abolish yX9_abolish, Cond.code yX10_abolish cX10_abolish 2 (some .int), Cond.methodLink RL 105 yX10_abolish, Cond.instanceMethod yX10_abolish, Cond.selects RX10 yX10_abolish yX10_abolish, Cond.codeWith yL_told cL_told 4 (some .int) [(0, 9, 12, 13)], Cond.methodLink RL 106 yL_told, Cond.static yL_told, Cond.code yX10_told cX10_told 2 (some .int), Cond.methodLink RL 108 yX10_told, Cond.instanceMethod yX10_told, Cond.selects RX10 yX10_told yX10_told, Cond.codeWith yL_predicate cL_predicate 5 (some .int) [(0, 10, 13, 19), (0, 10, 17, 13)], Cond.methodLink RL 109 yL_predicate, Cond.static yL_predicate, Cond.code yX10_predicate cX10_predicate 3 (some .int), Cond.methodLink RL 112 yX10_predicate, Cond.instanceMethod yX10_predicate, Cond.selects RX10 yX10_predicate yX10_predicate, Cond.codeWith yL_nameAt cL_nameAt 6 (some .int) [(0, 12, 15, 19), (0, 12, 19, 13)], Cond.methodLink RL 113 yL_nameAt, Cond.static yL_nameAt, Cond.code yX10_nameAt cX10_nameAt 10 (some .int), Cond.methodLink RL 115 yX10_nameAt, Cond.instanceMethod yX10_nameAt, Cond.selects RX10 yX10_nameAt yX10_nameAt, Cond.codeWith yL_clause cL_clause 6 (some .int) [(0, 12, 15, 19), (0, 12, 19, 13)], Cond.methodLink RL 116 yL_clause, Cond.static yL_clause, Cond.code yX10_clause cX10_clause 5 (some .int), Cond.methodLink RL 118 yX10_clause, Cond.instanceMethod yX10_clause, Cond.selects RX10 yX10_clause yX10_clause, Cond.codeWith yL_literals cL_literals 4 (some .int) [(0, 9, 12, 19)], Cond.methodLink RL 119 yL_literals, Cond.static yL_literals, Cond.code yX10_literals cX10_literals 2 (some .int), Cond.methodLink RL 121 yX10_literals, Cond.instanceMethod yX10_literals, Cond.selects RX10 yX10_literals yX10_literals, Cond.codeWith yL_value cL_value 6 (some .int) [(0, 12, 15, 19), (0, 12, 19, 13)], Cond.methodLink RL 122 yL_value, Cond.static yL_value, Cond.code yX10_value cX10_value 4 (some .int), Cond.methodLink RL 124 yX10_value, Cond.instanceMethod yX10_value, Cond.selects RX10 yX10_value yX10_value, Cond.codeWith yL_stage cL_stage 6 (some .int) [(0, 12, 15, 19), (0, 12, 19, 13)], Cond.methodLink RL 125 yL_stage, Cond.static yL_stage, Cond.code yX10_stage cX10_stage 6 (some .int), Cond.methodLink RL 127 yX10_stage, Cond.instanceMethod yX10_stage, Cond.selects RX10 yX10_stage yX10_stage, Cond.codeWith yL_find cL_find 6 (some .int) [(0, 12, 15, 19), (0, 12, 19, 13)], Cond.methodLink RL 128 yL_find, Cond.static yL_find, Cond.code yX10_find cX10_find 4 (some .int), Cond.methodLink RL 130 yX10_find, Cond.instanceMethod yX10_find, Cond.selects RX10 yX10_find yX10_find, Cond.codeWith yL_table cL_table 5 (some .int) [(0, 10, 13, 19), (0, 10, 17, 13)], Cond.methodLink RL 131 yL_table, Cond.static yL_table, Cond.code yX10_table cX10_table 3 (some .int), Cond.methodLink RL 133 yX10_table, Cond.instanceMethod yX10_table, Cond.selects RX10 yX10_table yX10_table, Cond.codeWith yL_calls cL_calls 6 (some .int) [(0, 12, 15, 19), (0, 12, 19, 13)], Cond.methodLink RL 134 yL_calls, Cond.static yL_calls, Cond.code yX10_calls cX10_calls 4 (some .int), Cond.methodLink RL 136 yX10_calls, Cond.instanceMethod yX10_calls, Cond.selects RX10 yX10_calls yX10_calls, Cond.codeWith yL_answer cL_answer 6 (some .int) [(0, 12, 15, 19), (0, 12, 19, 13)], Cond.methodLink RL 137 yL_answer, Cond.static yL_answer, Cond.code yX10_answer cX10_answer 7 (some .int), Cond.methodLink RL 139 yX10_answer, Cond.instanceMethod yX10_answer, Cond.selects RX10 yX10_answer yX10_answer, Cond.code yX9_completed cX9_completed 2 (some .int), Cond.methodLink RL 140 yX9_completed, Cond.instanceMethod yX9_completed, Cond.selects RX9 yX9_completed yX9_completed, Cond.code yX10_completed cX10_completed 2 (some .int), Cond.methodLink RL 143 yX10_completed, Cond.instanceMethod yX10_completed, Cond.selects RX10 yX10_completed yX10_completed, Cond.codeWith yL_condition cL_condition 8 (some .int) [(0, 16, 19, 19), (0, 16, 23, 13)], Cond.methodLink RL 144 yL_condition, Cond.static yL_condition, Cond.code yX10_condition cX10_condition 7 (some .int), Cond.methodLink RL 147 yX10_condition, Cond.instanceMethod yX10_condition, Cond.selects RX10 yX10_condition yX10_condition, Cond.codeWith yL_reach cL_reach 6 (some .int) [(0, 12, 15, 19), (0, 12, 19, 13)], Cond.methodLink RL 148 yL_reach, Cond.static yL_reach, Cond.code yX10_reach cX10_reach 7 (some .int), Cond.methodLink RL 150 yX10_reach, Cond.instanceMethod yX10_reach, Cond.selects RX10 yX10_reach yX10_reach, Cond.code yX9_print cX9_print 1 (some .long), Cond.methodLink RL 151 yX9_print, Cond.instanceMethod yX9_print, Cond.selects RX9 yX9_print yX9_print, Cond.code yX10_print cX10_print 4 (some .long), Cond.methodLink RL 155 yX10_print, Cond.instanceMethod yX10_print, Cond.selects RX10 yX10_print yX10_print, Cond.code yX9_status cX9_status 2 (some .int), Cond.methodLink RL 156 yX9_status, Cond.instanceMethod yX9_status, Cond.selects RX9 yX9_status yX9_status, Cond.code yX10_status cX10_status 2 (some .int), Cond.methodLink RL 159 yX10_status, Cond.instanceMethod yX10_status, Cond.selects RX10 yX10_status yX10_status, Cond.classLink RL 8 RX9, Cond.instantiable RX9 9, Cond.code yX9_init cX9_init 1 none, Cond.instanceMethod yX9_init, Cond.methodLink RL 70 yX9_init, Cond.classLink RL 71 RX10, Cond.instantiable RX10 77, Cond.code yX10_init cX10_init 1 none, Cond.instanceMethod yX10_init, Cond.methodLink RL 73 yX10_init, Cond.instantiable RX5 18]
def wsY : List Cond := wsX00 ++ wsX10 ++ wsX20 ++ wsX30 ++ wsX40 ++ wsX50 ++ wsX60 ++ wsX80 ++ wsX90 ++ wsX100
def rxN : ByteArray := prog_24_method_4_code
def nsT (own : String) (ic : Nat) : List Cond := [.methodLink own ic (Bundle.initS nse), .instantiable nse 6, .castable nse nse, .selects nse Bundle.tFill0 Bundle.tFill0, .selects nse Bundle.tFill Bundle.tFill, .lays nse Bundle.tN "cause" "Ljava/lang/Throwable;", .lays nse Bundle.tN "stackTrace" Bundle.steD, .lays nse Bundle.tN "suppressedExceptions" Bundle.listD, .lays nse Bundle.tN "detailMessage" "Ljava/lang/String;", .isRef (.static Bundle.tN "UNASSIGNED_STACK" Bundle.steD), .isRef (.static Bundle.tN "SUPPRESSED_SENTINEL" Bundle.listD), .fieldLink Bundle.tN 198 Bundle.tN "backtrace" "Ljava/lang/Object;", .lays Bundle.tN Bundle.tN "backtrace" "Ljava/lang/Object;", .lays nse Bundle.tN "backtrace" "Ljava/lang/Object;"]
def nsW (own : String) (ic : Nat) : List Cond := Bundle.throwableAtoms ++ (Bundle.throwableSAtoms ++ (Bundle.passSAtoms nse "java/lang/RuntimeException" 13 rxN ++ (Bundle.chainSAtoms "java/lang/RuntimeException" ["java/lang/Exception"] ++ nsT own ic)))
def wsT1 : List Cond := ((nsW RX9 289).filter vx_no).filter goodWord
def wsT2 : List Cond := (vx_atS RX9 296 iae ["java/lang/RuntimeException", "java/lang/Exception"]).filter goodWord
def WS : List Cond := wsE ++ (wsY ++ (wsT1 ++ wsT2))
theorem WS_g1 : wsE.all goodWord = true := by decide +kernel
theorem WS_g2 : wsY.all goodWord = true := by decide +kernel
theorem WS_good : ∀ w ∈ WS, goodWord w = true := fun w h => (List.mem_append.mp h).elim (fun h => List.all_eq_true.mp WS_g1 w h) (fun h => (List.mem_append.mp h).elim (fun h => List.all_eq_true.mp WS_g2 w h) (fun h => (List.mem_append.mp h).elim (fun h => (List.mem_filter.mp h).2) (fun h => (List.mem_filter.mp h).2)))
theorem WS_e1 : ∀ w ∈ ((nsW RX9 289).filter vx_no).filter goodWord, w ∈ WS := fun w h => List.mem_append_right _ (List.mem_append_right _ (List.mem_append_left _ h))
theorem WS_e2 : ∀ w ∈ (vx_atS RX9 296 iae ["java/lang/RuntimeException", "java/lang/Exception"]).filter goodWord, w ∈ WS := fun w h => List.mem_append_right _ (List.mem_append_right _ (List.mem_append_right _ h))
theorem iwX0 : ∀ w ∈ u_ws RX0 TX0 9, w ∈ WS := fun w h => List.mem_append_right _ (List.mem_append_left _ (List.mem_append_left _ (List.mem_append_left _ (List.mem_append_left _ (List.mem_append_left _ (List.mem_append_left _ (List.mem_append_left _ (List.mem_append_left _ (List.mem_append_left _ (List.mem_append_left _ h))))))))))
theorem iwX1 : ∀ w ∈ u_ws RX1 TX1 7, w ∈ WS := fun w h => List.mem_append_right _ (List.mem_append_left _ (List.mem_append_left _ (List.mem_append_left _ (List.mem_append_left _ (List.mem_append_left _ (List.mem_append_left _ (List.mem_append_left _ (List.mem_append_left _ (List.mem_append_left _ (List.mem_append_right _ h))))))))))
theorem iwX2 : ∀ w ∈ u_ws RX2 TX2 7, w ∈ WS := fun w h => List.mem_append_right _ (List.mem_append_left _ (List.mem_append_left _ (List.mem_append_left _ (List.mem_append_left _ (List.mem_append_left _ (List.mem_append_left _ (List.mem_append_left _ (List.mem_append_left _ (List.mem_append_right _ h)))))))))
theorem iwX3 : ∀ w ∈ u_ws RX3 TX3 9, w ∈ WS := fun w h => List.mem_append_right _ (List.mem_append_left _ (List.mem_append_left _ (List.mem_append_left _ (List.mem_append_left _ (List.mem_append_left _ (List.mem_append_left _ (List.mem_append_left _ (List.mem_append_right _ h))))))))
theorem iwX4 : ∀ w ∈ u_ws RX4 TX4 10, w ∈ WS := fun w h => List.mem_append_right _ (List.mem_append_left _ (List.mem_append_left _ (List.mem_append_left _ (List.mem_append_left _ (List.mem_append_left _ (List.mem_append_left _ (List.mem_append_right _ h)))))))
theorem iwX5 : ∀ w ∈ u_ws RX5 TX5 18, w ∈ WS := fun w h => List.mem_append_right _ (List.mem_append_left _ (List.mem_append_left _ (List.mem_append_left _ (List.mem_append_left _ (List.mem_append_left _ (List.mem_append_right _ h))))))
theorem iwX6 : ∀ w ∈ u_ws RX6 TX6 14, w ∈ WS := fun w h => List.mem_append_right _ (List.mem_append_left _ (List.mem_append_left _ (List.mem_append_left _ (List.mem_append_left _ (List.mem_append_right _ h)))))
theorem iwX8 : ∀ w ∈ u_ws RX8 TX8 12, w ∈ WS := fun w h => List.mem_append_right _ (List.mem_append_left _ (List.mem_append_left _ (List.mem_append_left _ (List.mem_append_right _ h))))
theorem iwX9 : ∀ w ∈ u_ws RX9 TX9 9, w ∈ WS := fun w h => List.mem_append_right _ (List.mem_append_left _ (List.mem_append_left _ (List.mem_append_right _ h)))
theorem iwX10 : ∀ w ∈ u_ws RX10 TX10 77, w ∈ WS := fun w h => List.mem_append_right _ (List.mem_append_left _ (List.mem_append_right _ h))
theorem m_0 : Cond.constantLong RJ13 314 (6148914691236517205) ∈ WS := List.mem_append_left _ (List.mem_of_getElem? (i := 0) rfl)
theorem m_1 : Cond.constantLong RJ13 316 (3689348814741910323) ∈ WS := List.mem_append_left _ (List.mem_of_getElem? (i := 1) rfl)
theorem m_2 : Cond.constantLong RJ13 318 (1085102592571150095) ∈ WS := List.mem_append_left _ (List.mem_of_getElem? (i := 2) rfl)
theorem m_3 : Cond.fieldLink RX9 55 "TabledGoals" "tapeBytes" "I" ∈ WS := List.mem_append_left _ (List.mem_of_getElem? (i := 3) rfl)
theorem m_4 : Cond.fieldLink RX9 9 "TabledGoals" "tape" "[I" ∈ WS := List.mem_append_left _ (List.mem_of_getElem? (i := 4) rfl)
theorem m_5 : Cond.code yX9_putBytes cX9_putBytes 3 none ∈ WS := List.mem_append_left _ (List.mem_of_getElem? (i := 5) rfl)
theorem m_6 : Cond.initialized RX9 ∈ WS := List.mem_append_left _ (List.mem_of_getElem? (i := 6) rfl)
theorem m_7 : Cond.methodLink RX9 58 yX9_putBytes ∈ WS := List.mem_append_left _ (List.mem_of_getElem? (i := 7) rfl)
theorem m_8 : Cond.instanceMethod yX9_putBytes ∈ WS := List.mem_append_left _ (List.mem_of_getElem? (i := 8) rfl)
theorem m_9 : Cond.selects RX9 yX9_putBytes yX9_putBytes ∈ WS := List.mem_append_left _ (List.mem_of_getElem? (i := 9) rfl)
theorem m_10 : Cond.fieldLink RX9 13 "TabledGoals" "faultPlace" "I" ∈ WS := List.mem_append_left _ (List.mem_of_getElem? (i := 10) rfl)
theorem m_11 : Cond.fieldLink RX9 17 "TabledGoals" "refused" "[I" ∈ WS := List.mem_append_left _ (List.mem_of_getElem? (i := 11) rfl)
theorem m_12 : Cond.classLink RX9 285 nse ∈ WS := List.mem_append_left _ (List.mem_of_getElem? (i := 12) rfl)
theorem m_13 : Cond.initialized nse ∈ WS := List.mem_append_left _ (List.mem_of_getElem? (i := 13) rfl)
theorem m_14 : Cond.classLink RX9 292 iae ∈ WS := List.mem_append_left _ (List.mem_of_getElem? (i := 14) rfl)
theorem m_15 : Cond.initialized iae ∈ WS := List.mem_append_left _ (List.mem_of_getElem? (i := 15) rfl)
theorem m_16 : Cond.code yX9_refuseMissing cX9_refuseMissing 1 none ∈ WS := List.mem_append_left _ (List.mem_of_getElem? (i := 16) rfl)
theorem m_17 : Cond.methodLink RX9 262 yX9_refuseMissing ∈ WS := List.mem_append_left _ (List.mem_of_getElem? (i := 17) rfl)
theorem m_18 : Cond.instanceMethod yX9_refuseMissing ∈ WS := List.mem_append_left _ (List.mem_of_getElem? (i := 18) rfl)
theorem m_19 : Cond.selects RX9 yX9_refuseMissing yX9_refuseMissing ∈ WS := List.mem_append_left _ (List.mem_of_getElem? (i := 19) rfl)
theorem m_20 : Cond.fieldLink RX9 23 "TabledGoals" "program" "LTabledGoals$Program;" ∈ WS := List.mem_append_left _ (List.mem_of_getElem? (i := 20) rfl)
theorem m_21 : Cond.fieldLink RX9 138 "TabledGoals$Program" "predicates" "I" ∈ WS := List.mem_append_left _ (List.mem_of_getElem? (i := 21) rfl)
theorem m_22 : Cond.code yX9_needIndex cX9_needIndex 3 none ∈ WS := List.mem_append_left _ (List.mem_of_getElem? (i := 22) rfl)
theorem m_23 : Cond.methodLink RX9 199 yX9_needIndex ∈ WS := List.mem_append_left _ (List.mem_of_getElem? (i := 23) rfl)
theorem m_24 : Cond.instanceMethod yX9_needIndex ∈ WS := List.mem_append_left _ (List.mem_of_getElem? (i := 24) rfl)
theorem m_25 : Cond.selects RX9 yX9_needIndex yX9_needIndex ∈ WS := List.mem_append_left _ (List.mem_of_getElem? (i := 25) rfl)
theorem m_26 : Cond.fieldLink RX9 141 "TabledGoals$Program" "constants" "I" ∈ WS := List.mem_append_left _ (List.mem_of_getElem? (i := 26) rfl)
theorem m_27 : Cond.code yX9_needPredicate cX9_needPredicate 2 none ∈ WS := List.mem_append_left _ (List.mem_of_getElem? (i := 27) rfl)
theorem m_28 : Cond.methodLink RX9 166 yX9_needPredicate ∈ WS := List.mem_append_left _ (List.mem_of_getElem? (i := 28) rfl)
theorem m_29 : Cond.instanceMethod yX9_needPredicate ∈ WS := List.mem_append_left _ (List.mem_of_getElem? (i := 29) rfl)
theorem m_30 : Cond.selects RX9 yX9_needPredicate yX9_needPredicate ∈ WS := List.mem_append_left _ (List.mem_of_getElem? (i := 30) rfl)
theorem m_31 : Cond.code yX9_needAtom cX9_needAtom 5 none ∈ WS := List.mem_append_left _ (List.mem_of_getElem? (i := 31) rfl)
theorem m_32 : Cond.methodLink RX9 90 yX9_needAtom ∈ WS := List.mem_append_left _ (List.mem_of_getElem? (i := 32) rfl)
theorem m_33 : Cond.instanceMethod yX9_needAtom ∈ WS := List.mem_append_left _ (List.mem_of_getElem? (i := 33) rfl)
theorem m_34 : Cond.selects RX9 yX9_needAtom yX9_needAtom ∈ WS := List.mem_append_left _ (List.mem_of_getElem? (i := 34) rfl)
theorem m_35 : Cond.code yX9_needGoal cX9_needGoal 5 none ∈ WS := List.mem_append_left _ (List.mem_of_getElem? (i := 35) rfl)
theorem m_36 : Cond.methodLink RX9 115 yX9_needGoal ∈ WS := List.mem_append_left _ (List.mem_of_getElem? (i := 36) rfl)
theorem m_37 : Cond.instanceMethod yX9_needGoal ∈ WS := List.mem_append_left _ (List.mem_of_getElem? (i := 37) rfl)
theorem m_38 : Cond.selects RX9 yX9_needGoal yX9_needGoal ∈ WS := List.mem_append_left _ (List.mem_of_getElem? (i := 38) rfl)
theorem m_39 : Cond.fieldLink RX9 87 "TabledGoals$Program" "clauses" "I" ∈ WS := List.mem_append_left _ (List.mem_of_getElem? (i := 39) rfl)
theorem m_40 : Cond.code yX9_refuseArgument cX9_refuseArgument 1 none ∈ WS := List.mem_append_left _ (List.mem_of_getElem? (i := 40) rfl)
theorem m_41 : Cond.methodLink RX9 62 yX9_refuseArgument ∈ WS := List.mem_append_left _ (List.mem_of_getElem? (i := 41) rfl)
theorem m_42 : Cond.instanceMethod yX9_refuseArgument ∈ WS := List.mem_append_left _ (List.mem_of_getElem? (i := 42) rfl)
theorem m_43 : Cond.selects RX9 yX9_refuseArgument yX9_refuseArgument ∈ WS := List.mem_append_left _ (List.mem_of_getElem? (i := 43) rfl)
theorem m_44 : Cond.fieldLink RX1 9 "TabledGoals$Follower" "program" "LTabledGoals$Program;" ∈ WS := List.mem_append_left _ (List.mem_of_getElem? (i := 44) rfl)
theorem m_45 : Cond.sameField "TabledGoals$Follower" "TabledGoals$Walk" "program" "LTabledGoals$Program;" ∈ WS := List.mem_append_left _ (List.mem_of_getElem? (i := 45) rfl)
theorem m_46 : Cond.fieldLink RX1 40 "TabledGoals$Follower" "barred" "[J" ∈ WS := List.mem_append_left _ (List.mem_of_getElem? (i := 46) rfl)
theorem m_47 : Cond.sameField "TabledGoals$Follower" "TabledGoals$Walk" "barred" "[J" ∈ WS := List.mem_append_left _ (List.mem_of_getElem? (i := 47) rfl)
theorem m_48 : Cond.fieldLink RX1 37 "TabledGoals$Follower" "grownNow" "I" ∈ WS := List.mem_append_left _ (List.mem_of_getElem? (i := 48) rfl)
theorem m_49 : Cond.fieldLink RX1 43 "TabledGoals$Program" "clauses" "I" ∈ WS := List.mem_append_left _ (List.mem_of_getElem? (i := 49) rfl)
theorem m_50 : Cond.fieldLink RX2 9 "TabledGoals$Model" "truth" "[J" ∈ WS := List.mem_append_left _ (List.mem_of_getElem? (i := 50) rfl)
theorem m_51 : Cond.fieldLink RX2 22 "TabledGoals$Model" "grown" "[J" ∈ WS := List.mem_append_left _ (List.mem_of_getElem? (i := 51) rfl)
theorem m_52 : Cond.methodLink RX2 68 arraycopyName ∈ WS := List.mem_append_left _ (List.mem_of_getElem? (i := 52) rfl)
theorem m_53 : Cond.native arraycopyName ∈ WS := List.mem_append_left _ (List.mem_of_getElem? (i := 53) rfl)
theorem m_54 : Cond.static arraycopyName ∈ WS := List.mem_append_left _ (List.mem_of_getElem? (i := 54) rfl)
theorem m_55 : Cond.initialized "java/lang/System" ∈ WS := List.mem_append_left _ (List.mem_of_getElem? (i := 55) rfl)
theorem m_56 : Cond.fieldLink RX2 30 "TabledGoals$Model" "follower" "LTabledGoals$Follower;" ∈ WS := List.mem_append_left _ (List.mem_of_getElem? (i := 56) rfl)
theorem m_57 : Cond.code yX1_follow cX1_follow 6 none ∈ WS := List.mem_append_left _ (List.mem_of_getElem? (i := 57) rfl)
theorem m_58 : Cond.initialized RX1 ∈ WS := List.mem_append_left _ (List.mem_of_getElem? (i := 58) rfl)
theorem m_59 : Cond.methodLink RX2 74 yX1_follow ∈ WS := List.mem_append_left _ (List.mem_of_getElem? (i := 59) rfl)
theorem m_60 : Cond.instanceMethod yX1_follow ∈ WS := List.mem_append_left _ (List.mem_of_getElem? (i := 60) rfl)
theorem m_61 : Cond.selects RX1 yX1_follow yX1_follow ∈ WS := List.mem_append_left _ (List.mem_of_getElem? (i := 61) rfl)
theorem m_62 : Cond.fieldLink RX2 15 "TabledGoals$Model" "possible" "[J" ∈ WS := List.mem_append_left _ (List.mem_of_getElem? (i := 62) rfl)
theorem m_63 : Cond.fieldLink RX2 34 "TabledGoals$Model" "known" "Z" ∈ WS := List.mem_append_left _ (List.mem_of_getElem? (i := 63) rfl)
theorem m_64 : Cond.code yJ7_fill_d0a16 cJ7_fill_d0a16 5 none ∈ WS := List.mem_append_left _ (List.mem_of_getElem? (i := 64) rfl)
theorem m_65 : Cond.initialized RJ7 ∈ WS := List.mem_append_left _ (List.mem_of_getElem? (i := 65) rfl)
theorem m_66 : Cond.methodLink RX2 38 yJ7_fill_d0a16 ∈ WS := List.mem_append_left _ (List.mem_of_getElem? (i := 66) rfl)
theorem m_67 : Cond.static yJ7_fill_d0a16 ∈ WS := List.mem_append_left _ (List.mem_of_getElem? (i := 67) rfl)
theorem m_68 : Cond.fieldLink RX2 18 "TabledGoals$Model" "stageOf" "[I" ∈ WS := List.mem_append_left _ (List.mem_of_getElem? (i := 68) rfl)
theorem m_69 : Cond.code yJ7_fill_53178 cJ7_fill_53178 4 none ∈ WS := List.mem_append_left _ (List.mem_of_getElem? (i := 69) rfl)
theorem m_70 : Cond.methodLink RX2 44 yJ7_fill_53178 ∈ WS := List.mem_append_left _ (List.mem_of_getElem? (i := 70) rfl)
theorem m_71 : Cond.static yJ7_fill_53178 ∈ WS := List.mem_append_left _ (List.mem_of_getElem? (i := 71) rfl)
theorem m_72 : Cond.fieldLink RX2 47 "TabledGoals$Model" "stages" "I" ∈ WS := List.mem_append_left _ (List.mem_of_getElem? (i := 72) rfl)
theorem m_73 : Cond.code yX2_growPossible cX2_growPossible 2 none ∈ WS := List.mem_append_left _ (List.mem_of_getElem? (i := 73) rfl)
theorem m_74 : Cond.initialized RX2 ∈ WS := List.mem_append_left _ (List.mem_of_getElem? (i := 74) rfl)
theorem m_75 : Cond.methodLink RX2 51 yX2_growPossible ∈ WS := List.mem_append_left _ (List.mem_of_getElem? (i := 75) rfl)
theorem m_76 : Cond.instanceMethod yX2_growPossible ∈ WS := List.mem_append_left _ (List.mem_of_getElem? (i := 76) rfl)
theorem m_77 : Cond.selects RX2 yX2_growPossible yX2_growPossible ∈ WS := List.mem_append_left _ (List.mem_of_getElem? (i := 77) rfl)
theorem m_78 : Cond.fieldLink RX2 55 "TabledGoals$Program" "predicates" "I" ∈ WS := List.mem_append_left _ (List.mem_of_getElem? (i := 78) rfl)
theorem m_79 : Cond.code yX2_noteStage cX2_noteStage 7 none ∈ WS := List.mem_append_left _ (List.mem_of_getElem? (i := 79) rfl)
theorem m_80 : Cond.methodLink RX2 60 yX2_noteStage ∈ WS := List.mem_append_left _ (List.mem_of_getElem? (i := 80) rfl)
theorem m_81 : Cond.instanceMethod yX2_noteStage ∈ WS := List.mem_append_left _ (List.mem_of_getElem? (i := 81) rfl)
theorem m_82 : Cond.selects RX2 yX2_noteStage yX2_noteStage ∈ WS := List.mem_append_left _ (List.mem_of_getElem? (i := 82) rfl)
theorem m_83 : Cond.code yX2_growTruth cX2_growTruth 4 (some .boolean) ∈ WS := List.mem_append_left _ (List.mem_of_getElem? (i := 83) rfl)
theorem m_84 : Cond.methodLink RX2 64 yX2_growTruth ∈ WS := List.mem_append_left _ (List.mem_of_getElem? (i := 84) rfl)
theorem m_85 : Cond.instanceMethod yX2_growTruth ∈ WS := List.mem_append_left _ (List.mem_of_getElem? (i := 85) rfl)
theorem m_86 : Cond.selects RX2 yX2_growTruth yX2_growTruth ∈ WS := List.mem_append_left _ (List.mem_of_getElem? (i := 86) rfl)
theorem m_87 : Cond.constantLong RX2 78 (-1) ∈ WS := List.mem_append_left _ (List.mem_of_getElem? (i := 87) rfl)
theorem m_88 : Cond.code yJ13_bitCount_95d88 cJ13_bitCount_95d88 2 (some .int) ∈ WS := List.mem_append_left _ (List.mem_of_getElem? (i := 88) rfl)
theorem m_89 : Cond.initialized RJ13 ∈ WS := List.mem_append_left _ (List.mem_of_getElem? (i := 89) rfl)
theorem m_90 : Cond.methodLink RX2 80 yJ13_bitCount_95d88 ∈ WS := List.mem_append_left _ (List.mem_of_getElem? (i := 90) rfl)
theorem m_91 : Cond.static yJ13_bitCount_95d88 ∈ WS := List.mem_append_left _ (List.mem_of_getElem? (i := 91) rfl)
theorem m_92 : Cond.code yX2_undefinedOf cX2_undefinedOf 2 (some .long) ∈ WS := List.mem_append_left _ (List.mem_of_getElem? (i := 92) rfl)
theorem m_93 : Cond.methodLink RX2 86 yX2_undefinedOf ∈ WS := List.mem_append_left _ (List.mem_of_getElem? (i := 93) rfl)
theorem m_94 : Cond.instanceMethod yX2_undefinedOf ∈ WS := List.mem_append_left _ (List.mem_of_getElem? (i := 94) rfl)
theorem m_95 : Cond.selects RX2 yX2_undefinedOf yX2_undefinedOf ∈ WS := List.mem_append_left _ (List.mem_of_getElem? (i := 95) rfl)
theorem m_96 : Cond.fieldLink RX3 37 "TabledGoals$Program" "clauses" "I" ∈ WS := List.mem_append_left _ (List.mem_of_getElem? (i := 96) rfl)
theorem m_97 : Cond.fieldLink RX6 60 "TabledGoals$Tables" "count" "I" ∈ WS := List.mem_append_left _ (List.mem_of_getElem? (i := 97) rfl)
theorem m_98 : Cond.fieldLink RX6 15 "TabledGoals$Tables" "numberOf" "[I" ∈ WS := List.mem_append_left _ (List.mem_of_getElem? (i := 98) rfl)
theorem m_99 : Cond.methodLink RX6 44 yJ7_fill_53178 ∈ WS := List.mem_append_left _ (List.mem_of_getElem? (i := 99) rfl)
theorem m_100 : Cond.fieldLink RX6 63 "TabledGoals$Tables" "completedCount" "I" ∈ WS := List.mem_append_left _ (List.mem_of_getElem? (i := 100) rfl)
theorem m_101 : Cond.code yX6_clear cX6_clear 1 none ∈ WS := List.mem_append_left _ (List.mem_of_getElem? (i := 101) rfl)
theorem m_102 : Cond.initialized RX6 ∈ WS := List.mem_append_left _ (List.mem_of_getElem? (i := 102) rfl)
theorem m_103 : Cond.methodLink RX6 50 yX6_clear ∈ WS := List.mem_append_left _ (List.mem_of_getElem? (i := 103) rfl)
theorem m_104 : Cond.instanceMethod yX6_clear ∈ WS := List.mem_append_left _ (List.mem_of_getElem? (i := 104) rfl)
theorem m_105 : Cond.selects RX6 yX6_clear yX6_clear ∈ WS := List.mem_append_left _ (List.mem_of_getElem? (i := 105) rfl)
theorem m_106 : Cond.fieldLink RX6 53 "TabledGoals$Tables" "madeInAll" "I" ∈ WS := List.mem_append_left _ (List.mem_of_getElem? (i := 106) rfl)
theorem m_107 : Cond.fieldLink RX6 57 "TabledGoals$Tables" "hitsInAll" "I" ∈ WS := List.mem_append_left _ (List.mem_of_getElem? (i := 107) rfl)
theorem m_108 : Cond.fieldLink RX3 30 "TabledGoals$Program" "predicates" "I" ∈ WS := List.mem_append_left _ (List.mem_of_getElem? (i := 108) rfl)
theorem m_109 : Cond.fieldLink RX3 34 "TabledGoals$Program" "constants" "I" ∈ WS := List.mem_append_left _ (List.mem_of_getElem? (i := 109) rfl)
theorem m_110 : Cond.methodLink RX4 3 objectInit ∈ WS := List.mem_append_left _ (List.mem_of_getElem? (i := 110) rfl)
theorem m_111 : Cond.instanceMethod objectInit ∈ WS := List.mem_append_left _ (List.mem_of_getElem? (i := 111) rfl)
theorem m_112 : Cond.code objectInit ⟨#[0xb1]⟩ 1 none ∈ WS := List.mem_append_left _ (List.mem_of_getElem? (i := 112) rfl)
theorem m_113 : Cond.fieldLink RX4 9 "TabledGoals$Reader" "place" "I" ∈ WS := List.mem_append_left _ (List.mem_of_getElem? (i := 113) rfl)
theorem m_114 : Cond.arrayClass .int ∈ WS := List.mem_append_left _ (List.mem_of_getElem? (i := 114) rfl)
theorem m_115 : Cond.fieldLink RX4 15 "TabledGoals$Reader" "variables" "[I" ∈ WS := List.mem_append_left _ (List.mem_of_getElem? (i := 115) rfl)
theorem m_116 : Cond.fieldLink RX4 19 "TabledGoals$Reader" "headPlaces" "[I" ∈ WS := List.mem_append_left _ (List.mem_of_getElem? (i := 116) rfl)
theorem m_117 : Cond.fieldLink RX4 22 "TabledGoals$Reader" "bytes" "[I" ∈ WS := List.mem_append_left _ (List.mem_of_getElem? (i := 117) rfl)
theorem m_118 : Cond.methodLink RX4 25 Lib.Math.min.name ∈ WS := List.mem_append_left _ (List.mem_of_getElem? (i := 118) rfl)
theorem m_119 : Cond.static Lib.Math.min.name ∈ WS := List.mem_append_left _ (List.mem_of_getElem? (i := 119) rfl)
theorem m_120 : Cond.initialized "java/lang/Math" ∈ WS := List.mem_append_left _ (List.mem_of_getElem? (i := 120) rfl)
theorem m_121 : Cond.code Lib.Math.min.name Lib.Math.min.code 2 (some .int) ∈ WS := List.mem_append_left _ (List.mem_of_getElem? (i := 121) rfl)
theorem m_122 : Cond.fieldLink RX4 31 "TabledGoals$Reader" "end" "I" ∈ WS := List.mem_append_left _ (List.mem_of_getElem? (i := 122) rfl)
theorem m_123 : Cond.fieldLink RX4 34 "TabledGoals$Reader" "into" "LTabledGoals$Program;" ∈ WS := List.mem_append_left _ (List.mem_of_getElem? (i := 123) rfl)
theorem m_124 : Cond.fieldLink RX4 54 "TabledGoals$Reader" "at" "I" ∈ WS := List.mem_append_left _ (List.mem_of_getElem? (i := 124) rfl)
theorem m_125 : Cond.code yX3_clear cX3_clear 1 none ∈ WS := List.mem_append_left _ (List.mem_of_getElem? (i := 125) rfl)
theorem m_126 : Cond.initialized RX3 ∈ WS := List.mem_append_left _ (List.mem_of_getElem? (i := 126) rfl)
theorem m_127 : Cond.methodLink RX4 38 yX3_clear ∈ WS := List.mem_append_left _ (List.mem_of_getElem? (i := 127) rfl)
theorem m_128 : Cond.instanceMethod yX3_clear ∈ WS := List.mem_append_left _ (List.mem_of_getElem? (i := 128) rfl)
theorem m_129 : Cond.selects RX3 yX3_clear yX3_clear ∈ WS := List.mem_append_left _ (List.mem_of_getElem? (i := 129) rfl)
theorem m_130 : Cond.code yX4_next cX4_next 1 (some .int) ∈ WS := List.mem_append_left _ (List.mem_of_getElem? (i := 130) rfl)
theorem m_131 : Cond.initialized RX4 ∈ WS := List.mem_append_left _ (List.mem_of_getElem? (i := 131) rfl)
theorem m_132 : Cond.methodLink RX4 43 yX4_next ∈ WS := List.mem_append_left _ (List.mem_of_getElem? (i := 132) rfl)
theorem m_133 : Cond.instanceMethod yX4_next ∈ WS := List.mem_append_left _ (List.mem_of_getElem? (i := 133) rfl)
theorem m_134 : Cond.selects RX4 yX4_next yX4_next ∈ WS := List.mem_append_left _ (List.mem_of_getElem? (i := 134) rfl)
theorem m_135 : Cond.classLink RX9 65 RX4 ∈ WS := List.mem_append_left _ (List.mem_of_getElem? (i := 135) rfl)
theorem m_136 : Cond.instantiable RX4 10 ∈ WS := List.mem_append_left _ (List.mem_of_getElem? (i := 136) rfl)
theorem m_137 : Cond.fieldLink RX9 27 "TabledGoals" "spare" "LTabledGoals$Program;" ∈ WS := List.mem_append_left _ (List.mem_of_getElem? (i := 137) rfl)
theorem m_138 : Cond.code yX4_init cX4_init 4 none ∈ WS := List.mem_append_left _ (List.mem_of_getElem? (i := 138) rfl)
theorem m_139 : Cond.instanceMethod yX4_init ∈ WS := List.mem_append_left _ (List.mem_of_getElem? (i := 139) rfl)
theorem m_140 : Cond.methodLink RX9 67 yX4_init ∈ WS := List.mem_append_left _ (List.mem_of_getElem? (i := 140) rfl)
theorem m_141 : Cond.code yX4_readText cX4_readText 2 (some .boolean) ∈ WS := List.mem_append_left _ (List.mem_of_getElem? (i := 141) rfl)
theorem m_142 : Cond.methodLink RX9 70 yX4_readText ∈ WS := List.mem_append_left _ (List.mem_of_getElem? (i := 142) rfl)
theorem m_143 : Cond.instanceMethod yX4_readText ∈ WS := List.mem_append_left _ (List.mem_of_getElem? (i := 143) rfl)
theorem m_144 : Cond.selects RX4 yX4_readText yX4_readText ∈ WS := List.mem_append_left _ (List.mem_of_getElem? (i := 144) rfl)
theorem m_145 : Cond.fieldLink RX9 74 "TabledGoals$Reader" "place" "I" ∈ WS := List.mem_append_left _ (List.mem_of_getElem? (i := 145) rfl)
theorem m_146 : Cond.fieldLink RX9 35 "TabledGoals" "model" "LTabledGoals$Model;" ∈ WS := List.mem_append_left _ (List.mem_of_getElem? (i := 146) rfl)
theorem m_147 : Cond.fieldLink RX9 80 "TabledGoals$Model" "known" "Z" ∈ WS := List.mem_append_left _ (List.mem_of_getElem? (i := 147) rfl)
theorem m_148 : Cond.fieldLink RX9 51 "TabledGoals" "tables" "LTabledGoals$Tables;" ∈ WS := List.mem_append_left _ (List.mem_of_getElem? (i := 148) rfl)
theorem m_149 : Cond.code yX6_startAnew cX6_startAnew 1 none ∈ WS := List.mem_append_left _ (List.mem_of_getElem? (i := 149) rfl)
theorem m_150 : Cond.methodLink RX9 84 yX6_startAnew ∈ WS := List.mem_append_left _ (List.mem_of_getElem? (i := 150) rfl)
theorem m_151 : Cond.instanceMethod yX6_startAnew ∈ WS := List.mem_append_left _ (List.mem_of_getElem? (i := 151) rfl)
theorem m_152 : Cond.selects RX6 yX6_startAnew yX6_startAnew ∈ WS := List.mem_append_left _ (List.mem_of_getElem? (i := 152) rfl)
theorem m_153 : Cond.fieldLink RX9 128 "TabledGoals$Tables" "count" "I" ∈ WS := List.mem_append_left _ (List.mem_of_getElem? (i := 153) rfl)
theorem m_154 : Cond.methodLink RX9 131 yX6_clear ∈ WS := List.mem_append_left _ (List.mem_of_getElem? (i := 154) rfl)
theorem m_155 : Cond.code yX9_needWhat cX9_needWhat 3 none ∈ WS := List.mem_append_left _ (List.mem_of_getElem? (i := 155) rfl)
theorem m_156 : Cond.methodLink RX9 134 yX9_needWhat ∈ WS := List.mem_append_left _ (List.mem_of_getElem? (i := 156) rfl)
theorem m_157 : Cond.instanceMethod yX9_needWhat ∈ WS := List.mem_append_left _ (List.mem_of_getElem? (i := 157) rfl)
theorem m_158 : Cond.selects RX9 yX9_needWhat yX9_needWhat ∈ WS := List.mem_append_left _ (List.mem_of_getElem? (i := 158) rfl)
theorem m_159 : Cond.code yX3_facts cX3_facts 3 (some .int) ∈ WS := List.mem_append_left _ (List.mem_of_getElem? (i := 159) rfl)
theorem m_160 : Cond.methodLink RX9 144 yX3_facts ∈ WS := List.mem_append_left _ (List.mem_of_getElem? (i := 160) rfl)
theorem m_161 : Cond.instanceMethod yX3_facts ∈ WS := List.mem_append_left _ (List.mem_of_getElem? (i := 161) rfl)
theorem m_162 : Cond.selects RX3 yX3_facts yX3_facts ∈ WS := List.mem_append_left _ (List.mem_of_getElem? (i := 162) rfl)
theorem m_163 : Cond.code yX6_freshOnes cX6_freshOnes 3 (some .int) ∈ WS := List.mem_append_left _ (List.mem_of_getElem? (i := 163) rfl)
theorem m_164 : Cond.methodLink RX9 148 yX6_freshOnes ∈ WS := List.mem_append_left _ (List.mem_of_getElem? (i := 164) rfl)
theorem m_165 : Cond.instanceMethod yX6_freshOnes ∈ WS := List.mem_append_left _ (List.mem_of_getElem? (i := 165) rfl)
theorem m_166 : Cond.selects RX6 yX6_freshOnes yX6_freshOnes ∈ WS := List.mem_append_left _ (List.mem_of_getElem? (i := 166) rfl)
theorem m_167 : Cond.fieldLink RX9 151 "TabledGoals$Tables" "madeInAll" "I" ∈ WS := List.mem_append_left _ (List.mem_of_getElem? (i := 167) rfl)
theorem m_168 : Cond.fieldLink RX9 154 "TabledGoals$Tables" "hitsInAll" "I" ∈ WS := List.mem_append_left _ (List.mem_of_getElem? (i := 168) rfl)
theorem m_169 : Cond.code yX2_settle cX2_settle 2 none ∈ WS := List.mem_append_left _ (List.mem_of_getElem? (i := 169) rfl)
theorem m_170 : Cond.methodLink RX9 118 yX2_settle ∈ WS := List.mem_append_left _ (List.mem_of_getElem? (i := 170) rfl)
theorem m_171 : Cond.instanceMethod yX2_settle ∈ WS := List.mem_append_left _ (List.mem_of_getElem? (i := 171) rfl)
theorem m_172 : Cond.selects RX2 yX2_settle yX2_settle ∈ WS := List.mem_append_left _ (List.mem_of_getElem? (i := 172) rfl)
theorem m_173 : Cond.fieldLink RX9 157 "TabledGoals$Model" "stages" "I" ∈ WS := List.mem_append_left _ (List.mem_of_getElem? (i := 173) rfl)
theorem m_174 : Cond.code yX2_trueAtoms cX2_trueAtoms 3 (some .int) ∈ WS := List.mem_append_left _ (List.mem_of_getElem? (i := 174) rfl)
theorem m_175 : Cond.methodLink RX9 160 yX2_trueAtoms ∈ WS := List.mem_append_left _ (List.mem_of_getElem? (i := 175) rfl)
theorem m_176 : Cond.instanceMethod yX2_trueAtoms ∈ WS := List.mem_append_left _ (List.mem_of_getElem? (i := 176) rfl)
theorem m_177 : Cond.selects RX2 yX2_trueAtoms yX2_trueAtoms ∈ WS := List.mem_append_left _ (List.mem_of_getElem? (i := 177) rfl)
theorem m_178 : Cond.code yX2_undefinedAtoms cX2_undefinedAtoms 3 (some .int) ∈ WS := List.mem_append_left _ (List.mem_of_getElem? (i := 178) rfl)
theorem m_179 : Cond.methodLink RX9 163 yX2_undefinedAtoms ∈ WS := List.mem_append_left _ (List.mem_of_getElem? (i := 179) rfl)
theorem m_180 : Cond.instanceMethod yX2_undefinedAtoms ∈ WS := List.mem_append_left _ (List.mem_of_getElem? (i := 180) rfl)
theorem m_181 : Cond.selects RX2 yX2_undefinedAtoms yX2_undefinedAtoms ∈ WS := List.mem_append_left _ (List.mem_of_getElem? (i := 181) rfl)
theorem m_182 : Cond.code yX9_needConstant cX9_needConstant 2 none ∈ WS := List.mem_append_left _ (List.mem_of_getElem? (i := 182) rfl)
theorem m_183 : Cond.methodLink RX9 196 yX9_needConstant ∈ WS := List.mem_append_left _ (List.mem_of_getElem? (i := 183) rfl)
theorem m_184 : Cond.instanceMethod yX9_needConstant ∈ WS := List.mem_append_left _ (List.mem_of_getElem? (i := 184) rfl)
theorem m_185 : Cond.selects RX9 yX9_needConstant yX9_needConstant ∈ WS := List.mem_append_left _ (List.mem_of_getElem? (i := 185) rfl)
theorem m_186 : Cond.fieldLink RX9 256 "TabledGoals$Tables" "completedCount" "I" ∈ WS := List.mem_append_left _ (List.mem_of_getElem? (i := 186) rfl)
theorem m_187 : Cond.code yX6_sum cX6_sum 5 (some .long) ∈ WS := List.mem_append_left _ (List.mem_of_getElem? (i := 187) rfl)
theorem m_188 : Cond.methodLink RX9 282 yX6_sum ∈ WS := List.mem_append_left _ (List.mem_of_getElem? (i := 188) rfl)
theorem m_189 : Cond.instanceMethod yX6_sum ∈ WS := List.mem_append_left _ (List.mem_of_getElem? (i := 189) rfl)
theorem m_190 : Cond.selects RX6 yX6_sum yX6_sum ∈ WS := List.mem_append_left _ (List.mem_of_getElem? (i := 190) rfl)
theorem m_191 : Cond.fieldLink RX10 164 "TabledGoalsModel" "thrown" "I" ∈ WS := List.mem_append_left _ (List.mem_of_getElem? (i := 191) rfl)
theorem m_192 : Cond.fieldLink RX10 7 "TabledGoalsModel" "refused" "[I" ∈ WS := List.mem_append_left _ (List.mem_of_getElem? (i := 192) rfl)
theorem m_193 : Cond.fieldLink RX10 48 "TabledGoalsModel" "tape" "[B" ∈ WS := List.mem_append_left _ (List.mem_of_getElem? (i := 193) rfl)
theorem m_194 : Cond.fieldLink RX10 231 "TabledGoalsModel" "taped" "I" ∈ WS := List.mem_append_left _ (List.mem_of_getElem? (i := 194) rfl)
theorem m_195 : Cond.code yX10_puts cX10_puts 3 none ∈ WS := List.mem_append_left _ (List.mem_of_getElem? (i := 195) rfl)
theorem m_196 : Cond.initialized RX10 ∈ WS := List.mem_append_left _ (List.mem_of_getElem? (i := 196) rfl)
theorem m_197 : Cond.methodLink RX10 234 yX10_puts ∈ WS := List.mem_append_left _ (List.mem_of_getElem? (i := 197) rfl)
theorem m_198 : Cond.instanceMethod yX10_puts ∈ WS := List.mem_append_left _ (List.mem_of_getElem? (i := 198) rfl)
theorem m_199 : Cond.selects RX10 yX10_puts yX10_puts ∈ WS := List.mem_append_left _ (List.mem_of_getElem? (i := 199) rfl)
theorem m_200 : Cond.fieldLink RX10 55 "TabledGoalsModel" "faultAt" "I" ∈ WS := List.mem_append_left _ (List.mem_of_getElem? (i := 200) rfl)
theorem m_201 : Cond.fieldLink RX10 344 "TabledGoalsModel" "predicates" "I" ∈ WS := List.mem_append_left _ (List.mem_of_getElem? (i := 201) rfl)
theorem m_202 : Cond.code yX10_within cX10_within 3 (some .boolean) ∈ WS := List.mem_append_left _ (List.mem_of_getElem? (i := 202) rfl)
theorem m_203 : Cond.methodLink RX10 330 yX10_within ∈ WS := List.mem_append_left _ (List.mem_of_getElem? (i := 203) rfl)
theorem m_204 : Cond.static yX10_within ∈ WS := List.mem_append_left _ (List.mem_of_getElem? (i := 204) rfl)
theorem m_205 : Cond.code yX10_isFine cX10_isFine 4 (some .boolean) ∈ WS := List.mem_append_left _ (List.mem_of_getElem? (i := 205) rfl)
theorem m_206 : Cond.methodLink RX10 334 yX10_isFine ∈ WS := List.mem_append_left _ (List.mem_of_getElem? (i := 206) rfl)
theorem m_207 : Cond.instanceMethod yX10_isFine ∈ WS := List.mem_append_left _ (List.mem_of_getElem? (i := 207) rfl)
theorem m_208 : Cond.selects RX10 yX10_isFine yX10_isFine ∈ WS := List.mem_append_left _ (List.mem_of_getElem? (i := 208) rfl)
theorem m_209 : Cond.code yX10_isGiven cX10_isGiven 8 (some .boolean) ∈ WS := List.mem_append_left _ (List.mem_of_getElem? (i := 209) rfl)
theorem m_210 : Cond.methodLink RX10 449 yX10_isGiven ∈ WS := List.mem_append_left _ (List.mem_of_getElem? (i := 210) rfl)
theorem m_211 : Cond.instanceMethod yX10_isGiven ∈ WS := List.mem_append_left _ (List.mem_of_getElem? (i := 211) rfl)
theorem m_212 : Cond.selects RX10 yX10_isGiven yX10_isGiven ∈ WS := List.mem_append_left _ (List.mem_of_getElem? (i := 212) rfl)
theorem m_213 : Cond.fieldLink RX10 191 "TabledGoalsModel" "clauses" "I" ∈ WS := List.mem_append_left _ (List.mem_of_getElem? (i := 213) rfl)
theorem m_214 : Cond.fieldLink RX10 400 "TabledGoalsModel" "tables" "I" ∈ WS := List.mem_append_left _ (List.mem_of_getElem? (i := 214) rfl)
theorem m_215 : Cond.code yX10_isTable cX10_isTable 2 (some .boolean) ∈ WS := List.mem_append_left _ (List.mem_of_getElem? (i := 215) rfl)
theorem m_216 : Cond.methodLink RX10 490 yX10_isTable ∈ WS := List.mem_append_left _ (List.mem_of_getElem? (i := 216) rfl)
theorem m_217 : Cond.instanceMethod yX10_isTable ∈ WS := List.mem_append_left _ (List.mem_of_getElem? (i := 217) rfl)
theorem m_218 : Cond.selects RX10 yX10_isTable yX10_isTable ∈ WS := List.mem_append_left _ (List.mem_of_getElem? (i := 218) rfl)
theorem m_219 : Cond.fieldLink RX10 403 "TabledGoalsModel" "completedMany" "I" ∈ WS := List.mem_append_left _ (List.mem_of_getElem? (i := 219) rfl)
theorem m_220 : Cond.fieldLink RX10 98 "TabledGoalsModel" "tableOf" "[I" ∈ WS := List.mem_append_left _ (List.mem_of_getElem? (i := 220) rfl)
theorem m_221 : Cond.code yX10_noTables cX10_noTables 2 none ∈ WS := List.mem_append_left _ (List.mem_of_getElem? (i := 221) rfl)
theorem m_222 : Cond.methodLink RX10 353 yX10_noTables ∈ WS := List.mem_append_left _ (List.mem_of_getElem? (i := 222) rfl)
theorem m_223 : Cond.instanceMethod yX10_noTables ∈ WS := List.mem_append_left _ (List.mem_of_getElem? (i := 223) rfl)
theorem m_224 : Cond.selects RX10 yX10_noTables yX10_noTables ∈ WS := List.mem_append_left _ (List.mem_of_getElem? (i := 224) rfl)
theorem m_225 : Cond.fieldLink RX10 307 "TabledGoalsModel" "readPredicates" "I" ∈ WS := List.mem_append_left _ (List.mem_of_getElem? (i := 225) rfl)
theorem m_226 : Cond.fieldLink RX10 292 "TabledGoalsModel" "readConstants" "I" ∈ WS := List.mem_append_left _ (List.mem_of_getElem? (i := 226) rfl)
theorem m_227 : Cond.fieldLink RX10 181 "TabledGoalsModel" "constants" "I" ∈ WS := List.mem_append_left _ (List.mem_of_getElem? (i := 227) rfl)
theorem m_228 : Cond.fieldLink RX10 324 "TabledGoalsModel" "readClauses" "I" ∈ WS := List.mem_append_left _ (List.mem_of_getElem? (i := 228) rfl)
theorem m_229 : Cond.fieldLink RX10 205 "TabledGoalsModel" "isMade" "Z" ∈ WS := List.mem_append_left _ (List.mem_of_getElem? (i := 229) rfl)
theorem m_230 : Cond.fieldLink RX10 347 "TabledGoalsModel" "made" "I" ∈ WS := List.mem_append_left _ (List.mem_of_getElem? (i := 230) rfl)
theorem m_231 : Cond.fieldLink RX10 350 "TabledGoalsModel" "hits" "I" ∈ WS := List.mem_append_left _ (List.mem_of_getElem? (i := 231) rfl)
theorem m_232 : Cond.fieldLink RX10 23 "TabledGoalsModel" "constantName" "[J" ∈ WS := List.mem_append_left _ (List.mem_of_getElem? (i := 232) rfl)
theorem m_233 : Cond.fieldLink RX10 68 "TabledGoalsModel" "readConstant" "[J" ∈ WS := List.mem_append_left _ (List.mem_of_getElem? (i := 233) rfl)
theorem m_234 : Cond.fieldLink RX10 13 "TabledGoalsModel" "arity" "[I" ∈ WS := List.mem_append_left _ (List.mem_of_getElem? (i := 234) rfl)
theorem m_235 : Cond.fieldLink RX10 59 "TabledGoalsModel" "readArity" "[I" ∈ WS := List.mem_append_left _ (List.mem_of_getElem? (i := 235) rfl)
theorem m_236 : Cond.fieldLink RX10 19 "TabledGoalsModel" "predicateName" "[J" ∈ WS := List.mem_append_left _ (List.mem_of_getElem? (i := 236) rfl)
theorem m_237 : Cond.fieldLink RX10 65 "TabledGoalsModel" "readPredicate" "[J" ∈ WS := List.mem_append_left _ (List.mem_of_getElem? (i := 237) rfl)
theorem m_238 : Cond.fieldLink RX10 16 "TabledGoalsModel" "rule" "[I" ∈ WS := List.mem_append_left _ (List.mem_of_getElem? (i := 238) rfl)
theorem m_239 : Cond.fieldLink RX10 62 "TabledGoalsModel" "readRule" "[I" ∈ WS := List.mem_append_left _ (List.mem_of_getElem? (i := 239) rfl)
theorem m_240 : Cond.fieldLink RX10 243 "TabledGoalsModel" "here" "I" ∈ WS := List.mem_append_left _ (List.mem_of_getElem? (i := 240) rfl)
theorem m_241 : Cond.fieldLink RX10 246 "TabledGoalsModel" "size" "I" ∈ WS := List.mem_append_left _ (List.mem_of_getElem? (i := 241) rfl)
theorem m_242 : Cond.fieldLink RX10 237 "TabledGoalsModel" "fault" "I" ∈ WS := List.mem_append_left _ (List.mem_of_getElem? (i := 242) rfl)
theorem m_243 : Cond.code yX10_sign cX10_sign 1 (some .int) ∈ WS := List.mem_append_left _ (List.mem_of_getElem? (i := 243) rfl)
theorem m_244 : Cond.methodLink RX10 249 yX10_sign ∈ WS := List.mem_append_left _ (List.mem_of_getElem? (i := 244) rfl)
theorem m_245 : Cond.instanceMethod yX10_sign ∈ WS := List.mem_append_left _ (List.mem_of_getElem? (i := 245) rfl)
theorem m_246 : Cond.selects RX10 yX10_sign yX10_sign ∈ WS := List.mem_append_left _ (List.mem_of_getElem? (i := 246) rfl)
theorem m_247 : Cond.code yX10_stands cX10_stands 2 none ∈ WS := List.mem_append_left _ (List.mem_of_getElem? (i := 247) rfl)
theorem m_248 : Cond.methodLink RX10 341 yX10_stands ∈ WS := List.mem_append_left _ (List.mem_of_getElem? (i := 248) rfl)
theorem m_249 : Cond.instanceMethod yX10_stands ∈ WS := List.mem_append_left _ (List.mem_of_getElem? (i := 249) rfl)
theorem m_250 : Cond.selects RX10 yX10_stands yX10_stands ∈ WS := List.mem_append_left _ (List.mem_of_getElem? (i := 250) rfl)
theorem m_251 : Cond.fieldLink RX10 29 "TabledGoalsModel" "known" "[Z" ∈ WS := List.mem_append_left _ (List.mem_of_getElem? (i := 251) rfl)
theorem m_252 : Cond.fieldLink RX10 33 "TabledGoalsModel" "possible" "[Z" ∈ WS := List.mem_append_left _ (List.mem_of_getElem? (i := 252) rfl)
theorem m_253 : Cond.fieldLink RX10 42 "TabledGoalsModel" "falseAt" "[I" ∈ WS := List.mem_append_left _ (List.mem_of_getElem? (i := 253) rfl)
theorem m_254 : Cond.fieldLink RX10 209 "TabledGoalsModel" "stages" "I" ∈ WS := List.mem_append_left _ (List.mem_of_getElem? (i := 254) rfl)
theorem m_255 : Cond.code yX10_follows cX10_follows 6 none ∈ WS := List.mem_append_left _ (List.mem_of_getElem? (i := 255) rfl)
theorem m_256 : Cond.methodLink RX10 212 yX10_follows ∈ WS := List.mem_append_left _ (List.mem_of_getElem? (i := 256) rfl)
theorem m_257 : Cond.instanceMethod yX10_follows ∈ WS := List.mem_append_left _ (List.mem_of_getElem? (i := 257) rfl)
theorem m_258 : Cond.selects RX10 yX10_follows yX10_follows ∈ WS := List.mem_append_left _ (List.mem_of_getElem? (i := 258) rfl)
theorem m_259 : Cond.code yX10_marks cX10_marks 3 none ∈ WS := List.mem_append_left _ (List.mem_of_getElem? (i := 259) rfl)
theorem m_260 : Cond.methodLink RX10 216 yX10_marks ∈ WS := List.mem_append_left _ (List.mem_of_getElem? (i := 260) rfl)
theorem m_261 : Cond.instanceMethod yX10_marks ∈ WS := List.mem_append_left _ (List.mem_of_getElem? (i := 261) rfl)
theorem m_262 : Cond.selects RX10 yX10_marks yX10_marks ∈ WS := List.mem_append_left _ (List.mem_of_getElem? (i := 262) rfl)
theorem m_263 : Cond.fieldLink RX10 36 "TabledGoalsModel" "next" "[Z" ∈ WS := List.mem_append_left _ (List.mem_of_getElem? (i := 263) rfl)
theorem m_264 : Cond.fieldLink RX10 39 "TabledGoalsModel" "trueAt" "[I" ∈ WS := List.mem_append_left _ (List.mem_of_getElem? (i := 264) rfl)
theorem m_265 : Cond.code yX10_makes cX10_makes 3 none ∈ WS := List.mem_append_left _ (List.mem_of_getElem? (i := 265) rfl)
theorem m_266 : Cond.methodLink RX10 391 yX10_makes ∈ WS := List.mem_append_left _ (List.mem_of_getElem? (i := 266) rfl)
theorem m_267 : Cond.instanceMethod yX10_makes ∈ WS := List.mem_append_left _ (List.mem_of_getElem? (i := 267) rfl)
theorem m_268 : Cond.selects RX10 yX10_makes yX10_makes ∈ WS := List.mem_append_left _ (List.mem_of_getElem? (i := 268) rfl)
theorem m_269 : Cond.code yX10_factMany cX10_factMany 3 (some .int) ∈ WS := List.mem_append_left _ (List.mem_of_getElem? (i := 269) rfl)
theorem m_270 : Cond.methodLink RX10 468 yX10_factMany ∈ WS := List.mem_append_left _ (List.mem_of_getElem? (i := 270) rfl)
theorem m_271 : Cond.instanceMethod yX10_factMany ∈ WS := List.mem_append_left _ (List.mem_of_getElem? (i := 271) rfl)
theorem m_272 : Cond.selects RX10 yX10_factMany yX10_factMany ∈ WS := List.mem_append_left _ (List.mem_of_getElem? (i := 272) rfl)
theorem m_273 : Cond.code yX10_freshMany cX10_freshMany 3 (some .int) ∈ WS := List.mem_append_left _ (List.mem_of_getElem? (i := 273) rfl)
theorem m_274 : Cond.methodLink RX10 471 yX10_freshMany ∈ WS := List.mem_append_left _ (List.mem_of_getElem? (i := 274) rfl)
theorem m_275 : Cond.instanceMethod yX10_freshMany ∈ WS := List.mem_append_left _ (List.mem_of_getElem? (i := 275) rfl)
theorem m_276 : Cond.selects RX10 yX10_freshMany yX10_freshMany ∈ WS := List.mem_append_left _ (List.mem_of_getElem? (i := 276) rfl)
theorem m_277 : Cond.code yX10_allAtoms cX10_allAtoms 4 (some .int) ∈ WS := List.mem_append_left _ (List.mem_of_getElem? (i := 277) rfl)
theorem m_278 : Cond.methodLink RX10 474 yX10_allAtoms ∈ WS := List.mem_append_left _ (List.mem_of_getElem? (i := 278) rfl)
theorem m_279 : Cond.instanceMethod yX10_allAtoms ∈ WS := List.mem_append_left _ (List.mem_of_getElem? (i := 279) rfl)
theorem m_280 : Cond.selects RX10 yX10_allAtoms yX10_allAtoms ∈ WS := List.mem_append_left _ (List.mem_of_getElem? (i := 280) rfl)
theorem m_281 : Cond.code yX10_lettersOf cX10_lettersOf 5 (some .int) ∈ WS := List.mem_append_left _ (List.mem_of_getElem? (i := 281) rfl)
theorem m_282 : Cond.methodLink RX10 483 yX10_lettersOf ∈ WS := List.mem_append_left _ (List.mem_of_getElem? (i := 282) rfl)
theorem m_283 : Cond.static yX10_lettersOf ∈ WS := List.mem_append_left _ (List.mem_of_getElem? (i := 283) rfl)
theorem m_284 : Cond.methodLink RX3 3 objectInit ∈ WS := List.mem_append_left _ (List.mem_of_getElem? (i := 284) rfl)
theorem m_285 : Cond.fieldLink RX3 9 "TabledGoals$Program" "terms" "[I" ∈ WS := List.mem_append_left _ (List.mem_of_getElem? (i := 285) rfl)
theorem m_286 : Cond.fieldLink RX3 15 "TabledGoals$Program" "lengths" "[I" ∈ WS := List.mem_append_left _ (List.mem_of_getElem? (i := 286) rfl)
theorem m_287 : Cond.fieldLink RX3 18 "TabledGoals$Program" "letters" "[I" ∈ WS := List.mem_append_left _ (List.mem_of_getElem? (i := 287) rfl)
theorem m_288 : Cond.fieldLink RX3 21 "TabledGoals$Program" "sizes" "[I" ∈ WS := List.mem_append_left _ (List.mem_of_getElem? (i := 288) rfl)
theorem m_289 : Cond.fieldLink RX3 24 "TabledGoals$Program" "needs" "[I" ∈ WS := List.mem_append_left _ (List.mem_of_getElem? (i := 289) rfl)
theorem m_290 : Cond.fieldLink RX3 27 "TabledGoals$Program" "parts" "[I" ∈ WS := List.mem_append_left _ (List.mem_of_getElem? (i := 290) rfl)
theorem m_291 : Cond.methodLink RX7 3 objectInit ∈ WS := List.mem_append_left _ (List.mem_of_getElem? (i := 291) rfl)
theorem m_292 : Cond.fieldLink RX7 9 "TabledGoals$Walk" "bound" "[I" ∈ WS := List.mem_append_left _ (List.mem_of_getElem? (i := 292) rfl)
theorem m_293 : Cond.fieldLink RX7 15 "TabledGoals$Walk" "same" "[I" ∈ WS := List.mem_append_left _ (List.mem_of_getElem? (i := 293) rfl)
theorem m_294 : Cond.fieldLink RX7 18 "TabledGoals$Walk" "program" "LTabledGoals$Program;" ∈ WS := List.mem_append_left _ (List.mem_of_getElem? (i := 294) rfl)
theorem m_295 : Cond.fieldLink RX7 22 "TabledGoals$Walk" "plain" "[J" ∈ WS := List.mem_append_left _ (List.mem_of_getElem? (i := 295) rfl)
theorem m_296 : Cond.fieldLink RX7 26 "TabledGoals$Walk" "barred" "[J" ∈ WS := List.mem_append_left _ (List.mem_of_getElem? (i := 296) rfl)
theorem m_297 : Cond.code yX7_init cX7_init 4 none ∈ WS := List.mem_append_left _ (List.mem_of_getElem? (i := 297) rfl)
theorem m_298 : Cond.initialized RX7 ∈ WS := List.mem_append_left _ (List.mem_of_getElem? (i := 298) rfl)
theorem m_299 : Cond.instanceMethod yX7_init ∈ WS := List.mem_append_left _ (List.mem_of_getElem? (i := 299) rfl)
set_option maxRecDepth 100000 in
theorem m_300 : Cond.methodLink RX1 3 yX7_init ∈ WS := List.mem_append_left _ (List.mem_of_getElem? (i := 300) rfl)
set_option maxRecDepth 100000 in
theorem m_301 : Cond.methodLink RX2 3 objectInit ∈ WS := List.mem_append_left _ (List.mem_of_getElem? (i := 301) rfl)
set_option maxRecDepth 100000 in
theorem m_302 : Cond.arrayClass .long ∈ WS := List.mem_append_left _ (List.mem_of_getElem? (i := 302) rfl)
set_option maxRecDepth 100000 in
theorem m_303 : Cond.classLink RX2 25 RX1 ∈ WS := List.mem_append_left _ (List.mem_of_getElem? (i := 303) rfl)
set_option maxRecDepth 100000 in
theorem m_304 : Cond.instantiable RX1 7 ∈ WS := List.mem_append_left _ (List.mem_of_getElem? (i := 304) rfl)
set_option maxRecDepth 100000 in
theorem m_305 : Cond.code yX1_init cX1_init 4 none ∈ WS := List.mem_append_left _ (List.mem_of_getElem? (i := 305) rfl)
set_option maxRecDepth 100000 in
theorem m_306 : Cond.instanceMethod yX1_init ∈ WS := List.mem_append_left _ (List.mem_of_getElem? (i := 306) rfl)
set_option maxRecDepth 100000 in
theorem m_307 : Cond.methodLink RX2 27 yX1_init ∈ WS := List.mem_append_left _ (List.mem_of_getElem? (i := 307) rfl)
set_option maxRecDepth 100000 in
theorem m_308 : Cond.fieldLink RX8 3 "TabledGoals$Model" "possible" "[J" ∈ WS := List.mem_append_left _ (List.mem_of_getElem? (i := 308) rfl)
set_option maxRecDepth 100000 in
theorem m_309 : Cond.fieldLink RX8 9 "TabledGoals$Model" "truth" "[J" ∈ WS := List.mem_append_left _ (List.mem_of_getElem? (i := 309) rfl)
set_option maxRecDepth 100000 in
theorem m_310 : Cond.methodLink RX8 12 yX7_init ∈ WS := List.mem_append_left _ (List.mem_of_getElem? (i := 310) rfl)
set_option maxRecDepth 100000 in
theorem m_311 : Cond.fieldLink RX8 18 "TabledGoals$Weigher" "delayed" "[I" ∈ WS := List.mem_append_left _ (List.mem_of_getElem? (i := 311) rfl)
set_option maxRecDepth 100000 in
theorem m_312 : Cond.fieldLink RX8 24 "TabledGoals$Weigher" "model" "LTabledGoals$Model;" ∈ WS := List.mem_append_left _ (List.mem_of_getElem? (i := 312) rfl)
set_option maxRecDepth 100000 in
theorem m_313 : Cond.fieldLink RX0 3 "TabledGoals$Model" "possible" "[J" ∈ WS := List.mem_append_left _ (List.mem_of_getElem? (i := 313) rfl)
set_option maxRecDepth 100000 in
theorem m_314 : Cond.fieldLink RX0 9 "TabledGoals$Model" "truth" "[J" ∈ WS := List.mem_append_left _ (List.mem_of_getElem? (i := 314) rfl)
set_option maxRecDepth 100000 in
theorem m_315 : Cond.methodLink RX0 12 yX7_init ∈ WS := List.mem_append_left _ (List.mem_of_getElem? (i := 315) rfl)
set_option maxRecDepth 100000 in
theorem m_316 : Cond.fieldLink RX0 18 "TabledGoals$Caller" "keys" "[I" ∈ WS := List.mem_append_left _ (List.mem_of_getElem? (i := 316) rfl)
set_option maxRecDepth 100000 in
theorem m_317 : Cond.fieldLink RX0 24 "TabledGoals$Caller" "ways" "[I" ∈ WS := List.mem_append_left _ (List.mem_of_getElem? (i := 317) rfl)
set_option maxRecDepth 100000 in
theorem m_318 : Cond.methodLink RX6 3 objectInit ∈ WS := List.mem_append_left _ (List.mem_of_getElem? (i := 318) rfl)
set_option maxRecDepth 100000 in
theorem m_319 : Cond.fieldLink RX6 9 "TabledGoals$Tables" "completedOnes" "[I" ∈ WS := List.mem_append_left _ (List.mem_of_getElem? (i := 319) rfl)
set_option maxRecDepth 100000 in
theorem m_320 : Cond.classLink RX6 18 RX5 ∈ WS := List.mem_append_left _ (List.mem_of_getElem? (i := 320) rfl)
set_option maxRecDepth 100000 in
theorem m_321 : Cond.fieldLink RX6 20 "TabledGoals$Tables" "all" "[LTabledGoals$Table;" ∈ WS := List.mem_append_left _ (List.mem_of_getElem? (i := 321) rfl)
set_option maxRecDepth 100000 in
theorem m_322 : Cond.fieldLink RX6 24 "TabledGoals$Tables" "queue" "[I" ∈ WS := List.mem_append_left _ (List.mem_of_getElem? (i := 322) rfl)
set_option maxRecDepth 100000 in
theorem m_323 : Cond.arrayClass .boolean ∈ WS := List.mem_append_left _ (List.mem_of_getElem? (i := 323) rfl)
set_option maxRecDepth 100000 in
theorem m_324 : Cond.fieldLink RX6 27 "TabledGoals$Tables" "seen" "[Z" ∈ WS := List.mem_append_left _ (List.mem_of_getElem? (i := 324) rfl)
set_option maxRecDepth 100000 in
theorem m_325 : Cond.fieldLink RX6 31 "TabledGoals$Tables" "model" "LTabledGoals$Model;" ∈ WS := List.mem_append_left _ (List.mem_of_getElem? (i := 325) rfl)
set_option maxRecDepth 100000 in
theorem m_326 : Cond.classLink RX6 35 RX0 ∈ WS := List.mem_append_left _ (List.mem_of_getElem? (i := 326) rfl)
set_option maxRecDepth 100000 in
theorem m_327 : Cond.instantiable RX0 9 ∈ WS := List.mem_append_left _ (List.mem_of_getElem? (i := 327) rfl)
set_option maxRecDepth 100000 in
theorem m_328 : Cond.initialized RX0 ∈ WS := List.mem_append_left _ (List.mem_of_getElem? (i := 328) rfl)
set_option maxRecDepth 100000 in
theorem m_329 : Cond.code yX0_init cX0_init 3 none ∈ WS := List.mem_append_left _ (List.mem_of_getElem? (i := 329) rfl)
set_option maxRecDepth 100000 in
theorem m_330 : Cond.instanceMethod yX0_init ∈ WS := List.mem_append_left _ (List.mem_of_getElem? (i := 330) rfl)
set_option maxRecDepth 100000 in
theorem m_331 : Cond.methodLink RX6 37 yX0_init ∈ WS := List.mem_append_left _ (List.mem_of_getElem? (i := 331) rfl)
set_option maxRecDepth 100000 in
theorem m_332 : Cond.fieldLink RX6 40 "TabledGoals$Tables" "caller" "LTabledGoals$Caller;" ∈ WS := List.mem_append_left _ (List.mem_of_getElem? (i := 332) rfl)
set_option maxRecDepth 100000 in
theorem m_333 : Cond.methodLink RX9 3 objectInit ∈ WS := List.mem_append_left _ (List.mem_of_getElem? (i := 333) rfl)
set_option maxRecDepth 100000 in
theorem m_334 : Cond.classLink RX9 20 RX3 ∈ WS := List.mem_append_left _ (List.mem_of_getElem? (i := 334) rfl)
set_option maxRecDepth 100000 in
theorem m_335 : Cond.instantiable RX3 9 ∈ WS := List.mem_append_left _ (List.mem_of_getElem? (i := 335) rfl)
set_option maxRecDepth 100000 in
theorem m_336 : Cond.code yX3_init cX3_init 1 none ∈ WS := List.mem_append_left _ (List.mem_of_getElem? (i := 336) rfl)
set_option maxRecDepth 100000 in
theorem m_337 : Cond.instanceMethod yX3_init ∈ WS := List.mem_append_left _ (List.mem_of_getElem? (i := 337) rfl)
set_option maxRecDepth 100000 in
theorem m_338 : Cond.classLink RX9 30 RX2 ∈ WS := List.mem_append_left _ (List.mem_of_getElem? (i := 338) rfl)
set_option maxRecDepth 100000 in
theorem m_339 : Cond.instantiable RX2 7 ∈ WS := List.mem_append_left _ (List.mem_of_getElem? (i := 339) rfl)
set_option maxRecDepth 100000 in
theorem m_340 : Cond.code yX2_init cX2_init 2 none ∈ WS := List.mem_append_left _ (List.mem_of_getElem? (i := 340) rfl)
set_option maxRecDepth 100000 in
theorem m_341 : Cond.instanceMethod yX2_init ∈ WS := List.mem_append_left _ (List.mem_of_getElem? (i := 341) rfl)
set_option maxRecDepth 100000 in
theorem m_342 : Cond.methodLink RX9 32 yX2_init ∈ WS := List.mem_append_left _ (List.mem_of_getElem? (i := 342) rfl)
set_option maxRecDepth 100000 in
theorem m_343 : Cond.classLink RX9 39 RX8 ∈ WS := List.mem_append_left _ (List.mem_of_getElem? (i := 343) rfl)
set_option maxRecDepth 100000 in
theorem m_344 : Cond.instantiable RX8 12 ∈ WS := List.mem_append_left _ (List.mem_of_getElem? (i := 344) rfl)
set_option maxRecDepth 100000 in
theorem m_345 : Cond.initialized RX8 ∈ WS := List.mem_append_left _ (List.mem_of_getElem? (i := 345) rfl)
set_option maxRecDepth 100000 in
theorem m_346 : Cond.code yX8_init cX8_init 3 none ∈ WS := List.mem_append_left _ (List.mem_of_getElem? (i := 346) rfl)
set_option maxRecDepth 100000 in
theorem m_347 : Cond.instanceMethod yX8_init ∈ WS := List.mem_append_left _ (List.mem_of_getElem? (i := 347) rfl)
set_option maxRecDepth 100000 in
theorem m_348 : Cond.methodLink RX9 41 yX8_init ∈ WS := List.mem_append_left _ (List.mem_of_getElem? (i := 348) rfl)
set_option maxRecDepth 100000 in
theorem m_349 : Cond.fieldLink RX9 44 "TabledGoals" "weigher" "LTabledGoals$Weigher;" ∈ WS := List.mem_append_left _ (List.mem_of_getElem? (i := 349) rfl)
set_option maxRecDepth 100000 in
theorem m_350 : Cond.classLink RX9 48 RX6 ∈ WS := List.mem_append_left _ (List.mem_of_getElem? (i := 350) rfl)
set_option maxRecDepth 100000 in
theorem m_351 : Cond.instantiable RX6 14 ∈ WS := List.mem_append_left _ (List.mem_of_getElem? (i := 351) rfl)
set_option maxRecDepth 100000 in
theorem m_352 : Cond.code yX6_init cX6_init 3 none ∈ WS := List.mem_append_left _ (List.mem_of_getElem? (i := 352) rfl)
set_option maxRecDepth 100000 in
theorem m_353 : Cond.instanceMethod yX6_init ∈ WS := List.mem_append_left _ (List.mem_of_getElem? (i := 353) rfl)
set_option maxRecDepth 100000 in
theorem m_354 : Cond.methodLink RX9 50 yX6_init ∈ WS := List.mem_append_left _ (List.mem_of_getElem? (i := 354) rfl)
set_option maxRecDepth 100000 in
theorem m_355 : Cond.methodLink RX10 1 objectInit ∈ WS := List.mem_append_left _ (List.mem_of_getElem? (i := 355) rfl)
set_option maxRecDepth 100000 in
theorem m_356 : Cond.fieldLink RX10 26 "TabledGoalsModel" "is" "[I" ∈ WS := List.mem_append_left _ (List.mem_of_getElem? (i := 356) rfl)
set_option maxRecDepth 100000 in
theorem m_357 : Cond.fieldLink RX10 45 "TabledGoalsModel" "stratum" "[I" ∈ WS := List.mem_append_left _ (List.mem_of_getElem? (i := 357) rfl)
set_option maxRecDepth 100000 in
theorem m_358 : Cond.arrayClass .byte ∈ WS := List.mem_append_left _ (List.mem_of_getElem? (i := 358) rfl)
set_option maxRecDepth 100000 in
theorem m_359 : Cond.fieldLink RX10 52 "TabledGoalsModel" "text" "[B" ∈ WS := List.mem_append_left _ (List.mem_of_getElem? (i := 359) rfl)
set_option maxRecDepth 100000 in
theorem m_360 : Cond.fieldLink RX10 71 "TabledGoalsModel" "name" "[I" ∈ WS := List.mem_append_left _ (List.mem_of_getElem? (i := 360) rfl)
set_option maxRecDepth 100000 in
theorem m_361 : Cond.fieldLink RX10 74 "TabledGoalsModel" "isBound" "[Z" ∈ WS := List.mem_append_left _ (List.mem_of_getElem? (i := 361) rfl)
set_option maxRecDepth 100000 in
theorem m_362 : Cond.fieldLink RX10 77 "TabledGoalsModel" "placeOf" "[I" ∈ WS := List.mem_append_left _ (List.mem_of_getElem? (i := 362) rfl)
set_option maxRecDepth 100000 in
theorem m_363 : Cond.fieldLink RX10 80 "TabledGoalsModel" "called" "[I" ∈ WS := List.mem_append_left _ (List.mem_of_getElem? (i := 363) rfl)
set_option maxRecDepth 100000 in
theorem m_364 : Cond.fieldLink RX10 83 "TabledGoalsModel" "how" "[I" ∈ WS := List.mem_append_left _ (List.mem_of_getElem? (i := 364) rfl)
set_option maxRecDepth 100000 in
theorem m_365 : Cond.fieldLink RX10 86 "TabledGoalsModel" "way" "[I" ∈ WS := List.mem_append_left _ (List.mem_of_getElem? (i := 365) rfl)
set_option maxRecDepth 100000 in
theorem m_366 : Cond.fieldLink RX10 89 "TabledGoalsModel" "bound" "[I" ∈ WS := List.mem_append_left _ (List.mem_of_getElem? (i := 366) rfl)
set_option maxRecDepth 100000 in
theorem m_367 : Cond.fieldLink RX10 92 "TabledGoalsModel" "alike" "[I" ∈ WS := List.mem_append_left _ (List.mem_of_getElem? (i := 367) rfl)
set_option maxRecDepth 100000 in
theorem m_368 : Cond.fieldLink RX10 95 "TabledGoalsModel" "goalOf" "[I" ∈ WS := List.mem_append_left _ (List.mem_of_getElem? (i := 368) rfl)
set_option maxRecDepth 100000 in
theorem m_369 : Cond.fieldLink RX10 101 "TabledGoalsModel" "went" "[I" ∈ WS := List.mem_append_left _ (List.mem_of_getElem? (i := 369) rfl)
set_option maxRecDepth 100000 in
theorem m_370 : Cond.fieldLink RX10 104 "TabledGoalsModel" "hitsOf" "[I" ∈ WS := List.mem_append_left _ (List.mem_of_getElem? (i := 370) rfl)
set_option maxRecDepth 100000 in
theorem m_371 : Cond.fieldLink RX10 107 "TabledGoalsModel" "madeOf" "[I" ∈ WS := List.mem_append_left _ (List.mem_of_getElem? (i := 371) rfl)
set_option maxRecDepth 100000 in
theorem m_372 : Cond.fieldLink RX10 110 "TabledGoalsModel" "isFresh" "[Z" ∈ WS := List.mem_append_left _ (List.mem_of_getElem? (i := 372) rfl)
set_option maxRecDepth 100000 in
theorem m_373 : Cond.constant RX10 113 (672400) ∈ WS := List.mem_append_left _ (List.mem_of_getElem? (i := 373) rfl)
set_option maxRecDepth 100000 in
theorem m_374 : Cond.arrayClass .short ∈ WS := List.mem_append_left _ (List.mem_of_getElem? (i := 374) rfl)
set_option maxRecDepth 100000 in
theorem m_375 : Cond.fieldLink RX10 114 "TabledGoalsModel" "callRow" "[S" ∈ WS := List.mem_append_left _ (List.mem_of_getElem? (i := 375) rfl)
set_option maxRecDepth 100000 in
theorem m_376 : Cond.fieldLink RX10 118 "TabledGoalsModel" "callHow" "[B" ∈ WS := List.mem_append_left _ (List.mem_of_getElem? (i := 376) rfl)
set_option maxRecDepth 100000 in
theorem m_377 : Cond.fieldLink RX10 121 "TabledGoalsModel" "callMany" "[I" ∈ WS := List.mem_append_left _ (List.mem_of_getElem? (i := 377) rfl)
set_option maxRecDepth 100000 in
theorem m_378 : Cond.constant RX10 124 (52480) ∈ WS := List.mem_append_left _ (List.mem_of_getElem? (i := 378) rfl)
set_option maxRecDepth 100000 in
theorem m_379 : Cond.fieldLink RX10 125 "TabledGoalsModel" "answers" "[B" ∈ WS := List.mem_append_left _ (List.mem_of_getElem? (i := 379) rfl)
set_option maxRecDepth 100000 in
theorem m_380 : Cond.fieldLink RX10 128 "TabledGoalsModel" "open" "[I" ∈ WS := List.mem_append_left _ (List.mem_of_getElem? (i := 380) rfl)
set_option maxRecDepth 100000 in
theorem m_381 : Cond.fieldLink RX10 131 "TabledGoalsModel" "done" "[I" ∈ WS := List.mem_append_left _ (List.mem_of_getElem? (i := 381) rfl)
set_option maxRecDepth 100000 in
theorem m_382 : Cond.fieldLink RX10 134 "TabledGoalsModel" "left" "[I" ∈ WS := List.mem_append_left _ (List.mem_of_getElem? (i := 382) rfl)
set_option maxRecDepth 100000 in
theorem m_383 : Cond.fieldLink RX10 137 "TabledGoalsModel" "leftAt" "[I" ∈ WS := List.mem_append_left _ (List.mem_of_getElem? (i := 383) rfl)
set_option maxRecDepth 100000 in
theorem m_384 : Cond.fieldLink RX10 140 "TabledGoalsModel" "finished" "[I" ∈ WS := List.mem_append_left _ (List.mem_of_getElem? (i := 384) rfl)
set_option maxRecDepth 100000 in
theorem m_385 : Cond.fieldLink RX10 143 "TabledGoalsModel" "comeTo" "[Z" ∈ WS := List.mem_append_left _ (List.mem_of_getElem? (i := 385) rfl)
set_option maxRecDepth 100000 in
theorem m_386 : Cond.fieldLink RX10 146 "TabledGoalsModel" "row" "[I" ∈ WS := List.mem_append_left _ (List.mem_of_getElem? (i := 386) rfl)
set_option maxRecDepth 100000 in
theorem m_387 : Cond.fieldLink RX10 149 "TabledGoalsModel" "leader" "[I" ∈ WS := List.mem_append_left _ (List.mem_of_getElem? (i := 387) rfl)
set_option maxRecDepth 100000 in
theorem m_388 : Cond.fieldLink RX10 152 "TabledGoalsModel" "hither" "[Z" ∈ WS := List.mem_append_left _ (List.mem_of_getElem? (i := 388) rfl)
set_option maxRecDepth 100000 in
theorem m_389 : Cond.fieldLink RX10 155 "TabledGoalsModel" "delays" "[I" ∈ WS := List.mem_append_left _ (List.mem_of_getElem? (i := 389) rfl)
set_option maxRecDepth 100000 in
theorem m_390 : Cond.fieldLink RX10 158 "TabledGoalsModel" "reached" "[I" ∈ WS := List.mem_append_left _ (List.mem_of_getElem? (i := 390) rfl)
set_option maxRecDepth 100000 in
theorem m_391 : Cond.fieldLink RX10 161 "TabledGoalsModel" "isReached" "[Z" ∈ WS := List.mem_append_left _ (List.mem_of_getElem? (i := 391) rfl)
set_option maxRecDepth 100000 in
theorem m_392 : Cond.code yX9_text cX9_text 5 (some .int) ∈ WS := List.mem_append_left _ (List.mem_of_getElem? (i := 392) rfl)
set_option maxRecDepth 100000 in
theorem m_393 : Cond.methodLink RL 7 yX9_text ∈ WS := List.mem_append_left _ (List.mem_of_getElem? (i := 393) rfl)
set_option maxRecDepth 100000 in
theorem m_394 : Cond.instanceMethod yX9_text ∈ WS := List.mem_append_left _ (List.mem_of_getElem? (i := 394) rfl)
set_option maxRecDepth 100000 in
theorem m_395 : Cond.selects RX9 yX9_text yX9_text ∈ WS := List.mem_append_left _ (List.mem_of_getElem? (i := 395) rfl)
set_option maxRecDepth 100000 in
theorem m_396 : Cond.classLink RL 13 iae ∈ WS := List.mem_append_left _ (List.mem_of_getElem? (i := 396) rfl)
set_option maxRecDepth 100000 in
theorem m_397 : Cond.code yX9_assume cX9_assume 4 (some .int) ∈ WS := List.mem_append_left _ (List.mem_of_getElem? (i := 397) rfl)
set_option maxRecDepth 100000 in
theorem m_398 : Cond.methodLink RL 15 yX9_assume ∈ WS := List.mem_append_left _ (List.mem_of_getElem? (i := 398) rfl)
set_option maxRecDepth 100000 in
theorem m_399 : Cond.instanceMethod yX9_assume ∈ WS := List.mem_append_left _ (List.mem_of_getElem? (i := 399) rfl)
set_option maxRecDepth 100000 in
theorem m_400 : Cond.selects RX9 yX9_assume yX9_assume ∈ WS := List.mem_append_left _ (List.mem_of_getElem? (i := 400) rfl)
set_option maxRecDepth 100000 in
theorem m_401 : Cond.classLink RL 19 nse ∈ WS := List.mem_append_left _ (List.mem_of_getElem? (i := 401) rfl)
set_option maxRecDepth 100000 in
theorem m_402 : Cond.code yX9_retract cX9_retract 5 (some .int) ∈ WS := List.mem_append_left _ (List.mem_of_getElem? (i := 402) rfl)
set_option maxRecDepth 100000 in
theorem m_403 : Cond.methodLink RL 23 yX9_retract ∈ WS := List.mem_append_left _ (List.mem_of_getElem? (i := 403) rfl)
set_option maxRecDepth 100000 in
theorem m_404 : Cond.instanceMethod yX9_retract ∈ WS := List.mem_append_left _ (List.mem_of_getElem? (i := 404) rfl)
set_option maxRecDepth 100000 in
theorem m_405 : Cond.selects RX9 yX9_retract yX9_retract ∈ WS := List.mem_append_left _ (List.mem_of_getElem? (i := 405) rfl)
set_option maxRecDepth 100000 in
theorem m_406 : Cond.code yX9_ask cX9_ask 4 (some .int) ∈ WS := List.mem_append_left _ (List.mem_of_getElem? (i := 406) rfl)
set_option maxRecDepth 100000 in
theorem m_407 : Cond.methodLink RL 26 yX9_ask ∈ WS := List.mem_append_left _ (List.mem_of_getElem? (i := 407) rfl)
set_option maxRecDepth 100000 in
theorem m_408 : Cond.instanceMethod yX9_ask ∈ WS := List.mem_append_left _ (List.mem_of_getElem? (i := 408) rfl)
set_option maxRecDepth 100000 in
theorem m_409 : Cond.selects RX9 yX9_ask yX9_ask ∈ WS := List.mem_append_left _ (List.mem_of_getElem? (i := 409) rfl)
set_option maxRecDepth 100000 in
theorem m_410 : Cond.code yX9_value cX9_value 4 (some .int) ∈ WS := List.mem_append_left _ (List.mem_of_getElem? (i := 410) rfl)
set_option maxRecDepth 100000 in
theorem m_411 : Cond.methodLink RL 45 yX9_value ∈ WS := List.mem_append_left _ (List.mem_of_getElem? (i := 411) rfl)
set_option maxRecDepth 100000 in
theorem m_412 : Cond.instanceMethod yX9_value ∈ WS := List.mem_append_left _ (List.mem_of_getElem? (i := 412) rfl)
set_option maxRecDepth 100000 in
theorem m_413 : Cond.selects RX9 yX9_value yX9_value ∈ WS := List.mem_append_left _ (List.mem_of_getElem? (i := 413) rfl)
set_option maxRecDepth 100000 in
theorem m_414 : Cond.code yX9_stage cX9_stage 4 (some .int) ∈ WS := List.mem_append_left _ (List.mem_of_getElem? (i := 414) rfl)
set_option maxRecDepth 100000 in
theorem m_415 : Cond.methodLink RL 48 yX9_stage ∈ WS := List.mem_append_left _ (List.mem_of_getElem? (i := 415) rfl)
set_option maxRecDepth 100000 in
theorem m_416 : Cond.instanceMethod yX9_stage ∈ WS := List.mem_append_left _ (List.mem_of_getElem? (i := 416) rfl)
set_option maxRecDepth 100000 in
theorem m_417 : Cond.selects RX9 yX9_stage yX9_stage ∈ WS := List.mem_append_left _ (List.mem_of_getElem? (i := 417) rfl)
set_option maxRecDepth 100000 in
theorem m_418 : Cond.code yX9_find cX9_find 4 (some .int) ∈ WS := List.mem_append_left _ (List.mem_of_getElem? (i := 418) rfl)
set_option maxRecDepth 100000 in
theorem m_419 : Cond.methodLink RL 51 yX9_find ∈ WS := List.mem_append_left _ (List.mem_of_getElem? (i := 419) rfl)
set_option maxRecDepth 100000 in
theorem m_420 : Cond.instanceMethod yX9_find ∈ WS := List.mem_append_left _ (List.mem_of_getElem? (i := 420) rfl)
set_option maxRecDepth 100000 in
theorem m_421 : Cond.selects RX9 yX9_find yX9_find ∈ WS := List.mem_append_left _ (List.mem_of_getElem? (i := 421) rfl)
set_option maxRecDepth 100000 in
theorem m_422 : Cond.code yX9_reach cX9_reach 4 (some .int) ∈ WS := List.mem_append_left _ (List.mem_of_getElem? (i := 422) rfl)
set_option maxRecDepth 100000 in
theorem m_423 : Cond.methodLink RL 67 yX9_reach ∈ WS := List.mem_append_left _ (List.mem_of_getElem? (i := 423) rfl)
set_option maxRecDepth 100000 in
theorem m_424 : Cond.instanceMethod yX9_reach ∈ WS := List.mem_append_left _ (List.mem_of_getElem? (i := 424) rfl)
set_option maxRecDepth 100000 in
theorem m_425 : Cond.selects RX9 yX9_reach yX9_reach ∈ WS := List.mem_append_left _ (List.mem_of_getElem? (i := 425) rfl)
set_option maxRecDepth 100000 in
theorem m_426 : Cond.code yX9_condition cX9_condition 6 (some .int) ∈ WS := List.mem_append_left _ (List.mem_of_getElem? (i := 426) rfl)
set_option maxRecDepth 100000 in
theorem m_427 : Cond.methodLink RL 63 yX9_condition ∈ WS := List.mem_append_left _ (List.mem_of_getElem? (i := 427) rfl)
set_option maxRecDepth 100000 in
theorem m_428 : Cond.instanceMethod yX9_condition ∈ WS := List.mem_append_left _ (List.mem_of_getElem? (i := 428) rfl)
set_option maxRecDepth 100000 in
theorem m_429 : Cond.selects RX9 yX9_condition yX9_condition ∈ WS := List.mem_append_left _ (List.mem_of_getElem? (i := 429) rfl)
set_option maxRecDepth 100000 in
theorem m_430 : Cond.code yX9_predicate cX9_predicate 3 (some .int) ∈ WS := List.mem_append_left _ (List.mem_of_getElem? (i := 430) rfl)
set_option maxRecDepth 100000 in
theorem m_431 : Cond.methodLink RL 32 yX9_predicate ∈ WS := List.mem_append_left _ (List.mem_of_getElem? (i := 431) rfl)
set_option maxRecDepth 100000 in
theorem m_432 : Cond.instanceMethod yX9_predicate ∈ WS := List.mem_append_left _ (List.mem_of_getElem? (i := 432) rfl)
set_option maxRecDepth 100000 in
theorem m_433 : Cond.selects RX9 yX9_predicate yX9_predicate ∈ WS := List.mem_append_left _ (List.mem_of_getElem? (i := 433) rfl)
set_option maxRecDepth 100000 in
theorem m_434 : Cond.code yX9_clause cX9_clause 4 (some .int) ∈ WS := List.mem_append_left _ (List.mem_of_getElem? (i := 434) rfl)
set_option maxRecDepth 100000 in
theorem m_435 : Cond.methodLink RL 39 yX9_clause ∈ WS := List.mem_append_left _ (List.mem_of_getElem? (i := 435) rfl)
set_option maxRecDepth 100000 in
theorem m_436 : Cond.instanceMethod yX9_clause ∈ WS := List.mem_append_left _ (List.mem_of_getElem? (i := 436) rfl)
set_option maxRecDepth 100000 in
theorem m_437 : Cond.selects RX9 yX9_clause yX9_clause ∈ WS := List.mem_append_left _ (List.mem_of_getElem? (i := 437) rfl)
set_option maxRecDepth 100000 in
theorem m_438 : Cond.code yX9_literals cX9_literals 2 (some .int) ∈ WS := List.mem_append_left _ (List.mem_of_getElem? (i := 438) rfl)
set_option maxRecDepth 100000 in
theorem m_439 : Cond.methodLink RL 42 yX9_literals ∈ WS := List.mem_append_left _ (List.mem_of_getElem? (i := 439) rfl)
set_option maxRecDepth 100000 in
theorem m_440 : Cond.instanceMethod yX9_literals ∈ WS := List.mem_append_left _ (List.mem_of_getElem? (i := 440) rfl)
set_option maxRecDepth 100000 in
theorem m_441 : Cond.selects RX9 yX9_literals yX9_literals ∈ WS := List.mem_append_left _ (List.mem_of_getElem? (i := 441) rfl)
set_option maxRecDepth 100000 in
theorem m_442 : Cond.code yX9_table cX9_table 4 (some .int) ∈ WS := List.mem_append_left _ (List.mem_of_getElem? (i := 442) rfl)
set_option maxRecDepth 100000 in
theorem m_443 : Cond.methodLink RL 54 yX9_table ∈ WS := List.mem_append_left _ (List.mem_of_getElem? (i := 443) rfl)
set_option maxRecDepth 100000 in
theorem m_444 : Cond.instanceMethod yX9_table ∈ WS := List.mem_append_left _ (List.mem_of_getElem? (i := 444) rfl)
set_option maxRecDepth 100000 in
theorem m_445 : Cond.selects RX9 yX9_table yX9_table ∈ WS := List.mem_append_left _ (List.mem_of_getElem? (i := 445) rfl)
set_option maxRecDepth 100000 in
theorem m_446 : Cond.code yX9_calls cX9_calls 5 (some .int) ∈ WS := List.mem_append_left _ (List.mem_of_getElem? (i := 446) rfl)
set_option maxRecDepth 100000 in
theorem m_447 : Cond.methodLink RL 57 yX9_calls ∈ WS := List.mem_append_left _ (List.mem_of_getElem? (i := 447) rfl)
set_option maxRecDepth 100000 in
theorem m_448 : Cond.instanceMethod yX9_calls ∈ WS := List.mem_append_left _ (List.mem_of_getElem? (i := 448) rfl)
set_option maxRecDepth 100000 in
theorem m_449 : Cond.selects RX9 yX9_calls yX9_calls ∈ WS := List.mem_append_left _ (List.mem_of_getElem? (i := 449) rfl)
set_option maxRecDepth 100000 in
theorem m_450 : Cond.code yX9_answer cX9_answer 8 (some .int) ∈ WS := List.mem_append_left _ (List.mem_of_getElem? (i := 450) rfl)
set_option maxRecDepth 100000 in
theorem m_451 : Cond.methodLink RL 60 yX9_answer ∈ WS := List.mem_append_left _ (List.mem_of_getElem? (i := 451) rfl)
set_option maxRecDepth 100000 in
theorem m_452 : Cond.instanceMethod yX9_answer ∈ WS := List.mem_append_left _ (List.mem_of_getElem? (i := 452) rfl)
set_option maxRecDepth 100000 in
theorem m_453 : Cond.selects RX9 yX9_answer yX9_answer ∈ WS := List.mem_append_left _ (List.mem_of_getElem? (i := 453) rfl)
set_option maxRecDepth 100000 in
theorem m_454 : Cond.code yX9_told cX9_told 2 (some .int) ∈ WS := List.mem_append_left _ (List.mem_of_getElem? (i := 454) rfl)
set_option maxRecDepth 100000 in
theorem m_455 : Cond.methodLink RL 29 yX9_told ∈ WS := List.mem_append_left _ (List.mem_of_getElem? (i := 455) rfl)
set_option maxRecDepth 100000 in
theorem m_456 : Cond.instanceMethod yX9_told ∈ WS := List.mem_append_left _ (List.mem_of_getElem? (i := 456) rfl)
set_option maxRecDepth 100000 in
theorem m_457 : Cond.selects RX9 yX9_told yX9_told ∈ WS := List.mem_append_left _ (List.mem_of_getElem? (i := 457) rfl)
set_option maxRecDepth 100000 in
theorem m_458 : Cond.code yX9_nameAt cX9_nameAt 5 (some .int) ∈ WS := List.mem_append_left _ (List.mem_of_getElem? (i := 458) rfl)
set_option maxRecDepth 100000 in
theorem m_459 : Cond.methodLink RL 36 yX9_nameAt ∈ WS := List.mem_append_left _ (List.mem_of_getElem? (i := 459) rfl)
set_option maxRecDepth 100000 in
theorem m_460 : Cond.instanceMethod yX9_nameAt ∈ WS := List.mem_append_left _ (List.mem_of_getElem? (i := 460) rfl)
set_option maxRecDepth 100000 in
theorem m_461 : Cond.selects RX9 yX9_nameAt yX9_nameAt ∈ WS := List.mem_append_left _ (List.mem_of_getElem? (i := 461) rfl)
set_option maxRecDepth 100000 in
theorem m_462 : Cond.code yX9_feed cX9_feed 6 (some .int) ∈ WS := List.mem_append_left _ (List.mem_of_getElem? (i := 462) rfl)
set_option maxRecDepth 100000 in
theorem m_463 : Cond.methodLink RL 74 yX9_feed ∈ WS := List.mem_append_left _ (List.mem_of_getElem? (i := 463) rfl)
set_option maxRecDepth 100000 in
theorem m_464 : Cond.instanceMethod yX9_feed ∈ WS := List.mem_append_left _ (List.mem_of_getElem? (i := 464) rfl)
set_option maxRecDepth 100000 in
theorem m_465 : Cond.selects RX9 yX9_feed yX9_feed ∈ WS := List.mem_append_left _ (List.mem_of_getElem? (i := 465) rfl)
set_option maxRecDepth 100000 in
theorem m_466 : Cond.code yX10_feed cX10_feed 6 (some .int) ∈ WS := List.mem_append_left _ (List.mem_of_getElem? (i := 466) rfl)
set_option maxRecDepth 100000 in
theorem m_467 : Cond.methodLink RL 77 yX10_feed ∈ WS := List.mem_append_left _ (List.mem_of_getElem? (i := 467) rfl)
set_option maxRecDepth 100000 in
theorem m_468 : Cond.instanceMethod yX10_feed ∈ WS := List.mem_append_left _ (List.mem_of_getElem? (i := 468) rfl)
set_option maxRecDepth 100000 in
theorem m_469 : Cond.selects RX10 yX10_feed yX10_feed ∈ WS := List.mem_append_left _ (List.mem_of_getElem? (i := 469) rfl)
set_option maxRecDepth 100000 in
theorem m_470 : Cond.codeWith yL_text cL_text 4 (some .int) [(0, 9, 12, 13)] ∈ WS := List.mem_append_left _ (List.mem_of_getElem? (i := 470) rfl)
set_option maxRecDepth 100000 in
theorem m_471 : Cond.initialized RL ∈ WS := List.mem_append_left _ (List.mem_of_getElem? (i := 471) rfl)
set_option maxRecDepth 100000 in
theorem m_472 : Cond.methodLink RL 78 yL_text ∈ WS := List.mem_append_left _ (List.mem_of_getElem? (i := 472) rfl)
set_option maxRecDepth 100000 in
theorem m_473 : Cond.static yL_text ∈ WS := List.mem_append_left _ (List.mem_of_getElem? (i := 473) rfl)
set_option maxRecDepth 100000 in
theorem m_474 : Cond.code yX10_text cX10_text 3 (some .int) ∈ WS := List.mem_append_left _ (List.mem_of_getElem? (i := 474) rfl)
set_option maxRecDepth 100000 in
theorem m_475 : Cond.methodLink RL 83 yX10_text ∈ WS := List.mem_append_left _ (List.mem_of_getElem? (i := 475) rfl)
set_option maxRecDepth 100000 in
theorem m_476 : Cond.instanceMethod yX10_text ∈ WS := List.mem_append_left _ (List.mem_of_getElem? (i := 476) rfl)
set_option maxRecDepth 100000 in
theorem m_477 : Cond.selects RX10 yX10_text yX10_text ∈ WS := List.mem_append_left _ (List.mem_of_getElem? (i := 477) rfl)
set_option maxRecDepth 100000 in
theorem m_478 : Cond.code yX10_thrown cX10_thrown 1 (some .int) ∈ WS := List.mem_append_left _ (List.mem_of_getElem? (i := 478) rfl)
set_option maxRecDepth 100000 in
theorem m_479 : Cond.methodLink RL 84 yX10_thrown ∈ WS := List.mem_append_left _ (List.mem_of_getElem? (i := 479) rfl)
set_option maxRecDepth 100000 in
theorem m_480 : Cond.instanceMethod yX10_thrown ∈ WS := List.mem_append_left _ (List.mem_of_getElem? (i := 480) rfl)
set_option maxRecDepth 100000 in
theorem m_481 : Cond.selects RX10 yX10_thrown yX10_thrown ∈ WS := List.mem_append_left _ (List.mem_of_getElem? (i := 481) rfl)
set_option maxRecDepth 100000 in
theorem m_482 : Cond.code yX9_fault cX9_fault 1 (some .int) ∈ WS := List.mem_append_left _ (List.mem_of_getElem? (i := 482) rfl)
set_option maxRecDepth 100000 in
theorem m_483 : Cond.methodLink RL 88 yX9_fault ∈ WS := List.mem_append_left _ (List.mem_of_getElem? (i := 483) rfl)
set_option maxRecDepth 100000 in
theorem m_484 : Cond.instanceMethod yX9_fault ∈ WS := List.mem_append_left _ (List.mem_of_getElem? (i := 484) rfl)
set_option maxRecDepth 100000 in
theorem m_485 : Cond.selects RX9 yX9_fault yX9_fault ∈ WS := List.mem_append_left _ (List.mem_of_getElem? (i := 485) rfl)
set_option maxRecDepth 100000 in
theorem m_486 : Cond.code yX10_fault cX10_fault 1 (some .int) ∈ WS := List.mem_append_left _ (List.mem_of_getElem? (i := 486) rfl)
set_option maxRecDepth 100000 in
theorem m_487 : Cond.methodLink RL 91 yX10_fault ∈ WS := List.mem_append_left _ (List.mem_of_getElem? (i := 487) rfl)
set_option maxRecDepth 100000 in
theorem m_488 : Cond.instanceMethod yX10_fault ∈ WS := List.mem_append_left _ (List.mem_of_getElem? (i := 488) rfl)
set_option maxRecDepth 100000 in
theorem m_489 : Cond.selects RX10 yX10_fault yX10_fault ∈ WS := List.mem_append_left _ (List.mem_of_getElem? (i := 489) rfl)
set_option maxRecDepth 100000 in
theorem m_490 : Cond.codeWith yL_assume cL_assume 6 (some .int) [(0, 12, 15, 19), (0, 12, 19, 13), (0, 12, 23, 21)] ∈ WS := List.mem_append_left _ (List.mem_of_getElem? (i := 490) rfl)
set_option maxRecDepth 100000 in
theorem m_491 : Cond.methodLink RL 92 yL_assume ∈ WS := List.mem_append_left _ (List.mem_of_getElem? (i := 491) rfl)
set_option maxRecDepth 100000 in
theorem m_492 : Cond.static yL_assume ∈ WS := List.mem_append_left _ (List.mem_of_getElem? (i := 492) rfl)
set_option maxRecDepth 100000 in
theorem m_493 : Cond.code yX10_assume cX10_assume 5 (some .int) ∈ WS := List.mem_append_left _ (List.mem_of_getElem? (i := 493) rfl)
set_option maxRecDepth 100000 in
theorem m_494 : Cond.methodLink RL 95 yX10_assume ∈ WS := List.mem_append_left _ (List.mem_of_getElem? (i := 494) rfl)
set_option maxRecDepth 100000 in
theorem m_495 : Cond.instanceMethod yX10_assume ∈ WS := List.mem_append_left _ (List.mem_of_getElem? (i := 495) rfl)
set_option maxRecDepth 100000 in
theorem m_496 : Cond.selects RX10 yX10_assume yX10_assume ∈ WS := List.mem_append_left _ (List.mem_of_getElem? (i := 496) rfl)
set_option maxRecDepth 100000 in
theorem m_497 : Cond.codeWith yL_retract cL_retract 6 (some .int) [(0, 12, 15, 19), (0, 12, 19, 13)] ∈ WS := List.mem_append_left _ (List.mem_of_getElem? (i := 497) rfl)
set_option maxRecDepth 100000 in
theorem m_498 : Cond.methodLink RL 96 yL_retract ∈ WS := List.mem_append_left _ (List.mem_of_getElem? (i := 498) rfl)
set_option maxRecDepth 100000 in
theorem m_499 : Cond.static yL_retract ∈ WS := List.mem_append_left _ (List.mem_of_getElem? (i := 499) rfl)
set_option maxRecDepth 100000 in
theorem m_500 : Cond.code yX10_retract cX10_retract 6 (some .int) ∈ WS := List.mem_append_left _ (List.mem_of_getElem? (i := 500) rfl)
set_option maxRecDepth 100000 in
theorem m_501 : Cond.methodLink RL 98 yX10_retract ∈ WS := List.mem_append_left _ (List.mem_of_getElem? (i := 501) rfl)
set_option maxRecDepth 100000 in
theorem m_502 : Cond.instanceMethod yX10_retract ∈ WS := List.mem_append_left _ (List.mem_of_getElem? (i := 502) rfl)
set_option maxRecDepth 100000 in
theorem m_503 : Cond.selects RX10 yX10_retract yX10_retract ∈ WS := List.mem_append_left _ (List.mem_of_getElem? (i := 503) rfl)
set_option maxRecDepth 100000 in
theorem m_504 : Cond.codeWith yL_ask cL_ask 6 (some .int) [(0, 12, 15, 19), (0, 12, 19, 13)] ∈ WS := List.mem_append_left _ (List.mem_of_getElem? (i := 504) rfl)
set_option maxRecDepth 100000 in
theorem m_505 : Cond.methodLink RL 99 yL_ask ∈ WS := List.mem_append_left _ (List.mem_of_getElem? (i := 505) rfl)
set_option maxRecDepth 100000 in
theorem m_506 : Cond.static yL_ask ∈ WS := List.mem_append_left _ (List.mem_of_getElem? (i := 506) rfl)
set_option maxRecDepth 100000 in
theorem m_507 : Cond.code yX10_ask cX10_ask 5 (some .int) ∈ WS := List.mem_append_left _ (List.mem_of_getElem? (i := 507) rfl)
set_option maxRecDepth 100000 in
theorem m_508 : Cond.methodLink RL 101 yX10_ask ∈ WS := List.mem_append_left _ (List.mem_of_getElem? (i := 508) rfl)
set_option maxRecDepth 100000 in
theorem m_509 : Cond.instanceMethod yX10_ask ∈ WS := List.mem_append_left _ (List.mem_of_getElem? (i := 509) rfl)
set_option maxRecDepth 100000 in
theorem m_510 : Cond.selects RX10 yX10_ask yX10_ask ∈ WS := List.mem_append_left _ (List.mem_of_getElem? (i := 510) rfl)
set_option maxRecDepth 100000 in
theorem m_511 : Cond.code yX9_abolish cX9_abolish 2 (some .int) ∈ WS := List.mem_append_left _ (List.mem_of_getElem? (i := 511) rfl)
set_option maxRecDepth 100000 in
theorem m_512 : Cond.methodLink RL 102 yX9_abolish ∈ WS := List.mem_append_left _ (List.mem_of_getElem? (i := 512) rfl)
set_option maxRecDepth 100000 in
theorem m_513 : Cond.instanceMethod yX9_abolish ∈ WS := List.mem_append_left _ (List.mem_of_getElem? (i := 513) rfl)
set_option maxRecDepth 100000 in
theorem m_514 : Cond.selects RX9 yX9_abolish yX9_abolish ∈ WS := List.mem_append_left _ (List.mem_of_getElem? (i := 514) rfl)
set_option maxRecDepth 100000 in
theorem m_515 : Cond.code yX10_abolish cX10_abolish 2 (some .int) ∈ WS := List.mem_append_left _ (List.mem_of_getElem? (i := 515) rfl)
set_option maxRecDepth 100000 in
theorem m_516 : Cond.methodLink RL 105 yX10_abolish ∈ WS := List.mem_append_left _ (List.mem_of_getElem? (i := 516) rfl)
set_option maxRecDepth 100000 in
theorem m_517 : Cond.instanceMethod yX10_abolish ∈ WS := List.mem_append_left _ (List.mem_of_getElem? (i := 517) rfl)
set_option maxRecDepth 100000 in
theorem m_518 : Cond.selects RX10 yX10_abolish yX10_abolish ∈ WS := List.mem_append_left _ (List.mem_of_getElem? (i := 518) rfl)
set_option maxRecDepth 100000 in
theorem m_519 : Cond.codeWith yL_told cL_told 4 (some .int) [(0, 9, 12, 13)] ∈ WS := List.mem_append_left _ (List.mem_of_getElem? (i := 519) rfl)
set_option maxRecDepth 100000 in
theorem m_520 : Cond.methodLink RL 106 yL_told ∈ WS := List.mem_append_left _ (List.mem_of_getElem? (i := 520) rfl)
set_option maxRecDepth 100000 in
theorem m_521 : Cond.static yL_told ∈ WS := List.mem_append_left _ (List.mem_of_getElem? (i := 521) rfl)
set_option maxRecDepth 100000 in
theorem m_522 : Cond.code yX10_told cX10_told 2 (some .int) ∈ WS := List.mem_append_left _ (List.mem_of_getElem? (i := 522) rfl)
set_option maxRecDepth 100000 in
theorem m_523 : Cond.methodLink RL 108 yX10_told ∈ WS := List.mem_append_left _ (List.mem_of_getElem? (i := 523) rfl)
set_option maxRecDepth 100000 in
theorem m_524 : Cond.instanceMethod yX10_told ∈ WS := List.mem_append_left _ (List.mem_of_getElem? (i := 524) rfl)
set_option maxRecDepth 100000 in
theorem m_525 : Cond.selects RX10 yX10_told yX10_told ∈ WS := List.mem_append_left _ (List.mem_of_getElem? (i := 525) rfl)
set_option maxRecDepth 100000 in
theorem m_526 : Cond.codeWith yL_predicate cL_predicate 5 (some .int) [(0, 10, 13, 19), (0, 10, 17, 13)] ∈ WS := List.mem_append_left _ (List.mem_of_getElem? (i := 526) rfl)
set_option maxRecDepth 100000 in
theorem m_527 : Cond.methodLink RL 109 yL_predicate ∈ WS := List.mem_append_left _ (List.mem_of_getElem? (i := 527) rfl)
set_option maxRecDepth 100000 in
theorem m_528 : Cond.static yL_predicate ∈ WS := List.mem_append_left _ (List.mem_of_getElem? (i := 528) rfl)
set_option maxRecDepth 100000 in
theorem m_529 : Cond.code yX10_predicate cX10_predicate 3 (some .int) ∈ WS := List.mem_append_left _ (List.mem_of_getElem? (i := 529) rfl)
set_option maxRecDepth 100000 in
theorem m_530 : Cond.methodLink RL 112 yX10_predicate ∈ WS := List.mem_append_left _ (List.mem_of_getElem? (i := 530) rfl)
set_option maxRecDepth 100000 in
theorem m_531 : Cond.instanceMethod yX10_predicate ∈ WS := List.mem_append_left _ (List.mem_of_getElem? (i := 531) rfl)
set_option maxRecDepth 100000 in
theorem m_532 : Cond.selects RX10 yX10_predicate yX10_predicate ∈ WS := List.mem_append_left _ (List.mem_of_getElem? (i := 532) rfl)
set_option maxRecDepth 100000 in
theorem m_533 : Cond.codeWith yL_nameAt cL_nameAt 6 (some .int) [(0, 12, 15, 19), (0, 12, 19, 13)] ∈ WS := List.mem_append_left _ (List.mem_of_getElem? (i := 533) rfl)
set_option maxRecDepth 100000 in
theorem m_534 : Cond.methodLink RL 113 yL_nameAt ∈ WS := List.mem_append_left _ (List.mem_of_getElem? (i := 534) rfl)
set_option maxRecDepth 100000 in
theorem m_535 : Cond.static yL_nameAt ∈ WS := List.mem_append_left _ (List.mem_of_getElem? (i := 535) rfl)
set_option maxRecDepth 100000 in
theorem m_536 : Cond.code yX10_nameAt cX10_nameAt 10 (some .int) ∈ WS := List.mem_append_left _ (List.mem_of_getElem? (i := 536) rfl)
set_option maxRecDepth 100000 in
theorem m_537 : Cond.methodLink RL 115 yX10_nameAt ∈ WS := List.mem_append_left _ (List.mem_of_getElem? (i := 537) rfl)
set_option maxRecDepth 100000 in
theorem m_538 : Cond.instanceMethod yX10_nameAt ∈ WS := List.mem_append_left _ (List.mem_of_getElem? (i := 538) rfl)
set_option maxRecDepth 100000 in
theorem m_539 : Cond.selects RX10 yX10_nameAt yX10_nameAt ∈ WS := List.mem_append_left _ (List.mem_of_getElem? (i := 539) rfl)
set_option maxRecDepth 100000 in
theorem m_540 : Cond.codeWith yL_clause cL_clause 6 (some .int) [(0, 12, 15, 19), (0, 12, 19, 13)] ∈ WS := List.mem_append_left _ (List.mem_of_getElem? (i := 540) rfl)
set_option maxRecDepth 100000 in
theorem m_541 : Cond.methodLink RL 116 yL_clause ∈ WS := List.mem_append_left _ (List.mem_of_getElem? (i := 541) rfl)
set_option maxRecDepth 100000 in
theorem m_542 : Cond.static yL_clause ∈ WS := List.mem_append_left _ (List.mem_of_getElem? (i := 542) rfl)
set_option maxRecDepth 100000 in
theorem m_543 : Cond.code yX10_clause cX10_clause 5 (some .int) ∈ WS := List.mem_append_left _ (List.mem_of_getElem? (i := 543) rfl)
set_option maxRecDepth 100000 in
theorem m_544 : Cond.methodLink RL 118 yX10_clause ∈ WS := List.mem_append_left _ (List.mem_of_getElem? (i := 544) rfl)
set_option maxRecDepth 100000 in
theorem m_545 : Cond.instanceMethod yX10_clause ∈ WS := List.mem_append_left _ (List.mem_of_getElem? (i := 545) rfl)
set_option maxRecDepth 100000 in
theorem m_546 : Cond.selects RX10 yX10_clause yX10_clause ∈ WS := List.mem_append_left _ (List.mem_of_getElem? (i := 546) rfl)
set_option maxRecDepth 100000 in
theorem m_547 : Cond.codeWith yL_literals cL_literals 4 (some .int) [(0, 9, 12, 19)] ∈ WS := List.mem_append_left _ (List.mem_of_getElem? (i := 547) rfl)
set_option maxRecDepth 100000 in
theorem m_548 : Cond.methodLink RL 119 yL_literals ∈ WS := List.mem_append_left _ (List.mem_of_getElem? (i := 548) rfl)
set_option maxRecDepth 100000 in
theorem m_549 : Cond.static yL_literals ∈ WS := List.mem_append_left _ (List.mem_of_getElem? (i := 549) rfl)
set_option maxRecDepth 100000 in
theorem m_550 : Cond.code yX10_literals cX10_literals 2 (some .int) ∈ WS := List.mem_append_left _ (List.mem_of_getElem? (i := 550) rfl)
set_option maxRecDepth 100000 in
theorem m_551 : Cond.methodLink RL 121 yX10_literals ∈ WS := List.mem_append_left _ (List.mem_of_getElem? (i := 551) rfl)
set_option maxRecDepth 100000 in
theorem m_552 : Cond.instanceMethod yX10_literals ∈ WS := List.mem_append_left _ (List.mem_of_getElem? (i := 552) rfl)
set_option maxRecDepth 100000 in
theorem m_553 : Cond.selects RX10 yX10_literals yX10_literals ∈ WS := List.mem_append_left _ (List.mem_of_getElem? (i := 553) rfl)
set_option maxRecDepth 100000 in
theorem m_554 : Cond.codeWith yL_value cL_value 6 (some .int) [(0, 12, 15, 19), (0, 12, 19, 13)] ∈ WS := List.mem_append_left _ (List.mem_of_getElem? (i := 554) rfl)
set_option maxRecDepth 100000 in
theorem m_555 : Cond.methodLink RL 122 yL_value ∈ WS := List.mem_append_left _ (List.mem_of_getElem? (i := 555) rfl)
set_option maxRecDepth 100000 in
theorem m_556 : Cond.static yL_value ∈ WS := List.mem_append_left _ (List.mem_of_getElem? (i := 556) rfl)
set_option maxRecDepth 100000 in
theorem m_557 : Cond.code yX10_value cX10_value 4 (some .int) ∈ WS := List.mem_append_left _ (List.mem_of_getElem? (i := 557) rfl)
set_option maxRecDepth 100000 in
theorem m_558 : Cond.methodLink RL 124 yX10_value ∈ WS := List.mem_append_left _ (List.mem_of_getElem? (i := 558) rfl)
set_option maxRecDepth 100000 in
theorem m_559 : Cond.instanceMethod yX10_value ∈ WS := List.mem_append_left _ (List.mem_of_getElem? (i := 559) rfl)
set_option maxRecDepth 100000 in
theorem m_560 : Cond.selects RX10 yX10_value yX10_value ∈ WS := List.mem_append_left _ (List.mem_of_getElem? (i := 560) rfl)
set_option maxRecDepth 100000 in
theorem m_561 : Cond.codeWith yL_stage cL_stage 6 (some .int) [(0, 12, 15, 19), (0, 12, 19, 13)] ∈ WS := List.mem_append_left _ (List.mem_of_getElem? (i := 561) rfl)
set_option maxRecDepth 100000 in
theorem m_562 : Cond.methodLink RL 125 yL_stage ∈ WS := List.mem_append_left _ (List.mem_of_getElem? (i := 562) rfl)
set_option maxRecDepth 100000 in
theorem m_563 : Cond.static yL_stage ∈ WS := List.mem_append_left _ (List.mem_of_getElem? (i := 563) rfl)
set_option maxRecDepth 100000 in
theorem m_564 : Cond.code yX10_stage cX10_stage 6 (some .int) ∈ WS := List.mem_append_left _ (List.mem_of_getElem? (i := 564) rfl)
set_option maxRecDepth 100000 in
theorem m_565 : Cond.methodLink RL 127 yX10_stage ∈ WS := List.mem_append_left _ (List.mem_of_getElem? (i := 565) rfl)
set_option maxRecDepth 100000 in
theorem m_566 : Cond.instanceMethod yX10_stage ∈ WS := List.mem_append_left _ (List.mem_of_getElem? (i := 566) rfl)
set_option maxRecDepth 100000 in
theorem m_567 : Cond.selects RX10 yX10_stage yX10_stage ∈ WS := List.mem_append_left _ (List.mem_of_getElem? (i := 567) rfl)
set_option maxRecDepth 100000 in
theorem m_568 : Cond.codeWith yL_find cL_find 6 (some .int) [(0, 12, 15, 19), (0, 12, 19, 13)] ∈ WS := List.mem_append_left _ (List.mem_of_getElem? (i := 568) rfl)
set_option maxRecDepth 100000 in
theorem m_569 : Cond.methodLink RL 128 yL_find ∈ WS := List.mem_append_left _ (List.mem_of_getElem? (i := 569) rfl)
set_option maxRecDepth 100000 in
theorem m_570 : Cond.static yL_find ∈ WS := List.mem_append_left _ (List.mem_of_getElem? (i := 570) rfl)
set_option maxRecDepth 100000 in
theorem m_571 : Cond.code yX10_find cX10_find 4 (some .int) ∈ WS := List.mem_append_left _ (List.mem_of_getElem? (i := 571) rfl)
set_option maxRecDepth 100000 in
theorem m_572 : Cond.methodLink RL 130 yX10_find ∈ WS := List.mem_append_left _ (List.mem_of_getElem? (i := 572) rfl)
set_option maxRecDepth 100000 in
theorem m_573 : Cond.instanceMethod yX10_find ∈ WS := List.mem_append_left _ (List.mem_of_getElem? (i := 573) rfl)
set_option maxRecDepth 100000 in
theorem m_574 : Cond.selects RX10 yX10_find yX10_find ∈ WS := List.mem_append_left _ (List.mem_of_getElem? (i := 574) rfl)
set_option maxRecDepth 100000 in
theorem m_575 : Cond.codeWith yL_table cL_table 5 (some .int) [(0, 10, 13, 19), (0, 10, 17, 13)] ∈ WS := List.mem_append_left _ (List.mem_of_getElem? (i := 575) rfl)
set_option maxRecDepth 100000 in
theorem m_576 : Cond.methodLink RL 131 yL_table ∈ WS := List.mem_append_left _ (List.mem_of_getElem? (i := 576) rfl)
set_option maxRecDepth 100000 in
theorem m_577 : Cond.static yL_table ∈ WS := List.mem_append_left _ (List.mem_of_getElem? (i := 577) rfl)
set_option maxRecDepth 100000 in
theorem m_578 : Cond.code yX10_table cX10_table 3 (some .int) ∈ WS := List.mem_append_left _ (List.mem_of_getElem? (i := 578) rfl)
set_option maxRecDepth 100000 in
theorem m_579 : Cond.methodLink RL 133 yX10_table ∈ WS := List.mem_append_left _ (List.mem_of_getElem? (i := 579) rfl)
set_option maxRecDepth 100000 in
theorem m_580 : Cond.instanceMethod yX10_table ∈ WS := List.mem_append_left _ (List.mem_of_getElem? (i := 580) rfl)
set_option maxRecDepth 100000 in
theorem m_581 : Cond.selects RX10 yX10_table yX10_table ∈ WS := List.mem_append_left _ (List.mem_of_getElem? (i := 581) rfl)
set_option maxRecDepth 100000 in
theorem m_582 : Cond.codeWith yL_calls cL_calls 6 (some .int) [(0, 12, 15, 19), (0, 12, 19, 13)] ∈ WS := List.mem_append_left _ (List.mem_of_getElem? (i := 582) rfl)
set_option maxRecDepth 100000 in
theorem m_583 : Cond.methodLink RL 134 yL_calls ∈ WS := List.mem_append_left _ (List.mem_of_getElem? (i := 583) rfl)
set_option maxRecDepth 100000 in
theorem m_584 : Cond.static yL_calls ∈ WS := List.mem_append_left _ (List.mem_of_getElem? (i := 584) rfl)
set_option maxRecDepth 100000 in
theorem m_585 : Cond.code yX10_calls cX10_calls 4 (some .int) ∈ WS := List.mem_append_left _ (List.mem_of_getElem? (i := 585) rfl)
set_option maxRecDepth 100000 in
theorem m_586 : Cond.methodLink RL 136 yX10_calls ∈ WS := List.mem_append_left _ (List.mem_of_getElem? (i := 586) rfl)
set_option maxRecDepth 100000 in
theorem m_587 : Cond.instanceMethod yX10_calls ∈ WS := List.mem_append_left _ (List.mem_of_getElem? (i := 587) rfl)
set_option maxRecDepth 100000 in
theorem m_588 : Cond.selects RX10 yX10_calls yX10_calls ∈ WS := List.mem_append_left _ (List.mem_of_getElem? (i := 588) rfl)
set_option maxRecDepth 100000 in
theorem m_589 : Cond.codeWith yL_answer cL_answer 6 (some .int) [(0, 12, 15, 19), (0, 12, 19, 13)] ∈ WS := List.mem_append_left _ (List.mem_of_getElem? (i := 589) rfl)
set_option maxRecDepth 100000 in
theorem m_590 : Cond.methodLink RL 137 yL_answer ∈ WS := List.mem_append_left _ (List.mem_of_getElem? (i := 590) rfl)
set_option maxRecDepth 100000 in
theorem m_591 : Cond.static yL_answer ∈ WS := List.mem_append_left _ (List.mem_of_getElem? (i := 591) rfl)
set_option maxRecDepth 100000 in
theorem m_592 : Cond.code yX10_answer cX10_answer 7 (some .int) ∈ WS := List.mem_append_left _ (List.mem_of_getElem? (i := 592) rfl)
set_option maxRecDepth 100000 in
theorem m_593 : Cond.methodLink RL 139 yX10_answer ∈ WS := List.mem_append_left _ (List.mem_of_getElem? (i := 593) rfl)
set_option maxRecDepth 100000 in
theorem m_594 : Cond.instanceMethod yX10_answer ∈ WS := List.mem_append_left _ (List.mem_of_getElem? (i := 594) rfl)
set_option maxRecDepth 100000 in
theorem m_595 : Cond.selects RX10 yX10_answer yX10_answer ∈ WS := List.mem_append_left _ (List.mem_of_getElem? (i := 595) rfl)
set_option maxRecDepth 100000 in
theorem m_596 : Cond.code yX9_completed cX9_completed 2 (some .int) ∈ WS := List.mem_append_left _ (List.mem_of_getElem? (i := 596) rfl)
set_option maxRecDepth 100000 in
theorem m_597 : Cond.methodLink RL 140 yX9_completed ∈ WS := List.mem_append_left _ (List.mem_of_getElem? (i := 597) rfl)
set_option maxRecDepth 100000 in
theorem m_598 : Cond.instanceMethod yX9_completed ∈ WS := List.mem_append_left _ (List.mem_of_getElem? (i := 598) rfl)
set_option maxRecDepth 100000 in
theorem m_599 : Cond.selects RX9 yX9_completed yX9_completed ∈ WS := List.mem_append_left _ (List.mem_of_getElem? (i := 599) rfl)
set_option maxRecDepth 100000 in
theorem m_600 : Cond.code yX10_completed cX10_completed 2 (some .int) ∈ WS := List.mem_append_left _ (List.mem_of_getElem? (i := 600) rfl)
set_option maxRecDepth 100000 in
theorem m_601 : Cond.methodLink RL 143 yX10_completed ∈ WS := List.mem_append_left _ (List.mem_of_getElem? (i := 601) rfl)
set_option maxRecDepth 100000 in
theorem m_602 : Cond.instanceMethod yX10_completed ∈ WS := List.mem_append_left _ (List.mem_of_getElem? (i := 602) rfl)
set_option maxRecDepth 100000 in
theorem m_603 : Cond.selects RX10 yX10_completed yX10_completed ∈ WS := List.mem_append_left _ (List.mem_of_getElem? (i := 603) rfl)
set_option maxRecDepth 100000 in
theorem m_604 : Cond.codeWith yL_condition cL_condition 8 (some .int) [(0, 16, 19, 19), (0, 16, 23, 13)] ∈ WS := List.mem_append_left _ (List.mem_of_getElem? (i := 604) rfl)
set_option maxRecDepth 100000 in
theorem m_605 : Cond.methodLink RL 144 yL_condition ∈ WS := List.mem_append_left _ (List.mem_of_getElem? (i := 605) rfl)
set_option maxRecDepth 100000 in
theorem m_606 : Cond.static yL_condition ∈ WS := List.mem_append_left _ (List.mem_of_getElem? (i := 606) rfl)
set_option maxRecDepth 100000 in
theorem m_607 : Cond.code yX10_condition cX10_condition 7 (some .int) ∈ WS := List.mem_append_left _ (List.mem_of_getElem? (i := 607) rfl)
set_option maxRecDepth 100000 in
theorem m_608 : Cond.methodLink RL 147 yX10_condition ∈ WS := List.mem_append_left _ (List.mem_of_getElem? (i := 608) rfl)
set_option maxRecDepth 100000 in
theorem m_609 : Cond.instanceMethod yX10_condition ∈ WS := List.mem_append_left _ (List.mem_of_getElem? (i := 609) rfl)
set_option maxRecDepth 100000 in
theorem m_610 : Cond.selects RX10 yX10_condition yX10_condition ∈ WS := List.mem_append_left _ (List.mem_of_getElem? (i := 610) rfl)
set_option maxRecDepth 100000 in
theorem m_611 : Cond.codeWith yL_reach cL_reach 6 (some .int) [(0, 12, 15, 19), (0, 12, 19, 13)] ∈ WS := List.mem_append_left _ (List.mem_of_getElem? (i := 611) rfl)
set_option maxRecDepth 100000 in
theorem m_612 : Cond.methodLink RL 148 yL_reach ∈ WS := List.mem_append_left _ (List.mem_of_getElem? (i := 612) rfl)
set_option maxRecDepth 100000 in
theorem m_613 : Cond.static yL_reach ∈ WS := List.mem_append_left _ (List.mem_of_getElem? (i := 613) rfl)
set_option maxRecDepth 100000 in
theorem m_614 : Cond.code yX10_reach cX10_reach 7 (some .int) ∈ WS := List.mem_append_left _ (List.mem_of_getElem? (i := 614) rfl)
set_option maxRecDepth 100000 in
theorem m_615 : Cond.methodLink RL 150 yX10_reach ∈ WS := List.mem_append_left _ (List.mem_of_getElem? (i := 615) rfl)
set_option maxRecDepth 100000 in
theorem m_616 : Cond.instanceMethod yX10_reach ∈ WS := List.mem_append_left _ (List.mem_of_getElem? (i := 616) rfl)
set_option maxRecDepth 100000 in
theorem m_617 : Cond.selects RX10 yX10_reach yX10_reach ∈ WS := List.mem_append_left _ (List.mem_of_getElem? (i := 617) rfl)
set_option maxRecDepth 100000 in
theorem m_618 : Cond.code yX9_print cX9_print 1 (some .long) ∈ WS := List.mem_append_left _ (List.mem_of_getElem? (i := 618) rfl)
set_option maxRecDepth 100000 in
theorem m_619 : Cond.methodLink RL 151 yX9_print ∈ WS := List.mem_append_left _ (List.mem_of_getElem? (i := 619) rfl)
set_option maxRecDepth 100000 in
theorem m_620 : Cond.instanceMethod yX9_print ∈ WS := List.mem_append_left _ (List.mem_of_getElem? (i := 620) rfl)
set_option maxRecDepth 100000 in
theorem m_621 : Cond.selects RX9 yX9_print yX9_print ∈ WS := List.mem_append_left _ (List.mem_of_getElem? (i := 621) rfl)
set_option maxRecDepth 100000 in
theorem m_622 : Cond.code yX10_print cX10_print 4 (some .long) ∈ WS := List.mem_append_left _ (List.mem_of_getElem? (i := 622) rfl)
set_option maxRecDepth 100000 in
theorem m_623 : Cond.methodLink RL 155 yX10_print ∈ WS := List.mem_append_left _ (List.mem_of_getElem? (i := 623) rfl)
set_option maxRecDepth 100000 in
theorem m_624 : Cond.instanceMethod yX10_print ∈ WS := List.mem_append_left _ (List.mem_of_getElem? (i := 624) rfl)
set_option maxRecDepth 100000 in
theorem m_625 : Cond.selects RX10 yX10_print yX10_print ∈ WS := List.mem_append_left _ (List.mem_of_getElem? (i := 625) rfl)
set_option maxRecDepth 100000 in
theorem m_626 : Cond.code yX9_status cX9_status 2 (some .int) ∈ WS := List.mem_append_left _ (List.mem_of_getElem? (i := 626) rfl)
set_option maxRecDepth 100000 in
theorem m_627 : Cond.methodLink RL 156 yX9_status ∈ WS := List.mem_append_left _ (List.mem_of_getElem? (i := 627) rfl)
set_option maxRecDepth 100000 in
theorem m_628 : Cond.instanceMethod yX9_status ∈ WS := List.mem_append_left _ (List.mem_of_getElem? (i := 628) rfl)
set_option maxRecDepth 100000 in
theorem m_629 : Cond.selects RX9 yX9_status yX9_status ∈ WS := List.mem_append_left _ (List.mem_of_getElem? (i := 629) rfl)
set_option maxRecDepth 100000 in
theorem m_630 : Cond.code yX10_status cX10_status 2 (some .int) ∈ WS := List.mem_append_left _ (List.mem_of_getElem? (i := 630) rfl)
set_option maxRecDepth 100000 in
theorem m_631 : Cond.methodLink RL 159 yX10_status ∈ WS := List.mem_append_left _ (List.mem_of_getElem? (i := 631) rfl)
set_option maxRecDepth 100000 in
theorem m_632 : Cond.instanceMethod yX10_status ∈ WS := List.mem_append_left _ (List.mem_of_getElem? (i := 632) rfl)
set_option maxRecDepth 100000 in
theorem m_633 : Cond.selects RX10 yX10_status yX10_status ∈ WS := List.mem_append_left _ (List.mem_of_getElem? (i := 633) rfl)
set_option maxRecDepth 100000 in
theorem m_634 : Cond.classLink RL 8 RX9 ∈ WS := List.mem_append_left _ (List.mem_of_getElem? (i := 634) rfl)
set_option maxRecDepth 100000 in
theorem m_635 : Cond.instantiable RX9 9 ∈ WS := List.mem_append_left _ (List.mem_of_getElem? (i := 635) rfl)
set_option maxRecDepth 100000 in
theorem m_636 : Cond.code yX9_init cX9_init 1 none ∈ WS := List.mem_append_left _ (List.mem_of_getElem? (i := 636) rfl)
set_option maxRecDepth 100000 in
theorem m_637 : Cond.instanceMethod yX9_init ∈ WS := List.mem_append_left _ (List.mem_of_getElem? (i := 637) rfl)
set_option maxRecDepth 100000 in
theorem m_638 : Cond.methodLink RL 70 yX9_init ∈ WS := List.mem_append_left _ (List.mem_of_getElem? (i := 638) rfl)
set_option maxRecDepth 100000 in
theorem m_639 : Cond.classLink RL 71 RX10 ∈ WS := List.mem_append_left _ (List.mem_of_getElem? (i := 639) rfl)
set_option maxRecDepth 100000 in
theorem m_640 : Cond.instantiable RX10 77 ∈ WS := List.mem_append_left _ (List.mem_of_getElem? (i := 640) rfl)
set_option maxRecDepth 100000 in
theorem m_641 : Cond.code yX10_init cX10_init 1 none ∈ WS := List.mem_append_left _ (List.mem_of_getElem? (i := 641) rfl)
set_option maxRecDepth 100000 in
theorem m_642 : Cond.instanceMethod yX10_init ∈ WS := List.mem_append_left _ (List.mem_of_getElem? (i := 642) rfl)
set_option maxRecDepth 100000 in
theorem m_643 : Cond.methodLink RL 73 yX10_init ∈ WS := List.mem_append_left _ (List.mem_of_getElem? (i := 643) rfl)
set_option maxRecDepth 100000 in
theorem m_644 : Cond.instantiable RX5 18 ∈ WS := List.mem_append_left _ (List.mem_of_getElem? (i := 644) rfl)
