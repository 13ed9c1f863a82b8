def wsX6_winner_r1 : List Cond := [Cond.fieldLink RX6 44 "ConkerHeirsModel" "x" "I", Cond.fieldLink RX6 7 "ConkerHeirsModel" "s" "[I", Cond.methodLink RX6 94 yX6_boutError, Cond.instanceMethod yX6_boutError, Cond.selects RX6 yX6_boutError yX6_boutError, Cond.initialized RX6, Cond.code yX6_boutError cX6_boutError 4 (some .int), Cond.constant RX6 93 (65535), Cond.methodLink RX6 55 yX6_in, Cond.static yX6_in, Cond.code yX6_in cX6_in 3 (some .boolean), Cond.methodLink RX6 63 yX6_pairError, Cond.instanceMethod yX6_pairError, Cond.selects RX6 yX6_pairError yX6_pairError, Cond.code yX6_pairError cX6_pairError 5 (some .int), Cond.methodLink RX6 59 yX6_isConker, Cond.instanceMethod yX6_isConker, Cond.selects RX6 yX6_isConker yX6_isConker, Cond.code yX6_isConker cX6_isConker 2 (some .boolean), Cond.methodLink RX6 30 yX6_at, Cond.static yX6_at, Cond.code yX6_at cX6_at 2 (some .int), Cond.methodLink RX6 26 yX6_copies, Cond.instanceMethod yX6_copies]
def wsX6_winner_r2 : List Cond := [Cond.selects RX6 yX6_copies yX6_copies, Cond.code yX6_copies cX6_copies 4 none, Cond.methodLink RX6 97 yX6_fights, Cond.instanceMethod yX6_fights, Cond.selects RX6 yX6_fights yX6_fights, Cond.code yX6_fights cX6_fights 9 (some .int), Cond.methodLink RX6 34 yX6_less, Cond.static yX6_less, Cond.code yX6_less cX6_less 2 (some .int), Cond.methodLink RX6 48 yX6_goesOn, Cond.instanceMethod yX6_goesOn, Cond.selects RX6 yX6_goesOn yX6_goesOn, Cond.code yX6_goesOn cX6_goesOn 1 none, Cond.constant RX6 47 (65536), Cond.methodLink RX6 51 yX6_strikes, Cond.instanceMethod yX6_strikes, Cond.selects RX6 yX6_strikes yX6_strikes, Cond.code yX6_strikes cX6_strikes 11 (some .int), Cond.methodLink RX6 37 yX6_smashes, Cond.instanceMethod yX6_smashes, Cond.selects RX6 yX6_smashes yX6_smashes, Cond.code yX6_smashes cX6_smashes 3 none, Cond.methodLink RX6 40 yX6_flag, Cond.static yX6_flag]
def wsX6_winner_r3 : List Cond := [Cond.code yX6_flag cX6_flag 1 (some .int)]
def wsX6_winner : List Cond := .code yX6_winner cX6_winner 8 (some .int) :: ((wsX6_winner_r1 ++ (wsX6_winner_r2 ++ wsX6_winner_r3)) ++ wsX60)
def wsX6_share : List Cond := .code yX6_share cX6_share 3 (some .float) :: ([.methodLink RX6 158 yX6_victories, .instanceMethod yX6_victories, .selects RX6 yX6_victories yX6_victories, .initialized RX6, .code yX6_victories cX6_victories 5 (some .int), .fieldLink RX6 7 "ConkerHeirsModel" "s" "[I", .methodLink RX6 30 yX6_at, .static yX6_at, .code yX6_at cX6_at 2 (some .int), .methodLink RX6 71 yX6_isPlayer, .static yX6_isPlayer, .code yX6_isPlayer cX6_isPlayer 1 (some .boolean), .methodLink RX6 55 yX6_in, .static yX6_in, .code yX6_in cX6_in 3 (some .boolean)] ++ wsX60)
def wsJ9_max_7cf53 : List Cond := .code yJ9_max_7cf53 cJ9_max_7cf53 2 (some .int) :: ([])
def wsJ9_min_7cf53 : List Cond := .code yJ9_min_7cf53 cJ9_min_7cf53 2 (some .int) :: ([])
def wsL_law_r1 : List Cond := [Cond.classLink RL 7 RX5, Cond.instantiable RX5 8, Cond.initialized RX5, Cond.classLink RL 10 RX6, Cond.instantiable RX6 13, Cond.initialized RX6, Cond.methodLink RL 9 yX5_init, Cond.instanceMethod yX5_init, Cond.code yX5_init cX5_init 1 none, Cond.methodLink RX5 1 objectInit, Cond.instanceMethod objectInit, Cond.code objectInit ⟨#[0xb1]⟩ 1 none, Cond.classLink RX5 7 RX4, Cond.instantiable RX4 13, Cond.initialized RX4, Cond.fieldLink RX5 10 "ConkerHeirs" "now" "LConkerHeirs$State;", Cond.fieldLink RX5 16 "ConkerHeirs" "snapshot" "LConkerHeirs$State;", Cond.fieldLink RX5 19 "ConkerHeirs" "trial" "LConkerHeirs$State;", Cond.classLink RX5 22 RX1, Cond.instantiable RX1 2, Cond.initialized RX1, Cond.fieldLink RX5 25 "ConkerHeirs" "history" "LConkerHeirs$History;", Cond.classLink RX5 29 RX3, Cond.instantiable RX3 7]
def wsL_law_r2 : List Cond := [Cond.initialized RX3, Cond.fieldLink RX5 32 "ConkerHeirs" "script" "LConkerHeirs$Script;", Cond.classLink RX5 36 RX0, Cond.instantiable RX0 1, Cond.initialized RX0, Cond.fieldLink RX5 39 "ConkerHeirs" "draws" "LConkerHeirs$Draws;", Cond.classLink RX5 43 RX2, Cond.instantiable RX2 2, Cond.initialized RX2, Cond.fieldLink RX5 46 "ConkerHeirs" "row" "LConkerHeirs$Row;", Cond.fieldLink RX5 50 "ConkerHeirs" "hasSnapshot" "Z", Cond.methodLink RX5 9 yX4_init, Cond.instanceMethod yX4_init, Cond.code yX4_init cX4_init 2 none, Cond.methodLink RX4 3 objectInit, Cond.arrayClass .int, Cond.fieldLink RX4 9 "ConkerHeirs$State" "strings" "[I", Cond.fieldLink RX4 15 "ConkerHeirs$State" "shame" "[I", Cond.fieldLink RX4 18 "ConkerHeirs$State" "owner" "[I", Cond.fieldLink RX4 21 "ConkerHeirs$State" "hardness" "[I", Cond.fieldLink RX4 24 "ConkerHeirs$State" "crack" "[I", Cond.fieldLink RX4 27 "ConkerHeirs$State" "wear" "[I", Cond.fieldLink RX4 30 "ConkerHeirs$State" "victories" "[I", Cond.fieldLink RX4 33 "ConkerHeirs$State" "boasts" "[I"]
def wsL_law_r3 : List Cond := [Cond.fieldLink RX4 36 "ConkerHeirs$State" "how" "[I", Cond.fieldLink RX4 39 "ConkerHeirs$State" "smashedBy" "[I", Cond.fieldLink RX4 42 "ConkerHeirs$State" "conkers" "I", Cond.fieldLink RX4 46 "ConkerHeirs$State" "lostVictories" "I", Cond.fieldLink RX4 49 "ConkerHeirs$State" "strikes" "I", Cond.methodLink RX5 24 yX1_init, Cond.instanceMethod yX1_init, Cond.code yX1_init cX1_init 2 none, Cond.methodLink RX1 3 objectInit, Cond.classLink RX1 9 RX4, Cond.fieldLink RX1 11 "ConkerHeirs$History" "states" "[LConkerHeirs$State;", Cond.fieldLink RX1 17 "ConkerHeirs$History" "held" "I", Cond.methodLink RX1 21 yX4_init, Cond.instanceMethod yX3_init, Cond.code yX3_init cX3_init 1 none, Cond.methodLink RX3 3 objectInit, Cond.arrayClass .char, Cond.fieldLink RX3 9 "ConkerHeirs$Script" "signs" "[C", Cond.fieldLink RX3 15 "ConkerHeirs$Script" "length" "I", Cond.fieldLink RX3 19 "ConkerHeirs$Script" "at" "I", Cond.fieldLink RX3 22 "ConkerHeirs$Script" "kind" "C", Cond.fieldLink RX3 26 "ConkerHeirs$Script" "first" "I", Cond.fieldLink RX3 29 "ConkerHeirs$Script" "second" "I", Cond.fieldLink RX3 32 "ConkerHeirs$Script" "swing" "I"]
def wsL_law_r4 : List Cond := [Cond.instanceMethod yX0_init, Cond.code yX0_init cX0_init 1 none, Cond.methodLink RX0 1 objectInit, Cond.fieldLink RX0 7 "ConkerHeirs$Draws" "x" "I", Cond.instanceMethod yX2_init, Cond.code yX2_init cX2_init 1 none, Cond.methodLink RX2 3 objectInit, Cond.fieldLink RX2 9 "ConkerHeirs$Row" "conkers" "[I", Cond.fieldLink RX2 15 "ConkerHeirs$Row" "length" "I", Cond.methodLink RL 12 yX6_init, Cond.instanceMethod yX6_init, Cond.code yX6_init cX6_init 2 none, Cond.methodLink RX6 1 objectInit, Cond.fieldLink RX6 7 "ConkerHeirsModel" "s" "[I", Cond.fieldLink RX6 13 "ConkerHeirsModel" "text" "[I", Cond.fieldLink RX6 16 "ConkerHeirsModel" "row" "[I", Cond.fieldLink RX6 19 "ConkerHeirsModel" "sent" "[I", Cond.methodLink RL 13 yX5_thread, Cond.instanceMethod yX5_thread, Cond.selects RX5 yX5_thread yX5_thread, Cond.code yX5_thread cX5_thread 3 (some .int), Cond.fieldLink RX5 62 "ConkerHeirs$State" "strings" "[I", Cond.fieldLink RX5 66 "ConkerHeirs$State" "conkers" "I", Cond.methodLink RX5 54 yX5_isPlayer]
def wsL_law_r5 : List Cond := [Cond.static yX5_isPlayer, Cond.code yX5_isPlayer cX5_isPlayer 1 (some .boolean), Cond.methodLink RX5 58 yX5_isWithin, Cond.static yX5_isWithin, Cond.code yX5_isWithin cX5_isWithin 3 (some .boolean), Cond.methodLink RX5 70 yX1_keep, Cond.instanceMethod yX1_keep, Cond.selects RX1 yX1_keep yX1_keep, Cond.code yX1_keep cX1_keep 2 none, Cond.methodLink RX1 22 yX1_dropOldest, Cond.instanceMethod yX1_dropOldest, Cond.selects RX1 yX1_dropOldest yX1_dropOldest, Cond.code yX1_dropOldest cX1_dropOldest 3 none, Cond.methodLink RX1 25 yX4_copyFrom, Cond.instanceMethod yX4_copyFrom, Cond.selects RX4 yX4_copyFrom yX4_copyFrom, Cond.code yX4_copyFrom cX4_copyFrom 2 none, Cond.methodLink RX4 52 arraycopyName, Cond.native arraycopyName, Cond.static arraycopyName, Cond.initialized "java/lang/System", Cond.methodLink RX5 74 yX4_addConker, Cond.instanceMethod yX4_addConker, Cond.selects RX4 yX4_addConker yX4_addConker]
def wsL_law_r6 : List Cond := [Cond.code yX4_addConker cX4_addConker 4 (some .int), Cond.methodLink RL 17 yX6_thread, Cond.instanceMethod yX6_thread, Cond.selects RX6 yX6_thread yX6_thread, Cond.code yX6_thread cX6_thread 5 (some .int), Cond.methodLink RX6 71 yX6_isPlayer, Cond.static yX6_isPlayer, Cond.code yX6_isPlayer cX6_isPlayer 1 (some .boolean), Cond.methodLink RX6 55 yX6_in, Cond.static yX6_in, Cond.code yX6_in cX6_in 3 (some .boolean), Cond.methodLink RX6 74 yX6_records, Cond.instanceMethod yX6_records, Cond.selects RX6 yX6_records yX6_records, Cond.code yX6_records cX6_records 2 none, Cond.fieldLink RX6 22 "ConkerHeirsModel" "states" "I", Cond.methodLink RX6 26 yX6_copies, Cond.instanceMethod yX6_copies, Cond.selects RX6 yX6_copies yX6_copies, Cond.code yX6_copies cX6_copies 4 none, Cond.methodLink RX6 30 yX6_at, Cond.static yX6_at, Cond.code yX6_at cX6_at 2 (some .int), Cond.methodLink RL 18 yX5_give]
def wsL_law_r7 : List Cond := [Cond.instanceMethod yX5_give, Cond.selects RX5 yX5_give yX5_give, Cond.code yX5_give cX5_give 3 (some .int), Cond.methodLink RL 21 yX6_give, Cond.instanceMethod yX6_give, Cond.selects RX6 yX6_give yX6_give, Cond.code yX6_give cX6_give 3 (some .int), Cond.methodLink RL 22 yX5_strike, Cond.instanceMethod yX5_strike, Cond.selects RX5 yX5_strike yX5_strike, Cond.code yX5_strike cX5_strike 5 (some .int), Cond.methodLink RX5 78 yX4_strikeError, Cond.instanceMethod yX4_strikeError, Cond.selects RX4 yX4_strikeError yX4_strikeError, Cond.code yX4_strikeError cX4_strikeError 4 (some .int), Cond.methodLink RX4 62 yX4_pairError, Cond.instanceMethod yX4_pairError, Cond.selects RX4 yX4_pairError yX4_pairError, Cond.code yX4_pairError cX4_pairError 4 (some .int), Cond.methodLink RX4 67 yX4_hasConker, Cond.instanceMethod yX4_hasConker, Cond.selects RX4 yX4_hasConker yX4_hasConker, Cond.code yX4_hasConker cX4_hasConker 2 (some .boolean), Cond.methodLink RX4 71 yX4_areInPlay]
def wsL_law_r8 : List Cond := [Cond.instanceMethod yX4_areInPlay, Cond.selects RX4 yX4_areInPlay yX4_areInPlay, Cond.code yX4_areInPlay cX4_areInPlay 3 (some .boolean), Cond.methodLink RX5 82 yX4_hit, Cond.instanceMethod yX4_hit, Cond.selects RX4 yX4_hit yX4_hit, Cond.code yX4_hit cX4_hit 6 (some .int), Cond.methodLink RX4 86 Lib.Math.min.name, Cond.static Lib.Math.min.name, Cond.initialized "java/lang/Math", Cond.code Lib.Math.min.name Lib.Math.min.code 2 (some .int), Cond.methodLink RX4 82 yX4_quotient, Cond.static yX4_quotient, Cond.code yX4_quotient cX4_quotient 2 (some .int), Cond.methodLink RX4 91 yX4_settleSmashes, Cond.instanceMethod yX4_settleSmashes, Cond.selects RX4 yX4_settleSmashes yX4_settleSmashes, Cond.code yX4_settleSmashes cX4_settleSmashes 5 none, Cond.methodLink RX4 115 yX4_crush, Cond.instanceMethod yX4_crush, Cond.selects RX4 yX4_crush yX4_crush, Cond.code yX4_crush cX4_crush 3 (some .int), Cond.methodLink RX4 79 yX4_takeVictoriesOfSmashed, Cond.instanceMethod yX4_takeVictoriesOfSmashed]
def wsL_law_r9 : List Cond := [Cond.selects RX4 yX4_takeVictoriesOfSmashed yX4_takeVictoriesOfSmashed, Cond.code yX4_takeVictoriesOfSmashed cX4_takeVictoriesOfSmashed 3 (some .int), Cond.methodLink RX4 118 yX4_inherit, Cond.instanceMethod yX4_inherit, Cond.selects RX4 yX4_inherit yX4_inherit, Cond.code yX4_inherit cX4_inherit 3 none, Cond.methodLink RX4 95 yX4_fallIfWorn, Cond.instanceMethod yX4_fallIfWorn, Cond.selects RX4 yX4_fallIfWorn yX4_fallIfWorn, Cond.code yX4_fallIfWorn cX4_fallIfWorn 2 none, Cond.methodLink RX4 99 yX4_outcome, Cond.instanceMethod yX4_outcome, Cond.selects RX4 yX4_outcome yX4_outcome, Cond.code yX4_outcome cX4_outcome 4 (some .int), Cond.methodLink RL 26 yX6_strike, Cond.instanceMethod yX6_strike, Cond.selects RX6 yX6_strike yX6_strike, Cond.code yX6_strike cX6_strike 5 (some .int), Cond.methodLink RX6 77 yX6_strikeError, Cond.instanceMethod yX6_strikeError, Cond.selects RX6 yX6_strikeError yX6_strikeError, Cond.code yX6_strikeError cX6_strikeError 4 (some .int), Cond.methodLink RX6 63 yX6_pairError, Cond.instanceMethod yX6_pairError]
def wsL_law_r10 : List Cond := [Cond.selects RX6 yX6_pairError yX6_pairError, Cond.code yX6_pairError cX6_pairError 5 (some .int), Cond.methodLink RX6 59 yX6_isConker, Cond.instanceMethod yX6_isConker, Cond.selects RX6 yX6_isConker yX6_isConker, Cond.code yX6_isConker cX6_isConker 2 (some .boolean), Cond.methodLink RX6 51 yX6_strikes, Cond.instanceMethod yX6_strikes, Cond.selects RX6 yX6_strikes yX6_strikes, Cond.code yX6_strikes cX6_strikes 11 (some .int), Cond.methodLink RX6 34 yX6_less, Cond.static yX6_less, Cond.code yX6_less cX6_less 2 (some .int), Cond.methodLink RX6 37 yX6_smashes, Cond.instanceMethod yX6_smashes, Cond.selects RX6 yX6_smashes yX6_smashes, Cond.code yX6_smashes cX6_smashes 3 none, Cond.methodLink RX6 40 yX6_flag, Cond.static yX6_flag, Cond.code yX6_flag cX6_flag 1 (some .int), Cond.methodLink RL 27 yX5_mend, Cond.instanceMethod yX5_mend, Cond.selects RX5 yX5_mend yX5_mend, Cond.code yX5_mend cX5_mend 3 (some .int)]
def wsL_law_r11 : List Cond := [Cond.methodLink RX5 85 yX4_mendError, Cond.instanceMethod yX4_mendError, Cond.selects RX4 yX4_mendError yX4_mendError, Cond.code yX4_mendError cX4_mendError 3 (some .int), Cond.methodLink RX4 75 yX4_fallenError, Cond.instanceMethod yX4_fallenError, Cond.selects RX4 yX4_fallenError yX4_fallenError, Cond.code yX4_fallenError cX4_fallenError 2 (some .int), Cond.methodLink RX5 89 yX4_threadAgain, Cond.instanceMethod yX4_threadAgain, Cond.selects RX4 yX4_threadAgain yX4_threadAgain, Cond.code yX4_threadAgain cX4_threadAgain 3 (some .int), Cond.methodLink RL 31 yX6_mend, Cond.instanceMethod yX6_mend, Cond.selects RX6 yX6_mend yX6_mend, Cond.code yX6_mend cX6_mend 3 (some .int), Cond.methodLink RX6 81 yX6_mendError, Cond.instanceMethod yX6_mendError, Cond.selects RX6 yX6_mendError yX6_mendError, Cond.code yX6_mendError cX6_mendError 2 (some .int), Cond.methodLink RX6 67 yX6_spare, Cond.instanceMethod yX6_spare, Cond.selects RX6 yX6_spare yX6_spare, Cond.code yX6_spare cX6_spare 2 (some .int)]
def wsL_law_r12 : List Cond := [Cond.methodLink RX6 84 yX6_mends, Cond.instanceMethod yX6_mends, Cond.selects RX6 yX6_mends yX6_mends, Cond.code yX6_mends cX6_mends 2 (some .int), Cond.methodLink RL 32 yX5_stamp, Cond.instanceMethod yX5_stamp, Cond.selects RX5 yX5_stamp yX5_stamp, Cond.code yX5_stamp cX5_stamp 3 (some .int), Cond.methodLink RX5 92 yX4_fallenError, Cond.methodLink RX5 95 yX4_crush, Cond.methodLink RL 35 yX6_stamp, Cond.instanceMethod yX6_stamp, Cond.selects RX6 yX6_stamp yX6_stamp, Cond.code yX6_stamp cX6_stamp 3 (some .int), Cond.methodLink RX6 87 yX6_stampError, Cond.instanceMethod yX6_stampError, Cond.selects RX6 yX6_stampError yX6_stampError, Cond.code yX6_stampError cX6_stampError 2 (some .int), Cond.methodLink RX6 90 yX6_stamps, Cond.instanceMethod yX6_stamps, Cond.selects RX6 yX6_stamps yX6_stamps, Cond.code yX6_stamps cX6_stamps 3 (some .int), Cond.methodLink RL 36 yX5_boast, Cond.instanceMethod yX5_boast]
def wsL_law_r13 : List Cond := [Cond.selects RX5 yX5_boast yX5_boast, Cond.code yX5_boast cX5_boast 4 (some .int), Cond.fieldLink RX5 101 "ConkerHeirs$State" "how" "[I", Cond.fieldLink RX5 104 "ConkerHeirs$State" "boasts" "[I", Cond.methodLink RX5 98 yX4_hasConker, Cond.methodLink RL 39 yX6_boast, Cond.instanceMethod yX6_boast, Cond.selects RX6 yX6_boast yX6_boast, Cond.code yX6_boast cX6_boast 5 (some .int), Cond.methodLink RL 40 yX5_doubt, Cond.instanceMethod yX5_doubt, Cond.selects RX5 yX5_doubt yX5_doubt, Cond.code yX5_doubt cX5_doubt 3 (some .int), Cond.fieldLink RX5 107 "ConkerHeirs$State" "owner" "[I", Cond.methodLink RX5 110 yX4_settleBoast, Cond.instanceMethod yX4_settleBoast, Cond.selects RX4 yX4_settleBoast yX4_settleBoast, Cond.code yX4_settleBoast cX4_settleBoast 4 (some .int), Cond.methodLink RL 43 yX6_doubt, Cond.instanceMethod yX6_doubt, Cond.selects RX6 yX6_doubt yX6_doubt, Cond.code yX6_doubt cX6_doubt 5 (some .int), Cond.methodLink RL 44 yX5_bout, Cond.instanceMethod yX5_bout]
def wsL_law_r14 : List Cond := [Cond.selects RX5 yX5_bout yX5_bout, Cond.code yX5_bout cX5_bout 5 (some .int), Cond.methodLink RX5 113 yX4_boutError, Cond.instanceMethod yX4_boutError, Cond.selects RX4 yX4_boutError yX4_boutError, Cond.code yX4_boutError cX4_boutError 4 (some .int), Cond.constant RX4 66 (65535), Cond.methodLink RX5 116 yX0_begin, Cond.instanceMethod yX0_begin, Cond.selects RX0 yX0_begin yX0_begin, Cond.code yX0_begin cX0_begin 2 none, Cond.methodLink RX5 120 yX4_fight, Cond.instanceMethod yX4_fight, Cond.selects RX4 yX4_fight yX4_fight, Cond.code yX4_fight cX4_fight 8 (some .int), Cond.methodLink RX4 103 Lib.Math.max.name, Cond.static Lib.Math.max.name, Cond.code Lib.Math.max.name Lib.Math.max.code 2 (some .int), Cond.methodLink RX4 106 yX0_swing, Cond.instanceMethod yX0_swing, Cond.selects RX0 yX0_swing yX0_swing, Cond.code yX0_swing cX0_swing 1 (some .int), Cond.methodLink RX0 14 yX0_next, Cond.instanceMethod yX0_next]
def wsL_law_r15 : List Cond := [Cond.selects RX0 yX0_next yX0_next, Cond.code yX0_next cX0_next 1 (some .int), Cond.constant RX0 13 (65536), Cond.methodLink RX4 112 yX4_hit, Cond.methodLink RL 47 yX6_bout, Cond.instanceMethod yX6_bout, Cond.selects RX6 yX6_bout yX6_bout, Cond.code yX6_bout cX6_bout 5 (some .int), Cond.fieldLink RX6 44 "ConkerHeirsModel" "x" "I", Cond.methodLink RX6 94 yX6_boutError, Cond.instanceMethod yX6_boutError, Cond.selects RX6 yX6_boutError yX6_boutError, Cond.code yX6_boutError cX6_boutError 4 (some .int), Cond.constant RX6 93 (65535), Cond.methodLink RX6 97 yX6_fights, Cond.instanceMethod yX6_fights, Cond.selects RX6 yX6_fights yX6_fights, Cond.code yX6_fights cX6_fights 9 (some .int), Cond.methodLink RX6 48 yX6_goesOn, Cond.instanceMethod yX6_goesOn, Cond.selects RX6 yX6_goesOn yX6_goesOn, Cond.code yX6_goesOn cX6_goesOn 1 none, Cond.constant RX6 47 (65536), Cond.methodLink RL 48 yX5_round]
def wsL_law_r16 : List Cond := [Cond.instanceMethod yX5_round, Cond.selects RX5 yX5_round yX5_round, Cond.code yX5_round cX5_round 5 (some .int), Cond.constant RX5 124 (65535), Cond.fieldLink RX5 128 "ConkerHeirs$Row" "length" "I", Cond.methodLink RX5 125 yX2_lineUp, Cond.instanceMethod yX2_lineUp, Cond.selects RX2 yX2_lineUp yX2_lineUp, Cond.code yX2_lineUp cX2_lineUp 4 none, Cond.methodLink RX2 19 yX4_conkerToSend, Cond.instanceMethod yX4_conkerToSend, Cond.selects RX4 yX4_conkerToSend yX4_conkerToSend, Cond.code yX4_conkerToSend cX4_conkerToSend 4 (some .int), Cond.methodLink RX2 25 yX2_insert, Cond.instanceMethod yX2_insert, Cond.selects RX2 yX2_insert yX2_insert, Cond.code yX2_insert cX2_insert 5 none, Cond.fieldLink RX2 29 "ConkerHeirs$State" "shame" "[I", Cond.fieldLink RX2 32 "ConkerHeirs$State" "owner" "[I", Cond.methodLink RX5 131 yX0_next, Cond.methodLink RX5 135 yX2_takeOut, Cond.instanceMethod yX2_takeOut, Cond.selects RX2 yX2_takeOut yX2_takeOut, Cond.code yX2_takeOut cX2_takeOut 4 (some .int)]
def wsL_law_r17 : List Cond := [Cond.methodLink RL 51 yX6_round, Cond.instanceMethod yX6_round, Cond.selects RX6 yX6_round yX6_round, Cond.code yX6_round cX6_round 9 (some .int), Cond.methodLink RX6 103 yX6_lines, Cond.instanceMethod yX6_lines, Cond.selects RX6 yX6_lines yX6_lines, Cond.code yX6_lines cX6_lines 4 (some .int), Cond.methodLink RX6 100 yX6_best, Cond.instanceMethod yX6_best, Cond.selects RX6 yX6_best yX6_best, Cond.code yX6_best cX6_best 6 (some .int), Cond.methodLink RL 52 yX5_append, Cond.instanceMethod yX5_append, Cond.selects RX5 yX5_append yX5_append, Cond.code yX5_append cX5_append 2 (some .int), Cond.fieldLink RX5 138 "ConkerHeirs$Script" "length" "I", Cond.fieldLink RX5 139 "ConkerHeirs$Script" "signs" "[C", Cond.methodLink RL 55 yX6_append, Cond.instanceMethod yX6_append, Cond.selects RX6 yX6_append yX6_append, Cond.code yX6_append cX6_append 2 (some .int), Cond.fieldLink RX6 107 "ConkerHeirsModel" "typed" "I", Cond.methodLink RL 56 yX5_clearText]
def wsL_law_r18 : List Cond := [Cond.instanceMethod yX5_clearText, Cond.selects RX5 yX5_clearText yX5_clearText, Cond.code yX5_clearText cX5_clearText 2 (some .int), Cond.methodLink RL 60 yX6_clearText, Cond.instanceMethod yX6_clearText, Cond.selects RX6 yX6_clearText yX6_clearText, Cond.code yX6_clearText cX6_clearText 2 (some .int), Cond.methodLink RL 61 yX5_fault, Cond.instanceMethod yX5_fault, Cond.selects RX5 yX5_fault yX5_fault, Cond.code yX5_fault cX5_fault 1 (some .int), Cond.methodLink RX5 143 yX3_findFault, Cond.instanceMethod yX3_findFault, Cond.selects RX3 yX3_findFault yX3_findFault, Cond.code yX3_findFault cX3_findFault 2 (some .int), Cond.methodLink RX3 35 yX3_rewind, Cond.instanceMethod yX3_rewind, Cond.selects RX3 yX3_rewind yX3_rewind, Cond.code yX3_rewind cX3_rewind 1 none, Cond.methodLink RX3 38 yX3_readOrder, Cond.instanceMethod yX3_readOrder, Cond.selects RX3 yX3_readOrder yX3_readOrder, Cond.code yX3_readOrder cX3_readOrder 1 (some .boolean), Cond.methodLink RX3 46 yX3_sign]
def wsL_law_r19 : List Cond := [Cond.instanceMethod yX3_sign, Cond.selects RX3 yX3_sign yX3_sign, Cond.code yX3_sign cX3_sign 1 (some .char), Cond.methodLink RX3 50 yX3_readConker, Cond.instanceMethod yX3_readConker, Cond.selects RX3 yX3_readConker yX3_readConker, Cond.code yX3_readConker cX3_readConker 3 (some .int), Cond.methodLink RX3 54 yX3_digit, Cond.instanceMethod yX3_digit, Cond.selects RX3 yX3_digit yX3_digit, Cond.code yX3_digit cX3_digit 2 (some .int), Cond.methodLink RX3 42 yX3_take, Cond.instanceMethod yX3_take, Cond.selects RX3 yX3_take yX3_take, Cond.code yX3_take cX3_take 2 (some .boolean), Cond.methodLink RL 64 yX6_fault, Cond.instanceMethod yX6_fault, Cond.selects RX6 yX6_fault yX6_fault, Cond.code yX6_fault cX6_fault 2 (some .int), Cond.fieldLink RX6 110 "ConkerHeirsModel" "spot" "I", Cond.methodLink RX6 135 yX6_readsOrder, Cond.instanceMethod yX6_readsOrder, Cond.selects RX6 yX6_readsOrder yX6_readsOrder, Cond.code yX6_readsOrder cX6_readsOrder 1 (some .boolean)]
def wsL_law_r20 : List Cond := [Cond.fieldLink RX6 120 "ConkerHeirsModel" "letter" "I", Cond.fieldLink RX6 126 "ConkerHeirsModel" "one" "I", Cond.fieldLink RX6 129 "ConkerHeirsModel" "two" "I", Cond.fieldLink RX6 132 "ConkerHeirsModel" "three" "I", Cond.methodLink RX6 117 yX6_takes, Cond.instanceMethod yX6_takes, Cond.selects RX6 yX6_takes yX6_takes, Cond.code yX6_takes cX6_takes 3 (some .boolean), Cond.methodLink RX6 113 yX6_isHere, Cond.instanceMethod yX6_isHere, Cond.selects RX6 yX6_isHere yX6_isHere, Cond.code yX6_isHere cX6_isHere 3 (some .boolean), Cond.methodLink RX6 123 yX6_number, Cond.instanceMethod yX6_number, Cond.selects RX6 yX6_number yX6_number, Cond.code yX6_number cX6_number 2 (some .int), Cond.methodLink RL 65 yX5_run, Cond.instanceMethod yX5_run, Cond.selects RX5 yX5_run yX5_run, Cond.code yX5_run cX5_run 3 (some .int), Cond.methodLink RX5 146 yX3_rewind, Cond.methodLink RX5 149 yX3_readOrder, Cond.methodLink RX5 153 yX5_carryOutOrder, Cond.instanceMethod yX5_carryOutOrder]
def wsL_law_r21 : List Cond := [Cond.selects RX5 yX5_carryOutOrder yX5_carryOutOrder, Cond.code yX5_carryOutOrder cX5_carryOutOrder 2 (some .int), Cond.fieldLink RX5 224 "ConkerHeirs$Script" "kind" "C", Cond.fieldLink RX5 228 "ConkerHeirs$Script" "first" "I", Cond.fieldLink RX5 231 "ConkerHeirs$Script" "second" "I", Cond.fieldLink RX5 234 "ConkerHeirs$Script" "swing" "I", Cond.methodLink RX5 156 yX3_take, Cond.methodLink RL 68 yX6_run, Cond.instanceMethod yX6_run, Cond.selects RX6 yX6_run yX6_run, Cond.code yX6_run cX6_run 6 (some .int), Cond.methodLink RX6 139 yX6_fault, Cond.methodLink RX6 142 yX6_orderError, Cond.instanceMethod yX6_orderError, Cond.selects RX6 yX6_orderError yX6_orderError, Cond.code yX6_orderError cX6_orderError 1 (some .int), Cond.methodLink RX6 145 yX6_does, Cond.instanceMethod yX6_does, Cond.selects RX6 yX6_does yX6_does, Cond.code yX6_does cX6_does 1 (some .int), Cond.methodLink RL 69 yX5_undo, Cond.instanceMethod yX5_undo, Cond.selects RX5 yX5_undo yX5_undo, Cond.code yX5_undo cX5_undo 1 (some .int)]
def wsL_law_r22 : List Cond := [Cond.methodLink RX5 160 yX1_bringBack, Cond.instanceMethod yX1_bringBack, Cond.selects RX1 yX1_bringBack yX1_bringBack, Cond.code yX1_bringBack cX1_bringBack 2 (some .int), Cond.methodLink RL 72 yX6_undo, Cond.instanceMethod yX6_undo, Cond.selects RX6 yX6_undo yX6_undo, Cond.code yX6_undo cX6_undo 1 (some .int), Cond.methodLink RL 73 yX5_save, Cond.instanceMethod yX5_save, Cond.selects RX5 yX5_save yX5_save, Cond.code yX5_save cX5_save 1 (some .int), Cond.methodLink RX5 164 yX4_copyFrom, Cond.methodLink RX5 167 yX4_conkersBeing, Cond.instanceMethod yX4_conkersBeing, Cond.selects RX4 yX4_conkersBeing yX4_conkersBeing, Cond.code yX4_conkersBeing cX4_conkersBeing 5 (some .int), Cond.methodLink RX4 121 yX4_isOf, Cond.instanceMethod yX4_isOf, Cond.selects RX4 yX4_isOf yX4_isOf, Cond.code yX4_isOf cX4_isOf 3 (some .boolean), Cond.methodLink RL 76 yX6_save, Cond.instanceMethod yX6_save, Cond.selects RX6 yX6_save yX6_save]
def wsL_law_r23 : List Cond := [Cond.code yX6_save cX6_save 1 (some .int), Cond.fieldLink RX6 148 "ConkerHeirsModel" "isSaved" "Z", Cond.methodLink RX6 152 yX6_conkers, Cond.instanceMethod yX6_conkers, Cond.selects RX6 yX6_conkers yX6_conkers, Cond.code yX6_conkers cX6_conkers 6 (some .int), Cond.methodLink RL 77 yX5_restore, Cond.instanceMethod yX5_restore, Cond.selects RX5 yX5_restore yX5_restore, Cond.code yX5_restore cX5_restore 1 (some .int), Cond.methodLink RL 80 yX6_restore, Cond.instanceMethod yX6_restore, Cond.selects RX6 yX6_restore yX6_restore, Cond.code yX6_restore cX6_restore 1 (some .int), Cond.methodLink RL 81 yX5_conker, Cond.instanceMethod yX5_conker, Cond.selects RX5 yX5_conker yX5_conker, Cond.code yX5_conker cX5_conker 3 (some .int), Cond.fieldLink RX5 170 "ConkerHeirs$State" "hardness" "[I", Cond.fieldLink RX5 173 "ConkerHeirs$State" "crack" "[I", Cond.fieldLink RX5 176 "ConkerHeirs$State" "wear" "[I", Cond.fieldLink RX5 179 "ConkerHeirs$State" "victories" "[I", Cond.fieldLink RX5 182 "ConkerHeirs$State" "smashedBy" "[I", Cond.methodLink RX5 185 yX4_conkersSmashedBy]
def wsL_law_r24 : List Cond := [Cond.instanceMethod yX4_conkersSmashedBy, Cond.selects RX4 yX4_conkersSmashedBy yX4_conkersSmashedBy, Cond.code yX4_conkersSmashedBy cX4_conkersSmashedBy 4 (some .int), Cond.methodLink RL 84 yX6_conker, Cond.instanceMethod yX6_conker, Cond.selects RX6 yX6_conker yX6_conker, Cond.code yX6_conker cX6_conker 3 (some .int), Cond.methodLink RX6 155 yX6_heirOf, Cond.instanceMethod yX6_heirOf, Cond.selects RX6 yX6_heirOf yX6_heirOf, Cond.code yX6_heirOf cX6_heirOf 4 (some .int), Cond.methodLink RL 85 yX5_player, Cond.instanceMethod yX5_player, Cond.selects RX5 yX5_player yX5_player, Cond.code yX5_player cX5_player 3 (some .int), Cond.fieldLink RX5 188 "ConkerHeirs$State" "shame" "[I", Cond.methodLink RX5 191 yX4_victoriesOf, Cond.instanceMethod yX4_victoriesOf, Cond.selects RX4 yX4_victoriesOf yX4_victoriesOf, Cond.code yX4_victoriesOf cX4_victoriesOf 4 (some .int), Cond.methodLink RX5 194 yX4_conkerToSend, Cond.methodLink RL 88 yX6_player, Cond.instanceMethod yX6_player, Cond.selects RX6 yX6_player yX6_player]
def wsL_law_r25 : List Cond := [Cond.code yX6_player cX6_player 3 (some .int), Cond.methodLink RX6 158 yX6_victories, Cond.instanceMethod yX6_victories, Cond.selects RX6 yX6_victories yX6_victories, Cond.code yX6_victories cX6_victories 5 (some .int), Cond.methodLink RL 89 yX5_ranked, Cond.instanceMethod yX5_ranked, Cond.selects RX5 yX5_ranked yX5_ranked, Cond.code yX5_ranked cX5_ranked 2 (some .int), Cond.methodLink RX5 197 yX4_conkerAtRank, Cond.instanceMethod yX4_conkerAtRank, Cond.selects RX4 yX4_conkerAtRank yX4_conkerAtRank, Cond.code yX4_conkerAtRank cX4_conkerAtRank 3 (some .int), Cond.methodLink RX4 124 yX4_conkersAheadOf, Cond.instanceMethod yX4_conkersAheadOf, Cond.selects RX4 yX4_conkersAheadOf yX4_conkersAheadOf, Cond.code yX4_conkersAheadOf cX4_conkersAheadOf 6 (some .int), Cond.methodLink RL 92 yX6_ranked, Cond.instanceMethod yX6_ranked, Cond.selects RX6 yX6_ranked yX6_ranked, Cond.code yX6_ranked cX6_ranked 3 (some .int), Cond.methodLink RX6 161 yX6_ahead, Cond.instanceMethod yX6_ahead, Cond.selects RX6 yX6_ahead yX6_ahead]
def wsL_law_r26 : List Cond := [Cond.code yX6_ahead cX6_ahead 6 (some .int), Cond.methodLink RL 93 yX5_line, Cond.instanceMethod yX5_line, Cond.selects RX5 yX5_line yX5_line, Cond.code yX5_line cX5_line 2 (some .int), Cond.methodLink RX5 200 yX4_lengthOfLine, Cond.instanceMethod yX4_lengthOfLine, Cond.selects RX4 yX4_lengthOfLine yX4_lengthOfLine, Cond.code yX4_lengthOfLine cX4_lengthOfLine 4 (some .int), Cond.methodLink RX4 130 yX4_isInLineOf, Cond.instanceMethod yX4_isInLineOf, Cond.selects RX4 yX4_isInLineOf yX4_isInLineOf, Cond.code yX4_isInLineOf cX4_isInLineOf 5 (some .boolean), Cond.methodLink RL 96 yX6_line, Cond.instanceMethod yX6_line, Cond.selects RX6 yX6_line yX6_line, Cond.code yX6_line cX6_line 4 (some .int), Cond.methodLink RX6 164 yX6_isInLine, Cond.instanceMethod yX6_isInLine, Cond.selects RX6 yX6_isInLine yX6_isInLine, Cond.code yX6_isInLine cX6_isInLine 5 (some .boolean), Cond.methodLink RL 97 yX5_count, Cond.instanceMethod yX5_count, Cond.selects RX5 yX5_count yX5_count]
def wsL_law_r27 : List Cond := [Cond.code yX5_count cX5_count 2 (some .int), Cond.fieldLink RX5 203 "ConkerHeirs$State" "lostVictories" "I", Cond.fieldLink RX5 206 "ConkerHeirs$State" "strikes" "I", Cond.fieldLink RX5 218 "ConkerHeirs$History" "held" "I", Cond.methodLink RX5 209 yX4_conkersWithHeir, Cond.instanceMethod yX4_conkersWithHeir, Cond.selects RX4 yX4_conkersWithHeir yX4_conkersWithHeir, Cond.code yX4_conkersWithHeir cX4_conkersWithHeir 1 (some .int), Cond.methodLink RX4 127 yX4_conkersSmashedBy, Cond.methodLink RX5 212 yX4_boastsTold, Cond.instanceMethod yX4_boastsTold, Cond.selects RX4 yX4_boastsTold yX4_boastsTold, Cond.code yX4_boastsTold cX4_boastsTold 3 (some .int), Cond.methodLink RX5 215 yX4_boastsTooHigh, Cond.instanceMethod yX4_boastsTooHigh, Cond.selects RX4 yX4_boastsTooHigh yX4_boastsTooHigh, Cond.code yX4_boastsTooHigh cX4_boastsTooHigh 3 (some .int), Cond.methodLink RL 100 yX6_count, Cond.instanceMethod yX6_count, Cond.selects RX6 yX6_count yX6_count, Cond.code yX6_count cX6_count 2 (some .int), Cond.methodLink RX6 167 yX6_boasts, Cond.instanceMethod yX6_boasts, Cond.selects RX6 yX6_boasts yX6_boasts]
def wsL_law_r28 : List Cond := [Cond.code yX6_boasts cX6_boasts 5 (some .int), Cond.methodLink RL 101 yX5_ifStruck, Cond.instanceMethod yX5_ifStruck, Cond.selects RX5 yX5_ifStruck yX5_ifStruck, Cond.code yX5_ifStruck cX5_ifStruck 5 (some .int), Cond.methodLink RX5 221 yX5_tryHit, Cond.instanceMethod yX5_tryHit, Cond.selects RX5 yX5_tryHit yX5_tryHit, Cond.code yX5_tryHit cX5_tryHit 4 (some .int), Cond.methodLink RL 104 yX6_ifStruck, Cond.instanceMethod yX6_ifStruck, Cond.selects RX6 yX6_ifStruck yX6_ifStruck, Cond.code yX6_ifStruck cX6_ifStruck 5 (some .int), Cond.methodLink RL 105 yX5_leastSwing, Cond.instanceMethod yX5_leastSwing, Cond.selects RX5 yX5_leastSwing yX5_leastSwing, Cond.code yX5_leastSwing cX5_leastSwing 6 (some .int), Cond.methodLink RL 108 yX6_leastSwing, Cond.instanceMethod yX6_leastSwing, Cond.selects RX6 yX6_leastSwing yX6_leastSwing, Cond.code yX6_leastSwing cX6_leastSwing 5 (some .int), Cond.methodLink RL 109 yX5_winner, Cond.instanceMethod yX5_winner, Cond.selects RX5 yX5_winner yX5_winner]
def wsL_law_r29 : List Cond := [Cond.code yX5_winner cX5_winner 7 (some .int), Cond.methodLink RL 112 yX6_winner, Cond.instanceMethod yX6_winner, Cond.selects RX6 yX6_winner yX6_winner, Cond.code yX6_winner cX6_winner 8 (some .int), Cond.methodLink RL 113 yX5_share, Cond.instanceMethod yX5_share, Cond.selects RX5 yX5_share yX5_share, Cond.code yX5_share cX5_share 3 (some .float), Cond.methodLink RL 117 yX6_share, Cond.instanceMethod yX6_share, Cond.selects RX6 yX6_share yX6_share, Cond.code yX6_share cX6_share 3 (some .float)]
def wsL_law : List Cond := (wsL_law_r1 ++ (wsL_law_r2 ++ (wsL_law_r3 ++ (wsL_law_r4 ++ (wsL_law_r5 ++ (wsL_law_r6 ++ (wsL_law_r7 ++ (wsL_law_r8 ++ (wsL_law_r9 ++ (wsL_law_r10 ++ (wsL_law_r11 ++ (wsL_law_r12 ++ (wsL_law_r13 ++ (wsL_law_r14 ++ (wsL_law_r15 ++ (wsL_law_r16 ++ (wsL_law_r17 ++ (wsL_law_r18 ++ (wsL_law_r19 ++ (wsL_law_r20 ++ (wsL_law_r21 ++ (wsL_law_r22 ++ (wsL_law_r23 ++ (wsL_law_r24 ++ (wsL_law_r25 ++ (wsL_law_r26 ++ (wsL_law_r27 ++ (wsL_law_r28 ++ wsL_law_r29)))))))))))))))))))))))))))) ++ wsX50 ++ wsX60 ++ wsX40 ++ wsX10 ++ wsX30 ++ wsX00 ++ wsX20 ++ ([] : List Cond)
theorem inlX0 : ∀ w ∈ wsX00, w ∈ wsL_law := fun _ h => List.mem_append_left _ (List.mem_append_left _ (List.mem_append_right _ h))
theorem inlX1 : ∀ w ∈ wsX10, w ∈ wsL_law := fun _ h => List.mem_append_left _ (List.mem_append_left _ (List.mem_append_left _ (List.mem_append_left _ (List.mem_append_right _ h))))
theorem inlX2 : ∀ w ∈ wsX20, w ∈ wsL_law := fun _ h => List.mem_append_left _ (List.mem_append_right _ h)
theorem inlX3 : ∀ w ∈ wsX30, w ∈ wsL_law := fun _ h => List.mem_append_left _ (List.mem_append_left _ (List.mem_append_left _ (List.mem_append_right _ h)))
theorem inlX4 : ∀ w ∈ wsX40, w ∈ wsL_law := fun _ h => List.mem_append_left _ (List.mem_append_left _ (List.mem_append_left _ (List.mem_append_left _ (List.mem_append_left _ (List.mem_append_right _ h)))))
theorem inlX5 : ∀ w ∈ wsX50, w ∈ wsL_law := fun _ h => List.mem_append_left _ (List.mem_append_left _ (List.mem_append_left _ (List.mem_append_left _ (List.mem_append_left _ (List.mem_append_left _ (List.mem_append_left _ (List.mem_append_right _ h)))))))
theorem inlX6 : ∀ w ∈ wsX60, w ∈ wsL_law := fun _ h => List.mem_append_left _ (List.mem_append_left _ (List.mem_append_left _ (List.mem_append_left _ (List.mem_append_left _ (List.mem_append_left _ (List.mem_append_right _ h))))))
theorem inJ9 : ∀ w ∈ wsJ90, w ∈ lw_tbl := by decide +kernel
theorem inJ10 : ∀ w ∈ wsJ100, w ∈ lw_tbl := by decide +kernel
theorem dX0_init_0 : decode cX0_init 0 = .ok (.aload_n 0, 1) := by decide +kernel
theorem dX0_init_1 : decode cX0_init 1 = .ok (.invokespecial 1, 3) := by decide +kernel
theorem dX0_init_4 : decode cX0_init 4 = .ok (.aload_n 0, 1) := by decide +kernel
theorem dX0_init_5 : decode cX0_init 5 = .ok (.iconst 0, 1) := by decide +kernel
theorem dX0_init_6 : decode cX0_init 6 = .ok (.putfield 7, 3) := by decide +kernel
theorem dX0_init_9 : decode cX0_init 9 = .ok (.return_, 1) := by decide +kernel
theorem dX0_begin_0 : decode cX0_begin 0 = .ok (.aload_n 0, 1) := by decide +kernel
theorem dX0_begin_1 : decode cX0_begin 1 = .ok (.iload_n 1, 1) := by decide +kernel
theorem dX0_begin_2 : decode cX0_begin 2 = .ok (.putfield 7, 3) := by decide +kernel
theorem dX0_begin_5 : decode cX0_begin 5 = .ok (.return_, 1) := by decide +kernel
theorem dX0_next_0 : decode cX0_next 0 = .ok (.aload_n 0, 1) := by decide +kernel
theorem dX0_next_1 : decode cX0_next 1 = .ok (.sipush 25173, 3) := by decide +kernel
theorem dX0_next_4 : decode cX0_next 4 = .ok (.aload_n 0, 1) := by decide +kernel
theorem dX0_next_5 : decode cX0_next 5 = .ok (.getfield 7, 3) := by decide +kernel
theorem dX0_next_8 : decode cX0_next 8 = .ok (.imul, 1) := by decide +kernel
theorem dX0_next_9 : decode cX0_next 9 = .ok (.sipush 13849, 3) := by decide +kernel
theorem dX0_next_12 : decode cX0_next 12 = .ok (.iadd, 1) := by decide +kernel
theorem dX0_next_13 : decode cX0_next 13 = .ok (.ldc 13, 2) := by decide +kernel
theorem dX0_next_15 : decode cX0_next 15 = .ok (.irem, 1) := by decide +kernel
theorem dX0_next_16 : decode cX0_next 16 = .ok (.putfield 7, 3) := by decide +kernel
theorem dX0_next_19 : decode cX0_next 19 = .ok (.aload_n 0, 1) := by decide +kernel
theorem dX0_next_20 : decode cX0_next 20 = .ok (.getfield 7, 3) := by decide +kernel
theorem dX0_next_23 : decode cX0_next 23 = .ok (.ireturn, 1) := by decide +kernel
set_option maxRecDepth 20000 in
theorem ggX0_swing_X0_next : GoodIn wsX0_swing wsX0_next := goodIn_r _ [5, 6, 7, 8] (by decide +kernel) (by decide +kernel)
set_option maxRecDepth 20000 in
theorem gX0_swing_X0_next : GoodIn wsX0_swing (wsV RX0 14 RX0 yX0_next wsX0_next) := goodIn_app (goodIn_of _ (by decide +kernel)) ggX0_swing_X0_next
theorem dX0_swing_0 : decode cX0_swing 0 = .ok (.iconst 1, 1) := by decide +kernel
theorem dX0_swing_1 : decode cX0_swing 1 = .ok (.aload_n 0, 1) := by decide +kernel
theorem dX0_swing_2 : decode cX0_swing 2 = .ok (.invokevirtual 14, 3) := by decide +kernel
theorem dX0_swing_5 : decode cX0_swing 5 = .ok (.sipush 7282, 3) := by decide +kernel
theorem dX0_swing_8 : decode cX0_swing 8 = .ok (.idiv, 1) := by decide +kernel
theorem dX0_swing_9 : decode cX0_swing 9 = .ok (.iadd, 1) := by decide +kernel
theorem dX0_swing_10 : decode cX0_swing 10 = .ok (.ireturn, 1) := by decide +kernel
set_option maxRecDepth 20000 in
theorem ggX1_init_X4_init : GoodIn wsX1_init wsX4_init := goodIn_r _ [11, 12, 2, 3, 13, 14, 15, 16, 17, 18, 19, 20, 21, 22, 23, 24, 25, 26, 29, 30, 31, 32, 33, 34, 35, 36, 37, 38, 39, 40, 41] (by decide +kernel) (by decide +kernel)
set_option maxRecDepth 20000 in
theorem gX1_init_X4_init : GoodIn wsX1_init (wsX4_init) := ggX1_init_X4_init
theorem dX1_init_0 : decode cX1_init 0 = .ok (.aload_n 0, 1) := by decide +kernel
theorem dX1_init_1 : decode cX1_init 1 = .ok (.invokespecial 3, 3) := by decide +kernel
theorem dX1_init_4 : decode cX1_init 4 = .ok (.aload_n 0, 1) := by decide +kernel
theorem dX1_init_5 : decode cX1_init 5 = .ok (.iconst 5, 1) := by decide +kernel
theorem dX1_init_6 : decode cX1_init 6 = .ok (.anewarray 9, 3) := by decide +kernel
theorem dX1_init_9 : decode cX1_init 9 = .ok (.putfield 11, 3) := by decide +kernel
theorem dX1_init_12 : decode cX1_init 12 = .ok (.aload_n 0, 1) := by decide +kernel
theorem dX1_init_13 : decode cX1_init 13 = .ok (.iconst 0, 1) := by decide +kernel
theorem dX1_init_14 : decode cX1_init 14 = .ok (.putfield 17, 3) := by decide +kernel
theorem dX1_init_17 : decode cX1_init 17 = .ok (.iconst 0, 1) := by decide +kernel
theorem dX1_init_18 : decode cX1_init 18 = .ok (.istore_n 1, 1) := by decide +kernel
theorem dX1_init_19 : decode cX1_init 19 = .ok (.iload_n 1, 1) := by decide +kernel
theorem dX1_init_20 : decode cX1_init 20 = .ok (.iconst 5, 1) := by decide +kernel
theorem dX1_init_21 : decode cX1_init 21 = .ok (.if_icmp .ge 22, 3) := by decide +kernel
theorem dX1_init_24 : decode cX1_init 24 = .ok (.aload_n 0, 1) := by decide +kernel
theorem dX1_init_25 : decode cX1_init 25 = .ok (.getfield 11, 3) := by decide +kernel
theorem dX1_init_28 : decode cX1_init 28 = .ok (.iload_n 1, 1) := by decide +kernel
theorem dX1_init_29 : decode cX1_init 29 = .ok (.new 9, 3) := by decide +kernel
theorem dX1_init_32 : decode cX1_init 32 = .ok (.dup, 1) := by decide +kernel
theorem dX1_init_33 : decode cX1_init 33 = .ok (.invokespecial 21, 3) := by decide +kernel
theorem dX1_init_36 : decode cX1_init 36 = .ok (.aastore, 1) := by decide +kernel
theorem dX1_init_37 : decode cX1_init 37 = .ok (.iinc 1 1, 3) := by decide +kernel
theorem dX1_init_40 : decode cX1_init 40 = .ok (.goto (-21), 3) := by decide +kernel
theorem dX1_init_43 : decode cX1_init 43 = .ok (.return_, 1) := by decide +kernel
set_option maxRecDepth 20000 in
theorem ggX1_keep_X1_dropOldest : GoodIn wsX1_keep wsX1_dropOldest := goodIn_r _ [7, 2, 1, 30, 31] (by decide +kernel) (by decide +kernel)
set_option maxRecDepth 20000 in
theorem gX1_keep_X1_dropOldest : GoodIn wsX1_keep (wsV RX1 22 RX1 yX1_dropOldest wsX1_dropOldest) := goodIn_app (goodIn_of _ (by decide +kernel)) ggX1_keep_X1_dropOldest
set_option maxRecDepth 20000 in
theorem ggX1_keep_X4_copyFrom : GoodIn wsX1_keep wsX4_copyFrom := goodIn_r _ [12, 13, 14, 15, 16, 17, 18, 19, 20, 21, 22, 23, 24, 25, 26, 27, 28, 29, 32, 33, 34, 35, 36, 37, 38, 39, 40, 41, 42, 43, 44] (by decide +kernel) (by decide +kernel)
set_option maxRecDepth 20000 in
theorem gX1_keep_X4_copyFrom : GoodIn wsX1_keep (wsV RX1 25 RX4 yX4_copyFrom wsX4_copyFrom) := goodIn_app (goodIn_of _ (by decide +kernel)) ggX1_keep_X4_copyFrom
theorem dX1_keep_0 : decode cX1_keep 0 = .ok (.aload_n 0, 1) := by decide +kernel
theorem dX1_keep_1 : decode cX1_keep 1 = .ok (.getfield 17, 3) := by decide +kernel
theorem dX1_keep_4 : decode cX1_keep 4 = .ok (.iconst 5, 1) := by decide +kernel
theorem dX1_keep_5 : decode cX1_keep 5 = .ok (.if_icmp .lt 7, 3) := by decide +kernel
theorem dX1_keep_8 : decode cX1_keep 8 = .ok (.aload_n 0, 1) := by decide +kernel
theorem dX1_keep_9 : decode cX1_keep 9 = .ok (.invokevirtual 22, 3) := by decide +kernel
theorem dX1_keep_12 : decode cX1_keep 12 = .ok (.aload_n 0, 1) := by decide +kernel
theorem dX1_keep_13 : decode cX1_keep 13 = .ok (.getfield 11, 3) := by decide +kernel
theorem dX1_keep_16 : decode cX1_keep 16 = .ok (.aload_n 0, 1) := by decide +kernel
theorem dX1_keep_17 : decode cX1_keep 17 = .ok (.getfield 17, 3) := by decide +kernel
theorem dX1_keep_20 : decode cX1_keep 20 = .ok (.aaload, 1) := by decide +kernel
theorem dX1_keep_21 : decode cX1_keep 21 = .ok (.aload_n 1, 1) := by decide +kernel
theorem dX1_keep_22 : decode cX1_keep 22 = .ok (.invokevirtual 25, 3) := by decide +kernel
theorem dX1_keep_25 : decode cX1_keep 25 = .ok (.aload_n 0, 1) := by decide +kernel
theorem dX1_keep_26 : decode cX1_keep 26 = .ok (.dup, 1) := by decide +kernel
theorem dX1_keep_27 : decode cX1_keep 27 = .ok (.getfield 17, 3) := by decide +kernel
theorem dX1_keep_30 : decode cX1_keep 30 = .ok (.iconst 1, 1) := by decide +kernel
theorem dX1_keep_31 : decode cX1_keep 31 = .ok (.iadd, 1) := by decide +kernel
theorem dX1_keep_32 : decode cX1_keep 32 = .ok (.putfield 17, 3) := by decide +kernel
theorem dX1_keep_35 : decode cX1_keep 35 = .ok (.return_, 1) := by decide +kernel
set_option maxRecDepth 20000 in
theorem ggX1_bringBack_X4_copyFrom : GoodIn wsX1_bringBack wsX4_copyFrom := goodIn_r _ [7, 8, 9, 10, 11, 12, 13, 14, 15, 16, 17, 18, 19, 20, 21, 22, 23, 24, 27, 28, 29, 30, 31, 32, 33, 34, 35, 36, 37, 38, 39] (by decide +kernel) (by decide +kernel)
set_option maxRecDepth 20000 in
theorem gX1_bringBack_X4_copyFrom : GoodIn wsX1_bringBack (wsV RX1 25 RX4 yX4_copyFrom wsX4_copyFrom) := goodIn_app (goodIn_of _ (by decide +kernel)) ggX1_bringBack_X4_copyFrom
theorem dX1_bringBack_0 : decode cX1_bringBack 0 = .ok (.aload_n 0, 1) := by decide +kernel
theorem dX1_bringBack_1 : decode cX1_bringBack 1 = .ok (.getfield 17, 3) := by decide +kernel
theorem dX1_bringBack_4 : decode cX1_bringBack 4 = .ok (.iconst 1, 1) := by decide +kernel
theorem dX1_bringBack_5 : decode cX1_bringBack 5 = .ok (.if_icmp .ge 6, 3) := by decide +kernel
theorem dX1_bringBack_8 : decode cX1_bringBack 8 = .ok (.bipush (-5), 2) := by decide +kernel
theorem dX1_bringBack_10 : decode cX1_bringBack 10 = .ok (.ireturn, 1) := by decide +kernel
theorem dX1_bringBack_11 : decode cX1_bringBack 11 = .ok (.aload_n 0, 1) := by decide +kernel
theorem dX1_bringBack_12 : decode cX1_bringBack 12 = .ok (.dup, 1) := by decide +kernel
theorem dX1_bringBack_13 : decode cX1_bringBack 13 = .ok (.getfield 17, 3) := by decide +kernel
theorem dX1_bringBack_16 : decode cX1_bringBack 16 = .ok (.iconst 1, 1) := by decide +kernel
theorem dX1_bringBack_17 : decode cX1_bringBack 17 = .ok (.isub, 1) := by decide +kernel
theorem dX1_bringBack_18 : decode cX1_bringBack 18 = .ok (.putfield 17, 3) := by decide +kernel
theorem dX1_bringBack_21 : decode cX1_bringBack 21 = .ok (.aload_n 1, 1) := by decide +kernel
theorem dX1_bringBack_22 : decode cX1_bringBack 22 = .ok (.aload_n 0, 1) := by decide +kernel
theorem dX1_bringBack_23 : decode cX1_bringBack 23 = .ok (.getfield 11, 3) := by decide +kernel
theorem dX1_bringBack_26 : decode cX1_bringBack 26 = .ok (.aload_n 0, 1) := by decide +kernel
theorem dX1_bringBack_27 : decode cX1_bringBack 27 = .ok (.getfield 17, 3) := by decide +kernel
theorem dX1_bringBack_30 : decode cX1_bringBack 30 = .ok (.aaload, 1) := by decide +kernel
theorem dX1_bringBack_31 : decode cX1_bringBack 31 = .ok (.invokevirtual 25, 3) := by decide +kernel
theorem dX1_bringBack_34 : decode cX1_bringBack 34 = .ok (.aload_n 0, 1) := by decide +kernel
theorem dX1_bringBack_35 : decode cX1_bringBack 35 = .ok (.getfield 17, 3) := by decide +kernel
theorem dX1_bringBack_38 : decode cX1_bringBack 38 = .ok (.ireturn, 1) := by decide +kernel
theorem dX1_dropOldest_0 : decode cX1_dropOldest 0 = .ok (.aload_n 0, 1) := by decide +kernel
theorem dX1_dropOldest_1 : decode cX1_dropOldest 1 = .ok (.getfield 11, 3) := by decide +kernel
theorem dX1_dropOldest_4 : decode cX1_dropOldest 4 = .ok (.iconst 0, 1) := by decide +kernel
theorem dX1_dropOldest_5 : decode cX1_dropOldest 5 = .ok (.aaload, 1) := by decide +kernel
theorem dX1_dropOldest_6 : decode cX1_dropOldest 6 = .ok (.astore_n 1, 1) := by decide +kernel
theorem dX1_dropOldest_7 : decode cX1_dropOldest 7 = .ok (.iconst 1, 1) := by decide +kernel
theorem dX1_dropOldest_8 : decode cX1_dropOldest 8 = .ok (.istore_n 2, 1) := by decide +kernel
theorem dX1_dropOldest_9 : decode cX1_dropOldest 9 = .ok (.iload_n 2, 1) := by decide +kernel
theorem dX1_dropOldest_10 : decode cX1_dropOldest 10 = .ok (.iconst 5, 1) := by decide +kernel
theorem dX1_dropOldest_11 : decode cX1_dropOldest 11 = .ok (.if_icmp .ge 23, 3) := by decide +kernel
theorem dX1_dropOldest_14 : decode cX1_dropOldest 14 = .ok (.aload_n 0, 1) := by decide +kernel
theorem dX1_dropOldest_15 : decode cX1_dropOldest 15 = .ok (.getfield 11, 3) := by decide +kernel
theorem dX1_dropOldest_18 : decode cX1_dropOldest 18 = .ok (.iload_n 2, 1) := by decide +kernel
theorem dX1_dropOldest_19 : decode cX1_dropOldest 19 = .ok (.iconst 1, 1) := by decide +kernel
theorem dX1_dropOldest_20 : decode cX1_dropOldest 20 = .ok (.isub, 1) := by decide +kernel
theorem dX1_dropOldest_21 : decode cX1_dropOldest 21 = .ok (.aload_n 0, 1) := by decide +kernel
theorem dX1_dropOldest_22 : decode cX1_dropOldest 22 = .ok (.getfield 11, 3) := by decide +kernel
theorem dX1_dropOldest_25 : decode cX1_dropOldest 25 = .ok (.iload_n 2, 1) := by decide +kernel
theorem dX1_dropOldest_26 : decode cX1_dropOldest 26 = .ok (.aaload, 1) := by decide +kernel
theorem dX1_dropOldest_27 : decode cX1_dropOldest 27 = .ok (.aastore, 1) := by decide +kernel
theorem dX1_dropOldest_28 : decode cX1_dropOldest 28 = .ok (.iinc 2 1, 3) := by decide +kernel
theorem dX1_dropOldest_31 : decode cX1_dropOldest 31 = .ok (.goto (-22), 3) := by decide +kernel
theorem dX1_dropOldest_34 : decode cX1_dropOldest 34 = .ok (.aload_n 0, 1) := by decide +kernel
theorem dX1_dropOldest_35 : decode cX1_dropOldest 35 = .ok (.getfield 11, 3) := by decide +kernel
theorem dX1_dropOldest_38 : decode cX1_dropOldest 38 = .ok (.iconst 4, 1) := by decide +kernel
theorem dX1_dropOldest_39 : decode cX1_dropOldest 39 = .ok (.aload_n 1, 1) := by decide +kernel
theorem dX1_dropOldest_40 : decode cX1_dropOldest 40 = .ok (.aastore, 1) := by decide +kernel
theorem dX1_dropOldest_41 : decode cX1_dropOldest 41 = .ok (.aload_n 0, 1) := by decide +kernel
theorem dX1_dropOldest_42 : decode cX1_dropOldest 42 = .ok (.dup, 1) := by decide +kernel
theorem dX1_dropOldest_43 : decode cX1_dropOldest 43 = .ok (.getfield 17, 3) := by decide +kernel
theorem dX1_dropOldest_46 : decode cX1_dropOldest 46 = .ok (.iconst 1, 1) := by decide +kernel
theorem dX1_dropOldest_47 : decode cX1_dropOldest 47 = .ok (.isub, 1) := by decide +kernel
theorem dX1_dropOldest_48 : decode cX1_dropOldest 48 = .ok (.putfield 17, 3) := by decide +kernel
theorem dX1_dropOldest_51 : decode cX1_dropOldest 51 = .ok (.return_, 1) := by decide +kernel
theorem dX2_init_0 : decode cX2_init 0 = .ok (.aload_n 0, 1) := by decide +kernel
theorem dX2_init_1 : decode cX2_init 1 = .ok (.invokespecial 3, 3) := by decide +kernel
theorem dX2_init_4 : decode cX2_init 4 = .ok (.aload_n 0, 1) := by decide +kernel
theorem dX2_init_5 : decode cX2_init 5 = .ok (.bipush 6, 2) := by decide +kernel
theorem dX2_init_7 : decode cX2_init 7 = .ok (.newarray .int, 2) := by decide +kernel
theorem dX2_init_9 : decode cX2_init 9 = .ok (.putfield 9, 3) := by decide +kernel
theorem dX2_init_12 : decode cX2_init 12 = .ok (.aload_n 0, 1) := by decide +kernel
theorem dX2_init_13 : decode cX2_init 13 = .ok (.iconst 0, 1) := by decide +kernel
theorem dX2_init_14 : decode cX2_init 14 = .ok (.putfield 15, 3) := by decide +kernel
theorem dX2_init_17 : decode cX2_init 17 = .ok (.return_, 1) := by decide +kernel
set_option maxRecDepth 20000 in
theorem ggX2_lineUp_X4_conkerToSend : GoodIn wsX2_lineUp wsX4_conkerToSend := goodIn_r _ [6, 7, 8, 9, 10, 21, 22, 23, 24, 25, 26, 27, 28, 29, 30, 31, 32, 33] (by decide +kernel) (by decide +kernel)
set_option maxRecDepth 20000 in
theorem gX2_lineUp_X4_conkerToSend : GoodIn wsX2_lineUp (wsV RX2 19 RX4 yX4_conkerToSend wsX4_conkerToSend) := goodIn_app (goodIn_of _ (by decide +kernel)) ggX2_lineUp_X4_conkerToSend
set_option maxRecDepth 20000 in
theorem ggX2_lineUp_X2_insert : GoodIn wsX2_lineUp wsX2_insert := goodIn_r _ [15, 16, 17, 1, 18, 21, 22, 23, 24, 25, 26, 27, 28, 29, 30, 31, 32, 33, 19, 20] (by decide +kernel) (by decide +kernel)
set_option maxRecDepth 20000 in
theorem gX2_lineUp_X2_insert : GoodIn wsX2_lineUp (wsV RX2 25 RX2 yX2_insert wsX2_insert) := goodIn_app (goodIn_of _ (by decide +kernel)) ggX2_lineUp_X2_insert
theorem dX2_lineUp_0 : decode cX2_lineUp 0 = .ok (.aload_n 0, 1) := by decide +kernel
theorem dX2_lineUp_1 : decode cX2_lineUp 1 = .ok (.iconst 0, 1) := by decide +kernel
theorem dX2_lineUp_2 : decode cX2_lineUp 2 = .ok (.putfield 15, 3) := by decide +kernel
theorem dX2_lineUp_5 : decode cX2_lineUp 5 = .ok (.iconst 0, 1) := by decide +kernel
theorem dX2_lineUp_6 : decode cX2_lineUp 6 = .ok (.istore_n 2, 1) := by decide +kernel
theorem dX2_lineUp_7 : decode cX2_lineUp 7 = .ok (.iload_n 2, 1) := by decide +kernel
theorem dX2_lineUp_8 : decode cX2_lineUp 8 = .ok (.bipush 6, 2) := by decide +kernel
theorem dX2_lineUp_10 : decode cX2_lineUp 10 = .ok (.if_icmp .ge 25, 3) := by decide +kernel
theorem dX2_lineUp_13 : decode cX2_lineUp 13 = .ok (.aload_n 1, 1) := by decide +kernel
theorem dX2_lineUp_14 : decode cX2_lineUp 14 = .ok (.iload_n 2, 1) := by decide +kernel
theorem dX2_lineUp_15 : decode cX2_lineUp 15 = .ok (.invokevirtual 19, 3) := by decide +kernel
theorem dX2_lineUp_18 : decode cX2_lineUp 18 = .ok (.istore_n 3, 1) := by decide +kernel
theorem dX2_lineUp_19 : decode cX2_lineUp 19 = .ok (.iload_n 3, 1) := by decide +kernel
theorem dX2_lineUp_20 : decode cX2_lineUp 20 = .ok (.ifCond .lt 9, 3) := by decide +kernel
theorem dX2_lineUp_23 : decode cX2_lineUp 23 = .ok (.aload_n 0, 1) := by decide +kernel
theorem dX2_lineUp_24 : decode cX2_lineUp 24 = .ok (.iload_n 3, 1) := by decide +kernel
theorem dX2_lineUp_25 : decode cX2_lineUp 25 = .ok (.aload_n 1, 1) := by decide +kernel
theorem dX2_lineUp_26 : decode cX2_lineUp 26 = .ok (.invokevirtual 25, 3) := by decide +kernel
theorem dX2_lineUp_29 : decode cX2_lineUp 29 = .ok (.iinc 2 1, 3) := by decide +kernel
theorem dX2_lineUp_32 : decode cX2_lineUp 32 = .ok (.goto (-25), 3) := by decide +kernel
theorem dX2_lineUp_35 : decode cX2_lineUp 35 = .ok (.return_, 1) := by decide +kernel
theorem dX2_insert_0 : decode cX2_insert 0 = .ok (.aload_n 2, 1) := by decide +kernel
theorem dX2_insert_1 : decode cX2_insert 1 = .ok (.getfield 29, 3) := by decide +kernel
theorem dX2_insert_4 : decode cX2_insert 4 = .ok (.aload_n 2, 1) := by decide +kernel
theorem dX2_insert_5 : decode cX2_insert 5 = .ok (.getfield 32, 3) := by decide +kernel
theorem dX2_insert_8 : decode cX2_insert 8 = .ok (.iload_n 1, 1) := by decide +kernel
theorem dX2_insert_9 : decode cX2_insert 9 = .ok (.iaload, 1) := by decide +kernel
theorem dX2_insert_10 : decode cX2_insert 10 = .ok (.iaload, 1) := by decide +kernel
theorem dX2_insert_11 : decode cX2_insert 11 = .ok (.istore_n 3, 1) := by decide +kernel
theorem dX2_insert_12 : decode cX2_insert 12 = .ok (.aload_n 0, 1) := by decide +kernel
theorem dX2_insert_13 : decode cX2_insert 13 = .ok (.getfield 15, 3) := by decide +kernel
theorem dX2_insert_16 : decode cX2_insert 16 = .ok (.istore 4, 2) := by decide +kernel
theorem dX2_insert_18 : decode cX2_insert 18 = .ok (.iload 4, 2) := by decide +kernel
theorem dX2_insert_20 : decode cX2_insert 20 = .ok (.ifCond .le 48, 3) := by decide +kernel
theorem dX2_insert_23 : decode cX2_insert 23 = .ok (.aload_n 2, 1) := by decide +kernel
theorem dX2_insert_24 : decode cX2_insert 24 = .ok (.getfield 29, 3) := by decide +kernel
theorem dX2_insert_27 : decode cX2_insert 27 = .ok (.aload_n 2, 1) := by decide +kernel
theorem dX2_insert_28 : decode cX2_insert 28 = .ok (.getfield 32, 3) := by decide +kernel
theorem dX2_insert_31 : decode cX2_insert 31 = .ok (.aload_n 0, 1) := by decide +kernel
theorem dX2_insert_32 : decode cX2_insert 32 = .ok (.getfield 9, 3) := by decide +kernel
theorem dX2_insert_35 : decode cX2_insert 35 = .ok (.iload 4, 2) := by decide +kernel
theorem dX2_insert_37 : decode cX2_insert 37 = .ok (.iconst 1, 1) := by decide +kernel
theorem dX2_insert_38 : decode cX2_insert 38 = .ok (.isub, 1) := by decide +kernel
theorem dX2_insert_39 : decode cX2_insert 39 = .ok (.iaload, 1) := by decide +kernel
theorem dX2_insert_40 : decode cX2_insert 40 = .ok (.iaload, 1) := by decide +kernel
theorem dX2_insert_41 : decode cX2_insert 41 = .ok (.iaload, 1) := by decide +kernel
theorem dX2_insert_42 : decode cX2_insert 42 = .ok (.iload_n 3, 1) := by decide +kernel
theorem dX2_insert_43 : decode cX2_insert 43 = .ok (.if_icmp .le 25, 3) := by decide +kernel
theorem dX2_insert_46 : decode cX2_insert 46 = .ok (.aload_n 0, 1) := by decide +kernel
theorem dX2_insert_47 : decode cX2_insert 47 = .ok (.getfield 9, 3) := by decide +kernel
theorem dX2_insert_50 : decode cX2_insert 50 = .ok (.iload 4, 2) := by decide +kernel
theorem dX2_insert_52 : decode cX2_insert 52 = .ok (.aload_n 0, 1) := by decide +kernel
theorem dX2_insert_53 : decode cX2_insert 53 = .ok (.getfield 9, 3) := by decide +kernel
theorem dX2_insert_56 : decode cX2_insert 56 = .ok (.iload 4, 2) := by decide +kernel
theorem dX2_insert_58 : decode cX2_insert 58 = .ok (.iconst 1, 1) := by decide +kernel
theorem dX2_insert_59 : decode cX2_insert 59 = .ok (.isub, 1) := by decide +kernel
theorem dX2_insert_60 : decode cX2_insert 60 = .ok (.iaload, 1) := by decide +kernel
theorem dX2_insert_61 : decode cX2_insert 61 = .ok (.iastore, 1) := by decide +kernel
theorem dX2_insert_62 : decode cX2_insert 62 = .ok (.iinc 4 (-1), 3) := by decide +kernel
theorem dX2_insert_65 : decode cX2_insert 65 = .ok (.goto (-47), 3) := by decide +kernel
theorem dX2_insert_68 : decode cX2_insert 68 = .ok (.aload_n 0, 1) := by decide +kernel
theorem dX2_insert_69 : decode cX2_insert 69 = .ok (.getfield 9, 3) := by decide +kernel
theorem dX2_insert_72 : decode cX2_insert 72 = .ok (.iload 4, 2) := by decide +kernel
theorem dX2_insert_74 : decode cX2_insert 74 = .ok (.iload_n 1, 1) := by decide +kernel
theorem dX2_insert_75 : decode cX2_insert 75 = .ok (.iastore, 1) := by decide +kernel
theorem dX2_insert_76 : decode cX2_insert 76 = .ok (.aload_n 0, 1) := by decide +kernel
theorem dX2_insert_77 : decode cX2_insert 77 = .ok (.dup, 1) := by decide +kernel
theorem dX2_insert_78 : decode cX2_insert 78 = .ok (.getfield 15, 3) := by decide +kernel
theorem dX2_insert_81 : decode cX2_insert 81 = .ok (.iconst 1, 1) := by decide +kernel
theorem dX2_insert_82 : decode cX2_insert 82 = .ok (.iadd, 1) := by decide +kernel
theorem dX2_insert_83 : decode cX2_insert 83 = .ok (.putfield 15, 3) := by decide +kernel
theorem dX2_insert_86 : decode cX2_insert 86 = .ok (.return_, 1) := by decide +kernel
theorem dX2_takeOut_0 : decode cX2_takeOut 0 = .ok (.aload_n 0, 1) := by decide +kernel
theorem dX2_takeOut_1 : decode cX2_takeOut 1 = .ok (.getfield 9, 3) := by decide +kernel
theorem dX2_takeOut_4 : decode cX2_takeOut 4 = .ok (.iload_n 1, 1) := by decide +kernel
theorem dX2_takeOut_5 : decode cX2_takeOut 5 = .ok (.iaload, 1) := by decide +kernel
theorem dX2_takeOut_6 : decode cX2_takeOut 6 = .ok (.istore_n 2, 1) := by decide +kernel
theorem dX2_takeOut_7 : decode cX2_takeOut 7 = .ok (.iload_n 1, 1) := by decide +kernel
theorem dX2_takeOut_8 : decode cX2_takeOut 8 = .ok (.iconst 1, 1) := by decide +kernel
theorem dX2_takeOut_9 : decode cX2_takeOut 9 = .ok (.iadd, 1) := by decide +kernel
theorem dX2_takeOut_10 : decode cX2_takeOut 10 = .ok (.istore_n 3, 1) := by decide +kernel
theorem dX2_takeOut_11 : decode cX2_takeOut 11 = .ok (.iload_n 3, 1) := by decide +kernel
theorem dX2_takeOut_12 : decode cX2_takeOut 12 = .ok (.aload_n 0, 1) := by decide +kernel
theorem dX2_takeOut_13 : decode cX2_takeOut 13 = .ok (.getfield 15, 3) := by decide +kernel
theorem dX2_takeOut_16 : decode cX2_takeOut 16 = .ok (.if_icmp .ge 23, 3) := by decide +kernel
theorem dX2_takeOut_19 : decode cX2_takeOut 19 = .ok (.aload_n 0, 1) := by decide +kernel
theorem dX2_takeOut_20 : decode cX2_takeOut 20 = .ok (.getfield 9, 3) := by decide +kernel
theorem dX2_takeOut_23 : decode cX2_takeOut 23 = .ok (.iload_n 3, 1) := by decide +kernel
theorem dX2_takeOut_24 : decode cX2_takeOut 24 = .ok (.iconst 1, 1) := by decide +kernel
theorem dX2_takeOut_25 : decode cX2_takeOut 25 = .ok (.isub, 1) := by decide +kernel
theorem dX2_takeOut_26 : decode cX2_takeOut 26 = .ok (.aload_n 0, 1) := by decide +kernel
theorem dX2_takeOut_27 : decode cX2_takeOut 27 = .ok (.getfield 9, 3) := by decide +kernel
theorem dX2_takeOut_30 : decode cX2_takeOut 30 = .ok (.iload_n 3, 1) := by decide +kernel
theorem dX2_takeOut_31 : decode cX2_takeOut 31 = .ok (.iaload, 1) := by decide +kernel
theorem dX2_takeOut_32 : decode cX2_takeOut 32 = .ok (.iastore, 1) := by decide +kernel
theorem dX2_takeOut_33 : decode cX2_takeOut 33 = .ok (.iinc 3 1, 3) := by decide +kernel
theorem dX2_takeOut_36 : decode cX2_takeOut 36 = .ok (.goto (-25), 3) := by decide +kernel
theorem dX2_takeOut_39 : decode cX2_takeOut 39 = .ok (.aload_n 0, 1) := by decide +kernel
theorem dX2_takeOut_40 : decode cX2_takeOut 40 = .ok (.dup, 1) := by decide +kernel
theorem dX2_takeOut_41 : decode cX2_takeOut 41 = .ok (.getfield 15, 3) := by decide +kernel
theorem dX2_takeOut_44 : decode cX2_takeOut 44 = .ok (.iconst 1, 1) := by decide +kernel
theorem dX2_takeOut_45 : decode cX2_takeOut 45 = .ok (.isub, 1) := by decide +kernel
theorem dX2_takeOut_46 : decode cX2_takeOut 46 = .ok (.putfield 15, 3) := by decide +kernel
theorem dX2_takeOut_49 : decode cX2_takeOut 49 = .ok (.iload_n 2, 1) := by decide +kernel
theorem dX2_takeOut_50 : decode cX2_takeOut 50 = .ok (.ireturn, 1) := by decide +kernel
theorem dX3_init_0 : decode cX3_init 0 = .ok (.aload_n 0, 1) := by decide +kernel
theorem dX3_init_1 : decode cX3_init 1 = .ok (.invokespecial 3, 3) := by decide +kernel
theorem dX3_init_4 : decode cX3_init 4 = .ok (.aload_n 0, 1) := by decide +kernel
theorem dX3_init_5 : decode cX3_init 5 = .ok (.bipush 60, 2) := by decide +kernel
theorem dX3_init_7 : decode cX3_init 7 = .ok (.newarray .char, 2) := by decide +kernel
theorem dX3_init_9 : decode cX3_init 9 = .ok (.putfield 9, 3) := by decide +kernel
theorem dX3_init_12 : decode cX3_init 12 = .ok (.aload_n 0, 1) := by decide +kernel
theorem dX3_init_13 : decode cX3_init 13 = .ok (.iconst 0, 1) := by decide +kernel
theorem dX3_init_14 : decode cX3_init 14 = .ok (.putfield 15, 3) := by decide +kernel
theorem dX3_init_17 : decode cX3_init 17 = .ok (.aload_n 0, 1) := by decide +kernel
theorem dX3_init_18 : decode cX3_init 18 = .ok (.iconst 0, 1) := by decide +kernel
theorem dX3_init_19 : decode cX3_init 19 = .ok (.putfield 19, 3) := by decide +kernel
theorem dX3_init_22 : decode cX3_init 22 = .ok (.aload_n 0, 1) := by decide +kernel
theorem dX3_init_23 : decode cX3_init 23 = .ok (.iconst 0, 1) := by decide +kernel
theorem dX3_init_24 : decode cX3_init 24 = .ok (.putfield 22, 3) := by decide +kernel
theorem dX3_init_27 : decode cX3_init 27 = .ok (.aload_n 0, 1) := by decide +kernel
theorem dX3_init_28 : decode cX3_init 28 = .ok (.iconst 0, 1) := by decide +kernel
theorem dX3_init_29 : decode cX3_init 29 = .ok (.putfield 26, 3) := by decide +kernel
theorem dX3_init_32 : decode cX3_init 32 = .ok (.aload_n 0, 1) := by decide +kernel
theorem dX3_init_33 : decode cX3_init 33 = .ok (.iconst 0, 1) := by decide +kernel
theorem dX3_init_34 : decode cX3_init 34 = .ok (.putfield 29, 3) := by decide +kernel
theorem dX3_init_37 : decode cX3_init 37 = .ok (.aload_n 0, 1) := by decide +kernel
theorem dX3_init_38 : decode cX3_init 38 = .ok (.iconst 0, 1) := by decide +kernel
theorem dX3_init_39 : decode cX3_init 39 = .ok (.putfield 32, 3) := by decide +kernel
theorem dX3_init_42 : decode cX3_init 42 = .ok (.return_, 1) := by decide +kernel
theorem dX3_rewind_0 : decode cX3_rewind 0 = .ok (.aload_n 0, 1) := by decide +kernel
theorem dX3_rewind_1 : decode cX3_rewind 1 = .ok (.iconst 0, 1) := by decide +kernel
theorem dX3_rewind_2 : decode cX3_rewind 2 = .ok (.putfield 19, 3) := by decide +kernel
theorem dX3_rewind_5 : decode cX3_rewind 5 = .ok (.return_, 1) := by decide +kernel
set_option maxRecDepth 20000 in
theorem ggX3_findFault_X3_rewind : GoodIn wsX3_findFault wsX3_rewind := goodIn_r _ [7, 1, 33, 34, 35, 36, 37, 38, 39] (by decide +kernel) (by decide +kernel)
set_option maxRecDepth 20000 in
theorem gX3_findFault_X3_rewind : GoodIn wsX3_findFault (wsV RX3 35 RX3 yX3_rewind wsX3_rewind) := goodIn_app (goodIn_of _ (by decide +kernel)) ggX3_findFault_X3_rewind
set_option maxRecDepth 20000 in
theorem ggX3_findFault_X3_readOrder : GoodIn wsX3_findFault wsX3_readOrder := goodIn_r _ [11, 12, 1, 13, 14, 15, 16, 17, 18, 6, 19, 2, 20, 21, 22, 23, 24, 25, 26, 27, 28, 29, 30, 31, 32, 33, 34, 35, 36, 37, 38, 39] (by decide +kernel) (by decide +kernel)
set_option maxRecDepth 20000 in
theorem gX3_findFault_X3_readOrder : GoodIn wsX3_findFault (wsV RX3 38 RX3 yX3_readOrder wsX3_readOrder) := goodIn_app (goodIn_of _ (by decide +kernel)) ggX3_findFault_X3_readOrder
set_option maxRecDepth 20000 in
theorem ggX3_findFault_X3_take : GoodIn wsX3_findFault wsX3_take := goodIn_r _ [32, 1, 16, 17, 18, 6, 19, 2, 20, 33, 34, 35, 36, 37, 38, 39] (by decide +kernel) (by decide +kernel)
set_option maxRecDepth 20000 in
theorem gX3_findFault_X3_take : GoodIn wsX3_findFault (wsV RX3 42 RX3 yX3_take wsX3_take) := goodIn_app (goodIn_of _ (by decide +kernel)) ggX3_findFault_X3_take
theorem dX3_findFault_0 : decode cX3_findFault 0 = .ok (.aload_n 0, 1) := by decide +kernel
theorem dX3_findFault_1 : decode cX3_findFault 1 = .ok (.invokevirtual 35, 3) := by decide +kernel
theorem dX3_findFault_4 : decode cX3_findFault 4 = .ok (.iconst 0, 1) := by decide +kernel
theorem dX3_findFault_5 : decode cX3_findFault 5 = .ok (.istore_n 1, 1) := by decide +kernel
theorem dX3_findFault_6 : decode cX3_findFault 6 = .ok (.iload_n 1, 1) := by decide +kernel
theorem dX3_findFault_7 : decode cX3_findFault 7 = .ok (.bipush 60, 2) := by decide +kernel
theorem dX3_findFault_9 : decode cX3_findFault 9 = .ok (.if_icmp .ge 49, 3) := by decide +kernel
theorem dX3_findFault_12 : decode cX3_findFault 12 = .ok (.aload_n 0, 1) := by decide +kernel
theorem dX3_findFault_13 : decode cX3_findFault 13 = .ok (.invokevirtual 38, 3) := by decide +kernel
theorem dX3_findFault_16 : decode cX3_findFault 16 = .ok (.ifCond .ne 8, 3) := by decide +kernel
theorem dX3_findFault_19 : decode cX3_findFault 19 = .ok (.aload_n 0, 1) := by decide +kernel
theorem dX3_findFault_20 : decode cX3_findFault 20 = .ok (.getfield 19, 3) := by decide +kernel
theorem dX3_findFault_23 : decode cX3_findFault 23 = .ok (.ireturn, 1) := by decide +kernel
theorem dX3_findFault_24 : decode cX3_findFault 24 = .ok (.aload_n 0, 1) := by decide +kernel
theorem dX3_findFault_25 : decode cX3_findFault 25 = .ok (.getfield 19, 3) := by decide +kernel
theorem dX3_findFault_28 : decode cX3_findFault 28 = .ok (.aload_n 0, 1) := by decide +kernel
theorem dX3_findFault_29 : decode cX3_findFault 29 = .ok (.getfield 15, 3) := by decide +kernel
theorem dX3_findFault_32 : decode cX3_findFault 32 = .ok (.if_icmp .ne 6, 3) := by decide +kernel
theorem dX3_findFault_35 : decode cX3_findFault 35 = .ok (.bipush (-5), 2) := by decide +kernel
theorem dX3_findFault_37 : decode cX3_findFault 37 = .ok (.ireturn, 1) := by decide +kernel
theorem dX3_findFault_38 : decode cX3_findFault 38 = .ok (.aload_n 0, 1) := by decide +kernel
theorem dX3_findFault_39 : decode cX3_findFault 39 = .ok (.bipush 44, 2) := by decide +kernel
theorem dX3_findFault_41 : decode cX3_findFault 41 = .ok (.invokevirtual 42, 3) := by decide +kernel
theorem dX3_findFault_44 : decode cX3_findFault 44 = .ok (.ifCond .ne 8, 3) := by decide +kernel
theorem dX3_findFault_47 : decode cX3_findFault 47 = .ok (.aload_n 0, 1) := by decide +kernel
theorem dX3_findFault_48 : decode cX3_findFault 48 = .ok (.getfield 19, 3) := by decide +kernel
theorem dX3_findFault_51 : decode cX3_findFault 51 = .ok (.ireturn, 1) := by decide +kernel
theorem dX3_findFault_52 : decode cX3_findFault 52 = .ok (.iinc 1 1, 3) := by decide +kernel
theorem dX3_findFault_55 : decode cX3_findFault 55 = .ok (.goto (-49), 3) := by decide +kernel
theorem dX3_findFault_58 : decode cX3_findFault 58 = .ok (.aload_n 0, 1) := by decide +kernel
theorem dX3_findFault_59 : decode cX3_findFault 59 = .ok (.getfield 19, 3) := by decide +kernel
theorem dX3_findFault_62 : decode cX3_findFault 62 = .ok (.ireturn, 1) := by decide +kernel
set_option maxRecDepth 20000 in
theorem ggX3_readOrder_X3_sign : GoodIn wsX3_readOrder wsX3_sign := goodIn_r _ [10, 2, 11, 12, 25, 26, 27, 28, 29, 30, 31] (by decide +kernel) (by decide +kernel)
set_option maxRecDepth 20000 in
theorem gX3_readOrder_X3_sign : GoodIn wsX3_readOrder (wsV RX3 46 RX3 yX3_sign wsX3_sign) := goodIn_app (goodIn_of _ (by decide +kernel)) ggX3_readOrder_X3_sign
set_option maxRecDepth 20000 in
theorem ggX3_readOrder_X3_readConker : GoodIn wsX3_readOrder wsX3_readConker := goodIn_r _ [16, 2, 17, 18, 19, 9, 20, 6, 7, 8, 10, 11, 12, 25, 26, 27, 28, 29, 30, 31] (by decide +kernel) (by decide +kernel)
set_option maxRecDepth 20000 in
theorem gX3_readOrder_X3_readConker : GoodIn wsX3_readOrder (wsV RX3 50 RX3 yX3_readConker wsX3_readConker) := goodIn_app (goodIn_of _ (by decide +kernel)) ggX3_readOrder_X3_readConker
set_option maxRecDepth 20000 in
theorem ggX3_readOrder_X3_take : GoodIn wsX3_readOrder wsX3_take := goodIn_r _ [24, 2, 6, 7, 8, 9, 10, 11, 12, 25, 26, 27, 28, 29, 30, 31] (by decide +kernel) (by decide +kernel)
set_option maxRecDepth 20000 in
theorem gX3_readOrder_X3_take : GoodIn wsX3_readOrder (wsV RX3 42 RX3 yX3_take wsX3_take) := goodIn_app (goodIn_of _ (by decide +kernel)) ggX3_readOrder_X3_take
set_option maxRecDepth 20000 in
theorem ggX3_readOrder_X3_digit : GoodIn wsX3_readOrder wsX3_digit := goodIn_r _ [20, 6, 7, 8, 9, 10, 2, 11, 12, 25, 26, 27, 28, 29, 30, 31] (by decide +kernel) (by decide +kernel)
set_option maxRecDepth 20000 in
theorem gX3_readOrder_X3_digit : GoodIn wsX3_readOrder (wsV RX3 54 RX3 yX3_digit wsX3_digit) := goodIn_app (goodIn_of _ (by decide +kernel)) ggX3_readOrder_X3_digit
theorem dX3_readOrder_0 : decode cX3_readOrder 0 = .ok (.aload_n 0, 1) := by decide +kernel
theorem dX3_readOrder_1 : decode cX3_readOrder 1 = .ok (.aload_n 0, 1) := by decide +kernel
theorem dX3_readOrder_2 : decode cX3_readOrder 2 = .ok (.invokevirtual 46, 3) := by decide +kernel
theorem dX3_readOrder_5 : decode cX3_readOrder 5 = .ok (.putfield 22, 3) := by decide +kernel
theorem dX3_readOrder_8 : decode cX3_readOrder 8 = .ok (.aload_n 0, 1) := by decide +kernel
theorem dX3_readOrder_9 : decode cX3_readOrder 9 = .ok (.getfield 22, 3) := by decide +kernel
theorem dX3_readOrder_12 : decode cX3_readOrder 12 = .ok (.bipush 116, 2) := by decide +kernel
theorem dX3_readOrder_14 : decode cX3_readOrder 14 = .ok (.if_icmp .eq 12, 3) := by decide +kernel
theorem dX3_readOrder_17 : decode cX3_readOrder 17 = .ok (.aload_n 0, 1) := by decide +kernel
theorem dX3_readOrder_18 : decode cX3_readOrder 18 = .ok (.getfield 22, 3) := by decide +kernel
theorem dX3_readOrder_21 : decode cX3_readOrder 21 = .ok (.bipush 115, 2) := by decide +kernel
theorem dX3_readOrder_23 : decode cX3_readOrder 23 = .ok (.if_icmp .ne 34, 3) := by decide +kernel
theorem dX3_readOrder_26 : decode cX3_readOrder 26 = .ok (.aload_n 0, 1) := by decide +kernel
theorem dX3_readOrder_27 : decode cX3_readOrder 27 = .ok (.dup, 1) := by decide +kernel
theorem dX3_readOrder_28 : decode cX3_readOrder 28 = .ok (.getfield 19, 3) := by decide +kernel
theorem dX3_readOrder_31 : decode cX3_readOrder 31 = .ok (.iconst 1, 1) := by decide +kernel
theorem dX3_readOrder_32 : decode cX3_readOrder 32 = .ok (.iadd, 1) := by decide +kernel
theorem dX3_readOrder_33 : decode cX3_readOrder 33 = .ok (.putfield 19, 3) := by decide +kernel
theorem dX3_readOrder_36 : decode cX3_readOrder 36 = .ok (.aload_n 0, 1) := by decide +kernel
theorem dX3_readOrder_37 : decode cX3_readOrder 37 = .ok (.aload_n 0, 1) := by decide +kernel
theorem dX3_readOrder_38 : decode cX3_readOrder 38 = .ok (.invokevirtual 50, 3) := by decide +kernel
theorem dX3_readOrder_41 : decode cX3_readOrder 41 = .ok (.putfield 26, 3) := by decide +kernel
theorem dX3_readOrder_44 : decode cX3_readOrder 44 = .ok (.aload_n 0, 1) := by decide +kernel
theorem dX3_readOrder_45 : decode cX3_readOrder 45 = .ok (.getfield 26, 3) := by decide +kernel
theorem dX3_readOrder_48 : decode cX3_readOrder 48 = .ok (.ifCond .lt 7, 3) := by decide +kernel
theorem dX3_readOrder_51 : decode cX3_readOrder 51 = .ok (.iconst 1, 1) := by decide +kernel
theorem dX3_readOrder_52 : decode cX3_readOrder 52 = .ok (.goto 4, 3) := by decide +kernel
theorem dX3_readOrder_55 : decode cX3_readOrder 55 = .ok (.iconst 0, 1) := by decide +kernel
theorem dX3_readOrder_56 : decode cX3_readOrder 56 = .ok (.ireturn, 1) := by decide +kernel
theorem dX3_readOrder_57 : decode cX3_readOrder 57 = .ok (.aload_n 0, 1) := by decide +kernel
theorem dX3_readOrder_58 : decode cX3_readOrder 58 = .ok (.bipush 120, 2) := by decide +kernel
theorem dX3_readOrder_60 : decode cX3_readOrder 60 = .ok (.putfield 22, 3) := by decide +kernel
theorem dX3_readOrder_63 : decode cX3_readOrder 63 = .ok (.aload_n 0, 1) := by decide +kernel
theorem dX3_readOrder_64 : decode cX3_readOrder 64 = .ok (.aload_n 0, 1) := by decide +kernel
theorem dX3_readOrder_65 : decode cX3_readOrder 65 = .ok (.invokevirtual 50, 3) := by decide +kernel
theorem dX3_readOrder_68 : decode cX3_readOrder 68 = .ok (.putfield 26, 3) := by decide +kernel
theorem dX3_readOrder_71 : decode cX3_readOrder 71 = .ok (.aload_n 0, 1) := by decide +kernel
theorem dX3_readOrder_72 : decode cX3_readOrder 72 = .ok (.getfield 26, 3) := by decide +kernel
theorem dX3_readOrder_75 : decode cX3_readOrder 75 = .ok (.ifCond .lt 12, 3) := by decide +kernel
theorem dX3_readOrder_78 : decode cX3_readOrder 78 = .ok (.aload_n 0, 1) := by decide +kernel
theorem dX3_readOrder_79 : decode cX3_readOrder 79 = .ok (.bipush 120, 2) := by decide +kernel
theorem dX3_readOrder_81 : decode cX3_readOrder 81 = .ok (.invokevirtual 42, 3) := by decide +kernel
theorem dX3_readOrder_84 : decode cX3_readOrder 84 = .ok (.ifCond .ne 5, 3) := by decide +kernel
theorem dX3_readOrder_87 : decode cX3_readOrder 87 = .ok (.iconst 0, 1) := by decide +kernel
theorem dX3_readOrder_88 : decode cX3_readOrder 88 = .ok (.ireturn, 1) := by decide +kernel
theorem dX3_readOrder_89 : decode cX3_readOrder 89 = .ok (.aload_n 0, 1) := by decide +kernel
theorem dX3_readOrder_90 : decode cX3_readOrder 90 = .ok (.aload_n 0, 1) := by decide +kernel
theorem dX3_readOrder_91 : decode cX3_readOrder 91 = .ok (.invokevirtual 50, 3) := by decide +kernel
theorem dX3_readOrder_94 : decode cX3_readOrder 94 = .ok (.putfield 29, 3) := by decide +kernel
theorem dX3_readOrder_97 : decode cX3_readOrder 97 = .ok (.aload_n 0, 1) := by decide +kernel
theorem dX3_readOrder_98 : decode cX3_readOrder 98 = .ok (.getfield 29, 3) := by decide +kernel
theorem dX3_readOrder_101 : decode cX3_readOrder 101 = .ok (.ifCond .lt 12, 3) := by decide +kernel
theorem dX3_readOrder_104 : decode cX3_readOrder 104 = .ok (.aload_n 0, 1) := by decide +kernel
theorem dX3_readOrder_105 : decode cX3_readOrder 105 = .ok (.bipush 58, 2) := by decide +kernel
theorem dX3_readOrder_107 : decode cX3_readOrder 107 = .ok (.invokevirtual 42, 3) := by decide +kernel
theorem dX3_readOrder_110 : decode cX3_readOrder 110 = .ok (.ifCond .ne 5, 3) := by decide +kernel
theorem dX3_readOrder_113 : decode cX3_readOrder 113 = .ok (.iconst 0, 1) := by decide +kernel
theorem dX3_readOrder_114 : decode cX3_readOrder 114 = .ok (.ireturn, 1) := by decide +kernel
theorem dX3_readOrder_115 : decode cX3_readOrder 115 = .ok (.aload_n 0, 1) := by decide +kernel
theorem dX3_readOrder_116 : decode cX3_readOrder 116 = .ok (.aload_n 0, 1) := by decide +kernel
theorem dX3_readOrder_117 : decode cX3_readOrder 117 = .ok (.invokevirtual 54, 3) := by decide +kernel
theorem dX3_readOrder_120 : decode cX3_readOrder 120 = .ok (.putfield 32, 3) := by decide +kernel
theorem dX3_readOrder_123 : decode cX3_readOrder 123 = .ok (.aload_n 0, 1) := by decide +kernel
theorem dX3_readOrder_124 : decode cX3_readOrder 124 = .ok (.getfield 32, 3) := by decide +kernel
theorem dX3_readOrder_127 : decode cX3_readOrder 127 = .ok (.iconst 1, 1) := by decide +kernel
theorem dX3_readOrder_128 : decode cX3_readOrder 128 = .ok (.if_icmp .ge 5, 3) := by decide +kernel
theorem dX3_readOrder_131 : decode cX3_readOrder 131 = .ok (.iconst 0, 1) := by decide +kernel
theorem dX3_readOrder_132 : decode cX3_readOrder 132 = .ok (.ireturn, 1) := by decide +kernel
theorem dX3_readOrder_133 : decode cX3_readOrder 133 = .ok (.aload_n 0, 1) := by decide +kernel
theorem dX3_readOrder_134 : decode cX3_readOrder 134 = .ok (.dup, 1) := by decide +kernel
theorem dX3_readOrder_135 : decode cX3_readOrder 135 = .ok (.getfield 19, 3) := by decide +kernel
theorem dX3_readOrder_138 : decode cX3_readOrder 138 = .ok (.iconst 1, 1) := by decide +kernel
theorem dX3_readOrder_139 : decode cX3_readOrder 139 = .ok (.iadd, 1) := by decide +kernel
theorem dX3_readOrder_140 : decode cX3_readOrder 140 = .ok (.putfield 19, 3) := by decide +kernel
theorem dX3_readOrder_143 : decode cX3_readOrder 143 = .ok (.iconst 1, 1) := by decide +kernel
theorem dX3_readOrder_144 : decode cX3_readOrder 144 = .ok (.ireturn, 1) := by decide +kernel
set_option maxRecDepth 20000 in
theorem ggX3_take_X3_sign : GoodIn wsX3_take wsX3_sign := goodIn_r _ [6, 1, 7, 8, 9, 10, 11, 12, 13, 14, 15] (by decide +kernel) (by decide +kernel)
set_option maxRecDepth 20000 in
theorem gX3_take_X3_sign : GoodIn wsX3_take (wsV RX3 46 RX3 yX3_sign wsX3_sign) := goodIn_app (goodIn_of _ (by decide +kernel)) ggX3_take_X3_sign
theorem dX3_take_0 : decode cX3_take 0 = .ok (.aload_n 0, 1) := by decide +kernel
theorem dX3_take_1 : decode cX3_take 1 = .ok (.invokevirtual 46, 3) := by decide +kernel
theorem dX3_take_4 : decode cX3_take 4 = .ok (.iload_n 1, 1) := by decide +kernel
theorem dX3_take_5 : decode cX3_take 5 = .ok (.if_icmp .eq 5, 3) := by decide +kernel
theorem dX3_take_8 : decode cX3_take 8 = .ok (.iconst 0, 1) := by decide +kernel
theorem dX3_take_9 : decode cX3_take 9 = .ok (.ireturn, 1) := by decide +kernel
theorem dX3_take_10 : decode cX3_take 10 = .ok (.aload_n 0, 1) := by decide +kernel
theorem dX3_take_11 : decode cX3_take 11 = .ok (.dup, 1) := by decide +kernel
theorem dX3_take_12 : decode cX3_take 12 = .ok (.getfield 19, 3) := by decide +kernel
theorem dX3_take_15 : decode cX3_take 15 = .ok (.iconst 1, 1) := by decide +kernel
theorem dX3_take_16 : decode cX3_take 16 = .ok (.iadd, 1) := by decide +kernel
theorem dX3_take_17 : decode cX3_take 17 = .ok (.putfield 19, 3) := by decide +kernel
theorem dX3_take_20 : decode cX3_take 20 = .ok (.iconst 1, 1) := by decide +kernel
theorem dX3_take_21 : decode cX3_take 21 = .ok (.ireturn, 1) := by decide +kernel
set_option maxRecDepth 20000 in
theorem ggX3_readConker_X3_digit : GoodIn wsX3_readConker wsX3_digit := goodIn_r _ [6, 7, 8, 9, 5, 10, 1, 11, 12, 13, 14, 15, 16, 17, 18, 19] (by decide +kernel) (by decide +kernel)
set_option maxRecDepth 20000 in
theorem gX3_readConker_X3_digit : GoodIn wsX3_readConker (wsV RX3 54 RX3 yX3_digit wsX3_digit) := goodIn_app (goodIn_of _ (by decide +kernel)) ggX3_readConker_X3_digit
theorem dX3_readConker_0 : decode cX3_readConker 0 = .ok (.aload_n 0, 1) := by decide +kernel
theorem dX3_readConker_1 : decode cX3_readConker 1 = .ok (.invokevirtual 54, 3) := by decide +kernel
theorem dX3_readConker_4 : decode cX3_readConker 4 = .ok (.istore_n 1, 1) := by decide +kernel
theorem dX3_readConker_5 : decode cX3_readConker 5 = .ok (.iload_n 1, 1) := by decide +kernel
theorem dX3_readConker_6 : decode cX3_readConker 6 = .ok (.ifCond .ge 6, 3) := by decide +kernel
theorem dX3_readConker_9 : decode cX3_readConker 9 = .ok (.bipush (-5), 2) := by decide +kernel
theorem dX3_readConker_11 : decode cX3_readConker 11 = .ok (.ireturn, 1) := by decide +kernel
theorem dX3_readConker_12 : decode cX3_readConker 12 = .ok (.aload_n 0, 1) := by decide +kernel
theorem dX3_readConker_13 : decode cX3_readConker 13 = .ok (.dup, 1) := by decide +kernel
theorem dX3_readConker_14 : decode cX3_readConker 14 = .ok (.getfield 19, 3) := by decide +kernel
theorem dX3_readConker_17 : decode cX3_readConker 17 = .ok (.iconst 1, 1) := by decide +kernel
theorem dX3_readConker_18 : decode cX3_readConker 18 = .ok (.iadd, 1) := by decide +kernel
theorem dX3_readConker_19 : decode cX3_readConker 19 = .ok (.putfield 19, 3) := by decide +kernel
theorem dX3_readConker_22 : decode cX3_readConker 22 = .ok (.aload_n 0, 1) := by decide +kernel
theorem dX3_readConker_23 : decode cX3_readConker 23 = .ok (.invokevirtual 54, 3) := by decide +kernel
theorem dX3_readConker_26 : decode cX3_readConker 26 = .ok (.istore_n 2, 1) := by decide +kernel
theorem dX3_readConker_27 : decode cX3_readConker 27 = .ok (.iload_n 1, 1) := by decide +kernel
theorem dX3_readConker_28 : decode cX3_readConker 28 = .ok (.iconst 1, 1) := by decide +kernel
theorem dX3_readConker_29 : decode cX3_readConker 29 = .ok (.if_icmp .eq 8, 3) := by decide +kernel
theorem dX3_readConker_32 : decode cX3_readConker 32 = .ok (.iload_n 1, 1) := by decide +kernel
theorem dX3_readConker_33 : decode cX3_readConker 33 = .ok (.iconst 2, 1) := by decide +kernel
theorem dX3_readConker_34 : decode cX3_readConker 34 = .ok (.if_icmp .ne 24, 3) := by decide +kernel
theorem dX3_readConker_37 : decode cX3_readConker 37 = .ok (.iload_n 2, 1) := by decide +kernel
theorem dX3_readConker_38 : decode cX3_readConker 38 = .ok (.ifCond .lt 20, 3) := by decide +kernel
theorem dX3_readConker_41 : decode cX3_readConker 41 = .ok (.aload_n 0, 1) := by decide +kernel
theorem dX3_readConker_42 : decode cX3_readConker 42 = .ok (.dup, 1) := by decide +kernel
theorem dX3_readConker_43 : decode cX3_readConker 43 = .ok (.getfield 19, 3) := by decide +kernel
theorem dX3_readConker_46 : decode cX3_readConker 46 = .ok (.iconst 1, 1) := by decide +kernel
theorem dX3_readConker_47 : decode cX3_readConker 47 = .ok (.iadd, 1) := by decide +kernel
theorem dX3_readConker_48 : decode cX3_readConker 48 = .ok (.putfield 19, 3) := by decide +kernel
theorem dX3_readConker_51 : decode cX3_readConker 51 = .ok (.bipush 10, 2) := by decide +kernel
theorem dX3_readConker_53 : decode cX3_readConker 53 = .ok (.iload_n 1, 1) := by decide +kernel
theorem dX3_readConker_54 : decode cX3_readConker 54 = .ok (.imul, 1) := by decide +kernel
theorem dX3_readConker_55 : decode cX3_readConker 55 = .ok (.iload_n 2, 1) := by decide +kernel
theorem dX3_readConker_56 : decode cX3_readConker 56 = .ok (.iadd, 1) := by decide +kernel
theorem dX3_readConker_57 : decode cX3_readConker 57 = .ok (.ireturn, 1) := by decide +kernel
theorem dX3_readConker_58 : decode cX3_readConker 58 = .ok (.iload_n 1, 1) := by decide +kernel
theorem dX3_readConker_59 : decode cX3_readConker 59 = .ok (.ireturn, 1) := by decide +kernel
set_option maxRecDepth 20000 in
theorem ggX3_digit_X3_sign : GoodIn wsX3_digit wsX3_sign := goodIn_r _ [5, 6, 7, 8, 9, 10, 11, 12, 13, 14, 15] (by decide +kernel) (by decide +kernel)
set_option maxRecDepth 20000 in
theorem gX3_digit_X3_sign : GoodIn wsX3_digit (wsV RX3 46 RX3 yX3_sign wsX3_sign) := goodIn_app (goodIn_of _ (by decide +kernel)) ggX3_digit_X3_sign
theorem dX3_digit_0 : decode cX3_digit 0 = .ok (.aload_n 0, 1) := by decide +kernel
theorem dX3_digit_1 : decode cX3_digit 1 = .ok (.invokevirtual 46, 3) := by decide +kernel
theorem dX3_digit_4 : decode cX3_digit 4 = .ok (.istore_n 1, 1) := by decide +kernel
theorem dX3_digit_5 : decode cX3_digit 5 = .ok (.iload_n 1, 1) := by decide +kernel
theorem dX3_digit_6 : decode cX3_digit 6 = .ok (.bipush 48, 2) := by decide +kernel
theorem dX3_digit_8 : decode cX3_digit 8 = .ok (.if_icmp .lt 16, 3) := by decide +kernel
theorem dX3_digit_11 : decode cX3_digit 11 = .ok (.iload_n 1, 1) := by decide +kernel
theorem dX3_digit_12 : decode cX3_digit 12 = .ok (.bipush 57, 2) := by decide +kernel
theorem dX3_digit_14 : decode cX3_digit 14 = .ok (.if_icmp .gt 10, 3) := by decide +kernel
theorem dX3_digit_17 : decode cX3_digit 17 = .ok (.iload_n 1, 1) := by decide +kernel
theorem dX3_digit_18 : decode cX3_digit 18 = .ok (.bipush 48, 2) := by decide +kernel
theorem dX3_digit_20 : decode cX3_digit 20 = .ok (.isub, 1) := by decide +kernel
theorem dX3_digit_21 : decode cX3_digit 21 = .ok (.goto 5, 3) := by decide +kernel
theorem dX3_digit_24 : decode cX3_digit 24 = .ok (.bipush (-5), 2) := by decide +kernel
theorem dX3_digit_26 : decode cX3_digit 26 = .ok (.ireturn, 1) := by decide +kernel
theorem dX3_sign_0 : decode cX3_sign 0 = .ok (.aload_n 0, 1) := by decide +kernel
theorem dX3_sign_1 : decode cX3_sign 1 = .ok (.getfield 19, 3) := by decide +kernel
theorem dX3_sign_4 : decode cX3_sign 4 = .ok (.ifCond .lt 26, 3) := by decide +kernel
theorem dX3_sign_7 : decode cX3_sign 7 = .ok (.aload_n 0, 1) := by decide +kernel
theorem dX3_sign_8 : decode cX3_sign 8 = .ok (.getfield 19, 3) := by decide +kernel
theorem dX3_sign_11 : decode cX3_sign 11 = .ok (.aload_n 0, 1) := by decide +kernel
theorem dX3_sign_12 : decode cX3_sign 12 = .ok (.getfield 15, 3) := by decide +kernel
theorem dX3_sign_15 : decode cX3_sign 15 = .ok (.if_icmp .ge 15, 3) := by decide +kernel
theorem dX3_sign_18 : decode cX3_sign 18 = .ok (.aload_n 0, 1) := by decide +kernel
theorem dX3_sign_19 : decode cX3_sign 19 = .ok (.getfield 9, 3) := by decide +kernel
theorem dX3_sign_22 : decode cX3_sign 22 = .ok (.aload_n 0, 1) := by decide +kernel
theorem dX3_sign_23 : decode cX3_sign 23 = .ok (.getfield 19, 3) := by decide +kernel
theorem dX3_sign_26 : decode cX3_sign 26 = .ok (.caload, 1) := by decide +kernel
theorem dX3_sign_27 : decode cX3_sign 27 = .ok (.goto 4, 3) := by decide +kernel
theorem dX3_sign_30 : decode cX3_sign 30 = .ok (.iconst 0, 1) := by decide +kernel
theorem dX3_sign_31 : decode cX3_sign 31 = .ok (.ireturn, 1) := by decide +kernel
theorem dX4_init_0 : decode cX4_init 0 = .ok (.aload_n 0, 1) := by decide +kernel
theorem dX4_init_1 : decode cX4_init 1 = .ok (.invokespecial 3, 3) := by decide +kernel
theorem dX4_init_4 : decode cX4_init 4 = .ok (.aload_n 0, 1) := by decide +kernel
theorem dX4_init_5 : decode cX4_init 5 = .ok (.bipush 6, 2) := by decide +kernel
theorem dX4_init_7 : decode cX4_init 7 = .ok (.newarray .int, 2) := by decide +kernel
theorem dX4_init_9 : decode cX4_init 9 = .ok (.putfield 9, 3) := by decide +kernel
theorem dX4_init_12 : decode cX4_init 12 = .ok (.aload_n 0, 1) := by decide +kernel
theorem dX4_init_13 : decode cX4_init 13 = .ok (.bipush 6, 2) := by decide +kernel
theorem dX4_init_15 : decode cX4_init 15 = .ok (.newarray .int, 2) := by decide +kernel
theorem dX4_init_17 : decode cX4_init 17 = .ok (.putfield 15, 3) := by decide +kernel
theorem dX4_init_20 : decode cX4_init 20 = .ok (.aload_n 0, 1) := by decide +kernel
theorem dX4_init_21 : decode cX4_init 21 = .ok (.bipush 30, 2) := by decide +kernel
theorem dX4_init_23 : decode cX4_init 23 = .ok (.newarray .int, 2) := by decide +kernel
theorem dX4_init_25 : decode cX4_init 25 = .ok (.putfield 18, 3) := by decide +kernel
theorem dX4_init_28 : decode cX4_init 28 = .ok (.aload_n 0, 1) := by decide +kernel
theorem dX4_init_29 : decode cX4_init 29 = .ok (.bipush 30, 2) := by decide +kernel
theorem dX4_init_31 : decode cX4_init 31 = .ok (.newarray .int, 2) := by decide +kernel
theorem dX4_init_33 : decode cX4_init 33 = .ok (.putfield 21, 3) := by decide +kernel
theorem dX4_init_36 : decode cX4_init 36 = .ok (.aload_n 0, 1) := by decide +kernel
theorem dX4_init_37 : decode cX4_init 37 = .ok (.bipush 30, 2) := by decide +kernel
theorem dX4_init_39 : decode cX4_init 39 = .ok (.newarray .int, 2) := by decide +kernel
theorem dX4_init_41 : decode cX4_init 41 = .ok (.putfield 24, 3) := by decide +kernel
theorem dX4_init_44 : decode cX4_init 44 = .ok (.aload_n 0, 1) := by decide +kernel
theorem dX4_init_45 : decode cX4_init 45 = .ok (.bipush 30, 2) := by decide +kernel
theorem dX4_init_47 : decode cX4_init 47 = .ok (.newarray .int, 2) := by decide +kernel
theorem dX4_init_49 : decode cX4_init 49 = .ok (.putfield 27, 3) := by decide +kernel
theorem dX4_init_52 : decode cX4_init 52 = .ok (.aload_n 0, 1) := by decide +kernel
theorem dX4_init_53 : decode cX4_init 53 = .ok (.bipush 30, 2) := by decide +kernel
theorem dX4_init_55 : decode cX4_init 55 = .ok (.newarray .int, 2) := by decide +kernel
theorem dX4_init_57 : decode cX4_init 57 = .ok (.putfield 30, 3) := by decide +kernel
theorem dX4_init_60 : decode cX4_init 60 = .ok (.aload_n 0, 1) := by decide +kernel
theorem dX4_init_61 : decode cX4_init 61 = .ok (.bipush 30, 2) := by decide +kernel
theorem dX4_init_63 : decode cX4_init 63 = .ok (.newarray .int, 2) := by decide +kernel
theorem dX4_init_65 : decode cX4_init 65 = .ok (.putfield 33, 3) := by decide +kernel
theorem dX4_init_68 : decode cX4_init 68 = .ok (.aload_n 0, 1) := by decide +kernel
theorem dX4_init_69 : decode cX4_init 69 = .ok (.bipush 30, 2) := by decide +kernel
theorem dX4_init_71 : decode cX4_init 71 = .ok (.newarray .int, 2) := by decide +kernel
theorem dX4_init_73 : decode cX4_init 73 = .ok (.putfield 36, 3) := by decide +kernel
theorem dX4_init_76 : decode cX4_init 76 = .ok (.aload_n 0, 1) := by decide +kernel
theorem dX4_init_77 : decode cX4_init 77 = .ok (.bipush 30, 2) := by decide +kernel
theorem dX4_init_79 : decode cX4_init 79 = .ok (.newarray .int, 2) := by decide +kernel
theorem dX4_init_81 : decode cX4_init 81 = .ok (.putfield 39, 3) := by decide +kernel
theorem dX4_init_84 : decode cX4_init 84 = .ok (.aload_n 0, 1) := by decide +kernel
theorem dX4_init_85 : decode cX4_init 85 = .ok (.iconst 0, 1) := by decide +kernel
theorem dX4_init_86 : decode cX4_init 86 = .ok (.putfield 42, 3) := by decide +kernel
theorem dX4_init_89 : decode cX4_init 89 = .ok (.aload_n 0, 1) := by decide +kernel
theorem dX4_init_90 : decode cX4_init 90 = .ok (.iconst 0, 1) := by decide +kernel
theorem dX4_init_91 : decode cX4_init 91 = .ok (.putfield 46, 3) := by decide +kernel
theorem dX4_init_94 : decode cX4_init 94 = .ok (.aload_n 0, 1) := by decide +kernel
theorem dX4_init_95 : decode cX4_init 95 = .ok (.iconst 0, 1) := by decide +kernel
theorem dX4_init_96 : decode cX4_init 96 = .ok (.putfield 49, 3) := by decide +kernel
theorem dX4_init_99 : decode cX4_init 99 = .ok (.iconst 0, 1) := by decide +kernel
theorem dX4_init_100 : decode cX4_init 100 = .ok (.istore_n 1, 1) := by decide +kernel
theorem dX4_init_101 : decode cX4_init 101 = .ok (.iload_n 1, 1) := by decide +kernel
theorem dX4_init_102 : decode cX4_init 102 = .ok (.bipush 6, 2) := by decide +kernel
theorem dX4_init_104 : decode cX4_init 104 = .ok (.if_icmp .ge 16, 3) := by decide +kernel
theorem dX4_init_107 : decode cX4_init 107 = .ok (.aload_n 0, 1) := by decide +kernel
theorem dX4_init_108 : decode cX4_init 108 = .ok (.getfield 9, 3) := by decide +kernel
theorem dX4_init_111 : decode cX4_init 111 = .ok (.iload_n 1, 1) := by decide +kernel
theorem dX4_init_112 : decode cX4_init 112 = .ok (.iconst 3, 1) := by decide +kernel
theorem dX4_init_113 : decode cX4_init 113 = .ok (.iastore, 1) := by decide +kernel
theorem dX4_init_114 : decode cX4_init 114 = .ok (.iinc 1 1, 3) := by decide +kernel
theorem dX4_init_117 : decode cX4_init 117 = .ok (.goto (-16), 3) := by decide +kernel
theorem dX4_init_120 : decode cX4_init 120 = .ok (.return_, 1) := by decide +kernel
theorem dX4_copyFrom_0 : decode cX4_copyFrom 0 = .ok (.aload_n 1, 1) := by decide +kernel
theorem dX4_copyFrom_1 : decode cX4_copyFrom 1 = .ok (.getfield 9, 3) := by decide +kernel
theorem dX4_copyFrom_4 : decode cX4_copyFrom 4 = .ok (.iconst 0, 1) := by decide +kernel
theorem dX4_copyFrom_5 : decode cX4_copyFrom 5 = .ok (.aload_n 0, 1) := by decide +kernel
theorem dX4_copyFrom_6 : decode cX4_copyFrom 6 = .ok (.getfield 9, 3) := by decide +kernel
theorem dX4_copyFrom_9 : decode cX4_copyFrom 9 = .ok (.iconst 0, 1) := by decide +kernel
theorem dX4_copyFrom_10 : decode cX4_copyFrom 10 = .ok (.bipush 6, 2) := by decide +kernel
theorem dX4_copyFrom_12 : decode cX4_copyFrom 12 = .ok (.invokestatic 52, 3) := by decide +kernel
theorem dX4_copyFrom_15 : decode cX4_copyFrom 15 = .ok (.aload_n 1, 1) := by decide +kernel
theorem dX4_copyFrom_16 : decode cX4_copyFrom 16 = .ok (.getfield 15, 3) := by decide +kernel
theorem dX4_copyFrom_19 : decode cX4_copyFrom 19 = .ok (.iconst 0, 1) := by decide +kernel
theorem dX4_copyFrom_20 : decode cX4_copyFrom 20 = .ok (.aload_n 0, 1) := by decide +kernel
theorem dX4_copyFrom_21 : decode cX4_copyFrom 21 = .ok (.getfield 15, 3) := by decide +kernel
theorem dX4_copyFrom_24 : decode cX4_copyFrom 24 = .ok (.iconst 0, 1) := by decide +kernel
theorem dX4_copyFrom_25 : decode cX4_copyFrom 25 = .ok (.bipush 6, 2) := by decide +kernel
theorem dX4_copyFrom_27 : decode cX4_copyFrom 27 = .ok (.invokestatic 52, 3) := by decide +kernel
theorem dX4_copyFrom_30 : decode cX4_copyFrom 30 = .ok (.aload_n 1, 1) := by decide +kernel
theorem dX4_copyFrom_31 : decode cX4_copyFrom 31 = .ok (.getfield 18, 3) := by decide +kernel
theorem dX4_copyFrom_34 : decode cX4_copyFrom 34 = .ok (.iconst 0, 1) := by decide +kernel
theorem dX4_copyFrom_35 : decode cX4_copyFrom 35 = .ok (.aload_n 0, 1) := by decide +kernel
theorem dX4_copyFrom_36 : decode cX4_copyFrom 36 = .ok (.getfield 18, 3) := by decide +kernel
theorem dX4_copyFrom_39 : decode cX4_copyFrom 39 = .ok (.iconst 0, 1) := by decide +kernel
theorem dX4_copyFrom_40 : decode cX4_copyFrom 40 = .ok (.bipush 30, 2) := by decide +kernel
theorem dX4_copyFrom_42 : decode cX4_copyFrom 42 = .ok (.invokestatic 52, 3) := by decide +kernel
theorem dX4_copyFrom_45 : decode cX4_copyFrom 45 = .ok (.aload_n 1, 1) := by decide +kernel
theorem dX4_copyFrom_46 : decode cX4_copyFrom 46 = .ok (.getfield 21, 3) := by decide +kernel
theorem dX4_copyFrom_49 : decode cX4_copyFrom 49 = .ok (.iconst 0, 1) := by decide +kernel
theorem dX4_copyFrom_50 : decode cX4_copyFrom 50 = .ok (.aload_n 0, 1) := by decide +kernel
theorem dX4_copyFrom_51 : decode cX4_copyFrom 51 = .ok (.getfield 21, 3) := by decide +kernel
theorem dX4_copyFrom_54 : decode cX4_copyFrom 54 = .ok (.iconst 0, 1) := by decide +kernel
theorem dX4_copyFrom_55 : decode cX4_copyFrom 55 = .ok (.bipush 30, 2) := by decide +kernel
theorem dX4_copyFrom_57 : decode cX4_copyFrom 57 = .ok (.invokestatic 52, 3) := by decide +kernel
theorem dX4_copyFrom_60 : decode cX4_copyFrom 60 = .ok (.aload_n 1, 1) := by decide +kernel
theorem dX4_copyFrom_61 : decode cX4_copyFrom 61 = .ok (.getfield 24, 3) := by decide +kernel
theorem dX4_copyFrom_64 : decode cX4_copyFrom 64 = .ok (.iconst 0, 1) := by decide +kernel
theorem dX4_copyFrom_65 : decode cX4_copyFrom 65 = .ok (.aload_n 0, 1) := by decide +kernel
theorem dX4_copyFrom_66 : decode cX4_copyFrom 66 = .ok (.getfield 24, 3) := by decide +kernel
theorem dX4_copyFrom_69 : decode cX4_copyFrom 69 = .ok (.iconst 0, 1) := by decide +kernel
theorem dX4_copyFrom_70 : decode cX4_copyFrom 70 = .ok (.bipush 30, 2) := by decide +kernel
theorem dX4_copyFrom_72 : decode cX4_copyFrom 72 = .ok (.invokestatic 52, 3) := by decide +kernel
theorem dX4_copyFrom_75 : decode cX4_copyFrom 75 = .ok (.aload_n 1, 1) := by decide +kernel
theorem dX4_copyFrom_76 : decode cX4_copyFrom 76 = .ok (.getfield 27, 3) := by decide +kernel
theorem dX4_copyFrom_79 : decode cX4_copyFrom 79 = .ok (.iconst 0, 1) := by decide +kernel
theorem dX4_copyFrom_80 : decode cX4_copyFrom 80 = .ok (.aload_n 0, 1) := by decide +kernel
theorem dX4_copyFrom_81 : decode cX4_copyFrom 81 = .ok (.getfield 27, 3) := by decide +kernel
theorem dX4_copyFrom_84 : decode cX4_copyFrom 84 = .ok (.iconst 0, 1) := by decide +kernel
theorem dX4_copyFrom_85 : decode cX4_copyFrom 85 = .ok (.bipush 30, 2) := by decide +kernel
theorem dX4_copyFrom_87 : decode cX4_copyFrom 87 = .ok (.invokestatic 52, 3) := by decide +kernel
theorem dX4_copyFrom_90 : decode cX4_copyFrom 90 = .ok (.aload_n 1, 1) := by decide +kernel
theorem dX4_copyFrom_91 : decode cX4_copyFrom 91 = .ok (.getfield 30, 3) := by decide +kernel
theorem dX4_copyFrom_94 : decode cX4_copyFrom 94 = .ok (.iconst 0, 1) := by decide +kernel
theorem dX4_copyFrom_95 : decode cX4_copyFrom 95 = .ok (.aload_n 0, 1) := by decide +kernel
theorem dX4_copyFrom_96 : decode cX4_copyFrom 96 = .ok (.getfield 30, 3) := by decide +kernel
theorem dX4_copyFrom_99 : decode cX4_copyFrom 99 = .ok (.iconst 0, 1) := by decide +kernel
theorem dX4_copyFrom_100 : decode cX4_copyFrom 100 = .ok (.bipush 30, 2) := by decide +kernel
theorem dX4_copyFrom_102 : decode cX4_copyFrom 102 = .ok (.invokestatic 52, 3) := by decide +kernel
theorem dX4_copyFrom_105 : decode cX4_copyFrom 105 = .ok (.aload_n 1, 1) := by decide +kernel
theorem dX4_copyFrom_106 : decode cX4_copyFrom 106 = .ok (.getfield 33, 3) := by decide +kernel
theorem dX4_copyFrom_109 : decode cX4_copyFrom 109 = .ok (.iconst 0, 1) := by decide +kernel
theorem dX4_copyFrom_110 : decode cX4_copyFrom 110 = .ok (.aload_n 0, 1) := by decide +kernel
theorem dX4_copyFrom_111 : decode cX4_copyFrom 111 = .ok (.getfield 33, 3) := by decide +kernel
theorem dX4_copyFrom_114 : decode cX4_copyFrom 114 = .ok (.iconst 0, 1) := by decide +kernel
theorem dX4_copyFrom_115 : decode cX4_copyFrom 115 = .ok (.bipush 30, 2) := by decide +kernel
theorem dX4_copyFrom_117 : decode cX4_copyFrom 117 = .ok (.invokestatic 52, 3) := by decide +kernel
theorem dX4_copyFrom_120 : decode cX4_copyFrom 120 = .ok (.aload_n 1, 1) := by decide +kernel
theorem dX4_copyFrom_121 : decode cX4_copyFrom 121 = .ok (.getfield 36, 3) := by decide +kernel
theorem dX4_copyFrom_124 : decode cX4_copyFrom 124 = .ok (.iconst 0, 1) := by decide +kernel
theorem dX4_copyFrom_125 : decode cX4_copyFrom 125 = .ok (.aload_n 0, 1) := by decide +kernel
theorem dX4_copyFrom_126 : decode cX4_copyFrom 126 = .ok (.getfield 36, 3) := by decide +kernel
theorem dX4_copyFrom_129 : decode cX4_copyFrom 129 = .ok (.iconst 0, 1) := by decide +kernel
theorem dX4_copyFrom_130 : decode cX4_copyFrom 130 = .ok (.bipush 30, 2) := by decide +kernel
