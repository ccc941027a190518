def am_PT : List (List am_B) := [mX0_init, mX0_join, mX0_restart, mX0_canBeRead, mX0_canBeWritten, mX0_ending, mX0_isTighterThan, mX0_widen, mX0_put, mX0_lay, mX0_growRing, mX0_take, mX1_init, mX1_empty, mX1_hold, mX1_close, mX1_portToRead, mX1_portOfLesser, mX1_giveOf, mX1_sortIn, mX1_giveLeast, mX2_init, mX2_findParts, mX2_drawTogether, mX2_solve, mX2_firingsOf, mX2_writtenByFiring, mX2_spread, mX2_setFraction, mX2_agreesWithAll, mX2_makeWhole, mX2_makePartWhole, mX2_greatestDivisor, mX3_init, mX3_empty, mX3_append, mX3_at, mX4_init, mX4_append, mX4_restart, mX4_nextAct, mX4_reckon, mX4_goTo, mX4_isAtTry, mX4_portNow, mX4_registerNow, mX4_keep, mX4_goOn, mX4_passOver, mX5_init, mX5_become, mX5_restart, mX5_stock, mX5_isOver, mX5_doing, mX5_waits, mX5_act, mX5_readOff, mX5_writeTo, mX5_toRead, mX5_toWrite, mX5_toFail, mX5_firstAct, mX5_afterPattern, mX5_afterWriting, mX5_afterEnd, mX5_sourceGoesOn, mX5_repeatGoesOn, mX5_mergeGoesOn, mX5_sumGoesOn, mX5_selectGoesOn, mX5_copyGoesOn, mX5_sortGoesOn, mX5_tearGoesOn, mX5_askScript, mX6_init, mX6_weaver, mX6_feed, mX6_step, mX6_band, mX6_width, mX6_clear, mX6_run, mX6_reset, mX6_told, mX6_woven, mX6_bandTold, mX6_history, mX6_digest, mX6_widened, mX6_failure, mX6_balance, mX6_count, mX6_weaverAt, mX6_bandAt, mX6_isToldWidth, mX6_suits, mX6_isStep, mX6_isRegister, mX6_forgetRun, mX6_restartAll, mX6_doActs, mX6_firstAble, mX6_stillness, mX6_widenTightest, mX6_tightest, mX6_isFixed, mX6_hasFixedRates, mX7_init, mX7_in, mX7_insOf, mX7_outsOf, mX7_isWeaver, mX7_weaver, mX7_feed, mX7_isStep, mX7_step, mX7_band, mX7_isBand, mX7_width, mX7_clear, mX7_isWhole, mX7_begin, mX7_toRead, mX7_toWrite, mX7_toFail, mX7_find, mX7_findMerge, mX7_findSort, mX7_findScript, mX7_look, mX7_bandAt, mX7_isOver, mX7_stateOf, mX7_end, mX7_got, mX7_insert, mX7_gotEnd, mX7_doRead, mX7_gave, mX7_doWrite, mX7_doAct, mX7_canAny, mX7_narrow, mX7_widen, mX7_run, mX7_reset, mX7_told, mX7_patternOf, mX7_woven, mX7_endOf, mX7_bandTold, mX7_history, mX7_digest, mX7_widened, mX7_failure, mX7_common, mX7_findParts, mX7_isFixed, mX7_writesOf, mX7_rate, mX7_findRates, mX7_findFirings, mX7_balance, mX7_count, mJ7_fill_d0a16, mJ7_copyOf_c38d5, mL_law]
def am_YT : List am_MI := [
  (yX0_init, cX0_init, 2, none, 2, 68),
  (yX0_join, cX0_join, 4, none, 2, 40),
  (yX0_restart, cX0_restart, 1, none, 1, 20),
  (yX0_canBeRead, cX0_canBeRead, 1, some .boolean, 1, 20),
  (yX0_canBeWritten, cX0_canBeWritten, 1, some .boolean, 1, 20),
  (yX0_ending, cX0_ending, 1, some .int, 0, 0),
  (yX0_isTighterThan, cX0_isTighterThan, 2, some .boolean, 0, 0),
  (yX0_widen, cX0_widen, 1, none, 1, 48),
  (yX0_put, cX0_put, 3, none, 3, 93),
  (yX0_lay, cX0_lay, 4, none, 2, 70),
  (yX0_growRing, cX0_growRing, 3, none, 1, 48),
  (yX0_take, cX0_take, 3, some .long, 0, 0),
  (yX1_init, cX1_init, 1, none, 1, 48),
  (yX1_empty, cX1_empty, 2, none, 0, 0),
  (yX1_hold, cX1_hold, 4, none, 0, 0),
  (yX1_close, cX1_close, 2, none, 0, 0),
  (yX1_portToRead, cX1_portToRead, 2, some .int, 0, 0),
  (yX1_portOfLesser, cX1_portOfLesser, 1, some .int, 0, 0),
  (yX1_giveOf, cX1_giveOf, 2, some .long, 0, 0),
  (yX1_sortIn, cX1_sortIn, 4, none, 0, 0),
  (yX1_giveLeast, cX1_giveLeast, 1, some .long, 0, 0),
  (yX2_init, cX2_init, 1, none, 1, 48),
  (yX2_findParts, cX2_findParts, 7, some .int, 2, 71),
  (yX2_drawTogether, cX2_drawTogether, 4, some .boolean, 1, 48),
  (yX2_solve, cX2_solve, 7, some .boolean, 3, 97),
  (yX2_firingsOf, cX2_firingsOf, 2, some .int, 0, 0),
  (yX2_writtenByFiring, cX2_writtenByFiring, 1, some .long, 0, 0),
  (yX2_spread, cX2_spread, 6, some .boolean, 2, 57),
  (yX2_setFraction, cX2_setFraction, 8, none, 1, 30),
  (yX2_agreesWithAll, cX2_agreesWithAll, 8, some .boolean, 1, 20),
  (yX2_makeWhole, cX2_makeWhole, 3, some .boolean, 2, 57),
  (yX2_makePartWhole, cX2_makePartWhole, 8, some .boolean, 1, 30),
  (yX2_greatestDivisor, cX2_greatestDivisor, 11, some .long, 0, 0),
  (yX3_init, cX3_init, 1, none, 1, 48),
  (yX3_empty, cX3_empty, 1, none, 0, 0),
  (yX3_append, cX3_append, 3, none, 2, 70),
  (yX3_at, cX3_at, 2, some .long, 0, 0),
  (yX4_init, cX4_init, 1, none, 1, 48),
  (yX4_append, cX4_append, 4, none, 0, 0),
  (yX4_restart, cX4_restart, 1, none, 1, 24),
  (yX4_nextAct, cX4_nextAct, 3, some .int, 1, 23),
  (yX4_reckon, cX4_reckon, 4, none, 0, 0),
  (yX4_goTo, cX4_goTo, 2, none, 0, 0),
  (yX4_isAtTry, cX4_isAtTry, 1, some .boolean, 0, 0),
  (yX4_portNow, cX4_portNow, 1, some .int, 0, 0),
  (yX4_registerNow, cX4_registerNow, 1, some .long, 0, 0),
  (yX4_keep, cX4_keep, 3, none, 0, 0),
  (yX4_goOn, cX4_goOn, 1, none, 1, 21),
  (yX4_passOver, cX4_passOver, 1, none, 2, 41),
  (yX5_init, cX5_init, 2, none, 2, 68),
  (yX5_become, cX5_become, 4, none, 4, 85),
  (yX5_restart, cX5_restart, 1, none, 3, 65),
  (yX5_stock, cX5_stock, 1, some .int, 0, 0),
  (yX5_isOver, cX5_isOver, 1, some .boolean, 0, 0),
  (yX5_doing, cX5_doing, 1, some .int, 2, 40),
  (yX5_waits, cX5_waits, 2, some .boolean, 3, 60),
  (yX5_act, cX5_act, 1, none, 5, 136),
  (yX5_readOff, cX5_readOff, 2, none, 4, 114),
  (yX5_writeTo, cX5_writeTo, 2, none, 4, 115),
  (yX5_toRead, cX5_toRead, 2, none, 0, 0),
  (yX5_toWrite, cX5_toWrite, 4, none, 0, 0),
  (yX5_toFail, cX5_toFail, 2, none, 0, 0),
  (yX5_firstAct, cX5_firstAct, 1, none, 2, 43),
  (yX5_afterPattern, cX5_afterPattern, 3, none, 3, 92),
  (yX5_afterWriting, cX5_afterWriting, 1, none, 2, 45),
  (yX5_afterEnd, cX5_afterEnd, 1, none, 2, 45),
  (yX5_sourceGoesOn, cX5_sourceGoesOn, 1, none, 1, 23),
  (yX5_repeatGoesOn, cX5_repeatGoesOn, 3, none, 1, 23),
  (yX5_mergeGoesOn, cX5_mergeGoesOn, 3, none, 1, 23),
  (yX5_sumGoesOn, cX5_sumGoesOn, 3, none, 1, 23),
  (yX5_selectGoesOn, cX5_selectGoesOn, 3, none, 1, 23),
  (yX5_copyGoesOn, cX5_copyGoesOn, 1, none, 1, 23),
  (yX5_sortGoesOn, cX5_sortGoesOn, 2, none, 1, 23),
  (yX5_tearGoesOn, cX5_tearGoesOn, 1, none, 1, 21),
  (yX5_askScript, cX5_askScript, 1, none, 2, 45),
  (yX6_init, cX6_init, 1, none, 2, 68),
  (yX6_weaver, cX6_weaver, 4, some .int, 5, 108),
  (yX6_feed, cX6_feed, 5, some .int, 3, 92),
  (yX6_step, cX6_step, 6, some .int, 2, 42),
  (yX6_band, cX6_band, 9, some .int, 3, 89),
  (yX6_width, cX6_width, 5, some .int, 2, 40),
  (yX6_clear, cX6_clear, 2, some .int, 1, 20),
  (yX6_run, cX6_run, 4, some .int, 7, 184),
  (yX6_reset, cX6_reset, 2, some .int, 5, 106),
  (yX6_told, cX6_told, 4, some .int, 4, 81),
  (yX6_woven, cX6_woven, 4, some .long, 1, 21),
  (yX6_bandTold, cX6_bandTold, 4, some .int, 1, 21),
  (yX6_history, cX6_history, 4, some .long, 1, 21),
  (yX6_digest, cX6_digest, 3, some .long, 1, 21),
  (yX6_widened, cX6_widened, 2, some .int, 0, 0),
  (yX6_failure, cX6_failure, 4, some .int, 1, 21),
  (yX6_balance, cX6_balance, 2, some .int, 4, 123),
  (yX6_count, cX6_count, 2, some .int, 3, 97),
  (yX6_weaverAt, cX6_weaverAt, 2, some (.object "WeaveHall$Weaver"), 0, 0),
  (yX6_bandAt, cX6_bandAt, 2, some (.object "WeaveHall$Band"), 0, 0),
  (yX6_isToldWidth, cX6_isToldWidth, 1, some .boolean, 0, 0),
  (yX6_suits, cX6_suits, 2, some .boolean, 0, 0),
  (yX6_isStep, cX6_isStep, 3, some .boolean, 1, 20),
  (yX6_isRegister, cX6_isRegister, 1, some .boolean, 0, 0),
  (yX6_forgetRun, cX6_forgetRun, 1, none, 0, 0),
  (yX6_restartAll, cX6_restartAll, 2, none, 4, 85),
  (yX6_doActs, cX6_doActs, 9, some .int, 6, 156),
  (yX6_firstAble, cX6_firstAble, 5, some .int, 3, 60),
  (yX6_stillness, cX6_stillness, 2, some .int, 4, 84),
  (yX6_widenTightest, cX6_widenTightest, 2, some .boolean, 4, 84),
  (yX6_tightest, cX6_tightest, 5, some (.object "WeaveHall$Band"), 3, 60),
  (yX6_isFixed, cX6_isFixed, 2, some .boolean, 1, 20),
  (yX6_hasFixedRates, cX6_hasFixedRates, 1, some .boolean, 0, 0),
  (yX7_init, cX7_init, 1, none, 1, 48),
  (yX7_in, cX7_in, 6, some .boolean, 0, 0),
  (yX7_insOf, cX7_insOf, 1, some .int, 0, 0),
  (yX7_outsOf, cX7_outsOf, 1, some .int, 0, 0),
  (yX7_isWeaver, cX7_isWeaver, 2, some .boolean, 1, 25),
  (yX7_weaver, cX7_weaver, 6, some .int, 1, 25),
  (yX7_feed, cX7_feed, 4, some .int, 2, 46),
  (yX7_isStep, cX7_isStep, 3, some .boolean, 1, 25),
  (yX7_step, cX7_step, 6, some .int, 2, 47),
  (yX7_band, cX7_band, 7, some .int, 2, 46),
  (yX7_isBand, cX7_isBand, 2, some .boolean, 1, 25),
  (yX7_width, cX7_width, 4, some .int, 2, 46),
  (yX7_clear, cX7_clear, 2, some .int, 0, 0),
  (yX7_isWhole, cX7_isWhole, 4, some .boolean, 1, 20),
  (yX7_begin, cX7_begin, 3, none, 0, 0),
  (yX7_toRead, cX7_toRead, 2, none, 0, 0),
  (yX7_toWrite, cX7_toWrite, 4, none, 0, 0),
  (yX7_toFail, cX7_toFail, 2, none, 0, 0),
  (yX7_find, cX7_find, 3, none, 2, 51),
  (yX7_findMerge, cX7_findMerge, 4, none, 1, 23),
  (yX7_findSort, cX7_findSort, 3, none, 1, 23),
  (yX7_findScript, cX7_findScript, 9, none, 1, 23),
  (yX7_look, cX7_look, 2, none, 3, 73),
  (yX7_bandAt, cX7_bandAt, 2, some .int, 0, 0),
  (yX7_isOver, cX7_isOver, 2, some .boolean, 0, 0),
  (yX7_stateOf, cX7_stateOf, 3, some .int, 4, 94),
  (yX7_end, cX7_end, 5, none, 0, 0),
  (yX7_got, cX7_got, 4, none, 1, 24),
  (yX7_insert, cX7_insert, 5, none, 0, 0),
  (yX7_gotEnd, cX7_gotEnd, 2, none, 0, 0),
  (yX7_doRead, cX7_doRead, 5, none, 2, 47),
  (yX7_gave, cX7_gave, 3, none, 0, 0),
  (yX7_doWrite, cX7_doWrite, 3, none, 1, 22),
  (yX7_doAct, cX7_doAct, 2, none, 4, 94),
  (yX7_canAny, cX7_canAny, 3, some .boolean, 5, 116),
  (yX7_narrow, cX7_narrow, 4, some .int, 5, 116),
  (yX7_widen, cX7_widen, 2, none, 0, 0),
  (yX7_run, cX7_run, 8, some .int, 6, 139),
  (yX7_reset, cX7_reset, 1, some .int, 0, 0),
  (yX7_told, cX7_told, 4, some .int, 5, 116),
  (yX7_patternOf, cX7_patternOf, 5, some .long, 0, 0),
  (yX7_woven, cX7_woven, 4, some .long, 2, 46),
  (yX7_endOf, cX7_endOf, 3, some .int, 0, 0),
  (yX7_bandTold, cX7_bandTold, 3, some .int, 2, 46),
  (yX7_history, cX7_history, 4, some .long, 2, 46),
  (yX7_digest, cX7_digest, 2, some .long, 2, 46),
  (yX7_widened, cX7_widened, 3, some .int, 1, 25),
  (yX7_failure, cX7_failure, 3, some .int, 2, 46),
  (yX7_common, cX7_common, 10, some .long, 0, 0),
  (yX7_findParts, cX7_findParts, 4, none, 0, 0),
  (yX7_isFixed, cX7_isFixed, 4, some .boolean, 2, 43),
  (yX7_writesOf, cX7_writesOf, 2, some .int, 0, 0),
  (yX7_rate, cX7_rate, 13, some .boolean, 1, 29),
  (yX7_findRates, cX7_findRates, 7, some .boolean, 2, 61),
  (yX7_findFirings, cX7_findFirings, 6, some .boolean, 1, 29),
  (yX7_balance, cX7_balance, 2, some .int, 3, 87),
  (yX7_count, cX7_count, 2, some .int, 2, 43),
  (yJ7_fill_d0a16, cJ7_fill_d0a16, 5, none, 0, 0),
  (yJ7_copyOf_c38d5, cJ7_copyOf_c38d5, 3, some (.array .long), 1, 48),
  (yL_law, code, 4, some .boolean, 8, 207)]
def am_PP : am_P := fun y b => (am_PT.getD y []).getD b ([], [])
def am_YY : Nat → am_MI := fun y => am_YT.getD y (yL_law, code, 4, some .boolean, 0, 0)
abbrev nX0_init : Nat := 0
abbrev nX0_join : Nat := 1
abbrev nX0_restart : Nat := 2
abbrev nX0_canBeRead : Nat := 3
abbrev nX0_canBeWritten : Nat := 4
abbrev nX0_ending : Nat := 5
abbrev nX0_isTighterThan : Nat := 6
abbrev nX0_widen : Nat := 7
abbrev nX0_put : Nat := 8
abbrev nX0_lay : Nat := 9
abbrev nX0_growRing : Nat := 10
abbrev nX0_take : Nat := 11
abbrev nX1_init : Nat := 12
abbrev nX1_empty : Nat := 13
abbrev nX1_hold : Nat := 14
abbrev nX1_close : Nat := 15
abbrev nX1_portToRead : Nat := 16
abbrev nX1_portOfLesser : Nat := 17
abbrev nX1_giveOf : Nat := 18
abbrev nX1_sortIn : Nat := 19
abbrev nX1_giveLeast : Nat := 20
abbrev nX2_init : Nat := 21
abbrev nX2_findParts : Nat := 22
abbrev nX2_drawTogether : Nat := 23
abbrev nX2_solve : Nat := 24
abbrev nX2_firingsOf : Nat := 25
abbrev nX2_writtenByFiring : Nat := 26
abbrev nX2_spread : Nat := 27
abbrev nX2_setFraction : Nat := 28
abbrev nX2_agreesWithAll : Nat := 29
abbrev nX2_makeWhole : Nat := 30
abbrev nX2_makePartWhole : Nat := 31
abbrev nX2_greatestDivisor : Nat := 32
abbrev nX3_init : Nat := 33
abbrev nX3_empty : Nat := 34
abbrev nX3_append : Nat := 35
abbrev nX3_at : Nat := 36
abbrev nX4_init : Nat := 37
abbrev nX4_append : Nat := 38
abbrev nX4_restart : Nat := 39
abbrev nX4_nextAct : Nat := 40
abbrev nX4_reckon : Nat := 41
abbrev nX4_goTo : Nat := 42
abbrev nX4_isAtTry : Nat := 43
abbrev nX4_portNow : Nat := 44
abbrev nX4_registerNow : Nat := 45
abbrev nX4_keep : Nat := 46
abbrev nX4_goOn : Nat := 47
abbrev nX4_passOver : Nat := 48
abbrev nX5_init : Nat := 49
abbrev nX5_become : Nat := 50
abbrev nX5_restart : Nat := 51
abbrev nX5_stock : Nat := 52
abbrev nX5_isOver : Nat := 53
abbrev nX5_doing : Nat := 54
abbrev nX5_waits : Nat := 55
abbrev nX5_act : Nat := 56
abbrev nX5_readOff : Nat := 57
abbrev nX5_writeTo : Nat := 58
abbrev nX5_toRead : Nat := 59
abbrev nX5_toWrite : Nat := 60
abbrev nX5_toFail : Nat := 61
abbrev nX5_firstAct : Nat := 62
abbrev nX5_afterPattern : Nat := 63
abbrev nX5_afterWriting : Nat := 64
abbrev nX5_afterEnd : Nat := 65
abbrev nX5_sourceGoesOn : Nat := 66
abbrev nX5_repeatGoesOn : Nat := 67
abbrev nX5_mergeGoesOn : Nat := 68
abbrev nX5_sumGoesOn : Nat := 69
abbrev nX5_selectGoesOn : Nat := 70
abbrev nX5_copyGoesOn : Nat := 71
abbrev nX5_sortGoesOn : Nat := 72
abbrev nX5_tearGoesOn : Nat := 73
abbrev nX5_askScript : Nat := 74
abbrev nX6_init : Nat := 75
abbrev nX6_weaver : Nat := 76
abbrev nX6_feed : Nat := 77
abbrev nX6_step : Nat := 78
abbrev nX6_band : Nat := 79
abbrev nX6_width : Nat := 80
abbrev nX6_clear : Nat := 81
abbrev nX6_run : Nat := 82
abbrev nX6_reset : Nat := 83
abbrev nX6_told : Nat := 84
abbrev nX6_woven : Nat := 85
abbrev nX6_bandTold : Nat := 86
abbrev nX6_history : Nat := 87
abbrev nX6_digest : Nat := 88
abbrev nX6_widened : Nat := 89
abbrev nX6_failure : Nat := 90
abbrev nX6_balance : Nat := 91
abbrev nX6_count : Nat := 92
abbrev nX6_weaverAt : Nat := 93
abbrev nX6_bandAt : Nat := 94
abbrev nX6_isToldWidth : Nat := 95
abbrev nX6_suits : Nat := 96
abbrev nX6_isStep : Nat := 97
abbrev nX6_isRegister : Nat := 98
abbrev nX6_forgetRun : Nat := 99
abbrev nX6_restartAll : Nat := 100
abbrev nX6_doActs : Nat := 101
abbrev nX6_firstAble : Nat := 102
abbrev nX6_stillness : Nat := 103
abbrev nX6_widenTightest : Nat := 104
abbrev nX6_tightest : Nat := 105
abbrev nX6_isFixed : Nat := 106
abbrev nX6_hasFixedRates : Nat := 107
abbrev nX7_init : Nat := 108
abbrev nX7_in : Nat := 109
abbrev nX7_insOf : Nat := 110
abbrev nX7_outsOf : Nat := 111
abbrev nX7_isWeaver : Nat := 112
abbrev nX7_weaver : Nat := 113
abbrev nX7_feed : Nat := 114
abbrev nX7_isStep : Nat := 115
abbrev nX7_step : Nat := 116
abbrev nX7_band : Nat := 117
abbrev nX7_isBand : Nat := 118
abbrev nX7_width : Nat := 119
abbrev nX7_clear : Nat := 120
abbrev nX7_isWhole : Nat := 121
abbrev nX7_begin : Nat := 122
abbrev nX7_toRead : Nat := 123
abbrev nX7_toWrite : Nat := 124
abbrev nX7_toFail : Nat := 125
abbrev nX7_find : Nat := 126
abbrev nX7_findMerge : Nat := 127
abbrev nX7_findSort : Nat := 128
abbrev nX7_findScript : Nat := 129
abbrev nX7_look : Nat := 130
abbrev nX7_bandAt : Nat := 131
abbrev nX7_isOver : Nat := 132
abbrev nX7_stateOf : Nat := 133
abbrev nX7_end : Nat := 134
abbrev nX7_got : Nat := 135
abbrev nX7_insert : Nat := 136
abbrev nX7_gotEnd : Nat := 137
abbrev nX7_doRead : Nat := 138
abbrev nX7_gave : Nat := 139
abbrev nX7_doWrite : Nat := 140
abbrev nX7_doAct : Nat := 141
abbrev nX7_canAny : Nat := 142
abbrev nX7_narrow : Nat := 143
abbrev nX7_widen : Nat := 144
abbrev nX7_run : Nat := 145
abbrev nX7_reset : Nat := 146
abbrev nX7_told : Nat := 147
abbrev nX7_patternOf : Nat := 148
abbrev nX7_woven : Nat := 149
abbrev nX7_endOf : Nat := 150
abbrev nX7_bandTold : Nat := 151
abbrev nX7_history : Nat := 152
abbrev nX7_digest : Nat := 153
abbrev nX7_widened : Nat := 154
abbrev nX7_failure : Nat := 155
abbrev nX7_common : Nat := 156
abbrev nX7_findParts : Nat := 157
abbrev nX7_isFixed : Nat := 158
abbrev nX7_writesOf : Nat := 159
abbrev nX7_rate : Nat := 160
abbrev nX7_findRates : Nat := 161
abbrev nX7_findFirings : Nat := 162
abbrev nX7_balance : Nat := 163
abbrev nX7_count : Nat := 164
abbrev nJ7_fill_d0a16 : Nat := 165
abbrev nJ7_copyOf_c38d5 : Nat := 166
abbrev nL_law : Nat := 167
