theorem kn_X0 : Cond.initialized RX0 ∈ bigG := k_4
theorem kn_X1 : Cond.initialized RX1 ∈ bigG := k_3
theorem kn_X2 : Cond.initialized RX2 ∈ bigG := k_8
theorem kn_X3 : Cond.initialized RX3 ∈ bigG := k_5
theorem kn_X4 : Cond.initialized RX4 ∈ bigG := k_13
theorem kn_X5 : Cond.initialized RX5 ∈ bigG := k_12
theorem kn_X6 : Cond.initialized RX6 ∈ bigG := k_11
theorem kn_X7 : Cond.initialized RX7 ∈ bigG := k_10
theorem kn_X8 : Cond.initialized RX8 ∈ bigG := k_7
theorem kn_X9 : Cond.initialized RX9 ∈ bigG := k_2
theorem kn_X10 : Cond.initialized RX10 ∈ bigG := k_6
theorem kn_X11 : Cond.initialized RX11 ∈ bigG := k_1
theorem kn_X12 : Cond.initialized RX12 ∈ bigG := k_14
theorem kn_J7 : Cond.initialized RJ7 ∈ bigG := k_9
theorem kn_J6 : Cond.initialized RJ6 ∈ bigG := k_22
theorem kc_X0_init : Cond.code yX0_init cX0_init 1 none ∈ bigG := k_100
theorem ki_X0_init : Cond.instanceMethod yX0_init ∈ bigG := k_99
theorem kc_X0_forgets : Cond.code yX0_forgets cX0_forgets 1 none ∈ bigG := k_492
theorem ki_X0_forgets : Cond.instanceMethod yX0_forgets ∈ bigG := k_490
theorem kz_X0_forgets : Cond.selects RX0 yX0_forgets yX0_forgets ∈ bigG := k_491
theorem kc_X0_settleGifts : Cond.code yX0_settleGifts cX0_settleGifts 3 none ∈ bigG := k_800
theorem ki_X0_settleGifts : Cond.instanceMethod yX0_settleGifts ∈ bigG := k_798
theorem kz_X0_settleGifts : Cond.selects RX0 yX0_settleGifts yX0_settleGifts ∈ bigG := k_799
theorem kc_X0_cupsInAll : Cond.code yX0_cupsInAll cX0_cupsInAll 3 (some .int) ∈ bigG := k_1211
theorem ki_X0_cupsInAll : Cond.instanceMethod yX0_cupsInAll ∈ bigG := k_1209
theorem kz_X0_cupsInAll : Cond.selects RX0 yX0_cupsInAll yX0_cupsInAll ∈ bigG := k_1210
theorem kc_X1_init : Cond.code yX1_init cX1_init 1 none ∈ bigG := k_84
theorem ki_X1_init : Cond.instanceMethod yX1_init ∈ bigG := k_83
theorem kc_X1_reads : Cond.code yX1_reads cX1_reads 5 (some .boolean) ∈ bigG := k_488
theorem ki_X1_reads : Cond.instanceMethod yX1_reads ∈ bigG := k_486
theorem kz_X1_reads : Cond.selects RX1 yX1_reads yX1_reads ∈ bigG := k_487
theorem kc_X2_init : Cond.code yX2_init cX2_init 1 none ∈ bigG := k_294
theorem ki_X2_init : Cond.instanceMethod yX2_init ∈ bigG := k_293
theorem kc_X2_howManyTold : Cond.code yX2_howManyTold cX2_howManyTold 3 (some .int) ∈ bigG := k_1219
theorem ki_X2_howManyTold : Cond.instanceMethod yX2_howManyTold ∈ bigG := k_1217
theorem kz_X2_howManyTold : Cond.selects RX2 yX2_howManyTold yX2_howManyTold ∈ bigG := k_1218
theorem kc_X2_isTold : Cond.code yX2_isTold cX2_isTold 2 (some .boolean) ∈ bigG := k_1117
theorem ki_X2_isTold : Cond.instanceMethod yX2_isTold ∈ bigG := k_1116
theorem kz_X2_isTold : Cond.selects RX2 yX2_isTold yX2_isTold ∈ bigG := ks_35
theorem kc_X3_init : Cond.code yX3_init cX3_init 1 none ∈ bigG := k_106
theorem ki_X3_init : Cond.instanceMethod yX3_init ∈ bigG := k_105
theorem kc_X3_becomesUsual : Cond.code yX3_becomesUsual cX3_becomesUsual 1 none ∈ bigG := k_497
theorem ki_X3_becomesUsual : Cond.instanceMethod yX3_becomesUsual ∈ bigG := k_495
theorem kz_X3_becomesUsual : Cond.selects RX3 yX3_becomesUsual yX3_becomesUsual ∈ bigG := k_496
theorem kc_X3_addStep : Cond.code yX3_addStep cX3_addStep 2 none ∈ bigG := k_501
theorem ki_X3_addStep : Cond.instanceMethod yX3_addStep ∈ bigG := k_500
theorem kz_X3_addStep : Cond.selects RX3 yX3_addStep yX3_addStep ∈ bigG := ks_0
theorem kc_X4_init : Cond.code yX4_init cX4_init 1 none ∈ bigG := k_400
theorem ki_X4_init : Cond.instanceMethod yX4_init ∈ bigG := k_399
theorem kc_X4_lays : Cond.code yX4_lays cX4_lays 4 none ∈ bigG := k_1203
theorem ki_X4_lays : Cond.instanceMethod yX4_lays ∈ bigG := k_1201
theorem kz_X4_lays : Cond.selects RX4 yX4_lays yX4_lays ∈ bigG := k_1202
theorem kc_X5_init : Cond.code yX5_init cX5_init 1 none ∈ bigG := k_383
theorem ki_X5_init : Cond.instanceMethod yX5_init ∈ bigG := k_382
theorem kc_X5_pairs : Cond.code yX5_pairs cX5_pairs 3 none ∈ bigG := k_1153
theorem ki_X5_pairs : Cond.instanceMethod yX5_pairs ∈ bigG := k_1151
theorem kz_X5_pairs : Cond.selects RX5 yX5_pairs yX5_pairs ∈ bigG := k_1152
theorem kc_X5_pairRest : Cond.code yX5_pairRest cX5_pairRest 9 none ∈ bigG := k_1160
theorem ki_X5_pairRest : Cond.instanceMethod yX5_pairRest ∈ bigG := k_1159
theorem kz_X5_pairRest : Cond.selects RX5 yX5_pairRest yX5_pairRest ∈ bigG := ks_36
theorem kc_X6_init : Cond.code yX6_init cX6_init 1 none ∈ bigG := k_353
theorem ki_X6_init : Cond.instanceMethod yX6_init ∈ bigG := k_352
theorem kc_X7_init : Cond.code yX7_init cX7_init 2 none ∈ bigG := k_324
theorem ki_X7_init : Cond.instanceMethod yX7_init ∈ bigG := k_323
theorem kc_X7_finds : Cond.code yX7_finds cX7_finds 4 (some .boolean) ∈ bigG := k_1016
theorem ki_X7_finds : Cond.instanceMethod yX7_finds ∈ bigG := k_1014
theorem kz_X7_finds : Cond.selects RX7 yX7_finds yX7_finds ∈ bigG := k_1015
theorem kc_X7_search : Cond.code yX7_search cX7_search 7 none ∈ bigG := k_1023
theorem ki_X7_search : Cond.instanceMethod yX7_search ∈ bigG := k_1022
theorem kz_X7_search : Cond.selects RX7 yX7_search yX7_search ∈ bigG := ks_27
theorem kc_X7_eaterOf : Cond.code yX7_eaterOf cX7_eaterOf 1 (some .int) ∈ bigG := k_1030
theorem kt_X7_eaterOf : Cond.static yX7_eaterOf ∈ bigG := k_1029
theorem kc_X7_dishOf : Cond.code yX7_dishOf cX7_dishOf 1 (some .int) ∈ bigG := k_1033
theorem kt_X7_dishOf : Cond.static yX7_dishOf ∈ bigG := k_1032
theorem kc_X7_costOf : Cond.code yX7_costOf cX7_costOf 6 (some .int) ∈ bigG := k_1027
theorem ki_X7_costOf : Cond.instanceMethod yX7_costOf ∈ bigG := k_1026
theorem kz_X7_costOf : Cond.selects RX7 yX7_costOf yX7_costOf ∈ bigG := ks_28
theorem kc_X7_feedsAll : Cond.code yX7_feedsAll cX7_feedsAll 7 (some .boolean) ∈ bigG := k_1039
theorem ki_X7_feedsAll : Cond.instanceMethod yX7_feedsAll ∈ bigG := k_1038
theorem kz_X7_feedsAll : Cond.selects RX7 yX7_feedsAll yX7_feedsAll ∈ bigG := ks_29
theorem kc_X7_chooses : Cond.code yX7_chooses cX7_chooses 5 none ∈ bigG := k_1047
theorem ki_X7_chooses : Cond.instanceMethod yX7_chooses ∈ bigG := k_1046
theorem kz_X7_chooses : Cond.selects RX7 yX7_chooses yX7_chooses ∈ bigG := ks_30
theorem kc_X8_init : Cond.code yX8_init cX8_init 1 none ∈ bigG := k_258
theorem ki_X8_init : Cond.instanceMethod yX8_init ∈ bigG := k_257
theorem kc_X8_begins : Cond.code yX8_begins cX8_begins 2 none ∈ bigG := k_849
theorem ki_X8_begins : Cond.instanceMethod yX8_begins ∈ bigG := k_847
theorem kz_X8_begins : Cond.selects RX8 yX8_begins yX8_begins ∈ bigG := k_848
theorem kc_X8_copies : Cond.code yX8_copies cX8_copies 2 none ∈ bigG := k_954
theorem ki_X8_copies : Cond.instanceMethod yX8_copies ∈ bigG := k_952
theorem kz_X8_copies : Cond.selects RX8 yX8_copies yX8_copies ∈ bigG := k_953
theorem kc_X8_copiesDay : Cond.code yX8_copiesDay cX8_copiesDay 2 none ∈ bigG := k_958
theorem ki_X8_copiesDay : Cond.instanceMethod yX8_copiesDay ∈ bigG := k_956
theorem kz_X8_copiesDay : Cond.selects RX8 yX8_copiesDay yX8_copiesDay ∈ bigG := k_957
theorem kc_X8_whoSits : Cond.code yX8_whoSits cX8_whoSits 4 (some .int) ∈ bigG := k_1057
theorem ki_X8_whoSits : Cond.instanceMethod yX8_whoSits ∈ bigG := k_1055
theorem kz_X8_whoSits : Cond.selects RX8 yX8_whoSits yX8_whoSits ∈ bigG := k_1056
theorem kc_X8_endsDay : Cond.code yX8_endsDay cX8_endsDay 4 (some .int) ∈ bigG := k_976
theorem ki_X8_endsDay : Cond.instanceMethod yX8_endsDay ∈ bigG := k_974
theorem kz_X8_endsDay : Cond.selects RX8 yX8_endsDay yX8_endsDay ∈ bigG := k_975
theorem kc_X9_init : Cond.code yX9_init cX9_init 1 none ∈ bigG := k_39
theorem ki_X9_init : Cond.instanceMethod yX9_init ∈ bigG := k_38
theorem kc_X9_addBytes : Cond.code yX9_addBytes cX9_addBytes 6 none ∈ bigG := k_479
theorem ki_X9_addBytes : Cond.instanceMethod yX9_addBytes ∈ bigG := k_477
theorem kz_X9_addBytes : Cond.selects RX9 yX9_addBytes yX9_addBytes ∈ bigG := k_478
theorem kc_X9_rewind : Cond.code yX9_rewind cX9_rewind 1 none ∈ bigG := k_505
theorem ki_X9_rewind : Cond.instanceMethod yX9_rewind ∈ bigG := k_503
theorem kz_X9_rewind : Cond.selects RX9 yX9_rewind yX9_rewind ∈ bigG := k_504
theorem kc_X9_takesToken : Cond.code yX9_takesToken cX9_takesToken 1 none ∈ bigG := k_509
theorem ki_X9_takesToken : Cond.instanceMethod yX9_takesToken ∈ bigG := k_507
theorem kz_X9_takesToken : Cond.selects RX9 yX9_takesToken yX9_takesToken ∈ bigG := k_508
theorem kc_X10_init : Cond.code yX10_init cX10_init 1 none ∈ bigG := k_238
theorem ki_X10_init : Cond.instanceMethod yX10_init ∈ bigG := k_237
theorem kc_X10_copies : Cond.code yX10_copies cX10_copies 2 none ∈ bigG := k_1197
theorem ki_X10_copies : Cond.instanceMethod yX10_copies ∈ bigG := k_1195
theorem kz_X10_copies : Cond.selects RX10 yX10_copies yX10_copies ∈ bigG := k_1196
theorem kc_X10_reads : Cond.code yX10_reads cX10_reads 4 (some .boolean) ∈ bigG := k_859
theorem ki_X10_reads : Cond.instanceMethod yX10_reads ∈ bigG := k_857
theorem kz_X10_reads : Cond.selects RX10 yX10_reads yX10_reads ∈ bigG := k_858
theorem kc_X11_init : Cond.code yX11_init cX11_init 2 none ∈ bigG := k_31
theorem ki_X11_init : Cond.instanceMethod yX11_init ∈ bigG := k_30
theorem kc_X11_feed : Cond.code yX11_feed cX11_feed 7 (some .int) ∈ bigG := k_475
theorem ki_X11_feed : Cond.instanceMethod yX11_feed ∈ bigG := k_473
theorem kz_X11_feed : Cond.selects RX11 yX11_feed yX11_feed ∈ bigG := k_474
theorem kc_X11_commune : Cond.code yX11_commune cX11_commune 2 (some .int) ∈ bigG := k_484
theorem ki_X11_commune : Cond.instanceMethod yX11_commune ∈ bigG := k_482
theorem kz_X11_commune : Cond.selects RX11 yX11_commune yX11_commune ∈ bigG := k_483
theorem kc_X11_weeks : Cond.code yX11_weeks cX11_weeks 2 (some .int) ∈ bigG := k_855
theorem ki_X11_weeks : Cond.instanceMethod yX11_weeks ∈ bigG := k_853
theorem kz_X11_weeks : Cond.selects RX11 yX11_weeks yX11_weeks ∈ bigG := k_854
theorem kc_X11_person : Cond.code yX11_person cX11_person 3 (some .int) ∈ bigG := k_893
theorem ki_X11_person : Cond.instanceMethod yX11_person ∈ bigG := k_891
theorem kz_X11_person : Cond.selects RX11 yX11_person yX11_person ∈ bigG := k_892
theorem kc_X11_dish : Cond.code yX11_dish cX11_dish 3 (some .int) ∈ bigG := k_909
theorem ki_X11_dish : Cond.instanceMethod yX11_dish ∈ bigG := k_907
theorem kz_X11_dish : Cond.selects RX11 yX11_dish yX11_dish ∈ bigG := k_908
theorem kc_X11_would : Cond.code yX11_would cX11_would 5 (some .int) ∈ bigG := k_917
theorem ki_X11_would : Cond.instanceMethod yX11_would ∈ bigG := k_915
theorem kz_X11_would : Cond.selects RX11 yX11_would yX11_would ∈ bigG := k_916
theorem kc_X11_eat : Cond.code yX11_eat cX11_eat 5 (some .int) ∈ bigG := k_946
theorem ki_X11_eat : Cond.instanceMethod yX11_eat ∈ bigG := k_944
theorem kz_X11_eat : Cond.selects RX11 yX11_eat yX11_eat ∈ bigG := k_945
theorem kc_X11_abroad : Cond.code yX11_abroad cX11_abroad 3 (some .int) ∈ bigG := k_980
theorem ki_X11_abroad : Cond.instanceMethod yX11_abroad ∈ bigG := k_978
theorem kz_X11_abroad : Cond.selects RX11 yX11_abroad yX11_abroad ∈ bigG := k_979
theorem kc_X11_fast : Cond.code yX11_fast cX11_fast 1 (some .int) ∈ bigG := k_992
theorem ki_X11_fast : Cond.instanceMethod yX11_fast ∈ bigG := k_990
theorem kz_X11_fast : Cond.selects RX11 yX11_fast yX11_fast ∈ bigG := k_991
theorem kc_X11_undo : Cond.code yX11_undo cX11_undo 1 (some .boolean) ∈ bigG := k_996
theorem ki_X11_undo : Cond.instanceMethod yX11_undo ∈ bigG := k_994
theorem kz_X11_undo : Cond.selects RX11 yX11_undo yX11_undo ∈ bigG := k_995
theorem kc_X11_judged : Cond.code yX11_judged cX11_judged 5 (some .int) ∈ bigG := k_1000
theorem ki_X11_judged : Cond.instanceMethod yX11_judged ∈ bigG := k_998
theorem kz_X11_judged : Cond.selects RX11 yX11_judged yX11_judged ∈ bigG := k_999
theorem kc_X11_plan : Cond.code yX11_plan cX11_plan 3 (some .int) ∈ bigG := k_1012
theorem ki_X11_plan : Cond.instanceMethod yX11_plan ∈ bigG := k_1010
theorem kz_X11_plan : Cond.selects RX11 yX11_plan yX11_plan ∈ bigG := k_1011
theorem kc_X11_tables : Cond.code yX11_tables cX11_tables 3 (some .int) ∈ bigG := k_1053
theorem ki_X11_tables : Cond.instanceMethod yX11_tables ∈ bigG := k_1051
theorem kz_X11_tables : Cond.selects RX11 yX11_tables yX11_tables ∈ bigG := k_1052
theorem kc_X11_last : Cond.code yX11_last cX11_last 5 (some .int) ∈ bigG := k_1083
theorem ki_X11_last : Cond.instanceMethod yX11_last ∈ bigG := k_1081
theorem kz_X11_last : Cond.selects RX11 yX11_last yX11_last ∈ bigG := k_1082
theorem kc_X11_tell : Cond.code yX11_tell cX11_tell 3 (some .boolean) ∈ bigG := k_1092
theorem ki_X11_tell : Cond.instanceMethod yX11_tell ∈ bigG := k_1090
theorem kz_X11_tell : Cond.selects RX11 yX11_tell yX11_tell ∈ bigG := k_1091
theorem kc_X11_sets : Cond.code yX11_sets cX11_sets 3 (some .int) ∈ bigG := k_1096
theorem ki_X11_sets : Cond.instanceMethod yX11_sets ∈ bigG := k_1094
theorem kz_X11_sets : Cond.selects RX11 yX11_sets yX11_sets ∈ bigG := k_1095
theorem kc_X11_stop : Cond.code yX11_stop cX11_stop 8 (some .int) ∈ bigG := k_1126
theorem ki_X11_stop : Cond.instanceMethod yX11_stop ∈ bigG := k_1124
theorem kz_X11_stop : Cond.selects RX11 yX11_stop yX11_stop ∈ bigG := k_1125
theorem kc_X11_power : Cond.code yX11_power cX11_power 7 (some .int) ∈ bigG := k_1141
theorem ki_X11_power : Cond.instanceMethod yX11_power ∈ bigG := k_1139
theorem kz_X11_power : Cond.selects RX11 yX11_power yX11_power ∈ bigG := k_1140
theorem kc_X11_couples : Cond.code yX11_couples cX11_couples 2 (some .int) ∈ bigG := k_1149
theorem ki_X11_couples : Cond.instanceMethod yX11_couples ∈ bigG := k_1147
theorem kz_X11_couples : Cond.selects RX11 yX11_couples yX11_couples ∈ bigG := k_1148
theorem kc_X11_rests : Cond.code yX11_rests cX11_rests 5 (some .int) ∈ bigG := k_1227
theorem ki_X11_rests : Cond.instanceMethod yX11_rests ∈ bigG := k_1225
theorem kz_X11_rests : Cond.selects RX11 yX11_rests yX11_rests ∈ bigG := k_1226
theorem kc_X11_years : Cond.code yX11_years cX11_years 8 (some .int) ∈ bigG := k_1170
theorem ki_X11_years : Cond.instanceMethod yX11_years ∈ bigG := k_1168
theorem kz_X11_years : Cond.selects RX11 yX11_years yX11_years ∈ bigG := k_1169
theorem kc_X11_mark : Cond.code yX11_mark cX11_mark 3 (some .boolean) ∈ bigG := k_1188
theorem ki_X11_mark : Cond.instanceMethod yX11_mark ∈ bigG := k_1186
theorem kz_X11_mark : Cond.selects RX11 yX11_mark yX11_mark ∈ bigG := k_1187
theorem kc_X11_count : Cond.code yX11_count cX11_count 2 (some .int) ∈ bigG := k_1207
theorem ki_X11_count : Cond.instanceMethod yX11_count ∈ bigG := k_1205
theorem kz_X11_count : Cond.selects RX11 yX11_count yX11_count ∈ bigG := k_1206
theorem kc_X11_isPerson : Cond.code yX11_isPerson cX11_isPerson 2 (some .boolean) ∈ bigG := k_897
theorem ki_X11_isPerson : Cond.instanceMethod yX11_isPerson ∈ bigG := k_896
theorem kz_X11_isPerson : Cond.selects RX11 yX11_isPerson yX11_isPerson ∈ bigG := ks_22
theorem kc_X11_isDish : Cond.code yX11_isDish cX11_isDish 2 (some .boolean) ∈ bigG := k_913
theorem ki_X11_isDish : Cond.instanceMethod yX11_isDish ∈ bigG := k_912
theorem kz_X11_isDish : Cond.selects RX11 yX11_isDish yX11_isDish ∈ bigG := ks_23
theorem kc_X11_canBeMeal : Cond.code yX11_canBeMeal cX11_canBeMeal 3 (some .boolean) ∈ bigG := k_921
theorem ki_X11_canBeMeal : Cond.instanceMethod yX11_canBeMeal ∈ bigG := k_920
theorem kz_X11_canBeMeal : Cond.selects RX11 yX11_canBeMeal yX11_canBeMeal ∈ bigG := ks_24
theorem kc_X11_beginAnew : Cond.code yX11_beginAnew cX11_beginAnew 2 none ∈ bigG := k_845
theorem ki_X11_beginAnew : Cond.instanceMethod yX11_beginAnew ∈ bigG := k_844
theorem kz_X11_beginAnew : Cond.selects RX11 yX11_beginAnew yX11_beginAnew ∈ bigG := ks_18
theorem kc_X11_remember : Cond.code yX11_remember cX11_remember 1 none ∈ bigG := k_950
theorem ki_X11_remember : Cond.instanceMethod yX11_remember ∈ bigG := k_949
theorem kz_X11_remember : Cond.selects RX11 yX11_remember yX11_remember ∈ bigG := ks_25
theorem kc_X11_findRests : Cond.code yX11_findRests cX11_findRests 6 (some .int) ∈ bigG := k_1296
theorem ki_X11_findRests : Cond.instanceMethod yX11_findRests ∈ bigG := k_1295
theorem kz_X11_findRests : Cond.selects RX11 yX11_findRests yX11_findRests ∈ bigG := ks_39
theorem kc_X11_isBestFor : Cond.code yX11_isBestFor cX11_isBestFor 6 (some .boolean) ∈ bigG := k_1299
theorem kt_X11_isBestFor : Cond.static yX11_isBestFor ∈ bigG := k_1298
theorem kc_X11_greedGain : Cond.code yX11_greedGain cX11_greedGain 4 (some .int) ∈ bigG := k_1302
theorem kt_X11_greedGain : Cond.static yX11_greedGain ∈ bigG := k_1301
theorem kc_X11_nextDraw : Cond.code yX11_nextDraw cX11_nextDraw 2 (some .long) ∈ bigG := k_1173
theorem kt_X11_nextDraw : Cond.static yX11_nextDraw ∈ bigG := k_1172
theorem kc_X11_drawBelow : Cond.code yX11_drawBelow cX11_drawBelow 3 (some .int) ∈ bigG := k_1179
theorem kt_X11_drawBelow : Cond.static yX11_drawBelow ∈ bigG := k_1178
theorem kc_X11_sum : Cond.code yX11_sum cX11_sum 4 (some .int) ∈ bigG := k_1215
theorem kt_X11_sum : Cond.static yX11_sum ∈ bigG := k_1214
theorem kc_X12_init : Cond.code yX12_init cX12_init 1 none ∈ bigG := k_1309
theorem ki_X12_init : Cond.instanceMethod yX12_init ∈ bigG := k_1308
theorem kc_X12_thrown : Cond.code yX12_thrown cX12_thrown 1 (some .int) ∈ bigG := k_1520
theorem ki_X12_thrown : Cond.instanceMethod yX12_thrown ∈ bigG := k_1518
theorem kz_X12_thrown : Cond.selects RX12 yX12_thrown yX12_thrown ∈ bigG := k_1519
theorem kc_X12_within : Cond.code yX12_within cX12_within 3 (some .boolean) ∈ bigG := k_1617
theorem kt_X12_within : Cond.static yX12_within ∈ bigG := k_1616
theorem kc_X12_feed : Cond.code yX12_feed cX12_feed 11 (some .int) ∈ bigG := k_1524
theorem ki_X12_feed : Cond.instanceMethod yX12_feed ∈ bigG := k_1522
theorem kz_X12_feed : Cond.selects RX12 yX12_feed yX12_feed ∈ bigG := k_1523
theorem kc_X12_nextToken : Cond.code yX12_nextToken cX12_nextToken 2 none ∈ bigG := k_1541
theorem ki_X12_nextToken : Cond.instanceMethod yX12_nextToken ∈ bigG := k_1540
theorem kz_X12_nextToken : Cond.selects RX12 yX12_nextToken yX12_nextToken ∈ bigG := ks_43
theorem kc_X12_starts : Cond.code yX12_starts cX12_starts 1 none ∈ bigG := k_1537
theorem ki_X12_starts : Cond.instanceMethod yX12_starts ∈ bigG := k_1536
theorem kz_X12_starts : Cond.selects RX12 yX12_starts yX12_starts ∈ bigG := ks_42
theorem kc_X12_readsAll : Cond.code yX12_readsAll cX12_readsAll 2 (some .boolean) ∈ bigG := k_1533
theorem ki_X12_readsAll : Cond.instanceMethod yX12_readsAll ∈ bigG := k_1532
theorem kz_X12_readsAll : Cond.selects RX12 yX12_readsAll yX12_readsAll ∈ bigG := ks_41
theorem kc_X12_moves : Cond.code yX12_moves cX12_moves 3 none ∈ bigG := k_1677
theorem kt_X12_moves : Cond.static yX12_moves ∈ bigG := k_1676
theorem kc_X12_movesNames : Cond.code yX12_movesNames cX12_movesNames 3 none ∈ bigG := k_1680
theorem kt_X12_movesNames : Cond.static yX12_movesNames ∈ bigG := k_1679
theorem kc_X12_lays : Cond.code yX12_lays cX12_lays 1 none ∈ bigG := k_1674
theorem ki_X12_lays : Cond.instanceMethod yX12_lays ∈ bigG := k_1673
theorem kz_X12_lays : Cond.selects RX12 yX12_lays yX12_lays ∈ bigG := ks_67
theorem kc_X12_copies : Cond.code yX12_copies cX12_copies 5 none ∈ bigG := k_1782
theorem kt_X12_copies : Cond.static yX12_copies ∈ bigG := k_1781
theorem kc_X12_laysLines : Cond.code yX12_laysLines cX12_laysLines 4 none ∈ bigG := k_1704
theorem ki_X12_laysLines : Cond.instanceMethod yX12_laysLines ∈ bigG := k_1703
theorem kz_X12_laysLines : Cond.selects RX12 yX12_laysLines yX12_laysLines ∈ bigG := ks_72
theorem kc_X12_laysTold : Cond.code yX12_laysTold cX12_laysTold 4 none ∈ bigG := k_1935
theorem ki_X12_laysTold : Cond.instanceMethod yX12_laysTold ∈ bigG := k_1934
theorem kz_X12_laysTold : Cond.selects RX12 yX12_laysTold yX12_laysTold ∈ bigG := ks_104
theorem kc_X12_fresh : Cond.code yX12_fresh cX12_fresh 2 none ∈ bigG := k_1314
theorem ki_X12_fresh : Cond.instanceMethod yX12_fresh ∈ bigG := k_1313
theorem kz_X12_fresh : Cond.selects RX12 yX12_fresh yX12_fresh ∈ bigG := ks_40
theorem kc_X12_forgets : Cond.code yX12_forgets cX12_forgets 2 none ∈ bigG := k_1684
theorem ki_X12_forgets : Cond.instanceMethod yX12_forgets ∈ bigG := k_1683
theorem kz_X12_forgets : Cond.selects RX12 yX12_forgets yX12_forgets ∈ bigG := ks_68
theorem kc_X12_commune : Cond.code yX12_commune cX12_commune 2 (some .int) ∈ bigG := k_1529
theorem ki_X12_commune : Cond.instanceMethod yX12_commune ∈ bigG := k_1527
theorem kz_X12_commune : Cond.selects RX12 yX12_commune yX12_commune ∈ bigG := k_1528
theorem kc_X12_weeks : Cond.code yX12_weeks cX12_weeks 1 (some .int) ∈ bigG := k_1688
theorem ki_X12_weeks : Cond.instanceMethod yX12_weeks ∈ bigG := k_1686
theorem kz_X12_weeks : Cond.selects RX12 yX12_weeks yX12_weeks ∈ bigG := k_1687
theorem kc_X12_isPerson : Cond.code yX12_isPerson cX12_isPerson 2 (some .boolean) ∈ bigG := k_1712
theorem ki_X12_isPerson : Cond.instanceMethod yX12_isPerson ∈ bigG := k_1711
theorem kz_X12_isPerson : Cond.selects RX12 yX12_isPerson yX12_isPerson ∈ bigG := ks_73
theorem kc_X12_isDish : Cond.code yX12_isDish cX12_isDish 2 (some .boolean) ∈ bigG := k_1724
theorem ki_X12_isDish : Cond.instanceMethod yX12_isDish ∈ bigG := k_1723
theorem kz_X12_isDish : Cond.selects RX12 yX12_isDish yX12_isDish ∈ bigG := ks_75
theorem kc_X12_sitting : Cond.code yX12_sitting cX12_sitting 3 (some .int) ∈ bigG := k_1790
theorem ki_X12_sitting : Cond.instanceMethod yX12_sitting ∈ bigG := k_1789
theorem kz_X12_sitting : Cond.selects RX12 yX12_sitting yX12_sitting ∈ bigG := ks_87
theorem kc_X12_person : Cond.code yX12_person cX12_person 3 (some .int) ∈ bigG := k_1708
theorem ki_X12_person : Cond.instanceMethod yX12_person ∈ bigG := k_1706
theorem kz_X12_person : Cond.selects RX12 yX12_person yX12_person ∈ bigG := k_1707
theorem kc_X12_dish : Cond.code yX12_dish cX12_dish 3 (some .int) ∈ bigG := k_1720
theorem ki_X12_dish : Cond.instanceMethod yX12_dish ∈ bigG := k_1718
theorem kz_X12_dish : Cond.selects RX12 yX12_dish yX12_dish ∈ bigG := k_1719
theorem kc_X12_would : Cond.code yX12_would cX12_would 5 (some .int) ∈ bigG := k_1728
theorem ki_X12_would : Cond.instanceMethod yX12_would ∈ bigG := k_1726
theorem kz_X12_would : Cond.selects RX12 yX12_would yX12_would ∈ bigG := k_1727
theorem kc_X12_keeps : Cond.code yX12_keeps cX12_keeps 2 none ∈ bigG := k_1779
theorem ki_X12_keeps : Cond.instanceMethod yX12_keeps ∈ bigG := k_1778
theorem kz_X12_keeps : Cond.selects RX12 yX12_keeps yX12_keeps ∈ bigG := ks_85
theorem kc_X12_eat : Cond.code yX12_eat cX12_eat 4 (some .int) ∈ bigG := k_1775
theorem ki_X12_eat : Cond.instanceMethod yX12_eat ∈ bigG := k_1773
theorem kz_X12_eat : Cond.selects RX12 yX12_eat yX12_eat ∈ bigG := k_1774
theorem kc_X12_abroad : Cond.code yX12_abroad cX12_abroad 3 (some .int) ∈ bigG := k_1803
theorem ki_X12_abroad : Cond.instanceMethod yX12_abroad ∈ bigG := k_1801
theorem kz_X12_abroad : Cond.selects RX12 yX12_abroad yX12_abroad ∈ bigG := k_1802
theorem kc_X12_ends : Cond.code yX12_ends cX12_ends 3 none ∈ bigG := k_1799
theorem ki_X12_ends : Cond.instanceMethod yX12_ends ∈ bigG := k_1798
theorem kz_X12_ends : Cond.selects RX12 yX12_ends yX12_ends ∈ bigG := ks_89
theorem kc_X12_fast : Cond.code yX12_fast cX12_fast 1 (some .int) ∈ bigG := k_1811
theorem ki_X12_fast : Cond.instanceMethod yX12_fast ∈ bigG := k_1809
theorem kz_X12_fast : Cond.selects RX12 yX12_fast yX12_fast ∈ bigG := k_1810
theorem kc_X12_undo : Cond.code yX12_undo cX12_undo 1 (some .boolean) ∈ bigG := k_1815
theorem ki_X12_undo : Cond.instanceMethod yX12_undo ∈ bigG := k_1813
theorem kz_X12_undo : Cond.selects RX12 yX12_undo yX12_undo ∈ bigG := k_1814
theorem kc_X12_judged : Cond.code yX12_judged cX12_judged 6 (some .int) ∈ bigG := k_1819
theorem ki_X12_judged : Cond.instanceMethod yX12_judged ∈ bigG := k_1817
theorem kz_X12_judged : Cond.selects RX12 yX12_judged yX12_judged ∈ bigG := k_1818
theorem kc_X12_planOf : Cond.code yX12_planOf cX12_planOf 11 (some .int) ∈ bigG := k_1831
theorem ki_X12_planOf : Cond.instanceMethod yX12_planOf ∈ bigG := k_1830
theorem kz_X12_planOf : Cond.selects RX12 yX12_planOf yX12_planOf ∈ bigG := ks_92
theorem kc_X12_plan : Cond.code yX12_plan cX12_plan 4 (some .int) ∈ bigG := k_1827
theorem ki_X12_plan : Cond.instanceMethod yX12_plan ∈ bigG := k_1825
theorem kz_X12_plan : Cond.selects RX12 yX12_plan yX12_plan ∈ bigG := k_1826
theorem kc_X12_tables : Cond.code yX12_tables cX12_tables 3 (some .int) ∈ bigG := k_1835
theorem ki_X12_tables : Cond.instanceMethod yX12_tables ∈ bigG := k_1833
theorem kz_X12_tables : Cond.selects RX12 yX12_tables yX12_tables ∈ bigG := k_1834
theorem kc_X12_last : Cond.code yX12_last cX12_last 6 (some .int) ∈ bigG := k_1847
theorem ki_X12_last : Cond.instanceMethod yX12_last ∈ bigG := k_1845
theorem kz_X12_last : Cond.selects RX12 yX12_last yX12_last ∈ bigG := k_1846
theorem kc_X12_tell : Cond.code yX12_tell cX12_tell 3 (some .boolean) ∈ bigG := k_1855
theorem ki_X12_tell : Cond.instanceMethod yX12_tell ∈ bigG := k_1853
theorem kz_X12_tell : Cond.selects RX12 yX12_tell yX12_tell ∈ bigG := k_1854
theorem kc_X12_sets : Cond.code yX12_sets cX12_sets 7 (some .int) ∈ bigG := k_1859
theorem ki_X12_sets : Cond.instanceMethod yX12_sets ∈ bigG := k_1857
theorem kz_X12_sets : Cond.selects RX12 yX12_sets yX12_sets ∈ bigG := k_1858
theorem kc_X12_stop : Cond.code yX12_stop cX12_stop 5 (some .int) ∈ bigG := k_1879
theorem ki_X12_stop : Cond.instanceMethod yX12_stop ∈ bigG := k_1877
theorem kz_X12_stop : Cond.selects RX12 yX12_stop yX12_stop ∈ bigG := k_1878
theorem kc_X12_power : Cond.code yX12_power cX12_power 7 (some .int) ∈ bigG := k_1890
theorem ki_X12_power : Cond.instanceMethod yX12_power ∈ bigG := k_1888
theorem kz_X12_power : Cond.selects RX12 yX12_power yX12_power ∈ bigG := k_1889
theorem kc_X12_bits : Cond.code yX12_bits cX12_bits 3 (some .int) ∈ bigG := k_1882
theorem kt_X12_bits : Cond.static yX12_bits ∈ bigG := k_1881
theorem kc_X12_pairs : Cond.code yX12_pairs cX12_pairs 6 none ∈ bigG := k_1898
theorem ki_X12_pairs : Cond.instanceMethod yX12_pairs ∈ bigG := k_1897
theorem kz_X12_pairs : Cond.selects RX12 yX12_pairs yX12_pairs ∈ bigG := ks_101
theorem kc_X12_couples : Cond.code yX12_couples cX12_couples 4 (some .int) ∈ bigG := k_1894
theorem ki_X12_couples : Cond.instanceMethod yX12_couples ∈ bigG := k_1892
theorem kz_X12_couples : Cond.selects RX12 yX12_couples yX12_couples ∈ bigG := k_1893
theorem kc_X12_gets : Cond.code yX12_gets cX12_gets 4 (some .int) ∈ bigG := k_1908
theorem kt_X12_gets : Cond.static yX12_gets ∈ bigG := k_1907
theorem kc_X12_isRest : Cond.code yX12_isRest cX12_isRest 5 (some .boolean) ∈ bigG := k_1905
theorem kt_X12_isRest : Cond.static yX12_isRest ∈ bigG := k_1904
theorem kc_X12_rests : Cond.code yX12_rests cX12_rests 7 (some .int) ∈ bigG := k_1902
theorem ki_X12_rests : Cond.instanceMethod yX12_rests ∈ bigG := k_1900
theorem kz_X12_rests : Cond.selects RX12 yX12_rests yX12_rests ∈ bigG := k_1901
theorem kc_X12_draws : Cond.code yX12_draws cX12_draws 2 (some .int) ∈ bigG := k_1920
theorem ki_X12_draws : Cond.instanceMethod yX12_draws ∈ bigG := k_1919
theorem kz_X12_draws : Cond.selects RX12 yX12_draws yX12_draws ∈ bigG := ks_103
theorem kc_X12_livesDay : Cond.code yX12_livesDay cX12_livesDay 5 none ∈ bigG := k_1916
theorem ki_X12_livesDay : Cond.instanceMethod yX12_livesDay ∈ bigG := k_1915
theorem kz_X12_livesDay : Cond.selects RX12 yX12_livesDay yX12_livesDay ∈ bigG := ks_102
theorem kc_X12_sum : Cond.code yX12_sum cX12_sum 4 (some .int) ∈ bigG := k_1927
theorem kt_X12_sum : Cond.static yX12_sum ∈ bigG := k_1926
theorem kc_X12_years : Cond.code yX12_years cX12_years 5 (some .int) ∈ bigG := k_1912
theorem ki_X12_years : Cond.instanceMethod yX12_years ∈ bigG := k_1910
theorem kz_X12_years : Cond.selects RX12 yX12_years yX12_years ∈ bigG := k_1911
theorem kc_X12_mark : Cond.code yX12_mark cX12_mark 5 (some .boolean) ∈ bigG := k_1931
theorem ki_X12_mark : Cond.instanceMethod yX12_mark ∈ bigG := k_1929
theorem kz_X12_mark : Cond.selects RX12 yX12_mark yX12_mark ∈ bigG := k_1930
theorem kc_X12_toldMany : Cond.code yX12_toldMany cX12_toldMany 3 (some .int) ∈ bigG := k_1943
theorem ki_X12_toldMany : Cond.instanceMethod yX12_toldMany ∈ bigG := k_1942
theorem kz_X12_toldMany : Cond.selects RX12 yX12_toldMany yX12_toldMany ∈ bigG := ks_105
theorem kc_X12_count : Cond.code yX12_count cX12_count 2 (some .int) ∈ bigG := k_1939
theorem ki_X12_count : Cond.instanceMethod yX12_count ∈ bigG := k_1937
theorem kz_X12_count : Cond.selects RX12 yX12_count yX12_count ∈ bigG := k_1938
theorem kc_J7_fill_53178 : Cond.code yJ7_fill_53178 cJ7_fill_53178 4 none ∈ bigG := k_298
theorem kt_J7_fill_53178 : Cond.static yJ7_fill_53178 ∈ bigG := k_297
theorem kc_J6_bitCount_0f7a4 : Cond.code yJ6_bitCount_0f7a4 cJ6_bitCount_0f7a4 1 (some .int) ∈ bigG := k_1130
theorem kt_J6_bitCount_0f7a4 : Cond.static yJ6_bitCount_0f7a4 ∈ bigG := k_1129
theorem kt_L_rests : Cond.static yL_rests ∈ bigG := k_1221
theorem km_L_15 : Cond.methodLink RL 15 yX11_init ∈ bigG := k_29
theorem km_X11_72 : Cond.methodLink RX11 72 yX2_init ∈ bigG := k_292
theorem km_X2_28 : Cond.methodLink RX2 28 yJ7_fill_53178 ∈ bigG := k_296
theorem km_X11_79 : Cond.methodLink RX11 79 yX7_init ∈ bigG := k_322
theorem km_L_21 : Cond.methodLink RL 21 yX11_feed ∈ bigG := k_472
theorem km_X11_103 : Cond.methodLink RX11 103 yX9_addBytes ∈ bigG := k_476
theorem km_L_26 : Cond.methodLink RL 26 yX11_commune ∈ bigG := k_481
theorem km_X11_110 : Cond.methodLink RX11 110 yX1_reads ∈ bigG := k_485
theorem km_X1_21 : Cond.methodLink RX1 21 yX0_forgets ∈ bigG := k_489
theorem km_X0_79 : Cond.methodLink RX0 79 yJ7_fill_53178 ∈ bigG := k_493
theorem km_X0_85 : Cond.methodLink RX0 85 yX3_becomesUsual ∈ bigG := k_494
theorem km_X3_37 : Cond.methodLink RX3 37 yX3_addStep ∈ bigG := k_498
theorem km_X1_26 : Cond.methodLink RX1 26 yX9_rewind ∈ bigG := k_502
theorem km_X1_31 : Cond.methodLink RX1 31 yX9_takesToken ∈ bigG := k_506
theorem km_X9_83 : Cond.methodLink RX9 83 yX9_takesToken ∈ bigG := k_658
theorem km_X3_41 : Cond.methodLink RX3 41 yX9_takesToken ∈ bigG := k_747
theorem km_X11_114 : Cond.methodLink RX11 114 yX0_settleGifts ∈ bigG := k_797
theorem km_X11_117 : Cond.methodLink RX11 117 yX11_beginAnew ∈ bigG := k_842
theorem km_X11_195 : Cond.methodLink RX11 195 yX8_begins ∈ bigG := k_846
theorem km_X8_34 : Cond.methodLink RX8 34 yJ7_fill_53178 ∈ bigG := k_850
theorem km_X11_332 : Cond.methodLink RX11 332 yJ7_fill_53178 ∈ bigG := k_851
theorem km_L_31 : Cond.methodLink RL 31 yX11_weeks ∈ bigG := k_852
theorem km_X11_123 : Cond.methodLink RX11 123 yX10_reads ∈ bigG := k_856
theorem km_X10_31 : Cond.methodLink RX10 31 yX9_rewind ∈ bigG := k_860
theorem km_X10_36 : Cond.methodLink RX10 36 yX9_takesToken ∈ bigG := k_861
theorem km_L_35 : Cond.methodLink RL 35 yX11_person ∈ bigG := k_890
theorem km_X11_124 : Cond.methodLink RX11 124 yX11_isPerson ∈ bigG := k_894
theorem km_L_40 : Cond.methodLink RL 40 yX11_dish ∈ bigG := k_906
theorem km_X11_153 : Cond.methodLink RX11 153 yX11_isDish ∈ bigG := k_910
theorem km_L_44 : Cond.methodLink RL 44 yX11_would ∈ bigG := k_914
theorem km_X11_165 : Cond.methodLink RX11 165 yX11_canBeMeal ∈ bigG := k_918
theorem km_L_49 : Cond.methodLink RL 49 yX11_eat ∈ bigG := k_943
theorem km_X11_173 : Cond.methodLink RX11 173 yX11_remember ∈ bigG := k_947
theorem km_X11_191 : Cond.methodLink RX11 191 yX8_copies ∈ bigG := k_951
theorem km_X8_40 : Cond.methodLink RX8 40 yX8_copiesDay ∈ bigG := k_955
theorem km_X11_180 : Cond.methodLink RX11 180 yX8_endsDay ∈ bigG := k_973
theorem km_L_54 : Cond.methodLink RL 54 yX11_abroad ∈ bigG := k_977
theorem km_L_58 : Cond.methodLink RL 58 yX11_fast ∈ bigG := k_989
theorem km_L_62 : Cond.methodLink RL 62 yX11_undo ∈ bigG := k_993
theorem km_L_67 : Cond.methodLink RL 67 yX11_judged ∈ bigG := k_997
theorem km_X10_109 : Cond.methodLink RX10 109 yX8_endsDay ∈ bigG := k_1008
theorem km_L_72 : Cond.methodLink RL 72 yX11_plan ∈ bigG := k_1009
theorem km_X11_207 : Cond.methodLink RX11 207 yX7_finds ∈ bigG := k_1013
theorem km_X7_41 : Cond.methodLink RX7 41 yX8_copies ∈ bigG := k_1019
theorem km_X7_45 : Cond.methodLink RX7 45 yX7_search ∈ bigG := k_1020
theorem km_X7_49 : Cond.methodLink RX7 49 yX7_costOf ∈ bigG := k_1024
theorem km_X7_60 : Cond.methodLink RX7 60 yX7_eaterOf ∈ bigG := k_1028
theorem km_X7_64 : Cond.methodLink RX7 64 yX7_dishOf ∈ bigG := k_1031
theorem km_X7_53 : Cond.methodLink RX7 53 yX7_feedsAll ∈ bigG := k_1036
theorem km_X7_57 : Cond.methodLink RX7 57 yX7_chooses ∈ bigG := k_1044
theorem km_X7_104 : Cond.methodLink RX7 104 yX8_endsDay ∈ bigG := k_1049
theorem km_L_76 : Cond.methodLink RL 76 yX11_tables ∈ bigG := k_1050
theorem km_X11_217 : Cond.methodLink RX11 217 yX8_whoSits ∈ bigG := k_1054
theorem km_X6_41 : Cond.methodLink RX6 41 yJ7_fill_53178 ∈ bigG := k_1070
theorem km_L_80 : Cond.methodLink RL 80 yX11_last ∈ bigG := k_1080
theorem km_L_84 : Cond.methodLink RL 84 yX11_tell ∈ bigG := k_1089
theorem km_L_89 : Cond.methodLink RL 89 yX11_sets ∈ bigG := k_1093
theorem km_X2_34 : Cond.methodLink RX2 34 yX2_isTold ∈ bigG := k_1114
theorem km_L_93 : Cond.methodLink RL 93 yX11_stop ∈ bigG := k_1123
theorem km_X11_257 : Cond.methodLink RX11 257 yJ6_bitCount_0f7a4 ∈ bigG := k_1128
theorem km_L_97 : Cond.methodLink RL 97 yX11_power ∈ bigG := k_1138
theorem km_L_101 : Cond.methodLink RL 101 yX11_couples ∈ bigG := k_1146
theorem km_X11_269 : Cond.methodLink RX11 269 yX5_pairs ∈ bigG := k_1150
theorem km_X5_23 : Cond.methodLink RX5 23 yJ7_fill_53178 ∈ bigG := k_1155
theorem km_X5_29 : Cond.methodLink RX5 29 yJ6_bitCount_0f7a4 ∈ bigG := k_1156
theorem km_X5_35 : Cond.methodLink RX5 35 yX5_pairRest ∈ bigG := k_1157
theorem km_L_114 : Cond.methodLink RL 114 yX11_years ∈ bigG := k_1167
theorem km_X11_290 : Cond.methodLink RX11 290 yX11_nextDraw ∈ bigG := k_1171
theorem km_X11_294 : Cond.methodLink RX11 294 yX11_drawBelow ∈ bigG := k_1177
theorem km_L_118 : Cond.methodLink RL 118 yX11_mark ∈ bigG := k_1185
theorem km_X4_33 : Cond.methodLink RX4 33 yX8_copiesDay ∈ bigG := k_1193
theorem km_X4_37 : Cond.methodLink RX4 37 yX10_copies ∈ bigG := k_1194
theorem km_X11_315 : Cond.methodLink RX11 315 yX4_lays ∈ bigG := k_1200
theorem km_L_123 : Cond.methodLink RL 123 yX11_count ∈ bigG := k_1204
theorem km_X11_318 : Cond.methodLink RX11 318 yX0_cupsInAll ∈ bigG := k_1208
theorem km_X0_126 : Cond.methodLink RX0 126 yJ6_bitCount_0f7a4 ∈ bigG := k_1212
theorem km_X11_321 : Cond.methodLink RX11 321 yX11_sum ∈ bigG := k_1213
theorem km_X11_325 : Cond.methodLink RX11 325 yX2_howManyTold ∈ bigG := k_1216
theorem km_L_105 : Cond.methodLink RL 105 yL_rests ∈ bigG := k_1220
theorem km_L_7 : Cond.methodLink RL 7 yX11_rests ∈ bigG := k_1224
theorem km_X11_282 : Cond.methodLink RX11 282 yX11_findRests ∈ bigG := k_1293
theorem km_X11_346 : Cond.methodLink RX11 346 yX11_isBestFor ∈ bigG := k_1297
theorem km_X11_350 : Cond.methodLink RX11 350 yX11_greedGain ∈ bigG := k_1300
theorem km_L_18 : Cond.methodLink RL 18 yX12_init ∈ bigG := k_1307
theorem km_X12_153 : Cond.methodLink RX12 153 yX12_fresh ∈ bigG := k_1311
theorem km_L_111 : Cond.methodLink RL 111 yX12_thrown ∈ bigG := k_1517
theorem km_L_25 : Cond.methodLink RL 25 yX12_feed ∈ bigG := k_1521
theorem km_L_30 : Cond.methodLink RL 30 yX12_commune ∈ bigG := k_1526
theorem km_X12_376 : Cond.methodLink RX12 376 yX12_readsAll ∈ bigG := k_1530
theorem km_X12_341 : Cond.methodLink RX12 341 yX12_starts ∈ bigG := k_1534
theorem km_X12_229 : Cond.methodLink RX12 229 yX12_nextToken ∈ bigG := k_1538
theorem km_X12_293 : Cond.methodLink RX12 293 yX12_within ∈ bigG := k_1615
theorem km_X12_379 : Cond.methodLink RX12 379 yX12_lays ∈ bigG := k_1671
theorem km_X12_362 : Cond.methodLink RX12 362 yX12_moves ∈ bigG := k_1675
theorem km_X12_366 : Cond.methodLink RX12 366 yX12_movesNames ∈ bigG := k_1678
theorem km_X12_382 : Cond.methodLink RX12 382 yX12_forgets ∈ bigG := k_1681
theorem km_L_34 : Cond.methodLink RL 34 yX12_weeks ∈ bigG := k_1685
theorem km_X12_391 : Cond.methodLink RX12 391 yX12_laysLines ∈ bigG := k_1701
theorem km_L_39 : Cond.methodLink RL 39 yX12_person ∈ bigG := k_1705
theorem km_X12_444 : Cond.methodLink RX12 444 yX12_isPerson ∈ bigG := k_1709
theorem km_L_43 : Cond.methodLink RL 43 yX12_dish ∈ bigG := k_1717
theorem km_X12_447 : Cond.methodLink RX12 447 yX12_isDish ∈ bigG := k_1721
theorem km_L_48 : Cond.methodLink RL 48 yX12_would ∈ bigG := k_1725
theorem km_L_53 : Cond.methodLink RL 53 yX12_eat ∈ bigG := k_1772
theorem km_X12_457 : Cond.methodLink RX12 457 yX12_keeps ∈ bigG := k_1776
theorem km_X12_453 : Cond.methodLink RX12 453 yX12_copies ∈ bigG := k_1780
theorem km_X12_431 : Cond.methodLink RX12 431 yX12_sitting ∈ bigG := k_1787
theorem km_X12_441 : Cond.methodLink RX12 441 yX12_ends ∈ bigG := k_1796
theorem km_L_57 : Cond.methodLink RL 57 yX12_abroad ∈ bigG := k_1800
theorem km_L_61 : Cond.methodLink RL 61 yX12_fast ∈ bigG := k_1808
theorem km_L_66 : Cond.methodLink RL 66 yX12_undo ∈ bigG := k_1812
theorem km_L_71 : Cond.methodLink RL 71 yX12_judged ∈ bigG := k_1816
theorem km_L_75 : Cond.methodLink RL 75 yX12_plan ∈ bigG := k_1824
theorem km_X12_473 : Cond.methodLink RX12 473 yX12_planOf ∈ bigG := k_1828
theorem km_L_79 : Cond.methodLink RL 79 yX12_tables ∈ bigG := k_1832
theorem km_L_83 : Cond.methodLink RL 83 yX12_last ∈ bigG := k_1844
theorem km_L_88 : Cond.methodLink RL 88 yX12_tell ∈ bigG := k_1852
theorem km_L_92 : Cond.methodLink RL 92 yX12_sets ∈ bigG := k_1856
theorem km_L_96 : Cond.methodLink RL 96 yX12_stop ∈ bigG := k_1876
theorem km_X12_503 : Cond.methodLink RX12 503 yX12_bits ∈ bigG := k_1880
theorem km_L_100 : Cond.methodLink RL 100 yX12_power ∈ bigG := k_1887
theorem km_L_104 : Cond.methodLink RL 104 yX12_couples ∈ bigG := k_1891
theorem km_X12_512 : Cond.methodLink RX12 512 yX12_pairs ∈ bigG := k_1895
theorem km_L_110 : Cond.methodLink RL 110 yX12_rests ∈ bigG := k_1899
theorem km_X12_520 : Cond.methodLink RX12 520 yX12_isRest ∈ bigG := k_1903
theorem km_X12_516 : Cond.methodLink RX12 516 yX12_gets ∈ bigG := k_1906
theorem km_L_117 : Cond.methodLink RL 117 yX12_years ∈ bigG := k_1909
theorem km_X12_538 : Cond.methodLink RX12 538 yX12_livesDay ∈ bigG := k_1913
theorem km_X12_535 : Cond.methodLink RX12 535 yX12_draws ∈ bigG := k_1917
theorem km_X12_541 : Cond.methodLink RX12 541 yX12_sum ∈ bigG := k_1925
theorem km_L_122 : Cond.methodLink RL 122 yX12_mark ∈ bigG := k_1928
theorem km_X12_544 : Cond.methodLink RX12 544 yX12_laysTold ∈ bigG := k_1932
theorem km_L_126 : Cond.methodLink RL 126 yX12_count ∈ bigG := k_1936
theorem km_X12_547 : Cond.methodLink RX12 547 yX12_toldMany ∈ bigG := k_1940
theorem dfX0 : ∀ j, j < 20 → defaultValue (tyX0 j) = vp_V [.null, .null, .null, .null, .null, .null, .null, .null, .null, .null, .null, .null, .null, .int 0, .int 0, .int 0, .int 0, .null, .null, .null] j := by decide +kernel
theorem dfX1 : ∀ j, j < 3 → defaultValue (tyX1 j) = vp_V [.int 0, .int 0, .int 0] j := by decide +kernel
theorem dfX2 : ∀ j, j < 5 → defaultValue (tyX2 j) = vp_V [.null, .int 0, .int 0, .int 0, .null] j := by decide +kernel
theorem dfX3 : ∀ j, j < 8 → defaultValue (tyX3 j) = vp_V [.null, .int 0, .null, .int 0, .int 0, .int 0, .null, .null] j := by decide +kernel
theorem dfX4 : ∀ j, j < 4 → defaultValue (tyX4 j) = vp_V [.int 0, .null, .null, .null] j := by decide +kernel
theorem dfX5 : ∀ j, j < 3 → defaultValue (tyX5 j) = vp_V [.int 0, .null, .null] j := by decide +kernel
theorem dfX6 : ∀ j, j < 7 → defaultValue (tyX6 j) = vp_V [.int 0, .null, .null, .null, .null, .int 0, .int 0] j := by decide +kernel
theorem dfX7 : ∀ j, j < 6 → defaultValue (tyX7 j) = vp_V [.int 0, .int 0, .int 0, .int 0, .int 0, .null] j := by decide +kernel
theorem dfX8 : ∀ j, j < 6 → defaultValue (tyX8 j) = vp_V [.int 0, .int 0, .int 0, .null, .null, .null] j := by decide +kernel
theorem dfX9 : ∀ j, j < 9 → defaultValue (tyX9 j) = vp_V [.null, .int 0, .int 0, .int 0, .int 0, .int 0, .long 0, .int 0, .int 0] j := by decide +kernel
theorem dfX10 : ∀ j, j < 4 → defaultValue (tyX10 j) = vp_V [.null, .null, .null, .int 0] j := by decide +kernel
theorem dfX11 : ∀ j, j < 17 → defaultValue (tyX11 j) = vp_V [.null, .null, .null, .null, .null, .null, .null, .null, .null, .int 0, .int 0, .null, .null, .null, .null, .null, .null] j := by decide +kernel
theorem dfX12 : ∀ j, j < 67 → defaultValue (tyX12 j) = vp_V [.int 0, .int 0, .null, .int 0, .int 0, .int 0, .int 0, .long 0, .int 0, .int 0, .null, .null, .null, .null, .null, .null, .null, .null, .null, .null, .null, .null, .null, .null, .null, .null, .int 0, .int 0, .null, .null, .null, .null, .null, .null, .null, .null, .null, .null, .null, .null, .int 0, .long 0, .null, .null, .null, .null, .null, .null, .null, .null, .null, .null, .null, .null, .int 0, .int 0, .int 0, .int 0, .null, .null, .null, .null, .int 0, .null, .null, .int 0, .long 0] j := by decide +kernel
theorem kobj : Cond.code Lib.objectInit ⟨#[0xb1]⟩ 1 none ∈ bigG := k_34
theorem qv_mk {B : Heap → Prop} {A : Nat → Prop} {a : Array Value} {s t : State} (h : B t.heap) (hF : va_F A s t) : qv B A a s (.returned none) t := ⟨⟨(), rfl, trivial, h⟩, hF⟩
theorem qi_mk {B : Int32 → Heap → Prop} {A : Nat → Prop} {a : Array Value} {s t : State} {v : Int32} (h : B v t.heap) (hF : va_F A s t) : qi B A a s (.returned (some (.int v))) t := ⟨⟨v, v, rfl, rfl, h⟩, hF⟩
theorem ql_mk {B : Int64 → Heap → Prop} {A : Nat → Prop} {a : Array Value} {s t : State} {v : Int64} (h : B v t.heap) (hF : va_F A s t) : ql B A a s (.returned (some (.long v))) t := ⟨⟨v, v, rfl, rfl, h⟩, hF⟩
theorem up0 {k : Nat} : upd (fun _ => (0 : Int32)) k 0 = fun _ => 0 := by
  funext j
  simp [upd]
theorem lt_ti (a b : Int32) : a < b ↔ a.toInt < b.toInt := Int32.lt_iff_toInt_lt
theorem le_ti (a b : Int32) : a ≤ b ↔ a.toInt ≤ b.toInt := Int32.le_iff_toInt_le
theorem nlt_le {a b : Int32} (h : ¬ a < b) : b ≤ a := by
  rw [lt_ti] at h
  rw [le_ti]
  omega
theorem nle_lt {a b : Int32} (h : ¬ a ≤ b) : b < a := by
  rw [le_ti] at h
  rw [lt_ti]
  omega
theorem le_nlt {a b : Int32} (h : a ≤ b) : ¬ b < a := by
  rw [le_ti] at h
  rw [lt_ti]
  omega
theorem sw_0_22 (x : Int32) : x = 0 ∨ x = 1 ∨ x = 2 ∨ x = 3 ∨ x = 4 ∨ x = 5 ∨ x = 6 ∨ x = 7 ∨ x = 8 ∨ x = 9 ∨ x = 10 ∨ x = 11 ∨ x = 12 ∨ x = 13 ∨ x = 14 ∨ x = 15 ∨ x = 16 ∨ x = 17 ∨ x = 18 ∨ x = 19 ∨ x = 20 ∨ x = 21 ∨ x = 22 ∨ (x.toInt < 0 ∨ 22 < x.toInt) := by
  by_cases h : x.toInt < 0 ∨ 22 < x.toInt
  · exact Or.inr (Or.inr (Or.inr (Or.inr (Or.inr (Or.inr (Or.inr (Or.inr (Or.inr (Or.inr (Or.inr (Or.inr (Or.inr (Or.inr (Or.inr (Or.inr (Or.inr (Or.inr (Or.inr (Or.inr (Or.inr (Or.inr (Or.inr (h)))))))))))))))))))))))
  · obtain ⟨j, hj, e⟩ := nI_of2 (x := x) (M := 22) (n := 22) rfl (by rw [lt_ti]; show ¬ x.toInt < 0; omega) (by rw [le_ti]; show x.toInt ≤ 22; omega)
    rcases (show j = 0 ∨ j = 1 ∨ j = 2 ∨ j = 3 ∨ j = 4 ∨ j = 5 ∨ j = 6 ∨ j = 7 ∨ j = 8 ∨ j = 9 ∨ j = 10 ∨ j = 11 ∨ j = 12 ∨ j = 13 ∨ j = 14 ∨ j = 15 ∨ j = 16 ∨ j = 17 ∨ j = 18 ∨ j = 19 ∨ j = 20 ∨ j = 21 ∨ j = 22 by omega) with rfl | rfl | rfl | rfl | rfl | rfl | rfl | rfl | rfl | rfl | rfl | rfl | rfl | rfl | rfl | rfl | rfl | rfl | rfl | rfl | rfl | rfl | rfl
    · exact Or.inl e
    · exact Or.inr (Or.inl e)
    · exact Or.inr (Or.inr (Or.inl e))
    · exact Or.inr (Or.inr (Or.inr (Or.inl e)))
    · exact Or.inr (Or.inr (Or.inr (Or.inr (Or.inl e))))
    · exact Or.inr (Or.inr (Or.inr (Or.inr (Or.inr (Or.inl e)))))
    · exact Or.inr (Or.inr (Or.inr (Or.inr (Or.inr (Or.inr (Or.inl e))))))
    · exact Or.inr (Or.inr (Or.inr (Or.inr (Or.inr (Or.inr (Or.inr (Or.inl e)))))))
    · exact Or.inr (Or.inr (Or.inr (Or.inr (Or.inr (Or.inr (Or.inr (Or.inr (Or.inl e))))))))
    · exact Or.inr (Or.inr (Or.inr (Or.inr (Or.inr (Or.inr (Or.inr (Or.inr (Or.inr (Or.inl e)))))))))
    · exact Or.inr (Or.inr (Or.inr (Or.inr (Or.inr (Or.inr (Or.inr (Or.inr (Or.inr (Or.inr (Or.inl e))))))))))
    · exact Or.inr (Or.inr (Or.inr (Or.inr (Or.inr (Or.inr (Or.inr (Or.inr (Or.inr (Or.inr (Or.inr (Or.inl e)))))))))))
    · exact Or.inr (Or.inr (Or.inr (Or.inr (Or.inr (Or.inr (Or.inr (Or.inr (Or.inr (Or.inr (Or.inr (Or.inr (Or.inl e))))))))))))
    · exact Or.inr (Or.inr (Or.inr (Or.inr (Or.inr (Or.inr (Or.inr (Or.inr (Or.inr (Or.inr (Or.inr (Or.inr (Or.inr (Or.inl e)))))))))))))
    · exact Or.inr (Or.inr (Or.inr (Or.inr (Or.inr (Or.inr (Or.inr (Or.inr (Or.inr (Or.inr (Or.inr (Or.inr (Or.inr (Or.inr (Or.inl e))))))))))))))
    · exact Or.inr (Or.inr (Or.inr (Or.inr (Or.inr (Or.inr (Or.inr (Or.inr (Or.inr (Or.inr (Or.inr (Or.inr (Or.inr (Or.inr (Or.inr (Or.inl e)))))))))))))))
    · exact Or.inr (Or.inr (Or.inr (Or.inr (Or.inr (Or.inr (Or.inr (Or.inr (Or.inr (Or.inr (Or.inr (Or.inr (Or.inr (Or.inr (Or.inr (Or.inr (Or.inl e))))))))))))))))
    · exact Or.inr (Or.inr (Or.inr (Or.inr (Or.inr (Or.inr (Or.inr (Or.inr (Or.inr (Or.inr (Or.inr (Or.inr (Or.inr (Or.inr (Or.inr (Or.inr (Or.inr (Or.inl e)))))))))))))))))
    · exact Or.inr (Or.inr (Or.inr (Or.inr (Or.inr (Or.inr (Or.inr (Or.inr (Or.inr (Or.inr (Or.inr (Or.inr (Or.inr (Or.inr (Or.inr (Or.inr (Or.inr (Or.inr (Or.inl e))))))))))))))))))
    · exact Or.inr (Or.inr (Or.inr (Or.inr (Or.inr (Or.inr (Or.inr (Or.inr (Or.inr (Or.inr (Or.inr (Or.inr (Or.inr (Or.inr (Or.inr (Or.inr (Or.inr (Or.inr (Or.inr (Or.inl e)))))))))))))))))))
    · exact Or.inr (Or.inr (Or.inr (Or.inr (Or.inr (Or.inr (Or.inr (Or.inr (Or.inr (Or.inr (Or.inr (Or.inr (Or.inr (Or.inr (Or.inr (Or.inr (Or.inr (Or.inr (Or.inr (Or.inr (Or.inl e))))))))))))))))))))
    · exact Or.inr (Or.inr (Or.inr (Or.inr (Or.inr (Or.inr (Or.inr (Or.inr (Or.inr (Or.inr (Or.inr (Or.inr (Or.inr (Or.inr (Or.inr (Or.inr (Or.inr (Or.inr (Or.inr (Or.inr (Or.inr (Or.inl e)))))))))))))))))))))
    · exact Or.inr (Or.inr (Or.inr (Or.inr (Or.inr (Or.inr (Or.inr (Or.inr (Or.inr (Or.inr (Or.inr (Or.inr (Or.inr (Or.inr (Or.inr (Or.inr (Or.inr (Or.inr (Or.inr (Or.inr (Or.inr (Or.inr (Or.inl e))))))))))))))))))))))
theorem sw_0_12 (x : Int32) : x = 0 ∨ x = 1 ∨ x = 2 ∨ x = 3 ∨ x = 4 ∨ x = 5 ∨ x = 6 ∨ x = 7 ∨ x = 8 ∨ x = 9 ∨ x = 10 ∨ x = 11 ∨ x = 12 ∨ (x.toInt < 0 ∨ 12 < x.toInt) := by
  by_cases h : x.toInt < 0 ∨ 12 < x.toInt
  · exact Or.inr (Or.inr (Or.inr (Or.inr (Or.inr (Or.inr (Or.inr (Or.inr (Or.inr (Or.inr (Or.inr (Or.inr (Or.inr (h)))))))))))))
  · obtain ⟨j, hj, e⟩ := nI_of2 (x := x) (M := 12) (n := 12) rfl (by rw [lt_ti]; show ¬ x.toInt < 0; omega) (by rw [le_ti]; show x.toInt ≤ 12; omega)
    rcases (show j = 0 ∨ j = 1 ∨ j = 2 ∨ j = 3 ∨ j = 4 ∨ j = 5 ∨ j = 6 ∨ j = 7 ∨ j = 8 ∨ j = 9 ∨ j = 10 ∨ j = 11 ∨ j = 12 by omega) with rfl | rfl | rfl | rfl | rfl | rfl | rfl | rfl | rfl | rfl | rfl | rfl | rfl
    · exact Or.inl e
    · exact Or.inr (Or.inl e)
    · exact Or.inr (Or.inr (Or.inl e))
    · exact Or.inr (Or.inr (Or.inr (Or.inl e)))
    · exact Or.inr (Or.inr (Or.inr (Or.inr (Or.inl e))))
    · exact Or.inr (Or.inr (Or.inr (Or.inr (Or.inr (Or.inl e)))))
    · exact Or.inr (Or.inr (Or.inr (Or.inr (Or.inr (Or.inr (Or.inl e))))))
    · exact Or.inr (Or.inr (Or.inr (Or.inr (Or.inr (Or.inr (Or.inr (Or.inl e)))))))
    · exact Or.inr (Or.inr (Or.inr (Or.inr (Or.inr (Or.inr (Or.inr (Or.inr (Or.inl e))))))))
    · exact Or.inr (Or.inr (Or.inr (Or.inr (Or.inr (Or.inr (Or.inr (Or.inr (Or.inr (Or.inl e)))))))))
    · exact Or.inr (Or.inr (Or.inr (Or.inr (Or.inr (Or.inr (Or.inr (Or.inr (Or.inr (Or.inr (Or.inl e))))))))))
    · exact Or.inr (Or.inr (Or.inr (Or.inr (Or.inr (Or.inr (Or.inr (Or.inr (Or.inr (Or.inr (Or.inr (Or.inl e)))))))))))
    · exact Or.inr (Or.inr (Or.inr (Or.inr (Or.inr (Or.inr (Or.inr (Or.inr (Or.inr (Or.inr (Or.inr (Or.inr (Or.inl e))))))))))))
theorem sw_0_7 (x : Int32) : x = 0 ∨ x = 1 ∨ x = 2 ∨ x = 3 ∨ x = 4 ∨ x = 5 ∨ x = 6 ∨ x = 7 ∨ (x.toInt < 0 ∨ 7 < x.toInt) := by
  by_cases h : x.toInt < 0 ∨ 7 < x.toInt
  · exact Or.inr (Or.inr (Or.inr (Or.inr (Or.inr (Or.inr (Or.inr (Or.inr (h))))))))
  · obtain ⟨j, hj, e⟩ := nI_of2 (x := x) (M := 7) (n := 7) rfl (by rw [lt_ti]; show ¬ x.toInt < 0; omega) (by rw [le_ti]; show x.toInt ≤ 7; omega)
    rcases (show j = 0 ∨ j = 1 ∨ j = 2 ∨ j = 3 ∨ j = 4 ∨ j = 5 ∨ j = 6 ∨ j = 7 by omega) with rfl | rfl | rfl | rfl | rfl | rfl | rfl | rfl
    · exact Or.inl e
    · exact Or.inr (Or.inl e)
    · exact Or.inr (Or.inr (Or.inl e))
    · exact Or.inr (Or.inr (Or.inr (Or.inl e)))
    · exact Or.inr (Or.inr (Or.inr (Or.inr (Or.inl e))))
    · exact Or.inr (Or.inr (Or.inr (Or.inr (Or.inr (Or.inl e)))))
    · exact Or.inr (Or.inr (Or.inr (Or.inr (Or.inr (Or.inr (Or.inl e))))))
    · exact Or.inr (Or.inr (Or.inr (Or.inr (Or.inr (Or.inr (Or.inr (Or.inl e)))))))
theorem sw_0_2 (x : Int32) : x = 0 ∨ x = 1 ∨ x = 2 ∨ (x.toInt < 0 ∨ 2 < x.toInt) := by
  by_cases h : x.toInt < 0 ∨ 2 < x.toInt
  · exact Or.inr (Or.inr (Or.inr (h)))
  · obtain ⟨j, hj, e⟩ := nI_of2 (x := x) (M := 2) (n := 2) rfl (by rw [lt_ti]; show ¬ x.toInt < 0; omega) (by rw [le_ti]; show x.toInt ≤ 2; omega)
    rcases (show j = 0 ∨ j = 1 ∨ j = 2 by omega) with rfl | rfl | rfl
    · exact Or.inl e
    · exact Or.inr (Or.inl e)
    · exact Or.inr (Or.inr (Or.inl e))
