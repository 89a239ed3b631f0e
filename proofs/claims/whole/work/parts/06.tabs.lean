set_option maxRecDepth 100000 in
theorem ck_X0 : CK 0 RX0 TX0 8 := ⟨rfl, by decide +kernel, by decide +kernel, ⟨tyX0, tyX0_ok⟩, nmX0⟩
set_option maxRecDepth 100000 in
theorem ck_X1 : CK 1 RX1 TX1 9 := ⟨rfl, by decide +kernel, by decide +kernel, ⟨tyX1, tyX1_ok⟩, nmX1⟩
set_option maxRecDepth 100000 in
theorem ck_X2 : CK 2 RX2 TX2 4 := ⟨rfl, by decide +kernel, by decide +kernel, ⟨tyX2, tyX2_ok⟩, nmX2⟩
set_option maxRecDepth 100000 in
theorem ck_X3 : CK 3 RX3 TX3 10 := ⟨rfl, by decide +kernel, by decide +kernel, ⟨tyX3, tyX3_ok⟩, nmX3⟩
set_option maxRecDepth 100000 in
theorem ck_X4 : CK 4 RX4 TX4 3 := ⟨rfl, by decide +kernel, by decide +kernel, ⟨tyX4, tyX4_ok⟩, nmX4⟩
set_option maxRecDepth 100000 in
theorem ck_X5 : CK 5 RX5 TX5 3 := ⟨rfl, by decide +kernel, by decide +kernel, ⟨tyX5, tyX5_ok⟩, nmX5⟩
set_option maxRecDepth 100000 in
theorem ck_X6 : CK 6 RX6 TX6 5 := ⟨rfl, by decide +kernel, by decide +kernel, ⟨tyX6, tyX6_ok⟩, nmX6⟩
set_option maxRecDepth 100000 in
theorem ck_X7 : CK 7 RX7 TX7 5 := ⟨rfl, by decide +kernel, by decide +kernel, ⟨tyX7, tyX7_ok⟩, nmX7⟩
set_option maxRecDepth 100000 in
theorem ck_X8 : CK 8 RX8 TX8 9 := ⟨rfl, by decide +kernel, by decide +kernel, ⟨tyX8, tyX8_ok⟩, nmX8⟩
set_option maxRecDepth 100000 in
theorem ck_X9 : CK 9 RX9 TX9 8 := ⟨rfl, by decide +kernel, by decide +kernel, ⟨tyX9, tyX9_ok⟩, nmX9⟩
set_option maxRecDepth 100000 in
theorem ck_X10 : CK 10 RX10 TX10 22 := ⟨rfl, by decide +kernel, by decide +kernel, ⟨tyX10, tyX10_ok⟩, nmX10⟩
set_option maxRecDepth 100000 in
theorem lL_9 : LK "FoxRoundsLaw" 9 yX9_init cX9_init 2 none 0 ∧ Cond.instanceMethod yX9_init ∈ LT := ⟨⟨lt_of 90 rfl rfl, lt_of 70 rfl rfl, lt_of 92 rfl rfl, by decide +kernel, by decide +kernel, by decide +kernel⟩, lt_of 91 rfl rfl⟩
set_option maxRecDepth 100000 in
theorem lL_12 : LK "FoxRoundsLaw" 12 yX10_init cX10_init 2 none 0 ∧ Cond.instanceMethod yX10_init ∈ LT := ⟨⟨lt_of 1042 rfl rfl, lt_of 81 rfl rfl, lt_of 1044 rfl rfl, by decide +kernel, by decide +kernel, by decide +kernel⟩, lt_of 1043 rfl rfl⟩
set_option maxRecDepth 100000 in
theorem lL_13 : LKv "FoxRoundsLaw" 13 yX9_set cX9_set 4 (some .int) 2 := ⟨⟨lt_of 417 rfl rfl, lt_of 70 rfl rfl, lt_of 420 rfl rfl, by decide +kernel, by decide +kernel, by decide +kernel⟩, lt_of 418 rfl rfl, lt_of 419 rfl rfl⟩
set_option maxRecDepth 100000 in
theorem lL_17 : LKv "FoxRoundsLaw" 17 yX10_set cX10_set 4 (some .int) 2 := ⟨⟨lt_of 1202 rfl rfl, lt_of 81 rfl rfl, lt_of 1205 rfl rfl, by decide +kernel, by decide +kernel, by decide +kernel⟩, lt_of 1203 rfl rfl, lt_of 1204 rfl rfl⟩
set_option maxRecDepth 100000 in
theorem lL_18 : LKv "FoxRoundsLaw" 18 yX9_way cX9_way 4 (some .int) 3 := ⟨⟨lt_of 433 rfl rfl, lt_of 70 rfl rfl, lt_of 436 rfl rfl, by decide +kernel, by decide +kernel, by decide +kernel⟩, lt_of 434 rfl rfl, lt_of 435 rfl rfl⟩
set_option maxRecDepth 100000 in
theorem lL_22 : LKv "FoxRoundsLaw" 22 yX10_way cX10_way 4 (some .int) 3 := ⟨⟨lt_of 1216 rfl rfl, lt_of 81 rfl rfl, lt_of 1219 rfl rfl, by decide +kernel, by decide +kernel, by decide +kernel⟩, lt_of 1217 rfl rfl, lt_of 1218 rfl rfl⟩
set_option maxRecDepth 100000 in
theorem lL_23 : LKv "FoxRoundsLaw" 23 yX9_ofWay cX9_ofWay 3 (some .int) 2 := ⟨⟨lt_of 444 rfl rfl, lt_of 70 rfl rfl, lt_of 447 rfl rfl, by decide +kernel, by decide +kernel, by decide +kernel⟩, lt_of 445 rfl rfl, lt_of 446 rfl rfl⟩
set_option maxRecDepth 100000 in
theorem lL_26 : LKv "FoxRoundsLaw" 26 yX10_ofWay cX10_ofWay 3 (some .int) 2 := ⟨⟨lt_of 1229 rfl rfl, lt_of 81 rfl rfl, lt_of 1232 rfl rfl, by decide +kernel, by decide +kernel, by decide +kernel⟩, lt_of 1230 rfl rfl, lt_of 1231 rfl rfl⟩
set_option maxRecDepth 100000 in
theorem lL_27 : LKv "FoxRoundsLaw" 27 yX9_wear cX9_wear 7 (some .int) 3 := ⟨⟨lt_of 477 rfl rfl, lt_of 70 rfl rfl, lt_of 480 rfl rfl, by decide +kernel, by decide +kernel, by decide +kernel⟩, lt_of 478 rfl rfl, lt_of 479 rfl rfl⟩
set_option maxRecDepth 100000 in
theorem lL_30 : LKv "FoxRoundsLaw" 30 yX10_wear cX10_wear 5 (some .int) 3 := ⟨⟨lt_of 1243 rfl rfl, lt_of 81 rfl rfl, lt_of 1246 rfl rfl, by decide +kernel, by decide +kernel, by decide +kernel⟩, lt_of 1244 rfl rfl, lt_of 1245 rfl rfl⟩
set_option maxRecDepth 100000 in
theorem lL_31 : LKv "FoxRoundsLaw" 31 yX9_as cX9_as 4 (some .int) 2 := ⟨⟨lt_of 481 rfl rfl, lt_of 70 rfl rfl, lt_of 484 rfl rfl, by decide +kernel, by decide +kernel, by decide +kernel⟩, lt_of 482 rfl rfl, lt_of 483 rfl rfl⟩
set_option maxRecDepth 100000 in
theorem lL_34 : LKv "FoxRoundsLaw" 34 yX10_as cX10_as 3 (some .int) 2 := ⟨⟨lt_of 1248 rfl rfl, lt_of 81 rfl rfl, lt_of 1251 rfl rfl, by decide +kernel, by decide +kernel, by decide +kernel⟩, lt_of 1249 rfl rfl, lt_of 1250 rfl rfl⟩
set_option maxRecDepth 100000 in
theorem lL_35 : LKv "FoxRoundsLaw" 35 yX9_ways cX9_ways 7 (some .int) 1 := ⟨⟨lt_of 490 rfl rfl, lt_of 70 rfl rfl, lt_of 493 rfl rfl, by decide +kernel, by decide +kernel, by decide +kernel⟩, lt_of 491 rfl rfl, lt_of 492 rfl rfl⟩
set_option maxRecDepth 100000 in
theorem lL_39 : LKv "FoxRoundsLaw" 39 yX10_ways cX10_ways 5 (some .int) 1 := ⟨⟨lt_of 1255 rfl rfl, lt_of 81 rfl rfl, lt_of 1258 rfl rfl, by decide +kernel, by decide +kernel, by decide +kernel⟩, lt_of 1256 rfl rfl, lt_of 1257 rfl rfl⟩
set_option maxRecDepth 100000 in
theorem lL_40 : LKv "FoxRoundsLaw" 40 yX9_mend cX9_mend 2 (some .int) 1 := ⟨⟨lt_of 505 rfl rfl, lt_of 70 rfl rfl, lt_of 508 rfl rfl, by decide +kernel, by decide +kernel, by decide +kernel⟩, lt_of 506 rfl rfl, lt_of 507 rfl rfl⟩
set_option maxRecDepth 100000 in
theorem lL_43 : LKv "FoxRoundsLaw" 43 yX10_mend cX10_mend 2 (some .int) 1 := ⟨⟨lt_of 1263 rfl rfl, lt_of 81 rfl rfl, lt_of 1266 rfl rfl, by decide +kernel, by decide +kernel, by decide +kernel⟩, lt_of 1264 rfl rfl, lt_of 1265 rfl rfl⟩
set_option maxRecDepth 100000 in
theorem lL_44 : LKv "FoxRoundsLaw" 44 yX9_thing cX9_thing 3 (some .int) 2 := ⟨⟨lt_of 516 rfl rfl, lt_of 70 rfl rfl, lt_of 519 rfl rfl, by decide +kernel, by decide +kernel, by decide +kernel⟩, lt_of 517 rfl rfl, lt_of 518 rfl rfl⟩
set_option maxRecDepth 100000 in
theorem lL_47 : LKv "FoxRoundsLaw" 47 yX10_thing cX10_thing 4 (some .int) 2 := ⟨⟨lt_of 1270 rfl rfl, lt_of 81 rfl rfl, lt_of 1273 rfl rfl, by decide +kernel, by decide +kernel, by decide +kernel⟩, lt_of 1271 rfl rfl, lt_of 1272 rfl rfl⟩
set_option maxRecDepth 100000 in
theorem lL_48 : LKv "FoxRoundsLaw" 48 yX9_ofThing cX9_ofThing 3 (some .int) 2 := ⟨⟨lt_of 524 rfl rfl, lt_of 70 rfl rfl, lt_of 527 rfl rfl, by decide +kernel, by decide +kernel, by decide +kernel⟩, lt_of 525 rfl rfl, lt_of 526 rfl rfl⟩
set_option maxRecDepth 100000 in
theorem lL_51 : LKv "FoxRoundsLaw" 51 yX10_ofThing cX10_ofThing 3 (some .int) 2 := ⟨⟨lt_of 1275 rfl rfl, lt_of 81 rfl rfl, lt_of 1278 rfl rfl, by decide +kernel, by decide +kernel, by decide +kernel⟩, lt_of 1276 rfl rfl, lt_of 1277 rfl rfl⟩
set_option maxRecDepth 100000 in
theorem lL_52 : LKv "FoxRoundsLaw" 52 yX9_hang cX9_hang 5 (some .int) 2 := ⟨⟨lt_of 532 rfl rfl, lt_of 70 rfl rfl, lt_of 535 rfl rfl, by decide +kernel, by decide +kernel, by decide +kernel⟩, lt_of 533 rfl rfl, lt_of 534 rfl rfl⟩
set_option maxRecDepth 100000 in
theorem lL_55 : LKv "FoxRoundsLaw" 55 yX10_hang cX10_hang 4 (some .int) 2 := ⟨⟨lt_of 1283 rfl rfl, lt_of 81 rfl rfl, lt_of 1286 rfl rfl, by decide +kernel, by decide +kernel, by decide +kernel⟩, lt_of 1284 rfl rfl, lt_of 1285 rfl rfl⟩
set_option maxRecDepth 100000 in
theorem lL_56 : LKv "FoxRoundsLaw" 56 yX9_bitten cX9_bitten 2 (some .int) 0 := ⟨⟨lt_of 536 rfl rfl, lt_of 70 rfl rfl, lt_of 539 rfl rfl, by decide +kernel, by decide +kernel, by decide +kernel⟩, lt_of 537 rfl rfl, lt_of 538 rfl rfl⟩
set_option maxRecDepth 100000 in
theorem lL_60 : LKv "FoxRoundsLaw" 60 yX10_bitten cX10_bitten 2 (some .int) 0 := ⟨⟨lt_of 1287 rfl rfl, lt_of 81 rfl rfl, lt_of 1290 rfl rfl, by decide +kernel, by decide +kernel, by decide +kernel⟩, lt_of 1288 rfl rfl, lt_of 1289 rfl rfl⟩
set_option maxRecDepth 100000 in
theorem lL_61 : LKv "FoxRoundsLaw" 61 yX9_bold cX9_bold 1 (some .int) 0 := ⟨⟨lt_of 540 rfl rfl, lt_of 70 rfl rfl, lt_of 543 rfl rfl, by decide +kernel, by decide +kernel, by decide +kernel⟩, lt_of 541 rfl rfl, lt_of 542 rfl rfl⟩
set_option maxRecDepth 100000 in
theorem lL_64 : LKv "FoxRoundsLaw" 64 yX10_bold cX10_bold 1 (some .int) 0 := ⟨⟨lt_of 1291 rfl rfl, lt_of 81 rfl rfl, lt_of 1294 rfl rfl, by decide +kernel, by decide +kernel, by decide +kernel⟩, lt_of 1292 rfl rfl, lt_of 1293 rfl rfl⟩
set_option maxRecDepth 100000 in
theorem lL_67 : LKv "FoxRoundsLaw" 67 yX9_feed cX9_feed 5 (some .int) 2 := ⟨⟨lt_of 552 rfl rfl, lt_of 70 rfl rfl, lt_of 555 rfl rfl, by decide +kernel, by decide +kernel, by decide +kernel⟩, lt_of 553 rfl rfl, lt_of 554 rfl rfl⟩
set_option maxRecDepth 100000 in
theorem lL_71 : LKv "FoxRoundsLaw" 71 yX10_feed cX10_feed 5 (some .int) 2 := ⟨⟨lt_of 1114 rfl rfl, lt_of 81 rfl rfl, lt_of 1117 rfl rfl, by decide +kernel, by decide +kernel, by decide +kernel⟩, lt_of 1115 rfl rfl, lt_of 1116 rfl rfl⟩
set_option maxRecDepth 100000 in
theorem lL_72 : LKv "FoxRoundsLaw" 72 yX9_text cX9_text 3 (some .int) 1 := ⟨⟨lt_of 556 rfl rfl, lt_of 70 rfl rfl, lt_of 559 rfl rfl, by decide +kernel, by decide +kernel, by decide +kernel⟩, lt_of 557 rfl rfl, lt_of 558 rfl rfl⟩
set_option maxRecDepth 100000 in
theorem lL_75 : LKv "FoxRoundsLaw" 75 yX10_text cX10_text 5 (some .int) 1 := ⟨⟨lt_of 1128 rfl rfl, lt_of 81 rfl rfl, lt_of 1131 rfl rfl, by decide +kernel, by decide +kernel, by decide +kernel⟩, lt_of 1129 rfl rfl, lt_of 1130 rfl rfl⟩
set_option maxRecDepth 100000 in
theorem lL_76 : LKv "FoxRoundsLaw" 76 yX9_law cX9_law 5 (some .int) 4 := ⟨⟨lt_of 712 rfl rfl, lt_of 70 rfl rfl, lt_of 715 rfl rfl, by decide +kernel, by decide +kernel, by decide +kernel⟩, lt_of 713 rfl rfl, lt_of 714 rfl rfl⟩
set_option maxRecDepth 100000 in
theorem lL_80 : LKv "FoxRoundsLaw" 80 yX10_law cX10_law 5 (some .int) 4 := ⟨⟨lt_of 1179 rfl rfl, lt_of 81 rfl rfl, lt_of 1182 rfl rfl, by decide +kernel, by decide +kernel, by decide +kernel⟩, lt_of 1180 rfl rfl, lt_of 1181 rfl rfl⟩
set_option maxRecDepth 100000 in
theorem lL_81 : LKv "FoxRoundsLaw" 81 yX9_nights cX9_nights 4 (some .int) 1 := ⟨⟨lt_of 740 rfl rfl, lt_of 70 rfl rfl, lt_of 743 rfl rfl, by decide +kernel, by decide +kernel, by decide +kernel⟩, lt_of 741 rfl rfl, lt_of 742 rfl rfl⟩
set_option maxRecDepth 100000 in
theorem lL_84 : LKv "FoxRoundsLaw" 84 yX10_nights cX10_nights 2 (some .int) 1 := ⟨⟨lt_of 1301 rfl rfl, lt_of 81 rfl rfl, lt_of 1304 rfl rfl, by decide +kernel, by decide +kernel, by decide +kernel⟩, lt_of 1302 rfl rfl, lt_of 1303 rfl rfl⟩
set_option maxRecDepth 100000 in
theorem lL_85 : LKv "FoxRoundsLaw" 85 yX9_careless cX9_careless 5 (some .int) 2 := ⟨⟨lt_of 774 rfl rfl, lt_of 70 rfl rfl, lt_of 777 rfl rfl, by decide +kernel, by decide +kernel, by decide +kernel⟩, lt_of 775 rfl rfl, lt_of 776 rfl rfl⟩
set_option maxRecDepth 100000 in
theorem lL_88 : LKv "FoxRoundsLaw" 88 yX10_careless cX10_careless 4 (some .int) 2 := ⟨⟨lt_of 1329 rfl rfl, lt_of 81 rfl rfl, lt_of 1332 rfl rfl, by decide +kernel, by decide +kernel, by decide +kernel⟩, lt_of 1330 rfl rfl, lt_of 1331 rfl rfl⟩
set_option maxRecDepth 100000 in
theorem lL_89 : LKv "FoxRoundsLaw" 89 yX9_then cX9_then 4 (some .int) 2 := ⟨⟨lt_of 783 rfl rfl, lt_of 70 rfl rfl, lt_of 786 rfl rfl, by decide +kernel, by decide +kernel, by decide +kernel⟩, lt_of 784 rfl rfl, lt_of 785 rfl rfl⟩
set_option maxRecDepth 100000 in
theorem lL_92 : LKv "FoxRoundsLaw" 92 yX10_then cX10_then 3 (some .int) 2 := ⟨⟨lt_of 1335 rfl rfl, lt_of 81 rfl rfl, lt_of 1338 rfl rfl, by decide +kernel, by decide +kernel, by decide +kernel⟩, lt_of 1336 rfl rfl, lt_of 1337 rfl rfl⟩
set_option maxRecDepth 100000 in
theorem lL_93 : LKv "FoxRoundsLaw" 93 yX9_thenWay cX9_thenWay 4 (some .int) 3 := ⟨⟨lt_of 797 rfl rfl, lt_of 70 rfl rfl, lt_of 800 rfl rfl, by decide +kernel, by decide +kernel, by decide +kernel⟩, lt_of 798 rfl rfl, lt_of 799 rfl rfl⟩
set_option maxRecDepth 100000 in
theorem lL_96 : LKv "FoxRoundsLaw" 96 yX10_thenWay cX10_thenWay 4 (some .int) 3 := ⟨⟨lt_of 1350 rfl rfl, lt_of 81 rfl rfl, lt_of 1353 rfl rfl, by decide +kernel, by decide +kernel, by decide +kernel⟩, lt_of 1351 rfl rfl, lt_of 1352 rfl rfl⟩
set_option maxRecDepth 100000 in
theorem lL_97 : LKv "FoxRoundsLaw" 97 yX9_loss cX9_loss 3 (some .int) 1 := ⟨⟨lt_of 801 rfl rfl, lt_of 70 rfl rfl, lt_of 804 rfl rfl, by decide +kernel, by decide +kernel, by decide +kernel⟩, lt_of 802 rfl rfl, lt_of 803 rfl rfl⟩
set_option maxRecDepth 100000 in
theorem lL_100 : LKv "FoxRoundsLaw" 100 yX10_loss cX10_loss 3 (some .int) 1 := ⟨⟨lt_of 1354 rfl rfl, lt_of 81 rfl rfl, lt_of 1357 rfl rfl, by decide +kernel, by decide +kernel, by decide +kernel⟩, lt_of 1355 rfl rfl, lt_of 1356 rfl rfl⟩
set_option maxRecDepth 100000 in
theorem lL_101 : LKv "FoxRoundsLaw" 101 yX9_by cX9_by 1 (some .int) 0 := ⟨⟨lt_of 809 rfl rfl, lt_of 70 rfl rfl, lt_of 812 rfl rfl, by decide +kernel, by decide +kernel, by decide +kernel⟩, lt_of 810 rfl rfl, lt_of 811 rfl rfl⟩
set_option maxRecDepth 100000 in
theorem lL_104 : LKv "FoxRoundsLaw" 104 yX10_by cX10_by 1 (some .int) 0 := ⟨⟨lt_of 1358 rfl rfl, lt_of 81 rfl rfl, lt_of 1361 rfl rfl, by decide +kernel, by decide +kernel, by decide +kernel⟩, lt_of 1359 rfl rfl, lt_of 1360 rfl rfl⟩
set_option maxRecDepth 100000 in
theorem lL_105 : LKv "FoxRoundsLaw" 105 yX9_mends cX9_mends 4 (some .int) 3 := ⟨⟨lt_of 813 rfl rfl, lt_of 70 rfl rfl, lt_of 816 rfl rfl, by decide +kernel, by decide +kernel, by decide +kernel⟩, lt_of 814 rfl rfl, lt_of 815 rfl rfl⟩
set_option maxRecDepth 100000 in
theorem lL_108 : LKv "FoxRoundsLaw" 108 yX10_mends_ cX10_mends_ 10 (some .int) 3 := ⟨⟨lt_of 1362 rfl rfl, lt_of 81 rfl rfl, lt_of 1365 rfl rfl, by decide +kernel, by decide +kernel, by decide +kernel⟩, lt_of 1363 rfl rfl, lt_of 1364 rfl rfl⟩
set_option maxRecDepth 100000 in
theorem lL_109 : LKv "FoxRoundsLaw" 109 yX9_hangs cX9_hangs 4 (some .int) 2 := ⟨⟨lt_of 830 rfl rfl, lt_of 70 rfl rfl, lt_of 833 rfl rfl, by decide +kernel, by decide +kernel, by decide +kernel⟩, lt_of 831 rfl rfl, lt_of 832 rfl rfl⟩
set_option maxRecDepth 100000 in
theorem lL_112 : LKv "FoxRoundsLaw" 112 yX10_hangs cX10_hangs 9 (some .int) 2 := ⟨⟨lt_of 1367 rfl rfl, lt_of 81 rfl rfl, lt_of 1370 rfl rfl, by decide +kernel, by decide +kernel, by decide +kernel⟩, lt_of 1368 rfl rfl, lt_of 1369 rfl rfl⟩
set_option maxRecDepth 100000 in
theorem lL_113 : LKv "FoxRoundsLaw" 113 yX9_dusk cX9_dusk 4 (some .int) 2 := ⟨⟨lt_of 860 rfl rfl, lt_of 70 rfl rfl, lt_of 863 rfl rfl, by decide +kernel, by decide +kernel, by decide +kernel⟩, lt_of 861 rfl rfl, lt_of 862 rfl rfl⟩
set_option maxRecDepth 100000 in
theorem lL_116 : LKv "FoxRoundsLaw" 116 yX10_dusk cX10_dusk 4 (some .int) 2 := ⟨⟨lt_of 1375 rfl rfl, lt_of 81 rfl rfl, lt_of 1378 rfl rfl, by decide +kernel, by decide +kernel, by decide +kernel⟩, lt_of 1376 rfl rfl, lt_of 1377 rfl rfl⟩
set_option maxRecDepth 100000 in
theorem lL_117 : LKv "FoxRoundsLaw" 117 yX9_harm cX9_harm 2 (some .int) 1 := ⟨⟨lt_of 864 rfl rfl, lt_of 70 rfl rfl, lt_of 867 rfl rfl, by decide +kernel, by decide +kernel, by decide +kernel⟩, lt_of 865 rfl rfl, lt_of 866 rfl rfl⟩
set_option maxRecDepth 100000 in
theorem lL_120 : LKv "FoxRoundsLaw" 120 yX10_harm cX10_harm 2 (some .int) 1 := ⟨⟨lt_of 1381 rfl rfl, lt_of 81 rfl rfl, lt_of 1384 rfl rfl, by decide +kernel, by decide +kernel, by decide +kernel⟩, lt_of 1382 rfl rfl, lt_of 1383 rfl rfl⟩
set_option maxRecDepth 100000 in
theorem lL_121 : LKv "FoxRoundsLaw" 121 yX9_clock cX9_clock 5 (some .int) 0 := ⟨⟨lt_of 872 rfl rfl, lt_of 70 rfl rfl, lt_of 875 rfl rfl, by decide +kernel, by decide +kernel, by decide +kernel⟩, lt_of 873 rfl rfl, lt_of 874 rfl rfl⟩
set_option maxRecDepth 100000 in
theorem lL_124 : LKv "FoxRoundsLaw" 124 yX10_clock cX10_clock 3 (some .int) 0 := ⟨⟨lt_of 1389 rfl rfl, lt_of 81 rfl rfl, lt_of 1392 rfl rfl, by decide +kernel, by decide +kernel, by decide +kernel⟩, lt_of 1390 rfl rfl, lt_of 1391 rfl rfl⟩
set_option maxRecDepth 100000 in
theorem lL_125 : LKv "FoxRoundsLaw" 125 yX9_odds cX9_odds 7 (some .long) 3 := ⟨⟨lt_of 876 rfl rfl, lt_of 70 rfl rfl, lt_of 879 rfl rfl, by decide +kernel, by decide +kernel, by decide +kernel⟩, lt_of 877 rfl rfl, lt_of 878 rfl rfl⟩
set_option maxRecDepth 100000 in
theorem lL_129 : LKv "FoxRoundsLaw" 129 yX10_odds cX10_odds 11 (some .long) 3 := ⟨⟨lt_of 1393 rfl rfl, lt_of 81 rfl rfl, lt_of 1396 rfl rfl, by decide +kernel, by decide +kernel, by decide +kernel⟩, lt_of 1394 rfl rfl, lt_of 1395 rfl rfl⟩
set_option maxRecDepth 100000 in
theorem lL_130 : LKv "FoxRoundsLaw" 130 yX9_yard cX9_yard 7 (some .int) 4 := ⟨⟨lt_of 886 rfl rfl, lt_of 70 rfl rfl, lt_of 889 rfl rfl, by decide +kernel, by decide +kernel, by decide +kernel⟩, lt_of 887 rfl rfl, lt_of 888 rfl rfl⟩
set_option maxRecDepth 100000 in
theorem lL_133 : LKv "FoxRoundsLaw" 133 yX10_yard cX10_yard 7 (some .int) 4 := ⟨⟨lt_of 1401 rfl rfl, lt_of 81 rfl rfl, lt_of 1404 rfl rfl, by decide +kernel, by decide +kernel, by decide +kernel⟩, lt_of 1402 rfl rfl, lt_of 1403 rfl rfl⟩
set_option maxRecDepth 100000 in
theorem lL_134 : LKv "FoxRoundsLaw" 134 yX9_village cX9_village 2 (some .int) 1 := ⟨⟨lt_of 890 rfl rfl, lt_of 70 rfl rfl, lt_of 893 rfl rfl, by decide +kernel, by decide +kernel, by decide +kernel⟩, lt_of 891 rfl rfl, lt_of 892 rfl rfl⟩
set_option maxRecDepth 100000 in
theorem lL_137 : LKv "FoxRoundsLaw" 137 yX10_village cX10_village 8 (some .int) 1 := ⟨⟨lt_of 1405 rfl rfl, lt_of 81 rfl rfl, lt_of 1408 rfl rfl, by decide +kernel, by decide +kernel, by decide +kernel⟩, lt_of 1406 rfl rfl, lt_of 1407 rfl rfl⟩
set_option maxRecDepth 100000 in
theorem lL_138 : LKv "FoxRoundsLaw" 138 yX9_off cX9_off 3 (some .int) 1 := ⟨⟨lt_of 911 rfl rfl, lt_of 70 rfl rfl, lt_of 914 rfl rfl, by decide +kernel, by decide +kernel, by decide +kernel⟩, lt_of 912 rfl rfl, lt_of 913 rfl rfl⟩
set_option maxRecDepth 100000 in
theorem lL_141 : LKv "FoxRoundsLaw" 141 yX10_off cX10_off 3 (some .int) 1 := ⟨⟨lt_of 1409 rfl rfl, lt_of 81 rfl rfl, lt_of 1412 rfl rfl, by decide +kernel, by decide +kernel, by decide +kernel⟩, lt_of 1410 rfl rfl, lt_of 1411 rfl rfl⟩
set_option maxRecDepth 100000 in
theorem lL_142 : LKv "FoxRoundsLaw" 142 yX9_hungry cX9_hungry 3 (some .int) 1 := ⟨⟨lt_of 926 rfl rfl, lt_of 70 rfl rfl, lt_of 929 rfl rfl, by decide +kernel, by decide +kernel, by decide +kernel⟩, lt_of 927 rfl rfl, lt_of 928 rfl rfl⟩
set_option maxRecDepth 100000 in
theorem lL_145 : LKv "FoxRoundsLaw" 145 yX10_hungry cX10_hungry 7 (some .int) 1 := ⟨⟨lt_of 1422 rfl rfl, lt_of 81 rfl rfl, lt_of 1425 rfl rfl, by decide +kernel, by decide +kernel, by decide +kernel⟩, lt_of 1423 rfl rfl, lt_of 1424 rfl rfl⟩
set_option maxRecDepth 100000 in
theorem lL_146 : LKv "FoxRoundsLaw" 146 yX9_seed cX9_seed 3 (some .int) 1 := ⟨⟨lt_of 935 rfl rfl, lt_of 70 rfl rfl, lt_of 938 rfl rfl, by decide +kernel, by decide +kernel, by decide +kernel⟩, lt_of 936 rfl rfl, lt_of 937 rfl rfl⟩
set_option maxRecDepth 100000 in
theorem lL_149 : LKv "FoxRoundsLaw" 149 yX10_seed cX10_seed 3 (some .int) 1 := ⟨⟨lt_of 1426 rfl rfl, lt_of 81 rfl rfl, lt_of 1429 rfl rfl, by decide +kernel, by decide +kernel, by decide +kernel⟩, lt_of 1427 rfl rfl, lt_of 1428 rfl rfl⟩
set_option maxRecDepth 100000 in
theorem lL_150 : LKv "FoxRoundsLaw" 150 yX9_voice cX9_voice 5 (some .int) 3 := ⟨⟨lt_of 939 rfl rfl, lt_of 70 rfl rfl, lt_of 942 rfl rfl, by decide +kernel, by decide +kernel, by decide +kernel⟩, lt_of 940 rfl rfl, lt_of 941 rfl rfl⟩
set_option maxRecDepth 100000 in
theorem lL_153 : LKv "FoxRoundsLaw" 153 yX10_voice cX10_voice 5 (some .int) 3 := ⟨⟨lt_of 1430 rfl rfl, lt_of 81 rfl rfl, lt_of 1433 rfl rfl, by decide +kernel, by decide +kernel, by decide +kernel⟩, lt_of 1431 rfl rfl, lt_of 1432 rfl rfl⟩
set_option maxRecDepth 100000 in
theorem lL_154 : LKv "FoxRoundsLaw" 154 yX9_trace cX9_trace 2 (some .int) 1 := ⟨⟨lt_of 967 rfl rfl, lt_of 70 rfl rfl, lt_of 970 rfl rfl, by decide +kernel, by decide +kernel, by decide +kernel⟩, lt_of 968 rfl rfl, lt_of 969 rfl rfl⟩
set_option maxRecDepth 100000 in
theorem lL_157 : LKv "FoxRoundsLaw" 157 yX10_trace cX10_trace 2 (some .int) 1 := ⟨⟨lt_of 1461 rfl rfl, lt_of 81 rfl rfl, lt_of 1464 rfl rfl, by decide +kernel, by decide +kernel, by decide +kernel⟩, lt_of 1462 rfl rfl, lt_of 1463 rfl rfl⟩
set_option maxRecDepth 100000 in
theorem lL_158 : LKv "FoxRoundsLaw" 158 yX9_sheet cX9_sheet 5 (some .int) 3 := ⟨⟨lt_of 971 rfl rfl, lt_of 70 rfl rfl, lt_of 974 rfl rfl, by decide +kernel, by decide +kernel, by decide +kernel⟩, lt_of 972 rfl rfl, lt_of 973 rfl rfl⟩
set_option maxRecDepth 100000 in
theorem lL_161 : LKv "FoxRoundsLaw" 161 yX10_sheet cX10_sheet 5 (some .int) 3 := ⟨⟨lt_of 1465 rfl rfl, lt_of 81 rfl rfl, lt_of 1468 rfl rfl, by decide +kernel, by decide +kernel, by decide +kernel⟩, lt_of 1466 rfl rfl, lt_of 1467 rfl rfl⟩
set_option maxRecDepth 100000 in
theorem lL_162 : LKv "FoxRoundsLaw" 162 yX9_put cX9_put 5 (some .int) 3 := ⟨⟨lt_of 980 rfl rfl, lt_of 70 rfl rfl, lt_of 983 rfl rfl, by decide +kernel, by decide +kernel, by decide +kernel⟩, lt_of 981 rfl rfl, lt_of 982 rfl rfl⟩
set_option maxRecDepth 100000 in
theorem lL_165 : LKv "FoxRoundsLaw" 165 yX10_put cX10_put 4 (some .int) 3 := ⟨⟨lt_of 1469 rfl rfl, lt_of 81 rfl rfl, lt_of 1472 rfl rfl, by decide +kernel, by decide +kernel, by decide +kernel⟩, lt_of 1470 rfl rfl, lt_of 1471 rfl rfl⟩
set_option maxRecDepth 100000 in
theorem lL_166 : LKv "FoxRoundsLaw" 166 yX9_move cX9_move 8 (some .int) 5 := ⟨⟨lt_of 988 rfl rfl, lt_of 70 rfl rfl, lt_of 991 rfl rfl, by decide +kernel, by decide +kernel, by decide +kernel⟩, lt_of 989 rfl rfl, lt_of 990 rfl rfl⟩
set_option maxRecDepth 100000 in
theorem lL_170 : LKv "FoxRoundsLaw" 170 yX10_move cX10_move 7 (some .int) 5 := ⟨⟨lt_of 1473 rfl rfl, lt_of 81 rfl rfl, lt_of 1476 rfl rfl, by decide +kernel, by decide +kernel, by decide +kernel⟩, lt_of 1474 rfl rfl, lt_of 1475 rfl rfl⟩
set_option maxRecDepth 100000 in
theorem lL_171 : LKv "FoxRoundsLaw" 171 yX9_image cX9_image 1 (some .int) 0 := ⟨⟨lt_of 997 rfl rfl, lt_of 70 rfl rfl, lt_of 1000 rfl rfl, by decide +kernel, by decide +kernel, by decide +kernel⟩, lt_of 998 rfl rfl, lt_of 999 rfl rfl⟩
set_option maxRecDepth 100000 in
theorem lL_174 : LKv "FoxRoundsLaw" 174 yX10_image cX10_image 1 (some .int) 0 := ⟨⟨lt_of 1477 rfl rfl, lt_of 81 rfl rfl, lt_of 1480 rfl rfl, by decide +kernel, by decide +kernel, by decide +kernel⟩, lt_of 1478 rfl rfl, lt_of 1479 rfl rfl⟩
set_option maxRecDepth 100000 in
theorem lL_175 : LKv "FoxRoundsLaw" 175 yX9_restore cX9_restore 1 (some .int) 0 := ⟨⟨lt_of 1016 rfl rfl, lt_of 70 rfl rfl, lt_of 1019 rfl rfl, by decide +kernel, by decide +kernel, by decide +kernel⟩, lt_of 1017 rfl rfl, lt_of 1018 rfl rfl⟩
set_option maxRecDepth 100000 in
theorem lL_178 : LKv "FoxRoundsLaw" 178 yX10_restore cX10_restore 1 (some .int) 0 := ⟨⟨lt_of 1481 rfl rfl, lt_of 81 rfl rfl, lt_of 1484 rfl rfl, by decide +kernel, by decide +kernel, by decide +kernel⟩, lt_of 1482 rfl rfl, lt_of 1483 rfl rfl⟩
set_option maxRecDepth 100000 in
theorem lL_179 : LKv "FoxRoundsLaw" 179 yX9_tell cX9_tell 2 (some .int) 1 := ⟨⟨lt_of 1020 rfl rfl, lt_of 70 rfl rfl, lt_of 1023 rfl rfl, by decide +kernel, by decide +kernel, by decide +kernel⟩, lt_of 1021 rfl rfl, lt_of 1022 rfl rfl⟩
set_option maxRecDepth 100000 in
theorem lL_182 : LKv "FoxRoundsLaw" 182 yX10_tell cX10_tell 2 (some .int) 1 := ⟨⟨lt_of 1485 rfl rfl, lt_of 81 rfl rfl, lt_of 1488 rfl rfl, by decide +kernel, by decide +kernel, by decide +kernel⟩, lt_of 1486 rfl rfl, lt_of 1487 rfl rfl⟩
set_option maxRecDepth 100000 in
theorem lL_183 : LKv "FoxRoundsLaw" 183 yX9_check cX9_check 2 (some .int) 0 := ⟨⟨lt_of 1024 rfl rfl, lt_of 70 rfl rfl, lt_of 1027 rfl rfl, by decide +kernel, by decide +kernel, by decide +kernel⟩, lt_of 1025 rfl rfl, lt_of 1026 rfl rfl⟩
set_option maxRecDepth 100000 in
theorem lL_186 : LKv "FoxRoundsLaw" 186 yX10_check cX10_check 3 (some .int) 0 := ⟨⟨lt_of 1489 rfl rfl, lt_of 81 rfl rfl, lt_of 1492 rfl rfl, by decide +kernel, by decide +kernel, by decide +kernel⟩, lt_of 1490 rfl rfl, lt_of 1491 rfl rfl⟩
set_option maxRecDepth 100000 in
theorem lL_187 : LKv "FoxRoundsLaw" 187 yX9_count cX9_count 2 (some .int) 1 := ⟨⟨lt_of 1032 rfl rfl, lt_of 70 rfl rfl, lt_of 1035 rfl rfl, by decide +kernel, by decide +kernel, by decide +kernel⟩, lt_of 1033 rfl rfl, lt_of 1034 rfl rfl⟩
set_option maxRecDepth 100000 in
theorem lL_190 : LKv "FoxRoundsLaw" 190 yX10_count cX10_count 2 (some .int) 1 := ⟨⟨lt_of 1493 rfl rfl, lt_of 81 rfl rfl, lt_of 1496 rfl rfl, by decide +kernel, by decide +kernel, by decide +kernel⟩, lt_of 1494 rfl rfl, lt_of 1495 rfl rfl⟩
set_option maxRecDepth 100000 in
theorem lL_191 : LKv "FoxRoundsLaw" 191 yX9_told cX9_told 2 (some .int) 1 := ⟨⟨lt_of 1036 rfl rfl, lt_of 70 rfl rfl, lt_of 1039 rfl rfl, by decide +kernel, by decide +kernel, by decide +kernel⟩, lt_of 1037 rfl rfl, lt_of 1038 rfl rfl⟩
set_option maxRecDepth 100000 in
theorem lL_194 : LKv "FoxRoundsLaw" 194 yX10_told cX10_told 2 (some .int) 1 := ⟨⟨lt_of 1497 rfl rfl, lt_of 81 rfl rfl, lt_of 1500 rfl rfl, by decide +kernel, by decide +kernel, by decide +kernel⟩, lt_of 1498 rfl rfl, lt_of 1499 rfl rfl⟩
set_option maxRecDepth 100000 in
theorem fX0_12 : FL "FoxRounds$Ahead" 12 0 2 1 8 := ⟨RX0, TX0, ck_X0, lt_of 279 rfl rfl, by decide, rfl⟩
set_option maxRecDepth 100000 in
theorem fX0_18 : FL "FoxRounds$Ahead" 18 0 3 0 8 := ⟨RX0, TX0, ck_X0, lt_of 280 rfl rfl, by decide, rfl⟩
set_option maxRecDepth 100000 in
theorem fX0_25 : FL "FoxRounds$Ahead" 25 0 5 1 8 := ⟨RX0, TX0, ck_X0, lt_of 284 rfl rfl, by decide, rfl⟩
set_option maxRecDepth 100000 in
theorem fX0_29 : FL "FoxRounds$Ahead" 29 0 6 1 8 := ⟨RX0, TX0, ck_X0, lt_of 286 rfl rfl, by decide, rfl⟩
set_option maxRecDepth 100000 in
theorem fX0_32 : FL "FoxRounds$Ahead" 32 0 7 1 8 := ⟨RX0, TX0, ck_X0, lt_of 287 rfl rfl, by decide, rfl⟩
set_option maxRecDepth 100000 in
theorem fX0_35 : FL "FoxRounds$Ahead" 35 0 0 1 8 := ⟨RX0, TX0, ck_X0, lt_of 277 rfl rfl, by decide, rfl⟩
set_option maxRecDepth 100000 in
theorem fX0_38 : FL "FoxRounds$Ahead" 38 0 1 1 8 := ⟨RX0, TX0, ck_X0, lt_of 278 rfl rfl, by decide, rfl⟩
set_option maxRecDepth 100000 in
theorem fX0_50 : FL "FoxRounds$Ahead" 50 1 2 0 9 := ⟨RX1, TX1, ck_X1, lt_of 122 rfl rfl, by decide, rfl⟩
set_option maxRecDepth 100000 in
theorem fX0_53 : FL "FoxRounds$Ahead" 53 1 7 0 9 := ⟨RX1, TX1, ck_X1, lt_of 137 rfl rfl, by decide, rfl⟩
set_option maxRecDepth 100000 in
theorem fX0_56 : FL "FoxRounds$Ahead" 56 1 4 0 9 := ⟨RX1, TX1, ck_X1, lt_of 129 rfl rfl, by decide, rfl⟩
set_option maxRecDepth 100000 in
theorem fX0_67 : FL "FoxRounds$Ahead" 67 1 3 1 9 := ⟨RX1, TX1, ck_X1, lt_of 126 rfl rfl, by decide, rfl⟩
set_option maxRecDepth 100000 in
theorem fX0_75 : FL "FoxRounds$Ahead" 75 1 0 1 9 := ⟨RX1, TX1, ck_X1, lt_of 118 rfl rfl, by decide, rfl⟩
set_option maxRecDepth 100000 in
theorem fX0_109 : FL "FoxRounds$Ahead" 109 1 6 0 9 := ⟨RX1, TX1, ck_X1, lt_of 135 rfl rfl, by decide, rfl⟩
set_option maxRecDepth 100000 in
theorem fX0_112 : FL "FoxRounds$Ahead" 112 1 5 1 9 := ⟨RX1, TX1, ck_X1, lt_of 131 rfl rfl, by decide, rfl⟩
set_option maxRecDepth 100000 in
theorem fX0_115 : FL "FoxRounds$Ahead" 115 4 1 0 3 := ⟨RX4, TX4, ck_X4, lt_of 381 rfl rfl, by decide, rfl⟩
set_option maxRecDepth 100000 in
theorem fX0_120 : FL "FoxRounds$Ahead" 120 4 2 1 3 := ⟨RX4, TX4, ck_X4, lt_of 384 rfl rfl, by decide, rfl⟩
set_option maxRecDepth 100000 in
theorem sX0_87 : ("FoxRounds$Ahead", 87, stN 7) ∈ NWf := by decide +kernel
set_option maxRecDepth 100000 in
theorem lX0_11 : LK "FoxRounds$Ahead" 11 yX1_init cX1_init 1 none 0 ∧ Cond.instanceMethod yX1_init ∈ LT := ⟨⟨lt_of 276 rfl rfl, lt_of 72 rfl rfl, lt_of 106 rfl rfl, by decide +kernel, by decide +kernel, by decide +kernel⟩, lt_of 105 rfl rfl⟩
set_option maxRecDepth 100000 in
theorem lX0_42 : LKv "FoxRounds$Ahead" 42 yX1_copyFrom cX1_copyFrom 3 none 1 := ⟨⟨lt_of 791 rfl rfl, lt_of 72 rfl rfl, lt_of 794 rfl rfl, by decide +kernel, by decide +kernel, by decide +kernel⟩, lt_of 792 rfl rfl, lt_of 793 rfl rfl⟩
set_option maxRecDepth 100000 in
theorem lX0_46 : LKv "FoxRounds$Ahead" 46 yX1_passNight cX1_passNight 4 none 1 := ⟨⟨lt_of 795 rfl rfl, lt_of 72 rfl rfl, lt_of 751 rfl rfl, by decide +kernel, by decide +kernel, by decide +kernel⟩, lt_of 749 rfl rfl, lt_of 750 rfl rfl⟩
set_option maxRecDepth 100000 in
theorem lX0_59 : LKv "FoxRounds$Ahead" 59 yX0_costOf cX0_costOf 4 (some .int) 1 := ⟨⟨lt_of 821 rfl rfl, lt_of 77 rfl rfl, lt_of 824 rfl rfl, by decide +kernel, by decide +kernel, by decide +kernel⟩, lt_of 823 rfl rfl, lt_of 21 rfl rfl⟩
set_option maxRecDepth 100000 in
theorem lX0_63 : LKv "FoxRounds$Ahead" 63 yX0_hensMended cX0_hensMended 4 (some .int) 2 := ⟨⟨lt_of 825 rfl rfl, lt_of 77 rfl rfl, lt_of 828 rfl rfl, by decide +kernel, by decide +kernel, by decide +kernel⟩, lt_of 827 rfl rfl, lt_of 22 rfl rfl⟩
set_option maxRecDepth 100000 in
theorem lX0_71 : LKv "FoxRounds$Ahead" 71 yX1_mendWay cX1_mendWay 2 none 1 := ⟨⟨lt_of 829 rfl rfl, lt_of 72 rfl rfl, lt_of 512 rfl rfl, by decide +kernel, by decide +kernel, by decide +kernel⟩, lt_of 510 rfl rfl, lt_of 511 rfl rfl⟩
set_option maxRecDepth 100000 in
theorem lX0_78 : LKv "FoxRounds$Ahead" 78 yX1_idleThings cX1_idleThings 3 (some .int) 0 := ⟨⟨lt_of 842 rfl rfl, lt_of 72 rfl rfl, lt_of 837 rfl rfl, by decide +kernel, by decide +kernel, by decide +kernel⟩, lt_of 835 rfl rfl, lt_of 836 rfl rfl⟩
set_option maxRecDepth 100000 in
theorem lX0_90 : LKv "FoxRounds$Ahead" 90 yX0_arrange cX0_arrange 7 none 2 := ⟨⟨lt_of 846 rfl rfl, lt_of 77 rfl rfl, lt_of 849 rfl rfl, by decide +kernel, by decide +kernel, by decide +kernel⟩, lt_of 848 rfl rfl, lt_of 23 rfl rfl⟩
set_option maxRecDepth 100000 in
theorem lX0_94 : LKv "FoxRounds$Ahead" 94 yX0_hensHung cX0_hensHung 4 (some .int) 2 := ⟨⟨lt_of 856 rfl rfl, lt_of 77 rfl rfl, lt_of 859 rfl rfl, by decide +kernel, by decide +kernel, by decide +kernel⟩, lt_of 858 rfl rfl, lt_of 25 rfl rfl⟩
set_option maxRecDepth 100000 in
theorem lX0_103 : LKv "FoxRounds$Ahead" 103 yX0_listIdle cX0_listIdle 3 none 0 := ⟨⟨lt_of 850 rfl rfl, lt_of 77 rfl rfl, lt_of 853 rfl rfl, by decide +kernel, by decide +kernel, by decide +kernel⟩, lt_of 852 rfl rfl, lt_of 24 rfl rfl⟩
set_option maxRecDepth 100000 in
theorem lX0_130 : LKv "FoxRounds$Ahead" 130 yX0_offBy cX0_offBy 7 (some .int) 2 := ⟨⟨lt_of 934 rfl rfl, lt_of 77 rfl rfl, lt_of 918 rfl rfl, by decide +kernel, by decide +kernel, by decide +kernel⟩, lt_of 916 rfl rfl, lt_of 917 rfl rfl⟩
set_option maxRecDepth 100000 in
theorem pX0_12 : FP "FoxRounds$Ahead" 12 0 2 1 8 true (.object "FoxRounds$House") := ⟨RX0, TX0, ck_X0, lt_of 279 rfl rfl, by decide, rfl, rfl, by decide +kernel, fun q => by first | rfl | cases q⟩
set_option maxRecDepth 100000 in
theorem pX0_18 : FP "FoxRounds$Ahead" 18 0 3 0 8 false .int := ⟨RX0, TX0, ck_X0, lt_of 280 rfl rfl, by decide, rfl, rfl, by decide +kernel, fun q => by first | rfl | cases q⟩
set_option maxRecDepth 100000 in
theorem pX0_22 : FP "FoxRounds$Ahead" 22 0 4 0 8 false .int := ⟨RX0, TX0, ck_X0, lt_of 282 rfl rfl, by decide, rfl, rfl, by decide +kernel, fun q => by first | rfl | cases q⟩
set_option maxRecDepth 100000 in
theorem pX0_25 : FP "FoxRounds$Ahead" 25 0 5 1 8 true (.array .int) := ⟨RX0, TX0, ck_X0, lt_of 284 rfl rfl, by decide, rfl, rfl, by decide +kernel, fun q => by first | rfl | cases q⟩
set_option maxRecDepth 100000 in
theorem pX0_29 : FP "FoxRounds$Ahead" 29 0 6 1 8 true (.array .int) := ⟨RX0, TX0, ck_X0, lt_of 286 rfl rfl, by decide, rfl, rfl, by decide +kernel, fun q => by first | rfl | cases q⟩
set_option maxRecDepth 100000 in
theorem pX0_32 : FP "FoxRounds$Ahead" 32 0 7 1 8 true (.array .int) := ⟨RX0, TX0, ck_X0, lt_of 287 rfl rfl, by decide, rfl, rfl, by decide +kernel, fun q => by first | rfl | cases q⟩
set_option maxRecDepth 100000 in
theorem pX0_35 : FP "FoxRounds$Ahead" 35 0 0 1 8 true (.object "FoxRounds$House") := ⟨RX0, TX0, ck_X0, lt_of 277 rfl rfl, by decide, rfl, rfl, by decide +kernel, fun q => by first | rfl | cases q⟩
set_option maxRecDepth 100000 in
theorem pX0_38 : FP "FoxRounds$Ahead" 38 0 1 1 8 true (.object "FoxRounds$Laws") := ⟨RX0, TX0, ck_X0, lt_of 278 rfl rfl, by decide, rfl, rfl, by decide +kernel, fun q => by first | rfl | cases q⟩
set_option maxRecDepth 100000 in
theorem fX1_9 : FL "FoxRounds$House" 9 1 0 1 9 := ⟨RX1, TX1, ck_X1, lt_of 115 rfl rfl, by decide, rfl⟩
set_option maxRecDepth 100000 in
theorem fX1_15 : FL "FoxRounds$House" 15 1 1 0 9 := ⟨RX1, TX1, ck_X1, lt_of 119 rfl rfl, by decide, rfl⟩
set_option maxRecDepth 100000 in
theorem fX1_19 : FL "FoxRounds$House" 19 1 2 0 9 := ⟨RX1, TX1, ck_X1, lt_of 121 rfl rfl, by decide, rfl⟩
set_option maxRecDepth 100000 in
theorem fX1_24 : FL "FoxRounds$House" 24 1 3 1 9 := ⟨RX1, TX1, ck_X1, lt_of 124 rfl rfl, by decide, rfl⟩
set_option maxRecDepth 100000 in
theorem fX1_27 : FL "FoxRounds$House" 27 1 4 0 9 := ⟨RX1, TX1, ck_X1, lt_of 127 rfl rfl, by decide, rfl⟩
set_option maxRecDepth 100000 in
theorem fX1_30 : FL "FoxRounds$House" 30 1 5 1 9 := ⟨RX1, TX1, ck_X1, lt_of 130 rfl rfl, by decide, rfl⟩
set_option maxRecDepth 100000 in
theorem fX1_33 : FL "FoxRounds$House" 33 1 6 0 9 := ⟨RX1, TX1, ck_X1, lt_of 133 rfl rfl, by decide, rfl⟩
set_option maxRecDepth 100000 in
theorem fX1_36 : FL "FoxRounds$House" 36 1 7 0 9 := ⟨RX1, TX1, ck_X1, lt_of 136 rfl rfl, by decide, rfl⟩
set_option maxRecDepth 100000 in
theorem fX1_39 : FL "FoxRounds$House" 39 1 8 1 9 := ⟨RX1, TX1, ck_X1, lt_of 139 rfl rfl, by decide, rfl⟩
set_option maxRecDepth 100000 in
theorem sX1_42 : ("FoxRounds$House", 42, stN 3) ∈ NWf := by decide +kernel
set_option maxRecDepth 100000 in
theorem lX1_51 : LKn "FoxRounds$House" 51 yX9_within cX9_within 3 (some .boolean) 3 := ⟨by decide +kernel, lt_of 70 rfl rfl, lt_of 423 rfl rfl, ⟨by decide +kernel, by decide +kernel, by decide +kernel⟩, lt_of 422 rfl rfl⟩
set_option maxRecDepth 100000 in
theorem lX1_111 : LKn "FoxRounds$House" 111 yX9_held cX9_held 3 (some .int) 3 := ⟨by decide +kernel, lt_of 70 rfl rfl, lt_of 733 rfl rfl, ⟨by decide +kernel, by decide +kernel, by decide +kernel⟩, lt_of 732 rfl rfl⟩
set_option maxRecDepth 100000 in
theorem lX1_55 : LKv "FoxRounds$House" 55 yX1_ease cX1_ease 2 (some .int) 1 := ⟨⟨lt_of 457 rfl rfl, lt_of 72 rfl rfl, lt_of 460 rfl rfl, by decide +kernel, by decide +kernel, by decide +kernel⟩, lt_of 459 rfl rfl, lt_of 1 rfl rfl⟩
set_option maxRecDepth 100000 in
theorem lX1_65 : LKv "FoxRounds$House" 65 yX1_fear cX1_fear 3 (some .int) 0 := ⟨⟨lt_of 548 rfl rfl, lt_of 72 rfl rfl, lt_of 551 rfl rfl, by decide +kernel, by decide +kernel, by decide +kernel⟩, lt_of 549 rfl rfl, lt_of 550 rfl rfl⟩
set_option maxRecDepth 100000 in
theorem lX1_69 : LKv "FoxRounds$House" 69 yX1_doorEase cX1_doorEase 2 (some .int) 1 := ⟨⟨lt_of 461 rfl rfl, lt_of 72 rfl rfl, lt_of 464 rfl rfl, by decide +kernel, by decide +kernel, by decide +kernel⟩, lt_of 463 rfl rfl, lt_of 2 rfl rfl⟩
set_option maxRecDepth 100000 in
theorem lX1_72 : LKv "FoxRounds$House" 72 yX1_month cX1_month 1 (some .int) 0 := ⟨⟨lt_of 465 rfl rfl, lt_of 72 rfl rfl, lt_of 468 rfl rfl, by decide +kernel, by decide +kernel, by decide +kernel⟩, lt_of 467 rfl rfl, lt_of 3 rfl rfl⟩
set_option maxRecDepth 100000 in
theorem lX1_75 : LKv "FoxRounds$House" 75 yX1_dugEase cX1_dugEase 3 (some .int) 1 := ⟨⟨lt_of 469 rfl rfl, lt_of 72 rfl rfl, lt_of 472 rfl rfl, by decide +kernel, by decide +kernel, by decide +kernel⟩, lt_of 471 rfl rfl, lt_of 4 rfl rfl⟩
set_option maxRecDepth 100000 in
theorem lX1_78 : LKv "FoxRounds$House" 78 yX1_looseEase cX1_looseEase 2 (some .int) 1 := ⟨⟨lt_of 473 rfl rfl, lt_of 72 rfl rfl, lt_of 476 rfl rfl, by decide +kernel, by decide +kernel, by decide +kernel⟩, lt_of 475 rfl rfl, lt_of 5 rfl rfl⟩
set_option maxRecDepth 100000 in
theorem lX1_81 : LKv "FoxRounds$House" 81 yX1_goRound cX1_goRound 7 (some .int) 1 := ⟨⟨lt_of 752 rfl rfl, lt_of 72 rfl rfl, lt_of 755 rfl rfl, by decide +kernel, by decide +kernel, by decide +kernel⟩, lt_of 754 rfl rfl, lt_of 17 rfl rfl⟩
set_option maxRecDepth 100000 in
theorem lX1_85 : LKv "FoxRounds$House" 85 yX1_comeIn cX1_comeIn 4 none 2 := ⟨⟨lt_of 767 rfl rfl, lt_of 72 rfl rfl, lt_of 770 rfl rfl, by decide +kernel, by decide +kernel, by decide +kernel⟩, lt_of 769 rfl rfl, lt_of 20 rfl rfl⟩
set_option maxRecDepth 100000 in
theorem lX1_92 : LKv "FoxRounds$House" 92 yX2_stays cX2_stays 3 (some .int) 2 := ⟨⟨lt_of 773 rfl rfl, lt_of 74 rfl rfl, lt_of 739 rfl rfl, by decide +kernel, by decide +kernel, by decide +kernel⟩, lt_of 737 rfl rfl, lt_of 738 rfl rfl⟩
set_option maxRecDepth 100000 in
theorem lX1_97 : LKv "FoxRounds$House" 97 yX1_orderByMemory cX1_orderByMemory 3 none 0 := ⟨⟨lt_of 756 rfl rfl, lt_of 72 rfl rfl, lt_of 759 rfl rfl, by decide +kernel, by decide +kernel, by decide +kernel⟩, lt_of 758 rfl rfl, lt_of 18 rfl rfl⟩
set_option maxRecDepth 100000 in
theorem lX1_100 : LKv "FoxRounds$House" 100 yX1_boldness cX1_boldness 1 (some .int) 0 := ⟨⟨lt_of 760 rfl rfl, lt_of 72 rfl rfl, lt_of 547 rfl rfl, by decide +kernel, by decide +kernel, by decide +kernel⟩, lt_of 545 rfl rfl, lt_of 546 rfl rfl⟩
set_option maxRecDepth 100000 in
theorem lX1_103 : LKv "FoxRounds$House" 103 yX2_enters cX2_enters 6 (some .int) 5 := ⟨⟨lt_of 761 rfl rfl, lt_of 74 rfl rfl, lt_of 719 rfl rfl, by decide +kernel, by decide +kernel, by decide +kernel⟩, lt_of 717 rfl rfl, lt_of 718 rfl rfl⟩
set_option maxRecDepth 100000 in
theorem lX1_107 : LKv "FoxRounds$House" 107 yX1_turnAway cX1_turnAway 3 none 2 := ⟨⟨lt_of 762 rfl rfl, lt_of 72 rfl rfl, lt_of 765 rfl rfl, by decide +kernel, by decide +kernel, by decide +kernel⟩, lt_of 764 rfl rfl, lt_of 19 rfl rfl⟩
set_option maxRecDepth 100000 in
theorem lX1_115 : LKv "FoxRounds$House" 115 yX2_kills cX2_kills 4 (some .int) 3 := ⟨⟨lt_of 771 rfl rfl, lt_of 74 rfl rfl, lt_of 730 rfl rfl, by decide +kernel, by decide +kernel, by decide +kernel⟩, lt_of 728 rfl rfl, lt_of 729 rfl rfl⟩
set_option maxRecDepth 100000 in
theorem pX1_9 : FP "FoxRounds$House" 9 1 0 1 9 true (.array .int) := ⟨RX1, TX1, ck_X1, lt_of 115 rfl rfl, by decide, rfl, rfl, by decide +kernel, fun q => by first | rfl | cases q⟩
set_option maxRecDepth 100000 in
theorem pX1_15 : FP "FoxRounds$House" 15 1 1 0 9 false .int := ⟨RX1, TX1, ck_X1, lt_of 119 rfl rfl, by decide, rfl, rfl, by decide +kernel, fun q => by first | rfl | cases q⟩
set_option maxRecDepth 100000 in
theorem pX1_19 : FP "FoxRounds$House" 19 1 2 0 9 false .int := ⟨RX1, TX1, ck_X1, lt_of 121 rfl rfl, by decide, rfl, rfl, by decide +kernel, fun q => by first | rfl | cases q⟩
set_option maxRecDepth 100000 in
theorem pX1_24 : FP "FoxRounds$House" 24 1 3 1 9 true (.array (.array .int)) := ⟨RX1, TX1, ck_X1, lt_of 124 rfl rfl, by decide, rfl, rfl, by decide +kernel, fun q => by first | rfl | cases q⟩
set_option maxRecDepth 100000 in
theorem pX1_27 : FP "FoxRounds$House" 27 1 4 0 9 false .int := ⟨RX1, TX1, ck_X1, lt_of 127 rfl rfl, by decide, rfl, rfl, by decide +kernel, fun q => by first | rfl | cases q⟩
set_option maxRecDepth 100000 in
theorem pX1_30 : FP "FoxRounds$House" 30 1 5 1 9 true (.array (.array .int)) := ⟨RX1, TX1, ck_X1, lt_of 130 rfl rfl, by decide, rfl, rfl, by decide +kernel, fun q => by first | rfl | cases q⟩
set_option maxRecDepth 100000 in
theorem pX1_33 : FP "FoxRounds$House" 33 1 6 0 9 false .int := ⟨RX1, TX1, ck_X1, lt_of 133 rfl rfl, by decide, rfl, rfl, by decide +kernel, fun q => by first | rfl | cases q⟩
set_option maxRecDepth 100000 in
theorem pX1_36 : FP "FoxRounds$House" 36 1 7 0 9 false .int := ⟨RX1, TX1, ck_X1, lt_of 136 rfl rfl, by decide, rfl, rfl, by decide +kernel, fun q => by first | rfl | cases q⟩
set_option maxRecDepth 100000 in
theorem pX1_39 : FP "FoxRounds$House" 39 1 8 1 9 true (.array .int) := ⟨RX1, TX1, ck_X1, lt_of 139 rfl rfl, by decide, rfl, rfl, by decide +kernel, fun q => by first | rfl | cases q⟩
set_option maxRecDepth 100000 in
theorem fX10_7 : FL "FoxRoundsModel" 7 10 0 1 22 := ⟨RX10, TX10, ck_X10, lt_of 1046 rfl rfl, by decide, rfl⟩
set_option maxRecDepth 100000 in
theorem fX10_13 : FL "FoxRoundsModel" 13 10 1 1 22 := ⟨RX10, TX10, ck_X10, lt_of 1047 rfl rfl, by decide, rfl⟩
set_option maxRecDepth 100000 in
theorem fX10_16 : FL "FoxRoundsModel" 16 10 2 1 22 := ⟨RX10, TX10, ck_X10, lt_of 1048 rfl rfl, by decide, rfl⟩
set_option maxRecDepth 100000 in
theorem fX10_19 : FL "FoxRoundsModel" 19 10 4 1 22 := ⟨RX10, TX10, ck_X10, lt_of 1050 rfl rfl, by decide, rfl⟩
set_option maxRecDepth 100000 in
theorem fX10_22 : FL "FoxRoundsModel" 22 10 11 1 22 := ⟨RX10, TX10, ck_X10, lt_of 1057 rfl rfl, by decide, rfl⟩
set_option maxRecDepth 100000 in
theorem fX10_25 : FL "FoxRoundsModel" 25 10 12 1 22 := ⟨RX10, TX10, ck_X10, lt_of 1058 rfl rfl, by decide, rfl⟩
set_option maxRecDepth 100000 in
theorem fX10_29 : FL "FoxRoundsModel" 29 10 13 1 22 := ⟨RX10, TX10, ck_X10, lt_of 1059 rfl rfl, by decide, rfl⟩
set_option maxRecDepth 100000 in
theorem fX10_32 : FL "FoxRoundsModel" 32 10 14 1 22 := ⟨RX10, TX10, ck_X10, lt_of 1060 rfl rfl, by decide, rfl⟩
set_option maxRecDepth 100000 in
theorem fX10_35 : FL "FoxRoundsModel" 35 10 15 1 22 := ⟨RX10, TX10, ck_X10, lt_of 1061 rfl rfl, by decide, rfl⟩
set_option maxRecDepth 100000 in
theorem fX10_38 : FL "FoxRoundsModel" 38 10 18 1 22 := ⟨RX10, TX10, ck_X10, lt_of 1064 rfl rfl, by decide, rfl⟩
set_option maxRecDepth 100000 in
theorem fX10_41 : FL "FoxRoundsModel" 41 10 19 1 22 := ⟨RX10, TX10, ck_X10, lt_of 1065 rfl rfl, by decide, rfl⟩
set_option maxRecDepth 100000 in
theorem fX10_44 : FL "FoxRoundsModel" 44 10 20 1 22 := ⟨RX10, TX10, ck_X10, lt_of 1066 rfl rfl, by decide, rfl⟩
set_option maxRecDepth 100000 in
theorem fX10_47 : FL "FoxRoundsModel" 47 10 21 1 22 := ⟨RX10, TX10, ck_X10, lt_of 1067 rfl rfl, by decide, rfl⟩
set_option maxRecDepth 100000 in
theorem fX10_55 : FL "FoxRoundsModel" 55 10 6 0 22 := ⟨RX10, TX10, ck_X10, lt_of 1052 rfl rfl, by decide, rfl⟩
set_option maxRecDepth 100000 in
theorem fX10_59 : FL "FoxRoundsModel" 59 10 7 0 22 := ⟨RX10, TX10, ck_X10, lt_of 1053 rfl rfl, by decide, rfl⟩
set_option maxRecDepth 100000 in
theorem fX10_62 : FL "FoxRoundsModel" 62 10 8 0 22 := ⟨RX10, TX10, ck_X10, lt_of 1054 rfl rfl, by decide, rfl⟩
set_option maxRecDepth 100000 in
theorem fX10_65 : FL "FoxRoundsModel" 65 10 5 0 22 := ⟨RX10, TX10, ck_X10, lt_of 1051 rfl rfl, by decide, rfl⟩
set_option maxRecDepth 100000 in
theorem fX10_72 : FL "FoxRoundsModel" 72 10 10 0 22 := ⟨RX10, TX10, ck_X10, lt_of 1056 rfl rfl, by decide, rfl⟩
set_option maxRecDepth 100000 in
theorem fX10_94 : FL "FoxRoundsModel" 94 10 9 0 22 := ⟨RX10, TX10, ck_X10, lt_of 1055 rfl rfl, by decide, rfl⟩
set_option maxRecDepth 100000 in
theorem fX10_268 : FL "FoxRoundsModel" 268 10 16 0 22 := ⟨RX10, TX10, ck_X10, lt_of 1062 rfl rfl, by decide, rfl⟩
set_option maxRecDepth 100000 in
theorem fX10_271 : FL "FoxRoundsModel" 271 10 17 0 22 := ⟨RX10, TX10, ck_X10, lt_of 1063 rfl rfl, by decide, rfl⟩
set_option maxRecDepth 100000 in
theorem fX10_297 : FL "FoxRoundsModel" 297 10 3 0 22 := ⟨RX10, TX10, ck_X10, lt_of 1049 rfl rfl, by decide, rfl⟩
set_option maxRecDepth 100000 in
theorem lX10_51 : LKs "FoxRoundsModel" 51 yX10_in cX10_in 6 (some .boolean) 3 := ⟨⟨lt_of 1119 rfl rfl, lt_of 81 rfl rfl, lt_of 1121 rfl rfl, by decide +kernel, by decide +kernel, by decide +kernel⟩, lt_of 1120 rfl rfl⟩
set_option maxRecDepth 100000 in
theorem lX10_131 : LKs "FoxRoundsModel" 131 yX10_held cX10_held 3 (some .int) 3 := ⟨⟨lt_of 1199 rfl rfl, lt_of 81 rfl rfl, lt_of 1201 rfl rfl, by decide +kernel, by decide +kernel, by decide +kernel⟩, lt_of 1200 rfl rfl⟩
set_option maxRecDepth 100000 in
theorem lX10_155 : LKs "FoxRoundsModel" 155 yX10_mayBe cX10_mayBe 2 (some .boolean) 2 := ⟨⟨lt_of 1206 rfl rfl, lt_of 81 rfl rfl, lt_of 1208 rfl rfl, by decide +kernel, by decide +kernel, by decide +kernel⟩, lt_of 1207 rfl rfl⟩
set_option maxRecDepth 100000 in
theorem lX10_163 : LKs "FoxRoundsModel" 163 yX10_isRight cX10_isRight 3 (some .boolean) 3 := ⟨⟨lt_of 1220 rfl rfl, lt_of 81 rfl rfl, lt_of 1222 rfl rfl, by decide +kernel, by decide +kernel, by decide +kernel⟩, lt_of 1221 rfl rfl⟩
set_option maxRecDepth 100000 in
theorem lX10_170 : LKs "FoxRoundsModel" 170 yX10_of cX10_of 3 (some .int) 3 := ⟨⟨lt_of 1240 rfl rfl, lt_of 81 rfl rfl, lt_of 1242 rfl rfl, by decide +kernel, by decide +kernel, by decide +kernel⟩, lt_of 1241 rfl rfl⟩
set_option maxRecDepth 100000 in
theorem lX10_177 : LKs "FoxRoundsModel" 177 yX10_easeOf cX10_easeOf 8 (some .int) 2 := ⟨⟨lt_of 1237 rfl rfl, lt_of 81 rfl rfl, lt_of 1239 rfl rfl, by decide +kernel, by decide +kernel, by decide +kernel⟩, lt_of 1238 rfl rfl⟩
set_option maxRecDepth 100000 in
theorem lX10_183 : LKs "FoxRoundsModel" 183 yX10_isOf cX10_isOf 2 (some .boolean) 2 := ⟨⟨lt_of 1252 rfl rfl, lt_of 81 rfl rfl, lt_of 1254 rfl rfl, by decide +kernel, by decide +kernel, by decide +kernel⟩, lt_of 1253 rfl rfl⟩
set_option maxRecDepth 100000 in
theorem lX10_186 : LKs "FoxRoundsModel" 186 yX10_isSheet cX10_isSheet 1 (some .boolean) 1 := ⟨⟨lt_of 1259 rfl rfl, lt_of 81 rfl rfl, lt_of 1261 rfl rfl, by decide +kernel, by decide +kernel, by decide +kernel⟩, lt_of 1260 rfl rfl⟩
set_option maxRecDepth 100000 in
theorem lX10_189 : LKs "FoxRoundsModel" 189 yX10_mends cX10_mends 2 none 2 := ⟨⟨lt_of 1267 rfl rfl, lt_of 81 rfl rfl, lt_of 1269 rfl rfl, by decide +kernel, by decide +kernel, by decide +kernel⟩, lt_of 1268 rfl rfl⟩
set_option maxRecDepth 100000 in
theorem lX10_198 : LKs "FoxRoundsModel" 198 yX10_fearOf cX10_fearOf 3 (some .int) 1 := ⟨⟨lt_of 1298 rfl rfl, lt_of 81 rfl rfl, lt_of 1300 rfl rfl, by decide +kernel, by decide +kernel, by decide +kernel⟩, lt_of 1299 rfl rfl⟩
set_option maxRecDepth 100000 in
theorem lX10_202 : LKs "FoxRoundsModel" 202 yX10_boldOf cX10_boldOf 1 (some .int) 1 := ⟨⟨lt_of 1295 rfl rfl, lt_of 81 rfl rfl, lt_of 1297 rfl rfl, by decide +kernel, by decide +kernel, by decide +kernel⟩, lt_of 1296 rfl rfl⟩
set_option maxRecDepth 100000 in
theorem lX10_228 : LKs "FoxRoundsModel" 228 yX10_copies cX10_copies 3 none 2 := ⟨⟨lt_of 1347 rfl rfl, lt_of 81 rfl rfl, lt_of 1349 rfl rfl, by decide +kernel, by decide +kernel, by decide +kernel⟩, lt_of 1348 rfl rfl⟩
set_option maxRecDepth 100000 in
theorem lX10_232 : LKs "FoxRoundsModel" 232 yX10_isAhead cX10_isAhead 1 (some .boolean) 1 := ⟨⟨lt_of 1339 rfl rfl, lt_of 81 rfl rfl, lt_of 1341 rfl rfl, by decide +kernel, by decide +kernel, by decide +kernel⟩, lt_of 1340 rfl rfl⟩
set_option maxRecDepth 100000 in
theorem lX10_256 : LKs "FoxRoundsModel" 256 yX10_common cX10_common 10 (some .long) 2 := ⟨⟨lt_of 1398 rfl rfl, lt_of 81 rfl rfl, lt_of 1400 rfl rfl, by decide +kernel, by decide +kernel, by decide +kernel⟩, lt_of 1399 rfl rfl⟩
set_option maxRecDepth 100000 in
theorem lX10_277 : LKs "FoxRoundsModel" 277 yX10_above cX10_above 1 (some .int) 1 := ⟨⟨lt_of 1446 rfl rfl, lt_of 81 rfl rfl, lt_of 1448 rfl rfl, by decide +kernel, by decide +kernel, by decide +kernel⟩, lt_of 1447 rfl rfl⟩
set_option maxRecDepth 100000 in
theorem lX10_68 : LKv "FoxRoundsModel" 68 yX10_here cX10_here 1 (some .int) 0 := ⟨⟨lt_of 1161 rfl rfl, lt_of 81 rfl rfl, lt_of 1164 rfl rfl, by decide +kernel, by decide +kernel, by decide +kernel⟩, lt_of 1163 rfl rfl, lt_of 41 rfl rfl⟩
set_option maxRecDepth 100000 in
theorem lX10_75 : LKv "FoxRoundsModel" 75 yX10_both cX10_both 3 (some .int) 0 := ⟨⟨lt_of 1141 rfl rfl, lt_of 81 rfl rfl, lt_of 1144 rfl rfl, by decide +kernel, by decide +kernel, by decide +kernel⟩, lt_of 1143 rfl rfl, lt_of 36 rfl rfl⟩
set_option maxRecDepth 100000 in
theorem lX10_78 : LKv "FoxRoundsModel" 78 yX10_takes cX10_takes 2 (some .boolean) 1 := ⟨⟨lt_of 1169 rfl rfl, lt_of 81 rfl rfl, lt_of 1172 rfl rfl, by decide +kernel, by decide +kernel, by decide +kernel⟩, lt_of 1171 rfl rfl, lt_of 43 rfl rfl⟩
set_option maxRecDepth 100000 in
theorem lX10_82 : LKv "FoxRoundsModel" 82 yX10_compared cX10_compared 4 (some .int) 0 := ⟨⟨lt_of 1145 rfl rfl, lt_of 81 rfl rfl, lt_of 1148 rfl rfl, by decide +kernel, by decide +kernel, by decide +kernel⟩, lt_of 1147 rfl rfl, lt_of 37 rfl rfl⟩
set_option maxRecDepth 100000 in
theorem lX10_85 : LKv "FoxRoundsModel" 85 yX10_sum cX10_sum 4 (some .int) 0 := ⟨⟨lt_of 1149 rfl rfl, lt_of 81 rfl rfl, lt_of 1152 rfl rfl, by decide +kernel, by decide +kernel, by decide +kernel⟩, lt_of 1151 rfl rfl, lt_of 38 rfl rfl⟩
set_option maxRecDepth 100000 in
theorem lX10_88 : LKv "FoxRoundsModel" 88 yX10_product cX10_product 4 (some .int) 0 := ⟨⟨lt_of 1153 rfl rfl, lt_of 81 rfl rfl, lt_of 1156 rfl rfl, by decide +kernel, by decide +kernel, by decide +kernel⟩, lt_of 1155 rfl rfl, lt_of 39 rfl rfl⟩
set_option maxRecDepth 100000 in
theorem lX10_91 : LKv "FoxRoundsModel" 91 yX10_unit cX10_unit 5 (some .int) 0 := ⟨⟨lt_of 1157 rfl rfl, lt_of 81 rfl rfl, lt_of 1160 rfl rfl, by decide +kernel, by decide +kernel, by decide +kernel⟩, lt_of 1159 rfl rfl, lt_of 40 rfl rfl⟩
set_option maxRecDepth 100000 in
theorem lX10_97 : LKv "FoxRoundsModel" 97 yX10_wrong cX10_wrong 1 (some .int) 0 := ⟨⟨lt_of 1165 rfl rfl, lt_of 81 rfl rfl, lt_of 1168 rfl rfl, by decide +kernel, by decide +kernel, by decide +kernel⟩, lt_of 1167 rfl rfl, lt_of 42 rfl rfl⟩
set_option maxRecDepth 100000 in
theorem lX10_100 : LKv "FoxRoundsModel" 100 yX10_either cX10_either 3 (some .int) 0 := ⟨⟨lt_of 1137 rfl rfl, lt_of 81 rfl rfl, lt_of 1140 rfl rfl, by decide +kernel, by decide +kernel, by decide +kernel⟩, lt_of 1139 rfl rfl, lt_of 35 rfl rfl⟩
set_option maxRecDepth 100000 in
theorem lX10_103 : LKv "FoxRoundsModel" 103 yX10_nameOf cX10_nameOf 2 (some .int) 1 := ⟨⟨lt_of 1173 rfl rfl, lt_of 81 rfl rfl, lt_of 1176 rfl rfl, by decide +kernel, by decide +kernel, by decide +kernel⟩, lt_of 1175 rfl rfl, lt_of 44 rfl rfl⟩
set_option maxRecDepth 100000 in
theorem lX10_113 : LKv "FoxRoundsModel" 113 yX10_finds cX10_finds 2 (some .int) 1 := ⟨⟨lt_of 1122 rfl rfl, lt_of 81 rfl rfl, lt_of 1125 rfl rfl, by decide +kernel, by decide +kernel, by decide +kernel⟩, lt_of 1124 rfl rfl, lt_of 33 rfl rfl⟩
set_option maxRecDepth 100000 in
theorem lX10_120 : LKv "FoxRoundsModel" 120 yX10_worked cX10_worked 5 (some .int) 3 := ⟨⟨lt_of 1133 rfl rfl, lt_of 81 rfl rfl, lt_of 1136 rfl rfl, by decide +kernel, by decide +kernel, by decide +kernel⟩, lt_of 1135 rfl rfl, lt_of 34 rfl rfl⟩
set_option maxRecDepth 100000 in
theorem lX10_124 : LKv "FoxRoundsModel" 124 yX10_isNamed cX10_isNamed 4 none 3 := ⟨⟨lt_of 1183 rfl rfl, lt_of 81 rfl rfl, lt_of 1186 rfl rfl, by decide +kernel, by decide +kernel, by decide +kernel⟩, lt_of 1185 rfl rfl, lt_of 45 rfl rfl⟩
set_option maxRecDepth 100000 in
theorem lX10_128 : LKv "FoxRoundsModel" 128 yX10_byText cX10_byText 2 (some .int) 1 := ⟨⟨lt_of 1187 rfl rfl, lt_of 81 rfl rfl, lt_of 1190 rfl rfl, by decide +kernel, by decide +kernel, by decide +kernel⟩, lt_of 1189 rfl rfl, lt_of 46 rfl rfl⟩
set_option maxRecDepth 100000 in
theorem lX10_134 : LKv "FoxRoundsModel" 134 yX10_killsOf cX10_killsOf 5 (some .int) 3 := ⟨⟨lt_of 1191 rfl rfl, lt_of 81 rfl rfl, lt_of 1194 rfl rfl, by decide +kernel, by decide +kernel, by decide +kernel⟩, lt_of 1193 rfl rfl, lt_of 47 rfl rfl⟩
set_option maxRecDepth 100000 in
theorem lX10_137 : LKv "FoxRoundsModel" 137 yX10_staysOf cX10_staysOf 4 (some .int) 2 := ⟨⟨lt_of 1195 rfl rfl, lt_of 81 rfl rfl, lt_of 1198 rfl rfl, by decide +kernel, by decide +kernel, by decide +kernel⟩, lt_of 1197 rfl rfl, lt_of 48 rfl rfl⟩
set_option maxRecDepth 100000 in
theorem lX10_167 : LKv "FoxRoundsModel" 167 yX10_comes cX10_comes 5 (some .int) 3 := ⟨⟨lt_of 1225 rfl rfl, lt_of 81 rfl rfl, lt_of 1228 rfl rfl, by decide +kernel, by decide +kernel, by decide +kernel⟩, lt_of 1227 rfl rfl, lt_of 49 rfl rfl⟩
set_option maxRecDepth 100000 in
theorem lX10_174 : LKv "FoxRoundsModel" 174 yX10_isWay cX10_isWay 2 (some .boolean) 1 := ⟨⟨lt_of 1233 rfl rfl, lt_of 81 rfl rfl, lt_of 1236 rfl rfl, by decide +kernel, by decide +kernel, by decide +kernel⟩, lt_of 1235 rfl rfl, lt_of 50 rfl rfl⟩
set_option maxRecDepth 100000 in
theorem lX10_195 : LKv "FoxRoundsModel" 195 yX10_isThing cX10_isThing 2 (some .boolean) 1 := ⟨⟨lt_of 1279 rfl rfl, lt_of 81 rfl rfl, lt_of 1282 rfl rfl, by decide +kernel, by decide +kernel, by decide +kernel⟩, lt_of 1281 rfl rfl, lt_of 51 rfl rfl⟩
set_option maxRecDepth 100000 in
theorem lX10_205 : LKv "FoxRoundsModel" 205 yX10_enters cX10_enters 5 (some .boolean) 4 := ⟨⟨lt_of 1325 rfl rfl, lt_of 81 rfl rfl, lt_of 1328 rfl rfl, by decide +kernel, by decide +kernel, by decide +kernel⟩, lt_of 1327 rfl rfl, lt_of 57 rfl rfl⟩
set_option maxRecDepth 100000 in
theorem lX10_209 : LKv "FoxRoundsModel" 209 yX10_nextWay cX10_nextWay 4 (some .int) 1 := ⟨⟨lt_of 1317 rfl rfl, lt_of 81 rfl rfl, lt_of 1320 rfl rfl, by decide +kernel, by decide +kernel, by decide +kernel⟩, lt_of 1319 rfl rfl, lt_of 55 rfl rfl⟩
set_option maxRecDepth 100000 in
theorem lX10_212 : LKv "FoxRoundsModel" 212 yX10_tries cX10_tries 7 (some .boolean) 2 := ⟨⟨lt_of 1321 rfl rfl, lt_of 81 rfl rfl, lt_of 1324 rfl rfl, by decide +kernel, by decide +kernel, by decide +kernel⟩, lt_of 1323 rfl rfl, lt_of 56 rfl rfl⟩
set_option maxRecDepth 100000 in
theorem lX10_216 : LKv "FoxRoundsModel" 216 yX10_goesRound cX10_goesRound 4 (some .int) 1 := ⟨⟨lt_of 1313 rfl rfl, lt_of 81 rfl rfl, lt_of 1316 rfl rfl, by decide +kernel, by decide +kernel, by decide +kernel⟩, lt_of 1315 rfl rfl, lt_of 54 rfl rfl⟩
set_option maxRecDepth 100000 in
theorem lX10_219 : LKv "FoxRoundsModel" 219 yX10_goesBy cX10_goesBy 5 (some .int) 1 := ⟨⟨lt_of 1309 rfl rfl, lt_of 81 rfl rfl, lt_of 1312 rfl rfl, by decide +kernel, by decide +kernel, by decide +kernel⟩, lt_of 1311 rfl rfl, lt_of 53 rfl rfl⟩
set_option maxRecDepth 100000 in
theorem lX10_222 : LKv "FoxRoundsModel" 222 yX10_goesOn cX10_goesOn 5 none 2 := ⟨⟨lt_of 1305 rfl rfl, lt_of 81 rfl rfl, lt_of 1308 rfl rfl, by decide +kernel, by decide +kernel, by decide +kernel⟩, lt_of 1307 rfl rfl, lt_of 52 rfl rfl⟩
set_option maxRecDepth 100000 in
theorem lX10_237 : LKv "FoxRoundsModel" 237 yX10_ahead cX10_ahead 2 none 1 := ⟨⟨lt_of 1343 rfl rfl, lt_of 81 rfl rfl, lt_of 1346 rfl rfl, by decide +kernel, by decide +kernel, by decide +kernel⟩, lt_of 1345 rfl rfl, lt_of 58 rfl rfl⟩
set_option maxRecDepth 100000 in
theorem lX10_243 : LKv "FoxRoundsModel" 243 yX10_orders cX10_orders 9 none 2 := ⟨⟨lt_of 1371 rfl rfl, lt_of 81 rfl rfl, lt_of 1374 rfl rfl, by decide +kernel, by decide +kernel, by decide +kernel⟩, lt_of 1373 rfl rfl, lt_of 59 rfl rfl⟩
set_option maxRecDepth 100000 in
theorem lX10_251 : LKv "FoxRoundsModel" 251 yX10_harmOf cX10_harmOf 4 (some .int) 1 := ⟨⟨lt_of 1385 rfl rfl, lt_of 81 rfl rfl, lt_of 1388 rfl rfl, by decide +kernel, by decide +kernel, by decide +kernel⟩, lt_of 1387 rfl rfl, lt_of 60 rfl rfl⟩
set_option maxRecDepth 100000 in
theorem lX10_262 : LKv "FoxRoundsModel" 262 yX10_whyNoSigns cX10_whyNoSigns 2 (some .int) 1 := ⟨⟨lt_of 1413 rfl rfl, lt_of 81 rfl rfl, lt_of 1416 rfl rfl, by decide +kernel, by decide +kernel, by decide +kernel⟩, lt_of 1415 rfl rfl, lt_of 61 rfl rfl⟩
set_option maxRecDepth 100000 in
theorem lX10_265 : LKv "FoxRoundsModel" 265 yX10_offIn cX10_offIn 7 (some .int) 2 := ⟨⟨lt_of 1417 rfl rfl, lt_of 81 rfl rfl, lt_of 1420 rfl rfl, by decide +kernel, by decide +kernel, by decide +kernel⟩, lt_of 1419 rfl rfl, lt_of 62 rfl rfl⟩
set_option maxRecDepth 100000 in
theorem lX10_274 : LKv "FoxRoundsModel" 274 yX10_ran cX10_ran 2 none 1 := ⟨⟨lt_of 1442 rfl rfl, lt_of 81 rfl rfl, lt_of 1445 rfl rfl, by decide +kernel, by decide +kernel, by decide +kernel⟩, lt_of 1444 rfl rfl, lt_of 65 rfl rfl⟩
set_option maxRecDepth 100000 in
theorem lX10_280 : LKv "FoxRoundsModel" 280 yX10_triesOf cX10_triesOf 3 (some .int) 2 := ⟨⟨lt_of 1438 rfl rfl, lt_of 81 rfl rfl, lt_of 1441 rfl rfl, by decide +kernel, by decide +kernel, by decide +kernel⟩, lt_of 1440 rfl rfl, lt_of 64 rfl rfl⟩
set_option maxRecDepth 100000 in
theorem lX10_283 : LKv "FoxRoundsModel" 283 yX10_own cX10_own 1 (some .int) 0 := ⟨⟨lt_of 1434 rfl rfl, lt_of 81 rfl rfl, lt_of 1437 rfl rfl, by decide +kernel, by decide +kernel, by decide +kernel⟩, lt_of 1436 rfl rfl, lt_of 63 rfl rfl⟩
set_option maxRecDepth 100000 in
theorem lX10_286 : LKv "FoxRoundsModel" 286 yX10_fears cX10_fears 4 (some .int) 2 := ⟨⟨lt_of 1449 rfl rfl, lt_of 81 rfl rfl, lt_of 1452 rfl rfl, by decide +kernel, by decide +kernel, by decide +kernel⟩, lt_of 1451 rfl rfl, lt_of 66 rfl rfl⟩
set_option maxRecDepth 100000 in
theorem lX10_289 : LKv "FoxRoundsModel" 289 yX10_shuts cX10_shuts 3 (some .int) 2 := ⟨⟨lt_of 1453 rfl rfl, lt_of 81 rfl rfl, lt_of 1456 rfl rfl, by decide +kernel, by decide +kernel, by decide +kernel⟩, lt_of 1455 rfl rfl, lt_of 67 rfl rfl⟩
set_option maxRecDepth 100000 in
theorem lX10_292 : LKv "FoxRoundsModel" 292 yX10_tells cX10_tells 4 (some .int) 2 := ⟨⟨lt_of 1457 rfl rfl, lt_of 81 rfl rfl, lt_of 1460 rfl rfl, by decide +kernel, by decide +kernel, by decide +kernel⟩, lt_of 1459 rfl rfl, lt_of 68 rfl rfl⟩
set_option maxRecDepth 100000 in
theorem pX10_7 : FP "FoxRoundsModel" 7 10 0 1 22 true (.array .int) := ⟨RX10, TX10, ck_X10, lt_of 1046 rfl rfl, by decide, rfl, rfl, by decide +kernel, fun q => by first | rfl | cases q⟩
set_option maxRecDepth 100000 in
theorem pX10_13 : FP "FoxRoundsModel" 13 10 1 1 22 true (.array .int) := ⟨RX10, TX10, ck_X10, lt_of 1047 rfl rfl, by decide, rfl, rfl, by decide +kernel, fun q => by first | rfl | cases q⟩
set_option maxRecDepth 100000 in
theorem pX10_16 : FP "FoxRoundsModel" 16 10 2 1 22 true (.array .int) := ⟨RX10, TX10, ck_X10, lt_of 1048 rfl rfl, by decide, rfl, rfl, by decide +kernel, fun q => by first | rfl | cases q⟩
set_option maxRecDepth 100000 in
theorem pX10_19 : FP "FoxRoundsModel" 19 10 4 1 22 true (.array .int) := ⟨RX10, TX10, ck_X10, lt_of 1050 rfl rfl, by decide, rfl, rfl, by decide +kernel, fun q => by first | rfl | cases q⟩
set_option maxRecDepth 100000 in
theorem pX10_22 : FP "FoxRoundsModel" 22 10 11 1 22 true (.array .int) := ⟨RX10, TX10, ck_X10, lt_of 1057 rfl rfl, by decide, rfl, rfl, by decide +kernel, fun q => by first | rfl | cases q⟩
set_option maxRecDepth 100000 in
theorem pX10_25 : FP "FoxRoundsModel" 25 10 12 1 22 true (.array .boolean) := ⟨RX10, TX10, ck_X10, lt_of 1058 rfl rfl, by decide, rfl, rfl, by decide +kernel, fun q => by first | rfl | cases q⟩
set_option maxRecDepth 100000 in
theorem pX10_29 : FP "FoxRoundsModel" 29 10 13 1 22 true (.array .int) := ⟨RX10, TX10, ck_X10, lt_of 1059 rfl rfl, by decide, rfl, rfl, by decide +kernel, fun q => by first | rfl | cases q⟩
set_option maxRecDepth 100000 in
theorem pX10_32 : FP "FoxRoundsModel" 32 10 14 1 22 true (.array .int) := ⟨RX10, TX10, ck_X10, lt_of 1060 rfl rfl, by decide, rfl, rfl, by decide +kernel, fun q => by first | rfl | cases q⟩
set_option maxRecDepth 100000 in
theorem pX10_35 : FP "FoxRoundsModel" 35 10 15 1 22 true (.array .int) := ⟨RX10, TX10, ck_X10, lt_of 1061 rfl rfl, by decide, rfl, rfl, by decide +kernel, fun q => by first | rfl | cases q⟩
set_option maxRecDepth 100000 in
theorem pX10_38 : FP "FoxRoundsModel" 38 10 18 1 22 true (.array .int) := ⟨RX10, TX10, ck_X10, lt_of 1064 rfl rfl, by decide, rfl, rfl, by decide +kernel, fun q => by first | rfl | cases q⟩
set_option maxRecDepth 100000 in
theorem pX10_41 : FP "FoxRoundsModel" 41 10 19 1 22 true (.array .int) := ⟨RX10, TX10, ck_X10, lt_of 1065 rfl rfl, by decide, rfl, rfl, by decide +kernel, fun q => by first | rfl | cases q⟩
set_option maxRecDepth 100000 in
theorem pX10_44 : FP "FoxRoundsModel" 44 10 20 1 22 true (.array .int) := ⟨RX10, TX10, ck_X10, lt_of 1066 rfl rfl, by decide, rfl, rfl, by decide +kernel, fun q => by first | rfl | cases q⟩
set_option maxRecDepth 100000 in
theorem pX10_47 : FP "FoxRoundsModel" 47 10 21 1 22 true (.array .int) := ⟨RX10, TX10, ck_X10, lt_of 1067 rfl rfl, by decide, rfl, rfl, by decide +kernel, fun q => by first | rfl | cases q⟩
set_option maxRecDepth 100000 in
theorem pX10_55 : FP "FoxRoundsModel" 55 10 6 0 22 false .int := ⟨RX10, TX10, ck_X10, lt_of 1052 rfl rfl, by decide, rfl, rfl, by decide +kernel, fun q => by first | rfl | cases q⟩
set_option maxRecDepth 100000 in
theorem pX10_59 : FP "FoxRoundsModel" 59 10 7 0 22 false .int := ⟨RX10, TX10, ck_X10, lt_of 1053 rfl rfl, by decide, rfl, rfl, by decide +kernel, fun q => by first | rfl | cases q⟩
set_option maxRecDepth 100000 in
theorem pX10_62 : FP "FoxRoundsModel" 62 10 8 0 22 false .int := ⟨RX10, TX10, ck_X10, lt_of 1054 rfl rfl, by decide, rfl, rfl, by decide +kernel, fun q => by first | rfl | cases q⟩
set_option maxRecDepth 100000 in
theorem pX10_65 : FP "FoxRoundsModel" 65 10 5 0 22 false .int := ⟨RX10, TX10, ck_X10, lt_of 1051 rfl rfl, by decide, rfl, rfl, by decide +kernel, fun q => by first | rfl | cases q⟩
set_option maxRecDepth 100000 in
theorem pX10_72 : FP "FoxRoundsModel" 72 10 10 0 22 false .int := ⟨RX10, TX10, ck_X10, lt_of 1056 rfl rfl, by decide, rfl, rfl, by decide +kernel, fun q => by first | rfl | cases q⟩
set_option maxRecDepth 100000 in
theorem pX10_94 : FP "FoxRoundsModel" 94 10 9 0 22 false .int := ⟨RX10, TX10, ck_X10, lt_of 1055 rfl rfl, by decide, rfl, rfl, by decide +kernel, fun q => by first | rfl | cases q⟩
set_option maxRecDepth 100000 in
theorem pX10_268 : FP "FoxRoundsModel" 268 10 16 0 22 false .int := ⟨RX10, TX10, ck_X10, lt_of 1062 rfl rfl, by decide, rfl, rfl, by decide +kernel, fun q => by first | rfl | cases q⟩
set_option maxRecDepth 100000 in
theorem pX10_271 : FP "FoxRoundsModel" 271 10 17 0 22 false .int := ⟨RX10, TX10, ck_X10, lt_of 1063 rfl rfl, by decide, rfl, rfl, by decide +kernel, fun q => by first | rfl | cases q⟩
set_option maxRecDepth 100000 in
theorem pX10_297 : FP "FoxRoundsModel" 297 10 3 0 22 false .int := ⟨RX10, TX10, ck_X10, lt_of 1049 rfl rfl, by decide, rfl, rfl, by decide +kernel, fun q => by first | rfl | cases q⟩
set_option maxRecDepth 100000 in
theorem fX2_18 : FL "FoxRounds$Laws" 18 2 0 1 4 := ⟨RX2, TX2, ck_X2, lt_of 192 rfl rfl, by decide, rfl⟩
set_option maxRecDepth 100000 in
theorem fX2_27 : FL "FoxRounds$Laws" 27 2 1 1 4 := ⟨RX2, TX2, ck_X2, lt_of 193 rfl rfl, by decide, rfl⟩
set_option maxRecDepth 100000 in
theorem fX2_33 : FL "FoxRounds$Laws" 33 2 2 1 4 := ⟨RX2, TX2, ck_X2, lt_of 194 rfl rfl, by decide, rfl⟩
set_option maxRecDepth 100000 in
theorem fX2_36 : FL "FoxRounds$Laws" 36 2 3 1 4 := ⟨RX2, TX2, ck_X2, lt_of 195 rfl rfl, by decide, rfl⟩
set_option maxRecDepth 100000 in
theorem sX2_11 : ("FoxRounds$Laws", 11, stN 4) ∈ NWf := by decide +kernel
set_option maxRecDepth 100000 in
theorem sX2_24 : ("FoxRounds$Laws", 24, stN 5) ∈ NWf := by decide +kernel
set_option maxRecDepth 100000 in
theorem sX2_30 : ("FoxRounds$Laws", 30, stN 6) ∈ NWf := by decide +kernel
set_option maxRecDepth 100000 in
theorem lX2_15 : LK "FoxRounds$Laws" 15 yX5_init cX5_init 3 none 1 ∧ Cond.instanceMethod yX5_init ∈ LT := ⟨⟨lt_of 170 rfl rfl, lt_of 75 rfl rfl, lt_of 172 rfl rfl, by decide +kernel, by decide +kernel, by decide +kernel⟩, lt_of 171 rfl rfl⟩
set_option maxRecDepth 100000 in
theorem lX2_47 : LKn "FoxRounds$Laws" 47 yX9_held cX9_held 3 (some .int) 3 := ⟨by decide +kernel, lt_of 70 rfl rfl, lt_of 733 rfl rfl, ⟨by decide +kernel, by decide +kernel, by decide +kernel⟩, lt_of 732 rfl rfl⟩
set_option maxRecDepth 100000 in
theorem lX2_39 : LKv "FoxRounds$Laws" 39 yX5_copyFrom cX5_copyFrom 2 none 1 := ⟨⟨lt_of 1010 rfl rfl, lt_of 75 rfl rfl, lt_of 710 rfl rfl, by decide +kernel, by decide +kernel, by decide +kernel⟩, lt_of 708 rfl rfl, lt_of 709 rfl rfl⟩
set_option maxRecDepth 100000 in
theorem lX2_43 : LKv "FoxRounds$Laws" 43 yX5_value cX5_value 5 (some .int) 1 := ⟨⟨lt_of 720 rfl rfl, lt_of 75 rfl rfl, lt_of 723 rfl rfl, by decide +kernel, by decide +kernel, by decide +kernel⟩, lt_of 721 rfl rfl, lt_of 722 rfl rfl⟩
set_option maxRecDepth 100000 in
theorem pX2_18 : FP "FoxRounds$Laws" 18 2 0 1 4 true (.object "FoxRounds$Text") := ⟨RX2, TX2, ck_X2, lt_of 192 rfl rfl, by decide, rfl, rfl, by decide +kernel, fun q => by first | rfl | cases q⟩
set_option maxRecDepth 100000 in
theorem pX2_27 : FP "FoxRounds$Laws" 27 2 1 1 4 true (.object "FoxRounds$Text") := ⟨RX2, TX2, ck_X2, lt_of 193 rfl rfl, by decide, rfl, rfl, by decide +kernel, fun q => by first | rfl | cases q⟩
set_option maxRecDepth 100000 in
theorem pX2_33 : FP "FoxRounds$Laws" 33 2 2 1 4 true (.object "FoxRounds$Text") := ⟨RX2, TX2, ck_X2, lt_of 194 rfl rfl, by decide, rfl, rfl, by decide +kernel, fun q => by first | rfl | cases q⟩
set_option maxRecDepth 100000 in
theorem pX2_36 : FP "FoxRounds$Laws" 36 2 3 1 4 true (.array .int) := ⟨RX2, TX2, ck_X2, lt_of 195 rfl rfl, by decide, rfl, rfl, by decide +kernel, fun q => by first | rfl | cases q⟩
set_option maxRecDepth 100000 in
theorem fX3_14 : FL "FoxRounds$Reader" 14 3 0 1 10 := ⟨RX3, TX3, ck_X3, lt_of 314 rfl rfl, by decide, rfl⟩
set_option maxRecDepth 100000 in
theorem fX3_20 : FL "FoxRounds$Reader" 20 3 1 2 10 := ⟨RX3, TX3, ck_X3, lt_of 316 rfl rfl, by decide, rfl⟩
set_option maxRecDepth 100000 in
theorem fX3_24 : FL "FoxRounds$Reader" 24 3 2 0 10 := ⟨RX3, TX3, ck_X3, lt_of 317 rfl rfl, by decide, rfl⟩
set_option maxRecDepth 100000 in
theorem fX3_30 : FL "FoxRounds$Reader" 30 3 3 2 10 := ⟨RX3, TX3, ck_X3, lt_of 318 rfl rfl, by decide, rfl⟩
set_option maxRecDepth 100000 in
theorem fX3_34 : FL "FoxRounds$Reader" 34 3 4 0 10 := ⟨RX3, TX3, ck_X3, lt_of 319 rfl rfl, by decide, rfl⟩
set_option maxRecDepth 100000 in
theorem fX3_37 : FL "FoxRounds$Reader" 37 3 5 1 10 := ⟨RX3, TX3, ck_X3, lt_of 320 rfl rfl, by decide, rfl⟩
set_option maxRecDepth 100000 in
theorem fX3_41 : FL "FoxRounds$Reader" 41 3 6 0 10 := ⟨RX3, TX3, ck_X3, lt_of 321 rfl rfl, by decide, rfl⟩
set_option maxRecDepth 100000 in
theorem fX3_44 : FL "FoxRounds$Reader" 44 3 7 0 10 := ⟨RX3, TX3, ck_X3, lt_of 322 rfl rfl, by decide, rfl⟩
set_option maxRecDepth 100000 in
theorem fX3_47 : FL "FoxRounds$Reader" 47 3 8 0 10 := ⟨RX3, TX3, ck_X3, lt_of 323 rfl rfl, by decide, rfl⟩
set_option maxRecDepth 100000 in
theorem fX3_50 : FL "FoxRounds$Reader" 50 3 9 0 10 := ⟨RX3, TX3, ck_X3, lt_of 324 rfl rfl, by decide, rfl⟩
set_option maxRecDepth 100000 in
theorem lX3_11 : LK "FoxRounds$Reader" 11 yX5_init cX5_init 3 none 1 ∧ Cond.instanceMethod yX5_init ∈ LT := ⟨⟨lt_of 312 rfl rfl, lt_of 75 rfl rfl, lt_of 172 rfl rfl, by decide +kernel, by decide +kernel, by decide +kernel⟩, lt_of 171 rfl rfl⟩
set_option maxRecDepth 100000 in
theorem lX3_89 : LKs "FoxRounds$Reader" 89 yX3_isDigit cX3_isDigit 1 (some .boolean) 1 := ⟨⟨lt_of 676 rfl rfl, lt_of 78 rfl rfl, lt_of 678 rfl rfl, by decide +kernel, by decide +kernel, by decide +kernel⟩, lt_of 677 rfl rfl⟩
set_option maxRecDepth 100000 in
theorem lX3_105 : LKs "FoxRounds$Reader" 105 yX3_levelOf cX3_levelOf 1 (some .int) 1 := ⟨⟨lt_of 699 rfl rfl, lt_of 78 rfl rfl, lt_of 701 rfl rfl, by decide +kernel, by decide +kernel, by decide +kernel⟩, lt_of 700 rfl rfl⟩
set_option maxRecDepth 100000 in
theorem lX3_60 : LKv "FoxRounds$Reader" 60 yX3_begin cX3_begin 1 none 0 := ⟨⟨lt_of 571 rfl rfl, lt_of 78 rfl rfl, lt_of 574 rfl rfl, by decide +kernel, by decide +kernel, by decide +kernel⟩, lt_of 573 rfl rfl, lt_of 7 rfl rfl⟩
set_option maxRecDepth 100000 in
theorem lX3_63 : LKv "FoxRounds$Reader" 63 yX3_takeOperand cX3_takeOperand 3 (some .boolean) 1 := ⟨⟨lt_of 579 rfl rfl, lt_of 78 rfl rfl, lt_of 582 rfl rfl, by decide +kernel, by decide +kernel, by decide +kernel⟩, lt_of 581 rfl rfl, lt_of 8 rfl rfl⟩
set_option maxRecDepth 100000 in
theorem lX3_67 : LKv "FoxRounds$Reader" 67 yX3_takeFollower cX3_takeFollower 3 (some .boolean) 1 := ⟨⟨lt_of 687 rfl rfl, lt_of 78 rfl rfl, lt_of 690 rfl rfl, by decide +kernel, by decide +kernel, by decide +kernel⟩, lt_of 689 rfl rfl, lt_of 13 rfl rfl⟩
set_option maxRecDepth 100000 in
theorem lX3_70 : LKv "FoxRounds$Reader" 70 yX3_popDownTo cX3_popDownTo 2 none 1 := ⟨⟨lt_of 695 rfl rfl, lt_of 78 rfl rfl, lt_of 698 rfl rfl, by decide +kernel, by decide +kernel, by decide +kernel⟩, lt_of 697 rfl rfl, lt_of 15 rfl rfl⟩
set_option maxRecDepth 100000 in
theorem lX3_74 : LKv "FoxRounds$Reader" 74 yX5_clear cX5_clear 1 none 0 := ⟨⟨lt_of 575 rfl rfl, lt_of 75 rfl rfl, lt_of 578 rfl rfl, by decide +kernel, by decide +kernel, by decide +kernel⟩, lt_of 576 rfl rfl, lt_of 577 rfl rfl⟩
set_option maxRecDepth 100000 in
theorem lX3_77 : LKv "FoxRounds$Reader" 77 yX3_takeOpening cX3_takeOpening 2 (some .boolean) 1 := ⟨⟨lt_of 583 rfl rfl, lt_of 78 rfl rfl, lt_of 586 rfl rfl, by decide +kernel, by decide +kernel, by decide +kernel⟩, lt_of 585 rfl rfl, lt_of 9 rfl rfl⟩
set_option maxRecDepth 100000 in
theorem lX3_86 : LKv "FoxRounds$Reader" 86 yX5_add cX5_add 2 none 1 := ⟨⟨lt_of 675 rfl rfl, lt_of 75 rfl rfl, lt_of 177 rfl rfl, by decide +kernel, by decide +kernel, by decide +kernel⟩, lt_of 175 rfl rfl, lt_of 176 rfl rfl⟩
set_option maxRecDepth 100000 in
theorem lX3_92 : LKv "FoxRounds$Reader" 92 yX3_takeNumber cX3_takeNumber 3 none 0 := ⟨⟨lt_of 679 rfl rfl, lt_of 78 rfl rfl, lt_of 682 rfl rfl, by decide +kernel, by decide +kernel, by decide +kernel⟩, lt_of 681 rfl rfl, lt_of 11 rfl rfl⟩
set_option maxRecDepth 100000 in
theorem lX3_95 : LKv "FoxRounds$Reader" 95 yX3_endOperand cX3_endOperand 1 none 0 := ⟨⟨lt_of 683 rfl rfl, lt_of 78 rfl rfl, lt_of 686 rfl rfl, by decide +kernel, by decide +kernel, by decide +kernel⟩, lt_of 685 rfl rfl, lt_of 12 rfl rfl⟩
set_option maxRecDepth 100000 in
theorem lX3_98 : LKv "FoxRounds$Reader" 98 yX3_pushSign cX3_pushSign 2 none 1 := ⟨⟨lt_of 587 rfl rfl, lt_of 78 rfl rfl, lt_of 590 rfl rfl, by decide +kernel, by decide +kernel, by decide +kernel⟩, lt_of 589 rfl rfl, lt_of 10 rfl rfl⟩
set_option maxRecDepth 100000 in
theorem lX3_101 : LKv "FoxRounds$Reader" 101 yX3_takeClosing cX3_takeClosing 1 (some .boolean) 0 := ⟨⟨lt_of 691 rfl rfl, lt_of 78 rfl rfl, lt_of 694 rfl rfl, by decide +kernel, by decide +kernel, by decide +kernel⟩, lt_of 693 rfl rfl, lt_of 14 rfl rfl⟩
set_option maxRecDepth 100000 in
theorem pX3_14 : FP "FoxRounds$Reader" 14 3 0 1 10 true (.object "FoxRounds$Text") := ⟨RX3, TX3, ck_X3, lt_of 314 rfl rfl, by decide, rfl, rfl, by decide +kernel, fun q => by first | rfl | cases q⟩
set_option maxRecDepth 100000 in
theorem pX3_20 : FP "FoxRounds$Reader" 20 3 1 2 10 false (.array .byte) := ⟨RX3, TX3, ck_X3, lt_of 316 rfl rfl, by decide, rfl, rfl, by decide +kernel, fun q => by first | rfl | cases q⟩
set_option maxRecDepth 100000 in
theorem pX3_24 : FP "FoxRounds$Reader" 24 3 2 0 10 false .int := ⟨RX3, TX3, ck_X3, lt_of 317 rfl rfl, by decide, rfl, rfl, by decide +kernel, fun q => by first | rfl | cases q⟩
set_option maxRecDepth 100000 in
theorem pX3_30 : FP "FoxRounds$Reader" 30 3 3 2 10 false (.object "java/lang/String") := ⟨RX3, TX3, ck_X3, lt_of 318 rfl rfl, by decide, rfl, rfl, by decide +kernel, fun q => by first | rfl | cases q⟩
set_option maxRecDepth 100000 in
theorem pX3_34 : FP "FoxRounds$Reader" 34 3 4 0 10 false .int := ⟨RX3, TX3, ck_X3, lt_of 319 rfl rfl, by decide, rfl, rfl, by decide +kernel, fun q => by first | rfl | cases q⟩
set_option maxRecDepth 100000 in
theorem pX3_37 : FP "FoxRounds$Reader" 37 3 5 1 10 true (.array .int) := ⟨RX3, TX3, ck_X3, lt_of 320 rfl rfl, by decide, rfl, rfl, by decide +kernel, fun q => by first | rfl | cases q⟩
set_option maxRecDepth 100000 in
theorem pX3_41 : FP "FoxRounds$Reader" 41 3 6 0 10 false .int := ⟨RX3, TX3, ck_X3, lt_of 321 rfl rfl, by decide, rfl, rfl, by decide +kernel, fun q => by first | rfl | cases q⟩
set_option maxRecDepth 100000 in
theorem pX3_44 : FP "FoxRounds$Reader" 44 3 7 0 10 false .int := ⟨RX3, TX3, ck_X3, lt_of 322 rfl rfl, by decide, rfl, rfl, by decide +kernel, fun q => by first | rfl | cases q⟩
set_option maxRecDepth 100000 in
theorem pX3_47 : FP "FoxRounds$Reader" 47 3 8 0 10 false .int := ⟨RX3, TX3, ck_X3, lt_of 323 rfl rfl, by decide, rfl, rfl, by decide +kernel, fun q => by first | rfl | cases q⟩
set_option maxRecDepth 100000 in
theorem pX3_50 : FP "FoxRounds$Reader" 50 3 9 0 10 false .boolean := ⟨RX3, TX3, ck_X3, lt_of 324 rfl rfl, by decide, rfl, rfl, by decide +kernel, fun q => by first | rfl | cases q⟩
set_option maxRecDepth 100000 in
theorem fX4_9 : FL "FoxRounds$Sheet" 9 4 0 0 3 := ⟨RX4, TX4, ck_X4, lt_of 377 rfl rfl, by decide, rfl⟩
set_option maxRecDepth 100000 in
theorem fX4_15 : FL "FoxRounds$Sheet" 15 4 1 0 3 := ⟨RX4, TX4, ck_X4, lt_of 379 rfl rfl, by decide, rfl⟩
set_option maxRecDepth 100000 in
theorem fX4_18 : FL "FoxRounds$Sheet" 18 4 2 1 3 := ⟨RX4, TX4, ck_X4, lt_of 382 rfl rfl, by decide, rfl⟩
set_option maxRecDepth 100000 in
theorem pX4_9 : FP "FoxRounds$Sheet" 9 4 0 0 3 false .int := ⟨RX4, TX4, ck_X4, lt_of 377 rfl rfl, by decide, rfl, rfl, by decide +kernel, fun q => by first | rfl | cases q⟩
set_option maxRecDepth 100000 in
theorem pX4_15 : FP "FoxRounds$Sheet" 15 4 1 0 3 false .int := ⟨RX4, TX4, ck_X4, lt_of 379 rfl rfl, by decide, rfl, rfl, by decide +kernel, fun q => by first | rfl | cases q⟩
set_option maxRecDepth 100000 in
theorem pX4_18 : FP "FoxRounds$Sheet" 18 4 2 1 3 true (.array .int) := ⟨RX4, TX4, ck_X4, lt_of 382 rfl rfl, by decide, rfl, rfl, by decide +kernel, fun q => by first | rfl | cases q⟩
set_option maxRecDepth 100000 in
theorem fX5_9 : FL "FoxRounds$Text" 9 5 0 1 3 := ⟨RX5, TX5, ck_X5, lt_of 178 rfl rfl, by decide, rfl⟩
set_option maxRecDepth 100000 in
theorem fX5_15 : FL "FoxRounds$Text" 15 5 1 0 3 := ⟨RX5, TX5, ck_X5, lt_of 179 rfl rfl, by decide, rfl⟩
set_option maxRecDepth 100000 in
theorem fX5_19 : FL "FoxRounds$Text" 19 5 2 1 3 := ⟨RX5, TX5, ck_X5, lt_of 180 rfl rfl, by decide, rfl⟩
set_option maxRecDepth 100000 in
theorem lX5_32 : LKs "FoxRounds$Text" 32 yX5_join cX5_join 3 (some .int) 3 := ⟨⟨lt_of 724 rfl rfl, lt_of 75 rfl rfl, lt_of 726 rfl rfl, by decide +kernel, by decide +kernel, by decide +kernel⟩, lt_of 725 rfl rfl⟩
set_option maxRecDepth 100000 in
theorem lX5_22 : LKv "FoxRounds$Text" 22 yX5_add cX5_add 2 none 1 := ⟨⟨lt_of 174 rfl rfl, lt_of 75 rfl rfl, lt_of 177 rfl rfl, by decide +kernel, by decide +kernel, by decide +kernel⟩, lt_of 175 rfl rfl, lt_of 176 rfl rfl⟩
set_option maxRecDepth 100000 in
theorem pX5_9 : FP "FoxRounds$Text" 9 5 0 1 3 true (.array .int) := ⟨RX5, TX5, ck_X5, lt_of 178 rfl rfl, by decide, rfl, rfl, by decide +kernel, fun q => by first | rfl | cases q⟩
set_option maxRecDepth 100000 in
theorem pX5_15 : FP "FoxRounds$Text" 15 5 1 0 3 false .int := ⟨RX5, TX5, ck_X5, lt_of 179 rfl rfl, by decide, rfl, rfl, by decide +kernel, fun q => by first | rfl | cases q⟩
set_option maxRecDepth 100000 in
theorem pX5_19 : FP "FoxRounds$Text" 19 5 2 1 3 true (.array .int) := ⟨RX5, TX5, ck_X5, lt_of 180 rfl rfl, by decide, rfl, rfl, by decide +kernel, fun q => by first | rfl | cases q⟩
set_option maxRecDepth 100000 in
theorem fX6_9 : FL "FoxRounds$Village" 9 6 0 1 5 := ⟨RX6, TX6, ck_X6, lt_of 211 rfl rfl, by decide, rfl⟩
set_option maxRecDepth 100000 in
theorem fX6_15 : FL "FoxRounds$Village" 15 6 1 1 5 := ⟨RX6, TX6, ck_X6, lt_of 213 rfl rfl, by decide, rfl⟩
set_option maxRecDepth 100000 in
theorem fX6_18 : FL "FoxRounds$Village" 18 6 2 1 5 := ⟨RX6, TX6, ck_X6, lt_of 215 rfl rfl, by decide, rfl⟩
set_option maxRecDepth 100000 in
theorem fX6_25 : FL "FoxRounds$Village" 25 6 4 1 5 := ⟨RX6, TX6, ck_X6, lt_of 219 rfl rfl, by decide, rfl⟩
set_option maxRecDepth 100000 in
theorem lX6_34 : LKv "FoxRounds$Village" 34 yX6_changesInARound cX6_changesInARound 5 (some .boolean) 0 := ⟨⟨lt_of 899 rfl rfl, lt_of 76 rfl rfl, lt_of 902 rfl rfl, by decide +kernel, by decide +kernel, by decide +kernel⟩, lt_of 901 rfl rfl, lt_of 26 rfl rfl⟩
set_option maxRecDepth 100000 in
theorem lX6_38 : LKv "FoxRounds$Village" 38 yX6_firstOpen cX6_firstOpen 2 (some .int) 0 := ⟨⟨lt_of 903 rfl rfl, lt_of 76 rfl rfl, lt_of 906 rfl rfl, by decide +kernel, by decide +kernel, by decide +kernel⟩, lt_of 905 rfl rfl, lt_of 27 rfl rfl⟩
set_option maxRecDepth 100000 in
theorem pX6_9 : FP "FoxRounds$Village" 9 6 0 1 5 true (.array .int) := ⟨RX6, TX6, ck_X6, lt_of 211 rfl rfl, by decide, rfl, rfl, by decide +kernel, fun q => by first | rfl | cases q⟩
set_option maxRecDepth 100000 in
theorem pX6_15 : FP "FoxRounds$Village" 15 6 1 1 5 true (.array .int) := ⟨RX6, TX6, ck_X6, lt_of 213 rfl rfl, by decide, rfl, rfl, by decide +kernel, fun q => by first | rfl | cases q⟩
set_option maxRecDepth 100000 in
theorem pX6_18 : FP "FoxRounds$Village" 18 6 2 1 5 true (.array .int) := ⟨RX6, TX6, ck_X6, lt_of 215 rfl rfl, by decide, rfl, rfl, by decide +kernel, fun q => by first | rfl | cases q⟩
set_option maxRecDepth 100000 in
theorem pX6_21 : FP "FoxRounds$Village" 21 6 3 0 5 false .int := ⟨RX6, TX6, ck_X6, lt_of 217 rfl rfl, by decide, rfl, rfl, by decide +kernel, fun q => by first | rfl | cases q⟩
set_option maxRecDepth 100000 in
theorem pX6_25 : FP "FoxRounds$Village" 25 6 4 1 5 true (.array .int) := ⟨RX6, TX6, ck_X6, lt_of 219 rfl rfl, by decide, rfl, rfl, by decide +kernel, fun q => by first | rfl | cases q⟩
set_option maxRecDepth 100000 in
theorem fX7_9 : FL "FoxRounds$Voices" 9 7 0 1 5 := ⟨RX7, TX7, ck_X7, lt_of 352 rfl rfl, by decide, rfl⟩
set_option maxRecDepth 100000 in
theorem fX7_15 : FL "FoxRounds$Voices" 15 7 1 0 5 := ⟨RX7, TX7, ck_X7, lt_of 354 rfl rfl, by decide, rfl⟩
set_option maxRecDepth 100000 in
theorem fX7_19 : FL "FoxRounds$Voices" 19 7 2 0 5 := ⟨RX7, TX7, ck_X7, lt_of 356 rfl rfl, by decide, rfl⟩
set_option maxRecDepth 100000 in
theorem fX7_22 : FL "FoxRounds$Voices" 22 7 3 0 5 := ⟨RX7, TX7, ck_X7, lt_of 357 rfl rfl, by decide, rfl⟩
set_option maxRecDepth 100000 in
theorem fX7_25 : FL "FoxRounds$Voices" 25 7 4 0 5 := ⟨RX7, TX7, ck_X7, lt_of 358 rfl rfl, by decide, rfl⟩
set_option maxRecDepth 100000 in
theorem lX7_28 : LKv "FoxRounds$Voices" 28 yX7_tries cX7_tries 4 (some .int) 3 := ⟨⟨lt_of 947 rfl rfl, lt_of 79 rfl rfl, lt_of 950 rfl rfl, by decide +kernel, by decide +kernel, by decide +kernel⟩, lt_of 949 rfl rfl, lt_of 28 rfl rfl⟩
set_option maxRecDepth 100000 in
theorem lX7_32 : LKv "FoxRounds$Voices" 32 yX7_fears cX7_fears 4 (some .int) 3 := ⟨⟨lt_of 955 rfl rfl, lt_of 79 rfl rfl, lt_of 958 rfl rfl, by decide +kernel, by decide +kernel, by decide +kernel⟩, lt_of 957 rfl rfl, lt_of 30 rfl rfl⟩
set_option maxRecDepth 100000 in
theorem lX7_35 : LKv "FoxRounds$Voices" 35 yX7_shuts cX7_shuts 4 (some .int) 3 := ⟨⟨lt_of 959 rfl rfl, lt_of 79 rfl rfl, lt_of 962 rfl rfl, by decide +kernel, by decide +kernel, by decide +kernel⟩, lt_of 961 rfl rfl, lt_of 31 rfl rfl⟩
set_option maxRecDepth 100000 in
theorem lX7_38 : LKv "FoxRounds$Voices" 38 yX7_tells cX7_tells 4 (some .int) 3 := ⟨⟨lt_of 963 rfl rfl, lt_of 79 rfl rfl, lt_of 966 rfl rfl, by decide +kernel, by decide +kernel, by decide +kernel⟩, lt_of 965 rfl rfl, lt_of 32 rfl rfl⟩
set_option maxRecDepth 100000 in
theorem lX7_41 : LKv "FoxRounds$Voices" 41 yX7_begin cX7_begin 2 none 1 := ⟨⟨lt_of 951 rfl rfl, lt_of 79 rfl rfl, lt_of 954 rfl rfl, by decide +kernel, by decide +kernel, by decide +kernel⟩, lt_of 953 rfl rfl, lt_of 29 rfl rfl⟩
set_option maxRecDepth 100000 in
theorem pX7_9 : FP "FoxRounds$Voices" 9 7 0 1 5 true (.array .int) := ⟨RX7, TX7, ck_X7, lt_of 352 rfl rfl, by decide, rfl, rfl, by decide +kernel, fun q => by first | rfl | cases q⟩
set_option maxRecDepth 100000 in
theorem pX7_15 : FP "FoxRounds$Voices" 15 7 1 0 5 false .int := ⟨RX7, TX7, ck_X7, lt_of 354 rfl rfl, by decide, rfl, rfl, by decide +kernel, fun q => by first | rfl | cases q⟩
set_option maxRecDepth 100000 in
theorem pX7_19 : FP "FoxRounds$Voices" 19 7 2 0 5 false .int := ⟨RX7, TX7, ck_X7, lt_of 356 rfl rfl, by decide, rfl, rfl, by decide +kernel, fun q => by first | rfl | cases q⟩
set_option maxRecDepth 100000 in
theorem pX7_22 : FP "FoxRounds$Voices" 22 7 3 0 5 false .int := ⟨RX7, TX7, ck_X7, lt_of 357 rfl rfl, by decide, rfl, rfl, by decide +kernel, fun q => by first | rfl | cases q⟩
set_option maxRecDepth 100000 in
theorem pX7_25 : FP "FoxRounds$Voices" 25 7 4 0 5 false .int := ⟨RX7, TX7, ck_X7, lt_of 358 rfl rfl, by decide, rfl, rfl, by decide +kernel, fun q => by first | rfl | cases q⟩
set_option maxRecDepth 100000 in
theorem fX8_12 : FL "FoxRounds$World" 12 8 0 1 9 := ⟨RX8, TX8, ck_X8, lt_of 231 rfl rfl, by decide, rfl⟩
set_option maxRecDepth 100000 in
theorem fX8_21 : FL "FoxRounds$World" 21 8 1 1 9 := ⟨RX8, TX8, ck_X8, lt_of 233 rfl rfl, by decide, rfl⟩
set_option maxRecDepth 100000 in
theorem fX8_28 : FL "FoxRounds$World" 28 8 2 1 9 := ⟨RX8, TX8, ck_X8, lt_of 235 rfl rfl, by decide, rfl⟩
set_option maxRecDepth 100000 in
theorem fX8_32 : FL "FoxRounds$World" 32 8 3 1 9 := ⟨RX8, TX8, ck_X8, lt_of 237 rfl rfl, by decide, rfl⟩
set_option maxRecDepth 100000 in
theorem fX8_36 : FL "FoxRounds$World" 36 8 4 0 9 := ⟨RX8, TX8, ck_X8, lt_of 239 rfl rfl, by decide, rfl⟩
set_option maxRecDepth 100000 in
theorem fX8_40 : FL "FoxRounds$World" 40 8 5 1 9 := ⟨RX8, TX8, ck_X8, lt_of 241 rfl rfl, by decide, rfl⟩
set_option maxRecDepth 100000 in
theorem fX8_44 : FL "FoxRounds$World" 44 8 6 0 9 := ⟨RX8, TX8, ck_X8, lt_of 243 rfl rfl, by decide, rfl⟩
set_option maxRecDepth 100000 in
theorem fX8_47 : FL "FoxRounds$World" 47 8 7 1 9 := ⟨RX8, TX8, ck_X8, lt_of 245 rfl rfl, by decide, rfl⟩
set_option maxRecDepth 100000 in
theorem fX8_50 : FL "FoxRounds$World" 50 8 8 0 9 := ⟨RX8, TX8, ck_X8, lt_of 247 rfl rfl, by decide, rfl⟩
set_option maxRecDepth 100000 in
theorem fX8_70 : FL "FoxRounds$World" 70 1 0 1 9 := ⟨RX1, TX1, ck_X1, lt_of 117 rfl rfl, by decide, rfl⟩
set_option maxRecDepth 100000 in
theorem lX8_11 : LK "FoxRounds$World" 11 yX1_init cX1_init 1 none 0 ∧ Cond.instanceMethod yX1_init ∈ LT := ⟨⟨lt_of 104 rfl rfl, lt_of 72 rfl rfl, lt_of 106 rfl rfl, by decide +kernel, by decide +kernel, by decide +kernel⟩, lt_of 105 rfl rfl⟩
set_option maxRecDepth 100000 in
theorem lX8_20 : ("FoxRounds$World", 20, yX2_init) ∈ NWm ∧ Cond.initialized yX2_init.cls ∈ LT ∧ Cond.code yX2_init cX2_init 1 none ∈ LT ∧ Cond.instanceMethod yX2_init ∈ LT := ⟨by decide +kernel, lt_of 74 rfl rfl, lt_of 164 rfl rfl, lt_of 163 rfl rfl⟩
set_option maxRecDepth 100000 in
theorem lX8_27 : ("FoxRounds$World", 27, yX6_init) ∈ NWm ∧ Cond.initialized yX6_init.cls ∈ LT ∧ Cond.code yX6_init cX6_init 1 none ∈ LT ∧ Cond.instanceMethod yX6_init ∈ LT := ⟨by decide +kernel, lt_of 76 rfl rfl, lt_of 209 rfl rfl, lt_of 208 rfl rfl⟩
set_option maxRecDepth 100000 in
theorem lX8_53 : LKv "FoxRounds$World" 53 yX1_copyFrom cX1_copyFrom 3 none 1 := ⟨⟨lt_of 1005 rfl rfl, lt_of 72 rfl rfl, lt_of 794 rfl rfl, by decide +kernel, by decide +kernel, by decide +kernel⟩, lt_of 792 rfl rfl, lt_of 793 rfl rfl⟩
set_option maxRecDepth 100000 in
theorem lX8_57 : LKv "FoxRounds$World" 57 yX2_copyFrom cX2_copyFrom 2 none 1 := ⟨⟨lt_of 1006 rfl rfl, lt_of 74 rfl rfl, lt_of 1009 rfl rfl, by decide +kernel, by decide +kernel, by decide +kernel⟩, lt_of 1007 rfl rfl, lt_of 1008 rfl rfl⟩
set_option maxRecDepth 100000 in
theorem lX8_60 : LKv "FoxRounds$World" 60 yX6_copyFrom cX6_copyFrom 2 none 1 := ⟨⟨lt_of 1011 rfl rfl, lt_of 76 rfl rfl, lt_of 1014 rfl rfl, by decide +kernel, by decide +kernel, by decide +kernel⟩, lt_of 1012 rfl rfl, lt_of 1013 rfl rfl⟩
set_option maxRecDepth 100000 in
theorem pX8_12 : FP "FoxRounds$World" 12 8 0 1 9 true (.object "FoxRounds$House") := ⟨RX8, TX8, ck_X8, lt_of 231 rfl rfl, by decide, rfl, rfl, by decide +kernel, fun q => by first | rfl | cases q⟩
set_option maxRecDepth 100000 in
theorem pX8_21 : FP "FoxRounds$World" 21 8 1 1 9 true (.object "FoxRounds$Laws") := ⟨RX8, TX8, ck_X8, lt_of 233 rfl rfl, by decide, rfl, rfl, by decide +kernel, fun q => by first | rfl | cases q⟩
set_option maxRecDepth 100000 in
theorem pX8_28 : FP "FoxRounds$World" 28 8 2 1 9 true (.object "FoxRounds$Village") := ⟨RX8, TX8, ck_X8, lt_of 235 rfl rfl, by decide, rfl, rfl, by decide +kernel, fun q => by first | rfl | cases q⟩
set_option maxRecDepth 100000 in
theorem pX8_32 : FP "FoxRounds$World" 32 8 3 1 9 true (.array .byte) := ⟨RX8, TX8, ck_X8, lt_of 237 rfl rfl, by decide, rfl, rfl, by decide +kernel, fun q => by first | rfl | cases q⟩
set_option maxRecDepth 100000 in
theorem pX8_36 : FP "FoxRounds$World" 36 8 4 0 9 false .int := ⟨RX8, TX8, ck_X8, lt_of 239 rfl rfl, by decide, rfl, rfl, by decide +kernel, fun q => by first | rfl | cases q⟩
set_option maxRecDepth 100000 in
theorem pX8_40 : FP "FoxRounds$World" 40 8 5 1 9 true (.array .int) := ⟨RX8, TX8, ck_X8, lt_of 241 rfl rfl, by decide, rfl, rfl, by decide +kernel, fun q => by first | rfl | cases q⟩
set_option maxRecDepth 100000 in
theorem pX8_44 : FP "FoxRounds$World" 44 8 6 0 9 false .int := ⟨RX8, TX8, ck_X8, lt_of 243 rfl rfl, by decide, rfl, rfl, by decide +kernel, fun q => by first | rfl | cases q⟩
set_option maxRecDepth 100000 in
theorem pX8_47 : FP "FoxRounds$World" 47 8 7 1 9 true (.array .int) := ⟨RX8, TX8, ck_X8, lt_of 245 rfl rfl, by decide, rfl, rfl, by decide +kernel, fun q => by first | rfl | cases q⟩
set_option maxRecDepth 100000 in
theorem pX8_50 : FP "FoxRounds$World" 50 8 8 0 9 false .int := ⟨RX8, TX8, ck_X8, lt_of 247 rfl rfl, by decide, rfl, rfl, by decide +kernel, fun q => by first | rfl | cases q⟩
set_option maxRecDepth 100000 in
theorem fX9_10 : FL "FoxRounds" 10 9 0 1 8 := ⟨RX9, TX9, ck_X9, lt_of 392 rfl rfl, by decide, rfl⟩
set_option maxRecDepth 100000 in
theorem fX9_16 : FL "FoxRounds" 16 9 1 1 8 := ⟨RX9, TX9, ck_X9, lt_of 393 rfl rfl, by decide, rfl⟩
set_option maxRecDepth 100000 in
theorem fX9_19 : FL "FoxRounds" 19 9 2 0 8 := ⟨RX9, TX9, ck_X9, lt_of 394 rfl rfl, by decide, rfl⟩
set_option maxRecDepth 100000 in
theorem fX9_25 : FL "FoxRounds" 25 8 0 1 9 := ⟨RX8, TX8, ck_X8, lt_of 232 rfl rfl, by decide, rfl⟩
set_option maxRecDepth 100000 in
theorem fX9_29 : FL "FoxRounds" 29 8 1 1 9 := ⟨RX8, TX8, ck_X8, lt_of 234 rfl rfl, by decide, rfl⟩
set_option maxRecDepth 100000 in
theorem fX9_36 : FL "FoxRounds" 36 9 3 1 8 := ⟨RX9, TX9, ck_X9, lt_of 395 rfl rfl, by decide, rfl⟩
set_option maxRecDepth 100000 in
theorem fX9_43 : FL "FoxRounds" 43 9 4 1 8 := ⟨RX9, TX9, ck_X9, lt_of 396 rfl rfl, by decide, rfl⟩
set_option maxRecDepth 100000 in
theorem fX9_50 : FL "FoxRounds" 50 9 5 1 8 := ⟨RX9, TX9, ck_X9, lt_of 397 rfl rfl, by decide, rfl⟩
set_option maxRecDepth 100000 in
theorem fX9_56 : FL "FoxRounds" 56 9 6 1 8 := ⟨RX9, TX9, ck_X9, lt_of 398 rfl rfl, by decide, rfl⟩
set_option maxRecDepth 100000 in
theorem fX9_60 : FL "FoxRounds" 60 9 7 1 8 := ⟨RX9, TX9, ck_X9, lt_of 399 rfl rfl, by decide, rfl⟩
set_option maxRecDepth 100000 in
theorem fX9_79 : FL "FoxRounds" 79 1 0 1 9 := ⟨RX1, TX1, ck_X1, lt_of 116 rfl rfl, by decide, rfl⟩
set_option maxRecDepth 100000 in
theorem fX9_87 : FL "FoxRounds" 87 1 4 0 9 := ⟨RX1, TX1, ck_X1, lt_of 128 rfl rfl, by decide, rfl⟩
set_option maxRecDepth 100000 in
theorem fX9_102 : FL "FoxRounds" 102 1 3 1 9 := ⟨RX1, TX1, ck_X1, lt_of 125 rfl rfl, by decide, rfl⟩
set_option maxRecDepth 100000 in
theorem fX9_113 : FL "FoxRounds" 113 4 1 0 3 := ⟨RX4, TX4, ck_X4, lt_of 380 rfl rfl, by decide, rfl⟩
set_option maxRecDepth 100000 in
theorem fX9_116 : FL "FoxRounds" 116 4 2 1 3 := ⟨RX4, TX4, ck_X4, lt_of 383 rfl rfl, by decide, rfl⟩
set_option maxRecDepth 100000 in
theorem fX9_123 : FL "FoxRounds" 123 1 6 0 9 := ⟨RX1, TX1, ck_X1, lt_of 134 rfl rfl, by decide, rfl⟩
set_option maxRecDepth 100000 in
theorem fX9_132 : FL "FoxRounds" 132 1 5 1 9 := ⟨RX1, TX1, ck_X1, lt_of 132 rfl rfl, by decide, rfl⟩
set_option maxRecDepth 100000 in
theorem fX9_139 : FL "FoxRounds" 139 8 4 0 9 := ⟨RX8, TX8, ck_X8, lt_of 240 rfl rfl, by decide, rfl⟩
set_option maxRecDepth 100000 in
theorem fX9_142 : FL "FoxRounds" 142 8 3 1 9 := ⟨RX8, TX8, ck_X8, lt_of 238 rfl rfl, by decide, rfl⟩
set_option maxRecDepth 100000 in
theorem fX9_160 : FL "FoxRounds" 160 3 0 1 10 := ⟨RX3, TX3, ck_X3, lt_of 315 rfl rfl, by decide, rfl⟩
set_option maxRecDepth 100000 in
theorem fX9_194 : FL "FoxRounds" 194 1 2 0 9 := ⟨RX1, TX1, ck_X1, lt_of 123 rfl rfl, by decide, rfl⟩
set_option maxRecDepth 100000 in
theorem fX9_203 : FL "FoxRounds" 203 1 7 0 9 := ⟨RX1, TX1, ck_X1, lt_of 138 rfl rfl, by decide, rfl⟩
set_option maxRecDepth 100000 in
theorem fX9_210 : FL "FoxRounds" 210 0 4 0 8 := ⟨RX0, TX0, ck_X0, lt_of 283 rfl rfl, by decide, rfl⟩
set_option maxRecDepth 100000 in
theorem fX9_213 : FL "FoxRounds" 213 0 3 0 8 := ⟨RX0, TX0, ck_X0, lt_of 281 rfl rfl, by decide, rfl⟩
set_option maxRecDepth 100000 in
theorem fX9_222 : FL "FoxRounds" 222 0 5 1 8 := ⟨RX0, TX0, ck_X0, lt_of 285 rfl rfl, by decide, rfl⟩
set_option maxRecDepth 100000 in
theorem fX9_225 : FL "FoxRounds" 225 8 7 1 9 := ⟨RX8, TX8, ck_X8, lt_of 246 rfl rfl, by decide, rfl⟩
set_option maxRecDepth 100000 in
theorem fX9_243 : FL "FoxRounds" 243 8 2 1 9 := ⟨RX8, TX8, ck_X8, lt_of 236 rfl rfl, by decide, rfl⟩
set_option maxRecDepth 100000 in
theorem fX9_247 : FL "FoxRounds" 247 6 0 1 5 := ⟨RX6, TX6, ck_X6, lt_of 212 rfl rfl, by decide, rfl⟩
set_option maxRecDepth 100000 in
theorem fX9_252 : FL "FoxRounds" 252 6 1 1 5 := ⟨RX6, TX6, ck_X6, lt_of 214 rfl rfl, by decide, rfl⟩
set_option maxRecDepth 100000 in
theorem fX9_255 : FL "FoxRounds" 255 6 2 1 5 := ⟨RX6, TX6, ck_X6, lt_of 216 rfl rfl, by decide, rfl⟩
set_option maxRecDepth 100000 in
theorem fX9_261 : FL "FoxRounds" 261 6 3 0 5 := ⟨RX6, TX6, ck_X6, lt_of 218 rfl rfl, by decide, rfl⟩
set_option maxRecDepth 100000 in
theorem fX9_275 : FL "FoxRounds" 275 8 8 0 9 := ⟨RX8, TX8, ck_X8, lt_of 248 rfl rfl, by decide, rfl⟩
set_option maxRecDepth 100000 in
theorem fX9_281 : FL "FoxRounds" 281 7 1 0 5 := ⟨RX7, TX7, ck_X7, lt_of 355 rfl rfl, by decide, rfl⟩
set_option maxRecDepth 100000 in
theorem fX9_284 : FL "FoxRounds" 284 7 0 1 5 := ⟨RX7, TX7, ck_X7, lt_of 353 rfl rfl, by decide, rfl⟩
set_option maxRecDepth 100000 in
theorem fX9_300 : FL "FoxRounds" 300 4 0 0 3 := ⟨RX4, TX4, ck_X4, lt_of 378 rfl rfl, by decide, rfl⟩
set_option maxRecDepth 100000 in
theorem fX9_315 : FL "FoxRounds" 315 1 1 0 9 := ⟨RX1, TX1, ck_X1, lt_of 120 rfl rfl, by decide, rfl⟩
set_option maxRecDepth 100000 in
theorem fX9_318 : FL "FoxRounds" 318 8 6 0 9 := ⟨RX8, TX8, ck_X8, lt_of 244 rfl rfl, by decide, rfl⟩
set_option maxRecDepth 100000 in
theorem fX9_321 : FL "FoxRounds" 321 8 5 1 9 := ⟨RX8, TX8, ck_X8, lt_of 242 rfl rfl, by decide, rfl⟩
set_option maxRecDepth 100000 in
theorem sX9_69 : Cond.fieldLink "FoxRounds" 69 "FoxRounds" (stN 1) "[I" ∈ LT := lt_of 424 rfl rfl
set_option maxRecDepth 100000 in
theorem sX9_72 : Cond.fieldLink "FoxRounds" 72 "FoxRounds" (stN 2) "[I" ∈ LT := lt_of 426 rfl rfl
set_option maxRecDepth 100000 in
theorem sX9_329 : Cond.fieldLink "FoxRounds" 329 "FoxRounds" (stN 0) "[I" ∈ LT := lt_of 488 rfl rfl
set_option maxRecDepth 100000 in
theorem lX9_9 : LK "FoxRounds" 9 yX8_init cX8_init 2 none 0 ∧ Cond.instanceMethod yX8_init ∈ LT := ⟨⟨lt_of 98 rfl rfl, lt_of 71 rfl rfl, lt_of 100 rfl rfl, by decide +kernel, by decide +kernel, by decide +kernel⟩, lt_of 99 rfl rfl⟩
set_option maxRecDepth 100000 in
theorem lX9_33 : LK "FoxRounds" 33 yX0_init cX0_init 3 none 2 ∧ Cond.instanceMethod yX0_init ∈ LT := ⟨⟨lt_of 271 rfl rfl, lt_of 77 rfl rfl, lt_of 273 rfl rfl, by decide +kernel, by decide +kernel, by decide +kernel⟩, lt_of 272 rfl rfl⟩
set_option maxRecDepth 100000 in
theorem lX9_42 : ("FoxRounds", 42, yX3_init) ∈ NWm ∧ Cond.initialized yX3_init.cls ∈ LT ∧ Cond.code yX3_init cX3_init 1 none ∈ LT ∧ Cond.instanceMethod yX3_init ∈ LT := ⟨by decide +kernel, lt_of 78 rfl rfl, lt_of 309 rfl rfl, lt_of 308 rfl rfl⟩
set_option maxRecDepth 100000 in
theorem lX9_49 : ("FoxRounds", 49, yX7_init) ∈ NWm ∧ Cond.initialized yX7_init.cls ∈ LT ∧ Cond.code yX7_init cX7_init 1 none ∈ LT ∧ Cond.instanceMethod yX7_init ∈ LT := ⟨by decide +kernel, lt_of 79 rfl rfl, lt_of 350 rfl rfl, lt_of 349 rfl rfl⟩
set_option maxRecDepth 100000 in
theorem lX9_64 : ("FoxRounds", 64, yX4_init) ∈ NWm ∧ Cond.initialized yX4_init.cls ∈ LT ∧ Cond.code yX4_init cX4_init 1 none ∈ LT ∧ Cond.instanceMethod yX4_init ∈ LT := ⟨by decide +kernel, lt_of 80 rfl rfl, lt_of 375 rfl rfl, lt_of 374 rfl rfl⟩
set_option maxRecDepth 100000 in
theorem lX9_65 : LKs "FoxRounds" 65 yX9_within cX9_within 3 (some .boolean) 3 := ⟨⟨lt_of 421 rfl rfl, lt_of 70 rfl rfl, lt_of 423 rfl rfl, by decide +kernel, by decide +kernel, by decide +kernel⟩, lt_of 422 rfl rfl⟩
set_option maxRecDepth 100000 in
theorem lX9_84 : LKs "FoxRounds" 84 yX9_isWay cX9_isWay 3 (some .boolean) 3 := ⟨⟨lt_of 437 rfl rfl, lt_of 70 rfl rfl, lt_of 439 rfl rfl, by decide +kernel, by decide +kernel, by decide +kernel⟩, lt_of 438 rfl rfl⟩
set_option maxRecDepth 100000 in
theorem lX9_106 : LKs "FoxRounds" 106 yX9_isUnder cX9_isUnder 4 (some .boolean) 2 := ⟨⟨lt_of 485 rfl rfl, lt_of 70 rfl rfl, lt_of 487 rfl rfl, by decide +kernel, by decide +kernel, by decide +kernel⟩, lt_of 486 rfl rfl⟩
set_option maxRecDepth 100000 in
theorem lX9_146 : LKs "FoxRounds" 146 yX9_namesOf cX9_namesOf 1 (some (FieldType.object "java/lang/String")) 1 := ⟨⟨lt_of 560 rfl rfl, lt_of 70 rfl rfl, lt_of 562 rfl rfl, by decide +kernel, by decide +kernel, by decide +kernel⟩, lt_of 561 rfl rfl⟩
set_option maxRecDepth 100000 in
theorem lX9_231 : LKs "FoxRounds" 231 yX9_commonDivisor cX9_commonDivisor 6 (some .int) 2 := ⟨⟨lt_of 880 rfl rfl, lt_of 70 rfl rfl, lt_of 882 rfl rfl, by decide +kernel, by decide +kernel, by decide +kernel⟩, lt_of 881 rfl rfl⟩
set_option maxRecDepth 100000 in
theorem lX9_239 : LKs "FoxRounds" 239 yX9_power cX9_power 5 (some .long) 2 := ⟨⟨lt_of 883 rfl rfl, lt_of 70 rfl rfl, lt_of 885 rfl rfl, by decide +kernel, by decide +kernel, by decide +kernel⟩, lt_of 884 rfl rfl⟩
set_option maxRecDepth 100000 in
theorem lX9_287 : LKs "FoxRounds" 287 yX9_isSheet cX9_isSheet 1 (some .boolean) 1 := ⟨⟨lt_of 498 rfl rfl, lt_of 70 rfl rfl, lt_of 500 rfl rfl, by decide +kernel, by decide +kernel, by decide +kernel⟩, lt_of 499 rfl rfl⟩
set_option maxRecDepth 100000 in
theorem lX9_75 : LKv "FoxRounds" 75 yX9_error cX9_error 2 (some .int) 1 := ⟨⟨lt_of 428 rfl rfl, lt_of 70 rfl rfl, lt_of 431 rfl rfl, by decide +kernel, by decide +kernel, by decide +kernel⟩, lt_of 430 rfl rfl, lt_of 0 rfl rfl⟩
set_option maxRecDepth 100000 in
theorem lX9_90 : LKv "FoxRounds" 90 yX1_addWay cX1_addWay 5 (some .int) 3 := ⟨⟨lt_of 440 rfl rfl, lt_of 72 rfl rfl, lt_of 443 rfl rfl, by decide +kernel, by decide +kernel, by decide +kernel⟩, lt_of 441 rfl rfl, lt_of 442 rfl rfl⟩
set_option maxRecDepth 100000 in
theorem lX9_94 : LKv "FoxRounds" 94 yX1_hasWay cX1_hasWay 2 (some .boolean) 1 := ⟨⟨lt_of 448 rfl rfl, lt_of 72 rfl rfl, lt_of 451 rfl rfl, by decide +kernel, by decide +kernel, by decide +kernel⟩, lt_of 449 rfl rfl, lt_of 450 rfl rfl⟩
set_option maxRecDepth 100000 in
theorem lX9_98 : LKv "FoxRounds" 98 yX1_wayPart cX1_wayPart 3 (some .int) 2 := ⟨⟨lt_of 453 rfl rfl, lt_of 72 rfl rfl, lt_of 456 rfl rfl, by decide +kernel, by decide +kernel, by decide +kernel⟩, lt_of 454 rfl rfl, lt_of 455 rfl rfl⟩
set_option maxRecDepth 100000 in
theorem lX9_110 : LKv "FoxRounds" 110 yX9_sheetError cX9_sheetError 2 (some .int) 1 := ⟨⟨lt_of 494 rfl rfl, lt_of 70 rfl rfl, lt_of 497 rfl rfl, by decide +kernel, by decide +kernel, by decide +kernel⟩, lt_of 496 rfl rfl, lt_of 6 rfl rfl⟩
set_option maxRecDepth 100000 in
theorem lX9_119 : LKv "FoxRounds" 119 yX1_mendWay cX1_mendWay 2 none 1 := ⟨⟨lt_of 509 rfl rfl, lt_of 72 rfl rfl, lt_of 512 rfl rfl, by decide +kernel, by decide +kernel, by decide +kernel⟩, lt_of 510 rfl rfl, lt_of 511 rfl rfl⟩
set_option maxRecDepth 100000 in
theorem lX9_126 : LKv "FoxRounds" 126 yX1_addThing cX1_addThing 4 (some .int) 2 := ⟨⟨lt_of 520 rfl rfl, lt_of 72 rfl rfl, lt_of 523 rfl rfl, by decide +kernel, by decide +kernel, by decide +kernel⟩, lt_of 521 rfl rfl, lt_of 522 rfl rfl⟩
set_option maxRecDepth 100000 in
theorem lX9_129 : LKv "FoxRounds" 129 yX1_hasThing cX1_hasThing 2 (some .boolean) 1 := ⟨⟨lt_of 528 rfl rfl, lt_of 72 rfl rfl, lt_of 531 rfl rfl, by decide +kernel, by decide +kernel, by decide +kernel⟩, lt_of 529 rfl rfl, lt_of 530 rfl rfl⟩
set_option maxRecDepth 100000 in
theorem lX9_135 : LKv "FoxRounds" 135 yX1_boldness cX1_boldness 1 (some .int) 0 := ⟨⟨lt_of 544 rfl rfl, lt_of 72 rfl rfl, lt_of 547 rfl rfl, by decide +kernel, by decide +kernel, by decide +kernel⟩, lt_of 545 rfl rfl, lt_of 546 rfl rfl⟩
set_option maxRecDepth 100000 in
theorem lX9_150 : LKv "FoxRounds" 150 yX3_faultOf cX3_faultOf 5 (some .int) 3 := ⟨⟨lt_of 566 rfl rfl, lt_of 78 rfl rfl, lt_of 569 rfl rfl, by decide +kernel, by decide +kernel, by decide +kernel⟩, lt_of 567 rfl rfl, lt_of 568 rfl rfl⟩
set_option maxRecDepth 100000 in
theorem lX9_154 : LKv "FoxRounds" 154 yX2_textOf cX2_textOf 2 (some (FieldType.object "FoxRounds$Text")) 1 := ⟨⟨lt_of 703 rfl rfl, lt_of 74 rfl rfl, lt_of 706 rfl rfl, by decide +kernel, by decide +kernel, by decide +kernel⟩, lt_of 704 rfl rfl, lt_of 705 rfl rfl⟩
set_option maxRecDepth 100000 in
theorem lX9_164 : LKv "FoxRounds" 164 yX5_copyFrom cX5_copyFrom 2 none 1 := ⟨⟨lt_of 707 rfl rfl, lt_of 75 rfl rfl, lt_of 710 rfl rfl, by decide +kernel, by decide +kernel, by decide +kernel⟩, lt_of 708 rfl rfl, lt_of 709 rfl rfl⟩
set_option maxRecDepth 100000 in
theorem lX9_170 : LKv "FoxRounds" 170 yX2_enters cX2_enters 6 (some .int) 5 := ⟨⟨lt_of 716 rfl rfl, lt_of 74 rfl rfl, lt_of 719 rfl rfl, by decide +kernel, by decide +kernel, by decide +kernel⟩, lt_of 717 rfl rfl, lt_of 718 rfl rfl⟩
set_option maxRecDepth 100000 in
theorem lX9_174 : LKv "FoxRounds" 174 yX2_kills cX2_kills 4 (some .int) 3 := ⟨⟨lt_of 727 rfl rfl, lt_of 74 rfl rfl, lt_of 730 rfl rfl, by decide +kernel, by decide +kernel, by decide +kernel⟩, lt_of 728 rfl rfl, lt_of 729 rfl rfl⟩
set_option maxRecDepth 100000 in
theorem lX9_177 : LKv "FoxRounds" 177 yX2_stays cX2_stays 3 (some .int) 2 := ⟨⟨lt_of 736 rfl rfl, lt_of 74 rfl rfl, lt_of 739 rfl rfl, by decide +kernel, by decide +kernel, by decide +kernel⟩, lt_of 737 rfl rfl, lt_of 738 rfl rfl⟩
set_option maxRecDepth 100000 in
theorem lX9_180 : LKv "FoxRounds" 180 yX9_nightsError cX9_nightsError 2 (some .int) 1 := ⟨⟨lt_of 744 rfl rfl, lt_of 70 rfl rfl, lt_of 747 rfl rfl, by decide +kernel, by decide +kernel, by decide +kernel⟩, lt_of 746 rfl rfl, lt_of 16 rfl rfl⟩
set_option maxRecDepth 100000 in
theorem lX9_183 : LKv "FoxRounds" 183 yX1_passNight cX1_passNight 4 none 1 := ⟨⟨lt_of 748 rfl rfl, lt_of 72 rfl rfl, lt_of 751 rfl rfl, by decide +kernel, by decide +kernel, by decide +kernel⟩, lt_of 749 rfl rfl, lt_of 750 rfl rfl⟩
set_option maxRecDepth 100000 in
theorem lX9_187 : LKv "FoxRounds" 187 yX8_draw cX8_draw 1 (some .int) 0 := ⟨⟨lt_of 778 rfl rfl, lt_of 71 rfl rfl, lt_of 781 rfl rfl, by decide +kernel, by decide +kernel, by decide +kernel⟩, lt_of 779 rfl rfl, lt_of 780 rfl rfl⟩
set_option maxRecDepth 100000 in
theorem lX9_190 : LKv "FoxRounds" 190 yX0_goOn cX0_goOn 3 (some (FieldType.object "FoxRounds$House")) 1 := ⟨⟨lt_of 787 rfl rfl, lt_of 77 rfl rfl, lt_of 790 rfl rfl, by decide +kernel, by decide +kernel, by decide +kernel⟩, lt_of 788 rfl rfl, lt_of 789 rfl rfl⟩
set_option maxRecDepth 100000 in
theorem lX9_197 : LKv "FoxRounds" 197 yX1_fear cX1_fear 3 (some .int) 0 := ⟨⟨lt_of 796 rfl rfl, lt_of 72 rfl rfl, lt_of 551 rfl rfl, by decide +kernel, by decide +kernel, by decide +kernel⟩, lt_of 549 rfl rfl, lt_of 550 rfl rfl⟩
set_option maxRecDepth 100000 in
theorem lX9_200 : LKv "FoxRounds" 200 yX0_firstLoss cX0_firstLoss 3 (some .int) 1 := ⟨⟨lt_of 805 rfl rfl, lt_of 77 rfl rfl, lt_of 808 rfl rfl, by decide +kernel, by decide +kernel, by decide +kernel⟩, lt_of 806 rfl rfl, lt_of 807 rfl rfl⟩
set_option maxRecDepth 100000 in
theorem lX9_206 : LKv "FoxRounds" 206 yX0_chooseMends cX0_chooseMends 7 none 2 := ⟨⟨lt_of 817 rfl rfl, lt_of 77 rfl rfl, lt_of 820 rfl rfl, by decide +kernel, by decide +kernel, by decide +kernel⟩, lt_of 818 rfl rfl, lt_of 819 rfl rfl⟩
set_option maxRecDepth 100000 in
theorem lX9_216 : LKv "FoxRounds" 216 yX1_idleThings cX1_idleThings 3 (some .int) 0 := ⟨⟨lt_of 834 rfl rfl, lt_of 72 rfl rfl, lt_of 837 rfl rfl, by decide +kernel, by decide +kernel, by decide +kernel⟩, lt_of 835 rfl rfl, lt_of 836 rfl rfl⟩
set_option maxRecDepth 100000 in
theorem lX9_219 : LKv "FoxRounds" 219 yX0_chooseHangs cX0_chooseHangs 5 none 1 := ⟨⟨lt_of 838 rfl rfl, lt_of 77 rfl rfl, lt_of 841 rfl rfl, by decide +kernel, by decide +kernel, by decide +kernel⟩, lt_of 839 rfl rfl, lt_of 840 rfl rfl⟩
set_option maxRecDepth 100000 in
theorem lX9_228 : LKv "FoxRounds" 228 yX8_harmAt cX8_harmAt 4 (some .int) 1 := ⟨⟨lt_of 868 rfl rfl, lt_of 71 rfl rfl, lt_of 871 rfl rfl, by decide +kernel, by decide +kernel, by decide +kernel⟩, lt_of 869 rfl rfl, lt_of 870 rfl rfl⟩
set_option maxRecDepth 100000 in
theorem lX9_258 : LKv "FoxRounds" 258 yX6_settle cX6_settle 2 none 0 := ⟨⟨lt_of 894 rfl rfl, lt_of 76 rfl rfl, lt_of 897 rfl rfl, by decide +kernel, by decide +kernel, by decide +kernel⟩, lt_of 895 rfl rfl, lt_of 896 rfl rfl⟩
set_option maxRecDepth 100000 in
theorem lX9_264 : LKv "FoxRounds" 264 yX6_shutThen cX6_shutThen 3 (some .int) 0 := ⟨⟨lt_of 907 rfl rfl, lt_of 76 rfl rfl, lt_of 910 rfl rfl, by decide +kernel, by decide +kernel, by decide +kernel⟩, lt_of 908 rfl rfl, lt_of 909 rfl rfl⟩
set_option maxRecDepth 100000 in
theorem lX9_267 : LKv "FoxRounds" 267 yX0_offBy cX0_offBy 7 (some .int) 2 := ⟨⟨lt_of 915 rfl rfl, lt_of 77 rfl rfl, lt_of 918 rfl rfl, by decide +kernel, by decide +kernel, by decide +kernel⟩, lt_of 916 rfl rfl, lt_of 917 rfl rfl⟩
set_option maxRecDepth 100000 in
theorem lX9_271 : LKv "FoxRounds" 271 yX0_hungerBy cX0_hungerBy 6 (some .int) 1 := ⟨⟨lt_of 930 rfl rfl, lt_of 77 rfl rfl, lt_of 933 rfl rfl, by decide +kernel, by decide +kernel, by decide +kernel⟩, lt_of 931 rfl rfl, lt_of 932 rfl rfl⟩
set_option maxRecDepth 100000 in
theorem lX9_278 : LKv "FoxRounds" 278 yX7_speak cX7_speak 6 (some .int) 5 := ⟨⟨lt_of 943 rfl rfl, lt_of 79 rfl rfl, lt_of 946 rfl rfl, by decide +kernel, by decide +kernel, by decide +kernel⟩, lt_of 944 rfl rfl, lt_of 945 rfl rfl⟩
set_option maxRecDepth 100000 in
theorem lX9_290 : LKv "FoxRounds" 290 yX4_renew cX4_renew 4 none 2 := ⟨⟨lt_of 975 rfl rfl, lt_of 80 rfl rfl, lt_of 978 rfl rfl, by decide +kernel, by decide +kernel, by decide +kernel⟩, lt_of 976 rfl rfl, lt_of 977 rfl rfl⟩
set_option maxRecDepth 100000 in
theorem lX9_293 : LKv "FoxRounds" 293 yX4_change cX4_change 3 none 2 := ⟨⟨lt_of 984 rfl rfl, lt_of 80 rfl rfl, lt_of 987 rfl rfl, by decide +kernel, by decide +kernel, by decide +kernel⟩, lt_of 985 rfl rfl, lt_of 986 rfl rfl⟩
set_option maxRecDepth 100000 in
theorem lX9_296 : LKv "FoxRounds" 296 yX4_isMissing cX4_isMissing 1 (some .boolean) 0 := ⟨⟨lt_of 501 rfl rfl, lt_of 80 rfl rfl, lt_of 504 rfl rfl, by decide +kernel, by decide +kernel, by decide +kernel⟩, lt_of 502 rfl rfl, lt_of 503 rfl rfl⟩
set_option maxRecDepth 100000 in
theorem lX9_303 : LKv "FoxRounds" 303 yX4_holds cX4_holds 3 (some .boolean) 2 := ⟨⟨lt_of 992 rfl rfl, lt_of 80 rfl rfl, lt_of 995 rfl rfl, by decide +kernel, by decide +kernel, by decide +kernel⟩, lt_of 993 rfl rfl, lt_of 994 rfl rfl⟩
set_option maxRecDepth 100000 in
theorem lX9_312 : LKv "FoxRounds" 312 yX8_copyFrom cX8_copyFrom 2 none 1 := ⟨⟨lt_of 1001 rfl rfl, lt_of 71 rfl rfl, lt_of 1004 rfl rfl, by decide +kernel, by decide +kernel, by decide +kernel⟩, lt_of 1002 rfl rfl, lt_of 1003 rfl rfl⟩
set_option maxRecDepth 100000 in
theorem lX9_324 : LKv "FoxRounds" 324 yX0_firstUnlike cX0_firstUnlike 4 (some .int) 2 := ⟨⟨lt_of 1028 rfl rfl, lt_of 77 rfl rfl, lt_of 1031 rfl rfl, by decide +kernel, by decide +kernel, by decide +kernel⟩, lt_of 1029 rfl rfl, lt_of 1030 rfl rfl⟩
set_option maxRecDepth 100000 in
theorem pX9_10 : FP "FoxRounds" 10 9 0 1 8 true (.object "FoxRounds$World") := ⟨RX9, TX9, ck_X9, lt_of 392 rfl rfl, by decide, rfl, rfl, by decide +kernel, fun q => by first | rfl | cases q⟩
set_option maxRecDepth 100000 in
theorem pX9_16 : FP "FoxRounds" 16 9 1 1 8 true (.object "FoxRounds$World") := ⟨RX9, TX9, ck_X9, lt_of 393 rfl rfl, by decide, rfl, rfl, by decide +kernel, fun q => by first | rfl | cases q⟩
set_option maxRecDepth 100000 in
theorem pX9_19 : FP "FoxRounds" 19 9 2 0 8 false .int := ⟨RX9, TX9, ck_X9, lt_of 394 rfl rfl, by decide, rfl, rfl, by decide +kernel, fun q => by first | rfl | cases q⟩
set_option maxRecDepth 100000 in
theorem pX9_36 : FP "FoxRounds" 36 9 3 1 8 true (.object "FoxRounds$Ahead") := ⟨RX9, TX9, ck_X9, lt_of 395 rfl rfl, by decide, rfl, rfl, by decide +kernel, fun q => by first | rfl | cases q⟩
set_option maxRecDepth 100000 in
theorem pX9_43 : FP "FoxRounds" 43 9 4 1 8 true (.object "FoxRounds$Reader") := ⟨RX9, TX9, ck_X9, lt_of 396 rfl rfl, by decide, rfl, rfl, by decide +kernel, fun q => by first | rfl | cases q⟩
set_option maxRecDepth 100000 in
theorem pX9_50 : FP "FoxRounds" 50 9 5 1 8 true (.object "FoxRounds$Voices") := ⟨RX9, TX9, ck_X9, lt_of 397 rfl rfl, by decide, rfl, rfl, by decide +kernel, fun q => by first | rfl | cases q⟩
set_option maxRecDepth 100000 in
theorem pX9_56 : FP "FoxRounds" 56 9 6 1 8 true (.array (.object "FoxRounds$Sheet")) := ⟨RX9, TX9, ck_X9, lt_of 398 rfl rfl, by decide, rfl, rfl, by decide +kernel, fun q => by first | rfl | cases q⟩
set_option maxRecDepth 100000 in
theorem pX9_60 : FP "FoxRounds" 60 9 7 1 8 true (.array .int) := ⟨RX9, TX9, ck_X9, lt_of 399 rfl rfl, by decide, rfl, rfl, by decide +kernel, fun q => by first | rfl | cases q⟩
set_option maxRecDepth 100000 in
theorem pX9_139 : FP "FoxRounds" 139 8 4 0 9 false .int := ⟨RX8, TX8, ck_X8, lt_of 240 rfl rfl, by decide, rfl, rfl, by decide +kernel, fun q => by first | rfl | cases q⟩
set_option maxRecDepth 100000 in
theorem pX9_275 : FP "FoxRounds" 275 8 8 0 9 false .int := ⟨RX8, TX8, ck_X8, lt_of 248 rfl rfl, by decide, rfl, rfl, by decide +kernel, fun q => by first | rfl | cases q⟩
set_option maxRecDepth 100000 in
theorem pX9_318 : FP "FoxRounds" 318 8 6 0 9 false .int := ⟨RX8, TX8, ck_X8, lt_of 244 rfl rfl, by decide, rfl, rfl, by decide +kernel, fun q => by first | rfl | cases q⟩
set_option maxRecDepth 100000 in
theorem kX9_328 : Cond.constant "FoxRounds" 328 (-1000000000) ∈ LT := lt_of 432 rfl rfl
set_option maxRecDepth 100000 in
theorem kX8_69 : Cond.constant "FoxRounds$World" 69 (1103515245) ∈ LT := lt_of 782 rfl rfl
set_option maxRecDepth 100000 in
theorem kX10_50 : Cond.constant "FoxRoundsModel" 50 (-1000000000) ∈ LT := lt_of 1126 rfl rfl
set_option maxRecDepth 100000 in
theorem kX10_227 : Cond.constant "FoxRoundsModel" 227 (1103515245) ∈ LT := lt_of 1334 rfl rfl
set_option maxRecDepth 100000 in
theorem kX0_125 : Cond.constantLong "FoxRounds$Ahead" 125 (1000) ∈ LT := lt_of 922 rfl rfl
set_option maxRecDepth 100000 in
theorem kX10_111 : Cond.constantLong "FoxRoundsModel" 111 (8) ∈ LT := lt_of 1118 rfl rfl
set_option maxRecDepth 100000 in
theorem kX10_116 : Cond.constantLong "FoxRoundsModel" 116 (255) ∈ LT := lt_of 1127 rfl rfl
set_option maxRecDepth 100000 in
theorem kX10_118 : Cond.constantLong "FoxRoundsModel" 118 (2) ∈ LT := lt_of 1132 rfl rfl
set_option maxRecDepth 100000 in
theorem kX10_107 : Cond.constantLong "FoxRoundsModel" 107 (48) ∈ LT := lt_of 1177 rfl rfl
set_option maxRecDepth 100000 in
theorem kX10_109 : Cond.constantLong "FoxRoundsModel" 109 (57) ∈ LT := lt_of 1178 rfl rfl
set_option maxRecDepth 100000 in
theorem kX10_141 : Cond.constantLong "FoxRoundsModel" 141 (99) ∈ LT := lt_of 1209 rfl rfl
set_option maxRecDepth 100000 in
theorem kX10_143 : Cond.constantLong "FoxRoundsModel" 143 (4) ∈ LT := lt_of 1210 rfl rfl
set_option maxRecDepth 100000 in
theorem kX10_145 : Cond.constantLong "FoxRoundsModel" 145 (60) ∈ LT := lt_of 1211 rfl rfl
set_option maxRecDepth 100000 in
theorem kX10_147 : Cond.constantLong "FoxRoundsModel" 147 (900) ∈ LT := lt_of 1212 rfl rfl
set_option maxRecDepth 100000 in
theorem kX10_149 : Cond.constantLong "FoxRoundsModel" 149 (120) ∈ LT := lt_of 1213 rfl rfl
set_option maxRecDepth 100000 in
theorem kX10_151 : Cond.constantLong "FoxRoundsModel" 151 (-120) ∈ LT := lt_of 1214 rfl rfl
set_option maxRecDepth 100000 in
theorem kX10_153 : Cond.constantLong "FoxRoundsModel" 153 (240) ∈ LT := lt_of 1215 rfl rfl
set_option maxRecDepth 100000 in
theorem kX10_159 : Cond.constantLong "FoxRoundsModel" 159 (6) ∈ LT := lt_of 1223 rfl rfl
set_option maxRecDepth 100000 in
theorem kX10_161 : Cond.constantLong "FoxRoundsModel" 161 (9999) ∈ LT := lt_of 1224 rfl rfl
set_option maxRecDepth 100000 in
theorem kX10_181 : Cond.constantLong "FoxRoundsModel" 181 (9) ∈ LT := lt_of 1247 rfl rfl
set_option maxRecDepth 100000 in
theorem kX10_295 : Cond.constantLong "FoxRoundsModel" 295 (3) ∈ LT := lt_of 1262 rfl rfl
set_option maxRecDepth 100000 in
theorem kX10_193 : Cond.constantLong "FoxRoundsModel" 193 (30) ∈ LT := lt_of 1274 rfl rfl
set_option maxRecDepth 100000 in
theorem kX10_225 : Cond.constantLong "FoxRoundsModel" 225 (100) ∈ LT := lt_of 1333 rfl rfl
set_option maxRecDepth 100000 in
theorem kX10_235 : Cond.constantLong "FoxRoundsModel" 235 (5) ∈ LT := lt_of 1342 rfl rfl
set_option maxRecDepth 100000 in
theorem kX10_241 : Cond.constantLong "FoxRoundsModel" 241 (999) ∈ LT := lt_of 1366 rfl rfl
set_option maxRecDepth 100000 in
theorem kX10_247 : Cond.constantLong "FoxRoundsModel" 247 (11) ∈ LT := lt_of 1379 rfl rfl
set_option maxRecDepth 100000 in
theorem kX10_249 : Cond.constantLong "FoxRoundsModel" 249 (1439) ∈ LT := lt_of 1380 rfl rfl
set_option maxRecDepth 100000 in
theorem kX10_254 : Cond.constantLong "FoxRoundsModel" 254 (12) ∈ LT := lt_of 1397 rfl rfl
set_option maxRecDepth 100000 in
theorem kX10_260 : Cond.constantLong "FoxRoundsModel" 260 (1000) ∈ LT := lt_of 1421 rfl rfl
set_option maxRecDepth 100000 in
theorem kL_65 : Cond.constantLong "FoxRoundsLaw" 65 (4294967295) ∈ LT := lt_of 1501 rfl rfl
set_option maxRecDepth 100000 in
theorem jX9_234 : Cond.methodLink "FoxRounds" 234 Lib.Math.max.name ∈ LT := lt_of 735 rfl rfl
set_option maxRecDepth 100000 in
theorem jX9_306 : Cond.methodLink "FoxRounds" 306 arraycopyName ∈ LT := lt_of 996 rfl rfl
set_option maxRecDepth 100000 in
theorem jX9_332 : Cond.methodLink "FoxRounds" 332 Lib.Math.min.name ∈ LT := lt_of 734 rfl rfl
set_option maxRecDepth 100000 in
theorem jX0_82 : Cond.methodLink "FoxRounds$Ahead" 82 Lib.Math.min.name ∈ LT := lt_of 843 rfl rfl
set_option maxRecDepth 100000 in
theorem jX0_97 : Cond.methodLink "FoxRounds$Ahead" 97 arraycopyName ∈ LT := lt_of 855 rfl rfl
set_option maxRecDepth 100000 in
theorem jX0_106 : Cond.methodLink "FoxRounds$Ahead" 106 Lib.Math.max.name ∈ LT := lt_of 854 rfl rfl
set_option maxRecDepth 100000 in
theorem jX0_121 : Cond.methodLink "FoxRounds$Ahead" 121 Lib.MathLoose.abs_long.x ∈ LT := lt_of 919 rfl rfl
set_option maxRecDepth 100000 in
theorem jX0_127 : Cond.methodLink "FoxRounds$Ahead" 127 Lib.MathLoose.min_long.x ∈ LT := lt_of 923 rfl rfl
set_option maxRecDepth 100000 in
theorem jX1_45 : Cond.methodLink "FoxRounds$House" 45 arraycopyName ∈ LT := lt_of 112 rfl rfl
set_option maxRecDepth 100000 in
theorem jX1_59 : Cond.methodLink "FoxRounds$House" 59 Lib.Math.min.name ∈ LT := lt_of 513 rfl rfl
set_option maxRecDepth 100000 in
theorem jX1_89 : Cond.methodLink "FoxRounds$House" 89 Lib.Math.max.name ∈ LT := lt_of 772 rfl rfl
set_option maxRecDepth 100000 in
theorem jX3_54 : Cond.methodLink "FoxRounds$Reader" 54 Lib.Math.min.name ∈ LT := lt_of 570 rfl rfl
set_option maxRecDepth 100000 in
theorem jX3_108 : Cond.methodLink "FoxRounds$Reader" 108 Lib.Math.max.name ∈ LT := lt_of 702 rfl rfl
set_option maxRecDepth 100000 in
theorem jX4_22 : Cond.methodLink "FoxRounds$Sheet" 22 Lib.Math.min.name ∈ LT := lt_of 979 rfl rfl
set_option maxRecDepth 100000 in
theorem jX5_26 : Cond.methodLink "FoxRounds$Text" 26 arraycopyName ∈ LT := lt_of 711 rfl rfl
set_option maxRecDepth 100000 in
theorem jX6_28 : Cond.methodLink "FoxRounds$Village" 28 arraycopyName ∈ LT := lt_of 898 rfl rfl
set_option maxRecDepth 100000 in
theorem jX8_63 : Cond.methodLink "FoxRounds$World" 63 arraycopyName ∈ LT := lt_of 1015 rfl rfl
set_option maxRecDepth 100000 in
theorem jst_max : Cond.static Lib.Math.max.name ∈ LT := lt_of 620 rfl rfl
set_option maxRecDepth 100000 in
theorem jco_max : Cond.code Lib.Math.max.name Lib.Math.max.code 2 (some .int) ∈ LT := by first | exact lt_of 621 rfl rfl | exact lt_of 621 (by decide +kernel) rfl
set_option maxRecDepth 100000 in
theorem jst_min : Cond.static Lib.Math.min.name ∈ LT := lt_of 514 rfl rfl
set_option maxRecDepth 100000 in
theorem jco_min : Cond.code Lib.Math.min.name Lib.Math.min.code 2 (some .int) ∈ LT := by first | exact lt_of 515 rfl rfl | exact lt_of 515 (by decide +kernel) rfl
set_option maxRecDepth 100000 in
theorem jst_minL : Cond.static Lib.MathLoose.min_long.x ∈ LT := lt_of 924 rfl rfl
set_option maxRecDepth 100000 in
theorem jco_minL : Cond.code Lib.MathLoose.min_long.x Lib.MathLoose.min_long.code 4 (some .long) ∈ LT := by first | exact lt_of 925 rfl rfl | exact lt_of 925 (by decide +kernel) rfl
set_option maxRecDepth 100000 in
theorem jst_absL : Cond.static Lib.MathLoose.abs_long.x ∈ LT := lt_of 920 rfl rfl
set_option maxRecDepth 100000 in
theorem jco_absL : Cond.code Lib.MathLoose.abs_long.x Lib.MathLoose.abs_long.code 2 (some .long) ∈ LT := by first | exact lt_of 921 rfl rfl | exact lt_of 921 (by decide +kernel) rfl
set_option maxRecDepth 100000 in
theorem jin_math : Cond.initialized "java/lang/Math" ∈ LT := lt_of 82 rfl rfl
set_option maxRecDepth 100000 in
theorem jin_sys : Cond.initialized "java/lang/System" ∈ LT := lt_of 73 rfl rfl
set_option maxRecDepth 100000 in
theorem jst_copy : Cond.static arraycopyName ∈ LT := lt_of 113 rfl rfl
set_option maxRecDepth 100000 in
theorem jna_copy : Cond.native arraycopyName ∈ LT := lt_of 114 rfl rfl
