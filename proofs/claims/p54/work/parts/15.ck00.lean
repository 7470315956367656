/-! the check, part 0 -/
set_option maxRecDepth 100000 in
theorem ck_0 : k_0.all (fun q => chkE cX1_init 0 0 1 q) = true := by decide +kernel
set_option maxRecDepth 100000 in
theorem ck_1 : k_1.all (fun q => chkE cX1_clear 0 1 0 q) = true := by decide +kernel
set_option maxRecDepth 100000 in
theorem ck_2 : k_2.all (fun q => chkE cX1_takeFrom 0 2 0 q) = true := by decide +kernel
set_option maxRecDepth 100000 in
theorem ck_3 : k_3.all (fun q => chkE cX1_add 0 3 0 q) = true := by decide +kernel
set_option maxRecDepth 100000 in
theorem ck_4 : k_4.all (fun q => chkE cX1_sizeOf 0 4 0 q) = true := by decide +kernel
set_option maxRecDepth 100000 in
theorem ck_5 : k_5.all (fun q => chkE cX1_hitsOf 0 5 0 q) = true := by decide +kernel
set_option maxRecDepth 100000 in
theorem ck_6 : k_6.all (fun q => chkE cX1_totalSize 0 6 0 q) = true := by decide +kernel
set_option maxRecDepth 100000 in
theorem ck_7 : k_7.all (fun q => chkE cX1_totalHits 0 7 0 q) = true := by decide +kernel
set_option maxRecDepth 100000 in
theorem ck_8 : k_8.all (fun q => chkE cX1_totalError 0 8 0 q) = true := by decide +kernel
set_option maxRecDepth 100000 in
theorem ck_9 : k_9.all (fun q => chkE cX1_sumOf 0 9 0 q) = true := by decide +kernel
set_option maxRecDepth 100000 in
theorem ck_10 : k_10.all (fun q => chkE cX2_init 1 10 1 q) = true := by decide +kernel
set_option maxRecDepth 100000 in
theorem ck_11 : k_11.all (fun q => chkE cX2_takeFrom 1 11 0 q) = true := by decide +kernel
set_option maxRecDepth 100000 in
theorem ck_12 : k_12.all (fun q => chkE cX2_hasPlayer 1 12 0 q) = true := by decide +kernel
set_option maxRecDepth 100000 in
theorem ck_13 : k_13.all (fun q => chkE cX2_placeOf 1 13 0 q) = true := by decide +kernel
set_option maxRecDepth 100000 in
theorem ck_14 : k_14.all (fun q => chkE cX2_joinFault 1 14 0 q) = true := by decide +kernel
set_option maxRecDepth 100000 in
theorem ck_15 : k_15.all (fun q => chkE cX2_join 1 15 0 q) = true := by decide +kernel
set_option maxRecDepth 100000 in
theorem ck_16 : k_16.all (fun q => chkE cX2_askFault 1 16 0 q) = true := by decide +kernel
set_option maxRecDepth 100000 in
theorem ck_17 : k_17.all (fun q => chkE cX2_ask 1 17 0 q) = true := by decide +kernel
set_option maxRecDepth 100000 in
theorem ck_18 : k_18.all (fun q => chkE cX2_betFault 1 18 0 q) = true := by decide +kernel
set_option maxRecDepth 100000 in
theorem ck_19 : k_19.all (fun q => chkE cX2_bet 1 19 0 q) = true := by decide +kernel
set_option maxRecDepth 100000 in
theorem ck_20 : k_20.all (fun q => chkE cX2_settleFault 1 20 0 q) = true := by decide +kernel
set_option maxRecDepth 100000 in
theorem ck_21 : k_21.all (fun q => chkE cX2_settleFirst 1 21 0 q) = true := by decide +kernel
set_option maxRecDepth 100000 in
theorem ck_22 : k_22.all (fun q => chkE cX2_payOut 1 22 0 q) = true := by decide +kernel
set_option maxRecDepth 100000 in
theorem ck_23 : k_23.all (fun q => chkE cX2_keepTruth 1 23 0 q) = true := by decide +kernel
set_option maxRecDepth 100000 in
theorem ck_24 : k_24.all (fun q => chkE cX2_moveFirstToEnd 1 24 0 q) = true := by decide +kernel
set_option maxRecDepth 100000 in
theorem ck_25 : k_25.all (fun q => chkE cX2_postponeFault 1 25 0 q) = true := by decide +kernel
set_option maxRecDepth 100000 in
theorem ck_26 : k_26.all (fun q => chkE cX2_postponeFirst 1 26 0 q) = true := by decide +kernel
set_option maxRecDepth 100000 in
theorem ck_27 : k_27.all (fun q => chkE cX2_leaveFault 1 27 0 q) = true := by decide +kernel
set_option maxRecDepth 100000 in
theorem ck_28 : k_28.all (fun q => chkE cX2_leave 1 28 0 q) = true := by decide +kernel
set_option maxRecDepth 100000 in
theorem ck_29 : k_29.all (fun q => chkE cX2_sumOfStakes 1 29 0 q) = true := by decide +kernel
set_option maxRecDepth 100000 in
theorem ck_30 : k_30.all (fun q => chkE cX2_sumOfPlayersBins 1 30 0 q) = true := by decide +kernel
set_option maxRecDepth 100000 in
theorem ck_31 : k_31.all (fun q => chkE cX2_leastError 1 31 0 q) = true := by decide +kernel
set_option maxRecDepth 100000 in
theorem ck_32 : k_32.all (fun q => chkE cX2_rankByScore 1 32 0 q) = true := by decide +kernel
set_option maxRecDepth 100000 in
theorem ck_33 : k_33.all (fun q => chkE cX2_keepsCoins 1 33 0 q) = true := by decide +kernel
set_option maxRecDepth 100000 in
theorem ck_34 : k_34.all (fun q => chkE cX2_binsAgree 1 34 0 q) = true := by decide +kernel
set_option maxRecDepth 100000 in
theorem ck_35 : k_35.all (fun q => chkE cX4_init 2 35 1 q) = true := by decide +kernel
set_option maxRecDepth 100000 in
theorem ck_36 : k_36.all (fun q => chkE cX4_isFull 2 36 0 q) = true := by decide +kernel
set_option maxRecDepth 100000 in
theorem ck_37 : k_37.all (fun q => chkE cX4_append 2 37 0 q) = true := by decide +kernel
set_option maxRecDepth 100000 in
theorem ck_38 : k_38.all (fun q => chkE cX4_clear 2 38 0 q) = true := by decide +kernel
set_option maxRecDepth 100000 in
theorem ck_39 : k_39.all (fun q => chkE cX4_rewind 2 39 0 q) = true := by decide +kernel
set_option maxRecDepth 100000 in
theorem ck_40 : k_40.all (fun q => chkE cX4_position 2 40 0 q) = true := by decide +kernel
set_option maxRecDepth 100000 in
theorem ck_41 : k_41.all (fun q => chkE cX4_number 2 41 0 q) = true := by decide +kernel
set_option maxRecDepth 100000 in
theorem ck_42 : k_42.all (fun q => chkE cX4_countCommands 2 42 0 q) = true := by decide +kernel
set_option maxRecDepth 100000 in
theorem ck_43 : k_43.all (fun q => chkE cX4_readCommand 2 43 0 q) = true := by decide +kernel
set_option maxRecDepth 100000 in
theorem ck_44 : k_44.all (fun q => chkE cX4_readSign 2 44 0 q) = true := by decide +kernel
set_option maxRecDepth 100000 in
theorem ck_45 : k_45.all (fun q => chkE cX4_readForm 2 45 0 q) = true := by decide +kernel
set_option maxRecDepth 100000 in
theorem ck_46 : k_46.all (fun q => chkE cX4_readNumber 2 46 0 q) = true := by decide +kernel
set_option maxRecDepth 100000 in
theorem ck_47 : k_47.all (fun q => chkE cX4_isDigit 2 47 0 q) = true := by decide +kernel
set_option maxRecDepth 100000 in
theorem ck_48 : k_48.all (fun q => chkE cX5_init 3 48 1 q) = true := by decide +kernel
set_option maxRecDepth 100000 in
theorem ck_49 : k_49.all (fun q => chkE cX5_mostByBitSets 3 49 0 q) = true := by decide +kernel
set_option maxRecDepth 100000 in
theorem ck_50 : k_50.all (fun q => chkE cX5_countCovered 3 50 0 q) = true := by decide +kernel
set_option maxRecDepth 100000 in
theorem ck_51 : k_51.all (fun q => chkE cX5_mostBySweep 3 51 0 q) = true := by decide +kernel
set_option maxRecDepth 100000 in
theorem ck_52 : k_52.all (fun q => chkE cX5_fillSets 3 52 0 q) = true := by decide +kernel
set_option maxRecDepth 100000 in
theorem ck_53 : k_53.all (fun q => chkE cX5_addInterval 3 53 0 q) = true := by decide +kernel
set_option maxRecDepth 100000 in
theorem ck_54 : k_54.all (fun q => chkE cX5_intervalBits 3 54 0 q) = true := by decide +kernel
set_option maxRecDepth 100000 in
theorem ck_55 : k_55.all (fun q => chkE cX5_leastOf 3 55 0 q) = true := by decide +kernel
set_option maxRecDepth 100000 in
theorem ck_56 : k_56.all (fun q => chkE cX5_insertSorted 3 56 0 q) = true := by decide +kernel
set_option maxRecDepth 100000 in
theorem ck_57 : k_57.all (fun q => chkE cX6_init 4 57 1 q) = true := by decide +kernel
set_option maxRecDepth 100000 in
theorem ck_58 : k_58.all (fun q => chkE cX6_fill 4 58 0 q) = true := by decide +kernel
set_option maxRecDepth 100000 in
theorem ck_59 : k_59.all (fun q => chkE cX6_takeFrom 4 59 0 q) = true := by decide +kernel
set_option maxRecDepth 100000 in
theorem ck_60 : k_60.all (fun q => chkE cX6_covers 4 60 0 q) = true := by decide +kernel
set_option maxRecDepth 100000 in
theorem ck_61 : k_61.all (fun q => chkE cX6_prize 4 61 0 q) = true := by decide +kernel
set_option maxRecDepth 100000 in
theorem ck_62 : k_62.all (fun q => chkE cX6_pointsFor 4 62 0 q) = true := by decide +kernel
set_option maxRecDepth 100000 in
theorem ck_63 : k_63.all (fun q => chkE cX6_distanceTo 4 63 0 q) = true := by decide +kernel
set_option maxRecDepth 100000 in
theorem ck_64 : k_64.all (fun q => chkE cX8_init 5 64 1 q) = true := by decide +kernel
set_option maxRecDepth 100000 in
theorem ck_65 : k_65.all (fun q => chkE cX8_draft 5 65 0 q) = true := by decide +kernel
set_option maxRecDepth 100000 in
theorem ck_66 : k_66.all (fun q => chkE cX8_keep 5 66 0 q) = true := by decide +kernel
set_option maxRecDepth 100000 in
theorem ck_67 : k_67.all (fun q => chkE cX8_record 5 67 0 q) = true := by decide +kernel
set_option maxRecDepth 100000 in
theorem ck_68 : k_68.all (fun q => chkE cX8_takeBack 5 68 0 q) = true := by decide +kernel
set_option maxRecDepth 100000 in
theorem ck_69 : k_69.all (fun q => chkE cX8_stepBack 5 69 0 q) = true := by decide +kernel
set_option maxRecDepth 100000 in
theorem ck_70 : k_70.all (fun q => chkE cX8_clear 5 70 0 q) = true := by decide +kernel
set_option maxRecDepth 100000 in
theorem ck_71 : k_71.all (fun q => chkE cX9_init 6 71 1 q) = true := by decide +kernel
set_option maxRecDepth 100000 in
theorem ck_72 : k_72.all (fun q => chkE cX9_start 6 72 0 q) = true := by decide +kernel
set_option maxRecDepth 100000 in
theorem ck_73 : k_73.all (fun q => chkE cX9_takeFrom 6 73 0 q) = true := by decide +kernel
set_option maxRecDepth 100000 in
theorem ck_74 : k_74.all (fun q => chkE cX9_isBetterThan 6 74 0 q) = true := by decide +kernel
set_option maxRecDepth 100000 in
theorem ck_75 : k_75.all (fun q => chkE cX10_init 7 75 1 q) = true := by decide +kernel
set_option maxRecDepth 100000 in
theorem ck_76 : k_76.all (fun q => chkE cX10_start 7 76 0 q) = true := by decide +kernel
set_option maxRecDepth 100000 in
theorem ck_77 : k_77.all (fun q => chkE cX10_takeFrom 7 77 0 q) = true := by decide +kernel
set_option maxRecDepth 100000 in
theorem ck_78 : k_78.all (fun q => chkE cX10_rankOf 7 78 0 q) = true := by decide +kernel
set_option maxRecDepth 100000 in
theorem ck_79 : k_79.all (fun q => chkE cX10_addEstimate 7 79 0 q) = true := by decide +kernel
set_option maxRecDepth 100000 in
theorem ck_80 : k_80.all (fun q => chkE cX10_removeEstimate 7 80 0 q) = true := by decide +kernel
set_option maxRecDepth 100000 in
theorem ck_81 : k_81.all (fun q => chkE cX10_countCovering 7 81 0 q) = true := by decide +kernel
set_option maxRecDepth 100000 in
theorem ck_82 : k_82.all (fun q => chkE cX10_sumOfStakes 7 82 0 q) = true := by decide +kernel
set_option maxRecDepth 100000 in
theorem ck_83 : k_83.all (fun q => chkE cX11_init 8 83 1 q) = true := by decide +kernel
set_option maxRecDepth 100000 in
theorem ck_84 : k_84.all (fun q => chkE cX11_addPlayer 8 84 0 q) = true := by decide +kernel
set_option maxRecDepth 100000 in
theorem ck_85 : k_85.all (fun q => chkE cX11_openQuestion 8 85 0 q) = true := by decide +kernel
set_option maxRecDepth 100000 in
theorem ck_86 : k_86.all (fun q => chkE cX11_estimate 8 86 0 q) = true := by decide +kernel
set_option maxRecDepth 100000 in
theorem ck_87 : k_87.all (fun q => chkE cX11_settle 8 87 0 q) = true := by decide +kernel
set_option maxRecDepth 100000 in
theorem ck_88 : k_88.all (fun q => chkE cX11_postpone 8 88 0 q) = true := by decide +kernel
set_option maxRecDepth 100000 in
theorem ck_89 : k_89.all (fun q => chkE cX11_withdraw 8 89 0 q) = true := by decide +kernel
set_option maxRecDepth 100000 in
theorem ck_90 : k_90.all (fun q => chkE cX11_playerCount 8 90 0 q) = true := by decide +kernel
set_option maxRecDepth 100000 in
theorem ck_91 : k_91.all (fun q => chkE cX11_coins 8 91 0 q) = true := by decide +kernel
set_option maxRecDepth 100000 in
theorem ck_92 : k_92.all (fun q => chkE cX11_hasWithdrawn 8 92 0 q) = true := by decide +kernel
set_option maxRecDepth 100000 in
theorem ck_93 : k_93.all (fun q => chkE cX11_houseCoins 8 93 0 q) = true := by decide +kernel
set_option maxRecDepth 100000 in
theorem ck_94 : k_94.all (fun q => chkE cX11_stakedCoins 8 94 0 q) = true := by decide +kernel
set_option maxRecDepth 100000 in
theorem ck_95 : k_95.all (fun q => chkE cX11_openCount 8 95 0 q) = true := by decide +kernel
set_option maxRecDepth 100000 in
theorem ck_96 : k_96.all (fun q => chkE cX11_questionAt 8 96 0 q) = true := by decide +kernel
set_option maxRecDepth 100000 in
theorem ck_97 : k_97.all (fun q => chkE cX11_positionOf 8 97 0 q) = true := by decide +kernel
set_option maxRecDepth 100000 in
theorem ck_98 : k_98.all (fun q => chkE cX11_weight 8 98 0 q) = true := by decide +kernel
set_option maxRecDepth 100000 in
theorem ck_99 : k_99.all (fun q => chkE cX11_estimateCount 8 99 0 q) = true := by decide +kernel
set_option maxRecDepth 100000 in
theorem ck_100 : k_100.all (fun q => chkE cX11_estimator 8 100 0 q) = true := by decide +kernel
set_option maxRecDepth 100000 in
theorem ck_101 : k_4.all (fun q => chkE cX1_sizeOf 0 101 0 q) = true := by decide +kernel
set_option maxRecDepth 100000 in
theorem ck_102 : k_102.all (fun q => chkE cX11_low 8 102 0 q) = true := by decide +kernel
set_option maxRecDepth 100000 in
theorem ck_103 : k_103.all (fun q => chkE cX11_high 8 103 0 q) = true := by decide +kernel
set_option maxRecDepth 100000 in
theorem ck_104 : k_104.all (fun q => chkE cX11_confidence 8 104 0 q) = true := by decide +kernel
set_option maxRecDepth 100000 in
theorem ck_105 : k_105.all (fun q => chkE cX11_stake 8 105 0 q) = true := by decide +kernel
set_option maxRecDepth 100000 in
theorem ck_106 : k_106.all (fun q => chkE cX11_winnings 8 106 0 q) = true := by decide +kernel
set_option maxRecDepth 100000 in
theorem ck_107 : k_107.all (fun q => chkE cX11_coverage 8 107 0 q) = true := by decide +kernel
set_option maxRecDepth 100000 in
theorem ck_108 : k_108.all (fun q => chkE cX11_mostCovered 8 108 0 q) = true := by decide +kernel
set_option maxRecDepth 100000 in
theorem ck_109 : k_109.all (fun q => chkE cX11_mostCoveredBySweep 8 109 0 q) = true := by decide +kernel
set_option maxRecDepth 100000 in
theorem ck_110 : k_110.all (fun q => chkE cX11_coveredValues 8 110 0 q) = true := by decide +kernel
set_option maxRecDepth 100000 in
theorem ck_111 : k_111.all (fun q => chkE cX11_settledQuestions 8 111 0 q) = true := by decide +kernel
set_option maxRecDepth 100000 in
theorem ck_112 : k_112.all (fun q => chkE cX11_recentTruth 8 112 0 q) = true := by decide +kernel
set_option maxRecDepth 100000 in
theorem ck_113 : k_4.all (fun q => chkE cX1_sizeOf 0 113 0 q) = true := by decide +kernel
set_option maxRecDepth 100000 in
theorem ck_114 : k_114.all (fun q => chkE cX11_hits 8 114 0 q) = true := by decide +kernel
set_option maxRecDepth 100000 in
theorem ck_115 : k_115.all (fun q => chkE cX11_score 8 115 0 q) = true := by decide +kernel
set_option maxRecDepth 100000 in
theorem ck_116 : k_116.all (fun q => chkE cX11_meanScore 8 116 0 q) = true := by decide +kernel
set_option maxRecDepth 100000 in
theorem ck_117 : k_117.all (fun q => chkE cX11_calibrationError 8 117 0 q) = true := by decide +kernel
set_option maxRecDepth 100000 in
theorem ck_118 : k_118.all (fun q => chkE cX11_bestCalibrated 8 118 0 q) = true := by decide +kernel
set_option maxRecDepth 100000 in
theorem ck_119 : k_119.all (fun q => chkE cX11_playerByScore 8 119 0 q) = true := by decide +kernel
set_option maxRecDepth 100000 in
theorem ck_120 : k_120.all (fun q => chkE cX11_binSize 8 120 0 q) = true := by decide +kernel
set_option maxRecDepth 100000 in
theorem ck_121 : k_121.all (fun q => chkE cX11_binSizeByPlayers 8 121 0 q) = true := by decide +kernel
set_option maxRecDepth 100000 in
theorem ck_122 : k_122.all (fun q => chkE cX11_binHits 8 122 0 q) = true := by decide +kernel
set_option maxRecDepth 100000 in
theorem ck_123 : k_123.all (fun q => chkE cX11_binShare 8 123 0 q) = true := by decide +kernel
set_option maxRecDepth 100000 in
theorem ck_124 : k_124.all (fun q => chkE cX11_isConsistent 8 124 0 q) = true := by decide +kernel
set_option maxRecDepth 100000 in
theorem ck_125 : k_125.all (fun q => chkE cX11_feed 8 125 0 q) = true := by decide +kernel
set_option maxRecDepth 100000 in
theorem ck_126 : k_126.all (fun q => chkE cX11_runCommands 8 126 0 q) = true := by decide +kernel
set_option maxRecDepth 100000 in
theorem ck_127 : k_127.all (fun q => chkE cX11_errorPosition 8 127 0 q) = true := by decide +kernel
set_option maxRecDepth 100000 in
theorem ck_128 : k_128.all (fun q => chkE cX11_failedCommand 8 128 0 q) = true := by decide +kernel
set_option maxRecDepth 100000 in
theorem ck_129 : k_129.all (fun q => chkE cX11_writeQuestion 8 129 0 q) = true := by decide +kernel
set_option maxRecDepth 100000 in
theorem ck_130 : k_130.all (fun q => chkE cX11_outputChar 8 130 0 q) = true := by decide +kernel
set_option maxRecDepth 100000 in
theorem ck_131 : k_131.all (fun q => chkE cX11_undoCount 8 131 0 q) = true := by decide +kernel
set_option maxRecDepth 100000 in
theorem ck_132 : k_132.all (fun q => chkE cX11_undo 8 132 0 q) = true := by decide +kernel
set_option maxRecDepth 100000 in
theorem ck_133 : k_133.all (fun q => chkE cX11_save 8 133 0 q) = true := by decide +kernel
set_option maxRecDepth 100000 in
theorem ck_134 : k_134.all (fun q => chkE cX11_restore 8 134 0 q) = true := by decide +kernel
set_option maxRecDepth 100000 in
theorem ck_135 : k_135.all (fun q => chkE cX11_refuseOn 8 135 0 q) = true := by decide +kernel
set_option maxRecDepth 100000 in
theorem ck_136 : k_136.all (fun q => chkE cX11_isValue 8 136 0 q) = true := by decide +kernel
set_option maxRecDepth 100000 in
theorem ck_137 : k_137.all (fun q => chkE cX11_isConfidence 8 137 0 q) = true := by decide +kernel
set_option maxRecDepth 100000 in
theorem ck_138 : k_138.all (fun q => chkE cX11_requireConfidence 8 138 0 q) = true := by decide +kernel
set_option maxRecDepth 100000 in
theorem ck_139 : k_139.all (fun q => chkE cX11_requirePlayer 8 139 0 q) = true := by decide +kernel
set_option maxRecDepth 100000 in
theorem ck_140 : k_140.all (fun q => chkE cX11_requireQuestion 8 140 0 q) = true := by decide +kernel
set_option maxRecDepth 100000 in
theorem ck_141 : k_141.all (fun q => chkE cX11_requireEstimatedQuestion 8 141 0 q) = true := by decide +kernel
set_option maxRecDepth 100000 in
theorem ck_142 : k_142.all (fun q => chkE cX11_requireEstimate 8 142 0 q) = true := by decide +kernel
set_option maxRecDepth 100000 in
theorem ck_143 : k_143.all (fun q => chkE cX11_mostCoveredAgree 8 143 0 q) = true := by decide +kernel
set_option maxRecDepth 100000 in
theorem ck_144 : k_144.all (fun q => chkE cX11_carryOut 8 144 0 q) = true := by decide +kernel
set_option maxRecDepth 100000 in
theorem ck_145 : k_145.all (fun q => chkE cX11_faultOf 8 145 0 q) = true := by decide +kernel
set_option maxRecDepth 100000 in
theorem ck_146 : k_146.all (fun q => chkE cX11_apply 8 146 0 q) = true := by decide +kernel
set_option maxRecDepth 100000 in
theorem ck_147 : k_147.all (fun q => chkE cX11_writeEstimate 8 147 0 q) = true := by decide +kernel
set_option maxRecDepth 100000 in
theorem ck_148 : k_4.all (fun q => chkE cX1_sizeOf 0 148 0 q) = true := by decide +kernel
set_option maxRecDepth 100000 in
theorem ck_149 : k_4.all (fun q => chkE cX1_sizeOf 0 149 0 q) = true := by decide +kernel
set_option maxRecDepth 100000 in
theorem ck_150 : k_4.all (fun q => chkE cX1_sizeOf 0 150 0 q) = true := by decide +kernel
set_option maxRecDepth 100000 in
theorem ck_151 : k_4.all (fun q => chkE cX1_sizeOf 0 151 0 q) = true := by decide +kernel
set_option maxRecDepth 100000 in
theorem ck_152 : k_4.all (fun q => chkE cX1_sizeOf 0 152 0 q) = true := by decide +kernel
set_option maxRecDepth 100000 in
theorem ck_153 : k_4.all (fun q => chkE cX1_sizeOf 0 153 0 q) = true := by decide +kernel
set_option maxRecDepth 100000 in
theorem ck_154 : k_4.all (fun q => chkE cX1_sizeOf 0 154 0 q) = true := by decide +kernel
set_option maxRecDepth 100000 in
theorem ck_155 : k_4.all (fun q => chkE cX1_sizeOf 0 155 0 q) = true := by decide +kernel
set_option maxRecDepth 100000 in
theorem ck_156 : k_4.all (fun q => chkE cX1_sizeOf 0 156 0 q) = true := by decide +kernel
set_option maxRecDepth 100000 in
theorem ck_157 : k_4.all (fun q => chkE cX1_sizeOf 0 157 0 q) = true := by decide +kernel
set_option maxRecDepth 100000 in
theorem ck_158 : k_4.all (fun q => chkE cX1_sizeOf 0 158 0 q) = true := by decide +kernel
set_option maxRecDepth 100000 in
theorem ck_159 : k_4.all (fun q => chkE cX1_sizeOf 0 159 0 q) = true := by decide +kernel
set_option maxRecDepth 100000 in
theorem ck_160 : k_160.all (fun q => chkE cL_at 9 160 0 q) = true := by decide +kernel
set_option maxRecDepth 100000 in
theorem ck_161 : k_161.all (fun q => chkE cL_put 9 161 0 q) = true := by decide +kernel
set_option maxRecDepth 100000 in
theorem ck_162_0 : ((k_162.drop 0).take 60).all (fun q => chkE cL_build 9 162 0 q) = true := by decide +kernel
set_option maxRecDepth 100000 in
theorem ck_162_60 : ((k_162.drop 60).take 60).all (fun q => chkE cL_build 9 162 0 q) = true := by decide +kernel
set_option maxRecDepth 100000 in
theorem ck_162_120 : ((k_162.drop 120).take 60).all (fun q => chkE cL_build 9 162 0 q) = true := by decide +kernel
