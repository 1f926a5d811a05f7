theorem zme1 {w : Cond} (h : w ∈ tables_1_1) : w ∈ lw_tbl := List.mem_append_right _ (List.mem_append_left _ h)
theorem zme2 {w : Cond} (h : w ∈ tables_1_2) : w ∈ lw_tbl := List.mem_append_right _ (List.mem_append_right _ (List.mem_append_left _ h))
theorem zme3 {w : Cond} (h : w ∈ tables_1_3) : w ∈ lw_tbl := List.mem_append_right _ (List.mem_append_right _ (List.mem_append_right _ (List.mem_append_left _ h)))
theorem zme4 {w : Cond} (h : w ∈ tables_1_4) : w ∈ lw_tbl := List.mem_append_right _ (List.mem_append_right _ (List.mem_append_right _ (List.mem_append_right _ (List.mem_append_left _ h))))
theorem zme5 {w : Cond} (h : w ∈ tables_1_5) : w ∈ lw_tbl := List.mem_append_right _ (List.mem_append_right _ (List.mem_append_right _ (List.mem_append_right _ (List.mem_append_right _ (List.mem_append_left _ h)))))
theorem zme6 {w : Cond} (h : w ∈ tables_1_6) : w ∈ lw_tbl := List.mem_append_right _ (List.mem_append_right _ (List.mem_append_right _ (List.mem_append_right _ (List.mem_append_right _ (List.mem_append_right _ (h))))))
theorem zcm0 : Cond.code yX0_init cX0_init 1 none ∈ lw_tbl := zme2 (List.mem_of_getElem? (i := 25) rfl)
theorem zcm1 : Cond.code yX0_begin cX0_begin 4 none ∈ lw_tbl := zme4 (List.mem_of_getElem? (i := 27) rfl)
theorem zcm2 : Cond.code yX0_began cX0_began 2 none ∈ lw_tbl := zme4 (List.mem_of_getElem? (i := 39) rfl)
theorem zcm3 : Cond.code yX1_init cX1_init 2 none ∈ lw_tbl := zme2 (List.mem_of_getElem? (i := 100) rfl)
theorem zcm4 : Cond.code yX1_countBody cX1_countBody 2 (some .int) ∈ lw_tbl := zme4 (List.mem_of_getElem? (i := 76) rfl)
theorem zcm5 : Cond.code yX1_turnBody cX1_turnBody 2 (some .int) ∈ lw_tbl := zme4 (List.mem_of_getElem? (i := 56) rfl)
theorem zcm6 : Cond.code yX2_init cX2_init 2 none ∈ lw_tbl := zme2 (List.mem_of_getElem? (i := 92) rfl)
theorem zcm7 : Cond.code yX2_countBody cX2_countBody 2 (some .int) ∈ lw_tbl := zme4 (List.mem_of_getElem? (i := 79) rfl)
theorem zcm8 : Cond.code yX2_fillBody cX2_fillBody 2 (some .int) ∈ lw_tbl := zme4 (List.mem_of_getElem? (i := 35) rfl)
theorem zcm9 : Cond.code yX3_init cX3_init 1 none ∈ lw_tbl := zme1 (List.mem_of_getElem? (i := 208) rfl)
theorem zcm10 : Cond.code yX3_take cX3_take 3 none ∈ lw_tbl := zme2 (List.mem_of_getElem? (i := 226) rfl)
theorem zcm11 : Cond.code yX3_toldOf cX3_toldOf 3 (some .int) ∈ lw_tbl := zme3 (List.mem_of_getElem? (i := 190) rfl)
theorem zcm12 : Cond.code yX4_init cX4_init 1 none ∈ lw_tbl := zme1 (List.mem_of_getElem? (i := 28) rfl)
theorem zcm13 : Cond.code yX4_hasVessel cX4_hasVessel 2 (some .boolean) ∈ lw_tbl := zme2 (List.mem_of_getElem? (i := 171) rfl)
theorem zcm14 : Cond.code yX4_hasPipe cX4_hasPipe 2 (some .boolean) ∈ lw_tbl := zme3 (List.mem_of_getElem? (i := 17) rfl)
theorem zcm15 : Cond.code yX4_kindOf cX4_kindOf 2 (some .int) ∈ lw_tbl := zme2 (List.mem_of_getElem? (i := 155) rfl)
theorem zcm16 : Cond.code yX4_brimOf cX4_brimOf 2 (some .int) ∈ lw_tbl := zme4 (List.mem_of_getElem? (i := 126) rfl)
theorem zcm17 : Cond.code yX4_isFloat cX4_isFloat 3 (some .boolean) ∈ lw_tbl := zme2 (List.mem_of_getElem? (i := 202) rfl)
theorem zcm18 : Cond.code yX4_hasHigh cX4_hasHigh 2 (some .boolean) ∈ lw_tbl := zme3 (List.mem_of_getElem? (i := 6) rfl)
theorem zcm19 : Cond.code yX4_liesBelow cX4_liesBelow 3 (some .boolean) ∈ lw_tbl := zme3 (List.mem_of_getElem? (i := 26) rfl)
theorem zcm20 : Cond.code yX4_addVessel cX4_addVessel 4 (some .int) ∈ lw_tbl := zme2 (List.mem_of_getElem? (i := 143) rfl)
theorem zcm21 : Cond.code yX4_addPipe cX4_addPipe 4 (some .int) ∈ lw_tbl := zme3 (List.mem_of_getElem? (i := 39) rfl)
theorem zcm22 : Cond.code yX4_siphonOf cX4_siphonOf 4 (some .int) ∈ lw_tbl := zme3 (List.mem_of_getElem? (i := 78) rfl)
theorem zcm23 : Cond.code yX4_toldOf cX4_toldOf 3 (some .int) ∈ lw_tbl := zme3 (List.mem_of_getElem? (i := 172) rfl)
theorem zcm24 : Cond.code yX5_init cX5_init 1 none ∈ lw_tbl := zme1 (List.mem_of_getElem? (i := 231) rfl)
theorem zcm25 : Cond.code yX5_seek cX5_seek 4 (some .int) ∈ lw_tbl := zme3 (List.mem_of_getElem? (i := 213) rfl)
theorem zcm26 : Cond.code yX5_toldOf cX5_toldOf 2 (some .int) ∈ lw_tbl := zme3 (List.mem_of_getElem? (i := 237) rfl)
theorem zcm27 : Cond.code yX5_keep cX5_keep 3 none ∈ lw_tbl := zme3 (List.mem_of_getElem? (i := 217) rfl)
theorem zcm28 : Cond.code yX5_firstLike cX5_firstLike 4 (some .int) ∈ lw_tbl := zme3 (List.mem_of_getElem? (i := 225) rfl)
theorem zcm29 : Cond.code yX5_isLike cX5_isLike 4 (some .boolean) ∈ lw_tbl := zme3 (List.mem_of_getElem? (i := 229) rfl)
theorem zcm30 : Cond.code yX5_tell cX5_tell 3 none ∈ lw_tbl := zme3 (List.mem_of_getElem? (i := 233) rfl)
theorem zcm31 : Cond.code yX6_init cX6_init 2 none ∈ lw_tbl := zme2 (List.mem_of_getElem? (i := 76) rfl)
theorem zcm32 : Cond.code yX6_turnBody cX6_turnBody 2 (some .int) ∈ lw_tbl := zme4 (List.mem_of_getElem? (i := 64) rfl)
theorem zcm33 : Cond.code yX6_tellBody cX6_tellBody 2 (some .int) ∈ lw_tbl := zme4 (List.mem_of_getElem? (i := 93) rfl)
theorem zcm34 : Cond.code yX7_init cX7_init 2 none ∈ lw_tbl := zme2 (List.mem_of_getElem? (i := 84) rfl)
theorem zcm35 : Cond.code yX7_fillBody cX7_fillBody 2 (some .int) ∈ lw_tbl := zme4 (List.mem_of_getElem? (i := 45) rfl)
theorem zcm36 : Cond.code yX8_init cX8_init 2 none ∈ lw_tbl := zme2 (List.mem_of_getElem? (i := 58) rfl)
theorem zcm37 : Cond.code yX8_fillBody cX8_fillBody 2 (some .int) ∈ lw_tbl := zme4 (List.mem_of_getElem? (i := 48) rfl)
theorem zcm38 : Cond.code yX8_turnBody cX8_turnBody 2 (some .int) ∈ lw_tbl := zme4 (List.mem_of_getElem? (i := 68) rfl)
theorem zcm39 : Cond.code yX8_countBody cX8_countBody 2 (some .int) ∈ lw_tbl := zme4 (List.mem_of_getElem? (i := 84) rfl)
theorem zcm40 : Cond.code yX8_tellBody cX8_tellBody 2 (some .int) ∈ lw_tbl := zme4 (List.mem_of_getElem? (i := 96) rfl)
theorem zcm41 : Cond.code yX9_init cX9_init 1 none ∈ lw_tbl := zme1 (List.mem_of_getElem? (i := 98) rfl)
theorem zcm42 : Cond.code yX9_takeOver cX9_takeOver 2 none ∈ lw_tbl := zme3 (List.mem_of_getElem? (i := 206) rfl)
theorem zcm43 : Cond.code yX9_isOpen cX9_isOpen 2 (some .boolean) ∈ lw_tbl := zme2 (List.mem_of_getElem? (i := 206) rfl)
theorem zcm44 : Cond.code yX9_setOpen cX9_setOpen 3 none ∈ lw_tbl := zme2 (List.mem_of_getElem? (i := 210) rfl)
theorem zcm45 : Cond.code yX9_isSiphoning cX9_isSiphoning 2 (some .boolean) ∈ lw_tbl := zme2 (List.mem_of_getElem? (i := 186) rfl)
theorem zcm46 : Cond.code yX9_setSiphoning cX9_setSiphoning 3 none ∈ lw_tbl := zme2 (List.mem_of_getElem? (i := 190) rfl)
theorem zcm47 : Cond.code yX10_init cX10_init 2 none ∈ lw_tbl := zme1 (List.mem_of_getElem? (i := 92) rfl)
theorem zcm48 : Cond.code yX10_runs cX10_runs 3 (some .boolean) ∈ lw_tbl := zme3 (List.mem_of_getElem? (i := 74) rfl)
theorem zcm49 : Cond.code yX10_reckonRates cX10_reckonRates 2 none ∈ lw_tbl := zme3 (List.mem_of_getElem? (i := 70) rfl)
theorem zcm50 : Cond.code yX10_reckonVessel cX10_reckonVessel 6 none ∈ lw_tbl := zme3 (List.mem_of_getElem? (i := 86) rfl)
theorem zcm51 : Cond.code yX10_bring cX10_bring 3 none ∈ lw_tbl := zme3 (List.mem_of_getElem? (i := 82) rfl)
theorem zcm52 : Cond.code yX10_isFull cX10_isFull 2 (some .boolean) ∈ lw_tbl := zme2 (List.mem_of_getElem? (i := 159) rfl)
theorem zcm53 : Cond.code yX10_seekNext cX10_seekNext 2 none ∈ lw_tbl := zme3 (List.mem_of_getElem? (i := 66) rfl)
theorem zcm54 : Cond.code yX10_seekRise cX10_seekRise 3 none ∈ lw_tbl := zme3 (List.mem_of_getElem? (i := 93) rfl)
theorem zcm55 : Cond.code yX10_seekFall cX10_seekFall 2 none ∈ lw_tbl := zme3 (List.mem_of_getElem? (i := 101) rfl)
theorem zcm56 : Cond.code yX10_ownIs cX10_ownIs 4 (some .boolean) ∈ lw_tbl := zme2 (List.mem_of_getElem? (i := 198) rfl)
theorem zcm57 : Cond.code yX10_offer cX10_offer 5 none ∈ lw_tbl := zme3 (List.mem_of_getElem? (i := 97) rfl)
theorem zcm58 : Cond.code yX10_rests cX10_rests 1 (some .boolean) ∈ lw_tbl := zme3 (List.mem_of_getElem? (i := 105) rfl)
theorem zcm59 : Cond.code yX10_nextMomentAbove cX10_nextMomentAbove 1 (some .long) ∈ lw_tbl := zme3 (List.mem_of_getElem? (i := 113) rfl)
theorem zcm60 : Cond.code yX10_nextMomentBelow cX10_nextMomentBelow 1 (some .long) ∈ lw_tbl := zme3 (List.mem_of_getElem? (i := 117) rfl)
theorem zcm61 : Cond.code yX10_nextIsBehind cX10_nextIsBehind 2 (some .boolean) ∈ lw_tbl := zme3 (List.mem_of_getElem? (i := 109) rfl)
theorem zcm62 : Cond.code yX10_isBehind cX10_isBehind 2 (some .boolean) ∈ lw_tbl := zme3 (List.mem_of_getElem? (i := 62) rfl)
theorem zcm63 : Cond.code yX10_isAt cX10_isAt 2 (some .boolean) ∈ lw_tbl := zme4 (List.mem_of_getElem? (i := 19) rfl)
theorem zcm64 : Cond.code yX10_isAhead cX10_isAhead 2 (some .boolean) ∈ lw_tbl := zme4 (List.mem_of_getElem? (i := 7) rfl)
theorem zcm65 : Cond.code yX10_inVessels cX10_inVessels 4 (some .long) ∈ lw_tbl := zme3 (List.mem_of_getElem? (i := 198) rfl)
theorem zcm66 : Cond.code yX10_step cX10_step 1 (some .boolean) ∈ lw_tbl := zme3 (List.mem_of_getElem? (i := 125) rfl)
theorem zcm67 : Cond.code yX10_passTo cX10_passTo 2 none ∈ lw_tbl := zme3 (List.mem_of_getElem? (i := 121) rfl)
theorem zcm68 : Cond.code yX10_advance cX10_advance 10 (some .boolean) ∈ lw_tbl := zme2 (List.mem_of_getElem? (i := 214) rfl)
theorem zcm69 : Cond.code yX10_commonBehind cX10_commonBehind 10 (some .long) ∈ lw_tbl := zme2 (List.mem_of_getElem? (i := 218) rfl)
theorem zcm70 : Cond.code yX10_settle cX10_settle 2 none ∈ lw_tbl := zme2 (List.mem_of_getElem? (i := 151) rfl)
theorem zcm71 : Cond.code yX10_tip cX10_tip 4 none ∈ lw_tbl := zme2 (List.mem_of_getElem? (i := 163) rfl)
theorem zcm72 : Cond.code yX10_pourTo cX10_pourTo 10 none ∈ lw_tbl := zme2 (List.mem_of_getElem? (i := 167) rfl)
theorem zcm73 : Cond.code yX10_settleSiphon cX10_settleSiphon 2 none ∈ lw_tbl := zme2 (List.mem_of_getElem? (i := 182) rfl)
theorem zcm74 : Cond.code yX10_settleFloat cX10_settleFloat 2 none ∈ lw_tbl := zme2 (List.mem_of_getElem? (i := 194) rfl)
theorem zcm75 : Cond.code yX10_happen cX10_happen 3 none ∈ lw_tbl := zme2 (List.mem_of_getElem? (i := 178) rfl)
theorem zcm76 : Cond.code yX10_hasHappened cX10_hasHappened 4 (some .boolean) ∈ lw_tbl := zme4 (List.mem_of_getElem? (i := 15) rfl)
theorem zcm77 : Cond.code yX11_init cX11_init 1 none ∈ lw_tbl := zme1 (List.mem_of_getElem? (i := 20) rfl)
theorem zcm78 : Cond.code yX11_vessel cX11_vessel 4 (some .int) ∈ lw_tbl := zme2 (List.mem_of_getElem? (i := 132) rfl)
theorem zcm79 : Cond.code yX11_marks cX11_marks 4 (some .int) ∈ lw_tbl := zme3 (List.mem_of_getElem? (i := 1) rfl)
theorem zcm80 : Cond.code yX11_own cX11_own 4 (some .int) ∈ lw_tbl := zme3 (List.mem_of_getElem? (i := 13) rfl)
theorem zcm81 : Cond.code yX11_tips cX11_tips 3 (some .int) ∈ lw_tbl := zme3 (List.mem_of_getElem? (i := 22) rfl)
theorem zcm82 : Cond.code yX11_over cX11_over 3 (some .int) ∈ lw_tbl := zme3 (List.mem_of_getElem? (i := 31) rfl)
theorem zcm83 : Cond.code yX11_pipe cX11_pipe 7 (some .int) ∈ lw_tbl := zme3 (List.mem_of_getElem? (i := 35) rfl)
theorem zcm84 : Cond.code yX11_fill cX11_fill 3 (some .int) ∈ lw_tbl := zme3 (List.mem_of_getElem? (i := 44) rfl)
theorem zcm85 : Cond.code yX11_shut cX11_shut 4 (some .int) ∈ lw_tbl := zme3 (List.mem_of_getElem? (i := 49) rfl)
theorem zcm86 : Cond.code yX11_amount cX11_amount 4 (some .int) ∈ lw_tbl := zme3 (List.mem_of_getElem? (i := 54) rfl)
theorem zcm87 : Cond.code yX11_go cX11_go 4 (some .int) ∈ lw_tbl := zme3 (List.mem_of_getElem? (i := 58) rfl)
theorem zcm88 : Cond.code yX11_now cX11_now 2 (some .int) ∈ lw_tbl := zme3 (List.mem_of_getElem? (i := 130) rfl)
theorem zcm89 : Cond.code yX11_next cX11_next 2 (some .long) ∈ lw_tbl := zme3 (List.mem_of_getElem? (i := 136) rfl)
theorem zcm90 : Cond.code yX11_level cX11_level 3 (some .int) ∈ lw_tbl := zme3 (List.mem_of_getElem? (i := 146) rfl)
theorem zcm91 : Cond.code yX11_rate cX11_rate 2 (some .int) ∈ lw_tbl := zme3 (List.mem_of_getElem? (i := 150) rfl)
theorem zcm92 : Cond.code yX11_flow cX11_flow 2 (some .int) ∈ lw_tbl := zme3 (List.mem_of_getElem? (i := 156) rfl)
theorem zcm93 : Cond.code yX11_flood cX11_flood 2 (some .int) ∈ lw_tbl := zme3 (List.mem_of_getElem? (i := 160) rfl)
theorem zcm94 : Cond.code yX11_told cX11_told 3 (some .int) ∈ lw_tbl := zme3 (List.mem_of_getElem? (i := 164) rfl)
theorem zcm95 : Cond.code yX11_pipeTold cX11_pipeTold 3 (some .int) ∈ lw_tbl := zme3 (List.mem_of_getElem? (i := 177) rfl)
theorem zcm96 : Cond.code yX11_count cX11_count 2 (some .int) ∈ lw_tbl := zme3 (List.mem_of_getElem? (i := 182) rfl)
theorem zcm97 : Cond.code yX11_event cX11_event 3 (some .int) ∈ lw_tbl := zme3 (List.mem_of_getElem? (i := 186) rfl)
theorem zcm98 : Cond.code yX11_sum cX11_sum 3 (some .long) ∈ lw_tbl := zme3 (List.mem_of_getElem? (i := 194) rfl)
theorem zcm99 : Cond.code yX11_round cX11_round 3 (some .int) ∈ lw_tbl := zme3 (List.mem_of_getElem? (i := 202) rfl)
theorem zcm100 : Cond.code yX11_tune cX11_tune 7 (some .int) ∈ lw_tbl := zme4 (List.mem_of_getElem? (i := 3) rfl)
theorem zcm101 : Cond.code yX11_act cX11_act 6 (some .int) ∈ lw_tbl := zme4 (List.mem_of_getElem? (i := 23) rfl)
theorem zcm102 : Cond.code yX11_trace cX11_trace 2 (some .int) ∈ lw_tbl := zme4 (List.mem_of_getElem? (i := 102) rfl)
theorem zcm103 : Cond.code yX11_forge cX11_forge 4 (some .int) ∈ lw_tbl := zme4 (List.mem_of_getElem? (i := 106) rfl)
theorem zcm104 : Cond.code yX11_status cX11_status 1 (some .int) ∈ lw_tbl := zme4 (List.mem_of_getElem? (i := 134) rfl)
theorem zcm105 : Cond.code yX11_refused cX11_refused 2 (some .int) ∈ lw_tbl := zme2 (List.mem_of_getElem? (i := 139) rfl)
theorem zcm106 : Cond.code yX11_answered cX11_answered 2 (some .int) ∈ lw_tbl := zme2 (List.mem_of_getElem? (i := 237) rfl)
theorem zcm107 : Cond.code yX11_handDid cX11_handDid 2 (some .int) ∈ lw_tbl := zme2 (List.mem_of_getElem? (i := 147) rfl)
theorem zcm108 : Cond.code yX11_firstShutsAt cX11_firstShutsAt 4 (some .boolean) ∈ lw_tbl := zme4 (List.mem_of_getElem? (i := 11) rfl)
theorem zcm109 : Cond.code yX11_takenFor cX11_takenFor 4 (some .int) ∈ lw_tbl := zme4 (List.mem_of_getElem? (i := 113) rfl)
theorem zcm110 : Cond.code yX11_copiedBrims cX11_copiedBrims 5 (some .int) ∈ lw_tbl := zme4 (List.mem_of_getElem? (i := 122) rfl)
theorem zcm111 : Cond.code yX11_putAmongFloats cX11_putAmongFloats 2 (some .int) ∈ lw_tbl := zme4 (List.mem_of_getElem? (i := 130) rfl)
theorem zcm112 : Cond.code yX11_within cX11_within 3 (some .boolean) ∈ lw_tbl := zme2 (List.mem_of_getElem? (i := 135) rfl)
theorem zcm113 : Cond.code yX11_asNumber cX11_asNumber 1 (some .int) ∈ lw_tbl := zme3 (List.mem_of_getElem? (i := 168) rfl)
theorem zcm114 : Cond.code yX11_isKindOrUnder cX11_isKindOrUnder 4 (some .boolean) ∈ lw_tbl := zme4 (List.mem_of_getElem? (i := 116) rfl)
theorem zcm115 : Cond.code yX11_gcd cX11_gcd 11 (some .long) ∈ lw_tbl := zme2 (List.mem_of_getElem? (i := 221) rfl)
theorem zcm116 : Cond.code yX11_above cX11_above 6 (some .long) ∈ lw_tbl := zme2 (List.mem_of_getElem? (i := 229) rfl)
theorem zcm117 : Cond.code yX11_below cX11_below 6 (some .long) ∈ lw_tbl := zme2 (List.mem_of_getElem? (i := 233) rfl)
theorem zcm118 : Cond.code yX11_part cX11_part 5 (some .long) ∈ lw_tbl := zme3 (List.mem_of_getElem? (i := 142) rfl)
theorem zcm119 : Cond.code yX12_init cX12_init 1 none ∈ lw_tbl := zme4 (List.mem_of_getElem? (i := 139) rfl)
theorem zcm120 : Cond.code yX12_in cX12_in 3 (some .boolean) ∈ lw_tbl := zme5 (List.mem_of_getElem? (i := 74) rfl)
theorem zcm121 : Cond.code yX12_refused cX12_refused 2 (some .int) ∈ lw_tbl := zme5 (List.mem_of_getElem? (i := 78) rfl)
theorem zcm122 : Cond.code yX12_done cX12_done 2 (some .int) ∈ lw_tbl := zme5 (List.mem_of_getElem? (i := 113) rfl)
theorem zcm123 : Cond.code yX12_isVessel cX12_isVessel 2 (some .boolean) ∈ lw_tbl := zme5 (List.mem_of_getElem? (i := 121) rfl)
theorem zcm124 : Cond.code yX12_isPipe cX12_isPipe 2 (some .boolean) ∈ lw_tbl := zme5 (List.mem_of_getElem? (i := 129) rfl)
theorem zcm125 : Cond.code yX12_divisor cX12_divisor 10 (some .long) ∈ lw_tbl := zme5 (List.mem_of_getElem? (i := 109) rfl)
theorem zcm126 : Cond.code yX12_isFloat cX12_isFloat 2 (some .boolean) ∈ lw_tbl := zme5 (List.mem_of_getElem? (i := 98) rfl)
theorem zcm127 : Cond.code yX12_runs cX12_runs 4 (some .boolean) ∈ lw_tbl := zme5 (List.mem_of_getElem? (i := 173) rfl)
theorem zcm128 : Cond.code yX12_goesTo cX12_goesTo 3 none ∈ lw_tbl := zme5 (List.mem_of_getElem? (i := 177) rfl)
theorem zcm129 : Cond.code yX12_rates cX12_rates 2 none ∈ lw_tbl := zme5 (List.mem_of_getElem? (i := 169) rfl)
theorem zcm130 : Cond.code yX12_rateOf cX12_rateOf 5 none ∈ lw_tbl := zme5 (List.mem_of_getElem? (i := 181) rfl)
theorem zcm131 : Cond.code yX12_may cX12_may 6 none ∈ lw_tbl := zme5 (List.mem_of_getElem? (i := 185) rfl)
theorem zcm132 : Cond.code yX12_seek cX12_seek 5 none ∈ lw_tbl := zme5 (List.mem_of_getElem? (i := 165) rfl)
theorem zcm133 : Cond.code yX12_moved cX12_moved 13 (some .long) ∈ lw_tbl := zme5 (List.mem_of_getElem? (i := 197) rfl)
theorem zcm134 : Cond.code yX12_passes cX12_passes 14 (some .boolean) ∈ lw_tbl := zme5 (List.mem_of_getElem? (i := 193) rfl)
theorem zcm135 : Cond.code yX12_lowest cX12_lowest 2 none ∈ lw_tbl := zme5 (List.mem_of_getElem? (i := 106) rfl)
theorem zcm136 : Cond.code yX12_pour cX12_pour 9 none ∈ lw_tbl := zme5 (List.mem_of_getElem? (i := 94) rfl)
theorem zcm137 : Cond.code yX12_note cX12_note 3 none ∈ lw_tbl := zme5 (List.mem_of_getElem? (i := 90) rfl)
theorem zcm138 : Cond.code yX12_moment cX12_moment 4 none ∈ lw_tbl := zme5 (List.mem_of_getElem? (i := 86) rfl)
theorem zcm139 : Cond.code yX12_floats cX12_floats 2 none ∈ lw_tbl := zme5 (List.mem_of_getElem? (i := 102) rfl)
theorem zcm140 : Cond.code yX12_hand cX12_hand 2 (some .int) ∈ lw_tbl := zme5 (List.mem_of_getElem? (i := 82) rfl)
theorem zcm141 : Cond.code yX12_vessel cX12_vessel 4 (some .int) ∈ lw_tbl := zme5 (List.mem_of_getElem? (i := 71) rfl)
theorem zcm142 : Cond.code yX12_marks cX12_marks 4 (some .int) ∈ lw_tbl := zme5 (List.mem_of_getElem? (i := 117) rfl)
theorem zcm143 : Cond.code yX12_own cX12_own 3 (some .int) ∈ lw_tbl := zme5 (List.mem_of_getElem? (i := 125) rfl)
theorem zcm144 : Cond.code yX12_isBehind cX12_isBehind 3 (some .boolean) ∈ lw_tbl := zme5 (List.mem_of_getElem? (i := 137) rfl)
theorem zcm145 : Cond.code yX12_tips cX12_tips 3 (some .int) ∈ lw_tbl := zme5 (List.mem_of_getElem? (i := 133) rfl)
theorem zcm146 : Cond.code yX12_over cX12_over 3 (some .int) ∈ lw_tbl := zme5 (List.mem_of_getElem? (i := 141) rfl)
theorem zcm147 : Cond.code yX12_pipe cX12_pipe 6 (some .int) ∈ lw_tbl := zme5 (List.mem_of_getElem? (i := 145) rfl)
theorem zcm148 : Cond.code yX12_fill cX12_fill 3 (some .int) ∈ lw_tbl := zme5 (List.mem_of_getElem? (i := 149) rfl)
theorem zcm149 : Cond.code yX12_shut cX12_shut 4 (some .int) ∈ lw_tbl := zme5 (List.mem_of_getElem? (i := 153) rfl)
theorem zcm150 : Cond.code yX12_amount cX12_amount 4 (some .int) ∈ lw_tbl := zme5 (List.mem_of_getElem? (i := 157) rfl)
theorem zcm151 : Cond.code yX12_step cX12_step 3 (some .int) ∈ lw_tbl := zme5 (List.mem_of_getElem? (i := 189) rfl)
theorem zcm152 : Cond.code yX12_go cX12_go 6 (some .int) ∈ lw_tbl := zme5 (List.mem_of_getElem? (i := 161) rfl)
theorem zcm153 : Cond.code yX12_part cX12_part 7 (some .long) ∈ lw_tbl := zme5 (List.mem_of_getElem? (i := 205) rfl)
theorem zcm154 : Cond.code yX12_now cX12_now 2 (some .int) ∈ lw_tbl := zme5 (List.mem_of_getElem? (i := 202) rfl)
theorem zcm155 : Cond.code yX12_next cX12_next 4 (some .long) ∈ lw_tbl := zme5 (List.mem_of_getElem? (i := 209) rfl)
theorem zcm156 : Cond.code yX12_level cX12_level 3 (some .int) ∈ lw_tbl := zme5 (List.mem_of_getElem? (i := 214) rfl)
theorem zcm157 : Cond.code yX12_rate cX12_rate 2 (some .int) ∈ lw_tbl := zme5 (List.mem_of_getElem? (i := 218) rfl)
theorem zcm158 : Cond.code yX12_flow cX12_flow 2 (some .int) ∈ lw_tbl := zme5 (List.mem_of_getElem? (i := 223) rfl)
theorem zcm159 : Cond.code yX12_flood cX12_flood 2 (some .int) ∈ lw_tbl := zme5 (List.mem_of_getElem? (i := 227) rfl)
theorem zcm160 : Cond.code yX12_told cX12_told 4 (some .int) ∈ lw_tbl := zme5 (List.mem_of_getElem? (i := 231) rfl)
theorem zcm161 : Cond.code yX12_pipeTold cX12_pipeTold 3 (some .int) ∈ lw_tbl := zme5 (List.mem_of_getElem? (i := 235) rfl)
theorem zcm162 : Cond.code yX12_count cX12_count 2 (some .int) ∈ lw_tbl := zme5 (List.mem_of_getElem? (i := 239) rfl)
theorem zcm163 : Cond.code yX12_event cX12_event 4 (some .int) ∈ lw_tbl := zme6 (List.mem_of_getElem? (i := 3) rfl)
theorem zcm164 : Cond.code yX12_sum cX12_sum 5 (some .long) ∈ lw_tbl := zme6 (List.mem_of_getElem? (i := 7) rfl)
theorem zcm165 : Cond.code yX12_keep cX12_keep 2 none ∈ lw_tbl := zme6 (List.mem_of_getElem? (i := 15) rfl)
theorem zcm166 : Cond.code yX12_back cX12_back 2 none ∈ lw_tbl := zme6 (List.mem_of_getElem? (i := 32) rfl)
theorem zcm167 : Cond.code yX12_put cX12_put 5 none ∈ lw_tbl := zme6 (List.mem_of_getElem? (i := 23) rfl)
theorem zcm168 : Cond.code yX12_isSame cX12_isSame 5 (some .boolean) ∈ lw_tbl := zme6 (List.mem_of_getElem? (i := 28) rfl)
theorem zcm169 : Cond.code yX12_seekRound cX12_seekRound 4 (some .int) ∈ lw_tbl := zme6 (List.mem_of_getElem? (i := 19) rfl)
theorem zcm170 : Cond.code yX12_round cX12_round 11 (some .int) ∈ lw_tbl := zme6 (List.mem_of_getElem? (i := 11) rfl)
theorem zcm171 : Cond.code yX12_shutsAt cX12_shutsAt 4 (some .boolean) ∈ lw_tbl := zme6 (List.mem_of_getElem? (i := 40) rfl)
theorem zcm172 : Cond.code yX12_tune cX12_tune 10 (some .int) ∈ lw_tbl := zme6 (List.mem_of_getElem? (i := 36) rfl)
theorem zcm173 : Cond.code yX12_ran cX12_ran 2 none ∈ lw_tbl := zme6 (List.mem_of_getElem? (i := 52) rfl)
theorem zcm174 : Cond.code yX12_vesselFill cX12_vesselFill 3 (some .int) ∈ lw_tbl := zme6 (List.mem_of_getElem? (i := 56) rfl)
theorem zcm175 : Cond.code yX12_fill0 cX12_fill0 3 (some .int) ∈ lw_tbl := zme6 (List.mem_of_getElem? (i := 48) rfl)
theorem zcm176 : Cond.code yX12_vesselTurn cX12_vesselTurn 3 (some .int) ∈ lw_tbl := zme6 (List.mem_of_getElem? (i := 64) rfl)
theorem zcm177 : Cond.code yX12_turn0 cX12_turn0 3 (some .int) ∈ lw_tbl := zme6 (List.mem_of_getElem? (i := 60) rfl)
theorem zcm178 : Cond.code yX12_count0 cX12_count0 3 (some .int) ∈ lw_tbl := zme6 (List.mem_of_getElem? (i := 68) rfl)
theorem zcm179 : Cond.code yX12_tell0 cX12_tell0 5 (some .int) ∈ lw_tbl := zme6 (List.mem_of_getElem? (i := 72) rfl)
theorem zcm180 : Cond.code yX12_act cX12_act 4 (some .int) ∈ lw_tbl := zme6 (List.mem_of_getElem? (i := 44) rfl)
theorem zcm181 : Cond.code yX12_trace cX12_trace 2 (some .int) ∈ lw_tbl := zme6 (List.mem_of_getElem? (i := 76) rfl)
theorem zcm182 : Cond.code yX12_modulo cX12_modulo 2 (some .int) ∈ lw_tbl := zme6 (List.mem_of_getElem? (i := 83) rfl)
theorem zcm183 : Cond.code yX12_sumOf cX12_sumOf 5 (some .int) ∈ lw_tbl := zme6 (List.mem_of_getElem? (i := 87) rfl)
theorem zcm184 : Cond.code yX12_forge cX12_forge 6 (some .int) ∈ lw_tbl := zme6 (List.mem_of_getElem? (i := 80) rfl)
theorem zcm185 : Cond.code yX12_status cX12_status 1 (some .int) ∈ lw_tbl := zme6 (List.mem_of_getElem? (i := 91) rfl)
theorem zcm186 : Cond.code yJ9_floorMod_7cf53 cJ9_floorMod_7cf53 3 (some .int) ∈ lw_tbl := zme4 (List.mem_of_getElem? (i := 109) rfl)
theorem zcm187 : Cond.code yJ9_min_7cf53 cJ9_min_7cf53 2 (some .int) ∈ lw_tbl := zme3 (List.mem_of_getElem? (i := 89) rfl)
theorem zcm188 : Cond.code yJ9_min_f86c9 cJ9_min_f86c9 4 (some .long) ∈ lw_tbl := zme2 (List.mem_of_getElem? (i := 174) rfl)
def zcwP (M : Nat) : Prop := Cond.code (zy M) (zc M) (zN M) (zret M) ∈ lw_tbl
theorem zcl0 : ∀ M, M < 0 → zcwP M := lt_0
theorem zcl1 : ∀ M, M < 1 → zcwP M := lt_s zcl0 zcm0
theorem zcl2 : ∀ M, M < 2 → zcwP M := lt_s zcl1 zcm1
theorem zcl3 : ∀ M, M < 3 → zcwP M := lt_s zcl2 zcm2
theorem zcl4 : ∀ M, M < 4 → zcwP M := lt_s zcl3 zcm3
theorem zcl5 : ∀ M, M < 5 → zcwP M := lt_s zcl4 zcm4
theorem zcl6 : ∀ M, M < 6 → zcwP M := lt_s zcl5 zcm5
theorem zcl7 : ∀ M, M < 7 → zcwP M := lt_s zcl6 zcm6
theorem zcl8 : ∀ M, M < 8 → zcwP M := lt_s zcl7 zcm7
theorem zcl9 : ∀ M, M < 9 → zcwP M := lt_s zcl8 zcm8
theorem zcl10 : ∀ M, M < 10 → zcwP M := lt_s zcl9 zcm9
theorem zcl11 : ∀ M, M < 11 → zcwP M := lt_s zcl10 zcm10
theorem zcl12 : ∀ M, M < 12 → zcwP M := lt_s zcl11 zcm11
theorem zcl13 : ∀ M, M < 13 → zcwP M := lt_s zcl12 zcm12
theorem zcl14 : ∀ M, M < 14 → zcwP M := lt_s zcl13 zcm13
theorem zcl15 : ∀ M, M < 15 → zcwP M := lt_s zcl14 zcm14
theorem zcl16 : ∀ M, M < 16 → zcwP M := lt_s zcl15 zcm15
theorem zcl17 : ∀ M, M < 17 → zcwP M := lt_s zcl16 zcm16
theorem zcl18 : ∀ M, M < 18 → zcwP M := lt_s zcl17 zcm17
theorem zcl19 : ∀ M, M < 19 → zcwP M := lt_s zcl18 zcm18
theorem zcl20 : ∀ M, M < 20 → zcwP M := lt_s zcl19 zcm19
theorem zcl21 : ∀ M, M < 21 → zcwP M := lt_s zcl20 zcm20
theorem zcl22 : ∀ M, M < 22 → zcwP M := lt_s zcl21 zcm21
theorem zcl23 : ∀ M, M < 23 → zcwP M := lt_s zcl22 zcm22
theorem zcl24 : ∀ M, M < 24 → zcwP M := lt_s zcl23 zcm23
theorem zcl25 : ∀ M, M < 25 → zcwP M := lt_s zcl24 zcm24
theorem zcl26 : ∀ M, M < 26 → zcwP M := lt_s zcl25 zcm25
theorem zcl27 : ∀ M, M < 27 → zcwP M := lt_s zcl26 zcm26
theorem zcl28 : ∀ M, M < 28 → zcwP M := lt_s zcl27 zcm27
theorem zcl29 : ∀ M, M < 29 → zcwP M := lt_s zcl28 zcm28
theorem zcl30 : ∀ M, M < 30 → zcwP M := lt_s zcl29 zcm29
theorem zcl31 : ∀ M, M < 31 → zcwP M := lt_s zcl30 zcm30
theorem zcl32 : ∀ M, M < 32 → zcwP M := lt_s zcl31 zcm31
theorem zcl33 : ∀ M, M < 33 → zcwP M := lt_s zcl32 zcm32
theorem zcl34 : ∀ M, M < 34 → zcwP M := lt_s zcl33 zcm33
theorem zcl35 : ∀ M, M < 35 → zcwP M := lt_s zcl34 zcm34
theorem zcl36 : ∀ M, M < 36 → zcwP M := lt_s zcl35 zcm35
theorem zcl37 : ∀ M, M < 37 → zcwP M := lt_s zcl36 zcm36
theorem zcl38 : ∀ M, M < 38 → zcwP M := lt_s zcl37 zcm37
theorem zcl39 : ∀ M, M < 39 → zcwP M := lt_s zcl38 zcm38
theorem zcl40 : ∀ M, M < 40 → zcwP M := lt_s zcl39 zcm39
theorem zcl41 : ∀ M, M < 41 → zcwP M := lt_s zcl40 zcm40
theorem zcl42 : ∀ M, M < 42 → zcwP M := lt_s zcl41 zcm41
theorem zcl43 : ∀ M, M < 43 → zcwP M := lt_s zcl42 zcm42
theorem zcl44 : ∀ M, M < 44 → zcwP M := lt_s zcl43 zcm43
theorem zcl45 : ∀ M, M < 45 → zcwP M := lt_s zcl44 zcm44
theorem zcl46 : ∀ M, M < 46 → zcwP M := lt_s zcl45 zcm45
theorem zcl47 : ∀ M, M < 47 → zcwP M := lt_s zcl46 zcm46
theorem zcl48 : ∀ M, M < 48 → zcwP M := lt_s zcl47 zcm47
theorem zcl49 : ∀ M, M < 49 → zcwP M := lt_s zcl48 zcm48
theorem zcl50 : ∀ M, M < 50 → zcwP M := lt_s zcl49 zcm49
theorem zcl51 : ∀ M, M < 51 → zcwP M := lt_s zcl50 zcm50
theorem zcl52 : ∀ M, M < 52 → zcwP M := lt_s zcl51 zcm51
theorem zcl53 : ∀ M, M < 53 → zcwP M := lt_s zcl52 zcm52
theorem zcl54 : ∀ M, M < 54 → zcwP M := lt_s zcl53 zcm53
theorem zcl55 : ∀ M, M < 55 → zcwP M := lt_s zcl54 zcm54
theorem zcl56 : ∀ M, M < 56 → zcwP M := lt_s zcl55 zcm55
theorem zcl57 : ∀ M, M < 57 → zcwP M := lt_s zcl56 zcm56
theorem zcl58 : ∀ M, M < 58 → zcwP M := lt_s zcl57 zcm57
theorem zcl59 : ∀ M, M < 59 → zcwP M := lt_s zcl58 zcm58
theorem zcl60 : ∀ M, M < 60 → zcwP M := lt_s zcl59 zcm59
theorem zcl61 : ∀ M, M < 61 → zcwP M := lt_s zcl60 zcm60
theorem zcl62 : ∀ M, M < 62 → zcwP M := lt_s zcl61 zcm61
theorem zcl63 : ∀ M, M < 63 → zcwP M := lt_s zcl62 zcm62
theorem zcl64 : ∀ M, M < 64 → zcwP M := lt_s zcl63 zcm63
theorem zcl65 : ∀ M, M < 65 → zcwP M := lt_s zcl64 zcm64
theorem zcl66 : ∀ M, M < 66 → zcwP M := lt_s zcl65 zcm65
theorem zcl67 : ∀ M, M < 67 → zcwP M := lt_s zcl66 zcm66
theorem zcl68 : ∀ M, M < 68 → zcwP M := lt_s zcl67 zcm67
theorem zcl69 : ∀ M, M < 69 → zcwP M := lt_s zcl68 zcm68
theorem zcl70 : ∀ M, M < 70 → zcwP M := lt_s zcl69 zcm69
theorem zcl71 : ∀ M, M < 71 → zcwP M := lt_s zcl70 zcm70
theorem zcl72 : ∀ M, M < 72 → zcwP M := lt_s zcl71 zcm71
theorem zcl73 : ∀ M, M < 73 → zcwP M := lt_s zcl72 zcm72
theorem zcl74 : ∀ M, M < 74 → zcwP M := lt_s zcl73 zcm73
theorem zcl75 : ∀ M, M < 75 → zcwP M := lt_s zcl74 zcm74
theorem zcl76 : ∀ M, M < 76 → zcwP M := lt_s zcl75 zcm75
theorem zcl77 : ∀ M, M < 77 → zcwP M := lt_s zcl76 zcm76
theorem zcl78 : ∀ M, M < 78 → zcwP M := lt_s zcl77 zcm77
theorem zcl79 : ∀ M, M < 79 → zcwP M := lt_s zcl78 zcm78
theorem zcl80 : ∀ M, M < 80 → zcwP M := lt_s zcl79 zcm79
theorem zcl81 : ∀ M, M < 81 → zcwP M := lt_s zcl80 zcm80
theorem zcl82 : ∀ M, M < 82 → zcwP M := lt_s zcl81 zcm81
theorem zcl83 : ∀ M, M < 83 → zcwP M := lt_s zcl82 zcm82
theorem zcl84 : ∀ M, M < 84 → zcwP M := lt_s zcl83 zcm83
theorem zcl85 : ∀ M, M < 85 → zcwP M := lt_s zcl84 zcm84
theorem zcl86 : ∀ M, M < 86 → zcwP M := lt_s zcl85 zcm85
theorem zcl87 : ∀ M, M < 87 → zcwP M := lt_s zcl86 zcm86
theorem zcl88 : ∀ M, M < 88 → zcwP M := lt_s zcl87 zcm87
theorem zcl89 : ∀ M, M < 89 → zcwP M := lt_s zcl88 zcm88
theorem zcl90 : ∀ M, M < 90 → zcwP M := lt_s zcl89 zcm89
theorem zcl91 : ∀ M, M < 91 → zcwP M := lt_s zcl90 zcm90
theorem zcl92 : ∀ M, M < 92 → zcwP M := lt_s zcl91 zcm91
theorem zcl93 : ∀ M, M < 93 → zcwP M := lt_s zcl92 zcm92
theorem zcl94 : ∀ M, M < 94 → zcwP M := lt_s zcl93 zcm93
theorem zcl95 : ∀ M, M < 95 → zcwP M := lt_s zcl94 zcm94
theorem zcl96 : ∀ M, M < 96 → zcwP M := lt_s zcl95 zcm95
theorem zcl97 : ∀ M, M < 97 → zcwP M := lt_s zcl96 zcm96
theorem zcl98 : ∀ M, M < 98 → zcwP M := lt_s zcl97 zcm97
theorem zcl99 : ∀ M, M < 99 → zcwP M := lt_s zcl98 zcm98
theorem zcl100 : ∀ M, M < 100 → zcwP M := lt_s zcl99 zcm99
theorem zcl101 : ∀ M, M < 101 → zcwP M := lt_s zcl100 zcm100
theorem zcl102 : ∀ M, M < 102 → zcwP M := lt_s zcl101 zcm101
theorem zcl103 : ∀ M, M < 103 → zcwP M := lt_s zcl102 zcm102
theorem zcl104 : ∀ M, M < 104 → zcwP M := lt_s zcl103 zcm103
theorem zcl105 : ∀ M, M < 105 → zcwP M := lt_s zcl104 zcm104
theorem zcl106 : ∀ M, M < 106 → zcwP M := lt_s zcl105 zcm105
theorem zcl107 : ∀ M, M < 107 → zcwP M := lt_s zcl106 zcm106
theorem zcl108 : ∀ M, M < 108 → zcwP M := lt_s zcl107 zcm107
theorem zcl109 : ∀ M, M < 109 → zcwP M := lt_s zcl108 zcm108
theorem zcl110 : ∀ M, M < 110 → zcwP M := lt_s zcl109 zcm109
theorem zcl111 : ∀ M, M < 111 → zcwP M := lt_s zcl110 zcm110
theorem zcl112 : ∀ M, M < 112 → zcwP M := lt_s zcl111 zcm111
theorem zcl113 : ∀ M, M < 113 → zcwP M := lt_s zcl112 zcm112
theorem zcl114 : ∀ M, M < 114 → zcwP M := lt_s zcl113 zcm113
theorem zcl115 : ∀ M, M < 115 → zcwP M := lt_s zcl114 zcm114
theorem zcl116 : ∀ M, M < 116 → zcwP M := lt_s zcl115 zcm115
theorem zcl117 : ∀ M, M < 117 → zcwP M := lt_s zcl116 zcm116
theorem zcl118 : ∀ M, M < 118 → zcwP M := lt_s zcl117 zcm117
theorem zcl119 : ∀ M, M < 119 → zcwP M := lt_s zcl118 zcm118
theorem zcl120 : ∀ M, M < 120 → zcwP M := lt_s zcl119 zcm119
theorem zcl121 : ∀ M, M < 121 → zcwP M := lt_s zcl120 zcm120
theorem zcl122 : ∀ M, M < 122 → zcwP M := lt_s zcl121 zcm121
theorem zcl123 : ∀ M, M < 123 → zcwP M := lt_s zcl122 zcm122
theorem zcl124 : ∀ M, M < 124 → zcwP M := lt_s zcl123 zcm123
theorem zcl125 : ∀ M, M < 125 → zcwP M := lt_s zcl124 zcm124
theorem zcl126 : ∀ M, M < 126 → zcwP M := lt_s zcl125 zcm125
theorem zcl127 : ∀ M, M < 127 → zcwP M := lt_s zcl126 zcm126
theorem zcl128 : ∀ M, M < 128 → zcwP M := lt_s zcl127 zcm127
theorem zcl129 : ∀ M, M < 129 → zcwP M := lt_s zcl128 zcm128
theorem zcl130 : ∀ M, M < 130 → zcwP M := lt_s zcl129 zcm129
theorem zcl131 : ∀ M, M < 131 → zcwP M := lt_s zcl130 zcm130
theorem zcl132 : ∀ M, M < 132 → zcwP M := lt_s zcl131 zcm131
theorem zcl133 : ∀ M, M < 133 → zcwP M := lt_s zcl132 zcm132
theorem zcl134 : ∀ M, M < 134 → zcwP M := lt_s zcl133 zcm133
theorem zcl135 : ∀ M, M < 135 → zcwP M := lt_s zcl134 zcm134
theorem zcl136 : ∀ M, M < 136 → zcwP M := lt_s zcl135 zcm135
theorem zcl137 : ∀ M, M < 137 → zcwP M := lt_s zcl136 zcm136
theorem zcl138 : ∀ M, M < 138 → zcwP M := lt_s zcl137 zcm137
theorem zcl139 : ∀ M, M < 139 → zcwP M := lt_s zcl138 zcm138
theorem zcl140 : ∀ M, M < 140 → zcwP M := lt_s zcl139 zcm139
theorem zcl141 : ∀ M, M < 141 → zcwP M := lt_s zcl140 zcm140
theorem zcl142 : ∀ M, M < 142 → zcwP M := lt_s zcl141 zcm141
theorem zcl143 : ∀ M, M < 143 → zcwP M := lt_s zcl142 zcm142
theorem zcl144 : ∀ M, M < 144 → zcwP M := lt_s zcl143 zcm143
theorem zcl145 : ∀ M, M < 145 → zcwP M := lt_s zcl144 zcm144
theorem zcl146 : ∀ M, M < 146 → zcwP M := lt_s zcl145 zcm145
theorem zcl147 : ∀ M, M < 147 → zcwP M := lt_s zcl146 zcm146
theorem zcl148 : ∀ M, M < 148 → zcwP M := lt_s zcl147 zcm147
theorem zcl149 : ∀ M, M < 149 → zcwP M := lt_s zcl148 zcm148
theorem zcl150 : ∀ M, M < 150 → zcwP M := lt_s zcl149 zcm149
theorem zcl151 : ∀ M, M < 151 → zcwP M := lt_s zcl150 zcm150
theorem zcl152 : ∀ M, M < 152 → zcwP M := lt_s zcl151 zcm151
theorem zcl153 : ∀ M, M < 153 → zcwP M := lt_s zcl152 zcm152
theorem zcl154 : ∀ M, M < 154 → zcwP M := lt_s zcl153 zcm153
theorem zcl155 : ∀ M, M < 155 → zcwP M := lt_s zcl154 zcm154
theorem zcl156 : ∀ M, M < 156 → zcwP M := lt_s zcl155 zcm155
theorem zcl157 : ∀ M, M < 157 → zcwP M := lt_s zcl156 zcm156
theorem zcl158 : ∀ M, M < 158 → zcwP M := lt_s zcl157 zcm157
theorem zcl159 : ∀ M, M < 159 → zcwP M := lt_s zcl158 zcm158
theorem zcl160 : ∀ M, M < 160 → zcwP M := lt_s zcl159 zcm159
theorem zcl161 : ∀ M, M < 161 → zcwP M := lt_s zcl160 zcm160
theorem zcl162 : ∀ M, M < 162 → zcwP M := lt_s zcl161 zcm161
theorem zcl163 : ∀ M, M < 163 → zcwP M := lt_s zcl162 zcm162
theorem zcl164 : ∀ M, M < 164 → zcwP M := lt_s zcl163 zcm163
theorem zcl165 : ∀ M, M < 165 → zcwP M := lt_s zcl164 zcm164
theorem zcl166 : ∀ M, M < 166 → zcwP M := lt_s zcl165 zcm165
theorem zcl167 : ∀ M, M < 167 → zcwP M := lt_s zcl166 zcm166
theorem zcl168 : ∀ M, M < 168 → zcwP M := lt_s zcl167 zcm167
theorem zcl169 : ∀ M, M < 169 → zcwP M := lt_s zcl168 zcm168
theorem zcl170 : ∀ M, M < 170 → zcwP M := lt_s zcl169 zcm169
theorem zcl171 : ∀ M, M < 171 → zcwP M := lt_s zcl170 zcm170
theorem zcl172 : ∀ M, M < 172 → zcwP M := lt_s zcl171 zcm171
theorem zcl173 : ∀ M, M < 173 → zcwP M := lt_s zcl172 zcm172
theorem zcl174 : ∀ M, M < 174 → zcwP M := lt_s zcl173 zcm173
theorem zcl175 : ∀ M, M < 175 → zcwP M := lt_s zcl174 zcm174
theorem zcl176 : ∀ M, M < 176 → zcwP M := lt_s zcl175 zcm175
theorem zcl177 : ∀ M, M < 177 → zcwP M := lt_s zcl176 zcm176
theorem zcl178 : ∀ M, M < 178 → zcwP M := lt_s zcl177 zcm177
theorem zcl179 : ∀ M, M < 179 → zcwP M := lt_s zcl178 zcm178
theorem zcl180 : ∀ M, M < 180 → zcwP M := lt_s zcl179 zcm179
theorem zcl181 : ∀ M, M < 181 → zcwP M := lt_s zcl180 zcm180
theorem zcl182 : ∀ M, M < 182 → zcwP M := lt_s zcl181 zcm181
theorem zcl183 : ∀ M, M < 183 → zcwP M := lt_s zcl182 zcm182
theorem zcl184 : ∀ M, M < 184 → zcwP M := lt_s zcl183 zcm183
theorem zcl185 : ∀ M, M < 185 → zcwP M := lt_s zcl184 zcm184
theorem zcl186 : ∀ M, M < 186 → zcwP M := lt_s zcl185 zcm185
theorem zcl187 : ∀ M, M < 187 → zcwP M := lt_s zcl186 zcm186
theorem zcl188 : ∀ M, M < 188 → zcwP M := lt_s zcl187 zcm187
theorem zcl189 : ∀ M, M < 189 → zcwP M := lt_s zcl188 zcm188
