def am_cw (y : mI) : Prop := Cond.code (am_nm y) (am_by y) (am_ml y) (am_rt y) ∈ lw_tbl
set_option maxRecDepth 20000 in
theorem am_wX0_init : am_cw mX0_init := List.mem_of_getElem? (i := 519) rfl
set_option maxRecDepth 20000 in
theorem am_wX0_greatest : am_cw mX0_greatest := List.mem_of_getElem? (i := 1050) rfl
set_option maxRecDepth 20000 in
theorem am_wX0_stuckOdds : am_cw mX0_stuckOdds := List.mem_of_getElem? (i := 1060) rfl
set_option maxRecDepth 20000 in
theorem am_wX0_goBackHour : am_cw mX0_goBackHour := List.mem_of_getElem? (i := 1066) rfl
set_option maxRecDepth 20000 in
theorem am_wX0_better : am_cw mX0_better := List.mem_of_getElem? (i := 1070) rfl
set_option maxRecDepth 20000 in
theorem am_wX1_init : am_cw mX1_init := List.mem_of_getElem? (i := 229) rfl
set_option maxRecDepth 20000 in
theorem am_wX1_clear : am_cw mX1_clear := List.mem_of_getElem? (i := 268) rfl
set_option maxRecDepth 20000 in
theorem am_wX1_copyFrom : am_cw mX1_copyFrom := List.mem_of_getElem? (i := 1140) rfl
set_option maxRecDepth 20000 in
theorem am_wX1_addCode : am_cw mX1_addCode := List.mem_of_getElem? (i := 788) rfl
set_option maxRecDepth 20000 in
theorem am_wX1_addLine : am_cw mX1_addLine := List.mem_of_getElem? (i := 808) rfl
set_option maxRecDepth 20000 in
theorem am_wX1_askFor : am_cw mX1_askFor := List.mem_of_getElem? (i := 868) rfl
set_option maxRecDepth 20000 in
theorem am_wX1_tellToSail : am_cw mX1_tellToSail := List.mem_of_getElem? (i := 885) rfl
set_option maxRecDepth 20000 in
theorem am_wX1_isSo : am_cw mX1_isSo := List.mem_of_getElem? (i := 889) rfl
set_option maxRecDepth 20000 in
theorem am_wX1_push : am_cw mX1_push := List.mem_of_getElem? (i := 893) rfl
set_option maxRecDepth 20000 in
theorem am_wX1_pop : am_cw mX1_pop := List.mem_of_getElem? (i := 897) rfl
set_option maxRecDepth 20000 in
theorem am_wX1_joined : am_cw mX1_joined := List.mem_of_getElem? (i := 901) rfl
set_option maxRecDepth 20000 in
theorem am_wX2_init : am_cw mX2_init := List.mem_of_getElem? (i := 370) rfl
set_option maxRecDepth 20000 in
theorem am_wX2_forget : am_cw mX2_forget := List.mem_of_getElem? (i := 584) rfl
set_option maxRecDepth 20000 in
theorem am_wX2_keep : am_cw mX2_keep := List.mem_of_getElem? (i := 825) rfl
set_option maxRecDepth 20000 in
theorem am_wX2_goBack : am_cw mX2_goBack := List.mem_of_getElem? (i := 1113) rfl
set_option maxRecDepth 20000 in
theorem am_wX3_init : am_cw mX3_init := List.mem_of_getElem? (i := 120) rfl
set_option maxRecDepth 20000 in
theorem am_wX3_startAnew : am_cw mX3_startAnew := List.mem_of_getElem? (i := 261) rfl
set_option maxRecDepth 20000 in
theorem am_wX3_copyFrom : am_cw mX3_copyFrom := List.mem_of_getElem? (i := 1125) rfl
set_option maxRecDepth 20000 in
theorem am_wX3_has : am_cw mX3_has := List.mem_of_getElem? (i := 592) rfl
set_option maxRecDepth 20000 in
theorem am_wX3_villageOf : am_cw mX3_villageOf := List.mem_of_getElem? (i := 630) rfl
set_option maxRecDepth 20000 in
theorem am_wX3_ropeOf : am_cw mX3_ropeOf := List.mem_of_getElem? (i := 967) rfl
set_option maxRecDepth 20000 in
theorem am_wX3_villageOn : am_cw mX3_villageOn := List.mem_of_getElem? (i := 614) rfl
set_option maxRecDepth 20000 in
theorem am_wX3_wellNear : am_cw mX3_wellNear := List.mem_of_getElem? (i := 943) rfl
set_option maxRecDepth 20000 in
theorem am_wX3_drawOfTen : am_cw mX3_drawOfTen := List.mem_of_getElem? (i := 851) rfl
set_option maxRecDepth 20000 in
theorem am_wX4_init : am_cw mX4_init := List.mem_of_getElem? (i := 490) rfl
set_option maxRecDepth 20000 in
theorem am_wX4_begin : am_cw mX4_begin := List.mem_of_getElem? (i := 983) rfl
set_option maxRecDepth 20000 in
theorem am_wX4_isStuck : am_cw mX4_isStuck := List.mem_of_getElem? (i := 998) rfl
set_option maxRecDepth 20000 in
theorem am_wX4_passHourFromNow : am_cw mX4_passHourFromNow := List.mem_of_getElem? (i := 994) rfl
set_option maxRecDepth 20000 in
theorem am_wX4_passHourOf : am_cw mX4_passHourOf := List.mem_of_getElem? (i := 1002) rfl
set_option maxRecDepth 20000 in
theorem am_wX4_gainBy : am_cw mX4_gainBy := List.mem_of_getElem? (i := 1008) rfl
set_option maxRecDepth 20000 in
theorem am_wX4_stepAll : am_cw mX4_stepAll := List.mem_of_getElem? (i := 1016) rfl
set_option maxRecDepth 20000 in
theorem am_wX4_isOpen : am_cw mX4_isOpen := List.mem_of_getElem? (i := 1078) rfl
set_option maxRecDepth 20000 in
theorem am_wX4_holds : am_cw mX4_holds := List.mem_of_getElem? (i := 990) rfl
set_option maxRecDepth 20000 in
theorem am_wX4_touches : am_cw mX4_touches := List.mem_of_getElem? (i := 1028) rfl
set_option maxRecDepth 20000 in
theorem am_wX4_countInto : am_cw mX4_countInto := List.mem_of_getElem? (i := 1037) rfl
set_option maxRecDepth 20000 in
theorem am_wX4_size : am_cw mX4_size := List.mem_of_getElem? (i := 1095) rfl
set_option maxRecDepth 20000 in
theorem am_wX4_cellBy : am_cw mX4_cellBy := List.mem_of_getElem? (i := 1105) rfl
set_option maxRecDepth 20000 in
theorem am_wX4_pushed : am_cw mX4_pushed := List.mem_of_getElem? (i := 1019) rfl
set_option maxRecDepth 20000 in
theorem am_wX5_init : am_cw mX5_init := List.mem_of_getElem? (i := 458) rfl
set_option maxRecDepth 20000 in
theorem am_wX5_forgetFault : am_cw mX5_forgetFault := List.mem_of_getElem? (i := 672) rfl
set_option maxRecDepth 20000 in
theorem am_wX5_exchange : am_cw mX5_exchange := List.mem_of_getElem? (i := 813) rfl
set_option maxRecDepth 20000 in
theorem am_wX5_readOrders : am_cw mX5_readOrders := List.mem_of_getElem? (i := 676) rfl
set_option maxRecDepth 20000 in
theorem am_wX5_advance : am_cw mX5_advance := List.mem_of_getElem? (i := 760) rfl
set_option maxRecDepth 20000 in
theorem am_wX5_fail : am_cw mX5_fail := List.mem_of_getElem? (i := 768) rfl
set_option maxRecDepth 20000 in
theorem am_wX5_expect : am_cw mX5_expect := List.mem_of_getElem? (i := 792) rfl
set_option maxRecDepth 20000 in
theorem am_wX5_readLine : am_cw mX5_readLine := List.mem_of_getElem? (i := 764) rfl
set_option maxRecDepth 20000 in
theorem am_wX5_readJoined : am_cw mX5_readJoined := List.mem_of_getElem? (i := 772) rfl
set_option maxRecDepth 20000 in
theorem am_wX5_readPart : am_cw mX5_readPart := List.mem_of_getElem? (i := 776) rfl
set_option maxRecDepth 20000 in
theorem am_wX5_readClaim : am_cw mX5_readClaim := List.mem_of_getElem? (i := 780) rfl
set_option maxRecDepth 20000 in
theorem am_wX5_readComparison : am_cw mX5_readComparison := List.mem_of_getElem? (i := 784) rfl
set_option maxRecDepth 20000 in
theorem am_wX5_checkDivisor : am_cw mX5_checkDivisor := List.mem_of_getElem? (i := 804) rfl
set_option maxRecDepth 20000 in
theorem am_wX5_readUnit : am_cw mX5_readUnit := List.mem_of_getElem? (i := 796) rfl
set_option maxRecDepth 20000 in
theorem am_wX5_levelOf : am_cw mX5_levelOf := List.mem_of_getElem? (i := 800) rfl
set_option maxRecDepth 20000 in
theorem am_wX6_init : am_cw mX6_init := List.mem_of_getElem? (i := 208) rfl
set_option maxRecDepth 20000 in
theorem am_wX6_startAnew : am_cw mX6_startAnew := List.mem_of_getElem? (i := 651) rfl
set_option maxRecDepth 20000 in
theorem am_wX6_copyFrom : am_cw mX6_copyFrom := List.mem_of_getElem? (i := 1135) rfl
set_option maxRecDepth 20000 in
theorem am_wX6_holdsOn : am_cw mX6_holdsOn := List.mem_of_getElem? (i := 881) rfl
set_option maxRecDepth 20000 in
theorem am_wX6_otherThan : am_cw mX6_otherThan := List.mem_of_getElem? (i := 921) rfl
set_option maxRecDepth 20000 in
theorem am_wX6_told : am_cw mX6_told := List.mem_of_getElem? (i := 971) rfl
set_option maxRecDepth 20000 in
theorem am_wX7_init : am_cw mX7_init := List.mem_of_getElem? (i := 435) rfl
set_option maxRecDepth 20000 in
theorem am_wX7_addNumber : am_cw mX7_addNumber := List.mem_of_getElem? (i := 659) rfl
set_option maxRecDepth 20000 in
theorem am_wX7_signAt : am_cw mX7_signAt := List.mem_of_getElem? (i := 684) rfl
set_option maxRecDepth 20000 in
theorem am_wX7_split : am_cw mX7_split := List.mem_of_getElem? (i := 680) rfl
set_option maxRecDepth 20000 in
theorem am_wX7_endOfRun : am_cw mX7_endOfRun := List.mem_of_getElem? (i := 688) rfl
set_option maxRecDepth 20000 in
theorem am_wX7_tokenOf : am_cw mX7_tokenOf := List.mem_of_getElem? (i := 698) rfl
set_option maxRecDepth 20000 in
theorem am_wX7_numberOf : am_cw mX7_numberOf := List.mem_of_getElem? (i := 755) rfl
set_option maxRecDepth 20000 in
theorem am_wX7_wordOf : am_cw mX7_wordOf := List.mem_of_getElem? (i := 702) rfl
set_option maxRecDepth 20000 in
theorem am_wX7_isLetter : am_cw mX7_isLetter := List.mem_of_getElem? (i := 691) rfl
set_option maxRecDepth 20000 in
theorem am_wX7_isDigit : am_cw mX7_isDigit := List.mem_of_getElem? (i := 694) rfl
set_option maxRecDepth 20000 in
theorem am_wX8_init : am_cw mX8_init := List.mem_of_getElem? (i := 377) rfl
set_option maxRecDepth 20000 in
theorem am_wX8_take : am_cw mX8_take := List.mem_of_getElem? (i := 832) rfl
set_option maxRecDepth 20000 in
theorem am_wX8_giveBack : am_cw mX8_giveBack := List.mem_of_getElem? (i := 1117) rfl
set_option maxRecDepth 20000 in
theorem am_wX9_init : am_cw mX9_init := List.mem_of_getElem? (i := 131) rfl
set_option maxRecDepth 20000 in
theorem am_wX9_startAnew : am_cw mX9_startAnew := List.mem_of_getElem? (i := 618) rfl
set_option maxRecDepth 20000 in
theorem am_wX9_copyFrom : am_cw mX9_copyFrom := List.mem_of_getElem? (i := 1130) rfl
set_option maxRecDepth 20000 in
theorem am_wX9_copyCourse : am_cw mX9_copyCourse := List.mem_of_getElem? (i := 839) rfl
set_option maxRecDepth 20000 in
theorem am_wX9_farFrom : am_cw mX9_farFrom := List.mem_of_getElem? (i := 638) rfl
set_option maxRecDepth 20000 in
theorem am_wX9_stepsBy : am_cw mX9_stepsBy := List.mem_of_getElem? (i := 909) rfl
set_option maxRecDepth 20000 in
theorem am_wX9_told : am_cw mX9_told := List.mem_of_getElem? (i := 954) rfl
set_option maxRecDepth 20000 in
theorem am_wX10_init : am_cw mX10_init := List.mem_of_getElem? (i := 416) rfl
set_option maxRecDepth 20000 in
theorem am_wX10_passHour : am_cw mX10_passHour := List.mem_of_getElem? (i := 846) rfl
set_option maxRecDepth 20000 in
theorem am_wX10_isToldToSail : am_cw mX10_isToldToSail := List.mem_of_getElem? (i := 861) rfl
set_option maxRecDepth 20000 in
theorem am_wX10_countNear : am_cw mX10_countNear := List.mem_of_getElem? (i := 872) rfl
set_option maxRecDepth 20000 in
theorem am_wX10_countTied : am_cw mX10_countTied := List.mem_of_getElem? (i := 877) rfl
set_option maxRecDepth 20000 in
theorem am_wX10_sailOut : am_cw mX10_sailOut := List.mem_of_getElem? (i := 905) rfl
set_option maxRecDepth 20000 in
theorem am_wX10_isHeld : am_cw mX10_isHeld := List.mem_of_getElem? (i := 917) rfl
set_option maxRecDepth 20000 in
theorem am_wX10_step : am_cw mX10_step := List.mem_of_getElem? (i := 926) rfl
set_option maxRecDepth 20000 in
theorem am_wX10_countMeetings : am_cw mX10_countMeetings := List.mem_of_getElem? (i := 931) rfl
set_option maxRecDepth 20000 in
theorem am_wX10_drink : am_cw mX10_drink := List.mem_of_getElem? (i := 939) rfl
set_option maxRecDepth 20000 in
theorem am_wX10_turned : am_cw mX10_turned := List.mem_of_getElem? (i := 856) rfl
set_option maxRecDepth 20000 in
theorem am_wX11_init : am_cw mX11_init := List.mem_of_getElem? (i := 112) rfl
set_option maxRecDepth 20000 in
theorem am_wX11_state : am_cw mX11_state := List.mem_of_getElem? (i := 572) rfl
set_option maxRecDepth 20000 in
theorem am_wX11_plain : am_cw mX11_plain := List.mem_of_getElem? (i := 576) rfl
set_option maxRecDepth 20000 in
theorem am_wX11_crust : am_cw mX11_crust := List.mem_of_getElem? (i := 588) rfl
set_option maxRecDepth 20000 in
theorem am_wX11_well : am_cw mX11_well := List.mem_of_getElem? (i := 600) rfl
set_option maxRecDepth 20000 in
theorem am_wX11_wind : am_cw mX11_wind := List.mem_of_getElem? (i := 604) rfl
set_option maxRecDepth 20000 in
theorem am_wX11_village : am_cw mX11_village := List.mem_of_getElem? (i := 610) rfl
set_option maxRecDepth 20000 in
theorem am_wX11_set : am_cw mX11_set := List.mem_of_getElem? (i := 622) rfl
set_option maxRecDepth 20000 in
theorem am_wX11_setLimit : am_cw mX11_setLimit := List.mem_of_getElem? (i := 626) rfl
set_option maxRecDepth 20000 in
theorem am_wX11_rope : am_cw mX11_rope := List.mem_of_getElem? (i := 634) rfl
set_option maxRecDepth 20000 in
theorem am_wX11_feed : am_cw mX11_feed := List.mem_of_getElem? (i := 655) rfl
set_option maxRecDepth 20000 in
theorem am_wX11_end : am_cw mX11_end := List.mem_of_getElem? (i := 664) rfl
set_option maxRecDepth 20000 in
theorem am_wX11_text : am_cw mX11_text := List.mem_of_getElem? (i := 668) rfl
set_option maxRecDepth 20000 in
theorem am_wX11_fault : am_cw mX11_fault := List.mem_of_getElem? (i := 817) rfl
set_option maxRecDepth 20000 in
theorem am_wX11_hours : am_cw mX11_hours := List.mem_of_getElem? (i := 821) rfl
set_option maxRecDepth 20000 in
theorem am_wX11_of : am_cw mX11_of := List.mem_of_getElem? (i := 950) rfl
set_option maxRecDepth 20000 in
theorem am_wX11_met : am_cw mX11_met := List.mem_of_getElem? (i := 958) rfl
set_option maxRecDepth 20000 in
theorem am_wX11_tie : am_cw mX11_tie := List.mem_of_getElem? (i := 963) rfl
set_option maxRecDepth 20000 in
theorem am_wX11_at : am_cw mX11_at := List.mem_of_getElem? (i := 975) rfl
set_option maxRecDepth 20000 in
theorem am_wX11_soon : am_cw mX11_soon := List.mem_of_getElem? (i := 979) rfl
set_option maxRecDepth 20000 in
theorem am_wX11_meeting : am_cw mX11_meeting := List.mem_of_getElem? (i := 1024) rfl
set_option maxRecDepth 20000 in
theorem am_wX11_market : am_cw mX11_market := List.mem_of_getElem? (i := 1032) rfl
set_option maxRecDepth 20000 in
theorem am_wX11_mostCrowded : am_cw mX11_mostCrowded := List.mem_of_getElem? (i := 1041) rfl
set_option maxRecDepth 20000 in
theorem am_wX11_odds : am_cw mX11_odds := List.mem_of_getElem? (i := 1045) rfl
set_option maxRecDepth 20000 in
theorem am_wX11_seen : am_cw mX11_seen := List.mem_of_getElem? (i := 1086) rfl
set_option maxRecDepth 20000 in
theorem am_wX11_places : am_cw mX11_places := List.mem_of_getElem? (i := 1090) rfl
set_option maxRecDepth 20000 in
theorem am_wX11_undo : am_cw mX11_undo := List.mem_of_getElem? (i := 1109) rfl
set_option maxRecDepth 20000 in
theorem am_wX11_image : am_cw mX11_image := List.mem_of_getElem? (i := 1121) rfl
set_option maxRecDepth 20000 in
theorem am_wX11_look : am_cw mX11_look := List.mem_of_getElem? (i := 1145) rfl
set_option maxRecDepth 20000 in
theorem am_wX11_lookFurther : am_cw mX11_lookFurther := List.mem_of_getElem? (i := 1149) rfl
set_option maxRecDepth 20000 in
theorem am_wX11_within : am_cw mX11_within := List.mem_of_getElem? (i := 579) rfl
set_option maxRecDepth 20000 in
theorem am_wX11_cell : am_cw mX11_cell := List.mem_of_getElem? (i := 596) rfl
set_option maxRecDepth 20000 in
theorem am_wX11_pair : am_cw mX11_pair := List.mem_of_getElem? (i := 934) rfl
set_option maxRecDepth 20000 in
theorem am_wX11_far : am_cw mX11_far := List.mem_of_getElem? (i := 641) rfl
set_option maxRecDepth 20000 in
theorem am_wX12_init : am_cw mX12_init := List.mem_of_getElem? (i := 1154) rfl
set_option maxRecDepth 20000 in
theorem am_wX12_isIn : am_cw mX12_isIn := List.mem_of_getElem? (i := 1328) rfl
set_option maxRecDepth 20000 in
theorem am_wX12_greater : am_cw mX12_greater := List.mem_of_getElem? (i := 1380) rfl
set_option maxRecDepth 20000 in
theorem am_wX12_without : am_cw mX12_without := List.mem_of_getElem? (i := 1376) rfl
set_option maxRecDepth 20000 in
theorem am_wX12_keepsAhead : am_cw mX12_keepsAhead := List.mem_of_getElem? (i := 1480) rfl
set_option maxRecDepth 20000 in
theorem am_wX12_undo : am_cw mX12_undo := List.mem_of_getElem? (i := 1316) rfl
set_option maxRecDepth 20000 in
theorem am_wX12_state : am_cw mX12_state := List.mem_of_getElem? (i := 1320) rfl
set_option maxRecDepth 20000 in
theorem am_wX12_draw : am_cw mX12_draw := List.mem_of_getElem? (i := 1488) rfl
set_option maxRecDepth 20000 in
theorem am_wX12_isCell : am_cw mX12_isCell := List.mem_of_getElem? (i := 1336) rfl
set_option maxRecDepth 20000 in
theorem am_wX12_isVillage : am_cw mX12_isVillage := List.mem_of_getElem? (i := 1364) rfl
set_option maxRecDepth 20000 in
theorem am_wX12_cellOf : am_cw mX12_cellOf := List.mem_of_getElem? (i := 1356) rfl
set_option maxRecDepth 20000 in
theorem am_wX12_crustAt : am_cw mX12_crustAt := List.mem_of_getElem? (i := 1498) rfl
set_option maxRecDepth 20000 in
theorem am_wX12_far : am_cw mX12_far := List.mem_of_getElem? (i := 1372) rfl
set_option maxRecDepth 20000 in
theorem am_wX12_plain : am_cw mX12_plain := List.mem_of_getElem? (i := 1324) rfl
set_option maxRecDepth 20000 in
theorem am_wX12_crust : am_cw mX12_crust := List.mem_of_getElem? (i := 1332) rfl
set_option maxRecDepth 20000 in
theorem am_wX12_well : am_cw mX12_well := List.mem_of_getElem? (i := 1340) rfl
set_option maxRecDepth 20000 in
theorem am_wX12_wind : am_cw mX12_wind := List.mem_of_getElem? (i := 1344) rfl
set_option maxRecDepth 20000 in
theorem am_wX12_villageAt : am_cw mX12_villageAt := List.mem_of_getElem? (i := 1352) rfl
set_option maxRecDepth 20000 in
theorem am_wX12_village : am_cw mX12_village := List.mem_of_getElem? (i := 1348) rfl
set_option maxRecDepth 20000 in
theorem am_wX12_set : am_cw mX12_set := List.mem_of_getElem? (i := 1360) rfl
set_option maxRecDepth 20000 in
theorem am_wX12_rope : am_cw mX12_rope := List.mem_of_getElem? (i := 1368) rfl
set_option maxRecDepth 20000 in
theorem am_wX12_types : am_cw mX12_types := List.mem_of_getElem? (i := 1388) rfl
set_option maxRecDepth 20000 in
theorem am_wX12_feed : am_cw mX12_feed := List.mem_of_getElem? (i := 1384) rfl
set_option maxRecDepth 20000 in
theorem am_wX12_end : am_cw mX12_end := List.mem_of_getElem? (i := 1392) rfl
set_option maxRecDepth 20000 in
theorem am_wX12_raw : am_cw mX12_raw := List.mem_of_getElem? (i := 1404) rfl
set_option maxRecDepth 20000 in
theorem am_wX12_isLetter : am_cw mX12_isLetter := List.mem_of_getElem? (i := 1408) rfl
set_option maxRecDepth 20000 in
theorem am_wX12_isDigit : am_cw mX12_isDigit := List.mem_of_getElem? (i := 1416) rfl
set_option maxRecDepth 20000 in
theorem am_wX12_isMarkSign : am_cw mX12_isMarkSign := List.mem_of_getElem? (i := 1420) rfl
set_option maxRecDepth 20000 in
theorem am_wX12_wordAt : am_cw mX12_wordAt := List.mem_of_getElem? (i := 1412) rfl
set_option maxRecDepth 20000 in
theorem am_wX12_reads : am_cw mX12_reads := List.mem_of_getElem? (i := 1400) rfl
set_option maxRecDepth 20000 in
theorem am_wX12_errs : am_cw mX12_errs := List.mem_of_getElem? (i := 1428) rfl
set_option maxRecDepth 20000 in
theorem am_wX12_isWord : am_cw mX12_isWord := List.mem_of_getElem? (i := 1432) rfl
set_option maxRecDepth 20000 in
theorem am_wX12_isSign : am_cw mX12_isSign := List.mem_of_getElem? (i := 1440) rfl
set_option maxRecDepth 20000 in
theorem am_wX12_emits : am_cw mX12_emits := List.mem_of_getElem? (i := 1464) rfl
set_option maxRecDepth 20000 in
theorem am_wX12_readUnit : am_cw mX12_readUnit := List.mem_of_getElem? (i := 1460) rfl
set_option maxRecDepth 20000 in
theorem am_wX12_readProduct : am_cw mX12_readProduct := List.mem_of_getElem? (i := 1456) rfl
set_option maxRecDepth 20000 in
theorem am_wX12_readSum : am_cw mX12_readSum := List.mem_of_getElem? (i := 1452) rfl
set_option maxRecDepth 20000 in
theorem am_wX12_readCompared : am_cw mX12_readCompared := List.mem_of_getElem? (i := 1448) rfl
set_option maxRecDepth 20000 in
theorem am_wX12_waits : am_cw mX12_waits := List.mem_of_getElem? (i := 1444) rfl
set_option maxRecDepth 20000 in
theorem am_wX12_settles : am_cw mX12_settles := List.mem_of_getElem? (i := 1468) rfl
set_option maxRecDepth 20000 in
theorem am_wX12_readAny : am_cw mX12_readAny := List.mem_of_getElem? (i := 1436) rfl
set_option maxRecDepth 20000 in
theorem am_wX12_readText : am_cw mX12_readText := List.mem_of_getElem? (i := 1424) rfl
set_option maxRecDepth 20000 in
theorem am_wX12_text : am_cw mX12_text := List.mem_of_getElem? (i := 1396) rfl
set_option maxRecDepth 20000 in
theorem am_wX12_fault : am_cw mX12_fault := List.mem_of_getElem? (i := 1472) rfl
set_option maxRecDepth 20000 in
theorem am_wX12_twoOf : am_cw mX12_twoOf := List.mem_of_getElem? (i := 1510) rfl
set_option maxRecDepth 20000 in
theorem am_wX12_isSo : am_cw mX12_isSo := List.mem_of_getElem? (i := 1506) rfl
set_option maxRecDepth 20000 in
theorem am_wX12_nextX : am_cw mX12_nextX := List.mem_of_getElem? (i := 1526) rfl
set_option maxRecDepth 20000 in
theorem am_wX12_nextY : am_cw mX12_nextY := List.mem_of_getElem? (i := 1530) rfl
set_option maxRecDepth 20000 in
theorem am_wX12_nextTo : am_cw mX12_nextTo := List.mem_of_getElem? (i := 1522) rfl
set_option maxRecDepth 20000 in
theorem am_wX12_stepsOf : am_cw mX12_stepsOf := List.mem_of_getElem? (i := 1518) rfl
set_option maxRecDepth 20000 in
theorem am_wX12_isShort : am_cw mX12_isShort := List.mem_of_getElem? (i := 1538) rfl
set_option maxRecDepth 20000 in
theorem am_wX12_tiedTo : am_cw mX12_tiedTo := List.mem_of_getElem? (i := 1502) rfl
set_option maxRecDepth 20000 in
theorem am_wX12_isToldToSail : am_cw mX12_isToldToSail := List.mem_of_getElem? (i := 1494) rfl
set_option maxRecDepth 20000 in
theorem am_wX12_doRopesLet : am_cw mX12_doRopesLet := List.mem_of_getElem? (i := 1534) rfl
set_option maxRecDepth 20000 in
theorem am_wX12_sails : am_cw mX12_sails := List.mem_of_getElem? (i := 1514) rfl
set_option maxRecDepth 20000 in
theorem am_wX12_meets : am_cw mX12_meets := List.mem_of_getElem? (i := 1542) rfl
set_option maxRecDepth 20000 in
theorem am_wX12_thirsts : am_cw mX12_thirsts := List.mem_of_getElem? (i := 1546) rfl
set_option maxRecDepth 20000 in
theorem am_wX12_goesBy : am_cw mX12_goesBy := List.mem_of_getElem? (i := 1484) rfl
set_option maxRecDepth 20000 in
theorem am_wX12_hours : am_cw mX12_hours := List.mem_of_getElem? (i := 1476) rfl
set_option maxRecDepth 20000 in
theorem am_wX12_of : am_cw mX12_of := List.mem_of_getElem? (i := 1550) rfl
set_option maxRecDepth 20000 in
theorem am_wX12_met : am_cw mX12_met := List.mem_of_getElem? (i := 1554) rfl
set_option maxRecDepth 20000 in
theorem am_wX12_tie : am_cw mX12_tie := List.mem_of_getElem? (i := 1558) rfl
set_option maxRecDepth 20000 in
theorem am_wX12_at : am_cw mX12_at := List.mem_of_getElem? (i := 1562) rfl
set_option maxRecDepth 20000 in
theorem am_wX12_comesTo : am_cw mX12_comesTo := List.mem_of_getElem? (i := 1578) rfl
set_option maxRecDepth 20000 in
theorem am_wX12_startsAt : am_cw mX12_startsAt := List.mem_of_getElem? (i := 1570) rfl
set_option maxRecDepth 20000 in
theorem am_wX12_goesOn : am_cw mX12_goesOn := List.mem_of_getElem? (i := 1574) rfl
set_option maxRecDepth 20000 in
theorem am_wX12_soon : am_cw mX12_soon := List.mem_of_getElem? (i := 1566) rfl
set_option maxRecDepth 20000 in
theorem am_wX12_canMeet : am_cw mX12_canMeet := List.mem_of_getElem? (i := 1586) rfl
set_option maxRecDepth 20000 in
theorem am_wX12_meeting : am_cw mX12_meeting := List.mem_of_getElem? (i := 1582) rfl
set_option maxRecDepth 20000 in
theorem am_wX12_market : am_cw mX12_market := List.mem_of_getElem? (i := 1590) rfl
set_option maxRecDepth 20000 in
theorem am_wX12_bestBy : am_cw mX12_bestBy := List.mem_of_getElem? (i := 1599) rfl
set_option maxRecDepth 20000 in
theorem am_wX12_odds : am_cw mX12_odds := List.mem_of_getElem? (i := 1594) rfl
set_option maxRecDepth 20000 in
theorem am_wX12_seen : am_cw mX12_seen := List.mem_of_getElem? (i := 1604) rfl
set_option maxRecDepth 20000 in
theorem am_wX12_places : am_cw mX12_places := List.mem_of_getElem? (i := 1608) rfl
set_option maxRecDepth 20000 in
theorem am_wX12_kept : am_cw mX12_kept := List.mem_of_getElem? (i := 1616) rfl
set_option maxRecDepth 20000 in
theorem am_wX12_keepsOrders : am_cw mX12_keepsOrders := List.mem_of_getElem? (i := 1620) rfl
set_option maxRecDepth 20000 in
theorem am_wX12_image : am_cw mX12_image := List.mem_of_getElem? (i := 1612) rfl
set_option maxRecDepth 20000 in
theorem am_wX12_look : am_cw mX12_look := List.mem_of_getElem? (i := 1624) rfl
set_option maxRecDepth 20000 in
theorem am_wJ6_bitCount_0f7a4 : am_cw mJ6_bitCount_0f7a4 := List.mem_of_getElem? (i := 1098) rfl
set_option maxRecDepth 20000 in
theorem am_wJ9_floorMod_7cf53 : am_cw mJ9_floorMod_7cf53 := List.mem_of_getElem? (i := 828) rfl
set_option maxRecDepth 20000 in
theorem am_wJ9_abs_0f7a4 : am_cw mJ9_abs_0f7a4 := List.mem_of_getElem? (i := 644) rfl
set_option maxRecDepth 20000 in
theorem am_wJ9_max_7cf53 : am_cw mJ9_max_7cf53 := List.mem_of_getElem? (i := 647) rfl
set_option maxRecDepth 20000 in
theorem am_wJ9_max_f86c9 : am_cw mJ9_max_f86c9 := List.mem_of_getElem? (i := 1081) rfl
set_option maxRecDepth 20000 in
theorem am_wJ9_min_7cf53 : am_cw mJ9_min_7cf53 := List.mem_of_getElem? (i := 842) rfl
set_option maxRecDepth 20000 in
theorem am_wJ0_length_8abf5 : am_cw mJ0_length_8abf5 := List.mem_of_getElem? (i := 707) rfl
set_option maxRecDepth 20000 in
theorem am_wJ0_charAt_5068e : am_cw mJ0_charAt_5068e := List.mem_of_getElem? (i := 717) rfl
set_option maxRecDepth 20000 in
theorem am_wJ0_coder_7d493 : am_cw mJ0_coder_7d493 := List.mem_of_getElem? (i := 711) rfl
set_option maxRecDepth 20000 in
theorem am_wJ0_isLatin1_aae02 : am_cw mJ0_isLatin1_aae02 := List.mem_of_getElem? (i := 721) rfl
set_option maxRecDepth 20000 in
theorem am_wJ0_checkIndex_df160 : am_cw mJ0_checkIndex_df160 := List.mem_of_getElem? (i := 727) rfl
set_option maxRecDepth 20000 in
theorem am_wJ1_charAt_3b067 : am_cw mJ1_charAt_3b067 := List.mem_of_getElem? (i := 724) rfl
set_option maxRecDepth 20000 in
theorem am_wJ7_fill_d0a16 : am_cw mJ7_fill_d0a16 := List.mem_of_getElem? (i := 1054) rfl
set_option maxRecDepth 20000 in
theorem am_wJ7_fill_53178 : am_cw mJ7_fill_53178 := List.mem_of_getElem? (i := 264) rfl
set_option maxRecDepth 20000 in
theorem am_wJ3_checkIndex_8e157 : am_cw mJ3_checkIndex_8e157 := List.mem_of_getElem? (i := 732) rfl
theorem am_cc0 : ∀ e ∈ am_cls 0, am_cw e.2.2.2 := List.forall_mem_cons.mpr ⟨am_wX3_has, List.forall_mem_cons.mpr ⟨am_wJ7_fill_d0a16, List.forall_mem_cons.mpr ⟨am_wX11_cell, List.forall_mem_cons.mpr ⟨am_wX4_isStuck, List.forall_mem_cons.mpr ⟨am_wX0_stuckOdds, List.forall_mem_cons.mpr ⟨am_wJ9_floorMod_7cf53, List.forall_mem_cons.mpr ⟨am_wX0_goBackHour, List.forall_mem_cons.mpr ⟨am_wX0_better, List.forall_mem_cons.mpr ⟨am_wX10_turned, List.forall_mem_cons.mpr ⟨am_wX11_within, List.forall_mem_cons.mpr ⟨am_wX9_stepsBy, List.forall_mem_cons.mpr ⟨am_wX4_isOpen, List.forall_mem_cons.mpr ⟨am_wJ9_max_f86c9, fun _ h => absurd h List.not_mem_nil⟩⟩⟩⟩⟩⟩⟩⟩⟩⟩⟩⟩⟩
theorem am_cc1 : ∀ e ∈ am_cls 1, am_cw e.2.2.2 := List.forall_mem_cons.mpr ⟨am_wX11_within, List.forall_mem_cons.mpr ⟨am_wX1_isSo, List.forall_mem_cons.mpr ⟨am_wX1_push, List.forall_mem_cons.mpr ⟨am_wX1_pop, List.forall_mem_cons.mpr ⟨am_wX1_joined, fun _ h => absurd h List.not_mem_nil⟩⟩⟩⟩⟩
theorem am_cc2 : ∀ e ∈ am_cls 2, am_cw e.2.2.2 := List.forall_mem_cons.mpr ⟨am_wX8_init, List.forall_mem_cons.mpr ⟨am_wJ9_floorMod_7cf53, List.forall_mem_cons.mpr ⟨am_wX8_take, List.forall_mem_cons.mpr ⟨am_wJ9_min_7cf53, List.forall_mem_cons.mpr ⟨am_wX8_giveBack, fun _ h => absurd h List.not_mem_nil⟩⟩⟩⟩⟩
theorem am_cc3 : ∀ e ∈ am_cls 3, am_cw e.2.2.2 := List.forall_mem_cons.mpr ⟨am_wX9_init, List.forall_mem_cons.mpr ⟨am_wX6_init, List.forall_mem_cons.mpr ⟨am_wX1_init, List.forall_mem_cons.mpr ⟨am_wX3_startAnew, List.forall_mem_cons.mpr ⟨am_wJ7_fill_53178, List.forall_mem_cons.mpr ⟨am_wX1_clear, List.forall_mem_cons.mpr ⟨am_wX9_copyFrom, List.forall_mem_cons.mpr ⟨am_wX6_copyFrom, List.forall_mem_cons.mpr ⟨am_wX1_copyFrom, List.forall_mem_cons.mpr ⟨am_wX11_within, List.forall_mem_cons.mpr ⟨am_wJ9_min_7cf53, List.forall_mem_cons.mpr ⟨am_wJ9_max_7cf53, List.forall_mem_cons.mpr ⟨am_wX11_cell, fun _ h => absurd h List.not_mem_nil⟩⟩⟩⟩⟩⟩⟩⟩⟩⟩⟩⟩⟩
theorem am_cc4 : ∀ e ∈ am_cls 4, am_cw e.2.2.2 := List.forall_mem_cons.mpr ⟨am_wJ7_fill_53178, List.forall_mem_cons.mpr ⟨am_wX11_cell, List.forall_mem_cons.mpr ⟨am_wX3_has, List.forall_mem_cons.mpr ⟨am_wX4_isStuck, List.forall_mem_cons.mpr ⟨am_wX4_passHourOf, List.forall_mem_cons.mpr ⟨am_wJ9_floorMod_7cf53, List.forall_mem_cons.mpr ⟨am_wX4_gainBy, List.forall_mem_cons.mpr ⟨am_wX10_turned, List.forall_mem_cons.mpr ⟨am_wX9_stepsBy, List.forall_mem_cons.mpr ⟨am_wX11_within, List.forall_mem_cons.mpr ⟨am_wX4_stepAll, List.forall_mem_cons.mpr ⟨am_wX4_pushed, List.forall_mem_cons.mpr ⟨am_wJ6_bitCount_0f7a4, fun _ h => absurd h List.not_mem_nil⟩⟩⟩⟩⟩⟩⟩⟩⟩⟩⟩⟩⟩
theorem am_cc5 : ∀ e ∈ am_cls 5, am_cw e.2.2.2 := List.forall_mem_cons.mpr ⟨am_wX1_init, List.forall_mem_cons.mpr ⟨am_wX7_split, List.forall_mem_cons.mpr ⟨am_wX1_clear, List.forall_mem_cons.mpr ⟨am_wX5_advance, List.forall_mem_cons.mpr ⟨am_wX5_readLine, List.forall_mem_cons.mpr ⟨am_wX5_fail, List.forall_mem_cons.mpr ⟨am_wX5_readJoined, List.forall_mem_cons.mpr ⟨am_wX5_expect, List.forall_mem_cons.mpr ⟨am_wX1_addLine, List.forall_mem_cons.mpr ⟨am_wX5_readPart, List.forall_mem_cons.mpr ⟨am_wX5_levelOf, List.forall_mem_cons.mpr ⟨am_wX5_checkDivisor, List.forall_mem_cons.mpr ⟨am_wX1_addCode, List.forall_mem_cons.mpr ⟨am_wX5_readClaim, List.forall_mem_cons.mpr ⟨am_wX5_readUnit, List.forall_mem_cons.mpr ⟨am_wX5_readComparison, List.forall_mem_cons.mpr ⟨am_wX11_within, fun _ h => absurd h List.not_mem_nil⟩⟩⟩⟩⟩⟩⟩⟩⟩⟩⟩⟩⟩⟩⟩⟩⟩
theorem am_cc6 : ∀ e ∈ am_cls 6, am_cw e.2.2.2 := List.forall_mem_cons.mpr ⟨am_wX6_startAnew, fun _ h => absurd h List.not_mem_nil⟩
theorem am_cc7 : ∀ e ∈ am_cls 7, am_cw e.2.2.2 := List.forall_mem_cons.mpr ⟨am_wX11_within, List.forall_mem_cons.mpr ⟨am_wX7_signAt, List.forall_mem_cons.mpr ⟨am_wX7_endOfRun, List.forall_mem_cons.mpr ⟨am_wX7_tokenOf, List.forall_mem_cons.mpr ⟨am_wX7_isLetter, List.forall_mem_cons.mpr ⟨am_wX7_isDigit, List.forall_mem_cons.mpr ⟨am_wX7_wordOf, List.forall_mem_cons.mpr ⟨am_wX7_numberOf, List.forall_mem_cons.mpr ⟨am_wJ0_length_8abf5, List.forall_mem_cons.mpr ⟨am_wJ0_charAt_5068e, fun _ h => absurd h List.not_mem_nil⟩⟩⟩⟩⟩⟩⟩⟩⟩⟩
theorem am_cc8 : ∀ e ∈ am_cls 8, am_cw e.2.2.2 := List.forall_mem_cons.mpr ⟨am_wX9_init, List.forall_mem_cons.mpr ⟨am_wX9_copyCourse, fun _ h => absurd h List.not_mem_nil⟩⟩
theorem am_cc9 : ∀ e ∈ am_cls 9, am_cw e.2.2.2 := List.forall_mem_cons.mpr ⟨am_wX9_copyCourse, List.forall_mem_cons.mpr ⟨am_wX11_far, List.forall_mem_cons.mpr ⟨am_wJ9_min_7cf53, fun _ h => absurd h List.not_mem_nil⟩⟩⟩
theorem am_cc10 : ∀ e ∈ am_cls 10, am_cw e.2.2.2 := List.forall_mem_cons.mpr ⟨am_wJ9_floorMod_7cf53, List.forall_mem_cons.mpr ⟨am_wX3_drawOfTen, List.forall_mem_cons.mpr ⟨am_wX10_turned, List.forall_mem_cons.mpr ⟨am_wX10_isToldToSail, List.forall_mem_cons.mpr ⟨am_wX10_sailOut, List.forall_mem_cons.mpr ⟨am_wX10_countMeetings, List.forall_mem_cons.mpr ⟨am_wX10_drink, List.forall_mem_cons.mpr ⟨am_wX11_within, List.forall_mem_cons.mpr ⟨am_wX3_has, List.forall_mem_cons.mpr ⟨am_wX11_cell, List.forall_mem_cons.mpr ⟨am_wX1_askFor, List.forall_mem_cons.mpr ⟨am_wX10_countNear, List.forall_mem_cons.mpr ⟨am_wX10_countTied, List.forall_mem_cons.mpr ⟨am_wX1_tellToSail, List.forall_mem_cons.mpr ⟨am_wX9_farFrom, List.forall_mem_cons.mpr ⟨am_wX6_holdsOn, List.forall_mem_cons.mpr ⟨am_wX9_stepsBy, List.forall_mem_cons.mpr ⟨am_wX3_villageOn, List.forall_mem_cons.mpr ⟨am_wX10_isHeld, List.forall_mem_cons.mpr ⟨am_wX10_step, List.forall_mem_cons.mpr ⟨am_wX6_otherThan, List.forall_mem_cons.mpr ⟨am_wX3_villageOf, List.forall_mem_cons.mpr ⟨am_wJ9_max_7cf53, List.forall_mem_cons.mpr ⟨am_wX11_pair, List.forall_mem_cons.mpr ⟨am_wX3_wellNear, fun _ h => absurd h List.not_mem_nil⟩⟩⟩⟩⟩⟩⟩⟩⟩⟩⟩⟩⟩⟩⟩⟩⟩⟩⟩⟩⟩⟩⟩⟩⟩
theorem am_cc11 : ∀ e ∈ am_cls 11, am_cw e.2.2.2 := List.forall_mem_cons.mpr ⟨am_wX3_init, List.forall_mem_cons.mpr ⟨am_wX2_init, List.forall_mem_cons.mpr ⟨am_wX10_init, List.forall_mem_cons.mpr ⟨am_wX7_init, List.forall_mem_cons.mpr ⟨am_wX5_init, List.forall_mem_cons.mpr ⟨am_wX4_init, List.forall_mem_cons.mpr ⟨am_wX0_init, List.forall_mem_cons.mpr ⟨am_wX11_within, List.forall_mem_cons.mpr ⟨am_wX3_startAnew, List.forall_mem_cons.mpr ⟨am_wX2_forget, List.forall_mem_cons.mpr ⟨am_wX3_has, List.forall_mem_cons.mpr ⟨am_wX11_cell, List.forall_mem_cons.mpr ⟨am_wX3_villageOn, List.forall_mem_cons.mpr ⟨am_wX9_startAnew, List.forall_mem_cons.mpr ⟨am_wX11_setLimit, List.forall_mem_cons.mpr ⟨am_wX3_villageOf, List.forall_mem_cons.mpr ⟨am_wX9_farFrom, List.forall_mem_cons.mpr ⟨am_wX6_startAnew, List.forall_mem_cons.mpr ⟨am_wX7_addNumber, List.forall_mem_cons.mpr ⟨am_wX5_forgetFault, List.forall_mem_cons.mpr ⟨am_wX5_readOrders, List.forall_mem_cons.mpr ⟨am_wX5_exchange, List.forall_mem_cons.mpr ⟨am_wX2_keep, List.forall_mem_cons.mpr ⟨am_wX10_passHour, List.forall_mem_cons.mpr ⟨am_wX9_told, List.forall_mem_cons.mpr ⟨am_wX11_pair, List.forall_mem_cons.mpr ⟨am_wX3_ropeOf, List.forall_mem_cons.mpr ⟨am_wX6_told, List.forall_mem_cons.mpr ⟨am_wX4_begin, List.forall_mem_cons.mpr ⟨am_wX4_holds, List.forall_mem_cons.mpr ⟨am_wX4_passHourFromNow, List.forall_mem_cons.mpr ⟨am_wX4_touches, List.forall_mem_cons.mpr ⟨am_wJ7_fill_53178, List.forall_mem_cons.mpr ⟨am_wX4_countInto, List.forall_mem_cons.mpr ⟨am_wX11_mostCrowded, List.forall_mem_cons.mpr ⟨am_wX0_greatest, List.forall_mem_cons.mpr ⟨am_wX4_passHourOf, List.forall_mem_cons.mpr ⟨am_wX4_size, List.forall_mem_cons.mpr ⟨am_wX4_cellBy, List.forall_mem_cons.mpr ⟨am_wX2_goBack, List.forall_mem_cons.mpr ⟨am_wX3_copyFrom, List.forall_mem_cons.mpr ⟨am_wX11_lookFurther, List.forall_mem_cons.mpr ⟨am_wJ9_min_7cf53, List.forall_mem_cons.mpr ⟨am_wJ9_max_7cf53, List.forall_mem_cons.mpr ⟨am_wJ9_abs_0f7a4, fun _ h => absurd h List.not_mem_nil⟩⟩⟩⟩⟩⟩⟩⟩⟩⟩⟩⟩⟩⟩⟩⟩⟩⟩⟩⟩⟩⟩⟩⟩⟩⟩⟩⟩⟩⟩⟩⟩⟩⟩⟩⟩⟩⟩⟩⟩⟩⟩⟩⟩⟩
theorem am_cc12 : ∀ e ∈ am_cls 12, am_cw e.2.2.2 := List.forall_mem_cons.mpr ⟨am_wX12_without, List.forall_mem_cons.mpr ⟨am_wX12_greater, List.forall_mem_cons.mpr ⟨am_wX12_isIn, List.forall_mem_cons.mpr ⟨am_wX12_isCell, List.forall_mem_cons.mpr ⟨am_wX12_cellOf, List.forall_mem_cons.mpr ⟨am_wX12_villageAt, List.forall_mem_cons.mpr ⟨am_wX12_isVillage, List.forall_mem_cons.mpr ⟨am_wX12_far, List.forall_mem_cons.mpr ⟨am_wX12_types, List.forall_mem_cons.mpr ⟨am_wX12_raw, List.forall_mem_cons.mpr ⟨am_wX12_isLetter, List.forall_mem_cons.mpr ⟨am_wX12_wordAt, List.forall_mem_cons.mpr ⟨am_wX12_isDigit, List.forall_mem_cons.mpr ⟨am_wX12_isMarkSign, List.forall_mem_cons.mpr ⟨am_wX12_errs, List.forall_mem_cons.mpr ⟨am_wX12_emits, List.forall_mem_cons.mpr ⟨am_wX12_reads, List.forall_mem_cons.mpr ⟨am_wX12_readUnit, List.forall_mem_cons.mpr ⟨am_wX12_isSign, List.forall_mem_cons.mpr ⟨am_wX12_readProduct, List.forall_mem_cons.mpr ⟨am_wX12_readSum, List.forall_mem_cons.mpr ⟨am_wX12_isWord, List.forall_mem_cons.mpr ⟨am_wX12_waits, List.forall_mem_cons.mpr ⟨am_wX12_readCompared, List.forall_mem_cons.mpr ⟨am_wX12_settles, List.forall_mem_cons.mpr ⟨am_wX12_readAny, List.forall_mem_cons.mpr ⟨am_wX12_readText, List.forall_mem_cons.mpr ⟨am_wX12_twoOf, List.forall_mem_cons.mpr ⟨am_wX12_nextX, List.forall_mem_cons.mpr ⟨am_wX12_nextY, List.forall_mem_cons.mpr ⟨am_wX12_crustAt, List.forall_mem_cons.mpr ⟨am_wX12_tiedTo, List.forall_mem_cons.mpr ⟨am_wX12_isSo, List.forall_mem_cons.mpr ⟨am_wX12_isShort, List.forall_mem_cons.mpr ⟨am_wX12_stepsOf, List.forall_mem_cons.mpr ⟨am_wX12_nextTo, List.forall_mem_cons.mpr ⟨am_wX12_doRopesLet, List.forall_mem_cons.mpr ⟨am_wX12_draw, List.forall_mem_cons.mpr ⟨am_wX12_isToldToSail, List.forall_mem_cons.mpr ⟨am_wX12_sails, List.forall_mem_cons.mpr ⟨am_wX12_meets, List.forall_mem_cons.mpr ⟨am_wX12_thirsts, List.forall_mem_cons.mpr ⟨am_wX12_keepsAhead, List.forall_mem_cons.mpr ⟨am_wX12_goesBy, List.forall_mem_cons.mpr ⟨am_wX12_comesTo, List.forall_mem_cons.mpr ⟨am_wX12_startsAt, List.forall_mem_cons.mpr ⟨am_wX12_goesOn, List.forall_mem_cons.mpr ⟨am_wX12_canMeet, List.forall_mem_cons.mpr ⟨am_wX12_bestBy, List.forall_mem_cons.mpr ⟨am_wX12_kept, List.forall_mem_cons.mpr ⟨am_wX12_keepsOrders, fun _ h => absurd h List.not_mem_nil⟩⟩⟩⟩⟩⟩⟩⟩⟩⟩⟩⟩⟩⟩⟩⟩⟩⟩⟩⟩⟩⟩⟩⟩⟩⟩⟩⟩⟩⟩⟩⟩⟩⟩⟩⟩⟩⟩⟩⟩⟩⟩⟩⟩⟩⟩⟩⟩⟩⟩⟩
theorem am_cc13 : ∀ e ∈ am_cls 13, am_cw e.2.2.2 := List.forall_mem_cons.mpr ⟨am_wX11_init, List.forall_mem_cons.mpr ⟨am_wX12_init, List.forall_mem_cons.mpr ⟨am_wX11_state, List.forall_mem_cons.mpr ⟨am_wX12_state, List.forall_mem_cons.mpr ⟨am_wX11_plain, List.forall_mem_cons.mpr ⟨am_wX12_plain, List.forall_mem_cons.mpr ⟨am_wX11_crust, List.forall_mem_cons.mpr ⟨am_wX12_crust, List.forall_mem_cons.mpr ⟨am_wX11_well, List.forall_mem_cons.mpr ⟨am_wX12_well, List.forall_mem_cons.mpr ⟨am_wX11_wind, List.forall_mem_cons.mpr ⟨am_wX12_wind, List.forall_mem_cons.mpr ⟨am_wX11_village, List.forall_mem_cons.mpr ⟨am_wX12_village, List.forall_mem_cons.mpr ⟨am_wX11_set, List.forall_mem_cons.mpr ⟨am_wX12_set, List.forall_mem_cons.mpr ⟨am_wX11_rope, List.forall_mem_cons.mpr ⟨am_wX12_rope, List.forall_mem_cons.mpr ⟨am_wX11_feed, List.forall_mem_cons.mpr ⟨am_wX12_feed, List.forall_mem_cons.mpr ⟨am_wX11_end, List.forall_mem_cons.mpr ⟨am_wX12_end, List.forall_mem_cons.mpr ⟨am_wX11_text, List.forall_mem_cons.mpr ⟨am_wX12_text, List.forall_mem_cons.mpr ⟨am_wX11_fault, List.forall_mem_cons.mpr ⟨am_wX12_fault, List.forall_mem_cons.mpr ⟨am_wX11_hours, List.forall_mem_cons.mpr ⟨am_wX12_hours, List.forall_mem_cons.mpr ⟨am_wX11_of, List.forall_mem_cons.mpr ⟨am_wX12_of, List.forall_mem_cons.mpr ⟨am_wX11_met, List.forall_mem_cons.mpr ⟨am_wX12_met, List.forall_mem_cons.mpr ⟨am_wX11_tie, List.forall_mem_cons.mpr ⟨am_wX12_tie, List.forall_mem_cons.mpr ⟨am_wX11_at, List.forall_mem_cons.mpr ⟨am_wX12_at, List.forall_mem_cons.mpr ⟨am_wX11_soon, List.forall_mem_cons.mpr ⟨am_wX12_soon, List.forall_mem_cons.mpr ⟨am_wX11_meeting, List.forall_mem_cons.mpr ⟨am_wX12_meeting, List.forall_mem_cons.mpr ⟨am_wX11_market, List.forall_mem_cons.mpr ⟨am_wX12_market, List.forall_mem_cons.mpr ⟨am_wX11_odds, List.forall_mem_cons.mpr ⟨am_wX12_odds, List.forall_mem_cons.mpr ⟨am_wX11_seen, List.forall_mem_cons.mpr ⟨am_wX12_seen, List.forall_mem_cons.mpr ⟨am_wX11_places, List.forall_mem_cons.mpr ⟨am_wX12_places, List.forall_mem_cons.mpr ⟨am_wX11_undo, List.forall_mem_cons.mpr ⟨am_wX12_undo, List.forall_mem_cons.mpr ⟨am_wX11_image, List.forall_mem_cons.mpr ⟨am_wX12_image, List.forall_mem_cons.mpr ⟨am_wX11_look, List.forall_mem_cons.mpr ⟨am_wX12_look, fun _ h => absurd h List.not_mem_nil⟩⟩⟩⟩⟩⟩⟩⟩⟩⟩⟩⟩⟩⟩⟩⟩⟩⟩⟩⟩⟩⟩⟩⟩⟩⟩⟩⟩⟩⟩⟩⟩⟩⟩⟩⟩⟩⟩⟩⟩⟩⟩⟩⟩⟩⟩⟩⟩⟩⟩⟩⟩⟩⟩
theorem am_cc14 : ∀ e ∈ am_cls 14, am_cw e.2.2.2 := fun _ h => absurd h List.not_mem_nil
theorem am_cc15 : ∀ e ∈ am_cls 15, am_cw e.2.2.2 := fun _ h => absurd h List.not_mem_nil
theorem am_cc16 : ∀ e ∈ am_cls 16, am_cw e.2.2.2 := List.forall_mem_cons.mpr ⟨am_wJ0_coder_7d493, List.forall_mem_cons.mpr ⟨am_wJ0_isLatin1_aae02, List.forall_mem_cons.mpr ⟨am_wJ1_charAt_3b067, List.forall_mem_cons.mpr ⟨am_wJ3_checkIndex_8e157, fun _ h => absurd h List.not_mem_nil⟩⟩⟩⟩
theorem am_cc17 : ∀ e ∈ am_cls 17, am_cw e.2.2.2 := List.forall_mem_cons.mpr ⟨am_wJ0_checkIndex_df160, fun _ h => absurd h List.not_mem_nil⟩
theorem am_cc18 : ∀ e ∈ am_cls 18, am_cw e.2.2.2 := fun _ h => absurd h List.not_mem_nil
theorem am_cc19 : ∀ e ∈ am_cls 19, am_cw e.2.2.2 := fun _ h => absurd h List.not_mem_nil
theorem am_cwok {own n : Nat} {f : Nat × Nat × mI} (h : (am_cls own).lookup n = some f) : am_cw f.2.2 := by
  have hm := am_lk h
  match own, hm with
  | 0, hm => exact am_cc0 _ hm
  | 1, hm => exact am_cc1 _ hm
  | 2, hm => exact am_cc2 _ hm
  | 3, hm => exact am_cc3 _ hm
  | 4, hm => exact am_cc4 _ hm
  | 5, hm => exact am_cc5 _ hm
  | 6, hm => exact am_cc6 _ hm
  | 7, hm => exact am_cc7 _ hm
  | 8, hm => exact am_cc8 _ hm
  | 9, hm => exact am_cc9 _ hm
  | 10, hm => exact am_cc10 _ hm
  | 11, hm => exact am_cc11 _ hm
  | 12, hm => exact am_cc12 _ hm
  | 13, hm => exact am_cc13 _ hm
  | 14, hm => exact am_cc14 _ hm
  | 15, hm => exact am_cc15 _ hm
  | 16, hm => exact am_cc16 _ hm
  | 17, hm => exact am_cc17 _ hm
  | 18, hm => exact am_cc18 _ hm
  | 19, hm => exact am_cc19 _ hm
  | k + 20, hm => exact absurd hm List.not_mem_nil
theorem am_zall {α β : Type} {ok : α → β → Bool} {l : List α} {m : List β} (h : (l.zip m).all (fun q => ok q.1 q.2) = true) (hl : l.length = m.length) {a : α} (ha : a ∈ l) : ∃ b, ok a b = true := by
  obtain ⟨i, hi, e⟩ := List.getElem_of_mem ha
  refine ⟨m[i]'(hl ▸ hi), ?_⟩
  have hm : (a, m[i]'(hl ▸ hi)) ∈ l.zip m := by
    rw [← e]
    exact List.mem_iff_getElem.mpr ⟨i, by simp; omega, by simp⟩
  exact List.all_eq_true.mp h _ hm
theorem am_cok {own n : Nat} {f : Nat × Nat × mI} (h : (am_cls own).lookup n = some f) : ∃ p, am_okC (am_cn own) (n, f) p = true := by
  have hm := am_lk h
  match own, hm with
  | 0, hm => exact am_zall (ok := am_okC (am_cn 0)) am_c0 am_l0 hm
  | 1, hm => exact am_zall (ok := am_okC (am_cn 1)) am_c1 am_l1 hm
  | 2, hm => exact am_zall (ok := am_okC (am_cn 2)) am_c2 am_l2 hm
  | 3, hm => exact am_zall (ok := am_okC (am_cn 3)) am_c3 am_l3 hm
  | 4, hm => exact am_zall (ok := am_okC (am_cn 4)) am_c4 am_l4 hm
  | 5, hm => exact am_zall (ok := am_okC (am_cn 5)) am_c5 am_l5 hm
  | 6, hm => exact am_zall (ok := am_okC (am_cn 6)) am_c6 am_l6 hm
  | 7, hm => exact am_zall (ok := am_okC (am_cn 7)) am_c7 am_l7 hm
  | 8, hm => exact am_zall (ok := am_okC (am_cn 8)) am_c8 am_l8 hm
  | 9, hm => exact am_zall (ok := am_okC (am_cn 9)) am_c9 am_l9 hm
  | 10, hm => exact am_zall (ok := am_okC (am_cn 10)) am_c10 am_l10 hm
  | 11, hm => exact am_zall (ok := am_okC (am_cn 11)) am_c11 am_l11 hm
  | 12, hm => exact am_zall (ok := am_okC (am_cn 12)) am_c12 am_l12 hm
  | 13, hm => exact am_zall (ok := am_okC (am_cn 13)) am_c13 am_l13 hm
  | 14, hm => exact am_zall (ok := am_okC (am_cn 14)) am_c14 am_l14 hm
  | 15, hm => exact am_zall (ok := am_okC (am_cn 15)) am_c15 am_l15 hm
  | 16, hm => exact am_zall (ok := am_okC (am_cn 16)) am_c16 am_l16 hm
  | 17, hm => exact am_zall (ok := am_okC (am_cn 17)) am_c17 am_l17 hm
  | 18, hm => exact am_zall (ok := am_okC (am_cn 18)) am_c18 am_l18 hm
  | 19, hm => exact am_zall (ok := am_okC (am_cn 19)) am_c19 am_l19 hm
  | k + 20, hm => exact absurd hm List.not_mem_nil
