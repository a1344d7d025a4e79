theorem mf_X0_init : MthI yX0_init cX0_init 4 3 := ⟨im_yX0_init, ini_X0, co_yX0_init, by decide, by decide, rfl, by decide +kernel⟩
theorem mf_X0_canBe : MthS yX0_canBe cX0_canBe 3 (some .boolean) 3 := ⟨st_yX0_canBe, ini_X0, co_yX0_canBe, by decide, by decide, by decide +kernel⟩
theorem mf_X0_isCondition : MthS yX0_isCondition cX0_isCondition 1 (some .boolean) 1 := ⟨st_yX0_isCondition, ini_X0, co_yX0_isCondition, by decide, by decide, by decide +kernel⟩
theorem mf_X0_isEffect : MthS yX0_isEffect cX0_isEffect 1 (some .boolean) 1 := ⟨st_yX0_isEffect, ini_X0, co_yX0_isEffect, by decide, by decide, by decide +kernel⟩
theorem mf_X0_holds : MthV yX0_holds cX0_holds 3 (some .boolean) 1 := ⟨im_yX0_holds, se_yX0_holds, ini_X0, co_yX0_holds, by decide, by decide, by decide +kernel⟩
theorem mf_X0_stateBehind : MthV yX0_stateBehind cX0_stateBehind 4 (some .int) 2 := ⟨im_yX0_stateBehind, se_yX0_stateBehind, ini_X0, co_yX0_stateBehind, by decide, by decide, by decide +kernel⟩
theorem mf_X0_resultIn : MthV yX0_resultIn cX0_resultIn 2 (some .int) 1 := ⟨im_yX0_resultIn, se_yX0_resultIn, ini_X0, co_yX0_resultIn, by decide, by decide, by decide +kernel⟩
theorem mf_X1_init : MthI yX1_init cX1_init 1 0 := ⟨im_yX1_init, ini_X1, co_yX1_init, by decide, by decide, rfl, by decide +kernel⟩
theorem mf_X1_size : MthV yX1_size cX1_size 1 (some .int) 0 := ⟨im_yX1_size, se_yX1_size, ini_X1, co_yX1_size, by decide, by decide, by decide +kernel⟩
theorem mf_X1_add : MthV yX1_add cX1_add 4 (some .int) 2 := ⟨im_yX1_add, se_yX1_add, ini_X1, co_yX1_add, by decide, by decide, by decide +kernel⟩
theorem mf_X1_clear : MthV yX1_clear cX1_clear 2 (some .int) 0 := ⟨im_yX1_clear, se_yX1_clear, ini_X1, co_yX1_clear, by decide, by decide, by decide +kernel⟩
theorem mf_X1_tell : MthV yX1_tell cX1_tell 3 (some .int) 2 := ⟨im_yX1_tell, se_yX1_tell, ini_X1, co_yX1_tell, by decide, by decide, by decide +kernel⟩
theorem mf_X2_init : MthI yX2_init cX2_init 1 0 := ⟨im_yX2_init, ini_X2, co_yX2_init, by decide, by decide, rfl, by decide +kernel⟩
theorem mf_X2_hasRoom : MthV yX2_hasRoom cX2_hasRoom 2 (some .boolean) 1 := ⟨im_yX2_hasRoom, se_yX2_hasRoom, ini_X2, co_yX2_hasRoom, by decide, by decide, by decide +kernel⟩
theorem mf_X2_has : MthV yX2_has cX2_has 2 (some .boolean) 1 := ⟨im_yX2_has, se_yX2_has, ini_X2, co_yX2_has, by decide, by decide, by decide +kernel⟩
theorem mf_X2_add : MthV yX2_add cX2_add 3 (some .int) 2 := ⟨im_yX2_add, se_yX2_add, ini_X2, co_yX2_add, by decide, by decide, by decide +kernel⟩
theorem mf_X2_put : MthV yX2_put cX2_put 3 none 2 := ⟨im_yX2_put, se_yX2_put, ini_X2, co_yX2_put, by decide, by decide, by decide +kernel⟩
theorem mf_X2_allBits : MthV yX2_allBits cX2_allBits 3 (some .int) 0 := ⟨im_yX2_allBits, se_yX2_allBits, ini_X2, co_yX2_allBits, by decide, by decide, by decide +kernel⟩
theorem mf_X2_takenBy : MthV yX2_takenBy cX2_takenBy 6 (some .int) 2 := ⟨im_yX2_takenBy, se_yX2_takenBy, ini_X2, co_yX2_takenBy, by decide, by decide, by decide +kernel⟩
theorem mf_X2_stateBehind : MthV yX2_stateBehind cX2_stateBehind 4 (some .int) 3 := ⟨im_yX2_stateBehind, se_yX2_stateBehind, ini_X2, co_yX2_stateBehind, by decide, by decide, by decide +kernel⟩
theorem mf_X2_resultOf : MthV yX2_resultOf cX2_resultOf 3 (some .int) 2 := ⟨im_yX2_resultOf, se_yX2_resultOf, ini_X2, co_yX2_resultOf, by decide, by decide, by decide +kernel⟩
theorem mf_X3_init : MthI yX3_init cX3_init 1 0 := ⟨im_yX3_init, ini_X3, co_yX3_init, by decide, by decide, rfl, by decide +kernel⟩
theorem mf_X3_settle : MthV yX3_settle cX3_settle 2 none 1 := ⟨im_yX3_settle, se_yX3_settle, ini_X3, co_yX3_settle, by decide, by decide, by decide +kernel⟩
theorem mf_X4_init : MthI yX4_init cX4_init 2 1 := ⟨im_yX4_init, ini_X4, co_yX4_init, by decide, by decide, rfl, by decide +kernel⟩
theorem mf_X4_play : MthV yX4_play cX4_play 5 none 1 := ⟨im_yX4_play, se_yX4_play, ini_X4, co_yX4_play, by decide, by decide, by decide +kernel⟩
theorem mf_X4_meets : MthV yX4_meets cX4_meets 2 (some .int) 1 := ⟨im_yX4_meets, se_yX4_meets, ini_X4, co_yX4_meets, by decide, by decide, by decide +kernel⟩
theorem mf_X4_met : MthV yX4_met cX4_met 1 (some .int) 0 := ⟨im_yX4_met, se_yX4_met, ini_X4, co_yX4_met, by decide, by decide, by decide +kernel⟩
theorem mf_X4_lastTaken : MthV yX4_lastTaken cX4_lastTaken 1 (some .int) 0 := ⟨im_yX4_lastTaken, se_yX4_lastTaken, ini_X4, co_yX4_lastTaken, by decide, by decide, by decide +kernel⟩
theorem mf_X4_lastResult : MthV yX4_lastResult cX4_lastResult 1 (some .int) 0 := ⟨im_yX4_lastResult, se_yX4_lastResult, ini_X4, co_yX4_lastResult, by decide, by decide, by decide +kernel⟩
theorem mf_X4_resultAt : MthV yX4_resultAt cX4_resultAt 2 (some .int) 1 := ⟨im_yX4_resultAt, se_yX4_resultAt, ini_X4, co_yX4_resultAt, by decide, by decide, by decide +kernel⟩
theorem mf_X4_firstDifference : MthV yX4_firstDifference cX4_firstDifference 3 (some .int) 1 := ⟨im_yX4_firstDifference, se_yX4_firstDifference, ini_X4, co_yX4_firstDifference, by decide, by decide, by decide +kernel⟩
theorem mf_X4_differences : MthV yX4_differences cX4_differences 4 (some .int) 1 := ⟨im_yX4_differences, se_yX4_differences, ini_X4, co_yX4_differences, by decide, by decide, by decide +kernel⟩
theorem mf_X5_init : MthI yX5_init cX5_init 1 0 := ⟨im_yX5_init, ini_X5, co_yX5_init, by decide, by decide, rfl, by decide +kernel⟩
theorem mf_X5_size : MthV yX5_size cX5_size 1 (some .int) 0 := ⟨im_yX5_size, se_yX5_size, ini_X5, co_yX5_size, by decide, by decide, by decide +kernel⟩
theorem mf_X5_callAt : MthV yX5_callAt cX5_callAt 2 (some .int) 1 := ⟨im_yX5_callAt, se_yX5_callAt, ini_X5, co_yX5_callAt, by decide, by decide, by decide +kernel⟩
theorem mf_X5_resultAt : MthV yX5_resultAt cX5_resultAt 2 (some .int) 1 := ⟨im_yX5_resultAt, se_yX5_resultAt, ini_X5, co_yX5_resultAt, by decide, by decide, by decide +kernel⟩
theorem mf_X5_add : MthV yX5_add cX5_add 3 none 2 := ⟨im_yX5_add, se_yX5_add, ini_X5, co_yX5_add, by decide, by decide, by decide +kernel⟩
theorem mf_X5_move : MthV yX5_move cX5_move 3 none 2 := ⟨im_yX5_move, se_yX5_move, ini_X5, co_yX5_move, by decide, by decide, by decide +kernel⟩
theorem mf_X5_cutTo : MthV yX5_cutTo cX5_cutTo 2 none 1 := ⟨im_yX5_cutTo, se_yX5_cutTo, ini_X5, co_yX5_cutTo, by decide, by decide, by decide +kernel⟩
theorem mf_X5_copyStart : MthV yX5_copyStart cX5_copyStart 4 none 2 := ⟨im_yX5_copyStart, se_yX5_copyStart, ini_X5, co_yX5_copyStart, by decide, by decide, by decide +kernel⟩
theorem mf_X5_takeResults : MthV yX5_takeResults cX5_takeResults 3 none 1 := ⟨im_yX5_takeResults, se_yX5_takeResults, ini_X5, co_yX5_takeResults, by decide, by decide, by decide +kernel⟩
theorem mf_X5_hasCallOf : MthV yX5_hasCallOf cX5_hasCallOf 3 (some .boolean) 1 := ⟨im_yX5_hasCallOf, se_yX5_hasCallOf, ini_X5, co_yX5_hasCallOf, by decide, by decide, by decide +kernel⟩
theorem mf_X5_hasSameCalls : MthV yX5_hasSameCalls cX5_hasSameCalls 3 (some .boolean) 1 := ⟨im_yX5_hasSameCalls, se_yX5_hasSameCalls, ini_X5, co_yX5_hasSameCalls, by decide, by decide, by decide +kernel⟩
theorem mf_X6_init : MthI yX6_init cX6_init 2 1 := ⟨im_yX6_init, ini_X6, co_yX6_init, by decide, by decide, rfl, by decide +kernel⟩
theorem mf_X6_shorten : MthV yX6_shorten cX6_shorten 6 none 3 := ⟨im_yX6_shorten, se_yX6_shorten, ini_X6, co_yX6_shorten, by decide, by decide, by decide +kernel⟩
theorem mf_X6_leaveOut : MthV yX6_leaveOut cX6_leaveOut 7 (some .boolean) 1 := ⟨im_yX6_leaveOut, se_yX6_leaveOut, ini_X6, co_yX6_leaveOut, by decide, by decide, by decide +kernel⟩
theorem mf_X6_endsAlike : MthV yX6_endsAlike cX6_endsAlike 8 (some .boolean) 3 := ⟨im_yX6_endsAlike, se_yX6_endsAlike, ini_X6, co_yX6_endsAlike, by decide, by decide, by decide +kernel⟩
theorem mf_X7_init : MthI yX7_init cX7_init 2 0 := ⟨im_yX7_init, ini_X7, co_yX7_init, by decide, by decide, rfl, by decide +kernel⟩
theorem mf_X7_size : MthV yX7_size cX7_size 1 (some .int) 0 := ⟨im_yX7_size, se_yX7_size, ini_X7, co_yX7_size, by decide, by decide, by decide +kernel⟩
theorem mf_X7_at : MthV yX7_at cX7_at 2 (some (.object "TestsFromUse$MadeTest")) 1 := ⟨im_yX7_at, se_yX7_at, ini_X7, co_yX7_at, by decide, by decide, by decide +kernel⟩
theorem mf_X7_spare : MthV yX7_spare cX7_spare 1 (some (.object "TestsFromUse$MadeTest")) 0 := ⟨im_yX7_spare, se_yX7_spare, ini_X7, co_yX7_spare, by decide, by decide, by decide +kernel⟩
theorem mf_X7_keepSpare : MthV yX7_keepSpare cX7_keepSpare 1 (some .int) 0 := ⟨im_yX7_keepSpare, se_yX7_keepSpare, ini_X7, co_yX7_keepSpare, by decide, by decide, by decide +kernel⟩
theorem mf_X7_remove : MthV yX7_remove cX7_remove 4 (some .boolean) 1 := ⟨im_yX7_remove, se_yX7_remove, ini_X7, co_yX7_remove, by decide, by decide, by decide +kernel⟩
theorem mf_X7_hasLike : MthV yX7_hasLike cX7_hasLike 3 (some .boolean) 1 := ⟨im_yX7_hasLike, se_yX7_hasLike, ini_X7, co_yX7_hasLike, by decide, by decide, by decide +kernel⟩
theorem mf_X7_touchThoseThatMet : MthV yX7_touchThoseThatMet cX7_touchThoseThatMet 3 none 1 := ⟨im_yX7_touchThoseThatMet, se_yX7_touchThoseThatMet, ini_X7, co_yX7_touchThoseThatMet, by decide, by decide, by decide +kernel⟩
theorem mf_X7_touchCallersOf : MthV yX7_touchCallersOf cX7_touchCallersOf 3 none 1 := ⟨im_yX7_touchCallersOf, se_yX7_touchCallersOf, ini_X7, co_yX7_touchCallersOf, by decide, by decide, by decide +kernel⟩
theorem mf_X7_touchedOnes : MthV yX7_touchedOnes cX7_touchedOnes 3 (some .int) 0 := ⟨im_yX7_touchedOnes, se_yX7_touchedOnes, ini_X7, co_yX7_touchedOnes, by decide, by decide, by decide +kernel⟩
theorem mf_X7_brokenOnes : MthV yX7_brokenOnes cX7_brokenOnes 3 (some .int) 0 := ⟨im_yX7_brokenOnes, se_yX7_brokenOnes, ini_X7, co_yX7_brokenOnes, by decide, by decide, by decide +kernel⟩
theorem mf_X7_leastHeap : MthV yX7_leastHeap cX7_leastHeap 5 (some .int) 1 := ⟨im_yX7_leastHeap, se_yX7_leastHeap, ini_X7, co_yX7_leastHeap, by decide, by decide, by decide +kernel⟩
theorem mf_X7_metByHeap : MthV yX7_metByHeap cX7_metByHeap 4 (some .int) 1 := ⟨im_yX7_metByHeap, se_yX7_metByHeap, ini_X7, co_yX7_metByHeap, by decide, by decide, by decide +kernel⟩
theorem mf_X8_init : MthI yX8_init cX8_init 1 0 := ⟨im_yX8_init, ini_X8, co_yX8_init, by decide, by decide, rfl, by decide +kernel⟩
theorem mf_X8_branch : MthV yX8_branch cX8_branch 5 (some .int) 4 := ⟨im_yX8_branch, se_yX8_branch, ini_X8, co_yX8_branch, by decide, by decide, by decide +kernel⟩
theorem mf_X8_change : MthV yX8_change cX8_change 5 (some .boolean) 4 := ⟨im_yX8_change, se_yX8_change, ini_X8, co_yX8_change, by decide, by decide, by decide +kernel⟩
theorem mf_X8_call : MthV yX8_call cX8_call 3 (some .int) 2 := ⟨im_yX8_call, se_yX8_call, ini_X8, co_yX8_call, by decide, by decide, by decide +kernel⟩
theorem mf_X8_fresh : MthV yX8_fresh cX8_fresh 1 (some .int) 0 := ⟨im_yX8_fresh, se_yX8_fresh, ini_X8, co_yX8_fresh, by decide, by decide, by decide +kernel⟩
theorem mf_X8_logged : MthV yX8_logged cX8_logged 3 (some .int) 2 := ⟨im_yX8_logged, se_yX8_logged, ini_X8, co_yX8_logged, by decide, by decide, by decide +kernel⟩
theorem mf_X8_make : MthV yX8_make cX8_make 3 (some .int) 1 := ⟨im_yX8_make, se_yX8_make, ini_X8, co_yX8_make, by decide, by decide, by decide +kernel⟩
theorem mf_X8_drop : MthV yX8_drop cX8_drop 2 (some .boolean) 1 := ⟨im_yX8_drop, se_yX8_drop, ini_X8, co_yX8_drop, by decide, by decide, by decide +kernel⟩
theorem mf_X8_told : MthV yX8_told cX8_told 4 (some .int) 2 := ⟨im_yX8_told, se_yX8_told, ini_X8, co_yX8_told, by decide, by decide, by decide +kernel⟩
theorem mf_X8_row : MthV yX8_row cX8_row 5 (some .int) 3 := ⟨im_yX8_row, se_yX8_row, ini_X8, co_yX8_row, by decide, by decide, by decide +kernel⟩
theorem mf_X8_differs : MthV yX8_differs cX8_differs 3 (some .int) 1 := ⟨im_yX8_differs, se_yX8_differs, ini_X8, co_yX8_differs, by decide, by decide, by decide +kernel⟩
theorem mf_X8_run : MthV yX8_run cX8_run 4 (some .int) 0 := ⟨im_yX8_run, se_yX8_run, ini_X8, co_yX8_run, by decide, by decide, by decide +kernel⟩
theorem mf_X8_accept : MthV yX8_accept cX8_accept 3 (some .boolean) 1 := ⟨im_yX8_accept, se_yX8_accept, ini_X8, co_yX8_accept, by decide, by decide, by decide +kernel⟩
theorem mf_X8_reached : MthV yX8_reached cX8_reached 1 (some .int) 0 := ⟨im_yX8_reached, se_yX8_reached, ini_X8, co_yX8_reached, by decide, by decide, by decide +kernel⟩
theorem mf_X8_never : MthV yX8_never cX8_never 1 (some .int) 0 := ⟨im_yX8_never, se_yX8_never, ini_X8, co_yX8_never, by decide, by decide, by decide +kernel⟩
theorem mf_X8_fewest : MthV yX8_fewest cX8_fewest 1 (some .int) 0 := ⟨im_yX8_fewest, se_yX8_fewest, ini_X8, co_yX8_fewest, by decide, by decide, by decide +kernel⟩
theorem mf_X8_chosen : MthV yX8_chosen cX8_chosen 1 (some .int) 0 := ⟨im_yX8_chosen, se_yX8_chosen, ini_X8, co_yX8_chosen, by decide, by decide, by decide +kernel⟩
theorem mf_X8_register : MthV yX8_register cX8_register 2 (some .int) 1 := ⟨im_yX8_register, se_yX8_register, ini_X8, co_yX8_register, by decide, by decide, by decide +kernel⟩
theorem mf_X8_count : MthV yX8_count cX8_count 2 (some .int) 1 := ⟨im_yX8_count, se_yX8_count, ini_X8, co_yX8_count, by decide, by decide, by decide +kernel⟩
theorem mf_X8_firstDifference : MthV yX8_firstDifference cX8_firstDifference 2 (some .int) 1 := ⟨im_yX8_firstDifference, se_yX8_firstDifference, ini_X8, co_yX8_firstDifference, by decide, by decide, by decide +kernel⟩
theorem mf_X8_resultNow : MthV yX8_resultNow cX8_resultNow 3 (some .int) 2 := ⟨im_yX8_resultNow, se_yX8_resultNow, ini_X8, co_yX8_resultNow, by decide, by decide, by decide +kernel⟩
theorem mf_X8_differencesOfLog : MthV yX8_differencesOfLog cX8_differencesOfLog 1 (some .int) 0 := ⟨im_yX8_differencesOfLog, se_yX8_differencesOfLog, ini_X8, co_yX8_differencesOfLog, by decide, by decide, by decide +kernel⟩
theorem mf_X8_isBelow : MthS yX8_isBelow cX8_isBelow 2 (some .boolean) 2 := ⟨st_yX8_isBelow, ini_X8, co_yX8_isBelow, by decide, by decide, by decide +kernel⟩
theorem mf_X8_callOf : MthS yX8_callOf cX8_callOf 2 (some .int) 2 := ⟨st_yX8_callOf, ini_X8, co_yX8_callOf, by decide, by decide, by decide +kernel⟩
theorem mf_X8_kindOf : MthS yX8_kindOf cX8_kindOf 1 (some .int) 1 := ⟨st_yX8_kindOf, ini_X8, co_yX8_kindOf, by decide, by decide, by decide +kernel⟩
theorem mf_X8_numberOf : MthS yX8_numberOf cX8_numberOf 1 (some .int) 1 := ⟨st_yX8_numberOf, ini_X8, co_yX8_numberOf, by decide, by decide, by decide +kernel⟩
theorem mf_X8_valueIn : MthS yX8_valueIn cX8_valueIn 2 (some .int) 2 := ⟨st_yX8_valueIn, ini_X8, co_yX8_valueIn, by decide, by decide, by decide +kernel⟩
theorem mf_X8_withValue : MthS yX8_withValue cX8_withValue 5 (some .int) 3 := ⟨st_yX8_withValue, ini_X8, co_yX8_withValue, by decide, by decide, by decide +kernel⟩
theorem mf_X9_init : MthI yX9_init cX9_init 1 0 := ⟨im_yX9_init, ini_X9, co_yX9_init, by decide, by decide, rfl, by decide +kernel⟩
theorem mf_X9_in : MthS yX9_in cX9_in 3 (some .boolean) 3 := ⟨st_yX9_in, ini_X9, co_yX9_in, by decide, by decide, by decide +kernel⟩
theorem mf_X9_isKind : MthS yX9_isKind cX9_isKind 1 (some .boolean) 1 := ⟨st_yX9_isKind, ini_X9, co_yX9_isKind, by decide, by decide, by decide +kernel⟩
theorem mf_X9_isBranch : MthS yX9_isBranch cX9_isBranch 3 (some .boolean) 3 := ⟨st_yX9_isBranch, ini_X9, co_yX9_isBranch, by decide, by decide, by decide +kernel⟩
theorem mf_X9_tells : MthV yX9_tells cX9_tells 5 none 4 := ⟨im_yX9_tells, se_yX9_tells, ini_X9, co_yX9_tells, by decide, by decide, by decide +kernel⟩
theorem mf_X9_branch : MthV yX9_branch cX9_branch 8 (some .int) 4 := ⟨im_yX9_branch, se_yX9_branch, ini_X9, co_yX9_branch, by decide, by decide, by decide +kernel⟩
theorem mf_X9_isThere : MthV yX9_isThere cX9_isThere 2 (some .boolean) 1 := ⟨im_yX9_isThere, se_yX9_isThere, ini_X9, co_yX9_isThere, by decide, by decide, by decide +kernel⟩
theorem mf_X9_change : MthV yX9_change cX9_change 6 (some .boolean) 4 := ⟨im_yX9_change, se_yX9_change, ini_X9, co_yX9_change, by decide, by decide, by decide +kernel⟩
theorem mf_X9_begins : MthV yX9_begins cX9_begins 2 none 0 := ⟨im_yX9_begins, se_yX9_begins, ini_X9, co_yX9_begins, by decide, by decide, by decide +kernel⟩
theorem mf_X9_holds : MthV yX9_holds cX9_holds 5 (some .boolean) 1 := ⟨im_yX9_holds, se_yX9_holds, ini_X9, co_yX9_holds, by decide, by decide, by decide +kernel⟩
theorem mf_X9_goes : MthV yX9_goes cX9_goes 5 (some .int) 2 := ⟨im_yX9_goes, se_yX9_goes, ini_X9, co_yX9_goes, by decide, by decide, by decide +kernel⟩
theorem mf_X9_call : MthV yX9_call cX9_call 5 (some .int) 2 := ⟨im_yX9_call, se_yX9_call, ini_X9, co_yX9_call, by decide, by decide, by decide +kernel⟩
theorem mf_X9_fresh : MthV yX9_fresh cX9_fresh 3 (some .int) 0 := ⟨im_yX9_fresh, se_yX9_fresh, ini_X9, co_yX9_fresh, by decide, by decide, by decide +kernel⟩
theorem mf_X9_logged : MthV yX9_logged cX9_logged 3 (some .int) 2 := ⟨im_yX9_logged, se_yX9_logged, ini_X9, co_yX9_logged, by decide, by decide, by decide +kernel⟩
theorem mf_X9_ends : MthV yX9_ends cX9_ends 4 (some .int) 1 := ⟨im_yX9_ends, se_yX9_ends, ini_X9, co_yX9_ends, by decide, by decide, by decide +kernel⟩
theorem mf_X9_shrinks : MthV yX9_shrinks cX9_shrinks 6 none 1 := ⟨im_yX9_shrinks, se_yX9_shrinks, ini_X9, co_yX9_shrinks, by decide, by decide, by decide +kernel⟩
theorem mf_X9_isLike : MthV yX9_isLike cX9_isLike 6 (some .boolean) 2 := ⟨im_yX9_isLike, se_yX9_isLike, ini_X9, co_yX9_isLike, by decide, by decide, by decide +kernel⟩
theorem mf_X9_make : MthV yX9_make cX9_make 4 (some .int) 1 := ⟨im_yX9_make, se_yX9_make, ini_X9, co_yX9_make, by decide, by decide, by decide +kernel⟩
theorem mf_X9_isTest : MthV yX9_isTest cX9_isTest 2 (some .boolean) 1 := ⟨im_yX9_isTest, se_yX9_isTest, ini_X9, co_yX9_isTest, by decide, by decide, by decide +kernel⟩
theorem mf_X9_accept : MthV yX9_accept cX9_accept 3 (some .boolean) 1 := ⟨im_yX9_accept, se_yX9_accept, ini_X9, co_yX9_accept, by decide, by decide, by decide +kernel⟩
theorem mf_X9_drop : MthV yX9_drop cX9_drop 4 (some .boolean) 1 := ⟨im_yX9_drop, se_yX9_drop, ini_X9, co_yX9_drop, by decide, by decide, by decide +kernel⟩
theorem mf_X9_differs : MthV yX9_differs cX9_differs 4 (some .int) 1 := ⟨im_yX9_differs, se_yX9_differs, ini_X9, co_yX9_differs, by decide, by decide, by decide +kernel⟩
theorem mf_X9_meets : MthV yX9_meets cX9_meets 4 (some .int) 1 := ⟨im_yX9_meets, se_yX9_meets, ini_X9, co_yX9_meets, by decide, by decide, by decide +kernel⟩
theorem mf_X9_told : MthV yX9_told cX9_told 3 (some .int) 2 := ⟨im_yX9_told, se_yX9_told, ini_X9, co_yX9_told, by decide, by decide, by decide +kernel⟩
theorem mf_X9_givesNow : MthV yX9_givesNow cX9_givesNow 5 (some .int) 2 := ⟨im_yX9_givesNow, se_yX9_givesNow, ini_X9, co_yX9_givesNow, by decide, by decide, by decide +kernel⟩
theorem mf_X9_row : MthV yX9_row cX9_row 5 (some .int) 3 := ⟨im_yX9_row, se_yX9_row, ini_X9, co_yX9_row, by decide, by decide, by decide +kernel⟩
theorem mf_X9_run : MthV yX9_run cX9_run 3 (some .int) 0 := ⟨im_yX9_run, se_yX9_run, ini_X9, co_yX9_run, by decide, by decide, by decide +kernel⟩
theorem mf_X9_reached : MthV yX9_reached cX9_reached 3 (some .int) 0 := ⟨im_yX9_reached, se_yX9_reached, ini_X9, co_yX9_reached, by decide, by decide, by decide +kernel⟩
theorem mf_X9_never : MthV yX9_never cX9_never 3 (some .int) 0 := ⟨im_yX9_never, se_yX9_never, ini_X9, co_yX9_never, by decide, by decide, by decide +kernel⟩
theorem mf_X9_bits : MthS yX9_bits cX9_bits 3 (some .int) 1 := ⟨st_yX9_bits, ini_X9, co_yX9_bits, by decide, by decide, by decide +kernel⟩
theorem mf_X9_chosen : MthV yX9_chosen cX9_chosen 6 (some .int) 0 := ⟨im_yX9_chosen, se_yX9_chosen, ini_X9, co_yX9_chosen, by decide, by decide, by decide +kernel⟩
theorem mf_X9_fewest : MthV yX9_fewest cX9_fewest 1 (some .int) 0 := ⟨im_yX9_fewest, se_yX9_fewest, ini_X9, co_yX9_fewest, by decide, by decide, by decide +kernel⟩
theorem mf_X9_register : MthV yX9_register cX9_register 2 (some .int) 1 := ⟨im_yX9_register, se_yX9_register, ini_X9, co_yX9_register, by decide, by decide, by decide +kernel⟩
theorem mf_X9_count : MthV yX9_count cX9_count 4 (some .int) 1 := ⟨im_yX9_count, se_yX9_count, ini_X9, co_yX9_count, by decide, by decide, by decide +kernel⟩
theorem mf_J6_bitCount_0f7a4 : MthS yJ6_bitCount_0f7a4 cJ6_bitCount_0f7a4 1 (some .int) 1 := ⟨st_yJ6_bitCount_0f7a4, ini_J6, co_yJ6_bitCount_0f7a4, by decide, by decide, by decide +kernel⟩
/-! readers and movers: contracts over a world whose cells stay the same -/
def RI (l : Launch) (G : va_G) (cy : Nat → ClassId) (w : WT) (y : MethodName) (cc : ByteArray) (nL : Nat) (ret : Option FieldType) (rm : Room) (As : List Value) (V : Int32) : Prop := MI l G cy w y cc nL ret rm As (fun r u => r = V ∧ u = w)
section WE
variable {p : Program} {l : Launch} {e : Env} {R : Room} {s : State} {m : MethodId} {args : Array Value} {below : List Frame} {meth : Method} {c : Code} {H : Heap} {locs : List Loc} {cells slots : Nat} {Q : State → Prop}
variable {cc : ByteArray} {pc : Nat} {ls : Array Slot} {rest st0 : List Value} {G : va_G} {cy : Nat → ClassId} {A : Nat → Prop} {H0 : Heap} {nL : Nat} {own : String} {w : WT} {n : Nat}
variable {y : MethodName} {cc' : ByteArray} {nL' idx d : Nat} {ret : Option FieldType} {As : List Value} {N : Nat} {ad : Nat → Nat} {g : Nat → va_E}
/-- a reader called on an object -/
theorem w_rV (X : Cx G cy p s m args c cc nL own A H0) (hW : Wd G A H0 (N, ad, g) H locs) {V : Int32} (hM : RI l G cy (N, ad, g) y cc' nL' ret (rmN d) (.ref (ad n) :: As) V) (hn : n < N) {ci : Nat} {fs : List Value} (hg : g n = .inr (ci, fs)) {q : vw_C} (hc : vwCl[ci]? = some q) (hq : q.1 = y.cls) (hl : Cond.methodLink own idx y ∈ tg) (hm : MthV y cc' nL' ret As.length)
    (hR : d + 1 ≤ R.frames ∧ 8 + (nL' + 11) + 30 * d ≤ R.locals) (hls : ls.size = nL) (hst : st0 = As.reverse ++ .ref (ad n) :: rest) (hcat : (rest.map fun v => v.category).sum ≤ 8) (hf : cells ≤ R.cells ∧ slots ≤ R.slots) (hdg : decode cc pc = .ok (.invokevirtual idx, 3))
    (kk : ∀ (H1 : Heap) (locs1 : List Loc), Wd G A H0 (N, ad, g) H1 locs1 → W p l e R s m args below meth c H1 locs1 cells slots Q (F0 m (pc + 3) ls (.int V :: rest))) : W p l e R s m args below meth c H locs cells slots Q (F0 m pc ls st0) :=
  w_cVi (w := (N, ad, g)) X hW hM hn hg hc hq hl hm hR hls hst hcat hdg hf (fun r u H1 locs1 hp hW1 => by obtain ⟨h1, h2⟩ := hp; rw [h1]; rw [h2] at hW1; exact kk H1 locs1 hW1)
theorem w_rS (X : Cx G cy p s m args c cc nL own A H0) (hW : Wd G A H0 w H locs) {V : Int32} (hM : RI l G cy w y cc' nL' ret (rmN d) As V) (hl : Cond.methodLink own idx y ∈ tg) (hm : MthS y cc' nL' ret As.length)
    (hR : d + 1 ≤ R.frames ∧ 8 + (nL' + 11) + 30 * d ≤ R.locals) (hls : ls.size = nL) (hst : st0 = As.reverse ++ rest) (hcat : (rest.map fun v => v.category).sum ≤ 8) (hf : cells ≤ R.cells ∧ slots ≤ R.slots) (hdg : decode cc pc = .ok (.invokestatic idx, 3))
    (kk : ∀ (H1 : Heap) (locs1 : List Loc), Wd G A H0 w H1 locs1 → W p l e R s m args below meth c H1 locs1 cells slots Q (F0 m (pc + 3) ls (.int V :: rest))) : W p l e R s m args below meth c H locs cells slots Q (F0 m pc ls st0) :=
  w_cSi X hW hM hl hm hR hls hst hcat hdg hf (fun r u H1 locs1 hp hW1 => by obtain ⟨h1, h2⟩ := hp; rw [h1]; rw [h2] at hW1; exact kk H1 locs1 hW1)
theorem w_rN (X : Cx G cy p s m args c cc nL own A H0) (hW : Wd G A H0 w H locs) {V : Int32} (hM : RI l G cy w y cc' nL' ret (rmN d) As V) {host : String} (hl : ((own, idx, y, host) : nmT) ∈ nml) (hm : MthS y cc' nL' ret As.length)
    (hR : d + 1 ≤ R.frames ∧ 8 + (nL' + 11) + 30 * d ≤ R.locals) (hls : ls.size = nL) (hst : st0 = As.reverse ++ rest) (hcat : (rest.map fun v => v.category).sum ≤ 8) (hf : cells ≤ R.cells ∧ slots ≤ R.slots) (hdg : decode cc pc = .ok (.invokestatic idx, 3))
    (kk : ∀ (H1 : Heap) (locs1 : List Loc), Wd G A H0 w H1 locs1 → W p l e R s m args below meth c H1 locs1 cells slots Q (F0 m (pc + 3) ls (.int V :: rest))) : W p l e R s m args below meth c H locs cells slots Q (F0 m pc ls st0) :=
  w_cNi X hW hM hl hm hR hls hst hcat hdg hf (fun r u H1 locs1 hp hW1 => by obtain ⟨h1, h2⟩ := hp; rw [h1]; rw [h2] at hW1; exact kk H1 locs1 hW1)
/-- a mover called on an object, with an answer -/
theorem w_nV (X : Cx G cy p s m args c cc nL own A H0) (hW : Wd G A H0 (N, ad, g) H locs) {P : Int32 → (Nat → va_E) → Prop} (hM : MI l G cy (N, ad, g) y cc' nL' ret (rmN d) (.ref (ad n) :: As) (nA N ad P)) (hn : n < N) {ci : Nat} {fs : List Value} (hg : g n = .inr (ci, fs)) {q : vw_C} (hc : vwCl[ci]? = some q) (hq : q.1 = y.cls) (hl : Cond.methodLink own idx y ∈ tg) (hm : MthV y cc' nL' ret As.length)
    (hR : d + 1 ≤ R.frames ∧ 8 + (nL' + 11) + 30 * d ≤ R.locals) (hls : ls.size = nL) (hst : st0 = As.reverse ++ .ref (ad n) :: rest) (hcat : (rest.map fun v => v.category).sum ≤ 8) (hf : cells ≤ R.cells ∧ slots ≤ R.slots) (hdg : decode cc pc = .ok (.invokevirtual idx, 3))
    (kk : ∀ (r : Int32) (g1 : Nat → va_E) (H1 : Heap) (locs1 : List Loc), P r g1 → Wd G A H0 (N, ad, g1) H1 locs1 → W p l e R s m args below meth c H1 locs1 cells slots Q (F0 m (pc + 3) ls (.int r :: rest))) : W p l e R s m args below meth c H locs cells slots Q (F0 m pc ls st0) :=
  w_cVi (w := (N, ad, g)) X hW hM hn hg hc hq hl hm hR hls hst hcat hdg hf (fun r u H1 locs1 hp hW1 => by obtain ⟨N1, ad1, g1⟩ := u; obtain ⟨h1, h2, h3⟩ := hp; dsimp only at h1 h2 h3; rw [h1, h2] at hW1; exact kk r g1 H1 locs1 h3 hW1)
/-- a mover called on an object, without -/
theorem w_nVv (X : Cx G cy p s m args c cc nL own A H0) (hW : Wd G A H0 (N, ad, g) H locs) {P : (Nat → va_E) → Prop} (hM : MV l G cy (N, ad, g) y cc' nL' ret (rmN d) (.ref (ad n) :: As) (nV N ad P)) (hn : n < N) {ci : Nat} {fs : List Value} (hg : g n = .inr (ci, fs)) {q : vw_C} (hc : vwCl[ci]? = some q) (hq : q.1 = y.cls) (hl : Cond.methodLink own idx y ∈ tg) (hm : MthV y cc' nL' ret As.length)
    (hR : d + 1 ≤ R.frames ∧ 8 + (nL' + 11) + 30 * d ≤ R.locals) (hls : ls.size = nL) (hst : st0 = As.reverse ++ .ref (ad n) :: rest) (hcat : (rest.map fun v => v.category).sum ≤ 8) (hf : cells ≤ R.cells ∧ slots ≤ R.slots) (hdg : decode cc pc = .ok (.invokevirtual idx, 3))
    (kk : ∀ (g1 : Nat → va_E) (H1 : Heap) (locs1 : List Loc), P g1 → Wd G A H0 (N, ad, g1) H1 locs1 → W p l e R s m args below meth c H1 locs1 cells slots Q (F0 m (pc + 3) ls rest)) : W p l e R s m args below meth c H locs cells slots Q (F0 m pc ls st0) :=
  w_cVv (w := (N, ad, g)) X hW hM hn hg hc hq hl hm hR hls hst hcat hdg hf (fun u H1 locs1 hp hW1 => by obtain ⟨N1, ad1, g1⟩ := u; obtain ⟨h1, h2, h3⟩ := hp; dsimp only at h1 h2 h3; rw [h1, h2] at hW1; exact kk g1 H1 locs1 h3 hW1)
/-- a reader that answers with a reference or null -/
theorem w_rVr (X : Cx G cy p s m args c cc nL own A H0) (hW : Wd G A H0 (N, ad, g) H locs) {V : Option Nat} (hM : MR l G cy (N, ad, g) y cc' nL' ret (rmN d) (.ref (ad n) :: As) (fun r u => r = V ∧ u = (N, ad, g))) (hn : n < N) {ci : Nat} {fs : List Value} (hg : g n = .inr (ci, fs)) {q : vw_C} (hc : vwCl[ci]? = some q) (hq : q.1 = y.cls) (hl : Cond.methodLink own idx y ∈ tg) (hm : MthV y cc' nL' ret As.length)
    (hR : d + 1 ≤ R.frames ∧ 8 + (nL' + 11) + 30 * d ≤ R.locals) (hls : ls.size = nL) (hst : st0 = As.reverse ++ .ref (ad n) :: rest) (hcat : (rest.map fun v => v.category).sum ≤ 8) (hf : cells ≤ R.cells ∧ slots ≤ R.slots) (hdg : decode cc pc = .ok (.invokevirtual idx, 3))
    (kk : ∀ (H1 : Heap) (locs1 : List Loc), Wd G A H0 (N, ad, g) H1 locs1 → W p l e R s m args below meth c H1 locs1 cells slots Q (F0 m (pc + 3) ls (va_rf V :: rest))) : W p l e R s m args below meth c H locs cells slots Q (F0 m pc ls st0) :=
  w_cVr (w := (N, ad, g)) X hW hM hn hg hc hq hl hm hR hls hst hcat hdg hf (fun r u H1 locs1 hp hW1 => by obtain ⟨h1, h2⟩ := hp; rw [h1]; rw [h2] at hW1; exact kk H1 locs1 hW1)
end WE
theorem RI.mk {l : Launch} {G : va_G} {cy : Nat → ClassId} {w : WT} {y : MethodName} {cc : ByteArray} {nL : Nat} {ty : FieldType} {rm : Room} {As : List Value} {V : Int32} (hy : plainName y.cls = true) (hty : narrow ty (.int V) = .int V) (hlen : (lg_sl As).length ≤ nL)
    (body : ∀ (p : Program) (e : Env) (s : State) (m : MethodId) (below : List Frame) (meth : Method) (c : Code) (A : Nat → Prop) (Q : State → Prop), Cx G cy p s m As.toArray c cc nL y.cls A s.heap → Wd G A s.heap w s.heap [] →
      (∀ (v : Int32) (H : Heap) (locs : List Loc) (pc : Nat) (ls : Array Slot), decode cc pc = .ok (.ireturn, 1) → Wd G A s.heap w H locs → v = V → W p l e rm s m As.toArray below meth c H locs rm.cells rm.slots Q (F0 m pc ls [.int v])) →
      ∀ (ls : Array Slot), lv_has ls nL (lv_args 0 As) → W p l e rm s m As.toArray below meth c s.heap [] 0 0 Q (F0 m 0 ls [])) : RI l G cy w y cc nL (some ty) rm As V :=
  MI.mk hy (fun r u h => by rw [h.1]; exact hty) hlen (fun p e s m below meth c A Q X hW ret => body p e s m below meth c A Q X hW (fun v H locs pc ls hd hW1 hv => ret v w H locs pc ls hd hW1 ⟨hv, rfl⟩))
theorem NI.mk {l : Launch} {G : va_G} {cy : Nat → ClassId} {N : Nat} {ad : Nat → Nat} {g : Nat → va_E} {y : MethodName} {cc : ByteArray} {nL : Nat} {ty : FieldType} {rm : Room} {As : List Value} {P : Int32 → (Nat → va_E) → Prop} (hy : plainName y.cls = true) (hty : ∀ r g1, P r g1 → narrow ty (.int r) = .int r) (hlen : (lg_sl As).length ≤ nL)
    (body : ∀ (p : Program) (e : Env) (s : State) (m : MethodId) (below : List Frame) (meth : Method) (c : Code) (A : Nat → Prop) (Q : State → Prop), Cx G cy p s m As.toArray c cc nL y.cls A s.heap → Wd G A s.heap (N, ad, g) s.heap [] →
      (∀ (v : Int32) (g1 : Nat → va_E) (H : Heap) (locs : List Loc) (pc : Nat) (ls : Array Slot), decode cc pc = .ok (.ireturn, 1) → Wd G A s.heap (N, ad, g1) H locs → P v g1 → W p l e rm s m As.toArray below meth c H locs rm.cells rm.slots Q (F0 m pc ls [.int v])) →
      ∀ (ls : Array Slot), lv_has ls nL (lv_args 0 As) → W p l e rm s m As.toArray below meth c s.heap [] 0 0 Q (F0 m 0 ls [])) : MI l G cy (N, ad, g) y cc nL (some ty) rm As (nA N ad P) :=
  MI.mk hy (fun r u h => hty r u.2.2 h.2.2) hlen (fun p e s m below meth c A Q X hW ret => body p e s m below meth c A Q X hW (fun v g1 H locs pc ls hd hW1 hv => ret v (N, ad, g1) H locs pc ls hd hW1 ⟨rfl, rfl, hv⟩))
theorem NV.mk {l : Launch} {G : va_G} {cy : Nat → ClassId} {N : Nat} {ad : Nat → Nat} {g : Nat → va_E} {y : MethodName} {cc : ByteArray} {nL : Nat} {rm : Room} {As : List Value} {P : (Nat → va_E) → Prop} (hy : plainName y.cls = true) (hlen : (lg_sl As).length ≤ nL)
    (body : ∀ (p : Program) (e : Env) (s : State) (m : MethodId) (below : List Frame) (meth : Method) (c : Code) (A : Nat → Prop) (Q : State → Prop), Cx G cy p s m As.toArray c cc nL y.cls A s.heap → Wd G A s.heap (N, ad, g) s.heap [] →
      (∀ (g1 : Nat → va_E) (H : Heap) (locs : List Loc) (pc : Nat) (ls : Array Slot), decode cc pc = .ok (.return_, 1) → Wd G A s.heap (N, ad, g1) H locs → P g1 → W p l e rm s m As.toArray below meth c H locs rm.cells rm.slots Q (F0 m pc ls [])) →
      ∀ (ls : Array Slot), lv_has ls nL (lv_args 0 As) → W p l e rm s m As.toArray below meth c s.heap [] 0 0 Q (F0 m 0 ls [])) : MV l G cy (N, ad, g) y cc nL none rm As (nV N ad P) :=
  MV.mk hy hlen (fun p e s m below meth c A Q _ X hW ret => body p e s m below meth c A Q X hW (fun g1 H locs pc ls hd hW1 hv => ret (N, ad, g1) H locs pc ls hd hW1 ⟨rfl, rfl, hv⟩))
theorem RR.mk {l : Launch} {G : va_G} {cy : Nat → ClassId} {w : WT} {y : MethodName} {cc : ByteArray} {nL : Nat} {C : String} {rm : Room} {As : List Value} {V : Option Nat} (hy : plainName y.cls = true) (hlen : (lg_sl As).length ≤ nL)
    (body : ∀ (p : Program) (e : Env) (s : State) (m : MethodId) (below : List Frame) (meth : Method) (c : Code) (A : Nat → Prop) (Q : State → Prop), Cx G cy p s m As.toArray c cc nL y.cls A s.heap → Wd G A s.heap w s.heap [] →
      (∀ (v : Option Nat) (H : Heap) (locs : List Loc) (pc : Nat) (ls : Array Slot), decode cc pc = .ok (.areturn, 1) → Wd G A s.heap w H locs → v = V → W p l e rm s m As.toArray below meth c H locs rm.cells rm.slots Q (F0 m pc ls [va_rf v])) →
      ∀ (ls : Array Slot), lv_has ls nL (lv_args 0 As) → W p l e rm s m As.toArray below meth c s.heap [] 0 0 Q (F0 m 0 ls [])) : MR l G cy w y cc nL (some (.object C)) rm As (fun r u => r = V ∧ u = w) :=
  MR.mk hy hlen (fun p e s m below meth c A Q X hW ret => body p e s m below meth c A Q X hW (fun v H locs pc ls hd hW1 hv => ret v w H locs pc ls hd hW1 ⟨hv, rfl⟩))
/-- a truth as the machine has it -/
def bI (b : Prop) [Decidable b] : Int32 := if b then 1 else 0
theorem bI_t {b : Prop} [Decidable b] (h : b) : bI b = 1 := if_pos h
theorem bI_f {b : Prop} [Decidable b] (h : ¬ b) : bI b = 0 := if_neg h
theorem bI_0 {b : Prop} [Decidable b] : bI b = 0 ↔ ¬ b := by by_cases h : b <;> simp [bI, h]
theorem bI_n0 {b : Prop} [Decidable b] : ¬ bI b = 0 ↔ b := by by_cases h : b <;> simp [bI, h]
theorem bI_1 {b : Prop} [Decidable b] : bI b = 1 ↔ b := by by_cases h : b <;> simp [bI, h]
theorem bI_01 {b : Prop} [Decidable b] : bI b = 0 ∨ bI b = 1 := by by_cases h : b <;> simp [bI, h]
theorem bI_nar {b : Prop} [Decidable b] : narrow .boolean (.int (bI b)) = .int (bI b) := by by_cases h : b <;> simp [bI, h] <;> decide
theorem bI_iff {a b : Prop} [Decidable a] [Decidable b] (h : a ↔ b) : bI a = bI b := by by_cases q : a <;> simp [bI, q, ← h]
