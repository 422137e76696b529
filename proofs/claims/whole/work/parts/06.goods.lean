set_option maxRecDepth 20000 in
theorem ggX0_applyRule_X0_takeBRight : GoodIn wsX0_applyRule wsX0_takeBRight := goodIn_r _ [5, 6, 7, 26, 27, 28, 29] (by decide +kernel) (by decide +kernel)
set_option maxRecDepth 20000 in
theorem gX0_applyRule_X0_takeBRight : GoodIn wsX0_applyRule (wsV RX0 22 RX0 yX0_takeBRight wsX0_takeBRight) := goodIn_app (goodIn_of _ (by decide +kernel)) ggX0_applyRule_X0_takeBRight
set_option maxRecDepth 20000 in
theorem ggX0_applyRule_X0_takeCLeft : GoodIn wsX0_applyRule wsX0_takeCLeft := goodIn_r _ [11, 12, 13, 26, 27, 28, 29] (by decide +kernel) (by decide +kernel)
set_option maxRecDepth 20000 in
theorem gX0_applyRule_X0_takeCLeft : GoodIn wsX0_applyRule (wsV RX0 26 RX0 yX0_takeCLeft wsX0_takeCLeft) := goodIn_app (goodIn_of _ (by decide +kernel)) ggX0_applyRule_X0_takeCLeft
set_option maxRecDepth 20000 in
theorem ggX0_applyRule_X0_changeSides : GoodIn wsX0_applyRule wsX0_changeSides := goodIn_r _ [17, 12, 7, 13, 6, 26, 27, 28, 29] (by decide +kernel) (by decide +kernel)
set_option maxRecDepth 20000 in
theorem gX0_applyRule_X0_changeSides : GoodIn wsX0_applyRule (wsV RX0 29 RX0 yX0_changeSides wsX0_changeSides) := goodIn_app (goodIn_of _ (by decide +kernel)) ggX0_applyRule_X0_changeSides
set_option maxRecDepth 20000 in
theorem ggX0_applyRule_X0_changeSigns : GoodIn wsX0_applyRule wsX0_changeSigns := goodIn_r _ [21, 12, 7, 13, 6, 26, 27, 28, 29] (by decide +kernel) (by decide +kernel)
set_option maxRecDepth 20000 in
theorem gX0_applyRule_X0_changeSigns : GoodIn wsX0_applyRule (wsV RX0 32 RX0 yX0_changeSigns wsX0_changeSigns) := goodIn_app (goodIn_of _ (by decide +kernel)) ggX0_applyRule_X0_changeSigns
set_option maxRecDepth 20000 in
theorem ggX0_applyRule_X0_divide : GoodIn wsX0_applyRule wsX0_divide := goodIn_ca (goodIn_r _ [25, 7, 13, 12, 6, 26, 27, 28, 29] (by decide +kernel) (by decide +kernel)) (goodIn_sub (fun _ h => List.mem_cons_of_mem _ (List.mem_append_right _ h)) (by decide +kernel))
set_option maxRecDepth 20000 in
theorem gX0_applyRule_X0_divide : GoodIn wsX0_applyRule (wsV RX0 35 RX0 yX0_divide wsX0_divide) := goodIn_app (goodIn_of _ (by decide +kernel)) ggX0_applyRule_X0_divide
set_option maxRecDepth 20000 in
theorem ggX0_ruleToTry_X0_isChangedBy : GoodIn wsX0_ruleToTry wsX0_isChangedBy := goodIn_ca (goodIn_r _ [5, 6, 7, 4, 8, 9, 10, 11, 12, 13, 14, 15, 16, 17, 18, 19, 20, 21, 22, 23, 24, 25, 26, 27, 28, 29, 30, 31, 32, 33, 34, 35, 36, 37, 38, 39, 40, 41, 42, 43, 44, 45, 46, 47, 48, 49] (by decide +kernel) (by decide +kernel)) (goodIn_sub (fun _ h => List.mem_cons_of_mem _ (List.mem_append_right _ h)) (by decide +kernel))
set_option maxRecDepth 20000 in
theorem gX0_ruleToTry_X0_isChangedBy : GoodIn wsX0_ruleToTry (wsV RX0 38 RX0 yX0_isChangedBy wsX0_isChangedBy) := goodIn_app (goodIn_of _ (by decide +kernel)) ggX0_ruleToTry_X0_isChangedBy
set_option maxRecDepth 20000 in
theorem ggX0_isChangedBy_X0_init : GoodIn wsX0_isChangedBy wsX0_init := goodIn_r _ [10, 11, 12, 13, 4, 5, 6, 7, 42, 43, 44, 45] (by decide +kernel) (by decide +kernel)
set_option maxRecDepth 20000 in
theorem gX0_isChangedBy_X0_init : GoodIn wsX0_isChangedBy (wsX0_init) := ggX0_isChangedBy_X0_init
set_option maxRecDepth 20000 in
theorem ggX0_isChangedBy_X0_applyRule : GoodIn wsX0_isChangedBy wsX0_applyRule := goodIn_ca (goodIn_r _ [17, 18, 19, 20, 3, 21, 7, 5, 22, 23, 24, 25, 4, 6, 26, 27, 28, 29, 30, 31, 32, 33, 34, 35, 36, 37, 42, 43, 44, 45] (by decide +kernel) (by decide +kernel)) (goodIn_sub (fun _ h => List.mem_cons_of_mem _ (List.mem_append_right _ h)) (by decide +kernel))
set_option maxRecDepth 20000 in
theorem gX0_isChangedBy_X0_applyRule : GoodIn wsX0_isChangedBy (wsV RX0 45 RX0 yX0_applyRule wsX0_applyRule) := goodIn_app (goodIn_of _ (by decide +kernel)) ggX0_isChangedBy_X0_applyRule
set_option maxRecDepth 20000 in
theorem ggX0_isChangedBy_X0_isSameAs : GoodIn wsX0_isChangedBy wsX0_isSameAs := goodIn_r _ [41, 4, 5, 6, 7, 42, 43, 44, 45] (by decide +kernel) (by decide +kernel)
set_option maxRecDepth 20000 in
theorem gX0_isChangedBy_X0_isSameAs : GoodIn wsX0_isChangedBy (wsV RX0 49 RX0 yX0_isSameAs wsX0_isSameAs) := goodIn_app (goodIn_of _ (by decide +kernel)) ggX0_isChangedBy_X0_isSameAs
set_option maxRecDepth 20000 in
theorem ggX1_init_X0_init : GoodIn wsX1_init wsX0_init := goodIn_r _ [12, 13, 2, 3, 14, 15, 16, 17, 23, 24, 25, 26] (by decide +kernel) (by decide +kernel)
set_option maxRecDepth 20000 in
theorem gX1_init_X0_init : GoodIn wsX1_init (wsX0_init) := ggX1_init_X0_init
set_option maxRecDepth 20000 in
theorem ggX2_init_X0_init : GoodIn wsX2_init wsX0_init := goodIn_r _ [11, 12, 2, 3, 13, 14, 15, 16, 21, 22, 23, 24] (by decide +kernel) (by decide +kernel)
set_option maxRecDepth 20000 in
theorem gX2_init_X0_init : GoodIn wsX2_init (wsX0_init) := ggX2_init_X0_init
set_option maxRecDepth 20000 in
theorem ggX2_explanationOf_X2_seek : GoodIn wsX2_explanationOf wsX2_seek := goodIn_ca (goodIn_r _ [8, 2, 3, 9, 10, 11, 12, 13, 7, 14, 15, 16, 17, 18, 19, 20, 21, 22, 23, 24, 25, 26, 27, 28, 29, 30, 31, 32, 33, 34, 35, 36, 37, 38, 39, 40, 41, 42, 43, 44, 45, 46, 47, 48, 49, 50, 51, 52, 53, 54, 55, 56, 57, 58, 5, 6, 61, 62, 63, 64, 65, 66, 67, 68] (by decide +kernel) (by decide +kernel)) (goodIn_sub (fun _ h => List.mem_cons_of_mem _ (List.mem_append_right _ h)) (by decide +kernel))
set_option maxRecDepth 20000 in
theorem gX2_explanationOf_X2_seek : GoodIn wsX2_explanationOf (va_wsS RX2 39 yX2_seek wsX2_seek) := goodIn_app (goodIn_of _ (by decide +kernel)) ggX2_explanationOf_X2_seek
set_option maxRecDepth 20000 in
theorem ggX2_seek_X2_isBetter : GoodIn wsX2_seek wsX2_isBetter := goodIn_r _ [9, 2, 10, 11, 12, 13, 14, 15, 16, 56, 57, 58, 59] (by decide +kernel) (by decide +kernel)
set_option maxRecDepth 20000 in
theorem gX2_seek_X2_isBetter : GoodIn wsX2_seek (wsV RX2 43 RX2 yX2_isBetter wsX2_isBetter) := goodIn_app (goodIn_of _ (by decide +kernel)) ggX2_seek_X2_isBetter
set_option maxRecDepth 20000 in
theorem ggX2_seek_X0_isSameAs : GoodIn wsX2_seek wsX0_isSameAs := goodIn_r _ [21, 22, 23, 24, 25, 60, 61, 62, 63] (by decide +kernel) (by decide +kernel)
set_option maxRecDepth 20000 in
theorem gX2_seek_X0_isSameAs : GoodIn wsX2_seek (wsV RX2 47 RX0 yX0_isSameAs wsX0_isSameAs) := goodIn_app (goodIn_of _ (by decide +kernel)) ggX2_seek_X0_isSameAs
set_option maxRecDepth 20000 in
theorem ggX2_seek_X0_become : GoodIn wsX2_seek wsX0_become := goodIn_r _ [29, 22, 23, 24, 25, 60, 61, 62, 63] (by decide +kernel) (by decide +kernel)
set_option maxRecDepth 20000 in
theorem gX2_seek_X0_become : GoodIn wsX2_seek (wsV RX2 51 RX0 yX0_become wsX0_become) := goodIn_app (goodIn_of _ (by decide +kernel)) ggX2_seek_X0_become
set_option maxRecDepth 20000 in
theorem ggX2_seek_X0_applyRule : GoodIn wsX2_seek wsX0_applyRule := goodIn_ca (goodIn_r _ [33, 34, 35, 36, 20, 37, 25, 23, 38, 39, 40, 41, 22, 24, 42, 43, 44, 45, 46, 47, 48, 49, 50, 51, 52, 53, 60, 61, 62, 63] (by decide +kernel) (by decide +kernel)) (goodIn_sub (fun _ h => List.mem_cons_of_mem _ (List.mem_append_right _ h)) (by decide +kernel))
set_option maxRecDepth 20000 in
theorem gX2_seek_X0_applyRule : GoodIn wsX2_seek (wsV RX2 55 RX0 yX0_applyRule wsX0_applyRule) := goodIn_app (goodIn_of _ (by decide +kernel)) ggX2_seek_X0_applyRule
set_option maxRecDepth 20000 in
theorem ggX2_seek_X2_seek : GoodIn wsX2_seek wsX2_seek := goodIn_ca (goodIn_r _ [0, 1, 2, 3, 4, 5, 6, 7, 8, 9, 10, 11, 12, 13, 14, 15, 16, 17, 18, 19, 20, 21, 22, 23, 24, 25, 26, 27, 28, 29, 30, 31, 32, 33, 34, 35, 36, 37, 38, 39, 40, 41, 42, 43, 44, 45, 46, 47, 48, 49, 50, 51, 52, 53, 54, 55, 56, 57, 58, 59, 60, 61, 62, 63] (by decide +kernel) (by decide +kernel)) (goodIn_sub (fun _ h => List.mem_cons_of_mem _ (List.mem_append_right _ h)) (by decide +kernel))
set_option maxRecDepth 20000 in
theorem gX2_seek_X2_seek : GoodIn wsX2_seek (va_wsS RX2 39 yX2_seek wsX2_seek) := goodIn_app (goodIn_of _ (by decide +kernel)) ggX2_seek_X2_seek
set_option maxRecDepth 20000 in
theorem ggX2_isBetter_J6_bitCount_0f7a4 : GoodIn wsX2_isBetter wsJ6_bitCount_0f7a4 := goodIn_r _ [5, 6, 7, 8] (by decide +kernel) (by decide +kernel)
set_option maxRecDepth 20000 in
theorem gX2_isBetter_J6_bitCount_0f7a4 : GoodIn wsX2_isBetter (va_wsS RX2 59 yJ6_bitCount_0f7a4 wsJ6_bitCount_0f7a4) := goodIn_app (goodIn_of _ (by decide +kernel)) ggX2_isBetter_J6_bitCount_0f7a4
set_option maxRecDepth 20000 in
theorem ggX3_init_X4_init : GoodIn wsX3_init wsX4_init := goodIn_r _ [11, 12, 2, 3, 13, 14, 15, 16, 17, 23, 24, 25, 26, 27, 28, 29] (by decide +kernel) (by decide +kernel)
set_option maxRecDepth 20000 in
theorem gX3_init_X4_init_n21 : GoodIn wsX3_init (wsX4_init) := ggX3_init_X4_init
set_option maxRecDepth 20000 in
theorem ggX4_noteAnswer_X5_oddsAfter : GoodIn wsX4_noteAnswer wsX5_oddsAfter := goodIn_ca (goodIn_r _ [10, 11, 12, 13, 21, 22, 23, 24] (by decide +kernel) (by decide +kernel)) (goodIn_sub (fun _ h => List.mem_cons_of_mem _ (List.mem_append_right _ h)) (by decide +kernel))
set_option maxRecDepth 20000 in
theorem gX4_noteAnswer_X5_oddsAfter : GoodIn wsX4_noteAnswer (wsV RX4 30 RX5 yX5_oddsAfter wsX5_oddsAfter) := goodIn_app (goodIn_of _ (by decide +kernel)) ggX4_noteAnswer_X5_oddsAfter
set_option maxRecDepth 20000 in
theorem ggX4_oddsFromAnswers_X5_oddsAfter : GoodIn wsX4_oddsFromAnswers wsX5_oddsAfter := goodIn_ca (goodIn_r _ [8, 9, 10, 11, 19, 20, 21, 22] (by decide +kernel) (by decide +kernel)) (goodIn_sub (fun _ h => List.mem_cons_of_mem _ (List.mem_append_right _ h)) (by decide +kernel))
set_option maxRecDepth 20000 in
theorem gX4_oddsFromAnswers_X5_oddsAfter : GoodIn wsX4_oddsFromAnswers (wsV RX4 30 RX5 yX5_oddsAfter wsX5_oddsAfter) := goodIn_app (goodIn_of _ (by decide +kernel)) ggX4_oddsFromAnswers_X5_oddsAfter
set_option maxRecDepth 20000 in
theorem ggX4_isDueBy_X4_wasAnswered : GoodIn wsX4_isDueBy wsX4_wasAnswered := goodIn_r _ [6, 1, 7, 8, 9, 10, 11, 12, 13] (by decide +kernel) (by decide +kernel)
set_option maxRecDepth 20000 in
theorem gX4_isDueBy_X4_wasAnswered : GoodIn wsX4_isDueBy (wsV RX4 45 RX4 yX4_wasAnswered wsX4_wasAnswered) := goodIn_app (goodIn_of _ (by decide +kernel)) ggX4_isDueBy_X4_wasAnswered
set_option maxRecDepth 20000 in
theorem ggX7_init_X2_init : GoodIn wsX7_init wsX2_init := goodIn_r _ [14, 15, 2, 3, 16, 17, 18, 19, 20, 21, 22, 23, 24, 25, 26, 27, 28, 35, 36, 37, 38, 39, 40, 41, 42] (by decide +kernel) (by decide +kernel)
set_option maxRecDepth 20000 in
theorem gX7_init_X2_init : GoodIn wsX7_init (wsX2_init) := ggX7_init_X2_init
set_option maxRecDepth 20000 in
theorem ggX7_addSkill_X7_checkThousandths : GoodIn wsX7_addSkill wsX7_checkThousandths := goodIn_ca (goodIn_r _ [11, 12, 13] (by decide +kernel) (by decide +kernel)) (goodIn_sub (fun _ h => List.mem_cons_of_mem _ (List.mem_append_right _ h)) (by decide +kernel))
set_option maxRecDepth 20000 in
theorem gX7_addSkill_X7_checkThousandths : GoodIn wsX7_addSkill (va_wsS RX7 28 yX7_checkThousandths wsX7_checkThousandths) := goodIn_app (goodIn_of _ (by decide +kernel)) ggX7_addSkill_X7_checkThousandths
set_option maxRecDepth 20000 in
theorem ggX7_addSkill_X5_init : GoodIn wsX7_addSkill wsX5_init := goodIn_r _ [16, 17, 18, 19, 20, 21, 22, 29, 30, 31, 32] (by decide +kernel) (by decide +kernel)
set_option maxRecDepth 20000 in
theorem gX7_addSkill_X5_init : GoodIn wsX7_addSkill (wsX5_init) := ggX7_addSkill_X5_init
set_option maxRecDepth 20000 in
theorem ggX7_addNeed_X7_skillAt : GoodIn wsX7_addNeed wsX7_skillAt := goodIn_ca (goodIn_r _ [8, 9, 10, 11, 12, 31, 32, 33, 34, 35, 36] (by decide +kernel) (by decide +kernel)) (goodIn_sub (fun _ h => List.mem_cons_of_mem _ (List.mem_append_right _ h)) (by decide +kernel))
set_option maxRecDepth 20000 in
theorem gX7_addNeed_X7_skillAt : GoodIn wsX7_addNeed (wsV RX7 46 RX7 yX7_skillAt wsX7_skillAt) := goodIn_app (goodIn_of _ (by decide +kernel)) ggX7_addNeed_X7_skillAt
set_option maxRecDepth 20000 in
theorem ggX7_addNeed_X7_comesToNeed : GoodIn wsX7_addNeed wsX7_comesToNeed := goodIn_r _ [16, 11, 17, 18, 19, 7, 20, 12, 3, 31, 32, 33, 34, 35, 36, 27, 28, 29, 30] (by decide +kernel) (by decide +kernel)
set_option maxRecDepth 20000 in
theorem gX7_addNeed_X7_comesToNeed : GoodIn wsX7_addNeed (wsV RX7 50 RX7 yX7_comesToNeed wsX7_comesToNeed) := goodIn_app (goodIn_of _ (by decide +kernel)) ggX7_addNeed_X7_comesToNeed
set_option maxRecDepth 20000 in
theorem ggX7_addNeed_X5_needs : GoodIn wsX7_addNeed wsX5_needs := goodIn_r _ [25, 26, 27, 28, 29, 30] (by decide +kernel) (by decide +kernel)
set_option maxRecDepth 20000 in
theorem gX7_addNeed_X5_needs : GoodIn wsX7_addNeed (wsV RX7 59 RX5 yX5_needs wsX5_needs) := goodIn_app (goodIn_of _ (by decide +kernel)) ggX7_addNeed_X5_needs
set_option maxRecDepth 20000 in
theorem ggX7_addLearner_X3_init : GoodIn wsX7_addLearner wsX3_init := goodIn_ca (goodIn_r _ [10, 11, 12, 13, 14, 15, 16, 17, 18, 19, 20, 21, 22, 23, 24, 25, 26, 27, 34, 35, 36, 37, 38, 39, 40, 41, 42, 43, 44, 45] (by decide +kernel) (by decide +kernel)) (goodIn_sub (fun _ h => List.mem_cons_of_mem _ (List.mem_append_right _ h)) (by decide +kernel))
set_option maxRecDepth 20000 in
theorem gX7_addLearner_X3_init : GoodIn wsX7_addLearner (wsX3_init) := ggX7_addLearner_X3_init
set_option maxRecDepth 20000 in
theorem ggX7_open_X7_learnerAt : GoodIn wsX7_open wsX7_learnerAt := goodIn_ca (goodIn_r _ [7, 8, 9, 10, 11, 41, 42, 43, 44, 45, 46] (by decide +kernel) (by decide +kernel)) (goodIn_sub (fun _ h => List.mem_cons_of_mem _ (List.mem_append_right _ h)) (by decide +kernel))
set_option maxRecDepth 20000 in
theorem gX7_open_X7_learnerAt : GoodIn wsX7_open (wsV RX7 72 RX7 yX7_learnerAt wsX7_learnerAt) := goodIn_app (goodIn_of _ (by decide +kernel)) ggX7_open_X7_learnerAt
set_option maxRecDepth 20000 in
theorem ggX7_open_X7_skillAt : GoodIn wsX7_open wsX7_skillAt := goodIn_ca (goodIn_r _ [15, 8, 9, 16, 17, 41, 42, 43, 44, 45, 46] (by decide +kernel) (by decide +kernel)) (goodIn_sub (fun _ h => List.mem_cons_of_mem _ (List.mem_append_right _ h)) (by decide +kernel))
set_option maxRecDepth 20000 in
theorem gX7_open_X7_skillAt : GoodIn wsX7_open (wsV RX7 46 RX7 yX7_skillAt wsX7_skillAt) := goodIn_app (goodIn_of _ (by decide +kernel)) ggX7_open_X7_skillAt
set_option maxRecDepth 20000 in
theorem ggX7_open_X7_isOpenFor : GoodIn wsX7_open wsX7_isOpenFor := goodIn_r _ [21, 1, 2, 16, 17, 22, 23, 24, 25, 26, 27, 28, 29, 30, 31, 32, 33, 34, 35, 36, 37, 38, 39, 40, 41, 42, 43, 44, 45, 46, 47, 48, 49, 50] (by decide +kernel) (by decide +kernel)
set_option maxRecDepth 20000 in
theorem gX7_open_X7_isOpenFor : GoodIn wsX7_open (wsV RX7 76 RX7 yX7_isOpenFor wsX7_isOpenFor) := goodIn_app (goodIn_of _ (by decide +kernel)) ggX7_open_X7_isOpenFor
set_option maxRecDepth 20000 in
theorem ggX7_isOpen_X7_learnerAt : GoodIn wsX7_isOpen wsX7_learnerAt := goodIn_ca (goodIn_r _ [5, 6, 7, 8, 9, 29, 30, 31, 32, 33, 34] (by decide +kernel) (by decide +kernel)) (goodIn_sub (fun _ h => List.mem_cons_of_mem _ (List.mem_append_right _ h)) (by decide +kernel))
set_option maxRecDepth 20000 in
theorem gX7_isOpen_X7_learnerAt : GoodIn wsX7_isOpen (wsV RX7 72 RX7 yX7_learnerAt wsX7_learnerAt) := goodIn_app (goodIn_of _ (by decide +kernel)) ggX7_isOpen_X7_learnerAt
set_option maxRecDepth 20000 in
theorem ggX7_isOpen_X7_skillAt : GoodIn wsX7_isOpen wsX7_skillAt := goodIn_ca (goodIn_r _ [13, 6, 7, 14, 15, 29, 30, 31, 32, 33, 34] (by decide +kernel) (by decide +kernel)) (goodIn_sub (fun _ h => List.mem_cons_of_mem _ (List.mem_append_right _ h)) (by decide +kernel))
set_option maxRecDepth 20000 in
theorem gX7_isOpen_X7_skillAt : GoodIn wsX7_isOpen (wsV RX7 46 RX7 yX7_skillAt wsX7_skillAt) := goodIn_app (goodIn_of _ (by decide +kernel)) ggX7_isOpen_X7_skillAt
set_option maxRecDepth 20000 in
theorem ggX7_isOpen_X7_isOpenFor : GoodIn wsX7_isOpen wsX7_isOpenFor := goodIn_r _ [19, 20, 21, 14, 15, 22, 23, 24, 25, 26, 27, 28, 35, 36, 37, 38, 39, 40, 41, 42, 43, 44, 45, 46, 29, 30, 31, 32, 33, 34, 47, 48, 49, 50] (by decide +kernel) (by decide +kernel)
set_option maxRecDepth 20000 in
theorem gX7_isOpen_X7_isOpenFor : GoodIn wsX7_isOpen (wsV RX7 76 RX7 yX7_isOpenFor wsX7_isOpenFor) := goodIn_app (goodIn_of _ (by decide +kernel)) ggX7_isOpen_X7_isOpenFor
set_option maxRecDepth 20000 in
theorem ggX7_setOdds_X7_masteryAt : GoodIn wsX7_setOdds wsX7_masteryAt := goodIn_ca (goodIn_r _ [8, 9, 10, 11, 12, 7, 13, 14, 15, 16, 17, 18, 19, 20, 21, 22, 23, 39, 40, 41, 42, 43, 44, 45, 46, 47, 48, 49] (by decide +kernel) (by decide +kernel)) (goodIn_sub (fun _ h => List.mem_cons_of_mem _ (List.mem_append_right _ h)) (by decide +kernel))
set_option maxRecDepth 20000 in
theorem gX7_setOdds_X7_masteryAt : GoodIn wsX7_setOdds (wsV RX7 90 RX7 yX7_masteryAt wsX7_masteryAt) := goodIn_app (goodIn_of _ (by decide +kernel)) ggX7_setOdds_X7_masteryAt
set_option maxRecDepth 20000 in
theorem ggX7_setOdds_X4_tellOdds : GoodIn wsX7_setOdds wsX4_tellOdds := goodIn_r _ [28, 29, 30, 31, 32, 33, 34, 35, 36, 37, 38] (by decide +kernel) (by decide +kernel)
set_option maxRecDepth 20000 in
theorem gX7_setOdds_X4_tellOdds : GoodIn wsX7_setOdds (wsV RX7 99 RX4 yX4_tellOdds wsX4_tellOdds) := goodIn_app (goodIn_of _ (by decide +kernel)) ggX7_setOdds_X4_tellOdds
set_option maxRecDepth 20000 in
theorem ggX7_answer_X7_learnerAt : GoodIn wsX7_answer wsX7_learnerAt := goodIn_ca (goodIn_r _ [7, 8, 9, 10, 11, 86, 87, 88, 89, 90, 91] (by decide +kernel) (by decide +kernel)) (goodIn_sub (fun _ h => List.mem_cons_of_mem _ (List.mem_append_left _ (List.mem_append_left _ (List.mem_append_left _ (List.mem_append_right _ h))))) (by decide +kernel))
set_option maxRecDepth 20000 in
theorem gX7_answer_X7_learnerAt : GoodIn wsX7_answer (wsV RX7 72 RX7 yX7_learnerAt wsX7_learnerAt) := goodIn_app (goodIn_of _ (by decide +kernel)) ggX7_answer_X7_learnerAt
set_option maxRecDepth 20000 in
theorem ggX7_answer_X7_skillAt : GoodIn wsX7_answer wsX7_skillAt := goodIn_ca (goodIn_r _ [15, 8, 9, 16, 17, 86, 87, 88, 89, 90, 91] (by decide +kernel) (by decide +kernel)) (goodIn_sub (fun _ h => List.mem_cons_of_mem _ (List.mem_append_left _ (List.mem_append_left _ (List.mem_append_left _ (List.mem_append_right _ h))))) (by decide +kernel))
set_option maxRecDepth 20000 in
theorem gX7_answer_X7_skillAt : GoodIn wsX7_answer (wsV RX7 46 RX7 yX7_skillAt wsX7_skillAt) := goodIn_app (goodIn_of _ (by decide +kernel)) ggX7_answer_X7_skillAt
set_option maxRecDepth 20000 in
theorem ggX7_answer_X7_checkOpen : GoodIn wsX7_answer wsX7_checkOpen := goodIn_ca (goodIn_r _ [21, 22, 23, 24, 25, 26, 6, 27, 1, 28, 16, 17, 2, 29, 30, 31, 32, 33, 34, 74, 75, 76, 77, 78, 79, 80, 81, 82, 83, 84, 85, 86, 87, 88, 89, 90, 91, 92, 93, 94, 95] (by decide +kernel) (by decide +kernel)) (goodIn_sub (fun _ h => List.mem_cons_of_mem _ (List.mem_append_left _ (List.mem_append_left _ (List.mem_append_right _ h)))) (by decide +kernel))
set_option maxRecDepth 20000 in
theorem gX7_answer_X7_checkOpen : GoodIn wsX7_answer (wsV RX7 102 RX7 yX7_checkOpen wsX7_checkOpen) := goodIn_app (goodIn_of _ (by decide +kernel)) ggX7_answer_X7_checkOpen
set_option maxRecDepth 20000 in
theorem ggX7_answer_X7_noteAnswer : GoodIn wsX7_answer wsX7_noteAnswer := goodIn_ca (goodIn_ca (goodIn_r _ [38, 1, 17, 39, 40, 41, 42, 43, 44, 45, 46, 47, 48, 49, 50, 51, 52, 53, 32, 54, 55, 56, 57, 58, 59, 60, 61, 62, 63, 64, 65, 66, 67, 68, 6, 69, 16, 70, 71, 72, 73, 74, 75, 76, 77, 78, 86, 87, 88, 89, 90, 91, 79, 80, 81, 82, 83, 84, 85, 92, 93, 94, 95] (by decide +kernel) (by decide +kernel)) (goodIn_sub (fun _ h => List.mem_cons_of_mem _ (List.mem_append_left _ (List.mem_append_right _ h))) (by decide +kernel))) (goodIn_sub (fun _ h => List.mem_cons_of_mem _ (List.mem_append_right _ h)) (by decide +kernel))
set_option maxRecDepth 20000 in
theorem gX7_answer_X7_noteAnswer : GoodIn wsX7_answer (wsV RX7 106 RX7 yX7_noteAnswer wsX7_noteAnswer) := goodIn_app (goodIn_of _ (by decide +kernel)) ggX7_answer_X7_noteAnswer
set_option maxRecDepth 20000 in
theorem ggX7_odds_X7_masteryAt : GoodIn wsX7_odds wsX7_masteryAt := goodIn_ca (goodIn_r _ [6, 7, 8, 9, 10, 5, 11, 12, 13, 14, 15, 16, 17, 18, 19, 20, 21, 29, 30, 31, 32, 33, 34, 35, 36, 37, 38, 39] (by decide +kernel) (by decide +kernel)) (goodIn_sub (fun _ h => List.mem_cons_of_mem _ (List.mem_append_right _ h)) (by decide +kernel))
set_option maxRecDepth 20000 in
theorem gX7_odds_X7_masteryAt : GoodIn wsX7_odds (wsV RX7 90 RX7 yX7_masteryAt wsX7_masteryAt) := goodIn_app (goodIn_of _ (by decide +kernel)) ggX7_odds_X7_masteryAt
set_option maxRecDepth 20000 in
theorem ggX7_oddsAnew_X7_masteryAt : GoodIn wsX7_oddsAnew wsX7_masteryAt := goodIn_ca (goodIn_r _ [5, 6, 7, 8, 9, 4, 10, 11, 12, 13, 14, 15, 16, 17, 18, 19, 20, 37, 38, 39, 40, 41, 42, 43, 44, 45, 46, 47] (by decide +kernel) (by decide +kernel)) (goodIn_sub (fun _ h => List.mem_cons_of_mem _ (List.mem_append_left _ (List.mem_append_left _ (List.mem_append_right _ h)))) (by decide +kernel))
set_option maxRecDepth 20000 in
theorem gX7_oddsAnew_X7_masteryAt : GoodIn wsX7_oddsAnew (wsV RX7 90 RX7 yX7_masteryAt wsX7_masteryAt) := goodIn_app (goodIn_of _ (by decide +kernel)) ggX7_oddsAnew_X7_masteryAt
set_option maxRecDepth 20000 in
theorem ggX7_oddsAnew_X7_skillAt : GoodIn wsX7_oddsAnew wsX7_skillAt := goodIn_ca (goodIn_r _ [18, 11, 12, 19, 20, 42, 43, 44, 45, 46, 47] (by decide +kernel) (by decide +kernel)) (goodIn_sub (fun _ h => List.mem_cons_of_mem _ (List.mem_append_left _ (List.mem_append_left _ (List.mem_append_right _ h)))) (by decide +kernel))
set_option maxRecDepth 20000 in
theorem gX7_oddsAnew_X7_skillAt : GoodIn wsX7_oddsAnew (wsV RX7 46 RX7 yX7_skillAt wsX7_skillAt) := goodIn_app (goodIn_of _ (by decide +kernel)) ggX7_oddsAnew_X7_skillAt
set_option maxRecDepth 20000 in
theorem ggX7_oddsAnew_X4_oddsFromAnswers : GoodIn wsX7_oddsAnew wsX4_oddsFromAnswers := goodIn_ca (goodIn_ca (goodIn_r _ [25, 26, 27, 28, 29, 30, 31, 32, 33, 34, 35, 36, 48, 49, 50, 51, 52, 53, 54, 55, 56, 57, 58] (by decide +kernel) (by decide +kernel)) (goodIn_sub (fun _ h => List.mem_cons_of_mem _ (List.mem_append_left _ (List.mem_append_right _ h))) (by decide +kernel))) (goodIn_sub (fun _ h => List.mem_cons_of_mem _ (List.mem_append_right _ h)) (by decide +kernel))
set_option maxRecDepth 20000 in
theorem gX7_oddsAnew_X4_oddsFromAnswers : GoodIn wsX7_oddsAnew (wsV RX7 110 RX4 yX4_oddsFromAnswers wsX4_oddsFromAnswers) := goodIn_app (goodIn_of _ (by decide +kernel)) ggX7_oddsAnew_X4_oddsFromAnswers
set_option maxRecDepth 20000 in
theorem ggX7_answers_X7_masteryAt : GoodIn wsX7_answers wsX7_masteryAt := goodIn_ca (goodIn_r _ [6, 7, 8, 9, 10, 5, 11, 12, 13, 14, 15, 16, 17, 18, 19, 20, 21, 29, 30, 31, 32, 33, 34, 35, 36, 37, 38, 39] (by decide +kernel) (by decide +kernel)) (goodIn_sub (fun _ h => List.mem_cons_of_mem _ (List.mem_append_right _ h)) (by decide +kernel))
set_option maxRecDepth 20000 in
theorem gX7_answers_X7_masteryAt : GoodIn wsX7_answers (wsV RX7 90 RX7 yX7_masteryAt wsX7_masteryAt) := goodIn_app (goodIn_of _ (by decide +kernel)) ggX7_answers_X7_masteryAt
set_option maxRecDepth 20000 in
theorem ggX7_due_X7_masteryAt : GoodIn wsX7_due wsX7_masteryAt := goodIn_ca (goodIn_r _ [8, 9, 10, 11, 12, 7, 13, 14, 15, 16, 17, 18, 19, 20, 21, 22, 23, 37, 38, 39, 40, 41, 42, 43, 44, 45, 46, 47] (by decide +kernel) (by decide +kernel)) (goodIn_sub (fun _ h => List.mem_cons_of_mem _ (List.mem_append_right _ h)) (by decide +kernel))
set_option maxRecDepth 20000 in
theorem gX7_due_X7_masteryAt : GoodIn wsX7_due (wsV RX7 90 RX7 yX7_masteryAt wsX7_masteryAt) := goodIn_app (goodIn_of _ (by decide +kernel)) ggX7_due_X7_masteryAt
set_option maxRecDepth 20000 in
theorem ggX7_due_X4_wasAnswered : GoodIn wsX7_due wsX4_wasAnswered := goodIn_r _ [28, 29, 30, 31, 32, 33, 34, 35, 36] (by decide +kernel) (by decide +kernel)
set_option maxRecDepth 20000 in
theorem gX7_due_X4_wasAnswered : GoodIn wsX7_due (wsV RX7 125 RX4 yX4_wasAnswered wsX4_wasAnswered) := goodIn_app (goodIn_of _ (by decide +kernel)) ggX7_due_X4_wasAnswered
set_option maxRecDepth 20000 in
theorem ggX7_reviews_X7_learnerAt : GoodIn wsX7_reviews wsX7_learnerAt := goodIn_ca (goodIn_r _ [8, 9, 10, 11, 12, 23, 24, 25, 26, 27, 28] (by decide +kernel) (by decide +kernel)) (goodIn_sub (fun _ h => List.mem_cons_of_mem _ (List.mem_append_right _ h)) (by decide +kernel))
set_option maxRecDepth 20000 in
theorem gX7_reviews_X7_learnerAt : GoodIn wsX7_reviews (wsV RX7 72 RX7 yX7_learnerAt wsX7_learnerAt) := goodIn_app (goodIn_of _ (by decide +kernel)) ggX7_reviews_X7_learnerAt
set_option maxRecDepth 20000 in
theorem ggX7_reviews_X4_isDueBy : GoodIn wsX7_reviews wsX4_isDueBy := goodIn_r _ [17, 18, 19, 20, 21, 16, 22, 34, 35, 36, 37, 38, 39, 40] (by decide +kernel) (by decide +kernel)
set_option maxRecDepth 20000 in
theorem gX7_reviews_X4_isDueBy : GoodIn wsX7_reviews (wsV RX7 137 RX4 yX4_isDueBy wsX4_isDueBy) := goodIn_app (goodIn_of _ (by decide +kernel)) ggX7_reviews_X4_isDueBy
set_option maxRecDepth 20000 in
theorem ggX7_reviewAt_X7_learnerAt : GoodIn wsX7_reviewAt wsX7_learnerAt := goodIn_ca (goodIn_r _ [10, 11, 12, 13, 14, 30, 31, 32, 33, 34, 35] (by decide +kernel) (by decide +kernel)) (goodIn_sub (fun _ h => List.mem_cons_of_mem _ (List.mem_append_right _ h)) (by decide +kernel))
set_option maxRecDepth 20000 in
theorem gX7_reviewAt_X7_learnerAt : GoodIn wsX7_reviewAt (wsV RX7 72 RX7 yX7_learnerAt wsX7_learnerAt) := goodIn_app (goodIn_of _ (by decide +kernel)) ggX7_reviewAt_X7_learnerAt
set_option maxRecDepth 20000 in
theorem ggX7_reviewAt_X4_isDueBy : GoodIn wsX7_reviewAt wsX4_isDueBy := goodIn_r _ [19, 20, 21, 22, 23, 18, 24, 41, 42, 43, 44, 45, 46, 47] (by decide +kernel) (by decide +kernel)
set_option maxRecDepth 20000 in
theorem gX7_reviewAt_X4_isDueBy : GoodIn wsX7_reviewAt (wsV RX7 137 RX4 yX4_isDueBy wsX4_isDueBy) := goodIn_app (goodIn_of _ (by decide +kernel)) ggX7_reviewAt_X4_isDueBy
set_option maxRecDepth 20000 in
theorem ggX7_reviewAt_X7_reviewsAheadOf : GoodIn wsX7_reviewAt wsX7_reviewsAheadOf := goodIn_r _ [28, 4, 29, 3, 5, 15, 16, 17, 18, 19, 20, 21, 22, 23, 24, 36, 37, 38, 39, 40, 41, 42, 43, 44, 45, 46, 47, 30, 31, 32, 33, 34, 35] (by decide +kernel) (by decide +kernel)
set_option maxRecDepth 20000 in
theorem gX7_reviewAt_X7_reviewsAheadOf : GoodIn wsX7_reviewAt (wsV RX7 140 RX7 yX7_reviewsAheadOf wsX7_reviewsAheadOf) := goodIn_app (goodIn_of _ (by decide +kernel)) ggX7_reviewAt_X7_reviewsAheadOf
set_option maxRecDepth 20000 in
theorem ggX7_choose_X7_learnerAt : GoodIn wsX7_choose wsX7_learnerAt := goodIn_ca (goodIn_r _ [7, 8, 9, 10, 11, 49, 50, 51, 52, 53, 54] (by decide +kernel) (by decide +kernel)) (goodIn_sub (fun _ h => List.mem_cons_of_mem _ (List.mem_append_right _ h)) (by decide +kernel))
set_option maxRecDepth 20000 in
theorem gX7_choose_X7_learnerAt : GoodIn wsX7_choose (wsV RX7 72 RX7 yX7_learnerAt wsX7_learnerAt) := goodIn_app (goodIn_of _ (by decide +kernel)) ggX7_choose_X7_learnerAt
set_option maxRecDepth 20000 in
theorem ggX7_choose_X7_firstOpenReview : GoodIn wsX7_choose wsX7_firstOpenReview := goodIn_r _ [15, 16, 17, 18, 19, 20, 21, 22, 23, 24, 25, 26, 27, 28, 29, 30, 31, 32, 6, 33, 34, 35, 36, 37, 38, 39, 40, 41, 42, 49, 50, 51, 52, 53, 54, 55, 56, 57, 58, 59, 60, 61, 62, 63, 64, 65, 66, 67, 68, 69, 70] (by decide +kernel) (by decide +kernel)
set_option maxRecDepth 20000 in
theorem gX7_choose_X7_firstOpenReview : GoodIn wsX7_choose (wsV RX7 146 RX7 yX7_firstOpenReview wsX7_firstOpenReview) := goodIn_app (goodIn_of _ (by decide +kernel)) ggX7_choose_X7_firstOpenReview
set_option maxRecDepth 20000 in
theorem ggX7_choose_X7_bestNewSkill : GoodIn wsX7_choose wsX7_bestNewSkill := goodIn_r _ [46, 16, 17, 36, 35, 47, 48, 27, 28, 23, 29, 25, 30, 31, 32, 6, 33, 34, 37, 38, 39, 40, 41, 42, 49, 50, 51, 52, 53, 54, 55, 56, 57, 58, 59, 60, 61, 62, 63, 64, 65, 66, 67, 68, 69, 70] (by decide +kernel) (by decide +kernel)
set_option maxRecDepth 20000 in
theorem gX7_choose_X7_bestNewSkill : GoodIn wsX7_choose (wsV RX7 150 RX7 yX7_bestNewSkill wsX7_bestNewSkill) := goodIn_app (goodIn_of _ (by decide +kernel)) ggX7_choose_X7_bestNewSkill
set_option maxRecDepth 20000 in
theorem ggX7_make_X7_learnerAt : GoodIn wsX7_make wsX7_learnerAt := goodIn_ca (goodIn_r _ [11, 12, 13, 14, 15, 82, 83, 84, 85, 86, 87] (by decide +kernel) (by decide +kernel)) (goodIn_sub (fun _ h => List.mem_cons_of_mem _ (List.mem_append_left _ (List.mem_append_left _ (List.mem_append_right _ h)))) (by decide +kernel))
set_option maxRecDepth 20000 in
theorem gX7_make_X7_learnerAt : GoodIn wsX7_make (wsV RX7 72 RX7 yX7_learnerAt wsX7_learnerAt) := goodIn_app (goodIn_of _ (by decide +kernel)) ggX7_make_X7_learnerAt
set_option maxRecDepth 20000 in
theorem ggX7_make_X7_skillAt : GoodIn wsX7_make wsX7_skillAt := goodIn_ca (goodIn_r _ [19, 12, 13, 20, 21, 82, 83, 84, 85, 86, 87] (by decide +kernel) (by decide +kernel)) (goodIn_sub (fun _ h => List.mem_cons_of_mem _ (List.mem_append_left _ (List.mem_append_left _ (List.mem_append_right _ h)))) (by decide +kernel))
set_option maxRecDepth 20000 in
theorem gX7_make_X7_skillAt : GoodIn wsX7_make (wsV RX7 46 RX7 yX7_skillAt wsX7_skillAt) := goodIn_app (goodIn_of _ (by decide +kernel)) ggX7_make_X7_skillAt
set_option maxRecDepth 20000 in
theorem ggX7_make_X7_checkOpen : GoodIn wsX7_make wsX7_checkOpen := goodIn_ca (goodIn_r _ [25, 26, 27, 28, 29, 30, 10, 31, 32, 33, 20, 21, 34, 35, 36, 37, 38, 39, 40, 77, 78, 79, 80, 81, 88, 89, 90, 91, 92, 93, 94, 82, 83, 84, 85, 86, 87, 95, 96, 97, 98] (by decide +kernel) (by decide +kernel)) (goodIn_sub (fun _ h => List.mem_cons_of_mem _ (List.mem_append_left _ (List.mem_append_right _ h))) (by decide +kernel))
set_option maxRecDepth 20000 in
theorem gX7_make_X7_checkOpen : GoodIn wsX7_make (wsV RX7 102 RX7 yX7_checkOpen wsX7_checkOpen) := goodIn_app (goodIn_of _ (by decide +kernel)) ggX7_make_X7_checkOpen
set_option maxRecDepth 20000 in
theorem ggX7_make_X3_remembers : GoodIn wsX7_make wsX3_remembers := goodIn_ca (goodIn_r _ [45, 46, 77, 78, 79, 80, 81] (by decide +kernel) (by decide +kernel)) (goodIn_sub (fun _ h => List.mem_cons_of_mem _ (List.mem_append_right _ h)) (by decide +kernel))
set_option maxRecDepth 20000 in
theorem gX7_make_X3_remembers : GoodIn wsX7_make (wsV RX7 157 RX3 yX3_remembers wsX3_remembers) := goodIn_app (goodIn_of _ (by decide +kernel)) ggX7_make_X3_remembers
set_option maxRecDepth 20000 in
theorem ggX7_make_X3_remember : GoodIn wsX7_make wsX3_remember := goodIn_ca (goodIn_r _ [50, 46, 51, 77, 78, 79, 80, 81] (by decide +kernel) (by decide +kernel)) (goodIn_sub (fun _ h => List.mem_cons_of_mem _ (List.mem_append_right _ h)) (by decide +kernel))
set_option maxRecDepth 20000 in
theorem gX7_make_X3_remember : GoodIn wsX7_make (wsV RX7 160 RX3 yX3_remember wsX3_remember) := goodIn_app (goodIn_of _ (by decide +kernel)) ggX7_make_X3_remember
set_option maxRecDepth 20000 in
theorem ggX7_make_X1_init : GoodIn wsX7_make wsX1_init := goodIn_r _ [54, 55, 56, 57, 58, 59, 60, 61, 62, 63, 64, 65, 66, 67, 68, 69, 70, 71, 72, 73, 74, 75, 76, 99, 100, 101, 102] (by decide +kernel) (by decide +kernel)
set_option maxRecDepth 20000 in
theorem gX7_make_X1_init : GoodIn wsX7_make (wsX1_init) := ggX7_make_X1_init
set_option maxRecDepth 20000 in
theorem ggX7_part_X7_learnerAt : GoodIn wsX7_part wsX7_learnerAt := goodIn_ca (goodIn_r _ [8, 9, 10, 11, 12, 33, 34, 35, 36, 37, 38] (by decide +kernel) (by decide +kernel)) (goodIn_sub (fun _ h => List.mem_cons_of_mem _ (List.mem_append_left _ (List.mem_append_right _ h))) (by decide +kernel))
set_option maxRecDepth 20000 in
theorem gX7_part_X7_learnerAt : GoodIn wsX7_part (wsV RX7 72 RX7 yX7_learnerAt wsX7_learnerAt) := goodIn_app (goodIn_of _ (by decide +kernel)) ggX7_part_X7_learnerAt
set_option maxRecDepth 20000 in
theorem ggX7_part_X7_exerciseOf : GoodIn wsX7_part wsX7_exerciseOf := goodIn_ca (goodIn_r _ [15, 16, 17, 18, 39, 40, 41, 42, 43] (by decide +kernel) (by decide +kernel)) (goodIn_sub (fun _ h => List.mem_cons_of_mem _ (List.mem_append_right _ h)) (by decide +kernel))
set_option maxRecDepth 20000 in
theorem gX7_part_X7_exerciseOf : GoodIn wsX7_part (va_wsS RX7 174 yX7_exerciseOf wsX7_exerciseOf) := goodIn_app (goodIn_of _ (by decide +kernel)) ggX7_part_X7_exerciseOf
set_option maxRecDepth 20000 in
theorem ggX7_part_X0_numberNamed : GoodIn wsX7_part wsX0_numberNamed := goodIn_r _ [23, 24, 25, 26, 27, 44, 45, 46, 47] (by decide +kernel) (by decide +kernel)
set_option maxRecDepth 20000 in
theorem gX7_part_X0_numberNamed : GoodIn wsX7_part (wsV RX7 182 RX0 yX0_numberNamed wsX0_numberNamed) := goodIn_app (goodIn_of _ (by decide +kernel)) ggX7_part_X0_numberNamed
set_option maxRecDepth 20000 in
theorem ggX7_step_X7_learnerAt : GoodIn wsX7_step wsX7_learnerAt := goodIn_ca (goodIn_r _ [16, 17, 18, 19, 20, 121, 122, 123, 124, 125, 126] (by decide +kernel) (by decide +kernel)) (goodIn_sub (fun _ h => List.mem_cons_of_mem _ (List.mem_append_left _ (List.mem_append_left _ (List.mem_append_left _ (List.mem_append_left _ (List.mem_append_right _ h)))))) (by decide +kernel))
set_option maxRecDepth 20000 in
theorem gX7_step_X7_learnerAt : GoodIn wsX7_step (wsV RX7 72 RX7 yX7_learnerAt wsX7_learnerAt) := goodIn_app (goodIn_of _ (by decide +kernel)) ggX7_step_X7_learnerAt
set_option maxRecDepth 20000 in
theorem ggX7_step_X7_checkTold : GoodIn wsX7_step wsX7_checkTold := goodIn_ca (goodIn_r _ [23, 24, 25] (by decide +kernel) (by decide +kernel)) (goodIn_sub (fun _ h => List.mem_cons_of_mem _ (List.mem_append_left _ (List.mem_append_left _ (List.mem_append_left _ (List.mem_append_right _ h))))) (by decide +kernel))
set_option maxRecDepth 20000 in
theorem gX7_step_X7_checkTold : GoodIn wsX7_step (va_wsS RX7 188 yX7_checkTold wsX7_checkTold) := goodIn_app (goodIn_of _ (by decide +kernel)) ggX7_step_X7_checkTold
set_option maxRecDepth 20000 in
theorem ggX7_step_X7_exerciseOf : GoodIn wsX7_step wsX7_exerciseOf := goodIn_ca (goodIn_r _ [28, 29, 30, 10, 116, 117, 118, 119, 120] (by decide +kernel) (by decide +kernel)) (goodIn_sub (fun _ h => List.mem_cons_of_mem _ (List.mem_append_left _ (List.mem_append_left _ (List.mem_append_right _ h)))) (by decide +kernel))
set_option maxRecDepth 20000 in
theorem gX7_step_X7_exerciseOf : GoodIn wsX7_step (va_wsS RX7 174 yX7_exerciseOf wsX7_exerciseOf) := goodIn_app (goodIn_of _ (by decide +kernel)) ggX7_step_X7_exerciseOf
set_option maxRecDepth 20000 in
theorem ggX7_step_X0_init : GoodIn wsX7_step wsX0_init := goodIn_r _ [33, 34, 35, 36, 37, 38, 39, 40, 105, 106, 107, 108] (by decide +kernel) (by decide +kernel)
set_option maxRecDepth 20000 in
theorem gX7_step_X0_init : GoodIn wsX7_step (wsX0_init) := ggX7_step_X0_init
set_option maxRecDepth 20000 in
theorem ggX7_step_X0_hasSameSolutionsAs : GoodIn wsX7_step wsX0_hasSameSolutionsAs := goodIn_r _ [44, 37, 39, 40, 38, 105, 106, 107, 108] (by decide +kernel) (by decide +kernel)
set_option maxRecDepth 20000 in
theorem gX7_step_X0_hasSameSolutionsAs : GoodIn wsX7_step (wsV RX7 194 RX0 yX0_hasSameSolutionsAs wsX0_hasSameSolutionsAs) := goodIn_app (goodIn_of _ (by decide +kernel)) ggX7_step_X0_hasSameSolutionsAs
set_option maxRecDepth 20000 in
theorem ggX7_step_X6_init : GoodIn wsX7_step wsX6_init := goodIn_r _ [47, 48, 35, 36, 49, 50, 114, 115] (by decide +kernel) (by decide +kernel)
set_option maxRecDepth 20000 in
theorem gX7_step_X6_init : GoodIn wsX7_step (wsX6_init) := ggX7_step_X6_init
set_option maxRecDepth 20000 in
theorem ggX7_step_X0_isSolved : GoodIn wsX7_step wsX0_isSolved := goodIn_r _ [54, 37, 38, 39, 105, 106, 107, 108] (by decide +kernel) (by decide +kernel)
set_option maxRecDepth 20000 in
theorem gX7_step_X0_isSolved : GoodIn wsX7_step (wsV RX7 210 RX0 yX0_isSolved wsX0_isSolved) := goodIn_app (goodIn_of _ (by decide +kernel)) ggX7_step_X0_isSolved
set_option maxRecDepth 20000 in
theorem ggX7_step_X1_isFaultless : GoodIn wsX7_step wsX1_isFaultless := goodIn_r _ [59, 60, 61, 109, 110, 111, 112, 113] (by decide +kernel) (by decide +kernel)
set_option maxRecDepth 20000 in
theorem gX7_step_X1_isFaultless : GoodIn wsX7_step (wsV RX7 216 RX1 yX1_isFaultless wsX1_isFaultless) := goodIn_app (goodIn_of _ (by decide +kernel)) ggX7_step_X1_isFaultless
set_option maxRecDepth 20000 in
theorem ggX7_step_X7_noteAnswer : GoodIn wsX7_step wsX7_noteAnswer := goodIn_ca (goodIn_ca (goodIn_r _ [65, 66, 67, 68, 69, 70, 71, 72, 73, 74, 75, 76, 77, 78, 79, 80, 81, 82, 83, 84, 85, 86, 87, 88, 89, 90, 91, 92, 93, 94, 95, 96, 97, 98, 15, 99, 100, 101, 102, 103, 104, 116, 117, 118, 119, 120, 121, 122, 123, 124, 125, 126, 127, 128, 129, 130, 131, 132, 133, 134, 135, 136, 137] (by decide +kernel) (by decide +kernel)) (goodIn_sub (fun _ h => List.mem_cons_of_mem _ (List.mem_append_left _ (List.mem_append_right _ h))) (by decide +kernel))) (goodIn_sub (fun _ h => List.mem_cons_of_mem _ (List.mem_append_right _ h)) (by decide +kernel))
set_option maxRecDepth 20000 in
theorem gX7_step_X7_noteAnswer : GoodIn wsX7_step (wsV RX7 106 RX7 yX7_noteAnswer wsX7_noteAnswer) := goodIn_app (goodIn_of _ (by decide +kernel)) ggX7_step_X7_noteAnswer
set_option maxRecDepth 20000 in
theorem ggX7_explain_X7_learnerAt : GoodIn wsX7_explain wsX7_learnerAt := goodIn_ca (goodIn_r _ [11, 12, 13, 14, 15, 83, 84, 85, 86, 87, 88] (by decide +kernel) (by decide +kernel)) (goodIn_sub (fun _ h => List.mem_cons_of_mem _ (List.mem_append_left _ (List.mem_append_right _ h))) (by decide +kernel))
set_option maxRecDepth 20000 in
theorem gX7_explain_X7_learnerAt : GoodIn wsX7_explain (wsV RX7 72 RX7 yX7_learnerAt wsX7_learnerAt) := goodIn_app (goodIn_of _ (by decide +kernel)) ggX7_explain_X7_learnerAt
set_option maxRecDepth 20000 in
theorem ggX7_explain_X2_explanationOf : GoodIn wsX7_explain wsX2_explanationOf := goodIn_ca (goodIn_r _ [20, 21, 22, 23, 24, 25, 26, 19, 27, 28, 29, 30, 31, 32, 33, 34, 35, 36, 37, 38, 39, 40, 41, 42, 43, 44, 45, 46, 47, 48, 49, 50, 51, 52, 53, 54, 55, 56, 57, 58, 59, 60, 61, 62, 63, 64, 65, 66, 67, 68, 69, 70, 71, 72, 73, 74, 75, 76, 77, 89, 90, 91, 92, 93, 94, 95, 96, 97, 98] (by decide +kernel) (by decide +kernel)) (goodIn_sub (fun _ h => List.mem_cons_of_mem _ (List.mem_append_right _ h)) (by decide +kernel))
set_option maxRecDepth 20000 in
theorem gX7_explain_X2_explanationOf : GoodIn wsX7_explain (wsV RX7 221 RX2 yX2_explanationOf wsX2_explanationOf) := goodIn_app (goodIn_of _ (by decide +kernel)) ggX7_explain_X2_explanationOf
set_option maxRecDepth 20000 in
theorem ggX7_hint_X7_learnerAt : GoodIn wsX7_hint wsX7_learnerAt := goodIn_ca (goodIn_r _ [7, 8, 9, 10, 11, 72, 73, 74, 75, 76, 77] (by decide +kernel) (by decide +kernel)) (goodIn_sub (fun _ h => List.mem_cons_of_mem _ (List.mem_append_left _ (List.mem_append_left _ (List.mem_append_right _ h)))) (by decide +kernel))
set_option maxRecDepth 20000 in
theorem gX7_hint_X7_learnerAt : GoodIn wsX7_hint (wsV RX7 72 RX7 yX7_learnerAt wsX7_learnerAt) := goodIn_app (goodIn_of _ (by decide +kernel)) ggX7_hint_X7_learnerAt
set_option maxRecDepth 20000 in
theorem ggX7_hint_X7_exerciseOf : GoodIn wsX7_hint wsX7_exerciseOf := goodIn_ca (goodIn_r _ [14, 15, 16, 17, 78, 79, 80, 81, 82] (by decide +kernel) (by decide +kernel)) (goodIn_sub (fun _ h => List.mem_cons_of_mem _ (List.mem_append_left _ (List.mem_append_right _ h))) (by decide +kernel))
set_option maxRecDepth 20000 in
theorem gX7_hint_X7_exerciseOf : GoodIn wsX7_hint (va_wsS RX7 174 yX7_exerciseOf wsX7_exerciseOf) := goodIn_app (goodIn_of _ (by decide +kernel)) ggX7_hint_X7_exerciseOf
set_option maxRecDepth 20000 in
theorem ggX7_hint_X0_ruleToTry : GoodIn wsX7_hint wsX0_ruleToTry := goodIn_ca (goodIn_r _ [22, 23, 24, 25, 21, 26, 27, 28, 29, 30, 31, 32, 33, 34, 35, 36, 37, 38, 39, 40, 41, 42, 43, 44, 45, 46, 47, 48, 49, 50, 51, 52, 53, 54, 55, 56, 57, 58, 59, 60, 61, 62, 63, 64, 65, 66, 83, 84, 85, 86] (by decide +kernel) (by decide +kernel)) (goodIn_sub (fun _ h => List.mem_cons_of_mem _ (List.mem_append_right _ h)) (by decide +kernel))
set_option maxRecDepth 20000 in
theorem gX7_hint_X0_ruleToTry : GoodIn wsX7_hint (wsV RX7 230 RX0 yX0_ruleToTry wsX0_ruleToTry) := goodIn_app (goodIn_of _ (by decide +kernel)) ggX7_hint_X0_ruleToTry
set_option maxRecDepth 20000 in
theorem ggX7_faults_X7_learnerAt : GoodIn wsX7_faults wsX7_learnerAt := goodIn_ca (goodIn_r _ [7, 8, 9, 10, 11, 23, 24, 25, 26, 27, 28] (by decide +kernel) (by decide +kernel)) (goodIn_sub (fun _ h => List.mem_cons_of_mem _ (List.mem_append_left _ (List.mem_append_right _ h))) (by decide +kernel))
set_option maxRecDepth 20000 in
theorem gX7_faults_X7_learnerAt : GoodIn wsX7_faults (wsV RX7 72 RX7 yX7_learnerAt wsX7_learnerAt) := goodIn_app (goodIn_of _ (by decide +kernel)) ggX7_faults_X7_learnerAt
set_option maxRecDepth 20000 in
theorem ggX7_faults_X7_exerciseOf : GoodIn wsX7_faults wsX7_exerciseOf := goodIn_ca (goodIn_r _ [14, 15, 16, 17, 29, 30, 31, 32, 33] (by decide +kernel) (by decide +kernel)) (goodIn_sub (fun _ h => List.mem_cons_of_mem _ (List.mem_append_right _ h)) (by decide +kernel))
set_option maxRecDepth 20000 in
theorem gX7_faults_X7_exerciseOf : GoodIn wsX7_faults (va_wsS RX7 174 yX7_exerciseOf wsX7_exerciseOf) := goodIn_app (goodIn_of _ (by decide +kernel)) ggX7_faults_X7_exerciseOf
set_option maxRecDepth 20000 in
theorem ggX7_meanOdds_X7_skillAt : GoodIn wsX7_meanOdds wsX7_skillAt := goodIn_ca (goodIn_r _ [11, 12, 13, 14, 15, 16, 17, 18, 19, 20, 21] (by decide +kernel) (by decide +kernel)) (goodIn_sub (fun _ h => List.mem_cons_of_mem _ (List.mem_append_right _ h)) (by decide +kernel))
set_option maxRecDepth 20000 in
theorem gX7_meanOdds_X7_skillAt : GoodIn wsX7_meanOdds (wsV RX7 46 RX7 yX7_skillAt wsX7_skillAt) := goodIn_app (goodIn_of _ (by decide +kernel)) ggX7_meanOdds_X7_skillAt
set_option maxRecDepth 20000 in
theorem ggX7_isSound_X7_areOddsSound : GoodIn wsX7_isSound wsX7_areOddsSound := goodIn_ca (goodIn_ca (goodIn_r _ [7, 8, 9, 10, 11, 12, 13, 14, 15, 16, 17, 18, 19, 20, 21, 22, 23, 24, 25, 26, 27, 53, 54, 55, 56, 57, 58, 59, 60, 61, 62, 63, 64, 65, 66, 67, 68, 69, 70, 71, 72, 73, 74] (by decide +kernel) (by decide +kernel)) (goodIn_sub (fun _ h => List.mem_cons_of_mem _ (List.mem_append_left _ (List.mem_append_right _ h))) (by decide +kernel))) (goodIn_sub (fun _ h => List.mem_cons_of_mem _ (List.mem_append_right _ h)) (by decide +kernel))
set_option maxRecDepth 20000 in
theorem gX7_isSound_X7_areOddsSound : GoodIn wsX7_isSound (wsV RX7 240 RX7 yX7_areOddsSound wsX7_areOddsSound) := goodIn_app (goodIn_of _ (by decide +kernel)) ggX7_isSound_X7_areOddsSound
set_option maxRecDepth 20000 in
theorem ggX7_isSound_X7_areDaysSound : GoodIn wsX7_isSound wsX7_areDaysSound := goodIn_r _ [31, 8, 9, 32, 33, 34, 35, 36, 6, 37, 53, 54, 55, 56, 57, 58, 59, 60, 61, 62, 63, 64, 65, 66, 67, 68, 69, 70] (by decide +kernel) (by decide +kernel)
set_option maxRecDepth 20000 in
theorem gX7_isSound_X7_areDaysSound : GoodIn wsX7_isSound (wsV RX7 244 RX7 yX7_areDaysSound wsX7_areDaysSound) := goodIn_app (goodIn_of _ (by decide +kernel)) ggX7_isSound_X7_areDaysSound
set_option maxRecDepth 20000 in
theorem ggX7_isSound_X7_isExerciseSound : GoodIn wsX7_isSound wsX7_isExerciseSound := goodIn_r _ [40, 41, 42, 43, 44, 45, 46, 47, 48, 49, 50, 51, 52, 59, 60, 61, 62, 63, 75, 76, 77, 78, 79, 80, 81, 82, 83] (by decide +kernel) (by decide +kernel)
set_option maxRecDepth 20000 in
theorem gX7_isSound_X7_isExerciseSound : GoodIn wsX7_isSound (va_wsS RX7 247 yX7_isExerciseSound wsX7_isExerciseSound) := goodIn_app (goodIn_of _ (by decide +kernel)) ggX7_isSound_X7_isExerciseSound
set_option maxRecDepth 20000 in
theorem ggX7_checkOpen_X7_isOpenFor : GoodIn wsX7_checkOpen wsX7_isOpenFor := goodIn_r _ [7, 8, 9, 10, 11, 12, 13, 14, 15, 16, 17, 18, 19, 20, 21, 22, 23, 24, 25, 26, 27, 28, 29, 30, 31, 32, 33, 34, 35, 36, 37, 38, 39, 40] (by decide +kernel) (by decide +kernel)
set_option maxRecDepth 20000 in
theorem gX7_checkOpen_X7_isOpenFor : GoodIn wsX7_checkOpen (wsV RX7 76 RX7 yX7_isOpenFor wsX7_isOpenFor) := goodIn_app (goodIn_of _ (by decide +kernel)) ggX7_checkOpen_X7_isOpenFor
set_option maxRecDepth 20000 in
theorem ggX7_masteryAt_X7_learnerAt : GoodIn wsX7_masteryAt wsX7_learnerAt := goodIn_ca (goodIn_r _ [6, 7, 8, 9, 10, 22, 23, 24, 25, 26, 27] (by decide +kernel) (by decide +kernel)) (goodIn_sub (fun _ h => List.mem_cons_of_mem _ (List.mem_append_right _ h)) (by decide +kernel))
set_option maxRecDepth 20000 in
theorem gX7_masteryAt_X7_learnerAt : GoodIn wsX7_masteryAt (wsV RX7 72 RX7 yX7_learnerAt wsX7_learnerAt) := goodIn_app (goodIn_of _ (by decide +kernel)) ggX7_masteryAt_X7_learnerAt
set_option maxRecDepth 20000 in
theorem ggX7_masteryAt_X7_skillAt : GoodIn wsX7_masteryAt wsX7_skillAt := goodIn_ca (goodIn_r _ [14, 7, 8, 15, 16, 22, 23, 24, 25, 26, 27] (by decide +kernel) (by decide +kernel)) (goodIn_sub (fun _ h => List.mem_cons_of_mem _ (List.mem_append_right _ h)) (by decide +kernel))
set_option maxRecDepth 20000 in
theorem gX7_masteryAt_X7_skillAt : GoodIn wsX7_masteryAt (wsV RX7 46 RX7 yX7_skillAt wsX7_skillAt) := goodIn_app (goodIn_of _ (by decide +kernel)) ggX7_masteryAt_X7_skillAt
set_option maxRecDepth 20000 in
theorem ggX7_comesToNeed_X7_neededByAny : GoodIn wsX7_comesToNeed wsX7_neededByAny := goodIn_r _ [6, 1, 7, 8, 9, 10, 11, 12, 13, 14, 15, 16, 17, 18] (by decide +kernel) (by decide +kernel)
set_option maxRecDepth 20000 in
theorem gX7_comesToNeed_X7_neededByAny : GoodIn wsX7_comesToNeed (wsV RX7 263 RX7 yX7_neededByAny wsX7_neededByAny) := goodIn_app (goodIn_of _ (by decide +kernel)) ggX7_comesToNeed_X7_neededByAny
set_option maxRecDepth 20000 in
theorem ggX7_isOpenFor_X5_needs : GoodIn wsX7_isOpenFor wsX5_needs := goodIn_r _ [10, 11, 30, 31, 32, 33] (by decide +kernel) (by decide +kernel)
set_option maxRecDepth 20000 in
theorem gX7_isOpenFor_X5_needs : GoodIn wsX7_isOpenFor (wsV RX7 59 RX5 yX5_needs wsX5_needs) := goodIn_app (goodIn_of _ (by decide +kernel)) ggX7_isOpenFor_X5_needs
set_option maxRecDepth 20000 in
theorem ggX7_noteAnswer_X4_noteAnswer : GoodIn wsX7_noteAnswer wsX4_noteAnswer := goodIn_ca (goodIn_ca (goodIn_r _ [9, 10, 11, 12, 13, 14, 15, 16, 17, 18, 19, 20, 21, 22, 52, 53, 54, 55, 56, 57, 58, 59, 60, 61, 62] (by decide +kernel) (by decide +kernel)) (goodIn_sub (fun _ h => List.mem_cons_of_mem _ (List.mem_append_left _ (List.mem_append_right _ h))) (by decide +kernel))) (goodIn_sub (fun _ h => List.mem_cons_of_mem _ (List.mem_append_right _ h)) (by decide +kernel))
set_option maxRecDepth 20000 in
theorem gX7_noteAnswer_X4_noteAnswer : GoodIn wsX7_noteAnswer (wsV RX7 267 RX4 yX4_noteAnswer wsX4_noteAnswer) := goodIn_app (goodIn_of _ (by decide +kernel)) ggX7_noteAnswer_X4_noteAnswer
set_option maxRecDepth 20000 in
theorem ggX7_noteAnswer_X4_daysToWait : GoodIn wsX7_noteAnswer wsX4_daysToWait := goodIn_r _ [26, 14, 27, 28, 29, 30, 52, 53, 54, 55, 56, 57, 58] (by decide +kernel) (by decide +kernel)
set_option maxRecDepth 20000 in
theorem gX7_noteAnswer_X4_daysToWait : GoodIn wsX7_noteAnswer (wsV RX7 270 RX4 yX4_daysToWait wsX4_daysToWait) := goodIn_app (goodIn_of _ (by decide +kernel)) ggX7_noteAnswer_X4_daysToWait
set_option maxRecDepth 20000 in
theorem ggX7_noteAnswer_X7_firstFreeDay : GoodIn wsX7_noteAnswer wsX7_firstFreeDay := goodIn_r _ [35, 36, 37, 38, 39, 34, 40, 1, 4, 46, 47, 48, 49, 50, 51, 41, 42, 43, 44, 45, 52, 53, 54, 55, 56, 57, 58] (by decide +kernel) (by decide +kernel)
set_option maxRecDepth 20000 in
theorem gX7_noteAnswer_X7_firstFreeDay : GoodIn wsX7_noteAnswer (wsV RX7 273 RX7 yX7_firstFreeDay wsX7_firstFreeDay) := goodIn_app (goodIn_of _ (by decide +kernel)) ggX7_noteAnswer_X7_firstFreeDay
set_option maxRecDepth 20000 in
theorem ggX7_firstFreeDay_X7_othersDueOn : GoodIn wsX7_firstFreeDay wsX7_othersDueOn := goodIn_r _ [6, 1, 7, 8, 9, 10, 11, 12, 13, 14, 15, 16, 17, 18, 19, 20, 21, 22, 23, 24, 25, 26] (by decide +kernel) (by decide +kernel)
set_option maxRecDepth 20000 in
theorem gX7_firstFreeDay_X7_othersDueOn : GoodIn wsX7_firstFreeDay (wsV RX7 277 RX7 yX7_othersDueOn wsX7_othersDueOn) := goodIn_app (goodIn_of _ (by decide +kernel)) ggX7_firstFreeDay_X7_othersDueOn
set_option maxRecDepth 20000 in
theorem ggX7_reviewsAheadOf_X4_isDueBy : GoodIn wsX7_reviewsAheadOf wsX4_isDueBy := goodIn_r _ [9, 10, 11, 12, 13, 8, 14, 20, 21, 22, 23, 24, 25, 26] (by decide +kernel) (by decide +kernel)
set_option maxRecDepth 20000 in
theorem gX7_reviewsAheadOf_X4_isDueBy : GoodIn wsX7_reviewsAheadOf (wsV RX7 137 RX4 yX4_isDueBy wsX4_isDueBy) := goodIn_app (goodIn_of _ (by decide +kernel)) ggX7_reviewsAheadOf_X4_isDueBy
set_option maxRecDepth 20000 in
theorem ggX7_firstOpenReview_X4_isDueBy : GoodIn wsX7_firstOpenReview wsX4_isDueBy := goodIn_r _ [9, 10, 11, 12, 13, 8, 14, 40, 41, 42, 43, 44, 45, 46] (by decide +kernel) (by decide +kernel)
set_option maxRecDepth 20000 in
theorem gX7_firstOpenReview_X4_isDueBy : GoodIn wsX7_firstOpenReview (wsV RX7 137 RX4 yX4_isDueBy wsX4_isDueBy) := goodIn_app (goodIn_of _ (by decide +kernel)) ggX7_firstOpenReview_X4_isDueBy
set_option maxRecDepth 20000 in
theorem ggX7_firstOpenReview_X7_isOpenFor : GoodIn wsX7_firstOpenReview wsX7_isOpenFor := goodIn_r _ [19, 2, 20, 1, 21, 22, 23, 24, 25, 26, 27, 28, 35, 36, 37, 38, 39, 40, 41, 42, 43, 44, 45, 46, 29, 30, 31, 32, 33, 34, 47, 48, 49, 50] (by decide +kernel) (by decide +kernel)
set_option maxRecDepth 20000 in
theorem gX7_firstOpenReview_X7_isOpenFor : GoodIn wsX7_firstOpenReview (wsV RX7 76 RX7 yX7_isOpenFor wsX7_isOpenFor) := goodIn_app (goodIn_of _ (by decide +kernel)) ggX7_firstOpenReview_X7_isOpenFor
set_option maxRecDepth 20000 in
theorem ggX7_bestNewSkill_X4_wasAnswered : GoodIn wsX7_bestNewSkill wsX4_wasAnswered := goodIn_r _ [10, 11, 35, 36, 37, 38, 39, 40, 41] (by decide +kernel) (by decide +kernel)
set_option maxRecDepth 20000 in
theorem gX7_bestNewSkill_X4_wasAnswered : GoodIn wsX7_bestNewSkill (wsV RX7 125 RX4 yX4_wasAnswered wsX4_wasAnswered) := goodIn_app (goodIn_of _ (by decide +kernel)) ggX7_bestNewSkill_X4_wasAnswered
set_option maxRecDepth 20000 in
theorem ggX7_bestNewSkill_X7_isOpenFor : GoodIn wsX7_bestNewSkill wsX7_isOpenFor := goodIn_r _ [16, 2, 17, 1, 4, 3, 18, 19, 20, 21, 22, 23, 30, 31, 32, 33, 34, 35, 36, 37, 38, 39, 40, 41, 24, 25, 26, 27, 28, 29, 42, 43, 44, 45] (by decide +kernel) (by decide +kernel)
set_option maxRecDepth 20000 in
theorem gX7_bestNewSkill_X7_isOpenFor : GoodIn wsX7_bestNewSkill (wsV RX7 76 RX7 yX7_isOpenFor wsX7_isOpenFor) := goodIn_app (goodIn_of _ (by decide +kernel)) ggX7_bestNewSkill_X7_isOpenFor
set_option maxRecDepth 20000 in
theorem ggX7_areOddsSound_X4_oddsFromAnswers : GoodIn wsX7_areOddsSound wsX4_oddsFromAnswers := goodIn_ca (goodIn_ca (goodIn_r _ [9, 10, 11, 12, 13, 14, 15, 16, 17, 18, 19, 20, 32, 33, 34, 35, 36, 37, 38, 39, 40, 41, 42] (by decide +kernel) (by decide +kernel)) (goodIn_sub (fun _ h => List.mem_cons_of_mem _ (List.mem_append_left _ (List.mem_append_right _ h))) (by decide +kernel))) (goodIn_sub (fun _ h => List.mem_cons_of_mem _ (List.mem_append_right _ h)) (by decide +kernel))
set_option maxRecDepth 20000 in
theorem gX7_areOddsSound_X4_oddsFromAnswers : GoodIn wsX7_areOddsSound (wsV RX7 110 RX4 yX4_oddsFromAnswers wsX4_oddsFromAnswers) := goodIn_app (goodIn_of _ (by decide +kernel)) ggX7_areOddsSound_X4_oddsFromAnswers
set_option maxRecDepth 20000 in
theorem ggX7_areDaysSound_X7_othersDueOn : GoodIn wsX7_areDaysSound wsX7_othersDueOn := goodIn_r _ [9, 1, 2, 3, 10, 11, 12, 13, 14, 15, 16, 17, 18, 19, 20, 21, 22, 23, 24, 25, 26, 27] (by decide +kernel) (by decide +kernel)
set_option maxRecDepth 20000 in
theorem gX7_areDaysSound_X7_othersDueOn : GoodIn wsX7_areDaysSound (wsV RX7 277 RX7 yX7_othersDueOn wsX7_othersDueOn) := goodIn_app (goodIn_of _ (by decide +kernel)) ggX7_areDaysSound_X7_othersDueOn
set_option maxRecDepth 20000 in
theorem ggX7_isExerciseSound_X0_hasOnlySolution : GoodIn wsX7_isExerciseSound wsX0_hasOnlySolution := goodIn_r _ [8, 9, 10, 11, 12, 23, 24, 25, 26] (by decide +kernel) (by decide +kernel)
set_option maxRecDepth 20000 in
theorem gX7_isExerciseSound_X0_hasOnlySolution : GoodIn wsX7_isExerciseSound (wsV RX7 286 RX0 yX0_hasOnlySolution wsX0_hasOnlySolution) := goodIn_app (goodIn_of _ (by decide +kernel)) ggX7_isExerciseSound_X0_hasOnlySolution
set_option maxRecDepth 20000 in
theorem ggX8_init_Jx4a65c_init_da8c8 : GoodIn wsX8_init wsJx4a65c_init_da8c8 := goodIn_r _ [13, 14, 15, 16, 17, 18, 19, 20, 21, 22, 23, 24, 25, 2, 3, 32, 33, 34] (by decide +kernel) (by decide +kernel)
set_option maxRecDepth 20000 in
theorem gX8_init_Jx4a65c_init_da8c8 : GoodIn wsX8_init (wsJx4a65c_init_da8c8) := ggX8_init_Jx4a65c_init_da8c8
set_option maxRecDepth 20000 in
theorem ggX9_init_Jx4a65c_init_da8c8 : GoodIn wsX9_init wsJx4a65c_init_da8c8 := goodIn_r _ [14, 15, 16, 17, 18, 19, 20, 21, 22, 23, 24, 25, 26, 2, 3, 44, 45, 46] (by decide +kernel) (by decide +kernel)
set_option maxRecDepth 20000 in
theorem gX9_init_Jx4a65c_init_da8c8 : GoodIn wsX9_init (wsJx4a65c_init_da8c8) := ggX9_init_Jx4a65c_init_da8c8
set_option maxRecDepth 20000 in
theorem ggX9_init_X8_init : GoodIn wsX9_init wsX8_init := goodIn_r _ [28, 29, 2, 3, 30, 31, 32, 7, 8, 33, 34, 35, 13, 14, 15, 16, 17, 18, 19, 20, 21, 22, 23, 24, 25, 26, 47, 48, 49, 50, 51, 52, 44, 45, 46] (by decide +kernel) (by decide +kernel)
set_option maxRecDepth 20000 in
theorem gX9_init_X8_init_n22 : GoodIn wsX9_init (wsX8_init) := ggX9_init_X8_init
set_option maxRecDepth 20000 in
theorem ggX11_init_Jx4a65c_init_da8c8 : GoodIn wsX11_init wsJx4a65c_init_da8c8 := goodIn_r _ [11, 12, 13, 14, 15, 16, 17, 18, 19, 20, 21, 22, 23, 2, 3, 24, 25, 26] (by decide +kernel) (by decide +kernel)
set_option maxRecDepth 20000 in
theorem gX11_init_Jx4a65c_init_da8c8 : GoodIn wsX11_init (wsJx4a65c_init_da8c8) := ggX11_init_Jx4a65c_init_da8c8
set_option maxRecDepth 20000 in
theorem ggX11_noSkill_Jx4a65c_size_8abf5 : GoodIn wsX11_noSkill wsJx4a65c_size_8abf5 := goodIn_r _ [6, 7, 16, 17, 18] (by decide +kernel) (by decide +kernel)
set_option maxRecDepth 20000 in
theorem gX11_noSkill_Jx4a65c_size_8abf5 : GoodIn wsX11_noSkill (wsV RX11 23 RJx4a65c yJx4a65c_size_8abf5 wsJx4a65c_size_8abf5) := goodIn_app (goodIn_of _ (by decide +kernel)) ggX11_noSkill_Jx4a65c_size_8abf5
set_option maxRecDepth 20000 in
theorem ggX11_noSkill_X11_in : GoodIn wsX11_noSkill wsX11_in := goodIn_r _ [11] (by decide +kernel) (by decide +kernel)
set_option maxRecDepth 20000 in
theorem gX11_noSkill_X11_in : GoodIn wsX11_noSkill (va_wsS RX11 27 yX11_in wsX11_in) := goodIn_app (goodIn_of _ (by decide +kernel)) ggX11_noSkill_X11_in
set_option maxRecDepth 20000 in
theorem ggX11_noLearner_Jx4a65c_size_8abf5 : GoodIn wsX11_noLearner wsJx4a65c_size_8abf5 := goodIn_r _ [6, 7, 16, 17, 18] (by decide +kernel) (by decide +kernel)
set_option maxRecDepth 20000 in
theorem gX11_noLearner_Jx4a65c_size_8abf5 : GoodIn wsX11_noLearner (wsV RX11 23 RJx4a65c yJx4a65c_size_8abf5 wsJx4a65c_size_8abf5) := goodIn_app (goodIn_of _ (by decide +kernel)) ggX11_noLearner_Jx4a65c_size_8abf5
set_option maxRecDepth 20000 in
theorem ggX11_noLearner_X11_in : GoodIn wsX11_noLearner wsX11_in := goodIn_r _ [11] (by decide +kernel) (by decide +kernel)
set_option maxRecDepth 20000 in
theorem gX11_noLearner_X11_in : GoodIn wsX11_noLearner (va_wsS RX11 27 yX11_in wsX11_in) := goodIn_app (goodIn_of _ (by decide +kernel)) ggX11_noLearner_X11_in
set_option maxRecDepth 20000 in
theorem ggX11_no_X11_noLearner : GoodIn wsX11_no wsX11_noLearner := goodIn_r _ [5, 6, 7, 8, 9, 10, 11, 12, 13, 14, 4, 15, 26, 27, 28, 29, 30, 31, 32] (by decide +kernel) (by decide +kernel)
set_option maxRecDepth 20000 in
theorem gX11_no_X11_noLearner : GoodIn wsX11_no (wsV RX11 31 RX11 yX11_noLearner wsX11_noLearner) := goodIn_app (goodIn_of _ (by decide +kernel)) ggX11_no_X11_noLearner
set_option maxRecDepth 20000 in
theorem ggX11_no_X11_noSkill : GoodIn wsX11_no wsX11_noSkill := goodIn_r _ [19, 20, 7, 8, 9, 10, 11, 12, 13, 14, 4, 15, 26, 27, 28, 29, 30, 31, 32] (by decide +kernel) (by decide +kernel)
set_option maxRecDepth 20000 in
theorem gX11_no_X11_noSkill : GoodIn wsX11_no (wsV RX11 35 RX11 yX11_noSkill wsX11_noSkill) := goodIn_app (goodIn_of _ (by decide +kernel)) ggX11_no_X11_noSkill
set_option maxRecDepth 20000 in
theorem ggX11_no_X11_fails : GoodIn wsX11_no wsX11_fails := goodIn_r _ [24, 25, 26, 27, 28, 29] (by decide +kernel) (by decide +kernel)
set_option maxRecDepth 20000 in
theorem gX11_no_X11_fails : GoodIn wsX11_no (wsV RX11 38 RX11 yX11_fails wsX11_fails) := goodIn_app (goodIn_of _ (by decide +kernel)) ggX11_no_X11_fails
set_option maxRecDepth 20000 in
theorem ggX11_of_Jx4a65c_get_915e3 : GoodIn wsX11_of wsJx4a65c_get_915e3 := goodIn_r _ [8, 9, 10, 11, 12, 13, 14, 15, 16, 17, 18, 19, 20, 7, 21, 22, 35, 36, 37] (by decide +kernel) (by decide +kernel)
set_option maxRecDepth 20000 in
theorem gX11_of_Jx4a65c_get_915e3 : GoodIn wsX11_of (wsV RX11 42 RJx4a65c yJx4a65c_get_915e3 wsJx4a65c_get_915e3) := goodIn_app (goodIn_of _ (by decide +kernel)) ggX11_of_Jx4a65c_get_915e3
set_option maxRecDepth 20000 in
theorem ggX11_addSkill_X11_in : GoodIn wsX11_addSkill wsX11_in := goodIn_r _ [12] (by decide +kernel) (by decide +kernel)
set_option maxRecDepth 20000 in
theorem gX11_addSkill_X11_in : GoodIn wsX11_addSkill (va_wsS RX11 27 yX11_in wsX11_in) := goodIn_app (goodIn_of _ (by decide +kernel)) ggX11_addSkill_X11_in
set_option maxRecDepth 20000 in
theorem ggX11_addSkill_X11_fails : GoodIn wsX11_addSkill wsX11_fails := goodIn_r _ [16, 1, 84, 85, 86, 87] (by decide +kernel) (by decide +kernel)
set_option maxRecDepth 20000 in
theorem gX11_addSkill_X11_fails : GoodIn wsX11_addSkill (wsV RX11 38 RX11 yX11_fails wsX11_fails) := goodIn_app (goodIn_of _ (by decide +kernel)) ggX11_addSkill_X11_fails
set_option maxRecDepth 20000 in
theorem ggX11_addSkill_Jx4a65c_size_8abf5 : GoodIn wsX11_addSkill wsJx4a65c_size_8abf5 := goodIn_r _ [21, 22, 92, 93, 94] (by decide +kernel) (by decide +kernel)
set_option maxRecDepth 20000 in
theorem gX11_addSkill_Jx4a65c_size_8abf5 : GoodIn wsX11_addSkill (wsV RX11 23 RJx4a65c yJx4a65c_size_8abf5 wsJx4a65c_size_8abf5) := goodIn_app (goodIn_of _ (by decide +kernel)) ggX11_addSkill_Jx4a65c_size_8abf5
set_option maxRecDepth 20000 in
theorem ggX11_addSkill_X10_init : GoodIn wsX11_addSkill wsX10_init := goodIn_r _ [24, 25, 26, 27, 28, 29, 88, 89, 90, 91] (by decide +kernel) (by decide +kernel)
set_option maxRecDepth 20000 in
theorem gX11_addSkill_X10_init_n54 : GoodIn wsX11_addSkill (wsX10_init) := ggX11_addSkill_X10_init
set_option maxRecDepth 20000 in
theorem ggX11_addSkill_Jx4a65c_add_9ea2d : GoodIn wsX11_addSkill wsJx4a65c_add_9ea2d := goodIn_r _ [33, 34, 35, 36, 22, 37, 38, 39, 20, 40, 41, 42, 43, 44, 45, 46, 47, 48, 49, 50, 51, 52, 53, 54, 55, 56, 57, 58, 59, 60, 61, 62, 63, 64, 65, 66, 67, 68, 69, 70, 71, 72, 73, 74, 75, 76, 77, 78, 79, 80, 81, 82, 83, 92, 93, 94] (by decide +kernel) (by decide +kernel)
set_option maxRecDepth 20000 in
theorem gX11_addSkill_Jx4a65c_add_9ea2d : GoodIn wsX11_addSkill (wsV RX11 64 RJx4a65c yJx4a65c_add_9ea2d wsJx4a65c_add_9ea2d) := goodIn_app (goodIn_of _ (by decide +kernel)) ggX11_addSkill_Jx4a65c_add_9ea2d
set_option maxRecDepth 20000 in
theorem ggX11_hangsOn_Jx4a65c_size_8abf5 : GoodIn wsX11_hangsOn wsJx4a65c_size_8abf5 := goodIn_r _ [9, 10, 36, 37, 38] (by decide +kernel) (by decide +kernel)
set_option maxRecDepth 20000 in
theorem gX11_hangsOn_Jx4a65c_size_8abf5 : GoodIn wsX11_hangsOn (wsV RX11 23 RJx4a65c yJx4a65c_size_8abf5 wsJx4a65c_size_8abf5) := goodIn_app (goodIn_of _ (by decide +kernel)) ggX11_hangsOn_Jx4a65c_size_8abf5
set_option maxRecDepth 20000 in
theorem ggX11_hangsOn_Jx4a65c_get_915e3 : GoodIn wsX11_hangsOn wsJx4a65c_get_915e3 := goodIn_r _ [14, 10, 15, 16, 17, 18, 19, 20, 21, 22, 23, 24, 25, 8, 26, 27, 36, 37, 38] (by decide +kernel) (by decide +kernel)
set_option maxRecDepth 20000 in
theorem gX11_hangsOn_Jx4a65c_get_915e3 : GoodIn wsX11_hangsOn (wsV RX11 42 RJx4a65c yJx4a65c_get_915e3 wsJx4a65c_get_915e3) := goodIn_app (goodIn_of _ (by decide +kernel)) ggX11_hangsOn_Jx4a65c_get_915e3
set_option maxRecDepth 20000 in
theorem ggX11_addNeed_X11_noSkill : GoodIn wsX11_addNeed wsX11_noSkill := goodIn_r _ [9, 2, 10, 11, 12, 13, 14, 15, 16, 17, 8, 18, 45, 46, 47, 48, 53, 54, 55] (by decide +kernel) (by decide +kernel)
set_option maxRecDepth 20000 in
theorem gX11_addNeed_X11_noSkill : GoodIn wsX11_addNeed (wsV RX11 35 RX11 yX11_noSkill wsX11_noSkill) := goodIn_app (goodIn_of _ (by decide +kernel)) ggX11_addNeed_X11_noSkill
set_option maxRecDepth 20000 in
theorem ggX11_addNeed_X11_fails : GoodIn wsX11_addNeed wsX11_fails := goodIn_r _ [22, 1, 45, 46, 47, 48] (by decide +kernel) (by decide +kernel)
set_option maxRecDepth 20000 in
theorem gX11_addNeed_X11_fails : GoodIn wsX11_addNeed (wsV RX11 38 RX11 yX11_fails wsX11_fails) := goodIn_app (goodIn_of _ (by decide +kernel)) ggX11_addNeed_X11_fails
set_option maxRecDepth 20000 in
theorem ggX11_addNeed_X11_hangsOn : GoodIn wsX11_addNeed wsX11_hangsOn := goodIn_ca (goodIn_r _ [26, 27, 2, 3, 4, 10, 11, 12, 13, 14, 15, 28, 29, 30, 31, 32, 33, 34, 35, 36, 37, 38, 39, 40, 41, 42, 43, 44, 45, 46, 47, 48, 49, 50, 51, 52, 53, 54, 55] (by decide +kernel) (by decide +kernel)) (goodIn_sub (fun _ h => List.mem_cons_of_mem _ (List.mem_append_right _ h)) (by decide +kernel))
set_option maxRecDepth 20000 in
theorem gX11_addNeed_X11_hangsOn : GoodIn wsX11_addNeed (wsV RX11 72 RX11 yX11_hangsOn wsX11_hangsOn) := goodIn_app (goodIn_of _ (by decide +kernel)) ggX11_addNeed_X11_hangsOn
set_option maxRecDepth 20000 in
theorem ggX11_addNeed_Jx4a65c_get_915e3 : GoodIn wsX11_addNeed wsJx4a65c_get_915e3 := goodIn_r _ [31, 15, 32, 33, 34, 35, 36, 37, 38, 39, 40, 41, 42, 13, 43, 44, 53, 54, 55] (by decide +kernel) (by decide +kernel)
set_option maxRecDepth 20000 in
theorem gX11_addNeed_Jx4a65c_get_915e3 : GoodIn wsX11_addNeed (wsV RX11 42 RJx4a65c yJx4a65c_get_915e3 wsJx4a65c_get_915e3) := goodIn_app (goodIn_of _ (by decide +kernel)) ggX11_addNeed_Jx4a65c_get_915e3
set_option maxRecDepth 20000 in
theorem ggX11_addLearner_Jx4a65c_size_8abf5 : GoodIn wsX11_addLearner wsJx4a65c_size_8abf5 := goodIn_r _ [10, 11, 118, 119, 120] (by decide +kernel) (by decide +kernel)
set_option maxRecDepth 20000 in
theorem gX11_addLearner_Jx4a65c_size_8abf5 : GoodIn wsX11_addLearner (wsV RX11 23 RJx4a65c yJx4a65c_size_8abf5 wsJx4a65c_size_8abf5) := goodIn_app (goodIn_of _ (by decide +kernel)) ggX11_addLearner_Jx4a65c_size_8abf5
set_option maxRecDepth 20000 in
theorem ggX11_addLearner_X11_fails : GoodIn wsX11_addLearner wsX11_fails := goodIn_r _ [16, 1, 106, 107, 108, 109] (by decide +kernel) (by decide +kernel)
set_option maxRecDepth 20000 in
theorem gX11_addLearner_X11_fails : GoodIn wsX11_addLearner (wsV RX11 38 RX11 yX11_fails wsX11_fails) := goodIn_app (goodIn_of _ (by decide +kernel)) ggX11_addLearner_X11_fails
set_option maxRecDepth 20000 in
theorem ggX11_addLearner_X9_init : GoodIn wsX11_addLearner wsX9_init := goodIn_r _ [19, 20, 21, 22, 23, 24, 25, 26, 9, 27, 28, 29, 30, 31, 32, 33, 34, 35, 36, 37, 38, 39, 40, 41, 42, 43, 44, 45, 46, 47, 48, 49, 50, 51, 52, 53, 110, 111, 112, 113, 114, 115, 116, 117, 118, 119, 120, 121, 122, 123, 124, 125, 126] (by decide +kernel) (by decide +kernel)
set_option maxRecDepth 20000 in
theorem gX11_addLearner_X9_init : GoodIn wsX11_addLearner (wsX9_init) := ggX11_addLearner_X9_init
set_option maxRecDepth 20000 in
theorem ggX11_addLearner_Jx4a65c_add_9ea2d : GoodIn wsX11_addLearner wsJx4a65c_add_9ea2d := goodIn_r _ [57, 58, 59, 34, 11, 60, 61, 62, 9, 63, 64, 65, 66, 67, 68, 69, 70, 71, 33, 72, 73, 74, 75, 76, 77, 78, 79, 80, 81, 82, 83, 84, 85, 86, 87, 88, 89, 90, 91, 92, 93, 94, 95, 96, 97, 98, 99, 100, 101, 102, 103, 104, 105, 118, 119, 120] (by decide +kernel) (by decide +kernel)
set_option maxRecDepth 20000 in
theorem gX11_addLearner_Jx4a65c_add_9ea2d : GoodIn wsX11_addLearner (wsV RX11 64 RJx4a65c yJx4a65c_add_9ea2d wsJx4a65c_add_9ea2d) := goodIn_app (goodIn_of _ (by decide +kernel)) ggX11_addLearner_Jx4a65c_add_9ea2d
set_option maxRecDepth 20000 in
theorem ggX11_openFor_Jx4a65c_size_8abf5 : GoodIn wsX11_openFor wsJx4a65c_size_8abf5 := goodIn_r _ [10, 11, 51, 52, 53] (by decide +kernel) (by decide +kernel)
set_option maxRecDepth 20000 in
theorem gX11_openFor_Jx4a65c_size_8abf5 : GoodIn wsX11_openFor (wsV RX11 23 RJx4a65c yJx4a65c_size_8abf5 wsJx4a65c_size_8abf5) := goodIn_app (goodIn_of _ (by decide +kernel)) ggX11_openFor_Jx4a65c_size_8abf5
set_option maxRecDepth 20000 in
theorem ggX11_openFor_Jx4a65c_get_915e3 : GoodIn wsX11_openFor wsJx4a65c_get_915e3 := goodIn_r _ [15, 11, 16, 17, 18, 19, 20, 21, 22, 23, 24, 25, 26, 9, 27, 28, 51, 52, 53] (by decide +kernel) (by decide +kernel)
set_option maxRecDepth 20000 in
theorem gX11_openFor_Jx4a65c_get_915e3 : GoodIn wsX11_openFor (wsV RX11 42 RJx4a65c yJx4a65c_get_915e3 wsJx4a65c_get_915e3) := goodIn_app (goodIn_of _ (by decide +kernel)) ggX11_openFor_Jx4a65c_get_915e3
set_option maxRecDepth 20000 in
theorem ggX11_openFor_X11_of : GoodIn wsX11_openFor wsX11_of := goodIn_r _ [33, 34, 35, 36, 12, 13, 14, 9, 15, 11, 16, 17, 18, 19, 20, 21, 22, 23, 24, 25, 26, 27, 28, 37, 38, 39, 40, 54, 55, 56, 57, 58, 59, 60, 61, 51, 52, 53] (by decide +kernel) (by decide +kernel)
set_option maxRecDepth 20000 in
theorem gX11_openFor_X11_of : GoodIn wsX11_openFor (wsV RX11 77 RX11 yX11_of wsX11_of) := goodIn_app (goodIn_of _ (by decide +kernel)) ggX11_openFor_X11_of
set_option maxRecDepth 20000 in
theorem ggX11_open_X11_no : GoodIn wsX11_open wsX11_no := goodIn_r _ [7, 8, 9, 10, 6, 11, 12, 13, 14, 15, 16, 17, 18, 19, 20, 21, 22, 23, 24, 25, 26, 27, 28, 29, 30, 1, 61, 62, 63, 64, 71, 72, 73] (by decide +kernel) (by decide +kernel)
set_option maxRecDepth 20000 in
theorem gX11_open_X11_no : GoodIn wsX11_open (wsV RX11 90 RX11 yX11_no wsX11_no) := goodIn_app (goodIn_of _ (by decide +kernel)) ggX11_open_X11_no
set_option maxRecDepth 20000 in
theorem ggX11_open_X11_openFor : GoodIn wsX11_open wsX11_openFor := goodIn_ca (goodIn_r _ [34, 26, 35, 36, 37, 2, 13, 14, 15, 16, 17, 18, 38, 39, 40, 41, 42, 43, 44, 45, 46, 47, 48, 49, 50, 51, 52, 53, 54, 55, 56, 57, 6, 58, 12, 59, 60, 61, 62, 63, 64, 74, 75, 76, 77, 65, 66, 67, 68, 69, 70, 71, 72, 73, 78, 79, 80, 81, 82, 83, 84, 85] (by decide +kernel) (by decide +kernel)) (goodIn_sub (fun _ h => List.mem_cons_of_mem _ (List.mem_append_right _ h)) (by decide +kernel))
set_option maxRecDepth 20000 in
theorem gX11_open_X11_openFor : GoodIn wsX11_open (wsV RX11 93 RX11 yX11_openFor wsX11_openFor) := goodIn_app (goodIn_of _ (by decide +kernel)) ggX11_open_X11_openFor
set_option maxRecDepth 20000 in
theorem ggX11_open_X11_of : GoodIn wsX11_open wsX11_of := goodIn_r _ [58, 12, 59, 60, 38, 39, 40, 16, 41, 18, 42, 43, 44, 45, 46, 47, 48, 49, 50, 51, 52, 53, 54, 61, 62, 63, 64, 78, 79, 80, 81, 82, 83, 84, 85, 71, 72, 73] (by decide +kernel) (by decide +kernel)
set_option maxRecDepth 20000 in
theorem gX11_open_X11_of : GoodIn wsX11_open (wsV RX11 77 RX11 yX11_of wsX11_of) := goodIn_app (goodIn_of _ (by decide +kernel)) ggX11_open_X11_of
set_option maxRecDepth 20000 in
theorem ggX11_isOpen_X11_no : GoodIn wsX11_isOpen wsX11_no := goodIn_r _ [6, 7, 8, 9, 5, 10, 11, 12, 13, 14, 15, 16, 17, 18, 19, 20, 21, 22, 23, 24, 25, 26, 27, 28, 29, 1, 61, 62, 63, 64, 65, 66, 67] (by decide +kernel) (by decide +kernel)
set_option maxRecDepth 20000 in
theorem gX11_isOpen_X11_no : GoodIn wsX11_isOpen (wsV RX11 90 RX11 yX11_no wsX11_no) := goodIn_app (goodIn_of _ (by decide +kernel)) ggX11_isOpen_X11_no
set_option maxRecDepth 20000 in
theorem ggX11_isOpen_X11_openFor : GoodIn wsX11_isOpen wsX11_openFor := goodIn_ca (goodIn_r _ [33, 25, 34, 35, 36, 37, 12, 13, 14, 15, 16, 17, 38, 39, 40, 41, 42, 43, 44, 45, 46, 47, 48, 49, 50, 51, 52, 53, 54, 55, 56, 57, 5, 58, 11, 59, 60, 61, 62, 63, 64, 68, 69, 70, 71, 72, 73, 74, 75, 76, 77, 65, 66, 67, 78, 79, 80, 81, 82, 83, 84, 85] (by decide +kernel) (by decide +kernel)) (goodIn_sub (fun _ h => List.mem_cons_of_mem _ (List.mem_append_right _ h)) (by decide +kernel))
set_option maxRecDepth 20000 in
theorem gX11_isOpen_X11_openFor : GoodIn wsX11_isOpen (wsV RX11 93 RX11 yX11_openFor wsX11_openFor) := goodIn_app (goodIn_of _ (by decide +kernel)) ggX11_isOpen_X11_openFor
set_option maxRecDepth 20000 in
theorem ggX11_setOdds_X11_no : GoodIn wsX11_setOdds wsX11_no := goodIn_r _ [9, 10, 11, 12, 8, 13, 14, 15, 16, 17, 18, 19, 20, 21, 22, 23, 24, 25, 26, 27, 28, 29, 30, 31, 32, 1, 62, 63, 64, 65, 72, 73, 74] (by decide +kernel) (by decide +kernel)
set_option maxRecDepth 20000 in
theorem gX11_setOdds_X11_no : GoodIn wsX11_setOdds (wsV RX11 90 RX11 yX11_no wsX11_no) := goodIn_app (goodIn_of _ (by decide +kernel)) ggX11_setOdds_X11_no
set_option maxRecDepth 20000 in
theorem ggX11_setOdds_X11_in : GoodIn wsX11_setOdds wsX11_in := goodIn_r _ [23] (by decide +kernel) (by decide +kernel)
set_option maxRecDepth 20000 in
theorem gX11_setOdds_X11_in : GoodIn wsX11_setOdds (va_wsS RX11 27 yX11_in wsX11_in) := goodIn_app (goodIn_of _ (by decide +kernel)) ggX11_setOdds_X11_in
set_option maxRecDepth 20000 in
theorem ggX11_setOdds_X11_fails : GoodIn wsX11_setOdds wsX11_fails := goodIn_r _ [32, 1, 62, 63, 64, 65] (by decide +kernel) (by decide +kernel)
set_option maxRecDepth 20000 in
theorem gX11_setOdds_X11_fails : GoodIn wsX11_setOdds (wsV RX11 38 RX11 yX11_fails wsX11_fails) := goodIn_app (goodIn_of _ (by decide +kernel)) ggX11_setOdds_X11_fails
set_option maxRecDepth 20000 in
theorem ggX11_setOdds_X11_of : GoodIn wsX11_setOdds wsX11_of := goodIn_r _ [36, 14, 37, 38, 39, 40, 41, 18, 42, 20, 43, 44, 45, 46, 47, 48, 49, 50, 51, 52, 53, 54, 55, 62, 63, 64, 65, 75, 76, 77, 78, 79, 80, 81, 82, 72, 73, 74] (by decide +kernel) (by decide +kernel)
set_option maxRecDepth 20000 in
theorem gX11_setOdds_X11_of : GoodIn wsX11_setOdds (wsV RX11 77 RX11 yX11_of wsX11_of) := goodIn_app (goodIn_of _ (by decide +kernel)) ggX11_setOdds_X11_of
set_option maxRecDepth 20000 in
theorem ggX11_setOdds_Jx4a65c_clear_da8c8 : GoodIn wsX11_setOdds wsJx4a65c_clear_da8c8 := goodIn_r _ [59, 60, 61, 55, 20, 72, 73, 74] (by decide +kernel) (by decide +kernel)
set_option maxRecDepth 20000 in
theorem gX11_setOdds_Jx4a65c_clear_da8c8 : GoodIn wsX11_setOdds (wsV RX11 104 RJx4a65c yJx4a65c_clear_da8c8 wsJx4a65c_clear_da8c8) := goodIn_app (goodIn_of _ (by decide +kernel)) ggX11_setOdds_Jx4a65c_clear_da8c8
set_option maxRecDepth 20000 in
theorem ggX11_othersDue_Jx4a65c_size_8abf5 : GoodIn wsX11_othersDue wsJx4a65c_size_8abf5 := goodIn_r _ [7, 8, 44, 45, 46] (by decide +kernel) (by decide +kernel)
set_option maxRecDepth 20000 in
theorem gX11_othersDue_Jx4a65c_size_8abf5 : GoodIn wsX11_othersDue (wsV RX11 23 RJx4a65c yJx4a65c_size_8abf5 wsJx4a65c_size_8abf5) := goodIn_app (goodIn_of _ (by decide +kernel)) ggX11_othersDue_Jx4a65c_size_8abf5
set_option maxRecDepth 20000 in
theorem ggX11_othersDue_X11_of : GoodIn wsX11_othersDue wsX11_of := goodIn_r _ [13, 14, 15, 16, 17, 18, 19, 6, 20, 8, 21, 22, 23, 24, 25, 26, 27, 28, 29, 30, 31, 32, 33, 34, 35, 36, 37, 47, 48, 49, 50, 51, 52, 53, 54, 44, 45, 46] (by decide +kernel) (by decide +kernel)
set_option maxRecDepth 20000 in
theorem gX11_othersDue_X11_of : GoodIn wsX11_othersDue (wsV RX11 77 RX11 yX11_of wsX11_of) := goodIn_app (goodIn_of _ (by decide +kernel)) ggX11_othersDue_X11_of
set_option maxRecDepth 20000 in
theorem ggX11_note_X11_of : GoodIn wsX11_note wsX11_of := goodIn_r _ [12, 13, 14, 15, 16, 17, 18, 19, 20, 21, 22, 23, 24, 25, 26, 27, 28, 29, 30, 31, 32, 33, 34, 115, 116, 117, 118, 119, 120, 121, 122, 123, 124, 125, 126, 127, 128, 129] (by decide +kernel) (by decide +kernel)
set_option maxRecDepth 20000 in
theorem gX11_note_X11_of : GoodIn wsX11_note (wsV RX11 77 RX11 yX11_of wsX11_of) := goodIn_app (goodIn_of _ (by decide +kernel)) ggX11_note_X11_of
set_option maxRecDepth 20000 in
theorem ggX11_note_J14_valueOf_4531c : GoodIn wsX11_note wsJ14_valueOf_4531c := goodIn_r _ [38, 39, 40] (by decide +kernel) (by decide +kernel)
set_option maxRecDepth 20000 in
theorem gX11_note_J14_valueOf_4531c : GoodIn wsX11_note (va_wsS RX11 110 yJ14_valueOf_4531c wsJ14_valueOf_4531c) := goodIn_app (goodIn_of _ (by decide +kernel)) ggX11_note_J14_valueOf_4531c
set_option maxRecDepth 20000 in
theorem ggX11_note_Jx4a65c_add_9ea2d : GoodIn wsX11_note wsJx4a65c_add_9ea2d := goodIn_r _ [44, 45, 46, 34, 21, 47, 48, 49, 19, 50, 51, 52, 53, 54, 55, 56, 57, 58, 59, 60, 61, 62, 63, 64, 65, 66, 67, 68, 69, 70, 71, 72, 73, 74, 75, 76, 77, 78, 79, 80, 81, 82, 83, 84, 85, 86, 87, 88, 89, 90, 91, 92, 93, 127, 128, 129] (by decide +kernel) (by decide +kernel)
set_option maxRecDepth 20000 in
theorem gX11_note_Jx4a65c_add_9ea2d : GoodIn wsX11_note (wsV RX11 64 RJx4a65c yJx4a65c_add_9ea2d wsJx4a65c_add_9ea2d) := goodIn_app (goodIn_of _ (by decide +kernel)) ggX11_note_Jx4a65c_add_9ea2d
set_option maxRecDepth 20000 in
theorem ggX11_note_Jx4a65c_get_915e3 : GoodIn wsX11_note wsJx4a65c_get_915e3 := goodIn_r _ [20, 21, 22, 23, 24, 25, 26, 27, 28, 29, 30, 31, 32, 19, 33, 34, 127, 128, 129] (by decide +kernel) (by decide +kernel)
set_option maxRecDepth 20000 in
theorem gX11_note_Jx4a65c_get_915e3 : GoodIn wsX11_note (wsV RX11 42 RJx4a65c yJx4a65c_get_915e3 wsJx4a65c_get_915e3) := goodIn_app (goodIn_of _ (by decide +kernel)) ggX11_note_Jx4a65c_get_915e3
set_option maxRecDepth 20000 in
theorem ggX11_note_X11_moved : GoodIn wsX11_note wsX11_moved := goodIn_ca (goodIn_r _ [96, 97, 98, 99, 100, 130, 131, 132, 133] (by decide +kernel) (by decide +kernel)) (goodIn_sub (fun _ h => List.mem_cons_of_mem _ (List.mem_append_right _ h)) (by decide +kernel))
set_option maxRecDepth 20000 in
theorem gX11_note_X11_moved : GoodIn wsX11_note (va_wsS RX11 116 yX11_moved wsX11_moved) := goodIn_app (goodIn_of _ (by decide +kernel)) ggX11_note_X11_moved
set_option maxRecDepth 20000 in
theorem ggX11_note_X11_othersDue : GoodIn wsX11_note wsX11_othersDue := goodIn_r _ [104, 2, 7, 105, 106, 107, 19, 108, 21, 8, 9, 10, 11, 12, 13, 14, 15, 16, 17, 18, 20, 22, 23, 24, 25, 26, 27, 28, 29, 30, 31, 32, 33, 34, 115, 116, 117, 118, 109, 110, 111, 112, 113, 114, 127, 128, 129, 119, 120, 121, 122, 123, 124, 125, 126] (by decide +kernel) (by decide +kernel)
set_option maxRecDepth 20000 in
theorem gX11_note_X11_othersDue : GoodIn wsX11_note (wsV RX11 126 RX11 yX11_othersDue wsX11_othersDue) := goodIn_app (goodIn_of _ (by decide +kernel)) ggX11_note_X11_othersDue
set_option maxRecDepth 20000 in
theorem ggX11_answer_X11_no : GoodIn wsX11_answer wsX11_no := goodIn_r _ [7, 8, 9, 10, 6, 11, 12, 13, 14, 15, 16, 17, 18, 19, 20, 21, 22, 23, 24, 25, 26, 27, 28, 29, 30, 1, 139, 140, 141, 142, 149, 150, 151] (by decide +kernel) (by decide +kernel)
set_option maxRecDepth 20000 in
theorem gX11_answer_X11_no : GoodIn wsX11_answer (wsV RX11 90 RX11 yX11_no wsX11_no) := goodIn_app (goodIn_of _ (by decide +kernel)) ggX11_answer_X11_no
set_option maxRecDepth 20000 in
theorem ggX11_answer_X11_openFor : GoodIn wsX11_answer wsX11_openFor := goodIn_ca (goodIn_r _ [34, 26, 35, 36, 2, 37, 13, 14, 15, 16, 17, 18, 38, 39, 40, 41, 42, 43, 44, 45, 46, 47, 48, 49, 50, 51, 52, 53, 54, 55, 56, 57, 6, 58, 12, 59, 60, 139, 140, 141, 142, 152, 153, 154, 155, 143, 144, 145, 146, 147, 148, 149, 150, 151, 156, 157, 158, 159, 160, 161, 162, 163] (by decide +kernel) (by decide +kernel)) (goodIn_sub (fun _ h => List.mem_cons_of_mem _ (List.mem_append_left _ (List.mem_append_right _ h))) (by decide +kernel))
set_option maxRecDepth 20000 in
theorem gX11_answer_X11_openFor : GoodIn wsX11_answer (wsV RX11 93 RX11 yX11_openFor wsX11_openFor) := goodIn_app (goodIn_of _ (by decide +kernel)) ggX11_answer_X11_openFor
set_option maxRecDepth 20000 in
theorem ggX11_answer_X11_fails : GoodIn wsX11_answer wsX11_fails := goodIn_r _ [30, 1, 139, 140, 141, 142] (by decide +kernel) (by decide +kernel)
set_option maxRecDepth 20000 in
theorem gX11_answer_X11_fails : GoodIn wsX11_answer (wsV RX11 38 RX11 yX11_fails wsX11_fails) := goodIn_app (goodIn_of _ (by decide +kernel)) ggX11_answer_X11_fails
set_option maxRecDepth 20000 in
theorem ggX11_answer_X11_note : GoodIn wsX11_answer wsX11_note := goodIn_ca (goodIn_r _ [64, 65, 26, 35, 2, 66, 67, 68, 55, 56, 57, 6, 58, 12, 59, 60, 38, 39, 40, 16, 41, 18, 42, 43, 44, 45, 46, 47, 48, 49, 50, 51, 52, 53, 54, 69, 70, 71, 72, 73, 74, 75, 76, 77, 78, 79, 80, 81, 82, 83, 84, 85, 86, 87, 88, 89, 90, 91, 92, 93, 94, 95, 96, 97, 98, 99, 100, 101, 102, 103, 104, 105, 106, 107, 108, 109, 110, 111, 112, 113, 114, 115, 116, 117, 118, 119, 120, 121, 122, 123, 124, 125, 126, 127, 128, 129, 130, 131, 132, 133, 134, 135, 136, 137, 138, 13, 14, 15, 17, 143, 144, 145, 146, 147, 148, 139, 140, 141, 142, 156, 157, 158, 159, 160, 161, 162, 163, 149, 150, 151, 152, 153, 154, 155] (by decide +kernel) (by decide +kernel)) (goodIn_sub (fun _ h => List.mem_cons_of_mem _ (List.mem_append_right _ h)) (by decide +kernel))
set_option maxRecDepth 20000 in
theorem gX11_answer_X11_note : GoodIn wsX11_answer (wsV RX11 130 RX11 yX11_note wsX11_note) := goodIn_app (goodIn_of _ (by decide +kernel)) ggX11_answer_X11_note
set_option maxRecDepth 20000 in
theorem ggX11_answer_X11_of : GoodIn wsX11_answer wsX11_of := goodIn_r _ [58, 12, 59, 60, 38, 39, 40, 16, 41, 18, 42, 43, 44, 45, 46, 47, 48, 49, 50, 51, 52, 53, 54, 139, 140, 141, 142, 156, 157, 158, 159, 160, 161, 162, 163, 149, 150, 151] (by decide +kernel) (by decide +kernel)
set_option maxRecDepth 20000 in
theorem gX11_answer_X11_of : GoodIn wsX11_answer (wsV RX11 77 RX11 yX11_of wsX11_of) := goodIn_app (goodIn_of _ (by decide +kernel)) ggX11_answer_X11_of
set_option maxRecDepth 20000 in
theorem ggX11_odds_X11_no : GoodIn wsX11_odds wsX11_no := goodIn_r _ [7, 8, 9, 10, 6, 11, 12, 13, 14, 15, 16, 17, 18, 19, 20, 21, 22, 23, 24, 25, 26, 27, 28, 29, 30, 1, 54, 55, 56, 57, 64, 65, 66] (by decide +kernel) (by decide +kernel)
set_option maxRecDepth 20000 in
theorem gX11_odds_X11_no : GoodIn wsX11_odds (wsV RX11 90 RX11 yX11_no wsX11_no) := goodIn_app (goodIn_of _ (by decide +kernel)) ggX11_odds_X11_no
set_option maxRecDepth 20000 in
theorem ggX11_odds_X11_of : GoodIn wsX11_odds wsX11_of := goodIn_r _ [34, 12, 35, 36, 37, 38, 39, 16, 40, 18, 41, 42, 43, 44, 45, 46, 47, 48, 49, 50, 51, 52, 53, 54, 55, 56, 57, 67, 68, 69, 70, 71, 72, 73, 74, 64, 65, 66] (by decide +kernel) (by decide +kernel)
set_option maxRecDepth 20000 in
theorem gX11_odds_X11_of : GoodIn wsX11_odds (wsV RX11 77 RX11 yX11_of wsX11_of) := goodIn_app (goodIn_of _ (by decide +kernel)) ggX11_odds_X11_of
set_option maxRecDepth 20000 in
theorem ggX11_oddsAnew_X11_no : GoodIn wsX11_oddsAnew wsX11_no := goodIn_r _ [11, 12, 13, 14, 10, 15, 16, 17, 18, 19, 20, 21, 22, 23, 24, 25, 26, 27, 28, 29, 5, 30, 31, 32, 33, 1, 102, 103, 104, 105, 112, 113, 114] (by decide +kernel) (by decide +kernel)
set_option maxRecDepth 20000 in
theorem gX11_oddsAnew_X11_no : GoodIn wsX11_oddsAnew (wsV RX11 90 RX11 yX11_no wsX11_no) := goodIn_app (goodIn_of _ (by decide +kernel)) ggX11_oddsAnew_X11_no
set_option maxRecDepth 20000 in
theorem ggX11_oddsAnew_X11_of : GoodIn wsX11_oddsAnew wsX11_of := goodIn_r _ [37, 16, 38, 39, 40, 41, 42, 20, 43, 22, 44, 45, 46, 47, 48, 49, 50, 51, 52, 53, 54, 55, 56, 102, 103, 104, 105, 115, 116, 117, 118, 119, 120, 121, 122, 112, 113, 114] (by decide +kernel) (by decide +kernel)
set_option maxRecDepth 20000 in
theorem gX11_oddsAnew_X11_of : GoodIn wsX11_oddsAnew (wsV RX11 77 RX11 yX11_of wsX11_of) := goodIn_app (goodIn_of _ (by decide +kernel)) ggX11_oddsAnew_X11_of
set_option maxRecDepth 20000 in
theorem ggX11_oddsAnew_Jx4a65c_iterator_32c93 : GoodIn wsX11_oddsAnew wsJx4a65c_iterator_32c93 := goodIn_r _ [60, 61, 62, 63, 64, 65, 66, 67, 68, 69, 70, 71, 72, 73, 74, 123, 124, 125, 126, 112, 113, 114] (by decide +kernel) (by decide +kernel)
set_option maxRecDepth 20000 in
theorem gX11_oddsAnew_Jx4a65c_iterator_32c93 : GoodIn wsX11_oddsAnew (wsV RX11 134 RJx4a65c yJx4a65c_iterator_32c93 wsJx4a65c_iterator_32c93) := goodIn_app (goodIn_of _ (by decide +kernel)) ggX11_oddsAnew_Jx4a65c_iterator_32c93
set_option maxRecDepth 20000 in
theorem ggX11_oddsAnew_Jx35411_hasNext_aae02 : GoodIn wsX11_oddsAnew wsJx35411_hasNext_aae02 := goodIn_r _ [78, 79, 67, 123, 124, 125, 126, 112, 113, 114] (by decide +kernel) (by decide +kernel)
set_option maxRecDepth 20000 in
theorem gX11_oddsAnew_Jx35411_hasNext_aae02_f138Jx35411 : GoodIn wsX11_oddsAnew (va_wsF RX11 138 RJx35411 ⟨"java/util/Iterator", "hasNext", "()Z"⟩ yJx35411_hasNext_aae02 wsJx35411_hasNext_aae02) := goodIn_app (goodIn_of _ (by decide +kernel)) ggX11_oddsAnew_Jx35411_hasNext_aae02
set_option maxRecDepth 20000 in
theorem ggX11_oddsAnew_Jx35411_next_0502b : GoodIn wsX11_oddsAnew wsJx35411_next_0502b := goodIn_r _ [83, 79, 67, 84, 71, 85, 86, 87, 63, 88, 72, 73, 74, 123, 124, 125, 126, 112, 113, 114] (by decide +kernel) (by decide +kernel)
set_option maxRecDepth 20000 in
theorem gX11_oddsAnew_Jx35411_next_0502b_f144Jx35411 : GoodIn wsX11_oddsAnew (va_wsF RX11 144 RJx35411 ⟨"java/util/Iterator", "next", "()Ljava/lang/Object;"⟩ yJx35411_next_0502b wsJx35411_next_0502b) := goodIn_app (goodIn_of _ (by decide +kernel)) ggX11_oddsAnew_Jx35411_next_0502b
set_option maxRecDepth 20000 in
theorem ggX11_oddsAnew_J14_booleanValue_aae02 : GoodIn wsX11_oddsAnew wsJ14_booleanValue_aae02 := goodIn_r _ [93, 94] (by decide +kernel) (by decide +kernel)
set_option maxRecDepth 20000 in
theorem gX11_oddsAnew_J14_booleanValue_aae02 : GoodIn wsX11_oddsAnew (wsV RX11 148 RJ14 yJ14_booleanValue_aae02 wsJ14_booleanValue_aae02) := goodIn_app (goodIn_of _ (by decide +kernel)) ggX11_oddsAnew_J14_booleanValue_aae02
set_option maxRecDepth 20000 in
theorem ggX11_oddsAnew_Jx4a65c_get_915e3 : GoodIn wsX11_oddsAnew wsJx4a65c_get_915e3 := goodIn_r _ [43, 22, 44, 45, 46, 47, 48, 49, 50, 51, 52, 53, 54, 20, 55, 56, 112, 113, 114] (by decide +kernel) (by decide +kernel)
set_option maxRecDepth 20000 in
theorem gX11_oddsAnew_Jx4a65c_get_915e3 : GoodIn wsX11_oddsAnew (wsV RX11 42 RJx4a65c yJx4a65c_get_915e3 wsJx4a65c_get_915e3) := goodIn_app (goodIn_of _ (by decide +kernel)) ggX11_oddsAnew_Jx4a65c_get_915e3
set_option maxRecDepth 20000 in
theorem ggX11_oddsAnew_X11_moved : GoodIn wsX11_oddsAnew wsX11_moved := goodIn_ca (goodIn_r _ [97, 98, 99, 100, 101, 127, 128, 129, 130] (by decide +kernel) (by decide +kernel)) (goodIn_sub (fun _ h => List.mem_cons_of_mem _ (List.mem_append_right _ h)) (by decide +kernel))
set_option maxRecDepth 20000 in
theorem gX11_oddsAnew_X11_moved : GoodIn wsX11_oddsAnew (va_wsS RX11 116 yX11_moved wsX11_moved) := goodIn_app (goodIn_of _ (by decide +kernel)) ggX11_oddsAnew_X11_moved
set_option maxRecDepth 20000 in
theorem ggX11_answers_X11_no : GoodIn wsX11_answers wsX11_no := goodIn_r _ [7, 8, 9, 10, 6, 11, 12, 13, 14, 15, 16, 17, 18, 19, 20, 21, 22, 23, 24, 25, 26, 27, 28, 29, 30, 1, 54, 55, 56, 57, 64, 65, 66] (by decide +kernel) (by decide +kernel)
set_option maxRecDepth 20000 in
theorem gX11_answers_X11_no : GoodIn wsX11_answers (wsV RX11 90 RX11 yX11_no wsX11_no) := goodIn_app (goodIn_of _ (by decide +kernel)) ggX11_answers_X11_no
set_option maxRecDepth 20000 in
theorem ggX11_answers_X11_of : GoodIn wsX11_answers wsX11_of := goodIn_r _ [34, 12, 35, 36, 37, 38, 39, 16, 40, 18, 41, 42, 43, 44, 45, 46, 47, 48, 49, 50, 51, 52, 53, 54, 55, 56, 57, 67, 68, 69, 70, 71, 72, 73, 74, 64, 65, 66] (by decide +kernel) (by decide +kernel)
set_option maxRecDepth 20000 in
theorem gX11_answers_X11_of : GoodIn wsX11_answers (wsV RX11 77 RX11 yX11_of wsX11_of) := goodIn_app (goodIn_of _ (by decide +kernel)) ggX11_answers_X11_of
set_option maxRecDepth 20000 in
theorem ggX11_answers_Jx4a65c_size_8abf5 : GoodIn wsX11_answers wsJx4a65c_size_8abf5 := goodIn_r _ [17, 18, 64, 65, 66] (by decide +kernel) (by decide +kernel)
set_option maxRecDepth 20000 in
theorem gX11_answers_Jx4a65c_size_8abf5 : GoodIn wsX11_answers (wsV RX11 23 RJx4a65c yJx4a65c_size_8abf5 wsJx4a65c_size_8abf5) := goodIn_app (goodIn_of _ (by decide +kernel)) ggX11_answers_Jx4a65c_size_8abf5
set_option maxRecDepth 20000 in
theorem ggX11_nextDay_X11_fails : GoodIn wsX11_nextDay wsX11_fails := goodIn_r _ [7, 1, 8, 9, 10, 11] (by decide +kernel) (by decide +kernel)
set_option maxRecDepth 20000 in
theorem gX11_nextDay_X11_fails : GoodIn wsX11_nextDay (wsV RX11 38 RX11 yX11_fails wsX11_fails) := goodIn_app (goodIn_of _ (by decide +kernel)) ggX11_nextDay_X11_fails
set_option maxRecDepth 20000 in
theorem ggX11_due_X11_no : GoodIn wsX11_due wsX11_no := goodIn_r _ [7, 8, 9, 10, 6, 11, 12, 13, 14, 15, 16, 17, 18, 19, 20, 21, 22, 23, 24, 25, 26, 27, 28, 29, 30, 1, 54, 55, 56, 57, 64, 65, 66] (by decide +kernel) (by decide +kernel)
set_option maxRecDepth 20000 in
theorem gX11_due_X11_no : GoodIn wsX11_due (wsV RX11 90 RX11 yX11_no wsX11_no) := goodIn_app (goodIn_of _ (by decide +kernel)) ggX11_due_X11_no
set_option maxRecDepth 20000 in
theorem ggX11_due_X11_of : GoodIn wsX11_due wsX11_of := goodIn_r _ [34, 12, 35, 36, 37, 38, 39, 16, 40, 18, 41, 42, 43, 44, 45, 46, 47, 48, 49, 50, 51, 52, 53, 54, 55, 56, 57, 67, 68, 69, 70, 71, 72, 73, 74, 64, 65, 66] (by decide +kernel) (by decide +kernel)
set_option maxRecDepth 20000 in
theorem gX11_due_X11_of : GoodIn wsX11_due (wsV RX11 77 RX11 yX11_of wsX11_of) := goodIn_app (goodIn_of _ (by decide +kernel)) ggX11_due_X11_of
set_option maxRecDepth 20000 in
theorem ggX11_due_X11_fails : GoodIn wsX11_due wsX11_fails := goodIn_r _ [30, 1, 54, 55, 56, 57] (by decide +kernel) (by decide +kernel)
set_option maxRecDepth 20000 in
theorem gX11_due_X11_fails : GoodIn wsX11_due (wsV RX11 38 RX11 yX11_fails wsX11_fails) := goodIn_app (goodIn_of _ (by decide +kernel)) ggX11_due_X11_fails
set_option maxRecDepth 20000 in
theorem ggX11_dueNow_Jx4a65c_init_da8c8 : GoodIn wsX11_dueNow wsJx4a65c_init_da8c8 := goodIn_r _ [9, 10, 11, 12, 13, 14, 15, 16, 17, 18, 19, 20, 21, 22, 23, 122, 123, 124] (by decide +kernel) (by decide +kernel)
set_option maxRecDepth 20000 in
theorem gX11_dueNow_Jx4a65c_init_da8c8 : GoodIn wsX11_dueNow (wsJx4a65c_init_da8c8) := ggX11_dueNow_Jx4a65c_init_da8c8
set_option maxRecDepth 20000 in
theorem ggX11_dueNow_Jx4a65c_size_8abf5 : GoodIn wsX11_dueNow wsJx4a65c_size_8abf5 := goodIn_r _ [27, 28, 122, 123, 124] (by decide +kernel) (by decide +kernel)
set_option maxRecDepth 20000 in
theorem gX11_dueNow_Jx4a65c_size_8abf5 : GoodIn wsX11_dueNow (wsV RX11 23 RJx4a65c yJx4a65c_size_8abf5 wsJx4a65c_size_8abf5) := goodIn_app (goodIn_of _ (by decide +kernel)) ggX11_dueNow_Jx4a65c_size_8abf5
set_option maxRecDepth 20000 in
theorem ggX11_dueNow_X11_of : GoodIn wsX11_dueNow wsX11_of := goodIn_r _ [33, 34, 35, 36, 37, 38, 39, 3, 40, 28, 41, 42, 43, 44, 45, 46, 47, 48, 49, 50, 51, 52, 11, 125, 126, 127, 128, 135, 136, 137, 138, 139, 140, 141, 142, 122, 123, 124] (by decide +kernel) (by decide +kernel)
set_option maxRecDepth 20000 in
theorem gX11_dueNow_X11_of : GoodIn wsX11_dueNow (wsV RX11 77 RX11 yX11_of wsX11_of) := goodIn_app (goodIn_of _ (by decide +kernel)) ggX11_dueNow_X11_of
set_option maxRecDepth 20000 in
theorem ggX11_dueNow_J6_valueOf_2dffe : GoodIn wsX11_dueNow wsJ6_valueOf_2dffe := goodIn_r _ [56, 57, 58, 59, 60, 55, 61, 62, 63, 64, 65, 66, 67, 68, 69, 22, 23, 143] (by decide +kernel) (by decide +kernel)
set_option maxRecDepth 20000 in
theorem gX11_dueNow_J6_valueOf_2dffe : GoodIn wsX11_dueNow (va_wsS RX11 151 yJ6_valueOf_2dffe wsJ6_valueOf_2dffe) := goodIn_app (goodIn_of _ (by decide +kernel)) ggX11_dueNow_J6_valueOf_2dffe
set_option maxRecDepth 20000 in
theorem ggX11_dueNow_Jx4a65c_add_9ea2d : GoodIn wsX11_dueNow wsJx4a65c_add_9ea2d := goodIn_r _ [73, 74, 75, 11, 28, 76, 77, 78, 3, 79, 80, 81, 82, 83, 84, 85, 86, 87, 10, 88, 89, 90, 91, 92, 93, 94, 95, 96, 97, 98, 99, 100, 101, 102, 103, 104, 105, 106, 107, 108, 109, 110, 111, 112, 113, 114, 115, 116, 117, 118, 119, 120, 121, 122, 123, 124] (by decide +kernel) (by decide +kernel)
set_option maxRecDepth 20000 in
theorem gX11_dueNow_Jx4a65c_add_9ea2d : GoodIn wsX11_dueNow (wsV RX11 64 RJx4a65c yJx4a65c_add_9ea2d wsJx4a65c_add_9ea2d) := goodIn_app (goodIn_of _ (by decide +kernel)) ggX11_dueNow_Jx4a65c_add_9ea2d
set_option maxRecDepth 20000 in
theorem ggX11_reviews_X11_noLearner : GoodIn wsX11_reviews wsX11_noLearner := goodIn_r _ [6, 7, 8, 9, 10, 11, 12, 13, 14, 15, 5, 16, 138, 139, 140, 141, 142, 143, 144] (by decide +kernel) (by decide +kernel)
set_option maxRecDepth 20000 in
theorem gX11_reviews_X11_noLearner : GoodIn wsX11_reviews (wsV RX11 31 RX11 yX11_noLearner wsX11_noLearner) := goodIn_app (goodIn_of _ (by decide +kernel)) ggX11_reviews_X11_noLearner
set_option maxRecDepth 20000 in
theorem ggX11_reviews_X11_fails : GoodIn wsX11_reviews wsX11_fails := goodIn_r _ [20, 1, 138, 139, 140, 141] (by decide +kernel) (by decide +kernel)
set_option maxRecDepth 20000 in
theorem gX11_reviews_X11_fails : GoodIn wsX11_reviews (wsV RX11 38 RX11 yX11_fails wsX11_fails) := goodIn_app (goodIn_of _ (by decide +kernel)) ggX11_reviews_X11_fails
set_option maxRecDepth 20000 in
theorem ggX11_reviews_X11_dueNow : GoodIn wsX11_reviews wsX11_dueNow := goodIn_r _ [24, 25, 26, 11, 27, 28, 29, 30, 31, 32, 33, 34, 35, 36, 37, 38, 39, 40, 41, 42, 43, 44, 45, 46, 8, 9, 10, 12, 13, 47, 48, 49, 5, 50, 7, 51, 52, 53, 54, 55, 56, 57, 58, 59, 60, 61, 62, 63, 64, 65, 66, 67, 68, 69, 70, 71, 72, 73, 74, 75, 76, 77, 78, 79, 80, 81, 82, 83, 84, 85, 86, 87, 88, 89, 90, 91, 92, 93, 94, 95, 96, 97, 98, 99, 100, 101, 102, 103, 104, 105, 106, 107, 108, 109, 110, 111, 112, 113, 114, 115, 116, 117, 118, 119, 120, 121, 122, 123, 124, 125, 126, 127, 128, 129, 130, 131, 132, 133, 134, 135, 136, 137, 142, 143, 144, 138, 139, 140, 141, 145, 146, 147, 148, 149, 150, 151, 152, 153, 154, 155, 156, 157, 158, 159] (by decide +kernel) (by decide +kernel)
set_option maxRecDepth 20000 in
theorem gX11_reviews_X11_dueNow : GoodIn wsX11_reviews (wsV RX11 156 RX11 yX11_dueNow wsX11_dueNow) := goodIn_app (goodIn_of _ (by decide +kernel)) ggX11_reviews_X11_dueNow
set_option maxRecDepth 20000 in
theorem ggX11_reviews_Jx4a65c_size_8abf5 : GoodIn wsX11_reviews wsJx4a65c_size_8abf5 := goodIn_r _ [12, 13, 142, 143, 144] (by decide +kernel) (by decide +kernel)
set_option maxRecDepth 20000 in
theorem gX11_reviews_Jx4a65c_size_8abf5 : GoodIn wsX11_reviews (wsV RX11 23 RJx4a65c yJx4a65c_size_8abf5 wsJx4a65c_size_8abf5) := goodIn_app (goodIn_of _ (by decide +kernel)) ggX11_reviews_Jx4a65c_size_8abf5
set_option maxRecDepth 20000 in
theorem ggX11_reviewAt_X11_noLearner : GoodIn wsX11_reviewAt wsX11_noLearner := goodIn_r _ [7, 8, 9, 10, 11, 12, 13, 14, 15, 16, 6, 17, 143, 144, 145, 146, 147, 148, 149] (by decide +kernel) (by decide +kernel)
set_option maxRecDepth 20000 in
theorem gX11_reviewAt_X11_noLearner : GoodIn wsX11_reviewAt (wsV RX11 31 RX11 yX11_noLearner wsX11_noLearner) := goodIn_app (goodIn_of _ (by decide +kernel)) ggX11_reviewAt_X11_noLearner
set_option maxRecDepth 20000 in
theorem ggX11_reviewAt_X11_fails : GoodIn wsX11_reviewAt wsX11_fails := goodIn_r _ [21, 1, 143, 144, 145, 146] (by decide +kernel) (by decide +kernel)
set_option maxRecDepth 20000 in
theorem gX11_reviewAt_X11_fails : GoodIn wsX11_reviewAt (wsV RX11 38 RX11 yX11_fails wsX11_fails) := goodIn_app (goodIn_of _ (by decide +kernel)) ggX11_reviewAt_X11_fails
set_option maxRecDepth 20000 in
theorem ggX11_reviewAt_X11_dueNow : GoodIn wsX11_reviewAt wsX11_dueNow := goodIn_r _ [25, 26, 27, 12, 28, 29, 30, 31, 32, 33, 34, 35, 36, 37, 38, 39, 40, 41, 42, 43, 44, 45, 46, 47, 9, 10, 11, 13, 14, 48, 49, 50, 6, 51, 8, 52, 53, 54, 55, 56, 57, 58, 59, 60, 61, 62, 63, 64, 65, 66, 67, 68, 69, 70, 71, 72, 73, 74, 75, 76, 77, 78, 79, 80, 81, 82, 83, 84, 85, 86, 87, 88, 89, 90, 91, 92, 93, 94, 95, 96, 97, 98, 99, 100, 101, 102, 103, 104, 105, 106, 107, 108, 109, 110, 111, 112, 113, 114, 115, 116, 117, 118, 119, 120, 121, 122, 123, 124, 125, 126, 127, 128, 129, 130, 131, 132, 133, 134, 135, 136, 137, 138, 147, 148, 149, 143, 144, 145, 146, 150, 151, 152, 153, 154, 155, 156, 157, 158, 159, 160, 161, 162, 163, 164] (by decide +kernel) (by decide +kernel)
set_option maxRecDepth 20000 in
theorem gX11_reviewAt_X11_dueNow : GoodIn wsX11_reviewAt (wsV RX11 156 RX11 yX11_dueNow wsX11_dueNow) := goodIn_app (goodIn_of _ (by decide +kernel)) ggX11_reviewAt_X11_dueNow
set_option maxRecDepth 20000 in
theorem ggX11_reviewAt_Jx4a65c_size_8abf5 : GoodIn wsX11_reviewAt wsJx4a65c_size_8abf5 := goodIn_r _ [13, 14, 147, 148, 149] (by decide +kernel) (by decide +kernel)
set_option maxRecDepth 20000 in
theorem gX11_reviewAt_Jx4a65c_size_8abf5 : GoodIn wsX11_reviewAt (wsV RX11 23 RJx4a65c yJx4a65c_size_8abf5 wsJx4a65c_size_8abf5) := goodIn_app (goodIn_of _ (by decide +kernel)) ggX11_reviewAt_Jx4a65c_size_8abf5
set_option maxRecDepth 20000 in
theorem ggX11_reviewAt_X11_in : GoodIn wsX11_reviewAt wsX11_in := goodIn_r _ [17] (by decide +kernel) (by decide +kernel)
set_option maxRecDepth 20000 in
theorem gX11_reviewAt_X11_in : GoodIn wsX11_reviewAt (va_wsS RX11 27 yX11_in wsX11_in) := goodIn_app (goodIn_of _ (by decide +kernel)) ggX11_reviewAt_X11_in
set_option maxRecDepth 20000 in
theorem ggX11_reviewAt_Jx4a65c_get_915e3 : GoodIn wsX11_reviewAt wsJx4a65c_get_915e3 := goodIn_r _ [57, 14, 58, 59, 60, 61, 62, 63, 64, 65, 66, 67, 68, 12, 69, 35, 147, 148, 149] (by decide +kernel) (by decide +kernel)
set_option maxRecDepth 20000 in
theorem gX11_reviewAt_Jx4a65c_get_915e3 : GoodIn wsX11_reviewAt (wsV RX11 42 RJx4a65c yJx4a65c_get_915e3 wsJx4a65c_get_915e3) := goodIn_app (goodIn_of _ (by decide +kernel)) ggX11_reviewAt_Jx4a65c_get_915e3
set_option maxRecDepth 20000 in
theorem ggX11_reviewAt_J6_intValue_8abf5 : GoodIn wsX11_reviewAt wsJ6_intValue_8abf5 := goodIn_r _ [142, 81, 164] (by decide +kernel) (by decide +kernel)
set_option maxRecDepth 20000 in
theorem gX11_reviewAt_J6_intValue_8abf5 : GoodIn wsX11_reviewAt (wsV RX11 160 RJ6 yJ6_intValue_8abf5 wsJ6_intValue_8abf5) := goodIn_app (goodIn_of _ (by decide +kernel)) ggX11_reviewAt_J6_intValue_8abf5
set_option maxRecDepth 20000 in
theorem ggX11_choose_X11_noLearner : GoodIn wsX11_choose wsX11_noLearner := goodIn_r _ [12, 13, 14, 15, 16, 17, 18, 19, 20, 21, 11, 22, 181, 182, 183, 184, 195, 196, 197] (by decide +kernel) (by decide +kernel)
set_option maxRecDepth 20000 in
theorem gX11_choose_X11_noLearner : GoodIn wsX11_choose (wsV RX11 31 RX11 yX11_noLearner wsX11_noLearner) := goodIn_app (goodIn_of _ (by decide +kernel)) ggX11_choose_X11_noLearner
set_option maxRecDepth 20000 in
theorem ggX11_choose_X11_fails : GoodIn wsX11_choose wsX11_fails := goodIn_r _ [26, 1, 181, 182, 183, 184] (by decide +kernel) (by decide +kernel)
set_option maxRecDepth 20000 in
theorem gX11_choose_X11_fails : GoodIn wsX11_choose (wsV RX11 38 RX11 yX11_fails wsX11_fails) := goodIn_app (goodIn_of _ (by decide +kernel)) ggX11_choose_X11_fails
set_option maxRecDepth 20000 in
theorem ggX11_choose_X11_dueNow : GoodIn wsX11_choose wsX11_dueNow := goodIn_r _ [30, 31, 32, 17, 33, 3, 7, 34, 35, 36, 37, 38, 39, 40, 41, 42, 43, 44, 45, 46, 47, 48, 49, 50, 14, 15, 16, 18, 19, 51, 52, 53, 11, 54, 13, 55, 56, 57, 58, 59, 60, 61, 62, 63, 64, 65, 66, 67, 68, 69, 70, 71, 72, 73, 74, 75, 76, 77, 78, 79, 80, 81, 82, 83, 84, 85, 86, 87, 88, 89, 90, 91, 92, 93, 94, 95, 96, 97, 98, 99, 100, 101, 102, 103, 104, 105, 106, 107, 108, 109, 110, 111, 112, 113, 114, 115, 116, 117, 118, 119, 120, 121, 122, 123, 124, 125, 126, 127, 128, 129, 130, 131, 132, 133, 134, 135, 136, 137, 138, 139, 140, 141, 195, 196, 197, 181, 182, 183, 184, 185, 186, 187, 188, 189, 190, 198, 199, 200, 201, 202, 203, 204, 205, 206] (by decide +kernel) (by decide +kernel)
set_option maxRecDepth 20000 in
theorem gX11_choose_X11_dueNow : GoodIn wsX11_choose (wsV RX11 156 RX11 yX11_dueNow wsX11_dueNow) := goodIn_app (goodIn_of _ (by decide +kernel)) ggX11_choose_X11_dueNow
set_option maxRecDepth 20000 in
theorem ggX11_choose_Jx4a65c_iterator_32c93 : GoodIn wsX11_choose wsJx4a65c_iterator_32c93 := goodIn_r _ [145, 146, 147, 148, 149, 150, 151, 152, 153, 49, 50, 154, 155, 95, 156, 207, 208, 209, 210, 195, 196, 197] (by decide +kernel) (by decide +kernel)
set_option maxRecDepth 20000 in
theorem gX11_choose_Jx4a65c_iterator_32c93 : GoodIn wsX11_choose (wsV RX11 134 RJx4a65c yJx4a65c_iterator_32c93 wsJx4a65c_iterator_32c93) := goodIn_app (goodIn_of _ (by decide +kernel)) ggX11_choose_Jx4a65c_iterator_32c93
set_option maxRecDepth 20000 in
theorem ggX11_choose_Jx35411_hasNext_aae02 : GoodIn wsX11_choose wsJx35411_hasNext_aae02 := goodIn_r _ [160, 161, 152, 207, 208, 209, 210, 195, 196, 197] (by decide +kernel) (by decide +kernel)
set_option maxRecDepth 20000 in
theorem gX11_choose_Jx35411_hasNext_aae02_f138Jx35411 : GoodIn wsX11_choose (va_wsF RX11 138 RJx35411 ⟨"java/util/Iterator", "hasNext", "()Z"⟩ yJx35411_hasNext_aae02 wsJx35411_hasNext_aae02) := goodIn_app (goodIn_of _ (by decide +kernel)) ggX11_choose_Jx35411_hasNext_aae02
set_option maxRecDepth 20000 in
theorem ggX11_choose_Jx35411_next_0502b : GoodIn wsX11_choose wsJx35411_next_0502b := goodIn_r _ [165, 161, 152, 166, 154, 167, 168, 169, 148, 170, 155, 95, 156, 207, 208, 209, 210, 195, 196, 197] (by decide +kernel) (by decide +kernel)
set_option maxRecDepth 20000 in
theorem gX11_choose_Jx35411_next_0502b_f144Jx35411 : GoodIn wsX11_choose (va_wsF RX11 144 RJx35411 ⟨"java/util/Iterator", "next", "()Ljava/lang/Object;"⟩ yJx35411_next_0502b wsJx35411_next_0502b) := goodIn_app (goodIn_of _ (by decide +kernel)) ggX11_choose_Jx35411_next_0502b
set_option maxRecDepth 20000 in
theorem ggX11_choose_J6_intValue_8abf5 : GoodIn wsX11_choose wsJ6_intValue_8abf5 := goodIn_r _ [174, 84, 206] (by decide +kernel) (by decide +kernel)
set_option maxRecDepth 20000 in
theorem gX11_choose_J6_intValue_8abf5 : GoodIn wsX11_choose (wsV RX11 160 RJ6 yJ6_intValue_8abf5 wsJ6_intValue_8abf5) := goodIn_app (goodIn_of _ (by decide +kernel)) ggX11_choose_J6_intValue_8abf5
set_option maxRecDepth 20000 in
theorem ggX11_choose_X11_openFor : GoodIn wsX11_choose wsX11_openFor := goodIn_ca (goodIn_r _ [178, 3, 5, 179, 4, 180, 14, 15, 16, 17, 18, 19, 57, 58, 59, 60, 61, 62, 63, 64, 65, 66, 67, 68, 69, 70, 71, 72, 38, 51, 52, 53, 11, 54, 13, 55, 56, 181, 182, 183, 184, 191, 192, 193, 194, 185, 186, 187, 188, 189, 190, 195, 196, 197, 198, 199, 200, 201, 202, 203, 204, 205] (by decide +kernel) (by decide +kernel)) (goodIn_sub (fun _ h => List.mem_cons_of_mem _ (List.mem_append_right _ h)) (by decide +kernel))
set_option maxRecDepth 20000 in
theorem gX11_choose_X11_openFor : GoodIn wsX11_choose (wsV RX11 93 RX11 yX11_openFor wsX11_openFor) := goodIn_app (goodIn_of _ (by decide +kernel)) ggX11_choose_X11_openFor
set_option maxRecDepth 20000 in
theorem ggX11_choose_Jx4a65c_size_8abf5 : GoodIn wsX11_choose wsJx4a65c_size_8abf5 := goodIn_r _ [18, 19, 195, 196, 197] (by decide +kernel) (by decide +kernel)
set_option maxRecDepth 20000 in
theorem gX11_choose_Jx4a65c_size_8abf5 : GoodIn wsX11_choose (wsV RX11 23 RJx4a65c yJx4a65c_size_8abf5 wsJx4a65c_size_8abf5) := goodIn_app (goodIn_of _ (by decide +kernel)) ggX11_choose_Jx4a65c_size_8abf5
set_option maxRecDepth 20000 in
theorem ggX11_choose_X11_of : GoodIn wsX11_choose wsX11_of := goodIn_r _ [54, 13, 55, 56, 57, 58, 59, 17, 60, 19, 61, 62, 63, 64, 65, 66, 67, 68, 69, 70, 71, 72, 38, 181, 182, 183, 184, 198, 199, 200, 201, 202, 203, 204, 205, 195, 196, 197] (by decide +kernel) (by decide +kernel)
set_option maxRecDepth 20000 in
theorem gX11_choose_X11_of : GoodIn wsX11_choose (wsV RX11 77 RX11 yX11_of wsX11_of) := goodIn_app (goodIn_of _ (by decide +kernel)) ggX11_choose_X11_of
set_option maxRecDepth 20000 in
theorem ggX11_choose_Jx4a65c_get_915e3 : GoodIn wsX11_choose wsJx4a65c_get_915e3 := goodIn_r _ [60, 19, 61, 62, 63, 64, 65, 66, 67, 68, 69, 70, 71, 17, 72, 38, 195, 196, 197] (by decide +kernel) (by decide +kernel)
set_option maxRecDepth 20000 in
theorem gX11_choose_Jx4a65c_get_915e3 : GoodIn wsX11_choose (wsV RX11 42 RJx4a65c yJx4a65c_get_915e3 wsJx4a65c_get_915e3) := goodIn_app (goodIn_of _ (by decide +kernel)) ggX11_choose_Jx4a65c_get_915e3
set_option maxRecDepth 20000 in
theorem ggX11_wasLately_Jx4a65c_size_8abf5 : GoodIn wsX11_wasLately wsJx4a65c_size_8abf5 := goodIn_r _ [11, 12, 42, 43, 44] (by decide +kernel) (by decide +kernel)
set_option maxRecDepth 20000 in
theorem gX11_wasLately_Jx4a65c_size_8abf5 : GoodIn wsX11_wasLately (wsV RX11 23 RJx4a65c yJx4a65c_size_8abf5 wsJx4a65c_size_8abf5) := goodIn_app (goodIn_of _ (by decide +kernel)) ggX11_wasLately_Jx4a65c_size_8abf5
set_option maxRecDepth 20000 in
theorem ggX11_wasLately_Jx4a65c_get_915e3 : GoodIn wsX11_wasLately wsJx4a65c_get_915e3 := goodIn_r _ [16, 12, 17, 18, 19, 20, 21, 22, 23, 24, 25, 26, 27, 10, 28, 29, 42, 43, 44] (by decide +kernel) (by decide +kernel)
set_option maxRecDepth 20000 in
theorem gX11_wasLately_Jx4a65c_get_915e3 : GoodIn wsX11_wasLately (wsV RX11 42 RJx4a65c yJx4a65c_get_915e3 wsJx4a65c_get_915e3) := goodIn_app (goodIn_of _ (by decide +kernel)) ggX11_wasLately_Jx4a65c_get_915e3
set_option maxRecDepth 20000 in
theorem ggX11_wasLately_X11_areSame : GoodIn wsX11_wasLately wsX11_areSame := goodIn_ca (goodIn_r _ [33] (by decide +kernel) (by decide +kernel)) (goodIn_sub (fun _ h => List.mem_cons_of_mem _ (List.mem_append_right _ h)) (by decide +kernel))
set_option maxRecDepth 20000 in
theorem gX11_wasLately_X11_areSame : GoodIn wsX11_wasLately (va_wsS RX11 174 yX11_areSame wsX11_areSame) := goodIn_app (goodIn_of _ (by decide +kernel)) ggX11_wasLately_X11_areSame
set_option maxRecDepth 20000 in
theorem ggX11_make_X11_no : GoodIn wsX11_make wsX11_no := goodIn_r _ [13, 14, 15, 16, 12, 17, 2, 18, 19, 20, 21, 22, 23, 24, 25, 26, 27, 28, 29, 30, 31, 32, 33, 34, 35, 1, 131, 132, 133, 134, 143, 144, 145] (by decide +kernel) (by decide +kernel)
set_option maxRecDepth 20000 in
theorem gX11_make_X11_no : GoodIn wsX11_make (wsV RX11 90 RX11 yX11_no wsX11_no) := goodIn_app (goodIn_of _ (by decide +kernel)) ggX11_make_X11_no
set_option maxRecDepth 20000 in
theorem ggX11_make_X11_in : GoodIn wsX11_make wsX11_in := goodIn_r _ [26] (by decide +kernel) (by decide +kernel)
set_option maxRecDepth 20000 in
theorem gX11_make_X11_in : GoodIn wsX11_make (va_wsS RX11 27 yX11_in wsX11_in) := goodIn_app (goodIn_of _ (by decide +kernel)) ggX11_make_X11_in
set_option maxRecDepth 20000 in
theorem ggX11_make_X11_fails : GoodIn wsX11_make wsX11_fails := goodIn_r _ [35, 1, 131, 132, 133, 134] (by decide +kernel) (by decide +kernel)
set_option maxRecDepth 20000 in
theorem gX11_make_X11_fails : GoodIn wsX11_make (wsV RX11 38 RX11 yX11_fails wsX11_fails) := goodIn_app (goodIn_of _ (by decide +kernel)) ggX11_make_X11_fails
set_option maxRecDepth 20000 in
theorem ggX11_make_X11_openFor : GoodIn wsX11_make wsX11_openFor := goodIn_ca (goodIn_r _ [39, 31, 40, 41, 42, 43, 18, 19, 20, 21, 22, 23, 44, 45, 46, 47, 48, 49, 50, 51, 52, 53, 54, 55, 56, 57, 58, 59, 60, 61, 62, 63, 12, 64, 2, 3, 65, 131, 132, 133, 134, 146, 147, 148, 149, 150, 151, 152, 153, 154, 155, 143, 144, 145, 135, 136, 137, 138, 139, 140, 141, 142] (by decide +kernel) (by decide +kernel)) (goodIn_sub (fun _ h => List.mem_cons_of_mem _ (List.mem_append_right _ h)) (by decide +kernel))
set_option maxRecDepth 20000 in
theorem gX11_make_X11_openFor : GoodIn wsX11_make (wsV RX11 93 RX11 yX11_openFor wsX11_openFor) := goodIn_app (goodIn_of _ (by decide +kernel)) ggX11_make_X11_openFor
set_option maxRecDepth 20000 in
theorem ggX11_make_Jx4a65c_get_915e3 : GoodIn wsX11_make wsJx4a65c_get_915e3 := goodIn_r _ [47, 23, 48, 49, 50, 51, 52, 53, 54, 55, 56, 57, 58, 21, 59, 60, 143, 144, 145] (by decide +kernel) (by decide +kernel)
set_option maxRecDepth 20000 in
theorem gX11_make_Jx4a65c_get_915e3 : GoodIn wsX11_make (wsV RX11 42 RJx4a65c yJx4a65c_get_915e3 wsJx4a65c_get_915e3) := goodIn_app (goodIn_of _ (by decide +kernel)) ggX11_make_Jx4a65c_get_915e3
set_option maxRecDepth 20000 in
theorem ggX11_make_X11_equation : GoodIn wsX11_make wsX11_equation := goodIn_ca (goodIn_r _ [68, 69] (by decide +kernel) (by decide +kernel)) (goodIn_sub (fun _ h => List.mem_cons_of_mem _ (List.mem_append_right _ h)) (by decide +kernel))
set_option maxRecDepth 20000 in
theorem gX11_make_X11_equation : GoodIn wsX11_make (va_wsS RX11 178 yX11_equation wsX11_equation) := goodIn_app (goodIn_of _ (by decide +kernel)) ggX11_make_X11_equation
set_option maxRecDepth 20000 in
theorem ggX11_make_X11_wasLately : GoodIn wsX11_make wsX11_wasLately := goodIn_ca (goodIn_r _ [72, 5, 73, 74, 75, 76, 77, 18, 19, 20, 21, 22, 23, 44, 45, 46, 47, 48, 49, 50, 51, 52, 53, 54, 55, 56, 57, 58, 59, 60, 78, 79, 12, 80, 135, 136, 137, 138, 139, 140, 141, 142, 143, 144, 145] (by decide +kernel) (by decide +kernel)) (goodIn_sub (fun _ h => List.mem_cons_of_mem _ (List.mem_append_right _ h)) (by decide +kernel))
set_option maxRecDepth 20000 in
theorem gX11_make_X11_wasLately : GoodIn wsX11_make (va_wsS RX11 182 yX11_wasLately wsX11_wasLately) := goodIn_app (goodIn_of _ (by decide +kernel)) ggX11_make_X11_wasLately
set_option maxRecDepth 20000 in
theorem ggX11_make_Jx4a65c_add_9ea2d : GoodIn wsX11_make wsJx4a65c_add_9ea2d := goodIn_r _ [84, 85, 86, 60, 23, 87, 88, 89, 21, 90, 91, 92, 93, 94, 95, 96, 97, 98, 99, 100, 74, 75, 76, 101, 102, 103, 104, 105, 106, 107, 108, 109, 110, 111, 112, 113, 114, 115, 116, 117, 118, 119, 120, 121, 122, 123, 124, 125, 126, 127, 128, 129, 130, 143, 144, 145] (by decide +kernel) (by decide +kernel)
set_option maxRecDepth 20000 in
theorem gX11_make_Jx4a65c_add_9ea2d : GoodIn wsX11_make (wsV RX11 64 RJx4a65c yJx4a65c_add_9ea2d wsJx4a65c_add_9ea2d) := goodIn_app (goodIn_of _ (by decide +kernel)) ggX11_make_Jx4a65c_add_9ea2d
set_option maxRecDepth 20000 in
theorem ggX11_noExercise_Jx4a65c_get_915e3 : GoodIn wsX11_noExercise wsJx4a65c_get_915e3 := goodIn_r _ [8, 9, 10, 11, 12, 13, 14, 15, 16, 17, 18, 19, 20, 7, 21, 22, 41, 42, 43] (by decide +kernel) (by decide +kernel)
set_option maxRecDepth 20000 in
theorem gX11_noExercise_Jx4a65c_get_915e3 : GoodIn wsX11_noExercise (wsV RX11 42 RJx4a65c yJx4a65c_get_915e3 wsJx4a65c_get_915e3) := goodIn_app (goodIn_of _ (by decide +kernel)) ggX11_noExercise_Jx4a65c_get_915e3
set_option maxRecDepth 20000 in
theorem ggX11_noExercise_X11_fails : GoodIn wsX11_noExercise wsX11_fails := goodIn_r _ [27, 28, 29, 30, 31, 32] (by decide +kernel) (by decide +kernel)
set_option maxRecDepth 20000 in
theorem gX11_noExercise_X11_fails : GoodIn wsX11_noExercise (wsV RX11 38 RX11 yX11_fails wsX11_fails) := goodIn_app (goodIn_of _ (by decide +kernel)) ggX11_noExercise_X11_fails
set_option maxRecDepth 20000 in
theorem ggX11_part_X11_noLearner : GoodIn wsX11_part wsX11_noLearner := goodIn_r _ [9, 2, 10, 11, 12, 13, 14, 15, 16, 17, 8, 18, 44, 45, 46, 47, 56, 57, 58] (by decide +kernel) (by decide +kernel)
set_option maxRecDepth 20000 in
theorem gX11_part_X11_noLearner : GoodIn wsX11_part (wsV RX11 31 RX11 yX11_noLearner wsX11_noLearner) := goodIn_app (goodIn_of _ (by decide +kernel)) ggX11_part_X11_noLearner
set_option maxRecDepth 20000 in
theorem ggX11_part_X11_fails : GoodIn wsX11_part wsX11_fails := goodIn_r _ [22, 1, 44, 45, 46, 47] (by decide +kernel) (by decide +kernel)
set_option maxRecDepth 20000 in
theorem gX11_part_X11_fails : GoodIn wsX11_part (wsV RX11 38 RX11 yX11_fails wsX11_fails) := goodIn_app (goodIn_of _ (by decide +kernel)) ggX11_part_X11_fails
set_option maxRecDepth 20000 in
theorem ggX11_part_X11_in : GoodIn wsX11_part wsX11_in := goodIn_r _ [18] (by decide +kernel) (by decide +kernel)
set_option maxRecDepth 20000 in
theorem gX11_part_X11_in : GoodIn wsX11_part (va_wsS RX11 27 yX11_in wsX11_in) := goodIn_app (goodIn_of _ (by decide +kernel)) ggX11_part_X11_in
set_option maxRecDepth 20000 in
theorem ggX11_part_X11_noExercise : GoodIn wsX11_part wsX11_noExercise := goodIn_r _ [26, 2, 3, 4, 27, 28, 29, 13, 30, 15, 31, 32, 33, 34, 35, 36, 37, 38, 39, 40, 41, 42, 43, 19, 20, 21, 8, 22, 1, 44, 45, 46, 47, 48, 49, 50, 51, 52, 53, 54, 55, 56, 57, 58] (by decide +kernel) (by decide +kernel)
set_option maxRecDepth 20000 in
theorem gX11_part_X11_noExercise : GoodIn wsX11_part (wsV RX11 197 RX11 yX11_noExercise wsX11_noExercise) := goodIn_app (goodIn_of _ (by decide +kernel)) ggX11_part_X11_noExercise
set_option maxRecDepth 20000 in
theorem ggX11_part_Jx4a65c_get_915e3 : GoodIn wsX11_part wsJx4a65c_get_915e3 := goodIn_r _ [30, 15, 31, 32, 33, 34, 35, 36, 37, 38, 39, 40, 41, 13, 42, 43, 56, 57, 58] (by decide +kernel) (by decide +kernel)
set_option maxRecDepth 20000 in
theorem gX11_part_Jx4a65c_get_915e3 : GoodIn wsX11_part (wsV RX11 42 RJx4a65c yJx4a65c_get_915e3 wsJx4a65c_get_915e3) := goodIn_app (goodIn_of _ (by decide +kernel)) ggX11_part_Jx4a65c_get_915e3
set_option maxRecDepth 20000 in
theorem ggX11_step_X11_in : GoodIn wsX11_step wsX11_in := goodIn_r _ [14] (by decide +kernel) (by decide +kernel)
set_option maxRecDepth 20000 in
theorem gX11_step_X11_in : GoodIn wsX11_step (va_wsS RX11 27 yX11_in wsX11_in) := goodIn_app (goodIn_of _ (by decide +kernel)) ggX11_step_X11_in
set_option maxRecDepth 20000 in
theorem ggX11_step_X11_noLearner : GoodIn wsX11_step wsX11_noLearner := goodIn_r _ [18, 2, 19, 20, 21, 22, 23, 24, 11, 12, 13, 14, 139, 140, 141, 142, 151, 152, 153] (by decide +kernel) (by decide +kernel)
set_option maxRecDepth 20000 in
theorem gX11_step_X11_noLearner : GoodIn wsX11_step (wsV RX11 31 RX11 yX11_noLearner wsX11_noLearner) := goodIn_app (goodIn_of _ (by decide +kernel)) ggX11_step_X11_noLearner
set_option maxRecDepth 20000 in
theorem ggX11_step_X11_fails : GoodIn wsX11_step wsX11_fails := goodIn_r _ [28, 1, 139, 140, 141, 142] (by decide +kernel) (by decide +kernel)
set_option maxRecDepth 20000 in
theorem gX11_step_X11_fails : GoodIn wsX11_step (wsV RX11 38 RX11 yX11_fails wsX11_fails) := goodIn_app (goodIn_of _ (by decide +kernel)) ggX11_step_X11_fails
set_option maxRecDepth 20000 in
theorem ggX11_step_X11_noExercise : GoodIn wsX11_step wsX11_noExercise := goodIn_r _ [32, 2, 3, 5, 33, 34, 35, 22, 36, 24, 37, 38, 39, 40, 41, 42, 43, 44, 45, 46, 47, 48, 49, 25, 26, 27, 13, 28, 1, 139, 140, 141, 142, 143, 144, 145, 146, 147, 148, 149, 150, 151, 152, 153] (by decide +kernel) (by decide +kernel)
set_option maxRecDepth 20000 in
theorem gX11_step_X11_noExercise : GoodIn wsX11_step (wsV RX11 197 RX11 yX11_noExercise wsX11_noExercise) := goodIn_app (goodIn_of _ (by decide +kernel)) ggX11_step_X11_noExercise
set_option maxRecDepth 20000 in
theorem ggX11_step_Jx4a65c_get_915e3 : GoodIn wsX11_step wsJx4a65c_get_915e3 := goodIn_r _ [36, 24, 37, 38, 39, 40, 41, 42, 43, 44, 45, 46, 47, 22, 48, 49, 151, 152, 153] (by decide +kernel) (by decide +kernel)
set_option maxRecDepth 20000 in
theorem gX11_step_Jx4a65c_get_915e3 : GoodIn wsX11_step (wsV RX11 42 RJx4a65c yJx4a65c_get_915e3 wsJx4a65c_get_915e3) := goodIn_app (goodIn_of _ (by decide +kernel)) ggX11_step_Jx4a65c_get_915e3
set_option maxRecDepth 20000 in
theorem ggX11_step_X11_follows : GoodIn wsX11_step wsX11_follows := goodIn_ca (goodIn_r _ [52] (by decide +kernel) (by decide +kernel)) (goodIn_sub (fun _ h => List.mem_cons_of_mem _ (List.mem_append_left _ (List.mem_append_right _ h))) (by decide +kernel))
set_option maxRecDepth 20000 in
theorem gX11_step_X11_follows : GoodIn wsX11_step (va_wsS RX11 200 yX11_follows wsX11_follows) := goodIn_app (goodIn_of _ (by decide +kernel)) ggX11_step_X11_follows
set_option maxRecDepth 20000 in
theorem ggX11_step_X11_note : GoodIn wsX11_step wsX11_note := goodIn_ca (goodIn_r _ [56, 57, 58, 59, 60, 61, 62, 63, 64, 65, 66, 13, 67, 2, 3, 68, 33, 34, 35, 22, 36, 24, 37, 38, 39, 40, 41, 42, 43, 44, 45, 46, 47, 48, 49, 69, 70, 71, 72, 73, 74, 75, 76, 77, 78, 79, 80, 81, 82, 83, 84, 85, 86, 87, 88, 89, 90, 91, 92, 93, 94, 95, 96, 97, 98, 99, 100, 101, 102, 103, 104, 105, 106, 107, 108, 109, 110, 111, 112, 113, 114, 115, 116, 117, 118, 119, 120, 121, 122, 123, 124, 125, 126, 127, 128, 129, 130, 131, 132, 133, 134, 135, 136, 137, 138, 19, 20, 21, 23, 154, 155, 156, 157, 158, 159, 139, 140, 141, 142, 143, 144, 145, 146, 147, 148, 149, 150, 151, 152, 153, 160, 161, 162, 163] (by decide +kernel) (by decide +kernel)) (goodIn_sub (fun _ h => List.mem_cons_of_mem _ (List.mem_append_right _ h)) (by decide +kernel))
set_option maxRecDepth 20000 in
theorem gX11_step_X11_note : GoodIn wsX11_step (wsV RX11 130 RX11 yX11_note wsX11_note) := goodIn_app (goodIn_of _ (by decide +kernel)) ggX11_step_X11_note
set_option maxRecDepth 20000 in
theorem ggX11_done_X11_row : GoodIn wsX11_done wsX11_row := goodIn_ca (goodIn_r _ [4, 5] (by decide +kernel) (by decide +kernel)) (goodIn_sub (fun _ h => List.mem_cons_of_mem _ (List.mem_append_left _ (List.mem_append_right _ h))) (by decide +kernel))
set_option maxRecDepth 20000 in
theorem gX11_done_X11_row : GoodIn wsX11_done (va_wsS RX11 209 yX11_row wsX11_row) := goodIn_app (goodIn_of _ (by decide +kernel)) ggX11_done_X11_row
set_option maxRecDepth 20000 in
theorem ggX11_explained_X11_areSame : GoodIn wsX11_explained wsX11_areSame := goodIn_ca (goodIn_r _ [4] (by decide +kernel) (by decide +kernel)) (goodIn_sub (fun _ h => List.mem_cons_of_mem _ (List.mem_append_left _ (List.mem_append_right _ h))) (by decide +kernel))
set_option maxRecDepth 20000 in
theorem gX11_explained_X11_areSame : GoodIn wsX11_explained (va_wsS RX11 174 yX11_areSame wsX11_areSame) := goodIn_app (goodIn_of _ (by decide +kernel)) ggX11_explained_X11_areSame
set_option maxRecDepth 20000 in
theorem ggX11_explained_J6_bitCount_0f7a4 : GoodIn wsX11_explained wsJ6_bitCount_0f7a4 := goodIn_r _ [8, 9, 10, 11] (by decide +kernel) (by decide +kernel)
set_option maxRecDepth 20000 in
theorem gX11_explained_J6_bitCount_0f7a4 : GoodIn wsX11_explained (va_wsS RX11 212 yJ6_bitCount_0f7a4 wsJ6_bitCount_0f7a4) := goodIn_app (goodIn_of _ (by decide +kernel)) ggX11_explained_J6_bitCount_0f7a4
set_option maxRecDepth 20000 in
theorem ggX11_explained_X11_done : GoodIn wsX11_explained wsX11_done := goodIn_ca (goodIn_ca (goodIn_r _ [14, 15, 16, 3, 17, 18] (by decide +kernel) (by decide +kernel)) (goodIn_sub (fun _ h => List.mem_cons_of_mem _ (List.mem_append_left _ (List.mem_append_right _ h))) (by decide +kernel))) (goodIn_sub (fun _ h => List.mem_cons_of_mem _ (List.mem_append_right _ h)) (by decide +kernel))
set_option maxRecDepth 20000 in
theorem gX11_explained_X11_done : GoodIn wsX11_explained (va_wsS RX11 216 yX11_done wsX11_done) := goodIn_app (goodIn_of _ (by decide +kernel)) ggX11_explained_X11_done
set_option maxRecDepth 20000 in
theorem ggX11_explained_X11_explained : GoodIn wsX11_explained wsX11_explained := goodIn_ca (goodIn_ca (goodIn_r _ [0, 1, 2, 3, 4, 5, 6, 7, 8, 9, 10, 11, 12, 13, 14, 15, 16, 17, 18, 19, 20] (by decide +kernel) (by decide +kernel)) (goodIn_sub (fun _ h => List.mem_cons_of_mem _ (List.mem_append_left _ (List.mem_append_right _ h))) (by decide +kernel))) (goodIn_sub (fun _ h => List.mem_cons_of_mem _ (List.mem_append_right _ h)) (by decide +kernel))
set_option maxRecDepth 20000 in
theorem gX11_explained_X11_explained : GoodIn wsX11_explained (va_wsS RX11 220 yX11_explained wsX11_explained) := goodIn_app (goodIn_of _ (by decide +kernel)) ggX11_explained_X11_explained
set_option maxRecDepth 20000 in
theorem ggX11_explain_X11_noLearner : GoodIn wsX11_explain wsX11_noLearner := goodIn_r _ [10, 2, 11, 12, 13, 14, 15, 16, 17, 18, 9, 19, 61, 62, 63, 64, 73, 74, 75] (by decide +kernel) (by decide +kernel)
set_option maxRecDepth 20000 in
theorem gX11_explain_X11_noLearner : GoodIn wsX11_explain (wsV RX11 31 RX11 yX11_noLearner wsX11_noLearner) := goodIn_app (goodIn_of _ (by decide +kernel)) ggX11_explain_X11_noLearner
set_option maxRecDepth 20000 in
theorem ggX11_explain_X11_fails : GoodIn wsX11_explain wsX11_fails := goodIn_r _ [23, 1, 61, 62, 63, 64] (by decide +kernel) (by decide +kernel)
set_option maxRecDepth 20000 in
theorem gX11_explain_X11_fails : GoodIn wsX11_explain (wsV RX11 38 RX11 yX11_fails wsX11_fails) := goodIn_app (goodIn_of _ (by decide +kernel)) ggX11_explain_X11_fails
set_option maxRecDepth 20000 in
theorem ggX11_explain_Jx4a65c_get_915e3 : GoodIn wsX11_explain wsJx4a65c_get_915e3 := goodIn_r _ [27, 16, 28, 29, 30, 31, 32, 33, 34, 35, 36, 37, 38, 14, 39, 40, 73, 74, 75] (by decide +kernel) (by decide +kernel)
set_option maxRecDepth 20000 in
theorem gX11_explain_Jx4a65c_get_915e3 : GoodIn wsX11_explain (wsV RX11 42 RJx4a65c yJx4a65c_get_915e3 wsJx4a65c_get_915e3) := goodIn_app (goodIn_of _ (by decide +kernel)) ggX11_explain_Jx4a65c_get_915e3
set_option maxRecDepth 20000 in
theorem ggX11_explain_X11_explained : GoodIn wsX11_explain wsX11_explained := goodIn_ca (goodIn_ca (goodIn_r _ [43, 44, 45, 9, 46, 47, 48, 49, 50, 51, 52, 53, 54, 55, 56, 57, 58, 59, 60, 41, 42] (by decide +kernel) (by decide +kernel)) (goodIn_sub (fun _ h => List.mem_cons_of_mem _ (List.mem_append_left _ (List.mem_append_right _ h))) (by decide +kernel))) (goodIn_sub (fun _ h => List.mem_cons_of_mem _ (List.mem_append_right _ h)) (by decide +kernel))
set_option maxRecDepth 20000 in
theorem gX11_explain_X11_explained : GoodIn wsX11_explain (va_wsS RX11 220 yX11_explained wsX11_explained) := goodIn_app (goodIn_of _ (by decide +kernel)) ggX11_explain_X11_explained
set_option maxRecDepth 20000 in
theorem ggX11_hint_X11_noLearner : GoodIn wsX11_hint wsX11_noLearner := goodIn_r _ [11, 2, 12, 13, 14, 15, 16, 17, 18, 19, 10, 20, 55, 56, 57, 58, 67, 68, 69] (by decide +kernel) (by decide +kernel)
set_option maxRecDepth 20000 in
theorem gX11_hint_X11_noLearner : GoodIn wsX11_hint (wsV RX11 31 RX11 yX11_noLearner wsX11_noLearner) := goodIn_app (goodIn_of _ (by decide +kernel)) ggX11_hint_X11_noLearner
set_option maxRecDepth 20000 in
theorem ggX11_hint_X11_fails : GoodIn wsX11_hint wsX11_fails := goodIn_r _ [24, 1, 55, 56, 57, 58] (by decide +kernel) (by decide +kernel)
set_option maxRecDepth 20000 in
theorem gX11_hint_X11_fails : GoodIn wsX11_hint (wsV RX11 38 RX11 yX11_fails wsX11_fails) := goodIn_app (goodIn_of _ (by decide +kernel)) ggX11_hint_X11_fails
set_option maxRecDepth 20000 in
theorem ggX11_hint_X11_noExercise : GoodIn wsX11_hint wsX11_noExercise := goodIn_r _ [28, 2, 3, 6, 29, 30, 31, 15, 32, 17, 33, 34, 35, 36, 37, 38, 39, 40, 41, 42, 43, 44, 45, 21, 22, 23, 10, 24, 1, 55, 56, 57, 58, 59, 60, 61, 62, 63, 64, 65, 66, 67, 68, 69] (by decide +kernel) (by decide +kernel)
set_option maxRecDepth 20000 in
theorem gX11_hint_X11_noExercise : GoodIn wsX11_hint (wsV RX11 197 RX11 yX11_noExercise wsX11_noExercise) := goodIn_app (goodIn_of _ (by decide +kernel)) ggX11_hint_X11_noExercise
set_option maxRecDepth 20000 in
theorem ggX11_hint_Jx4a65c_get_915e3 : GoodIn wsX11_hint wsJx4a65c_get_915e3 := goodIn_r _ [32, 17, 33, 34, 35, 36, 37, 38, 39, 40, 41, 42, 43, 15, 44, 45, 67, 68, 69] (by decide +kernel) (by decide +kernel)
set_option maxRecDepth 20000 in
theorem gX11_hint_Jx4a65c_get_915e3 : GoodIn wsX11_hint (wsV RX11 42 RJx4a65c yJx4a65c_get_915e3 wsJx4a65c_get_915e3) := goodIn_app (goodIn_of _ (by decide +kernel)) ggX11_hint_Jx4a65c_get_915e3
set_option maxRecDepth 20000 in
theorem ggX11_hint_X11_done : GoodIn wsX11_hint wsX11_done := goodIn_ca (goodIn_ca (goodIn_r _ [48, 49, 50, 10, 51, 5] (by decide +kernel) (by decide +kernel)) (goodIn_sub (fun _ h => List.mem_cons_of_mem _ (List.mem_append_left _ (List.mem_append_right _ h))) (by decide +kernel))) (goodIn_sub (fun _ h => List.mem_cons_of_mem _ (List.mem_append_right _ h)) (by decide +kernel))
set_option maxRecDepth 20000 in
theorem gX11_hint_X11_done : GoodIn wsX11_hint (va_wsS RX11 216 yX11_done wsX11_done) := goodIn_app (goodIn_of _ (by decide +kernel)) ggX11_hint_X11_done
set_option maxRecDepth 20000 in
theorem ggX11_hint_X11_areSame : GoodIn wsX11_hint wsX11_areSame := goodIn_ca (goodIn_r _ [54] (by decide +kernel) (by decide +kernel)) (goodIn_sub (fun _ h => List.mem_cons_of_mem _ (List.mem_append_left _ (List.mem_append_right _ h))) (by decide +kernel))
set_option maxRecDepth 20000 in
theorem gX11_hint_X11_areSame : GoodIn wsX11_hint (va_wsS RX11 174 yX11_areSame wsX11_areSame) := goodIn_app (goodIn_of _ (by decide +kernel)) ggX11_hint_X11_areSame
set_option maxRecDepth 20000 in
theorem ggX11_faults_X11_noLearner : GoodIn wsX11_faults wsX11_noLearner := goodIn_r _ [10, 2, 11, 12, 13, 14, 15, 16, 17, 18, 9, 19, 46, 47, 48, 49, 58, 59, 60] (by decide +kernel) (by decide +kernel)
set_option maxRecDepth 20000 in
theorem gX11_faults_X11_noLearner : GoodIn wsX11_faults (wsV RX11 31 RX11 yX11_noLearner wsX11_noLearner) := goodIn_app (goodIn_of _ (by decide +kernel)) ggX11_faults_X11_noLearner
set_option maxRecDepth 20000 in
theorem ggX11_faults_X11_fails : GoodIn wsX11_faults wsX11_fails := goodIn_r _ [23, 1, 46, 47, 48, 49] (by decide +kernel) (by decide +kernel)
set_option maxRecDepth 20000 in
theorem gX11_faults_X11_fails : GoodIn wsX11_faults (wsV RX11 38 RX11 yX11_fails wsX11_fails) := goodIn_app (goodIn_of _ (by decide +kernel)) ggX11_faults_X11_fails
set_option maxRecDepth 20000 in
theorem ggX11_faults_X11_noExercise : GoodIn wsX11_faults wsX11_noExercise := goodIn_r _ [27, 2, 3, 28, 29, 30, 31, 14, 32, 16, 33, 34, 35, 36, 37, 38, 39, 40, 41, 42, 43, 44, 45, 20, 21, 22, 9, 23, 1, 46, 47, 48, 49, 50, 51, 52, 53, 54, 55, 56, 57, 58, 59, 60] (by decide +kernel) (by decide +kernel)
set_option maxRecDepth 20000 in
theorem gX11_faults_X11_noExercise : GoodIn wsX11_faults (wsV RX11 197 RX11 yX11_noExercise wsX11_noExercise) := goodIn_app (goodIn_of _ (by decide +kernel)) ggX11_faults_X11_noExercise
set_option maxRecDepth 20000 in
theorem ggX11_faults_Jx4a65c_get_915e3 : GoodIn wsX11_faults wsJx4a65c_get_915e3 := goodIn_r _ [32, 16, 33, 34, 35, 36, 37, 38, 39, 40, 41, 42, 43, 14, 44, 45, 58, 59, 60] (by decide +kernel) (by decide +kernel)
set_option maxRecDepth 20000 in
theorem gX11_faults_Jx4a65c_get_915e3 : GoodIn wsX11_faults (wsV RX11 42 RJx4a65c yJx4a65c_get_915e3 wsJx4a65c_get_915e3) := goodIn_app (goodIn_of _ (by decide +kernel)) ggX11_faults_Jx4a65c_get_915e3
set_option maxRecDepth 20000 in
theorem ggX11_checksum_Jx4a65c_iterator_32c93 : GoodIn wsX11_checksum wsJx4a65c_iterator_32c93 := goodIn_r _ [12, 13, 14, 15, 16, 17, 18, 19, 20, 21, 22, 23, 24, 25, 26, 64, 65, 66, 67, 68, 69, 70] (by decide +kernel) (by decide +kernel)
set_option maxRecDepth 20000 in
theorem gX11_checksum_Jx4a65c_iterator_32c93 : GoodIn wsX11_checksum (wsV RX11 134 RJx4a65c yJx4a65c_iterator_32c93 wsJx4a65c_iterator_32c93) := goodIn_app (goodIn_of _ (by decide +kernel)) ggX11_checksum_Jx4a65c_iterator_32c93
set_option maxRecDepth 20000 in
theorem ggX11_checksum_Jx35411_hasNext_aae02 : GoodIn wsX11_checksum wsJx35411_hasNext_aae02 := goodIn_r _ [30, 31, 19, 64, 65, 66, 67, 68, 69, 70] (by decide +kernel) (by decide +kernel)
set_option maxRecDepth 20000 in
theorem gX11_checksum_Jx35411_hasNext_aae02_f138Jx35411 : GoodIn wsX11_checksum (va_wsF RX11 138 RJx35411 ⟨"java/util/Iterator", "hasNext", "()Z"⟩ yJx35411_hasNext_aae02 wsJx35411_hasNext_aae02) := goodIn_app (goodIn_of _ (by decide +kernel)) ggX11_checksum_Jx35411_hasNext_aae02
set_option maxRecDepth 20000 in
theorem ggX11_checksum_Jx35411_next_0502b : GoodIn wsX11_checksum wsJx35411_next_0502b := goodIn_r _ [35, 31, 19, 36, 23, 37, 38, 39, 15, 40, 24, 25, 26, 64, 65, 66, 67, 68, 69, 70] (by decide +kernel) (by decide +kernel)
set_option maxRecDepth 20000 in
theorem gX11_checksum_Jx35411_next_0502b_f144Jx35411 : GoodIn wsX11_checksum (va_wsF RX11 144 RJx35411 ⟨"java/util/Iterator", "next", "()Ljava/lang/Object;"⟩ yJx35411_next_0502b wsJx35411_next_0502b) := goodIn_app (goodIn_of _ (by decide +kernel)) ggX11_checksum_Jx35411_next_0502b
set_option maxRecDepth 20000 in
theorem ggX11_checksum_Jx4a65c_size_8abf5 : GoodIn wsX11_checksum wsJx4a65c_size_8abf5 := goodIn_r _ [44, 45, 68, 69, 70] (by decide +kernel) (by decide +kernel)
set_option maxRecDepth 20000 in
theorem gX11_checksum_Jx4a65c_size_8abf5 : GoodIn wsX11_checksum (wsV RX11 23 RJx4a65c yJx4a65c_size_8abf5 wsJx4a65c_size_8abf5) := goodIn_app (goodIn_of _ (by decide +kernel)) ggX11_checksum_Jx4a65c_size_8abf5
set_option maxRecDepth 20000 in
theorem ggX11_knownShare_Jx4a65c_isEmpty_aae02 : GoodIn wsX11_knownShare wsJx4a65c_isEmpty_aae02 := goodIn_r _ [11, 12, 72, 73, 74] (by decide +kernel) (by decide +kernel)
set_option maxRecDepth 20000 in
theorem gX11_knownShare_Jx4a65c_isEmpty_aae02 : GoodIn wsX11_knownShare (wsV RX11 226 RJx4a65c yJx4a65c_isEmpty_aae02 wsJx4a65c_isEmpty_aae02) := goodIn_app (goodIn_of _ (by decide +kernel)) ggX11_knownShare_Jx4a65c_isEmpty_aae02
set_option maxRecDepth 20000 in
theorem ggX11_knownShare_X11_fails : GoodIn wsX11_knownShare wsX11_fails := goodIn_r _ [17, 1, 54, 55, 56, 57] (by decide +kernel) (by decide +kernel)
set_option maxRecDepth 20000 in
theorem gX11_knownShare_X11_fails : GoodIn wsX11_knownShare (wsV RX11 38 RX11 yX11_fails wsX11_fails) := goodIn_app (goodIn_of _ (by decide +kernel)) ggX11_knownShare_X11_fails
set_option maxRecDepth 20000 in
theorem ggX11_knownShare_Jx4a65c_iterator_32c93 : GoodIn wsX11_knownShare wsJx4a65c_iterator_32c93 := goodIn_r _ [21, 22, 23, 24, 25, 26, 27, 28, 29, 30, 31, 32, 33, 34, 35, 75, 76, 77, 78, 72, 73, 74] (by decide +kernel) (by decide +kernel)
set_option maxRecDepth 20000 in
theorem gX11_knownShare_Jx4a65c_iterator_32c93 : GoodIn wsX11_knownShare (wsV RX11 134 RJx4a65c yJx4a65c_iterator_32c93 wsJx4a65c_iterator_32c93) := goodIn_app (goodIn_of _ (by decide +kernel)) ggX11_knownShare_Jx4a65c_iterator_32c93
set_option maxRecDepth 20000 in
theorem ggX11_knownShare_Jx35411_hasNext_aae02 : GoodIn wsX11_knownShare wsJx35411_hasNext_aae02 := goodIn_r _ [39, 40, 28, 75, 76, 77, 78, 72, 73, 74] (by decide +kernel) (by decide +kernel)
set_option maxRecDepth 20000 in
theorem gX11_knownShare_Jx35411_hasNext_aae02_f138Jx35411 : GoodIn wsX11_knownShare (va_wsF RX11 138 RJx35411 ⟨"java/util/Iterator", "hasNext", "()Z"⟩ yJx35411_hasNext_aae02 wsJx35411_hasNext_aae02) := goodIn_app (goodIn_of _ (by decide +kernel)) ggX11_knownShare_Jx35411_hasNext_aae02
set_option maxRecDepth 20000 in
theorem ggX11_knownShare_Jx35411_next_0502b : GoodIn wsX11_knownShare wsJx35411_next_0502b := goodIn_r _ [44, 40, 28, 45, 32, 46, 47, 48, 24, 49, 33, 34, 35, 75, 76, 77, 78, 72, 73, 74] (by decide +kernel) (by decide +kernel)
set_option maxRecDepth 20000 in
theorem gX11_knownShare_Jx35411_next_0502b_f144Jx35411 : GoodIn wsX11_knownShare (va_wsF RX11 144 RJx35411 ⟨"java/util/Iterator", "next", "()Ljava/lang/Object;"⟩ yJx35411_next_0502b wsJx35411_next_0502b) := goodIn_app (goodIn_of _ (by decide +kernel)) ggX11_knownShare_Jx35411_next_0502b
set_option maxRecDepth 20000 in
theorem ggX11_knownShare_Jx4a65c_size_8abf5 : GoodIn wsX11_knownShare wsJx4a65c_size_8abf5 := goodIn_r _ [53, 12, 72, 73, 74] (by decide +kernel) (by decide +kernel)
set_option maxRecDepth 20000 in
theorem gX11_knownShare_Jx4a65c_size_8abf5 : GoodIn wsX11_knownShare (wsV RX11 23 RJx4a65c yJx4a65c_size_8abf5 wsJx4a65c_size_8abf5) := goodIn_app (goodIn_of _ (by decide +kernel)) ggX11_knownShare_Jx4a65c_size_8abf5
set_option maxRecDepth 20000 in
theorem ggX11_meanOdds_X11_noSkill : GoodIn wsX11_meanOdds wsX11_noSkill := goodIn_r _ [10, 11, 12, 13, 14, 15, 16, 17, 18, 19, 9, 20, 61, 62, 63, 64, 79, 80, 81] (by decide +kernel) (by decide +kernel)
set_option maxRecDepth 20000 in
theorem gX11_meanOdds_X11_noSkill : GoodIn wsX11_meanOdds (wsV RX11 35 RX11 yX11_noSkill wsX11_noSkill) := goodIn_app (goodIn_of _ (by decide +kernel)) ggX11_meanOdds_X11_noSkill
set_option maxRecDepth 20000 in
theorem ggX11_meanOdds_X11_fails : GoodIn wsX11_meanOdds wsX11_fails := goodIn_r _ [24, 1, 61, 62, 63, 64] (by decide +kernel) (by decide +kernel)
set_option maxRecDepth 20000 in
theorem gX11_meanOdds_X11_fails : GoodIn wsX11_meanOdds (wsV RX11 38 RX11 yX11_fails wsX11_fails) := goodIn_app (goodIn_of _ (by decide +kernel)) ggX11_meanOdds_X11_fails
set_option maxRecDepth 20000 in
theorem ggX11_meanOdds_Jx4a65c_isEmpty_aae02 : GoodIn wsX11_meanOdds wsJx4a65c_isEmpty_aae02 := goodIn_r _ [28, 17, 79, 80, 81] (by decide +kernel) (by decide +kernel)
set_option maxRecDepth 20000 in
theorem gX11_meanOdds_Jx4a65c_isEmpty_aae02 : GoodIn wsX11_meanOdds (wsV RX11 226 RJx4a65c yJx4a65c_isEmpty_aae02 wsJx4a65c_isEmpty_aae02) := goodIn_app (goodIn_of _ (by decide +kernel)) ggX11_meanOdds_Jx4a65c_isEmpty_aae02
set_option maxRecDepth 20000 in
theorem ggX11_meanOdds_Jx4a65c_iterator_32c93 : GoodIn wsX11_meanOdds wsJx4a65c_iterator_32c93 := goodIn_r _ [32, 33, 34, 35, 36, 37, 38, 39, 40, 41, 42, 43, 44, 45, 46, 82, 83, 84, 85, 79, 80, 81] (by decide +kernel) (by decide +kernel)
set_option maxRecDepth 20000 in
theorem gX11_meanOdds_Jx4a65c_iterator_32c93 : GoodIn wsX11_meanOdds (wsV RX11 134 RJx4a65c yJx4a65c_iterator_32c93 wsJx4a65c_iterator_32c93) := goodIn_app (goodIn_of _ (by decide +kernel)) ggX11_meanOdds_Jx4a65c_iterator_32c93
set_option maxRecDepth 20000 in
theorem ggX11_meanOdds_Jx35411_hasNext_aae02 : GoodIn wsX11_meanOdds wsJx35411_hasNext_aae02 := goodIn_r _ [50, 51, 39, 82, 83, 84, 85, 79, 80, 81] (by decide +kernel) (by decide +kernel)
set_option maxRecDepth 20000 in
theorem gX11_meanOdds_Jx35411_hasNext_aae02_f138Jx35411 : GoodIn wsX11_meanOdds (va_wsF RX11 138 RJx35411 ⟨"java/util/Iterator", "hasNext", "()Z"⟩ yJx35411_hasNext_aae02 wsJx35411_hasNext_aae02) := goodIn_app (goodIn_of _ (by decide +kernel)) ggX11_meanOdds_Jx35411_hasNext_aae02
set_option maxRecDepth 20000 in
theorem ggX11_meanOdds_Jx35411_next_0502b : GoodIn wsX11_meanOdds wsJx35411_next_0502b := goodIn_r _ [55, 51, 39, 56, 43, 57, 58, 59, 35, 60, 44, 45, 46, 82, 83, 84, 85, 79, 80, 81] (by decide +kernel) (by decide +kernel)
set_option maxRecDepth 20000 in
theorem gX11_meanOdds_Jx35411_next_0502b_f144Jx35411 : GoodIn wsX11_meanOdds (va_wsF RX11 144 RJx35411 ⟨"java/util/Iterator", "next", "()Ljava/lang/Object;"⟩ yJx35411_next_0502b wsJx35411_next_0502b) := goodIn_app (goodIn_of _ (by decide +kernel)) ggX11_meanOdds_Jx35411_next_0502b
set_option maxRecDepth 20000 in
theorem ggX11_meanOdds_Jx4a65c_size_8abf5 : GoodIn wsX11_meanOdds wsJx4a65c_size_8abf5 := goodIn_r _ [16, 17, 79, 80, 81] (by decide +kernel) (by decide +kernel)
set_option maxRecDepth 20000 in
theorem gX11_meanOdds_Jx4a65c_size_8abf5 : GoodIn wsX11_meanOdds (wsV RX11 23 RJx4a65c yJx4a65c_size_8abf5 wsJx4a65c_size_8abf5) := goodIn_app (goodIn_of _ (by decide +kernel)) ggX11_meanOdds_Jx4a65c_size_8abf5
set_option maxRecDepth 20000 in
theorem ggJ6_valueOf_2dffe_J6_init_d00df : GoodIn wsJ6_valueOf_2dffe wsJ6_init_d00df := goodIn_r _ [8, 9, 10, 11, 12, 13, 14, 15, 16, 17] (by decide +kernel) (by decide +kernel)
set_option maxRecDepth 20000 in
theorem gJ6_valueOf_2dffe_J6_init_d00df : GoodIn wsJ6_valueOf_2dffe (wsJ6_init_d00df) := ggJ6_valueOf_2dffe_J6_init_d00df
set_option maxRecDepth 20000 in
theorem ggJ6_init_d00df_Jxd2413_init_da8c8 : GoodIn wsJ6_init_d00df wsJxd2413_init_da8c8 := goodIn_r _ [5, 6, 7, 8] (by decide +kernel) (by decide +kernel)
set_option maxRecDepth 20000 in
theorem gJ6_init_d00df_Jxd2413_init_da8c8 : GoodIn wsJ6_init_d00df (wsJxd2413_init_da8c8) := ggJ6_init_d00df_Jxd2413_init_da8c8
set_option maxRecDepth 20000 in
theorem ggJxc12de_init_da8c8_Jxa1e45_init_da8c8 : GoodIn wsJxc12de_init_da8c8 wsJxa1e45_init_da8c8 := goodIn_r _ [5, 6, 7, 8] (by decide +kernel) (by decide +kernel)
set_option maxRecDepth 20000 in
theorem gJxc12de_init_da8c8_Jxa1e45_init_da8c8 : GoodIn wsJxc12de_init_da8c8 (wsJxa1e45_init_da8c8) := ggJxc12de_init_da8c8_Jxa1e45_init_da8c8
set_option maxRecDepth 20000 in
theorem ggJx35411_next_0502b_Jx35411_checkForComodification_da8c8 : GoodIn wsJx35411_next_0502b wsJx35411_checkForComodification_da8c8 := goodIn_r _ [9, 2, 10, 11, 12, 13, 14, 15, 16, 17, 18, 19] (by decide +kernel) (by decide +kernel)
set_option maxRecDepth 20000 in
theorem gJx35411_next_0502b_Jx35411_checkForComodification_da8c8 : GoodIn wsJx35411_next_0502b (wsV RJx35411 31 RJx35411 yJx35411_checkForComodification_da8c8 wsJx35411_checkForComodification_da8c8) := goodIn_app (goodIn_of _ (by decide +kernel)) ggJx35411_next_0502b_Jx35411_checkForComodification_da8c8
set_option maxRecDepth 20000 in
theorem ggJx4a65c_init_da8c8_Jxc12de_init_da8c8 : GoodIn wsJx4a65c_init_da8c8 wsJxc12de_init_da8c8 := goodIn_r _ [6, 7, 8, 9, 10, 11, 12, 13, 14, 15, 16, 17] (by decide +kernel) (by decide +kernel)
set_option maxRecDepth 20000 in
theorem gJx4a65c_init_da8c8_Jxc12de_init_da8c8 : GoodIn wsJx4a65c_init_da8c8 (wsJxc12de_init_da8c8) := ggJx4a65c_init_da8c8_Jxc12de_init_da8c8
set_option maxRecDepth 20000 in
theorem ggJx4a65c_grow_92f84_J8_newLength_cabcc : GoodIn wsJx4a65c_grow_92f84 wsJ8_newLength_cabcc := goodIn_r _ [11, 12, 4, 5, 6, 13, 14, 15, 10, 16] (by decide +kernel) (by decide +kernel)
set_option maxRecDepth 20000 in
theorem gJx4a65c_grow_92f84_J8_newLength_cabcc : GoodIn wsJx4a65c_grow_92f84 (va_wsS RJx4a65c 73 yJ8_newLength_cabcc wsJ8_newLength_cabcc) := goodIn_app (goodIn_of _ (by decide +kernel)) ggJx4a65c_grow_92f84_J8_newLength_cabcc
set_option maxRecDepth 20000 in
theorem ggJx4a65c_grow_92f84_J7_copyOf_1904c : GoodIn wsJx4a65c_grow_92f84 wsJ7_copyOf_1904c := goodIn_r _ [20, 21, 22, 23, 24, 25, 26, 19, 27, 28, 29, 30, 31, 5, 32, 33, 34, 35, 36] (by decide +kernel) (by decide +kernel)
set_option maxRecDepth 20000 in
theorem gJx4a65c_grow_92f84_J7_copyOf_1904c : GoodIn wsJx4a65c_grow_92f84 (va_wsS RJx4a65c 66 yJ7_copyOf_1904c wsJ7_copyOf_1904c) := goodIn_app (goodIn_of _ (by decide +kernel)) ggJx4a65c_grow_92f84_J7_copyOf_1904c
set_option maxRecDepth 20000 in
theorem ggJx4a65c_grow_d5877_Jx4a65c_grow_92f84 : GoodIn wsJx4a65c_grow_d5877 wsJx4a65c_grow_92f84 := goodIn_r _ [6, 7, 8, 9, 10, 11, 12, 13, 14, 15, 16, 17, 18, 19, 20, 21, 22, 23, 24, 25, 26, 27, 28, 29, 30, 31, 32, 33, 34, 35, 36, 37, 38, 39, 40, 41, 42, 43, 44, 45] (by decide +kernel) (by decide +kernel)
set_option maxRecDepth 20000 in
theorem gJx4a65c_grow_d5877_Jx4a65c_grow_92f84 : GoodIn wsJx4a65c_grow_d5877 (wsV RJx4a65c 69 RJx4a65c yJx4a65c_grow_92f84 wsJx4a65c_grow_92f84) := goodIn_app (goodIn_of _ (by decide +kernel)) ggJx4a65c_grow_d5877_Jx4a65c_grow_92f84
set_option maxRecDepth 20000 in
theorem ggJx4a65c_get_915e3_J15_checkIndex_7cf53 : GoodIn wsJx4a65c_get_915e3 wsJ15_checkIndex_7cf53 := goodIn_r _ [5, 6, 7, 8, 9] (by decide +kernel) (by decide +kernel)
set_option maxRecDepth 20000 in
theorem gJx4a65c_get_915e3_J15_checkIndex_7cf53 : GoodIn wsJx4a65c_get_915e3 (va_wsS RJx4a65c 118 yJ15_checkIndex_7cf53 wsJ15_checkIndex_7cf53) := goodIn_app (goodIn_of _ (by decide +kernel)) ggJx4a65c_get_915e3_J15_checkIndex_7cf53
set_option maxRecDepth 20000 in
theorem ggJx4a65c_get_915e3_Jx4a65c_elementData_915e3 : GoodIn wsJx4a65c_get_915e3 wsJx4a65c_elementData_915e3 := goodIn_r _ [14, 15, 16, 17, 18] (by decide +kernel) (by decide +kernel)
set_option maxRecDepth 20000 in
theorem gJx4a65c_get_915e3_Jx4a65c_elementData_915e3 : GoodIn wsJx4a65c_get_915e3 (wsV RJx4a65c 123 RJx4a65c yJx4a65c_elementData_915e3 wsJx4a65c_elementData_915e3) := goodIn_app (goodIn_of _ (by decide +kernel)) ggJx4a65c_get_915e3_Jx4a65c_elementData_915e3
set_option maxRecDepth 20000 in
theorem ggJx4a65c_add_72be8_Jx4a65c_grow_d5877 : GoodIn wsJx4a65c_add_72be8 wsJx4a65c_grow_d5877 := goodIn_r _ [6, 1, 7, 8, 9, 5, 10, 11, 12, 13, 14, 15, 16, 17, 18, 19, 20, 21, 22, 23, 24, 25, 26, 27, 28, 29, 30, 31, 32, 33, 34, 35, 36, 37, 38, 39, 40, 41, 42, 43, 44, 45, 46, 47, 48, 49] (by decide +kernel) (by decide +kernel)
set_option maxRecDepth 20000 in
theorem gJx4a65c_add_72be8_Jx4a65c_grow_d5877 : GoodIn wsJx4a65c_add_72be8 (wsV RJx4a65c 129 RJx4a65c yJx4a65c_grow_d5877 wsJx4a65c_grow_d5877) := goodIn_app (goodIn_of _ (by decide +kernel)) ggJx4a65c_add_72be8_Jx4a65c_grow_d5877
set_option maxRecDepth 20000 in
theorem ggJx4a65c_add_9ea2d_Jx4a65c_add_72be8 : GoodIn wsJx4a65c_add_9ea2d wsJx4a65c_add_72be8 := goodIn_r _ [9, 4, 10, 11, 12, 8, 13, 14, 15, 16, 17, 3, 18, 19, 20, 21, 22, 23, 24, 25, 26, 27, 28, 29, 30, 31, 32, 33, 34, 35, 36, 37, 38, 39, 40, 41, 42, 43, 44, 45, 46, 47, 48, 49, 50, 51, 52, 53, 54, 55] (by decide +kernel) (by decide +kernel)
set_option maxRecDepth 20000 in
theorem gJx4a65c_add_9ea2d_Jx4a65c_add_72be8 : GoodIn wsJx4a65c_add_9ea2d (wsV RJx4a65c 131 RJx4a65c yJx4a65c_add_72be8 wsJx4a65c_add_72be8) := goodIn_app (goodIn_of _ (by decide +kernel)) ggJx4a65c_add_9ea2d_Jx4a65c_add_72be8
set_option maxRecDepth 20000 in
theorem ggJx4a65c_iterator_32c93_Jx35411_init_45d68 : GoodIn wsJx4a65c_iterator_32c93 wsJx35411_init_45d68 := goodIn_r _ [6, 7, 8, 9, 10, 11, 12, 13, 14, 15, 16, 17, 18, 19, 20, 21] (by decide +kernel) (by decide +kernel)
set_option maxRecDepth 20000 in
theorem gJx4a65c_iterator_32c93_Jx35411_init_45d68 : GoodIn wsJx4a65c_iterator_32c93 (wsJx35411_init_45d68) := ggJx4a65c_iterator_32c93_Jx35411_init_45d68
set_option maxRecDepth 20000 in
theorem ggJ7_copyOf_1904c_J7_copyOf_6403c : GoodIn wsJ7_copyOf_1904c wsJ7_copyOf_6403c := goodIn_r _ [8, 9, 10, 11, 12, 13, 14, 15, 16, 17, 18] (by decide +kernel) (by decide +kernel)
set_option maxRecDepth 20000 in
theorem gJ7_copyOf_1904c_J7_copyOf_6403c : GoodIn wsJ7_copyOf_1904c (va_wsS RJ7 300 yJ7_copyOf_6403c wsJ7_copyOf_6403c) := goodIn_app (goodIn_of _ (by decide +kernel)) ggJ7_copyOf_1904c_J7_copyOf_6403c
set_option maxRecDepth 20000 in
theorem ggJ15_checkIndex_7cf53_J3_checkIndex_8e157 : GoodIn wsJ15_checkIndex_7cf53 wsJ3_checkIndex_8e157 := goodIn_r _ [4] (by decide +kernel) (by decide +kernel)
set_option maxRecDepth 20000 in
theorem gJ15_checkIndex_7cf53_J3_checkIndex_8e157 : GoodIn wsJ15_checkIndex_7cf53 (va_wsS RJ15 105 yJ3_checkIndex_8e157 wsJ3_checkIndex_8e157) := goodIn_app (goodIn_of _ (by decide +kernel)) ggJ15_checkIndex_7cf53_J3_checkIndex_8e157
set_option maxRecDepth 20000 in
theorem ggJ8_newLength_cabcc_J8_hugeLength_7cf53 : GoodIn wsJ8_newLength_cabcc wsJ8_hugeLength_7cf53 := goodIn_r _ [9, 5] (by decide +kernel) (by decide +kernel)
set_option maxRecDepth 20000 in
theorem gJ8_newLength_cabcc_J8_hugeLength_7cf53 : GoodIn wsJ8_newLength_cabcc (va_wsS RJ8 201 yJ8_hugeLength_7cf53 wsJ8_hugeLength_7cf53) := goodIn_app (goodIn_of _ (by decide +kernel)) ggJ8_newLength_cabcc_J8_hugeLength_7cf53
