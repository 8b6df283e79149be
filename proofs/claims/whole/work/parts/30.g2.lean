set_option maxRecDepth 20000 in
theorem ggX6_tagged_X6_fails : GoodIn wsX6_tagged wsX6_fails := goodIn_r _ [9, 10, 11, 12, 13, 14, 15, 16, 17, 18, 19, 20, 21, 22, 23, 24, 25, 26, 27, 28, 29, 30, 31, 32, 33] (by decide +kernel) (by decide +kernel)
set_option maxRecDepth 20000 in
theorem gX6_tagged_X6_fails : GoodIn wsX6_tagged (wsV RX6 87 RX6 yX6_fails wsX6_fails) := goodIn_app (goodIn_of _ (by decide +kernel)) ggX6_tagged_X6_fails
set_option maxRecDepth 20000 in
theorem ggX6_commits_X6_tells : GoodIn wsX6_commits wsX6_tells := goodIn_r _ [6, 7, 8, 9, 10, 11, 12, 13, 14, 15, 16, 17, 18, 19, 20, 21, 22, 23, 24, 25, 26, 27, 28, 29, 30] (by decide +kernel) (by decide +kernel)
set_option maxRecDepth 20000 in
theorem gX6_commits_X6_tells : GoodIn wsX6_commits (wsV RX6 137 RX6 yX6_tells wsX6_tells) := goodIn_app (goodIn_of _ (by decide +kernel)) ggX6_commits_X6_tells
set_option maxRecDepth 20000 in
theorem ggX6_parents_X6_isNone : GoodIn wsX6_parents wsX6_isNone := goodIn_r _ [5, 6, 7, 8, 4, 9, 10, 11, 12, 13, 14, 15, 16, 17, 18, 25, 26, 27, 28, 29, 30, 31, 32, 33, 34, 35, 36, 37, 38, 39, 40, 41, 42, 43, 44, 45, 46, 47] (by decide +kernel) (by decide +kernel)
set_option maxRecDepth 20000 in
theorem gX6_parents_X6_isNone : GoodIn wsX6_parents (wsV RX6 105 RX6 yX6_isNone wsX6_isNone) := goodIn_app (goodIn_of _ (by decide +kernel)) ggX6_parents_X6_isNone
set_option maxRecDepth 20000 in
theorem ggX6_parents_X6_parentsOf : GoodIn wsX6_parents wsX6_parentsOf := goodIn_r _ [22, 23, 24, 25, 26, 27, 28, 29, 30, 31, 32, 33, 34, 35, 36, 37, 38, 39, 40, 41, 42, 43, 44, 45, 46, 47] (by decide +kernel) (by decide +kernel)
set_option maxRecDepth 20000 in
theorem gX6_parents_X6_parentsOf : GoodIn wsX6_parents (wsV RX6 140 RX6 yX6_parentsOf wsX6_parentsOf) := goodIn_app (goodIn_of _ (by decide +kernel)) ggX6_parents_X6_parentsOf
set_option maxRecDepth 20000 in
theorem ggX6_parentAt_X6_isNone : GoodIn wsX6_parentAt wsX6_isNone := goodIn_r _ [7, 8, 9, 10, 6, 11, 12, 13, 14, 15, 16, 17, 18, 19, 20, 25, 26, 27, 28, 29, 30, 31, 32, 33, 34, 35, 36, 37, 38, 39, 40, 41, 42, 43, 44, 45, 46, 47] (by decide +kernel) (by decide +kernel)
set_option maxRecDepth 20000 in
theorem gX6_parentAt_X6_isNone : GoodIn wsX6_parentAt (wsV RX6 105 RX6 yX6_isNone wsX6_isNone) := goodIn_app (goodIn_of _ (by decide +kernel)) ggX6_parentAt_X6_isNone
set_option maxRecDepth 20000 in
theorem ggX6_parentAt_X6_parentsOf : GoodIn wsX6_parentAt wsX6_parentsOf := goodIn_r _ [24, 1, 2, 25, 26, 27, 28, 29, 30, 31, 32, 33, 34, 35, 36, 37, 38, 39, 40, 41, 42, 43, 44, 45, 46, 47] (by decide +kernel) (by decide +kernel)
set_option maxRecDepth 20000 in
theorem gX6_parentAt_X6_parentsOf : GoodIn wsX6_parentAt (wsV RX6 140 RX6 yX6_parentsOf wsX6_parentsOf) := goodIn_app (goodIn_of _ (by decide +kernel)) ggX6_parentAt_X6_parentsOf
set_option maxRecDepth 20000 in
theorem ggX6_parentAt_X6_in : GoodIn wsX6_parentAt wsX6_in := goodIn_r _ [15] (by decide +kernel) (by decide +kernel)
set_option maxRecDepth 20000 in
theorem gX6_parentAt_X6_in : GoodIn wsX6_parentAt (va_wsS RX6 79 yX6_in wsX6_in) := goodIn_app (goodIn_of _ (by decide +kernel)) ggX6_parentAt_X6_in
set_option maxRecDepth 20000 in
theorem ggX6_parentAt_X6_fails : GoodIn wsX6_parentAt wsX6_fails := goodIn_r _ [19, 20, 25, 26, 27, 28, 29, 30, 31, 32, 33, 34, 35, 36, 37, 38, 39, 40, 41, 42, 43, 44, 45, 46, 47] (by decide +kernel) (by decide +kernel)
set_option maxRecDepth 20000 in
theorem gX6_parentAt_X6_fails : GoodIn wsX6_parentAt (wsV RX6 87 RX6 yX6_fails wsX6_fails) := goodIn_app (goodIn_of _ (by decide +kernel)) ggX6_parentAt_X6_fails
set_option maxRecDepth 20000 in
theorem ggX6_isOld_X6_has : GoodIn wsX6_isOld wsX6_has := goodIn_r _ [6] (by decide +kernel) (by decide +kernel)
set_option maxRecDepth 20000 in
theorem gX6_isOld_X6_has : GoodIn wsX6_isOld (va_wsS RX6 90 yX6_has wsX6_has) := goodIn_app (goodIn_of _ (by decide +kernel)) ggX6_isOld_X6_has
set_option maxRecDepth 20000 in
theorem ggX6_isNoPair_X6_isNoCommit : GoodIn wsX6_isNoPair wsX6_isNoCommit := goodIn_r _ [5, 6, 7, 8, 4, 9, 15, 16, 17, 18, 19, 20, 21, 22, 23, 24, 25, 26, 27, 28, 29, 30, 31, 32, 33, 34, 35, 36, 37] (by decide +kernel) (by decide +kernel)
set_option maxRecDepth 20000 in
theorem gX6_isNoPair_X6_isNoCommit : GoodIn wsX6_isNoPair (wsV RX6 83 RX6 yX6_isNoCommit wsX6_isNoCommit) := goodIn_app (goodIn_of _ (by decide +kernel)) ggX6_isNoPair_X6_isNoCommit
set_option maxRecDepth 20000 in
theorem ggX6_isNoPair_X6_fails : GoodIn wsX6_isNoPair wsX6_fails := goodIn_r _ [13, 14, 15, 16, 17, 18, 19, 20, 21, 22, 23, 24, 25, 26, 27, 28, 29, 30, 31, 32, 33, 34, 35, 36, 37] (by decide +kernel) (by decide +kernel)
set_option maxRecDepth 20000 in
theorem gX6_isNoPair_X6_fails : GoodIn wsX6_isNoPair (wsV RX6 87 RX6 yX6_fails wsX6_fails) := goodIn_app (goodIn_of _ (by decide +kernel)) ggX6_isNoPair_X6_fails
set_option maxRecDepth 20000 in
theorem ggX6_isAncestor_X6_isNoPair : GoodIn wsX6_isAncestor wsX6_isNoPair := goodIn_r _ [5, 6, 7, 8, 4, 9, 10, 11, 12, 13, 14, 15, 16, 17, 18, 28, 29, 30, 31, 32, 33, 34, 35, 36, 37, 38, 39, 40, 41, 42, 43, 44, 45, 46, 47, 48, 49, 50] (by decide +kernel) (by decide +kernel)
set_option maxRecDepth 20000 in
theorem gX6_isAncestor_X6_isNoPair : GoodIn wsX6_isAncestor (wsV RX6 143 RX6 yX6_isNoPair wsX6_isNoPair) := goodIn_app (goodIn_of _ (by decide +kernel)) ggX6_isAncestor_X6_isNoPair
set_option maxRecDepth 20000 in
theorem ggX6_isAncestor_X6_isOld : GoodIn wsX6_isAncestor wsX6_isOld := goodIn_r _ [22, 23, 24, 25, 26, 4, 27, 28, 29, 30, 31, 32, 33, 34, 35, 36, 37, 38, 39, 40, 41, 42, 43, 44, 45, 46, 47, 48, 49, 50] (by decide +kernel) (by decide +kernel)
set_option maxRecDepth 20000 in
theorem gX6_isAncestor_X6_isOld : GoodIn wsX6_isAncestor (wsV RX6 146 RX6 yX6_isOld wsX6_isOld) := goodIn_app (goodIn_of _ (by decide +kernel)) ggX6_isAncestor_X6_isOld
set_option maxRecDepth 20000 in
theorem ggX6_baseOf_X6_isOld : GoodIn wsX6_baseOf wsX6_isOld := goodIn_r _ [5, 6, 7, 8, 9, 4, 10, 11, 12, 13, 14, 15, 16, 17, 18, 19, 20, 21, 22, 23, 24, 25, 26, 27, 28, 29, 30, 31, 32, 33] (by decide +kernel) (by decide +kernel)
set_option maxRecDepth 20000 in
theorem gX6_baseOf_X6_isOld : GoodIn wsX6_baseOf (wsV RX6 146 RX6 yX6_isOld wsX6_isOld) := goodIn_app (goodIn_of _ (by decide +kernel)) ggX6_baseOf_X6_isOld
set_option maxRecDepth 20000 in
theorem ggX6_base_X6_isNoPair : GoodIn wsX6_base wsX6_isNoPair := goodIn_r _ [5, 6, 7, 8, 4, 9, 10, 11, 12, 13, 14, 15, 16, 17, 18, 32, 33, 34, 35, 36, 37, 38, 39, 40, 41, 42, 43, 44, 45, 46, 47, 48, 49, 50, 51, 52, 53, 54] (by decide +kernel) (by decide +kernel)
set_option maxRecDepth 20000 in
theorem gX6_base_X6_isNoPair : GoodIn wsX6_base (wsV RX6 143 RX6 yX6_isNoPair wsX6_isNoPair) := goodIn_app (goodIn_of _ (by decide +kernel)) ggX6_base_X6_isNoPair
set_option maxRecDepth 20000 in
theorem ggX6_base_X6_baseOf : GoodIn wsX6_base wsX6_baseOf := goodIn_r _ [22, 23, 24, 25, 4, 26, 27, 28, 29, 30, 31, 32, 33, 34, 35, 36, 37, 38, 39, 40, 41, 42, 43, 44, 45, 46, 47, 48, 49, 50, 51, 52, 53, 54] (by decide +kernel) (by decide +kernel)
set_option maxRecDepth 20000 in
theorem gX6_base_X6_baseOf : GoodIn wsX6_base (wsV RX6 149 RX6 yX6_baseOf wsX6_baseOf) := goodIn_app (goodIn_of _ (by decide +kernel)) ggX6_base_X6_baseOf
set_option maxRecDepth 20000 in
theorem ggX6_isNoPlace_X6_isNoCommit : GoodIn wsX6_isNoPlace wsX6_isNoCommit := goodIn_r _ [5, 6, 7, 8, 4, 9, 20, 21, 22, 23, 24, 25, 26, 27, 28, 29, 30, 31, 32, 33, 34, 35, 36, 37, 38, 39, 40, 41, 42] (by decide +kernel) (by decide +kernel)
set_option maxRecDepth 20000 in
theorem gX6_isNoPlace_X6_isNoCommit : GoodIn wsX6_isNoPlace (wsV RX6 83 RX6 yX6_isNoCommit wsX6_isNoCommit) := goodIn_app (goodIn_of _ (by decide +kernel)) ggX6_isNoPlace_X6_isNoCommit
set_option maxRecDepth 20000 in
theorem ggX6_isNoPlace_X6_isNoItem : GoodIn wsX6_isNoPlace wsX6_isNoItem := goodIn_r _ [13, 14, 7, 8, 4, 9, 20, 21, 22, 23, 24, 25, 26, 27, 28, 29, 30, 31, 32, 33, 34, 35, 36, 37, 38, 39, 40, 41, 42] (by decide +kernel) (by decide +kernel)
set_option maxRecDepth 20000 in
theorem gX6_isNoPlace_X6_isNoItem : GoodIn wsX6_isNoPlace (wsV RX6 102 RX6 yX6_isNoItem wsX6_isNoItem) := goodIn_app (goodIn_of _ (by decide +kernel)) ggX6_isNoPlace_X6_isNoItem
set_option maxRecDepth 20000 in
theorem ggX6_isNoPlace_X6_fails : GoodIn wsX6_isNoPlace wsX6_fails := goodIn_r _ [18, 19, 20, 21, 22, 23, 24, 25, 26, 27, 28, 29, 30, 31, 32, 33, 34, 35, 36, 37, 38, 39, 40, 41, 42] (by decide +kernel) (by decide +kernel)
set_option maxRecDepth 20000 in
theorem gX6_isNoPlace_X6_fails : GoodIn wsX6_isNoPlace (wsV RX6 87 RX6 yX6_fails wsX6_fails) := goodIn_app (goodIn_of _ (by decide +kernel)) ggX6_isNoPlace_X6_fails
set_option maxRecDepth 20000 in
theorem ggX6_sides_X6_isNoPlace : GoodIn wsX6_sides wsX6_isNoPlace := goodIn_r _ [5, 6, 7, 8, 4, 9, 10, 11, 12, 13, 14, 15, 16, 17, 18, 19, 20, 21, 22, 23, 41, 42, 43, 44, 45, 46, 47, 48, 49, 50, 51, 52, 53, 54, 55, 56, 57, 58, 59, 60, 61, 62, 63] (by decide +kernel) (by decide +kernel)
set_option maxRecDepth 20000 in
theorem gX6_sides_X6_isNoPlace : GoodIn wsX6_sides (wsV RX6 152 RX6 yX6_isNoPlace wsX6_isNoPlace) := goodIn_app (goodIn_of _ (by decide +kernel)) ggX6_sides_X6_isNoPlace
set_option maxRecDepth 20000 in
theorem ggX6_sides_X6_sidesIn : GoodIn wsX6_sides wsX6_sidesIn := goodIn_r _ [27, 28, 29, 30, 31, 4, 32, 33, 34, 35, 36, 37, 38, 39, 40, 41, 42, 43, 44, 45, 46, 47, 48, 49, 50, 51, 52, 53, 54, 55, 56, 57, 58, 59, 60, 61, 62, 63] (by decide +kernel) (by decide +kernel)
set_option maxRecDepth 20000 in
theorem gX6_sides_X6_sidesIn : GoodIn wsX6_sides (wsV RX6 130 RX6 yX6_sidesIn wsX6_sidesIn) := goodIn_app (goodIn_of _ (by decide +kernel)) ggX6_sides_X6_sidesIn
set_option maxRecDepth 20000 in
theorem ggX6_asked_X6_isNoPlace : GoodIn wsX6_asked wsX6_isNoPlace := goodIn_r _ [8, 9, 10, 11, 7, 12, 13, 14, 15, 16, 17, 18, 19, 20, 21, 22, 23, 24, 25, 26, 46, 47, 48, 49, 50, 51, 52, 53, 54, 55, 56, 57, 58, 59, 60, 61, 62, 63, 64, 65, 66, 67, 68] (by decide +kernel) (by decide +kernel)
set_option maxRecDepth 20000 in
theorem gX6_asked_X6_isNoPlace : GoodIn wsX6_asked (wsV RX6 152 RX6 yX6_isNoPlace wsX6_isNoPlace) := goodIn_app (goodIn_of _ (by decide +kernel)) ggX6_asked_X6_isNoPlace
set_option maxRecDepth 20000 in
theorem ggX6_asked_X6_sidesIn : GoodIn wsX6_asked wsX6_sidesIn := goodIn_r _ [30, 2, 3, 31, 32, 7, 33, 34, 35, 36, 37, 38, 39, 40, 41, 46, 47, 48, 49, 50, 51, 52, 53, 54, 55, 56, 57, 58, 59, 60, 61, 62, 63, 64, 65, 66, 67, 68] (by decide +kernel) (by decide +kernel)
set_option maxRecDepth 20000 in
theorem gX6_asked_X6_sidesIn : GoodIn wsX6_asked (wsV RX6 130 RX6 yX6_sidesIn wsX6_sidesIn) := goodIn_app (goodIn_of _ (by decide +kernel)) ggX6_asked_X6_sidesIn
set_option maxRecDepth 20000 in
theorem ggX6_asked_X6_in : GoodIn wsX6_asked wsX6_in := goodIn_r _ [16] (by decide +kernel) (by decide +kernel)
set_option maxRecDepth 20000 in
theorem gX6_asked_X6_in : GoodIn wsX6_asked (va_wsS RX6 79 yX6_in wsX6_in) := goodIn_app (goodIn_of _ (by decide +kernel)) ggX6_asked_X6_in
set_option maxRecDepth 20000 in
theorem ggX6_asked_X6_fails : GoodIn wsX6_asked wsX6_fails := goodIn_r _ [25, 26, 46, 47, 48, 49, 50, 51, 52, 53, 54, 55, 56, 57, 58, 59, 60, 61, 62, 63, 64, 65, 66, 67, 68] (by decide +kernel) (by decide +kernel)
set_option maxRecDepth 20000 in
theorem gX6_asked_X6_fails : GoodIn wsX6_asked (wsV RX6 87 RX6 yX6_fails wsX6_fails) := goodIn_app (goodIn_of _ (by decide +kernel)) ggX6_asked_X6_fails
set_option maxRecDepth 20000 in
theorem ggX6_asked_X6_at : GoodIn wsX6_asked wsX6_at := goodIn_r _ [33] (by decide +kernel) (by decide +kernel)
set_option maxRecDepth 20000 in
theorem gX6_asked_X6_at : GoodIn wsX6_asked (va_wsS RX6 94 yX6_at wsX6_at) := goodIn_app (goodIn_of _ (by decide +kernel)) ggX6_asked_X6_at
set_option maxRecDepth 20000 in
theorem ggX6_asked_X6_sideOf : GoodIn wsX6_asked wsX6_sideOf := goodIn_r _ [45, 38, 1, 39, 40, 7, 41, 46, 47, 48, 49, 50, 51, 52, 53, 54, 55, 56, 57, 58, 59, 60, 61, 62, 63, 64, 65, 66, 67, 68] (by decide +kernel) (by decide +kernel)
set_option maxRecDepth 20000 in
theorem gX6_asked_X6_sideOf : GoodIn wsX6_asked (wsV RX6 133 RX6 yX6_sideOf wsX6_sideOf) := goodIn_app (goodIn_of _ (by decide +kernel)) ggX6_asked_X6_sideOf
set_option maxRecDepth 20000 in
theorem ggX6_sideAt_X6_asked : GoodIn wsX6_sideAt wsX6_asked := goodIn_r _ [5, 6, 7, 8, 9, 10, 11, 4, 12, 13, 14, 15, 16, 17, 18, 19, 20, 21, 22, 23, 24, 25, 26, 27, 28, 29, 30, 31, 32, 33, 34, 35, 36, 37, 38, 39, 40, 41, 42, 43, 44, 45, 46, 47, 48, 49, 50, 51, 52, 53, 54, 55, 56, 57, 58, 59, 60, 61, 62, 63, 64, 65, 66, 67, 68, 69, 70, 71, 72] (by decide +kernel) (by decide +kernel)
set_option maxRecDepth 20000 in
theorem gX6_sideAt_X6_asked : GoodIn wsX6_sideAt (wsV RX6 155 RX6 yX6_asked wsX6_asked) := goodIn_app (goodIn_of _ (by decide +kernel)) ggX6_sideAt_X6_asked
set_option maxRecDepth 20000 in
theorem ggX6_sideByLog_X6_asked : GoodIn wsX6_sideByLog wsX6_asked := goodIn_r _ [5, 6, 7, 8, 9, 10, 11, 4, 12, 13, 14, 15, 16, 17, 18, 19, 20, 21, 22, 23, 24, 25, 26, 27, 28, 29, 30, 31, 32, 33, 34, 35, 36, 37, 38, 39, 40, 41, 42, 43, 44, 45, 46, 47, 48, 49, 50, 51, 52, 53, 54, 55, 56, 57, 58, 59, 60, 61, 62, 63, 64, 65, 66, 67, 68, 69, 70, 71, 72] (by decide +kernel) (by decide +kernel)
set_option maxRecDepth 20000 in
theorem gX6_sideByLog_X6_asked : GoodIn wsX6_sideByLog (wsV RX6 155 RX6 yX6_asked wsX6_asked) := goodIn_app (goodIn_of _ (by decide +kernel)) ggX6_sideByLog_X6_asked
set_option maxRecDepth 20000 in
theorem ggX6_conflictsIn_X6_sidesIn : GoodIn wsX6_conflictsIn wsX6_sidesIn := goodIn_r _ [6, 7, 8, 9, 10, 5, 11, 12, 13, 14, 15, 16, 17, 18, 19, 20, 21, 22, 23, 24, 25, 26, 27, 28, 29, 30, 31, 32, 33, 34, 35, 36, 37, 38, 39, 40, 41, 42] (by decide +kernel) (by decide +kernel)
set_option maxRecDepth 20000 in
theorem gX6_conflictsIn_X6_sidesIn : GoodIn wsX6_conflictsIn (wsV RX6 130 RX6 yX6_sidesIn wsX6_sidesIn) := goodIn_app (goodIn_of _ (by decide +kernel)) ggX6_conflictsIn_X6_sidesIn
set_option maxRecDepth 20000 in
theorem ggX6_conflicts_X6_isNone : GoodIn wsX6_conflicts wsX6_isNone := goodIn_r _ [5, 6, 7, 8, 4, 9, 10, 11, 12, 13, 14, 15, 16, 17, 18, 41, 42, 43, 44, 45, 46, 47, 48, 49, 50, 51, 52, 53, 54, 55, 56, 57, 58, 59, 60, 61, 62, 63] (by decide +kernel) (by decide +kernel)
set_option maxRecDepth 20000 in
theorem gX6_conflicts_X6_isNone : GoodIn wsX6_conflicts (wsV RX6 105 RX6 yX6_isNone wsX6_isNone) := goodIn_app (goodIn_of _ (by decide +kernel)) ggX6_conflicts_X6_isNone
set_option maxRecDepth 20000 in
theorem ggX6_conflicts_X6_conflictsIn : GoodIn wsX6_conflicts wsX6_conflictsIn := goodIn_r _ [22, 23, 24, 25, 26, 4, 27, 28, 29, 30, 31, 32, 33, 34, 35, 36, 37, 38, 39, 40, 41, 42, 43, 44, 45, 46, 47, 48, 49, 50, 51, 52, 53, 54, 55, 56, 57, 58, 59, 60, 61, 62, 63] (by decide +kernel) (by decide +kernel)
set_option maxRecDepth 20000 in
theorem gX6_conflicts_X6_conflictsIn : GoodIn wsX6_conflicts (wsV RX6 158 RX6 yX6_conflictsIn wsX6_conflictsIn) := goodIn_app (goodIn_of _ (by decide +kernel)) ggX6_conflicts_X6_conflictsIn
set_option maxRecDepth 20000 in
theorem ggX6_firstConflict_X6_isNone : GoodIn wsX6_firstConflict wsX6_isNone := goodIn_r _ [7, 8, 9, 10, 6, 11, 12, 13, 14, 15, 16, 17, 18, 19, 2, 37, 38, 39, 40, 41, 42, 43, 44, 45, 46, 47, 48, 49, 50, 51, 52, 53, 54, 55, 56, 57, 58, 59] (by decide +kernel) (by decide +kernel)
set_option maxRecDepth 20000 in
theorem gX6_firstConflict_X6_isNone : GoodIn wsX6_firstConflict (wsV RX6 105 RX6 yX6_isNone wsX6_isNone) := goodIn_app (goodIn_of _ (by decide +kernel)) ggX6_firstConflict_X6_isNone
set_option maxRecDepth 20000 in
theorem ggX6_firstConflict_X6_sidesIn : GoodIn wsX6_firstConflict wsX6_sidesIn := goodIn_r _ [23, 24, 25, 26, 27, 6, 28, 29, 30, 31, 32, 33, 34, 35, 36, 37, 38, 39, 40, 41, 42, 43, 44, 45, 46, 47, 48, 49, 50, 51, 52, 53, 54, 55, 56, 57, 58, 59] (by decide +kernel) (by decide +kernel)
set_option maxRecDepth 20000 in
theorem gX6_firstConflict_X6_sidesIn : GoodIn wsX6_firstConflict (wsV RX6 130 RX6 yX6_sidesIn wsX6_sidesIn) := goodIn_app (goodIn_of _ (by decide +kernel)) ggX6_firstConflict_X6_sidesIn
set_option maxRecDepth 20000 in
theorem ggX6_differences_X6_isNoPair : GoodIn wsX6_differences wsX6_isNoPair := goodIn_r _ [6, 7, 8, 9, 5, 10, 11, 12, 13, 14, 15, 16, 17, 18, 19, 29, 30, 31, 32, 33, 34, 35, 36, 37, 38, 39, 40, 41, 42, 43, 44, 45, 46, 47, 48, 49, 50, 51] (by decide +kernel) (by decide +kernel)
set_option maxRecDepth 20000 in
theorem gX6_differences_X6_isNoPair : GoodIn wsX6_differences (wsV RX6 143 RX6 yX6_isNoPair wsX6_isNoPair) := goodIn_app (goodIn_of _ (by decide +kernel)) ggX6_differences_X6_isNoPair
set_option maxRecDepth 20000 in
theorem ggX6_differences_X6_isSame : GoodIn wsX6_differences wsX6_isSame := goodIn_r _ [23, 24, 25, 26, 27, 5, 28, 29, 30, 31, 32, 33, 34, 35, 36, 37, 38, 39, 40, 41, 42, 43, 44, 45, 46, 47, 48, 49, 50, 51] (by decide +kernel) (by decide +kernel)
set_option maxRecDepth 20000 in
theorem gX6_differences_X6_isSame : GoodIn wsX6_differences (wsV RX6 161 RX6 yX6_isSame wsX6_isSame) := goodIn_app (goodIn_of _ (by decide +kernel)) ggX6_differences_X6_isSame
set_option maxRecDepth 20000 in
theorem ggX6_blameOf_X6_isSame : GoodIn wsX6_blameOf wsX6_isSame := goodIn_r _ [7, 8, 9, 10, 11, 6, 12, 13, 14, 15, 16, 17, 18, 19, 20, 21, 22, 23, 24, 25, 26, 27, 28, 29, 30, 31, 32, 33, 34, 35] (by decide +kernel) (by decide +kernel)
set_option maxRecDepth 20000 in
theorem gX6_blameOf_X6_isSame : GoodIn wsX6_blameOf (wsV RX6 161 RX6 yX6_isSame wsX6_isSame) := goodIn_app (goodIn_of _ (by decide +kernel)) ggX6_blameOf_X6_isSame
set_option maxRecDepth 20000 in
theorem ggX6_blame_X6_isNoPlace : GoodIn wsX6_blame wsX6_isNoPlace := goodIn_r _ [5, 6, 7, 8, 4, 9, 10, 11, 12, 13, 14, 15, 16, 17, 18, 19, 20, 21, 22, 23, 39, 40, 41, 42, 43, 44, 45, 46, 47, 48, 49, 50, 51, 52, 53, 54, 55, 56, 57, 58, 59, 60, 61] (by decide +kernel) (by decide +kernel)
set_option maxRecDepth 20000 in
theorem gX6_blame_X6_isNoPlace : GoodIn wsX6_blame (wsV RX6 152 RX6 yX6_isNoPlace wsX6_isNoPlace) := goodIn_app (goodIn_of _ (by decide +kernel)) ggX6_blame_X6_isNoPlace
set_option maxRecDepth 20000 in
theorem ggX6_blame_X6_blameOf : GoodIn wsX6_blame wsX6_blameOf := goodIn_r _ [27, 28, 29, 30, 31, 32, 4, 33, 34, 35, 36, 37, 38, 39, 40, 41, 42, 43, 44, 45, 46, 47, 48, 49, 50, 51, 52, 53, 54, 55, 56, 57, 58, 59, 60, 61] (by decide +kernel) (by decide +kernel)
set_option maxRecDepth 20000 in
theorem gX6_blame_X6_blameOf : GoodIn wsX6_blame (wsV RX6 164 RX6 yX6_blameOf wsX6_blameOf) := goodIn_app (goodIn_of _ (by decide +kernel)) ggX6_blame_X6_blameOf
set_option maxRecDepth 20000 in
theorem ggX6_blamed_X6_isNoPair : GoodIn wsX6_blamed wsX6_isNoPair := goodIn_r _ [6, 7, 8, 9, 5, 10, 11, 12, 13, 14, 15, 16, 17, 18, 19, 35, 36, 37, 38, 39, 40, 41, 42, 43, 44, 45, 46, 47, 48, 49, 50, 51, 52, 53, 54, 55, 56, 57] (by decide +kernel) (by decide +kernel)
set_option maxRecDepth 20000 in
theorem gX6_blamed_X6_isNoPair : GoodIn wsX6_blamed (wsV RX6 143 RX6 yX6_isNoPair wsX6_isNoPair) := goodIn_app (goodIn_of _ (by decide +kernel)) ggX6_blamed_X6_isNoPair
set_option maxRecDepth 20000 in
theorem ggX6_blamed_X6_blameOf : GoodIn wsX6_blamed wsX6_blameOf := goodIn_r _ [23, 24, 25, 26, 27, 28, 5, 29, 30, 31, 32, 33, 34, 35, 36, 37, 38, 39, 40, 41, 42, 43, 44, 45, 46, 47, 48, 49, 50, 51, 52, 53, 54, 55, 56, 57] (by decide +kernel) (by decide +kernel)
set_option maxRecDepth 20000 in
theorem gX6_blamed_X6_blameOf : GoodIn wsX6_blamed (wsV RX6 164 RX6 yX6_blameOf wsX6_blameOf) := goodIn_app (goodIn_of _ (by decide +kernel)) ggX6_blamed_X6_blameOf
set_option maxRecDepth 20000 in
theorem ggX6_isWrong_X6_count : GoodIn wsX6_isWrong wsX6_count := goodIn_r _ [7, 8, 9, 10, 6, 11, 16, 17, 18, 19, 20, 21, 22, 23, 24, 25, 26, 27, 28, 29, 30, 31, 32, 33, 34, 35, 36, 37, 38] (by decide +kernel) (by decide +kernel)
set_option maxRecDepth 20000 in
theorem gX6_isWrong_X6_count : GoodIn wsX6_isWrong (wsV RX6 98 RX6 yX6_count wsX6_count) := goodIn_app (goodIn_of _ (by decide +kernel)) ggX6_isWrong_X6_count
set_option maxRecDepth 20000 in
theorem ggX6_isWrong_X6_sideOf : GoodIn wsX6_isWrong wsX6_sideOf := goodIn_r _ [15, 8, 1, 9, 10, 6, 11, 16, 17, 18, 19, 20, 21, 22, 23, 24, 25, 26, 27, 28, 29, 30, 31, 32, 33, 34, 35, 36, 37, 38] (by decide +kernel) (by decide +kernel)
set_option maxRecDepth 20000 in
theorem gX6_isWrong_X6_sideOf : GoodIn wsX6_isWrong (wsV RX6 133 RX6 yX6_sideOf wsX6_sideOf) := goodIn_app (goodIn_of _ (by decide +kernel)) ggX6_isWrong_X6_sideOf
set_option maxRecDepth 20000 in
theorem ggX6_isWrongIn_X6_at : GoodIn wsX6_isWrongIn wsX6_at := goodIn_r _ [8] (by decide +kernel) (by decide +kernel)
set_option maxRecDepth 20000 in
theorem gX6_isWrongIn_X6_at : GoodIn wsX6_isWrongIn (va_wsS RX6 94 yX6_at wsX6_at) := goodIn_app (goodIn_of _ (by decide +kernel)) ggX6_isWrongIn_X6_at
set_option maxRecDepth 20000 in
theorem ggX6_isWrongIn_X6_isWrong : GoodIn wsX6_isWrongIn wsX6_isWrong := goodIn_r _ [12, 13, 14, 15, 16, 17, 7, 18, 19, 20, 21, 22, 23, 24, 25, 26, 27, 28, 29, 30, 31, 32, 33, 34, 35, 36, 37, 38, 39, 40, 41, 42, 43, 44, 45, 46, 47, 48, 49] (by decide +kernel) (by decide +kernel)
set_option maxRecDepth 20000 in
theorem gX6_isWrongIn_X6_isWrong : GoodIn wsX6_isWrongIn (wsV RX6 167 RX6 yX6_isWrong wsX6_isWrong) := goodIn_app (goodIn_of _ (by decide +kernel)) ggX6_isWrongIn_X6_isWrong
set_option maxRecDepth 20000 in
theorem ggX6_isOpenIn_X6_sidesIn : GoodIn wsX6_isOpenIn wsX6_sidesIn := goodIn_r _ [7, 8, 9, 10, 11, 6, 12, 13, 14, 15, 16, 17, 18, 19, 20, 21, 22, 23, 24, 25, 26, 27, 28, 29, 30, 31, 32, 33, 34, 35, 36, 37, 38, 39, 40, 41, 42, 43] (by decide +kernel) (by decide +kernel)
set_option maxRecDepth 20000 in
theorem gX6_isOpenIn_X6_sidesIn : GoodIn wsX6_isOpenIn (wsV RX6 130 RX6 yX6_sidesIn wsX6_sidesIn) := goodIn_app (goodIn_of _ (by decide +kernel)) ggX6_isOpenIn_X6_sidesIn
set_option maxRecDepth 20000 in
theorem ggX6_unites_X6_at : GoodIn wsX6_unites wsX6_at := goodIn_r _ [8] (by decide +kernel) (by decide +kernel)
set_option maxRecDepth 20000 in
theorem gX6_unites_X6_at : GoodIn wsX6_unites (va_wsS RX6 94 yX6_at wsX6_at) := goodIn_app (goodIn_of _ (by decide +kernel)) ggX6_unites_X6_at
set_option maxRecDepth 20000 in
theorem ggX6_merges_X6_baseOf : GoodIn wsX6_merges wsX6_baseOf := goodIn_r _ [11, 12, 13, 14, 10, 15, 16, 17, 18, 19, 20, 61, 62, 63, 64, 65, 66, 67, 68, 69, 70, 71, 72, 73, 74, 75, 76, 77, 78, 79, 80, 81, 82, 83] (by decide +kernel) (by decide +kernel)
set_option maxRecDepth 20000 in
theorem gX6_merges_X6_baseOf : GoodIn wsX6_merges (wsV RX6 149 RX6 yX6_baseOf wsX6_baseOf) := goodIn_app (goodIn_of _ (by decide +kernel)) ggX6_merges_X6_baseOf
set_option maxRecDepth 20000 in
theorem ggX6_merges_X6_isSame : GoodIn wsX6_merges wsX6_isSame := goodIn_r _ [24, 25, 26, 27, 28, 10, 29, 61, 62, 63, 64, 65, 66, 67, 68, 69, 70, 71, 72, 73, 74, 75, 76, 77, 78, 79, 80, 81, 82, 83] (by decide +kernel) (by decide +kernel)
set_option maxRecDepth 20000 in
theorem gX6_merges_X6_isSame : GoodIn wsX6_merges (wsV RX6 161 RX6 yX6_isSame wsX6_isSame) := goodIn_app (goodIn_of _ (by decide +kernel)) ggX6_merges_X6_isSame
set_option maxRecDepth 20000 in
theorem ggX6_merges_X6_unites : GoodIn wsX6_merges wsX6_unites := goodIn_r _ [33, 5, 25, 6, 26, 27, 28, 10, 29, 61, 62, 63, 64, 65, 66, 67, 68, 69, 70, 71, 72, 73, 74, 75, 76, 77, 78, 79, 80, 81, 82, 83] (by decide +kernel) (by decide +kernel)
set_option maxRecDepth 20000 in
theorem gX6_merges_X6_unites : GoodIn wsX6_merges (wsV RX6 171 RX6 yX6_unites wsX6_unites) := goodIn_app (goodIn_of _ (by decide +kernel)) ggX6_merges_X6_unites
set_option maxRecDepth 20000 in
theorem ggX6_merges_X6_isWrongIn : GoodIn wsX6_merges wsX6_isWrongIn := goodIn_r _ [37, 3, 4, 25, 26, 27, 28, 10, 29, 38, 39, 40, 41, 42, 43, 44, 45, 46, 47, 48, 18, 19, 20, 49, 50, 51, 52, 61, 62, 63, 64, 65, 66, 67, 68, 69, 70, 71, 72, 73, 74, 75, 76, 77, 78, 79, 80, 81, 82, 83] (by decide +kernel) (by decide +kernel)
set_option maxRecDepth 20000 in
theorem gX6_merges_X6_isWrongIn : GoodIn wsX6_merges (wsV RX6 178 RX6 yX6_isWrongIn wsX6_isWrongIn) := goodIn_app (goodIn_of _ (by decide +kernel)) ggX6_merges_X6_isWrongIn
set_option maxRecDepth 20000 in
theorem ggX6_merges_X6_isOpenIn : GoodIn wsX6_merges wsX6_isOpenIn := goodIn_r _ [56, 3, 4, 57, 58, 59, 10, 60, 25, 26, 27, 28, 29, 44, 45, 46, 47, 48, 18, 19, 20, 61, 62, 63, 64, 65, 66, 67, 68, 69, 70, 71, 72, 73, 74, 75, 76, 77, 78, 79, 80, 81, 82, 83] (by decide +kernel) (by decide +kernel)
set_option maxRecDepth 20000 in
theorem gX6_merges_X6_isOpenIn : GoodIn wsX6_merges (wsV RX6 181 RX6 yX6_isOpenIn wsX6_isOpenIn) := goodIn_app (goodIn_of _ (by decide +kernel)) ggX6_merges_X6_isOpenIn
set_option maxRecDepth 20000 in
theorem ggX6_merges_X6_isWrong : GoodIn wsX6_merges wsX6_isWrong := goodIn_r _ [41, 42, 43, 44, 45, 46, 10, 47, 48, 18, 19, 20, 49, 50, 51, 52, 61, 62, 63, 64, 65, 66, 67, 68, 69, 70, 71, 72, 73, 74, 75, 76, 77, 78, 79, 80, 81, 82, 83] (by decide +kernel) (by decide +kernel)
set_option maxRecDepth 20000 in
theorem gX6_merges_X6_isWrong : GoodIn wsX6_merges (wsV RX6 167 RX6 yX6_isWrong wsX6_isWrong) := goodIn_app (goodIn_of _ (by decide +kernel)) ggX6_merges_X6_isWrong
set_option maxRecDepth 20000 in
theorem ggX6_takes_X6_at : GoodIn wsX6_takes wsX6_at := goodIn_r _ [9] (by decide +kernel) (by decide +kernel)
set_option maxRecDepth 20000 in
theorem gX6_takes_X6_at : GoodIn wsX6_takes (va_wsS RX6 94 yX6_at wsX6_at) := goodIn_app (goodIn_of _ (by decide +kernel)) ggX6_takes_X6_at
set_option maxRecDepth 20000 in
theorem ggX6_isNoBranches_X6_isNoBranch : GoodIn wsX6_isNoBranches wsX6_isNoBranch := goodIn_r _ [5, 6, 7, 8, 4, 9, 15, 16, 17, 18, 19, 20, 21, 22, 23, 24, 25, 26, 27, 28, 29, 30, 31, 32, 33, 34, 35, 36, 37] (by decide +kernel) (by decide +kernel)
set_option maxRecDepth 20000 in
theorem gX6_isNoBranches_X6_isNoBranch : GoodIn wsX6_isNoBranches (wsV RX6 108 RX6 yX6_isNoBranch wsX6_isNoBranch) := goodIn_app (goodIn_of _ (by decide +kernel)) ggX6_isNoBranches_X6_isNoBranch
set_option maxRecDepth 20000 in
theorem ggX6_isNoBranches_X6_fails : GoodIn wsX6_isNoBranches wsX6_fails := goodIn_r _ [13, 14, 15, 16, 17, 18, 19, 20, 21, 22, 23, 24, 25, 26, 27, 28, 29, 30, 31, 32, 33, 34, 35, 36, 37] (by decide +kernel) (by decide +kernel)
set_option maxRecDepth 20000 in
theorem gX6_isNoBranches_X6_fails : GoodIn wsX6_isNoBranches (wsV RX6 87 RX6 yX6_fails wsX6_fails) := goodIn_app (goodIn_of _ (by decide +kernel)) ggX6_isNoBranches_X6_fails
set_option maxRecDepth 20000 in
theorem ggX6_merge_X6_isNoBranches : GoodIn wsX6_merge wsX6_isNoBranches := goodIn_r _ [6, 7, 8, 9, 5, 10, 11, 12, 13, 14, 15, 16, 17, 18, 19, 98, 99, 100, 101, 102, 103, 104, 105, 106, 107, 108, 109, 110, 111, 112, 113, 114, 115, 116, 117, 118, 119, 120] (by decide +kernel) (by decide +kernel)
set_option maxRecDepth 20000 in
theorem gX6_merge_X6_isNoBranches : GoodIn wsX6_merge (wsV RX6 184 RX6 yX6_isNoBranches wsX6_isNoBranches) := goodIn_app (goodIn_of _ (by decide +kernel)) ggX6_merge_X6_isNoBranches
set_option maxRecDepth 20000 in
theorem ggX6_merge_X6_isOld : GoodIn wsX6_merge wsX6_isOld := goodIn_r _ [23, 24, 25, 26, 27, 5, 28, 98, 99, 100, 101, 102, 103, 104, 105, 106, 107, 108, 109, 110, 111, 112, 113, 114, 115, 116, 117, 118, 119, 120] (by decide +kernel) (by decide +kernel)
set_option maxRecDepth 20000 in
theorem gX6_merge_X6_isOld : GoodIn wsX6_merge (wsV RX6 146 RX6 yX6_isOld wsX6_isOld) := goodIn_app (goodIn_of _ (by decide +kernel)) ggX6_merge_X6_isOld
set_option maxRecDepth 20000 in
theorem ggX6_merge_X6_full : GoodIn wsX6_merge wsX6_full := goodIn_r _ [32, 33, 98, 99, 100, 101, 102, 103, 104, 105, 106, 107, 108, 109, 110, 111, 112, 113, 114, 115, 116, 117, 118, 119, 120] (by decide +kernel) (by decide +kernel)
set_option maxRecDepth 20000 in
theorem gX6_merge_X6_full : GoodIn wsX6_merge (wsV RX6 118 RX6 yX6_full wsX6_full) := goodIn_app (goodIn_of _ (by decide +kernel)) ggX6_merge_X6_full
set_option maxRecDepth 20000 in
theorem ggX6_merge_X6_fails : GoodIn wsX6_merge wsX6_fails := goodIn_r _ [18, 19, 98, 99, 100, 101, 102, 103, 104, 105, 106, 107, 108, 109, 110, 111, 112, 113, 114, 115, 116, 117, 118, 119, 120] (by decide +kernel) (by decide +kernel)
set_option maxRecDepth 20000 in
theorem gX6_merge_X6_fails : GoodIn wsX6_merge (wsV RX6 87 RX6 yX6_fails wsX6_fails) := goodIn_app (goodIn_of _ (by decide +kernel)) ggX6_merge_X6_fails
set_option maxRecDepth 20000 in
theorem ggX6_merge_X6_merges : GoodIn wsX6_merge wsX6_merges := goodIn_r _ [37, 38, 39, 40, 41, 42, 43, 44, 45, 46, 5, 47, 20, 21, 22, 23, 24, 25, 26, 27, 28, 48, 49, 50, 51, 52, 53, 54, 55, 56, 57, 58, 59, 60, 61, 62, 63, 64, 65, 66, 67, 68, 69, 70, 71, 72, 73, 74, 75, 76, 77, 78, 79, 80, 81, 82, 83, 84, 85, 86, 87, 98, 99, 100, 101, 102, 103, 104, 105, 106, 107, 108, 109, 110, 111, 112, 113, 114, 115, 116, 117, 118, 119, 120] (by decide +kernel) (by decide +kernel)
set_option maxRecDepth 20000 in
theorem gX6_merge_X6_merges : GoodIn wsX6_merge (wsV RX6 187 RX6 yX6_merges wsX6_merges) := goodIn_app (goodIn_of _ (by decide +kernel)) ggX6_merge_X6_merges
set_option maxRecDepth 20000 in
theorem ggX6_merge_X6_makes : GoodIn wsX6_merge wsX6_makes := goodIn_r _ [91, 1, 38, 52, 33, 53, 92, 93, 24, 25, 54, 55, 5, 56, 98, 99, 100, 101, 102, 103, 104, 105, 106, 107, 108, 109, 110, 111, 112, 113, 114, 115, 116, 117, 118, 119, 120] (by decide +kernel) (by decide +kernel)
set_option maxRecDepth 20000 in
theorem gX6_merge_X6_makes : GoodIn wsX6_merge (wsV RX6 111 RX6 yX6_makes wsX6_makes) := goodIn_app (goodIn_of _ (by decide +kernel)) ggX6_merge_X6_makes
set_option maxRecDepth 20000 in
theorem ggX6_merge_X6_takes : GoodIn wsX6_merge wsX6_takes := goodIn_r _ [97, 38, 52, 42, 53, 43, 54, 55, 5, 56, 98, 99, 100, 101, 102, 103, 104, 105, 106, 107, 108, 109, 110, 111, 112, 113, 114, 115, 116, 117, 118, 119, 120] (by decide +kernel) (by decide +kernel)
set_option maxRecDepth 20000 in
theorem gX6_merge_X6_takes : GoodIn wsX6_merge (wsV RX6 191 RX6 yX6_takes wsX6_takes) := goodIn_app (goodIn_of _ (by decide +kernel)) ggX6_merge_X6_takes
set_option maxRecDepth 20000 in
theorem ggX6_wouldConflict_X6_isNoBranches : GoodIn wsX6_wouldConflict wsX6_isNoBranches := goodIn_r _ [9, 10, 11, 12, 8, 13, 14, 15, 16, 17, 18, 19, 20, 21, 22, 83, 84, 85, 86, 87, 88, 89, 90, 91, 92, 93, 94, 95, 96, 97, 98, 99, 100, 101, 102, 103, 104, 105] (by decide +kernel) (by decide +kernel)
set_option maxRecDepth 20000 in
theorem gX6_wouldConflict_X6_isNoBranches : GoodIn wsX6_wouldConflict (wsV RX6 184 RX6 yX6_isNoBranches wsX6_isNoBranches) := goodIn_app (goodIn_of _ (by decide +kernel)) ggX6_wouldConflict_X6_isNoBranches
set_option maxRecDepth 20000 in
theorem ggX6_wouldConflict_X6_merges : GoodIn wsX6_wouldConflict wsX6_merges := goodIn_r _ [26, 2, 27, 28, 29, 3, 4, 30, 31, 32, 8, 33, 34, 35, 36, 37, 38, 39, 40, 41, 42, 43, 44, 45, 46, 47, 48, 49, 50, 51, 52, 53, 54, 55, 56, 57, 58, 59, 60, 61, 62, 63, 64, 65, 66, 67, 68, 69, 70, 71, 72, 73, 74, 75, 76, 77, 78, 79, 80, 81, 82, 83, 84, 85, 86, 87, 88, 89, 90, 91, 92, 93, 94, 95, 96, 97, 98, 99, 100, 101, 102, 103, 104, 105] (by decide +kernel) (by decide +kernel)
set_option maxRecDepth 20000 in
theorem gX6_wouldConflict_X6_merges : GoodIn wsX6_wouldConflict (wsV RX6 187 RX6 yX6_merges wsX6_merges) := goodIn_app (goodIn_of _ (by decide +kernel)) ggX6_wouldConflict_X6_merges
set_option maxRecDepth 20000 in
theorem ggX6_wouldConflict_X6_count : GoodIn wsX6_wouldConflict wsX6_count := goodIn_r _ [69, 70, 40, 41, 8, 42, 83, 84, 85, 86, 87, 88, 89, 90, 91, 92, 93, 94, 95, 96, 97, 98, 99, 100, 101, 102, 103, 104, 105] (by decide +kernel) (by decide +kernel)
set_option maxRecDepth 20000 in
theorem gX6_wouldConflict_X6_count : GoodIn wsX6_wouldConflict (wsV RX6 98 RX6 yX6_count wsX6_count) := goodIn_app (goodIn_of _ (by decide +kernel)) ggX6_wouldConflict_X6_count
set_option maxRecDepth 20000 in
theorem ggX6_isAlike_X6_isNoBranches : GoodIn wsX6_isAlike wsX6_isNoBranches := goodIn_r _ [11, 12, 13, 14, 10, 15, 16, 17, 18, 19, 20, 21, 22, 23, 24, 85, 86, 87, 88, 89, 90, 91, 92, 93, 94, 95, 96, 97, 98, 99, 100, 101, 102, 103, 104, 105, 106, 107] (by decide +kernel) (by decide +kernel)
set_option maxRecDepth 20000 in
theorem gX6_isAlike_X6_isNoBranches : GoodIn wsX6_isAlike (wsV RX6 184 RX6 yX6_isNoBranches wsX6_isNoBranches) := goodIn_app (goodIn_of _ (by decide +kernel)) ggX6_isAlike_X6_isNoBranches
set_option maxRecDepth 20000 in
theorem ggX6_isAlike_X6_merges : GoodIn wsX6_isAlike wsX6_merges := goodIn_r _ [28, 2, 29, 30, 31, 4, 6, 32, 33, 34, 10, 35, 36, 37, 38, 39, 40, 41, 42, 43, 44, 45, 46, 47, 48, 49, 50, 51, 52, 53, 54, 55, 56, 57, 58, 59, 60, 61, 62, 63, 64, 65, 66, 67, 68, 69, 70, 71, 72, 73, 74, 75, 76, 77, 78, 79, 80, 81, 82, 83, 84, 85, 86, 87, 88, 89, 90, 91, 92, 93, 94, 95, 96, 97, 98, 99, 100, 101, 102, 103, 104, 105, 106, 107] (by decide +kernel) (by decide +kernel)
set_option maxRecDepth 20000 in
theorem gX6_isAlike_X6_merges : GoodIn wsX6_isAlike (wsV RX6 187 RX6 yX6_merges wsX6_merges) := goodIn_app (goodIn_of _ (by decide +kernel)) ggX6_isAlike_X6_merges
set_option maxRecDepth 20000 in
theorem ggX6_pick_X6_isNoBranch : GoodIn wsX6_pick wsX6_isNoBranch := goodIn_r _ [8, 9, 10, 11, 7, 12, 57, 58, 59, 60, 61, 62, 63, 64, 65, 66, 67, 68, 69, 70, 71, 72, 73, 74, 75, 76, 77, 78, 79] (by decide +kernel) (by decide +kernel)
set_option maxRecDepth 20000 in
theorem gX6_pick_X6_isNoBranch : GoodIn wsX6_pick (wsV RX6 108 RX6 yX6_isNoBranch wsX6_isNoBranch) := goodIn_app (goodIn_of _ (by decide +kernel)) ggX6_pick_X6_isNoBranch
set_option maxRecDepth 20000 in
theorem ggX6_pick_X6_isNoCommit : GoodIn wsX6_pick wsX6_isNoCommit := goodIn_r _ [16, 17, 10, 11, 7, 12, 57, 58, 59, 60, 61, 62, 63, 64, 65, 66, 67, 68, 69, 70, 71, 72, 73, 74, 75, 76, 77, 78, 79] (by decide +kernel) (by decide +kernel)
set_option maxRecDepth 20000 in
theorem gX6_pick_X6_isNoCommit : GoodIn wsX6_pick (wsV RX6 83 RX6 yX6_isNoCommit wsX6_isNoCommit) := goodIn_app (goodIn_of _ (by decide +kernel)) ggX6_pick_X6_isNoCommit
set_option maxRecDepth 20000 in
theorem ggX6_pick_X6_fails : GoodIn wsX6_pick wsX6_fails := goodIn_r _ [21, 22, 57, 58, 59, 60, 61, 62, 63, 64, 65, 66, 67, 68, 69, 70, 71, 72, 73, 74, 75, 76, 77, 78, 79] (by decide +kernel) (by decide +kernel)
set_option maxRecDepth 20000 in
theorem gX6_pick_X6_fails : GoodIn wsX6_pick (wsV RX6 87 RX6 yX6_fails wsX6_fails) := goodIn_app (goodIn_of _ (by decide +kernel)) ggX6_pick_X6_fails
set_option maxRecDepth 20000 in
theorem ggX6_pick_X6_parentsOf : GoodIn wsX6_pick wsX6_parentsOf := goodIn_r _ [26, 2, 27, 57, 58, 59, 60, 61, 62, 63, 64, 65, 66, 67, 68, 69, 70, 71, 72, 73, 74, 75, 76, 77, 78, 79] (by decide +kernel) (by decide +kernel)
set_option maxRecDepth 20000 in
theorem gX6_pick_X6_parentsOf : GoodIn wsX6_pick (wsV RX6 140 RX6 yX6_parentsOf wsX6_parentsOf) := goodIn_app (goodIn_of _ (by decide +kernel)) ggX6_pick_X6_parentsOf
set_option maxRecDepth 20000 in
theorem ggX6_pick_X6_full : GoodIn wsX6_pick wsX6_full := goodIn_r _ [31, 17, 57, 58, 59, 60, 61, 62, 63, 64, 65, 66, 67, 68, 69, 70, 71, 72, 73, 74, 75, 76, 77, 78, 79] (by decide +kernel) (by decide +kernel)
set_option maxRecDepth 20000 in
theorem gX6_pick_X6_full : GoodIn wsX6_pick (wsV RX6 118 RX6 yX6_full wsX6_full) := goodIn_app (goodIn_of _ (by decide +kernel)) ggX6_pick_X6_full
set_option maxRecDepth 20000 in
theorem ggX6_pick_X6_isSame : GoodIn wsX6_pick wsX6_isSame := goodIn_r _ [35, 36, 37, 38, 39, 7, 40, 57, 58, 59, 60, 61, 62, 63, 64, 65, 66, 67, 68, 69, 70, 71, 72, 73, 74, 75, 76, 77, 78, 79] (by decide +kernel) (by decide +kernel)
set_option maxRecDepth 20000 in
theorem gX6_pick_X6_isSame : GoodIn wsX6_pick (wsV RX6 161 RX6 yX6_isSame wsX6_isSame) := goodIn_app (goodIn_of _ (by decide +kernel)) ggX6_pick_X6_isSame
set_option maxRecDepth 20000 in
theorem ggX6_pick_X6_unites : GoodIn wsX6_pick wsX6_unites := goodIn_r _ [44, 45, 36, 46, 37, 38, 39, 7, 40, 57, 58, 59, 60, 61, 62, 63, 64, 65, 66, 67, 68, 69, 70, 71, 72, 73, 74, 75, 76, 77, 78, 79] (by decide +kernel) (by decide +kernel)
set_option maxRecDepth 20000 in
theorem gX6_pick_X6_unites : GoodIn wsX6_pick (wsV RX6 171 RX6 yX6_unites wsX6_unites) := goodIn_app (goodIn_of _ (by decide +kernel)) ggX6_pick_X6_unites
set_option maxRecDepth 20000 in
theorem ggX6_pick_X6_makes : GoodIn wsX6_pick wsX6_makes := goodIn_r _ [50, 1, 3, 36, 17, 37, 2, 27, 51, 52, 38, 39, 7, 40, 57, 58, 59, 60, 61, 62, 63, 64, 65, 66, 67, 68, 69, 70, 71, 72, 73, 74, 75, 76, 77, 78, 79] (by decide +kernel) (by decide +kernel)
set_option maxRecDepth 20000 in
theorem gX6_pick_X6_makes : GoodIn wsX6_pick (wsV RX6 111 RX6 yX6_makes wsX6_makes) := goodIn_app (goodIn_of _ (by decide +kernel)) ggX6_pick_X6_makes
set_option maxRecDepth 20000 in
theorem ggX6_pick_X6_takes : GoodIn wsX6_pick wsX6_takes := goodIn_r _ [56, 3, 36, 45, 37, 46, 38, 39, 7, 40, 57, 58, 59, 60, 61, 62, 63, 64, 65, 66, 67, 68, 69, 70, 71, 72, 73, 74, 75, 76, 77, 78, 79] (by decide +kernel) (by decide +kernel)
set_option maxRecDepth 20000 in
theorem gX6_pick_X6_takes : GoodIn wsX6_pick (wsV RX6 191 RX6 yX6_takes wsX6_takes) := goodIn_app (goodIn_of _ (by decide +kernel)) ggX6_pick_X6_takes
set_option maxRecDepth 20000 in
theorem ggX6_quote_X6_isNoItem : GoodIn wsX6_quote wsX6_isNoItem := goodIn_r _ [9, 10, 11, 12, 8, 13, 19, 20, 21, 22, 23, 24, 25, 26, 27, 28, 29, 30, 31, 32, 33, 34, 35, 36, 37, 38, 39, 40, 41] (by decide +kernel) (by decide +kernel)
set_option maxRecDepth 20000 in
theorem gX6_quote_X6_isNoItem : GoodIn wsX6_quote (wsV RX6 102 RX6 yX6_isNoItem wsX6_isNoItem) := goodIn_app (goodIn_of _ (by decide +kernel)) ggX6_quote_X6_isNoItem
set_option maxRecDepth 20000 in
theorem ggX6_quote_X6_in : GoodIn wsX6_quote wsX6_in := goodIn_r _ [13] (by decide +kernel) (by decide +kernel)
set_option maxRecDepth 20000 in
theorem gX6_quote_X6_in : GoodIn wsX6_quote (va_wsS RX6 79 yX6_in wsX6_in) := goodIn_app (goodIn_of _ (by decide +kernel)) ggX6_quote_X6_in
set_option maxRecDepth 20000 in
theorem ggX6_quote_X6_fails : GoodIn wsX6_quote wsX6_fails := goodIn_r _ [17, 18, 19, 20, 21, 22, 23, 24, 25, 26, 27, 28, 29, 30, 31, 32, 33, 34, 35, 36, 37, 38, 39, 40, 41] (by decide +kernel) (by decide +kernel)
set_option maxRecDepth 20000 in
theorem gX6_quote_X6_fails : GoodIn wsX6_quote (wsV RX6 87 RX6 yX6_fails wsX6_fails) := goodIn_app (goodIn_of _ (by decide +kernel)) ggX6_quote_X6_fails
set_option maxRecDepth 20000 in
theorem ggX6_isBroken_X6_in : GoodIn wsX6_isBroken wsX6_in := goodIn_r _ [5] (by decide +kernel) (by decide +kernel)
set_option maxRecDepth 20000 in
theorem gX6_isBroken_X6_in : GoodIn wsX6_isBroken (va_wsS RX6 79 yX6_in wsX6_in) := goodIn_app (goodIn_of _ (by decide +kernel)) ggX6_isBroken_X6_in
set_option maxRecDepth 20000 in
theorem ggX6_isBroken_X6_isNoCommit : GoodIn wsX6_isBroken wsX6_isNoCommit := goodIn_r _ [9, 10, 2, 3, 4, 5, 45, 46, 47, 48, 49, 50, 51, 52, 53, 54, 55, 56, 57, 58, 59, 60, 61, 62, 63, 64, 65, 66, 67] (by decide +kernel) (by decide +kernel)
set_option maxRecDepth 20000 in
theorem gX6_isBroken_X6_isNoCommit : GoodIn wsX6_isBroken (wsV RX6 83 RX6 yX6_isNoCommit wsX6_isNoCommit) := goodIn_app (goodIn_of _ (by decide +kernel)) ggX6_isBroken_X6_isNoCommit
set_option maxRecDepth 20000 in
theorem ggX6_isBroken_X6_fails : GoodIn wsX6_isBroken wsX6_fails := goodIn_r _ [14, 15, 45, 46, 47, 48, 49, 50, 51, 52, 53, 54, 55, 56, 57, 58, 59, 60, 61, 62, 63, 64, 65, 66, 67] (by decide +kernel) (by decide +kernel)
set_option maxRecDepth 20000 in
theorem gX6_isBroken_X6_fails : GoodIn wsX6_isBroken (wsV RX6 87 RX6 yX6_fails wsX6_fails) := goodIn_app (goodIn_of _ (by decide +kernel)) ggX6_isBroken_X6_fails
set_option maxRecDepth 20000 in
theorem ggX6_isBroken_X6_isWrongIn : GoodIn wsX6_isBroken wsX6_isWrongIn := goodIn_r _ [19, 20, 21, 22, 23, 24, 25, 4, 26, 27, 28, 29, 30, 31, 32, 33, 34, 35, 36, 37, 38, 39, 40, 41, 42, 43, 44, 45, 46, 47, 48, 49, 50, 51, 52, 53, 54, 55, 56, 57, 58, 59, 60, 61, 62, 63, 64, 65, 66, 67] (by decide +kernel) (by decide +kernel)
set_option maxRecDepth 20000 in
theorem gX6_isBroken_X6_isWrongIn : GoodIn wsX6_isBroken (wsV RX6 178 RX6 yX6_isWrongIn wsX6_isWrongIn) := goodIn_app (goodIn_of _ (by decide +kernel)) ggX6_isBroken_X6_isWrongIn
set_option maxRecDepth 20000 in
theorem ggX6_broken_X6_isNone : GoodIn wsX6_broken wsX6_isNone := goodIn_r _ [6, 7, 8, 9, 5, 10, 11, 12, 13, 14, 15, 16, 17, 18, 19, 49, 50, 51, 52, 53, 54, 55, 56, 57, 58, 59, 60, 61, 62, 63, 64, 65, 66, 67, 68, 69, 70, 71] (by decide +kernel) (by decide +kernel)
set_option maxRecDepth 20000 in
theorem gX6_broken_X6_isNone : GoodIn wsX6_broken (wsV RX6 105 RX6 yX6_isNone wsX6_isNone) := goodIn_app (goodIn_of _ (by decide +kernel)) ggX6_broken_X6_isNone
set_option maxRecDepth 20000 in
theorem ggX6_broken_X6_isWrongIn : GoodIn wsX6_broken wsX6_isWrongIn := goodIn_r _ [23, 24, 25, 26, 27, 28, 29, 5, 30, 31, 32, 33, 34, 35, 36, 37, 38, 39, 40, 41, 42, 43, 44, 45, 46, 47, 48, 49, 50, 51, 52, 53, 54, 55, 56, 57, 58, 59, 60, 61, 62, 63, 64, 65, 66, 67, 68, 69, 70, 71] (by decide +kernel) (by decide +kernel)
set_option maxRecDepth 20000 in
theorem gX6_broken_X6_isWrongIn : GoodIn wsX6_broken (wsV RX6 178 RX6 yX6_isWrongIn wsX6_isWrongIn) := goodIn_app (goodIn_of _ (by decide +kernel)) ggX6_broken_X6_isWrongIn
set_option maxRecDepth 20000 in
theorem ggX6_sum_X6_isNone : GoodIn wsX6_sum wsX6_isNone := goodIn_r _ [9, 10, 11, 12, 8, 13, 14, 15, 16, 17, 18, 19, 20, 21, 22, 42, 43, 44, 45, 46, 47, 48, 49, 50, 51, 52, 53, 54, 55, 56, 57, 58, 59, 60, 61, 62, 63, 64] (by decide +kernel) (by decide +kernel)
set_option maxRecDepth 20000 in
theorem gX6_sum_X6_isNone : GoodIn wsX6_sum (wsV RX6 105 RX6 yX6_isNone wsX6_isNone) := goodIn_app (goodIn_of _ (by decide +kernel)) ggX6_sum_X6_isNone
set_option maxRecDepth 20000 in
theorem ggX6_sum_X6_at : GoodIn wsX6_sum wsX6_at := goodIn_r _ [25] (by decide +kernel) (by decide +kernel)
set_option maxRecDepth 20000 in
theorem gX6_sum_X6_at : GoodIn wsX6_sum (va_wsS RX6 94 yX6_at wsX6_at) := goodIn_app (goodIn_of _ (by decide +kernel)) ggX6_sum_X6_at
set_option maxRecDepth 20000 in
theorem ggX6_sum_X6_sideOf : GoodIn wsX6_sum wsX6_sideOf := goodIn_r _ [29, 30, 4, 31, 32, 8, 33, 42, 43, 44, 45, 46, 47, 48, 49, 50, 51, 52, 53, 54, 55, 56, 57, 58, 59, 60, 61, 62, 63, 64] (by decide +kernel) (by decide +kernel)
set_option maxRecDepth 20000 in
theorem gX6_sum_X6_sideOf : GoodIn wsX6_sum (wsV RX6 133 RX6 yX6_sideOf wsX6_sideOf) := goodIn_app (goodIn_of _ (by decide +kernel)) ggX6_sum_X6_sideOf
set_option maxRecDepth 20000 in
theorem ggX6_sum_X6_sidesIn : GoodIn wsX6_sum wsX6_sidesIn := goodIn_r _ [37, 2, 3, 23, 24, 8, 25, 38, 39, 40, 41, 30, 31, 32, 33, 42, 43, 44, 45, 46, 47, 48, 49, 50, 51, 52, 53, 54, 55, 56, 57, 58, 59, 60, 61, 62, 63, 64] (by decide +kernel) (by decide +kernel)
set_option maxRecDepth 20000 in
theorem gX6_sum_X6_sidesIn : GoodIn wsX6_sum (wsV RX6 130 RX6 yX6_sidesIn wsX6_sidesIn) := goodIn_app (goodIn_of _ (by decide +kernel)) ggX6_sum_X6_sidesIn
set_option maxRecDepth 20000 in
theorem ggX6_conflictShare_X6_isNone : GoodIn wsX6_conflictShare wsX6_isNone := goodIn_r _ [6, 7, 8, 9, 5, 10, 11, 12, 13, 14, 15, 16, 17, 18, 19, 41, 42, 43, 44, 45, 46, 47, 48, 49, 50, 51, 52, 53, 54, 55, 56, 57, 58, 59, 60, 61, 62, 63] (by decide +kernel) (by decide +kernel)
set_option maxRecDepth 20000 in
theorem gX6_conflictShare_X6_isNone : GoodIn wsX6_conflictShare (wsV RX6 105 RX6 yX6_isNone wsX6_isNone) := goodIn_app (goodIn_of _ (by decide +kernel)) ggX6_conflictShare_X6_isNone
set_option maxRecDepth 20000 in
theorem ggX6_conflictShare_X6_fails : GoodIn wsX6_conflictShare wsX6_fails := goodIn_r _ [18, 19, 41, 42, 43, 44, 45, 46, 47, 48, 49, 50, 51, 52, 53, 54, 55, 56, 57, 58, 59, 60, 61, 62, 63] (by decide +kernel) (by decide +kernel)
set_option maxRecDepth 20000 in
theorem gX6_conflictShare_X6_fails : GoodIn wsX6_conflictShare (wsV RX6 87 RX6 yX6_fails wsX6_fails) := goodIn_app (goodIn_of _ (by decide +kernel)) ggX6_conflictShare_X6_fails
set_option maxRecDepth 20000 in
theorem ggX6_conflictShare_X6_conflictsIn : GoodIn wsX6_conflictShare wsX6_conflictsIn := goodIn_r _ [23, 1, 24, 25, 26, 5, 27, 28, 29, 30, 31, 32, 33, 34, 35, 36, 37, 38, 39, 40, 41, 42, 43, 44, 45, 46, 47, 48, 49, 50, 51, 52, 53, 54, 55, 56, 57, 58, 59, 60, 61, 62, 63] (by decide +kernel) (by decide +kernel)
set_option maxRecDepth 20000 in
theorem gX6_conflictShare_X6_conflictsIn : GoodIn wsX6_conflictShare (wsV RX6 158 RX6 yX6_conflictsIn wsX6_conflictsIn) := goodIn_app (goodIn_of _ (by decide +kernel)) ggX6_conflictShare_X6_conflictsIn
