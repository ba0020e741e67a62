set_option maxRecDepth 20000 in
theorem ggX0_measureFrom_X0_beginAt : GoodIn wsX0_measureFrom wsX0_beginAt := goodIn_r _ [5, 6, 7, 8, 9, 10, 11, 12, 61, 62, 63] (by decide +kernel) (by decide +kernel)
set_option maxRecDepth 20000 in
theorem gX0_measureFrom_X0_beginAt : GoodIn wsX0_measureFrom (wsV RX0 29 RX0 yX0_beginAt wsX0_beginAt) := goodIn_app (goodIn_of _ (by decide +kernel)) ggX0_measureFrom_X0_beginAt
set_option maxRecDepth 20000 in
theorem ggX0_measureFrom_X0_settle : GoodIn wsX0_measureFrom wsX0_settle := goodIn_r _ [16, 17, 18, 19, 20, 21, 4, 22, 6, 8, 23, 24, 25, 26, 27, 28, 29, 30, 31, 32, 33, 34, 35, 36, 37, 38, 39, 40, 41, 42, 43, 44, 45, 46, 47, 48, 49, 50, 51, 7, 52, 53, 54, 55, 56, 57, 58, 59, 60, 61, 62, 63, 64, 65, 66, 67, 68, 69, 70] (by decide +kernel) (by decide +kernel)
set_option maxRecDepth 20000 in
theorem gX0_measureFrom_X0_settle : GoodIn wsX0_measureFrom (wsV RX0 33 RX0 yX0_settle wsX0_settle) := goodIn_app (goodIn_of _ (by decide +kernel)) ggX0_measureFrom_X0_settle
set_option maxRecDepth 20000 in
theorem ggX0_measureTo_X0_beginAt : GoodIn wsX0_measureTo wsX0_beginAt := goodIn_r _ [5, 6, 7, 8, 9, 10, 11, 12, 61, 62, 63] (by decide +kernel) (by decide +kernel)
set_option maxRecDepth 20000 in
theorem gX0_measureTo_X0_beginAt : GoodIn wsX0_measureTo (wsV RX0 29 RX0 yX0_beginAt wsX0_beginAt) := goodIn_app (goodIn_of _ (by decide +kernel)) ggX0_measureTo_X0_beginAt
set_option maxRecDepth 20000 in
theorem ggX0_measureTo_X0_settle : GoodIn wsX0_measureTo wsX0_settle := goodIn_r _ [16, 17, 18, 19, 20, 21, 4, 22, 6, 8, 23, 24, 25, 26, 27, 28, 29, 30, 31, 32, 33, 34, 35, 36, 37, 38, 39, 40, 41, 42, 43, 44, 45, 46, 47, 48, 49, 50, 51, 7, 52, 53, 54, 55, 56, 57, 58, 59, 60, 61, 62, 63, 64, 65, 66, 67, 68, 69, 70] (by decide +kernel) (by decide +kernel)
set_option maxRecDepth 20000 in
theorem gX0_measureTo_X0_settle : GoodIn wsX0_measureTo (wsV RX0 33 RX0 yX0_settle wsX0_settle) := goodIn_app (goodIn_of _ (by decide +kernel)) ggX0_measureTo_X0_settle
set_option maxRecDepth 20000 in
theorem ggX0_settlesFromEverywhere_J7_fill_53178 : GoodIn wsX0_settlesFromEverywhere wsJ7_fill_53178 := goodIn_r _ [6] (by decide +kernel) (by decide +kernel)
set_option maxRecDepth 20000 in
theorem gX0_settlesFromEverywhere_J7_fill_53178 : GoodIn wsX0_settlesFromEverywhere (va_wsS RX0 37 yJ7_fill_53178 wsJ7_fill_53178) := goodIn_app (goodIn_of _ (by decide +kernel)) ggX0_settlesFromEverywhere_J7_fill_53178
set_option maxRecDepth 20000 in
theorem ggX0_settlesFromEverywhere_X0_settle : GoodIn wsX0_settlesFromEverywhere wsX0_settle := goodIn_r _ [11, 12, 13, 14, 15, 16, 10, 17, 1, 2, 18, 19, 20, 21, 22, 23, 24, 25, 26, 27, 28, 29, 30, 31, 32, 33, 34, 35, 36, 37, 38, 39, 40, 41, 42, 43, 44, 45, 46, 47, 48, 49, 50, 51, 52, 53, 54, 55, 56, 57, 58, 59, 60, 61, 62, 63, 64, 65, 66] (by decide +kernel) (by decide +kernel)
set_option maxRecDepth 20000 in
theorem gX0_settlesFromEverywhere_X0_settle : GoodIn wsX0_settlesFromEverywhere (wsV RX0 33 RX0 yX0_settle wsX0_settle) := goodIn_app (goodIn_of _ (by decide +kernel)) ggX0_settlesFromEverywhere_X0_settle
set_option maxRecDepth 20000 in
theorem ggX0_leastArcOnward_X1_arcs : GoodIn wsX0_leastArcOnward wsX1_arcs := goodIn_r _ [8, 9, 43, 44, 45, 46, 47, 48, 49] (by decide +kernel) (by decide +kernel)
set_option maxRecDepth 20000 in
theorem gX0_leastArcOnward_X1_arcs : GoodIn wsX0_leastArcOnward (wsV RX0 43 RX1 yX1_arcs wsX1_arcs) := goodIn_app (goodIn_of _ (by decide +kernel)) ggX0_leastArcOnward_X1_arcs
set_option maxRecDepth 20000 in
theorem ggX0_leastArcOnward_X1_begin : GoodIn wsX0_leastArcOnward wsX1_begin := goodIn_r _ [13, 14, 15, 16, 17, 7, 18, 43, 44, 45, 46, 47, 48, 49] (by decide +kernel) (by decide +kernel)
set_option maxRecDepth 20000 in
theorem gX0_leastArcOnward_X1_begin : GoodIn wsX0_leastArcOnward (wsV RX0 47 RX1 yX1_begin wsX1_begin) := goodIn_app (goodIn_of _ (by decide +kernel)) ggX0_leastArcOnward_X1_begin
set_option maxRecDepth 20000 in
theorem ggX0_leastArcOnward_X1_left : GoodIn wsX0_leastArcOnward wsX1_left := goodIn_r _ [22, 23, 24, 16, 17, 7, 18, 43, 44, 45, 46, 47, 48, 49] (by decide +kernel) (by decide +kernel)
set_option maxRecDepth 20000 in
theorem gX0_leastArcOnward_X1_left : GoodIn wsX0_leastArcOnward (wsV RX0 51 RX1 yX1_left wsX1_left) := goodIn_app (goodIn_of _ (by decide +kernel)) ggX0_leastArcOnward_X1_left
set_option maxRecDepth 20000 in
theorem ggX0_leastArcOnward_X1_end : GoodIn wsX0_leastArcOnward wsX1_end := goodIn_r _ [28, 15, 14, 16, 17, 7, 18, 43, 44, 45, 46, 47, 48, 49] (by decide +kernel) (by decide +kernel)
set_option maxRecDepth 20000 in
theorem gX0_leastArcOnward_X1_end : GoodIn wsX0_leastArcOnward (wsV RX0 54 RX1 yX1_end wsX1_end) := goodIn_app (goodIn_of _ (by decide +kernel)) ggX0_leastArcOnward_X1_end
set_option maxRecDepth 20000 in
theorem ggX0_leastArcOnward_X0_reaches : GoodIn wsX0_leastArcOnward wsX0_reaches := goodIn_r _ [33, 2, 34, 40, 41, 42] (by decide +kernel) (by decide +kernel)
set_option maxRecDepth 20000 in
theorem gX0_leastArcOnward_X0_reaches : GoodIn wsX0_leastArcOnward (wsV RX0 57 RX0 yX0_reaches wsX0_reaches) := goodIn_app (goodIn_of _ (by decide +kernel)) ggX0_leastArcOnward_X0_reaches
set_option maxRecDepth 20000 in
theorem ggX0_leastArcOnward_X1_price : GoodIn wsX0_leastArcOnward wsX1_price := goodIn_r _ [38, 39, 16, 17, 7, 18, 43, 44, 45, 46, 47, 48, 49] (by decide +kernel) (by decide +kernel)
set_option maxRecDepth 20000 in
theorem gX0_leastArcOnward_X1_price : GoodIn wsX0_leastArcOnward (wsV RX0 61 RX1 yX1_price wsX1_price) := goodIn_app (goodIn_of _ (by decide +kernel)) ggX0_leastArcOnward_X1_price
set_option maxRecDepth 20000 in
theorem ggX0_beginAt_J7_fill_53178 : GoodIn wsX0_beginAt wsJ7_fill_53178 := goodIn_r _ [7] (by decide +kernel) (by decide +kernel)
set_option maxRecDepth 20000 in
theorem gX0_beginAt_J7_fill_53178 : GoodIn wsX0_beginAt (va_wsS RX0 37 yJ7_fill_53178 wsJ7_fill_53178) := goodIn_app (goodIn_of _ (by decide +kernel)) ggX0_beginAt_J7_fill_53178
set_option maxRecDepth 20000 in
theorem ggX0_settle_X0_passOverArcs : GoodIn wsX0_settle wsX0_passOverArcs := goodIn_r _ [7, 1, 8, 9, 10, 11, 12, 13, 14, 15, 16, 17, 18, 19, 20, 21, 22, 23, 24, 25, 26, 27, 28, 29, 30, 31, 32, 33, 34, 35, 36, 37, 6, 38, 39, 40, 41, 42, 43, 44, 45, 46, 47, 48, 49, 50, 51, 52, 53, 54, 55, 56, 57, 58] (by decide +kernel) (by decide +kernel)
set_option maxRecDepth 20000 in
theorem gX0_settle_X0_passOverArcs : GoodIn wsX0_settle (wsV RX0 64 RX0 yX0_passOverArcs wsX0_passOverArcs) := goodIn_app (goodIn_of _ (by decide +kernel)) ggX0_settle_X0_passOverArcs
set_option maxRecDepth 20000 in
theorem ggX0_passOverArcs_X1_arcs : GoodIn wsX0_passOverArcs wsX1_arcs := goodIn_r _ [8, 9, 47, 48, 49, 50, 51, 52, 53] (by decide +kernel) (by decide +kernel)
set_option maxRecDepth 20000 in
theorem gX0_passOverArcs_X1_arcs : GoodIn wsX0_passOverArcs (wsV RX0 43 RX1 yX1_arcs wsX1_arcs) := goodIn_app (goodIn_of _ (by decide +kernel)) ggX0_passOverArcs_X1_arcs
set_option maxRecDepth 20000 in
theorem ggX0_passOverArcs_X1_left : GoodIn wsX0_passOverArcs wsX1_left := goodIn_r _ [13, 14, 15, 16, 17, 7, 18, 47, 48, 49, 50, 51, 52, 53] (by decide +kernel) (by decide +kernel)
set_option maxRecDepth 20000 in
theorem gX0_passOverArcs_X1_left : GoodIn wsX0_passOverArcs (wsV RX0 51 RX1 yX1_left wsX1_left) := goodIn_app (goodIn_of _ (by decide +kernel)) ggX0_passOverArcs_X1_left
set_option maxRecDepth 20000 in
theorem ggX0_passOverArcs_X1_end : GoodIn wsX0_passOverArcs wsX1_end := goodIn_r _ [22, 23, 24, 16, 17, 7, 18, 47, 48, 49, 50, 51, 52, 53] (by decide +kernel) (by decide +kernel)
set_option maxRecDepth 20000 in
theorem gX0_passOverArcs_X1_end : GoodIn wsX0_passOverArcs (wsV RX0 54 RX1 yX1_end wsX1_end) := goodIn_app (goodIn_of _ (by decide +kernel)) ggX0_passOverArcs_X1_end
set_option maxRecDepth 20000 in
theorem ggX0_passOverArcs_X1_begin : GoodIn wsX0_passOverArcs wsX1_begin := goodIn_r _ [28, 24, 23, 16, 17, 7, 18, 47, 48, 49, 50, 51, 52, 53] (by decide +kernel) (by decide +kernel)
set_option maxRecDepth 20000 in
theorem gX0_passOverArcs_X1_begin : GoodIn wsX0_passOverArcs (wsV RX0 47 RX1 yX1_begin wsX1_begin) := goodIn_app (goodIn_of _ (by decide +kernel)) ggX0_passOverArcs_X1_begin
set_option maxRecDepth 20000 in
theorem ggX0_passOverArcs_X0_reaches : GoodIn wsX0_passOverArcs wsX0_reaches := goodIn_r _ [33, 2, 34, 44, 45, 46] (by decide +kernel) (by decide +kernel)
set_option maxRecDepth 20000 in
theorem gX0_passOverArcs_X0_reaches : GoodIn wsX0_passOverArcs (wsV RX0 57 RX0 yX0_reaches wsX0_reaches) := goodIn_app (goodIn_of _ (by decide +kernel)) ggX0_passOverArcs_X0_reaches
set_option maxRecDepth 20000 in
theorem ggX0_passOverArcs_X1_price : GoodIn wsX0_passOverArcs wsX1_price := goodIn_r _ [38, 39, 16, 17, 7, 18, 47, 48, 49, 50, 51, 52, 53] (by decide +kernel) (by decide +kernel)
set_option maxRecDepth 20000 in
theorem gX0_passOverArcs_X1_price : GoodIn wsX0_passOverArcs (wsV RX0 61 RX1 yX1_price wsX1_price) := goodIn_app (goodIn_of _ (by decide +kernel)) ggX0_passOverArcs_X1_price
set_option maxRecDepth 20000 in
theorem ggX0_passOverArcs_X0_shorten : GoodIn wsX0_passOverArcs wsX0_shorten := goodIn_r _ [43, 2, 3, 44, 45, 46] (by decide +kernel) (by decide +kernel)
set_option maxRecDepth 20000 in
theorem gX0_passOverArcs_X0_shorten : GoodIn wsX0_passOverArcs (wsV RX0 67 RX0 yX0_shorten wsX0_shorten) := goodIn_app (goodIn_of _ (by decide +kernel)) ggX0_passOverArcs_X0_shorten
set_option maxRecDepth 20000 in
theorem ggX1_clearFlow_J7_fill_53178 : GoodIn wsX1_clearFlow wsJ7_fill_53178 := goodIn_r _ [5] (by decide +kernel) (by decide +kernel)
set_option maxRecDepth 20000 in
theorem gX1_clearFlow_J7_fill_53178 : GoodIn wsX1_clearFlow (va_wsS RX1 32 yJ7_fill_53178 wsJ7_fill_53178) := goodIn_app (goodIn_of _ (by decide +kernel)) ggX1_clearFlow_J7_fill_53178
set_option maxRecDepth 20000 in
theorem ggX1_begin_X1_isBack : GoodIn wsX1_begin wsX1_isBack := goodIn_r _ [6] (by decide +kernel) (by decide +kernel)
set_option maxRecDepth 20000 in
theorem gX1_begin_X1_isBack : GoodIn wsX1_begin (va_wsS RX1 38 yX1_isBack wsX1_isBack) := goodIn_app (goodIn_of _ (by decide +kernel)) ggX1_begin_X1_isBack
set_option maxRecDepth 20000 in
theorem ggX1_end_X1_isBack : GoodIn wsX1_end wsX1_isBack := goodIn_r _ [6] (by decide +kernel) (by decide +kernel)
set_option maxRecDepth 20000 in
theorem gX1_end_X1_isBack : GoodIn wsX1_end (va_wsS RX1 38 yX1_isBack wsX1_isBack) := goodIn_app (goodIn_of _ (by decide +kernel)) ggX1_end_X1_isBack
set_option maxRecDepth 20000 in
theorem ggX1_price_X1_isBack : GoodIn wsX1_price wsX1_isBack := goodIn_r _ [5] (by decide +kernel) (by decide +kernel)
set_option maxRecDepth 20000 in
theorem gX1_price_X1_isBack : GoodIn wsX1_price (va_wsS RX1 38 yX1_isBack wsX1_isBack) := goodIn_app (goodIn_of _ (by decide +kernel)) ggX1_price_X1_isBack
set_option maxRecDepth 20000 in
theorem ggX1_left_X1_isBack : GoodIn wsX1_left wsX1_isBack := goodIn_r _ [6] (by decide +kernel) (by decide +kernel)
set_option maxRecDepth 20000 in
theorem gX1_left_X1_isBack : GoodIn wsX1_left (va_wsS RX1 38 yX1_isBack wsX1_isBack) := goodIn_app (goodIn_of _ (by decide +kernel)) ggX1_left_X1_isBack
set_option maxRecDepth 20000 in
theorem ggX1_send_X1_isBack : GoodIn wsX1_send wsX1_isBack := goodIn_r _ [5] (by decide +kernel) (by decide +kernel)
set_option maxRecDepth 20000 in
theorem gX1_send_X1_isBack : GoodIn wsX1_send (va_wsS RX1 38 yX1_isBack wsX1_isBack) := goodIn_app (goodIn_of _ (by decide +kernel)) ggX1_send_X1_isBack
set_option maxRecDepth 20000 in
theorem ggX2_init_X2_within : GoodIn wsX2_init wsX2_within := goodIn_r _ [20, 21, 22, 23, 24, 25, 26, 27] (by decide +kernel) (by decide +kernel)
set_option maxRecDepth 20000 in
theorem gX2_init_X2_within : GoodIn wsX2_init (va_wsS RX2 18 yX2_within wsX2_within) := goodIn_app (goodIn_of _ (by decide +kernel)) ggX2_init_X2_within
set_option maxRecDepth 20000 in
theorem ggX2_init_X1_init : GoodIn wsX2_init wsX1_init := goodIn_r _ [30, 31, 2, 3, 32, 15, 33, 34, 35, 36, 37, 57, 58, 59, 60, 61, 62, 63] (by decide +kernel) (by decide +kernel)
set_option maxRecDepth 20000 in
theorem gX2_init_X1_init : GoodIn wsX2_init (wsX1_init) := ggX2_init_X1_init
set_option maxRecDepth 20000 in
theorem ggX2_init_X0_init : GoodIn wsX2_init wsX0_init := goodIn_r _ [40, 41, 2, 3, 42, 43, 15, 44, 45, 64, 65, 66, 57, 58, 59, 60, 61, 62, 63] (by decide +kernel) (by decide +kernel)
set_option maxRecDepth 20000 in
theorem gX2_init_X0_init : GoodIn wsX2_init (wsX0_init) := ggX2_init_X0_init
set_option maxRecDepth 20000 in
theorem ggX2_edge_X1_hasNode : GoodIn wsX2_edge wsX1_hasNode := goodIn_r _ [10, 11, 107, 108, 109, 110, 111, 112, 113] (by decide +kernel) (by decide +kernel)
set_option maxRecDepth 20000 in
theorem gX2_edge_X1_hasNode : GoodIn wsX2_edge (wsV RX2 47 RX1 yX1_hasNode wsX1_hasNode) := goodIn_app (goodIn_of _ (by decide +kernel)) ggX2_edge_X1_hasNode
set_option maxRecDepth 20000 in
theorem ggX2_edge_X1_isFull : GoodIn wsX2_edge wsX1_isFull := goodIn_r _ [15, 16, 17, 107, 108, 109, 110, 111, 112, 113] (by decide +kernel) (by decide +kernel)
set_option maxRecDepth 20000 in
theorem gX2_edge_X1_isFull : GoodIn wsX2_edge (wsV RX2 52 RX1 yX1_isFull wsX1_isFull) := goodIn_app (goodIn_of _ (by decide +kernel)) ggX2_edge_X1_isFull
set_option maxRecDepth 20000 in
theorem ggX2_edge_X1_capacityInAll : GoodIn wsX2_edge wsX1_capacityInAll := goodIn_r _ [21, 16, 22, 107, 108, 109, 110, 111, 112, 113] (by decide +kernel) (by decide +kernel)
set_option maxRecDepth 20000 in
theorem gX2_edge_X1_capacityInAll : GoodIn wsX2_edge (wsV RX2 56 RX1 yX1_capacityInAll wsX1_capacityInAll) := goodIn_app (goodIn_of _ (by decide +kernel)) ggX2_edge_X1_capacityInAll
set_option maxRecDepth 20000 in
theorem ggX2_edge_X2_forgetSolving : GoodIn wsX2_edge wsX2_forgetSolving := goodIn_r _ [27, 1, 28, 29, 30, 31, 32, 33, 9, 34, 35, 36, 37, 38, 39, 96, 97, 98, 99, 100, 101, 102, 103, 104, 105, 106, 107, 108, 109, 110, 111, 112, 113] (by decide +kernel) (by decide +kernel)
set_option maxRecDepth 20000 in
theorem gX2_edge_X2_forgetSolving : GoodIn wsX2_edge (wsV RX2 62 RX2 yX2_forgetSolving wsX2_forgetSolving) := goodIn_app (goodIn_of _ (by decide +kernel)) ggX2_edge_X2_forgetSolving
set_option maxRecDepth 20000 in
theorem ggX2_edge_X1_add : GoodIn wsX2_edge wsX1_add := goodIn_r _ [43, 16, 17, 44, 22, 45, 107, 108, 109, 110, 111, 112, 113] (by decide +kernel) (by decide +kernel)
set_option maxRecDepth 20000 in
theorem gX2_edge_X1_add : GoodIn wsX2_edge (wsV RX2 65 RX1 yX1_add wsX1_add) := goodIn_app (goodIn_of _ (by decide +kernel)) ggX2_edge_X1_add
set_option maxRecDepth 20000 in
theorem ggX2_edge_X0_settlesFromEverywhere : GoodIn wsX2_edge wsX0_settlesFromEverywhere := goodIn_r _ [50, 51, 52, 53, 37, 38, 39, 54, 55, 56, 49, 57, 58, 59, 60, 61, 62, 63, 64, 65, 66, 9, 67, 16, 68, 69, 70, 71, 35, 22, 72, 73, 74, 75, 76, 77, 78, 17, 44, 79, 80, 81, 82, 83, 84, 85, 86, 87, 88, 89, 90, 91, 45, 92, 93, 94, 95, 114, 115, 116, 107, 108, 109, 110, 111, 112, 113] (by decide +kernel) (by decide +kernel)
set_option maxRecDepth 20000 in
theorem gX2_edge_X0_settlesFromEverywhere : GoodIn wsX2_edge (wsV RX2 69 RX0 yX0_settlesFromEverywhere wsX0_settlesFromEverywhere) := goodIn_app (goodIn_of _ (by decide +kernel)) ggX2_edge_X0_settlesFromEverywhere
set_option maxRecDepth 20000 in
theorem ggX2_ends_X1_hasNode : GoodIn wsX2_ends wsX1_hasNode := goodIn_r _ [8, 9, 38, 39, 40, 41, 42, 43, 44] (by decide +kernel) (by decide +kernel)
set_option maxRecDepth 20000 in
theorem gX2_ends_X1_hasNode : GoodIn wsX2_ends (wsV RX2 47 RX1 yX1_hasNode wsX1_hasNode) := goodIn_app (goodIn_of _ (by decide +kernel)) ggX2_ends_X1_hasNode
set_option maxRecDepth 20000 in
theorem ggX2_ends_X2_forgetSolving : GoodIn wsX2_ends wsX2_forgetSolving := goodIn_r _ [14, 1, 15, 16, 17, 18, 19, 20, 7, 21, 22, 23, 24, 25, 26, 27, 28, 29, 30, 31, 32, 33, 34, 35, 36, 37, 38, 39, 40, 41, 42, 43, 44] (by decide +kernel) (by decide +kernel)
set_option maxRecDepth 20000 in
theorem gX2_ends_X2_forgetSolving : GoodIn wsX2_ends (wsV RX2 62 RX2 yX2_forgetSolving wsX2_forgetSolving) := goodIn_app (goodIn_of _ (by decide +kernel)) ggX2_ends_X2_forgetSolving
set_option maxRecDepth 20000 in
theorem ggX2_run_X2_findWay : GoodIn wsX2_run wsX2_findWay := goodIn_r _ [9, 10, 11, 1, 12, 13, 14, 15, 16, 17, 18, 19, 20, 21, 22, 23, 24, 25, 26, 27, 28, 29, 30, 31, 32, 33, 34, 35, 36, 37, 38, 39, 40, 41, 42, 43, 44, 45, 46, 47, 48, 49, 50, 51, 52, 53, 54, 55, 56, 57, 58, 59, 60, 61, 62, 63, 64, 65, 66, 67, 68, 69, 70, 71, 72, 73, 74, 75, 76, 112, 113, 114, 115, 116, 117, 118, 119, 120, 121, 122, 123, 124, 125, 126, 127, 128, 129, 130, 131, 132] (by decide +kernel) (by decide +kernel)
set_option maxRecDepth 20000 in
theorem gX2_run_X2_findWay : GoodIn wsX2_run (wsV RX2 79 RX2 yX2_findWay wsX2_findWay) := goodIn_app (goodIn_of _ (by decide +kernel)) ggX2_run_X2_findWay
set_option maxRecDepth 20000 in
theorem ggX2_run_X2_doRound : GoodIn wsX2_run wsX2_doRound := goodIn_r _ [80, 81, 82, 83, 84, 85, 86, 87, 88, 8, 89, 1, 11, 10, 90, 91, 92, 15, 93, 32, 21, 23, 38, 39, 40, 41, 42, 43, 59, 60, 61, 62, 58, 57, 50, 51, 52, 44, 45, 46, 47, 48, 49, 53, 54, 55, 56, 63, 64, 65, 66, 22, 67, 68, 69, 70, 71, 94, 95, 96, 97, 98, 99, 100, 101, 102, 103, 104, 105, 106, 107, 112, 113, 114, 115, 116, 117, 118, 119, 120, 121, 122, 123, 124, 125, 126, 127, 128, 129, 130, 131, 132] (by decide +kernel) (by decide +kernel)
set_option maxRecDepth 20000 in
theorem gX2_run_X2_doRound : GoodIn wsX2_run (wsV RX2 82 RX2 yX2_doRound wsX2_doRound) := goodIn_app (goodIn_of _ (by decide +kernel)) ggX2_run_X2_doRound
set_option maxRecDepth 20000 in
theorem ggX2_run_X0_measureFrom : GoodIn wsX2_run wsX0_measureFrom := goodIn_r _ [111, 17, 18, 19, 15, 20, 21, 22, 23, 24, 25, 26, 27, 28, 29, 30, 31, 32, 33, 34, 35, 36, 37, 38, 39, 40, 41, 42, 43, 44, 45, 46, 47, 48, 49, 50, 51, 52, 53, 54, 55, 56, 57, 58, 59, 60, 61, 62, 63, 64, 65, 66, 67, 68, 69, 70, 71, 72, 73, 74, 75, 123, 124, 125, 126, 127, 128, 129, 130, 131, 132] (by decide +kernel) (by decide +kernel)
set_option maxRecDepth 20000 in
theorem gX2_run_X0_measureFrom : GoodIn wsX2_run (wsV RX2 85 RX0 yX0_measureFrom wsX0_measureFrom) := goodIn_app (goodIn_of _ (by decide +kernel)) ggX2_run_X0_measureFrom
set_option maxRecDepth 20000 in
theorem ggX2_cost_X1_costOfFlow : GoodIn wsX2_cost wsX1_costOfFlow := goodIn_r _ [7, 8, 9, 10, 22, 23, 24, 25, 26, 27, 28] (by decide +kernel) (by decide +kernel)
set_option maxRecDepth 20000 in
theorem gX2_cost_X1_costOfFlow : GoodIn wsX2_cost (wsV RX2 92 RX1 yX1_costOfFlow wsX1_costOfFlow) := goodIn_app (goodIn_of _ (by decide +kernel)) ggX2_cost_X1_costOfFlow
set_option maxRecDepth 20000 in
theorem ggX2_flow_X1_hasEdge : GoodIn wsX2_flow wsX1_hasEdge := goodIn_r _ [7, 8, 20, 21, 22, 23, 24, 25, 26] (by decide +kernel) (by decide +kernel)
set_option maxRecDepth 20000 in
theorem gX2_flow_X1_hasEdge : GoodIn wsX2_flow (wsV RX2 95 RX1 yX1_hasEdge wsX1_hasEdge) := goodIn_app (goodIn_of _ (by decide +kernel)) ggX2_flow_X1_hasEdge
set_option maxRecDepth 20000 in
theorem ggX2_potential_X1_hasNode : GoodIn wsX2_potential wsX1_hasNode := goodIn_r _ [9, 10, 25, 26, 27, 28, 29, 30, 31] (by decide +kernel) (by decide +kernel)
set_option maxRecDepth 20000 in
theorem gX2_potential_X1_hasNode : GoodIn wsX2_potential (wsV RX2 47 RX1 yX1_hasNode wsX1_hasNode) := goodIn_app (goodIn_of _ (by decide +kernel)) ggX2_potential_X1_hasNode
set_option maxRecDepth 20000 in
theorem ggX2_inCut_X1_hasNode : GoodIn wsX2_inCut wsX1_hasNode := goodIn_r _ [8, 9, 28, 29, 30, 31, 32, 33, 34] (by decide +kernel) (by decide +kernel)
set_option maxRecDepth 20000 in
theorem gX2_inCut_X1_hasNode : GoodIn wsX2_inCut (wsV RX2 47 RX1 yX1_hasNode wsX1_hasNode) := goodIn_app (goodIn_of _ (by decide +kernel)) ggX2_inCut_X1_hasNode
set_option maxRecDepth 20000 in
theorem ggX2_inCut_X0_reaches : GoodIn wsX2_inCut wsX0_reaches := goodIn_r _ [14, 15, 16, 35, 36, 37] (by decide +kernel) (by decide +kernel)
set_option maxRecDepth 20000 in
theorem gX2_inCut_X0_reaches : GoodIn wsX2_inCut (wsV RX2 104 RX0 yX0_reaches wsX0_reaches) := goodIn_app (goodIn_of _ (by decide +kernel)) ggX2_inCut_X0_reaches
set_option maxRecDepth 20000 in
theorem ggX2_check_X2_flowsFit : GoodIn wsX2_check wsX2_flowsFit := goodIn_r _ [6, 7, 8, 9, 10, 72, 73, 74, 75, 76, 77, 78, 79, 80, 81, 82, 83, 84, 85, 86, 87, 88, 89] (by decide +kernel) (by decide +kernel)
set_option maxRecDepth 20000 in
theorem gX2_check_X2_flowsFit : GoodIn wsX2_check (wsV RX2 107 RX2 yX2_flowsFit wsX2_flowsFit) := goodIn_app (goodIn_of _ (by decide +kernel)) ggX2_check_X2_flowsFit
set_option maxRecDepth 20000 in
theorem ggX2_check_X2_nodesPassOn : GoodIn wsX2_check wsX2_nodesPassOn := goodIn_r _ [14, 7, 15, 16, 17, 18, 19, 20, 21, 22, 23, 24, 25, 26, 72, 73, 74, 75, 76, 77, 78, 79, 80, 81, 82, 83, 84, 85, 86, 87, 88, 89] (by decide +kernel) (by decide +kernel)
set_option maxRecDepth 20000 in
theorem gX2_check_X2_nodesPassOn : GoodIn wsX2_check (wsV RX2 110 RX2 yX2_nodesPassOn wsX2_nodesPassOn) := goodIn_app (goodIn_of _ (by decide +kernel)) ggX2_check_X2_nodesPassOn
set_option maxRecDepth 20000 in
theorem ggX2_check_X2_cutIsTight : GoodIn wsX2_check wsX2_cutIsTight := goodIn_r _ [30, 7, 8, 31, 32, 33, 9, 10, 34, 35, 36, 37, 38, 39, 40, 41, 72, 73, 74, 75, 76, 77, 78, 79, 80, 81, 82, 83, 84, 85, 86, 87, 88, 89, 90, 91, 92] (by decide +kernel) (by decide +kernel)
set_option maxRecDepth 20000 in
theorem gX2_check_X2_cutIsTight : GoodIn wsX2_check (wsV RX2 113 RX2 yX2_cutIsTight wsX2_cutIsTight) := goodIn_app (goodIn_of _ (by decide +kernel)) ggX2_check_X2_cutIsTight
set_option maxRecDepth 20000 in
theorem ggX2_check_X2_potentialsHold : GoodIn wsX2_check wsX2_potentialsHold := goodIn_r _ [45, 7, 31, 46, 47, 48, 49, 21, 50, 23, 51, 52, 53, 54, 24, 26, 55, 56, 57, 58, 59, 60, 61, 62, 63, 64, 65, 25, 66, 35, 36, 37, 38, 39, 40, 41, 67, 68, 69, 70, 71, 72, 73, 74, 75, 76, 77, 78, 79, 80, 81, 82, 90, 91, 92, 83, 84, 85, 86, 87, 88, 89] (by decide +kernel) (by decide +kernel)
set_option maxRecDepth 20000 in
theorem gX2_check_X2_potentialsHold : GoodIn wsX2_check (wsV RX2 116 RX2 yX2_potentialsHold wsX2_potentialsHold) := goodIn_app (goodIn_of _ (by decide +kernel)) ggX2_check_X2_potentialsHold
set_option maxRecDepth 20000 in
theorem ggX2_next_X2_findWay : GoodIn wsX2_next wsX2_findWay := goodIn_r _ [10, 4, 11, 1, 12, 13, 14, 15, 16, 17, 18, 19, 20, 21, 22, 23, 24, 25, 26, 27, 28, 29, 30, 31, 32, 33, 34, 35, 36, 37, 38, 39, 40, 41, 42, 43, 44, 45, 46, 47, 48, 49, 50, 51, 52, 53, 54, 55, 56, 57, 58, 59, 60, 61, 62, 63, 64, 65, 66, 67, 68, 69, 70, 71, 72, 73, 74, 75, 76, 77, 78, 79, 80, 81, 82, 83, 84, 85, 86, 87, 88, 89, 90, 91, 92, 93, 94, 95, 96, 97] (by decide +kernel) (by decide +kernel)
set_option maxRecDepth 20000 in
theorem gX2_next_X2_findWay : GoodIn wsX2_next (wsV RX2 79 RX2 yX2_findWay wsX2_findWay) := goodIn_app (goodIn_of _ (by decide +kernel)) ggX2_next_X2_findWay
set_option maxRecDepth 20000 in
theorem ggX2_forgetSolving_X1_clearFlow : GoodIn wsX2_forgetSolving wsX1_clearFlow := goodIn_r _ [9, 10, 11, 12, 13, 14, 26, 27, 28, 29, 30, 31, 32] (by decide +kernel) (by decide +kernel)
set_option maxRecDepth 20000 in
theorem gX2_forgetSolving_X1_clearFlow : GoodIn wsX2_forgetSolving (wsV RX2 137 RX1 yX1_clearFlow wsX1_clearFlow) := goodIn_app (goodIn_of _ (by decide +kernel)) ggX2_forgetSolving_X1_clearFlow
set_option maxRecDepth 20000 in
theorem ggX2_findWay_X0_measureTo : GoodIn wsX2_findWay wsX0_measureTo := goodIn_r _ [8, 9, 10, 11, 7, 12, 13, 14, 15, 16, 17, 18, 19, 20, 21, 22, 23, 24, 25, 26, 27, 28, 29, 30, 31, 32, 33, 34, 35, 36, 37, 38, 39, 40, 41, 42, 43, 44, 45, 46, 47, 48, 49, 50, 51, 52, 53, 54, 55, 56, 57, 58, 59, 60, 61, 62, 63, 64, 65, 66, 67, 80, 81, 82, 83, 84, 85, 86, 87, 88, 89] (by decide +kernel) (by decide +kernel)
set_option maxRecDepth 20000 in
theorem gX2_findWay_X0_measureTo : GoodIn wsX2_findWay (wsV RX2 140 RX0 yX0_measureTo wsX0_measureTo) := goodIn_app (goodIn_of _ (by decide +kernel)) ggX2_findWay_X0_measureTo
set_option maxRecDepth 20000 in
theorem ggX2_findWay_X0_reaches : GoodIn wsX2_findWay wsX0_reaches := goodIn_r _ [58, 13, 14, 80, 81, 82] (by decide +kernel) (by decide +kernel)
set_option maxRecDepth 20000 in
theorem gX2_findWay_X0_reaches : GoodIn wsX2_findWay (wsV RX2 104 RX0 yX0_reaches wsX0_reaches) := goodIn_app (goodIn_of _ (by decide +kernel)) ggX2_findWay_X0_reaches
set_option maxRecDepth 20000 in
theorem ggX2_doRound_X2_traceWay : GoodIn wsX2_doRound wsX2_traceWay := goodIn_r _ [10, 1, 11, 12, 3, 13, 2, 14, 15, 16, 17, 18, 19, 20, 21, 22, 23, 24, 25, 26, 27, 28, 29, 30, 31, 32, 33, 34, 35, 36, 37, 38, 39, 40, 41, 42, 43, 44, 45, 46, 47, 48, 49, 50, 51, 52, 53, 54, 55, 56, 57, 71, 72, 73, 74, 75, 76, 77, 78, 79, 80, 81, 82, 83, 84, 85, 86, 87, 88, 89, 90, 91] (by decide +kernel) (by decide +kernel)
set_option maxRecDepth 20000 in
theorem gX2_doRound_X2_traceWay : GoodIn wsX2_doRound (wsV RX2 143 RX2 yX2_traceWay wsX2_traceWay) := goodIn_app (goodIn_of _ (by decide +kernel)) ggX2_doRound_X2_traceWay
set_option maxRecDepth 20000 in
theorem ggX2_doRound_X2_leastOnWay : GoodIn wsX2_doRound wsX2_leastOnWay := goodIn_r _ [61, 1, 2, 3, 62, 63, 64, 65, 66, 38, 39, 25, 40, 41, 42, 34, 35, 36, 71, 72, 73, 74, 75, 76, 77, 78, 79, 80, 81, 85, 86, 87, 88, 89, 90, 91] (by decide +kernel) (by decide +kernel)
set_option maxRecDepth 20000 in
theorem gX2_doRound_X2_leastOnWay : GoodIn wsX2_doRound (wsV RX2 146 RX2 yX2_leastOnWay wsX2_leastOnWay) := goodIn_app (goodIn_of _ (by decide +kernel)) ggX2_doRound_X2_leastOnWay
set_option maxRecDepth 20000 in
theorem ggX2_doRound_X1_send : GoodIn wsX2_doRound wsX1_send := goodIn_r _ [70, 41, 34, 35, 25, 36, 85, 86, 87, 88, 89, 90, 91] (by decide +kernel) (by decide +kernel)
set_option maxRecDepth 20000 in
theorem gX2_doRound_X1_send : GoodIn wsX2_doRound (wsV RX2 153 RX1 yX1_send wsX1_send) := goodIn_app (goodIn_of _ (by decide +kernel)) ggX2_doRound_X1_send
set_option maxRecDepth 20000 in
theorem ggX2_traceWay_X0_leastArcOnward : GoodIn wsX2_traceWay wsX0_leastArcOnward := goodIn_r _ [11, 12, 13, 14, 15, 16, 17, 18, 19, 20, 21, 22, 23, 24, 25, 26, 27, 28, 29, 30, 31, 32, 33, 34, 35, 36, 37, 38, 39, 40, 41, 42, 10, 43, 44, 45, 46, 47, 48, 49, 62, 63, 64, 65, 66, 67, 68, 69, 70, 71] (by decide +kernel) (by decide +kernel)
set_option maxRecDepth 20000 in
theorem gX2_traceWay_X0_leastArcOnward : GoodIn wsX2_traceWay (wsV RX2 156 RX0 yX0_leastArcOnward wsX0_leastArcOnward) := goodIn_app (goodIn_of _ (by decide +kernel)) ggX2_traceWay_X0_leastArcOnward
set_option maxRecDepth 20000 in
theorem ggX2_traceWay_X1_end : GoodIn wsX2_traceWay wsX1_end := goodIn_r _ [39, 26, 25, 27, 28, 18, 29, 65, 66, 67, 68, 69, 70, 71] (by decide +kernel) (by decide +kernel)
set_option maxRecDepth 20000 in
theorem gX2_traceWay_X1_end : GoodIn wsX2_traceWay (wsV RX2 160 RX1 yX1_end wsX1_end) := goodIn_app (goodIn_of _ (by decide +kernel)) ggX2_traceWay_X1_end
set_option maxRecDepth 20000 in
theorem ggX2_leastOnWay_X1_left : GoodIn wsX2_leastOnWay wsX1_left := goodIn_r _ [12, 13, 14, 15, 16, 11, 17, 29, 30, 31, 32, 33, 34, 35] (by decide +kernel) (by decide +kernel)
set_option maxRecDepth 20000 in
theorem gX2_leastOnWay_X1_left : GoodIn wsX2_leastOnWay (wsV RX2 163 RX1 yX1_left wsX1_left) := goodIn_app (goodIn_of _ (by decide +kernel)) ggX2_leastOnWay_X1_left
set_option maxRecDepth 20000 in
theorem ggX2_nodesPassOn_X1_surplus : GoodIn wsX2_nodesPassOn wsX1_surplus := goodIn_r _ [9, 10, 11, 12, 13, 25, 26, 27, 28, 29, 30, 31] (by decide +kernel) (by decide +kernel)
set_option maxRecDepth 20000 in
theorem gX2_nodesPassOn_X1_surplus : GoodIn wsX2_nodesPassOn (wsV RX2 169 RX1 yX1_surplus wsX1_surplus) := goodIn_app (goodIn_of _ (by decide +kernel)) ggX2_nodesPassOn_X1_surplus
set_option maxRecDepth 20000 in
theorem ggX2_cutIsTight_X0_reaches : GoodIn wsX2_cutIsTight wsX0_reaches := goodIn_r _ [13, 14, 15, 34, 35, 36] (by decide +kernel) (by decide +kernel)
set_option maxRecDepth 20000 in
theorem gX2_cutIsTight_X0_reaches : GoodIn wsX2_cutIsTight (wsV RX2 104 RX0 yX0_reaches wsX0_reaches) := goodIn_app (goodIn_of _ (by decide +kernel)) ggX2_cutIsTight_X0_reaches
set_option maxRecDepth 20000 in
theorem ggX2_potentialsHold_X1_arcs : GoodIn wsX2_potentialsHold wsX1_arcs := goodIn_r _ [8, 9, 55, 56, 57, 58, 59, 60, 61] (by decide +kernel) (by decide +kernel)
set_option maxRecDepth 20000 in
theorem gX2_potentialsHold_X1_arcs : GoodIn wsX2_potentialsHold (wsV RX2 179 RX1 yX1_arcs wsX1_arcs) := goodIn_app (goodIn_of _ (by decide +kernel)) ggX2_potentialsHold_X1_arcs
set_option maxRecDepth 20000 in
theorem ggX2_potentialsHold_X1_begin : GoodIn wsX2_potentialsHold wsX1_begin := goodIn_r _ [13, 14, 15, 16, 17, 7, 18, 55, 56, 57, 58, 59, 60, 61] (by decide +kernel) (by decide +kernel)
set_option maxRecDepth 20000 in
theorem gX2_potentialsHold_X1_begin : GoodIn wsX2_potentialsHold (wsV RX2 182 RX1 yX1_begin wsX1_begin) := goodIn_app (goodIn_of _ (by decide +kernel)) ggX2_potentialsHold_X1_begin
set_option maxRecDepth 20000 in
theorem ggX2_potentialsHold_X1_end : GoodIn wsX2_potentialsHold wsX1_end := goodIn_r _ [22, 15, 14, 16, 17, 7, 18, 55, 56, 57, 58, 59, 60, 61] (by decide +kernel) (by decide +kernel)
set_option maxRecDepth 20000 in
theorem gX2_potentialsHold_X1_end : GoodIn wsX2_potentialsHold (wsV RX2 160 RX1 yX1_end wsX1_end) := goodIn_app (goodIn_of _ (by decide +kernel)) ggX2_potentialsHold_X1_end
set_option maxRecDepth 20000 in
theorem ggX2_potentialsHold_X1_left : GoodIn wsX2_potentialsHold wsX1_left := goodIn_r _ [26, 27, 28, 16, 17, 7, 18, 55, 56, 57, 58, 59, 60, 61] (by decide +kernel) (by decide +kernel)
set_option maxRecDepth 20000 in
theorem gX2_potentialsHold_X1_left : GoodIn wsX2_potentialsHold (wsV RX2 163 RX1 yX1_left wsX1_left) := goodIn_app (goodIn_of _ (by decide +kernel)) ggX2_potentialsHold_X1_left
set_option maxRecDepth 20000 in
theorem ggX2_potentialsHold_X0_reaches : GoodIn wsX2_potentialsHold wsX0_reaches := goodIn_r _ [33, 34, 35, 52, 53, 54] (by decide +kernel) (by decide +kernel)
set_option maxRecDepth 20000 in
theorem gX2_potentialsHold_X0_reaches : GoodIn wsX2_potentialsHold (wsV RX2 104 RX0 yX0_reaches wsX0_reaches) := goodIn_app (goodIn_of _ (by decide +kernel)) ggX2_potentialsHold_X0_reaches
set_option maxRecDepth 20000 in
theorem ggX2_potentialsHold_X1_price : GoodIn wsX2_potentialsHold wsX1_price := goodIn_r _ [39, 40, 16, 17, 7, 18, 55, 56, 57, 58, 59, 60, 61] (by decide +kernel) (by decide +kernel)
set_option maxRecDepth 20000 in
theorem gX2_potentialsHold_X1_price : GoodIn wsX2_potentialsHold (wsV RX2 185 RX1 yX1_price wsX1_price) := goodIn_app (goodIn_of _ (by decide +kernel)) ggX2_potentialsHold_X1_price
set_option maxRecDepth 20000 in
theorem ggX3_edge_X3_isNode : GoodIn wsX3_edge wsX3_isNode := goodIn_r _ [14, 15, 24, 25, 26, 27, 28, 29, 30, 31, 32, 33, 34, 35, 36, 37, 38, 39, 40, 41, 42] (by decide +kernel) (by decide +kernel)
set_option maxRecDepth 20000 in
theorem gX3_edge_X3_isNode : GoodIn wsX3_edge (wsV RX3 59 RX3 yX3_isNode wsX3_isNode) := goodIn_app (goodIn_of _ (by decide +kernel)) ggX3_edge_X3_isNode
set_option maxRecDepth 20000 in
theorem ggX3_edge_X3_gone : GoodIn wsX3_edge wsX3_gone := goodIn_r _ [19, 20, 21, 22, 2, 23, 24, 25, 26, 27, 28, 29, 30, 31, 32, 33, 34, 35, 36, 37, 38, 39, 40, 41, 42] (by decide +kernel) (by decide +kernel)
set_option maxRecDepth 20000 in
theorem gX3_edge_X3_gone : GoodIn wsX3_edge (wsV RX3 70 RX3 yX3_gone wsX3_gone) := goodIn_app (goodIn_of _ (by decide +kernel)) ggX3_edge_X3_gone
set_option maxRecDepth 20000 in
theorem ggX3_ends_X3_isNode : GoodIn wsX3_ends wsX3_isNode := goodIn_r _ [8, 9, 19, 20, 21, 22, 23, 24, 25, 26, 27, 28, 29, 30, 31, 32, 33, 34, 35, 36, 37] (by decide +kernel) (by decide +kernel)
set_option maxRecDepth 20000 in
theorem gX3_ends_X3_isNode : GoodIn wsX3_ends (wsV RX3 59 RX3 yX3_isNode wsX3_isNode) := goodIn_app (goodIn_of _ (by decide +kernel)) ggX3_ends_X3_isNode
set_option maxRecDepth 20000 in
theorem ggX3_ends_X3_gone : GoodIn wsX3_ends wsX3_gone := goodIn_r _ [13, 14, 15, 16, 17, 18, 19, 20, 21, 22, 23, 24, 25, 26, 27, 28, 29, 30, 31, 32, 33, 34, 35, 36, 37] (by decide +kernel) (by decide +kernel)
set_option maxRecDepth 20000 in
theorem gX3_ends_X3_gone : GoodIn wsX3_ends (wsV RX3 70 RX3 yX3_gone wsX3_gone) := goodIn_app (goodIn_of _ (by decide +kernel)) ggX3_ends_X3_gone
set_option maxRecDepth 20000 in
theorem ggX3_findWays_X3_begin : GoodIn wsX3_findWays wsX3_begin := goodIn_r _ [12, 13, 14, 30, 31, 32, 33, 34, 35, 36, 37, 38, 39, 40, 41, 42, 43, 44, 45, 46, 47, 48] (by decide +kernel) (by decide +kernel)
set_option maxRecDepth 20000 in
theorem gX3_findWays_X3_begin : GoodIn wsX3_findWays (wsV RX3 82 RX3 yX3_begin wsX3_begin) := goodIn_app (goodIn_of _ (by decide +kernel)) ggX3_findWays_X3_begin
set_option maxRecDepth 20000 in
theorem ggX3_findWays_X3_end : GoodIn wsX3_findWays wsX3_end := goodIn_r _ [18, 14, 13, 30, 31, 32, 33, 34, 35, 36, 37, 38, 39, 40, 41, 42, 43, 44, 45, 46, 47, 48] (by decide +kernel) (by decide +kernel)
set_option maxRecDepth 20000 in
theorem gX3_findWays_X3_end : GoodIn wsX3_findWays (wsV RX3 86 RX3 yX3_end wsX3_end) := goodIn_app (goodIn_of _ (by decide +kernel)) ggX3_findWays_X3_end
set_option maxRecDepth 20000 in
theorem ggX3_findWays_X3_left : GoodIn wsX3_findWays wsX3_left := goodIn_r _ [22, 23, 24, 30, 31, 32, 33, 34, 35, 36, 37, 38, 39, 40, 41, 42, 43, 44, 45, 46, 47, 48] (by decide +kernel) (by decide +kernel)
set_option maxRecDepth 20000 in
theorem gX3_findWays_X3_left : GoodIn wsX3_findWays (wsV RX3 89 RX3 yX3_left wsX3_left) := goodIn_app (goodIn_of _ (by decide +kernel)) ggX3_findWays_X3_left
set_option maxRecDepth 20000 in
theorem ggX3_findWays_X3_costOf : GoodIn wsX3_findWays wsX3_costOf := goodIn_r _ [28, 29, 30, 31, 32, 33, 34, 35, 36, 37, 38, 39, 40, 41, 42, 43, 44, 45, 46, 47, 48] (by decide +kernel) (by decide +kernel)
set_option maxRecDepth 20000 in
theorem gX3_findWays_X3_costOf : GoodIn wsX3_findWays (wsV RX3 92 RX3 yX3_costOf wsX3_costOf) := goodIn_app (goodIn_of _ (by decide +kernel)) ggX3_findWays_X3_costOf
set_option maxRecDepth 20000 in
theorem ggX3_nextArc_X3_end : GoodIn wsX3_nextArc wsX3_end := goodIn_r _ [9, 10, 11, 27, 28, 29, 30, 31, 32, 33, 34, 35, 36, 37, 38, 39, 40, 41, 42, 43, 44, 45] (by decide +kernel) (by decide +kernel)
set_option maxRecDepth 20000 in
theorem gX3_nextArc_X3_end : GoodIn wsX3_nextArc (wsV RX3 86 RX3 yX3_end wsX3_end) := goodIn_app (goodIn_of _ (by decide +kernel)) ggX3_nextArc_X3_end
set_option maxRecDepth 20000 in
theorem ggX3_nextArc_X3_begin : GoodIn wsX3_nextArc wsX3_begin := goodIn_r _ [15, 11, 10, 27, 28, 29, 30, 31, 32, 33, 34, 35, 36, 37, 38, 39, 40, 41, 42, 43, 44, 45] (by decide +kernel) (by decide +kernel)
set_option maxRecDepth 20000 in
theorem gX3_nextArc_X3_begin : GoodIn wsX3_nextArc (wsV RX3 82 RX3 yX3_begin wsX3_begin) := goodIn_app (goodIn_of _ (by decide +kernel)) ggX3_nextArc_X3_begin
set_option maxRecDepth 20000 in
theorem ggX3_nextArc_X3_left : GoodIn wsX3_nextArc wsX3_left := goodIn_r _ [19, 20, 21, 27, 28, 29, 30, 31, 32, 33, 34, 35, 36, 37, 38, 39, 40, 41, 42, 43, 44, 45] (by decide +kernel) (by decide +kernel)
set_option maxRecDepth 20000 in
theorem gX3_nextArc_X3_left : GoodIn wsX3_nextArc (wsV RX3 89 RX3 yX3_left wsX3_left) := goodIn_app (goodIn_of _ (by decide +kernel)) ggX3_nextArc_X3_left
set_option maxRecDepth 20000 in
theorem ggX3_nextArc_X3_costOf : GoodIn wsX3_nextArc wsX3_costOf := goodIn_r _ [25, 26, 27, 28, 29, 30, 31, 32, 33, 34, 35, 36, 37, 38, 39, 40, 41, 42, 43, 44, 45] (by decide +kernel) (by decide +kernel)
set_option maxRecDepth 20000 in
theorem gX3_nextArc_X3_costOf : GoodIn wsX3_nextArc (wsV RX3 92 RX3 yX3_costOf wsX3_costOf) := goodIn_app (goodIn_of _ (by decide +kernel)) ggX3_nextArc_X3_costOf
set_option maxRecDepth 20000 in
theorem ggX3_round_X3_nextArc : GoodIn wsX3_round wsX3_nextArc := goodIn_r _ [13, 14, 15, 16, 4, 17, 18, 19, 12, 20, 21, 22, 23, 24, 25, 26, 27, 28, 29, 30, 31, 6, 32, 33, 34, 35, 36, 37, 38, 39, 40, 41, 42, 43, 44, 45, 46, 47, 48, 49, 50, 51, 52, 53, 54, 55] (by decide +kernel) (by decide +kernel)
set_option maxRecDepth 20000 in
theorem gX3_round_X3_nextArc : GoodIn wsX3_round (wsV RX3 96 RX3 yX3_nextArc wsX3_nextArc) := goodIn_app (goodIn_of _ (by decide +kernel)) ggX3_round_X3_nextArc
set_option maxRecDepth 20000 in
theorem ggX3_round_X3_left : GoodIn wsX3_round wsX3_left := goodIn_r _ [30, 31, 6, 37, 38, 39, 40, 41, 42, 43, 44, 45, 46, 47, 48, 49, 50, 51, 52, 53, 54, 55] (by decide +kernel) (by decide +kernel)
set_option maxRecDepth 20000 in
theorem gX3_round_X3_left : GoodIn wsX3_round (wsV RX3 89 RX3 yX3_left wsX3_left) := goodIn_app (goodIn_of _ (by decide +kernel)) ggX3_round_X3_left
set_option maxRecDepth 20000 in
theorem ggX3_round_X3_end : GoodIn wsX3_round wsX3_end := goodIn_r _ [20, 21, 22, 37, 38, 39, 40, 41, 42, 43, 44, 45, 46, 47, 48, 49, 50, 51, 52, 53, 54, 55] (by decide +kernel) (by decide +kernel)
set_option maxRecDepth 20000 in
theorem gX3_round_X3_end : GoodIn wsX3_round (wsV RX3 86 RX3 yX3_end wsX3_end) := goodIn_app (goodIn_of _ (by decide +kernel)) ggX3_round_X3_end
set_option maxRecDepth 20000 in
theorem ggX3_run_X3_hasCircle : GoodIn wsX3_run wsX3_hasCircle := goodIn_r _ [7, 8, 9, 10, 11, 12, 13, 14, 52, 53, 54, 55, 56, 57, 58, 59, 60, 61, 62, 63, 64, 65, 66, 67, 68, 69, 70] (by decide +kernel) (by decide +kernel)
set_option maxRecDepth 20000 in
theorem gX3_run_X3_hasCircle : GoodIn wsX3_run (wsV RX3 99 RX3 yX3_hasCircle wsX3_hasCircle) := goodIn_app (goodIn_of _ (by decide +kernel)) ggX3_run_X3_hasCircle
set_option maxRecDepth 20000 in
theorem ggX3_run_X3_findWays : GoodIn wsX3_run wsX3_findWays := goodIn_r _ [18, 8, 19, 20, 9, 21, 10, 22, 23, 24, 25, 6, 26, 12, 14, 27, 28, 29, 30, 31, 32, 33, 34, 11, 35, 36, 37, 38, 39, 13, 52, 53, 54, 55, 56, 57, 58, 59, 60, 61, 62, 63, 64, 65, 66, 67, 68, 69, 70] (by decide +kernel) (by decide +kernel)
set_option maxRecDepth 20000 in
theorem gX3_run_X3_findWays : GoodIn wsX3_run (wsV RX3 103 RX3 yX3_findWays wsX3_findWays) := goodIn_app (goodIn_of _ (by decide +kernel)) ggX3_run_X3_findWays
set_option maxRecDepth 20000 in
theorem ggX3_run_X3_round : GoodIn wsX3_run wsX3_round := goodIn_r _ [43, 44, 22, 20, 21, 45, 35, 46, 47, 48, 49, 50, 6, 51, 10, 19, 9, 27, 28, 29, 30, 14, 12, 23, 24, 25, 26, 31, 32, 33, 34, 11, 36, 37, 38, 39, 13, 52, 53, 54, 55, 56, 57, 58, 59, 60, 61, 62, 63, 64, 65, 66, 67, 68, 69, 70] (by decide +kernel) (by decide +kernel)
set_option maxRecDepth 20000 in
theorem gX3_run_X3_round : GoodIn wsX3_run (wsV RX3 106 RX3 yX3_round wsX3_round) := goodIn_app (goodIn_of _ (by decide +kernel)) ggX3_run_X3_round
set_option maxRecDepth 20000 in
theorem ggX3_findCosts_X3_begin : GoodIn wsX3_findCosts wsX3_begin := goodIn_r _ [10, 11, 12, 28, 29, 30, 31, 32, 33, 34, 35, 36, 37, 38, 39, 40, 41, 42, 43, 44, 45, 46] (by decide +kernel) (by decide +kernel)
set_option maxRecDepth 20000 in
theorem gX3_findCosts_X3_begin : GoodIn wsX3_findCosts (wsV RX3 82 RX3 yX3_begin wsX3_begin) := goodIn_app (goodIn_of _ (by decide +kernel)) ggX3_findCosts_X3_begin
set_option maxRecDepth 20000 in
theorem ggX3_findCosts_X3_end : GoodIn wsX3_findCosts wsX3_end := goodIn_r _ [16, 12, 11, 28, 29, 30, 31, 32, 33, 34, 35, 36, 37, 38, 39, 40, 41, 42, 43, 44, 45, 46] (by decide +kernel) (by decide +kernel)
set_option maxRecDepth 20000 in
theorem gX3_findCosts_X3_end : GoodIn wsX3_findCosts (wsV RX3 86 RX3 yX3_end wsX3_end) := goodIn_app (goodIn_of _ (by decide +kernel)) ggX3_findCosts_X3_end
set_option maxRecDepth 20000 in
theorem ggX3_findCosts_X3_left : GoodIn wsX3_findCosts wsX3_left := goodIn_r _ [20, 21, 22, 28, 29, 30, 31, 32, 33, 34, 35, 36, 37, 38, 39, 40, 41, 42, 43, 44, 45, 46] (by decide +kernel) (by decide +kernel)
set_option maxRecDepth 20000 in
theorem gX3_findCosts_X3_left : GoodIn wsX3_findCosts (wsV RX3 89 RX3 yX3_left wsX3_left) := goodIn_app (goodIn_of _ (by decide +kernel)) ggX3_findCosts_X3_left
set_option maxRecDepth 20000 in
theorem ggX3_findCosts_X3_costOf : GoodIn wsX3_findCosts wsX3_costOf := goodIn_r _ [26, 27, 28, 29, 30, 31, 32, 33, 34, 35, 36, 37, 38, 39, 40, 41, 42, 43, 44, 45, 46] (by decide +kernel) (by decide +kernel)
set_option maxRecDepth 20000 in
theorem gX3_findCosts_X3_costOf : GoodIn wsX3_findCosts (wsV RX3 92 RX3 yX3_costOf wsX3_costOf) := goodIn_app (goodIn_of _ (by decide +kernel)) ggX3_findCosts_X3_costOf
set_option maxRecDepth 20000 in
theorem ggX3_potential_X3_isNode : GoodIn wsX3_potential wsX3_isNode := goodIn_r _ [9, 10, 38, 39, 40, 41, 42, 43, 44, 45, 46, 47, 48, 49, 50, 51, 52, 53, 54, 55, 56] (by decide +kernel) (by decide +kernel)
set_option maxRecDepth 20000 in
theorem gX3_potential_X3_isNode : GoodIn wsX3_potential (wsV RX3 59 RX3 yX3_isNode wsX3_isNode) := goodIn_app (goodIn_of _ (by decide +kernel)) ggX3_potential_X3_isNode
set_option maxRecDepth 20000 in
theorem ggX3_potential_X3_findCosts : GoodIn wsX3_potential wsX3_findCosts := goodIn_r _ [14, 10, 2, 15, 3, 16, 17, 18, 19, 8, 20, 21, 22, 23, 24, 25, 26, 27, 28, 29, 30, 31, 32, 33, 34, 35, 36, 37, 38, 39, 40, 41, 42, 43, 44, 45, 46, 47, 48, 49, 50, 51, 52, 53, 54, 55, 56] (by decide +kernel) (by decide +kernel)
set_option maxRecDepth 20000 in
theorem gX3_potential_X3_findCosts : GoodIn wsX3_potential (wsV RX3 109 RX3 yX3_findCosts wsX3_findCosts) := goodIn_app (goodIn_of _ (by decide +kernel)) ggX3_potential_X3_findCosts
set_option maxRecDepth 20000 in
theorem ggX3_inCut_X3_isNode : GoodIn wsX3_inCut wsX3_isNode := goodIn_r _ [7, 8, 37, 38, 39, 40, 41, 42, 43, 44, 45, 46, 47, 48, 49, 50, 51, 52, 53, 54, 55] (by decide +kernel) (by decide +kernel)
set_option maxRecDepth 20000 in
theorem gX3_inCut_X3_isNode : GoodIn wsX3_inCut (wsV RX3 59 RX3 yX3_isNode wsX3_isNode) := goodIn_app (goodIn_of _ (by decide +kernel)) ggX3_inCut_X3_isNode
set_option maxRecDepth 20000 in
theorem ggX3_inCut_X3_findCosts : GoodIn wsX3_inCut wsX3_findCosts := goodIn_r _ [12, 8, 2, 13, 14, 15, 16, 17, 18, 6, 19, 20, 21, 22, 23, 24, 25, 26, 27, 28, 29, 30, 31, 32, 33, 34, 35, 36, 37, 38, 39, 40, 41, 42, 43, 44, 45, 46, 47, 48, 49, 50, 51, 52, 53, 54, 55] (by decide +kernel) (by decide +kernel)
set_option maxRecDepth 20000 in
theorem gX3_inCut_X3_findCosts : GoodIn wsX3_inCut (wsV RX3 109 RX3 yX3_findCosts wsX3_findCosts) := goodIn_app (goodIn_of _ (by decide +kernel)) ggX3_inCut_X3_findCosts
set_option maxRecDepth 20000 in
theorem ggX3_check_X3_findCosts : GoodIn wsX3_check wsX3_findCosts := goodIn_r _ [17, 8, 5, 9, 11, 2, 18, 19, 20, 16, 21, 6, 7, 22, 23, 24, 25, 26, 27, 28, 29, 4, 3, 30, 31, 32, 33, 34, 35, 36, 37, 38, 39, 40, 41, 42, 43, 44, 45, 46, 47, 48, 49, 50, 51, 52, 53] (by decide +kernel) (by decide +kernel)
set_option maxRecDepth 20000 in
theorem gX3_check_X3_findCosts : GoodIn wsX3_check (wsV RX3 109 RX3 yX3_findCosts wsX3_findCosts) := goodIn_app (goodIn_of _ (by decide +kernel)) ggX3_check_X3_findCosts
set_option maxRecDepth 20000 in
theorem ggX3_check_X3_left : GoodIn wsX3_check wsX3_left := goodIn_r _ [29, 4, 3, 35, 36, 37, 38, 39, 40, 41, 42, 43, 44, 45, 46, 47, 48, 49, 50, 51, 52, 53] (by decide +kernel) (by decide +kernel)
set_option maxRecDepth 20000 in
theorem gX3_check_X3_left : GoodIn wsX3_check (wsV RX3 89 RX3 yX3_left wsX3_left) := goodIn_app (goodIn_of _ (by decide +kernel)) ggX3_check_X3_left
set_option maxRecDepth 20000 in
theorem ggX3_check_X3_begin : GoodIn wsX3_check wsX3_begin := goodIn_r _ [21, 6, 7, 35, 36, 37, 38, 39, 40, 41, 42, 43, 44, 45, 46, 47, 48, 49, 50, 51, 52, 53] (by decide +kernel) (by decide +kernel)
set_option maxRecDepth 20000 in
theorem gX3_check_X3_begin : GoodIn wsX3_check (wsV RX3 82 RX3 yX3_begin wsX3_begin) := goodIn_app (goodIn_of _ (by decide +kernel)) ggX3_check_X3_begin
set_option maxRecDepth 20000 in
theorem ggX3_check_X3_end : GoodIn wsX3_check wsX3_end := goodIn_r _ [25, 7, 6, 35, 36, 37, 38, 39, 40, 41, 42, 43, 44, 45, 46, 47, 48, 49, 50, 51, 52, 53] (by decide +kernel) (by decide +kernel)
set_option maxRecDepth 20000 in
theorem gX3_check_X3_end : GoodIn wsX3_check (wsV RX3 86 RX3 yX3_end wsX3_end) := goodIn_app (goodIn_of _ (by decide +kernel)) ggX3_check_X3_end
set_option maxRecDepth 20000 in
theorem ggX3_check_X3_costOf : GoodIn wsX3_check wsX3_costOf := goodIn_r _ [33, 34, 35, 36, 37, 38, 39, 40, 41, 42, 43, 44, 45, 46, 47, 48, 49, 50, 51, 52, 53] (by decide +kernel) (by decide +kernel)
set_option maxRecDepth 20000 in
theorem gX3_check_X3_costOf : GoodIn wsX3_check (wsV RX3 92 RX3 yX3_costOf wsX3_costOf) := goodIn_app (goodIn_of _ (by decide +kernel)) ggX3_check_X3_costOf
set_option maxRecDepth 20000 in
theorem ggX3_next_X3_hasCircle : GoodIn wsX3_next wsX3_hasCircle := goodIn_r _ [9, 10, 3, 11, 12, 13, 14, 15, 40, 41, 42, 43, 44, 45, 46, 47, 48, 49, 50, 51, 52, 53, 54, 55, 56, 57, 58] (by decide +kernel) (by decide +kernel)
set_option maxRecDepth 20000 in
theorem gX3_next_X3_hasCircle : GoodIn wsX3_next (wsV RX3 99 RX3 yX3_hasCircle wsX3_hasCircle) := goodIn_app (goodIn_of _ (by decide +kernel)) ggX3_next_X3_hasCircle
set_option maxRecDepth 20000 in
theorem ggX3_next_X3_findWays : GoodIn wsX3_next wsX3_findWays := goodIn_r _ [19, 10, 20, 21, 3, 22, 11, 4, 23, 24, 25, 8, 26, 13, 15, 27, 28, 29, 30, 31, 32, 33, 34, 12, 35, 36, 37, 38, 39, 14, 40, 41, 42, 43, 44, 45, 46, 47, 48, 49, 50, 51, 52, 53, 54, 55, 56, 57, 58] (by decide +kernel) (by decide +kernel)
set_option maxRecDepth 20000 in
theorem gX3_next_X3_findWays : GoodIn wsX3_next (wsV RX3 103 RX3 yX3_findWays wsX3_findWays) := goodIn_app (goodIn_of _ (by decide +kernel)) ggX3_next_X3_findWays
