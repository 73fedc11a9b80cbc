set_option maxRecDepth 20000 in
theorem ggX0_isOf_X8_above : GoodIn wsX0_isOf wsX8_above := goodIn_r _ [4, 5, 6, 7, 3, 8] (by decide +kernel) (by decide +kernel)
set_option maxRecDepth 20000 in
theorem gX0_isOf_X8_above_n30 : GoodIn wsX0_isOf (wsX8_above) := ggX0_isOf_X8_above
set_option maxRecDepth 20000 in
theorem ggX0_isInForce_X0_daysOn : GoodIn wsX0_isInForce wsX0_daysOn := goodIn_r _ [8, 9, 26, 27, 28, 29, 30, 31] (by decide +kernel) (by decide +kernel)
set_option maxRecDepth 20000 in
theorem gX0_isInForce_X0_daysOn : GoodIn wsX0_isInForce (wsV RX0 34 RX0 yX0_daysOn wsX0_daysOn) := goodIn_app (goodIn_of _ (by decide +kernel)) ggX0_isInForce_X0_daysOn
set_option maxRecDepth 20000 in
theorem ggX0_isInForce_X0_isNightmare : GoodIn wsX0_isInForce wsX0_isNightmare := goodIn_r _ [13, 3, 14, 15, 16, 7, 17, 26, 27, 28, 29, 30, 31] (by decide +kernel) (by decide +kernel)
set_option maxRecDepth 20000 in
theorem gX0_isInForce_X0_isNightmare : GoodIn wsX0_isInForce (wsV RX0 37 RX0 yX0_isNightmare wsX0_isNightmare) := goodIn_app (goodIn_of _ (by decide +kernel)) ggX0_isInForce_X0_isNightmare
set_option maxRecDepth 20000 in
theorem ggX0_isInForce_X0_isNap : GoodIn wsX0_isInForce wsX0_isNap := goodIn_r _ [21, 3, 26, 27, 28, 29, 30, 31] (by decide +kernel) (by decide +kernel)
set_option maxRecDepth 20000 in
theorem gX0_isInForce_X0_isNap : GoodIn wsX0_isInForce (wsV RX0 41 RX0 yX0_isNap wsX0_isNap) := goodIn_app (goodIn_of _ (by decide +kernel)) ggX0_isInForce_X0_isNap
set_option maxRecDepth 20000 in
theorem ggX0_isInForce_X0_comesAgain : GoodIn wsX0_isInForce wsX0_comesAgain := goodIn_r _ [25] (by decide +kernel) (by decide +kernel)
set_option maxRecDepth 20000 in
theorem gX0_isInForce_X0_comesAgain : GoodIn wsX0_isInForce (wsV RX0 45 RX0 yX0_comesAgain wsX0_comesAgain) := goodIn_app (goodIn_of _ (by decide +kernel)) ggX0_isInForce_X0_comesAgain
set_option maxRecDepth 20000 in
theorem ggX0_isInForce_X0_isAwake : GoodIn wsX0_isInForce wsX0_isAwake := goodIn_r _ [17] (by decide +kernel) (by decide +kernel)
set_option maxRecDepth 20000 in
theorem gX0_isInForce_X0_isAwake : GoodIn wsX0_isInForce (wsV RX0 48 RX0 yX0_isAwake wsX0_isAwake) := goodIn_app (goodIn_of _ (by decide +kernel)) ggX0_isInForce_X0_isAwake
set_option maxRecDepth 20000 in
theorem ggX0_isNightmare_X0_isAwake : GoodIn wsX0_isNightmare wsX0_isAwake := goodIn_r _ [6] (by decide +kernel) (by decide +kernel)
set_option maxRecDepth 20000 in
theorem gX0_isNightmare_X0_isAwake : GoodIn wsX0_isNightmare (wsV RX0 48 RX0 yX0_isAwake wsX0_isAwake) := goodIn_app (goodIn_of _ (by decide +kernel)) ggX0_isNightmare_X0_isAwake
set_option maxRecDepth 20000 in
theorem ggX2_init_X0_init : GoodIn wsX2_init wsX0_init := goodIn_r _ [23, 24, 2, 3] (by decide +kernel) (by decide +kernel)
set_option maxRecDepth 20000 in
theorem gX2_init_X0_init_n44 : GoodIn wsX2_init (wsX0_init) := ggX2_init_X0_init
set_option maxRecDepth 20000 in
theorem ggX2_init_X1_init : GoodIn wsX2_init wsX1_init := goodIn_r _ [26, 27, 2, 3] (by decide +kernel) (by decide +kernel)
set_option maxRecDepth 20000 in
theorem gX2_init_X1_init_n45 : GoodIn wsX2_init (wsX1_init) := ggX2_init_X1_init
set_option maxRecDepth 20000 in
theorem ggX2_init_X6_init : GoodIn wsX2_init wsX6_init := goodIn_r _ [29, 30, 2, 3, 14, 31, 32, 53, 54, 55, 56] (by decide +kernel) (by decide +kernel)
set_option maxRecDepth 20000 in
theorem gX2_init_X6_init_n46 : GoodIn wsX2_init (wsX6_init) := ggX2_init_X6_init
set_option maxRecDepth 20000 in
theorem ggX2_takeAll_X0_take : GoodIn wsX2_takeAll wsX0_take := goodIn_r _ [24, 25, 26, 27, 28, 29, 30, 70, 71, 72, 73, 74, 75] (by decide +kernel) (by decide +kernel)
set_option maxRecDepth 20000 in
theorem gX2_takeAll_X0_take : GoodIn wsX2_takeAll (wsV RX2 50 RX0 yX0_take wsX0_take) := goodIn_app (goodIn_of _ (by decide +kernel)) ggX2_takeAll_X0_take
set_option maxRecDepth 20000 in
theorem ggX2_takeAll_X1_take : GoodIn wsX2_takeAll wsX1_take := goodIn_r _ [35, 36, 37, 76, 77] (by decide +kernel) (by decide +kernel)
set_option maxRecDepth 20000 in
theorem gX2_takeAll_X1_take : GoodIn wsX2_takeAll (wsV RX2 57 RX1 yX1_take wsX1_take) := goodIn_app (goodIn_of _ (by decide +kernel)) ggX2_takeAll_X1_take
set_option maxRecDepth 20000 in
theorem ggX2_takeAll_X6_take : GoodIn wsX2_takeAll wsX6_take := goodIn_r _ [42, 43, 44, 45, 46, 47, 48, 49, 50, 51, 14, 15, 16, 52, 53, 66, 67, 68, 69] (by decide +kernel) (by decide +kernel)
set_option maxRecDepth 20000 in
theorem gX2_takeAll_X6_take : GoodIn wsX2_takeAll (wsV RX2 69 RX6 yX6_take wsX6_take) := goodIn_app (goodIn_of _ (by decide +kernel)) ggX2_takeAll_X6_take
set_option maxRecDepth 20000 in
theorem ggX2_gives_X6_value : GoodIn wsX2_gives wsX6_value := goodIn_r _ [7, 8, 9, 10, 11, 12, 6, 13, 14, 15, 16, 40, 41, 42, 43] (by decide +kernel) (by decide +kernel)
set_option maxRecDepth 20000 in
theorem gX2_gives_X6_value : GoodIn wsX2_gives (wsV RX2 112 RX6 yX6_value wsX6_value) := goodIn_app (goodIn_of _ (by decide +kernel)) ggX2_gives_X6_value
set_option maxRecDepth 20000 in
theorem ggX2_gives_X2_held : GoodIn wsX2_gives wsX2_held := goodIn_r _ [20, 21, 22, 23, 24, 25, 26, 27] (by decide +kernel) (by decide +kernel)
set_option maxRecDepth 20000 in
theorem gX2_gives_X2_held : GoodIn wsX2_gives (va_wsS RX2 116 yX2_held wsX2_held) := goodIn_app (goodIn_of _ (by decide +kernel)) ggX2_gives_X2_held
set_option maxRecDepth 20000 in
theorem ggX2_weight_X0_daysOn : GoodIn wsX2_weight wsX0_daysOn := goodIn_r _ [7, 8, 40, 41, 42, 43, 44, 45] (by decide +kernel) (by decide +kernel)
set_option maxRecDepth 20000 in
theorem gX2_weight_X0_daysOn : GoodIn wsX2_weight (wsV RX2 128 RX0 yX0_daysOn wsX0_daysOn) := goodIn_app (goodIn_of _ (by decide +kernel)) ggX2_weight_X0_daysOn
set_option maxRecDepth 20000 in
theorem ggX2_weight_X2_gives : GoodIn wsX2_weight wsX2_gives := goodIn_r _ [13, 14, 15, 16, 17, 18, 19, 20, 21, 22, 23, 24, 25, 26, 27, 28, 29, 30, 31, 12, 32, 33, 34, 35, 36, 37, 38, 39, 46, 47, 48, 49, 50, 51, 52, 53, 54, 55, 56, 57, 58, 59, 60, 61] (by decide +kernel) (by decide +kernel)
set_option maxRecDepth 20000 in
theorem gX2_weight_X2_gives : GoodIn wsX2_weight (wsV RX2 132 RX2 yX2_gives wsX2_gives) := goodIn_app (goodIn_of _ (by decide +kernel)) ggX2_weight_X2_gives
set_option maxRecDepth 20000 in
theorem ggX2_fine_X4_guilt : GoodIn wsX2_fine wsX4_guilt := goodIn_r _ [7, 8, 9, 10, 11, 12, 13, 14, 15, 16, 50, 51, 52, 53, 54, 55, 56, 57] (by decide +kernel) (by decide +kernel)
set_option maxRecDepth 20000 in
theorem gX2_fine_X4_guilt : GoodIn wsX2_fine (wsV RX2 136 RX4 yX4_guilt wsX4_guilt) := goodIn_app (goodIn_of _ (by decide +kernel)) ggX2_fine_X4_guilt
set_option maxRecDepth 20000 in
theorem ggX2_fine_X2_gives : GoodIn wsX2_fine wsX2_gives := goodIn_r _ [21, 22, 23, 24, 25, 26, 27, 28, 29, 30, 31, 32, 33, 34, 35, 36, 37, 38, 39, 20, 40, 41, 42, 43, 44, 45, 46, 47, 58, 59, 60, 61, 62, 63, 64, 65, 66, 67, 68, 69, 70, 71, 72, 73] (by decide +kernel) (by decide +kernel)
set_option maxRecDepth 20000 in
theorem gX2_fine_X2_gives : GoodIn wsX2_fine (wsV RX2 132 RX2 yX2_gives wsX2_gives) := goodIn_app (goodIn_of _ (by decide +kernel)) ggX2_fine_X2_gives
set_option maxRecDepth 20000 in
theorem ggX2_goAnHour_X4_look : GoodIn wsX2_goAnHour wsX4_look := goodIn_r _ [13, 14, 15, 16, 17, 18, 19, 20, 21, 22, 23, 24, 25, 7, 26, 27, 28, 29, 30, 31, 32, 33, 34, 35, 36, 37, 38, 39, 40, 41, 42, 43, 44, 45, 46, 47, 48, 49, 50, 51, 52, 53, 54, 55, 56, 57, 58, 59, 60, 61, 62, 63, 64, 65, 66, 67, 68, 69, 70, 71, 72, 73, 74, 75, 76, 77, 78, 79, 80, 81, 82, 83, 84, 85, 86, 87, 88, 89, 90, 91, 92, 5, 6, 8, 93, 94, 95, 96, 12, 97, 98, 99, 100, 132, 133, 134, 135, 136, 137, 138, 139, 118, 119, 120, 121, 122, 123, 124, 125, 126, 127, 128, 129, 140, 141, 142, 143, 144, 145, 146, 147, 148, 149] (by decide +kernel) (by decide +kernel)
set_option maxRecDepth 20000 in
theorem gX2_goAnHour_X4_look : GoodIn wsX2_goAnHour (wsV RX2 144 RX4 yX4_look wsX4_look) := goodIn_app (goodIn_of _ (by decide +kernel)) ggX2_goAnHour_X4_look
set_option maxRecDepth 20000 in
theorem ggX2_goAnHour_X2_fine : GoodIn wsX2_goAnHour wsX2_fine := goodIn_r _ [104, 105, 106, 107, 108, 109, 12, 110, 99, 98, 111, 112, 113, 114, 115, 116, 117, 70, 71, 72, 65, 73, 74, 75, 76, 77, 78, 79, 80, 81, 82, 83, 84, 85, 86, 87, 88, 89, 90, 91, 92, 5, 6, 7, 8, 93, 25, 26, 130, 131, 132, 133, 134, 135, 136, 137, 138, 139, 118, 119, 120, 121, 122, 123, 124, 125, 126, 127, 128, 129, 146, 147, 148, 149] (by decide +kernel) (by decide +kernel)
set_option maxRecDepth 20000 in
theorem gX2_goAnHour_X2_fine : GoodIn wsX2_goAnHour (wsV RX2 148 RX2 yX2_fine wsX2_fine) := goodIn_app (goodIn_of _ (by decide +kernel)) ggX2_goAnHour_X2_fine
set_option maxRecDepth 20000 in
theorem ggX2_dreamByDraws_X2_draw : GoodIn wsX2_dreamByDraws wsX2_draw := goodIn_r _ [8, 9, 10, 22, 23, 24, 25, 26, 27, 28, 29, 30, 31, 32, 33] (by decide +kernel) (by decide +kernel)
set_option maxRecDepth 20000 in
theorem gX2_dreamByDraws_X2_draw : GoodIn wsX2_dreamByDraws (wsV RX2 152 RX2 yX2_draw wsX2_draw) := goodIn_app (goodIn_of _ (by decide +kernel)) ggX2_dreamByDraws_X2_draw
set_option maxRecDepth 20000 in
theorem ggX2_dreamByDraws_X2_addDream : GoodIn wsX2_dreamByDraws wsX2_addDream := goodIn_r _ [14, 3, 15, 16, 17, 18, 19, 20, 21, 22, 23, 24, 25, 26, 27, 28, 29, 30, 31, 32, 33, 34, 35, 36, 37, 38, 39] (by decide +kernel) (by decide +kernel)
set_option maxRecDepth 20000 in
theorem gX2_dreamByDraws_X2_addDream : GoodIn wsX2_dreamByDraws (wsV RX2 156 RX2 yX2_addDream wsX2_addDream) := goodIn_app (goodIn_of _ (by decide +kernel)) ggX2_dreamByDraws_X2_addDream
set_option maxRecDepth 20000 in
theorem ggX4_look_X8_isMatter : GoodIn wsX4_look wsX8_isMatter := goodIn_r _ [17, 18, 19, 16, 20] (by decide +kernel) (by decide +kernel)
set_option maxRecDepth 20000 in
theorem gX4_look_X8_isMatter_n42 : GoodIn wsX4_look (wsX8_isMatter) := ggX4_look_X8_isMatter
set_option maxRecDepth 20000 in
theorem ggX4_look_X0_isInForce : GoodIn wsX4_look wsX0_isInForce := goodIn_r _ [25, 26, 27, 28, 29, 30, 31, 24, 32, 33, 34, 35, 36, 37, 38, 39, 40, 41, 42, 43, 44, 45, 46, 47, 48, 49, 113, 114, 115, 116, 117, 118] (by decide +kernel) (by decide +kernel)
set_option maxRecDepth 20000 in
theorem gX4_look_X0_isInForce : GoodIn wsX4_look (wsV RX4 49 RX0 yX0_isInForce wsX0_isInForce) := goodIn_app (goodIn_of _ (by decide +kernel)) ggX4_look_X0_isInForce
set_option maxRecDepth 20000 in
theorem ggX4_look_X2_weight : GoodIn wsX4_look wsX2_weight := goodIn_r _ [54, 55, 56, 57, 30, 31, 24, 32, 33, 58, 59, 60, 53, 61, 62, 63, 64, 65, 66, 67, 68, 69, 70, 71, 72, 73, 74, 75, 76, 77, 78, 79, 80, 81, 82, 13, 83, 84, 12, 14, 113, 114, 115, 116, 117, 118, 101, 102, 103, 104, 105, 106, 107, 108, 109, 110, 111, 112, 119, 120, 121, 122] (by decide +kernel) (by decide +kernel)
set_option maxRecDepth 20000 in
theorem gX4_look_X2_weight : GoodIn wsX4_look (wsV RX4 53 RX2 yX2_weight wsX2_weight) := goodIn_app (goodIn_of _ (by decide +kernel)) ggX4_look_X2_weight
set_option maxRecDepth 20000 in
theorem ggX4_look_X4_weighSides : GoodIn wsX4_look wsX4_weighSides := goodIn_r _ [89, 90, 91, 92, 3, 4, 93, 94, 95, 96, 97, 98, 99, 100] (by decide +kernel) (by decide +kernel)
set_option maxRecDepth 20000 in
theorem gX4_look_X4_weighSides : GoodIn wsX4_look (wsV RX4 66 RX4 yX4_weighSides wsX4_weighSides) := goodIn_app (goodIn_of _ (by decide +kernel)) ggX4_look_X4_weighSides
set_option maxRecDepth 20000 in
theorem ggX4_guilt_J6_bitCount_0f7a4 : GoodIn wsX4_guilt wsJ6_bitCount_0f7a4 := goodIn_r _ [6, 7, 8, 9] (by decide +kernel) (by decide +kernel)
set_option maxRecDepth 20000 in
theorem gX4_guilt_J6_bitCount_0f7a4 : GoodIn wsX4_guilt (va_wsS RX4 78 yJ6_bitCount_0f7a4 wsJ6_bitCount_0f7a4) := goodIn_app (goodIn_of _ (by decide +kernel)) ggX4_guilt_J6_bitCount_0f7a4
set_option maxRecDepth 20000 in
theorem ggX4_outweighing_X4_heaviest : GoodIn wsX4_outweighing wsX4_heaviest := goodIn_r _ [10, 1, 2, 4, 3, 5, 11, 12, 13, 14, 15, 16, 17, 9, 18, 19, 20, 21, 22, 23, 24, 25, 26, 27, 28, 29, 30, 31, 32, 33, 34, 35, 36, 37, 38, 39, 40, 41, 42, 43, 44, 45] (by decide +kernel) (by decide +kernel)
set_option maxRecDepth 20000 in
theorem gX4_outweighing_X4_heaviest : GoodIn wsX4_outweighing (wsV RX4 84 RX4 yX4_heaviest wsX4_heaviest) := goodIn_app (goodIn_of _ (by decide +kernel)) ggX4_outweighing_X4_heaviest
set_option maxRecDepth 20000 in
theorem ggX4_outweighing_X4_isLeft : GoodIn wsX4_outweighing wsX4_isLeft := goodIn_r _ [18, 19, 38, 39, 40, 41, 42, 43, 44, 45] (by decide +kernel) (by decide +kernel)
set_option maxRecDepth 20000 in
theorem gX4_outweighing_X4_isLeft : GoodIn wsX4_outweighing (wsV RX4 88 RX4 yX4_isLeft wsX4_isLeft) := goodIn_app (goodIn_of _ (by decide +kernel)) ggX4_outweighing_X4_isLeft
set_option maxRecDepth 20000 in
theorem ggX4_heaviest_X4_isLeft : GoodIn wsX4_heaviest wsX4_isLeft := goodIn_r _ [14, 15, 34, 35, 36, 37, 38, 39, 40, 41] (by decide +kernel) (by decide +kernel)
set_option maxRecDepth 20000 in
theorem gX4_heaviest_X4_isLeft : GoodIn wsX4_heaviest (wsV RX4 88 RX4 yX4_isLeft wsX4_isLeft) := goodIn_app (goodIn_of _ (by decide +kernel)) ggX4_heaviest_X4_isLeft
set_option maxRecDepth 20000 in
theorem ggX5_speaks_X5_utter : GoodIn wsX5_speaks wsX5_utter := goodIn_r _ [12, 7, 13, 14, 11, 15, 16, 17, 18, 19, 20, 21, 22, 23, 24, 25, 26, 6, 27, 28, 29, 30, 31, 32, 33, 34, 5, 2, 4, 8, 9, 10, 35, 42, 43, 44, 45, 46, 47] (by decide +kernel) (by decide +kernel)
set_option maxRecDepth 20000 in
theorem gX5_speaks_X5_utter : GoodIn wsX5_speaks (wsV RX5 36 RX5 yX5_utter wsX5_utter) := goodIn_app (goodIn_of _ (by decide +kernel)) ggX5_speaks_X5_utter
set_option maxRecDepth 20000 in
theorem ggX5_utter_X5_bodyAt : GoodIn wsX5_utter wsX5_bodyAt := goodIn_r _ [5] (by decide +kernel) (by decide +kernel)
set_option maxRecDepth 20000 in
theorem gX5_utter_X5_bodyAt : GoodIn wsX5_utter (va_wsS RX5 40 yX5_bodyAt wsX5_bodyAt) := goodIn_app (goodIn_of _ (by decide +kernel)) ggX5_utter_X5_bodyAt
set_option maxRecDepth 20000 in
theorem ggX5_utter_X8_above : GoodIn wsX5_utter wsX8_above := goodIn_r _ [8, 9, 10, 11, 7, 12] (by decide +kernel) (by decide +kernel)
set_option maxRecDepth 20000 in
theorem gX5_utter_X8_above_n44 : GoodIn wsX5_utter (wsX8_above) := ggX5_utter_X8_above
set_option maxRecDepth 20000 in
theorem ggX5_utter_X5_begin : GoodIn wsX5_utter wsX5_begin := goodIn_r _ [16, 17, 18, 33, 34, 35, 36, 37, 38] (by decide +kernel) (by decide +kernel)
set_option maxRecDepth 20000 in
theorem gX5_utter_X5_begin : GoodIn wsX5_utter (wsV RX5 48 RX5 yX5_begin wsX5_begin) := goodIn_app (goodIn_of _ (by decide +kernel)) ggX5_utter_X5_begin
set_option maxRecDepth 20000 in
theorem ggX5_utter_X5_dreamBody : GoodIn wsX5_utter wsX5_dreamBody := goodIn_r _ [25, 26, 27, 28, 1, 29, 30, 31, 4, 32, 0, 2, 3, 5, 6, 7, 8, 9, 10, 11, 12, 13, 14, 15, 16, 17, 18, 19, 20, 21, 22, 23, 24, 33, 34, 35, 36, 37, 38] (by decide +kernel) (by decide +kernel)
set_option maxRecDepth 20000 in
theorem gX5_utter_X5_dreamBody : GoodIn wsX5_utter (wsV RX5 52 RX5 yX5_dreamBody wsX5_dreamBody) := goodIn_app (goodIn_of _ (by decide +kernel)) ggX5_utter_X5_dreamBody
set_option maxRecDepth 20000 in
theorem ggX5_utter_X5_ownBody : GoodIn wsX5_utter wsX5_ownBody := goodIn_r _ [32, 27, 26, 28, 29, 30, 31, 4, 25, 1, 0, 2, 3, 5, 6, 7, 8, 9, 10, 11, 12, 13, 14, 15, 16, 17, 18, 19, 20, 21, 22, 23, 24, 33, 34, 35, 36, 37, 38] (by decide +kernel) (by decide +kernel)
set_option maxRecDepth 20000 in
theorem gX5_utter_X5_ownBody : GoodIn wsX5_utter (wsV RX5 56 RX5 yX5_ownBody wsX5_ownBody) := goodIn_app (goodIn_of _ (by decide +kernel)) ggX5_utter_X5_ownBody
set_option maxRecDepth 20000 in
theorem ggX5_dreamBody_X5_utter : GoodIn wsX5_dreamBody wsX5_utter := goodIn_r _ [10, 4, 11, 12, 8, 13, 14, 15, 16, 17, 18, 19, 20, 21, 22, 23, 24, 25, 26, 27, 28, 29, 30, 31, 32, 0, 1, 2, 3, 5, 6, 7, 9, 33, 34, 35, 36, 37, 38] (by decide +kernel) (by decide +kernel)
set_option maxRecDepth 20000 in
theorem gX5_dreamBody_X5_utter : GoodIn wsX5_dreamBody (wsV RX5 36 RX5 yX5_utter wsX5_utter) := goodIn_app (goodIn_of _ (by decide +kernel)) ggX5_dreamBody_X5_utter
set_option maxRecDepth 20000 in
theorem ggX5_ownBody_X5_utter : GoodIn wsX5_ownBody wsX5_utter := goodIn_r _ [10, 9, 11, 12, 7, 13, 14, 15, 16, 17, 18, 19, 20, 21, 22, 23, 24, 25, 26, 27, 28, 29, 30, 31, 32, 8, 2, 1, 3, 4, 5, 6, 0, 33, 34, 35, 36, 37, 38] (by decide +kernel) (by decide +kernel)
set_option maxRecDepth 20000 in
theorem gX5_ownBody_X5_utter : GoodIn wsX5_ownBody (wsV RX5 36 RX5 yX5_utter wsX5_utter) := goodIn_app (goodIn_of _ (by decide +kernel)) ggX5_ownBody_X5_utter
set_option maxRecDepth 20000 in
theorem ggX6_value_X6_named : GoodIn wsX6_value wsX6_named := goodIn_r _ [7] (by decide +kernel) (by decide +kernel)
set_option maxRecDepth 20000 in
theorem gX6_value_X6_named : GoodIn wsX6_value (va_wsS RX6 41 yX6_named wsX6_named) := goodIn_app (goodIn_of _ (by decide +kernel)) ggX6_value_X6_named
set_option maxRecDepth 20000 in
theorem ggX6_value_X6_joined : GoodIn wsX6_value wsX6_joined := goodIn_r _ [10] (by decide +kernel) (by decide +kernel)
set_option maxRecDepth 20000 in
theorem gX6_value_X6_joined : GoodIn wsX6_value (va_wsS RX6 45 yX6_joined wsX6_joined) := goodIn_app (goodIn_of _ (by decide +kernel)) ggX6_value_X6_joined
set_option maxRecDepth 20000 in
theorem ggX7_readsWhole_X7_readsLevel : GoodIn wsX7_readsWhole wsX7_readsLevel := goodIn_r _ [21, 15, 22, 23, 24, 20, 17, 18, 19, 25, 26, 27, 28, 8, 9, 29, 30, 31, 32, 33, 34, 35, 16, 36, 37, 38, 39, 40, 41, 42, 43, 44, 45, 46, 47, 48, 49, 50, 14, 51, 52, 53, 54, 55, 56, 57, 58, 59, 60, 61, 62, 63, 64, 65] (by decide +kernel) (by decide +kernel)
set_option maxRecDepth 20000 in
theorem gX7_readsWhole_X7_readsLevel : GoodIn wsX7_readsWhole (wsV RX7 47 RX7 yX7_readsLevel wsX7_readsLevel) := goodIn_app (goodIn_of _ (by decide +kernel)) ggX7_readsWhole_X7_readsLevel
set_option maxRecDepth 20000 in
theorem ggX7_readsLevel_X7_readsUnit : GoodIn wsX7_readsLevel wsX7_readsUnit := goodIn_r _ [26, 1, 9, 10, 11, 5, 12, 13, 14, 27, 28, 29, 30, 31, 32, 33, 18, 19, 20, 21, 22, 23, 34, 35, 36, 37, 38, 39, 40, 41, 42, 43, 44, 45, 46, 47, 0, 2, 3, 4, 6, 7, 8, 15, 16, 17, 24, 25, 48, 49, 50, 51, 52, 53] (by decide +kernel) (by decide +kernel)
set_option maxRecDepth 20000 in
theorem gX7_readsLevel_X7_readsUnit : GoodIn wsX7_readsLevel (wsV RX7 51 RX7 yX7_readsUnit wsX7_readsUnit) := goodIn_app (goodIn_of _ (by decide +kernel)) ggX7_readsLevel_X7_readsUnit
set_option maxRecDepth 20000 in
theorem ggX7_readsLevel_X7_readsLevel : GoodIn wsX7_readsLevel wsX7_readsLevel := goodIn_r _ [0, 1, 2, 3, 4, 5, 6, 7, 8, 9, 10, 11, 12, 13, 14, 15, 16, 17, 18, 19, 20, 21, 22, 23, 24, 25, 26, 27, 28, 29, 30, 31, 32, 33, 34, 35, 36, 37, 38, 39, 40, 41, 42, 43, 44, 45, 46, 47, 48, 49, 50, 51, 52, 53] (by decide +kernel) (by decide +kernel)
set_option maxRecDepth 20000 in
theorem gX7_readsLevel_X7_readsLevel : GoodIn wsX7_readsLevel (wsV RX7 47 RX7 yX7_readsLevel wsX7_readsLevel) := goodIn_app (goodIn_of _ (by decide +kernel)) ggX7_readsLevel_X7_readsLevel
set_option maxRecDepth 20000 in
theorem ggX7_readsLevel_X7_here : GoodIn wsX7_readsLevel wsX7_here := goodIn_r _ [12, 1, 13, 14, 48, 49, 50, 51, 52, 53] (by decide +kernel) (by decide +kernel)
set_option maxRecDepth 20000 in
theorem gX7_readsLevel_X7_here : GoodIn wsX7_readsLevel (wsV RX7 55 RX7 yX7_here wsX7_here) := goodIn_app (goodIn_of _ (by decide +kernel)) ggX7_readsLevel_X7_here
set_option maxRecDepth 20000 in
theorem ggX7_readsLevel_X7_levelOf : GoodIn wsX7_readsLevel wsX7_levelOf := goodIn_r _ [17] (by decide +kernel) (by decide +kernel)
set_option maxRecDepth 20000 in
theorem gX7_readsLevel_X7_levelOf : GoodIn wsX7_readsLevel (va_wsS RX7 59 yX7_levelOf wsX7_levelOf) := goodIn_app (goodIn_of _ (by decide +kernel)) ggX7_readsLevel_X7_levelOf
set_option maxRecDepth 20000 in
theorem ggX7_readsLevel_X7_emit : GoodIn wsX7_readsLevel wsX7_emit := goodIn_r _ [21, 22, 23, 48, 49, 50, 51, 52, 53] (by decide +kernel) (by decide +kernel)
set_option maxRecDepth 20000 in
theorem gX7_readsLevel_X7_emit : GoodIn wsX7_readsLevel (wsV RX7 63 RX7 yX7_emit wsX7_emit) := goodIn_app (goodIn_of _ (by decide +kernel)) ggX7_readsLevel_X7_emit
set_option maxRecDepth 20000 in
theorem ggX7_readsUnit_X7_here : GoodIn wsX7_readsUnit wsX7_here := goodIn_r _ [6, 1, 7, 8, 48, 49, 50, 51, 52, 53] (by decide +kernel) (by decide +kernel)
set_option maxRecDepth 20000 in
theorem gX7_readsUnit_X7_here : GoodIn wsX7_readsUnit (wsV RX7 55 RX7 yX7_here wsX7_here) := goodIn_app (goodIn_of _ (by decide +kernel)) ggX7_readsUnit_X7_here
set_option maxRecDepth 20000 in
theorem ggX7_readsUnit_X7_isDigit : GoodIn wsX7_readsUnit wsX7_isDigit := goodIn_r _ [11] (by decide +kernel) (by decide +kernel)
set_option maxRecDepth 20000 in
theorem gX7_readsUnit_X7_isDigit : GoodIn wsX7_readsUnit (va_wsS RX7 67 yX7_isDigit wsX7_isDigit) := goodIn_app (goodIn_of _ (by decide +kernel)) ggX7_readsUnit_X7_isDigit
set_option maxRecDepth 20000 in
theorem ggX7_readsUnit_X7_readNumber : GoodIn wsX7_readsUnit wsX7_readNumber := goodIn_r _ [15, 1, 2, 3, 4, 5, 6, 7, 8, 9, 10, 11, 16, 17, 18, 19, 20, 21, 48, 49, 50, 51, 52, 53] (by decide +kernel) (by decide +kernel)
set_option maxRecDepth 20000 in
theorem gX7_readsUnit_X7_readNumber : GoodIn wsX7_readsUnit (wsV RX7 70 RX7 yX7_readNumber wsX7_readNumber) := goodIn_app (goodIn_of _ (by decide +kernel)) ggX7_readsUnit_X7_readNumber
set_option maxRecDepth 20000 in
theorem ggX7_readsUnit_X7_nameOf : GoodIn wsX7_readsUnit wsX7_nameOf := goodIn_r _ [25, 26, 27, 28, 29, 48, 49, 50, 51, 52, 53] (by decide +kernel) (by decide +kernel)
set_option maxRecDepth 20000 in
theorem gX7_readsUnit_X7_nameOf : GoodIn wsX7_readsUnit (wsV RX7 73 RX7 yX7_nameOf wsX7_nameOf) := goodIn_app (goodIn_of _ (by decide +kernel)) ggX7_readsUnit_X7_nameOf
set_option maxRecDepth 20000 in
theorem ggX7_readsUnit_X7_emit : GoodIn wsX7_readsUnit wsX7_emit := goodIn_r _ [19, 20, 21, 48, 49, 50, 51, 52, 53] (by decide +kernel) (by decide +kernel)
set_option maxRecDepth 20000 in
theorem gX7_readsUnit_X7_emit : GoodIn wsX7_readsUnit (wsV RX7 63 RX7 yX7_emit wsX7_emit) := goodIn_app (goodIn_of _ (by decide +kernel)) ggX7_readsUnit_X7_emit
set_option maxRecDepth 20000 in
theorem ggX7_readsUnit_X7_readsNot : GoodIn wsX7_readsUnit wsX7_readsNot := goodIn_r _ [46, 37, 38, 39, 5, 16, 17, 18, 19, 20, 21, 36, 1, 40, 41, 42, 2, 3, 4, 6, 7, 8, 43, 44, 45, 47, 0, 9, 10, 11, 12, 13, 14, 15, 22, 23, 24, 25, 26, 27, 28, 29, 30, 31, 32, 33, 34, 35, 48, 49, 50, 51, 52, 53] (by decide +kernel) (by decide +kernel)
set_option maxRecDepth 20000 in
theorem gX7_readsUnit_X7_readsNot : GoodIn wsX7_readsUnit (wsV RX7 76 RX7 yX7_readsNot wsX7_readsNot) := goodIn_app (goodIn_of _ (by decide +kernel)) ggX7_readsUnit_X7_readsNot
set_option maxRecDepth 20000 in
theorem ggX7_readsUnit_X7_readsRest : GoodIn wsX7_readsUnit wsX7_readsRest := goodIn_r _ [47, 1, 40, 41, 42, 5, 2, 3, 4, 6, 7, 8, 36, 37, 38, 39, 43, 44, 45, 16, 17, 18, 19, 20, 21, 46, 0, 9, 10, 11, 12, 13, 14, 15, 22, 23, 24, 25, 26, 27, 28, 29, 30, 31, 32, 33, 34, 35, 48, 49, 50, 51, 52, 53] (by decide +kernel) (by decide +kernel)
set_option maxRecDepth 20000 in
theorem gX7_readsUnit_X7_readsRest : GoodIn wsX7_readsUnit (wsV RX7 79 RX7 yX7_readsRest wsX7_readsRest) := goodIn_app (goodIn_of _ (by decide +kernel)) ggX7_readsUnit_X7_readsRest
set_option maxRecDepth 20000 in
theorem ggX7_readsNot_X7_readsUnit : GoodIn wsX7_readsNot wsX7_readsUnit := goodIn_r _ [26, 12, 16, 17, 18, 4, 19, 20, 21, 27, 28, 29, 30, 31, 32, 33, 5, 6, 7, 8, 9, 10, 34, 35, 36, 37, 38, 39, 40, 41, 42, 43, 44, 45, 46, 47, 11, 1, 2, 3, 13, 14, 15, 22, 23, 24, 0, 25, 48, 49, 50, 51, 52, 53] (by decide +kernel) (by decide +kernel)
set_option maxRecDepth 20000 in
theorem gX7_readsNot_X7_readsUnit : GoodIn wsX7_readsNot (wsV RX7 51 RX7 yX7_readsUnit wsX7_readsUnit) := goodIn_app (goodIn_of _ (by decide +kernel)) ggX7_readsNot_X7_readsUnit
set_option maxRecDepth 20000 in
theorem ggX7_readsNot_X7_emit : GoodIn wsX7_readsNot wsX7_emit := goodIn_r _ [8, 9, 10, 48, 49, 50, 51, 52, 53] (by decide +kernel) (by decide +kernel)
set_option maxRecDepth 20000 in
theorem gX7_readsNot_X7_emit : GoodIn wsX7_readsNot (wsV RX7 63 RX7 yX7_emit wsX7_emit) := goodIn_app (goodIn_of _ (by decide +kernel)) ggX7_readsNot_X7_emit
set_option maxRecDepth 20000 in
theorem ggX7_readsRest_X7_readsLevel : GoodIn wsX7_readsRest wsX7_readsLevel := goodIn_r _ [12, 1, 13, 14, 15, 5, 2, 3, 4, 6, 7, 8, 9, 10, 11, 16, 17, 18, 19, 20, 21, 22, 23, 24, 25, 0, 26, 27, 28, 29, 30, 31, 32, 33, 34, 35, 36, 37, 38, 39, 40, 41, 42, 43, 44, 45, 46, 47, 48, 49, 50, 51, 52, 53] (by decide +kernel) (by decide +kernel)
set_option maxRecDepth 20000 in
theorem gX7_readsRest_X7_readsLevel : GoodIn wsX7_readsRest (wsV RX7 47 RX7 yX7_readsLevel wsX7_readsLevel) := goodIn_app (goodIn_of _ (by decide +kernel)) ggX7_readsRest_X7_readsLevel
set_option maxRecDepth 20000 in
theorem ggX7_readsRest_X7_here : GoodIn wsX7_readsRest wsX7_here := goodIn_r _ [9, 1, 10, 11, 48, 49, 50, 51, 52, 53] (by decide +kernel) (by decide +kernel)
set_option maxRecDepth 20000 in
theorem gX7_readsRest_X7_here : GoodIn wsX7_readsRest (wsV RX7 55 RX7 yX7_here wsX7_here) := goodIn_app (goodIn_of _ (by decide +kernel)) ggX7_readsRest_X7_here
set_option maxRecDepth 20000 in
theorem ggX7_readNumber_X7_here : GoodIn wsX7_readNumber wsX7_here := goodIn_r _ [6, 1, 7, 8, 18, 19, 20, 21, 22, 23] (by decide +kernel) (by decide +kernel)
set_option maxRecDepth 20000 in
theorem gX7_readNumber_X7_here : GoodIn wsX7_readNumber (wsV RX7 55 RX7 yX7_here wsX7_here) := goodIn_app (goodIn_of _ (by decide +kernel)) ggX7_readNumber_X7_here
set_option maxRecDepth 20000 in
theorem ggX7_readNumber_X7_isDigit : GoodIn wsX7_readNumber wsX7_isDigit := goodIn_r _ [11] (by decide +kernel) (by decide +kernel)
set_option maxRecDepth 20000 in
theorem gX7_readNumber_X7_isDigit : GoodIn wsX7_readNumber (va_wsS RX7 67 yX7_isDigit wsX7_isDigit) := goodIn_app (goodIn_of _ (by decide +kernel)) ggX7_readNumber_X7_isDigit
set_option maxRecDepth 20000 in
theorem ggX7_readNumber_X7_emit : GoodIn wsX7_readNumber wsX7_emit := goodIn_r _ [15, 16, 17, 18, 19, 20, 21, 22, 23] (by decide +kernel) (by decide +kernel)
set_option maxRecDepth 20000 in
theorem gX7_readNumber_X7_emit : GoodIn wsX7_readNumber (wsV RX7 63 RX7 yX7_emit wsX7_emit) := goodIn_app (goodIn_of _ (by decide +kernel)) ggX7_readNumber_X7_emit
set_option maxRecDepth 20000 in
theorem ggX7_nameOf_X8_within : GoodIn wsX7_nameOf wsX8_within := goodIn_r _ [4] (by decide +kernel) (by decide +kernel)
set_option maxRecDepth 20000 in
theorem gX7_nameOf_X8_within_n86 : GoodIn wsX7_nameOf (wsX8_within) := ggX7_nameOf_X8_within
set_option maxRecDepth 20000 in
theorem ggX8_init_X2_init : GoodIn wsX8_init wsX2_init := goodIn_r _ [31, 32, 2, 3, 33, 34, 35, 36, 37, 38, 39, 40, 41, 42, 23, 43, 44, 45, 46, 47, 48, 49, 50, 51, 52, 53, 54, 55, 56, 57, 58, 59, 60, 80, 81, 82, 83, 84, 85, 86, 87, 88, 89, 90, 91, 125, 126, 127, 128, 129, 130, 131, 132, 133, 134, 135, 136] (by decide +kernel) (by decide +kernel)
set_option maxRecDepth 20000 in
theorem gX8_init_X2_init : GoodIn wsX8_init (wsX2_init) := ggX8_init_X2_init
set_option maxRecDepth 20000 in
theorem ggX8_init_X5_init : GoodIn wsX8_init wsX5_init := goodIn_r _ [62, 63, 2, 3, 23, 64, 102, 103, 104, 105, 106, 107] (by decide +kernel) (by decide +kernel)
set_option maxRecDepth 20000 in
theorem gX8_init_X5_init_n27 : GoodIn wsX8_init (wsX5_init) := ggX8_init_X5_init
set_option maxRecDepth 20000 in
theorem ggX8_init_X7_init : GoodIn wsX8_init wsX7_init := goodIn_r _ [66, 67, 2, 3, 23, 68, 41, 69, 108, 109, 110, 111, 112, 113] (by decide +kernel) (by decide +kernel)
set_option maxRecDepth 20000 in
theorem gX8_init_X7_init_n34 : GoodIn wsX8_init (wsX7_init) := ggX8_init_X7_init
set_option maxRecDepth 20000 in
theorem ggX8_init_X4_init : GoodIn wsX8_init wsX4_init := goodIn_r _ [71, 72, 2, 3, 23, 73, 74, 75, 114, 115, 116, 117, 118, 119, 120, 121] (by decide +kernel) (by decide +kernel)
set_option maxRecDepth 20000 in
theorem gX8_init_X4_init_n41 : GoodIn wsX8_init (wsX4_init) := ggX8_init_X4_init
set_option maxRecDepth 20000 in
theorem ggX8_init_X3_init : GoodIn wsX8_init wsX3_init := goodIn_r _ [77, 78, 2, 3, 23, 79, 122, 123, 124] (by decide +kernel) (by decide +kernel)
set_option maxRecDepth 20000 in
theorem gX8_init_X3_init_n56 : GoodIn wsX8_init (wsX3_init) := ggX8_init_X3_init
set_option maxRecDepth 20000 in
theorem ggX8_dream_X8_isKindAndNumber : GoodIn wsX8_dream wsX8_isKindAndNumber := goodIn_r _ [5, 6, 7, 4, 8] (by decide +kernel) (by decide +kernel)
set_option maxRecDepth 20000 in
theorem gX8_dream_X8_isKindAndNumber : GoodIn wsX8_dream (va_wsS RX8 57 yX8_isKindAndNumber wsX8_isKindAndNumber) := goodIn_app (goodIn_of _ (by decide +kernel)) ggX8_dream_X8_isKindAndNumber
set_option maxRecDepth 20000 in
theorem ggX8_dream_X8_isMatterAndSide : GoodIn wsX8_dream wsX8_isMatterAndSide := goodIn_r _ [11, 6, 7, 4, 8] (by decide +kernel) (by decide +kernel)
set_option maxRecDepth 20000 in
theorem gX8_dream_X8_isMatterAndSide : GoodIn wsX8_dream (va_wsS RX8 61 yX8_isMatterAndSide wsX8_isMatterAndSide) := goodIn_app (goodIn_of _ (by decide +kernel)) ggX8_dream_X8_isMatterAndSide
set_option maxRecDepth 20000 in
theorem ggX8_dream_X8_within : GoodIn wsX8_dream wsX8_within := goodIn_r _ [8] (by decide +kernel) (by decide +kernel)
set_option maxRecDepth 20000 in
theorem gX8_dream_X8_within : GoodIn wsX8_dream (va_wsS RX8 64 yX8_within wsX8_within) := goodIn_app (goodIn_of _ (by decide +kernel)) ggX8_dream_X8_within
set_option maxRecDepth 20000 in
theorem ggX8_dream_X8_refuse : GoodIn wsX8_dream wsX8_refuse := goodIn_r _ [15, 16, 17, 31, 32, 33, 34, 35, 36, 37, 38, 39, 40] (by decide +kernel) (by decide +kernel)
set_option maxRecDepth 20000 in
theorem gX8_dream_X8_refuse : GoodIn wsX8_dream (wsV RX8 68 RX8 yX8_refuse wsX8_refuse) := goodIn_app (goodIn_of _ (by decide +kernel)) ggX8_dream_X8_refuse
set_option maxRecDepth 20000 in
theorem ggX8_dream_X2_addDream : GoodIn wsX8_dream wsX2_addDream := goodIn_r _ [22, 23, 24, 25, 26, 27, 28, 29, 30, 41, 42, 43, 44, 45, 46, 47, 48, 49, 50, 51, 52, 53, 54, 55, 56, 57, 58] (by decide +kernel) (by decide +kernel)
set_option maxRecDepth 20000 in
theorem gX8_dream_X2_addDream : GoodIn wsX8_dream (wsV RX8 72 RX2 yX2_addDream wsX2_addDream) := goodIn_app (goodIn_of _ (by decide +kernel)) ggX8_dream_X2_addDream
set_option maxRecDepth 20000 in
theorem ggX8_dreamIs_X8_isDream : GoodIn wsX8_dreamIs wsX8_isDream := goodIn_r _ [15, 1, 16, 17, 18, 14, 19, 93, 94, 95, 96, 97, 98, 99, 100, 101, 102, 103, 104, 105, 106, 107, 108, 109, 110, 111, 112, 113, 114] (by decide +kernel) (by decide +kernel)
set_option maxRecDepth 20000 in
theorem gX8_dreamIs_X8_isDream : GoodIn wsX8_dreamIs (wsV RX8 76 RX8 yX8_isDream wsX8_isDream) := goodIn_app (goodIn_of _ (by decide +kernel)) ggX8_dreamIs_X8_isDream
set_option maxRecDepth 20000 in
theorem ggX8_dreamIs_X8_within : GoodIn wsX8_dreamIs wsX8_within := goodIn_r _ [19] (by decide +kernel) (by decide +kernel)
set_option maxRecDepth 20000 in
theorem gX8_dreamIs_X8_within : GoodIn wsX8_dreamIs (va_wsS RX8 64 yX8_within wsX8_within) := goodIn_app (goodIn_of _ (by decide +kernel)) ggX8_dreamIs_X8_within
set_option maxRecDepth 20000 in
theorem ggX8_dreamIs_X8_refuse : GoodIn wsX8_dreamIs wsX8_refuse := goodIn_r _ [23, 24, 25, 93, 94, 95, 96, 97, 98, 99, 100, 101, 102] (by decide +kernel) (by decide +kernel)
set_option maxRecDepth 20000 in
theorem gX8_dreamIs_X8_refuse : GoodIn wsX8_dreamIs (wsV RX8 68 RX8 yX8_refuse wsX8_refuse) := goodIn_app (goodIn_of _ (by decide +kernel)) ggX8_dreamIs_X8_refuse
set_option maxRecDepth 20000 in
theorem ggX8_dreamIs_X0_isInForce : GoodIn wsX8_dreamIs wsX0_isInForce := goodIn_r _ [30, 31, 32, 33, 34, 35, 36, 29, 37, 38, 39, 40, 41, 42, 43, 44, 45, 46, 47, 48, 49, 50, 51, 52, 53, 54, 115, 116, 117, 118, 119, 120] (by decide +kernel) (by decide +kernel)
set_option maxRecDepth 20000 in
theorem gX8_dreamIs_X0_isInForce : GoodIn wsX8_dreamIs (wsV RX8 110 RX0 yX0_isInForce wsX0_isInForce) := goodIn_app (goodIn_of _ (by decide +kernel)) ggX8_dreamIs_X0_isInForce
set_option maxRecDepth 20000 in
theorem ggX8_dreamIs_X2_weight : GoodIn wsX8_dreamIs wsX2_weight := goodIn_r _ [59, 60, 61, 62, 35, 36, 29, 37, 38, 63, 64, 65, 58, 66, 67, 68, 69, 70, 71, 72, 73, 74, 75, 76, 77, 78, 79, 80, 81, 82, 83, 84, 85, 86, 87, 88, 89, 90, 91, 92, 115, 116, 117, 118, 119, 120, 103, 104, 105, 106, 107, 108, 109, 110, 111, 112, 113, 114, 121, 122, 123, 124] (by decide +kernel) (by decide +kernel)
set_option maxRecDepth 20000 in
theorem gX8_dreamIs_X2_weight : GoodIn wsX8_dreamIs (wsV RX8 114 RX2 yX2_weight wsX2_weight) := goodIn_app (goodIn_of _ (by decide +kernel)) ggX8_dreamIs_X2_weight
set_option maxRecDepth 20000 in
theorem ggX8_become_X8_isDream : GoodIn wsX8_become wsX8_isDream := goodIn_r _ [9, 1, 10, 11, 12, 8, 13, 23, 24, 25, 26, 27, 28, 29, 30, 31, 32, 33, 34, 35, 36, 37, 38, 39, 40, 41, 42, 43, 44] (by decide +kernel) (by decide +kernel)
set_option maxRecDepth 20000 in
theorem gX8_become_X8_isDream : GoodIn wsX8_become (wsV RX8 76 RX8 yX8_isDream wsX8_isDream) := goodIn_app (goodIn_of _ (by decide +kernel)) ggX8_become_X8_isDream
set_option maxRecDepth 20000 in
theorem ggX8_become_X8_isKindAndNumber : GoodIn wsX8_become wsX8_isKindAndNumber := goodIn_r _ [16, 11, 12, 8, 13] (by decide +kernel) (by decide +kernel)
set_option maxRecDepth 20000 in
theorem gX8_become_X8_isKindAndNumber : GoodIn wsX8_become (va_wsS RX8 57 yX8_isKindAndNumber wsX8_isKindAndNumber) := goodIn_app (goodIn_of _ (by decide +kernel)) ggX8_become_X8_isKindAndNumber
set_option maxRecDepth 20000 in
theorem ggX8_become_X8_refuse : GoodIn wsX8_become wsX8_refuse := goodIn_r _ [20, 21, 22, 23, 24, 25, 26, 27, 28, 29, 30, 31, 32] (by decide +kernel) (by decide +kernel)
set_option maxRecDepth 20000 in
theorem gX8_become_X8_refuse : GoodIn wsX8_become (wsV RX8 68 RX8 yX8_refuse wsX8_refuse) := goodIn_app (goodIn_of _ (by decide +kernel)) ggX8_become_X8_refuse
set_option maxRecDepth 20000 in
theorem ggX8_as_X8_isDream : GoodIn wsX8_as wsX8_isDream := goodIn_r _ [8, 1, 9, 10, 11, 7, 12, 28, 29, 30, 31, 32, 33, 34, 35, 36, 37, 38, 39, 40, 41, 42, 43, 44, 45, 46, 47, 48, 49] (by decide +kernel) (by decide +kernel)
set_option maxRecDepth 20000 in
theorem gX8_as_X8_isDream : GoodIn wsX8_as (wsV RX8 76 RX8 yX8_isDream wsX8_isDream) := goodIn_app (goodIn_of _ (by decide +kernel)) ggX8_as_X8_isDream
set_option maxRecDepth 20000 in
theorem ggX8_as_X8_within : GoodIn wsX8_as wsX8_within := goodIn_r _ [12] (by decide +kernel) (by decide +kernel)
set_option maxRecDepth 20000 in
theorem gX8_as_X8_within : GoodIn wsX8_as (va_wsS RX8 64 yX8_within wsX8_within) := goodIn_app (goodIn_of _ (by decide +kernel)) ggX8_as_X8_within
set_option maxRecDepth 20000 in
theorem ggX8_as_X8_refuse : GoodIn wsX8_as wsX8_refuse := goodIn_r _ [16, 17, 18, 28, 29, 30, 31, 32, 33, 34, 35, 36, 37] (by decide +kernel) (by decide +kernel)
set_option maxRecDepth 20000 in
theorem gX8_as_X8_refuse : GoodIn wsX8_as (wsV RX8 68 RX8 yX8_refuse wsX8_refuse) := goodIn_app (goodIn_of _ (by decide +kernel)) ggX8_as_X8_refuse
set_option maxRecDepth 20000 in
theorem ggX8_as_X0_isOf : GoodIn wsX8_as wsX0_isOf := goodIn_r _ [23, 24, 25, 7, 26, 27, 10, 11, 12, 50, 51, 52, 53, 54, 55] (by decide +kernel) (by decide +kernel)
set_option maxRecDepth 20000 in
theorem gX8_as_X0_isOf : GoodIn wsX8_as (wsV RX8 118 RX0 yX0_isOf wsX0_isOf) := goodIn_app (goodIn_of _ (by decide +kernel)) ggX8_as_X0_isOf
set_option maxRecDepth 20000 in
theorem ggX8_forgets_X8_isDream : GoodIn wsX8_forgets wsX8_isDream := goodIn_r _ [8, 1, 9, 10, 11, 7, 12, 19, 20, 21, 22, 23, 24, 25, 26, 27, 28, 29, 30, 31, 32, 33, 34, 35, 36, 37, 38, 39, 40] (by decide +kernel) (by decide +kernel)
set_option maxRecDepth 20000 in
theorem gX8_forgets_X8_isDream : GoodIn wsX8_forgets (wsV RX8 76 RX8 yX8_isDream wsX8_isDream) := goodIn_app (goodIn_of _ (by decide +kernel)) ggX8_forgets_X8_isDream
set_option maxRecDepth 20000 in
theorem ggX8_forgets_X8_within : GoodIn wsX8_forgets wsX8_within := goodIn_r _ [12] (by decide +kernel) (by decide +kernel)
set_option maxRecDepth 20000 in
theorem gX8_forgets_X8_within : GoodIn wsX8_forgets (va_wsS RX8 64 yX8_within wsX8_within) := goodIn_app (goodIn_of _ (by decide +kernel)) ggX8_forgets_X8_within
set_option maxRecDepth 20000 in
theorem ggX8_forgets_X8_refuse : GoodIn wsX8_forgets wsX8_refuse := goodIn_r _ [16, 17, 18, 19, 20, 21, 22, 23, 24, 25, 26, 27, 28] (by decide +kernel) (by decide +kernel)
set_option maxRecDepth 20000 in
theorem gX8_forgets_X8_refuse : GoodIn wsX8_forgets (wsV RX8 68 RX8 yX8_refuse wsX8_refuse) := goodIn_app (goodIn_of _ (by decide +kernel)) ggX8_forgets_X8_refuse
set_option maxRecDepth 20000 in
theorem ggX8_person_X8_within : GoodIn wsX8_person wsX8_within := goodIn_r _ [5] (by decide +kernel) (by decide +kernel)
set_option maxRecDepth 20000 in
theorem gX8_person_X8_within : GoodIn wsX8_person (va_wsS RX8 64 yX8_within wsX8_within) := goodIn_app (goodIn_of _ (by decide +kernel)) ggX8_person_X8_within
set_option maxRecDepth 20000 in
theorem ggX8_person_X8_refuse : GoodIn wsX8_person wsX8_refuse := goodIn_r _ [9, 10, 11, 21, 22, 23, 24, 25, 26, 27, 28, 29, 30] (by decide +kernel) (by decide +kernel)
set_option maxRecDepth 20000 in
theorem gX8_person_X8_refuse : GoodIn wsX8_person (wsV RX8 68 RX8 yX8_refuse wsX8_refuse) := goodIn_app (goodIn_of _ (by decide +kernel)) ggX8_person_X8_refuse
set_option maxRecDepth 20000 in
theorem ggX8_person_X2_addPerson : GoodIn wsX8_person wsX2_addPerson := goodIn_r _ [16, 17, 18, 19, 20, 31, 32, 33, 34, 35, 36, 37, 38, 39, 40, 41, 42, 43, 44] (by decide +kernel) (by decide +kernel)
set_option maxRecDepth 20000 in
theorem gX8_person_X2_addPerson : GoodIn wsX8_person (wsV RX8 121 RX2 yX2_addPerson wsX2_addPerson) := goodIn_app (goodIn_of _ (by decide +kernel)) ggX8_person_X2_addPerson
set_option maxRecDepth 20000 in
theorem ggX8_personIs_X8_isPerson : GoodIn wsX8_personIs wsX8_isPerson := goodIn_r _ [11, 1, 12, 13, 14, 10, 15, 132, 133, 134, 135, 136, 137, 138, 139, 140, 141, 142, 143, 144, 145, 146, 147, 148, 149, 150, 151, 152, 153] (by decide +kernel) (by decide +kernel)
set_option maxRecDepth 20000 in
theorem gX8_personIs_X8_isPerson : GoodIn wsX8_personIs (wsV RX8 124 RX8 yX8_isPerson wsX8_isPerson) := goodIn_app (goodIn_of _ (by decide +kernel)) ggX8_personIs_X8_isPerson
set_option maxRecDepth 20000 in
theorem ggX8_personIs_X8_within : GoodIn wsX8_personIs wsX8_within := goodIn_r _ [15] (by decide +kernel) (by decide +kernel)
set_option maxRecDepth 20000 in
theorem gX8_personIs_X8_within : GoodIn wsX8_personIs (va_wsS RX8 64 yX8_within wsX8_within) := goodIn_app (goodIn_of _ (by decide +kernel)) ggX8_personIs_X8_within
set_option maxRecDepth 20000 in
theorem ggX8_personIs_X8_refuse : GoodIn wsX8_personIs wsX8_refuse := goodIn_r _ [19, 20, 21, 132, 133, 134, 135, 136, 137, 138, 139, 140, 141] (by decide +kernel) (by decide +kernel)
set_option maxRecDepth 20000 in
theorem gX8_personIs_X8_refuse : GoodIn wsX8_personIs (wsV RX8 68 RX8 yX8_refuse wsX8_refuse) := goodIn_app (goodIn_of _ (by decide +kernel)) ggX8_personIs_X8_refuse
set_option maxRecDepth 20000 in
theorem ggX8_personIs_X4_look : GoodIn wsX8_personIs wsX4_look := goodIn_r _ [26, 27, 28, 29, 30, 31, 32, 33, 34, 35, 36, 37, 38, 39, 40, 41, 10, 42, 13, 14, 15, 43, 44, 45, 46, 47, 48, 49, 50, 51, 52, 53, 54, 55, 56, 57, 58, 59, 60, 61, 62, 63, 64, 65, 66, 67, 68, 69, 70, 71, 72, 73, 74, 75, 76, 77, 78, 79, 80, 81, 82, 83, 84, 85, 86, 87, 88, 89, 90, 91, 92, 93, 94, 95, 96, 97, 98, 99, 100, 101, 102, 103, 104, 105, 106, 107, 108, 109, 25, 110, 111, 112, 113, 156, 157, 158, 159, 160, 161, 162, 163, 142, 143, 144, 145, 146, 147, 148, 149, 150, 151, 152, 153, 164, 165, 166, 167, 168, 169, 170, 171, 172, 173] (by decide +kernel) (by decide +kernel)
set_option maxRecDepth 20000 in
theorem gX8_personIs_X4_look : GoodIn wsX8_personIs (wsV RX8 139 RX4 yX4_look wsX4_look) := goodIn_app (goodIn_of _ (by decide +kernel)) ggX8_personIs_X4_look
set_option maxRecDepth 20000 in
theorem ggX8_personIs_X4_guilt : GoodIn wsX8_personIs wsX4_guilt := goodIn_r _ [117, 112, 111, 118, 119, 120, 121, 122, 123, 124, 156, 157, 158, 159, 160, 161, 162, 163] (by decide +kernel) (by decide +kernel)
set_option maxRecDepth 20000 in
theorem gX8_personIs_X4_guilt : GoodIn wsX8_personIs (wsV RX8 143 RX4 yX4_guilt wsX4_guilt) := goodIn_app (goodIn_of _ (by decide +kernel)) ggX8_personIs_X4_guilt
set_option maxRecDepth 20000 in
theorem ggX8_personIs_X2_fine : GoodIn wsX8_personIs wsX2_fine := goodIn_r _ [128, 129, 130, 131, 115, 116, 25, 117, 112, 111, 118, 119, 120, 121, 122, 123, 124, 80, 81, 82, 75, 83, 84, 85, 86, 87, 88, 89, 90, 91, 92, 93, 94, 95, 96, 97, 98, 99, 100, 101, 102, 103, 104, 39, 105, 106, 38, 40, 154, 155, 156, 157, 158, 159, 160, 161, 162, 163, 142, 143, 144, 145, 146, 147, 148, 149, 150, 151, 152, 153, 170, 171, 172, 173] (by decide +kernel) (by decide +kernel)
set_option maxRecDepth 20000 in
theorem gX8_personIs_X2_fine : GoodIn wsX8_personIs (wsV RX8 146 RX2 yX2_fine wsX2_fine) := goodIn_app (goodIn_of _ (by decide +kernel)) ggX8_personIs_X2_fine
set_option maxRecDepth 20000 in
theorem ggX8_takesTo_X8_isPerson : GoodIn wsX8_takesTo wsX8_isPerson := goodIn_r _ [8, 1, 9, 10, 11, 7, 12, 19, 20, 21, 22, 23, 24, 25, 26, 27, 28, 29, 30, 31, 32, 33, 34, 35, 36, 37, 38, 39, 40] (by decide +kernel) (by decide +kernel)
set_option maxRecDepth 20000 in
theorem gX8_takesTo_X8_isPerson : GoodIn wsX8_takesTo (wsV RX8 124 RX8 yX8_isPerson wsX8_isPerson) := goodIn_app (goodIn_of _ (by decide +kernel)) ggX8_takesTo_X8_isPerson
set_option maxRecDepth 20000 in
theorem ggX8_takesTo_X8_within : GoodIn wsX8_takesTo wsX8_within := goodIn_r _ [12] (by decide +kernel) (by decide +kernel)
set_option maxRecDepth 20000 in
theorem gX8_takesTo_X8_within : GoodIn wsX8_takesTo (va_wsS RX8 64 yX8_within wsX8_within) := goodIn_app (goodIn_of _ (by decide +kernel)) ggX8_takesTo_X8_within
set_option maxRecDepth 20000 in
theorem ggX8_takesTo_X8_refuse : GoodIn wsX8_takesTo wsX8_refuse := goodIn_r _ [16, 17, 18, 19, 20, 21, 22, 23, 24, 25, 26, 27, 28] (by decide +kernel) (by decide +kernel)
set_option maxRecDepth 20000 in
theorem gX8_takesTo_X8_refuse : GoodIn wsX8_takesTo (wsV RX8 68 RX8 yX8_refuse wsX8_refuse) := goodIn_app (goodIn_of _ (by decide +kernel)) ggX8_takesTo_X8_refuse
set_option maxRecDepth 20000 in
theorem ggX8_clock_X8_within : GoodIn wsX8_clock wsX8_within := goodIn_r _ [7] (by decide +kernel) (by decide +kernel)
set_option maxRecDepth 20000 in
theorem gX8_clock_X8_within : GoodIn wsX8_clock (va_wsS RX8 64 yX8_within wsX8_within) := goodIn_app (goodIn_of _ (by decide +kernel)) ggX8_clock_X8_within
set_option maxRecDepth 20000 in
theorem ggX8_clock_X8_refuse : GoodIn wsX8_clock wsX8_refuse := goodIn_r _ [11, 12, 13, 14, 15, 16, 17, 18, 19, 20, 21, 22, 23] (by decide +kernel) (by decide +kernel)
set_option maxRecDepth 20000 in
theorem gX8_clock_X8_refuse : GoodIn wsX8_clock (wsV RX8 68 RX8 yX8_refuse wsX8_refuse) := goodIn_app (goodIn_of _ (by decide +kernel)) ggX8_clock_X8_refuse
set_option maxRecDepth 20000 in
theorem ggX8_feed_X8_within : GoodIn wsX8_feed wsX8_within := goodIn_r _ [7] (by decide +kernel) (by decide +kernel)
set_option maxRecDepth 20000 in
theorem gX8_feed_X8_within : GoodIn wsX8_feed (va_wsS RX8 64 yX8_within wsX8_within) := goodIn_app (goodIn_of _ (by decide +kernel)) ggX8_feed_X8_within
set_option maxRecDepth 20000 in
theorem ggX8_feed_X8_refuse : GoodIn wsX8_feed wsX8_refuse := goodIn_r _ [11, 12, 13, 14, 15, 16, 17, 18, 19, 20, 21, 22, 23] (by decide +kernel) (by decide +kernel)
set_option maxRecDepth 20000 in
theorem gX8_feed_X8_refuse : GoodIn wsX8_feed (wsV RX8 68 RX8 yX8_refuse wsX8_refuse) := goodIn_app (goodIn_of _ (by decide +kernel)) ggX8_feed_X8_refuse
set_option maxRecDepth 20000 in
theorem ggX8_text_X8_isUse : GoodIn wsX8_text wsX8_isUse := goodIn_r _ [12, 13, 14, 11, 15] (by decide +kernel) (by decide +kernel)
set_option maxRecDepth 20000 in
theorem gX8_text_X8_isUse : GoodIn wsX8_text (va_wsS RX8 157 yX8_isUse wsX8_isUse) := goodIn_app (goodIn_of _ (by decide +kernel)) ggX8_text_X8_isUse
set_option maxRecDepth 20000 in
theorem ggX8_text_X8_refuse : GoodIn wsX8_text wsX8_refuse := goodIn_r _ [19, 20, 21, 93, 94, 95, 96, 97, 98, 99, 100, 101, 102] (by decide +kernel) (by decide +kernel)
set_option maxRecDepth 20000 in
theorem gX8_text_X8_refuse : GoodIn wsX8_text (wsV RX8 68 RX8 yX8_refuse wsX8_refuse) := goodIn_app (goodIn_of _ (by decide +kernel)) ggX8_text_X8_refuse
set_option maxRecDepth 20000 in
theorem ggX8_text_X7_readsWhole : GoodIn wsX8_text wsX7_readsWhole := goodIn_r _ [26, 27, 28, 29, 30, 31, 32, 33, 34, 35, 36, 37, 38, 39, 40, 41, 42, 43, 44, 45, 25, 46, 47, 48, 49, 50, 51, 52, 53, 54, 55, 56, 57, 58, 59, 60, 61, 62, 63, 64, 65, 66, 67, 68, 69, 70, 71, 72, 73, 74, 75, 14, 11, 15, 76, 77, 78, 79, 80, 81, 115, 116, 117, 118, 119, 120] (by decide +kernel) (by decide +kernel)
set_option maxRecDepth 20000 in
theorem gX8_text_X7_readsWhole : GoodIn wsX8_text (wsV RX8 160 RX7 yX7_readsWhole wsX7_readsWhole) := goodIn_app (goodIn_of _ (by decide +kernel)) ggX8_text_X7_readsWhole
set_option maxRecDepth 20000 in
theorem ggX8_text_X6_take : GoodIn wsX8_text wsX6_take := goodIn_r _ [86, 87, 28, 29, 30, 88, 32, 33, 89, 90, 37, 38, 39, 91, 92, 121, 122, 123, 124] (by decide +kernel) (by decide +kernel)
set_option maxRecDepth 20000 in
theorem gX8_text_X6_take : GoodIn wsX8_text (wsV RX8 177 RX6 yX6_take wsX6_take) := goodIn_app (goodIn_of _ (by decide +kernel)) ggX8_text_X6_take
set_option maxRecDepth 20000 in
theorem ggX8_untell_X8_isUse : GoodIn wsX8_untell wsX8_isUse := goodIn_r _ [7, 8, 9, 6, 10] (by decide +kernel) (by decide +kernel)
set_option maxRecDepth 20000 in
theorem gX8_untell_X8_isUse : GoodIn wsX8_untell (va_wsS RX8 157 yX8_isUse wsX8_isUse) := goodIn_app (goodIn_of _ (by decide +kernel)) ggX8_untell_X8_isUse
set_option maxRecDepth 20000 in
theorem ggX8_untell_X8_refuse : GoodIn wsX8_untell wsX8_refuse := goodIn_r _ [14, 15, 16, 17, 18, 19, 20, 21, 22, 23, 24, 25, 26] (by decide +kernel) (by decide +kernel)
set_option maxRecDepth 20000 in
theorem gX8_untell_X8_refuse : GoodIn wsX8_untell (wsV RX8 68 RX8 yX8_refuse wsX8_refuse) := goodIn_app (goodIn_of _ (by decide +kernel)) ggX8_untell_X8_refuse
set_option maxRecDepth 20000 in
theorem ggX8_law_X8_isUse : GoodIn wsX8_law wsX8_isUse := goodIn_r _ [5, 6, 7, 4, 8] (by decide +kernel) (by decide +kernel)
set_option maxRecDepth 20000 in
theorem gX8_law_X8_isUse : GoodIn wsX8_law (va_wsS RX8 157 yX8_isUse wsX8_isUse) := goodIn_app (goodIn_of _ (by decide +kernel)) ggX8_law_X8_isUse
set_option maxRecDepth 20000 in
theorem ggX8_law_X8_refuse : GoodIn wsX8_law wsX8_refuse := goodIn_r _ [12, 13, 14, 46, 47, 48, 49, 50, 51, 52, 53, 54, 55] (by decide +kernel) (by decide +kernel)
set_option maxRecDepth 20000 in
theorem gX8_law_X8_refuse : GoodIn wsX8_law (wsV RX8 68 RX8 yX8_refuse wsX8_refuse) := goodIn_app (goodIn_of _ (by decide +kernel)) ggX8_law_X8_refuse
set_option maxRecDepth 20000 in
theorem ggX8_law_X2_gives : GoodIn wsX8_law wsX2_gives := goodIn_r _ [19, 20, 21, 22, 23, 24, 25, 26, 27, 28, 29, 30, 31, 32, 33, 34, 35, 36, 37, 18, 38, 39, 40, 41, 42, 43, 44, 45, 56, 57, 58, 59, 60, 61, 62, 63, 64, 65, 66, 67, 68, 69, 70, 71] (by decide +kernel) (by decide +kernel)
set_option maxRecDepth 20000 in
theorem gX8_law_X2_gives : GoodIn wsX8_law (wsV RX8 187 RX2 yX2_gives wsX2_gives) := goodIn_app (goodIn_of _ (by decide +kernel)) ggX8_law_X2_gives
set_option maxRecDepth 20000 in
theorem ggX8_hours_X8_within : GoodIn wsX8_hours wsX8_within := goodIn_r _ [7] (by decide +kernel) (by decide +kernel)
set_option maxRecDepth 20000 in
theorem gX8_hours_X8_within : GoodIn wsX8_hours (va_wsS RX8 64 yX8_within wsX8_within) := goodIn_app (goodIn_of _ (by decide +kernel)) ggX8_hours_X8_within
set_option maxRecDepth 20000 in
theorem ggX8_hours_X8_refuse : GoodIn wsX8_hours wsX8_refuse := goodIn_r _ [11, 12, 13, 131, 132, 133, 134, 135, 136, 137, 138, 139, 140] (by decide +kernel) (by decide +kernel)
set_option maxRecDepth 20000 in
theorem gX8_hours_X8_refuse : GoodIn wsX8_hours (wsV RX8 68 RX8 yX8_refuse wsX8_refuse) := goodIn_app (goodIn_of _ (by decide +kernel)) ggX8_hours_X8_refuse
set_option maxRecDepth 20000 in
theorem ggX8_hours_X2_goAnHour : GoodIn wsX8_hours wsX2_goAnHour := goodIn_r _ [18, 19, 20, 21, 22, 23, 24, 25, 26, 27, 28, 29, 30, 31, 32, 33, 34, 35, 36, 37, 38, 39, 40, 41, 42, 43, 44, 45, 6, 46, 4, 5, 7, 47, 48, 49, 50, 51, 52, 53, 54, 55, 56, 57, 58, 59, 60, 61, 62, 63, 64, 65, 66, 67, 68, 69, 70, 71, 72, 73, 74, 75, 76, 77, 78, 17, 79, 80, 81, 82, 83, 84, 85, 86, 87, 88, 89, 90, 91, 92, 93, 94, 95, 96, 97, 98, 99, 100, 101, 102, 103, 104, 105, 106, 107, 108, 109, 110, 111, 112, 113, 114, 115, 116, 117, 118, 119, 120, 121, 122, 123, 124, 125, 126, 127, 128, 129, 130, 141, 142, 143, 144, 145, 146, 147, 148, 149, 150, 151, 152, 153, 154, 155, 156, 157, 158, 159, 160, 161, 162, 163, 164, 165, 166, 167, 168, 169, 170, 171, 172] (by decide +kernel) (by decide +kernel)
set_option maxRecDepth 20000 in
theorem gX8_hours_X2_goAnHour : GoodIn wsX8_hours (wsV RX8 191 RX2 yX2_goAnHour wsX2_goAnHour) := goodIn_app (goodIn_of _ (by decide +kernel)) ggX8_hours_X2_goAnHour
set_option maxRecDepth 20000 in
theorem ggX8_loose_X8_within : GoodIn wsX8_loose wsX8_within := goodIn_r _ [8] (by decide +kernel) (by decide +kernel)
set_option maxRecDepth 20000 in
theorem gX8_loose_X8_within : GoodIn wsX8_loose (va_wsS RX8 64 yX8_within wsX8_within) := goodIn_app (goodIn_of _ (by decide +kernel)) ggX8_loose_X8_within
set_option maxRecDepth 20000 in
theorem ggX8_loose_X8_refuse : GoodIn wsX8_loose wsX8_refuse := goodIn_r _ [12, 13, 14, 153, 154, 155, 156, 157, 158, 159, 160, 161, 162] (by decide +kernel) (by decide +kernel)
set_option maxRecDepth 20000 in
theorem gX8_loose_X8_refuse : GoodIn wsX8_loose (wsV RX8 68 RX8 yX8_refuse wsX8_refuse) := goodIn_app (goodIn_of _ (by decide +kernel)) ggX8_loose_X8_refuse
set_option maxRecDepth 20000 in
theorem ggX8_loose_X2_dreamByDraws : GoodIn wsX8_loose wsX2_dreamByDraws := goodIn_r _ [19, 20, 21, 22, 23, 24, 25, 18, 26, 27, 28, 29, 30, 31, 32, 33, 34, 35, 36, 37, 38, 39, 163, 164, 165, 166, 167, 168, 169, 170, 171, 172, 173, 174, 175, 176, 177, 178, 179, 180] (by decide +kernel) (by decide +kernel)
set_option maxRecDepth 20000 in
theorem gX8_loose_X2_dreamByDraws : GoodIn wsX8_loose (wsV RX8 195 RX2 yX2_dreamByDraws wsX2_dreamByDraws) := goodIn_app (goodIn_of _ (by decide +kernel)) ggX8_loose_X2_dreamByDraws
set_option maxRecDepth 20000 in
theorem ggX8_loose_X2_goAnHour : GoodIn wsX8_loose wsX2_goAnHour := goodIn_r _ [43, 20, 44, 45, 46, 47, 48, 49, 50, 51, 52, 53, 54, 55, 56, 57, 58, 59, 60, 61, 62, 63, 64, 65, 66, 67, 68, 69, 7, 70, 5, 6, 8, 71, 72, 73, 74, 75, 76, 77, 78, 79, 80, 81, 82, 83, 84, 85, 86, 87, 88, 89, 90, 91, 92, 93, 94, 95, 96, 97, 98, 99, 100, 101, 102, 18, 103, 34, 35, 104, 105, 106, 107, 108, 109, 110, 111, 112, 113, 114, 115, 116, 117, 118, 119, 120, 121, 122, 123, 124, 125, 126, 127, 128, 129, 130, 131, 132, 133, 134, 135, 136, 137, 138, 139, 140, 141, 142, 143, 144, 145, 146, 147, 148, 149, 150, 151, 152, 163, 164, 165, 166, 167, 168, 169, 170, 171, 172, 173, 174, 181, 182, 183, 184, 185, 186, 187, 188, 189, 190, 175, 176, 177, 178, 179, 180, 191, 192, 193, 194] (by decide +kernel) (by decide +kernel)
set_option maxRecDepth 20000 in
theorem gX8_loose_X2_goAnHour : GoodIn wsX8_loose (wsV RX8 191 RX2 yX2_goAnHour wsX2_goAnHour) := goodIn_app (goodIn_of _ (by decide +kernel)) ggX8_loose_X2_goAnHour
set_option maxRecDepth 20000 in
theorem ggX8_rule_X8_isMatter : GoodIn wsX8_rule wsX8_isMatter := goodIn_r _ [7, 8, 9, 6, 10] (by decide +kernel) (by decide +kernel)
set_option maxRecDepth 20000 in
theorem gX8_rule_X8_isMatter : GoodIn wsX8_rule (va_wsS RX8 204 yX8_isMatter wsX8_isMatter) := goodIn_app (goodIn_of _ (by decide +kernel)) ggX8_rule_X8_isMatter
set_option maxRecDepth 20000 in
theorem ggX8_rule_X8_within : GoodIn wsX8_rule wsX8_within := goodIn_r _ [10] (by decide +kernel) (by decide +kernel)
set_option maxRecDepth 20000 in
theorem gX8_rule_X8_within : GoodIn wsX8_rule (va_wsS RX8 64 yX8_within wsX8_within) := goodIn_app (goodIn_of _ (by decide +kernel)) ggX8_rule_X8_within
set_option maxRecDepth 20000 in
theorem ggX8_rule_X8_refuse : GoodIn wsX8_rule wsX8_refuse := goodIn_r _ [14, 15, 16, 111, 112, 113, 114, 115, 116, 117, 118, 119, 120] (by decide +kernel) (by decide +kernel)
set_option maxRecDepth 20000 in
theorem gX8_rule_X8_refuse : GoodIn wsX8_rule (wsV RX8 68 RX8 yX8_refuse wsX8_refuse) := goodIn_app (goodIn_of _ (by decide +kernel)) ggX8_rule_X8_refuse
set_option maxRecDepth 20000 in
theorem ggX8_rule_X4_look : GoodIn wsX8_rule wsX4_look := goodIn_r _ [21, 22, 23, 24, 25, 26, 27, 28, 29, 30, 31, 32, 33, 34, 35, 5, 6, 7, 8, 9, 10, 36, 37, 38, 39, 40, 41, 42, 43, 44, 45, 46, 47, 48, 49, 50, 51, 52, 53, 54, 55, 56, 57, 58, 59, 60, 61, 62, 63, 64, 65, 66, 67, 68, 69, 70, 71, 72, 73, 74, 75, 76, 77, 78, 79, 80, 81, 82, 83, 84, 85, 86, 87, 88, 89, 90, 91, 92, 93, 94, 95, 96, 97, 98, 99, 100, 101, 102, 20, 103, 104, 105, 106, 133, 134, 135, 136, 137, 138, 139, 140, 121, 122, 123, 124, 125, 126, 127, 128, 129, 130, 131, 132, 141, 142, 143, 144, 145, 146, 147, 148, 149, 150] (by decide +kernel) (by decide +kernel)
set_option maxRecDepth 20000 in
theorem gX8_rule_X4_look : GoodIn wsX8_rule (wsV RX8 139 RX4 yX4_look wsX4_look) := goodIn_app (goodIn_of _ (by decide +kernel)) ggX8_rule_X4_look
set_option maxRecDepth 20000 in
theorem ggX8_rule_X4_under : GoodIn wsX8_rule wsX4_under := goodIn_r _ [110, 104, 105, 133, 134, 135, 136, 137, 138, 139, 140] (by decide +kernel) (by decide +kernel)
set_option maxRecDepth 20000 in
theorem gX8_rule_X4_under : GoodIn wsX8_rule (wsV RX8 207 RX4 yX4_under wsX4_under) := goodIn_app (goodIn_of _ (by decide +kernel)) ggX8_rule_X4_under
set_option maxRecDepth 20000 in
theorem ggX8_now_X8_within : GoodIn wsX8_now wsX8_within := goodIn_r _ [11] (by decide +kernel) (by decide +kernel)
set_option maxRecDepth 20000 in
theorem gX8_now_X8_within : GoodIn wsX8_now (va_wsS RX8 64 yX8_within wsX8_within) := goodIn_app (goodIn_of _ (by decide +kernel)) ggX8_now_X8_within
set_option maxRecDepth 20000 in
theorem ggX8_now_X8_refuse : GoodIn wsX8_now wsX8_refuse := goodIn_r _ [15, 16, 17, 117, 118, 119, 120, 121, 122, 123, 124, 125, 126] (by decide +kernel) (by decide +kernel)
set_option maxRecDepth 20000 in
theorem gX8_now_X8_refuse : GoodIn wsX8_now (wsV RX8 68 RX8 yX8_refuse wsX8_refuse) := goodIn_app (goodIn_of _ (by decide +kernel)) ggX8_now_X8_refuse
set_option maxRecDepth 20000 in
theorem ggX8_now_X4_look : GoodIn wsX8_now wsX4_look := goodIn_r _ [22, 23, 24, 25, 26, 27, 28, 29, 30, 31, 32, 33, 34, 35, 36, 37, 10, 38, 8, 9, 11, 39, 40, 41, 42, 43, 44, 45, 46, 47, 48, 49, 50, 51, 52, 53, 54, 55, 56, 57, 58, 59, 60, 61, 62, 63, 64, 65, 66, 67, 68, 69, 70, 71, 72, 73, 74, 75, 76, 77, 78, 79, 80, 81, 82, 83, 84, 85, 86, 87, 88, 89, 90, 91, 92, 93, 94, 95, 96, 97, 98, 99, 100, 101, 102, 103, 104, 105, 21, 106, 107, 108, 109, 139, 140, 141, 142, 143, 144, 145, 146, 127, 128, 129, 130, 131, 132, 133, 134, 135, 136, 137, 138, 147, 148, 149, 150, 151, 152, 153, 154, 155, 156] (by decide +kernel) (by decide +kernel)
set_option maxRecDepth 20000 in
theorem gX8_now_X4_look : GoodIn wsX8_now (wsV RX8 139 RX4 yX4_look wsX4_look) := goodIn_app (goodIn_of _ (by decide +kernel)) ggX8_now_X4_look
set_option maxRecDepth 20000 in
theorem ggX8_now_J6_bitCount_0f7a4 : GoodIn wsX8_now wsJ6_bitCount_0f7a4 := goodIn_r _ [113, 114, 115, 116] (by decide +kernel) (by decide +kernel)
set_option maxRecDepth 20000 in
theorem gX8_now_J6_bitCount_0f7a4 : GoodIn wsX8_now (va_wsS RX8 222 yJ6_bitCount_0f7a4 wsJ6_bitCount_0f7a4) := goodIn_app (goodIn_of _ (by decide +kernel)) ggX8_now_J6_bitCount_0f7a4
set_option maxRecDepth 20000 in
theorem ggX8_then_X8_isPerson : GoodIn wsX8_then wsX8_isPerson := goodIn_r _ [14, 1, 15, 16, 17, 13, 18, 131, 132, 133, 134, 135, 136, 137, 138, 139, 140, 141, 142, 143, 144, 145, 146, 147, 148, 149, 150, 151, 152] (by decide +kernel) (by decide +kernel)
set_option maxRecDepth 20000 in
theorem gX8_then_X8_isPerson : GoodIn wsX8_then (wsV RX8 124 RX8 yX8_isPerson wsX8_isPerson) := goodIn_app (goodIn_of _ (by decide +kernel)) ggX8_then_X8_isPerson
set_option maxRecDepth 20000 in
theorem ggX8_then_X8_within : GoodIn wsX8_then wsX8_within := goodIn_r _ [18] (by decide +kernel) (by decide +kernel)
set_option maxRecDepth 20000 in
theorem gX8_then_X8_within : GoodIn wsX8_then (va_wsS RX8 64 yX8_within wsX8_within) := goodIn_app (goodIn_of _ (by decide +kernel)) ggX8_then_X8_within
set_option maxRecDepth 20000 in
theorem ggX8_then_X8_refuse : GoodIn wsX8_then wsX8_refuse := goodIn_r _ [22, 23, 24, 131, 132, 133, 134, 135, 136, 137, 138, 139, 140] (by decide +kernel) (by decide +kernel)
set_option maxRecDepth 20000 in
theorem gX8_then_X8_refuse : GoodIn wsX8_then (wsV RX8 68 RX8 yX8_refuse wsX8_refuse) := goodIn_app (goodIn_of _ (by decide +kernel)) ggX8_then_X8_refuse
set_option maxRecDepth 20000 in
theorem ggX8_then_X4_look : GoodIn wsX8_then wsX4_look := goodIn_r _ [29, 30, 31, 32, 33, 34, 35, 36, 37, 38, 39, 40, 41, 8, 42, 43, 13, 44, 16, 17, 18, 45, 46, 47, 48, 49, 50, 51, 52, 53, 54, 55, 56, 57, 58, 59, 60, 61, 62, 63, 64, 65, 66, 67, 68, 69, 70, 71, 72, 73, 74, 75, 76, 77, 78, 79, 80, 81, 82, 83, 84, 85, 86, 87, 88, 89, 90, 91, 92, 93, 94, 95, 96, 97, 98, 99, 100, 101, 102, 103, 104, 105, 7, 9, 106, 107, 108, 109, 28, 110, 111, 112, 113, 155, 156, 157, 158, 159, 160, 161, 162, 141, 142, 143, 144, 145, 146, 147, 148, 149, 150, 151, 152, 163, 164, 165, 166, 167, 168, 169, 170, 171, 172] (by decide +kernel) (by decide +kernel)
set_option maxRecDepth 20000 in
theorem gX8_then_X4_look : GoodIn wsX8_then (wsV RX8 139 RX4 yX4_look wsX4_look) := goodIn_app (goodIn_of _ (by decide +kernel)) ggX8_then_X4_look
set_option maxRecDepth 20000 in
theorem ggX8_then_X2_fine : GoodIn wsX8_then wsX2_fine := goodIn_r _ [117, 118, 119, 120, 121, 122, 28, 123, 112, 111, 124, 125, 126, 127, 128, 129, 130, 82, 83, 84, 77, 85, 86, 87, 88, 89, 90, 91, 92, 93, 94, 95, 96, 97, 98, 99, 100, 101, 102, 103, 104, 105, 7, 8, 9, 106, 41, 42, 153, 154, 155, 156, 157, 158, 159, 160, 161, 162, 141, 142, 143, 144, 145, 146, 147, 148, 149, 150, 151, 152, 169, 170, 171, 172] (by decide +kernel) (by decide +kernel)
set_option maxRecDepth 20000 in
theorem gX8_then_X2_fine : GoodIn wsX8_then (wsV RX8 146 RX2 yX2_fine wsX2_fine) := goodIn_app (goodIn_of _ (by decide +kernel)) ggX8_then_X2_fine
set_option maxRecDepth 20000 in
theorem ggX8_first_X8_isMatter : GoodIn wsX8_first wsX8_isMatter := goodIn_r _ [7, 8, 9, 6, 10] (by decide +kernel) (by decide +kernel)
set_option maxRecDepth 20000 in
theorem gX8_first_X8_isMatter : GoodIn wsX8_first (va_wsS RX8 204 yX8_isMatter wsX8_isMatter) := goodIn_app (goodIn_of _ (by decide +kernel)) ggX8_first_X8_isMatter
set_option maxRecDepth 20000 in
theorem ggX8_first_X8_within : GoodIn wsX8_first wsX8_within := goodIn_r _ [10] (by decide +kernel) (by decide +kernel)
set_option maxRecDepth 20000 in
theorem gX8_first_X8_within : GoodIn wsX8_first (va_wsS RX8 64 yX8_within wsX8_within) := goodIn_app (goodIn_of _ (by decide +kernel)) ggX8_first_X8_within
set_option maxRecDepth 20000 in
theorem ggX8_first_X8_refuse : GoodIn wsX8_first wsX8_refuse := goodIn_r _ [14, 15, 16, 111, 112, 113, 114, 115, 116, 117, 118, 119, 120] (by decide +kernel) (by decide +kernel)
set_option maxRecDepth 20000 in
theorem gX8_first_X8_refuse : GoodIn wsX8_first (wsV RX8 68 RX8 yX8_refuse wsX8_refuse) := goodIn_app (goodIn_of _ (by decide +kernel)) ggX8_first_X8_refuse
set_option maxRecDepth 20000 in
theorem ggX8_first_X4_look : GoodIn wsX8_first wsX4_look := goodIn_r _ [21, 22, 23, 24, 25, 26, 27, 28, 29, 30, 31, 32, 33, 34, 35, 5, 6, 7, 8, 9, 10, 36, 37, 38, 39, 40, 41, 42, 43, 44, 45, 46, 47, 48, 49, 50, 51, 52, 53, 54, 55, 56, 57, 58, 59, 60, 61, 62, 63, 64, 65, 66, 67, 68, 69, 70, 71, 72, 73, 74, 75, 76, 77, 78, 79, 80, 81, 82, 83, 84, 85, 86, 87, 88, 89, 90, 91, 92, 93, 94, 95, 96, 97, 98, 99, 100, 101, 102, 20, 103, 104, 105, 106, 133, 134, 135, 136, 137, 138, 139, 140, 121, 122, 123, 124, 125, 126, 127, 128, 129, 130, 131, 132, 141, 142, 143, 144, 145, 146, 147, 148, 149, 150] (by decide +kernel) (by decide +kernel)
set_option maxRecDepth 20000 in
theorem gX8_first_X4_look : GoodIn wsX8_first (wsV RX8 139 RX4 yX4_look wsX4_look) := goodIn_app (goodIn_of _ (by decide +kernel)) ggX8_first_X4_look
set_option maxRecDepth 20000 in
theorem ggX8_first_X4_under : GoodIn wsX8_first wsX4_under := goodIn_r _ [110, 104, 105, 133, 134, 135, 136, 137, 138, 139, 140] (by decide +kernel) (by decide +kernel)
set_option maxRecDepth 20000 in
theorem gX8_first_X4_under : GoodIn wsX8_first (wsV RX8 207 RX4 yX4_under wsX4_under) := goodIn_app (goodIn_of _ (by decide +kernel)) ggX8_first_X4_under
set_option maxRecDepth 20000 in
theorem ggX8_siestas_X8_within : GoodIn wsX8_siestas wsX8_within := goodIn_r _ [8] (by decide +kernel) (by decide +kernel)
set_option maxRecDepth 20000 in
theorem gX8_siestas_X8_within : GoodIn wsX8_siestas (va_wsS RX8 64 yX8_within wsX8_within) := goodIn_app (goodIn_of _ (by decide +kernel)) ggX8_siestas_X8_within
set_option maxRecDepth 20000 in
theorem ggX8_siestas_X8_refuse : GoodIn wsX8_siestas wsX8_refuse := goodIn_r _ [12, 13, 14, 107, 108, 109, 110, 111, 112, 113, 114, 115, 116] (by decide +kernel) (by decide +kernel)
set_option maxRecDepth 20000 in
theorem gX8_siestas_X8_refuse : GoodIn wsX8_siestas (wsV RX8 68 RX8 yX8_refuse wsX8_refuse) := goodIn_app (goodIn_of _ (by decide +kernel)) ggX8_siestas_X8_refuse
set_option maxRecDepth 20000 in
theorem ggX8_siestas_X4_look : GoodIn wsX8_siestas wsX4_look := goodIn_r _ [19, 20, 21, 22, 23, 24, 25, 26, 27, 28, 29, 30, 31, 32, 33, 34, 7, 35, 5, 6, 8, 36, 37, 38, 39, 40, 41, 42, 43, 44, 45, 46, 47, 48, 49, 50, 51, 52, 53, 54, 55, 56, 57, 58, 59, 60, 61, 62, 63, 64, 65, 66, 67, 68, 69, 70, 71, 72, 73, 74, 75, 76, 77, 78, 79, 80, 81, 82, 83, 84, 85, 86, 87, 88, 89, 90, 91, 92, 93, 94, 95, 96, 97, 98, 99, 100, 101, 102, 18, 103, 104, 105, 106, 129, 130, 131, 132, 133, 134, 135, 136, 117, 118, 119, 120, 121, 122, 123, 124, 125, 126, 127, 128, 137, 138, 139, 140, 141, 142, 143, 144, 145, 146] (by decide +kernel) (by decide +kernel)
set_option maxRecDepth 20000 in
theorem gX8_siestas_X4_look : GoodIn wsX8_siestas (wsV RX8 139 RX4 yX4_look wsX4_look) := goodIn_app (goodIn_of _ (by decide +kernel)) ggX8_siestas_X4_look
set_option maxRecDepth 20000 in
theorem ggX8_best_X8_within : GoodIn wsX8_best wsX8_within := goodIn_r _ [10] (by decide +kernel) (by decide +kernel)
set_option maxRecDepth 20000 in
theorem gX8_best_X8_within : GoodIn wsX8_best (va_wsS RX8 64 yX8_within wsX8_within) := goodIn_app (goodIn_of _ (by decide +kernel)) ggX8_best_X8_within
set_option maxRecDepth 20000 in
theorem ggX8_best_X8_refuse : GoodIn wsX8_best wsX8_refuse := goodIn_r _ [14, 15, 16, 115, 116, 117, 118, 119, 120, 121, 122, 123, 124] (by decide +kernel) (by decide +kernel)
set_option maxRecDepth 20000 in
theorem gX8_best_X8_refuse : GoodIn wsX8_best (wsV RX8 68 RX8 yX8_refuse wsX8_refuse) := goodIn_app (goodIn_of _ (by decide +kernel)) ggX8_best_X8_refuse
set_option maxRecDepth 20000 in
theorem ggX8_best_X8_countRules : GoodIn wsX8_best wsX8_countRules := goodIn_r _ [20, 1, 2, 21, 22, 23, 24, 25, 26, 27, 28, 29, 30, 31, 32, 33, 34, 35, 36, 37, 38, 39, 40, 41, 42, 5, 43, 44, 9, 45, 7, 8, 10, 46, 47, 48, 49, 50, 51, 52, 53, 54, 55, 56, 57, 58, 59, 60, 61, 62, 63, 64, 65, 66, 67, 68, 69, 70, 71, 72, 73, 74, 75, 76, 77, 78, 79, 80, 81, 82, 83, 84, 85, 86, 87, 88, 89, 90, 91, 92, 93, 94, 95, 96, 97, 98, 99, 100, 101, 102, 103, 104, 105, 106, 4, 6, 107, 108, 109, 110, 111, 112, 113, 114, 115, 116, 117, 118, 119, 120, 121, 122, 123, 124, 125, 126, 127, 128, 129, 130, 131, 132, 133, 134, 135, 136, 137, 138, 139, 140, 141, 142, 143, 144, 145, 146, 147, 148, 149, 150, 151, 152, 153, 154] (by decide +kernel) (by decide +kernel)
set_option maxRecDepth 20000 in
theorem gX8_best_X8_countRules : GoodIn wsX8_best (wsV RX8 233 RX8 yX8_countRules wsX8_countRules) := goodIn_app (goodIn_of _ (by decide +kernel)) ggX8_best_X8_countRules
set_option maxRecDepth 20000 in
theorem ggX8_fewest_X8_isMatter : GoodIn wsX8_fewest wsX8_isMatter := goodIn_r _ [4, 5, 6, 3, 7] (by decide +kernel) (by decide +kernel)
set_option maxRecDepth 20000 in
theorem gX8_fewest_X8_isMatter : GoodIn wsX8_fewest (va_wsS RX8 204 yX8_isMatter wsX8_isMatter) := goodIn_app (goodIn_of _ (by decide +kernel)) ggX8_fewest_X8_isMatter
set_option maxRecDepth 20000 in
theorem ggX8_fewest_X8_within : GoodIn wsX8_fewest wsX8_within := goodIn_r _ [7] (by decide +kernel) (by decide +kernel)
set_option maxRecDepth 20000 in
theorem gX8_fewest_X8_within : GoodIn wsX8_fewest (va_wsS RX8 64 yX8_within wsX8_within) := goodIn_app (goodIn_of _ (by decide +kernel)) ggX8_fewest_X8_within
set_option maxRecDepth 20000 in
theorem ggX8_fewest_X8_refuse : GoodIn wsX8_fewest wsX8_refuse := goodIn_r _ [11, 12, 13, 130, 131, 132, 133, 134, 135, 136, 137, 138, 139] (by decide +kernel) (by decide +kernel)
set_option maxRecDepth 20000 in
theorem gX8_fewest_X8_refuse : GoodIn wsX8_fewest (wsV RX8 68 RX8 yX8_refuse wsX8_refuse) := goodIn_app (goodIn_of _ (by decide +kernel)) ggX8_fewest_X8_refuse
set_option maxRecDepth 20000 in
theorem ggX8_fewest_X8_fewestForgotten : GoodIn wsX8_fewest wsX8_fewestForgotten := goodIn_r _ [17, 18, 19, 20, 21, 22, 23, 24, 25, 26, 27, 28, 29, 30, 31, 32, 33, 34, 35, 36, 37, 38, 39, 2, 3, 4, 5, 6, 7, 40, 41, 42, 43, 44, 45, 46, 47, 48, 49, 50, 51, 52, 53, 54, 55, 56, 57, 58, 59, 60, 61, 62, 63, 64, 65, 66, 67, 68, 69, 70, 71, 72, 73, 74, 75, 76, 77, 78, 79, 80, 81, 82, 83, 84, 85, 86, 87, 88, 89, 90, 91, 92, 93, 94, 95, 96, 97, 98, 99, 100, 101, 102, 103, 104, 105, 106, 107, 108, 109, 110, 111, 112, 113, 114, 115, 116, 117, 118, 119, 120, 121, 122, 130, 131, 132, 133, 134, 135, 136, 137, 138, 139, 140, 141, 142, 143, 144, 145, 146, 147, 148, 149, 150, 151, 152, 153, 154, 155, 156, 157, 158, 159, 160, 161, 162, 163, 164, 165, 166, 167, 168, 169] (by decide +kernel) (by decide +kernel)
set_option maxRecDepth 20000 in
theorem gX8_fewest_X8_fewestForgotten : GoodIn wsX8_fewest (wsV RX8 237 RX8 yX8_fewestForgotten wsX8_fewestForgotten) := goodIn_app (goodIn_of _ (by decide +kernel)) ggX8_fewest_X8_fewestForgotten
set_option maxRecDepth 20000 in
theorem ggX8_fewest_J6_bitCount_0f7a4 : GoodIn wsX8_fewest wsJ6_bitCount_0f7a4 := goodIn_r _ [126, 127, 128, 129] (by decide +kernel) (by decide +kernel)
set_option maxRecDepth 20000 in
theorem gX8_fewest_J6_bitCount_0f7a4 : GoodIn wsX8_fewest (va_wsS RX8 222 yJ6_bitCount_0f7a4 wsJ6_bitCount_0f7a4) := goodIn_app (goodIn_of _ (by decide +kernel)) ggX8_fewest_J6_bitCount_0f7a4
set_option maxRecDepth 20000 in
theorem ggX8_odds_X8_isMatter : GoodIn wsX8_odds wsX8_isMatter := goodIn_r _ [7, 8, 9, 6, 10] (by decide +kernel) (by decide +kernel)
set_option maxRecDepth 20000 in
theorem gX8_odds_X8_isMatter : GoodIn wsX8_odds (va_wsS RX8 204 yX8_isMatter wsX8_isMatter) := goodIn_app (goodIn_of _ (by decide +kernel)) ggX8_odds_X8_isMatter
set_option maxRecDepth 20000 in
theorem ggX8_odds_X8_within : GoodIn wsX8_odds wsX8_within := goodIn_r _ [10] (by decide +kernel) (by decide +kernel)
set_option maxRecDepth 20000 in
theorem gX8_odds_X8_within : GoodIn wsX8_odds (va_wsS RX8 64 yX8_within wsX8_within) := goodIn_app (goodIn_of _ (by decide +kernel)) ggX8_odds_X8_within
set_option maxRecDepth 20000 in
theorem ggX8_odds_X8_refuse : GoodIn wsX8_odds wsX8_refuse := goodIn_r _ [14, 15, 16, 114, 115, 116, 117, 118, 119, 120, 121, 122, 123] (by decide +kernel) (by decide +kernel)
set_option maxRecDepth 20000 in
theorem gX8_odds_X8_refuse : GoodIn wsX8_odds (wsV RX8 68 RX8 yX8_refuse wsX8_refuse) := goodIn_app (goodIn_of _ (by decide +kernel)) ggX8_odds_X8_refuse
set_option maxRecDepth 20000 in
theorem ggX8_odds_X4_look : GoodIn wsX8_odds wsX4_look := goodIn_r _ [21, 22, 23, 24, 25, 26, 27, 28, 29, 30, 31, 32, 33, 34, 35, 5, 6, 7, 8, 9, 10, 36, 37, 38, 39, 40, 41, 42, 43, 44, 45, 46, 47, 48, 49, 50, 51, 52, 53, 54, 55, 56, 57, 58, 59, 60, 61, 62, 63, 64, 65, 66, 67, 68, 69, 70, 71, 72, 73, 74, 75, 76, 77, 78, 79, 80, 81, 82, 83, 84, 85, 86, 87, 88, 89, 90, 91, 92, 93, 94, 95, 96, 97, 98, 99, 100, 101, 102, 20, 103, 104, 105, 106, 136, 137, 138, 139, 140, 141, 142, 143, 124, 125, 126, 127, 128, 129, 130, 131, 132, 133, 134, 135, 144, 145, 146, 147, 148, 149, 150, 151, 152, 153] (by decide +kernel) (by decide +kernel)
set_option maxRecDepth 20000 in
theorem gX8_odds_X4_look : GoodIn wsX8_odds (wsV RX8 139 RX4 yX4_look wsX4_look) := goodIn_app (goodIn_of _ (by decide +kernel)) ggX8_odds_X4_look
set_option maxRecDepth 20000 in
theorem ggX8_odds_X4_under : GoodIn wsX8_odds wsX4_under := goodIn_r _ [110, 104, 105, 136, 137, 138, 139, 140, 141, 142, 143] (by decide +kernel) (by decide +kernel)
set_option maxRecDepth 20000 in
theorem gX8_odds_X4_under : GoodIn wsX8_odds (wsV RX8 207 RX4 yX4_under wsX4_under) := goodIn_app (goodIn_of _ (by decide +kernel)) ggX8_odds_X4_under
set_option maxRecDepth 20000 in
theorem ggX8_odds_X8_commonDivisor : GoodIn wsX8_odds wsX8_commonDivisor := goodIn_r _ [113] (by decide +kernel) (by decide +kernel)
set_option maxRecDepth 20000 in
theorem gX8_odds_X8_commonDivisor : GoodIn wsX8_odds (va_wsS RX8 240 yX8_commonDivisor wsX8_commonDivisor) := goodIn_app (goodIn_of _ (by decide +kernel)) ggX8_odds_X8_commonDivisor
set_option maxRecDepth 20000 in
theorem ggX8_fits_X8_isSheet : GoodIn wsX8_fits wsX8_isSheet := goodIn_r _ [10, 11, 12, 9, 13] (by decide +kernel) (by decide +kernel)
set_option maxRecDepth 20000 in
theorem gX8_fits_X8_isSheet : GoodIn wsX8_fits (va_wsS RX8 243 yX8_isSheet wsX8_isSheet) := goodIn_app (goodIn_of _ (by decide +kernel)) ggX8_fits_X8_isSheet
set_option maxRecDepth 20000 in
theorem ggX8_fits_X8_refuse : GoodIn wsX8_fits wsX8_refuse := goodIn_r _ [17, 18, 19, 122, 123, 124, 125, 126, 127, 128, 129, 130, 131] (by decide +kernel) (by decide +kernel)
set_option maxRecDepth 20000 in
theorem gX8_fits_X8_refuse : GoodIn wsX8_fits (wsV RX8 68 RX8 yX8_refuse wsX8_refuse) := goodIn_app (goodIn_of _ (by decide +kernel)) ggX8_fits_X8_refuse
set_option maxRecDepth 20000 in
theorem ggX8_fits_X4_look : GoodIn wsX8_fits wsX4_look := goodIn_r _ [24, 25, 26, 27, 28, 29, 30, 31, 32, 33, 34, 35, 36, 37, 38, 39, 9, 40, 11, 12, 13, 41, 42, 43, 44, 45, 46, 47, 48, 49, 50, 51, 52, 53, 54, 55, 56, 57, 58, 59, 60, 61, 62, 63, 64, 65, 66, 67, 68, 69, 70, 71, 72, 73, 74, 75, 76, 77, 78, 79, 80, 81, 82, 83, 84, 85, 86, 87, 88, 89, 90, 91, 92, 93, 94, 95, 96, 97, 98, 99, 100, 101, 102, 103, 104, 105, 106, 107, 23, 108, 109, 110, 111, 147, 148, 149, 150, 151, 152, 153, 154, 135, 136, 137, 138, 139, 140, 141, 142, 143, 144, 145, 146, 155, 156, 157, 158, 159, 160, 161, 162, 163, 164] (by decide +kernel) (by decide +kernel)
set_option maxRecDepth 20000 in
theorem gX8_fits_X4_look : GoodIn wsX8_fits (wsV RX8 139 RX4 yX4_look wsX4_look) := goodIn_app (goodIn_of _ (by decide +kernel)) ggX8_fits_X4_look
set_option maxRecDepth 20000 in
theorem ggX8_fits_X8_rightOf : GoodIn wsX8_fits wsX8_rightOf := goodIn_r _ [115, 3, 116, 102, 37, 103, 117, 4, 118, 119, 120, 23, 121, 109, 110, 132, 133, 134, 122, 123, 124, 125, 126, 127, 128, 129, 130, 131, 147, 148, 149, 150, 151, 152, 153, 154] (by decide +kernel) (by decide +kernel)
set_option maxRecDepth 20000 in
theorem gX8_fits_X8_rightOf : GoodIn wsX8_fits (wsV RX8 250 RX8 yX8_rightOf wsX8_rightOf) := goodIn_app (goodIn_of _ (by decide +kernel)) ggX8_fits_X8_rightOf
set_option maxRecDepth 20000 in
theorem ggX8_voice_X8_isDream : GoodIn wsX8_voice wsX8_isDream := goodIn_r _ [9, 2, 10, 11, 12, 8, 13, 55, 56, 57, 58, 59, 60, 61, 62, 63, 64, 65, 66, 67, 68, 69, 70, 71, 72, 73, 74, 75, 76] (by decide +kernel) (by decide +kernel)
set_option maxRecDepth 20000 in
theorem gX8_voice_X8_isDream : GoodIn wsX8_voice (wsV RX8 76 RX8 yX8_isDream wsX8_isDream) := goodIn_app (goodIn_of _ (by decide +kernel)) ggX8_voice_X8_isDream
set_option maxRecDepth 20000 in
theorem ggX8_voice_X8_within : GoodIn wsX8_voice wsX8_within := goodIn_r _ [13] (by decide +kernel) (by decide +kernel)
set_option maxRecDepth 20000 in
theorem gX8_voice_X8_within : GoodIn wsX8_voice (va_wsS RX8 64 yX8_within wsX8_within) := goodIn_app (goodIn_of _ (by decide +kernel)) ggX8_voice_X8_within
set_option maxRecDepth 20000 in
theorem ggX8_voice_X8_refuse : GoodIn wsX8_voice wsX8_refuse := goodIn_r _ [17, 18, 19, 55, 56, 57, 58, 59, 60, 61, 62, 63, 64] (by decide +kernel) (by decide +kernel)
set_option maxRecDepth 20000 in
theorem gX8_voice_X8_refuse : GoodIn wsX8_voice (wsV RX8 68 RX8 yX8_refuse wsX8_refuse) := goodIn_app (goodIn_of _ (by decide +kernel)) ggX8_voice_X8_refuse
set_option maxRecDepth 20000 in
theorem ggX8_voice_X5_speaks : GoodIn wsX8_voice wsX5_speaks := goodIn_r _ [24, 25, 26, 27, 28, 29, 30, 31, 32, 33, 34, 23, 35, 36, 37, 38, 39, 8, 40, 41, 11, 12, 13, 42, 43, 44, 45, 46, 47, 48, 49, 50, 51, 52, 53, 54, 83, 84, 85, 86, 87, 88, 77, 78, 79, 80, 81, 82] (by decide +kernel) (by decide +kernel)
set_option maxRecDepth 20000 in
theorem gX8_voice_X5_speaks : GoodIn wsX8_voice (wsV RX8 254 RX5 yX5_speaks wsX5_speaks) := goodIn_app (goodIn_of _ (by decide +kernel)) ggX8_voice_X5_speaks
set_option maxRecDepth 20000 in
theorem ggX8_body_X8_within : GoodIn wsX8_body wsX8_within := goodIn_r _ [7] (by decide +kernel) (by decide +kernel)
set_option maxRecDepth 20000 in
theorem gX8_body_X8_within : GoodIn wsX8_body (va_wsS RX8 64 yX8_within wsX8_within) := goodIn_app (goodIn_of _ (by decide +kernel)) ggX8_body_X8_within
set_option maxRecDepth 20000 in
theorem ggX8_body_X8_refuse : GoodIn wsX8_body wsX8_refuse := goodIn_r _ [11, 12, 13, 14, 15, 16, 17, 18, 19, 20, 21, 22, 23] (by decide +kernel) (by decide +kernel)
set_option maxRecDepth 20000 in
theorem gX8_body_X8_refuse : GoodIn wsX8_body (wsV RX8 68 RX8 yX8_refuse wsX8_refuse) := goodIn_app (goodIn_of _ (by decide +kernel)) ggX8_body_X8_refuse
set_option maxRecDepth 20000 in
theorem ggX8_sheet_X8_isSheet : GoodIn wsX8_sheet wsX8_isSheet := goodIn_r _ [5, 6, 7, 4, 8] (by decide +kernel) (by decide +kernel)
set_option maxRecDepth 20000 in
theorem gX8_sheet_X8_isSheet : GoodIn wsX8_sheet (va_wsS RX8 243 yX8_isSheet wsX8_isSheet) := goodIn_app (goodIn_of _ (by decide +kernel)) ggX8_sheet_X8_isSheet
set_option maxRecDepth 20000 in
theorem ggX8_sheet_X8_refuse : GoodIn wsX8_sheet wsX8_refuse := goodIn_r _ [12, 13, 14, 23, 24, 25, 26, 27, 28, 29, 30, 31, 32] (by decide +kernel) (by decide +kernel)
set_option maxRecDepth 20000 in
theorem gX8_sheet_X8_refuse : GoodIn wsX8_sheet (wsV RX8 68 RX8 yX8_refuse wsX8_refuse) := goodIn_app (goodIn_of _ (by decide +kernel)) ggX8_sheet_X8_refuse
set_option maxRecDepth 20000 in
theorem ggX8_sheet_X3_renew : GoodIn wsX8_sheet wsX3_renew := goodIn_r _ [19, 20, 21, 22, 33, 34, 35] (by decide +kernel) (by decide +kernel)
set_option maxRecDepth 20000 in
theorem gX8_sheet_X3_renew : GoodIn wsX8_sheet (wsV RX8 265 RX3 yX3_renew wsX3_renew) := goodIn_app (goodIn_of _ (by decide +kernel)) ggX8_sheet_X3_renew
set_option maxRecDepth 20000 in
theorem ggX8_put_X8_isSheet : GoodIn wsX8_put wsX8_isSheet := goodIn_r _ [7, 8, 9, 6, 10] (by decide +kernel) (by decide +kernel)
set_option maxRecDepth 20000 in
theorem gX8_put_X8_isSheet : GoodIn wsX8_put (va_wsS RX8 243 yX8_isSheet wsX8_isSheet) := goodIn_app (goodIn_of _ (by decide +kernel)) ggX8_put_X8_isSheet
set_option maxRecDepth 20000 in
theorem ggX8_put_X8_refuse : GoodIn wsX8_put wsX8_refuse := goodIn_r _ [14, 15, 16, 24, 25, 26, 27, 28, 29, 30, 31, 32, 33] (by decide +kernel) (by decide +kernel)
set_option maxRecDepth 20000 in
theorem gX8_put_X8_refuse : GoodIn wsX8_put (wsV RX8 68 RX8 yX8_refuse wsX8_refuse) := goodIn_app (goodIn_of _ (by decide +kernel)) ggX8_put_X8_refuse
set_option maxRecDepth 20000 in
theorem ggX8_put_X8_within : GoodIn wsX8_put wsX8_within := goodIn_r _ [10] (by decide +kernel) (by decide +kernel)
set_option maxRecDepth 20000 in
theorem gX8_put_X8_within : GoodIn wsX8_put (va_wsS RX8 64 yX8_within wsX8_within) := goodIn_app (goodIn_of _ (by decide +kernel)) ggX8_put_X8_within
set_option maxRecDepth 20000 in
theorem ggX8_put_X3_write : GoodIn wsX8_put wsX3_write := goodIn_r _ [21, 22, 23, 34, 35, 36] (by decide +kernel) (by decide +kernel)
set_option maxRecDepth 20000 in
theorem gX8_put_X3_write : GoodIn wsX8_put (wsV RX8 269 RX3 yX3_write wsX3_write) := goodIn_app (goodIn_of _ (by decide +kernel)) ggX8_put_X3_write
set_option maxRecDepth 20000 in
theorem ggX8_move_X8_isSheet : GoodIn wsX8_move wsX8_isSheet := goodIn_r _ [11, 12, 13, 10, 14] (by decide +kernel) (by decide +kernel)
set_option maxRecDepth 20000 in
theorem gX8_move_X8_isSheet : GoodIn wsX8_move (va_wsS RX8 243 yX8_isSheet wsX8_isSheet) := goodIn_app (goodIn_of _ (by decide +kernel)) ggX8_move_X8_isSheet
set_option maxRecDepth 20000 in
theorem ggX8_move_X8_refuse : GoodIn wsX8_move wsX8_refuse := goodIn_r _ [18, 19, 20, 27, 28, 29, 30, 31, 32, 33, 34, 35, 36] (by decide +kernel) (by decide +kernel)
set_option maxRecDepth 20000 in
theorem gX8_move_X8_refuse : GoodIn wsX8_move (wsV RX8 68 RX8 yX8_refuse wsX8_refuse) := goodIn_app (goodIn_of _ (by decide +kernel)) ggX8_move_X8_refuse
set_option maxRecDepth 20000 in
theorem ggX8_move_X3_holds : GoodIn wsX8_move wsX3_holds := goodIn_r _ [25, 26, 37, 38, 39] (by decide +kernel) (by decide +kernel)
set_option maxRecDepth 20000 in
theorem gX8_move_X3_holds : GoodIn wsX8_move (wsV RX8 272 RX3 yX3_holds wsX3_holds) := goodIn_app (goodIn_of _ (by decide +kernel)) ggX8_move_X3_holds
set_option maxRecDepth 20000 in
theorem ggX8_wonts_X8_isSheet : GoodIn wsX8_wonts wsX8_isSheet := goodIn_r _ [16, 17, 18, 15, 19] (by decide +kernel) (by decide +kernel)
set_option maxRecDepth 20000 in
theorem gX8_wonts_X8_isSheet : GoodIn wsX8_wonts (va_wsS RX8 243 yX8_isSheet wsX8_isSheet) := goodIn_app (goodIn_of _ (by decide +kernel)) ggX8_wonts_X8_isSheet
set_option maxRecDepth 20000 in
theorem ggX8_wonts_X8_refuse : GoodIn wsX8_wonts wsX8_refuse := goodIn_r _ [23, 24, 25, 26, 27, 28, 29, 30, 31, 32, 33, 34, 35] (by decide +kernel) (by decide +kernel)
set_option maxRecDepth 20000 in
theorem gX8_wonts_X8_refuse : GoodIn wsX8_wonts (wsV RX8 68 RX8 yX8_refuse wsX8_refuse) := goodIn_app (goodIn_of _ (by decide +kernel)) ggX8_wonts_X8_refuse
set_option maxRecDepth 20000 in
theorem ggX8_wonts_X8_within : GoodIn wsX8_wonts wsX8_within := goodIn_r _ [19] (by decide +kernel) (by decide +kernel)
set_option maxRecDepth 20000 in
theorem gX8_wonts_X8_within : GoodIn wsX8_wonts (va_wsS RX8 64 yX8_within wsX8_within) := goodIn_app (goodIn_of _ (by decide +kernel)) ggX8_wonts_X8_within
set_option maxRecDepth 20000 in
theorem ggX8_judge_X8_isSheet : GoodIn wsX8_judge wsX8_isSheet := goodIn_r _ [9, 10, 11, 8, 12] (by decide +kernel) (by decide +kernel)
set_option maxRecDepth 20000 in
theorem gX8_judge_X8_isSheet : GoodIn wsX8_judge (va_wsS RX8 243 yX8_isSheet wsX8_isSheet) := goodIn_app (goodIn_of _ (by decide +kernel)) ggX8_judge_X8_isSheet
set_option maxRecDepth 20000 in
theorem ggX8_judge_X8_refuse : GoodIn wsX8_judge wsX8_refuse := goodIn_r _ [16, 17, 18, 122, 123, 124, 125, 126, 127, 128, 129, 130, 131] (by decide +kernel) (by decide +kernel)
set_option maxRecDepth 20000 in
theorem gX8_judge_X8_refuse : GoodIn wsX8_judge (wsV RX8 68 RX8 yX8_refuse wsX8_refuse) := goodIn_app (goodIn_of _ (by decide +kernel)) ggX8_judge_X8_refuse
set_option maxRecDepth 20000 in
theorem ggX8_judge_X4_look : GoodIn wsX8_judge wsX4_look := goodIn_r _ [23, 24, 25, 26, 27, 28, 29, 30, 31, 32, 33, 34, 35, 36, 37, 38, 8, 39, 10, 11, 12, 40, 41, 42, 43, 44, 45, 46, 47, 48, 49, 50, 51, 52, 53, 54, 55, 56, 57, 58, 59, 60, 61, 62, 63, 64, 65, 66, 67, 68, 69, 70, 71, 72, 73, 74, 75, 76, 77, 78, 79, 80, 81, 82, 83, 84, 85, 86, 87, 88, 89, 90, 91, 92, 93, 94, 95, 96, 97, 98, 99, 100, 101, 102, 103, 104, 105, 106, 22, 107, 108, 109, 110, 147, 148, 149, 150, 151, 152, 153, 154, 135, 136, 137, 138, 139, 140, 141, 142, 143, 144, 145, 146, 155, 156, 157, 158, 159, 160, 161, 162, 163, 164] (by decide +kernel) (by decide +kernel)
set_option maxRecDepth 20000 in
theorem gX8_judge_X4_look : GoodIn wsX8_judge (wsV RX8 139 RX4 yX4_look wsX4_look) := goodIn_app (goodIn_of _ (by decide +kernel)) ggX8_judge_X4_look
set_option maxRecDepth 20000 in
theorem ggX8_judge_X8_rightOf : GoodIn wsX8_judge wsX8_rightOf := goodIn_r _ [114, 115, 116, 101, 36, 102, 117, 3, 118, 119, 120, 22, 121, 108, 109, 132, 133, 134, 122, 123, 124, 125, 126, 127, 128, 129, 130, 131, 147, 148, 149, 150, 151, 152, 153, 154] (by decide +kernel) (by decide +kernel)
set_option maxRecDepth 20000 in
theorem gX8_judge_X8_rightOf : GoodIn wsX8_judge (wsV RX8 250 RX8 yX8_rightOf wsX8_rightOf) := goodIn_app (goodIn_of _ (by decide +kernel)) ggX8_judge_X8_rightOf
set_option maxRecDepth 20000 in
theorem ggX8_image_X2_takeAll : GoodIn wsX8_image wsX2_takeAll := goodIn_r _ [8, 9, 10, 11, 12, 13, 14, 15, 16, 17, 18, 19, 20, 21, 22, 23, 24, 25, 26, 27, 28, 29, 30, 31, 32, 33, 34, 35, 36, 37, 38, 39, 40, 41, 42, 43, 44, 45, 46, 47, 48, 49, 50, 51, 52, 53, 54, 55, 56, 57, 58, 59, 60, 61, 72, 73, 74, 75, 76, 77, 78, 79, 80, 81, 82, 83, 84, 85, 86, 87, 88, 89, 90, 91, 92, 93, 94, 95] (by decide +kernel) (by decide +kernel)
set_option maxRecDepth 20000 in
theorem gX8_image_X2_takeAll : GoodIn wsX8_image (wsV RX8 287 RX2 yX2_takeAll wsX2_takeAll) := goodIn_app (goodIn_of _ (by decide +kernel)) ggX8_image_X2_takeAll
set_option maxRecDepth 20000 in
theorem ggX8_restore_X8_refuse : GoodIn wsX8_restore wsX8_refuse := goodIn_r _ [9, 10, 11, 70, 71, 72, 73, 74, 75, 76, 77, 78, 79] (by decide +kernel) (by decide +kernel)
set_option maxRecDepth 20000 in
theorem gX8_restore_X8_refuse : GoodIn wsX8_restore (wsV RX8 68 RX8 yX8_refuse wsX8_refuse) := goodIn_app (goodIn_of _ (by decide +kernel)) ggX8_restore_X8_refuse
set_option maxRecDepth 20000 in
theorem ggX8_restore_X2_takeAll : GoodIn wsX8_restore wsX2_takeAll := goodIn_r _ [16, 17, 18, 19, 20, 21, 22, 23, 24, 25, 26, 27, 28, 29, 30, 31, 32, 33, 34, 35, 36, 37, 38, 39, 40, 41, 42, 43, 44, 45, 46, 47, 48, 49, 50, 51, 52, 53, 54, 55, 56, 57, 58, 59, 60, 61, 62, 63, 64, 65, 66, 67, 68, 69, 80, 81, 82, 83, 84, 85, 86, 87, 88, 89, 90, 91, 92, 93, 94, 95, 96, 97, 98, 99, 100, 101, 102, 103] (by decide +kernel) (by decide +kernel)
set_option maxRecDepth 20000 in
theorem gX8_restore_X2_takeAll : GoodIn wsX8_restore (wsV RX8 287 RX2 yX2_takeAll wsX2_takeAll) := goodIn_app (goodIn_of _ (by decide +kernel)) ggX8_restore_X2_takeAll
set_option maxRecDepth 20000 in
theorem ggX8_tell_X8_refuse : GoodIn wsX8_tell wsX8_refuse := goodIn_r _ [8, 9, 10, 11, 12, 13, 14, 15, 16, 17, 18, 19, 20] (by decide +kernel) (by decide +kernel)
set_option maxRecDepth 20000 in
theorem gX8_tell_X8_refuse : GoodIn wsX8_tell (wsV RX8 68 RX8 yX8_refuse wsX8_refuse) := goodIn_app (goodIn_of _ (by decide +kernel)) ggX8_tell_X8_refuse
set_option maxRecDepth 20000 in
theorem ggX8_count_X8_refuse : GoodIn wsX8_count wsX8_refuse := goodIn_r _ [15, 16, 17, 18, 19, 20, 21, 22, 23, 24, 25, 26, 27] (by decide +kernel) (by decide +kernel)
set_option maxRecDepth 20000 in
theorem gX8_count_X8_refuse : GoodIn wsX8_count (wsV RX8 68 RX8 yX8_refuse wsX8_refuse) := goodIn_app (goodIn_of _ (by decide +kernel)) ggX8_count_X8_refuse
set_option maxRecDepth 20000 in
theorem ggX8_told_X8_within : GoodIn wsX8_told wsX8_within := goodIn_r _ [5] (by decide +kernel) (by decide +kernel)
set_option maxRecDepth 20000 in
theorem gX8_told_X8_within : GoodIn wsX8_told (va_wsS RX8 64 yX8_within wsX8_within) := goodIn_app (goodIn_of _ (by decide +kernel)) ggX8_told_X8_within
set_option maxRecDepth 20000 in
theorem ggX8_told_X8_refuse : GoodIn wsX8_told wsX8_refuse := goodIn_r _ [9, 1, 10, 11, 12, 13, 14, 15, 16, 17, 18, 19, 20] (by decide +kernel) (by decide +kernel)
set_option maxRecDepth 20000 in
theorem gX8_told_X8_refuse : GoodIn wsX8_told (wsV RX8 68 RX8 yX8_refuse wsX8_refuse) := goodIn_app (goodIn_of _ (by decide +kernel)) ggX8_told_X8_refuse
set_option maxRecDepth 20000 in
theorem ggX8_isKindAndNumber_X8_within : GoodIn wsX8_isKindAndNumber wsX8_within := goodIn_r _ [4] (by decide +kernel) (by decide +kernel)
set_option maxRecDepth 20000 in
theorem gX8_isKindAndNumber_X8_within : GoodIn wsX8_isKindAndNumber (va_wsS RX8 64 yX8_within wsX8_within) := goodIn_app (goodIn_of _ (by decide +kernel)) ggX8_isKindAndNumber_X8_within
set_option maxRecDepth 20000 in
theorem ggX8_isMatterAndSide_X8_within : GoodIn wsX8_isMatterAndSide wsX8_within := goodIn_r _ [4] (by decide +kernel) (by decide +kernel)
set_option maxRecDepth 20000 in
theorem gX8_isMatterAndSide_X8_within : GoodIn wsX8_isMatterAndSide (va_wsS RX8 64 yX8_within wsX8_within) := goodIn_app (goodIn_of _ (by decide +kernel)) ggX8_isMatterAndSide_X8_within
set_option maxRecDepth 20000 in
theorem ggX8_isMatter_X8_within : GoodIn wsX8_isMatter wsX8_within := goodIn_r _ [4] (by decide +kernel) (by decide +kernel)
set_option maxRecDepth 20000 in
theorem gX8_isMatter_X8_within : GoodIn wsX8_isMatter (va_wsS RX8 64 yX8_within wsX8_within) := goodIn_app (goodIn_of _ (by decide +kernel)) ggX8_isMatter_X8_within
set_option maxRecDepth 20000 in
theorem ggX8_isUse_X8_within : GoodIn wsX8_isUse wsX8_within := goodIn_r _ [4] (by decide +kernel) (by decide +kernel)
set_option maxRecDepth 20000 in
theorem gX8_isUse_X8_within : GoodIn wsX8_isUse (va_wsS RX8 64 yX8_within wsX8_within) := goodIn_app (goodIn_of _ (by decide +kernel)) ggX8_isUse_X8_within
set_option maxRecDepth 20000 in
theorem ggX8_isSheet_X8_within : GoodIn wsX8_isSheet wsX8_within := goodIn_r _ [4] (by decide +kernel) (by decide +kernel)
set_option maxRecDepth 20000 in
theorem gX8_isSheet_X8_within : GoodIn wsX8_isSheet (va_wsS RX8 64 yX8_within wsX8_within) := goodIn_app (goodIn_of _ (by decide +kernel)) ggX8_isSheet_X8_within
set_option maxRecDepth 20000 in
theorem ggX8_above_X8_within : GoodIn wsX8_above wsX8_within := goodIn_r _ [5] (by decide +kernel) (by decide +kernel)
set_option maxRecDepth 20000 in
theorem gX8_above_X8_within : GoodIn wsX8_above (va_wsS RX8 64 yX8_within wsX8_within) := goodIn_app (goodIn_of _ (by decide +kernel)) ggX8_above_X8_within
set_option maxRecDepth 20000 in
theorem ggX8_isDream_X8_within : GoodIn wsX8_isDream wsX8_within := goodIn_r _ [6] (by decide +kernel) (by decide +kernel)
set_option maxRecDepth 20000 in
theorem gX8_isDream_X8_within : GoodIn wsX8_isDream (va_wsS RX8 64 yX8_within wsX8_within) := goodIn_app (goodIn_of _ (by decide +kernel)) ggX8_isDream_X8_within
set_option maxRecDepth 20000 in
theorem ggX8_isPerson_X8_within : GoodIn wsX8_isPerson wsX8_within := goodIn_r _ [6] (by decide +kernel) (by decide +kernel)
set_option maxRecDepth 20000 in
theorem gX8_isPerson_X8_within : GoodIn wsX8_isPerson (va_wsS RX8 64 yX8_within wsX8_within) := goodIn_app (goodIn_of _ (by decide +kernel)) ggX8_isPerson_X8_within
set_option maxRecDepth 20000 in
theorem ggX8_rightOf_X4_under : GoodIn wsX8_rightOf wsX4_under := goodIn_r _ [12, 13, 14, 28, 29, 30, 31, 32, 33, 34, 35] (by decide +kernel) (by decide +kernel)
set_option maxRecDepth 20000 in
theorem gX8_rightOf_X4_under : GoodIn wsX8_rightOf (wsV RX8 207 RX4 yX4_under wsX4_under) := goodIn_app (goodIn_of _ (by decide +kernel)) ggX8_rightOf_X4_under
set_option maxRecDepth 20000 in
theorem ggX8_countRules_X4_look : GoodIn wsX8_countRules wsX4_look := goodIn_r _ [12, 13, 14, 15, 16, 17, 18, 19, 20, 21, 22, 23, 24, 25, 26, 27, 28, 29, 30, 31, 32, 33, 34, 35, 36, 37, 38, 39, 40, 41, 42, 43, 44, 45, 46, 47, 48, 49, 50, 51, 52, 53, 54, 55, 56, 57, 58, 59, 60, 61, 62, 63, 64, 65, 66, 67, 68, 69, 70, 71, 72, 73, 74, 75, 76, 77, 78, 79, 80, 81, 82, 83, 84, 85, 86, 87, 88, 89, 90, 91, 92, 93, 94, 95, 96, 97, 98, 99, 11, 100, 101, 102, 103, 126, 127, 128, 129, 130, 131, 132, 133, 114, 115, 116, 117, 118, 119, 120, 121, 122, 123, 124, 125, 134, 135, 136, 137, 138, 139, 140, 141, 142, 143] (by decide +kernel) (by decide +kernel)
set_option maxRecDepth 20000 in
theorem gX8_countRules_X4_look : GoodIn wsX8_countRules (wsV RX8 139 RX4 yX4_look wsX4_look) := goodIn_app (goodIn_of _ (by decide +kernel)) ggX8_countRules_X4_look
set_option maxRecDepth 20000 in
theorem ggX8_fewestForgotten_X4_look : GoodIn wsX8_fewestForgotten wsX4_look := goodIn_r _ [8, 9, 10, 11, 12, 13, 14, 15, 16, 17, 18, 19, 20, 21, 22, 23, 24, 25, 26, 27, 28, 29, 30, 31, 32, 33, 34, 35, 36, 37, 38, 39, 40, 41, 42, 43, 44, 45, 46, 47, 48, 49, 50, 51, 52, 53, 54, 55, 56, 57, 58, 59, 60, 61, 62, 63, 64, 65, 66, 67, 68, 69, 70, 71, 72, 73, 74, 75, 76, 77, 78, 79, 80, 81, 82, 83, 84, 85, 86, 87, 88, 89, 90, 91, 92, 93, 94, 95, 7, 96, 97, 98, 99, 134, 135, 136, 137, 138, 139, 140, 141, 122, 123, 124, 125, 126, 127, 128, 129, 130, 131, 132, 133, 142, 143, 144, 145, 146, 147, 148, 149, 150, 151] (by decide +kernel) (by decide +kernel)
set_option maxRecDepth 20000 in
theorem gX8_fewestForgotten_X4_look : GoodIn wsX8_fewestForgotten (wsV RX8 139 RX4 yX4_look wsX4_look) := goodIn_app (goodIn_of _ (by decide +kernel)) ggX8_fewestForgotten_X4_look
set_option maxRecDepth 20000 in
theorem ggX8_fewestForgotten_X4_outweighing : GoodIn wsX8_fewestForgotten wsX4_outweighing := goodIn_r _ [103, 13, 14, 18, 15, 17, 104, 105, 106, 7, 107, 19, 20, 21, 22, 108, 109, 110, 111, 10, 122, 123, 124, 125, 126, 127, 128, 129, 130, 131, 132, 133, 142, 143, 144, 145, 146, 147, 134, 135, 136, 137, 138, 139, 140, 141] (by decide +kernel) (by decide +kernel)
set_option maxRecDepth 20000 in
theorem gX8_fewestForgotten_X4_outweighing : GoodIn wsX8_fewestForgotten (wsV RX8 304 RX4 yX4_outweighing wsX4_outweighing) := goodIn_app (goodIn_of _ (by decide +kernel)) ggX8_fewestForgotten_X4_outweighing
set_option maxRecDepth 20000 in
theorem ggX9_isDream_X9_in : GoodIn wsX9_isDream wsX9_in := goodIn_r _ [5] (by decide +kernel) (by decide +kernel)
set_option maxRecDepth 20000 in
theorem gX9_isDream_X9_in : GoodIn wsX9_isDream (va_wsS RX9 47 yX9_in wsX9_in) := goodIn_app (goodIn_of _ (by decide +kernel)) ggX9_isDream_X9_in
set_option maxRecDepth 20000 in
theorem ggX9_isPerson_X9_in : GoodIn wsX9_isPerson wsX9_in := goodIn_r _ [5] (by decide +kernel) (by decide +kernel)
set_option maxRecDepth 20000 in
theorem gX9_isPerson_X9_in : GoodIn wsX9_isPerson (va_wsS RX9 47 yX9_in wsX9_in) := goodIn_app (goodIn_of _ (by decide +kernel)) ggX9_isPerson_X9_in
set_option maxRecDepth 20000 in
theorem ggX9_isMatter_X9_in : GoodIn wsX9_isMatter wsX9_in := goodIn_r _ [4] (by decide +kernel) (by decide +kernel)
set_option maxRecDepth 20000 in
theorem gX9_isMatter_X9_in : GoodIn wsX9_isMatter (va_wsS RX9 47 yX9_in wsX9_in) := goodIn_app (goodIn_of _ (by decide +kernel)) ggX9_isMatter_X9_in
set_option maxRecDepth 20000 in
theorem ggX9_daysOn_X9_of : GoodIn wsX9_daysOn wsX9_of := goodIn_r _ [5, 6, 7, 8, 9, 10, 11, 12, 13, 14, 15, 16, 17, 18, 19, 20, 21, 22, 23, 24, 25, 26] (by decide +kernel) (by decide +kernel)
set_option maxRecDepth 20000 in
theorem gX9_daysOn_X9_of : GoodIn wsX9_daysOn (wsV RX9 51 RX9 yX9_of wsX9_of) := goodIn_app (goodIn_of _ (by decide +kernel)) ggX9_daysOn_X9_of
set_option maxRecDepth 20000 in
theorem ggX9_isInForce_X9_of : GoodIn wsX9_isInForce wsX9_of := goodIn_r _ [6, 1, 11, 12, 13, 14, 15, 16, 17, 18, 19, 20, 21, 22, 23, 24, 25, 26, 27, 28, 29, 30] (by decide +kernel) (by decide +kernel)
set_option maxRecDepth 20000 in
theorem gX9_isInForce_X9_of : GoodIn wsX9_isInForce (wsV RX9 51 RX9 yX9_of wsX9_of) := goodIn_app (goodIn_of _ (by decide +kernel)) ggX9_isInForce_X9_of
set_option maxRecDepth 20000 in
theorem ggX9_isInForce_X9_daysOn : GoodIn wsX9_isInForce wsX9_daysOn := goodIn_r _ [10, 2, 3, 4, 5, 6, 1, 11, 12, 13, 14, 15, 16, 17, 18, 19, 20, 21, 22, 23, 24, 25, 26, 27, 28, 29, 30] (by decide +kernel) (by decide +kernel)
set_option maxRecDepth 20000 in
theorem gX9_isInForce_X9_daysOn : GoodIn wsX9_isInForce (wsV RX9 55 RX9 yX9_daysOn wsX9_daysOn) := goodIn_app (goodIn_of _ (by decide +kernel)) ggX9_isInForce_X9_daysOn
set_option maxRecDepth 20000 in
theorem ggX9_weightOf_X9_of : GoodIn wsX9_weightOf wsX9_of := goodIn_r _ [5, 6, 27, 28, 29, 30, 31, 32, 33, 34, 35, 36, 37, 38, 39, 40, 41, 42, 43, 44, 45, 46] (by decide +kernel) (by decide +kernel)
set_option maxRecDepth 20000 in
theorem gX9_weightOf_X9_of : GoodIn wsX9_weightOf (wsV RX9 51 RX9 yX9_of wsX9_of) := goodIn_app (goodIn_of _ (by decide +kernel)) ggX9_weightOf_X9_of
set_option maxRecDepth 20000 in
theorem ggX9_weightOf_X9_daysOn : GoodIn wsX9_weightOf wsX9_daysOn := goodIn_r _ [10, 1, 2, 3, 4, 5, 6, 27, 28, 29, 30, 31, 32, 33, 34, 35, 36, 37, 38, 39, 40, 41, 42, 43, 44, 45, 46] (by decide +kernel) (by decide +kernel)
set_option maxRecDepth 20000 in
theorem gX9_weightOf_X9_daysOn : GoodIn wsX9_weightOf (wsV RX9 55 RX9 yX9_daysOn wsX9_daysOn) := goodIn_app (goodIn_of _ (by decide +kernel)) ggX9_weightOf_X9_daysOn
set_option maxRecDepth 20000 in
theorem ggX9_weightOf_X9_gives : GoodIn wsX9_weightOf wsX9_gives := goodIn_r _ [14, 15, 6, 16, 17, 18, 4, 19, 20, 21, 22, 23, 24, 25, 26, 27, 28, 29, 30, 31, 32, 33, 34, 35, 36, 37, 38, 39, 40, 41, 42, 43, 44, 45, 46] (by decide +kernel) (by decide +kernel)
set_option maxRecDepth 20000 in
theorem gX9_weightOf_X9_gives : GoodIn wsX9_weightOf (wsV RX9 58 RX9 yX9_gives wsX9_gives) := goodIn_app (goodIn_of _ (by decide +kernel)) ggX9_weightOf_X9_gives
set_option maxRecDepth 20000 in
theorem ggX9_greatest_X9_of : GoodIn wsX9_greatest wsX9_of := goodIn_r _ [7, 2, 36, 37, 38, 39, 40, 41, 42, 43, 44, 45, 46, 47, 48, 49, 50, 51, 52, 53, 54, 55] (by decide +kernel) (by decide +kernel)
set_option maxRecDepth 20000 in
theorem gX9_greatest_X9_of : GoodIn wsX9_greatest (wsV RX9 51 RX9 yX9_of wsX9_of) := goodIn_app (goodIn_of _ (by decide +kernel)) ggX9_greatest_X9_of
set_option maxRecDepth 20000 in
theorem ggX9_greatest_X9_isInForce : GoodIn wsX9_greatest wsX9_isInForce := goodIn_r _ [11, 2, 3, 4, 5, 6, 7, 12, 13, 14, 15, 36, 37, 38, 39, 40, 41, 42, 43, 44, 45, 46, 47, 48, 49, 50, 51, 52, 53, 54, 55] (by decide +kernel) (by decide +kernel)
set_option maxRecDepth 20000 in
theorem gX9_greatest_X9_isInForce : GoodIn wsX9_greatest (wsV RX9 62 RX9 yX9_isInForce wsX9_isInForce) := goodIn_app (goodIn_of _ (by decide +kernel)) ggX9_greatest_X9_isInForce
set_option maxRecDepth 20000 in
theorem ggX9_greatest_X9_weightOf : GoodIn wsX9_greatest wsX9_weightOf := goodIn_r _ [19, 3, 4, 5, 6, 7, 2, 12, 13, 14, 15, 20, 21, 22, 23, 24, 25, 26, 27, 28, 29, 30, 31, 32, 33, 34, 35, 36, 37, 38, 39, 40, 41, 42, 43, 44, 45, 46, 47, 48, 49, 50, 51, 52, 53, 54, 55] (by decide +kernel) (by decide +kernel)
set_option maxRecDepth 20000 in
theorem gX9_greatest_X9_weightOf : GoodIn wsX9_greatest (wsV RX9 66 RX9 yX9_weightOf wsX9_weightOf) := goodIn_app (goodIn_of _ (by decide +kernel)) ggX9_greatest_X9_weightOf
set_option maxRecDepth 20000 in
theorem ggX9_underAt_X9_greatest : GoodIn wsX9_underAt wsX9_greatest := goodIn_r _ [5, 6, 7, 8, 9, 10, 4, 11, 12, 13, 14, 15, 16, 17, 18, 19, 20, 21, 22, 23, 24, 25, 26, 27, 28, 29, 30, 31, 32, 33, 34, 35, 36, 37, 38, 39, 40, 41, 42, 43, 44, 45, 46, 47, 48, 49, 50, 51, 52, 53, 54, 55, 56, 57, 58, 59] (by decide +kernel) (by decide +kernel)
set_option maxRecDepth 20000 in
theorem gX9_underAt_X9_greatest : GoodIn wsX9_underAt (wsV RX9 69 RX9 yX9_greatest wsX9_greatest) := goodIn_app (goodIn_of _ (by decide +kernel)) ggX9_underAt_X9_greatest
set_option maxRecDepth 20000 in
theorem ggX9_mattersUnder_X9_underAt : GoodIn wsX9_mattersUnder wsX9_underAt := goodIn_r _ [5, 6, 7, 8, 4, 9, 10, 11, 12, 13, 14, 15, 16, 17, 18, 19, 20, 21, 22, 23, 24, 25, 26, 27, 28, 29, 30, 31, 32, 33, 34, 35, 36, 37, 38, 39, 40, 41, 42, 43, 44, 45, 46, 47, 48, 49, 50, 51, 52, 53, 54, 55, 56, 57, 58, 59, 60, 61, 62, 63] (by decide +kernel) (by decide +kernel)
set_option maxRecDepth 20000 in
theorem gX9_mattersUnder_X9_underAt : GoodIn wsX9_mattersUnder (wsV RX9 73 RX9 yX9_underAt wsX9_underAt) := goodIn_app (goodIn_of _ (by decide +kernel)) ggX9_mattersUnder_X9_underAt
set_option maxRecDepth 20000 in
theorem ggX9_disputes_X9_greatest : GoodIn wsX9_disputes wsX9_greatest := goodIn_r _ [6, 1, 7, 8, 9, 10, 5, 11, 12, 13, 14, 15, 16, 17, 18, 19, 20, 21, 22, 23, 24, 25, 26, 27, 28, 29, 30, 31, 32, 33, 34, 35, 36, 37, 38, 39, 40, 41, 42, 43, 44, 45, 46, 47, 48, 49, 50, 51, 52, 53, 54, 55, 56, 57, 58, 59] (by decide +kernel) (by decide +kernel)
set_option maxRecDepth 20000 in
theorem gX9_disputes_X9_greatest : GoodIn wsX9_disputes (wsV RX9 69 RX9 yX9_greatest wsX9_greatest) := goodIn_app (goodIn_of _ (by decide +kernel)) ggX9_disputes_X9_greatest
set_option maxRecDepth 20000 in
theorem ggX9_guiltOf_X9_about : GoodIn wsX9_guiltOf wsX9_about := goodIn_r _ [5, 6, 55, 56, 57, 58, 59, 60, 61, 62, 63, 64, 65, 66, 67, 68, 69, 70, 71, 72, 73, 74] (by decide +kernel) (by decide +kernel)
set_option maxRecDepth 20000 in
theorem gX9_guiltOf_X9_about : GoodIn wsX9_guiltOf (wsV RX9 76 RX9 yX9_about wsX9_about) := goodIn_app (goodIn_of _ (by decide +kernel)) ggX9_guiltOf_X9_about
set_option maxRecDepth 20000 in
theorem ggX9_guiltOf_X9_mattersUnder : GoodIn wsX9_guiltOf wsX9_mattersUnder := goodIn_r _ [10, 11, 12, 13, 4, 14, 15, 16, 17, 18, 19, 6, 20, 21, 22, 23, 24, 25, 26, 27, 28, 29, 30, 31, 32, 33, 34, 35, 36, 37, 38, 39, 40, 41, 42, 43, 44, 45, 46, 47, 48, 49, 50, 51, 55, 56, 57, 58, 59, 60, 61, 62, 63, 64, 65, 66, 67, 68, 69, 70, 71, 72, 73, 74] (by decide +kernel) (by decide +kernel)
set_option maxRecDepth 20000 in
theorem gX9_guiltOf_X9_mattersUnder : GoodIn wsX9_guiltOf (wsV RX9 79 RX9 yX9_mattersUnder wsX9_mattersUnder) := goodIn_app (goodIn_of _ (by decide +kernel)) ggX9_guiltOf_X9_mattersUnder
set_option maxRecDepth 20000 in
theorem ggX9_guiltOf_X9_bits : GoodIn wsX9_guiltOf wsX9_bits := goodIn_r _ [54] (by decide +kernel) (by decide +kernel)
set_option maxRecDepth 20000 in
theorem gX9_guiltOf_X9_bits : GoodIn wsX9_guiltOf (va_wsS RX9 82 yX9_bits wsX9_bits) := goodIn_app (goodIn_of _ (by decide +kernel)) ggX9_guiltOf_X9_bits
set_option maxRecDepth 20000 in
theorem ggX9_fineOf_X9_guiltOf : GoodIn wsX9_fineOf wsX9_guiltOf := goodIn_r _ [5, 6, 7, 8, 4, 9, 10, 11, 12, 13, 14, 15, 16, 17, 18, 19, 20, 21, 22, 23, 24, 25, 26, 27, 28, 29, 30, 31, 32, 33, 34, 35, 36, 37, 38, 39, 40, 41, 42, 43, 44, 45, 46, 47, 48, 49, 50, 51, 52, 53, 54, 55, 56, 57, 58, 59, 60, 61, 62, 63, 64, 65, 66, 67, 68, 69, 70, 71, 72, 73, 74, 75, 76, 77, 78] (by decide +kernel) (by decide +kernel)
set_option maxRecDepth 20000 in
theorem gX9_fineOf_X9_guiltOf : GoodIn wsX9_fineOf (wsV RX9 86 RX9 yX9_guiltOf wsX9_guiltOf) := goodIn_app (goodIn_of _ (by decide +kernel)) ggX9_fineOf_X9_guiltOf
set_option maxRecDepth 20000 in
theorem ggX9_fineOf_X9_gives : GoodIn wsX9_fineOf wsX9_gives := goodIn_r _ [43, 44, 10, 45, 46, 47, 4, 48, 49, 50, 51, 52, 53, 54, 55, 59, 60, 61, 62, 63, 64, 65, 66, 67, 68, 69, 70, 71, 72, 73, 74, 75, 76, 77, 78] (by decide +kernel) (by decide +kernel)
set_option maxRecDepth 20000 in
theorem gX9_fineOf_X9_gives : GoodIn wsX9_fineOf (wsV RX9 58 RX9 yX9_gives wsX9_gives) := goodIn_app (goodIn_of _ (by decide +kernel)) ggX9_fineOf_X9_gives
set_option maxRecDepth 20000 in
theorem ggX9_isKm_X9_in : GoodIn wsX9_isKm wsX9_in := goodIn_r _ [4] (by decide +kernel) (by decide +kernel)
set_option maxRecDepth 20000 in
theorem gX9_isKm_X9_in : GoodIn wsX9_isKm (va_wsS RX9 47 yX9_in wsX9_in) := goodIn_app (goodIn_of _ (by decide +kernel)) ggX9_isKm_X9_in
set_option maxRecDepth 20000 in
theorem ggX9_dream_X9_isKm : GoodIn wsX9_dream wsX9_isKm := goodIn_r _ [7, 8, 9, 6, 10] (by decide +kernel) (by decide +kernel)
set_option maxRecDepth 20000 in
theorem gX9_dream_X9_isKm : GoodIn wsX9_dream (va_wsS RX9 89 yX9_isKm wsX9_isKm) := goodIn_app (goodIn_of _ (by decide +kernel)) ggX9_dream_X9_isKm
set_option maxRecDepth 20000 in
theorem ggX9_dream_X9_in : GoodIn wsX9_dream wsX9_in := goodIn_r _ [10] (by decide +kernel) (by decide +kernel)
set_option maxRecDepth 20000 in
theorem gX9_dream_X9_in : GoodIn wsX9_dream (va_wsS RX9 47 yX9_in wsX9_in) := goodIn_app (goodIn_of _ (by decide +kernel)) ggX9_dream_X9_in
set_option maxRecDepth 20000 in
theorem ggX9_dream_X9_error : GoodIn wsX9_dream wsX9_error := goodIn_r _ [14, 15, 16, 21, 22, 23, 24, 25, 26, 27, 28, 29, 30, 31, 32, 33, 34, 35, 36, 37, 38, 39, 40] (by decide +kernel) (by decide +kernel)
set_option maxRecDepth 20000 in
theorem gX9_dream_X9_error : GoodIn wsX9_dream (wsV RX9 94 RX9 yX9_error wsX9_error) := goodIn_app (goodIn_of _ (by decide +kernel)) ggX9_dream_X9_error
set_option maxRecDepth 20000 in
theorem ggX9_dream_X9_comes : GoodIn wsX9_dream wsX9_comes := goodIn_r _ [20, 2, 21, 22, 23, 24, 25, 26, 27, 28, 29, 30, 31, 32, 33, 34, 35, 36, 37, 38, 39, 40] (by decide +kernel) (by decide +kernel)
set_option maxRecDepth 20000 in
theorem gX9_dream_X9_comes : GoodIn wsX9_dream (wsV RX9 98 RX9 yX9_comes wsX9_comes) := goodIn_app (goodIn_of _ (by decide +kernel)) ggX9_dream_X9_comes
set_option maxRecDepth 20000 in
theorem ggX9_dreamIs_X9_isDream : GoodIn wsX9_dreamIs wsX9_isDream := goodIn_r _ [7, 2, 8, 9, 6, 10, 49, 50, 51, 52, 53, 54, 55, 56, 57, 58, 59, 60, 61, 62, 63, 64, 65, 66, 67, 68] (by decide +kernel) (by decide +kernel)
set_option maxRecDepth 20000 in
theorem gX9_dreamIs_X9_isDream : GoodIn wsX9_dreamIs (wsV RX9 101 RX9 yX9_isDream wsX9_isDream) := goodIn_app (goodIn_of _ (by decide +kernel)) ggX9_dreamIs_X9_isDream
set_option maxRecDepth 20000 in
theorem ggX9_dreamIs_X9_in : GoodIn wsX9_dreamIs wsX9_in := goodIn_r _ [10] (by decide +kernel) (by decide +kernel)
set_option maxRecDepth 20000 in
theorem gX9_dreamIs_X9_in : GoodIn wsX9_dreamIs (va_wsS RX9 47 yX9_in wsX9_in) := goodIn_app (goodIn_of _ (by decide +kernel)) ggX9_dreamIs_X9_in
set_option maxRecDepth 20000 in
theorem ggX9_dreamIs_X9_error : GoodIn wsX9_dreamIs wsX9_error := goodIn_r _ [14, 15, 16, 49, 50, 51, 52, 53, 54, 55, 56, 57, 58, 59, 60, 61, 62, 63, 64, 65, 66, 67, 68] (by decide +kernel) (by decide +kernel)
set_option maxRecDepth 20000 in
theorem gX9_dreamIs_X9_error : GoodIn wsX9_dreamIs (wsV RX9 94 RX9 yX9_error wsX9_error) := goodIn_app (goodIn_of _ (by decide +kernel)) ggX9_dreamIs_X9_error
set_option maxRecDepth 20000 in
theorem ggX9_dreamIs_X9_of : GoodIn wsX9_dreamIs wsX9_of := goodIn_r _ [20, 2, 49, 50, 51, 52, 53, 54, 55, 56, 57, 58, 59, 60, 61, 62, 63, 64, 65, 66, 67, 68] (by decide +kernel) (by decide +kernel)
set_option maxRecDepth 20000 in
theorem gX9_dreamIs_X9_of : GoodIn wsX9_dreamIs (wsV RX9 51 RX9 yX9_of wsX9_of) := goodIn_app (goodIn_of _ (by decide +kernel)) ggX9_dreamIs_X9_of
set_option maxRecDepth 20000 in
theorem ggX9_dreamIs_X9_weightOf : GoodIn wsX9_dreamIs wsX9_weightOf := goodIn_r _ [24, 17, 18, 19, 6, 20, 2, 25, 26, 27, 28, 29, 30, 31, 32, 33, 34, 35, 36, 37, 38, 39, 40, 41, 42, 43, 44, 49, 50, 51, 52, 53, 54, 55, 56, 57, 58, 59, 60, 61, 62, 63, 64, 65, 66, 67, 68] (by decide +kernel) (by decide +kernel)
set_option maxRecDepth 20000 in
theorem gX9_dreamIs_X9_weightOf : GoodIn wsX9_dreamIs (wsV RX9 66 RX9 yX9_weightOf wsX9_weightOf) := goodIn_app (goodIn_of _ (by decide +kernel)) ggX9_dreamIs_X9_weightOf
set_option maxRecDepth 20000 in
theorem ggX9_dreamIs_X9_isInForce : GoodIn wsX9_dreamIs wsX9_isInForce := goodIn_r _ [48, 2, 17, 18, 19, 6, 20, 25, 26, 27, 28, 49, 50, 51, 52, 53, 54, 55, 56, 57, 58, 59, 60, 61, 62, 63, 64, 65, 66, 67, 68] (by decide +kernel) (by decide +kernel)
set_option maxRecDepth 20000 in
theorem gX9_dreamIs_X9_isInForce : GoodIn wsX9_dreamIs (wsV RX9 62 RX9 yX9_isInForce wsX9_isInForce) := goodIn_app (goodIn_of _ (by decide +kernel)) ggX9_dreamIs_X9_isInForce
set_option maxRecDepth 20000 in
theorem ggX9_become_X9_isDream : GoodIn wsX9_become wsX9_isDream := goodIn_r _ [7, 2, 8, 9, 6, 10, 24, 25, 26, 27, 28, 29, 30, 31, 32, 33, 34, 35, 36, 37, 38, 39, 40, 41, 42, 43] (by decide +kernel) (by decide +kernel)
set_option maxRecDepth 20000 in
theorem gX9_become_X9_isDream : GoodIn wsX9_become (wsV RX9 101 RX9 yX9_isDream wsX9_isDream) := goodIn_app (goodIn_of _ (by decide +kernel)) ggX9_become_X9_isDream
set_option maxRecDepth 20000 in
theorem ggX9_become_X9_isKm : GoodIn wsX9_become wsX9_isKm := goodIn_r _ [13, 8, 9, 6, 10] (by decide +kernel) (by decide +kernel)
set_option maxRecDepth 20000 in
theorem gX9_become_X9_isKm : GoodIn wsX9_become (va_wsS RX9 89 yX9_isKm wsX9_isKm) := goodIn_app (goodIn_of _ (by decide +kernel)) ggX9_become_X9_isKm
set_option maxRecDepth 20000 in
theorem ggX9_become_X9_error : GoodIn wsX9_become wsX9_error := goodIn_r _ [17, 18, 19, 24, 25, 26, 27, 28, 29, 30, 31, 32, 33, 34, 35, 36, 37, 38, 39, 40, 41, 42, 43] (by decide +kernel) (by decide +kernel)
set_option maxRecDepth 20000 in
theorem gX9_become_X9_error : GoodIn wsX9_become (wsV RX9 94 RX9 yX9_error wsX9_error) := goodIn_app (goodIn_of _ (by decide +kernel)) ggX9_become_X9_error
set_option maxRecDepth 20000 in
theorem ggX9_become_X9_becomes : GoodIn wsX9_become wsX9_becomes := goodIn_r _ [23, 2, 24, 25, 26, 27, 28, 29, 30, 31, 32, 33, 34, 35, 36, 37, 38, 39, 40, 41, 42, 43] (by decide +kernel) (by decide +kernel)
set_option maxRecDepth 20000 in
theorem gX9_become_X9_becomes : GoodIn wsX9_become (wsV RX9 104 RX9 yX9_becomes wsX9_becomes) := goodIn_app (goodIn_of _ (by decide +kernel)) ggX9_become_X9_becomes
set_option maxRecDepth 20000 in
theorem ggX9_as_X9_isDream : GoodIn wsX9_as wsX9_isDream := goodIn_r _ [7, 8, 9, 10, 6, 11, 22, 23, 24, 25, 26, 27, 28, 29, 30, 31, 32, 33, 34, 35, 36, 37, 38, 39, 40, 41] (by decide +kernel) (by decide +kernel)
set_option maxRecDepth 20000 in
theorem gX9_as_X9_isDream : GoodIn wsX9_as (wsV RX9 101 RX9 yX9_isDream wsX9_isDream) := goodIn_app (goodIn_of _ (by decide +kernel)) ggX9_as_X9_isDream
set_option maxRecDepth 20000 in
theorem ggX9_as_X9_in : GoodIn wsX9_as wsX9_in := goodIn_r _ [11] (by decide +kernel) (by decide +kernel)
set_option maxRecDepth 20000 in
theorem gX9_as_X9_in : GoodIn wsX9_as (va_wsS RX9 47 yX9_in wsX9_in) := goodIn_app (goodIn_of _ (by decide +kernel)) ggX9_as_X9_in
set_option maxRecDepth 20000 in
theorem ggX9_as_X9_error : GoodIn wsX9_as wsX9_error := goodIn_r _ [15, 16, 17, 22, 23, 24, 25, 26, 27, 28, 29, 30, 31, 32, 33, 34, 35, 36, 37, 38, 39, 40, 41] (by decide +kernel) (by decide +kernel)
set_option maxRecDepth 20000 in
theorem gX9_as_X9_error : GoodIn wsX9_as (wsV RX9 94 RX9 yX9_error wsX9_error) := goodIn_app (goodIn_of _ (by decide +kernel)) ggX9_as_X9_error
set_option maxRecDepth 20000 in
theorem ggX9_as_X9_of : GoodIn wsX9_as wsX9_of := goodIn_r _ [21, 8, 22, 23, 24, 25, 26, 27, 28, 29, 30, 31, 32, 33, 34, 35, 36, 37, 38, 39, 40, 41] (by decide +kernel) (by decide +kernel)
set_option maxRecDepth 20000 in
theorem gX9_as_X9_of : GoodIn wsX9_as (wsV RX9 51 RX9 yX9_of wsX9_of) := goodIn_app (goodIn_of _ (by decide +kernel)) ggX9_as_X9_of
set_option maxRecDepth 20000 in
theorem ggX9_forgets_X9_isDream : GoodIn wsX9_forgets wsX9_isDream := goodIn_r _ [6, 7, 8, 9, 5, 10, 21, 22, 23, 24, 25, 26, 27, 28, 29, 30, 31, 32, 33, 34, 35, 36, 37, 38, 39, 40] (by decide +kernel) (by decide +kernel)
set_option maxRecDepth 20000 in
theorem gX9_forgets_X9_isDream : GoodIn wsX9_forgets (wsV RX9 101 RX9 yX9_isDream wsX9_isDream) := goodIn_app (goodIn_of _ (by decide +kernel)) ggX9_forgets_X9_isDream
set_option maxRecDepth 20000 in
theorem ggX9_forgets_X9_in : GoodIn wsX9_forgets wsX9_in := goodIn_r _ [10] (by decide +kernel) (by decide +kernel)
set_option maxRecDepth 20000 in
theorem gX9_forgets_X9_in : GoodIn wsX9_forgets (va_wsS RX9 47 yX9_in wsX9_in) := goodIn_app (goodIn_of _ (by decide +kernel)) ggX9_forgets_X9_in
set_option maxRecDepth 20000 in
theorem ggX9_forgets_X9_becomes : GoodIn wsX9_forgets wsX9_becomes := goodIn_r _ [14, 7, 21, 22, 23, 24, 25, 26, 27, 28, 29, 30, 31, 32, 33, 34, 35, 36, 37, 38, 39, 40] (by decide +kernel) (by decide +kernel)
set_option maxRecDepth 20000 in
theorem gX9_forgets_X9_becomes : GoodIn wsX9_forgets (wsV RX9 104 RX9 yX9_becomes wsX9_becomes) := goodIn_app (goodIn_of _ (by decide +kernel)) ggX9_forgets_X9_becomes
set_option maxRecDepth 20000 in
theorem ggX9_forgets_X9_error : GoodIn wsX9_forgets wsX9_error := goodIn_r _ [18, 19, 20, 21, 22, 23, 24, 25, 26, 27, 28, 29, 30, 31, 32, 33, 34, 35, 36, 37, 38, 39, 40] (by decide +kernel) (by decide +kernel)
set_option maxRecDepth 20000 in
theorem gX9_forgets_X9_error : GoodIn wsX9_forgets (wsV RX9 94 RX9 yX9_error wsX9_error) := goodIn_app (goodIn_of _ (by decide +kernel)) ggX9_forgets_X9_error
set_option maxRecDepth 20000 in
theorem ggX9_person_X9_in : GoodIn wsX9_person wsX9_in := goodIn_r _ [7] (by decide +kernel) (by decide +kernel)
set_option maxRecDepth 20000 in
theorem gX9_person_X9_in : GoodIn wsX9_person (va_wsS RX9 47 yX9_in wsX9_in) := goodIn_app (goodIn_of _ (by decide +kernel)) ggX9_person_X9_in
set_option maxRecDepth 20000 in
theorem ggX9_person_X9_error : GoodIn wsX9_person wsX9_error := goodIn_r _ [11, 12, 13, 14, 15, 16, 17, 18, 19, 20, 21, 22, 23, 24, 25, 26, 27, 28, 29, 30, 31, 32, 33] (by decide +kernel) (by decide +kernel)
set_option maxRecDepth 20000 in
theorem gX9_person_X9_error : GoodIn wsX9_person (wsV RX9 94 RX9 yX9_error wsX9_error) := goodIn_app (goodIn_of _ (by decide +kernel)) ggX9_person_X9_error
set_option maxRecDepth 20000 in
theorem ggX9_personIs_X9_isPerson : GoodIn wsX9_personIs wsX9_isPerson := goodIn_r _ [7, 2, 8, 9, 6, 10, 76, 77, 78, 79, 80, 81, 82, 83, 84, 85, 86, 87, 88, 89, 90, 91, 92, 93, 94, 95] (by decide +kernel) (by decide +kernel)
set_option maxRecDepth 20000 in
theorem gX9_personIs_X9_isPerson : GoodIn wsX9_personIs (wsV RX9 108 RX9 yX9_isPerson wsX9_isPerson) := goodIn_app (goodIn_of _ (by decide +kernel)) ggX9_personIs_X9_isPerson
set_option maxRecDepth 20000 in
theorem ggX9_personIs_X9_in : GoodIn wsX9_personIs wsX9_in := goodIn_r _ [10] (by decide +kernel) (by decide +kernel)
set_option maxRecDepth 20000 in
theorem gX9_personIs_X9_in : GoodIn wsX9_personIs (va_wsS RX9 47 yX9_in wsX9_in) := goodIn_app (goodIn_of _ (by decide +kernel)) ggX9_personIs_X9_in
set_option maxRecDepth 20000 in
theorem ggX9_personIs_X9_error : GoodIn wsX9_personIs wsX9_error := goodIn_r _ [14, 15, 16, 76, 77, 78, 79, 80, 81, 82, 83, 84, 85, 86, 87, 88, 89, 90, 91, 92, 93, 94, 95] (by decide +kernel) (by decide +kernel)
set_option maxRecDepth 20000 in
theorem gX9_personIs_X9_error : GoodIn wsX9_personIs (wsV RX9 94 RX9 yX9_error wsX9_error) := goodIn_app (goodIn_of _ (by decide +kernel)) ggX9_personIs_X9_error
set_option maxRecDepth 20000 in
theorem ggX9_personIs_X9_about : GoodIn wsX9_personIs wsX9_about := goodIn_r _ [20, 2, 76, 77, 78, 79, 80, 81, 82, 83, 84, 85, 86, 87, 88, 89, 90, 91, 92, 93, 94, 95] (by decide +kernel) (by decide +kernel)
set_option maxRecDepth 20000 in
theorem gX9_personIs_X9_about : GoodIn wsX9_personIs (wsV RX9 76 RX9 yX9_about wsX9_about) := goodIn_app (goodIn_of _ (by decide +kernel)) ggX9_personIs_X9_about
set_option maxRecDepth 20000 in
theorem ggX9_personIs_X9_guiltOf : GoodIn wsX9_personIs wsX9_guiltOf := goodIn_r _ [24, 17, 18, 19, 6, 20, 2, 25, 26, 27, 28, 29, 30, 31, 32, 33, 34, 35, 36, 16, 37, 38, 39, 40, 41, 42, 43, 44, 45, 46, 47, 48, 49, 50, 51, 52, 53, 54, 55, 56, 57, 58, 59, 60, 61, 62, 63, 64, 65, 66, 67, 68, 69, 70, 71, 76, 77, 78, 79, 80, 81, 82, 83, 84, 85, 86, 87, 88, 89, 90, 91, 92, 93, 94, 95] (by decide +kernel) (by decide +kernel)
set_option maxRecDepth 20000 in
theorem gX9_personIs_X9_guiltOf : GoodIn wsX9_personIs (wsV RX9 86 RX9 yX9_guiltOf wsX9_guiltOf) := goodIn_app (goodIn_of _ (by decide +kernel)) ggX9_personIs_X9_guiltOf
set_option maxRecDepth 20000 in
theorem ggX9_personIs_X9_fineOf : GoodIn wsX9_personIs wsX9_fineOf := goodIn_r _ [75, 21, 22, 23, 6, 24, 17, 18, 19, 20, 2, 25, 26, 27, 28, 29, 30, 31, 32, 33, 34, 35, 36, 16, 37, 38, 39, 40, 41, 42, 43, 44, 45, 46, 47, 48, 49, 50, 51, 52, 53, 54, 55, 56, 57, 58, 59, 60, 61, 62, 63, 64, 65, 66, 67, 68, 69, 70, 71, 76, 77, 78, 79, 80, 81, 82, 83, 84, 85, 86, 87, 88, 89, 90, 91, 92, 93, 94, 95] (by decide +kernel) (by decide +kernel)
set_option maxRecDepth 20000 in
theorem gX9_personIs_X9_fineOf : GoodIn wsX9_personIs (wsV RX9 111 RX9 yX9_fineOf wsX9_fineOf) := goodIn_app (goodIn_of _ (by decide +kernel)) ggX9_personIs_X9_fineOf
set_option maxRecDepth 20000 in
theorem ggX9_takesTo_X9_isPerson : GoodIn wsX9_takesTo wsX9_isPerson := goodIn_r _ [6, 7, 8, 9, 5, 10, 21, 22, 23, 24, 25, 26, 27, 28, 29, 30, 31, 32, 33, 34, 35, 36, 37, 38, 39, 40] (by decide +kernel) (by decide +kernel)
set_option maxRecDepth 20000 in
theorem gX9_takesTo_X9_isPerson : GoodIn wsX9_takesTo (wsV RX9 108 RX9 yX9_isPerson wsX9_isPerson) := goodIn_app (goodIn_of _ (by decide +kernel)) ggX9_takesTo_X9_isPerson
set_option maxRecDepth 20000 in
theorem ggX9_takesTo_X9_in : GoodIn wsX9_takesTo wsX9_in := goodIn_r _ [10] (by decide +kernel) (by decide +kernel)
set_option maxRecDepth 20000 in
theorem gX9_takesTo_X9_in : GoodIn wsX9_takesTo (va_wsS RX9 47 yX9_in wsX9_in) := goodIn_app (goodIn_of _ (by decide +kernel)) ggX9_takesTo_X9_in
set_option maxRecDepth 20000 in
theorem ggX9_takesTo_X9_becomes : GoodIn wsX9_takesTo wsX9_becomes := goodIn_r _ [14, 7, 21, 22, 23, 24, 25, 26, 27, 28, 29, 30, 31, 32, 33, 34, 35, 36, 37, 38, 39, 40] (by decide +kernel) (by decide +kernel)
set_option maxRecDepth 20000 in
theorem gX9_takesTo_X9_becomes : GoodIn wsX9_takesTo (wsV RX9 104 RX9 yX9_becomes wsX9_becomes) := goodIn_app (goodIn_of _ (by decide +kernel)) ggX9_takesTo_X9_becomes
set_option maxRecDepth 20000 in
theorem ggX9_takesTo_X9_error : GoodIn wsX9_takesTo wsX9_error := goodIn_r _ [18, 19, 20, 21, 22, 23, 24, 25, 26, 27, 28, 29, 30, 31, 32, 33, 34, 35, 36, 37, 38, 39, 40] (by decide +kernel) (by decide +kernel)
set_option maxRecDepth 20000 in
theorem gX9_takesTo_X9_error : GoodIn wsX9_takesTo (wsV RX9 94 RX9 yX9_error wsX9_error) := goodIn_app (goodIn_of _ (by decide +kernel)) ggX9_takesTo_X9_error
set_option maxRecDepth 20000 in
theorem ggX9_clock_X9_in : GoodIn wsX9_clock wsX9_in := goodIn_r _ [5] (by decide +kernel) (by decide +kernel)
set_option maxRecDepth 20000 in
theorem gX9_clock_X9_in : GoodIn wsX9_clock (va_wsS RX9 47 yX9_in wsX9_in) := goodIn_app (goodIn_of _ (by decide +kernel)) ggX9_clock_X9_in
set_option maxRecDepth 20000 in
theorem ggX9_clock_X9_becomes : GoodIn wsX9_clock wsX9_becomes := goodIn_r _ [9, 10, 17, 18, 19, 20, 21, 22, 23, 24, 25, 26, 27, 28, 29, 30, 31, 32, 33, 34, 35, 36] (by decide +kernel) (by decide +kernel)
set_option maxRecDepth 20000 in
theorem gX9_clock_X9_becomes : GoodIn wsX9_clock (wsV RX9 104 RX9 yX9_becomes wsX9_becomes) := goodIn_app (goodIn_of _ (by decide +kernel)) ggX9_clock_X9_becomes
set_option maxRecDepth 20000 in
theorem ggX9_clock_X9_error : GoodIn wsX9_clock wsX9_error := goodIn_r _ [14, 15, 16, 17, 18, 19, 20, 21, 22, 23, 24, 25, 26, 27, 28, 29, 30, 31, 32, 33, 34, 35, 36] (by decide +kernel) (by decide +kernel)
set_option maxRecDepth 20000 in
theorem gX9_clock_X9_error : GoodIn wsX9_clock (wsV RX9 94 RX9 yX9_error wsX9_error) := goodIn_app (goodIn_of _ (by decide +kernel)) ggX9_clock_X9_error
set_option maxRecDepth 20000 in
theorem ggX9_feed_X9_in : GoodIn wsX9_feed wsX9_in := goodIn_r _ [8] (by decide +kernel) (by decide +kernel)
set_option maxRecDepth 20000 in
theorem gX9_feed_X9_in : GoodIn wsX9_feed (va_wsS RX9 47 yX9_in wsX9_in) := goodIn_app (goodIn_of _ (by decide +kernel)) ggX9_feed_X9_in
set_option maxRecDepth 20000 in
theorem ggX9_feed_X9_error : GoodIn wsX9_feed wsX9_error := goodIn_r _ [12, 13, 14, 15, 16, 17, 18, 19, 20, 21, 22, 23, 24, 25, 26, 27, 28, 29, 30, 31, 32, 33, 34] (by decide +kernel) (by decide +kernel)
set_option maxRecDepth 20000 in
theorem gX9_feed_X9_error : GoodIn wsX9_feed (wsV RX9 94 RX9 yX9_error wsX9_error) := goodIn_app (goodIn_of _ (by decide +kernel)) ggX9_feed_X9_error
set_option maxRecDepth 20000 in
theorem ggX9_number_X9_look : GoodIn wsX9_number wsX9_look := goodIn_r _ [7, 1, 8, 19, 20, 21, 22, 23, 24, 25, 26, 27, 28, 29, 30, 31, 32, 33, 34, 35, 36, 37, 38] (by decide +kernel) (by decide +kernel)
set_option maxRecDepth 20000 in
theorem gX9_number_X9_look : GoodIn wsX9_number (wsV RX9 126 RX9 yX9_look wsX9_look) := goodIn_app (goodIn_of _ (by decide +kernel)) ggX9_number_X9_look
set_option maxRecDepth 20000 in
theorem ggX9_number_X9_in : GoodIn wsX9_number wsX9_in := goodIn_r _ [11] (by decide +kernel) (by decide +kernel)
set_option maxRecDepth 20000 in
theorem gX9_number_X9_in : GoodIn wsX9_number (va_wsS RX9 47 yX9_in wsX9_in) := goodIn_app (goodIn_of _ (by decide +kernel)) ggX9_number_X9_in
set_option maxRecDepth 20000 in
theorem ggX9_number_X9_step : GoodIn wsX9_number wsX9_step := goodIn_r _ [15, 16, 17, 18, 19, 20, 21, 22, 23, 24, 25, 26, 27, 28, 29, 30, 31, 32, 33, 34, 35, 36, 37, 38] (by decide +kernel) (by decide +kernel)
set_option maxRecDepth 20000 in
theorem gX9_number_X9_step : GoodIn wsX9_number (wsV RX9 134 RX9 yX9_step wsX9_step) := goodIn_app (goodIn_of _ (by decide +kernel)) ggX9_number_X9_step
set_option maxRecDepth 20000 in
theorem ggX9_opens_X9_one : GoodIn wsX9_opens wsX9_one := goodIn_r _ [35, 3, 18, 19, 20, 7, 21, 22, 36, 37, 38, 39, 40, 8, 9, 10, 11, 12, 13, 14, 41, 42, 43, 44, 45, 46, 47, 2, 48, 49, 50, 23, 24, 25, 26, 27, 28, 29, 30, 31, 32, 33, 34, 0, 1, 4, 5, 6, 15, 16, 17, 51, 52, 53, 54, 55, 56, 57, 58, 59, 60, 61, 62, 63, 64, 65, 66, 67, 68, 69, 70, 71, 72, 73, 74, 75] (by decide +kernel) (by decide +kernel)
set_option maxRecDepth 20000 in
theorem gX9_opens_X9_one : GoodIn wsX9_opens (wsV RX9 141 RX9 yX9_one wsX9_one) := goodIn_app (goodIn_of _ (by decide +kernel)) ggX9_opens_X9_one
set_option maxRecDepth 20000 in
theorem ggX9_opens_X9_step : GoodIn wsX9_opens wsX9_step := goodIn_r _ [11, 12, 13, 14, 56, 57, 58, 59, 60, 61, 62, 63, 64, 65, 66, 67, 68, 69, 70, 71, 72, 73, 74, 75] (by decide +kernel) (by decide +kernel)
set_option maxRecDepth 20000 in
theorem gX9_opens_X9_step : GoodIn wsX9_opens (wsV RX9 134 RX9 yX9_step wsX9_step) := goodIn_app (goodIn_of _ (by decide +kernel)) ggX9_opens_X9_step
set_option maxRecDepth 20000 in
theorem ggX9_opens_X9_any : GoodIn wsX9_opens wsX9_any := goodIn_r _ [27, 2, 3, 28, 29, 30, 7, 18, 19, 20, 21, 22, 8, 9, 10, 11, 12, 13, 14, 23, 24, 25, 26, 31, 32, 33, 34, 35, 36, 37, 38, 39, 40, 41, 42, 43, 44, 45, 46, 47, 48, 49, 50, 0, 1, 4, 5, 6, 15, 16, 17, 51, 52, 53, 54, 55, 56, 57, 58, 59, 60, 61, 62, 63, 64, 65, 66, 67, 68, 69, 70, 71, 72, 73, 74, 75] (by decide +kernel) (by decide +kernel)
set_option maxRecDepth 20000 in
theorem gX9_opens_X9_any : GoodIn wsX9_opens (wsV RX9 144 RX9 yX9_any wsX9_any) := goodIn_app (goodIn_of _ (by decide +kernel)) ggX9_opens_X9_any
set_option maxRecDepth 20000 in
theorem ggX9_opens_X9_look : GoodIn wsX9_opens wsX9_look := goodIn_r _ [21, 3, 22, 56, 57, 58, 59, 60, 61, 62, 63, 64, 65, 66, 67, 68, 69, 70, 71, 72, 73, 74, 75] (by decide +kernel) (by decide +kernel)
set_option maxRecDepth 20000 in
theorem gX9_opens_X9_look : GoodIn wsX9_opens (wsV RX9 126 RX9 yX9_look wsX9_look) := goodIn_app (goodIn_of _ (by decide +kernel)) ggX9_opens_X9_look
set_option maxRecDepth 20000 in
theorem ggX9_one_X9_look : GoodIn wsX9_one wsX9_look := goodIn_r _ [6, 1, 7, 56, 57, 58, 59, 60, 61, 62, 63, 64, 65, 66, 67, 68, 69, 70, 71, 72, 73, 74, 75] (by decide +kernel) (by decide +kernel)
set_option maxRecDepth 20000 in
theorem gX9_one_X9_look : GoodIn wsX9_one (wsV RX9 126 RX9 yX9_look wsX9_look) := goodIn_app (goodIn_of _ (by decide +kernel)) ggX9_one_X9_look
set_option maxRecDepth 20000 in
theorem ggX9_one_X9_nameOf : GoodIn wsX9_one wsX9_nameOf := goodIn_r _ [11, 12, 56, 57, 58, 59, 60, 61, 62, 63, 64, 65, 66, 67, 68, 69, 70, 71, 72, 73, 74, 75] (by decide +kernel) (by decide +kernel)
set_option maxRecDepth 20000 in
theorem gX9_one_X9_nameOf : GoodIn wsX9_one (wsV RX9 147 RX9 yX9_nameOf wsX9_nameOf) := goodIn_app (goodIn_of _ (by decide +kernel)) ggX9_one_X9_nameOf
set_option maxRecDepth 20000 in
theorem ggX9_one_X9_step : GoodIn wsX9_one wsX9_step := goodIn_r _ [16, 17, 18, 19, 56, 57, 58, 59, 60, 61, 62, 63, 64, 65, 66, 67, 68, 69, 70, 71, 72, 73, 74, 75] (by decide +kernel) (by decide +kernel)
set_option maxRecDepth 20000 in
theorem gX9_one_X9_step : GoodIn wsX9_one (wsV RX9 134 RX9 yX9_step wsX9_step) := goodIn_app (goodIn_of _ (by decide +kernel)) ggX9_one_X9_step
set_option maxRecDepth 20000 in
theorem ggX9_one_X9_opens : GoodIn wsX9_one wsX9_opens := goodIn_r _ [43, 44, 27, 1, 45, 46, 47, 5, 13, 14, 15, 16, 17, 18, 19, 48, 49, 50, 2, 3, 4, 6, 7, 31, 32, 33, 34, 35, 36, 37, 38, 39, 40, 41, 42, 0, 8, 9, 10, 11, 12, 20, 21, 22, 23, 24, 25, 26, 28, 29, 30, 51, 52, 53, 54, 55, 56, 57, 58, 59, 60, 61, 62, 63, 64, 65, 66, 67, 68, 69, 70, 71, 72, 73, 74, 75] (by decide +kernel) (by decide +kernel)
set_option maxRecDepth 20000 in
theorem gX9_one_X9_opens : GoodIn wsX9_one (wsV RX9 150 RX9 yX9_opens wsX9_opens) := goodIn_app (goodIn_of _ (by decide +kernel)) ggX9_one_X9_opens
set_option maxRecDepth 20000 in
theorem ggX9_one_X9_number : GoodIn wsX9_one wsX9_number := goodIn_r _ [26, 1, 27, 2, 3, 4, 5, 6, 7, 28, 29, 30, 13, 14, 15, 16, 17, 18, 19, 56, 57, 58, 59, 60, 61, 62, 63, 64, 65, 66, 67, 68, 69, 70, 71, 72, 73, 74, 75] (by decide +kernel) (by decide +kernel)
set_option maxRecDepth 20000 in
theorem gX9_one_X9_number : GoodIn wsX9_one (wsV RX9 154 RX9 yX9_number wsX9_number) := goodIn_app (goodIn_of _ (by decide +kernel)) ggX9_one_X9_number
set_option maxRecDepth 20000 in
theorem ggX9_times_X9_one : GoodIn wsX9_times wsX9_one := goodIn_r _ [31, 2, 7, 8, 9, 6, 10, 11, 32, 33, 34, 35, 36, 12, 13, 14, 15, 16, 17, 18, 37, 38, 39, 40, 41, 42, 43, 1, 44, 45, 46, 19, 20, 21, 22, 23, 24, 25, 26, 27, 28, 29, 30, 47, 48, 3, 4, 5, 49, 50, 51, 52, 53, 54, 55, 0, 56, 57, 58, 59, 60, 61, 62, 63, 64, 65, 66, 67, 68, 69, 70, 71, 72, 73, 74, 75] (by decide +kernel) (by decide +kernel)
set_option maxRecDepth 20000 in
theorem gX9_times_X9_one : GoodIn wsX9_times (wsV RX9 141 RX9 yX9_one wsX9_one) := goodIn_app (goodIn_of _ (by decide +kernel)) ggX9_times_X9_one
set_option maxRecDepth 20000 in
theorem ggX9_times_X9_look : GoodIn wsX9_times wsX9_look := goodIn_r _ [10, 2, 11, 56, 57, 58, 59, 60, 61, 62, 63, 64, 65, 66, 67, 68, 69, 70, 71, 72, 73, 74, 75] (by decide +kernel) (by decide +kernel)
set_option maxRecDepth 20000 in
theorem gX9_times_X9_look : GoodIn wsX9_times (wsV RX9 126 RX9 yX9_look wsX9_look) := goodIn_app (goodIn_of _ (by decide +kernel)) ggX9_times_X9_look
set_option maxRecDepth 20000 in
theorem ggX9_times_X9_step : GoodIn wsX9_times wsX9_step := goodIn_r _ [15, 16, 17, 18, 56, 57, 58, 59, 60, 61, 62, 63, 64, 65, 66, 67, 68, 69, 70, 71, 72, 73, 74, 75] (by decide +kernel) (by decide +kernel)
set_option maxRecDepth 20000 in
theorem gX9_times_X9_step : GoodIn wsX9_times (wsV RX9 134 RX9 yX9_step wsX9_step) := goodIn_app (goodIn_of _ (by decide +kernel)) ggX9_times_X9_step
set_option maxRecDepth 20000 in
theorem ggX9_sum_X9_times : GoodIn wsX9_sum wsX9_times := goodIn_r _ [55, 1, 2, 49, 50, 51, 6, 7, 8, 9, 10, 11, 12, 13, 14, 15, 16, 17, 18, 19, 20, 21, 22, 23, 24, 25, 26, 27, 28, 29, 30, 31, 32, 33, 34, 35, 36, 37, 38, 39, 40, 41, 42, 43, 44, 45, 46, 47, 48, 52, 53, 54, 0, 3, 4, 5, 56, 57, 58, 59, 60, 61, 62, 63, 64, 65, 66, 67, 68, 69, 70, 71, 72, 73, 74, 75] (by decide +kernel) (by decide +kernel)
set_option maxRecDepth 20000 in
theorem gX9_sum_X9_times : GoodIn wsX9_sum (wsV RX9 157 RX9 yX9_times wsX9_times) := goodIn_app (goodIn_of _ (by decide +kernel)) ggX9_sum_X9_times
set_option maxRecDepth 20000 in
theorem ggX9_sum_X9_look : GoodIn wsX9_sum wsX9_look := goodIn_r _ [10, 2, 11, 56, 57, 58, 59, 60, 61, 62, 63, 64, 65, 66, 67, 68, 69, 70, 71, 72, 73, 74, 75] (by decide +kernel) (by decide +kernel)
set_option maxRecDepth 20000 in
theorem gX9_sum_X9_look : GoodIn wsX9_sum (wsV RX9 126 RX9 yX9_look wsX9_look) := goodIn_app (goodIn_of _ (by decide +kernel)) ggX9_sum_X9_look
set_option maxRecDepth 20000 in
theorem ggX9_sum_X9_step : GoodIn wsX9_sum wsX9_step := goodIn_r _ [15, 16, 17, 18, 56, 57, 58, 59, 60, 61, 62, 63, 64, 65, 66, 67, 68, 69, 70, 71, 72, 73, 74, 75] (by decide +kernel) (by decide +kernel)
set_option maxRecDepth 20000 in
theorem gX9_sum_X9_step : GoodIn wsX9_sum (wsV RX9 134 RX9 yX9_step wsX9_step) := goodIn_app (goodIn_of _ (by decide +kernel)) ggX9_sum_X9_step
set_option maxRecDepth 20000 in
theorem ggX9_compares_X9_sum : GoodIn wsX9_compares wsX9_sum := goodIn_r _ [51, 1, 2, 52, 53, 54, 6, 7, 8, 9, 10, 11, 12, 13, 14, 15, 16, 17, 18, 19, 20, 21, 22, 23, 24, 25, 26, 0, 3, 4, 5, 27, 28, 29, 30, 31, 32, 33, 34, 35, 36, 37, 38, 39, 40, 41, 42, 43, 44, 45, 46, 47, 48, 49, 50, 55, 56, 57, 58, 59, 60, 61, 62, 63, 64, 65, 66, 67, 68, 69, 70, 71, 72, 73, 74, 75] (by decide +kernel) (by decide +kernel)
set_option maxRecDepth 20000 in
theorem gX9_compares_X9_sum : GoodIn wsX9_compares (wsV RX9 160 RX9 yX9_sum wsX9_sum) := goodIn_app (goodIn_of _ (by decide +kernel)) ggX9_compares_X9_sum
set_option maxRecDepth 20000 in
theorem ggX9_compares_X9_look : GoodIn wsX9_compares wsX9_look := goodIn_r _ [10, 2, 11, 56, 57, 58, 59, 60, 61, 62, 63, 64, 65, 66, 67, 68, 69, 70, 71, 72, 73, 74, 75] (by decide +kernel) (by decide +kernel)
set_option maxRecDepth 20000 in
theorem gX9_compares_X9_look : GoodIn wsX9_compares (wsV RX9 126 RX9 yX9_look wsX9_look) := goodIn_app (goodIn_of _ (by decide +kernel)) ggX9_compares_X9_look
set_option maxRecDepth 20000 in
theorem ggX9_compares_X9_step : GoodIn wsX9_compares wsX9_step := goodIn_r _ [15, 16, 17, 18, 56, 57, 58, 59, 60, 61, 62, 63, 64, 65, 66, 67, 68, 69, 70, 71, 72, 73, 74, 75] (by decide +kernel) (by decide +kernel)
set_option maxRecDepth 20000 in
theorem gX9_compares_X9_step : GoodIn wsX9_compares (wsV RX9 134 RX9 yX9_step wsX9_step) := goodIn_app (goodIn_of _ (by decide +kernel)) ggX9_compares_X9_step
set_option maxRecDepth 20000 in
theorem ggX9_all_X9_compares : GoodIn wsX9_all wsX9_compares := goodIn_r _ [23, 1, 2, 24, 25, 26, 6, 7, 8, 9, 10, 11, 12, 13, 14, 15, 16, 17, 18, 0, 3, 4, 5, 19, 20, 21, 22, 27, 28, 29, 30, 31, 32, 33, 34, 35, 36, 37, 38, 39, 40, 41, 42, 43, 44, 45, 46, 47, 48, 49, 50, 51, 52, 53, 54, 55, 56, 57, 58, 59, 60, 61, 62, 63, 64, 65, 66, 67, 68, 69, 70, 71, 72, 73, 74, 75] (by decide +kernel) (by decide +kernel)
set_option maxRecDepth 20000 in
theorem gX9_all_X9_compares : GoodIn wsX9_all (wsV RX9 163 RX9 yX9_compares wsX9_compares) := goodIn_app (goodIn_of _ (by decide +kernel)) ggX9_all_X9_compares
set_option maxRecDepth 20000 in
theorem ggX9_all_X9_look : GoodIn wsX9_all wsX9_look := goodIn_r _ [10, 2, 11, 56, 57, 58, 59, 60, 61, 62, 63, 64, 65, 66, 67, 68, 69, 70, 71, 72, 73, 74, 75] (by decide +kernel) (by decide +kernel)
set_option maxRecDepth 20000 in
theorem gX9_all_X9_look : GoodIn wsX9_all (wsV RX9 126 RX9 yX9_look wsX9_look) := goodIn_app (goodIn_of _ (by decide +kernel)) ggX9_all_X9_look
set_option maxRecDepth 20000 in
theorem ggX9_all_X9_step : GoodIn wsX9_all wsX9_step := goodIn_r _ [15, 16, 17, 18, 56, 57, 58, 59, 60, 61, 62, 63, 64, 65, 66, 67, 68, 69, 70, 71, 72, 73, 74, 75] (by decide +kernel) (by decide +kernel)
set_option maxRecDepth 20000 in
theorem gX9_all_X9_step : GoodIn wsX9_all (wsV RX9 134 RX9 yX9_step wsX9_step) := goodIn_app (goodIn_of _ (by decide +kernel)) ggX9_all_X9_step
set_option maxRecDepth 20000 in
theorem ggX9_any_X9_all : GoodIn wsX9_any wsX9_all := goodIn_r _ [19, 1, 2, 20, 21, 22, 6, 7, 8, 9, 10, 11, 12, 13, 14, 15, 16, 17, 18, 0, 3, 4, 5, 23, 24, 25, 26, 27, 28, 29, 30, 31, 32, 33, 34, 35, 36, 37, 38, 39, 40, 41, 42, 43, 44, 45, 46, 47, 48, 49, 50, 51, 52, 53, 54, 55, 56, 57, 58, 59, 60, 61, 62, 63, 64, 65, 66, 67, 68, 69, 70, 71, 72, 73, 74, 75] (by decide +kernel) (by decide +kernel)
set_option maxRecDepth 20000 in
theorem gX9_any_X9_all : GoodIn wsX9_any (wsV RX9 166 RX9 yX9_all wsX9_all) := goodIn_app (goodIn_of _ (by decide +kernel)) ggX9_any_X9_all
set_option maxRecDepth 20000 in
theorem ggX9_any_X9_look : GoodIn wsX9_any wsX9_look := goodIn_r _ [10, 2, 11, 56, 57, 58, 59, 60, 61, 62, 63, 64, 65, 66, 67, 68, 69, 70, 71, 72, 73, 74, 75] (by decide +kernel) (by decide +kernel)
set_option maxRecDepth 20000 in
theorem gX9_any_X9_look : GoodIn wsX9_any (wsV RX9 126 RX9 yX9_look wsX9_look) := goodIn_app (goodIn_of _ (by decide +kernel)) ggX9_any_X9_look
set_option maxRecDepth 20000 in
theorem ggX9_any_X9_step : GoodIn wsX9_any wsX9_step := goodIn_r _ [15, 16, 17, 18, 56, 57, 58, 59, 60, 61, 62, 63, 64, 65, 66, 67, 68, 69, 70, 71, 72, 73, 74, 75] (by decide +kernel) (by decide +kernel)
set_option maxRecDepth 20000 in
theorem gX9_any_X9_step : GoodIn wsX9_any (wsV RX9 134 RX9 yX9_step wsX9_step) := goodIn_app (goodIn_of _ (by decide +kernel)) ggX9_any_X9_step
set_option maxRecDepth 20000 in
theorem ggX9_text_X9_in : GoodIn wsX9_text wsX9_in := goodIn_r _ [13] (by decide +kernel) (by decide +kernel)
set_option maxRecDepth 20000 in
theorem gX9_text_X9_in : GoodIn wsX9_text (va_wsS RX9 47 yX9_in wsX9_in) := goodIn_app (goodIn_of _ (by decide +kernel)) ggX9_text_X9_in
set_option maxRecDepth 20000 in
theorem ggX9_text_X9_error : GoodIn wsX9_text wsX9_error := goodIn_r _ [17, 18, 19, 64, 65, 66, 67, 68, 69, 70, 71, 72, 73, 74, 75, 76, 77, 78, 79, 80, 81, 82, 83] (by decide +kernel) (by decide +kernel)
set_option maxRecDepth 20000 in
theorem gX9_text_X9_error : GoodIn wsX9_text (wsV RX9 94 RX9 yX9_error wsX9_error) := goodIn_app (goodIn_of _ (by decide +kernel)) ggX9_text_X9_error
set_option maxRecDepth 20000 in
theorem ggX9_text_X9_any : GoodIn wsX9_text wsX9_any := goodIn_r _ [23, 6, 4, 24, 25, 26, 12, 27, 28, 29, 30, 7, 31, 32, 33, 34, 3, 8, 9, 35, 36, 37, 38, 39, 40, 41, 42, 43, 44, 45, 46, 47, 2, 48, 49, 50, 51, 52, 53, 54, 10, 11, 13, 55, 5, 56, 57, 58, 20, 21, 22, 59, 60, 61, 62, 63, 64, 65, 66, 67, 68, 69, 70, 71, 72, 73, 74, 75, 76, 77, 78, 79, 80, 81, 82, 83] (by decide +kernel) (by decide +kernel)
set_option maxRecDepth 20000 in
theorem gX9_text_X9_any : GoodIn wsX9_text (wsV RX9 144 RX9 yX9_any wsX9_any) := goodIn_app (goodIn_of _ (by decide +kernel)) ggX9_text_X9_any
set_option maxRecDepth 20000 in
theorem ggX9_untell_X9_in : GoodIn wsX9_untell wsX9_in := goodIn_r _ [5] (by decide +kernel) (by decide +kernel)
set_option maxRecDepth 20000 in
theorem gX9_untell_X9_in : GoodIn wsX9_untell (va_wsS RX9 47 yX9_in wsX9_in) := goodIn_app (goodIn_of _ (by decide +kernel)) ggX9_untell_X9_in
set_option maxRecDepth 20000 in
theorem ggX9_untell_X9_error : GoodIn wsX9_untell wsX9_error := goodIn_r _ [9, 10, 11, 17, 18, 19, 20, 21, 22, 23, 24, 25, 26, 27, 28, 29, 30, 31, 32, 33, 34, 35, 36] (by decide +kernel) (by decide +kernel)
set_option maxRecDepth 20000 in
theorem gX9_untell_X9_error : GoodIn wsX9_untell (wsV RX9 94 RX9 yX9_error wsX9_error) := goodIn_app (goodIn_of _ (by decide +kernel)) ggX9_untell_X9_error
set_option maxRecDepth 20000 in
theorem ggX9_untell_X9_becomes : GoodIn wsX9_untell wsX9_becomes := goodIn_r _ [15, 16, 17, 18, 19, 20, 21, 22, 23, 24, 25, 26, 27, 28, 29, 30, 31, 32, 33, 34, 35, 36] (by decide +kernel) (by decide +kernel)
set_option maxRecDepth 20000 in
theorem gX9_untell_X9_becomes : GoodIn wsX9_untell (wsV RX9 104 RX9 yX9_becomes wsX9_becomes) := goodIn_app (goodIn_of _ (by decide +kernel)) ggX9_untell_X9_becomes
set_option maxRecDepth 20000 in
theorem ggX9_works_X9_twoOf : GoodIn wsX9_works wsX9_twoOf := goodIn_r _ [7] (by decide +kernel) (by decide +kernel)
set_option maxRecDepth 20000 in
theorem gX9_works_X9_twoOf : GoodIn wsX9_works (va_wsS RX9 169 yX9_twoOf wsX9_twoOf) := goodIn_app (goodIn_of _ (by decide +kernel)) ggX9_works_X9_twoOf
set_option maxRecDepth 20000 in
theorem ggX9_gives_X9_works : GoodIn wsX9_gives wsX9_works := goodIn_r _ [7, 2, 8, 1, 9, 10, 6, 11, 15, 16, 17, 18, 19, 20, 21, 22, 23, 24, 25, 26, 27, 28, 29, 30, 31, 32, 33, 34] (by decide +kernel) (by decide +kernel)
set_option maxRecDepth 20000 in
theorem gX9_gives_X9_works : GoodIn wsX9_gives (wsV RX9 172 RX9 yX9_works wsX9_works) := goodIn_app (goodIn_of _ (by decide +kernel)) ggX9_gives_X9_works
set_option maxRecDepth 20000 in
theorem ggX9_gives_X9_held : GoodIn wsX9_gives wsX9_held := goodIn_r _ [14] (by decide +kernel) (by decide +kernel)
set_option maxRecDepth 20000 in
theorem gX9_gives_X9_held : GoodIn wsX9_gives (va_wsS RX9 175 yX9_held wsX9_held) := goodIn_app (goodIn_of _ (by decide +kernel)) ggX9_gives_X9_held
set_option maxRecDepth 20000 in
theorem ggX9_law_X9_in : GoodIn wsX9_law wsX9_in := goodIn_r _ [5] (by decide +kernel) (by decide +kernel)
set_option maxRecDepth 20000 in
theorem gX9_law_X9_in : GoodIn wsX9_law (va_wsS RX9 47 yX9_in wsX9_in) := goodIn_app (goodIn_of _ (by decide +kernel)) ggX9_law_X9_in
set_option maxRecDepth 20000 in
theorem ggX9_law_X9_gives : GoodIn wsX9_law wsX9_gives := goodIn_r _ [9, 10, 11, 12, 13, 14, 4, 15, 16, 17, 18, 19, 20, 21, 22, 29, 30, 31, 32, 33, 34, 35, 36, 37, 38, 39, 40, 41, 42, 43, 44, 45, 46, 47, 48] (by decide +kernel) (by decide +kernel)
set_option maxRecDepth 20000 in
theorem gX9_law_X9_gives : GoodIn wsX9_law (wsV RX9 58 RX9 yX9_gives wsX9_gives) := goodIn_app (goodIn_of _ (by decide +kernel)) ggX9_law_X9_gives
set_option maxRecDepth 20000 in
theorem ggX9_law_X9_error : GoodIn wsX9_law wsX9_error := goodIn_r _ [26, 27, 28, 29, 30, 31, 32, 33, 34, 35, 36, 37, 38, 39, 40, 41, 42, 43, 44, 45, 46, 47, 48] (by decide +kernel) (by decide +kernel)
set_option maxRecDepth 20000 in
theorem gX9_law_X9_error : GoodIn wsX9_law (wsV RX9 94 RX9 yX9_error wsX9_error) := goodIn_app (goodIn_of _ (by decide +kernel)) ggX9_law_X9_error
set_option maxRecDepth 20000 in
theorem ggX9_goes_X9_about : GoodIn wsX9_goes wsX9_about := goodIn_r _ [6, 1, 63, 64, 65, 66, 67, 68, 69, 70, 71, 72, 73, 74, 75, 76, 77, 78, 79, 80, 81, 82] (by decide +kernel) (by decide +kernel)
set_option maxRecDepth 20000 in
theorem gX9_goes_X9_about : GoodIn wsX9_goes (wsV RX9 76 RX9 yX9_about wsX9_about) := goodIn_app (goodIn_of _ (by decide +kernel)) ggX9_goes_X9_about
set_option maxRecDepth 20000 in
theorem ggX9_goes_X9_fineOf : GoodIn wsX9_goes wsX9_fineOf := goodIn_r _ [10, 11, 12, 13, 5, 14, 2, 3, 4, 6, 1, 15, 16, 17, 18, 19, 20, 21, 22, 23, 24, 25, 26, 27, 28, 29, 30, 31, 32, 33, 34, 35, 36, 37, 38, 39, 40, 41, 42, 43, 44, 45, 46, 47, 48, 49, 50, 51, 52, 53, 54, 55, 56, 57, 58, 59, 60, 61, 62, 63, 64, 65, 66, 67, 68, 69, 70, 71, 72, 73, 74, 75, 76, 77, 78, 79, 80, 81, 82] (by decide +kernel) (by decide +kernel)
set_option maxRecDepth 20000 in
theorem gX9_goes_X9_fineOf : GoodIn wsX9_goes (wsV RX9 111 RX9 yX9_fineOf wsX9_fineOf) := goodIn_app (goodIn_of _ (by decide +kernel)) ggX9_goes_X9_fineOf
set_option maxRecDepth 20000 in
theorem ggX9_goes_X9_held : GoodIn wsX9_goes wsX9_held := goodIn_r _ [59] (by decide +kernel) (by decide +kernel)
set_option maxRecDepth 20000 in
theorem gX9_goes_X9_held : GoodIn wsX9_goes (va_wsS RX9 175 yX9_held wsX9_held) := goodIn_app (goodIn_of _ (by decide +kernel)) ggX9_goes_X9_held
set_option maxRecDepth 20000 in
theorem ggX9_hours_X9_in : GoodIn wsX9_hours wsX9_in := goodIn_r _ [7] (by decide +kernel) (by decide +kernel)
set_option maxRecDepth 20000 in
theorem gX9_hours_X9_in : GoodIn wsX9_hours (va_wsS RX9 47 yX9_in wsX9_in) := goodIn_app (goodIn_of _ (by decide +kernel)) ggX9_hours_X9_in
set_option maxRecDepth 20000 in
theorem ggX9_hours_X9_error : GoodIn wsX9_hours wsX9_error := goodIn_r _ [11, 12, 13, 77, 78, 79, 80, 81, 82, 83, 84, 85, 86, 87, 88, 89, 90, 91, 92, 93, 94, 95, 96] (by decide +kernel) (by decide +kernel)
set_option maxRecDepth 20000 in
theorem gX9_hours_X9_error : GoodIn wsX9_hours (wsV RX9 94 RX9 yX9_error wsX9_error) := goodIn_app (goodIn_of _ (by decide +kernel)) ggX9_hours_X9_error
set_option maxRecDepth 20000 in
theorem ggX9_hours_X9_goes : GoodIn wsX9_hours wsX9_goes := goodIn_r _ [17, 2, 18, 19, 20, 6, 21, 22, 23, 24, 25, 26, 27, 28, 29, 30, 31, 32, 33, 34, 35, 36, 37, 38, 39, 40, 41, 13, 42, 43, 44, 45, 46, 47, 48, 49, 50, 51, 52, 53, 54, 55, 56, 57, 58, 59, 60, 61, 62, 63, 64, 65, 66, 67, 68, 69, 70, 71, 72, 73, 74, 75, 76, 77, 78, 79, 80, 81, 82, 83, 84, 85, 86, 87, 88, 89, 90, 91, 92, 93, 94, 95, 96] (by decide +kernel) (by decide +kernel)
set_option maxRecDepth 20000 in
theorem gX9_hours_X9_goes : GoodIn wsX9_hours (wsV RX9 179 RX9 yX9_goes wsX9_goes) := goodIn_app (goodIn_of _ (by decide +kernel)) ggX9_hours_X9_goes
set_option maxRecDepth 20000 in
theorem ggX9_sleeps_X9_draw : GoodIn wsX9_sleeps wsX9_draw := goodIn_r _ [6, 1, 7, 12, 13, 14, 15, 16, 17, 18, 19, 20, 21, 22, 23, 24, 25, 26, 27, 28, 29, 30, 31] (by decide +kernel) (by decide +kernel)
set_option maxRecDepth 20000 in
theorem gX9_sleeps_X9_draw : GoodIn wsX9_sleeps (wsV RX9 183 RX9 yX9_draw wsX9_draw) := goodIn_app (goodIn_of _ (by decide +kernel)) ggX9_sleeps_X9_draw
set_option maxRecDepth 20000 in
theorem ggX9_sleeps_X9_comes : GoodIn wsX9_sleeps wsX9_comes := goodIn_r _ [11, 1, 12, 13, 14, 15, 16, 17, 18, 19, 20, 21, 22, 23, 24, 25, 26, 27, 28, 29, 30, 31] (by decide +kernel) (by decide +kernel)
set_option maxRecDepth 20000 in
theorem gX9_sleeps_X9_comes : GoodIn wsX9_sleeps (wsV RX9 98 RX9 yX9_comes wsX9_comes) := goodIn_app (goodIn_of _ (by decide +kernel)) ggX9_sleeps_X9_comes
set_option maxRecDepth 20000 in
theorem ggX9_loose_X9_in : GoodIn wsX9_loose wsX9_in := goodIn_r _ [7] (by decide +kernel) (by decide +kernel)
set_option maxRecDepth 20000 in
theorem gX9_loose_X9_in : GoodIn wsX9_loose (va_wsS RX9 47 yX9_in wsX9_in) := goodIn_app (goodIn_of _ (by decide +kernel)) ggX9_loose_X9_in
set_option maxRecDepth 20000 in
theorem ggX9_loose_X9_error : GoodIn wsX9_loose wsX9_error := goodIn_r _ [11, 12, 13, 90, 91, 92, 93, 94, 95, 96, 97, 98, 99, 100, 101, 102, 103, 104, 105, 106, 107, 108, 109] (by decide +kernel) (by decide +kernel)
set_option maxRecDepth 20000 in
theorem gX9_loose_X9_error : GoodIn wsX9_loose (wsV RX9 94 RX9 yX9_error wsX9_error) := goodIn_app (goodIn_of _ (by decide +kernel)) ggX9_loose_X9_error
set_option maxRecDepth 20000 in
theorem ggX9_loose_X9_sleeps : GoodIn wsX9_loose wsX9_sleeps := goodIn_r _ [17, 2, 18, 19, 20, 6, 21, 22, 23, 24, 25, 26, 90, 91, 92, 93, 94, 95, 96, 97, 98, 99, 100, 101, 102, 103, 104, 105, 106, 107, 108, 109] (by decide +kernel) (by decide +kernel)
set_option maxRecDepth 20000 in
theorem gX9_loose_X9_sleeps : GoodIn wsX9_loose (wsV RX9 186 RX9 yX9_sleeps wsX9_sleeps) := goodIn_app (goodIn_of _ (by decide +kernel)) ggX9_loose_X9_sleeps
set_option maxRecDepth 20000 in
theorem ggX9_loose_X9_goes : GoodIn wsX9_loose wsX9_goes := goodIn_r _ [30, 2, 31, 32, 33, 6, 34, 35, 36, 37, 38, 39, 40, 41, 42, 43, 44, 45, 46, 47, 48, 49, 50, 51, 52, 53, 54, 13, 55, 56, 57, 58, 59, 60, 61, 62, 63, 64, 65, 66, 67, 68, 69, 70, 71, 72, 73, 74, 75, 76, 77, 78, 79, 80, 81, 82, 83, 84, 85, 86, 87, 88, 89, 90, 91, 92, 93, 94, 95, 96, 97, 98, 99, 100, 101, 102, 103, 104, 105, 106, 107, 108, 109] (by decide +kernel) (by decide +kernel)
set_option maxRecDepth 20000 in
theorem gX9_loose_X9_goes : GoodIn wsX9_loose (wsV RX9 179 RX9 yX9_goes wsX9_goes) := goodIn_app (goodIn_of _ (by decide +kernel)) ggX9_loose_X9_goes
set_option maxRecDepth 20000 in
theorem ggX9_seed_X9_becomes : GoodIn wsX9_seed wsX9_becomes := goodIn_r _ [5, 6, 7, 8, 9, 10, 11, 12, 13, 14, 15, 16, 17, 18, 19, 20, 21, 22, 23, 24, 25, 26] (by decide +kernel) (by decide +kernel)
set_option maxRecDepth 20000 in
theorem gX9_seed_X9_becomes : GoodIn wsX9_seed (wsV RX9 104 RX9 yX9_becomes wsX9_becomes) := goodIn_app (goodIn_of _ (by decide +kernel)) ggX9_seed_X9_becomes
set_option maxRecDepth 20000 in
theorem ggX9_rule_X9_isMatter : GoodIn wsX9_rule wsX9_isMatter := goodIn_r _ [6, 7, 8, 5, 9] (by decide +kernel) (by decide +kernel)
set_option maxRecDepth 20000 in
theorem gX9_rule_X9_isMatter : GoodIn wsX9_rule (va_wsS RX9 189 yX9_isMatter wsX9_isMatter) := goodIn_app (goodIn_of _ (by decide +kernel)) ggX9_rule_X9_isMatter
set_option maxRecDepth 20000 in
theorem ggX9_rule_X9_in : GoodIn wsX9_rule wsX9_in := goodIn_r _ [9] (by decide +kernel) (by decide +kernel)
set_option maxRecDepth 20000 in
theorem gX9_rule_X9_in : GoodIn wsX9_rule (va_wsS RX9 47 yX9_in wsX9_in) := goodIn_app (goodIn_of _ (by decide +kernel)) ggX9_rule_X9_in
set_option maxRecDepth 20000 in
theorem ggX9_rule_X9_underAt : GoodIn wsX9_rule wsX9_underAt := goodIn_r _ [13, 14, 15, 16, 5, 17, 18, 1, 19, 20, 21, 22, 23, 24, 25, 26, 27, 28, 29, 30, 31, 32, 33, 34, 35, 36, 37, 38, 39, 40, 41, 42, 43, 44, 45, 46, 47, 48, 49, 50, 56, 57, 58, 59, 60, 61, 62, 63, 64, 65, 66, 67, 68, 69, 70, 71, 72, 73, 74, 75] (by decide +kernel) (by decide +kernel)
set_option maxRecDepth 20000 in
theorem gX9_rule_X9_underAt : GoodIn wsX9_rule (wsV RX9 73 RX9 yX9_underAt wsX9_underAt) := goodIn_app (goodIn_of _ (by decide +kernel)) ggX9_rule_X9_underAt
set_option maxRecDepth 20000 in
theorem ggX9_rule_X9_error : GoodIn wsX9_rule wsX9_error := goodIn_r _ [54, 55, 18, 56, 57, 58, 59, 60, 61, 62, 63, 64, 65, 66, 67, 68, 69, 70, 71, 72, 73, 74, 75] (by decide +kernel) (by decide +kernel)
set_option maxRecDepth 20000 in
theorem gX9_rule_X9_error : GoodIn wsX9_rule (wsV RX9 94 RX9 yX9_error wsX9_error) := goodIn_app (goodIn_of _ (by decide +kernel)) ggX9_rule_X9_error
set_option maxRecDepth 20000 in
theorem ggX9_inForce_X9_isInForce : GoodIn wsX9_inForce wsX9_isInForce := goodIn_r _ [6, 1, 7, 8, 9, 5, 10, 11, 12, 13, 14, 15, 16, 17, 18, 19, 20, 21, 22, 23, 24, 25, 26, 27, 28, 29, 30, 31, 32, 33, 34] (by decide +kernel) (by decide +kernel)
set_option maxRecDepth 20000 in
theorem gX9_inForce_X9_isInForce : GoodIn wsX9_inForce (wsV RX9 62 RX9 yX9_isInForce wsX9_isInForce) := goodIn_app (goodIn_of _ (by decide +kernel)) ggX9_inForce_X9_isInForce
set_option maxRecDepth 20000 in
theorem ggX9_now_X9_inForce : GoodIn wsX9_now wsX9_inForce := goodIn_r _ [7, 1, 8, 9, 10, 6, 11, 12, 13, 14, 15, 16, 17, 18, 19, 62, 63, 64, 65, 66, 67, 68, 69, 70, 71, 72, 73, 74, 75, 76, 77, 78, 79, 80, 81] (by decide +kernel) (by decide +kernel)
set_option maxRecDepth 20000 in
theorem gX9_now_X9_inForce : GoodIn wsX9_now (wsV RX9 192 RX9 yX9_inForce wsX9_inForce) := goodIn_app (goodIn_of _ (by decide +kernel)) ggX9_now_X9_inForce
set_option maxRecDepth 20000 in
theorem ggX9_now_X9_mattersUnder : GoodIn wsX9_now wsX9_mattersUnder := goodIn_r _ [23, 24, 25, 26, 6, 27, 28, 29, 30, 31, 32, 1, 12, 13, 14, 15, 8, 9, 10, 11, 16, 17, 18, 19, 33, 34, 35, 36, 37, 38, 39, 40, 41, 42, 43, 44, 45, 46, 47, 48, 49, 50, 51, 52, 62, 63, 64, 65, 66, 67, 68, 69, 70, 71, 72, 73, 74, 75, 76, 77, 78, 79, 80, 81] (by decide +kernel) (by decide +kernel)
set_option maxRecDepth 20000 in
theorem gX9_now_X9_mattersUnder : GoodIn wsX9_now (wsV RX9 79 RX9 yX9_mattersUnder wsX9_mattersUnder) := goodIn_app (goodIn_of _ (by decide +kernel)) ggX9_now_X9_mattersUnder
set_option maxRecDepth 20000 in
theorem ggX9_now_X9_disputes : GoodIn wsX9_now wsX9_disputes := goodIn_r _ [56, 32, 28, 29, 30, 6, 31, 1, 12, 13, 14, 15, 8, 9, 10, 11, 16, 17, 18, 19, 33, 34, 35, 36, 37, 38, 39, 40, 41, 42, 43, 44, 45, 46, 47, 48, 49, 50, 51, 52, 62, 63, 64, 65, 66, 67, 68, 69, 70, 71, 72, 73, 74, 75, 76, 77, 78, 79, 80, 81] (by decide +kernel) (by decide +kernel)
set_option maxRecDepth 20000 in
theorem gX9_now_X9_disputes : GoodIn wsX9_now (wsV RX9 195 RX9 yX9_disputes wsX9_disputes) := goodIn_app (goodIn_of _ (by decide +kernel)) ggX9_now_X9_disputes
set_option maxRecDepth 20000 in
theorem ggX9_now_X9_error : GoodIn wsX9_now wsX9_error := goodIn_r _ [60, 61, 32, 62, 63, 64, 65, 66, 67, 68, 69, 70, 71, 72, 73, 74, 75, 76, 77, 78, 79, 80, 81] (by decide +kernel) (by decide +kernel)
set_option maxRecDepth 20000 in
theorem gX9_now_X9_error : GoodIn wsX9_now (wsV RX9 94 RX9 yX9_error wsX9_error) := goodIn_app (goodIn_of _ (by decide +kernel)) ggX9_now_X9_error
set_option maxRecDepth 20000 in
theorem ggX9_then_X9_isPerson : GoodIn wsX9_then wsX9_isPerson := goodIn_r _ [7, 2, 8, 9, 6, 10, 76, 77, 78, 79, 80, 81, 82, 83, 84, 85, 86, 87, 88, 89, 90, 91, 92, 93, 94, 95] (by decide +kernel) (by decide +kernel)
set_option maxRecDepth 20000 in
theorem gX9_then_X9_isPerson : GoodIn wsX9_then (wsV RX9 108 RX9 yX9_isPerson wsX9_isPerson) := goodIn_app (goodIn_of _ (by decide +kernel)) ggX9_then_X9_isPerson
set_option maxRecDepth 20000 in
theorem ggX9_then_X9_in : GoodIn wsX9_then wsX9_in := goodIn_r _ [10] (by decide +kernel) (by decide +kernel)
set_option maxRecDepth 20000 in
theorem gX9_then_X9_in : GoodIn wsX9_then (va_wsS RX9 47 yX9_in wsX9_in) := goodIn_app (goodIn_of _ (by decide +kernel)) ggX9_then_X9_in
set_option maxRecDepth 20000 in
theorem ggX9_then_X9_error : GoodIn wsX9_then wsX9_error := goodIn_r _ [14, 15, 16, 76, 77, 78, 79, 80, 81, 82, 83, 84, 85, 86, 87, 88, 89, 90, 91, 92, 93, 94, 95] (by decide +kernel) (by decide +kernel)
set_option maxRecDepth 20000 in
theorem gX9_then_X9_error : GoodIn wsX9_then (wsV RX9 94 RX9 yX9_error wsX9_error) := goodIn_app (goodIn_of _ (by decide +kernel)) ggX9_then_X9_error
set_option maxRecDepth 20000 in
theorem ggX9_then_X9_about : GoodIn wsX9_then wsX9_about := goodIn_r _ [20, 2, 76, 77, 78, 79, 80, 81, 82, 83, 84, 85, 86, 87, 88, 89, 90, 91, 92, 93, 94, 95] (by decide +kernel) (by decide +kernel)
set_option maxRecDepth 20000 in
theorem gX9_then_X9_about : GoodIn wsX9_then (wsV RX9 76 RX9 yX9_about wsX9_about) := goodIn_app (goodIn_of _ (by decide +kernel)) ggX9_then_X9_about
set_option maxRecDepth 20000 in
theorem ggX9_then_X9_fineOf : GoodIn wsX9_then wsX9_fineOf := goodIn_r _ [24, 25, 26, 27, 6, 28, 17, 18, 19, 20, 2, 29, 30, 31, 32, 33, 34, 35, 36, 37, 38, 39, 40, 16, 41, 42, 43, 44, 45, 46, 47, 48, 49, 50, 51, 52, 53, 54, 55, 56, 57, 58, 59, 60, 61, 62, 63, 64, 65, 66, 67, 68, 69, 70, 71, 72, 73, 74, 75, 76, 77, 78, 79, 80, 81, 82, 83, 84, 85, 86, 87, 88, 89, 90, 91, 92, 93, 94, 95] (by decide +kernel) (by decide +kernel)
set_option maxRecDepth 20000 in
theorem gX9_then_X9_fineOf : GoodIn wsX9_then (wsV RX9 111 RX9 yX9_fineOf wsX9_fineOf) := goodIn_app (goodIn_of _ (by decide +kernel)) ggX9_then_X9_fineOf
set_option maxRecDepth 20000 in
theorem ggX9_then_X9_held : GoodIn wsX9_then wsX9_held := goodIn_r _ [72] (by decide +kernel) (by decide +kernel)
set_option maxRecDepth 20000 in
theorem gX9_then_X9_held : GoodIn wsX9_then (va_wsS RX9 175 yX9_held wsX9_held) := goodIn_app (goodIn_of _ (by decide +kernel)) ggX9_then_X9_held
set_option maxRecDepth 20000 in
theorem ggX9_first_X9_isMatter : GoodIn wsX9_first wsX9_isMatter := goodIn_r _ [7, 8, 9, 6, 10] (by decide +kernel) (by decide +kernel)
set_option maxRecDepth 20000 in
theorem gX9_first_X9_isMatter : GoodIn wsX9_first (va_wsS RX9 189 yX9_isMatter wsX9_isMatter) := goodIn_app (goodIn_of _ (by decide +kernel)) ggX9_first_X9_isMatter
set_option maxRecDepth 20000 in
theorem ggX9_first_X9_in : GoodIn wsX9_first wsX9_in := goodIn_r _ [10] (by decide +kernel) (by decide +kernel)
set_option maxRecDepth 20000 in
theorem gX9_first_X9_in : GoodIn wsX9_first (va_wsS RX9 47 yX9_in wsX9_in) := goodIn_app (goodIn_of _ (by decide +kernel)) ggX9_first_X9_in
set_option maxRecDepth 20000 in
theorem ggX9_first_X9_error : GoodIn wsX9_first wsX9_error := goodIn_r _ [14, 15, 16, 57, 58, 59, 60, 61, 62, 63, 64, 65, 66, 67, 68, 69, 70, 71, 72, 73, 74, 75, 76] (by decide +kernel) (by decide +kernel)
set_option maxRecDepth 20000 in
theorem gX9_first_X9_error : GoodIn wsX9_first (wsV RX9 94 RX9 yX9_error wsX9_error) := goodIn_app (goodIn_of _ (by decide +kernel)) ggX9_first_X9_error
set_option maxRecDepth 20000 in
theorem ggX9_first_X9_underAt : GoodIn wsX9_first wsX9_underAt := goodIn_r _ [20, 21, 22, 23, 6, 24, 16, 2, 25, 26, 27, 28, 29, 30, 31, 32, 33, 34, 35, 36, 37, 38, 39, 40, 41, 42, 43, 44, 45, 46, 47, 48, 49, 50, 51, 52, 53, 54, 55, 56, 57, 58, 59, 60, 61, 62, 63, 64, 65, 66, 67, 68, 69, 70, 71, 72, 73, 74, 75, 76] (by decide +kernel) (by decide +kernel)
set_option maxRecDepth 20000 in
theorem gX9_first_X9_underAt : GoodIn wsX9_first (wsV RX9 73 RX9 yX9_underAt wsX9_underAt) := goodIn_app (goodIn_of _ (by decide +kernel)) ggX9_first_X9_underAt
set_option maxRecDepth 20000 in
theorem ggX9_siestas_X9_in : GoodIn wsX9_siestas wsX9_in := goodIn_r _ [6] (by decide +kernel) (by decide +kernel)
set_option maxRecDepth 20000 in
theorem gX9_siestas_X9_in : GoodIn wsX9_siestas (va_wsS RX9 47 yX9_in wsX9_in) := goodIn_app (goodIn_of _ (by decide +kernel)) ggX9_siestas_X9_in
set_option maxRecDepth 20000 in
theorem ggX9_siestas_X9_error : GoodIn wsX9_siestas wsX9_error := goodIn_r _ [10, 11, 12, 53, 54, 55, 56, 57, 58, 59, 60, 61, 62, 63, 64, 65, 66, 67, 68, 69, 70, 71, 72] (by decide +kernel) (by decide +kernel)
set_option maxRecDepth 20000 in
theorem gX9_siestas_X9_error : GoodIn wsX9_siestas (wsV RX9 94 RX9 yX9_error wsX9_error) := goodIn_app (goodIn_of _ (by decide +kernel)) ggX9_siestas_X9_error
set_option maxRecDepth 20000 in
theorem ggX9_siestas_X9_disputes : GoodIn wsX9_siestas wsX9_disputes := goodIn_r _ [16, 12, 17, 18, 19, 5, 20, 2, 21, 22, 23, 24, 25, 26, 27, 28, 29, 30, 31, 32, 33, 34, 35, 36, 37, 38, 39, 40, 41, 42, 43, 44, 45, 46, 47, 48, 49, 50, 51, 52, 53, 54, 55, 56, 57, 58, 59, 60, 61, 62, 63, 64, 65, 66, 67, 68, 69, 70, 71, 72] (by decide +kernel) (by decide +kernel)
set_option maxRecDepth 20000 in
theorem gX9_siestas_X9_disputes : GoodIn wsX9_siestas (wsV RX9 195 RX9 yX9_disputes wsX9_disputes) := goodIn_app (goodIn_of _ (by decide +kernel)) ggX9_siestas_X9_disputes
set_option maxRecDepth 20000 in
theorem ggX9_hoursUnder_X9_underAt : GoodIn wsX9_hoursUnder wsX9_underAt := goodIn_r _ [6, 7, 8, 9, 5, 10, 11, 1, 12, 13, 14, 15, 16, 17, 18, 19, 20, 21, 22, 23, 24, 25, 26, 27, 28, 29, 30, 31, 32, 33, 34, 35, 36, 37, 38, 39, 40, 41, 42, 43, 44, 45, 46, 47, 48, 49, 50, 51, 52, 53, 54, 55, 56, 57, 58, 59, 60, 61, 62, 63] (by decide +kernel) (by decide +kernel)
set_option maxRecDepth 20000 in
theorem gX9_hoursUnder_X9_underAt : GoodIn wsX9_hoursUnder (wsV RX9 73 RX9 yX9_underAt wsX9_underAt) := goodIn_app (goodIn_of _ (by decide +kernel)) ggX9_hoursUnder_X9_underAt
set_option maxRecDepth 20000 in
theorem ggX9_best_X9_in : GoodIn wsX9_best wsX9_in := goodIn_r _ [5] (by decide +kernel) (by decide +kernel)
set_option maxRecDepth 20000 in
theorem gX9_best_X9_in : GoodIn wsX9_best (va_wsS RX9 47 yX9_in wsX9_in) := goodIn_app (goodIn_of _ (by decide +kernel)) ggX9_best_X9_in
set_option maxRecDepth 20000 in
theorem ggX9_best_X9_error : GoodIn wsX9_best wsX9_error := goodIn_r _ [9, 10, 11, 57, 58, 59, 60, 61, 62, 63, 64, 65, 66, 67, 68, 69, 70, 71, 72, 73, 74, 75, 76] (by decide +kernel) (by decide +kernel)
set_option maxRecDepth 20000 in
theorem gX9_best_X9_error : GoodIn wsX9_best (wsV RX9 94 RX9 yX9_error wsX9_error) := goodIn_app (goodIn_of _ (by decide +kernel)) ggX9_best_X9_error
set_option maxRecDepth 20000 in
theorem ggX9_best_X9_hoursUnder : GoodIn wsX9_best wsX9_hoursUnder := goodIn_r _ [15, 16, 17, 18, 19, 4, 20, 21, 22, 23, 24, 11, 25, 26, 27, 28, 29, 30, 31, 32, 33, 34, 35, 36, 37, 38, 39, 40, 41, 42, 43, 44, 45, 46, 47, 48, 49, 50, 51, 52, 53, 54, 55, 56, 57, 58, 59, 60, 61, 62, 63, 64, 65, 66, 67, 68, 69, 70, 71, 72, 73, 74, 75, 76] (by decide +kernel) (by decide +kernel)
set_option maxRecDepth 20000 in
theorem gX9_best_X9_hoursUnder : GoodIn wsX9_best (wsV RX9 199 RX9 yX9_hoursUnder wsX9_hoursUnder) := goodIn_app (goodIn_of _ (by decide +kernel)) ggX9_best_X9_hoursUnder
set_option maxRecDepth 20000 in
theorem ggX9_dreamsOf_X9_of : GoodIn wsX9_dreamsOf wsX9_of := goodIn_r _ [6, 1, 7, 8, 9, 10, 11, 12, 13, 14, 15, 16, 17, 18, 19, 20, 21, 22, 23, 24, 25, 26] (by decide +kernel) (by decide +kernel)
set_option maxRecDepth 20000 in
theorem gX9_dreamsOf_X9_of : GoodIn wsX9_dreamsOf (wsV RX9 51 RX9 yX9_of wsX9_of) := goodIn_app (goodIn_of _ (by decide +kernel)) ggX9_dreamsOf_X9_of
set_option maxRecDepth 20000 in
theorem ggX9_findWeights_X9_isInForce : GoodIn wsX9_findWeights wsX9_isInForce := goodIn_r _ [8, 1, 9, 10, 11, 7, 12, 13, 14, 15, 16, 37, 38, 39, 40, 41, 42, 43, 44, 45, 46, 47, 48, 49, 50, 51, 52, 53, 54, 55, 56] (by decide +kernel) (by decide +kernel)
set_option maxRecDepth 20000 in
theorem gX9_findWeights_X9_isInForce : GoodIn wsX9_findWeights (wsV RX9 62 RX9 yX9_isInForce wsX9_isInForce) := goodIn_app (goodIn_of _ (by decide +kernel)) ggX9_findWeights_X9_isInForce
set_option maxRecDepth 20000 in
theorem ggX9_findWeights_X9_weightOf : GoodIn wsX9_findWeights wsX9_weightOf := goodIn_r _ [20, 9, 10, 11, 7, 12, 1, 13, 14, 15, 16, 21, 22, 23, 24, 25, 26, 27, 28, 29, 30, 31, 32, 33, 34, 35, 36, 37, 38, 39, 40, 41, 42, 43, 44, 45, 46, 47, 48, 49, 50, 51, 52, 53, 54, 55, 56] (by decide +kernel) (by decide +kernel)
set_option maxRecDepth 20000 in
theorem gX9_findWeights_X9_weightOf : GoodIn wsX9_findWeights (wsV RX9 66 RX9 yX9_weightOf wsX9_weightOf) := goodIn_app (goodIn_of _ (by decide +kernel)) ggX9_findWeights_X9_weightOf
set_option maxRecDepth 20000 in
theorem ggX9_isFreeBy_X9_of : GoodIn wsX9_isFreeBy wsX9_of := goodIn_r _ [8, 2, 9, 10, 11, 12, 13, 14, 15, 16, 17, 18, 19, 20, 21, 22, 23, 24, 25, 26, 27, 28] (by decide +kernel) (by decide +kernel)
set_option maxRecDepth 20000 in
theorem gX9_isFreeBy_X9_of : GoodIn wsX9_isFreeBy (wsV RX9 51 RX9 yX9_of wsX9_of) := goodIn_app (goodIn_of _ (by decide +kernel)) ggX9_isFreeBy_X9_of
set_option maxRecDepth 20000 in
theorem ggX9_fewest_X9_isMatter : GoodIn wsX9_fewest wsX9_isMatter := goodIn_r _ [5, 6, 7, 4, 8] (by decide +kernel) (by decide +kernel)
set_option maxRecDepth 20000 in
theorem gX9_fewest_X9_isMatter : GoodIn wsX9_fewest (va_wsS RX9 189 yX9_isMatter wsX9_isMatter) := goodIn_app (goodIn_of _ (by decide +kernel)) ggX9_fewest_X9_isMatter
set_option maxRecDepth 20000 in
theorem ggX9_fewest_X9_in : GoodIn wsX9_fewest wsX9_in := goodIn_r _ [8] (by decide +kernel) (by decide +kernel)
set_option maxRecDepth 20000 in
theorem gX9_fewest_X9_in : GoodIn wsX9_fewest (va_wsS RX9 47 yX9_in wsX9_in) := goodIn_app (goodIn_of _ (by decide +kernel)) ggX9_fewest_X9_in
set_option maxRecDepth 20000 in
theorem ggX9_fewest_X9_error : GoodIn wsX9_fewest wsX9_error := goodIn_r _ [12, 13, 14, 64, 65, 66, 67, 68, 69, 70, 71, 72, 73, 74, 75, 76, 77, 78, 79, 80, 81, 82, 83] (by decide +kernel) (by decide +kernel)
set_option maxRecDepth 20000 in
theorem gX9_fewest_X9_error : GoodIn wsX9_fewest (wsV RX9 94 RX9 yX9_error wsX9_error) := goodIn_app (goodIn_of _ (by decide +kernel)) ggX9_fewest_X9_error
set_option maxRecDepth 20000 in
theorem ggX9_fewest_X9_dreamsOf : GoodIn wsX9_fewest wsX9_dreamsOf := goodIn_r _ [18, 19, 20, 21, 22, 4, 23, 64, 65, 66, 67, 68, 69, 70, 71, 72, 73, 74, 75, 76, 77, 78, 79, 80, 81, 82, 83] (by decide +kernel) (by decide +kernel)
set_option maxRecDepth 20000 in
theorem gX9_fewest_X9_dreamsOf : GoodIn wsX9_fewest (wsV RX9 202 RX9 yX9_dreamsOf wsX9_dreamsOf) := goodIn_app (goodIn_of _ (by decide +kernel)) ggX9_fewest_X9_dreamsOf
set_option maxRecDepth 20000 in
theorem ggX9_fewest_X9_findWeights : GoodIn wsX9_fewest wsX9_findWeights := goodIn_r _ [27, 19, 28, 14, 29, 30, 31, 4, 32, 20, 21, 22, 23, 33, 34, 35, 36, 37, 38, 39, 40, 41, 42, 43, 44, 45, 46, 47, 48, 49, 50, 51, 52, 53, 54, 55, 56, 64, 65, 66, 67, 68, 69, 70, 71, 72, 73, 74, 75, 76, 77, 78, 79, 80, 81, 82, 83] (by decide +kernel) (by decide +kernel)
set_option maxRecDepth 20000 in
theorem gX9_fewest_X9_findWeights : GoodIn wsX9_fewest (wsV RX9 205 RX9 yX9_findWeights wsX9_findWeights) := goodIn_app (goodIn_of _ (by decide +kernel)) ggX9_fewest_X9_findWeights
set_option maxRecDepth 20000 in
theorem ggX9_fewest_X9_bits : GoodIn wsX9_fewest wsX9_bits := goodIn_r _ [59] (by decide +kernel) (by decide +kernel)
set_option maxRecDepth 20000 in
theorem gX9_fewest_X9_bits : GoodIn wsX9_fewest (va_wsS RX9 82 yX9_bits wsX9_bits) := goodIn_app (goodIn_of _ (by decide +kernel)) ggX9_fewest_X9_bits
set_option maxRecDepth 20000 in
theorem ggX9_fewest_X9_isFreeBy : GoodIn wsX9_fewest wsX9_isFreeBy := goodIn_r _ [63, 14, 19, 28, 20, 21, 22, 4, 23, 64, 65, 66, 67, 68, 69, 70, 71, 72, 73, 74, 75, 76, 77, 78, 79, 80, 81, 82, 83] (by decide +kernel) (by decide +kernel)
set_option maxRecDepth 20000 in
theorem gX9_fewest_X9_isFreeBy : GoodIn wsX9_fewest (wsV RX9 208 RX9 yX9_isFreeBy wsX9_isFreeBy) := goodIn_app (goodIn_of _ (by decide +kernel)) ggX9_fewest_X9_isFreeBy
set_option maxRecDepth 20000 in
theorem ggX9_odds_X9_isMatter : GoodIn wsX9_odds wsX9_isMatter := goodIn_r _ [5, 6, 7, 4, 8] (by decide +kernel) (by decide +kernel)
set_option maxRecDepth 20000 in
theorem gX9_odds_X9_isMatter : GoodIn wsX9_odds (va_wsS RX9 189 yX9_isMatter wsX9_isMatter) := goodIn_app (goodIn_of _ (by decide +kernel)) ggX9_odds_X9_isMatter
set_option maxRecDepth 20000 in
theorem ggX9_odds_X9_in : GoodIn wsX9_odds wsX9_in := goodIn_r _ [8] (by decide +kernel) (by decide +kernel)
set_option maxRecDepth 20000 in
theorem gX9_odds_X9_in : GoodIn wsX9_odds (va_wsS RX9 47 yX9_in wsX9_in) := goodIn_app (goodIn_of _ (by decide +kernel)) ggX9_odds_X9_in
set_option maxRecDepth 20000 in
theorem ggX9_odds_X9_error : GoodIn wsX9_odds wsX9_error := goodIn_r _ [12, 13, 14, 60, 61, 62, 63, 64, 65, 66, 67, 68, 69, 70, 71, 72, 73, 74, 75, 76, 77, 78, 79] (by decide +kernel) (by decide +kernel)
set_option maxRecDepth 20000 in
theorem gX9_odds_X9_error : GoodIn wsX9_odds (wsV RX9 94 RX9 yX9_error wsX9_error) := goodIn_app (goodIn_of _ (by decide +kernel)) ggX9_odds_X9_error
set_option maxRecDepth 20000 in
theorem ggX9_odds_X9_hoursUnder : GoodIn wsX9_odds wsX9_hoursUnder := goodIn_r _ [18, 19, 20, 21, 22, 4, 23, 24, 25, 26, 27, 14, 28, 29, 30, 31, 32, 33, 34, 35, 36, 37, 38, 39, 40, 41, 42, 43, 44, 45, 46, 47, 48, 49, 50, 51, 52, 53, 54, 55, 56, 57, 58, 59, 60, 61, 62, 63, 64, 65, 66, 67, 68, 69, 70, 71, 72, 73, 74, 75, 76, 77, 78, 79] (by decide +kernel) (by decide +kernel)
set_option maxRecDepth 20000 in
theorem gX9_odds_X9_hoursUnder : GoodIn wsX9_odds (wsV RX9 199 RX9 yX9_hoursUnder wsX9_hoursUnder) := goodIn_app (goodIn_of _ (by decide +kernel)) ggX9_odds_X9_hoursUnder
set_option maxRecDepth 20000 in
theorem ggX9_rightOf_X9_underAt : GoodIn wsX9_rightOf wsX9_underAt := goodIn_r _ [7, 8, 9, 10, 6, 11, 12, 13, 14, 15, 16, 17, 18, 19, 20, 21, 22, 23, 24, 25, 26, 27, 28, 29, 30, 31, 32, 33, 34, 35, 36, 37, 38, 39, 40, 41, 42, 43, 44, 45, 46, 47, 48, 49, 50, 51, 52, 53, 54, 55, 56, 57, 58, 59, 60, 61, 62, 63, 64, 65] (by decide +kernel) (by decide +kernel)
set_option maxRecDepth 20000 in
theorem gX9_rightOf_X9_underAt : GoodIn wsX9_rightOf (wsV RX9 73 RX9 yX9_underAt wsX9_underAt) := goodIn_app (goodIn_of _ (by decide +kernel)) ggX9_rightOf_X9_underAt
set_option maxRecDepth 20000 in
theorem ggX9_fits_X9_notThere : GoodIn wsX9_fits wsX9_notThere := goodIn_r _ [8, 9, 10, 3, 11, 12, 7, 13, 14, 15, 16, 68, 69, 70, 71, 72, 73, 74, 75, 76, 77, 78, 79, 80, 81, 82, 83, 84, 85, 86, 87] (by decide +kernel) (by decide +kernel)
set_option maxRecDepth 20000 in
theorem gX9_fits_X9_notThere : GoodIn wsX9_fits (wsV RX9 211 RX9 yX9_notThere wsX9_notThere) := goodIn_app (goodIn_of _ (by decide +kernel)) ggX9_fits_X9_notThere
set_option maxRecDepth 20000 in
theorem ggX9_fits_X9_error : GoodIn wsX9_fits wsX9_error := goodIn_r _ [20, 21, 22, 68, 69, 70, 71, 72, 73, 74, 75, 76, 77, 78, 79, 80, 81, 82, 83, 84, 85, 86, 87] (by decide +kernel) (by decide +kernel)
set_option maxRecDepth 20000 in
theorem gX9_fits_X9_error : GoodIn wsX9_fits (wsV RX9 94 RX9 yX9_error wsX9_error) := goodIn_app (goodIn_of _ (by decide +kernel)) ggX9_fits_X9_error
set_option maxRecDepth 20000 in
theorem ggX9_fits_X9_rightOf : GoodIn wsX9_fits wsX9_rightOf := goodIn_r _ [26, 2, 27, 28, 29, 30, 7, 31, 32, 33, 34, 35, 22, 1, 36, 37, 38, 39, 40, 41, 42, 43, 44, 45, 46, 47, 48, 49, 50, 51, 52, 53, 54, 55, 56, 57, 58, 59, 60, 61, 62, 63, 64, 65, 66, 67, 68, 69, 70, 71, 72, 73, 74, 75, 76, 77, 78, 79, 80, 81, 82, 83, 84, 85, 86, 87] (by decide +kernel) (by decide +kernel)
set_option maxRecDepth 20000 in
theorem gX9_fits_X9_rightOf : GoodIn wsX9_fits (wsV RX9 214 RX9 yX9_rightOf wsX9_rightOf) := goodIn_app (goodIn_of _ (by decide +kernel)) ggX9_fits_X9_rightOf
set_option maxRecDepth 20000 in
theorem ggX9_plainMutters_X9_begins : GoodIn wsX9_plainMutters wsX9_begins := goodIn_r _ [5, 6, 7, 8, 9, 10, 11, 12, 13, 14, 15, 16, 17, 18, 19, 20, 21, 22, 23, 24, 25, 26, 27] (by decide +kernel) (by decide +kernel)
set_option maxRecDepth 20000 in
theorem gX9_plainMutters_X9_begins : GoodIn wsX9_plainMutters (wsV RX9 220 RX9 yX9_begins wsX9_begins) := goodIn_app (goodIn_of _ (by decide +kernel)) ggX9_plainMutters_X9_begins
set_option maxRecDepth 20000 in
theorem ggX9_nightmareMutters_X9_begins : GoodIn wsX9_nightmareMutters wsX9_begins := goodIn_r _ [5, 6, 7, 12, 13, 14, 15, 16, 17, 18, 19, 20, 21, 22, 23, 24, 25, 26, 27, 28, 29, 30, 31] (by decide +kernel) (by decide +kernel)
set_option maxRecDepth 20000 in
theorem gX9_nightmareMutters_X9_begins : GoodIn wsX9_nightmareMutters (wsV RX9 220 RX9 yX9_begins wsX9_begins) := goodIn_app (goodIn_of _ (by decide +kernel)) ggX9_nightmareMutters_X9_begins
set_option maxRecDepth 20000 in
theorem ggX9_nightmareMutters_X9_plainMutters : GoodIn wsX9_nightmareMutters wsX9_plainMutters := goodIn_r _ [11, 1, 2, 3, 4, 5, 6, 7, 12, 13, 14, 15, 16, 17, 18, 19, 20, 21, 22, 23, 24, 25, 26, 27, 28, 29, 30, 31] (by decide +kernel) (by decide +kernel)
set_option maxRecDepth 20000 in
theorem gX9_nightmareMutters_X9_plainMutters : GoodIn wsX9_nightmareMutters (wsV RX9 223 RX9 yX9_plainMutters wsX9_plainMutters) := goodIn_app (goodIn_of _ (by decide +kernel)) ggX9_nightmareMutters_X9_plainMutters
set_option maxRecDepth 20000 in
theorem ggX9_mutters_X9_of : GoodIn wsX9_mutters wsX9_of := goodIn_r _ [5, 6, 21, 22, 23, 24, 25, 26, 27, 28, 29, 30, 31, 32, 33, 34, 35, 36, 37, 38, 39, 40] (by decide +kernel) (by decide +kernel)
set_option maxRecDepth 20000 in
theorem gX9_mutters_X9_of : GoodIn wsX9_mutters (wsV RX9 51 RX9 yX9_of wsX9_of) := goodIn_app (goodIn_of _ (by decide +kernel)) ggX9_mutters_X9_of
set_option maxRecDepth 20000 in
theorem ggX9_mutters_X9_nightmareMutters : GoodIn wsX9_mutters wsX9_nightmareMutters := goodIn_r _ [10, 11, 12, 13, 4, 14, 15, 16, 17, 18, 19, 20, 21, 22, 23, 24, 25, 26, 27, 28, 29, 30, 31, 32, 33, 34, 35, 36, 37, 38, 39, 40] (by decide +kernel) (by decide +kernel)
set_option maxRecDepth 20000 in
theorem gX9_mutters_X9_nightmareMutters : GoodIn wsX9_mutters (wsV RX9 226 RX9 yX9_nightmareMutters wsX9_nightmareMutters) := goodIn_app (goodIn_of _ (by decide +kernel)) ggX9_mutters_X9_nightmareMutters
set_option maxRecDepth 20000 in
theorem ggX9_mutters_X9_begins : GoodIn wsX9_mutters wsX9_begins := goodIn_r _ [14, 15, 16, 21, 22, 23, 24, 25, 26, 27, 28, 29, 30, 31, 32, 33, 34, 35, 36, 37, 38, 39, 40] (by decide +kernel) (by decide +kernel)
set_option maxRecDepth 20000 in
theorem gX9_mutters_X9_begins : GoodIn wsX9_mutters (wsV RX9 220 RX9 yX9_begins wsX9_begins) := goodIn_app (goodIn_of _ (by decide +kernel)) ggX9_mutters_X9_begins
set_option maxRecDepth 20000 in
theorem ggX9_mutters_X9_plainMutters : GoodIn wsX9_mutters wsX9_plainMutters := goodIn_r _ [20, 11, 12, 13, 4, 14, 15, 16, 21, 22, 23, 24, 25, 26, 27, 28, 29, 30, 31, 32, 33, 34, 35, 36, 37, 38, 39, 40] (by decide +kernel) (by decide +kernel)
set_option maxRecDepth 20000 in
theorem gX9_mutters_X9_plainMutters : GoodIn wsX9_mutters (wsV RX9 223 RX9 yX9_plainMutters wsX9_plainMutters) := goodIn_app (goodIn_of _ (by decide +kernel)) ggX9_mutters_X9_plainMutters
set_option maxRecDepth 20000 in
theorem ggX9_plainSighs_X9_begins : GoodIn wsX9_plainSighs wsX9_begins := goodIn_r _ [5, 6, 7, 25, 26, 27, 28, 29, 30, 31, 32, 33, 34, 35, 36, 37, 38, 39, 40, 41, 42, 43, 44] (by decide +kernel) (by decide +kernel)
set_option maxRecDepth 20000 in
theorem gX9_plainSighs_X9_begins : GoodIn wsX9_plainSighs (wsV RX9 220 RX9 yX9_begins wsX9_begins) := goodIn_app (goodIn_of _ (by decide +kernel)) ggX9_plainSighs_X9_begins
set_option maxRecDepth 20000 in
theorem ggX9_plainSighs_X9_mutters : GoodIn wsX9_plainSighs wsX9_mutters := goodIn_r _ [11, 12, 13, 14, 4, 15, 16, 17, 18, 19, 20, 1, 2, 3, 5, 6, 7, 21, 22, 23, 24, 25, 26, 27, 28, 29, 30, 31, 32, 33, 34, 35, 36, 37, 38, 39, 40, 41, 42, 43, 44] (by decide +kernel) (by decide +kernel)
set_option maxRecDepth 20000 in
theorem gX9_plainSighs_X9_mutters : GoodIn wsX9_plainSighs (wsV RX9 229 RX9 yX9_mutters wsX9_mutters) := goodIn_app (goodIn_of _ (by decide +kernel)) ggX9_plainSighs_X9_mutters
set_option maxRecDepth 20000 in
theorem ggX9_napSighs_X9_begins : GoodIn wsX9_napSighs wsX9_begins := goodIn_r _ [5, 6, 7, 29, 30, 31, 32, 33, 34, 35, 36, 37, 38, 39, 40, 41, 42, 43, 44, 45, 46, 47, 48] (by decide +kernel) (by decide +kernel)
set_option maxRecDepth 20000 in
theorem gX9_napSighs_X9_begins : GoodIn wsX9_napSighs (wsV RX9 220 RX9 yX9_begins wsX9_begins) := goodIn_app (goodIn_of _ (by decide +kernel)) ggX9_napSighs_X9_begins
set_option maxRecDepth 20000 in
theorem ggX9_napSighs_X9_plainSighs : GoodIn wsX9_napSighs wsX9_plainSighs := goodIn_r _ [11, 1, 2, 3, 4, 5, 6, 7, 12, 13, 14, 15, 16, 17, 18, 19, 20, 21, 22, 23, 24, 25, 26, 27, 28, 29, 30, 31, 32, 33, 34, 35, 36, 37, 38, 39, 40, 41, 42, 43, 44, 45, 46, 47, 48] (by decide +kernel) (by decide +kernel)
set_option maxRecDepth 20000 in
theorem gX9_napSighs_X9_plainSighs : GoodIn wsX9_napSighs (wsV RX9 232 RX9 yX9_plainSighs wsX9_plainSighs) := goodIn_app (goodIn_of _ (by decide +kernel)) ggX9_napSighs_X9_plainSighs
set_option maxRecDepth 20000 in
theorem ggX9_sighs_X9_of : GoodIn wsX9_sighs wsX9_of := goodIn_r _ [5, 6, 33, 34, 35, 36, 37, 38, 39, 40, 41, 42, 43, 44, 45, 46, 47, 48, 49, 50, 51, 52] (by decide +kernel) (by decide +kernel)
set_option maxRecDepth 20000 in
theorem gX9_sighs_X9_of : GoodIn wsX9_sighs (wsV RX9 51 RX9 yX9_of wsX9_of) := goodIn_app (goodIn_of _ (by decide +kernel)) ggX9_sighs_X9_of
set_option maxRecDepth 20000 in
theorem ggX9_sighs_X9_napSighs : GoodIn wsX9_sighs wsX9_napSighs := goodIn_r _ [10, 11, 12, 13, 4, 14, 15, 16, 17, 18, 19, 20, 21, 22, 23, 24, 1, 2, 3, 5, 6, 25, 26, 27, 28, 29, 30, 31, 32, 33, 34, 35, 36, 37, 38, 39, 40, 41, 42, 43, 44, 45, 46, 47, 48, 49, 50, 51, 52] (by decide +kernel) (by decide +kernel)
set_option maxRecDepth 20000 in
theorem gX9_sighs_X9_napSighs : GoodIn wsX9_sighs (wsV RX9 235 RX9 yX9_napSighs wsX9_napSighs) := goodIn_app (goodIn_of _ (by decide +kernel)) ggX9_sighs_X9_napSighs
set_option maxRecDepth 20000 in
theorem ggX9_sighs_X9_begins : GoodIn wsX9_sighs wsX9_begins := goodIn_r _ [14, 15, 16, 33, 34, 35, 36, 37, 38, 39, 40, 41, 42, 43, 44, 45, 46, 47, 48, 49, 50, 51, 52] (by decide +kernel) (by decide +kernel)
set_option maxRecDepth 20000 in
theorem gX9_sighs_X9_begins : GoodIn wsX9_sighs (wsV RX9 220 RX9 yX9_begins wsX9_begins) := goodIn_app (goodIn_of _ (by decide +kernel)) ggX9_sighs_X9_begins
set_option maxRecDepth 20000 in
theorem ggX9_sighs_X9_plainSighs : GoodIn wsX9_sighs wsX9_plainSighs := goodIn_r _ [20, 11, 12, 13, 4, 14, 15, 16, 21, 22, 23, 24, 1, 2, 3, 5, 6, 25, 26, 27, 28, 29, 30, 31, 32, 33, 34, 35, 36, 37, 38, 39, 40, 41, 42, 43, 44, 45, 46, 47, 48, 49, 50, 51, 52] (by decide +kernel) (by decide +kernel)
set_option maxRecDepth 20000 in
theorem gX9_sighs_X9_plainSighs : GoodIn wsX9_sighs (wsV RX9 232 RX9 yX9_plainSighs wsX9_plainSighs) := goodIn_app (goodIn_of _ (by decide +kernel)) ggX9_sighs_X9_plainSighs
set_option maxRecDepth 20000 in
theorem ggX9_plainSnores_X9_begins : GoodIn wsX9_plainSnores wsX9_begins := goodIn_r _ [5, 6, 7, 37, 38, 39, 40, 41, 42, 43, 44, 45, 46, 47, 48, 49, 50, 51, 52, 53, 54, 55, 56] (by decide +kernel) (by decide +kernel)
set_option maxRecDepth 20000 in
theorem gX9_plainSnores_X9_begins : GoodIn wsX9_plainSnores (wsV RX9 220 RX9 yX9_begins wsX9_begins) := goodIn_app (goodIn_of _ (by decide +kernel)) ggX9_plainSnores_X9_begins
set_option maxRecDepth 20000 in
theorem ggX9_plainSnores_X9_sighs : GoodIn wsX9_plainSnores wsX9_sighs := goodIn_r _ [11, 12, 13, 14, 4, 15, 16, 17, 18, 19, 20, 1, 2, 3, 5, 6, 7, 21, 22, 23, 24, 25, 26, 27, 28, 29, 30, 31, 32, 33, 34, 35, 36, 37, 38, 39, 40, 41, 42, 43, 44, 45, 46, 47, 48, 49, 50, 51, 52, 53, 54, 55, 56] (by decide +kernel) (by decide +kernel)
set_option maxRecDepth 20000 in
theorem gX9_plainSnores_X9_sighs : GoodIn wsX9_plainSnores (wsV RX9 238 RX9 yX9_sighs wsX9_sighs) := goodIn_app (goodIn_of _ (by decide +kernel)) ggX9_plainSnores_X9_sighs
set_option maxRecDepth 20000 in
theorem ggX9_plainSnores_X9_of : GoodIn wsX9_plainSnores wsX9_of := goodIn_r _ [15, 16, 37, 38, 39, 40, 41, 42, 43, 44, 45, 46, 47, 48, 49, 50, 51, 52, 53, 54, 55, 56] (by decide +kernel) (by decide +kernel)
set_option maxRecDepth 20000 in
theorem gX9_plainSnores_X9_of : GoodIn wsX9_plainSnores (wsV RX9 51 RX9 yX9_of wsX9_of) := goodIn_app (goodIn_of _ (by decide +kernel)) ggX9_plainSnores_X9_of
set_option maxRecDepth 20000 in
theorem ggX9_snores_X9_of : GoodIn wsX9_snores wsX9_of := goodIn_r _ [5, 6, 41, 42, 43, 44, 45, 46, 47, 48, 49, 50, 51, 52, 53, 54, 55, 56, 57, 58, 59, 60] (by decide +kernel) (by decide +kernel)
set_option maxRecDepth 20000 in
theorem gX9_snores_X9_of : GoodIn wsX9_snores (wsV RX9 51 RX9 yX9_of wsX9_of) := goodIn_app (goodIn_of _ (by decide +kernel)) ggX9_snores_X9_of
set_option maxRecDepth 20000 in
theorem ggX9_snores_X9_begins : GoodIn wsX9_snores wsX9_begins := goodIn_r _ [10, 11, 12, 41, 42, 43, 44, 45, 46, 47, 48, 49, 50, 51, 52, 53, 54, 55, 56, 57, 58, 59, 60] (by decide +kernel) (by decide +kernel)
set_option maxRecDepth 20000 in
theorem gX9_snores_X9_begins : GoodIn wsX9_snores (wsV RX9 220 RX9 yX9_begins wsX9_begins) := goodIn_app (goodIn_of _ (by decide +kernel)) ggX9_snores_X9_begins
set_option maxRecDepth 20000 in
theorem ggX9_snores_X9_plainSnores : GoodIn wsX9_snores wsX9_plainSnores := goodIn_r _ [16, 7, 8, 9, 4, 10, 11, 12, 17, 18, 19, 20, 1, 2, 3, 5, 6, 21, 22, 23, 24, 25, 26, 27, 28, 29, 30, 31, 32, 33, 34, 35, 36, 37, 38, 39, 40, 41, 42, 43, 44, 45, 46, 47, 48, 49, 50, 51, 52, 53, 54, 55, 56, 57, 58, 59, 60] (by decide +kernel) (by decide +kernel)
set_option maxRecDepth 20000 in
theorem gX9_snores_X9_plainSnores : GoodIn wsX9_snores (wsV RX9 241 RX9 yX9_plainSnores wsX9_plainSnores) := goodIn_app (goodIn_of _ (by decide +kernel)) ggX9_snores_X9_plainSnores
set_option maxRecDepth 20000 in
theorem ggX9_plainParts_X9_begins : GoodIn wsX9_plainParts wsX9_begins := goodIn_r _ [6, 7, 8, 14, 15, 16, 17, 18, 19, 20, 21, 22, 23, 24, 25, 26, 27, 28, 29, 30, 31, 32, 33] (by decide +kernel) (by decide +kernel)
set_option maxRecDepth 20000 in
theorem gX9_plainParts_X9_begins : GoodIn wsX9_plainParts (wsV RX9 220 RX9 yX9_begins wsX9_begins) := goodIn_app (goodIn_of _ (by decide +kernel)) ggX9_plainParts_X9_begins
set_option maxRecDepth 20000 in
theorem ggX9_plainParts_X9_of : GoodIn wsX9_plainParts wsX9_of := goodIn_r _ [12, 13, 14, 15, 16, 17, 18, 19, 20, 21, 22, 23, 24, 25, 26, 27, 28, 29, 30, 31, 32, 33] (by decide +kernel) (by decide +kernel)
set_option maxRecDepth 20000 in
theorem gX9_plainParts_X9_of : GoodIn wsX9_plainParts (wsV RX9 51 RX9 yX9_of wsX9_of) := goodIn_app (goodIn_of _ (by decide +kernel)) ggX9_plainParts_X9_of
set_option maxRecDepth 20000 in
theorem ggX9_parts_X9_of : GoodIn wsX9_parts wsX9_of := goodIn_r _ [6, 7, 42, 43, 44, 45, 46, 47, 48, 49, 50, 51, 52, 53, 54, 55, 56, 57, 58, 59, 60, 61] (by decide +kernel) (by decide +kernel)
set_option maxRecDepth 20000 in
theorem gX9_parts_X9_of : GoodIn wsX9_parts (wsV RX9 51 RX9 yX9_of wsX9_of) := goodIn_app (goodIn_of _ (by decide +kernel)) ggX9_parts_X9_of
set_option maxRecDepth 20000 in
theorem ggX9_parts_X9_begins : GoodIn wsX9_parts wsX9_begins := goodIn_r _ [11, 12, 13, 42, 43, 44, 45, 46, 47, 48, 49, 50, 51, 52, 53, 54, 55, 56, 57, 58, 59, 60, 61] (by decide +kernel) (by decide +kernel)
set_option maxRecDepth 20000 in
theorem gX9_parts_X9_begins : GoodIn wsX9_parts (wsV RX9 220 RX9 yX9_begins wsX9_begins) := goodIn_app (goodIn_of _ (by decide +kernel)) ggX9_parts_X9_begins
set_option maxRecDepth 20000 in
theorem ggX9_parts_X9_plainParts : GoodIn wsX9_parts wsX9_plainParts := goodIn_r _ [17, 1, 8, 9, 10, 5, 11, 12, 13, 2, 3, 4, 6, 7, 42, 43, 44, 45, 46, 47, 48, 49, 50, 51, 52, 53, 54, 55, 56, 57, 58, 59, 60, 61] (by decide +kernel) (by decide +kernel)
set_option maxRecDepth 20000 in
theorem gX9_parts_X9_plainParts : GoodIn wsX9_parts (wsV RX9 247 RX9 yX9_plainParts wsX9_plainParts) := goodIn_app (goodIn_of _ (by decide +kernel)) ggX9_parts_X9_plainParts
set_option maxRecDepth 20000 in
theorem ggX9_parts_X9_sighs : GoodIn wsX9_parts wsX9_sighs := goodIn_r _ [21, 2, 3, 4, 5, 6, 7, 22, 23, 24, 25, 8, 9, 10, 11, 12, 13, 26, 27, 28, 29, 30, 31, 32, 33, 34, 35, 36, 37, 38, 39, 40, 41, 42, 43, 44, 45, 46, 47, 48, 49, 50, 51, 52, 53, 54, 55, 56, 57, 58, 59, 60, 61] (by decide +kernel) (by decide +kernel)
set_option maxRecDepth 20000 in
theorem gX9_parts_X9_sighs : GoodIn wsX9_parts (wsV RX9 238 RX9 yX9_sighs wsX9_sighs) := goodIn_app (goodIn_of _ (by decide +kernel)) ggX9_parts_X9_sighs
set_option maxRecDepth 20000 in
theorem ggX9_voice_X9_isDream : GoodIn wsX9_voice wsX9_isDream := goodIn_r _ [9, 10, 11, 12, 8, 13, 69, 70, 71, 72, 73, 74, 75, 76, 77, 78, 79, 80, 81, 82, 83, 84, 85, 86, 87, 88] (by decide +kernel) (by decide +kernel)
set_option maxRecDepth 20000 in
theorem gX9_voice_X9_isDream : GoodIn wsX9_voice (wsV RX9 101 RX9 yX9_isDream wsX9_isDream) := goodIn_app (goodIn_of _ (by decide +kernel)) ggX9_voice_X9_isDream
set_option maxRecDepth 20000 in
theorem ggX9_voice_X9_in : GoodIn wsX9_voice wsX9_in := goodIn_r _ [13] (by decide +kernel) (by decide +kernel)
set_option maxRecDepth 20000 in
theorem gX9_voice_X9_in : GoodIn wsX9_voice (va_wsS RX9 47 yX9_in wsX9_in) := goodIn_app (goodIn_of _ (by decide +kernel)) ggX9_voice_X9_in
set_option maxRecDepth 20000 in
theorem ggX9_voice_X9_error : GoodIn wsX9_voice wsX9_error := goodIn_r _ [17, 18, 19, 69, 70, 71, 72, 73, 74, 75, 76, 77, 78, 79, 80, 81, 82, 83, 84, 85, 86, 87, 88] (by decide +kernel) (by decide +kernel)
set_option maxRecDepth 20000 in
theorem gX9_voice_X9_error : GoodIn wsX9_voice (wsV RX9 94 RX9 yX9_error wsX9_error) := goodIn_app (goodIn_of _ (by decide +kernel)) ggX9_voice_X9_error
set_option maxRecDepth 20000 in
theorem ggX9_voice_X9_mutters : GoodIn wsX9_voice wsX9_mutters := goodIn_r _ [23, 24, 25, 26, 8, 27, 10, 28, 29, 30, 31, 32, 33, 34, 35, 2, 36, 37, 38, 39, 40, 69, 70, 71, 72, 73, 74, 75, 76, 77, 78, 79, 80, 81, 82, 83, 84, 85, 86, 87, 88] (by decide +kernel) (by decide +kernel)
set_option maxRecDepth 20000 in
theorem gX9_voice_X9_mutters : GoodIn wsX9_voice (wsV RX9 229 RX9 yX9_mutters wsX9_mutters) := goodIn_app (goodIn_of _ (by decide +kernel)) ggX9_voice_X9_mutters
set_option maxRecDepth 20000 in
theorem ggX9_voice_X9_sighs : GoodIn wsX9_voice wsX9_sighs := goodIn_r _ [44, 24, 25, 26, 8, 27, 10, 45, 46, 47, 48, 32, 33, 34, 35, 2, 36, 49, 50, 51, 52, 20, 21, 22, 23, 28, 29, 30, 31, 37, 38, 39, 40, 69, 70, 71, 72, 73, 74, 75, 76, 77, 78, 79, 80, 81, 82, 83, 84, 85, 86, 87, 88] (by decide +kernel) (by decide +kernel)
set_option maxRecDepth 20000 in
theorem gX9_voice_X9_sighs : GoodIn wsX9_voice (wsV RX9 238 RX9 yX9_sighs wsX9_sighs) := goodIn_app (goodIn_of _ (by decide +kernel)) ggX9_voice_X9_sighs
set_option maxRecDepth 20000 in
theorem ggX9_voice_X9_snores : GoodIn wsX9_voice wsX9_snores := goodIn_r _ [56, 24, 25, 26, 8, 27, 10, 32, 33, 34, 35, 2, 36, 57, 58, 59, 60, 41, 42, 43, 44, 45, 46, 47, 48, 49, 50, 51, 52, 20, 21, 22, 23, 28, 29, 30, 31, 37, 38, 39, 40, 69, 70, 71, 72, 73, 74, 75, 76, 77, 78, 79, 80, 81, 82, 83, 84, 85, 86, 87, 88] (by decide +kernel) (by decide +kernel)
set_option maxRecDepth 20000 in
theorem gX9_voice_X9_snores : GoodIn wsX9_voice (wsV RX9 250 RX9 yX9_snores wsX9_snores) := goodIn_app (goodIn_of _ (by decide +kernel)) ggX9_voice_X9_snores
set_option maxRecDepth 20000 in
theorem ggX9_voice_X9_parts : GoodIn wsX9_voice wsX9_parts := goodIn_r _ [64, 3, 24, 25, 26, 8, 27, 10, 32, 33, 34, 35, 2, 36, 65, 66, 67, 68, 41, 42, 43, 44, 45, 46, 47, 48, 49, 50, 51, 52, 20, 21, 22, 23, 28, 29, 30, 31, 37, 38, 39, 40, 69, 70, 71, 72, 73, 74, 75, 76, 77, 78, 79, 80, 81, 82, 83, 84, 85, 86, 87, 88] (by decide +kernel) (by decide +kernel)
set_option maxRecDepth 20000 in
theorem gX9_voice_X9_parts : GoodIn wsX9_voice (wsV RX9 253 RX9 yX9_parts wsX9_parts) := goodIn_app (goodIn_of _ (by decide +kernel)) ggX9_voice_X9_parts
set_option maxRecDepth 20000 in
theorem ggX9_body_X9_in : GoodIn wsX9_body wsX9_in := goodIn_r _ [7] (by decide +kernel) (by decide +kernel)
set_option maxRecDepth 20000 in
theorem gX9_body_X9_in : GoodIn wsX9_body (va_wsS RX9 47 yX9_in wsX9_in) := goodIn_app (goodIn_of _ (by decide +kernel)) ggX9_body_X9_in
set_option maxRecDepth 20000 in
theorem ggX9_body_X9_error : GoodIn wsX9_body wsX9_error := goodIn_r _ [11, 12, 13, 14, 15, 16, 17, 18, 19, 20, 21, 22, 23, 24, 25, 26, 27, 28, 29, 30, 31, 32, 33] (by decide +kernel) (by decide +kernel)
set_option maxRecDepth 20000 in
theorem gX9_body_X9_error : GoodIn wsX9_body (wsV RX9 94 RX9 yX9_error wsX9_error) := goodIn_app (goodIn_of _ (by decide +kernel)) ggX9_body_X9_error
set_option maxRecDepth 20000 in
theorem ggX9_isSheet_X9_in : GoodIn wsX9_isSheet wsX9_in := goodIn_r _ [4] (by decide +kernel) (by decide +kernel)
set_option maxRecDepth 20000 in
theorem gX9_isSheet_X9_in : GoodIn wsX9_isSheet (va_wsS RX9 47 yX9_in wsX9_in) := goodIn_app (goodIn_of _ (by decide +kernel)) ggX9_isSheet_X9_in
set_option maxRecDepth 20000 in
theorem ggX9_sheet_X9_isSheet : GoodIn wsX9_sheet wsX9_isSheet := goodIn_r _ [9, 10, 11, 8, 12] (by decide +kernel) (by decide +kernel)
set_option maxRecDepth 20000 in
theorem gX9_sheet_X9_isSheet : GoodIn wsX9_sheet (va_wsS RX9 257 yX9_isSheet wsX9_isSheet) := goodIn_app (goodIn_of _ (by decide +kernel)) ggX9_sheet_X9_isSheet
set_option maxRecDepth 20000 in
theorem ggX9_sheet_X9_error : GoodIn wsX9_sheet wsX9_error := goodIn_r _ [16, 17, 18, 19, 20, 21, 22, 23, 24, 25, 26, 27, 28, 29, 30, 31, 32, 33, 34, 35, 36, 37, 38] (by decide +kernel) (by decide +kernel)
set_option maxRecDepth 20000 in
theorem gX9_sheet_X9_error : GoodIn wsX9_sheet (wsV RX9 94 RX9 yX9_error wsX9_error) := goodIn_app (goodIn_of _ (by decide +kernel)) ggX9_sheet_X9_error
set_option maxRecDepth 20000 in
theorem ggX9_notThere_X9_isSheet : GoodIn wsX9_notThere wsX9_isSheet := goodIn_r _ [7, 8, 9, 6, 10] (by decide +kernel) (by decide +kernel)
set_option maxRecDepth 20000 in
theorem gX9_notThere_X9_isSheet : GoodIn wsX9_notThere (va_wsS RX9 257 yX9_isSheet wsX9_isSheet) := goodIn_app (goodIn_of _ (by decide +kernel)) ggX9_notThere_X9_isSheet
set_option maxRecDepth 20000 in
theorem ggX9_put_X9_notThere : GoodIn wsX9_put wsX9_notThere := goodIn_r _ [9, 2, 4, 10, 11, 12, 8, 13, 14, 15, 16, 23, 24, 25, 26, 27, 28, 29, 30, 31, 32, 33, 34, 35, 36, 37, 38, 39, 40, 41, 42] (by decide +kernel) (by decide +kernel)
set_option maxRecDepth 20000 in
theorem gX9_put_X9_notThere : GoodIn wsX9_put (wsV RX9 211 RX9 yX9_notThere wsX9_notThere) := goodIn_app (goodIn_of _ (by decide +kernel)) ggX9_put_X9_notThere
set_option maxRecDepth 20000 in
theorem ggX9_put_X9_in : GoodIn wsX9_put wsX9_in := goodIn_r _ [16] (by decide +kernel) (by decide +kernel)
set_option maxRecDepth 20000 in
theorem gX9_put_X9_in : GoodIn wsX9_put (va_wsS RX9 47 yX9_in wsX9_in) := goodIn_app (goodIn_of _ (by decide +kernel)) ggX9_put_X9_in
set_option maxRecDepth 20000 in
theorem ggX9_put_X9_error : GoodIn wsX9_put wsX9_error := goodIn_r _ [20, 21, 22, 23, 24, 25, 26, 27, 28, 29, 30, 31, 32, 33, 34, 35, 36, 37, 38, 39, 40, 41, 42] (by decide +kernel) (by decide +kernel)
set_option maxRecDepth 20000 in
theorem gX9_put_X9_error : GoodIn wsX9_put (wsV RX9 94 RX9 yX9_error wsX9_error) := goodIn_app (goodIn_of _ (by decide +kernel)) ggX9_put_X9_error
set_option maxRecDepth 20000 in
theorem ggX9_notMoved_X9_isSheet : GoodIn wsX9_notMoved wsX9_isSheet := goodIn_r _ [9, 10, 11, 8, 12] (by decide +kernel) (by decide +kernel)
set_option maxRecDepth 20000 in
theorem gX9_notMoved_X9_isSheet : GoodIn wsX9_notMoved (va_wsS RX9 257 yX9_isSheet wsX9_isSheet) := goodIn_app (goodIn_of _ (by decide +kernel)) ggX9_notMoved_X9_isSheet
set_option maxRecDepth 20000 in
theorem ggX9_move_X9_notMoved : GoodIn wsX9_move wsX9_notMoved := goodIn_r _ [6, 7, 8, 9, 10, 11, 12, 13, 5, 14, 15, 16, 17, 24, 25, 26, 27, 28, 29, 30, 31, 32, 33, 34, 35, 36, 37, 38, 39, 40, 41, 42, 43] (by decide +kernel) (by decide +kernel)
set_option maxRecDepth 20000 in
theorem gX9_move_X9_notMoved : GoodIn wsX9_move (wsV RX9 260 RX9 yX9_notMoved wsX9_notMoved) := goodIn_app (goodIn_of _ (by decide +kernel)) ggX9_move_X9_notMoved
set_option maxRecDepth 20000 in
theorem ggX9_move_X9_error : GoodIn wsX9_move wsX9_error := goodIn_r _ [21, 22, 23, 24, 25, 26, 27, 28, 29, 30, 31, 32, 33, 34, 35, 36, 37, 38, 39, 40, 41, 42, 43] (by decide +kernel) (by decide +kernel)
set_option maxRecDepth 20000 in
theorem gX9_move_X9_error : GoodIn wsX9_move (wsV RX9 94 RX9 yX9_error wsX9_error) := goodIn_app (goodIn_of _ (by decide +kernel)) ggX9_move_X9_error
set_option maxRecDepth 20000 in
theorem ggX9_wonts_X9_notThere : GoodIn wsX9_wonts wsX9_notThere := goodIn_r _ [8, 9, 10, 11, 12, 13, 7, 14, 15, 16, 17, 24, 25, 26, 27, 28, 29, 30, 31, 32, 33, 34, 35, 36, 37, 38, 39, 40, 41, 42, 43] (by decide +kernel) (by decide +kernel)
set_option maxRecDepth 20000 in
theorem gX9_wonts_X9_notThere : GoodIn wsX9_wonts (wsV RX9 211 RX9 yX9_notThere wsX9_notThere) := goodIn_app (goodIn_of _ (by decide +kernel)) ggX9_wonts_X9_notThere
set_option maxRecDepth 20000 in
theorem ggX9_wonts_X9_error : GoodIn wsX9_wonts wsX9_error := goodIn_r _ [21, 22, 23, 24, 25, 26, 27, 28, 29, 30, 31, 32, 33, 34, 35, 36, 37, 38, 39, 40, 41, 42, 43] (by decide +kernel) (by decide +kernel)
set_option maxRecDepth 20000 in
theorem gX9_wonts_X9_error : GoodIn wsX9_wonts (wsV RX9 94 RX9 yX9_error wsX9_error) := goodIn_app (goodIn_of _ (by decide +kernel)) ggX9_wonts_X9_error
set_option maxRecDepth 20000 in
theorem ggX9_wonts_X9_in : GoodIn wsX9_wonts wsX9_in := goodIn_r _ [17] (by decide +kernel) (by decide +kernel)
set_option maxRecDepth 20000 in
theorem gX9_wonts_X9_in : GoodIn wsX9_wonts (va_wsS RX9 47 yX9_in wsX9_in) := goodIn_app (goodIn_of _ (by decide +kernel)) ggX9_wonts_X9_in
set_option maxRecDepth 20000 in
theorem ggX9_judge_X9_notThere : GoodIn wsX9_judge wsX9_notThere := goodIn_r _ [6, 7, 8, 9, 10, 11, 5, 12, 13, 14, 15, 68, 69, 70, 71, 72, 73, 74, 75, 76, 77, 78, 79, 80, 81, 82, 83, 84, 85, 86, 87] (by decide +kernel) (by decide +kernel)
set_option maxRecDepth 20000 in
theorem gX9_judge_X9_notThere : GoodIn wsX9_judge (wsV RX9 211 RX9 yX9_notThere wsX9_notThere) := goodIn_app (goodIn_of _ (by decide +kernel)) ggX9_judge_X9_notThere
set_option maxRecDepth 20000 in
theorem ggX9_judge_X9_error : GoodIn wsX9_judge wsX9_error := goodIn_r _ [19, 20, 21, 68, 69, 70, 71, 72, 73, 74, 75, 76, 77, 78, 79, 80, 81, 82, 83, 84, 85, 86, 87] (by decide +kernel) (by decide +kernel)
set_option maxRecDepth 20000 in
theorem gX9_judge_X9_error : GoodIn wsX9_judge (wsV RX9 94 RX9 yX9_error wsX9_error) := goodIn_app (goodIn_of _ (by decide +kernel)) ggX9_judge_X9_error
set_option maxRecDepth 20000 in
theorem ggX9_judge_X9_rightOf : GoodIn wsX9_judge wsX9_rightOf := goodIn_r _ [25, 26, 27, 28, 29, 30, 5, 31, 32, 33, 34, 35, 21, 1, 36, 37, 38, 39, 40, 41, 42, 43, 44, 45, 46, 47, 48, 49, 50, 51, 52, 53, 54, 55, 56, 57, 58, 59, 60, 61, 62, 63, 64, 65, 66, 67, 68, 69, 70, 71, 72, 73, 74, 75, 76, 77, 78, 79, 80, 81, 82, 83, 84, 85, 86, 87] (by decide +kernel) (by decide +kernel)
set_option maxRecDepth 20000 in
theorem gX9_judge_X9_rightOf : GoodIn wsX9_judge (wsV RX9 214 RX9 yX9_rightOf wsX9_rightOf) := goodIn_app (goodIn_of _ (by decide +kernel)) ggX9_judge_X9_rightOf
set_option maxRecDepth 20000 in
theorem ggX9_image_X9_copyAll : GoodIn wsX9_image wsX9_copyAll := goodIn_r _ [7] (by decide +kernel) (by decide +kernel)
set_option maxRecDepth 20000 in
theorem gX9_image_X9_copyAll : GoodIn wsX9_image (va_wsS RX9 264 yX9_copyAll wsX9_copyAll) := goodIn_app (goodIn_of _ (by decide +kernel)) ggX9_image_X9_copyAll
set_option maxRecDepth 20000 in
theorem ggX9_restore_X9_error : GoodIn wsX9_restore wsX9_error := goodIn_r _ [9, 10, 11, 15, 16, 17, 18, 19, 20, 21, 22, 23, 24, 25, 26, 27, 28, 29, 30, 31, 32, 33, 34] (by decide +kernel) (by decide +kernel)
set_option maxRecDepth 20000 in
theorem gX9_restore_X9_error : GoodIn wsX9_restore (wsV RX9 94 RX9 yX9_error wsX9_error) := goodIn_app (goodIn_of _ (by decide +kernel)) ggX9_restore_X9_error
set_option maxRecDepth 20000 in
theorem ggX9_restore_X9_copyAll : GoodIn wsX9_restore wsX9_copyAll := goodIn_r _ [14] (by decide +kernel) (by decide +kernel)
set_option maxRecDepth 20000 in
theorem gX9_restore_X9_copyAll : GoodIn wsX9_restore (va_wsS RX9 264 yX9_copyAll wsX9_copyAll) := goodIn_app (goodIn_of _ (by decide +kernel)) ggX9_restore_X9_copyAll
set_option maxRecDepth 20000 in
theorem ggX9_tell_X9_error : GoodIn wsX9_tell wsX9_error := goodIn_r _ [7, 8, 9, 10, 11, 12, 13, 14, 15, 16, 17, 18, 19, 20, 21, 22, 23, 24, 25, 26, 27, 28, 29] (by decide +kernel) (by decide +kernel)
set_option maxRecDepth 20000 in
theorem gX9_tell_X9_error : GoodIn wsX9_tell (wsV RX9 94 RX9 yX9_error wsX9_error) := goodIn_app (goodIn_of _ (by decide +kernel)) ggX9_tell_X9_error
set_option maxRecDepth 20000 in
theorem ggX9_check_X9_isPerson : GoodIn wsX9_check wsX9_isPerson := goodIn_r _ [6, 1, 7, 8, 5, 9, 14, 15, 16, 17, 18, 19, 20, 21, 22, 23, 24, 25, 26, 27, 28, 29, 30, 31, 32, 33] (by decide +kernel) (by decide +kernel)
set_option maxRecDepth 20000 in
theorem gX9_check_X9_isPerson : GoodIn wsX9_check (wsV RX9 108 RX9 yX9_isPerson wsX9_isPerson) := goodIn_app (goodIn_of _ (by decide +kernel)) ggX9_check_X9_isPerson
set_option maxRecDepth 20000 in
theorem ggX9_check_X9_about : GoodIn wsX9_check wsX9_about := goodIn_r _ [13, 1, 14, 15, 16, 17, 18, 19, 20, 21, 22, 23, 24, 25, 26, 27, 28, 29, 30, 31, 32, 33] (by decide +kernel) (by decide +kernel)
set_option maxRecDepth 20000 in
theorem gX9_check_X9_about : GoodIn wsX9_check (wsV RX9 76 RX9 yX9_about wsX9_about) := goodIn_app (goodIn_of _ (by decide +kernel)) ggX9_check_X9_about
set_option maxRecDepth 20000 in
theorem ggX9_count_X9_error : GoodIn wsX9_count wsX9_error := goodIn_r _ [8, 9, 10, 11, 12, 13, 14, 15, 16, 17, 18, 19, 20, 21, 22, 23, 24, 25, 26, 27, 28, 29, 30] (by decide +kernel) (by decide +kernel)
set_option maxRecDepth 20000 in
theorem gX9_count_X9_error : GoodIn wsX9_count (wsV RX9 94 RX9 yX9_error wsX9_error) := goodIn_app (goodIn_of _ (by decide +kernel)) ggX9_count_X9_error
set_option maxRecDepth 20000 in
theorem ggX9_told_X9_in : GoodIn wsX9_told wsX9_in := goodIn_r _ [6] (by decide +kernel) (by decide +kernel)
set_option maxRecDepth 20000 in
theorem gX9_told_X9_in : GoodIn wsX9_told (va_wsS RX9 47 yX9_in wsX9_in) := goodIn_app (goodIn_of _ (by decide +kernel)) ggX9_told_X9_in
set_option maxRecDepth 20000 in
theorem ggX9_told_X9_error : GoodIn wsX9_told wsX9_error := goodIn_r _ [10, 1, 11, 12, 13, 14, 15, 16, 17, 18, 19, 20, 21, 22, 23, 24, 25, 26, 27, 28, 29, 30, 31] (by decide +kernel) (by decide +kernel)
set_option maxRecDepth 20000 in
theorem gX9_told_X9_error : GoodIn wsX9_told (wsV RX9 94 RX9 yX9_error wsX9_error) := goodIn_app (goodIn_of _ (by decide +kernel)) ggX9_told_X9_error
