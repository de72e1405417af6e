set_option maxRecDepth 20000 in
theorem ggX1_isInTable_X1_in : GoodIn wsX1_isInTable wsX1_in := goodIn_r _ [6] (by decide +kernel) (by decide +kernel)
set_option maxRecDepth 20000 in
theorem gX1_isInTable_X1_in : GoodIn wsX1_isInTable (va_wsS RX1 43 yX1_in wsX1_in) := goodIn_app (goodIn_of _ (by decide +kernel)) ggX1_isInTable_X1_in
set_option maxRecDepth 20000 in
theorem ggX1_isHeight_X1_in : GoodIn wsX1_isHeight wsX1_in := goodIn_r _ [6] (by decide +kernel) (by decide +kernel)
set_option maxRecDepth 20000 in
theorem gX1_isHeight_X1_in : GoodIn wsX1_isHeight (va_wsS RX1 43 yX1_in wsX1_in) := goodIn_app (goodIn_of _ (by decide +kernel)) ggX1_isHeight_X1_in
set_option maxRecDepth 20000 in
theorem ggX1_tableHeight_X1_floor : GoodIn wsX1_tableHeight wsX1_floor := goodIn_r _ [9] (by decide +kernel) (by decide +kernel)
set_option maxRecDepth 20000 in
theorem gX1_tableHeight_X1_floor : GoodIn wsX1_tableHeight (va_wsS RX1 55 yX1_floor wsX1_floor) := goodIn_app (goodIn_of _ (by decide +kernel)) ggX1_tableHeight_X1_floor
set_option maxRecDepth 20000 in
theorem ggX1_heightAt_X1_tableHeight : GoodIn wsX1_heightAt wsX1_tableHeight := goodIn_r _ [9, 10, 11, 12, 13, 14, 15, 16, 8, 17, 18, 19, 20, 21, 22, 23, 24, 25, 26, 27, 28, 29] (by decide +kernel) (by decide +kernel)
set_option maxRecDepth 20000 in
theorem gX1_heightAt_X1_tableHeight : GoodIn wsX1_heightAt (wsV RX1 64 RX1 yX1_tableHeight wsX1_tableHeight) := goodIn_app (goodIn_of _ (by decide +kernel)) ggX1_heightAt_X1_tableHeight
set_option maxRecDepth 20000 in
theorem ggX1_turn_X1_in : GoodIn wsX1_turn wsX1_in := goodIn_r _ [9] (by decide +kernel) (by decide +kernel)
set_option maxRecDepth 20000 in
theorem gX1_turn_X1_in : GoodIn wsX1_turn (va_wsS RX1 43 yX1_in wsX1_in) := goodIn_app (goodIn_of _ (by decide +kernel)) ggX1_turn_X1_in
set_option maxRecDepth 20000 in
theorem ggX1_turn_X1_isHeight : GoodIn wsX1_turn wsX1_isHeight := goodIn_r _ [12, 13, 14, 6, 7, 8, 9] (by decide +kernel) (by decide +kernel)
set_option maxRecDepth 20000 in
theorem gX1_turn_X1_isHeight : GoodIn wsX1_turn (va_wsS RX1 70 yX1_isHeight wsX1_isHeight) := goodIn_app (goodIn_of _ (by decide +kernel)) ggX1_turn_X1_isHeight
set_option maxRecDepth 20000 in
theorem ggX1_height_X1_isInTable : GoodIn wsX1_height wsX1_isInTable := goodIn_r _ [6, 7, 8, 9, 10, 5, 11, 31, 32, 33, 34, 35, 36, 37, 38, 39, 40, 41, 42] (by decide +kernel) (by decide +kernel)
set_option maxRecDepth 20000 in
theorem gX1_height_X1_isInTable : GoodIn wsX1_height (wsV RX1 74 RX1 yX1_isInTable wsX1_isInTable) := goodIn_app (goodIn_of _ (by decide +kernel)) ggX1_height_X1_isInTable
set_option maxRecDepth 20000 in
theorem ggX1_height_X1_heightAt : GoodIn wsX1_height wsX1_heightAt := goodIn_r _ [15, 16, 17, 18, 19, 20, 21, 22, 5, 23, 8, 24, 25, 26, 27, 28, 29, 30, 31, 32, 33, 34, 35, 36, 37, 38, 39, 40, 41, 42] (by decide +kernel) (by decide +kernel)
set_option maxRecDepth 20000 in
theorem gX1_height_X1_heightAt : GoodIn wsX1_height (wsV RX1 77 RX1 yX1_heightAt wsX1_heightAt) := goodIn_app (goodIn_of _ (by decide +kernel)) ggX1_height_X1_heightAt
set_option maxRecDepth 20000 in
theorem ggX1_observe_X1_isInTable : GoodIn wsX1_observe wsX1_isInTable := goodIn_r _ [9, 10, 11, 12, 13, 8, 14, 31, 32, 33, 34, 35, 36, 37, 38, 39, 40, 41, 42] (by decide +kernel) (by decide +kernel)
set_option maxRecDepth 20000 in
theorem gX1_observe_X1_isInTable : GoodIn wsX1_observe (wsV RX1 74 RX1 yX1_isInTable wsX1_isInTable) := goodIn_app (goodIn_of _ (by decide +kernel)) ggX1_observe_X1_isInTable
set_option maxRecDepth 20000 in
theorem ggX1_observe_X1_isHeight : GoodIn wsX1_observe wsX1_isHeight := goodIn_r _ [17, 18, 19, 12, 13, 8, 14] (by decide +kernel) (by decide +kernel)
set_option maxRecDepth 20000 in
theorem gX1_observe_X1_isHeight : GoodIn wsX1_observe (va_wsS RX1 70 yX1_isHeight wsX1_isHeight) := goodIn_app (goodIn_of _ (by decide +kernel)) ggX1_observe_X1_isHeight
set_option maxRecDepth 20000 in
theorem ggX1_observe_X1_tableHeight : GoodIn wsX1_observe wsX1_tableHeight := goodIn_r _ [23, 11, 24, 25, 26, 27, 28, 29, 8, 30, 31, 32, 33, 34, 35, 36, 37, 38, 39, 40, 41, 42] (by decide +kernel) (by decide +kernel)
set_option maxRecDepth 20000 in
theorem gX1_observe_X1_tableHeight : GoodIn wsX1_observe (wsV RX1 64 RX1 yX1_tableHeight wsX1_tableHeight) := goodIn_app (goodIn_of _ (by decide +kernel)) ggX1_observe_X1_tableHeight
set_option maxRecDepth 20000 in
theorem ggX1_span_X1_isInTable : GoodIn wsX1_span wsX1_isInTable := goodIn_r _ [8, 3, 2, 9, 10, 7, 11, 36, 37, 38, 39, 40, 41, 42, 43, 44, 45, 46, 47] (by decide +kernel) (by decide +kernel)
set_option maxRecDepth 20000 in
theorem gX1_span_X1_isInTable : GoodIn wsX1_span (wsV RX1 74 RX1 yX1_isInTable wsX1_isInTable) := goodIn_app (goodIn_of _ (by decide +kernel)) ggX1_span_X1_isInTable
set_option maxRecDepth 20000 in
theorem ggX1_span_X1_isHeight : GoodIn wsX1_span wsX1_isHeight := goodIn_r _ [14, 15, 16, 9, 10, 7, 11] (by decide +kernel) (by decide +kernel)
set_option maxRecDepth 20000 in
theorem gX1_span_X1_isHeight : GoodIn wsX1_span (va_wsS RX1 70 yX1_isHeight wsX1_isHeight) := goodIn_app (goodIn_of _ (by decide +kernel)) ggX1_span_X1_isHeight
set_option maxRecDepth 20000 in
theorem ggX1_span_X1_heightAt : GoodIn wsX1_span wsX1_heightAt := goodIn_r _ [20, 21, 22, 23, 24, 25, 26, 27, 7, 28, 2, 29, 30, 31, 32, 33, 34, 35, 36, 37, 38, 39, 40, 41, 42, 43, 44, 45, 46, 47] (by decide +kernel) (by decide +kernel)
set_option maxRecDepth 20000 in
theorem gX1_span_X1_heightAt : GoodIn wsX1_span (wsV RX1 77 RX1 yX1_heightAt wsX1_heightAt) := goodIn_app (goodIn_of _ (by decide +kernel)) ggX1_span_X1_heightAt
set_option maxRecDepth 20000 in
theorem ggX1_squatOf_X1_up : GoodIn wsX1_squatOf wsX1_up := goodIn_r _ [8] (by decide +kernel) (by decide +kernel)
set_option maxRecDepth 20000 in
theorem gX1_squatOf_X1_up : GoodIn wsX1_squatOf (va_wsS RX1 86 yX1_up wsX1_up) := goodIn_app (goodIn_of _ (by decide +kernel)) ggX1_squatOf_X1_up
set_option maxRecDepth 20000 in
theorem ggX1_squat_X1_in : GoodIn wsX1_squat wsX1_in := goodIn_r _ [7] (by decide +kernel) (by decide +kernel)
set_option maxRecDepth 20000 in
theorem gX1_squat_X1_in : GoodIn wsX1_squat (va_wsS RX1 43 yX1_in wsX1_in) := goodIn_app (goodIn_of _ (by decide +kernel)) ggX1_squat_X1_in
set_option maxRecDepth 20000 in
theorem ggX1_squat_X1_squatOf : GoodIn wsX1_squat wsX1_squatOf := goodIn_r _ [11, 12, 13, 14, 15, 16, 17, 6, 18, 19, 20, 21, 22, 23, 24, 25, 26, 27, 28, 29, 30] (by decide +kernel) (by decide +kernel)
set_option maxRecDepth 20000 in
theorem gX1_squat_X1_squatOf : GoodIn wsX1_squat (wsV RX1 93 RX1 yX1_squatOf wsX1_squatOf) := goodIn_app (goodIn_of _ (by decide +kernel)) ggX1_squat_X1_squatOf
set_option maxRecDepth 20000 in
theorem ggX1_passing_X1_in : GoodIn wsX1_passing wsX1_in := goodIn_r _ [8] (by decide +kernel) (by decide +kernel)
set_option maxRecDepth 20000 in
theorem gX1_passing_X1_in : GoodIn wsX1_passing (va_wsS RX1 43 yX1_in wsX1_in) := goodIn_app (goodIn_of _ (by decide +kernel)) ggX1_passing_X1_in
set_option maxRecDepth 20000 in
theorem ggX1_passing_X1_up : GoodIn wsX1_passing wsX1_up := goodIn_r _ [11] (by decide +kernel) (by decide +kernel)
set_option maxRecDepth 20000 in
theorem gX1_passing_X1_up : GoodIn wsX1_passing (va_wsS RX1 86 yX1_up wsX1_up) := goodIn_app (goodIn_of _ (by decide +kernel)) ggX1_passing_X1_up
set_option maxRecDepth 20000 in
theorem ggX1_draft_X1_in : GoodIn wsX1_draft wsX1_in := goodIn_r _ [8] (by decide +kernel) (by decide +kernel)
set_option maxRecDepth 20000 in
theorem gX1_draft_X1_in : GoodIn wsX1_draft (va_wsS RX1 43 yX1_in wsX1_in) := goodIn_app (goodIn_of _ (by decide +kernel)) ggX1_draft_X1_in
set_option maxRecDepth 20000 in
theorem ggX1_draft_X1_up : GoodIn wsX1_draft wsX1_up := goodIn_r _ [11] (by decide +kernel) (by decide +kernel)
set_option maxRecDepth 20000 in
theorem gX1_draft_X1_up : GoodIn wsX1_draft (va_wsS RX1 86 yX1_up wsX1_up) := goodIn_app (goodIn_of _ (by decide +kernel)) ggX1_draft_X1_up
set_option maxRecDepth 20000 in
theorem ggX1_place_X1_in : GoodIn wsX1_place wsX1_in := goodIn_r _ [9] (by decide +kernel) (by decide +kernel)
set_option maxRecDepth 20000 in
theorem gX1_place_X1_in : GoodIn wsX1_place (va_wsS RX1 43 yX1_in wsX1_in) := goodIn_app (goodIn_of _ (by decide +kernel)) ggX1_place_X1_in
set_option maxRecDepth 20000 in
theorem ggX1_place_X1_isHeight : GoodIn wsX1_place wsX1_isHeight := goodIn_r _ [12, 13, 14, 6, 7, 8, 9] (by decide +kernel) (by decide +kernel)
set_option maxRecDepth 20000 in
theorem gX1_place_X1_isHeight : GoodIn wsX1_place (va_wsS RX1 70 yX1_isHeight wsX1_isHeight) := goodIn_app (goodIn_of _ (by decide +kernel)) ggX1_place_X1_isHeight
set_option maxRecDepth 20000 in
theorem ggX1_depth_X1_isInTable : GoodIn wsX1_depth wsX1_isInTable := goodIn_r _ [8, 9, 10, 11, 12, 7, 13, 33, 34, 35, 36, 37, 38, 39, 40, 41, 42, 43, 44] (by decide +kernel) (by decide +kernel)
set_option maxRecDepth 20000 in
theorem gX1_depth_X1_isInTable : GoodIn wsX1_depth (wsV RX1 74 RX1 yX1_isInTable wsX1_isInTable) := goodIn_app (goodIn_of _ (by decide +kernel)) ggX1_depth_X1_isInTable
set_option maxRecDepth 20000 in
theorem ggX1_depth_X1_heightAt : GoodIn wsX1_depth wsX1_heightAt := goodIn_r _ [17, 18, 19, 20, 21, 22, 23, 24, 7, 25, 10, 26, 27, 28, 29, 30, 31, 32, 33, 34, 35, 36, 37, 38, 39, 40, 41, 42, 43, 44] (by decide +kernel) (by decide +kernel)
set_option maxRecDepth 20000 in
theorem gX1_depth_X1_heightAt : GoodIn wsX1_depth (wsV RX1 77 RX1 yX1_heightAt wsX1_heightAt) := goodIn_app (goodIn_of _ (by decide +kernel)) ggX1_depth_X1_heightAt
set_option maxRecDepth 20000 in
theorem ggX1_maySail_X1_squatOf : GoodIn wsX1_maySail wsX1_squatOf := goodIn_r _ [9, 10, 2, 11, 12, 13, 14, 8, 15, 44, 45, 46, 47, 48, 49, 50, 51, 52, 53, 54, 55] (by decide +kernel) (by decide +kernel)
set_option maxRecDepth 20000 in
theorem gX1_maySail_X1_squatOf : GoodIn wsX1_maySail (wsV RX1 93 RX1 yX1_squatOf wsX1_squatOf) := goodIn_app (goodIn_of _ (by decide +kernel)) ggX1_maySail_X1_squatOf
set_option maxRecDepth 20000 in
theorem ggX1_maySail_X1_up : GoodIn wsX1_maySail wsX1_up := goodIn_r _ [15] (by decide +kernel) (by decide +kernel)
set_option maxRecDepth 20000 in
theorem gX1_maySail_X1_up : GoodIn wsX1_maySail (va_wsS RX1 86 yX1_up wsX1_up) := goodIn_app (goodIn_of _ (by decide +kernel)) ggX1_maySail_X1_up
set_option maxRecDepth 20000 in
theorem ggX1_maySail_X1_isInTable : GoodIn wsX1_maySail wsX1_isInTable := goodIn_r _ [19, 20, 21, 22, 23, 8, 24, 44, 45, 46, 47, 48, 49, 50, 51, 52, 53, 54, 55] (by decide +kernel) (by decide +kernel)
set_option maxRecDepth 20000 in
theorem gX1_maySail_X1_isInTable : GoodIn wsX1_maySail (wsV RX1 74 RX1 yX1_isInTable wsX1_isInTable) := goodIn_app (goodIn_of _ (by decide +kernel)) ggX1_maySail_X1_isInTable
set_option maxRecDepth 20000 in
theorem ggX1_maySail_X1_heightAt : GoodIn wsX1_maySail wsX1_heightAt := goodIn_r _ [28, 29, 30, 31, 32, 33, 34, 35, 8, 36, 21, 37, 38, 39, 40, 41, 42, 43, 44, 45, 46, 47, 48, 49, 50, 51, 52, 53, 54, 55] (by decide +kernel) (by decide +kernel)
set_option maxRecDepth 20000 in
theorem gX1_maySail_X1_heightAt : GoodIn wsX1_maySail (wsV RX1 77 RX1 yX1_heightAt wsX1_heightAt) := goodIn_app (goodIn_of _ (by decide +kernel)) ggX1_maySail_X1_heightAt
set_option maxRecDepth 20000 in
theorem ggX1_sail_X1_isInTable : GoodIn wsX1_sail wsX1_isInTable := goodIn_r _ [10, 5, 4, 11, 12, 9, 13, 55, 56, 57, 58, 59, 60, 61, 62, 63, 64, 65, 66] (by decide +kernel) (by decide +kernel)
set_option maxRecDepth 20000 in
theorem gX1_sail_X1_isInTable : GoodIn wsX1_sail (wsV RX1 74 RX1 yX1_isInTable wsX1_isInTable) := goodIn_app (goodIn_of _ (by decide +kernel)) ggX1_sail_X1_isInTable
set_option maxRecDepth 20000 in
theorem ggX1_sail_X1_isHeight : GoodIn wsX1_sail wsX1_isHeight := goodIn_r _ [16, 17, 18, 11, 12, 9, 13] (by decide +kernel) (by decide +kernel)
set_option maxRecDepth 20000 in
theorem gX1_sail_X1_isHeight : GoodIn wsX1_sail (va_wsS RX1 70 yX1_isHeight wsX1_isHeight) := goodIn_app (goodIn_of _ (by decide +kernel)) ggX1_sail_X1_isHeight
set_option maxRecDepth 20000 in
theorem ggX1_sail_X1_in : GoodIn wsX1_sail wsX1_in := goodIn_r _ [13] (by decide +kernel) (by decide +kernel)
set_option maxRecDepth 20000 in
theorem gX1_sail_X1_in : GoodIn wsX1_sail (va_wsS RX1 43 yX1_in wsX1_in) := goodIn_app (goodIn_of _ (by decide +kernel)) ggX1_sail_X1_in
set_option maxRecDepth 20000 in
theorem ggX1_sail_X1_maySail : GoodIn wsX1_sail wsX1_maySail := goodIn_r _ [22, 2, 23, 24, 25, 26, 27, 28, 9, 29, 30, 31, 32, 33, 34, 35, 6, 7, 8, 10, 5, 4, 11, 12, 13, 36, 37, 38, 39, 40, 41, 42, 43, 44, 45, 46, 47, 48, 49, 50, 51, 52, 53, 54, 55, 56, 57, 58, 59, 60, 61, 62, 63, 64, 65, 66] (by decide +kernel) (by decide +kernel)
set_option maxRecDepth 20000 in
theorem gX1_sail_X1_maySail : GoodIn wsX1_sail (wsV RX1 105 RX1 yX1_maySail wsX1_maySail) := goodIn_app (goodIn_of _ (by decide +kernel)) ggX1_sail_X1_maySail
