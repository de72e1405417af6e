set_option maxRecDepth 20000 in
theorem ggX0_turn_X0_isWithin : GoodIn wsX0_turn wsX0_isWithin := goodIn_r _ [12] (by decide +kernel) (by decide +kernel)
set_option maxRecDepth 20000 in
theorem gX0_turn_X0_isWithin : GoodIn wsX0_turn (va_wsS RX0 40 yX0_isWithin wsX0_isWithin) := goodIn_app (goodIn_of _ (by decide +kernel)) ggX0_turn_X0_isWithin
set_option maxRecDepth 20000 in
theorem ggX0_turn_X0_isLevel : GoodIn wsX0_turn wsX0_isLevel := goodIn_r _ [15, 16, 17, 9, 10, 11, 12] (by decide +kernel) (by decide +kernel)
set_option maxRecDepth 20000 in
theorem gX0_turn_X0_isLevel : GoodIn wsX0_turn (va_wsS RX0 44 yX0_isLevel wsX0_isLevel) := goodIn_app (goodIn_of _ (by decide +kernel)) ggX0_turn_X0_isLevel
set_option maxRecDepth 20000 in
theorem ggX0_turn_X0_alternates : GoodIn wsX0_turn wsX0_alternates := goodIn_r _ [21, 6, 8, 22, 23, 24, 25, 26, 27, 28, 29, 30] (by decide +kernel) (by decide +kernel)
set_option maxRecDepth 20000 in
theorem gX0_turn_X0_alternates : GoodIn wsX0_turn (wsV RX0 62 RX0 yX0_alternates wsX0_alternates) := goodIn_app (goodIn_of _ (by decide +kernel)) ggX0_turn_X0_alternates
set_option maxRecDepth 20000 in
theorem ggX0_height_X0_isInTable : GoodIn wsX0_height wsX0_isInTable := goodIn_r _ [7, 8, 9, 10, 6, 11, 12, 13, 14, 15, 16, 17, 18, 19, 20, 21, 22, 23, 24, 25, 57, 58, 59, 60, 61, 62, 63, 64, 65] (by decide +kernel) (by decide +kernel)
set_option maxRecDepth 20000 in
theorem gX0_height_X0_isInTable : GoodIn wsX0_height (wsV RX0 65 RX0 yX0_isInTable wsX0_isInTable) := goodIn_app (goodIn_of _ (by decide +kernel)) ggX0_height_X0_isInTable
set_option maxRecDepth 20000 in
theorem ggX0_height_X0_heightAt : GoodIn wsX0_height wsX0_heightAt := goodIn_r _ [29, 30, 31, 32, 6, 33, 17, 12, 34, 35, 36, 37, 38, 39, 40, 41, 42, 43, 44, 45, 46, 47, 48, 49, 50, 51, 52, 53, 54, 55, 56, 57, 58, 59, 60, 61, 62, 63, 64, 65] (by decide +kernel) (by decide +kernel)
set_option maxRecDepth 20000 in
theorem gX0_height_X0_heightAt : GoodIn wsX0_height (wsV RX0 70 RX0 yX0_heightAt wsX0_heightAt) := goodIn_app (goodIn_of _ (by decide +kernel)) ggX0_height_X0_heightAt
set_option maxRecDepth 20000 in
theorem ggX0_observe_X0_isInTable : GoodIn wsX0_observe wsX0_isInTable := goodIn_r _ [12, 13, 14, 15, 11, 16, 17, 18, 19, 20, 21, 22, 23, 24, 25, 26, 27, 28, 29, 30, 54, 55, 56, 57, 58, 59, 60, 61, 62] (by decide +kernel) (by decide +kernel)
set_option maxRecDepth 20000 in
theorem gX0_observe_X0_isInTable : GoodIn wsX0_observe (wsV RX0 65 RX0 yX0_isInTable wsX0_isInTable) := goodIn_app (goodIn_of _ (by decide +kernel)) ggX0_observe_X0_isInTable
set_option maxRecDepth 20000 in
theorem ggX0_observe_X0_isLevel : GoodIn wsX0_observe wsX0_isLevel := goodIn_r _ [33, 34, 35, 28, 29, 11, 30] (by decide +kernel) (by decide +kernel)
set_option maxRecDepth 20000 in
theorem gX0_observe_X0_isLevel : GoodIn wsX0_observe (va_wsS RX0 44 yX0_isLevel wsX0_isLevel) := goodIn_app (goodIn_of _ (by decide +kernel)) ggX0_observe_X0_isLevel
set_option maxRecDepth 20000 in
theorem ggX0_observe_X0_tableHeight : GoodIn wsX0_observe wsX0_tableHeight := goodIn_r _ [39, 22, 17, 40, 41, 42, 43, 11, 44, 45, 46, 47, 48, 49, 50, 51, 52, 53, 54, 55, 56, 57, 58, 59, 60, 61, 62] (by decide +kernel) (by decide +kernel)
set_option maxRecDepth 20000 in
theorem gX0_observe_X0_tableHeight : GoodIn wsX0_observe (wsV RX0 80 RX0 yX0_tableHeight wsX0_tableHeight) := goodIn_app (goodIn_of _ (by decide +kernel)) ggX0_observe_X0_tableHeight
set_option maxRecDepth 20000 in
theorem ggX0_span_X0_isInTable : GoodIn wsX0_span wsX0_isInTable := goodIn_r _ [8, 9, 10, 11, 7, 12, 13, 14, 15, 16, 17, 18, 19, 20, 21, 22, 23, 24, 25, 26, 88, 89, 90, 91, 92, 93, 94, 95, 96] (by decide +kernel) (by decide +kernel)
set_option maxRecDepth 20000 in
theorem gX0_span_X0_isInTable : GoodIn wsX0_span (wsV RX0 65 RX0 yX0_isInTable wsX0_isInTable) := goodIn_app (goodIn_of _ (by decide +kernel)) ggX0_span_X0_isInTable
set_option maxRecDepth 20000 in
theorem ggX0_span_X0_isLevel : GoodIn wsX0_span wsX0_isLevel := goodIn_r _ [29, 30, 31, 24, 25, 7, 26] (by decide +kernel) (by decide +kernel)
set_option maxRecDepth 20000 in
theorem gX0_span_X0_isLevel : GoodIn wsX0_span (va_wsS RX0 44 yX0_isLevel wsX0_isLevel) := goodIn_app (goodIn_of _ (by decide +kernel)) ggX0_span_X0_isLevel
set_option maxRecDepth 20000 in
theorem ggX0_span_X0_isWithin : GoodIn wsX0_span wsX0_isWithin := goodIn_r _ [26] (by decide +kernel) (by decide +kernel)
set_option maxRecDepth 20000 in
theorem gX0_span_X0_isWithin : GoodIn wsX0_span (va_wsS RX0 40 yX0_isWithin wsX0_isWithin) := goodIn_app (goodIn_of _ (by decide +kernel)) ggX0_span_X0_isWithin
set_option maxRecDepth 20000 in
theorem ggX0_span_X0_longestSpan : GoodIn wsX0_span wsX0_longestSpan := goodIn_r _ [35, 20, 21, 22, 7, 23, 18, 13, 19, 9, 10, 11, 12, 36, 37, 38, 39, 40, 41, 42, 43, 44, 45, 46, 47, 48, 49, 50, 51, 52, 53, 54, 55, 56, 57, 58, 59, 60, 61, 62, 63, 64, 65, 66, 67, 68, 69, 70, 71, 72, 73, 74, 75, 76, 77, 78, 79, 80, 81, 82, 83, 84, 85, 86, 87, 88, 89, 90, 91, 92, 93, 94, 95, 96] (by decide +kernel) (by decide +kernel)
set_option maxRecDepth 20000 in
theorem gX0_span_X0_longestSpan : GoodIn wsX0_span (wsV RX0 87 RX0 yX0_longestSpan wsX0_longestSpan) := goodIn_app (goodIn_of _ (by decide +kernel)) ggX0_span_X0_longestSpan
set_option maxRecDepth 20000 in
theorem ggX0_span_X0_nextSecond : GoodIn wsX0_span wsX0_nextSecond := goodIn_r _ [39, 20, 21, 22, 7, 23, 18, 13, 19, 9, 10, 11, 12, 40, 41, 42, 43, 44, 45, 46, 47, 48, 49, 50, 51, 52, 53, 54, 55, 56, 57, 58, 59, 60, 61, 62, 63, 64, 65, 66, 67, 68, 69, 70, 71, 72, 73, 74, 75, 76, 77, 78, 79, 80, 81, 82, 83, 84, 85, 86, 87, 88, 89, 90, 91, 92, 93, 94, 95, 96] (by decide +kernel) (by decide +kernel)
set_option maxRecDepth 20000 in
theorem gX0_span_X0_nextSecond : GoodIn wsX0_span (wsV RX0 91 RX0 yX0_nextSecond wsX0_nextSecond) := goodIn_app (goodIn_of _ (by decide +kernel)) ggX0_span_X0_nextSecond
set_option maxRecDepth 20000 in
theorem ggX0_span_X0_lastSecond : GoodIn wsX0_span wsX0_lastSecond := goodIn_r _ [23, 18, 13, 19, 9, 10, 11, 7, 12, 88, 89, 90, 91, 92, 93, 94, 95, 96] (by decide +kernel) (by decide +kernel)
set_option maxRecDepth 20000 in
theorem gX0_span_X0_lastSecond : GoodIn wsX0_span (wsV RX0 95 RX0 yX0_lastSecond wsX0_lastSecond) := goodIn_app (goodIn_of _ (by decide +kernel)) ggX0_span_X0_lastSecond
set_option maxRecDepth 20000 in
theorem ggX0_squat_X0_isWithin : GoodIn wsX0_squat wsX0_isWithin := goodIn_r _ [8] (by decide +kernel) (by decide +kernel)
set_option maxRecDepth 20000 in
theorem gX0_squat_X0_isWithin : GoodIn wsX0_squat (va_wsS RX0 40 yX0_isWithin wsX0_isWithin) := goodIn_app (goodIn_of _ (by decide +kernel)) ggX0_squat_X0_isWithin
set_option maxRecDepth 20000 in
theorem ggX0_squat_X0_squatOf : GoodIn wsX0_squat wsX0_squatOf := goodIn_r _ [11, 12, 13, 14, 7, 15, 16, 17, 18, 19, 20] (by decide +kernel) (by decide +kernel)
set_option maxRecDepth 20000 in
theorem gX0_squat_X0_squatOf : GoodIn wsX0_squat (va_wsS RX0 105 yX0_squatOf wsX0_squatOf) := goodIn_app (goodIn_of _ (by decide +kernel)) ggX0_squat_X0_squatOf
set_option maxRecDepth 20000 in
theorem ggX0_passing_X0_isWithin : GoodIn wsX0_passing wsX0_isWithin := goodIn_r _ [10] (by decide +kernel) (by decide +kernel)
set_option maxRecDepth 20000 in
theorem gX0_passing_X0_isWithin : GoodIn wsX0_passing (va_wsS RX0 40 yX0_isWithin wsX0_isWithin) := goodIn_app (goodIn_of _ (by decide +kernel)) ggX0_passing_X0_isWithin
set_option maxRecDepth 20000 in
theorem ggX0_passing_X0_secondsFor : GoodIn wsX0_passing wsX0_secondsFor := goodIn_r _ [13, 14, 15, 16, 9, 17] (by decide +kernel) (by decide +kernel)
set_option maxRecDepth 20000 in
theorem gX0_passing_X0_secondsFor : GoodIn wsX0_passing (va_wsS RX0 117 yX0_secondsFor wsX0_secondsFor) := goodIn_app (goodIn_of _ (by decide +kernel)) ggX0_passing_X0_secondsFor
set_option maxRecDepth 20000 in
theorem ggX0_draft_X0_isWithin : GoodIn wsX0_draft wsX0_isWithin := goodIn_r _ [7] (by decide +kernel) (by decide +kernel)
set_option maxRecDepth 20000 in
theorem gX0_draft_X0_isWithin : GoodIn wsX0_draft (va_wsS RX0 40 yX0_isWithin wsX0_isWithin) := goodIn_app (goodIn_of _ (by decide +kernel)) ggX0_draft_X0_isWithin
set_option maxRecDepth 20000 in
theorem ggX0_draft_X0_isDensity : GoodIn wsX0_draft wsX0_isDensity := goodIn_r _ [10, 11, 12, 4, 5, 6, 7] (by decide +kernel) (by decide +kernel)
set_option maxRecDepth 20000 in
theorem gX0_draft_X0_isDensity : GoodIn wsX0_draft (va_wsS RX0 129 yX0_isDensity wsX0_isDensity) := goodIn_app (goodIn_of _ (by decide +kernel)) ggX0_draft_X0_isDensity
set_option maxRecDepth 20000 in
theorem ggX0_draft_X0_dividedUp : GoodIn wsX0_draft wsX0_dividedUp := goodIn_r _ [15] (by decide +kernel) (by decide +kernel)
set_option maxRecDepth 20000 in
theorem gX0_draft_X0_dividedUp : GoodIn wsX0_draft (va_wsS RX0 134 yX0_dividedUp wsX0_dividedUp) := goodIn_app (goodIn_of _ (by decide +kernel)) ggX0_draft_X0_dividedUp
set_option maxRecDepth 20000 in
theorem ggX0_place_X0_isWithin : GoodIn wsX0_place wsX0_isWithin := goodIn_r _ [12] (by decide +kernel) (by decide +kernel)
set_option maxRecDepth 20000 in
theorem gX0_place_X0_isWithin : GoodIn wsX0_place (va_wsS RX0 40 yX0_isWithin wsX0_isWithin) := goodIn_app (goodIn_of _ (by decide +kernel)) ggX0_place_X0_isWithin
set_option maxRecDepth 20000 in
theorem ggX0_place_X0_isLevel : GoodIn wsX0_place wsX0_isLevel := goodIn_r _ [15, 16, 17, 9, 10, 11, 12] (by decide +kernel) (by decide +kernel)
set_option maxRecDepth 20000 in
theorem gX0_place_X0_isLevel : GoodIn wsX0_place (va_wsS RX0 44 yX0_isLevel wsX0_isLevel) := goodIn_app (goodIn_of _ (by decide +kernel)) ggX0_place_X0_isLevel
set_option maxRecDepth 20000 in
theorem ggX0_depth_X0_isInTable : GoodIn wsX0_depth wsX0_isInTable := goodIn_r _ [11, 12, 13, 14, 10, 15, 16, 17, 18, 19, 20, 21, 22, 23, 24, 25, 26, 27, 28, 29, 61, 62, 63, 64, 65, 66, 67, 68, 69] (by decide +kernel) (by decide +kernel)
set_option maxRecDepth 20000 in
theorem gX0_depth_X0_isInTable : GoodIn wsX0_depth (wsV RX0 65 RX0 yX0_isInTable wsX0_isInTable) := goodIn_app (goodIn_of _ (by decide +kernel)) ggX0_depth_X0_isInTable
set_option maxRecDepth 20000 in
theorem ggX0_depth_X0_heightAt : GoodIn wsX0_depth wsX0_heightAt := goodIn_r _ [33, 34, 35, 36, 10, 37, 21, 16, 38, 39, 40, 41, 42, 43, 44, 45, 46, 47, 48, 49, 50, 51, 52, 53, 54, 55, 56, 57, 58, 59, 60, 61, 62, 63, 64, 65, 66, 67, 68, 69] (by decide +kernel) (by decide +kernel)
set_option maxRecDepth 20000 in
theorem gX0_depth_X0_heightAt : GoodIn wsX0_depth (wsV RX0 70 RX0 yX0_heightAt wsX0_heightAt) := goodIn_app (goodIn_of _ (by decide +kernel)) ggX0_depth_X0_heightAt
set_option maxRecDepth 20000 in
theorem ggX0_sail_X0_isInTable : GoodIn wsX0_sail wsX0_isInTable := goodIn_r _ [13, 14, 15, 16, 12, 17, 18, 19, 20, 21, 22, 23, 24, 25, 26, 27, 28, 29, 30, 31, 115, 116, 117, 118, 119, 120, 121, 122, 123] (by decide +kernel) (by decide +kernel)
set_option maxRecDepth 20000 in
theorem gX0_sail_X0_isInTable : GoodIn wsX0_sail (wsV RX0 65 RX0 yX0_isInTable wsX0_isInTable) := goodIn_app (goodIn_of _ (by decide +kernel)) ggX0_sail_X0_isInTable
set_option maxRecDepth 20000 in
theorem ggX0_sail_X0_isLevel : GoodIn wsX0_sail wsX0_isLevel := goodIn_r _ [34, 35, 36, 29, 30, 12, 31] (by decide +kernel) (by decide +kernel)
set_option maxRecDepth 20000 in
theorem gX0_sail_X0_isLevel : GoodIn wsX0_sail (va_wsS RX0 44 yX0_isLevel wsX0_isLevel) := goodIn_app (goodIn_of _ (by decide +kernel)) ggX0_sail_X0_isLevel
set_option maxRecDepth 20000 in
theorem ggX0_sail_X0_isWithin : GoodIn wsX0_sail wsX0_isWithin := goodIn_r _ [31] (by decide +kernel) (by decide +kernel)
set_option maxRecDepth 20000 in
theorem gX0_sail_X0_isWithin : GoodIn wsX0_sail (va_wsS RX0 40 yX0_isWithin wsX0_isWithin) := goodIn_app (goodIn_of _ (by decide +kernel)) ggX0_sail_X0_isWithin
set_option maxRecDepth 20000 in
theorem ggX0_sail_X0_squatOf : GoodIn wsX0_sail wsX0_squatOf := goodIn_r _ [39, 40, 41, 42, 12, 43, 44, 45, 46, 47, 48] (by decide +kernel) (by decide +kernel)
set_option maxRecDepth 20000 in
theorem gX0_sail_X0_squatOf : GoodIn wsX0_sail (va_wsS RX0 105 yX0_squatOf wsX0_squatOf) := goodIn_app (goodIn_of _ (by decide +kernel)) ggX0_sail_X0_squatOf
set_option maxRecDepth 20000 in
theorem ggX0_sail_X0_firstSailing : GoodIn wsX0_sail wsX0_firstSailing := goodIn_r _ [52, 8, 53, 54, 25, 26, 27, 12, 28, 23, 18, 24, 14, 15, 16, 17, 55, 56, 57, 58, 46, 47, 48, 59, 60, 61, 62, 63, 64, 65, 66, 67, 68, 69, 70, 71, 72, 73, 74, 75, 76, 77, 78, 79, 80, 81, 82, 83, 84, 85, 86, 87, 88, 89, 90, 91, 92, 93, 94, 95, 96, 97, 98, 99, 100, 101, 102, 103, 104, 105, 106, 107, 108, 109, 110, 115, 116, 117, 118, 119, 120, 121, 122, 123] (by decide +kernel) (by decide +kernel)
set_option maxRecDepth 20000 in
theorem gX0_sail_X0_firstSailing : GoodIn wsX0_sail (wsV RX0 154 RX0 yX0_firstSailing wsX0_firstSailing) := goodIn_app (goodIn_of _ (by decide +kernel)) ggX0_sail_X0_firstSailing
set_option maxRecDepth 20000 in
theorem ggX0_sail_X0_lastSecond : GoodIn wsX0_sail wsX0_lastSecond := goodIn_r _ [28, 23, 18, 24, 14, 15, 16, 12, 17, 115, 116, 117, 118, 119, 120, 121, 122, 123] (by decide +kernel) (by decide +kernel)
set_option maxRecDepth 20000 in
theorem gX0_sail_X0_lastSecond : GoodIn wsX0_sail (wsV RX0 95 RX0 yX0_lastSecond wsX0_lastSecond) := goodIn_app (goodIn_of _ (by decide +kernel)) ggX0_sail_X0_lastSecond
set_option maxRecDepth 20000 in
theorem ggX0_sail_X0_lastSailing : GoodIn wsX0_sail wsX0_lastSailing := goodIn_r _ [114, 8, 53, 54, 98, 99, 100, 101, 25, 26, 27, 12, 28, 23, 18, 24, 14, 15, 16, 17, 55, 56, 57, 58, 46, 47, 48, 59, 60, 61, 62, 63, 64, 65, 66, 67, 68, 69, 70, 71, 72, 73, 74, 75, 76, 77, 78, 79, 80, 81, 82, 83, 84, 85, 86, 87, 88, 89, 90, 91, 92, 93, 94, 95, 96, 97, 102, 103, 104, 105, 106, 107, 108, 109, 110, 115, 116, 117, 118, 119, 120, 121, 122, 123] (by decide +kernel) (by decide +kernel)
set_option maxRecDepth 20000 in
theorem gX0_sail_X0_lastSailing : GoodIn wsX0_sail (wsV RX0 158 RX0 yX0_lastSailing wsX0_lastSailing) := goodIn_app (goodIn_of _ (by decide +kernel)) ggX0_sail_X0_lastSailing
set_option maxRecDepth 20000 in
theorem ggX0_count_X0_firstSecond : GoodIn wsX0_count wsX0_firstSecond := goodIn_r _ [8, 9, 10, 11, 12, 13, 7, 14, 1, 19, 20, 21, 22, 23, 24, 25, 26, 27] (by decide +kernel) (by decide +kernel)
set_option maxRecDepth 20000 in
theorem gX0_count_X0_firstSecond : GoodIn wsX0_count (wsV RX0 163 RX0 yX0_firstSecond wsX0_firstSecond) := goodIn_app (goodIn_of _ (by decide +kernel)) ggX0_count_X0_firstSecond
set_option maxRecDepth 20000 in
theorem ggX0_count_X0_lastSecond : GoodIn wsX0_count wsX0_lastSecond := goodIn_r _ [18, 9, 1, 10, 11, 12, 13, 7, 14, 19, 20, 21, 22, 23, 24, 25, 26, 27] (by decide +kernel) (by decide +kernel)
set_option maxRecDepth 20000 in
theorem gX0_count_X0_lastSecond : GoodIn wsX0_count (wsV RX0 95 RX0 yX0_lastSecond wsX0_lastSecond) := goodIn_app (goodIn_of _ (by decide +kernel)) ggX0_count_X0_lastSecond
set_option maxRecDepth 20000 in
theorem ggX0_isLevel_X0_isWithin : GoodIn wsX0_isLevel wsX0_isWithin := goodIn_r _ [6] (by decide +kernel) (by decide +kernel)
set_option maxRecDepth 20000 in
theorem gX0_isLevel_X0_isWithin : GoodIn wsX0_isLevel (va_wsS RX0 40 yX0_isWithin wsX0_isWithin) := goodIn_app (goodIn_of _ (by decide +kernel)) ggX0_isLevel_X0_isWithin
set_option maxRecDepth 20000 in
theorem ggX0_isDensity_X0_isWithin : GoodIn wsX0_isDensity wsX0_isWithin := goodIn_r _ [6] (by decide +kernel) (by decide +kernel)
set_option maxRecDepth 20000 in
theorem gX0_isDensity_X0_isWithin : GoodIn wsX0_isDensity (va_wsS RX0 40 yX0_isWithin wsX0_isWithin) := goodIn_app (goodIn_of _ (by decide +kernel)) ggX0_isDensity_X0_isWithin
set_option maxRecDepth 20000 in
theorem ggX0_secondsFor_X0_dividedUp : GoodIn wsX0_secondsFor wsX0_dividedUp := goodIn_r _ [5] (by decide +kernel) (by decide +kernel)
set_option maxRecDepth 20000 in
theorem gX0_secondsFor_X0_dividedUp : GoodIn wsX0_secondsFor (va_wsS RX0 134 yX0_dividedUp wsX0_dividedUp) := goodIn_app (goodIn_of _ (by decide +kernel)) ggX0_secondsFor_X0_dividedUp
set_option maxRecDepth 20000 in
theorem ggX0_squatOf_X0_squatThousandths : GoodIn wsX0_squatOf wsX0_squatThousandths := goodIn_r _ [5, 6, 7] (by decide +kernel) (by decide +kernel)
set_option maxRecDepth 20000 in
theorem gX0_squatOf_X0_squatThousandths : GoodIn wsX0_squatOf (va_wsS RX0 176 yX0_squatThousandths wsX0_squatThousandths) := goodIn_app (goodIn_of _ (by decide +kernel)) ggX0_squatOf_X0_squatThousandths
set_option maxRecDepth 20000 in
theorem ggX0_squatOf_X0_dividedUp : GoodIn wsX0_squatOf wsX0_dividedUp := goodIn_r _ [10] (by decide +kernel) (by decide +kernel)
set_option maxRecDepth 20000 in
theorem gX0_squatOf_X0_dividedUp : GoodIn wsX0_squatOf (va_wsS RX0 134 yX0_dividedUp wsX0_dividedUp) := goodIn_app (goodIn_of _ (by decide +kernel)) ggX0_squatOf_X0_dividedUp
set_option maxRecDepth 20000 in
theorem ggX0_firstSecond_X0_hasTable : GoodIn wsX0_firstSecond wsX0_hasTable := goodIn_r _ [7, 8, 9, 10, 11, 12, 13, 14, 15, 16, 17] (by decide +kernel) (by decide +kernel)
set_option maxRecDepth 20000 in
theorem gX0_firstSecond_X0_hasTable : GoodIn wsX0_firstSecond (wsV RX0 186 RX0 yX0_hasTable wsX0_hasTable) := goodIn_app (goodIn_of _ (by decide +kernel)) ggX0_firstSecond_X0_hasTable
set_option maxRecDepth 20000 in
theorem ggX0_lastSecond_X0_hasTable : GoodIn wsX0_lastSecond wsX0_hasTable := goodIn_r _ [8, 2, 9, 10, 11, 12, 13, 14, 15, 16, 17] (by decide +kernel) (by decide +kernel)
set_option maxRecDepth 20000 in
theorem gX0_lastSecond_X0_hasTable : GoodIn wsX0_lastSecond (wsV RX0 186 RX0 yX0_hasTable wsX0_hasTable) := goodIn_app (goodIn_of _ (by decide +kernel)) ggX0_lastSecond_X0_hasTable
set_option maxRecDepth 20000 in
theorem ggX0_isInTable_X0_hasTable : GoodIn wsX0_isInTable wsX0_hasTable := goodIn_r _ [5, 6, 20, 21, 22, 23, 24, 25, 26, 27, 28] (by decide +kernel) (by decide +kernel)
set_option maxRecDepth 20000 in
theorem gX0_isInTable_X0_hasTable : GoodIn wsX0_isInTable (wsV RX0 186 RX0 yX0_hasTable wsX0_hasTable) := goodIn_app (goodIn_of _ (by decide +kernel)) ggX0_isInTable_X0_hasTable
set_option maxRecDepth 20000 in
theorem ggX0_isInTable_X0_firstSecond : GoodIn wsX0_isInTable wsX0_firstSecond := goodIn_r _ [10, 11, 12, 1, 2, 3, 4, 5, 6, 20, 21, 22, 23, 24, 25, 26, 27, 28] (by decide +kernel) (by decide +kernel)
set_option maxRecDepth 20000 in
theorem gX0_isInTable_X0_firstSecond : GoodIn wsX0_isInTable (wsV RX0 163 RX0 yX0_firstSecond wsX0_firstSecond) := goodIn_app (goodIn_of _ (by decide +kernel)) ggX0_isInTable_X0_firstSecond
set_option maxRecDepth 20000 in
theorem ggX0_isInTable_X0_lastSecond : GoodIn wsX0_isInTable wsX0_lastSecond := goodIn_r _ [16, 11, 6, 12, 1, 2, 3, 4, 5, 20, 21, 22, 23, 24, 25, 26, 27, 28] (by decide +kernel) (by decide +kernel)
set_option maxRecDepth 20000 in
theorem gX0_isInTable_X0_lastSecond : GoodIn wsX0_isInTable (wsV RX0 95 RX0 yX0_lastSecond wsX0_lastSecond) := goodIn_app (goodIn_of _ (by decide +kernel)) ggX0_isInTable_X0_lastSecond
set_option maxRecDepth 20000 in
theorem ggX0_isInTable_X0_isWithin : GoodIn wsX0_isInTable wsX0_isWithin := goodIn_r _ [19] (by decide +kernel) (by decide +kernel)
set_option maxRecDepth 20000 in
theorem gX0_isInTable_X0_isWithin : GoodIn wsX0_isInTable (va_wsS RX0 40 yX0_isWithin wsX0_isWithin) := goodIn_app (goodIn_of _ (by decide +kernel)) ggX0_isInTable_X0_isWithin
set_option maxRecDepth 20000 in
theorem ggX0_heightAt_X0_tableHeight : GoodIn wsX0_heightAt wsX0_tableHeight := goodIn_r _ [5, 6, 7, 8, 9, 10, 11, 4, 12, 13, 14, 15, 16, 17, 18, 19, 20, 21, 31, 32, 33, 34, 35, 36, 37, 38, 39] (by decide +kernel) (by decide +kernel)
set_option maxRecDepth 20000 in
theorem gX0_heightAt_X0_tableHeight : GoodIn wsX0_heightAt (wsV RX0 80 RX0 yX0_tableHeight wsX0_tableHeight) := goodIn_app (goodIn_of _ (by decide +kernel)) ggX0_heightAt_X0_tableHeight
set_option maxRecDepth 20000 in
theorem ggX0_heightAt_X0_correction : GoodIn wsX0_heightAt wsX0_correction := goodIn_r _ [25, 26, 27, 28, 29, 30, 10, 11, 4, 12, 31, 32, 33, 34, 35, 36, 37, 38, 39] (by decide +kernel) (by decide +kernel)
set_option maxRecDepth 20000 in
theorem gX0_heightAt_X0_correction : GoodIn wsX0_heightAt (wsV RX0 192 RX0 yX0_correction wsX0_correction) := goodIn_app (goodIn_of _ (by decide +kernel)) ggX0_heightAt_X0_correction
set_option maxRecDepth 20000 in
theorem ggX0_tableHeight_X0_lastNotBehind : GoodIn wsX0_tableHeight wsX0_lastNotBehind := goodIn_r _ [8] (by decide +kernel) (by decide +kernel)
set_option maxRecDepth 20000 in
theorem gX0_tableHeight_X0_lastNotBehind : GoodIn wsX0_tableHeight (va_wsS RX0 195 yX0_lastNotBehind wsX0_lastNotBehind) := goodIn_app (goodIn_of _ (by decide +kernel)) ggX0_tableHeight_X0_lastNotBehind
set_option maxRecDepth 20000 in
theorem ggX0_tableHeight_X0_cosinePart : GoodIn wsX0_tableHeight wsX0_cosinePart := goodIn_r _ [11, 4, 12, 13] (by decide +kernel) (by decide +kernel)
set_option maxRecDepth 20000 in
theorem gX0_tableHeight_X0_cosinePart : GoodIn wsX0_tableHeight (va_wsS RX0 199 yX0_cosinePart wsX0_cosinePart) := goodIn_app (goodIn_of _ (by decide +kernel)) ggX0_tableHeight_X0_cosinePart
set_option maxRecDepth 20000 in
theorem ggX0_tableHeight_J9_floorDiv_f86c9 : GoodIn wsX0_tableHeight wsJ9_floorDiv_f86c9 := goodIn_r _ [17] (by decide +kernel) (by decide +kernel)
set_option maxRecDepth 20000 in
theorem gX0_tableHeight_J9_floorDiv_f86c9 : GoodIn wsX0_tableHeight (va_wsS RX0 204 yJ9_floorDiv_f86c9 wsJ9_floorDiv_f86c9) := goodIn_app (goodIn_of _ (by decide +kernel)) ggX0_tableHeight_J9_floorDiv_f86c9
set_option maxRecDepth 20000 in
theorem ggX0_correction_X0_lastNotBehind : GoodIn wsX0_correction wsX0_lastNotBehind := goodIn_r _ [9] (by decide +kernel) (by decide +kernel)
set_option maxRecDepth 20000 in
theorem gX0_correction_X0_lastNotBehind : GoodIn wsX0_correction (va_wsS RX0 195 yX0_lastNotBehind wsX0_lastNotBehind) := goodIn_app (goodIn_of _ (by decide +kernel)) ggX0_correction_X0_lastNotBehind
set_option maxRecDepth 20000 in
theorem ggX0_stretchEnd_X0_lastNotBehind : GoodIn wsX0_stretchEnd wsX0_lastNotBehind := goodIn_r _ [10] (by decide +kernel) (by decide +kernel)
set_option maxRecDepth 20000 in
theorem gX0_stretchEnd_X0_lastNotBehind : GoodIn wsX0_stretchEnd (va_wsS RX0 195 yX0_lastNotBehind wsX0_lastNotBehind) := goodIn_app (goodIn_of _ (by decide +kernel)) ggX0_stretchEnd_X0_lastNotBehind
set_option maxRecDepth 20000 in
theorem ggX0_stretchEnd_X0_lastSecond : GoodIn wsX0_stretchEnd wsX0_lastSecond := goodIn_r _ [14, 1, 2, 15, 16, 17, 18, 9, 19, 28, 29, 30, 31, 32, 33, 34, 35, 36] (by decide +kernel) (by decide +kernel)
set_option maxRecDepth 20000 in
theorem gX0_stretchEnd_X0_lastSecond : GoodIn wsX0_stretchEnd (wsV RX0 95 RX0 yX0_lastSecond wsX0_lastSecond) := goodIn_app (goodIn_of _ (by decide +kernel)) ggX0_stretchEnd_X0_lastSecond
set_option maxRecDepth 20000 in
theorem ggX0_stretchEnd_X0_correctionEnd : GoodIn wsX0_stretchEnd wsX0_correctionEnd := goodIn_r _ [23, 24, 25, 26, 27, 3, 4, 5, 6, 7, 8, 9, 10, 28, 29, 30, 31, 32, 33, 34, 35, 36] (by decide +kernel) (by decide +kernel)
set_option maxRecDepth 20000 in
theorem gX0_stretchEnd_X0_correctionEnd : GoodIn wsX0_stretchEnd (wsV RX0 215 RX0 yX0_correctionEnd wsX0_correctionEnd) := goodIn_app (goodIn_of _ (by decide +kernel)) ggX0_stretchEnd_X0_correctionEnd
set_option maxRecDepth 20000 in
theorem ggX0_correctionEnd_X0_lastNotBehind : GoodIn wsX0_correctionEnd wsX0_lastNotBehind := goodIn_r _ [12] (by decide +kernel) (by decide +kernel)
set_option maxRecDepth 20000 in
theorem gX0_correctionEnd_X0_lastNotBehind : GoodIn wsX0_correctionEnd (va_wsS RX0 195 yX0_lastNotBehind wsX0_lastNotBehind) := goodIn_app (goodIn_of _ (by decide +kernel)) ggX0_correctionEnd_X0_lastNotBehind
set_option maxRecDepth 20000 in
theorem ggX0_nextSecond_X0_lastSecond : GoodIn wsX0_nextSecond wsX0_lastSecond := goodIn_r _ [5, 6, 7, 8, 9, 10, 11, 4, 12, 61, 62, 63, 64, 65, 66, 67, 68, 69] (by decide +kernel) (by decide +kernel)
set_option maxRecDepth 20000 in
theorem gX0_nextSecond_X0_lastSecond : GoodIn wsX0_nextSecond (wsV RX0 95 RX0 yX0_lastSecond wsX0_lastSecond) := goodIn_app (goodIn_of _ (by decide +kernel)) ggX0_nextSecond_X0_lastSecond
set_option maxRecDepth 20000 in
theorem ggX0_nextSecond_X0_heightAt : GoodIn wsX0_nextSecond wsX0_heightAt := goodIn_r _ [16, 17, 18, 19, 4, 20, 6, 7, 21, 22, 23, 24, 25, 26, 27, 28, 29, 30, 31, 32, 33, 34, 35, 36, 37, 38, 39, 40, 41, 42, 43, 61, 62, 63, 64, 65, 66, 67, 68, 69] (by decide +kernel) (by decide +kernel)
set_option maxRecDepth 20000 in
theorem gX0_nextSecond_X0_heightAt : GoodIn wsX0_nextSecond (wsV RX0 70 RX0 yX0_heightAt wsX0_heightAt) := goodIn_app (goodIn_of _ (by decide +kernel)) ggX0_nextSecond_X0_heightAt
set_option maxRecDepth 20000 in
theorem ggX0_nextSecond_X0_stretchEnd : GoodIn wsX0_nextSecond wsX0_stretchEnd := goodIn_r _ [47, 6, 7, 48, 49, 50, 51, 23, 24, 4, 25, 1, 2, 3, 5, 8, 9, 10, 11, 12, 52, 53, 54, 55, 56, 39, 40, 42, 61, 62, 63, 64, 65, 66, 67, 68, 69] (by decide +kernel) (by decide +kernel)
set_option maxRecDepth 20000 in
theorem gX0_nextSecond_X0_stretchEnd : GoodIn wsX0_nextSecond (wsV RX0 221 RX0 yX0_stretchEnd wsX0_stretchEnd) := goodIn_app (goodIn_of _ (by decide +kernel)) ggX0_nextSecond_X0_stretchEnd
set_option maxRecDepth 20000 in
theorem ggX0_nextSecond_X0_changeWithin : GoodIn wsX0_nextSecond wsX0_changeWithin := goodIn_r _ [60, 43, 13, 14, 15, 4, 16, 17, 18, 19, 20, 6, 7, 21, 22, 23, 24, 25, 26, 27, 28, 29, 30, 31, 32, 33, 34, 35, 36, 37, 38, 39, 40, 41, 42, 61, 62, 63, 64, 65, 66, 67, 68, 69] (by decide +kernel) (by decide +kernel)
set_option maxRecDepth 20000 in
theorem gX0_nextSecond_X0_changeWithin : GoodIn wsX0_nextSecond (wsV RX0 224 RX0 yX0_changeWithin wsX0_changeWithin) := goodIn_app (goodIn_of _ (by decide +kernel)) ggX0_nextSecond_X0_changeWithin
set_option maxRecDepth 20000 in
theorem ggX0_changeWithin_X0_heightAt : GoodIn wsX0_changeWithin wsX0_heightAt := goodIn_r _ [6, 7, 8, 9, 5, 10, 11, 12, 13, 14, 15, 16, 17, 18, 19, 20, 21, 22, 23, 24, 25, 26, 27, 28, 29, 30, 31, 32, 33, 34, 1, 35, 36, 37, 38, 39, 40, 41, 42, 43] (by decide +kernel) (by decide +kernel)
set_option maxRecDepth 20000 in
theorem gX0_changeWithin_X0_heightAt : GoodIn wsX0_changeWithin (wsV RX0 70 RX0 yX0_heightAt wsX0_heightAt) := goodIn_app (goodIn_of _ (by decide +kernel)) ggX0_changeWithin_X0_heightAt
set_option maxRecDepth 20000 in
theorem ggX0_longestSpan_X0_lastSecond : GoodIn wsX0_longestSpan wsX0_lastSecond := goodIn_r _ [5, 6, 7, 8, 9, 10, 11, 4, 12, 65, 66, 67, 68, 69, 70, 71, 72, 73] (by decide +kernel) (by decide +kernel)
set_option maxRecDepth 20000 in
theorem gX0_longestSpan_X0_lastSecond : GoodIn wsX0_longestSpan (wsV RX0 95 RX0 yX0_lastSecond wsX0_lastSecond) := goodIn_app (goodIn_of _ (by decide +kernel)) ggX0_longestSpan_X0_lastSecond
set_option maxRecDepth 20000 in
theorem ggX0_longestSpan_X0_nextSecond : GoodIn wsX0_longestSpan wsX0_nextSecond := goodIn_r _ [16, 1, 2, 3, 4, 5, 6, 7, 8, 9, 10, 11, 12, 17, 18, 19, 20, 21, 22, 23, 24, 25, 26, 27, 28, 29, 30, 31, 32, 33, 34, 35, 36, 37, 38, 39, 40, 41, 42, 43, 44, 45, 46, 47, 48, 49, 50, 51, 52, 53, 54, 55, 56, 57, 58, 59, 60, 61, 62, 63, 64, 65, 66, 67, 68, 69, 70, 71, 72, 73] (by decide +kernel) (by decide +kernel)
set_option maxRecDepth 20000 in
theorem gX0_longestSpan_X0_nextSecond : GoodIn wsX0_longestSpan (wsV RX0 91 RX0 yX0_nextSecond wsX0_nextSecond) := goodIn_app (goodIn_of _ (by decide +kernel)) ggX0_longestSpan_X0_nextSecond
set_option maxRecDepth 20000 in
theorem ggX0_firstSailing_X0_lastSecond : GoodIn wsX0_firstSailing wsX0_lastSecond := goodIn_r _ [8, 9, 10, 11, 12, 13, 14, 7, 15, 75, 76, 77, 78, 79, 80, 81, 82, 83] (by decide +kernel) (by decide +kernel)
set_option maxRecDepth 20000 in
theorem gX0_firstSailing_X0_lastSecond : GoodIn wsX0_firstSailing (wsV RX0 95 RX0 yX0_lastSecond wsX0_lastSecond) := goodIn_app (goodIn_of _ (by decide +kernel)) ggX0_firstSailing_X0_lastSecond
set_option maxRecDepth 20000 in
theorem ggX0_firstSailing_X0_secondsFor : GoodIn wsX0_firstSailing wsX0_secondsFor := goodIn_r _ [18, 19, 20, 21, 7, 22] (by decide +kernel) (by decide +kernel)
set_option maxRecDepth 20000 in
theorem gX0_firstSailing_X0_secondsFor : GoodIn wsX0_firstSailing (va_wsS RX0 117 yX0_secondsFor wsX0_secondsFor) := goodIn_app (goodIn_of _ (by decide +kernel)) ggX0_firstSailing_X0_secondsFor
set_option maxRecDepth 20000 in
theorem ggX0_firstSailing_X0_nextSecond : GoodIn wsX0_firstSailing wsX0_nextSecond := goodIn_r _ [26, 4, 5, 6, 7, 8, 9, 10, 11, 12, 13, 14, 15, 27, 28, 29, 30, 31, 32, 33, 34, 35, 36, 37, 38, 39, 40, 41, 42, 43, 44, 45, 46, 47, 48, 49, 50, 51, 52, 53, 54, 55, 56, 57, 58, 59, 60, 61, 62, 63, 64, 65, 66, 67, 68, 69, 70, 71, 72, 73, 74, 75, 76, 77, 78, 79, 80, 81, 82, 83] (by decide +kernel) (by decide +kernel)
set_option maxRecDepth 20000 in
theorem gX0_firstSailing_X0_nextSecond : GoodIn wsX0_firstSailing (wsV RX0 91 RX0 yX0_nextSecond wsX0_nextSecond) := goodIn_app (goodIn_of _ (by decide +kernel)) ggX0_firstSailing_X0_nextSecond
set_option maxRecDepth 20000 in
theorem ggX0_lastSailing_X0_lastSecond : GoodIn wsX0_lastSailing wsX0_lastSecond := goodIn_r _ [12, 13, 14, 15, 16, 17, 18, 11, 19, 75, 76, 77, 78, 79, 80, 81, 82, 83] (by decide +kernel) (by decide +kernel)
set_option maxRecDepth 20000 in
theorem gX0_lastSailing_X0_lastSecond : GoodIn wsX0_lastSailing (wsV RX0 95 RX0 yX0_lastSecond wsX0_lastSecond) := goodIn_app (goodIn_of _ (by decide +kernel)) ggX0_lastSailing_X0_lastSecond
set_option maxRecDepth 20000 in
theorem ggX0_lastSailing_X0_secondsFor : GoodIn wsX0_lastSailing wsX0_secondsFor := goodIn_r _ [22, 23, 24, 25, 11, 26] (by decide +kernel) (by decide +kernel)
set_option maxRecDepth 20000 in
theorem gX0_lastSailing_X0_secondsFor : GoodIn wsX0_lastSailing (va_wsS RX0 117 yX0_secondsFor wsX0_secondsFor) := goodIn_app (goodIn_of _ (by decide +kernel)) ggX0_lastSailing_X0_secondsFor
set_option maxRecDepth 20000 in
theorem ggX0_lastSailing_X0_nextSecond : GoodIn wsX0_lastSailing wsX0_nextSecond := goodIn_r _ [30, 8, 9, 10, 11, 12, 13, 14, 15, 16, 17, 18, 19, 31, 32, 33, 34, 35, 36, 37, 38, 39, 40, 41, 42, 43, 44, 45, 46, 47, 48, 49, 50, 51, 52, 53, 54, 55, 56, 57, 58, 59, 60, 61, 62, 63, 64, 65, 4, 5, 6, 7, 66, 67, 68, 69, 70, 71, 72, 73, 74, 75, 76, 77, 78, 79, 80, 81, 82, 83] (by decide +kernel) (by decide +kernel)
set_option maxRecDepth 20000 in
theorem gX0_lastSailing_X0_nextSecond : GoodIn wsX0_lastSailing (wsV RX0 91 RX0 yX0_nextSecond wsX0_nextSecond) := goodIn_app (goodIn_of _ (by decide +kernel)) ggX0_lastSailing_X0_nextSecond
