def vsX1_inside : List Cond := .code yX1_inside cX1_inside 4 (some .int) :: ((wsX1_inside_r1 ++ (wsX1_inside_r2 ++ (wsX1_inside_r3 ++ (wsX1_inside_r4 ++ (wsX1_inside_r5 ++ wsX1_inside_r6))))) ++ wsX10 ++ wsX00 ++ (vx_atS RX1 97 "java/lang/IndexOutOfBoundsException" ["java/lang/RuntimeException", "java/lang/Exception"]).filter goodWord ++ nW.filter goodWord)
def vsX1_through : List Cond := .code yX1_through cX1_through 4 (some .int) :: ((wsX1_through_r1 ++ (wsX1_through_r2 ++ (wsX1_through_r3 ++ (wsX1_through_r4 ++ (wsX1_through_r5 ++ wsX1_through_r6))))) ++ wsX10 ++ wsX00 ++ (vx_atS RX1 97 "java/lang/IndexOutOfBoundsException" ["java/lang/RuntimeException", "java/lang/Exception"]).filter goodWord ++ nW.filter goodWord)
def vsX1_look : List Cond := .code yX1_look cX1_look 3 (some .int) :: ((wsX1_look_r1 ++ wsX1_look_r2) ++ wsX10 ++ (vx_atS RX1 97 "java/lang/IndexOutOfBoundsException" ["java/lang/RuntimeException", "java/lang/Exception"]).filter goodWord ++ nW.filter goodWord)
def vsL_inside : List Cond := .codeWith yL_inside cL_inside 6 (some .int) [(0, 12, 15, 13), (0, 12, 19, 15)] :: ((wsL_inside_r1 ++ (wsL_inside_r2 ++ (wsL_inside_r3 ++ (wsL_inside_r4 ++ (wsL_inside_r5 ++ wsL_inside_r6))))) ++ wsX10 ++ wsX00 ++ (vx_atS RX1 97 "java/lang/IndexOutOfBoundsException" ["java/lang/RuntimeException", "java/lang/Exception"]).filter goodWord ++ nW.filter goodWord)
def vsL_through : List Cond := .codeWith yL_through cL_through 6 (some .int) [(0, 12, 15, 13), (0, 12, 19, 15)] :: ((wsL_through_r1 ++ (wsL_through_r2 ++ (wsL_through_r3 ++ (wsL_through_r4 ++ (wsL_through_r5 ++ (wsL_through_r6 ++ wsL_through_r7)))))) ++ wsX10 ++ wsX00 ++ (vx_atS RX1 97 "java/lang/IndexOutOfBoundsException" ["java/lang/RuntimeException", "java/lang/Exception"]).filter goodWord ++ nW.filter goodWord)
def vsL_look : List Cond := .codeWith yL_look cL_look 5 (some .int) [(0, 10, 13, 13), (0, 10, 17, 15)] :: ((wsL_look_r1 ++ wsL_look_r2) ++ wsX10 ++ (vx_atS RX1 97 "java/lang/IndexOutOfBoundsException" ["java/lang/RuntimeException", "java/lang/Exception"]).filter goodWord ++ nW.filter goodWord)
def vsL_law : List Cond := wsL_law0 ++ (vx_atS RX1 97 "java/lang/IndexOutOfBoundsException" ["java/lang/RuntimeException", "java/lang/Exception"]).filter goodWord ++ nW.filter goodWord
set_option maxRecDepth 20000 in
theorem vvX1_inside_X1_isTime : GoodIn vsX1_inside wsX1_isTime := goodIn_r _ [10, 11, 12, 13, 9, 14, 126, 127, 128, 129, 130, 131, 132, 133, 134, 135, 136, 137, 138, 139, 140, 141] (by decide +kernel) (by decide +kernel)
set_option maxRecDepth 20000 in
theorem vX1_inside_X1_isTime : GoodIn vsX1_inside (wsV RX1 80 RX1 yX1_isTime wsX1_isTime) := goodIn_app (goodIn_of _ (by decide +kernel)) vvX1_inside_X1_isTime
set_option maxRecDepth 20000 in
theorem vvX1_inside_X1_isWhat : GoodIn vsX1_inside wsX1_isWhat := goodIn_r _ [17, 12, 13, 9, 14] (by decide +kernel) (by decide +kernel)
set_option maxRecDepth 20000 in
theorem vX1_inside_X1_isWhat : GoodIn vsX1_inside (va_wsS RX1 83 yX1_isWhat wsX1_isWhat) := goodIn_app (goodIn_of _ (by decide +kernel)) vvX1_inside_X1_isWhat
set_option maxRecDepth 20000 in
theorem vvX1_inside_X1_lookAhead : GoodIn vsX1_inside wsX1_lookAhead := goodIn_r _ [21, 5, 22, 23, 11, 24, 25, 26, 27, 28, 29, 30, 31, 32, 33, 34, 35, 36, 9, 37, 38, 39, 40, 41, 42, 43, 44, 45, 46, 47, 48, 49, 50, 51, 52, 53, 54, 55, 56, 57, 58, 59, 60, 61, 62, 63, 64, 65, 66, 67, 68, 69, 70, 71, 72, 73, 74, 75, 76, 77, 78, 79, 80, 81, 82, 83, 84, 85, 86, 87, 88, 89, 90, 91, 92, 93, 94, 95, 96, 97, 98, 99, 100, 101, 102, 103, 104, 105, 106, 107, 108, 109, 110, 111, 112, 113, 114, 115, 126, 127, 128, 129, 130, 131, 132, 133, 134, 135, 136, 137, 138, 139, 140, 141, 142, 143] (by decide +kernel) (by decide +kernel)
set_option maxRecDepth 20000 in
theorem vX1_inside_X1_lookAhead : GoodIn vsX1_inside (wsV RX1 89 RX1 yX1_lookAhead wsX1_lookAhead) := goodIn_app (goodIn_of _ (by decide +kernel)) vvX1_inside_X1_lookAhead
set_option maxRecDepth 20000 in
theorem vvX1_inside_X1_lookBackTo : GoodIn vsX1_inside wsX1_lookBackTo := goodIn_r _ [119, 11, 5, 34, 35, 36, 9, 37, 38, 39, 24, 25, 26, 27, 28, 29, 30, 31, 32, 33, 40, 41, 42, 43, 44, 45, 46, 47, 48, 49, 50, 51, 52, 53, 54, 55, 56, 57, 58, 59, 60, 61, 62, 63, 64, 65, 66, 67, 68, 69, 70, 71, 72, 73, 74, 75, 120, 121, 122, 123, 80, 81, 82, 83, 84, 85, 86, 87, 111, 100, 101, 102, 103, 104, 105, 106, 107, 108, 109, 110, 112, 113, 114, 115, 126, 127, 128, 129, 130, 131, 132, 133, 134, 135, 136, 137, 138, 139, 140, 141, 142, 143] (by decide +kernel) (by decide +kernel)
set_option maxRecDepth 20000 in
theorem vX1_inside_X1_lookBackTo : GoodIn vsX1_inside (wsV RX1 105 RX1 yX1_lookBackTo wsX1_lookBackTo) := goodIn_app (goodIn_of _ (by decide +kernel)) vvX1_inside_X1_lookBackTo
set_option maxRecDepth 20000 in
theorem vvX1_inside_X0_high : GoodIn vsX1_inside wsX0_high := goodIn_r _ [87, 30, 31, 32, 27, 33, 142, 143] (by decide +kernel) (by decide +kernel)
set_option maxRecDepth 20000 in
theorem vX1_inside_X0_high : GoodIn vsX1_inside (wsV RX1 108 RX0 yX0_high wsX0_high) := goodIn_app (goodIn_of _ (by decide +kernel)) vvX1_inside_X0_high
set_option maxRecDepth 20000 in
theorem vvX1_inside_X0_low : GoodIn vsX1_inside wsX0_low := goodIn_r _ [83, 29, 31, 32, 27, 33, 142, 143] (by decide +kernel) (by decide +kernel)
set_option maxRecDepth 20000 in
theorem vX1_inside_X0_low : GoodIn vsX1_inside (wsV RX1 111 RX0 yX0_low wsX0_low) := goodIn_app (goodIn_of _ (by decide +kernel)) vvX1_inside_X0_low
set_option maxRecDepth 20000 in
theorem vvX1_through_X1_isDoor : GoodIn vsX1_through wsX1_isDoor := goodIn_r _ [9, 10, 11, 12, 8, 13, 144, 145, 146, 147, 148, 149, 150, 151, 152, 153, 154, 155, 156, 157, 158, 159] (by decide +kernel) (by decide +kernel)
set_option maxRecDepth 20000 in
theorem vX1_through_X1_isDoor : GoodIn vsX1_through (wsV RX1 65 RX1 yX1_isDoor wsX1_isDoor) := goodIn_app (goodIn_of _ (by decide +kernel)) vvX1_through_X1_isDoor
set_option maxRecDepth 20000 in
theorem vvX1_through_X1_isTick : GoodIn vsX1_through wsX1_isTick := goodIn_r _ [17, 18, 11, 12, 8, 13, 144, 145, 146, 147, 148, 149, 150, 151, 152, 153, 154, 155, 156, 157, 158, 159] (by decide +kernel) (by decide +kernel)
set_option maxRecDepth 20000 in
theorem vX1_through_X1_isTick : GoodIn vsX1_through (wsV RX1 69 RX1 yX1_isTick wsX1_isTick) := goodIn_app (goodIn_of _ (by decide +kernel)) vvX1_through_X1_isTick
set_option maxRecDepth 20000 in
theorem vvX1_through_X1_lookAhead : GoodIn vsX1_through wsX1_lookAhead := goodIn_r _ [22, 23, 24, 25, 18, 26, 27, 28, 29, 30, 31, 32, 33, 34, 35, 36, 37, 38, 8, 39, 10, 40, 41, 42, 43, 44, 45, 46, 47, 48, 49, 50, 51, 52, 53, 54, 55, 56, 57, 58, 59, 60, 61, 62, 63, 64, 65, 66, 67, 68, 69, 70, 71, 72, 73, 74, 75, 76, 77, 78, 79, 80, 81, 82, 83, 84, 85, 86, 87, 88, 89, 90, 91, 92, 93, 94, 95, 96, 97, 98, 99, 100, 101, 102, 103, 104, 105, 106, 107, 108, 109, 110, 111, 112, 113, 114, 115, 116, 144, 145, 146, 147, 148, 149, 150, 151, 152, 153, 154, 155, 156, 157, 158, 159, 160, 161] (by decide +kernel) (by decide +kernel)
set_option maxRecDepth 20000 in
theorem vX1_through_X1_lookAhead : GoodIn vsX1_through (wsV RX1 89 RX1 yX1_lookAhead wsX1_lookAhead) := goodIn_app (goodIn_of _ (by decide +kernel)) vvX1_through_X1_lookAhead
set_option maxRecDepth 20000 in
theorem vvX1_through_X1_lookBackTo : GoodIn vsX1_through wsX1_lookBackTo := goodIn_r _ [120, 18, 23, 36, 37, 38, 8, 39, 10, 40, 26, 27, 28, 29, 30, 31, 32, 33, 34, 35, 41, 42, 43, 44, 45, 46, 47, 48, 49, 50, 51, 52, 53, 54, 55, 56, 57, 58, 59, 60, 61, 62, 63, 64, 65, 66, 67, 68, 69, 70, 71, 72, 73, 74, 75, 76, 121, 122, 123, 124, 81, 82, 83, 84, 85, 86, 87, 88, 112, 101, 102, 103, 104, 105, 106, 107, 108, 109, 110, 111, 113, 114, 115, 116, 144, 145, 146, 147, 148, 149, 150, 151, 152, 153, 154, 155, 156, 157, 158, 159, 160, 161] (by decide +kernel) (by decide +kernel)
set_option maxRecDepth 20000 in
theorem vX1_through_X1_lookBackTo : GoodIn vsX1_through (wsV RX1 105 RX1 yX1_lookBackTo wsX1_lookBackTo) := goodIn_app (goodIn_of _ (by decide +kernel)) vvX1_through_X1_lookBackTo
set_option maxRecDepth 20000 in
theorem vvX1_through_X1_gatherChange : GoodIn vsX1_through wsX1_gatherChange := goodIn_r _ [39, 23, 10, 40, 26, 27, 28, 29, 30, 31, 32, 33, 34, 35, 41, 42, 43, 8, 44, 45, 46, 47, 48, 49, 50, 51, 52, 53, 54, 55, 56, 57, 58, 59, 60, 61, 62, 63, 64, 65, 66, 67, 68, 69, 70, 71, 72, 73, 74, 75, 76, 144, 145, 146, 147, 148, 149, 150, 151, 152, 153, 154, 155, 156, 157, 158, 159, 160, 161] (by decide +kernel) (by decide +kernel)
set_option maxRecDepth 20000 in
theorem vX1_through_X1_gatherChange : GoodIn vsX1_through (wsV RX1 120 RX1 yX1_gatherChange wsX1_gatherChange) := goodIn_app (goodIn_of _ (by decide +kernel)) vvX1_through_X1_gatherChange
set_option maxRecDepth 20000 in
theorem vvX1_through_X1_mostThrough : GoodIn vsX1_through wsX1_mostThrough := goodIn_r _ [128, 40, 129, 106, 57, 107, 65, 66, 67, 8, 68, 45, 46, 47, 48, 49, 59, 60, 61, 62, 63, 64, 50, 51, 52, 53, 54, 55, 56, 58, 130, 131, 132, 133, 23, 134, 86, 87, 29, 88, 32, 33, 34, 35, 135, 82, 83, 84, 31, 136, 137, 138, 139, 144, 145, 146, 147, 148, 149, 150, 151, 152, 153, 154, 155, 156, 157, 158, 159, 160, 161] (by decide +kernel) (by decide +kernel)
set_option maxRecDepth 20000 in
theorem vX1_through_X1_mostThrough : GoodIn vsX1_through (wsV RX1 124 RX1 yX1_mostThrough wsX1_mostThrough) := goodIn_app (goodIn_of _ (by decide +kernel)) vvX1_through_X1_mostThrough
set_option maxRecDepth 20000 in
theorem vvX1_through_X1_leastThrough : GoodIn vsX1_through wsX1_leastThrough := goodIn_r _ [143, 40, 55, 56, 57, 58, 41, 42, 43, 8, 44, 45, 46, 47, 48, 49, 50, 51, 52, 53, 54, 59, 60, 61, 62, 63, 64, 136, 137, 138, 139, 23, 135, 82, 83, 29, 84, 31, 33, 34, 35, 134, 86, 87, 88, 32, 130, 131, 132, 133, 144, 145, 146, 147, 148, 149, 150, 151, 152, 153, 154, 155, 156, 157, 158, 159, 160, 161] (by decide +kernel) (by decide +kernel)
set_option maxRecDepth 20000 in
theorem vX1_through_X1_leastThrough : GoodIn vsX1_through (wsV RX1 127 RX1 yX1_leastThrough wsX1_leastThrough) := goodIn_app (goodIn_of _ (by decide +kernel)) vvX1_through_X1_leastThrough
set_option maxRecDepth 20000 in
theorem vvX1_look_X1_isDoor : GoodIn vsX1_look wsX1_isDoor := goodIn_r _ [15, 16, 17, 18, 14, 19, 32, 33, 34, 35, 36, 37, 38, 39, 40, 41, 42, 43, 44, 45, 46, 47] (by decide +kernel) (by decide +kernel)
set_option maxRecDepth 20000 in
theorem vX1_look_X1_isDoor : GoodIn vsX1_look (wsV RX1 65 RX1 yX1_isDoor wsX1_isDoor) := goodIn_app (goodIn_of _ (by decide +kernel)) vvX1_look_X1_isDoor
set_option maxRecDepth 20000 in
theorem vvX1_look_X1_toldRows : GoodIn vsX1_look wsX1_toldRows := goodIn_r _ [23, 24, 9, 25, 26, 14, 27, 32, 33, 34, 35, 36, 37, 38, 39, 40, 41, 42, 43, 44, 45, 46, 47] (by decide +kernel) (by decide +kernel)
set_option maxRecDepth 20000 in
theorem vX1_look_X1_toldRows : GoodIn vsX1_look (wsV RX1 132 RX1 yX1_toldRows wsX1_toldRows) := goodIn_app (goodIn_of _ (by decide +kernel)) vvX1_look_X1_toldRows
set_option maxRecDepth 20000 in
theorem vvX1_look_X1_toldSum : GoodIn vsX1_look wsX1_toldSum := goodIn_r _ [31, 24, 25, 26, 14, 27, 32, 33, 34, 35, 36, 37, 38, 39, 40, 41, 42, 43, 44, 45, 46, 47] (by decide +kernel) (by decide +kernel)
set_option maxRecDepth 20000 in
theorem vX1_look_X1_toldSum : GoodIn vsX1_look (wsV RX1 135 RX1 yX1_toldSum wsX1_toldSum) := goodIn_app (goodIn_of _ (by decide +kernel)) vvX1_look_X1_toldSum
