set_option maxRecDepth 20000 in
theorem ggX0_add_X7_isByte : GoodIn wsX0_add wsX7_isByte := goodIn_r _ [6] (by decide +kernel) (by decide +kernel)
set_option maxRecDepth 20000 in
theorem gX0_add_X7_isByte_n22 : GoodIn wsX0_add (wsX7_isByte) := ggX0_add_X7_isByte
set_option maxRecDepth 20000 in
theorem ggX0_add_X7_grown : GoodIn wsX0_add wsX7_grown := goodIn_r _ [8, 9, 10, 11, 12] (by decide +kernel) (by decide +kernel)
set_option maxRecDepth 20000 in
theorem gX0_add_X7_grown_n26 : GoodIn wsX0_add (wsX7_grown) := ggX0_add_X7_grown
set_option maxRecDepth 20000 in
theorem ggX0_add_J7_copyOf_59c91 : GoodIn wsX0_add wsJ7_copyOf_59c91 := goodIn_r _ [16, 17, 18, 19, 20, 21, 22, 23, 24, 10, 11, 12, 25, 26, 27, 28] (by decide +kernel) (by decide +kernel)
set_option maxRecDepth 20000 in
theorem gX0_add_J7_copyOf_59c91 : GoodIn wsX0_add (va_wsS RX0 30 yJ7_copyOf_59c91 wsJ7_copyOf_59c91) := goodIn_app (goodIn_of _ (by decide +kernel)) ggX0_add_J7_copyOf_59c91
set_option maxRecDepth 20000 in
theorem ggX0_put_X7_isByte : GoodIn wsX0_put wsX7_isByte := goodIn_r _ [5] (by decide +kernel) (by decide +kernel)
set_option maxRecDepth 20000 in
theorem gX0_put_X7_isByte_n22 : GoodIn wsX0_put (wsX7_isByte) := ggX0_put_X7_isByte
set_option maxRecDepth 20000 in
theorem ggX1_init_X3_init : GoodIn wsX1_init wsX3_init := goodIn_r _ [4, 5, 6, 7] (by decide +kernel) (by decide +kernel)
set_option maxRecDepth 20000 in
theorem gX1_init_X3_init_n3 : GoodIn wsX1_init (wsX3_init) := ggX1_init_X3_init
set_option maxRecDepth 20000 in
theorem ggX1_restart_X3_widen : GoodIn wsX1_restart wsX3_widen := goodIn_r _ [8, 9, 10, 11, 30, 31, 32, 33, 34, 35, 36, 37, 38] (by decide +kernel) (by decide +kernel)
set_option maxRecDepth 20000 in
theorem gX1_restart_X3_widen_u15X1 : GoodIn wsX1_restart (va_wsU RX1 15 RX1 "EscapeCoder$Interval" ⟨"EscapeCoder$CodeReader", "widen", "()V"⟩ yX3_widen wsX3_widen) := goodIn_app (goodIn_of _ (by decide +kernel)) ggX1_restart_X3_widen
set_option maxRecDepth 20000 in
theorem ggX1_restart_X1_shiftOnce : GoodIn wsX1_restart wsX1_shiftOnce := goodIn_r _ [16, 1, 17, 2, 18, 19, 20, 21, 22, 23, 24, 25, 26, 27, 28, 29, 30, 31, 32, 33, 34, 39, 40, 41] (by decide +kernel) (by decide +kernel)
set_option maxRecDepth 20000 in
theorem gX1_restart_X1_shiftOnce : GoodIn wsX1_restart (wsV RX1 26 RX1 yX1_shiftOnce wsX1_shiftOnce) := goodIn_app (goodIn_of _ (by decide +kernel)) ggX1_restart_X1_shiftOnce
set_option maxRecDepth 20000 in
theorem ggX1_placeIn_X3_unitOf : GoodIn wsX1_placeIn wsX3_unitOf := goodIn_r _ [11, 12, 13, 14, 15, 16, 17, 18, 19, 20, 21] (by decide +kernel) (by decide +kernel)
set_option maxRecDepth 20000 in
theorem gX1_placeIn_X3_unitOf_u29X1 : GoodIn wsX1_placeIn (va_wsU RX1 29 RX1 "EscapeCoder$Interval" ⟨"EscapeCoder$CodeReader", "unitOf", "(I)J"⟩ yX3_unitOf wsX3_unitOf) := goodIn_app (goodIn_of _ (by decide +kernel)) ggX1_placeIn_X3_unitOf
set_option maxRecDepth 20000 in
theorem ggX1_shiftOnce_X0_length : GoodIn wsX1_shiftOnce wsX0_length := goodIn_r _ [9, 10, 21, 22, 23] (by decide +kernel) (by decide +kernel)
set_option maxRecDepth 20000 in
theorem gX1_shiftOnce_X0_length : GoodIn wsX1_shiftOnce (wsV RX1 41 RX0 yX0_length wsX0_length) := goodIn_app (goodIn_of _ (by decide +kernel)) ggX1_shiftOnce_X0_length
set_option maxRecDepth 20000 in
theorem ggX1_shiftOnce_X0_byteAt : GoodIn wsX1_shiftOnce wsX0_byteAt := goodIn_r _ [14, 10, 15, 21, 22, 23] (by decide +kernel) (by decide +kernel)
set_option maxRecDepth 20000 in
theorem gX1_shiftOnce_X0_byteAt : GoodIn wsX1_shiftOnce (wsV RX1 47 RX0 yX0_byteAt wsX0_byteAt) := goodIn_app (goodIn_of _ (by decide +kernel)) ggX1_shiftOnce_X0_byteAt
set_option maxRecDepth 20000 in
theorem ggX2_init_X3_init : GoodIn wsX2_init wsX3_init := goodIn_r _ [4, 5, 6, 7] (by decide +kernel) (by decide +kernel)
set_option maxRecDepth 20000 in
theorem gX2_init_X3_init_n3 : GoodIn wsX2_init (wsX3_init) := ggX2_init_X3_init
set_option maxRecDepth 20000 in
theorem ggX2_restart_X3_widen : GoodIn wsX2_restart wsX3_widen := goodIn_r _ [8, 9, 10, 11, 22, 23, 24, 25, 26, 18, 19, 20, 21] (by decide +kernel) (by decide +kernel)
set_option maxRecDepth 20000 in
theorem gX2_restart_X3_widen_u15X2 : GoodIn wsX2_restart (va_wsU RX2 15 RX2 "EscapeCoder$Interval" ⟨"EscapeCoder$CodeWriter", "widen", "()V"⟩ yX3_widen wsX3_widen) := goodIn_app (goodIn_of _ (by decide +kernel)) ggX2_restart_X3_widen
set_option maxRecDepth 20000 in
theorem ggX2_restart_X0_clear : GoodIn wsX2_restart wsX0_clear := goodIn_r _ [16, 17, 27, 28, 29] (by decide +kernel) (by decide +kernel)
set_option maxRecDepth 20000 in
theorem gX2_restart_X0_clear : GoodIn wsX2_restart (wsV RX2 18 RX0 yX0_clear wsX0_clear) := goodIn_app (goodIn_of _ (by decide +kernel)) ggX2_restart_X0_clear
set_option maxRecDepth 20000 in
theorem ggX2_raiseLow_X0_carry : GoodIn wsX2_raiseLow wsX0_carry := goodIn_r _ [8, 9, 10, 15, 16, 17] (by decide +kernel) (by decide +kernel)
set_option maxRecDepth 20000 in
theorem gX2_raiseLow_X0_carry : GoodIn wsX2_raiseLow (wsV RX2 29 RX0 yX0_carry wsX0_carry) := goodIn_app (goodIn_of _ (by decide +kernel)) ggX2_raiseLow_X0_carry
set_option maxRecDepth 20000 in
theorem ggX2_shiftOnce_X0_add : GoodIn wsX2_shiftOnce wsX0_add := goodIn_r _ [8, 9, 10, 11, 12, 13, 14, 15, 16, 17, 18, 19, 20, 21, 22, 23, 24, 25, 26, 27, 28, 29, 30, 31, 32, 33, 34, 35, 36, 41, 42, 43] (by decide +kernel) (by decide +kernel)
set_option maxRecDepth 20000 in
theorem gX2_shiftOnce_X0_add : GoodIn wsX2_shiftOnce (wsV RX2 32 RX0 yX0_add wsX0_add) := goodIn_app (goodIn_of _ (by decide +kernel)) ggX2_shiftOnce_X0_add
set_option maxRecDepth 20000 in
theorem ggX2_finish_X3_shifts : GoodIn wsX2_finish wsX3_shifts := goodIn_r _ [9, 10, 52, 53, 54, 55, 56, 48, 49, 50, 51] (by decide +kernel) (by decide +kernel)
set_option maxRecDepth 20000 in
theorem gX2_finish_X3_shifts_u36X2 : GoodIn wsX2_finish (va_wsU RX2 36 RX2 "EscapeCoder$Interval" ⟨"EscapeCoder$CodeWriter", "shifts", "()I"⟩ yX3_shifts wsX3_shifts) := goodIn_app (goodIn_of _ (by decide +kernel)) ggX2_finish_X3_shifts
set_option maxRecDepth 20000 in
theorem ggX2_finish_X0_clear : GoodIn wsX2_finish wsX0_clear := goodIn_r _ [15, 16, 57, 58, 59] (by decide +kernel) (by decide +kernel)
set_option maxRecDepth 20000 in
theorem gX2_finish_X0_clear : GoodIn wsX2_finish (wsV RX2 18 RX0 yX0_clear wsX0_clear) := goodIn_app (goodIn_of _ (by decide +kernel)) ggX2_finish_X0_clear
set_option maxRecDepth 20000 in
theorem ggX2_finish_X0_add : GoodIn wsX2_finish wsX0_add := goodIn_r _ [20, 16, 21, 22, 23, 24, 25, 26, 27, 28, 29, 30, 31, 32, 33, 34, 35, 36, 37, 38, 39, 40, 41, 42, 43, 44, 45, 46, 47, 57, 58, 59] (by decide +kernel) (by decide +kernel)
set_option maxRecDepth 20000 in
theorem gX2_finish_X0_add : GoodIn wsX2_finish (wsV RX2 32 RX0 yX0_add wsX0_add) := goodIn_app (goodIn_of _ (by decide +kernel)) ggX2_finish_X0_add
set_option maxRecDepth 20000 in
theorem ggX3_narrow_X3_unitOf : GoodIn wsX3_narrow wsX3_unitOf := goodIn_r _ [10, 1, 82, 83, 84, 85, 86, 87, 88, 89, 90] (by decide +kernel) (by decide +kernel)
set_option maxRecDepth 20000 in
theorem gX3_narrow_X3_unitOf_u19X1 : GoodIn wsX3_narrow (va_wsU RX3 19 RX1 "EscapeCoder$Interval" ⟨"EscapeCoder$Interval", "unitOf", "(I)J"⟩ yX3_unitOf wsX3_unitOf) := goodIn_app (goodIn_of _ (by decide +kernel)) ggX3_narrow_X3_unitOf
set_option maxRecDepth 20000 in
theorem gX3_narrow_X3_unitOf_u19X2 : GoodIn wsX3_narrow (va_wsU RX3 19 RX2 "EscapeCoder$Interval" ⟨"EscapeCoder$Interval", "unitOf", "(I)J"⟩ yX3_unitOf wsX3_unitOf) := goodIn_app (goodIn_of _ (by decide +kernel)) ggX3_narrow_X3_unitOf
set_option maxRecDepth 20000 in
theorem ggX3_narrow_X1_raiseLow : GoodIn wsX3_narrow wsX1_raiseLow := goodIn_r _ [17, 18, 82, 83, 84, 85, 86] (by decide +kernel) (by decide +kernel)
set_option maxRecDepth 20000 in
theorem gX3_narrow_X1_raiseLow_u23X1 : GoodIn wsX3_narrow (va_wsU RX3 23 RX1 "EscapeCoder$Interval" ⟨"EscapeCoder$Interval", "raiseLow", "(J)V"⟩ yX1_raiseLow wsX1_raiseLow) := goodIn_app (goodIn_of _ (by decide +kernel)) ggX3_narrow_X1_raiseLow
set_option maxRecDepth 20000 in
theorem ggX3_narrow_X2_raiseLow : GoodIn wsX3_narrow wsX2_raiseLow := goodIn_r _ [22, 23, 24, 25, 26, 27, 28, 29, 30, 31, 32, 87, 88, 89, 90, 91, 92, 93] (by decide +kernel) (by decide +kernel)
set_option maxRecDepth 20000 in
theorem gX3_narrow_X2_raiseLow_u23X2 : GoodIn wsX3_narrow (va_wsU RX3 23 RX2 "EscapeCoder$Interval" ⟨"EscapeCoder$Interval", "raiseLow", "(J)V"⟩ yX2_raiseLow wsX2_raiseLow) := goodIn_app (goodIn_of _ (by decide +kernel)) ggX3_narrow_X2_raiseLow
set_option maxRecDepth 20000 in
theorem ggX3_narrow_X1_shiftOnce : GoodIn wsX3_narrow wsX1_shiftOnce := goodIn_r _ [37, 18, 38, 39, 40, 41, 42, 43, 29, 44, 31, 45, 46, 47, 48, 32, 82, 83, 84, 85, 86, 91, 92, 93] (by decide +kernel) (by decide +kernel)
set_option maxRecDepth 20000 in
theorem gX3_narrow_X1_shiftOnce_u29X1 : GoodIn wsX3_narrow (va_wsU RX3 29 RX1 "EscapeCoder$Interval" ⟨"EscapeCoder$Interval", "shiftOnce", "()V"⟩ yX1_shiftOnce wsX1_shiftOnce) := goodIn_app (goodIn_of _ (by decide +kernel)) ggX3_narrow_X1_shiftOnce
set_option maxRecDepth 20000 in
theorem ggX3_narrow_X2_shiftOnce : GoodIn wsX3_narrow wsX2_shiftOnce := goodIn_r _ [51, 25, 23, 24, 52, 53, 54, 29, 55, 31, 56, 32, 57, 58, 59, 60, 61, 62, 63, 64, 65, 66, 67, 68, 69, 70, 71, 72, 73, 74, 75, 76, 77, 78, 79, 80, 81, 87, 88, 89, 90, 91, 92, 93] (by decide +kernel) (by decide +kernel)
set_option maxRecDepth 20000 in
theorem gX3_narrow_X2_shiftOnce_u29X2 : GoodIn wsX3_narrow (va_wsU RX3 29 RX2 "EscapeCoder$Interval" ⟨"EscapeCoder$Interval", "shiftOnce", "()V"⟩ yX2_shiftOnce wsX2_shiftOnce) := goodIn_app (goodIn_of _ (by decide +kernel)) ggX3_narrow_X2_shiftOnce
set_option maxRecDepth 20000 in
theorem ggX4_init_J7_fill_53178 : GoodIn wsX4_init wsJ7_fill_53178 := goodIn_r _ [18] (by decide +kernel) (by decide +kernel)
set_option maxRecDepth 20000 in
theorem gX4_init_J7_fill_53178 : GoodIn wsX4_init (va_wsS RX4 43 yJ7_fill_53178 wsJ7_fill_53178) := goodIn_app (goodIn_of _ (by decide +kernel)) ggX4_init_J7_fill_53178
set_option maxRecDepth 20000 in
theorem ggX4_restart_X4_dropAll : GoodIn wsX4_restart wsX4_dropAll := goodIn_r _ [8, 9, 10, 11, 12, 13, 14, 7, 15, 16, 17, 18, 19, 20, 21, 22, 23, 24, 25, 26, 27, 28, 29, 30, 31, 32] (by decide +kernel) (by decide +kernel)
set_option maxRecDepth 20000 in
theorem gX4_restart_X4_dropAll : GoodIn wsX4_restart (wsV RX4 49 RX4 yX4_dropAll wsX4_dropAll) := goodIn_app (goodIn_of _ (by decide +kernel)) ggX4_restart_X4_dropAll
set_option maxRecDepth 20000 in
theorem ggX4_keyHere_X7_keyOf : GoodIn wsX4_keyHere wsX7_keyOf := goodIn_r _ [5, 6, 7, 4, 8] (by decide +kernel) (by decide +kernel)
set_option maxRecDepth 20000 in
theorem gX4_keyHere_X7_keyOf_n73 : GoodIn wsX4_keyHere (wsX7_keyOf) := ggX4_keyHere_X7_keyOf
set_option maxRecDepth 20000 in
theorem ggX4_find_X4_bucketOf : GoodIn wsX4_find wsX4_bucketOf := goodIn_r _ [8] (by decide +kernel) (by decide +kernel)
set_option maxRecDepth 20000 in
theorem gX4_find_X4_bucketOf : GoodIn wsX4_find (va_wsS RX4 77 yX4_bucketOf wsX4_bucketOf) := goodIn_app (goodIn_of _ (by decide +kernel)) ggX4_find_X4_bucketOf
set_option maxRecDepth 20000 in
theorem ggX4_find_X4_isContext : GoodIn wsX4_find wsX4_isContext := goodIn_r _ [12, 2, 13, 14, 15, 16, 17, 18, 19, 20, 21, 22, 23, 24, 25, 26, 27, 28, 29] (by decide +kernel) (by decide +kernel)
set_option maxRecDepth 20000 in
theorem gX4_find_X4_isContext : GoodIn wsX4_find (wsV RX4 81 RX4 yX4_isContext wsX4_isContext) := goodIn_app (goodIn_of _ (by decide +kernel)) ggX4_find_X4_isContext
set_option maxRecDepth 20000 in
theorem ggX4_nodesIn_X4_isContext : GoodIn wsX4_nodesIn wsX4_isContext := goodIn_r _ [6, 7, 8, 9, 10, 11, 12, 13, 14, 15, 16, 17, 18, 19, 20, 21, 22, 23, 24] (by decide +kernel) (by decide +kernel)
set_option maxRecDepth 20000 in
theorem gX4_nodesIn_X4_isContext : GoodIn wsX4_nodesIn (wsV RX4 81 RX4 yX4_isContext wsX4_isContext) := goodIn_app (goodIn_of _ (by decide +kernel)) ggX4_nodesIn_X4_isContext
set_option maxRecDepth 20000 in
theorem ggX4_firstNode_X4_isContext : GoodIn wsX4_firstNode wsX4_isContext := goodIn_r _ [6, 7, 8, 9, 10, 11, 12, 13, 14, 15, 16, 17, 18, 19, 20, 21, 22, 23, 24] (by decide +kernel) (by decide +kernel)
set_option maxRecDepth 20000 in
theorem gX4_firstNode_X4_isContext : GoodIn wsX4_firstNode (wsV RX4 81 RX4 yX4_isContext wsX4_isContext) := goodIn_app (goodIn_of _ (by decide +kernel)) ggX4_firstNode_X4_isContext
set_option maxRecDepth 20000 in
theorem ggX4_nextNode_X4_isNode : GoodIn wsX4_nextNode wsX4_isNode := goodIn_r _ [6, 7, 8, 9, 10, 11, 12, 13, 14, 15, 16, 17, 18, 19, 20, 21, 22, 23, 24] (by decide +kernel) (by decide +kernel)
set_option maxRecDepth 20000 in
theorem gX4_nextNode_X4_isNode : GoodIn wsX4_nextNode (wsV RX4 85 RX4 yX4_isNode wsX4_isNode) := goodIn_app (goodIn_of _ (by decide +kernel)) ggX4_nextNode_X4_isNode
set_option maxRecDepth 20000 in
theorem ggX4_byteOf_X4_isNode : GoodIn wsX4_byteOf wsX4_isNode := goodIn_r _ [6, 7, 8, 9, 10, 11, 12, 13, 14, 15, 16, 17, 18, 19, 20, 21, 22, 23, 24] (by decide +kernel) (by decide +kernel)
set_option maxRecDepth 20000 in
theorem gX4_byteOf_X4_isNode : GoodIn wsX4_byteOf (wsV RX4 85 RX4 yX4_isNode wsX4_isNode) := goodIn_app (goodIn_of _ (by decide +kernel)) ggX4_byteOf_X4_isNode
set_option maxRecDepth 20000 in
theorem ggX4_countOf_X4_isNode : GoodIn wsX4_countOf wsX4_isNode := goodIn_r _ [6, 7, 8, 9, 10, 11, 12, 13, 14, 15, 16, 17, 18, 19, 20, 21, 22, 23, 24] (by decide +kernel) (by decide +kernel)
set_option maxRecDepth 20000 in
theorem gX4_countOf_X4_isNode : GoodIn wsX4_countOf (wsV RX4 85 RX4 yX4_isNode wsX4_isNode) := goodIn_app (goodIn_of _ (by decide +kernel)) ggX4_countOf_X4_isNode
set_option maxRecDepth 20000 in
theorem ggX4_nodeOfByte_X4_firstNode : GoodIn wsX4_nodeOfByte wsX4_firstNode := goodIn_r _ [5, 6, 7, 8, 9, 4, 10, 11, 32, 33, 34, 35, 36, 37, 38, 39, 40, 41, 42, 43, 44, 45, 46, 47, 48] (by decide +kernel) (by decide +kernel)
set_option maxRecDepth 20000 in
theorem gX4_nodeOfByte_X4_firstNode : GoodIn wsX4_nodeOfByte (wsV RX4 88 RX4 yX4_firstNode wsX4_firstNode) := goodIn_app (goodIn_of _ (by decide +kernel)) ggX4_nodeOfByte_X4_firstNode
set_option maxRecDepth 20000 in
theorem ggX4_nodeOfByte_X4_nodesIn : GoodIn wsX4_nodeOfByte wsX4_nodesIn := goodIn_r _ [15, 16, 7, 8, 9, 4, 10, 11, 32, 33, 34, 35, 36, 37, 38, 39, 40, 41, 42, 43, 44, 45, 46, 47, 48] (by decide +kernel) (by decide +kernel)
set_option maxRecDepth 20000 in
theorem gX4_nodeOfByte_X4_nodesIn : GoodIn wsX4_nodeOfByte (wsV RX4 91 RX4 yX4_nodesIn wsX4_nodesIn) := goodIn_app (goodIn_of _ (by decide +kernel)) ggX4_nodeOfByte_X4_nodesIn
set_option maxRecDepth 20000 in
theorem ggX4_nodeOfByte_X4_byteOf : GoodIn wsX4_nodeOfByte wsX4_byteOf := goodIn_r _ [20, 21, 22, 23, 24, 4, 25, 26, 32, 33, 34, 35, 36, 37, 38, 39, 40, 41, 42, 43, 44, 45, 46, 47, 48] (by decide +kernel) (by decide +kernel)
set_option maxRecDepth 20000 in
theorem gX4_nodeOfByte_X4_byteOf : GoodIn wsX4_nodeOfByte (wsV RX4 94 RX4 yX4_byteOf wsX4_byteOf) := goodIn_app (goodIn_of _ (by decide +kernel)) ggX4_nodeOfByte_X4_byteOf
set_option maxRecDepth 20000 in
theorem ggX4_nodeOfByte_X4_nextNode : GoodIn wsX4_nodeOfByte wsX4_nextNode := goodIn_r _ [30, 31, 22, 23, 24, 4, 25, 26, 32, 33, 34, 35, 36, 37, 38, 39, 40, 41, 42, 43, 44, 45, 46, 47, 48] (by decide +kernel) (by decide +kernel)
set_option maxRecDepth 20000 in
theorem gX4_nodeOfByte_X4_nextNode : GoodIn wsX4_nodeOfByte (wsV RX4 97 RX4 yX4_nextNode wsX4_nextNode) := goodIn_app (goodIn_of _ (by decide +kernel)) ggX4_nodeOfByte_X4_nextNode
set_option maxRecDepth 20000 in
theorem ggX4_nodeAt_X4_nodesIn : GoodIn wsX4_nodeAt wsX4_nodesIn := goodIn_r _ [5, 6, 7, 8, 9, 4, 10, 11, 27, 28, 29, 30, 31, 32, 33, 34, 35, 36, 37, 38, 39, 40, 41, 42, 43] (by decide +kernel) (by decide +kernel)
set_option maxRecDepth 20000 in
theorem gX4_nodeAt_X4_nodesIn : GoodIn wsX4_nodeAt (wsV RX4 91 RX4 yX4_nodesIn wsX4_nodesIn) := goodIn_app (goodIn_of _ (by decide +kernel)) ggX4_nodeAt_X4_nodesIn
set_option maxRecDepth 20000 in
theorem ggX4_nodeAt_X4_firstNode : GoodIn wsX4_nodeAt wsX4_firstNode := goodIn_r _ [15, 16, 7, 8, 9, 4, 10, 11, 27, 28, 29, 30, 31, 32, 33, 34, 35, 36, 37, 38, 39, 40, 41, 42, 43] (by decide +kernel) (by decide +kernel)
set_option maxRecDepth 20000 in
theorem gX4_nodeAt_X4_firstNode : GoodIn wsX4_nodeAt (wsV RX4 88 RX4 yX4_firstNode wsX4_firstNode) := goodIn_app (goodIn_of _ (by decide +kernel)) ggX4_nodeAt_X4_firstNode
set_option maxRecDepth 20000 in
theorem ggX4_nodeAt_X4_nextNode : GoodIn wsX4_nodeAt wsX4_nextNode := goodIn_r _ [20, 21, 22, 23, 24, 4, 25, 26, 27, 28, 29, 30, 31, 32, 33, 34, 35, 36, 37, 38, 39, 40, 41, 42, 43] (by decide +kernel) (by decide +kernel)
set_option maxRecDepth 20000 in
theorem gX4_nodeAt_X4_nextNode : GoodIn wsX4_nodeAt (wsV RX4 97 RX4 yX4_nextNode wsX4_nextNode) := goodIn_app (goodIn_of _ (by decide +kernel)) ggX4_nodeAt_X4_nextNode
set_option maxRecDepth 20000 in
theorem ggX4_learn_X4_keyHere : GoodIn wsX4_learn wsX4_keyHere := goodIn_r _ [15, 6, 7, 16, 17, 18, 19, 20, 21, 118, 119, 120, 121, 122, 123, 124, 125, 126, 127, 128, 129, 130, 131, 132, 133, 134] (by decide +kernel) (by decide +kernel)
set_option maxRecDepth 20000 in
theorem gX4_learn_X4_keyHere : GoodIn wsX4_learn (wsV RX4 106 RX4 yX4_keyHere wsX4_keyHere) := goodIn_app (goodIn_of _ (by decide +kernel)) ggX4_learn_X4_keyHere
set_option maxRecDepth 20000 in
theorem ggX4_learn_X4_learnIn : GoodIn wsX4_learn wsX4_learnIn := goodIn_r _ [25, 26, 27, 28, 29, 30, 31, 32, 14, 33, 34, 35, 36, 37, 38, 39, 40, 41, 42, 43, 44, 45, 46, 47, 48, 49, 50, 51, 52, 53, 54, 55, 56, 57, 58, 59, 60, 61, 62, 63, 64, 65, 66, 67, 68, 69, 70, 71, 72, 73, 74, 75, 76, 77, 78, 79, 80, 81, 82, 83, 84, 85, 86, 87, 88, 89, 90, 91, 17, 92, 93, 9, 3, 10, 94, 95, 96, 97, 98, 99, 100, 101, 102, 103, 104, 105, 106, 107, 108, 109, 110, 111, 112, 113, 114, 115, 116, 117, 118, 119, 120, 121, 122, 123, 124, 125, 126, 127, 128, 129, 130, 131, 132, 133, 134] (by decide +kernel) (by decide +kernel)
set_option maxRecDepth 20000 in
theorem gX4_learn_X4_learnIn : GoodIn wsX4_learn (wsV RX4 109 RX4 yX4_learnIn wsX4_learnIn) := goodIn_app (goodIn_of _ (by decide +kernel)) ggX4_learn_X4_learnIn
set_option maxRecDepth 20000 in
theorem ggX4_learnIn_X4_find : GoodIn wsX4_learnIn wsX4_find := goodIn_r _ [9, 10, 11, 12, 13, 14, 15, 8, 16, 17, 18, 19, 20, 98, 99, 100, 101, 102, 103, 104, 105, 106, 107, 108, 109, 110, 111, 112, 113, 114] (by decide +kernel) (by decide +kernel)
set_option maxRecDepth 20000 in
theorem gX4_learnIn_X4_find : GoodIn wsX4_learnIn (wsV RX4 116 RX4 yX4_find wsX4_find) := goodIn_app (goodIn_of _ (by decide +kernel)) ggX4_learnIn_X4_find
set_option maxRecDepth 20000 in
theorem ggX4_learnIn_X4_nodeOfByte : GoodIn wsX4_learnIn wsX4_nodeOfByte := goodIn_r _ [24, 25, 26, 27, 8, 28, 29, 17, 18, 19, 20, 11, 30, 31, 32, 33, 34, 35, 36, 37, 38, 39, 40, 41, 42, 43, 2, 44, 45, 46, 47, 48, 98, 99, 100, 101, 102, 103, 104, 105, 106, 107, 108, 109, 110, 111, 112, 113, 114] (by decide +kernel) (by decide +kernel)
set_option maxRecDepth 20000 in
theorem gX4_learnIn_X4_nodeOfByte : GoodIn wsX4_learnIn (wsV RX4 119 RX4 yX4_nodeOfByte wsX4_nodeOfByte) := goodIn_app (goodIn_of _ (by decide +kernel)) ggX4_learnIn_X4_nodeOfByte
set_option maxRecDepth 20000 in
theorem ggX4_learnIn_X4_isNode : GoodIn wsX4_learnIn wsX4_isNode := goodIn_r _ [43, 2, 98, 99, 100, 101, 102, 103, 104, 105, 106, 107, 108, 109, 110, 111, 112, 113, 114] (by decide +kernel) (by decide +kernel)
set_option maxRecDepth 20000 in
theorem gX4_learnIn_X4_isNode : GoodIn wsX4_learnIn (wsV RX4 85 RX4 yX4_isNode wsX4_isNode) := goodIn_app (goodIn_of _ (by decide +kernel)) ggX4_learnIn_X4_isNode
set_option maxRecDepth 20000 in
theorem ggX4_learnIn_X4_rescale : GoodIn wsX4_learnIn wsX4_rescale := goodIn_r _ [52, 1, 48, 53, 25, 26, 27, 8, 28, 29, 17, 18, 19, 20, 11, 30, 31, 32, 33, 34, 40, 41, 42, 43, 2, 98, 99, 100, 101, 102, 103, 104, 105, 106, 107, 108, 109, 110, 111, 112, 113, 114] (by decide +kernel) (by decide +kernel)
set_option maxRecDepth 20000 in
theorem gX4_learnIn_X4_rescale : GoodIn wsX4_learnIn (wsV RX4 122 RX4 yX4_rescale wsX4_rescale) := goodIn_app (goodIn_of _ (by decide +kernel)) ggX4_learnIn_X4_rescale
set_option maxRecDepth 20000 in
theorem ggX4_learnIn_X4_dropAll : GoodIn wsX4_learnIn wsX4_dropAll := goodIn_r _ [57, 11, 10, 12, 2, 14, 15, 8, 16, 98, 99, 100, 101, 102, 103, 104, 105, 106, 107, 108, 109, 110, 111, 112, 113, 114] (by decide +kernel) (by decide +kernel)
set_option maxRecDepth 20000 in
theorem gX4_learnIn_X4_dropAll : GoodIn wsX4_learnIn (wsV RX4 49 RX4 yX4_dropAll wsX4_dropAll) := goodIn_app (goodIn_of _ (by decide +kernel)) ggX4_learnIn_X4_dropAll
set_option maxRecDepth 20000 in
theorem ggX4_learnIn_X4_isContext : GoodIn wsX4_learnIn wsX4_isContext := goodIn_r _ [20, 11, 98, 99, 100, 101, 102, 103, 104, 105, 106, 107, 108, 109, 110, 111, 112, 113, 114] (by decide +kernel) (by decide +kernel)
set_option maxRecDepth 20000 in
theorem gX4_learnIn_X4_isContext : GoodIn wsX4_learnIn (wsV RX4 81 RX4 yX4_isContext wsX4_isContext) := goodIn_app (goodIn_of _ (by decide +kernel)) ggX4_learnIn_X4_isContext
set_option maxRecDepth 20000 in
theorem ggX4_learnIn_X4_addContext : GoodIn wsX4_learnIn wsX4_addContext := goodIn_r _ [61, 11, 12, 29, 62, 34, 13, 10, 63, 64, 65, 8, 66, 67, 68, 69, 70, 71, 72, 73, 74, 75, 76, 77, 78, 79, 80, 81, 82, 83, 84, 85, 86, 87, 88, 89, 14, 15, 16, 98, 99, 100, 101, 102, 103, 104, 105, 106, 107, 108, 109, 110, 111, 112, 113, 114] (by decide +kernel) (by decide +kernel)
set_option maxRecDepth 20000 in
theorem gX4_learnIn_X4_addContext : GoodIn wsX4_learnIn (wsV RX4 126 RX4 yX4_addContext wsX4_addContext) := goodIn_app (goodIn_of _ (by decide +kernel)) ggX4_learnIn_X4_addContext
set_option maxRecDepth 20000 in
theorem ggX4_learnIn_X4_addNode : GoodIn wsX4_learnIn wsX4_addNode := goodIn_r _ [93, 2, 39, 1, 48, 62, 29, 34, 17, 18, 19, 8, 20, 11, 94, 95, 96, 97, 67, 68, 69, 70, 71, 72, 73, 74, 75, 76, 77, 78, 79, 80, 81, 82, 83, 84, 85, 86, 87, 88, 89, 40, 41, 42, 43, 98, 99, 100, 101, 102, 103, 104, 105, 106, 107, 108, 109, 110, 111, 112, 113, 114] (by decide +kernel) (by decide +kernel)
set_option maxRecDepth 20000 in
theorem gX4_learnIn_X4_addNode : GoodIn wsX4_learnIn (wsV RX4 129 RX4 yX4_addNode wsX4_addNode) := goodIn_app (goodIn_of _ (by decide +kernel)) ggX4_learnIn_X4_addNode
set_option maxRecDepth 20000 in
theorem ggX4_rescale_X4_firstNode : GoodIn wsX4_rescale wsX4_firstNode := goodIn_r _ [8, 9, 10, 11, 12, 7, 13, 14, 25, 26, 27, 28, 29, 30, 31, 32, 33, 34, 35, 36, 37, 38, 39, 40, 41] (by decide +kernel) (by decide +kernel)
set_option maxRecDepth 20000 in
theorem gX4_rescale_X4_firstNode : GoodIn wsX4_rescale (wsV RX4 88 RX4 yX4_firstNode wsX4_firstNode) := goodIn_app (goodIn_of _ (by decide +kernel)) ggX4_rescale_X4_firstNode
set_option maxRecDepth 20000 in
theorem ggX4_rescale_X4_nodesIn : GoodIn wsX4_rescale wsX4_nodesIn := goodIn_r _ [18, 19, 10, 11, 12, 7, 13, 14, 25, 26, 27, 28, 29, 30, 31, 32, 33, 34, 35, 36, 37, 38, 39, 40, 41] (by decide +kernel) (by decide +kernel)
set_option maxRecDepth 20000 in
theorem gX4_rescale_X4_nodesIn : GoodIn wsX4_rescale (wsV RX4 91 RX4 yX4_nodesIn wsX4_nodesIn) := goodIn_app (goodIn_of _ (by decide +kernel)) ggX4_rescale_X4_nodesIn
set_option maxRecDepth 20000 in
theorem ggX4_rescale_X4_isNode : GoodIn wsX4_rescale wsX4_isNode := goodIn_r _ [23, 24, 25, 26, 27, 28, 29, 30, 31, 32, 33, 34, 35, 36, 37, 38, 39, 40, 41] (by decide +kernel) (by decide +kernel)
set_option maxRecDepth 20000 in
theorem gX4_rescale_X4_isNode : GoodIn wsX4_rescale (wsV RX4 85 RX4 yX4_isNode wsX4_isNode) := goodIn_app (goodIn_of _ (by decide +kernel)) ggX4_rescale_X4_isNode
set_option maxRecDepth 20000 in
theorem ggX4_addNode_X4_isContext : GoodIn wsX4_addNode wsX4_isContext := goodIn_r _ [12, 13, 45, 46, 47, 48, 49, 50, 51, 52, 53, 54, 55, 56, 57, 58, 59, 60, 61] (by decide +kernel) (by decide +kernel)
set_option maxRecDepth 20000 in
theorem gX4_addNode_X4_isContext : GoodIn wsX4_addNode (wsV RX4 81 RX4 yX4_isContext wsX4_isContext) := goodIn_app (goodIn_of _ (by decide +kernel)) ggX4_addNode_X4_isContext
set_option maxRecDepth 20000 in
theorem ggX4_addNode_X4_growNodes : GoodIn wsX4_addNode wsX4_growNodes := goodIn_r _ [17, 1, 2, 3, 4, 18, 19, 20, 21, 22, 23, 24, 25, 26, 27, 28, 29, 30, 31, 32, 33, 34, 35, 36, 37, 38, 39, 40, 45, 46, 47, 48, 49, 50, 51, 52, 53, 54, 55, 56, 57, 58, 59, 60, 61] (by decide +kernel) (by decide +kernel)
set_option maxRecDepth 20000 in
theorem gX4_addNode_X4_growNodes : GoodIn wsX4_addNode (wsV RX4 133 RX4 yX4_growNodes wsX4_growNodes) := goodIn_app (goodIn_of _ (by decide +kernel)) ggX4_addNode_X4_growNodes
set_option maxRecDepth 20000 in
theorem ggX4_addNode_X4_isNode : GoodIn wsX4_addNode wsX4_isNode := goodIn_r _ [44, 1, 45, 46, 47, 48, 49, 50, 51, 52, 53, 54, 55, 56, 57, 58, 59, 60, 61] (by decide +kernel) (by decide +kernel)
set_option maxRecDepth 20000 in
theorem gX4_addNode_X4_isNode : GoodIn wsX4_addNode (wsV RX4 85 RX4 yX4_isNode wsX4_isNode) := goodIn_app (goodIn_of _ (by decide +kernel)) ggX4_addNode_X4_isNode
set_option maxRecDepth 20000 in
theorem ggX4_addContext_X4_growContexts : GoodIn wsX4_addContext wsX4_growContexts := goodIn_r _ [12, 1, 2, 3, 4, 5, 6, 13, 14, 15, 16, 17, 18, 19, 20, 21, 22, 23, 24, 25, 26, 27, 28, 29, 30, 31, 32, 33, 34, 35, 39, 40, 41, 42, 43, 44, 45, 46, 47, 48, 49, 50, 51, 52, 53, 54, 55] (by decide +kernel) (by decide +kernel)
set_option maxRecDepth 20000 in
theorem gX4_addContext_X4_growContexts : GoodIn wsX4_addContext (wsV RX4 136 RX4 yX4_growContexts wsX4_growContexts) := goodIn_app (goodIn_of _ (by decide +kernel)) ggX4_addContext_X4_growContexts
set_option maxRecDepth 20000 in
theorem ggX4_addContext_X4_bucketOf : GoodIn wsX4_addContext wsX4_bucketOf := goodIn_r _ [38] (by decide +kernel) (by decide +kernel)
set_option maxRecDepth 20000 in
theorem gX4_addContext_X4_bucketOf : GoodIn wsX4_addContext (va_wsS RX4 77 yX4_bucketOf wsX4_bucketOf) := goodIn_app (goodIn_of _ (by decide +kernel)) ggX4_addContext_X4_bucketOf
set_option maxRecDepth 20000 in
theorem ggX4_growNodes_X7_grown : GoodIn wsX4_growNodes wsX7_grown := goodIn_r _ [7, 8, 9, 10, 11] (by decide +kernel) (by decide +kernel)
set_option maxRecDepth 20000 in
theorem gX4_growNodes_X7_grown_n139 : GoodIn wsX4_growNodes (wsX7_grown) := ggX4_growNodes_X7_grown
set_option maxRecDepth 20000 in
theorem ggX4_growNodes_J7_copyOf_59c91 : GoodIn wsX4_growNodes wsJ7_copyOf_59c91 := goodIn_r _ [15, 16, 17, 18, 19, 20, 21, 22, 23, 9, 10, 11, 24, 25, 26, 27] (by decide +kernel) (by decide +kernel)
set_option maxRecDepth 20000 in
theorem gX4_growNodes_J7_copyOf_59c91 : GoodIn wsX4_growNodes (va_wsS RX4 142 yJ7_copyOf_59c91 wsJ7_copyOf_59c91) := goodIn_app (goodIn_of _ (by decide +kernel)) ggX4_growNodes_J7_copyOf_59c91
set_option maxRecDepth 20000 in
theorem ggX4_growContexts_X7_grown : GoodIn wsX4_growContexts wsX7_grown := goodIn_r _ [9, 10, 11, 12, 13] (by decide +kernel) (by decide +kernel)
set_option maxRecDepth 20000 in
theorem gX4_growContexts_X7_grown_n139 : GoodIn wsX4_growContexts (wsX7_grown) := ggX4_growContexts_X7_grown
set_option maxRecDepth 20000 in
theorem ggX4_growContexts_J7_copyOf_59c91 : GoodIn wsX4_growContexts wsJ7_copyOf_59c91 := goodIn_r _ [17, 18, 19, 20, 21, 22, 23, 24, 25, 11, 12, 13, 26, 27, 28, 29] (by decide +kernel) (by decide +kernel)
set_option maxRecDepth 20000 in
theorem gX4_growContexts_J7_copyOf_59c91 : GoodIn wsX4_growContexts (va_wsS RX4 142 yJ7_copyOf_59c91 wsJ7_copyOf_59c91) := goodIn_app (goodIn_of _ (by decide +kernel)) ggX4_growContexts_J7_copyOf_59c91
set_option maxRecDepth 20000 in
theorem ggX4_dropAll_X4_bucketOf : GoodIn wsX4_dropAll wsX4_bucketOf := goodIn_r _ [8] (by decide +kernel) (by decide +kernel)
set_option maxRecDepth 20000 in
theorem gX4_dropAll_X4_bucketOf : GoodIn wsX4_dropAll (va_wsS RX4 77 yX4_bucketOf wsX4_bucketOf) := goodIn_app (goodIn_of _ (by decide +kernel)) ggX4_dropAll_X4_bucketOf
set_option maxRecDepth 20000 in
theorem ggX5_add_X7_grown : GoodIn wsX5_add wsX7_grown := goodIn_r _ [6, 7, 8, 9, 10] (by decide +kernel) (by decide +kernel)
set_option maxRecDepth 20000 in
theorem gX5_add_X7_grown_n22 : GoodIn wsX5_add (wsX7_grown) := ggX5_add_X7_grown
set_option maxRecDepth 20000 in
theorem ggX5_add_J7_copyOf_c38d5 : GoodIn wsX5_add wsJ7_copyOf_c38d5 := goodIn_r _ [14, 15, 16, 17, 18, 19, 20, 21, 22, 8, 9, 10, 23, 24, 25, 26] (by decide +kernel) (by decide +kernel)
set_option maxRecDepth 20000 in
theorem gX5_add_J7_copyOf_c38d5 : GoodIn wsX5_add (va_wsS RX5 26 yJ7_copyOf_c38d5 wsJ7_copyOf_c38d5) := goodIn_app (goodIn_of _ (by decide +kernel)) ggX5_add_J7_copyOf_c38d5
set_option maxRecDepth 20000 in
theorem ggX6_tell_X4_topOrder : GoodIn wsX6_tell wsX4_topOrder := goodIn_r _ [10, 11, 231, 232, 233, 234, 235, 236, 237, 238, 239, 240, 241, 242, 243, 244, 245, 246, 247] (by decide +kernel) (by decide +kernel)
set_option maxRecDepth 20000 in
theorem gX6_tell_X4_topOrder : GoodIn wsX6_tell (wsV RX6 39 RX4 yX4_topOrder wsX4_topOrder) := goodIn_app (goodIn_of _ (by decide +kernel)) ggX6_tell_X4_topOrder
set_option maxRecDepth 20000 in
theorem ggX6_tell_X4_keyHere : GoodIn wsX6_tell wsX4_keyHere := goodIn_r _ [15, 16, 17, 18, 19, 20, 21, 22, 23, 231, 232, 233, 234, 235, 236, 237, 238, 239, 240, 241, 242, 243, 244, 245, 246, 247] (by decide +kernel) (by decide +kernel)
set_option maxRecDepth 20000 in
theorem gX6_tell_X4_keyHere : GoodIn wsX6_tell (wsV RX6 45 RX4 yX4_keyHere wsX4_keyHere) := goodIn_app (goodIn_of _ (by decide +kernel)) ggX6_tell_X4_keyHere
set_option maxRecDepth 20000 in
theorem ggX6_tell_X4_find : GoodIn wsX6_tell wsX4_find := goodIn_r _ [27, 28, 29, 30, 31, 32, 33, 9, 34, 35, 36, 37, 38, 231, 232, 233, 234, 235, 236, 237, 238, 239, 240, 241, 242, 243, 244, 245, 246, 247] (by decide +kernel) (by decide +kernel)
set_option maxRecDepth 20000 in
theorem gX6_tell_X4_find : GoodIn wsX6_tell (wsV RX6 49 RX4 yX4_find wsX4_find) := goodIn_app (goodIn_of _ (by decide +kernel)) ggX6_tell_X4_find
set_option maxRecDepth 20000 in
theorem ggX6_tell_X6_gather : GoodIn wsX6_tell wsX6_gather := goodIn_r _ [43, 4, 44, 3, 45, 46, 47, 48, 49, 9, 50, 51, 35, 36, 37, 38, 29, 52, 53, 54, 55, 56, 57, 58, 59, 60, 61, 62, 63, 64, 65, 66, 67, 68, 69, 42, 70, 71, 1, 22, 19, 23, 72, 73, 74, 75, 76, 77, 78, 79, 80, 81, 221, 222, 223, 224, 225, 226, 227, 228, 229, 230, 231, 232, 233, 234, 235, 236, 237, 238, 239, 240, 241, 242, 243, 244, 245, 246, 247] (by decide +kernel) (by decide +kernel)
set_option maxRecDepth 20000 in
theorem gX6_tell_X6_gather : GoodIn wsX6_tell (wsV RX6 52 RX6 yX6_gather wsX6_gather) := goodIn_app (goodIn_of _ (by decide +kernel)) ggX6_tell_X6_gather
set_option maxRecDepth 20000 in
theorem ggX6_tell_X6_tellAmongLive : GoodIn wsX6_tell wsX6_tellAmongLive := goodIn_r _ [85, 44, 4, 46, 86, 45, 87, 88, 89, 42, 90, 91, 92, 93, 94, 95, 96, 97, 98, 99, 100, 101, 102, 103, 104, 105, 106, 107, 108, 109, 110, 111, 112, 113, 114, 115, 116, 117, 118, 119, 120, 121, 122, 123, 124, 125, 126, 127, 128, 129, 130, 131, 132, 133, 134, 135, 136, 137, 138, 139, 140, 141, 142, 143, 144, 145, 146, 147, 148, 149, 150, 151, 152, 153, 154, 155, 156, 157, 158, 159, 160, 161, 162, 163, 164, 165, 166, 22, 19, 23, 167, 168, 169, 170, 171, 172, 173, 174, 175, 176, 177, 178, 179, 180, 181, 182, 183, 184, 185, 186, 187, 188, 189, 190, 191, 192, 193, 194, 195, 196, 197, 198, 199, 200, 201, 202, 203, 204, 205, 206, 207, 208, 71, 1, 2, 221, 222, 223, 224, 225, 226, 227, 228, 229, 230, 248, 249, 250, 251, 252, 253, 254, 255, 256, 257, 258, 259, 260, 261, 262] (by decide +kernel) (by decide +kernel)
set_option maxRecDepth 20000 in
theorem gX6_tell_X6_tellAmongLive : GoodIn wsX6_tell (wsV RX6 59 RX6 yX6_tellAmongLive wsX6_tellAmongLive) := goodIn_app (goodIn_of _ (by decide +kernel)) ggX6_tell_X6_tellAmongLive
set_option maxRecDepth 20000 in
theorem ggX6_tell_X6_tellPlainly : GoodIn wsX6_tell wsX6_tellPlainly := goodIn_r _ [212, 2, 86, 213, 214, 215, 42, 216, 67, 68, 69, 70, 71, 1, 22, 19, 23, 91, 92, 93, 94, 95, 96, 97, 98, 99, 100, 101, 102, 103, 104, 105, 106, 107, 108, 109, 110, 111, 112, 113, 114, 115, 116, 117, 118, 119, 120, 121, 122, 123, 124, 125, 126, 127, 128, 129, 130, 131, 132, 133, 134, 135, 136, 137, 138, 139, 140, 141, 142, 143, 144, 145, 146, 147, 148, 149, 150, 151, 152, 153, 154, 155, 156, 157, 158, 159, 160, 161, 162, 163, 164, 165, 166, 167, 168, 169, 170, 171, 172, 173, 174, 175, 176, 177, 178, 179, 180, 181, 182, 183, 184, 185, 186, 187, 188, 189, 190, 191, 192, 193, 194, 195, 196, 197, 198, 199, 200, 201, 202, 203, 204, 217, 218, 219, 220, 221, 222, 223, 224, 225, 226, 227, 228, 229, 230, 248, 249, 250, 251, 252, 253, 254, 255, 256, 257, 258, 259, 260, 261, 262] (by decide +kernel) (by decide +kernel)
set_option maxRecDepth 20000 in
theorem gX6_tell_X6_tellPlainly : GoodIn wsX6_tell (wsV RX6 63 RX6 yX6_tellPlainly wsX6_tellPlainly) := goodIn_app (goodIn_of _ (by decide +kernel)) ggX6_tell_X6_tellPlainly
set_option maxRecDepth 20000 in
theorem ggX6_gather_X4_firstNode : GoodIn wsX6_gather wsX4_firstNode := goodIn_r _ [10, 11, 12, 13, 14, 9, 15, 16, 62, 63, 64, 65, 66, 67, 68, 69, 70, 71, 72, 73, 74, 75, 76, 77, 78] (by decide +kernel) (by decide +kernel)
set_option maxRecDepth 20000 in
theorem gX6_gather_X4_firstNode : GoodIn wsX6_gather (wsV RX6 70 RX4 yX4_firstNode wsX4_firstNode) := goodIn_app (goodIn_of _ (by decide +kernel)) ggX6_gather_X4_firstNode
set_option maxRecDepth 20000 in
theorem ggX6_gather_X4_nodesIn : GoodIn wsX6_gather wsX4_nodesIn := goodIn_r _ [20, 21, 12, 13, 14, 9, 15, 16, 62, 63, 64, 65, 66, 67, 68, 69, 70, 71, 72, 73, 74, 75, 76, 77, 78] (by decide +kernel) (by decide +kernel)
set_option maxRecDepth 20000 in
theorem gX6_gather_X4_nodesIn : GoodIn wsX6_gather (wsV RX6 73 RX4 yX4_nodesIn wsX4_nodesIn) := goodIn_app (goodIn_of _ (by decide +kernel)) ggX6_gather_X4_nodesIn
set_option maxRecDepth 20000 in
theorem ggX6_gather_X4_byteOf : GoodIn wsX6_gather wsX4_byteOf := goodIn_r _ [25, 26, 27, 28, 29, 9, 30, 31, 62, 63, 64, 65, 66, 67, 68, 69, 70, 71, 72, 73, 74, 75, 76, 77, 78] (by decide +kernel) (by decide +kernel)
set_option maxRecDepth 20000 in
theorem gX6_gather_X4_byteOf : GoodIn wsX6_gather (wsV RX6 76 RX4 yX4_byteOf wsX4_byteOf) := goodIn_app (goodIn_of _ (by decide +kernel)) ggX6_gather_X4_byteOf
set_option maxRecDepth 20000 in
theorem ggX6_gather_X6_isOut : GoodIn wsX6_gather wsX6_isOut := goodIn_r _ [36, 37, 38, 39, 40, 41, 52, 53, 54, 55, 56, 57, 58, 59, 60, 61] (by decide +kernel) (by decide +kernel)
set_option maxRecDepth 20000 in
theorem gX6_gather_X6_isOut : GoodIn wsX6_gather (wsV RX6 79 RX6 yX6_isOut wsX6_isOut) := goodIn_app (goodIn_of _ (by decide +kernel)) ggX6_gather_X6_isOut
set_option maxRecDepth 20000 in
theorem ggX6_gather_X4_countOf : GoodIn wsX6_gather wsX4_countOf := goodIn_r _ [45, 46, 27, 28, 29, 9, 30, 31, 62, 63, 64, 65, 66, 67, 68, 69, 70, 71, 72, 73, 74, 75, 76, 77, 78] (by decide +kernel) (by decide +kernel)
set_option maxRecDepth 20000 in
theorem gX6_gather_X4_countOf : GoodIn wsX6_gather (wsV RX6 83 RX4 yX4_countOf wsX4_countOf) := goodIn_app (goodIn_of _ (by decide +kernel)) ggX6_gather_X4_countOf
set_option maxRecDepth 20000 in
theorem ggX6_gather_X4_nextNode : GoodIn wsX6_gather wsX4_nextNode := goodIn_r _ [50, 51, 27, 28, 29, 9, 30, 31, 62, 63, 64, 65, 66, 67, 68, 69, 70, 71, 72, 73, 74, 75, 76, 77, 78] (by decide +kernel) (by decide +kernel)
set_option maxRecDepth 20000 in
theorem gX6_gather_X4_nextNode : GoodIn wsX6_gather (wsV RX6 86 RX4 yX4_nextNode wsX4_nextNode) := goodIn_app (goodIn_of _ (by decide +kernel)) ggX6_gather_X4_nextNode
set_option maxRecDepth 20000 in
theorem ggX6_tellAmongLive_X6_liveBeginOf : GoodIn wsX6_tellAmongLive wsX6_liveBeginOf := goodIn_r _ [10, 2, 5, 3, 135, 136, 137, 138, 139, 140, 141, 142, 143, 144] (by decide +kernel) (by decide +kernel)
set_option maxRecDepth 20000 in
theorem gX6_tellAmongLive_X6_liveBeginOf : GoodIn wsX6_tellAmongLive (wsV RX6 89 RX6 yX6_liveBeginOf wsX6_liveBeginOf) := goodIn_app (goodIn_of _ (by decide +kernel)) ggX6_tellAmongLive_X6_liveBeginOf
set_option maxRecDepth 20000 in
theorem ggX6_tellAmongLive_X1_placeIn : GoodIn wsX6_tellAmongLive wsX1_placeIn := goodIn_r _ [16, 17, 18, 19, 20, 21, 22, 23, 24, 25, 26, 27, 28, 145, 146, 147, 148, 149, 150, 151, 152, 153] (by decide +kernel) (by decide +kernel)
set_option maxRecDepth 20000 in
theorem gX6_tellAmongLive_X1_placeIn_u92X1 : GoodIn wsX6_tellAmongLive (va_wsU RX6 92 RX1 "EscapeCoder$Interval" ⟨"EscapeCoder$Interval", "placeIn", "(II)I"⟩ yX1_placeIn wsX1_placeIn) := goodIn_app (goodIn_of _ (by decide +kernel)) ggX6_tellAmongLive_X1_placeIn
set_option maxRecDepth 20000 in
theorem ggX6_tellAmongLive_X2_placeIn : GoodIn wsX6_tellAmongLive wsX2_placeIn := goodIn_r _ [32] (by decide +kernel) (by decide +kernel)
set_option maxRecDepth 20000 in
theorem gX6_tellAmongLive_X2_placeIn_u92X2 : GoodIn wsX6_tellAmongLive (va_wsU RX6 92 RX2 "EscapeCoder$Interval" ⟨"EscapeCoder$Interval", "placeIn", "(II)I"⟩ yX2_placeIn wsX2_placeIn) := goodIn_app (goodIn_of _ (by decide +kernel)) ggX6_tellAmongLive_X2_placeIn
set_option maxRecDepth 20000 in
theorem ggX6_tellAmongLive_X3_narrow : GoodIn wsX6_tellAmongLive wsX3_narrow := goodIn_r _ [37, 28, 38, 39, 40, 41, 42, 43, 25, 26, 27, 44, 45, 46, 47, 48, 15, 49, 17, 50, 51, 31, 52, 53, 54, 55, 56, 57, 58, 59, 60, 61, 62, 63, 64, 65, 66, 67, 68, 69, 70, 71, 72, 73, 74, 75, 76, 77, 78, 79, 80, 81, 82, 83, 84, 85, 86, 87, 88, 89, 90, 91, 92, 93, 20, 94, 95, 96, 97, 98, 99, 100, 101, 102, 103, 104, 105, 106, 107, 108, 109, 110, 145, 146, 147, 148, 149, 150, 151, 152, 153, 154, 155, 156] (by decide +kernel) (by decide +kernel)
set_option maxRecDepth 20000 in
theorem gX6_tellAmongLive_X3_narrow_u98X1 : GoodIn wsX6_tellAmongLive (va_wsU RX6 98 RX1 "EscapeCoder$Interval" ⟨"EscapeCoder$Interval", "narrow", "(III)V"⟩ yX3_narrow wsX3_narrow) := goodIn_app (goodIn_of _ (by decide +kernel)) ggX6_tellAmongLive_X3_narrow
set_option maxRecDepth 20000 in
theorem gX6_tellAmongLive_X3_narrow_u98X2 : GoodIn wsX6_tellAmongLive (va_wsU RX6 98 RX2 "EscapeCoder$Interval" ⟨"EscapeCoder$Interval", "narrow", "(III)V"⟩ yX3_narrow wsX3_narrow) := goodIn_app (goodIn_of _ (by decide +kernel)) ggX6_tellAmongLive_X3_narrow
set_option maxRecDepth 20000 in
theorem ggX6_tellAmongLive_X5_add : GoodIn wsX6_tellAmongLive wsX5_add := goodIn_r _ [116, 117, 118, 119, 90, 88, 91, 92, 93, 20, 94, 120, 121, 97, 122, 123, 124, 101, 102, 125, 126, 127, 106, 107, 108, 109, 110, 157, 158, 159] (by decide +kernel) (by decide +kernel)
set_option maxRecDepth 20000 in
theorem gX6_tellAmongLive_X5_add : GoodIn wsX6_tellAmongLive (wsV RX6 102 RX5 yX5_add wsX5_add) := goodIn_app (goodIn_of _ (by decide +kernel)) ggX6_tellAmongLive_X5_add
set_option maxRecDepth 20000 in
theorem ggX6_tellAmongLive_X6_putLiveOut : GoodIn wsX6_tellAmongLive wsX6_putLiveOut := goodIn_r _ [131, 2, 5, 132, 133, 134, 87, 88, 89, 135, 136, 137, 138, 139, 140, 141, 142, 143, 144] (by decide +kernel) (by decide +kernel)
set_option maxRecDepth 20000 in
theorem gX6_tellAmongLive_X6_putLiveOut : GoodIn wsX6_tellAmongLive (wsV RX6 108 RX6 yX6_putLiveOut wsX6_putLiveOut) := goodIn_app (goodIn_of _ (by decide +kernel)) ggX6_tellAmongLive_X6_putLiveOut
set_option maxRecDepth 20000 in
theorem ggX6_putLiveOut_X7_isByte : GoodIn wsX6_putLiveOut wsX7_isByte := goodIn_r _ [8] (by decide +kernel) (by decide +kernel)
set_option maxRecDepth 20000 in
theorem gX6_putLiveOut_X7_isByte_n111 : GoodIn wsX6_putLiveOut (wsX7_isByte) := ggX6_putLiveOut_X7_isByte
set_option maxRecDepth 20000 in
theorem ggX6_isOut_X7_isByte : GoodIn wsX6_isOut wsX7_isByte := goodIn_r _ [5] (by decide +kernel) (by decide +kernel)
set_option maxRecDepth 20000 in
theorem gX6_isOut_X7_isByte_n111 : GoodIn wsX6_isOut (wsX7_isByte) := ggX6_isOut_X7_isByte
set_option maxRecDepth 20000 in
theorem ggX6_tellPlainly_X6_plainBeginOf : GoodIn wsX6_tellPlainly wsX6_plainBeginOf := goodIn_r _ [7, 8, 9, 10, 6, 11, 12, 13, 14, 15, 16, 135, 136, 137, 138, 139, 140, 141, 142, 143, 144] (by decide +kernel) (by decide +kernel)
set_option maxRecDepth 20000 in
theorem gX6_tellPlainly_X6_plainBeginOf : GoodIn wsX6_tellPlainly (wsV RX6 114 RX6 yX6_plainBeginOf wsX6_plainBeginOf) := goodIn_app (goodIn_of _ (by decide +kernel)) ggX6_tellPlainly_X6_plainBeginOf
set_option maxRecDepth 20000 in
theorem ggX6_tellPlainly_X1_placeIn : GoodIn wsX6_tellPlainly wsX1_placeIn := goodIn_r _ [22, 23, 24, 25, 26, 27, 28, 29, 30, 31, 32, 33, 34, 145, 146, 147, 148, 149, 150, 151, 152, 153] (by decide +kernel) (by decide +kernel)
set_option maxRecDepth 20000 in
theorem gX6_tellPlainly_X1_placeIn_u92X1 : GoodIn wsX6_tellPlainly (va_wsU RX6 92 RX1 "EscapeCoder$Interval" ⟨"EscapeCoder$Interval", "placeIn", "(II)I"⟩ yX1_placeIn wsX1_placeIn) := goodIn_app (goodIn_of _ (by decide +kernel)) ggX6_tellPlainly_X1_placeIn
set_option maxRecDepth 20000 in
theorem ggX6_tellPlainly_X2_placeIn : GoodIn wsX6_tellPlainly wsX2_placeIn := goodIn_r _ [38] (by decide +kernel) (by decide +kernel)
set_option maxRecDepth 20000 in
theorem gX6_tellPlainly_X2_placeIn_u92X2 : GoodIn wsX6_tellPlainly (va_wsU RX6 92 RX2 "EscapeCoder$Interval" ⟨"EscapeCoder$Interval", "placeIn", "(II)I"⟩ yX2_placeIn wsX2_placeIn) := goodIn_app (goodIn_of _ (by decide +kernel)) ggX6_tellPlainly_X2_placeIn
set_option maxRecDepth 20000 in
theorem ggX6_tellPlainly_X3_narrow : GoodIn wsX6_tellPlainly wsX3_narrow := goodIn_r _ [43, 34, 44, 45, 46, 47, 48, 49, 31, 32, 33, 50, 51, 52, 53, 54, 21, 55, 23, 56, 57, 37, 58, 59, 60, 61, 62, 63, 64, 65, 66, 67, 68, 69, 70, 71, 72, 73, 74, 75, 76, 77, 78, 79, 80, 81, 82, 83, 84, 85, 86, 87, 88, 89, 90, 91, 92, 14, 15, 16, 93, 94, 95, 96, 26, 97, 98, 99, 100, 101, 102, 103, 104, 105, 106, 107, 108, 109, 110, 111, 112, 113, 145, 146, 147, 148, 149, 150, 151, 152, 153, 154, 155, 156] (by decide +kernel) (by decide +kernel)
set_option maxRecDepth 20000 in
theorem gX6_tellPlainly_X3_narrow_u98X1 : GoodIn wsX6_tellPlainly (va_wsU RX6 98 RX1 "EscapeCoder$Interval" ⟨"EscapeCoder$Interval", "narrow", "(III)V"⟩ yX3_narrow wsX3_narrow) := goodIn_app (goodIn_of _ (by decide +kernel)) ggX6_tellPlainly_X3_narrow
set_option maxRecDepth 20000 in
theorem gX6_tellPlainly_X3_narrow_u98X2 : GoodIn wsX6_tellPlainly (va_wsU RX6 98 RX2 "EscapeCoder$Interval" ⟨"EscapeCoder$Interval", "narrow", "(III)V"⟩ yX3_narrow wsX3_narrow) := goodIn_app (goodIn_of _ (by decide +kernel)) ggX6_tellPlainly_X3_narrow
set_option maxRecDepth 20000 in
theorem ggX6_tellPlainly_X5_add : GoodIn wsX6_tellPlainly wsX5_add := goodIn_r _ [119, 120, 121, 122, 93, 15, 94, 95, 96, 26, 97, 123, 124, 100, 125, 126, 127, 104, 105, 128, 129, 130, 109, 110, 111, 112, 113, 157, 158, 159] (by decide +kernel) (by decide +kernel)
set_option maxRecDepth 20000 in
theorem gX6_tellPlainly_X5_add : GoodIn wsX6_tellPlainly (wsV RX6 102 RX5 yX5_add wsX5_add) := goodIn_app (goodIn_of _ (by decide +kernel)) ggX6_tellPlainly_X5_add
set_option maxRecDepth 20000 in
theorem ggX6_tellPlainly_X6_plainSymbolAt : GoodIn wsX6_tellPlainly wsX6_plainSymbolAt := goodIn_r _ [134, 8, 9, 10, 6, 11, 12, 13, 14, 15, 16, 135, 136, 137, 138, 139, 140, 141, 142, 143, 144] (by decide +kernel) (by decide +kernel)
set_option maxRecDepth 20000 in
theorem gX6_tellPlainly_X6_plainSymbolAt : GoodIn wsX6_tellPlainly (wsV RX6 117 RX6 yX6_plainSymbolAt wsX6_plainSymbolAt) := goodIn_app (goodIn_of _ (by decide +kernel)) ggX6_tellPlainly_X6_plainSymbolAt
set_option maxRecDepth 20000 in
theorem ggX6_plainBeginOf_X6_isOut : GoodIn wsX6_plainBeginOf wsX6_isOut := goodIn_r _ [5, 6, 7, 8, 9, 10, 11, 12, 13, 14, 15, 16, 17, 18, 19, 20] (by decide +kernel) (by decide +kernel)
set_option maxRecDepth 20000 in
theorem gX6_plainBeginOf_X6_isOut : GoodIn wsX6_plainBeginOf (wsV RX6 79 RX6 yX6_isOut wsX6_isOut) := goodIn_app (goodIn_of _ (by decide +kernel)) ggX6_plainBeginOf_X6_isOut
set_option maxRecDepth 20000 in
theorem ggX6_plainSymbolAt_X6_isOut : GoodIn wsX6_plainSymbolAt wsX6_isOut := goodIn_r _ [5, 6, 7, 8, 9, 10, 11, 12, 13, 14, 15, 16, 17, 18, 19, 20] (by decide +kernel) (by decide +kernel)
