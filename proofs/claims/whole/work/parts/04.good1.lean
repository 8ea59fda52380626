set_option maxRecDepth 20000 in
theorem gX6_plainSymbolAt_X6_isOut : GoodIn wsX6_plainSymbolAt (wsV RX6 79 RX6 yX6_isOut wsX6_isOut) := goodIn_app (goodIn_of _ (by decide +kernel)) ggX6_plainSymbolAt_X6_isOut
set_option maxRecDepth 20000 in
theorem ggX7_init_X0_init : GoodIn wsX7_init wsX0_init := goodIn_r _ [32, 33, 2, 3, 34, 35, 36, 82, 83, 84] (by decide +kernel) (by decide +kernel)
set_option maxRecDepth 20000 in
theorem gX7_init_X0_init : GoodIn wsX7_init (wsX0_init) := ggX7_init_X0_init
set_option maxRecDepth 20000 in
theorem ggX7_init_X5_init : GoodIn wsX7_init wsX5_init := goodIn_r _ [39, 40, 2, 3, 41, 42, 95, 96, 97] (by decide +kernel) (by decide +kernel)
set_option maxRecDepth 20000 in
theorem gX7_init_X5_init : GoodIn wsX7_init (wsX5_init) := ggX7_init_X5_init
set_option maxRecDepth 20000 in
theorem ggX7_init_X4_init : GoodIn wsX7_init wsX4_init := goodIn_r _ [45, 46, 2, 3, 47, 35, 48, 49, 50, 51, 52, 53, 54, 55, 56, 57, 58, 59, 60, 98, 99, 100, 101, 102, 103, 104, 105, 106, 107, 108, 109, 110, 111, 112, 113, 114] (by decide +kernel) (by decide +kernel)
set_option maxRecDepth 20000 in
theorem gX7_init_X4_init : GoodIn wsX7_init (wsX4_init) := ggX7_init_X4_init
set_option maxRecDepth 20000 in
theorem ggX7_init_X6_init : GoodIn wsX7_init wsX6_init := goodIn_r _ [63, 64, 2, 3, 65, 66, 35, 67, 68, 69, 115, 116, 117, 118, 119, 120, 121, 122, 123, 124] (by decide +kernel) (by decide +kernel)
set_option maxRecDepth 20000 in
theorem gX7_init_X6_init : GoodIn wsX7_init (wsX6_init) := ggX7_init_X6_init
set_option maxRecDepth 20000 in
theorem ggX7_init_X2_init : GoodIn wsX7_init wsX2_init := goodIn_r _ [72, 73, 74, 75, 76, 77, 2, 3, 125, 126, 127, 128] (by decide +kernel) (by decide +kernel)
set_option maxRecDepth 20000 in
theorem gX7_init_X2_init : GoodIn wsX7_init (wsX2_init) := ggX7_init_X2_init
set_option maxRecDepth 20000 in
theorem ggX7_init_X1_init : GoodIn wsX7_init wsX1_init := goodIn_r _ [80, 81, 74, 75, 76, 77, 2, 3, 129, 130, 131, 132, 133] (by decide +kernel) (by decide +kernel)
set_option maxRecDepth 20000 in
theorem gX7_init_X1_init : GoodIn wsX7_init (wsX1_init) := ggX7_init_X1_init
set_option maxRecDepth 20000 in
theorem ggX7_begin_X0_clear : GoodIn wsX7_begin wsX0_clear := goodIn_r _ [12, 13, 55, 56, 57] (by decide +kernel) (by decide +kernel)
set_option maxRecDepth 20000 in
theorem gX7_begin_X0_clear : GoodIn wsX7_begin (wsV RX7 63 RX0 yX0_clear wsX0_clear) := goodIn_app (goodIn_of _ (by decide +kernel)) ggX7_begin_X0_clear
set_option maxRecDepth 20000 in
theorem ggX7_begin_X5_clear : GoodIn wsX7_begin wsX5_clear := goodIn_r _ [18, 19, 20, 58, 59, 60] (by decide +kernel) (by decide +kernel)
set_option maxRecDepth 20000 in
theorem gX7_begin_X5_clear : GoodIn wsX7_begin (wsV RX7 66 RX5 yX5_clear wsX5_clear) := goodIn_app (goodIn_of _ (by decide +kernel)) ggX7_begin_X5_clear
set_option maxRecDepth 20000 in
theorem ggX7_begin_X4_restart : GoodIn wsX7_begin wsX4_restart := goodIn_r _ [25, 26, 27, 28, 29, 30, 31, 24, 32, 33, 34, 35, 36, 37, 38, 39, 61, 62, 63, 64, 65, 66, 67, 68, 69, 70, 71, 72, 73, 74, 75, 76, 77] (by decide +kernel) (by decide +kernel)
set_option maxRecDepth 20000 in
theorem gX7_begin_X4_restart : GoodIn wsX7_begin (wsV RX7 67 RX4 yX4_restart wsX4_restart) := goodIn_app (goodIn_of _ (by decide +kernel)) ggX7_begin_X4_restart
set_option maxRecDepth 20000 in
theorem ggX7_begin_X4_limitTo : GoodIn wsX7_begin wsX4_limitTo := goodIn_r _ [43, 44, 61, 62, 63, 64, 65, 66, 67, 68, 69, 70, 71, 72, 73, 74, 75, 76, 77] (by decide +kernel) (by decide +kernel)
set_option maxRecDepth 20000 in
theorem gX7_begin_X4_limitTo : GoodIn wsX7_begin (wsV RX7 70 RX4 yX4_limitTo wsX4_limitTo) := goodIn_app (goodIn_of _ (by decide +kernel)) ggX7_begin_X4_limitTo
set_option maxRecDepth 20000 in
theorem ggX7_feed_X0_add : GoodIn wsX7_feed wsX0_add := goodIn_r _ [6, 7, 8, 9, 10, 11, 12, 13, 14, 15, 16, 17, 18, 19, 20, 21, 22, 23, 24, 25, 26, 27, 28, 29, 30, 31, 32, 33, 34, 45, 46, 47] (by decide +kernel) (by decide +kernel)
set_option maxRecDepth 20000 in
theorem gX7_feed_X0_add : GoodIn wsX7_feed (wsV RX7 80 RX0 yX0_add wsX0_add) := goodIn_app (goodIn_of _ (by decide +kernel)) ggX7_feed_X0_add
set_option maxRecDepth 20000 in
theorem ggX7_cut_X0_shorten : GoodIn wsX7_cut wsX0_shorten := goodIn_r _ [6, 7, 18, 19, 20] (by decide +kernel) (by decide +kernel)
set_option maxRecDepth 20000 in
theorem gX7_cut_X0_shorten : GoodIn wsX7_cut (wsV RX7 84 RX0 yX0_shorten wsX0_shorten) := goodIn_app (goodIn_of _ (by decide +kernel)) ggX7_cut_X0_shorten
set_option maxRecDepth 20000 in
theorem ggX7_encode_X5_clear : GoodIn wsX7_encode wsX5_clear := goodIn_r _ [11, 12, 13, 346, 347, 348] (by decide +kernel) (by decide +kernel)
set_option maxRecDepth 20000 in
theorem gX7_encode_X5_clear : GoodIn wsX7_encode (wsV RX7 66 RX5 yX5_clear wsX5_clear) := goodIn_app (goodIn_of _ (by decide +kernel)) ggX7_encode_X5_clear
set_option maxRecDepth 20000 in
theorem ggX7_encode_X4_restart : GoodIn wsX7_encode wsX4_restart := goodIn_r _ [18, 19, 20, 21, 22, 23, 24, 17, 25, 26, 27, 28, 29, 30, 31, 32, 349, 350, 351, 352, 353, 354, 355, 356, 357, 358, 359, 360, 361, 362, 363, 364, 365] (by decide +kernel) (by decide +kernel)
set_option maxRecDepth 20000 in
theorem gX7_encode_X4_restart : GoodIn wsX7_encode (wsV RX7 67 RX4 yX4_restart wsX4_restart) := goodIn_app (goodIn_of _ (by decide +kernel)) ggX7_encode_X4_restart
set_option maxRecDepth 20000 in
theorem ggX7_encode_X2_restart : GoodIn wsX7_encode wsX2_restart := goodIn_r _ [37, 38, 39, 40, 41, 42, 43, 44, 45, 46, 47, 48, 49, 50, 51, 52, 53, 54, 366, 367, 368, 369, 370, 371, 372, 373, 374, 375, 376, 377] (by decide +kernel) (by decide +kernel)
set_option maxRecDepth 20000 in
theorem gX7_encode_X2_restart : GoodIn wsX7_encode (wsV RX7 87 RX2 yX2_restart wsX2_restart) := goodIn_app (goodIn_of _ (by decide +kernel)) ggX7_encode_X2_restart
set_option maxRecDepth 20000 in
theorem ggX7_encode_X0_length : GoodIn wsX7_encode wsX0_length := goodIn_r _ [58, 54, 375, 376, 377] (by decide +kernel) (by decide +kernel)
set_option maxRecDepth 20000 in
theorem gX7_encode_X0_length : GoodIn wsX7_encode (wsV RX7 88 RX0 yX0_length wsX0_length) := goodIn_app (goodIn_of _ (by decide +kernel)) ggX7_encode_X0_length
set_option maxRecDepth 20000 in
theorem ggX7_encode_X0_byteAt : GoodIn wsX7_encode wsX0_byteAt := goodIn_r _ [62, 54, 63, 375, 376, 377] (by decide +kernel) (by decide +kernel)
set_option maxRecDepth 20000 in
theorem gX7_encode_X0_byteAt : GoodIn wsX7_encode (wsV RX7 92 RX0 yX0_byteAt wsX0_byteAt) := goodIn_app (goodIn_of _ (by decide +kernel)) ggX7_encode_X0_byteAt
set_option maxRecDepth 20000 in
theorem ggX7_encode_X6_tell : GoodIn wsX7_encode wsX6_tell := goodIn_r _ [68, 69, 70, 71, 72, 73, 74, 75, 76, 17, 77, 19, 78, 79, 80, 81, 82, 83, 84, 85, 86, 87, 88, 89, 90, 91, 92, 93, 27, 26, 28, 94, 30, 31, 32, 95, 96, 97, 98, 99, 100, 101, 67, 102, 103, 104, 105, 106, 107, 108, 109, 110, 111, 112, 113, 114, 115, 116, 117, 118, 119, 120, 121, 122, 123, 124, 29, 125, 126, 127, 128, 129, 130, 131, 132, 133, 134, 135, 136, 137, 138, 139, 140, 141, 142, 143, 144, 145, 146, 147, 148, 149, 150, 151, 152, 153, 154, 155, 156, 157, 158, 159, 160, 161, 162, 163, 44, 164, 47, 165, 166, 36, 167, 168, 169, 170, 171, 172, 173, 174, 48, 175, 176, 177, 178, 179, 180, 181, 182, 183, 184, 185, 186, 39, 187, 38, 188, 189, 190, 52, 191, 54, 63, 192, 193, 194, 195, 196, 197, 198, 199, 200, 56, 57, 58, 201, 60, 61, 62, 202, 203, 204, 205, 206, 207, 208, 209, 210, 211, 212, 213, 214, 215, 216, 217, 218, 219, 220, 221, 222, 223, 224, 225, 226, 227, 228, 229, 230, 231, 232, 233, 234, 10, 235, 12, 236, 13, 237, 238, 239, 240, 241, 242, 243, 244, 245, 246, 247, 248, 249, 250, 251, 252, 253, 254, 255, 256, 257, 258, 259, 260, 378, 379, 380, 381, 382, 383, 384, 385, 386, 387, 349, 350, 351, 352, 353, 354, 355, 356, 357, 358, 359, 360, 361, 362, 363, 364, 365, 370, 371, 372, 373, 374, 366, 367, 368, 369, 375, 376, 377, 346, 347, 348] (by decide +kernel) (by decide +kernel)
set_option maxRecDepth 20000 in
theorem gX7_encode_X6_tell : GoodIn wsX7_encode (wsV RX7 96 RX6 yX6_tell wsX6_tell) := goodIn_app (goodIn_of _ (by decide +kernel)) ggX7_encode_X6_tell
set_option maxRecDepth 20000 in
theorem ggX7_encode_X6_toldOrder : GoodIn wsX7_encode wsX6_toldOrder := goodIn_r _ [264, 73, 378, 379, 380, 381, 382, 383, 384, 385, 386, 387] (by decide +kernel) (by decide +kernel)
set_option maxRecDepth 20000 in
theorem gX7_encode_X6_toldOrder : GoodIn wsX7_encode (wsV RX7 100 RX6 yX6_toldOrder wsX6_toldOrder) := goodIn_app (goodIn_of _ (by decide +kernel)) ggX7_encode_X6_toldOrder
set_option maxRecDepth 20000 in
theorem ggX7_encode_X4_learn : GoodIn wsX7_encode wsX4_learn := goodIn_r _ [268, 269, 270, 158, 271, 19, 82, 83, 272, 213, 214, 273, 79, 80, 17, 81, 84, 85, 86, 87, 88, 89, 274, 275, 276, 277, 134, 29, 278, 21, 279, 91, 92, 93, 27, 26, 28, 94, 30, 31, 32, 95, 96, 97, 98, 280, 281, 282, 283, 284, 107, 108, 109, 110, 285, 112, 113, 114, 115, 286, 117, 118, 119, 120, 121, 122, 123, 124, 287, 136, 137, 138, 139, 288, 289, 290, 291, 20, 22, 23, 24, 25, 292, 293, 294, 295, 296, 297, 298, 299, 300, 210, 211, 212, 301, 216, 217, 218, 219, 220, 221, 222, 223, 224, 225, 226, 227, 228, 229, 230, 302, 303, 304, 305, 306, 307, 308, 309, 349, 350, 351, 352, 353, 354, 355, 356, 357, 358, 359, 360, 361, 362, 363, 364, 365] (by decide +kernel) (by decide +kernel)
set_option maxRecDepth 20000 in
theorem gX7_encode_X4_learn : GoodIn wsX7_encode (wsV RX7 103 RX4 yX4_learn wsX4_learn) := goodIn_app (goodIn_of _ (by decide +kernel)) ggX7_encode_X4_learn
set_option maxRecDepth 20000 in
theorem ggX7_encode_X7_noteEnd : GoodIn wsX7_encode wsX7_noteEnd := goodIn_r _ [313, 314, 315, 316, 317, 318, 319, 44, 320, 48, 321, 322, 323, 324, 325, 326, 47, 327, 336, 337, 338, 339, 340, 341, 342, 343, 344, 345, 370, 371, 372, 373, 374, 366, 367, 368, 369] (by decide +kernel) (by decide +kernel)
set_option maxRecDepth 20000 in
theorem gX7_encode_X7_noteEnd : GoodIn wsX7_encode (wsV RX7 107 RX7 yX7_noteEnd wsX7_noteEnd) := goodIn_app (goodIn_of _ (by decide +kernel)) ggX7_encode_X7_noteEnd
set_option maxRecDepth 20000 in
theorem ggX7_encode_X2_finish : GoodIn wsX7_encode wsX2_finish := goodIn_r _ [331, 38, 39, 332, 333, 334, 335, 319, 44, 320, 48, 49, 50, 51, 52, 53, 54, 205, 206, 207, 208, 209, 63, 88, 85, 89, 210, 211, 212, 213, 158, 214, 215, 216, 217, 218, 219, 220, 221, 222, 223, 224, 225, 226, 227, 228, 229, 230, 366, 367, 368, 369, 370, 371, 372, 373, 374, 375, 376, 377] (by decide +kernel) (by decide +kernel)
set_option maxRecDepth 20000 in
theorem gX7_encode_X2_finish : GoodIn wsX7_encode (wsV RX7 111 RX2 yX2_finish wsX2_finish) := goodIn_app (goodIn_of _ (by decide +kernel)) ggX7_encode_X2_finish
set_option maxRecDepth 20000 in
theorem ggX7_decode_X5_clear : GoodIn wsX7_decode wsX5_clear := goodIn_r _ [10, 11, 12, 347, 348, 349] (by decide +kernel) (by decide +kernel)
set_option maxRecDepth 20000 in
theorem gX7_decode_X5_clear : GoodIn wsX7_decode (wsV RX7 66 RX5 yX5_clear wsX5_clear) := goodIn_app (goodIn_of _ (by decide +kernel)) ggX7_decode_X5_clear
set_option maxRecDepth 20000 in
theorem ggX7_decode_X4_restart : GoodIn wsX7_decode wsX4_restart := goodIn_r _ [17, 18, 19, 20, 21, 22, 23, 16, 24, 25, 26, 27, 28, 29, 30, 31, 350, 351, 352, 353, 354, 355, 356, 357, 358, 359, 360, 361, 362, 363, 364, 365, 366] (by decide +kernel) (by decide +kernel)
set_option maxRecDepth 20000 in
theorem gX7_decode_X4_restart : GoodIn wsX7_decode (wsV RX7 67 RX4 yX4_restart wsX4_restart) := goodIn_app (goodIn_of _ (by decide +kernel)) ggX7_decode_X4_restart
set_option maxRecDepth 20000 in
theorem ggX7_decode_X1_restart : GoodIn wsX7_decode wsX1_restart := goodIn_r _ [36, 37, 38, 39, 40, 41, 42, 43, 44, 45, 46, 47, 48, 49, 50, 35, 51, 52, 53, 54, 55, 56, 57, 58, 59, 60, 61, 62, 63, 64, 367, 368, 369, 370, 371, 372, 373, 374, 375, 376, 377, 378] (by decide +kernel) (by decide +kernel)
set_option maxRecDepth 20000 in
theorem gX7_decode_X1_restart : GoodIn wsX7_decode (wsV RX7 115 RX1 yX1_restart wsX1_restart) := goodIn_app (goodIn_of _ (by decide +kernel)) ggX7_decode_X1_restart
set_option maxRecDepth 20000 in
theorem ggX7_decode_X0_clear : GoodIn wsX7_decode wsX0_clear := goodIn_r _ [68, 59, 376, 377, 378] (by decide +kernel) (by decide +kernel)
set_option maxRecDepth 20000 in
theorem gX7_decode_X0_clear : GoodIn wsX7_decode (wsV RX7 63 RX0 yX0_clear wsX0_clear) := goodIn_app (goodIn_of _ (by decide +kernel)) ggX7_decode_X0_clear
set_option maxRecDepth 20000 in
theorem ggX7_decode_X7_readUpToEnd : GoodIn wsX7_decode wsX7_readUpToEnd := goodIn_r _ [73, 74, 3, 4, 2, 75, 76, 77, 78, 79, 80, 81, 82, 83, 84, 85, 86, 87, 16, 88, 18, 89, 90, 91, 92, 93, 94, 95, 72, 96, 97, 98, 99, 100, 101, 102, 103, 26, 25, 27, 104, 29, 30, 31, 105, 106, 107, 108, 109, 110, 111, 112, 113, 114, 115, 116, 117, 118, 119, 120, 121, 122, 123, 124, 125, 126, 127, 128, 129, 130, 131, 132, 133, 134, 28, 135, 136, 137, 138, 139, 140, 141, 142, 143, 144, 145, 146, 147, 148, 149, 150, 151, 152, 153, 154, 155, 156, 157, 158, 159, 160, 161, 162, 35, 163, 37, 164, 165, 166, 167, 168, 169, 170, 171, 43, 172, 46, 173, 174, 175, 176, 177, 178, 179, 180, 181, 182, 183, 47, 184, 185, 186, 187, 188, 189, 190, 191, 192, 193, 194, 195, 196, 197, 198, 199, 200, 201, 57, 202, 59, 64, 203, 204, 205, 49, 51, 52, 38, 53, 54, 55, 56, 58, 60, 61, 62, 63, 206, 207, 208, 209, 210, 211, 212, 213, 214, 215, 216, 217, 218, 219, 220, 221, 222, 223, 224, 225, 226, 227, 228, 229, 230, 231, 232, 233, 234, 235, 236, 237, 238, 9, 239, 11, 240, 12, 241, 242, 243, 244, 245, 246, 247, 248, 249, 250, 251, 252, 253, 254, 255, 256, 257, 258, 259, 260, 261, 262, 263, 264, 265, 266, 267, 268, 269, 270, 271, 272, 273, 274, 275, 276, 277, 278, 279, 280, 281, 282, 283, 20, 284, 285, 286, 287, 288, 289, 290, 291, 292, 293, 294, 295, 296, 19, 21, 22, 23, 24, 297, 298, 299, 300, 301, 302, 303, 304, 305, 306, 307, 308, 309, 310, 311, 312, 313, 314, 337, 338, 339, 340, 341, 342, 343, 344, 345, 346, 379, 380, 381, 382, 383, 384, 385, 386, 387, 388, 350, 351, 352, 353, 354, 355, 356, 357, 358, 359, 360, 361, 362, 363, 364, 365, 366, 367, 368, 369, 370, 371, 372, 373, 374, 375, 376, 377, 378, 347, 348, 349] (by decide +kernel) (by decide +kernel)
set_option maxRecDepth 20000 in
theorem gX7_decode_X7_readUpToEnd : GoodIn wsX7_decode (wsV RX7 116 RX7 yX7_readUpToEnd wsX7_readUpToEnd) := goodIn_app (goodIn_of _ (by decide +kernel)) ggX7_decode_X7_readUpToEnd
set_option maxRecDepth 20000 in
theorem ggX7_decode_X7_noteEnd : GoodIn wsX7_decode wsX7_noteEnd := goodIn_r _ [318, 319, 320, 321, 322, 323, 324, 43, 325, 47, 326, 327, 328, 329, 330, 331, 46, 332, 337, 338, 339, 340, 341, 342, 343, 344, 345, 346, 367, 368, 369, 370, 371, 372, 373, 374, 375] (by decide +kernel) (by decide +kernel)
set_option maxRecDepth 20000 in
theorem gX7_decode_X7_noteEnd : GoodIn wsX7_decode (wsV RX7 107 RX7 yX7_noteEnd wsX7_noteEnd) := goodIn_app (goodIn_of _ (by decide +kernel)) ggX7_decode_X7_noteEnd
set_option maxRecDepth 20000 in
theorem ggX7_decode_X0_length : GoodIn wsX7_decode wsX0_length := goodIn_r _ [58, 59, 376, 377, 378] (by decide +kernel) (by decide +kernel)
set_option maxRecDepth 20000 in
theorem gX7_decode_X0_length : GoodIn wsX7_decode (wsV RX7 88 RX0 yX0_length wsX0_length) := goodIn_app (goodIn_of _ (by decide +kernel)) ggX7_decode_X0_length
set_option maxRecDepth 20000 in
theorem ggX7_decode_X3_shifts : GoodIn wsX7_decode wsX3_shifts := goodIn_r _ [325, 47, 367, 368, 369, 370, 371, 372, 373, 374, 375] (by decide +kernel) (by decide +kernel)
set_option maxRecDepth 20000 in
theorem gX7_decode_X3_shifts_u119X1 : GoodIn wsX7_decode (va_wsU RX7 119 RX1 "EscapeCoder$Interval" ⟨"EscapeCoder$CodeReader", "shifts", "()I"⟩ yX3_shifts wsX3_shifts) := goodIn_app (goodIn_of _ (by decide +kernel)) ggX7_decode_X3_shifts
set_option maxRecDepth 20000 in
theorem ggX7_push_X0_add : GoodIn wsX7_push wsX0_add := goodIn_r _ [6, 7, 8, 9, 10, 11, 12, 13, 14, 15, 16, 17, 18, 19, 20, 21, 22, 23, 24, 25, 26, 27, 28, 29, 30, 31, 32, 33, 34, 45, 46, 47] (by decide +kernel) (by decide +kernel)
set_option maxRecDepth 20000 in
theorem gX7_push_X0_add : GoodIn wsX7_push (wsV RX7 80 RX0 yX0_add wsX0_add) := goodIn_app (goodIn_of _ (by decide +kernel)) ggX7_push_X0_add
set_option maxRecDepth 20000 in
theorem ggX7_change_X0_put : GoodIn wsX7_change wsX0_put := goodIn_r _ [6, 7, 8, 9, 10, 11, 22, 23, 24] (by decide +kernel) (by decide +kernel)
set_option maxRecDepth 20000 in
theorem gX7_change_X0_put : GoodIn wsX7_change (wsV RX7 122 RX0 yX0_put wsX0_put) := goodIn_app (goodIn_of _ (by decide +kernel)) ggX7_change_X0_put
set_option maxRecDepth 20000 in
theorem ggX7_keep_X0_shorten : GoodIn wsX7_keep wsX0_shorten := goodIn_r _ [6, 7, 18, 19, 20] (by decide +kernel) (by decide +kernel)
set_option maxRecDepth 20000 in
theorem gX7_keep_X0_shorten : GoodIn wsX7_keep (wsV RX7 84 RX0 yX0_shorten wsX0_shorten) := goodIn_app (goodIn_of _ (by decide +kernel)) ggX7_keep_X0_shorten
set_option maxRecDepth 20000 in
theorem ggX7_at_X7_rowOf : GoodIn wsX7_at wsX7_rowOf := goodIn_r _ [5, 6, 7, 8, 16, 17, 18, 19, 20, 21, 22, 23, 24, 25] (by decide +kernel) (by decide +kernel)
set_option maxRecDepth 20000 in
theorem gX7_at_X7_rowOf : GoodIn wsX7_at (wsV RX7 126 RX7 yX7_rowOf wsX7_rowOf) := goodIn_app (goodIn_of _ (by decide +kernel)) ggX7_at_X7_rowOf
set_option maxRecDepth 20000 in
theorem ggX7_at_X0_byteAt : GoodIn wsX7_at wsX0_byteAt := goodIn_r _ [13, 14, 15, 26, 27, 28] (by decide +kernel) (by decide +kernel)
set_option maxRecDepth 20000 in
theorem gX7_at_X0_byteAt : GoodIn wsX7_at (wsV RX7 92 RX0 yX0_byteAt wsX0_byteAt) := goodIn_app (goodIn_of _ (by decide +kernel)) ggX7_at_X0_byteAt
set_option maxRecDepth 20000 in
theorem ggX7_size_X7_rowOf : GoodIn wsX7_size wsX7_rowOf := goodIn_r _ [5, 6, 7, 8, 15, 16, 17, 18, 19, 20, 21, 22, 23, 24] (by decide +kernel) (by decide +kernel)
set_option maxRecDepth 20000 in
theorem gX7_size_X7_rowOf : GoodIn wsX7_size (wsV RX7 126 RX7 yX7_rowOf wsX7_rowOf) := goodIn_app (goodIn_of _ (by decide +kernel)) ggX7_size_X7_rowOf
set_option maxRecDepth 20000 in
theorem ggX7_size_X0_length : GoodIn wsX7_size wsX0_length := goodIn_r _ [13, 14, 25, 26, 27] (by decide +kernel) (by decide +kernel)
set_option maxRecDepth 20000 in
theorem gX7_size_X0_length : GoodIn wsX7_size (wsV RX7 88 RX0 yX0_length wsX0_length) := goodIn_app (goodIn_of _ (by decide +kernel)) ggX7_size_X0_length
set_option maxRecDepth 20000 in
theorem ggX7_step_X5_answer : GoodIn wsX7_step wsX5_answer := goodIn_r _ [6, 7, 8, 9, 10, 21, 22, 23] (by decide +kernel) (by decide +kernel)
set_option maxRecDepth 20000 in
theorem gX7_step_X5_answer : GoodIn wsX7_step (wsV RX7 130 RX5 yX5_answer wsX5_answer) := goodIn_app (goodIn_of _ (by decide +kernel)) ggX7_step_X5_answer
set_option maxRecDepth 20000 in
theorem ggX7_count_X5_made : GoodIn wsX7_count wsX5_made := goodIn_r _ [10, 11, 48, 49, 50] (by decide +kernel) (by decide +kernel)
set_option maxRecDepth 20000 in
theorem gX7_count_X5_made : GoodIn wsX7_count (wsV RX7 134 RX5 yX5_made wsX5_made) := goodIn_app (goodIn_of _ (by decide +kernel)) ggX7_count_X5_made
set_option maxRecDepth 20000 in
theorem ggX7_count_X5_escapes : GoodIn wsX7_count wsX5_escapes := goodIn_r _ [15, 16, 48, 49, 50] (by decide +kernel) (by decide +kernel)
set_option maxRecDepth 20000 in
theorem gX7_count_X5_escapes : GoodIn wsX7_count (wsV RX7 137 RX5 yX5_escapes wsX5_escapes) := goodIn_app (goodIn_of _ (by decide +kernel)) ggX7_count_X5_escapes
set_option maxRecDepth 20000 in
theorem ggX7_count_X4_rescalings : GoodIn wsX7_count wsX4_rescalings := goodIn_r _ [21, 22, 51, 52, 53, 54, 55, 56, 57, 58, 59, 60, 61, 62, 63, 64, 65, 66, 67] (by decide +kernel) (by decide +kernel)
set_option maxRecDepth 20000 in
theorem gX7_count_X4_rescalings : GoodIn wsX7_count (wsV RX7 140 RX4 yX4_rescalings wsX4_rescalings) := goodIn_app (goodIn_of _ (by decide +kernel)) ggX7_count_X4_rescalings
set_option maxRecDepth 20000 in
theorem ggX7_count_X4_resets : GoodIn wsX7_count wsX4_resets := goodIn_r _ [26, 27, 51, 52, 53, 54, 55, 56, 57, 58, 59, 60, 61, 62, 63, 64, 65, 66, 67] (by decide +kernel) (by decide +kernel)
set_option maxRecDepth 20000 in
theorem gX7_count_X4_resets : GoodIn wsX7_count (wsV RX7 143 RX4 yX4_resets wsX4_resets) := goodIn_app (goodIn_of _ (by decide +kernel)) ggX7_count_X4_resets
set_option maxRecDepth 20000 in
theorem ggX7_count_X4_nodes : GoodIn wsX7_count wsX4_nodes := goodIn_r _ [31, 32, 51, 52, 53, 54, 55, 56, 57, 58, 59, 60, 61, 62, 63, 64, 65, 66, 67] (by decide +kernel) (by decide +kernel)
set_option maxRecDepth 20000 in
theorem gX7_count_X4_nodes : GoodIn wsX7_count (wsV RX7 146 RX4 yX4_nodes wsX4_nodes) := goodIn_app (goodIn_of _ (by decide +kernel)) ggX7_count_X4_nodes
set_option maxRecDepth 20000 in
theorem ggX7_count_X4_contexts : GoodIn wsX7_count wsX4_contexts := goodIn_r _ [36, 37, 51, 52, 53, 54, 55, 56, 57, 58, 59, 60, 61, 62, 63, 64, 65, 66, 67] (by decide +kernel) (by decide +kernel)
set_option maxRecDepth 20000 in
theorem gX7_count_X4_contexts : GoodIn wsX7_count (wsV RX7 149 RX4 yX4_contexts wsX4_contexts) := goodIn_app (goodIn_of _ (by decide +kernel)) ggX7_count_X4_contexts
set_option maxRecDepth 20000 in
theorem ggX7_learnt_X7_keyOf : GoodIn wsX7_learnt wsX7_keyOf := goodIn_r _ [5, 6, 7, 4, 8] (by decide +kernel) (by decide +kernel)
set_option maxRecDepth 20000 in
theorem gX7_learnt_X7_keyOf : GoodIn wsX7_learnt (va_wsS RX7 154 yX7_keyOf wsX7_keyOf) := goodIn_app (goodIn_of _ (by decide +kernel)) ggX7_learnt_X7_keyOf
set_option maxRecDepth 20000 in
theorem ggX7_learnt_X4_find : GoodIn wsX7_learnt wsX4_find := goodIn_r _ [13, 14, 15, 16, 17, 18, 19, 12, 20, 21, 22, 23, 24, 69, 70, 71, 72, 73, 74, 75, 76, 77, 78, 79, 80, 81, 82, 83, 84, 85] (by decide +kernel) (by decide +kernel)
set_option maxRecDepth 20000 in
theorem gX7_learnt_X4_find : GoodIn wsX7_learnt (wsV RX7 158 RX4 yX4_find wsX4_find) := goodIn_app (goodIn_of _ (by decide +kernel)) ggX7_learnt_X4_find
set_option maxRecDepth 20000 in
theorem ggX7_learnt_X4_nodeOfByte : GoodIn wsX7_learnt wsX4_nodeOfByte := goodIn_r _ [28, 29, 30, 31, 12, 32, 33, 21, 22, 23, 24, 15, 34, 35, 36, 37, 38, 39, 40, 41, 42, 43, 44, 45, 46, 47, 48, 49, 50, 51, 52, 53, 69, 70, 71, 72, 73, 74, 75, 76, 77, 78, 79, 80, 81, 82, 83, 84, 85] (by decide +kernel) (by decide +kernel)
set_option maxRecDepth 20000 in
theorem gX7_learnt_X4_nodeOfByte : GoodIn wsX7_learnt (wsV RX7 161 RX4 yX4_nodeOfByte wsX4_nodeOfByte) := goodIn_app (goodIn_of _ (by decide +kernel)) ggX7_learnt_X4_nodeOfByte
set_option maxRecDepth 20000 in
theorem ggX7_learnt_X4_countOf : GoodIn wsX7_learnt wsX4_countOf := goodIn_r _ [57, 58, 44, 45, 46, 12, 47, 48, 69, 70, 71, 72, 73, 74, 75, 76, 77, 78, 79, 80, 81, 82, 83, 84, 85] (by decide +kernel) (by decide +kernel)
set_option maxRecDepth 20000 in
theorem gX7_learnt_X4_countOf : GoodIn wsX7_learnt (wsV RX7 164 RX4 yX4_countOf wsX4_countOf) := goodIn_app (goodIn_of _ (by decide +kernel)) ggX7_learnt_X4_countOf
set_option maxRecDepth 20000 in
theorem ggX7_node_X7_keyOf : GoodIn wsX7_node wsX7_keyOf := goodIn_r _ [5, 6, 7, 4, 8] (by decide +kernel) (by decide +kernel)
set_option maxRecDepth 20000 in
theorem gX7_node_X7_keyOf : GoodIn wsX7_node (va_wsS RX7 154 yX7_keyOf wsX7_keyOf) := goodIn_app (goodIn_of _ (by decide +kernel)) ggX7_node_X7_keyOf
set_option maxRecDepth 20000 in
theorem ggX7_node_X4_find : GoodIn wsX7_node wsX4_find := goodIn_r _ [13, 14, 15, 16, 17, 18, 19, 12, 20, 21, 22, 23, 24, 64, 65, 66, 67, 68, 69, 70, 71, 72, 73, 74, 75, 76, 77, 78, 79, 80] (by decide +kernel) (by decide +kernel)
set_option maxRecDepth 20000 in
theorem gX7_node_X4_find : GoodIn wsX7_node (wsV RX7 158 RX4 yX4_find wsX4_find) := goodIn_app (goodIn_of _ (by decide +kernel)) ggX7_node_X4_find
set_option maxRecDepth 20000 in
theorem ggX7_node_X4_nodeAt : GoodIn wsX7_node wsX4_nodeAt := goodIn_r _ [28, 29, 30, 31, 12, 32, 33, 21, 22, 23, 24, 15, 34, 35, 36, 37, 38, 39, 40, 41, 42, 43, 44, 45, 46, 47, 48, 64, 65, 66, 67, 68, 69, 70, 71, 72, 73, 74, 75, 76, 77, 78, 79, 80] (by decide +kernel) (by decide +kernel)
set_option maxRecDepth 20000 in
theorem gX7_node_X4_nodeAt : GoodIn wsX7_node (wsV RX7 167 RX4 yX4_nodeAt wsX4_nodeAt) := goodIn_app (goodIn_of _ (by decide +kernel)) ggX7_node_X4_nodeAt
set_option maxRecDepth 20000 in
theorem ggX7_node_X4_byteOf : GoodIn wsX7_node wsX4_byteOf := goodIn_r _ [52, 53, 44, 45, 46, 12, 47, 48, 64, 65, 66, 67, 68, 69, 70, 71, 72, 73, 74, 75, 76, 77, 78, 79, 80] (by decide +kernel) (by decide +kernel)
set_option maxRecDepth 20000 in
theorem gX7_node_X4_byteOf : GoodIn wsX7_node (wsV RX7 170 RX4 yX4_byteOf wsX4_byteOf) := goodIn_app (goodIn_of _ (by decide +kernel)) ggX7_node_X4_byteOf
set_option maxRecDepth 20000 in
theorem ggX7_readUpToEnd_X6_tell : GoodIn wsX7_readUpToEnd wsX6_tell := goodIn_r _ [9, 10, 11, 12, 13, 14, 15, 16, 17, 18, 19, 20, 21, 22, 23, 24, 25, 26, 27, 28, 29, 30, 31, 32, 33, 34, 35, 36, 37, 38, 39, 40, 41, 42, 43, 44, 45, 46, 47, 48, 49, 50, 8, 51, 52, 53, 54, 55, 56, 57, 58, 59, 60, 61, 62, 63, 64, 65, 66, 67, 68, 69, 70, 71, 72, 73, 74, 75, 76, 77, 78, 79, 80, 81, 82, 83, 84, 85, 86, 87, 88, 89, 90, 91, 92, 93, 94, 95, 96, 97, 98, 99, 100, 101, 102, 103, 104, 105, 106, 107, 108, 109, 110, 111, 112, 113, 114, 115, 116, 117, 118, 119, 120, 121, 122, 123, 124, 125, 126, 127, 128, 129, 130, 131, 132, 133, 134, 135, 136, 137, 138, 139, 140, 141, 142, 143, 144, 145, 146, 147, 148, 149, 150, 151, 152, 153, 154, 155, 156, 157, 158, 159, 160, 161, 162, 163, 164, 165, 166, 167, 168, 169, 170, 171, 172, 173, 174, 175, 176, 177, 178, 179, 180, 181, 182, 183, 184, 185, 186, 187, 188, 189, 190, 191, 192, 193, 194, 195, 196, 197, 198, 199, 200, 201, 202, 203, 204, 205, 206, 207, 208, 209, 210, 211, 212, 213, 214, 215, 216, 217, 218, 219, 220, 221, 222, 223, 224, 225, 226, 227, 228, 295, 296, 297, 298, 299, 300, 301, 302, 303, 304, 305, 306, 307, 308, 309, 310, 311, 312, 313, 314, 315, 316, 317, 318, 319, 320, 321, 322, 323, 324, 325, 326, 327, 328, 329, 330, 331, 332, 333, 334, 335, 336] (by decide +kernel) (by decide +kernel)
set_option maxRecDepth 20000 in
theorem gX7_readUpToEnd_X6_tell : GoodIn wsX7_readUpToEnd (wsV RX7 96 RX6 yX6_tell wsX6_tell) := goodIn_app (goodIn_of _ (by decide +kernel)) ggX7_readUpToEnd_X6_tell
set_option maxRecDepth 20000 in
theorem ggX7_readUpToEnd_X0_add : GoodIn wsX7_readUpToEnd wsX0_add := goodIn_r _ [173, 149, 174, 150, 31, 28, 32, 175, 176, 177, 178, 108, 179, 180, 181, 182, 183, 184, 185, 186, 187, 188, 189, 190, 191, 192, 193, 194, 195, 331, 332, 333] (by decide +kernel) (by decide +kernel)
set_option maxRecDepth 20000 in
theorem gX7_readUpToEnd_X0_add : GoodIn wsX7_readUpToEnd (wsV RX7 80 RX0 yX0_add wsX0_add) := goodIn_app (goodIn_of _ (by decide +kernel)) ggX7_readUpToEnd_X0_add
set_option maxRecDepth 20000 in
theorem ggX7_readUpToEnd_X6_toldOrder : GoodIn wsX7_readUpToEnd wsX6_toldOrder := goodIn_r _ [233, 14, 295, 296, 297, 298, 299, 300, 301, 302, 303, 304] (by decide +kernel) (by decide +kernel)
set_option maxRecDepth 20000 in
theorem gX7_readUpToEnd_X6_toldOrder : GoodIn wsX7_readUpToEnd (wsV RX7 100 RX6 yX6_toldOrder wsX6_toldOrder) := goodIn_app (goodIn_of _ (by decide +kernel)) ggX7_readUpToEnd_X6_toldOrder
set_option maxRecDepth 20000 in
theorem ggX7_readUpToEnd_X4_learn : GoodIn wsX7_readUpToEnd wsX4_learn := goodIn_r _ [237, 238, 239, 108, 240, 20, 25, 26, 241, 178, 179, 242, 22, 23, 18, 24, 27, 28, 29, 30, 31, 32, 243, 244, 245, 246, 84, 74, 247, 248, 249, 34, 35, 36, 37, 38, 39, 40, 41, 42, 43, 44, 45, 46, 47, 250, 251, 252, 253, 254, 56, 57, 58, 59, 255, 61, 62, 63, 64, 256, 66, 67, 68, 69, 70, 71, 72, 73, 257, 86, 87, 88, 89, 258, 259, 260, 261, 262, 263, 264, 265, 266, 267, 268, 269, 270, 271, 272, 273, 274, 275, 175, 176, 177, 276, 181, 182, 183, 184, 185, 186, 187, 188, 189, 190, 191, 192, 193, 194, 195, 277, 278, 279, 280, 281, 282, 283, 284, 305, 306, 307, 308, 309, 310, 311, 312, 313, 314, 315, 316, 317, 318, 319, 320, 321] (by decide +kernel) (by decide +kernel)
set_option maxRecDepth 20000 in
theorem gX7_readUpToEnd_X4_learn : GoodIn wsX7_readUpToEnd (wsV RX7 103 RX4 yX4_learn wsX4_learn) := goodIn_app (goodIn_of _ (by decide +kernel)) ggX7_readUpToEnd_X4_learn
set_option maxRecDepth 20000 in
theorem ggX7_noteEnd_X3_shifts : GoodIn wsX7_noteEnd wsX3_shifts := goodIn_r _ [8, 9, 28, 29, 30, 31, 32, 33, 34, 35, 36] (by decide +kernel) (by decide +kernel)
set_option maxRecDepth 20000 in
theorem gX7_noteEnd_X3_shifts_u173X1 : GoodIn wsX7_noteEnd (va_wsU RX7 173 RX1 "EscapeCoder$Interval" ⟨"EscapeCoder$Interval", "shifts", "()I"⟩ yX3_shifts wsX3_shifts) := goodIn_app (goodIn_of _ (by decide +kernel)) ggX7_noteEnd_X3_shifts
set_option maxRecDepth 20000 in
theorem gX7_noteEnd_X3_shifts_u173X2 : GoodIn wsX7_noteEnd (va_wsU RX7 173 RX2 "EscapeCoder$Interval" ⟨"EscapeCoder$Interval", "shifts", "()I"⟩ yX3_shifts wsX3_shifts) := goodIn_app (goodIn_of _ (by decide +kernel)) ggX7_noteEnd_X3_shifts
set_option maxRecDepth 20000 in
theorem ggX7_noteEnd_X3_range : GoodIn wsX7_noteEnd wsX3_range := goodIn_r _ [15, 16, 28, 29, 30, 31, 32, 33, 34, 35, 36] (by decide +kernel) (by decide +kernel)
set_option maxRecDepth 20000 in
theorem gX7_noteEnd_X3_range_u176X1 : GoodIn wsX7_noteEnd (va_wsU RX7 176 RX1 "EscapeCoder$Interval" ⟨"EscapeCoder$Interval", "range", "()J"⟩ yX3_range wsX3_range) := goodIn_app (goodIn_of _ (by decide +kernel)) ggX7_noteEnd_X3_range
set_option maxRecDepth 20000 in
theorem gX7_noteEnd_X3_range_u176X2 : GoodIn wsX7_noteEnd (va_wsU RX7 176 RX2 "EscapeCoder$Interval" ⟨"EscapeCoder$Interval", "range", "()J"⟩ yX3_range wsX3_range) := goodIn_app (goodIn_of _ (by decide +kernel)) ggX7_noteEnd_X3_range
set_option maxRecDepth 20000 in
theorem ggX7_keyOf_X7_isByte : GoodIn wsX7_keyOf wsX7_isByte := goodIn_r _ [4] (by decide +kernel) (by decide +kernel)
set_option maxRecDepth 20000 in
theorem gX7_keyOf_X7_isByte : GoodIn wsX7_keyOf (va_wsS RX7 180 yX7_isByte wsX7_isByte) := goodIn_app (goodIn_of _ (by decide +kernel)) ggX7_keyOf_X7_isByte
set_option maxRecDepth 20000 in
theorem ggX8_init_X8_begin : GoodIn wsX8_init wsX8_begin := goodIn_r _ [24, 8, 25, 26, 27, 28, 29, 30, 31, 23, 32, 33, 34, 35, 36, 37, 38, 39, 40, 41, 42, 43, 44, 45, 46, 47, 48, 49, 50, 51, 52, 53, 54, 55, 56, 57, 58, 59, 60, 61, 62, 63, 64, 65, 66, 67, 68, 69, 70, 71, 72] (by decide +kernel) (by decide +kernel)
set_option maxRecDepth 20000 in
theorem gX8_init_X8_begin : GoodIn wsX8_init (wsV RX8 50 RX8 yX8_begin wsX8_begin) := goodIn_app (goodIn_of _ (by decide +kernel)) ggX8_init_X8_begin
set_option maxRecDepth 20000 in
theorem ggX8_begin_X8_startModel : GoodIn wsX8_begin wsX8_startModel := goodIn_r _ [10, 11, 12, 13, 14, 15, 16, 17, 18, 19, 20, 5, 21, 22, 23, 24, 25, 26, 27, 28, 29, 30, 31, 32, 33, 34, 35, 36, 37, 38, 39, 40, 41, 42, 43, 44, 45, 46, 47, 48, 49, 50] (by decide +kernel) (by decide +kernel)
set_option maxRecDepth 20000 in
theorem gX8_begin_X8_startModel : GoodIn wsX8_begin (wsV RX8 63 RX8 yX8_startModel wsX8_startModel) := goodIn_app (goodIn_of _ (by decide +kernel)) ggX8_begin_X8_startModel
set_option maxRecDepth 20000 in
theorem ggX8_here_X8_contextOf : GoodIn wsX8_here wsX8_contextOf := goodIn_r _ [6] (by decide +kernel) (by decide +kernel)
set_option maxRecDepth 20000 in
theorem gX8_here_X8_contextOf : GoodIn wsX8_here (va_wsS RX8 99 yX8_contextOf wsX8_contextOf) := goodIn_app (goodIn_of _ (by decide +kernel)) ggX8_here_X8_contextOf
set_option maxRecDepth 20000 in
theorem ggX8_learn_X8_here : GoodIn wsX8_learn wsX8_here := goodIn_r _ [12, 13, 14, 15, 16, 11, 17, 27, 28, 29, 30, 31, 32, 33, 34, 35, 36, 37, 38, 39, 40, 41, 42, 43, 44, 45, 46, 47, 48, 49, 50, 51, 52, 53, 54, 55, 56] (by decide +kernel) (by decide +kernel)
set_option maxRecDepth 20000 in
theorem gX8_learn_X8_here : GoodIn wsX8_learn (wsV RX8 103 RX8 yX8_here wsX8_here) := goodIn_app (goodIn_of _ (by decide +kernel)) ggX8_learn_X8_here
set_option maxRecDepth 20000 in
theorem ggX8_learn_X8_find : GoodIn wsX8_learn wsX8_find := goodIn_r _ [21, 2, 5, 6, 27, 28, 29, 30, 31, 32, 33, 34, 35, 36, 37, 38, 39, 40, 41, 42, 43, 44, 45, 46, 47, 48, 49, 50, 51, 52, 53, 54, 55, 56] (by decide +kernel) (by decide +kernel)
set_option maxRecDepth 20000 in
theorem gX8_learn_X8_find : GoodIn wsX8_learn (wsV RX8 107 RX8 yX8_find wsX8_find) := goodIn_app (goodIn_of _ (by decide +kernel)) ggX8_learn_X8_find
set_option maxRecDepth 20000 in
theorem ggX8_learn_X8_halve : GoodIn wsX8_learn wsX8_halve := goodIn_r _ [25, 2, 5, 7, 26, 27, 28, 29, 30, 31, 32, 33, 34, 35, 36, 37, 38, 39, 40, 41, 42, 43, 44, 45, 46, 47, 48, 49, 50, 51, 52, 53, 54, 55, 56] (by decide +kernel) (by decide +kernel)
set_option maxRecDepth 20000 in
theorem gX8_learn_X8_halve : GoodIn wsX8_learn (wsV RX8 111 RX8 yX8_halve wsX8_halve) := goodIn_app (goodIn_of _ (by decide +kernel)) ggX8_learn_X8_halve
set_option maxRecDepth 20000 in
theorem ggX8_narrow_X8_addLow : GoodIn wsX8_narrow wsX8_addLow := goodIn_r _ [15, 8, 10, 9, 21, 22, 23, 24, 25, 26, 27, 28, 29, 30, 31, 32, 33, 34, 35, 36, 37, 38, 39, 40, 41, 42, 43, 44, 45, 46, 47, 48, 49, 50] (by decide +kernel) (by decide +kernel)
set_option maxRecDepth 20000 in
theorem gX8_narrow_X8_addLow : GoodIn wsX8_narrow (wsV RX8 122 RX8 yX8_addLow wsX8_addLow) := goodIn_app (goodIn_of _ (by decide +kernel)) ggX8_narrow_X8_addLow
set_option maxRecDepth 20000 in
theorem ggX8_narrow_X8_nextByte : GoodIn wsX8_narrow wsX8_nextByte := goodIn_r _ [19, 20, 8, 9, 21, 22, 23, 24, 25, 26, 27, 28, 29, 30, 31, 32, 33, 34, 35, 36, 37, 38, 39, 40, 41, 42, 43, 44, 45, 46, 47, 48, 49, 50] (by decide +kernel) (by decide +kernel)
set_option maxRecDepth 20000 in
theorem gX8_narrow_X8_nextByte : GoodIn wsX8_narrow (wsV RX8 130 RX8 yX8_nextByte wsX8_nextByte) := goodIn_app (goodIn_of _ (by decide +kernel)) ggX8_narrow_X8_nextByte
set_option maxRecDepth 20000 in
theorem ggX8_tell_X8_here : GoodIn wsX8_tell wsX8_here := goodIn_r _ [13, 14, 15, 16, 17, 12, 18, 59, 60, 61, 62, 63, 64, 65, 66, 67, 68, 69, 70, 71, 72, 73, 74, 75, 76, 77, 78, 79, 80, 81, 82, 83, 84, 85, 86, 87, 88] (by decide +kernel) (by decide +kernel)
set_option maxRecDepth 20000 in
theorem gX8_tell_X8_here : GoodIn wsX8_tell (wsV RX8 103 RX8 yX8_here wsX8_here) := goodIn_app (goodIn_of _ (by decide +kernel)) ggX8_tell_X8_here
set_option maxRecDepth 20000 in
theorem ggX8_tell_X8_tellIn : GoodIn wsX8_tell wsX8_tellIn := goodIn_r _ [22, 8, 3, 4, 1, 5, 6, 23, 24, 25, 26, 27, 28, 12, 29, 30, 31, 32, 33, 34, 35, 36, 37, 38, 39, 40, 41, 42, 43, 44, 45, 46, 47, 48, 49, 50, 51, 52, 53, 54, 55, 56, 57, 58, 59, 60, 61, 62, 63, 64, 65, 66, 67, 68, 69, 70, 71, 72, 73, 74, 75, 76, 77, 78, 79, 80, 81, 82, 83, 84, 85, 86, 87, 88] (by decide +kernel) (by decide +kernel)
set_option maxRecDepth 20000 in
theorem gX8_tell_X8_tellIn : GoodIn wsX8_tell (wsV RX8 142 RX8 yX8_tellIn wsX8_tellIn) := goodIn_app (goodIn_of _ (by decide +kernel)) ggX8_tell_X8_tellIn
set_option maxRecDepth 20000 in
theorem ggX8_tell_X8_placeOf : GoodIn wsX8_tell wsX8_placeOf := goodIn_r _ [29, 30, 31, 59, 60, 61, 62, 63, 64, 65, 66, 67, 68, 69, 70, 71, 72, 73, 74, 75, 76, 77, 78, 79, 80, 81, 82, 83, 84, 85, 86, 87, 88] (by decide +kernel) (by decide +kernel)
set_option maxRecDepth 20000 in
theorem gX8_tell_X8_placeOf : GoodIn wsX8_tell (wsV RX8 149 RX8 yX8_placeOf wsX8_placeOf) := goodIn_app (goodIn_of _ (by decide +kernel)) ggX8_tell_X8_placeOf
set_option maxRecDepth 20000 in
theorem ggX8_tell_X8_note : GoodIn wsX8_tell wsX8_note := goodIn_r _ [35, 23, 36, 37, 38, 24, 59, 60, 61, 62, 63, 64, 65, 66, 67, 68, 69, 70, 71, 72, 73, 74, 75, 76, 77, 78, 79, 80, 81, 82, 83, 84, 85, 86, 87, 88] (by decide +kernel) (by decide +kernel)
set_option maxRecDepth 20000 in
theorem gX8_tell_X8_note : GoodIn wsX8_tell (wsV RX8 152 RX8 yX8_note wsX8_note) := goodIn_app (goodIn_of _ (by decide +kernel)) ggX8_tell_X8_note
set_option maxRecDepth 20000 in
theorem ggX8_tell_X8_narrow : GoodIn wsX8_tell wsX8_narrow := goodIn_r _ [42, 31, 8, 30, 43, 44, 45, 46, 47, 48, 49, 50, 51, 52, 12, 53, 54, 55, 56, 57, 58, 59, 60, 61, 62, 63, 64, 65, 66, 67, 68, 69, 70, 71, 72, 73, 74, 75, 76, 77, 78, 79, 80, 81, 82, 83, 84, 85, 86, 87, 88] (by decide +kernel) (by decide +kernel)
set_option maxRecDepth 20000 in
theorem gX8_tell_X8_narrow : GoodIn wsX8_tell (wsV RX8 156 RX8 yX8_narrow wsX8_narrow) := goodIn_app (goodIn_of _ (by decide +kernel)) ggX8_tell_X8_narrow
set_option maxRecDepth 20000 in
theorem ggX8_tellIn_X8_placeOf : GoodIn wsX8_tellIn wsX8_placeOf := goodIn_r _ [14, 15, 16, 44, 45, 46, 47, 48, 49, 50, 51, 52, 53, 54, 55, 56, 57, 58, 59, 60, 61, 62, 63, 64, 65, 66, 67, 68, 69, 70, 71, 72, 73] (by decide +kernel) (by decide +kernel)
set_option maxRecDepth 20000 in
theorem gX8_tellIn_X8_placeOf : GoodIn wsX8_tellIn (wsV RX8 149 RX8 yX8_placeOf wsX8_placeOf) := goodIn_app (goodIn_of _ (by decide +kernel)) ggX8_tellIn_X8_placeOf
set_option maxRecDepth 20000 in
theorem ggX8_tellIn_X8_note : GoodIn wsX8_tellIn wsX8_note := goodIn_r _ [20, 7, 21, 22, 23, 8, 44, 45, 46, 47, 48, 49, 50, 51, 52, 53, 54, 55, 56, 57, 58, 59, 60, 61, 62, 63, 64, 65, 66, 67, 68, 69, 70, 71, 72, 73] (by decide +kernel) (by decide +kernel)
set_option maxRecDepth 20000 in
theorem gX8_tellIn_X8_note : GoodIn wsX8_tellIn (wsV RX8 152 RX8 yX8_note wsX8_note) := goodIn_app (goodIn_of _ (by decide +kernel)) ggX8_tellIn_X8_note
set_option maxRecDepth 20000 in
theorem ggX8_tellIn_X8_narrow : GoodIn wsX8_tellIn wsX8_narrow := goodIn_r _ [27, 16, 1, 15, 28, 29, 30, 31, 32, 33, 34, 35, 36, 37, 13, 38, 39, 40, 41, 42, 43, 44, 45, 46, 47, 48, 49, 50, 51, 52, 53, 54, 55, 56, 57, 58, 59, 60, 61, 62, 63, 64, 65, 66, 67, 68, 69, 70, 71, 72, 73] (by decide +kernel) (by decide +kernel)
set_option maxRecDepth 20000 in
theorem gX8_tellIn_X8_narrow : GoodIn wsX8_tellIn (wsV RX8 156 RX8 yX8_narrow wsX8_narrow) := goodIn_app (goodIn_of _ (by decide +kernel)) ggX8_tellIn_X8_narrow
set_option maxRecDepth 20000 in
theorem ggX8_encode_X8_startModel : GoodIn wsX8_encode wsX8_startModel := goodIn_r _ [12, 13, 14, 15, 16, 17, 18, 19, 20, 21, 22, 23, 89, 90, 91, 92, 93, 94, 95, 96, 97, 98, 99, 100, 101, 102, 103, 104, 105, 106, 107, 108, 109, 110, 111, 112, 113, 114, 115, 116, 117, 118] (by decide +kernel) (by decide +kernel)
set_option maxRecDepth 20000 in
theorem gX8_encode_X8_startModel : GoodIn wsX8_encode (wsV RX8 63 RX8 yX8_startModel wsX8_startModel) := goodIn_app (goodIn_of _ (by decide +kernel)) ggX8_encode_X8_startModel
set_option maxRecDepth 20000 in
theorem ggX8_encode_X8_tell : GoodIn wsX8_encode wsX8_tell := goodIn_r _ [27, 28, 19, 13, 29, 30, 31, 7, 1, 32, 33, 34, 11, 35, 20, 21, 36, 37, 38, 39, 40, 41, 42, 14, 43, 15, 44, 45, 46, 47, 48, 23, 49, 50, 51, 52, 53, 54, 55, 56, 57, 58, 59, 60, 61, 16, 62, 3, 4, 2, 63, 64, 65, 66, 67, 68, 69, 70, 71, 89, 90, 91, 92, 93, 94, 95, 96, 97, 98, 99, 100, 101, 102, 103, 104, 105, 106, 107, 108, 109, 110, 111, 112, 113, 114, 115, 116, 117, 118] (by decide +kernel) (by decide +kernel)
set_option maxRecDepth 20000 in
theorem gX8_encode_X8_tell : GoodIn wsX8_encode (wsV RX8 160 RX8 yX8_tell wsX8_tell) := goodIn_app (goodIn_of _ (by decide +kernel)) ggX8_encode_X8_tell
set_option maxRecDepth 20000 in
theorem ggX8_encode_X8_learn : GoodIn wsX8_encode wsX8_learn := goodIn_r _ [75, 19, 13, 76, 18, 29, 30, 31, 32, 33, 34, 11, 35, 20, 21, 36, 37, 38, 77, 78, 79, 80, 81, 82, 83, 84, 17, 89, 90, 91, 92, 93, 94, 95, 96, 97, 98, 99, 100, 101, 102, 103, 104, 105, 106, 107, 108, 109, 110, 111, 112, 113, 114, 115, 116, 117, 118] (by decide +kernel) (by decide +kernel)
set_option maxRecDepth 20000 in
theorem gX8_encode_X8_learn : GoodIn wsX8_encode (wsV RX8 163 RX8 yX8_learn wsX8_learn) := goodIn_app (goodIn_of _ (by decide +kernel)) ggX8_encode_X8_learn
set_option maxRecDepth 20000 in
theorem ggX8_encode_X8_goBy : GoodIn wsX8_encode wsX8_goBy := goodIn_r _ [88, 20, 21, 19, 89, 90, 91, 92, 93, 94, 95, 96, 97, 98, 99, 100, 101, 102, 103, 104, 105, 106, 107, 108, 109, 110, 111, 112, 113, 114, 115, 116, 117, 118] (by decide +kernel) (by decide +kernel)
set_option maxRecDepth 20000 in
theorem gX8_encode_X8_goBy : GoodIn wsX8_encode (wsV RX8 167 RX8 yX8_goBy wsX8_goBy) := goodIn_app (goodIn_of _ (by decide +kernel)) ggX8_encode_X8_goBy
set_option maxRecDepth 20000 in
theorem ggX8_decode_X8_startModel : GoodIn wsX8_decode wsX8_startModel := goodIn_r _ [14, 15, 16, 17, 9, 18, 19, 20, 21, 22, 23, 24, 89, 90, 91, 92, 93, 94, 95, 96, 97, 98, 99, 100, 101, 102, 103, 104, 105, 106, 107, 108, 109, 110, 111, 112, 113, 114, 115, 116, 117, 118] (by decide +kernel) (by decide +kernel)
set_option maxRecDepth 20000 in
theorem gX8_decode_X8_startModel : GoodIn wsX8_decode (wsV RX8 63 RX8 yX8_startModel wsX8_startModel) := goodIn_app (goodIn_of _ (by decide +kernel)) ggX8_decode_X8_startModel
set_option maxRecDepth 20000 in
theorem ggX8_decode_X8_nextByte : GoodIn wsX8_decode wsX8_nextByte := goodIn_r _ [28, 3, 8, 29, 89, 90, 91, 92, 93, 94, 95, 96, 97, 98, 99, 100, 101, 102, 103, 104, 105, 106, 107, 108, 109, 110, 111, 112, 113, 114, 115, 116, 117, 118] (by decide +kernel) (by decide +kernel)
set_option maxRecDepth 20000 in
theorem gX8_decode_X8_nextByte : GoodIn wsX8_decode (wsV RX8 130 RX8 yX8_nextByte wsX8_nextByte) := goodIn_app (goodIn_of _ (by decide +kernel)) ggX8_decode_X8_nextByte
set_option maxRecDepth 20000 in
theorem ggX8_decode_X8_tell : GoodIn wsX8_decode wsX8_tell := goodIn_r _ [33, 34, 20, 15, 35, 36, 37, 7, 1, 38, 39, 40, 13, 41, 21, 22, 42, 43, 44, 45, 46, 47, 48, 16, 49, 17, 50, 51, 52, 53, 4, 24, 54, 55, 56, 57, 58, 59, 60, 61, 62, 63, 64, 65, 5, 9, 66, 8, 29, 67, 68, 69, 70, 71, 25, 26, 27, 28, 3, 89, 90, 91, 92, 93, 94, 95, 96, 97, 98, 99, 100, 101, 102, 103, 104, 105, 106, 107, 108, 109, 110, 111, 112, 113, 114, 115, 116, 117, 118] (by decide +kernel) (by decide +kernel)
set_option maxRecDepth 20000 in
theorem gX8_decode_X8_tell : GoodIn wsX8_decode (wsV RX8 160 RX8 yX8_tell wsX8_tell) := goodIn_app (goodIn_of _ (by decide +kernel)) ggX8_decode_X8_tell
set_option maxRecDepth 20000 in
theorem ggX8_decode_X8_learn : GoodIn wsX8_decode wsX8_learn := goodIn_r _ [75, 20, 15, 76, 19, 35, 36, 37, 38, 39, 40, 13, 41, 21, 22, 42, 43, 44, 77, 78, 79, 80, 81, 82, 83, 84, 18, 89, 90, 91, 92, 93, 94, 95, 96, 97, 98, 99, 100, 101, 102, 103, 104, 105, 106, 107, 108, 109, 110, 111, 112, 113, 114, 115, 116, 117, 118] (by decide +kernel) (by decide +kernel)
set_option maxRecDepth 20000 in
theorem gX8_decode_X8_learn : GoodIn wsX8_decode (wsV RX8 163 RX8 yX8_learn wsX8_learn) := goodIn_app (goodIn_of _ (by decide +kernel)) ggX8_decode_X8_learn
set_option maxRecDepth 20000 in
theorem ggX8_decode_X8_goBy : GoodIn wsX8_decode wsX8_goBy := goodIn_r _ [88, 21, 22, 20, 89, 90, 91, 92, 93, 94, 95, 96, 97, 98, 99, 100, 101, 102, 103, 104, 105, 106, 107, 108, 109, 110, 111, 112, 113, 114, 115, 116, 117, 118] (by decide +kernel) (by decide +kernel)
set_option maxRecDepth 20000 in
theorem gX8_decode_X8_goBy : GoodIn wsX8_decode (wsV RX8 167 RX8 yX8_goBy wsX8_goBy) := goodIn_app (goodIn_of _ (by decide +kernel)) ggX8_decode_X8_goBy
set_option maxRecDepth 20000 in
theorem ggX8_at_X8_size : GoodIn wsX8_at wsX8_size := goodIn_r _ [8, 9, 10, 11, 12, 13, 14, 15, 16, 17, 18, 19, 20, 21, 22, 23, 24, 25, 26, 27, 28, 29, 30, 31, 32, 33, 34, 35, 36, 37, 38, 39, 40, 41] (by decide +kernel) (by decide +kernel)
set_option maxRecDepth 20000 in
theorem gX8_at_X8_size : GoodIn wsX8_at (wsV RX8 170 RX8 yX8_size wsX8_size) := goodIn_app (goodIn_of _ (by decide +kernel)) ggX8_at_X8_size
set_option maxRecDepth 20000 in
theorem ggX8_isContext_X8_isByte : GoodIn wsX8_isContext wsX8_isByte := goodIn_r _ [4] (by decide +kernel) (by decide +kernel)
set_option maxRecDepth 20000 in
theorem gX8_isContext_X8_isByte : GoodIn wsX8_isContext (va_wsS RX8 176 yX8_isByte wsX8_isByte) := goodIn_app (goodIn_of _ (by decide +kernel)) ggX8_isContext_X8_isByte
set_option maxRecDepth 20000 in
theorem ggX8_learnt_X8_isContext : GoodIn wsX8_learnt wsX8_isContext := goodIn_r _ [5, 6, 7, 4, 8] (by decide +kernel) (by decide +kernel)
set_option maxRecDepth 20000 in
theorem gX8_learnt_X8_isContext : GoodIn wsX8_learnt (va_wsS RX8 179 yX8_isContext wsX8_isContext) := goodIn_app (goodIn_of _ (by decide +kernel)) ggX8_learnt_X8_isContext
set_option maxRecDepth 20000 in
theorem ggX8_learnt_X8_isByte : GoodIn wsX8_learnt wsX8_isByte := goodIn_r _ [8] (by decide +kernel) (by decide +kernel)
set_option maxRecDepth 20000 in
theorem gX8_learnt_X8_isByte : GoodIn wsX8_learnt (va_wsS RX8 176 yX8_isByte wsX8_isByte) := goodIn_app (goodIn_of _ (by decide +kernel)) ggX8_learnt_X8_isByte
set_option maxRecDepth 20000 in
theorem ggX8_learnt_X8_contextOf : GoodIn wsX8_learnt wsX8_contextOf := goodIn_r _ [11] (by decide +kernel) (by decide +kernel)
set_option maxRecDepth 20000 in
theorem gX8_learnt_X8_contextOf : GoodIn wsX8_learnt (va_wsS RX8 99 yX8_contextOf wsX8_contextOf) := goodIn_app (goodIn_of _ (by decide +kernel)) ggX8_learnt_X8_contextOf
set_option maxRecDepth 20000 in
theorem ggX8_learnt_X8_find : GoodIn wsX8_learnt wsX8_find := goodIn_r _ [15, 16, 17, 18, 19, 20, 21, 22, 23, 24, 25, 26, 27, 28, 29, 30, 31, 32, 33, 34, 35, 36, 37, 38, 39, 40, 41, 42, 43, 44, 45, 46, 47, 48] (by decide +kernel) (by decide +kernel)
set_option maxRecDepth 20000 in
theorem gX8_learnt_X8_find : GoodIn wsX8_learnt (wsV RX8 107 RX8 yX8_find wsX8_find) := goodIn_app (goodIn_of _ (by decide +kernel)) ggX8_learnt_X8_find
set_option maxRecDepth 20000 in
theorem ggX8_node_X8_isContext : GoodIn wsX8_node wsX8_isContext := goodIn_r _ [7, 8, 9, 6, 10] (by decide +kernel) (by decide +kernel)
set_option maxRecDepth 20000 in
theorem gX8_node_X8_isContext : GoodIn wsX8_node (va_wsS RX8 179 yX8_isContext wsX8_isContext) := goodIn_app (goodIn_of _ (by decide +kernel)) ggX8_node_X8_isContext
set_option maxRecDepth 20000 in
theorem ggX8_node_X8_contextOf : GoodIn wsX8_node wsX8_contextOf := goodIn_r _ [13] (by decide +kernel) (by decide +kernel)
set_option maxRecDepth 20000 in
theorem gX8_node_X8_contextOf : GoodIn wsX8_node (va_wsS RX8 99 yX8_contextOf wsX8_contextOf) := goodIn_app (goodIn_of _ (by decide +kernel)) ggX8_node_X8_contextOf
