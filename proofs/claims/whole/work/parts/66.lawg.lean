set_option maxRecDepth 20000 in
theorem ggL_law_X2_init : GoodIn wsL_law wsX2_init := goodIn_r _ [10, 11, 12, 13, 14, 15, 16, 17, 18, 19, 20, 21, 22, 23, 24, 25, 26, 27, 28, 6, 29, 30, 31, 32, 33, 34, 35, 36, 37, 38, 39, 40, 41, 42, 43, 2, 44, 45, 46, 47, 48, 49, 50, 51, 52, 53, 54, 55, 56, 57, 58, 59, 60, 61, 62, 63, 64, 65, 66, 67, 68, 69, 70, 71, 72, 73, 74, 75, 76, 77, 78, 79, 80, 81, 82, 83, 84, 85, 86, 87, 88, 89, 487, 488, 489, 490, 491, 524, 525, 526, 527, 528, 529, 530, 531, 532, 533, 534, 535, 536, 537, 538] (by decide +kernel) (by decide +kernel)
set_option maxRecDepth 20000 in
theorem gL_law_X2_init : GoodIn wsL_law (wsX2_init) := ggL_law_X2_init
set_option maxRecDepth 20000 in
theorem ggL_law_X3_init : GoodIn wsL_law wsX3_init := goodIn_r _ [92, 93, 12, 13, 94, 95, 6, 96, 31, 97, 98, 99, 100, 101, 102, 103, 104, 105, 106, 107, 108, 109, 110, 111, 112, 113, 114, 115, 116, 117, 118, 119, 492, 493, 494, 495, 496, 497, 498, 499, 500, 501, 502, 503, 504, 505, 506, 507, 508, 509, 510, 511, 512, 513, 514, 515, 516, 517, 518, 519, 520, 521, 522, 523] (by decide +kernel) (by decide +kernel)
set_option maxRecDepth 20000 in
theorem gL_law_X3_init : GoodIn wsL_law (wsX3_init) := ggL_law_X3_init
set_option maxRecDepth 20000 in
theorem ggL_law_L_put : GoodIn wsL_law wsL_put := goodIn_ca (goodIn_ca (goodIn_r _ [123, 124, 125, 126, 127, 128, 2, 129, 130, 131, 15, 132, 133, 134, 135, 136, 137, 138, 139, 140, 141, 142, 143, 19, 144, 38, 29, 30, 32, 53, 54, 55, 56, 145, 146, 147, 148, 149, 150, 151, 152, 153, 154, 155, 156, 157, 158, 159, 160, 33, 48, 49, 50, 51, 52, 57, 58, 59, 60, 61, 62, 63, 64, 65, 66, 67, 68, 69, 70, 71, 487, 488, 489, 490, 491, 524, 525, 526, 527, 528] (by decide +kernel) (by decide +kernel)) (goodIn_sub (fun _ h => List.mem_append_left _ (List.mem_append_right _ h)) (by decide +kernel))) (goodIn_sub (fun _ h => List.mem_append_right _ h) (by decide +kernel))
set_option maxRecDepth 20000 in
theorem gL_law_L_put : GoodIn wsL_law (va_wsS RL 55 yL_put wsL_put) := goodIn_app (goodIn_of _ (by decide +kernel)) ggL_law_L_put
set_option maxRecDepth 20000 in
theorem ggL_law_X3_put : GoodIn wsL_law wsX3_put := goodIn_r _ [164, 165, 166, 167, 5, 168, 169, 170, 171, 172, 173, 174, 175, 95, 96, 97, 98, 176, 177, 178, 179, 180, 181, 182, 183, 184, 185, 492, 493, 494, 495, 496, 497, 498, 499, 500, 501, 502, 503, 504, 505, 506, 507, 508, 509, 510, 511, 512, 513, 514, 515, 516, 517, 518, 519, 520, 521, 522, 523] (by decide +kernel) (by decide +kernel)
set_option maxRecDepth 20000 in
theorem gL_law_X3_put : GoodIn wsL_law (wsV RL 60 RX3 yX3_put wsX3_put) := goodIn_app (goodIn_of _ (by decide +kernel)) ggL_law_X3_put
set_option maxRecDepth 20000 in
theorem ggL_law_X3_thrown : GoodIn wsL_law wsX3_thrown := goodIn_r _ [189, 165, 492, 493, 494, 495, 496, 497, 498, 499, 500, 501, 502, 503, 504, 505, 506, 507, 508, 509, 510, 511, 512, 513, 514, 515, 516, 517, 518, 519, 520, 521, 522, 523] (by decide +kernel) (by decide +kernel)
set_option maxRecDepth 20000 in
theorem gL_law_X3_thrown : GoodIn wsL_law (wsV RL 61 RX3 yX3_thrown wsX3_thrown) := goodIn_app (goodIn_of _ (by decide +kernel)) ggL_law_X3_thrown
set_option maxRecDepth 20000 in
theorem ggL_law_L_get : GoodIn wsL_law wsL_get := goodIn_ca (goodIn_r _ [192, 124, 193, 194, 195, 2, 196, 15, 197, 198, 132, 133, 134, 135, 136, 199, 200, 201, 487, 488, 489, 490, 491, 524, 525, 526, 527, 528] (by decide +kernel) (by decide +kernel)) (goodIn_sub (fun _ h => List.mem_append_right _ h) (by decide +kernel))
set_option maxRecDepth 20000 in
theorem gL_law_L_get : GoodIn wsL_law (va_wsS RL 65 yL_get wsL_get) := goodIn_app (goodIn_of _ (by decide +kernel)) ggL_law_L_get
set_option maxRecDepth 20000 in
theorem ggL_law_X3_get : GoodIn wsL_law wsX3_get := goodIn_r _ [205, 165, 95, 97, 98, 166, 167, 5, 168, 169, 170, 171, 180, 181, 182, 492, 493, 494, 495, 496, 497, 498, 499, 500, 501, 502, 503, 504, 505, 506, 507, 508, 509, 510, 511, 512, 513, 514, 515, 516, 517, 518, 519, 520, 521, 522, 523] (by decide +kernel) (by decide +kernel)
set_option maxRecDepth 20000 in
theorem gL_law_X3_get : GoodIn wsL_law (wsV RL 68 RX3 yX3_get wsX3_get) := goodIn_app (goodIn_of _ (by decide +kernel)) ggL_law_X3_get
set_option maxRecDepth 20000 in
theorem ggL_law_L_stamp : GoodIn wsL_law wsL_stamp := goodIn_ca (goodIn_r _ [208, 124, 209, 210, 211, 2, 212, 15, 213, 132, 133, 134, 135, 136, 214, 54, 55, 19, 56, 32, 487, 488, 489, 490, 491, 524, 525, 526, 527, 528] (by decide +kernel) (by decide +kernel)) (goodIn_sub (fun _ h => List.mem_append_right _ h) (by decide +kernel))
set_option maxRecDepth 20000 in
theorem gL_law_L_stamp : GoodIn wsL_law (va_wsS RL 69 yL_stamp wsL_stamp) := goodIn_app (goodIn_of _ (by decide +kernel)) ggL_law_L_stamp
set_option maxRecDepth 20000 in
theorem ggL_law_X3_stamp : GoodIn wsL_law wsX3_stamp := goodIn_r _ [218, 165, 95, 96, 166, 167, 5, 168, 169, 170, 171, 492, 493, 494, 495, 496, 497, 498, 499, 500, 501, 502, 503, 504, 505, 506, 507, 508, 509, 510, 511, 512, 513, 514, 515, 516, 517, 518, 519, 520, 521, 522, 523] (by decide +kernel) (by decide +kernel)
set_option maxRecDepth 20000 in
theorem gL_law_X3_stamp : GoodIn wsL_law (wsV RL 72 RX3 yX3_stamp wsX3_stamp) := goodIn_app (goodIn_of _ (by decide +kernel)) ggL_law_X3_stamp
set_option maxRecDepth 20000 in
theorem ggL_law_L_hash : GoodIn wsL_law wsL_hash := goodIn_ca (goodIn_r _ [221, 124, 222, 223, 224, 2, 225, 15, 226, 132, 133, 134, 135, 136, 45, 46, 47, 227, 43, 44, 487, 488, 489, 490, 491, 524, 525, 526, 527, 528] (by decide +kernel) (by decide +kernel)) (goodIn_sub (fun _ h => List.mem_append_right _ h) (by decide +kernel))
set_option maxRecDepth 20000 in
theorem gL_law_L_hash : GoodIn wsL_law (va_wsS RL 73 yL_hash wsL_hash) := goodIn_app (goodIn_of _ (by decide +kernel)) ggL_law_L_hash
set_option maxRecDepth 20000 in
theorem ggL_law_X3_hash : GoodIn wsL_law wsX3_hash := goodIn_r _ [231, 165, 99, 166, 167, 5, 168, 232, 233, 234, 235, 236, 237, 238, 239, 240, 241, 242, 243, 244, 95, 96, 97, 98, 245, 246, 247, 248, 249, 250, 251, 252, 253, 180, 181, 182, 254, 255, 256, 492, 493, 494, 495, 496, 497, 498, 499, 500, 501, 502, 503, 504, 505, 506, 507, 508, 509, 510, 511, 512, 513, 514, 515, 516, 517, 518, 519, 520, 521, 522, 523] (by decide +kernel) (by decide +kernel)
set_option maxRecDepth 20000 in
theorem gL_law_X3_hash : GoodIn wsL_law (wsV RL 75 RX3 yX3_hash wsX3_hash) := goodIn_app (goodIn_of _ (by decide +kernel)) ggL_law_X3_hash
set_option maxRecDepth 20000 in
theorem ggL_law_L_start : GoodIn wsL_law wsL_start := goodIn_ca (goodIn_r _ [259, 124, 260, 261, 262, 2, 263, 17, 264, 15, 226, 132, 133, 134, 135, 136, 265, 266, 267, 268, 22, 24, 23, 269, 270, 271, 272, 273, 274, 275, 276, 277, 278, 279, 280, 281, 21, 282, 88, 76, 77, 78, 79, 283, 284, 285, 286, 89, 487, 488, 489, 490, 491, 529, 530, 531, 532, 533, 534, 535, 536, 537, 538, 524, 525, 526, 527, 528] (by decide +kernel) (by decide +kernel)) (goodIn_sub (fun _ h => List.mem_append_right _ h) (by decide +kernel))
set_option maxRecDepth 20000 in
theorem gL_law_L_start : GoodIn wsL_law (va_wsS RL 76 yL_start wsL_start) := goodIn_app (goodIn_of _ (by decide +kernel)) ggL_law_L_start
set_option maxRecDepth 20000 in
theorem ggL_law_X3_start : GoodIn wsL_law wsX3_start := goodIn_r _ [290, 165, 110, 99, 291, 166, 167, 5, 168, 235, 236, 237, 238, 239, 240, 241, 242, 243, 244, 95, 96, 97, 98, 245, 246, 247, 248, 249, 250, 251, 252, 253, 180, 181, 182, 232, 233, 234, 254, 255, 256, 292, 293, 294, 295, 296, 297, 100, 298, 101, 102, 103, 105, 104, 106, 111, 107, 112, 108, 113, 109, 114, 492, 493, 494, 495, 496, 497, 498, 499, 500, 501, 502, 503, 504, 505, 506, 507, 508, 509, 510, 511, 512, 513, 514, 515, 516, 517, 518, 519, 520, 521, 522, 523] (by decide +kernel) (by decide +kernel)
set_option maxRecDepth 20000 in
theorem gL_law_X3_start : GoodIn wsL_law (wsV RL 79 RX3 yX3_start wsX3_start) := goodIn_app (goodIn_of _ (by decide +kernel)) ggL_law_X3_start
set_option maxRecDepth 20000 in
theorem ggL_law_L_step : GoodIn wsL_law wsL_step := goodIn_ca (goodIn_r _ [301, 124, 302, 303, 304, 2, 305, 132, 133, 134, 135, 136, 306, 307, 308, 309, 17, 310, 311, 312, 313, 314, 21, 315, 89, 88, 283, 284, 285, 286, 316, 317, 318, 319, 264, 15, 226, 320, 321, 322, 323, 265, 266, 267, 268, 22, 24, 23, 269, 270, 271, 272, 273, 274, 275, 276, 277, 278, 279, 280, 281, 282, 76, 77, 78, 79, 227, 43, 44, 45, 46, 47, 324, 325, 326, 327, 328, 329, 330, 331, 332, 19, 333, 53, 54, 55, 56, 32, 334, 335, 336, 337, 338, 339, 340, 341, 81, 342, 82, 343, 83, 344, 345, 346, 347, 348, 349, 350, 351, 352, 353, 354, 355, 356, 141, 142, 143, 144, 38, 29, 30, 145, 146, 147, 148, 149, 150, 151, 152, 153, 154, 155, 156, 157, 158, 159, 160, 33, 48, 49, 50, 51, 52, 57, 58, 59, 60, 61, 62, 63, 64, 65, 66, 67, 68, 69, 70, 71, 357, 358, 359, 360, 361, 362, 363, 364, 365, 366, 367, 368, 487, 488, 489, 490, 491, 529, 530, 531, 532, 533, 534, 535, 536, 537, 538, 524, 525, 526, 527, 528] (by decide +kernel) (by decide +kernel)) (goodIn_sub (fun _ h => List.mem_append_right _ h) (by decide +kernel))
set_option maxRecDepth 20000 in
theorem gL_law_L_step : GoodIn wsL_law (va_wsS RL 80 yL_step wsL_step) := goodIn_app (goodIn_of _ (by decide +kernel)) ggL_law_L_step
set_option maxRecDepth 20000 in
theorem ggL_law_X3_step : GoodIn wsL_law wsX3_step := goodIn_r _ [372, 165, 100, 166, 167, 5, 168, 373, 374, 375, 376, 101, 102, 103, 105, 377, 115, 104, 116, 106, 117, 107, 118, 108, 119, 109, 99, 378, 379, 380, 381, 235, 236, 237, 238, 239, 240, 241, 242, 243, 244, 95, 96, 97, 98, 245, 246, 247, 248, 249, 250, 251, 252, 253, 180, 181, 182, 232, 233, 234, 254, 255, 256, 382, 383, 384, 385, 110, 291, 292, 293, 294, 295, 296, 297, 298, 111, 112, 113, 114, 386, 387, 388, 389, 390, 391, 392, 393, 394, 395, 396, 397, 398, 399, 400, 401, 172, 173, 174, 175, 176, 177, 178, 179, 183, 184, 185, 402, 403, 404, 405, 406, 407, 408, 409, 492, 493, 494, 495, 496, 497, 498, 499, 500, 501, 502, 503, 504, 505, 506, 507, 508, 509, 510, 511, 512, 513, 514, 515, 516, 517, 518, 519, 520, 521, 522, 523] (by decide +kernel) (by decide +kernel)
set_option maxRecDepth 20000 in
theorem gL_law_X3_step : GoodIn wsL_law (wsV RL 82 RX3 yX3_step wsX3_step) := goodIn_app (goodIn_of _ (by decide +kernel)) ggL_law_X3_step
set_option maxRecDepth 20000 in
theorem ggL_law_L_lose : GoodIn wsL_law wsL_lose := goodIn_ca (goodIn_r _ [412, 124, 413, 414, 415, 2, 416, 17, 310, 311, 132, 133, 134, 135, 136, 312, 313, 314, 21, 315, 89, 88, 283, 284, 285, 286, 487, 488, 489, 490, 491, 529, 530, 531, 532, 533, 534, 535, 536, 537, 538] (by decide +kernel) (by decide +kernel)) (goodIn_sub (fun _ h => List.mem_append_right _ h) (by decide +kernel))
set_option maxRecDepth 20000 in
theorem gL_law_L_lose : GoodIn wsL_law (va_wsS RL 83 yL_lose wsL_lose) := goodIn_app (goodIn_of _ (by decide +kernel)) ggL_law_L_lose
set_option maxRecDepth 20000 in
theorem ggL_law_X3_lose : GoodIn wsL_law wsX3_lose := goodIn_r _ [420, 165, 100, 101, 166, 167, 5, 168, 378, 379, 380, 381, 102, 103, 105, 104, 106, 107, 108, 109, 492, 493, 494, 495, 496, 497, 498, 499, 500, 501, 502, 503, 504, 505, 506, 507, 508, 509, 510, 511, 512, 513, 514, 515, 516, 517, 518, 519, 520, 521, 522, 523] (by decide +kernel) (by decide +kernel)
set_option maxRecDepth 20000 in
theorem gL_law_X3_lose : GoodIn wsL_law (wsV RL 85 RX3 yX3_lose wsX3_lose) := goodIn_app (goodIn_of _ (by decide +kernel)) ggL_law_X3_lose
set_option maxRecDepth 20000 in
theorem ggL_law_L_run : GoodIn wsL_law wsL_run := goodIn_ca (goodIn_r _ [423, 125, 424, 425, 426, 2, 427, 130, 131, 428, 429, 430, 431, 17, 310, 306, 307, 308, 309, 311, 312, 313, 314, 21, 315, 89, 88, 283, 284, 285, 286, 316, 317, 318, 319, 264, 15, 226, 320, 321, 322, 323, 265, 266, 267, 268, 22, 24, 23, 269, 270, 271, 272, 273, 274, 275, 276, 277, 278, 279, 280, 281, 282, 76, 77, 78, 79, 227, 43, 44, 45, 46, 47, 324, 325, 326, 327, 328, 329, 330, 331, 332, 19, 333, 53, 54, 55, 56, 32, 334, 335, 336, 337, 338, 339, 340, 341, 81, 342, 82, 343, 83, 344, 345, 346, 347, 348, 349, 350, 351, 352, 353, 354, 355, 356, 141, 142, 143, 144, 38, 29, 30, 145, 146, 147, 148, 149, 150, 151, 152, 153, 154, 155, 156, 157, 158, 159, 160, 33, 48, 49, 50, 51, 52, 57, 58, 59, 60, 61, 62, 63, 64, 65, 66, 67, 68, 69, 70, 71, 357, 358, 359, 360, 361, 362, 363, 364, 365, 366, 367, 368, 487, 488, 489, 490, 491, 529, 530, 531, 532, 533, 534, 535, 536, 537, 538, 524, 525, 526, 527, 528] (by decide +kernel) (by decide +kernel)) (goodIn_sub (fun _ h => List.mem_append_left _ (List.mem_append_right _ h)) (by decide +kernel))
set_option maxRecDepth 20000 in
theorem gL_law_L_run : GoodIn wsL_law (va_wsS RL 86 yL_run wsL_run) := goodIn_app (goodIn_of _ (by decide +kernel)) ggL_law_L_run
set_option maxRecDepth 20000 in
theorem ggL_law_X3_run : GoodIn wsL_law wsX3_run := goodIn_r _ [435, 165, 100, 373, 374, 375, 5, 376, 101, 102, 103, 105, 377, 115, 104, 116, 106, 117, 107, 118, 108, 119, 109, 99, 378, 379, 380, 381, 235, 236, 237, 238, 239, 240, 241, 242, 243, 244, 95, 96, 97, 98, 245, 246, 247, 248, 249, 250, 251, 252, 253, 180, 181, 182, 232, 233, 234, 254, 255, 256, 382, 383, 384, 385, 110, 291, 292, 293, 294, 295, 296, 297, 298, 111, 112, 113, 114, 386, 387, 388, 389, 390, 391, 392, 393, 394, 395, 396, 397, 398, 399, 400, 401, 172, 173, 174, 175, 176, 177, 178, 179, 183, 184, 185, 402, 403, 404, 405, 406, 407, 408, 409, 492, 493, 494, 495, 496, 497, 498, 499, 500, 501, 502, 503, 504, 505, 506, 507, 508, 509, 510, 511, 512, 513, 514, 515, 516, 517, 518, 519, 520, 521, 522, 523] (by decide +kernel) (by decide +kernel)
set_option maxRecDepth 20000 in
theorem gL_law_X3_run : GoodIn wsL_law (wsV RL 88 RX3 yX3_run wsX3_run) := goodIn_app (goodIn_of _ (by decide +kernel)) ggL_law_X3_run
set_option maxRecDepth 20000 in
theorem ggL_law_L_message : GoodIn wsL_law wsL_message := goodIn_ca (goodIn_r _ [438, 124, 439, 440, 441, 2, 442, 17, 310, 311, 328, 329, 443, 132, 133, 134, 135, 136, 444, 284, 285, 21, 286, 89, 269, 270, 271, 272, 273, 274, 275, 445, 446, 447, 448, 78, 345, 346, 347, 348, 79, 487, 488, 489, 490, 491, 529, 530, 531, 532, 533, 534, 535, 536, 537, 538] (by decide +kernel) (by decide +kernel)) (goodIn_sub (fun _ h => List.mem_append_right _ h) (by decide +kernel))
set_option maxRecDepth 20000 in
theorem gL_law_L_message : GoodIn wsL_law (va_wsS RL 89 yL_message wsL_message) := goodIn_app (goodIn_of _ (by decide +kernel)) ggL_law_L_message
set_option maxRecDepth 20000 in
theorem ggL_law_X3_message : GoodIn wsL_law wsX3_message := goodIn_r _ [452, 100, 165, 101, 102, 103, 105, 106, 166, 167, 5, 168, 492, 493, 494, 495, 496, 497, 498, 499, 500, 501, 502, 503, 504, 505, 506, 507, 508, 509, 510, 511, 512, 513, 514, 515, 516, 517, 518, 519, 520, 521, 522, 523] (by decide +kernel) (by decide +kernel)
set_option maxRecDepth 20000 in
theorem gL_law_X3_message : GoodIn wsL_law (wsV RL 91 RX3 yX3_message wsX3_message) := goodIn_app (goodIn_of _ (by decide +kernel)) ggL_law_X3_message
set_option maxRecDepth 20000 in
theorem ggL_law_L_count : GoodIn wsL_law wsL_count := goodIn_ca (goodIn_r _ [455, 124, 456, 457, 458, 2, 459, 135, 136, 22, 23, 24, 17, 310, 15, 460, 487, 488, 489, 490, 491, 529, 530, 531, 532, 533, 534, 535, 536, 537, 538, 524, 525, 526, 527, 528] (by decide +kernel) (by decide +kernel)) (goodIn_sub (fun _ h => List.mem_append_right _ h) (by decide +kernel))
set_option maxRecDepth 20000 in
theorem gL_law_L_count : GoodIn wsL_law (va_wsS RL 92 yL_count wsL_count) := goodIn_app (goodIn_of _ (by decide +kernel)) ggL_law_L_count
set_option maxRecDepth 20000 in
theorem ggL_law_X3_count : GoodIn wsL_law wsX3_count := goodIn_r _ [464, 165, 296, 298, 297, 100, 465, 466, 467, 5, 468, 95, 492, 493, 494, 495, 496, 497, 498, 499, 500, 501, 502, 503, 504, 505, 506, 507, 508, 509, 510, 511, 512, 513, 514, 515, 516, 517, 518, 519, 520, 521, 522, 523] (by decide +kernel) (by decide +kernel)
set_option maxRecDepth 20000 in
theorem gL_law_X3_count : GoodIn wsL_law (wsV RL 94 RX3 yX3_count wsX3_count) := goodIn_app (goodIn_of _ (by decide +kernel)) ggL_law_X3_count
set_option maxRecDepth 20000 in
theorem ggL_law_X2_same : GoodIn wsL_law wsX2_same := goodIn_r _ [472, 15, 213, 198, 197, 365, 366, 367, 19, 368, 32, 29, 30, 487, 488, 489, 490, 491, 524, 525, 526, 527, 528] (by decide +kernel) (by decide +kernel)
set_option maxRecDepth 20000 in
theorem gL_law_X2_same : GoodIn wsL_law (wsV RL 95 RX2 yX2_same wsX2_same) := goodIn_app (goodIn_of _ (by decide +kernel)) ggL_law_X2_same
set_option maxRecDepth 20000 in
theorem ggL_law_X3_same : GoodIn wsL_law wsX3_same := goodIn_r _ [476, 165, 95, 96, 97, 98, 492, 493, 494, 495, 496, 497, 498, 499, 500, 501, 502, 503, 504, 505, 506, 507, 508, 509, 510, 511, 512, 513, 514, 515, 516, 517, 518, 519, 520, 521, 522, 523] (by decide +kernel) (by decide +kernel)
set_option maxRecDepth 20000 in
theorem gL_law_X3_same : GoodIn wsL_law (wsV RL 99 RX3 yX3_same wsX3_same) := goodIn_app (goodIn_of _ (by decide +kernel)) ggL_law_X3_same
set_option maxRecDepth 20000 in
theorem ggL_law_X2_clear : GoodIn wsL_law wsX2_clear := goodIn_r _ [480, 15, 17, 22, 23, 24, 481, 35, 36, 19, 37, 29, 30, 32, 38, 39, 40, 41, 42, 33, 43, 2, 44, 45, 46, 47, 48, 49, 50, 51, 52, 53, 54, 55, 56, 57, 58, 59, 60, 61, 62, 63, 64, 65, 66, 67, 68, 69, 70, 71, 482, 85, 86, 21, 87, 88, 89, 487, 488, 489, 490, 491, 524, 525, 526, 527, 528, 529, 530, 531, 532, 533, 534, 535, 536, 537, 538] (by decide +kernel) (by decide +kernel)
set_option maxRecDepth 20000 in
theorem gL_law_X2_clear : GoodIn wsL_law (wsV RL 100 RX2 yX2_clear wsX2_clear) := goodIn_app (goodIn_of _ (by decide +kernel)) ggL_law_X2_clear
set_option maxRecDepth 20000 in
theorem ggL_law_X3_clear : GoodIn wsL_law wsX3_clear := goodIn_r _ [486, 165, 95, 100, 296, 298, 297, 492, 493, 494, 495, 496, 497, 498, 499, 500, 501, 502, 503, 504, 505, 506, 507, 508, 509, 510, 511, 512, 513, 514, 515, 516, 517, 518, 519, 520, 521, 522, 523] (by decide +kernel) (by decide +kernel)
set_option maxRecDepth 20000 in
theorem gL_law_X3_clear : GoodIn wsL_law (wsV RL 103 RX3 yX3_clear wsX3_clear) := goodIn_app (goodIn_of _ (by decide +kernel)) ggL_law_X3_clear

