/-! THE LAW: words of its calls -/
set_option maxRecDepth 20000 in
theorem gp_wsX7_treaty_r1 : GoodIn wsL_law wsX7_treaty_r1 := goodIn_r _ [511, 512, 513, 2, 514, 21, 20, 28, 174, 148, 149, 19, 150, 46, 48, 151, 152, 153, 154, 49, 50, 51, 55, 59] (by decide +kernel) (by decide +kernel)
set_option maxRecDepth 20000 in
theorem gp_wsX7_treaty_r2 : GoodIn wsL_law wsX7_treaty_r2 := goodIn_r _ [63, 155, 156, 157, 54, 158, 67, 159, 160, 161, 162, 58, 163, 72, 73, 164, 74, 75, 165, 166, 167, 62, 168, 79] (by decide +kernel) (by decide +kernel)
set_option maxRecDepth 20000 in
theorem gp_wsX7_treaty_r3 : GoodIn wsL_law wsX7_treaty_r3 := goodIn_r _ [80, 81, 82, 83, 84, 85, 86, 354, 355, 356, 357, 358, 359, 360, 361, 40, 362, 363, 364, 365, 366, 367, 368, 39] (by decide +kernel) (by decide +kernel)
set_option maxRecDepth 20000 in
theorem gp_wsX7_treaty_r4 : GoodIn wsL_law wsX7_treaty_r4 := goodIn_r _ [369, 130, 131, 132, 133, 370, 371, 372, 373, 374, 375, 376, 377, 378, 379, 380, 381, 382, 383, 384, 385, 386, 387, 388] (by decide +kernel) (by decide +kernel)
set_option maxRecDepth 20000 in
theorem gp_wsX7_treaty_r5 : GoodIn wsL_law wsX7_treaty_r5 := goodIn_r _ [389, 390, 391, 392, 393, 394, 395, 396, 397, 398, 399, 400, 401, 402, 403, 404, 405, 406, 407, 408, 409, 410, 411, 412] (by decide +kernel) (by decide +kernel)
set_option maxRecDepth 20000 in
theorem gp_wsX7_treaty_r6 : GoodIn wsL_law wsX7_treaty_r6 := goodIn_r _ [413, 414, 415, 416, 417, 418, 419, 420, 421, 422, 423, 424, 425, 426, 427, 428, 429, 430, 431, 432, 433, 434, 435, 436] (by decide +kernel) (by decide +kernel)
set_option maxRecDepth 20000 in
theorem gp_wsX7_treaty_r7 : GoodIn wsL_law wsX7_treaty_r7 := goodIn_r _ [437, 438, 439, 440, 441, 442, 443, 444, 445, 446, 8, 9, 10, 447, 448, 449, 450, 68, 451, 452, 453, 454, 455, 456] (by decide +kernel) (by decide +kernel)
set_option maxRecDepth 20000 in
theorem gp_wsX7_treaty_r8 : GoodIn wsL_law wsX7_treaty_r8 := goodIn_r _ [246, 247, 457, 458, 459, 460, 461, 462, 463, 464, 465, 466, 467, 468, 469, 470, 471, 472, 473, 474, 475, 476, 477, 478] (by decide +kernel) (by decide +kernel)
set_option maxRecDepth 20000 in
theorem gp_wsX7_treaty_r9 : GoodIn wsL_law wsX7_treaty_r9 := goodIn_r _ [479, 480, 481, 482, 483, 484, 485, 486, 487, 488, 489, 490, 491, 144, 145, 146, 496, 497, 498, 27, 499, 94, 92, 91] (by decide +kernel) (by decide +kernel)
set_option maxRecDepth 20000 in
theorem gp_wsX7_treaty_r10 : GoodIn wsL_law wsX7_treaty_r10 := goodIn_r _ [500, 147, 143] (by decide +kernel) (by decide +kernel)
set_option maxRecDepth 20000 in
theorem gp_X7_treaty_0 : GoodIn wsL_law [.code yX7_treaty cX7_treaty 4 (some .int)] := goodIn_r _ [510] (by decide +kernel) (by decide +kernel)
theorem ggL_law_X7_treaty : GoodIn wsL_law wsX7_treaty := (goodIn_cons gp_X7_treaty_0 (goodIn_app (goodIn_app (goodIn_app (goodIn_app (goodIn_app (goodIn_app (goodIn_app (goodIn_app gp_wsX7_treaty_r1 (goodIn_app gp_wsX7_treaty_r2 (goodIn_app gp_wsX7_treaty_r3 (goodIn_app gp_wsX7_treaty_r4 (goodIn_app gp_wsX7_treaty_r5 (goodIn_app gp_wsX7_treaty_r6 (goodIn_app gp_wsX7_treaty_r7 (goodIn_app gp_wsX7_treaty_r8 (goodIn_app gp_wsX7_treaty_r9 gp_wsX7_treaty_r10))))))))) gp_wsX70) gp_wsX30) gp_wsX60) gp_wsX10) gp_wsX00) gp_wsX40) gp_wsX20))
set_option maxRecDepth 20000 in
theorem gL_law_X7_treaty : GoodIn wsL_law (wsV RL 41 RX7 yX7_treaty wsX7_treaty) := goodIn_app (goodIn_of _ (by decide +kernel)) ggL_law_X7_treaty
set_option maxRecDepth 20000 in
theorem gp_wsX7_credit_r1 : GoodIn wsL_law wsX7_credit_r1 := goodIn_r _ [511, 512, 513, 2, 514, 21, 20, 28, 174, 148, 149, 19, 150, 46, 48, 151, 152, 153, 154, 49, 50, 51, 55, 59] (by decide +kernel) (by decide +kernel)
set_option maxRecDepth 20000 in
theorem gp_wsX7_credit_r2 : GoodIn wsL_law wsX7_credit_r2 := goodIn_r _ [63, 155, 156, 157, 54, 158, 67, 159, 160, 161, 162, 58, 163, 72, 73, 164, 74, 75, 165, 166, 167, 62, 168, 79] (by decide +kernel) (by decide +kernel)
set_option maxRecDepth 20000 in
theorem gp_wsX7_credit_r3 : GoodIn wsL_law wsX7_credit_r3 := goodIn_r _ [80, 81, 82, 83, 84, 85, 86, 354, 355, 356, 357, 358, 359, 360, 361, 40, 362, 363, 364, 365, 366, 367, 368, 39] (by decide +kernel) (by decide +kernel)
set_option maxRecDepth 20000 in
theorem gp_wsX7_credit_r4 : GoodIn wsL_law wsX7_credit_r4 := goodIn_r _ [369, 130, 131, 132, 133, 370, 371, 372, 373, 374, 375, 376, 377, 378, 379, 380, 381, 382, 383, 384, 385, 386, 387, 388] (by decide +kernel) (by decide +kernel)
set_option maxRecDepth 20000 in
theorem gp_wsX7_credit_r5 : GoodIn wsL_law wsX7_credit_r5 := goodIn_r _ [389, 390, 391, 392, 393, 394, 395, 396, 397, 398, 399, 400, 401, 402, 403, 404, 405, 406, 407, 408, 409, 410, 411, 412] (by decide +kernel) (by decide +kernel)
set_option maxRecDepth 20000 in
theorem gp_wsX7_credit_r6 : GoodIn wsL_law wsX7_credit_r6 := goodIn_r _ [413, 414, 415, 416, 417, 418, 419, 420, 421, 422, 423, 424, 425, 426, 427, 428, 429, 430, 431, 432, 433, 434, 435, 436] (by decide +kernel) (by decide +kernel)
set_option maxRecDepth 20000 in
theorem gp_wsX7_credit_r7 : GoodIn wsL_law wsX7_credit_r7 := goodIn_r _ [437, 438, 439, 440, 441, 442, 443, 444, 445, 446, 8, 9, 10, 447, 448, 449, 450, 68, 451, 452, 453, 454, 455, 456] (by decide +kernel) (by decide +kernel)
set_option maxRecDepth 20000 in
theorem gp_wsX7_credit_r8 : GoodIn wsL_law wsX7_credit_r8 := goodIn_r _ [246, 247, 457, 458, 459, 460, 461, 462, 463, 464, 465, 466, 467, 468, 469, 470, 471, 472, 473, 474, 475, 476, 477, 478] (by decide +kernel) (by decide +kernel)
set_option maxRecDepth 20000 in
theorem gp_wsX7_credit_r9 : GoodIn wsL_law wsX7_credit_r9 := goodIn_r _ [479, 480, 481, 482, 483, 484, 485, 486, 487, 488, 489, 490, 491, 144, 145, 146, 496, 497, 498, 27, 499, 94, 92, 91] (by decide +kernel) (by decide +kernel)
set_option maxRecDepth 20000 in
theorem gp_wsX7_credit_r10 : GoodIn wsL_law wsX7_credit_r10 := goodIn_r _ [500, 147, 143] (by decide +kernel) (by decide +kernel)
set_option maxRecDepth 20000 in
theorem gp_X7_credit_0 : GoodIn wsL_law [.code yX7_credit cX7_credit 4 (some .int)] := goodIn_r _ [518] (by decide +kernel) (by decide +kernel)
theorem ggL_law_X7_credit : GoodIn wsL_law wsX7_credit := (goodIn_cons gp_X7_credit_0 (goodIn_app (goodIn_app (goodIn_app (goodIn_app (goodIn_app (goodIn_app (goodIn_app (goodIn_app gp_wsX7_credit_r1 (goodIn_app gp_wsX7_credit_r2 (goodIn_app gp_wsX7_credit_r3 (goodIn_app gp_wsX7_credit_r4 (goodIn_app gp_wsX7_credit_r5 (goodIn_app gp_wsX7_credit_r6 (goodIn_app gp_wsX7_credit_r7 (goodIn_app gp_wsX7_credit_r8 (goodIn_app gp_wsX7_credit_r9 gp_wsX7_credit_r10))))))))) gp_wsX70) gp_wsX30) gp_wsX60) gp_wsX10) gp_wsX00) gp_wsX40) gp_wsX20))
set_option maxRecDepth 20000 in
theorem gL_law_X7_credit : GoodIn wsL_law (wsV RL 45 RX7 yX7_credit wsX7_credit) := goodIn_app (goodIn_of _ (by decide +kernel)) ggL_law_X7_credit
set_option maxRecDepth 20000 in
theorem gp_wsX7_repay_r1 : GoodIn wsL_law wsX7_repay_r1 := goodIn_r _ [511, 512, 513, 2, 514, 21, 20, 28, 174, 148, 149, 19, 150, 46, 48, 151, 152, 153, 154, 49, 50, 51, 55, 59] (by decide +kernel) (by decide +kernel)
set_option maxRecDepth 20000 in
theorem gp_wsX7_repay_r2 : GoodIn wsL_law wsX7_repay_r2 := goodIn_r _ [63, 155, 156, 157, 54, 158, 67, 159, 160, 161, 162, 58, 163, 72, 73, 164, 74, 75, 165, 166, 167, 62, 168, 79] (by decide +kernel) (by decide +kernel)
set_option maxRecDepth 20000 in
theorem gp_wsX7_repay_r3 : GoodIn wsL_law wsX7_repay_r3 := goodIn_r _ [80, 81, 82, 83, 84, 85, 86, 354, 355, 356, 357, 358, 359, 360, 361, 40, 362, 363, 364, 365, 366, 367, 368, 39] (by decide +kernel) (by decide +kernel)
set_option maxRecDepth 20000 in
theorem gp_wsX7_repay_r4 : GoodIn wsL_law wsX7_repay_r4 := goodIn_r _ [369, 130, 131, 132, 133, 370, 371, 372, 373, 374, 375, 376, 377, 378, 379, 380, 381, 382, 383, 384, 385, 386, 387, 388] (by decide +kernel) (by decide +kernel)
set_option maxRecDepth 20000 in
theorem gp_wsX7_repay_r5 : GoodIn wsL_law wsX7_repay_r5 := goodIn_r _ [389, 390, 391, 392, 393, 394, 395, 396, 397, 398, 399, 400, 401, 402, 403, 404, 405, 406, 407, 408, 409, 410, 411, 412] (by decide +kernel) (by decide +kernel)
set_option maxRecDepth 20000 in
theorem gp_wsX7_repay_r6 : GoodIn wsL_law wsX7_repay_r6 := goodIn_r _ [413, 414, 415, 416, 417, 418, 419, 420, 421, 422, 423, 424, 425, 426, 427, 428, 429, 430, 431, 432, 433, 434, 435, 436] (by decide +kernel) (by decide +kernel)
set_option maxRecDepth 20000 in
theorem gp_wsX7_repay_r7 : GoodIn wsL_law wsX7_repay_r7 := goodIn_r _ [437, 438, 439, 440, 441, 442, 443, 444, 445, 446, 8, 9, 10, 447, 448, 449, 450, 68, 451, 452, 453, 454, 455, 456] (by decide +kernel) (by decide +kernel)
set_option maxRecDepth 20000 in
theorem gp_wsX7_repay_r8 : GoodIn wsL_law wsX7_repay_r8 := goodIn_r _ [246, 247, 457, 458, 459, 460, 461, 462, 463, 464, 465, 466, 467, 468, 469, 470, 471, 472, 473, 474, 475, 476, 477, 478] (by decide +kernel) (by decide +kernel)
set_option maxRecDepth 20000 in
theorem gp_wsX7_repay_r9 : GoodIn wsL_law wsX7_repay_r9 := goodIn_r _ [479, 480, 481, 482, 483, 484, 485, 486, 487, 488, 489, 490, 491, 144, 145, 146, 496, 497, 498, 27, 499, 94, 92, 91] (by decide +kernel) (by decide +kernel)
set_option maxRecDepth 20000 in
theorem gp_wsX7_repay_r10 : GoodIn wsL_law wsX7_repay_r10 := goodIn_r _ [500, 147, 143] (by decide +kernel) (by decide +kernel)
set_option maxRecDepth 20000 in
theorem gp_X7_repay_0 : GoodIn wsL_law [.code yX7_repay cX7_repay 2 (some .int)] := goodIn_r _ [522] (by decide +kernel) (by decide +kernel)
theorem ggL_law_X7_repay : GoodIn wsL_law wsX7_repay := (goodIn_cons gp_X7_repay_0 (goodIn_app (goodIn_app (goodIn_app (goodIn_app (goodIn_app (goodIn_app (goodIn_app (goodIn_app gp_wsX7_repay_r1 (goodIn_app gp_wsX7_repay_r2 (goodIn_app gp_wsX7_repay_r3 (goodIn_app gp_wsX7_repay_r4 (goodIn_app gp_wsX7_repay_r5 (goodIn_app gp_wsX7_repay_r6 (goodIn_app gp_wsX7_repay_r7 (goodIn_app gp_wsX7_repay_r8 (goodIn_app gp_wsX7_repay_r9 gp_wsX7_repay_r10))))))))) gp_wsX70) gp_wsX30) gp_wsX60) gp_wsX10) gp_wsX00) gp_wsX40) gp_wsX20))
set_option maxRecDepth 20000 in
theorem gL_law_X7_repay : GoodIn wsL_law (wsV RL 52 RX7 yX7_repay wsX7_repay) := goodIn_app (goodIn_of _ (by decide +kernel)) ggL_law_X7_repay
set_option maxRecDepth 20000 in
theorem gp_wsX7_bail_r1 : GoodIn wsL_law wsX7_bail_r1 := goodIn_r _ [511, 512, 513, 2, 514, 21, 20, 28, 174, 148, 149, 19, 150, 46, 48, 151, 152, 153, 154, 49, 50, 51, 55, 59] (by decide +kernel) (by decide +kernel)
set_option maxRecDepth 20000 in
theorem gp_wsX7_bail_r2 : GoodIn wsL_law wsX7_bail_r2 := goodIn_r _ [63, 155, 156, 157, 54, 158, 67, 159, 160, 161, 162, 58, 163, 72, 73, 164, 74, 75, 165, 166, 167, 62, 168, 79] (by decide +kernel) (by decide +kernel)
set_option maxRecDepth 20000 in
theorem gp_wsX7_bail_r3 : GoodIn wsL_law wsX7_bail_r3 := goodIn_r _ [80, 81, 82, 83, 84, 85, 86, 354, 355, 356, 357, 358, 359, 360, 361, 40, 362, 363, 364, 365, 366, 367, 368, 39] (by decide +kernel) (by decide +kernel)
set_option maxRecDepth 20000 in
theorem gp_wsX7_bail_r4 : GoodIn wsL_law wsX7_bail_r4 := goodIn_r _ [369, 130, 131, 132, 133, 370, 371, 372, 373, 374, 375, 376, 377, 378, 379, 380, 381, 382, 383, 384, 385, 386, 387, 388] (by decide +kernel) (by decide +kernel)
set_option maxRecDepth 20000 in
theorem gp_wsX7_bail_r5 : GoodIn wsL_law wsX7_bail_r5 := goodIn_r _ [389, 390, 391, 392, 393, 394, 395, 396, 397, 398, 399, 400, 401, 402, 403, 404, 405, 406, 407, 408, 409, 410, 411, 412] (by decide +kernel) (by decide +kernel)
set_option maxRecDepth 20000 in
theorem gp_wsX7_bail_r6 : GoodIn wsL_law wsX7_bail_r6 := goodIn_r _ [413, 414, 415, 416, 417, 418, 419, 420, 421, 422, 423, 424, 425, 426, 427, 428, 429, 430, 431, 432, 433, 434, 435, 436] (by decide +kernel) (by decide +kernel)
set_option maxRecDepth 20000 in
theorem gp_wsX7_bail_r7 : GoodIn wsL_law wsX7_bail_r7 := goodIn_r _ [437, 438, 439, 440, 441, 442, 443, 444, 445, 446, 8, 9, 10, 447, 448, 449, 450, 68, 451, 452, 453, 454, 455, 456] (by decide +kernel) (by decide +kernel)
set_option maxRecDepth 20000 in
theorem gp_wsX7_bail_r8 : GoodIn wsL_law wsX7_bail_r8 := goodIn_r _ [246, 247, 457, 458, 459, 460, 461, 462, 463, 464, 465, 466, 467, 468, 469, 470, 471, 472, 473, 474, 475, 476, 477, 478] (by decide +kernel) (by decide +kernel)
set_option maxRecDepth 20000 in
theorem gp_wsX7_bail_r9 : GoodIn wsL_law wsX7_bail_r9 := goodIn_r _ [479, 480, 481, 482, 483, 484, 485, 486, 487, 488, 489, 490, 491, 144, 145, 146, 496, 497, 498, 27, 499, 94, 92, 91] (by decide +kernel) (by decide +kernel)
set_option maxRecDepth 20000 in
theorem gp_wsX7_bail_r10 : GoodIn wsL_law wsX7_bail_r10 := goodIn_r _ [500, 147, 143] (by decide +kernel) (by decide +kernel)
set_option maxRecDepth 20000 in
theorem gp_X7_bail_0 : GoodIn wsL_law [.code yX7_bail cX7_bail 3 (some .int)] := goodIn_r _ [526] (by decide +kernel) (by decide +kernel)
theorem ggL_law_X7_bail : GoodIn wsL_law wsX7_bail := (goodIn_cons gp_X7_bail_0 (goodIn_app (goodIn_app (goodIn_app (goodIn_app (goodIn_app (goodIn_app (goodIn_app (goodIn_app gp_wsX7_bail_r1 (goodIn_app gp_wsX7_bail_r2 (goodIn_app gp_wsX7_bail_r3 (goodIn_app gp_wsX7_bail_r4 (goodIn_app gp_wsX7_bail_r5 (goodIn_app gp_wsX7_bail_r6 (goodIn_app gp_wsX7_bail_r7 (goodIn_app gp_wsX7_bail_r8 (goodIn_app gp_wsX7_bail_r9 gp_wsX7_bail_r10))))))))) gp_wsX70) gp_wsX30) gp_wsX60) gp_wsX10) gp_wsX00) gp_wsX40) gp_wsX20))
set_option maxRecDepth 20000 in
theorem gL_law_X7_bail : GoodIn wsL_law (wsV RL 58 RX7 yX7_bail wsX7_bail) := goodIn_app (goodIn_of _ (by decide +kernel)) ggL_law_X7_bail
set_option maxRecDepth 20000 in
theorem gp_wsX7_rain_r1 : GoodIn wsL_law wsX7_rain_r1 := goodIn_r _ [511, 512, 513, 2, 514, 21, 20, 28, 174, 148, 149, 19, 150, 46, 48, 151, 152, 153, 154, 49, 50, 51, 55, 59] (by decide +kernel) (by decide +kernel)
set_option maxRecDepth 20000 in
theorem gp_wsX7_rain_r2 : GoodIn wsL_law wsX7_rain_r2 := goodIn_r _ [63, 155, 156, 157, 54, 158, 67, 159, 160, 161, 162, 58, 163, 72, 73, 164, 74, 75, 165, 166, 167, 62, 168, 79] (by decide +kernel) (by decide +kernel)
set_option maxRecDepth 20000 in
theorem gp_wsX7_rain_r3 : GoodIn wsL_law wsX7_rain_r3 := goodIn_r _ [80, 81, 82, 83, 84, 85, 86, 354, 355, 356, 357, 358, 359, 360, 361, 40, 362, 363, 364, 365, 366, 367, 368, 39] (by decide +kernel) (by decide +kernel)
set_option maxRecDepth 20000 in
theorem gp_wsX7_rain_r4 : GoodIn wsL_law wsX7_rain_r4 := goodIn_r _ [369, 130, 131, 132, 133, 370, 371, 372, 373, 374, 375, 376, 377, 378, 379, 380, 381, 382, 383, 384, 385, 386, 387, 388] (by decide +kernel) (by decide +kernel)
set_option maxRecDepth 20000 in
theorem gp_wsX7_rain_r5 : GoodIn wsL_law wsX7_rain_r5 := goodIn_r _ [389, 390, 391, 392, 393, 394, 395, 396, 397, 398, 399, 400, 401, 402, 403, 404, 405, 406, 407, 408, 409, 410, 411, 412] (by decide +kernel) (by decide +kernel)
set_option maxRecDepth 20000 in
theorem gp_wsX7_rain_r6 : GoodIn wsL_law wsX7_rain_r6 := goodIn_r _ [413, 414, 415, 416, 417, 418, 419, 420, 421, 422, 423, 424, 425, 426, 427, 428, 429, 430, 431, 432, 433, 434, 435, 436] (by decide +kernel) (by decide +kernel)
set_option maxRecDepth 20000 in
theorem gp_wsX7_rain_r7 : GoodIn wsL_law wsX7_rain_r7 := goodIn_r _ [437, 438, 439, 440, 441, 442, 443, 444, 445, 446, 8, 9, 10, 447, 448, 449, 450, 68, 451, 452, 453, 454, 455, 456] (by decide +kernel) (by decide +kernel)
set_option maxRecDepth 20000 in
theorem gp_wsX7_rain_r8 : GoodIn wsL_law wsX7_rain_r8 := goodIn_r _ [246, 247, 457, 458, 459, 460, 461, 462, 463, 464, 465, 466, 467, 468, 469, 470, 471, 472, 473, 474, 475, 476, 477, 478] (by decide +kernel) (by decide +kernel)
set_option maxRecDepth 20000 in
theorem gp_wsX7_rain_r9 : GoodIn wsL_law wsX7_rain_r9 := goodIn_r _ [479, 480, 481, 482, 483, 484, 485, 486, 487, 488, 489, 490, 491, 144, 145, 146, 496, 497, 498, 27, 499, 94, 92, 91] (by decide +kernel) (by decide +kernel)
set_option maxRecDepth 20000 in
theorem gp_wsX7_rain_r10 : GoodIn wsL_law wsX7_rain_r10 := goodIn_r _ [500, 147, 143] (by decide +kernel) (by decide +kernel)
set_option maxRecDepth 20000 in
theorem gp_X7_rain_0 : GoodIn wsL_law [.code yX7_rain cX7_rain 3 (some .int)] := goodIn_r _ [530] (by decide +kernel) (by decide +kernel)
theorem ggL_law_X7_rain : GoodIn wsL_law wsX7_rain := (goodIn_cons gp_X7_rain_0 (goodIn_app (goodIn_app (goodIn_app (goodIn_app (goodIn_app (goodIn_app (goodIn_app (goodIn_app gp_wsX7_rain_r1 (goodIn_app gp_wsX7_rain_r2 (goodIn_app gp_wsX7_rain_r3 (goodIn_app gp_wsX7_rain_r4 (goodIn_app gp_wsX7_rain_r5 (goodIn_app gp_wsX7_rain_r6 (goodIn_app gp_wsX7_rain_r7 (goodIn_app gp_wsX7_rain_r8 (goodIn_app gp_wsX7_rain_r9 gp_wsX7_rain_r10))))))))) gp_wsX70) gp_wsX30) gp_wsX60) gp_wsX10) gp_wsX00) gp_wsX40) gp_wsX20))
set_option maxRecDepth 20000 in
theorem gL_law_X7_rain : GoodIn wsL_law (wsV RL 55 RX7 yX7_rain wsX7_rain) := goodIn_app (goodIn_of _ (by decide +kernel)) ggL_law_X7_rain
