set_option maxRecDepth 20000 in
theorem gc_law_L_isSo_wsX50 : GoodIn wsL_law wsX50 := goodIn_r wsX50 [589, 590, 591, 592, 593, 594] (by rfl) (by decide +kernel)
set_option maxRecDepth 20000 in
theorem gc_law_L_isSo_wsX10 : GoodIn wsL_law wsX10 := goodIn_r wsX10 [618, 619, 620, 621, 622, 623, 624] (by rfl) (by decide +kernel)
set_option maxRecDepth 20000 in
theorem gc_law_L_isSo_wsX60 : GoodIn wsL_law wsX60 := goodIn_r wsX60 [613, 614, 615, 616, 617] (by rfl) (by decide +kernel)
set_option maxRecDepth 20000 in
theorem gc_law_L_isSo_wsX40 : GoodIn wsL_law wsX40 := goodIn_r wsX40 [625, 626, 627, 628, 629, 630, 631, 632, 633, 634] (by rfl) (by decide +kernel)
set_option maxRecDepth 20000 in
theorem gc_law_L_isSo_wsX80 : GoodIn wsL_law wsX80 := goodIn_r wsX80 [635, 636, 637, 638] (by rfl) (by decide +kernel)
set_option maxRecDepth 20000 in
theorem gc_law_L_isSo_wsX30 : GoodIn wsL_law wsX30 := goodIn_r wsX30 [595, 596, 597] (by rfl) (by decide +kernel)
set_option maxRecDepth 20000 in
theorem gc_law_L_isSo_wsX70 : GoodIn wsL_law wsX70 := goodIn_r wsX70 [604, 605, 606, 607, 608, 609, 610, 611, 612] (by rfl) (by decide +kernel)
set_option maxRecDepth 20000 in
theorem gc_law_L_isSo_wsX20 : GoodIn wsL_law wsX20 := goodIn_r wsX20 [598, 599, 600, 601, 602, 603] (by rfl) (by decide +kernel)
set_option maxRecDepth 20000 in
theorem gc_law_L_acts_0 : GoodIn wsL_law [.code yL_acts cL_acts 14 (some .boolean)] := goodIn_r _ [297] (by rfl) (by decide +kernel)
set_option maxRecDepth 20000 in
theorem gc_law_L_acts_wsL_acts_r1 : GoodIn wsL_law wsL_acts_r1 := goodIn_r wsL_acts_r1 [298, 299, 300, 114, 301, 4, 302, 303, 304, 305, 306, 307, 2, 308, 309, 310, 311, 312, 15, 14, 313, 314, 315, 13] (by rfl) (by decide +kernel)
set_option maxRecDepth 20000 in
theorem gc_law_L_acts_wsL_acts_r2 : GoodIn wsL_law wsL_acts_r2 := goodIn_r wsL_acts_r2 [316, 35, 39, 43, 47, 48, 317, 318, 319, 320, 321, 322, 323, 324, 34, 325, 170, 52, 326, 53, 54, 55, 327, 328] (by rfl) (by decide +kernel)
set_option maxRecDepth 20000 in
theorem gc_law_L_acts_wsL_acts_r3 : GoodIn wsL_law wsL_acts_r3 := goodIn_r wsL_acts_r3 [329, 38, 330, 132, 59, 331, 60, 61, 62, 63, 64, 332, 333, 334, 42, 335, 175, 68, 336, 69, 70, 71, 72, 73] (by rfl) (by decide +kernel)
set_option maxRecDepth 20000 in
theorem gc_law_L_acts_wsL_acts_r4 : GoodIn wsL_law wsL_acts_r4 := goodIn_r wsL_acts_r4 [74, 75, 76, 337, 338, 339, 46, 340, 284, 80, 341, 81, 82, 342, 343, 344, 345, 346, 347, 348, 349, 350, 351, 352] (by rfl) (by decide +kernel)
set_option maxRecDepth 20000 in
theorem gc_law_L_acts_wsL_acts_r5 : GoodIn wsL_law wsL_acts_r5 := goodIn_r wsL_acts_r5 [353, 20, 354, 355, 356, 19, 357, 358, 359, 87, 360, 361, 362, 363, 364, 365, 366, 367, 368, 369, 370, 371, 372, 373] (by rfl) (by decide +kernel)
set_option maxRecDepth 20000 in
theorem gc_law_L_acts_wsL_acts_r6 : GoodIn wsL_law wsL_acts_r6 := goodIn_r wsL_acts_r6 [374, 190, 191, 192, 193, 375, 376, 377, 378, 185, 194, 195, 196, 197, 198, 199, 200, 201, 379, 380, 381, 382, 383, 384] (by rfl) (by decide +kernel)
set_option maxRecDepth 20000 in
theorem gc_law_L_acts_wsL_acts_r7 : GoodIn wsL_law wsL_acts_r7 := goodIn_r wsL_acts_r7 [385, 386, 387, 388, 389, 390, 391, 392, 393, 394, 395, 396, 397, 398, 399, 400, 401, 402, 403, 404, 405, 406, 407, 408] (by rfl) (by decide +kernel)
set_option maxRecDepth 20000 in
theorem gc_law_L_acts_wsL_acts_r8 : GoodIn wsL_law wsL_acts_r8 := goodIn_r wsL_acts_r8 [409, 410, 411, 412, 413, 414, 415, 416, 417, 418, 419, 212, 188, 213, 420, 421, 422, 217, 218, 219, 423, 424, 425, 426] (by rfl) (by decide +kernel)
set_option maxRecDepth 20000 in
theorem gc_law_L_acts_wsL_acts_r9 : GoodIn wsL_law wsL_acts_r9 := goodIn_r wsL_acts_r9 [427, 428, 429, 430, 431, 432, 433, 434, 435, 436, 437, 438, 439, 440, 441, 442, 443, 444, 137, 129, 130, 131, 445, 221] (by rfl) (by decide +kernel)
set_option maxRecDepth 20000 in
theorem gc_law_L_acts_wsL_acts_r10 : GoodIn wsL_law wsL_acts_r10 := goodIn_r wsL_acts_r10 [222, 223, 224, 446, 447, 448, 449, 450, 451, 452, 453, 454, 455, 456, 457, 458, 459, 460, 461, 462, 463, 236, 237, 238] (by rfl) (by decide +kernel)
set_option maxRecDepth 20000 in
theorem gc_law_L_acts_wsL_acts_r11 : GoodIn wsL_law wsL_acts_r11 := goodIn_r wsL_acts_r11 [239, 240, 241, 232, 233, 234, 464, 242, 243, 244, 465, 466, 467, 468, 469, 470, 471, 472, 473, 474, 475, 476, 477, 478] (by rfl) (by decide +kernel)
set_option maxRecDepth 20000 in
theorem gc_law_L_acts_wsL_acts_r12 : GoodIn wsL_law wsL_acts_r12 := goodIn_r wsL_acts_r12 [479, 480, 481, 482, 483, 484, 485, 486, 487, 488, 489, 281, 282, 283, 490, 491, 492, 493, 494, 495, 496, 497, 498, 499] (by rfl) (by decide +kernel)
set_option maxRecDepth 20000 in
theorem gc_law_L_acts_wsL_acts_r13 : GoodIn wsL_law wsL_acts_r13 := goodIn_r wsL_acts_r13 [500, 501, 502, 503, 504, 505, 506, 507, 508, 509, 510, 511, 512, 513, 514, 515, 516, 517, 518, 519, 520, 521, 522, 523] (by rfl) (by decide +kernel)
set_option maxRecDepth 20000 in
theorem gc_law_L_acts_wsL_acts_r14 : GoodIn wsL_law wsL_acts_r14 := goodIn_r wsL_acts_r14 [524, 525, 526, 527, 528, 529, 187, 189, 530, 531, 532, 533, 534, 535, 536, 537, 538, 539, 540, 541, 542, 543, 544, 545] (by rfl) (by decide +kernel)
set_option maxRecDepth 20000 in
theorem gc_law_L_acts_wsL_acts_r15 : GoodIn wsL_law wsL_acts_r15 := goodIn_r wsL_acts_r15 [546, 547, 548, 549, 550, 551, 552, 553, 554, 555, 556, 557, 558, 559, 560, 561, 180, 562, 563, 564, 565, 566, 567, 568] (by rfl) (by decide +kernel)
set_option maxRecDepth 20000 in
theorem gc_law_L_acts_wsL_acts_r16 : GoodIn wsL_law wsL_acts_r16 := goodIn_r wsL_acts_r16 [569, 570, 571, 572, 163, 164, 165, 573, 574, 575, 576, 577, 578, 579, 580, 581, 155, 156, 157] (by rfl) (by decide +kernel)
set_option maxRecDepth 20000 in
theorem gc_law_L_acts_wsX100 : GoodIn wsL_law wsX100 := goodIn_r wsX100 [582, 583, 584, 585, 586, 587, 588] (by rfl) (by decide +kernel)
set_option maxRecDepth 20000 in
theorem gc_law_L_acts_wsX50 : GoodIn wsL_law wsX50 := goodIn_r wsX50 [589, 590, 591, 592, 593, 594] (by rfl) (by decide +kernel)
set_option maxRecDepth 20000 in
theorem gc_law_L_acts_wsX60 : GoodIn wsL_law wsX60 := goodIn_r wsX60 [613, 614, 615, 616, 617] (by rfl) (by decide +kernel)
set_option maxRecDepth 20000 in
theorem gc_law_L_acts_wsX10 : GoodIn wsL_law wsX10 := goodIn_r wsX10 [618, 619, 620, 621, 622, 623, 624] (by rfl) (by decide +kernel)
set_option maxRecDepth 20000 in
theorem gc_law_L_acts_wsX40 : GoodIn wsL_law wsX40 := goodIn_r wsX40 [625, 626, 627, 628, 629, 630, 631, 632, 633, 634] (by rfl) (by decide +kernel)
set_option maxRecDepth 20000 in
theorem gc_law_L_acts_wsX80 : GoodIn wsL_law wsX80 := goodIn_r wsX80 [635, 636, 637, 638] (by rfl) (by decide +kernel)
set_option maxRecDepth 20000 in
theorem gc_law_L_acts_wsX30 : GoodIn wsL_law wsX30 := goodIn_r wsX30 [595, 596, 597] (by rfl) (by decide +kernel)
