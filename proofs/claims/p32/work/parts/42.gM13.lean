set_option maxRecDepth 20000 in
theorem gc_law_L_acts_wsL_acts_r12 : GoodIn wsL_law wsL_acts_r12 := goodIn_r wsL_acts_r12 [479, 480, 481, 482, 483, 484, 485, 486, 487, 488, 489, 281, 282, 283, 490, 491, 492, 493, 494, 495, 496, 497, 498, 499] (by decide +kernel) (by decide +kernel)
set_option maxRecDepth 20000 in
theorem gc_law_L_acts_wsL_acts_r13 : GoodIn wsL_law wsL_acts_r13 := goodIn_r wsL_acts_r13 [500, 501, 502, 503, 504, 505, 506, 507, 508, 509, 510, 511, 512, 513, 514, 515, 516, 517, 518, 519, 520, 521, 522, 523] (by decide +kernel) (by decide +kernel)
set_option maxRecDepth 20000 in
theorem gc_law_L_acts_wsL_acts_r14 : GoodIn wsL_law wsL_acts_r14 := goodIn_r wsL_acts_r14 [524, 525, 526, 527, 528, 529, 187, 189, 530, 531, 532, 533, 534, 535, 536, 537, 538, 539, 540, 541, 542, 543, 544, 545] (by decide +kernel) (by decide +kernel)
set_option maxRecDepth 20000 in
theorem gc_law_L_acts_wsL_acts_r15 : GoodIn wsL_law wsL_acts_r15 := goodIn_r wsL_acts_r15 [546, 547, 548, 549, 550, 551, 552, 553, 554, 555, 556, 557, 558, 559, 560, 561, 180, 562, 563, 564, 565, 566, 567, 568] (by decide +kernel) (by decide +kernel)
set_option maxRecDepth 20000 in
theorem gc_law_L_acts_wsL_acts_r16 : GoodIn wsL_law wsL_acts_r16 := goodIn_r wsL_acts_r16 [569, 570, 571, 572, 163, 164, 165, 573, 574, 575, 576, 577, 578, 579, 580, 581, 155, 156, 157] (by decide +kernel) (by decide +kernel)
set_option maxRecDepth 20000 in
theorem gc_law_L_acts_wsX100 : GoodIn wsL_law wsX100 := goodIn_r wsX100 [582, 583, 584, 585, 586, 587, 588] (by decide +kernel) (by decide +kernel)
set_option maxRecDepth 20000 in
theorem gc_law_L_acts_wsX50 : GoodIn wsL_law wsX50 := goodIn_r wsX50 [589, 590, 591, 592, 593, 594] (by decide +kernel) (by decide +kernel)
set_option maxRecDepth 20000 in
theorem gc_law_L_acts_wsX60 : GoodIn wsL_law wsX60 := goodIn_r wsX60 [613, 614, 615, 616, 617] (by decide +kernel) (by decide +kernel)
set_option maxRecDepth 20000 in
theorem gc_law_L_acts_wsX10 : GoodIn wsL_law wsX10 := goodIn_r wsX10 [618, 619, 620, 621, 622, 623, 624] (by decide +kernel) (by decide +kernel)
set_option maxRecDepth 20000 in
theorem gc_law_L_acts_wsX40 : GoodIn wsL_law wsX40 := goodIn_r wsX40 [625, 626, 627, 628, 629, 630, 631, 632, 633, 634] (by decide +kernel) (by decide +kernel)
set_option maxRecDepth 20000 in
theorem gc_law_L_acts_wsX80 : GoodIn wsL_law wsX80 := goodIn_r wsX80 [635, 636, 637, 638] (by decide +kernel) (by decide +kernel)
set_option maxRecDepth 20000 in
theorem gc_law_L_acts_wsX30 : GoodIn wsL_law wsX30 := goodIn_r wsX30 [595, 596, 597] (by decide +kernel) (by decide +kernel)
