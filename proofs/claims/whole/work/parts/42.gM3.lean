set_option maxRecDepth 20000 in
theorem gc_X11_play_wsX11_play_r3 : GoodIn wsL_law wsX11_play_r3 := goodIn_r wsX11_play_r3 [1024, 1025, 365, 366, 367, 316, 317, 318, 319, 230, 231, 232, 233, 246, 247, 248, 249, 368, 369, 370, 371, 324, 325, 326] (by decide +kernel) (by decide +kernel)
set_option maxRecDepth 20000 in
theorem gc_X11_play_wsX11_play_r4 : GoodIn wsL_law wsX11_play_r4 := goodIn_r wsX11_play_r4 [327, 191, 192, 193, 194, 196, 119, 257, 258, 259, 260, 320, 321, 322, 323, 1026, 396, 397, 398, 234, 235, 236, 237, 238] (by decide +kernel) (by decide +kernel)
set_option maxRecDepth 20000 in
theorem gc_X11_play_wsX11_play_r5 : GoodIn wsL_law wsX11_play_r5 := goodIn_r wsX11_play_r5 [239, 240, 241, 242, 243, 244, 245, 250, 251, 252, 253, 254, 255, 256, 399, 400, 401, 402, 1027, 412, 413, 414, 1028, 430] (by decide +kernel) (by decide +kernel)
set_option maxRecDepth 20000 in
theorem gc_X11_play_wsX11_play_r6 : GoodIn wsL_law wsX11_play_r6 := goodIn_r wsX11_play_r6 [431, 432, 433, 434, 435, 436, 437, 438, 439, 440, 1029, 462, 463, 464, 465, 466, 467, 468, 469, 470, 471, 472, 473, 474] (by decide +kernel) (by decide +kernel)
set_option maxRecDepth 20000 in
theorem gc_X11_play_wsX11_play_r7 : GoodIn wsL_law wsX11_play_r7 := goodIn_r wsX11_play_r7 [475, 476, 477, 478, 479, 480, 481, 482, 483, 484, 1030, 498, 499, 500, 1031, 518, 519, 520, 521, 522, 523, 524, 1032, 535] (by decide +kernel) (by decide +kernel)
set_option maxRecDepth 20000 in
theorem gc_X11_play_wsX11_play_r8 : GoodIn wsL_law wsX11_play_r8 := goodIn_r wsX11_play_r8 [536, 537, 1033, 313, 314, 315, 1034, 565, 566, 567, 568, 569, 570, 571, 572, 573, 574, 575] (by decide +kernel) (by decide +kernel)
set_option maxRecDepth 20000 in
theorem gc_X11_play_wsX110 : GoodIn wsL_law wsX110 := goodIn_r wsX110 [1052, 1053, 1054, 1055, 1056, 1057, 1058, 1059, 1060, 1061, 1062, 1063, 1064, 1065] (by decide +kernel) (by decide +kernel)
