set_option maxRecDepth 20000 in
theorem inL_15 : GoodIn lw_tbl wsL_law_r15 := goodIn_p wsL_law_r15 [415, 421, 425, 429, 433] (by rfl) (by decide +kernel)
set_option maxRecDepth 20000 in
theorem inL_16 : GoodIn lw_tbl wsL_law_r16 := goodIn_p wsL_law_r16 [437, 440, 444, 448, 452, 456] (by rfl) (by decide +kernel)
set_option maxRecDepth 20000 in
theorem inL_17 : GoodIn lw_tbl wsL_law_r17 := goodIn_p wsL_law_r17 [460, 464, 468, 472, 476, 480] (by rfl) (by decide +kernel)
set_option maxRecDepth 20000 in
theorem inL_18 : GoodIn lw_tbl wsL_law_r18 := goodIn_p wsL_law_r18 [483, 487, 491, 502, 506] (by rfl) (by decide +kernel)
set_option maxRecDepth 20000 in
theorem inL_19 : GoodIn lw_tbl wsL_law_r19 := goodIn_p wsL_law_r19 [510, 514, 528, 532] (by rfl) (by decide +kernel)
set_option maxRecDepth 20000 in
theorem inL_20 : GoodIn lw_tbl wsL_law_r20 := goodIn_p wsL_law_r20 [536, 554, 558, 561, 564] (by rfl) (by decide +kernel)
set_option maxRecDepth 20000 in
theorem inL_21 : GoodIn lw_tbl wsL_law_r21 := goodIn_p wsL_law_r21 [568, 572, 581, 585, 589] (by rfl) (by decide +kernel)
set_option maxRecDepth 20000 in
theorem inL_22 : GoodIn lw_tbl wsL_law_r22 := goodIn_p wsL_law_r22 [593, 597, 601, 605, 609] (by rfl) (by decide +kernel)
set_option maxRecDepth 20000 in
theorem inL_23 : GoodIn lw_tbl wsL_law_r23 := goodIn_p wsL_law_r23 [613, 618, 621, 625, 629, 633] (by rfl) (by decide +kernel)
set_option maxRecDepth 20000 in
theorem inL_24 : GoodIn lw_tbl wsL_law_r24 := goodIn_p wsL_law_r24 [637, 641, 645, 649, 653] (by rfl) (by decide +kernel)
set_option maxRecDepth 20000 in
theorem inL_25 : GoodIn lw_tbl wsL_law_r25 := goodIn_p wsL_law_r25 [658, 662] (by rfl) (by decide +kernel)
set_option maxRecDepth 20000 in
theorem inL_wsX100 : ∀ w ∈ wsX100, w ∈ lw_tbl := by decide +kernel
set_option maxRecDepth 20000 in
theorem inL_wsX50 : ∀ w ∈ wsX50, w ∈ lw_tbl := by decide +kernel
set_option maxRecDepth 20000 in
theorem inL_wsX30 : ∀ w ∈ wsX30, w ∈ lw_tbl := by decide +kernel
