set_option maxRecDepth 20000 in
theorem gP_c : GoodIn wsL_law [Cond.code yL_parade cL_parade 12 (some .boolean)] := goodIn_r _ [289] (by decide +kernel) (by decide +kernel)
set_option maxRecDepth 20000 in
theorem gP_wsL_parade_r1 : GoodIn wsL_law wsL_parade_r1 := goodIn_r _ [63, 64, 65, 2, 66, 67, 68, 69, 70, 71, 72, 12, 73, 74, 17, 75, 76, 77, 78, 11, 79, 32, 80, 81] (by decide +kernel) (by decide +kernel)
set_option maxRecDepth 20000 in
theorem gP_wsL_parade_r2 : GoodIn wsL_law wsL_parade_r2 := goodIn_r _ [82, 83, 84, 85, 86, 87, 35, 33, 88, 89, 90, 91, 41, 92, 93, 94, 95, 96, 97, 98, 99, 42, 38, 100] (by decide +kernel) (by decide +kernel)
set_option maxRecDepth 20000 in
theorem gP_wsL_parade_r3 : GoodIn wsL_law wsL_parade_r3 := goodIn_r _ [101, 102, 103, 39, 43, 104, 105, 106, 107, 40, 108, 109, 110, 111, 37, 34, 112, 113, 114, 115, 116, 117, 118, 119] (by decide +kernel) (by decide +kernel)
