set_option maxRecDepth 20000 in
theorem gP_wsL_parade_r6 : GoodIn wsL_law wsL_parade_r6 := goodIn_r _ [306, 307, 308, 309, 310, 311, 312, 313, 314, 315, 316, 317, 318, 258, 259, 260, 261, 319, 320, 321, 322, 323, 324, 325] (by decide +kernel) (by decide +kernel)
set_option maxRecDepth 20000 in
theorem gP_wsL_parade_r7 : GoodIn wsL_law wsL_parade_r7 := goodIn_r _ [326, 327, 328, 329, 330, 331, 332, 333, 334, 335, 336, 337, 338, 339, 340, 341, 342, 343, 212, 188, 189, 190, 344] (by decide +kernel) (by decide +kernel)
