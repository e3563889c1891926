set_option maxRecDepth 20000 in
theorem gP_wsL_parade_r4 : GoodIn wsL_law wsL_parade_r4 := goodIn_r _ [120, 121, 122, 123, 124, 125, 126, 127, 128, 129, 130, 131, 132, 133, 134, 135, 136, 290, 291, 292, 293, 272, 273, 274] (by decide +kernel) (by decide +kernel)
set_option maxRecDepth 20000 in
theorem gP_wsL_parade_r5 : GoodIn wsL_law wsL_parade_r5 := goodIn_r _ [275, 157, 158, 294, 295, 296, 297, 13, 217, 298, 176, 177, 178, 299, 300, 301, 302, 195, 196, 197, 198, 303, 304, 305] (by decide +kernel) (by decide +kernel)
