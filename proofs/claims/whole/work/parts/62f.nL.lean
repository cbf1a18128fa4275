set_option maxRecDepth 20000 in
theorem ggL_law_X11_letters : GoodIn wsL_law wsX11_letters := goodIn_r _ [129, 130, 131, 96, 827, 828, 829, 830, 831, 832, 833, 834, 835, 836, 837, 838, 839, 840, 841, 842, 843, 844, 845, 846, 847, 848, 849, 850, 851] (by decide +kernel) (by decide +kernel)
set_option maxRecDepth 20000 in
theorem gL_law_X11_letters : GoodIn wsL_law (wsV RL 19 RX11 yX11_letters wsX11_letters) := goodIn_app (goodIn_of _ (by decide +kernel)) ggL_law_X11_letters
set_option maxRecDepth 20000 in
theorem ggL_law_X10_blank : GoodIn wsL_law wsX10_blank := goodIn_r _ [135, 22, 114, 816, 817, 818, 819, 820, 821, 822, 823, 824, 825, 826, 860, 861] (by decide +kernel) (by decide +kernel)
set_option maxRecDepth 20000 in
theorem gL_law_X10_blank : GoodIn wsL_law (wsV RL 20 RX10 yX10_blank wsX10_blank) := goodIn_app (goodIn_of _ (by decide +kernel)) ggL_law_X10_blank
set_option maxRecDepth 20000 in
theorem ggL_law_X11_blank : GoodIn wsL_law wsX11_blank := goodIn_r _ [139, 131, 827, 828, 829, 830, 831, 832, 833, 834, 835, 836, 837, 838, 839, 840, 841, 842, 843, 844, 845, 846, 847, 848, 849, 850, 851] (by decide +kernel) (by decide +kernel)
set_option maxRecDepth 20000 in
theorem gL_law_X11_blank : GoodIn wsL_law (wsV RL 24 RX11 yX11_blank wsX11_blank) := goodIn_app (goodIn_of _ (by decide +kernel)) ggL_law_X11_blank
set_option maxRecDepth 20000 in
theorem ggL_law_X10_fault : GoodIn wsL_law wsX10_fault := goodIn_r _ [143, 22, 144, 145, 146, 21, 147, 125, 66, 148, 149, 150, 151, 152, 153, 154, 816, 817, 818, 819, 820, 821, 822, 823, 824, 825, 826, 860, 861] (by decide +kernel) (by decide +kernel)
set_option maxRecDepth 20000 in
theorem gL_law_X10_fault : GoodIn wsL_law (wsV RL 25 RX10 yX10_fault wsX10_fault) := goodIn_app (goodIn_of _ (by decide +kernel)) ggL_law_X10_fault
