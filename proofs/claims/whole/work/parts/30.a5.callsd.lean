set_option maxRecDepth 20000 in
theorem gL_law_X3_faults : GoodIn wsL_law (wsV RL 101 RX3 yX3_faults wsX3_faults) := goodIn_app (goodIn_r _ [526, 527, 528, 5] (by decide +kernel) (by decide +kernel)) ggL_law_X3_faults
