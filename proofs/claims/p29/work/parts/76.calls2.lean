set_option maxRecDepth 20000 in
theorem hgL_law_X7_teach : GoodIn lw_tbl (wsV RL 60 RX7 yX7_teach wsX7_teach) := hs_gLw (hs_gV (hs_inG 3 7 rfl rfl) (hs_inG 3 8 rfl rfl) (hs_inG 3 9 rfl rfl) (hs_inG 1 1 rfl rfl) inC_X7_teach)

set_option maxRecDepth 20000 in
theorem hgL_law_X8_teach : GoodIn lw_tbl (wsV RL 63 RX8 yX8_teach wsX8_teach) := hs_gLw (hs_gV (hs_inG 5 77 rfl rfl) (hs_inG 5 78 rfl rfl) (hs_inG 5 79 rfl rfl) (hs_inG 1 8 rfl rfl) inC_X8_teach)

set_option maxRecDepth 20000 in
theorem hgL_law_X7_set : GoodIn lw_tbl (wsV RL 64 RX7 yX7_set wsX7_set) := hs_gLw (hs_gV (hs_inG 3 11 rfl rfl) (hs_inG 3 12 rfl rfl) (hs_inG 3 13 rfl rfl) (hs_inG 1 1 rfl rfl) inC_X7_set)

set_option maxRecDepth 20000 in
theorem hgL_law_X8_set : GoodIn lw_tbl (wsV RL 67 RX8 yX8_set wsX8_set) := hs_gLw (hs_gV (hs_inG 5 82 rfl rfl) (hs_inG 5 83 rfl rfl) (hs_inG 5 84 rfl rfl) (hs_inG 1 8 rfl rfl) inC_X8_set)

set_option maxRecDepth 20000 in
theorem hgL_law_X7_appeal : GoodIn lw_tbl (wsV RL 68 RX7 yX7_appeal wsX7_appeal) := hs_gLw (hs_gV (hs_inG 3 15 rfl rfl) (hs_inG 3 16 rfl rfl) (hs_inG 3 17 rfl rfl) (hs_inG 1 1 rfl rfl) inC_X7_appeal)

set_option maxRecDepth 20000 in
theorem hgL_law_X8_appeal : GoodIn lw_tbl (wsV RL 71 RX8 yX8_appeal wsX8_appeal) := hs_gLw (hs_gV (hs_inG 5 88 rfl rfl) (hs_inG 5 89 rfl rfl) (hs_inG 5 90 rfl rfl) (hs_inG 1 8 rfl rfl) inC_X8_appeal)

set_option maxRecDepth 20000 in
theorem hgL_law_X7_lighter : GoodIn lw_tbl (wsV RL 72 RX7 yX7_lighter wsX7_lighter) := hs_gLw (hs_gV (hs_inG 3 20 rfl rfl) (hs_inG 3 21 rfl rfl) (hs_inG 3 22 rfl rfl) (hs_inG 1 1 rfl rfl) inC_X7_lighter)

set_option maxRecDepth 20000 in
theorem hgL_law_X8_lighter : GoodIn lw_tbl (wsV RL 75 RX8 yX8_lighter wsX8_lighter) := hs_gLw (hs_gV (hs_inG 5 92 rfl rfl) (hs_inG 5 93 rfl rfl) (hs_inG 5 94 rfl rfl) (hs_inG 1 8 rfl rfl) inC_X8_lighter)

set_option maxRecDepth 20000 in
theorem hgL_law_X7_worth : GoodIn lw_tbl (wsV RL 76 RX7 yX7_worth wsX7_worth) := hs_gLw (hs_gV (hs_inG 3 32 rfl rfl) (hs_inG 3 33 rfl rfl) (hs_inG 3 34 rfl rfl) (hs_inG 1 1 rfl rfl) inC_X7_worth)

set_option maxRecDepth 20000 in
theorem hgL_law_X8_worth : GoodIn lw_tbl (wsV RL 79 RX8 yX8_worth wsX8_worth) := hs_gLw (hs_gV (hs_inG 5 96 rfl rfl) (hs_inG 5 97 rfl rfl) (hs_inG 5 98 rfl rfl) (hs_inG 1 8 rfl rfl) inC_X8_worth)

set_option maxRecDepth 20000 in
theorem hgL_law_X7_finds : GoodIn lw_tbl (wsV RL 80 RX7 yX7_finds wsX7_finds) := hs_gLw (hs_gV (hs_inG 3 48 rfl rfl) (hs_inG 3 49 rfl rfl) (hs_inG 3 50 rfl rfl) (hs_inG 1 1 rfl rfl) inC_X7_finds)

set_option maxRecDepth 20000 in
theorem hgL_law_X8_finds : GoodIn lw_tbl (wsV RL 83 RX8 yX8_finds wsX8_finds) := hs_gLw (hs_gV (hs_inG 5 108 rfl rfl) (hs_inG 5 109 rfl rfl) (hs_inG 5 110 rfl rfl) (hs_inG 1 8 rfl rfl) inC_X8_finds)

set_option maxRecDepth 20000 in
theorem hgL_law_X7_just : GoodIn lw_tbl (wsV RL 84 RX7 yX7_just wsX7_just) := hs_gLw (hs_gV (hs_inG 3 71 rfl rfl) (hs_inG 3 72 rfl rfl) (hs_inG 3 73 rfl rfl) (hs_inG 1 1 rfl rfl) inC_X7_just)

set_option maxRecDepth 20000 in
theorem hgL_law_X8_just : GoodIn lw_tbl (wsV RL 87 RX8 yX8_just wsX8_just) := hs_gLw (hs_gV (hs_inG 5 134 rfl rfl) (hs_inG 5 135 rfl rfl) (hs_inG 5 136 rfl rfl) (hs_inG 1 8 rfl rfl) inC_X8_just)

set_option maxRecDepth 20000 in
theorem hgL_law_X7_middle : GoodIn lw_tbl (wsV RL 88 RX7 yX7_middle wsX7_middle) := hs_gLw (hs_gV (hs_inG 3 80 rfl rfl) (hs_inG 3 81 rfl rfl) (hs_inG 3 82 rfl rfl) (hs_inG 1 1 rfl rfl) inC_X7_middle)

set_option maxRecDepth 20000 in
theorem hgL_law_X8_middle : GoodIn lw_tbl (wsV RL 91 RX8 yX8_middle wsX8_middle) := hs_gLw (hs_gV (hs_inG 5 145 rfl rfl) (hs_inG 5 146 rfl rfl) (hs_inG 5 147 rfl rfl) (hs_inG 1 8 rfl rfl) inC_X8_middle)

set_option maxRecDepth 20000 in
theorem hgL_law_X7_honest : GoodIn lw_tbl (wsV RL 92 RX7 yX7_honest wsX7_honest) := hs_gLw (hs_gV (hs_inG 3 90 rfl rfl) (hs_inG 3 91 rfl rfl) (hs_inG 3 92 rfl rfl) (hs_inG 1 1 rfl rfl) inC_X7_honest)

set_option maxRecDepth 20000 in
theorem hgL_law_X8_honest : GoodIn lw_tbl (wsV RL 95 RX8 yX8_honest wsX8_honest) := hs_gLw (hs_gV (hs_inG 5 155 rfl rfl) (hs_inG 5 156 rfl rfl) (hs_inG 5 157 rfl rfl) (hs_inG 1 8 rfl rfl) inC_X8_honest)

set_option maxRecDepth 20000 in
theorem hgL_law_X7_chosen : GoodIn lw_tbl (wsV RL 96 RX7 yX7_chosen wsX7_chosen) := hs_gLw (hs_gV (hs_inG 3 100 rfl rfl) (hs_inG 3 101 rfl rfl) (hs_inG 3 102 rfl rfl) (hs_inG 1 1 rfl rfl) inC_X7_chosen)

set_option maxRecDepth 20000 in
theorem hgL_law_X8_chosen : GoodIn lw_tbl (wsV RL 100 RX8 yX8_chosen wsX8_chosen) := hs_gLw (hs_gV (hs_inG 5 164 rfl rfl) (hs_inG 5 165 rfl rfl) (hs_inG 5 166 rfl rfl) (hs_inG 1 8 rfl rfl) inC_X8_chosen)
