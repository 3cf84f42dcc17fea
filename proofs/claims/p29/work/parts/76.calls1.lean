set_option maxRecDepth 20000 in
theorem hgL_law_X7_init : GoodIn lw_tbl (wsX7_init) := hs_gLw (hs_gT inC_X7_init)

set_option maxRecDepth 20000 in
theorem hgL_law_X8_init : GoodIn lw_tbl (wsX8_init) := hs_gLw (hs_gT inC_X8_init)

set_option maxRecDepth 20000 in
theorem hgL_law_X7_feed : GoodIn lw_tbl (wsV RL 13 RX7 yX7_feed wsX7_feed) := hs_gLw (hs_gV (hs_inG 2 6 rfl rfl) (hs_inG 2 7 rfl rfl) (hs_inG 2 8 rfl rfl) (hs_inG 1 1 rfl rfl) inC_X7_feed)

set_option maxRecDepth 20000 in
theorem hgL_law_X8_feed : GoodIn lw_tbl (wsV RL 17 RX8 yX8_feed wsX8_feed) := hs_gLw (hs_gV (hs_inG 4 177 rfl rfl) (hs_inG 4 178 rfl rfl) (hs_inG 4 179 rfl rfl) (hs_inG 1 8 rfl rfl) inC_X8_feed)

set_option maxRecDepth 20000 in
theorem hgL_law_X7_end : GoodIn lw_tbl (wsV RL 18 RX7 yX7_end wsX7_end) := hs_gLw (hs_gV (hs_inG 2 13 rfl rfl) (hs_inG 2 14 rfl rfl) (hs_inG 2 15 rfl rfl) (hs_inG 1 1 rfl rfl) inC_X7_end)

set_option maxRecDepth 20000 in
theorem hgL_law_X8_end : GoodIn lw_tbl (wsV RL 21 RX8 yX8_end wsX8_end) := hs_gLw (hs_gV (hs_inG 4 185 rfl rfl) (hs_inG 4 186 rfl rfl) (hs_inG 4 187 rfl rfl) (hs_inG 1 8 rfl rfl) inC_X8_end)

set_option maxRecDepth 20000 in
theorem hgL_law_X7_text : GoodIn lw_tbl (wsV RL 22 RX7 yX7_text wsX7_text) := hs_gLw (hs_gV (hs_inG 2 17 rfl rfl) (hs_inG 2 18 rfl rfl) (hs_inG 2 19 rfl rfl) (hs_inG 1 1 rfl rfl) inC_X7_text)

set_option maxRecDepth 20000 in
theorem hgL_law_X8_text : GoodIn lw_tbl (wsV RL 26 RX8 yX8_text wsX8_text) := hs_gLw (hs_gV (hs_inG 4 189 rfl rfl) (hs_inG 4 190 rfl rfl) (hs_inG 4 191 rfl rfl) (hs_inG 1 8 rfl rfl) inC_X8_text)

set_option maxRecDepth 20000 in
theorem hgL_law_X7_fault : GoodIn lw_tbl (wsV RL 27 RX7 yX7_fault wsX7_fault) := hs_gLw (hs_gV (hs_inG 2 184 rfl rfl) (hs_inG 2 185 rfl rfl) (hs_inG 2 186 rfl rfl) (hs_inG 1 1 rfl rfl) inC_X7_fault)

set_option maxRecDepth 20000 in
theorem hgL_law_X8_fault : GoodIn lw_tbl (wsV RL 30 RX8 yX8_fault wsX8_fault) := hs_gLw (hs_gV (hs_inG 5 24 rfl rfl) (hs_inG 5 25 rfl rfl) (hs_inG 5 26 rfl rfl) (hs_inG 1 8 rfl rfl) inC_X8_fault)

set_option maxRecDepth 20000 in
theorem hgL_law_X7_rule : GoodIn lw_tbl (wsV RL 31 RX7 yX7_rule wsX7_rule) := hs_gLw (hs_gV (hs_inG 2 188 rfl rfl) (hs_inG 2 189 rfl rfl) (hs_inG 2 190 rfl rfl) (hs_inG 1 1 rfl rfl) inC_X7_rule)

set_option maxRecDepth 20000 in
theorem hgL_law_X8_rule : GoodIn lw_tbl (wsV RL 34 RX8 yX8_rule wsX8_rule) := hs_gLw (hs_gV (hs_inG 5 28 rfl rfl) (hs_inG 5 29 rfl rfl) (hs_inG 5 30 rfl rfl) (hs_inG 1 8 rfl rfl) inC_X8_rule)

set_option maxRecDepth 20000 in
theorem hgL_law_X7_cell : GoodIn lw_tbl (wsV RL 35 RX7 yX7_cell wsX7_cell) := hs_gLw (hs_gV (hs_inG 2 196 rfl rfl) (hs_inG 2 197 rfl rfl) (hs_inG 2 198 rfl rfl) (hs_inG 1 1 rfl rfl) inC_X7_cell)

set_option maxRecDepth 20000 in
theorem hgL_law_X8_cell : GoodIn lw_tbl (wsV RL 38 RX8 yX8_cell wsX8_cell) := hs_gLw (hs_gV (hs_inG 5 40 rfl rfl) (hs_inG 5 41 rfl rfl) (hs_inG 5 42 rfl rfl) (hs_inG 1 8 rfl rfl) inC_X8_cell)

set_option maxRecDepth 20000 in
theorem hgL_law_X7_person : GoodIn lw_tbl (wsV RL 39 RX7 yX7_person wsX7_person) := hs_gLw (hs_gV (hs_inG 2 204 rfl rfl) (hs_inG 2 205 rfl rfl) (hs_inG 2 206 rfl rfl) (hs_inG 1 1 rfl rfl) inC_X7_person)

set_option maxRecDepth 20000 in
theorem hgL_law_X8_person : GoodIn lw_tbl (wsV RL 42 RX8 yX8_person wsX8_person) := hs_gLw (hs_gV (hs_inG 5 48 rfl rfl) (hs_inG 5 49 rfl rfl) (hs_inG 5 50 rfl rfl) (hs_inG 1 8 rfl rfl) inC_X8_person)

set_option maxRecDepth 20000 in
theorem hgL_law_X7_pair : GoodIn lw_tbl (wsV RL 43 RX7 yX7_pair wsX7_pair) := hs_gLw (hs_gV (hs_inG 2 212 rfl rfl) (hs_inG 2 213 rfl rfl) (hs_inG 2 214 rfl rfl) (hs_inG 1 1 rfl rfl) inC_X7_pair)

set_option maxRecDepth 20000 in
theorem hgL_law_X8_pair : GoodIn lw_tbl (wsV RL 46 RX8 yX8_pair wsX8_pair) := hs_gLw (hs_gV (hs_inG 5 56 rfl rfl) (hs_inG 5 57 rfl rfl) (hs_inG 5 58 rfl rfl) (hs_inG 1 8 rfl rfl) inC_X8_pair)

set_option maxRecDepth 20000 in
theorem hgL_law_X7_weigh : GoodIn lw_tbl (wsV RL 47 RX7 yX7_weigh wsX7_weigh) := hs_gLw (hs_gV (hs_inG 2 216 rfl rfl) (hs_inG 2 217 rfl rfl) (hs_inG 2 218 rfl rfl) (hs_inG 1 1 rfl rfl) inC_X7_weigh)

set_option maxRecDepth 20000 in
theorem hgL_law_X8_weigh : GoodIn lw_tbl (wsV RL 51 RX8 yX8_weigh wsX8_weigh) := hs_gLw (hs_gV (hs_inG 5 60 rfl rfl) (hs_inG 5 61 rfl rfl) (hs_inG 5 62 rfl rfl) (hs_inG 1 8 rfl rfl) inC_X8_weigh)

set_option maxRecDepth 20000 in
theorem hgL_law_X7_split : GoodIn lw_tbl (wsV RL 52 RX7 yX7_split wsX7_split) := hs_gLw (hs_gV (hs_inG 2 225 rfl rfl) (hs_inG 2 226 rfl rfl) (hs_inG 2 227 rfl rfl) (hs_inG 1 1 rfl rfl) inC_X7_split)

set_option maxRecDepth 20000 in
theorem hgL_law_X8_split : GoodIn lw_tbl (wsV RL 55 RX8 yX8_split wsX8_split) := hs_gLw (hs_gV (hs_inG 5 69 rfl rfl) (hs_inG 5 70 rfl rfl) (hs_inG 5 71 rfl rfl) (hs_inG 1 8 rfl rfl) inC_X8_split)

set_option maxRecDepth 20000 in
theorem hgL_law_X7_join : GoodIn lw_tbl (wsV RL 56 RX7 yX7_join wsX7_join) := hs_gLw (hs_gV (hs_inG 2 236 rfl rfl) (hs_inG 2 237 rfl rfl) (hs_inG 2 238 rfl rfl) (hs_inG 1 1 rfl rfl) inC_X7_join)

set_option maxRecDepth 20000 in
theorem hgL_law_X8_join : GoodIn lw_tbl (wsV RL 59 RX8 yX8_join wsX8_join) := hs_gLw (hs_gV (hs_inG 5 73 rfl rfl) (hs_inG 5 74 rfl rfl) (hs_inG 5 75 rfl rfl) (hs_inG 1 8 rfl rfl) inC_X8_join)
