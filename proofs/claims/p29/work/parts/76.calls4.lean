set_option maxRecDepth 20000 in
theorem hgL_law_X7_fits : GoodIn lw_tbl (wsV RL 138 RX7 yX7_fits wsX7_fits) := hs_gLw (hs_gV (hs_inG 3 216 rfl rfl) (hs_inG 3 217 rfl rfl) (hs_inG 3 218 rfl rfl) (hs_inG 1 1 rfl rfl) inC_X7_fits)

set_option maxRecDepth 20000 in
theorem hgL_law_X8_fits : GoodIn lw_tbl (wsV RL 141 RX8 yX8_fits wsX8_fits) := hs_gLw (hs_gV (hs_inG 5 224 rfl rfl) (hs_inG 5 225 rfl rfl) (hs_inG 5 226 rfl rfl) (hs_inG 1 8 rfl rfl) inC_X8_fits)

set_option maxRecDepth 20000 in
theorem hgL_law_X7_kinds : GoodIn lw_tbl (wsV RL 142 RX7 yX7_kinds wsX7_kinds) := hs_gLw (hs_gV (hs_inG 3 225 rfl rfl) (hs_inG 3 226 rfl rfl) (hs_inG 3 227 rfl rfl) (hs_inG 1 1 rfl rfl) inC_X7_kinds)

set_option maxRecDepth 20000 in
theorem hgL_law_X8_kinds : GoodIn lw_tbl (wsV RL 145 RX8 yX8_kinds wsX8_kinds) := hs_gLw (hs_gV (hs_inG 5 232 rfl rfl) (hs_inG 5 233 rfl rfl) (hs_inG 5 234 rfl rfl) (hs_inG 1 8 rfl rfl) inC_X8_kinds)

set_option maxRecDepth 20000 in
theorem hgL_law_X7_drift : GoodIn lw_tbl (wsV RL 146 RX7 yX7_drift wsX7_drift) := hs_gLw (hs_gV (hs_inG 3 229 rfl rfl) (hs_inG 3 230 rfl rfl) (hs_inG 3 231 rfl rfl) (hs_inG 1 1 rfl rfl) inC_X7_drift)

set_option maxRecDepth 20000 in
theorem hgL_law_X8_drift : GoodIn lw_tbl (wsV RL 149 RX8 yX8_drift wsX8_drift) := hs_gLw (hs_gV (hs_inG 5 236 rfl rfl) (hs_inG 5 237 rfl rfl) (hs_inG 5 238 rfl rfl) (hs_inG 1 8 rfl rfl) inC_X8_drift)

set_option maxRecDepth 20000 in
theorem hgL_law_X7_keep : GoodIn lw_tbl (wsV RL 150 RX7 yX7_keep wsX7_keep) := hs_gLw (hs_gV (hs_inG 4 0 rfl rfl) (hs_inG 4 1 rfl rfl) (hs_inG 4 2 rfl rfl) (hs_inG 1 1 rfl rfl) inC_X7_keep)

set_option maxRecDepth 20000 in
theorem hgL_law_X8_keep : GoodIn lw_tbl (wsV RL 153 RX8 yX8_keep wsX8_keep) := hs_gLw (hs_gV (hs_inG 6 2 rfl rfl) (hs_inG 6 3 rfl rfl) (hs_inG 6 4 rfl rfl) (hs_inG 1 8 rfl rfl) inC_X8_keep)

set_option maxRecDepth 20000 in
theorem hgL_law_X7_back : GoodIn lw_tbl (wsV RL 154 RX7 yX7_back wsX7_back) := hs_gLw (hs_gV (hs_inG 4 4 rfl rfl) (hs_inG 4 5 rfl rfl) (hs_inG 4 6 rfl rfl) (hs_inG 1 1 rfl rfl) inC_X7_back)

set_option maxRecDepth 20000 in
theorem hgL_law_X8_back : GoodIn lw_tbl (wsV RL 157 RX8 yX8_back wsX8_back) := hs_gLw (hs_gV (hs_inG 6 10 rfl rfl) (hs_inG 6 11 rfl rfl) (hs_inG 6 12 rfl rfl) (hs_inG 1 8 rfl rfl) inC_X8_back)

set_option maxRecDepth 20000 in
theorem hgL_law_X7_sheet : GoodIn lw_tbl (wsV RL 158 RX7 yX7_sheet wsX7_sheet) := hs_gLw (hs_gV (hs_inG 4 8 rfl rfl) (hs_inG 4 9 rfl rfl) (hs_inG 4 10 rfl rfl) (hs_inG 1 1 rfl rfl) inC_X7_sheet)

set_option maxRecDepth 20000 in
theorem hgL_law_X8_sheet : GoodIn lw_tbl (wsV RL 161 RX8 yX8_sheet wsX8_sheet) := hs_gLw (hs_gV (hs_inG 6 14 rfl rfl) (hs_inG 6 15 rfl rfl) (hs_inG 6 16 rfl rfl) (hs_inG 1 8 rfl rfl) inC_X8_sheet)

set_option maxRecDepth 20000 in
theorem hgL_law_X7_lay : GoodIn lw_tbl (wsV RL 162 RX7 yX7_lay wsX7_lay) := hs_gLw (hs_gV (hs_inG 4 23 rfl rfl) (hs_inG 4 24 rfl rfl) (hs_inG 4 25 rfl rfl) (hs_inG 1 1 rfl rfl) inC_X7_lay)

set_option maxRecDepth 20000 in
theorem hgL_law_X8_lay : GoodIn lw_tbl (wsV RL 165 RX8 yX8_lay wsX8_lay) := hs_gLw (hs_gV (hs_inG 6 21 rfl rfl) (hs_inG 6 22 rfl rfl) (hs_inG 6 23 rfl rfl) (hs_inG 1 8 rfl rfl) inC_X8_lay)

set_option maxRecDepth 20000 in
theorem hgL_law_X7_read : GoodIn lw_tbl (wsV RL 166 RX7 yX7_read wsX7_read) := hs_gLw (hs_gV (hs_inG 4 39 rfl rfl) (hs_inG 4 40 rfl rfl) (hs_inG 4 41 rfl rfl) (hs_inG 1 1 rfl rfl) inC_X7_read)

set_option maxRecDepth 20000 in
theorem hgL_law_X8_read : GoodIn lw_tbl (wsV RL 170 RX8 yX8_read wsX8_read) := hs_gLw (hs_gV (hs_inG 6 25 rfl rfl) (hs_inG 6 26 rfl rfl) (hs_inG 6 27 rfl rfl) (hs_inG 1 8 rfl rfl) inC_X8_read)

set_option maxRecDepth 20000 in
theorem hgL_law_X7_torn : GoodIn lw_tbl (wsV RL 171 RX7 yX7_torn wsX7_torn) := hs_gLw (hs_gV (hs_inG 4 53 rfl rfl) (hs_inG 4 54 rfl rfl) (hs_inG 4 55 rfl rfl) (hs_inG 1 1 rfl rfl) inC_X7_torn)

set_option maxRecDepth 20000 in
theorem hgL_law_X8_torn : GoodIn lw_tbl (wsV RL 174 RX8 yX8_torn wsX8_torn) := hs_gLw (hs_gV (hs_inG 6 31 rfl rfl) (hs_inG 6 32 rfl rfl) (hs_inG 6 33 rfl rfl) (hs_inG 1 8 rfl rfl) inC_X8_torn)

set_option maxRecDepth 20000 in
theorem hgL_law_X7_count : GoodIn lw_tbl (wsV RL 175 RX7 yX7_count wsX7_count) := hs_gLw (hs_gV (hs_inG 4 57 rfl rfl) (hs_inG 4 58 rfl rfl) (hs_inG 4 59 rfl rfl) (hs_inG 1 1 rfl rfl) inC_X7_count)

set_option maxRecDepth 20000 in
theorem hgL_law_X8_count : GoodIn lw_tbl (wsV RL 178 RX8 yX8_count wsX8_count) := hs_gLw (hs_gV (hs_inG 6 35 rfl rfl) (hs_inG 6 36 rfl rfl) (hs_inG 6 37 rfl rfl) (hs_inG 1 8 rfl rfl) inC_X8_count)
