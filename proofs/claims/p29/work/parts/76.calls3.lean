set_option maxRecDepth 20000 in
theorem hgL_law_X7_sly : GoodIn lw_tbl (wsV RL 101 RX7 yX7_sly wsX7_sly) := hs_gLw (hs_gV (hs_inG 3 112 rfl rfl) (hs_inG 3 113 rfl rfl) (hs_inG 3 114 rfl rfl) (hs_inG 1 1 rfl rfl) inC_X7_sly)

set_option maxRecDepth 20000 in
theorem hgL_law_X8_sly : GoodIn lw_tbl (wsV RL 104 RX8 yX8_sly wsX8_sly) := hs_gLw (hs_gV (hs_inG 5 172 rfl rfl) (hs_inG 5 173 rfl rfl) (hs_inG 5 174 rfl rfl) (hs_inG 1 8 rfl rfl) inC_X8_sly)

set_option maxRecDepth 20000 in
theorem hgL_law_X7_halves : GoodIn lw_tbl (wsV RL 105 RX7 yX7_halves wsX7_halves) := hs_gLw (hs_gV (hs_inG 3 125 rfl rfl) (hs_inG 3 126 rfl rfl) (hs_inG 3 127 rfl rfl) (hs_inG 1 1 rfl rfl) inC_X7_halves)

set_option maxRecDepth 20000 in
theorem hgL_law_X8_halves : GoodIn lw_tbl (wsV RL 108 RX8 yX8_halves wsX8_halves) := hs_gLw (hs_gV (hs_inG 5 176 rfl rfl) (hs_inG 5 177 rfl rfl) (hs_inG 5 178 rfl rfl) (hs_inG 1 8 rfl rfl) inC_X8_halves)

set_option maxRecDepth 20000 in
theorem hgL_law_X7_stop : GoodIn lw_tbl (wsV RL 109 RX7 yX7_stop wsX7_stop) := hs_gLw (hs_gV (hs_inG 3 144 rfl rfl) (hs_inG 3 145 rfl rfl) (hs_inG 3 146 rfl rfl) (hs_inG 1 1 rfl rfl) inC_X7_stop)

set_option maxRecDepth 20000 in
theorem hgL_law_X8_stop : GoodIn lw_tbl (wsV RL 112 RX8 yX8_stop wsX8_stop) := hs_gLw (hs_gV (hs_inG 5 184 rfl rfl) (hs_inG 5 185 rfl rfl) (hs_inG 5 186 rfl rfl) (hs_inG 1 8 rfl rfl) inC_X8_stop)

set_option maxRecDepth 20000 in
theorem hgL_law_X7_orders : GoodIn lw_tbl (wsV RL 113 RX7 yX7_orders wsX7_orders) := hs_gLw (hs_gV (hs_inG 3 148 rfl rfl) (hs_inG 3 149 rfl rfl) (hs_inG 3 150 rfl rfl) (hs_inG 1 1 rfl rfl) inC_X7_orders)

set_option maxRecDepth 20000 in
theorem hgL_law_X8_orders : GoodIn lw_tbl (wsV RL 116 RX8 yX8_orders wsX8_orders) := hs_gLw (hs_gV (hs_inG 5 188 rfl rfl) (hs_inG 5 189 rfl rfl) (hs_inG 5 190 rfl rfl) (hs_inG 1 8 rfl rfl) inC_X8_orders)

set_option maxRecDepth 20000 in
theorem hgL_law_X7_next : GoodIn lw_tbl (wsV RL 117 RX7 yX7_next wsX7_next) := hs_gLw (hs_gV (hs_inG 3 169 rfl rfl) (hs_inG 3 170 rfl rfl) (hs_inG 3 171 rfl rfl) (hs_inG 1 1 rfl rfl) inC_X7_next)

set_option maxRecDepth 20000 in
theorem hgL_law_X8_next : GoodIn lw_tbl (wsV RL 120 RX8 yX8_next wsX8_next) := hs_gLw (hs_gV (hs_inG 5 192 rfl rfl) (hs_inG 5 193 rfl rfl) (hs_inG 5 194 rfl rfl) (hs_inG 1 8 rfl rfl) inC_X8_next)

set_option maxRecDepth 20000 in
theorem hgL_law_X7_luck : GoodIn lw_tbl (wsV RL 121 RX7 yX7_luck wsX7_luck) := hs_gLw (hs_gV (hs_inG 3 176 rfl rfl) (hs_inG 3 177 rfl rfl) (hs_inG 3 178 rfl rfl) (hs_inG 1 1 rfl rfl) inC_X7_luck)

set_option maxRecDepth 20000 in
theorem hgL_law_X8_luck : GoodIn lw_tbl (wsV RL 125 RX8 yX8_luck wsX8_luck) := hs_gLw (hs_gV (hs_inG 5 196 rfl rfl) (hs_inG 5 197 rfl rfl) (hs_inG 5 198 rfl rfl) (hs_inG 1 8 rfl rfl) inC_X8_luck)

set_option maxRecDepth 20000 in
theorem hgL_law_X7_mean : GoodIn lw_tbl (wsV RL 126 RX7 yX7_mean wsX7_mean) := hs_gLw (hs_gV (hs_inG 3 197 rfl rfl) (hs_inG 3 198 rfl rfl) (hs_inG 3 199 rfl rfl) (hs_inG 1 1 rfl rfl) inC_X7_mean)

set_option maxRecDepth 20000 in
theorem hgL_law_X8_mean : GoodIn lw_tbl (wsV RL 129 RX8 yX8_mean wsX8_mean) := hs_gLw (hs_gV (hs_inG 5 212 rfl rfl) (hs_inG 5 213 rfl rfl) (hs_inG 5 214 rfl rfl) (hs_inG 1 8 rfl rfl) inC_X8_mean)

set_option maxRecDepth 20000 in
theorem hgL_law_X7_see : GoodIn lw_tbl (wsV RL 130 RX7 yX7_see wsX7_see) := hs_gLw (hs_gV (hs_inG 3 204 rfl rfl) (hs_inG 3 205 rfl rfl) (hs_inG 3 206 rfl rfl) (hs_inG 1 1 rfl rfl) inC_X7_see)

set_option maxRecDepth 20000 in
theorem hgL_law_X8_see : GoodIn lw_tbl (wsV RL 133 RX8 yX8_see wsX8_see) := hs_gLw (hs_gV (hs_inG 5 216 rfl rfl) (hs_inG 5 217 rfl rfl) (hs_inG 5 218 rfl rfl) (hs_inG 1 8 rfl rfl) inC_X8_see)

set_option maxRecDepth 20000 in
theorem hgL_law_X7_forget : GoodIn lw_tbl (wsV RL 134 RX7 yX7_forget wsX7_forget) := hs_gLw (hs_gV (hs_inG 3 212 rfl rfl) (hs_inG 3 213 rfl rfl) (hs_inG 3 214 rfl rfl) (hs_inG 1 1 rfl rfl) inC_X7_forget)

set_option maxRecDepth 20000 in
theorem hgL_law_X8_forget : GoodIn lw_tbl (wsV RL 137 RX8 yX8_forget wsX8_forget) := hs_gLw (hs_gV (hs_inG 5 220 rfl rfl) (hs_inG 5 221 rfl rfl) (hs_inG 5 222 rfl rfl) (hs_inG 1 8 rfl rfl) inC_X8_forget)
