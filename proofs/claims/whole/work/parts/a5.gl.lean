section GLAW
set_option maxRecDepth 100000 in
theorem gL_law_X4_init : GoodIn lw_tbl (wsX4_init) := gin_X4_init
set_option maxRecDepth 100000 in
theorem gL_law_X5_init : GoodIn lw_tbl (wsX5_init) := gin_X5_init
set_option maxRecDepth 100000 in
theorem gL_law_L_join : GoodIn lw_tbl (va_wsS RL 80 yL_join wsL_join) := goodIn_app (goodIn_of _ (by decide +kernel)) gin_L_join
set_option maxRecDepth 100000 in
theorem gL_law_X5_join : GoodIn lw_tbl (wsV RL 85 RX5 yX5_join wsX5_join) := goodIn_app (goodIn_of _ (by decide +kernel)) gin_X5_join
set_option maxRecDepth 100000 in
theorem gL_law_X5_thrown : GoodIn lw_tbl (wsV RL 86 RX5 yX5_thrown wsX5_thrown) := goodIn_app (goodIn_of _ (by decide +kernel)) gin_X5_thrown
set_option maxRecDepth 100000 in
theorem gL_law_L_leave : GoodIn lw_tbl (va_wsS RL 89 yL_leave wsL_leave) := goodIn_app (goodIn_of _ (by decide +kernel)) gin_L_leave
set_option maxRecDepth 100000 in
theorem gL_law_X5_leave : GoodIn lw_tbl (wsV RL 92 RX5 yX5_leave wsX5_leave) := goodIn_app (goodIn_of _ (by decide +kernel)) gin_X5_leave
set_option maxRecDepth 100000 in
theorem gL_law_L_lend : GoodIn lw_tbl (va_wsS RL 93 yL_lend wsL_lend) := goodIn_app (goodIn_of _ (by decide +kernel)) gin_L_lend
set_option maxRecDepth 100000 in
theorem gL_law_X5_lend : GoodIn lw_tbl (wsV RL 96 RX5 yX5_lend wsX5_lend) := goodIn_app (goodIn_of _ (by decide +kernel)) gin_X5_lend
set_option maxRecDepth 100000 in
theorem gL_law_L_absent : GoodIn lw_tbl (va_wsS RL 97 yL_absent wsL_absent) := goodIn_app (goodIn_of _ (by decide +kernel)) gin_L_absent
set_option maxRecDepth 100000 in
theorem gL_law_X5_absent : GoodIn lw_tbl (wsV RL 99 RX5 yX5_absent wsX5_absent) := goodIn_app (goodIn_of _ (by decide +kernel)) gin_X5_absent
set_option maxRecDepth 100000 in
theorem gL_law_L_week : GoodIn lw_tbl (va_wsS RL 100 yL_week wsL_week) := goodIn_app (goodIn_of _ (by decide +kernel)) gin_L_week
set_option maxRecDepth 100000 in
theorem gL_law_X5_week : GoodIn lw_tbl (wsV RL 102 RX5 yX5_week wsX5_week) := goodIn_app (goodIn_of _ (by decide +kernel)) gin_X5_week
set_option maxRecDepth 100000 in
theorem gL_law_L_payBack : GoodIn lw_tbl (va_wsS RL 103 yL_payBack wsL_payBack) := goodIn_app (goodIn_of _ (by decide +kernel)) gin_L_payBack
set_option maxRecDepth 100000 in
theorem gL_law_X5_payBack : GoodIn lw_tbl (wsV RL 106 RX5 yX5_payBack wsX5_payBack) := goodIn_app (goodIn_of _ (by decide +kernel)) gin_X5_payBack
set_option maxRecDepth 100000 in
theorem gL_law_L_help : GoodIn lw_tbl (va_wsS RL 107 yL_help wsL_help) := goodIn_app (goodIn_of _ (by decide +kernel)) gin_L_help
set_option maxRecDepth 100000 in
theorem gL_law_X5_help : GoodIn lw_tbl (wsV RL 109 RX5 yX5_help wsX5_help) := goodIn_app (goodIn_of _ (by decide +kernel)) gin_X5_help
set_option maxRecDepth 100000 in
theorem gL_law_L_cycle : GoodIn lw_tbl (va_wsS RL 110 yL_cycle wsL_cycle) := goodIn_app (goodIn_of _ (by decide +kernel)) gin_L_cycle
set_option maxRecDepth 100000 in
theorem gL_law_X5_cycle : GoodIn lw_tbl (wsV RL 112 RX5 yX5_cycle wsX5_cycle) := goodIn_app (goodIn_of _ (by decide +kernel)) gin_X5_cycle
set_option maxRecDepth 100000 in
theorem gL_law_L_set : GoodIn lw_tbl (va_wsS RL 113 yL_set wsL_set) := goodIn_app (goodIn_of _ (by decide +kernel)) gin_L_set
set_option maxRecDepth 100000 in
theorem gL_law_X5_set : GoodIn lw_tbl (wsV RL 115 RX5 yX5_set wsX5_set) := goodIn_app (goodIn_of _ (by decide +kernel)) gin_X5_set
set_option maxRecDepth 100000 in
theorem gL_law_L_append : GoodIn lw_tbl (va_wsS RL 116 yL_append wsL_append) := goodIn_app (goodIn_of _ (by decide +kernel)) gin_L_append
set_option maxRecDepth 100000 in
theorem gL_law_X5_append : GoodIn lw_tbl (wsV RL 118 RX5 yX5_append wsX5_append) := goodIn_app (goodIn_of _ (by decide +kernel)) gin_X5_append
set_option maxRecDepth 100000 in
theorem gL_law_X4_clearBuffer : GoodIn lw_tbl (wsV RL 119 RX4 yX4_clearBuffer wsX4_clearBuffer) := goodIn_app (goodIn_of _ (by decide +kernel)) gin_X4_clearBuffer
set_option maxRecDepth 100000 in
theorem gL_law_X5_clearBuffer : GoodIn lw_tbl (wsV RL 122 RX5 yX5_clearBuffer wsX5_clearBuffer) := goodIn_app (goodIn_of _ (by decide +kernel)) gin_X5_clearBuffer
set_option maxRecDepth 100000 in
theorem gL_law_X4_firstError : GoodIn lw_tbl (wsV RL 123 RX4 yX4_firstError wsX4_firstError) := goodIn_app (goodIn_of _ (by decide +kernel)) gin_X4_firstError
set_option maxRecDepth 100000 in
theorem gL_law_X5_firstError : GoodIn lw_tbl (wsV RL 126 RX5 yX5_firstError wsX5_firstError) := goodIn_app (goodIn_of _ (by decide +kernel)) gin_X5_firstError
set_option maxRecDepth 100000 in
theorem gL_law_L_run : GoodIn lw_tbl (va_wsS RL 127 yL_run wsL_run) := goodIn_app (goodIn_of _ (by decide +kernel)) gin_L_run
set_option maxRecDepth 100000 in
theorem gL_law_X5_run : GoodIn lw_tbl (wsV RL 129 RX5 yX5_run wsX5_run) := goodIn_app (goodIn_of _ (by decide +kernel)) gin_X5_run
set_option maxRecDepth 100000 in
theorem gL_law_L_undo : GoodIn lw_tbl (va_wsS RL 130 yL_undo wsL_undo) := goodIn_app (goodIn_of _ (by decide +kernel)) gin_L_undo
set_option maxRecDepth 100000 in
theorem gL_law_X5_undo : GoodIn lw_tbl (wsV RL 132 RX5 yX5_undo wsX5_undo) := goodIn_app (goodIn_of _ (by decide +kernel)) gin_X5_undo
set_option maxRecDepth 100000 in
theorem gL_law_L_member : GoodIn lw_tbl (va_wsS RL 133 yL_member wsL_member) := goodIn_app (goodIn_of _ (by decide +kernel)) gin_L_member
set_option maxRecDepth 100000 in
theorem gL_law_X5_member : GoodIn lw_tbl (wsV RL 135 RX5 yX5_member wsX5_member) := goodIn_app (goodIn_of _ (by decide +kernel)) gin_X5_member
set_option maxRecDepth 100000 in
theorem gL_law_L_owes : GoodIn lw_tbl (va_wsS RL 136 yL_owes wsL_owes) := goodIn_app (goodIn_of _ (by decide +kernel)) gin_L_owes
set_option maxRecDepth 100000 in
theorem gL_law_X5_owes : GoodIn lw_tbl (wsV RL 138 RX5 yX5_owes wsX5_owes) := goodIn_app (goodIn_of _ (by decide +kernel)) gin_X5_owes
set_option maxRecDepth 100000 in
theorem gL_law_L_count : GoodIn lw_tbl (va_wsS RL 139 yL_count wsL_count) := goodIn_app (goodIn_of _ (by decide +kernel)) gin_L_count
set_option maxRecDepth 100000 in
theorem gL_law_X5_count : GoodIn lw_tbl (wsV RL 141 RX5 yX5_count wsX5_count) := goodIn_app (goodIn_of _ (by decide +kernel)) gin_X5_count
set_option maxRecDepth 100000 in
theorem gL_law_L_setting : GoodIn lw_tbl (va_wsS RL 142 yL_setting wsL_setting) := goodIn_app (goodIn_of _ (by decide +kernel)) gin_L_setting
set_option maxRecDepth 100000 in
theorem gL_law_X5_setting : GoodIn lw_tbl (wsV RL 144 RX5 yX5_setting wsX5_setting) := goodIn_app (goodIn_of _ (by decide +kernel)) gin_X5_setting
set_option maxRecDepth 100000 in
theorem gL_law_L_ifAbsent : GoodIn lw_tbl (va_wsS RL 145 yL_ifAbsent wsL_ifAbsent) := goodIn_app (goodIn_of _ (by decide +kernel)) gin_L_ifAbsent
set_option maxRecDepth 100000 in
theorem gL_law_X5_ifAbsent : GoodIn lw_tbl (wsV RL 147 RX5 yX5_ifAbsent wsX5_ifAbsent) := goodIn_app (goodIn_of _ (by decide +kernel)) gin_X5_ifAbsent
set_option maxRecDepth 100000 in
theorem gL_law_L_fundLasts : GoodIn lw_tbl (va_wsS RL 148 yL_fundLasts wsL_fundLasts) := goodIn_app (goodIn_of _ (by decide +kernel)) gin_L_fundLasts
set_option maxRecDepth 100000 in
theorem gL_law_X5_fundLasts : GoodIn lw_tbl (wsV RL 150 RX5 yX5_fundLasts wsX5_fundLasts) := goodIn_app (goodIn_of _ (by decide +kernel)) gin_X5_fundLasts
set_option maxRecDepth 100000 in
theorem gL_law_X4_weakest : GoodIn lw_tbl (wsV RL 151 RX4 yX4_weakest wsX4_weakest) := goodIn_app (goodIn_of _ (by decide +kernel)) gin_X4_weakest
set_option maxRecDepth 100000 in
theorem gL_law_X5_weakest : GoodIn lw_tbl (wsV RL 154 RX5 yX5_weakest wsX5_weakest) := goodIn_app (goodIn_of _ (by decide +kernel)) gin_X5_weakest
set_option maxRecDepth 100000 in
theorem gL_law_X4_weeksToGo : GoodIn lw_tbl (wsV RL 155 RX4 yX4_weeksToGo wsX4_weeksToGo) := goodIn_app (goodIn_of _ (by decide +kernel)) gin_X4_weeksToGo
set_option maxRecDepth 100000 in
theorem gL_law_X5_weeksToGo : GoodIn lw_tbl (wsV RL 158 RX5 yX5_weeksToGo wsX5_weeksToGo) := goodIn_app (goodIn_of _ (by decide +kernel)) gin_X5_weeksToGo
set_option maxRecDepth 100000 in
theorem gL_law_L_ifCycle : GoodIn lw_tbl (va_wsS RL 159 yL_ifCycle wsL_ifCycle) := goodIn_app (goodIn_of _ (by decide +kernel)) gin_L_ifCycle
set_option maxRecDepth 100000 in
theorem gL_law_X5_ifCycle : GoodIn lw_tbl (wsV RL 161 RX5 yX5_ifCycle wsX5_ifCycle) := goodIn_app (goodIn_of _ (by decide +kernel)) gin_X5_ifCycle
set_option maxRecDepth 100000 in
theorem gL_law_X4_paidShare : GoodIn lw_tbl (wsV RL 162 RX4 yX4_paidShare wsX4_paidShare) := goodIn_app (goodIn_of _ (by decide +kernel)) gin_X4_paidShare
set_option maxRecDepth 100000 in
theorem gL_law_X5_paidShare : GoodIn lw_tbl (wsV RL 166 RX5 yX5_paidShare wsX5_paidShare) := goodIn_app (goodIn_of _ (by decide +kernel)) gin_X5_paidShare
set_option maxRecDepth 100000 in
theorem gL_law_X4_digest : GoodIn lw_tbl (wsV RL 167 RX4 yX4_digest wsX4_digest) := goodIn_app (goodIn_of _ (by decide +kernel)) gin_X4_digest
set_option maxRecDepth 100000 in
theorem gL_law_X5_digest : GoodIn lw_tbl (wsV RL 171 RX5 yX5_digest wsX5_digest) := goodIn_app (goodIn_of _ (by decide +kernel)) gin_X5_digest
end GLAW
