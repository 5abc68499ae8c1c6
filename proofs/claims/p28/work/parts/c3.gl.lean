section GLAW
set_option maxRecDepth 100000 in
theorem gL_law_X4_init : GoodIn lw_tbl (wsX4_init) := gin_X4_init
set_option maxRecDepth 100000 in
theorem gL_law_X4_join : GoodIn lw_tbl (wsV RL 33 RX4 yX4_join wsX4_join) := goodIn_app (goodIn_of _ (by decide +kernel)) gin_X4_join
set_option maxRecDepth 100000 in
theorem gL_law_X4_count : GoodIn lw_tbl (wsV RL 58 RX4 yX4_count wsX4_count) := goodIn_app (goodIn_of _ (by decide +kernel)) gin_X4_count
set_option maxRecDepth 100000 in
theorem gL_law_L_act : GoodIn lw_tbl (va_wsS RL 109 yL_act wsL_act) := goodIn_app (goodIn_of _ (by decide +kernel)) gin_L_act
set_option maxRecDepth 100000 in
theorem gL_law_L_books : GoodIn lw_tbl (va_wsS RL 113 yL_books wsL_books) := goodIn_app (goodIn_of _ (by decide +kernel)) gin_L_books
end GLAW
