set_option maxRecDepth 20000 in
theorem hL_law_X11_feed_v19 : GoodIn lw_tbl (wsV RL 19 RX11 yX11_feed wzX11_feed) := goodIn_app (a := [.methodLink RL 19 yX11_feed, .instanceMethod yX11_feed, .selects RX11 yX11_feed yX11_feed, .initialized RX11]) (goodIn_sub (z_at [580, 581, 582, 161] (by decide +kernel)) (by decide +kernel)) (zg_of wtX11_feed wgX11_feed)
set_option maxRecDepth 20000 in
theorem hL_law_X12_feed_v23 : GoodIn lw_tbl (wsV RL 23 RX12 yX12_feed wzX12_feed) := goodIn_app (a := [.methodLink RL 23 yX12_feed, .instanceMethod yX12_feed, .selects RX12 yX12_feed yX12_feed, .initialized RX12]) (goodIn_sub (z_at [1889, 1890, 1891, 174] (by decide +kernel)) (by decide +kernel)) (zg_of wtX12_feed wgX12_feed)
set_option maxRecDepth 20000 in
theorem hL_law_X11_cut_v24 : GoodIn lw_tbl (wsV RL 24 RX11 yX11_cut wzX11_cut) := goodIn_app (a := [.methodLink RL 24 yX11_cut, .instanceMethod yX11_cut, .selects RX11 yX11_cut yX11_cut, .initialized RX11]) (goodIn_sub (z_at [591, 592, 593, 161] (by decide +kernel)) (by decide +kernel)) (zg_of wtX11_cut wgX11_cut)
set_option maxRecDepth 20000 in
theorem hL_law_X12_cut_v28 : GoodIn lw_tbl (wsV RL 28 RX12 yX12_cut wzX12_cut) := goodIn_app (a := [.methodLink RL 28 yX12_cut, .instanceMethod yX12_cut, .selects RX12 yX12_cut yX12_cut, .initialized RX12]) (goodIn_sub (z_at [1893, 1894, 1895, 174] (by decide +kernel)) (by decide +kernel)) (zg_of wtX12_cut wgX12_cut)
set_option maxRecDepth 20000 in
theorem hL_law_X11_kind_v29 : GoodIn lw_tbl (wsV RL 29 RX11 yX11_kind wzX11_kind) := goodIn_app (a := [.methodLink RL 29 yX11_kind, .instanceMethod yX11_kind, .selects RX11 yX11_kind yX11_kind, .initialized RX11]) (goodIn_sub (z_at [595, 596, 597, 161] (by decide +kernel)) (by decide +kernel)) (zg_of wtX11_kind wgX11_kind)
set_option maxRecDepth 20000 in
theorem hL_law_X12_kind_v32 : GoodIn lw_tbl (wsV RL 32 RX12 yX12_kind wzX12_kind) := goodIn_app (a := [.methodLink RL 32 yX12_kind, .instanceMethod yX12_kind, .selects RX12 yX12_kind yX12_kind, .initialized RX12]) (goodIn_sub (z_at [1900, 1901, 1902, 174] (by decide +kernel)) (by decide +kernel)) (zg_of wtX12_kind wgX12_kind)
set_option maxRecDepth 20000 in
theorem hL_law_X11_resource_v33 : GoodIn lw_tbl (wsV RL 33 RX11 yX11_resource wzX11_resource) := goodIn_app (a := [.methodLink RL 33 yX11_resource, .instanceMethod yX11_resource, .selects RX11 yX11_resource yX11_resource, .initialized RX11]) (goodIn_sub (z_at [612, 613, 614, 161] (by decide +kernel)) (by decide +kernel)) (zg_of wtX11_resource wgX11_resource)
set_option maxRecDepth 20000 in
theorem hL_law_X12_resource_v37 : GoodIn lw_tbl (wsV RL 37 RX12 yX12_resource wzX12_resource) := goodIn_app (a := [.methodLink RL 37 yX12_resource, .instanceMethod yX12_resource, .selects RX12 yX12_resource yX12_resource, .initialized RX12]) (goodIn_sub (z_at [1912, 1913, 1914, 174] (by decide +kernel)) (by decide +kernel)) (zg_of wtX12_resource wgX12_resource)
set_option maxRecDepth 20000 in
theorem hL_law_X11_asserts_v38 : GoodIn lw_tbl (wsV RL 38 RX11 yX11_asserts wzX11_asserts) := goodIn_app (a := [.methodLink RL 38 yX11_asserts, .instanceMethod yX11_asserts, .selects RX11 yX11_asserts yX11_asserts, .initialized RX11]) (goodIn_sub (z_at [624, 625, 626, 161] (by decide +kernel)) (by decide +kernel)) (zg_of wtX11_asserts wgX11_asserts)
set_option maxRecDepth 20000 in
theorem hL_law_X12_asserts_v42 : GoodIn lw_tbl (wsV RL 42 RX12 yX12_asserts wzX12_asserts) := goodIn_app (a := [.methodLink RL 42 yX12_asserts, .instanceMethod yX12_asserts, .selects RX12 yX12_asserts yX12_asserts, .initialized RX12]) (goodIn_sub (z_at [1916, 1917, 1918, 174] (by decide +kernel)) (by decide +kernel)) (zg_of wtX12_asserts wgX12_asserts)
set_option maxRecDepth 20000 in
theorem hL_law_X11_read_v43 : GoodIn lw_tbl (wsV RL 43 RX11 yX11_read wzX11_read) := goodIn_app (a := [.methodLink RL 43 yX11_read, .instanceMethod yX11_read, .selects RX11 yX11_read yX11_read, .initialized RX11]) (goodIn_sub (z_at [628, 629, 630, 161] (by decide +kernel)) (by decide +kernel)) (zg_of wtX11_read wgX11_read)
set_option maxRecDepth 20000 in
theorem hL_law_X12_read_v47 : GoodIn lw_tbl (wsV RL 47 RX12 yX12_read wzX12_read) := goodIn_app (a := [.methodLink RL 47 yX12_read, .instanceMethod yX12_read, .selects RX12 yX12_read yX12_read, .initialized RX12]) (goodIn_sub (z_at [1920, 1921, 1922, 174] (by decide +kernel)) (by decide +kernel)) (zg_of wtX12_read wgX12_read)
set_option maxRecDepth 20000 in
theorem hL_law_X11_fault_v48 : GoodIn lw_tbl (wsV RL 48 RX11 yX11_fault wzX11_fault) := goodIn_app (a := [.methodLink RL 48 yX11_fault, .instanceMethod yX11_fault, .selects RX11 yX11_fault yX11_fault, .initialized RX11]) (goodIn_sub (z_at [1200, 1201, 1202, 161] (by decide +kernel)) (by decide +kernel)) (zg_of wtX11_fault wgX11_fault)
set_option maxRecDepth 20000 in
theorem hL_law_X12_fault_v51 : GoodIn lw_tbl (wsV RL 51 RX12 yX12_fault wzX12_fault) := goodIn_app (a := [.methodLink RL 51 yX12_fault, .instanceMethod yX12_fault, .selects RX12 yX12_fault yX12_fault, .initialized RX12]) (goodIn_sub (z_at [2168, 2169, 2170, 174] (by decide +kernel)) (by decide +kernel)) (zg_of wtX12_fault wgX12_fault)
set_option maxRecDepth 20000 in
theorem hL_law_X11_program_v52 : GoodIn lw_tbl (wsV RL 52 RX11 yX11_program wzX11_program) := goodIn_app (a := [.methodLink RL 52 yX11_program, .instanceMethod yX11_program, .selects RX11 yX11_program yX11_program, .initialized RX11]) (goodIn_sub (z_at [1204, 1205, 1206, 161] (by decide +kernel)) (by decide +kernel)) (zg_of wtX11_program wgX11_program)
set_option maxRecDepth 20000 in
theorem hL_law_X12_program_v55 : GoodIn lw_tbl (wsV RL 55 RX12 yX12_program wzX12_program) := goodIn_app (a := [.methodLink RL 55 yX12_program, .instanceMethod yX12_program, .selects RX12 yX12_program yX12_program, .initialized RX12]) (goodIn_sub (z_at [2172, 2173, 2174, 174] (by decide +kernel)) (by decide +kernel)) (zg_of wtX12_program wgX12_program)
set_option maxRecDepth 20000 in
theorem hL_law_X11_run_v56 : GoodIn lw_tbl (wsV RL 56 RX11 yX11_run wzX11_run) := goodIn_app (a := [.methodLink RL 56 yX11_run, .instanceMethod yX11_run, .selects RX11 yX11_run yX11_run, .initialized RX11]) (goodIn_sub (z_at [1208, 1209, 1210, 161] (by decide +kernel)) (by decide +kernel)) (zg_of wtX11_run wgX11_run)
set_option maxRecDepth 20000 in
theorem hL_law_X12_run_v59 : GoodIn lw_tbl (wsV RL 59 RX12 yX12_run wzX12_run) := goodIn_app (a := [.methodLink RL 59 yX12_run, .instanceMethod yX12_run, .selects RX12 yX12_run yX12_run, .initialized RX12]) (goodIn_sub (z_at [2176, 2177, 2178, 174] (by decide +kernel)) (by decide +kernel)) (zg_of wtX12_run wgX12_run)
set_option maxRecDepth 20000 in
theorem hL_law_X11_ran_v60 : GoodIn lw_tbl (wsV RL 60 RX11 yX11_ran wzX11_ran) := goodIn_app (a := [.methodLink RL 60 yX11_ran, .instanceMethod yX11_ran, .selects RX11 yX11_ran yX11_ran, .initialized RX11]) (goodIn_sub (z_at [1408, 1409, 1410, 161] (by decide +kernel)) (by decide +kernel)) (zg_of wtX11_ran wgX11_ran)
set_option maxRecDepth 20000 in
theorem hL_law_X12_ran_v63 : GoodIn lw_tbl (wsV RL 63 RX12 yX12_ran wzX12_ran) := goodIn_app (a := [.methodLink RL 63 yX12_ran, .instanceMethod yX12_ran, .selects RX12 yX12_ran yX12_ran, .initialized RX12]) (goodIn_sub (z_at [2244, 2245, 2246, 174] (by decide +kernel)) (by decide +kernel)) (zg_of wtX12_ran wgX12_ran)
set_option maxRecDepth 20000 in
theorem hL_law_X11_trace_v64 : GoodIn lw_tbl (wsV RL 64 RX11 yX11_trace wzX11_trace) := goodIn_app (a := [.methodLink RL 64 yX11_trace, .instanceMethod yX11_trace, .selects RX11 yX11_trace yX11_trace, .initialized RX11]) (goodIn_sub (z_at [1420, 1421, 1422, 161] (by decide +kernel)) (by decide +kernel)) (zg_of wtX11_trace wgX11_trace)
set_option maxRecDepth 20000 in
theorem hL_law_X12_trace_v67 : GoodIn lw_tbl (wsV RL 67 RX12 yX12_trace wzX12_trace) := goodIn_app (a := [.methodLink RL 67 yX12_trace, .instanceMethod yX12_trace, .selects RX12 yX12_trace yX12_trace, .initialized RX12]) (goodIn_sub (z_at [2248, 2249, 2250, 174] (by decide +kernel)) (by decide +kernel)) (zg_of wtX12_trace wgX12_trace)
set_option maxRecDepth 20000 in
theorem hL_law_X11_suppressed_v68 : GoodIn lw_tbl (wsV RL 68 RX11 yX11_suppressed wzX11_suppressed) := goodIn_app (a := [.methodLink RL 68 yX11_suppressed, .instanceMethod yX11_suppressed, .selects RX11 yX11_suppressed yX11_suppressed, .initialized RX11]) (goodIn_sub (z_at [1425, 1426, 1427, 161] (by decide +kernel)) (by decide +kernel)) (zg_of wtX11_suppressed wgX11_suppressed)
set_option maxRecDepth 20000 in
theorem hL_law_X12_suppressed_v71 : GoodIn lw_tbl (wsV RL 71 RX12 yX12_suppressed wzX12_suppressed) := goodIn_app (a := [.methodLink RL 71 yX12_suppressed, .instanceMethod yX12_suppressed, .selects RX12 yX12_suppressed yX12_suppressed, .initialized RX12]) (goodIn_sub (z_at [2252, 2253, 2254, 174] (by decide +kernel)) (by decide +kernel)) (zg_of wtX12_suppressed wgX12_suppressed)
set_option maxRecDepth 20000 in
theorem hL_law_X11_under_v72 : GoodIn lw_tbl (wsV RL 72 RX11 yX11_under wzX11_under) := goodIn_app (a := [.methodLink RL 72 yX11_under, .instanceMethod yX11_under, .selects RX11 yX11_under yX11_under, .initialized RX11]) (goodIn_sub (z_at [1430, 1431, 1432, 161] (by decide +kernel)) (by decide +kernel)) (zg_of wtX11_under wgX11_under)
set_option maxRecDepth 20000 in
theorem hL_law_X12_under_v75 : GoodIn lw_tbl (wsV RL 75 RX12 yX12_under wzX12_under) := goodIn_app (a := [.methodLink RL 75 yX12_under, .instanceMethod yX12_under, .selects RX12 yX12_under yX12_under, .initialized RX12]) (goodIn_sub (z_at [1904, 1905, 1906, 174] (by decide +kernel)) (by decide +kernel)) (zg_of wtX12_under wgX12_under)
set_option maxRecDepth 20000 in
theorem hL_law_L_rounds_s76 : GoodIn lw_tbl (va_wsS RL 76 yL_rounds wzL_rounds) := goodIn_app (a := [.methodLink RL 76 yL_rounds, .static yL_rounds, .initialized RL]) (goodIn_sub (z_at [1435, 1436, 160] (by decide +kernel)) (by decide +kernel)) (zg_of wtL_rounds wgL_rounds)
set_option maxRecDepth 20000 in
theorem hL_law_X12_rounds_v81 : GoodIn lw_tbl (wsV RL 81 RX12 yX12_rounds wzX12_rounds) := goodIn_app (a := [.methodLink RL 81 yX12_rounds, .instanceMethod yX12_rounds, .selects RX12 yX12_rounds yX12_rounds, .initialized RX12]) (goodIn_sub (z_at [2256, 2257, 2258, 174] (by decide +kernel)) (by decide +kernel)) (zg_of wtX12_rounds wgX12_rounds)
set_option maxRecDepth 20000 in
theorem hL_law_X12_thrown_v82 : GoodIn lw_tbl (wsV RL 82 RX12 yX12_thrown wzX12_thrown) := goodIn_app (a := [.methodLink RL 82 yX12_thrown, .instanceMethod yX12_thrown, .selects RX12 yX12_thrown yX12_thrown, .initialized RX12]) (goodIn_sub (z_at [1885, 1886, 1887, 174] (by decide +kernel)) (by decide +kernel)) (zg_of wtX12_thrown wgX12_thrown)
theorem hL_law_X11_init_i15 : GoodIn lw_tbl wzX11_init := zg_of wtX11_init wgX11_init
theorem hL_law_X12_init_i18 : GoodIn lw_tbl wzX12_init := zg_of wtX12_init wgX12_init
