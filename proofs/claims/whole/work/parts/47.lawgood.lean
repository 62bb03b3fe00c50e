set_option maxRecDepth 100000 in
set_option maxHeartbeats 4000000 in
theorem gw_wsX8_put : GoodIn lw_tbl wsX8_put := goodIn_r _ [1162, 248, 247, 254, 260, 262, 264, 266] rfl rfl
set_option maxRecDepth 100000 in
set_option maxHeartbeats 4000000 in
theorem gw_wf_X11_feed : GoodIn lw_tbl wf_X11_feed := goodIn_cons (goodIn_r [.code yX11_feed cX11_feed 5 (some .int)] [1202] rfl rfl) (goodIn_app (goodIn_app (goodIn_app (goodIn_app (goodIn_app (goodIn_r wo_X11_feed [1203, 223, 762, 249] rfl rfl) (show GoodIn lw_tbl (wsV RX11 94 RX8 yX8_put wsX8_put) from goodIn_app (a := [.methodLink RX11 94 yX8_put, .instanceMethod yX8_put, .selects RX8 yX8_put yX8_put, .initialized RX8]) (goodIn_r [.methodLink RX11 94 yX8_put, .instanceMethod yX8_put, .selects RX8 yX8_put yX8_put, .initialized RX8] [1286, 1160, 1161, 208] rfl rfl) gw_wsX8_put)) gw_X11) gw_X8) gw_x0) gw_x1)
set_option maxRecDepth 100000 in
set_option maxHeartbeats 4000000 in
theorem gw_wf_L_feed : GoodIn lw_tbl wf_L_feed := goodIn_cons (goodIn_r [.codeWith yL_feed cL_feed 6 (some .int) [(0, 11, 14, 13), (0, 11, 18, 15)]] [1196] rfl rfl) (goodIn_app (goodIn_r wo_L_feed [1197] rfl rfl) (show GoodIn lw_tbl (wsV RL 7 RX11 yX11_feed wf_X11_feed) from goodIn_app (a := [.methodLink RL 7 yX11_feed, .instanceMethod yX11_feed, .selects RX11 yX11_feed yX11_feed, .initialized RX11]) (goodIn_r [.methodLink RL 7 yX11_feed, .instanceMethod yX11_feed, .selects RX11 yX11_feed yX11_feed, .initialized RX11] [1199, 1200, 1201, 207] rfl rfl) gw_wf_X11_feed))
set_option maxRecDepth 100000 in
set_option maxHeartbeats 4000000 in
theorem gl_0 : GoodIn lw_tbl (va_wsS RL 66 yL_feed wf_L_feed) := (show GoodIn lw_tbl (va_wsS RL 66 yL_feed wf_L_feed) from goodIn_app (a := [.methodLink RL 66 yL_feed, .static yL_feed, .initialized RL]) (goodIn_r [.methodLink RL 66 yL_feed, .static yL_feed, .initialized RL] [1194, 1195, 206] rfl rfl) gw_wf_L_feed)
set_option maxRecDepth 100000 in
set_option maxHeartbeats 4000000 in
theorem gw_wsX12_within : GoodIn lw_tbl wsX12_within := goodIn_r _ [1896] rfl rfl
set_option maxRecDepth 100000 in
set_option maxHeartbeats 4000000 in
theorem gw_wf_X12_feed : GoodIn lw_tbl wf_X12_feed := goodIn_cons (goodIn_r [.code yX12_feed cX12_feed 5 (some .int)] [2187] rfl rfl) (goodIn_app (goodIn_app (goodIn_r wo_X12_feed [1899, 1897, 1898, 2188] rfl rfl) (show GoodIn lw_tbl (va_wsS RX12 211 yX12_within wsX12_within) from goodIn_app (a := [.methodLink RX12 211 yX12_within, .static yX12_within, .initialized RX12]) (goodIn_r [.methodLink RX12 211 yX12_within, .static yX12_within, .initialized RX12] [1894, 1895, 219] rfl rfl) gw_wsX12_within)) gw_X12)
set_option maxRecDepth 100000 in
set_option maxHeartbeats 4000000 in
theorem gl_1 : GoodIn lw_tbl (wsV RL 71 RX12 yX12_feed wf_X12_feed) := (show GoodIn lw_tbl (wsV RL 71 RX12 yX12_feed wf_X12_feed) from goodIn_app (a := [.methodLink RL 71 yX12_feed, .instanceMethod yX12_feed, .selects RX12 yX12_feed yX12_feed, .initialized RX12]) (goodIn_r [.methodLink RL 71 yX12_feed, .instanceMethod yX12_feed, .selects RX12 yX12_feed yX12_feed, .initialized RX12] [2184, 2185, 2186, 219] rfl rfl) gw_wf_X12_feed)
set_option maxRecDepth 100000 in
set_option maxHeartbeats 4000000 in
theorem gw_wf_X12_thrown : GoodIn lw_tbl wf_X12_thrown := goodIn_cons (goodIn_r [.code yX12_thrown cX12_thrown 1 (some .int)] [2183] rfl rfl) (goodIn_app (goodIn_r wo_X12_thrown [1897] rfl rfl) gw_X12)
set_option maxRecDepth 100000 in
set_option maxHeartbeats 4000000 in
theorem gl_2 : GoodIn lw_tbl (wsV RL 72 RX12 yX12_thrown wf_X12_thrown) := (show GoodIn lw_tbl (wsV RL 72 RX12 yX12_thrown wf_X12_thrown) from goodIn_app (a := [.methodLink RL 72 yX12_thrown, .instanceMethod yX12_thrown, .selects RX12 yX12_thrown yX12_thrown, .initialized RX12]) (goodIn_r [.methodLink RL 72 yX12_thrown, .instanceMethod yX12_thrown, .selects RX12 yX12_thrown yX12_thrown, .initialized RX12] [2180, 2181, 2182, 219] rfl rfl) gw_wf_X12_thrown)
set_option maxRecDepth 100000 in
set_option maxHeartbeats 4000000 in
theorem gw_wsX8_clear : GoodIn lw_tbl wsX8_clear := goodIn_r _ [821, 248, 259, 254, 260, 262, 264, 266] rfl rfl
set_option maxRecDepth 100000 in
set_option maxHeartbeats 4000000 in
theorem gw_wf_X11_wipe : GoodIn lw_tbl wf_X11_wipe := goodIn_cons (goodIn_r [.code yX11_wipe cX11_wipe 2 (some .int)] [817] rfl rfl) (goodIn_app (goodIn_app (goodIn_app (goodIn_r wo_X11_wipe [762, 249] rfl rfl) (show GoodIn lw_tbl (wsV RX11 98 RX8 yX8_clear wsX8_clear) from goodIn_app (a := [.methodLink RX11 98 yX8_clear, .instanceMethod yX8_clear, .selects RX8 yX8_clear yX8_clear, .initialized RX8]) (goodIn_r [.methodLink RX11 98 yX8_clear, .instanceMethod yX8_clear, .selects RX8 yX8_clear yX8_clear, .initialized RX8] [818, 819, 820, 208] rfl rfl) gw_wsX8_clear)) gw_X11) gw_X8)
set_option maxRecDepth 100000 in
set_option maxHeartbeats 4000000 in
theorem gl_3 : GoodIn lw_tbl (wsV RL 75 RX11 yX11_wipe wf_X11_wipe) := (show GoodIn lw_tbl (wsV RL 75 RX11 yX11_wipe wf_X11_wipe) from goodIn_app (a := [.methodLink RL 75 yX11_wipe, .instanceMethod yX11_wipe, .selects RX11 yX11_wipe yX11_wipe, .initialized RX11]) (goodIn_r [.methodLink RL 75 yX11_wipe, .instanceMethod yX11_wipe, .selects RX11 yX11_wipe yX11_wipe, .initialized RX11] [814, 815, 816, 207] rfl rfl) gw_wf_X11_wipe)
set_option maxRecDepth 100000 in
set_option maxHeartbeats 4000000 in
theorem gw_wf_X12_wipe : GoodIn lw_tbl wf_X12_wipe := goodIn_cons (goodIn_r [.code yX12_wipe cX12_wipe 2 (some .int)] [2192] rfl rfl) (goodIn_app (goodIn_r wo_X12_wipe [1897, 1899] rfl rfl) gw_X12)
set_option maxRecDepth 100000 in
set_option maxHeartbeats 4000000 in
theorem gl_4 : GoodIn lw_tbl (wsV RL 78 RX12 yX12_wipe wf_X12_wipe) := (show GoodIn lw_tbl (wsV RL 78 RX12 yX12_wipe wf_X12_wipe) from goodIn_app (a := [.methodLink RL 78 yX12_wipe, .instanceMethod yX12_wipe, .selects RX12 yX12_wipe yX12_wipe, .initialized RX12]) (goodIn_r [.methodLink RL 78 yX12_wipe, .instanceMethod yX12_wipe, .selects RX12 yX12_wipe yX12_wipe, .initialized RX12] [2189, 2190, 2191, 219] rfl rfl) gw_wf_X12_wipe)
set_option maxRecDepth 100000 in
set_option maxHeartbeats 4000000 in
theorem gw_wf_X6_clear : GoodIn lw_tbl wf_X6_clear := goodIn_cons (goodIn_r [.code yX6_clear cX6_clear 1 none] [833] rfl rfl) (goodIn_app (goodIn_r wo_X6_clear [659, 728, 725] rfl rfl) gw_X6)
set_option maxRecDepth 100000 in
set_option maxHeartbeats 4000000 in
theorem gw_wsX8_copy : GoodIn lw_tbl wsX8_copy := goodIn_r _ [837, 248, 247, 839, 841, 840, 225, 838, 819, 820, 208, 821, 259, 254, 260, 262, 264, 266] rfl rfl
set_option maxRecDepth 100000 in
set_option maxHeartbeats 4000000 in
theorem gw_wf_X3_readBits : GoodIn lw_tbl wf_X3_readBits := goodIn_cons (goodIn_r [.code yX3_readBits cX3_readBits 4 (some .int)] [857] rfl rfl) (goodIn_app (goodIn_r wo_X3_readBits [526, 525, 524] rfl rfl) gw_X3)
set_option maxRecDepth 100000 in
set_option maxHeartbeats 4000000 in
theorem gw_wf_X3_readNatural : GoodIn lw_tbl wf_X3_readNatural := goodIn_cons (goodIn_r [.code yX3_readNatural cX3_readNatural 4 (some .int)] [845] rfl rfl) (goodIn_app (goodIn_app (goodIn_r wo_X3_readNatural [524, 525] rfl rfl) (show GoodIn lw_tbl (wsV RX3 80 RX3 yX3_readBits wf_X3_readBits) from goodIn_app (a := [.methodLink RX3 80 yX3_readBits, .instanceMethod yX3_readBits, .selects RX3 yX3_readBits yX3_readBits, .initialized RX3]) (goodIn_r [.methodLink RX3 80 yX3_readBits, .instanceMethod yX3_readBits, .selects RX3 yX3_readBits yX3_readBits, .initialized RX3] [854, 856, 2, 215] rfl rfl) gw_wf_X3_readBits)) gw_X3)
set_option maxRecDepth 100000 in
set_option maxHeartbeats 4000000 in
theorem gw_wf_X3_readProgram : GoodIn lw_tbl wf_X3_readProgram := goodIn_cons (goodIn_r [.code yX3_readProgram cX3_readProgram 5 (some .int)] [829] rfl rfl) (goodIn_app (goodIn_app (goodIn_app (goodIn_app (goodIn_app (goodIn_app (goodIn_r wo_X3_readProgram [522, 716, 523, 524, 250, 525, 526] rfl rfl) (show GoodIn lw_tbl (wsV RX3 19 RX6 yX6_clear wf_X6_clear) from goodIn_app (a := [.methodLink RX3 19 yX6_clear, .instanceMethod yX6_clear, .selects RX6 yX6_clear yX6_clear, .initialized RX6]) (goodIn_r [.methodLink RX3 19 yX6_clear, .instanceMethod yX6_clear, .selects RX6 yX6_clear yX6_clear, .initialized RX6] [830, 831, 832, 217] rfl rfl) gw_wf_X6_clear)) (show GoodIn lw_tbl (wsV RX3 28 RX8 yX8_copy wsX8_copy) from goodIn_app (a := [.methodLink RX3 28 yX8_copy, .instanceMethod yX8_copy, .selects RX8 yX8_copy yX8_copy, .initialized RX8]) (goodIn_r [.methodLink RX3 28 yX8_copy, .instanceMethod yX8_copy, .selects RX8 yX8_copy yX8_copy, .initialized RX8] [834, 835, 836, 208] rfl rfl) gw_wsX8_copy)) (show GoodIn lw_tbl (wsV RX3 50 RX3 yX3_readNatural wf_X3_readNatural) from goodIn_app (a := [.methodLink RX3 50 yX3_readNatural, .instanceMethod yX3_readNatural, .selects RX3 yX3_readNatural yX3_readNatural, .initialized RX3]) (goodIn_r [.methodLink RX3 50 yX3_readNatural, .instanceMethod yX3_readNatural, .selects RX3 yX3_readNatural yX3_readNatural, .initialized RX3] [842, 844, 1, 215] rfl rfl) gw_wf_X3_readNatural)) gw_X3) gw_X6) gw_X8)
set_option maxRecDepth 100000 in
set_option maxHeartbeats 4000000 in
theorem gw_wf_X11_load : GoodIn lw_tbl wf_X11_load := goodIn_cons (goodIn_r [.code yX11_load cX11_load 2 (some .int)] [825] rfl rfl) (goodIn_app (goodIn_app (goodIn_app (goodIn_r wo_X11_load [769, 762, 772, 773] rfl rfl) (show GoodIn lw_tbl (wsV RX11 101 RX3 yX3_readProgram wf_X3_readProgram) from goodIn_app (a := [.methodLink RX11 101 yX3_readProgram, .instanceMethod yX3_readProgram, .selects RX3 yX3_readProgram yX3_readProgram, .initialized RX3]) (goodIn_r [.methodLink RX11 101 yX3_readProgram, .instanceMethod yX3_readProgram, .selects RX3 yX3_readProgram yX3_readProgram, .initialized RX3] [826, 827, 828, 215] rfl rfl) gw_wf_X3_readProgram)) (show GoodIn lw_tbl (wsV RX11 98 RX8 yX8_clear wsX8_clear) from goodIn_app (a := [.methodLink RX11 98 yX8_clear, .instanceMethod yX8_clear, .selects RX8 yX8_clear yX8_clear, .initialized RX8]) (goodIn_r [.methodLink RX11 98 yX8_clear, .instanceMethod yX8_clear, .selects RX8 yX8_clear yX8_clear, .initialized RX8] [818, 819, 820, 208] rfl rfl) gw_wsX8_clear)) gw_X11)
set_option maxRecDepth 100000 in
set_option maxHeartbeats 4000000 in
theorem gl_5 : GoodIn lw_tbl (wsV RL 79 RX11 yX11_load wf_X11_load) := (show GoodIn lw_tbl (wsV RL 79 RX11 yX11_load wf_X11_load) from goodIn_app (a := [.methodLink RL 79 yX11_load, .instanceMethod yX11_load, .selects RX11 yX11_load yX11_load, .initialized RX11]) (goodIn_r [.methodLink RL 79 yX11_load, .instanceMethod yX11_load, .selects RX11 yX11_load yX11_load, .initialized RX11] [822, 823, 824, 207] rfl rfl) gw_wf_X11_load)
set_option maxRecDepth 100000 in
set_option maxHeartbeats 4000000 in
theorem gw_wf_X12_bit : GoodIn lw_tbl wf_X12_bit := goodIn_cons (goodIn_r [.code yX12_bit cX12_bit 1 (some .int)] [2216] rfl rfl) (goodIn_app (goodIn_r wo_X12_bit [1964, 1962, 1963] rfl rfl) gw_X12)
set_option maxRecDepth 100000 in
set_option maxHeartbeats 4000000 in
theorem gw_wf_X12_natural : GoodIn lw_tbl wf_X12_natural := goodIn_cons (goodIn_r [.code yX12_natural cX12_natural 4 (some .int)] [2212] rfl rfl) (goodIn_app (goodIn_app (fun _ h => nomatch h) (show GoodIn lw_tbl (wsV RX12 339 RX12 yX12_bit wf_X12_bit) from goodIn_app (a := [.methodLink RX12 339 yX12_bit, .instanceMethod yX12_bit, .selects RX12 yX12_bit yX12_bit, .initialized RX12]) (goodIn_r [.methodLink RX12 339 yX12_bit, .instanceMethod yX12_bit, .selects RX12 yX12_bit yX12_bit, .initialized RX12] [2213, 2215, 118, 219] rfl rfl) gw_wf_X12_bit)) gw_X12)
set_option maxRecDepth 100000 in
set_option maxHeartbeats 4000000 in
theorem gw_wf_X12_readProgram : GoodIn lw_tbl wf_X12_readProgram := goodIn_cons (goodIn_r [.code yX12_readProgram cX12_readProgram 2 (some .int)] [2208] rfl rfl) (goodIn_app (goodIn_app (goodIn_r wo_X12_readProgram [1962, 1899, 1963, 1964, 1902] rfl rfl) (show GoodIn lw_tbl (wsV RX12 345 RX12 yX12_natural wf_X12_natural) from goodIn_app (a := [.methodLink RX12 345 yX12_natural, .instanceMethod yX12_natural, .selects RX12 yX12_natural yX12_natural, .initialized RX12]) (goodIn_r [.methodLink RX12 345 yX12_natural, .instanceMethod yX12_natural, .selects RX12 yX12_natural yX12_natural, .initialized RX12] [2209, 2211, 117, 219] rfl rfl) gw_wf_X12_natural)) gw_X12)
set_option maxRecDepth 100000 in
set_option maxHeartbeats 4000000 in
theorem gw_wf_X12_load : GoodIn lw_tbl wf_X12_load := goodIn_cons (goodIn_r [.code yX12_load cX12_load 1 (some .int)] [2204] rfl rfl) (goodIn_app (goodIn_app (goodIn_r wo_X12_load [1897, 1931, 1899] rfl rfl) (show GoodIn lw_tbl (wsV RX12 410 RX12 yX12_readProgram wf_X12_readProgram) from goodIn_app (a := [.methodLink RX12 410 yX12_readProgram, .instanceMethod yX12_readProgram, .selects RX12 yX12_readProgram yX12_readProgram, .initialized RX12]) (goodIn_r [.methodLink RX12 410 yX12_readProgram, .instanceMethod yX12_readProgram, .selects RX12 yX12_readProgram yX12_readProgram, .initialized RX12] [2205, 2207, 116, 219] rfl rfl) gw_wf_X12_readProgram)) gw_X12)
set_option maxRecDepth 100000 in
set_option maxHeartbeats 4000000 in
theorem gl_6 : GoodIn lw_tbl (wsV RL 82 RX12 yX12_load wf_X12_load) := (show GoodIn lw_tbl (wsV RL 82 RX12 yX12_load wf_X12_load) from goodIn_app (a := [.methodLink RL 82 yX12_load, .instanceMethod yX12_load, .selects RX12 yX12_load yX12_load, .initialized RX12]) (goodIn_r [.methodLink RL 82 yX12_load, .instanceMethod yX12_load, .selects RX12 yX12_load yX12_load, .initialized RX12] [2201, 2202, 2203, 219] rfl rfl) gw_wf_X12_load)
set_option maxRecDepth 100000 in
set_option maxHeartbeats 4000000 in
theorem gw_wf_X11_run : GoodIn lw_tbl wf_X11_run := goodIn_cons (goodIn_r [.code yX11_run cX11_run 5 (some .int)] [1293] rfl rfl) (goodIn_app (goodIn_app (goodIn_app (goodIn_app (goodIn_r wo_X11_run [1203, 223, 771, 662, 1270, 224] rfl rfl) gw_X11) gw_X6) gw_x0) gw_x1)
set_option maxRecDepth 100000 in
set_option maxHeartbeats 4000000 in
theorem gw_wf_L_run : GoodIn lw_tbl wf_L_run := goodIn_cons (goodIn_r [.codeWith yL_run cL_run 6 (some .int) [(0, 12, 15, 13), (0, 12, 19, 15)]] [1289] rfl rfl) (goodIn_app (goodIn_r wo_L_run [1197, 1198] rfl rfl) (show GoodIn lw_tbl (wsV RL 17 RX11 yX11_run wf_X11_run) from goodIn_app (a := [.methodLink RL 17 yX11_run, .instanceMethod yX11_run, .selects RX11 yX11_run yX11_run, .initialized RX11]) (goodIn_r [.methodLink RL 17 yX11_run, .instanceMethod yX11_run, .selects RX11 yX11_run yX11_run, .initialized RX11] [1290, 1291, 1292, 207] rfl rfl) gw_wf_X11_run))
set_option maxRecDepth 100000 in
set_option maxHeartbeats 4000000 in
theorem gl_7 : GoodIn lw_tbl (va_wsS RL 83 yL_run wf_L_run) := (show GoodIn lw_tbl (va_wsS RL 83 yL_run wf_L_run) from goodIn_app (a := [.methodLink RL 83 yL_run, .static yL_run, .initialized RL]) (goodIn_r [.methodLink RL 83 yL_run, .static yL_run, .initialized RL] [1287, 1288, 206] rfl rfl) gw_wf_L_run)
set_option maxRecDepth 100000 in
set_option maxHeartbeats 4000000 in
theorem gw_wf_X12_run : GoodIn lw_tbl wf_X12_run := goodIn_cons (goodIn_r [.code yX12_run cX12_run 8 (some .int)] [2381] rfl rfl) (goodIn_app (goodIn_r wo_X12_run [1897, 1916] rfl rfl) gw_X12)
set_option maxRecDepth 100000 in
set_option maxHeartbeats 4000000 in
theorem gl_8 : GoodIn lw_tbl (wsV RL 86 RX12 yX12_run wf_X12_run) := (show GoodIn lw_tbl (wsV RL 86 RX12 yX12_run wf_X12_run) from goodIn_app (a := [.methodLink RL 86 yX12_run, .instanceMethod yX12_run, .selects RX12 yX12_run yX12_run, .initialized RX12]) (goodIn_r [.methodLink RL 86 yX12_run, .instanceMethod yX12_run, .selects RX12 yX12_run yX12_run, .initialized RX12] [2378, 2379, 2380, 219] rfl rfl) gw_wf_X12_run)
set_option maxRecDepth 100000 in
set_option maxHeartbeats 4000000 in
theorem gw_wf_X11_isNode : GoodIn lw_tbl wf_X11_isNode := goodIn_cons (goodIn_r [.code yX11_isNode cX11_isNode 2 (some .boolean)] [1619] rfl rfl) (goodIn_app (goodIn_app (goodIn_r wo_X11_isNode [771, 662] rfl rfl) gw_X11) gw_X6)
set_option maxRecDepth 100000 in
set_option maxHeartbeats 4000000 in
theorem gw_wf_X11_node : GoodIn lw_tbl wf_X11_node := goodIn_cons (goodIn_r [.code yX11_node cX11_node 3 (some .int)] [1615] rfl rfl) (goodIn_app (goodIn_app (goodIn_app (goodIn_app (goodIn_r wo_X11_node [1620, 228] rfl rfl) (show GoodIn lw_tbl (wsV RX11 201 RX11 yX11_isNode wf_X11_isNode) from goodIn_app (a := [.methodLink RX11 201 yX11_isNode, .instanceMethod yX11_isNode, .selects RX11 yX11_isNode yX11_isNode, .initialized RX11]) (goodIn_r [.methodLink RX11 201 yX11_isNode, .instanceMethod yX11_isNode, .selects RX11 yX11_isNode yX11_isNode, .initialized RX11] [1616, 1618, 102, 207] rfl rfl) gw_wf_X11_isNode)) gw_X11) gw_X6) gw_x2)
set_option maxRecDepth 100000 in
set_option maxHeartbeats 4000000 in
theorem gw_wf_L_node : GoodIn lw_tbl wf_L_node := goodIn_cons (goodIn_r [.codeWith yL_node cL_node 5 (some .int) [(0, 10, 13, 25)]] [1610] rfl rfl) (goodIn_app (goodIn_r wo_L_node [1611] rfl rfl) (show GoodIn lw_tbl (wsV RL 21 RX11 yX11_node wf_X11_node) from goodIn_app (a := [.methodLink RL 21 yX11_node, .instanceMethod yX11_node, .selects RX11 yX11_node yX11_node, .initialized RX11]) (goodIn_r [.methodLink RL 21 yX11_node, .instanceMethod yX11_node, .selects RX11 yX11_node yX11_node, .initialized RX11] [1612, 1613, 1614, 207] rfl rfl) gw_wf_X11_node))
set_option maxRecDepth 100000 in
set_option maxHeartbeats 4000000 in
theorem gl_9 : GoodIn lw_tbl (va_wsS RL 87 yL_node wf_L_node) := (show GoodIn lw_tbl (va_wsS RL 87 yL_node wf_L_node) from goodIn_app (a := [.methodLink RL 87 yL_node, .static yL_node, .initialized RL]) (goodIn_r [.methodLink RL 87 yL_node, .static yL_node, .initialized RL] [1608, 1609, 206] rfl rfl) gw_wf_L_node)
set_option maxRecDepth 100000 in
set_option maxHeartbeats 4000000 in
theorem gw_wf_X12_isNode : GoodIn lw_tbl wf_X12_isNode := goodIn_cons (goodIn_r [.code yX12_isNode cX12_isNode 2 (some .boolean)] [2494] rfl rfl) (goodIn_app (goodIn_r wo_X12_isNode [1916] rfl rfl) gw_X12)
set_option maxRecDepth 100000 in
set_option maxHeartbeats 4000000 in
theorem gw_wf_X12_node : GoodIn lw_tbl wf_X12_node := goodIn_cons (goodIn_r [.code yX12_node cX12_node 3 (some .int)] [2490] rfl rfl) (goodIn_app (goodIn_app (goodIn_r wo_X12_node [1897] rfl rfl) (show GoodIn lw_tbl (wsV RX12 561 RX12 yX12_isNode wf_X12_isNode) from goodIn_app (a := [.methodLink RX12 561 yX12_isNode, .instanceMethod yX12_isNode, .selects RX12 yX12_isNode yX12_isNode, .initialized RX12]) (goodIn_r [.methodLink RX12 561 yX12_isNode, .instanceMethod yX12_isNode, .selects RX12 yX12_isNode yX12_isNode, .initialized RX12] [2491, 2493, 170, 219] rfl rfl) gw_wf_X12_isNode)) gw_X12)
set_option maxRecDepth 100000 in
set_option maxHeartbeats 4000000 in
theorem gl_10 : GoodIn lw_tbl (wsV RL 90 RX12 yX12_node wf_X12_node) := (show GoodIn lw_tbl (wsV RL 90 RX12 yX12_node wf_X12_node) from goodIn_app (a := [.methodLink RL 90 yX12_node, .instanceMethod yX12_node, .selects RX12 yX12_node yX12_node, .initialized RX12]) (goodIn_r [.methodLink RL 90 yX12_node, .instanceMethod yX12_node, .selects RX12 yX12_node yX12_node, .initialized RX12] [2487, 2488, 2489, 219] rfl rfl) gw_wf_X12_node)
set_option maxRecDepth 100000 in
set_option maxHeartbeats 4000000 in
theorem gw_wf_X11_root : GoodIn lw_tbl wf_X11_root := goodIn_cons (goodIn_r [.code yX11_root cX11_root 3 (some .long)] [1642] rfl rfl) (goodIn_app (goodIn_app (goodIn_app (goodIn_r wo_X11_root [1620, 228] rfl rfl) (show GoodIn lw_tbl (wsV RX11 201 RX11 yX11_isNode wf_X11_isNode) from goodIn_app (a := [.methodLink RX11 201 yX11_isNode, .instanceMethod yX11_isNode, .selects RX11 yX11_isNode yX11_isNode, .initialized RX11]) (goodIn_r [.methodLink RX11 201 yX11_isNode, .instanceMethod yX11_isNode, .selects RX11 yX11_isNode yX11_isNode, .initialized RX11] [1616, 1618, 102, 207] rfl rfl) gw_wf_X11_isNode)) gw_X11) gw_x2)
set_option maxRecDepth 100000 in
set_option maxHeartbeats 4000000 in
theorem gw_wf_L_root : GoodIn lw_tbl wf_L_root := goodIn_cons (goodIn_r [.codeWith yL_root cL_root 5 (some .int) [(0, 9, 12, 25)]] [1638] rfl rfl) (goodIn_app (goodIn_r wo_L_root [1611] rfl rfl) (show GoodIn lw_tbl (wsV RL 27 RX11 yX11_root wf_X11_root) from goodIn_app (a := [.methodLink RL 27 yX11_root, .instanceMethod yX11_root, .selects RX11 yX11_root yX11_root, .initialized RX11]) (goodIn_r [.methodLink RL 27 yX11_root, .instanceMethod yX11_root, .selects RX11 yX11_root yX11_root, .initialized RX11] [1639, 1640, 1641, 207] rfl rfl) gw_wf_X11_root))
set_option maxRecDepth 100000 in
set_option maxHeartbeats 4000000 in
theorem gl_11 : GoodIn lw_tbl (va_wsS RL 91 yL_root wf_L_root) := (show GoodIn lw_tbl (va_wsS RL 91 yL_root wf_L_root) from goodIn_app (a := [.methodLink RL 91 yL_root, .static yL_root, .initialized RL]) (goodIn_r [.methodLink RL 91 yL_root, .static yL_root, .initialized RL] [1636, 1637, 206] rfl rfl) gw_wf_L_root)
set_option maxRecDepth 100000 in
set_option maxHeartbeats 4000000 in
theorem gw_wf_X12_root : GoodIn lw_tbl wf_X12_root := goodIn_cons (goodIn_r [.code yX12_root cX12_root 3 (some .long)] [2498] rfl rfl) (goodIn_app (goodIn_app (goodIn_r wo_X12_root [1897] rfl rfl) (show GoodIn lw_tbl (wsV RX12 561 RX12 yX12_isNode wf_X12_isNode) from goodIn_app (a := [.methodLink RX12 561 yX12_isNode, .instanceMethod yX12_isNode, .selects RX12 yX12_isNode yX12_isNode, .initialized RX12]) (goodIn_r [.methodLink RX12 561 yX12_isNode, .instanceMethod yX12_isNode, .selects RX12 yX12_isNode yX12_isNode, .initialized RX12] [2491, 2493, 170, 219] rfl rfl) gw_wf_X12_isNode)) gw_X12)
set_option maxRecDepth 100000 in
set_option maxHeartbeats 4000000 in
theorem gl_12 : GoodIn lw_tbl (wsV RL 93 RX12 yX12_root wf_X12_root) := (show GoodIn lw_tbl (wsV RL 93 RX12 yX12_root wf_X12_root) from goodIn_app (a := [.methodLink RL 93 yX12_root, .instanceMethod yX12_root, .selects RX12 yX12_root yX12_root, .initialized RX12]) (goodIn_r [.methodLink RL 93 yX12_root, .instanceMethod yX12_root, .selects RX12 yX12_root yX12_root, .initialized RX12] [2495, 2496, 2497, 219] rfl rfl) gw_wf_X12_root)
set_option maxRecDepth 100000 in
set_option maxHeartbeats 4000000 in
theorem gw_wf_X11_typeRoot : GoodIn lw_tbl wf_X11_typeRoot := goodIn_cons (goodIn_r [.code yX11_typeRoot cX11_typeRoot 5 (some .long)] [1679] rfl rfl) (goodIn_app (goodIn_app (goodIn_app (goodIn_r wo_X11_typeRoot [1620, 228] rfl rfl) (show GoodIn lw_tbl (wsV RX11 201 RX11 yX11_isNode wf_X11_isNode) from goodIn_app (a := [.methodLink RX11 201 yX11_isNode, .instanceMethod yX11_isNode, .selects RX11 yX11_isNode yX11_isNode, .initialized RX11]) (goodIn_r [.methodLink RX11 201 yX11_isNode, .instanceMethod yX11_isNode, .selects RX11 yX11_isNode yX11_isNode, .initialized RX11] [1616, 1618, 102, 207] rfl rfl) gw_wf_X11_isNode)) gw_X11) gw_x2)
set_option maxRecDepth 100000 in
set_option maxHeartbeats 4000000 in
theorem gw_wf_L_typeRoot : GoodIn lw_tbl wf_L_typeRoot := goodIn_cons (goodIn_r [.codeWith yL_typeRoot cL_typeRoot 6 (some .int) [(0, 11, 14, 25)]] [1675] rfl rfl) (goodIn_app (goodIn_r wo_L_typeRoot [1611] rfl rfl) (show GoodIn lw_tbl (wsV RL 31 RX11 yX11_typeRoot wf_X11_typeRoot) from goodIn_app (a := [.methodLink RL 31 yX11_typeRoot, .instanceMethod yX11_typeRoot, .selects RX11 yX11_typeRoot yX11_typeRoot, .initialized RX11]) (goodIn_r [.methodLink RL 31 yX11_typeRoot, .instanceMethod yX11_typeRoot, .selects RX11 yX11_typeRoot yX11_typeRoot, .initialized RX11] [1676, 1677, 1678, 207] rfl rfl) gw_wf_X11_typeRoot))
set_option maxRecDepth 100000 in
set_option maxHeartbeats 4000000 in
theorem gl_13 : GoodIn lw_tbl (va_wsS RL 94 yL_typeRoot wf_L_typeRoot) := (show GoodIn lw_tbl (va_wsS RL 94 yL_typeRoot wf_L_typeRoot) from goodIn_app (a := [.methodLink RL 94 yL_typeRoot, .static yL_typeRoot, .initialized RL]) (goodIn_r [.methodLink RL 94 yL_typeRoot, .static yL_typeRoot, .initialized RL] [1673, 1674, 206] rfl rfl) gw_wf_L_typeRoot)
set_option maxRecDepth 100000 in
set_option maxHeartbeats 4000000 in
theorem gw_wf_X12_typeRoot : GoodIn lw_tbl wf_X12_typeRoot := goodIn_cons (goodIn_r [.code yX12_typeRoot cX12_typeRoot 4 (some .long)] [2502] rfl rfl) (goodIn_app (goodIn_app (goodIn_r wo_X12_typeRoot [1897] rfl rfl) (show GoodIn lw_tbl (wsV RX12 561 RX12 yX12_isNode wf_X12_isNode) from goodIn_app (a := [.methodLink RX12 561 yX12_isNode, .instanceMethod yX12_isNode, .selects RX12 yX12_isNode yX12_isNode, .initialized RX12]) (goodIn_r [.methodLink RX12 561 yX12_isNode, .instanceMethod yX12_isNode, .selects RX12 yX12_isNode yX12_isNode, .initialized RX12] [2491, 2493, 170, 219] rfl rfl) gw_wf_X12_isNode)) gw_X12)
set_option maxRecDepth 100000 in
set_option maxHeartbeats 4000000 in
theorem gl_14 : GoodIn lw_tbl (wsV RL 97 RX12 yX12_typeRoot wf_X12_typeRoot) := (show GoodIn lw_tbl (wsV RL 97 RX12 yX12_typeRoot wf_X12_typeRoot) from goodIn_app (a := [.methodLink RL 97 yX12_typeRoot, .instanceMethod yX12_typeRoot, .selects RX12 yX12_typeRoot yX12_typeRoot, .initialized RX12]) (goodIn_r [.methodLink RL 97 yX12_typeRoot, .instanceMethod yX12_typeRoot, .selects RX12 yX12_typeRoot yX12_typeRoot, .initialized RX12] [2499, 2500, 2501, 219] rfl rfl) gw_wf_X12_typeRoot)
set_option maxRecDepth 100000 in
set_option maxHeartbeats 4000000 in
theorem gw_wf_X11_type : GoodIn lw_tbl wf_X11_type := goodIn_cons (goodIn_r [.code yX11_type cX11_type 4 (some .int)] [1698] rfl rfl) (goodIn_app (goodIn_app (goodIn_app (goodIn_app (goodIn_app (goodIn_r wo_X11_type [1620, 228] rfl rfl) (show GoodIn lw_tbl (wsV RX11 201 RX11 yX11_isNode wf_X11_isNode) from goodIn_app (a := [.methodLink RX11 201 yX11_isNode, .instanceMethod yX11_isNode, .selects RX11 yX11_isNode yX11_isNode, .initialized RX11]) (goodIn_r [.methodLink RX11 201 yX11_isNode, .instanceMethod yX11_isNode, .selects RX11 yX11_isNode yX11_isNode, .initialized RX11] [1616, 1618, 102, 207] rfl rfl) gw_wf_X11_isNode)) gw_X10) gw_X11) gw_X6) gw_x2)
set_option maxRecDepth 100000 in
set_option maxHeartbeats 4000000 in
theorem gw_wf_L_type : GoodIn lw_tbl wf_L_type := goodIn_cons (goodIn_r [.codeWith yL_type cL_type 5 (some .int) [(0, 10, 13, 25)]] [1694] rfl rfl) (goodIn_app (goodIn_r wo_L_type [1611] rfl rfl) (show GoodIn lw_tbl (wsV RL 35 RX11 yX11_type wf_X11_type) from goodIn_app (a := [.methodLink RL 35 yX11_type, .instanceMethod yX11_type, .selects RX11 yX11_type yX11_type, .initialized RX11]) (goodIn_r [.methodLink RL 35 yX11_type, .instanceMethod yX11_type, .selects RX11 yX11_type yX11_type, .initialized RX11] [1695, 1696, 1697, 207] rfl rfl) gw_wf_X11_type))
set_option maxRecDepth 100000 in
set_option maxHeartbeats 4000000 in
theorem gl_15 : GoodIn lw_tbl (va_wsS RL 98 yL_type wf_L_type) := (show GoodIn lw_tbl (va_wsS RL 98 yL_type wf_L_type) from goodIn_app (a := [.methodLink RL 98 yL_type, .static yL_type, .initialized RL]) (goodIn_r [.methodLink RL 98 yL_type, .static yL_type, .initialized RL] [1692, 1693, 206] rfl rfl) gw_wf_L_type)
set_option maxRecDepth 100000 in
set_option maxHeartbeats 4000000 in
theorem gw_wf_X12_typeAt : GoodIn lw_tbl wf_X12_typeAt := goodIn_cons (goodIn_r [.code yX12_typeAt cX12_typeAt 3 (some .int)] [2510] rfl rfl) (goodIn_app (goodIn_app (goodIn_r wo_X12_typeAt [1897] rfl rfl) (show GoodIn lw_tbl (wsV RX12 561 RX12 yX12_isNode wf_X12_isNode) from goodIn_app (a := [.methodLink RX12 561 yX12_isNode, .instanceMethod yX12_isNode, .selects RX12 yX12_isNode yX12_isNode, .initialized RX12]) (goodIn_r [.methodLink RX12 561 yX12_isNode, .instanceMethod yX12_isNode, .selects RX12 yX12_isNode yX12_isNode, .initialized RX12] [2491, 2493, 170, 219] rfl rfl) gw_wf_X12_isNode)) gw_X12)
set_option maxRecDepth 100000 in
set_option maxHeartbeats 4000000 in
theorem gw_wf_X12_type : GoodIn lw_tbl wf_X12_type := goodIn_cons (goodIn_r [.code yX12_type cX12_type 6 (some .int)] [2506] rfl rfl) (goodIn_app (goodIn_app (goodIn_r wo_X12_type [1897] rfl rfl) (show GoodIn lw_tbl (wsV RX12 564 RX12 yX12_typeAt wf_X12_typeAt) from goodIn_app (a := [.methodLink RX12 564 yX12_typeAt, .instanceMethod yX12_typeAt, .selects RX12 yX12_typeAt yX12_typeAt, .initialized RX12]) (goodIn_r [.methodLink RX12 564 yX12_typeAt, .instanceMethod yX12_typeAt, .selects RX12 yX12_typeAt yX12_typeAt, .initialized RX12] [2507, 2509, 171, 219] rfl rfl) gw_wf_X12_typeAt)) gw_X12)
set_option maxRecDepth 100000 in
set_option maxHeartbeats 4000000 in
theorem gl_16 : GoodIn lw_tbl (wsV RL 101 RX12 yX12_type wf_X12_type) := (show GoodIn lw_tbl (wsV RL 101 RX12 yX12_type wf_X12_type) from goodIn_app (a := [.methodLink RL 101 yX12_type, .instanceMethod yX12_type, .selects RX12 yX12_type yX12_type, .initialized RX12]) (goodIn_r [.methodLink RL 101 yX12_type, .instanceMethod yX12_type, .selects RX12 yX12_type yX12_type, .initialized RX12] [2503, 2504, 2505, 219] rfl rfl) gw_wf_X12_type)
set_option maxRecDepth 100000 in
set_option maxHeartbeats 4000000 in
theorem gw_wf_X9_nextWord : GoodIn lw_tbl wf_X9_nextWord := goodIn_cons (goodIn_r [.code yX9_nextWord cX9_nextWord 2 none] [1061] rfl rfl) (goodIn_app (goodIn_app (goodIn_r wo_X9_nextWord [561, 562, 560, 559, 556, 251, 558] rfl rfl) gw_X8) gw_X9)
set_option maxRecDepth 100000 in
set_option maxHeartbeats 4000000 in
theorem gw_wf_X9_refuse : GoodIn lw_tbl wf_X9_refuse := goodIn_cons (goodIn_r [.code yX9_refuse cX9_refuse 3 (some .int)] [1075] rfl rfl) (goodIn_app (goodIn_r wo_X9_refuse [563, 546] rfl rfl) gw_X9)
set_option maxRecDepth 100000 in
set_option maxHeartbeats 4000000 in
theorem gw_wf_X9_readDefinition : GoodIn lw_tbl wf_X9_readDefinition := goodIn_cons (goodIn_r [.code yX9_readDefinition cX9_readDefinition 4 (some .boolean)] [1057] rfl rfl) (goodIn_app (goodIn_app (goodIn_app (goodIn_r wo_X9_readDefinition [558, 554, 561, 559] rfl rfl) (show GoodIn lw_tbl (wsV RX9 97 RX9 yX9_nextWord wf_X9_nextWord) from goodIn_app (a := [.methodLink RX9 97 yX9_nextWord, .instanceMethod yX9_nextWord, .selects RX9 yX9_nextWord yX9_nextWord, .initialized RX9]) (goodIn_r [.methodLink RX9 97 yX9_nextWord, .instanceMethod yX9_nextWord, .selects RX9 yX9_nextWord yX9_nextWord, .initialized RX9] [1058, 1060, 22, 216] rfl rfl) gw_wf_X9_nextWord)) (show GoodIn lw_tbl (wsV RX9 110 RX9 yX9_refuse wf_X9_refuse) from goodIn_app (a := [.methodLink RX9 110 yX9_refuse, .instanceMethod yX9_refuse, .selects RX9 yX9_refuse yX9_refuse, .initialized RX9]) (goodIn_r [.methodLink RX9 110 yX9_refuse, .instanceMethod yX9_refuse, .selects RX9 yX9_refuse yX9_refuse, .initialized RX9] [1072, 1074, 24, 216] rfl rfl) gw_wf_X9_refuse)) gw_X9)
set_option maxRecDepth 100000 in
set_option maxHeartbeats 4000000 in
theorem gw_wf_X9_tell : GoodIn lw_tbl wf_X9_tell := goodIn_cons (goodIn_r [.code yX9_tell cX9_tell 7 (some .int)] [1052] rfl rfl) (goodIn_app (goodIn_app (goodIn_app (goodIn_app (goodIn_app (goodIn_r wo_X9_tell [556, 557, 546, 563, 560, 554, 553] rfl rfl) (show GoodIn lw_tbl (wsV RX9 40 RX6 yX6_clear wf_X6_clear) from goodIn_app (a := [.methodLink RX9 40 yX6_clear, .instanceMethod yX6_clear, .selects RX6 yX6_clear yX6_clear, .initialized RX6]) (goodIn_r [.methodLink RX9 40 yX6_clear, .instanceMethod yX6_clear, .selects RX6 yX6_clear yX6_clear, .initialized RX6] [1053, 831, 832, 217] rfl rfl) gw_wf_X6_clear)) (show GoodIn lw_tbl (wsV RX9 58 RX9 yX9_readDefinition wf_X9_readDefinition) from goodIn_app (a := [.methodLink RX9 58 yX9_readDefinition, .instanceMethod yX9_readDefinition, .selects RX9 yX9_readDefinition yX9_readDefinition, .initialized RX9]) (goodIn_r [.methodLink RX9 58 yX9_readDefinition, .instanceMethod yX9_readDefinition, .selects RX9 yX9_readDefinition yX9_readDefinition, .initialized RX9] [1054, 1056, 21, 216] rfl rfl) gw_wf_X9_readDefinition)) gw_X5) gw_X8) gw_X9)
set_option maxRecDepth 100000 in
set_option maxHeartbeats 4000000 in
theorem gw_wf_X11_say : GoodIn lw_tbl wf_X11_say := goodIn_cons (goodIn_r [.code yX11_say cX11_say 2 (some .int)] [1048] rfl rfl) (goodIn_app (goodIn_app (goodIn_app (goodIn_app (goodIn_r wo_X11_say [770, 762, 772, 764, 547, 778] rfl rfl) (show GoodIn lw_tbl (wsV RX11 247 RX9 yX9_tell wf_X9_tell) from goodIn_app (a := [.methodLink RX11 247 yX9_tell, .instanceMethod yX9_tell, .selects RX9 yX9_tell yX9_tell, .initialized RX9]) (goodIn_r [.methodLink RX11 247 yX9_tell, .instanceMethod yX9_tell, .selects RX9 yX9_tell yX9_tell, .initialized RX9] [1049, 1050, 1051, 216] rfl rfl) gw_wf_X9_tell)) (show GoodIn lw_tbl (wsV RX11 98 RX8 yX8_clear wsX8_clear) from goodIn_app (a := [.methodLink RX11 98 yX8_clear, .instanceMethod yX8_clear, .selects RX8 yX8_clear yX8_clear, .initialized RX8]) (goodIn_r [.methodLink RX11 98 yX8_clear, .instanceMethod yX8_clear, .selects RX8 yX8_clear yX8_clear, .initialized RX8] [818, 819, 820, 208] rfl rfl) gw_wsX8_clear)) gw_X11) gw_X9)
set_option maxRecDepth 100000 in
set_option maxHeartbeats 4000000 in
theorem gl_17 : GoodIn lw_tbl (wsV RL 102 RX11 yX11_say wf_X11_say) := (show GoodIn lw_tbl (wsV RL 102 RX11 yX11_say wf_X11_say) from goodIn_app (a := [.methodLink RL 102 yX11_say, .instanceMethod yX11_say, .selects RX11 yX11_say yX11_say, .initialized RX11]) (goodIn_r [.methodLink RL 102 yX11_say, .instanceMethod yX11_say, .selects RX11 yX11_say yX11_say, .initialized RX11] [1045, 1046, 1047, 207] rfl rfl) gw_wf_X11_say)
set_option maxRecDepth 100000 in
set_option maxHeartbeats 4000000 in
theorem gw_wf_X12_nextWord : GoodIn lw_tbl wf_X12_nextWord := goodIn_cons (goodIn_r [.code yX12_nextWord cX12_nextWord 3 none] [2592] rfl rfl) (goodIn_app (goodIn_r wo_X12_nextWord [1979, 1899, 1981, 1980] rfl rfl) gw_X12)
set_option maxRecDepth 100000 in
set_option maxHeartbeats 4000000 in
theorem gw_wf_X12_packed : GoodIn lw_tbl wf_X12_packed := goodIn_cons (goodIn_r [.code yX12_packed cX12_packed 5 (some .long)] [2603] rfl rfl) (goodIn_app (goodIn_r wo_X12_packed [1980] rfl rfl) gw_X12)
set_option maxRecDepth 100000 in
set_option maxHeartbeats 4000000 in
theorem gw_wf_X12_wrong : GoodIn lw_tbl wf_X12_wrong := goodIn_cons (goodIn_r [.code yX12_wrong cX12_wrong 3 (some .int)] [2596] rfl rfl) (goodIn_app (goodIn_r wo_X12_wrong [1978, 1933] rfl rfl) gw_X12)
set_option maxRecDepth 100000 in
set_option maxHeartbeats 4000000 in
theorem gw_wf_X12_definitions : GoodIn lw_tbl wf_X12_definitions := goodIn_cons (goodIn_r [.code yX12_definitions cX12_definitions 5 (some .int)] [2588] rfl rfl) (goodIn_app (goodIn_app (goodIn_app (goodIn_app (goodIn_r wo_X12_definitions [1902, 1982, 1979, 1978, 1981] rfl rfl) (show GoodIn lw_tbl (wsV RX12 613 RX12 yX12_nextWord wf_X12_nextWord) from goodIn_app (a := [.methodLink RX12 613 yX12_nextWord, .instanceMethod yX12_nextWord, .selects RX12 yX12_nextWord yX12_nextWord, .initialized RX12]) (goodIn_r [.methodLink RX12 613 yX12_nextWord, .instanceMethod yX12_nextWord, .selects RX12 yX12_nextWord yX12_nextWord, .initialized RX12] [2589, 2591, 185, 219] rfl rfl) gw_wf_X12_nextWord)) (show GoodIn lw_tbl (wsV RX12 616 RX12 yX12_packed wf_X12_packed) from goodIn_app (a := [.methodLink RX12 616 yX12_packed, .instanceMethod yX12_packed, .selects RX12 yX12_packed yX12_packed, .initialized RX12]) (goodIn_r [.methodLink RX12 616 yX12_packed, .instanceMethod yX12_packed, .selects RX12 yX12_packed yX12_packed, .initialized RX12] [2600, 2602, 187, 219] rfl rfl) gw_wf_X12_packed)) (show GoodIn lw_tbl (wsV RX12 604 RX12 yX12_wrong wf_X12_wrong) from goodIn_app (a := [.methodLink RX12 604 yX12_wrong, .instanceMethod yX12_wrong, .selects RX12 yX12_wrong yX12_wrong, .initialized RX12]) (goodIn_r [.methodLink RX12 604 yX12_wrong, .instanceMethod yX12_wrong, .selects RX12 yX12_wrong yX12_wrong, .initialized RX12] [2593, 2595, 186, 219] rfl rfl) gw_wf_X12_wrong)) gw_X12)
set_option maxRecDepth 100000 in
set_option maxHeartbeats 4000000 in
theorem gw_wf_X12_speech : GoodIn lw_tbl wf_X12_speech := goodIn_cons (goodIn_r [.code yX12_speech cX12_speech 3 (some .int)] [2584] rfl rfl) (goodIn_app (goodIn_app (goodIn_r wo_X12_speech [1978, 1933] rfl rfl) (show GoodIn lw_tbl (wsV RX12 676 RX12 yX12_definitions wf_X12_definitions) from goodIn_app (a := [.methodLink RX12 676 yX12_definitions, .instanceMethod yX12_definitions, .selects RX12 yX12_definitions yX12_definitions, .initialized RX12]) (goodIn_r [.methodLink RX12 676 yX12_definitions, .instanceMethod yX12_definitions, .selects RX12 yX12_definitions yX12_definitions, .initialized RX12] [2585, 2587, 184, 219] rfl rfl) gw_wf_X12_definitions)) gw_X12)
set_option maxRecDepth 100000 in
set_option maxHeartbeats 4000000 in
theorem gw_wf_X12_say : GoodIn lw_tbl wf_X12_say := goodIn_cons (goodIn_r [.code yX12_say cX12_say 3 (some .int)] [2580] rfl rfl) (goodIn_app (goodIn_app (goodIn_r wo_X12_say [1897, 1899] rfl rfl) (show GoodIn lw_tbl (wsV RX12 688 RX12 yX12_speech wf_X12_speech) from goodIn_app (a := [.methodLink RX12 688 yX12_speech, .instanceMethod yX12_speech, .selects RX12 yX12_speech yX12_speech, .initialized RX12]) (goodIn_r [.methodLink RX12 688 yX12_speech, .instanceMethod yX12_speech, .selects RX12 yX12_speech yX12_speech, .initialized RX12] [2581, 2583, 183, 219] rfl rfl) gw_wf_X12_speech)) gw_X12)
set_option maxRecDepth 100000 in
set_option maxHeartbeats 4000000 in
theorem gl_18 : GoodIn lw_tbl (wsV RL 105 RX12 yX12_say wf_X12_say) := (show GoodIn lw_tbl (wsV RL 105 RX12 yX12_say wf_X12_say) from goodIn_app (a := [.methodLink RL 105 yX12_say, .instanceMethod yX12_say, .selects RX12 yX12_say yX12_say, .initialized RX12]) (goodIn_r [.methodLink RL 105 yX12_say, .instanceMethod yX12_say, .selects RX12 yX12_say yX12_say, .initialized RX12] [2577, 2578, 2579, 219] rfl rfl) gw_wf_X12_say)
set_option maxRecDepth 100000 in
set_option maxHeartbeats 4000000 in
theorem gw_wf_X11_speak : GoodIn lw_tbl wf_X11_speak := goodIn_cons (goodIn_r [.code yX11_speak cX11_speak 2 (some .int)] [1715] rfl rfl) (goodIn_app (goodIn_app (goodIn_app (goodIn_app (goodIn_r wo_X11_speak [771, 662, 1270, 224] rfl rfl) gw_X11) gw_X6) gw_X8) gw_x1)
set_option maxRecDepth 100000 in
set_option maxHeartbeats 4000000 in
theorem gw_wf_L_speak : GoodIn lw_tbl wf_L_speak := goodIn_cons (goodIn_r [.codeWith yL_speak cL_speak 3 (some .int) [(0, 8, 11, 15)]] [1711] rfl rfl) (goodIn_app (goodIn_r wo_L_speak [1198] rfl rfl) (show GoodIn lw_tbl (wsV RL 39 RX11 yX11_speak wf_X11_speak) from goodIn_app (a := [.methodLink RL 39 yX11_speak, .instanceMethod yX11_speak, .selects RX11 yX11_speak yX11_speak, .initialized RX11]) (goodIn_r [.methodLink RL 39 yX11_speak, .instanceMethod yX11_speak, .selects RX11 yX11_speak yX11_speak, .initialized RX11] [1712, 1713, 1714, 207] rfl rfl) gw_wf_X11_speak))
set_option maxRecDepth 100000 in
set_option maxHeartbeats 4000000 in
theorem gl_19 : GoodIn lw_tbl (va_wsS RL 106 yL_speak wf_L_speak) := (show GoodIn lw_tbl (va_wsS RL 106 yL_speak wf_L_speak) from goodIn_app (a := [.methodLink RL 106 yL_speak, .static yL_speak, .initialized RL]) (goodIn_r [.methodLink RL 106 yL_speak, .static yL_speak, .initialized RL] [1709, 1710, 206] rfl rfl) gw_wf_L_speak)
set_option maxRecDepth 100000 in
set_option maxHeartbeats 4000000 in
theorem gw_wf_X12_speak : GoodIn lw_tbl wf_X12_speak := goodIn_cons (goodIn_r [.code yX12_speak cX12_speak 2 (some .int)] [2560] rfl rfl) (goodIn_app (goodIn_r wo_X12_speak [1916, 1897] rfl rfl) gw_X12)
set_option maxRecDepth 100000 in
set_option maxHeartbeats 4000000 in
theorem gl_20 : GoodIn lw_tbl (wsV RL 109 RX12 yX12_speak wf_X12_speak) := (show GoodIn lw_tbl (wsV RL 109 RX12 yX12_speak wf_X12_speak) from goodIn_app (a := [.methodLink RL 109 yX12_speak, .instanceMethod yX12_speak, .selects RX12 yX12_speak yX12_speak, .initialized RX12]) (goodIn_r [.methodLink RL 109 yX12_speak, .instanceMethod yX12_speak, .selects RX12 yX12_speak yX12_speak, .initialized RX12] [2557, 2558, 2559, 219] rfl rfl) gw_wf_X12_speak)
set_option maxRecDepth 100000 in
set_option maxHeartbeats 4000000 in
theorem gw_wf_X11_again : GoodIn lw_tbl wf_X11_again := goodIn_cons (goodIn_r [.code yX11_again cX11_again 1 (some .int)] [1193] rfl rfl) (goodIn_app (goodIn_app (goodIn_app (goodIn_r wo_X11_again [762, 763, 249] rfl rfl) (show GoodIn lw_tbl (wsV RX11 197 RX8 yX8_copy wsX8_copy) from goodIn_app (a := [.methodLink RX11 197 yX8_copy, .instanceMethod yX8_copy, .selects RX8 yX8_copy yX8_copy, .initialized RX8]) (goodIn_r [.methodLink RX11 197 yX8_copy, .instanceMethod yX8_copy, .selects RX8 yX8_copy yX8_copy, .initialized RX8] [1189, 835, 836, 208] rfl rfl) gw_wsX8_copy)) gw_X11) gw_X8)
set_option maxRecDepth 100000 in
set_option maxHeartbeats 4000000 in
theorem gl_21 : GoodIn lw_tbl (wsV RL 110 RX11 yX11_again wf_X11_again) := (show GoodIn lw_tbl (wsV RL 110 RX11 yX11_again wf_X11_again) from goodIn_app (a := [.methodLink RL 110 yX11_again, .instanceMethod yX11_again, .selects RX11 yX11_again yX11_again, .initialized RX11]) (goodIn_r [.methodLink RL 110 yX11_again, .instanceMethod yX11_again, .selects RX11 yX11_again yX11_again, .initialized RX11] [1190, 1191, 1192, 207] rfl rfl) gw_wf_X11_again)
set_option maxRecDepth 100000 in
set_option maxHeartbeats 4000000 in
theorem gw_wf_X12_again : GoodIn lw_tbl wf_X12_again := goodIn_cons (goodIn_r [.code yX12_again cX12_again 2 (some .int)] [2196] rfl rfl) (goodIn_app (goodIn_r wo_X12_again [1897, 1901, 1899] rfl rfl) gw_X12)
set_option maxRecDepth 100000 in
set_option maxHeartbeats 4000000 in
theorem gl_22 : GoodIn lw_tbl (wsV RL 113 RX12 yX12_again wf_X12_again) := (show GoodIn lw_tbl (wsV RL 113 RX12 yX12_again wf_X12_again) from goodIn_app (a := [.methodLink RL 113 yX12_again, .instanceMethod yX12_again, .selects RX12 yX12_again yX12_again, .initialized RX12]) (goodIn_r [.methodLink RL 113 yX12_again, .instanceMethod yX12_again, .selects RX12 yX12_again yX12_again, .initialized RX12] [2193, 2194, 2195, 219] rfl rfl) gw_wf_X12_again)
set_option maxRecDepth 100000 in
set_option maxHeartbeats 4000000 in
theorem gw_wf_X11_value : GoodIn lw_tbl wf_X11_value := goodIn_cons (goodIn_r [.code yX11_value cX11_value 4 (some .int)] [1806] rfl rfl) (goodIn_app (goodIn_app (goodIn_app (goodIn_r wo_X11_value [1620, 228] rfl rfl) (show GoodIn lw_tbl (wsV RX11 201 RX11 yX11_isNode wf_X11_isNode) from goodIn_app (a := [.methodLink RX11 201 yX11_isNode, .instanceMethod yX11_isNode, .selects RX11 yX11_isNode yX11_isNode, .initialized RX11]) (goodIn_r [.methodLink RX11 201 yX11_isNode, .instanceMethod yX11_isNode, .selects RX11 yX11_isNode yX11_isNode, .initialized RX11] [1616, 1618, 102, 207] rfl rfl) gw_wf_X11_isNode)) gw_X11) gw_x2)
set_option maxRecDepth 100000 in
set_option maxHeartbeats 4000000 in
theorem gw_wf_L_value : GoodIn lw_tbl wf_L_value := goodIn_cons (goodIn_r [.codeWith yL_value cL_value 5 (some .int) [(0, 10, 13, 25)]] [1802] rfl rfl) (goodIn_app (goodIn_r wo_L_value [1611] rfl rfl) (show GoodIn lw_tbl (wsV RL 43 RX11 yX11_value wf_X11_value) from goodIn_app (a := [.methodLink RL 43 yX11_value, .instanceMethod yX11_value, .selects RX11 yX11_value yX11_value, .initialized RX11]) (goodIn_r [.methodLink RL 43 yX11_value, .instanceMethod yX11_value, .selects RX11 yX11_value yX11_value, .initialized RX11] [1803, 1804, 1805, 207] rfl rfl) gw_wf_X11_value))
set_option maxRecDepth 100000 in
set_option maxHeartbeats 4000000 in
theorem gl_23 : GoodIn lw_tbl (va_wsS RL 114 yL_value wf_L_value) := (show GoodIn lw_tbl (va_wsS RL 114 yL_value wf_L_value) from goodIn_app (a := [.methodLink RL 114 yL_value, .static yL_value, .initialized RL]) (goodIn_r [.methodLink RL 114 yL_value, .static yL_value, .initialized RL] [1800, 1801, 206] rfl rfl) gw_wf_L_value)
set_option maxRecDepth 100000 in
set_option maxHeartbeats 4000000 in
theorem gw_wf_X12_value : GoodIn lw_tbl wf_X12_value := goodIn_cons (goodIn_r [.code yX12_value cX12_value 5 (some .int)] [2522] rfl rfl) (goodIn_app (goodIn_app (goodIn_r wo_X12_value [1897] rfl rfl) (show GoodIn lw_tbl (wsV RX12 564 RX12 yX12_typeAt wf_X12_typeAt) from goodIn_app (a := [.methodLink RX12 564 yX12_typeAt, .instanceMethod yX12_typeAt, .selects RX12 yX12_typeAt yX12_typeAt, .initialized RX12]) (goodIn_r [.methodLink RX12 564 yX12_typeAt, .instanceMethod yX12_typeAt, .selects RX12 yX12_typeAt yX12_typeAt, .initialized RX12] [2507, 2509, 171, 219] rfl rfl) gw_wf_X12_typeAt)) gw_X12)
set_option maxRecDepth 100000 in
set_option maxHeartbeats 4000000 in
theorem gl_24 : GoodIn lw_tbl (wsV RL 116 RX12 yX12_value wf_X12_value) := (show GoodIn lw_tbl (wsV RL 116 RX12 yX12_value wf_X12_value) from goodIn_app (a := [.methodLink RL 116 yX12_value, .instanceMethod yX12_value, .selects RX12 yX12_value yX12_value, .initialized RX12]) (goodIn_r [.methodLink RL 116 yX12_value, .instanceMethod yX12_value, .selects RX12 yX12_value yX12_value, .initialized RX12] [2519, 2520, 2521, 219] rfl rfl) gw_wf_X12_value)
set_option maxRecDepth 100000 in
set_option maxHeartbeats 4000000 in
theorem gw_wf_X11_worth : GoodIn lw_tbl wf_X11_worth := goodIn_cons (goodIn_r [.code yX11_worth cX11_worth 4 (some .int)] [1826] rfl rfl) (goodIn_app (goodIn_app (goodIn_app (goodIn_r wo_X11_worth [1620, 228] rfl rfl) (show GoodIn lw_tbl (wsV RX11 201 RX11 yX11_isNode wf_X11_isNode) from goodIn_app (a := [.methodLink RX11 201 yX11_isNode, .instanceMethod yX11_isNode, .selects RX11 yX11_isNode yX11_isNode, .initialized RX11]) (goodIn_r [.methodLink RX11 201 yX11_isNode, .instanceMethod yX11_isNode, .selects RX11 yX11_isNode yX11_isNode, .initialized RX11] [1616, 1618, 102, 207] rfl rfl) gw_wf_X11_isNode)) gw_X11) gw_x2)
set_option maxRecDepth 100000 in
set_option maxHeartbeats 4000000 in
theorem gw_wf_L_worth : GoodIn lw_tbl wf_L_worth := goodIn_cons (goodIn_r [.codeWith yL_worth cL_worth 5 (some .int) [(0, 10, 13, 25)]] [1822] rfl rfl) (goodIn_app (goodIn_r wo_L_worth [1611] rfl rfl) (show GoodIn lw_tbl (wsV RL 46 RX11 yX11_worth wf_X11_worth) from goodIn_app (a := [.methodLink RL 46 yX11_worth, .instanceMethod yX11_worth, .selects RX11 yX11_worth yX11_worth, .initialized RX11]) (goodIn_r [.methodLink RL 46 yX11_worth, .instanceMethod yX11_worth, .selects RX11 yX11_worth yX11_worth, .initialized RX11] [1823, 1824, 1825, 207] rfl rfl) gw_wf_X11_worth))
set_option maxRecDepth 100000 in
set_option maxHeartbeats 4000000 in
theorem gl_25 : GoodIn lw_tbl (va_wsS RL 117 yL_worth wf_L_worth) := (show GoodIn lw_tbl (va_wsS RL 117 yL_worth wf_L_worth) from goodIn_app (a := [.methodLink RL 117 yL_worth, .static yL_worth, .initialized RL]) (goodIn_r [.methodLink RL 117 yL_worth, .static yL_worth, .initialized RL] [1820, 1821, 206] rfl rfl) gw_wf_L_worth)
set_option maxRecDepth 100000 in
set_option maxHeartbeats 4000000 in
theorem gw_wf_X12_worth : GoodIn lw_tbl wf_X12_worth := goodIn_cons (goodIn_r [.code yX12_worth cX12_worth 5 (some .int)] [2541] rfl rfl) (goodIn_app (goodIn_app (goodIn_r wo_X12_worth [1897] rfl rfl) (show GoodIn lw_tbl (wsV RX12 564 RX12 yX12_typeAt wf_X12_typeAt) from goodIn_app (a := [.methodLink RX12 564 yX12_typeAt, .instanceMethod yX12_typeAt, .selects RX12 yX12_typeAt yX12_typeAt, .initialized RX12]) (goodIn_r [.methodLink RX12 564 yX12_typeAt, .instanceMethod yX12_typeAt, .selects RX12 yX12_typeAt yX12_typeAt, .initialized RX12] [2507, 2509, 171, 219] rfl rfl) gw_wf_X12_typeAt)) gw_X12)
set_option maxRecDepth 100000 in
set_option maxHeartbeats 4000000 in
theorem gl_26 : GoodIn lw_tbl (wsV RL 119 RX12 yX12_worth wf_X12_worth) := (show GoodIn lw_tbl (wsV RL 119 RX12 yX12_worth wf_X12_worth) from goodIn_app (a := [.methodLink RL 119 yX12_worth, .instanceMethod yX12_worth, .selects RX12 yX12_worth yX12_worth, .initialized RX12]) (goodIn_r [.methodLink RL 119 yX12_worth, .instanceMethod yX12_worth, .selects RX12 yX12_worth yX12_worth, .initialized RX12] [2538, 2539, 2540, 219] rfl rfl) gw_wf_X12_worth)
set_option maxRecDepth 100000 in
set_option maxHeartbeats 4000000 in
theorem gw_wf_X11_write : GoodIn lw_tbl wf_X11_write := goodIn_cons (goodIn_r [.code yX11_write cX11_write 1 (some .int)] [1852] rfl rfl) (goodIn_app (goodIn_app (goodIn_app (goodIn_app (goodIn_r wo_X11_write [771, 662, 1270, 224] rfl rfl) gw_X11) gw_X6) gw_X8) gw_x1)
set_option maxRecDepth 100000 in
set_option maxHeartbeats 4000000 in
theorem gw_wf_L_write : GoodIn lw_tbl wf_L_write := goodIn_cons (goodIn_r [.codeWith yL_write cL_write 3 (some .int) [(0, 8, 11, 15)]] [1848] rfl rfl) (goodIn_app (goodIn_r wo_L_write [1198] rfl rfl) (show GoodIn lw_tbl (wsV RL 49 RX11 yX11_write wf_X11_write) from goodIn_app (a := [.methodLink RL 49 yX11_write, .instanceMethod yX11_write, .selects RX11 yX11_write yX11_write, .initialized RX11]) (goodIn_r [.methodLink RL 49 yX11_write, .instanceMethod yX11_write, .selects RX11 yX11_write yX11_write, .initialized RX11] [1849, 1850, 1851, 207] rfl rfl) gw_wf_X11_write))
set_option maxRecDepth 100000 in
set_option maxHeartbeats 4000000 in
theorem gl_27 : GoodIn lw_tbl (va_wsS RL 120 yL_write wf_L_write) := (show GoodIn lw_tbl (va_wsS RL 120 yL_write wf_L_write) from goodIn_app (a := [.methodLink RL 120 yL_write, .static yL_write, .initialized RL]) (goodIn_r [.methodLink RL 120 yL_write, .static yL_write, .initialized RL] [1846, 1847, 206] rfl rfl) gw_wf_L_write)
set_option maxRecDepth 100000 in
set_option maxHeartbeats 4000000 in
theorem gw_wf_X12_write : GoodIn lw_tbl wf_X12_write := goodIn_cons (goodIn_r [.code yX12_write cX12_write 2 (some .int)] [2377] rfl rfl) (goodIn_app (goodIn_r wo_X12_write [1916, 1897] rfl rfl) gw_X12)
set_option maxRecDepth 100000 in
set_option maxHeartbeats 4000000 in
theorem gl_28 : GoodIn lw_tbl (wsV RL 122 RX12 yX12_write wf_X12_write) := (show GoodIn lw_tbl (wsV RL 122 RX12 yX12_write wf_X12_write) from goodIn_app (a := [.methodLink RL 122 yX12_write, .instanceMethod yX12_write, .selects RX12 yX12_write yX12_write, .initialized RX12]) (goodIn_r [.methodLink RL 122 yX12_write, .instanceMethod yX12_write, .selects RX12 yX12_write yX12_write, .initialized RX12] [2374, 2375, 2376, 219] rfl rfl) gw_wf_X12_write)
set_option maxRecDepth 100000 in
set_option maxHeartbeats 4000000 in
theorem gw_wf_X11_out : GoodIn lw_tbl wf_X11_out := goodIn_cons (goodIn_r [.code yX11_out cX11_out 5 (some .long)] [1859] rfl rfl) (goodIn_app (goodIn_app (goodIn_app (goodIn_r wo_X11_out [1620, 228, 763, 249] rfl rfl) gw_X11) gw_X8) gw_x2)
set_option maxRecDepth 100000 in
set_option maxHeartbeats 4000000 in
theorem gw_wf_L_out : GoodIn lw_tbl wf_L_out := goodIn_cons (goodIn_r [.codeWith yL_out cL_out 4 (some .int) [(0, 8, 11, 25)]] [1855] rfl rfl) (goodIn_app (goodIn_r wo_L_out [1611] rfl rfl) (show GoodIn lw_tbl (wsV RL 52 RX11 yX11_out wf_X11_out) from goodIn_app (a := [.methodLink RL 52 yX11_out, .instanceMethod yX11_out, .selects RX11 yX11_out yX11_out, .initialized RX11]) (goodIn_r [.methodLink RL 52 yX11_out, .instanceMethod yX11_out, .selects RX11 yX11_out yX11_out, .initialized RX11] [1856, 1857, 1858, 207] rfl rfl) gw_wf_X11_out))
set_option maxRecDepth 100000 in
set_option maxHeartbeats 4000000 in
theorem gl_29 : GoodIn lw_tbl (va_wsS RL 123 yL_out wf_L_out) := (show GoodIn lw_tbl (va_wsS RL 123 yL_out wf_L_out) from goodIn_app (a := [.methodLink RL 123 yL_out, .static yL_out, .initialized RL]) (goodIn_r [.methodLink RL 123 yL_out, .static yL_out, .initialized RL] [1853, 1854, 206] rfl rfl) gw_wf_L_out)
set_option maxRecDepth 100000 in
set_option maxHeartbeats 4000000 in
theorem gw_wf_X12_out : GoodIn lw_tbl wf_X12_out := goodIn_cons (goodIn_r [.code yX12_out cX12_out 5 (some .long)] [2200] rfl rfl) (goodIn_app (goodIn_app (goodIn_r wo_X12_out [1901, 1897] rfl rfl) (show GoodIn lw_tbl (va_wsS RX12 211 yX12_within wsX12_within) from goodIn_app (a := [.methodLink RX12 211 yX12_within, .static yX12_within, .initialized RX12]) (goodIn_r [.methodLink RX12 211 yX12_within, .static yX12_within, .initialized RX12] [1894, 1895, 219] rfl rfl) gw_wsX12_within)) gw_X12)
set_option maxRecDepth 100000 in
set_option maxHeartbeats 4000000 in
theorem gl_30 : GoodIn lw_tbl (wsV RL 126 RX12 yX12_out wf_X12_out) := (show GoodIn lw_tbl (wsV RL 126 RX12 yX12_out wf_X12_out) from goodIn_app (a := [.methodLink RL 126 yX12_out, .instanceMethod yX12_out, .selects RX12 yX12_out yX12_out, .initialized RX12]) (goodIn_r [.methodLink RL 126 yX12_out, .instanceMethod yX12_out, .selects RX12 yX12_out yX12_out, .initialized RX12] [2197, 2198, 2199, 219] rfl rfl) gw_wf_X12_out)
set_option maxRecDepth 100000 in
set_option maxHeartbeats 4000000 in
theorem gw_wf_X11_look : GoodIn lw_tbl wf_X11_look := goodIn_cons (goodIn_r [.code yX11_look cX11_look 2 (some .int)] [1868] rfl rfl) (goodIn_app (goodIn_app (goodIn_app (goodIn_app (goodIn_r wo_X11_look [1203, 223, 762, 249, 763, 773, 774, 775, 776, 777, 778, 771, 662] rfl rfl) gw_X11) gw_X6) gw_X8) gw_x0)
set_option maxRecDepth 100000 in
set_option maxHeartbeats 4000000 in
theorem gw_wf_L_look : GoodIn lw_tbl wf_L_look := goodIn_cons (goodIn_r [.codeWith yL_look cL_look 4 (some .int) [(0, 9, 12, 13)]] [1864] rfl rfl) (goodIn_app (goodIn_r wo_L_look [1197] rfl rfl) (show GoodIn lw_tbl (wsV RL 56 RX11 yX11_look wf_X11_look) from goodIn_app (a := [.methodLink RL 56 yX11_look, .instanceMethod yX11_look, .selects RX11 yX11_look yX11_look, .initialized RX11]) (goodIn_r [.methodLink RL 56 yX11_look, .instanceMethod yX11_look, .selects RX11 yX11_look yX11_look, .initialized RX11] [1865, 1866, 1867, 207] rfl rfl) gw_wf_X11_look))
set_option maxRecDepth 100000 in
set_option maxHeartbeats 4000000 in
theorem gl_31 : GoodIn lw_tbl (va_wsS RL 127 yL_look wf_L_look) := (show GoodIn lw_tbl (va_wsS RL 127 yL_look wf_L_look) from goodIn_app (a := [.methodLink RL 127 yL_look, .static yL_look, .initialized RL]) (goodIn_r [.methodLink RL 127 yL_look, .static yL_look, .initialized RL] [1862, 1863, 206] rfl rfl) gw_wf_L_look)
set_option maxRecDepth 100000 in
set_option maxHeartbeats 4000000 in
theorem gw_wf_X12_look : GoodIn lw_tbl wf_X12_look := goodIn_cons (goodIn_r [.code yX12_look cX12_look 3 (some .int)] [2556] rfl rfl) (goodIn_app (goodIn_app (goodIn_r wo_X12_look [1897, 1916, 1930, 1899, 1901, 1931, 1932, 1934, 1935, 1936, 1933] rfl rfl) (show GoodIn lw_tbl (va_wsS RX12 211 yX12_within wsX12_within) from goodIn_app (a := [.methodLink RX12 211 yX12_within, .static yX12_within, .initialized RX12]) (goodIn_r [.methodLink RX12 211 yX12_within, .static yX12_within, .initialized RX12] [1894, 1895, 219] rfl rfl) gw_wsX12_within)) gw_X12)
set_option maxRecDepth 100000 in
set_option maxHeartbeats 4000000 in
theorem gl_32 : GoodIn lw_tbl (wsV RL 129 RX12 yX12_look wf_X12_look) := (show GoodIn lw_tbl (wsV RL 129 RX12 yX12_look wf_X12_look) from goodIn_app (a := [.methodLink RL 129 yX12_look, .instanceMethod yX12_look, .selects RX12 yX12_look yX12_look, .initialized RX12]) (goodIn_r [.methodLink RL 129 yX12_look, .instanceMethod yX12_look, .selects RX12 yX12_look yX12_look, .initialized RX12] [2553, 2554, 2555, 219] rfl rfl) gw_wf_X12_look)
set_option maxRecDepth 100000 in
set_option maxHeartbeats 4000000 in
theorem gw_wsX11_init : GoodIn lw_tbl wsX11_init := goodIn_r _ [237, 238, 239, 240, 241, 242, 208, 762, 763, 764, 270, 271, 209, 765, 346, 347, 211, 766, 389, 390, 212, 767, 487, 488, 214, 768, 515, 516, 215, 769, 540, 541, 216, 770, 599, 600, 217, 771, 772, 244, 245, 246, 269, 247, 273, 274, 275, 311, 312, 314, 318, 319, 320, 321, 322, 276, 277, 210, 323, 278, 279, 280, 281, 286, 287, 288, 289, 290, 291, 282, 284, 0, 285, 349, 350, 351, 352, 354, 356, 358, 360, 362, 364, 365, 366, 367, 391, 392, 393, 394, 395, 396, 213, 437, 486, 438, 439, 440, 441, 442, 443, 436, 398, 399, 400, 490, 491, 492, 493, 494, 495, 496, 517, 518, 519, 520, 521, 542, 543, 544, 545, 549, 550, 551, 552, 553, 548, 602, 603, 604, 665, 672, 679, 686, 693, 695, 699, 704, 706, 708, 710, 605, 715, 607, 608, 218, 719, 610, 611, 612, 615, 617, 620, 623, 625, 658, 626, 627, 629, 630, 631, 260, 262, 264, 266, 779, 781, 783, 785, 787, 789, 791, 793, 795, 797, 799, 801, 803, 805, 807, 809, 811, 325, 327, 329, 331, 333, 335, 337, 339, 341, 343, 368, 370, 372, 374, 376, 378, 380, 382, 384, 386, 451, 453, 455, 457, 459, 461, 463, 465, 467, 469, 471, 473, 475, 477, 479, 481, 483, 500, 502, 504, 506, 508, 510, 512, 527, 529, 531, 533, 535, 537, 564, 566, 568, 570, 572, 574, 576, 578, 580, 582, 584, 586, 588, 590, 592, 594, 596, 729, 731, 733, 735, 737, 739, 741, 743, 745, 747, 749, 751, 753, 755, 757, 759, 294, 296, 298, 300, 302, 304, 306, 308, 411, 413, 415, 417, 419, 421, 423, 425, 427, 429, 633, 635, 637, 639, 641, 643, 645, 647, 649, 651, 653, 655] rfl rfl
set_option maxRecDepth 100000 in
set_option maxHeartbeats 4000000 in
theorem gl_33 : GoodIn lw_tbl (wsX11_init) := gw_wsX11_init
set_option maxRecDepth 100000 in
set_option maxHeartbeats 4000000 in
theorem gw_wsX12_init : GoodIn lw_tbl wsX12_init := goodIn_r _ [1883, 1884, 239, 240, 311, 1898, 1900, 1903, 1904, 1905, 1906, 1907, 1908, 1909, 1910, 1912, 658, 1913, 1885, 1914, 1915, 1917, 1918, 1919, 1920, 1921, 1922, 1923, 1924, 486, 1925, 1926, 1927, 1928, 1938, 1939, 1940, 1941, 1942, 1943, 1944, 1945, 1946, 1948, 1949, 1950, 1951, 1952, 1886, 1953, 1954, 1887, 269, 1955, 1956, 1957, 1959, 1960, 1961, 1965, 1966, 1967, 1968, 1969, 1970, 1983, 1984, 1986, 1987, 1988, 1990, 1888, 1890, 1891, 1892, 219, 1893, 1894, 1895, 1896, 1991, 1993, 1995, 1997, 1999, 2001, 2003, 2005, 2007, 2009, 2011, 2013, 2015, 2017, 2019, 2021, 2023, 2025, 2027, 2029, 2031, 2033, 2035, 2037, 2039, 2041, 2043, 2045, 2047, 2049, 2051, 2053, 2055, 2057, 2059, 2061, 2063, 2065, 2067, 2069, 2071, 2073, 2075, 2077, 2079, 2081, 2083, 2085, 2087, 2089, 2091, 2093, 2095, 2097, 2099, 2101, 2103, 2105, 2107, 2109, 2111, 2113, 2115, 2117, 2119, 2121, 2123, 2125, 2127, 2129, 2131, 2133, 2135, 2137, 2139, 2141, 2143, 2145, 2147, 2149, 2151, 2153, 2155, 2157, 2159, 2161, 2163, 2165, 2167, 2169, 2171, 2173, 2175, 2177] rfl rfl
set_option maxRecDepth 100000 in
set_option maxHeartbeats 4000000 in
theorem gl_34 : GoodIn lw_tbl (wsX12_init) := gw_wsX12_init
