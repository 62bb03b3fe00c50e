theorem goodIn_cons {big ws : List Cond} {c : Cond} (hc : GoodIn big [c]) (h : GoodIn big ws) : GoodIn big (c :: ws) := fun w hw => (List.mem_cons.mp hw).elim (fun e => hc w (List.mem_cons.mpr (Or.inl e))) (h w)
set_option maxRecDepth 100000 in
set_option maxHeartbeats 4000000 in
theorem gw_X0 : GoodIn lw_tbl wsX00 := goodIn_r _ [368, 370, 372, 374, 376, 378, 380, 382, 384, 386] rfl rfl
theorem in_X0 : ∀ w ∈ wsX00, w ∈ lw_tbl := fun w h => (gw_X0 w h).1
set_option maxRecDepth 100000 in
set_option maxHeartbeats 4000000 in
theorem gw_X1 : GoodIn lw_tbl wsX10 := goodIn_r _ [294, 296, 298, 300, 302, 304, 306, 308] rfl rfl
theorem in_X1 : ∀ w ∈ wsX10, w ∈ lw_tbl := fun w h => (gw_X1 w h).1
set_option maxRecDepth 100000 in
set_option maxHeartbeats 4000000 in
theorem gw_X2 : GoodIn lw_tbl wsX20 := goodIn_r _ [411, 413, 415, 417, 419, 421, 423, 425, 427, 429] rfl rfl
theorem in_X2 : ∀ w ∈ wsX20, w ∈ lw_tbl := fun w h => (gw_X2 w h).1
set_option maxRecDepth 100000 in
set_option maxHeartbeats 4000000 in
theorem gw_X3 : GoodIn lw_tbl wsX30 := goodIn_r _ [527, 529, 531, 533, 535, 537] rfl rfl
theorem in_X3 : ∀ w ∈ wsX30, w ∈ lw_tbl := fun w h => (gw_X3 w h).1
set_option maxRecDepth 100000 in
set_option maxHeartbeats 4000000 in
theorem gw_X4 : GoodIn lw_tbl wsX40 := goodIn_r _ [451, 453, 455, 457, 459, 461, 463, 465, 467, 469, 471, 473, 475, 477, 479, 481, 483] rfl rfl
theorem in_X4 : ∀ w ∈ wsX40, w ∈ lw_tbl := fun w h => (gw_X4 w h).1
set_option maxRecDepth 100000 in
set_option maxHeartbeats 4000000 in
theorem gw_X5 : GoodIn lw_tbl wsX50 := goodIn_r _ [325, 327, 329, 331, 333, 335, 337, 339, 341, 343] rfl rfl
theorem in_X5 : ∀ w ∈ wsX50, w ∈ lw_tbl := fun w h => (gw_X5 w h).1
set_option maxRecDepth 100000 in
set_option maxHeartbeats 4000000 in
theorem gw_X6 : GoodIn lw_tbl wsX60 := goodIn_r _ [729, 731, 733, 735, 737, 739, 741, 743, 745, 747, 749, 751, 753, 755, 757, 759] rfl rfl
theorem in_X6 : ∀ w ∈ wsX60, w ∈ lw_tbl := fun w h => (gw_X6 w h).1
set_option maxRecDepth 100000 in
set_option maxHeartbeats 4000000 in
theorem gw_X7 : GoodIn lw_tbl wsX70 := goodIn_r _ [500, 502, 504, 506, 508, 510, 512] rfl rfl
theorem in_X7 : ∀ w ∈ wsX70, w ∈ lw_tbl := fun w h => (gw_X7 w h).1
set_option maxRecDepth 100000 in
set_option maxHeartbeats 4000000 in
theorem gw_X8 : GoodIn lw_tbl wsX80 := goodIn_r _ [260, 262, 264, 266] rfl rfl
theorem in_X8 : ∀ w ∈ wsX80, w ∈ lw_tbl := fun w h => (gw_X8 w h).1
set_option maxRecDepth 100000 in
set_option maxHeartbeats 4000000 in
theorem gw_X9 : GoodIn lw_tbl wsX90 := goodIn_r _ [564, 566, 568, 570, 572, 574, 576, 578, 580, 582, 584, 586, 588, 590, 592, 594, 596] rfl rfl
theorem in_X9 : ∀ w ∈ wsX90, w ∈ lw_tbl := fun w h => (gw_X9 w h).1
set_option maxRecDepth 100000 in
set_option maxHeartbeats 4000000 in
theorem gw_X10 : GoodIn lw_tbl wsX100 := goodIn_r _ [633, 635, 637, 639, 641, 643, 645, 647, 649, 651, 653, 655] rfl rfl
theorem in_X10 : ∀ w ∈ wsX100, w ∈ lw_tbl := fun w h => (gw_X10 w h).1
set_option maxRecDepth 100000 in
set_option maxHeartbeats 4000000 in
theorem gw_X11 : GoodIn lw_tbl wsX110 := goodIn_r _ [779, 781, 783, 785, 787, 789, 791, 793, 795, 797, 799, 801, 803, 805, 807, 809, 811] rfl rfl
theorem in_X11 : ∀ w ∈ wsX110, w ∈ lw_tbl := fun w h => (gw_X11 w h).1
set_option maxRecDepth 100000 in
set_option maxHeartbeats 4000000 in
theorem gw_X12 : GoodIn lw_tbl wsX120 := goodIn_r _ [1991, 1993, 1995, 1997, 1999, 2001, 2003, 2005, 2007, 2009, 2011, 2013, 2015, 2017, 2019, 2021, 2023, 2025, 2027, 2029, 2031, 2033, 2035, 2037, 2039, 2041, 2043, 2045, 2047, 2049, 2051, 2053, 2055, 2057, 2059, 2061, 2063, 2065, 2067, 2069, 2071, 2073, 2075, 2077, 2079, 2081, 2083, 2085, 2087, 2089, 2091, 2093, 2095, 2097, 2099, 2101, 2103, 2105, 2107, 2109, 2111, 2113, 2115, 2117, 2119, 2121, 2123, 2125, 2127, 2129, 2131, 2133, 2135, 2137, 2139, 2141, 2143, 2145, 2147, 2149, 2151, 2153, 2155, 2157, 2159, 2161, 2163, 2165, 2167, 2169, 2171, 2173, 2175, 2177] rfl rfl
theorem in_X12 : ∀ w ∈ wsX120, w ∈ lw_tbl := fun w h => (gw_X12 w h).1
theorem wl_x0 : ∀ w ∈ (vx_atS RX11 82 "java/lang/IllegalArgumentException" ["java/lang/RuntimeException", "java/lang/Exception"]).filter goodWord, w ∈ lw_tbl := by decide +kernel
theorem gw_x0 : GoodIn lw_tbl ((vx_atS RX11 82 "java/lang/IllegalArgumentException" ["java/lang/RuntimeException", "java/lang/Exception"]).filter goodWord) := fun w h => ⟨wl_x0 w h, good_of_word (List.mem_filter.mp h).2⟩
theorem wl_x1 : ∀ w ∈ (vx_atS RX11 93 "java/lang/IllegalStateException" ["java/lang/RuntimeException", "java/lang/Exception"]).filter goodWord, w ∈ lw_tbl := by decide +kernel
theorem gw_x1 : GoodIn lw_tbl ((vx_atS RX11 93 "java/lang/IllegalStateException" ["java/lang/RuntimeException", "java/lang/Exception"]).filter goodWord) := fun w h => ⟨wl_x1 w h, good_of_word (List.mem_filter.mp h).2⟩
theorem wl_x2 : ∀ w ∈ vy_nse.filter goodWord, w ∈ lw_tbl := by decide +kernel
theorem gw_x2 : GoodIn lw_tbl (vy_nse.filter goodWord) := fun w h => ⟨wl_x2 w h, good_of_word (List.mem_filter.mp h).2⟩
