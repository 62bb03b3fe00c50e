/-! ===== fields that stay (by program) ===== -/
set_option maxRecDepth 20000 in
def xt_fin : List (Nat × Nat × Nat) := ((0, 0, 1) :: (0, 1, 3) :: (0, 2, 5) :: (0, 3, 7) :: (0, 4, 22) :: (0, 5, 32) :: (0, 6, 40) :: (0, 7, 45) :: (0, 8, 46) :: (1, 0, 2) :: (3, 0, 4) :: (5, 0, 6) :: (7, 0, 8) :: (7, 1, 9) :: (7, 3, 10) :: (7, 4, 11) :: (7, 5, 12) :: (7, 6, 13) :: (7, 7, 14) :: (7, 8, 15) :: (15, 0, 16) :: (15, 1, 17) :: (15, 2, 18) :: (15, 3, 19) :: (15, 4, 20) :: (15, 5, 21) :: (22, 0, 23) :: (22, 1, 24) :: (22, 2, 25) :: (22, 3, 26) :: (22, 4, 27) :: (22, 5, 28) :: (22, 6, 29) :: (22, 7, 30) :: (22, 8, 31) :: (32, 2, 22) :: (32, 3, 39) :: (32, 4, 33) :: (32, 5, 34) :: (32, 6, 35) :: (32, 7, 36) :: (32, 8, 37) :: (32, 9, 38) :: (40, 0, 41) :: (40, 1, 42) :: (40, 2, 43) :: (40, 3, 44) :: (45, 0, 7) :: (46, 1, 7) :: (46, 2, 47) :: (46, 3, 48) :: (46, 4, 49) :: (46, 5, 50) :: (46, 6, 51) :: (52, 1, 53) :: (52, 2, 54) :: (52, 3, 55) :: (52, 4, 56) :: (52, 5, 57) :: (52, 6, 58) :: (52, 7, 59) :: (52, 8, 60) :: (52, 9, 61) :: (52, 10, 62) :: (52, 11, 63) :: (52, 12, 64) :: (52, 13, 66) :: (64, 0, 65) :: (66, 1, 67) :: (66, 2, 68) :: (66, 3, 69) :: (66, 4, 70) :: (66, 5, 71) :: (66, 6, 72) :: (66, 7, 73) :: (66, 8, 74) :: (66, 9, 75) :: (66, 10, 76) :: (77, 1, 78) :: (77, 2, 79) :: (77, 3, 80) :: (77, 4, 81) :: (77, 5, 82) :: (77, 6, 83) :: (77, 7, 84) :: (77, 8, 85) :: (77, 9, 86) :: (77, 10, 87) :: (77, 11, 88) :: (77, 12, 89) :: (77, 13, 91) :: (89, 0, 90) :: (91, 1, 92) :: (91, 2, 93) :: (91, 3, 94) :: (91, 4, 95) :: (91, 5, 96) :: (91, 6, 97) :: (91, 7, 98) :: (91, 8, 99) :: (91, 9, 100) :: (91, 10, 101) :: (102, 1, 103) :: (102, 3, 104) :: (102, 6, 105) :: (102, 7, 106) :: (102, 8, 107) :: (102, 9, 108) :: (102, 10, 109) :: (102, 11, 110) :: (102, 12, 111) :: (102, 13, 112) :: (102, 15, 113) :: (102, 16, 114) :: (102, 17, 115) :: (102, 18, 116) :: (102, 20, 117) :: (102, 21, 118) :: (102, 22, 119) :: (102, 23, 120) :: (102, 24, 121) :: (102, 25, 122) :: (102, 26, 123) :: (102, 27, 124) :: (102, 28, 125) :: (102, 29, 126) :: (102, 30, 127) :: (102, 31, 128) :: (102, 41, 129) :: (102, 42, 130) :: (102, 43, 131) :: (102, 44, 132) :: (102, 45, 133) :: (102, 46, 134) :: (102, 47, 135) :: (102, 48, 136) :: (102, 49, 137) :: (102, 51, 138) :: (102, 52, 139) :: (102, 53, 140) :: (102, 54, 141) :: (102, 55, 142) :: (102, 56, 143) :: (102, 57, 144) :: (102, 58, 145) :: (102, 59, 146) :: (102, 60, 147) :: (102, 62, 148) :: (102, 63, 149) :: (102, 64, 150) :: (102, 68, 151) :: (102, 69, 152) :: (102, 70, 153) :: (102, 71, 154) :: (102, 72, 155) :: (102, 73, 156) :: (102, 86, 157) :: (102, 87, 158) :: (102, 89, 159) :: (102, 90, 160) :: (102, 91, 161) :: (102, 93, 162) :: [])
def XF (h : xm_H) : Prop := ∀ q ∈ xt_fin, h.2.2 q.1 q.2.1 = .ref q.2.2
set_option maxRecDepth 20000 in
theorem xf_0_0 {h : xm_H} (hF : XF h) : h.2.2 0 0 = .ref 1 := hF (0, 0, 1) (by decide)
set_option maxRecDepth 20000 in
theorem xf_0_1 {h : xm_H} (hF : XF h) : h.2.2 0 1 = .ref 3 := hF (0, 1, 3) (by decide)
set_option maxRecDepth 20000 in
theorem xf_0_2 {h : xm_H} (hF : XF h) : h.2.2 0 2 = .ref 5 := hF (0, 2, 5) (by decide)
set_option maxRecDepth 20000 in
theorem xf_0_3 {h : xm_H} (hF : XF h) : h.2.2 0 3 = .ref 7 := hF (0, 3, 7) (by decide)
set_option maxRecDepth 20000 in
theorem xf_0_4 {h : xm_H} (hF : XF h) : h.2.2 0 4 = .ref 22 := hF (0, 4, 22) (by decide)
set_option maxRecDepth 20000 in
theorem xf_0_5 {h : xm_H} (hF : XF h) : h.2.2 0 5 = .ref 32 := hF (0, 5, 32) (by decide)
set_option maxRecDepth 20000 in
theorem xf_0_6 {h : xm_H} (hF : XF h) : h.2.2 0 6 = .ref 40 := hF (0, 6, 40) (by decide)
set_option maxRecDepth 20000 in
theorem xf_0_7 {h : xm_H} (hF : XF h) : h.2.2 0 7 = .ref 45 := hF (0, 7, 45) (by decide)
set_option maxRecDepth 20000 in
theorem xf_0_8 {h : xm_H} (hF : XF h) : h.2.2 0 8 = .ref 46 := hF (0, 8, 46) (by decide)
set_option maxRecDepth 20000 in
theorem xf_1_0 {h : xm_H} (hF : XF h) : h.2.2 1 0 = .ref 2 := hF (1, 0, 2) (by decide)
set_option maxRecDepth 20000 in
theorem xf_3_0 {h : xm_H} (hF : XF h) : h.2.2 3 0 = .ref 4 := hF (3, 0, 4) (by decide)
set_option maxRecDepth 20000 in
theorem xf_5_0 {h : xm_H} (hF : XF h) : h.2.2 5 0 = .ref 6 := hF (5, 0, 6) (by decide)
set_option maxRecDepth 20000 in
theorem xf_7_0 {h : xm_H} (hF : XF h) : h.2.2 7 0 = .ref 8 := hF (7, 0, 8) (by decide)
set_option maxRecDepth 20000 in
theorem xf_7_1 {h : xm_H} (hF : XF h) : h.2.2 7 1 = .ref 9 := hF (7, 1, 9) (by decide)
set_option maxRecDepth 20000 in
theorem xf_7_3 {h : xm_H} (hF : XF h) : h.2.2 7 3 = .ref 10 := hF (7, 3, 10) (by decide)
set_option maxRecDepth 20000 in
theorem xf_7_4 {h : xm_H} (hF : XF h) : h.2.2 7 4 = .ref 11 := hF (7, 4, 11) (by decide)
set_option maxRecDepth 20000 in
theorem xf_7_5 {h : xm_H} (hF : XF h) : h.2.2 7 5 = .ref 12 := hF (7, 5, 12) (by decide)
set_option maxRecDepth 20000 in
theorem xf_7_6 {h : xm_H} (hF : XF h) : h.2.2 7 6 = .ref 13 := hF (7, 6, 13) (by decide)
set_option maxRecDepth 20000 in
theorem xf_7_7 {h : xm_H} (hF : XF h) : h.2.2 7 7 = .ref 14 := hF (7, 7, 14) (by decide)
set_option maxRecDepth 20000 in
theorem xf_7_8 {h : xm_H} (hF : XF h) : h.2.2 7 8 = .ref 15 := hF (7, 8, 15) (by decide)
set_option maxRecDepth 20000 in
theorem xf_15_0 {h : xm_H} (hF : XF h) : h.2.2 15 0 = .ref 16 := hF (15, 0, 16) (by decide)
set_option maxRecDepth 20000 in
theorem xf_15_1 {h : xm_H} (hF : XF h) : h.2.2 15 1 = .ref 17 := hF (15, 1, 17) (by decide)
set_option maxRecDepth 20000 in
theorem xf_15_2 {h : xm_H} (hF : XF h) : h.2.2 15 2 = .ref 18 := hF (15, 2, 18) (by decide)
set_option maxRecDepth 20000 in
theorem xf_15_3 {h : xm_H} (hF : XF h) : h.2.2 15 3 = .ref 19 := hF (15, 3, 19) (by decide)
set_option maxRecDepth 20000 in
theorem xf_15_4 {h : xm_H} (hF : XF h) : h.2.2 15 4 = .ref 20 := hF (15, 4, 20) (by decide)
set_option maxRecDepth 20000 in
theorem xf_15_5 {h : xm_H} (hF : XF h) : h.2.2 15 5 = .ref 21 := hF (15, 5, 21) (by decide)
set_option maxRecDepth 20000 in
theorem xf_22_0 {h : xm_H} (hF : XF h) : h.2.2 22 0 = .ref 23 := hF (22, 0, 23) (by decide)
set_option maxRecDepth 20000 in
theorem xf_22_1 {h : xm_H} (hF : XF h) : h.2.2 22 1 = .ref 24 := hF (22, 1, 24) (by decide)
set_option maxRecDepth 20000 in
theorem xf_22_2 {h : xm_H} (hF : XF h) : h.2.2 22 2 = .ref 25 := hF (22, 2, 25) (by decide)
set_option maxRecDepth 20000 in
theorem xf_22_3 {h : xm_H} (hF : XF h) : h.2.2 22 3 = .ref 26 := hF (22, 3, 26) (by decide)
set_option maxRecDepth 20000 in
theorem xf_22_4 {h : xm_H} (hF : XF h) : h.2.2 22 4 = .ref 27 := hF (22, 4, 27) (by decide)
set_option maxRecDepth 20000 in
theorem xf_22_5 {h : xm_H} (hF : XF h) : h.2.2 22 5 = .ref 28 := hF (22, 5, 28) (by decide)
set_option maxRecDepth 20000 in
theorem xf_22_6 {h : xm_H} (hF : XF h) : h.2.2 22 6 = .ref 29 := hF (22, 6, 29) (by decide)
set_option maxRecDepth 20000 in
theorem xf_22_7 {h : xm_H} (hF : XF h) : h.2.2 22 7 = .ref 30 := hF (22, 7, 30) (by decide)
set_option maxRecDepth 20000 in
theorem xf_22_8 {h : xm_H} (hF : XF h) : h.2.2 22 8 = .ref 31 := hF (22, 8, 31) (by decide)
set_option maxRecDepth 20000 in
theorem xf_32_2 {h : xm_H} (hF : XF h) : h.2.2 32 2 = .ref 22 := hF (32, 2, 22) (by decide)
set_option maxRecDepth 20000 in
theorem xf_32_3 {h : xm_H} (hF : XF h) : h.2.2 32 3 = .ref 39 := hF (32, 3, 39) (by decide)
set_option maxRecDepth 20000 in
theorem xf_32_4 {h : xm_H} (hF : XF h) : h.2.2 32 4 = .ref 33 := hF (32, 4, 33) (by decide)
set_option maxRecDepth 20000 in
theorem xf_32_5 {h : xm_H} (hF : XF h) : h.2.2 32 5 = .ref 34 := hF (32, 5, 34) (by decide)
set_option maxRecDepth 20000 in
theorem xf_32_6 {h : xm_H} (hF : XF h) : h.2.2 32 6 = .ref 35 := hF (32, 6, 35) (by decide)
set_option maxRecDepth 20000 in
theorem xf_32_7 {h : xm_H} (hF : XF h) : h.2.2 32 7 = .ref 36 := hF (32, 7, 36) (by decide)
set_option maxRecDepth 20000 in
theorem xf_32_8 {h : xm_H} (hF : XF h) : h.2.2 32 8 = .ref 37 := hF (32, 8, 37) (by decide)
set_option maxRecDepth 20000 in
theorem xf_32_9 {h : xm_H} (hF : XF h) : h.2.2 32 9 = .ref 38 := hF (32, 9, 38) (by decide)
set_option maxRecDepth 20000 in
theorem xf_40_0 {h : xm_H} (hF : XF h) : h.2.2 40 0 = .ref 41 := hF (40, 0, 41) (by decide)
set_option maxRecDepth 20000 in
theorem xf_40_1 {h : xm_H} (hF : XF h) : h.2.2 40 1 = .ref 42 := hF (40, 1, 42) (by decide)
set_option maxRecDepth 20000 in
theorem xf_40_2 {h : xm_H} (hF : XF h) : h.2.2 40 2 = .ref 43 := hF (40, 2, 43) (by decide)
set_option maxRecDepth 20000 in
theorem xf_40_3 {h : xm_H} (hF : XF h) : h.2.2 40 3 = .ref 44 := hF (40, 3, 44) (by decide)
set_option maxRecDepth 20000 in
theorem xf_45_0 {h : xm_H} (hF : XF h) : h.2.2 45 0 = .ref 7 := hF (45, 0, 7) (by decide)
set_option maxRecDepth 20000 in
theorem xf_46_1 {h : xm_H} (hF : XF h) : h.2.2 46 1 = .ref 7 := hF (46, 1, 7) (by decide)
set_option maxRecDepth 20000 in
theorem xf_46_2 {h : xm_H} (hF : XF h) : h.2.2 46 2 = .ref 47 := hF (46, 2, 47) (by decide)
set_option maxRecDepth 20000 in
theorem xf_46_3 {h : xm_H} (hF : XF h) : h.2.2 46 3 = .ref 48 := hF (46, 3, 48) (by decide)
set_option maxRecDepth 20000 in
theorem xf_46_4 {h : xm_H} (hF : XF h) : h.2.2 46 4 = .ref 49 := hF (46, 4, 49) (by decide)
set_option maxRecDepth 20000 in
theorem xf_46_5 {h : xm_H} (hF : XF h) : h.2.2 46 5 = .ref 50 := hF (46, 5, 50) (by decide)
set_option maxRecDepth 20000 in
theorem xf_46_6 {h : xm_H} (hF : XF h) : h.2.2 46 6 = .ref 51 := hF (46, 6, 51) (by decide)
set_option maxRecDepth 20000 in
theorem xf_52_1 {h : xm_H} (hF : XF h) : h.2.2 52 1 = .ref 53 := hF (52, 1, 53) (by decide)
set_option maxRecDepth 20000 in
theorem xf_52_2 {h : xm_H} (hF : XF h) : h.2.2 52 2 = .ref 54 := hF (52, 2, 54) (by decide)
set_option maxRecDepth 20000 in
theorem xf_52_3 {h : xm_H} (hF : XF h) : h.2.2 52 3 = .ref 55 := hF (52, 3, 55) (by decide)
set_option maxRecDepth 20000 in
theorem xf_52_4 {h : xm_H} (hF : XF h) : h.2.2 52 4 = .ref 56 := hF (52, 4, 56) (by decide)
set_option maxRecDepth 20000 in
theorem xf_52_5 {h : xm_H} (hF : XF h) : h.2.2 52 5 = .ref 57 := hF (52, 5, 57) (by decide)
set_option maxRecDepth 20000 in
theorem xf_52_6 {h : xm_H} (hF : XF h) : h.2.2 52 6 = .ref 58 := hF (52, 6, 58) (by decide)
set_option maxRecDepth 20000 in
theorem xf_52_7 {h : xm_H} (hF : XF h) : h.2.2 52 7 = .ref 59 := hF (52, 7, 59) (by decide)
set_option maxRecDepth 20000 in
theorem xf_52_8 {h : xm_H} (hF : XF h) : h.2.2 52 8 = .ref 60 := hF (52, 8, 60) (by decide)
set_option maxRecDepth 20000 in
theorem xf_52_9 {h : xm_H} (hF : XF h) : h.2.2 52 9 = .ref 61 := hF (52, 9, 61) (by decide)
set_option maxRecDepth 20000 in
theorem xf_52_10 {h : xm_H} (hF : XF h) : h.2.2 52 10 = .ref 62 := hF (52, 10, 62) (by decide)
set_option maxRecDepth 20000 in
theorem xf_52_11 {h : xm_H} (hF : XF h) : h.2.2 52 11 = .ref 63 := hF (52, 11, 63) (by decide)
set_option maxRecDepth 20000 in
theorem xf_52_12 {h : xm_H} (hF : XF h) : h.2.2 52 12 = .ref 64 := hF (52, 12, 64) (by decide)
set_option maxRecDepth 20000 in
theorem xf_52_13 {h : xm_H} (hF : XF h) : h.2.2 52 13 = .ref 66 := hF (52, 13, 66) (by decide)
set_option maxRecDepth 20000 in
theorem xf_64_0 {h : xm_H} (hF : XF h) : h.2.2 64 0 = .ref 65 := hF (64, 0, 65) (by decide)
set_option maxRecDepth 20000 in
theorem xf_66_1 {h : xm_H} (hF : XF h) : h.2.2 66 1 = .ref 67 := hF (66, 1, 67) (by decide)
set_option maxRecDepth 20000 in
theorem xf_66_2 {h : xm_H} (hF : XF h) : h.2.2 66 2 = .ref 68 := hF (66, 2, 68) (by decide)
set_option maxRecDepth 20000 in
theorem xf_66_3 {h : xm_H} (hF : XF h) : h.2.2 66 3 = .ref 69 := hF (66, 3, 69) (by decide)
set_option maxRecDepth 20000 in
theorem xf_66_4 {h : xm_H} (hF : XF h) : h.2.2 66 4 = .ref 70 := hF (66, 4, 70) (by decide)
set_option maxRecDepth 20000 in
theorem xf_66_5 {h : xm_H} (hF : XF h) : h.2.2 66 5 = .ref 71 := hF (66, 5, 71) (by decide)
set_option maxRecDepth 20000 in
theorem xf_66_6 {h : xm_H} (hF : XF h) : h.2.2 66 6 = .ref 72 := hF (66, 6, 72) (by decide)
set_option maxRecDepth 20000 in
theorem xf_66_7 {h : xm_H} (hF : XF h) : h.2.2 66 7 = .ref 73 := hF (66, 7, 73) (by decide)
set_option maxRecDepth 20000 in
theorem xf_66_8 {h : xm_H} (hF : XF h) : h.2.2 66 8 = .ref 74 := hF (66, 8, 74) (by decide)
set_option maxRecDepth 20000 in
theorem xf_66_9 {h : xm_H} (hF : XF h) : h.2.2 66 9 = .ref 75 := hF (66, 9, 75) (by decide)
set_option maxRecDepth 20000 in
theorem xf_66_10 {h : xm_H} (hF : XF h) : h.2.2 66 10 = .ref 76 := hF (66, 10, 76) (by decide)
set_option maxRecDepth 20000 in
theorem xf_77_1 {h : xm_H} (hF : XF h) : h.2.2 77 1 = .ref 78 := hF (77, 1, 78) (by decide)
set_option maxRecDepth 20000 in
theorem xf_77_2 {h : xm_H} (hF : XF h) : h.2.2 77 2 = .ref 79 := hF (77, 2, 79) (by decide)
set_option maxRecDepth 20000 in
theorem xf_77_3 {h : xm_H} (hF : XF h) : h.2.2 77 3 = .ref 80 := hF (77, 3, 80) (by decide)
set_option maxRecDepth 20000 in
theorem xf_77_4 {h : xm_H} (hF : XF h) : h.2.2 77 4 = .ref 81 := hF (77, 4, 81) (by decide)
set_option maxRecDepth 20000 in
theorem xf_77_5 {h : xm_H} (hF : XF h) : h.2.2 77 5 = .ref 82 := hF (77, 5, 82) (by decide)
set_option maxRecDepth 20000 in
theorem xf_77_6 {h : xm_H} (hF : XF h) : h.2.2 77 6 = .ref 83 := hF (77, 6, 83) (by decide)
set_option maxRecDepth 20000 in
theorem xf_77_7 {h : xm_H} (hF : XF h) : h.2.2 77 7 = .ref 84 := hF (77, 7, 84) (by decide)
set_option maxRecDepth 20000 in
theorem xf_77_8 {h : xm_H} (hF : XF h) : h.2.2 77 8 = .ref 85 := hF (77, 8, 85) (by decide)
set_option maxRecDepth 20000 in
theorem xf_77_9 {h : xm_H} (hF : XF h) : h.2.2 77 9 = .ref 86 := hF (77, 9, 86) (by decide)
set_option maxRecDepth 20000 in
theorem xf_77_10 {h : xm_H} (hF : XF h) : h.2.2 77 10 = .ref 87 := hF (77, 10, 87) (by decide)
set_option maxRecDepth 20000 in
theorem xf_77_11 {h : xm_H} (hF : XF h) : h.2.2 77 11 = .ref 88 := hF (77, 11, 88) (by decide)
set_option maxRecDepth 20000 in
theorem xf_77_12 {h : xm_H} (hF : XF h) : h.2.2 77 12 = .ref 89 := hF (77, 12, 89) (by decide)
set_option maxRecDepth 20000 in
theorem xf_77_13 {h : xm_H} (hF : XF h) : h.2.2 77 13 = .ref 91 := hF (77, 13, 91) (by decide)
set_option maxRecDepth 20000 in
theorem xf_89_0 {h : xm_H} (hF : XF h) : h.2.2 89 0 = .ref 90 := hF (89, 0, 90) (by decide)
set_option maxRecDepth 20000 in
theorem xf_91_1 {h : xm_H} (hF : XF h) : h.2.2 91 1 = .ref 92 := hF (91, 1, 92) (by decide)
set_option maxRecDepth 20000 in
theorem xf_91_2 {h : xm_H} (hF : XF h) : h.2.2 91 2 = .ref 93 := hF (91, 2, 93) (by decide)
set_option maxRecDepth 20000 in
theorem xf_91_3 {h : xm_H} (hF : XF h) : h.2.2 91 3 = .ref 94 := hF (91, 3, 94) (by decide)
set_option maxRecDepth 20000 in
theorem xf_91_4 {h : xm_H} (hF : XF h) : h.2.2 91 4 = .ref 95 := hF (91, 4, 95) (by decide)
set_option maxRecDepth 20000 in
theorem xf_91_5 {h : xm_H} (hF : XF h) : h.2.2 91 5 = .ref 96 := hF (91, 5, 96) (by decide)
set_option maxRecDepth 20000 in
theorem xf_91_6 {h : xm_H} (hF : XF h) : h.2.2 91 6 = .ref 97 := hF (91, 6, 97) (by decide)
set_option maxRecDepth 20000 in
theorem xf_91_7 {h : xm_H} (hF : XF h) : h.2.2 91 7 = .ref 98 := hF (91, 7, 98) (by decide)
set_option maxRecDepth 20000 in
theorem xf_91_8 {h : xm_H} (hF : XF h) : h.2.2 91 8 = .ref 99 := hF (91, 8, 99) (by decide)
set_option maxRecDepth 20000 in
theorem xf_91_9 {h : xm_H} (hF : XF h) : h.2.2 91 9 = .ref 100 := hF (91, 9, 100) (by decide)
set_option maxRecDepth 20000 in
theorem xf_91_10 {h : xm_H} (hF : XF h) : h.2.2 91 10 = .ref 101 := hF (91, 10, 101) (by decide)
set_option maxRecDepth 20000 in
theorem xf_102_1 {h : xm_H} (hF : XF h) : h.2.2 102 1 = .ref 103 := hF (102, 1, 103) (by decide)
set_option maxRecDepth 20000 in
theorem xf_102_3 {h : xm_H} (hF : XF h) : h.2.2 102 3 = .ref 104 := hF (102, 3, 104) (by decide)
set_option maxRecDepth 20000 in
theorem xf_102_6 {h : xm_H} (hF : XF h) : h.2.2 102 6 = .ref 105 := hF (102, 6, 105) (by decide)
set_option maxRecDepth 20000 in
theorem xf_102_7 {h : xm_H} (hF : XF h) : h.2.2 102 7 = .ref 106 := hF (102, 7, 106) (by decide)
set_option maxRecDepth 20000 in
theorem xf_102_8 {h : xm_H} (hF : XF h) : h.2.2 102 8 = .ref 107 := hF (102, 8, 107) (by decide)
set_option maxRecDepth 20000 in
theorem xf_102_9 {h : xm_H} (hF : XF h) : h.2.2 102 9 = .ref 108 := hF (102, 9, 108) (by decide)
set_option maxRecDepth 20000 in
theorem xf_102_10 {h : xm_H} (hF : XF h) : h.2.2 102 10 = .ref 109 := hF (102, 10, 109) (by decide)
set_option maxRecDepth 20000 in
theorem xf_102_11 {h : xm_H} (hF : XF h) : h.2.2 102 11 = .ref 110 := hF (102, 11, 110) (by decide)
set_option maxRecDepth 20000 in
theorem xf_102_12 {h : xm_H} (hF : XF h) : h.2.2 102 12 = .ref 111 := hF (102, 12, 111) (by decide)
set_option maxRecDepth 20000 in
theorem xf_102_13 {h : xm_H} (hF : XF h) : h.2.2 102 13 = .ref 112 := hF (102, 13, 112) (by decide)
set_option maxRecDepth 20000 in
theorem xf_102_15 {h : xm_H} (hF : XF h) : h.2.2 102 15 = .ref 113 := hF (102, 15, 113) (by decide)
set_option maxRecDepth 20000 in
theorem xf_102_16 {h : xm_H} (hF : XF h) : h.2.2 102 16 = .ref 114 := hF (102, 16, 114) (by decide)
set_option maxRecDepth 20000 in
theorem xf_102_17 {h : xm_H} (hF : XF h) : h.2.2 102 17 = .ref 115 := hF (102, 17, 115) (by decide)
set_option maxRecDepth 20000 in
theorem xf_102_18 {h : xm_H} (hF : XF h) : h.2.2 102 18 = .ref 116 := hF (102, 18, 116) (by decide)
set_option maxRecDepth 20000 in
theorem xf_102_20 {h : xm_H} (hF : XF h) : h.2.2 102 20 = .ref 117 := hF (102, 20, 117) (by decide)
set_option maxRecDepth 20000 in
theorem xf_102_21 {h : xm_H} (hF : XF h) : h.2.2 102 21 = .ref 118 := hF (102, 21, 118) (by decide)
set_option maxRecDepth 20000 in
theorem xf_102_22 {h : xm_H} (hF : XF h) : h.2.2 102 22 = .ref 119 := hF (102, 22, 119) (by decide)
set_option maxRecDepth 20000 in
theorem xf_102_23 {h : xm_H} (hF : XF h) : h.2.2 102 23 = .ref 120 := hF (102, 23, 120) (by decide)
set_option maxRecDepth 20000 in
theorem xf_102_24 {h : xm_H} (hF : XF h) : h.2.2 102 24 = .ref 121 := hF (102, 24, 121) (by decide)
set_option maxRecDepth 20000 in
theorem xf_102_25 {h : xm_H} (hF : XF h) : h.2.2 102 25 = .ref 122 := hF (102, 25, 122) (by decide)
set_option maxRecDepth 20000 in
theorem xf_102_26 {h : xm_H} (hF : XF h) : h.2.2 102 26 = .ref 123 := hF (102, 26, 123) (by decide)
set_option maxRecDepth 20000 in
theorem xf_102_27 {h : xm_H} (hF : XF h) : h.2.2 102 27 = .ref 124 := hF (102, 27, 124) (by decide)
set_option maxRecDepth 20000 in
theorem xf_102_28 {h : xm_H} (hF : XF h) : h.2.2 102 28 = .ref 125 := hF (102, 28, 125) (by decide)
set_option maxRecDepth 20000 in
theorem xf_102_29 {h : xm_H} (hF : XF h) : h.2.2 102 29 = .ref 126 := hF (102, 29, 126) (by decide)
set_option maxRecDepth 20000 in
theorem xf_102_30 {h : xm_H} (hF : XF h) : h.2.2 102 30 = .ref 127 := hF (102, 30, 127) (by decide)
set_option maxRecDepth 20000 in
theorem xf_102_31 {h : xm_H} (hF : XF h) : h.2.2 102 31 = .ref 128 := hF (102, 31, 128) (by decide)
set_option maxRecDepth 20000 in
theorem xf_102_41 {h : xm_H} (hF : XF h) : h.2.2 102 41 = .ref 129 := hF (102, 41, 129) (by decide)
set_option maxRecDepth 20000 in
theorem xf_102_42 {h : xm_H} (hF : XF h) : h.2.2 102 42 = .ref 130 := hF (102, 42, 130) (by decide)
set_option maxRecDepth 20000 in
theorem xf_102_43 {h : xm_H} (hF : XF h) : h.2.2 102 43 = .ref 131 := hF (102, 43, 131) (by decide)
set_option maxRecDepth 20000 in
theorem xf_102_44 {h : xm_H} (hF : XF h) : h.2.2 102 44 = .ref 132 := hF (102, 44, 132) (by decide)
set_option maxRecDepth 20000 in
theorem xf_102_45 {h : xm_H} (hF : XF h) : h.2.2 102 45 = .ref 133 := hF (102, 45, 133) (by decide)
set_option maxRecDepth 20000 in
theorem xf_102_46 {h : xm_H} (hF : XF h) : h.2.2 102 46 = .ref 134 := hF (102, 46, 134) (by decide)
set_option maxRecDepth 20000 in
theorem xf_102_47 {h : xm_H} (hF : XF h) : h.2.2 102 47 = .ref 135 := hF (102, 47, 135) (by decide)
set_option maxRecDepth 20000 in
theorem xf_102_48 {h : xm_H} (hF : XF h) : h.2.2 102 48 = .ref 136 := hF (102, 48, 136) (by decide)
set_option maxRecDepth 20000 in
theorem xf_102_49 {h : xm_H} (hF : XF h) : h.2.2 102 49 = .ref 137 := hF (102, 49, 137) (by decide)
set_option maxRecDepth 20000 in
theorem xf_102_51 {h : xm_H} (hF : XF h) : h.2.2 102 51 = .ref 138 := hF (102, 51, 138) (by decide)
set_option maxRecDepth 20000 in
theorem xf_102_52 {h : xm_H} (hF : XF h) : h.2.2 102 52 = .ref 139 := hF (102, 52, 139) (by decide)
set_option maxRecDepth 20000 in
theorem xf_102_53 {h : xm_H} (hF : XF h) : h.2.2 102 53 = .ref 140 := hF (102, 53, 140) (by decide)
set_option maxRecDepth 20000 in
theorem xf_102_54 {h : xm_H} (hF : XF h) : h.2.2 102 54 = .ref 141 := hF (102, 54, 141) (by decide)
set_option maxRecDepth 20000 in
theorem xf_102_55 {h : xm_H} (hF : XF h) : h.2.2 102 55 = .ref 142 := hF (102, 55, 142) (by decide)
set_option maxRecDepth 20000 in
theorem xf_102_56 {h : xm_H} (hF : XF h) : h.2.2 102 56 = .ref 143 := hF (102, 56, 143) (by decide)
set_option maxRecDepth 20000 in
theorem xf_102_57 {h : xm_H} (hF : XF h) : h.2.2 102 57 = .ref 144 := hF (102, 57, 144) (by decide)
set_option maxRecDepth 20000 in
theorem xf_102_58 {h : xm_H} (hF : XF h) : h.2.2 102 58 = .ref 145 := hF (102, 58, 145) (by decide)
set_option maxRecDepth 20000 in
theorem xf_102_59 {h : xm_H} (hF : XF h) : h.2.2 102 59 = .ref 146 := hF (102, 59, 146) (by decide)
set_option maxRecDepth 20000 in
theorem xf_102_60 {h : xm_H} (hF : XF h) : h.2.2 102 60 = .ref 147 := hF (102, 60, 147) (by decide)
set_option maxRecDepth 20000 in
theorem xf_102_62 {h : xm_H} (hF : XF h) : h.2.2 102 62 = .ref 148 := hF (102, 62, 148) (by decide)
set_option maxRecDepth 20000 in
theorem xf_102_63 {h : xm_H} (hF : XF h) : h.2.2 102 63 = .ref 149 := hF (102, 63, 149) (by decide)
set_option maxRecDepth 20000 in
theorem xf_102_64 {h : xm_H} (hF : XF h) : h.2.2 102 64 = .ref 150 := hF (102, 64, 150) (by decide)
set_option maxRecDepth 20000 in
theorem xf_102_68 {h : xm_H} (hF : XF h) : h.2.2 102 68 = .ref 151 := hF (102, 68, 151) (by decide)
set_option maxRecDepth 20000 in
theorem xf_102_69 {h : xm_H} (hF : XF h) : h.2.2 102 69 = .ref 152 := hF (102, 69, 152) (by decide)
set_option maxRecDepth 20000 in
theorem xf_102_70 {h : xm_H} (hF : XF h) : h.2.2 102 70 = .ref 153 := hF (102, 70, 153) (by decide)
set_option maxRecDepth 20000 in
theorem xf_102_71 {h : xm_H} (hF : XF h) : h.2.2 102 71 = .ref 154 := hF (102, 71, 154) (by decide)
set_option maxRecDepth 20000 in
theorem xf_102_72 {h : xm_H} (hF : XF h) : h.2.2 102 72 = .ref 155 := hF (102, 72, 155) (by decide)
set_option maxRecDepth 20000 in
theorem xf_102_73 {h : xm_H} (hF : XF h) : h.2.2 102 73 = .ref 156 := hF (102, 73, 156) (by decide)
set_option maxRecDepth 20000 in
theorem xf_102_86 {h : xm_H} (hF : XF h) : h.2.2 102 86 = .ref 157 := hF (102, 86, 157) (by decide)
set_option maxRecDepth 20000 in
theorem xf_102_87 {h : xm_H} (hF : XF h) : h.2.2 102 87 = .ref 158 := hF (102, 87, 158) (by decide)
set_option maxRecDepth 20000 in
theorem xf_102_89 {h : xm_H} (hF : XF h) : h.2.2 102 89 = .ref 159 := hF (102, 89, 159) (by decide)
set_option maxRecDepth 20000 in
theorem xf_102_90 {h : xm_H} (hF : XF h) : h.2.2 102 90 = .ref 160 := hF (102, 90, 160) (by decide)
set_option maxRecDepth 20000 in
theorem xf_102_91 {h : xm_H} (hF : XF h) : h.2.2 102 91 = .ref 161 := hF (102, 91, 161) (by decide)
set_option maxRecDepth 20000 in
theorem xf_102_93 {h : xm_H} (hF : XF h) : h.2.2 102 93 = .ref 162 := hF (102, 93, 162) (by decide)
def xt_nofin (a j : Nat) : Bool := xt_fin.all (fun q => !(q.1 == a && q.2.1 == j))
theorem XF_sf {h : xm_H} {a j : Nat} {v : Value} (hn : xt_nofin a j = true) (hF : XF h) : XF (xm_sf h a j v) := by
  intro q hq
  have h1 := List.all_eq_true.mp hn q hq
  rw [← hF q hq]
  by_cases h2 : q.1 = a
  · by_cases h3 : q.2.1 = j
    · rw [h2, h3] at h1
      simp at h1
    · rw [h2]
      simp [xm_sf, updV, h3]
  · simp [xm_sf, h2]
theorem XF_to {h h' : xm_H} (he : ∀ q ∈ xt_fin, h'.2.2 q.1 q.2.1 = h.2.2 q.1 q.2.1) (hF : XF h) : XF h' := fun q hq => (he q hq).trans (hF q hq)
