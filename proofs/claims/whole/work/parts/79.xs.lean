theorem xg_hit {i : Nat} {v : Value} {lv : xm_L} {f : Value → Prop} : xm_get ((i, v) :: lv) i f = f v := by simp [xm_get]
theorem xg_miss {i j : Nat} {v : Value} {lv : xm_L} {f : Value → Prop} (h : (j == i) = false) : xm_get ((j, v) :: lv) i f = xm_get lv i f := by simp [xm_get, h]
theorem xi_I {x : Int32} {f : Int32 → Prop} : xm_isI (.int x) f = f x := rfl
theorem xi_J {x : Int64} {f : Int64 → Prop} : xm_isJ (.long x) f = f x := rfl
theorem xi_R {x : Nat} {f : Nat → Prop} : xm_isR (.ref x) f = f x := rfl
theorem xl_i1 {x : Int32} {r : List Value} {f : Int32 → List Value → Prop} : xm_i1 (.int x :: r) f = f x r := rfl
theorem xl_i2 {x y : Int32} {r : List Value} {f : Int32 → Int32 → List Value → Prop} : xm_i2 (.int y :: .int x :: r) f = f x y r := rfl
theorem xl_l1 {x : Int64} {r : List Value} {f : Int64 → List Value → Prop} : xm_l1 (.long x :: r) f = f x r := rfl
theorem xl_l2 {x y : Int64} {r : List Value} {f : Int64 → Int64 → List Value → Prop} : xm_l2 (.long y :: .long x :: r) f = f x y r := rfl
theorem xl_li {x : Int64} {y : Int32} {r : List Value} {f : Int64 → Int32 → List Value → Prop} : xm_li (.int y :: .long x :: r) f = f x y r := rfl
theorem xl_r1 {a : Nat} {r : List Value} {f : Nat → List Value → Prop} : xm_r1 (.ref a :: r) f = f a r := rfl
theorem xl_ri {a : Nat} {i : Int32} {r : List Value} {f : Nat → Int32 → List Value → Prop} : xm_ri (.int i :: .ref a :: r) f = f a i r := rfl
theorem xl_rii {a : Nat} {i x : Int32} {r : List Value} {f : Nat → Int32 → Int32 → List Value → Prop} : xm_rii (.int x :: .int i :: .ref a :: r) f = f a i x r := rfl
theorem xl_ril {a : Nat} {i : Int32} {x : Int64} {r : List Value} {f : Nat → Int32 → Int64 → List Value → Prop} : xm_ril (.long x :: .int i :: .ref a :: r) f = f a i x r := rfl
theorem xl_v1 {v : Value} {r : List Value} {f : Value → List Value → Prop} : xm_v1 (v :: r) f = f v r := rfl
theorem xl_v2 {v w : Value} {r : List Value} {f : Value → Value → List Value → Prop} : xm_v2 (v :: w :: r) f = f v w r := rfl
theorem xl_vr {v : Value} {a : Nat} {r : List Value} {f : Value → Nat → List Value → Prop} : xm_vr (v :: .ref a :: r) f = f v a r := rfl
theorem xc_i {x : Int32} : (Value.int x).category = 1 := rfl
theorem xc_j {x : Int64} : (Value.long x).category = 2 := rfl
theorem xc_r {x : Nat} : (Value.ref x).category = 1 := rfl
theorem xc_n : Value.null.category = 1 := rfl
/-- reading what was laid -/
theorem xf_same {h : xm_H} {a j : Nat} {v : Value} : (xm_sf h a j v).2.2 a j = v := by simp [xm_sf, updV]
theorem xf_field {h : xm_H} {a j i : Nat} {v : Value} (hi : (i == j) = false) : (xm_sf h a j v).2.2 a i = h.2.2 a i := by
  have : i ≠ j := by simpa using hi
  simp [xm_sf, updV, this]
theorem xf_other {h : xm_H} {a b j i : Nat} {v : Value} (hb : (b == a) = false) : (xm_sf h a j v).2.2 b i = h.2.2 b i := by
  have : b ≠ a := by simpa using hb
  simp [xm_sf, this]
theorem xf_1 {h : xm_H} {a j : Nat} {v : Value} : (xm_sf h a j v).1 = h.1 := rfl
theorem xf_2 {h : xm_H} {a j : Nat} {v : Value} : (xm_sf h a j v).2.1 = h.2.1 := rfl
theorem xs_1 {h : xm_H} {a j : Nat} {x : Int32} : (xm_si h a j x).2.2 = h.2.2 := rfl
theorem xs_2 {h : xm_H} {a j : Nat} {x : Int32} : (xm_si h a j x).2.1 = h.2.1 := rfl
theorem xs_same {h : xm_H} {a j : Nat} {x : Int32} : (xm_si h a j x).1 a = upd (h.1 a) j x := by simp [xm_si]
theorem xs_other {h : xm_H} {a b j : Nat} {x : Int32} (hb : (b == a) = false) : (xm_si h a j x).1 b = h.1 b := by
  have : b ≠ a := by simpa using hb
  simp [xm_si, this]
theorem xj_1 {h : xm_H} {a j : Nat} {x : Int64} : (xm_sl h a j x).2.2 = h.2.2 := rfl
theorem xj_2 {h : xm_H} {a j : Nat} {x : Int64} : (xm_sl h a j x).1 = h.1 := rfl
theorem xj_same {h : xm_H} {a j : Nat} {x : Int64} : (xm_sl h a j x).2.1 a = vp_updL (h.2.1 a) j x := by simp [xm_sl]
theorem xj_other {h : xm_H} {a b j : Nat} {x : Int64} (hb : (b == a) = false) : (xm_sl h a j x).2.1 b = h.2.1 b := by
  have : b ≠ a := by simpa using hb
  simp [xm_sl, this]
theorem xz_cast {x : Nat} : @Nat.cast Int instNatCastInt (no_index (OfNat.ofNat x)) = OfNat.ofNat x := rfl
theorem xv_0 : ((0 : Fin 4) : Nat) = 0 := rfl
theorem xv_1 : ((1 : Fin 4) : Nat) = 1 := rfl
theorem xv_2 : ((2 : Fin 4) : Nat) = 2 := rfl
theorem xv_3 : ((3 : Fin 4) : Nat) = 3 := rfl
theorem sh_0 : (xe_sh XE)[0]? = some (.inr (11, 17)) := rfl
theorem sh_1 : (xe_sh XE)[1]? = some (.inr (8, 4)) := rfl
theorem sh_2 : (xe_sh XE)[2]? = some (.inl (.byte, 8192)) := rfl
theorem sh_3 : (xe_sh XE)[3]? = some (.inr (8, 4)) := rfl
theorem sh_4 : (xe_sh XE)[4]? = some (.inl (.byte, 8192)) := rfl
theorem sh_5 : (xe_sh XE)[5]? = some (.inr (8, 4)) := rfl
theorem sh_6 : (xe_sh XE)[6]? = some (.inl (.byte, 8192)) := rfl
theorem sh_7 : (xe_sh XE)[7]? = some (.inr (5, 10)) := rfl
theorem sh_8 : (xe_sh XE)[8]? = some (.inl (.int, 2000)) := rfl
theorem sh_9 : (xe_sh XE)[9]? = some (.inl (.int, 2000)) := rfl
theorem sh_10 : (xe_sh XE)[10]? = some (.inl (.int, 2000)) := rfl
theorem sh_11 : (xe_sh XE)[11]? = some (.inl (.int, 2000)) := rfl
theorem sh_12 : (xe_sh XE)[12]? = some (.inl (.int, 2000)) := rfl
theorem sh_13 : (xe_sh XE)[13]? = some (.inl (.int, 2000)) := rfl
theorem sh_14 : (xe_sh XE)[14]? = some (.inl (.int, 1024)) := rfl
theorem sh_15 : (xe_sh XE)[15]? = some (.inr (1, 8)) := rfl
theorem sh_16 : (xe_sh XE)[16]? = some (.inl (.int, 14032)) := rfl
theorem sh_17 : (xe_sh XE)[17]? = some (.inl (.int, 14032)) := rfl
theorem sh_18 : (xe_sh XE)[18]? = some (.inl (.int, 14032)) := rfl
theorem sh_19 : (xe_sh XE)[19]? = some (.inl (.int, 14032)) := rfl
theorem sh_20 : (xe_sh XE)[20]? = some (.inl (.int, 14032)) := rfl
theorem sh_21 : (xe_sh XE)[21]? = some (.inl (.int, 28064)) := rfl
theorem sh_22 : (xe_sh XE)[22]? = some (.inr (0, 10)) := rfl
theorem sh_23 : (xe_sh XE)[23]? = some (.inl (.int, 8000)) := rfl
theorem sh_24 : (xe_sh XE)[24]? = some (.inl (.int, 8000)) := rfl
theorem sh_25 : (xe_sh XE)[25]? = some (.inl (.int, 8000)) := rfl
theorem sh_26 : (xe_sh XE)[26]? = some (.inl (.int, 8000)) := rfl
theorem sh_27 : (xe_sh XE)[27]? = some (.inl (.int, 8000)) := rfl
theorem sh_28 : (xe_sh XE)[28]? = some (.inl (.int, 168)) := rfl
theorem sh_29 : (xe_sh XE)[29]? = some (.inl (.int, 8000)) := rfl
theorem sh_30 : (xe_sh XE)[30]? = some (.inl (.int, 8000)) := rfl
theorem sh_31 : (xe_sh XE)[31]? = some (.inl (.int, 189)) := rfl
theorem sh_32 : (xe_sh XE)[32]? = some (.inr (4, 17)) := rfl
theorem sh_33 : (xe_sh XE)[33]? = some (.inl (.long, 13122)) := rfl
theorem sh_34 : (xe_sh XE)[34]? = some (.inl (.int, 1600)) := rfl
theorem sh_35 : (xe_sh XE)[35]? = some (.inl (.int, 1600)) := rfl
theorem sh_36 : (xe_sh XE)[36]? = some (.inl (.int, 1600)) := rfl
theorem sh_37 : (xe_sh XE)[37]? = some (.inl (.int, 1600)) := rfl
theorem sh_38 : (xe_sh XE)[38]? = some (.inl (.int, 1600)) := rfl
theorem sh_39 : (xe_sh XE)[39]? = some (.inr (2, 10)) := rfl
theorem sh_40 : (xe_sh XE)[40]? = some (.inr (7, 7)) := rfl
theorem sh_41 : (xe_sh XE)[41]? = some (.inl (.int, 3200)) := rfl
theorem sh_42 : (xe_sh XE)[42]? = some (.inl (.int, 22656)) := rfl
theorem sh_43 : (xe_sh XE)[43]? = some (.inl (.int, 128)) := rfl
theorem sh_44 : (xe_sh XE)[44]? = some (.inl (.int, 64)) := rfl
theorem sh_45 : (xe_sh XE)[45]? = some (.inr (3, 6)) := rfl
theorem sh_46 : (xe_sh XE)[46]? = some (.inr (9, 17)) := rfl
theorem sh_47 : (xe_sh XE)[47]? = some (.inl (.int, 8192)) := rfl
theorem sh_48 : (xe_sh XE)[48]? = some (.inl (.long, 4096)) := rfl
theorem sh_49 : (xe_sh XE)[49]? = some (.inl (.int, 4096)) := rfl
theorem sh_50 : (xe_sh XE)[50]? = some (.inl (.int, 4096)) := rfl
theorem sh_51 : (xe_sh XE)[51]? = some (.inl (.int, 512)) := rfl
theorem sh_52 : (xe_sh XE)[52]? = some (.inr (6, 16)) := rfl
theorem sh_53 : (xe_sh XE)[53]? = some (.inl (.int, 2000)) := rfl
theorem sh_54 : (xe_sh XE)[54]? = some (.inl (.int, 2000)) := rfl
theorem sh_55 : (xe_sh XE)[55]? = some (.inl (.int, 2000)) := rfl
theorem sh_56 : (xe_sh XE)[56]? = some (.inl (.int, 2000)) := rfl
theorem sh_57 : (xe_sh XE)[57]? = some (.inl (.int, 2000)) := rfl
theorem sh_58 : (xe_sh XE)[58]? = some (.inl (.int, 2000)) := rfl
theorem sh_59 : (xe_sh XE)[59]? = some (.inl (.int, 2000)) := rfl
theorem sh_60 : (xe_sh XE)[60]? = some (.inl (.int, 400)) := rfl
theorem sh_61 : (xe_sh XE)[61]? = some (.inl (.int, 400)) := rfl
theorem sh_62 : (xe_sh XE)[62]? = some (.inl (.int, 400)) := rfl
theorem sh_63 : (xe_sh XE)[63]? = some (.inl (.int, 2048)) := rfl
theorem sh_64 : (xe_sh XE)[64]? = some (.inr (8, 4)) := rfl
theorem sh_65 : (xe_sh XE)[65]? = some (.inl (.byte, 8192)) := rfl
theorem sh_66 : (xe_sh XE)[66]? = some (.inr (10, 12)) := rfl
theorem sh_67 : (xe_sh XE)[67]? = some (.inl (.int, 14032)) := rfl
theorem sh_68 : (xe_sh XE)[68]? = some (.inl (.int, 14032)) := rfl
theorem sh_69 : (xe_sh XE)[69]? = some (.inl (.int, 14032)) := rfl
theorem sh_70 : (xe_sh XE)[70]? = some (.inl (.int, 14032)) := rfl
theorem sh_71 : (xe_sh XE)[71]? = some (.inl (.int, 14032)) := rfl
theorem sh_72 : (xe_sh XE)[72]? = some (.inl (.boolean, 14032)) := rfl
theorem sh_73 : (xe_sh XE)[73]? = some (.inl (.int, 14032)) := rfl
theorem sh_74 : (xe_sh XE)[74]? = some (.inl (.int, 14032)) := rfl
theorem sh_75 : (xe_sh XE)[75]? = some (.inl (.int, 2048)) := rfl
theorem sh_76 : (xe_sh XE)[76]? = some (.inl (.int, 14048)) := rfl
theorem sh_77 : (xe_sh XE)[77]? = some (.inr (6, 16)) := rfl
theorem sh_78 : (xe_sh XE)[78]? = some (.inl (.int, 2000)) := rfl
theorem sh_79 : (xe_sh XE)[79]? = some (.inl (.int, 2000)) := rfl
theorem sh_80 : (xe_sh XE)[80]? = some (.inl (.int, 2000)) := rfl
theorem sh_81 : (xe_sh XE)[81]? = some (.inl (.int, 2000)) := rfl
theorem sh_82 : (xe_sh XE)[82]? = some (.inl (.int, 2000)) := rfl
theorem sh_83 : (xe_sh XE)[83]? = some (.inl (.int, 2000)) := rfl
theorem sh_84 : (xe_sh XE)[84]? = some (.inl (.int, 2000)) := rfl
theorem sh_85 : (xe_sh XE)[85]? = some (.inl (.int, 400)) := rfl
theorem sh_86 : (xe_sh XE)[86]? = some (.inl (.int, 400)) := rfl
theorem sh_87 : (xe_sh XE)[87]? = some (.inl (.int, 400)) := rfl
theorem sh_88 : (xe_sh XE)[88]? = some (.inl (.int, 2048)) := rfl
theorem sh_89 : (xe_sh XE)[89]? = some (.inr (8, 4)) := rfl
theorem sh_90 : (xe_sh XE)[90]? = some (.inl (.byte, 8192)) := rfl
theorem sh_91 : (xe_sh XE)[91]? = some (.inr (10, 12)) := rfl
theorem sh_92 : (xe_sh XE)[92]? = some (.inl (.int, 14032)) := rfl
theorem sh_93 : (xe_sh XE)[93]? = some (.inl (.int, 14032)) := rfl
theorem sh_94 : (xe_sh XE)[94]? = some (.inl (.int, 14032)) := rfl
theorem sh_95 : (xe_sh XE)[95]? = some (.inl (.int, 14032)) := rfl
theorem sh_96 : (xe_sh XE)[96]? = some (.inl (.int, 14032)) := rfl
theorem sh_97 : (xe_sh XE)[97]? = some (.inl (.boolean, 14032)) := rfl
theorem sh_98 : (xe_sh XE)[98]? = some (.inl (.int, 14032)) := rfl
theorem sh_99 : (xe_sh XE)[99]? = some (.inl (.int, 14032)) := rfl
theorem sh_100 : (xe_sh XE)[100]? = some (.inl (.int, 2048)) := rfl
theorem sh_101 : (xe_sh XE)[101]? = some (.inl (.int, 14048)) := rfl
theorem sh_102 : (xe_sh XE)[102]? = some (.inr (12, 94)) := rfl
theorem sh_103 : (xe_sh XE)[103]? = some (.inl (.int, 8192)) := rfl
theorem sh_104 : (xe_sh XE)[104]? = some (.inl (.int, 8192)) := rfl
theorem sh_105 : (xe_sh XE)[105]? = some (.inl (.int, 2000)) := rfl
theorem sh_106 : (xe_sh XE)[106]? = some (.inl (.int, 2000)) := rfl
theorem sh_107 : (xe_sh XE)[107]? = some (.inl (.int, 2000)) := rfl
theorem sh_108 : (xe_sh XE)[108]? = some (.inl (.int, 2000)) := rfl
theorem sh_109 : (xe_sh XE)[109]? = some (.inl (.int, 2000)) := rfl
theorem sh_110 : (xe_sh XE)[110]? = some (.inl (.int, 16000)) := rfl
theorem sh_111 : (xe_sh XE)[111]? = some (.inl (.int, 2000)) := rfl
theorem sh_112 : (xe_sh XE)[112]? = some (.inl (.int, 2000)) := rfl
theorem sh_113 : (xe_sh XE)[113]? = some (.inl (.int, 2000)) := rfl
theorem sh_114 : (xe_sh XE)[114]? = some (.inl (.boolean, 2000)) := rfl
theorem sh_115 : (xe_sh XE)[115]? = some (.inl (.int, 40000)) := rfl
theorem sh_116 : (xe_sh XE)[116]? = some (.inl (.int, 40000)) := rfl
theorem sh_117 : (xe_sh XE)[117]? = some (.inl (.int, 400)) := rfl
theorem sh_118 : (xe_sh XE)[118]? = some (.inl (.int, 400)) := rfl
theorem sh_119 : (xe_sh XE)[119]? = some (.inl (.int, 400)) := rfl
theorem sh_120 : (xe_sh XE)[120]? = some (.inl (.int, 400)) := rfl
theorem sh_121 : (xe_sh XE)[121]? = some (.inl (.int, 3200)) := rfl
theorem sh_122 : (xe_sh XE)[122]? = some (.inl (.int, 400)) := rfl
theorem sh_123 : (xe_sh XE)[123]? = some (.inl (.int, 400)) := rfl
theorem sh_124 : (xe_sh XE)[124]? = some (.inl (.int, 3200)) := rfl
theorem sh_125 : (xe_sh XE)[125]? = some (.inl (.long, 400)) := rfl
theorem sh_126 : (xe_sh XE)[126]? = some (.inl (.long, 400)) := rfl
theorem sh_127 : (xe_sh XE)[127]? = some (.inl (.long, 400)) := rfl
theorem sh_128 : (xe_sh XE)[128]? = some (.inl (.int, 8192)) := rfl
theorem sh_129 : (xe_sh XE)[129]? = some (.inl (.int, 17400)) := rfl
theorem sh_130 : (xe_sh XE)[130]? = some (.inl (.int, 17400)) := rfl
theorem sh_131 : (xe_sh XE)[131]? = some (.inl (.int, 17400)) := rfl
theorem sh_132 : (xe_sh XE)[132]? = some (.inl (.int, 17400)) := rfl
theorem sh_133 : (xe_sh XE)[133]? = some (.inl (.int, 17400)) := rfl
theorem sh_134 : (xe_sh XE)[134]? = some (.inl (.int, 17400)) := rfl
theorem sh_135 : (xe_sh XE)[135]? = some (.inl (.int, 17400)) := rfl
theorem sh_136 : (xe_sh XE)[136]? = some (.inl (.int, 4096)) := rfl
theorem sh_137 : (xe_sh XE)[137]? = some (.inl (.int, 25600)) := rfl
theorem sh_138 : (xe_sh XE)[138]? = some (.inl (.int, 14200)) := rfl
theorem sh_139 : (xe_sh XE)[139]? = some (.inl (.int, 14200)) := rfl
theorem sh_140 : (xe_sh XE)[140]? = some (.inl (.int, 14200)) := rfl
theorem sh_141 : (xe_sh XE)[141]? = some (.inl (.int, 14200)) := rfl
theorem sh_142 : (xe_sh XE)[142]? = some (.inl (.int, 14200)) := rfl
theorem sh_143 : (xe_sh XE)[143]? = some (.inl (.int, 57000)) := rfl
theorem sh_144 : (xe_sh XE)[144]? = some (.inl (.int, 9)) := rfl
theorem sh_145 : (xe_sh XE)[145]? = some (.inl (.byte, 824000)) := rfl
theorem sh_146 : (xe_sh XE)[146]? = some (.inl (.long, 14)) := rfl
theorem sh_147 : (xe_sh XE)[147]? = some (.inl (.int, 8200)) := rfl
theorem sh_148 : (xe_sh XE)[148]? = some (.inl (.int, 8)) := rfl
theorem sh_149 : (xe_sh XE)[149]? = some (.inl (.int, 64)) := rfl
theorem sh_150 : (xe_sh XE)[150]? = some (.inl (.int, 8)) := rfl
theorem sh_151 : (xe_sh XE)[151]? = some (.inl (.int, 400)) := rfl
theorem sh_152 : (xe_sh XE)[152]? = some (.inl (.int, 400)) := rfl
theorem sh_153 : (xe_sh XE)[153]? = some (.inl (.int, 402)) := rfl
theorem sh_154 : (xe_sh XE)[154]? = some (.inl (.int, 402)) := rfl
theorem sh_155 : (xe_sh XE)[155]? = some (.inl (.int, 402)) := rfl
theorem sh_156 : (xe_sh XE)[156]? = some (.inl (.int, 402)) := rfl
theorem sh_157 : (xe_sh XE)[157]? = some (.inl (.long, 4100)) := rfl
theorem sh_158 : (xe_sh XE)[158]? = some (.inl (.int, 4100)) := rfl
theorem sh_159 : (xe_sh XE)[159]? = some (.inl (.int, 8200)) := rfl
theorem sh_160 : (xe_sh XE)[160]? = some (.inl (.int, 8200)) := rfl
theorem sh_161 : (xe_sh XE)[161]? = some (.inl (.int, 2000)) := rfl
theorem sh_162 : (xe_sh XE)[162]? = some (.inl (.int, 10)) := rfl
set_option maxRecDepth 100000 in
theorem xe_cnt : xe_n XE = 330 := rfl
