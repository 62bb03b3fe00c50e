theorem xg_hit {i : Nat} {v : Value} {lv : xm_L} {f : Value → Prop} : xm_get ((i, v) :: lv) i f = f v := by simp [xm_get]
theorem xg_miss {i j : Nat} {v : Value} {lv : xm_L} {f : Value → Prop} (h : (j == i) = false) : xm_get ((j, v) :: lv) i f = xm_get lv i f := by simp [xm_get, h]
theorem xi_I {x : Int32} {f : Int32 → Prop} : xm_isI (.int x) f = f x := rfl
theorem xi_J {x : Int64} {f : Int64 → Prop} : xm_isJ (.long x) f = f x := rfl
theorem xi_R {x : Nat} {f : Nat → Prop} : xm_isR (.ref x) f = f x := rfl
theorem xl_i1 {x : Int32} {r : List Value} {f : Int32 → List Value → Prop} : xm_i1 (.int x :: r) f = f x r := rfl
theorem xl_i2 {x y : Int32} {r : List Value} {f : Int32 → Int32 → List Value → Prop} : xm_i2 (.int y :: .int x :: r) f = f x y r := rfl
theorem xl_l1 {x : Int64} {r : List Value} {f : Int64 → List Value → Prop} : xm_l1 (.long x :: r) f = f x r := rfl
theorem xl_l2 {x y : Int64} {r : List Value} {f : Int64 → Int64 → List Value → Prop} : xm_l2 (.long y :: .long x :: r) f = f x y r := rfl
theorem xl_li {x : Int64} {y : Int32} {r : List Value} {f : Int64 → Int32 → List Value → Prop} : xm_li (.int y :: .long x :: r) f = f x y r := rfl
theorem xl_r1 {a : Nat} {r : List Value} {f : Nat → List Value → Prop} : xm_r1 (.ref a :: r) f = f a r := rfl
theorem xl_ri {a : Nat} {i : Int32} {r : List Value} {f : Nat → Int32 → List Value → Prop} : xm_ri (.int i :: .ref a :: r) f = f a i r := rfl
theorem xl_rii {a : Nat} {i x : Int32} {r : List Value} {f : Nat → Int32 → Int32 → List Value → Prop} : xm_rii (.int x :: .int i :: .ref a :: r) f = f a i x r := rfl
theorem xl_ril {a : Nat} {i : Int32} {x : Int64} {r : List Value} {f : Nat → Int32 → Int64 → List Value → Prop} : xm_ril (.long x :: .int i :: .ref a :: r) f = f a i x r := rfl
theorem xl_v1 {v : Value} {r : List Value} {f : Value → List Value → Prop} : xm_v1 (v :: r) f = f v r := rfl
theorem xl_v2 {v w : Value} {r : List Value} {f : Value → Value → List Value → Prop} : xm_v2 (v :: w :: r) f = f v w r := rfl
theorem xl_vr {v : Value} {a : Nat} {r : List Value} {f : Value → Nat → List Value → Prop} : xm_vr (v :: .ref a :: r) f = f v a r := rfl
theorem xc_i {x : Int32} : (Value.int x).category = 1 := rfl
theorem xc_j {x : Int64} : (Value.long x).category = 2 := rfl
theorem xc_r {x : Nat} : (Value.ref x).category = 1 := rfl
theorem xc_n : Value.null.category = 1 := rfl
/-- reading what was laid -/
theorem xf_same {h : xm_H} {a j : Nat} {v : Value} : (xm_sf h a j v).2.2 a j = v := by simp [xm_sf, updV]
theorem xf_field {h : xm_H} {a j i : Nat} {v : Value} (hi : (i == j) = false) : (xm_sf h a j v).2.2 a i = h.2.2 a i := by
  have : i ≠ j := by simpa using hi
  simp [xm_sf, updV, this]
theorem xf_other {h : xm_H} {a b j i : Nat} {v : Value} (hb : (b == a) = false) : (xm_sf h a j v).2.2 b i = h.2.2 b i := by
  have : b ≠ a := by simpa using hb
  simp [xm_sf, this]
theorem xf_1 {h : xm_H} {a j : Nat} {v : Value} : (xm_sf h a j v).1 = h.1 := rfl
theorem xf_2 {h : xm_H} {a j : Nat} {v : Value} : (xm_sf h a j v).2.1 = h.2.1 := rfl
theorem xs_1 {h : xm_H} {a j : Nat} {x : Int32} : (xm_si h a j x).2.2 = h.2.2 := rfl
theorem xs_2 {h : xm_H} {a j : Nat} {x : Int32} : (xm_si h a j x).2.1 = h.2.1 := rfl
theorem xs_same {h : xm_H} {a j : Nat} {x : Int32} : (xm_si h a j x).1 a = upd (h.1 a) j x := by simp [xm_si]
theorem xs_other {h : xm_H} {a b j : Nat} {x : Int32} (hb : (b == a) = false) : (xm_si h a j x).1 b = h.1 b := by
  have : b ≠ a := by simpa using hb
  simp [xm_si, this]
theorem xj_1 {h : xm_H} {a j : Nat} {x : Int64} : (xm_sl h a j x).2.2 = h.2.2 := rfl
theorem xj_2 {h : xm_H} {a j : Nat} {x : Int64} : (xm_sl h a j x).1 = h.1 := rfl
theorem xj_same {h : xm_H} {a j : Nat} {x : Int64} : (xm_sl h a j x).2.1 a = vp_updL (h.2.1 a) j x := by simp [xm_sl]
theorem xj_other {h : xm_H} {a b j : Nat} {x : Int64} (hb : (b == a) = false) : (xm_sl h a j x).2.1 b = h.2.1 b := by
  have : b ≠ a := by simpa using hb
  simp [xm_sl, this]
theorem xz_cast {x : Nat} : @Nat.cast Int instNatCastInt (no_index (OfNat.ofNat x)) = OfNat.ofNat x := rfl
theorem xv_0 : ((0 : Fin 4) : Nat) = 0 := rfl
theorem xv_1 : ((1 : Fin 4) : Nat) = 1 := rfl
theorem xv_2 : ((2 : Fin 4) : Nat) = 2 := rfl
theorem xv_3 : ((3 : Fin 4) : Nat) = 3 := rfl
theorem sh_0 {sc : xm_Sc} : (xe_sh (XE sc))[0]? = some (.inr (11, 17)) := rfl
theorem sh_1 {sc : xm_Sc} : (xe_sh (XE sc))[1]? = some (.inr (8, 4)) := rfl
theorem sh_2 {sc : xm_Sc} : (xe_sh (XE sc))[2]? = some (.inl (.byte, 8192)) := rfl
theorem sh_3 {sc : xm_Sc} : (xe_sh (XE sc))[3]? = some (.inr (8, 4)) := rfl
theorem sh_4 {sc : xm_Sc} : (xe_sh (XE sc))[4]? = some (.inl (.byte, 8192)) := rfl
theorem sh_5 {sc : xm_Sc} : (xe_sh (XE sc))[5]? = some (.inr (8, 4)) := rfl
theorem sh_6 {sc : xm_Sc} : (xe_sh (XE sc))[6]? = some (.inl (.byte, 8192)) := rfl
theorem sh_7 {sc : xm_Sc} : (xe_sh (XE sc))[7]? = some (.inr (5, 10)) := rfl
theorem sh_8 {sc : xm_Sc} : (xe_sh (XE sc))[8]? = some (.inl (.int, 2000)) := rfl
theorem sh_9 {sc : xm_Sc} : (xe_sh (XE sc))[9]? = some (.inl (.int, 2000)) := rfl
theorem sh_10 {sc : xm_Sc} : (xe_sh (XE sc))[10]? = some (.inl (.int, 2000)) := rfl
theorem sh_11 {sc : xm_Sc} : (xe_sh (XE sc))[11]? = some (.inl (.int, 2000)) := rfl
theorem sh_12 {sc : xm_Sc} : (xe_sh (XE sc))[12]? = some (.inl (.int, 2000)) := rfl
theorem sh_13 {sc : xm_Sc} : (xe_sh (XE sc))[13]? = some (.inl (.int, 2000)) := rfl
theorem sh_14 {sc : xm_Sc} : (xe_sh (XE sc))[14]? = some (.inl (.int, 1024)) := rfl
theorem sh_15 {sc : xm_Sc} : (xe_sh (XE sc))[15]? = some (.inr (1, 8)) := rfl
theorem sh_16 {sc : xm_Sc} : (xe_sh (XE sc))[16]? = some (.inl (.int, 14032)) := rfl
theorem sh_17 {sc : xm_Sc} : (xe_sh (XE sc))[17]? = some (.inl (.int, 14032)) := rfl
theorem sh_18 {sc : xm_Sc} : (xe_sh (XE sc))[18]? = some (.inl (.int, 14032)) := rfl
theorem sh_19 {sc : xm_Sc} : (xe_sh (XE sc))[19]? = some (.inl (.int, 14032)) := rfl
theorem sh_20 {sc : xm_Sc} : (xe_sh (XE sc))[20]? = some (.inl (.int, 14032)) := rfl
theorem sh_21 {sc : xm_Sc} : (xe_sh (XE sc))[21]? = some (.inl (.int, 28064)) := rfl
theorem sh_22 {sc : xm_Sc} : (xe_sh (XE sc))[22]? = some (.inr (0, 10)) := rfl
theorem sh_23 {sc : xm_Sc} : (xe_sh (XE sc))[23]? = some (.inl (.int, 8000)) := rfl
theorem sh_24 {sc : xm_Sc} : (xe_sh (XE sc))[24]? = some (.inl (.int, 8000)) := rfl
theorem sh_25 {sc : xm_Sc} : (xe_sh (XE sc))[25]? = some (.inl (.int, 8000)) := rfl
theorem sh_26 {sc : xm_Sc} : (xe_sh (XE sc))[26]? = some (.inl (.int, 8000)) := rfl
theorem sh_27 {sc : xm_Sc} : (xe_sh (XE sc))[27]? = some (.inl (.int, 8000)) := rfl
theorem sh_28 {sc : xm_Sc} : (xe_sh (XE sc))[28]? = some (.inl (.int, 168)) := rfl
theorem sh_29 {sc : xm_Sc} : (xe_sh (XE sc))[29]? = some (.inl (.int, 8000)) := rfl
theorem sh_30 {sc : xm_Sc} : (xe_sh (XE sc))[30]? = some (.inl (.int, 8000)) := rfl
theorem sh_31 {sc : xm_Sc} : (xe_sh (XE sc))[31]? = some (.inl (.int, 189)) := rfl
theorem sh_32 {sc : xm_Sc} : (xe_sh (XE sc))[32]? = some (.inr (4, 17)) := rfl
theorem sh_33 {sc : xm_Sc} : (xe_sh (XE sc))[33]? = some (.inl (.long, 13122)) := rfl
theorem sh_34 {sc : xm_Sc} : (xe_sh (XE sc))[34]? = some (.inl (.int, 1600)) := rfl
theorem sh_35 {sc : xm_Sc} : (xe_sh (XE sc))[35]? = some (.inl (.int, 1600)) := rfl
theorem sh_36 {sc : xm_Sc} : (xe_sh (XE sc))[36]? = some (.inl (.int, 1600)) := rfl
theorem sh_37 {sc : xm_Sc} : (xe_sh (XE sc))[37]? = some (.inl (.int, 1600)) := rfl
theorem sh_38 {sc : xm_Sc} : (xe_sh (XE sc))[38]? = some (.inl (.int, 1600)) := rfl
theorem sh_39 {sc : xm_Sc} : (xe_sh (XE sc))[39]? = some (.inr (2, 10)) := rfl
theorem sh_40 {sc : xm_Sc} : (xe_sh (XE sc))[40]? = some (.inr (7, 7)) := rfl
theorem sh_41 {sc : xm_Sc} : (xe_sh (XE sc))[41]? = some (.inl (.int, 3200)) := rfl
theorem sh_42 {sc : xm_Sc} : (xe_sh (XE sc))[42]? = some (.inl (.int, 22656)) := rfl
theorem sh_43 {sc : xm_Sc} : (xe_sh (XE sc))[43]? = some (.inl (.int, 128)) := rfl
theorem sh_44 {sc : xm_Sc} : (xe_sh (XE sc))[44]? = some (.inl (.int, 64)) := rfl
theorem sh_45 {sc : xm_Sc} : (xe_sh (XE sc))[45]? = some (.inr (3, 6)) := rfl
theorem sh_46 {sc : xm_Sc} : (xe_sh (XE sc))[46]? = some (.inr (9, 17)) := rfl
theorem sh_47 {sc : xm_Sc} : (xe_sh (XE sc))[47]? = some (.inl (.int, 8192)) := rfl
theorem sh_48 {sc : xm_Sc} : (xe_sh (XE sc))[48]? = some (.inl (.long, 4096)) := rfl
theorem sh_49 {sc : xm_Sc} : (xe_sh (XE sc))[49]? = some (.inl (.int, 4096)) := rfl
theorem sh_50 {sc : xm_Sc} : (xe_sh (XE sc))[50]? = some (.inl (.int, 4096)) := rfl
theorem sh_51 {sc : xm_Sc} : (xe_sh (XE sc))[51]? = some (.inl (.int, 512)) := rfl
theorem sh_52 {sc : xm_Sc} : (xe_sh (XE sc))[52]? = some (.inr (6, 16)) := rfl
theorem sh_53 {sc : xm_Sc} : (xe_sh (XE sc))[53]? = some (.inl (.int, 2000)) := rfl
theorem sh_54 {sc : xm_Sc} : (xe_sh (XE sc))[54]? = some (.inl (.int, 2000)) := rfl
theorem sh_55 {sc : xm_Sc} : (xe_sh (XE sc))[55]? = some (.inl (.int, 2000)) := rfl
theorem sh_56 {sc : xm_Sc} : (xe_sh (XE sc))[56]? = some (.inl (.int, 2000)) := rfl
theorem sh_57 {sc : xm_Sc} : (xe_sh (XE sc))[57]? = some (.inl (.int, 2000)) := rfl
theorem sh_58 {sc : xm_Sc} : (xe_sh (XE sc))[58]? = some (.inl (.int, 2000)) := rfl
theorem sh_59 {sc : xm_Sc} : (xe_sh (XE sc))[59]? = some (.inl (.int, 2000)) := rfl
theorem sh_60 {sc : xm_Sc} : (xe_sh (XE sc))[60]? = some (.inl (.int, 400)) := rfl
theorem sh_61 {sc : xm_Sc} : (xe_sh (XE sc))[61]? = some (.inl (.int, 400)) := rfl
theorem sh_62 {sc : xm_Sc} : (xe_sh (XE sc))[62]? = some (.inl (.int, 400)) := rfl
theorem sh_63 {sc : xm_Sc} : (xe_sh (XE sc))[63]? = some (.inl (.int, 2048)) := rfl
theorem sh_64 {sc : xm_Sc} : (xe_sh (XE sc))[64]? = some (.inr (8, 4)) := rfl
theorem sh_65 {sc : xm_Sc} : (xe_sh (XE sc))[65]? = some (.inl (.byte, 8192)) := rfl
theorem sh_66 {sc : xm_Sc} : (xe_sh (XE sc))[66]? = some (.inr (10, 12)) := rfl
theorem sh_67 {sc : xm_Sc} : (xe_sh (XE sc))[67]? = some (.inl (.int, 14032)) := rfl
theorem sh_68 {sc : xm_Sc} : (xe_sh (XE sc))[68]? = some (.inl (.int, 14032)) := rfl
theorem sh_69 {sc : xm_Sc} : (xe_sh (XE sc))[69]? = some (.inl (.int, 14032)) := rfl
theorem sh_70 {sc : xm_Sc} : (xe_sh (XE sc))[70]? = some (.inl (.int, 14032)) := rfl
theorem sh_71 {sc : xm_Sc} : (xe_sh (XE sc))[71]? = some (.inl (.int, 14032)) := rfl
theorem sh_72 {sc : xm_Sc} : (xe_sh (XE sc))[72]? = some (.inl (.boolean, 14032)) := rfl
theorem sh_73 {sc : xm_Sc} : (xe_sh (XE sc))[73]? = some (.inl (.int, 14032)) := rfl
theorem sh_74 {sc : xm_Sc} : (xe_sh (XE sc))[74]? = some (.inl (.int, 14032)) := rfl
theorem sh_75 {sc : xm_Sc} : (xe_sh (XE sc))[75]? = some (.inl (.int, 2048)) := rfl
theorem sh_76 {sc : xm_Sc} : (xe_sh (XE sc))[76]? = some (.inl (.int, 14048)) := rfl
theorem sh_77 {sc : xm_Sc} : (xe_sh (XE sc))[77]? = some (.inr (6, 16)) := rfl
theorem sh_78 {sc : xm_Sc} : (xe_sh (XE sc))[78]? = some (.inl (.int, 2000)) := rfl
theorem sh_79 {sc : xm_Sc} : (xe_sh (XE sc))[79]? = some (.inl (.int, 2000)) := rfl
theorem sh_80 {sc : xm_Sc} : (xe_sh (XE sc))[80]? = some (.inl (.int, 2000)) := rfl
theorem sh_81 {sc : xm_Sc} : (xe_sh (XE sc))[81]? = some (.inl (.int, 2000)) := rfl
theorem sh_82 {sc : xm_Sc} : (xe_sh (XE sc))[82]? = some (.inl (.int, 2000)) := rfl
theorem sh_83 {sc : xm_Sc} : (xe_sh (XE sc))[83]? = some (.inl (.int, 2000)) := rfl
theorem sh_84 {sc : xm_Sc} : (xe_sh (XE sc))[84]? = some (.inl (.int, 2000)) := rfl
theorem sh_85 {sc : xm_Sc} : (xe_sh (XE sc))[85]? = some (.inl (.int, 400)) := rfl
theorem sh_86 {sc : xm_Sc} : (xe_sh (XE sc))[86]? = some (.inl (.int, 400)) := rfl
theorem sh_87 {sc : xm_Sc} : (xe_sh (XE sc))[87]? = some (.inl (.int, 400)) := rfl
theorem sh_88 {sc : xm_Sc} : (xe_sh (XE sc))[88]? = some (.inl (.int, 2048)) := rfl
theorem sh_89 {sc : xm_Sc} : (xe_sh (XE sc))[89]? = some (.inr (8, 4)) := rfl
theorem sh_90 {sc : xm_Sc} : (xe_sh (XE sc))[90]? = some (.inl (.byte, 8192)) := rfl
theorem sh_91 {sc : xm_Sc} : (xe_sh (XE sc))[91]? = some (.inr (10, 12)) := rfl
theorem sh_92 {sc : xm_Sc} : (xe_sh (XE sc))[92]? = some (.inl (.int, 14032)) := rfl
theorem sh_93 {sc : xm_Sc} : (xe_sh (XE sc))[93]? = some (.inl (.int, 14032)) := rfl
theorem sh_94 {sc : xm_Sc} : (xe_sh (XE sc))[94]? = some (.inl (.int, 14032)) := rfl
theorem sh_95 {sc : xm_Sc} : (xe_sh (XE sc))[95]? = some (.inl (.int, 14032)) := rfl
theorem sh_96 {sc : xm_Sc} : (xe_sh (XE sc))[96]? = some (.inl (.int, 14032)) := rfl
theorem sh_97 {sc : xm_Sc} : (xe_sh (XE sc))[97]? = some (.inl (.boolean, 14032)) := rfl
theorem sh_98 {sc : xm_Sc} : (xe_sh (XE sc))[98]? = some (.inl (.int, 14032)) := rfl
theorem sh_99 {sc : xm_Sc} : (xe_sh (XE sc))[99]? = some (.inl (.int, 14032)) := rfl
theorem sh_100 {sc : xm_Sc} : (xe_sh (XE sc))[100]? = some (.inl (.int, 2048)) := rfl
theorem sh_101 {sc : xm_Sc} : (xe_sh (XE sc))[101]? = some (.inl (.int, 14048)) := rfl
theorem sh_102 {sc : xm_Sc} : (xe_sh (XE sc))[102]? = some (.inr (12, 94)) := rfl
theorem sh_103 {sc : xm_Sc} : (xe_sh (XE sc))[103]? = some (.inl (.int, 8192)) := rfl
theorem sh_104 {sc : xm_Sc} : (xe_sh (XE sc))[104]? = some (.inl (.int, 8192)) := rfl
theorem sh_105 {sc : xm_Sc} : (xe_sh (XE sc))[105]? = some (.inl (.int, 2000)) := rfl
theorem sh_106 {sc : xm_Sc} : (xe_sh (XE sc))[106]? = some (.inl (.int, 2000)) := rfl
theorem sh_107 {sc : xm_Sc} : (xe_sh (XE sc))[107]? = some (.inl (.int, 2000)) := rfl
theorem sh_108 {sc : xm_Sc} : (xe_sh (XE sc))[108]? = some (.inl (.int, 2000)) := rfl
theorem sh_109 {sc : xm_Sc} : (xe_sh (XE sc))[109]? = some (.inl (.int, 2000)) := rfl
theorem sh_110 {sc : xm_Sc} : (xe_sh (XE sc))[110]? = some (.inl (.int, 16000)) := rfl
theorem sh_111 {sc : xm_Sc} : (xe_sh (XE sc))[111]? = some (.inl (.int, 2000)) := rfl
theorem sh_112 {sc : xm_Sc} : (xe_sh (XE sc))[112]? = some (.inl (.int, 2000)) := rfl
theorem sh_113 {sc : xm_Sc} : (xe_sh (XE sc))[113]? = some (.inl (.int, 2000)) := rfl
theorem sh_114 {sc : xm_Sc} : (xe_sh (XE sc))[114]? = some (.inl (.boolean, 2000)) := rfl
theorem sh_115 {sc : xm_Sc} : (xe_sh (XE sc))[115]? = some (.inl (.int, 40000)) := rfl
theorem sh_116 {sc : xm_Sc} : (xe_sh (XE sc))[116]? = some (.inl (.int, 40000)) := rfl
theorem sh_117 {sc : xm_Sc} : (xe_sh (XE sc))[117]? = some (.inl (.int, 400)) := rfl
theorem sh_118 {sc : xm_Sc} : (xe_sh (XE sc))[118]? = some (.inl (.int, 400)) := rfl
theorem sh_119 {sc : xm_Sc} : (xe_sh (XE sc))[119]? = some (.inl (.int, 400)) := rfl
theorem sh_120 {sc : xm_Sc} : (xe_sh (XE sc))[120]? = some (.inl (.int, 400)) := rfl
theorem sh_121 {sc : xm_Sc} : (xe_sh (XE sc))[121]? = some (.inl (.int, 3200)) := rfl
theorem sh_122 {sc : xm_Sc} : (xe_sh (XE sc))[122]? = some (.inl (.int, 400)) := rfl
theorem sh_123 {sc : xm_Sc} : (xe_sh (XE sc))[123]? = some (.inl (.int, 400)) := rfl
theorem sh_124 {sc : xm_Sc} : (xe_sh (XE sc))[124]? = some (.inl (.int, 3200)) := rfl
theorem sh_125 {sc : xm_Sc} : (xe_sh (XE sc))[125]? = some (.inl (.long, 400)) := rfl
theorem sh_126 {sc : xm_Sc} : (xe_sh (XE sc))[126]? = some (.inl (.long, 400)) := rfl
theorem sh_127 {sc : xm_Sc} : (xe_sh (XE sc))[127]? = some (.inl (.long, 400)) := rfl
theorem sh_128 {sc : xm_Sc} : (xe_sh (XE sc))[128]? = some (.inl (.int, 8192)) := rfl
theorem sh_129 {sc : xm_Sc} : (xe_sh (XE sc))[129]? = some (.inl (.int, 17400)) := rfl
theorem sh_130 {sc : xm_Sc} : (xe_sh (XE sc))[130]? = some (.inl (.int, 17400)) := rfl
theorem sh_131 {sc : xm_Sc} : (xe_sh (XE sc))[131]? = some (.inl (.int, 17400)) := rfl
theorem sh_132 {sc : xm_Sc} : (xe_sh (XE sc))[132]? = some (.inl (.int, 17400)) := rfl
theorem sh_133 {sc : xm_Sc} : (xe_sh (XE sc))[133]? = some (.inl (.int, 17400)) := rfl
theorem sh_134 {sc : xm_Sc} : (xe_sh (XE sc))[134]? = some (.inl (.int, 17400)) := rfl
theorem sh_135 {sc : xm_Sc} : (xe_sh (XE sc))[135]? = some (.inl (.int, 17400)) := rfl
theorem sh_136 {sc : xm_Sc} : (xe_sh (XE sc))[136]? = some (.inl (.int, 4096)) := rfl
theorem sh_137 {sc : xm_Sc} : (xe_sh (XE sc))[137]? = some (.inl (.int, 25600)) := rfl
theorem sh_138 {sc : xm_Sc} : (xe_sh (XE sc))[138]? = some (.inl (.int, 14200)) := rfl
theorem sh_139 {sc : xm_Sc} : (xe_sh (XE sc))[139]? = some (.inl (.int, 14200)) := rfl
theorem sh_140 {sc : xm_Sc} : (xe_sh (XE sc))[140]? = some (.inl (.int, 14200)) := rfl
theorem sh_141 {sc : xm_Sc} : (xe_sh (XE sc))[141]? = some (.inl (.int, 14200)) := rfl
theorem sh_142 {sc : xm_Sc} : (xe_sh (XE sc))[142]? = some (.inl (.int, 14200)) := rfl
theorem sh_143 {sc : xm_Sc} : (xe_sh (XE sc))[143]? = some (.inl (.int, 57000)) := rfl
theorem sh_144 {sc : xm_Sc} : (xe_sh (XE sc))[144]? = some (.inl (.int, 9)) := rfl
theorem sh_145 {sc : xm_Sc} : (xe_sh (XE sc))[145]? = some (.inl (.byte, 824000)) := rfl
theorem sh_146 {sc : xm_Sc} : (xe_sh (XE sc))[146]? = some (.inl (.long, 14)) := rfl
theorem sh_147 {sc : xm_Sc} : (xe_sh (XE sc))[147]? = some (.inl (.int, 8200)) := rfl
theorem sh_148 {sc : xm_Sc} : (xe_sh (XE sc))[148]? = some (.inl (.int, 8)) := rfl
theorem sh_149 {sc : xm_Sc} : (xe_sh (XE sc))[149]? = some (.inl (.int, 64)) := rfl
theorem sh_150 {sc : xm_Sc} : (xe_sh (XE sc))[150]? = some (.inl (.int, 8)) := rfl
theorem sh_151 {sc : xm_Sc} : (xe_sh (XE sc))[151]? = some (.inl (.int, 400)) := rfl
theorem sh_152 {sc : xm_Sc} : (xe_sh (XE sc))[152]? = some (.inl (.int, 400)) := rfl
theorem sh_153 {sc : xm_Sc} : (xe_sh (XE sc))[153]? = some (.inl (.int, 402)) := rfl
theorem sh_154 {sc : xm_Sc} : (xe_sh (XE sc))[154]? = some (.inl (.int, 402)) := rfl
theorem sh_155 {sc : xm_Sc} : (xe_sh (XE sc))[155]? = some (.inl (.int, 402)) := rfl
theorem sh_156 {sc : xm_Sc} : (xe_sh (XE sc))[156]? = some (.inl (.int, 402)) := rfl
theorem sh_157 {sc : xm_Sc} : (xe_sh (XE sc))[157]? = some (.inl (.long, 4100)) := rfl
theorem sh_158 {sc : xm_Sc} : (xe_sh (XE sc))[158]? = some (.inl (.int, 4100)) := rfl
theorem sh_159 {sc : xm_Sc} : (xe_sh (XE sc))[159]? = some (.inl (.int, 8200)) := rfl
theorem sh_160 {sc : xm_Sc} : (xe_sh (XE sc))[160]? = some (.inl (.int, 8200)) := rfl
theorem sh_161 {sc : xm_Sc} : (xe_sh (XE sc))[161]? = some (.inl (.int, 2000)) := rfl
theorem sh_162 {sc : xm_Sc} : (xe_sh (XE sc))[162]? = some (.inl (.int, 10)) := rfl
set_option maxRecDepth 100000 in
theorem xe_cnt {sc : xm_Sc} : xe_n (XE sc) = 330 := rfl
theorem sh_163 {sc : xm_Sc} : (xe_sh (XE sc))[163]? = some (.inl (.long, 1)) := rfl
