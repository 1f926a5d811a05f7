def zceq (o : Option zCe) (e : zCe) : Bool := match o with
  | some x => x.1 == e.1 && (x.2.1 == e.2.1 && (x.2.2.1 == e.2.2.1 && (x.2.2.2.1 == e.2.2.2.1 && (x.2.2.2.2.1 == e.2.2.2.2.1 && (x.2.2.2.2.2.1 == e.2.2.2.2.2.1 && (x.2.2.2.2.2.2.1 == e.2.2.2.2.2.2.1 && x.2.2.2.2.2.2.2 == e.2.2.2.2.2.2.2))))))
  | none => false
theorem zceq_ok {o : Option zCe} {e : zCe} (h : zceq o e = true) : o = some e := by
  unfold zceq at h
  split at h
  · next x =>
    simp only [Bool.and_eq_true, beq_iff_eq] at h
    obtain ⟨h1, h2, h3, h4, h5, h6, h7, h8⟩ := h
    obtain ⟨x1, x2, x3, x4, x5, x6, x7, x8⟩ := x
    obtain ⟨e1, e2, e3, e4, e5, e6, e7, e8⟩ := e
    simp only at h1 h2 h3 h4 h5 h6 h7 h8
    subst h1; subst h2; subst h3; subst h4; subst h5; subst h6; subst h7; subst h8
    rfl
  · cases h
theorem g0_9_0 : zfd (zoc 0) 9 0 = some 5 := by decide +kernel
theorem g1_15_0 : zfd (zoc 1) 15 0 = some 4 := by decide +kernel
theorem g1_25_4 : zfd (zoc 1) 25 4 = some 3 := by decide +kernel
theorem g1_28_0 : zfd (zoc 1) 28 0 = some 0 := by decide +kernel
theorem g1_31_4 : zfd (zoc 1) 31 4 = some 4 := by decide +kernel
theorem g1_34_0 : zfd (zoc 1) 34 0 = some 1 := by decide +kernel
theorem g1_37_4 : zfd (zoc 1) 37 4 = some 5 := by decide +kernel
theorem g1_40_0 : zfd (zoc 1) 40 0 = some 2 := by decide +kernel
theorem g1_43_9 : zfd (zoc 1) 43 9 = some 8 := by decide +kernel
theorem g1_48_0 : zfd (zoc 1) 48 0 = some 3 := by decide +kernel
theorem g2_15_0 : zfd (zoc 2) 15 0 = some 4 := by decide +kernel
theorem g2_9_0 : zfd (zoc 2) 9 0 = some 5 := by decide +kernel
theorem g4_7_1 : zfd (zoc 4) 7 1 = some 0 := by decide +kernel
theorem g4_23_0 : zfd (zoc 4) 23 0 = some 3 := by decide +kernel
theorem g5_7_1 : zfd (zoc 5) 7 1 = some 0 := by decide +kernel
theorem g5_23_0 : zfd (zoc 5) 23 0 = some 3 := by decide +kernel
theorem g7_7_1 : zfd (zoc 7) 7 1 = some 0 := by decide +kernel
theorem g7_7_2 : zfd (zoc 7) 7 2 = some 0 := by decide +kernel
theorem g7_23_0 : zfd (zoc 7) 23 0 = some 2 := by decide +kernel
theorem g8_7_1 : zfd (zoc 8) 7 1 = some 0 := by decide +kernel
theorem g8_7_2 : zfd (zoc 8) 7 2 = some 0 := by decide +kernel
theorem g8_27_0 : zfd (zoc 8) 27 0 = some 1 := by decide +kernel
theorem g9_9_3 : zfd (zoc 9) 9 3 = some 1 := by decide +kernel
theorem g9_15_3 : zfd (zoc 9) 15 3 = some 2 := by decide +kernel
theorem g9_18_3 : zfd (zoc 9) 18 3 = some 3 := by decide +kernel
theorem g9_21_3 : zfd (zoc 9) 21 3 = some 4 := by decide +kernel
theorem g10_24_10 : zfd (zoc 10) 24 10 = some 12 := by decide +kernel
theorem g10_30_3 : zfd (zoc 10) 30 3 = some 0 := by decide +kernel
theorem g10_9_3 : zfd (zoc 10) 9 3 = some 1 := by decide +kernel
theorem g10_33_10 : zfd (zoc 10) 33 10 = some 10 := by decide +kernel
theorem g10_15_3 : zfd (zoc 10) 15 3 = some 2 := by decide +kernel
theorem g10_36_10 : zfd (zoc 10) 36 10 = some 11 := by decide +kernel
theorem g10_18_3 : zfd (zoc 10) 18 3 = some 3 := by decide +kernel
theorem g10_39_10 : zfd (zoc 10) 39 10 = some 1 := by decide +kernel
theorem g10_43_9 : zfd (zoc 10) 43 9 = some 1 := by decide +kernel
theorem g10_49_9 : zfd (zoc 10) 49 9 = some 0 := by decide +kernel
theorem g10_21_3 : zfd (zoc 10) 21 3 = some 4 := by decide +kernel
theorem g11_30_3 : zfd (zoc 11) 30 3 = some 0 := by decide +kernel
theorem g11_9_3 : zfd (zoc 11) 9 3 = some 1 := by decide +kernel
theorem g11_15_3 : zfd (zoc 11) 15 3 = some 2 := by decide +kernel
theorem g11_18_3 : zfd (zoc 11) 18 3 = some 3 := by decide +kernel
theorem g11_21_3 : zfd (zoc 11) 21 3 = some 4 := by decide +kernel
theorem g12_9_4 : zfd (zoc 12) 9 4 = some 2 := by decide +kernel
theorem g12_15_4 : zfd (zoc 12) 15 4 = some 3 := by decide +kernel
theorem g12_18_4 : zfd (zoc 12) 18 4 = some 4 := by decide +kernel
theorem g12_21_4 : zfd (zoc 12) 21 4 = some 5 := by decide +kernel
theorem g12_24_4 : zfd (zoc 12) 24 4 = some 6 := by decide +kernel
theorem g12_27_4 : zfd (zoc 12) 27 4 = some 7 := by decide +kernel
theorem g12_30_4 : zfd (zoc 12) 30 4 = some 8 := by decide +kernel
theorem g12_33_4 : zfd (zoc 12) 33 4 = some 9 := by decide +kernel
theorem g12_36_4 : zfd (zoc 12) 36 4 = some 10 := by decide +kernel
theorem g13_39_4 : zfd (zoc 13) 39 4 = some 0 := by decide +kernel
theorem g14_43_4 : zfd (zoc 14) 43 4 = some 1 := by decide +kernel
theorem g15_39_4 : zfd (zoc 15) 39 4 = some 0 := by decide +kernel
theorem g15_9_4 : zfd (zoc 15) 9 4 = some 2 := by decide +kernel
theorem g16_15_4 : zfd (zoc 16) 15 4 = some 3 := by decide +kernel
theorem g17_39_4 : zfd (zoc 17) 39 4 = some 0 := by decide +kernel
theorem g17_9_4 : zfd (zoc 17) 9 4 = some 2 := by decide +kernel
theorem g20_39_4 : zfd (zoc 20) 39 4 = some 0 := by decide +kernel
theorem g20_9_4 : zfd (zoc 20) 9 4 = some 2 := by decide +kernel
theorem g20_15_4 : zfd (zoc 20) 15 4 = some 3 := by decide +kernel
theorem g20_18_4 : zfd (zoc 20) 18 4 = some 4 := by decide +kernel
theorem g20_21_4 : zfd (zoc 20) 21 4 = some 5 := by decide +kernel
theorem g20_24_4 : zfd (zoc 20) 24 4 = some 6 := by decide +kernel
theorem g20_27_4 : zfd (zoc 20) 27 4 = some 7 := by decide +kernel
theorem g20_30_4 : zfd (zoc 20) 30 4 = some 8 := by decide +kernel
theorem g21_43_4 : zfd (zoc 21) 43 4 = some 1 := by decide +kernel
theorem g21_33_4 : zfd (zoc 21) 33 4 = some 9 := by decide +kernel
theorem g21_36_4 : zfd (zoc 21) 36 4 = some 10 := by decide +kernel
theorem g22_33_4 : zfd (zoc 22) 33 4 = some 9 := by decide +kernel
theorem g22_9_4 : zfd (zoc 22) 9 4 = some 2 := by decide +kernel
theorem g22_24_4 : zfd (zoc 22) 24 4 = some 6 := by decide +kernel
theorem g23_9_4 : zfd (zoc 23) 9 4 = some 2 := by decide +kernel
theorem g23_15_4 : zfd (zoc 23) 15 4 = some 3 := by decide +kernel
theorem g23_18_4 : zfd (zoc 23) 18 4 = some 4 := by decide +kernel
theorem g23_21_4 : zfd (zoc 23) 21 4 = some 5 := by decide +kernel
theorem g23_24_4 : zfd (zoc 23) 24 4 = some 6 := by decide +kernel
theorem g23_27_4 : zfd (zoc 23) 27 4 = some 7 := by decide +kernel
theorem g23_30_4 : zfd (zoc 23) 30 4 = some 8 := by decide +kernel
theorem g24_11_5 : zfd (zoc 24) 11 5 = some 0 := by decide +kernel
theorem g24_15_5 : zfd (zoc 24) 15 5 = some 1 := by decide +kernel
theorem g24_18_5 : zfd (zoc 24) 18 5 = some 2 := by decide +kernel
theorem g24_22_5 : zfd (zoc 24) 22 5 = some 3 := by decide +kernel
theorem g24_25_5 : zfd (zoc 24) 25 5 = some 4 := by decide +kernel
theorem g25_28_10 : zfd (zoc 25) 28 10 = some 1 := by decide +kernel
theorem g26_55_5 : zfd (zoc 26) 55 5 = some 5 := by decide +kernel
theorem g26_59_5 : zfd (zoc 26) 59 5 = some 6 := by decide +kernel
theorem g26_69_5 : zfd (zoc 26) 69 5 = some 7 := by decide +kernel
theorem g26_72_5 : zfd (zoc 26) 72 5 = some 8 := by decide +kernel
theorem g27_11_5 : zfd (zoc 27) 11 5 = some 0 := by decide +kernel
theorem g27_75_9 : zfd (zoc 27) 75 9 = some 0 := by decide +kernel
theorem g27_15_5 : zfd (zoc 27) 15 5 = some 1 := by decide +kernel
theorem g27_80_9 : zfd (zoc 27) 80 9 = some 1 := by decide +kernel
theorem g27_18_5 : zfd (zoc 27) 18 5 = some 2 := by decide +kernel
theorem g27_83_9 : zfd (zoc 27) 83 9 = some 5 := by decide +kernel
theorem g27_22_5 : zfd (zoc 27) 22 5 = some 3 := by decide +kernel
theorem g27_86_9 : zfd (zoc 27) 86 9 = some 6 := by decide +kernel
theorem g27_89_9 : zfd (zoc 27) 89 9 = some 7 := by decide +kernel
theorem g27_25_5 : zfd (zoc 27) 25 5 = some 4 := by decide +kernel
theorem g29_18_5 : zfd (zoc 29) 18 5 = some 2 := by decide +kernel
theorem g29_83_9 : zfd (zoc 29) 83 9 = some 5 := by decide +kernel
theorem g29_22_5 : zfd (zoc 29) 22 5 = some 3 := by decide +kernel
theorem g29_86_9 : zfd (zoc 29) 86 9 = some 6 := by decide +kernel
theorem g29_25_5 : zfd (zoc 29) 25 5 = some 4 := by decide +kernel
theorem g29_75_9 : zfd (zoc 29) 75 9 = some 0 := by decide +kernel
theorem g29_89_9 : zfd (zoc 29) 89 9 = some 7 := by decide +kernel
theorem g29_11_5 : zfd (zoc 29) 11 5 = some 0 := by decide +kernel
theorem g30_15_5 : zfd (zoc 30) 15 5 = some 1 := by decide +kernel
theorem g30_55_5 : zfd (zoc 30) 55 5 = some 5 := by decide +kernel
theorem g30_11_5 : zfd (zoc 30) 11 5 = some 0 := by decide +kernel
theorem g30_59_5 : zfd (zoc 30) 59 5 = some 6 := by decide +kernel
theorem g30_80_9 : zfd (zoc 30) 80 9 = some 1 := by decide +kernel
theorem g30_75_9 : zfd (zoc 30) 75 9 = some 0 := by decide +kernel
theorem g30_69_5 : zfd (zoc 30) 69 5 = some 7 := by decide +kernel
theorem g30_72_5 : zfd (zoc 30) 72 5 = some 8 := by decide +kernel
theorem g32_7_6 : zfd (zoc 32) 7 6 = some 0 := by decide +kernel
theorem g32_23_0 : zfd (zoc 32) 23 0 = some 1 := by decide +kernel
theorem g33_7_6 : zfd (zoc 33) 7 6 = some 0 := by decide +kernel
theorem g35_7_7 : zfd (zoc 35) 7 7 = some 0 := by decide +kernel
theorem g36_7_1 : zfd (zoc 36) 7 1 = some 0 := by decide +kernel
theorem g36_7_2 : zfd (zoc 36) 7 2 = some 0 := by decide +kernel
theorem g36_7_6 : zfd (zoc 36) 7 6 = some 0 := by decide +kernel
theorem g36_7_7 : zfd (zoc 36) 7 7 = some 0 := by decide +kernel
theorem g36_7_8 : zfd (zoc 36) 7 8 = some 0 := by decide +kernel
theorem g37_7_1 : zfd (zoc 37) 7 1 = some 0 := by decide +kernel
theorem g37_7_2 : zfd (zoc 37) 7 2 = some 0 := by decide +kernel
theorem g37_7_6 : zfd (zoc 37) 7 6 = some 0 := by decide +kernel
theorem g37_7_7 : zfd (zoc 37) 7 7 = some 0 := by decide +kernel
theorem g37_7_8 : zfd (zoc 37) 7 8 = some 0 := by decide +kernel
theorem g37_19_0 : zfd (zoc 37) 19 0 = some 0 := by decide +kernel
theorem g38_7_1 : zfd (zoc 38) 7 1 = some 0 := by decide +kernel
theorem g38_7_2 : zfd (zoc 38) 7 2 = some 0 := by decide +kernel
theorem g38_7_6 : zfd (zoc 38) 7 6 = some 0 := by decide +kernel
theorem g38_7_7 : zfd (zoc 38) 7 7 = some 0 := by decide +kernel
theorem g38_7_8 : zfd (zoc 38) 7 8 = some 0 := by decide +kernel
theorem g39_7_1 : zfd (zoc 39) 7 1 = some 0 := by decide +kernel
theorem g39_7_2 : zfd (zoc 39) 7 2 = some 0 := by decide +kernel
theorem g39_7_6 : zfd (zoc 39) 7 6 = some 0 := by decide +kernel
theorem g39_7_7 : zfd (zoc 39) 7 7 = some 0 := by decide +kernel
theorem g39_7_8 : zfd (zoc 39) 7 8 = some 0 := by decide +kernel
theorem g39_19_0 : zfd (zoc 39) 19 0 = some 0 := by decide +kernel
theorem g40_7_1 : zfd (zoc 40) 7 1 = some 0 := by decide +kernel
theorem g40_7_2 : zfd (zoc 40) 7 2 = some 0 := by decide +kernel
theorem g40_7_6 : zfd (zoc 40) 7 6 = some 0 := by decide +kernel
theorem g40_7_7 : zfd (zoc 40) 7 7 = some 0 := by decide +kernel
theorem g40_7_8 : zfd (zoc 40) 7 8 = some 0 := by decide +kernel
theorem g41_9_9 : zfd (zoc 41) 9 9 = some 0 := by decide +kernel
theorem g41_15_9 : zfd (zoc 41) 15 9 = some 7 := by decide +kernel
theorem g41_19_9 : zfd (zoc 41) 19 9 = some 8 := by decide +kernel
theorem g41_23_9 : zfd (zoc 41) 23 9 = some 9 := by decide +kernel
theorem g42_9_9 : zfd (zoc 42) 9 9 = some 0 := by decide +kernel
theorem g42_26_9 : zfd (zoc 42) 26 9 = some 1 := by decide +kernel
theorem g42_29_9 : zfd (zoc 42) 29 9 = some 2 := by decide +kernel
theorem g42_32_9 : zfd (zoc 42) 32 9 = some 3 := by decide +kernel
theorem g42_35_9 : zfd (zoc 42) 35 9 = some 4 := by decide +kernel
theorem g42_38_9 : zfd (zoc 42) 38 9 = some 5 := by decide +kernel
theorem g42_42_9 : zfd (zoc 42) 42 9 = some 6 := by decide +kernel
theorem g42_15_9 : zfd (zoc 42) 15 9 = some 7 := by decide +kernel
theorem g42_19_9 : zfd (zoc 42) 19 9 = some 8 := by decide +kernel
theorem g42_23_9 : zfd (zoc 42) 23 9 = some 9 := by decide +kernel
theorem g43_38_9 : zfd (zoc 43) 38 9 = some 5 := by decide +kernel
theorem g44_38_9 : zfd (zoc 44) 38 9 = some 5 := by decide +kernel
theorem g45_42_9 : zfd (zoc 45) 42 9 = some 6 := by decide +kernel
theorem g46_42_9 : zfd (zoc 46) 42 9 = some 6 := by decide +kernel
theorem g47_12_10 : zfd (zoc 47) 12 10 = some 1 := by decide +kernel
theorem g47_18_10 : zfd (zoc 47) 18 10 = some 2 := by decide +kernel
theorem g47_22_10 : zfd (zoc 47) 22 10 = some 3 := by decide +kernel
theorem g47_25_10 : zfd (zoc 47) 25 10 = some 4 := by decide +kernel
theorem g47_28_10 : zfd (zoc 47) 28 10 = some 5 := by decide +kernel
theorem g47_31_10 : zfd (zoc 47) 31 10 = some 10 := by decide +kernel
theorem g47_34_10 : zfd (zoc 47) 34 10 = some 11 := by decide +kernel
theorem g47_37_10 : zfd (zoc 47) 37 10 = some 0 := by decide +kernel
theorem g48_37_10 : zfd (zoc 48) 37 10 = some 0 := by decide +kernel
theorem g48_12_10 : zfd (zoc 48) 12 10 = some 1 := by decide +kernel
theorem g49_54_10 : zfd (zoc 49) 54 10 = some 6 := by decide +kernel
theorem g49_58_10 : zfd (zoc 49) 58 10 = some 7 := by decide +kernel
theorem g49_18_10 : zfd (zoc 49) 18 10 = some 2 := by decide +kernel
theorem g49_37_10 : zfd (zoc 49) 37 10 = some 0 := by decide +kernel
theorem g49_61_4 : zfd (zoc 49) 61 4 = some 1 := by decide +kernel
theorem g49_64_4 : zfd (zoc 49) 64 4 = some 9 := by decide +kernel
theorem g49_28_10 : zfd (zoc 49) 28 10 = some 5 := by decide +kernel
theorem g49_12_10 : zfd (zoc 49) 12 10 = some 1 := by decide +kernel
theorem g49_70_9 : zfd (zoc 49) 70 9 = some 9 := by decide +kernel
theorem g49_73_4 : zfd (zoc 49) 73 4 = some 10 := by decide +kernel
theorem g49_80_4 : zfd (zoc 49) 80 4 = some 0 := by decide +kernel
theorem g50_18_10 : zfd (zoc 50) 18 10 = some 2 := by decide +kernel
theorem g50_12_10 : zfd (zoc 50) 12 10 = some 1 := by decide +kernel
theorem g50_87_9 : zfd (zoc 50) 87 9 = some 7 := by decide +kernel
theorem g50_37_10 : zfd (zoc 50) 37 10 = some 0 := by decide +kernel
theorem g50_61_4 : zfd (zoc 50) 61 4 = some 1 := by decide +kernel
theorem g50_64_4 : zfd (zoc 50) 64 4 = some 9 := by decide +kernel
theorem g50_70_9 : zfd (zoc 50) 70 9 = some 9 := by decide +kernel
theorem g50_28_10 : zfd (zoc 50) 28 10 = some 5 := by decide +kernel
theorem g50_73_4 : zfd (zoc 50) 73 4 = some 10 := by decide +kernel
theorem g50_25_10 : zfd (zoc 50) 25 10 = some 4 := by decide +kernel
theorem g50_22_10 : zfd (zoc 50) 22 10 = some 3 := by decide +kernel
theorem g50_100_4 : zfd (zoc 50) 100 4 = some 8 := by decide +kernel
theorem g51_37_10 : zfd (zoc 51) 37 10 = some 0 := by decide +kernel
theorem g51_18_10 : zfd (zoc 51) 18 10 = some 2 := by decide +kernel
theorem g51_58_10 : zfd (zoc 51) 58 10 = some 7 := by decide +kernel
theorem g52_12_10 : zfd (zoc 52) 12 10 = some 1 := by decide +kernel
theorem g52_87_9 : zfd (zoc 52) 87 9 = some 7 := by decide +kernel
theorem g52_37_10 : zfd (zoc 52) 37 10 = some 0 := by decide +kernel
theorem g52_106_4 : zfd (zoc 52) 106 4 = some 3 := by decide +kernel
theorem g52_109_9 : zfd (zoc 52) 109 9 = some 0 := by decide +kernel
theorem g53_116_10 : zfd (zoc 53) 116 10 = some 8 := by decide +kernel
theorem g53_119_10 : zfd (zoc 53) 119 10 = some 9 := by decide +kernel
theorem g53_37_10 : zfd (zoc 53) 37 10 = some 0 := by decide +kernel
theorem g53_80_4 : zfd (zoc 53) 80 4 = some 0 := by decide +kernel
theorem g53_22_10 : zfd (zoc 53) 22 10 = some 3 := by decide +kernel
theorem g54_37_10 : zfd (zoc 54) 37 10 = some 0 := by decide +kernel
theorem g54_106_4 : zfd (zoc 54) 106 4 = some 3 := by decide +kernel
theorem g54_12_10 : zfd (zoc 54) 12 10 = some 1 := by decide +kernel
theorem g54_109_9 : zfd (zoc 54) 109 9 = some 0 := by decide +kernel
theorem g54_87_9 : zfd (zoc 54) 87 9 = some 7 := by decide +kernel
theorem g54_22_10 : zfd (zoc 54) 22 10 = some 3 := by decide +kernel
theorem g54_139_4 : zfd (zoc 54) 139 4 = some 4 := by decide +kernel
theorem g55_12_10 : zfd (zoc 55) 12 10 = some 1 := by decide +kernel
theorem g55_87_9 : zfd (zoc 55) 87 9 = some 7 := by decide +kernel
theorem g55_22_10 : zfd (zoc 55) 22 10 = some 3 := by decide +kernel
theorem g55_37_10 : zfd (zoc 55) 37 10 = some 0 := by decide +kernel
theorem g55_142_4 : zfd (zoc 55) 142 4 = some 5 := by decide +kernel
theorem g55_109_9 : zfd (zoc 55) 109 9 = some 0 := by decide +kernel
theorem g56_37_10 : zfd (zoc 56) 37 10 = some 0 := by decide +kernel
theorem g56_148_4 : zfd (zoc 56) 148 4 = some 6 := by decide +kernel
theorem g56_12_10 : zfd (zoc 56) 12 10 = some 1 := by decide +kernel
theorem g57_119_10 : zfd (zoc 57) 119 10 = some 9 := by decide +kernel
theorem g57_116_10 : zfd (zoc 57) 116 10 = some 8 := by decide +kernel
theorem g58_119_10 : zfd (zoc 58) 119 10 = some 9 := by decide +kernel
theorem g59_12_10 : zfd (zoc 59) 12 10 = some 1 := by decide +kernel
theorem g59_151_9 : zfd (zoc 59) 151 9 = some 1 := by decide +kernel
theorem g59_119_10 : zfd (zoc 59) 119 10 = some 9 := by decide +kernel
theorem g59_116_10 : zfd (zoc 59) 116 10 = some 8 := by decide +kernel
theorem g60_12_10 : zfd (zoc 60) 12 10 = some 1 := by decide +kernel
theorem g60_109_9 : zfd (zoc 60) 109 9 = some 0 := by decide +kernel
theorem g60_119_10 : zfd (zoc 60) 119 10 = some 9 := by decide +kernel
theorem g62_12_10 : zfd (zoc 62) 12 10 = some 1 := by decide +kernel
theorem g62_151_9 : zfd (zoc 62) 151 9 = some 1 := by decide +kernel
theorem g62_109_9 : zfd (zoc 62) 109 9 = some 0 := by decide +kernel
theorem g63_12_10 : zfd (zoc 63) 12 10 = some 1 := by decide +kernel
theorem g63_151_9 : zfd (zoc 63) 151 9 = some 1 := by decide +kernel
theorem g63_109_9 : zfd (zoc 63) 109 9 = some 0 := by decide +kernel
theorem g64_12_10 : zfd (zoc 64) 12 10 = some 1 := by decide +kernel
theorem g64_109_9 : zfd (zoc 64) 109 9 = some 0 := by decide +kernel
theorem g64_151_9 : zfd (zoc 64) 151 9 = some 1 := by decide +kernel
theorem g65_37_10 : zfd (zoc 65) 37 10 = some 0 := by decide +kernel
theorem g65_80_4 : zfd (zoc 65) 80 4 = some 0 := by decide +kernel
theorem g65_12_10 : zfd (zoc 65) 12 10 = some 1 := by decide +kernel
theorem g65_87_9 : zfd (zoc 65) 87 9 = some 7 := by decide +kernel
theorem g66_161_10 : zfd (zoc 66) 161 10 = some 12 := by decide +kernel
theorem g66_119_10 : zfd (zoc 66) 119 10 = some 9 := by decide +kernel
theorem g66_116_10 : zfd (zoc 66) 116 10 = some 8 := by decide +kernel
theorem g67_12_10 : zfd (zoc 67) 12 10 = some 1 := by decide +kernel
theorem g67_109_9 : zfd (zoc 67) 109 9 = some 0 := by decide +kernel
theorem g67_151_9 : zfd (zoc 67) 151 9 = some 1 := by decide +kernel
theorem g68_12_10 : zfd (zoc 68) 12 10 = some 1 := by decide +kernel
theorem g68_109_9 : zfd (zoc 68) 109 9 = some 0 := by decide +kernel
theorem g68_151_9 : zfd (zoc 68) 151 9 = some 1 := by decide +kernel
theorem g68_177_9 : zfd (zoc 68) 177 9 = some 2 := by decide +kernel
theorem g68_54_10 : zfd (zoc 68) 54 10 = some 6 := by decide +kernel
theorem g68_180_9 : zfd (zoc 68) 180 9 = some 3 := by decide +kernel
theorem g68_58_10 : zfd (zoc 68) 58 10 = some 7 := by decide +kernel
theorem g68_37_10 : zfd (zoc 68) 37 10 = some 0 := by decide +kernel
theorem g68_80_4 : zfd (zoc 68) 80 4 = some 0 := by decide +kernel
theorem g68_87_9 : zfd (zoc 68) 87 9 = some 7 := by decide +kernel
theorem g68_22_10 : zfd (zoc 68) 22 10 = some 3 := by decide +kernel
theorem g69_12_10 : zfd (zoc 69) 12 10 = some 1 := by decide +kernel
theorem g69_151_9 : zfd (zoc 69) 151 9 = some 1 := by decide +kernel
theorem g69_177_9 : zfd (zoc 69) 177 9 = some 2 := by decide +kernel
theorem g69_54_10 : zfd (zoc 69) 54 10 = some 6 := by decide +kernel
theorem g69_180_9 : zfd (zoc 69) 180 9 = some 3 := by decide +kernel
theorem g69_58_10 : zfd (zoc 69) 58 10 = some 7 := by decide +kernel
theorem g69_37_10 : zfd (zoc 69) 37 10 = some 0 := by decide +kernel
theorem g69_80_4 : zfd (zoc 69) 80 4 = some 0 := by decide +kernel
theorem g69_87_9 : zfd (zoc 69) 87 9 = some 7 := by decide +kernel
theorem g69_22_10 : zfd (zoc 69) 22 10 = some 3 := by decide +kernel
theorem g70_161_10 : zfd (zoc 70) 161 10 = some 12 := by decide +kernel
theorem g70_37_10 : zfd (zoc 70) 37 10 = some 0 := by decide +kernel
theorem g70_80_4 : zfd (zoc 70) 80 4 = some 0 := by decide +kernel
theorem g71_12_10 : zfd (zoc 71) 12 10 = some 1 := by decide +kernel
theorem g71_87_9 : zfd (zoc 71) 87 9 = some 7 := by decide +kernel
theorem g71_37_10 : zfd (zoc 71) 37 10 = some 0 := by decide +kernel
theorem g71_196_4 : zfd (zoc 71) 196 4 = some 7 := by decide +kernel
theorem g72_37_10 : zfd (zoc 72) 37 10 = some 0 := by decide +kernel
theorem g72_106_4 : zfd (zoc 72) 106 4 = some 3 := by decide +kernel
theorem g72_12_10 : zfd (zoc 72) 12 10 = some 1 := by decide +kernel
theorem g72_109_9 : zfd (zoc 72) 109 9 = some 0 := by decide +kernel
theorem g72_87_9 : zfd (zoc 72) 87 9 = some 7 := by decide +kernel
theorem g72_100_4 : zfd (zoc 72) 100 4 = some 8 := by decide +kernel
theorem g72_180_9 : zfd (zoc 72) 180 9 = some 3 := by decide +kernel
theorem g73_12_10 : zfd (zoc 73) 12 10 = some 1 := by decide +kernel
theorem g73_87_9 : zfd (zoc 73) 87 9 = some 7 := by decide +kernel
theorem g73_37_10 : zfd (zoc 73) 37 10 = some 0 := by decide +kernel
theorem g73_139_4 : zfd (zoc 73) 139 4 = some 4 := by decide +kernel
theorem g73_109_9 : zfd (zoc 73) 109 9 = some 0 := by decide +kernel
theorem g74_12_10 : zfd (zoc 74) 12 10 = some 1 := by decide +kernel
theorem g74_87_9 : zfd (zoc 74) 87 9 = some 7 := by decide +kernel
theorem g74_37_10 : zfd (zoc 74) 37 10 = some 0 := by decide +kernel
theorem g74_139_4 : zfd (zoc 74) 139 4 = some 4 := by decide +kernel
theorem g74_109_9 : zfd (zoc 74) 109 9 = some 0 := by decide +kernel
theorem g74_148_4 : zfd (zoc 74) 148 4 = some 6 := by decide +kernel
theorem g74_215_9 : zfd (zoc 74) 215 9 = some 8 := by decide +kernel
theorem g74_142_4 : zfd (zoc 74) 142 4 = some 5 := by decide +kernel
theorem g75_161_10 : zfd (zoc 75) 161 10 = some 12 := by decide +kernel
theorem g75_31_10 : zfd (zoc 75) 31 10 = some 10 := by decide +kernel
theorem g75_34_10 : zfd (zoc 75) 34 10 = some 11 := by decide +kernel
theorem g76_161_10 : zfd (zoc 76) 161 10 = some 12 := by decide +kernel
theorem g76_31_10 : zfd (zoc 76) 31 10 = some 10 := by decide +kernel
theorem g76_34_10 : zfd (zoc 76) 34 10 = some 11 := by decide +kernel
theorem g77_10_11 : zfd (zoc 77) 10 11 = some 0 := by decide +kernel
theorem g77_21_11 : zfd (zoc 77) 21 11 = some 1 := by decide +kernel
theorem g77_25_11 : zfd (zoc 77) 25 11 = some 2 := by decide +kernel
theorem g77_31_11 : zfd (zoc 77) 31 11 = some 3 := by decide +kernel
theorem g77_38_11 : zfd (zoc 77) 38 11 = some 4 := by decide +kernel
theorem g77_45_11 : zfd (zoc 77) 45 11 = some 5 := by decide +kernel
theorem g77_51_11 : zfd (zoc 77) 51 11 = some 6 := by decide +kernel
theorem g77_70_11 : zfd (zoc 77) 70 11 = some 7 := by decide +kernel
theorem g78_10_11 : zfd (zoc 78) 10 11 = some 0 := by decide +kernel
theorem g79_10_11 : zfd (zoc 79) 10 11 = some 0 := by decide +kernel
theorem g79_96_4 : zfd (zoc 79) 96 4 = some 3 := by decide +kernel
theorem g79_103_4 : zfd (zoc 79) 103 4 = some 5 := by decide +kernel
theorem g79_106_4 : zfd (zoc 79) 106 4 = some 4 := by decide +kernel
theorem g80_10_11 : zfd (zoc 80) 10 11 = some 0 := by decide +kernel
theorem g80_115_4 : zfd (zoc 80) 115 4 = some 9 := by decide +kernel
theorem g80_118_4 : zfd (zoc 80) 118 4 = some 6 := by decide +kernel
theorem g81_10_11 : zfd (zoc 81) 10 11 = some 0 := by decide +kernel
theorem g81_125_4 : zfd (zoc 81) 125 4 = some 7 := by decide +kernel
theorem g82_10_11 : zfd (zoc 82) 10 11 = some 0 := by decide +kernel
theorem g82_128_4 : zfd (zoc 82) 128 4 = some 8 := by decide +kernel
theorem g83_10_11 : zfd (zoc 83) 10 11 = some 0 := by decide +kernel
theorem g83_21_11 : zfd (zoc 83) 21 11 = some 1 := by decide +kernel
theorem g83_134_10 : zfd (zoc 83) 134 10 = some 1 := by decide +kernel
theorem g83_138_9 : zfd (zoc 83) 138 9 = some 9 := by decide +kernel
theorem g84_10_11 : zfd (zoc 84) 10 11 = some 0 := by decide +kernel
theorem g84_21_11 : zfd (zoc 84) 21 11 = some 1 := by decide +kernel
theorem g84_134_10 : zfd (zoc 84) 134 10 = some 1 := by decide +kernel
theorem g84_147_9 : zfd (zoc 84) 147 9 = some 4 := by decide +kernel
theorem g84_151_9 : zfd (zoc 84) 151 9 = some 0 := by decide +kernel
theorem g85_10_11 : zfd (zoc 85) 10 11 = some 0 := by decide +kernel
theorem g85_21_11 : zfd (zoc 85) 21 11 = some 1 := by decide +kernel
theorem g85_134_10 : zfd (zoc 85) 134 10 = some 1 := by decide +kernel
theorem g86_10_11 : zfd (zoc 86) 10 11 = some 0 := by decide +kernel
theorem g86_21_11 : zfd (zoc 86) 21 11 = some 1 := by decide +kernel
theorem g86_134_10 : zfd (zoc 86) 134 10 = some 1 := by decide +kernel
theorem g86_138_9 : zfd (zoc 86) 138 9 = some 9 := by decide +kernel
theorem g87_21_11 : zfd (zoc 87) 21 11 = some 1 := by decide +kernel
theorem g87_31_11 : zfd (zoc 87) 31 11 = some 3 := by decide +kernel
theorem g87_164_3 : zfd (zoc 87) 164 3 = some 0 := by decide +kernel
theorem g88_21_11 : zfd (zoc 88) 21 11 = some 1 := by decide +kernel
theorem g88_134_10 : zfd (zoc 88) 134 10 = some 1 := by decide +kernel
theorem g88_191_9 : zfd (zoc 88) 191 9 = some 1 := by decide +kernel
theorem g88_151_9 : zfd (zoc 88) 151 9 = some 0 := by decide +kernel
theorem g89_21_11 : zfd (zoc 89) 21 11 = some 1 := by decide +kernel
theorem g90_10_11 : zfd (zoc 90) 10 11 = some 0 := by decide +kernel
theorem g90_21_11 : zfd (zoc 90) 21 11 = some 1 := by decide +kernel
theorem g90_134_10 : zfd (zoc 90) 134 10 = some 1 := by decide +kernel
theorem g90_214_9 : zfd (zoc 90) 214 9 = some 7 := by decide +kernel
theorem g90_151_9 : zfd (zoc 90) 151 9 = some 0 := by decide +kernel
theorem g91_10_11 : zfd (zoc 91) 10 11 = some 0 := by decide +kernel
theorem g91_21_11 : zfd (zoc 91) 21 11 = some 1 := by decide +kernel
theorem g91_222_10 : zfd (zoc 91) 222 10 = some 3 := by decide +kernel
theorem g92_10_11 : zfd (zoc 92) 10 11 = some 0 := by decide +kernel
theorem g92_21_11 : zfd (zoc 92) 21 11 = some 1 := by decide +kernel
theorem g92_225_10 : zfd (zoc 92) 225 10 = some 5 := by decide +kernel
theorem g93_10_11 : zfd (zoc 93) 10 11 = some 0 := by decide +kernel
theorem g93_21_11 : zfd (zoc 93) 21 11 = some 1 := by decide +kernel
theorem g93_228_10 : zfd (zoc 93) 228 10 = some 4 := by decide +kernel
theorem g94_10_11 : zfd (zoc 94) 10 11 = some 0 := by decide +kernel
theorem g94_21_11 : zfd (zoc 94) 21 11 = some 1 := by decide +kernel
theorem g94_134_10 : zfd (zoc 94) 134 10 = some 1 := by decide +kernel
theorem g94_238_9 : zfd (zoc 94) 238 9 = some 8 := by decide +kernel
theorem g95_10_11 : zfd (zoc 95) 10 11 = some 0 := by decide +kernel
theorem g95_115_4 : zfd (zoc 95) 115 4 = some 9 := by decide +kernel
theorem g95_244_4 : zfd (zoc 95) 244 4 = some 10 := by decide +kernel
theorem g95_21_11 : zfd (zoc 95) 21 11 = some 1 := by decide +kernel
theorem g95_134_10 : zfd (zoc 95) 134 10 = some 1 := by decide +kernel
theorem g95_138_9 : zfd (zoc 95) 138 9 = some 9 := by decide +kernel
theorem g96_10_11 : zfd (zoc 96) 10 11 = some 0 := by decide +kernel
theorem g96_250_4 : zfd (zoc 96) 250 4 = some 0 := by decide +kernel
theorem g96_253_4 : zfd (zoc 96) 253 4 = some 1 := by decide +kernel
theorem g96_31_11 : zfd (zoc 96) 31 11 = some 3 := by decide +kernel
theorem g96_164_3 : zfd (zoc 96) 164 3 = some 0 := by decide +kernel
theorem g96_45_11 : zfd (zoc 96) 45 11 = some 5 := by decide +kernel
theorem g96_256_0 : zfd (zoc 96) 256 0 = some 4 := by decide +kernel
theorem g97_31_11 : zfd (zoc 97) 31 11 = some 3 := by decide +kernel
theorem g98_21_11 : zfd (zoc 98) 21 11 = some 1 := by decide +kernel
theorem g98_134_10 : zfd (zoc 98) 134 10 = some 1 := by decide +kernel
theorem g98_260_9 : zfd (zoc 98) 260 9 = some 2 := by decide +kernel
theorem g98_151_9 : zfd (zoc 98) 151 9 = some 0 := by decide +kernel
theorem g98_147_9 : zfd (zoc 98) 147 9 = some 4 := by decide +kernel
theorem g98_263_9 : zfd (zoc 98) 263 9 = some 3 := by decide +kernel
theorem g99_25_11 : zfd (zoc 99) 25 11 = some 2 := by decide +kernel
theorem g99_134_10 : zfd (zoc 99) 134 10 = some 1 := by decide +kernel
theorem g99_21_11 : zfd (zoc 99) 21 11 = some 1 := by decide +kernel
theorem g99_38_11 : zfd (zoc 99) 38 11 = some 4 := by decide +kernel
theorem g100_10_11 : zfd (zoc 100) 10 11 = some 0 := by decide +kernel
theorem g100_21_11 : zfd (zoc 100) 21 11 = some 1 := by decide +kernel
theorem g100_25_11 : zfd (zoc 100) 25 11 = some 2 := by decide +kernel
theorem g100_134_10 : zfd (zoc 100) 134 10 = some 1 := by decide +kernel
theorem g100_138_9 : zfd (zoc 100) 138 9 = some 9 := by decide +kernel
theorem g101_10_11 : zfd (zoc 101) 10 11 = some 0 := by decide +kernel
theorem g101_51_11 : zfd (zoc 101) 51 11 = some 6 := by decide +kernel
theorem g101_45_11 : zfd (zoc 101) 45 11 = some 5 := by decide +kernel
theorem g101_21_11 : zfd (zoc 101) 21 11 = some 1 := by decide +kernel
theorem g101_134_10 : zfd (zoc 101) 134 10 = some 1 := by decide +kernel
theorem g102_45_11 : zfd (zoc 102) 45 11 = some 5 := by decide +kernel
theorem g102_256_0 : zfd (zoc 102) 256 0 = some 4 := by decide +kernel
theorem g102_301_0 : zfd (zoc 102) 301 0 = some 5 := by decide +kernel
theorem g103_10_11 : zfd (zoc 103) 10 11 = some 0 := by decide +kernel
theorem g103_96_4 : zfd (zoc 103) 96 4 = some 3 := by decide +kernel
theorem g104_70_11 : zfd (zoc 104) 70 11 = some 7 := by decide +kernel
theorem g105_70_11 : zfd (zoc 105) 70 11 = some 7 := by decide +kernel
theorem g106_70_11 : zfd (zoc 106) 70 11 = some 7 := by decide +kernel
theorem g107_21_11 : zfd (zoc 107) 21 11 = some 1 := by decide +kernel
theorem g107_31_11 : zfd (zoc 107) 31 11 = some 3 := by decide +kernel
theorem g108_25_11 : zfd (zoc 108) 25 11 = some 2 := by decide +kernel
theorem g109_10_11 : zfd (zoc 109) 10 11 = some 0 := by decide +kernel
theorem g110_10_11 : zfd (zoc 110) 10 11 = some 0 := by decide +kernel
theorem g110_250_4 : zfd (zoc 110) 250 4 = some 0 := by decide +kernel
theorem g111_10_11 : zfd (zoc 111) 10 11 = some 0 := by decide +kernel
theorem g119_7_12 : zfd (zoc 119) 7 12 = some 1 := by decide +kernel
theorem g119_13_12 : zfd (zoc 119) 13 12 = some 2 := by decide +kernel
theorem g119_16_12 : zfd (zoc 119) 16 12 = some 3 := by decide +kernel
theorem g119_19_12 : zfd (zoc 119) 19 12 = some 4 := by decide +kernel
theorem g119_22_12 : zfd (zoc 119) 22 12 = some 5 := by decide +kernel
theorem g119_25_12 : zfd (zoc 119) 25 12 = some 6 := by decide +kernel
theorem g119_28_12 : zfd (zoc 119) 28 12 = some 7 := by decide +kernel
theorem g119_31_12 : zfd (zoc 119) 31 12 = some 9 := by decide +kernel
theorem g119_34_12 : zfd (zoc 119) 34 12 = some 10 := by decide +kernel
theorem g119_37_12 : zfd (zoc 119) 37 12 = some 11 := by decide +kernel
theorem g119_40_12 : zfd (zoc 119) 40 12 = some 12 := by decide +kernel
theorem g119_44_12 : zfd (zoc 119) 44 12 = some 16 := by decide +kernel
theorem g119_48_12 : zfd (zoc 119) 48 12 = some 17 := by decide +kernel
theorem g119_52_12 : zfd (zoc 119) 52 12 = some 18 := by decide +kernel
theorem g119_55_12 : zfd (zoc 119) 55 12 = some 19 := by decide +kernel
theorem g119_58_12 : zfd (zoc 119) 58 12 = some 22 := by decide +kernel
theorem g119_62_12 : zfd (zoc 119) 62 12 = some 23 := by decide +kernel
theorem g119_65_12 : zfd (zoc 119) 65 12 = some 24 := by decide +kernel
theorem g119_68_12 : zfd (zoc 119) 68 12 = some 25 := by decide +kernel
theorem g119_71_12 : zfd (zoc 119) 71 12 = some 26 := by decide +kernel
theorem g119_74_12 : zfd (zoc 119) 74 12 = some 28 := by decide +kernel
theorem g119_77_12 : zfd (zoc 119) 77 12 = some 30 := by decide +kernel
theorem g119_80_12 : zfd (zoc 119) 80 12 = some 31 := by decide +kernel
theorem g119_83_12 : zfd (zoc 119) 83 12 = some 32 := by decide +kernel
theorem g119_86_12 : zfd (zoc 119) 86 12 = some 33 := by decide +kernel
theorem g119_89_12 : zfd (zoc 119) 89 12 = some 40 := by decide +kernel
theorem g119_92_12 : zfd (zoc 119) 92 12 = some 41 := by decide +kernel
theorem g119_96_12 : zfd (zoc 119) 96 12 = some 48 := by decide +kernel
theorem g119_99_12 : zfd (zoc 119) 99 12 = some 49 := by decide +kernel
theorem g119_102_12 : zfd (zoc 119) 102 12 = some 50 := by decide +kernel
theorem g119_105_12 : zfd (zoc 119) 105 12 = some 51 := by decide +kernel
theorem g119_108_12 : zfd (zoc 119) 108 12 = some 52 := by decide +kernel
theorem g121_111_12 : zfd (zoc 121) 111 12 = some 27 := by decide +kernel
theorem g122_111_12 : zfd (zoc 122) 111 12 = some 27 := by decide +kernel
theorem g123_114_12 : zfd (zoc 123) 114 12 = some 0 := by decide +kernel
theorem g124_121_12 : zfd (zoc 124) 121 12 = some 8 := by decide +kernel
theorem g126_7_12 : zfd (zoc 126) 7 12 = some 1 := by decide +kernel
theorem g127_48_12 : zfd (zoc 127) 48 12 = some 17 := by decide +kernel
theorem g127_114_12 : zfd (zoc 127) 114 12 = some 0 := by decide +kernel
theorem g127_7_12 : zfd (zoc 127) 7 12 = some 1 := by decide +kernel
theorem g127_22_12 : zfd (zoc 127) 22 12 = some 5 := by decide +kernel
theorem g127_52_12 : zfd (zoc 127) 52 12 = some 18 := by decide +kernel
theorem g128_124_12 : zfd (zoc 128) 124 12 = some 35 := by decide +kernel
theorem g128_77_12 : zfd (zoc 128) 77 12 = some 30 := by decide +kernel
theorem g129_127_12 : zfd (zoc 129) 127 12 = some 34 := by decide +kernel
theorem g129_124_12 : zfd (zoc 129) 124 12 = some 35 := by decide +kernel
theorem g129_77_12 : zfd (zoc 129) 77 12 = some 30 := by decide +kernel
theorem g129_80_12 : zfd (zoc 129) 80 12 = some 31 := by decide +kernel
theorem g129_83_12 : zfd (zoc 129) 83 12 = some 32 := by decide +kernel
theorem g129_121_12 : zfd (zoc 129) 121 12 = some 8 := by decide +kernel
theorem g129_86_12 : zfd (zoc 129) 86 12 = some 33 := by decide +kernel
theorem g129_31_12 : zfd (zoc 129) 31 12 = some 9 := by decide +kernel
theorem g129_37_12 : zfd (zoc 129) 37 12 = some 11 := by decide +kernel
theorem g129_34_12 : zfd (zoc 129) 34 12 = some 10 := by decide +kernel
theorem g129_114_12 : zfd (zoc 129) 114 12 = some 0 := by decide +kernel
theorem g130_77_12 : zfd (zoc 130) 77 12 = some 30 := by decide +kernel
theorem g130_121_12 : zfd (zoc 130) 121 12 = some 8 := by decide +kernel
theorem g130_31_12 : zfd (zoc 130) 31 12 = some 9 := by decide +kernel
theorem g130_86_12 : zfd (zoc 130) 86 12 = some 33 := by decide +kernel
theorem g130_44_12 : zfd (zoc 130) 44 12 = some 16 := by decide +kernel
theorem g130_37_12 : zfd (zoc 130) 37 12 = some 11 := by decide +kernel
theorem g130_34_12 : zfd (zoc 130) 34 12 = some 10 := by decide +kernel
theorem g130_80_12 : zfd (zoc 130) 80 12 = some 31 := by decide +kernel
theorem g130_13_12 : zfd (zoc 130) 13 12 = some 2 := by decide +kernel
theorem g130_40_12 : zfd (zoc 130) 40 12 = some 12 := by decide +kernel
theorem g130_83_12 : zfd (zoc 130) 83 12 = some 32 := by decide +kernel
theorem g130_28_12 : zfd (zoc 130) 28 12 = some 7 := by decide +kernel
theorem g131_40_12 : zfd (zoc 131) 40 12 = some 12 := by decide +kernel
theorem g131_142_12 : zfd (zoc 131) 142 12 = some 38 := by decide +kernel
theorem g131_145_12 : zfd (zoc 131) 145 12 = some 37 := by decide +kernel
theorem g131_148_12 : zfd (zoc 131) 148 12 = some 36 := by decide +kernel
theorem g132_142_12 : zfd (zoc 132) 142 12 = some 38 := by decide +kernel
theorem g132_114_12 : zfd (zoc 132) 114 12 = some 0 := by decide +kernel
theorem g132_80_12 : zfd (zoc 132) 80 12 = some 31 := by decide +kernel
theorem g132_16_12 : zfd (zoc 132) 16 12 = some 3 := by decide +kernel
theorem g132_40_12 : zfd (zoc 132) 40 12 = some 12 := by decide +kernel
theorem g132_44_12 : zfd (zoc 132) 44 12 = some 16 := by decide +kernel
theorem g132_13_12 : zfd (zoc 132) 13 12 = some 2 := by decide +kernel
theorem g132_7_12 : zfd (zoc 132) 7 12 = some 1 := by decide +kernel
theorem g132_52_12 : zfd (zoc 132) 52 12 = some 18 := by decide +kernel
theorem g132_22_12 : zfd (zoc 132) 22 12 = some 5 := by decide +kernel
theorem g132_48_12 : zfd (zoc 132) 48 12 = some 17 := by decide +kernel
theorem g132_19_12 : zfd (zoc 132) 19 12 = some 4 := by decide +kernel
theorem g133_40_12 : zfd (zoc 133) 40 12 = some 12 := by decide +kernel
theorem g133_161_12 : zfd (zoc 133) 161 12 = some 39 := by decide +kernel
theorem g134_40_12 : zfd (zoc 134) 40 12 = some 12 := by decide +kernel
theorem g134_161_12 : zfd (zoc 134) 161 12 = some 39 := by decide +kernel
theorem g134_89_12 : zfd (zoc 134) 89 12 = some 40 := by decide +kernel
theorem g134_44_12 : zfd (zoc 134) 44 12 = some 16 := by decide +kernel
theorem g134_80_12 : zfd (zoc 134) 80 12 = some 31 := by decide +kernel
theorem g134_172_12 : zfd (zoc 134) 172 12 = some 13 := by decide +kernel
theorem g134_175_12 : zfd (zoc 134) 175 12 = some 14 := by decide +kernel
theorem g134_127_12 : zfd (zoc 134) 127 12 = some 34 := by decide +kernel
theorem g134_178_12 : zfd (zoc 134) 178 12 = some 15 := by decide +kernel
theorem g134_124_12 : zfd (zoc 134) 124 12 = some 35 := by decide +kernel
theorem g135_172_12 : zfd (zoc 135) 172 12 = some 13 := by decide +kernel
theorem g135_175_12 : zfd (zoc 135) 175 12 = some 14 := by decide +kernel
theorem g135_178_12 : zfd (zoc 135) 178 12 = some 15 := by decide +kernel
theorem g135_40_12 : zfd (zoc 135) 40 12 = some 12 := by decide +kernel
theorem g135_161_12 : zfd (zoc 135) 161 12 = some 39 := by decide +kernel
theorem g135_44_12 : zfd (zoc 135) 44 12 = some 16 := by decide +kernel
theorem g136_44_12 : zfd (zoc 136) 44 12 = some 16 := by decide +kernel
theorem g136_13_12 : zfd (zoc 136) 13 12 = some 2 := by decide +kernel
theorem g136_40_12 : zfd (zoc 136) 40 12 = some 12 := by decide +kernel
theorem g136_28_12 : zfd (zoc 136) 28 12 = some 7 := by decide +kernel
theorem g136_178_12 : zfd (zoc 136) 178 12 = some 15 := by decide +kernel
theorem g137_58_12 : zfd (zoc 137) 58 12 = some 22 := by decide +kernel
theorem g137_183_12 : zfd (zoc 137) 183 12 = some 20 := by decide +kernel
theorem g137_62_12 : zfd (zoc 137) 62 12 = some 23 := by decide +kernel
theorem g137_65_12 : zfd (zoc 137) 65 12 = some 24 := by decide +kernel
theorem g137_68_12 : zfd (zoc 137) 68 12 = some 25 := by decide +kernel
theorem g137_172_12 : zfd (zoc 137) 172 12 = some 13 := by decide +kernel
theorem g137_71_12 : zfd (zoc 137) 71 12 = some 26 := by decide +kernel
theorem g137_40_12 : zfd (zoc 137) 40 12 = some 12 := by decide +kernel
theorem g137_186_12 : zfd (zoc 137) 186 12 = some 42 := by decide +kernel
theorem g137_92_12 : zfd (zoc 137) 92 12 = some 41 := by decide +kernel
theorem g138_114_12 : zfd (zoc 138) 114 12 = some 0 := by decide +kernel
theorem g138_7_12 : zfd (zoc 138) 7 12 = some 1 := by decide +kernel
theorem g138_44_12 : zfd (zoc 138) 44 12 = some 16 := by decide +kernel
theorem g138_13_12 : zfd (zoc 138) 13 12 = some 2 := by decide +kernel
theorem g138_40_12 : zfd (zoc 138) 40 12 = some 12 := by decide +kernel
theorem g138_25_12 : zfd (zoc 138) 25 12 = some 6 := by decide +kernel
theorem g138_52_12 : zfd (zoc 138) 52 12 = some 18 := by decide +kernel
theorem g138_16_12 : zfd (zoc 138) 16 12 = some 3 := by decide +kernel
theorem g138_22_12 : zfd (zoc 138) 22 12 = some 5 := by decide +kernel
theorem g139_48_12 : zfd (zoc 139) 48 12 = some 17 := by decide +kernel
theorem g139_22_12 : zfd (zoc 139) 22 12 = some 5 := by decide +kernel
theorem g139_44_12 : zfd (zoc 139) 44 12 = some 16 := by decide +kernel
theorem g139_16_12 : zfd (zoc 139) 16 12 = some 3 := by decide +kernel
theorem g139_40_12 : zfd (zoc 139) 40 12 = some 12 := by decide +kernel
theorem g139_55_12 : zfd (zoc 139) 55 12 = some 19 := by decide +kernel
theorem g139_7_12 : zfd (zoc 139) 7 12 = some 1 := by decide +kernel
theorem g139_19_12 : zfd (zoc 139) 19 12 = some 4 := by decide +kernel
theorem g141_114_12 : zfd (zoc 141) 114 12 = some 0 := by decide +kernel
theorem g141_7_12 : zfd (zoc 141) 7 12 = some 1 := by decide +kernel
theorem g141_13_12 : zfd (zoc 141) 13 12 = some 2 := by decide +kernel
theorem g141_16_12 : zfd (zoc 141) 16 12 = some 3 := by decide +kernel
theorem g141_19_12 : zfd (zoc 141) 19 12 = some 4 := by decide +kernel
theorem g141_22_12 : zfd (zoc 141) 22 12 = some 5 := by decide +kernel
theorem g141_25_12 : zfd (zoc 141) 25 12 = some 6 := by decide +kernel
theorem g141_28_12 : zfd (zoc 141) 28 12 = some 7 := by decide +kernel
theorem g142_7_12 : zfd (zoc 142) 7 12 = some 1 := by decide +kernel
theorem g142_13_12 : zfd (zoc 142) 13 12 = some 2 := by decide +kernel
theorem g142_16_12 : zfd (zoc 142) 16 12 = some 3 := by decide +kernel
theorem g142_19_12 : zfd (zoc 142) 19 12 = some 4 := by decide +kernel
theorem g143_7_12 : zfd (zoc 143) 7 12 = some 1 := by decide +kernel
theorem g143_31_12 : zfd (zoc 143) 31 12 = some 9 := by decide +kernel
theorem g143_22_12 : zfd (zoc 143) 22 12 = some 5 := by decide +kernel
theorem g145_7_12 : zfd (zoc 145) 7 12 = some 1 := by decide +kernel
theorem g145_25_12 : zfd (zoc 145) 25 12 = some 6 := by decide +kernel
theorem g146_28_12 : zfd (zoc 146) 28 12 = some 7 := by decide +kernel
theorem g147_121_12 : zfd (zoc 147) 121 12 = some 8 := by decide +kernel
theorem g147_31_12 : zfd (zoc 147) 31 12 = some 9 := by decide +kernel
theorem g147_34_12 : zfd (zoc 147) 34 12 = some 10 := by decide +kernel
theorem g147_37_12 : zfd (zoc 147) 37 12 = some 11 := by decide +kernel
theorem g147_48_12 : zfd (zoc 147) 48 12 = some 17 := by decide +kernel
theorem g148_225_12 : zfd (zoc 148) 225 12 = some 21 := by decide +kernel
theorem g148_40_12 : zfd (zoc 148) 40 12 = some 12 := by decide +kernel
theorem g149_48_12 : zfd (zoc 149) 48 12 = some 17 := by decide +kernel
theorem g150_37_12 : zfd (zoc 150) 37 12 = some 11 := by decide +kernel
theorem g151_142_12 : zfd (zoc 151) 142 12 = some 38 := by decide +kernel
theorem g151_148_12 : zfd (zoc 151) 148 12 = some 36 := by decide +kernel
theorem g151_40_12 : zfd (zoc 151) 40 12 = some 12 := by decide +kernel
theorem g151_172_12 : zfd (zoc 151) 172 12 = some 13 := by decide +kernel
theorem g151_145_12 : zfd (zoc 151) 145 12 = some 37 := by decide +kernel
theorem g152_40_12 : zfd (zoc 152) 40 12 = some 12 := by decide +kernel
theorem g152_172_12 : zfd (zoc 152) 172 12 = some 13 := by decide +kernel
theorem g152_183_12 : zfd (zoc 152) 183 12 = some 20 := by decide +kernel
theorem g152_142_12 : zfd (zoc 152) 142 12 = some 38 := by decide +kernel
theorem g152_148_12 : zfd (zoc 152) 148 12 = some 36 := by decide +kernel
theorem g152_145_12 : zfd (zoc 152) 145 12 = some 37 := by decide +kernel
theorem g154_172_12 : zfd (zoc 154) 172 12 = some 13 := by decide +kernel
theorem g154_40_12 : zfd (zoc 154) 40 12 = some 12 := by decide +kernel
theorem g155_142_12 : zfd (zoc 155) 142 12 = some 38 := by decide +kernel
theorem g155_40_12 : zfd (zoc 155) 40 12 = some 12 := by decide +kernel
theorem g155_145_12 : zfd (zoc 155) 145 12 = some 37 := by decide +kernel
theorem g155_172_12 : zfd (zoc 155) 172 12 = some 13 := by decide +kernel
theorem g155_148_12 : zfd (zoc 155) 148 12 = some 36 := by decide +kernel
theorem g156_44_12 : zfd (zoc 156) 44 12 = some 16 := by decide +kernel
theorem g156_40_12 : zfd (zoc 156) 40 12 = some 12 := by decide +kernel
theorem g157_80_12 : zfd (zoc 157) 80 12 = some 31 := by decide +kernel
theorem g158_86_12 : zfd (zoc 158) 86 12 = some 33 := by decide +kernel
theorem g159_83_12 : zfd (zoc 159) 83 12 = some 32 := by decide +kernel
theorem g160_7_12 : zfd (zoc 160) 7 12 = some 1 := by decide +kernel
theorem g160_13_12 : zfd (zoc 160) 13 12 = some 2 := by decide +kernel
theorem g160_16_12 : zfd (zoc 160) 16 12 = some 3 := by decide +kernel
theorem g160_19_12 : zfd (zoc 160) 19 12 = some 4 := by decide +kernel
theorem g160_22_12 : zfd (zoc 160) 22 12 = some 5 := by decide +kernel
theorem g160_25_12 : zfd (zoc 160) 25 12 = some 6 := by decide +kernel
theorem g160_28_12 : zfd (zoc 160) 28 12 = some 7 := by decide +kernel
theorem g160_52_12 : zfd (zoc 160) 52 12 = some 18 := by decide +kernel
theorem g160_55_12 : zfd (zoc 160) 55 12 = some 19 := by decide +kernel
theorem g161_31_12 : zfd (zoc 161) 31 12 = some 9 := by decide +kernel
theorem g161_34_12 : zfd (zoc 161) 34 12 = some 10 := by decide +kernel
theorem g161_37_12 : zfd (zoc 161) 37 12 = some 11 := by decide +kernel
theorem g161_48_12 : zfd (zoc 161) 48 12 = some 17 := by decide +kernel
theorem g162_114_12 : zfd (zoc 162) 114 12 = some 0 := by decide +kernel
theorem g162_121_12 : zfd (zoc 162) 121 12 = some 8 := by decide +kernel
theorem g162_183_12 : zfd (zoc 162) 183 12 = some 20 := by decide +kernel
theorem g162_246_12 : zfd (zoc 162) 246 12 = some 29 := by decide +kernel
theorem g163_183_12 : zfd (zoc 163) 183 12 = some 20 := by decide +kernel
theorem g163_62_12 : zfd (zoc 163) 62 12 = some 23 := by decide +kernel
theorem g163_65_12 : zfd (zoc 163) 65 12 = some 24 := by decide +kernel
theorem g163_68_12 : zfd (zoc 163) 68 12 = some 25 := by decide +kernel
theorem g163_71_12 : zfd (zoc 163) 71 12 = some 26 := by decide +kernel
theorem g164_114_12 : zfd (zoc 164) 114 12 = some 0 := by decide +kernel
theorem g164_44_12 : zfd (zoc 164) 44 12 = some 16 := by decide +kernel
theorem g164_175_12 : zfd (zoc 164) 175 12 = some 14 := by decide +kernel
theorem g164_40_12 : zfd (zoc 164) 40 12 = some 12 := by decide +kernel
theorem g164_225_12 : zfd (zoc 164) 225 12 = some 21 := by decide +kernel
theorem g164_178_12 : zfd (zoc 164) 178 12 = some 15 := by decide +kernel
theorem g165_58_12 : zfd (zoc 165) 58 12 = some 22 := by decide +kernel
theorem g165_40_12 : zfd (zoc 165) 40 12 = some 12 := by decide +kernel
theorem g165_249_12 : zfd (zoc 165) 249 12 = some 43 := by decide +kernel
theorem g165_172_12 : zfd (zoc 165) 172 12 = some 13 := by decide +kernel
theorem g165_252_12 : zfd (zoc 165) 252 12 = some 44 := by decide +kernel
theorem g165_175_12 : zfd (zoc 165) 175 12 = some 14 := by decide +kernel
theorem g165_255_12 : zfd (zoc 165) 255 12 = some 45 := by decide +kernel
theorem g165_178_12 : zfd (zoc 165) 178 12 = some 15 := by decide +kernel
theorem g165_258_12 : zfd (zoc 165) 258 12 = some 46 := by decide +kernel
theorem g165_183_12 : zfd (zoc 165) 183 12 = some 20 := by decide +kernel
theorem g165_261_12 : zfd (zoc 165) 261 12 = some 47 := by decide +kernel
theorem g165_96_12 : zfd (zoc 165) 96 12 = some 48 := by decide +kernel
theorem g165_44_12 : zfd (zoc 165) 44 12 = some 16 := by decide +kernel
theorem g165_102_12 : zfd (zoc 165) 102 12 = some 50 := by decide +kernel
theorem g165_52_12 : zfd (zoc 165) 52 12 = some 18 := by decide +kernel
theorem g165_105_12 : zfd (zoc 165) 105 12 = some 51 := by decide +kernel
theorem g165_55_12 : zfd (zoc 165) 55 12 = some 19 := by decide +kernel
theorem g165_99_12 : zfd (zoc 165) 99 12 = some 49 := by decide +kernel
theorem g165_48_12 : zfd (zoc 165) 48 12 = some 17 := by decide +kernel
theorem g166_58_12 : zfd (zoc 166) 58 12 = some 22 := by decide +kernel
theorem g166_249_12 : zfd (zoc 166) 249 12 = some 43 := by decide +kernel
theorem g166_40_12 : zfd (zoc 166) 40 12 = some 12 := by decide +kernel
theorem g166_252_12 : zfd (zoc 166) 252 12 = some 44 := by decide +kernel
theorem g166_172_12 : zfd (zoc 166) 172 12 = some 13 := by decide +kernel
theorem g166_255_12 : zfd (zoc 166) 255 12 = some 45 := by decide +kernel
theorem g166_175_12 : zfd (zoc 166) 175 12 = some 14 := by decide +kernel
theorem g166_258_12 : zfd (zoc 166) 258 12 = some 46 := by decide +kernel
theorem g166_178_12 : zfd (zoc 166) 178 12 = some 15 := by decide +kernel
theorem g166_261_12 : zfd (zoc 166) 261 12 = some 47 := by decide +kernel
theorem g166_183_12 : zfd (zoc 166) 183 12 = some 20 := by decide +kernel
theorem g166_44_12 : zfd (zoc 166) 44 12 = some 16 := by decide +kernel
theorem g166_96_12 : zfd (zoc 166) 96 12 = some 48 := by decide +kernel
theorem g166_52_12 : zfd (zoc 166) 52 12 = some 18 := by decide +kernel
theorem g166_102_12 : zfd (zoc 166) 102 12 = some 50 := by decide +kernel
theorem g166_55_12 : zfd (zoc 166) 55 12 = some 19 := by decide +kernel
theorem g166_105_12 : zfd (zoc 166) 105 12 = some 51 := by decide +kernel
theorem g166_48_12 : zfd (zoc 166) 48 12 = some 17 := by decide +kernel
theorem g166_99_12 : zfd (zoc 166) 99 12 = some 49 := by decide +kernel
theorem g167_48_12 : zfd (zoc 167) 48 12 = some 17 := by decide +kernel
theorem g167_52_12 : zfd (zoc 167) 52 12 = some 18 := by decide +kernel
theorem g167_108_12 : zfd (zoc 167) 108 12 = some 52 := by decide +kernel
theorem g167_44_12 : zfd (zoc 167) 44 12 = some 16 := by decide +kernel
theorem g167_40_12 : zfd (zoc 167) 40 12 = some 12 := by decide +kernel
theorem g167_172_12 : zfd (zoc 167) 172 12 = some 13 := by decide +kernel
theorem g168_108_12 : zfd (zoc 168) 108 12 = some 52 := by decide +kernel
theorem g169_272_12 : zfd (zoc 169) 272 12 = some 53 := by decide +kernel
theorem g169_275_12 : zfd (zoc 169) 275 12 = some 54 := by decide +kernel
theorem g170_108_12 : zfd (zoc 170) 108 12 = some 52 := by decide +kernel
theorem g170_272_12 : zfd (zoc 170) 272 12 = some 53 := by decide +kernel
theorem g170_275_12 : zfd (zoc 170) 275 12 = some 54 := by decide +kernel
theorem g171_186_12 : zfd (zoc 171) 186 12 = some 42 := by decide +kernel
theorem g171_172_12 : zfd (zoc 171) 172 12 = some 13 := by decide +kernel
theorem g171_40_12 : zfd (zoc 171) 40 12 = some 12 := by decide +kernel
theorem g172_40_12 : zfd (zoc 172) 40 12 = some 12 := by decide +kernel
theorem g172_172_12 : zfd (zoc 172) 172 12 = some 13 := by decide +kernel
theorem g172_37_12 : zfd (zoc 172) 37 12 = some 11 := by decide +kernel
theorem g172_92_12 : zfd (zoc 172) 92 12 = some 41 := by decide +kernel
theorem g173_246_12 : zfd (zoc 173) 246 12 = some 29 := by decide +kernel
theorem g173_74_12 : zfd (zoc 173) 74 12 = some 28 := by decide +kernel
theorem g174_13_12 : zfd (zoc 174) 13 12 = some 2 := by decide +kernel
theorem g175_7_12 : zfd (zoc 175) 7 12 = some 1 := by decide +kernel
theorem g175_16_12 : zfd (zoc 175) 16 12 = some 3 := by decide +kernel
theorem g177_7_12 : zfd (zoc 177) 7 12 = some 1 := by decide +kernel
theorem g177_16_12 : zfd (zoc 177) 16 12 = some 3 := by decide +kernel
theorem g177_55_12 : zfd (zoc 177) 55 12 = some 19 := by decide +kernel
theorem g178_7_12 : zfd (zoc 178) 7 12 = some 1 := by decide +kernel
theorem g178_13_12 : zfd (zoc 178) 13 12 = some 2 := by decide +kernel
theorem g178_19_12 : zfd (zoc 178) 19 12 = some 4 := by decide +kernel
theorem g178_55_12 : zfd (zoc 178) 55 12 = some 19 := by decide +kernel
theorem g179_7_12 : zfd (zoc 179) 7 12 = some 1 := by decide +kernel
theorem g180_246_12 : zfd (zoc 180) 246 12 = some 29 := by decide +kernel
theorem g181_246_12 : zfd (zoc 181) 246 12 = some 29 := by decide +kernel
theorem g181_74_12 : zfd (zoc 181) 74 12 = some 28 := by decide +kernel
theorem g183_13_12 : zfd (zoc 183) 13 12 = some 2 := by decide +kernel
theorem g184_7_12 : zfd (zoc 184) 7 12 = some 1 := by decide +kernel
theorem g184_114_12 : zfd (zoc 184) 114 12 = some 0 := by decide +kernel
theorem g184_13_12 : zfd (zoc 184) 13 12 = some 2 := by decide +kernel
theorem g185_111_12 : zfd (zoc 185) 111 12 = some 27 := by decide +kernel
theorem k0_3_99 : zcall 0 3 99 = some (0, 3, 99, 7, 0, 0, 0, [325, 81]) := zceq_ok (by decide +kernel)
theorem n0_3 : zna 0 3 = some 0 := by decide +kernel
theorem k1_19_4 : zcall 1 19 4 = some (1, 19, 4, 0, 13, 1, 0, [807, 468, 469, 61]) := zceq_ok (by decide +kernel)
theorem n1_19 : zna 1 19 = some 1 := by decide +kernel
theorem k3_1_99 : zcall 3 1 99 = some (3, 1, 99, 4, 6, 1, 0, [400, 390, 70]) := zceq_ok (by decide +kernel)
theorem n3_1 : zna 3 1 = some 1 := by decide +kernel
theorem k4_13_0 : zcall 4 13 0 = some (4, 13, 0, 0, 2, 1, 0, [836, 816, 817, 66]) := zceq_ok (by decide +kernel)
theorem n4_13 : zna 4 13 = some 1 := by decide +kernel
theorem k4_19_98 : zcall 4 19 98 = some (4, 19, 98, 6, 7, 1, 0, [856, 1351, 402, 857, 70]) := zceq_ok (by decide +kernel)
theorem n4_19 : zna 4 19 = some 1 := by decide +kernel
theorem k4_19_99 : zcall 4 19 99 = none := Option.isNone_iff_eq_none.mp (by decide +kernel)
theorem k5_13_0 : zcall 5 13 0 = some (5, 13, 0, 0, 2, 1, 0, [836, 816, 817, 66]) := zceq_ok (by decide +kernel)
theorem n5_13 : zna 5 13 = some 1 := by decide +kernel
theorem k5_27_98 : zcall 5 27 98 = some (5, 27, 98, 9, 38, 1, 2, [837, 838, 402, 394, 830, 67]) := zceq_ok (by decide +kernel)
theorem n5_27 : zna 5 27 = some 1 := by decide +kernel
theorem k5_27_99 : zcall 5 27 99 = none := Option.isNone_iff_eq_none.mp (by decide +kernel)
theorem k6_1_99 : zcall 6 1 99 = some (6, 1, 99, 4, 36, 1, 0, [392, 356, 67]) := zceq_ok (by decide +kernel)
theorem n6_1 : zna 6 1 = some 1 := by decide +kernel
theorem k7_13_0 : zcall 7 13 0 = some (7, 13, 0, 0, 2, 1, 0, [815, 816, 817, 66]) := zceq_ok (by decide +kernel)
theorem n7_13 : zna 7 13 = some 1 := by decide +kernel
theorem k7_19_98 : zcall 7 19 98 = some (7, 19, 98, 6, 39, 1, 0, [859, 852, 394, 850, 67]) := zceq_ok (by decide +kernel)
theorem n7_19 : zna 7 19 = some 1 := by decide +kernel
theorem k7_19_99 : zcall 7 19 99 = none := Option.isNone_iff_eq_none.mp (by decide +kernel)
theorem k8_13_0 : zcall 8 13 0 = some (8, 13, 0, 0, 2, 1, 0, [815, 816, 817, 66]) := zceq_ok (by decide +kernel)
theorem n8_13 : zna 8 13 = some 1 := by decide +kernel
theorem k8_30_98 : zcall 8 30 98 = some (8, 30, 98, 6, 37, 1, 0, [819, 811, 394, 809, 67]) := zceq_ok (by decide +kernel)
theorem n8_30 : zna 8 30 = some 1 := by decide +kernel
theorem k8_30_99 : zcall 8 30 99 = none := Option.isNone_iff_eq_none.mp (by decide +kernel)
theorem k9_3_99 : zcall 9 3 99 = some (9, 3, 99, 7, 0, 0, 0, [268, 81]) := zceq_ok (by decide +kernel)
theorem n9_3 : zna 9 3 = some 0 := by decide +kernel
theorem k10_52_99 : zcall 10 52 99 = some (10, 52, 99, 3, 116, 2, 0, [527, 60]) := zceq_ok (by decide +kernel)
theorem n10_52 : zna 10 52 = some 2 := by decide +kernel
theorem k10_56_99 : zcall 10 56 99 = some (10, 56, 99, 3, 117, 2, 0, [531, 60]) := zceq_ok (by decide +kernel)
theorem n10_56 : zna 10 56 = some 2 := by decide +kernel
theorem k12_3_99 : zcall 12 3 99 = some (12, 3, 99, 7, 0, 0, 0, [88, 81]) := zceq_ok (by decide +kernel)
theorem n12_3 : zna 12 3 = some 0 := by decide +kernel
theorem k16_46_4 : zcall 16 46 4 = some (16, 46, 4, 0, 13, 1, 0, [566, 468, 469, 61]) := zceq_ok (by decide +kernel)
theorem n16_46 : zna 16 46 = some 1 := by decide +kernel
theorem k18_50_4 : zcall 18 50 4 = some (18, 50, 4, 0, 15, 1, 0, [546, 452, 453, 61]) := zceq_ok (by decide +kernel)
theorem n18_50 : zna 18 50 = some 1 := by decide +kernel
theorem k18_54_4 : zcall 18 54 4 = some (18, 54, 4, 0, 17, 1, 0, [547, 499, 500, 61]) := zceq_ok (by decide +kernel)
theorem n18_54 : zna 18 54 = some 1 := by decide +kernel
theorem k19_46_4 : zcall 19 46 4 = some (19, 46, 4, 0, 13, 1, 0, [566, 468, 469, 61]) := zceq_ok (by decide +kernel)
theorem n19_46 : zna 19 46 = some 1 := by decide +kernel
theorem k23_57_4 : zcall 23 57 4 = some (23, 57, 4, 0, 18, 1, 0, [712, 543, 544, 61]) := zceq_ok (by decide +kernel)
theorem n23_57 : zna 23 57 = some 1 := by decide +kernel
theorem k23_54_4 : zcall 23 54 4 = some (23, 54, 4, 0, 17, 1, 0, [547, 499, 500, 61]) := zceq_ok (by decide +kernel)
theorem n23_54 : zna 23 54 = some 1 := by decide +kernel
theorem k24_3_99 : zcall 24 3 99 = some (24, 3, 99, 7, 0, 0, 0, [291, 81]) := zceq_ok (by decide +kernel)
theorem n24_3 : zna 24 3 = some 0 := by decide +kernel
theorem k25_34_5 : zcall 25 34 5 = some (25, 34, 5, 0, 27, 2, 0, [753, 755, 16, 65]) := zceq_ok (by decide +kernel)
theorem n25_34 : zna 25 34 = some 2 := by decide +kernel
theorem k25_38_10 : zcall 25 38 10 = some (25, 38, 10, 0, 53, 0, 0, [758, 603, 604, 62]) := zceq_ok (by decide +kernel)
theorem n25_38 : zna 25 38 = some 0 := by decide +kernel
theorem k25_41_10 : zcall 25 41 10 = some (25, 41, 10, 0, 58, 0, 0, [759, 642, 643, 62]) := zceq_ok (by decide +kernel)
theorem n25_41 : zna 25 41 = some 0 := by decide +kernel
theorem k25_45_10 : zcall 25 45 10 = some (25, 45, 10, 0, 66, 0, 0, [760, 662, 663, 62]) := zceq_ok (by decide +kernel)
theorem n25_45 : zna 25 45 = some 0 := by decide +kernel
theorem k25_48_5 : zcall 25 48 5 = some (25, 48, 5, 0, 28, 2, 0, [761, 763, 17, 65]) := zceq_ok (by decide +kernel)
theorem n25_48 : zna 25 48 = some 2 := by decide +kernel
theorem k25_52_5 : zcall 25 52 5 = some (25, 52, 5, 0, 30, 2, 0, [769, 771, 19, 65]) := zceq_ok (by decide +kernel)
theorem n25_52 : zna 25 52 = some 2 := by decide +kernel
theorem k26_62_99 : zcall 26 62 99 = some (26, 62, 99, 3, 116, 2, 0, [527, 60]) := zceq_ok (by decide +kernel)
theorem n26_62 : zna 26 62 = some 2 := by decide +kernel
theorem k26_66_99 : zcall 26 66 99 = some (26, 66, 99, 3, 117, 2, 0, [531, 60]) := zceq_ok (by decide +kernel)
theorem n26_66 : zna 26 66 = some 2 := by decide +kernel
theorem k27_90_99 : zcall 27 90 99 = some (27, 90, 99, 8, 0, 0, 0, [757, 748, 747, 74]) := zceq_ok (by decide +kernel)
theorem n27_90 : zna 27 90 = some 0 := by decide +kernel
theorem k28_96_5 : zcall 28 96 5 = some (28, 96, 5, 0, 29, 2, 0, [765, 767, 18, 65]) := zceq_ok (by decide +kernel)
theorem n28_96 : zna 28 96 = some 2 := by decide +kernel
theorem k31_1_99 : zcall 31 1 99 = some (31, 1, 99, 4, 36, 1, 0, [376, 356, 67]) := zceq_ok (by decide +kernel)
theorem n31_1 : zna 31 1 = some 1 := by decide +kernel
theorem k32_13_0 : zcall 32 13 0 = some (32, 13, 0, 0, 2, 1, 0, [844, 816, 817, 66]) := zceq_ok (by decide +kernel)
theorem n32_13 : zna 32 13 = some 1 := by decide +kernel
theorem k32_19_98 : zcall 32 19 98 = some (32, 19, 98, 6, 38, 1, 0, [845, 832, 378, 830, 67]) := zceq_ok (by decide +kernel)
theorem n32_19 : zna 32 19 = some 1 := by decide +kernel
theorem k32_19_99 : zcall 32 19 99 = none := Option.isNone_iff_eq_none.mp (by decide +kernel)
theorem k33_13_0 : zcall 33 13 0 = some (33, 13, 0, 0, 2, 1, 0, [844, 816, 817, 66]) := zceq_ok (by decide +kernel)
theorem n33_13 : zna 33 13 = some 1 := by decide +kernel
theorem k33_27_98 : zcall 33 27 98 = some (33, 27, 98, 6, 40, 1, 0, [873, 867, 378, 865, 67]) := zceq_ok (by decide +kernel)
theorem n33_27 : zna 33 27 = some 1 := by decide +kernel
theorem k33_27_99 : zcall 33 27 99 = none := Option.isNone_iff_eq_none.mp (by decide +kernel)
theorem k34_1_99 : zcall 34 1 99 = some (34, 1, 99, 4, 36, 1, 0, [384, 356, 67]) := zceq_ok (by decide +kernel)
theorem n34_1 : zna 34 1 = some 1 := by decide +kernel
theorem k35_13_0 : zcall 35 13 0 = some (35, 13, 0, 0, 2, 1, 0, [825, 816, 817, 66]) := zceq_ok (by decide +kernel)
theorem n35_13 : zna 35 13 = some 1 := by decide +kernel
theorem k35_19_98 : zcall 35 19 98 = some (35, 19, 98, 6, 37, 1, 0, [826, 811, 386, 809, 67]) := zceq_ok (by decide +kernel)
theorem n35_19 : zna 35 19 = some 1 := by decide +kernel
theorem k35_19_99 : zcall 35 19 99 = none := Option.isNone_iff_eq_none.mp (by decide +kernel)
theorem k36_1_99 : zcall 36 1 99 = some (36, 1, 99, 7, 0, 0, 0, [358, 81]) := zceq_ok (by decide +kernel)
theorem n36_1 : zna 36 1 = some 0 := by decide +kernel
theorem k37_13_0 : zcall 37 13 0 = some (37, 13, 0, 0, 2, 1, 0, [828, 816, 817, 66]) := zceq_ok (by decide +kernel)
theorem n37_13 : zna 37 13 = some 1 := by decide +kernel
theorem k38_13_0 : zcall 38 13 0 = some (38, 13, 0, 0, 2, 1, 0, [828, 816, 817, 66]) := zceq_ok (by decide +kernel)
theorem n38_13 : zna 38 13 = some 1 := by decide +kernel
theorem k38_23_8 : zcall 38 23 8 = some (38, 23, 8, 1, 37, 1, 37, [848, 811, 809, 810, 809, 67]) := zceq_ok (by decide +kernel)
theorem n38_23 : zna 38 23 = some 1 := by decide +kernel
theorem k38_23_6 : zcall 38 23 6 = some (38, 23, 6, 1, 37, 1, 37, [848, 811, 809, 821, 809, 67]) := zceq_ok (by decide +kernel)
theorem k38_23_7 : zcall 38 23 7 = some (38, 23, 7, 1, 35, 1, 37, [848, 811, 809, 822, 823, 69]) := zceq_ok (by decide +kernel)
theorem k38_23_2 : zcall 38 23 2 = some (38, 23, 2, 1, 8, 1, 37, [848, 811, 809, 820, 813, 70]) := zceq_ok (by decide +kernel)
theorem k38_23_1 : zcall 38 23 1 = some (38, 23, 1, 1, 8, 1, 37, [848, 811, 809, 812, 813, 70]) := zceq_ok (by decide +kernel)
theorem k39_13_0 : zcall 39 13 0 = some (39, 13, 0, 0, 2, 1, 0, [828, 816, 817, 66]) := zceq_ok (by decide +kernel)
theorem n39_13 : zna 39 13 = some 1 := by decide +kernel
theorem k40_13_0 : zcall 40 13 0 = some (40, 13, 0, 0, 2, 1, 0, [828, 816, 817, 66]) := zceq_ok (by decide +kernel)
theorem n40_13 : zna 40 13 = some 1 := by decide +kernel
theorem k40_27_8 : zcall 40 27 8 = some (40, 27, 8, 1, 38, 1, 38, [876, 832, 830, 831, 830, 67]) := zceq_ok (by decide +kernel)
theorem n40_27 : zna 40 27 = some 1 := by decide +kernel
theorem k40_27_6 : zcall 40 27 6 = some (40, 27, 6, 1, 32, 1, 38, [876, 832, 830, 841, 842, 68]) := zceq_ok (by decide +kernel)
theorem k40_27_7 : zcall 40 27 7 = some (40, 27, 7, 1, 38, 1, 38, [876, 832, 830, 846, 830, 67]) := zceq_ok (by decide +kernel)
theorem k40_27_2 : zcall 40 27 2 = some (40, 27, 2, 1, 38, 1, 38, [876, 832, 830, 840, 830, 67]) := zceq_ok (by decide +kernel)
theorem k40_27_1 : zcall 40 27 1 = some (40, 27, 1, 1, 5, 1, 38, [876, 832, 830, 833, 834, 71]) := zceq_ok (by decide +kernel)
theorem k40_30_8 : zcall 40 30 8 = some (40, 30, 8, 1, 39, 1, 39, [877, 852, 850, 851, 850, 67]) := zceq_ok (by decide +kernel)
theorem n40_30 : zna 40 30 = some 1 := by decide +kernel
theorem k40_30_6 : zcall 40 30 6 = some (40, 30, 6, 1, 39, 1, 39, [877, 852, 850, 861, 850, 67]) := zceq_ok (by decide +kernel)
theorem k40_30_7 : zcall 40 30 7 = some (40, 30, 7, 1, 39, 1, 39, [877, 852, 850, 862, 850, 67]) := zceq_ok (by decide +kernel)
theorem k40_30_2 : zcall 40 30 2 = some (40, 30, 2, 1, 7, 1, 39, [877, 852, 850, 860, 857, 70]) := zceq_ok (by decide +kernel)
theorem k40_30_1 : zcall 40 30 1 = some (40, 30, 1, 1, 4, 1, 39, [877, 852, 850, 853, 854, 71]) := zceq_ok (by decide +kernel)
theorem k41_3_99 : zcall 41 3 99 = some (41, 3, 99, 7, 0, 0, 0, [158, 81]) := zceq_ok (by decide +kernel)
theorem n41_3 : zna 41 3 = some 0 := by decide +kernel
theorem k42_45_99 : zcall 42 45 99 = some (42, 45, 99, 8, 0, 0, 0, [746, 748, 747, 74]) := zceq_ok (by decide +kernel)
theorem n42_45 : zna 42 45 = some 0 := by decide +kernel
theorem k47_3_99 : zcall 47 3 99 = some (47, 3, 99, 7, 0, 0, 0, [152, 81]) := zceq_ok (by decide +kernel)
theorem n47_3 : zna 47 3 = some 0 := by decide +kernel
theorem k47_11_99 : zcall 47 11 99 = some (47, 11, 99, 5, 41, 0, 0, [156, 63]) := zceq_ok (by decide +kernel)
theorem n47_11 : zna 47 11 = some 0 := by decide +kernel
theorem k48_41_4 : zcall 48 41 4 = some (48, 41, 4, 0, 22, 1, 0, [614, 615, 616, 61]) := zceq_ok (by decide +kernel)
theorem n48_41 : zna 48 41 = some 1 := by decide +kernel
theorem k48_47_9 : zcall 48 47 9 = some (48, 47, 9, 0, 43, 1, 0, [502, 503, 504, 63]) := zceq_ok (by decide +kernel)
theorem n48_47 : zna 48 47 = some 1 := by decide +kernel
theorem k48_51_9 : zcall 48 51 9 = some (48, 51, 9, 0, 45, 1, 0, [482, 483, 484, 63]) := zceq_ok (by decide +kernel)
theorem n48_51 : zna 48 51 = some 1 := by decide +kernel
theorem k49_67_10 : zcall 49 67 10 = some (49, 67, 10, 0, 48, 1, 0, [610, 611, 612, 62]) := zceq_ok (by decide +kernel)
theorem n49_67 : zna 49 67 = some 1 := by decide +kernel
theorem k49_76_10 : zcall 49 76 10 = some (49, 76, 10, 0, 51, 2, 0, [618, 620, 11, 62]) := zceq_ok (by decide +kernel)
theorem n49_76 : zna 49 76 = some 2 := by decide +kernel
theorem k49_83_10 : zcall 49 83 10 = some (49, 83, 10, 0, 50, 1, 0, [622, 624, 12, 62]) := zceq_ok (by decide +kernel)
theorem n49_83 : zna 49 83 = some 1 := by decide +kernel
theorem k50_91_99 : zcall 50 91 99 = some (50, 91, 99, 2, 187, 2, 0, [626, 627, 73]) := zceq_ok (by decide +kernel)
theorem n50_91 : zna 50 91 = some 2 := by decide +kernel
theorem k50_67_10 : zcall 50 67 10 = some (50, 67, 10, 0, 48, 1, 0, [610, 611, 612, 62]) := zceq_ok (by decide +kernel)
theorem n50_67 : zna 50 67 = some 1 := by decide +kernel
theorem k50_76_10 : zcall 50 76 10 = some (50, 76, 10, 0, 51, 2, 0, [618, 620, 11, 62]) := zceq_ok (by decide +kernel)
theorem n50_76 : zna 50 76 = some 2 := by decide +kernel
theorem k50_97_10 : zcall 50 97 10 = some (50, 97, 10, 0, 52, 1, 0, [455, 457, 2, 62]) := zceq_ok (by decide +kernel)
theorem n50_97 : zna 50 97 = some 1 := by decide +kernel
theorem k51_103_4 : zcall 51 103 4 = some (51, 103, 4, 0, 13, 1, 0, [467, 468, 469, 61]) := zceq_ok (by decide +kernel)
theorem n51_103 : zna 51 103 = some 1 := by decide +kernel
theorem k53_113_10 : zcall 53 113 10 = some (53, 113, 10, 0, 49, 0, 0, [606, 607, 608, 62]) := zceq_ok (by decide +kernel)
theorem n53_113 : zna 53 113 = some 0 := by decide +kernel
theorem k53_122_10 : zcall 53 122 10 = some (53, 122, 10, 0, 54, 1, 0, [629, 631, 13, 62]) := zceq_ok (by decide +kernel)
theorem n53_122 : zna 53 122 = some 1 := by decide +kernel
theorem k53_125_10 : zcall 53 125 10 = some (53, 125, 10, 0, 55, 1, 0, [637, 639, 15, 62]) := zceq_ok (by decide +kernel)
theorem n53_125 : zna 53 125 = some 1 := by decide +kernel
theorem k54_128_10 : zcall 54 128 10 = some (54, 128, 10, 0, 57, 2, 0, [633, 635, 14, 62]) := zceq_ok (by decide +kernel)
theorem n54_128 : zna 54 128 = some 2 := by decide +kernel
theorem k54_132_4 : zcall 54 132 4 = some (54, 132, 4, 0, 15, 1, 0, [451, 452, 453, 61]) := zceq_ok (by decide +kernel)
theorem n54_132 : zna 54 132 = some 1 := by decide +kernel
theorem k54_51_9 : zcall 54 51 9 = some (54, 51, 9, 0, 45, 1, 0, [482, 483, 484, 63]) := zceq_ok (by decide +kernel)
theorem n54_51 : zna 54 51 = some 1 := by decide +kernel
theorem k54_135_10 : zcall 54 135 10 = some (54, 135, 10, 0, 56, 2, 0, [494, 496, 7, 62]) := zceq_ok (by decide +kernel)
theorem n54_135 : zna 54 135 = some 2 := by decide +kernel
theorem k55_128_10 : zcall 55 128 10 = some (55, 128, 10, 0, 57, 2, 0, [633, 635, 14, 62]) := zceq_ok (by decide +kernel)
theorem n55_128 : zna 55 128 = some 2 := by decide +kernel
theorem k55_135_10 : zcall 55 135 10 = some (55, 135, 10, 0, 56, 2, 0, [494, 496, 7, 62]) := zceq_ok (by decide +kernel)
theorem n55_135 : zna 55 135 = some 2 := by decide +kernel
theorem k56_145_4 : zcall 56 145 4 = some (56, 145, 4, 0, 17, 1, 0, [498, 499, 500, 61]) := zceq_ok (by decide +kernel)
theorem n56_145 : zna 56 145 = some 1 := by decide +kernel
theorem k56_47_9 : zcall 56 47 9 = some (56, 47, 9, 0, 43, 1, 0, [502, 503, 504, 63]) := zceq_ok (by decide +kernel)
theorem n56_47 : zna 56 47 = some 1 := by decide +kernel
theorem k61_154_10 : zcall 61 154 10 = some (61, 154, 10, 0, 59, 0, 0, [649, 650, 651, 62]) := zceq_ok (by decide +kernel)
theorem n61_154 : zna 61 154 = some 0 := by decide +kernel
theorem k61_158_10 : zcall 61 158 10 = some (61, 158, 10, 0, 60, 0, 0, [653, 654, 655, 62]) := zceq_ok (by decide +kernel)
theorem n61_158 : zna 61 158 = some 0 := by decide +kernel
theorem k66_164_10 : zcall 66 164 10 = some (66, 164, 10, 0, 68, 2, 0, [510, 512, 8, 62]) := zceq_ok (by decide +kernel)
theorem n66_164 : zna 66 164 = some 2 := by decide +kernel
theorem k66_168_10 : zcall 66 168 10 = some (66, 168, 10, 0, 70, 0, 0, [665, 448, 449, 62]) := zceq_ok (by decide +kernel)
theorem n66_168 : zna 66 168 = some 0 := by decide +kernel
theorem k67_164_10 : zcall 67 164 10 = some (67, 164, 10, 0, 68, 2, 0, [510, 512, 8, 62]) := zceq_ok (by decide +kernel)
theorem n67_164 : zna 67 164 = some 2 := by decide +kernel
theorem k68_171_10 : zcall 68 171 10 = some (68, 171, 10, 0, 69, 3, 0, [514, 516, 9, 62]) := zceq_ok (by decide +kernel)
theorem n68_171 : zna 68 171 = some 3 := by decide +kernel
theorem k69_183_99 : zcall 69 183 99 = some (69, 183, 99, 3, 115, 2, 0, [519, 60]) := zceq_ok (by decide +kernel)
theorem n69_183 : zna 69 183 = some 2 := by decide +kernel
theorem k70_132_4 : zcall 70 132 4 = some (70, 132, 4, 0, 15, 1, 0, [451, 452, 453, 61]) := zceq_ok (by decide +kernel)
theorem n70_132 : zna 70 132 = some 1 := by decide +kernel
theorem k70_97_10 : zcall 70 97 10 = some (70, 97, 10, 0, 52, 1, 0, [455, 457, 2, 62]) := zceq_ok (by decide +kernel)
theorem n70_97 : zna 70 97 = some 1 := by decide +kernel
theorem k70_187_10 : zcall 70 187 10 = some (70, 187, 10, 0, 71, 1, 0, [459, 461, 3, 62]) := zceq_ok (by decide +kernel)
theorem n70_187 : zna 70 187 = some 1 := by decide +kernel
theorem k70_190_10 : zcall 70 190 10 = some (70, 190, 10, 0, 73, 1, 0, [478, 480, 5, 62]) := zceq_ok (by decide +kernel)
theorem n70_190 : zna 70 190 = some 1 := by decide +kernel
theorem k70_193_10 : zcall 70 193 10 = some (70, 193, 10, 0, 74, 1, 0, [490, 492, 6, 62]) := zceq_ok (by decide +kernel)
theorem n70_193 : zna 70 193 = some 1 := by decide +kernel
theorem k70_164_10 : zcall 70 164 10 = some (70, 164, 10, 0, 68, 2, 0, [510, 512, 8, 62]) := zceq_ok (by decide +kernel)
theorem n70_164 : zna 70 164 = some 2 := by decide +kernel
theorem k71_199_10 : zcall 71 199 10 = some (71, 199, 10, 0, 72, 2, 0, [463, 464, 465, 62]) := zceq_ok (by decide +kernel)
theorem n71_199 : zna 71 199 = some 2 := by decide +kernel
theorem k71_203_10 : zcall 71 203 10 = some (71, 203, 10, 0, 75, 2, 0, [474, 476, 4, 62]) := zceq_ok (by decide +kernel)
theorem n71_203 : zna 71 203 = some 2 := by decide +kernel
theorem k72_103_4 : zcall 72 103 4 = some (72, 103, 4, 0, 13, 1, 0, [467, 468, 469, 61]) := zceq_ok (by decide +kernel)
theorem n72_103 : zna 72 103 = some 1 := by decide +kernel
theorem k72_206_99 : zcall 72 206 99 = some (72, 206, 99, 2, 188, 2, 0, [471, 472, 73]) := zceq_ok (by decide +kernel)
theorem n72_206 : zna 72 206 = some 2 := by decide +kernel
theorem k73_51_9 : zcall 73 51 9 = some (73, 51, 9, 0, 45, 1, 0, [482, 483, 484, 63]) := zceq_ok (by decide +kernel)
theorem n73_51 : zna 73 51 = some 1 := by decide +kernel
theorem k73_208_9 : zcall 73 208 9 = some (73, 208, 9, 0, 46, 2, 0, [486, 487, 488, 63]) := zceq_ok (by decide +kernel)
theorem n73_208 : zna 73 208 = some 2 := by decide +kernel
theorem k73_203_10 : zcall 73 203 10 = some (73, 203, 10, 0, 75, 2, 0, [474, 476, 4, 62]) := zceq_ok (by decide +kernel)
theorem n73_203 : zna 73 203 = some 2 := by decide +kernel
theorem k74_135_10 : zcall 74 135 10 = some (74, 135, 10, 0, 56, 2, 0, [494, 496, 7, 62]) := zceq_ok (by decide +kernel)
theorem n74_135 : zna 74 135 = some 2 := by decide +kernel
theorem k74_212_9 : zcall 74 212 9 = some (74, 212, 9, 0, 44, 2, 0, [506, 507, 508, 63]) := zceq_ok (by decide +kernel)
theorem n74_212 : zna 74 212 = some 2 := by decide +kernel
theorem k74_203_10 : zcall 74 203 10 = some (74, 203, 10, 0, 75, 2, 0, [474, 476, 4, 62]) := zceq_ok (by decide +kernel)
theorem n74_203 : zna 74 203 = some 2 := by decide +kernel
theorem k77_1_99 : zcall 77 1 99 = some (77, 1, 99, 7, 0, 0, 0, [80, 81]) := zceq_ok (by decide +kernel)
theorem n77_1 : zna 77 1 = some 0 := by decide +kernel
theorem k77_9_99 : zcall 77 9 99 = some (77, 9, 99, 5, 12, 0, 0, [86, 61]) := zceq_ok (by decide +kernel)
theorem n77_9 : zna 77 9 = some 0 := by decide +kernel
theorem k77_18_99 : zcall 77 18 99 = some (77, 18, 99, 4, 47, 1, 0, [149, 150, 62]) := zceq_ok (by decide +kernel)
theorem n77_18 : zna 77 18 = some 1 := by decide +kernel
theorem k77_30_99 : zcall 77 30 99 = some (77, 30, 99, 5, 9, 0, 0, [266, 64]) := zceq_ok (by decide +kernel)
theorem n77_30 : zna 77 30 = some 0 := by decide +kernel
theorem k77_37_99 : zcall 77 37 99 = some (77, 37, 99, 5, 24, 0, 0, [289, 65]) := zceq_ok (by decide +kernel)
theorem n77_37 : zna 77 37 = some 0 := by decide +kernel
theorem k77_44_99 : zcall 77 44 99 = some (77, 44, 99, 5, 0, 0, 0, [323, 66]) := zceq_ok (by decide +kernel)
theorem n77_44 : zna 77 44 = some 0 := by decide +kernel
theorem k77_55_99 : zcall 77 55 99 = some (77, 55, 99, 4, 36, 1, 0, [355, 356, 67]) := zceq_ok (by decide +kernel)
theorem n77_55 : zna 77 55 = some 1 := by decide +kernel
theorem k77_60_99 : zcall 77 60 99 = some (77, 60, 99, 4, 31, 1, 0, [373, 374, 68]) := zceq_ok (by decide +kernel)
theorem n77_60 : zna 77 60 = some 1 := by decide +kernel
theorem k77_63_99 : zcall 77 63 99 = some (77, 63, 99, 4, 34, 1, 0, [381, 382, 69]) := zceq_ok (by decide +kernel)
theorem n77_63 : zna 77 63 = some 1 := by decide +kernel
theorem k77_66_99 : zcall 77 66 99 = some (77, 66, 99, 4, 6, 1, 0, [389, 390, 70]) := zceq_ok (by decide +kernel)
theorem n77_66 : zna 77 66 = some 1 := by decide +kernel
theorem k77_69_99 : zcall 77 69 99 = some (77, 69, 99, 4, 3, 1, 0, [397, 398, 71]) := zceq_ok (by decide +kernel)
theorem n77_69 : zna 77 69 = some 1 := by decide +kernel
theorem k78_74_99 : zcall 78 74 99 = some (78, 74, 99, 2, 112, 3, 0, [432, 433, 60]) := zceq_ok (by decide +kernel)
theorem n78_74 : zna 78 74 = some 3 := by decide +kernel
theorem k78_78_11 : zcall 78 78 11 = some (78, 78, 11, 0, 105, 1, 0, [435, 437, 0, 60]) := zceq_ok (by decide +kernel)
theorem n78_78 : zna 78 78 = some 1 := by decide +kernel
theorem k78_82_4 : zcall 78 82 4 = some (78, 82, 4, 0, 20, 2, 0, [439, 440, 441, 61]) := zceq_ok (by decide +kernel)
theorem n78_82 : zna 78 82 = some 2 := by decide +kernel
theorem k78_86_11 : zcall 78 86 11 = some (78, 86, 11, 0, 107, 1, 0, [443, 445, 1, 60]) := zceq_ok (by decide +kernel)
theorem n78_86 : zna 78 86 = some 1 := by decide +kernel
theorem k79_89_4 : zcall 79 89 4 = some (79, 89, 4, 0, 13, 1, 0, [541, 468, 469, 61]) := zceq_ok (by decide +kernel)
theorem n79_89 : zna 79 89 = some 1 := by decide +kernel
theorem k79_78_11 : zcall 79 78 11 = some (79, 78, 11, 0, 105, 1, 0, [435, 437, 0, 60]) := zceq_ok (by decide +kernel)
theorem n79_78 : zna 79 78 = some 1 := by decide +kernel
theorem k79_93_4 : zcall 79 93 4 = some (79, 93, 4, 0, 18, 1, 0, [542, 543, 544, 61]) := zceq_ok (by decide +kernel)
theorem n79_93 : zna 79 93 = some 1 := by decide +kernel
theorem k79_74_99 : zcall 79 74 99 = some (79, 74, 99, 2, 112, 3, 0, [432, 433, 60]) := zceq_ok (by decide +kernel)
theorem n79_74 : zna 79 74 = some 3 := by decide +kernel
theorem k79_100_4 : zcall 79 100 4 = some (79, 100, 4, 0, 17, 1, 0, [548, 499, 500, 61]) := zceq_ok (by decide +kernel)
theorem n79_100 : zna 79 100 = some 1 := by decide +kernel
theorem k79_86_11 : zcall 79 86 11 = some (79, 86, 11, 0, 107, 1, 0, [443, 445, 1, 60]) := zceq_ok (by decide +kernel)
theorem n79_86 : zna 79 86 = some 1 := by decide +kernel
theorem k80_89_4 : zcall 80 89 4 = some (80, 89, 4, 0, 13, 1, 0, [541, 468, 469, 61]) := zceq_ok (by decide +kernel)
theorem n80_89 : zna 80 89 = some 1 := by decide +kernel
theorem k80_109_4 : zcall 80 109 4 = some (80, 109, 4, 0, 14, 1, 0, [553, 554, 555, 61]) := zceq_ok (by decide +kernel)
theorem n80_109 : zna 80 109 = some 1 := by decide +kernel
theorem k80_78_11 : zcall 80 78 11 = some (80, 78, 11, 0, 105, 1, 0, [435, 437, 0, 60]) := zceq_ok (by decide +kernel)
theorem n80_78 : zna 80 78 = some 1 := by decide +kernel
theorem k80_100_4 : zcall 80 100 4 = some (80, 100, 4, 0, 17, 1, 0, [548, 499, 500, 61]) := zceq_ok (by decide +kernel)
theorem n80_100 : zna 80 100 = some 1 := by decide +kernel
theorem k80_112_4 : zcall 80 112 4 = some (80, 112, 4, 0, 15, 1, 0, [557, 452, 453, 61]) := zceq_ok (by decide +kernel)
theorem n80_112 : zna 80 112 = some 1 := by decide +kernel
theorem k80_86_11 : zcall 80 86 11 = some (80, 86, 11, 0, 107, 1, 0, [443, 445, 1, 60]) := zceq_ok (by decide +kernel)
theorem n80_86 : zna 80 86 = some 1 := by decide +kernel
theorem k81_89_4 : zcall 81 89 4 = some (81, 89, 4, 0, 13, 1, 0, [541, 468, 469, 61]) := zceq_ok (by decide +kernel)
theorem n81_89 : zna 81 89 = some 1 := by decide +kernel
theorem k81_121_4 : zcall 81 121 4 = some (81, 121, 4, 0, 19, 2, 0, [562, 563, 564, 61]) := zceq_ok (by decide +kernel)
theorem n81_121 : zna 81 121 = some 2 := by decide +kernel
theorem k81_78_11 : zcall 81 78 11 = some (81, 78, 11, 0, 105, 1, 0, [435, 437, 0, 60]) := zceq_ok (by decide +kernel)
theorem n81_78 : zna 81 78 = some 1 := by decide +kernel
theorem k81_112_4 : zcall 81 112 4 = some (81, 112, 4, 0, 15, 1, 0, [557, 452, 453, 61]) := zceq_ok (by decide +kernel)
theorem n81_112 : zna 81 112 = some 1 := by decide +kernel
theorem k81_86_11 : zcall 81 86 11 = some (81, 86, 11, 0, 107, 1, 0, [443, 445, 1, 60]) := zceq_ok (by decide +kernel)
theorem n81_86 : zna 81 86 = some 1 := by decide +kernel
theorem k82_89_4 : zcall 82 89 4 = some (82, 89, 4, 0, 13, 1, 0, [541, 468, 469, 61]) := zceq_ok (by decide +kernel)
theorem n82_89 : zna 82 89 = some 1 := by decide +kernel
theorem k82_121_4 : zcall 82 121 4 = some (82, 121, 4, 0, 19, 2, 0, [562, 563, 564, 61]) := zceq_ok (by decide +kernel)
theorem n82_121 : zna 82 121 = some 2 := by decide +kernel
theorem k82_78_11 : zcall 82 78 11 = some (82, 78, 11, 0, 105, 1, 0, [435, 437, 0, 60]) := zceq_ok (by decide +kernel)
theorem n82_78 : zna 82 78 = some 1 := by decide +kernel
theorem k82_86_11 : zcall 82 86 11 = some (82, 86, 11, 0, 107, 1, 0, [443, 445, 1, 60]) := zceq_ok (by decide +kernel)
theorem n82_86 : zna 82 86 = some 1 := by decide +kernel
theorem k83_89_4 : zcall 83 89 4 = some (83, 89, 4, 0, 13, 1, 0, [541, 468, 469, 61]) := zceq_ok (by decide +kernel)
theorem n83_89 : zna 83 89 = some 1 := by decide +kernel
theorem k83_121_4 : zcall 83 121 4 = some (83, 121, 4, 0, 19, 2, 0, [562, 563, 564, 61]) := zceq_ok (by decide +kernel)
theorem n83_121 : zna 83 121 = some 2 := by decide +kernel
theorem k83_74_99 : zcall 83 74 99 = some (83, 74, 99, 2, 112, 3, 0, [432, 433, 60]) := zceq_ok (by decide +kernel)
theorem n83_74 : zna 83 74 = some 3 := by decide +kernel
theorem k83_78_11 : zcall 83 78 11 = some (83, 78, 11, 0, 105, 1, 0, [435, 437, 0, 60]) := zceq_ok (by decide +kernel)
theorem n83_78 : zna 83 78 = some 1 := by decide +kernel
theorem k83_131_4 : zcall 83 131 4 = some (83, 131, 4, 0, 21, 2, 0, [575, 576, 577, 61]) := zceq_ok (by decide +kernel)
theorem n83_131 : zna 83 131 = some 2 := by decide +kernel
theorem k83_143_9 : zcall 83 143 9 = some (83, 143, 9, 0, 44, 2, 0, [579, 507, 508, 63]) := zceq_ok (by decide +kernel)
theorem n83_143 : zna 83 143 = some 2 := by decide +kernel
theorem k83_86_11 : zcall 83 86 11 = some (83, 86, 11, 0, 107, 1, 0, [443, 445, 1, 60]) := zceq_ok (by decide +kernel)
theorem n83_86 : zna 83 86 = some 1 := by decide +kernel
theorem k84_89_4 : zcall 84 89 4 = some (84, 89, 4, 0, 13, 1, 0, [541, 468, 469, 61]) := zceq_ok (by decide +kernel)
theorem n84_89 : zna 84 89 = some 1 := by decide +kernel
theorem k84_74_99 : zcall 84 74 99 = some (84, 74, 99, 2, 112, 3, 0, [432, 433, 60]) := zceq_ok (by decide +kernel)
theorem n84_74 : zna 84 74 = some 3 := by decide +kernel
theorem k84_78_11 : zcall 84 78 11 = some (84, 78, 11, 0, 105, 1, 0, [435, 437, 0, 60]) := zceq_ok (by decide +kernel)
theorem n84_78 : zna 84 78 = some 1 := by decide +kernel
theorem k84_154_10 : zcall 84 154 10 = some (84, 154, 10, 0, 72, 2, 0, [584, 464, 465, 62]) := zceq_ok (by decide +kernel)
theorem n84_154 : zna 84 154 = some 2 := by decide +kernel
theorem k84_86_11 : zcall 84 86 11 = some (84, 86, 11, 0, 107, 1, 0, [443, 445, 1, 60]) := zceq_ok (by decide +kernel)
theorem n84_86 : zna 84 86 = some 1 := by decide +kernel
theorem k85_109_4 : zcall 85 109 4 = some (85, 109, 4, 0, 14, 1, 0, [553, 554, 555, 61]) := zceq_ok (by decide +kernel)
theorem n85_109 : zna 85 109 = some 1 := by decide +kernel
theorem k85_78_11 : zcall 85 78 11 = some (85, 78, 11, 0, 105, 1, 0, [435, 437, 0, 60]) := zceq_ok (by decide +kernel)
theorem n85_78 : zna 85 78 = some 1 := by decide +kernel
theorem k85_158_9 : zcall 85 158 9 = some (85, 158, 9, 0, 43, 1, 0, [589, 503, 504, 63]) := zceq_ok (by decide +kernel)
theorem n85_158 : zna 85 158 = some 1 := by decide +kernel
theorem k85_143_9 : zcall 85 143 9 = some (85, 143, 9, 0, 44, 2, 0, [579, 507, 508, 63]) := zceq_ok (by decide +kernel)
theorem n85_143 : zna 85 143 = some 2 := by decide +kernel
theorem k85_86_11 : zcall 85 86 11 = some (85, 86, 11, 0, 107, 1, 0, [443, 445, 1, 60]) := zceq_ok (by decide +kernel)
theorem n85_86 : zna 85 86 = some 1 := by decide +kernel
theorem k86_109_4 : zcall 86 109 4 = some (86, 109, 4, 0, 14, 1, 0, [553, 554, 555, 61]) := zceq_ok (by decide +kernel)
theorem n86_109 : zna 86 109 = some 1 := by decide +kernel
theorem k86_74_99 : zcall 86 74 99 = some (86, 74, 99, 2, 112, 3, 0, [432, 433, 60]) := zceq_ok (by decide +kernel)
theorem n86_74 : zna 86 74 = some 3 := by decide +kernel
theorem k86_78_11 : zcall 86 78 11 = some (86, 78, 11, 0, 105, 1, 0, [435, 437, 0, 60]) := zceq_ok (by decide +kernel)
theorem n86_78 : zna 86 78 = some 1 := by decide +kernel
theorem k86_86_11 : zcall 86 86 11 = some (86, 86, 11, 0, 107, 1, 0, [443, 445, 1, 60]) := zceq_ok (by decide +kernel)
theorem n86_86 : zna 86 86 = some 1 := by decide +kernel
theorem k87_161_10 : zcall 87 161 10 = some (87, 161, 10, 0, 62, 1, 0, [598, 599, 600, 62]) := zceq_ok (by decide +kernel)
theorem n87_161 : zna 87 161 = some 1 := by decide +kernel
theorem k87_78_11 : zcall 87 78 11 = some (87, 78, 11, 0, 105, 1, 0, [435, 437, 0, 60]) := zceq_ok (by decide +kernel)
theorem n87_78 : zna 87 78 = some 1 := by decide +kernel
theorem k87_167_10 : zcall 87 167 10 = some (87, 167, 10, 0, 53, 0, 0, [602, 603, 604, 62]) := zceq_ok (by decide +kernel)
theorem n87_167 : zna 87 167 = some 0 := by decide +kernel
theorem k87_170_10 : zcall 87 170 10 = some (87, 170, 10, 0, 58, 0, 0, [641, 642, 643, 62]) := zceq_ok (by decide +kernel)
theorem n87_170 : zna 87 170 = some 0 := by decide +kernel
theorem k87_174_10 : zcall 87 174 10 = some (87, 174, 10, 0, 61, 1, 0, [645, 646, 647, 62]) := zceq_ok (by decide +kernel)
theorem n87_174 : zna 87 174 = some 1 := by decide +kernel
theorem k87_177_10 : zcall 87 177 10 = some (87, 177, 10, 0, 67, 1, 0, [657, 658, 659, 62]) := zceq_ok (by decide +kernel)
theorem n87_177 : zna 87 177 = some 1 := by decide +kernel
theorem k87_181_11 : zcall 87 181 11 = some (87, 181, 11, 0, 106, 1, 0, [533, 535, 10, 60]) := zceq_ok (by decide +kernel)
theorem n87_181 : zna 87 181 = some 1 := by decide +kernel
theorem k87_184_10 : zcall 87 184 10 = some (87, 184, 10, 0, 66, 0, 0, [661, 662, 663, 62]) := zceq_ok (by decide +kernel)
theorem n87_184 : zna 87 184 = some 0 := by decide +kernel
theorem k87_187_3 : zcall 87 187 3 = some (87, 187, 3, 0, 10, 1, 0, [522, 523, 524, 64]) := zceq_ok (by decide +kernel)
theorem n87_187 : zna 87 187 = some 1 := by decide +kernel
theorem k88_194_99 : zcall 88 194 99 = some (88, 194, 99, 2, 116, 2, 0, [670, 527, 60]) := zceq_ok (by decide +kernel)
theorem n88_194 : zna 88 194 = some 2 := by decide +kernel
theorem k88_198_99 : zcall 88 198 99 = some (88, 198, 99, 2, 117, 2, 0, [671, 531, 60]) := zceq_ok (by decide +kernel)
theorem n88_198 : zna 88 198 = some 2 := by decide +kernel
theorem k89_74_99 : zcall 89 74 99 = some (89, 74, 99, 2, 112, 3, 0, [432, 433, 60]) := zceq_ok (by decide +kernel)
theorem n89_74 : zna 89 74 = some 3 := by decide +kernel
theorem k89_167_10 : zcall 89 167 10 = some (89, 167, 10, 0, 53, 0, 0, [602, 603, 604, 62]) := zceq_ok (by decide +kernel)
theorem n89_167 : zna 89 167 = some 0 := by decide +kernel
theorem k89_170_10 : zcall 89 170 10 = some (89, 170, 10, 0, 58, 0, 0, [641, 642, 643, 62]) := zceq_ok (by decide +kernel)
theorem n89_170 : zna 89 170 = some 0 := by decide +kernel
theorem k89_203_10 : zcall 89 203 10 = some (89, 203, 10, 0, 59, 0, 0, [677, 650, 651, 62]) := zceq_ok (by decide +kernel)
theorem n89_203 : zna 89 203 = some 0 := by decide +kernel
theorem k89_207_10 : zcall 89 207 10 = some (89, 207, 10, 0, 60, 0, 0, [678, 654, 655, 62]) := zceq_ok (by decide +kernel)
theorem n89_207 : zna 89 207 = some 0 := by decide +kernel
theorem k89_210_99 : zcall 89 210 99 = some (89, 210, 99, 2, 118, 3, 0, [679, 680, 60]) := zceq_ok (by decide +kernel)
theorem n89_210 : zna 89 210 = some 3 := by decide +kernel
theorem k90_89_4 : zcall 90 89 4 = some (90, 89, 4, 0, 13, 1, 0, [541, 468, 469, 61]) := zceq_ok (by decide +kernel)
theorem n90_89 : zna 90 89 = some 1 := by decide +kernel
theorem k90_74_99 : zcall 90 74 99 = some (90, 74, 99, 2, 112, 3, 0, [432, 433, 60]) := zceq_ok (by decide +kernel)
theorem n90_74 : zna 90 74 = some 3 := by decide +kernel
theorem k90_210_99 : zcall 90 210 99 = some (90, 210, 99, 2, 118, 3, 0, [679, 680, 60]) := zceq_ok (by decide +kernel)
theorem n90_210 : zna 90 210 = some 3 := by decide +kernel
theorem k91_89_4 : zcall 91 89 4 = some (91, 89, 4, 0, 13, 1, 0, [541, 468, 469, 61]) := zceq_ok (by decide +kernel)
theorem n91_89 : zna 91 89 = some 1 := by decide +kernel
theorem k91_219_10 : zcall 91 219 10 = some (91, 219, 10, 0, 49, 0, 0, [691, 607, 608, 62]) := zceq_ok (by decide +kernel)
theorem n91_219 : zna 91 219 = some 0 := by decide +kernel
theorem k92_109_4 : zcall 92 109 4 = some (92, 109, 4, 0, 14, 1, 0, [553, 554, 555, 61]) := zceq_ok (by decide +kernel)
theorem n92_109 : zna 92 109 = some 1 := by decide +kernel
theorem k92_219_10 : zcall 92 219 10 = some (92, 219, 10, 0, 49, 0, 0, [691, 607, 608, 62]) := zceq_ok (by decide +kernel)
theorem n92_219 : zna 92 219 = some 0 := by decide +kernel
theorem k93_89_4 : zcall 93 89 4 = some (93, 89, 4, 0, 13, 1, 0, [541, 468, 469, 61]) := zceq_ok (by decide +kernel)
theorem n93_89 : zna 93 89 = some 1 := by decide +kernel
theorem k93_219_10 : zcall 93 219 10 = some (93, 219, 10, 0, 49, 0, 0, [691, 607, 608, 62]) := zceq_ok (by decide +kernel)
theorem n93_219 : zna 93 219 = some 0 := by decide +kernel
theorem k94_89_4 : zcall 94 89 4 = some (94, 89, 4, 0, 13, 1, 0, [541, 468, 469, 61]) := zceq_ok (by decide +kernel)
theorem n94_89 : zna 94 89 = some 1 := by decide +kernel
theorem k94_112_4 : zcall 94 112 4 = some (94, 112, 4, 0, 15, 1, 0, [557, 452, 453, 61]) := zceq_ok (by decide +kernel)
theorem n94_112 : zna 94 112 = some 1 := by decide +kernel
theorem k94_231_9 : zcall 94 231 9 = some (94, 231, 9, 0, 45, 1, 0, [704, 483, 484, 63]) := zceq_ok (by decide +kernel)
theorem n94_231 : zna 94 231 = some 1 := by decide +kernel
theorem k94_234_99 : zcall 94 234 99 = some (94, 234, 99, 2, 113, 1, 0, [705, 706, 60]) := zceq_ok (by decide +kernel)
theorem n94_234 : zna 94 234 = some 1 := by decide +kernel
theorem k94_241_4 : zcall 94 241 4 = some (94, 241, 4, 0, 23, 2, 0, [708, 709, 710, 61]) := zceq_ok (by decide +kernel)
theorem n94_241 : zna 94 241 = some 2 := by decide +kernel
theorem k95_109_4 : zcall 95 109 4 = some (95, 109, 4, 0, 14, 1, 0, [553, 554, 555, 61]) := zceq_ok (by decide +kernel)
theorem n95_109 : zna 95 109 = some 1 := by decide +kernel
theorem k95_158_9 : zcall 95 158 9 = some (95, 158, 9, 0, 43, 1, 0, [589, 503, 504, 63]) := zceq_ok (by decide +kernel)
theorem n95_158 : zna 95 158 = some 1 := by decide +kernel
theorem k95_234_99 : zcall 95 234 99 = some (95, 234, 99, 2, 113, 1, 0, [705, 706, 60]) := zceq_ok (by decide +kernel)
theorem n95_234 : zna 95 234 = some 1 := by decide +kernel
theorem k95_247_10 : zcall 95 247 10 = some (95, 247, 10, 0, 48, 1, 0, [717, 611, 612, 62]) := zceq_ok (by decide +kernel)
theorem n95_247 : zna 95 247 = some 1 := by decide +kernel
theorem k97_259_3 : zcall 97 259 3 = some (97, 259, 3, 0, 11, 2, 0, [726, 727, 728, 64]) := zceq_ok (by decide +kernel)
theorem n97_259 : zna 97 259 = some 2 := by decide +kernel
theorem k98_210_99 : zcall 98 210 99 = some (98, 210, 99, 2, 118, 3, 0, [679, 680, 60]) := zceq_ok (by decide +kernel)
theorem n98_210 : zna 98 210 = some 3 := by decide +kernel
theorem k98_266_10 : zcall 98 266 10 = some (98, 266, 10, 0, 65, 0, 0, [734, 735, 736, 62]) := zceq_ok (by decide +kernel)
theorem n98_266 : zna 98 266 = some 0 := by decide +kernel
theorem k99_74_99 : zcall 99 74 99 = some (99, 74, 99, 2, 112, 3, 0, [432, 433, 60]) := zceq_ok (by decide +kernel)
theorem n99_74 : zna 99 74 = some 3 := by decide +kernel
theorem k99_269_9 : zcall 99 269 9 = some (99, 269, 9, 0, 42, 1, 0, [742, 743, 744, 63]) := zceq_ok (by decide +kernel)
theorem n99_269 : zna 99 269 = some 1 := by decide +kernel
theorem k99_273_5 : zcall 99 273 5 = some (99, 273, 5, 0, 25, 1, 0, [749, 750, 751, 65]) := zceq_ok (by decide +kernel)
theorem n99_273 : zna 99 273 = some 1 := by decide +kernel
theorem k99_277_5 : zcall 99 277 5 = some (99, 277, 5, 0, 26, 1, 0, [773, 774, 775, 65]) := zceq_ok (by decide +kernel)
theorem n99_277 : zna 99 277 = some 1 := by decide +kernel
theorem k100_109_4 : zcall 100 109 4 = some (100, 109, 4, 0, 14, 1, 0, [553, 554, 555, 61]) := zceq_ok (by decide +kernel)
theorem n100_109 : zna 100 109 = some 1 := by decide +kernel
theorem k100_74_99 : zcall 100 74 99 = some (100, 74, 99, 2, 112, 3, 0, [432, 433, 60]) := zceq_ok (by decide +kernel)
theorem n100_74 : zna 100 74 = some 3 := by decide +kernel
theorem k100_100_4 : zcall 100 100 4 = some (100, 100, 4, 0, 17, 1, 0, [548, 499, 500, 61]) := zceq_ok (by decide +kernel)
theorem n100_100 : zna 100 100 = some 1 := by decide +kernel
theorem k100_279_10 : zcall 100 279 10 = some (100, 279, 10, 0, 64, 1, 0, [783, 784, 785, 62]) := zceq_ok (by decide +kernel)
theorem n100_279 : zna 100 279 = some 1 := by decide +kernel
theorem k100_78_11 : zcall 100 78 11 = some (100, 78, 11, 0, 105, 1, 0, [435, 437, 0, 60]) := zceq_ok (by decide +kernel)
theorem n100_78 : zna 100 78 = some 1 := by decide +kernel
theorem k100_269_9 : zcall 100 269 9 = some (100, 269, 9, 0, 42, 1, 0, [742, 743, 744, 63]) := zceq_ok (by decide +kernel)
theorem n100_269 : zna 100 269 = some 1 := by decide +kernel
theorem k100_282_11 : zcall 100 282 11 = some (100, 282, 11, 0, 108, 2, 0, [787, 789, 20, 60]) := zceq_ok (by decide +kernel)
theorem n100_282 : zna 100 282 = some 2 := by decide +kernel
theorem k100_181_11 : zcall 100 181 11 = some (100, 181, 11, 0, 106, 1, 0, [533, 535, 10, 60]) := zceq_ok (by decide +kernel)
theorem n100_181 : zna 100 181 = some 1 := by decide +kernel
theorem k101_112_4 : zcall 101 112 4 = some (101, 112, 4, 0, 15, 1, 0, [557, 452, 453, 61]) := zceq_ok (by decide +kernel)
theorem n101_112 : zna 101 112 = some 1 := by decide +kernel
theorem k101_74_99 : zcall 101 74 99 = some (101, 74, 99, 2, 112, 3, 0, [432, 433, 60]) := zceq_ok (by decide +kernel)
theorem n101_74 : zna 101 74 = some 3 := by decide +kernel
theorem k101_78_11 : zcall 101 78 11 = some (101, 78, 11, 0, 105, 1, 0, [435, 437, 0, 60]) := zceq_ok (by decide +kernel)
theorem n101_78 : zna 101 78 = some 1 := by decide +kernel
theorem k101_285_0 : zcall 101 285 0 = some (101, 285, 0, 0, 1, 3, 0, [803, 804, 805, 66]) := zceq_ok (by decide +kernel)
theorem n101_285 : zna 101 285 = some 3 := by decide +kernel
theorem k101_289_8 : zcall 101 289 8 = some (101, 289, 8, 1, 37, 1, 37, [808, 811, 809, 810, 809, 67]) := zceq_ok (by decide +kernel)
theorem n101_289 : zna 101 289 = some 1 := by decide +kernel
theorem k101_289_6 : zcall 101 289 6 = some (101, 289, 6, 1, 37, 1, 37, [808, 811, 809, 821, 809, 67]) := zceq_ok (by decide +kernel)
theorem k101_289_7 : zcall 101 289 7 = some (101, 289, 7, 1, 35, 1, 37, [808, 811, 809, 822, 823, 69]) := zceq_ok (by decide +kernel)
theorem k101_289_2 : zcall 101 289 2 = some (101, 289, 2, 1, 8, 1, 37, [808, 811, 809, 820, 813, 70]) := zceq_ok (by decide +kernel)
theorem k101_289_1 : zcall 101 289 1 = some (101, 289, 1, 1, 8, 1, 37, [808, 811, 809, 812, 813, 70]) := zceq_ok (by decide +kernel)
theorem k101_181_11 : zcall 101 181 11 = some (101, 181, 11, 0, 106, 1, 0, [533, 535, 10, 60]) := zceq_ok (by decide +kernel)
theorem n101_181 : zna 101 181 = some 1 := by decide +kernel
theorem k101_292_8 : zcall 101 292 8 = some (101, 292, 8, 1, 38, 1, 38, [829, 832, 830, 831, 830, 67]) := zceq_ok (by decide +kernel)
theorem n101_292 : zna 101 292 = some 1 := by decide +kernel
theorem k101_292_6 : zcall 101 292 6 = some (101, 292, 6, 1, 32, 1, 38, [829, 832, 830, 841, 842, 68]) := zceq_ok (by decide +kernel)
theorem k101_292_7 : zcall 101 292 7 = some (101, 292, 7, 1, 38, 1, 38, [829, 832, 830, 846, 830, 67]) := zceq_ok (by decide +kernel)
theorem k101_292_2 : zcall 101 292 2 = some (101, 292, 2, 1, 38, 1, 38, [829, 832, 830, 840, 830, 67]) := zceq_ok (by decide +kernel)
theorem k101_292_1 : zcall 101 292 1 = some (101, 292, 1, 1, 5, 1, 38, [829, 832, 830, 833, 834, 71]) := zceq_ok (by decide +kernel)
theorem k101_295_8 : zcall 101 295 8 = some (101, 295, 8, 1, 39, 1, 39, [849, 852, 850, 851, 850, 67]) := zceq_ok (by decide +kernel)
theorem n101_295 : zna 101 295 = some 1 := by decide +kernel
theorem k101_295_6 : zcall 101 295 6 = some (101, 295, 6, 1, 39, 1, 39, [849, 852, 850, 861, 850, 67]) := zceq_ok (by decide +kernel)
theorem k101_295_7 : zcall 101 295 7 = some (101, 295, 7, 1, 39, 1, 39, [849, 852, 850, 862, 850, 67]) := zceq_ok (by decide +kernel)
theorem k101_295_2 : zcall 101 295 2 = some (101, 295, 2, 1, 7, 1, 39, [849, 852, 850, 860, 857, 70]) := zceq_ok (by decide +kernel)
theorem k101_295_1 : zcall 101 295 1 = some (101, 295, 1, 1, 4, 1, 39, [849, 852, 850, 853, 854, 71]) := zceq_ok (by decide +kernel)
theorem k101_298_8 : zcall 101 298 8 = some (101, 298, 8, 1, 40, 1, 40, [864, 867, 865, 866, 865, 67]) := zceq_ok (by decide +kernel)
theorem n101_298 : zna 101 298 = some 1 := by decide +kernel
theorem k101_298_6 : zcall 101 298 6 = some (101, 298, 6, 1, 33, 1, 40, [864, 867, 865, 870, 871, 68]) := zceq_ok (by decide +kernel)
theorem k101_298_7 : zcall 101 298 7 = some (101, 298, 7, 1, 40, 1, 40, [864, 867, 865, 874, 865, 67]) := zceq_ok (by decide +kernel)
theorem k101_298_2 : zcall 101 298 2 = some (101, 298, 2, 1, 40, 1, 40, [864, 867, 865, 869, 865, 67]) := zceq_ok (by decide +kernel)
theorem k101_298_1 : zcall 101 298 1 = some (101, 298, 1, 1, 40, 1, 40, [864, 867, 865, 868, 865, 67]) := zceq_ok (by decide +kernel)
theorem k103_74_99 : zcall 103 74 99 = some (103, 74, 99, 2, 112, 3, 0, [432, 433, 60]) := zceq_ok (by decide +kernel)
theorem n103_74 : zna 103 74 = some 3 := by decide +kernel
theorem k103_78_11 : zcall 103 78 11 = some (103, 78, 11, 0, 105, 1, 0, [435, 437, 0, 60]) := zceq_ok (by decide +kernel)
theorem n103_78 : zna 103 78 = some 1 := by decide +kernel
theorem k103_304_99 : zcall 103 304 99 = some (103, 304, 99, 2, 186, 2, 0, [886, 887, 73]) := zceq_ok (by decide +kernel)
theorem n103_304 : zna 103 304 = some 2 := by decide +kernel
theorem k103_309_11 : zcall 103 309 11 = some (103, 309, 11, 0, 109, 2, 0, [889, 891, 21, 60]) := zceq_ok (by decide +kernel)
theorem n103_309 : zna 103 309 = some 2 := by decide +kernel
theorem k103_181_11 : zcall 103 181 11 = some (103, 181, 11, 0, 106, 1, 0, [533, 535, 10, 60]) := zceq_ok (by decide +kernel)
theorem n103_181 : zna 103 181 = some 1 := by decide +kernel
theorem k103_89_4 : zcall 103 89 4 = some (103, 89, 4, 0, 13, 1, 0, [541, 468, 469, 61]) := zceq_ok (by decide +kernel)
theorem n103_89 : zna 103 89 = some 1 := by decide +kernel
theorem k103_312_11 : zcall 103 312 11 = some (103, 312, 11, 0, 110, 2, 0, [898, 900, 22, 60]) := zceq_ok (by decide +kernel)
theorem n103_312 : zna 103 312 = some 2 := by decide +kernel
theorem k103_315_11 : zcall 103 315 11 = some (103, 315, 11, 0, 111, 1, 0, [906, 908, 23, 60]) := zceq_ok (by decide +kernel)
theorem n103_315 : zna 103 315 = some 1 := by decide +kernel
theorem k107_318_10 : zcall 107 318 10 = some (107, 318, 10, 0, 70, 0, 0, [447, 448, 449, 62]) := zceq_ok (by decide +kernel)
theorem n107_318 : zna 107 318 = some 0 := by decide +kernel
theorem k107_187_3 : zcall 107 187 3 = some (107, 187, 3, 0, 10, 1, 0, [522, 523, 524, 64]) := zceq_ok (by decide +kernel)
theorem n107_187 : zna 107 187 = some 1 := by decide +kernel
theorem k107_181_11 : zcall 107 181 11 = some (107, 181, 11, 0, 106, 1, 0, [533, 535, 10, 60]) := zceq_ok (by decide +kernel)
theorem n107_181 : zna 107 181 = some 1 := by decide +kernel
theorem k108_167_10 : zcall 108 167 10 = some (108, 167, 10, 0, 53, 0, 0, [602, 603, 604, 62]) := zceq_ok (by decide +kernel)
theorem n108_167 : zna 108 167 = some 0 := by decide +kernel
theorem k108_170_10 : zcall 108 170 10 = some (108, 170, 10, 0, 58, 0, 0, [641, 642, 643, 62]) := zceq_ok (by decide +kernel)
theorem n108_170 : zna 108 170 = some 0 := by decide +kernel
theorem k108_174_10 : zcall 108 174 10 = some (108, 174, 10, 0, 61, 1, 0, [645, 646, 647, 62]) := zceq_ok (by decide +kernel)
theorem n108_174 : zna 108 174 = some 1 := by decide +kernel
theorem k108_184_10 : zcall 108 184 10 = some (108, 184, 10, 0, 66, 0, 0, [661, 662, 663, 62]) := zceq_ok (by decide +kernel)
theorem n108_184 : zna 108 184 = some 0 := by decide +kernel
theorem k108_321_10 : zcall 108 321 10 = some (108, 321, 10, 0, 76, 2, 0, [791, 792, 793, 62]) := zceq_ok (by decide +kernel)
theorem n108_321 : zna 108 321 = some 2 := by decide +kernel
theorem k108_324_10 : zcall 108 324 10 = some (108, 324, 10, 0, 63, 1, 0, [795, 796, 797, 62]) := zceq_ok (by decide +kernel)
theorem n108_324 : zna 108 324 = some 1 := by decide +kernel
theorem k109_89_4 : zcall 109 89 4 = some (109, 89, 4, 0, 13, 1, 0, [541, 468, 469, 61]) := zceq_ok (by decide +kernel)
theorem n109_89 : zna 109 89 = some 1 := by decide +kernel
theorem k109_78_11 : zcall 109 78 11 = some (109, 78, 11, 0, 105, 1, 0, [435, 437, 0, 60]) := zceq_ok (by decide +kernel)
theorem n109_78 : zna 109 78 = some 1 := by decide +kernel
theorem k109_112_4 : zcall 109 112 4 = some (109, 112, 4, 0, 15, 1, 0, [557, 452, 453, 61]) := zceq_ok (by decide +kernel)
theorem n109_112 : zna 109 112 = some 1 := by decide +kernel
theorem k109_327_99 : zcall 109 327 99 = some (109, 327, 99, 2, 114, 2, 0, [893, 894, 60]) := zceq_ok (by decide +kernel)
theorem n109_327 : zna 109 327 = some 2 := by decide +kernel
theorem k109_181_11 : zcall 109 181 11 = some (109, 181, 11, 0, 106, 1, 0, [533, 535, 10, 60]) := zceq_ok (by decide +kernel)
theorem n109_181 : zna 109 181 = some 1 := by decide +kernel
theorem k110_78_11 : zcall 110 78 11 = some (110, 78, 11, 0, 105, 1, 0, [435, 437, 0, 60]) := zceq_ok (by decide +kernel)
theorem n110_78 : zna 110 78 = some 1 := by decide +kernel
theorem k110_330_4 : zcall 110 330 4 = some (110, 330, 4, 0, 16, 1, 0, [902, 903, 904, 61]) := zceq_ok (by decide +kernel)
theorem n110_330 : zna 110 330 = some 1 := by decide +kernel
theorem k110_181_11 : zcall 110 181 11 = some (110, 181, 11, 0, 106, 1, 0, [533, 535, 10, 60]) := zceq_ok (by decide +kernel)
theorem n110_181 : zna 110 181 = some 1 := by decide +kernel
theorem k111_89_4 : zcall 111 89 4 = some (111, 89, 4, 0, 13, 1, 0, [541, 468, 469, 61]) := zceq_ok (by decide +kernel)
theorem n111_89 : zna 111 89 = some 1 := by decide +kernel
theorem k111_181_11 : zcall 111 181 11 = some (111, 181, 11, 0, 106, 1, 0, [533, 535, 10, 60]) := zceq_ok (by decide +kernel)
theorem n111_181 : zna 111 181 = some 1 := by decide +kernel
theorem k111_100_4 : zcall 111 100 4 = some (111, 100, 4, 0, 17, 1, 0, [548, 499, 500, 61]) := zceq_ok (by decide +kernel)
theorem n111_100 : zna 111 100 = some 1 := by decide +kernel
theorem k111_330_4 : zcall 111 330 4 = some (111, 330, 4, 0, 16, 1, 0, [902, 903, 904, 61]) := zceq_ok (by decide +kernel)
theorem n111_330 : zna 111 330 = some 1 := by decide +kernel
theorem k111_78_11 : zcall 111 78 11 = some (111, 78, 11, 0, 105, 1, 0, [435, 437, 0, 60]) := zceq_ok (by decide +kernel)
theorem n111_78 : zna 111 78 = some 1 := by decide +kernel
theorem k114_74_99 : zcall 114 74 99 = some (114, 74, 99, 2, 112, 3, 0, [432, 433, 60]) := zceq_ok (by decide +kernel)
theorem n114_74 : zna 114 74 = some 3 := by decide +kernel
theorem k116_336_99 : zcall 116 336 99 = some (116, 336, 99, 2, 115, 2, 0, [529, 519, 60]) := zceq_ok (by decide +kernel)
theorem n116_336 : zna 116 336 = some 2 := by decide +kernel
theorem k117_336_99 : zcall 117 336 99 = some (117, 336, 99, 2, 115, 2, 0, [529, 519, 60]) := zceq_ok (by decide +kernel)
theorem n117_336 : zna 117 336 = some 2 := by decide +kernel
theorem k118_194_99 : zcall 118 194 99 = some (118, 194, 99, 2, 116, 2, 0, [670, 527, 60]) := zceq_ok (by decide +kernel)
theorem n118_194 : zna 118 194 = some 2 := by decide +kernel
theorem k118_198_99 : zcall 118 198 99 = some (118, 198, 99, 2, 117, 2, 0, [671, 531, 60]) := zceq_ok (by decide +kernel)
theorem n118_198 : zna 118 198 = some 2 := by decide +kernel
theorem k119_1_99 : zcall 119 1 99 = some (119, 1, 99, 7, 0, 0, 0, [919, 81]) := zceq_ok (by decide +kernel)
theorem n119_1 : zna 119 1 = some 0 := by decide +kernel
theorem k123_117_99 : zcall 123 117 99 = some (123, 117, 99, 2, 120, 3, 0, [1091, 1092, 72]) := zceq_ok (by decide +kernel)
theorem n123_117 : zna 123 117 = some 3 := by decide +kernel
theorem k124_117_99 : zcall 124 117 99 = some (124, 117, 99, 2, 120, 3, 0, [1091, 1092, 72]) := zceq_ok (by decide +kernel)
theorem n124_117 : zna 124 117 = some 3 := by decide +kernel
theorem k129_130_12 : zcall 129 130 12 = some (129, 130, 12, 0, 127, 1, 0, [1189, 1191, 38, 72]) := zceq_ok (by decide +kernel)
theorem n129_130 : zna 129 130 = some 1 := by decide +kernel
theorem k129_134_12 : zcall 129 134 12 = some (129, 134, 12, 0, 128, 2, 0, [1193, 1195, 39, 72]) := zceq_ok (by decide +kernel)
theorem n129_134 : zna 129 134 = some 2 := by decide +kernel
theorem k129_138_12 : zcall 129 138 12 = some (129, 138, 12, 0, 130, 1, 0, [1197, 1199, 40, 72]) := zceq_ok (by decide +kernel)
theorem n129_138 : zna 129 138 = some 1 := by decide +kernel
theorem k130_130_12 : zcall 130 130 12 = some (130, 130, 12, 0, 127, 1, 0, [1189, 1191, 38, 72]) := zceq_ok (by decide +kernel)
theorem n130_130 : zna 130 130 = some 1 := by decide +kernel
theorem k130_134_12 : zcall 130 134 12 = some (130, 134, 12, 0, 128, 2, 0, [1193, 1195, 39, 72]) := zceq_ok (by decide +kernel)
theorem n130_134 : zna 130 134 = some 2 := by decide +kernel
theorem k132_151_12 : zcall 132 151 12 = some (132, 151, 12, 0, 129, 0, 0, [1185, 1187, 37, 72]) := zceq_ok (by decide +kernel)
theorem n132_151 : zna 132 151 = some 0 := by decide +kernel
theorem k132_154_12 : zcall 132 154 12 = some (132, 154, 12, 0, 131, 2, 0, [1201, 1203, 41, 72]) := zceq_ok (by decide +kernel)
theorem n132_154 : zna 132 154 = some 2 := by decide +kernel
theorem k132_158_12 : zcall 132 158 12 = some (132, 158, 12, 0, 126, 1, 0, [1114, 1116, 29, 72]) := zceq_ok (by decide +kernel)
theorem n132_158 : zna 132 158 = some 1 := by decide +kernel
theorem k133_164_99 : zcall 133 164 99 = some (133, 164, 99, 2, 125, 2, 0, [1126, 1127, 72]) := zceq_ok (by decide +kernel)
theorem n133_164 : zna 133 164 = some 2 := by decide +kernel
theorem k134_164_99 : zcall 134 164 99 = some (134, 164, 99, 2, 125, 2, 0, [1126, 1127, 72]) := zceq_ok (by decide +kernel)
theorem n134_164 : zna 134 164 = some 2 := by decide +kernel
theorem k134_168_12 : zcall 134 168 12 = some (134, 168, 12, 0, 133, 5, 0, [1213, 1215, 44, 72]) := zceq_ok (by decide +kernel)
theorem n134_168 : zna 134 168 = some 5 := by decide +kernel
theorem k135_164_99 : zcall 135 164 99 = some (135, 164, 99, 2, 125, 2, 0, [1126, 1127, 72]) := zceq_ok (by decide +kernel)
theorem n135_164 : zna 135 164 = some 2 := by decide +kernel
theorem k138_189_12 : zcall 138 189 12 = some (138, 189, 12, 0, 137, 2, 0, [1106, 1108, 27, 72]) := zceq_ok (by decide +kernel)
theorem n138_189 : zna 138 189 = some 2 := by decide +kernel
theorem k138_192_12 : zcall 138 192 12 = some (138, 192, 12, 0, 136, 2, 0, [1110, 1112, 28, 72]) := zceq_ok (by decide +kernel)
theorem n138_192 : zna 138 192 = some 2 := by decide +kernel
theorem k138_158_12 : zcall 138 158 12 = some (138, 158, 12, 0, 126, 1, 0, [1114, 1116, 29, 72]) := zceq_ok (by decide +kernel)
theorem n138_158 : zna 138 158 = some 1 := by decide +kernel
theorem k138_196_12 : zcall 138 196 12 = some (138, 196, 12, 0, 139, 1, 0, [1118, 1120, 30, 72]) := zceq_ok (by decide +kernel)
theorem n138_196 : zna 138 196 = some 1 := by decide +kernel
theorem k138_199_12 : zcall 138 199 12 = some (138, 199, 12, 0, 135, 0, 0, [1122, 1124, 31, 72]) := zceq_ok (by decide +kernel)
theorem n138_199 : zna 138 199 = some 0 := by decide +kernel
theorem k139_189_12 : zcall 139 189 12 = some (139, 189, 12, 0, 137, 2, 0, [1106, 1108, 27, 72]) := zceq_ok (by decide +kernel)
theorem n139_189 : zna 139 189 = some 2 := by decide +kernel
theorem k140_202_12 : zcall 140 202 12 = some (140, 202, 12, 0, 138, 0, 0, [1102, 1104, 26, 72]) := zceq_ok (by decide +kernel)
theorem n140_202 : zna 140 202 = some 0 := by decide +kernel
theorem k140_205_12 : zcall 140 205 12 = some (140, 205, 12, 0, 122, 1, 0, [1129, 1131, 32, 72]) := zceq_ok (by decide +kernel)
theorem n140_205 : zna 140 205 = some 1 := by decide +kernel
theorem k141_117_99 : zcall 141 117 99 = some (141, 117, 99, 2, 120, 3, 0, [1091, 1092, 72]) := zceq_ok (by decide +kernel)
theorem n141_117 : zna 141 117 = some 3 := by decide +kernel
theorem k141_209_12 : zcall 141 209 12 = some (141, 209, 12, 0, 121, 1, 0, [1094, 1096, 24, 72]) := zceq_ok (by decide +kernel)
theorem n141_209 : zna 141 209 = some 1 := by decide +kernel
theorem k141_212_12 : zcall 141 212 12 = some (141, 212, 12, 0, 140, 1, 0, [1098, 1100, 25, 72]) := zceq_ok (by decide +kernel)
theorem n141_212 : zna 141 212 = some 1 := by decide +kernel
theorem k142_215_12 : zcall 142 215 12 = some (142, 215, 12, 0, 123, 1, 0, [1137, 1139, 33, 72]) := zceq_ok (by decide +kernel)
theorem n142_215 : zna 142 215 = some 1 := by decide +kernel
theorem k142_209_12 : zcall 142 209 12 = some (142, 209, 12, 0, 121, 1, 0, [1094, 1096, 24, 72]) := zceq_ok (by decide +kernel)
theorem n142_209 : zna 142 209 = some 1 := by decide +kernel
theorem k142_117_99 : zcall 142 117 99 = some (142, 117, 99, 2, 120, 3, 0, [1091, 1092, 72]) := zceq_ok (by decide +kernel)
theorem n142_117 : zna 142 117 = some 3 := by decide +kernel
theorem k142_212_12 : zcall 142 212 12 = some (142, 212, 12, 0, 140, 1, 0, [1098, 1100, 25, 72]) := zceq_ok (by decide +kernel)
theorem n142_212 : zna 142 212 = some 1 := by decide +kernel
theorem k143_215_12 : zcall 143 215 12 = some (143, 215, 12, 0, 123, 1, 0, [1137, 1139, 33, 72]) := zceq_ok (by decide +kernel)
theorem n143_215 : zna 143 215 = some 1 := by decide +kernel
theorem k143_218_12 : zcall 143 218 12 = some (143, 218, 12, 0, 124, 1, 0, [1145, 1147, 34, 72]) := zceq_ok (by decide +kernel)
theorem n143_218 : zna 143 218 = some 1 := by decide +kernel
theorem k143_209_12 : zcall 143 209 12 = some (143, 209, 12, 0, 121, 1, 0, [1094, 1096, 24, 72]) := zceq_ok (by decide +kernel)
theorem n143_209 : zna 143 209 = some 1 := by decide +kernel
theorem k143_212_12 : zcall 143 212 12 = some (143, 212, 12, 0, 140, 1, 0, [1098, 1100, 25, 72]) := zceq_ok (by decide +kernel)
theorem n143_212 : zna 143 212 = some 1 := by decide +kernel
theorem k144_215_12 : zcall 144 215 12 = some (144, 215, 12, 0, 123, 1, 0, [1137, 1139, 33, 72]) := zceq_ok (by decide +kernel)
theorem n144_215 : zna 144 215 = some 1 := by decide +kernel
theorem k145_215_12 : zcall 145 215 12 = some (145, 215, 12, 0, 123, 1, 0, [1137, 1139, 33, 72]) := zceq_ok (by decide +kernel)
theorem n145_215 : zna 145 215 = some 1 := by decide +kernel
theorem k145_221_12 : zcall 145 221 12 = some (145, 221, 12, 0, 144, 2, 0, [1153, 1155, 35, 72]) := zceq_ok (by decide +kernel)
theorem n145_221 : zna 145 221 = some 2 := by decide +kernel
theorem k145_209_12 : zcall 145 209 12 = some (145, 209, 12, 0, 121, 1, 0, [1094, 1096, 24, 72]) := zceq_ok (by decide +kernel)
theorem n145_209 : zna 145 209 = some 1 := by decide +kernel
theorem k145_212_12 : zcall 145 212 12 = some (145, 212, 12, 0, 140, 1, 0, [1098, 1100, 25, 72]) := zceq_ok (by decide +kernel)
theorem n145_212 : zna 145 212 = some 1 := by decide +kernel
theorem k146_215_12 : zcall 146 215 12 = some (146, 215, 12, 0, 123, 1, 0, [1137, 1139, 33, 72]) := zceq_ok (by decide +kernel)
theorem n146_215 : zna 146 215 = some 1 := by decide +kernel
theorem k146_221_12 : zcall 146 221 12 = some (146, 221, 12, 0, 144, 2, 0, [1153, 1155, 35, 72]) := zceq_ok (by decide +kernel)
theorem n146_221 : zna 146 221 = some 2 := by decide +kernel
theorem k146_209_12 : zcall 146 209 12 = some (146, 209, 12, 0, 121, 1, 0, [1094, 1096, 24, 72]) := zceq_ok (by decide +kernel)
theorem n146_209 : zna 146 209 = some 1 := by decide +kernel
theorem k146_212_12 : zcall 146 212 12 = some (146, 212, 12, 0, 140, 1, 0, [1098, 1100, 25, 72]) := zceq_ok (by decide +kernel)
theorem n146_212 : zna 146 212 = some 1 := by decide +kernel
theorem k147_215_12 : zcall 147 215 12 = some (147, 215, 12, 0, 123, 1, 0, [1137, 1139, 33, 72]) := zceq_ok (by decide +kernel)
theorem n147_215 : zna 147 215 = some 1 := by decide +kernel
theorem k147_221_12 : zcall 147 221 12 = some (147, 221, 12, 0, 144, 2, 0, [1153, 1155, 35, 72]) := zceq_ok (by decide +kernel)
theorem n147_221 : zna 147 221 = some 2 := by decide +kernel
theorem k147_117_99 : zcall 147 117 99 = some (147, 117, 99, 2, 120, 3, 0, [1091, 1092, 72]) := zceq_ok (by decide +kernel)
theorem n147_117 : zna 147 117 = some 3 := by decide +kernel
theorem k147_209_12 : zcall 147 209 12 = some (147, 209, 12, 0, 121, 1, 0, [1094, 1096, 24, 72]) := zceq_ok (by decide +kernel)
theorem n147_209 : zna 147 209 = some 1 := by decide +kernel
theorem k147_212_12 : zcall 147 212 12 = some (147, 212, 12, 0, 140, 1, 0, [1098, 1100, 25, 72]) := zceq_ok (by decide +kernel)
theorem n147_212 : zna 147 212 = some 1 := by decide +kernel
theorem k148_215_12 : zcall 148 215 12 = some (148, 215, 12, 0, 123, 1, 0, [1137, 1139, 33, 72]) := zceq_ok (by decide +kernel)
theorem n148_215 : zna 148 215 = some 1 := by decide +kernel
theorem k148_117_99 : zcall 148 117 99 = some (148, 117, 99, 2, 120, 3, 0, [1091, 1092, 72]) := zceq_ok (by decide +kernel)
theorem n148_117 : zna 148 117 = some 3 := by decide +kernel
theorem k148_209_12 : zcall 148 209 12 = some (148, 209, 12, 0, 121, 1, 0, [1094, 1096, 24, 72]) := zceq_ok (by decide +kernel)
theorem n148_209 : zna 148 209 = some 1 := by decide +kernel
theorem k148_192_12 : zcall 148 192 12 = some (148, 192, 12, 0, 136, 2, 0, [1110, 1112, 28, 72]) := zceq_ok (by decide +kernel)
theorem n148_192 : zna 148 192 = some 2 := by decide +kernel
theorem k148_212_12 : zcall 148 212 12 = some (148, 212, 12, 0, 140, 1, 0, [1098, 1100, 25, 72]) := zceq_ok (by decide +kernel)
theorem n148_212 : zna 148 212 = some 1 := by decide +kernel
theorem k149_218_12 : zcall 149 218 12 = some (149, 218, 12, 0, 124, 1, 0, [1145, 1147, 34, 72]) := zceq_ok (by decide +kernel)
theorem n149_218 : zna 149 218 = some 1 := by decide +kernel
theorem k149_209_12 : zcall 149 209 12 = some (149, 209, 12, 0, 121, 1, 0, [1094, 1096, 24, 72]) := zceq_ok (by decide +kernel)
theorem n149_209 : zna 149 209 = some 1 := by decide +kernel
theorem k149_212_12 : zcall 149 212 12 = some (149, 212, 12, 0, 140, 1, 0, [1098, 1100, 25, 72]) := zceq_ok (by decide +kernel)
theorem n149_212 : zna 149 212 = some 1 := by decide +kernel
theorem k150_218_12 : zcall 150 218 12 = some (150, 218, 12, 0, 124, 1, 0, [1145, 1147, 34, 72]) := zceq_ok (by decide +kernel)
theorem n150_218 : zna 150 218 = some 1 := by decide +kernel
theorem k150_117_99 : zcall 150 117 99 = some (150, 117, 99, 2, 120, 3, 0, [1091, 1092, 72]) := zceq_ok (by decide +kernel)
theorem n150_117 : zna 150 117 = some 3 := by decide +kernel
theorem k150_209_12 : zcall 150 209 12 = some (150, 209, 12, 0, 121, 1, 0, [1094, 1096, 24, 72]) := zceq_ok (by decide +kernel)
theorem n150_209 : zna 150 209 = some 1 := by decide +kernel
theorem k150_212_12 : zcall 150 212 12 = some (150, 212, 12, 0, 140, 1, 0, [1098, 1100, 25, 72]) := zceq_ok (by decide +kernel)
theorem n150_212 : zna 150 212 = some 1 := by decide +kernel
theorem k151_228_12 : zcall 151 228 12 = some (151, 228, 12, 0, 132, 0, 0, [1181, 1183, 36, 72]) := zceq_ok (by decide +kernel)
theorem n151_228 : zna 151 228 = some 0 := by decide +kernel
theorem k151_231_12 : zcall 151 231 12 = some (151, 231, 12, 0, 134, 2, 0, [1209, 1211, 43, 72]) := zceq_ok (by decide +kernel)
theorem n151_231 : zna 151 231 = some 2 := by decide +kernel
theorem k151_202_12 : zcall 151 202 12 = some (151, 202, 12, 0, 138, 0, 0, [1102, 1104, 26, 72]) := zceq_ok (by decide +kernel)
theorem n151_202 : zna 151 202 = some 0 := by decide +kernel
theorem k152_209_12 : zcall 152 209 12 = some (152, 209, 12, 0, 121, 1, 0, [1094, 1096, 24, 72]) := zceq_ok (by decide +kernel)
theorem n152_209 : zna 152 209 = some 1 := by decide +kernel
theorem k152_228_12 : zcall 152 228 12 = some (152, 228, 12, 0, 132, 0, 0, [1181, 1183, 36, 72]) := zceq_ok (by decide +kernel)
theorem n152_228 : zna 152 228 = some 0 := by decide +kernel
theorem k152_235_12 : zcall 152 235 12 = some (152, 235, 12, 0, 151, 1, 0, [1205, 1207, 42, 72]) := zceq_ok (by decide +kernel)
theorem n152_235 : zna 152 235 = some 1 := by decide +kernel
theorem k152_231_12 : zcall 152 231 12 = some (152, 231, 12, 0, 134, 2, 0, [1209, 1211, 43, 72]) := zceq_ok (by decide +kernel)
theorem n152_231 : zna 152 231 = some 2 := by decide +kernel
theorem k152_205_12 : zcall 152 205 12 = some (152, 205, 12, 0, 122, 1, 0, [1129, 1131, 32, 72]) := zceq_ok (by decide +kernel)
theorem n152_205 : zna 152 205 = some 1 := by decide +kernel
theorem k153_164_99 : zcall 153 164 99 = some (153, 164, 99, 2, 125, 2, 0, [1126, 1127, 72]) := zceq_ok (by decide +kernel)
theorem n153_164 : zna 153 164 = some 2 := by decide +kernel
theorem k154_239_99 : zcall 154 239 99 = some (154, 239, 99, 2, 153, 3, 0, [1222, 1223, 72]) := zceq_ok (by decide +kernel)
theorem n154_239 : zna 154 239 = some 3 := by decide +kernel
theorem k155_228_12 : zcall 155 228 12 = some (155, 228, 12, 0, 132, 0, 0, [1181, 1183, 36, 72]) := zceq_ok (by decide +kernel)
theorem n155_228 : zna 155 228 = some 0 := by decide +kernel
theorem k155_117_99 : zcall 155 117 99 = some (155, 117, 99, 2, 120, 3, 0, [1091, 1092, 72]) := zceq_ok (by decide +kernel)
theorem n155_117 : zna 155 117 = some 3 := by decide +kernel
theorem k155_164_99 : zcall 155 164 99 = some (155, 164, 99, 2, 125, 2, 0, [1126, 1127, 72]) := zceq_ok (by decide +kernel)
theorem n155_164 : zna 155 164 = some 2 := by decide +kernel
theorem k155_239_99 : zcall 155 239 99 = some (155, 239, 99, 2, 153, 3, 0, [1222, 1223, 72]) := zceq_ok (by decide +kernel)
theorem n155_239 : zna 155 239 = some 3 := by decide +kernel
theorem k156_215_12 : zcall 156 215 12 = some (156, 215, 12, 0, 123, 1, 0, [1137, 1139, 33, 72]) := zceq_ok (by decide +kernel)
theorem n156_215 : zna 156 215 = some 1 := by decide +kernel
theorem k156_117_99 : zcall 156 117 99 = some (156, 117, 99, 2, 120, 3, 0, [1091, 1092, 72]) := zceq_ok (by decide +kernel)
theorem n156_117 : zna 156 117 = some 3 := by decide +kernel
theorem k156_239_99 : zcall 156 239 99 = some (156, 239, 99, 2, 153, 3, 0, [1222, 1223, 72]) := zceq_ok (by decide +kernel)
theorem n156_239 : zna 156 239 = some 3 := by decide +kernel
theorem k157_151_12 : zcall 157 151 12 = some (157, 151, 12, 0, 129, 0, 0, [1185, 1187, 37, 72]) := zceq_ok (by decide +kernel)
theorem n157_151 : zna 157 151 = some 0 := by decide +kernel
theorem k157_215_12 : zcall 157 215 12 = some (157, 215, 12, 0, 123, 1, 0, [1137, 1139, 33, 72]) := zceq_ok (by decide +kernel)
theorem n157_215 : zna 157 215 = some 1 := by decide +kernel
theorem k158_151_12 : zcall 158 151 12 = some (158, 151, 12, 0, 129, 0, 0, [1185, 1187, 37, 72]) := zceq_ok (by decide +kernel)
theorem n158_151 : zna 158 151 = some 0 := by decide +kernel
theorem k158_218_12 : zcall 158 218 12 = some (158, 218, 12, 0, 124, 1, 0, [1145, 1147, 34, 72]) := zceq_ok (by decide +kernel)
theorem n158_218 : zna 158 218 = some 1 := by decide +kernel
theorem k159_151_12 : zcall 159 151 12 = some (159, 151, 12, 0, 129, 0, 0, [1185, 1187, 37, 72]) := zceq_ok (by decide +kernel)
theorem n159_151 : zna 159 151 = some 0 := by decide +kernel
theorem k159_215_12 : zcall 159 215 12 = some (159, 215, 12, 0, 123, 1, 0, [1137, 1139, 33, 72]) := zceq_ok (by decide +kernel)
theorem n159_215 : zna 159 215 = some 1 := by decide +kernel
theorem k160_215_12 : zcall 160 215 12 = some (160, 215, 12, 0, 123, 1, 0, [1137, 1139, 33, 72]) := zceq_ok (by decide +kernel)
theorem n160_215 : zna 160 215 = some 1 := by decide +kernel
theorem k160_158_12 : zcall 160 158 12 = some (160, 158, 12, 0, 126, 1, 0, [1114, 1116, 29, 72]) := zceq_ok (by decide +kernel)
theorem n160_158 : zna 160 158 = some 1 := by decide +kernel
theorem k161_218_12 : zcall 161 218 12 = some (161, 218, 12, 0, 124, 1, 0, [1145, 1147, 34, 72]) := zceq_ok (by decide +kernel)
theorem n161_218 : zna 161 218 = some 1 := by decide +kernel
theorem k161_130_12 : zcall 161 130 12 = some (161, 130, 12, 0, 127, 1, 0, [1189, 1191, 38, 72]) := zceq_ok (by decide +kernel)
theorem n161_130 : zna 161 130 = some 1 := by decide +kernel
theorem k163_117_99 : zcall 163 117 99 = some (163, 117, 99, 2, 120, 3, 0, [1091, 1092, 72]) := zceq_ok (by decide +kernel)
theorem n163_117 : zna 163 117 = some 3 := by decide +kernel
theorem k163_239_99 : zcall 163 239 99 = some (163, 239, 99, 2, 153, 3, 0, [1222, 1223, 72]) := zceq_ok (by decide +kernel)
theorem n163_239 : zna 163 239 = some 3 := by decide +kernel
theorem k164_239_99 : zcall 164 239 99 = some (164, 239, 99, 2, 153, 3, 0, [1222, 1223, 72]) := zceq_ok (by decide +kernel)
theorem n164_239 : zna 164 239 = some 3 := by decide +kernel
theorem k169_264_12 : zcall 169 264 12 = some (169, 264, 12, 0, 167, 1, 0, [1279, 1281, 47, 72]) := zceq_ok (by decide +kernel)
theorem n169_264 : zna 169 264 = some 1 := by decide +kernel
theorem k169_235_12 : zcall 169 235 12 = some (169, 235, 12, 0, 151, 1, 0, [1205, 1207, 42, 72]) := zceq_ok (by decide +kernel)
theorem n169_235 : zna 169 235 = some 1 := by decide +kernel
theorem k169_269_12 : zcall 169 269 12 = some (169, 269, 12, 0, 168, 2, 0, [1284, 1286, 48, 72]) := zceq_ok (by decide +kernel)
theorem n169_269 : zna 169 269 = some 2 := by decide +kernel
theorem k170_117_99 : zcall 170 117 99 = some (170, 117, 99, 2, 120, 3, 0, [1091, 1092, 72]) := zceq_ok (by decide +kernel)
theorem n170_117 : zna 170 117 = some 3 := by decide +kernel
theorem k170_278_12 : zcall 170 278 12 = some (170, 278, 12, 0, 165, 0, 0, [1271, 1273, 45, 72]) := zceq_ok (by decide +kernel)
theorem n170_278 : zna 170 278 = some 0 := by decide +kernel
theorem k170_281_12 : zcall 170 281 12 = some (170, 281, 12, 0, 169, 0, 0, [1275, 1277, 46, 72]) := zceq_ok (by decide +kernel)
theorem n170_281 : zna 170 281 = some 0 := by decide +kernel
theorem k170_285_12 : zcall 170 285 12 = some (170, 285, 12, 0, 166, 0, 0, [1288, 1290, 49, 72]) := zceq_ok (by decide +kernel)
theorem n170_285 : zna 170 285 = some 0 := by decide +kernel
theorem k170_239_99 : zcall 170 239 99 = some (170, 239, 99, 2, 153, 3, 0, [1222, 1223, 72]) := zceq_ok (by decide +kernel)
theorem n170_239 : zna 170 239 = some 3 := by decide +kernel
theorem k171_235_12 : zcall 171 235 12 = some (171, 235, 12, 0, 151, 1, 0, [1205, 1207, 42, 72]) := zceq_ok (by decide +kernel)
theorem n171_235 : zna 171 235 = some 1 := by decide +kernel
theorem k172_218_12 : zcall 172 218 12 = some (172, 218, 12, 0, 124, 1, 0, [1145, 1147, 34, 72]) := zceq_ok (by decide +kernel)
theorem n172_218 : zna 172 218 = some 1 := by decide +kernel
theorem k172_117_99 : zcall 172 117 99 = some (172, 117, 99, 2, 120, 3, 0, [1091, 1092, 72]) := zceq_ok (by decide +kernel)
theorem n172_117 : zna 172 117 = some 3 := by decide +kernel
theorem k172_215_12 : zcall 172 215 12 = some (172, 215, 12, 0, 123, 1, 0, [1137, 1139, 33, 72]) := zceq_ok (by decide +kernel)
theorem n172_215 : zna 172 215 = some 1 := by decide +kernel
theorem k172_158_12 : zcall 172 158 12 = some (172, 158, 12, 0, 126, 1, 0, [1114, 1116, 29, 72]) := zceq_ok (by decide +kernel)
theorem n172_158 : zna 172 158 = some 1 := by decide +kernel
theorem k172_209_12 : zcall 172 209 12 = some (172, 209, 12, 0, 121, 1, 0, [1094, 1096, 24, 72]) := zceq_ok (by decide +kernel)
theorem n172_209 : zna 172 209 = some 1 := by decide +kernel
theorem k172_278_12 : zcall 172 278 12 = some (172, 278, 12, 0, 165, 0, 0, [1271, 1273, 45, 72]) := zceq_ok (by decide +kernel)
theorem n172_278 : zna 172 278 = some 0 := by decide +kernel
theorem k172_288_12 : zcall 172 288 12 = some (172, 288, 12, 0, 171, 1, 0, [1296, 1298, 50, 72]) := zceq_ok (by decide +kernel)
theorem n172_288 : zna 172 288 = some 1 := by decide +kernel
theorem k172_285_12 : zcall 172 285 12 = some (172, 285, 12, 0, 166, 0, 0, [1288, 1290, 49, 72]) := zceq_ok (by decide +kernel)
theorem n172_285 : zna 172 285 = some 0 := by decide +kernel
theorem k172_205_12 : zcall 172 205 12 = some (172, 205, 12, 0, 122, 1, 0, [1129, 1131, 32, 72]) := zceq_ok (by decide +kernel)
theorem n172_205 : zna 172 205 = some 1 := by decide +kernel
theorem k174_291_12 : zcall 174 291 12 = some (174, 291, 12, 0, 173, 1, 0, [1308, 1310, 52, 72]) := zceq_ok (by decide +kernel)
theorem n174_291 : zna 174 291 = some 1 := by decide +kernel
theorem k175_291_12 : zcall 175 291 12 = some (175, 291, 12, 0, 173, 1, 0, [1308, 1310, 52, 72]) := zceq_ok (by decide +kernel)
theorem n175_291 : zna 175 291 = some 1 := by decide +kernel
theorem k175_294_12 : zcall 175 294 12 = some (175, 294, 12, 0, 174, 2, 0, [1312, 1314, 53, 72]) := zceq_ok (by decide +kernel)
theorem n175_294 : zna 175 294 = some 2 := by decide +kernel
theorem k175_158_12 : zcall 175 158 12 = some (175, 158, 12, 0, 126, 1, 0, [1114, 1116, 29, 72]) := zceq_ok (by decide +kernel)
theorem n175_158 : zna 175 158 = some 1 := by decide +kernel
theorem k176_291_12 : zcall 176 291 12 = some (176, 291, 12, 0, 173, 1, 0, [1308, 1310, 52, 72]) := zceq_ok (by decide +kernel)
theorem n176_291 : zna 176 291 = some 1 := by decide +kernel
theorem k176_298_12 : zcall 176 298 12 = some (176, 298, 12, 0, 175, 2, 0, [1304, 1306, 51, 72]) := zceq_ok (by decide +kernel)
theorem n176_298 : zna 176 298 = some 2 := by decide +kernel
theorem k177_291_12 : zcall 177 291 12 = some (177, 291, 12, 0, 173, 1, 0, [1308, 1310, 52, 72]) := zceq_ok (by decide +kernel)
theorem n177_291 : zna 177 291 = some 1 := by decide +kernel
theorem k177_301_12 : zcall 177 301 12 = some (177, 301, 12, 0, 176, 2, 0, [1320, 1322, 55, 72]) := zceq_ok (by decide +kernel)
theorem n177_301 : zna 177 301 = some 2 := by decide +kernel
theorem k178_291_12 : zcall 178 291 12 = some (178, 291, 12, 0, 173, 1, 0, [1308, 1310, 52, 72]) := zceq_ok (by decide +kernel)
theorem n178_291 : zna 178 291 = some 1 := by decide +kernel
theorem k178_158_12 : zcall 178 158 12 = some (178, 158, 12, 0, 126, 1, 0, [1114, 1116, 29, 72]) := zceq_ok (by decide +kernel)
theorem n178_158 : zna 178 158 = some 1 := by decide +kernel
theorem k179_291_12 : zcall 179 291 12 = some (179, 291, 12, 0, 173, 1, 0, [1308, 1310, 52, 72]) := zceq_ok (by decide +kernel)
theorem n179_291 : zna 179 291 = some 1 := by decide +kernel
theorem k179_304_12 : zcall 179 304 12 = some (179, 304, 12, 0, 177, 2, 0, [1316, 1318, 54, 72]) := zceq_ok (by decide +kernel)
theorem n179_304 : zna 179 304 = some 2 := by decide +kernel
theorem k179_307_12 : zcall 179 307 12 = some (179, 307, 12, 0, 178, 2, 0, [1324, 1326, 56, 72]) := zceq_ok (by decide +kernel)
theorem n179_307 : zna 179 307 = some 2 := by decide +kernel
theorem k180_215_12 : zcall 180 215 12 = some (180, 215, 12, 0, 123, 1, 0, [1137, 1139, 33, 72]) := zceq_ok (by decide +kernel)
theorem n180_215 : zna 180 215 = some 1 := by decide +kernel
theorem k180_117_99 : zcall 180 117 99 = some (180, 117, 99, 2, 120, 3, 0, [1091, 1092, 72]) := zceq_ok (by decide +kernel)
theorem n180_117 : zna 180 117 = some 3 := by decide +kernel
theorem k180_209_12 : zcall 180 209 12 = some (180, 209, 12, 0, 121, 1, 0, [1094, 1096, 24, 72]) := zceq_ok (by decide +kernel)
theorem n180_209 : zna 180 209 = some 1 := by decide +kernel
theorem k180_298_12 : zcall 180 298 12 = some (180, 298, 12, 0, 175, 2, 0, [1304, 1306, 51, 72]) := zceq_ok (by decide +kernel)
theorem n180_298 : zna 180 298 = some 2 := by decide +kernel
theorem k180_304_12 : zcall 180 304 12 = some (180, 304, 12, 0, 177, 2, 0, [1316, 1318, 54, 72]) := zceq_ok (by decide +kernel)
theorem n180_304 : zna 180 304 = some 2 := by decide +kernel
theorem k180_307_12 : zcall 180 307 12 = some (180, 307, 12, 0, 178, 2, 0, [1324, 1326, 56, 72]) := zceq_ok (by decide +kernel)
theorem n180_307 : zna 180 307 = some 2 := by decide +kernel
theorem k180_310_12 : zcall 180 310 12 = some (180, 310, 12, 0, 179, 2, 0, [1328, 1330, 57, 72]) := zceq_ok (by decide +kernel)
theorem n180_310 : zna 180 310 = some 2 := by decide +kernel
theorem k180_205_12 : zcall 180 205 12 = some (180, 205, 12, 0, 122, 1, 0, [1129, 1131, 32, 72]) := zceq_ok (by decide +kernel)
theorem n180_205 : zna 180 205 = some 1 := by decide +kernel
theorem k181_117_99 : zcall 181 117 99 = some (181, 117, 99, 2, 120, 3, 0, [1091, 1092, 72]) := zceq_ok (by decide +kernel)
theorem n181_117 : zna 181 117 = some 3 := by decide +kernel
theorem k184_117_99 : zcall 184 117 99 = some (184, 117, 99, 2, 120, 3, 0, [1091, 1092, 72]) := zceq_ok (by decide +kernel)
theorem n184_117 : zna 184 117 = some 3 := by decide +kernel
theorem k184_209_12 : zcall 184 209 12 = some (184, 209, 12, 0, 121, 1, 0, [1094, 1096, 24, 72]) := zceq_ok (by decide +kernel)
theorem n184_209 : zna 184 209 = some 1 := by decide +kernel
theorem k184_313_99 : zcall 184 313 99 = some (184, 313, 99, 2, 182, 2, 0, [1340, 1341, 72]) := zceq_ok (by decide +kernel)
theorem n184_313 : zna 184 313 = some 2 := by decide +kernel
theorem k184_215_12 : zcall 184 215 12 = some (184, 215, 12, 0, 123, 1, 0, [1137, 1139, 33, 72]) := zceq_ok (by decide +kernel)
theorem n184_215 : zna 184 215 = some 1 := by decide +kernel
theorem k184_205_12 : zcall 184 205 12 = some (184, 205, 12, 0, 122, 1, 0, [1129, 1131, 32, 72]) := zceq_ok (by decide +kernel)
theorem n184_205 : zna 184 205 = some 1 := by decide +kernel
theorem k184_316_12 : zcall 184 316 12 = some (184, 316, 12, 0, 183, 2, 0, [1343, 1345, 58, 72]) := zceq_ok (by decide +kernel)
theorem n184_316 : zna 184 316 = some 2 := by decide +kernel
theorem k184_158_12 : zcall 184 158 12 = some (184, 158, 12, 0, 126, 1, 0, [1114, 1116, 29, 72]) := zceq_ok (by decide +kernel)
theorem n184_158 : zna 184 158 = some 1 := by decide +kernel
theorem k189_9_99 : zcall 189 9 99 = some (189, 9, 99, 4, 77, 0, 0, [77, 78, 60]) := zceq_ok (by decide +kernel)
theorem n189_9 : zna 189 9 = some 0 := by decide +kernel
theorem k189_12_99 : zcall 189 12 99 = some (189, 12, 99, 4, 119, 0, 0, [916, 917, 72]) := zceq_ok (by decide +kernel)
theorem n189_12 : zna 189 12 = some 0 := by decide +kernel
theorem k189_13_11 : zcall 189 13 11 = some (189, 13, 11, 0, 78, 2, 0, [428, 429, 430, 60]) := zceq_ok (by decide +kernel)
theorem n189_13 : zna 189 13 = some 2 := by decide +kernel
theorem k189_17_12 : zcall 189 17 12 = some (189, 17, 12, 0, 141, 2, 0, [1087, 1088, 1089, 72]) := zceq_ok (by decide +kernel)
theorem n189_17 : zna 189 17 = some 2 := by decide +kernel
theorem k189_18_11 : zcall 189 18 11 = some (189, 18, 11, 0, 79, 3, 0, [537, 538, 539, 60]) := zceq_ok (by decide +kernel)
theorem n189_18 : zna 189 18 = some 3 := by decide +kernel
theorem k189_22_12 : zcall 189 22 12 = some (189, 22, 12, 0, 142, 3, 0, [1133, 1134, 1135, 72]) := zceq_ok (by decide +kernel)
theorem n189_22 : zna 189 22 = some 3 := by decide +kernel
theorem k189_23_11 : zcall 189 23 11 = some (189, 23, 11, 0, 80, 2, 0, [549, 550, 551, 60]) := zceq_ok (by decide +kernel)
theorem n189_23 : zna 189 23 = some 2 := by decide +kernel
theorem k189_26_12 : zcall 189 26 12 = some (189, 26, 12, 0, 143, 2, 0, [1141, 1142, 1143, 72]) := zceq_ok (by decide +kernel)
theorem n189_26 : zna 189 26 = some 2 := by decide +kernel
theorem k189_27_11 : zcall 189 27 11 = some (189, 27, 11, 0, 81, 2, 0, [558, 559, 560, 60]) := zceq_ok (by decide +kernel)
theorem n189_27 : zna 189 27 = some 2 := by decide +kernel
theorem k189_30_12 : zcall 189 30 12 = some (189, 30, 12, 0, 145, 2, 0, [1149, 1150, 1151, 72]) := zceq_ok (by decide +kernel)
theorem n189_30 : zna 189 30 = some 2 := by decide +kernel
theorem k189_31_11 : zcall 189 31 11 = some (189, 31, 11, 0, 82, 2, 0, [567, 568, 569, 60]) := zceq_ok (by decide +kernel)
theorem n189_31 : zna 189 31 = some 2 := by decide +kernel
theorem k189_34_12 : zcall 189 34 12 = some (189, 34, 12, 0, 146, 2, 0, [1157, 1158, 1159, 72]) := zceq_ok (by decide +kernel)
theorem n189_34 : zna 189 34 = some 2 := by decide +kernel
theorem k189_35_11 : zcall 189 35 11 = some (189, 35, 11, 0, 83, 3, 0, [571, 572, 573, 60]) := zceq_ok (by decide +kernel)
theorem n189_35 : zna 189 35 = some 3 := by decide +kernel
theorem k189_38_12 : zcall 189 38 12 = some (189, 38, 12, 0, 147, 3, 0, [1161, 1162, 1163, 72]) := zceq_ok (by decide +kernel)
theorem n189_38 : zna 189 38 = some 3 := by decide +kernel
theorem k189_39_11 : zcall 189 39 11 = some (189, 39, 11, 0, 84, 2, 0, [580, 581, 582, 60]) := zceq_ok (by decide +kernel)
theorem n189_39 : zna 189 39 = some 2 := by decide +kernel
theorem k189_42_12 : zcall 189 42 12 = some (189, 42, 12, 0, 148, 2, 0, [1165, 1166, 1167, 72]) := zceq_ok (by decide +kernel)
theorem n189_42 : zna 189 42 = some 2 := by decide +kernel
theorem k189_43_11 : zcall 189 43 11 = some (189, 43, 11, 0, 85, 2, 0, [585, 586, 587, 60]) := zceq_ok (by decide +kernel)
theorem n189_43 : zna 189 43 = some 2 := by decide +kernel
theorem k189_47_12 : zcall 189 47 12 = some (189, 47, 12, 0, 149, 2, 0, [1169, 1170, 1171, 72]) := zceq_ok (by decide +kernel)
theorem n189_47 : zna 189 47 = some 2 := by decide +kernel
theorem k189_48_11 : zcall 189 48 11 = some (189, 48, 11, 0, 86, 2, 0, [590, 591, 592, 60]) := zceq_ok (by decide +kernel)
theorem n189_48 : zna 189 48 = some 2 := by decide +kernel
theorem k189_51_12 : zcall 189 51 12 = some (189, 51, 12, 0, 150, 2, 0, [1173, 1174, 1175, 72]) := zceq_ok (by decide +kernel)
theorem n189_51 : zna 189 51 = some 2 := by decide +kernel
theorem k189_52_11 : zcall 189 52 11 = some (189, 52, 11, 0, 87, 1, 0, [594, 595, 596, 60]) := zceq_ok (by decide +kernel)
theorem n189_52 : zna 189 52 = some 1 := by decide +kernel
theorem k189_56_12 : zcall 189 56 12 = some (189, 56, 12, 0, 152, 1, 0, [1177, 1178, 1179, 72]) := zceq_ok (by decide +kernel)
theorem n189_56 : zna 189 56 = some 1 := by decide +kernel
theorem k189_57_11 : zcall 189 57 11 = some (189, 57, 11, 0, 88, 1, 0, [666, 667, 668, 60]) := zceq_ok (by decide +kernel)
theorem n189_57 : zna 189 57 = some 1 := by decide +kernel
theorem k189_60_12 : zcall 189 60 12 = some (189, 60, 12, 0, 154, 1, 0, [1218, 1219, 1220, 72]) := zceq_ok (by decide +kernel)
theorem n189_60 : zna 189 60 = some 1 := by decide +kernel
theorem k189_61_11 : zcall 189 61 11 = some (189, 61, 11, 0, 89, 1, 0, [672, 673, 674, 60]) := zceq_ok (by decide +kernel)
theorem n189_61 : zna 189 61 = some 1 := by decide +kernel
theorem k189_65_12 : zcall 189 65 12 = some (189, 65, 12, 0, 155, 1, 0, [1225, 1226, 1227, 72]) := zceq_ok (by decide +kernel)
theorem n189_65 : zna 189 65 = some 1 := by decide +kernel
theorem k189_66_11 : zcall 189 66 11 = some (189, 66, 11, 0, 90, 2, 0, [682, 683, 684, 60]) := zceq_ok (by decide +kernel)
theorem n189_66 : zna 189 66 = some 2 := by decide +kernel
theorem k189_69_12 : zcall 189 69 12 = some (189, 69, 12, 0, 156, 2, 0, [1230, 1231, 1232, 72]) := zceq_ok (by decide +kernel)
theorem n189_69 : zna 189 69 = some 2 := by decide +kernel
theorem k189_70_11 : zcall 189 70 11 = some (189, 70, 11, 0, 91, 1, 0, [686, 687, 688, 60]) := zceq_ok (by decide +kernel)
theorem n189_70 : zna 189 70 = some 1 := by decide +kernel
theorem k189_73_12 : zcall 189 73 12 = some (189, 73, 12, 0, 157, 1, 0, [1234, 1235, 1236, 72]) := zceq_ok (by decide +kernel)
theorem n189_73 : zna 189 73 = some 1 := by decide +kernel
theorem k189_74_11 : zcall 189 74 11 = some (189, 74, 11, 0, 92, 1, 0, [692, 693, 694, 60]) := zceq_ok (by decide +kernel)
theorem n189_74 : zna 189 74 = some 1 := by decide +kernel
theorem k189_77_12 : zcall 189 77 12 = some (189, 77, 12, 0, 158, 1, 0, [1239, 1240, 1241, 72]) := zceq_ok (by decide +kernel)
theorem n189_77 : zna 189 77 = some 1 := by decide +kernel
theorem k189_78_11 : zcall 189 78 11 = some (189, 78, 11, 0, 93, 1, 0, [696, 697, 698, 60]) := zceq_ok (by decide +kernel)
theorem n189_78 : zna 189 78 = some 1 := by decide +kernel
theorem k189_81_12 : zcall 189 81 12 = some (189, 81, 12, 0, 159, 1, 0, [1243, 1244, 1245, 72]) := zceq_ok (by decide +kernel)
theorem n189_81 : zna 189 81 = some 1 := by decide +kernel
theorem k189_82_11 : zcall 189 82 11 = some (189, 82, 11, 0, 94, 2, 0, [700, 701, 702, 60]) := zceq_ok (by decide +kernel)
theorem n189_82 : zna 189 82 = some 2 := by decide +kernel
theorem k189_85_12 : zcall 189 85 12 = some (189, 85, 12, 0, 160, 2, 0, [1247, 1248, 1249, 72]) := zceq_ok (by decide +kernel)
theorem n189_85 : zna 189 85 = some 2 := by decide +kernel
theorem k189_86_11 : zcall 189 86 11 = some (189, 86, 11, 0, 95, 2, 0, [713, 714, 715, 60]) := zceq_ok (by decide +kernel)
theorem n189_86 : zna 189 86 = some 2 := by decide +kernel
theorem k189_89_12 : zcall 189 89 12 = some (189, 89, 12, 0, 161, 2, 0, [1251, 1252, 1253, 72]) := zceq_ok (by decide +kernel)
theorem n189_89 : zna 189 89 = some 2 := by decide +kernel
theorem k189_90_11 : zcall 189 90 11 = some (189, 90, 11, 0, 96, 1, 0, [718, 719, 720, 60]) := zceq_ok (by decide +kernel)
theorem n189_90 : zna 189 90 = some 1 := by decide +kernel
theorem k189_93_12 : zcall 189 93 12 = some (189, 93, 12, 0, 162, 1, 0, [1255, 1256, 1257, 72]) := zceq_ok (by decide +kernel)
theorem n189_93 : zna 189 93 = some 1 := by decide +kernel
theorem k189_94_11 : zcall 189 94 11 = some (189, 94, 11, 0, 97, 2, 0, [722, 723, 724, 60]) := zceq_ok (by decide +kernel)
theorem n189_94 : zna 189 94 = some 2 := by decide +kernel
theorem k189_97_12 : zcall 189 97 12 = some (189, 97, 12, 0, 163, 2, 0, [1259, 1260, 1261, 72]) := zceq_ok (by decide +kernel)
theorem n189_97 : zna 189 97 = some 2 := by decide +kernel
theorem k189_98_11 : zcall 189 98 11 = some (189, 98, 11, 0, 98, 1, 0, [730, 731, 732, 60]) := zceq_ok (by decide +kernel)
theorem n189_98 : zna 189 98 = some 1 := by decide +kernel
theorem k189_101_12 : zcall 189 101 12 = some (189, 101, 12, 0, 164, 1, 0, [1263, 1264, 1265, 72]) := zceq_ok (by decide +kernel)
theorem n189_101 : zna 189 101 = some 1 := by decide +kernel
theorem k189_102_11 : zcall 189 102 11 = some (189, 102, 11, 0, 99, 1, 0, [738, 739, 740, 60]) := zceq_ok (by decide +kernel)
theorem n189_102 : zna 189 102 = some 1 := by decide +kernel
theorem k189_105_12 : zcall 189 105 12 = some (189, 105, 12, 0, 170, 1, 0, [1267, 1268, 1269, 72]) := zceq_ok (by decide +kernel)
theorem n189_105 : zna 189 105 = some 1 := by decide +kernel
theorem k189_106_11 : zcall 189 106 11 = some (189, 106, 11, 0, 100, 5, 0, [779, 780, 781, 60]) := zceq_ok (by decide +kernel)
theorem n189_106 : zna 189 106 = some 5 := by decide +kernel
theorem k189_110_12 : zcall 189 110 12 = some (189, 110, 12, 0, 172, 5, 0, [1292, 1293, 1294, 72]) := zceq_ok (by decide +kernel)
theorem n189_110 : zna 189 110 = some 5 := by decide +kernel
theorem k189_111_11 : zcall 189 111 11 = some (189, 111, 11, 0, 101, 3, 0, [799, 800, 801, 60]) := zceq_ok (by decide +kernel)
theorem n189_111 : zna 189 111 = some 3 := by decide +kernel
theorem k189_114_12 : zcall 189 114 12 = some (189, 114, 12, 0, 180, 3, 0, [1300, 1301, 1302, 72]) := zceq_ok (by decide +kernel)
theorem n189_114 : zna 189 114 = some 3 := by decide +kernel
theorem k189_115_11 : zcall 189 115 11 = some (189, 115, 11, 0, 102, 1, 0, [878, 879, 880, 60]) := zceq_ok (by decide +kernel)
theorem n189_115 : zna 189 115 = some 1 := by decide +kernel
theorem k189_118_12 : zcall 189 118 12 = some (189, 118, 12, 0, 181, 1, 0, [1332, 1333, 1334, 72]) := zceq_ok (by decide +kernel)
theorem n189_118 : zna 189 118 = some 1 := by decide +kernel
theorem k189_119_11 : zcall 189 119 11 = some (189, 119, 11, 0, 103, 3, 0, [882, 883, 884, 60]) := zceq_ok (by decide +kernel)
theorem n189_119 : zna 189 119 = some 3 := by decide +kernel
theorem k189_122_12 : zcall 189 122 12 = some (189, 122, 12, 0, 184, 3, 0, [1336, 1337, 1338, 72]) := zceq_ok (by decide +kernel)
theorem n189_122 : zna 189 122 = some 3 := by decide +kernel
theorem k189_123_11 : zcall 189 123 11 = some (189, 123, 11, 0, 104, 0, 0, [910, 911, 912, 60]) := zceq_ok (by decide +kernel)
theorem n189_123 : zna 189 123 = some 0 := by decide +kernel
theorem k189_127_12 : zcall 189 127 12 = some (189, 127, 12, 0, 185, 0, 0, [1347, 1348, 1349, 72]) := zceq_ok (by decide +kernel)
theorem n189_127 : zna 189 127 = some 0 := by decide +kernel
theorem r0 : zret 0 = none := by decide +kernel
theorem u0 : 1 = (zrm 0).cells ∧ 50 = (zrm 0).slots := by decide +kernel
theorem r1 : zret 1 = none := by decide +kernel
theorem u1 : 0 = (zrm 1).cells ∧ 0 = (zrm 1).slots := by decide +kernel
theorem r2 : zret 2 = none := by decide +kernel
theorem u2 : 0 = (zrm 2).cells ∧ 0 = (zrm 2).slots := by decide +kernel
theorem r3 : zret 3 = none := by decide +kernel
theorem u3 : 0 = (zrm 3).cells ∧ 0 = (zrm 3).slots := by decide +kernel
theorem r4 : zret 4 = some .int := by decide +kernel
theorem u4 : 0 = (zrm 4).cells ∧ 0 = (zrm 4).slots := by decide +kernel
theorem r5 : zret 5 = some .int := by decide +kernel
theorem u5 : 0 = (zrm 5).cells ∧ 0 = (zrm 5).slots := by decide +kernel
theorem r6 : zret 6 = none := by decide +kernel
theorem u6 : 0 = (zrm 6).cells ∧ 0 = (zrm 6).slots := by decide +kernel
theorem r7 : zret 7 = some .int := by decide +kernel
theorem u7 : 0 = (zrm 7).cells ∧ 0 = (zrm 7).slots := by decide +kernel
theorem r8 : zret 8 = some .int := by decide +kernel
theorem u8 : 0 = (zrm 8).cells ∧ 0 = (zrm 8).slots := by decide +kernel
theorem r9 : zret 9 = none := by decide +kernel
theorem u9 : 4 = (zrm 9).cells ∧ 1600 = (zrm 9).slots := by decide +kernel
theorem r10 : zret 10 = none := by decide +kernel
theorem u10 : 0 = (zrm 10).cells ∧ 0 = (zrm 10).slots := by decide +kernel
theorem r11 : zret 11 = some .int := by decide +kernel
theorem u11 : 0 = (zrm 11).cells ∧ 0 = (zrm 11).slots := by decide +kernel
theorem r12 : zret 12 = none := by decide +kernel
theorem u12 : 9 = (zrm 12).cells ∧ 84 = (zrm 12).slots := by decide +kernel
theorem r13 : zret 13 = some .boolean := by decide +kernel
theorem u13 : 0 = (zrm 13).cells ∧ 0 = (zrm 13).slots := by decide +kernel
theorem r14 : zret 14 = some .boolean := by decide +kernel
theorem u14 : 0 = (zrm 14).cells ∧ 0 = (zrm 14).slots := by decide +kernel
theorem r15 : zret 15 = some .int := by decide +kernel
theorem u15 : 0 = (zrm 15).cells ∧ 0 = (zrm 15).slots := by decide +kernel
theorem r16 : zret 16 = some .int := by decide +kernel
theorem u16 : 0 = (zrm 16).cells ∧ 0 = (zrm 16).slots := by decide +kernel
theorem r17 : zret 17 = some .boolean := by decide +kernel
theorem u17 : 0 = (zrm 17).cells ∧ 0 = (zrm 17).slots := by decide +kernel
theorem r18 : zret 18 = some .boolean := by decide +kernel
theorem u18 : 0 = (zrm 18).cells ∧ 0 = (zrm 18).slots := by decide +kernel
theorem r19 : zret 19 = some .boolean := by decide +kernel
theorem u19 : 0 = (zrm 19).cells ∧ 0 = (zrm 19).slots := by decide +kernel
theorem r20 : zret 20 = some .int := by decide +kernel
theorem u20 : 0 = (zrm 20).cells ∧ 0 = (zrm 20).slots := by decide +kernel
theorem r21 : zret 21 = some .int := by decide +kernel
theorem u21 : 0 = (zrm 21).cells ∧ 0 = (zrm 21).slots := by decide +kernel
theorem r22 : zret 22 = some .int := by decide +kernel
theorem u22 : 0 = (zrm 22).cells ∧ 0 = (zrm 22).slots := by decide +kernel
theorem r23 : zret 23 = some .int := by decide +kernel
theorem u23 : 0 = (zrm 23).cells ∧ 0 = (zrm 23).slots := by decide +kernel
theorem r24 : zret 24 = none := by decide +kernel
theorem u24 : 5 = (zrm 24).cells ∧ 1812 = (zrm 24).slots := by decide +kernel
theorem r25 : zret 25 = some .int := by decide +kernel
theorem u25 : 0 = (zrm 25).cells ∧ 0 = (zrm 25).slots := by decide +kernel
theorem r26 : zret 26 = some .int := by decide +kernel
theorem u26 : 0 = (zrm 26).cells ∧ 0 = (zrm 26).slots := by decide +kernel
theorem r27 : zret 27 = none := by decide +kernel
theorem u27 : 0 = (zrm 27).cells ∧ 0 = (zrm 27).slots := by decide +kernel
theorem r28 : zret 28 = some .int := by decide +kernel
theorem u28 : 0 = (zrm 28).cells ∧ 0 = (zrm 28).slots := by decide +kernel
theorem r29 : zret 29 = some .boolean := by decide +kernel
theorem u29 : 0 = (zrm 29).cells ∧ 0 = (zrm 29).slots := by decide +kernel
theorem r30 : zret 30 = none := by decide +kernel
theorem u30 : 0 = (zrm 30).cells ∧ 0 = (zrm 30).slots := by decide +kernel
theorem r31 : zret 31 = none := by decide +kernel
theorem u31 : 0 = (zrm 31).cells ∧ 0 = (zrm 31).slots := by decide +kernel
theorem r32 : zret 32 = some .int := by decide +kernel
theorem u32 : 0 = (zrm 32).cells ∧ 0 = (zrm 32).slots := by decide +kernel
theorem r33 : zret 33 = some .int := by decide +kernel
theorem u33 : 0 = (zrm 33).cells ∧ 0 = (zrm 33).slots := by decide +kernel
theorem r34 : zret 34 = none := by decide +kernel
theorem u34 : 0 = (zrm 34).cells ∧ 0 = (zrm 34).slots := by decide +kernel
theorem r35 : zret 35 = some .int := by decide +kernel
theorem u35 : 0 = (zrm 35).cells ∧ 0 = (zrm 35).slots := by decide +kernel
theorem r36 : zret 36 = none := by decide +kernel
theorem u36 : 0 = (zrm 36).cells ∧ 0 = (zrm 36).slots := by decide +kernel
theorem r37 : zret 37 = some .int := by decide +kernel
theorem u37 : 0 = (zrm 37).cells ∧ 0 = (zrm 37).slots := by decide +kernel
theorem r38 : zret 38 = some .int := by decide +kernel
theorem u38 : 0 = (zrm 38).cells ∧ 0 = (zrm 38).slots := by decide +kernel
theorem r39 : zret 39 = some .int := by decide +kernel
theorem u39 : 0 = (zrm 39).cells ∧ 0 = (zrm 39).slots := by decide +kernel
theorem r40 : zret 40 = some .int := by decide +kernel
theorem u40 : 0 = (zrm 40).cells ∧ 0 = (zrm 40).slots := by decide +kernel
theorem r41 : zret 41 = none := by decide +kernel
theorem u41 : 3 = (zrm 41).cells ∧ 30 = (zrm 41).slots := by decide +kernel
theorem r42 : zret 42 = none := by decide +kernel
theorem u42 : 0 = (zrm 42).cells ∧ 0 = (zrm 42).slots := by decide +kernel
theorem r43 : zret 43 = some .boolean := by decide +kernel
theorem u43 : 0 = (zrm 43).cells ∧ 0 = (zrm 43).slots := by decide +kernel
theorem r44 : zret 44 = none := by decide +kernel
theorem u44 : 0 = (zrm 44).cells ∧ 0 = (zrm 44).slots := by decide +kernel
theorem r45 : zret 45 = some .boolean := by decide +kernel
theorem u45 : 0 = (zrm 45).cells ∧ 0 = (zrm 45).slots := by decide +kernel
theorem r46 : zret 46 = none := by decide +kernel
theorem u46 : 0 = (zrm 46).cells ∧ 0 = (zrm 46).slots := by decide +kernel
theorem r47 : zret 47 = none := by decide +kernel
theorem u47 : 10 = (zrm 47).cells ∧ 94 = (zrm 47).slots := by decide +kernel
theorem r48 : zret 48 = some .boolean := by decide +kernel
theorem u48 : 0 = (zrm 48).cells ∧ 0 = (zrm 48).slots := by decide +kernel
theorem r49 : zret 49 = none := by decide +kernel
theorem u49 : 0 = (zrm 49).cells ∧ 0 = (zrm 49).slots := by decide +kernel
theorem r50 : zret 50 = none := by decide +kernel
theorem u50 : 0 = (zrm 50).cells ∧ 0 = (zrm 50).slots := by decide +kernel
theorem r51 : zret 51 = none := by decide +kernel
theorem u51 : 0 = (zrm 51).cells ∧ 0 = (zrm 51).slots := by decide +kernel
theorem r52 : zret 52 = some .boolean := by decide +kernel
theorem u52 : 0 = (zrm 52).cells ∧ 0 = (zrm 52).slots := by decide +kernel
theorem r53 : zret 53 = none := by decide +kernel
theorem u53 : 0 = (zrm 53).cells ∧ 0 = (zrm 53).slots := by decide +kernel
theorem r54 : zret 54 = none := by decide +kernel
theorem u54 : 0 = (zrm 54).cells ∧ 0 = (zrm 54).slots := by decide +kernel
theorem r55 : zret 55 = none := by decide +kernel
theorem u55 : 0 = (zrm 55).cells ∧ 0 = (zrm 55).slots := by decide +kernel
theorem r56 : zret 56 = some .boolean := by decide +kernel
theorem u56 : 0 = (zrm 56).cells ∧ 0 = (zrm 56).slots := by decide +kernel
theorem r57 : zret 57 = none := by decide +kernel
theorem u57 : 0 = (zrm 57).cells ∧ 0 = (zrm 57).slots := by decide +kernel
theorem r58 : zret 58 = some .boolean := by decide +kernel
theorem u58 : 0 = (zrm 58).cells ∧ 0 = (zrm 58).slots := by decide +kernel
theorem r59 : zret 59 = some .long := by decide +kernel
theorem u59 : 0 = (zrm 59).cells ∧ 0 = (zrm 59).slots := by decide +kernel
theorem r60 : zret 60 = some .long := by decide +kernel
theorem u60 : 0 = (zrm 60).cells ∧ 0 = (zrm 60).slots := by decide +kernel
theorem r61 : zret 61 = some .boolean := by decide +kernel
theorem u61 : 0 = (zrm 61).cells ∧ 0 = (zrm 61).slots := by decide +kernel
theorem r62 : zret 62 = some .boolean := by decide +kernel
theorem u62 : 0 = (zrm 62).cells ∧ 0 = (zrm 62).slots := by decide +kernel
theorem r63 : zret 63 = some .boolean := by decide +kernel
theorem u63 : 0 = (zrm 63).cells ∧ 0 = (zrm 63).slots := by decide +kernel
theorem r64 : zret 64 = some .boolean := by decide +kernel
theorem u64 : 0 = (zrm 64).cells ∧ 0 = (zrm 64).slots := by decide +kernel
theorem r65 : zret 65 = some .long := by decide +kernel
theorem u65 : 0 = (zrm 65).cells ∧ 0 = (zrm 65).slots := by decide +kernel
theorem r66 : zret 66 = some .boolean := by decide +kernel
theorem u66 : 0 = (zrm 66).cells ∧ 0 = (zrm 66).slots := by decide +kernel
theorem r67 : zret 67 = none := by decide +kernel
theorem u67 : 0 = (zrm 67).cells ∧ 0 = (zrm 67).slots := by decide +kernel
theorem r68 : zret 68 = some .boolean := by decide +kernel
theorem u68 : 0 = (zrm 68).cells ∧ 0 = (zrm 68).slots := by decide +kernel
theorem r69 : zret 69 = some .long := by decide +kernel
theorem u69 : 0 = (zrm 69).cells ∧ 0 = (zrm 69).slots := by decide +kernel
theorem r70 : zret 70 = none := by decide +kernel
theorem u70 : 0 = (zrm 70).cells ∧ 0 = (zrm 70).slots := by decide +kernel
theorem r71 : zret 71 = none := by decide +kernel
theorem u71 : 0 = (zrm 71).cells ∧ 0 = (zrm 71).slots := by decide +kernel
theorem r72 : zret 72 = none := by decide +kernel
theorem u72 : 0 = (zrm 72).cells ∧ 0 = (zrm 72).slots := by decide +kernel
theorem r73 : zret 73 = none := by decide +kernel
theorem u73 : 0 = (zrm 73).cells ∧ 0 = (zrm 73).slots := by decide +kernel
theorem r74 : zret 74 = none := by decide +kernel
theorem u74 : 0 = (zrm 74).cells ∧ 0 = (zrm 74).slots := by decide +kernel
theorem r75 : zret 75 = none := by decide +kernel
theorem u75 : 0 = (zrm 75).cells ∧ 0 = (zrm 75).slots := by decide +kernel
theorem r76 : zret 76 = some .boolean := by decide +kernel
theorem u76 : 0 = (zrm 76).cells ∧ 0 = (zrm 76).slots := by decide +kernel
theorem r77 : zret 77 = none := by decide +kernel
theorem u77 : 51 = (zrm 77).cells ∧ 3801 = (zrm 77).slots := by decide +kernel
theorem r78 : zret 78 = some .int := by decide +kernel
theorem u78 : 0 = (zrm 78).cells ∧ 0 = (zrm 78).slots := by decide +kernel
theorem r79 : zret 79 = some .int := by decide +kernel
theorem u79 : 0 = (zrm 79).cells ∧ 0 = (zrm 79).slots := by decide +kernel
theorem r80 : zret 80 = some .int := by decide +kernel
theorem u80 : 0 = (zrm 80).cells ∧ 0 = (zrm 80).slots := by decide +kernel
theorem r81 : zret 81 = some .int := by decide +kernel
theorem u81 : 0 = (zrm 81).cells ∧ 0 = (zrm 81).slots := by decide +kernel
theorem r82 : zret 82 = some .int := by decide +kernel
theorem u82 : 0 = (zrm 82).cells ∧ 0 = (zrm 82).slots := by decide +kernel
theorem r83 : zret 83 = some .int := by decide +kernel
theorem u83 : 0 = (zrm 83).cells ∧ 0 = (zrm 83).slots := by decide +kernel
theorem r84 : zret 84 = some .int := by decide +kernel
theorem u84 : 0 = (zrm 84).cells ∧ 0 = (zrm 84).slots := by decide +kernel
theorem r85 : zret 85 = some .int := by decide +kernel
theorem u85 : 0 = (zrm 85).cells ∧ 0 = (zrm 85).slots := by decide +kernel
theorem r86 : zret 86 = some .int := by decide +kernel
theorem u86 : 0 = (zrm 86).cells ∧ 0 = (zrm 86).slots := by decide +kernel
theorem r87 : zret 87 = some .int := by decide +kernel
theorem u87 : 0 = (zrm 87).cells ∧ 0 = (zrm 87).slots := by decide +kernel
theorem r88 : zret 88 = some .int := by decide +kernel
theorem u88 : 0 = (zrm 88).cells ∧ 0 = (zrm 88).slots := by decide +kernel
theorem r89 : zret 89 = some .long := by decide +kernel
theorem u89 : 0 = (zrm 89).cells ∧ 0 = (zrm 89).slots := by decide +kernel
theorem r90 : zret 90 = some .int := by decide +kernel
theorem u90 : 0 = (zrm 90).cells ∧ 0 = (zrm 90).slots := by decide +kernel
theorem r91 : zret 91 = some .int := by decide +kernel
theorem u91 : 0 = (zrm 91).cells ∧ 0 = (zrm 91).slots := by decide +kernel
theorem r92 : zret 92 = some .int := by decide +kernel
theorem u92 : 0 = (zrm 92).cells ∧ 0 = (zrm 92).slots := by decide +kernel
theorem r93 : zret 93 = some .int := by decide +kernel
theorem u93 : 0 = (zrm 93).cells ∧ 0 = (zrm 93).slots := by decide +kernel
theorem r94 : zret 94 = some .int := by decide +kernel
theorem u94 : 0 = (zrm 94).cells ∧ 0 = (zrm 94).slots := by decide +kernel
theorem r95 : zret 95 = some .int := by decide +kernel
theorem u95 : 0 = (zrm 95).cells ∧ 0 = (zrm 95).slots := by decide +kernel
theorem r96 : zret 96 = some .int := by decide +kernel
theorem u96 : 0 = (zrm 96).cells ∧ 0 = (zrm 96).slots := by decide +kernel
theorem r97 : zret 97 = some .int := by decide +kernel
theorem u97 : 0 = (zrm 97).cells ∧ 0 = (zrm 97).slots := by decide +kernel
theorem r98 : zret 98 = some .long := by decide +kernel
theorem u98 : 0 = (zrm 98).cells ∧ 0 = (zrm 98).slots := by decide +kernel
theorem r99 : zret 99 = some .int := by decide +kernel
theorem u99 : 0 = (zrm 99).cells ∧ 0 = (zrm 99).slots := by decide +kernel
theorem r100 : zret 100 = some .int := by decide +kernel
theorem u100 : 0 = (zrm 100).cells ∧ 0 = (zrm 100).slots := by decide +kernel
theorem r101 : zret 101 = some .int := by decide +kernel
theorem u101 : 0 = (zrm 101).cells ∧ 0 = (zrm 101).slots := by decide +kernel
theorem r102 : zret 102 = some .int := by decide +kernel
theorem u102 : 0 = (zrm 102).cells ∧ 0 = (zrm 102).slots := by decide +kernel
theorem r103 : zret 103 = some .int := by decide +kernel
theorem u103 : 0 = (zrm 103).cells ∧ 0 = (zrm 103).slots := by decide +kernel
theorem r104 : zret 104 = some .int := by decide +kernel
theorem u104 : 0 = (zrm 104).cells ∧ 0 = (zrm 104).slots := by decide +kernel
theorem r105 : zret 105 = some .int := by decide +kernel
theorem u105 : 0 = (zrm 105).cells ∧ 0 = (zrm 105).slots := by decide +kernel
theorem r106 : zret 106 = some .int := by decide +kernel
theorem u106 : 0 = (zrm 106).cells ∧ 0 = (zrm 106).slots := by decide +kernel
theorem r107 : zret 107 = some .int := by decide +kernel
theorem u107 : 0 = (zrm 107).cells ∧ 0 = (zrm 107).slots := by decide +kernel
theorem r108 : zret 108 = some .boolean := by decide +kernel
theorem u108 : 0 = (zrm 108).cells ∧ 0 = (zrm 108).slots := by decide +kernel
theorem r109 : zret 109 = some .int := by decide +kernel
theorem u109 : 0 = (zrm 109).cells ∧ 0 = (zrm 109).slots := by decide +kernel
theorem r110 : zret 110 = some .int := by decide +kernel
theorem u110 : 0 = (zrm 110).cells ∧ 0 = (zrm 110).slots := by decide +kernel
theorem r111 : zret 111 = some .int := by decide +kernel
theorem u111 : 0 = (zrm 111).cells ∧ 0 = (zrm 111).slots := by decide +kernel
theorem r112 : zret 112 = some .boolean := by decide +kernel
theorem u112 : 0 = (zrm 112).cells ∧ 0 = (zrm 112).slots := by decide +kernel
theorem r113 : zret 113 = some .int := by decide +kernel
theorem u113 : 0 = (zrm 113).cells ∧ 0 = (zrm 113).slots := by decide +kernel
theorem r114 : zret 114 = some .boolean := by decide +kernel
theorem u114 : 0 = (zrm 114).cells ∧ 0 = (zrm 114).slots := by decide +kernel
theorem r115 : zret 115 = some .long := by decide +kernel
theorem u115 : 0 = (zrm 115).cells ∧ 0 = (zrm 115).slots := by decide +kernel
theorem r116 : zret 116 = some .long := by decide +kernel
theorem u116 : 0 = (zrm 116).cells ∧ 0 = (zrm 116).slots := by decide +kernel
theorem r117 : zret 117 = some .long := by decide +kernel
theorem u117 : 0 = (zrm 117).cells ∧ 0 = (zrm 117).slots := by decide +kernel
theorem r118 : zret 118 = some .long := by decide +kernel
theorem u118 : 0 = (zrm 118).cells ∧ 0 = (zrm 118).slots := by decide +kernel
theorem r119 : zret 119 = none := by decide +kernel
theorem u119 : 29 = (zrm 119).cells ∧ 3534 = (zrm 119).slots := by decide +kernel
theorem r120 : zret 120 = some .boolean := by decide +kernel
theorem u120 : 0 = (zrm 120).cells ∧ 0 = (zrm 120).slots := by decide +kernel
theorem r121 : zret 121 = some .int := by decide +kernel
theorem u121 : 0 = (zrm 121).cells ∧ 0 = (zrm 121).slots := by decide +kernel
theorem r122 : zret 122 = some .int := by decide +kernel
theorem u122 : 0 = (zrm 122).cells ∧ 0 = (zrm 122).slots := by decide +kernel
theorem r123 : zret 123 = some .boolean := by decide +kernel
theorem u123 : 0 = (zrm 123).cells ∧ 0 = (zrm 123).slots := by decide +kernel
theorem r124 : zret 124 = some .boolean := by decide +kernel
theorem u124 : 0 = (zrm 124).cells ∧ 0 = (zrm 124).slots := by decide +kernel
theorem r125 : zret 125 = some .long := by decide +kernel
theorem u125 : 0 = (zrm 125).cells ∧ 0 = (zrm 125).slots := by decide +kernel
theorem r126 : zret 126 = some .boolean := by decide +kernel
theorem u126 : 0 = (zrm 126).cells ∧ 0 = (zrm 126).slots := by decide +kernel
theorem r127 : zret 127 = some .boolean := by decide +kernel
theorem u127 : 0 = (zrm 127).cells ∧ 0 = (zrm 127).slots := by decide +kernel
theorem r128 : zret 128 = none := by decide +kernel
theorem u128 : 0 = (zrm 128).cells ∧ 0 = (zrm 128).slots := by decide +kernel
theorem r129 : zret 129 = none := by decide +kernel
theorem u129 : 0 = (zrm 129).cells ∧ 0 = (zrm 129).slots := by decide +kernel
theorem r130 : zret 130 = none := by decide +kernel
theorem u130 : 0 = (zrm 130).cells ∧ 0 = (zrm 130).slots := by decide +kernel
theorem r131 : zret 131 = none := by decide +kernel
theorem u131 : 0 = (zrm 131).cells ∧ 0 = (zrm 131).slots := by decide +kernel
theorem r132 : zret 132 = none := by decide +kernel
theorem u132 : 0 = (zrm 132).cells ∧ 0 = (zrm 132).slots := by decide +kernel
theorem r133 : zret 133 = some .long := by decide +kernel
theorem u133 : 0 = (zrm 133).cells ∧ 0 = (zrm 133).slots := by decide +kernel
theorem r134 : zret 134 = some .boolean := by decide +kernel
theorem u134 : 0 = (zrm 134).cells ∧ 0 = (zrm 134).slots := by decide +kernel
theorem r135 : zret 135 = none := by decide +kernel
theorem u135 : 0 = (zrm 135).cells ∧ 0 = (zrm 135).slots := by decide +kernel
theorem r136 : zret 136 = none := by decide +kernel
theorem u136 : 0 = (zrm 136).cells ∧ 0 = (zrm 136).slots := by decide +kernel
theorem r137 : zret 137 = none := by decide +kernel
theorem u137 : 0 = (zrm 137).cells ∧ 0 = (zrm 137).slots := by decide +kernel
theorem r138 : zret 138 = none := by decide +kernel
theorem u138 : 0 = (zrm 138).cells ∧ 0 = (zrm 138).slots := by decide +kernel
theorem r139 : zret 139 = none := by decide +kernel
theorem u139 : 0 = (zrm 139).cells ∧ 0 = (zrm 139).slots := by decide +kernel
theorem r140 : zret 140 = some .int := by decide +kernel
theorem u140 : 0 = (zrm 140).cells ∧ 0 = (zrm 140).slots := by decide +kernel
theorem r141 : zret 141 = some .int := by decide +kernel
theorem u141 : 0 = (zrm 141).cells ∧ 0 = (zrm 141).slots := by decide +kernel
theorem r142 : zret 142 = some .int := by decide +kernel
theorem u142 : 0 = (zrm 142).cells ∧ 0 = (zrm 142).slots := by decide +kernel
theorem r143 : zret 143 = some .int := by decide +kernel
theorem u143 : 0 = (zrm 143).cells ∧ 0 = (zrm 143).slots := by decide +kernel
theorem r144 : zret 144 = some .boolean := by decide +kernel
theorem u144 : 0 = (zrm 144).cells ∧ 0 = (zrm 144).slots := by decide +kernel
theorem r145 : zret 145 = some .int := by decide +kernel
theorem u145 : 0 = (zrm 145).cells ∧ 0 = (zrm 145).slots := by decide +kernel
theorem r146 : zret 146 = some .int := by decide +kernel
theorem u146 : 0 = (zrm 146).cells ∧ 0 = (zrm 146).slots := by decide +kernel
theorem r147 : zret 147 = some .int := by decide +kernel
theorem u147 : 0 = (zrm 147).cells ∧ 0 = (zrm 147).slots := by decide +kernel
theorem r148 : zret 148 = some .int := by decide +kernel
theorem u148 : 0 = (zrm 148).cells ∧ 0 = (zrm 148).slots := by decide +kernel
theorem r149 : zret 149 = some .int := by decide +kernel
theorem u149 : 0 = (zrm 149).cells ∧ 0 = (zrm 149).slots := by decide +kernel
theorem r150 : zret 150 = some .int := by decide +kernel
theorem u150 : 0 = (zrm 150).cells ∧ 0 = (zrm 150).slots := by decide +kernel
theorem r151 : zret 151 = some .int := by decide +kernel
theorem u151 : 0 = (zrm 151).cells ∧ 0 = (zrm 151).slots := by decide +kernel
theorem r152 : zret 152 = some .int := by decide +kernel
theorem u152 : 0 = (zrm 152).cells ∧ 0 = (zrm 152).slots := by decide +kernel
theorem r153 : zret 153 = some .long := by decide +kernel
theorem u153 : 0 = (zrm 153).cells ∧ 0 = (zrm 153).slots := by decide +kernel
theorem r154 : zret 154 = some .int := by decide +kernel
theorem u154 : 0 = (zrm 154).cells ∧ 0 = (zrm 154).slots := by decide +kernel
theorem r155 : zret 155 = some .long := by decide +kernel
theorem u155 : 0 = (zrm 155).cells ∧ 0 = (zrm 155).slots := by decide +kernel
theorem r156 : zret 156 = some .int := by decide +kernel
theorem u156 : 0 = (zrm 156).cells ∧ 0 = (zrm 156).slots := by decide +kernel
theorem r157 : zret 157 = some .int := by decide +kernel
theorem u157 : 0 = (zrm 157).cells ∧ 0 = (zrm 157).slots := by decide +kernel
theorem r158 : zret 158 = some .int := by decide +kernel
theorem u158 : 0 = (zrm 158).cells ∧ 0 = (zrm 158).slots := by decide +kernel
theorem r159 : zret 159 = some .int := by decide +kernel
theorem u159 : 0 = (zrm 159).cells ∧ 0 = (zrm 159).slots := by decide +kernel
theorem r160 : zret 160 = some .int := by decide +kernel
theorem u160 : 0 = (zrm 160).cells ∧ 0 = (zrm 160).slots := by decide +kernel
theorem r161 : zret 161 = some .int := by decide +kernel
theorem u161 : 0 = (zrm 161).cells ∧ 0 = (zrm 161).slots := by decide +kernel
theorem r162 : zret 162 = some .int := by decide +kernel
theorem u162 : 0 = (zrm 162).cells ∧ 0 = (zrm 162).slots := by decide +kernel
theorem r163 : zret 163 = some .int := by decide +kernel
theorem u163 : 0 = (zrm 163).cells ∧ 0 = (zrm 163).slots := by decide +kernel
theorem r164 : zret 164 = some .long := by decide +kernel
theorem u164 : 0 = (zrm 164).cells ∧ 0 = (zrm 164).slots := by decide +kernel
theorem r165 : zret 165 = none := by decide +kernel
theorem u165 : 0 = (zrm 165).cells ∧ 0 = (zrm 165).slots := by decide +kernel
theorem r166 : zret 166 = none := by decide +kernel
theorem u166 : 0 = (zrm 166).cells ∧ 0 = (zrm 166).slots := by decide +kernel
theorem r167 : zret 167 = none := by decide +kernel
theorem u167 : 0 = (zrm 167).cells ∧ 0 = (zrm 167).slots := by decide +kernel
theorem r168 : zret 168 = some .boolean := by decide +kernel
theorem u168 : 0 = (zrm 168).cells ∧ 0 = (zrm 168).slots := by decide +kernel
theorem r169 : zret 169 = some .int := by decide +kernel
theorem u169 : 0 = (zrm 169).cells ∧ 0 = (zrm 169).slots := by decide +kernel
theorem r170 : zret 170 = some .int := by decide +kernel
theorem u170 : 0 = (zrm 170).cells ∧ 0 = (zrm 170).slots := by decide +kernel
theorem r171 : zret 171 = some .boolean := by decide +kernel
theorem u171 : 0 = (zrm 171).cells ∧ 0 = (zrm 171).slots := by decide +kernel
theorem r172 : zret 172 = some .int := by decide +kernel
theorem u172 : 0 = (zrm 172).cells ∧ 0 = (zrm 172).slots := by decide +kernel
theorem r173 : zret 173 = none := by decide +kernel
theorem u173 : 0 = (zrm 173).cells ∧ 0 = (zrm 173).slots := by decide +kernel
theorem r174 : zret 174 = some .int := by decide +kernel
theorem u174 : 0 = (zrm 174).cells ∧ 0 = (zrm 174).slots := by decide +kernel
theorem r175 : zret 175 = some .int := by decide +kernel
theorem u175 : 0 = (zrm 175).cells ∧ 0 = (zrm 175).slots := by decide +kernel
theorem r176 : zret 176 = some .int := by decide +kernel
theorem u176 : 0 = (zrm 176).cells ∧ 0 = (zrm 176).slots := by decide +kernel
theorem r177 : zret 177 = some .int := by decide +kernel
theorem u177 : 0 = (zrm 177).cells ∧ 0 = (zrm 177).slots := by decide +kernel
theorem r178 : zret 178 = some .int := by decide +kernel
theorem u178 : 0 = (zrm 178).cells ∧ 0 = (zrm 178).slots := by decide +kernel
theorem r179 : zret 179 = some .int := by decide +kernel
theorem u179 : 0 = (zrm 179).cells ∧ 0 = (zrm 179).slots := by decide +kernel
theorem r180 : zret 180 = some .int := by decide +kernel
theorem u180 : 0 = (zrm 180).cells ∧ 0 = (zrm 180).slots := by decide +kernel
theorem r181 : zret 181 = some .int := by decide +kernel
theorem u181 : 0 = (zrm 181).cells ∧ 0 = (zrm 181).slots := by decide +kernel
theorem r182 : zret 182 = some .int := by decide +kernel
theorem u182 : 0 = (zrm 182).cells ∧ 0 = (zrm 182).slots := by decide +kernel
theorem r183 : zret 183 = some .int := by decide +kernel
theorem u183 : 0 = (zrm 183).cells ∧ 0 = (zrm 183).slots := by decide +kernel
theorem r184 : zret 184 = some .int := by decide +kernel
theorem u184 : 0 = (zrm 184).cells ∧ 0 = (zrm 184).slots := by decide +kernel
theorem r185 : zret 185 = some .int := by decide +kernel
theorem u185 : 0 = (zrm 185).cells ∧ 0 = (zrm 185).slots := by decide +kernel
theorem r186 : zret 186 = some .int := by decide +kernel
theorem u186 : 0 = (zrm 186).cells ∧ 0 = (zrm 186).slots := by decide +kernel
theorem r187 : zret 187 = some .int := by decide +kernel
theorem u187 : 0 = (zrm 187).cells ∧ 0 = (zrm 187).slots := by decide +kernel
theorem r188 : zret 188 = some .long := by decide +kernel
theorem u188 : 0 = (zrm 188).cells ∧ 0 = (zrm 188).slots := by decide +kernel
theorem r189 : zret 189 = some .boolean := by decide +kernel
theorem u189 : 82 = (zrm 189).cells ∧ 7398 = (zrm 189).slots := by decide +kernel
