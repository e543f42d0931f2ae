def LAY : Lay := [(6, 10, [some 1, some 32, some 36, some 44, some 52, some 60, some 69, some 85, none, none]), (2, 2, [some 3, some 2]), (9, 96, []), (11, 14, [some 4, some 6, some 8, some 10, some 12, some 14, some 16, some 18, some 20, some 22, some 24, some 26, some 28, some 30]), (1, 4, [none, none, some 5, none]), (9, 96, []), (1, 4, [none, none, some 7, none]), (9, 96, []), (1, 4, [none, none, some 9, none]), (9, 96, []), (1, 4, [none, none, some 11, none]), (9, 96, []), (1, 4, [none, none, some 13, none]), (9, 96, []), (1, 4, [none, none, some 15, none]), (9, 96, []), (1, 4, [none, none, some 17, none]), (9, 96, []), (1, 4, [none, none, some 19, none]), (9, 96, []), (1, 4, [none, none, some 21, none]), (9, 96, []), (1, 4, [none, none, some 23, none]), (9, 96, []), (1, 4, [none, none, some 25, none]), (9, 96, []), (1, 4, [none, none, some 27, none]), (9, 96, []), (1, 4, [none, none, some 29, none]), (9, 96, []), (1, 4, [none, none, some 31, none]), (9, 96, []), (5, 7, [none, some 33, some 34, none, none, none, none]), (9, 96, []), (1, 4, [none, none, some 35, none]), (9, 96, []), (0, 16, [some 1, some 37, some 38, some 39, some 40, some 41, some 42, some 43, none, none, none, none, none, none, none, none]), (9, 10, []), (9, 10, []), (9, 10, []), (9, 10, []), (9, 10, []), (9, 8, []), (9, 3, []), (0, 16, [some 1, some 45, some 46, some 47, some 48, some 49, some 50, some 51, none, none, none, none, none, none, none, none]), (9, 10, []), (9, 10, []), (9, 10, []), (9, 10, []), (9, 10, []), (9, 8, []), (9, 3, []), (0, 16, [some 1, some 53, some 54, some 55, some 56, some 57, some 58, some 59, none, none, none, none, none, none, none, none]), (9, 10, []), (9, 10, []), (9, 10, []), (9, 10, []), (9, 10, []), (9, 8, []), (9, 3, []), (12, 4, [some 61, some 63, some 65, some 67]), (3, 3, [none, none, some 62]), (9, 24, []), (3, 3, [none, none, some 64]), (9, 24, []), (3, 3, [none, none, some 66]), (9, 24, []), (3, 3, [none, none, some 68]), (9, 24, []), (13, 5, [some 70, some 73, some 76, some 79, some 82]), (4, 5, [none, none, none, none, some 71]), (3, 3, [none, none, some 72]), (9, 24, []), (4, 5, [none, none, none, none, some 74]), (3, 3, [none, none, some 75]), (9, 24, []), (4, 5, [none, none, none, none, some 77]), (3, 3, [none, none, some 78]), (9, 24, []), (4, 5, [none, none, none, none, some 80]), (3, 3, [none, none, some 81]), (9, 24, []), (4, 5, [none, none, none, none, some 83]), (3, 3, [none, none, some 84]), (9, 24, []), (9, 60, []), (7, 34, [some 87, some 88, some 89, none, none, some 90, some 91, none, none, none, none, none, none, none, some 92, some 93, some 94, none, none, some 95, none, some 96, some 97, some 98, some 99, some 100, some 101, some 102, some 103, some 104, some 105, some 106, some 107, none]), (9, 1438, []), (9, 1438, []), (9, 1438, []), (9, 66, []), (9, 96, []), (8, 12, []), (9, 4, []), (9, 96, []), (9, 96, []), (10, 10, []), (9, 96, []), (9, 4, []), (9, 4, []), (9, 4, []), (9, 96, []), (9, 5, []), (9, 5, []), (9, 5, []), (9, 120, []), (9, 24, []), (9, 60, [])]
theorem LAY_len : LAY.length = 108 := by decide +kernel
theorem lay_0 : LAY[0]? = some (6, 10, [some 1, some 32, some 36, some 44, some 52, some 60, some 69, some 85, none, none]) := by decide +kernel
theorem lay_1 : LAY[1]? = some (2, 2, [some 3, some 2]) := by decide +kernel
theorem lay_2 : LAY[2]? = some (9, 96, []) := by decide +kernel
theorem lay_3 : LAY[3]? = some (11, 14, [some 4, some 6, some 8, some 10, some 12, some 14, some 16, some 18, some 20, some 22, some 24, some 26, some 28, some 30]) := by decide +kernel
theorem lay_4 : LAY[4]? = some (1, 4, [none, none, some 5, none]) := by decide +kernel
theorem lay_5 : LAY[5]? = some (9, 96, []) := by decide +kernel
theorem lay_6 : LAY[6]? = some (1, 4, [none, none, some 7, none]) := by decide +kernel
theorem lay_7 : LAY[7]? = some (9, 96, []) := by decide +kernel
theorem lay_8 : LAY[8]? = some (1, 4, [none, none, some 9, none]) := by decide +kernel
theorem lay_9 : LAY[9]? = some (9, 96, []) := by decide +kernel
theorem lay_10 : LAY[10]? = some (1, 4, [none, none, some 11, none]) := by decide +kernel
theorem lay_11 : LAY[11]? = some (9, 96, []) := by decide +kernel
theorem lay_12 : LAY[12]? = some (1, 4, [none, none, some 13, none]) := by decide +kernel
theorem lay_13 : LAY[13]? = some (9, 96, []) := by decide +kernel
theorem lay_14 : LAY[14]? = some (1, 4, [none, none, some 15, none]) := by decide +kernel
theorem lay_15 : LAY[15]? = some (9, 96, []) := by decide +kernel
theorem lay_16 : LAY[16]? = some (1, 4, [none, none, some 17, none]) := by decide +kernel
theorem lay_17 : LAY[17]? = some (9, 96, []) := by decide +kernel
theorem lay_18 : LAY[18]? = some (1, 4, [none, none, some 19, none]) := by decide +kernel
theorem lay_19 : LAY[19]? = some (9, 96, []) := by decide +kernel
theorem lay_20 : LAY[20]? = some (1, 4, [none, none, some 21, none]) := by decide +kernel
theorem lay_21 : LAY[21]? = some (9, 96, []) := by decide +kernel
theorem lay_22 : LAY[22]? = some (1, 4, [none, none, some 23, none]) := by decide +kernel
theorem lay_23 : LAY[23]? = some (9, 96, []) := by decide +kernel
theorem lay_24 : LAY[24]? = some (1, 4, [none, none, some 25, none]) := by decide +kernel
theorem lay_25 : LAY[25]? = some (9, 96, []) := by decide +kernel
theorem lay_26 : LAY[26]? = some (1, 4, [none, none, some 27, none]) := by decide +kernel
theorem lay_27 : LAY[27]? = some (9, 96, []) := by decide +kernel
theorem lay_28 : LAY[28]? = some (1, 4, [none, none, some 29, none]) := by decide +kernel
theorem lay_29 : LAY[29]? = some (9, 96, []) := by decide +kernel
theorem lay_30 : LAY[30]? = some (1, 4, [none, none, some 31, none]) := by decide +kernel
theorem lay_31 : LAY[31]? = some (9, 96, []) := by decide +kernel
theorem lay_32 : LAY[32]? = some (5, 7, [none, some 33, some 34, none, none, none, none]) := by decide +kernel
theorem lay_33 : LAY[33]? = some (9, 96, []) := by decide +kernel
theorem lay_34 : LAY[34]? = some (1, 4, [none, none, some 35, none]) := by decide +kernel
theorem lay_35 : LAY[35]? = some (9, 96, []) := by decide +kernel
theorem lay_36 : LAY[36]? = some (0, 16, [some 1, some 37, some 38, some 39, some 40, some 41, some 42, some 43, none, none, none, none, none, none, none, none]) := by decide +kernel
theorem lay_37 : LAY[37]? = some (9, 10, []) := by decide +kernel
theorem lay_38 : LAY[38]? = some (9, 10, []) := by decide +kernel
theorem lay_39 : LAY[39]? = some (9, 10, []) := by decide +kernel
theorem lay_40 : LAY[40]? = some (9, 10, []) := by decide +kernel
theorem lay_41 : LAY[41]? = some (9, 10, []) := by decide +kernel
theorem lay_42 : LAY[42]? = some (9, 8, []) := by decide +kernel
theorem lay_43 : LAY[43]? = some (9, 3, []) := by decide +kernel
theorem lay_44 : LAY[44]? = some (0, 16, [some 1, some 45, some 46, some 47, some 48, some 49, some 50, some 51, none, none, none, none, none, none, none, none]) := by decide +kernel
theorem lay_45 : LAY[45]? = some (9, 10, []) := by decide +kernel
theorem lay_46 : LAY[46]? = some (9, 10, []) := by decide +kernel
theorem lay_47 : LAY[47]? = some (9, 10, []) := by decide +kernel
theorem lay_48 : LAY[48]? = some (9, 10, []) := by decide +kernel
theorem lay_49 : LAY[49]? = some (9, 10, []) := by decide +kernel
theorem lay_50 : LAY[50]? = some (9, 8, []) := by decide +kernel
theorem lay_51 : LAY[51]? = some (9, 3, []) := by decide +kernel
theorem lay_52 : LAY[52]? = some (0, 16, [some 1, some 53, some 54, some 55, some 56, some 57, some 58, some 59, none, none, none, none, none, none, none, none]) := by decide +kernel
theorem lay_53 : LAY[53]? = some (9, 10, []) := by decide +kernel
theorem lay_54 : LAY[54]? = some (9, 10, []) := by decide +kernel
theorem lay_55 : LAY[55]? = some (9, 10, []) := by decide +kernel
theorem lay_56 : LAY[56]? = some (9, 10, []) := by decide +kernel
theorem lay_57 : LAY[57]? = some (9, 10, []) := by decide +kernel
theorem lay_58 : LAY[58]? = some (9, 8, []) := by decide +kernel
theorem lay_59 : LAY[59]? = some (9, 3, []) := by decide +kernel
theorem lay_60 : LAY[60]? = some (12, 4, [some 61, some 63, some 65, some 67]) := by decide +kernel
theorem lay_61 : LAY[61]? = some (3, 3, [none, none, some 62]) := by decide +kernel
theorem lay_62 : LAY[62]? = some (9, 24, []) := by decide +kernel
theorem lay_63 : LAY[63]? = some (3, 3, [none, none, some 64]) := by decide +kernel
theorem lay_64 : LAY[64]? = some (9, 24, []) := by decide +kernel
theorem lay_65 : LAY[65]? = some (3, 3, [none, none, some 66]) := by decide +kernel
theorem lay_66 : LAY[66]? = some (9, 24, []) := by decide +kernel
theorem lay_67 : LAY[67]? = some (3, 3, [none, none, some 68]) := by decide +kernel
theorem lay_68 : LAY[68]? = some (9, 24, []) := by decide +kernel
theorem lay_69 : LAY[69]? = some (13, 5, [some 70, some 73, some 76, some 79, some 82]) := by decide +kernel
theorem lay_70 : LAY[70]? = some (4, 5, [none, none, none, none, some 71]) := by decide +kernel
theorem lay_71 : LAY[71]? = some (3, 3, [none, none, some 72]) := by decide +kernel
theorem lay_72 : LAY[72]? = some (9, 24, []) := by decide +kernel
theorem lay_73 : LAY[73]? = some (4, 5, [none, none, none, none, some 74]) := by decide +kernel
theorem lay_74 : LAY[74]? = some (3, 3, [none, none, some 75]) := by decide +kernel
theorem lay_75 : LAY[75]? = some (9, 24, []) := by decide +kernel
theorem lay_76 : LAY[76]? = some (4, 5, [none, none, none, none, some 77]) := by decide +kernel
theorem lay_77 : LAY[77]? = some (3, 3, [none, none, some 78]) := by decide +kernel
theorem lay_78 : LAY[78]? = some (9, 24, []) := by decide +kernel
theorem lay_79 : LAY[79]? = some (4, 5, [none, none, none, none, some 80]) := by decide +kernel
theorem lay_80 : LAY[80]? = some (3, 3, [none, none, some 81]) := by decide +kernel
theorem lay_81 : LAY[81]? = some (9, 24, []) := by decide +kernel
theorem lay_82 : LAY[82]? = some (4, 5, [none, none, none, none, some 83]) := by decide +kernel
theorem lay_83 : LAY[83]? = some (3, 3, [none, none, some 84]) := by decide +kernel
theorem lay_84 : LAY[84]? = some (9, 24, []) := by decide +kernel
theorem lay_85 : LAY[85]? = some (9, 60, []) := by decide +kernel
theorem lay_86 : LAY[86]? = some (7, 34, [some 87, some 88, some 89, none, none, some 90, some 91, none, none, none, none, none, none, none, some 92, some 93, some 94, none, none, some 95, none, some 96, some 97, some 98, some 99, some 100, some 101, some 102, some 103, some 104, some 105, some 106, some 107, none]) := by decide +kernel
theorem lay_87 : LAY[87]? = some (9, 1438, []) := by decide +kernel
theorem lay_88 : LAY[88]? = some (9, 1438, []) := by decide +kernel
theorem lay_89 : LAY[89]? = some (9, 1438, []) := by decide +kernel
theorem lay_90 : LAY[90]? = some (9, 66, []) := by decide +kernel
theorem lay_91 : LAY[91]? = some (9, 96, []) := by decide +kernel
theorem lay_92 : LAY[92]? = some (8, 12, []) := by decide +kernel
theorem lay_93 : LAY[93]? = some (9, 4, []) := by decide +kernel
theorem lay_94 : LAY[94]? = some (9, 96, []) := by decide +kernel
theorem lay_95 : LAY[95]? = some (9, 96, []) := by decide +kernel
theorem lay_96 : LAY[96]? = some (10, 10, []) := by decide +kernel
theorem lay_97 : LAY[97]? = some (9, 96, []) := by decide +kernel
theorem lay_98 : LAY[98]? = some (9, 4, []) := by decide +kernel
theorem lay_99 : LAY[99]? = some (9, 4, []) := by decide +kernel
theorem lay_100 : LAY[100]? = some (9, 4, []) := by decide +kernel
theorem lay_101 : LAY[101]? = some (9, 96, []) := by decide +kernel
theorem lay_102 : LAY[102]? = some (9, 5, []) := by decide +kernel
theorem lay_103 : LAY[103]? = some (9, 5, []) := by decide +kernel
theorem lay_104 : LAY[104]? = some (9, 5, []) := by decide +kernel
theorem lay_105 : LAY[105]? = some (9, 120, []) := by decide +kernel
theorem lay_106 : LAY[106]? = some (9, 24, []) := by decide +kernel
theorem lay_107 : LAY[107]? = some (9, 60, []) := by decide +kernel
/-- the juries -/
abbrev isJ (j : Nat) : Prop := j = 36 ∨ j = 44 ∨ j = 52
theorem lj {j : Nat} (h : isJ j) : LAY[j]? = some (0, 16, [some 1, some (j + 1), some (j + 2), some (j + 3), some (j + 4), some (j + 5), some (j + 6), some (j + 7), none, none, none, none, none, none, none, none]) := by rcases h with rfl | rfl | rfl <;> decide +kernel
theorem lj1 {j : Nat} (h : isJ j) : LAY[j + 1]? = some (9, 10, []) := by rcases h with rfl | rfl | rfl <;> decide +kernel
theorem lj2 {j : Nat} (h : isJ j) : LAY[j + 2]? = some (9, 10, []) := by rcases h with rfl | rfl | rfl <;> decide +kernel
theorem lj3 {j : Nat} (h : isJ j) : LAY[j + 3]? = some (9, 10, []) := by rcases h with rfl | rfl | rfl <;> decide +kernel
theorem lj4 {j : Nat} (h : isJ j) : LAY[j + 4]? = some (9, 10, []) := by rcases h with rfl | rfl | rfl <;> decide +kernel
theorem lj5 {j : Nat} (h : isJ j) : LAY[j + 5]? = some (9, 10, []) := by rcases h with rfl | rfl | rfl <;> decide +kernel
theorem lj6 {j : Nat} (h : isJ j) : LAY[j + 6]? = some (9, 8, []) := by rcases h with rfl | rfl | rfl <;> decide +kernel
theorem lj7 {j : Nat} (h : isJ j) : LAY[j + 7]? = some (9, 3, []) := by rcases h with rfl | rfl | rfl <;> decide +kernel
/-- the laws: those of the list, and the tape's -/
abbrev isQ (q : Nat) : Prop := ∃ t, t < 16 ∧ t ≠ 14 ∧ q = 4 + 2 * t
theorem ll {q : Nat} (h : isQ q) : LAY[q]? = some (1, 4, [none, none, some (q + 1), none]) := by
  obtain ⟨t, h1, h2, rfl⟩ := h
  have : ∀ t, t < 16 → t = 14 ∨ LAY[4 + 2 * t]? = some (1, 4, [none, none, some (4 + 2 * t + 1), none]) := by decide +kernel
  exact (this t h1).resolve_left h2
theorem ll2 {q : Nat} (h : isQ q) : LAY[q + 1]? = some (9, 96, []) := by
  obtain ⟨t, h1, h2, rfl⟩ := h
  have : ∀ t, t < 16 → t = 14 ∨ LAY[4 + 2 * t + 1]? = some (9, 96, []) := by decide +kernel
  exact (this t h1).resolve_left h2
/-- the rows: sheets, and those in slots -/
abbrev isR (r : Nat) : Prop := (∃ t, t < 4 ∧ r = 61 + 2 * t) ∨ ∃ t, t < 5 ∧ r = 71 + 3 * t
theorem lr {r : Nat} (h : isR r) : LAY[r]? = some (3, 3, [none, none, some (r + 1)]) := by
  rcases h with ⟨t, h1, rfl⟩ | ⟨t, h1, rfl⟩
  · have : ∀ t, t < 4 → LAY[61 + 2 * t]? = some (3, 3, [none, none, some (61 + 2 * t + 1)]) := by decide +kernel
    exact this t h1
  · have : ∀ t, t < 5 → LAY[71 + 3 * t]? = some (3, 3, [none, none, some (71 + 3 * t + 1)]) := by decide +kernel
    exact this t h1
theorem lr2 {r : Nat} (h : isR r) : LAY[r + 1]? = some (9, 24, []) := by
  rcases h with ⟨t, h1, rfl⟩ | ⟨t, h1, rfl⟩
  · have : ∀ t, t < 4 → LAY[61 + 2 * t + 1]? = some (9, 24, []) := by decide +kernel
    exact this t h1
  · have : ∀ t, t < 5 → LAY[71 + 3 * t + 1]? = some (9, 24, []) := by decide +kernel
    exact this t h1
theorem lz {t : Nat} (h : t < 5) : LAY[70 + 3 * t]? = some (4, 5, [none, none, none, none, some (70 + 3 * t + 1)]) := by
  have : ∀ t, t < 5 → LAY[70 + 3 * t]? = some (4, 5, [none, none, none, none, some (70 + 3 * t + 1)]) := by decide +kernel
  exact this t h
