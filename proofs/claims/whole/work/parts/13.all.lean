theorem iv_chk_cut {cc : ByteArray} {code : List iv_I} {fl : List (Instr × Nat × Nat × Nat)} {l : List iv_I} {a n b : Nat} (h1 : iv_chk cc code fl a ((l.drop a).take n) = true) (hl : ((l.drop a).take n).length = n) (hb : a + n = b) (h2 : iv_chk cc code fl b (l.drop b) = true) : iv_chk cc code fl a (l.drop a) = true := by
  subst hb
  have h := iv_chk_cat _ _ a h1 (show iv_chk cc code fl (a + ((l.drop a).take n).length) (l.drop (a + n)) = true by rw [hl]; exact h2)
  rwa [show l.drop (a + n) = (l.drop a).drop n by rw [List.drop_drop], List.take_append_drop] at h
theorem lj_13 : iv_chk code mc_1 fl_L 630 (mc_1.drop 630) = true := by decide +kernel
theorem lj_12 : iv_chk code mc_1 fl_L 600 (mc_1.drop 600) = true := iv_chk_cut lk_12 (by decide +kernel) rfl lj_13
theorem lj_11 : iv_chk code mc_1 fl_L 550 (mc_1.drop 550) = true := iv_chk_cut lk_11 (by decide +kernel) rfl lj_12
theorem lj_10 : iv_chk code mc_1 fl_L 500 (mc_1.drop 500) = true := iv_chk_cut lk_10 (by decide +kernel) rfl lj_11
theorem lj_9 : iv_chk code mc_1 fl_L 450 (mc_1.drop 450) = true := iv_chk_cut lk_9 (by decide +kernel) rfl lj_10
theorem lj_8 : iv_chk code mc_1 fl_L 400 (mc_1.drop 400) = true := iv_chk_cut lk_8 (by decide +kernel) rfl lj_9
theorem lj_7 : iv_chk code mc_1 fl_L 350 (mc_1.drop 350) = true := iv_chk_cut lk_7 (by decide +kernel) rfl lj_8
theorem lj_6 : iv_chk code mc_1 fl_L 300 (mc_1.drop 300) = true := iv_chk_cut lk_6 (by decide +kernel) rfl lj_7
theorem lj_5 : iv_chk code mc_1 fl_L 250 (mc_1.drop 250) = true := iv_chk_cut lk_5 (by decide +kernel) rfl lj_6
theorem lj_4 : iv_chk code mc_1 fl_L 200 (mc_1.drop 200) = true := iv_chk_cut lk_4 (by decide +kernel) rfl lj_5
theorem lj_3 : iv_chk code mc_1 fl_L 150 (mc_1.drop 150) = true := iv_chk_cut lk_3 (by decide +kernel) rfl lj_4
theorem lj_2 : iv_chk code mc_1 fl_L 100 (mc_1.drop 100) = true := iv_chk_cut lk_2 (by decide +kernel) rfl lj_3
theorem lj_1 : iv_chk code mc_1 fl_L 50 (mc_1.drop 50) = true := iv_chk_cut lk_1 (by decide +kernel) rfl lj_2
theorem lj_0 : iv_chk code mc_1 fl_L 0 (mc_1.drop 0) = true := iv_chk_cut lk_0 (by decide +kernel) rfl lj_1
theorem ck_law : (∀ J, iv_lc[0]? = some J → J.1.1 = 0) ∧ ∀ (k : Nat) (I : iv_I), iv_lc[k]? = some I → decode code I.1.1 = .ok (I.2.1, I.1.2) ∧ iv_okb iv_lc k I = true ∧ iv_okw R_law false I := by
  refine ⟨fun J h => by cases h; rfl, fun k I hI => ?_⟩
  have h5 := iv_chk_of (fl_L_ok false) mc_1 0 lj_0 k I hI
  rw [Nat.zero_add] at h5
  exact h5
theorem ck_ok : ∀ (x mL : Nat) (rt : Option FieldType) (code : List iv_I), iv_M x = some (mL, rt, code) → iv_okm x code := by
  intro x mL rt code h
  unfold iv_M at h
  split at h
  · cases h
  · rename_i h2
    have hi : x < 116 := (List.getElem?_eq_some_iff.mp h).1
    match x, h2, hi, h with
    | 0, h2, _, _ => exact absurd (by decide) h2
    | 1, h2, _, _ => exact absurd (by decide) h2
    | 2, _, _, h => cases h; exact ok_2
    | 3, _, _, h => cases h; exact ok_3
    | 4, _, _, h => cases h; exact ok_4
    | 5, _, _, h => cases h; exact ok_5
    | 6, _, _, h => cases h; exact ok_6
    | 7, _, _, h => cases h; exact ok_7
    | 8, _, _, h => cases h; exact ok_8
    | 9, _, _, h => cases h; exact ok_9
    | 10, _, _, h => cases h; exact ok_10
    | 11, _, _, h => cases h; exact ok_11
    | 12, _, _, h => cases h; exact ok_12
    | 13, _, _, h => cases h; exact ok_13
    | 14, _, _, h => cases h; exact ok_14
    | 15, _, _, h => cases h; exact ok_15
    | 16, _, _, h => cases h; exact ok_16
    | 17, _, _, h => cases h; exact ok_17
    | 18, _, _, h => cases h; exact ok_18
    | 19, _, _, h => cases h; exact ok_19
    | 20, _, _, h => cases h; exact ok_20
    | 21, _, _, h => cases h; exact ok_21
    | 22, _, _, h => cases h; exact ok_22
    | 23, _, _, h => cases h; exact ok_23
    | 24, _, _, h => cases h; exact ok_24
    | 25, _, _, h => cases h; exact ok_25
    | 26, _, _, h => cases h; exact ok_26
    | 27, _, _, h => cases h; exact ok_27
    | 28, _, _, h => cases h; exact ok_28
    | 29, _, _, h => cases h; exact ok_29
    | 30, _, _, h => cases h; exact ok_30
    | 31, _, _, h => cases h; exact ok_31
    | 32, _, _, h => cases h; exact ok_32
    | 33, _, _, h => cases h; exact ok_33
    | 34, _, _, h => cases h; exact ok_34
    | 35, _, _, h => cases h; exact ok_35
    | 36, _, _, h => cases h; exact ok_36
    | 37, _, _, h => cases h; exact ok_37
    | 38, _, _, h => cases h; exact ok_38
    | 39, _, _, h => cases h; exact ok_39
    | 40, _, _, h => cases h; exact ok_40
    | 41, _, _, h => cases h; exact ok_41
    | 42, _, _, h => cases h; exact ok_42
    | 43, _, _, h => cases h; exact ok_43
    | 44, _, _, h => cases h; exact ok_44
    | 45, _, _, h => cases h; exact ok_45
    | 46, _, _, h => cases h; exact ok_46
    | 47, _, _, h => cases h; exact ok_47
    | 48, _, _, h => cases h; exact ok_48
    | 49, _, _, h => cases h; exact ok_49
    | 50, _, _, h => cases h; exact ok_50
    | 51, _, _, h => cases h; exact ok_51
    | 52, _, _, h => cases h; exact ok_52
    | 53, _, _, h => cases h; exact ok_53
    | 54, _, _, h => cases h; exact ok_54
    | 55, _, _, h => cases h; exact ok_55
    | 56, _, _, h => cases h; exact ok_56
    | 57, _, _, h => cases h; exact ok_57
    | 58, _, _, h => cases h; exact ok_58
    | 59, _, _, h => cases h; exact ok_59
    | 60, _, _, h => cases h; exact ok_60
    | 61, _, _, h => cases h; exact ok_61
    | 62, _, _, h => cases h; exact ok_62
    | 63, _, _, h => cases h; exact ok_63
    | 64, _, _, h => cases h; exact ok_64
    | 65, _, _, h => cases h; exact ok_65
    | 66, _, _, h => cases h; exact ok_66
    | 67, _, _, h => cases h; exact ok_67
    | 68, _, _, h => cases h; exact ok_68
    | 69, _, _, h => cases h; exact ok_69
    | 70, _, _, h => cases h; exact ok_70
    | 71, _, _, h => cases h; exact ok_71
    | 72, _, _, h => cases h; exact ok_72
    | 73, _, _, h => cases h; exact ok_73
    | 74, _, _, h => cases h; exact ok_74
    | 75, _, _, h => cases h; exact ok_75
    | 76, _, _, h => cases h; exact ok_76
    | 77, _, _, h => cases h; exact ok_77
    | 78, _, _, h => cases h; exact ok_78
    | 79, _, _, h => cases h; exact ok_79
    | 80, _, _, h => cases h; exact ok_80
    | 81, _, _, h => cases h; exact ok_81
    | 82, _, _, h => cases h; exact ok_82
    | 83, _, _, h => cases h; exact ok_83
    | 84, _, _, h => cases h; exact ok_84
    | 85, _, _, h => cases h; exact ok_85
    | 86, _, _, h => cases h; exact ok_86
    | 87, _, _, h => cases h; exact ok_87
    | 88, _, _, h => cases h; exact ok_88
    | 89, _, _, h => cases h; exact ok_89
    | 90, _, _, h => cases h; exact ok_90
    | 91, _, _, h => cases h; exact ok_91
    | 92, _, _, h => cases h; exact ok_92
    | 93, _, _, h => cases h; exact ok_93
    | 94, _, _, h => cases h; exact ok_94
    | 95, _, _, h => cases h; exact ok_95
    | 96, _, _, h => cases h; exact ok_96
    | 97, _, _, h => cases h; exact ok_97
    | 98, _, _, h => cases h; exact ok_98
    | 99, _, _, h => cases h; exact ok_99
    | 100, _, _, h => cases h; exact ok_100
    | 101, _, _, h => cases h; exact ok_101
    | 102, _, _, h => cases h; exact ok_102
    | 103, _, _, h => cases h; exact ok_103
    | 104, _, _, h => cases h; exact ok_104
    | 105, _, _, h => cases h; exact ok_105
    | 106, _, _, h => cases h; exact ok_106
    | 107, _, _, h => cases h; exact ok_107
    | 108, _, _, h => cases h; exact ok_108
    | 109, _, _, h => cases h; exact ok_109
    | 110, _, _, h => cases h; exact ok_110
    | 111, _, _, h => cases h; exact ok_111
    | 112, _, _, h => cases h; exact ok_112
    | 113, _, _, h => cases h; exact ok_113
    | 114, _, _, h => cases h; exact ok_114
    | 115, _, _, h => cases h; exact ok_115
    | n + 116, _, hi, _ => omega
