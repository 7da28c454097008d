/-! the law's branches -/
section LAW
variable {d L i : Nat} {xs : Nat → Int32} {w w1 w2 : iv_S} {f1 f2 : List Value} {v : Int32}
theorem lq_scr {st : List Value} {j : Nat} {q : Value → List Value → iv_R} (hs : w.1 0 = some (150, md_ints L xs)) (hj : j < L) (hL : L < 2 ^ 31) : iv_ald w (.int (nI j) :: .ref 0 :: st) iv_isI q = q (.int (xs j)) st := by
  unfold iv_ald
  simp only [hs, iv_ar, iv_isI, if_true, if_neg (nI_pos (show j < 2 ^ 31 by omega)), nI_clamp (show j < 2 ^ 31 by omega), md_at hj]
theorem lq_len {st : List Value} {q : Int32 → List Value → iv_R} (hs : w.1 0 = some (150, md_ints L xs)) : iv_len w (.ref 0 :: st) q = q (nI L) st := by
  unfold iv_len
  simp only [hs, iv_ar, md_len]
  rfl
theorem lq_rc {a t x : Nat} {vs as : List Value} (hw : w.1 a = some (t, vs)) (ht : iv_mc x = t) : iv_rc w (.ref a :: as) (iv_mc x) = true := by
  unfold iv_rc
  simp only [hw, ht, decide_true]
theorem lq_1 : nI i + 1 = nI (i + 1) := nI_1 i
theorem lq_2 : nI i + 2 = nI (i + 2) := nI_add i 2
theorem lq_3 : nI i + 3 = nI (i + 3) := nI_add i 3
theorem lq_4 : nI i + 4 = nI (i + 4) := nI_add i 4
theorem lq_5 : nI i + 5 = nI (i + 5) := nI_add i 5
theorem lq_6 : nI i + 6 = nI (i + 6) := nI_add i 6
theorem lq_7 : nI i + 7 = nI (i + 7) := nI_add i 7
theorem lb_0 (hL : L < 2 ^ 31) (hi : i + 7 ≤ L) (hs : w.1 0 = some (150, md_ints L xs)) (hx : w.1 1 = some (0, f1)) (hc1 : iv_X d 3 [.ref 1, .int (xs (i + 1))] w = some (some (.int v), w1)) (hs1 : w1.1 0 = some (150, md_ints L xs)) (hy : w1.1 158 = some (1, f2)) (hc2 : iv_X d 26 [.ref 158, .int (xs (i + 1))] w1 = some (some (.int v), w2)) :
    iv_V (iv_X d) mc_1 (some .boolean) 22 [.ref 0, .ref 1, .ref 158, .int (nI i)] [] w = iv_V (iv_X d) mc_1 (some .boolean) 626 [.ref 0, .ref 1, .ref 158, .int (nI i)] [] w2 := by
  simp only [e1_22, e1_23, e1_24, e1_25, e1_26, e1_27, q_p1, q_p2, q_ldi0, q_ldis, q_lda0, q_ldas, lq_1, lq_2, lq_3, lq_4, lq_5, lq_6, lq_scr hs (show i + 1 < L by omega) hL]
  rw [e1_28, iv_inv2 (Nat.le_of_ble_eq_true rfl) rfl (lq_rc hx rfl), hc1, iv_res_s]
  simp only [e1_29, e1_30, e1_31, e1_32, e1_33, e1_34, q_p1, q_p2, q_ldi0, q_ldis, q_lda0, q_ldas, lq_1, lq_2, lq_3, lq_4, lq_5, lq_6, lq_scr hs1 (show i + 1 < L by omega) hL]
  rw [e1_35, iv_inv2 (Nat.le_of_ble_eq_true rfl) rfl (lq_rc hy rfl), hc2, iv_res_s]
  rw [e1_36, q_p2, if_pos rfl]
theorem lb_1 (hL : L < 2 ^ 31) (hi : i + 7 ≤ L) (hs : w.1 0 = some (150, md_ints L xs)) (hx : w.1 1 = some (0, f1)) (hc1 : iv_X d 4 [.ref 1, .int (xs (i + 1)), .int (xs (i + 2))] w = some (some (.int v), w1)) (hs1 : w1.1 0 = some (150, md_ints L xs)) (hy : w1.1 158 = some (1, f2)) (hc2 : iv_X d 27 [.ref 158, .int (xs (i + 1)), .int (xs (i + 2))] w1 = some (some (.int v), w2)) :
    iv_V (iv_X d) mc_1 (some .boolean) 39 [.ref 0, .ref 1, .ref 158, .int (nI i)] [] w = iv_V (iv_X d) mc_1 (some .boolean) 626 [.ref 0, .ref 1, .ref 158, .int (nI i)] [] w2 := by
  simp only [e1_39, e1_40, e1_41, e1_42, e1_43, e1_44, e1_45, e1_46, e1_47, e1_48, e1_49, q_p1, q_p2, q_ldi0, q_ldis, q_lda0, q_ldas, lq_1, lq_2, lq_3, lq_4, lq_5, lq_6, lq_scr hs (show i + 1 < L by omega) hL, lq_scr hs (show i + 2 < L by omega) hL]
  rw [e1_50, iv_inv3 (Nat.le_of_ble_eq_true rfl) rfl (lq_rc hx rfl), hc1, iv_res_s]
  simp only [e1_51, e1_52, e1_53, e1_54, e1_55, e1_56, e1_57, e1_58, e1_59, e1_60, e1_61, q_p1, q_p2, q_ldi0, q_ldis, q_lda0, q_ldas, lq_1, lq_2, lq_3, lq_4, lq_5, lq_6, lq_scr hs1 (show i + 1 < L by omega) hL, lq_scr hs1 (show i + 2 < L by omega) hL]
  rw [e1_62, iv_inv3 (Nat.le_of_ble_eq_true rfl) rfl (lq_rc hy rfl), hc2, iv_res_s]
  rw [e1_63, q_p2, if_pos rfl]
theorem lb_2 (hL : L < 2 ^ 31) (hi : i + 7 ≤ L) (hs : w.1 0 = some (150, md_ints L xs)) (hx : w.1 1 = some (0, f1)) (hc1 : iv_X d 5 [.ref 1, .int (xs (i + 1)), .int (if xs (i + 2) = 0 then 0 else 1), .int (xs (i + 3)), .int (xs (i + 4)), .int (xs (i + 5)), .int (xs (i + 6))] w = some (some (.int v), w1)) (hs1 : w1.1 0 = some (150, md_ints L xs)) (hy : w1.1 158 = some (1, f2)) (hc2 : iv_X d 28 [.ref 158, .int (xs (i + 1)), .int (if xs (i + 2) = 0 then 0 else 1), .int (xs (i + 3)), .int (xs (i + 4)), .int (xs (i + 5)), .int (xs (i + 6))] w1 = some (some (.int v), w2)) :
    iv_V (iv_X d) mc_1 (some .boolean) 66 [.ref 0, .ref 1, .ref 158, .int (nI i)] [] w = iv_V (iv_X d) mc_1 (some .boolean) 626 [.ref 0, .ref 1, .ref 158, .int (nI i)] [] w2 := by
  by_cases hz : xs (i + 2) = 0
  · simp only [if_pos hz] at hc1 hc2
    simp only [e1_66, e1_67, e1_68, e1_69, e1_70, e1_71, e1_72, e1_73, e1_74, e1_75, e1_76, e1_77, e1_78, e1_79, e1_80, e1_81, e1_82, e1_83, e1_84, e1_85, e1_86, e1_87, e1_88, e1_89, e1_90, e1_91, e1_92, e1_93, e1_94, e1_95, e1_96, e1_97, e1_98, e1_99, e1_100, q_p1, q_p2, q_ldi0, q_ldis, q_lda0, q_ldas, lq_1, lq_2, lq_3, lq_4, lq_5, lq_6, lq_scr hs (show i + 1 < L by omega) hL, lq_scr hs (show i + 2 < L by omega) hL, lq_scr hs (show i + 3 < L by omega) hL, lq_scr hs (show i + 4 < L by omega) hL, lq_scr hs (show i + 5 < L by omega) hL, lq_scr hs (show i + 6 < L by omega) hL, if_pos hz]
    rw [e1_101, iv_inv7 (Nat.le_of_ble_eq_true rfl) rfl (lq_rc hx rfl), hc1, iv_res_s]
    simp only [e1_102, e1_103, e1_104, e1_105, e1_106, e1_107, e1_108, e1_109, e1_110, e1_111, e1_112, e1_113, e1_114, e1_115, e1_116, e1_117, e1_118, e1_119, e1_120, e1_121, e1_122, e1_123, e1_124, e1_125, e1_126, e1_127, e1_128, e1_129, e1_130, e1_131, e1_132, e1_133, e1_134, e1_135, e1_136, q_p1, q_p2, q_ldi0, q_ldis, q_lda0, q_ldas, lq_1, lq_2, lq_3, lq_4, lq_5, lq_6, lq_scr hs1 (show i + 1 < L by omega) hL, lq_scr hs1 (show i + 2 < L by omega) hL, lq_scr hs1 (show i + 3 < L by omega) hL, lq_scr hs1 (show i + 4 < L by omega) hL, lq_scr hs1 (show i + 5 < L by omega) hL, lq_scr hs1 (show i + 6 < L by omega) hL, if_pos hz]
    rw [e1_137, iv_inv7 (Nat.le_of_ble_eq_true rfl) rfl (lq_rc hy rfl), hc2, iv_res_s]
    rw [e1_138, q_p2, if_pos rfl]
  · simp only [if_neg hz] at hc1 hc2
    simp only [e1_66, e1_67, e1_68, e1_69, e1_70, e1_71, e1_72, e1_73, e1_74, e1_75, e1_76, e1_77, e1_78, e1_79, e1_80, e1_81, e1_82, e1_83, e1_84, e1_85, e1_86, e1_87, e1_88, e1_89, e1_90, e1_91, e1_92, e1_93, e1_94, e1_95, e1_96, e1_97, e1_98, e1_99, e1_100, q_p1, q_p2, q_ldi0, q_ldis, q_lda0, q_ldas, lq_1, lq_2, lq_3, lq_4, lq_5, lq_6, lq_scr hs (show i + 1 < L by omega) hL, lq_scr hs (show i + 2 < L by omega) hL, lq_scr hs (show i + 3 < L by omega) hL, lq_scr hs (show i + 4 < L by omega) hL, lq_scr hs (show i + 5 < L by omega) hL, lq_scr hs (show i + 6 < L by omega) hL, if_neg hz]
    rw [e1_101, iv_inv7 (Nat.le_of_ble_eq_true rfl) rfl (lq_rc hx rfl), hc1, iv_res_s]
    simp only [e1_102, e1_103, e1_104, e1_105, e1_106, e1_107, e1_108, e1_109, e1_110, e1_111, e1_112, e1_113, e1_114, e1_115, e1_116, e1_117, e1_118, e1_119, e1_120, e1_121, e1_122, e1_123, e1_124, e1_125, e1_126, e1_127, e1_128, e1_129, e1_130, e1_131, e1_132, e1_133, e1_134, e1_135, e1_136, q_p1, q_p2, q_ldi0, q_ldis, q_lda0, q_ldas, lq_1, lq_2, lq_3, lq_4, lq_5, lq_6, lq_scr hs1 (show i + 1 < L by omega) hL, lq_scr hs1 (show i + 2 < L by omega) hL, lq_scr hs1 (show i + 3 < L by omega) hL, lq_scr hs1 (show i + 4 < L by omega) hL, lq_scr hs1 (show i + 5 < L by omega) hL, lq_scr hs1 (show i + 6 < L by omega) hL, if_neg hz]
    rw [e1_137, iv_inv7 (Nat.le_of_ble_eq_true rfl) rfl (lq_rc hy rfl), hc2, iv_res_s]
    rw [e1_138, q_p2, if_pos rfl]
theorem lb_3 (hL : L < 2 ^ 31) (hi : i + 7 ≤ L) (hs : w.1 0 = some (150, md_ints L xs)) (hx : w.1 1 = some (0, f1)) (hc1 : iv_X d 6 [.ref 1, .int (xs (i + 1)), .int (xs (i + 2)), .int (xs (i + 3)), .int (xs (i + 4))] w = some (some (.int v), w1)) (hs1 : w1.1 0 = some (150, md_ints L xs)) (hy : w1.1 158 = some (1, f2)) (hc2 : iv_X d 29 [.ref 158, .int (xs (i + 1)), .int (xs (i + 2)), .int (xs (i + 3)), .int (xs (i + 4))] w1 = some (some (.int v), w2)) :
    iv_V (iv_X d) mc_1 (some .boolean) 141 [.ref 0, .ref 1, .ref 158, .int (nI i)] [] w = iv_V (iv_X d) mc_1 (some .boolean) 626 [.ref 0, .ref 1, .ref 158, .int (nI i)] [] w2 := by
  simp only [e1_141, e1_142, e1_143, e1_144, e1_145, e1_146, e1_147, e1_148, e1_149, e1_150, e1_151, e1_152, e1_153, e1_154, e1_155, e1_156, e1_157, e1_158, e1_159, e1_160, e1_161, q_p1, q_p2, q_ldi0, q_ldis, q_lda0, q_ldas, lq_1, lq_2, lq_3, lq_4, lq_5, lq_6, lq_scr hs (show i + 1 < L by omega) hL, lq_scr hs (show i + 2 < L by omega) hL, lq_scr hs (show i + 3 < L by omega) hL, lq_scr hs (show i + 4 < L by omega) hL]
  rw [e1_162, iv_inv5 (Nat.le_of_ble_eq_true rfl) rfl (lq_rc hx rfl), hc1, iv_res_s]
  simp only [e1_163, e1_164, e1_165, e1_166, e1_167, e1_168, e1_169, e1_170, e1_171, e1_172, e1_173, e1_174, e1_175, e1_176, e1_177, e1_178, e1_179, e1_180, e1_181, e1_182, e1_183, q_p1, q_p2, q_ldi0, q_ldis, q_lda0, q_ldas, lq_1, lq_2, lq_3, lq_4, lq_5, lq_6, lq_scr hs1 (show i + 1 < L by omega) hL, lq_scr hs1 (show i + 2 < L by omega) hL, lq_scr hs1 (show i + 3 < L by omega) hL, lq_scr hs1 (show i + 4 < L by omega) hL]
  rw [e1_184, iv_inv5 (Nat.le_of_ble_eq_true rfl) rfl (lq_rc hy rfl), hc2, iv_res_s]
  rw [e1_185, q_p2, if_pos rfl]
theorem lb_4 (hL : L < 2 ^ 31) (hi : i + 7 ≤ L) (hs : w.1 0 = some (150, md_ints L xs)) (hx : w.1 1 = some (0, f1)) (hc1 : iv_X d 7 [.ref 1, .int (xs (i + 1)), .int (if xs (i + 2) = 0 then 0 else 1)] w = some (some (.int v), w1)) (hs1 : w1.1 0 = some (150, md_ints L xs)) (hy : w1.1 158 = some (1, f2)) (hc2 : iv_X d 30 [.ref 158, .int (xs (i + 1)), .int (if xs (i + 2) = 0 then 0 else 1)] w1 = some (some (.int v), w2)) :
    iv_V (iv_X d) mc_1 (some .boolean) 188 [.ref 0, .ref 1, .ref 158, .int (nI i)] [] w = iv_V (iv_X d) mc_1 (some .boolean) 626 [.ref 0, .ref 1, .ref 158, .int (nI i)] [] w2 := by
  by_cases hz : xs (i + 2) = 0
  · simp only [if_pos hz] at hc1 hc2
    simp only [e1_188, e1_189, e1_190, e1_191, e1_192, e1_193, e1_194, e1_195, e1_196, e1_197, e1_198, e1_199, e1_200, e1_201, e1_202, q_p1, q_p2, q_ldi0, q_ldis, q_lda0, q_ldas, lq_1, lq_2, lq_3, lq_4, lq_5, lq_6, lq_scr hs (show i + 1 < L by omega) hL, lq_scr hs (show i + 2 < L by omega) hL, if_pos hz]
    rw [e1_203, iv_inv3 (Nat.le_of_ble_eq_true rfl) rfl (lq_rc hx rfl), hc1, iv_res_s]
    simp only [e1_204, e1_205, e1_206, e1_207, e1_208, e1_209, e1_210, e1_211, e1_212, e1_213, e1_214, e1_215, e1_216, e1_217, e1_218, q_p1, q_p2, q_ldi0, q_ldis, q_lda0, q_ldas, lq_1, lq_2, lq_3, lq_4, lq_5, lq_6, lq_scr hs1 (show i + 1 < L by omega) hL, lq_scr hs1 (show i + 2 < L by omega) hL, if_pos hz]
    rw [e1_219, iv_inv3 (Nat.le_of_ble_eq_true rfl) rfl (lq_rc hy rfl), hc2, iv_res_s]
    rw [e1_220, q_p2, if_pos rfl]
  · simp only [if_neg hz] at hc1 hc2
    simp only [e1_188, e1_189, e1_190, e1_191, e1_192, e1_193, e1_194, e1_195, e1_196, e1_197, e1_198, e1_199, e1_200, e1_201, e1_202, q_p1, q_p2, q_ldi0, q_ldis, q_lda0, q_ldas, lq_1, lq_2, lq_3, lq_4, lq_5, lq_6, lq_scr hs (show i + 1 < L by omega) hL, lq_scr hs (show i + 2 < L by omega) hL, if_neg hz]
    rw [e1_203, iv_inv3 (Nat.le_of_ble_eq_true rfl) rfl (lq_rc hx rfl), hc1, iv_res_s]
    simp only [e1_204, e1_205, e1_206, e1_207, e1_208, e1_209, e1_210, e1_211, e1_212, e1_213, e1_214, e1_215, e1_216, e1_217, e1_218, q_p1, q_p2, q_ldi0, q_ldis, q_lda0, q_ldas, lq_1, lq_2, lq_3, lq_4, lq_5, lq_6, lq_scr hs1 (show i + 1 < L by omega) hL, lq_scr hs1 (show i + 2 < L by omega) hL, if_neg hz]
    rw [e1_219, iv_inv3 (Nat.le_of_ble_eq_true rfl) rfl (lq_rc hy rfl), hc2, iv_res_s]
    rw [e1_220, q_p2, if_pos rfl]
theorem lb_5 (hL : L < 2 ^ 31) (hi : i + 7 ≤ L) (hs : w.1 0 = some (150, md_ints L xs)) (hx : w.1 1 = some (0, f1)) (hc1 : iv_X d 8 [.ref 1, .int (xs (i + 1)), .int (xs (i + 2))] w = some (some (.int v), w1)) (hs1 : w1.1 0 = some (150, md_ints L xs)) (hy : w1.1 158 = some (1, f2)) (hc2 : iv_X d 32 [.ref 158, .int (xs (i + 1)), .int (xs (i + 2))] w1 = some (some (.int v), w2)) :
    iv_V (iv_X d) mc_1 (some .boolean) 223 [.ref 0, .ref 1, .ref 158, .int (nI i)] [] w = iv_V (iv_X d) mc_1 (some .boolean) 626 [.ref 0, .ref 1, .ref 158, .int (nI i)] [] w2 := by
  simp only [e1_223, e1_224, e1_225, e1_226, e1_227, e1_228, e1_229, e1_230, e1_231, e1_232, e1_233, q_p1, q_p2, q_ldi0, q_ldis, q_lda0, q_ldas, lq_1, lq_2, lq_3, lq_4, lq_5, lq_6, lq_scr hs (show i + 1 < L by omega) hL, lq_scr hs (show i + 2 < L by omega) hL]
  rw [e1_234, iv_inv3 (Nat.le_of_ble_eq_true rfl) rfl (lq_rc hx rfl), hc1, iv_res_s]
  simp only [e1_235, e1_236, e1_237, e1_238, e1_239, e1_240, e1_241, e1_242, e1_243, e1_244, e1_245, q_p1, q_p2, q_ldi0, q_ldis, q_lda0, q_ldas, lq_1, lq_2, lq_3, lq_4, lq_5, lq_6, lq_scr hs1 (show i + 1 < L by omega) hL, lq_scr hs1 (show i + 2 < L by omega) hL]
  rw [e1_246, iv_inv3 (Nat.le_of_ble_eq_true rfl) rfl (lq_rc hy rfl), hc2, iv_res_s]
  rw [e1_247, q_p2, if_pos rfl]
theorem lb_6 (hL : L < 2 ^ 31) (hi : i + 7 ≤ L) (hs : w.1 0 = some (150, md_ints L xs)) (hx : w.1 1 = some (0, f1)) (hc1 : iv_X d 9 [.ref 1, .int (xs (i + 1)), .int (xs (i + 2))] w = some (some (.int v), w1)) (hs1 : w1.1 0 = some (150, md_ints L xs)) (hy : w1.1 158 = some (1, f2)) (hc2 : iv_X d 33 [.ref 158, .int (xs (i + 1)), .int (xs (i + 2))] w1 = some (some (.int v), w2)) :
    iv_V (iv_X d) mc_1 (some .boolean) 250 [.ref 0, .ref 1, .ref 158, .int (nI i)] [] w = iv_V (iv_X d) mc_1 (some .boolean) 626 [.ref 0, .ref 1, .ref 158, .int (nI i)] [] w2 := by
  simp only [e1_250, e1_251, e1_252, e1_253, e1_254, e1_255, e1_256, e1_257, e1_258, e1_259, e1_260, q_p1, q_p2, q_ldi0, q_ldis, q_lda0, q_ldas, lq_1, lq_2, lq_3, lq_4, lq_5, lq_6, lq_scr hs (show i + 1 < L by omega) hL, lq_scr hs (show i + 2 < L by omega) hL]
  rw [e1_261, iv_inv3 (Nat.le_of_ble_eq_true rfl) rfl (lq_rc hx rfl), hc1, iv_res_s]
  simp only [e1_262, e1_263, e1_264, e1_265, e1_266, e1_267, e1_268, e1_269, e1_270, e1_271, e1_272, q_p1, q_p2, q_ldi0, q_ldis, q_lda0, q_ldas, lq_1, lq_2, lq_3, lq_4, lq_5, lq_6, lq_scr hs1 (show i + 1 < L by omega) hL, lq_scr hs1 (show i + 2 < L by omega) hL]
  rw [e1_273, iv_inv3 (Nat.le_of_ble_eq_true rfl) rfl (lq_rc hy rfl), hc2, iv_res_s]
  rw [e1_274, q_p2, if_pos rfl]
theorem lb_7 (hL : L < 2 ^ 31) (hi : i + 7 ≤ L) (hs : w.1 0 = some (150, md_ints L xs)) (hx : w.1 1 = some (0, f1)) (hc1 : iv_X d 10 [.ref 1, .int (xs (i + 1)), .int (xs (i + 2))] w = some (some (.int v), w1)) (hs1 : w1.1 0 = some (150, md_ints L xs)) (hy : w1.1 158 = some (1, f2)) (hc2 : iv_X d 34 [.ref 158, .int (xs (i + 1)), .int (xs (i + 2))] w1 = some (some (.int v), w2)) :
    iv_V (iv_X d) mc_1 (some .boolean) 277 [.ref 0, .ref 1, .ref 158, .int (nI i)] [] w = iv_V (iv_X d) mc_1 (some .boolean) 626 [.ref 0, .ref 1, .ref 158, .int (nI i)] [] w2 := by
  simp only [e1_277, e1_278, e1_279, e1_280, e1_281, e1_282, e1_283, e1_284, e1_285, e1_286, e1_287, q_p1, q_p2, q_ldi0, q_ldis, q_lda0, q_ldas, lq_1, lq_2, lq_3, lq_4, lq_5, lq_6, lq_scr hs (show i + 1 < L by omega) hL, lq_scr hs (show i + 2 < L by omega) hL]
  rw [e1_288, iv_inv3 (Nat.le_of_ble_eq_true rfl) rfl (lq_rc hx rfl), hc1, iv_res_s]
  simp only [e1_289, e1_290, e1_291, e1_292, e1_293, e1_294, e1_295, e1_296, e1_297, e1_298, e1_299, q_p1, q_p2, q_ldi0, q_ldis, q_lda0, q_ldas, lq_1, lq_2, lq_3, lq_4, lq_5, lq_6, lq_scr hs1 (show i + 1 < L by omega) hL, lq_scr hs1 (show i + 2 < L by omega) hL]
  rw [e1_300, iv_inv3 (Nat.le_of_ble_eq_true rfl) rfl (lq_rc hy rfl), hc2, iv_res_s]
  rw [e1_301, q_p2, if_pos rfl]
theorem lb_8 (hL : L < 2 ^ 31) (hi : i + 7 ≤ L) (hs : w.1 0 = some (150, md_ints L xs)) (hx : w.1 1 = some (0, f1)) (hc1 : iv_X d 11 [.ref 1, .int (xs (i + 1))] w = some (some (.int v), w1)) (hs1 : w1.1 0 = some (150, md_ints L xs)) (hy : w1.1 158 = some (1, f2)) (hc2 : iv_X d 35 [.ref 158, .int (xs (i + 1))] w1 = some (some (.int v), w2)) :
    iv_V (iv_X d) mc_1 (some .boolean) 304 [.ref 0, .ref 1, .ref 158, .int (nI i)] [] w = iv_V (iv_X d) mc_1 (some .boolean) 626 [.ref 0, .ref 1, .ref 158, .int (nI i)] [] w2 := by
  simp only [e1_304, e1_305, e1_306, e1_307, e1_308, e1_309, q_p1, q_p2, q_ldi0, q_ldis, q_lda0, q_ldas, lq_1, lq_2, lq_3, lq_4, lq_5, lq_6, lq_scr hs (show i + 1 < L by omega) hL]
  rw [e1_310, iv_inv2 (Nat.le_of_ble_eq_true rfl) rfl (lq_rc hx rfl), hc1, iv_res_s]
  simp only [e1_311, e1_312, e1_313, e1_314, e1_315, e1_316, q_p1, q_p2, q_ldi0, q_ldis, q_lda0, q_ldas, lq_1, lq_2, lq_3, lq_4, lq_5, lq_6, lq_scr hs1 (show i + 1 < L by omega) hL]
  rw [e1_317, iv_inv2 (Nat.le_of_ble_eq_true rfl) rfl (lq_rc hy rfl), hc2, iv_res_s]
  rw [e1_318, q_p2, if_pos rfl]
theorem lb_9 (hL : L < 2 ^ 31) (hi : i + 7 ≤ L) (hs : w.1 0 = some (150, md_ints L xs)) (hx : w.1 1 = some (0, f1)) (hc1 : iv_X d 12 [.ref 1, .int (xs (i + 1)), .int (xs (i + 2)), .int (xs (i + 3))] w = some (some (.int v), w1)) (hs1 : w1.1 0 = some (150, md_ints L xs)) (hy : w1.1 158 = some (1, f2)) (hc2 : iv_X d 36 [.ref 158, .int (xs (i + 1)), .int (xs (i + 2)), .int (xs (i + 3))] w1 = some (some (.int v), w2)) :
    iv_V (iv_X d) mc_1 (some .boolean) 321 [.ref 0, .ref 1, .ref 158, .int (nI i)] [] w = iv_V (iv_X d) mc_1 (some .boolean) 626 [.ref 0, .ref 1, .ref 158, .int (nI i)] [] w2 := by
  simp only [e1_321, e1_322, e1_323, e1_324, e1_325, e1_326, e1_327, e1_328, e1_329, e1_330, e1_331, e1_332, e1_333, e1_334, e1_335, e1_336, q_p1, q_p2, q_ldi0, q_ldis, q_lda0, q_ldas, lq_1, lq_2, lq_3, lq_4, lq_5, lq_6, lq_scr hs (show i + 1 < L by omega) hL, lq_scr hs (show i + 2 < L by omega) hL, lq_scr hs (show i + 3 < L by omega) hL]
  rw [e1_337, iv_inv4 (Nat.le_of_ble_eq_true rfl) rfl (lq_rc hx rfl), hc1, iv_res_s]
  simp only [e1_338, e1_339, e1_340, e1_341, e1_342, e1_343, e1_344, e1_345, e1_346, e1_347, e1_348, e1_349, e1_350, e1_351, e1_352, e1_353, q_p1, q_p2, q_ldi0, q_ldis, q_lda0, q_ldas, lq_1, lq_2, lq_3, lq_4, lq_5, lq_6, lq_scr hs1 (show i + 1 < L by omega) hL, lq_scr hs1 (show i + 2 < L by omega) hL, lq_scr hs1 (show i + 3 < L by omega) hL]
  rw [e1_354, iv_inv4 (Nat.le_of_ble_eq_true rfl) rfl (lq_rc hy rfl), hc2, iv_res_s]
  rw [e1_355, q_p2, if_pos rfl]
theorem lb_10 (hL : L < 2 ^ 31) (hi : i + 7 ≤ L) (hs : w.1 0 = some (150, md_ints L xs)) (hx : w.1 1 = some (0, f1)) (hc1 : iv_X d 13 [.ref 1, .int (xs (i + 1))] w = some (some (.int v), w1)) (hs1 : w1.1 0 = some (150, md_ints L xs)) (hy : w1.1 158 = some (1, f2)) (hc2 : iv_X d 37 [.ref 158, .int (xs (i + 1))] w1 = some (some (.int v), w2)) :
    iv_V (iv_X d) mc_1 (some .boolean) 358 [.ref 0, .ref 1, .ref 158, .int (nI i)] [] w = iv_V (iv_X d) mc_1 (some .boolean) 626 [.ref 0, .ref 1, .ref 158, .int (nI i)] [] w2 := by
  simp only [e1_358, e1_359, e1_360, e1_361, e1_362, e1_363, q_p1, q_p2, q_ldi0, q_ldis, q_lda0, q_ldas, lq_1, lq_2, lq_3, lq_4, lq_5, lq_6, lq_scr hs (show i + 1 < L by omega) hL]
  rw [e1_364, iv_inv2 (Nat.le_of_ble_eq_true rfl) rfl (lq_rc hx rfl), hc1, iv_res_s]
  simp only [e1_365, e1_366, e1_367, e1_368, e1_369, e1_370, q_p1, q_p2, q_ldi0, q_ldis, q_lda0, q_ldas, lq_1, lq_2, lq_3, lq_4, lq_5, lq_6, lq_scr hs1 (show i + 1 < L by omega) hL]
  rw [e1_371, iv_inv2 (Nat.le_of_ble_eq_true rfl) rfl (lq_rc hy rfl), hc2, iv_res_s]
  rw [e1_372, q_p2, if_pos rfl]
theorem lb_11 (hL : L < 2 ^ 31) (hi : i + 7 ≤ L) (hs : w.1 0 = some (150, md_ints L xs)) (hx : w.1 1 = some (0, f1)) (hc1 : iv_X d 14 [.ref 1, .int (xs (i + 1)), .int (xs (i + 2)), .int (xs (i + 3))] w = some (some (.int v), w1)) (hs1 : w1.1 0 = some (150, md_ints L xs)) (hy : w1.1 158 = some (1, f2)) (hc2 : iv_X d 39 [.ref 158, .int (xs (i + 1)), .int (xs (i + 2)), .int (xs (i + 3))] w1 = some (some (.int v), w2)) :
    iv_V (iv_X d) mc_1 (some .boolean) 375 [.ref 0, .ref 1, .ref 158, .int (nI i)] [] w = iv_V (iv_X d) mc_1 (some .boolean) 626 [.ref 0, .ref 1, .ref 158, .int (nI i)] [] w2 := by
  simp only [e1_375, e1_376, e1_377, e1_378, e1_379, e1_380, e1_381, e1_382, e1_383, e1_384, e1_385, e1_386, e1_387, e1_388, e1_389, e1_390, q_p1, q_p2, q_ldi0, q_ldis, q_lda0, q_ldas, lq_1, lq_2, lq_3, lq_4, lq_5, lq_6, lq_scr hs (show i + 1 < L by omega) hL, lq_scr hs (show i + 2 < L by omega) hL, lq_scr hs (show i + 3 < L by omega) hL]
  rw [e1_391, iv_inv4 (Nat.le_of_ble_eq_true rfl) rfl (lq_rc hx rfl), hc1, iv_res_s]
  simp only [e1_392, e1_393, e1_394, e1_395, e1_396, e1_397, e1_398, e1_399, e1_400, e1_401, e1_402, e1_403, e1_404, e1_405, e1_406, e1_407, q_p1, q_p2, q_ldi0, q_ldis, q_lda0, q_ldas, lq_1, lq_2, lq_3, lq_4, lq_5, lq_6, lq_scr hs1 (show i + 1 < L by omega) hL, lq_scr hs1 (show i + 2 < L by omega) hL, lq_scr hs1 (show i + 3 < L by omega) hL]
  rw [e1_408, iv_inv4 (Nat.le_of_ble_eq_true rfl) rfl (lq_rc hy rfl), hc2, iv_res_s]
  rw [e1_409, q_p2, if_pos rfl]
theorem lb_12 (hL : L < 2 ^ 31) (hi : i + 7 ≤ L) (hs : w.1 0 = some (150, md_ints L xs)) (hx : w.1 1 = some (0, f1)) (hc1 : iv_X d 15 [.ref 1, .int (xs (i + 1)), .int (xs (i + 2)), .int (xs (i + 3))] w = some (some (.int v), w1)) (hs1 : w1.1 0 = some (150, md_ints L xs)) (hy : w1.1 158 = some (1, f2)) (hc2 : iv_X d 40 [.ref 158, .int (xs (i + 1)), .int (xs (i + 2)), .int (xs (i + 3))] w1 = some (some (.int v), w2)) :
    iv_V (iv_X d) mc_1 (some .boolean) 412 [.ref 0, .ref 1, .ref 158, .int (nI i)] [] w = iv_V (iv_X d) mc_1 (some .boolean) 626 [.ref 0, .ref 1, .ref 158, .int (nI i)] [] w2 := by
  simp only [e1_412, e1_413, e1_414, e1_415, e1_416, e1_417, e1_418, e1_419, e1_420, e1_421, e1_422, e1_423, e1_424, e1_425, e1_426, e1_427, q_p1, q_p2, q_ldi0, q_ldis, q_lda0, q_ldas, lq_1, lq_2, lq_3, lq_4, lq_5, lq_6, lq_scr hs (show i + 1 < L by omega) hL, lq_scr hs (show i + 2 < L by omega) hL, lq_scr hs (show i + 3 < L by omega) hL]
  rw [e1_428, iv_inv4 (Nat.le_of_ble_eq_true rfl) rfl (lq_rc hx rfl), hc1, iv_res_s]
  simp only [e1_429, e1_430, e1_431, e1_432, e1_433, e1_434, e1_435, e1_436, e1_437, e1_438, e1_439, e1_440, e1_441, e1_442, e1_443, e1_444, q_p1, q_p2, q_ldi0, q_ldis, q_lda0, q_ldas, lq_1, lq_2, lq_3, lq_4, lq_5, lq_6, lq_scr hs1 (show i + 1 < L by omega) hL, lq_scr hs1 (show i + 2 < L by omega) hL, lq_scr hs1 (show i + 3 < L by omega) hL]
  rw [e1_445, iv_inv4 (Nat.le_of_ble_eq_true rfl) rfl (lq_rc hy rfl), hc2, iv_res_s]
  rw [e1_446, q_p2, if_pos rfl]
theorem lb_13 (hL : L < 2 ^ 31) (hi : i + 7 ≤ L) (hs : w.1 0 = some (150, md_ints L xs)) (hx : w.1 1 = some (0, f1)) (hc1 : iv_X d 16 [.ref 1, .int (xs (i + 1)), .int (xs (i + 2)), .int (if xs (i + 3) = 0 then 0 else 1)] w = some (some (.int v), w1)) (hs1 : w1.1 0 = some (150, md_ints L xs)) (hy : w1.1 158 = some (1, f2)) (hc2 : iv_X d 41 [.ref 158, .int (xs (i + 1)), .int (xs (i + 2)), .int (if xs (i + 3) = 0 then 0 else 1)] w1 = some (some (.int v), w2)) :
    iv_V (iv_X d) mc_1 (some .boolean) 449 [.ref 0, .ref 1, .ref 158, .int (nI i)] [] w = iv_V (iv_X d) mc_1 (some .boolean) 626 [.ref 0, .ref 1, .ref 158, .int (nI i)] [] w2 := by
  by_cases hz : xs (i + 3) = 0
  · simp only [if_pos hz] at hc1 hc2
    simp only [e1_449, e1_450, e1_451, e1_452, e1_453, e1_454, e1_455, e1_456, e1_457, e1_458, e1_459, e1_460, e1_461, e1_462, e1_463, e1_464, e1_465, e1_466, e1_467, e1_468, q_p1, q_p2, q_ldi0, q_ldis, q_lda0, q_ldas, lq_1, lq_2, lq_3, lq_4, lq_5, lq_6, lq_scr hs (show i + 1 < L by omega) hL, lq_scr hs (show i + 2 < L by omega) hL, lq_scr hs (show i + 3 < L by omega) hL, if_pos hz]
    rw [e1_469, iv_inv4 (Nat.le_of_ble_eq_true rfl) rfl (lq_rc hx rfl), hc1, iv_res_s]
    simp only [e1_470, e1_471, e1_472, e1_473, e1_474, e1_475, e1_476, e1_477, e1_478, e1_479, e1_480, e1_481, e1_482, e1_483, e1_484, e1_485, e1_486, e1_487, e1_488, e1_489, q_p1, q_p2, q_ldi0, q_ldis, q_lda0, q_ldas, lq_1, lq_2, lq_3, lq_4, lq_5, lq_6, lq_scr hs1 (show i + 1 < L by omega) hL, lq_scr hs1 (show i + 2 < L by omega) hL, lq_scr hs1 (show i + 3 < L by omega) hL, if_pos hz]
    rw [e1_490, iv_inv4 (Nat.le_of_ble_eq_true rfl) rfl (lq_rc hy rfl), hc2, iv_res_s]
    rw [e1_491, q_p2, if_pos rfl]
  · simp only [if_neg hz] at hc1 hc2
    simp only [e1_449, e1_450, e1_451, e1_452, e1_453, e1_454, e1_455, e1_456, e1_457, e1_458, e1_459, e1_460, e1_461, e1_462, e1_463, e1_464, e1_465, e1_466, e1_467, e1_468, q_p1, q_p2, q_ldi0, q_ldis, q_lda0, q_ldas, lq_1, lq_2, lq_3, lq_4, lq_5, lq_6, lq_scr hs (show i + 1 < L by omega) hL, lq_scr hs (show i + 2 < L by omega) hL, lq_scr hs (show i + 3 < L by omega) hL, if_neg hz]
    rw [e1_469, iv_inv4 (Nat.le_of_ble_eq_true rfl) rfl (lq_rc hx rfl), hc1, iv_res_s]
    simp only [e1_470, e1_471, e1_472, e1_473, e1_474, e1_475, e1_476, e1_477, e1_478, e1_479, e1_480, e1_481, e1_482, e1_483, e1_484, e1_485, e1_486, e1_487, e1_488, e1_489, q_p1, q_p2, q_ldi0, q_ldis, q_lda0, q_ldas, lq_1, lq_2, lq_3, lq_4, lq_5, lq_6, lq_scr hs1 (show i + 1 < L by omega) hL, lq_scr hs1 (show i + 2 < L by omega) hL, lq_scr hs1 (show i + 3 < L by omega) hL, if_neg hz]
    rw [e1_490, iv_inv4 (Nat.le_of_ble_eq_true rfl) rfl (lq_rc hy rfl), hc2, iv_res_s]
    rw [e1_491, q_p2, if_pos rfl]
theorem lb_14 (hL : L < 2 ^ 31) (hi : i + 7 ≤ L) (hs : w.1 0 = some (150, md_ints L xs)) (hx : w.1 1 = some (0, f1)) (hc1 : iv_X d 17 [.ref 1, .int (xs (i + 1)), .int (xs (i + 2))] w = some (some (.int v), w1)) (hs1 : w1.1 0 = some (150, md_ints L xs)) (hy : w1.1 158 = some (1, f2)) (hc2 : iv_X d 56 [.ref 158, .int (xs (i + 1)), .int (xs (i + 2))] w1 = some (some (.int v), w2)) :
    iv_V (iv_X d) mc_1 (some .boolean) 494 [.ref 0, .ref 1, .ref 158, .int (nI i)] [] w = iv_V (iv_X d) mc_1 (some .boolean) 626 [.ref 0, .ref 1, .ref 158, .int (nI i)] [] w2 := by
  simp only [e1_494, e1_495, e1_496, e1_497, e1_498, e1_499, e1_500, e1_501, e1_502, e1_503, e1_504, q_p1, q_p2, q_ldi0, q_ldis, q_lda0, q_ldas, lq_1, lq_2, lq_3, lq_4, lq_5, lq_6, lq_scr hs (show i + 1 < L by omega) hL, lq_scr hs (show i + 2 < L by omega) hL]
  rw [e1_505, iv_inv3 (Nat.le_of_ble_eq_true rfl) rfl (lq_rc hx rfl), hc1, iv_res_s]
  simp only [e1_506, e1_507, e1_508, e1_509, e1_510, e1_511, e1_512, e1_513, e1_514, e1_515, e1_516, q_p1, q_p2, q_ldi0, q_ldis, q_lda0, q_ldas, lq_1, lq_2, lq_3, lq_4, lq_5, lq_6, lq_scr hs1 (show i + 1 < L by omega) hL, lq_scr hs1 (show i + 2 < L by omega) hL]
  rw [e1_517, iv_inv3 (Nat.le_of_ble_eq_true rfl) rfl (lq_rc hy rfl), hc2, iv_res_s]
  rw [e1_518, q_p2, if_pos rfl]
theorem lb_15 (hL : L < 2 ^ 31) (hi : i + 7 ≤ L) (hs : w.1 0 = some (150, md_ints L xs)) (hx : w.1 1 = some (0, f1)) (hc1 : iv_X d 18 [.ref 1, .int (xs (i + 1)), .int (xs (i + 2)), .int (xs (i + 3))] w = some (some (.int v), w1)) (hs1 : w1.1 0 = some (150, md_ints L xs)) (hy : w1.1 158 = some (1, f2)) (hc2 : iv_X d 57 [.ref 158, .int (xs (i + 1)), .int (xs (i + 2)), .int (xs (i + 3))] w1 = some (some (.int v), w2)) :
    iv_V (iv_X d) mc_1 (some .boolean) 521 [.ref 0, .ref 1, .ref 158, .int (nI i)] [] w = iv_V (iv_X d) mc_1 (some .boolean) 626 [.ref 0, .ref 1, .ref 158, .int (nI i)] [] w2 := by
  simp only [e1_521, e1_522, e1_523, e1_524, e1_525, e1_526, e1_527, e1_528, e1_529, e1_530, e1_531, e1_532, e1_533, e1_534, e1_535, e1_536, q_p1, q_p2, q_ldi0, q_ldis, q_lda0, q_ldas, lq_1, lq_2, lq_3, lq_4, lq_5, lq_6, lq_scr hs (show i + 1 < L by omega) hL, lq_scr hs (show i + 2 < L by omega) hL, lq_scr hs (show i + 3 < L by omega) hL]
  rw [e1_537, iv_inv4 (Nat.le_of_ble_eq_true rfl) rfl (lq_rc hx rfl), hc1, iv_res_s]
  simp only [e1_538, e1_539, e1_540, e1_541, e1_542, e1_543, e1_544, e1_545, e1_546, e1_547, e1_548, e1_549, e1_550, e1_551, e1_552, e1_553, q_p1, q_p2, q_ldi0, q_ldis, q_lda0, q_ldas, lq_1, lq_2, lq_3, lq_4, lq_5, lq_6, lq_scr hs1 (show i + 1 < L by omega) hL, lq_scr hs1 (show i + 2 < L by omega) hL, lq_scr hs1 (show i + 3 < L by omega) hL]
  rw [e1_554, iv_inv4 (Nat.le_of_ble_eq_true rfl) rfl (lq_rc hy rfl), hc2, iv_res_s]
  rw [e1_555, q_p2, if_pos rfl]
theorem lb_16 (hL : L < 2 ^ 31) (hi : i + 7 ≤ L) (hs : w.1 0 = some (150, md_ints L xs)) (hx : w.1 1 = some (0, f1)) (hc1 : iv_X d 19 [.ref 1] w = some (some (.int v), w1)) (hs1 : w1.1 0 = some (150, md_ints L xs)) (hy : w1.1 158 = some (1, f2)) (hc2 : iv_X d 58 [.ref 158] w1 = some (some (.int v), w2)) :
    iv_V (iv_X d) mc_1 (some .boolean) 558 [.ref 0, .ref 1, .ref 158, .int (nI i)] [] w = iv_V (iv_X d) mc_1 (some .boolean) 626 [.ref 0, .ref 1, .ref 158, .int (nI i)] [] w2 := by
  simp only [e1_558, q_p1, q_p2, q_ldi0, q_ldis, q_lda0, q_ldas, lq_1, lq_2, lq_3, lq_4, lq_5, lq_6]
  rw [e1_559, iv_inv1 (Nat.le_of_ble_eq_true rfl) rfl (lq_rc hx rfl), hc1, iv_res_s]
  simp only [e1_560, q_p1, q_p2, q_ldi0, q_ldis, q_lda0, q_ldas, lq_1, lq_2, lq_3, lq_4, lq_5, lq_6]
  rw [e1_561, iv_inv1 (Nat.le_of_ble_eq_true rfl) rfl (lq_rc hy rfl), hc2, iv_res_s]
  rw [e1_562, q_p2, if_pos rfl]
theorem lb_17 (hL : L < 2 ^ 31) (hi : i + 7 ≤ L) (hs : w.1 0 = some (150, md_ints L xs)) (hx : w.1 1 = some (0, f1)) (hc1 : iv_X d 20 [.ref 1] w = some (some (.int v), w1)) (hs1 : w1.1 0 = some (150, md_ints L xs)) (hy : w1.1 158 = some (1, f2)) (hc2 : iv_X d 59 [.ref 158] w1 = some (some (.int v), w2)) :
    iv_V (iv_X d) mc_1 (some .boolean) 565 [.ref 0, .ref 1, .ref 158, .int (nI i)] [] w = iv_V (iv_X d) mc_1 (some .boolean) 626 [.ref 0, .ref 1, .ref 158, .int (nI i)] [] w2 := by
  simp only [e1_565, q_p1, q_p2, q_ldi0, q_ldis, q_lda0, q_ldas, lq_1, lq_2, lq_3, lq_4, lq_5, lq_6]
  rw [e1_566, iv_inv1 (Nat.le_of_ble_eq_true rfl) rfl (lq_rc hx rfl), hc1, iv_res_s]
  simp only [e1_567, q_p1, q_p2, q_ldi0, q_ldis, q_lda0, q_ldas, lq_1, lq_2, lq_3, lq_4, lq_5, lq_6]
  rw [e1_568, iv_inv1 (Nat.le_of_ble_eq_true rfl) rfl (lq_rc hy rfl), hc2, iv_res_s]
  rw [e1_569, q_p2, if_pos rfl]
theorem lb_18 (hL : L < 2 ^ 31) (hi : i + 7 ≤ L) (hs : w.1 0 = some (150, md_ints L xs)) (hx : w.1 1 = some (0, f1)) (hc1 : iv_X d 21 [.ref 1, .int (xs (i + 1)), .int (xs (i + 2))] w = some (some (.int v), w1)) (hs1 : w1.1 0 = some (150, md_ints L xs)) (hy : w1.1 158 = some (1, f2)) (hc2 : iv_X d 60 [.ref 158, .int (xs (i + 1)), .int (xs (i + 2))] w1 = some (some (.int v), w2)) :
    iv_V (iv_X d) mc_1 (some .boolean) 572 [.ref 0, .ref 1, .ref 158, .int (nI i)] [] w = iv_V (iv_X d) mc_1 (some .boolean) 626 [.ref 0, .ref 1, .ref 158, .int (nI i)] [] w2 := by
  simp only [e1_572, e1_573, e1_574, e1_575, e1_576, e1_577, e1_578, e1_579, e1_580, e1_581, e1_582, q_p1, q_p2, q_ldi0, q_ldis, q_lda0, q_ldas, lq_1, lq_2, lq_3, lq_4, lq_5, lq_6, lq_scr hs (show i + 1 < L by omega) hL, lq_scr hs (show i + 2 < L by omega) hL]
  rw [e1_583, iv_inv3 (Nat.le_of_ble_eq_true rfl) rfl (lq_rc hx rfl), hc1, iv_res_s]
  simp only [e1_584, e1_585, e1_586, e1_587, e1_588, e1_589, e1_590, e1_591, e1_592, e1_593, e1_594, q_p1, q_p2, q_ldi0, q_ldis, q_lda0, q_ldas, lq_1, lq_2, lq_3, lq_4, lq_5, lq_6, lq_scr hs1 (show i + 1 < L by omega) hL, lq_scr hs1 (show i + 2 < L by omega) hL]
  rw [e1_595, iv_inv3 (Nat.le_of_ble_eq_true rfl) rfl (lq_rc hy rfl), hc2, iv_res_s]
  rw [e1_596, q_p2, if_pos rfl]
theorem lb_19 (hL : L < 2 ^ 31) (hi : i + 7 ≤ L) (hs : w.1 0 = some (150, md_ints L xs)) (hx : w.1 1 = some (0, f1)) (hc1 : iv_X d 22 [.ref 1, .int (xs (i + 1)), .int (xs (i + 2))] w = some (some (.int v), w1)) (hs1 : w1.1 0 = some (150, md_ints L xs)) (hy : w1.1 158 = some (1, f2)) (hc2 : iv_X d 63 [.ref 158, .int (xs (i + 1)), .int (xs (i + 2))] w1 = some (some (.int v), w2)) :
    iv_V (iv_X d) mc_1 (some .boolean) 599 [.ref 0, .ref 1, .ref 158, .int (nI i)] [] w = iv_V (iv_X d) mc_1 (some .boolean) 626 [.ref 0, .ref 1, .ref 158, .int (nI i)] [] w2 := by
  simp only [e1_599, e1_600, e1_601, e1_602, e1_603, e1_604, e1_605, e1_606, e1_607, e1_608, e1_609, q_p1, q_p2, q_ldi0, q_ldis, q_lda0, q_ldas, lq_1, lq_2, lq_3, lq_4, lq_5, lq_6, lq_scr hs (show i + 1 < L by omega) hL, lq_scr hs (show i + 2 < L by omega) hL]
  rw [e1_610, iv_inv3 (Nat.le_of_ble_eq_true rfl) rfl (lq_rc hx rfl), hc1, iv_res_s]
  simp only [e1_611, e1_612, e1_613, e1_614, e1_615, e1_616, e1_617, e1_618, e1_619, e1_620, e1_621, q_p1, q_p2, q_ldi0, q_ldis, q_lda0, q_ldas, lq_1, lq_2, lq_3, lq_4, lq_5, lq_6, lq_scr hs1 (show i + 1 < L by omega) hL, lq_scr hs1 (show i + 2 < L by omega) hL]
  rw [e1_622, iv_inv3 (Nat.le_of_ble_eq_true rfl) rfl (lq_rc hy rfl), hc2, iv_res_s]
  rw [e1_623, q_p2, if_pos rfl]
end LAW
