/-! the law's loop, over an invariant of the calls made -/
/-- both objects answer a call alike, and the invariant goes on -/
def lw_pair (d x y : Nat) (as : List Value) (L : Nat) (xs : Nat → Int32) (w : iv_S) (P : iv_S → Prop) : Prop :=
  ∃ (v : Int32) (w1 w2 : iv_S) (f1 f2 : List Value), w.1 0 = some (150, md_ints L xs) ∧ w.1 1 = some (0, f1) ∧ iv_X d x (.ref 1 :: as) w = some (some (.int v), w1) ∧ w1.1 0 = some (150, md_ints L xs) ∧ w1.1 158 = some (1, f2) ∧ iv_X d y (.ref 158 :: as) w1 = some (some (.int v), w2) ∧ P w2
def lw_bit (x : Int32) : Value := .int (if x = 0 then 0 else 1)
theorem lw_loop {d L : Nat} {xs : Nat → Int32} {P : Nat → iv_S → Prop} (hL : L < 2 ^ 30) (hP : ∀ n w, P n w → w.1 0 = some (150, md_ints L xs))
    (hup : ∀ n w, P n w → 7 * n + 7 ≤ L → P (n + 1) w)
    (h0 : ∀ (w : iv_S) (n : Nat), P n w → 7 * n + 7 ≤ L → lw_pair d 3 26 [.int (xs (7 * n + 1))] L xs w (P (n + 1)))
    (h1 : ∀ (w : iv_S) (n : Nat), P n w → 7 * n + 7 ≤ L → lw_pair d 4 27 [.int (xs (7 * n + 1)), .int (xs (7 * n + 2))] L xs w (P (n + 1)))
    (h2 : ∀ (w : iv_S) (n : Nat), P n w → 7 * n + 7 ≤ L → lw_pair d 5 28 [.int (xs (7 * n + 1)), lw_bit (xs (7 * n + 2)), .int (xs (7 * n + 3)), .int (xs (7 * n + 4)), .int (xs (7 * n + 5)), .int (xs (7 * n + 6))] L xs w (P (n + 1)))
    (h3 : ∀ (w : iv_S) (n : Nat), P n w → 7 * n + 7 ≤ L → lw_pair d 6 29 [.int (xs (7 * n + 1)), .int (xs (7 * n + 2)), .int (xs (7 * n + 3)), .int (xs (7 * n + 4))] L xs w (P (n + 1)))
    (h4 : ∀ (w : iv_S) (n : Nat), P n w → 7 * n + 7 ≤ L → lw_pair d 7 30 [.int (xs (7 * n + 1)), lw_bit (xs (7 * n + 2))] L xs w (P (n + 1)))
    (h5 : ∀ (w : iv_S) (n : Nat), P n w → 7 * n + 7 ≤ L → lw_pair d 8 32 [.int (xs (7 * n + 1)), .int (xs (7 * n + 2))] L xs w (P (n + 1)))
    (h6 : ∀ (w : iv_S) (n : Nat), P n w → 7 * n + 7 ≤ L → lw_pair d 9 33 [.int (xs (7 * n + 1)), .int (xs (7 * n + 2))] L xs w (P (n + 1)))
    (h7 : ∀ (w : iv_S) (n : Nat), P n w → 7 * n + 7 ≤ L → lw_pair d 10 34 [.int (xs (7 * n + 1)), .int (xs (7 * n + 2))] L xs w (P (n + 1)))
    (h8 : ∀ (w : iv_S) (n : Nat), P n w → 7 * n + 7 ≤ L → lw_pair d 11 35 [.int (xs (7 * n + 1))] L xs w (P (n + 1)))
    (h9 : ∀ (w : iv_S) (n : Nat), P n w → 7 * n + 7 ≤ L → lw_pair d 12 36 [.int (xs (7 * n + 1)), .int (xs (7 * n + 2)), .int (xs (7 * n + 3))] L xs w (P (n + 1)))
    (h10 : ∀ (w : iv_S) (n : Nat), P n w → 7 * n + 7 ≤ L → lw_pair d 13 37 [.int (xs (7 * n + 1))] L xs w (P (n + 1)))
    (h11 : ∀ (w : iv_S) (n : Nat), P n w → 7 * n + 7 ≤ L → lw_pair d 14 39 [.int (xs (7 * n + 1)), .int (xs (7 * n + 2)), .int (xs (7 * n + 3))] L xs w (P (n + 1)))
    (h12 : ∀ (w : iv_S) (n : Nat), P n w → 7 * n + 7 ≤ L → lw_pair d 15 40 [.int (xs (7 * n + 1)), .int (xs (7 * n + 2)), .int (xs (7 * n + 3))] L xs w (P (n + 1)))
    (h13 : ∀ (w : iv_S) (n : Nat), P n w → 7 * n + 7 ≤ L → lw_pair d 16 41 [.int (xs (7 * n + 1)), .int (xs (7 * n + 2)), lw_bit (xs (7 * n + 3))] L xs w (P (n + 1)))
    (h14 : ∀ (w : iv_S) (n : Nat), P n w → 7 * n + 7 ≤ L → lw_pair d 17 56 [.int (xs (7 * n + 1)), .int (xs (7 * n + 2))] L xs w (P (n + 1)))
    (h15 : ∀ (w : iv_S) (n : Nat), P n w → 7 * n + 7 ≤ L → lw_pair d 18 57 [.int (xs (7 * n + 1)), .int (xs (7 * n + 2)), .int (xs (7 * n + 3))] L xs w (P (n + 1)))
    (h16 : ∀ (w : iv_S) (n : Nat), P n w → 7 * n + 7 ≤ L → lw_pair d 19 58 [] L xs w (P (n + 1)))
    (h17 : ∀ (w : iv_S) (n : Nat), P n w → 7 * n + 7 ≤ L → lw_pair d 20 59 [] L xs w (P (n + 1)))
    (h18 : ∀ (w : iv_S) (n : Nat), P n w → 7 * n + 7 ≤ L → lw_pair d 21 60 [.int (xs (7 * n + 1)), .int (xs (7 * n + 2))] L xs w (P (n + 1)))
    (h19 : ∀ (w : iv_S) (n : Nat), P n w → 7 * n + 7 ≤ L → lw_pair d 22 63 [.int (xs (7 * n + 1)), .int (xs (7 * n + 2))] L xs w (P (n + 1))) :
    ∀ (m n : Nat) (w : iv_S), 7 * n + 7 * m ≤ L → L < 7 * n + 7 * m + 7 → P n w → ∃ w' : iv_S, iv_V (iv_X d) mc_1 (some .boolean) 10 [.ref 0, .ref 1, .ref 158, .int (nI (7 * n))] [] w = some (some (.int 1), w') ∧ P (n + m) w'
  | 0, n, w, b1, b2, hw => by
    refine ⟨w, ?_, hw⟩
    have hs := hP n w hw
    simp only [e1_10, e1_11, e1_12, e1_13, e1_14, q_ldi0, q_ldis, q_lda0, q_ldas, lq_len hs, q_p2]
    have hgt : (nI L - 7 : Int32) < nI (7 * n) := by
      have e7 : (nI L - nI 7).toInt = (L : Int) - 7 := pk_sub_toInt (by omega) (by omega)
      rw [Int32.lt_iff_toInt_lt, nI_toInt (by omega)]
      show (nI L - nI 7).toInt < _
      rw [e7]
      omega
    rw [e1_15, q_p2, if_pos hgt]
    rw [e1_628, e1_629, q_rz1]
  | m + 1, n, w, b1, b2, hw => by
    have hs := hP n w hw
    have hi : 7 * n + 7 ≤ L := by omega
    have hL' : L < 2 ^ 31 := by omega
    simp only [e1_10, e1_11, e1_12, e1_13, e1_14, q_ldi0, q_ldis, q_lda0, q_ldas, lq_len hs, q_p2]
    have hgt : ¬ (nI L - 7 : Int32) < nI (7 * n) := by
      have e7 : (nI L - nI 7).toInt = (L : Int) - 7 := pk_sub_toInt (by omega) (by omega)
      rw [Int32.lt_iff_toInt_lt, nI_toInt (by omega)]
      show ¬ (nI L - nI 7).toInt < _
      rw [e7]
      omega
    rw [e1_15, q_p2, if_neg hgt]
    simp only [e1_16, e1_17, e1_18, e1_19, e1_20, q_ldi0, q_ldis, q_lda0, q_ldas, q_p2, lq_scr hs (show 7 * n < L by omega) hL']
    have again : ∀ w2, P (n + 1) w2 → ∃ w' : iv_S, iv_V (iv_X d) mc_1 (some .boolean) 626 [.ref 0, .ref 1, .ref 158, .int (nI (7 * n))] [] w2 = some (some (.int 1), w') ∧ P (n + (m + 1)) w' := by
      intro w2 hw2
      obtain ⟨w', g1, g2⟩ := lw_loop hL hP hup h0 h1 h2 h3 h4 h5 h6 h7 h8 h9 h10 h11 h12 h13 h14 h15 h16 h17 h18 h19 m (n + 1) w2 (by omega) (by omega) hw2
      refine ⟨w', ?_, by rw [show n + (m + 1) = n + 1 + m by omega]; exact g2⟩
      rw [e1_626]
      simp only [q_ldi0, q_ldis, q_sto0, q_stos, lq_7]
      rw [e1_627]
      rw [show 7 * (n + 1) = 7 * n + 7 by omega] at g1
      exact g1
    rw [e1_21, q_p1]
    by_cases c0 : xs (7 * n) &&& 31 = 0
    · rw [if_pos c0]
      obtain ⟨v, w1, w2, f1, f2, g1, g2, g3, g4, g5, g6, g7⟩ := h0 w n hw hi
      rw [lb_0 hL' hi g1 g2 g3 g4 g5 g6]
      exact again w2 g7
    rw [if_neg c0]
    by_cases c1 : xs (7 * n) &&& 31 = 1
    · rw [if_pos c1]
      obtain ⟨v, w1, w2, f1, f2, g1, g2, g3, g4, g5, g6, g7⟩ := h1 w n hw hi
      rw [lb_1 hL' hi g1 g2 g3 g4 g5 g6]
      exact again w2 g7
    rw [if_neg c1]
    by_cases c2 : xs (7 * n) &&& 31 = 2
    · rw [if_pos c2]
      obtain ⟨v, w1, w2, f1, f2, g1, g2, g3, g4, g5, g6, g7⟩ := h2 w n hw hi
      rw [lb_2 hL' hi g1 g2 g3 g4 g5 g6]
      exact again w2 g7
    rw [if_neg c2]
    by_cases c3 : xs (7 * n) &&& 31 = 3
    · rw [if_pos c3]
      obtain ⟨v, w1, w2, f1, f2, g1, g2, g3, g4, g5, g6, g7⟩ := h3 w n hw hi
      rw [lb_3 hL' hi g1 g2 g3 g4 g5 g6]
      exact again w2 g7
    rw [if_neg c3]
    by_cases c4 : xs (7 * n) &&& 31 = 4
    · rw [if_pos c4]
      obtain ⟨v, w1, w2, f1, f2, g1, g2, g3, g4, g5, g6, g7⟩ := h4 w n hw hi
      rw [lb_4 hL' hi g1 g2 g3 g4 g5 g6]
      exact again w2 g7
    rw [if_neg c4]
    by_cases c5 : xs (7 * n) &&& 31 = 5
    · rw [if_pos c5]
      obtain ⟨v, w1, w2, f1, f2, g1, g2, g3, g4, g5, g6, g7⟩ := h5 w n hw hi
      rw [lb_5 hL' hi g1 g2 g3 g4 g5 g6]
      exact again w2 g7
    rw [if_neg c5]
    by_cases c6 : xs (7 * n) &&& 31 = 6
    · rw [if_pos c6]
      obtain ⟨v, w1, w2, f1, f2, g1, g2, g3, g4, g5, g6, g7⟩ := h6 w n hw hi
      rw [lb_6 hL' hi g1 g2 g3 g4 g5 g6]
      exact again w2 g7
    rw [if_neg c6]
    by_cases c7 : xs (7 * n) &&& 31 = 7
    · rw [if_pos c7]
      obtain ⟨v, w1, w2, f1, f2, g1, g2, g3, g4, g5, g6, g7⟩ := h7 w n hw hi
      rw [lb_7 hL' hi g1 g2 g3 g4 g5 g6]
      exact again w2 g7
    rw [if_neg c7]
    by_cases c8 : xs (7 * n) &&& 31 = 8
    · rw [if_pos c8]
      obtain ⟨v, w1, w2, f1, f2, g1, g2, g3, g4, g5, g6, g7⟩ := h8 w n hw hi
      rw [lb_8 hL' hi g1 g2 g3 g4 g5 g6]
      exact again w2 g7
    rw [if_neg c8]
    by_cases c9 : xs (7 * n) &&& 31 = 9
    · rw [if_pos c9]
      obtain ⟨v, w1, w2, f1, f2, g1, g2, g3, g4, g5, g6, g7⟩ := h9 w n hw hi
      rw [lb_9 hL' hi g1 g2 g3 g4 g5 g6]
      exact again w2 g7
    rw [if_neg c9]
    by_cases c10 : xs (7 * n) &&& 31 = 10
    · rw [if_pos c10]
      obtain ⟨v, w1, w2, f1, f2, g1, g2, g3, g4, g5, g6, g7⟩ := h10 w n hw hi
      rw [lb_10 hL' hi g1 g2 g3 g4 g5 g6]
      exact again w2 g7
    rw [if_neg c10]
    by_cases c11 : xs (7 * n) &&& 31 = 11
    · rw [if_pos c11]
      obtain ⟨v, w1, w2, f1, f2, g1, g2, g3, g4, g5, g6, g7⟩ := h11 w n hw hi
      rw [lb_11 hL' hi g1 g2 g3 g4 g5 g6]
      exact again w2 g7
    rw [if_neg c11]
    by_cases c12 : xs (7 * n) &&& 31 = 12
    · rw [if_pos c12]
      obtain ⟨v, w1, w2, f1, f2, g1, g2, g3, g4, g5, g6, g7⟩ := h12 w n hw hi
      rw [lb_12 hL' hi g1 g2 g3 g4 g5 g6]
      exact again w2 g7
    rw [if_neg c12]
    by_cases c13 : xs (7 * n) &&& 31 = 13
    · rw [if_pos c13]
      obtain ⟨v, w1, w2, f1, f2, g1, g2, g3, g4, g5, g6, g7⟩ := h13 w n hw hi
      rw [lb_13 hL' hi g1 g2 g3 g4 g5 g6]
      exact again w2 g7
    rw [if_neg c13]
    by_cases c14 : xs (7 * n) &&& 31 = 14
    · rw [if_pos c14]
      obtain ⟨v, w1, w2, f1, f2, g1, g2, g3, g4, g5, g6, g7⟩ := h14 w n hw hi
      rw [lb_14 hL' hi g1 g2 g3 g4 g5 g6]
      exact again w2 g7
    rw [if_neg c14]
    by_cases c15 : xs (7 * n) &&& 31 = 15
    · rw [if_pos c15]
      obtain ⟨v, w1, w2, f1, f2, g1, g2, g3, g4, g5, g6, g7⟩ := h15 w n hw hi
      rw [lb_15 hL' hi g1 g2 g3 g4 g5 g6]
      exact again w2 g7
    rw [if_neg c15]
    by_cases c16 : xs (7 * n) &&& 31 = 16
    · rw [if_pos c16]
      obtain ⟨v, w1, w2, f1, f2, g1, g2, g3, g4, g5, g6, g7⟩ := h16 w n hw hi
      rw [lb_16 hL' hi g1 g2 g3 g4 g5 g6]
      exact again w2 g7
    rw [if_neg c16]
    by_cases c17 : xs (7 * n) &&& 31 = 17
    · rw [if_pos c17]
      obtain ⟨v, w1, w2, f1, f2, g1, g2, g3, g4, g5, g6, g7⟩ := h17 w n hw hi
      rw [lb_17 hL' hi g1 g2 g3 g4 g5 g6]
      exact again w2 g7
    rw [if_neg c17]
    by_cases c18 : xs (7 * n) &&& 31 = 18
    · rw [if_pos c18]
      obtain ⟨v, w1, w2, f1, f2, g1, g2, g3, g4, g5, g6, g7⟩ := h18 w n hw hi
      rw [lb_18 hL' hi g1 g2 g3 g4 g5 g6]
      exact again w2 g7
    rw [if_neg c18]
    by_cases c19 : xs (7 * n) &&& 31 = 19
    · rw [if_pos c19]
      obtain ⟨v, w1, w2, f1, f2, g1, g2, g3, g4, g5, g6, g7⟩ := h19 w n hw hi
      rw [lb_19 hL' hi g1 g2 g3 g4 g5 g6]
      exact again w2 g7
    rw [if_neg c19]
    exact again w (hup n w hw hi)
