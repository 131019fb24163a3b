-- fractions, games, who knows it first, rings
theorem rem_half {x y : Nat} (h0 : 0 < y) (h : y ≤ x) : 2 * (x % y) < x := by
  have h1 := Nat.mod_lt x h0
  have h2 := Nat.div_add_mod x y
  have h3 : 1 ≤ x / y := Nat.div_pos h h0
  have h4 : y * 1 ≤ y * (x / y) := Nat.mul_le_mul_left y h3
  omega
set_option maxHeartbeats 4000000 in
theorem v_commonDivisor {d : Nat} {Q : PQ} {h : HP} {a b : Nat} (ha : a < 2 ^ 40) (hb : b < 2 ^ 40) : Ev (d + 1) 213 [.long (lN a), .long (lN b)] h Q = Q (some (.long (lN (Nat.gcd a b)))) h := by
  have lz : ∀ x, x < 2 ^ 40 → (lg_cmp (lN x) 0 = 0) = (x = 0) := fun x hx => by
    apply propext
    rw [lgc_0]
    constructor
    · intro e
      have := congrArg Int64.toBitVec e
      have e2 : (BitVec.ofNat 64 x).toNat = (BitVec.ofNat 64 0).toNat := congrArg BitVec.toNat this
      rw [BitVec.toNat_ofNat, BitVec.toNat_ofNat, Nat.mod_eq_of_lt (by omega)] at e2
      exact e2
    · intro e
      rw [e]
      rfl
  have l0 : ∀ x, x < 2 ^ 40 → (lN x = 0) = (x = 0) := fun x hx => by
    rw [← lz x hx, eq_iff_iff, lgc_0]
  have loop : ∀ (k i x y : Nat) (z z2 : Slot), x < 2 ^ 40 → y < 2 ^ 40 → y < 2 ^ k → i + 2 * k + 1 ≤ 1000 →
      WP d 213 Q (9, [.val (.long (lN a)), .second, .val (.long (lN b)), .second, .val (.long (lN x)), .second, .val (.long (lN y)), .second, .val (.int (nI i)), z, z2], [], h, 0, 0) = Q (some (.long (lN (Nat.gcd x y)))) h := by
    intro k
    induction k with
    | zero =>
      intro i x y z z2 hx hy hk hi
      obtain rfl : y = 0 := by omega
      have c : ¬ (1000 : Int32) ≤ nI i := nI_ge (b := 1000) (by omega) (by decide)
      rw [s213_9]
      simp only [s213_0, s213_1, s213_3, s213_4, s213_6, s213_7, s213_11, s213_14, s213_17, s213_19, s213_20, s213_21, s213_24, s213_26, s213_28, s213_29, s213_31, s213_33, s213_35, s213_37, s213_39, s213_42, s213_45, s213_47, oB_some, cl2_i, cl2_r, cl2_l, cl2_u, cl2_s, wd_0, wd_i, wd_r, wd_l, wd_f, ct_i, ct_r, ct_n, ct_f, rf_s, rf_n, tl_s, tl_n, true_and, and_true, eq_self, and_self, Nat.reduceAdd, Nat.reduceLeDiff, Nat.zero_le, Nat.reduceEqDiff, or_true, true_or, false_or, or_false, if_true, if_false, gI_0, gI_1, gI_2, gI_3, gI_4, gI_5, gI_6, gI_7, gI_8, gI_9, gI_10, gI_11, gI_12, gI_13, gI_14, gI_15, gL_0, gL_1, gL_2, gL_3, gL_4, gL_5, gL_6, gL_7, gL_8, gL_9, gL_10, gL_11, gL_12, gL_13, gL_14, gL_15, gA_0, gA_1, gA_2, gA_3, gA_4, gA_5, gA_6, gA_7, gA_8, gA_9, gA_10, gA_11, gA_12, gA_13, gA_14, gA_15, p1_0, p1_1, p1_2, p1_3, p1_4, p1_5, p1_6, p1_7, p1_8, p1_9, p1_10, p1_11, p1_12, p1_13, p1_14, p1_15, p2_0, p2_1, p2_2, p2_3, p2_4, p2_5, p2_6, p2_7, p2_8, p2_9, p2_10, p2_11, p2_12, p2_13, p2_14, p2_15, b01_ok, b_ft, b_tf, b01_e0, b01_e1, lgc_0, not_true_eq_false, not_false_eq_true, c, l0 0 (by decide), Nat.gcd_zero_right]
    | succ k ih =>
      intro i x y z z2 hx hy hk hi
      have c : ¬ (1000 : Int32) ≤ nI i := nI_ge (b := 1000) (by omega) (by decide)
      by_cases y0 : y = 0
      · subst y0
        rw [s213_9]
        simp only [s213_0, s213_1, s213_3, s213_4, s213_6, s213_7, s213_11, s213_14, s213_17, s213_19, s213_20, s213_21, s213_24, s213_26, s213_28, s213_29, s213_31, s213_33, s213_35, s213_37, s213_39, s213_42, s213_45, s213_47, oB_some, cl2_i, cl2_r, cl2_l, cl2_u, cl2_s, wd_0, wd_i, wd_r, wd_l, wd_f, ct_i, ct_r, ct_n, ct_f, rf_s, rf_n, tl_s, tl_n, true_and, and_true, eq_self, and_self, Nat.reduceAdd, Nat.reduceLeDiff, Nat.zero_le, Nat.reduceEqDiff, or_true, true_or, false_or, or_false, if_true, if_false, gI_0, gI_1, gI_2, gI_3, gI_4, gI_5, gI_6, gI_7, gI_8, gI_9, gI_10, gI_11, gI_12, gI_13, gI_14, gI_15, gL_0, gL_1, gL_2, gL_3, gL_4, gL_5, gL_6, gL_7, gL_8, gL_9, gL_10, gL_11, gL_12, gL_13, gL_14, gL_15, gA_0, gA_1, gA_2, gA_3, gA_4, gA_5, gA_6, gA_7, gA_8, gA_9, gA_10, gA_11, gA_12, gA_13, gA_14, gA_15, p1_0, p1_1, p1_2, p1_3, p1_4, p1_5, p1_6, p1_7, p1_8, p1_9, p1_10, p1_11, p1_12, p1_13, p1_14, p1_15, p2_0, p2_1, p2_2, p2_3, p2_4, p2_5, p2_6, p2_7, p2_8, p2_9, p2_10, p2_11, p2_12, p2_13, p2_14, p2_15, b01_ok, b_ft, b_tf, b01_e0, b01_e1, lgc_0, not_true_eq_false, not_false_eq_true, c, l0 0 (by decide), Nat.gcd_zero_right]
      · have yp : 0 < y := by omega
        have m1 := Nat.mod_lt x yp
        have e1 : Nat.gcd x y = Nat.gcd y (x % y) := by rw [Nat.gcd_comm x y, Nat.gcd_rec y x, Nat.gcd_comm]
        rw [s213_9]
        simp only [s213_0, s213_1, s213_3, s213_4, s213_6, s213_7, s213_11, s213_14, s213_17, s213_19, s213_20, s213_21, s213_24, s213_26, s213_28, s213_29, s213_31, s213_33, s213_35, s213_37, s213_39, s213_42, s213_45, s213_47, oB_some, cl2_i, cl2_r, cl2_l, cl2_u, cl2_s, wd_0, wd_i, wd_r, wd_l, wd_f, ct_i, ct_r, ct_n, ct_f, rf_s, rf_n, tl_s, tl_n, true_and, and_true, eq_self, and_self, Nat.reduceAdd, Nat.reduceLeDiff, Nat.zero_le, Nat.reduceEqDiff, or_true, true_or, false_or, or_false, if_true, if_false, gI_0, gI_1, gI_2, gI_3, gI_4, gI_5, gI_6, gI_7, gI_8, gI_9, gI_10, gI_11, gI_12, gI_13, gI_14, gI_15, gL_0, gL_1, gL_2, gL_3, gL_4, gL_5, gL_6, gL_7, gL_8, gL_9, gL_10, gL_11, gL_12, gL_13, gL_14, gL_15, gA_0, gA_1, gA_2, gA_3, gA_4, gA_5, gA_6, gA_7, gA_8, gA_9, gA_10, gA_11, gA_12, gA_13, gA_14, gA_15, p1_0, p1_1, p1_2, p1_3, p1_4, p1_5, p1_6, p1_7, p1_8, p1_9, p1_10, p1_11, p1_12, p1_13, p1_14, p1_15, p2_0, p2_1, p2_2, p2_3, p2_4, p2_5, p2_6, p2_7, p2_8, p2_9, p2_10, p2_11, p2_12, p2_13, p2_14, p2_15, b01_ok, b_ft, b_tf, b01_e0, b01_e1, lgc_0, not_true_eq_false, not_false_eq_true, c, l0 y hy, y0, pk_lRem (a := x) (b := y) (by omega) yp (by omega), nI_1, not_false_eq_true]
        rw [e1]
        have c2 : ¬ (1000 : Int32) ≤ nI (i + 1) := nI_ge (b := 1000) (by omega) (by decide)
        by_cases w0 : x % y = 0
        · rw [w0, s213_9]
          simp only [s213_0, s213_1, s213_3, s213_4, s213_6, s213_7, s213_11, s213_14, s213_17, s213_19, s213_20, s213_21, s213_24, s213_26, s213_28, s213_29, s213_31, s213_33, s213_35, s213_37, s213_39, s213_42, s213_45, s213_47, oB_some, cl2_i, cl2_r, cl2_l, cl2_u, cl2_s, wd_0, wd_i, wd_r, wd_l, wd_f, ct_i, ct_r, ct_n, ct_f, rf_s, rf_n, tl_s, tl_n, true_and, and_true, eq_self, and_self, Nat.reduceAdd, Nat.reduceLeDiff, Nat.zero_le, Nat.reduceEqDiff, or_true, true_or, false_or, or_false, if_true, if_false, gI_0, gI_1, gI_2, gI_3, gI_4, gI_5, gI_6, gI_7, gI_8, gI_9, gI_10, gI_11, gI_12, gI_13, gI_14, gI_15, gL_0, gL_1, gL_2, gL_3, gL_4, gL_5, gL_6, gL_7, gL_8, gL_9, gL_10, gL_11, gL_12, gL_13, gL_14, gL_15, gA_0, gA_1, gA_2, gA_3, gA_4, gA_5, gA_6, gA_7, gA_8, gA_9, gA_10, gA_11, gA_12, gA_13, gA_14, gA_15, p1_0, p1_1, p1_2, p1_3, p1_4, p1_5, p1_6, p1_7, p1_8, p1_9, p1_10, p1_11, p1_12, p1_13, p1_14, p1_15, p2_0, p2_1, p2_2, p2_3, p2_4, p2_5, p2_6, p2_7, p2_8, p2_9, p2_10, p2_11, p2_12, p2_13, p2_14, p2_15, b01_ok, b_ft, b_tf, b01_e0, b01_e1, lgc_0, not_true_eq_false, not_false_eq_true, c2, l0 0 (by decide), Nat.gcd_zero_right]
        · have wp : 0 < x % y := by omega
          have m2 := Nat.mod_lt y wp
          have hf := rem_half wp (show x % y ≤ y by omega)
          have p2 : 2 ^ (k + 1) = 2 * 2 ^ k := by rw [Nat.pow_succ, Nat.mul_comm]
          have hk2 : y % (x % y) < 2 ^ k := by omega
          have e2 : Nat.gcd y (x % y) = Nat.gcd (x % y) (y % (x % y)) := by rw [Nat.gcd_comm y (x % y), Nat.gcd_rec (x % y) y, Nat.gcd_comm]
          rw [s213_9]
          simp only [s213_0, s213_1, s213_3, s213_4, s213_6, s213_7, s213_11, s213_14, s213_17, s213_19, s213_20, s213_21, s213_24, s213_26, s213_28, s213_29, s213_31, s213_33, s213_35, s213_37, s213_39, s213_42, s213_45, s213_47, oB_some, cl2_i, cl2_r, cl2_l, cl2_u, cl2_s, wd_0, wd_i, wd_r, wd_l, wd_f, ct_i, ct_r, ct_n, ct_f, rf_s, rf_n, tl_s, tl_n, true_and, and_true, eq_self, and_self, Nat.reduceAdd, Nat.reduceLeDiff, Nat.zero_le, Nat.reduceEqDiff, or_true, true_or, false_or, or_false, if_true, if_false, gI_0, gI_1, gI_2, gI_3, gI_4, gI_5, gI_6, gI_7, gI_8, gI_9, gI_10, gI_11, gI_12, gI_13, gI_14, gI_15, gL_0, gL_1, gL_2, gL_3, gL_4, gL_5, gL_6, gL_7, gL_8, gL_9, gL_10, gL_11, gL_12, gL_13, gL_14, gL_15, gA_0, gA_1, gA_2, gA_3, gA_4, gA_5, gA_6, gA_7, gA_8, gA_9, gA_10, gA_11, gA_12, gA_13, gA_14, gA_15, p1_0, p1_1, p1_2, p1_3, p1_4, p1_5, p1_6, p1_7, p1_8, p1_9, p1_10, p1_11, p1_12, p1_13, p1_14, p1_15, p2_0, p2_1, p2_2, p2_3, p2_4, p2_5, p2_6, p2_7, p2_8, p2_9, p2_10, p2_11, p2_12, p2_13, p2_14, p2_15, b01_ok, b_ft, b_tf, b01_e0, b01_e1, lgc_0, not_true_eq_false, not_false_eq_true, c2, l0 (x % y) (by omega), w0, pk_lRem (a := y) (b := x % y) (by omega) wp (by omega), nI_1, not_false_eq_true]
          rw [e2]
          exact ih (i + 1 + 1) (x % y) (y % (x % y)) _ _ (by omega) (by omega) hk2 (by omega)
  simp only [e213, s213_0, s213_1, s213_3, s213_4, s213_6, s213_7, oB_some, cl2_i, cl2_r, cl2_l, cl2_u, cl2_s, wd_0, wd_i, wd_r, wd_l, wd_f, ct_i, ct_r, ct_n, ct_f, rf_s, rf_n, tl_s, tl_n, true_and, and_true, eq_self, and_self, Nat.reduceAdd, Nat.reduceLeDiff, Nat.zero_le, Nat.reduceEqDiff, or_true, true_or, false_or, or_false, if_true, if_false, gI_0, gI_1, gI_2, gI_3, gI_4, gI_5, gI_6, gI_7, gI_8, gI_9, gI_10, gI_11, gI_12, gI_13, gI_14, gI_15, gL_0, gL_1, gL_2, gL_3, gL_4, gL_5, gL_6, gL_7, gL_8, gL_9, gL_10, gL_11, gL_12, gL_13, gL_14, gL_15, gA_0, gA_1, gA_2, gA_3, gA_4, gA_5, gA_6, gA_7, gA_8, gA_9, gA_10, gA_11, gA_12, gA_13, gA_14, gA_15, p1_0, p1_1, p1_2, p1_3, p1_4, p1_5, p1_6, p1_7, p1_8, p1_9, p1_10, p1_11, p1_12, p1_13, p1_14, p1_15, p2_0, p2_1, p2_2, p2_3, p2_4, p2_5, p2_6, p2_7, p2_8, p2_9, p2_10, p2_11, p2_12, p2_13, p2_14, p2_15, b01_ok, b_ft, b_tf, b01_e0, b01_e1, lgc_0, not_true_eq_false, not_false_eq_true]
  exact loop 40 0 a b _ _ ha hb hb (by decide)
def fracN (a b : Nat) (part : Int32) : Nat := if a = 0 ∨ b = 0 then (if part = 0 then 0 else 1) else (if part = 0 then a else b) / Nat.gcd a b
set_option maxHeartbeats 4000000 in
theorem v_partOf {d : Nat} {Q : PQ} {h : HP} {a b : Nat} {part : Int32} (ha : a < 2 ^ 40) (hb : b < 2 ^ 40) : Ev (d + 2) 212 [.long (lN a), .long (lN b), .int part] h Q = Q (some (.long (lN (fracN a b part)))) h := by
  have l0 : ∀ x, x < 2 ^ 40 → (lg_cmp (lN x) 0 = 0) = (x = 0) := fun x hx => by
    apply propext
    rw [lgc_0]
    constructor
    · intro e
      have := congrArg Int64.toBitVec e
      have e2 : (BitVec.ofNat 64 x).toNat = (BitVec.ofNat 64 0).toNat := congrArg BitVec.toNat this
      rw [BitVec.toNat_ofNat, BitVec.toNat_ofNat, Nat.mod_eq_of_lt (by omega)] at e2
      exact e2
    · intro e
      rw [e]
      rfl
  have l1 : ∀ x, x < 2 ^ 40 → (lN x = 0) = (x = 0) := fun x hx => by
    rw [← l0 x hx, eq_iff_iff, lgc_0]
  have gl : ¬ a = 0 → 0 < Nat.gcd a b ∧ Nat.gcd a b < 2 ^ 40 := fun h0 => ⟨Nat.gcd_pos_of_pos_left b (by omega), by have := Nat.gcd_le_left b (show 0 < a by omega); omega⟩
  unfold fracN
  by_cases a0 : a = 0
  · rw [if_pos (Or.inl a0)]
    simp only [e212, s212_0, s212_1, s212_2, s212_3, s212_6, s212_7, s212_8, s212_9, s212_12, s212_14, s212_17, s212_18, s212_21, s212_22, s212_23, s212_24, s212_25, s212_28, s212_30, s212_32, s212_35, s212_36, s212_39, s212_40, s212_42, s212_44, s212_45, s212_46, s212_49, s212_51, s212_54, s212_56, s212_58, s212_59, oB_some, cl2_i, cl2_r, cl2_l, cl2_u, cl2_s, wd_0, wd_i, wd_r, wd_l, wd_f, ct_i, ct_r, ct_n, ct_f, rf_s, rf_n, tl_s, tl_n, true_and, and_true, eq_self, and_self, Nat.reduceAdd, Nat.reduceLeDiff, Nat.zero_le, Nat.reduceEqDiff, or_true, true_or, false_or, or_false, if_true, if_false, gI_0, gI_1, gI_2, gI_3, gI_4, gI_5, gI_6, gI_7, gI_8, gI_9, gI_10, gI_11, gI_12, gI_13, gI_14, gI_15, gL_0, gL_1, gL_2, gL_3, gL_4, gL_5, gL_6, gL_7, gL_8, gL_9, gL_10, gL_11, gL_12, gL_13, gL_14, gL_15, gA_0, gA_1, gA_2, gA_3, gA_4, gA_5, gA_6, gA_7, gA_8, gA_9, gA_10, gA_11, gA_12, gA_13, gA_14, gA_15, p1_0, p1_1, p1_2, p1_3, p1_4, p1_5, p1_6, p1_7, p1_8, p1_9, p1_10, p1_11, p1_12, p1_13, p1_14, p1_15, p2_0, p2_1, p2_2, p2_3, p2_4, p2_5, p2_6, p2_7, p2_8, p2_9, p2_10, p2_11, p2_12, p2_13, p2_14, p2_15, b01_ok, b_ft, b_tf, b01_e0, b01_e1, lgc_0, not_true_eq_false, not_false_eq_true, l1 a ha, a0, l1 0 (by decide)]
    by_cases p0 : part = 0
    · simp only [p0, if_true, if_false, not_true_eq_false, not_false_eq_true]; rfl
    · simp only [p0, if_true, if_false, not_true_eq_false, not_false_eq_true]; rfl
  · by_cases b0 : b = 0
    · rw [if_pos (Or.inr b0)]
      simp only [e212, s212_0, s212_1, s212_2, s212_3, s212_6, s212_7, s212_8, s212_9, s212_12, s212_14, s212_17, s212_18, s212_21, s212_22, s212_23, s212_24, s212_25, s212_28, s212_30, s212_32, s212_35, s212_36, s212_39, s212_40, s212_42, s212_44, s212_45, s212_46, s212_49, s212_51, s212_54, s212_56, s212_58, s212_59, oB_some, cl2_i, cl2_r, cl2_l, cl2_u, cl2_s, wd_0, wd_i, wd_r, wd_l, wd_f, ct_i, ct_r, ct_n, ct_f, rf_s, rf_n, tl_s, tl_n, true_and, and_true, eq_self, and_self, Nat.reduceAdd, Nat.reduceLeDiff, Nat.zero_le, Nat.reduceEqDiff, or_true, true_or, false_or, or_false, if_true, if_false, gI_0, gI_1, gI_2, gI_3, gI_4, gI_5, gI_6, gI_7, gI_8, gI_9, gI_10, gI_11, gI_12, gI_13, gI_14, gI_15, gL_0, gL_1, gL_2, gL_3, gL_4, gL_5, gL_6, gL_7, gL_8, gL_9, gL_10, gL_11, gL_12, gL_13, gL_14, gL_15, gA_0, gA_1, gA_2, gA_3, gA_4, gA_5, gA_6, gA_7, gA_8, gA_9, gA_10, gA_11, gA_12, gA_13, gA_14, gA_15, p1_0, p1_1, p1_2, p1_3, p1_4, p1_5, p1_6, p1_7, p1_8, p1_9, p1_10, p1_11, p1_12, p1_13, p1_14, p1_15, p2_0, p2_1, p2_2, p2_3, p2_4, p2_5, p2_6, p2_7, p2_8, p2_9, p2_10, p2_11, p2_12, p2_13, p2_14, p2_15, b01_ok, b_ft, b_tf, b01_e0, b01_e1, lgc_0, not_true_eq_false, not_false_eq_true, l1 a ha, a0, l1 b hb, b0, l1 0 (by decide)]
      by_cases p0 : part = 0
      · simp only [p0, if_true, if_false, not_true_eq_false, not_false_eq_true]; rfl
      · simp only [p0, if_true, if_false, not_true_eq_false, not_false_eq_true]; rfl
    · rw [if_neg (fun c => c.elim a0 b0)]
      obtain ⟨g1, g2⟩ := gl a0
      have gz : ¬ Nat.gcd a b = 0 := by omega
      simp only [e212, s212_0, s212_1, s212_2, s212_3, s212_6, s212_7, s212_8, s212_9, s212_12, s212_14, s212_17, s212_18, s212_21, s212_22, s212_23, s212_24, s212_25, s212_28, s212_30, s212_32, s212_35, s212_36, s212_39, s212_40, s212_42, s212_44, s212_45, s212_46, s212_49, s212_51, s212_54, s212_56, s212_58, s212_59, oB_some, cl2_i, cl2_r, cl2_l, cl2_u, cl2_s, wd_0, wd_i, wd_r, wd_l, wd_f, ct_i, ct_r, ct_n, ct_f, rf_s, rf_n, tl_s, tl_n, true_and, and_true, eq_self, and_self, Nat.reduceAdd, Nat.reduceLeDiff, Nat.zero_le, Nat.reduceEqDiff, or_true, true_or, false_or, or_false, if_true, if_false, gI_0, gI_1, gI_2, gI_3, gI_4, gI_5, gI_6, gI_7, gI_8, gI_9, gI_10, gI_11, gI_12, gI_13, gI_14, gI_15, gL_0, gL_1, gL_2, gL_3, gL_4, gL_5, gL_6, gL_7, gL_8, gL_9, gL_10, gL_11, gL_12, gL_13, gL_14, gL_15, gA_0, gA_1, gA_2, gA_3, gA_4, gA_5, gA_6, gA_7, gA_8, gA_9, gA_10, gA_11, gA_12, gA_13, gA_14, gA_15, p1_0, p1_1, p1_2, p1_3, p1_4, p1_5, p1_6, p1_7, p1_8, p1_9, p1_10, p1_11, p1_12, p1_13, p1_14, p1_15, p2_0, p2_1, p2_2, p2_3, p2_4, p2_5, p2_6, p2_7, p2_8, p2_9, p2_10, p2_11, p2_12, p2_13, p2_14, p2_15, b01_ok, b_ft, b_tf, b01_e0, b01_e1, lgc_0, not_true_eq_false, not_false_eq_true, l1 a ha, a0, l1 b hb, b0, v_commonDivisor ha hb, l1 _ g2, gz, not_false_eq_true, pk_lDiv (a := a) (b := Nat.gcd a b) (by omega) g1 (by omega), pk_lDiv (a := b) (b := Nat.gcd a b) (by omega) g1 (by omega)]
      by_cases p0 : part = 0
      · simp only [p0, if_true, if_false, not_true_eq_false, not_false_eq_true]
      · simp only [p0, if_true, if_false, not_true_eq_false, not_false_eq_true]
-- who knows it first
def firA (S : VS) (c : Nat) : Nat → VS → Option Nat
  | 0, _ => none
  | m + 1, T => match findA (fun i => hb (vw (day1 0 false false T) i) c && !hb (vw S i) c) (vn S) 0 with
    | some i => some i
    | none => firA S c m (day1 0 false false T)
theorem firA_s (S : VS) (c m : Nat) (T : VS) : firA S c (m + 1) T = match findA (fun i => hb (vw (day1 0 false false T) i) c && !hb (vw S i) c) (vn S) 0 with
    | some i => some i
    | none => firA S c m (day1 0 false false T) := rfl
set_option maxHeartbeats 8000000 in
theorem v_nextToLearn {d : Nat} {Q : PQ} {h : HP} {f v w c : Nat} {S : VS} (x : FY h f v w S) (g : Good S) (hy : vy S + 61 < 2 ^ 20) (hc : c < 64)
    (k : ∀ h', Fm w 12 h h' → Q (some (.int (oN (firA S c 60 S)))) h') : Ev (d + 6) 160 [.ref f, .int (nI c)] h Q := by
  have gn := g.n
  have inner : ∀ (i r a : Nat) (h1 : HP) (T : VS), a + r = vn S → Fm w 12 h h1 → RV h1 w T → Good T → vn T = vn S →
      (∀ b, findA (fun i => hb (vw T i) c && !hb (vw S i) c) r a = some b → Q (some (.int (nI b))) h1) →
      (findA (fun i => hb (vw T i) c && !hb (vw S i) c) r a = none → WP (d + 5) 160 Q (66, [.val (.ref f), .val (.int (nI c)), .val (.int (nI i)), .val (.int (nI (vn S)))], [], h1, 0, 0)) →
      WP (d + 5) 160 Q (23, [.val (.ref f), .val (.int (nI c)), .val (.int (nI i)), .val (.int (nI a))], [], h1, 0, 0) := by
    intro i r
    induction r with
    | zero =>
      intro a h1 T ha m1 q1 g1 n1 ks kn
      obtain rfl : a = vn S := by omega
      have x1 := x.kept m1
      have x0 := x1.1
      have K1 := x1.2.2.1.k
      unfold VK at K1
      rw [s160_23]
      simp only [s160_24, s160_25, s160_28, s160_31, s160_34, s160_35, s160_38, s160_39, s160_40, s160_43, s160_46, s160_47, s160_50, s160_51, s160_52, s160_55, s160_58, s160_59, s160_60, s160_63, oB_some, cl2_i, cl2_r, cl2_l, cl2_u, cl2_s, wd_0, wd_i, wd_r, wd_l, wd_f, ct_i, ct_r, ct_n, ct_f, rf_s, rf_n, tl_s, tl_n, true_and, and_true, eq_self, and_self, Nat.reduceAdd, Nat.reduceLeDiff, Nat.zero_le, Nat.reduceEqDiff, or_true, true_or, false_or, or_false, if_true, if_false, gI_0, gI_1, gI_2, gI_3, gI_4, gI_5, gI_6, gI_7, gI_8, gI_9, gI_10, gI_11, gI_12, gI_13, gI_14, gI_15, gL_0, gL_1, gL_2, gL_3, gL_4, gL_5, gL_6, gL_7, gL_8, gL_9, gL_10, gL_11, gL_12, gL_13, gL_14, gL_15, gA_0, gA_1, gA_2, gA_3, gA_4, gA_5, gA_6, gA_7, gA_8, gA_9, gA_10, gA_11, gA_12, gA_13, gA_14, gA_15, p1_0, p1_1, p1_2, p1_3, p1_4, p1_5, p1_6, p1_7, p1_8, p1_9, p1_10, p1_11, p1_12, p1_13, p1_14, p1_15, p2_0, p2_1, p2_2, p2_3, p2_4, p2_5, p2_6, p2_7, p2_8, p2_9, p2_10, p2_11, p2_12, p2_13, p2_14, p2_15, b01_ok, b_ft, b_tf, b01_e0, b01_e1, lgc_0, not_true_eq_false, not_false_eq_true, x0, K1, x1.2.2.1.n, Int32.le_refl]
      exact kn rfl
    | succ r ih =>
      intro a h1 T ha m1 q1 g1 n1 ks kn
      have x1 := x.kept m1
      have x0 := x1.1
      have K1 := x1.2.2.1.k
      have K2 := q1.k
      unfold VK at K1 K2
      have z : ¬ nI (vn S) ≤ nI a := nI_ge (by omega) (by omega)
      rw [findA_s] at ks kn
      rw [s160_23]
      simp only [s160_24, s160_25, s160_28, s160_31, s160_34, s160_35, s160_38, s160_39, s160_40, s160_43, s160_46, s160_47, s160_50, s160_51, s160_52, s160_55, s160_58, s160_59, s160_60, s160_63, oB_some, cl2_i, cl2_r, cl2_l, cl2_u, cl2_s, wd_0, wd_i, wd_r, wd_l, wd_f, ct_i, ct_r, ct_n, ct_f, rf_s, rf_n, tl_s, tl_n, true_and, and_true, eq_self, and_self, Nat.reduceAdd, Nat.reduceLeDiff, Nat.zero_le, Nat.reduceEqDiff, or_true, true_or, false_or, or_false, if_true, if_false, gI_0, gI_1, gI_2, gI_3, gI_4, gI_5, gI_6, gI_7, gI_8, gI_9, gI_10, gI_11, gI_12, gI_13, gI_14, gI_15, gL_0, gL_1, gL_2, gL_3, gL_4, gL_5, gL_6, gL_7, gL_8, gL_9, gL_10, gL_11, gL_12, gL_13, gL_14, gL_15, gA_0, gA_1, gA_2, gA_3, gA_4, gA_5, gA_6, gA_7, gA_8, gA_9, gA_10, gA_11, gA_12, gA_13, gA_14, gA_15, p1_0, p1_1, p1_2, p1_3, p1_4, p1_5, p1_6, p1_7, p1_8, p1_9, p1_10, p1_11, p1_12, p1_13, p1_14, p1_15, p2_0, p2_1, p2_2, p2_3, p2_4, p2_5, p2_6, p2_7, p2_8, p2_9, p2_10, p2_11, p2_12, p2_13, p2_14, p2_15, b01_ok, b_ft, b_tf, b01_e0, b01_e1, lgc_0, not_true_eq_false, not_false_eq_true, x0, K1, K2, x1.2.2.1.n, z, v_hasLearnt q1 g1 (show a < vn T by omega) hc, v_hasLearnt x1.2.2.1 g (show a < vn S by omega) hc, nI_1]
      by_cases e1 : hb (vw T a) c = true
      · rw [if_neg (by rw [e1]; decide)]
        by_cases e2 : hb (vw S a) c = true
        · rw [if_pos (by rw [e2]; decide)]
          rw [if_neg (by rw [e1, e2]; decide)] at ks kn
          exact ih (a + 1) h1 T (by omega) m1 q1 g1 n1 ks kn
        · rw [if_neg (by simpa using e2)]
          exact ks a (by rw [if_pos (by rw [e1]; simpa using e2)])
      · rw [if_pos (by simpa using e1)]
        rw [if_neg (by simp [e1])] at ks kn
        exact ih (a + 1) h1 T (by omega) m1 q1 g1 n1 ks kn
  have loop : ∀ (m i : Nat) (h1 : HP) (T : VS) (y : Slot), i + m = 60 → Fm w 12 h h1 → RV h1 w T → Good T → FV h1 w 0 false false → vn T = vn S → vy T + m < 2 ^ 20 → firA S c m T = firA S c 60 S →
      WP (d + 5) 160 Q (7, [.val (.ref f), .val (.int (nI c)), .val (.int (nI i)), y], [], h1, 0, 0) := by
    intro m
    induction m with
    | zero =>
      intro i h1 T y hi m1 q1 g1 f1 n1 y1 e1
      obtain rfl : i = 60 := by omega
      rw [s160_7]
      simp only [s160_8, s160_10, s160_72, s160_74, oB_some, cl2_i, cl2_r, cl2_l, cl2_u, cl2_s, wd_0, wd_i, wd_r, wd_l, wd_f, ct_i, ct_r, ct_n, ct_f, rf_s, rf_n, tl_s, tl_n, true_and, and_true, eq_self, and_self, Nat.reduceAdd, Nat.reduceLeDiff, Nat.zero_le, Nat.reduceEqDiff, or_true, true_or, false_or, or_false, if_true, if_false, gI_0, gI_1, gI_2, gI_3, gI_4, gI_5, gI_6, gI_7, gI_8, gI_9, gI_10, gI_11, gI_12, gI_13, gI_14, gI_15, gL_0, gL_1, gL_2, gL_3, gL_4, gL_5, gL_6, gL_7, gL_8, gL_9, gL_10, gL_11, gL_12, gL_13, gL_14, gL_15, gA_0, gA_1, gA_2, gA_3, gA_4, gA_5, gA_6, gA_7, gA_8, gA_9, gA_10, gA_11, gA_12, gA_13, gA_14, gA_15, p1_0, p1_1, p1_2, p1_3, p1_4, p1_5, p1_6, p1_7, p1_8, p1_9, p1_10, p1_11, p1_12, p1_13, p1_14, p1_15, p2_0, p2_1, p2_2, p2_3, p2_4, p2_5, p2_6, p2_7, p2_8, p2_9, p2_10, p2_11, p2_12, p2_13, p2_14, p2_15, b01_ok, b_ft, b_tf, b01_e0, b01_e1, lgc_0, not_true_eq_false, not_false_eq_true]
      rw [if_pos (by decide)]
      have kk := k h1 m1
      rw [← e1] at kk
      exact kk
    | succ m ih =>
      intro i h1 T y hi m1 q1 g1 f1 n1 y1 e1
      have x1 := x.kept m1
      have x0 := x1.1
      have K1 := q1.k
      unfold VK at K1
      have z : ¬ (60 : Int32) ≤ nI i := nI_ge (b := 60) (by omega) (by decide)
      rw [firA_s] at e1
      rw [s160_7]
      simp only [s160_8, s160_10, s160_13, s160_14, s160_17, s160_18, oB_some, cl2_i, cl2_r, cl2_l, cl2_u, cl2_s, wd_0, wd_i, wd_r, wd_l, wd_f, ct_i, ct_r, ct_n, ct_f, rf_s, rf_n, tl_s, tl_n, true_and, and_true, eq_self, and_self, Nat.reduceAdd, Nat.reduceLeDiff, Nat.zero_le, Nat.reduceEqDiff, or_true, true_or, false_or, or_false, if_true, if_false, gI_0, gI_1, gI_2, gI_3, gI_4, gI_5, gI_6, gI_7, gI_8, gI_9, gI_10, gI_11, gI_12, gI_13, gI_14, gI_15, gL_0, gL_1, gL_2, gL_3, gL_4, gL_5, gL_6, gL_7, gL_8, gL_9, gL_10, gL_11, gL_12, gL_13, gL_14, gL_15, gA_0, gA_1, gA_2, gA_3, gA_4, gA_5, gA_6, gA_7, gA_8, gA_9, gA_10, gA_11, gA_12, gA_13, gA_14, gA_15, p1_0, p1_1, p1_2, p1_3, p1_4, p1_5, p1_6, p1_7, p1_8, p1_9, p1_10, p1_11, p1_12, p1_13, p1_14, p1_15, p2_0, p2_1, p2_2, p2_3, p2_4, p2_5, p2_6, p2_7, p2_8, p2_9, p2_10, p2_11, p2_12, p2_13, p2_14, p2_15, b01_ok, b_ft, b_tf, b01_e0, b01_e1, lgc_0, not_true_eq_false, not_false_eq_true, x0, K1, z]
      refine v_passDays (n := 1) q1 g1 f1 (by decide) (by omega) fun h2 m2 q2 f2 => ?_
      rw [dayN_1] at q2
      have k1 := day1_keep (ink := 0) (dm := false) (sh := false) g1 (by omega)
      simp only [s160_21, s160_22, oB_some, cl2_i, cl2_r, cl2_l, cl2_u, cl2_s, wd_0, wd_i, wd_r, wd_l, wd_f, ct_i, ct_r, ct_n, ct_f, rf_s, rf_n, tl_s, tl_n, true_and, and_true, eq_self, and_self, Nat.reduceAdd, Nat.reduceLeDiff, Nat.zero_le, Nat.reduceEqDiff, or_true, true_or, false_or, or_false, if_true, if_false, gI_0, gI_1, gI_2, gI_3, gI_4, gI_5, gI_6, gI_7, gI_8, gI_9, gI_10, gI_11, gI_12, gI_13, gI_14, gI_15, gL_0, gL_1, gL_2, gL_3, gL_4, gL_5, gL_6, gL_7, gL_8, gL_9, gL_10, gL_11, gL_12, gL_13, gL_14, gL_15, gA_0, gA_1, gA_2, gA_3, gA_4, gA_5, gA_6, gA_7, gA_8, gA_9, gA_10, gA_11, gA_12, gA_13, gA_14, gA_15, p1_0, p1_1, p1_2, p1_3, p1_4, p1_5, p1_6, p1_7, p1_8, p1_9, p1_10, p1_11, p1_12, p1_13, p1_14, p1_15, p2_0, p2_1, p2_2, p2_3, p2_4, p2_5, p2_6, p2_7, p2_8, p2_9, p2_10, p2_11, p2_12, p2_13, p2_14, p2_15, b01_ok, b_ft, b_tf, b01_e0, b01_e1, lgc_0, not_true_eq_false, not_false_eq_true]
      refine inner i (vn S) 0 h2 _ (by omega) (m1.tr m2) q2 k1.1 (k1.2.1.trans n1) (fun b hb => ?_) (fun hb => ?_)
      · rw [hb] at e1
        have kk := k h2 (m1.tr m2)
        rw [← e1] at kk
        exact kk
      · rw [hb] at e1
        simp only [s160_66, s160_69, oB_some, cl2_i, cl2_r, cl2_l, cl2_u, cl2_s, wd_0, wd_i, wd_r, wd_l, wd_f, ct_i, ct_r, ct_n, ct_f, rf_s, rf_n, tl_s, tl_n, true_and, and_true, eq_self, and_self, Nat.reduceAdd, Nat.reduceLeDiff, Nat.zero_le, Nat.reduceEqDiff, or_true, true_or, false_or, or_false, if_true, if_false, gI_0, gI_1, gI_2, gI_3, gI_4, gI_5, gI_6, gI_7, gI_8, gI_9, gI_10, gI_11, gI_12, gI_13, gI_14, gI_15, gL_0, gL_1, gL_2, gL_3, gL_4, gL_5, gL_6, gL_7, gL_8, gL_9, gL_10, gL_11, gL_12, gL_13, gL_14, gL_15, gA_0, gA_1, gA_2, gA_3, gA_4, gA_5, gA_6, gA_7, gA_8, gA_9, gA_10, gA_11, gA_12, gA_13, gA_14, gA_15, p1_0, p1_1, p1_2, p1_3, p1_4, p1_5, p1_6, p1_7, p1_8, p1_9, p1_10, p1_11, p1_12, p1_13, p1_14, p1_15, p2_0, p2_1, p2_2, p2_3, p2_4, p2_5, p2_6, p2_7, p2_8, p2_9, p2_10, p2_11, p2_12, p2_13, p2_14, p2_15, b01_ok, b_ft, b_tf, b01_e0, b01_e1, lgc_0, not_true_eq_false, not_false_eq_true, nI_1]
        exact ih (i + 1) h2 _ _ (by omega) (m1.tr m2) q2 k1.1 f2 (k1.2.1.trans n1) (by rw [k1.2.2]; omega) e1
  have x0 := x.1
  simp only [e160, s160_0, s160_1, oB_some, cl2_i, cl2_r, cl2_l, cl2_u, cl2_s, wd_0, wd_i, wd_r, wd_l, wd_f, ct_i, ct_r, ct_n, ct_f, rf_s, rf_n, tl_s, tl_n, true_and, and_true, eq_self, and_self, Nat.reduceAdd, Nat.reduceLeDiff, Nat.zero_le, Nat.reduceEqDiff, or_true, true_or, false_or, or_false, if_true, if_false, gI_0, gI_1, gI_2, gI_3, gI_4, gI_5, gI_6, gI_7, gI_8, gI_9, gI_10, gI_11, gI_12, gI_13, gI_14, gI_15, gL_0, gL_1, gL_2, gL_3, gL_4, gL_5, gL_6, gL_7, gL_8, gL_9, gL_10, gL_11, gL_12, gL_13, gL_14, gL_15, gA_0, gA_1, gA_2, gA_3, gA_4, gA_5, gA_6, gA_7, gA_8, gA_9, gA_10, gA_11, gA_12, gA_13, gA_14, gA_15, p1_0, p1_1, p1_2, p1_3, p1_4, p1_5, p1_6, p1_7, p1_8, p1_9, p1_10, p1_11, p1_12, p1_13, p1_14, p1_15, p2_0, p2_1, p2_2, p2_3, p2_4, p2_5, p2_6, p2_7, p2_8, p2_9, p2_10, p2_11, p2_12, p2_13, p2_14, p2_15, b01_ok, b_ft, b_tf, b01_e0, b01_e1, lgc_0, not_true_eq_false, not_false_eq_true, x0]
  refine v_asItIs x g fun h1 m1 q1 f1 => ?_
  simp only [s160_4, s160_5, s160_6, oB_some, cl2_i, cl2_r, cl2_l, cl2_u, cl2_s, wd_0, wd_i, wd_r, wd_l, wd_f, ct_i, ct_r, ct_n, ct_f, rf_s, rf_n, tl_s, tl_n, true_and, and_true, eq_self, and_self, Nat.reduceAdd, Nat.reduceLeDiff, Nat.zero_le, Nat.reduceEqDiff, or_true, true_or, false_or, or_false, if_true, if_false, gI_0, gI_1, gI_2, gI_3, gI_4, gI_5, gI_6, gI_7, gI_8, gI_9, gI_10, gI_11, gI_12, gI_13, gI_14, gI_15, gL_0, gL_1, gL_2, gL_3, gL_4, gL_5, gL_6, gL_7, gL_8, gL_9, gL_10, gL_11, gL_12, gL_13, gL_14, gL_15, gA_0, gA_1, gA_2, gA_3, gA_4, gA_5, gA_6, gA_7, gA_8, gA_9, gA_10, gA_11, gA_12, gA_13, gA_14, gA_15, p1_0, p1_1, p1_2, p1_3, p1_4, p1_5, p1_6, p1_7, p1_8, p1_9, p1_10, p1_11, p1_12, p1_13, p1_14, p1_15, p2_0, p2_1, p2_2, p2_3, p2_4, p2_5, p2_6, p2_7, p2_8, p2_9, p2_10, p2_11, p2_12, p2_13, p2_14, p2_15, b01_ok, b_ft, b_tf, b01_e0, b01_e1, lgc_0, not_true_eq_false, not_false_eq_true]
  exact loop 60 0 h1 S _ (by omega) m1 q1 g f1 rfl (by omega) rfl
-- games
def nxS (z : Int32) : Int32 := z * 1103515245 + 12345
def drawN (n : Nat) (z : Int32) : Nat := z.toBitVec.toNat % 2 ^ 31 / 65536 % n
theorem v_nextSeed {d : Nat} {Q : PQ} {h : HP} {z : Int32} : Ev (d + 1) 259 [.int z] h Q = Q (some (.int (nxS z))) h := by
  simp only [e259, s259_0, s259_1, s259_3, s259_4, s259_7, s259_8, oB_some, cl2_i, cl2_r, cl2_l, cl2_u, cl2_s, wd_0, wd_i, wd_r, wd_l, wd_f, ct_i, ct_r, ct_n, ct_f, rf_s, rf_n, tl_s, tl_n, true_and, and_true, eq_self, and_self, Nat.reduceAdd, Nat.reduceLeDiff, Nat.zero_le, Nat.reduceEqDiff, or_true, true_or, false_or, or_false, if_true, if_false, gI_0, gI_1, gI_2, gI_3, gI_4, gI_5, gI_6, gI_7, gI_8, gI_9, gI_10, gI_11, gI_12, gI_13, gI_14, gI_15, gL_0, gL_1, gL_2, gL_3, gL_4, gL_5, gL_6, gL_7, gL_8, gL_9, gL_10, gL_11, gL_12, gL_13, gL_14, gL_15, gA_0, gA_1, gA_2, gA_3, gA_4, gA_5, gA_6, gA_7, gA_8, gA_9, gA_10, gA_11, gA_12, gA_13, gA_14, gA_15, p1_0, p1_1, p1_2, p1_3, p1_4, p1_5, p1_6, p1_7, p1_8, p1_9, p1_10, p1_11, p1_12, p1_13, p1_14, p1_15, p2_0, p2_1, p2_2, p2_3, p2_4, p2_5, p2_6, p2_7, p2_8, p2_9, p2_10, p2_11, p2_12, p2_13, p2_14, p2_15, nxS]
theorem and31 (z : Int32) : z &&& 2147483647 = nI (z.toBitVec.toNat % 2 ^ 31) := by
  have e : (2147483647 : Int32) = nI (2 ^ 31 - 1) := by decide
  rw [e]
  have := nI_and z.toBitVec.toNat (2 ^ 31 - 1)
  rw [nI_self, Nat.and_two_pow_sub_one_eq_mod] at this
  exact this
theorem draw_i {n : Nat} (z : Int32) (h0 : 0 < n) (hn : n < 100) : (z &&& 2147483647) / 65536 - (z &&& 2147483647) / 65536 / nI n * nI n = nI (drawN n z) := by
  have hj := Nat.mod_lt z.toBitVec.toNat (show 0 < 2 ^ 31 by decide)
  have e : nI (z.toBitVec.toNat % 2 ^ 31) / 65536 = nI (z.toBitVec.toNat % 2 ^ 31 / 65536) := pk_div (d := 65536) (by omega) (by decide) (by decide)
  rw [and31, e]
  exact pk_rem (by omega) h0 (by omega)
theorem v_drawBelow {d : Nat} {Q : PQ} {h : HP} {n : Nat} {z : Int32} (h0 : 0 < n) (hn : n < 100) : Ev (d + 1) 260 [.int (nI n), .int z] h Q = Q (some (.int (nI (drawN n z)))) h := by
  have z1 : ¬ nI n ≤ 0 := nI_nle h0 (by omega)
  have z2 : ¬ nI n = 0 := nI_ne0 h0 (by omega)
  have z3 : ¬ (65536 : Int32) = 0 := by decide
  simp only [e260, s260_0, s260_1, s260_4, s260_5, s260_7, s260_8, s260_10, s260_11, s260_12, s260_13, s260_16, s260_17, oB_some, cl2_i, cl2_r, cl2_l, cl2_u, cl2_s, wd_0, wd_i, wd_r, wd_l, wd_f, ct_i, ct_r, ct_n, ct_f, rf_s, rf_n, tl_s, tl_n, true_and, and_true, eq_self, and_self, Nat.reduceAdd, Nat.reduceLeDiff, Nat.zero_le, Nat.reduceEqDiff, or_true, true_or, false_or, or_false, if_true, if_false, gI_0, gI_1, gI_2, gI_3, gI_4, gI_5, gI_6, gI_7, gI_8, gI_9, gI_10, gI_11, gI_12, gI_13, gI_14, gI_15, gL_0, gL_1, gL_2, gL_3, gL_4, gL_5, gL_6, gL_7, gL_8, gL_9, gL_10, gL_11, gL_12, gL_13, gL_14, gL_15, gA_0, gA_1, gA_2, gA_3, gA_4, gA_5, gA_6, gA_7, gA_8, gA_9, gA_10, gA_11, gA_12, gA_13, gA_14, gA_15, p1_0, p1_1, p1_2, p1_3, p1_4, p1_5, p1_6, p1_7, p1_8, p1_9, p1_10, p1_11, p1_12, p1_13, p1_14, p1_15, p2_0, p2_1, p2_2, p2_3, p2_4, p2_5, p2_6, p2_7, p2_8, p2_9, p2_10, p2_11, p2_12, p2_13, p2_14, p2_15, z1, z2, z3, draw_i z h0 hn, not_false_eq_true]
def lotA (n : Nat) : Nat → Int32 → VS → Int32 × VS
  | 0, z, T => (z, T)
  | m + 1, z, T => lotA n m (nxS (nxS z)) (wW T (drawN n (nxS z)) (vw T (drawN n (nxS z)) ||| bL (drawN 40 (nxS (nxS z)))))
theorem lotA_s (n m : Nat) (z : Int32) (T : VS) : lotA n (m + 1) z T = lotA n m (nxS (nxS z)) (wW T (drawN n (nxS z)) (vw T (drawN n (nxS z)) ||| bL (drawN 40 (nxS (nxS z))))) := rfl
def lot1 (S : VS) (z : Int32) : Int32 × VS := if vn S = 0 then (z, S) else lotA (vn S) 10 z S
def gain1 (S T : VS) (what : Int32) : Int32 := if what = 0 then nI (nb (vs T)) - nI (nb (vs S)) else nI (vd T) - nI (vd S)
def lotsA (S : VS) (what : Int32) : Nat → Int32 → Int32 → Int32
  | 0, _, a => a
  | m + 1, z, a => lotsA S what m (lot1 S z).1 (a + gain1 S (dayN 0 false false 12 (lot1 S z).2) what)
theorem lotsA_s (S : VS) (what : Int32) (m : Nat) (z a : Int32) : lotsA S what (m + 1) z a = lotsA S what m (lot1 S z).1 (a + gain1 S (dayN 0 false false 12 (lot1 S z).2) what) := rfl
theorem draw_lt {n : Nat} (z : Int32) (h0 : 0 < n) : drawN n z < n := Nat.mod_lt _ h0
theorem lotA_keep {n : Nat} (h0 : 0 < n) : ∀ {m : Nat} {z : Int32} {T : VS}, Good T → vn T = n → Good (lotA n m z T).2 ∧ vn (lotA n m z T).2 = n ∧ vy (lotA n m z T).2 = vy T
  | 0, z, T, g, hn => ⟨g, hn, rfl⟩
  | m + 1, z, T, g, hn => by
    have dl := draw_lt (n := n) (nxS z) h0
    have d4 := draw_lt (n := 40) (nxS (nxS z)) (by decide)
    exact lotA_keep h0 (m := m) (g.wW (sm_or (g.at (by omega)).2.2.2.1 (sm_bL d4))) hn
theorem lot1_keep {S : VS} {z : Int32} (g : Good S) : Good (lot1 S z).2 ∧ vn (lot1 S z).2 = vn S ∧ vy (lot1 S z).2 = vy S := by
  unfold lot1
  by_cases e : vn S = 0
  · rw [if_pos e]
    exact ⟨g, rfl, rfl⟩
  · rw [if_neg e]
    exact lotA_keep (by omega) g rfl
set_option maxHeartbeats 8000000 in
theorem v_playGames {d : Nat} {Q : PQ} {h : HP} {f v w n : Nat} {z what : Int32} {S : VS} (x : FY h f v w S) (g : Good S) (hy : vy S + 13 < 2 ^ 20) (hn : n < 2 ^ 20)
    (k : ∀ h', Fm w 12 h h' → Q (some (.int (lotsA S what n z 0))) h') : Ev (d + 6) 258 [.ref f, .int (nI n), .int z, .int what] h Q := by
  have gn := g.n
  have fin : ∀ (a zz : Int32) (gm : Nat) (h1 : HP) (T : VS) (y y2 : Slot), (∀ (h2 : HP) (y3 y4 : Slot), Fm w 12 h h2 → WP (d + 5) 258 Q (9, [.val (.ref f), .val (.int (nI n)), .val (.int z), .val (.int what), .val (.int zz), .val (.int (a + gain1 S (dayN 0 false false 12 T) what)), .val (.int (nI (gm + 1))), y3, y4], [], h2, 0, 0)) →
      Fm w 12 h h1 → RV h1 w T → Good T → FV h1 w 0 false false → vy T + 12 < 2 ^ 20 →
      WP (d + 5) 258 Q (93, [.val (.ref f), .val (.int (nI n)), .val (.int z), .val (.int what), .val (.int zz), .val (.int a), .val (.int (nI gm)), y, y2], [], h1, 0, 0) := by
    intro a zz gm h1 T y y2 kk m1 q1 g1 f1 y1
    have x1 := x.kept m1
    have x0 := x1.1
    have K1 := q1.k
    unfold VK at K1
    simp only [s258_93, s258_94, s258_97, s258_99, oB_some, cl2_i, cl2_r, cl2_l, cl2_u, cl2_s, wd_0, wd_i, wd_r, wd_l, wd_f, ct_i, ct_r, ct_n, ct_f, rf_s, rf_n, tl_s, tl_n, true_and, and_true, eq_self, and_self, Nat.reduceAdd, Nat.reduceLeDiff, Nat.zero_le, Nat.reduceEqDiff, or_true, true_or, false_or, or_false, if_true, if_false, gI_0, gI_1, gI_2, gI_3, gI_4, gI_5, gI_6, gI_7, gI_8, gI_9, gI_10, gI_11, gI_12, gI_13, gI_14, gI_15, gL_0, gL_1, gL_2, gL_3, gL_4, gL_5, gL_6, gL_7, gL_8, gL_9, gL_10, gL_11, gL_12, gL_13, gL_14, gL_15, gA_0, gA_1, gA_2, gA_3, gA_4, gA_5, gA_6, gA_7, gA_8, gA_9, gA_10, gA_11, gA_12, gA_13, gA_14, gA_15, p1_0, p1_1, p1_2, p1_3, p1_4, p1_5, p1_6, p1_7, p1_8, p1_9, p1_10, p1_11, p1_12, p1_13, p1_14, p1_15, p2_0, p2_1, p2_2, p2_3, p2_4, p2_5, p2_6, p2_7, p2_8, p2_9, p2_10, p2_11, p2_12, p2_13, p2_14, p2_15, b01_ok, b_ft, b_tf, b01_e0, b01_e1, lgc_0, not_true_eq_false, not_false_eq_true, x0, K1]
    refine v_passDays (n := 12) q1 g1 f1 (by decide) y1 fun h2 m2 q2 f2 => ?_
    have kp := dayN_keep (ink := 0) (dm := false) (sh := false) (n := 12) g1 y1
    have x2 := x1.kept m2
    have x20 := x2.1
    have K2 := q2.k
    have K3 := x2.2.2.1.k
    unfold VK at K2 K3
    have k2 := kk h2
    unfold gain1 at k2
    simp only [s258_102, s258_104, s258_105, s258_108, s258_109, s258_112, s258_115, s258_118, s258_119, s258_122, s258_125, s258_128, s258_129, s258_132, s258_133, s258_136, s258_139, s258_140, s258_143, s258_146, s258_147, s258_148, s258_150, s258_153, oB_some, cl2_i, cl2_r, cl2_l, cl2_u, cl2_s, wd_0, wd_i, wd_r, wd_l, wd_f, ct_i, ct_r, ct_n, ct_f, rf_s, rf_n, tl_s, tl_n, true_and, and_true, eq_self, and_self, Nat.reduceAdd, Nat.reduceLeDiff, Nat.zero_le, Nat.reduceEqDiff, or_true, true_or, false_or, or_false, if_true, if_false, gI_0, gI_1, gI_2, gI_3, gI_4, gI_5, gI_6, gI_7, gI_8, gI_9, gI_10, gI_11, gI_12, gI_13, gI_14, gI_15, gL_0, gL_1, gL_2, gL_3, gL_4, gL_5, gL_6, gL_7, gL_8, gL_9, gL_10, gL_11, gL_12, gL_13, gL_14, gL_15, gA_0, gA_1, gA_2, gA_3, gA_4, gA_5, gA_6, gA_7, gA_8, gA_9, gA_10, gA_11, gA_12, gA_13, gA_14, gA_15, p1_0, p1_1, p1_2, p1_3, p1_4, p1_5, p1_6, p1_7, p1_8, p1_9, p1_10, p1_11, p1_12, p1_13, p1_14, p1_15, p2_0, p2_1, p2_2, p2_3, p2_4, p2_5, p2_6, p2_7, p2_8, p2_9, p2_10, p2_11, p2_12, p2_13, p2_14, p2_15, b01_ok, b_ft, b_tf, b01_e0, b01_e1, lgc_0, not_true_eq_false, not_false_eq_true, x20, K2, K3, q2.s, q2.d, x2.2.2.1.s, x2.2.2.1.d, v_bitCount kp.1.s, v_bitCount g.s, nI_1]
    by_cases e : what = 0
    · rw [if_neg (not_not_intro e)]
      simp only [e, if_true] at k2 ⊢
      exact k2 _ _ (m1.tr m2)
    · rw [if_pos e]
      simp only [e, if_false] at k2 ⊢
      exact k2 _ _ (m1.tr m2)
  have game : ∀ (a : Int32) (gm r i : Nat) (h1 : HP) (T : VS) (zz : Int32) (y : Slot), 0 < vn S → i + r = 10 → Fm w 12 h h1 → RV h1 w T → Good T → FV h1 w 0 false false → vn T = vn S → vy T + 12 < 2 ^ 20 →
      (∀ (h2 : HP) (y3 y4 : Slot), Fm w 12 h h2 → WP (d + 5) 258 Q (9, [.val (.ref f), .val (.int (nI n)), .val (.int z), .val (.int what), .val (.int (lotA (vn S) r zz T).1), .val (.int (a + gain1 S (dayN 0 false false 12 (lotA (vn S) r zz T).2) what)), .val (.int (nI (gm + 1))), y3, y4], [], h2, 0, 0)) →
      WP (d + 5) 258 Q (23, [.val (.ref f), .val (.int (nI n)), .val (.int z), .val (.int what), .val (.int zz), .val (.int a), .val (.int (nI gm)), .val (.int (nI i)), y], [], h1, 0, 0) := by
    intro a gm r
    induction r with
    | zero =>
      intro i h1 T zz y hv hi m1 q1 g1 f1 n1 y1 kk
      obtain rfl : i = 10 := by omega
      rw [s258_23]
      simp only [s258_25, s258_27, oB_some, cl2_i, cl2_r, cl2_l, cl2_u, cl2_s, wd_0, wd_i, wd_r, wd_l, wd_f, ct_i, ct_r, ct_n, ct_f, rf_s, rf_n, tl_s, tl_n, true_and, and_true, eq_self, and_self, Nat.reduceAdd, Nat.reduceLeDiff, Nat.zero_le, Nat.reduceEqDiff, or_true, true_or, false_or, or_false, if_true, if_false, gI_0, gI_1, gI_2, gI_3, gI_4, gI_5, gI_6, gI_7, gI_8, gI_9, gI_10, gI_11, gI_12, gI_13, gI_14, gI_15, gL_0, gL_1, gL_2, gL_3, gL_4, gL_5, gL_6, gL_7, gL_8, gL_9, gL_10, gL_11, gL_12, gL_13, gL_14, gL_15, gA_0, gA_1, gA_2, gA_3, gA_4, gA_5, gA_6, gA_7, gA_8, gA_9, gA_10, gA_11, gA_12, gA_13, gA_14, gA_15, p1_0, p1_1, p1_2, p1_3, p1_4, p1_5, p1_6, p1_7, p1_8, p1_9, p1_10, p1_11, p1_12, p1_13, p1_14, p1_15, p2_0, p2_1, p2_2, p2_3, p2_4, p2_5, p2_6, p2_7, p2_8, p2_9, p2_10, p2_11, p2_12, p2_13, p2_14, p2_15, b01_ok, b_ft, b_tf, b01_e0, b01_e1, lgc_0, not_true_eq_false, not_false_eq_true]
      rw [if_pos (by decide)]
      exact fin a zz gm h1 T _ _ kk m1 q1 g1 f1 y1
    | succ r ih =>
      intro i h1 T zz y hv hi m1 q1 g1 f1 n1 y1 kk
      have x1 := x.kept m1
      have x0 := x1.1
      have K1 := q1.k
      have K2 := x1.2.2.1.k
      unfold VK at K1 K2
      have z1 : ¬ (10 : Int32) ≤ nI i := nI_ge (b := 10) (by omega) (by decide)
      have z2 : ¬ nI (vn S) ≤ 0 := nI_nle hv (by omega)
      have dl := draw_lt (n := vn S) (nxS zz) hv
      have d4 := draw_lt (n := 40) (nxS (nxS zz)) (by decide)
      have n40 : nI 40 = 40 := rfl
      have db : ∀ (h2 : HP) (Q2 : PQ), Ev (d + 5) 260 [.int 40, .int (nxS (nxS zz))] h2 Q2 = Q2 (some (.int (nI (drawN 40 (nxS (nxS zz)))))) h2 := fun h2 Q2 => v_drawBelow (n := 40) (by decide) (by decide)
      rw [lotA_s] at kk
      rw [s258_23]
      simp only [s258_25, s258_27, s258_30, s258_31, s258_34, s258_37, s258_40, s258_42, s258_45, s258_47, s258_48, s258_51, s258_54, s258_56, s258_59, s258_61, s258_63, s258_66, s258_68, s258_69, s258_72, s258_74, s258_76, s258_78, s258_81, s258_84, oB_some, cl2_i, cl2_r, cl2_l, cl2_u, cl2_s, wd_0, wd_i, wd_r, wd_l, wd_f, ct_i, ct_r, ct_n, ct_f, rf_s, rf_n, tl_s, tl_n, true_and, and_true, eq_self, and_self, Nat.reduceAdd, Nat.reduceLeDiff, Nat.zero_le, Nat.reduceEqDiff, or_true, true_or, false_or, or_false, if_true, if_false, gI_0, gI_1, gI_2, gI_3, gI_4, gI_5, gI_6, gI_7, gI_8, gI_9, gI_10, gI_11, gI_12, gI_13, gI_14, gI_15, gL_0, gL_1, gL_2, gL_3, gL_4, gL_5, gL_6, gL_7, gL_8, gL_9, gL_10, gL_11, gL_12, gL_13, gL_14, gL_15, gA_0, gA_1, gA_2, gA_3, gA_4, gA_5, gA_6, gA_7, gA_8, gA_9, gA_10, gA_11, gA_12, gA_13, gA_14, gA_15, p1_0, p1_1, p1_2, p1_3, p1_4, p1_5, p1_6, p1_7, p1_8, p1_9, p1_10, p1_11, p1_12, p1_13, p1_14, p1_15, p2_0, p2_1, p2_2, p2_3, p2_4, p2_5, p2_6, p2_7, p2_8, p2_9, p2_10, p2_11, p2_12, p2_13, p2_14, p2_15, b01_ok, b_ft, b_tf, b01_e0, b01_e1, lgc_0, not_true_eq_false, not_false_eq_true, x0, K1, K2, x1.2.2.1.n, z1, z2, v_nextSeed, v_drawBelow hv (show vn S < 100 by omega), db, v_only (show drawN 40 (nxS (nxS zz)) < 64 by omega)]
      refine v_learnK (p := nI (drawN (vn S) (nxS zz))) q1 g1 f1 (isPI_K (by rw [isPI_nI g1 (by omega)]; exact decide_eq_true (by omega))) fun h2 m2 q2 f2 => ?_
      rw [lrn_n (by omega)] at q2
      simp only [s258_87, s258_90, oB_some, cl2_i, cl2_r, cl2_l, cl2_u, cl2_s, wd_0, wd_i, wd_r, wd_l, wd_f, ct_i, ct_r, ct_n, ct_f, rf_s, rf_n, tl_s, tl_n, true_and, and_true, eq_self, and_self, Nat.reduceAdd, Nat.reduceLeDiff, Nat.zero_le, Nat.reduceEqDiff, or_true, true_or, false_or, or_false, if_true, if_false, gI_0, gI_1, gI_2, gI_3, gI_4, gI_5, gI_6, gI_7, gI_8, gI_9, gI_10, gI_11, gI_12, gI_13, gI_14, gI_15, gL_0, gL_1, gL_2, gL_3, gL_4, gL_5, gL_6, gL_7, gL_8, gL_9, gL_10, gL_11, gL_12, gL_13, gL_14, gL_15, gA_0, gA_1, gA_2, gA_3, gA_4, gA_5, gA_6, gA_7, gA_8, gA_9, gA_10, gA_11, gA_12, gA_13, gA_14, gA_15, p1_0, p1_1, p1_2, p1_3, p1_4, p1_5, p1_6, p1_7, p1_8, p1_9, p1_10, p1_11, p1_12, p1_13, p1_14, p1_15, p2_0, p2_1, p2_2, p2_3, p2_4, p2_5, p2_6, p2_7, p2_8, p2_9, p2_10, p2_11, p2_12, p2_13, p2_14, p2_15, b01_ok, b_ft, b_tf, b01_e0, b01_e1, lgc_0, not_true_eq_false, not_false_eq_true, nI_1]
      exact ih (i + 1) h2 _ (nxS (nxS zz)) _ hv (by omega) (m1.tr m2) q2 (g1.wW (sm_or (g1.at (by omega)).2.2.2.1 (sm_bL d4))) f2 n1 y1 kk
  have loop : ∀ (m i : Nat) (h1 : HP) (zz a : Int32) (y y2 : Slot), i + m = n → Fm w 12 h h1 → lotsA S what m zz a = lotsA S what n z 0 →
      WP (d + 5) 258 Q (9, [.val (.ref f), .val (.int (nI n)), .val (.int z), .val (.int what), .val (.int zz), .val (.int a), .val (.int (nI i)), y, y2], [], h1, 0, 0) := by
    intro m
    induction m with
    | zero =>
      intro i h1 zz a y y2 hi m1 e1
      have hin : i = n := by omega
      have e2 : a = lotsA S what n z 0 := e1
      rw [hin, s258_9]
      simp only [s258_11, s258_12, s258_156, s258_158, oB_some, cl2_i, cl2_r, cl2_l, cl2_u, cl2_s, wd_0, wd_i, wd_r, wd_l, wd_f, ct_i, ct_r, ct_n, ct_f, rf_s, rf_n, tl_s, tl_n, true_and, and_true, eq_self, and_self, Nat.reduceAdd, Nat.reduceLeDiff, Nat.zero_le, Nat.reduceEqDiff, or_true, true_or, false_or, or_false, if_true, if_false, gI_0, gI_1, gI_2, gI_3, gI_4, gI_5, gI_6, gI_7, gI_8, gI_9, gI_10, gI_11, gI_12, gI_13, gI_14, gI_15, gL_0, gL_1, gL_2, gL_3, gL_4, gL_5, gL_6, gL_7, gL_8, gL_9, gL_10, gL_11, gL_12, gL_13, gL_14, gL_15, gA_0, gA_1, gA_2, gA_3, gA_4, gA_5, gA_6, gA_7, gA_8, gA_9, gA_10, gA_11, gA_12, gA_13, gA_14, gA_15, p1_0, p1_1, p1_2, p1_3, p1_4, p1_5, p1_6, p1_7, p1_8, p1_9, p1_10, p1_11, p1_12, p1_13, p1_14, p1_15, p2_0, p2_1, p2_2, p2_3, p2_4, p2_5, p2_6, p2_7, p2_8, p2_9, p2_10, p2_11, p2_12, p2_13, p2_14, p2_15, b01_ok, b_ft, b_tf, b01_e0, b01_e1, lgc_0, not_true_eq_false, not_false_eq_true, Int32.le_refl]
      rw [e2]
      exact k h1 m1
    | succ m ih =>
      intro i h1 zz a y y2 hi m1 e1
      have x1 := x.kept m1
      have x0 := x1.1
      have z1 : ¬ nI n ≤ nI i := nI_ge (by omega) (by omega)
      rw [lotsA_s] at e1
      rw [s258_9]
      simp only [s258_11, s258_12, s258_15, s258_16, oB_some, cl2_i, cl2_r, cl2_l, cl2_u, cl2_s, wd_0, wd_i, wd_r, wd_l, wd_f, ct_i, ct_r, ct_n, ct_f, rf_s, rf_n, tl_s, tl_n, true_and, and_true, eq_self, and_self, Nat.reduceAdd, Nat.reduceLeDiff, Nat.zero_le, Nat.reduceEqDiff, or_true, true_or, false_or, or_false, if_true, if_false, gI_0, gI_1, gI_2, gI_3, gI_4, gI_5, gI_6, gI_7, gI_8, gI_9, gI_10, gI_11, gI_12, gI_13, gI_14, gI_15, gL_0, gL_1, gL_2, gL_3, gL_4, gL_5, gL_6, gL_7, gL_8, gL_9, gL_10, gL_11, gL_12, gL_13, gL_14, gL_15, gA_0, gA_1, gA_2, gA_3, gA_4, gA_5, gA_6, gA_7, gA_8, gA_9, gA_10, gA_11, gA_12, gA_13, gA_14, gA_15, p1_0, p1_1, p1_2, p1_3, p1_4, p1_5, p1_6, p1_7, p1_8, p1_9, p1_10, p1_11, p1_12, p1_13, p1_14, p1_15, p2_0, p2_1, p2_2, p2_3, p2_4, p2_5, p2_6, p2_7, p2_8, p2_9, p2_10, p2_11, p2_12, p2_13, p2_14, p2_15, b01_ok, b_ft, b_tf, b01_e0, b01_e1, lgc_0, not_true_eq_false, not_false_eq_true, x0, z1]
      refine v_asItIs x1 g fun h2 m2 q2 f2 => ?_
      have x2 := x1.kept m2
      have x20 := x2.1
      have K2 := x2.2.2.1.k
      unfold VK at K2
      unfold lot1 at e1
      simp only [s258_19, s258_20, s258_21, oB_some, cl2_i, cl2_r, cl2_l, cl2_u, cl2_s, wd_0, wd_i, wd_r, wd_l, wd_f, ct_i, ct_r, ct_n, ct_f, rf_s, rf_n, tl_s, tl_n, true_and, and_true, eq_self, and_self, Nat.reduceAdd, Nat.reduceLeDiff, Nat.zero_le, Nat.reduceEqDiff, or_true, true_or, false_or, or_false, if_true, if_false, gI_0, gI_1, gI_2, gI_3, gI_4, gI_5, gI_6, gI_7, gI_8, gI_9, gI_10, gI_11, gI_12, gI_13, gI_14, gI_15, gL_0, gL_1, gL_2, gL_3, gL_4, gL_5, gL_6, gL_7, gL_8, gL_9, gL_10, gL_11, gL_12, gL_13, gL_14, gL_15, gA_0, gA_1, gA_2, gA_3, gA_4, gA_5, gA_6, gA_7, gA_8, gA_9, gA_10, gA_11, gA_12, gA_13, gA_14, gA_15, p1_0, p1_1, p1_2, p1_3, p1_4, p1_5, p1_6, p1_7, p1_8, p1_9, p1_10, p1_11, p1_12, p1_13, p1_14, p1_15, p2_0, p2_1, p2_2, p2_3, p2_4, p2_5, p2_6, p2_7, p2_8, p2_9, p2_10, p2_11, p2_12, p2_13, p2_14, p2_15, b01_ok, b_ft, b_tf, b01_e0, b01_e1, lgc_0, not_true_eq_false, not_false_eq_true]
      by_cases hv : vn S = 0
      · simp only [hv, if_true] at e1
        have z2 : nI 0 ≤ 0 := Int32.le_refl _
        have z3 : ¬ (10 : Int32) ≤ 0 := by decide
        have nn : hI h2 v 0 = nI 0 := by rw [x2.2.2.1.n, hv]
        simp only [s258_23, s258_25, s258_27, s258_30, s258_31, s258_34, s258_37, oB_some, cl2_i, cl2_r, cl2_l, cl2_u, cl2_s, wd_0, wd_i, wd_r, wd_l, wd_f, ct_i, ct_r, ct_n, ct_f, rf_s, rf_n, tl_s, tl_n, true_and, and_true, eq_self, and_self, Nat.reduceAdd, Nat.reduceLeDiff, Nat.zero_le, Nat.reduceEqDiff, or_true, true_or, false_or, or_false, if_true, if_false, gI_0, gI_1, gI_2, gI_3, gI_4, gI_5, gI_6, gI_7, gI_8, gI_9, gI_10, gI_11, gI_12, gI_13, gI_14, gI_15, gL_0, gL_1, gL_2, gL_3, gL_4, gL_5, gL_6, gL_7, gL_8, gL_9, gL_10, gL_11, gL_12, gL_13, gL_14, gL_15, gA_0, gA_1, gA_2, gA_3, gA_4, gA_5, gA_6, gA_7, gA_8, gA_9, gA_10, gA_11, gA_12, gA_13, gA_14, gA_15, p1_0, p1_1, p1_2, p1_3, p1_4, p1_5, p1_6, p1_7, p1_8, p1_9, p1_10, p1_11, p1_12, p1_13, p1_14, p1_15, p2_0, p2_1, p2_2, p2_3, p2_4, p2_5, p2_6, p2_7, p2_8, p2_9, p2_10, p2_11, p2_12, p2_13, p2_14, p2_15, b01_ok, b_ft, b_tf, b01_e0, b01_e1, lgc_0, not_true_eq_false, not_false_eq_true, x20, K2, nn, z2, z3]
        exact fin a zz i h2 S _ _ (fun h3 y3 y4 m3 => ih (i + 1) h3 _ _ _ _ (by omega) m3 e1) (m1.tr m2) q2 g f2 (by omega)
      · simp only [hv, if_false] at e1
        exact game a i 10 0 h2 S zz _ (by omega) (by omega) (m1.tr m2) q2 g f2 rfl (by omega) fun h3 y3 y4 m3 => ih (i + 1) h3 _ _ _ _ (by omega) m3 e1
  simp only [e258, s258_0, s258_1, s258_3, s258_4, s258_6, s258_7, oB_some, cl2_i, cl2_r, cl2_l, cl2_u, cl2_s, wd_0, wd_i, wd_r, wd_l, wd_f, ct_i, ct_r, ct_n, ct_f, rf_s, rf_n, tl_s, tl_n, true_and, and_true, eq_self, and_self, Nat.reduceAdd, Nat.reduceLeDiff, Nat.zero_le, Nat.reduceEqDiff, or_true, true_or, false_or, or_false, if_true, if_false, gI_0, gI_1, gI_2, gI_3, gI_4, gI_5, gI_6, gI_7, gI_8, gI_9, gI_10, gI_11, gI_12, gI_13, gI_14, gI_15, gL_0, gL_1, gL_2, gL_3, gL_4, gL_5, gL_6, gL_7, gL_8, gL_9, gL_10, gL_11, gL_12, gL_13, gL_14, gL_15, gA_0, gA_1, gA_2, gA_3, gA_4, gA_5, gA_6, gA_7, gA_8, gA_9, gA_10, gA_11, gA_12, gA_13, gA_14, gA_15, p1_0, p1_1, p1_2, p1_3, p1_4, p1_5, p1_6, p1_7, p1_8, p1_9, p1_10, p1_11, p1_12, p1_13, p1_14, p1_15, p2_0, p2_1, p2_2, p2_3, p2_4, p2_5, p2_6, p2_7, p2_8, p2_9, p2_10, p2_11, p2_12, p2_13, p2_14, p2_15, b01_ok, b_ft, b_tf, b01_e0, b01_e1, lgc_0, not_true_eq_false, not_false_eq_true]
  exact loop n 0 h z 0 _ _ (by omega) Fm.rf rfl
