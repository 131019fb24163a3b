-- needs: 16.num
def b01 (b : Bool) : Int32 := if b = true then 1 else 0
theorem b01_t : b01 true = 1 := rfl
theorem b01_f : b01 false = 0 := rfl
theorem b01_ok (b : Bool) : b01 b = 0 ∨ b01 b = 1 := by cases b <;> simp [b01]
theorem b01_0 (b : Bool) : b01 b = 0 ↔ b = false := by cases b <;> simp [b01]
theorem b01_d (p : Prop) [Decidable p] (A : Int32 → Prop) : (if p then A 1 else A 0) = A (b01 (decide p)) := by
  by_cases h : p <;> simp [h, b01]
theorem b01_n (p : Prop) [Decidable p] (A : Int32 → Prop) : (if p then A 0 else A 1) = A (b01 (decide (¬ p))) := by
  by_cases h : p <;> simp [h, b01]
theorem q_c2 {x : Int64} {k : Nat} (h : k < 64) : lg_cmp (x &&& bL k) 0 = 0 ↔ hb x k = false := by rw [lgc_0, and_bL h]
theorem v_only {d : Nat} {Q : PQ} {h : HP} {k : Nat} (hk : k < 64) : Ev (d + 1) 34 [.int (nI k)] h Q = Q (some (.long (bL k))) h := by
  simp only [e34, s34_0, s34_1, s34_2, s34_3, oB_some, cl2_i, cl2_r, cl2_l, cl2_u, cl2_s, wd_0, wd_i, wd_r, wd_l, wd_f, ct_i, ct_r, ct_n, ct_f, rf_s, rf_n, tl_s, tl_n, true_and, and_true, eq_self, and_self, Nat.reduceAdd, Nat.reduceLeDiff, Nat.zero_le, Nat.reduceEqDiff, or_true, true_or, false_or, or_false, if_true, if_false, gI_0, gI_1, gI_2, gI_3, gI_4, gI_5, gI_6, gI_7, gI_8, gI_9, gI_10, gI_11, gI_12, gI_13, gI_14, gI_15, gL_0, gL_1, gL_2, gL_3, gL_4, gL_5, gL_6, gL_7, gL_8, gL_9, gL_10, gL_11, gL_12, gL_13, gL_14, gL_15, gA_0, gA_1, gA_2, gA_3, gA_4, gA_5, gA_6, gA_7, gA_8, gA_9, gA_10, gA_11, gA_12, gA_13, gA_14, gA_15, p1_0, p1_1, p1_2, p1_3, p1_4, p1_5, p1_6, p1_7, p1_8, p1_9, p1_10, p1_11, p1_12, p1_13, p1_14, p1_15, p2_0, p2_1, p2_2, p2_3, p2_4, p2_5, p2_6, p2_7, p2_8, p2_9, p2_10, p2_11, p2_12, p2_13, p2_14, p2_15]
  rw [shl_bL k hk]
set_option maxHeartbeats 1000000 in
theorem v_isAmong {d : Nat} {Q : PQ} {h : HP} {x : Int64} {k : Nat} (hk : k < 64) : Ev (d + 2) 111 [.long x, .int (nI k)] h Q = Q (some (.int (b01 (hb x k)))) h := by
  simp only [e111, s111_0, s111_1, s111_2, s111_5, s111_6, s111_7, s111_8, s111_11, s111_12, s111_15, s111_16, oB_some, cl2_i, cl2_r, cl2_l, cl2_u, cl2_s, wd_0, wd_i, wd_r, wd_l, wd_f, ct_i, ct_r, ct_n, ct_f, rf_s, rf_n, tl_s, tl_n, true_and, and_true, eq_self, and_self, Nat.reduceAdd, Nat.reduceLeDiff, Nat.zero_le, Nat.reduceEqDiff, or_true, true_or, false_or, or_false, if_true, if_false, gI_0, gI_1, gI_2, gI_3, gI_4, gI_5, gI_6, gI_7, gI_8, gI_9, gI_10, gI_11, gI_12, gI_13, gI_14, gI_15, gL_0, gL_1, gL_2, gL_3, gL_4, gL_5, gL_6, gL_7, gL_8, gL_9, gL_10, gL_11, gL_12, gL_13, gL_14, gL_15, gA_0, gA_1, gA_2, gA_3, gA_4, gA_5, gA_6, gA_7, gA_8, gA_9, gA_10, gA_11, gA_12, gA_13, gA_14, gA_15, p1_0, p1_1, p1_2, p1_3, p1_4, p1_5, p1_6, p1_7, p1_8, p1_9, p1_10, p1_11, p1_12, p1_13, p1_14, p1_15, p2_0, p2_1, p2_2, p2_3, p2_4, p2_5, p2_6, p2_7, p2_8, p2_9, p2_10, p2_11, p2_12, p2_13, p2_14, p2_15, v_only hk]
  by_cases hx : hb x k = true
  · rw [if_neg (fun q => by rw [q_c2 hk, hx] at q; cases q)]
    simp [hx, b01]
  · have hf : hb x k = false := by simpa using hx
    rw [if_pos ((q_c2 hk).mpr hf)]
    simp [hf, b01]
set_option maxHeartbeats 1000000 in
theorem v_leastFrom {d : Nat} {Q : PQ} {h : HP} {x : Int64} {f : Nat} (hf : f ≤ 40) : Ev (d + 1) 116 [.long x, .int (nI f)] h Q = Q (some (.int (oN (lst x f)))) h := by
  have loop : ∀ (n i : Nat) (y : Slot), i + n = 40 → WP d 116 Q (2, [.val (.long x), .second, y, .val (.int (nI i))], [], h, 0, 0) = Q (some (.int (oN (lsA x n i)))) h := by
    intro n
    induction n with
    | zero =>
      intro i y hi
      obtain rfl : i = 40 := by omega
      rw [s116_2]
      simp only [s116_0, s116_1, s116_3, s116_5, s116_8, s116_9, s116_10, s116_11, s116_12, s116_13, s116_14, s116_15, s116_18, s116_19, s116_20, s116_23, s116_26, s116_28, oB_some, cl2_i, cl2_r, cl2_l, cl2_u, cl2_s, wd_0, wd_i, wd_r, wd_l, wd_f, ct_i, ct_r, ct_n, ct_f, rf_s, rf_n, tl_s, tl_n, true_and, and_true, eq_self, and_self, Nat.reduceAdd, Nat.reduceLeDiff, Nat.zero_le, Nat.reduceEqDiff, or_true, true_or, false_or, or_false, if_true, if_false, gI_0, gI_1, gI_2, gI_3, gI_4, gI_5, gI_6, gI_7, gI_8, gI_9, gI_10, gI_11, gI_12, gI_13, gI_14, gI_15, gL_0, gL_1, gL_2, gL_3, gL_4, gL_5, gL_6, gL_7, gL_8, gL_9, gL_10, gL_11, gL_12, gL_13, gL_14, gL_15, gA_0, gA_1, gA_2, gA_3, gA_4, gA_5, gA_6, gA_7, gA_8, gA_9, gA_10, gA_11, gA_12, gA_13, gA_14, gA_15, p1_0, p1_1, p1_2, p1_3, p1_4, p1_5, p1_6, p1_7, p1_8, p1_9, p1_10, p1_11, p1_12, p1_13, p1_14, p1_15, p2_0, p2_1, p2_2, p2_3, p2_4, p2_5, p2_6, p2_7, p2_8, p2_9, p2_10, p2_11, p2_12, p2_13, p2_14, p2_15]
      rw [if_pos (by decide)]
      rfl
    | succ n ih =>
      intro i y hi
      rw [s116_2]
      simp only [s116_0, s116_1, s116_3, s116_5, s116_8, s116_9, s116_10, s116_11, s116_12, s116_13, s116_14, s116_15, s116_18, s116_19, s116_20, s116_23, s116_26, s116_28, oB_some, cl2_i, cl2_r, cl2_l, cl2_u, cl2_s, wd_0, wd_i, wd_r, wd_l, wd_f, ct_i, ct_r, ct_n, ct_f, rf_s, rf_n, tl_s, tl_n, true_and, and_true, eq_self, and_self, Nat.reduceAdd, Nat.reduceLeDiff, Nat.zero_le, Nat.reduceEqDiff, or_true, true_or, false_or, or_false, if_true, if_false, gI_0, gI_1, gI_2, gI_3, gI_4, gI_5, gI_6, gI_7, gI_8, gI_9, gI_10, gI_11, gI_12, gI_13, gI_14, gI_15, gL_0, gL_1, gL_2, gL_3, gL_4, gL_5, gL_6, gL_7, gL_8, gL_9, gL_10, gL_11, gL_12, gL_13, gL_14, gL_15, gA_0, gA_1, gA_2, gA_3, gA_4, gA_5, gA_6, gA_7, gA_8, gA_9, gA_10, gA_11, gA_12, gA_13, gA_14, gA_15, p1_0, p1_1, p1_2, p1_3, p1_4, p1_5, p1_6, p1_7, p1_8, p1_9, p1_10, p1_11, p1_12, p1_13, p1_14, p1_15, p2_0, p2_1, p2_2, p2_3, p2_4, p2_5, p2_6, p2_7, p2_8, p2_9, p2_10, p2_11, p2_12, p2_13, p2_14, p2_15]
      rw [if_neg (show ¬ (40 : Int32) ≤ nI i from nI_ge (show i < 40 by omega) (by decide))]
      unfold lsA
      by_cases hx : hb x i = true
      · rw [if_neg (fun q => by rw [q_class (by omega), hx] at q; cases q), if_pos hx]
        rfl
      · have hxf : hb x i = false := by simpa using hx
        rw [if_pos ((q_class (by omega)).mpr hxf), if_neg hx, nI_1]
        exact ih (i + 1) (cl2 y) (by omega)
  simp only [e116, s116_0, s116_1, s116_3, s116_5, s116_8, s116_9, s116_10, s116_11, s116_12, s116_13, s116_14, s116_15, s116_18, s116_19, s116_20, s116_23, s116_26, s116_28, oB_some, cl2_i, cl2_r, cl2_l, cl2_u, cl2_s, wd_0, wd_i, wd_r, wd_l, wd_f, ct_i, ct_r, ct_n, ct_f, rf_s, rf_n, tl_s, tl_n, true_and, and_true, eq_self, and_self, Nat.reduceAdd, Nat.reduceLeDiff, Nat.zero_le, Nat.reduceEqDiff, or_true, true_or, false_or, or_false, if_true, if_false, gI_0, gI_1, gI_2, gI_3, gI_4, gI_5, gI_6, gI_7, gI_8, gI_9, gI_10, gI_11, gI_12, gI_13, gI_14, gI_15, gL_0, gL_1, gL_2, gL_3, gL_4, gL_5, gL_6, gL_7, gL_8, gL_9, gL_10, gL_11, gL_12, gL_13, gL_14, gL_15, gA_0, gA_1, gA_2, gA_3, gA_4, gA_5, gA_6, gA_7, gA_8, gA_9, gA_10, gA_11, gA_12, gA_13, gA_14, gA_15, p1_0, p1_1, p1_2, p1_3, p1_4, p1_5, p1_6, p1_7, p1_8, p1_9, p1_10, p1_11, p1_12, p1_13, p1_14, p1_15, p2_0, p2_1, p2_2, p2_3, p2_4, p2_5, p2_6, p2_7, p2_8, p2_9, p2_10, p2_11, p2_12, p2_13, p2_14, p2_15]
  exact loop (40 - f) f _ (by omega)
set_option maxHeartbeats 1000000 in
theorem v_greatest {d : Nat} {Q : PQ} {h : HP} {x : Int64} : Ev (d + 1) 53 [.long x] h Q = Q (some (.int (oN (grt x)))) h := by
  have loop : ∀ (n : Nat), n ≤ 40 → WP d 53 Q (3, [.val (.long x), .second, .val (.int (nI n + (-1)))], [], h, 0, 0) = Q (some (.int (oN (grA x n)))) h := by
    intro n
    induction n with
    | zero =>
      intro hi
      rw [s53_3]
      simp only [s53_0, s53_2, s53_4, s53_7, s53_8, s53_9, s53_10, s53_11, s53_12, s53_13, s53_14, s53_17, s53_18, s53_19, s53_22, s53_25, s53_27, oB_some, cl2_i, cl2_r, cl2_l, cl2_u, cl2_s, wd_0, wd_i, wd_r, wd_l, wd_f, ct_i, ct_r, ct_n, ct_f, rf_s, rf_n, tl_s, tl_n, true_and, and_true, eq_self, and_self, Nat.reduceAdd, Nat.reduceLeDiff, Nat.zero_le, Nat.reduceEqDiff, or_true, true_or, false_or, or_false, if_true, if_false, gI_0, gI_1, gI_2, gI_3, gI_4, gI_5, gI_6, gI_7, gI_8, gI_9, gI_10, gI_11, gI_12, gI_13, gI_14, gI_15, gL_0, gL_1, gL_2, gL_3, gL_4, gL_5, gL_6, gL_7, gL_8, gL_9, gL_10, gL_11, gL_12, gL_13, gL_14, gL_15, gA_0, gA_1, gA_2, gA_3, gA_4, gA_5, gA_6, gA_7, gA_8, gA_9, gA_10, gA_11, gA_12, gA_13, gA_14, gA_15, p1_0, p1_1, p1_2, p1_3, p1_4, p1_5, p1_6, p1_7, p1_8, p1_9, p1_10, p1_11, p1_12, p1_13, p1_14, p1_15, p2_0, p2_1, p2_2, p2_3, p2_4, p2_5, p2_6, p2_7, p2_8, p2_9, p2_10, p2_11, p2_12, p2_13, p2_14, p2_15]
      rw [if_pos (by decide)]
      rfl
    | succ n ih =>
      intro hi
      rw [s53_3, pk_m1]
      simp only [s53_0, s53_2, s53_4, s53_7, s53_8, s53_9, s53_10, s53_11, s53_12, s53_13, s53_14, s53_17, s53_18, s53_19, s53_22, s53_25, s53_27, oB_some, cl2_i, cl2_r, cl2_l, cl2_u, cl2_s, wd_0, wd_i, wd_r, wd_l, wd_f, ct_i, ct_r, ct_n, ct_f, rf_s, rf_n, tl_s, tl_n, true_and, and_true, eq_self, and_self, Nat.reduceAdd, Nat.reduceLeDiff, Nat.zero_le, Nat.reduceEqDiff, or_true, true_or, false_or, or_false, if_true, if_false, gI_0, gI_1, gI_2, gI_3, gI_4, gI_5, gI_6, gI_7, gI_8, gI_9, gI_10, gI_11, gI_12, gI_13, gI_14, gI_15, gL_0, gL_1, gL_2, gL_3, gL_4, gL_5, gL_6, gL_7, gL_8, gL_9, gL_10, gL_11, gL_12, gL_13, gL_14, gL_15, gA_0, gA_1, gA_2, gA_3, gA_4, gA_5, gA_6, gA_7, gA_8, gA_9, gA_10, gA_11, gA_12, gA_13, gA_14, gA_15, p1_0, p1_1, p1_2, p1_3, p1_4, p1_5, p1_6, p1_7, p1_8, p1_9, p1_10, p1_11, p1_12, p1_13, p1_14, p1_15, p2_0, p2_1, p2_2, p2_3, p2_4, p2_5, p2_6, p2_7, p2_8, p2_9, p2_10, p2_11, p2_12, p2_13, p2_14, p2_15]
      rw [if_neg (nI_pos (by omega))]
      unfold grA
      by_cases hx : hb x n = true
      · rw [if_neg (fun q => by rw [q_class (by omega), hx] at q; cases q), if_pos hx]
        rfl
      · have hxf : hb x n = false := by simpa using hx
        rw [if_pos ((q_class (by omega)).mpr hxf), if_neg hx]
        exact ih (by omega)
  simp only [e53, s53_0, s53_2, s53_4, s53_7, s53_8, s53_9, s53_10, s53_11, s53_12, s53_13, s53_14, s53_17, s53_18, s53_19, s53_22, s53_25, s53_27, oB_some, cl2_i, cl2_r, cl2_l, cl2_u, cl2_s, wd_0, wd_i, wd_r, wd_l, wd_f, ct_i, ct_r, ct_n, ct_f, rf_s, rf_n, tl_s, tl_n, true_and, and_true, eq_self, and_self, Nat.reduceAdd, Nat.reduceLeDiff, Nat.zero_le, Nat.reduceEqDiff, or_true, true_or, false_or, or_false, if_true, if_false, gI_0, gI_1, gI_2, gI_3, gI_4, gI_5, gI_6, gI_7, gI_8, gI_9, gI_10, gI_11, gI_12, gI_13, gI_14, gI_15, gL_0, gL_1, gL_2, gL_3, gL_4, gL_5, gL_6, gL_7, gL_8, gL_9, gL_10, gL_11, gL_12, gL_13, gL_14, gL_15, gA_0, gA_1, gA_2, gA_3, gA_4, gA_5, gA_6, gA_7, gA_8, gA_9, gA_10, gA_11, gA_12, gA_13, gA_14, gA_15, p1_0, p1_1, p1_2, p1_3, p1_4, p1_5, p1_6, p1_7, p1_8, p1_9, p1_10, p1_11, p1_12, p1_13, p1_14, p1_15, p2_0, p2_1, p2_2, p2_3, p2_4, p2_5, p2_6, p2_7, p2_8, p2_9, p2_10, p2_11, p2_12, p2_13, p2_14, p2_15]
  exact loop 40 (by decide)
set_option maxHeartbeats 1000000 in
theorem m_has {d : Nat} {Q : PQ} {h : HP} {x : Int64} {k : Nat} (hk : k < 64) : Ev (d + 1) 89 [.long x, .int (nI k)] h Q = Q (some (.int (b01 (hb x k)))) h := by
  simp only [e89, s89_0, s89_1, s89_2, s89_3, s89_4, s89_5, s89_6, s89_7, s89_10, s89_11, s89_14, s89_15, oB_some, cl2_i, cl2_r, cl2_l, cl2_u, cl2_s, wd_0, wd_i, wd_r, wd_l, wd_f, ct_i, ct_r, ct_n, ct_f, rf_s, rf_n, tl_s, tl_n, true_and, and_true, eq_self, and_self, Nat.reduceAdd, Nat.reduceLeDiff, Nat.zero_le, Nat.reduceEqDiff, or_true, true_or, false_or, or_false, if_true, if_false, gI_0, gI_1, gI_2, gI_3, gI_4, gI_5, gI_6, gI_7, gI_8, gI_9, gI_10, gI_11, gI_12, gI_13, gI_14, gI_15, gL_0, gL_1, gL_2, gL_3, gL_4, gL_5, gL_6, gL_7, gL_8, gL_9, gL_10, gL_11, gL_12, gL_13, gL_14, gL_15, gA_0, gA_1, gA_2, gA_3, gA_4, gA_5, gA_6, gA_7, gA_8, gA_9, gA_10, gA_11, gA_12, gA_13, gA_14, gA_15, p1_0, p1_1, p1_2, p1_3, p1_4, p1_5, p1_6, p1_7, p1_8, p1_9, p1_10, p1_11, p1_12, p1_13, p1_14, p1_15, p2_0, p2_1, p2_2, p2_3, p2_4, p2_5, p2_6, p2_7, p2_8, p2_9, p2_10, p2_11, p2_12, p2_13, p2_14, p2_15]
  by_cases hx : hb x k = true
  · rw [if_neg (fun q => q ((q_model hk).mpr hx))]
    simp [hx, b01]
  · have hf : hb x k = false := by simpa using hx
    rw [if_pos (fun q => hx ((q_model hk).mp q))]
    simp [hf, b01]
theorem m_isIn {d : Nat} {Q : PQ} {h : HP} {v a b : Int32} : Ev (d + 1) 69 [.int v, .int a, .int b] h Q = Q (some (.int (b01 (decide (a ≤ v ∧ v ≤ b))))) h := by
  simp only [e69, s69_0, s69_1, s69_2, s69_5, s69_6, s69_7, s69_10, s69_11, s69_14, s69_15, oB_some, cl2_i, cl2_r, cl2_l, cl2_u, cl2_s, wd_0, wd_i, wd_r, wd_l, wd_f, ct_i, ct_r, ct_n, ct_f, rf_s, rf_n, tl_s, tl_n, true_and, and_true, eq_self, and_self, Nat.reduceAdd, Nat.reduceLeDiff, Nat.zero_le, Nat.reduceEqDiff, or_true, true_or, false_or, or_false, if_true, if_false, gI_0, gI_1, gI_2, gI_3, gI_4, gI_5, gI_6, gI_7, gI_8, gI_9, gI_10, gI_11, gI_12, gI_13, gI_14, gI_15, gL_0, gL_1, gL_2, gL_3, gL_4, gL_5, gL_6, gL_7, gL_8, gL_9, gL_10, gL_11, gL_12, gL_13, gL_14, gL_15, gA_0, gA_1, gA_2, gA_3, gA_4, gA_5, gA_6, gA_7, gA_8, gA_9, gA_10, gA_11, gA_12, gA_13, gA_14, gA_15, p1_0, p1_1, p1_2, p1_3, p1_4, p1_5, p1_6, p1_7, p1_8, p1_9, p1_10, p1_11, p1_12, p1_13, p1_14, p1_15, p2_0, p2_1, p2_2, p2_3, p2_4, p2_5, p2_6, p2_7, p2_8, p2_9, p2_10, p2_11, p2_12, p2_13, p2_14, p2_15]
  by_cases h1 : v < a
  · have : ¬ a ≤ v := Int32.not_le.mpr h1
    simp [h1, this, b01]
  · have h1' : a ≤ v := Int32.not_lt.mp h1
    by_cases h2 : b < v
    · have : ¬ v ≤ b := Int32.not_le.mpr h2
      simp [h1, h2, this, b01]
    · have h2' : v ≤ b := Int32.not_lt.mp h2
      simp [h1, h2, h1', h2', b01]
def bnd (v a b : Int32) : Int32 := if v < a then -4 else if b < v then -6 else 0
theorem m_bound {d : Nat} {Q : PQ} {h : HP} {v a b : Int32} : Ev (d + 1) 15 [.int v, .int a, .int b] h Q = Q (some (.int (bnd v a b))) h := by
  simp only [e15, s15_0, s15_1, s15_2, s15_5, s15_7, s15_10, s15_11, s15_12, s15_15, s15_17, s15_20, s15_21, oB_some, cl2_i, cl2_r, cl2_l, cl2_u, cl2_s, wd_0, wd_i, wd_r, wd_l, wd_f, ct_i, ct_r, ct_n, ct_f, rf_s, rf_n, tl_s, tl_n, true_and, and_true, eq_self, and_self, Nat.reduceAdd, Nat.reduceLeDiff, Nat.zero_le, Nat.reduceEqDiff, or_true, true_or, false_or, or_false, if_true, if_false, gI_0, gI_1, gI_2, gI_3, gI_4, gI_5, gI_6, gI_7, gI_8, gI_9, gI_10, gI_11, gI_12, gI_13, gI_14, gI_15, gL_0, gL_1, gL_2, gL_3, gL_4, gL_5, gL_6, gL_7, gL_8, gL_9, gL_10, gL_11, gL_12, gL_13, gL_14, gL_15, gA_0, gA_1, gA_2, gA_3, gA_4, gA_5, gA_6, gA_7, gA_8, gA_9, gA_10, gA_11, gA_12, gA_13, gA_14, gA_15, p1_0, p1_1, p1_2, p1_3, p1_4, p1_5, p1_6, p1_7, p1_8, p1_9, p1_10, p1_11, p1_12, p1_13, p1_14, p1_15, p2_0, p2_1, p2_2, p2_3, p2_4, p2_5, p2_6, p2_7, p2_8, p2_9, p2_10, p2_11, p2_12, p2_13, p2_14, p2_15]
  unfold bnd
  by_cases h1 : v < a
  · have : ¬ a ≤ v := Int32.not_le.mpr h1
    simp [h1, this]
  · have h1' : a ≤ v := Int32.not_lt.mp h1
    by_cases h2 : b < v
    · have : ¬ v ≤ b := Int32.not_le.mpr h2
      simp [h1, h1', h2, this]
    · have h2' : v ≤ b := Int32.not_lt.mp h2
      simp [h1, h1', h2, h2']
theorem m_held {d : Nat} {Q : PQ} {h : HP} {v b : Int32} : Ev (d + 1) 90 [.int v, .int b] h Q = Q (some (.int (if v ≤ b then v else b))) h := by
  simp only [e90, s90_0, s90_1, s90_2, s90_5, s90_6, s90_9, s90_10, oB_some, cl2_i, cl2_r, cl2_l, cl2_u, cl2_s, wd_0, wd_i, wd_r, wd_l, wd_f, ct_i, ct_r, ct_n, ct_f, rf_s, rf_n, tl_s, tl_n, true_and, and_true, eq_self, and_self, Nat.reduceAdd, Nat.reduceLeDiff, Nat.zero_le, Nat.reduceEqDiff, or_true, true_or, false_or, or_false, if_true, if_false, gI_0, gI_1, gI_2, gI_3, gI_4, gI_5, gI_6, gI_7, gI_8, gI_9, gI_10, gI_11, gI_12, gI_13, gI_14, gI_15, gL_0, gL_1, gL_2, gL_3, gL_4, gL_5, gL_6, gL_7, gL_8, gL_9, gL_10, gL_11, gL_12, gL_13, gL_14, gL_15, gA_0, gA_1, gA_2, gA_3, gA_4, gA_5, gA_6, gA_7, gA_8, gA_9, gA_10, gA_11, gA_12, gA_13, gA_14, gA_15, p1_0, p1_1, p1_2, p1_3, p1_4, p1_5, p1_6, p1_7, p1_8, p1_9, p1_10, p1_11, p1_12, p1_13, p1_14, p1_15, p2_0, p2_1, p2_2, p2_3, p2_4, p2_5, p2_6, p2_7, p2_8, p2_9, p2_10, p2_11, p2_12, p2_13, p2_14, p2_15]
  by_cases h1 : v ≤ b <;> simp [h1]
set_option maxHeartbeats 1000000 in
theorem m_bits {d : Nat} {Q : PQ} {h : HP} {x : Int64} : Ev (d + 2) 88 [.long x] h Q = Q (some (.int (nI (nb x)))) h := by
  have loop : ∀ (n i : Nat), i + n = 40 → WP (d + 1) 88 Q (4, [.val (.long x), .second, .val (.int (nI (nbU i x))), .val (.int (nI i))], [], h, 0, 0) = Q (some (.int (nI (nb x)))) h := by
    intro n
    induction n with
    | zero =>
      intro i hi
      obtain rfl : i = 40 := by omega
      rw [s88_4]
      simp only [s88_0, s88_1, s88_2, s88_3, s88_5, s88_7, s88_10, s88_11, s88_12, s88_13, s88_16, s88_19, s88_20, s88_23, s88_24, s88_25, s88_26, s88_29, s88_32, s88_33, oB_some, cl2_i, cl2_r, cl2_l, cl2_u, cl2_s, wd_0, wd_i, wd_r, wd_l, wd_f, ct_i, ct_r, ct_n, ct_f, rf_s, rf_n, tl_s, tl_n, true_and, and_true, eq_self, and_self, Nat.reduceAdd, Nat.reduceLeDiff, Nat.zero_le, Nat.reduceEqDiff, or_true, true_or, false_or, or_false, if_true, if_false, gI_0, gI_1, gI_2, gI_3, gI_4, gI_5, gI_6, gI_7, gI_8, gI_9, gI_10, gI_11, gI_12, gI_13, gI_14, gI_15, gL_0, gL_1, gL_2, gL_3, gL_4, gL_5, gL_6, gL_7, gL_8, gL_9, gL_10, gL_11, gL_12, gL_13, gL_14, gL_15, gA_0, gA_1, gA_2, gA_3, gA_4, gA_5, gA_6, gA_7, gA_8, gA_9, gA_10, gA_11, gA_12, gA_13, gA_14, gA_15, p1_0, p1_1, p1_2, p1_3, p1_4, p1_5, p1_6, p1_7, p1_8, p1_9, p1_10, p1_11, p1_12, p1_13, p1_14, p1_15, p2_0, p2_1, p2_2, p2_3, p2_4, p2_5, p2_6, p2_7, p2_8, p2_9, p2_10, p2_11, p2_12, p2_13, p2_14, p2_15]
      rw [if_pos (by decide)]
      rfl
    | succ n ih =>
      intro i hi
      rw [s88_4]
      simp only [s88_0, s88_1, s88_2, s88_3, s88_5, s88_7, s88_10, s88_11, s88_12, s88_13, s88_16, s88_19, s88_20, s88_23, s88_24, s88_25, s88_26, s88_29, s88_32, s88_33, oB_some, cl2_i, cl2_r, cl2_l, cl2_u, cl2_s, wd_0, wd_i, wd_r, wd_l, wd_f, ct_i, ct_r, ct_n, ct_f, rf_s, rf_n, tl_s, tl_n, true_and, and_true, eq_self, and_self, Nat.reduceAdd, Nat.reduceLeDiff, Nat.zero_le, Nat.reduceEqDiff, or_true, true_or, false_or, or_false, if_true, if_false, gI_0, gI_1, gI_2, gI_3, gI_4, gI_5, gI_6, gI_7, gI_8, gI_9, gI_10, gI_11, gI_12, gI_13, gI_14, gI_15, gL_0, gL_1, gL_2, gL_3, gL_4, gL_5, gL_6, gL_7, gL_8, gL_9, gL_10, gL_11, gL_12, gL_13, gL_14, gL_15, gA_0, gA_1, gA_2, gA_3, gA_4, gA_5, gA_6, gA_7, gA_8, gA_9, gA_10, gA_11, gA_12, gA_13, gA_14, gA_15, p1_0, p1_1, p1_2, p1_3, p1_4, p1_5, p1_6, p1_7, p1_8, p1_9, p1_10, p1_11, p1_12, p1_13, p1_14, p1_15, p2_0, p2_1, p2_2, p2_3, p2_4, p2_5, p2_6, p2_7, p2_8, p2_9, p2_10, p2_11, p2_12, p2_13, p2_14, p2_15, m_has (show i < 64 by omega)]
      rw [if_neg (show ¬ (40 : Int32) ≤ nI i from nI_ge (show i < 40 by omega) (by decide))]
      by_cases hx : hb x i = true
      · have e : nbU (i + 1) x = nbU i x + 1 := by rw [nbU_succ, if_pos hx]
        have := ih (i + 1) (by omega)
        rw [e, ← nI_1, ← nI_1] at this
        simpa [hx, b01] using this
      · have e : nbU (i + 1) x = nbU i x := by rw [nbU_succ, if_neg hx]; rfl
        have := ih (i + 1) (by omega)
        rw [e, ← nI_1] at this
        simpa [hx, b01] using this
  simp only [e88, s88_0, s88_1, s88_2, s88_3, s88_5, s88_7, s88_10, s88_11, s88_12, s88_13, s88_16, s88_19, s88_20, s88_23, s88_24, s88_25, s88_26, s88_29, s88_32, s88_33, oB_some, cl2_i, cl2_r, cl2_l, cl2_u, cl2_s, wd_0, wd_i, wd_r, wd_l, wd_f, ct_i, ct_r, ct_n, ct_f, rf_s, rf_n, tl_s, tl_n, true_and, and_true, eq_self, and_self, Nat.reduceAdd, Nat.reduceLeDiff, Nat.zero_le, Nat.reduceEqDiff, or_true, true_or, false_or, or_false, if_true, if_false, gI_0, gI_1, gI_2, gI_3, gI_4, gI_5, gI_6, gI_7, gI_8, gI_9, gI_10, gI_11, gI_12, gI_13, gI_14, gI_15, gL_0, gL_1, gL_2, gL_3, gL_4, gL_5, gL_6, gL_7, gL_8, gL_9, gL_10, gL_11, gL_12, gL_13, gL_14, gL_15, gA_0, gA_1, gA_2, gA_3, gA_4, gA_5, gA_6, gA_7, gA_8, gA_9, gA_10, gA_11, gA_12, gA_13, gA_14, gA_15, p1_0, p1_1, p1_2, p1_3, p1_4, p1_5, p1_6, p1_7, p1_8, p1_9, p1_10, p1_11, p1_12, p1_13, p1_14, p1_15, p2_0, p2_1, p2_2, p2_3, p2_4, p2_5, p2_6, p2_7, p2_8, p2_9, p2_10, p2_11, p2_12, p2_13, p2_14, p2_15]
  exact loop 40 0 (by decide)
set_option maxHeartbeats 1000000 in
theorem m_leastOf {d : Nat} {Q : PQ} {h : HP} {x : Int64} {f : Nat} (hf : f ≤ 40) : Ev (d + 2) 92 [.long x, .int (nI f)] h Q = Q (some (.int (oN (lst x f)))) h := by
  have loop : ∀ (n i : Nat) (y : Slot), i + n = 40 → WP (d + 1) 92 Q (2, [.val (.long x), .second, y, .val (.int (nI i))], [], h, 0, 0) = Q (some (.int (oN (lsA x n i)))) h := by
    intro n
    induction n with
    | zero =>
      intro i y hi
      obtain rfl : i = 40 := by omega
      rw [s92_2]
      simp only [s92_0, s92_1, s92_3, s92_5, s92_8, s92_9, s92_10, s92_13, s92_16, s92_17, s92_18, s92_21, s92_24, s92_26, oB_some, cl2_i, cl2_r, cl2_l, cl2_u, cl2_s, wd_0, wd_i, wd_r, wd_l, wd_f, ct_i, ct_r, ct_n, ct_f, rf_s, rf_n, tl_s, tl_n, true_and, and_true, eq_self, and_self, Nat.reduceAdd, Nat.reduceLeDiff, Nat.zero_le, Nat.reduceEqDiff, or_true, true_or, false_or, or_false, if_true, if_false, gI_0, gI_1, gI_2, gI_3, gI_4, gI_5, gI_6, gI_7, gI_8, gI_9, gI_10, gI_11, gI_12, gI_13, gI_14, gI_15, gL_0, gL_1, gL_2, gL_3, gL_4, gL_5, gL_6, gL_7, gL_8, gL_9, gL_10, gL_11, gL_12, gL_13, gL_14, gL_15, gA_0, gA_1, gA_2, gA_3, gA_4, gA_5, gA_6, gA_7, gA_8, gA_9, gA_10, gA_11, gA_12, gA_13, gA_14, gA_15, p1_0, p1_1, p1_2, p1_3, p1_4, p1_5, p1_6, p1_7, p1_8, p1_9, p1_10, p1_11, p1_12, p1_13, p1_14, p1_15, p2_0, p2_1, p2_2, p2_3, p2_4, p2_5, p2_6, p2_7, p2_8, p2_9, p2_10, p2_11, p2_12, p2_13, p2_14, p2_15]
      rw [if_pos (by decide)]
      rfl
    | succ n ih =>
      intro i y hi
      rw [s92_2]
      simp only [s92_0, s92_1, s92_3, s92_5, s92_8, s92_9, s92_10, s92_13, s92_16, s92_17, s92_18, s92_21, s92_24, s92_26, oB_some, cl2_i, cl2_r, cl2_l, cl2_u, cl2_s, wd_0, wd_i, wd_r, wd_l, wd_f, ct_i, ct_r, ct_n, ct_f, rf_s, rf_n, tl_s, tl_n, true_and, and_true, eq_self, and_self, Nat.reduceAdd, Nat.reduceLeDiff, Nat.zero_le, Nat.reduceEqDiff, or_true, true_or, false_or, or_false, if_true, if_false, gI_0, gI_1, gI_2, gI_3, gI_4, gI_5, gI_6, gI_7, gI_8, gI_9, gI_10, gI_11, gI_12, gI_13, gI_14, gI_15, gL_0, gL_1, gL_2, gL_3, gL_4, gL_5, gL_6, gL_7, gL_8, gL_9, gL_10, gL_11, gL_12, gL_13, gL_14, gL_15, gA_0, gA_1, gA_2, gA_3, gA_4, gA_5, gA_6, gA_7, gA_8, gA_9, gA_10, gA_11, gA_12, gA_13, gA_14, gA_15, p1_0, p1_1, p1_2, p1_3, p1_4, p1_5, p1_6, p1_7, p1_8, p1_9, p1_10, p1_11, p1_12, p1_13, p1_14, p1_15, p2_0, p2_1, p2_2, p2_3, p2_4, p2_5, p2_6, p2_7, p2_8, p2_9, p2_10, p2_11, p2_12, p2_13, p2_14, p2_15, m_has (show i < 64 by omega)]
      rw [if_neg (show ¬ (40 : Int32) ≤ nI i from nI_ge (show i < 40 by omega) (by decide))]
      unfold lsA
      by_cases hx : hb x i = true
      · simp [hx, b01, oN]
      · have := ih (i + 1) (cl2 y) (by omega)
        rw [← nI_1] at this
        simpa [hx, b01] using this
  simp only [e92, s92_0, s92_1, s92_3, s92_5, s92_8, s92_9, s92_10, s92_13, s92_16, s92_17, s92_18, s92_21, s92_24, s92_26, oB_some, cl2_i, cl2_r, cl2_l, cl2_u, cl2_s, wd_0, wd_i, wd_r, wd_l, wd_f, ct_i, ct_r, ct_n, ct_f, rf_s, rf_n, tl_s, tl_n, true_and, and_true, eq_self, and_self, Nat.reduceAdd, Nat.reduceLeDiff, Nat.zero_le, Nat.reduceEqDiff, or_true, true_or, false_or, or_false, if_true, if_false, gI_0, gI_1, gI_2, gI_3, gI_4, gI_5, gI_6, gI_7, gI_8, gI_9, gI_10, gI_11, gI_12, gI_13, gI_14, gI_15, gL_0, gL_1, gL_2, gL_3, gL_4, gL_5, gL_6, gL_7, gL_8, gL_9, gL_10, gL_11, gL_12, gL_13, gL_14, gL_15, gA_0, gA_1, gA_2, gA_3, gA_4, gA_5, gA_6, gA_7, gA_8, gA_9, gA_10, gA_11, gA_12, gA_13, gA_14, gA_15, p1_0, p1_1, p1_2, p1_3, p1_4, p1_5, p1_6, p1_7, p1_8, p1_9, p1_10, p1_11, p1_12, p1_13, p1_14, p1_15, p2_0, p2_1, p2_2, p2_3, p2_4, p2_5, p2_6, p2_7, p2_8, p2_9, p2_10, p2_11, p2_12, p2_13, p2_14, p2_15]
  exact loop (40 - f) f _ (by omega)
set_option maxHeartbeats 1000000 in
theorem m_greatestOf {d : Nat} {Q : PQ} {h : HP} {x : Int64} : Ev (d + 2) 99 [.long x] h Q = Q (some (.int (oN (grt x)))) h := by
  have loop : ∀ (n : Nat), n ≤ 40 → WP (d + 1) 99 Q (3, [.val (.long x), .second, .val (.int (nI n + (-1)))], [], h, 0, 0) = Q (some (.int (oN (grA x n)))) h := by
    intro n
    induction n with
    | zero =>
      intro hi
      rw [s99_3]
      simp only [s99_0, s99_2, s99_4, s99_7, s99_8, s99_9, s99_12, s99_15, s99_16, s99_17, s99_20, s99_23, s99_25, oB_some, cl2_i, cl2_r, cl2_l, cl2_u, cl2_s, wd_0, wd_i, wd_r, wd_l, wd_f, ct_i, ct_r, ct_n, ct_f, rf_s, rf_n, tl_s, tl_n, true_and, and_true, eq_self, and_self, Nat.reduceAdd, Nat.reduceLeDiff, Nat.zero_le, Nat.reduceEqDiff, or_true, true_or, false_or, or_false, if_true, if_false, gI_0, gI_1, gI_2, gI_3, gI_4, gI_5, gI_6, gI_7, gI_8, gI_9, gI_10, gI_11, gI_12, gI_13, gI_14, gI_15, gL_0, gL_1, gL_2, gL_3, gL_4, gL_5, gL_6, gL_7, gL_8, gL_9, gL_10, gL_11, gL_12, gL_13, gL_14, gL_15, gA_0, gA_1, gA_2, gA_3, gA_4, gA_5, gA_6, gA_7, gA_8, gA_9, gA_10, gA_11, gA_12, gA_13, gA_14, gA_15, p1_0, p1_1, p1_2, p1_3, p1_4, p1_5, p1_6, p1_7, p1_8, p1_9, p1_10, p1_11, p1_12, p1_13, p1_14, p1_15, p2_0, p2_1, p2_2, p2_3, p2_4, p2_5, p2_6, p2_7, p2_8, p2_9, p2_10, p2_11, p2_12, p2_13, p2_14, p2_15]
      rw [if_pos (by decide)]
      rfl
    | succ n ih =>
      intro hi
      rw [s99_3, pk_m1]
      simp only [s99_0, s99_2, s99_4, s99_7, s99_8, s99_9, s99_12, s99_15, s99_16, s99_17, s99_20, s99_23, s99_25, oB_some, cl2_i, cl2_r, cl2_l, cl2_u, cl2_s, wd_0, wd_i, wd_r, wd_l, wd_f, ct_i, ct_r, ct_n, ct_f, rf_s, rf_n, tl_s, tl_n, true_and, and_true, eq_self, and_self, Nat.reduceAdd, Nat.reduceLeDiff, Nat.zero_le, Nat.reduceEqDiff, or_true, true_or, false_or, or_false, if_true, if_false, gI_0, gI_1, gI_2, gI_3, gI_4, gI_5, gI_6, gI_7, gI_8, gI_9, gI_10, gI_11, gI_12, gI_13, gI_14, gI_15, gL_0, gL_1, gL_2, gL_3, gL_4, gL_5, gL_6, gL_7, gL_8, gL_9, gL_10, gL_11, gL_12, gL_13, gL_14, gL_15, gA_0, gA_1, gA_2, gA_3, gA_4, gA_5, gA_6, gA_7, gA_8, gA_9, gA_10, gA_11, gA_12, gA_13, gA_14, gA_15, p1_0, p1_1, p1_2, p1_3, p1_4, p1_5, p1_6, p1_7, p1_8, p1_9, p1_10, p1_11, p1_12, p1_13, p1_14, p1_15, p2_0, p2_1, p2_2, p2_3, p2_4, p2_5, p2_6, p2_7, p2_8, p2_9, p2_10, p2_11, p2_12, p2_13, p2_14, p2_15, m_has (show n < 64 by omega)]
      rw [if_neg (nI_pos (by omega))]
      unfold grA
      by_cases hx : hb x n = true
      · simp [hx, b01, oN]
      · have := ih (by omega)
        simpa [hx, b01] using this
  simp only [e99, s99_0, s99_2, s99_4, s99_7, s99_8, s99_9, s99_12, s99_15, s99_16, s99_17, s99_20, s99_23, s99_25, oB_some, cl2_i, cl2_r, cl2_l, cl2_u, cl2_s, wd_0, wd_i, wd_r, wd_l, wd_f, ct_i, ct_r, ct_n, ct_f, rf_s, rf_n, tl_s, tl_n, true_and, and_true, eq_self, and_self, Nat.reduceAdd, Nat.reduceLeDiff, Nat.zero_le, Nat.reduceEqDiff, or_true, true_or, false_or, or_false, if_true, if_false, gI_0, gI_1, gI_2, gI_3, gI_4, gI_5, gI_6, gI_7, gI_8, gI_9, gI_10, gI_11, gI_12, gI_13, gI_14, gI_15, gL_0, gL_1, gL_2, gL_3, gL_4, gL_5, gL_6, gL_7, gL_8, gL_9, gL_10, gL_11, gL_12, gL_13, gL_14, gL_15, gA_0, gA_1, gA_2, gA_3, gA_4, gA_5, gA_6, gA_7, gA_8, gA_9, gA_10, gA_11, gA_12, gA_13, gA_14, gA_15, p1_0, p1_1, p1_2, p1_3, p1_4, p1_5, p1_6, p1_7, p1_8, p1_9, p1_10, p1_11, p1_12, p1_13, p1_14, p1_15, p2_0, p2_1, p2_2, p2_3, p2_4, p2_5, p2_6, p2_7, p2_8, p2_9, p2_10, p2_11, p2_12, p2_13, p2_14, p2_15]
  exact loop 40 (by decide)
