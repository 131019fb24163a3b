-- needs: 16.num
def b01 (b : Bool) : Int32 := if b = true then 1 else 0
theorem b01_t : b01 true = 1 := rfl
theorem b01_f : b01 false = 0 := rfl
theorem b01_ok (b : Bool) : b01 b = 0 ∨ b01 b = 1 := by cases b <;> simp [b01]
theorem b01_0 (b : Bool) : b01 b = 0 ↔ b = false := by cases b <;> simp [b01]
theorem b01_d (p : Prop) [Decidable p] (A : Int32 → Prop) : (if p then A 1 else A 0) = A (b01 (decide p)) := by
  by_cases h : p <;> simp [h, b01]
theorem b01_n (p : Prop) [Decidable p] (A : Int32 → Prop) : (if p then A 0 else A 1) = A (b01 (decide (¬ p))) := by
  by_cases h : p <;> simp [h, b01]
theorem q_c2 {x : Int64} {k : Nat} (h : k < 64) : lg_cmp (x &&& bL k) 0 = 0 ↔ hb x k = false := by rw [lgc_0, and_bL h]
theorem v_only {d : Nat} {Q : PQ} {h : HP} {k : Nat} (hk : k < 64) : Ev (d + 1) 35 [.int (nI k)] h Q = Q (some (.long (bL k))) h := by
  simp only [e35, s35_0, s35_1, s35_2, s35_3, oB_some, cl2_i, cl2_r, cl2_l, cl2_u, cl2_s, wd_0, wd_i, wd_r, wd_l, wd_f, ct_i, ct_r, ct_n, ct_f, rf_s, rf_n, tl_s, tl_n, true_and, and_true, eq_self, and_self, Nat.reduceAdd, Nat.reduceLeDiff, Nat.zero_le, Nat.reduceEqDiff, or_true, true_or, false_or, or_false, if_true, if_false, gI_0, gI_1, gI_2, gI_3, gI_4, gI_5, gI_6, gI_7, gI_8, gI_9, gI_10, gI_11, gI_12, gI_13, gI_14, gI_15, gL_0, gL_1, gL_2, gL_3, gL_4, gL_5, gL_6, gL_7, gL_8, gL_9, gL_10, gL_11, gL_12, gL_13, gL_14, gL_15, gA_0, gA_1, gA_2, gA_3, gA_4, gA_5, gA_6, gA_7, gA_8, gA_9, gA_10, gA_11, gA_12, gA_13, gA_14, gA_15, p1_0, p1_1, p1_2, p1_3, p1_4, p1_5, p1_6, p1_7, p1_8, p1_9, p1_10, p1_11, p1_12, p1_13, p1_14, p1_15, p2_0, p2_1, p2_2, p2_3, p2_4, p2_5, p2_6, p2_7, p2_8, p2_9, p2_10, p2_11, p2_12, p2_13, p2_14, p2_15]
  rw [shl_bL k hk]
set_option maxHeartbeats 1000000 in
theorem v_isAmong {d : Nat} {Q : PQ} {h : HP} {x : Int64} {k : Nat} (hk : k < 64) : Ev (d + 2) 113 [.long x, .int (nI k)] h Q = Q (some (.int (b01 (hb x k)))) h := by
  simp only [e113, s113_0, s113_1, s113_2, s113_5, s113_6, s113_7, s113_8, s113_11, s113_12, s113_15, s113_16, oB_some, cl2_i, cl2_r, cl2_l, cl2_u, cl2_s, wd_0, wd_i, wd_r, wd_l, wd_f, ct_i, ct_r, ct_n, ct_f, rf_s, rf_n, tl_s, tl_n, true_and, and_true, eq_self, and_self, Nat.reduceAdd, Nat.reduceLeDiff, Nat.zero_le, Nat.reduceEqDiff, or_true, true_or, false_or, or_false, if_true, if_false, gI_0, gI_1, gI_2, gI_3, gI_4, gI_5, gI_6, gI_7, gI_8, gI_9, gI_10, gI_11, gI_12, gI_13, gI_14, gI_15, gL_0, gL_1, gL_2, gL_3, gL_4, gL_5, gL_6, gL_7, gL_8, gL_9, gL_10, gL_11, gL_12, gL_13, gL_14, gL_15, gA_0, gA_1, gA_2, gA_3, gA_4, gA_5, gA_6, gA_7, gA_8, gA_9, gA_10, gA_11, gA_12, gA_13, gA_14, gA_15, p1_0, p1_1, p1_2, p1_3, p1_4, p1_5, p1_6, p1_7, p1_8, p1_9, p1_10, p1_11, p1_12, p1_13, p1_14, p1_15, p2_0, p2_1, p2_2, p2_3, p2_4, p2_5, p2_6, p2_7, p2_8, p2_9, p2_10, p2_11, p2_12, p2_13, p2_14, p2_15, v_only hk]
  by_cases hx : hb x k = true
  · rw [if_neg (fun q => by rw [q_c2 hk, hx] at q; cases q)]
    simp [hx, b01]
  · have hf : hb x k = false := by simpa using hx
    rw [if_pos ((q_c2 hk).mpr hf)]
    simp [hf, b01]
set_option maxHeartbeats 1000000 in
theorem v_leastFrom {d : Nat} {Q : PQ} {h : HP} {x : Int64} {f : Nat} (hf : f ≤ 40) : Ev (d + 1) 118 [.long x, .int (nI f)] h Q = Q (some (.int (oN (lst x f)))) h := by
  have loop : ∀ (n i : Nat) (y : Slot), i + n = 40 → WP d 118 Q (2, [.val (.long x), .second, y, .val (.int (nI i))], [], h, 0, 0) = Q (some (.int (oN (lsA x n i)))) h := by
    intro n
    induction n with
    | zero =>
      intro i y hi
      obtain rfl : i = 40 := by omega
      rw [s118_2]
      simp only [s118_0, s118_1, s118_3, s118_5, s118_8, s118_9, s118_10, s118_11, s118_12, s118_13, s118_14, s118_15, s118_18, s118_19, s118_20, s118_23, s118_26, s118_28, oB_some, cl2_i, cl2_r, cl2_l, cl2_u, cl2_s, wd_0, wd_i, wd_r, wd_l, wd_f, ct_i, ct_r, ct_n, ct_f, rf_s, rf_n, tl_s, tl_n, true_and, and_true, eq_self, and_self, Nat.reduceAdd, Nat.reduceLeDiff, Nat.zero_le, Nat.reduceEqDiff, or_true, true_or, false_or, or_false, if_true, if_false, gI_0, gI_1, gI_2, gI_3, gI_4, gI_5, gI_6, gI_7, gI_8, gI_9, gI_10, gI_11, gI_12, gI_13, gI_14, gI_15, gL_0, gL_1, gL_2, gL_3, gL_4, gL_5, gL_6, gL_7, gL_8, gL_9, gL_10, gL_11, gL_12, gL_13, gL_14, gL_15, gA_0, gA_1, gA_2, gA_3, gA_4, gA_5, gA_6, gA_7, gA_8, gA_9, gA_10, gA_11, gA_12, gA_13, gA_14, gA_15, p1_0, p1_1, p1_2, p1_3, p1_4, p1_5, p1_6, p1_7, p1_8, p1_9, p1_10, p1_11, p1_12, p1_13, p1_14, p1_15, p2_0, p2_1, p2_2, p2_3, p2_4, p2_5, p2_6, p2_7, p2_8, p2_9, p2_10, p2_11, p2_12, p2_13, p2_14, p2_15]
      rw [if_pos (by decide)]
      rfl
    | succ n ih =>
      intro i y hi
      rw [s118_2]
      simp only [s118_0, s118_1, s118_3, s118_5, s118_8, s118_9, s118_10, s118_11, s118_12, s118_13, s118_14, s118_15, s118_18, s118_19, s118_20, s118_23, s118_26, s118_28, oB_some, cl2_i, cl2_r, cl2_l, cl2_u, cl2_s, wd_0, wd_i, wd_r, wd_l, wd_f, ct_i, ct_r, ct_n, ct_f, rf_s, rf_n, tl_s, tl_n, true_and, and_true, eq_self, and_self, Nat.reduceAdd, Nat.reduceLeDiff, Nat.zero_le, Nat.reduceEqDiff, or_true, true_or, false_or, or_false, if_true, if_false, gI_0, gI_1, gI_2, gI_3, gI_4, gI_5, gI_6, gI_7, gI_8, gI_9, gI_10, gI_11, gI_12, gI_13, gI_14, gI_15, gL_0, gL_1, gL_2, gL_3, gL_4, gL_5, gL_6, gL_7, gL_8, gL_9, gL_10, gL_11, gL_12, gL_13, gL_14, gL_15, gA_0, gA_1, gA_2, gA_3, gA_4, gA_5, gA_6, gA_7, gA_8, gA_9, gA_10, gA_11, gA_12, gA_13, gA_14, gA_15, p1_0, p1_1, p1_2, p1_3, p1_4, p1_5, p1_6, p1_7, p1_8, p1_9, p1_10, p1_11, p1_12, p1_13, p1_14, p1_15, p2_0, p2_1, p2_2, p2_3, p2_4, p2_5, p2_6, p2_7, p2_8, p2_9, p2_10, p2_11, p2_12, p2_13, p2_14, p2_15]
      rw [if_neg (show ¬ (40 : Int32) ≤ nI i from nI_ge (show i < 40 by omega) (by decide))]
      unfold lsA
      by_cases hx : hb x i = true
      · rw [if_neg (fun q => by rw [q_class (by omega), hx] at q; cases q), if_pos hx]
        rfl
      · have hxf : hb x i = false := by simpa using hx
        rw [if_pos ((q_class (by omega)).mpr hxf), if_neg hx, nI_1]
        exact ih (i + 1) (cl2 y) (by omega)
  simp only [e118, s118_0, s118_1, s118_3, s118_5, s118_8, s118_9, s118_10, s118_11, s118_12, s118_13, s118_14, s118_15, s118_18, s118_19, s118_20, s118_23, s118_26, s118_28, oB_some, cl2_i, cl2_r, cl2_l, cl2_u, cl2_s, wd_0, wd_i, wd_r, wd_l, wd_f, ct_i, ct_r, ct_n, ct_f, rf_s, rf_n, tl_s, tl_n, true_and, and_true, eq_self, and_self, Nat.reduceAdd, Nat.reduceLeDiff, Nat.zero_le, Nat.reduceEqDiff, or_true, true_or, false_or, or_false, if_true, if_false, gI_0, gI_1, gI_2, gI_3, gI_4, gI_5, gI_6, gI_7, gI_8, gI_9, gI_10, gI_11, gI_12, gI_13, gI_14, gI_15, gL_0, gL_1, gL_2, gL_3, gL_4, gL_5, gL_6, gL_7, gL_8, gL_9, gL_10, gL_11, gL_12, gL_13, gL_14, gL_15, gA_0, gA_1, gA_2, gA_3, gA_4, gA_5, gA_6, gA_7, gA_8, gA_9, gA_10, gA_11, gA_12, gA_13, gA_14, gA_15, p1_0, p1_1, p1_2, p1_3, p1_4, p1_5, p1_6, p1_7, p1_8, p1_9, p1_10, p1_11, p1_12, p1_13, p1_14, p1_15, p2_0, p2_1, p2_2, p2_3, p2_4, p2_5, p2_6, p2_7, p2_8, p2_9, p2_10, p2_11, p2_12, p2_13, p2_14, p2_15]
  exact loop (40 - f) f _ (by omega)
set_option maxHeartbeats 1000000 in
theorem v_greatest {d : Nat} {Q : PQ} {h : HP} {x : Int64} : Ev (d + 1) 56 [.long x] h Q = Q (some (.int (oN (grt x)))) h := by
  have loop : ∀ (n : Nat), n ≤ 40 → WP d 56 Q (3, [.val (.long x), .second, .val (.int (nI n + (-1)))], [], h, 0, 0) = Q (some (.int (oN (grA x n)))) h := by
    intro n
    induction n with
    | zero =>
      intro hi
      rw [s56_3]
      simp only [s56_0, s56_2, s56_4, s56_7, s56_8, s56_9, s56_10, s56_11, s56_12, s56_13, s56_14, s56_17, s56_18, s56_19, s56_22, s56_25, s56_27, oB_some, cl2_i, cl2_r, cl2_l, cl2_u, cl2_s, wd_0, wd_i, wd_r, wd_l, wd_f, ct_i, ct_r, ct_n, ct_f, rf_s, rf_n, tl_s, tl_n, true_and, and_true, eq_self, and_self, Nat.reduceAdd, Nat.reduceLeDiff, Nat.zero_le, Nat.reduceEqDiff, or_true, true_or, false_or, or_false, if_true, if_false, gI_0, gI_1, gI_2, gI_3, gI_4, gI_5, gI_6, gI_7, gI_8, gI_9, gI_10, gI_11, gI_12, gI_13, gI_14, gI_15, gL_0, gL_1, gL_2, gL_3, gL_4, gL_5, gL_6, gL_7, gL_8, gL_9, gL_10, gL_11, gL_12, gL_13, gL_14, gL_15, gA_0, gA_1, gA_2, gA_3, gA_4, gA_5, gA_6, gA_7, gA_8, gA_9, gA_10, gA_11, gA_12, gA_13, gA_14, gA_15, p1_0, p1_1, p1_2, p1_3, p1_4, p1_5, p1_6, p1_7, p1_8, p1_9, p1_10, p1_11, p1_12, p1_13, p1_14, p1_15, p2_0, p2_1, p2_2, p2_3, p2_4, p2_5, p2_6, p2_7, p2_8, p2_9, p2_10, p2_11, p2_12, p2_13, p2_14, p2_15]
      rw [if_pos (by decide)]
      rfl
    | succ n ih =>
      intro hi
      rw [s56_3, pk_m1]
      simp only [s56_0, s56_2, s56_4, s56_7, s56_8, s56_9, s56_10, s56_11, s56_12, s56_13, s56_14, s56_17, s56_18, s56_19, s56_22, s56_25, s56_27, oB_some, cl2_i, cl2_r, cl2_l, cl2_u, cl2_s, wd_0, wd_i, wd_r, wd_l, wd_f, ct_i, ct_r, ct_n, ct_f, rf_s, rf_n, tl_s, tl_n, true_and, and_true, eq_self, and_self, Nat.reduceAdd, Nat.reduceLeDiff, Nat.zero_le, Nat.reduceEqDiff, or_true, true_or, false_or, or_false, if_true, if_false, gI_0, gI_1, gI_2, gI_3, gI_4, gI_5, gI_6, gI_7, gI_8, gI_9, gI_10, gI_11, gI_12, gI_13, gI_14, gI_15, gL_0, gL_1, gL_2, gL_3, gL_4, gL_5, gL_6, gL_7, gL_8, gL_9, gL_10, gL_11, gL_12, gL_13, gL_14, gL_15, gA_0, gA_1, gA_2, gA_3, gA_4, gA_5, gA_6, gA_7, gA_8, gA_9, gA_10, gA_11, gA_12, gA_13, gA_14, gA_15, p1_0, p1_1, p1_2, p1_3, p1_4, p1_5, p1_6, p1_7, p1_8, p1_9, p1_10, p1_11, p1_12, p1_13, p1_14, p1_15, p2_0, p2_1, p2_2, p2_3, p2_4, p2_5, p2_6, p2_7, p2_8, p2_9, p2_10, p2_11, p2_12, p2_13, p2_14, p2_15]
      rw [if_neg (nI_pos (by omega))]
      unfold grA
      by_cases hx : hb x n = true
      · rw [if_neg (fun q => by rw [q_class (by omega), hx] at q; cases q), if_pos hx]
        rfl
      · have hxf : hb x n = false := by simpa using hx
        rw [if_pos ((q_class (by omega)).mpr hxf), if_neg hx]
        exact ih (by omega)
  simp only [e56, s56_0, s56_2, s56_4, s56_7, s56_8, s56_9, s56_10, s56_11, s56_12, s56_13, s56_14, s56_17, s56_18, s56_19, s56_22, s56_25, s56_27, oB_some, cl2_i, cl2_r, cl2_l, cl2_u, cl2_s, wd_0, wd_i, wd_r, wd_l, wd_f, ct_i, ct_r, ct_n, ct_f, rf_s, rf_n, tl_s, tl_n, true_and, and_true, eq_self, and_self, Nat.reduceAdd, Nat.reduceLeDiff, Nat.zero_le, Nat.reduceEqDiff, or_true, true_or, false_or, or_false, if_true, if_false, gI_0, gI_1, gI_2, gI_3, gI_4, gI_5, gI_6, gI_7, gI_8, gI_9, gI_10, gI_11, gI_12, gI_13, gI_14, gI_15, gL_0, gL_1, gL_2, gL_3, gL_4, gL_5, gL_6, gL_7, gL_8, gL_9, gL_10, gL_11, gL_12, gL_13, gL_14, gL_15, gA_0, gA_1, gA_2, gA_3, gA_4, gA_5, gA_6, gA_7, gA_8, gA_9, gA_10, gA_11, gA_12, gA_13, gA_14, gA_15, p1_0, p1_1, p1_2, p1_3, p1_4, p1_5, p1_6, p1_7, p1_8, p1_9, p1_10, p1_11, p1_12, p1_13, p1_14, p1_15, p2_0, p2_1, p2_2, p2_3, p2_4, p2_5, p2_6, p2_7, p2_8, p2_9, p2_10, p2_11, p2_12, p2_13, p2_14, p2_15]
  exact loop 40 (by decide)
set_option maxHeartbeats 1000000 in
theorem m_has {d : Nat} {Q : PQ} {h : HP} {x : Int64} {k : Nat} (hk : k < 64) : Ev (d + 1) 92 [.long x, .int (nI k)] h Q = Q (some (.int (b01 (hb x k)))) h := by
  simp only [e92, s92_0, s92_1, s92_2, s92_3, s92_4, s92_5, s92_6, s92_7, s92_10, s92_11, s92_14, s92_15, oB_some, cl2_i, cl2_r, cl2_l, cl2_u, cl2_s, wd_0, wd_i, wd_r, wd_l, wd_f, ct_i, ct_r, ct_n, ct_f, rf_s, rf_n, tl_s, tl_n, true_and, and_true, eq_self, and_self, Nat.reduceAdd, Nat.reduceLeDiff, Nat.zero_le, Nat.reduceEqDiff, or_true, true_or, false_or, or_false, if_true, if_false, gI_0, gI_1, gI_2, gI_3, gI_4, gI_5, gI_6, gI_7, gI_8, gI_9, gI_10, gI_11, gI_12, gI_13, gI_14, gI_15, gL_0, gL_1, gL_2, gL_3, gL_4, gL_5, gL_6, gL_7, gL_8, gL_9, gL_10, gL_11, gL_12, gL_13, gL_14, gL_15, gA_0, gA_1, gA_2, gA_3, gA_4, gA_5, gA_6, gA_7, gA_8, gA_9, gA_10, gA_11, gA_12, gA_13, gA_14, gA_15, p1_0, p1_1, p1_2, p1_3, p1_4, p1_5, p1_6, p1_7, p1_8, p1_9, p1_10, p1_11, p1_12, p1_13, p1_14, p1_15, p2_0, p2_1, p2_2, p2_3, p2_4, p2_5, p2_6, p2_7, p2_8, p2_9, p2_10, p2_11, p2_12, p2_13, p2_14, p2_15]
  by_cases hx : hb x k = true
  · rw [if_neg (fun q => q ((q_model hk).mpr hx))]
    simp [hx, b01]
  · have hf : hb x k = false := by simpa using hx
    rw [if_pos (fun q => hx ((q_model hk).mp q))]
    simp [hf, b01]
theorem m_isIn {d : Nat} {Q : PQ} {h : HP} {v a b : Int32} : Ev (d + 1) 72 [.int v, .int a, .int b] h Q = Q (some (.int (b01 (decide (a ≤ v ∧ v ≤ b))))) h := by
  simp only [e72, s72_0, s72_1, s72_2, s72_5, s72_6, s72_7, s72_10, s72_11, s72_14, s72_15, oB_some, cl2_i, cl2_r, cl2_l, cl2_u, cl2_s, wd_0, wd_i, wd_r, wd_l, wd_f, ct_i, ct_r, ct_n, ct_f, rf_s, rf_n, tl_s, tl_n, true_and, and_true, eq_self, and_self, Nat.reduceAdd, Nat.reduceLeDiff, Nat.zero_le, Nat.reduceEqDiff, or_true, true_or, false_or, or_false, if_true, if_false, gI_0, gI_1, gI_2, gI_3, gI_4, gI_5, gI_6, gI_7, gI_8, gI_9, gI_10, gI_11, gI_12, gI_13, gI_14, gI_15, gL_0, gL_1, gL_2, gL_3, gL_4, gL_5, gL_6, gL_7, gL_8, gL_9, gL_10, gL_11, gL_12, gL_13, gL_14, gL_15, gA_0, gA_1, gA_2, gA_3, gA_4, gA_5, gA_6, gA_7, gA_8, gA_9, gA_10, gA_11, gA_12, gA_13, gA_14, gA_15, p1_0, p1_1, p1_2, p1_3, p1_4, p1_5, p1_6, p1_7, p1_8, p1_9, p1_10, p1_11, p1_12, p1_13, p1_14, p1_15, p2_0, p2_1, p2_2, p2_3, p2_4, p2_5, p2_6, p2_7, p2_8, p2_9, p2_10, p2_11, p2_12, p2_13, p2_14, p2_15]
  by_cases h1 : v < a
  · have : ¬ a ≤ v := Int32.not_le.mpr h1
    simp [h1, this, b01]
  · have h1' : a ≤ v := Int32.not_lt.mp h1
    by_cases h2 : b < v
    · have : ¬ v ≤ b := Int32.not_le.mpr h2
      simp [h1, h2, this, b01]
    · have h2' : v ≤ b := Int32.not_lt.mp h2
      simp [h1, h2, h1', h2', b01]
def bnd (v a b : Int32) : Int32 := if v < a then -4 else if b < v then -6 else 0
theorem m_bound {d : Nat} {Q : PQ} {h : HP} {v a b : Int32} : Ev (d + 1) 15 [.int v, .int a, .int b] h Q = Q (some (.int (bnd v a b))) h := by
  simp only [e15, s15_0, s15_1, s15_2, s15_5, s15_7, s15_10, s15_11, s15_12, s15_15, s15_17, s15_20, s15_21, oB_some, cl2_i, cl2_r, cl2_l, cl2_u, cl2_s, wd_0, wd_i, wd_r, wd_l, wd_f, ct_i, ct_r, ct_n, ct_f, rf_s, rf_n, tl_s, tl_n, true_and, and_true, eq_self, and_self, Nat.reduceAdd, Nat.reduceLeDiff, Nat.zero_le, Nat.reduceEqDiff, or_true, true_or, false_or, or_false, if_true, if_false, gI_0, gI_1, gI_2, gI_3, gI_4, gI_5, gI_6, gI_7, gI_8, gI_9, gI_10, gI_11, gI_12, gI_13, gI_14, gI_15, gL_0, gL_1, gL_2, gL_3, gL_4, gL_5, gL_6, gL_7, gL_8, gL_9, gL_10, gL_11, gL_12, gL_13, gL_14, gL_15, gA_0, gA_1, gA_2, gA_3, gA_4, gA_5, gA_6, gA_7, gA_8, gA_9, gA_10, gA_11, gA_12, gA_13, gA_14, gA_15, p1_0, p1_1, p1_2, p1_3, p1_4, p1_5, p1_6, p1_7, p1_8, p1_9, p1_10, p1_11, p1_12, p1_13, p1_14, p1_15, p2_0, p2_1, p2_2, p2_3, p2_4, p2_5, p2_6, p2_7, p2_8, p2_9, p2_10, p2_11, p2_12, p2_13, p2_14, p2_15]
  unfold bnd
  by_cases h1 : v < a
  · have : ¬ a ≤ v := Int32.not_le.mpr h1
    simp [h1, this]
  · have h1' : a ≤ v := Int32.not_lt.mp h1
    by_cases h2 : b < v
    · have : ¬ v ≤ b := Int32.not_le.mpr h2
      simp [h1, h1', h2, this]
    · have h2' : v ≤ b := Int32.not_lt.mp h2
      simp [h1, h1', h2, h2']
theorem m_held {d : Nat} {Q : PQ} {h : HP} {v b : Int32} : Ev (d + 1) 93 [.int v, .int b] h Q = Q (some (.int (if v ≤ b then v else b))) h := by
  simp only [e93, s93_0, s93_1, s93_2, s93_5, s93_6, s93_9, s93_10, oB_some, cl2_i, cl2_r, cl2_l, cl2_u, cl2_s, wd_0, wd_i, wd_r, wd_l, wd_f, ct_i, ct_r, ct_n, ct_f, rf_s, rf_n, tl_s, tl_n, true_and, and_true, eq_self, and_self, Nat.reduceAdd, Nat.reduceLeDiff, Nat.zero_le, Nat.reduceEqDiff, or_true, true_or, false_or, or_false, if_true, if_false, gI_0, gI_1, gI_2, gI_3, gI_4, gI_5, gI_6, gI_7, gI_8, gI_9, gI_10, gI_11, gI_12, gI_13, gI_14, gI_15, gL_0, gL_1, gL_2, gL_3, gL_4, gL_5, gL_6, gL_7, gL_8, gL_9, gL_10, gL_11, gL_12, gL_13, gL_14, gL_15, gA_0, gA_1, gA_2, gA_3, gA_4, gA_5, gA_6, gA_7, gA_8, gA_9, gA_10, gA_11, gA_12, gA_13, gA_14, gA_15, p1_0, p1_1, p1_2, p1_3, p1_4, p1_5, p1_6, p1_7, p1_8, p1_9, p1_10, p1_11, p1_12, p1_13, p1_14, p1_15, p2_0, p2_1, p2_2, p2_3, p2_4, p2_5, p2_6, p2_7, p2_8, p2_9, p2_10, p2_11, p2_12, p2_13, p2_14, p2_15]
  by_cases h1 : v ≤ b <;> simp [h1]
set_option maxHeartbeats 1000000 in
theorem m_bits {d : Nat} {Q : PQ} {h : HP} {x : Int64} : Ev (d + 2) 91 [.long x] h Q = Q (some (.int (nI (nb x)))) h := by
  have loop : ∀ (n i : Nat), i + n = 40 → WP (d + 1) 91 Q (4, [.val (.long x), .second, .val (.int (nI (nbU i x))), .val (.int (nI i))], [], h, 0, 0) = Q (some (.int (nI (nb x)))) h := by
    intro n
    induction n with
    | zero =>
      intro i hi
      obtain rfl : i = 40 := by omega
      rw [s91_4]
      simp only [s91_0, s91_1, s91_2, s91_3, s91_5, s91_7, s91_10, s91_11, s91_12, s91_13, s91_16, s91_19, s91_20, s91_23, s91_24, s91_25, s91_26, s91_29, s91_32, s91_33, oB_some, cl2_i, cl2_r, cl2_l, cl2_u, cl2_s, wd_0, wd_i, wd_r, wd_l, wd_f, ct_i, ct_r, ct_n, ct_f, rf_s, rf_n, tl_s, tl_n, true_and, and_true, eq_self, and_self, Nat.reduceAdd, Nat.reduceLeDiff, Nat.zero_le, Nat.reduceEqDiff, or_true, true_or, false_or, or_false, if_true, if_false, gI_0, gI_1, gI_2, gI_3, gI_4, gI_5, gI_6, gI_7, gI_8, gI_9, gI_10, gI_11, gI_12, gI_13, gI_14, gI_15, gL_0, gL_1, gL_2, gL_3, gL_4, gL_5, gL_6, gL_7, gL_8, gL_9, gL_10, gL_11, gL_12, gL_13, gL_14, gL_15, gA_0, gA_1, gA_2, gA_3, gA_4, gA_5, gA_6, gA_7, gA_8, gA_9, gA_10, gA_11, gA_12, gA_13, gA_14, gA_15, p1_0, p1_1, p1_2, p1_3, p1_4, p1_5, p1_6, p1_7, p1_8, p1_9, p1_10, p1_11, p1_12, p1_13, p1_14, p1_15, p2_0, p2_1, p2_2, p2_3, p2_4, p2_5, p2_6, p2_7, p2_8, p2_9, p2_10, p2_11, p2_12, p2_13, p2_14, p2_15]
      rw [if_pos (by decide)]
      rfl
    | succ n ih =>
      intro i hi
      rw [s91_4]
      simp only [s91_0, s91_1, s91_2, s91_3, s91_5, s91_7, s91_10, s91_11, s91_12, s91_13, s91_16, s91_19, s91_20, s91_23, s91_24, s91_25, s91_26, s91_29, s91_32, s91_33, oB_some, cl2_i, cl2_r, cl2_l, cl2_u, cl2_s, wd_0, wd_i, wd_r, wd_l, wd_f, ct_i, ct_r, ct_n, ct_f, rf_s, rf_n, tl_s, tl_n, true_and, and_true, eq_self, and_self, Nat.reduceAdd, Nat.reduceLeDiff, Nat.zero_le, Nat.reduceEqDiff, or_true, true_or, false_or, or_false, if_true, if_false, gI_0, gI_1, gI_2, gI_3, gI_4, gI_5, gI_6, gI_7, gI_8, gI_9, gI_10, gI_11, gI_12, gI_13, gI_14, gI_15, gL_0, gL_1, gL_2, gL_3, gL_4, gL_5, gL_6, gL_7, gL_8, gL_9, gL_10, gL_11, gL_12, gL_13, gL_14, gL_15, gA_0, gA_1, gA_2, gA_3, gA_4, gA_5, gA_6, gA_7, gA_8, gA_9, gA_10, gA_11, gA_12, gA_13, gA_14, gA_15, p1_0, p1_1, p1_2, p1_3, p1_4, p1_5, p1_6, p1_7, p1_8, p1_9, p1_10, p1_11, p1_12, p1_13, p1_14, p1_15, p2_0, p2_1, p2_2, p2_3, p2_4, p2_5, p2_6, p2_7, p2_8, p2_9, p2_10, p2_11, p2_12, p2_13, p2_14, p2_15, m_has (show i < 64 by omega)]
      rw [if_neg (show ¬ (40 : Int32) ≤ nI i from nI_ge (show i < 40 by omega) (by decide))]
      by_cases hx : hb x i = true
      · have e : nbU (i + 1) x = nbU i x + 1 := by rw [nbU_succ, if_pos hx]
        have := ih (i + 1) (by omega)
        rw [e, ← nI_1, ← nI_1] at this
        simpa [hx, b01] using this
      · have e : nbU (i + 1) x = nbU i x := by rw [nbU_succ, if_neg hx]; rfl
        have := ih (i + 1) (by omega)
        rw [e, ← nI_1] at this
        simpa [hx, b01] using this
  simp only [e91, s91_0, s91_1, s91_2, s91_3, s91_5, s91_7, s91_10, s91_11, s91_12, s91_13, s91_16, s91_19, s91_20, s91_23, s91_24, s91_25, s91_26, s91_29, s91_32, s91_33, oB_some, cl2_i, cl2_r, cl2_l, cl2_u, cl2_s, wd_0, wd_i, wd_r, wd_l, wd_f, ct_i, ct_r, ct_n, ct_f, rf_s, rf_n, tl_s, tl_n, true_and, and_true, eq_self, and_self, Nat.reduceAdd, Nat.reduceLeDiff, Nat.zero_le, Nat.reduceEqDiff, or_true, true_or, false_or, or_false, if_true, if_false, gI_0, gI_1, gI_2, gI_3, gI_4, gI_5, gI_6, gI_7, gI_8, gI_9, gI_10, gI_11, gI_12, gI_13, gI_14, gI_15, gL_0, gL_1, gL_2, gL_3, gL_4, gL_5, gL_6, gL_7, gL_8, gL_9, gL_10, gL_11, gL_12, gL_13, gL_14, gL_15, gA_0, gA_1, gA_2, gA_3, gA_4, gA_5, gA_6, gA_7, gA_8, gA_9, gA_10, gA_11, gA_12, gA_13, gA_14, gA_15, p1_0, p1_1, p1_2, p1_3, p1_4, p1_5, p1_6, p1_7, p1_8, p1_9, p1_10, p1_11, p1_12, p1_13, p1_14, p1_15, p2_0, p2_1, p2_2, p2_3, p2_4, p2_5, p2_6, p2_7, p2_8, p2_9, p2_10, p2_11, p2_12, p2_13, p2_14, p2_15]
  exact loop 40 0 (by decide)
set_option maxHeartbeats 1000000 in
theorem m_leastOf {d : Nat} {Q : PQ} {h : HP} {x : Int64} {f : Nat} (hf : f ≤ 40) : Ev (d + 2) 95 [.long x, .int (nI f)] h Q = Q (some (.int (oN (lst x f)))) h := by
  have loop : ∀ (n i : Nat) (y : Slot), i + n = 40 → WP (d + 1) 95 Q (2, [.val (.long x), .second, y, .val (.int (nI i))], [], h, 0, 0) = Q (some (.int (oN (lsA x n i)))) h := by
    intro n
    induction n with
    | zero =>
      intro i y hi
      obtain rfl : i = 40 := by omega
      rw [s95_2]
      simp only [s95_0, s95_1, s95_3, s95_5, s95_8, s95_9, s95_10, s95_13, s95_16, s95_17, s95_18, s95_21, s95_24, s95_26, oB_some, cl2_i, cl2_r, cl2_l, cl2_u, cl2_s, wd_0, wd_i, wd_r, wd_l, wd_f, ct_i, ct_r, ct_n, ct_f, rf_s, rf_n, tl_s, tl_n, true_and, and_true, eq_self, and_self, Nat.reduceAdd, Nat.reduceLeDiff, Nat.zero_le, Nat.reduceEqDiff, or_true, true_or, false_or, or_false, if_true, if_false, gI_0, gI_1, gI_2, gI_3, gI_4, gI_5, gI_6, gI_7, gI_8, gI_9, gI_10, gI_11, gI_12, gI_13, gI_14, gI_15, gL_0, gL_1, gL_2, gL_3, gL_4, gL_5, gL_6, gL_7, gL_8, gL_9, gL_10, gL_11, gL_12, gL_13, gL_14, gL_15, gA_0, gA_1, gA_2, gA_3, gA_4, gA_5, gA_6, gA_7, gA_8, gA_9, gA_10, gA_11, gA_12, gA_13, gA_14, gA_15, p1_0, p1_1, p1_2, p1_3, p1_4, p1_5, p1_6, p1_7, p1_8, p1_9, p1_10, p1_11, p1_12, p1_13, p1_14, p1_15, p2_0, p2_1, p2_2, p2_3, p2_4, p2_5, p2_6, p2_7, p2_8, p2_9, p2_10, p2_11, p2_12, p2_13, p2_14, p2_15]
      rw [if_pos (by decide)]
      rfl
    | succ n ih =>
      intro i y hi
      rw [s95_2]
      simp only [s95_0, s95_1, s95_3, s95_5, s95_8, s95_9, s95_10, s95_13, s95_16, s95_17, s95_18, s95_21, s95_24, s95_26, oB_some, cl2_i, cl2_r, cl2_l, cl2_u, cl2_s, wd_0, wd_i, wd_r, wd_l, wd_f, ct_i, ct_r, ct_n, ct_f, rf_s, rf_n, tl_s, tl_n, true_and, and_true, eq_self, and_self, Nat.reduceAdd, Nat.reduceLeDiff, Nat.zero_le, Nat.reduceEqDiff, or_true, true_or, false_or, or_false, if_true, if_false, gI_0, gI_1, gI_2, gI_3, gI_4, gI_5, gI_6, gI_7, gI_8, gI_9, gI_10, gI_11, gI_12, gI_13, gI_14, gI_15, gL_0, gL_1, gL_2, gL_3, gL_4, gL_5, gL_6, gL_7, gL_8, gL_9, gL_10, gL_11, gL_12, gL_13, gL_14, gL_15, gA_0, gA_1, gA_2, gA_3, gA_4, gA_5, gA_6, gA_7, gA_8, gA_9, gA_10, gA_11, gA_12, gA_13, gA_14, gA_15, p1_0, p1_1, p1_2, p1_3, p1_4, p1_5, p1_6, p1_7, p1_8, p1_9, p1_10, p1_11, p1_12, p1_13, p1_14, p1_15, p2_0, p2_1, p2_2, p2_3, p2_4, p2_5, p2_6, p2_7, p2_8, p2_9, p2_10, p2_11, p2_12, p2_13, p2_14, p2_15, m_has (show i < 64 by omega)]
      rw [if_neg (show ¬ (40 : Int32) ≤ nI i from nI_ge (show i < 40 by omega) (by decide))]
      unfold lsA
      by_cases hx : hb x i = true
      · simp [hx, b01, oN]
      · have := ih (i + 1) (cl2 y) (by omega)
        rw [← nI_1] at this
        simpa [hx, b01] using this
  simp only [e95, s95_0, s95_1, s95_3, s95_5, s95_8, s95_9, s95_10, s95_13, s95_16, s95_17, s95_18, s95_21, s95_24, s95_26, oB_some, cl2_i, cl2_r, cl2_l, cl2_u, cl2_s, wd_0, wd_i, wd_r, wd_l, wd_f, ct_i, ct_r, ct_n, ct_f, rf_s, rf_n, tl_s, tl_n, true_and, and_true, eq_self, and_self, Nat.reduceAdd, Nat.reduceLeDiff, Nat.zero_le, Nat.reduceEqDiff, or_true, true_or, false_or, or_false, if_true, if_false, gI_0, gI_1, gI_2, gI_3, gI_4, gI_5, gI_6, gI_7, gI_8, gI_9, gI_10, gI_11, gI_12, gI_13, gI_14, gI_15, gL_0, gL_1, gL_2, gL_3, gL_4, gL_5, gL_6, gL_7, gL_8, gL_9, gL_10, gL_11, gL_12, gL_13, gL_14, gL_15, gA_0, gA_1, gA_2, gA_3, gA_4, gA_5, gA_6, gA_7, gA_8, gA_9, gA_10, gA_11, gA_12, gA_13, gA_14, gA_15, p1_0, p1_1, p1_2, p1_3, p1_4, p1_5, p1_6, p1_7, p1_8, p1_9, p1_10, p1_11, p1_12, p1_13, p1_14, p1_15, p2_0, p2_1, p2_2, p2_3, p2_4, p2_5, p2_6, p2_7, p2_8, p2_9, p2_10, p2_11, p2_12, p2_13, p2_14, p2_15]
  exact loop (40 - f) f _ (by omega)
set_option maxHeartbeats 1000000 in
theorem m_greatestOf {d : Nat} {Q : PQ} {h : HP} {x : Int64} : Ev (d + 2) 102 [.long x] h Q = Q (some (.int (oN (grt x)))) h := by
  have loop : ∀ (n : Nat), n ≤ 40 → WP (d + 1) 102 Q (3, [.val (.long x), .second, .val (.int (nI n + (-1)))], [], h, 0, 0) = Q (some (.int (oN (grA x n)))) h := by
    intro n
    induction n with
    | zero =>
      intro hi
      rw [s102_3]
      simp only [s102_0, s102_2, s102_4, s102_7, s102_8, s102_9, s102_12, s102_15, s102_16, s102_17, s102_20, s102_23, s102_25, oB_some, cl2_i, cl2_r, cl2_l, cl2_u, cl2_s, wd_0, wd_i, wd_r, wd_l, wd_f, ct_i, ct_r, ct_n, ct_f, rf_s, rf_n, tl_s, tl_n, true_and, and_true, eq_self, and_self, Nat.reduceAdd, Nat.reduceLeDiff, Nat.zero_le, Nat.reduceEqDiff, or_true, true_or, false_or, or_false, if_true, if_false, gI_0, gI_1, gI_2, gI_3, gI_4, gI_5, gI_6, gI_7, gI_8, gI_9, gI_10, gI_11, gI_12, gI_13, gI_14, gI_15, gL_0, gL_1, gL_2, gL_3, gL_4, gL_5, gL_6, gL_7, gL_8, gL_9, gL_10, gL_11, gL_12, gL_13, gL_14, gL_15, gA_0, gA_1, gA_2, gA_3, gA_4, gA_5, gA_6, gA_7, gA_8, gA_9, gA_10, gA_11, gA_12, gA_13, gA_14, gA_15, p1_0, p1_1, p1_2, p1_3, p1_4, p1_5, p1_6, p1_7, p1_8, p1_9, p1_10, p1_11, p1_12, p1_13, p1_14, p1_15, p2_0, p2_1, p2_2, p2_3, p2_4, p2_5, p2_6, p2_7, p2_8, p2_9, p2_10, p2_11, p2_12, p2_13, p2_14, p2_15]
      rw [if_pos (by decide)]
      rfl
    | succ n ih =>
      intro hi
      rw [s102_3, pk_m1]
      simp only [s102_0, s102_2, s102_4, s102_7, s102_8, s102_9, s102_12, s102_15, s102_16, s102_17, s102_20, s102_23, s102_25, oB_some, cl2_i, cl2_r, cl2_l, cl2_u, cl2_s, wd_0, wd_i, wd_r, wd_l, wd_f, ct_i, ct_r, ct_n, ct_f, rf_s, rf_n, tl_s, tl_n, true_and, and_true, eq_self, and_self, Nat.reduceAdd, Nat.reduceLeDiff, Nat.zero_le, Nat.reduceEqDiff, or_true, true_or, false_or, or_false, if_true, if_false, gI_0, gI_1, gI_2, gI_3, gI_4, gI_5, gI_6, gI_7, gI_8, gI_9, gI_10, gI_11, gI_12, gI_13, gI_14, gI_15, gL_0, gL_1, gL_2, gL_3, gL_4, gL_5, gL_6, gL_7, gL_8, gL_9, gL_10, gL_11, gL_12, gL_13, gL_14, gL_15, gA_0, gA_1, gA_2, gA_3, gA_4, gA_5, gA_6, gA_7, gA_8, gA_9, gA_10, gA_11, gA_12, gA_13, gA_14, gA_15, p1_0, p1_1, p1_2, p1_3, p1_4, p1_5, p1_6, p1_7, p1_8, p1_9, p1_10, p1_11, p1_12, p1_13, p1_14, p1_15, p2_0, p2_1, p2_2, p2_3, p2_4, p2_5, p2_6, p2_7, p2_8, p2_9, p2_10, p2_11, p2_12, p2_13, p2_14, p2_15, m_has (show n < 64 by omega)]
      rw [if_neg (nI_pos (by omega))]
      unfold grA
      by_cases hx : hb x n = true
      · simp [hx, b01, oN]
      · have := ih (by omega)
        simpa [hx, b01] using this
  simp only [e102, s102_0, s102_2, s102_4, s102_7, s102_8, s102_9, s102_12, s102_15, s102_16, s102_17, s102_20, s102_23, s102_25, oB_some, cl2_i, cl2_r, cl2_l, cl2_u, cl2_s, wd_0, wd_i, wd_r, wd_l, wd_f, ct_i, ct_r, ct_n, ct_f, rf_s, rf_n, tl_s, tl_n, true_and, and_true, eq_self, and_self, Nat.reduceAdd, Nat.reduceLeDiff, Nat.zero_le, Nat.reduceEqDiff, or_true, true_or, false_or, or_false, if_true, if_false, gI_0, gI_1, gI_2, gI_3, gI_4, gI_5, gI_6, gI_7, gI_8, gI_9, gI_10, gI_11, gI_12, gI_13, gI_14, gI_15, gL_0, gL_1, gL_2, gL_3, gL_4, gL_5, gL_6, gL_7, gL_8, gL_9, gL_10, gL_11, gL_12, gL_13, gL_14, gL_15, gA_0, gA_1, gA_2, gA_3, gA_4, gA_5, gA_6, gA_7, gA_8, gA_9, gA_10, gA_11, gA_12, gA_13, gA_14, gA_15, p1_0, p1_1, p1_2, p1_3, p1_4, p1_5, p1_6, p1_7, p1_8, p1_9, p1_10, p1_11, p1_12, p1_13, p1_14, p1_15, p2_0, p2_1, p2_2, p2_3, p2_4, p2_5, p2_6, p2_7, p2_8, p2_9, p2_10, p2_11, p2_12, p2_13, p2_14, p2_15]
  exact loop 40 (by decide)
