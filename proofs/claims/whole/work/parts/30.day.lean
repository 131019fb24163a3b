theorem v_hasPersonI {d : Nat} {Q : PQ} {h : HP} {v : Nat} {p : Int32} {S : VS} (q : RV h v S) : Ev (d + 1) 33 [.ref v, .int p] h Q = Q (some (.int (b01 (decide (0 ≤ p ∧ p < nI (vn S)))))) h := by
  have k := q.k
  unfold VK at k
  simp only [e33, s33_0, s33_1, s33_4, s33_5, s33_6, s33_9, s33_12, s33_13, s33_16, s33_17, oB_some, cl2_i, cl2_r, cl2_l, cl2_u, cl2_s, wd_0, wd_i, wd_r, wd_l, wd_f, ct_i, ct_r, ct_n, ct_f, rf_s, rf_n, tl_s, tl_n, true_and, and_true, eq_self, and_self, Nat.reduceAdd, Nat.reduceLeDiff, Nat.zero_le, Nat.reduceEqDiff, or_true, true_or, false_or, or_false, if_true, if_false, gI_0, gI_1, gI_2, gI_3, gI_4, gI_5, gI_6, gI_7, gI_8, gI_9, gI_10, gI_11, gI_12, gI_13, gI_14, gI_15, gL_0, gL_1, gL_2, gL_3, gL_4, gL_5, gL_6, gL_7, gL_8, gL_9, gL_10, gL_11, gL_12, gL_13, gL_14, gL_15, gA_0, gA_1, gA_2, gA_3, gA_4, gA_5, gA_6, gA_7, gA_8, gA_9, gA_10, gA_11, gA_12, gA_13, gA_14, gA_15, p1_0, p1_1, p1_2, p1_3, p1_4, p1_5, p1_6, p1_7, p1_8, p1_9, p1_10, p1_11, p1_12, p1_13, p1_14, p1_15, p2_0, p2_1, p2_2, p2_3, p2_4, p2_5, p2_6, p2_7, p2_8, p2_9, p2_10, p2_11, p2_12, p2_13, p2_14, p2_15, b01_ok, b_ft, b_tf, b01_e0, b01_e1, lgc_0, not_true_eq_false, not_false_eq_true, k, q.n]
  by_cases h0 : p < 0
  · rw [if_pos h0, decide_eq_false (fun c => Int32.not_le.mpr h0 c.1)]
    rfl
  · rw [if_neg h0]
    have h0' : 0 ≤ p := Int32.not_lt.mp h0
    by_cases h1 : nI (vn S) ≤ p
    · rw [if_pos h1, decide_eq_false (fun c => Int32.not_lt.mpr h1 c.2)]
      rfl
    · rw [if_neg h1, decide_eq_true ⟨h0', Int32.not_le.mp h1⟩]
      rfl
theorem v_hasPerson {d : Nat} {Q : PQ} {h : HP} {v p : Nat} {S : VS} (q : RV h v S) (g : Good S) (hp : p < 2 ^ 31) : Ev (d + 1) 33 [.ref v, .int (nI p)] h Q = Q (some (.int (b01 (decide (p < vn S))))) h := by
  have gn := g.n
  have e : decide (0 ≤ nI p ∧ nI p < nI (vn S)) = decide (p < vn S) := decide_eq_decide.mpr ⟨fun z => (nI_ltI hp (by omega)).mp z.2, fun z => ⟨nI_pos' hp, (nI_ltI hp (by omega)).mpr z⟩⟩
  rw [v_hasPersonI q, e]
theorem nz_one : ¬ (1 : Int32) = 0 := by decide
theorem v_hasRowFor {d : Nat} {Q : PQ} {h : HP} {p : Nat} (hp : p < 6) : Ev (d + 1) 37 [.int (nI p)] h Q = Q (some (.int 1)) h := by
  have p31 : p < 2 ^ 31 := by omega
  have z : ¬ nI p < 0 := nI_pos p31
  have z2 : ¬ (6 : Int32) ≤ nI p := nI_ge (b := 6) hp (by decide)
  simp only [e37, s37_0, s37_1, s37_4, s37_5, s37_7, s37_10, s37_11, s37_14, s37_15, oB_some, cl2_i, cl2_r, cl2_l, cl2_u, cl2_s, wd_0, wd_i, wd_r, wd_l, wd_f, ct_i, ct_r, ct_n, ct_f, rf_s, rf_n, tl_s, tl_n, true_and, and_true, eq_self, and_self, Nat.reduceAdd, Nat.reduceLeDiff, Nat.zero_le, Nat.reduceEqDiff, or_true, true_or, false_or, or_false, if_true, if_false, gI_0, gI_1, gI_2, gI_3, gI_4, gI_5, gI_6, gI_7, gI_8, gI_9, gI_10, gI_11, gI_12, gI_13, gI_14, gI_15, gL_0, gL_1, gL_2, gL_3, gL_4, gL_5, gL_6, gL_7, gL_8, gL_9, gL_10, gL_11, gL_12, gL_13, gL_14, gL_15, gA_0, gA_1, gA_2, gA_3, gA_4, gA_5, gA_6, gA_7, gA_8, gA_9, gA_10, gA_11, gA_12, gA_13, gA_14, gA_15, p1_0, p1_1, p1_2, p1_3, p1_4, p1_5, p1_6, p1_7, p1_8, p1_9, p1_10, p1_11, p1_12, p1_13, p1_14, p1_15, p2_0, p2_1, p2_2, p2_3, p2_4, p2_5, p2_6, p2_7, p2_8, p2_9, p2_10, p2_11, p2_12, p2_13, p2_14, p2_15, b01_ok, b_ft, b_tf, b01_e0, b01_e1, lgc_0, not_true_eq_false, not_false_eq_true, z, z2]
set_option maxHeartbeats 4000000 in
theorem v_hasOther {d : Nat} {Q : PQ} {h : HP} {v p : Nat} {S : VS} (q : RV h v S) (g : Good S) (hp : p < vn S) : Ev (d + 2) 51 [.ref v, .int (nI p)] h Q = Q (some (.int (b01 (decide (vr S p < vn S) && !decide (vr S p = p))))) h := by
  have k := q.k
  unfold VK at k
  have gn := g.n
  have gr := (g.at hp).2.2.1
  have p6 : p < 6 := by omega
  have p31 : p < 2 ^ 31 := by omega
  simp only [e51, s51_0, s51_1, s51_2, s51_5, s51_6, s51_7, s51_10, s51_13, s51_14, s51_17, s51_18, s51_19, s51_20, s51_23, s51_24, s51_27, s51_28, oB_some, cl2_i, cl2_r, cl2_l, cl2_u, cl2_s, wd_0, wd_i, wd_r, wd_l, wd_f, ct_i, ct_r, ct_n, ct_f, rf_s, rf_n, tl_s, tl_n, true_and, and_true, eq_self, and_self, Nat.reduceAdd, Nat.reduceLeDiff, Nat.zero_le, Nat.reduceEqDiff, or_true, true_or, false_or, or_false, if_true, if_false, gI_0, gI_1, gI_2, gI_3, gI_4, gI_5, gI_6, gI_7, gI_8, gI_9, gI_10, gI_11, gI_12, gI_13, gI_14, gI_15, gL_0, gL_1, gL_2, gL_3, gL_4, gL_5, gL_6, gL_7, gL_8, gL_9, gL_10, gL_11, gL_12, gL_13, gL_14, gL_15, gA_0, gA_1, gA_2, gA_3, gA_4, gA_5, gA_6, gA_7, gA_8, gA_9, gA_10, gA_11, gA_12, gA_13, gA_14, gA_15, p1_0, p1_1, p1_2, p1_3, p1_4, p1_5, p1_6, p1_7, p1_8, p1_9, p1_10, p1_11, p1_12, p1_13, p1_14, p1_15, p2_0, p2_1, p2_2, p2_3, p2_4, p2_5, p2_6, p2_7, p2_8, p2_9, p2_10, p2_11, p2_12, p2_13, p2_14, p2_15, b01_ok, b_ft, b_tf, b01_e0, b01_e1, lgc_0, not_true_eq_false, not_false_eq_true, k, (q.at hp).2.2.1, ix_nI p31, nI_pos' p31, p6, v_hasPerson q g (show vr S p < 2 ^ 31 by omega), eqP (show vr S p < 2 ^ 31 by omega) p31]
  by_cases h1 : vr S p < vn S
  · rw [if_neg (by rw [decide_eq_true h1]; decide), decide_eq_true h1]
    by_cases h2 : vr S p = p
    · rw [if_pos h2, decide_eq_true h2]
      rfl
    · rw [if_neg h2, decide_eq_false h2]
      rfl
  · rw [if_pos (decide_eq_false h1), decide_eq_false h1]
    rfl
theorem v_knownBy {d : Nat} {Q : PQ} {h : HP} {v p : Nat} {S : VS} (q : RV h v S) (g : Good S) (hp : p < vn S) : Ev (d + 2) 44 [.ref v, .int (nI p)] h Q = Q (some (.long (vw S p))) h := by
  have k := q.k
  unfold VK at k
  have gn := g.n
  have p6 : p < 6 := by omega
  have p31 : p < 2 ^ 31 := by omega
  simp only [e44, s44_0, s44_1, s44_2, s44_5, s44_6, s44_9, s44_10, s44_11, s44_14, s44_17, s44_18, s44_21, s44_22, s44_23, s44_26, s44_27, oB_some, cl2_i, cl2_r, cl2_l, cl2_u, cl2_s, wd_0, wd_i, wd_r, wd_l, wd_f, ct_i, ct_r, ct_n, ct_f, rf_s, rf_n, tl_s, tl_n, true_and, and_true, eq_self, and_self, Nat.reduceAdd, Nat.reduceLeDiff, Nat.zero_le, Nat.reduceEqDiff, or_true, true_or, false_or, or_false, if_true, if_false, gI_0, gI_1, gI_2, gI_3, gI_4, gI_5, gI_6, gI_7, gI_8, gI_9, gI_10, gI_11, gI_12, gI_13, gI_14, gI_15, gL_0, gL_1, gL_2, gL_3, gL_4, gL_5, gL_6, gL_7, gL_8, gL_9, gL_10, gL_11, gL_12, gL_13, gL_14, gL_15, gA_0, gA_1, gA_2, gA_3, gA_4, gA_5, gA_6, gA_7, gA_8, gA_9, gA_10, gA_11, gA_12, gA_13, gA_14, gA_15, p1_0, p1_1, p1_2, p1_3, p1_4, p1_5, p1_6, p1_7, p1_8, p1_9, p1_10, p1_11, p1_12, p1_13, p1_14, p1_15, p2_0, p2_1, p2_2, p2_3, p2_4, p2_5, p2_6, p2_7, p2_8, p2_9, p2_10, p2_11, p2_12, p2_13, p2_14, p2_15, k, nm1 p31, v_hasRowFor p6, nz_one, (q.at hp).2.2.2.1, ix_nI p31, nI_pos' p31, p6, not_false_eq_true]
theorem v_knownByS {d : Nat} {Q : PQ} {h : HP} {v : Nat} {S : VS} (q : RV h v S) : Ev (d + 1) 44 [.ref v, .int (-1)] h Q = Q (some (.long (vs S))) h := by
  have k := q.k
  unfold VK at k
  simp only [e44, s44_0, s44_1, s44_2, s44_5, s44_6, s44_9, s44_10, s44_11, s44_14, s44_17, s44_18, s44_21, s44_22, s44_23, s44_26, s44_27, oB_some, cl2_i, cl2_r, cl2_l, cl2_u, cl2_s, wd_0, wd_i, wd_r, wd_l, wd_f, ct_i, ct_r, ct_n, ct_f, rf_s, rf_n, tl_s, tl_n, true_and, and_true, eq_self, and_self, Nat.reduceAdd, Nat.reduceLeDiff, Nat.zero_le, Nat.reduceEqDiff, or_true, true_or, false_or, or_false, if_true, if_false, gI_0, gI_1, gI_2, gI_3, gI_4, gI_5, gI_6, gI_7, gI_8, gI_9, gI_10, gI_11, gI_12, gI_13, gI_14, gI_15, gL_0, gL_1, gL_2, gL_3, gL_4, gL_5, gL_6, gL_7, gL_8, gL_9, gL_10, gL_11, gL_12, gL_13, gL_14, gL_15, gA_0, gA_1, gA_2, gA_3, gA_4, gA_5, gA_6, gA_7, gA_8, gA_9, gA_10, gA_11, gA_12, gA_13, gA_14, gA_15, p1_0, p1_1, p1_2, p1_3, p1_4, p1_5, p1_6, p1_7, p1_8, p1_9, p1_10, p1_11, p1_12, p1_13, p1_14, p1_15, p2_0, p2_1, p2_2, p2_3, p2_4, p2_5, p2_6, p2_7, p2_8, p2_9, p2_10, p2_11, p2_12, p2_13, p2_14, p2_15, k, q.s, not_true_eq_false]
theorem v_hasLearnt {d : Nat} {Q : PQ} {h : HP} {v p c : Nat} {S : VS} (q : RV h v S) (g : Good S) (hp : p < vn S) (hc : c < 64) : Ev (d + 3) 112 [.ref v, .int (nI p), .int (nI c)] h Q = Q (some (.int (b01 (hb (vw S p) c)))) h := by
  have k := q.k
  unfold VK at k
  simp only [e112, s112_0, s112_1, s112_2, s112_5, s112_6, s112_9, oB_some, cl2_i, cl2_r, cl2_l, cl2_u, cl2_s, wd_0, wd_i, wd_r, wd_l, wd_f, ct_i, ct_r, ct_n, ct_f, rf_s, rf_n, tl_s, tl_n, true_and, and_true, eq_self, and_self, Nat.reduceAdd, Nat.reduceLeDiff, Nat.zero_le, Nat.reduceEqDiff, or_true, true_or, false_or, or_false, if_true, if_false, gI_0, gI_1, gI_2, gI_3, gI_4, gI_5, gI_6, gI_7, gI_8, gI_9, gI_10, gI_11, gI_12, gI_13, gI_14, gI_15, gL_0, gL_1, gL_2, gL_3, gL_4, gL_5, gL_6, gL_7, gL_8, gL_9, gL_10, gL_11, gL_12, gL_13, gL_14, gL_15, gA_0, gA_1, gA_2, gA_3, gA_4, gA_5, gA_6, gA_7, gA_8, gA_9, gA_10, gA_11, gA_12, gA_13, gA_14, gA_15, p1_0, p1_1, p1_2, p1_3, p1_4, p1_5, p1_6, p1_7, p1_8, p1_9, p1_10, p1_11, p1_12, p1_13, p1_14, p1_15, p2_0, p2_1, p2_2, p2_3, p2_4, p2_5, p2_6, p2_7, p2_8, p2_9, p2_10, p2_11, p2_12, p2_13, p2_14, p2_15, b01_ok, b_ft, b_tf, b01_e0, b01_e1, lgc_0, not_true_eq_false, not_false_eq_true, k, v_knownBy q g hp, v_isAmong hc]
theorem v_hasLearntS {d : Nat} {Q : PQ} {h : HP} {v c : Nat} {S : VS} (q : RV h v S) (hc : c < 64) : Ev (d + 3) 112 [.ref v, .int (-1), .int (nI c)] h Q = Q (some (.int (b01 (hb (vs S) c)))) h := by
  have k := q.k
  unfold VK at k
  simp only [e112, s112_0, s112_1, s112_2, s112_5, s112_6, s112_9, oB_some, cl2_i, cl2_r, cl2_l, cl2_u, cl2_s, wd_0, wd_i, wd_r, wd_l, wd_f, ct_i, ct_r, ct_n, ct_f, rf_s, rf_n, tl_s, tl_n, true_and, and_true, eq_self, and_self, Nat.reduceAdd, Nat.reduceLeDiff, Nat.zero_le, Nat.reduceEqDiff, or_true, true_or, false_or, or_false, if_true, if_false, gI_0, gI_1, gI_2, gI_3, gI_4, gI_5, gI_6, gI_7, gI_8, gI_9, gI_10, gI_11, gI_12, gI_13, gI_14, gI_15, gL_0, gL_1, gL_2, gL_3, gL_4, gL_5, gL_6, gL_7, gL_8, gL_9, gL_10, gL_11, gL_12, gL_13, gL_14, gL_15, gA_0, gA_1, gA_2, gA_3, gA_4, gA_5, gA_6, gA_7, gA_8, gA_9, gA_10, gA_11, gA_12, gA_13, gA_14, gA_15, p1_0, p1_1, p1_2, p1_3, p1_4, p1_5, p1_6, p1_7, p1_8, p1_9, p1_10, p1_11, p1_12, p1_13, p1_14, p1_15, p2_0, p2_1, p2_2, p2_3, p2_4, p2_5, p2_6, p2_7, p2_8, p2_9, p2_10, p2_11, p2_12, p2_13, p2_14, p2_15, b01_ok, b_ft, b_tf, b01_e0, b01_e1, lgc_0, not_true_eq_false, not_false_eq_true, k, v_knownByS q, v_isAmong hc]
theorem v_learnN {d : Nat} {Q : PQ} {h : HP} {v p : Nat} {x : Int64} {S : VS} (q : RV h v S) (hp : p < vn S) (p6 : p < 6) : Ev (d + 2) 36 [.ref v, .int (nI p), .long x] h Q = Q none (sL h (v + 4) p (vw S p ||| x)) := by
  have k := q.k
  unfold VK at k
  have p31 : p < 2 ^ 31 := by omega
  simp only [e36, s36_0, s36_1, s36_2, s36_5, s36_6, s36_7, s36_10, s36_11, s36_12, s36_15, s36_18, s36_19, s36_22, s36_25, s36_26, s36_29, s36_30, s36_31, s36_32, s36_33, s36_34, s36_35, oB_some, cl2_i, cl2_r, cl2_l, cl2_u, cl2_s, wd_0, wd_i, wd_r, wd_l, wd_f, ct_i, ct_r, ct_n, ct_f, rf_s, rf_n, tl_s, tl_n, true_and, and_true, eq_self, and_self, Nat.reduceAdd, Nat.reduceLeDiff, Nat.zero_le, Nat.reduceEqDiff, or_true, true_or, false_or, or_false, if_true, if_false, gI_0, gI_1, gI_2, gI_3, gI_4, gI_5, gI_6, gI_7, gI_8, gI_9, gI_10, gI_11, gI_12, gI_13, gI_14, gI_15, gL_0, gL_1, gL_2, gL_3, gL_4, gL_5, gL_6, gL_7, gL_8, gL_9, gL_10, gL_11, gL_12, gL_13, gL_14, gL_15, gA_0, gA_1, gA_2, gA_3, gA_4, gA_5, gA_6, gA_7, gA_8, gA_9, gA_10, gA_11, gA_12, gA_13, gA_14, gA_15, p1_0, p1_1, p1_2, p1_3, p1_4, p1_5, p1_6, p1_7, p1_8, p1_9, p1_10, p1_11, p1_12, p1_13, p1_14, p1_15, p2_0, p2_1, p2_2, p2_3, p2_4, p2_5, p2_6, p2_7, p2_8, p2_9, p2_10, p2_11, p2_12, p2_13, p2_14, p2_15, z_hkd_sI, z_hln_sI, z_hL_sI, z_hR_sI, z_hnx_sI, z_hkd_sL, z_hln_sL, z_hI_sL, z_hR_sL, z_hnx_sL, z_hkd_sR, z_hln_sR, z_hI_sR, z_hL_sR, z_hnx_sR, z_hkd_cI, z_hln_cI, z_hL_cI, z_hR_cI, z_hnx_cI, z_hkd_cLg, z_hln_cLg, z_hI_cLg, z_hR_cLg, z_hnx_cLg, k, nm1 p31, v_hasRowFor p6, nz_one, (q.at hp).2.2.2.1, ix_nI p31, nI_pos' p31, p6, not_false_eq_true]
theorem v_learn {d : Nat} {Q : PQ} {h : HP} {v p : Nat} {x : Int64} {S : VS} (q : RV h v S) (g : Good S) (hp : p < vn S) : Ev (d + 2) 36 [.ref v, .int (nI p), .long x] h Q = Q none (sL h (v + 4) p (vw S p ||| x)) :=
  v_learnN q hp (Nat.lt_of_lt_of_le hp g.n)
theorem v_learnS {d : Nat} {Q : PQ} {h : HP} {v : Nat} {x : Int64} {S : VS} (q : RV h v S) : Ev (d + 1) 36 [.ref v, .int (-1), .long x] h Q = Q none (sL h v 7 (vs S ||| x)) := by
  have k := q.k
  unfold VK at k
  simp only [e36, s36_0, s36_1, s36_2, s36_5, s36_6, s36_7, s36_10, s36_11, s36_12, s36_15, s36_18, s36_19, s36_22, s36_25, s36_26, s36_29, s36_30, s36_31, s36_32, s36_33, s36_34, s36_35, oB_some, cl2_i, cl2_r, cl2_l, cl2_u, cl2_s, wd_0, wd_i, wd_r, wd_l, wd_f, ct_i, ct_r, ct_n, ct_f, rf_s, rf_n, tl_s, tl_n, true_and, and_true, eq_self, and_self, Nat.reduceAdd, Nat.reduceLeDiff, Nat.zero_le, Nat.reduceEqDiff, or_true, true_or, false_or, or_false, if_true, if_false, gI_0, gI_1, gI_2, gI_3, gI_4, gI_5, gI_6, gI_7, gI_8, gI_9, gI_10, gI_11, gI_12, gI_13, gI_14, gI_15, gL_0, gL_1, gL_2, gL_3, gL_4, gL_5, gL_6, gL_7, gL_8, gL_9, gL_10, gL_11, gL_12, gL_13, gL_14, gL_15, gA_0, gA_1, gA_2, gA_3, gA_4, gA_5, gA_6, gA_7, gA_8, gA_9, gA_10, gA_11, gA_12, gA_13, gA_14, gA_15, p1_0, p1_1, p1_2, p1_3, p1_4, p1_5, p1_6, p1_7, p1_8, p1_9, p1_10, p1_11, p1_12, p1_13, p1_14, p1_15, p2_0, p2_1, p2_2, p2_3, p2_4, p2_5, p2_6, p2_7, p2_8, p2_9, p2_10, p2_11, p2_12, p2_13, p2_14, p2_15, z_hkd_sI, z_hln_sI, z_hL_sI, z_hR_sI, z_hnx_sI, z_hkd_sL, z_hln_sL, z_hI_sL, z_hR_sL, z_hnx_sL, z_hkd_sR, z_hln_sR, z_hI_sR, z_hL_sR, z_hnx_sR, z_hkd_cI, z_hln_cI, z_hL_cI, z_hR_cI, z_hnx_cI, z_hkd_cLg, z_hln_cLg, z_hI_cLg, z_hR_cLg, z_hnx_cLg, k, q.s, not_true_eq_false]
theorem and_not_0 {w o : Int64} : w &&& o = w ↔ w &&& (o ^^^ -1) = 0 := by
  constructor
  · intro e
    apply hb_ext
    intro j hj
    have := congrArg (hb · j) e
    simp only [hb_and] at this
    rw [hb_and, hb_xor, hb_m1 hj, hb_0]
    revert this
    cases hb w j <;> cases hb o j <;> simp
  · intro e
    apply hb_ext
    intro j hj
    have := congrArg (hb · j) e
    simp only [hb_and, hb_xor, hb_m1 hj, hb_0] at this
    rw [hb_and]
    revert this
    cases hb w j <;> cases hb o j <;> simp
theorem and_not_and {w o : Int64} : w &&& ((w &&& o) ^^^ -1) = w &&& (o ^^^ -1) := by
  apply hb_ext
  intro j hj
  simp only [hb_and, hb_xor, hb_m1 hj]
  cases hb w j <;> cases hb o j <;> simp
set_option maxHeartbeats 4000000 in
theorem v_afterRubbing {d : Nat} {Q : PQ} {h : HP} {v t : Nat} {w : Int64} {S : VS} (q : RV h v S) (g : Good S) : Ev (d + 2) 45 [.ref v, .long w, .long (vw S t)] h Q = Q (some (.long (if w &&& (vo S ^^^ -1) = 0 then putIn S t else w &&& (vo S ^^^ -1)))) (sI h v 11 (nI (min 9999 (vt S + nb (w &&& vo S))))) := by
  have k := q.k
  unfold VK at k
  have gn := g.n
  have gt := g.t
  have hs : sm (w &&& vo S) := sm_andl g.o
  have hn := nb_le (w &&& vo S)
  have hm : (if nI (vt S + nb (w &&& vo S)) < 9999 then nI (vt S + nb (w &&& vo S)) else 9999) = nI (min 9999 (vt S + nb (w &&& vo S))) := minN (b := 9999) (by omega) (by omega)
  have hl : sm (vs S &&& (vo S ^^^ -1) &&& (vw S t ^^^ -1)) := sm_and (sm_and g.s)
  simp only [e45, s45_0, s45_1, s45_2, s45_5, s45_6, s45_8, s45_9, s45_12, s45_13, s45_16, s45_18, s45_21, s45_22, s45_25, s45_28, s45_30, s45_31, s45_32, s45_35, s45_36, s45_38, s45_41, s45_42, s45_43, s45_44, s45_45, s45_48, s45_49, s45_52, s45_55, s45_56, s45_57, s45_58, s45_61, s45_62, s45_63, s45_65, s45_67, s45_69, s45_70, s45_71, oB_some, cl2_i, cl2_r, cl2_l, cl2_u, cl2_s, wd_0, wd_i, wd_r, wd_l, wd_f, ct_i, ct_r, ct_n, ct_f, rf_s, rf_n, tl_s, tl_n, true_and, and_true, eq_self, and_self, Nat.reduceAdd, Nat.reduceLeDiff, Nat.zero_le, Nat.reduceEqDiff, or_true, true_or, false_or, or_false, if_true, if_false, gI_0, gI_1, gI_2, gI_3, gI_4, gI_5, gI_6, gI_7, gI_8, gI_9, gI_10, gI_11, gI_12, gI_13, gI_14, gI_15, gL_0, gL_1, gL_2, gL_3, gL_4, gL_5, gL_6, gL_7, gL_8, gL_9, gL_10, gL_11, gL_12, gL_13, gL_14, gL_15, gA_0, gA_1, gA_2, gA_3, gA_4, gA_5, gA_6, gA_7, gA_8, gA_9, gA_10, gA_11, gA_12, gA_13, gA_14, gA_15, p1_0, p1_1, p1_2, p1_3, p1_4, p1_5, p1_6, p1_7, p1_8, p1_9, p1_10, p1_11, p1_12, p1_13, p1_14, p1_15, p2_0, p2_1, p2_2, p2_3, p2_4, p2_5, p2_6, p2_7, p2_8, p2_9, p2_10, p2_11, p2_12, p2_13, p2_14, p2_15, z_hkd_sI, z_hln_sI, z_hL_sI, z_hR_sI, z_hnx_sI, z_hkd_sL, z_hln_sL, z_hI_sL, z_hR_sL, z_hnx_sL, z_hkd_sR, z_hln_sR, z_hI_sR, z_hL_sR, z_hnx_sR, z_hkd_cI, z_hln_cI, z_hL_cI, z_hR_cI, z_hnx_cI, z_hkd_cLg, z_hln_cLg, z_hI_cLg, z_hR_cLg, z_hnx_cLg, k, q.o, q.t, q.s, v_bitCount hs, nI_add, hm, low_of _ hl]
  rw [and_not_and]
  by_cases hz : w &&& (vo S ^^^ -1) = 0
  · rw [if_pos hz, if_pos ((lgc_0 _ _).mpr (and_not_0.mpr hz))]
    rfl
  · rw [if_neg hz, if_neg (fun e => hz (and_not_0.mp ((lgc_0 _ _).mp e)))]
