set_option maxHeartbeats 4000000 in
theorem v_hasOther {d : Nat} {Q : PQ} {h : HP} {v p : Nat} {S : VS} (q : RV h v S) (g : Good S) (hp : p < vn S) : Ev (d + 1) 48 [.ref v, .int (nI p)] h Q = Q (some (.int (b01 (decide (vr S p < vn S) && !decide (vr S p = p))))) h := by
  have k := q.k
  unfold VK at k
  have gn := g.n
  have gr := (g.at hp).2.2.1
  have p6 : p < 6 := by omega
  have p31 : p < 2 ^ 31 := by omega
  simp only [e48, s48_0, s48_1, s48_4, s48_5, s48_6, s48_7, s48_10, s48_13, s48_14, s48_17, s48_18, s48_19, s48_20, s48_23, s48_24, s48_27, s48_28, oB_some, cl2_i, cl2_r, cl2_l, cl2_u, cl2_s, wd_0, wd_i, wd_r, wd_l, wd_f, ct_i, ct_r, ct_n, ct_f, rf_s, rf_n, tl_s, tl_n, true_and, and_true, eq_self, and_self, Nat.reduceAdd, Nat.reduceLeDiff, Nat.zero_le, Nat.reduceEqDiff, or_true, true_or, false_or, or_false, if_true, if_false, gI_0, gI_1, gI_2, gI_3, gI_4, gI_5, gI_6, gI_7, gI_8, gI_9, gI_10, gI_11, gI_12, gI_13, gI_14, gI_15, gL_0, gL_1, gL_2, gL_3, gL_4, gL_5, gL_6, gL_7, gL_8, gL_9, gL_10, gL_11, gL_12, gL_13, gL_14, gL_15, gA_0, gA_1, gA_2, gA_3, gA_4, gA_5, gA_6, gA_7, gA_8, gA_9, gA_10, gA_11, gA_12, gA_13, gA_14, gA_15, p1_0, p1_1, p1_2, p1_3, p1_4, p1_5, p1_6, p1_7, p1_8, p1_9, p1_10, p1_11, p1_12, p1_13, p1_14, p1_15, p2_0, p2_1, p2_2, p2_3, p2_4, p2_5, p2_6, p2_7, p2_8, p2_9, p2_10, p2_11, p2_12, p2_13, p2_14, p2_15, k, q.n, (q.at hp).2.2.1, ix_nI p31, nI_pos' p31, p6, leP (show vn S < 2 ^ 31 by omega) (show vr S p < 2 ^ 31 by omega), eqP (show vr S p < 2 ^ 31 by omega) p31]
  by_cases h1 : vr S p < vn S
  · rw [if_neg (by omega)]
    by_cases h2 : vr S p = p
    · simp [h2, b01]
    · simp [h1, h2, b01]
  · rw [if_pos (by omega)]
    simp [h1, b01]
theorem v_knownBy {d : Nat} {Q : PQ} {h : HP} {v p : Nat} {S : VS} (q : RV h v S) (g : Good S) (hp : p < vn S) : Ev (d + 1) 110 [.ref v, .int (nI p)] h Q = Q (some (.long (vw S p))) h := by
  have k := q.k
  unfold VK at k
  have gn := g.n
  have p6 : p < 6 := by omega
  have p31 : p < 2 ^ 31 := by omega
  simp only [e110, s110_0, s110_1, s110_2, s110_5, s110_6, s110_9, s110_12, s110_13, s110_16, s110_17, s110_18, oB_some, cl2_i, cl2_r, cl2_l, cl2_u, cl2_s, wd_0, wd_i, wd_r, wd_l, wd_f, ct_i, ct_r, ct_n, ct_f, rf_s, rf_n, tl_s, tl_n, true_and, and_true, eq_self, and_self, Nat.reduceAdd, Nat.reduceLeDiff, Nat.zero_le, Nat.reduceEqDiff, or_true, true_or, false_or, or_false, if_true, if_false, gI_0, gI_1, gI_2, gI_3, gI_4, gI_5, gI_6, gI_7, gI_8, gI_9, gI_10, gI_11, gI_12, gI_13, gI_14, gI_15, gL_0, gL_1, gL_2, gL_3, gL_4, gL_5, gL_6, gL_7, gL_8, gL_9, gL_10, gL_11, gL_12, gL_13, gL_14, gL_15, gA_0, gA_1, gA_2, gA_3, gA_4, gA_5, gA_6, gA_7, gA_8, gA_9, gA_10, gA_11, gA_12, gA_13, gA_14, gA_15, p1_0, p1_1, p1_2, p1_3, p1_4, p1_5, p1_6, p1_7, p1_8, p1_9, p1_10, p1_11, p1_12, p1_13, p1_14, p1_15, p2_0, p2_1, p2_2, p2_3, p2_4, p2_5, p2_6, p2_7, p2_8, p2_9, p2_10, p2_11, p2_12, p2_13, p2_14, p2_15, k, nm1 p31, (q.at hp).2.2.2.1, ix_nI p31, nI_pos' p31, p6, not_false_eq_true]
theorem v_knownByS {d : Nat} {Q : PQ} {h : HP} {v : Nat} {S : VS} (q : RV h v S) : Ev (d + 1) 110 [.ref v, .int (-1)] h Q = Q (some (.long (vs S))) h := by
  have k := q.k
  unfold VK at k
  simp only [e110, s110_0, s110_1, s110_2, s110_5, s110_6, s110_9, s110_12, s110_13, s110_16, s110_17, s110_18, oB_some, cl2_i, cl2_r, cl2_l, cl2_u, cl2_s, wd_0, wd_i, wd_r, wd_l, wd_f, ct_i, ct_r, ct_n, ct_f, rf_s, rf_n, tl_s, tl_n, true_and, and_true, eq_self, and_self, Nat.reduceAdd, Nat.reduceLeDiff, Nat.zero_le, Nat.reduceEqDiff, or_true, true_or, false_or, or_false, if_true, if_false, gI_0, gI_1, gI_2, gI_3, gI_4, gI_5, gI_6, gI_7, gI_8, gI_9, gI_10, gI_11, gI_12, gI_13, gI_14, gI_15, gL_0, gL_1, gL_2, gL_3, gL_4, gL_5, gL_6, gL_7, gL_8, gL_9, gL_10, gL_11, gL_12, gL_13, gL_14, gL_15, gA_0, gA_1, gA_2, gA_3, gA_4, gA_5, gA_6, gA_7, gA_8, gA_9, gA_10, gA_11, gA_12, gA_13, gA_14, gA_15, p1_0, p1_1, p1_2, p1_3, p1_4, p1_5, p1_6, p1_7, p1_8, p1_9, p1_10, p1_11, p1_12, p1_13, p1_14, p1_15, p2_0, p2_1, p2_2, p2_3, p2_4, p2_5, p2_6, p2_7, p2_8, p2_9, p2_10, p2_11, p2_12, p2_13, p2_14, p2_15, k, q.s, not_true_eq_false]
theorem v_hasLearnt {d : Nat} {Q : PQ} {h : HP} {v p c : Nat} {S : VS} (q : RV h v S) (g : Good S) (hp : p < vn S) (hc : c < 64) : Ev (d + 3) 109 [.ref v, .int (nI p), .int (nI c)] h Q = Q (some (.int (b01 (hb (vw S p) c)))) h := by
  have k := q.k
  unfold VK at k
  simp only [e109, s109_0, s109_1, s109_2, s109_5, s109_6, s109_9, oB_some, cl2_i, cl2_r, cl2_l, cl2_u, cl2_s, wd_0, wd_i, wd_r, wd_l, wd_f, ct_i, ct_r, ct_n, ct_f, rf_s, rf_n, tl_s, tl_n, true_and, and_true, eq_self, and_self, Nat.reduceAdd, Nat.reduceLeDiff, Nat.zero_le, Nat.reduceEqDiff, or_true, true_or, false_or, or_false, if_true, if_false, gI_0, gI_1, gI_2, gI_3, gI_4, gI_5, gI_6, gI_7, gI_8, gI_9, gI_10, gI_11, gI_12, gI_13, gI_14, gI_15, gL_0, gL_1, gL_2, gL_3, gL_4, gL_5, gL_6, gL_7, gL_8, gL_9, gL_10, gL_11, gL_12, gL_13, gL_14, gL_15, gA_0, gA_1, gA_2, gA_3, gA_4, gA_5, gA_6, gA_7, gA_8, gA_9, gA_10, gA_11, gA_12, gA_13, gA_14, gA_15, p1_0, p1_1, p1_2, p1_3, p1_4, p1_5, p1_6, p1_7, p1_8, p1_9, p1_10, p1_11, p1_12, p1_13, p1_14, p1_15, p2_0, p2_1, p2_2, p2_3, p2_4, p2_5, p2_6, p2_7, p2_8, p2_9, p2_10, p2_11, p2_12, p2_13, p2_14, p2_15, b01_ok, b_ft, b_tf, b01_e0, b01_e1, lgc_0, not_true_eq_false, not_false_eq_true, k, v_knownBy q g hp, v_isAmong hc]
theorem v_hasLearntS {d : Nat} {Q : PQ} {h : HP} {v c : Nat} {S : VS} (q : RV h v S) (hc : c < 64) : Ev (d + 3) 109 [.ref v, .int (-1), .int (nI c)] h Q = Q (some (.int (b01 (hb (vs S) c)))) h := by
  have k := q.k
  unfold VK at k
  simp only [e109, s109_0, s109_1, s109_2, s109_5, s109_6, s109_9, oB_some, cl2_i, cl2_r, cl2_l, cl2_u, cl2_s, wd_0, wd_i, wd_r, wd_l, wd_f, ct_i, ct_r, ct_n, ct_f, rf_s, rf_n, tl_s, tl_n, true_and, and_true, eq_self, and_self, Nat.reduceAdd, Nat.reduceLeDiff, Nat.zero_le, Nat.reduceEqDiff, or_true, true_or, false_or, or_false, if_true, if_false, gI_0, gI_1, gI_2, gI_3, gI_4, gI_5, gI_6, gI_7, gI_8, gI_9, gI_10, gI_11, gI_12, gI_13, gI_14, gI_15, gL_0, gL_1, gL_2, gL_3, gL_4, gL_5, gL_6, gL_7, gL_8, gL_9, gL_10, gL_11, gL_12, gL_13, gL_14, gL_15, gA_0, gA_1, gA_2, gA_3, gA_4, gA_5, gA_6, gA_7, gA_8, gA_9, gA_10, gA_11, gA_12, gA_13, gA_14, gA_15, p1_0, p1_1, p1_2, p1_3, p1_4, p1_5, p1_6, p1_7, p1_8, p1_9, p1_10, p1_11, p1_12, p1_13, p1_14, p1_15, p2_0, p2_1, p2_2, p2_3, p2_4, p2_5, p2_6, p2_7, p2_8, p2_9, p2_10, p2_11, p2_12, p2_13, p2_14, p2_15, b01_ok, b_ft, b_tf, b01_e0, b01_e1, lgc_0, not_true_eq_false, not_false_eq_true, k, v_knownByS q, v_isAmong hc]
theorem v_learn {d : Nat} {Q : PQ} {h : HP} {v p : Nat} {x : Int64} {S : VS} (q : RV h v S) (g : Good S) (hp : p < vn S) : Ev (d + 1) 35 [.ref v, .int (nI p), .long x] h Q = Q none (sL h (v + 4) p (vw S p ||| x)) := by
  have k := q.k
  unfold VK at k
  have gn := g.n
  have p6 : p < 6 := by omega
  have p31 : p < 2 ^ 31 := by omega
  simp only [e35, s35_0, s35_1, s35_2, s35_5, s35_6, s35_7, s35_10, s35_11, s35_12, s35_15, s35_18, s35_19, s35_22, s35_23, s35_24, s35_25, s35_26, s35_27, s35_28, oB_some, cl2_i, cl2_r, cl2_l, cl2_u, cl2_s, wd_0, wd_i, wd_r, wd_l, wd_f, ct_i, ct_r, ct_n, ct_f, rf_s, rf_n, tl_s, tl_n, true_and, and_true, eq_self, and_self, Nat.reduceAdd, Nat.reduceLeDiff, Nat.zero_le, Nat.reduceEqDiff, or_true, true_or, false_or, or_false, if_true, if_false, gI_0, gI_1, gI_2, gI_3, gI_4, gI_5, gI_6, gI_7, gI_8, gI_9, gI_10, gI_11, gI_12, gI_13, gI_14, gI_15, gL_0, gL_1, gL_2, gL_3, gL_4, gL_5, gL_6, gL_7, gL_8, gL_9, gL_10, gL_11, gL_12, gL_13, gL_14, gL_15, gA_0, gA_1, gA_2, gA_3, gA_4, gA_5, gA_6, gA_7, gA_8, gA_9, gA_10, gA_11, gA_12, gA_13, gA_14, gA_15, p1_0, p1_1, p1_2, p1_3, p1_4, p1_5, p1_6, p1_7, p1_8, p1_9, p1_10, p1_11, p1_12, p1_13, p1_14, p1_15, p2_0, p2_1, p2_2, p2_3, p2_4, p2_5, p2_6, p2_7, p2_8, p2_9, p2_10, p2_11, p2_12, p2_13, p2_14, p2_15, z_hkd_sI, z_hln_sI, z_hL_sI, z_hR_sI, z_hnx_sI, z_hkd_sL, z_hln_sL, z_hI_sL, z_hR_sL, z_hnx_sL, z_hkd_sR, z_hln_sR, z_hI_sR, z_hL_sR, z_hnx_sR, z_hkd_cI, z_hln_cI, z_hL_cI, z_hR_cI, z_hnx_cI, z_hkd_cLg, z_hln_cLg, z_hI_cLg, z_hR_cLg, z_hnx_cLg, k, nm1 p31, (q.at hp).2.2.2.1, ix_nI p31, nI_pos' p31, p6, not_false_eq_true]
theorem v_learnS {d : Nat} {Q : PQ} {h : HP} {v : Nat} {x : Int64} {S : VS} (q : RV h v S) : Ev (d + 1) 35 [.ref v, .int (-1), .long x] h Q = Q none (sL h v 7 (vs S ||| x)) := by
  have k := q.k
  unfold VK at k
  simp only [e35, s35_0, s35_1, s35_2, s35_5, s35_6, s35_7, s35_10, s35_11, s35_12, s35_15, s35_18, s35_19, s35_22, s35_23, s35_24, s35_25, s35_26, s35_27, s35_28, oB_some, cl2_i, cl2_r, cl2_l, cl2_u, cl2_s, wd_0, wd_i, wd_r, wd_l, wd_f, ct_i, ct_r, ct_n, ct_f, rf_s, rf_n, tl_s, tl_n, true_and, and_true, eq_self, and_self, Nat.reduceAdd, Nat.reduceLeDiff, Nat.zero_le, Nat.reduceEqDiff, or_true, true_or, false_or, or_false, if_true, if_false, gI_0, gI_1, gI_2, gI_3, gI_4, gI_5, gI_6, gI_7, gI_8, gI_9, gI_10, gI_11, gI_12, gI_13, gI_14, gI_15, gL_0, gL_1, gL_2, gL_3, gL_4, gL_5, gL_6, gL_7, gL_8, gL_9, gL_10, gL_11, gL_12, gL_13, gL_14, gL_15, gA_0, gA_1, gA_2, gA_3, gA_4, gA_5, gA_6, gA_7, gA_8, gA_9, gA_10, gA_11, gA_12, gA_13, gA_14, gA_15, p1_0, p1_1, p1_2, p1_3, p1_4, p1_5, p1_6, p1_7, p1_8, p1_9, p1_10, p1_11, p1_12, p1_13, p1_14, p1_15, p2_0, p2_1, p2_2, p2_3, p2_4, p2_5, p2_6, p2_7, p2_8, p2_9, p2_10, p2_11, p2_12, p2_13, p2_14, p2_15, z_hkd_sI, z_hln_sI, z_hL_sI, z_hR_sI, z_hnx_sI, z_hkd_sL, z_hln_sL, z_hI_sL, z_hR_sL, z_hnx_sL, z_hkd_sR, z_hln_sR, z_hI_sR, z_hL_sR, z_hnx_sR, z_hkd_cI, z_hln_cI, z_hL_cI, z_hR_cI, z_hnx_cI, z_hkd_cLg, z_hln_cLg, z_hI_cLg, z_hR_cLg, z_hnx_cLg, k, q.s, not_true_eq_false]
theorem and_not_0 {w o : Int64} : w &&& o = w ↔ w &&& (o ^^^ -1) = 0 := by
  constructor
  · intro e
    apply hb_ext
    intro j hj
    have := congrArg (hb · j) e
    simp only [hb_and] at this
    rw [hb_and, hb_xor, hb_m1 hj, hb_0]
    revert this
    cases hb w j <;> cases hb o j <;> simp
  · intro e
    apply hb_ext
    intro j hj
    have := congrArg (hb · j) e
    simp only [hb_and, hb_xor, hb_m1 hj, hb_0] at this
    rw [hb_and]
    revert this
    cases hb w j <;> cases hb o j <;> simp
theorem and_not_and {w o : Int64} : w &&& ((w &&& o) ^^^ -1) = w &&& (o ^^^ -1) := by
  apply hb_ext
  intro j hj
  simp only [hb_and, hb_xor, hb_m1 hj]
  cases hb w j <;> cases hb o j <;> simp
set_option maxHeartbeats 4000000 in
theorem v_afterRubbing {d : Nat} {Q : PQ} {h : HP} {v t : Nat} {w : Int64} {S : VS} (q : RV h v S) (g : Good S) (ht : t < vn S) : Ev (d + 2) 42 [.ref v, .long w, .int (nI t)] h Q = Q (some (.long (if w &&& (vo S ^^^ -1) = 0 then putIn S t else w &&& (vo S ^^^ -1)))) (sI h v 11 (nI (min 9999 (vt S + nb (w &&& vo S))))) := by
  have k := q.k
  unfold VK at k
  have gn := g.n
  have gt := g.t
  have t6 : t < 6 := by omega
  have t31 : t < 2 ^ 31 := by omega
  have hs : sm (w &&& vo S) := sm_andl g.o
  have hn := nb_le (w &&& vo S)
  have hm : (if nI (vt S + nb (w &&& vo S)) < 9999 then nI (vt S + nb (w &&& vo S)) else 9999) = nI (min 9999 (vt S + nb (w &&& vo S))) := minN (b := 9999) (by omega) (by omega)
  have hl : sm (vs S &&& (vo S ^^^ -1) &&& (vw S t ^^^ -1)) := sm_and (sm_and g.s)
  simp only [e42, s42_0, s42_1, s42_2, s42_5, s42_6, s42_8, s42_9, s42_12, s42_13, s42_16, s42_18, s42_21, s42_22, s42_25, s42_28, s42_30, s42_31, s42_32, s42_35, s42_36, s42_38, s42_41, s42_42, s42_43, s42_44, s42_45, s42_48, s42_49, s42_52, s42_55, s42_56, s42_57, s42_58, s42_61, s42_62, s42_63, s42_66, s42_67, s42_68, s42_70, s42_72, s42_74, s42_75, s42_76, oB_some, cl2_i, cl2_r, cl2_l, cl2_u, cl2_s, wd_0, wd_i, wd_r, wd_l, wd_f, ct_i, ct_r, ct_n, ct_f, rf_s, rf_n, tl_s, tl_n, true_and, and_true, eq_self, and_self, Nat.reduceAdd, Nat.reduceLeDiff, Nat.zero_le, Nat.reduceEqDiff, or_true, true_or, false_or, or_false, if_true, if_false, gI_0, gI_1, gI_2, gI_3, gI_4, gI_5, gI_6, gI_7, gI_8, gI_9, gI_10, gI_11, gI_12, gI_13, gI_14, gI_15, gL_0, gL_1, gL_2, gL_3, gL_4, gL_5, gL_6, gL_7, gL_8, gL_9, gL_10, gL_11, gL_12, gL_13, gL_14, gL_15, gA_0, gA_1, gA_2, gA_3, gA_4, gA_5, gA_6, gA_7, gA_8, gA_9, gA_10, gA_11, gA_12, gA_13, gA_14, gA_15, p1_0, p1_1, p1_2, p1_3, p1_4, p1_5, p1_6, p1_7, p1_8, p1_9, p1_10, p1_11, p1_12, p1_13, p1_14, p1_15, p2_0, p2_1, p2_2, p2_3, p2_4, p2_5, p2_6, p2_7, p2_8, p2_9, p2_10, p2_11, p2_12, p2_13, p2_14, p2_15, z_hkd_sI, z_hln_sI, z_hL_sI, z_hR_sI, z_hnx_sI, z_hkd_sL, z_hln_sL, z_hI_sL, z_hR_sL, z_hnx_sL, z_hkd_sR, z_hln_sR, z_hI_sR, z_hL_sR, z_hnx_sR, z_hkd_cI, z_hln_cI, z_hL_cI, z_hR_cI, z_hnx_cI, z_hkd_cLg, z_hln_cLg, z_hI_cLg, z_hR_cLg, z_hnx_cLg, k, q.o, q.t, q.s, (q.at ht).2.2.2.1, ix_nI t31, nI_pos' t31, t6, v_bitCount hs, nI_add, hm, low_of _ hl]
  rw [and_not_and]
  by_cases hz : w &&& (vo S ^^^ -1) = 0
  · rw [if_pos hz, if_pos ((lgc_0 _ _).mpr (and_not_0.mpr hz))]
    rfl
  · rw [if_neg hz, if_neg (fun e => hz (and_not_0.mp ((lgc_0 _ _).mp e)))]
