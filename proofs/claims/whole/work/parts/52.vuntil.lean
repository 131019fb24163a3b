-- needs: 16.num 17.small 18.bits 20.spec 21.kinds 22.rep 23.bag 24.bag2 25.get 30.day 31.have 32.day2 33.day3 50.vsmall 51.vsmall2
theorem dayN_1 {ink : Nat} {dm sh : Bool} {S : VS} : dayN ink dm sh 1 S = day1 ink dm sh S := rfl
set_option maxHeartbeats 8000000 in
theorem v_daysUntilG {d : Nat} {Q : PQ} {h : HP} {v ink c : Nat} {dm sh : Bool} {S : VS} {who : Int32} (ask : VS → Bool) (q : RV h v S) (g : Good S) (f : FV h v ink dm sh) (hi : ink < 64) (hy : vy S + 61 < 2 ^ 20)
    (hask : ∀ (h1 : HP) (S1 : VS) (Q1 : PQ), RV h1 v S1 → Good S1 → vn S1 = vn S → Ev (d + 5) 112 [.ref v, .int who, .int (nI c)] h1 Q1 = Q1 (some (.int (b01 (ask S1)))) h1)
    (k : ∀ h', Fm v 12 h h' → Q (some (.int (oN (untilN ink dm sh ask 61 0 S)))) h') : Ev (d + 6) 156 [.ref v, .int who, .int (nI c)] h Q := by
  have loop : ∀ (n j : Nat) (h1 : HP) (S1 : VS), j + n = 61 → RV h1 v S1 → Good S1 → FV h1 v ink dm sh → vn S1 = vn S → vy S1 + n < 2 ^ 20 → Fm v 12 h h1 → untilN ink dm sh ask n j S1 = untilN ink dm sh ask 61 0 S →
      WP (d + 5) 156 Q (2, [.val (.ref v), .val (.int who), .val (.int (nI c)), .val (.int (nI j))], [], h1, 0, 0) := by
    intro n
    induction n with
    | zero =>
      intro j h1 S1 hj q1 g1 f1 n1 y1 m1 e1
      obtain rfl : j = 61 := by omega
      rw [s156_2]
      simp only [s156_0, s156_1, s156_3, s156_5, s156_8, s156_9, s156_10, s156_11, s156_14, s156_17, s156_18, s156_19, s156_20, s156_21, s156_24, s156_27, s156_30, s156_32, oB_some, cl2_i, cl2_r, cl2_l, cl2_u, cl2_s, wd_0, wd_i, wd_r, wd_l, wd_f, ct_i, ct_r, ct_n, ct_f, rf_s, rf_n, tl_s, tl_n, true_and, and_true, eq_self, and_self, Nat.reduceAdd, Nat.reduceLeDiff, Nat.zero_le, Nat.reduceEqDiff, or_true, true_or, false_or, or_false, if_true, if_false, gI_0, gI_1, gI_2, gI_3, gI_4, gI_5, gI_6, gI_7, gI_8, gI_9, gI_10, gI_11, gI_12, gI_13, gI_14, gI_15, gL_0, gL_1, gL_2, gL_3, gL_4, gL_5, gL_6, gL_7, gL_8, gL_9, gL_10, gL_11, gL_12, gL_13, gL_14, gL_15, gA_0, gA_1, gA_2, gA_3, gA_4, gA_5, gA_6, gA_7, gA_8, gA_9, gA_10, gA_11, gA_12, gA_13, gA_14, gA_15, p1_0, p1_1, p1_2, p1_3, p1_4, p1_5, p1_6, p1_7, p1_8, p1_9, p1_10, p1_11, p1_12, p1_13, p1_14, p1_15, p2_0, p2_1, p2_2, p2_3, p2_4, p2_5, p2_6, p2_7, p2_8, p2_9, p2_10, p2_11, p2_12, p2_13, p2_14, p2_15, b01_ok, b_ft, b_tf, b01_e0, b01_e1, lgc_0, not_true_eq_false, not_false_eq_true]
      rw [if_pos (by decide)]
      have e2 : none = untilN ink dm sh ask 61 0 S := e1
      have kk := k h1 m1
      rw [← e2] at kk
      exact kk
    | succ n ih =>
      intro j h1 S1 hj q1 g1 f1 n1 y1 m1 e1
      have K := q1.k
      unfold VK at K
      rw [s156_2]
      have z : ¬ (60 : Int32) < nI j := nI_nlt (a := 60) (b := j) (by omega) (by omega)
      simp only [s156_0, s156_1, s156_3, s156_5, s156_8, s156_9, s156_10, s156_11, s156_14, s156_17, s156_18, s156_19, s156_20, s156_21, s156_24, s156_27, s156_30, s156_32, oB_some, cl2_i, cl2_r, cl2_l, cl2_u, cl2_s, wd_0, wd_i, wd_r, wd_l, wd_f, ct_i, ct_r, ct_n, ct_f, rf_s, rf_n, tl_s, tl_n, true_and, and_true, eq_self, and_self, Nat.reduceAdd, Nat.reduceLeDiff, Nat.zero_le, Nat.reduceEqDiff, or_true, true_or, false_or, or_false, if_true, if_false, gI_0, gI_1, gI_2, gI_3, gI_4, gI_5, gI_6, gI_7, gI_8, gI_9, gI_10, gI_11, gI_12, gI_13, gI_14, gI_15, gL_0, gL_1, gL_2, gL_3, gL_4, gL_5, gL_6, gL_7, gL_8, gL_9, gL_10, gL_11, gL_12, gL_13, gL_14, gL_15, gA_0, gA_1, gA_2, gA_3, gA_4, gA_5, gA_6, gA_7, gA_8, gA_9, gA_10, gA_11, gA_12, gA_13, gA_14, gA_15, p1_0, p1_1, p1_2, p1_3, p1_4, p1_5, p1_6, p1_7, p1_8, p1_9, p1_10, p1_11, p1_12, p1_13, p1_14, p1_15, p2_0, p2_1, p2_2, p2_3, p2_4, p2_5, p2_6, p2_7, p2_8, p2_9, p2_10, p2_11, p2_12, p2_13, p2_14, p2_15, b01_ok, b_ft, b_tf, b01_e0, b01_e1, lgc_0, not_true_eq_false, not_false_eq_true, K, z, hask h1 S1 _ q1 g1 n1]
      have e3 : (if ask S1 = true then some j else untilN ink dm sh ask n (j + 1) (day1 ink dm sh S1)) = untilN ink dm sh ask 61 0 S := e1
      by_cases ha : ask S1 = true
      · rw [if_pos ha] at e3
        rw [if_neg (by rw [ha]; decide)]
        have kk := k h1 m1
        rw [← e3] at kk
        exact kk
      · rw [if_neg ha] at e3
        rw [if_pos (by simpa using ha)]
        have k1 := day1_keep (ink := ink) (dm := dm) (sh := sh) g1 (by omega)
        refine v_passDays (n := 1) q1 g1 f1 hi (by omega) fun h2 m2 q2 f2 => ?_
        simp only [s156_0, s156_1, s156_3, s156_5, s156_8, s156_9, s156_10, s156_11, s156_14, s156_17, s156_18, s156_19, s156_20, s156_21, s156_24, s156_27, s156_30, s156_32, oB_some, cl2_i, cl2_r, cl2_l, cl2_u, cl2_s, wd_0, wd_i, wd_r, wd_l, wd_f, ct_i, ct_r, ct_n, ct_f, rf_s, rf_n, tl_s, tl_n, true_and, and_true, eq_self, and_self, Nat.reduceAdd, Nat.reduceLeDiff, Nat.zero_le, Nat.reduceEqDiff, or_true, true_or, false_or, or_false, if_true, if_false, gI_0, gI_1, gI_2, gI_3, gI_4, gI_5, gI_6, gI_7, gI_8, gI_9, gI_10, gI_11, gI_12, gI_13, gI_14, gI_15, gL_0, gL_1, gL_2, gL_3, gL_4, gL_5, gL_6, gL_7, gL_8, gL_9, gL_10, gL_11, gL_12, gL_13, gL_14, gL_15, gA_0, gA_1, gA_2, gA_3, gA_4, gA_5, gA_6, gA_7, gA_8, gA_9, gA_10, gA_11, gA_12, gA_13, gA_14, gA_15, p1_0, p1_1, p1_2, p1_3, p1_4, p1_5, p1_6, p1_7, p1_8, p1_9, p1_10, p1_11, p1_12, p1_13, p1_14, p1_15, p2_0, p2_1, p2_2, p2_3, p2_4, p2_5, p2_6, p2_7, p2_8, p2_9, p2_10, p2_11, p2_12, p2_13, p2_14, p2_15, b01_ok, b_ft, b_tf, b01_e0, b01_e1, lgc_0, not_true_eq_false, not_false_eq_true, nI_1]
        exact ih (j + 1) h2 _ (by omega) q2 k1.1 f2 (k1.2.1.trans n1) (by rw [dayN_1, k1.2.2]; omega) (m1.tr m2) e3
  simp only [e156, s156_0, s156_1, s156_3, s156_5, s156_8, s156_9, s156_10, s156_11, s156_14, s156_17, s156_18, s156_19, s156_20, s156_21, s156_24, s156_27, s156_30, s156_32, oB_some, cl2_i, cl2_r, cl2_l, cl2_u, cl2_s, wd_0, wd_i, wd_r, wd_l, wd_f, ct_i, ct_r, ct_n, ct_f, rf_s, rf_n, tl_s, tl_n, true_and, and_true, eq_self, and_self, Nat.reduceAdd, Nat.reduceLeDiff, Nat.zero_le, Nat.reduceEqDiff, or_true, true_or, false_or, or_false, if_true, if_false, gI_0, gI_1, gI_2, gI_3, gI_4, gI_5, gI_6, gI_7, gI_8, gI_9, gI_10, gI_11, gI_12, gI_13, gI_14, gI_15, gL_0, gL_1, gL_2, gL_3, gL_4, gL_5, gL_6, gL_7, gL_8, gL_9, gL_10, gL_11, gL_12, gL_13, gL_14, gL_15, gA_0, gA_1, gA_2, gA_3, gA_4, gA_5, gA_6, gA_7, gA_8, gA_9, gA_10, gA_11, gA_12, gA_13, gA_14, gA_15, p1_0, p1_1, p1_2, p1_3, p1_4, p1_5, p1_6, p1_7, p1_8, p1_9, p1_10, p1_11, p1_12, p1_13, p1_14, p1_15, p2_0, p2_1, p2_2, p2_3, p2_4, p2_5, p2_6, p2_7, p2_8, p2_9, p2_10, p2_11, p2_12, p2_13, p2_14, p2_15, b01_ok, b_ft, b_tf, b01_e0, b01_e1, lgc_0, not_true_eq_false, not_false_eq_true]
  exact loop 61 0 h S (by omega) q g f rfl (by omega) Fm.rf rfl
theorem v_daysUntil {d : Nat} {Q : PQ} {h : HP} {v ink p c : Nat} {dm sh : Bool} {S : VS} (q : RV h v S) (g : Good S) (f : FV h v ink dm sh) (hi : ink < 64) (hy : vy S + 61 < 2 ^ 20) (hp : p < vn S) (hc : c < 64)
    (k : ∀ h', Fm v 12 h h' → Q (some (.int (oN (untilN ink dm sh (fun T => hb (vw T p) c) 61 0 S)))) h') : Ev (d + 6) 156 [.ref v, .int (nI p), .int (nI c)] h Q :=
  v_daysUntilG (fun T => hb (vw T p) c) q g f hi hy (fun h1 S1 Q1 q1 g1 n1 => v_hasLearnt q1 g1 (by rw [n1]; exact hp) hc) k
theorem v_daysUntilS {d : Nat} {Q : PQ} {h : HP} {v ink c : Nat} {dm sh : Bool} {S : VS} (q : RV h v S) (g : Good S) (f : FV h v ink dm sh) (hi : ink < 64) (hy : vy S + 61 < 2 ^ 20) (hc : c < 64)
    (k : ∀ h', Fm v 12 h h' → Q (some (.int (oN (untilN ink dm sh (fun T => hb (vs T) c) 61 0 S)))) h') : Ev (d + 6) 156 [.ref v, .int (-1), .int (nI c)] h Q :=
  v_daysUntilG (fun T => hb (vs T) c) q g f hi hy (fun h1 S1 Q1 q1 g1 n1 => v_hasLearntS q1 hc) k
