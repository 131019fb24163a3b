-- needs: 16.num 17.small 18.bits 20.spec 21.kinds 22.rep 23.bag 24.bag2 25.get 30.day 50.vsmall
def inAllN (S : VS) (w : Nat) : Nat := if w = 0 then (vb S).length else if w = 1 then vd S else if w = 2 then vt S else together S
set_option maxHeartbeats 4000000 in
theorem v_inAll {d : Nat} {Q : PQ} {h : HP} {v w : Nat} {S : VS} (q : RV h v S) (g : Good S) (hw : w < 4) : Ev (d + 3) 151 [.ref v, .int (nI w)] h Q = Q (some (.int (nI (inAllN S w)))) h := by
  have k := q.k
  unfold VK at k
  rcases (show w = 0 ∨ w = 1 ∨ w = 2 ∨ w = 3 by omega) with rfl | rfl | rfl | rfl
  all_goals simp only [e151, s151_0, s151_1, s151_28, s151_29, s151_32, s151_35, s151_36, s151_37, s151_40, s151_41, s151_42, s151_45, s151_46, s151_47, s151_50, oB_some, cl2_i, cl2_r, cl2_l, cl2_u, cl2_s, wd_0, wd_i, wd_r, wd_l, wd_f, ct_i, ct_r, ct_n, ct_f, rf_s, rf_n, tl_s, tl_n, true_and, and_true, eq_self, and_self, Nat.reduceAdd, Nat.reduceLeDiff, Nat.zero_le, Nat.reduceEqDiff, or_true, true_or, false_or, or_false, if_true, if_false, gI_0, gI_1, gI_2, gI_3, gI_4, gI_5, gI_6, gI_7, gI_8, gI_9, gI_10, gI_11, gI_12, gI_13, gI_14, gI_15, gL_0, gL_1, gL_2, gL_3, gL_4, gL_5, gL_6, gL_7, gL_8, gL_9, gL_10, gL_11, gL_12, gL_13, gL_14, gL_15, gA_0, gA_1, gA_2, gA_3, gA_4, gA_5, gA_6, gA_7, gA_8, gA_9, gA_10, gA_11, gA_12, gA_13, gA_14, gA_15, p1_0, p1_1, p1_2, p1_3, p1_4, p1_5, p1_6, p1_7, p1_8, p1_9, p1_10, p1_11, p1_12, p1_13, p1_14, p1_15, p2_0, p2_1, p2_2, p2_3, p2_4, p2_5, p2_6, p2_7, p2_8, p2_9, p2_10, p2_11, p2_12, p2_13, p2_14, p2_15, b01_ok, b_ft, b_tf, b01_e0, b01_e1, lgc_0, not_true_eq_false, not_false_eq_true, k, q.m, q.d, q.t, v_knownTogether q g]
  all_goals rfl
