-- the one side: the post
set_option maxHeartbeats 8000000 in
theorem x_post {d tl len : Nat} {tp r : Nat → Nat} {Q : PQ} {h : HP} {x : Nat} {S : VS} {H : HS} (C : CI h x S H tp tl r len) (gS : GV S) (gH : GH H)
    (k0 : (pst tp tl S).2 = none → KC h x S H tp 0 r len (Q (some (.int (pst tp tl S).1))))
    (k1 : ∀ S', (pst tp tl S).2 = some S' → GV S' → KC h x S' (dropH H) tp 0 r len (Q (some (.int (pst tp tl S).1)))) : Ev (d + 8) 17 [.ref x] h Q := by
  have X := C.1
  have g := gS.1
  have K := X.1
  unfold XK at K
  have F := X.2.1.1
  simp only [e17, s17_0, s17_1, s17_4, s17_5, s17_8, oB_some, cl2_i, cl2_r, cl2_l, cl2_u, cl2_s, wd_0, wd_i, wd_r, wd_l, wd_f, ct_i, ct_r, ct_n, ct_f, rf_s, rf_n, tl_s, tl_n, true_and, and_true, eq_self, and_self, Nat.reduceAdd, Nat.reduceLeDiff, Nat.zero_le, Nat.reduceEqDiff, or_true, true_or, false_or, or_false, if_true, if_false, gI_0, gI_1, gI_2, gI_3, gI_4, gI_5, gI_6, gI_7, gI_8, gI_9, gI_10, gI_11, gI_12, gI_13, gI_14, gI_15, gL_0, gL_1, gL_2, gL_3, gL_4, gL_5, gL_6, gL_7, gL_8, gL_9, gL_10, gL_11, gL_12, gL_13, gL_14, gL_15, gA_0, gA_1, gA_2, gA_3, gA_4, gA_5, gA_6, gA_7, gA_8, gA_9, gA_10, gA_11, gA_12, gA_13, gA_14, gA_15, p1_0, p1_1, p1_2, p1_3, p1_4, p1_5, p1_6, p1_7, p1_8, p1_9, p1_10, p1_11, p1_12, p1_13, p1_14, p1_15, p2_0, p2_1, p2_2, p2_3, p2_4, p2_5, p2_6, p2_7, p2_8, p2_9, p2_10, p2_11, p2_12, p2_13, p2_14, p2_15, b01_ok, b_ft, b_tf, b01_e0, b01_e1, lgc_0, not_true_eq_false, not_false_eq_true, K, F]
  refine v_asItIs X.2.1 g fun h1 m1 q1 f1 => ?_
  have C1 := C.q (m1.wide (Nat.le_refl _) (by omega))
  have K1 := C1.1.1
  unfold XK at K1
  have V1 := q1.k
  unfold VK at V1
  simp only [s17_11, oB_some, cl2_i, cl2_r, cl2_l, cl2_u, cl2_s, wd_0, wd_i, wd_r, wd_l, wd_f, ct_i, ct_r, ct_n, ct_f, rf_s, rf_n, tl_s, tl_n, true_and, and_true, eq_self, and_self, Nat.reduceAdd, Nat.reduceLeDiff, Nat.zero_le, Nat.reduceEqDiff, or_true, true_or, false_or, or_false, if_true, if_false, gI_0, gI_1, gI_2, gI_3, gI_4, gI_5, gI_6, gI_7, gI_8, gI_9, gI_10, gI_11, gI_12, gI_13, gI_14, gI_15, gL_0, gL_1, gL_2, gL_3, gL_4, gL_5, gL_6, gL_7, gL_8, gL_9, gL_10, gL_11, gL_12, gL_13, gL_14, gL_15, gA_0, gA_1, gA_2, gA_3, gA_4, gA_5, gA_6, gA_7, gA_8, gA_9, gA_10, gA_11, gA_12, gA_13, gA_14, gA_15, p1_0, p1_1, p1_2, p1_3, p1_4, p1_5, p1_6, p1_7, p1_8, p1_9, p1_10, p1_11, p1_12, p1_13, p1_14, p1_15, p2_0, p2_1, p2_2, p2_3, p2_4, p2_5, p2_6, p2_7, p2_8, p2_9, p2_10, p2_11, p2_12, p2_13, p2_14, p2_15, b01_ok, b_ft, b_tf, b01_e0, b01_e1, lgc_0, not_true_eq_false, not_false_eq_true, K1, V1]
  refine v_readInto C1.1.1 C1.2.2.1 q1 gS f1 fun h2 m2 e2 => ?_
  have C2 := C1.q (m2.wide (Nat.le_refl _) (by omega))
  have K2 := C2.1.1
  unfold XK at K2
  have F2 := C2.1.2.1.1
  have A2 : FA x h h2 := (m1.fa (by omega) (by omega)).tr (m2.fa (by omega) (by omega))
  have o2 : hI h2 (x + 6) = hI h (x + 6) := by rw [(m2.1 (x + 6) (by omega)).1, (m1.1 (x + 6) (by omega)).1]
  rcases pst_sg C.2.2.1.2.1 S with ⟨hn, S', es⟩ | ⟨hn, es⟩
  · obtain ⟨q3, g3⟩ := e2 S' es
    have V2 := C2.1.v.k
    have V2' := V2
    unfold VK at V2
    have V3 := q3.k
    unfold VK at V3
    simp only [s17_14, s17_15, s17_16, s17_19, s17_20, s17_23, s17_24, s17_27, s17_30, oB_some, cl2_i, cl2_r, cl2_l, cl2_u, cl2_s, wd_0, wd_i, wd_r, wd_l, wd_f, ct_i, ct_r, ct_n, ct_f, rf_s, rf_n, tl_s, tl_n, true_and, and_true, eq_self, and_self, Nat.reduceAdd, Nat.reduceLeDiff, Nat.zero_le, Nat.reduceEqDiff, or_true, true_or, false_or, or_false, if_true, if_false, gI_0, gI_1, gI_2, gI_3, gI_4, gI_5, gI_6, gI_7, gI_8, gI_9, gI_10, gI_11, gI_12, gI_13, gI_14, gI_15, gL_0, gL_1, gL_2, gL_3, gL_4, gL_5, gL_6, gL_7, gL_8, gL_9, gL_10, gL_11, gL_12, gL_13, gL_14, gL_15, gA_0, gA_1, gA_2, gA_3, gA_4, gA_5, gA_6, gA_7, gA_8, gA_9, gA_10, gA_11, gA_12, gA_13, gA_14, gA_15, p1_0, p1_1, p1_2, p1_3, p1_4, p1_5, p1_6, p1_7, p1_8, p1_9, p1_10, p1_11, p1_12, p1_13, p1_14, p1_15, p2_0, p2_1, p2_2, p2_3, p2_4, p2_5, p2_6, p2_7, p2_8, p2_9, p2_10, p2_11, p2_12, p2_13, p2_14, p2_15, b01_ok, b_ft, b_tf, b01_e0, b01_e1, lgc_0, not_true_eq_false, not_false_eq_true, hn, K2, F2, e64, s64_0, s64_1, s64_4, V2, V3]
    refine v_becomeLike V2' q3 g3.1 (Or.inr (by omega)) fun h4 m4 q4 f4 => ?_
    have C4 := (C2.now m4 q4 f4)
    have K4 := C4.1.1
    unfold XK at K4
    have C5 := C4.drop
    have K5 := C5.1.1
    unfold XK at K5
    have A5 : FA x h2 (sI h4 (x + 1) 2 0) := (m4.fa (by omega) (by omega)).tr (Fm.fa (lo := x + 1) (n := 1) (Fm.rf.sI (by omega) (by omega)) (by omega) (by omega))
    have A6 : FA x (sI h4 (x + 1) 2 0) (sI (sI h4 (x + 1) 2 0) (x + 3) 1 0) := Fm.fa (lo := x + 3) (n := 1) (Fm.rf.sI (by omega) (by omega)) (by omega) (by omega)
    simp only [s17_33, s17_34, s17_37, s17_40, s17_41, s17_44, s17_47, s17_48, oB_some, cl2_i, cl2_r, cl2_l, cl2_u, cl2_s, wd_0, wd_i, wd_r, wd_l, wd_f, ct_i, ct_r, ct_n, ct_f, rf_s, rf_n, tl_s, tl_n, true_and, and_true, eq_self, and_self, Nat.reduceAdd, Nat.reduceLeDiff, Nat.zero_le, Nat.reduceEqDiff, or_true, true_or, false_or, or_false, if_true, if_false, gI_0, gI_1, gI_2, gI_3, gI_4, gI_5, gI_6, gI_7, gI_8, gI_9, gI_10, gI_11, gI_12, gI_13, gI_14, gI_15, gL_0, gL_1, gL_2, gL_3, gL_4, gL_5, gL_6, gL_7, gL_8, gL_9, gL_10, gL_11, gL_12, gL_13, gL_14, gL_15, gA_0, gA_1, gA_2, gA_3, gA_4, gA_5, gA_6, gA_7, gA_8, gA_9, gA_10, gA_11, gA_12, gA_13, gA_14, gA_15, p1_0, p1_1, p1_2, p1_3, p1_4, p1_5, p1_6, p1_7, p1_8, p1_9, p1_10, p1_11, p1_12, p1_13, p1_14, p1_15, p2_0, p2_1, p2_2, p2_3, p2_4, p2_5, p2_6, p2_7, p2_8, p2_9, p2_10, p2_11, p2_12, p2_13, p2_14, p2_15, b01_ok, b_ft, b_tf, b01_e0, b01_e1, lgc_0, not_true_eq_false, not_false_eq_true, K4, v_forgetAll K4.1.2.1, K5, e66, s66_0, s66_1, s66_2, s66_5]
    exact k1 S' es g3 _ ((A2.tr A5).tr A6) (by rw [hI_sI_ne (by omega), hI_sI_ne (by omega), (m4.1 (x + 6) (by omega)).1, o2]) C5.tape0
  · have A6 : FA x h2 (sI h2 (x + 3) 1 0) := Fm.fa (lo := x + 3) (n := 1) (Fm.rf.sI (by omega) (by omega)) (by omega) (by omega)
    simp only [s17_14, s17_15, s17_16, s17_40, s17_41, s17_44, s17_47, s17_48, oB_some, cl2_i, cl2_r, cl2_l, cl2_u, cl2_s, wd_0, wd_i, wd_r, wd_l, wd_f, ct_i, ct_r, ct_n, ct_f, rf_s, rf_n, tl_s, tl_n, true_and, and_true, eq_self, and_self, Nat.reduceAdd, Nat.reduceLeDiff, Nat.zero_le, Nat.reduceEqDiff, or_true, true_or, false_or, or_false, if_true, if_false, gI_0, gI_1, gI_2, gI_3, gI_4, gI_5, gI_6, gI_7, gI_8, gI_9, gI_10, gI_11, gI_12, gI_13, gI_14, gI_15, gL_0, gL_1, gL_2, gL_3, gL_4, gL_5, gL_6, gL_7, gL_8, gL_9, gL_10, gL_11, gL_12, gL_13, gL_14, gL_15, gA_0, gA_1, gA_2, gA_3, gA_4, gA_5, gA_6, gA_7, gA_8, gA_9, gA_10, gA_11, gA_12, gA_13, gA_14, gA_15, p1_0, p1_1, p1_2, p1_3, p1_4, p1_5, p1_6, p1_7, p1_8, p1_9, p1_10, p1_11, p1_12, p1_13, p1_14, p1_15, p2_0, p2_1, p2_2, p2_3, p2_4, p2_5, p2_6, p2_7, p2_8, p2_9, p2_10, p2_11, p2_12, p2_13, p2_14, p2_15, b01_ok, b_ft, b_tf, b01_e0, b01_e1, lgc_0, not_true_eq_false, not_false_eq_true, hn, K2, e66, s66_0, s66_1, s66_2, s66_5]
    exact k0 es _ (A2.tr A6) (by rw [hI_sI_ne (by omega), o2]) C2.tape0
