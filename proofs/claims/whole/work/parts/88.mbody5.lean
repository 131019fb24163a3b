-- games, rarest, share, kinds: the other side
set_option maxHeartbeats 8000000 in
theorem b_lots {d n : Nat} {z what : Int32} {Q : PQ} {h : HP} {m : Nat} {S : VS} (M : MO h m S) (g : Good S) (hy : vy S ≤ 999) (hn : n ≤ 20)
    (k : ∀ h', FQ m h h' → MO h' m S → Q (some (.int (lotsA S what n z 0))) h') : WP (d + 7) 261 Q (39, [.val (.ref m), .val (.int (nI n)), .val (.int z), .val (.int what), .val (.int 0), .unset, .unset, .unset, .unset], [], h, 0, 0) := by
  have gn := g.n
  have was : Int32 → Int32 := fun _ => 0
  have fin : ∀ (a zz : Int32) (gm : Nat) (h1 : HP) (T : VS) (y : Slot), FQ m h h1 → RM h1 m T → Good T → FMl h1 m 0 false false → KP h1 m 2 S → vy T + 12 < 2 ^ 20 → hI h1 m 42 = zz →
      (∀ (h2 : HP) (y3 y4 : Slot), FQ m h h2 → MO h2 m S → hI h2 m 42 = zz → WP (d + 7) 261 Q (50, [.val (.ref m), .val (.int (nI n)), .val (.int z), .val (.int what), .val (.int 0), .val (.int (a + gain1 S (dayN 0 false false 12 T) what)), .val (.int (nI (gm + 1))), y3, y4], [], h2, 0, 0)) →
      WP (d + 7) 261 Q (107, [.val (.ref m), .val (.int (nI n)), .val (.int z), .val (.int what), .val (.int 0), .val (.int a), .val (.int (nI gm)), .val (.int (if what = 0 then nI (nb (vs S)) else nI (vd S))), y], [], h1, 0, 0) := by
    intro a zz gm h1 T y f1 q1 g1 l1 p1 y1 z1 kk
    have K1 := q1.k
    unfold MK at K1
    simp only [s261_107, s261_108, s261_110, oB_some, cl2_i, cl2_r, cl2_l, cl2_u, cl2_s, wd_0, wd_i, wd_r, wd_l, wd_f, ct_i, ct_r, ct_n, ct_f, rf_s, rf_n, tl_s, tl_n, true_and, and_true, eq_self, and_self, Nat.reduceAdd, Nat.reduceLeDiff, Nat.zero_le, Nat.reduceEqDiff, or_true, true_or, false_or, or_false, if_true, if_false, gI_0, gI_1, gI_2, gI_3, gI_4, gI_5, gI_6, gI_7, gI_8, gI_9, gI_10, gI_11, gI_12, gI_13, gI_14, gI_15, gL_0, gL_1, gL_2, gL_3, gL_4, gL_5, gL_6, gL_7, gL_8, gL_9, gL_10, gL_11, gL_12, gL_13, gL_14, gL_15, gA_0, gA_1, gA_2, gA_3, gA_4, gA_5, gA_6, gA_7, gA_8, gA_9, gA_10, gA_11, gA_12, gA_13, gA_14, gA_15, p1_0, p1_1, p1_2, p1_3, p1_4, p1_5, p1_6, p1_7, p1_8, p1_9, p1_10, p1_11, p1_12, p1_13, p1_14, p1_15, p2_0, p2_1, p2_2, p2_3, p2_4, p2_5, p2_6, p2_7, p2_8, p2_9, p2_10, p2_11, p2_12, p2_13, p2_14, p2_15, b01_ok, b_ft, b_tf, b01_e0, b01_e1, lgc_0, not_true_eq_false, not_false_eq_true, K1]
    refine m_goes (n := 12) q1 g1 l1 (by decide) y1 fun h2 f2 q2 => ?_
    have K2 := q2.k
    unfold MK at K2
    have kp := dayN_keep (ink := 0) (dm := false) (sh := false) (n := 12) g1 y1
    have z2 : hI h2 m 42 = zz := (f2.kx.1).trans z1
    unfold gain1 at kk
    by_cases e : what = 0
    · simp only [e, if_true] at kk ⊢
      simp only [s261_113, s261_115, s261_116, s261_119, s261_120, s261_123, s261_126, s261_129, s261_130, s261_133, s261_135, s261_136, s261_137, s261_139, s261_140, oB_some, cl2_i, cl2_r, cl2_l, cl2_u, cl2_s, wd_0, wd_i, wd_r, wd_l, wd_f, ct_i, ct_r, ct_n, ct_f, rf_s, rf_n, tl_s, tl_n, true_and, and_true, eq_self, and_self, Nat.reduceAdd, Nat.reduceLeDiff, Nat.zero_le, Nat.reduceEqDiff, or_true, true_or, false_or, or_false, if_true, if_false, gI_0, gI_1, gI_2, gI_3, gI_4, gI_5, gI_6, gI_7, gI_8, gI_9, gI_10, gI_11, gI_12, gI_13, gI_14, gI_15, gL_0, gL_1, gL_2, gL_3, gL_4, gL_5, gL_6, gL_7, gL_8, gL_9, gL_10, gL_11, gL_12, gL_13, gL_14, gL_15, gA_0, gA_1, gA_2, gA_3, gA_4, gA_5, gA_6, gA_7, gA_8, gA_9, gA_10, gA_11, gA_12, gA_13, gA_14, gA_15, p1_0, p1_1, p1_2, p1_3, p1_4, p1_5, p1_6, p1_7, p1_8, p1_9, p1_10, p1_11, p1_12, p1_13, p1_14, p1_15, p2_0, p2_1, p2_2, p2_3, p2_4, p2_5, p2_6, p2_7, p2_8, p2_9, p2_10, p2_11, p2_12, p2_13, p2_14, p2_15, b01_ok, b_ft, b_tf, b01_e0, b01_e1, lgc_0, not_true_eq_false, not_false_eq_true, K2, q2.s, m_bits, not_true_eq_false]
      refine m_forgetsX q2.k g (p1.fd g f2) fun h3 f3 x3 q3 l3 => ?_
      simp only [s261_143, s261_146, oB_some, cl2_i, cl2_r, cl2_l, cl2_u, cl2_s, wd_0, wd_i, wd_r, wd_l, wd_f, ct_i, ct_r, ct_n, ct_f, rf_s, rf_n, tl_s, tl_n, true_and, and_true, eq_self, and_self, Nat.reduceAdd, Nat.reduceLeDiff, Nat.zero_le, Nat.reduceEqDiff, or_true, true_or, false_or, or_false, if_true, if_false, gI_0, gI_1, gI_2, gI_3, gI_4, gI_5, gI_6, gI_7, gI_8, gI_9, gI_10, gI_11, gI_12, gI_13, gI_14, gI_15, gL_0, gL_1, gL_2, gL_3, gL_4, gL_5, gL_6, gL_7, gL_8, gL_9, gL_10, gL_11, gL_12, gL_13, gL_14, gL_15, gA_0, gA_1, gA_2, gA_3, gA_4, gA_5, gA_6, gA_7, gA_8, gA_9, gA_10, gA_11, gA_12, gA_13, gA_14, gA_15, p1_0, p1_1, p1_2, p1_3, p1_4, p1_5, p1_6, p1_7, p1_8, p1_9, p1_10, p1_11, p1_12, p1_13, p1_14, p1_15, p2_0, p2_1, p2_2, p2_3, p2_4, p2_5, p2_6, p2_7, p2_8, p2_9, p2_10, p2_11, p2_12, p2_13, p2_14, p2_15, b01_ok, b_ft, b_tf, b01_e0, b01_e1, lgc_0, not_true_eq_false, not_false_eq_true, nI_1]
      exact kk h3 _ _ (f1.tr (f2.fq.tr f3)) ⟨q3, l3⟩ (x3.1.trans z2)
    · simp only [e, if_false] at kk ⊢
      simp only [s261_113, s261_115, s261_116, s261_119, s261_120, s261_123, s261_126, s261_129, s261_130, s261_133, s261_135, s261_136, s261_137, s261_139, s261_140, oB_some, cl2_i, cl2_r, cl2_l, cl2_u, cl2_s, wd_0, wd_i, wd_r, wd_l, wd_f, ct_i, ct_r, ct_n, ct_f, rf_s, rf_n, tl_s, tl_n, true_and, and_true, eq_self, and_self, Nat.reduceAdd, Nat.reduceLeDiff, Nat.zero_le, Nat.reduceEqDiff, or_true, true_or, false_or, or_false, if_true, if_false, gI_0, gI_1, gI_2, gI_3, gI_4, gI_5, gI_6, gI_7, gI_8, gI_9, gI_10, gI_11, gI_12, gI_13, gI_14, gI_15, gL_0, gL_1, gL_2, gL_3, gL_4, gL_5, gL_6, gL_7, gL_8, gL_9, gL_10, gL_11, gL_12, gL_13, gL_14, gL_15, gA_0, gA_1, gA_2, gA_3, gA_4, gA_5, gA_6, gA_7, gA_8, gA_9, gA_10, gA_11, gA_12, gA_13, gA_14, gA_15, p1_0, p1_1, p1_2, p1_3, p1_4, p1_5, p1_6, p1_7, p1_8, p1_9, p1_10, p1_11, p1_12, p1_13, p1_14, p1_15, p2_0, p2_1, p2_2, p2_3, p2_4, p2_5, p2_6, p2_7, p2_8, p2_9, p2_10, p2_11, p2_12, p2_13, p2_14, p2_15, b01_ok, b_ft, b_tf, b01_e0, b01_e1, lgc_0, not_true_eq_false, not_false_eq_true, K2, q2.d, e, not_false_eq_true]
      refine m_forgetsX q2.k g (p1.fd g f2) fun h3 f3 x3 q3 l3 => ?_
      simp only [s261_143, s261_146, oB_some, cl2_i, cl2_r, cl2_l, cl2_u, cl2_s, wd_0, wd_i, wd_r, wd_l, wd_f, ct_i, ct_r, ct_n, ct_f, rf_s, rf_n, tl_s, tl_n, true_and, and_true, eq_self, and_self, Nat.reduceAdd, Nat.reduceLeDiff, Nat.zero_le, Nat.reduceEqDiff, or_true, true_or, false_or, or_false, if_true, if_false, gI_0, gI_1, gI_2, gI_3, gI_4, gI_5, gI_6, gI_7, gI_8, gI_9, gI_10, gI_11, gI_12, gI_13, gI_14, gI_15, gL_0, gL_1, gL_2, gL_3, gL_4, gL_5, gL_6, gL_7, gL_8, gL_9, gL_10, gL_11, gL_12, gL_13, gL_14, gL_15, gA_0, gA_1, gA_2, gA_3, gA_4, gA_5, gA_6, gA_7, gA_8, gA_9, gA_10, gA_11, gA_12, gA_13, gA_14, gA_15, p1_0, p1_1, p1_2, p1_3, p1_4, p1_5, p1_6, p1_7, p1_8, p1_9, p1_10, p1_11, p1_12, p1_13, p1_14, p1_15, p2_0, p2_1, p2_2, p2_3, p2_4, p2_5, p2_6, p2_7, p2_8, p2_9, p2_10, p2_11, p2_12, p2_13, p2_14, p2_15, b01_ok, b_ft, b_tf, b01_e0, b01_e1, lgc_0, not_true_eq_false, not_false_eq_true, nI_1]
      exact kk h3 _ _ (f1.tr (f2.fq.tr f3)) ⟨q3, l3⟩ (x3.1.trans z2)
  have game : ∀ (a : Int32) (gm r i : Nat) (h1 : HP) (T : VS) (zz : Int32), 0 < vn S → i + r = 10 → FQ m h h1 → RM h1 m T → Good T → FMl h1 m 0 false false → KP h1 m 2 S → vn T = vn S → vy T + 12 < 2 ^ 20 → hI h1 m 42 = zz →
      (∀ (h2 : HP) (y3 y4 : Slot), FQ m h h2 → MO h2 m S → hI h2 m 42 = (lotA (vn S) r zz T).1 → WP (d + 7) 261 Q (50, [.val (.ref m), .val (.int (nI n)), .val (.int z), .val (.int what), .val (.int 0), .val (.int (a + gain1 S (dayN 0 false false 12 (lotA (vn S) r zz T).2) what)), .val (.int (nI (gm + 1))), y3, y4], [], h2, 0, 0)) →
      WP (d + 7) 261 Q (83, [.val (.ref m), .val (.int (nI n)), .val (.int z), .val (.int what), .val (.int 0), .val (.int a), .val (.int (nI gm)), .val (.int (if what = 0 then nI (nb (vs S)) else nI (vd S))), .val (.int (nI i))], [], h1, 0, 0) := by
    intro a gm r
    induction r with
    | zero =>
      intro i h1 T zz hv hi f1 q1 g1 l1 p1 n1 y1 z1 kk
      obtain rfl : i = 10 := by omega
      rw [s261_83]
      simp only [s261_85, s261_87, oB_some, cl2_i, cl2_r, cl2_l, cl2_u, cl2_s, wd_0, wd_i, wd_r, wd_l, wd_f, ct_i, ct_r, ct_n, ct_f, rf_s, rf_n, tl_s, tl_n, true_and, and_true, eq_self, and_self, Nat.reduceAdd, Nat.reduceLeDiff, Nat.zero_le, Nat.reduceEqDiff, or_true, true_or, false_or, or_false, if_true, if_false, gI_0, gI_1, gI_2, gI_3, gI_4, gI_5, gI_6, gI_7, gI_8, gI_9, gI_10, gI_11, gI_12, gI_13, gI_14, gI_15, gL_0, gL_1, gL_2, gL_3, gL_4, gL_5, gL_6, gL_7, gL_8, gL_9, gL_10, gL_11, gL_12, gL_13, gL_14, gL_15, gA_0, gA_1, gA_2, gA_3, gA_4, gA_5, gA_6, gA_7, gA_8, gA_9, gA_10, gA_11, gA_12, gA_13, gA_14, gA_15, p1_0, p1_1, p1_2, p1_3, p1_4, p1_5, p1_6, p1_7, p1_8, p1_9, p1_10, p1_11, p1_12, p1_13, p1_14, p1_15, p2_0, p2_1, p2_2, p2_3, p2_4, p2_5, p2_6, p2_7, p2_8, p2_9, p2_10, p2_11, p2_12, p2_13, p2_14, p2_15, b01_ok, b_ft, b_tf, b01_e0, b01_e1, lgc_0, not_true_eq_false, not_false_eq_true]
      rw [if_pos (by decide)]
      exact fin a zz gm h1 T _ f1 q1 g1 l1 p1 y1 z1 kk
    | succ r ih =>
      intro i h1 T zz hv hi f1 q1 g1 l1 p1 n1 y1 z1 kk
      have K1 := q1.k
      unfold MK at K1
      have zA : ¬ (10 : Int32) ≤ nI i := nI_ge (b := 10) (by omega) (by decide)
      have zB : ¬ nI (vn T) ≤ 0 := nI_nle (by omega) (by omega)
      have dl := draw_lt (n := vn T) (nxS zz) (by omega)
      have d4 := draw_lt (n := 40) (nxS (nxS zz)) (by decide)
      rw [lotA_s, ← n1] at kk
      rw [s261_83]
      simp only [s261_85, s261_87, s261_90, s261_91, s261_94, s261_97, s261_98, s261_101, s261_104, oB_some, cl2_i, cl2_r, cl2_l, cl2_u, cl2_s, wd_0, wd_i, wd_r, wd_l, wd_f, ct_i, ct_r, ct_n, ct_f, rf_s, rf_n, tl_s, tl_n, true_and, and_true, eq_self, and_self, Nat.reduceAdd, Nat.reduceLeDiff, Nat.zero_le, Nat.reduceEqDiff, or_true, true_or, false_or, or_false, if_true, if_false, gI_0, gI_1, gI_2, gI_3, gI_4, gI_5, gI_6, gI_7, gI_8, gI_9, gI_10, gI_11, gI_12, gI_13, gI_14, gI_15, gL_0, gL_1, gL_2, gL_3, gL_4, gL_5, gL_6, gL_7, gL_8, gL_9, gL_10, gL_11, gL_12, gL_13, gL_14, gL_15, gA_0, gA_1, gA_2, gA_3, gA_4, gA_5, gA_6, gA_7, gA_8, gA_9, gA_10, gA_11, gA_12, gA_13, gA_14, gA_15, p1_0, p1_1, p1_2, p1_3, p1_4, p1_5, p1_6, p1_7, p1_8, p1_9, p1_10, p1_11, p1_12, p1_13, p1_14, p1_15, p2_0, p2_1, p2_2, p2_3, p2_4, p2_5, p2_6, p2_7, p2_8, p2_9, p2_10, p2_11, p2_12, p2_13, p2_14, p2_15, b01_ok, b_ft, b_tf, b01_e0, b01_e1, lgc_0, not_true_eq_false, not_false_eq_true, K1, q1.n, zA, zB, m_knowsByLot q1 g1 (show 0 < vn T by omega) z1, nI_1]
      have q2 : RM (sL (sI (sI h1 m 42 (nxS zz)) m 42 (nxS (nxS zz))) (m + 9) (drawN (vn T) (nxS zz)) (vw T (drawN (vn T) (nxS zz)) ||| bL (drawN 40 (nxS (nxS zz))))) m (wW T (drawN (vn T) (nxS zz)) (vw T (drawN (vn T) (nxS zz)) ||| bL (drawN 40 (nxS (nxS zz))))) := RM_w (RM_i (RM_i q1 (by decide)) (by decide)) _ _
      have f2 : FQ m h (sL (sI (sI h1 m 42 (nxS zz)) m 42 (nxS (nxS zz))) (m + 9) (drawN (vn T) (nxS zz)) (vw T (drawN (vn T) (nxS zz)) ||| bL (drawN 40 (nxS (nxS zz))))) := ((f1.sI (Or.inl ⟨rfl, by omega⟩)).sI (Or.inl ⟨rfl, by omega⟩)).sL (Or.inr (by omega))
      have l2 : FMl (sL (sI (sI h1 m 42 (nxS zz)) m 42 (nxS (nxS zz))) (m + 9) (drawN (vn T) (nxS zz)) (vw T (drawN (vn T) (nxS zz)) ||| bL (drawN 40 (nxS (nxS zz))))) m 0 false false := ((l1.w (Or.inr (by decide))).w (Or.inr (by decide))).wL
      have p2 : KP (sL (sI (sI h1 m 42 (nxS zz)) m 42 (nxS (nxS zz))) (m + 9) (drawN (vn T) (nxS zz)) (vw T (drawN (vn T) (nxS zz)) ||| bL (drawN 40 (nxS (nxS zz))))) m 2 S := ((p1.w g (by omega)).w g (by omega)).wL g (by omega)
      have z2 : hI (sL (sI (sI h1 m 42 (nxS zz)) m 42 (nxS (nxS zz))) (m + 9) (drawN (vn T) (nxS zz)) (vw T (drawN (vn T) (nxS zz)) ||| bL (drawN 40 (nxS (nxS zz))))) m 42 = nxS (nxS zz) := by rw [hI_sL, hI_sI, if_pos ⟨rfl, rfl⟩]
      refine ih (i + 1) _ _ (nxS (nxS zz)) hv (by omega) f2 q2 (g1.wW (sm_or (g1.at dl).2.2.2.1 (sm_bL d4))) l2 p2 n1 y1 z2 ?_
      rw [← n1]
      exact kk
  have loop : ∀ (r i : Nat) (h1 : HP) (zz a : Int32) (y y2 : Slot), i + r = n → FQ m h h1 → MO h1 m S → hI h1 m 42 = zz → lotsA S what r zz a = lotsA S what n z 0 →
      WP (d + 7) 261 Q (50, [.val (.ref m), .val (.int (nI n)), .val (.int z), .val (.int what), .val (.int 0), .val (.int a), .val (.int (nI i)), y, y2], [], h1, 0, 0) := by
    intro r
    induction r with
    | zero =>
      intro i h1 zz a y y2 hi f1 m1 z1 e1
      have hin : i = n := by omega
      have e2 : a = lotsA S what n z 0 := e1
      rw [hin, s261_50]
      simp only [s261_52, s261_53, s261_149, s261_151, oB_some, cl2_i, cl2_r, cl2_l, cl2_u, cl2_s, wd_0, wd_i, wd_r, wd_l, wd_f, ct_i, ct_r, ct_n, ct_f, rf_s, rf_n, tl_s, tl_n, true_and, and_true, eq_self, and_self, Nat.reduceAdd, Nat.reduceLeDiff, Nat.zero_le, Nat.reduceEqDiff, or_true, true_or, false_or, or_false, if_true, if_false, gI_0, gI_1, gI_2, gI_3, gI_4, gI_5, gI_6, gI_7, gI_8, gI_9, gI_10, gI_11, gI_12, gI_13, gI_14, gI_15, gL_0, gL_1, gL_2, gL_3, gL_4, gL_5, gL_6, gL_7, gL_8, gL_9, gL_10, gL_11, gL_12, gL_13, gL_14, gL_15, gA_0, gA_1, gA_2, gA_3, gA_4, gA_5, gA_6, gA_7, gA_8, gA_9, gA_10, gA_11, gA_12, gA_13, gA_14, gA_15, p1_0, p1_1, p1_2, p1_3, p1_4, p1_5, p1_6, p1_7, p1_8, p1_9, p1_10, p1_11, p1_12, p1_13, p1_14, p1_15, p2_0, p2_1, p2_2, p2_3, p2_4, p2_5, p2_6, p2_7, p2_8, p2_9, p2_10, p2_11, p2_12, p2_13, p2_14, p2_15, b01_ok, b_ft, b_tf, b01_e0, b01_e1, lgc_0, not_true_eq_false, not_false_eq_true, Int32.le_refl]
      rw [e2]
      exact k h1 f1 m1
    | succ r ih =>
      intro i h1 zz a y y2 hi f1 m1 z1 e1
      have K1 := m1.1.k
      unfold MK at K1
      have zA : ¬ nI n ≤ nI i := nI_ge (by omega) (by omega)
      rw [lotsA_s] at e1
      unfold lot1 at e1
      rw [s261_50]
      have cont : WP (d + 7) 261 Q (76, [.val (.ref m), .val (.int (nI n)), .val (.int z), .val (.int what), .val (.int 0), .val (.int a), .val (.int (nI i)), .val (.int (if what = 0 then nI (nb (vs S)) else nI (vd S))), y2], [], h1, 0, 0) := by
        simp only [s261_76, s261_77, oB_some, cl2_i, cl2_r, cl2_l, cl2_u, cl2_s, wd_0, wd_i, wd_r, wd_l, wd_f, ct_i, ct_r, ct_n, ct_f, rf_s, rf_n, tl_s, tl_n, true_and, and_true, eq_self, and_self, Nat.reduceAdd, Nat.reduceLeDiff, Nat.zero_le, Nat.reduceEqDiff, or_true, true_or, false_or, or_false, if_true, if_false, gI_0, gI_1, gI_2, gI_3, gI_4, gI_5, gI_6, gI_7, gI_8, gI_9, gI_10, gI_11, gI_12, gI_13, gI_14, gI_15, gL_0, gL_1, gL_2, gL_3, gL_4, gL_5, gL_6, gL_7, gL_8, gL_9, gL_10, gL_11, gL_12, gL_13, gL_14, gL_15, gA_0, gA_1, gA_2, gA_3, gA_4, gA_5, gA_6, gA_7, gA_8, gA_9, gA_10, gA_11, gA_12, gA_13, gA_14, gA_15, p1_0, p1_1, p1_2, p1_3, p1_4, p1_5, p1_6, p1_7, p1_8, p1_9, p1_10, p1_11, p1_12, p1_13, p1_14, p1_15, p2_0, p2_1, p2_2, p2_3, p2_4, p2_5, p2_6, p2_7, p2_8, p2_9, p2_10, p2_11, p2_12, p2_13, p2_14, p2_15, b01_ok, b_ft, b_tf, b01_e0, b01_e1, lgc_0, not_true_eq_false, not_false_eq_true, K1]
        refine m_mindsX m1.1 g m1.2 fun h2 f2 x2 q2 l2 p2 => ?_
        have K2 := q2.k
        unfold MK at K2
        have z2 : hI h2 m 42 = zz := x2.1.trans z1
        simp only [s261_80, s261_81, oB_some, cl2_i, cl2_r, cl2_l, cl2_u, cl2_s, wd_0, wd_i, wd_r, wd_l, wd_f, ct_i, ct_r, ct_n, ct_f, rf_s, rf_n, tl_s, tl_n, true_and, and_true, eq_self, and_self, Nat.reduceAdd, Nat.reduceLeDiff, Nat.zero_le, Nat.reduceEqDiff, or_true, true_or, false_or, or_false, if_true, if_false, gI_0, gI_1, gI_2, gI_3, gI_4, gI_5, gI_6, gI_7, gI_8, gI_9, gI_10, gI_11, gI_12, gI_13, gI_14, gI_15, gL_0, gL_1, gL_2, gL_3, gL_4, gL_5, gL_6, gL_7, gL_8, gL_9, gL_10, gL_11, gL_12, gL_13, gL_14, gL_15, gA_0, gA_1, gA_2, gA_3, gA_4, gA_5, gA_6, gA_7, gA_8, gA_9, gA_10, gA_11, gA_12, gA_13, gA_14, gA_15, p1_0, p1_1, p1_2, p1_3, p1_4, p1_5, p1_6, p1_7, p1_8, p1_9, p1_10, p1_11, p1_12, p1_13, p1_14, p1_15, p2_0, p2_1, p2_2, p2_3, p2_4, p2_5, p2_6, p2_7, p2_8, p2_9, p2_10, p2_11, p2_12, p2_13, p2_14, p2_15, b01_ok, b_ft, b_tf, b01_e0, b01_e1, lgc_0, not_true_eq_false, not_false_eq_true]
        by_cases hv : vn S = 0
        · simp only [hv, if_true] at e1
          have nn : hI h2 m 11 = nI 0 := by rw [q2.n, hv]
          have zz0 : nI 0 ≤ 0 := Int32.le_refl _
          have z3 : ¬ (10 : Int32) ≤ 0 := by decide
          rw [s261_83]
          simp only [s261_85, s261_87, s261_90, s261_91, s261_94, oB_some, cl2_i, cl2_r, cl2_l, cl2_u, cl2_s, wd_0, wd_i, wd_r, wd_l, wd_f, ct_i, ct_r, ct_n, ct_f, rf_s, rf_n, tl_s, tl_n, true_and, and_true, eq_self, and_self, Nat.reduceAdd, Nat.reduceLeDiff, Nat.zero_le, Nat.reduceEqDiff, or_true, true_or, false_or, or_false, if_true, if_false, gI_0, gI_1, gI_2, gI_3, gI_4, gI_5, gI_6, gI_7, gI_8, gI_9, gI_10, gI_11, gI_12, gI_13, gI_14, gI_15, gL_0, gL_1, gL_2, gL_3, gL_4, gL_5, gL_6, gL_7, gL_8, gL_9, gL_10, gL_11, gL_12, gL_13, gL_14, gL_15, gA_0, gA_1, gA_2, gA_3, gA_4, gA_5, gA_6, gA_7, gA_8, gA_9, gA_10, gA_11, gA_12, gA_13, gA_14, gA_15, p1_0, p1_1, p1_2, p1_3, p1_4, p1_5, p1_6, p1_7, p1_8, p1_9, p1_10, p1_11, p1_12, p1_13, p1_14, p1_15, p2_0, p2_1, p2_2, p2_3, p2_4, p2_5, p2_6, p2_7, p2_8, p2_9, p2_10, p2_11, p2_12, p2_13, p2_14, p2_15, b01_ok, b_ft, b_tf, b01_e0, b01_e1, lgc_0, not_true_eq_false, not_false_eq_true, K2, nn, zz0, z3]
          exact fin a zz i h2 S _ (f1.tr f2) q2 g l2 p2 (by omega) z2 fun h3 y3 y4 f3 m3 z3 => ih (i + 1) h3 zz _ _ _ (by omega) f3 m3 z3 e1
        · simp only [hv, if_false] at e1
          exact game a i 10 0 h2 S zz (by omega) (by omega) (f1.tr f2) q2 g l2 p2 rfl (by omega) z2 fun h3 y3 y4 f3 m3 z3 => ih (i + 1) h3 _ _ _ _ (by omega) f3 m3 z3 e1
      simp only [s261_52, s261_53, s261_56, s261_57, s261_60, s261_61, s261_64, s261_67, s261_70, s261_71, s261_74, oB_some, cl2_i, cl2_r, cl2_l, cl2_u, cl2_s, wd_0, wd_i, wd_r, wd_l, wd_f, ct_i, ct_r, ct_n, ct_f, rf_s, rf_n, tl_s, tl_n, true_and, and_true, eq_self, and_self, Nat.reduceAdd, Nat.reduceLeDiff, Nat.zero_le, Nat.reduceEqDiff, or_true, true_or, false_or, or_false, if_true, if_false, gI_0, gI_1, gI_2, gI_3, gI_4, gI_5, gI_6, gI_7, gI_8, gI_9, gI_10, gI_11, gI_12, gI_13, gI_14, gI_15, gL_0, gL_1, gL_2, gL_3, gL_4, gL_5, gL_6, gL_7, gL_8, gL_9, gL_10, gL_11, gL_12, gL_13, gL_14, gL_15, gA_0, gA_1, gA_2, gA_3, gA_4, gA_5, gA_6, gA_7, gA_8, gA_9, gA_10, gA_11, gA_12, gA_13, gA_14, gA_15, p1_0, p1_1, p1_2, p1_3, p1_4, p1_5, p1_6, p1_7, p1_8, p1_9, p1_10, p1_11, p1_12, p1_13, p1_14, p1_15, p2_0, p2_1, p2_2, p2_3, p2_4, p2_5, p2_6, p2_7, p2_8, p2_9, p2_10, p2_11, p2_12, p2_13, p2_14, p2_15, b01_ok, b_ft, b_tf, b01_e0, b01_e1, lgc_0, not_true_eq_false, not_false_eq_true, K1, zA, m1.1.s, m1.1.d, m_bits]
      by_cases e : what = 0
      · rw [if_neg (not_not_intro e)]
        rw [if_pos e] at cont
        exact cont
      · rw [if_pos e]
        rw [if_neg e] at cont
        exact cont
  have K := M.1.k
  unfold MK at K
  simp only [s261_39, s261_40, s261_41, s261_44, s261_45, s261_47, s261_48, oB_some, cl2_i, cl2_r, cl2_l, cl2_u, cl2_s, wd_0, wd_i, wd_r, wd_l, wd_f, ct_i, ct_r, ct_n, ct_f, rf_s, rf_n, tl_s, tl_n, true_and, and_true, eq_self, and_self, Nat.reduceAdd, Nat.reduceLeDiff, Nat.zero_le, Nat.reduceEqDiff, or_true, true_or, false_or, or_false, if_true, if_false, gI_0, gI_1, gI_2, gI_3, gI_4, gI_5, gI_6, gI_7, gI_8, gI_9, gI_10, gI_11, gI_12, gI_13, gI_14, gI_15, gL_0, gL_1, gL_2, gL_3, gL_4, gL_5, gL_6, gL_7, gL_8, gL_9, gL_10, gL_11, gL_12, gL_13, gL_14, gL_15, gA_0, gA_1, gA_2, gA_3, gA_4, gA_5, gA_6, gA_7, gA_8, gA_9, gA_10, gA_11, gA_12, gA_13, gA_14, gA_15, p1_0, p1_1, p1_2, p1_3, p1_4, p1_5, p1_6, p1_7, p1_8, p1_9, p1_10, p1_11, p1_12, p1_13, p1_14, p1_15, p2_0, p2_1, p2_2, p2_3, p2_4, p2_5, p2_6, p2_7, p2_8, p2_9, p2_10, p2_11, p2_12, p2_13, p2_14, p2_15, b01_ok, b_ft, b_tf, b01_e0, b01_e1, lgc_0, not_true_eq_false, not_false_eq_true, z_hkd_sI, z_hln_sI, z_hL_sI, z_hR_sI, z_hnx_sI, z_hkd_sL, z_hln_sL, z_hI_sL, z_hR_sL, z_hnx_sL, z_hkd_sR, z_hln_sR, z_hI_sR, z_hL_sR, z_hnx_sR, z_hkd_cI, z_hln_cI, z_hL_cI, z_hR_cI, z_hnx_cI, z_hkd_cLg, z_hln_cLg, z_hI_cLg, z_hR_cLg, z_hnx_cLg, K]
  exact loop n 0 (sI h m 42 z) z 0 _ _ (by omega) (FQ.rf.sI (Or.inl ⟨rfl, by omega⟩)) ⟨RM_i M.1 (by decide), M.2.w (Or.inr (by decide))⟩ (by rw [hI_sI, if_pos ⟨rfl, rfl⟩]) rfl
-- rarest
def nobA (S : VS) (n : Nat) : Nat := sumN (fun s => if howKnow S s = 0 then 1 else 0) n
theorem orN_hb {f : Nat → Int64} {s : Nat} : ∀ n, hb (orN f n) s = true ↔ ∃ i, i < n ∧ hb (f i) s = true
  | 0 => by
    show hb 0 s = true ↔ _
    rw [hb_0]
    simp
  | n + 1 => by
    show hb (orN f n ||| f n) s = true ↔ _
    rw [hb_or, Bool.or_eq_true, orN_hb n]
    constructor
    · rintro (⟨i, hi, e⟩ | e)
      · exact ⟨i, by omega, e⟩
      · exact ⟨n, by omega, e⟩
    · rintro ⟨i, hi, e⟩
      by_cases c : i = n
      · exact Or.inr (by rw [← c]; exact e)
      · exact Or.inl ⟨i, by omega, e⟩
theorem sumN_0 {f : Nat → Nat} : ∀ n, sumN f n = 0 ↔ ∀ i, i < n → f i = 0
  | 0 => ⟨fun _ i hi => by omega, fun _ => rfl⟩
  | n + 1 => by
    rw [sumN_s]
    constructor
    · intro h i hi
      by_cases c : i = n
      · rw [c]; omega
      · exact (sumN_0 n).mp (by omega) i (by omega)
    · intro h
      have := (sumN_0 n).mpr fun i hi => h i (by omega)
      have := h n (by omega)
      omega
theorem know0 {S : VS} {s : Nat} : howKnow S s = 0 ↔ hb (anyW S) s = false := by
  unfold howKnow anyW
  rw [sumN_0]
  have o := orN_hb (f := vw S) (s := s) (vn S)
  constructor
  · intro h
    cases e : hb (orN (vw S) (vn S)) s with
    | false => rfl
    | true =>
      obtain ⟨i, hi, e2⟩ := o.mp e
      have := h i hi
      rw [if_pos e2] at this
      cases this
  · intro h i hi
    rw [if_neg]
    intro e
    have := o.mpr ⟨i, hi, e⟩
    rw [h] at this
    cases this
theorem nob_eq {S : VS} : ∀ n, nobA S n + nbU n (anyW S) = n
  | 0 => rfl
  | n + 1 => by
    have ih := @nob_eq S n
    unfold nobA at *
    rw [sumN_s, nbU_succ]
    by_cases c : hb (anyW S) n = true
    · rw [if_pos c, if_neg (fun z => by rw [know0.mp z] at c; cases c)]
      omega
    · rw [if_neg c, if_pos (know0.mpr (by simpa using c))]
      omega
theorem rareA_s (S : VS) (n : Nat) (b : Option Nat × Nat) : rareA S (n + 1) b = rareA S n (if 0 < howKnow S (40 - (n + 1)) ∧ howKnow S (40 - (n + 1)) < b.2 then (some (40 - (n + 1)), howKnow S (40 - (n + 1))) else b) := rfl
set_option maxHeartbeats 8000000 in
theorem b_rarest {d : Nat} {w : Int32} {Q : PQ} {h : HP} {m : Nat} {S : VS} (M : MO h m S) (g : Good S)
    (k : Q (some (.int (aRarest S w))) h) (hw : w = 0 ∨ w = 1 ∨ w = 2) : WP (d + 3) 231 Q (16, [.val (.ref m), .val (.int w), .unset, .unset, .unset, .unset], [], h, 0, 0) := by
  have K := M.1.k
  unfold MK at K
  have gn := g.n
  have loop : ∀ (n j : Nat) (b : Option Nat × Nat) (y : Slot), j + n = 40 → (b.1 = none → b.2 = 7) → (∀ a, b.1 = some a → a < 40 ∧ b.2 = howKnow S a) → b.2 ≤ 7 → (rareA S n b).1 = (rareA S 40 (none, 7)).1 →
      WP (d + 3) 231 Q (24, [.val (.ref m), .val (.int w), .val (.int (oN b.1)), .val (.int (nI (nobA S j))), .val (.int (nI j)), y], [], h, 0, 0) := by
    intro n
    induction n with
    | zero =>
      intro j b y hj b0 b1 b2 e1
      obtain rfl : j = 40 := by omega
      have e2 : b.1 = (rareA S 40 (none, 7)).1 := e1
      have ne := @nob_eq S 40
      have en : nI (nobA S 40) = 40 - nI (nb (anyW S)) := by
        have : (40 : Int32) - nI (nb (anyW S)) = nI (40 - nb (anyW S)) := pk_sub (a := 40) (nb_le _)
        rw [this]
        congr 1
        unfold nb
        omega
      unfold aRarest at k
      rw [← e2] at k
      rw [s231_24]
      cases eb : b.1 with
      | none =>
        rw [eb] at k
        have zn : ¬ (0 : Int32) ≤ -9 := by decide
        simp only [s231_26, s231_28, s231_80, s231_81, s231_82, s231_85, s231_86, s231_89, s231_90, s231_93, s231_94, s231_97, s231_98, s231_101, s231_102, s231_105, s231_106, s231_107, s231_110, oB_some, cl2_i, cl2_r, cl2_l, cl2_u, cl2_s, wd_0, wd_i, wd_r, wd_l, wd_f, ct_i, ct_r, ct_n, ct_f, rf_s, rf_n, tl_s, tl_n, true_and, and_true, eq_self, and_self, Nat.reduceAdd, Nat.reduceLeDiff, Nat.zero_le, Nat.reduceEqDiff, or_true, true_or, false_or, or_false, if_true, if_false, gI_0, gI_1, gI_2, gI_3, gI_4, gI_5, gI_6, gI_7, gI_8, gI_9, gI_10, gI_11, gI_12, gI_13, gI_14, gI_15, gL_0, gL_1, gL_2, gL_3, gL_4, gL_5, gL_6, gL_7, gL_8, gL_9, gL_10, gL_11, gL_12, gL_13, gL_14, gL_15, gA_0, gA_1, gA_2, gA_3, gA_4, gA_5, gA_6, gA_7, gA_8, gA_9, gA_10, gA_11, gA_12, gA_13, gA_14, gA_15, p1_0, p1_1, p1_2, p1_3, p1_4, p1_5, p1_6, p1_7, p1_8, p1_9, p1_10, p1_11, p1_12, p1_13, p1_14, p1_15, p2_0, p2_1, p2_2, p2_3, p2_4, p2_5, p2_6, p2_7, p2_8, p2_9, p2_10, p2_11, p2_12, p2_13, p2_14, p2_15, b01_ok, b_ft, b_tf, b01_e0, b01_e1, lgc_0, not_true_eq_false, not_false_eq_true, K, oN_none, zn]
        rw [if_pos (by decide)]
        rcases hw with rfl | rfl | rfl
        · exact k
        · exact k
        · rw [en]
          exact k
      | some a =>
        rw [eb] at k
        have a4 := (b1 a eb).1
        have az : 0 ≤ nI a := nI_pos' (by omega)
        simp only [s231_26, s231_28, s231_80, s231_81, s231_82, s231_85, s231_86, s231_89, s231_90, s231_93, s231_94, s231_97, s231_98, s231_101, s231_102, s231_105, s231_106, s231_107, s231_110, oB_some, cl2_i, cl2_r, cl2_l, cl2_u, cl2_s, wd_0, wd_i, wd_r, wd_l, wd_f, ct_i, ct_r, ct_n, ct_f, rf_s, rf_n, tl_s, tl_n, true_and, and_true, eq_self, and_self, Nat.reduceAdd, Nat.reduceLeDiff, Nat.zero_le, Nat.reduceEqDiff, or_true, true_or, false_or, or_false, if_true, if_false, gI_0, gI_1, gI_2, gI_3, gI_4, gI_5, gI_6, gI_7, gI_8, gI_9, gI_10, gI_11, gI_12, gI_13, gI_14, gI_15, gL_0, gL_1, gL_2, gL_3, gL_4, gL_5, gL_6, gL_7, gL_8, gL_9, gL_10, gL_11, gL_12, gL_13, gL_14, gL_15, gA_0, gA_1, gA_2, gA_3, gA_4, gA_5, gA_6, gA_7, gA_8, gA_9, gA_10, gA_11, gA_12, gA_13, gA_14, gA_15, p1_0, p1_1, p1_2, p1_3, p1_4, p1_5, p1_6, p1_7, p1_8, p1_9, p1_10, p1_11, p1_12, p1_13, p1_14, p1_15, p2_0, p2_1, p2_2, p2_3, p2_4, p2_5, p2_6, p2_7, p2_8, p2_9, p2_10, p2_11, p2_12, p2_13, p2_14, p2_15, b01_ok, b_ft, b_tf, b01_e0, b01_e1, lgc_0, not_true_eq_false, not_false_eq_true, K, oN_some, az, m_knowers M.1 g (show a < 64 by omega)]
        rw [if_pos (by decide)]
        rcases hw with rfl | rfl | rfl
        · exact k
        · exact k
        · rw [en]
          exact k
    | succ n ih =>
      intro j b y hj b0 b1 b2 e1
      have z : ¬ (40 : Int32) ≤ nI j := nI_ge (b := 40) (by omega) (by decide)
      have hk := @howKnow_le S j
      have ej : 40 - (n + 1) = j := by omega
      have l0 : (nI (howKnow S j) ≤ 0) = (howKnow S j ≤ 0) := leP (b := 0) (by omega) (by decide)
      have ez : (nI (howKnow S j) = 0) = (howKnow S j = 0) := eq_l0 (by omega)
      rw [rareA_s, ej] at e1
      have next : ∀ (b3 : Option Nat × Nat), (b3.1 = none → b3.2 = 7) → (∀ a, b3.1 = some a → a < 40 ∧ b3.2 = howKnow S a) → b3.2 ≤ 7 → (rareA S n b3).1 = (rareA S 40 (none, 7)).1 → WP (d + 3) 231 Q (74, [.val (.ref m), .val (.int w), .val (.int (oN b3.1)), .val (.int (nI (nobA S (j + 1)))), .val (.int (nI j)), .val (.int (nI (howKnow S j)))], [], h, 0, 0) := by
        intro b3 c0 c1 c2 e3
        simp only [s231_74, s231_77, oB_some, cl2_i, cl2_r, cl2_l, cl2_u, cl2_s, wd_0, wd_i, wd_r, wd_l, wd_f, ct_i, ct_r, ct_n, ct_f, rf_s, rf_n, tl_s, tl_n, true_and, and_true, eq_self, and_self, Nat.reduceAdd, Nat.reduceLeDiff, Nat.zero_le, Nat.reduceEqDiff, or_true, true_or, false_or, or_false, if_true, if_false, gI_0, gI_1, gI_2, gI_3, gI_4, gI_5, gI_6, gI_7, gI_8, gI_9, gI_10, gI_11, gI_12, gI_13, gI_14, gI_15, gL_0, gL_1, gL_2, gL_3, gL_4, gL_5, gL_6, gL_7, gL_8, gL_9, gL_10, gL_11, gL_12, gL_13, gL_14, gL_15, gA_0, gA_1, gA_2, gA_3, gA_4, gA_5, gA_6, gA_7, gA_8, gA_9, gA_10, gA_11, gA_12, gA_13, gA_14, gA_15, p1_0, p1_1, p1_2, p1_3, p1_4, p1_5, p1_6, p1_7, p1_8, p1_9, p1_10, p1_11, p1_12, p1_13, p1_14, p1_15, p2_0, p2_1, p2_2, p2_3, p2_4, p2_5, p2_6, p2_7, p2_8, p2_9, p2_10, p2_11, p2_12, p2_13, p2_14, p2_15, b01_ok, b_ft, b_tf, b01_e0, b01_e1, lgc_0, not_true_eq_false, not_false_eq_true, nI_1]
        exact ih (j + 1) b3 _ (by omega) c0 c1 c2 e3
      have ns : nobA S (j + 1) = nobA S j + (if howKnow S j = 0 then 1 else 0) := rfl
      have mid : ∀ v, v = nI (nobA S (j + 1)) → WP (d + 3) 231 Q (52, [.val (.ref m), .val (.int w), .val (.int (oN b.1)), .val (.int v), .val (.int (nI j)), .val (.int (nI (howKnow S j)))], [], h, 0, 0) := by
        rintro v rfl
        cases eb : b.1 with
        | none =>
          have zn : ¬ (0 : Int32) ≤ -9 := by decide
          have z9 : (-9 : Int32) < 0 := by decide
          simp only [s231_52, s231_54, s231_57, s231_58, s231_61, s231_63, s231_64, s231_65, s231_68, s231_71, s231_73, oB_some, cl2_i, cl2_r, cl2_l, cl2_u, cl2_s, wd_0, wd_i, wd_r, wd_l, wd_f, ct_i, ct_r, ct_n, ct_f, rf_s, rf_n, tl_s, tl_n, true_and, and_true, eq_self, and_self, Nat.reduceAdd, Nat.reduceLeDiff, Nat.zero_le, Nat.reduceEqDiff, or_true, true_or, false_or, or_false, if_true, if_false, gI_0, gI_1, gI_2, gI_3, gI_4, gI_5, gI_6, gI_7, gI_8, gI_9, gI_10, gI_11, gI_12, gI_13, gI_14, gI_15, gL_0, gL_1, gL_2, gL_3, gL_4, gL_5, gL_6, gL_7, gL_8, gL_9, gL_10, gL_11, gL_12, gL_13, gL_14, gL_15, gA_0, gA_1, gA_2, gA_3, gA_4, gA_5, gA_6, gA_7, gA_8, gA_9, gA_10, gA_11, gA_12, gA_13, gA_14, gA_15, p1_0, p1_1, p1_2, p1_3, p1_4, p1_5, p1_6, p1_7, p1_8, p1_9, p1_10, p1_11, p1_12, p1_13, p1_14, p1_15, p2_0, p2_1, p2_2, p2_3, p2_4, p2_5, p2_6, p2_7, p2_8, p2_9, p2_10, p2_11, p2_12, p2_13, p2_14, p2_15, b01_ok, b_ft, b_tf, b01_e0, b01_e1, lgc_0, not_true_eq_false, not_false_eq_true, K, oN_none, l0, z9]
          by_cases c : howKnow S j ≤ 0
          · rw [if_pos c]
            rw [if_neg (by omega)] at e1
            have nx := next b b0 b1 b2 e1
            rw [eb] at nx
            exact nx
          · rw [if_neg c]
            rw [if_pos ⟨by omega, by rw [b0 eb]; omega⟩] at e1
            exact next (some j, howKnow S j) (fun q => by cases q) (fun a ha => by cases ha; exact ⟨by omega, rfl⟩) (show howKnow S j ≤ 7 by omega) e1
        | some a =>
          obtain ⟨a4, ab⟩ := b1 a eb
          have a0 : ¬ nI a < 0 := nI_pos (by omega)
          simp only [s231_52, s231_54, s231_57, s231_58, s231_61, s231_63, s231_64, s231_65, s231_68, s231_71, s231_73, oB_some, cl2_i, cl2_r, cl2_l, cl2_u, cl2_s, wd_0, wd_i, wd_r, wd_l, wd_f, ct_i, ct_r, ct_n, ct_f, rf_s, rf_n, tl_s, tl_n, true_and, and_true, eq_self, and_self, Nat.reduceAdd, Nat.reduceLeDiff, Nat.zero_le, Nat.reduceEqDiff, or_true, true_or, false_or, or_false, if_true, if_false, gI_0, gI_1, gI_2, gI_3, gI_4, gI_5, gI_6, gI_7, gI_8, gI_9, gI_10, gI_11, gI_12, gI_13, gI_14, gI_15, gL_0, gL_1, gL_2, gL_3, gL_4, gL_5, gL_6, gL_7, gL_8, gL_9, gL_10, gL_11, gL_12, gL_13, gL_14, gL_15, gA_0, gA_1, gA_2, gA_3, gA_4, gA_5, gA_6, gA_7, gA_8, gA_9, gA_10, gA_11, gA_12, gA_13, gA_14, gA_15, p1_0, p1_1, p1_2, p1_3, p1_4, p1_5, p1_6, p1_7, p1_8, p1_9, p1_10, p1_11, p1_12, p1_13, p1_14, p1_15, p2_0, p2_1, p2_2, p2_3, p2_4, p2_5, p2_6, p2_7, p2_8, p2_9, p2_10, p2_11, p2_12, p2_13, p2_14, p2_15, b01_ok, b_ft, b_tf, b01_e0, b01_e1, lgc_0, not_true_eq_false, not_false_eq_true, K, oN_some, l0, a0, m_knowers M.1 g (show a < 64 by omega), leP (show howKnow S a < 2 ^ 31 by omega) (show howKnow S j < 2 ^ 31 by omega)]
          by_cases c : howKnow S j ≤ 0
          · rw [if_pos c]
            rw [if_neg (by omega)] at e1
            have nx := next b b0 b1 b2 e1
            rw [eb] at nx
            exact nx
          · rw [if_neg c]
            by_cases c2 : howKnow S a ≤ howKnow S j
            · rw [if_pos c2]
              rw [if_neg (by omega)] at e1
              have nx := next b b0 b1 b2 e1
              rw [eb] at nx
              exact nx
            · rw [if_neg c2]
              rw [if_pos ⟨by omega, by omega⟩] at e1
              exact next (some j, howKnow S j) (fun q => by cases q) (fun a ha => by cases ha; exact ⟨by omega, rfl⟩) (show howKnow S j ≤ 7 by omega) e1
      rw [s231_24]
      simp only [s231_26, s231_28, s231_31, s231_32, s231_34, s231_37, s231_39, s231_40, s231_42, s231_45, s231_46, s231_49, s231_50, s231_51, oB_some, cl2_i, cl2_r, cl2_l, cl2_u, cl2_s, wd_0, wd_i, wd_r, wd_l, wd_f, ct_i, ct_r, ct_n, ct_f, rf_s, rf_n, tl_s, tl_n, true_and, and_true, eq_self, and_self, Nat.reduceAdd, Nat.reduceLeDiff, Nat.zero_le, Nat.reduceEqDiff, or_true, true_or, false_or, or_false, if_true, if_false, gI_0, gI_1, gI_2, gI_3, gI_4, gI_5, gI_6, gI_7, gI_8, gI_9, gI_10, gI_11, gI_12, gI_13, gI_14, gI_15, gL_0, gL_1, gL_2, gL_3, gL_4, gL_5, gL_6, gL_7, gL_8, gL_9, gL_10, gL_11, gL_12, gL_13, gL_14, gL_15, gA_0, gA_1, gA_2, gA_3, gA_4, gA_5, gA_6, gA_7, gA_8, gA_9, gA_10, gA_11, gA_12, gA_13, gA_14, gA_15, p1_0, p1_1, p1_2, p1_3, p1_4, p1_5, p1_6, p1_7, p1_8, p1_9, p1_10, p1_11, p1_12, p1_13, p1_14, p1_15, p2_0, p2_1, p2_2, p2_3, p2_4, p2_5, p2_6, p2_7, p2_8, p2_9, p2_10, p2_11, p2_12, p2_13, p2_14, p2_15, b01_ok, b_ft, b_tf, b01_e0, b01_e1, lgc_0, not_true_eq_false, not_false_eq_true, K, z, m_knowers M.1 g (show j < 64 by omega), ez, Int32.add_zero, nI_1]
      by_cases c : howKnow S j = 0
      · rw [if_neg (not_not_intro c)]
        exact mid _ (by rw [ns, if_pos c])
      · rw [if_pos c]
        exact mid _ (by rw [ns, if_neg c]; rfl)
  simp only [s231_16, s231_18, s231_19, s231_20, s231_21, s231_22, oB_some, cl2_i, cl2_r, cl2_l, cl2_u, cl2_s, wd_0, wd_i, wd_r, wd_l, wd_f, ct_i, ct_r, ct_n, ct_f, rf_s, rf_n, tl_s, tl_n, true_and, and_true, eq_self, and_self, Nat.reduceAdd, Nat.reduceLeDiff, Nat.zero_le, Nat.reduceEqDiff, or_true, true_or, false_or, or_false, if_true, if_false, gI_0, gI_1, gI_2, gI_3, gI_4, gI_5, gI_6, gI_7, gI_8, gI_9, gI_10, gI_11, gI_12, gI_13, gI_14, gI_15, gL_0, gL_1, gL_2, gL_3, gL_4, gL_5, gL_6, gL_7, gL_8, gL_9, gL_10, gL_11, gL_12, gL_13, gL_14, gL_15, gA_0, gA_1, gA_2, gA_3, gA_4, gA_5, gA_6, gA_7, gA_8, gA_9, gA_10, gA_11, gA_12, gA_13, gA_14, gA_15, p1_0, p1_1, p1_2, p1_3, p1_4, p1_5, p1_6, p1_7, p1_8, p1_9, p1_10, p1_11, p1_12, p1_13, p1_14, p1_15, p2_0, p2_1, p2_2, p2_3, p2_4, p2_5, p2_6, p2_7, p2_8, p2_9, p2_10, p2_11, p2_12, p2_13, p2_14, p2_15, b01_ok, b_ft, b_tf, b01_e0, b01_e1, lgc_0, not_true_eq_false, not_false_eq_true]
  exact loop 40 0 (none, 7) _ (by omega) (fun _ => rfl) (fun a ha => by cases ha) (Nat.le_refl _) rfl
theorem nb_0 : nb 0 = 0 := by decide +kernel
theorem nb_ne {x : Int64} (hs : sm x) (h : ¬ x = 0) : 0 < nb x := by
  apply Classical.byContradiction
  intro c
  apply h
  have : ∀ n, nbU n x = 0 → ∀ k, k < n → hb x k = false := fun n => by
    induction n with
    | zero => intro _ k hk; omega
    | succ n ih =>
      intro h0 k hk
      rw [nbU_succ] at h0
      by_cases e : hb x n = true
      · rw [if_pos e] at h0; omega
      · by_cases c : k = n
        · rw [c]; simpa using e
        · exact ih (by omega) k (by omega)
  apply hb_ext
  intro k hk
  rw [hb_0]
  by_cases h40 : k < 40
  · exact this 40 (by unfold nb at c; omega) k h40
  · exact hs k (by omega)
theorem anyW_sm {S : VS} (g : Good S) : sm (anyW S) := by
  unfold anyW
  have : ∀ n, n ≤ vn S → sm (orN (vw S) n) := fun n => by
    induction n with
    | zero => intro _; exact sm_0
    | succ n ih => intro hn; exact sm_or (ih (by omega)) (g.at (by omega)).2.2.2.1
  exact this _ (Nat.le_refl _)
set_option maxHeartbeats 4000000 in
theorem b_share {d : Nat} {w : Int32} {Q : PQ} {h : HP} {m : Nat} {S : VS} (M : MO h m S) (g : Good S) (hw : w = 0 ∨ w = 1)
    (k : Q (some (.long (aShare S w))) h) : WP (d + 2) 234 Q (16, [.val (.ref m), .val (.int w), .unset, .unset, .unset], [], h, 0, 0) := by
  have K := M.1.k
  unfold MK at K
  have gn := g.n
  have n1 := nb_le (vs S)
  have n2 := nb_le (vs S ||| anyW S)
  have ss : sm (vs S ||| anyW S) := sm_or g.s (anyW_sm g)
  have loop : ∀ (n i : Nat), i + n = vn S → WP (d + 2) 234 Q (24, [.val (.ref m), .val (.int w), .val (.long (vs S ||| orN (vw S) i)), .second, .val (.int (nI i))], [], h, 0, 0) := by
    intro n
    induction n with
    | zero =>
      intro i hi
      obtain rfl : i = vn S := by omega
      have ea : orN (vw S) (vn S) = anyW S := rfl
      unfold aShare at k
      rw [ea, s234_24]
      by_cases e : vs S ||| anyW S = 0
      · have b0 : nb (vs S ||| anyW S) = 0 := by rw [e]; exact nb_0
        have fr : fracN (nb (vs S)) (nb (vs S ||| anyW S)) w = if w = 0 then 0 else 1 := by unfold fracN; rw [if_pos (Or.inr b0)]
        rw [fr] at k
        simp only [s234_26, s234_27, s234_30, s234_49, s234_50, s234_51, s234_52, s234_55, s234_56, s234_57, s234_60, s234_61, s234_64, s234_67, s234_68, s234_69, s234_72, s234_73, s234_74, s234_77, oB_some, cl2_i, cl2_r, cl2_l, cl2_u, cl2_s, wd_0, wd_i, wd_r, wd_l, wd_f, ct_i, ct_r, ct_n, ct_f, rf_s, rf_n, tl_s, tl_n, true_and, and_true, eq_self, and_self, Nat.reduceAdd, Nat.reduceLeDiff, Nat.zero_le, Nat.reduceEqDiff, or_true, true_or, false_or, or_false, if_true, if_false, gI_0, gI_1, gI_2, gI_3, gI_4, gI_5, gI_6, gI_7, gI_8, gI_9, gI_10, gI_11, gI_12, gI_13, gI_14, gI_15, gL_0, gL_1, gL_2, gL_3, gL_4, gL_5, gL_6, gL_7, gL_8, gL_9, gL_10, gL_11, gL_12, gL_13, gL_14, gL_15, gA_0, gA_1, gA_2, gA_3, gA_4, gA_5, gA_6, gA_7, gA_8, gA_9, gA_10, gA_11, gA_12, gA_13, gA_14, gA_15, p1_0, p1_1, p1_2, p1_3, p1_4, p1_5, p1_6, p1_7, p1_8, p1_9, p1_10, p1_11, p1_12, p1_13, p1_14, p1_15, p2_0, p2_1, p2_2, p2_3, p2_4, p2_5, p2_6, p2_7, p2_8, p2_9, p2_10, p2_11, p2_12, p2_13, p2_14, p2_15, b01_ok, b_ft, b_tf, b01_e0, b01_e1, lgc_0, not_true_eq_false, not_false_eq_true, K, M.1.n, Int32.le_refl, e, not_true_eq_false]
        rcases hw with rfl | rfl
        · exact k
        · exact k
      · simp only [s234_26, s234_27, s234_30, s234_49, s234_50, s234_51, s234_52, s234_55, s234_56, s234_57, s234_60, s234_61, s234_64, s234_67, s234_68, s234_69, s234_72, s234_73, s234_74, s234_77, oB_some, cl2_i, cl2_r, cl2_l, cl2_u, cl2_s, wd_0, wd_i, wd_r, wd_l, wd_f, ct_i, ct_r, ct_n, ct_f, rf_s, rf_n, tl_s, tl_n, true_and, and_true, eq_self, and_self, Nat.reduceAdd, Nat.reduceLeDiff, Nat.zero_le, Nat.reduceEqDiff, or_true, true_or, false_or, or_false, if_true, if_false, gI_0, gI_1, gI_2, gI_3, gI_4, gI_5, gI_6, gI_7, gI_8, gI_9, gI_10, gI_11, gI_12, gI_13, gI_14, gI_15, gL_0, gL_1, gL_2, gL_3, gL_4, gL_5, gL_6, gL_7, gL_8, gL_9, gL_10, gL_11, gL_12, gL_13, gL_14, gL_15, gA_0, gA_1, gA_2, gA_3, gA_4, gA_5, gA_6, gA_7, gA_8, gA_9, gA_10, gA_11, gA_12, gA_13, gA_14, gA_15, p1_0, p1_1, p1_2, p1_3, p1_4, p1_5, p1_6, p1_7, p1_8, p1_9, p1_10, p1_11, p1_12, p1_13, p1_14, p1_15, p2_0, p2_1, p2_2, p2_3, p2_4, p2_5, p2_6, p2_7, p2_8, p2_9, p2_10, p2_11, p2_12, p2_13, p2_14, p2_15, b01_ok, b_ft, b_tf, b01_e0, b01_e1, lgc_0, not_true_eq_false, not_false_eq_true, K, M.1.n, M.1.s, Int32.le_refl, e, not_false_eq_true, m_bits, nI_l (show nb (vs S) < 2 ^ 31 by omega), nI_l (show nb (vs S ||| anyW S) < 2 ^ 31 by omega), m_partOf (show nb (vs S) < 2 ^ 40 by omega) (show nb (vs S ||| anyW S) < 2 ^ 40 by omega) (nb_ne ss e)]
        exact k
    | succ n ih =>
      intro i hi
      have hp : i < vn S := by omega
      have p6 : i < 6 := by omega
      have p31 : i < 2 ^ 31 := by omega
      have z : ¬ nI (vn S) ≤ nI i := nI_ge (by omega) (by omega)
      have eo : (vs S ||| orN (vw S) i) ||| vw S i = vs S ||| orN (vw S) (i + 1) := Int64.or_assoc ..
      rw [s234_24]
      simp only [s234_26, s234_27, s234_30, s234_33, s234_34, s234_35, s234_38, s234_40, s234_41, s234_42, s234_43, s234_46, oB_some, cl2_i, cl2_r, cl2_l, cl2_u, cl2_s, wd_0, wd_i, wd_r, wd_l, wd_f, ct_i, ct_r, ct_n, ct_f, rf_s, rf_n, tl_s, tl_n, true_and, and_true, eq_self, and_self, Nat.reduceAdd, Nat.reduceLeDiff, Nat.zero_le, Nat.reduceEqDiff, or_true, true_or, false_or, or_false, if_true, if_false, gI_0, gI_1, gI_2, gI_3, gI_4, gI_5, gI_6, gI_7, gI_8, gI_9, gI_10, gI_11, gI_12, gI_13, gI_14, gI_15, gL_0, gL_1, gL_2, gL_3, gL_4, gL_5, gL_6, gL_7, gL_8, gL_9, gL_10, gL_11, gL_12, gL_13, gL_14, gL_15, gA_0, gA_1, gA_2, gA_3, gA_4, gA_5, gA_6, gA_7, gA_8, gA_9, gA_10, gA_11, gA_12, gA_13, gA_14, gA_15, p1_0, p1_1, p1_2, p1_3, p1_4, p1_5, p1_6, p1_7, p1_8, p1_9, p1_10, p1_11, p1_12, p1_13, p1_14, p1_15, p2_0, p2_1, p2_2, p2_3, p2_4, p2_5, p2_6, p2_7, p2_8, p2_9, p2_10, p2_11, p2_12, p2_13, p2_14, p2_15, b01_ok, b_ft, b_tf, b01_e0, b01_e1, lgc_0, not_true_eq_false, not_false_eq_true, K, M.1.n, z, (M.1.at hp).2.2.2.1, ix_nI p31, nI_pos' p31, p6, eo, nI_1]
      exact ih (i + 1) (by omega)
  have e0 : vs S = vs S ||| orN (vw S) 0 := Int64.or_zero.symm
  simp only [s234_16, s234_17, s234_20, s234_21, s234_22, oB_some, cl2_i, cl2_r, cl2_l, cl2_u, cl2_s, wd_0, wd_i, wd_r, wd_l, wd_f, ct_i, ct_r, ct_n, ct_f, rf_s, rf_n, tl_s, tl_n, true_and, and_true, eq_self, and_self, Nat.reduceAdd, Nat.reduceLeDiff, Nat.zero_le, Nat.reduceEqDiff, or_true, true_or, false_or, or_false, if_true, if_false, gI_0, gI_1, gI_2, gI_3, gI_4, gI_5, gI_6, gI_7, gI_8, gI_9, gI_10, gI_11, gI_12, gI_13, gI_14, gI_15, gL_0, gL_1, gL_2, gL_3, gL_4, gL_5, gL_6, gL_7, gL_8, gL_9, gL_10, gL_11, gL_12, gL_13, gL_14, gL_15, gA_0, gA_1, gA_2, gA_3, gA_4, gA_5, gA_6, gA_7, gA_8, gA_9, gA_10, gA_11, gA_12, gA_13, gA_14, gA_15, p1_0, p1_1, p1_2, p1_3, p1_4, p1_5, p1_6, p1_7, p1_8, p1_9, p1_10, p1_11, p1_12, p1_13, p1_14, p1_15, p2_0, p2_1, p2_2, p2_3, p2_4, p2_5, p2_6, p2_7, p2_8, p2_9, p2_10, p2_11, p2_12, p2_13, p2_14, p2_15, b01_ok, b_ft, b_tf, b01_e0, b01_e1, lgc_0, not_true_eq_false, not_false_eq_true, K, M.1.s]
  rw [e0]
  exact loop (vn S) 0 (by omega)
set_option maxHeartbeats 4000000 in
theorem b_kinds {d c : Nat} {Q : PQ} {h : HP} {m : Nat} {S : VS} (M : MO h m S) (g : Good S) (hc : c < 2 ^ 31)
    (k : Q (some (.int (nI (howOf S c)))) h) : WP (d + 1) 250 Q (17, [.val (.ref m), .val (.int (nI c)), .unset, .unset], [], h, 0, 0) := by
  have K := M.1.k
  unfold MK at K
  have gn := g.n
  have loop : ∀ (n i : Nat), i + n = vn S → WP (d + 1) 250 Q (21, [.val (.ref m), .val (.int (nI c)), .val (.int (nI (sumN (fun i => if vk S i = c then 1 else 0) i))), .val (.int (nI i))], [], h, 0, 0) := by
    intro n
    induction n with
    | zero =>
      intro i hi
      obtain rfl : i = vn S := by omega
      rw [s250_21]
      simp only [s250_22, s250_23, s250_26, s250_29, s250_30, s250_31, s250_34, s250_35, s250_36, s250_37, s250_40, s250_41, s250_44, s250_45, s250_46, s250_47, s250_50, s250_53, s250_54, oB_some, cl2_i, cl2_r, cl2_l, cl2_u, cl2_s, wd_0, wd_i, wd_r, wd_l, wd_f, ct_i, ct_r, ct_n, ct_f, rf_s, rf_n, tl_s, tl_n, true_and, and_true, eq_self, and_self, Nat.reduceAdd, Nat.reduceLeDiff, Nat.zero_le, Nat.reduceEqDiff, or_true, true_or, false_or, or_false, if_true, if_false, gI_0, gI_1, gI_2, gI_3, gI_4, gI_5, gI_6, gI_7, gI_8, gI_9, gI_10, gI_11, gI_12, gI_13, gI_14, gI_15, gL_0, gL_1, gL_2, gL_3, gL_4, gL_5, gL_6, gL_7, gL_8, gL_9, gL_10, gL_11, gL_12, gL_13, gL_14, gL_15, gA_0, gA_1, gA_2, gA_3, gA_4, gA_5, gA_6, gA_7, gA_8, gA_9, gA_10, gA_11, gA_12, gA_13, gA_14, gA_15, p1_0, p1_1, p1_2, p1_3, p1_4, p1_5, p1_6, p1_7, p1_8, p1_9, p1_10, p1_11, p1_12, p1_13, p1_14, p1_15, p2_0, p2_1, p2_2, p2_3, p2_4, p2_5, p2_6, p2_7, p2_8, p2_9, p2_10, p2_11, p2_12, p2_13, p2_14, p2_15, b01_ok, b_ft, b_tf, b01_e0, b01_e1, lgc_0, not_true_eq_false, not_false_eq_true, K, M.1.n, Int32.le_refl]
      exact k
    | succ n ih =>
      intro i hi
      have hp : i < vn S := by omega
      have p6 : i < 6 := by omega
      have p31 : i < 2 ^ 31 := by omega
      have gk := (g.at hp).1
      have z : ¬ nI (vn S) ≤ nI i := nI_ge (by omega) (by omega)
      have i1 := ih (i + 1) (by omega)
      rw [sumN_s] at i1
      rw [s250_21]
      simp only [s250_22, s250_23, s250_26, s250_29, s250_30, s250_31, s250_34, s250_35, s250_36, s250_37, s250_40, s250_41, s250_44, s250_45, s250_46, s250_47, s250_50, s250_53, s250_54, oB_some, cl2_i, cl2_r, cl2_l, cl2_u, cl2_s, wd_0, wd_i, wd_r, wd_l, wd_f, ct_i, ct_r, ct_n, ct_f, rf_s, rf_n, tl_s, tl_n, true_and, and_true, eq_self, and_self, Nat.reduceAdd, Nat.reduceLeDiff, Nat.zero_le, Nat.reduceEqDiff, or_true, true_or, false_or, or_false, if_true, if_false, gI_0, gI_1, gI_2, gI_3, gI_4, gI_5, gI_6, gI_7, gI_8, gI_9, gI_10, gI_11, gI_12, gI_13, gI_14, gI_15, gL_0, gL_1, gL_2, gL_3, gL_4, gL_5, gL_6, gL_7, gL_8, gL_9, gL_10, gL_11, gL_12, gL_13, gL_14, gL_15, gA_0, gA_1, gA_2, gA_3, gA_4, gA_5, gA_6, gA_7, gA_8, gA_9, gA_10, gA_11, gA_12, gA_13, gA_14, gA_15, p1_0, p1_1, p1_2, p1_3, p1_4, p1_5, p1_6, p1_7, p1_8, p1_9, p1_10, p1_11, p1_12, p1_13, p1_14, p1_15, p2_0, p2_1, p2_2, p2_3, p2_4, p2_5, p2_6, p2_7, p2_8, p2_9, p2_10, p2_11, p2_12, p2_13, p2_14, p2_15, b01_ok, b_ft, b_tf, b01_e0, b01_e1, lgc_0, not_true_eq_false, not_false_eq_true, K, M.1.n, z, (M.1.at hp).1, ix_nI p31, nI_pos' p31, p6, nI_1, Int32.add_zero, eqP (show vk S i < 2 ^ 31 by omega) hc]
      by_cases e : vk S i = c
      · rw [if_neg (not_not_intro e)]
        rw [if_pos e] at i1
        exact i1
      · rw [if_pos e]
        rw [if_neg e, Nat.add_zero] at i1
        exact i1
  simp only [s250_17, s250_18, s250_19, s250_20, oB_some, cl2_i, cl2_r, cl2_l, cl2_u, cl2_s, wd_0, wd_i, wd_r, wd_l, wd_f, ct_i, ct_r, ct_n, ct_f, rf_s, rf_n, tl_s, tl_n, true_and, and_true, eq_self, and_self, Nat.reduceAdd, Nat.reduceLeDiff, Nat.zero_le, Nat.reduceEqDiff, or_true, true_or, false_or, or_false, if_true, if_false, gI_0, gI_1, gI_2, gI_3, gI_4, gI_5, gI_6, gI_7, gI_8, gI_9, gI_10, gI_11, gI_12, gI_13, gI_14, gI_15, gL_0, gL_1, gL_2, gL_3, gL_4, gL_5, gL_6, gL_7, gL_8, gL_9, gL_10, gL_11, gL_12, gL_13, gL_14, gL_15, gA_0, gA_1, gA_2, gA_3, gA_4, gA_5, gA_6, gA_7, gA_8, gA_9, gA_10, gA_11, gA_12, gA_13, gA_14, gA_15, p1_0, p1_1, p1_2, p1_3, p1_4, p1_5, p1_6, p1_7, p1_8, p1_9, p1_10, p1_11, p1_12, p1_13, p1_14, p1_15, p2_0, p2_1, p2_2, p2_3, p2_4, p2_5, p2_6, p2_7, p2_8, p2_9, p2_10, p2_11, p2_12, p2_13, p2_14, p2_15, b01_ok, b_ft, b_tf, b01_e0, b01_e1, lgc_0, not_true_eq_false, not_false_eq_true]
  exact loop (vn S) 0 (by omega)
