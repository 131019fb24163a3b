-- written by gen99h.py: the law's turns, changes
set_option maxHeartbeats 4000000 in
theorem lc_feed {b L x tl len i c s : Nat} {xs : Nat → Int32} {h : HP} {tp r : Nat → Nat} {S : VS} {H : HS} {Q : PQ} (a : LI b L xs h x S H tp tl r len) (hi : i + 6 ≤ L) (hL : L ≤ 3072) (hc : 12 ≤ c) (hs : 172 ≤ s)
    (nx : ∀ h' S' H' tp' tl' r' len' c' s', c ≤ c' + 12 → s ≤ s' + 172 → LI b L xs h' x S' H' tp' tl' r' len' → WP 11 270 Q (1434, [.val (.ref b), .val (.ref x), .val (.ref (x + 34)), .val (.int (nI i))], [], h', c', s')) : WP 11 270 Q (216, [.val (.ref b), .val (.ref x), .val (.ref (x + 34)), .val (.int (nI i))], [], h, c, s) := by
  have a0 := a
  obtain ⟨C, M, ⟨gS, gH⟩, rf, bk⟩ := a0
  have bk1 : SKb b L xs x h := bk
  have s1 : nI i + 1 = nI (i + 1) := nI_add i 1
  have s2 : nI i + 2 = nI (i + 2) := nI_add i 2
  have s3 : nI i + 3 = nI (i + 3) := nI_add i 3
  have s4 : nI i + 4 = nI (i + 4) := nI_add i 4
  have s5 : nI i + 5 = nI (i + 5) := nI_add i 5
  have u1 : i + 1 < 2 ^ 31 := by omega
  have u2 : i + 2 < 2 ^ 31 := by omega
  have u3 : i + 3 < 2 ^ 31 := by omega
  have u4 : i + 4 < 2 ^ 31 := by omega
  have u5 : i + 5 < 2 ^ 31 := by omega
  have v1 : i + 1 < L := by omega
  have v2 : i + 2 < L := by omega
  have v3 : i + 3 < L := by omega
  have v4 : i + 4 < L := by omega
  have v5 : i + 5 < L := by omega
  have kx : hkd h x = 15 := C.1.1.1.1
  simp only [s270_216, s270_217, s270_218, s270_219, s270_220, s270_221, s270_222, oB_some, cl2_i, cl2_r, cl2_l, cl2_u, cl2_s, wd_0, wd_i, wd_r, wd_l, wd_f, ct_i, ct_r, ct_n, ct_f, rf_s, rf_n, tl_s, tl_n, true_and, and_true, eq_self, and_self, Nat.reduceAdd, Nat.reduceLeDiff, Nat.zero_le, Nat.reduceEqDiff, or_true, true_or, false_or, or_false, if_true, if_false, gI_0, gI_1, gI_2, gI_3, gI_4, gI_5, gI_6, gI_7, gI_8, gI_9, gI_10, gI_11, gI_12, gI_13, gI_14, gI_15, gL_0, gL_1, gL_2, gL_3, gL_4, gL_5, gL_6, gL_7, gL_8, gL_9, gL_10, gL_11, gL_12, gL_13, gL_14, gL_15, gA_0, gA_1, gA_2, gA_3, gA_4, gA_5, gA_6, gA_7, gA_8, gA_9, gA_10, gA_11, gA_12, gA_13, gA_14, gA_15, p1_0, p1_1, p1_2, p1_3, p1_4, p1_5, p1_6, p1_7, p1_8, p1_9, p1_10, p1_11, p1_12, p1_13, p1_14, p1_15, p2_0, p2_1, p2_2, p2_3, p2_4, p2_5, p2_6, p2_7, p2_8, p2_9, p2_10, p2_11, p2_12, p2_13, p2_14, p2_15, kx, hc, hs, bk1.2.1, bk1.2.2.1, bk1.2.2.2, s1, s2, s3, s4, s5, ix_nI u1, ix_nI u2, ix_nI u3, ix_nI u4, ix_nI u5, nI_pos' u1, nI_pos' u2, nI_pos' u3, nI_pos' u4, nI_pos' u5, v1, v2, v3, v4, v5]
  refine x_feed C gS gH (fun y e y0 => ?_) fun e h1 f1 e1 C1 => ?_
  · skip
    obtain ⟨h1, eh⟩ : ∃ z, z = RfC h x y := ⟨_, rfl⟩
    have fa1 : FA x h h1 := by rw [eh]; exact RfC.fa
    rw [← eh]
    have bk1 := bk1.fa fa1
    have M1 := M.fa gH fa1
    have km : hkd h1 (x + 34) = 16 := M1.1.1.1.1.1
    simp only [s270_225, s270_226, s270_227, s270_228, s270_229, s270_230, s270_231, oB_some, cl2_i, cl2_r, cl2_l, cl2_u, cl2_s, wd_0, wd_i, wd_r, wd_l, wd_f, ct_i, ct_r, ct_n, ct_f, rf_s, rf_n, tl_s, tl_n, true_and, and_true, eq_self, and_self, Nat.reduceAdd, Nat.reduceLeDiff, Nat.zero_le, Nat.reduceEqDiff, or_true, true_or, false_or, or_false, if_true, if_false, gI_0, gI_1, gI_2, gI_3, gI_4, gI_5, gI_6, gI_7, gI_8, gI_9, gI_10, gI_11, gI_12, gI_13, gI_14, gI_15, gL_0, gL_1, gL_2, gL_3, gL_4, gL_5, gL_6, gL_7, gL_8, gL_9, gL_10, gL_11, gL_12, gL_13, gL_14, gL_15, gA_0, gA_1, gA_2, gA_3, gA_4, gA_5, gA_6, gA_7, gA_8, gA_9, gA_10, gA_11, gA_12, gA_13, gA_14, gA_15, p1_0, p1_1, p1_2, p1_3, p1_4, p1_5, p1_6, p1_7, p1_8, p1_9, p1_10, p1_11, p1_12, p1_13, p1_14, p1_15, p2_0, p2_1, p2_2, p2_3, p2_4, p2_5, p2_6, p2_7, p2_8, p2_9, p2_10, p2_11, p2_12, p2_13, p2_14, p2_15, km, bk1.2.1, bk1.2.2.1, bk1.2.2.2, s1, s2, s3, s4, s5, ix_nI u1, ix_nI u2, ix_nI u3, ix_nI u4, ix_nI u5, nI_pos' u1, nI_pos' u2, nI_pos' u3, nI_pos' u4, nI_pos' u5, v1, v2, v3, v4, v5]
    refine o_feed M1 gS gH (fun y2 e2 n2 => ?_) fun e2 => absurd (e.symm.trans e2) y0
    obtain rfl := e.symm.trans e2
    simp only [s270_234, s270_237, oB_some, cl2_i, cl2_r, cl2_l, cl2_u, cl2_s, wd_0, wd_i, wd_r, wd_l, wd_f, ct_i, ct_r, ct_n, ct_f, rf_s, rf_n, tl_s, tl_n, true_and, and_true, eq_self, and_self, Nat.reduceAdd, Nat.reduceLeDiff, Nat.zero_le, Nat.reduceEqDiff, or_true, true_or, false_or, or_false, if_true, if_false, gI_0, gI_1, gI_2, gI_3, gI_4, gI_5, gI_6, gI_7, gI_8, gI_9, gI_10, gI_11, gI_12, gI_13, gI_14, gI_15, gL_0, gL_1, gL_2, gL_3, gL_4, gL_5, gL_6, gL_7, gL_8, gL_9, gL_10, gL_11, gL_12, gL_13, gL_14, gL_15, gA_0, gA_1, gA_2, gA_3, gA_4, gA_5, gA_6, gA_7, gA_8, gA_9, gA_10, gA_11, gA_12, gA_13, gA_14, gA_15, p1_0, p1_1, p1_2, p1_3, p1_4, p1_5, p1_6, p1_7, p1_8, p1_9, p1_10, p1_11, p1_12, p1_13, p1_14, p1_15, p2_0, p2_1, p2_2, p2_3, p2_4, p2_5, p2_6, p2_7, p2_8, p2_9, p2_10, p2_11, p2_12, p2_13, p2_14, p2_15, b01_ok, b_ft, b_tf, b01_e0, b01_e1, lgc_0, not_true_eq_false, not_false_eq_true]
    rw [eh]
    exact nx _ _ _ _ _ _ _ _ _ (by omega) (by omega) (a.refuse y)
  · skip
    have fa1 := f1
    have bk1 := bk1.fa fa1
    have M1 := M.fa gH fa1
    have km : hkd h1 (x + 34) = 16 := M1.1.1.1.1.1
    simp only [s270_225, s270_226, s270_227, s270_228, s270_229, s270_230, s270_231, oB_some, cl2_i, cl2_r, cl2_l, cl2_u, cl2_s, wd_0, wd_i, wd_r, wd_l, wd_f, ct_i, ct_r, ct_n, ct_f, rf_s, rf_n, tl_s, tl_n, true_and, and_true, eq_self, and_self, Nat.reduceAdd, Nat.reduceLeDiff, Nat.zero_le, Nat.reduceEqDiff, or_true, true_or, false_or, or_false, if_true, if_false, gI_0, gI_1, gI_2, gI_3, gI_4, gI_5, gI_6, gI_7, gI_8, gI_9, gI_10, gI_11, gI_12, gI_13, gI_14, gI_15, gL_0, gL_1, gL_2, gL_3, gL_4, gL_5, gL_6, gL_7, gL_8, gL_9, gL_10, gL_11, gL_12, gL_13, gL_14, gL_15, gA_0, gA_1, gA_2, gA_3, gA_4, gA_5, gA_6, gA_7, gA_8, gA_9, gA_10, gA_11, gA_12, gA_13, gA_14, gA_15, p1_0, p1_1, p1_2, p1_3, p1_4, p1_5, p1_6, p1_7, p1_8, p1_9, p1_10, p1_11, p1_12, p1_13, p1_14, p1_15, p2_0, p2_1, p2_2, p2_3, p2_4, p2_5, p2_6, p2_7, p2_8, p2_9, p2_10, p2_11, p2_12, p2_13, p2_14, p2_15, km, bk1.2.1, bk1.2.2.1, bk1.2.2.2, s1, s2, s3, s4, s5, ix_nI u1, ix_nI u2, ix_nI u3, ix_nI u4, ix_nI u5, nI_pos' u1, nI_pos' u2, nI_pos' u3, nI_pos' u4, nI_pos' u5, v1, v2, v3, v4, v5]
    refine o_feed M1 gS gH (fun y2 e2 n2 => absurd (e2.symm.trans e) n2) fun _ h2 f2 e2 M2 => ?_
    simp only [s270_234, s270_237, oB_some, cl2_i, cl2_r, cl2_l, cl2_u, cl2_s, wd_0, wd_i, wd_r, wd_l, wd_f, ct_i, ct_r, ct_n, ct_f, rf_s, rf_n, tl_s, tl_n, true_and, and_true, eq_self, and_self, Nat.reduceAdd, Nat.reduceLeDiff, Nat.zero_le, Nat.reduceEqDiff, or_true, true_or, false_or, or_false, if_true, if_false, gI_0, gI_1, gI_2, gI_3, gI_4, gI_5, gI_6, gI_7, gI_8, gI_9, gI_10, gI_11, gI_12, gI_13, gI_14, gI_15, gL_0, gL_1, gL_2, gL_3, gL_4, gL_5, gL_6, gL_7, gL_8, gL_9, gL_10, gL_11, gL_12, gL_13, gL_14, gL_15, gA_0, gA_1, gA_2, gA_3, gA_4, gA_5, gA_6, gA_7, gA_8, gA_9, gA_10, gA_11, gA_12, gA_13, gA_14, gA_15, p1_0, p1_1, p1_2, p1_3, p1_4, p1_5, p1_6, p1_7, p1_8, p1_9, p1_10, p1_11, p1_12, p1_13, p1_14, p1_15, p2_0, p2_1, p2_2, p2_3, p2_4, p2_5, p2_6, p2_7, p2_8, p2_9, p2_10, p2_11, p2_12, p2_13, p2_14, p2_15, b01_ok, b_ft, b_tf, b01_e0, b01_e1, lgc_0, not_true_eq_false, not_false_eq_true]
    exact nx _ _ _ _ _ _ _ _ _ (by omega) (by omega) (a.step f1 e1 C1 f2 e2 M2 gS gH)
set_option maxHeartbeats 4000000 in
theorem lc_post {b L x tl len i c s : Nat} {xs : Nat → Int32} {h : HP} {tp r : Nat → Nat} {S : VS} {H : HS} {Q : PQ} (a : LI b L xs h x S H tp tl r len) (hi : i + 6 ≤ L) (hL : L ≤ 3072) (hc : 12 ≤ c) (hs : 172 ≤ s)
    (nx : ∀ h' S' H' tp' tl' r' len' c' s', c ≤ c' + 12 → s ≤ s' + 172 → LI b L xs h' x S' H' tp' tl' r' len' → WP 11 270 Q (1434, [.val (.ref b), .val (.ref x), .val (.ref (x + 34)), .val (.int (nI i))], [], h', c', s')) : WP 11 270 Q (239, [.val (.ref b), .val (.ref x), .val (.ref (x + 34)), .val (.int (nI i))], [], h, c, s) := by
  have a0 := a
  obtain ⟨C, M, ⟨gS, gH⟩, rf, bk⟩ := a0
  have bk1 : SKb b L xs x h := bk
  have s1 : nI i + 1 = nI (i + 1) := nI_add i 1
  have s2 : nI i + 2 = nI (i + 2) := nI_add i 2
  have s3 : nI i + 3 = nI (i + 3) := nI_add i 3
  have s4 : nI i + 4 = nI (i + 4) := nI_add i 4
  have s5 : nI i + 5 = nI (i + 5) := nI_add i 5
  have u1 : i + 1 < 2 ^ 31 := by omega
  have u2 : i + 2 < 2 ^ 31 := by omega
  have u3 : i + 3 < 2 ^ 31 := by omega
  have u4 : i + 4 < 2 ^ 31 := by omega
  have u5 : i + 5 < 2 ^ 31 := by omega
  have v1 : i + 1 < L := by omega
  have v2 : i + 2 < L := by omega
  have v3 : i + 3 < L := by omega
  have v4 : i + 4 < L := by omega
  have v5 : i + 5 < L := by omega
  have kx : hkd h x = 15 := C.1.1.1.1
  simp only [s270_239, s270_240, oB_some, cl2_i, cl2_r, cl2_l, cl2_u, cl2_s, wd_0, wd_i, wd_r, wd_l, wd_f, ct_i, ct_r, ct_n, ct_f, rf_s, rf_n, tl_s, tl_n, true_and, and_true, eq_self, and_self, Nat.reduceAdd, Nat.reduceLeDiff, Nat.zero_le, Nat.reduceEqDiff, or_true, true_or, false_or, or_false, if_true, if_false, gI_0, gI_1, gI_2, gI_3, gI_4, gI_5, gI_6, gI_7, gI_8, gI_9, gI_10, gI_11, gI_12, gI_13, gI_14, gI_15, gL_0, gL_1, gL_2, gL_3, gL_4, gL_5, gL_6, gL_7, gL_8, gL_9, gL_10, gL_11, gL_12, gL_13, gL_14, gL_15, gA_0, gA_1, gA_2, gA_3, gA_4, gA_5, gA_6, gA_7, gA_8, gA_9, gA_10, gA_11, gA_12, gA_13, gA_14, gA_15, p1_0, p1_1, p1_2, p1_3, p1_4, p1_5, p1_6, p1_7, p1_8, p1_9, p1_10, p1_11, p1_12, p1_13, p1_14, p1_15, p2_0, p2_1, p2_2, p2_3, p2_4, p2_5, p2_6, p2_7, p2_8, p2_9, p2_10, p2_11, p2_12, p2_13, p2_14, p2_15, kx, hc, hs, bk1.2.1, bk1.2.2.1, bk1.2.2.2, s1, s2, s3, s4, s5, ix_nI u1, ix_nI u2, ix_nI u3, ix_nI u4, ix_nI u5, nI_pos' u1, nI_pos' u2, nI_pos' u3, nI_pos' u4, nI_pos' u5, v1, v2, v3, v4, v5]
  refine x_post C gS gH (fun e h1 f1 e1 C1 => ?_) fun S2 e gS2 h1 f1 e1 C1 => ?_
  · skip
    have fa1 := f1
    have bk1 := bk1.fa fa1
    have M1 := M.fa gH fa1
    have km : hkd h1 (x + 34) = 16 := M1.1.1.1.1.1
    simp only [s270_243, s270_244, oB_some, cl2_i, cl2_r, cl2_l, cl2_u, cl2_s, wd_0, wd_i, wd_r, wd_l, wd_f, ct_i, ct_r, ct_n, ct_f, rf_s, rf_n, tl_s, tl_n, true_and, and_true, eq_self, and_self, Nat.reduceAdd, Nat.reduceLeDiff, Nat.zero_le, Nat.reduceEqDiff, or_true, true_or, false_or, or_false, if_true, if_false, gI_0, gI_1, gI_2, gI_3, gI_4, gI_5, gI_6, gI_7, gI_8, gI_9, gI_10, gI_11, gI_12, gI_13, gI_14, gI_15, gL_0, gL_1, gL_2, gL_3, gL_4, gL_5, gL_6, gL_7, gL_8, gL_9, gL_10, gL_11, gL_12, gL_13, gL_14, gL_15, gA_0, gA_1, gA_2, gA_3, gA_4, gA_5, gA_6, gA_7, gA_8, gA_9, gA_10, gA_11, gA_12, gA_13, gA_14, gA_15, p1_0, p1_1, p1_2, p1_3, p1_4, p1_5, p1_6, p1_7, p1_8, p1_9, p1_10, p1_11, p1_12, p1_13, p1_14, p1_15, p2_0, p2_1, p2_2, p2_3, p2_4, p2_5, p2_6, p2_7, p2_8, p2_9, p2_10, p2_11, p2_12, p2_13, p2_14, p2_15, km, bk1.2.1, bk1.2.2.1, bk1.2.2.2, s1, s2, s3, s4, s5, ix_nI u1, ix_nI u2, ix_nI u3, ix_nI u4, ix_nI u5, nI_pos' u1, nI_pos' u2, nI_pos' u3, nI_pos' u4, nI_pos' u5, v1, v2, v3, v4, v5]
    refine o_post M1 gS gH (fun _ h2 f2 e2 M2 => ?_) fun S2 es => absurd (es.symm.trans e) (by simp)
    simp only [s270_247, s270_250, oB_some, cl2_i, cl2_r, cl2_l, cl2_u, cl2_s, wd_0, wd_i, wd_r, wd_l, wd_f, ct_i, ct_r, ct_n, ct_f, rf_s, rf_n, tl_s, tl_n, true_and, and_true, eq_self, and_self, Nat.reduceAdd, Nat.reduceLeDiff, Nat.zero_le, Nat.reduceEqDiff, or_true, true_or, false_or, or_false, if_true, if_false, gI_0, gI_1, gI_2, gI_3, gI_4, gI_5, gI_6, gI_7, gI_8, gI_9, gI_10, gI_11, gI_12, gI_13, gI_14, gI_15, gL_0, gL_1, gL_2, gL_3, gL_4, gL_5, gL_6, gL_7, gL_8, gL_9, gL_10, gL_11, gL_12, gL_13, gL_14, gL_15, gA_0, gA_1, gA_2, gA_3, gA_4, gA_5, gA_6, gA_7, gA_8, gA_9, gA_10, gA_11, gA_12, gA_13, gA_14, gA_15, p1_0, p1_1, p1_2, p1_3, p1_4, p1_5, p1_6, p1_7, p1_8, p1_9, p1_10, p1_11, p1_12, p1_13, p1_14, p1_15, p2_0, p2_1, p2_2, p2_3, p2_4, p2_5, p2_6, p2_7, p2_8, p2_9, p2_10, p2_11, p2_12, p2_13, p2_14, p2_15, b01_ok, b_ft, b_tf, b01_e0, b01_e1, lgc_0, not_true_eq_false, not_false_eq_true]
    exact nx _ _ _ _ _ _ _ _ _ (by omega) (by omega) (a.step f1 e1 C1 f2 e2 M2 gS gH)
  · skip
    have fa1 := f1
    have bk1 := bk1.fa fa1
    have M1 := M.fa gH fa1
    have km : hkd h1 (x + 34) = 16 := M1.1.1.1.1.1
    simp only [s270_243, s270_244, oB_some, cl2_i, cl2_r, cl2_l, cl2_u, cl2_s, wd_0, wd_i, wd_r, wd_l, wd_f, ct_i, ct_r, ct_n, ct_f, rf_s, rf_n, tl_s, tl_n, true_and, and_true, eq_self, and_self, Nat.reduceAdd, Nat.reduceLeDiff, Nat.zero_le, Nat.reduceEqDiff, or_true, true_or, false_or, or_false, if_true, if_false, gI_0, gI_1, gI_2, gI_3, gI_4, gI_5, gI_6, gI_7, gI_8, gI_9, gI_10, gI_11, gI_12, gI_13, gI_14, gI_15, gL_0, gL_1, gL_2, gL_3, gL_4, gL_5, gL_6, gL_7, gL_8, gL_9, gL_10, gL_11, gL_12, gL_13, gL_14, gL_15, gA_0, gA_1, gA_2, gA_3, gA_4, gA_5, gA_6, gA_7, gA_8, gA_9, gA_10, gA_11, gA_12, gA_13, gA_14, gA_15, p1_0, p1_1, p1_2, p1_3, p1_4, p1_5, p1_6, p1_7, p1_8, p1_9, p1_10, p1_11, p1_12, p1_13, p1_14, p1_15, p2_0, p2_1, p2_2, p2_3, p2_4, p2_5, p2_6, p2_7, p2_8, p2_9, p2_10, p2_11, p2_12, p2_13, p2_14, p2_15, km, bk1.2.1, bk1.2.2.1, bk1.2.2.2, s1, s2, s3, s4, s5, ix_nI u1, ix_nI u2, ix_nI u3, ix_nI u4, ix_nI u5, nI_pos' u1, nI_pos' u2, nI_pos' u3, nI_pos' u4, nI_pos' u5, v1, v2, v3, v4, v5]
    refine o_post M1 gS gH (fun es => absurd (es.symm.trans e) (by simp)) fun S3 es gS3 h2 f2 e2 M2 => ?_
    obtain rfl := Option.some.inj (es.symm.trans e)
    simp only [s270_247, s270_250, oB_some, cl2_i, cl2_r, cl2_l, cl2_u, cl2_s, wd_0, wd_i, wd_r, wd_l, wd_f, ct_i, ct_r, ct_n, ct_f, rf_s, rf_n, tl_s, tl_n, true_and, and_true, eq_self, and_self, Nat.reduceAdd, Nat.reduceLeDiff, Nat.zero_le, Nat.reduceEqDiff, or_true, true_or, false_or, or_false, if_true, if_false, gI_0, gI_1, gI_2, gI_3, gI_4, gI_5, gI_6, gI_7, gI_8, gI_9, gI_10, gI_11, gI_12, gI_13, gI_14, gI_15, gL_0, gL_1, gL_2, gL_3, gL_4, gL_5, gL_6, gL_7, gL_8, gL_9, gL_10, gL_11, gL_12, gL_13, gL_14, gL_15, gA_0, gA_1, gA_2, gA_3, gA_4, gA_5, gA_6, gA_7, gA_8, gA_9, gA_10, gA_11, gA_12, gA_13, gA_14, gA_15, p1_0, p1_1, p1_2, p1_3, p1_4, p1_5, p1_6, p1_7, p1_8, p1_9, p1_10, p1_11, p1_12, p1_13, p1_14, p1_15, p2_0, p2_1, p2_2, p2_3, p2_4, p2_5, p2_6, p2_7, p2_8, p2_9, p2_10, p2_11, p2_12, p2_13, p2_14, p2_15, b01_ok, b_ft, b_tf, b01_e0, b01_e1, lgc_0, not_true_eq_false, not_false_eq_true]
    exact nx _ _ _ _ _ _ _ _ _ (by omega) (by omega) (a.step f1 e1 C1 f2 e2 M2 gS2 (gh_drop gH))
set_option maxHeartbeats 4000000 in
theorem lc_comes {b L x tl len i c s : Nat} {xs : Nat → Int32} {h : HP} {tp r : Nat → Nat} {S : VS} {H : HS} {Q : PQ} (a : LI b L xs h x S H tp tl r len) (hi : i + 6 ≤ L) (hL : L ≤ 3072) (hc : 12 ≤ c) (hs : 172 ≤ s)
    (nx : ∀ h' S' H' tp' tl' r' len' c' s', c ≤ c' + 12 → s ≤ s' + 172 → LI b L xs h' x S' H' tp' tl' r' len' → WP 11 270 Q (1434, [.val (.ref b), .val (.ref x), .val (.ref (x + 34)), .val (.int (nI i))], [], h', c', s')) : WP 11 270 Q (384, [.val (.ref b), .val (.ref x), .val (.ref (x + 34)), .val (.int (nI i))], [], h, c, s) := by
  have a0 := a
  obtain ⟨C, M, ⟨gS, gH⟩, rf, bk⟩ := a0
  have bk1 : SKb b L xs x h := bk
  have s1 : nI i + 1 = nI (i + 1) := nI_add i 1
  have s2 : nI i + 2 = nI (i + 2) := nI_add i 2
  have s3 : nI i + 3 = nI (i + 3) := nI_add i 3
  have s4 : nI i + 4 = nI (i + 4) := nI_add i 4
  have s5 : nI i + 5 = nI (i + 5) := nI_add i 5
  have u1 : i + 1 < 2 ^ 31 := by omega
  have u2 : i + 2 < 2 ^ 31 := by omega
  have u3 : i + 3 < 2 ^ 31 := by omega
  have u4 : i + 4 < 2 ^ 31 := by omega
  have u5 : i + 5 < 2 ^ 31 := by omega
  have v1 : i + 1 < L := by omega
  have v2 : i + 2 < L := by omega
  have v3 : i + 3 < L := by omega
  have v4 : i + 4 < L := by omega
  have v5 : i + 5 < L := by omega
  have kx : hkd h x = 15 := C.1.1.1.1
  simp only [s270_384, s270_385, s270_386, s270_387, s270_388, s270_389, s270_390, s270_391, s270_392, s270_393, s270_394, s270_395, oB_some, cl2_i, cl2_r, cl2_l, cl2_u, cl2_s, wd_0, wd_i, wd_r, wd_l, wd_f, ct_i, ct_r, ct_n, ct_f, rf_s, rf_n, tl_s, tl_n, true_and, and_true, eq_self, and_self, Nat.reduceAdd, Nat.reduceLeDiff, Nat.zero_le, Nat.reduceEqDiff, or_true, true_or, false_or, or_false, if_true, if_false, gI_0, gI_1, gI_2, gI_3, gI_4, gI_5, gI_6, gI_7, gI_8, gI_9, gI_10, gI_11, gI_12, gI_13, gI_14, gI_15, gL_0, gL_1, gL_2, gL_3, gL_4, gL_5, gL_6, gL_7, gL_8, gL_9, gL_10, gL_11, gL_12, gL_13, gL_14, gL_15, gA_0, gA_1, gA_2, gA_3, gA_4, gA_5, gA_6, gA_7, gA_8, gA_9, gA_10, gA_11, gA_12, gA_13, gA_14, gA_15, p1_0, p1_1, p1_2, p1_3, p1_4, p1_5, p1_6, p1_7, p1_8, p1_9, p1_10, p1_11, p1_12, p1_13, p1_14, p1_15, p2_0, p2_1, p2_2, p2_3, p2_4, p2_5, p2_6, p2_7, p2_8, p2_9, p2_10, p2_11, p2_12, p2_13, p2_14, p2_15, kx, hc, hs, bk1.2.1, bk1.2.2.1, bk1.2.2.2, s1, s2, s3, s4, s5, ix_nI u1, ix_nI u2, ix_nI u3, ix_nI u4, ix_nI u5, nI_pos' u1, nI_pos' u2, nI_pos' u3, nI_pos' u4, nI_pos' u5, v1, v2, v3, v4, v5]
  refine x_comes C gS gH (fun y e y0 => ?_) fun e h1 f1 e1 C1 => ?_
  · skip
    obtain ⟨h1, eh⟩ : ∃ z, z = RfC h x y := ⟨_, rfl⟩
    have fa1 : FA x h h1 := by rw [eh]; exact RfC.fa
    rw [← eh]
    have bk1 := bk1.fa fa1
    have M1 := M.fa gH fa1
    have km : hkd h1 (x + 34) = 16 := M1.1.1.1.1.1
    simp only [s270_398, s270_399, s270_400, s270_401, s270_402, s270_403, s270_404, s270_405, s270_406, s270_407, s270_408, s270_409, oB_some, cl2_i, cl2_r, cl2_l, cl2_u, cl2_s, wd_0, wd_i, wd_r, wd_l, wd_f, ct_i, ct_r, ct_n, ct_f, rf_s, rf_n, tl_s, tl_n, true_and, and_true, eq_self, and_self, Nat.reduceAdd, Nat.reduceLeDiff, Nat.zero_le, Nat.reduceEqDiff, or_true, true_or, false_or, or_false, if_true, if_false, gI_0, gI_1, gI_2, gI_3, gI_4, gI_5, gI_6, gI_7, gI_8, gI_9, gI_10, gI_11, gI_12, gI_13, gI_14, gI_15, gL_0, gL_1, gL_2, gL_3, gL_4, gL_5, gL_6, gL_7, gL_8, gL_9, gL_10, gL_11, gL_12, gL_13, gL_14, gL_15, gA_0, gA_1, gA_2, gA_3, gA_4, gA_5, gA_6, gA_7, gA_8, gA_9, gA_10, gA_11, gA_12, gA_13, gA_14, gA_15, p1_0, p1_1, p1_2, p1_3, p1_4, p1_5, p1_6, p1_7, p1_8, p1_9, p1_10, p1_11, p1_12, p1_13, p1_14, p1_15, p2_0, p2_1, p2_2, p2_3, p2_4, p2_5, p2_6, p2_7, p2_8, p2_9, p2_10, p2_11, p2_12, p2_13, p2_14, p2_15, km, bk1.2.1, bk1.2.2.1, bk1.2.2.2, s1, s2, s3, s4, s5, ix_nI u1, ix_nI u2, ix_nI u3, ix_nI u4, ix_nI u5, nI_pos' u1, nI_pos' u2, nI_pos' u3, nI_pos' u4, nI_pos' u5, v1, v2, v3, v4, v5]
    refine o_comes M1 gS gH (fun y2 e2 n2 => ?_) fun e2 => absurd (e.symm.trans e2) y0
    obtain rfl := e.symm.trans e2
    simp only [s270_412, s270_415, oB_some, cl2_i, cl2_r, cl2_l, cl2_u, cl2_s, wd_0, wd_i, wd_r, wd_l, wd_f, ct_i, ct_r, ct_n, ct_f, rf_s, rf_n, tl_s, tl_n, true_and, and_true, eq_self, and_self, Nat.reduceAdd, Nat.reduceLeDiff, Nat.zero_le, Nat.reduceEqDiff, or_true, true_or, false_or, or_false, if_true, if_false, gI_0, gI_1, gI_2, gI_3, gI_4, gI_5, gI_6, gI_7, gI_8, gI_9, gI_10, gI_11, gI_12, gI_13, gI_14, gI_15, gL_0, gL_1, gL_2, gL_3, gL_4, gL_5, gL_6, gL_7, gL_8, gL_9, gL_10, gL_11, gL_12, gL_13, gL_14, gL_15, gA_0, gA_1, gA_2, gA_3, gA_4, gA_5, gA_6, gA_7, gA_8, gA_9, gA_10, gA_11, gA_12, gA_13, gA_14, gA_15, p1_0, p1_1, p1_2, p1_3, p1_4, p1_5, p1_6, p1_7, p1_8, p1_9, p1_10, p1_11, p1_12, p1_13, p1_14, p1_15, p2_0, p2_1, p2_2, p2_3, p2_4, p2_5, p2_6, p2_7, p2_8, p2_9, p2_10, p2_11, p2_12, p2_13, p2_14, p2_15, b01_ok, b_ft, b_tf, b01_e0, b01_e1, lgc_0, not_true_eq_false, not_false_eq_true]
    rw [eh]
    exact nx _ _ _ _ _ _ _ _ _ (by omega) (by omega) (a.refuse y)
  · skip
    have fa1 := f1
    have bk1 := bk1.fa fa1
    have M1 := M.fa gH fa1
    have km : hkd h1 (x + 34) = 16 := M1.1.1.1.1.1
    simp only [s270_398, s270_399, s270_400, s270_401, s270_402, s270_403, s270_404, s270_405, s270_406, s270_407, s270_408, s270_409, oB_some, cl2_i, cl2_r, cl2_l, cl2_u, cl2_s, wd_0, wd_i, wd_r, wd_l, wd_f, ct_i, ct_r, ct_n, ct_f, rf_s, rf_n, tl_s, tl_n, true_and, and_true, eq_self, and_self, Nat.reduceAdd, Nat.reduceLeDiff, Nat.zero_le, Nat.reduceEqDiff, or_true, true_or, false_or, or_false, if_true, if_false, gI_0, gI_1, gI_2, gI_3, gI_4, gI_5, gI_6, gI_7, gI_8, gI_9, gI_10, gI_11, gI_12, gI_13, gI_14, gI_15, gL_0, gL_1, gL_2, gL_3, gL_4, gL_5, gL_6, gL_7, gL_8, gL_9, gL_10, gL_11, gL_12, gL_13, gL_14, gL_15, gA_0, gA_1, gA_2, gA_3, gA_4, gA_5, gA_6, gA_7, gA_8, gA_9, gA_10, gA_11, gA_12, gA_13, gA_14, gA_15, p1_0, p1_1, p1_2, p1_3, p1_4, p1_5, p1_6, p1_7, p1_8, p1_9, p1_10, p1_11, p1_12, p1_13, p1_14, p1_15, p2_0, p2_1, p2_2, p2_3, p2_4, p2_5, p2_6, p2_7, p2_8, p2_9, p2_10, p2_11, p2_12, p2_13, p2_14, p2_15, km, bk1.2.1, bk1.2.2.1, bk1.2.2.2, s1, s2, s3, s4, s5, ix_nI u1, ix_nI u2, ix_nI u3, ix_nI u4, ix_nI u5, nI_pos' u1, nI_pos' u2, nI_pos' u3, nI_pos' u4, nI_pos' u5, v1, v2, v3, v4, v5]
    refine o_comes M1 gS gH (fun y2 e2 n2 => absurd (e2.symm.trans e) n2) fun _ h2 f2 e2 M2 => ?_
    simp only [s270_412, s270_415, oB_some, cl2_i, cl2_r, cl2_l, cl2_u, cl2_s, wd_0, wd_i, wd_r, wd_l, wd_f, ct_i, ct_r, ct_n, ct_f, rf_s, rf_n, tl_s, tl_n, true_and, and_true, eq_self, and_self, Nat.reduceAdd, Nat.reduceLeDiff, Nat.zero_le, Nat.reduceEqDiff, or_true, true_or, false_or, or_false, if_true, if_false, gI_0, gI_1, gI_2, gI_3, gI_4, gI_5, gI_6, gI_7, gI_8, gI_9, gI_10, gI_11, gI_12, gI_13, gI_14, gI_15, gL_0, gL_1, gL_2, gL_3, gL_4, gL_5, gL_6, gL_7, gL_8, gL_9, gL_10, gL_11, gL_12, gL_13, gL_14, gL_15, gA_0, gA_1, gA_2, gA_3, gA_4, gA_5, gA_6, gA_7, gA_8, gA_9, gA_10, gA_11, gA_12, gA_13, gA_14, gA_15, p1_0, p1_1, p1_2, p1_3, p1_4, p1_5, p1_6, p1_7, p1_8, p1_9, p1_10, p1_11, p1_12, p1_13, p1_14, p1_15, p2_0, p2_1, p2_2, p2_3, p2_4, p2_5, p2_6, p2_7, p2_8, p2_9, p2_10, p2_11, p2_12, p2_13, p2_14, p2_15, b01_ok, b_ft, b_tf, b01_e0, b01_e1, lgc_0, not_true_eq_false, not_false_eq_true]
    exact nx _ _ _ _ _ _ _ _ _ (by omega) (by omega) (a.step f1 e1 C1 f2 e2 M2 (gv_comes gS e) (gh_drop gH))
set_option maxHeartbeats 4000000 in
theorem lc_friend {b L x tl len i c s : Nat} {xs : Nat → Int32} {h : HP} {tp r : Nat → Nat} {S : VS} {H : HS} {Q : PQ} (a : LI b L xs h x S H tp tl r len) (hi : i + 6 ≤ L) (hL : L ≤ 3072) (hc : 12 ≤ c) (hs : 172 ≤ s)
    (nx : ∀ h' S' H' tp' tl' r' len' c' s', c ≤ c' + 12 → s ≤ s' + 172 → LI b L xs h' x S' H' tp' tl' r' len' → WP 11 270 Q (1434, [.val (.ref b), .val (.ref x), .val (.ref (x + 34)), .val (.int (nI i))], [], h', c', s')) : WP 11 270 Q (417, [.val (.ref b), .val (.ref x), .val (.ref (x + 34)), .val (.int (nI i))], [], h, c, s) := by
  have a0 := a
  obtain ⟨C, M, ⟨gS, gH⟩, rf, bk⟩ := a0
  have bk1 : SKb b L xs x h := bk
  have s1 : nI i + 1 = nI (i + 1) := nI_add i 1
  have s2 : nI i + 2 = nI (i + 2) := nI_add i 2
  have s3 : nI i + 3 = nI (i + 3) := nI_add i 3
  have s4 : nI i + 4 = nI (i + 4) := nI_add i 4
  have s5 : nI i + 5 = nI (i + 5) := nI_add i 5
  have u1 : i + 1 < 2 ^ 31 := by omega
  have u2 : i + 2 < 2 ^ 31 := by omega
  have u3 : i + 3 < 2 ^ 31 := by omega
  have u4 : i + 4 < 2 ^ 31 := by omega
  have u5 : i + 5 < 2 ^ 31 := by omega
  have v1 : i + 1 < L := by omega
  have v2 : i + 2 < L := by omega
  have v3 : i + 3 < L := by omega
  have v4 : i + 4 < L := by omega
  have v5 : i + 5 < L := by omega
  have kx : hkd h x = 15 := C.1.1.1.1
  simp only [s270_417, s270_418, s270_419, s270_420, s270_421, s270_422, s270_423, s270_424, s270_425, s270_426, s270_427, s270_428, oB_some, cl2_i, cl2_r, cl2_l, cl2_u, cl2_s, wd_0, wd_i, wd_r, wd_l, wd_f, ct_i, ct_r, ct_n, ct_f, rf_s, rf_n, tl_s, tl_n, true_and, and_true, eq_self, and_self, Nat.reduceAdd, Nat.reduceLeDiff, Nat.zero_le, Nat.reduceEqDiff, or_true, true_or, false_or, or_false, if_true, if_false, gI_0, gI_1, gI_2, gI_3, gI_4, gI_5, gI_6, gI_7, gI_8, gI_9, gI_10, gI_11, gI_12, gI_13, gI_14, gI_15, gL_0, gL_1, gL_2, gL_3, gL_4, gL_5, gL_6, gL_7, gL_8, gL_9, gL_10, gL_11, gL_12, gL_13, gL_14, gL_15, gA_0, gA_1, gA_2, gA_3, gA_4, gA_5, gA_6, gA_7, gA_8, gA_9, gA_10, gA_11, gA_12, gA_13, gA_14, gA_15, p1_0, p1_1, p1_2, p1_3, p1_4, p1_5, p1_6, p1_7, p1_8, p1_9, p1_10, p1_11, p1_12, p1_13, p1_14, p1_15, p2_0, p2_1, p2_2, p2_3, p2_4, p2_5, p2_6, p2_7, p2_8, p2_9, p2_10, p2_11, p2_12, p2_13, p2_14, p2_15, kx, hc, hs, bk1.2.1, bk1.2.2.1, bk1.2.2.2, s1, s2, s3, s4, s5, ix_nI u1, ix_nI u2, ix_nI u3, ix_nI u4, ix_nI u5, nI_pos' u1, nI_pos' u2, nI_pos' u3, nI_pos' u4, nI_pos' u5, v1, v2, v3, v4, v5]
  refine x_friend C gS gH (fun y e y0 => ?_) fun e h1 f1 e1 C1 => ?_
  · skip
    obtain ⟨h1, eh⟩ : ∃ z, z = RfC h x y := ⟨_, rfl⟩
    have fa1 : FA x h h1 := by rw [eh]; exact RfC.fa
    rw [← eh]
    have bk1 := bk1.fa fa1
    have M1 := M.fa gH fa1
    have km : hkd h1 (x + 34) = 16 := M1.1.1.1.1.1
    simp only [s270_431, s270_432, s270_433, s270_434, s270_435, s270_436, s270_437, s270_438, s270_439, s270_440, s270_441, s270_442, oB_some, cl2_i, cl2_r, cl2_l, cl2_u, cl2_s, wd_0, wd_i, wd_r, wd_l, wd_f, ct_i, ct_r, ct_n, ct_f, rf_s, rf_n, tl_s, tl_n, true_and, and_true, eq_self, and_self, Nat.reduceAdd, Nat.reduceLeDiff, Nat.zero_le, Nat.reduceEqDiff, or_true, true_or, false_or, or_false, if_true, if_false, gI_0, gI_1, gI_2, gI_3, gI_4, gI_5, gI_6, gI_7, gI_8, gI_9, gI_10, gI_11, gI_12, gI_13, gI_14, gI_15, gL_0, gL_1, gL_2, gL_3, gL_4, gL_5, gL_6, gL_7, gL_8, gL_9, gL_10, gL_11, gL_12, gL_13, gL_14, gL_15, gA_0, gA_1, gA_2, gA_3, gA_4, gA_5, gA_6, gA_7, gA_8, gA_9, gA_10, gA_11, gA_12, gA_13, gA_14, gA_15, p1_0, p1_1, p1_2, p1_3, p1_4, p1_5, p1_6, p1_7, p1_8, p1_9, p1_10, p1_11, p1_12, p1_13, p1_14, p1_15, p2_0, p2_1, p2_2, p2_3, p2_4, p2_5, p2_6, p2_7, p2_8, p2_9, p2_10, p2_11, p2_12, p2_13, p2_14, p2_15, km, bk1.2.1, bk1.2.2.1, bk1.2.2.2, s1, s2, s3, s4, s5, ix_nI u1, ix_nI u2, ix_nI u3, ix_nI u4, ix_nI u5, nI_pos' u1, nI_pos' u2, nI_pos' u3, nI_pos' u4, nI_pos' u5, v1, v2, v3, v4, v5]
    refine o_friend M1 gS gH (fun y2 e2 n2 => ?_) fun e2 => absurd (e.symm.trans e2) y0
    obtain rfl := e.symm.trans e2
    simp only [s270_445, s270_448, oB_some, cl2_i, cl2_r, cl2_l, cl2_u, cl2_s, wd_0, wd_i, wd_r, wd_l, wd_f, ct_i, ct_r, ct_n, ct_f, rf_s, rf_n, tl_s, tl_n, true_and, and_true, eq_self, and_self, Nat.reduceAdd, Nat.reduceLeDiff, Nat.zero_le, Nat.reduceEqDiff, or_true, true_or, false_or, or_false, if_true, if_false, gI_0, gI_1, gI_2, gI_3, gI_4, gI_5, gI_6, gI_7, gI_8, gI_9, gI_10, gI_11, gI_12, gI_13, gI_14, gI_15, gL_0, gL_1, gL_2, gL_3, gL_4, gL_5, gL_6, gL_7, gL_8, gL_9, gL_10, gL_11, gL_12, gL_13, gL_14, gL_15, gA_0, gA_1, gA_2, gA_3, gA_4, gA_5, gA_6, gA_7, gA_8, gA_9, gA_10, gA_11, gA_12, gA_13, gA_14, gA_15, p1_0, p1_1, p1_2, p1_3, p1_4, p1_5, p1_6, p1_7, p1_8, p1_9, p1_10, p1_11, p1_12, p1_13, p1_14, p1_15, p2_0, p2_1, p2_2, p2_3, p2_4, p2_5, p2_6, p2_7, p2_8, p2_9, p2_10, p2_11, p2_12, p2_13, p2_14, p2_15, b01_ok, b_ft, b_tf, b01_e0, b01_e1, lgc_0, not_true_eq_false, not_false_eq_true]
    rw [eh]
    exact nx _ _ _ _ _ _ _ _ _ (by omega) (by omega) (a.refuse y)
  · skip
    have fa1 := f1
    have bk1 := bk1.fa fa1
    have M1 := M.fa gH fa1
    have km : hkd h1 (x + 34) = 16 := M1.1.1.1.1.1
    simp only [s270_431, s270_432, s270_433, s270_434, s270_435, s270_436, s270_437, s270_438, s270_439, s270_440, s270_441, s270_442, oB_some, cl2_i, cl2_r, cl2_l, cl2_u, cl2_s, wd_0, wd_i, wd_r, wd_l, wd_f, ct_i, ct_r, ct_n, ct_f, rf_s, rf_n, tl_s, tl_n, true_and, and_true, eq_self, and_self, Nat.reduceAdd, Nat.reduceLeDiff, Nat.zero_le, Nat.reduceEqDiff, or_true, true_or, false_or, or_false, if_true, if_false, gI_0, gI_1, gI_2, gI_3, gI_4, gI_5, gI_6, gI_7, gI_8, gI_9, gI_10, gI_11, gI_12, gI_13, gI_14, gI_15, gL_0, gL_1, gL_2, gL_3, gL_4, gL_5, gL_6, gL_7, gL_8, gL_9, gL_10, gL_11, gL_12, gL_13, gL_14, gL_15, gA_0, gA_1, gA_2, gA_3, gA_4, gA_5, gA_6, gA_7, gA_8, gA_9, gA_10, gA_11, gA_12, gA_13, gA_14, gA_15, p1_0, p1_1, p1_2, p1_3, p1_4, p1_5, p1_6, p1_7, p1_8, p1_9, p1_10, p1_11, p1_12, p1_13, p1_14, p1_15, p2_0, p2_1, p2_2, p2_3, p2_4, p2_5, p2_6, p2_7, p2_8, p2_9, p2_10, p2_11, p2_12, p2_13, p2_14, p2_15, km, bk1.2.1, bk1.2.2.1, bk1.2.2.2, s1, s2, s3, s4, s5, ix_nI u1, ix_nI u2, ix_nI u3, ix_nI u4, ix_nI u5, nI_pos' u1, nI_pos' u2, nI_pos' u3, nI_pos' u4, nI_pos' u5, v1, v2, v3, v4, v5]
    refine o_friend M1 gS gH (fun y2 e2 n2 => absurd (e2.symm.trans e) n2) fun _ h2 f2 e2 M2 => ?_
    simp only [s270_445, s270_448, oB_some, cl2_i, cl2_r, cl2_l, cl2_u, cl2_s, wd_0, wd_i, wd_r, wd_l, wd_f, ct_i, ct_r, ct_n, ct_f, rf_s, rf_n, tl_s, tl_n, true_and, and_true, eq_self, and_self, Nat.reduceAdd, Nat.reduceLeDiff, Nat.zero_le, Nat.reduceEqDiff, or_true, true_or, false_or, or_false, if_true, if_false, gI_0, gI_1, gI_2, gI_3, gI_4, gI_5, gI_6, gI_7, gI_8, gI_9, gI_10, gI_11, gI_12, gI_13, gI_14, gI_15, gL_0, gL_1, gL_2, gL_3, gL_4, gL_5, gL_6, gL_7, gL_8, gL_9, gL_10, gL_11, gL_12, gL_13, gL_14, gL_15, gA_0, gA_1, gA_2, gA_3, gA_4, gA_5, gA_6, gA_7, gA_8, gA_9, gA_10, gA_11, gA_12, gA_13, gA_14, gA_15, p1_0, p1_1, p1_2, p1_3, p1_4, p1_5, p1_6, p1_7, p1_8, p1_9, p1_10, p1_11, p1_12, p1_13, p1_14, p1_15, p2_0, p2_1, p2_2, p2_3, p2_4, p2_5, p2_6, p2_7, p2_8, p2_9, p2_10, p2_11, p2_12, p2_13, p2_14, p2_15, b01_ok, b_ft, b_tf, b01_e0, b01_e1, lgc_0, not_true_eq_false, not_false_eq_true]
    exact nx _ _ _ _ _ _ _ _ _ (by omega) (by omega) (a.step f1 e1 C1 f2 e2 M2 (gv_friend gS e) (GH_push gH gS))
set_option maxHeartbeats 4000000 in
theorem lc_tells {b L x tl len i c s : Nat} {xs : Nat → Int32} {h : HP} {tp r : Nat → Nat} {S : VS} {H : HS} {Q : PQ} (a : LI b L xs h x S H tp tl r len) (hi : i + 6 ≤ L) (hL : L ≤ 3072) (hc : 12 ≤ c) (hs : 172 ≤ s)
    (nx : ∀ h' S' H' tp' tl' r' len' c' s', c ≤ c' + 12 → s ≤ s' + 172 → LI b L xs h' x S' H' tp' tl' r' len' → WP 11 270 Q (1434, [.val (.ref b), .val (.ref x), .val (.ref (x + 34)), .val (.int (nI i))], [], h', c', s')) : WP 11 270 Q (450, [.val (.ref b), .val (.ref x), .val (.ref (x + 34)), .val (.int (nI i))], [], h, c, s) := by
  have a0 := a
  obtain ⟨C, M, ⟨gS, gH⟩, rf, bk⟩ := a0
  have bk1 : SKb b L xs x h := bk
  have s1 : nI i + 1 = nI (i + 1) := nI_add i 1
  have s2 : nI i + 2 = nI (i + 2) := nI_add i 2
  have s3 : nI i + 3 = nI (i + 3) := nI_add i 3
  have s4 : nI i + 4 = nI (i + 4) := nI_add i 4
  have s5 : nI i + 5 = nI (i + 5) := nI_add i 5
  have u1 : i + 1 < 2 ^ 31 := by omega
  have u2 : i + 2 < 2 ^ 31 := by omega
  have u3 : i + 3 < 2 ^ 31 := by omega
  have u4 : i + 4 < 2 ^ 31 := by omega
  have u5 : i + 5 < 2 ^ 31 := by omega
  have v1 : i + 1 < L := by omega
  have v2 : i + 2 < L := by omega
  have v3 : i + 3 < L := by omega
  have v4 : i + 4 < L := by omega
  have v5 : i + 5 < L := by omega
  have kx : hkd h x = 15 := C.1.1.1.1
  simp only [s270_450, s270_451, s270_452, s270_453, s270_454, s270_455, s270_456, s270_457, s270_458, s270_459, s270_460, s270_461, oB_some, cl2_i, cl2_r, cl2_l, cl2_u, cl2_s, wd_0, wd_i, wd_r, wd_l, wd_f, ct_i, ct_r, ct_n, ct_f, rf_s, rf_n, tl_s, tl_n, true_and, and_true, eq_self, and_self, Nat.reduceAdd, Nat.reduceLeDiff, Nat.zero_le, Nat.reduceEqDiff, or_true, true_or, false_or, or_false, if_true, if_false, gI_0, gI_1, gI_2, gI_3, gI_4, gI_5, gI_6, gI_7, gI_8, gI_9, gI_10, gI_11, gI_12, gI_13, gI_14, gI_15, gL_0, gL_1, gL_2, gL_3, gL_4, gL_5, gL_6, gL_7, gL_8, gL_9, gL_10, gL_11, gL_12, gL_13, gL_14, gL_15, gA_0, gA_1, gA_2, gA_3, gA_4, gA_5, gA_6, gA_7, gA_8, gA_9, gA_10, gA_11, gA_12, gA_13, gA_14, gA_15, p1_0, p1_1, p1_2, p1_3, p1_4, p1_5, p1_6, p1_7, p1_8, p1_9, p1_10, p1_11, p1_12, p1_13, p1_14, p1_15, p2_0, p2_1, p2_2, p2_3, p2_4, p2_5, p2_6, p2_7, p2_8, p2_9, p2_10, p2_11, p2_12, p2_13, p2_14, p2_15, kx, hc, hs, bk1.2.1, bk1.2.2.1, bk1.2.2.2, s1, s2, s3, s4, s5, ix_nI u1, ix_nI u2, ix_nI u3, ix_nI u4, ix_nI u5, nI_pos' u1, nI_pos' u2, nI_pos' u3, nI_pos' u4, nI_pos' u5, v1, v2, v3, v4, v5]
  refine x_tells C gS gH (fun y e y0 => ?_) fun e h1 f1 e1 C1 => ?_
  · skip
    obtain ⟨h1, eh⟩ : ∃ z, z = RfC h x y := ⟨_, rfl⟩
    have fa1 : FA x h h1 := by rw [eh]; exact RfC.fa
    rw [← eh]
    have bk1 := bk1.fa fa1
    have M1 := M.fa gH fa1
    have km : hkd h1 (x + 34) = 16 := M1.1.1.1.1.1
    simp only [s270_464, s270_465, s270_466, s270_467, s270_468, s270_469, s270_470, s270_471, s270_472, s270_473, s270_474, s270_475, oB_some, cl2_i, cl2_r, cl2_l, cl2_u, cl2_s, wd_0, wd_i, wd_r, wd_l, wd_f, ct_i, ct_r, ct_n, ct_f, rf_s, rf_n, tl_s, tl_n, true_and, and_true, eq_self, and_self, Nat.reduceAdd, Nat.reduceLeDiff, Nat.zero_le, Nat.reduceEqDiff, or_true, true_or, false_or, or_false, if_true, if_false, gI_0, gI_1, gI_2, gI_3, gI_4, gI_5, gI_6, gI_7, gI_8, gI_9, gI_10, gI_11, gI_12, gI_13, gI_14, gI_15, gL_0, gL_1, gL_2, gL_3, gL_4, gL_5, gL_6, gL_7, gL_8, gL_9, gL_10, gL_11, gL_12, gL_13, gL_14, gL_15, gA_0, gA_1, gA_2, gA_3, gA_4, gA_5, gA_6, gA_7, gA_8, gA_9, gA_10, gA_11, gA_12, gA_13, gA_14, gA_15, p1_0, p1_1, p1_2, p1_3, p1_4, p1_5, p1_6, p1_7, p1_8, p1_9, p1_10, p1_11, p1_12, p1_13, p1_14, p1_15, p2_0, p2_1, p2_2, p2_3, p2_4, p2_5, p2_6, p2_7, p2_8, p2_9, p2_10, p2_11, p2_12, p2_13, p2_14, p2_15, km, bk1.2.1, bk1.2.2.1, bk1.2.2.2, s1, s2, s3, s4, s5, ix_nI u1, ix_nI u2, ix_nI u3, ix_nI u4, ix_nI u5, nI_pos' u1, nI_pos' u2, nI_pos' u3, nI_pos' u4, nI_pos' u5, v1, v2, v3, v4, v5]
    refine o_tells M1 gS gH (fun y2 e2 n2 => ?_) fun e2 => absurd (e.symm.trans e2) y0
    obtain rfl := e.symm.trans e2
    simp only [s270_478, s270_481, oB_some, cl2_i, cl2_r, cl2_l, cl2_u, cl2_s, wd_0, wd_i, wd_r, wd_l, wd_f, ct_i, ct_r, ct_n, ct_f, rf_s, rf_n, tl_s, tl_n, true_and, and_true, eq_self, and_self, Nat.reduceAdd, Nat.reduceLeDiff, Nat.zero_le, Nat.reduceEqDiff, or_true, true_or, false_or, or_false, if_true, if_false, gI_0, gI_1, gI_2, gI_3, gI_4, gI_5, gI_6, gI_7, gI_8, gI_9, gI_10, gI_11, gI_12, gI_13, gI_14, gI_15, gL_0, gL_1, gL_2, gL_3, gL_4, gL_5, gL_6, gL_7, gL_8, gL_9, gL_10, gL_11, gL_12, gL_13, gL_14, gL_15, gA_0, gA_1, gA_2, gA_3, gA_4, gA_5, gA_6, gA_7, gA_8, gA_9, gA_10, gA_11, gA_12, gA_13, gA_14, gA_15, p1_0, p1_1, p1_2, p1_3, p1_4, p1_5, p1_6, p1_7, p1_8, p1_9, p1_10, p1_11, p1_12, p1_13, p1_14, p1_15, p2_0, p2_1, p2_2, p2_3, p2_4, p2_5, p2_6, p2_7, p2_8, p2_9, p2_10, p2_11, p2_12, p2_13, p2_14, p2_15, b01_ok, b_ft, b_tf, b01_e0, b01_e1, lgc_0, not_true_eq_false, not_false_eq_true]
    rw [eh]
    exact nx _ _ _ _ _ _ _ _ _ (by omega) (by omega) (a.refuse y)
  · skip
    have fa1 := f1
    have bk1 := bk1.fa fa1
    have M1 := M.fa gH fa1
    have km : hkd h1 (x + 34) = 16 := M1.1.1.1.1.1
    simp only [s270_464, s270_465, s270_466, s270_467, s270_468, s270_469, s270_470, s270_471, s270_472, s270_473, s270_474, s270_475, oB_some, cl2_i, cl2_r, cl2_l, cl2_u, cl2_s, wd_0, wd_i, wd_r, wd_l, wd_f, ct_i, ct_r, ct_n, ct_f, rf_s, rf_n, tl_s, tl_n, true_and, and_true, eq_self, and_self, Nat.reduceAdd, Nat.reduceLeDiff, Nat.zero_le, Nat.reduceEqDiff, or_true, true_or, false_or, or_false, if_true, if_false, gI_0, gI_1, gI_2, gI_3, gI_4, gI_5, gI_6, gI_7, gI_8, gI_9, gI_10, gI_11, gI_12, gI_13, gI_14, gI_15, gL_0, gL_1, gL_2, gL_3, gL_4, gL_5, gL_6, gL_7, gL_8, gL_9, gL_10, gL_11, gL_12, gL_13, gL_14, gL_15, gA_0, gA_1, gA_2, gA_3, gA_4, gA_5, gA_6, gA_7, gA_8, gA_9, gA_10, gA_11, gA_12, gA_13, gA_14, gA_15, p1_0, p1_1, p1_2, p1_3, p1_4, p1_5, p1_6, p1_7, p1_8, p1_9, p1_10, p1_11, p1_12, p1_13, p1_14, p1_15, p2_0, p2_1, p2_2, p2_3, p2_4, p2_5, p2_6, p2_7, p2_8, p2_9, p2_10, p2_11, p2_12, p2_13, p2_14, p2_15, km, bk1.2.1, bk1.2.2.1, bk1.2.2.2, s1, s2, s3, s4, s5, ix_nI u1, ix_nI u2, ix_nI u3, ix_nI u4, ix_nI u5, nI_pos' u1, nI_pos' u2, nI_pos' u3, nI_pos' u4, nI_pos' u5, v1, v2, v3, v4, v5]
    refine o_tells M1 gS gH (fun y2 e2 n2 => absurd (e2.symm.trans e) n2) fun _ h2 f2 e2 M2 => ?_
    simp only [s270_478, s270_481, oB_some, cl2_i, cl2_r, cl2_l, cl2_u, cl2_s, wd_0, wd_i, wd_r, wd_l, wd_f, ct_i, ct_r, ct_n, ct_f, rf_s, rf_n, tl_s, tl_n, true_and, and_true, eq_self, and_self, Nat.reduceAdd, Nat.reduceLeDiff, Nat.zero_le, Nat.reduceEqDiff, or_true, true_or, false_or, or_false, if_true, if_false, gI_0, gI_1, gI_2, gI_3, gI_4, gI_5, gI_6, gI_7, gI_8, gI_9, gI_10, gI_11, gI_12, gI_13, gI_14, gI_15, gL_0, gL_1, gL_2, gL_3, gL_4, gL_5, gL_6, gL_7, gL_8, gL_9, gL_10, gL_11, gL_12, gL_13, gL_14, gL_15, gA_0, gA_1, gA_2, gA_3, gA_4, gA_5, gA_6, gA_7, gA_8, gA_9, gA_10, gA_11, gA_12, gA_13, gA_14, gA_15, p1_0, p1_1, p1_2, p1_3, p1_4, p1_5, p1_6, p1_7, p1_8, p1_9, p1_10, p1_11, p1_12, p1_13, p1_14, p1_15, p2_0, p2_1, p2_2, p2_3, p2_4, p2_5, p2_6, p2_7, p2_8, p2_9, p2_10, p2_11, p2_12, p2_13, p2_14, p2_15, b01_ok, b_ft, b_tf, b01_e0, b01_e1, lgc_0, not_true_eq_false, not_false_eq_true]
    exact nx _ _ _ _ _ _ _ _ _ (by omega) (by omega) (a.step f1 e1 C1 f2 e2 M2 (gv_tells gS e) (GH_push gH gS))
set_option maxHeartbeats 4000000 in
theorem lc_forbids {b L x tl len i c s : Nat} {xs : Nat → Int32} {h : HP} {tp r : Nat → Nat} {S : VS} {H : HS} {Q : PQ} (a : LI b L xs h x S H tp tl r len) (hi : i + 6 ≤ L) (hL : L ≤ 3072) (hc : 12 ≤ c) (hs : 172 ≤ s)
    (nx : ∀ h' S' H' tp' tl' r' len' c' s', c ≤ c' + 12 → s ≤ s' + 172 → LI b L xs h' x S' H' tp' tl' r' len' → WP 11 270 Q (1434, [.val (.ref b), .val (.ref x), .val (.ref (x + 34)), .val (.int (nI i))], [], h', c', s')) : WP 11 270 Q (483, [.val (.ref b), .val (.ref x), .val (.ref (x + 34)), .val (.int (nI i))], [], h, c, s) := by
  have a0 := a
  obtain ⟨C, M, ⟨gS, gH⟩, rf, bk⟩ := a0
  have bk1 : SKb b L xs x h := bk
  have s1 : nI i + 1 = nI (i + 1) := nI_add i 1
  have s2 : nI i + 2 = nI (i + 2) := nI_add i 2
  have s3 : nI i + 3 = nI (i + 3) := nI_add i 3
  have s4 : nI i + 4 = nI (i + 4) := nI_add i 4
  have s5 : nI i + 5 = nI (i + 5) := nI_add i 5
  have u1 : i + 1 < 2 ^ 31 := by omega
  have u2 : i + 2 < 2 ^ 31 := by omega
  have u3 : i + 3 < 2 ^ 31 := by omega
  have u4 : i + 4 < 2 ^ 31 := by omega
  have u5 : i + 5 < 2 ^ 31 := by omega
  have v1 : i + 1 < L := by omega
  have v2 : i + 2 < L := by omega
  have v3 : i + 3 < L := by omega
  have v4 : i + 4 < L := by omega
  have v5 : i + 5 < L := by omega
  have kx : hkd h x = 15 := C.1.1.1.1
  simp only [s270_483, s270_484, s270_485, s270_486, s270_487, s270_488, s270_489, oB_some, cl2_i, cl2_r, cl2_l, cl2_u, cl2_s, wd_0, wd_i, wd_r, wd_l, wd_f, ct_i, ct_r, ct_n, ct_f, rf_s, rf_n, tl_s, tl_n, true_and, and_true, eq_self, and_self, Nat.reduceAdd, Nat.reduceLeDiff, Nat.zero_le, Nat.reduceEqDiff, or_true, true_or, false_or, or_false, if_true, if_false, gI_0, gI_1, gI_2, gI_3, gI_4, gI_5, gI_6, gI_7, gI_8, gI_9, gI_10, gI_11, gI_12, gI_13, gI_14, gI_15, gL_0, gL_1, gL_2, gL_3, gL_4, gL_5, gL_6, gL_7, gL_8, gL_9, gL_10, gL_11, gL_12, gL_13, gL_14, gL_15, gA_0, gA_1, gA_2, gA_3, gA_4, gA_5, gA_6, gA_7, gA_8, gA_9, gA_10, gA_11, gA_12, gA_13, gA_14, gA_15, p1_0, p1_1, p1_2, p1_3, p1_4, p1_5, p1_6, p1_7, p1_8, p1_9, p1_10, p1_11, p1_12, p1_13, p1_14, p1_15, p2_0, p2_1, p2_2, p2_3, p2_4, p2_5, p2_6, p2_7, p2_8, p2_9, p2_10, p2_11, p2_12, p2_13, p2_14, p2_15, kx, hc, hs, bk1.2.1, bk1.2.2.1, bk1.2.2.2, s1, s2, s3, s4, s5, ix_nI u1, ix_nI u2, ix_nI u3, ix_nI u4, ix_nI u5, nI_pos' u1, nI_pos' u2, nI_pos' u3, nI_pos' u4, nI_pos' u5, v1, v2, v3, v4, v5]
  refine x_forbids C gS gH (fun y e y0 => ?_) fun e h1 f1 e1 C1 => ?_
  · skip
    obtain ⟨h1, eh⟩ : ∃ z, z = RfC h x y := ⟨_, rfl⟩
    have fa1 : FA x h h1 := by rw [eh]; exact RfC.fa
    rw [← eh]
    have bk1 := bk1.fa fa1
    have M1 := M.fa gH fa1
    have km : hkd h1 (x + 34) = 16 := M1.1.1.1.1.1
    simp only [s270_492, s270_493, s270_494, s270_495, s270_496, s270_497, s270_498, oB_some, cl2_i, cl2_r, cl2_l, cl2_u, cl2_s, wd_0, wd_i, wd_r, wd_l, wd_f, ct_i, ct_r, ct_n, ct_f, rf_s, rf_n, tl_s, tl_n, true_and, and_true, eq_self, and_self, Nat.reduceAdd, Nat.reduceLeDiff, Nat.zero_le, Nat.reduceEqDiff, or_true, true_or, false_or, or_false, if_true, if_false, gI_0, gI_1, gI_2, gI_3, gI_4, gI_5, gI_6, gI_7, gI_8, gI_9, gI_10, gI_11, gI_12, gI_13, gI_14, gI_15, gL_0, gL_1, gL_2, gL_3, gL_4, gL_5, gL_6, gL_7, gL_8, gL_9, gL_10, gL_11, gL_12, gL_13, gL_14, gL_15, gA_0, gA_1, gA_2, gA_3, gA_4, gA_5, gA_6, gA_7, gA_8, gA_9, gA_10, gA_11, gA_12, gA_13, gA_14, gA_15, p1_0, p1_1, p1_2, p1_3, p1_4, p1_5, p1_6, p1_7, p1_8, p1_9, p1_10, p1_11, p1_12, p1_13, p1_14, p1_15, p2_0, p2_1, p2_2, p2_3, p2_4, p2_5, p2_6, p2_7, p2_8, p2_9, p2_10, p2_11, p2_12, p2_13, p2_14, p2_15, km, bk1.2.1, bk1.2.2.1, bk1.2.2.2, s1, s2, s3, s4, s5, ix_nI u1, ix_nI u2, ix_nI u3, ix_nI u4, ix_nI u5, nI_pos' u1, nI_pos' u2, nI_pos' u3, nI_pos' u4, nI_pos' u5, v1, v2, v3, v4, v5]
    refine o_forbids M1 gS gH (fun y2 e2 n2 => ?_) fun e2 => absurd (e.symm.trans e2) y0
    obtain rfl := e.symm.trans e2
    simp only [s270_501, s270_504, oB_some, cl2_i, cl2_r, cl2_l, cl2_u, cl2_s, wd_0, wd_i, wd_r, wd_l, wd_f, ct_i, ct_r, ct_n, ct_f, rf_s, rf_n, tl_s, tl_n, true_and, and_true, eq_self, and_self, Nat.reduceAdd, Nat.reduceLeDiff, Nat.zero_le, Nat.reduceEqDiff, or_true, true_or, false_or, or_false, if_true, if_false, gI_0, gI_1, gI_2, gI_3, gI_4, gI_5, gI_6, gI_7, gI_8, gI_9, gI_10, gI_11, gI_12, gI_13, gI_14, gI_15, gL_0, gL_1, gL_2, gL_3, gL_4, gL_5, gL_6, gL_7, gL_8, gL_9, gL_10, gL_11, gL_12, gL_13, gL_14, gL_15, gA_0, gA_1, gA_2, gA_3, gA_4, gA_5, gA_6, gA_7, gA_8, gA_9, gA_10, gA_11, gA_12, gA_13, gA_14, gA_15, p1_0, p1_1, p1_2, p1_3, p1_4, p1_5, p1_6, p1_7, p1_8, p1_9, p1_10, p1_11, p1_12, p1_13, p1_14, p1_15, p2_0, p2_1, p2_2, p2_3, p2_4, p2_5, p2_6, p2_7, p2_8, p2_9, p2_10, p2_11, p2_12, p2_13, p2_14, p2_15, b01_ok, b_ft, b_tf, b01_e0, b01_e1, lgc_0, not_true_eq_false, not_false_eq_true]
    rw [eh]
    exact nx _ _ _ _ _ _ _ _ _ (by omega) (by omega) (a.refuse y)
  · skip
    have fa1 := f1
    have bk1 := bk1.fa fa1
    have M1 := M.fa gH fa1
    have km : hkd h1 (x + 34) = 16 := M1.1.1.1.1.1
    simp only [s270_492, s270_493, s270_494, s270_495, s270_496, s270_497, s270_498, oB_some, cl2_i, cl2_r, cl2_l, cl2_u, cl2_s, wd_0, wd_i, wd_r, wd_l, wd_f, ct_i, ct_r, ct_n, ct_f, rf_s, rf_n, tl_s, tl_n, true_and, and_true, eq_self, and_self, Nat.reduceAdd, Nat.reduceLeDiff, Nat.zero_le, Nat.reduceEqDiff, or_true, true_or, false_or, or_false, if_true, if_false, gI_0, gI_1, gI_2, gI_3, gI_4, gI_5, gI_6, gI_7, gI_8, gI_9, gI_10, gI_11, gI_12, gI_13, gI_14, gI_15, gL_0, gL_1, gL_2, gL_3, gL_4, gL_5, gL_6, gL_7, gL_8, gL_9, gL_10, gL_11, gL_12, gL_13, gL_14, gL_15, gA_0, gA_1, gA_2, gA_3, gA_4, gA_5, gA_6, gA_7, gA_8, gA_9, gA_10, gA_11, gA_12, gA_13, gA_14, gA_15, p1_0, p1_1, p1_2, p1_3, p1_4, p1_5, p1_6, p1_7, p1_8, p1_9, p1_10, p1_11, p1_12, p1_13, p1_14, p1_15, p2_0, p2_1, p2_2, p2_3, p2_4, p2_5, p2_6, p2_7, p2_8, p2_9, p2_10, p2_11, p2_12, p2_13, p2_14, p2_15, km, bk1.2.1, bk1.2.2.1, bk1.2.2.2, s1, s2, s3, s4, s5, ix_nI u1, ix_nI u2, ix_nI u3, ix_nI u4, ix_nI u5, nI_pos' u1, nI_pos' u2, nI_pos' u3, nI_pos' u4, nI_pos' u5, v1, v2, v3, v4, v5]
    refine o_forbids M1 gS gH (fun y2 e2 n2 => absurd (e2.symm.trans e) n2) fun _ h2 f2 e2 M2 => ?_
    simp only [s270_501, s270_504, oB_some, cl2_i, cl2_r, cl2_l, cl2_u, cl2_s, wd_0, wd_i, wd_r, wd_l, wd_f, ct_i, ct_r, ct_n, ct_f, rf_s, rf_n, tl_s, tl_n, true_and, and_true, eq_self, and_self, Nat.reduceAdd, Nat.reduceLeDiff, Nat.zero_le, Nat.reduceEqDiff, or_true, true_or, false_or, or_false, if_true, if_false, gI_0, gI_1, gI_2, gI_3, gI_4, gI_5, gI_6, gI_7, gI_8, gI_9, gI_10, gI_11, gI_12, gI_13, gI_14, gI_15, gL_0, gL_1, gL_2, gL_3, gL_4, gL_5, gL_6, gL_7, gL_8, gL_9, gL_10, gL_11, gL_12, gL_13, gL_14, gL_15, gA_0, gA_1, gA_2, gA_3, gA_4, gA_5, gA_6, gA_7, gA_8, gA_9, gA_10, gA_11, gA_12, gA_13, gA_14, gA_15, p1_0, p1_1, p1_2, p1_3, p1_4, p1_5, p1_6, p1_7, p1_8, p1_9, p1_10, p1_11, p1_12, p1_13, p1_14, p1_15, p2_0, p2_1, p2_2, p2_3, p2_4, p2_5, p2_6, p2_7, p2_8, p2_9, p2_10, p2_11, p2_12, p2_13, p2_14, p2_15, b01_ok, b_ft, b_tf, b01_e0, b01_e1, lgc_0, not_true_eq_false, not_false_eq_true]
    exact nx _ _ _ _ _ _ _ _ _ (by omega) (by omega) (a.step f1 e1 C1 f2 e2 M2 (gv_forbids gS e) (GH_push gH gS))
set_option maxHeartbeats 4000000 in
theorem lc_rubber {b L x tl len i c s : Nat} {xs : Nat → Int32} {h : HP} {tp r : Nat → Nat} {S : VS} {H : HS} {Q : PQ} (a : LI b L xs h x S H tp tl r len) (hi : i + 6 ≤ L) (hL : L ≤ 3072) (hc : 12 ≤ c) (hs : 172 ≤ s)
    (nx : ∀ h' S' H' tp' tl' r' len' c' s', c ≤ c' + 12 → s ≤ s' + 172 → LI b L xs h' x S' H' tp' tl' r' len' → WP 11 270 Q (1434, [.val (.ref b), .val (.ref x), .val (.ref (x + 34)), .val (.int (nI i))], [], h', c', s')) : WP 11 270 Q (506, [.val (.ref b), .val (.ref x), .val (.ref (x + 34)), .val (.int (nI i))], [], h, c, s) := by
  have a0 := a
  obtain ⟨C, M, ⟨gS, gH⟩, rf, bk⟩ := a0
  have bk1 : SKb b L xs x h := bk
  have s1 : nI i + 1 = nI (i + 1) := nI_add i 1
  have s2 : nI i + 2 = nI (i + 2) := nI_add i 2
  have s3 : nI i + 3 = nI (i + 3) := nI_add i 3
  have s4 : nI i + 4 = nI (i + 4) := nI_add i 4
  have s5 : nI i + 5 = nI (i + 5) := nI_add i 5
  have u1 : i + 1 < 2 ^ 31 := by omega
  have u2 : i + 2 < 2 ^ 31 := by omega
  have u3 : i + 3 < 2 ^ 31 := by omega
  have u4 : i + 4 < 2 ^ 31 := by omega
  have u5 : i + 5 < 2 ^ 31 := by omega
  have v1 : i + 1 < L := by omega
  have v2 : i + 2 < L := by omega
  have v3 : i + 3 < L := by omega
  have v4 : i + 4 < L := by omega
  have v5 : i + 5 < L := by omega
  have kx : hkd h x = 15 := C.1.1.1.1
  simp only [s270_506, s270_507, s270_508, s270_509, s270_510, s270_511, s270_512, oB_some, cl2_i, cl2_r, cl2_l, cl2_u, cl2_s, wd_0, wd_i, wd_r, wd_l, wd_f, ct_i, ct_r, ct_n, ct_f, rf_s, rf_n, tl_s, tl_n, true_and, and_true, eq_self, and_self, Nat.reduceAdd, Nat.reduceLeDiff, Nat.zero_le, Nat.reduceEqDiff, or_true, true_or, false_or, or_false, if_true, if_false, gI_0, gI_1, gI_2, gI_3, gI_4, gI_5, gI_6, gI_7, gI_8, gI_9, gI_10, gI_11, gI_12, gI_13, gI_14, gI_15, gL_0, gL_1, gL_2, gL_3, gL_4, gL_5, gL_6, gL_7, gL_8, gL_9, gL_10, gL_11, gL_12, gL_13, gL_14, gL_15, gA_0, gA_1, gA_2, gA_3, gA_4, gA_5, gA_6, gA_7, gA_8, gA_9, gA_10, gA_11, gA_12, gA_13, gA_14, gA_15, p1_0, p1_1, p1_2, p1_3, p1_4, p1_5, p1_6, p1_7, p1_8, p1_9, p1_10, p1_11, p1_12, p1_13, p1_14, p1_15, p2_0, p2_1, p2_2, p2_3, p2_4, p2_5, p2_6, p2_7, p2_8, p2_9, p2_10, p2_11, p2_12, p2_13, p2_14, p2_15, kx, hc, hs, bk1.2.1, bk1.2.2.1, bk1.2.2.2, s1, s2, s3, s4, s5, ix_nI u1, ix_nI u2, ix_nI u3, ix_nI u4, ix_nI u5, nI_pos' u1, nI_pos' u2, nI_pos' u3, nI_pos' u4, nI_pos' u5, v1, v2, v3, v4, v5]
  refine x_rubber C gS gH (fun y e y0 => ?_) fun e h1 f1 e1 C1 => ?_
  · skip
    obtain ⟨h1, eh⟩ : ∃ z, z = RfC h x y := ⟨_, rfl⟩
    have fa1 : FA x h h1 := by rw [eh]; exact RfC.fa
    rw [← eh]
    have bk1 := bk1.fa fa1
    have M1 := M.fa gH fa1
    have km : hkd h1 (x + 34) = 16 := M1.1.1.1.1.1
    simp only [s270_515, s270_516, s270_517, s270_518, s270_519, s270_520, s270_521, oB_some, cl2_i, cl2_r, cl2_l, cl2_u, cl2_s, wd_0, wd_i, wd_r, wd_l, wd_f, ct_i, ct_r, ct_n, ct_f, rf_s, rf_n, tl_s, tl_n, true_and, and_true, eq_self, and_self, Nat.reduceAdd, Nat.reduceLeDiff, Nat.zero_le, Nat.reduceEqDiff, or_true, true_or, false_or, or_false, if_true, if_false, gI_0, gI_1, gI_2, gI_3, gI_4, gI_5, gI_6, gI_7, gI_8, gI_9, gI_10, gI_11, gI_12, gI_13, gI_14, gI_15, gL_0, gL_1, gL_2, gL_3, gL_4, gL_5, gL_6, gL_7, gL_8, gL_9, gL_10, gL_11, gL_12, gL_13, gL_14, gL_15, gA_0, gA_1, gA_2, gA_3, gA_4, gA_5, gA_6, gA_7, gA_8, gA_9, gA_10, gA_11, gA_12, gA_13, gA_14, gA_15, p1_0, p1_1, p1_2, p1_3, p1_4, p1_5, p1_6, p1_7, p1_8, p1_9, p1_10, p1_11, p1_12, p1_13, p1_14, p1_15, p2_0, p2_1, p2_2, p2_3, p2_4, p2_5, p2_6, p2_7, p2_8, p2_9, p2_10, p2_11, p2_12, p2_13, p2_14, p2_15, km, bk1.2.1, bk1.2.2.1, bk1.2.2.2, s1, s2, s3, s4, s5, ix_nI u1, ix_nI u2, ix_nI u3, ix_nI u4, ix_nI u5, nI_pos' u1, nI_pos' u2, nI_pos' u3, nI_pos' u4, nI_pos' u5, v1, v2, v3, v4, v5]
    refine o_rubber M1 gS gH (fun y2 e2 n2 => ?_) fun e2 => absurd (e.symm.trans e2) y0
    obtain rfl := e.symm.trans e2
    simp only [s270_524, s270_527, oB_some, cl2_i, cl2_r, cl2_l, cl2_u, cl2_s, wd_0, wd_i, wd_r, wd_l, wd_f, ct_i, ct_r, ct_n, ct_f, rf_s, rf_n, tl_s, tl_n, true_and, and_true, eq_self, and_self, Nat.reduceAdd, Nat.reduceLeDiff, Nat.zero_le, Nat.reduceEqDiff, or_true, true_or, false_or, or_false, if_true, if_false, gI_0, gI_1, gI_2, gI_3, gI_4, gI_5, gI_6, gI_7, gI_8, gI_9, gI_10, gI_11, gI_12, gI_13, gI_14, gI_15, gL_0, gL_1, gL_2, gL_3, gL_4, gL_5, gL_6, gL_7, gL_8, gL_9, gL_10, gL_11, gL_12, gL_13, gL_14, gL_15, gA_0, gA_1, gA_2, gA_3, gA_4, gA_5, gA_6, gA_7, gA_8, gA_9, gA_10, gA_11, gA_12, gA_13, gA_14, gA_15, p1_0, p1_1, p1_2, p1_3, p1_4, p1_5, p1_6, p1_7, p1_8, p1_9, p1_10, p1_11, p1_12, p1_13, p1_14, p1_15, p2_0, p2_1, p2_2, p2_3, p2_4, p2_5, p2_6, p2_7, p2_8, p2_9, p2_10, p2_11, p2_12, p2_13, p2_14, p2_15, b01_ok, b_ft, b_tf, b01_e0, b01_e1, lgc_0, not_true_eq_false, not_false_eq_true]
    rw [eh]
    exact nx _ _ _ _ _ _ _ _ _ (by omega) (by omega) (a.refuse y)
  · skip
    have fa1 := f1
    have bk1 := bk1.fa fa1
    have M1 := M.fa gH fa1
    have km : hkd h1 (x + 34) = 16 := M1.1.1.1.1.1
    simp only [s270_515, s270_516, s270_517, s270_518, s270_519, s270_520, s270_521, oB_some, cl2_i, cl2_r, cl2_l, cl2_u, cl2_s, wd_0, wd_i, wd_r, wd_l, wd_f, ct_i, ct_r, ct_n, ct_f, rf_s, rf_n, tl_s, tl_n, true_and, and_true, eq_self, and_self, Nat.reduceAdd, Nat.reduceLeDiff, Nat.zero_le, Nat.reduceEqDiff, or_true, true_or, false_or, or_false, if_true, if_false, gI_0, gI_1, gI_2, gI_3, gI_4, gI_5, gI_6, gI_7, gI_8, gI_9, gI_10, gI_11, gI_12, gI_13, gI_14, gI_15, gL_0, gL_1, gL_2, gL_3, gL_4, gL_5, gL_6, gL_7, gL_8, gL_9, gL_10, gL_11, gL_12, gL_13, gL_14, gL_15, gA_0, gA_1, gA_2, gA_3, gA_4, gA_5, gA_6, gA_7, gA_8, gA_9, gA_10, gA_11, gA_12, gA_13, gA_14, gA_15, p1_0, p1_1, p1_2, p1_3, p1_4, p1_5, p1_6, p1_7, p1_8, p1_9, p1_10, p1_11, p1_12, p1_13, p1_14, p1_15, p2_0, p2_1, p2_2, p2_3, p2_4, p2_5, p2_6, p2_7, p2_8, p2_9, p2_10, p2_11, p2_12, p2_13, p2_14, p2_15, km, bk1.2.1, bk1.2.2.1, bk1.2.2.2, s1, s2, s3, s4, s5, ix_nI u1, ix_nI u2, ix_nI u3, ix_nI u4, ix_nI u5, nI_pos' u1, nI_pos' u2, nI_pos' u3, nI_pos' u4, nI_pos' u5, v1, v2, v3, v4, v5]
    refine o_rubber M1 gS gH (fun y2 e2 n2 => absurd (e2.symm.trans e) n2) fun _ h2 f2 e2 M2 => ?_
    simp only [s270_524, s270_527, oB_some, cl2_i, cl2_r, cl2_l, cl2_u, cl2_s, wd_0, wd_i, wd_r, wd_l, wd_f, ct_i, ct_r, ct_n, ct_f, rf_s, rf_n, tl_s, tl_n, true_and, and_true, eq_self, and_self, Nat.reduceAdd, Nat.reduceLeDiff, Nat.zero_le, Nat.reduceEqDiff, or_true, true_or, false_or, or_false, if_true, if_false, gI_0, gI_1, gI_2, gI_3, gI_4, gI_5, gI_6, gI_7, gI_8, gI_9, gI_10, gI_11, gI_12, gI_13, gI_14, gI_15, gL_0, gL_1, gL_2, gL_3, gL_4, gL_5, gL_6, gL_7, gL_8, gL_9, gL_10, gL_11, gL_12, gL_13, gL_14, gL_15, gA_0, gA_1, gA_2, gA_3, gA_4, gA_5, gA_6, gA_7, gA_8, gA_9, gA_10, gA_11, gA_12, gA_13, gA_14, gA_15, p1_0, p1_1, p1_2, p1_3, p1_4, p1_5, p1_6, p1_7, p1_8, p1_9, p1_10, p1_11, p1_12, p1_13, p1_14, p1_15, p2_0, p2_1, p2_2, p2_3, p2_4, p2_5, p2_6, p2_7, p2_8, p2_9, p2_10, p2_11, p2_12, p2_13, p2_14, p2_15, b01_ok, b_ft, b_tf, b01_e0, b01_e1, lgc_0, not_true_eq_false, not_false_eq_true]
    exact nx _ _ _ _ _ _ _ _ _ (by omega) (by omega) (a.step f1 e1 C1 f2 e2 M2 (gv_rubber gS e) (GH_push gH gS))
set_option maxHeartbeats 4000000 in
theorem lc_recalls {b L x tl len i c s : Nat} {xs : Nat → Int32} {h : HP} {tp r : Nat → Nat} {S : VS} {H : HS} {Q : PQ} (a : LI b L xs h x S H tp tl r len) (hi : i + 6 ≤ L) (hL : L ≤ 3072) (hc : 12 ≤ c) (hs : 172 ≤ s)
    (nx : ∀ h' S' H' tp' tl' r' len' c' s', c ≤ c' + 12 → s ≤ s' + 172 → LI b L xs h' x S' H' tp' tl' r' len' → WP 11 270 Q (1434, [.val (.ref b), .val (.ref x), .val (.ref (x + 34)), .val (.int (nI i))], [], h', c', s')) : WP 11 270 Q (529, [.val (.ref b), .val (.ref x), .val (.ref (x + 34)), .val (.int (nI i))], [], h, c, s) := by
  have a0 := a
  obtain ⟨C, M, ⟨gS, gH⟩, rf, bk⟩ := a0
  have bk1 : SKb b L xs x h := bk
  have s1 : nI i + 1 = nI (i + 1) := nI_add i 1
  have s2 : nI i + 2 = nI (i + 2) := nI_add i 2
  have s3 : nI i + 3 = nI (i + 3) := nI_add i 3
  have s4 : nI i + 4 = nI (i + 4) := nI_add i 4
  have s5 : nI i + 5 = nI (i + 5) := nI_add i 5
  have u1 : i + 1 < 2 ^ 31 := by omega
  have u2 : i + 2 < 2 ^ 31 := by omega
  have u3 : i + 3 < 2 ^ 31 := by omega
  have u4 : i + 4 < 2 ^ 31 := by omega
  have u5 : i + 5 < 2 ^ 31 := by omega
  have v1 : i + 1 < L := by omega
  have v2 : i + 2 < L := by omega
  have v3 : i + 3 < L := by omega
  have v4 : i + 4 < L := by omega
  have v5 : i + 5 < L := by omega
  have kx : hkd h x = 15 := C.1.1.1.1
  simp only [s270_529, s270_530, s270_531, s270_532, s270_533, s270_534, s270_535, oB_some, cl2_i, cl2_r, cl2_l, cl2_u, cl2_s, wd_0, wd_i, wd_r, wd_l, wd_f, ct_i, ct_r, ct_n, ct_f, rf_s, rf_n, tl_s, tl_n, true_and, and_true, eq_self, and_self, Nat.reduceAdd, Nat.reduceLeDiff, Nat.zero_le, Nat.reduceEqDiff, or_true, true_or, false_or, or_false, if_true, if_false, gI_0, gI_1, gI_2, gI_3, gI_4, gI_5, gI_6, gI_7, gI_8, gI_9, gI_10, gI_11, gI_12, gI_13, gI_14, gI_15, gL_0, gL_1, gL_2, gL_3, gL_4, gL_5, gL_6, gL_7, gL_8, gL_9, gL_10, gL_11, gL_12, gL_13, gL_14, gL_15, gA_0, gA_1, gA_2, gA_3, gA_4, gA_5, gA_6, gA_7, gA_8, gA_9, gA_10, gA_11, gA_12, gA_13, gA_14, gA_15, p1_0, p1_1, p1_2, p1_3, p1_4, p1_5, p1_6, p1_7, p1_8, p1_9, p1_10, p1_11, p1_12, p1_13, p1_14, p1_15, p2_0, p2_1, p2_2, p2_3, p2_4, p2_5, p2_6, p2_7, p2_8, p2_9, p2_10, p2_11, p2_12, p2_13, p2_14, p2_15, kx, hc, hs, bk1.2.1, bk1.2.2.1, bk1.2.2.2, s1, s2, s3, s4, s5, ix_nI u1, ix_nI u2, ix_nI u3, ix_nI u4, ix_nI u5, nI_pos' u1, nI_pos' u2, nI_pos' u3, nI_pos' u4, nI_pos' u5, v1, v2, v3, v4, v5]
  refine x_recalls C gS gH (fun y e y0 => ?_) fun e h1 f1 e1 C1 => ?_
  · skip
    obtain ⟨h1, eh⟩ : ∃ z, z = RfC h x y := ⟨_, rfl⟩
    have fa1 : FA x h h1 := by rw [eh]; exact RfC.fa
    rw [← eh]
    have bk1 := bk1.fa fa1
    have M1 := M.fa gH fa1
    have km : hkd h1 (x + 34) = 16 := M1.1.1.1.1.1
    simp only [s270_538, s270_539, s270_540, s270_541, s270_542, s270_543, s270_544, oB_some, cl2_i, cl2_r, cl2_l, cl2_u, cl2_s, wd_0, wd_i, wd_r, wd_l, wd_f, ct_i, ct_r, ct_n, ct_f, rf_s, rf_n, tl_s, tl_n, true_and, and_true, eq_self, and_self, Nat.reduceAdd, Nat.reduceLeDiff, Nat.zero_le, Nat.reduceEqDiff, or_true, true_or, false_or, or_false, if_true, if_false, gI_0, gI_1, gI_2, gI_3, gI_4, gI_5, gI_6, gI_7, gI_8, gI_9, gI_10, gI_11, gI_12, gI_13, gI_14, gI_15, gL_0, gL_1, gL_2, gL_3, gL_4, gL_5, gL_6, gL_7, gL_8, gL_9, gL_10, gL_11, gL_12, gL_13, gL_14, gL_15, gA_0, gA_1, gA_2, gA_3, gA_4, gA_5, gA_6, gA_7, gA_8, gA_9, gA_10, gA_11, gA_12, gA_13, gA_14, gA_15, p1_0, p1_1, p1_2, p1_3, p1_4, p1_5, p1_6, p1_7, p1_8, p1_9, p1_10, p1_11, p1_12, p1_13, p1_14, p1_15, p2_0, p2_1, p2_2, p2_3, p2_4, p2_5, p2_6, p2_7, p2_8, p2_9, p2_10, p2_11, p2_12, p2_13, p2_14, p2_15, km, bk1.2.1, bk1.2.2.1, bk1.2.2.2, s1, s2, s3, s4, s5, ix_nI u1, ix_nI u2, ix_nI u3, ix_nI u4, ix_nI u5, nI_pos' u1, nI_pos' u2, nI_pos' u3, nI_pos' u4, nI_pos' u5, v1, v2, v3, v4, v5]
    refine o_recalls M1 gS gH (fun y2 e2 n2 => ?_) fun e2 => absurd (e.symm.trans e2) y0
    obtain rfl := e.symm.trans e2
    simp only [s270_547, s270_550, oB_some, cl2_i, cl2_r, cl2_l, cl2_u, cl2_s, wd_0, wd_i, wd_r, wd_l, wd_f, ct_i, ct_r, ct_n, ct_f, rf_s, rf_n, tl_s, tl_n, true_and, and_true, eq_self, and_self, Nat.reduceAdd, Nat.reduceLeDiff, Nat.zero_le, Nat.reduceEqDiff, or_true, true_or, false_or, or_false, if_true, if_false, gI_0, gI_1, gI_2, gI_3, gI_4, gI_5, gI_6, gI_7, gI_8, gI_9, gI_10, gI_11, gI_12, gI_13, gI_14, gI_15, gL_0, gL_1, gL_2, gL_3, gL_4, gL_5, gL_6, gL_7, gL_8, gL_9, gL_10, gL_11, gL_12, gL_13, gL_14, gL_15, gA_0, gA_1, gA_2, gA_3, gA_4, gA_5, gA_6, gA_7, gA_8, gA_9, gA_10, gA_11, gA_12, gA_13, gA_14, gA_15, p1_0, p1_1, p1_2, p1_3, p1_4, p1_5, p1_6, p1_7, p1_8, p1_9, p1_10, p1_11, p1_12, p1_13, p1_14, p1_15, p2_0, p2_1, p2_2, p2_3, p2_4, p2_5, p2_6, p2_7, p2_8, p2_9, p2_10, p2_11, p2_12, p2_13, p2_14, p2_15, b01_ok, b_ft, b_tf, b01_e0, b01_e1, lgc_0, not_true_eq_false, not_false_eq_true]
    rw [eh]
    exact nx _ _ _ _ _ _ _ _ _ (by omega) (by omega) (a.refuse y)
  · skip
    have fa1 := f1
    have bk1 := bk1.fa fa1
    have M1 := M.fa gH fa1
    have km : hkd h1 (x + 34) = 16 := M1.1.1.1.1.1
    simp only [s270_538, s270_539, s270_540, s270_541, s270_542, s270_543, s270_544, oB_some, cl2_i, cl2_r, cl2_l, cl2_u, cl2_s, wd_0, wd_i, wd_r, wd_l, wd_f, ct_i, ct_r, ct_n, ct_f, rf_s, rf_n, tl_s, tl_n, true_and, and_true, eq_self, and_self, Nat.reduceAdd, Nat.reduceLeDiff, Nat.zero_le, Nat.reduceEqDiff, or_true, true_or, false_or, or_false, if_true, if_false, gI_0, gI_1, gI_2, gI_3, gI_4, gI_5, gI_6, gI_7, gI_8, gI_9, gI_10, gI_11, gI_12, gI_13, gI_14, gI_15, gL_0, gL_1, gL_2, gL_3, gL_4, gL_5, gL_6, gL_7, gL_8, gL_9, gL_10, gL_11, gL_12, gL_13, gL_14, gL_15, gA_0, gA_1, gA_2, gA_3, gA_4, gA_5, gA_6, gA_7, gA_8, gA_9, gA_10, gA_11, gA_12, gA_13, gA_14, gA_15, p1_0, p1_1, p1_2, p1_3, p1_4, p1_5, p1_6, p1_7, p1_8, p1_9, p1_10, p1_11, p1_12, p1_13, p1_14, p1_15, p2_0, p2_1, p2_2, p2_3, p2_4, p2_5, p2_6, p2_7, p2_8, p2_9, p2_10, p2_11, p2_12, p2_13, p2_14, p2_15, km, bk1.2.1, bk1.2.2.1, bk1.2.2.2, s1, s2, s3, s4, s5, ix_nI u1, ix_nI u2, ix_nI u3, ix_nI u4, ix_nI u5, nI_pos' u1, nI_pos' u2, nI_pos' u3, nI_pos' u4, nI_pos' u5, v1, v2, v3, v4, v5]
    refine o_recalls M1 gS gH (fun y2 e2 n2 => absurd (e2.symm.trans e) n2) fun _ h2 f2 e2 M2 => ?_
    simp only [s270_547, s270_550, oB_some, cl2_i, cl2_r, cl2_l, cl2_u, cl2_s, wd_0, wd_i, wd_r, wd_l, wd_f, ct_i, ct_r, ct_n, ct_f, rf_s, rf_n, tl_s, tl_n, true_and, and_true, eq_self, and_self, Nat.reduceAdd, Nat.reduceLeDiff, Nat.zero_le, Nat.reduceEqDiff, or_true, true_or, false_or, or_false, if_true, if_false, gI_0, gI_1, gI_2, gI_3, gI_4, gI_5, gI_6, gI_7, gI_8, gI_9, gI_10, gI_11, gI_12, gI_13, gI_14, gI_15, gL_0, gL_1, gL_2, gL_3, gL_4, gL_5, gL_6, gL_7, gL_8, gL_9, gL_10, gL_11, gL_12, gL_13, gL_14, gL_15, gA_0, gA_1, gA_2, gA_3, gA_4, gA_5, gA_6, gA_7, gA_8, gA_9, gA_10, gA_11, gA_12, gA_13, gA_14, gA_15, p1_0, p1_1, p1_2, p1_3, p1_4, p1_5, p1_6, p1_7, p1_8, p1_9, p1_10, p1_11, p1_12, p1_13, p1_14, p1_15, p2_0, p2_1, p2_2, p2_3, p2_4, p2_5, p2_6, p2_7, p2_8, p2_9, p2_10, p2_11, p2_12, p2_13, p2_14, p2_15, b01_ok, b_ft, b_tf, b01_e0, b01_e1, lgc_0, not_true_eq_false, not_false_eq_true]
    exact nx _ _ _ _ _ _ _ _ _ (by omega) (by omega) (a.step f1 e1 C1 f2 e2 M2 (gv_recalls gS) (GH_push gH gS))
set_option maxHeartbeats 4000000 in
theorem lc_days {b L x tl len i c s : Nat} {xs : Nat → Int32} {h : HP} {tp r : Nat → Nat} {S : VS} {H : HS} {Q : PQ} (a : LI b L xs h x S H tp tl r len) (hi : i + 6 ≤ L) (hL : L ≤ 3072) (hc : 12 ≤ c) (hs : 172 ≤ s)
    (nx : ∀ h' S' H' tp' tl' r' len' c' s', c ≤ c' + 12 → s ≤ s' + 172 → LI b L xs h' x S' H' tp' tl' r' len' → WP 11 270 Q (1434, [.val (.ref b), .val (.ref x), .val (.ref (x + 34)), .val (.int (nI i))], [], h', c', s')) : WP 11 270 Q (552, [.val (.ref b), .val (.ref x), .val (.ref (x + 34)), .val (.int (nI i))], [], h, c, s) := by
  have a0 := a
  obtain ⟨C, M, ⟨gS, gH⟩, rf, bk⟩ := a0
  have bk1 : SKb b L xs x h := bk
  have s1 : nI i + 1 = nI (i + 1) := nI_add i 1
  have s2 : nI i + 2 = nI (i + 2) := nI_add i 2
  have s3 : nI i + 3 = nI (i + 3) := nI_add i 3
  have s4 : nI i + 4 = nI (i + 4) := nI_add i 4
  have s5 : nI i + 5 = nI (i + 5) := nI_add i 5
  have u1 : i + 1 < 2 ^ 31 := by omega
  have u2 : i + 2 < 2 ^ 31 := by omega
  have u3 : i + 3 < 2 ^ 31 := by omega
  have u4 : i + 4 < 2 ^ 31 := by omega
  have u5 : i + 5 < 2 ^ 31 := by omega
  have v1 : i + 1 < L := by omega
  have v2 : i + 2 < L := by omega
  have v3 : i + 3 < L := by omega
  have v4 : i + 4 < L := by omega
  have v5 : i + 5 < L := by omega
  have kx : hkd h x = 15 := C.1.1.1.1
  simp only [s270_552, s270_553, s270_554, s270_555, s270_556, s270_557, s270_558, oB_some, cl2_i, cl2_r, cl2_l, cl2_u, cl2_s, wd_0, wd_i, wd_r, wd_l, wd_f, ct_i, ct_r, ct_n, ct_f, rf_s, rf_n, tl_s, tl_n, true_and, and_true, eq_self, and_self, Nat.reduceAdd, Nat.reduceLeDiff, Nat.zero_le, Nat.reduceEqDiff, or_true, true_or, false_or, or_false, if_true, if_false, gI_0, gI_1, gI_2, gI_3, gI_4, gI_5, gI_6, gI_7, gI_8, gI_9, gI_10, gI_11, gI_12, gI_13, gI_14, gI_15, gL_0, gL_1, gL_2, gL_3, gL_4, gL_5, gL_6, gL_7, gL_8, gL_9, gL_10, gL_11, gL_12, gL_13, gL_14, gL_15, gA_0, gA_1, gA_2, gA_3, gA_4, gA_5, gA_6, gA_7, gA_8, gA_9, gA_10, gA_11, gA_12, gA_13, gA_14, gA_15, p1_0, p1_1, p1_2, p1_3, p1_4, p1_5, p1_6, p1_7, p1_8, p1_9, p1_10, p1_11, p1_12, p1_13, p1_14, p1_15, p2_0, p2_1, p2_2, p2_3, p2_4, p2_5, p2_6, p2_7, p2_8, p2_9, p2_10, p2_11, p2_12, p2_13, p2_14, p2_15, kx, hc, hs, bk1.2.1, bk1.2.2.1, bk1.2.2.2, s1, s2, s3, s4, s5, ix_nI u1, ix_nI u2, ix_nI u3, ix_nI u4, ix_nI u5, nI_pos' u1, nI_pos' u2, nI_pos' u3, nI_pos' u4, nI_pos' u5, v1, v2, v3, v4, v5]
  refine x_days C gS gH (fun y e y0 => ?_) fun e h1 f1 e1 C1 => ?_
  · skip
    obtain ⟨h1, eh⟩ : ∃ z, z = RfC h x y := ⟨_, rfl⟩
    have fa1 : FA x h h1 := by rw [eh]; exact RfC.fa
    rw [← eh]
    have bk1 := bk1.fa fa1
    have M1 := M.fa gH fa1
    have km : hkd h1 (x + 34) = 16 := M1.1.1.1.1.1
    simp only [s270_561, s270_562, s270_563, s270_564, s270_565, s270_566, s270_567, oB_some, cl2_i, cl2_r, cl2_l, cl2_u, cl2_s, wd_0, wd_i, wd_r, wd_l, wd_f, ct_i, ct_r, ct_n, ct_f, rf_s, rf_n, tl_s, tl_n, true_and, and_true, eq_self, and_self, Nat.reduceAdd, Nat.reduceLeDiff, Nat.zero_le, Nat.reduceEqDiff, or_true, true_or, false_or, or_false, if_true, if_false, gI_0, gI_1, gI_2, gI_3, gI_4, gI_5, gI_6, gI_7, gI_8, gI_9, gI_10, gI_11, gI_12, gI_13, gI_14, gI_15, gL_0, gL_1, gL_2, gL_3, gL_4, gL_5, gL_6, gL_7, gL_8, gL_9, gL_10, gL_11, gL_12, gL_13, gL_14, gL_15, gA_0, gA_1, gA_2, gA_3, gA_4, gA_5, gA_6, gA_7, gA_8, gA_9, gA_10, gA_11, gA_12, gA_13, gA_14, gA_15, p1_0, p1_1, p1_2, p1_3, p1_4, p1_5, p1_6, p1_7, p1_8, p1_9, p1_10, p1_11, p1_12, p1_13, p1_14, p1_15, p2_0, p2_1, p2_2, p2_3, p2_4, p2_5, p2_6, p2_7, p2_8, p2_9, p2_10, p2_11, p2_12, p2_13, p2_14, p2_15, km, bk1.2.1, bk1.2.2.1, bk1.2.2.2, s1, s2, s3, s4, s5, ix_nI u1, ix_nI u2, ix_nI u3, ix_nI u4, ix_nI u5, nI_pos' u1, nI_pos' u2, nI_pos' u3, nI_pos' u4, nI_pos' u5, v1, v2, v3, v4, v5]
    refine o_days M1 gS gH (fun y2 e2 n2 => ?_) fun e2 => absurd (e.symm.trans e2) y0
    obtain rfl := e.symm.trans e2
    simp only [s270_570, s270_573, oB_some, cl2_i, cl2_r, cl2_l, cl2_u, cl2_s, wd_0, wd_i, wd_r, wd_l, wd_f, ct_i, ct_r, ct_n, ct_f, rf_s, rf_n, tl_s, tl_n, true_and, and_true, eq_self, and_self, Nat.reduceAdd, Nat.reduceLeDiff, Nat.zero_le, Nat.reduceEqDiff, or_true, true_or, false_or, or_false, if_true, if_false, gI_0, gI_1, gI_2, gI_3, gI_4, gI_5, gI_6, gI_7, gI_8, gI_9, gI_10, gI_11, gI_12, gI_13, gI_14, gI_15, gL_0, gL_1, gL_2, gL_3, gL_4, gL_5, gL_6, gL_7, gL_8, gL_9, gL_10, gL_11, gL_12, gL_13, gL_14, gL_15, gA_0, gA_1, gA_2, gA_3, gA_4, gA_5, gA_6, gA_7, gA_8, gA_9, gA_10, gA_11, gA_12, gA_13, gA_14, gA_15, p1_0, p1_1, p1_2, p1_3, p1_4, p1_5, p1_6, p1_7, p1_8, p1_9, p1_10, p1_11, p1_12, p1_13, p1_14, p1_15, p2_0, p2_1, p2_2, p2_3, p2_4, p2_5, p2_6, p2_7, p2_8, p2_9, p2_10, p2_11, p2_12, p2_13, p2_14, p2_15, b01_ok, b_ft, b_tf, b01_e0, b01_e1, lgc_0, not_true_eq_false, not_false_eq_true]
    rw [eh]
    exact nx _ _ _ _ _ _ _ _ _ (by omega) (by omega) (a.refuse y)
  · skip
    have fa1 := f1
    have bk1 := bk1.fa fa1
    have M1 := M.fa gH fa1
    have km : hkd h1 (x + 34) = 16 := M1.1.1.1.1.1
    simp only [s270_561, s270_562, s270_563, s270_564, s270_565, s270_566, s270_567, oB_some, cl2_i, cl2_r, cl2_l, cl2_u, cl2_s, wd_0, wd_i, wd_r, wd_l, wd_f, ct_i, ct_r, ct_n, ct_f, rf_s, rf_n, tl_s, tl_n, true_and, and_true, eq_self, and_self, Nat.reduceAdd, Nat.reduceLeDiff, Nat.zero_le, Nat.reduceEqDiff, or_true, true_or, false_or, or_false, if_true, if_false, gI_0, gI_1, gI_2, gI_3, gI_4, gI_5, gI_6, gI_7, gI_8, gI_9, gI_10, gI_11, gI_12, gI_13, gI_14, gI_15, gL_0, gL_1, gL_2, gL_3, gL_4, gL_5, gL_6, gL_7, gL_8, gL_9, gL_10, gL_11, gL_12, gL_13, gL_14, gL_15, gA_0, gA_1, gA_2, gA_3, gA_4, gA_5, gA_6, gA_7, gA_8, gA_9, gA_10, gA_11, gA_12, gA_13, gA_14, gA_15, p1_0, p1_1, p1_2, p1_3, p1_4, p1_5, p1_6, p1_7, p1_8, p1_9, p1_10, p1_11, p1_12, p1_13, p1_14, p1_15, p2_0, p2_1, p2_2, p2_3, p2_4, p2_5, p2_6, p2_7, p2_8, p2_9, p2_10, p2_11, p2_12, p2_13, p2_14, p2_15, km, bk1.2.1, bk1.2.2.1, bk1.2.2.2, s1, s2, s3, s4, s5, ix_nI u1, ix_nI u2, ix_nI u3, ix_nI u4, ix_nI u5, nI_pos' u1, nI_pos' u2, nI_pos' u3, nI_pos' u4, nI_pos' u5, v1, v2, v3, v4, v5]
    refine o_days M1 gS gH (fun y2 e2 n2 => absurd (e2.symm.trans e) n2) fun _ h2 f2 e2 M2 => ?_
    simp only [s270_570, s270_573, oB_some, cl2_i, cl2_r, cl2_l, cl2_u, cl2_s, wd_0, wd_i, wd_r, wd_l, wd_f, ct_i, ct_r, ct_n, ct_f, rf_s, rf_n, tl_s, tl_n, true_and, and_true, eq_self, and_self, Nat.reduceAdd, Nat.reduceLeDiff, Nat.zero_le, Nat.reduceEqDiff, or_true, true_or, false_or, or_false, if_true, if_false, gI_0, gI_1, gI_2, gI_3, gI_4, gI_5, gI_6, gI_7, gI_8, gI_9, gI_10, gI_11, gI_12, gI_13, gI_14, gI_15, gL_0, gL_1, gL_2, gL_3, gL_4, gL_5, gL_6, gL_7, gL_8, gL_9, gL_10, gL_11, gL_12, gL_13, gL_14, gL_15, gA_0, gA_1, gA_2, gA_3, gA_4, gA_5, gA_6, gA_7, gA_8, gA_9, gA_10, gA_11, gA_12, gA_13, gA_14, gA_15, p1_0, p1_1, p1_2, p1_3, p1_4, p1_5, p1_6, p1_7, p1_8, p1_9, p1_10, p1_11, p1_12, p1_13, p1_14, p1_15, p2_0, p2_1, p2_2, p2_3, p2_4, p2_5, p2_6, p2_7, p2_8, p2_9, p2_10, p2_11, p2_12, p2_13, p2_14, p2_15, b01_ok, b_ft, b_tf, b01_e0, b01_e1, lgc_0, not_true_eq_false, not_false_eq_true]
    exact nx _ _ _ _ _ _ _ _ _ (by omega) (by omega) (a.step f1 e1 C1 f2 e2 M2 (gv_days gS e) (GH_push gH gS))
set_option maxHeartbeats 4000000 in
theorem lc_back {b L x tl len i c s : Nat} {xs : Nat → Int32} {h : HP} {tp r : Nat → Nat} {S : VS} {H : HS} {Q : PQ} (a : LI b L xs h x S H tp tl r len) (hi : i + 6 ≤ L) (hL : L ≤ 3072) (hc : 12 ≤ c) (hs : 172 ≤ s)
    (nx : ∀ h' S' H' tp' tl' r' len' c' s', c ≤ c' + 12 → s ≤ s' + 172 → LI b L xs h' x S' H' tp' tl' r' len' → WP 11 270 Q (1434, [.val (.ref b), .val (.ref x), .val (.ref (x + 34)), .val (.int (nI i))], [], h', c', s')) : WP 11 270 Q (575, [.val (.ref b), .val (.ref x), .val (.ref (x + 34)), .val (.int (nI i))], [], h, c, s) := by
  have a0 := a
  obtain ⟨C, M, ⟨gS, gH⟩, rf, bk⟩ := a0
  have bk1 : SKb b L xs x h := bk
  have s1 : nI i + 1 = nI (i + 1) := nI_add i 1
  have s2 : nI i + 2 = nI (i + 2) := nI_add i 2
  have s3 : nI i + 3 = nI (i + 3) := nI_add i 3
  have s4 : nI i + 4 = nI (i + 4) := nI_add i 4
  have s5 : nI i + 5 = nI (i + 5) := nI_add i 5
  have u1 : i + 1 < 2 ^ 31 := by omega
  have u2 : i + 2 < 2 ^ 31 := by omega
  have u3 : i + 3 < 2 ^ 31 := by omega
  have u4 : i + 4 < 2 ^ 31 := by omega
  have u5 : i + 5 < 2 ^ 31 := by omega
  have v1 : i + 1 < L := by omega
  have v2 : i + 2 < L := by omega
  have v3 : i + 3 < L := by omega
  have v4 : i + 4 < L := by omega
  have v5 : i + 5 < L := by omega
  have kx : hkd h x = 15 := C.1.1.1.1
  simp only [s270_575, s270_576, oB_some, cl2_i, cl2_r, cl2_l, cl2_u, cl2_s, wd_0, wd_i, wd_r, wd_l, wd_f, ct_i, ct_r, ct_n, ct_f, rf_s, rf_n, tl_s, tl_n, true_and, and_true, eq_self, and_self, Nat.reduceAdd, Nat.reduceLeDiff, Nat.zero_le, Nat.reduceEqDiff, or_true, true_or, false_or, or_false, if_true, if_false, gI_0, gI_1, gI_2, gI_3, gI_4, gI_5, gI_6, gI_7, gI_8, gI_9, gI_10, gI_11, gI_12, gI_13, gI_14, gI_15, gL_0, gL_1, gL_2, gL_3, gL_4, gL_5, gL_6, gL_7, gL_8, gL_9, gL_10, gL_11, gL_12, gL_13, gL_14, gL_15, gA_0, gA_1, gA_2, gA_3, gA_4, gA_5, gA_6, gA_7, gA_8, gA_9, gA_10, gA_11, gA_12, gA_13, gA_14, gA_15, p1_0, p1_1, p1_2, p1_3, p1_4, p1_5, p1_6, p1_7, p1_8, p1_9, p1_10, p1_11, p1_12, p1_13, p1_14, p1_15, p2_0, p2_1, p2_2, p2_3, p2_4, p2_5, p2_6, p2_7, p2_8, p2_9, p2_10, p2_11, p2_12, p2_13, p2_14, p2_15, kx, hc, hs, bk1.2.1, bk1.2.2.1, bk1.2.2.2, s1, s2, s3, s4, s5, ix_nI u1, ix_nI u2, ix_nI u3, ix_nI u4, ix_nI u5, nI_pos' u1, nI_pos' u2, nI_pos' u3, nI_pos' u4, nI_pos' u5, v1, v2, v3, v4, v5]
  refine x_back C gS gH (fun e => ?_) fun e h1 f1 e1 C1 => ?_
  · skip
    obtain ⟨h1, eh⟩ : ∃ z, z = RfC h x (-3) := ⟨_, rfl⟩
    have fa1 : FA x h h1 := by rw [eh]; exact RfC.fa
    rw [← eh]
    have bk1 := bk1.fa fa1
    have M1 := M.fa gH fa1
    have km : hkd h1 (x + 34) = 16 := M1.1.1.1.1.1
    simp only [s270_579, s270_580, oB_some, cl2_i, cl2_r, cl2_l, cl2_u, cl2_s, wd_0, wd_i, wd_r, wd_l, wd_f, ct_i, ct_r, ct_n, ct_f, rf_s, rf_n, tl_s, tl_n, true_and, and_true, eq_self, and_self, Nat.reduceAdd, Nat.reduceLeDiff, Nat.zero_le, Nat.reduceEqDiff, or_true, true_or, false_or, or_false, if_true, if_false, gI_0, gI_1, gI_2, gI_3, gI_4, gI_5, gI_6, gI_7, gI_8, gI_9, gI_10, gI_11, gI_12, gI_13, gI_14, gI_15, gL_0, gL_1, gL_2, gL_3, gL_4, gL_5, gL_6, gL_7, gL_8, gL_9, gL_10, gL_11, gL_12, gL_13, gL_14, gL_15, gA_0, gA_1, gA_2, gA_3, gA_4, gA_5, gA_6, gA_7, gA_8, gA_9, gA_10, gA_11, gA_12, gA_13, gA_14, gA_15, p1_0, p1_1, p1_2, p1_3, p1_4, p1_5, p1_6, p1_7, p1_8, p1_9, p1_10, p1_11, p1_12, p1_13, p1_14, p1_15, p2_0, p2_1, p2_2, p2_3, p2_4, p2_5, p2_6, p2_7, p2_8, p2_9, p2_10, p2_11, p2_12, p2_13, p2_14, p2_15, km, bk1.2.1, bk1.2.2.1, bk1.2.2.2, s1, s2, s3, s4, s5, ix_nI u1, ix_nI u2, ix_nI u3, ix_nI u4, ix_nI u5, nI_pos' u1, nI_pos' u2, nI_pos' u3, nI_pos' u4, nI_pos' u5, v1, v2, v3, v4, v5]
    refine o_back M1 gS gH (fun _ => ?_) fun z => absurd e z
    simp only [s270_583, s270_586, oB_some, cl2_i, cl2_r, cl2_l, cl2_u, cl2_s, wd_0, wd_i, wd_r, wd_l, wd_f, ct_i, ct_r, ct_n, ct_f, rf_s, rf_n, tl_s, tl_n, true_and, and_true, eq_self, and_self, Nat.reduceAdd, Nat.reduceLeDiff, Nat.zero_le, Nat.reduceEqDiff, or_true, true_or, false_or, or_false, if_true, if_false, gI_0, gI_1, gI_2, gI_3, gI_4, gI_5, gI_6, gI_7, gI_8, gI_9, gI_10, gI_11, gI_12, gI_13, gI_14, gI_15, gL_0, gL_1, gL_2, gL_3, gL_4, gL_5, gL_6, gL_7, gL_8, gL_9, gL_10, gL_11, gL_12, gL_13, gL_14, gL_15, gA_0, gA_1, gA_2, gA_3, gA_4, gA_5, gA_6, gA_7, gA_8, gA_9, gA_10, gA_11, gA_12, gA_13, gA_14, gA_15, p1_0, p1_1, p1_2, p1_3, p1_4, p1_5, p1_6, p1_7, p1_8, p1_9, p1_10, p1_11, p1_12, p1_13, p1_14, p1_15, p2_0, p2_1, p2_2, p2_3, p2_4, p2_5, p2_6, p2_7, p2_8, p2_9, p2_10, p2_11, p2_12, p2_13, p2_14, p2_15, b01_ok, b_ft, b_tf, b01_e0, b01_e1, lgc_0, not_true_eq_false, not_false_eq_true]
    rw [eh]
    exact nx _ _ _ _ _ _ _ _ _ (by omega) (by omega) (a.refuse (-3))
  · skip
    have fa1 := f1
    have bk1 := bk1.fa fa1
    have M1 := M.fa gH fa1
    have km : hkd h1 (x + 34) = 16 := M1.1.1.1.1.1
    simp only [s270_579, s270_580, oB_some, cl2_i, cl2_r, cl2_l, cl2_u, cl2_s, wd_0, wd_i, wd_r, wd_l, wd_f, ct_i, ct_r, ct_n, ct_f, rf_s, rf_n, tl_s, tl_n, true_and, and_true, eq_self, and_self, Nat.reduceAdd, Nat.reduceLeDiff, Nat.zero_le, Nat.reduceEqDiff, or_true, true_or, false_or, or_false, if_true, if_false, gI_0, gI_1, gI_2, gI_3, gI_4, gI_5, gI_6, gI_7, gI_8, gI_9, gI_10, gI_11, gI_12, gI_13, gI_14, gI_15, gL_0, gL_1, gL_2, gL_3, gL_4, gL_5, gL_6, gL_7, gL_8, gL_9, gL_10, gL_11, gL_12, gL_13, gL_14, gL_15, gA_0, gA_1, gA_2, gA_3, gA_4, gA_5, gA_6, gA_7, gA_8, gA_9, gA_10, gA_11, gA_12, gA_13, gA_14, gA_15, p1_0, p1_1, p1_2, p1_3, p1_4, p1_5, p1_6, p1_7, p1_8, p1_9, p1_10, p1_11, p1_12, p1_13, p1_14, p1_15, p2_0, p2_1, p2_2, p2_3, p2_4, p2_5, p2_6, p2_7, p2_8, p2_9, p2_10, p2_11, p2_12, p2_13, p2_14, p2_15, km, bk1.2.1, bk1.2.2.1, bk1.2.2.2, s1, s2, s3, s4, s5, ix_nI u1, ix_nI u2, ix_nI u3, ix_nI u4, ix_nI u5, nI_pos' u1, nI_pos' u2, nI_pos' u3, nI_pos' u4, nI_pos' u5, v1, v2, v3, v4, v5]
    refine o_back M1 gS gH (fun z => absurd z e) fun _ h2 f2 e2 M2 => ?_
    simp only [s270_583, s270_586, oB_some, cl2_i, cl2_r, cl2_l, cl2_u, cl2_s, wd_0, wd_i, wd_r, wd_l, wd_f, ct_i, ct_r, ct_n, ct_f, rf_s, rf_n, tl_s, tl_n, true_and, and_true, eq_self, and_self, Nat.reduceAdd, Nat.reduceLeDiff, Nat.zero_le, Nat.reduceEqDiff, or_true, true_or, false_or, or_false, if_true, if_false, gI_0, gI_1, gI_2, gI_3, gI_4, gI_5, gI_6, gI_7, gI_8, gI_9, gI_10, gI_11, gI_12, gI_13, gI_14, gI_15, gL_0, gL_1, gL_2, gL_3, gL_4, gL_5, gL_6, gL_7, gL_8, gL_9, gL_10, gL_11, gL_12, gL_13, gL_14, gL_15, gA_0, gA_1, gA_2, gA_3, gA_4, gA_5, gA_6, gA_7, gA_8, gA_9, gA_10, gA_11, gA_12, gA_13, gA_14, gA_15, p1_0, p1_1, p1_2, p1_3, p1_4, p1_5, p1_6, p1_7, p1_8, p1_9, p1_10, p1_11, p1_12, p1_13, p1_14, p1_15, p2_0, p2_1, p2_2, p2_3, p2_4, p2_5, p2_6, p2_7, p2_8, p2_9, p2_10, p2_11, p2_12, p2_13, p2_14, p2_15, b01_ok, b_ft, b_tf, b01_e0, b01_e1, lgc_0, not_true_eq_false, not_false_eq_true]
    exact nx _ _ _ _ _ _ _ _ _ (by omega) (by omega) (a.step f1 e1 C1 f2 e2 M2 (gv_top gH e) (gh_pop gH))
set_option maxHeartbeats 4000000 in
theorem lc_row {b L x tl len i c s : Nat} {xs : Nat → Int32} {h : HP} {tp r : Nat → Nat} {S : VS} {H : HS} {Q : PQ} (a : LI b L xs h x S H tp tl r len) (hi : i + 6 ≤ L) (hL : L ≤ 3072) (hc : 12 ≤ c) (hs : 172 ≤ s)
    (nx : ∀ h' S' H' tp' tl' r' len' c' s', c ≤ c' + 12 → s ≤ s' + 172 → LI b L xs h' x S' H' tp' tl' r' len' → WP 11 270 Q (1434, [.val (.ref b), .val (.ref x), .val (.ref (x + 34)), .val (.int (nI i))], [], h', c', s')) : WP 11 270 Q (1293, [.val (.ref b), .val (.ref x), .val (.ref (x + 34)), .val (.int (nI i))], [], h, c, s) := by
  have a0 := a
  obtain ⟨C, M, ⟨gS, gH⟩, rf, bk⟩ := a0
  have bk1 : SKb b L xs x h := bk
  have s1 : nI i + 1 = nI (i + 1) := nI_add i 1
  have s2 : nI i + 2 = nI (i + 2) := nI_add i 2
  have s3 : nI i + 3 = nI (i + 3) := nI_add i 3
  have s4 : nI i + 4 = nI (i + 4) := nI_add i 4
  have s5 : nI i + 5 = nI (i + 5) := nI_add i 5
  have u1 : i + 1 < 2 ^ 31 := by omega
  have u2 : i + 2 < 2 ^ 31 := by omega
  have u3 : i + 3 < 2 ^ 31 := by omega
  have u4 : i + 4 < 2 ^ 31 := by omega
  have u5 : i + 5 < 2 ^ 31 := by omega
  have v1 : i + 1 < L := by omega
  have v2 : i + 2 < L := by omega
  have v3 : i + 3 < L := by omega
  have v4 : i + 4 < L := by omega
  have v5 : i + 5 < L := by omega
  have kx : hkd h x = 15 := C.1.1.1.1
  simp only [s270_1293, s270_1294, s270_1295, s270_1296, s270_1297, s270_1298, s270_1299, oB_some, cl2_i, cl2_r, cl2_l, cl2_u, cl2_s, wd_0, wd_i, wd_r, wd_l, wd_f, ct_i, ct_r, ct_n, ct_f, rf_s, rf_n, tl_s, tl_n, true_and, and_true, eq_self, and_self, Nat.reduceAdd, Nat.reduceLeDiff, Nat.zero_le, Nat.reduceEqDiff, or_true, true_or, false_or, or_false, if_true, if_false, gI_0, gI_1, gI_2, gI_3, gI_4, gI_5, gI_6, gI_7, gI_8, gI_9, gI_10, gI_11, gI_12, gI_13, gI_14, gI_15, gL_0, gL_1, gL_2, gL_3, gL_4, gL_5, gL_6, gL_7, gL_8, gL_9, gL_10, gL_11, gL_12, gL_13, gL_14, gL_15, gA_0, gA_1, gA_2, gA_3, gA_4, gA_5, gA_6, gA_7, gA_8, gA_9, gA_10, gA_11, gA_12, gA_13, gA_14, gA_15, p1_0, p1_1, p1_2, p1_3, p1_4, p1_5, p1_6, p1_7, p1_8, p1_9, p1_10, p1_11, p1_12, p1_13, p1_14, p1_15, p2_0, p2_1, p2_2, p2_3, p2_4, p2_5, p2_6, p2_7, p2_8, p2_9, p2_10, p2_11, p2_12, p2_13, p2_14, p2_15, kx, hc, hs, bk1.2.1, bk1.2.2.1, bk1.2.2.2, s1, s2, s3, s4, s5, ix_nI u1, ix_nI u2, ix_nI u3, ix_nI u4, ix_nI u5, nI_pos' u1, nI_pos' u2, nI_pos' u3, nI_pos' u4, nI_pos' u5, v1, v2, v3, v4, v5]
  refine x_row C gS gH (fun y e y0 => ?_) fun e h1 f1 e1 C1 => ?_
  · skip
    obtain ⟨h1, eh⟩ : ∃ z, z = RfC h x y := ⟨_, rfl⟩
    have fa1 : FA x h h1 := by rw [eh]; exact RfC.fa
    rw [← eh]
    have bk1 := bk1.fa fa1
    have M1 := M.fa gH fa1
    have km : hkd h1 (x + 34) = 16 := M1.1.1.1.1.1
    simp only [s270_1302, s270_1303, s270_1304, s270_1305, s270_1306, s270_1307, s270_1308, oB_some, cl2_i, cl2_r, cl2_l, cl2_u, cl2_s, wd_0, wd_i, wd_r, wd_l, wd_f, ct_i, ct_r, ct_n, ct_f, rf_s, rf_n, tl_s, tl_n, true_and, and_true, eq_self, and_self, Nat.reduceAdd, Nat.reduceLeDiff, Nat.zero_le, Nat.reduceEqDiff, or_true, true_or, false_or, or_false, if_true, if_false, gI_0, gI_1, gI_2, gI_3, gI_4, gI_5, gI_6, gI_7, gI_8, gI_9, gI_10, gI_11, gI_12, gI_13, gI_14, gI_15, gL_0, gL_1, gL_2, gL_3, gL_4, gL_5, gL_6, gL_7, gL_8, gL_9, gL_10, gL_11, gL_12, gL_13, gL_14, gL_15, gA_0, gA_1, gA_2, gA_3, gA_4, gA_5, gA_6, gA_7, gA_8, gA_9, gA_10, gA_11, gA_12, gA_13, gA_14, gA_15, p1_0, p1_1, p1_2, p1_3, p1_4, p1_5, p1_6, p1_7, p1_8, p1_9, p1_10, p1_11, p1_12, p1_13, p1_14, p1_15, p2_0, p2_1, p2_2, p2_3, p2_4, p2_5, p2_6, p2_7, p2_8, p2_9, p2_10, p2_11, p2_12, p2_13, p2_14, p2_15, km, bk1.2.1, bk1.2.2.1, bk1.2.2.2, s1, s2, s3, s4, s5, ix_nI u1, ix_nI u2, ix_nI u3, ix_nI u4, ix_nI u5, nI_pos' u1, nI_pos' u2, nI_pos' u3, nI_pos' u4, nI_pos' u5, v1, v2, v3, v4, v5]
    refine o_row M1 gS gH (fun y2 e2 n2 => ?_) fun e2 => absurd (e.symm.trans e2) y0
    obtain rfl := e.symm.trans e2
    simp only [s270_1311, s270_1314, oB_some, cl2_i, cl2_r, cl2_l, cl2_u, cl2_s, wd_0, wd_i, wd_r, wd_l, wd_f, ct_i, ct_r, ct_n, ct_f, rf_s, rf_n, tl_s, tl_n, true_and, and_true, eq_self, and_self, Nat.reduceAdd, Nat.reduceLeDiff, Nat.zero_le, Nat.reduceEqDiff, or_true, true_or, false_or, or_false, if_true, if_false, gI_0, gI_1, gI_2, gI_3, gI_4, gI_5, gI_6, gI_7, gI_8, gI_9, gI_10, gI_11, gI_12, gI_13, gI_14, gI_15, gL_0, gL_1, gL_2, gL_3, gL_4, gL_5, gL_6, gL_7, gL_8, gL_9, gL_10, gL_11, gL_12, gL_13, gL_14, gL_15, gA_0, gA_1, gA_2, gA_3, gA_4, gA_5, gA_6, gA_7, gA_8, gA_9, gA_10, gA_11, gA_12, gA_13, gA_14, gA_15, p1_0, p1_1, p1_2, p1_3, p1_4, p1_5, p1_6, p1_7, p1_8, p1_9, p1_10, p1_11, p1_12, p1_13, p1_14, p1_15, p2_0, p2_1, p2_2, p2_3, p2_4, p2_5, p2_6, p2_7, p2_8, p2_9, p2_10, p2_11, p2_12, p2_13, p2_14, p2_15, b01_ok, b_ft, b_tf, b01_e0, b01_e1, lgc_0, not_true_eq_false, not_false_eq_true]
    rw [eh]
    exact nx _ _ _ _ _ _ _ _ _ (by omega) (by omega) (a.refuse y)
  · skip
    have fa1 := f1
    have bk1 := bk1.fa fa1
    have M1 := M.fa gH fa1
    have km : hkd h1 (x + 34) = 16 := M1.1.1.1.1.1
    simp only [s270_1302, s270_1303, s270_1304, s270_1305, s270_1306, s270_1307, s270_1308, oB_some, cl2_i, cl2_r, cl2_l, cl2_u, cl2_s, wd_0, wd_i, wd_r, wd_l, wd_f, ct_i, ct_r, ct_n, ct_f, rf_s, rf_n, tl_s, tl_n, true_and, and_true, eq_self, and_self, Nat.reduceAdd, Nat.reduceLeDiff, Nat.zero_le, Nat.reduceEqDiff, or_true, true_or, false_or, or_false, if_true, if_false, gI_0, gI_1, gI_2, gI_3, gI_4, gI_5, gI_6, gI_7, gI_8, gI_9, gI_10, gI_11, gI_12, gI_13, gI_14, gI_15, gL_0, gL_1, gL_2, gL_3, gL_4, gL_5, gL_6, gL_7, gL_8, gL_9, gL_10, gL_11, gL_12, gL_13, gL_14, gL_15, gA_0, gA_1, gA_2, gA_3, gA_4, gA_5, gA_6, gA_7, gA_8, gA_9, gA_10, gA_11, gA_12, gA_13, gA_14, gA_15, p1_0, p1_1, p1_2, p1_3, p1_4, p1_5, p1_6, p1_7, p1_8, p1_9, p1_10, p1_11, p1_12, p1_13, p1_14, p1_15, p2_0, p2_1, p2_2, p2_3, p2_4, p2_5, p2_6, p2_7, p2_8, p2_9, p2_10, p2_11, p2_12, p2_13, p2_14, p2_15, km, bk1.2.1, bk1.2.2.1, bk1.2.2.2, s1, s2, s3, s4, s5, ix_nI u1, ix_nI u2, ix_nI u3, ix_nI u4, ix_nI u5, nI_pos' u1, nI_pos' u2, nI_pos' u3, nI_pos' u4, nI_pos' u5, v1, v2, v3, v4, v5]
    refine o_row M1 gS gH (fun y2 e2 n2 => absurd (e2.symm.trans e) n2) fun _ h2 f2 e2 M2 => ?_
    simp only [s270_1311, s270_1314, oB_some, cl2_i, cl2_r, cl2_l, cl2_u, cl2_s, wd_0, wd_i, wd_r, wd_l, wd_f, ct_i, ct_r, ct_n, ct_f, rf_s, rf_n, tl_s, tl_n, true_and, and_true, eq_self, and_self, Nat.reduceAdd, Nat.reduceLeDiff, Nat.zero_le, Nat.reduceEqDiff, or_true, true_or, false_or, or_false, if_true, if_false, gI_0, gI_1, gI_2, gI_3, gI_4, gI_5, gI_6, gI_7, gI_8, gI_9, gI_10, gI_11, gI_12, gI_13, gI_14, gI_15, gL_0, gL_1, gL_2, gL_3, gL_4, gL_5, gL_6, gL_7, gL_8, gL_9, gL_10, gL_11, gL_12, gL_13, gL_14, gL_15, gA_0, gA_1, gA_2, gA_3, gA_4, gA_5, gA_6, gA_7, gA_8, gA_9, gA_10, gA_11, gA_12, gA_13, gA_14, gA_15, p1_0, p1_1, p1_2, p1_3, p1_4, p1_5, p1_6, p1_7, p1_8, p1_9, p1_10, p1_11, p1_12, p1_13, p1_14, p1_15, p2_0, p2_1, p2_2, p2_3, p2_4, p2_5, p2_6, p2_7, p2_8, p2_9, p2_10, p2_11, p2_12, p2_13, p2_14, p2_15, b01_ok, b_ft, b_tf, b01_e0, b01_e1, lgc_0, not_true_eq_false, not_false_eq_true]
    exact nx _ _ _ _ _ _ _ _ _ (by omega) (by omega) (a.step f1 e1 C1 f2 e2 M2 gS gH)
set_option maxHeartbeats 4000000 in
theorem lc_judge {b L x tl len i c s : Nat} {xs : Nat → Int32} {h : HP} {tp r : Nat → Nat} {S : VS} {H : HS} {Q : PQ} (a : LI b L xs h x S H tp tl r len) (hi : i + 6 ≤ L) (hL : L ≤ 3072) (hc : 12 ≤ c) (hs : 172 ≤ s)
    (nx : ∀ h' S' H' tp' tl' r' len' c' s', c ≤ c' + 12 → s ≤ s' + 172 → LI b L xs h' x S' H' tp' tl' r' len' → WP 11 270 Q (1434, [.val (.ref b), .val (.ref x), .val (.ref (x + 34)), .val (.int (nI i))], [], h', c', s')) : WP 11 270 Q (1316, [.val (.ref b), .val (.ref x), .val (.ref (x + 34)), .val (.int (nI i))], [], h, c, s) := by
  have a0 := a
  obtain ⟨C, M, ⟨gS, gH⟩, rf, bk⟩ := a0
  have bk1 : SKb b L xs x h := bk
  have s1 : nI i + 1 = nI (i + 1) := nI_add i 1
  have s2 : nI i + 2 = nI (i + 2) := nI_add i 2
  have s3 : nI i + 3 = nI (i + 3) := nI_add i 3
  have s4 : nI i + 4 = nI (i + 4) := nI_add i 4
  have s5 : nI i + 5 = nI (i + 5) := nI_add i 5
  have u1 : i + 1 < 2 ^ 31 := by omega
  have u2 : i + 2 < 2 ^ 31 := by omega
  have u3 : i + 3 < 2 ^ 31 := by omega
  have u4 : i + 4 < 2 ^ 31 := by omega
  have u5 : i + 5 < 2 ^ 31 := by omega
  have v1 : i + 1 < L := by omega
  have v2 : i + 2 < L := by omega
  have v3 : i + 3 < L := by omega
  have v4 : i + 4 < L := by omega
  have v5 : i + 5 < L := by omega
  have kx : hkd h x = 15 := C.1.1.1.1
  simp only [s270_1316, s270_1317, oB_some, cl2_i, cl2_r, cl2_l, cl2_u, cl2_s, wd_0, wd_i, wd_r, wd_l, wd_f, ct_i, ct_r, ct_n, ct_f, rf_s, rf_n, tl_s, tl_n, true_and, and_true, eq_self, and_self, Nat.reduceAdd, Nat.reduceLeDiff, Nat.zero_le, Nat.reduceEqDiff, or_true, true_or, false_or, or_false, if_true, if_false, gI_0, gI_1, gI_2, gI_3, gI_4, gI_5, gI_6, gI_7, gI_8, gI_9, gI_10, gI_11, gI_12, gI_13, gI_14, gI_15, gL_0, gL_1, gL_2, gL_3, gL_4, gL_5, gL_6, gL_7, gL_8, gL_9, gL_10, gL_11, gL_12, gL_13, gL_14, gL_15, gA_0, gA_1, gA_2, gA_3, gA_4, gA_5, gA_6, gA_7, gA_8, gA_9, gA_10, gA_11, gA_12, gA_13, gA_14, gA_15, p1_0, p1_1, p1_2, p1_3, p1_4, p1_5, p1_6, p1_7, p1_8, p1_9, p1_10, p1_11, p1_12, p1_13, p1_14, p1_15, p2_0, p2_1, p2_2, p2_3, p2_4, p2_5, p2_6, p2_7, p2_8, p2_9, p2_10, p2_11, p2_12, p2_13, p2_14, p2_15, kx, hc, hs, bk1.2.1, bk1.2.2.1, bk1.2.2.2, s1, s2, s3, s4, s5, ix_nI u1, ix_nI u2, ix_nI u3, ix_nI u4, ix_nI u5, nI_pos' u1, nI_pos' u2, nI_pos' u3, nI_pos' u4, nI_pos' u5, v1, v2, v3, v4, v5]
  refine x_judge C gS gH fun h1 f1 e1 C1 => ?_
  have fa1 := f1
  have bk1 := bk1.fa fa1
  have M1 := M.fa gH fa1
  have km : hkd h1 (x + 34) = 16 := M1.1.1.1.1.1
  simp only [s270_1320, s270_1321, oB_some, cl2_i, cl2_r, cl2_l, cl2_u, cl2_s, wd_0, wd_i, wd_r, wd_l, wd_f, ct_i, ct_r, ct_n, ct_f, rf_s, rf_n, tl_s, tl_n, true_and, and_true, eq_self, and_self, Nat.reduceAdd, Nat.reduceLeDiff, Nat.zero_le, Nat.reduceEqDiff, or_true, true_or, false_or, or_false, if_true, if_false, gI_0, gI_1, gI_2, gI_3, gI_4, gI_5, gI_6, gI_7, gI_8, gI_9, gI_10, gI_11, gI_12, gI_13, gI_14, gI_15, gL_0, gL_1, gL_2, gL_3, gL_4, gL_5, gL_6, gL_7, gL_8, gL_9, gL_10, gL_11, gL_12, gL_13, gL_14, gL_15, gA_0, gA_1, gA_2, gA_3, gA_4, gA_5, gA_6, gA_7, gA_8, gA_9, gA_10, gA_11, gA_12, gA_13, gA_14, gA_15, p1_0, p1_1, p1_2, p1_3, p1_4, p1_5, p1_6, p1_7, p1_8, p1_9, p1_10, p1_11, p1_12, p1_13, p1_14, p1_15, p2_0, p2_1, p2_2, p2_3, p2_4, p2_5, p2_6, p2_7, p2_8, p2_9, p2_10, p2_11, p2_12, p2_13, p2_14, p2_15, km, bk1.2.1, bk1.2.2.1, bk1.2.2.2, s1, s2, s3, s4, s5, ix_nI u1, ix_nI u2, ix_nI u3, ix_nI u4, ix_nI u5, nI_pos' u1, nI_pos' u2, nI_pos' u3, nI_pos' u4, nI_pos' u5, v1, v2, v3, v4, v5]
  refine o_judge M1 gS gH fun h2 f2 e2 M2 => ?_
  simp only [s270_1324, s270_1327, oB_some, cl2_i, cl2_r, cl2_l, cl2_u, cl2_s, wd_0, wd_i, wd_r, wd_l, wd_f, ct_i, ct_r, ct_n, ct_f, rf_s, rf_n, tl_s, tl_n, true_and, and_true, eq_self, and_self, Nat.reduceAdd, Nat.reduceLeDiff, Nat.zero_le, Nat.reduceEqDiff, or_true, true_or, false_or, or_false, if_true, if_false, gI_0, gI_1, gI_2, gI_3, gI_4, gI_5, gI_6, gI_7, gI_8, gI_9, gI_10, gI_11, gI_12, gI_13, gI_14, gI_15, gL_0, gL_1, gL_2, gL_3, gL_4, gL_5, gL_6, gL_7, gL_8, gL_9, gL_10, gL_11, gL_12, gL_13, gL_14, gL_15, gA_0, gA_1, gA_2, gA_3, gA_4, gA_5, gA_6, gA_7, gA_8, gA_9, gA_10, gA_11, gA_12, gA_13, gA_14, gA_15, p1_0, p1_1, p1_2, p1_3, p1_4, p1_5, p1_6, p1_7, p1_8, p1_9, p1_10, p1_11, p1_12, p1_13, p1_14, p1_15, p2_0, p2_1, p2_2, p2_3, p2_4, p2_5, p2_6, p2_7, p2_8, p2_9, p2_10, p2_11, p2_12, p2_13, p2_14, p2_15, b01_ok, b_ft, b_tf, b01_e0, b01_e1, lgc_0, not_true_eq_false, not_false_eq_true]
  exact nx _ _ _ _ _ _ _ _ _ (by omega) (by omega) (a.step f1 e1 C1 f2 e2 M2 gS gH)
set_option maxHeartbeats 4000000 in
theorem lc_clear {b L x tl len i c s : Nat} {xs : Nat → Int32} {h : HP} {tp r : Nat → Nat} {S : VS} {H : HS} {Q : PQ} (a : LI b L xs h x S H tp tl r len) (hi : i + 6 ≤ L) (hL : L ≤ 3072) (hc : 12 ≤ c) (hs : 172 ≤ s)
    (nx : ∀ h' S' H' tp' tl' r' len' c' s', c ≤ c' + 12 → s ≤ s' + 172 → LI b L xs h' x S' H' tp' tl' r' len' → WP 11 270 Q (1434, [.val (.ref b), .val (.ref x), .val (.ref (x + 34)), .val (.int (nI i))], [], h', c', s')) : WP 11 270 Q (1329, [.val (.ref b), .val (.ref x), .val (.ref (x + 34)), .val (.int (nI i))], [], h, c, s) := by
  have a0 := a
  obtain ⟨C, M, ⟨gS, gH⟩, rf, bk⟩ := a0
  have bk1 : SKb b L xs x h := bk
  have s1 : nI i + 1 = nI (i + 1) := nI_add i 1
  have s2 : nI i + 2 = nI (i + 2) := nI_add i 2
  have s3 : nI i + 3 = nI (i + 3) := nI_add i 3
  have s4 : nI i + 4 = nI (i + 4) := nI_add i 4
  have s5 : nI i + 5 = nI (i + 5) := nI_add i 5
  have u1 : i + 1 < 2 ^ 31 := by omega
  have u2 : i + 2 < 2 ^ 31 := by omega
  have u3 : i + 3 < 2 ^ 31 := by omega
  have u4 : i + 4 < 2 ^ 31 := by omega
  have u5 : i + 5 < 2 ^ 31 := by omega
  have v1 : i + 1 < L := by omega
  have v2 : i + 2 < L := by omega
  have v3 : i + 3 < L := by omega
  have v4 : i + 4 < L := by omega
  have v5 : i + 5 < L := by omega
  have kx : hkd h x = 15 := C.1.1.1.1
  simp only [s270_1329, s270_1330, oB_some, cl2_i, cl2_r, cl2_l, cl2_u, cl2_s, wd_0, wd_i, wd_r, wd_l, wd_f, ct_i, ct_r, ct_n, ct_f, rf_s, rf_n, tl_s, tl_n, true_and, and_true, eq_self, and_self, Nat.reduceAdd, Nat.reduceLeDiff, Nat.zero_le, Nat.reduceEqDiff, or_true, true_or, false_or, or_false, if_true, if_false, gI_0, gI_1, gI_2, gI_3, gI_4, gI_5, gI_6, gI_7, gI_8, gI_9, gI_10, gI_11, gI_12, gI_13, gI_14, gI_15, gL_0, gL_1, gL_2, gL_3, gL_4, gL_5, gL_6, gL_7, gL_8, gL_9, gL_10, gL_11, gL_12, gL_13, gL_14, gL_15, gA_0, gA_1, gA_2, gA_3, gA_4, gA_5, gA_6, gA_7, gA_8, gA_9, gA_10, gA_11, gA_12, gA_13, gA_14, gA_15, p1_0, p1_1, p1_2, p1_3, p1_4, p1_5, p1_6, p1_7, p1_8, p1_9, p1_10, p1_11, p1_12, p1_13, p1_14, p1_15, p2_0, p2_1, p2_2, p2_3, p2_4, p2_5, p2_6, p2_7, p2_8, p2_9, p2_10, p2_11, p2_12, p2_13, p2_14, p2_15, kx, hc, hs, bk1.2.1, bk1.2.2.1, bk1.2.2.2, s1, s2, s3, s4, s5, ix_nI u1, ix_nI u2, ix_nI u3, ix_nI u4, ix_nI u5, nI_pos' u1, nI_pos' u2, nI_pos' u3, nI_pos' u4, nI_pos' u5, v1, v2, v3, v4, v5]
  refine x_clear C gS gH fun h1 f1 e1 C1 => ?_
  have fa1 := f1
  have bk1 := bk1.fa fa1
  have M1 := M.fa gH fa1
  have km : hkd h1 (x + 34) = 16 := M1.1.1.1.1.1
  simp only [s270_1333, s270_1334, oB_some, cl2_i, cl2_r, cl2_l, cl2_u, cl2_s, wd_0, wd_i, wd_r, wd_l, wd_f, ct_i, ct_r, ct_n, ct_f, rf_s, rf_n, tl_s, tl_n, true_and, and_true, eq_self, and_self, Nat.reduceAdd, Nat.reduceLeDiff, Nat.zero_le, Nat.reduceEqDiff, or_true, true_or, false_or, or_false, if_true, if_false, gI_0, gI_1, gI_2, gI_3, gI_4, gI_5, gI_6, gI_7, gI_8, gI_9, gI_10, gI_11, gI_12, gI_13, gI_14, gI_15, gL_0, gL_1, gL_2, gL_3, gL_4, gL_5, gL_6, gL_7, gL_8, gL_9, gL_10, gL_11, gL_12, gL_13, gL_14, gL_15, gA_0, gA_1, gA_2, gA_3, gA_4, gA_5, gA_6, gA_7, gA_8, gA_9, gA_10, gA_11, gA_12, gA_13, gA_14, gA_15, p1_0, p1_1, p1_2, p1_3, p1_4, p1_5, p1_6, p1_7, p1_8, p1_9, p1_10, p1_11, p1_12, p1_13, p1_14, p1_15, p2_0, p2_1, p2_2, p2_3, p2_4, p2_5, p2_6, p2_7, p2_8, p2_9, p2_10, p2_11, p2_12, p2_13, p2_14, p2_15, km, bk1.2.1, bk1.2.2.1, bk1.2.2.2, s1, s2, s3, s4, s5, ix_nI u1, ix_nI u2, ix_nI u3, ix_nI u4, ix_nI u5, nI_pos' u1, nI_pos' u2, nI_pos' u3, nI_pos' u4, nI_pos' u5, v1, v2, v3, v4, v5]
  refine o_clear M1 gS gH fun h2 f2 e2 M2 => ?_
  simp only [s270_1337, s270_1340, oB_some, cl2_i, cl2_r, cl2_l, cl2_u, cl2_s, wd_0, wd_i, wd_r, wd_l, wd_f, ct_i, ct_r, ct_n, ct_f, rf_s, rf_n, tl_s, tl_n, true_and, and_true, eq_self, and_self, Nat.reduceAdd, Nat.reduceLeDiff, Nat.zero_le, Nat.reduceEqDiff, or_true, true_or, false_or, or_false, if_true, if_false, gI_0, gI_1, gI_2, gI_3, gI_4, gI_5, gI_6, gI_7, gI_8, gI_9, gI_10, gI_11, gI_12, gI_13, gI_14, gI_15, gL_0, gL_1, gL_2, gL_3, gL_4, gL_5, gL_6, gL_7, gL_8, gL_9, gL_10, gL_11, gL_12, gL_13, gL_14, gL_15, gA_0, gA_1, gA_2, gA_3, gA_4, gA_5, gA_6, gA_7, gA_8, gA_9, gA_10, gA_11, gA_12, gA_13, gA_14, gA_15, p1_0, p1_1, p1_2, p1_3, p1_4, p1_5, p1_6, p1_7, p1_8, p1_9, p1_10, p1_11, p1_12, p1_13, p1_14, p1_15, p2_0, p2_1, p2_2, p2_3, p2_4, p2_5, p2_6, p2_7, p2_8, p2_9, p2_10, p2_11, p2_12, p2_13, p2_14, p2_15, b01_ok, b_ft, b_tf, b01_e0, b01_e1, lgc_0, not_true_eq_false, not_false_eq_true]
  exact nx _ _ _ _ _ _ _ _ _ (by omega) (by omega) (a.step f1 e1 C1 f2 e2 M2 gS gH)
set_option maxHeartbeats 4000000 in
theorem lc_image {b L x tl len i c s : Nat} {xs : Nat → Int32} {h : HP} {tp r : Nat → Nat} {S : VS} {H : HS} {Q : PQ} (a : LI b L xs h x S H tp tl r len) (hi : i + 6 ≤ L) (hL : L ≤ 3072) (hc : 12 ≤ c) (hs : 172 ≤ s)
    (nx : ∀ h' S' H' tp' tl' r' len' c' s', c ≤ c' + 12 → s ≤ s' + 172 → LI b L xs h' x S' H' tp' tl' r' len' → WP 11 270 Q (1434, [.val (.ref b), .val (.ref x), .val (.ref (x + 34)), .val (.int (nI i))], [], h', c', s')) : WP 11 270 Q (1385, [.val (.ref b), .val (.ref x), .val (.ref (x + 34)), .val (.int (nI i))], [], h, c, s) := by
  have a0 := a
  obtain ⟨C, M, ⟨gS, gH⟩, rf, bk⟩ := a0
  have bk1 : SKb b L xs x h := bk
  have s1 : nI i + 1 = nI (i + 1) := nI_add i 1
  have s2 : nI i + 2 = nI (i + 2) := nI_add i 2
  have s3 : nI i + 3 = nI (i + 3) := nI_add i 3
  have s4 : nI i + 4 = nI (i + 4) := nI_add i 4
  have s5 : nI i + 5 = nI (i + 5) := nI_add i 5
  have u1 : i + 1 < 2 ^ 31 := by omega
  have u2 : i + 2 < 2 ^ 31 := by omega
  have u3 : i + 3 < 2 ^ 31 := by omega
  have u4 : i + 4 < 2 ^ 31 := by omega
  have u5 : i + 5 < 2 ^ 31 := by omega
  have v1 : i + 1 < L := by omega
  have v2 : i + 2 < L := by omega
  have v3 : i + 3 < L := by omega
  have v4 : i + 4 < L := by omega
  have v5 : i + 5 < L := by omega
  have kx : hkd h x = 15 := C.1.1.1.1
  simp only [s270_1385, s270_1386, oB_some, cl2_i, cl2_r, cl2_l, cl2_u, cl2_s, wd_0, wd_i, wd_r, wd_l, wd_f, ct_i, ct_r, ct_n, ct_f, rf_s, rf_n, tl_s, tl_n, true_and, and_true, eq_self, and_self, Nat.reduceAdd, Nat.reduceLeDiff, Nat.zero_le, Nat.reduceEqDiff, or_true, true_or, false_or, or_false, if_true, if_false, gI_0, gI_1, gI_2, gI_3, gI_4, gI_5, gI_6, gI_7, gI_8, gI_9, gI_10, gI_11, gI_12, gI_13, gI_14, gI_15, gL_0, gL_1, gL_2, gL_3, gL_4, gL_5, gL_6, gL_7, gL_8, gL_9, gL_10, gL_11, gL_12, gL_13, gL_14, gL_15, gA_0, gA_1, gA_2, gA_3, gA_4, gA_5, gA_6, gA_7, gA_8, gA_9, gA_10, gA_11, gA_12, gA_13, gA_14, gA_15, p1_0, p1_1, p1_2, p1_3, p1_4, p1_5, p1_6, p1_7, p1_8, p1_9, p1_10, p1_11, p1_12, p1_13, p1_14, p1_15, p2_0, p2_1, p2_2, p2_3, p2_4, p2_5, p2_6, p2_7, p2_8, p2_9, p2_10, p2_11, p2_12, p2_13, p2_14, p2_15, kx, hc, hs, bk1.2.1, bk1.2.2.1, bk1.2.2.2, s1, s2, s3, s4, s5, ix_nI u1, ix_nI u2, ix_nI u3, ix_nI u4, ix_nI u5, nI_pos' u1, nI_pos' u2, nI_pos' u3, nI_pos' u4, nI_pos' u5, v1, v2, v3, v4, v5]
  refine x_image C gS gH fun h1 f1 e1 C1 => ?_
  have fa1 := f1
  have bk1 := bk1.fa fa1
  have M1 := M.fa gH fa1
  have km : hkd h1 (x + 34) = 16 := M1.1.1.1.1.1
  simp only [s270_1389, s270_1390, oB_some, cl2_i, cl2_r, cl2_l, cl2_u, cl2_s, wd_0, wd_i, wd_r, wd_l, wd_f, ct_i, ct_r, ct_n, ct_f, rf_s, rf_n, tl_s, tl_n, true_and, and_true, eq_self, and_self, Nat.reduceAdd, Nat.reduceLeDiff, Nat.zero_le, Nat.reduceEqDiff, or_true, true_or, false_or, or_false, if_true, if_false, gI_0, gI_1, gI_2, gI_3, gI_4, gI_5, gI_6, gI_7, gI_8, gI_9, gI_10, gI_11, gI_12, gI_13, gI_14, gI_15, gL_0, gL_1, gL_2, gL_3, gL_4, gL_5, gL_6, gL_7, gL_8, gL_9, gL_10, gL_11, gL_12, gL_13, gL_14, gL_15, gA_0, gA_1, gA_2, gA_3, gA_4, gA_5, gA_6, gA_7, gA_8, gA_9, gA_10, gA_11, gA_12, gA_13, gA_14, gA_15, p1_0, p1_1, p1_2, p1_3, p1_4, p1_5, p1_6, p1_7, p1_8, p1_9, p1_10, p1_11, p1_12, p1_13, p1_14, p1_15, p2_0, p2_1, p2_2, p2_3, p2_4, p2_5, p2_6, p2_7, p2_8, p2_9, p2_10, p2_11, p2_12, p2_13, p2_14, p2_15, km, bk1.2.1, bk1.2.2.1, bk1.2.2.2, s1, s2, s3, s4, s5, ix_nI u1, ix_nI u2, ix_nI u3, ix_nI u4, ix_nI u5, nI_pos' u1, nI_pos' u2, nI_pos' u3, nI_pos' u4, nI_pos' u5, v1, v2, v3, v4, v5]
  refine o_image M1 gS gH fun h2 f2 e2 M2 => ?_
  simp only [s270_1393, s270_1396, oB_some, cl2_i, cl2_r, cl2_l, cl2_u, cl2_s, wd_0, wd_i, wd_r, wd_l, wd_f, ct_i, ct_r, ct_n, ct_f, rf_s, rf_n, tl_s, tl_n, true_and, and_true, eq_self, and_self, Nat.reduceAdd, Nat.reduceLeDiff, Nat.zero_le, Nat.reduceEqDiff, or_true, true_or, false_or, or_false, if_true, if_false, gI_0, gI_1, gI_2, gI_3, gI_4, gI_5, gI_6, gI_7, gI_8, gI_9, gI_10, gI_11, gI_12, gI_13, gI_14, gI_15, gL_0, gL_1, gL_2, gL_3, gL_4, gL_5, gL_6, gL_7, gL_8, gL_9, gL_10, gL_11, gL_12, gL_13, gL_14, gL_15, gA_0, gA_1, gA_2, gA_3, gA_4, gA_5, gA_6, gA_7, gA_8, gA_9, gA_10, gA_11, gA_12, gA_13, gA_14, gA_15, p1_0, p1_1, p1_2, p1_3, p1_4, p1_5, p1_6, p1_7, p1_8, p1_9, p1_10, p1_11, p1_12, p1_13, p1_14, p1_15, p2_0, p2_1, p2_2, p2_3, p2_4, p2_5, p2_6, p2_7, p2_8, p2_9, p2_10, p2_11, p2_12, p2_13, p2_14, p2_15, b01_ok, b_ft, b_tf, b01_e0, b01_e1, lgc_0, not_true_eq_false, not_false_eq_true]
  exact nx _ _ _ _ _ _ _ _ _ (by omega) (by omega) (a.step f1 e1 C1 f2 e2 M2 gS (gh_img gH gS))
set_option maxHeartbeats 4000000 in
theorem lc_restore {b L x tl len i c s : Nat} {xs : Nat → Int32} {h : HP} {tp r : Nat → Nat} {S : VS} {H : HS} {Q : PQ} (a : LI b L xs h x S H tp tl r len) (hi : i + 6 ≤ L) (hL : L ≤ 3072) (hc : 12 ≤ c) (hs : 172 ≤ s)
    (nx : ∀ h' S' H' tp' tl' r' len' c' s', c ≤ c' + 12 → s ≤ s' + 172 → LI b L xs h' x S' H' tp' tl' r' len' → WP 11 270 Q (1434, [.val (.ref b), .val (.ref x), .val (.ref (x + 34)), .val (.int (nI i))], [], h', c', s')) : WP 11 270 Q (1398, [.val (.ref b), .val (.ref x), .val (.ref (x + 34)), .val (.int (nI i))], [], h, c, s) := by
  have a0 := a
  obtain ⟨C, M, ⟨gS, gH⟩, rf, bk⟩ := a0
  have bk1 : SKb b L xs x h := bk
  have s1 : nI i + 1 = nI (i + 1) := nI_add i 1
  have s2 : nI i + 2 = nI (i + 2) := nI_add i 2
  have s3 : nI i + 3 = nI (i + 3) := nI_add i 3
  have s4 : nI i + 4 = nI (i + 4) := nI_add i 4
  have s5 : nI i + 5 = nI (i + 5) := nI_add i 5
  have u1 : i + 1 < 2 ^ 31 := by omega
  have u2 : i + 2 < 2 ^ 31 := by omega
  have u3 : i + 3 < 2 ^ 31 := by omega
  have u4 : i + 4 < 2 ^ 31 := by omega
  have u5 : i + 5 < 2 ^ 31 := by omega
  have v1 : i + 1 < L := by omega
  have v2 : i + 2 < L := by omega
  have v3 : i + 3 < L := by omega
  have v4 : i + 4 < L := by omega
  have v5 : i + 5 < L := by omega
  have kx : hkd h x = 15 := C.1.1.1.1
  simp only [s270_1398, s270_1399, oB_some, cl2_i, cl2_r, cl2_l, cl2_u, cl2_s, wd_0, wd_i, wd_r, wd_l, wd_f, ct_i, ct_r, ct_n, ct_f, rf_s, rf_n, tl_s, tl_n, true_and, and_true, eq_self, and_self, Nat.reduceAdd, Nat.reduceLeDiff, Nat.zero_le, Nat.reduceEqDiff, or_true, true_or, false_or, or_false, if_true, if_false, gI_0, gI_1, gI_2, gI_3, gI_4, gI_5, gI_6, gI_7, gI_8, gI_9, gI_10, gI_11, gI_12, gI_13, gI_14, gI_15, gL_0, gL_1, gL_2, gL_3, gL_4, gL_5, gL_6, gL_7, gL_8, gL_9, gL_10, gL_11, gL_12, gL_13, gL_14, gL_15, gA_0, gA_1, gA_2, gA_3, gA_4, gA_5, gA_6, gA_7, gA_8, gA_9, gA_10, gA_11, gA_12, gA_13, gA_14, gA_15, p1_0, p1_1, p1_2, p1_3, p1_4, p1_5, p1_6, p1_7, p1_8, p1_9, p1_10, p1_11, p1_12, p1_13, p1_14, p1_15, p2_0, p2_1, p2_2, p2_3, p2_4, p2_5, p2_6, p2_7, p2_8, p2_9, p2_10, p2_11, p2_12, p2_13, p2_14, p2_15, kx, hc, hs, bk1.2.1, bk1.2.2.1, bk1.2.2.2, s1, s2, s3, s4, s5, ix_nI u1, ix_nI u2, ix_nI u3, ix_nI u4, ix_nI u5, nI_pos' u1, nI_pos' u2, nI_pos' u3, nI_pos' u4, nI_pos' u5, v1, v2, v3, v4, v5]
  refine x_restore C gS gH (fun e => ?_) fun I e h1 f1 e1 C1 => ?_
  · skip
    obtain ⟨h1, eh⟩ : ∃ z, z = RfC h x (-3) := ⟨_, rfl⟩
    have fa1 : FA x h h1 := by rw [eh]; exact RfC.fa
    rw [← eh]
    have bk1 := bk1.fa fa1
    have M1 := M.fa gH fa1
    have km : hkd h1 (x + 34) = 16 := M1.1.1.1.1.1
    simp only [s270_1402, s270_1403, oB_some, cl2_i, cl2_r, cl2_l, cl2_u, cl2_s, wd_0, wd_i, wd_r, wd_l, wd_f, ct_i, ct_r, ct_n, ct_f, rf_s, rf_n, tl_s, tl_n, true_and, and_true, eq_self, and_self, Nat.reduceAdd, Nat.reduceLeDiff, Nat.zero_le, Nat.reduceEqDiff, or_true, true_or, false_or, or_false, if_true, if_false, gI_0, gI_1, gI_2, gI_3, gI_4, gI_5, gI_6, gI_7, gI_8, gI_9, gI_10, gI_11, gI_12, gI_13, gI_14, gI_15, gL_0, gL_1, gL_2, gL_3, gL_4, gL_5, gL_6, gL_7, gL_8, gL_9, gL_10, gL_11, gL_12, gL_13, gL_14, gL_15, gA_0, gA_1, gA_2, gA_3, gA_4, gA_5, gA_6, gA_7, gA_8, gA_9, gA_10, gA_11, gA_12, gA_13, gA_14, gA_15, p1_0, p1_1, p1_2, p1_3, p1_4, p1_5, p1_6, p1_7, p1_8, p1_9, p1_10, p1_11, p1_12, p1_13, p1_14, p1_15, p2_0, p2_1, p2_2, p2_3, p2_4, p2_5, p2_6, p2_7, p2_8, p2_9, p2_10, p2_11, p2_12, p2_13, p2_14, p2_15, km, bk1.2.1, bk1.2.2.1, bk1.2.2.2, s1, s2, s3, s4, s5, ix_nI u1, ix_nI u2, ix_nI u3, ix_nI u4, ix_nI u5, nI_pos' u1, nI_pos' u2, nI_pos' u3, nI_pos' u4, nI_pos' u5, v1, v2, v3, v4, v5]
    refine o_restore M1 gS gH (fun _ => ?_) fun I z => absurd (e.symm.trans z) (by simp)
    simp only [s270_1406, s270_1409, oB_some, cl2_i, cl2_r, cl2_l, cl2_u, cl2_s, wd_0, wd_i, wd_r, wd_l, wd_f, ct_i, ct_r, ct_n, ct_f, rf_s, rf_n, tl_s, tl_n, true_and, and_true, eq_self, and_self, Nat.reduceAdd, Nat.reduceLeDiff, Nat.zero_le, Nat.reduceEqDiff, or_true, true_or, false_or, or_false, if_true, if_false, gI_0, gI_1, gI_2, gI_3, gI_4, gI_5, gI_6, gI_7, gI_8, gI_9, gI_10, gI_11, gI_12, gI_13, gI_14, gI_15, gL_0, gL_1, gL_2, gL_3, gL_4, gL_5, gL_6, gL_7, gL_8, gL_9, gL_10, gL_11, gL_12, gL_13, gL_14, gL_15, gA_0, gA_1, gA_2, gA_3, gA_4, gA_5, gA_6, gA_7, gA_8, gA_9, gA_10, gA_11, gA_12, gA_13, gA_14, gA_15, p1_0, p1_1, p1_2, p1_3, p1_4, p1_5, p1_6, p1_7, p1_8, p1_9, p1_10, p1_11, p1_12, p1_13, p1_14, p1_15, p2_0, p2_1, p2_2, p2_3, p2_4, p2_5, p2_6, p2_7, p2_8, p2_9, p2_10, p2_11, p2_12, p2_13, p2_14, p2_15, b01_ok, b_ft, b_tf, b01_e0, b01_e1, lgc_0, not_true_eq_false, not_false_eq_true]
    rw [eh]
    exact nx _ _ _ _ _ _ _ _ _ (by omega) (by omega) (a.refuse (-3))
  · skip
    have fa1 := f1
    have bk1 := bk1.fa fa1
    have M1 := M.fa gH fa1
    have km : hkd h1 (x + 34) = 16 := M1.1.1.1.1.1
    simp only [s270_1402, s270_1403, oB_some, cl2_i, cl2_r, cl2_l, cl2_u, cl2_s, wd_0, wd_i, wd_r, wd_l, wd_f, ct_i, ct_r, ct_n, ct_f, rf_s, rf_n, tl_s, tl_n, true_and, and_true, eq_self, and_self, Nat.reduceAdd, Nat.reduceLeDiff, Nat.zero_le, Nat.reduceEqDiff, or_true, true_or, false_or, or_false, if_true, if_false, gI_0, gI_1, gI_2, gI_3, gI_4, gI_5, gI_6, gI_7, gI_8, gI_9, gI_10, gI_11, gI_12, gI_13, gI_14, gI_15, gL_0, gL_1, gL_2, gL_3, gL_4, gL_5, gL_6, gL_7, gL_8, gL_9, gL_10, gL_11, gL_12, gL_13, gL_14, gL_15, gA_0, gA_1, gA_2, gA_3, gA_4, gA_5, gA_6, gA_7, gA_8, gA_9, gA_10, gA_11, gA_12, gA_13, gA_14, gA_15, p1_0, p1_1, p1_2, p1_3, p1_4, p1_5, p1_6, p1_7, p1_8, p1_9, p1_10, p1_11, p1_12, p1_13, p1_14, p1_15, p2_0, p2_1, p2_2, p2_3, p2_4, p2_5, p2_6, p2_7, p2_8, p2_9, p2_10, p2_11, p2_12, p2_13, p2_14, p2_15, km, bk1.2.1, bk1.2.2.1, bk1.2.2.2, s1, s2, s3, s4, s5, ix_nI u1, ix_nI u2, ix_nI u3, ix_nI u4, ix_nI u5, nI_pos' u1, nI_pos' u2, nI_pos' u3, nI_pos' u4, nI_pos' u5, v1, v2, v3, v4, v5]
    refine o_restore M1 gS gH (fun z => absurd (z.symm.trans e) (by simp)) fun I2 z h2 f2 e2 M2 => ?_
    obtain rfl := Option.some.inj (z.symm.trans e)
    simp only [s270_1406, s270_1409, oB_some, cl2_i, cl2_r, cl2_l, cl2_u, cl2_s, wd_0, wd_i, wd_r, wd_l, wd_f, ct_i, ct_r, ct_n, ct_f, rf_s, rf_n, tl_s, tl_n, true_and, and_true, eq_self, and_self, Nat.reduceAdd, Nat.reduceLeDiff, Nat.zero_le, Nat.reduceEqDiff, or_true, true_or, false_or, or_false, if_true, if_false, gI_0, gI_1, gI_2, gI_3, gI_4, gI_5, gI_6, gI_7, gI_8, gI_9, gI_10, gI_11, gI_12, gI_13, gI_14, gI_15, gL_0, gL_1, gL_2, gL_3, gL_4, gL_5, gL_6, gL_7, gL_8, gL_9, gL_10, gL_11, gL_12, gL_13, gL_14, gL_15, gA_0, gA_1, gA_2, gA_3, gA_4, gA_5, gA_6, gA_7, gA_8, gA_9, gA_10, gA_11, gA_12, gA_13, gA_14, gA_15, p1_0, p1_1, p1_2, p1_3, p1_4, p1_5, p1_6, p1_7, p1_8, p1_9, p1_10, p1_11, p1_12, p1_13, p1_14, p1_15, p2_0, p2_1, p2_2, p2_3, p2_4, p2_5, p2_6, p2_7, p2_8, p2_9, p2_10, p2_11, p2_12, p2_13, p2_14, p2_15, b01_ok, b_ft, b_tf, b01_e0, b01_e1, lgc_0, not_true_eq_false, not_false_eq_true]
    exact nx _ _ _ _ _ _ _ _ _ (by omega) (by omega) (a.step f1 e1 C1 f2 e2 M2 (gH.2.1 _ e) (gh_drop gH))
set_option maxHeartbeats 4000000 in
theorem lc_count {b L x tl len i c s : Nat} {xs : Nat → Int32} {h : HP} {tp r : Nat → Nat} {S : VS} {H : HS} {Q : PQ} (a : LI b L xs h x S H tp tl r len) (hi : i + 6 ≤ L) (hL : L ≤ 3072) (hc : 12 ≤ c) (hs : 172 ≤ s)
    (nx : ∀ h' S' H' tp' tl' r' len' c' s', c ≤ c' + 12 → s ≤ s' + 172 → LI b L xs h' x S' H' tp' tl' r' len' → WP 11 270 Q (1434, [.val (.ref b), .val (.ref x), .val (.ref (x + 34)), .val (.int (nI i))], [], h', c', s')) : WP 11 270 Q (1411, [.val (.ref b), .val (.ref x), .val (.ref (x + 34)), .val (.int (nI i))], [], h, c, s) := by
  have a0 := a
  obtain ⟨C, M, ⟨gS, gH⟩, rf, bk⟩ := a0
  have bk1 : SKb b L xs x h := bk
  have s1 : nI i + 1 = nI (i + 1) := nI_add i 1
  have s2 : nI i + 2 = nI (i + 2) := nI_add i 2
  have s3 : nI i + 3 = nI (i + 3) := nI_add i 3
  have s4 : nI i + 4 = nI (i + 4) := nI_add i 4
  have s5 : nI i + 5 = nI (i + 5) := nI_add i 5
  have u1 : i + 1 < 2 ^ 31 := by omega
  have u2 : i + 2 < 2 ^ 31 := by omega
  have u3 : i + 3 < 2 ^ 31 := by omega
  have u4 : i + 4 < 2 ^ 31 := by omega
  have u5 : i + 5 < 2 ^ 31 := by omega
  have v1 : i + 1 < L := by omega
  have v2 : i + 2 < L := by omega
  have v3 : i + 3 < L := by omega
  have v4 : i + 4 < L := by omega
  have v5 : i + 5 < L := by omega
  have kx : hkd h x = 15 := C.1.1.1.1
  simp only [s270_1411, s270_1412, s270_1413, s270_1414, s270_1415, s270_1416, s270_1417, oB_some, cl2_i, cl2_r, cl2_l, cl2_u, cl2_s, wd_0, wd_i, wd_r, wd_l, wd_f, ct_i, ct_r, ct_n, ct_f, rf_s, rf_n, tl_s, tl_n, true_and, and_true, eq_self, and_self, Nat.reduceAdd, Nat.reduceLeDiff, Nat.zero_le, Nat.reduceEqDiff, or_true, true_or, false_or, or_false, if_true, if_false, gI_0, gI_1, gI_2, gI_3, gI_4, gI_5, gI_6, gI_7, gI_8, gI_9, gI_10, gI_11, gI_12, gI_13, gI_14, gI_15, gL_0, gL_1, gL_2, gL_3, gL_4, gL_5, gL_6, gL_7, gL_8, gL_9, gL_10, gL_11, gL_12, gL_13, gL_14, gL_15, gA_0, gA_1, gA_2, gA_3, gA_4, gA_5, gA_6, gA_7, gA_8, gA_9, gA_10, gA_11, gA_12, gA_13, gA_14, gA_15, p1_0, p1_1, p1_2, p1_3, p1_4, p1_5, p1_6, p1_7, p1_8, p1_9, p1_10, p1_11, p1_12, p1_13, p1_14, p1_15, p2_0, p2_1, p2_2, p2_3, p2_4, p2_5, p2_6, p2_7, p2_8, p2_9, p2_10, p2_11, p2_12, p2_13, p2_14, p2_15, kx, hc, hs, bk1.2.1, bk1.2.2.1, bk1.2.2.2, s1, s2, s3, s4, s5, ix_nI u1, ix_nI u2, ix_nI u3, ix_nI u4, ix_nI u5, nI_pos' u1, nI_pos' u2, nI_pos' u3, nI_pos' u4, nI_pos' u5, v1, v2, v3, v4, v5]
  refine x_count C gS gH ?_
  have km : hkd h (x + 34) = 16 := M.1.1.1.1.1
  simp only [s270_1420, s270_1421, s270_1422, s270_1423, s270_1424, s270_1425, s270_1426, oB_some, cl2_i, cl2_r, cl2_l, cl2_u, cl2_s, wd_0, wd_i, wd_r, wd_l, wd_f, ct_i, ct_r, ct_n, ct_f, rf_s, rf_n, tl_s, tl_n, true_and, and_true, eq_self, and_self, Nat.reduceAdd, Nat.reduceLeDiff, Nat.zero_le, Nat.reduceEqDiff, or_true, true_or, false_or, or_false, if_true, if_false, gI_0, gI_1, gI_2, gI_3, gI_4, gI_5, gI_6, gI_7, gI_8, gI_9, gI_10, gI_11, gI_12, gI_13, gI_14, gI_15, gL_0, gL_1, gL_2, gL_3, gL_4, gL_5, gL_6, gL_7, gL_8, gL_9, gL_10, gL_11, gL_12, gL_13, gL_14, gL_15, gA_0, gA_1, gA_2, gA_3, gA_4, gA_5, gA_6, gA_7, gA_8, gA_9, gA_10, gA_11, gA_12, gA_13, gA_14, gA_15, p1_0, p1_1, p1_2, p1_3, p1_4, p1_5, p1_6, p1_7, p1_8, p1_9, p1_10, p1_11, p1_12, p1_13, p1_14, p1_15, p2_0, p2_1, p2_2, p2_3, p2_4, p2_5, p2_6, p2_7, p2_8, p2_9, p2_10, p2_11, p2_12, p2_13, p2_14, p2_15, km, bk1.2.1, bk1.2.2.1, bk1.2.2.2, s1, s2, s3, s4, s5, ix_nI u1, ix_nI u2, ix_nI u3, ix_nI u4, ix_nI u5, nI_pos' u1, nI_pos' u2, nI_pos' u3, nI_pos' u4, nI_pos' u5, v1, v2, v3, v4, v5]
  refine o_count M gS gH (hI h (x + 6)) rf ?_
  simp only [s270_1429, s270_1432, oB_some, cl2_i, cl2_r, cl2_l, cl2_u, cl2_s, wd_0, wd_i, wd_r, wd_l, wd_f, ct_i, ct_r, ct_n, ct_f, rf_s, rf_n, tl_s, tl_n, true_and, and_true, eq_self, and_self, Nat.reduceAdd, Nat.reduceLeDiff, Nat.zero_le, Nat.reduceEqDiff, or_true, true_or, false_or, or_false, if_true, if_false, gI_0, gI_1, gI_2, gI_3, gI_4, gI_5, gI_6, gI_7, gI_8, gI_9, gI_10, gI_11, gI_12, gI_13, gI_14, gI_15, gL_0, gL_1, gL_2, gL_3, gL_4, gL_5, gL_6, gL_7, gL_8, gL_9, gL_10, gL_11, gL_12, gL_13, gL_14, gL_15, gA_0, gA_1, gA_2, gA_3, gA_4, gA_5, gA_6, gA_7, gA_8, gA_9, gA_10, gA_11, gA_12, gA_13, gA_14, gA_15, p1_0, p1_1, p1_2, p1_3, p1_4, p1_5, p1_6, p1_7, p1_8, p1_9, p1_10, p1_11, p1_12, p1_13, p1_14, p1_15, p2_0, p2_1, p2_2, p2_3, p2_4, p2_5, p2_6, p2_7, p2_8, p2_9, p2_10, p2_11, p2_12, p2_13, p2_14, p2_15, b01_ok, b_ft, b_tf, b01_e0, b01_e1, lgc_0, not_true_eq_false, not_false_eq_true]
  exact nx _ _ _ _ _ _ _ _ _ (by omega) (by omega) a
