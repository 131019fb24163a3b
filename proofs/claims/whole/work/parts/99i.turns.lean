-- written by gen99h.py: the law's turns, changes
set_option maxHeartbeats 4000000 in
theorem lc_feed {b L x tl len i c s : Nat} {xs : Nat → Int32} {h : HP} {tp r : Nat → Nat} {S : VS} {H : HS} {Q : PQ} (a : LI b L xs h x S H tp tl r len) (hi : i + 6 ≤ L) (hL : L ≤ 3072) (hc : 12 ≤ c) (hs : 172 ≤ s)
    (nx : ∀ h' S' H' tp' tl' r' len' c' s', c ≤ c' + 12 → s ≤ s' + 172 → LI b L xs h' x S' H' tp' tl' r' len' → WP 11 268 Q (1434, [.val (.ref b), .val (.ref x), .val (.ref (x + 34)), .val (.int (nI i))], [], h', c', s')) : WP 11 268 Q (216, [.val (.ref b), .val (.ref x), .val (.ref (x + 34)), .val (.int (nI i))], [], h, c, s) := by
  have a0 := a
  obtain ⟨C, M, ⟨gS, gH⟩, rf, bk⟩ := a0
  have bk1 : SKb b L xs x h := bk
  have s1 : nI i + 1 = nI (i + 1) := nI_add i 1
  have s2 : nI i + 2 = nI (i + 2) := nI_add i 2
  have s3 : nI i + 3 = nI (i + 3) := nI_add i 3
  have s4 : nI i + 4 = nI (i + 4) := nI_add i 4
  have s5 : nI i + 5 = nI (i + 5) := nI_add i 5
  have u1 : i + 1 < 2 ^ 31 := by omega
  have u2 : i + 2 < 2 ^ 31 := by omega
  have u3 : i + 3 < 2 ^ 31 := by omega
  have u4 : i + 4 < 2 ^ 31 := by omega
  have u5 : i + 5 < 2 ^ 31 := by omega
  have v1 : i + 1 < L := by omega
  have v2 : i + 2 < L := by omega
  have v3 : i + 3 < L := by omega
  have v4 : i + 4 < L := by omega
  have v5 : i + 5 < L := by omega
  have kx : hkd h x = 15 := C.1.1.1.1
  simp only [s268_216, s268_217, s268_218, s268_219, s268_220, s268_221, s268_222, oB_some, cl2_i, cl2_r, cl2_l, cl2_u, cl2_s, wd_0, wd_i, wd_r, wd_l, wd_f, ct_i, ct_r, ct_n, ct_f, rf_s, rf_n, tl_s, tl_n, true_and, and_true, eq_self, and_self, Nat.reduceAdd, Nat.reduceLeDiff, Nat.zero_le, Nat.reduceEqDiff, or_true, true_or, false_or, or_false, if_true, if_false, gI_0, gI_1, gI_2, gI_3, gI_4, gI_5, gI_6, gI_7, gI_8, gI_9, gI_10, gI_11, gI_12, gI_13, gI_14, gI_15, gL_0, gL_1, gL_2, gL_3, gL_4, gL_5, gL_6, gL_7, gL_8, gL_9, gL_10, gL_11, gL_12, gL_13, gL_14, gL_15, gA_0, gA_1, gA_2, gA_3, gA_4, gA_5, gA_6, gA_7, gA_8, gA_9, gA_10, gA_11, gA_12, gA_13, gA_14, gA_15, p1_0, p1_1, p1_2, p1_3, p1_4, p1_5, p1_6, p1_7, p1_8, p1_9, p1_10, p1_11, p1_12, p1_13, p1_14, p1_15, p2_0, p2_1, p2_2, p2_3, p2_4, p2_5, p2_6, p2_7, p2_8, p2_9, p2_10, p2_11, p2_12, p2_13, p2_14, p2_15, kx, hc, hs, bk1.2.1, bk1.2.2.1, bk1.2.2.2, s1, s2, s3, s4, s5, ix_nI u1, ix_nI u2, ix_nI u3, ix_nI u4, ix_nI u5, nI_pos' u1, nI_pos' u2, nI_pos' u3, nI_pos' u4, nI_pos' u5, v1, v2, v3, v4, v5]
  refine x_feed C gS gH (fun y e y0 => ?_) fun e h1 f1 e1 C1 => ?_
  · skip
    obtain ⟨h1, eh⟩ : ∃ z, z = RfC h x y := ⟨_, rfl⟩
    have fa1 : FA x h h1 := by rw [eh]; exact RfC.fa
    rw [← eh]
    have bk1 := bk1.fa fa1
    have M1 := M.fa gH fa1
    have km : hkd h1 (x + 34) = 16 := M1.1.1.1.1.1
    simp only [s268_225, s268_226, s268_227, s268_228, s268_229, s268_230, s268_231, oB_some, cl2_i, cl2_r, cl2_l, cl2_u, cl2_s, wd_0, wd_i, wd_r, wd_l, wd_f, ct_i, ct_r, ct_n, ct_f, rf_s, rf_n, tl_s, tl_n, true_and, and_true, eq_self, and_self, Nat.reduceAdd, Nat.reduceLeDiff, Nat.zero_le, Nat.reduceEqDiff, or_true, true_or, false_or, or_false, if_true, if_false, gI_0, gI_1, gI_2, gI_3, gI_4, gI_5, gI_6, gI_7, gI_8, gI_9, gI_10, gI_11, gI_12, gI_13, gI_14, gI_15, gL_0, gL_1, gL_2, gL_3, gL_4, gL_5, gL_6, gL_7, gL_8, gL_9, gL_10, gL_11, gL_12, gL_13, gL_14, gL_15, gA_0, gA_1, gA_2, gA_3, gA_4, gA_5, gA_6, gA_7, gA_8, gA_9, gA_10, gA_11, gA_12, gA_13, gA_14, gA_15, p1_0, p1_1, p1_2, p1_3, p1_4, p1_5, p1_6, p1_7, p1_8, p1_9, p1_10, p1_11, p1_12, p1_13, p1_14, p1_15, p2_0, p2_1, p2_2, p2_3, p2_4, p2_5, p2_6, p2_7, p2_8, p2_9, p2_10, p2_11, p2_12, p2_13, p2_14, p2_15, km, bk1.2.1, bk1.2.2.1, bk1.2.2.2, s1, s2, s3, s4, s5, ix_nI u1, ix_nI u2, ix_nI u3, ix_nI u4, ix_nI u5, nI_pos' u1, nI_pos' u2, nI_pos' u3, nI_pos' u4, nI_pos' u5, v1, v2, v3, v4, v5]
    refine o_feed M1 gS gH (fun y2 e2 n2 => ?_) fun e2 => absurd (e.symm.trans e2) y0
    obtain rfl := e.symm.trans e2
    simp only [s268_234, s268_237, oB_some, cl2_i, cl2_r, cl2_l, cl2_u, cl2_s, wd_0, wd_i, wd_r, wd_l, wd_f, ct_i, ct_r, ct_n, ct_f, rf_s, rf_n, tl_s, tl_n, true_and, and_true, eq_self, and_self, Nat.reduceAdd, Nat.reduceLeDiff, Nat.zero_le, Nat.reduceEqDiff, or_true, true_or, false_or, or_false, if_true, if_false, gI_0, gI_1, gI_2, gI_3, gI_4, gI_5, gI_6, gI_7, gI_8, gI_9, gI_10, gI_11, gI_12, gI_13, gI_14, gI_15, gL_0, gL_1, gL_2, gL_3, gL_4, gL_5, gL_6, gL_7, gL_8, gL_9, gL_10, gL_11, gL_12, gL_13, gL_14, gL_15, gA_0, gA_1, gA_2, gA_3, gA_4, gA_5, gA_6, gA_7, gA_8, gA_9, gA_10, gA_11, gA_12, gA_13, gA_14, gA_15, p1_0, p1_1, p1_2, p1_3, p1_4, p1_5, p1_6, p1_7, p1_8, p1_9, p1_10, p1_11, p1_12, p1_13, p1_14, p1_15, p2_0, p2_1, p2_2, p2_3, p2_4, p2_5, p2_6, p2_7, p2_8, p2_9, p2_10, p2_11, p2_12, p2_13, p2_14, p2_15, b01_ok, b_ft, b_tf, b01_e0, b01_e1, lgc_0, not_true_eq_false, not_false_eq_true]
    rw [eh]
    exact nx _ _ _ _ _ _ _ _ _ (by omega) (by omega) (a.refuse y)
  · skip
    have fa1 := f1
    have bk1 := bk1.fa fa1
    have M1 := M.fa gH fa1
    have km : hkd h1 (x + 34) = 16 := M1.1.1.1.1.1
    simp only [s268_225, s268_226, s268_227, s268_228, s268_229, s268_230, s268_231, oB_some, cl2_i, cl2_r, cl2_l, cl2_u, cl2_s, wd_0, wd_i, wd_r, wd_l, wd_f, ct_i, ct_r, ct_n, ct_f, rf_s, rf_n, tl_s, tl_n, true_and, and_true, eq_self, and_self, Nat.reduceAdd, Nat.reduceLeDiff, Nat.zero_le, Nat.reduceEqDiff, or_true, true_or, false_or, or_false, if_true, if_false, gI_0, gI_1, gI_2, gI_3, gI_4, gI_5, gI_6, gI_7, gI_8, gI_9, gI_10, gI_11, gI_12, gI_13, gI_14, gI_15, gL_0, gL_1, gL_2, gL_3, gL_4, gL_5, gL_6, gL_7, gL_8, gL_9, gL_10, gL_11, gL_12, gL_13, gL_14, gL_15, gA_0, gA_1, gA_2, gA_3, gA_4, gA_5, gA_6, gA_7, gA_8, gA_9, gA_10, gA_11, gA_12, gA_13, gA_14, gA_15, p1_0, p1_1, p1_2, p1_3, p1_4, p1_5, p1_6, p1_7, p1_8, p1_9, p1_10, p1_11, p1_12, p1_13, p1_14, p1_15, p2_0, p2_1, p2_2, p2_3, p2_4, p2_5, p2_6, p2_7, p2_8, p2_9, p2_10, p2_11, p2_12, p2_13, p2_14, p2_15, km, bk1.2.1, bk1.2.2.1, bk1.2.2.2, s1, s2, s3, s4, s5, ix_nI u1, ix_nI u2, ix_nI u3, ix_nI u4, ix_nI u5, nI_pos' u1, nI_pos' u2, nI_pos' u3, nI_pos' u4, nI_pos' u5, v1, v2, v3, v4, v5]
    refine o_feed M1 gS gH (fun y2 e2 n2 => absurd (e2.symm.trans e) n2) fun _ h2 f2 e2 M2 => ?_
    simp only [s268_234, s268_237, oB_some, cl2_i, cl2_r, cl2_l, cl2_u, cl2_s, wd_0, wd_i, wd_r, wd_l, wd_f, ct_i, ct_r, ct_n, ct_f, rf_s, rf_n, tl_s, tl_n, true_and, and_true, eq_self, and_self, Nat.reduceAdd, Nat.reduceLeDiff, Nat.zero_le, Nat.reduceEqDiff, or_true, true_or, false_or, or_false, if_true, if_false, gI_0, gI_1, gI_2, gI_3, gI_4, gI_5, gI_6, gI_7, gI_8, gI_9, gI_10, gI_11, gI_12, gI_13, gI_14, gI_15, gL_0, gL_1, gL_2, gL_3, gL_4, gL_5, gL_6, gL_7, gL_8, gL_9, gL_10, gL_11, gL_12, gL_13, gL_14, gL_15, gA_0, gA_1, gA_2, gA_3, gA_4, gA_5, gA_6, gA_7, gA_8, gA_9, gA_10, gA_11, gA_12, gA_13, gA_14, gA_15, p1_0, p1_1, p1_2, p1_3, p1_4, p1_5, p1_6, p1_7, p1_8, p1_9, p1_10, p1_11, p1_12, p1_13, p1_14, p1_15, p2_0, p2_1, p2_2, p2_3, p2_4, p2_5, p2_6, p2_7, p2_8, p2_9, p2_10, p2_11, p2_12, p2_13, p2_14, p2_15, b01_ok, b_ft, b_tf, b01_e0, b01_e1, lgc_0, not_true_eq_false, not_false_eq_true]
    exact nx _ _ _ _ _ _ _ _ _ (by omega) (by omega) (a.step f1 e1 C1 f2 e2 M2 gS gH)
set_option maxHeartbeats 4000000 in
theorem lc_post {b L x tl len i c s : Nat} {xs : Nat → Int32} {h : HP} {tp r : Nat → Nat} {S : VS} {H : HS} {Q : PQ} (a : LI b L xs h x S H tp tl r len) (hi : i + 6 ≤ L) (hL : L ≤ 3072) (hc : 12 ≤ c) (hs : 172 ≤ s)
    (nx : ∀ h' S' H' tp' tl' r' len' c' s', c ≤ c' + 12 → s ≤ s' + 172 → LI b L xs h' x S' H' tp' tl' r' len' → WP 11 268 Q (1434, [.val (.ref b), .val (.ref x), .val (.ref (x + 34)), .val (.int (nI i))], [], h', c', s')) : WP 11 268 Q (239, [.val (.ref b), .val (.ref x), .val (.ref (x + 34)), .val (.int (nI i))], [], h, c, s) := by
  have a0 := a
  obtain ⟨C, M, ⟨gS, gH⟩, rf, bk⟩ := a0
  have bk1 : SKb b L xs x h := bk
  have s1 : nI i + 1 = nI (i + 1) := nI_add i 1
  have s2 : nI i + 2 = nI (i + 2) := nI_add i 2
  have s3 : nI i + 3 = nI (i + 3) := nI_add i 3
  have s4 : nI i + 4 = nI (i + 4) := nI_add i 4
  have s5 : nI i + 5 = nI (i + 5) := nI_add i 5
  have u1 : i + 1 < 2 ^ 31 := by omega
  have u2 : i + 2 < 2 ^ 31 := by omega
  have u3 : i + 3 < 2 ^ 31 := by omega
  have u4 : i + 4 < 2 ^ 31 := by omega
  have u5 : i + 5 < 2 ^ 31 := by omega
  have v1 : i + 1 < L := by omega
  have v2 : i + 2 < L := by omega
  have v3 : i + 3 < L := by omega
  have v4 : i + 4 < L := by omega
  have v5 : i + 5 < L := by omega
  have kx : hkd h x = 15 := C.1.1.1.1
  simp only [s268_239, s268_240, oB_some, cl2_i, cl2_r, cl2_l, cl2_u, cl2_s, wd_0, wd_i, wd_r, wd_l, wd_f, ct_i, ct_r, ct_n, ct_f, rf_s, rf_n, tl_s, tl_n, true_and, and_true, eq_self, and_self, Nat.reduceAdd, Nat.reduceLeDiff, Nat.zero_le, Nat.reduceEqDiff, or_true, true_or, false_or, or_false, if_true, if_false, gI_0, gI_1, gI_2, gI_3, gI_4, gI_5, gI_6, gI_7, gI_8, gI_9, gI_10, gI_11, gI_12, gI_13, gI_14, gI_15, gL_0, gL_1, gL_2, gL_3, gL_4, gL_5, gL_6, gL_7, gL_8, gL_9, gL_10, gL_11, gL_12, gL_13, gL_14, gL_15, gA_0, gA_1, gA_2, gA_3, gA_4, gA_5, gA_6, gA_7, gA_8, gA_9, gA_10, gA_11, gA_12, gA_13, gA_14, gA_15, p1_0, p1_1, p1_2, p1_3, p1_4, p1_5, p1_6, p1_7, p1_8, p1_9, p1_10, p1_11, p1_12, p1_13, p1_14, p1_15, p2_0, p2_1, p2_2, p2_3, p2_4, p2_5, p2_6, p2_7, p2_8, p2_9, p2_10, p2_11, p2_12, p2_13, p2_14, p2_15, kx, hc, hs, bk1.2.1, bk1.2.2.1, bk1.2.2.2, s1, s2, s3, s4, s5, ix_nI u1, ix_nI u2, ix_nI u3, ix_nI u4, ix_nI u5, nI_pos' u1, nI_pos' u2, nI_pos' u3, nI_pos' u4, nI_pos' u5, v1, v2, v3, v4, v5]
  refine x_post C gS gH (fun e h1 f1 e1 C1 => ?_) fun S2 e gS2 h1 f1 e1 C1 => ?_
  · skip
    have fa1 := f1
    have bk1 := bk1.fa fa1
    have M1 := M.fa gH fa1
    have km : hkd h1 (x + 34) = 16 := M1.1.1.1.1.1
    simp only [s268_243, s268_244, oB_some, cl2_i, cl2_r, cl2_l, cl2_u, cl2_s, wd_0, wd_i, wd_r, wd_l, wd_f, ct_i, ct_r, ct_n, ct_f, rf_s, rf_n, tl_s, tl_n, true_and, and_true, eq_self, and_self, Nat.reduceAdd, Nat.reduceLeDiff, Nat.zero_le, Nat.reduceEqDiff, or_true, true_or, false_or, or_false, if_true, if_false, gI_0, gI_1, gI_2, gI_3, gI_4, gI_5, gI_6, gI_7, gI_8, gI_9, gI_10, gI_11, gI_12, gI_13, gI_14, gI_15, gL_0, gL_1, gL_2, gL_3, gL_4, gL_5, gL_6, gL_7, gL_8, gL_9, gL_10, gL_11, gL_12, gL_13, gL_14, gL_15, gA_0, gA_1, gA_2, gA_3, gA_4, gA_5, gA_6, gA_7, gA_8, gA_9, gA_10, gA_11, gA_12, gA_13, gA_14, gA_15, p1_0, p1_1, p1_2, p1_3, p1_4, p1_5, p1_6, p1_7, p1_8, p1_9, p1_10, p1_11, p1_12, p1_13, p1_14, p1_15, p2_0, p2_1, p2_2, p2_3, p2_4, p2_5, p2_6, p2_7, p2_8, p2_9, p2_10, p2_11, p2_12, p2_13, p2_14, p2_15, km, bk1.2.1, bk1.2.2.1, bk1.2.2.2, s1, s2, s3, s4, s5, ix_nI u1, ix_nI u2, ix_nI u3, ix_nI u4, ix_nI u5, nI_pos' u1, nI_pos' u2, nI_pos' u3, nI_pos' u4, nI_pos' u5, v1, v2, v3, v4, v5]
    refine o_post M1 gS gH (fun _ h2 f2 e2 M2 => ?_) fun S2 es => absurd (es.symm.trans e) (by simp)
    simp only [s268_247, s268_250, oB_some, cl2_i, cl2_r, cl2_l, cl2_u, cl2_s, wd_0, wd_i, wd_r, wd_l, wd_f, ct_i, ct_r, ct_n, ct_f, rf_s, rf_n, tl_s, tl_n, true_and, and_true, eq_self, and_self, Nat.reduceAdd, Nat.reduceLeDiff, Nat.zero_le, Nat.reduceEqDiff, or_true, true_or, false_or, or_false, if_true, if_false, gI_0, gI_1, gI_2, gI_3, gI_4, gI_5, gI_6, gI_7, gI_8, gI_9, gI_10, gI_11, gI_12, gI_13, gI_14, gI_15, gL_0, gL_1, gL_2, gL_3, gL_4, gL_5, gL_6, gL_7, gL_8, gL_9, gL_10, gL_11, gL_12, gL_13, gL_14, gL_15, gA_0, gA_1, gA_2, gA_3, gA_4, gA_5, gA_6, gA_7, gA_8, gA_9, gA_10, gA_11, gA_12, gA_13, gA_14, gA_15, p1_0, p1_1, p1_2, p1_3, p1_4, p1_5, p1_6, p1_7, p1_8, p1_9, p1_10, p1_11, p1_12, p1_13, p1_14, p1_15, p2_0, p2_1, p2_2, p2_3, p2_4, p2_5, p2_6, p2_7, p2_8, p2_9, p2_10, p2_11, p2_12, p2_13, p2_14, p2_15, b01_ok, b_ft, b_tf, b01_e0, b01_e1, lgc_0, not_true_eq_false, not_false_eq_true]
    exact nx _ _ _ _ _ _ _ _ _ (by omega) (by omega) (a.step f1 e1 C1 f2 e2 M2 gS gH)
  · skip
    have fa1 := f1
    have bk1 := bk1.fa fa1
    have M1 := M.fa gH fa1
    have km : hkd h1 (x + 34) = 16 := M1.1.1.1.1.1
    simp only [s268_243, s268_244, oB_some, cl2_i, cl2_r, cl2_l, cl2_u, cl2_s, wd_0, wd_i, wd_r, wd_l, wd_f, ct_i, ct_r, ct_n, ct_f, rf_s, rf_n, tl_s, tl_n, true_and, and_true, eq_self, and_self, Nat.reduceAdd, Nat.reduceLeDiff, Nat.zero_le, Nat.reduceEqDiff, or_true, true_or, false_or, or_false, if_true, if_false, gI_0, gI_1, gI_2, gI_3, gI_4, gI_5, gI_6, gI_7, gI_8, gI_9, gI_10, gI_11, gI_12, gI_13, gI_14, gI_15, gL_0, gL_1, gL_2, gL_3, gL_4, gL_5, gL_6, gL_7, gL_8, gL_9, gL_10, gL_11, gL_12, gL_13, gL_14, gL_15, gA_0, gA_1, gA_2, gA_3, gA_4, gA_5, gA_6, gA_7, gA_8, gA_9, gA_10, gA_11, gA_12, gA_13, gA_14, gA_15, p1_0, p1_1, p1_2, p1_3, p1_4, p1_5, p1_6, p1_7, p1_8, p1_9, p1_10, p1_11, p1_12, p1_13, p1_14, p1_15, p2_0, p2_1, p2_2, p2_3, p2_4, p2_5, p2_6, p2_7, p2_8, p2_9, p2_10, p2_11, p2_12, p2_13, p2_14, p2_15, km, bk1.2.1, bk1.2.2.1, bk1.2.2.2, s1, s2, s3, s4, s5, ix_nI u1, ix_nI u2, ix_nI u3, ix_nI u4, ix_nI u5, nI_pos' u1, nI_pos' u2, nI_pos' u3, nI_pos' u4, nI_pos' u5, v1, v2, v3, v4, v5]
    refine o_post M1 gS gH (fun es => absurd (es.symm.trans e) (by simp)) fun S3 es gS3 h2 f2 e2 M2 => ?_
    obtain rfl := Option.some.inj (es.symm.trans e)
    simp only [s268_247, s268_250, oB_some, cl2_i, cl2_r, cl2_l, cl2_u, cl2_s, wd_0, wd_i, wd_r, wd_l, wd_f, ct_i, ct_r, ct_n, ct_f, rf_s, rf_n, tl_s, tl_n, true_and, and_true, eq_self, and_self, Nat.reduceAdd, Nat.reduceLeDiff, Nat.zero_le, Nat.reduceEqDiff, or_true, true_or, false_or, or_false, if_true, if_false, gI_0, gI_1, gI_2, gI_3, gI_4, gI_5, gI_6, gI_7, gI_8, gI_9, gI_10, gI_11, gI_12, gI_13, gI_14, gI_15, gL_0, gL_1, gL_2, gL_3, gL_4, gL_5, gL_6, gL_7, gL_8, gL_9, gL_10, gL_11, gL_12, gL_13, gL_14, gL_15, gA_0, gA_1, gA_2, gA_3, gA_4, gA_5, gA_6, gA_7, gA_8, gA_9, gA_10, gA_11, gA_12, gA_13, gA_14, gA_15, p1_0, p1_1, p1_2, p1_3, p1_4, p1_5, p1_6, p1_7, p1_8, p1_9, p1_10, p1_11, p1_12, p1_13, p1_14, p1_15, p2_0, p2_1, p2_2, p2_3, p2_4, p2_5, p2_6, p2_7, p2_8, p2_9, p2_10, p2_11, p2_12, p2_13, p2_14, p2_15, b01_ok, b_ft, b_tf, b01_e0, b01_e1, lgc_0, not_true_eq_false, not_false_eq_true]
    exact nx _ _ _ _ _ _ _ _ _ (by omega) (by omega) (a.step f1 e1 C1 f2 e2 M2 gS2 (gh_drop gH))
set_option maxHeartbeats 4000000 in
theorem lc_comes {b L x tl len i c s : Nat} {xs : Nat → Int32} {h : HP} {tp r : Nat → Nat} {S : VS} {H : HS} {Q : PQ} (a : LI b L xs h x S H tp tl r len) (hi : i + 6 ≤ L) (hL : L ≤ 3072) (hc : 12 ≤ c) (hs : 172 ≤ s)
    (nx : ∀ h' S' H' tp' tl' r' len' c' s', c ≤ c' + 12 → s ≤ s' + 172 → LI b L xs h' x S' H' tp' tl' r' len' → WP 11 268 Q (1434, [.val (.ref b), .val (.ref x), .val (.ref (x + 34)), .val (.int (nI i))], [], h', c', s')) : WP 11 268 Q (384, [.val (.ref b), .val (.ref x), .val (.ref (x + 34)), .val (.int (nI i))], [], h, c, s) := by
  have a0 := a
  obtain ⟨C, M, ⟨gS, gH⟩, rf, bk⟩ := a0
  have bk1 : SKb b L xs x h := bk
  have s1 : nI i + 1 = nI (i + 1) := nI_add i 1
  have s2 : nI i + 2 = nI (i + 2) := nI_add i 2
  have s3 : nI i + 3 = nI (i + 3) := nI_add i 3
  have s4 : nI i + 4 = nI (i + 4) := nI_add i 4
  have s5 : nI i + 5 = nI (i + 5) := nI_add i 5
  have u1 : i + 1 < 2 ^ 31 := by omega
  have u2 : i + 2 < 2 ^ 31 := by omega
  have u3 : i + 3 < 2 ^ 31 := by omega
  have u4 : i + 4 < 2 ^ 31 := by omega
  have u5 : i + 5 < 2 ^ 31 := by omega
  have v1 : i + 1 < L := by omega
  have v2 : i + 2 < L := by omega
  have v3 : i + 3 < L := by omega
  have v4 : i + 4 < L := by omega
  have v5 : i + 5 < L := by omega
  have kx : hkd h x = 15 := C.1.1.1.1
  simp only [s268_384, s268_385, s268_386, s268_387, s268_388, s268_389, s268_390, s268_391, s268_392, s268_393, s268_394, s268_395, oB_some, cl2_i, cl2_r, cl2_l, cl2_u, cl2_s, wd_0, wd_i, wd_r, wd_l, wd_f, ct_i, ct_r, ct_n, ct_f, rf_s, rf_n, tl_s, tl_n, true_and, and_true, eq_self, and_self, Nat.reduceAdd, Nat.reduceLeDiff, Nat.zero_le, Nat.reduceEqDiff, or_true, true_or, false_or, or_false, if_true, if_false, gI_0, gI_1, gI_2, gI_3, gI_4, gI_5, gI_6, gI_7, gI_8, gI_9, gI_10, gI_11, gI_12, gI_13, gI_14, gI_15, gL_0, gL_1, gL_2, gL_3, gL_4, gL_5, gL_6, gL_7, gL_8, gL_9, gL_10, gL_11, gL_12, gL_13, gL_14, gL_15, gA_0, gA_1, gA_2, gA_3, gA_4, gA_5, gA_6, gA_7, gA_8, gA_9, gA_10, gA_11, gA_12, gA_13, gA_14, gA_15, p1_0, p1_1, p1_2, p1_3, p1_4, p1_5, p1_6, p1_7, p1_8, p1_9, p1_10, p1_11, p1_12, p1_13, p1_14, p1_15, p2_0, p2_1, p2_2, p2_3, p2_4, p2_5, p2_6, p2_7, p2_8, p2_9, p2_10, p2_11, p2_12, p2_13, p2_14, p2_15, kx, hc, hs, bk1.2.1, bk1.2.2.1, bk1.2.2.2, s1, s2, s3, s4, s5, ix_nI u1, ix_nI u2, ix_nI u3, ix_nI u4, ix_nI u5, nI_pos' u1, nI_pos' u2, nI_pos' u3, nI_pos' u4, nI_pos' u5, v1, v2, v3, v4, v5]
  refine x_comes C gS gH (fun y e y0 => ?_) fun e h1 f1 e1 C1 => ?_
  · skip
    obtain ⟨h1, eh⟩ : ∃ z, z = RfC h x y := ⟨_, rfl⟩
    have fa1 : FA x h h1 := by rw [eh]; exact RfC.fa
    rw [← eh]
    have bk1 := bk1.fa fa1
    have M1 := M.fa gH fa1
    have km : hkd h1 (x + 34) = 16 := M1.1.1.1.1.1
    simp only [s268_398, s268_399, s268_400, s268_401, s268_402, s268_403, s268_404, s268_405, s268_406, s268_407, s268_408, s268_409, oB_some, cl2_i, cl2_r, cl2_l, cl2_u, cl2_s, wd_0, wd_i, wd_r, wd_l, wd_f, ct_i, ct_r, ct_n, ct_f, rf_s, rf_n, tl_s, tl_n, true_and, and_true, eq_self, and_self, Nat.reduceAdd, Nat.reduceLeDiff, Nat.zero_le, Nat.reduceEqDiff, or_true, true_or, false_or, or_false, if_true, if_false, gI_0, gI_1, gI_2, gI_3, gI_4, gI_5, gI_6, gI_7, gI_8, gI_9, gI_10, gI_11, gI_12, gI_13, gI_14, gI_15, gL_0, gL_1, gL_2, gL_3, gL_4, gL_5, gL_6, gL_7, gL_8, gL_9, gL_10, gL_11, gL_12, gL_13, gL_14, gL_15, gA_0, gA_1, gA_2, gA_3, gA_4, gA_5, gA_6, gA_7, gA_8, gA_9, gA_10, gA_11, gA_12, gA_13, gA_14, gA_15, p1_0, p1_1, p1_2, p1_3, p1_4, p1_5, p1_6, p1_7, p1_8, p1_9, p1_10, p1_11, p1_12, p1_13, p1_14, p1_15, p2_0, p2_1, p2_2, p2_3, p2_4, p2_5, p2_6, p2_7, p2_8, p2_9, p2_10, p2_11, p2_12, p2_13, p2_14, p2_15, km, bk1.2.1, bk1.2.2.1, bk1.2.2.2, s1, s2, s3, s4, s5, ix_nI u1, ix_nI u2, ix_nI u3, ix_nI u4, ix_nI u5, nI_pos' u1, nI_pos' u2, nI_pos' u3, nI_pos' u4, nI_pos' u5, v1, v2, v3, v4, v5]
    refine o_comes M1 gS gH (fun y2 e2 n2 => ?_) fun e2 => absurd (e.symm.trans e2) y0
    obtain rfl := e.symm.trans e2
    simp only [s268_412, s268_415, oB_some, cl2_i, cl2_r, cl2_l, cl2_u, cl2_s, wd_0, wd_i, wd_r, wd_l, wd_f, ct_i, ct_r, ct_n, ct_f, rf_s, rf_n, tl_s, tl_n, true_and, and_true, eq_self, and_self, Nat.reduceAdd, Nat.reduceLeDiff, Nat.zero_le, Nat.reduceEqDiff, or_true, true_or, false_or, or_false, if_true, if_false, gI_0, gI_1, gI_2, gI_3, gI_4, gI_5, gI_6, gI_7, gI_8, gI_9, gI_10, gI_11, gI_12, gI_13, gI_14, gI_15, gL_0, gL_1, gL_2, gL_3, gL_4, gL_5, gL_6, gL_7, gL_8, gL_9, gL_10, gL_11, gL_12, gL_13, gL_14, gL_15, gA_0, gA_1, gA_2, gA_3, gA_4, gA_5, gA_6, gA_7, gA_8, gA_9, gA_10, gA_11, gA_12, gA_13, gA_14, gA_15, p1_0, p1_1, p1_2, p1_3, p1_4, p1_5, p1_6, p1_7, p1_8, p1_9, p1_10, p1_11, p1_12, p1_13, p1_14, p1_15, p2_0, p2_1, p2_2, p2_3, p2_4, p2_5, p2_6, p2_7, p2_8, p2_9, p2_10, p2_11, p2_12, p2_13, p2_14, p2_15, b01_ok, b_ft, b_tf, b01_e0, b01_e1, lgc_0, not_true_eq_false, not_false_eq_true]
    rw [eh]
    exact nx _ _ _ _ _ _ _ _ _ (by omega) (by omega) (a.refuse y)
  · skip
    have fa1 := f1
    have bk1 := bk1.fa fa1
    have M1 := M.fa gH fa1
    have km : hkd h1 (x + 34) = 16 := M1.1.1.1.1.1
    simp only [s268_398, s268_399, s268_400, s268_401, s268_402, s268_403, s268_404, s268_405, s268_406, s268_407, s268_408, s268_409, oB_some, cl2_i, cl2_r, cl2_l, cl2_u, cl2_s, wd_0, wd_i, wd_r, wd_l, wd_f, ct_i, ct_r, ct_n, ct_f, rf_s, rf_n, tl_s, tl_n, true_and, and_true, eq_self, and_self, Nat.reduceAdd, Nat.reduceLeDiff, Nat.zero_le, Nat.reduceEqDiff, or_true, true_or, false_or, or_false, if_true, if_false, gI_0, gI_1, gI_2, gI_3, gI_4, gI_5, gI_6, gI_7, gI_8, gI_9, gI_10, gI_11, gI_12, gI_13, gI_14, gI_15, gL_0, gL_1, gL_2, gL_3, gL_4, gL_5, gL_6, gL_7, gL_8, gL_9, gL_10, gL_11, gL_12, gL_13, gL_14, gL_15, gA_0, gA_1, gA_2, gA_3, gA_4, gA_5, gA_6, gA_7, gA_8, gA_9, gA_10, gA_11, gA_12, gA_13, gA_14, gA_15, p1_0, p1_1, p1_2, p1_3, p1_4, p1_5, p1_6, p1_7, p1_8, p1_9, p1_10, p1_11, p1_12, p1_13, p1_14, p1_15, p2_0, p2_1, p2_2, p2_3, p2_4, p2_5, p2_6, p2_7, p2_8, p2_9, p2_10, p2_11, p2_12, p2_13, p2_14, p2_15, km, bk1.2.1, bk1.2.2.1, bk1.2.2.2, s1, s2, s3, s4, s5, ix_nI u1, ix_nI u2, ix_nI u3, ix_nI u4, ix_nI u5, nI_pos' u1, nI_pos' u2, nI_pos' u3, nI_pos' u4, nI_pos' u5, v1, v2, v3, v4, v5]
    refine o_comes M1 gS gH (fun y2 e2 n2 => absurd (e2.symm.trans e) n2) fun _ h2 f2 e2 M2 => ?_
    simp only [s268_412, s268_415, oB_some, cl2_i, cl2_r, cl2_l, cl2_u, cl2_s, wd_0, wd_i, wd_r, wd_l, wd_f, ct_i, ct_r, ct_n, ct_f, rf_s, rf_n, tl_s, tl_n, true_and, and_true, eq_self, and_self, Nat.reduceAdd, Nat.reduceLeDiff, Nat.zero_le, Nat.reduceEqDiff, or_true, true_or, false_or, or_false, if_true, if_false, gI_0, gI_1, gI_2, gI_3, gI_4, gI_5, gI_6, gI_7, gI_8, gI_9, gI_10, gI_11, gI_12, gI_13, gI_14, gI_15, gL_0, gL_1, gL_2, gL_3, gL_4, gL_5, gL_6, gL_7, gL_8, gL_9, gL_10, gL_11, gL_12, gL_13, gL_14, gL_15, gA_0, gA_1, gA_2, gA_3, gA_4, gA_5, gA_6, gA_7, gA_8, gA_9, gA_10, gA_11, gA_12, gA_13, gA_14, gA_15, p1_0, p1_1, p1_2, p1_3, p1_4, p1_5, p1_6, p1_7, p1_8, p1_9, p1_10, p1_11, p1_12, p1_13, p1_14, p1_15, p2_0, p2_1, p2_2, p2_3, p2_4, p2_5, p2_6, p2_7, p2_8, p2_9, p2_10, p2_11, p2_12, p2_13, p2_14, p2_15, b01_ok, b_ft, b_tf, b01_e0, b01_e1, lgc_0, not_true_eq_false, not_false_eq_true]
    exact nx _ _ _ _ _ _ _ _ _ (by omega) (by omega) (a.step f1 e1 C1 f2 e2 M2 (gv_comes gS e) (gh_drop gH))
set_option maxHeartbeats 4000000 in
theorem lc_friend {b L x tl len i c s : Nat} {xs : Nat → Int32} {h : HP} {tp r : Nat → Nat} {S : VS} {H : HS} {Q : PQ} (a : LI b L xs h x S H tp tl r len) (hi : i + 6 ≤ L) (hL : L ≤ 3072) (hc : 12 ≤ c) (hs : 172 ≤ s)
    (nx : ∀ h' S' H' tp' tl' r' len' c' s', c ≤ c' + 12 → s ≤ s' + 172 → LI b L xs h' x S' H' tp' tl' r' len' → WP 11 268 Q (1434, [.val (.ref b), .val (.ref x), .val (.ref (x + 34)), .val (.int (nI i))], [], h', c', s')) : WP 11 268 Q (417, [.val (.ref b), .val (.ref x), .val (.ref (x + 34)), .val (.int (nI i))], [], h, c, s) := by
  have a0 := a
  obtain ⟨C, M, ⟨gS, gH⟩, rf, bk⟩ := a0
  have bk1 : SKb b L xs x h := bk
  have s1 : nI i + 1 = nI (i + 1) := nI_add i 1
  have s2 : nI i + 2 = nI (i + 2) := nI_add i 2
  have s3 : nI i + 3 = nI (i + 3) := nI_add i 3
  have s4 : nI i + 4 = nI (i + 4) := nI_add i 4
  have s5 : nI i + 5 = nI (i + 5) := nI_add i 5
  have u1 : i + 1 < 2 ^ 31 := by omega
  have u2 : i + 2 < 2 ^ 31 := by omega
  have u3 : i + 3 < 2 ^ 31 := by omega
  have u4 : i + 4 < 2 ^ 31 := by omega
  have u5 : i + 5 < 2 ^ 31 := by omega
  have v1 : i + 1 < L := by omega
  have v2 : i + 2 < L := by omega
  have v3 : i + 3 < L := by omega
  have v4 : i + 4 < L := by omega
  have v5 : i + 5 < L := by omega
  have kx : hkd h x = 15 := C.1.1.1.1
  simp only [s268_417, s268_418, s268_419, s268_420, s268_421, s268_422, s268_423, s268_424, s268_425, s268_426, s268_427, s268_428, oB_some, cl2_i, cl2_r, cl2_l, cl2_u, cl2_s, wd_0, wd_i, wd_r, wd_l, wd_f, ct_i, ct_r, ct_n, ct_f, rf_s, rf_n, tl_s, tl_n, true_and, and_true, eq_self, and_self, Nat.reduceAdd, Nat.reduceLeDiff, Nat.zero_le, Nat.reduceEqDiff, or_true, true_or, false_or, or_false, if_true, if_false, gI_0, gI_1, gI_2, gI_3, gI_4, gI_5, gI_6, gI_7, gI_8, gI_9, gI_10, gI_11, gI_12, gI_13, gI_14, gI_15, gL_0, gL_1, gL_2, gL_3, gL_4, gL_5, gL_6, gL_7, gL_8, gL_9, gL_10, gL_11, gL_12, gL_13, gL_14, gL_15, gA_0, gA_1, gA_2, gA_3, gA_4, gA_5, gA_6, gA_7, gA_8, gA_9, gA_10, gA_11, gA_12, gA_13, gA_14, gA_15, p1_0, p1_1, p1_2, p1_3, p1_4, p1_5, p1_6, p1_7, p1_8, p1_9, p1_10, p1_11, p1_12, p1_13, p1_14, p1_15, p2_0, p2_1, p2_2, p2_3, p2_4, p2_5, p2_6, p2_7, p2_8, p2_9, p2_10, p2_11, p2_12, p2_13, p2_14, p2_15, kx, hc, hs, bk1.2.1, bk1.2.2.1, bk1.2.2.2, s1, s2, s3, s4, s5, ix_nI u1, ix_nI u2, ix_nI u3, ix_nI u4, ix_nI u5, nI_pos' u1, nI_pos' u2, nI_pos' u3, nI_pos' u4, nI_pos' u5, v1, v2, v3, v4, v5]
  refine x_friend C gS gH (fun y e y0 => ?_) fun e h1 f1 e1 C1 => ?_
  · skip
    obtain ⟨h1, eh⟩ : ∃ z, z = RfC h x y := ⟨_, rfl⟩
    have fa1 : FA x h h1 := by rw [eh]; exact RfC.fa
    rw [← eh]
    have bk1 := bk1.fa fa1
    have M1 := M.fa gH fa1
    have km : hkd h1 (x + 34) = 16 := M1.1.1.1.1.1
    simp only [s268_431, s268_432, s268_433, s268_434, s268_435, s268_436, s268_437, s268_438, s268_439, s268_440, s268_441, s268_442, oB_some, cl2_i, cl2_r, cl2_l, cl2_u, cl2_s, wd_0, wd_i, wd_r, wd_l, wd_f, ct_i, ct_r, ct_n, ct_f, rf_s, rf_n, tl_s, tl_n, true_and, and_true, eq_self, and_self, Nat.reduceAdd, Nat.reduceLeDiff, Nat.zero_le, Nat.reduceEqDiff, or_true, true_or, false_or, or_false, if_true, if_false, gI_0, gI_1, gI_2, gI_3, gI_4, gI_5, gI_6, gI_7, gI_8, gI_9, gI_10, gI_11, gI_12, gI_13, gI_14, gI_15, gL_0, gL_1, gL_2, gL_3, gL_4, gL_5, gL_6, gL_7, gL_8, gL_9, gL_10, gL_11, gL_12, gL_13, gL_14, gL_15, gA_0, gA_1, gA_2, gA_3, gA_4, gA_5, gA_6, gA_7, gA_8, gA_9, gA_10, gA_11, gA_12, gA_13, gA_14, gA_15, p1_0, p1_1, p1_2, p1_3, p1_4, p1_5, p1_6, p1_7, p1_8, p1_9, p1_10, p1_11, p1_12, p1_13, p1_14, p1_15, p2_0, p2_1, p2_2, p2_3, p2_4, p2_5, p2_6, p2_7, p2_8, p2_9, p2_10, p2_11, p2_12, p2_13, p2_14, p2_15, km, bk1.2.1, bk1.2.2.1, bk1.2.2.2, s1, s2, s3, s4, s5, ix_nI u1, ix_nI u2, ix_nI u3, ix_nI u4, ix_nI u5, nI_pos' u1, nI_pos' u2, nI_pos' u3, nI_pos' u4, nI_pos' u5, v1, v2, v3, v4, v5]
    refine o_friend M1 gS gH (fun y2 e2 n2 => ?_) fun e2 => absurd (e.symm.trans e2) y0
    obtain rfl := e.symm.trans e2
    simp only [s268_445, s268_448, oB_some, cl2_i, cl2_r, cl2_l, cl2_u, cl2_s, wd_0, wd_i, wd_r, wd_l, wd_f, ct_i, ct_r, ct_n, ct_f, rf_s, rf_n, tl_s, tl_n, true_and, and_true, eq_self, and_self, Nat.reduceAdd, Nat.reduceLeDiff, Nat.zero_le, Nat.reduceEqDiff, or_true, true_or, false_or, or_false, if_true, if_false, gI_0, gI_1, gI_2, gI_3, gI_4, gI_5, gI_6, gI_7, gI_8, gI_9, gI_10, gI_11, gI_12, gI_13, gI_14, gI_15, gL_0, gL_1, gL_2, gL_3, gL_4, gL_5, gL_6, gL_7, gL_8, gL_9, gL_10, gL_11, gL_12, gL_13, gL_14, gL_15, gA_0, gA_1, gA_2, gA_3, gA_4, gA_5, gA_6, gA_7, gA_8, gA_9, gA_10, gA_11, gA_12, gA_13, gA_14, gA_15, p1_0, p1_1, p1_2, p1_3, p1_4, p1_5, p1_6, p1_7, p1_8, p1_9, p1_10, p1_11, p1_12, p1_13, p1_14, p1_15, p2_0, p2_1, p2_2, p2_3, p2_4, p2_5, p2_6, p2_7, p2_8, p2_9, p2_10, p2_11, p2_12, p2_13, p2_14, p2_15, b01_ok, b_ft, b_tf, b01_e0, b01_e1, lgc_0, not_true_eq_false, not_false_eq_true]
    rw [eh]
    exact nx _ _ _ _ _ _ _ _ _ (by omega) (by omega) (a.refuse y)
  · skip
    have fa1 := f1
    have bk1 := bk1.fa fa1
    have M1 := M.fa gH fa1
    have km : hkd h1 (x + 34) = 16 := M1.1.1.1.1.1
    simp only [s268_431, s268_432, s268_433, s268_434, s268_435, s268_436, s268_437, s268_438, s268_439, s268_440, s268_441, s268_442, oB_some, cl2_i, cl2_r, cl2_l, cl2_u, cl2_s, wd_0, wd_i, wd_r, wd_l, wd_f, ct_i, ct_r, ct_n, ct_f, rf_s, rf_n, tl_s, tl_n, true_and, and_true, eq_self, and_self, Nat.reduceAdd, Nat.reduceLeDiff, Nat.zero_le, Nat.reduceEqDiff, or_true, true_or, false_or, or_false, if_true, if_false, gI_0, gI_1, gI_2, gI_3, gI_4, gI_5, gI_6, gI_7, gI_8, gI_9, gI_10, gI_11, gI_12, gI_13, gI_14, gI_15, gL_0, gL_1, gL_2, gL_3, gL_4, gL_5, gL_6, gL_7, gL_8, gL_9, gL_10, gL_11, gL_12, gL_13, gL_14, gL_15, gA_0, gA_1, gA_2, gA_3, gA_4, gA_5, gA_6, gA_7, gA_8, gA_9, gA_10, gA_11, gA_12, gA_13, gA_14, gA_15, p1_0, p1_1, p1_2, p1_3, p1_4, p1_5, p1_6, p1_7, p1_8, p1_9, p1_10, p1_11, p1_12, p1_13, p1_14, p1_15, p2_0, p2_1, p2_2, p2_3, p2_4, p2_5, p2_6, p2_7, p2_8, p2_9, p2_10, p2_11, p2_12, p2_13, p2_14, p2_15, km, bk1.2.1, bk1.2.2.1, bk1.2.2.2, s1, s2, s3, s4, s5, ix_nI u1, ix_nI u2, ix_nI u3, ix_nI u4, ix_nI u5, nI_pos' u1, nI_pos' u2, nI_pos' u3, nI_pos' u4, nI_pos' u5, v1, v2, v3, v4, v5]
    refine o_friend M1 gS gH (fun y2 e2 n2 => absurd (e2.symm.trans e) n2) fun _ h2 f2 e2 M2 => ?_
    simp only [s268_445, s268_448, oB_some, cl2_i, cl2_r, cl2_l, cl2_u, cl2_s, wd_0, wd_i, wd_r, wd_l, wd_f, ct_i, ct_r, ct_n, ct_f, rf_s, rf_n, tl_s, tl_n, true_and, and_true, eq_self, and_self, Nat.reduceAdd, Nat.reduceLeDiff, Nat.zero_le, Nat.reduceEqDiff, or_true, true_or, false_or, or_false, if_true, if_false, gI_0, gI_1, gI_2, gI_3, gI_4, gI_5, gI_6, gI_7, gI_8, gI_9, gI_10, gI_11, gI_12, gI_13, gI_14, gI_15, gL_0, gL_1, gL_2, gL_3, gL_4, gL_5, gL_6, gL_7, gL_8, gL_9, gL_10, gL_11, gL_12, gL_13, gL_14, gL_15, gA_0, gA_1, gA_2, gA_3, gA_4, gA_5, gA_6, gA_7, gA_8, gA_9, gA_10, gA_11, gA_12, gA_13, gA_14, gA_15, p1_0, p1_1, p1_2, p1_3, p1_4, p1_5, p1_6, p1_7, p1_8, p1_9, p1_10, p1_11, p1_12, p1_13, p1_14, p1_15, p2_0, p2_1, p2_2, p2_3, p2_4, p2_5, p2_6, p2_7, p2_8, p2_9, p2_10, p2_11, p2_12, p2_13, p2_14, p2_15, b01_ok, b_ft, b_tf, b01_e0, b01_e1, lgc_0, not_true_eq_false, not_false_eq_true]
    exact nx _ _ _ _ _ _ _ _ _ (by omega) (by omega) (a.step f1 e1 C1 f2 e2 M2 (gv_friend gS e) (GH_push gH gS))
set_option maxHeartbeats 4000000 in
theorem lc_tells {b L x tl len i c s : Nat} {xs : Nat → Int32} {h : HP} {tp r : Nat → Nat} {S : VS} {H : HS} {Q : PQ} (a : LI b L xs h x S H tp tl r len) (hi : i + 6 ≤ L) (hL : L ≤ 3072) (hc : 12 ≤ c) (hs : 172 ≤ s)
    (nx : ∀ h' S' H' tp' tl' r' len' c' s', c ≤ c' + 12 → s ≤ s' + 172 → LI b L xs h' x S' H' tp' tl' r' len' → WP 11 268 Q (1434, [.val (.ref b), .val (.ref x), .val (.ref (x + 34)), .val (.int (nI i))], [], h', c', s')) : WP 11 268 Q (450, [.val (.ref b), .val (.ref x), .val (.ref (x + 34)), .val (.int (nI i))], [], h, c, s) := by
  have a0 := a
  obtain ⟨C, M, ⟨gS, gH⟩, rf, bk⟩ := a0
  have bk1 : SKb b L xs x h := bk
  have s1 : nI i + 1 = nI (i + 1) := nI_add i 1
  have s2 : nI i + 2 = nI (i + 2) := nI_add i 2
  have s3 : nI i + 3 = nI (i + 3) := nI_add i 3
  have s4 : nI i + 4 = nI (i + 4) := nI_add i 4
  have s5 : nI i + 5 = nI (i + 5) := nI_add i 5
  have u1 : i + 1 < 2 ^ 31 := by omega
  have u2 : i + 2 < 2 ^ 31 := by omega
  have u3 : i + 3 < 2 ^ 31 := by omega
  have u4 : i + 4 < 2 ^ 31 := by omega
  have u5 : i + 5 < 2 ^ 31 := by omega
  have v1 : i + 1 < L := by omega
  have v2 : i + 2 < L := by omega
  have v3 : i + 3 < L := by omega
  have v4 : i + 4 < L := by omega
  have v5 : i + 5 < L := by omega
  have kx : hkd h x = 15 := C.1.1.1.1
  simp only [s268_450, s268_451, s268_452, s268_453, s268_454, s268_455, s268_456, s268_457, s268_458, s268_459, s268_460, s268_461, oB_some, cl2_i, cl2_r, cl2_l, cl2_u, cl2_s, wd_0, wd_i, wd_r, wd_l, wd_f, ct_i, ct_r, ct_n, ct_f, rf_s, rf_n, tl_s, tl_n, true_and, and_true, eq_self, and_self, Nat.reduceAdd, Nat.reduceLeDiff, Nat.zero_le, Nat.reduceEqDiff, or_true, true_or, false_or, or_false, if_true, if_false, gI_0, gI_1, gI_2, gI_3, gI_4, gI_5, gI_6, gI_7, gI_8, gI_9, gI_10, gI_11, gI_12, gI_13, gI_14, gI_15, gL_0, gL_1, gL_2, gL_3, gL_4, gL_5, gL_6, gL_7, gL_8, gL_9, gL_10, gL_11, gL_12, gL_13, gL_14, gL_15, gA_0, gA_1, gA_2, gA_3, gA_4, gA_5, gA_6, gA_7, gA_8, gA_9, gA_10, gA_11, gA_12, gA_13, gA_14, gA_15, p1_0, p1_1, p1_2, p1_3, p1_4, p1_5, p1_6, p1_7, p1_8, p1_9, p1_10, p1_11, p1_12, p1_13, p1_14, p1_15, p2_0, p2_1, p2_2, p2_3, p2_4, p2_5, p2_6, p2_7, p2_8, p2_9, p2_10, p2_11, p2_12, p2_13, p2_14, p2_15, kx, hc, hs, bk1.2.1, bk1.2.2.1, bk1.2.2.2, s1, s2, s3, s4, s5, ix_nI u1, ix_nI u2, ix_nI u3, ix_nI u4, ix_nI u5, nI_pos' u1, nI_pos' u2, nI_pos' u3, nI_pos' u4, nI_pos' u5, v1, v2, v3, v4, v5]
  refine x_tells C gS gH (fun y e y0 => ?_) fun e h1 f1 e1 C1 => ?_
  · skip
    obtain ⟨h1, eh⟩ : ∃ z, z = RfC h x y := ⟨_, rfl⟩
    have fa1 : FA x h h1 := by rw [eh]; exact RfC.fa
    rw [← eh]
    have bk1 := bk1.fa fa1
    have M1 := M.fa gH fa1
    have km : hkd h1 (x + 34) = 16 := M1.1.1.1.1.1
    simp only [s268_464, s268_465, s268_466, s268_467, s268_468, s268_469, s268_470, s268_471, s268_472, s268_473, s268_474, s268_475, oB_some, cl2_i, cl2_r, cl2_l, cl2_u, cl2_s, wd_0, wd_i, wd_r, wd_l, wd_f, ct_i, ct_r, ct_n, ct_f, rf_s, rf_n, tl_s, tl_n, true_and, and_true, eq_self, and_self, Nat.reduceAdd, Nat.reduceLeDiff, Nat.zero_le, Nat.reduceEqDiff, or_true, true_or, false_or, or_false, if_true, if_false, gI_0, gI_1, gI_2, gI_3, gI_4, gI_5, gI_6, gI_7, gI_8, gI_9, gI_10, gI_11, gI_12, gI_13, gI_14, gI_15, gL_0, gL_1, gL_2, gL_3, gL_4, gL_5, gL_6, gL_7, gL_8, gL_9, gL_10, gL_11, gL_12, gL_13, gL_14, gL_15, gA_0, gA_1, gA_2, gA_3, gA_4, gA_5, gA_6, gA_7, gA_8, gA_9, gA_10, gA_11, gA_12, gA_13, gA_14, gA_15, p1_0, p1_1, p1_2, p1_3, p1_4, p1_5, p1_6, p1_7, p1_8, p1_9, p1_10, p1_11, p1_12, p1_13, p1_14, p1_15, p2_0, p2_1, p2_2, p2_3, p2_4, p2_5, p2_6, p2_7, p2_8, p2_9, p2_10, p2_11, p2_12, p2_13, p2_14, p2_15, km, bk1.2.1, bk1.2.2.1, bk1.2.2.2, s1, s2, s3, s4, s5, ix_nI u1, ix_nI u2, ix_nI u3, ix_nI u4, ix_nI u5, nI_pos' u1, nI_pos' u2, nI_pos' u3, nI_pos' u4, nI_pos' u5, v1, v2, v3, v4, v5]
    refine o_tells M1 gS gH (fun y2 e2 n2 => ?_) fun e2 => absurd (e.symm.trans e2) y0
    obtain rfl := e.symm.trans e2
    simp only [s268_478, s268_481, oB_some, cl2_i, cl2_r, cl2_l, cl2_u, cl2_s, wd_0, wd_i, wd_r, wd_l, wd_f, ct_i, ct_r, ct_n, ct_f, rf_s, rf_n, tl_s, tl_n, true_and, and_true, eq_self, and_self, Nat.reduceAdd, Nat.reduceLeDiff, Nat.zero_le, Nat.reduceEqDiff, or_true, true_or, false_or, or_false, if_true, if_false, gI_0, gI_1, gI_2, gI_3, gI_4, gI_5, gI_6, gI_7, gI_8, gI_9, gI_10, gI_11, gI_12, gI_13, gI_14, gI_15, gL_0, gL_1, gL_2, gL_3, gL_4, gL_5, gL_6, gL_7, gL_8, gL_9, gL_10, gL_11, gL_12, gL_13, gL_14, gL_15, gA_0, gA_1, gA_2, gA_3, gA_4, gA_5, gA_6, gA_7, gA_8, gA_9, gA_10, gA_11, gA_12, gA_13, gA_14, gA_15, p1_0, p1_1, p1_2, p1_3, p1_4, p1_5, p1_6, p1_7, p1_8, p1_9, p1_10, p1_11, p1_12, p1_13, p1_14, p1_15, p2_0, p2_1, p2_2, p2_3, p2_4, p2_5, p2_6, p2_7, p2_8, p2_9, p2_10, p2_11, p2_12, p2_13, p2_14, p2_15, b01_ok, b_ft, b_tf, b01_e0, b01_e1, lgc_0, not_true_eq_false, not_false_eq_true]
    rw [eh]
    exact nx _ _ _ _ _ _ _ _ _ (by omega) (by omega) (a.refuse y)
  · skip
    have fa1 := f1
    have bk1 := bk1.fa fa1
    have M1 := M.fa gH fa1
    have km : hkd h1 (x + 34) = 16 := M1.1.1.1.1.1
    simp only [s268_464, s268_465, s268_466, s268_467, s268_468, s268_469, s268_470, s268_471, s268_472, s268_473, s268_474, s268_475, oB_some, cl2_i, cl2_r, cl2_l, cl2_u, cl2_s, wd_0, wd_i, wd_r, wd_l, wd_f, ct_i, ct_r, ct_n, ct_f, rf_s, rf_n, tl_s, tl_n, true_and, and_true, eq_self, and_self, Nat.reduceAdd, Nat.reduceLeDiff, Nat.zero_le, Nat.reduceEqDiff, or_true, true_or, false_or, or_false, if_true, if_false, gI_0, gI_1, gI_2, gI_3, gI_4, gI_5, gI_6, gI_7, gI_8, gI_9, gI_10, gI_11, gI_12, gI_13, gI_14, gI_15, gL_0, gL_1, gL_2, gL_3, gL_4, gL_5, gL_6, gL_7, gL_8, gL_9, gL_10, gL_11, gL_12, gL_13, gL_14, gL_15, gA_0, gA_1, gA_2, gA_3, gA_4, gA_5, gA_6, gA_7, gA_8, gA_9, gA_10, gA_11, gA_12, gA_13, gA_14, gA_15, p1_0, p1_1, p1_2, p1_3, p1_4, p1_5, p1_6, p1_7, p1_8, p1_9, p1_10, p1_11, p1_12, p1_13, p1_14, p1_15, p2_0, p2_1, p2_2, p2_3, p2_4, p2_5, p2_6, p2_7, p2_8, p2_9, p2_10, p2_11, p2_12, p2_13, p2_14, p2_15, km, bk1.2.1, bk1.2.2.1, bk1.2.2.2, s1, s2, s3, s4, s5, ix_nI u1, ix_nI u2, ix_nI u3, ix_nI u4, ix_nI u5, nI_pos' u1, nI_pos' u2, nI_pos' u3, nI_pos' u4, nI_pos' u5, v1, v2, v3, v4, v5]
    refine o_tells M1 gS gH (fun y2 e2 n2 => absurd (e2.symm.trans e) n2) fun _ h2 f2 e2 M2 => ?_
    simp only [s268_478, s268_481, oB_some, cl2_i, cl2_r, cl2_l, cl2_u, cl2_s, wd_0, wd_i, wd_r, wd_l, wd_f, ct_i, ct_r, ct_n, ct_f, rf_s, rf_n, tl_s, tl_n, true_and, and_true, eq_self, and_self, Nat.reduceAdd, Nat.reduceLeDiff, Nat.zero_le, Nat.reduceEqDiff, or_true, true_or, false_or, or_false, if_true, if_false, gI_0, gI_1, gI_2, gI_3, gI_4, gI_5, gI_6, gI_7, gI_8, gI_9, gI_10, gI_11, gI_12, gI_13, gI_14, gI_15, gL_0, gL_1, gL_2, gL_3, gL_4, gL_5, gL_6, gL_7, gL_8, gL_9, gL_10, gL_11, gL_12, gL_13, gL_14, gL_15, gA_0, gA_1, gA_2, gA_3, gA_4, gA_5, gA_6, gA_7, gA_8, gA_9, gA_10, gA_11, gA_12, gA_13, gA_14, gA_15, p1_0, p1_1, p1_2, p1_3, p1_4, p1_5, p1_6, p1_7, p1_8, p1_9, p1_10, p1_11, p1_12, p1_13, p1_14, p1_15, p2_0, p2_1, p2_2, p2_3, p2_4, p2_5, p2_6, p2_7, p2_8, p2_9, p2_10, p2_11, p2_12, p2_13, p2_14, p2_15, b01_ok, b_ft, b_tf, b01_e0, b01_e1, lgc_0, not_true_eq_false, not_false_eq_true]
    exact nx _ _ _ _ _ _ _ _ _ (by omega) (by omega) (a.step f1 e1 C1 f2 e2 M2 (gv_tells gS e) (GH_push gH gS))
set_option maxHeartbeats 4000000 in
theorem lc_forbids {b L x tl len i c s : Nat} {xs : Nat → Int32} {h : HP} {tp r : Nat → Nat} {S : VS} {H : HS} {Q : PQ} (a : LI b L xs h x S H tp tl r len) (hi : i + 6 ≤ L) (hL : L ≤ 3072) (hc : 12 ≤ c) (hs : 172 ≤ s)
    (nx : ∀ h' S' H' tp' tl' r' len' c' s', c ≤ c' + 12 → s ≤ s' + 172 → LI b L xs h' x S' H' tp' tl' r' len' → WP 11 268 Q (1434, [.val (.ref b), .val (.ref x), .val (.ref (x + 34)), .val (.int (nI i))], [], h', c', s')) : WP 11 268 Q (483, [.val (.ref b), .val (.ref x), .val (.ref (x + 34)), .val (.int (nI i))], [], h, c, s) := by
  have a0 := a
  obtain ⟨C, M, ⟨gS, gH⟩, rf, bk⟩ := a0
  have bk1 : SKb b L xs x h := bk
  have s1 : nI i + 1 = nI (i + 1) := nI_add i 1
  have s2 : nI i + 2 = nI (i + 2) := nI_add i 2
  have s3 : nI i + 3 = nI (i + 3) := nI_add i 3
  have s4 : nI i + 4 = nI (i + 4) := nI_add i 4
  have s5 : nI i + 5 = nI (i + 5) := nI_add i 5
  have u1 : i + 1 < 2 ^ 31 := by omega
  have u2 : i + 2 < 2 ^ 31 := by omega
  have u3 : i + 3 < 2 ^ 31 := by omega
  have u4 : i + 4 < 2 ^ 31 := by omega
  have u5 : i + 5 < 2 ^ 31 := by omega
  have v1 : i + 1 < L := by omega
  have v2 : i + 2 < L := by omega
  have v3 : i + 3 < L := by omega
  have v4 : i + 4 < L := by omega
  have v5 : i + 5 < L := by omega
  have kx : hkd h x = 15 := C.1.1.1.1
  simp only [s268_483, s268_484, s268_485, s268_486, s268_487, s268_488, s268_489, oB_some, cl2_i, cl2_r, cl2_l, cl2_u, cl2_s, wd_0, wd_i, wd_r, wd_l, wd_f, ct_i, ct_r, ct_n, ct_f, rf_s, rf_n, tl_s, tl_n, true_and, and_true, eq_self, and_self, Nat.reduceAdd, Nat.reduceLeDiff, Nat.zero_le, Nat.reduceEqDiff, or_true, true_or, false_or, or_false, if_true, if_false, gI_0, gI_1, gI_2, gI_3, gI_4, gI_5, gI_6, gI_7, gI_8, gI_9, gI_10, gI_11, gI_12, gI_13, gI_14, gI_15, gL_0, gL_1, gL_2, gL_3, gL_4, gL_5, gL_6, gL_7, gL_8, gL_9, gL_10, gL_11, gL_12, gL_13, gL_14, gL_15, gA_0, gA_1, gA_2, gA_3, gA_4, gA_5, gA_6, gA_7, gA_8, gA_9, gA_10, gA_11, gA_12, gA_13, gA_14, gA_15, p1_0, p1_1, p1_2, p1_3, p1_4, p1_5, p1_6, p1_7, p1_8, p1_9, p1_10, p1_11, p1_12, p1_13, p1_14, p1_15, p2_0, p2_1, p2_2, p2_3, p2_4, p2_5, p2_6, p2_7, p2_8, p2_9, p2_10, p2_11, p2_12, p2_13, p2_14, p2_15, kx, hc, hs, bk1.2.1, bk1.2.2.1, bk1.2.2.2, s1, s2, s3, s4, s5, ix_nI u1, ix_nI u2, ix_nI u3, ix_nI u4, ix_nI u5, nI_pos' u1, nI_pos' u2, nI_pos' u3, nI_pos' u4, nI_pos' u5, v1, v2, v3, v4, v5]
  refine x_forbids C gS gH (fun y e y0 => ?_) fun e h1 f1 e1 C1 => ?_
  · skip
    obtain ⟨h1, eh⟩ : ∃ z, z = RfC h x y := ⟨_, rfl⟩
    have fa1 : FA x h h1 := by rw [eh]; exact RfC.fa
    rw [← eh]
    have bk1 := bk1.fa fa1
    have M1 := M.fa gH fa1
    have km : hkd h1 (x + 34) = 16 := M1.1.1.1.1.1
    simp only [s268_492, s268_493, s268_494, s268_495, s268_496, s268_497, s268_498, oB_some, cl2_i, cl2_r, cl2_l, cl2_u, cl2_s, wd_0, wd_i, wd_r, wd_l, wd_f, ct_i, ct_r, ct_n, ct_f, rf_s, rf_n, tl_s, tl_n, true_and, and_true, eq_self, and_self, Nat.reduceAdd, Nat.reduceLeDiff, Nat.zero_le, Nat.reduceEqDiff, or_true, true_or, false_or, or_false, if_true, if_false, gI_0, gI_1, gI_2, gI_3, gI_4, gI_5, gI_6, gI_7, gI_8, gI_9, gI_10, gI_11, gI_12, gI_13, gI_14, gI_15, gL_0, gL_1, gL_2, gL_3, gL_4, gL_5, gL_6, gL_7, gL_8, gL_9, gL_10, gL_11, gL_12, gL_13, gL_14, gL_15, gA_0, gA_1, gA_2, gA_3, gA_4, gA_5, gA_6, gA_7, gA_8, gA_9, gA_10, gA_11, gA_12, gA_13, gA_14, gA_15, p1_0, p1_1, p1_2, p1_3, p1_4, p1_5, p1_6, p1_7, p1_8, p1_9, p1_10, p1_11, p1_12, p1_13, p1_14, p1_15, p2_0, p2_1, p2_2, p2_3, p2_4, p2_5, p2_6, p2_7, p2_8, p2_9, p2_10, p2_11, p2_12, p2_13, p2_14, p2_15, km, bk1.2.1, bk1.2.2.1, bk1.2.2.2, s1, s2, s3, s4, s5, ix_nI u1, ix_nI u2, ix_nI u3, ix_nI u4, ix_nI u5, nI_pos' u1, nI_pos' u2, nI_pos' u3, nI_pos' u4, nI_pos' u5, v1, v2, v3, v4, v5]
    refine o_forbids M1 gS gH (fun y2 e2 n2 => ?_) fun e2 => absurd (e.symm.trans e2) y0
    obtain rfl := e.symm.trans e2
    simp only [s268_501, s268_504, oB_some, cl2_i, cl2_r, cl2_l, cl2_u, cl2_s, wd_0, wd_i, wd_r, wd_l, wd_f, ct_i, ct_r, ct_n, ct_f, rf_s, rf_n, tl_s, tl_n, true_and, and_true, eq_self, and_self, Nat.reduceAdd, Nat.reduceLeDiff, Nat.zero_le, Nat.reduceEqDiff, or_true, true_or, false_or, or_false, if_true, if_false, gI_0, gI_1, gI_2, gI_3, gI_4, gI_5, gI_6, gI_7, gI_8, gI_9, gI_10, gI_11, gI_12, gI_13, gI_14, gI_15, gL_0, gL_1, gL_2, gL_3, gL_4, gL_5, gL_6, gL_7, gL_8, gL_9, gL_10, gL_11, gL_12, gL_13, gL_14, gL_15, gA_0, gA_1, gA_2, gA_3, gA_4, gA_5, gA_6, gA_7, gA_8, gA_9, gA_10, gA_11, gA_12, gA_13, gA_14, gA_15, p1_0, p1_1, p1_2, p1_3, p1_4, p1_5, p1_6, p1_7, p1_8, p1_9, p1_10, p1_11, p1_12, p1_13, p1_14, p1_15, p2_0, p2_1, p2_2, p2_3, p2_4, p2_5, p2_6, p2_7, p2_8, p2_9, p2_10, p2_11, p2_12, p2_13, p2_14, p2_15, b01_ok, b_ft, b_tf, b01_e0, b01_e1, lgc_0, not_true_eq_false, not_false_eq_true]
    rw [eh]
    exact nx _ _ _ _ _ _ _ _ _ (by omega) (by omega) (a.refuse y)
  · skip
    have fa1 := f1
    have bk1 := bk1.fa fa1
    have M1 := M.fa gH fa1
    have km : hkd h1 (x + 34) = 16 := M1.1.1.1.1.1
    simp only [s268_492, s268_493, s268_494, s268_495, s268_496, s268_497, s268_498, oB_some, cl2_i, cl2_r, cl2_l, cl2_u, cl2_s, wd_0, wd_i, wd_r, wd_l, wd_f, ct_i, ct_r, ct_n, ct_f, rf_s, rf_n, tl_s, tl_n, true_and, and_true, eq_self, and_self, Nat.reduceAdd, Nat.reduceLeDiff, Nat.zero_le, Nat.reduceEqDiff, or_true, true_or, false_or, or_false, if_true, if_false, gI_0, gI_1, gI_2, gI_3, gI_4, gI_5, gI_6, gI_7, gI_8, gI_9, gI_10, gI_11, gI_12, gI_13, gI_14, gI_15, gL_0, gL_1, gL_2, gL_3, gL_4, gL_5, gL_6, gL_7, gL_8, gL_9, gL_10, gL_11, gL_12, gL_13, gL_14, gL_15, gA_0, gA_1, gA_2, gA_3, gA_4, gA_5, gA_6, gA_7, gA_8, gA_9, gA_10, gA_11, gA_12, gA_13, gA_14, gA_15, p1_0, p1_1, p1_2, p1_3, p1_4, p1_5, p1_6, p1_7, p1_8, p1_9, p1_10, p1_11, p1_12, p1_13, p1_14, p1_15, p2_0, p2_1, p2_2, p2_3, p2_4, p2_5, p2_6, p2_7, p2_8, p2_9, p2_10, p2_11, p2_12, p2_13, p2_14, p2_15, km, bk1.2.1, bk1.2.2.1, bk1.2.2.2, s1, s2, s3, s4, s5, ix_nI u1, ix_nI u2, ix_nI u3, ix_nI u4, ix_nI u5, nI_pos' u1, nI_pos' u2, nI_pos' u3, nI_pos' u4, nI_pos' u5, v1, v2, v3, v4, v5]
    refine o_forbids M1 gS gH (fun y2 e2 n2 => absurd (e2.symm.trans e) n2) fun _ h2 f2 e2 M2 => ?_
    simp only [s268_501, s268_504, oB_some, cl2_i, cl2_r, cl2_l, cl2_u, cl2_s, wd_0, wd_i, wd_r, wd_l, wd_f, ct_i, ct_r, ct_n, ct_f, rf_s, rf_n, tl_s, tl_n, true_and, and_true, eq_self, and_self, Nat.reduceAdd, Nat.reduceLeDiff, Nat.zero_le, Nat.reduceEqDiff, or_true, true_or, false_or, or_false, if_true, if_false, gI_0, gI_1, gI_2, gI_3, gI_4, gI_5, gI_6, gI_7, gI_8, gI_9, gI_10, gI_11, gI_12, gI_13, gI_14, gI_15, gL_0, gL_1, gL_2, gL_3, gL_4, gL_5, gL_6, gL_7, gL_8, gL_9, gL_10, gL_11, gL_12, gL_13, gL_14, gL_15, gA_0, gA_1, gA_2, gA_3, gA_4, gA_5, gA_6, gA_7, gA_8, gA_9, gA_10, gA_11, gA_12, gA_13, gA_14, gA_15, p1_0, p1_1, p1_2, p1_3, p1_4, p1_5, p1_6, p1_7, p1_8, p1_9, p1_10, p1_11, p1_12, p1_13, p1_14, p1_15, p2_0, p2_1, p2_2, p2_3, p2_4, p2_5, p2_6, p2_7, p2_8, p2_9, p2_10, p2_11, p2_12, p2_13, p2_14, p2_15, b01_ok, b_ft, b_tf, b01_e0, b01_e1, lgc_0, not_true_eq_false, not_false_eq_true]
    exact nx _ _ _ _ _ _ _ _ _ (by omega) (by omega) (a.step f1 e1 C1 f2 e2 M2 (gv_forbids gS e) (GH_push gH gS))
set_option maxHeartbeats 4000000 in
theorem lc_rubber {b L x tl len i c s : Nat} {xs : Nat → Int32} {h : HP} {tp r : Nat → Nat} {S : VS} {H : HS} {Q : PQ} (a : LI b L xs h x S H tp tl r len) (hi : i + 6 ≤ L) (hL : L ≤ 3072) (hc : 12 ≤ c) (hs : 172 ≤ s)
    (nx : ∀ h' S' H' tp' tl' r' len' c' s', c ≤ c' + 12 → s ≤ s' + 172 → LI b L xs h' x S' H' tp' tl' r' len' → WP 11 268 Q (1434, [.val (.ref b), .val (.ref x), .val (.ref (x + 34)), .val (.int (nI i))], [], h', c', s')) : WP 11 268 Q (506, [.val (.ref b), .val (.ref x), .val (.ref (x + 34)), .val (.int (nI i))], [], h, c, s) := by
  have a0 := a
  obtain ⟨C, M, ⟨gS, gH⟩, rf, bk⟩ := a0
  have bk1 : SKb b L xs x h := bk
  have s1 : nI i + 1 = nI (i + 1) := nI_add i 1
  have s2 : nI i + 2 = nI (i + 2) := nI_add i 2
  have s3 : nI i + 3 = nI (i + 3) := nI_add i 3
  have s4 : nI i + 4 = nI (i + 4) := nI_add i 4
  have s5 : nI i + 5 = nI (i + 5) := nI_add i 5
  have u1 : i + 1 < 2 ^ 31 := by omega
  have u2 : i + 2 < 2 ^ 31 := by omega
  have u3 : i + 3 < 2 ^ 31 := by omega
  have u4 : i + 4 < 2 ^ 31 := by omega
  have u5 : i + 5 < 2 ^ 31 := by omega
  have v1 : i + 1 < L := by omega
  have v2 : i + 2 < L := by omega
  have v3 : i + 3 < L := by omega
  have v4 : i + 4 < L := by omega
  have v5 : i + 5 < L := by omega
  have kx : hkd h x = 15 := C.1.1.1.1
  simp only [s268_506, s268_507, s268_508, s268_509, s268_510, s268_511, s268_512, oB_some, cl2_i, cl2_r, cl2_l, cl2_u, cl2_s, wd_0, wd_i, wd_r, wd_l, wd_f, ct_i, ct_r, ct_n, ct_f, rf_s, rf_n, tl_s, tl_n, true_and, and_true, eq_self, and_self, Nat.reduceAdd, Nat.reduceLeDiff, Nat.zero_le, Nat.reduceEqDiff, or_true, true_or, false_or, or_false, if_true, if_false, gI_0, gI_1, gI_2, gI_3, gI_4, gI_5, gI_6, gI_7, gI_8, gI_9, gI_10, gI_11, gI_12, gI_13, gI_14, gI_15, gL_0, gL_1, gL_2, gL_3, gL_4, gL_5, gL_6, gL_7, gL_8, gL_9, gL_10, gL_11, gL_12, gL_13, gL_14, gL_15, gA_0, gA_1, gA_2, gA_3, gA_4, gA_5, gA_6, gA_7, gA_8, gA_9, gA_10, gA_11, gA_12, gA_13, gA_14, gA_15, p1_0, p1_1, p1_2, p1_3, p1_4, p1_5, p1_6, p1_7, p1_8, p1_9, p1_10, p1_11, p1_12, p1_13, p1_14, p1_15, p2_0, p2_1, p2_2, p2_3, p2_4, p2_5, p2_6, p2_7, p2_8, p2_9, p2_10, p2_11, p2_12, p2_13, p2_14, p2_15, kx, hc, hs, bk1.2.1, bk1.2.2.1, bk1.2.2.2, s1, s2, s3, s4, s5, ix_nI u1, ix_nI u2, ix_nI u3, ix_nI u4, ix_nI u5, nI_pos' u1, nI_pos' u2, nI_pos' u3, nI_pos' u4, nI_pos' u5, v1, v2, v3, v4, v5]
  refine x_rubber C gS gH (fun y e y0 => ?_) fun e h1 f1 e1 C1 => ?_
  · skip
    obtain ⟨h1, eh⟩ : ∃ z, z = RfC h x y := ⟨_, rfl⟩
    have fa1 : FA x h h1 := by rw [eh]; exact RfC.fa
    rw [← eh]
    have bk1 := bk1.fa fa1
    have M1 := M.fa gH fa1
    have km : hkd h1 (x + 34) = 16 := M1.1.1.1.1.1
    simp only [s268_515, s268_516, s268_517, s268_518, s268_519, s268_520, s268_521, oB_some, cl2_i, cl2_r, cl2_l, cl2_u, cl2_s, wd_0, wd_i, wd_r, wd_l, wd_f, ct_i, ct_r, ct_n, ct_f, rf_s, rf_n, tl_s, tl_n, true_and, and_true, eq_self, and_self, Nat.reduceAdd, Nat.reduceLeDiff, Nat.zero_le, Nat.reduceEqDiff, or_true, true_or, false_or, or_false, if_true, if_false, gI_0, gI_1, gI_2, gI_3, gI_4, gI_5, gI_6, gI_7, gI_8, gI_9, gI_10, gI_11, gI_12, gI_13, gI_14, gI_15, gL_0, gL_1, gL_2, gL_3, gL_4, gL_5, gL_6, gL_7, gL_8, gL_9, gL_10, gL_11, gL_12, gL_13, gL_14, gL_15, gA_0, gA_1, gA_2, gA_3, gA_4, gA_5, gA_6, gA_7, gA_8, gA_9, gA_10, gA_11, gA_12, gA_13, gA_14, gA_15, p1_0, p1_1, p1_2, p1_3, p1_4, p1_5, p1_6, p1_7, p1_8, p1_9, p1_10, p1_11, p1_12, p1_13, p1_14, p1_15, p2_0, p2_1, p2_2, p2_3, p2_4, p2_5, p2_6, p2_7, p2_8, p2_9, p2_10, p2_11, p2_12, p2_13, p2_14, p2_15, km, bk1.2.1, bk1.2.2.1, bk1.2.2.2, s1, s2, s3, s4, s5, ix_nI u1, ix_nI u2, ix_nI u3, ix_nI u4, ix_nI u5, nI_pos' u1, nI_pos' u2, nI_pos' u3, nI_pos' u4, nI_pos' u5, v1, v2, v3, v4, v5]
    refine o_rubber M1 gS gH (fun y2 e2 n2 => ?_) fun e2 => absurd (e.symm.trans e2) y0
    obtain rfl := e.symm.trans e2
    simp only [s268_524, s268_527, oB_some, cl2_i, cl2_r, cl2_l, cl2_u, cl2_s, wd_0, wd_i, wd_r, wd_l, wd_f, ct_i, ct_r, ct_n, ct_f, rf_s, rf_n, tl_s, tl_n, true_and, and_true, eq_self, and_self, Nat.reduceAdd, Nat.reduceLeDiff, Nat.zero_le, Nat.reduceEqDiff, or_true, true_or, false_or, or_false, if_true, if_false, gI_0, gI_1, gI_2, gI_3, gI_4, gI_5, gI_6, gI_7, gI_8, gI_9, gI_10, gI_11, gI_12, gI_13, gI_14, gI_15, gL_0, gL_1, gL_2, gL_3, gL_4, gL_5, gL_6, gL_7, gL_8, gL_9, gL_10, gL_11, gL_12, gL_13, gL_14, gL_15, gA_0, gA_1, gA_2, gA_3, gA_4, gA_5, gA_6, gA_7, gA_8, gA_9, gA_10, gA_11, gA_12, gA_13, gA_14, gA_15, p1_0, p1_1, p1_2, p1_3, p1_4, p1_5, p1_6, p1_7, p1_8, p1_9, p1_10, p1_11, p1_12, p1_13, p1_14, p1_15, p2_0, p2_1, p2_2, p2_3, p2_4, p2_5, p2_6, p2_7, p2_8, p2_9, p2_10, p2_11, p2_12, p2_13, p2_14, p2_15, b01_ok, b_ft, b_tf, b01_e0, b01_e1, lgc_0, not_true_eq_false, not_false_eq_true]
    rw [eh]
    exact nx _ _ _ _ _ _ _ _ _ (by omega) (by omega) (a.refuse y)
  · skip
    have fa1 := f1
    have bk1 := bk1.fa fa1
    have M1 := M.fa gH fa1
    have km : hkd h1 (x + 34) = 16 := M1.1.1.1.1.1
    simp only [s268_515, s268_516, s268_517, s268_518, s268_519, s268_520, s268_521, oB_some, cl2_i, cl2_r, cl2_l, cl2_u, cl2_s, wd_0, wd_i, wd_r, wd_l, wd_f, ct_i, ct_r, ct_n, ct_f, rf_s, rf_n, tl_s, tl_n, true_and, and_true, eq_self, and_self, Nat.reduceAdd, Nat.reduceLeDiff, Nat.zero_le, Nat.reduceEqDiff, or_true, true_or, false_or, or_false, if_true, if_false, gI_0, gI_1, gI_2, gI_3, gI_4, gI_5, gI_6, gI_7, gI_8, gI_9, gI_10, gI_11, gI_12, gI_13, gI_14, gI_15, gL_0, gL_1, gL_2, gL_3, gL_4, gL_5, gL_6, gL_7, gL_8, gL_9, gL_10, gL_11, gL_12, gL_13, gL_14, gL_15, gA_0, gA_1, gA_2, gA_3, gA_4, gA_5, gA_6, gA_7, gA_8, gA_9, gA_10, gA_11, gA_12, gA_13, gA_14, gA_15, p1_0, p1_1, p1_2, p1_3, p1_4, p1_5, p1_6, p1_7, p1_8, p1_9, p1_10, p1_11, p1_12, p1_13, p1_14, p1_15, p2_0, p2_1, p2_2, p2_3, p2_4, p2_5, p2_6, p2_7, p2_8, p2_9, p2_10, p2_11, p2_12, p2_13, p2_14, p2_15, km, bk1.2.1, bk1.2.2.1, bk1.2.2.2, s1, s2, s3, s4, s5, ix_nI u1, ix_nI u2, ix_nI u3, ix_nI u4, ix_nI u5, nI_pos' u1, nI_pos' u2, nI_pos' u3, nI_pos' u4, nI_pos' u5, v1, v2, v3, v4, v5]
    refine o_rubber M1 gS gH (fun y2 e2 n2 => absurd (e2.symm.trans e) n2) fun _ h2 f2 e2 M2 => ?_
    simp only [s268_524, s268_527, oB_some, cl2_i, cl2_r, cl2_l, cl2_u, cl2_s, wd_0, wd_i, wd_r, wd_l, wd_f, ct_i, ct_r, ct_n, ct_f, rf_s, rf_n, tl_s, tl_n, true_and, and_true, eq_self, and_self, Nat.reduceAdd, Nat.reduceLeDiff, Nat.zero_le, Nat.reduceEqDiff, or_true, true_or, false_or, or_false, if_true, if_false, gI_0, gI_1, gI_2, gI_3, gI_4, gI_5, gI_6, gI_7, gI_8, gI_9, gI_10, gI_11, gI_12, gI_13, gI_14, gI_15, gL_0, gL_1, gL_2, gL_3, gL_4, gL_5, gL_6, gL_7, gL_8, gL_9, gL_10, gL_11, gL_12, gL_13, gL_14, gL_15, gA_0, gA_1, gA_2, gA_3, gA_4, gA_5, gA_6, gA_7, gA_8, gA_9, gA_10, gA_11, gA_12, gA_13, gA_14, gA_15, p1_0, p1_1, p1_2, p1_3, p1_4, p1_5, p1_6, p1_7, p1_8, p1_9, p1_10, p1_11, p1_12, p1_13, p1_14, p1_15, p2_0, p2_1, p2_2, p2_3, p2_4, p2_5, p2_6, p2_7, p2_8, p2_9, p2_10, p2_11, p2_12, p2_13, p2_14, p2_15, b01_ok, b_ft, b_tf, b01_e0, b01_e1, lgc_0, not_true_eq_false, not_false_eq_true]
    exact nx _ _ _ _ _ _ _ _ _ (by omega) (by omega) (a.step f1 e1 C1 f2 e2 M2 (gv_rubber gS e) (GH_push gH gS))
set_option maxHeartbeats 4000000 in
theorem lc_recalls {b L x tl len i c s : Nat} {xs : Nat → Int32} {h : HP} {tp r : Nat → Nat} {S : VS} {H : HS} {Q : PQ} (a : LI b L xs h x S H tp tl r len) (hi : i + 6 ≤ L) (hL : L ≤ 3072) (hc : 12 ≤ c) (hs : 172 ≤ s)
    (nx : ∀ h' S' H' tp' tl' r' len' c' s', c ≤ c' + 12 → s ≤ s' + 172 → LI b L xs h' x S' H' tp' tl' r' len' → WP 11 268 Q (1434, [.val (.ref b), .val (.ref x), .val (.ref (x + 34)), .val (.int (nI i))], [], h', c', s')) : WP 11 268 Q (529, [.val (.ref b), .val (.ref x), .val (.ref (x + 34)), .val (.int (nI i))], [], h, c, s) := by
  have a0 := a
  obtain ⟨C, M, ⟨gS, gH⟩, rf, bk⟩ := a0
  have bk1 : SKb b L xs x h := bk
  have s1 : nI i + 1 = nI (i + 1) := nI_add i 1
  have s2 : nI i + 2 = nI (i + 2) := nI_add i 2
  have s3 : nI i + 3 = nI (i + 3) := nI_add i 3
  have s4 : nI i + 4 = nI (i + 4) := nI_add i 4
  have s5 : nI i + 5 = nI (i + 5) := nI_add i 5
  have u1 : i + 1 < 2 ^ 31 := by omega
  have u2 : i + 2 < 2 ^ 31 := by omega
  have u3 : i + 3 < 2 ^ 31 := by omega
  have u4 : i + 4 < 2 ^ 31 := by omega
  have u5 : i + 5 < 2 ^ 31 := by omega
  have v1 : i + 1 < L := by omega
  have v2 : i + 2 < L := by omega
  have v3 : i + 3 < L := by omega
  have v4 : i + 4 < L := by omega
  have v5 : i + 5 < L := by omega
  have kx : hkd h x = 15 := C.1.1.1.1
  simp only [s268_529, s268_530, s268_531, s268_532, s268_533, s268_534, s268_535, oB_some, cl2_i, cl2_r, cl2_l, cl2_u, cl2_s, wd_0, wd_i, wd_r, wd_l, wd_f, ct_i, ct_r, ct_n, ct_f, rf_s, rf_n, tl_s, tl_n, true_and, and_true, eq_self, and_self, Nat.reduceAdd, Nat.reduceLeDiff, Nat.zero_le, Nat.reduceEqDiff, or_true, true_or, false_or, or_false, if_true, if_false, gI_0, gI_1, gI_2, gI_3, gI_4, gI_5, gI_6, gI_7, gI_8, gI_9, gI_10, gI_11, gI_12, gI_13, gI_14, gI_15, gL_0, gL_1, gL_2, gL_3, gL_4, gL_5, gL_6, gL_7, gL_8, gL_9, gL_10, gL_11, gL_12, gL_13, gL_14, gL_15, gA_0, gA_1, gA_2, gA_3, gA_4, gA_5, gA_6, gA_7, gA_8, gA_9, gA_10, gA_11, gA_12, gA_13, gA_14, gA_15, p1_0, p1_1, p1_2, p1_3, p1_4, p1_5, p1_6, p1_7, p1_8, p1_9, p1_10, p1_11, p1_12, p1_13, p1_14, p1_15, p2_0, p2_1, p2_2, p2_3, p2_4, p2_5, p2_6, p2_7, p2_8, p2_9, p2_10, p2_11, p2_12, p2_13, p2_14, p2_15, kx, hc, hs, bk1.2.1, bk1.2.2.1, bk1.2.2.2, s1, s2, s3, s4, s5, ix_nI u1, ix_nI u2, ix_nI u3, ix_nI u4, ix_nI u5, nI_pos' u1, nI_pos' u2, nI_pos' u3, nI_pos' u4, nI_pos' u5, v1, v2, v3, v4, v5]
  refine x_recalls C gS gH (fun y e y0 => ?_) fun e h1 f1 e1 C1 => ?_
  · skip
    obtain ⟨h1, eh⟩ : ∃ z, z = RfC h x y := ⟨_, rfl⟩
    have fa1 : FA x h h1 := by rw [eh]; exact RfC.fa
    rw [← eh]
    have bk1 := bk1.fa fa1
    have M1 := M.fa gH fa1
    have km : hkd h1 (x + 34) = 16 := M1.1.1.1.1.1
    simp only [s268_538, s268_539, s268_540, s268_541, s268_542, s268_543, s268_544, oB_some, cl2_i, cl2_r, cl2_l, cl2_u, cl2_s, wd_0, wd_i, wd_r, wd_l, wd_f, ct_i, ct_r, ct_n, ct_f, rf_s, rf_n, tl_s, tl_n, true_and, and_true, eq_self, and_self, Nat.reduceAdd, Nat.reduceLeDiff, Nat.zero_le, Nat.reduceEqDiff, or_true, true_or, false_or, or_false, if_true, if_false, gI_0, gI_1, gI_2, gI_3, gI_4, gI_5, gI_6, gI_7, gI_8, gI_9, gI_10, gI_11, gI_12, gI_13, gI_14, gI_15, gL_0, gL_1, gL_2, gL_3, gL_4, gL_5, gL_6, gL_7, gL_8, gL_9, gL_10, gL_11, gL_12, gL_13, gL_14, gL_15, gA_0, gA_1, gA_2, gA_3, gA_4, gA_5, gA_6, gA_7, gA_8, gA_9, gA_10, gA_11, gA_12, gA_13, gA_14, gA_15, p1_0, p1_1, p1_2, p1_3, p1_4, p1_5, p1_6, p1_7, p1_8, p1_9, p1_10, p1_11, p1_12, p1_13, p1_14, p1_15, p2_0, p2_1, p2_2, p2_3, p2_4, p2_5, p2_6, p2_7, p2_8, p2_9, p2_10, p2_11, p2_12, p2_13, p2_14, p2_15, km, bk1.2.1, bk1.2.2.1, bk1.2.2.2, s1, s2, s3, s4, s5, ix_nI u1, ix_nI u2, ix_nI u3, ix_nI u4, ix_nI u5, nI_pos' u1, nI_pos' u2, nI_pos' u3, nI_pos' u4, nI_pos' u5, v1, v2, v3, v4, v5]
    refine o_recalls M1 gS gH (fun y2 e2 n2 => ?_) fun e2 => absurd (e.symm.trans e2) y0
    obtain rfl := e.symm.trans e2
    simp only [s268_547, s268_550, oB_some, cl2_i, cl2_r, cl2_l, cl2_u, cl2_s, wd_0, wd_i, wd_r, wd_l, wd_f, ct_i, ct_r, ct_n, ct_f, rf_s, rf_n, tl_s, tl_n, true_and, and_true, eq_self, and_self, Nat.reduceAdd, Nat.reduceLeDiff, Nat.zero_le, Nat.reduceEqDiff, or_true, true_or, false_or, or_false, if_true, if_false, gI_0, gI_1, gI_2, gI_3, gI_4, gI_5, gI_6, gI_7, gI_8, gI_9, gI_10, gI_11, gI_12, gI_13, gI_14, gI_15, gL_0, gL_1, gL_2, gL_3, gL_4, gL_5, gL_6, gL_7, gL_8, gL_9, gL_10, gL_11, gL_12, gL_13, gL_14, gL_15, gA_0, gA_1, gA_2, gA_3, gA_4, gA_5, gA_6, gA_7, gA_8, gA_9, gA_10, gA_11, gA_12, gA_13, gA_14, gA_15, p1_0, p1_1, p1_2, p1_3, p1_4, p1_5, p1_6, p1_7, p1_8, p1_9, p1_10, p1_11, p1_12, p1_13, p1_14, p1_15, p2_0, p2_1, p2_2, p2_3, p2_4, p2_5, p2_6, p2_7, p2_8, p2_9, p2_10, p2_11, p2_12, p2_13, p2_14, p2_15, b01_ok, b_ft, b_tf, b01_e0, b01_e1, lgc_0, not_true_eq_false, not_false_eq_true]
    rw [eh]
    exact nx _ _ _ _ _ _ _ _ _ (by omega) (by omega) (a.refuse y)
  · skip
    have fa1 := f1
    have bk1 := bk1.fa fa1
    have M1 := M.fa gH fa1
    have km : hkd h1 (x + 34) = 16 := M1.1.1.1.1.1
    simp only [s268_538, s268_539, s268_540, s268_541, s268_542, s268_543, s268_544, oB_some, cl2_i, cl2_r, cl2_l, cl2_u, cl2_s, wd_0, wd_i, wd_r, wd_l, wd_f, ct_i, ct_r, ct_n, ct_f, rf_s, rf_n, tl_s, tl_n, true_and, and_true, eq_self, and_self, Nat.reduceAdd, Nat.reduceLeDiff, Nat.zero_le, Nat.reduceEqDiff, or_true, true_or, false_or, or_false, if_true, if_false, gI_0, gI_1, gI_2, gI_3, gI_4, gI_5, gI_6, gI_7, gI_8, gI_9, gI_10, gI_11, gI_12, gI_13, gI_14, gI_15, gL_0, gL_1, gL_2, gL_3, gL_4, gL_5, gL_6, gL_7, gL_8, gL_9, gL_10, gL_11, gL_12, gL_13, gL_14, gL_15, gA_0, gA_1, gA_2, gA_3, gA_4, gA_5, gA_6, gA_7, gA_8, gA_9, gA_10, gA_11, gA_12, gA_13, gA_14, gA_15, p1_0, p1_1, p1_2, p1_3, p1_4, p1_5, p1_6, p1_7, p1_8, p1_9, p1_10, p1_11, p1_12, p1_13, p1_14, p1_15, p2_0, p2_1, p2_2, p2_3, p2_4, p2_5, p2_6, p2_7, p2_8, p2_9, p2_10, p2_11, p2_12, p2_13, p2_14, p2_15, km, bk1.2.1, bk1.2.2.1, bk1.2.2.2, s1, s2, s3, s4, s5, ix_nI u1, ix_nI u2, ix_nI u3, ix_nI u4, ix_nI u5, nI_pos' u1, nI_pos' u2, nI_pos' u3, nI_pos' u4, nI_pos' u5, v1, v2, v3, v4, v5]
    refine o_recalls M1 gS gH (fun y2 e2 n2 => absurd (e2.symm.trans e) n2) fun _ h2 f2 e2 M2 => ?_
    simp only [s268_547, s268_550, oB_some, cl2_i, cl2_r, cl2_l, cl2_u, cl2_s, wd_0, wd_i, wd_r, wd_l, wd_f, ct_i, ct_r, ct_n, ct_f, rf_s, rf_n, tl_s, tl_n, true_and, and_true, eq_self, and_self, Nat.reduceAdd, Nat.reduceLeDiff, Nat.zero_le, Nat.reduceEqDiff, or_true, true_or, false_or, or_false, if_true, if_false, gI_0, gI_1, gI_2, gI_3, gI_4, gI_5, gI_6, gI_7, gI_8, gI_9, gI_10, gI_11, gI_12, gI_13, gI_14, gI_15, gL_0, gL_1, gL_2, gL_3, gL_4, gL_5, gL_6, gL_7, gL_8, gL_9, gL_10, gL_11, gL_12, gL_13, gL_14, gL_15, gA_0, gA_1, gA_2, gA_3, gA_4, gA_5, gA_6, gA_7, gA_8, gA_9, gA_10, gA_11, gA_12, gA_13, gA_14, gA_15, p1_0, p1_1, p1_2, p1_3, p1_4, p1_5, p1_6, p1_7, p1_8, p1_9, p1_10, p1_11, p1_12, p1_13, p1_14, p1_15, p2_0, p2_1, p2_2, p2_3, p2_4, p2_5, p2_6, p2_7, p2_8, p2_9, p2_10, p2_11, p2_12, p2_13, p2_14, p2_15, b01_ok, b_ft, b_tf, b01_e0, b01_e1, lgc_0, not_true_eq_false, not_false_eq_true]
    exact nx _ _ _ _ _ _ _ _ _ (by omega) (by omega) (a.step f1 e1 C1 f2 e2 M2 (gv_recalls gS) (GH_push gH gS))
set_option maxHeartbeats 4000000 in
theorem lc_days {b L x tl len i c s : Nat} {xs : Nat → Int32} {h : HP} {tp r : Nat → Nat} {S : VS} {H : HS} {Q : PQ} (a : LI b L xs h x S H tp tl r len) (hi : i + 6 ≤ L) (hL : L ≤ 3072) (hc : 12 ≤ c) (hs : 172 ≤ s)
    (nx : ∀ h' S' H' tp' tl' r' len' c' s', c ≤ c' + 12 → s ≤ s' + 172 → LI b L xs h' x S' H' tp' tl' r' len' → WP 11 268 Q (1434, [.val (.ref b), .val (.ref x), .val (.ref (x + 34)), .val (.int (nI i))], [], h', c', s')) : WP 11 268 Q (552, [.val (.ref b), .val (.ref x), .val (.ref (x + 34)), .val (.int (nI i))], [], h, c, s) := by
  have a0 := a
  obtain ⟨C, M, ⟨gS, gH⟩, rf, bk⟩ := a0
  have bk1 : SKb b L xs x h := bk
  have s1 : nI i + 1 = nI (i + 1) := nI_add i 1
  have s2 : nI i + 2 = nI (i + 2) := nI_add i 2
  have s3 : nI i + 3 = nI (i + 3) := nI_add i 3
  have s4 : nI i + 4 = nI (i + 4) := nI_add i 4
  have s5 : nI i + 5 = nI (i + 5) := nI_add i 5
  have u1 : i + 1 < 2 ^ 31 := by omega
  have u2 : i + 2 < 2 ^ 31 := by omega
  have u3 : i + 3 < 2 ^ 31 := by omega
  have u4 : i + 4 < 2 ^ 31 := by omega
  have u5 : i + 5 < 2 ^ 31 := by omega
  have v1 : i + 1 < L := by omega
  have v2 : i + 2 < L := by omega
  have v3 : i + 3 < L := by omega
  have v4 : i + 4 < L := by omega
  have v5 : i + 5 < L := by omega
  have kx : hkd h x = 15 := C.1.1.1.1
  simp only [s268_552, s268_553, s268_554, s268_555, s268_556, s268_557, s268_558, oB_some, cl2_i, cl2_r, cl2_l, cl2_u, cl2_s, wd_0, wd_i, wd_r, wd_l, wd_f, ct_i, ct_r, ct_n, ct_f, rf_s, rf_n, tl_s, tl_n, true_and, and_true, eq_self, and_self, Nat.reduceAdd, Nat.reduceLeDiff, Nat.zero_le, Nat.reduceEqDiff, or_true, true_or, false_or, or_false, if_true, if_false, gI_0, gI_1, gI_2, gI_3, gI_4, gI_5, gI_6, gI_7, gI_8, gI_9, gI_10, gI_11, gI_12, gI_13, gI_14, gI_15, gL_0, gL_1, gL_2, gL_3, gL_4, gL_5, gL_6, gL_7, gL_8, gL_9, gL_10, gL_11, gL_12, gL_13, gL_14, gL_15, gA_0, gA_1, gA_2, gA_3, gA_4, gA_5, gA_6, gA_7, gA_8, gA_9, gA_10, gA_11, gA_12, gA_13, gA_14, gA_15, p1_0, p1_1, p1_2, p1_3, p1_4, p1_5, p1_6, p1_7, p1_8, p1_9, p1_10, p1_11, p1_12, p1_13, p1_14, p1_15, p2_0, p2_1, p2_2, p2_3, p2_4, p2_5, p2_6, p2_7, p2_8, p2_9, p2_10, p2_11, p2_12, p2_13, p2_14, p2_15, kx, hc, hs, bk1.2.1, bk1.2.2.1, bk1.2.2.2, s1, s2, s3, s4, s5, ix_nI u1, ix_nI u2, ix_nI u3, ix_nI u4, ix_nI u5, nI_pos' u1, nI_pos' u2, nI_pos' u3, nI_pos' u4, nI_pos' u5, v1, v2, v3, v4, v5]
  refine x_days C gS gH (fun y e y0 => ?_) fun e h1 f1 e1 C1 => ?_
  · skip
    obtain ⟨h1, eh⟩ : ∃ z, z = RfC h x y := ⟨_, rfl⟩
    have fa1 : FA x h h1 := by rw [eh]; exact RfC.fa
    rw [← eh]
    have bk1 := bk1.fa fa1
    have M1 := M.fa gH fa1
    have km : hkd h1 (x + 34) = 16 := M1.1.1.1.1.1
    simp only [s268_561, s268_562, s268_563, s268_564, s268_565, s268_566, s268_567, oB_some, cl2_i, cl2_r, cl2_l, cl2_u, cl2_s, wd_0, wd_i, wd_r, wd_l, wd_f, ct_i, ct_r, ct_n, ct_f, rf_s, rf_n, tl_s, tl_n, true_and, and_true, eq_self, and_self, Nat.reduceAdd, Nat.reduceLeDiff, Nat.zero_le, Nat.reduceEqDiff, or_true, true_or, false_or, or_false, if_true, if_false, gI_0, gI_1, gI_2, gI_3, gI_4, gI_5, gI_6, gI_7, gI_8, gI_9, gI_10, gI_11, gI_12, gI_13, gI_14, gI_15, gL_0, gL_1, gL_2, gL_3, gL_4, gL_5, gL_6, gL_7, gL_8, gL_9, gL_10, gL_11, gL_12, gL_13, gL_14, gL_15, gA_0, gA_1, gA_2, gA_3, gA_4, gA_5, gA_6, gA_7, gA_8, gA_9, gA_10, gA_11, gA_12, gA_13, gA_14, gA_15, p1_0, p1_1, p1_2, p1_3, p1_4, p1_5, p1_6, p1_7, p1_8, p1_9, p1_10, p1_11, p1_12, p1_13, p1_14, p1_15, p2_0, p2_1, p2_2, p2_3, p2_4, p2_5, p2_6, p2_7, p2_8, p2_9, p2_10, p2_11, p2_12, p2_13, p2_14, p2_15, km, bk1.2.1, bk1.2.2.1, bk1.2.2.2, s1, s2, s3, s4, s5, ix_nI u1, ix_nI u2, ix_nI u3, ix_nI u4, ix_nI u5, nI_pos' u1, nI_pos' u2, nI_pos' u3, nI_pos' u4, nI_pos' u5, v1, v2, v3, v4, v5]
    refine o_days M1 gS gH (fun y2 e2 n2 => ?_) fun e2 => absurd (e.symm.trans e2) y0
    obtain rfl := e.symm.trans e2
    simp only [s268_570, s268_573, oB_some, cl2_i, cl2_r, cl2_l, cl2_u, cl2_s, wd_0, wd_i, wd_r, wd_l, wd_f, ct_i, ct_r, ct_n, ct_f, rf_s, rf_n, tl_s, tl_n, true_and, and_true, eq_self, and_self, Nat.reduceAdd, Nat.reduceLeDiff, Nat.zero_le, Nat.reduceEqDiff, or_true, true_or, false_or, or_false, if_true, if_false, gI_0, gI_1, gI_2, gI_3, gI_4, gI_5, gI_6, gI_7, gI_8, gI_9, gI_10, gI_11, gI_12, gI_13, gI_14, gI_15, gL_0, gL_1, gL_2, gL_3, gL_4, gL_5, gL_6, gL_7, gL_8, gL_9, gL_10, gL_11, gL_12, gL_13, gL_14, gL_15, gA_0, gA_1, gA_2, gA_3, gA_4, gA_5, gA_6, gA_7, gA_8, gA_9, gA_10, gA_11, gA_12, gA_13, gA_14, gA_15, p1_0, p1_1, p1_2, p1_3, p1_4, p1_5, p1_6, p1_7, p1_8, p1_9, p1_10, p1_11, p1_12, p1_13, p1_14, p1_15, p2_0, p2_1, p2_2, p2_3, p2_4, p2_5, p2_6, p2_7, p2_8, p2_9, p2_10, p2_11, p2_12, p2_13, p2_14, p2_15, b01_ok, b_ft, b_tf, b01_e0, b01_e1, lgc_0, not_true_eq_false, not_false_eq_true]
    rw [eh]
    exact nx _ _ _ _ _ _ _ _ _ (by omega) (by omega) (a.refuse y)
  · skip
    have fa1 := f1
    have bk1 := bk1.fa fa1
    have M1 := M.fa gH fa1
    have km : hkd h1 (x + 34) = 16 := M1.1.1.1.1.1
    simp only [s268_561, s268_562, s268_563, s268_564, s268_565, s268_566, s268_567, oB_some, cl2_i, cl2_r, cl2_l, cl2_u, cl2_s, wd_0, wd_i, wd_r, wd_l, wd_f, ct_i, ct_r, ct_n, ct_f, rf_s, rf_n, tl_s, tl_n, true_and, and_true, eq_self, and_self, Nat.reduceAdd, Nat.reduceLeDiff, Nat.zero_le, Nat.reduceEqDiff, or_true, true_or, false_or, or_false, if_true, if_false, gI_0, gI_1, gI_2, gI_3, gI_4, gI_5, gI_6, gI_7, gI_8, gI_9, gI_10, gI_11, gI_12, gI_13, gI_14, gI_15, gL_0, gL_1, gL_2, gL_3, gL_4, gL_5, gL_6, gL_7, gL_8, gL_9, gL_10, gL_11, gL_12, gL_13, gL_14, gL_15, gA_0, gA_1, gA_2, gA_3, gA_4, gA_5, gA_6, gA_7, gA_8, gA_9, gA_10, gA_11, gA_12, gA_13, gA_14, gA_15, p1_0, p1_1, p1_2, p1_3, p1_4, p1_5, p1_6, p1_7, p1_8, p1_9, p1_10, p1_11, p1_12, p1_13, p1_14, p1_15, p2_0, p2_1, p2_2, p2_3, p2_4, p2_5, p2_6, p2_7, p2_8, p2_9, p2_10, p2_11, p2_12, p2_13, p2_14, p2_15, km, bk1.2.1, bk1.2.2.1, bk1.2.2.2, s1, s2, s3, s4, s5, ix_nI u1, ix_nI u2, ix_nI u3, ix_nI u4, ix_nI u5, nI_pos' u1, nI_pos' u2, nI_pos' u3, nI_pos' u4, nI_pos' u5, v1, v2, v3, v4, v5]
    refine o_days M1 gS gH (fun y2 e2 n2 => absurd (e2.symm.trans e) n2) fun _ h2 f2 e2 M2 => ?_
    simp only [s268_570, s268_573, oB_some, cl2_i, cl2_r, cl2_l, cl2_u, cl2_s, wd_0, wd_i, wd_r, wd_l, wd_f, ct_i, ct_r, ct_n, ct_f, rf_s, rf_n, tl_s, tl_n, true_and, and_true, eq_self, and_self, Nat.reduceAdd, Nat.reduceLeDiff, Nat.zero_le, Nat.reduceEqDiff, or_true, true_or, false_or, or_false, if_true, if_false, gI_0, gI_1, gI_2, gI_3, gI_4, gI_5, gI_6, gI_7, gI_8, gI_9, gI_10, gI_11, gI_12, gI_13, gI_14, gI_15, gL_0, gL_1, gL_2, gL_3, gL_4, gL_5, gL_6, gL_7, gL_8, gL_9, gL_10, gL_11, gL_12, gL_13, gL_14, gL_15, gA_0, gA_1, gA_2, gA_3, gA_4, gA_5, gA_6, gA_7, gA_8, gA_9, gA_10, gA_11, gA_12, gA_13, gA_14, gA_15, p1_0, p1_1, p1_2, p1_3, p1_4, p1_5, p1_6, p1_7, p1_8, p1_9, p1_10, p1_11, p1_12, p1_13, p1_14, p1_15, p2_0, p2_1, p2_2, p2_3, p2_4, p2_5, p2_6, p2_7, p2_8, p2_9, p2_10, p2_11, p2_12, p2_13, p2_14, p2_15, b01_ok, b_ft, b_tf, b01_e0, b01_e1, lgc_0, not_true_eq_false, not_false_eq_true]
    exact nx _ _ _ _ _ _ _ _ _ (by omega) (by omega) (a.step f1 e1 C1 f2 e2 M2 (gv_days gS e) (GH_push gH gS))
set_option maxHeartbeats 4000000 in
theorem lc_back {b L x tl len i c s : Nat} {xs : Nat → Int32} {h : HP} {tp r : Nat → Nat} {S : VS} {H : HS} {Q : PQ} (a : LI b L xs h x S H tp tl r len) (hi : i + 6 ≤ L) (hL : L ≤ 3072) (hc : 12 ≤ c) (hs : 172 ≤ s)
    (nx : ∀ h' S' H' tp' tl' r' len' c' s', c ≤ c' + 12 → s ≤ s' + 172 → LI b L xs h' x S' H' tp' tl' r' len' → WP 11 268 Q (1434, [.val (.ref b), .val (.ref x), .val (.ref (x + 34)), .val (.int (nI i))], [], h', c', s')) : WP 11 268 Q (575, [.val (.ref b), .val (.ref x), .val (.ref (x + 34)), .val (.int (nI i))], [], h, c, s) := by
  have a0 := a
  obtain ⟨C, M, ⟨gS, gH⟩, rf, bk⟩ := a0
  have bk1 : SKb b L xs x h := bk
  have s1 : nI i + 1 = nI (i + 1) := nI_add i 1
  have s2 : nI i + 2 = nI (i + 2) := nI_add i 2
  have s3 : nI i + 3 = nI (i + 3) := nI_add i 3
  have s4 : nI i + 4 = nI (i + 4) := nI_add i 4
  have s5 : nI i + 5 = nI (i + 5) := nI_add i 5
  have u1 : i + 1 < 2 ^ 31 := by omega
  have u2 : i + 2 < 2 ^ 31 := by omega
  have u3 : i + 3 < 2 ^ 31 := by omega
  have u4 : i + 4 < 2 ^ 31 := by omega
  have u5 : i + 5 < 2 ^ 31 := by omega
  have v1 : i + 1 < L := by omega
  have v2 : i + 2 < L := by omega
  have v3 : i + 3 < L := by omega
  have v4 : i + 4 < L := by omega
  have v5 : i + 5 < L := by omega
  have kx : hkd h x = 15 := C.1.1.1.1
  simp only [s268_575, s268_576, oB_some, cl2_i, cl2_r, cl2_l, cl2_u, cl2_s, wd_0, wd_i, wd_r, wd_l, wd_f, ct_i, ct_r, ct_n, ct_f, rf_s, rf_n, tl_s, tl_n, true_and, and_true, eq_self, and_self, Nat.reduceAdd, Nat.reduceLeDiff, Nat.zero_le, Nat.reduceEqDiff, or_true, true_or, false_or, or_false, if_true, if_false, gI_0, gI_1, gI_2, gI_3, gI_4, gI_5, gI_6, gI_7, gI_8, gI_9, gI_10, gI_11, gI_12, gI_13, gI_14, gI_15, gL_0, gL_1, gL_2, gL_3, gL_4, gL_5, gL_6, gL_7, gL_8, gL_9, gL_10, gL_11, gL_12, gL_13, gL_14, gL_15, gA_0, gA_1, gA_2, gA_3, gA_4, gA_5, gA_6, gA_7, gA_8, gA_9, gA_10, gA_11, gA_12, gA_13, gA_14, gA_15, p1_0, p1_1, p1_2, p1_3, p1_4, p1_5, p1_6, p1_7, p1_8, p1_9, p1_10, p1_11, p1_12, p1_13, p1_14, p1_15, p2_0, p2_1, p2_2, p2_3, p2_4, p2_5, p2_6, p2_7, p2_8, p2_9, p2_10, p2_11, p2_12, p2_13, p2_14, p2_15, kx, hc, hs, bk1.2.1, bk1.2.2.1, bk1.2.2.2, s1, s2, s3, s4, s5, ix_nI u1, ix_nI u2, ix_nI u3, ix_nI u4, ix_nI u5, nI_pos' u1, nI_pos' u2, nI_pos' u3, nI_pos' u4, nI_pos' u5, v1, v2, v3, v4, v5]
  refine x_back C gS gH (fun e => ?_) fun e h1 f1 e1 C1 => ?_
  · skip
    obtain ⟨h1, eh⟩ : ∃ z, z = RfC h x (-3) := ⟨_, rfl⟩
    have fa1 : FA x h h1 := by rw [eh]; exact RfC.fa
    rw [← eh]
    have bk1 := bk1.fa fa1
    have M1 := M.fa gH fa1
    have km : hkd h1 (x + 34) = 16 := M1.1.1.1.1.1
    simp only [s268_579, s268_580, oB_some, cl2_i, cl2_r, cl2_l, cl2_u, cl2_s, wd_0, wd_i, wd_r, wd_l, wd_f, ct_i, ct_r, ct_n, ct_f, rf_s, rf_n, tl_s, tl_n, true_and, and_true, eq_self, and_self, Nat.reduceAdd, Nat.reduceLeDiff, Nat.zero_le, Nat.reduceEqDiff, or_true, true_or, false_or, or_false, if_true, if_false, gI_0, gI_1, gI_2, gI_3, gI_4, gI_5, gI_6, gI_7, gI_8, gI_9, gI_10, gI_11, gI_12, gI_13, gI_14, gI_15, gL_0, gL_1, gL_2, gL_3, gL_4, gL_5, gL_6, gL_7, gL_8, gL_9, gL_10, gL_11, gL_12, gL_13, gL_14, gL_15, gA_0, gA_1, gA_2, gA_3, gA_4, gA_5, gA_6, gA_7, gA_8, gA_9, gA_10, gA_11, gA_12, gA_13, gA_14, gA_15, p1_0, p1_1, p1_2, p1_3, p1_4, p1_5, p1_6, p1_7, p1_8, p1_9, p1_10, p1_11, p1_12, p1_13, p1_14, p1_15, p2_0, p2_1, p2_2, p2_3, p2_4, p2_5, p2_6, p2_7, p2_8, p2_9, p2_10, p2_11, p2_12, p2_13, p2_14, p2_15, km, bk1.2.1, bk1.2.2.1, bk1.2.2.2, s1, s2, s3, s4, s5, ix_nI u1, ix_nI u2, ix_nI u3, ix_nI u4, ix_nI u5, nI_pos' u1, nI_pos' u2, nI_pos' u3, nI_pos' u4, nI_pos' u5, v1, v2, v3, v4, v5]
    refine o_back M1 gS gH (fun _ => ?_) fun z => absurd e z
    simp only [s268_583, s268_586, oB_some, cl2_i, cl2_r, cl2_l, cl2_u, cl2_s, wd_0, wd_i, wd_r, wd_l, wd_f, ct_i, ct_r, ct_n, ct_f, rf_s, rf_n, tl_s, tl_n, true_and, and_true, eq_self, and_self, Nat.reduceAdd, Nat.reduceLeDiff, Nat.zero_le, Nat.reduceEqDiff, or_true, true_or, false_or, or_false, if_true, if_false, gI_0, gI_1, gI_2, gI_3, gI_4, gI_5, gI_6, gI_7, gI_8, gI_9, gI_10, gI_11, gI_12, gI_13, gI_14, gI_15, gL_0, gL_1, gL_2, gL_3, gL_4, gL_5, gL_6, gL_7, gL_8, gL_9, gL_10, gL_11, gL_12, gL_13, gL_14, gL_15, gA_0, gA_1, gA_2, gA_3, gA_4, gA_5, gA_6, gA_7, gA_8, gA_9, gA_10, gA_11, gA_12, gA_13, gA_14, gA_15, p1_0, p1_1, p1_2, p1_3, p1_4, p1_5, p1_6, p1_7, p1_8, p1_9, p1_10, p1_11, p1_12, p1_13, p1_14, p1_15, p2_0, p2_1, p2_2, p2_3, p2_4, p2_5, p2_6, p2_7, p2_8, p2_9, p2_10, p2_11, p2_12, p2_13, p2_14, p2_15, b01_ok, b_ft, b_tf, b01_e0, b01_e1, lgc_0, not_true_eq_false, not_false_eq_true]
    rw [eh]
    exact nx _ _ _ _ _ _ _ _ _ (by omega) (by omega) (a.refuse (-3))
  · skip
    have fa1 := f1
    have bk1 := bk1.fa fa1
    have M1 := M.fa gH fa1
    have km : hkd h1 (x + 34) = 16 := M1.1.1.1.1.1
    simp only [s268_579, s268_580, oB_some, cl2_i, cl2_r, cl2_l, cl2_u, cl2_s, wd_0, wd_i, wd_r, wd_l, wd_f, ct_i, ct_r, ct_n, ct_f, rf_s, rf_n, tl_s, tl_n, true_and, and_true, eq_self, and_self, Nat.reduceAdd, Nat.reduceLeDiff, Nat.zero_le, Nat.reduceEqDiff, or_true, true_or, false_or, or_false, if_true, if_false, gI_0, gI_1, gI_2, gI_3, gI_4, gI_5, gI_6, gI_7, gI_8, gI_9, gI_10, gI_11, gI_12, gI_13, gI_14, gI_15, gL_0, gL_1, gL_2, gL_3, gL_4, gL_5, gL_6, gL_7, gL_8, gL_9, gL_10, gL_11, gL_12, gL_13, gL_14, gL_15, gA_0, gA_1, gA_2, gA_3, gA_4, gA_5, gA_6, gA_7, gA_8, gA_9, gA_10, gA_11, gA_12, gA_13, gA_14, gA_15, p1_0, p1_1, p1_2, p1_3, p1_4, p1_5, p1_6, p1_7, p1_8, p1_9, p1_10, p1_11, p1_12, p1_13, p1_14, p1_15, p2_0, p2_1, p2_2, p2_3, p2_4, p2_5, p2_6, p2_7, p2_8, p2_9, p2_10, p2_11, p2_12, p2_13, p2_14, p2_15, km, bk1.2.1, bk1.2.2.1, bk1.2.2.2, s1, s2, s3, s4, s5, ix_nI u1, ix_nI u2, ix_nI u3, ix_nI u4, ix_nI u5, nI_pos' u1, nI_pos' u2, nI_pos' u3, nI_pos' u4, nI_pos' u5, v1, v2, v3, v4, v5]
    refine o_back M1 gS gH (fun z => absurd z e) fun _ h2 f2 e2 M2 => ?_
    simp only [s268_583, s268_586, oB_some, cl2_i, cl2_r, cl2_l, cl2_u, cl2_s, wd_0, wd_i, wd_r, wd_l, wd_f, ct_i, ct_r, ct_n, ct_f, rf_s, rf_n, tl_s, tl_n, true_and, and_true, eq_self, and_self, Nat.reduceAdd, Nat.reduceLeDiff, Nat.zero_le, Nat.reduceEqDiff, or_true, true_or, false_or, or_false, if_true, if_false, gI_0, gI_1, gI_2, gI_3, gI_4, gI_5, gI_6, gI_7, gI_8, gI_9, gI_10, gI_11, gI_12, gI_13, gI_14, gI_15, gL_0, gL_1, gL_2, gL_3, gL_4, gL_5, gL_6, gL_7, gL_8, gL_9, gL_10, gL_11, gL_12, gL_13, gL_14, gL_15, gA_0, gA_1, gA_2, gA_3, gA_4, gA_5, gA_6, gA_7, gA_8, gA_9, gA_10, gA_11, gA_12, gA_13, gA_14, gA_15, p1_0, p1_1, p1_2, p1_3, p1_4, p1_5, p1_6, p1_7, p1_8, p1_9, p1_10, p1_11, p1_12, p1_13, p1_14, p1_15, p2_0, p2_1, p2_2, p2_3, p2_4, p2_5, p2_6, p2_7, p2_8, p2_9, p2_10, p2_11, p2_12, p2_13, p2_14, p2_15, b01_ok, b_ft, b_tf, b01_e0, b01_e1, lgc_0, not_true_eq_false, not_false_eq_true]
    exact nx _ _ _ _ _ _ _ _ _ (by omega) (by omega) (a.step f1 e1 C1 f2 e2 M2 (gv_top gH e) (gh_pop gH))
set_option maxHeartbeats 4000000 in
theorem lc_row {b L x tl len i c s : Nat} {xs : Nat → Int32} {h : HP} {tp r : Nat → Nat} {S : VS} {H : HS} {Q : PQ} (a : LI b L xs h x S H tp tl r len) (hi : i + 6 ≤ L) (hL : L ≤ 3072) (hc : 12 ≤ c) (hs : 172 ≤ s)
    (nx : ∀ h' S' H' tp' tl' r' len' c' s', c ≤ c' + 12 → s ≤ s' + 172 → LI b L xs h' x S' H' tp' tl' r' len' → WP 11 268 Q (1434, [.val (.ref b), .val (.ref x), .val (.ref (x + 34)), .val (.int (nI i))], [], h', c', s')) : WP 11 268 Q (1293, [.val (.ref b), .val (.ref x), .val (.ref (x + 34)), .val (.int (nI i))], [], h, c, s) := by
  have a0 := a
  obtain ⟨C, M, ⟨gS, gH⟩, rf, bk⟩ := a0
  have bk1 : SKb b L xs x h := bk
  have s1 : nI i + 1 = nI (i + 1) := nI_add i 1
  have s2 : nI i + 2 = nI (i + 2) := nI_add i 2
  have s3 : nI i + 3 = nI (i + 3) := nI_add i 3
  have s4 : nI i + 4 = nI (i + 4) := nI_add i 4
  have s5 : nI i + 5 = nI (i + 5) := nI_add i 5
  have u1 : i + 1 < 2 ^ 31 := by omega
  have u2 : i + 2 < 2 ^ 31 := by omega
  have u3 : i + 3 < 2 ^ 31 := by omega
  have u4 : i + 4 < 2 ^ 31 := by omega
  have u5 : i + 5 < 2 ^ 31 := by omega
  have v1 : i + 1 < L := by omega
  have v2 : i + 2 < L := by omega
  have v3 : i + 3 < L := by omega
  have v4 : i + 4 < L := by omega
  have v5 : i + 5 < L := by omega
  have kx : hkd h x = 15 := C.1.1.1.1
  simp only [s268_1293, s268_1294, s268_1295, s268_1296, s268_1297, s268_1298, s268_1299, oB_some, cl2_i, cl2_r, cl2_l, cl2_u, cl2_s, wd_0, wd_i, wd_r, wd_l, wd_f, ct_i, ct_r, ct_n, ct_f, rf_s, rf_n, tl_s, tl_n, true_and, and_true, eq_self, and_self, Nat.reduceAdd, Nat.reduceLeDiff, Nat.zero_le, Nat.reduceEqDiff, or_true, true_or, false_or, or_false, if_true, if_false, gI_0, gI_1, gI_2, gI_3, gI_4, gI_5, gI_6, gI_7, gI_8, gI_9, gI_10, gI_11, gI_12, gI_13, gI_14, gI_15, gL_0, gL_1, gL_2, gL_3, gL_4, gL_5, gL_6, gL_7, gL_8, gL_9, gL_10, gL_11, gL_12, gL_13, gL_14, gL_15, gA_0, gA_1, gA_2, gA_3, gA_4, gA_5, gA_6, gA_7, gA_8, gA_9, gA_10, gA_11, gA_12, gA_13, gA_14, gA_15, p1_0, p1_1, p1_2, p1_3, p1_4, p1_5, p1_6, p1_7, p1_8, p1_9, p1_10, p1_11, p1_12, p1_13, p1_14, p1_15, p2_0, p2_1, p2_2, p2_3, p2_4, p2_5, p2_6, p2_7, p2_8, p2_9, p2_10, p2_11, p2_12, p2_13, p2_14, p2_15, kx, hc, hs, bk1.2.1, bk1.2.2.1, bk1.2.2.2, s1, s2, s3, s4, s5, ix_nI u1, ix_nI u2, ix_nI u3, ix_nI u4, ix_nI u5, nI_pos' u1, nI_pos' u2, nI_pos' u3, nI_pos' u4, nI_pos' u5, v1, v2, v3, v4, v5]
  refine x_row C gS gH (fun y e y0 => ?_) fun e h1 f1 e1 C1 => ?_
  · skip
    obtain ⟨h1, eh⟩ : ∃ z, z = RfC h x y := ⟨_, rfl⟩
    have fa1 : FA x h h1 := by rw [eh]; exact RfC.fa
    rw [← eh]
    have bk1 := bk1.fa fa1
    have M1 := M.fa gH fa1
    have km : hkd h1 (x + 34) = 16 := M1.1.1.1.1.1
    simp only [s268_1302, s268_1303, s268_1304, s268_1305, s268_1306, s268_1307, s268_1308, oB_some, cl2_i, cl2_r, cl2_l, cl2_u, cl2_s, wd_0, wd_i, wd_r, wd_l, wd_f, ct_i, ct_r, ct_n, ct_f, rf_s, rf_n, tl_s, tl_n, true_and, and_true, eq_self, and_self, Nat.reduceAdd, Nat.reduceLeDiff, Nat.zero_le, Nat.reduceEqDiff, or_true, true_or, false_or, or_false, if_true, if_false, gI_0, gI_1, gI_2, gI_3, gI_4, gI_5, gI_6, gI_7, gI_8, gI_9, gI_10, gI_11, gI_12, gI_13, gI_14, gI_15, gL_0, gL_1, gL_2, gL_3, gL_4, gL_5, gL_6, gL_7, gL_8, gL_9, gL_10, gL_11, gL_12, gL_13, gL_14, gL_15, gA_0, gA_1, gA_2, gA_3, gA_4, gA_5, gA_6, gA_7, gA_8, gA_9, gA_10, gA_11, gA_12, gA_13, gA_14, gA_15, p1_0, p1_1, p1_2, p1_3, p1_4, p1_5, p1_6, p1_7, p1_8, p1_9, p1_10, p1_11, p1_12, p1_13, p1_14, p1_15, p2_0, p2_1, p2_2, p2_3, p2_4, p2_5, p2_6, p2_7, p2_8, p2_9, p2_10, p2_11, p2_12, p2_13, p2_14, p2_15, km, bk1.2.1, bk1.2.2.1, bk1.2.2.2, s1, s2, s3, s4, s5, ix_nI u1, ix_nI u2, ix_nI u3, ix_nI u4, ix_nI u5, nI_pos' u1, nI_pos' u2, nI_pos' u3, nI_pos' u4, nI_pos' u5, v1, v2, v3, v4, v5]
    refine o_row M1 gS gH (fun y2 e2 n2 => ?_) fun e2 => absurd (e.symm.trans e2) y0
    obtain rfl := e.symm.trans e2
    simp only [s268_1311, s268_1314, oB_some, cl2_i, cl2_r, cl2_l, cl2_u, cl2_s, wd_0, wd_i, wd_r, wd_l, wd_f, ct_i, ct_r, ct_n, ct_f, rf_s, rf_n, tl_s, tl_n, true_and, and_true, eq_self, and_self, Nat.reduceAdd, Nat.reduceLeDiff, Nat.zero_le, Nat.reduceEqDiff, or_true, true_or, false_or, or_false, if_true, if_false, gI_0, gI_1, gI_2, gI_3, gI_4, gI_5, gI_6, gI_7, gI_8, gI_9, gI_10, gI_11, gI_12, gI_13, gI_14, gI_15, gL_0, gL_1, gL_2, gL_3, gL_4, gL_5, gL_6, gL_7, gL_8, gL_9, gL_10, gL_11, gL_12, gL_13, gL_14, gL_15, gA_0, gA_1, gA_2, gA_3, gA_4, gA_5, gA_6, gA_7, gA_8, gA_9, gA_10, gA_11, gA_12, gA_13, gA_14, gA_15, p1_0, p1_1, p1_2, p1_3, p1_4, p1_5, p1_6, p1_7, p1_8, p1_9, p1_10, p1_11, p1_12, p1_13, p1_14, p1_15, p2_0, p2_1, p2_2, p2_3, p2_4, p2_5, p2_6, p2_7, p2_8, p2_9, p2_10, p2_11, p2_12, p2_13, p2_14, p2_15, b01_ok, b_ft, b_tf, b01_e0, b01_e1, lgc_0, not_true_eq_false, not_false_eq_true]
    rw [eh]
    exact nx _ _ _ _ _ _ _ _ _ (by omega) (by omega) (a.refuse y)
  · skip
    have fa1 := f1
    have bk1 := bk1.fa fa1
    have M1 := M.fa gH fa1
    have km : hkd h1 (x + 34) = 16 := M1.1.1.1.1.1
    simp only [s268_1302, s268_1303, s268_1304, s268_1305, s268_1306, s268_1307, s268_1308, oB_some, cl2_i, cl2_r, cl2_l, cl2_u, cl2_s, wd_0, wd_i, wd_r, wd_l, wd_f, ct_i, ct_r, ct_n, ct_f, rf_s, rf_n, tl_s, tl_n, true_and, and_true, eq_self, and_self, Nat.reduceAdd, Nat.reduceLeDiff, Nat.zero_le, Nat.reduceEqDiff, or_true, true_or, false_or, or_false, if_true, if_false, gI_0, gI_1, gI_2, gI_3, gI_4, gI_5, gI_6, gI_7, gI_8, gI_9, gI_10, gI_11, gI_12, gI_13, gI_14, gI_15, gL_0, gL_1, gL_2, gL_3, gL_4, gL_5, gL_6, gL_7, gL_8, gL_9, gL_10, gL_11, gL_12, gL_13, gL_14, gL_15, gA_0, gA_1, gA_2, gA_3, gA_4, gA_5, gA_6, gA_7, gA_8, gA_9, gA_10, gA_11, gA_12, gA_13, gA_14, gA_15, p1_0, p1_1, p1_2, p1_3, p1_4, p1_5, p1_6, p1_7, p1_8, p1_9, p1_10, p1_11, p1_12, p1_13, p1_14, p1_15, p2_0, p2_1, p2_2, p2_3, p2_4, p2_5, p2_6, p2_7, p2_8, p2_9, p2_10, p2_11, p2_12, p2_13, p2_14, p2_15, km, bk1.2.1, bk1.2.2.1, bk1.2.2.2, s1, s2, s3, s4, s5, ix_nI u1, ix_nI u2, ix_nI u3, ix_nI u4, ix_nI u5, nI_pos' u1, nI_pos' u2, nI_pos' u3, nI_pos' u4, nI_pos' u5, v1, v2, v3, v4, v5]
    refine o_row M1 gS gH (fun y2 e2 n2 => absurd (e2.symm.trans e) n2) fun _ h2 f2 e2 M2 => ?_
    simp only [s268_1311, s268_1314, oB_some, cl2_i, cl2_r, cl2_l, cl2_u, cl2_s, wd_0, wd_i, wd_r, wd_l, wd_f, ct_i, ct_r, ct_n, ct_f, rf_s, rf_n, tl_s, tl_n, true_and, and_true, eq_self, and_self, Nat.reduceAdd, Nat.reduceLeDiff, Nat.zero_le, Nat.reduceEqDiff, or_true, true_or, false_or, or_false, if_true, if_false, gI_0, gI_1, gI_2, gI_3, gI_4, gI_5, gI_6, gI_7, gI_8, gI_9, gI_10, gI_11, gI_12, gI_13, gI_14, gI_15, gL_0, gL_1, gL_2, gL_3, gL_4, gL_5, gL_6, gL_7, gL_8, gL_9, gL_10, gL_11, gL_12, gL_13, gL_14, gL_15, gA_0, gA_1, gA_2, gA_3, gA_4, gA_5, gA_6, gA_7, gA_8, gA_9, gA_10, gA_11, gA_12, gA_13, gA_14, gA_15, p1_0, p1_1, p1_2, p1_3, p1_4, p1_5, p1_6, p1_7, p1_8, p1_9, p1_10, p1_11, p1_12, p1_13, p1_14, p1_15, p2_0, p2_1, p2_2, p2_3, p2_4, p2_5, p2_6, p2_7, p2_8, p2_9, p2_10, p2_11, p2_12, p2_13, p2_14, p2_15, b01_ok, b_ft, b_tf, b01_e0, b01_e1, lgc_0, not_true_eq_false, not_false_eq_true]
    exact nx _ _ _ _ _ _ _ _ _ (by omega) (by omega) (a.step f1 e1 C1 f2 e2 M2 gS gH)
set_option maxHeartbeats 4000000 in
theorem lc_judge {b L x tl len i c s : Nat} {xs : Nat → Int32} {h : HP} {tp r : Nat → Nat} {S : VS} {H : HS} {Q : PQ} (a : LI b L xs h x S H tp tl r len) (hi : i + 6 ≤ L) (hL : L ≤ 3072) (hc : 12 ≤ c) (hs : 172 ≤ s)
    (nx : ∀ h' S' H' tp' tl' r' len' c' s', c ≤ c' + 12 → s ≤ s' + 172 → LI b L xs h' x S' H' tp' tl' r' len' → WP 11 268 Q (1434, [.val (.ref b), .val (.ref x), .val (.ref (x + 34)), .val (.int (nI i))], [], h', c', s')) : WP 11 268 Q (1316, [.val (.ref b), .val (.ref x), .val (.ref (x + 34)), .val (.int (nI i))], [], h, c, s) := by
  have a0 := a
  obtain ⟨C, M, ⟨gS, gH⟩, rf, bk⟩ := a0
  have bk1 : SKb b L xs x h := bk
  have s1 : nI i + 1 = nI (i + 1) := nI_add i 1
  have s2 : nI i + 2 = nI (i + 2) := nI_add i 2
  have s3 : nI i + 3 = nI (i + 3) := nI_add i 3
  have s4 : nI i + 4 = nI (i + 4) := nI_add i 4
  have s5 : nI i + 5 = nI (i + 5) := nI_add i 5
  have u1 : i + 1 < 2 ^ 31 := by omega
  have u2 : i + 2 < 2 ^ 31 := by omega
  have u3 : i + 3 < 2 ^ 31 := by omega
  have u4 : i + 4 < 2 ^ 31 := by omega
  have u5 : i + 5 < 2 ^ 31 := by omega
  have v1 : i + 1 < L := by omega
  have v2 : i + 2 < L := by omega
  have v3 : i + 3 < L := by omega
  have v4 : i + 4 < L := by omega
  have v5 : i + 5 < L := by omega
  have kx : hkd h x = 15 := C.1.1.1.1
  simp only [s268_1316, s268_1317, oB_some, cl2_i, cl2_r, cl2_l, cl2_u, cl2_s, wd_0, wd_i, wd_r, wd_l, wd_f, ct_i, ct_r, ct_n, ct_f, rf_s, rf_n, tl_s, tl_n, true_and, and_true, eq_self, and_self, Nat.reduceAdd, Nat.reduceLeDiff, Nat.zero_le, Nat.reduceEqDiff, or_true, true_or, false_or, or_false, if_true, if_false, gI_0, gI_1, gI_2, gI_3, gI_4, gI_5, gI_6, gI_7, gI_8, gI_9, gI_10, gI_11, gI_12, gI_13, gI_14, gI_15, gL_0, gL_1, gL_2, gL_3, gL_4, gL_5, gL_6, gL_7, gL_8, gL_9, gL_10, gL_11, gL_12, gL_13, gL_14, gL_15, gA_0, gA_1, gA_2, gA_3, gA_4, gA_5, gA_6, gA_7, gA_8, gA_9, gA_10, gA_11, gA_12, gA_13, gA_14, gA_15, p1_0, p1_1, p1_2, p1_3, p1_4, p1_5, p1_6, p1_7, p1_8, p1_9, p1_10, p1_11, p1_12, p1_13, p1_14, p1_15, p2_0, p2_1, p2_2, p2_3, p2_4, p2_5, p2_6, p2_7, p2_8, p2_9, p2_10, p2_11, p2_12, p2_13, p2_14, p2_15, kx, hc, hs, bk1.2.1, bk1.2.2.1, bk1.2.2.2, s1, s2, s3, s4, s5, ix_nI u1, ix_nI u2, ix_nI u3, ix_nI u4, ix_nI u5, nI_pos' u1, nI_pos' u2, nI_pos' u3, nI_pos' u4, nI_pos' u5, v1, v2, v3, v4, v5]
  refine x_judge C gS gH fun h1 f1 e1 C1 => ?_
  have fa1 := f1
  have bk1 := bk1.fa fa1
  have M1 := M.fa gH fa1
  have km : hkd h1 (x + 34) = 16 := M1.1.1.1.1.1
  simp only [s268_1320, s268_1321, oB_some, cl2_i, cl2_r, cl2_l, cl2_u, cl2_s, wd_0, wd_i, wd_r, wd_l, wd_f, ct_i, ct_r, ct_n, ct_f, rf_s, rf_n, tl_s, tl_n, true_and, and_true, eq_self, and_self, Nat.reduceAdd, Nat.reduceLeDiff, Nat.zero_le, Nat.reduceEqDiff, or_true, true_or, false_or, or_false, if_true, if_false, gI_0, gI_1, gI_2, gI_3, gI_4, gI_5, gI_6, gI_7, gI_8, gI_9, gI_10, gI_11, gI_12, gI_13, gI_14, gI_15, gL_0, gL_1, gL_2, gL_3, gL_4, gL_5, gL_6, gL_7, gL_8, gL_9, gL_10, gL_11, gL_12, gL_13, gL_14, gL_15, gA_0, gA_1, gA_2, gA_3, gA_4, gA_5, gA_6, gA_7, gA_8, gA_9, gA_10, gA_11, gA_12, gA_13, gA_14, gA_15, p1_0, p1_1, p1_2, p1_3, p1_4, p1_5, p1_6, p1_7, p1_8, p1_9, p1_10, p1_11, p1_12, p1_13, p1_14, p1_15, p2_0, p2_1, p2_2, p2_3, p2_4, p2_5, p2_6, p2_7, p2_8, p2_9, p2_10, p2_11, p2_12, p2_13, p2_14, p2_15, km, bk1.2.1, bk1.2.2.1, bk1.2.2.2, s1, s2, s3, s4, s5, ix_nI u1, ix_nI u2, ix_nI u3, ix_nI u4, ix_nI u5, nI_pos' u1, nI_pos' u2, nI_pos' u3, nI_pos' u4, nI_pos' u5, v1, v2, v3, v4, v5]
  refine o_judge M1 gS gH fun h2 f2 e2 M2 => ?_
  simp only [s268_1324, s268_1327, oB_some, cl2_i, cl2_r, cl2_l, cl2_u, cl2_s, wd_0, wd_i, wd_r, wd_l, wd_f, ct_i, ct_r, ct_n, ct_f, rf_s, rf_n, tl_s, tl_n, true_and, and_true, eq_self, and_self, Nat.reduceAdd, Nat.reduceLeDiff, Nat.zero_le, Nat.reduceEqDiff, or_true, true_or, false_or, or_false, if_true, if_false, gI_0, gI_1, gI_2, gI_3, gI_4, gI_5, gI_6, gI_7, gI_8, gI_9, gI_10, gI_11, gI_12, gI_13, gI_14, gI_15, gL_0, gL_1, gL_2, gL_3, gL_4, gL_5, gL_6, gL_7, gL_8, gL_9, gL_10, gL_11, gL_12, gL_13, gL_14, gL_15, gA_0, gA_1, gA_2, gA_3, gA_4, gA_5, gA_6, gA_7, gA_8, gA_9, gA_10, gA_11, gA_12, gA_13, gA_14, gA_15, p1_0, p1_1, p1_2, p1_3, p1_4, p1_5, p1_6, p1_7, p1_8, p1_9, p1_10, p1_11, p1_12, p1_13, p1_14, p1_15, p2_0, p2_1, p2_2, p2_3, p2_4, p2_5, p2_6, p2_7, p2_8, p2_9, p2_10, p2_11, p2_12, p2_13, p2_14, p2_15, b01_ok, b_ft, b_tf, b01_e0, b01_e1, lgc_0, not_true_eq_false, not_false_eq_true]
  exact nx _ _ _ _ _ _ _ _ _ (by omega) (by omega) (a.step f1 e1 C1 f2 e2 M2 gS gH)
set_option maxHeartbeats 4000000 in
theorem lc_clear {b L x tl len i c s : Nat} {xs : Nat → Int32} {h : HP} {tp r : Nat → Nat} {S : VS} {H : HS} {Q : PQ} (a : LI b L xs h x S H tp tl r len) (hi : i + 6 ≤ L) (hL : L ≤ 3072) (hc : 12 ≤ c) (hs : 172 ≤ s)
    (nx : ∀ h' S' H' tp' tl' r' len' c' s', c ≤ c' + 12 → s ≤ s' + 172 → LI b L xs h' x S' H' tp' tl' r' len' → WP 11 268 Q (1434, [.val (.ref b), .val (.ref x), .val (.ref (x + 34)), .val (.int (nI i))], [], h', c', s')) : WP 11 268 Q (1329, [.val (.ref b), .val (.ref x), .val (.ref (x + 34)), .val (.int (nI i))], [], h, c, s) := by
  have a0 := a
  obtain ⟨C, M, ⟨gS, gH⟩, rf, bk⟩ := a0
  have bk1 : SKb b L xs x h := bk
  have s1 : nI i + 1 = nI (i + 1) := nI_add i 1
  have s2 : nI i + 2 = nI (i + 2) := nI_add i 2
  have s3 : nI i + 3 = nI (i + 3) := nI_add i 3
  have s4 : nI i + 4 = nI (i + 4) := nI_add i 4
  have s5 : nI i + 5 = nI (i + 5) := nI_add i 5
  have u1 : i + 1 < 2 ^ 31 := by omega
  have u2 : i + 2 < 2 ^ 31 := by omega
  have u3 : i + 3 < 2 ^ 31 := by omega
  have u4 : i + 4 < 2 ^ 31 := by omega
  have u5 : i + 5 < 2 ^ 31 := by omega
  have v1 : i + 1 < L := by omega
  have v2 : i + 2 < L := by omega
  have v3 : i + 3 < L := by omega
  have v4 : i + 4 < L := by omega
  have v5 : i + 5 < L := by omega
  have kx : hkd h x = 15 := C.1.1.1.1
  simp only [s268_1329, s268_1330, oB_some, cl2_i, cl2_r, cl2_l, cl2_u, cl2_s, wd_0, wd_i, wd_r, wd_l, wd_f, ct_i, ct_r, ct_n, ct_f, rf_s, rf_n, tl_s, tl_n, true_and, and_true, eq_self, and_self, Nat.reduceAdd, Nat.reduceLeDiff, Nat.zero_le, Nat.reduceEqDiff, or_true, true_or, false_or, or_false, if_true, if_false, gI_0, gI_1, gI_2, gI_3, gI_4, gI_5, gI_6, gI_7, gI_8, gI_9, gI_10, gI_11, gI_12, gI_13, gI_14, gI_15, gL_0, gL_1, gL_2, gL_3, gL_4, gL_5, gL_6, gL_7, gL_8, gL_9, gL_10, gL_11, gL_12, gL_13, gL_14, gL_15, gA_0, gA_1, gA_2, gA_3, gA_4, gA_5, gA_6, gA_7, gA_8, gA_9, gA_10, gA_11, gA_12, gA_13, gA_14, gA_15, p1_0, p1_1, p1_2, p1_3, p1_4, p1_5, p1_6, p1_7, p1_8, p1_9, p1_10, p1_11, p1_12, p1_13, p1_14, p1_15, p2_0, p2_1, p2_2, p2_3, p2_4, p2_5, p2_6, p2_7, p2_8, p2_9, p2_10, p2_11, p2_12, p2_13, p2_14, p2_15, kx, hc, hs, bk1.2.1, bk1.2.2.1, bk1.2.2.2, s1, s2, s3, s4, s5, ix_nI u1, ix_nI u2, ix_nI u3, ix_nI u4, ix_nI u5, nI_pos' u1, nI_pos' u2, nI_pos' u3, nI_pos' u4, nI_pos' u5, v1, v2, v3, v4, v5]
  refine x_clear C gS gH fun h1 f1 e1 C1 => ?_
  have fa1 := f1
  have bk1 := bk1.fa fa1
  have M1 := M.fa gH fa1
  have km : hkd h1 (x + 34) = 16 := M1.1.1.1.1.1
  simp only [s268_1333, s268_1334, oB_some, cl2_i, cl2_r, cl2_l, cl2_u, cl2_s, wd_0, wd_i, wd_r, wd_l, wd_f, ct_i, ct_r, ct_n, ct_f, rf_s, rf_n, tl_s, tl_n, true_and, and_true, eq_self, and_self, Nat.reduceAdd, Nat.reduceLeDiff, Nat.zero_le, Nat.reduceEqDiff, or_true, true_or, false_or, or_false, if_true, if_false, gI_0, gI_1, gI_2, gI_3, gI_4, gI_5, gI_6, gI_7, gI_8, gI_9, gI_10, gI_11, gI_12, gI_13, gI_14, gI_15, gL_0, gL_1, gL_2, gL_3, gL_4, gL_5, gL_6, gL_7, gL_8, gL_9, gL_10, gL_11, gL_12, gL_13, gL_14, gL_15, gA_0, gA_1, gA_2, gA_3, gA_4, gA_5, gA_6, gA_7, gA_8, gA_9, gA_10, gA_11, gA_12, gA_13, gA_14, gA_15, p1_0, p1_1, p1_2, p1_3, p1_4, p1_5, p1_6, p1_7, p1_8, p1_9, p1_10, p1_11, p1_12, p1_13, p1_14, p1_15, p2_0, p2_1, p2_2, p2_3, p2_4, p2_5, p2_6, p2_7, p2_8, p2_9, p2_10, p2_11, p2_12, p2_13, p2_14, p2_15, km, bk1.2.1, bk1.2.2.1, bk1.2.2.2, s1, s2, s3, s4, s5, ix_nI u1, ix_nI u2, ix_nI u3, ix_nI u4, ix_nI u5, nI_pos' u1, nI_pos' u2, nI_pos' u3, nI_pos' u4, nI_pos' u5, v1, v2, v3, v4, v5]
  refine o_clear M1 gS gH fun h2 f2 e2 M2 => ?_
  simp only [s268_1337, s268_1340, oB_some, cl2_i, cl2_r, cl2_l, cl2_u, cl2_s, wd_0, wd_i, wd_r, wd_l, wd_f, ct_i, ct_r, ct_n, ct_f, rf_s, rf_n, tl_s, tl_n, true_and, and_true, eq_self, and_self, Nat.reduceAdd, Nat.reduceLeDiff, Nat.zero_le, Nat.reduceEqDiff, or_true, true_or, false_or, or_false, if_true, if_false, gI_0, gI_1, gI_2, gI_3, gI_4, gI_5, gI_6, gI_7, gI_8, gI_9, gI_10, gI_11, gI_12, gI_13, gI_14, gI_15, gL_0, gL_1, gL_2, gL_3, gL_4, gL_5, gL_6, gL_7, gL_8, gL_9, gL_10, gL_11, gL_12, gL_13, gL_14, gL_15, gA_0, gA_1, gA_2, gA_3, gA_4, gA_5, gA_6, gA_7, gA_8, gA_9, gA_10, gA_11, gA_12, gA_13, gA_14, gA_15, p1_0, p1_1, p1_2, p1_3, p1_4, p1_5, p1_6, p1_7, p1_8, p1_9, p1_10, p1_11, p1_12, p1_13, p1_14, p1_15, p2_0, p2_1, p2_2, p2_3, p2_4, p2_5, p2_6, p2_7, p2_8, p2_9, p2_10, p2_11, p2_12, p2_13, p2_14, p2_15, b01_ok, b_ft, b_tf, b01_e0, b01_e1, lgc_0, not_true_eq_false, not_false_eq_true]
  exact nx _ _ _ _ _ _ _ _ _ (by omega) (by omega) (a.step f1 e1 C1 f2 e2 M2 gS gH)
set_option maxHeartbeats 4000000 in
theorem lc_image {b L x tl len i c s : Nat} {xs : Nat → Int32} {h : HP} {tp r : Nat → Nat} {S : VS} {H : HS} {Q : PQ} (a : LI b L xs h x S H tp tl r len) (hi : i + 6 ≤ L) (hL : L ≤ 3072) (hc : 12 ≤ c) (hs : 172 ≤ s)
    (nx : ∀ h' S' H' tp' tl' r' len' c' s', c ≤ c' + 12 → s ≤ s' + 172 → LI b L xs h' x S' H' tp' tl' r' len' → WP 11 268 Q (1434, [.val (.ref b), .val (.ref x), .val (.ref (x + 34)), .val (.int (nI i))], [], h', c', s')) : WP 11 268 Q (1385, [.val (.ref b), .val (.ref x), .val (.ref (x + 34)), .val (.int (nI i))], [], h, c, s) := by
  have a0 := a
  obtain ⟨C, M, ⟨gS, gH⟩, rf, bk⟩ := a0
  have bk1 : SKb b L xs x h := bk
  have s1 : nI i + 1 = nI (i + 1) := nI_add i 1
  have s2 : nI i + 2 = nI (i + 2) := nI_add i 2
  have s3 : nI i + 3 = nI (i + 3) := nI_add i 3
  have s4 : nI i + 4 = nI (i + 4) := nI_add i 4
  have s5 : nI i + 5 = nI (i + 5) := nI_add i 5
  have u1 : i + 1 < 2 ^ 31 := by omega
  have u2 : i + 2 < 2 ^ 31 := by omega
  have u3 : i + 3 < 2 ^ 31 := by omega
  have u4 : i + 4 < 2 ^ 31 := by omega
  have u5 : i + 5 < 2 ^ 31 := by omega
  have v1 : i + 1 < L := by omega
  have v2 : i + 2 < L := by omega
  have v3 : i + 3 < L := by omega
  have v4 : i + 4 < L := by omega
  have v5 : i + 5 < L := by omega
  have kx : hkd h x = 15 := C.1.1.1.1
  simp only [s268_1385, s268_1386, oB_some, cl2_i, cl2_r, cl2_l, cl2_u, cl2_s, wd_0, wd_i, wd_r, wd_l, wd_f, ct_i, ct_r, ct_n, ct_f, rf_s, rf_n, tl_s, tl_n, true_and, and_true, eq_self, and_self, Nat.reduceAdd, Nat.reduceLeDiff, Nat.zero_le, Nat.reduceEqDiff, or_true, true_or, false_or, or_false, if_true, if_false, gI_0, gI_1, gI_2, gI_3, gI_4, gI_5, gI_6, gI_7, gI_8, gI_9, gI_10, gI_11, gI_12, gI_13, gI_14, gI_15, gL_0, gL_1, gL_2, gL_3, gL_4, gL_5, gL_6, gL_7, gL_8, gL_9, gL_10, gL_11, gL_12, gL_13, gL_14, gL_15, gA_0, gA_1, gA_2, gA_3, gA_4, gA_5, gA_6, gA_7, gA_8, gA_9, gA_10, gA_11, gA_12, gA_13, gA_14, gA_15, p1_0, p1_1, p1_2, p1_3, p1_4, p1_5, p1_6, p1_7, p1_8, p1_9, p1_10, p1_11, p1_12, p1_13, p1_14, p1_15, p2_0, p2_1, p2_2, p2_3, p2_4, p2_5, p2_6, p2_7, p2_8, p2_9, p2_10, p2_11, p2_12, p2_13, p2_14, p2_15, kx, hc, hs, bk1.2.1, bk1.2.2.1, bk1.2.2.2, s1, s2, s3, s4, s5, ix_nI u1, ix_nI u2, ix_nI u3, ix_nI u4, ix_nI u5, nI_pos' u1, nI_pos' u2, nI_pos' u3, nI_pos' u4, nI_pos' u5, v1, v2, v3, v4, v5]
  refine x_image C gS gH fun h1 f1 e1 C1 => ?_
  have fa1 := f1
  have bk1 := bk1.fa fa1
  have M1 := M.fa gH fa1
  have km : hkd h1 (x + 34) = 16 := M1.1.1.1.1.1
  simp only [s268_1389, s268_1390, oB_some, cl2_i, cl2_r, cl2_l, cl2_u, cl2_s, wd_0, wd_i, wd_r, wd_l, wd_f, ct_i, ct_r, ct_n, ct_f, rf_s, rf_n, tl_s, tl_n, true_and, and_true, eq_self, and_self, Nat.reduceAdd, Nat.reduceLeDiff, Nat.zero_le, Nat.reduceEqDiff, or_true, true_or, false_or, or_false, if_true, if_false, gI_0, gI_1, gI_2, gI_3, gI_4, gI_5, gI_6, gI_7, gI_8, gI_9, gI_10, gI_11, gI_12, gI_13, gI_14, gI_15, gL_0, gL_1, gL_2, gL_3, gL_4, gL_5, gL_6, gL_7, gL_8, gL_9, gL_10, gL_11, gL_12, gL_13, gL_14, gL_15, gA_0, gA_1, gA_2, gA_3, gA_4, gA_5, gA_6, gA_7, gA_8, gA_9, gA_10, gA_11, gA_12, gA_13, gA_14, gA_15, p1_0, p1_1, p1_2, p1_3, p1_4, p1_5, p1_6, p1_7, p1_8, p1_9, p1_10, p1_11, p1_12, p1_13, p1_14, p1_15, p2_0, p2_1, p2_2, p2_3, p2_4, p2_5, p2_6, p2_7, p2_8, p2_9, p2_10, p2_11, p2_12, p2_13, p2_14, p2_15, km, bk1.2.1, bk1.2.2.1, bk1.2.2.2, s1, s2, s3, s4, s5, ix_nI u1, ix_nI u2, ix_nI u3, ix_nI u4, ix_nI u5, nI_pos' u1, nI_pos' u2, nI_pos' u3, nI_pos' u4, nI_pos' u5, v1, v2, v3, v4, v5]
  refine o_image M1 gS gH fun h2 f2 e2 M2 => ?_
  simp only [s268_1393, s268_1396, oB_some, cl2_i, cl2_r, cl2_l, cl2_u, cl2_s, wd_0, wd_i, wd_r, wd_l, wd_f, ct_i, ct_r, ct_n, ct_f, rf_s, rf_n, tl_s, tl_n, true_and, and_true, eq_self, and_self, Nat.reduceAdd, Nat.reduceLeDiff, Nat.zero_le, Nat.reduceEqDiff, or_true, true_or, false_or, or_false, if_true, if_false, gI_0, gI_1, gI_2, gI_3, gI_4, gI_5, gI_6, gI_7, gI_8, gI_9, gI_10, gI_11, gI_12, gI_13, gI_14, gI_15, gL_0, gL_1, gL_2, gL_3, gL_4, gL_5, gL_6, gL_7, gL_8, gL_9, gL_10, gL_11, gL_12, gL_13, gL_14, gL_15, gA_0, gA_1, gA_2, gA_3, gA_4, gA_5, gA_6, gA_7, gA_8, gA_9, gA_10, gA_11, gA_12, gA_13, gA_14, gA_15, p1_0, p1_1, p1_2, p1_3, p1_4, p1_5, p1_6, p1_7, p1_8, p1_9, p1_10, p1_11, p1_12, p1_13, p1_14, p1_15, p2_0, p2_1, p2_2, p2_3, p2_4, p2_5, p2_6, p2_7, p2_8, p2_9, p2_10, p2_11, p2_12, p2_13, p2_14, p2_15, b01_ok, b_ft, b_tf, b01_e0, b01_e1, lgc_0, not_true_eq_false, not_false_eq_true]
  exact nx _ _ _ _ _ _ _ _ _ (by omega) (by omega) (a.step f1 e1 C1 f2 e2 M2 gS (gh_img gH gS))
set_option maxHeartbeats 4000000 in
theorem lc_restore {b L x tl len i c s : Nat} {xs : Nat → Int32} {h : HP} {tp r : Nat → Nat} {S : VS} {H : HS} {Q : PQ} (a : LI b L xs h x S H tp tl r len) (hi : i + 6 ≤ L) (hL : L ≤ 3072) (hc : 12 ≤ c) (hs : 172 ≤ s)
    (nx : ∀ h' S' H' tp' tl' r' len' c' s', c ≤ c' + 12 → s ≤ s' + 172 → LI b L xs h' x S' H' tp' tl' r' len' → WP 11 268 Q (1434, [.val (.ref b), .val (.ref x), .val (.ref (x + 34)), .val (.int (nI i))], [], h', c', s')) : WP 11 268 Q (1398, [.val (.ref b), .val (.ref x), .val (.ref (x + 34)), .val (.int (nI i))], [], h, c, s) := by
  have a0 := a
  obtain ⟨C, M, ⟨gS, gH⟩, rf, bk⟩ := a0
  have bk1 : SKb b L xs x h := bk
  have s1 : nI i + 1 = nI (i + 1) := nI_add i 1
  have s2 : nI i + 2 = nI (i + 2) := nI_add i 2
  have s3 : nI i + 3 = nI (i + 3) := nI_add i 3
  have s4 : nI i + 4 = nI (i + 4) := nI_add i 4
  have s5 : nI i + 5 = nI (i + 5) := nI_add i 5
  have u1 : i + 1 < 2 ^ 31 := by omega
  have u2 : i + 2 < 2 ^ 31 := by omega
  have u3 : i + 3 < 2 ^ 31 := by omega
  have u4 : i + 4 < 2 ^ 31 := by omega
  have u5 : i + 5 < 2 ^ 31 := by omega
  have v1 : i + 1 < L := by omega
  have v2 : i + 2 < L := by omega
  have v3 : i + 3 < L := by omega
  have v4 : i + 4 < L := by omega
  have v5 : i + 5 < L := by omega
  have kx : hkd h x = 15 := C.1.1.1.1
  simp only [s268_1398, s268_1399, oB_some, cl2_i, cl2_r, cl2_l, cl2_u, cl2_s, wd_0, wd_i, wd_r, wd_l, wd_f, ct_i, ct_r, ct_n, ct_f, rf_s, rf_n, tl_s, tl_n, true_and, and_true, eq_self, and_self, Nat.reduceAdd, Nat.reduceLeDiff, Nat.zero_le, Nat.reduceEqDiff, or_true, true_or, false_or, or_false, if_true, if_false, gI_0, gI_1, gI_2, gI_3, gI_4, gI_5, gI_6, gI_7, gI_8, gI_9, gI_10, gI_11, gI_12, gI_13, gI_14, gI_15, gL_0, gL_1, gL_2, gL_3, gL_4, gL_5, gL_6, gL_7, gL_8, gL_9, gL_10, gL_11, gL_12, gL_13, gL_14, gL_15, gA_0, gA_1, gA_2, gA_3, gA_4, gA_5, gA_6, gA_7, gA_8, gA_9, gA_10, gA_11, gA_12, gA_13, gA_14, gA_15, p1_0, p1_1, p1_2, p1_3, p1_4, p1_5, p1_6, p1_7, p1_8, p1_9, p1_10, p1_11, p1_12, p1_13, p1_14, p1_15, p2_0, p2_1, p2_2, p2_3, p2_4, p2_5, p2_6, p2_7, p2_8, p2_9, p2_10, p2_11, p2_12, p2_13, p2_14, p2_15, kx, hc, hs, bk1.2.1, bk1.2.2.1, bk1.2.2.2, s1, s2, s3, s4, s5, ix_nI u1, ix_nI u2, ix_nI u3, ix_nI u4, ix_nI u5, nI_pos' u1, nI_pos' u2, nI_pos' u3, nI_pos' u4, nI_pos' u5, v1, v2, v3, v4, v5]
  refine x_restore C gS gH (fun e => ?_) fun I e h1 f1 e1 C1 => ?_
  · skip
    obtain ⟨h1, eh⟩ : ∃ z, z = RfC h x (-3) := ⟨_, rfl⟩
    have fa1 : FA x h h1 := by rw [eh]; exact RfC.fa
    rw [← eh]
    have bk1 := bk1.fa fa1
    have M1 := M.fa gH fa1
    have km : hkd h1 (x + 34) = 16 := M1.1.1.1.1.1
    simp only [s268_1402, s268_1403, oB_some, cl2_i, cl2_r, cl2_l, cl2_u, cl2_s, wd_0, wd_i, wd_r, wd_l, wd_f, ct_i, ct_r, ct_n, ct_f, rf_s, rf_n, tl_s, tl_n, true_and, and_true, eq_self, and_self, Nat.reduceAdd, Nat.reduceLeDiff, Nat.zero_le, Nat.reduceEqDiff, or_true, true_or, false_or, or_false, if_true, if_false, gI_0, gI_1, gI_2, gI_3, gI_4, gI_5, gI_6, gI_7, gI_8, gI_9, gI_10, gI_11, gI_12, gI_13, gI_14, gI_15, gL_0, gL_1, gL_2, gL_3, gL_4, gL_5, gL_6, gL_7, gL_8, gL_9, gL_10, gL_11, gL_12, gL_13, gL_14, gL_15, gA_0, gA_1, gA_2, gA_3, gA_4, gA_5, gA_6, gA_7, gA_8, gA_9, gA_10, gA_11, gA_12, gA_13, gA_14, gA_15, p1_0, p1_1, p1_2, p1_3, p1_4, p1_5, p1_6, p1_7, p1_8, p1_9, p1_10, p1_11, p1_12, p1_13, p1_14, p1_15, p2_0, p2_1, p2_2, p2_3, p2_4, p2_5, p2_6, p2_7, p2_8, p2_9, p2_10, p2_11, p2_12, p2_13, p2_14, p2_15, km, bk1.2.1, bk1.2.2.1, bk1.2.2.2, s1, s2, s3, s4, s5, ix_nI u1, ix_nI u2, ix_nI u3, ix_nI u4, ix_nI u5, nI_pos' u1, nI_pos' u2, nI_pos' u3, nI_pos' u4, nI_pos' u5, v1, v2, v3, v4, v5]
    refine o_restore M1 gS gH (fun _ => ?_) fun I z => absurd (e.symm.trans z) (by simp)
    simp only [s268_1406, s268_1409, oB_some, cl2_i, cl2_r, cl2_l, cl2_u, cl2_s, wd_0, wd_i, wd_r, wd_l, wd_f, ct_i, ct_r, ct_n, ct_f, rf_s, rf_n, tl_s, tl_n, true_and, and_true, eq_self, and_self, Nat.reduceAdd, Nat.reduceLeDiff, Nat.zero_le, Nat.reduceEqDiff, or_true, true_or, false_or, or_false, if_true, if_false, gI_0, gI_1, gI_2, gI_3, gI_4, gI_5, gI_6, gI_7, gI_8, gI_9, gI_10, gI_11, gI_12, gI_13, gI_14, gI_15, gL_0, gL_1, gL_2, gL_3, gL_4, gL_5, gL_6, gL_7, gL_8, gL_9, gL_10, gL_11, gL_12, gL_13, gL_14, gL_15, gA_0, gA_1, gA_2, gA_3, gA_4, gA_5, gA_6, gA_7, gA_8, gA_9, gA_10, gA_11, gA_12, gA_13, gA_14, gA_15, p1_0, p1_1, p1_2, p1_3, p1_4, p1_5, p1_6, p1_7, p1_8, p1_9, p1_10, p1_11, p1_12, p1_13, p1_14, p1_15, p2_0, p2_1, p2_2, p2_3, p2_4, p2_5, p2_6, p2_7, p2_8, p2_9, p2_10, p2_11, p2_12, p2_13, p2_14, p2_15, b01_ok, b_ft, b_tf, b01_e0, b01_e1, lgc_0, not_true_eq_false, not_false_eq_true]
    rw [eh]
    exact nx _ _ _ _ _ _ _ _ _ (by omega) (by omega) (a.refuse (-3))
  · skip
    have fa1 := f1
    have bk1 := bk1.fa fa1
    have M1 := M.fa gH fa1
    have km : hkd h1 (x + 34) = 16 := M1.1.1.1.1.1
    simp only [s268_1402, s268_1403, oB_some, cl2_i, cl2_r, cl2_l, cl2_u, cl2_s, wd_0, wd_i, wd_r, wd_l, wd_f, ct_i, ct_r, ct_n, ct_f, rf_s, rf_n, tl_s, tl_n, true_and, and_true, eq_self, and_self, Nat.reduceAdd, Nat.reduceLeDiff, Nat.zero_le, Nat.reduceEqDiff, or_true, true_or, false_or, or_false, if_true, if_false, gI_0, gI_1, gI_2, gI_3, gI_4, gI_5, gI_6, gI_7, gI_8, gI_9, gI_10, gI_11, gI_12, gI_13, gI_14, gI_15, gL_0, gL_1, gL_2, gL_3, gL_4, gL_5, gL_6, gL_7, gL_8, gL_9, gL_10, gL_11, gL_12, gL_13, gL_14, gL_15, gA_0, gA_1, gA_2, gA_3, gA_4, gA_5, gA_6, gA_7, gA_8, gA_9, gA_10, gA_11, gA_12, gA_13, gA_14, gA_15, p1_0, p1_1, p1_2, p1_3, p1_4, p1_5, p1_6, p1_7, p1_8, p1_9, p1_10, p1_11, p1_12, p1_13, p1_14, p1_15, p2_0, p2_1, p2_2, p2_3, p2_4, p2_5, p2_6, p2_7, p2_8, p2_9, p2_10, p2_11, p2_12, p2_13, p2_14, p2_15, km, bk1.2.1, bk1.2.2.1, bk1.2.2.2, s1, s2, s3, s4, s5, ix_nI u1, ix_nI u2, ix_nI u3, ix_nI u4, ix_nI u5, nI_pos' u1, nI_pos' u2, nI_pos' u3, nI_pos' u4, nI_pos' u5, v1, v2, v3, v4, v5]
    refine o_restore M1 gS gH (fun z => absurd (z.symm.trans e) (by simp)) fun I2 z h2 f2 e2 M2 => ?_
    obtain rfl := Option.some.inj (z.symm.trans e)
    simp only [s268_1406, s268_1409, oB_some, cl2_i, cl2_r, cl2_l, cl2_u, cl2_s, wd_0, wd_i, wd_r, wd_l, wd_f, ct_i, ct_r, ct_n, ct_f, rf_s, rf_n, tl_s, tl_n, true_and, and_true, eq_self, and_self, Nat.reduceAdd, Nat.reduceLeDiff, Nat.zero_le, Nat.reduceEqDiff, or_true, true_or, false_or, or_false, if_true, if_false, gI_0, gI_1, gI_2, gI_3, gI_4, gI_5, gI_6, gI_7, gI_8, gI_9, gI_10, gI_11, gI_12, gI_13, gI_14, gI_15, gL_0, gL_1, gL_2, gL_3, gL_4, gL_5, gL_6, gL_7, gL_8, gL_9, gL_10, gL_11, gL_12, gL_13, gL_14, gL_15, gA_0, gA_1, gA_2, gA_3, gA_4, gA_5, gA_6, gA_7, gA_8, gA_9, gA_10, gA_11, gA_12, gA_13, gA_14, gA_15, p1_0, p1_1, p1_2, p1_3, p1_4, p1_5, p1_6, p1_7, p1_8, p1_9, p1_10, p1_11, p1_12, p1_13, p1_14, p1_15, p2_0, p2_1, p2_2, p2_3, p2_4, p2_5, p2_6, p2_7, p2_8, p2_9, p2_10, p2_11, p2_12, p2_13, p2_14, p2_15, b01_ok, b_ft, b_tf, b01_e0, b01_e1, lgc_0, not_true_eq_false, not_false_eq_true]
    exact nx _ _ _ _ _ _ _ _ _ (by omega) (by omega) (a.step f1 e1 C1 f2 e2 M2 (gH.2.1 _ e) (gh_drop gH))
set_option maxHeartbeats 4000000 in
theorem lc_count {b L x tl len i c s : Nat} {xs : Nat → Int32} {h : HP} {tp r : Nat → Nat} {S : VS} {H : HS} {Q : PQ} (a : LI b L xs h x S H tp tl r len) (hi : i + 6 ≤ L) (hL : L ≤ 3072) (hc : 12 ≤ c) (hs : 172 ≤ s)
    (nx : ∀ h' S' H' tp' tl' r' len' c' s', c ≤ c' + 12 → s ≤ s' + 172 → LI b L xs h' x S' H' tp' tl' r' len' → WP 11 268 Q (1434, [.val (.ref b), .val (.ref x), .val (.ref (x + 34)), .val (.int (nI i))], [], h', c', s')) : WP 11 268 Q (1411, [.val (.ref b), .val (.ref x), .val (.ref (x + 34)), .val (.int (nI i))], [], h, c, s) := by
  have a0 := a
  obtain ⟨C, M, ⟨gS, gH⟩, rf, bk⟩ := a0
  have bk1 : SKb b L xs x h := bk
  have s1 : nI i + 1 = nI (i + 1) := nI_add i 1
  have s2 : nI i + 2 = nI (i + 2) := nI_add i 2
  have s3 : nI i + 3 = nI (i + 3) := nI_add i 3
  have s4 : nI i + 4 = nI (i + 4) := nI_add i 4
  have s5 : nI i + 5 = nI (i + 5) := nI_add i 5
  have u1 : i + 1 < 2 ^ 31 := by omega
  have u2 : i + 2 < 2 ^ 31 := by omega
  have u3 : i + 3 < 2 ^ 31 := by omega
  have u4 : i + 4 < 2 ^ 31 := by omega
  have u5 : i + 5 < 2 ^ 31 := by omega
  have v1 : i + 1 < L := by omega
  have v2 : i + 2 < L := by omega
  have v3 : i + 3 < L := by omega
  have v4 : i + 4 < L := by omega
  have v5 : i + 5 < L := by omega
  have kx : hkd h x = 15 := C.1.1.1.1
  simp only [s268_1411, s268_1412, s268_1413, s268_1414, s268_1415, s268_1416, s268_1417, oB_some, cl2_i, cl2_r, cl2_l, cl2_u, cl2_s, wd_0, wd_i, wd_r, wd_l, wd_f, ct_i, ct_r, ct_n, ct_f, rf_s, rf_n, tl_s, tl_n, true_and, and_true, eq_self, and_self, Nat.reduceAdd, Nat.reduceLeDiff, Nat.zero_le, Nat.reduceEqDiff, or_true, true_or, false_or, or_false, if_true, if_false, gI_0, gI_1, gI_2, gI_3, gI_4, gI_5, gI_6, gI_7, gI_8, gI_9, gI_10, gI_11, gI_12, gI_13, gI_14, gI_15, gL_0, gL_1, gL_2, gL_3, gL_4, gL_5, gL_6, gL_7, gL_8, gL_9, gL_10, gL_11, gL_12, gL_13, gL_14, gL_15, gA_0, gA_1, gA_2, gA_3, gA_4, gA_5, gA_6, gA_7, gA_8, gA_9, gA_10, gA_11, gA_12, gA_13, gA_14, gA_15, p1_0, p1_1, p1_2, p1_3, p1_4, p1_5, p1_6, p1_7, p1_8, p1_9, p1_10, p1_11, p1_12, p1_13, p1_14, p1_15, p2_0, p2_1, p2_2, p2_3, p2_4, p2_5, p2_6, p2_7, p2_8, p2_9, p2_10, p2_11, p2_12, p2_13, p2_14, p2_15, kx, hc, hs, bk1.2.1, bk1.2.2.1, bk1.2.2.2, s1, s2, s3, s4, s5, ix_nI u1, ix_nI u2, ix_nI u3, ix_nI u4, ix_nI u5, nI_pos' u1, nI_pos' u2, nI_pos' u3, nI_pos' u4, nI_pos' u5, v1, v2, v3, v4, v5]
  refine x_count C gS gH ?_
  have km : hkd h (x + 34) = 16 := M.1.1.1.1.1
  simp only [s268_1420, s268_1421, s268_1422, s268_1423, s268_1424, s268_1425, s268_1426, oB_some, cl2_i, cl2_r, cl2_l, cl2_u, cl2_s, wd_0, wd_i, wd_r, wd_l, wd_f, ct_i, ct_r, ct_n, ct_f, rf_s, rf_n, tl_s, tl_n, true_and, and_true, eq_self, and_self, Nat.reduceAdd, Nat.reduceLeDiff, Nat.zero_le, Nat.reduceEqDiff, or_true, true_or, false_or, or_false, if_true, if_false, gI_0, gI_1, gI_2, gI_3, gI_4, gI_5, gI_6, gI_7, gI_8, gI_9, gI_10, gI_11, gI_12, gI_13, gI_14, gI_15, gL_0, gL_1, gL_2, gL_3, gL_4, gL_5, gL_6, gL_7, gL_8, gL_9, gL_10, gL_11, gL_12, gL_13, gL_14, gL_15, gA_0, gA_1, gA_2, gA_3, gA_4, gA_5, gA_6, gA_7, gA_8, gA_9, gA_10, gA_11, gA_12, gA_13, gA_14, gA_15, p1_0, p1_1, p1_2, p1_3, p1_4, p1_5, p1_6, p1_7, p1_8, p1_9, p1_10, p1_11, p1_12, p1_13, p1_14, p1_15, p2_0, p2_1, p2_2, p2_3, p2_4, p2_5, p2_6, p2_7, p2_8, p2_9, p2_10, p2_11, p2_12, p2_13, p2_14, p2_15, km, bk1.2.1, bk1.2.2.1, bk1.2.2.2, s1, s2, s3, s4, s5, ix_nI u1, ix_nI u2, ix_nI u3, ix_nI u4, ix_nI u5, nI_pos' u1, nI_pos' u2, nI_pos' u3, nI_pos' u4, nI_pos' u5, v1, v2, v3, v4, v5]
  refine o_count M gS gH (hI h (x + 6)) rf ?_
  simp only [s268_1429, s268_1432, oB_some, cl2_i, cl2_r, cl2_l, cl2_u, cl2_s, wd_0, wd_i, wd_r, wd_l, wd_f, ct_i, ct_r, ct_n, ct_f, rf_s, rf_n, tl_s, tl_n, true_and, and_true, eq_self, and_self, Nat.reduceAdd, Nat.reduceLeDiff, Nat.zero_le, Nat.reduceEqDiff, or_true, true_or, false_or, or_false, if_true, if_false, gI_0, gI_1, gI_2, gI_3, gI_4, gI_5, gI_6, gI_7, gI_8, gI_9, gI_10, gI_11, gI_12, gI_13, gI_14, gI_15, gL_0, gL_1, gL_2, gL_3, gL_4, gL_5, gL_6, gL_7, gL_8, gL_9, gL_10, gL_11, gL_12, gL_13, gL_14, gL_15, gA_0, gA_1, gA_2, gA_3, gA_4, gA_5, gA_6, gA_7, gA_8, gA_9, gA_10, gA_11, gA_12, gA_13, gA_14, gA_15, p1_0, p1_1, p1_2, p1_3, p1_4, p1_5, p1_6, p1_7, p1_8, p1_9, p1_10, p1_11, p1_12, p1_13, p1_14, p1_15, p2_0, p2_1, p2_2, p2_3, p2_4, p2_5, p2_6, p2_7, p2_8, p2_9, p2_10, p2_11, p2_12, p2_13, p2_14, p2_15, b01_ok, b_ft, b_tf, b01_e0, b01_e1, lgc_0, not_true_eq_false, not_false_eq_true]
  exact nx _ _ _ _ _ _ _ _ _ (by omega) (by omega) a
