-- written by gen99h.py: the law's turns, questions
def SKb (b L : Nat) (xs : Nat → Int32) (x : Nat) (h : HP) : Prop := b < x ∧ hkd h b = 1 ∧ hln h b = L ∧ ∀ j, hI h b j = xs j
theorem SKb.fa {b L x : Nat} {xs : Nat → Int32} {h h' : HP} (a : SKb b L xs x h) (f : FA x h h') : SKb b L xs x h' := by
  obtain ⟨a1, a2, a3, a4⟩ := a
  refine ⟨a1, ?_, ?_, fun j => ?_⟩
  · rw [(f.1 b (by omega)).1]; exact a2
  · rw [(f.1 b (by omega)).2.1]; exact a3
  · rw [(f.1 b (by omega)).2.2.1]; exact a4 j
set_option maxHeartbeats 4000000 in
theorem lc_person {b L x tl len i c s : Nat} {xs : Nat → Int32} {h : HP} {tp r : Nat → Nat} {S : VS} {H : HS} {Q : PQ} (a : LI b L xs h x S H tp tl r len) (hi : i + 6 ≤ L) (hL : L ≤ 3072) (hc : 12 ≤ c) (hs : 172 ≤ s)
    (nx : ∀ h' S' H' tp' tl' r' len' c' s', c ≤ c' + 12 → s ≤ s' + 172 → LI b L xs h' x S' H' tp' tl' r' len' → WP 11 270 Q (1434, [.val (.ref b), .val (.ref x), .val (.ref (x + 34)), .val (.int (nI i))], [], h', c', s')) : WP 11 270 Q (252, [.val (.ref b), .val (.ref x), .val (.ref (x + 34)), .val (.int (nI i))], [], h, c, s) := by
  have a0 := a
  obtain ⟨C, M, ⟨gS, gH⟩, rf, bk⟩ := a0
  have bk1 : SKb b L xs x h := bk
  have s1 : nI i + 1 = nI (i + 1) := nI_add i 1
  have s2 : nI i + 2 = nI (i + 2) := nI_add i 2
  have s3 : nI i + 3 = nI (i + 3) := nI_add i 3
  have s4 : nI i + 4 = nI (i + 4) := nI_add i 4
  have s5 : nI i + 5 = nI (i + 5) := nI_add i 5
  have u1 : i + 1 < 2 ^ 31 := by omega
  have u2 : i + 2 < 2 ^ 31 := by omega
  have u3 : i + 3 < 2 ^ 31 := by omega
  have u4 : i + 4 < 2 ^ 31 := by omega
  have u5 : i + 5 < 2 ^ 31 := by omega
  have v1 : i + 1 < L := by omega
  have v2 : i + 2 < L := by omega
  have v3 : i + 3 < L := by omega
  have v4 : i + 4 < L := by omega
  have v5 : i + 5 < L := by omega
  have kx : hkd h x = 15 := C.1.1.1.1
  simp only [s270_252, s270_253, s270_254, s270_255, s270_256, s270_257, s270_258, s270_259, s270_260, s270_261, s270_262, s270_263, oB_some, cl2_i, cl2_r, cl2_l, cl2_u, cl2_s, wd_0, wd_i, wd_r, wd_l, wd_f, ct_i, ct_r, ct_n, ct_f, rf_s, rf_n, tl_s, tl_n, true_and, and_true, eq_self, and_self, Nat.reduceAdd, Nat.reduceLeDiff, Nat.zero_le, Nat.reduceEqDiff, or_true, true_or, false_or, or_false, if_true, if_false, gI_0, gI_1, gI_2, gI_3, gI_4, gI_5, gI_6, gI_7, gI_8, gI_9, gI_10, gI_11, gI_12, gI_13, gI_14, gI_15, gL_0, gL_1, gL_2, gL_3, gL_4, gL_5, gL_6, gL_7, gL_8, gL_9, gL_10, gL_11, gL_12, gL_13, gL_14, gL_15, gA_0, gA_1, gA_2, gA_3, gA_4, gA_5, gA_6, gA_7, gA_8, gA_9, gA_10, gA_11, gA_12, gA_13, gA_14, gA_15, p1_0, p1_1, p1_2, p1_3, p1_4, p1_5, p1_6, p1_7, p1_8, p1_9, p1_10, p1_11, p1_12, p1_13, p1_14, p1_15, p2_0, p2_1, p2_2, p2_3, p2_4, p2_5, p2_6, p2_7, p2_8, p2_9, p2_10, p2_11, p2_12, p2_13, p2_14, p2_15, kx, bk1.2.1, bk1.2.2.1, bk1.2.2.2, s1, s2, s3, s4, s5, ix_nI u1, ix_nI u2, ix_nI u3, ix_nI u4, ix_nI u5, nI_pos' u1, nI_pos' u2, nI_pos' u3, nI_pos' u4, nI_pos' u5, v1, v2, v3, v4, v5]
  refine x_person C.1 gS.1 gS.2 (fun y e y0 => ?_) fun e h1 f1 => ?_
  · obtain ⟨h1, eh⟩ : ∃ z, z = RfC h x y := ⟨_, rfl⟩
    have fa1 : FA x h h1 := by rw [eh]; exact RfC.fa
    rw [← eh]
    have bk1 := bk1.fa fa1
    have M1 := M.fa gH fa1
    have km : hkd h1 (x + 34) = 16 := M1.1.1.1.1.1
    simp only [s270_266, s270_267, s270_268, s270_269, s270_270, s270_271, s270_272, s270_273, s270_274, s270_275, s270_276, s270_277, oB_some, cl2_i, cl2_r, cl2_l, cl2_u, cl2_s, wd_0, wd_i, wd_r, wd_l, wd_f, ct_i, ct_r, ct_n, ct_f, rf_s, rf_n, tl_s, tl_n, true_and, and_true, eq_self, and_self, Nat.reduceAdd, Nat.reduceLeDiff, Nat.zero_le, Nat.reduceEqDiff, or_true, true_or, false_or, or_false, if_true, if_false, gI_0, gI_1, gI_2, gI_3, gI_4, gI_5, gI_6, gI_7, gI_8, gI_9, gI_10, gI_11, gI_12, gI_13, gI_14, gI_15, gL_0, gL_1, gL_2, gL_3, gL_4, gL_5, gL_6, gL_7, gL_8, gL_9, gL_10, gL_11, gL_12, gL_13, gL_14, gL_15, gA_0, gA_1, gA_2, gA_3, gA_4, gA_5, gA_6, gA_7, gA_8, gA_9, gA_10, gA_11, gA_12, gA_13, gA_14, gA_15, p1_0, p1_1, p1_2, p1_3, p1_4, p1_5, p1_6, p1_7, p1_8, p1_9, p1_10, p1_11, p1_12, p1_13, p1_14, p1_15, p2_0, p2_1, p2_2, p2_3, p2_4, p2_5, p2_6, p2_7, p2_8, p2_9, p2_10, p2_11, p2_12, p2_13, p2_14, p2_15, km, bk1.2.1, bk1.2.2.1, bk1.2.2.2, s1, s2, s3, s4, s5, ix_nI u1, ix_nI u2, ix_nI u3, ix_nI u4, ix_nI u5, nI_pos' u1, nI_pos' u2, nI_pos' u3, nI_pos' u4, nI_pos' u5, v1, v2, v3, v4, v5]
    refine n_person M1.1 gS.1 gS.2 (fun y2 e2 n2 => ?_) fun e2 => absurd (e.symm.trans e2) y0
    obtain rfl := e.symm.trans e2
    simp only [s270_280, s270_283, oB_some, cl2_i, cl2_r, cl2_l, cl2_u, cl2_s, wd_0, wd_i, wd_r, wd_l, wd_f, ct_i, ct_r, ct_n, ct_f, rf_s, rf_n, tl_s, tl_n, true_and, and_true, eq_self, and_self, Nat.reduceAdd, Nat.reduceLeDiff, Nat.zero_le, Nat.reduceEqDiff, or_true, true_or, false_or, or_false, if_true, if_false, gI_0, gI_1, gI_2, gI_3, gI_4, gI_5, gI_6, gI_7, gI_8, gI_9, gI_10, gI_11, gI_12, gI_13, gI_14, gI_15, gL_0, gL_1, gL_2, gL_3, gL_4, gL_5, gL_6, gL_7, gL_8, gL_9, gL_10, gL_11, gL_12, gL_13, gL_14, gL_15, gA_0, gA_1, gA_2, gA_3, gA_4, gA_5, gA_6, gA_7, gA_8, gA_9, gA_10, gA_11, gA_12, gA_13, gA_14, gA_15, p1_0, p1_1, p1_2, p1_3, p1_4, p1_5, p1_6, p1_7, p1_8, p1_9, p1_10, p1_11, p1_12, p1_13, p1_14, p1_15, p2_0, p2_1, p2_2, p2_3, p2_4, p2_5, p2_6, p2_7, p2_8, p2_9, p2_10, p2_11, p2_12, p2_13, p2_14, p2_15, b01_ok, b_ft, b_tf, b01_e0, b01_e1, lgc_0, not_true_eq_false, not_false_eq_true]
    rw [eh]
    exact nx _ _ _ _ _ _ _ _ _ (by omega) (by omega) (a.refuse y)
  · skip
    have fa1 : FA x h h1 := f1.fa (by omega) (by omega)
    have bk1 := bk1.fa fa1
    have M1 := M.fa gH fa1
    have km : hkd h1 (x + 34) = 16 := M1.1.1.1.1.1
    simp only [s270_266, s270_267, s270_268, s270_269, s270_270, s270_271, s270_272, s270_273, s270_274, s270_275, s270_276, s270_277, oB_some, cl2_i, cl2_r, cl2_l, cl2_u, cl2_s, wd_0, wd_i, wd_r, wd_l, wd_f, ct_i, ct_r, ct_n, ct_f, rf_s, rf_n, tl_s, tl_n, true_and, and_true, eq_self, and_self, Nat.reduceAdd, Nat.reduceLeDiff, Nat.zero_le, Nat.reduceEqDiff, or_true, true_or, false_or, or_false, if_true, if_false, gI_0, gI_1, gI_2, gI_3, gI_4, gI_5, gI_6, gI_7, gI_8, gI_9, gI_10, gI_11, gI_12, gI_13, gI_14, gI_15, gL_0, gL_1, gL_2, gL_3, gL_4, gL_5, gL_6, gL_7, gL_8, gL_9, gL_10, gL_11, gL_12, gL_13, gL_14, gL_15, gA_0, gA_1, gA_2, gA_3, gA_4, gA_5, gA_6, gA_7, gA_8, gA_9, gA_10, gA_11, gA_12, gA_13, gA_14, gA_15, p1_0, p1_1, p1_2, p1_3, p1_4, p1_5, p1_6, p1_7, p1_8, p1_9, p1_10, p1_11, p1_12, p1_13, p1_14, p1_15, p2_0, p2_1, p2_2, p2_3, p2_4, p2_5, p2_6, p2_7, p2_8, p2_9, p2_10, p2_11, p2_12, p2_13, p2_14, p2_15, km, bk1.2.1, bk1.2.2.1, bk1.2.2.2, s1, s2, s3, s4, s5, ix_nI u1, ix_nI u2, ix_nI u3, ix_nI u4, ix_nI u5, nI_pos' u1, nI_pos' u2, nI_pos' u3, nI_pos' u4, nI_pos' u5, v1, v2, v3, v4, v5]
    refine n_person M1.1 gS.1 gS.2 (fun y2 e2 n2 => absurd (e2.symm.trans e) n2) fun _ h2 f2 M2 => ?_
    simp only [s270_280, s270_283, oB_some, cl2_i, cl2_r, cl2_l, cl2_u, cl2_s, wd_0, wd_i, wd_r, wd_l, wd_f, ct_i, ct_r, ct_n, ct_f, rf_s, rf_n, tl_s, tl_n, true_and, and_true, eq_self, and_self, Nat.reduceAdd, Nat.reduceLeDiff, Nat.zero_le, Nat.reduceEqDiff, or_true, true_or, false_or, or_false, if_true, if_false, gI_0, gI_1, gI_2, gI_3, gI_4, gI_5, gI_6, gI_7, gI_8, gI_9, gI_10, gI_11, gI_12, gI_13, gI_14, gI_15, gL_0, gL_1, gL_2, gL_3, gL_4, gL_5, gL_6, gL_7, gL_8, gL_9, gL_10, gL_11, gL_12, gL_13, gL_14, gL_15, gA_0, gA_1, gA_2, gA_3, gA_4, gA_5, gA_6, gA_7, gA_8, gA_9, gA_10, gA_11, gA_12, gA_13, gA_14, gA_15, p1_0, p1_1, p1_2, p1_3, p1_4, p1_5, p1_6, p1_7, p1_8, p1_9, p1_10, p1_11, p1_12, p1_13, p1_14, p1_15, p2_0, p2_1, p2_2, p2_3, p2_4, p2_5, p2_6, p2_7, p2_8, p2_9, p2_10, p2_11, p2_12, p2_13, p2_14, p2_15, b01_ok, b_ft, b_tf, b01_e0, b01_e1, lgc_0, not_true_eq_false, not_false_eq_true]
    exact nx _ _ _ _ _ _ _ _ _ (by omega) (by omega) (a.ask f1 f2 M2)
set_option maxHeartbeats 4000000 in
theorem lc_knows {b L x tl len i c s : Nat} {xs : Nat → Int32} {h : HP} {tp r : Nat → Nat} {S : VS} {H : HS} {Q : PQ} (a : LI b L xs h x S H tp tl r len) (hi : i + 6 ≤ L) (hL : L ≤ 3072) (hc : 12 ≤ c) (hs : 172 ≤ s)
    (nx : ∀ h' S' H' tp' tl' r' len' c' s', c ≤ c' + 12 → s ≤ s' + 172 → LI b L xs h' x S' H' tp' tl' r' len' → WP 11 270 Q (1434, [.val (.ref b), .val (.ref x), .val (.ref (x + 34)), .val (.int (nI i))], [], h', c', s')) : WP 11 270 Q (285, [.val (.ref b), .val (.ref x), .val (.ref (x + 34)), .val (.int (nI i))], [], h, c, s) := by
  have a0 := a
  obtain ⟨C, M, ⟨gS, gH⟩, rf, bk⟩ := a0
  have bk1 : SKb b L xs x h := bk
  have s1 : nI i + 1 = nI (i + 1) := nI_add i 1
  have s2 : nI i + 2 = nI (i + 2) := nI_add i 2
  have s3 : nI i + 3 = nI (i + 3) := nI_add i 3
  have s4 : nI i + 4 = nI (i + 4) := nI_add i 4
  have s5 : nI i + 5 = nI (i + 5) := nI_add i 5
  have u1 : i + 1 < 2 ^ 31 := by omega
  have u2 : i + 2 < 2 ^ 31 := by omega
  have u3 : i + 3 < 2 ^ 31 := by omega
  have u4 : i + 4 < 2 ^ 31 := by omega
  have u5 : i + 5 < 2 ^ 31 := by omega
  have v1 : i + 1 < L := by omega
  have v2 : i + 2 < L := by omega
  have v3 : i + 3 < L := by omega
  have v4 : i + 4 < L := by omega
  have v5 : i + 5 < L := by omega
  have kx : hkd h x = 15 := C.1.1.1.1
  simp only [s270_285, s270_286, s270_287, s270_288, s270_289, s270_290, s270_291, s270_292, s270_293, s270_294, s270_295, s270_296, oB_some, cl2_i, cl2_r, cl2_l, cl2_u, cl2_s, wd_0, wd_i, wd_r, wd_l, wd_f, ct_i, ct_r, ct_n, ct_f, rf_s, rf_n, tl_s, tl_n, true_and, and_true, eq_self, and_self, Nat.reduceAdd, Nat.reduceLeDiff, Nat.zero_le, Nat.reduceEqDiff, or_true, true_or, false_or, or_false, if_true, if_false, gI_0, gI_1, gI_2, gI_3, gI_4, gI_5, gI_6, gI_7, gI_8, gI_9, gI_10, gI_11, gI_12, gI_13, gI_14, gI_15, gL_0, gL_1, gL_2, gL_3, gL_4, gL_5, gL_6, gL_7, gL_8, gL_9, gL_10, gL_11, gL_12, gL_13, gL_14, gL_15, gA_0, gA_1, gA_2, gA_3, gA_4, gA_5, gA_6, gA_7, gA_8, gA_9, gA_10, gA_11, gA_12, gA_13, gA_14, gA_15, p1_0, p1_1, p1_2, p1_3, p1_4, p1_5, p1_6, p1_7, p1_8, p1_9, p1_10, p1_11, p1_12, p1_13, p1_14, p1_15, p2_0, p2_1, p2_2, p2_3, p2_4, p2_5, p2_6, p2_7, p2_8, p2_9, p2_10, p2_11, p2_12, p2_13, p2_14, p2_15, kx, bk1.2.1, bk1.2.2.1, bk1.2.2.2, s1, s2, s3, s4, s5, ix_nI u1, ix_nI u2, ix_nI u3, ix_nI u4, ix_nI u5, nI_pos' u1, nI_pos' u2, nI_pos' u3, nI_pos' u4, nI_pos' u5, v1, v2, v3, v4, v5]
  refine x_knows C.1 gS.1 gS.2 (fun y e y0 => ?_) fun e h1 f1 => ?_
  · obtain ⟨h1, eh⟩ : ∃ z, z = RfC h x y := ⟨_, rfl⟩
    have fa1 : FA x h h1 := by rw [eh]; exact RfC.fa
    rw [← eh]
    have bk1 := bk1.fa fa1
    have M1 := M.fa gH fa1
    have km : hkd h1 (x + 34) = 16 := M1.1.1.1.1.1
    simp only [s270_299, s270_300, s270_301, s270_302, s270_303, s270_304, s270_305, s270_306, s270_307, s270_308, s270_309, s270_310, oB_some, cl2_i, cl2_r, cl2_l, cl2_u, cl2_s, wd_0, wd_i, wd_r, wd_l, wd_f, ct_i, ct_r, ct_n, ct_f, rf_s, rf_n, tl_s, tl_n, true_and, and_true, eq_self, and_self, Nat.reduceAdd, Nat.reduceLeDiff, Nat.zero_le, Nat.reduceEqDiff, or_true, true_or, false_or, or_false, if_true, if_false, gI_0, gI_1, gI_2, gI_3, gI_4, gI_5, gI_6, gI_7, gI_8, gI_9, gI_10, gI_11, gI_12, gI_13, gI_14, gI_15, gL_0, gL_1, gL_2, gL_3, gL_4, gL_5, gL_6, gL_7, gL_8, gL_9, gL_10, gL_11, gL_12, gL_13, gL_14, gL_15, gA_0, gA_1, gA_2, gA_3, gA_4, gA_5, gA_6, gA_7, gA_8, gA_9, gA_10, gA_11, gA_12, gA_13, gA_14, gA_15, p1_0, p1_1, p1_2, p1_3, p1_4, p1_5, p1_6, p1_7, p1_8, p1_9, p1_10, p1_11, p1_12, p1_13, p1_14, p1_15, p2_0, p2_1, p2_2, p2_3, p2_4, p2_5, p2_6, p2_7, p2_8, p2_9, p2_10, p2_11, p2_12, p2_13, p2_14, p2_15, km, bk1.2.1, bk1.2.2.1, bk1.2.2.2, s1, s2, s3, s4, s5, ix_nI u1, ix_nI u2, ix_nI u3, ix_nI u4, ix_nI u5, nI_pos' u1, nI_pos' u2, nI_pos' u3, nI_pos' u4, nI_pos' u5, v1, v2, v3, v4, v5]
    refine n_knows M1.1 gS.1 gS.2 (fun y2 e2 n2 => ?_) fun e2 => absurd (e.symm.trans e2) y0
    obtain rfl := e.symm.trans e2
    simp only [s270_313, s270_316, oB_some, cl2_i, cl2_r, cl2_l, cl2_u, cl2_s, wd_0, wd_i, wd_r, wd_l, wd_f, ct_i, ct_r, ct_n, ct_f, rf_s, rf_n, tl_s, tl_n, true_and, and_true, eq_self, and_self, Nat.reduceAdd, Nat.reduceLeDiff, Nat.zero_le, Nat.reduceEqDiff, or_true, true_or, false_or, or_false, if_true, if_false, gI_0, gI_1, gI_2, gI_3, gI_4, gI_5, gI_6, gI_7, gI_8, gI_9, gI_10, gI_11, gI_12, gI_13, gI_14, gI_15, gL_0, gL_1, gL_2, gL_3, gL_4, gL_5, gL_6, gL_7, gL_8, gL_9, gL_10, gL_11, gL_12, gL_13, gL_14, gL_15, gA_0, gA_1, gA_2, gA_3, gA_4, gA_5, gA_6, gA_7, gA_8, gA_9, gA_10, gA_11, gA_12, gA_13, gA_14, gA_15, p1_0, p1_1, p1_2, p1_3, p1_4, p1_5, p1_6, p1_7, p1_8, p1_9, p1_10, p1_11, p1_12, p1_13, p1_14, p1_15, p2_0, p2_1, p2_2, p2_3, p2_4, p2_5, p2_6, p2_7, p2_8, p2_9, p2_10, p2_11, p2_12, p2_13, p2_14, p2_15, b01_ok, b_ft, b_tf, b01_e0, b01_e1, lgc_0, not_true_eq_false, not_false_eq_true]
    rw [eh]
    exact nx _ _ _ _ _ _ _ _ _ (by omega) (by omega) (a.refuse y)
  · skip
    have fa1 : FA x h h1 := f1.fa (by omega) (by omega)
    have bk1 := bk1.fa fa1
    have M1 := M.fa gH fa1
    have km : hkd h1 (x + 34) = 16 := M1.1.1.1.1.1
    simp only [s270_299, s270_300, s270_301, s270_302, s270_303, s270_304, s270_305, s270_306, s270_307, s270_308, s270_309, s270_310, oB_some, cl2_i, cl2_r, cl2_l, cl2_u, cl2_s, wd_0, wd_i, wd_r, wd_l, wd_f, ct_i, ct_r, ct_n, ct_f, rf_s, rf_n, tl_s, tl_n, true_and, and_true, eq_self, and_self, Nat.reduceAdd, Nat.reduceLeDiff, Nat.zero_le, Nat.reduceEqDiff, or_true, true_or, false_or, or_false, if_true, if_false, gI_0, gI_1, gI_2, gI_3, gI_4, gI_5, gI_6, gI_7, gI_8, gI_9, gI_10, gI_11, gI_12, gI_13, gI_14, gI_15, gL_0, gL_1, gL_2, gL_3, gL_4, gL_5, gL_6, gL_7, gL_8, gL_9, gL_10, gL_11, gL_12, gL_13, gL_14, gL_15, gA_0, gA_1, gA_2, gA_3, gA_4, gA_5, gA_6, gA_7, gA_8, gA_9, gA_10, gA_11, gA_12, gA_13, gA_14, gA_15, p1_0, p1_1, p1_2, p1_3, p1_4, p1_5, p1_6, p1_7, p1_8, p1_9, p1_10, p1_11, p1_12, p1_13, p1_14, p1_15, p2_0, p2_1, p2_2, p2_3, p2_4, p2_5, p2_6, p2_7, p2_8, p2_9, p2_10, p2_11, p2_12, p2_13, p2_14, p2_15, km, bk1.2.1, bk1.2.2.1, bk1.2.2.2, s1, s2, s3, s4, s5, ix_nI u1, ix_nI u2, ix_nI u3, ix_nI u4, ix_nI u5, nI_pos' u1, nI_pos' u2, nI_pos' u3, nI_pos' u4, nI_pos' u5, v1, v2, v3, v4, v5]
    refine n_knows M1.1 gS.1 gS.2 (fun y2 e2 n2 => absurd (e2.symm.trans e) n2) fun _ h2 f2 M2 => ?_
    simp only [s270_313, s270_316, oB_some, cl2_i, cl2_r, cl2_l, cl2_u, cl2_s, wd_0, wd_i, wd_r, wd_l, wd_f, ct_i, ct_r, ct_n, ct_f, rf_s, rf_n, tl_s, tl_n, true_and, and_true, eq_self, and_self, Nat.reduceAdd, Nat.reduceLeDiff, Nat.zero_le, Nat.reduceEqDiff, or_true, true_or, false_or, or_false, if_true, if_false, gI_0, gI_1, gI_2, gI_3, gI_4, gI_5, gI_6, gI_7, gI_8, gI_9, gI_10, gI_11, gI_12, gI_13, gI_14, gI_15, gL_0, gL_1, gL_2, gL_3, gL_4, gL_5, gL_6, gL_7, gL_8, gL_9, gL_10, gL_11, gL_12, gL_13, gL_14, gL_15, gA_0, gA_1, gA_2, gA_3, gA_4, gA_5, gA_6, gA_7, gA_8, gA_9, gA_10, gA_11, gA_12, gA_13, gA_14, gA_15, p1_0, p1_1, p1_2, p1_3, p1_4, p1_5, p1_6, p1_7, p1_8, p1_9, p1_10, p1_11, p1_12, p1_13, p1_14, p1_15, p2_0, p2_1, p2_2, p2_3, p2_4, p2_5, p2_6, p2_7, p2_8, p2_9, p2_10, p2_11, p2_12, p2_13, p2_14, p2_15, b01_ok, b_ft, b_tf, b01_e0, b01_e1, lgc_0, not_true_eq_false, not_false_eq_true]
    exact nx _ _ _ _ _ _ _ _ _ (by omega) (by omega) (a.ask f1 f2 M2)
set_option maxHeartbeats 4000000 in
theorem lc_above {b L x tl len i c s : Nat} {xs : Nat → Int32} {h : HP} {tp r : Nat → Nat} {S : VS} {H : HS} {Q : PQ} (a : LI b L xs h x S H tp tl r len) (hi : i + 6 ≤ L) (hL : L ≤ 3072) (hc : 12 ≤ c) (hs : 172 ≤ s)
    (nx : ∀ h' S' H' tp' tl' r' len' c' s', c ≤ c' + 12 → s ≤ s' + 172 → LI b L xs h' x S' H' tp' tl' r' len' → WP 11 270 Q (1434, [.val (.ref b), .val (.ref x), .val (.ref (x + 34)), .val (.int (nI i))], [], h', c', s')) : WP 11 270 Q (318, [.val (.ref b), .val (.ref x), .val (.ref (x + 34)), .val (.int (nI i))], [], h, c, s) := by
  have a0 := a
  obtain ⟨C, M, ⟨gS, gH⟩, rf, bk⟩ := a0
  have bk1 : SKb b L xs x h := bk
  have s1 : nI i + 1 = nI (i + 1) := nI_add i 1
  have s2 : nI i + 2 = nI (i + 2) := nI_add i 2
  have s3 : nI i + 3 = nI (i + 3) := nI_add i 3
  have s4 : nI i + 4 = nI (i + 4) := nI_add i 4
  have s5 : nI i + 5 = nI (i + 5) := nI_add i 5
  have u1 : i + 1 < 2 ^ 31 := by omega
  have u2 : i + 2 < 2 ^ 31 := by omega
  have u3 : i + 3 < 2 ^ 31 := by omega
  have u4 : i + 4 < 2 ^ 31 := by omega
  have u5 : i + 5 < 2 ^ 31 := by omega
  have v1 : i + 1 < L := by omega
  have v2 : i + 2 < L := by omega
  have v3 : i + 3 < L := by omega
  have v4 : i + 4 < L := by omega
  have v5 : i + 5 < L := by omega
  have kx : hkd h x = 15 := C.1.1.1.1
  simp only [s270_318, s270_319, s270_320, s270_321, s270_322, s270_323, s270_324, s270_325, s270_326, s270_327, s270_328, s270_329, oB_some, cl2_i, cl2_r, cl2_l, cl2_u, cl2_s, wd_0, wd_i, wd_r, wd_l, wd_f, ct_i, ct_r, ct_n, ct_f, rf_s, rf_n, tl_s, tl_n, true_and, and_true, eq_self, and_self, Nat.reduceAdd, Nat.reduceLeDiff, Nat.zero_le, Nat.reduceEqDiff, or_true, true_or, false_or, or_false, if_true, if_false, gI_0, gI_1, gI_2, gI_3, gI_4, gI_5, gI_6, gI_7, gI_8, gI_9, gI_10, gI_11, gI_12, gI_13, gI_14, gI_15, gL_0, gL_1, gL_2, gL_3, gL_4, gL_5, gL_6, gL_7, gL_8, gL_9, gL_10, gL_11, gL_12, gL_13, gL_14, gL_15, gA_0, gA_1, gA_2, gA_3, gA_4, gA_5, gA_6, gA_7, gA_8, gA_9, gA_10, gA_11, gA_12, gA_13, gA_14, gA_15, p1_0, p1_1, p1_2, p1_3, p1_4, p1_5, p1_6, p1_7, p1_8, p1_9, p1_10, p1_11, p1_12, p1_13, p1_14, p1_15, p2_0, p2_1, p2_2, p2_3, p2_4, p2_5, p2_6, p2_7, p2_8, p2_9, p2_10, p2_11, p2_12, p2_13, p2_14, p2_15, kx, bk1.2.1, bk1.2.2.1, bk1.2.2.2, s1, s2, s3, s4, s5, ix_nI u1, ix_nI u2, ix_nI u3, ix_nI u4, ix_nI u5, nI_pos' u1, nI_pos' u2, nI_pos' u3, nI_pos' u4, nI_pos' u5, v1, v2, v3, v4, v5]
  refine x_above C.1 gS.1 gS.2 (fun y e y0 => ?_) fun e h1 f1 => ?_
  · obtain ⟨h1, eh⟩ : ∃ z, z = RfC h x y := ⟨_, rfl⟩
    have fa1 : FA x h h1 := by rw [eh]; exact RfC.fa
    rw [← eh]
    have bk1 := bk1.fa fa1
    have M1 := M.fa gH fa1
    have km : hkd h1 (x + 34) = 16 := M1.1.1.1.1.1
    simp only [s270_332, s270_333, s270_334, s270_335, s270_336, s270_337, s270_338, s270_339, s270_340, s270_341, s270_342, s270_343, oB_some, cl2_i, cl2_r, cl2_l, cl2_u, cl2_s, wd_0, wd_i, wd_r, wd_l, wd_f, ct_i, ct_r, ct_n, ct_f, rf_s, rf_n, tl_s, tl_n, true_and, and_true, eq_self, and_self, Nat.reduceAdd, Nat.reduceLeDiff, Nat.zero_le, Nat.reduceEqDiff, or_true, true_or, false_or, or_false, if_true, if_false, gI_0, gI_1, gI_2, gI_3, gI_4, gI_5, gI_6, gI_7, gI_8, gI_9, gI_10, gI_11, gI_12, gI_13, gI_14, gI_15, gL_0, gL_1, gL_2, gL_3, gL_4, gL_5, gL_6, gL_7, gL_8, gL_9, gL_10, gL_11, gL_12, gL_13, gL_14, gL_15, gA_0, gA_1, gA_2, gA_3, gA_4, gA_5, gA_6, gA_7, gA_8, gA_9, gA_10, gA_11, gA_12, gA_13, gA_14, gA_15, p1_0, p1_1, p1_2, p1_3, p1_4, p1_5, p1_6, p1_7, p1_8, p1_9, p1_10, p1_11, p1_12, p1_13, p1_14, p1_15, p2_0, p2_1, p2_2, p2_3, p2_4, p2_5, p2_6, p2_7, p2_8, p2_9, p2_10, p2_11, p2_12, p2_13, p2_14, p2_15, km, bk1.2.1, bk1.2.2.1, bk1.2.2.2, s1, s2, s3, s4, s5, ix_nI u1, ix_nI u2, ix_nI u3, ix_nI u4, ix_nI u5, nI_pos' u1, nI_pos' u2, nI_pos' u3, nI_pos' u4, nI_pos' u5, v1, v2, v3, v4, v5]
    refine n_above M1.1 gS.1 gS.2 (fun y2 e2 n2 => ?_) fun e2 => absurd (e.symm.trans e2) y0
    obtain rfl := e.symm.trans e2
    simp only [s270_346, s270_349, oB_some, cl2_i, cl2_r, cl2_l, cl2_u, cl2_s, wd_0, wd_i, wd_r, wd_l, wd_f, ct_i, ct_r, ct_n, ct_f, rf_s, rf_n, tl_s, tl_n, true_and, and_true, eq_self, and_self, Nat.reduceAdd, Nat.reduceLeDiff, Nat.zero_le, Nat.reduceEqDiff, or_true, true_or, false_or, or_false, if_true, if_false, gI_0, gI_1, gI_2, gI_3, gI_4, gI_5, gI_6, gI_7, gI_8, gI_9, gI_10, gI_11, gI_12, gI_13, gI_14, gI_15, gL_0, gL_1, gL_2, gL_3, gL_4, gL_5, gL_6, gL_7, gL_8, gL_9, gL_10, gL_11, gL_12, gL_13, gL_14, gL_15, gA_0, gA_1, gA_2, gA_3, gA_4, gA_5, gA_6, gA_7, gA_8, gA_9, gA_10, gA_11, gA_12, gA_13, gA_14, gA_15, p1_0, p1_1, p1_2, p1_3, p1_4, p1_5, p1_6, p1_7, p1_8, p1_9, p1_10, p1_11, p1_12, p1_13, p1_14, p1_15, p2_0, p2_1, p2_2, p2_3, p2_4, p2_5, p2_6, p2_7, p2_8, p2_9, p2_10, p2_11, p2_12, p2_13, p2_14, p2_15, b01_ok, b_ft, b_tf, b01_e0, b01_e1, lgc_0, not_true_eq_false, not_false_eq_true]
    rw [eh]
    exact nx _ _ _ _ _ _ _ _ _ (by omega) (by omega) (a.refuse y)
  · skip
    have fa1 : FA x h h1 := f1.fa (by omega) (by omega)
    have bk1 := bk1.fa fa1
    have M1 := M.fa gH fa1
    have km : hkd h1 (x + 34) = 16 := M1.1.1.1.1.1
    simp only [s270_332, s270_333, s270_334, s270_335, s270_336, s270_337, s270_338, s270_339, s270_340, s270_341, s270_342, s270_343, oB_some, cl2_i, cl2_r, cl2_l, cl2_u, cl2_s, wd_0, wd_i, wd_r, wd_l, wd_f, ct_i, ct_r, ct_n, ct_f, rf_s, rf_n, tl_s, tl_n, true_and, and_true, eq_self, and_self, Nat.reduceAdd, Nat.reduceLeDiff, Nat.zero_le, Nat.reduceEqDiff, or_true, true_or, false_or, or_false, if_true, if_false, gI_0, gI_1, gI_2, gI_3, gI_4, gI_5, gI_6, gI_7, gI_8, gI_9, gI_10, gI_11, gI_12, gI_13, gI_14, gI_15, gL_0, gL_1, gL_2, gL_3, gL_4, gL_5, gL_6, gL_7, gL_8, gL_9, gL_10, gL_11, gL_12, gL_13, gL_14, gL_15, gA_0, gA_1, gA_2, gA_3, gA_4, gA_5, gA_6, gA_7, gA_8, gA_9, gA_10, gA_11, gA_12, gA_13, gA_14, gA_15, p1_0, p1_1, p1_2, p1_3, p1_4, p1_5, p1_6, p1_7, p1_8, p1_9, p1_10, p1_11, p1_12, p1_13, p1_14, p1_15, p2_0, p2_1, p2_2, p2_3, p2_4, p2_5, p2_6, p2_7, p2_8, p2_9, p2_10, p2_11, p2_12, p2_13, p2_14, p2_15, km, bk1.2.1, bk1.2.2.1, bk1.2.2.2, s1, s2, s3, s4, s5, ix_nI u1, ix_nI u2, ix_nI u3, ix_nI u4, ix_nI u5, nI_pos' u1, nI_pos' u2, nI_pos' u3, nI_pos' u4, nI_pos' u5, v1, v2, v3, v4, v5]
    refine n_above M1.1 gS.1 gS.2 (fun y2 e2 n2 => absurd (e2.symm.trans e) n2) fun _ h2 f2 M2 => ?_
    simp only [s270_346, s270_349, oB_some, cl2_i, cl2_r, cl2_l, cl2_u, cl2_s, wd_0, wd_i, wd_r, wd_l, wd_f, ct_i, ct_r, ct_n, ct_f, rf_s, rf_n, tl_s, tl_n, true_and, and_true, eq_self, and_self, Nat.reduceAdd, Nat.reduceLeDiff, Nat.zero_le, Nat.reduceEqDiff, or_true, true_or, false_or, or_false, if_true, if_false, gI_0, gI_1, gI_2, gI_3, gI_4, gI_5, gI_6, gI_7, gI_8, gI_9, gI_10, gI_11, gI_12, gI_13, gI_14, gI_15, gL_0, gL_1, gL_2, gL_3, gL_4, gL_5, gL_6, gL_7, gL_8, gL_9, gL_10, gL_11, gL_12, gL_13, gL_14, gL_15, gA_0, gA_1, gA_2, gA_3, gA_4, gA_5, gA_6, gA_7, gA_8, gA_9, gA_10, gA_11, gA_12, gA_13, gA_14, gA_15, p1_0, p1_1, p1_2, p1_3, p1_4, p1_5, p1_6, p1_7, p1_8, p1_9, p1_10, p1_11, p1_12, p1_13, p1_14, p1_15, p2_0, p2_1, p2_2, p2_3, p2_4, p2_5, p2_6, p2_7, p2_8, p2_9, p2_10, p2_11, p2_12, p2_13, p2_14, p2_15, b01_ok, b_ft, b_tf, b01_e0, b01_e1, lgc_0, not_true_eq_false, not_false_eq_true]
    exact nx _ _ _ _ _ _ _ _ _ (by omega) (by omega) (a.ask f1 f2 M2)
set_option maxHeartbeats 4000000 in
theorem lc_letter {b L x tl len i c s : Nat} {xs : Nat → Int32} {h : HP} {tp r : Nat → Nat} {S : VS} {H : HS} {Q : PQ} (a : LI b L xs h x S H tp tl r len) (hi : i + 6 ≤ L) (hL : L ≤ 3072) (hc : 12 ≤ c) (hs : 172 ≤ s)
    (nx : ∀ h' S' H' tp' tl' r' len' c' s', c ≤ c' + 12 → s ≤ s' + 172 → LI b L xs h' x S' H' tp' tl' r' len' → WP 11 270 Q (1434, [.val (.ref b), .val (.ref x), .val (.ref (x + 34)), .val (.int (nI i))], [], h', c', s')) : WP 11 270 Q (351, [.val (.ref b), .val (.ref x), .val (.ref (x + 34)), .val (.int (nI i))], [], h, c, s) := by
  have a0 := a
  obtain ⟨C, M, ⟨gS, gH⟩, rf, bk⟩ := a0
  have bk1 : SKb b L xs x h := bk
  have s1 : nI i + 1 = nI (i + 1) := nI_add i 1
  have s2 : nI i + 2 = nI (i + 2) := nI_add i 2
  have s3 : nI i + 3 = nI (i + 3) := nI_add i 3
  have s4 : nI i + 4 = nI (i + 4) := nI_add i 4
  have s5 : nI i + 5 = nI (i + 5) := nI_add i 5
  have u1 : i + 1 < 2 ^ 31 := by omega
  have u2 : i + 2 < 2 ^ 31 := by omega
  have u3 : i + 3 < 2 ^ 31 := by omega
  have u4 : i + 4 < 2 ^ 31 := by omega
  have u5 : i + 5 < 2 ^ 31 := by omega
  have v1 : i + 1 < L := by omega
  have v2 : i + 2 < L := by omega
  have v3 : i + 3 < L := by omega
  have v4 : i + 4 < L := by omega
  have v5 : i + 5 < L := by omega
  have kx : hkd h x = 15 := C.1.1.1.1
  simp only [s270_351, s270_352, s270_353, s270_354, s270_355, s270_356, s270_357, s270_358, s270_359, s270_360, s270_361, s270_362, oB_some, cl2_i, cl2_r, cl2_l, cl2_u, cl2_s, wd_0, wd_i, wd_r, wd_l, wd_f, ct_i, ct_r, ct_n, ct_f, rf_s, rf_n, tl_s, tl_n, true_and, and_true, eq_self, and_self, Nat.reduceAdd, Nat.reduceLeDiff, Nat.zero_le, Nat.reduceEqDiff, or_true, true_or, false_or, or_false, if_true, if_false, gI_0, gI_1, gI_2, gI_3, gI_4, gI_5, gI_6, gI_7, gI_8, gI_9, gI_10, gI_11, gI_12, gI_13, gI_14, gI_15, gL_0, gL_1, gL_2, gL_3, gL_4, gL_5, gL_6, gL_7, gL_8, gL_9, gL_10, gL_11, gL_12, gL_13, gL_14, gL_15, gA_0, gA_1, gA_2, gA_3, gA_4, gA_5, gA_6, gA_7, gA_8, gA_9, gA_10, gA_11, gA_12, gA_13, gA_14, gA_15, p1_0, p1_1, p1_2, p1_3, p1_4, p1_5, p1_6, p1_7, p1_8, p1_9, p1_10, p1_11, p1_12, p1_13, p1_14, p1_15, p2_0, p2_1, p2_2, p2_3, p2_4, p2_5, p2_6, p2_7, p2_8, p2_9, p2_10, p2_11, p2_12, p2_13, p2_14, p2_15, kx, bk1.2.1, bk1.2.2.1, bk1.2.2.2, s1, s2, s3, s4, s5, ix_nI u1, ix_nI u2, ix_nI u3, ix_nI u4, ix_nI u5, nI_pos' u1, nI_pos' u2, nI_pos' u3, nI_pos' u4, nI_pos' u5, v1, v2, v3, v4, v5]
  refine x_letter C.1 gS.1 gS.2 (fun y e y0 => ?_) fun e h1 f1 => ?_
  · obtain ⟨h1, eh⟩ : ∃ z, z = RfC h x y := ⟨_, rfl⟩
    have fa1 : FA x h h1 := by rw [eh]; exact RfC.fa
    rw [← eh]
    have bk1 := bk1.fa fa1
    have M1 := M.fa gH fa1
    have km : hkd h1 (x + 34) = 16 := M1.1.1.1.1.1
    simp only [s270_365, s270_366, s270_367, s270_368, s270_369, s270_370, s270_371, s270_372, s270_373, s270_374, s270_375, s270_376, oB_some, cl2_i, cl2_r, cl2_l, cl2_u, cl2_s, wd_0, wd_i, wd_r, wd_l, wd_f, ct_i, ct_r, ct_n, ct_f, rf_s, rf_n, tl_s, tl_n, true_and, and_true, eq_self, and_self, Nat.reduceAdd, Nat.reduceLeDiff, Nat.zero_le, Nat.reduceEqDiff, or_true, true_or, false_or, or_false, if_true, if_false, gI_0, gI_1, gI_2, gI_3, gI_4, gI_5, gI_6, gI_7, gI_8, gI_9, gI_10, gI_11, gI_12, gI_13, gI_14, gI_15, gL_0, gL_1, gL_2, gL_3, gL_4, gL_5, gL_6, gL_7, gL_8, gL_9, gL_10, gL_11, gL_12, gL_13, gL_14, gL_15, gA_0, gA_1, gA_2, gA_3, gA_4, gA_5, gA_6, gA_7, gA_8, gA_9, gA_10, gA_11, gA_12, gA_13, gA_14, gA_15, p1_0, p1_1, p1_2, p1_3, p1_4, p1_5, p1_6, p1_7, p1_8, p1_9, p1_10, p1_11, p1_12, p1_13, p1_14, p1_15, p2_0, p2_1, p2_2, p2_3, p2_4, p2_5, p2_6, p2_7, p2_8, p2_9, p2_10, p2_11, p2_12, p2_13, p2_14, p2_15, km, bk1.2.1, bk1.2.2.1, bk1.2.2.2, s1, s2, s3, s4, s5, ix_nI u1, ix_nI u2, ix_nI u3, ix_nI u4, ix_nI u5, nI_pos' u1, nI_pos' u2, nI_pos' u3, nI_pos' u4, nI_pos' u5, v1, v2, v3, v4, v5]
    refine n_letter M1.1 gS.1 gS.2 (fun y2 e2 n2 => ?_) fun e2 => absurd (e.symm.trans e2) y0
    obtain rfl := e.symm.trans e2
    simp only [s270_379, s270_382, oB_some, cl2_i, cl2_r, cl2_l, cl2_u, cl2_s, wd_0, wd_i, wd_r, wd_l, wd_f, ct_i, ct_r, ct_n, ct_f, rf_s, rf_n, tl_s, tl_n, true_and, and_true, eq_self, and_self, Nat.reduceAdd, Nat.reduceLeDiff, Nat.zero_le, Nat.reduceEqDiff, or_true, true_or, false_or, or_false, if_true, if_false, gI_0, gI_1, gI_2, gI_3, gI_4, gI_5, gI_6, gI_7, gI_8, gI_9, gI_10, gI_11, gI_12, gI_13, gI_14, gI_15, gL_0, gL_1, gL_2, gL_3, gL_4, gL_5, gL_6, gL_7, gL_8, gL_9, gL_10, gL_11, gL_12, gL_13, gL_14, gL_15, gA_0, gA_1, gA_2, gA_3, gA_4, gA_5, gA_6, gA_7, gA_8, gA_9, gA_10, gA_11, gA_12, gA_13, gA_14, gA_15, p1_0, p1_1, p1_2, p1_3, p1_4, p1_5, p1_6, p1_7, p1_8, p1_9, p1_10, p1_11, p1_12, p1_13, p1_14, p1_15, p2_0, p2_1, p2_2, p2_3, p2_4, p2_5, p2_6, p2_7, p2_8, p2_9, p2_10, p2_11, p2_12, p2_13, p2_14, p2_15, b01_ok, b_ft, b_tf, b01_e0, b01_e1, lgc_0, not_true_eq_false, not_false_eq_true]
    rw [eh]
    exact nx _ _ _ _ _ _ _ _ _ (by omega) (by omega) (a.refuse y)
  · skip
    have fa1 : FA x h h1 := f1.fa (by omega) (by omega)
    have bk1 := bk1.fa fa1
    have M1 := M.fa gH fa1
    have km : hkd h1 (x + 34) = 16 := M1.1.1.1.1.1
    simp only [s270_365, s270_366, s270_367, s270_368, s270_369, s270_370, s270_371, s270_372, s270_373, s270_374, s270_375, s270_376, oB_some, cl2_i, cl2_r, cl2_l, cl2_u, cl2_s, wd_0, wd_i, wd_r, wd_l, wd_f, ct_i, ct_r, ct_n, ct_f, rf_s, rf_n, tl_s, tl_n, true_and, and_true, eq_self, and_self, Nat.reduceAdd, Nat.reduceLeDiff, Nat.zero_le, Nat.reduceEqDiff, or_true, true_or, false_or, or_false, if_true, if_false, gI_0, gI_1, gI_2, gI_3, gI_4, gI_5, gI_6, gI_7, gI_8, gI_9, gI_10, gI_11, gI_12, gI_13, gI_14, gI_15, gL_0, gL_1, gL_2, gL_3, gL_4, gL_5, gL_6, gL_7, gL_8, gL_9, gL_10, gL_11, gL_12, gL_13, gL_14, gL_15, gA_0, gA_1, gA_2, gA_3, gA_4, gA_5, gA_6, gA_7, gA_8, gA_9, gA_10, gA_11, gA_12, gA_13, gA_14, gA_15, p1_0, p1_1, p1_2, p1_3, p1_4, p1_5, p1_6, p1_7, p1_8, p1_9, p1_10, p1_11, p1_12, p1_13, p1_14, p1_15, p2_0, p2_1, p2_2, p2_3, p2_4, p2_5, p2_6, p2_7, p2_8, p2_9, p2_10, p2_11, p2_12, p2_13, p2_14, p2_15, km, bk1.2.1, bk1.2.2.1, bk1.2.2.2, s1, s2, s3, s4, s5, ix_nI u1, ix_nI u2, ix_nI u3, ix_nI u4, ix_nI u5, nI_pos' u1, nI_pos' u2, nI_pos' u3, nI_pos' u4, nI_pos' u5, v1, v2, v3, v4, v5]
    refine n_letter M1.1 gS.1 gS.2 (fun y2 e2 n2 => absurd (e2.symm.trans e) n2) fun _ h2 f2 M2 => ?_
    simp only [s270_379, s270_382, oB_some, cl2_i, cl2_r, cl2_l, cl2_u, cl2_s, wd_0, wd_i, wd_r, wd_l, wd_f, ct_i, ct_r, ct_n, ct_f, rf_s, rf_n, tl_s, tl_n, true_and, and_true, eq_self, and_self, Nat.reduceAdd, Nat.reduceLeDiff, Nat.zero_le, Nat.reduceEqDiff, or_true, true_or, false_or, or_false, if_true, if_false, gI_0, gI_1, gI_2, gI_3, gI_4, gI_5, gI_6, gI_7, gI_8, gI_9, gI_10, gI_11, gI_12, gI_13, gI_14, gI_15, gL_0, gL_1, gL_2, gL_3, gL_4, gL_5, gL_6, gL_7, gL_8, gL_9, gL_10, gL_11, gL_12, gL_13, gL_14, gL_15, gA_0, gA_1, gA_2, gA_3, gA_4, gA_5, gA_6, gA_7, gA_8, gA_9, gA_10, gA_11, gA_12, gA_13, gA_14, gA_15, p1_0, p1_1, p1_2, p1_3, p1_4, p1_5, p1_6, p1_7, p1_8, p1_9, p1_10, p1_11, p1_12, p1_13, p1_14, p1_15, p2_0, p2_1, p2_2, p2_3, p2_4, p2_5, p2_6, p2_7, p2_8, p2_9, p2_10, p2_11, p2_12, p2_13, p2_14, p2_15, b01_ok, b_ft, b_tf, b01_e0, b01_e1, lgc_0, not_true_eq_false, not_false_eq_true]
    exact nx _ _ _ _ _ _ _ _ _ (by omega) (by omega) (a.ask f1 f2 M2)
set_option maxHeartbeats 4000000 in
theorem lc_knownIn {b L x tl len i c s : Nat} {xs : Nat → Int32} {h : HP} {tp r : Nat → Nat} {S : VS} {H : HS} {Q : PQ} (a : LI b L xs h x S H tp tl r len) (hi : i + 6 ≤ L) (hL : L ≤ 3072) (hc : 12 ≤ c) (hs : 172 ≤ s)
    (nx : ∀ h' S' H' tp' tl' r' len' c' s', c ≤ c' + 12 → s ≤ s' + 172 → LI b L xs h' x S' H' tp' tl' r' len' → WP 11 270 Q (1434, [.val (.ref b), .val (.ref x), .val (.ref (x + 34)), .val (.int (nI i))], [], h', c', s')) : WP 11 270 Q (588, [.val (.ref b), .val (.ref x), .val (.ref (x + 34)), .val (.int (nI i))], [], h, c, s) := by
  have a0 := a
  obtain ⟨C, M, ⟨gS, gH⟩, rf, bk⟩ := a0
  have bk1 : SKb b L xs x h := bk
  have s1 : nI i + 1 = nI (i + 1) := nI_add i 1
  have s2 : nI i + 2 = nI (i + 2) := nI_add i 2
  have s3 : nI i + 3 = nI (i + 3) := nI_add i 3
  have s4 : nI i + 4 = nI (i + 4) := nI_add i 4
  have s5 : nI i + 5 = nI (i + 5) := nI_add i 5
  have u1 : i + 1 < 2 ^ 31 := by omega
  have u2 : i + 2 < 2 ^ 31 := by omega
  have u3 : i + 3 < 2 ^ 31 := by omega
  have u4 : i + 4 < 2 ^ 31 := by omega
  have u5 : i + 5 < 2 ^ 31 := by omega
  have v1 : i + 1 < L := by omega
  have v2 : i + 2 < L := by omega
  have v3 : i + 3 < L := by omega
  have v4 : i + 4 < L := by omega
  have v5 : i + 5 < L := by omega
  have kx : hkd h x = 15 := C.1.1.1.1
  simp only [s270_588, s270_589, s270_590, s270_591, s270_592, s270_593, s270_594, s270_595, s270_596, s270_597, s270_598, s270_599, oB_some, cl2_i, cl2_r, cl2_l, cl2_u, cl2_s, wd_0, wd_i, wd_r, wd_l, wd_f, ct_i, ct_r, ct_n, ct_f, rf_s, rf_n, tl_s, tl_n, true_and, and_true, eq_self, and_self, Nat.reduceAdd, Nat.reduceLeDiff, Nat.zero_le, Nat.reduceEqDiff, or_true, true_or, false_or, or_false, if_true, if_false, gI_0, gI_1, gI_2, gI_3, gI_4, gI_5, gI_6, gI_7, gI_8, gI_9, gI_10, gI_11, gI_12, gI_13, gI_14, gI_15, gL_0, gL_1, gL_2, gL_3, gL_4, gL_5, gL_6, gL_7, gL_8, gL_9, gL_10, gL_11, gL_12, gL_13, gL_14, gL_15, gA_0, gA_1, gA_2, gA_3, gA_4, gA_5, gA_6, gA_7, gA_8, gA_9, gA_10, gA_11, gA_12, gA_13, gA_14, gA_15, p1_0, p1_1, p1_2, p1_3, p1_4, p1_5, p1_6, p1_7, p1_8, p1_9, p1_10, p1_11, p1_12, p1_13, p1_14, p1_15, p2_0, p2_1, p2_2, p2_3, p2_4, p2_5, p2_6, p2_7, p2_8, p2_9, p2_10, p2_11, p2_12, p2_13, p2_14, p2_15, kx, bk1.2.1, bk1.2.2.1, bk1.2.2.2, s1, s2, s3, s4, s5, ix_nI u1, ix_nI u2, ix_nI u3, ix_nI u4, ix_nI u5, nI_pos' u1, nI_pos' u2, nI_pos' u3, nI_pos' u4, nI_pos' u5, v1, v2, v3, v4, v5]
  refine x_knownIn C.1 gS.1 gS.2 (fun y e y0 => ?_) fun e h1 f1 => ?_
  · obtain ⟨h1, eh⟩ : ∃ z, z = RfC h x y := ⟨_, rfl⟩
    have fa1 : FA x h h1 := by rw [eh]; exact RfC.fa
    rw [← eh]
    have bk1 := bk1.fa fa1
    have M1 := M.fa gH fa1
    have km : hkd h1 (x + 34) = 16 := M1.1.1.1.1.1
    simp only [s270_602, s270_603, s270_604, s270_605, s270_606, s270_607, s270_608, s270_609, s270_610, s270_611, s270_612, s270_613, oB_some, cl2_i, cl2_r, cl2_l, cl2_u, cl2_s, wd_0, wd_i, wd_r, wd_l, wd_f, ct_i, ct_r, ct_n, ct_f, rf_s, rf_n, tl_s, tl_n, true_and, and_true, eq_self, and_self, Nat.reduceAdd, Nat.reduceLeDiff, Nat.zero_le, Nat.reduceEqDiff, or_true, true_or, false_or, or_false, if_true, if_false, gI_0, gI_1, gI_2, gI_3, gI_4, gI_5, gI_6, gI_7, gI_8, gI_9, gI_10, gI_11, gI_12, gI_13, gI_14, gI_15, gL_0, gL_1, gL_2, gL_3, gL_4, gL_5, gL_6, gL_7, gL_8, gL_9, gL_10, gL_11, gL_12, gL_13, gL_14, gL_15, gA_0, gA_1, gA_2, gA_3, gA_4, gA_5, gA_6, gA_7, gA_8, gA_9, gA_10, gA_11, gA_12, gA_13, gA_14, gA_15, p1_0, p1_1, p1_2, p1_3, p1_4, p1_5, p1_6, p1_7, p1_8, p1_9, p1_10, p1_11, p1_12, p1_13, p1_14, p1_15, p2_0, p2_1, p2_2, p2_3, p2_4, p2_5, p2_6, p2_7, p2_8, p2_9, p2_10, p2_11, p2_12, p2_13, p2_14, p2_15, km, bk1.2.1, bk1.2.2.1, bk1.2.2.2, s1, s2, s3, s4, s5, ix_nI u1, ix_nI u2, ix_nI u3, ix_nI u4, ix_nI u5, nI_pos' u1, nI_pos' u2, nI_pos' u3, nI_pos' u4, nI_pos' u5, v1, v2, v3, v4, v5]
    refine n_knownIn M1.1 gS.1 gS.2 (fun y2 e2 n2 => ?_) fun e2 => absurd (e.symm.trans e2) y0
    obtain rfl := e.symm.trans e2
    simp only [s270_616, s270_619, oB_some, cl2_i, cl2_r, cl2_l, cl2_u, cl2_s, wd_0, wd_i, wd_r, wd_l, wd_f, ct_i, ct_r, ct_n, ct_f, rf_s, rf_n, tl_s, tl_n, true_and, and_true, eq_self, and_self, Nat.reduceAdd, Nat.reduceLeDiff, Nat.zero_le, Nat.reduceEqDiff, or_true, true_or, false_or, or_false, if_true, if_false, gI_0, gI_1, gI_2, gI_3, gI_4, gI_5, gI_6, gI_7, gI_8, gI_9, gI_10, gI_11, gI_12, gI_13, gI_14, gI_15, gL_0, gL_1, gL_2, gL_3, gL_4, gL_5, gL_6, gL_7, gL_8, gL_9, gL_10, gL_11, gL_12, gL_13, gL_14, gL_15, gA_0, gA_1, gA_2, gA_3, gA_4, gA_5, gA_6, gA_7, gA_8, gA_9, gA_10, gA_11, gA_12, gA_13, gA_14, gA_15, p1_0, p1_1, p1_2, p1_3, p1_4, p1_5, p1_6, p1_7, p1_8, p1_9, p1_10, p1_11, p1_12, p1_13, p1_14, p1_15, p2_0, p2_1, p2_2, p2_3, p2_4, p2_5, p2_6, p2_7, p2_8, p2_9, p2_10, p2_11, p2_12, p2_13, p2_14, p2_15, b01_ok, b_ft, b_tf, b01_e0, b01_e1, lgc_0, not_true_eq_false, not_false_eq_true]
    rw [eh]
    exact nx _ _ _ _ _ _ _ _ _ (by omega) (by omega) (a.refuse y)
  · skip
    have fa1 : FA x h h1 := f1.fa (by omega) (by omega)
    have bk1 := bk1.fa fa1
    have M1 := M.fa gH fa1
    have km : hkd h1 (x + 34) = 16 := M1.1.1.1.1.1
    simp only [s270_602, s270_603, s270_604, s270_605, s270_606, s270_607, s270_608, s270_609, s270_610, s270_611, s270_612, s270_613, oB_some, cl2_i, cl2_r, cl2_l, cl2_u, cl2_s, wd_0, wd_i, wd_r, wd_l, wd_f, ct_i, ct_r, ct_n, ct_f, rf_s, rf_n, tl_s, tl_n, true_and, and_true, eq_self, and_self, Nat.reduceAdd, Nat.reduceLeDiff, Nat.zero_le, Nat.reduceEqDiff, or_true, true_or, false_or, or_false, if_true, if_false, gI_0, gI_1, gI_2, gI_3, gI_4, gI_5, gI_6, gI_7, gI_8, gI_9, gI_10, gI_11, gI_12, gI_13, gI_14, gI_15, gL_0, gL_1, gL_2, gL_3, gL_4, gL_5, gL_6, gL_7, gL_8, gL_9, gL_10, gL_11, gL_12, gL_13, gL_14, gL_15, gA_0, gA_1, gA_2, gA_3, gA_4, gA_5, gA_6, gA_7, gA_8, gA_9, gA_10, gA_11, gA_12, gA_13, gA_14, gA_15, p1_0, p1_1, p1_2, p1_3, p1_4, p1_5, p1_6, p1_7, p1_8, p1_9, p1_10, p1_11, p1_12, p1_13, p1_14, p1_15, p2_0, p2_1, p2_2, p2_3, p2_4, p2_5, p2_6, p2_7, p2_8, p2_9, p2_10, p2_11, p2_12, p2_13, p2_14, p2_15, km, bk1.2.1, bk1.2.2.1, bk1.2.2.2, s1, s2, s3, s4, s5, ix_nI u1, ix_nI u2, ix_nI u3, ix_nI u4, ix_nI u5, nI_pos' u1, nI_pos' u2, nI_pos' u3, nI_pos' u4, nI_pos' u5, v1, v2, v3, v4, v5]
    refine n_knownIn M1.1 gS.1 gS.2 (fun y2 e2 n2 => absurd (e2.symm.trans e) n2) fun _ h2 f2 M2 => ?_
    simp only [s270_616, s270_619, oB_some, cl2_i, cl2_r, cl2_l, cl2_u, cl2_s, wd_0, wd_i, wd_r, wd_l, wd_f, ct_i, ct_r, ct_n, ct_f, rf_s, rf_n, tl_s, tl_n, true_and, and_true, eq_self, and_self, Nat.reduceAdd, Nat.reduceLeDiff, Nat.zero_le, Nat.reduceEqDiff, or_true, true_or, false_or, or_false, if_true, if_false, gI_0, gI_1, gI_2, gI_3, gI_4, gI_5, gI_6, gI_7, gI_8, gI_9, gI_10, gI_11, gI_12, gI_13, gI_14, gI_15, gL_0, gL_1, gL_2, gL_3, gL_4, gL_5, gL_6, gL_7, gL_8, gL_9, gL_10, gL_11, gL_12, gL_13, gL_14, gL_15, gA_0, gA_1, gA_2, gA_3, gA_4, gA_5, gA_6, gA_7, gA_8, gA_9, gA_10, gA_11, gA_12, gA_13, gA_14, gA_15, p1_0, p1_1, p1_2, p1_3, p1_4, p1_5, p1_6, p1_7, p1_8, p1_9, p1_10, p1_11, p1_12, p1_13, p1_14, p1_15, p2_0, p2_1, p2_2, p2_3, p2_4, p2_5, p2_6, p2_7, p2_8, p2_9, p2_10, p2_11, p2_12, p2_13, p2_14, p2_15, b01_ok, b_ft, b_tf, b01_e0, b01_e1, lgc_0, not_true_eq_false, not_false_eq_true]
    exact nx _ _ _ _ _ _ _ _ _ (by omega) (by omega) (a.ask f1 f2 M2)
set_option maxHeartbeats 4000000 in
theorem lc_then {b L x tl len i c s : Nat} {xs : Nat → Int32} {h : HP} {tp r : Nat → Nat} {S : VS} {H : HS} {Q : PQ} (a : LI b L xs h x S H tp tl r len) (hi : i + 6 ≤ L) (hL : L ≤ 3072) (hc : 12 ≤ c) (hs : 172 ≤ s)
    (nx : ∀ h' S' H' tp' tl' r' len' c' s', c ≤ c' + 12 → s ≤ s' + 172 → LI b L xs h' x S' H' tp' tl' r' len' → WP 11 270 Q (1434, [.val (.ref b), .val (.ref x), .val (.ref (x + 34)), .val (.int (nI i))], [], h', c', s')) : WP 11 270 Q (621, [.val (.ref b), .val (.ref x), .val (.ref (x + 34)), .val (.int (nI i))], [], h, c, s) := by
  have a0 := a
  obtain ⟨C, M, ⟨gS, gH⟩, rf, bk⟩ := a0
  have bk1 : SKb b L xs x h := bk
  have s1 : nI i + 1 = nI (i + 1) := nI_add i 1
  have s2 : nI i + 2 = nI (i + 2) := nI_add i 2
  have s3 : nI i + 3 = nI (i + 3) := nI_add i 3
  have s4 : nI i + 4 = nI (i + 4) := nI_add i 4
  have s5 : nI i + 5 = nI (i + 5) := nI_add i 5
  have u1 : i + 1 < 2 ^ 31 := by omega
  have u2 : i + 2 < 2 ^ 31 := by omega
  have u3 : i + 3 < 2 ^ 31 := by omega
  have u4 : i + 4 < 2 ^ 31 := by omega
  have u5 : i + 5 < 2 ^ 31 := by omega
  have v1 : i + 1 < L := by omega
  have v2 : i + 2 < L := by omega
  have v3 : i + 3 < L := by omega
  have v4 : i + 4 < L := by omega
  have v5 : i + 5 < L := by omega
  have kx : hkd h x = 15 := C.1.1.1.1
  simp only [s270_621, s270_622, s270_623, s270_624, s270_625, s270_626, s270_627, s270_628, s270_629, s270_630, s270_631, s270_632, oB_some, cl2_i, cl2_r, cl2_l, cl2_u, cl2_s, wd_0, wd_i, wd_r, wd_l, wd_f, ct_i, ct_r, ct_n, ct_f, rf_s, rf_n, tl_s, tl_n, true_and, and_true, eq_self, and_self, Nat.reduceAdd, Nat.reduceLeDiff, Nat.zero_le, Nat.reduceEqDiff, or_true, true_or, false_or, or_false, if_true, if_false, gI_0, gI_1, gI_2, gI_3, gI_4, gI_5, gI_6, gI_7, gI_8, gI_9, gI_10, gI_11, gI_12, gI_13, gI_14, gI_15, gL_0, gL_1, gL_2, gL_3, gL_4, gL_5, gL_6, gL_7, gL_8, gL_9, gL_10, gL_11, gL_12, gL_13, gL_14, gL_15, gA_0, gA_1, gA_2, gA_3, gA_4, gA_5, gA_6, gA_7, gA_8, gA_9, gA_10, gA_11, gA_12, gA_13, gA_14, gA_15, p1_0, p1_1, p1_2, p1_3, p1_4, p1_5, p1_6, p1_7, p1_8, p1_9, p1_10, p1_11, p1_12, p1_13, p1_14, p1_15, p2_0, p2_1, p2_2, p2_3, p2_4, p2_5, p2_6, p2_7, p2_8, p2_9, p2_10, p2_11, p2_12, p2_13, p2_14, p2_15, kx, bk1.2.1, bk1.2.2.1, bk1.2.2.2, s1, s2, s3, s4, s5, ix_nI u1, ix_nI u2, ix_nI u3, ix_nI u4, ix_nI u5, nI_pos' u1, nI_pos' u2, nI_pos' u3, nI_pos' u4, nI_pos' u5, v1, v2, v3, v4, v5]
  refine x_then C.1 gS.1 gS.2 (fun y e y0 => ?_) fun e h1 f1 => ?_
  · obtain ⟨h1, eh⟩ : ∃ z, z = RfC h x y := ⟨_, rfl⟩
    have fa1 : FA x h h1 := by rw [eh]; exact RfC.fa
    rw [← eh]
    have bk1 := bk1.fa fa1
    have M1 := M.fa gH fa1
    have km : hkd h1 (x + 34) = 16 := M1.1.1.1.1.1
    simp only [s270_635, s270_636, s270_637, s270_638, s270_639, s270_640, s270_641, s270_642, s270_643, s270_644, s270_645, s270_646, oB_some, cl2_i, cl2_r, cl2_l, cl2_u, cl2_s, wd_0, wd_i, wd_r, wd_l, wd_f, ct_i, ct_r, ct_n, ct_f, rf_s, rf_n, tl_s, tl_n, true_and, and_true, eq_self, and_self, Nat.reduceAdd, Nat.reduceLeDiff, Nat.zero_le, Nat.reduceEqDiff, or_true, true_or, false_or, or_false, if_true, if_false, gI_0, gI_1, gI_2, gI_3, gI_4, gI_5, gI_6, gI_7, gI_8, gI_9, gI_10, gI_11, gI_12, gI_13, gI_14, gI_15, gL_0, gL_1, gL_2, gL_3, gL_4, gL_5, gL_6, gL_7, gL_8, gL_9, gL_10, gL_11, gL_12, gL_13, gL_14, gL_15, gA_0, gA_1, gA_2, gA_3, gA_4, gA_5, gA_6, gA_7, gA_8, gA_9, gA_10, gA_11, gA_12, gA_13, gA_14, gA_15, p1_0, p1_1, p1_2, p1_3, p1_4, p1_5, p1_6, p1_7, p1_8, p1_9, p1_10, p1_11, p1_12, p1_13, p1_14, p1_15, p2_0, p2_1, p2_2, p2_3, p2_4, p2_5, p2_6, p2_7, p2_8, p2_9, p2_10, p2_11, p2_12, p2_13, p2_14, p2_15, km, bk1.2.1, bk1.2.2.1, bk1.2.2.2, s1, s2, s3, s4, s5, ix_nI u1, ix_nI u2, ix_nI u3, ix_nI u4, ix_nI u5, nI_pos' u1, nI_pos' u2, nI_pos' u3, nI_pos' u4, nI_pos' u5, v1, v2, v3, v4, v5]
    refine n_then M1.1 gS.1 gS.2 (fun y2 e2 n2 => ?_) fun e2 => absurd (e.symm.trans e2) y0
    obtain rfl := e.symm.trans e2
    simp only [s270_649, s270_652, oB_some, cl2_i, cl2_r, cl2_l, cl2_u, cl2_s, wd_0, wd_i, wd_r, wd_l, wd_f, ct_i, ct_r, ct_n, ct_f, rf_s, rf_n, tl_s, tl_n, true_and, and_true, eq_self, and_self, Nat.reduceAdd, Nat.reduceLeDiff, Nat.zero_le, Nat.reduceEqDiff, or_true, true_or, false_or, or_false, if_true, if_false, gI_0, gI_1, gI_2, gI_3, gI_4, gI_5, gI_6, gI_7, gI_8, gI_9, gI_10, gI_11, gI_12, gI_13, gI_14, gI_15, gL_0, gL_1, gL_2, gL_3, gL_4, gL_5, gL_6, gL_7, gL_8, gL_9, gL_10, gL_11, gL_12, gL_13, gL_14, gL_15, gA_0, gA_1, gA_2, gA_3, gA_4, gA_5, gA_6, gA_7, gA_8, gA_9, gA_10, gA_11, gA_12, gA_13, gA_14, gA_15, p1_0, p1_1, p1_2, p1_3, p1_4, p1_5, p1_6, p1_7, p1_8, p1_9, p1_10, p1_11, p1_12, p1_13, p1_14, p1_15, p2_0, p2_1, p2_2, p2_3, p2_4, p2_5, p2_6, p2_7, p2_8, p2_9, p2_10, p2_11, p2_12, p2_13, p2_14, p2_15, b01_ok, b_ft, b_tf, b01_e0, b01_e1, lgc_0, not_true_eq_false, not_false_eq_true]
    rw [eh]
    exact nx _ _ _ _ _ _ _ _ _ (by omega) (by omega) (a.refuse y)
  · skip
    have fa1 : FA x h h1 := f1.fa (by omega) (by omega)
    have bk1 := bk1.fa fa1
    have M1 := M.fa gH fa1
    have km : hkd h1 (x + 34) = 16 := M1.1.1.1.1.1
    simp only [s270_635, s270_636, s270_637, s270_638, s270_639, s270_640, s270_641, s270_642, s270_643, s270_644, s270_645, s270_646, oB_some, cl2_i, cl2_r, cl2_l, cl2_u, cl2_s, wd_0, wd_i, wd_r, wd_l, wd_f, ct_i, ct_r, ct_n, ct_f, rf_s, rf_n, tl_s, tl_n, true_and, and_true, eq_self, and_self, Nat.reduceAdd, Nat.reduceLeDiff, Nat.zero_le, Nat.reduceEqDiff, or_true, true_or, false_or, or_false, if_true, if_false, gI_0, gI_1, gI_2, gI_3, gI_4, gI_5, gI_6, gI_7, gI_8, gI_9, gI_10, gI_11, gI_12, gI_13, gI_14, gI_15, gL_0, gL_1, gL_2, gL_3, gL_4, gL_5, gL_6, gL_7, gL_8, gL_9, gL_10, gL_11, gL_12, gL_13, gL_14, gL_15, gA_0, gA_1, gA_2, gA_3, gA_4, gA_5, gA_6, gA_7, gA_8, gA_9, gA_10, gA_11, gA_12, gA_13, gA_14, gA_15, p1_0, p1_1, p1_2, p1_3, p1_4, p1_5, p1_6, p1_7, p1_8, p1_9, p1_10, p1_11, p1_12, p1_13, p1_14, p1_15, p2_0, p2_1, p2_2, p2_3, p2_4, p2_5, p2_6, p2_7, p2_8, p2_9, p2_10, p2_11, p2_12, p2_13, p2_14, p2_15, km, bk1.2.1, bk1.2.2.1, bk1.2.2.2, s1, s2, s3, s4, s5, ix_nI u1, ix_nI u2, ix_nI u3, ix_nI u4, ix_nI u5, nI_pos' u1, nI_pos' u2, nI_pos' u3, nI_pos' u4, nI_pos' u5, v1, v2, v3, v4, v5]
    refine n_then M1.1 gS.1 gS.2 (fun y2 e2 n2 => absurd (e2.symm.trans e) n2) fun _ h2 f2 M2 => ?_
    simp only [s270_649, s270_652, oB_some, cl2_i, cl2_r, cl2_l, cl2_u, cl2_s, wd_0, wd_i, wd_r, wd_l, wd_f, ct_i, ct_r, ct_n, ct_f, rf_s, rf_n, tl_s, tl_n, true_and, and_true, eq_self, and_self, Nat.reduceAdd, Nat.reduceLeDiff, Nat.zero_le, Nat.reduceEqDiff, or_true, true_or, false_or, or_false, if_true, if_false, gI_0, gI_1, gI_2, gI_3, gI_4, gI_5, gI_6, gI_7, gI_8, gI_9, gI_10, gI_11, gI_12, gI_13, gI_14, gI_15, gL_0, gL_1, gL_2, gL_3, gL_4, gL_5, gL_6, gL_7, gL_8, gL_9, gL_10, gL_11, gL_12, gL_13, gL_14, gL_15, gA_0, gA_1, gA_2, gA_3, gA_4, gA_5, gA_6, gA_7, gA_8, gA_9, gA_10, gA_11, gA_12, gA_13, gA_14, gA_15, p1_0, p1_1, p1_2, p1_3, p1_4, p1_5, p1_6, p1_7, p1_8, p1_9, p1_10, p1_11, p1_12, p1_13, p1_14, p1_15, p2_0, p2_1, p2_2, p2_3, p2_4, p2_5, p2_6, p2_7, p2_8, p2_9, p2_10, p2_11, p2_12, p2_13, p2_14, p2_15, b01_ok, b_ft, b_tf, b01_e0, b01_e1, lgc_0, not_true_eq_false, not_false_eq_true]
    exact nx _ _ _ _ _ _ _ _ _ (by omega) (by omega) (a.ask f1 f2 M2)
set_option maxHeartbeats 4000000 in
theorem lc_when {b L x tl len i c s : Nat} {xs : Nat → Int32} {h : HP} {tp r : Nat → Nat} {S : VS} {H : HS} {Q : PQ} (a : LI b L xs h x S H tp tl r len) (hi : i + 6 ≤ L) (hL : L ≤ 3072) (hc : 12 ≤ c) (hs : 172 ≤ s)
    (nx : ∀ h' S' H' tp' tl' r' len' c' s', c ≤ c' + 12 → s ≤ s' + 172 → LI b L xs h' x S' H' tp' tl' r' len' → WP 11 270 Q (1434, [.val (.ref b), .val (.ref x), .val (.ref (x + 34)), .val (.int (nI i))], [], h', c', s')) : WP 11 270 Q (654, [.val (.ref b), .val (.ref x), .val (.ref (x + 34)), .val (.int (nI i))], [], h, c, s) := by
  have a0 := a
  obtain ⟨C, M, ⟨gS, gH⟩, rf, bk⟩ := a0
  have bk1 : SKb b L xs x h := bk
  have s1 : nI i + 1 = nI (i + 1) := nI_add i 1
  have s2 : nI i + 2 = nI (i + 2) := nI_add i 2
  have s3 : nI i + 3 = nI (i + 3) := nI_add i 3
  have s4 : nI i + 4 = nI (i + 4) := nI_add i 4
  have s5 : nI i + 5 = nI (i + 5) := nI_add i 5
  have u1 : i + 1 < 2 ^ 31 := by omega
  have u2 : i + 2 < 2 ^ 31 := by omega
  have u3 : i + 3 < 2 ^ 31 := by omega
  have u4 : i + 4 < 2 ^ 31 := by omega
  have u5 : i + 5 < 2 ^ 31 := by omega
  have v1 : i + 1 < L := by omega
  have v2 : i + 2 < L := by omega
  have v3 : i + 3 < L := by omega
  have v4 : i + 4 < L := by omega
  have v5 : i + 5 < L := by omega
  have kx : hkd h x = 15 := C.1.1.1.1
  simp only [s270_654, s270_655, s270_656, s270_657, s270_658, s270_659, s270_660, s270_661, s270_662, s270_663, s270_664, s270_665, oB_some, cl2_i, cl2_r, cl2_l, cl2_u, cl2_s, wd_0, wd_i, wd_r, wd_l, wd_f, ct_i, ct_r, ct_n, ct_f, rf_s, rf_n, tl_s, tl_n, true_and, and_true, eq_self, and_self, Nat.reduceAdd, Nat.reduceLeDiff, Nat.zero_le, Nat.reduceEqDiff, or_true, true_or, false_or, or_false, if_true, if_false, gI_0, gI_1, gI_2, gI_3, gI_4, gI_5, gI_6, gI_7, gI_8, gI_9, gI_10, gI_11, gI_12, gI_13, gI_14, gI_15, gL_0, gL_1, gL_2, gL_3, gL_4, gL_5, gL_6, gL_7, gL_8, gL_9, gL_10, gL_11, gL_12, gL_13, gL_14, gL_15, gA_0, gA_1, gA_2, gA_3, gA_4, gA_5, gA_6, gA_7, gA_8, gA_9, gA_10, gA_11, gA_12, gA_13, gA_14, gA_15, p1_0, p1_1, p1_2, p1_3, p1_4, p1_5, p1_6, p1_7, p1_8, p1_9, p1_10, p1_11, p1_12, p1_13, p1_14, p1_15, p2_0, p2_1, p2_2, p2_3, p2_4, p2_5, p2_6, p2_7, p2_8, p2_9, p2_10, p2_11, p2_12, p2_13, p2_14, p2_15, kx, bk1.2.1, bk1.2.2.1, bk1.2.2.2, s1, s2, s3, s4, s5, ix_nI u1, ix_nI u2, ix_nI u3, ix_nI u4, ix_nI u5, nI_pos' u1, nI_pos' u2, nI_pos' u3, nI_pos' u4, nI_pos' u5, v1, v2, v3, v4, v5]
  refine x_when C.1 gS.1 gS.2 (fun y e y0 => ?_) fun e h1 f1 => ?_
  · obtain ⟨h1, eh⟩ : ∃ z, z = RfC h x y := ⟨_, rfl⟩
    have fa1 : FA x h h1 := by rw [eh]; exact RfC.fa
    rw [← eh]
    have bk1 := bk1.fa fa1
    have M1 := M.fa gH fa1
    have km : hkd h1 (x + 34) = 16 := M1.1.1.1.1.1
    simp only [s270_668, s270_669, s270_670, s270_671, s270_672, s270_673, s270_674, s270_675, s270_676, s270_677, s270_678, s270_679, oB_some, cl2_i, cl2_r, cl2_l, cl2_u, cl2_s, wd_0, wd_i, wd_r, wd_l, wd_f, ct_i, ct_r, ct_n, ct_f, rf_s, rf_n, tl_s, tl_n, true_and, and_true, eq_self, and_self, Nat.reduceAdd, Nat.reduceLeDiff, Nat.zero_le, Nat.reduceEqDiff, or_true, true_or, false_or, or_false, if_true, if_false, gI_0, gI_1, gI_2, gI_3, gI_4, gI_5, gI_6, gI_7, gI_8, gI_9, gI_10, gI_11, gI_12, gI_13, gI_14, gI_15, gL_0, gL_1, gL_2, gL_3, gL_4, gL_5, gL_6, gL_7, gL_8, gL_9, gL_10, gL_11, gL_12, gL_13, gL_14, gL_15, gA_0, gA_1, gA_2, gA_3, gA_4, gA_5, gA_6, gA_7, gA_8, gA_9, gA_10, gA_11, gA_12, gA_13, gA_14, gA_15, p1_0, p1_1, p1_2, p1_3, p1_4, p1_5, p1_6, p1_7, p1_8, p1_9, p1_10, p1_11, p1_12, p1_13, p1_14, p1_15, p2_0, p2_1, p2_2, p2_3, p2_4, p2_5, p2_6, p2_7, p2_8, p2_9, p2_10, p2_11, p2_12, p2_13, p2_14, p2_15, km, bk1.2.1, bk1.2.2.1, bk1.2.2.2, s1, s2, s3, s4, s5, ix_nI u1, ix_nI u2, ix_nI u3, ix_nI u4, ix_nI u5, nI_pos' u1, nI_pos' u2, nI_pos' u3, nI_pos' u4, nI_pos' u5, v1, v2, v3, v4, v5]
    refine n_when M1.1 gS.1 gS.2 (fun y2 e2 n2 => ?_) fun e2 => absurd (e.symm.trans e2) y0
    obtain rfl := e.symm.trans e2
    simp only [s270_682, s270_685, oB_some, cl2_i, cl2_r, cl2_l, cl2_u, cl2_s, wd_0, wd_i, wd_r, wd_l, wd_f, ct_i, ct_r, ct_n, ct_f, rf_s, rf_n, tl_s, tl_n, true_and, and_true, eq_self, and_self, Nat.reduceAdd, Nat.reduceLeDiff, Nat.zero_le, Nat.reduceEqDiff, or_true, true_or, false_or, or_false, if_true, if_false, gI_0, gI_1, gI_2, gI_3, gI_4, gI_5, gI_6, gI_7, gI_8, gI_9, gI_10, gI_11, gI_12, gI_13, gI_14, gI_15, gL_0, gL_1, gL_2, gL_3, gL_4, gL_5, gL_6, gL_7, gL_8, gL_9, gL_10, gL_11, gL_12, gL_13, gL_14, gL_15, gA_0, gA_1, gA_2, gA_3, gA_4, gA_5, gA_6, gA_7, gA_8, gA_9, gA_10, gA_11, gA_12, gA_13, gA_14, gA_15, p1_0, p1_1, p1_2, p1_3, p1_4, p1_5, p1_6, p1_7, p1_8, p1_9, p1_10, p1_11, p1_12, p1_13, p1_14, p1_15, p2_0, p2_1, p2_2, p2_3, p2_4, p2_5, p2_6, p2_7, p2_8, p2_9, p2_10, p2_11, p2_12, p2_13, p2_14, p2_15, b01_ok, b_ft, b_tf, b01_e0, b01_e1, lgc_0, not_true_eq_false, not_false_eq_true]
    rw [eh]
    exact nx _ _ _ _ _ _ _ _ _ (by omega) (by omega) (a.refuse y)
  · skip
    have fa1 : FA x h h1 := f1.fa (by omega) (by omega)
    have bk1 := bk1.fa fa1
    have M1 := M.fa gH fa1
    have km : hkd h1 (x + 34) = 16 := M1.1.1.1.1.1
    simp only [s270_668, s270_669, s270_670, s270_671, s270_672, s270_673, s270_674, s270_675, s270_676, s270_677, s270_678, s270_679, oB_some, cl2_i, cl2_r, cl2_l, cl2_u, cl2_s, wd_0, wd_i, wd_r, wd_l, wd_f, ct_i, ct_r, ct_n, ct_f, rf_s, rf_n, tl_s, tl_n, true_and, and_true, eq_self, and_self, Nat.reduceAdd, Nat.reduceLeDiff, Nat.zero_le, Nat.reduceEqDiff, or_true, true_or, false_or, or_false, if_true, if_false, gI_0, gI_1, gI_2, gI_3, gI_4, gI_5, gI_6, gI_7, gI_8, gI_9, gI_10, gI_11, gI_12, gI_13, gI_14, gI_15, gL_0, gL_1, gL_2, gL_3, gL_4, gL_5, gL_6, gL_7, gL_8, gL_9, gL_10, gL_11, gL_12, gL_13, gL_14, gL_15, gA_0, gA_1, gA_2, gA_3, gA_4, gA_5, gA_6, gA_7, gA_8, gA_9, gA_10, gA_11, gA_12, gA_13, gA_14, gA_15, p1_0, p1_1, p1_2, p1_3, p1_4, p1_5, p1_6, p1_7, p1_8, p1_9, p1_10, p1_11, p1_12, p1_13, p1_14, p1_15, p2_0, p2_1, p2_2, p2_3, p2_4, p2_5, p2_6, p2_7, p2_8, p2_9, p2_10, p2_11, p2_12, p2_13, p2_14, p2_15, km, bk1.2.1, bk1.2.2.1, bk1.2.2.2, s1, s2, s3, s4, s5, ix_nI u1, ix_nI u2, ix_nI u3, ix_nI u4, ix_nI u5, nI_pos' u1, nI_pos' u2, nI_pos' u3, nI_pos' u4, nI_pos' u5, v1, v2, v3, v4, v5]
    refine n_when M1.1 gS.1 gS.2 (fun y2 e2 n2 => absurd (e2.symm.trans e) n2) fun _ h2 f2 M2 => ?_
    simp only [s270_682, s270_685, oB_some, cl2_i, cl2_r, cl2_l, cl2_u, cl2_s, wd_0, wd_i, wd_r, wd_l, wd_f, ct_i, ct_r, ct_n, ct_f, rf_s, rf_n, tl_s, tl_n, true_and, and_true, eq_self, and_self, Nat.reduceAdd, Nat.reduceLeDiff, Nat.zero_le, Nat.reduceEqDiff, or_true, true_or, false_or, or_false, if_true, if_false, gI_0, gI_1, gI_2, gI_3, gI_4, gI_5, gI_6, gI_7, gI_8, gI_9, gI_10, gI_11, gI_12, gI_13, gI_14, gI_15, gL_0, gL_1, gL_2, gL_3, gL_4, gL_5, gL_6, gL_7, gL_8, gL_9, gL_10, gL_11, gL_12, gL_13, gL_14, gL_15, gA_0, gA_1, gA_2, gA_3, gA_4, gA_5, gA_6, gA_7, gA_8, gA_9, gA_10, gA_11, gA_12, gA_13, gA_14, gA_15, p1_0, p1_1, p1_2, p1_3, p1_4, p1_5, p1_6, p1_7, p1_8, p1_9, p1_10, p1_11, p1_12, p1_13, p1_14, p1_15, p2_0, p2_1, p2_2, p2_3, p2_4, p2_5, p2_6, p2_7, p2_8, p2_9, p2_10, p2_11, p2_12, p2_13, p2_14, p2_15, b01_ok, b_ft, b_tf, b01_e0, b01_e1, lgc_0, not_true_eq_false, not_false_eq_true]
    exact nx _ _ _ _ _ _ _ _ _ (by omega) (by omega) (a.ask f1 f2 M2)
set_option maxHeartbeats 4000000 in
theorem lc_first {b L x tl len i c s : Nat} {xs : Nat → Int32} {h : HP} {tp r : Nat → Nat} {S : VS} {H : HS} {Q : PQ} (a : LI b L xs h x S H tp tl r len) (hi : i + 6 ≤ L) (hL : L ≤ 3072) (hc : 12 ≤ c) (hs : 172 ≤ s)
    (nx : ∀ h' S' H' tp' tl' r' len' c' s', c ≤ c' + 12 → s ≤ s' + 172 → LI b L xs h' x S' H' tp' tl' r' len' → WP 11 270 Q (1434, [.val (.ref b), .val (.ref x), .val (.ref (x + 34)), .val (.int (nI i))], [], h', c', s')) : WP 11 270 Q (687, [.val (.ref b), .val (.ref x), .val (.ref (x + 34)), .val (.int (nI i))], [], h, c, s) := by
  have a0 := a
  obtain ⟨C, M, ⟨gS, gH⟩, rf, bk⟩ := a0
  have bk1 : SKb b L xs x h := bk
  have s1 : nI i + 1 = nI (i + 1) := nI_add i 1
  have s2 : nI i + 2 = nI (i + 2) := nI_add i 2
  have s3 : nI i + 3 = nI (i + 3) := nI_add i 3
  have s4 : nI i + 4 = nI (i + 4) := nI_add i 4
  have s5 : nI i + 5 = nI (i + 5) := nI_add i 5
  have u1 : i + 1 < 2 ^ 31 := by omega
  have u2 : i + 2 < 2 ^ 31 := by omega
  have u3 : i + 3 < 2 ^ 31 := by omega
  have u4 : i + 4 < 2 ^ 31 := by omega
  have u5 : i + 5 < 2 ^ 31 := by omega
  have v1 : i + 1 < L := by omega
  have v2 : i + 2 < L := by omega
  have v3 : i + 3 < L := by omega
  have v4 : i + 4 < L := by omega
  have v5 : i + 5 < L := by omega
  have kx : hkd h x = 15 := C.1.1.1.1
  simp only [s270_687, s270_688, s270_689, s270_690, s270_691, s270_692, s270_693, oB_some, cl2_i, cl2_r, cl2_l, cl2_u, cl2_s, wd_0, wd_i, wd_r, wd_l, wd_f, ct_i, ct_r, ct_n, ct_f, rf_s, rf_n, tl_s, tl_n, true_and, and_true, eq_self, and_self, Nat.reduceAdd, Nat.reduceLeDiff, Nat.zero_le, Nat.reduceEqDiff, or_true, true_or, false_or, or_false, if_true, if_false, gI_0, gI_1, gI_2, gI_3, gI_4, gI_5, gI_6, gI_7, gI_8, gI_9, gI_10, gI_11, gI_12, gI_13, gI_14, gI_15, gL_0, gL_1, gL_2, gL_3, gL_4, gL_5, gL_6, gL_7, gL_8, gL_9, gL_10, gL_11, gL_12, gL_13, gL_14, gL_15, gA_0, gA_1, gA_2, gA_3, gA_4, gA_5, gA_6, gA_7, gA_8, gA_9, gA_10, gA_11, gA_12, gA_13, gA_14, gA_15, p1_0, p1_1, p1_2, p1_3, p1_4, p1_5, p1_6, p1_7, p1_8, p1_9, p1_10, p1_11, p1_12, p1_13, p1_14, p1_15, p2_0, p2_1, p2_2, p2_3, p2_4, p2_5, p2_6, p2_7, p2_8, p2_9, p2_10, p2_11, p2_12, p2_13, p2_14, p2_15, kx, bk1.2.1, bk1.2.2.1, bk1.2.2.2, s1, s2, s3, s4, s5, ix_nI u1, ix_nI u2, ix_nI u3, ix_nI u4, ix_nI u5, nI_pos' u1, nI_pos' u2, nI_pos' u3, nI_pos' u4, nI_pos' u5, v1, v2, v3, v4, v5]
  refine x_first C.1 gS.1 gS.2 (fun y e y0 => ?_) fun e h1 f1 => ?_
  · obtain ⟨h1, eh⟩ : ∃ z, z = RfC h x y := ⟨_, rfl⟩
    have fa1 : FA x h h1 := by rw [eh]; exact RfC.fa
    rw [← eh]
    have bk1 := bk1.fa fa1
    have M1 := M.fa gH fa1
    have km : hkd h1 (x + 34) = 16 := M1.1.1.1.1.1
    simp only [s270_696, s270_697, s270_698, s270_699, s270_700, s270_701, s270_702, oB_some, cl2_i, cl2_r, cl2_l, cl2_u, cl2_s, wd_0, wd_i, wd_r, wd_l, wd_f, ct_i, ct_r, ct_n, ct_f, rf_s, rf_n, tl_s, tl_n, true_and, and_true, eq_self, and_self, Nat.reduceAdd, Nat.reduceLeDiff, Nat.zero_le, Nat.reduceEqDiff, or_true, true_or, false_or, or_false, if_true, if_false, gI_0, gI_1, gI_2, gI_3, gI_4, gI_5, gI_6, gI_7, gI_8, gI_9, gI_10, gI_11, gI_12, gI_13, gI_14, gI_15, gL_0, gL_1, gL_2, gL_3, gL_4, gL_5, gL_6, gL_7, gL_8, gL_9, gL_10, gL_11, gL_12, gL_13, gL_14, gL_15, gA_0, gA_1, gA_2, gA_3, gA_4, gA_5, gA_6, gA_7, gA_8, gA_9, gA_10, gA_11, gA_12, gA_13, gA_14, gA_15, p1_0, p1_1, p1_2, p1_3, p1_4, p1_5, p1_6, p1_7, p1_8, p1_9, p1_10, p1_11, p1_12, p1_13, p1_14, p1_15, p2_0, p2_1, p2_2, p2_3, p2_4, p2_5, p2_6, p2_7, p2_8, p2_9, p2_10, p2_11, p2_12, p2_13, p2_14, p2_15, km, bk1.2.1, bk1.2.2.1, bk1.2.2.2, s1, s2, s3, s4, s5, ix_nI u1, ix_nI u2, ix_nI u3, ix_nI u4, ix_nI u5, nI_pos' u1, nI_pos' u2, nI_pos' u3, nI_pos' u4, nI_pos' u5, v1, v2, v3, v4, v5]
    refine n_first M1.1 gS.1 gS.2 (fun y2 e2 n2 => ?_) fun e2 => absurd (e.symm.trans e2) y0
    obtain rfl := e.symm.trans e2
    simp only [s270_705, s270_708, oB_some, cl2_i, cl2_r, cl2_l, cl2_u, cl2_s, wd_0, wd_i, wd_r, wd_l, wd_f, ct_i, ct_r, ct_n, ct_f, rf_s, rf_n, tl_s, tl_n, true_and, and_true, eq_self, and_self, Nat.reduceAdd, Nat.reduceLeDiff, Nat.zero_le, Nat.reduceEqDiff, or_true, true_or, false_or, or_false, if_true, if_false, gI_0, gI_1, gI_2, gI_3, gI_4, gI_5, gI_6, gI_7, gI_8, gI_9, gI_10, gI_11, gI_12, gI_13, gI_14, gI_15, gL_0, gL_1, gL_2, gL_3, gL_4, gL_5, gL_6, gL_7, gL_8, gL_9, gL_10, gL_11, gL_12, gL_13, gL_14, gL_15, gA_0, gA_1, gA_2, gA_3, gA_4, gA_5, gA_6, gA_7, gA_8, gA_9, gA_10, gA_11, gA_12, gA_13, gA_14, gA_15, p1_0, p1_1, p1_2, p1_3, p1_4, p1_5, p1_6, p1_7, p1_8, p1_9, p1_10, p1_11, p1_12, p1_13, p1_14, p1_15, p2_0, p2_1, p2_2, p2_3, p2_4, p2_5, p2_6, p2_7, p2_8, p2_9, p2_10, p2_11, p2_12, p2_13, p2_14, p2_15, b01_ok, b_ft, b_tf, b01_e0, b01_e1, lgc_0, not_true_eq_false, not_false_eq_true]
    rw [eh]
    exact nx _ _ _ _ _ _ _ _ _ (by omega) (by omega) (a.refuse y)
  · skip
    have fa1 : FA x h h1 := f1.fa (by omega) (by omega)
    have bk1 := bk1.fa fa1
    have M1 := M.fa gH fa1
    have km : hkd h1 (x + 34) = 16 := M1.1.1.1.1.1
    simp only [s270_696, s270_697, s270_698, s270_699, s270_700, s270_701, s270_702, oB_some, cl2_i, cl2_r, cl2_l, cl2_u, cl2_s, wd_0, wd_i, wd_r, wd_l, wd_f, ct_i, ct_r, ct_n, ct_f, rf_s, rf_n, tl_s, tl_n, true_and, and_true, eq_self, and_self, Nat.reduceAdd, Nat.reduceLeDiff, Nat.zero_le, Nat.reduceEqDiff, or_true, true_or, false_or, or_false, if_true, if_false, gI_0, gI_1, gI_2, gI_3, gI_4, gI_5, gI_6, gI_7, gI_8, gI_9, gI_10, gI_11, gI_12, gI_13, gI_14, gI_15, gL_0, gL_1, gL_2, gL_3, gL_4, gL_5, gL_6, gL_7, gL_8, gL_9, gL_10, gL_11, gL_12, gL_13, gL_14, gL_15, gA_0, gA_1, gA_2, gA_3, gA_4, gA_5, gA_6, gA_7, gA_8, gA_9, gA_10, gA_11, gA_12, gA_13, gA_14, gA_15, p1_0, p1_1, p1_2, p1_3, p1_4, p1_5, p1_6, p1_7, p1_8, p1_9, p1_10, p1_11, p1_12, p1_13, p1_14, p1_15, p2_0, p2_1, p2_2, p2_3, p2_4, p2_5, p2_6, p2_7, p2_8, p2_9, p2_10, p2_11, p2_12, p2_13, p2_14, p2_15, km, bk1.2.1, bk1.2.2.1, bk1.2.2.2, s1, s2, s3, s4, s5, ix_nI u1, ix_nI u2, ix_nI u3, ix_nI u4, ix_nI u5, nI_pos' u1, nI_pos' u2, nI_pos' u3, nI_pos' u4, nI_pos' u5, v1, v2, v3, v4, v5]
    refine n_first M1.1 gS.1 gS.2 (fun y2 e2 n2 => absurd (e2.symm.trans e) n2) fun _ h2 f2 M2 => ?_
    simp only [s270_705, s270_708, oB_some, cl2_i, cl2_r, cl2_l, cl2_u, cl2_s, wd_0, wd_i, wd_r, wd_l, wd_f, ct_i, ct_r, ct_n, ct_f, rf_s, rf_n, tl_s, tl_n, true_and, and_true, eq_self, and_self, Nat.reduceAdd, Nat.reduceLeDiff, Nat.zero_le, Nat.reduceEqDiff, or_true, true_or, false_or, or_false, if_true, if_false, gI_0, gI_1, gI_2, gI_3, gI_4, gI_5, gI_6, gI_7, gI_8, gI_9, gI_10, gI_11, gI_12, gI_13, gI_14, gI_15, gL_0, gL_1, gL_2, gL_3, gL_4, gL_5, gL_6, gL_7, gL_8, gL_9, gL_10, gL_11, gL_12, gL_13, gL_14, gL_15, gA_0, gA_1, gA_2, gA_3, gA_4, gA_5, gA_6, gA_7, gA_8, gA_9, gA_10, gA_11, gA_12, gA_13, gA_14, gA_15, p1_0, p1_1, p1_2, p1_3, p1_4, p1_5, p1_6, p1_7, p1_8, p1_9, p1_10, p1_11, p1_12, p1_13, p1_14, p1_15, p2_0, p2_1, p2_2, p2_3, p2_4, p2_5, p2_6, p2_7, p2_8, p2_9, p2_10, p2_11, p2_12, p2_13, p2_14, p2_15, b01_ok, b_ft, b_tf, b01_e0, b01_e1, lgc_0, not_true_eq_false, not_false_eq_true]
    exact nx _ _ _ _ _ _ _ _ _ (by omega) (by omega) (a.ask f1 f2 M2)
set_option maxHeartbeats 4000000 in
theorem lc_letHer {b L x tl len i c s : Nat} {xs : Nat → Int32} {h : HP} {tp r : Nat → Nat} {S : VS} {H : HS} {Q : PQ} (a : LI b L xs h x S H tp tl r len) (hi : i + 6 ≤ L) (hL : L ≤ 3072) (hc : 12 ≤ c) (hs : 172 ≤ s)
    (nx : ∀ h' S' H' tp' tl' r' len' c' s', c ≤ c' + 12 → s ≤ s' + 172 → LI b L xs h' x S' H' tp' tl' r' len' → WP 11 270 Q (1434, [.val (.ref b), .val (.ref x), .val (.ref (x + 34)), .val (.int (nI i))], [], h', c', s')) : WP 11 270 Q (710, [.val (.ref b), .val (.ref x), .val (.ref (x + 34)), .val (.int (nI i))], [], h, c, s) := by
  have a0 := a
  obtain ⟨C, M, ⟨gS, gH⟩, rf, bk⟩ := a0
  have bk1 : SKb b L xs x h := bk
  have s1 : nI i + 1 = nI (i + 1) := nI_add i 1
  have s2 : nI i + 2 = nI (i + 2) := nI_add i 2
  have s3 : nI i + 3 = nI (i + 3) := nI_add i 3
  have s4 : nI i + 4 = nI (i + 4) := nI_add i 4
  have s5 : nI i + 5 = nI (i + 5) := nI_add i 5
  have u1 : i + 1 < 2 ^ 31 := by omega
  have u2 : i + 2 < 2 ^ 31 := by omega
  have u3 : i + 3 < 2 ^ 31 := by omega
  have u4 : i + 4 < 2 ^ 31 := by omega
  have u5 : i + 5 < 2 ^ 31 := by omega
  have v1 : i + 1 < L := by omega
  have v2 : i + 2 < L := by omega
  have v3 : i + 3 < L := by omega
  have v4 : i + 4 < L := by omega
  have v5 : i + 5 < L := by omega
  have kx : hkd h x = 15 := C.1.1.1.1
  simp only [s270_710, s270_711, s270_712, s270_713, s270_714, s270_715, s270_716, s270_717, s270_718, s270_719, s270_720, s270_721, s270_722, s270_723, s270_724, s270_725, s270_726, oB_some, cl2_i, cl2_r, cl2_l, cl2_u, cl2_s, wd_0, wd_i, wd_r, wd_l, wd_f, ct_i, ct_r, ct_n, ct_f, rf_s, rf_n, tl_s, tl_n, true_and, and_true, eq_self, and_self, Nat.reduceAdd, Nat.reduceLeDiff, Nat.zero_le, Nat.reduceEqDiff, or_true, true_or, false_or, or_false, if_true, if_false, gI_0, gI_1, gI_2, gI_3, gI_4, gI_5, gI_6, gI_7, gI_8, gI_9, gI_10, gI_11, gI_12, gI_13, gI_14, gI_15, gL_0, gL_1, gL_2, gL_3, gL_4, gL_5, gL_6, gL_7, gL_8, gL_9, gL_10, gL_11, gL_12, gL_13, gL_14, gL_15, gA_0, gA_1, gA_2, gA_3, gA_4, gA_5, gA_6, gA_7, gA_8, gA_9, gA_10, gA_11, gA_12, gA_13, gA_14, gA_15, p1_0, p1_1, p1_2, p1_3, p1_4, p1_5, p1_6, p1_7, p1_8, p1_9, p1_10, p1_11, p1_12, p1_13, p1_14, p1_15, p2_0, p2_1, p2_2, p2_3, p2_4, p2_5, p2_6, p2_7, p2_8, p2_9, p2_10, p2_11, p2_12, p2_13, p2_14, p2_15, kx, bk1.2.1, bk1.2.2.1, bk1.2.2.2, s1, s2, s3, s4, s5, ix_nI u1, ix_nI u2, ix_nI u3, ix_nI u4, ix_nI u5, nI_pos' u1, nI_pos' u2, nI_pos' u3, nI_pos' u4, nI_pos' u5, v1, v2, v3, v4, v5]
  refine x_letHer C.1 gS.1 gS.2 (fun y e y0 => ?_) fun e h1 f1 => ?_
  · obtain ⟨h1, eh⟩ : ∃ z, z = RfC h x y := ⟨_, rfl⟩
    have fa1 : FA x h h1 := by rw [eh]; exact RfC.fa
    rw [← eh]
    have bk1 := bk1.fa fa1
    have M1 := M.fa gH fa1
    have km : hkd h1 (x + 34) = 16 := M1.1.1.1.1.1
    simp only [s270_729, s270_730, s270_731, s270_732, s270_733, s270_734, s270_735, s270_736, s270_737, s270_738, s270_739, s270_740, s270_741, s270_742, s270_743, s270_744, s270_745, oB_some, cl2_i, cl2_r, cl2_l, cl2_u, cl2_s, wd_0, wd_i, wd_r, wd_l, wd_f, ct_i, ct_r, ct_n, ct_f, rf_s, rf_n, tl_s, tl_n, true_and, and_true, eq_self, and_self, Nat.reduceAdd, Nat.reduceLeDiff, Nat.zero_le, Nat.reduceEqDiff, or_true, true_or, false_or, or_false, if_true, if_false, gI_0, gI_1, gI_2, gI_3, gI_4, gI_5, gI_6, gI_7, gI_8, gI_9, gI_10, gI_11, gI_12, gI_13, gI_14, gI_15, gL_0, gL_1, gL_2, gL_3, gL_4, gL_5, gL_6, gL_7, gL_8, gL_9, gL_10, gL_11, gL_12, gL_13, gL_14, gL_15, gA_0, gA_1, gA_2, gA_3, gA_4, gA_5, gA_6, gA_7, gA_8, gA_9, gA_10, gA_11, gA_12, gA_13, gA_14, gA_15, p1_0, p1_1, p1_2, p1_3, p1_4, p1_5, p1_6, p1_7, p1_8, p1_9, p1_10, p1_11, p1_12, p1_13, p1_14, p1_15, p2_0, p2_1, p2_2, p2_3, p2_4, p2_5, p2_6, p2_7, p2_8, p2_9, p2_10, p2_11, p2_12, p2_13, p2_14, p2_15, km, bk1.2.1, bk1.2.2.1, bk1.2.2.2, s1, s2, s3, s4, s5, ix_nI u1, ix_nI u2, ix_nI u3, ix_nI u4, ix_nI u5, nI_pos' u1, nI_pos' u2, nI_pos' u3, nI_pos' u4, nI_pos' u5, v1, v2, v3, v4, v5]
    refine n_letHer M1.1 gS.1 gS.2 (fun y2 e2 n2 => ?_) fun e2 => absurd (e.symm.trans e2) y0
    obtain rfl := e.symm.trans e2
    simp only [s270_748, s270_751, oB_some, cl2_i, cl2_r, cl2_l, cl2_u, cl2_s, wd_0, wd_i, wd_r, wd_l, wd_f, ct_i, ct_r, ct_n, ct_f, rf_s, rf_n, tl_s, tl_n, true_and, and_true, eq_self, and_self, Nat.reduceAdd, Nat.reduceLeDiff, Nat.zero_le, Nat.reduceEqDiff, or_true, true_or, false_or, or_false, if_true, if_false, gI_0, gI_1, gI_2, gI_3, gI_4, gI_5, gI_6, gI_7, gI_8, gI_9, gI_10, gI_11, gI_12, gI_13, gI_14, gI_15, gL_0, gL_1, gL_2, gL_3, gL_4, gL_5, gL_6, gL_7, gL_8, gL_9, gL_10, gL_11, gL_12, gL_13, gL_14, gL_15, gA_0, gA_1, gA_2, gA_3, gA_4, gA_5, gA_6, gA_7, gA_8, gA_9, gA_10, gA_11, gA_12, gA_13, gA_14, gA_15, p1_0, p1_1, p1_2, p1_3, p1_4, p1_5, p1_6, p1_7, p1_8, p1_9, p1_10, p1_11, p1_12, p1_13, p1_14, p1_15, p2_0, p2_1, p2_2, p2_3, p2_4, p2_5, p2_6, p2_7, p2_8, p2_9, p2_10, p2_11, p2_12, p2_13, p2_14, p2_15, b01_ok, b_ft, b_tf, b01_e0, b01_e1, lgc_0, not_true_eq_false, not_false_eq_true]
    rw [eh]
    exact nx _ _ _ _ _ _ _ _ _ (by omega) (by omega) (a.refuse y)
  · skip
    have fa1 : FA x h h1 := f1.fa (by omega) (by omega)
    have bk1 := bk1.fa fa1
    have M1 := M.fa gH fa1
    have km : hkd h1 (x + 34) = 16 := M1.1.1.1.1.1
    simp only [s270_729, s270_730, s270_731, s270_732, s270_733, s270_734, s270_735, s270_736, s270_737, s270_738, s270_739, s270_740, s270_741, s270_742, s270_743, s270_744, s270_745, oB_some, cl2_i, cl2_r, cl2_l, cl2_u, cl2_s, wd_0, wd_i, wd_r, wd_l, wd_f, ct_i, ct_r, ct_n, ct_f, rf_s, rf_n, tl_s, tl_n, true_and, and_true, eq_self, and_self, Nat.reduceAdd, Nat.reduceLeDiff, Nat.zero_le, Nat.reduceEqDiff, or_true, true_or, false_or, or_false, if_true, if_false, gI_0, gI_1, gI_2, gI_3, gI_4, gI_5, gI_6, gI_7, gI_8, gI_9, gI_10, gI_11, gI_12, gI_13, gI_14, gI_15, gL_0, gL_1, gL_2, gL_3, gL_4, gL_5, gL_6, gL_7, gL_8, gL_9, gL_10, gL_11, gL_12, gL_13, gL_14, gL_15, gA_0, gA_1, gA_2, gA_3, gA_4, gA_5, gA_6, gA_7, gA_8, gA_9, gA_10, gA_11, gA_12, gA_13, gA_14, gA_15, p1_0, p1_1, p1_2, p1_3, p1_4, p1_5, p1_6, p1_7, p1_8, p1_9, p1_10, p1_11, p1_12, p1_13, p1_14, p1_15, p2_0, p2_1, p2_2, p2_3, p2_4, p2_5, p2_6, p2_7, p2_8, p2_9, p2_10, p2_11, p2_12, p2_13, p2_14, p2_15, km, bk1.2.1, bk1.2.2.1, bk1.2.2.2, s1, s2, s3, s4, s5, ix_nI u1, ix_nI u2, ix_nI u3, ix_nI u4, ix_nI u5, nI_pos' u1, nI_pos' u2, nI_pos' u3, nI_pos' u4, nI_pos' u5, v1, v2, v3, v4, v5]
    refine n_letHer M1.1 gS.1 gS.2 (fun y2 e2 n2 => absurd (e2.symm.trans e) n2) fun _ h2 f2 M2 => ?_
    simp only [s270_748, s270_751, oB_some, cl2_i, cl2_r, cl2_l, cl2_u, cl2_s, wd_0, wd_i, wd_r, wd_l, wd_f, ct_i, ct_r, ct_n, ct_f, rf_s, rf_n, tl_s, tl_n, true_and, and_true, eq_self, and_self, Nat.reduceAdd, Nat.reduceLeDiff, Nat.zero_le, Nat.reduceEqDiff, or_true, true_or, false_or, or_false, if_true, if_false, gI_0, gI_1, gI_2, gI_3, gI_4, gI_5, gI_6, gI_7, gI_8, gI_9, gI_10, gI_11, gI_12, gI_13, gI_14, gI_15, gL_0, gL_1, gL_2, gL_3, gL_4, gL_5, gL_6, gL_7, gL_8, gL_9, gL_10, gL_11, gL_12, gL_13, gL_14, gL_15, gA_0, gA_1, gA_2, gA_3, gA_4, gA_5, gA_6, gA_7, gA_8, gA_9, gA_10, gA_11, gA_12, gA_13, gA_14, gA_15, p1_0, p1_1, p1_2, p1_3, p1_4, p1_5, p1_6, p1_7, p1_8, p1_9, p1_10, p1_11, p1_12, p1_13, p1_14, p1_15, p2_0, p2_1, p2_2, p2_3, p2_4, p2_5, p2_6, p2_7, p2_8, p2_9, p2_10, p2_11, p2_12, p2_13, p2_14, p2_15, b01_ok, b_ft, b_tf, b01_e0, b01_e1, lgc_0, not_true_eq_false, not_false_eq_true]
    exact nx _ _ _ _ _ _ _ _ _ (by omega) (by omega) (a.ask f1 f2 M2)
set_option maxHeartbeats 4000000 in
theorem lc_rubberFor {b L x tl len i c s : Nat} {xs : Nat → Int32} {h : HP} {tp r : Nat → Nat} {S : VS} {H : HS} {Q : PQ} (a : LI b L xs h x S H tp tl r len) (hi : i + 6 ≤ L) (hL : L ≤ 3072) (hc : 12 ≤ c) (hs : 172 ≤ s)
    (nx : ∀ h' S' H' tp' tl' r' len' c' s', c ≤ c' + 12 → s ≤ s' + 172 → LI b L xs h' x S' H' tp' tl' r' len' → WP 11 270 Q (1434, [.val (.ref b), .val (.ref x), .val (.ref (x + 34)), .val (.int (nI i))], [], h', c', s')) : WP 11 270 Q (753, [.val (.ref b), .val (.ref x), .val (.ref (x + 34)), .val (.int (nI i))], [], h, c, s) := by
  have a0 := a
  obtain ⟨C, M, ⟨gS, gH⟩, rf, bk⟩ := a0
  have bk1 : SKb b L xs x h := bk
  have s1 : nI i + 1 = nI (i + 1) := nI_add i 1
  have s2 : nI i + 2 = nI (i + 2) := nI_add i 2
  have s3 : nI i + 3 = nI (i + 3) := nI_add i 3
  have s4 : nI i + 4 = nI (i + 4) := nI_add i 4
  have s5 : nI i + 5 = nI (i + 5) := nI_add i 5
  have u1 : i + 1 < 2 ^ 31 := by omega
  have u2 : i + 2 < 2 ^ 31 := by omega
  have u3 : i + 3 < 2 ^ 31 := by omega
  have u4 : i + 4 < 2 ^ 31 := by omega
  have u5 : i + 5 < 2 ^ 31 := by omega
  have v1 : i + 1 < L := by omega
  have v2 : i + 2 < L := by omega
  have v3 : i + 3 < L := by omega
  have v4 : i + 4 < L := by omega
  have v5 : i + 5 < L := by omega
  have kx : hkd h x = 15 := C.1.1.1.1
  simp only [s270_753, s270_754, s270_755, s270_756, s270_757, s270_758, s270_759, s270_760, s270_761, s270_762, s270_763, s270_764, s270_765, s270_766, s270_767, s270_768, s270_769, oB_some, cl2_i, cl2_r, cl2_l, cl2_u, cl2_s, wd_0, wd_i, wd_r, wd_l, wd_f, ct_i, ct_r, ct_n, ct_f, rf_s, rf_n, tl_s, tl_n, true_and, and_true, eq_self, and_self, Nat.reduceAdd, Nat.reduceLeDiff, Nat.zero_le, Nat.reduceEqDiff, or_true, true_or, false_or, or_false, if_true, if_false, gI_0, gI_1, gI_2, gI_3, gI_4, gI_5, gI_6, gI_7, gI_8, gI_9, gI_10, gI_11, gI_12, gI_13, gI_14, gI_15, gL_0, gL_1, gL_2, gL_3, gL_4, gL_5, gL_6, gL_7, gL_8, gL_9, gL_10, gL_11, gL_12, gL_13, gL_14, gL_15, gA_0, gA_1, gA_2, gA_3, gA_4, gA_5, gA_6, gA_7, gA_8, gA_9, gA_10, gA_11, gA_12, gA_13, gA_14, gA_15, p1_0, p1_1, p1_2, p1_3, p1_4, p1_5, p1_6, p1_7, p1_8, p1_9, p1_10, p1_11, p1_12, p1_13, p1_14, p1_15, p2_0, p2_1, p2_2, p2_3, p2_4, p2_5, p2_6, p2_7, p2_8, p2_9, p2_10, p2_11, p2_12, p2_13, p2_14, p2_15, kx, bk1.2.1, bk1.2.2.1, bk1.2.2.2, s1, s2, s3, s4, s5, ix_nI u1, ix_nI u2, ix_nI u3, ix_nI u4, ix_nI u5, nI_pos' u1, nI_pos' u2, nI_pos' u3, nI_pos' u4, nI_pos' u5, v1, v2, v3, v4, v5]
  refine x_rubberFor C.1 gS.1 gS.2 (fun y e y0 => ?_) fun e h1 f1 => ?_
  · obtain ⟨h1, eh⟩ : ∃ z, z = RfC h x y := ⟨_, rfl⟩
    have fa1 : FA x h h1 := by rw [eh]; exact RfC.fa
    rw [← eh]
    have bk1 := bk1.fa fa1
    have M1 := M.fa gH fa1
    have km : hkd h1 (x + 34) = 16 := M1.1.1.1.1.1
    simp only [s270_772, s270_773, s270_774, s270_775, s270_776, s270_777, s270_778, s270_779, s270_780, s270_781, s270_782, s270_783, s270_784, s270_785, s270_786, s270_787, s270_788, oB_some, cl2_i, cl2_r, cl2_l, cl2_u, cl2_s, wd_0, wd_i, wd_r, wd_l, wd_f, ct_i, ct_r, ct_n, ct_f, rf_s, rf_n, tl_s, tl_n, true_and, and_true, eq_self, and_self, Nat.reduceAdd, Nat.reduceLeDiff, Nat.zero_le, Nat.reduceEqDiff, or_true, true_or, false_or, or_false, if_true, if_false, gI_0, gI_1, gI_2, gI_3, gI_4, gI_5, gI_6, gI_7, gI_8, gI_9, gI_10, gI_11, gI_12, gI_13, gI_14, gI_15, gL_0, gL_1, gL_2, gL_3, gL_4, gL_5, gL_6, gL_7, gL_8, gL_9, gL_10, gL_11, gL_12, gL_13, gL_14, gL_15, gA_0, gA_1, gA_2, gA_3, gA_4, gA_5, gA_6, gA_7, gA_8, gA_9, gA_10, gA_11, gA_12, gA_13, gA_14, gA_15, p1_0, p1_1, p1_2, p1_3, p1_4, p1_5, p1_6, p1_7, p1_8, p1_9, p1_10, p1_11, p1_12, p1_13, p1_14, p1_15, p2_0, p2_1, p2_2, p2_3, p2_4, p2_5, p2_6, p2_7, p2_8, p2_9, p2_10, p2_11, p2_12, p2_13, p2_14, p2_15, km, bk1.2.1, bk1.2.2.1, bk1.2.2.2, s1, s2, s3, s4, s5, ix_nI u1, ix_nI u2, ix_nI u3, ix_nI u4, ix_nI u5, nI_pos' u1, nI_pos' u2, nI_pos' u3, nI_pos' u4, nI_pos' u5, v1, v2, v3, v4, v5]
    refine n_rubberFor M1.1 gS.1 gS.2 (fun y2 e2 n2 => ?_) fun e2 => absurd (e.symm.trans e2) y0
    obtain rfl := e.symm.trans e2
    simp only [s270_791, s270_794, oB_some, cl2_i, cl2_r, cl2_l, cl2_u, cl2_s, wd_0, wd_i, wd_r, wd_l, wd_f, ct_i, ct_r, ct_n, ct_f, rf_s, rf_n, tl_s, tl_n, true_and, and_true, eq_self, and_self, Nat.reduceAdd, Nat.reduceLeDiff, Nat.zero_le, Nat.reduceEqDiff, or_true, true_or, false_or, or_false, if_true, if_false, gI_0, gI_1, gI_2, gI_3, gI_4, gI_5, gI_6, gI_7, gI_8, gI_9, gI_10, gI_11, gI_12, gI_13, gI_14, gI_15, gL_0, gL_1, gL_2, gL_3, gL_4, gL_5, gL_6, gL_7, gL_8, gL_9, gL_10, gL_11, gL_12, gL_13, gL_14, gL_15, gA_0, gA_1, gA_2, gA_3, gA_4, gA_5, gA_6, gA_7, gA_8, gA_9, gA_10, gA_11, gA_12, gA_13, gA_14, gA_15, p1_0, p1_1, p1_2, p1_3, p1_4, p1_5, p1_6, p1_7, p1_8, p1_9, p1_10, p1_11, p1_12, p1_13, p1_14, p1_15, p2_0, p2_1, p2_2, p2_3, p2_4, p2_5, p2_6, p2_7, p2_8, p2_9, p2_10, p2_11, p2_12, p2_13, p2_14, p2_15, b01_ok, b_ft, b_tf, b01_e0, b01_e1, lgc_0, not_true_eq_false, not_false_eq_true]
    rw [eh]
    exact nx _ _ _ _ _ _ _ _ _ (by omega) (by omega) (a.refuse y)
  · skip
    have fa1 : FA x h h1 := f1.fa (by omega) (by omega)
    have bk1 := bk1.fa fa1
    have M1 := M.fa gH fa1
    have km : hkd h1 (x + 34) = 16 := M1.1.1.1.1.1
    simp only [s270_772, s270_773, s270_774, s270_775, s270_776, s270_777, s270_778, s270_779, s270_780, s270_781, s270_782, s270_783, s270_784, s270_785, s270_786, s270_787, s270_788, oB_some, cl2_i, cl2_r, cl2_l, cl2_u, cl2_s, wd_0, wd_i, wd_r, wd_l, wd_f, ct_i, ct_r, ct_n, ct_f, rf_s, rf_n, tl_s, tl_n, true_and, and_true, eq_self, and_self, Nat.reduceAdd, Nat.reduceLeDiff, Nat.zero_le, Nat.reduceEqDiff, or_true, true_or, false_or, or_false, if_true, if_false, gI_0, gI_1, gI_2, gI_3, gI_4, gI_5, gI_6, gI_7, gI_8, gI_9, gI_10, gI_11, gI_12, gI_13, gI_14, gI_15, gL_0, gL_1, gL_2, gL_3, gL_4, gL_5, gL_6, gL_7, gL_8, gL_9, gL_10, gL_11, gL_12, gL_13, gL_14, gL_15, gA_0, gA_1, gA_2, gA_3, gA_4, gA_5, gA_6, gA_7, gA_8, gA_9, gA_10, gA_11, gA_12, gA_13, gA_14, gA_15, p1_0, p1_1, p1_2, p1_3, p1_4, p1_5, p1_6, p1_7, p1_8, p1_9, p1_10, p1_11, p1_12, p1_13, p1_14, p1_15, p2_0, p2_1, p2_2, p2_3, p2_4, p2_5, p2_6, p2_7, p2_8, p2_9, p2_10, p2_11, p2_12, p2_13, p2_14, p2_15, km, bk1.2.1, bk1.2.2.1, bk1.2.2.2, s1, s2, s3, s4, s5, ix_nI u1, ix_nI u2, ix_nI u3, ix_nI u4, ix_nI u5, nI_pos' u1, nI_pos' u2, nI_pos' u3, nI_pos' u4, nI_pos' u5, v1, v2, v3, v4, v5]
    refine n_rubberFor M1.1 gS.1 gS.2 (fun y2 e2 n2 => absurd (e2.symm.trans e) n2) fun _ h2 f2 M2 => ?_
    simp only [s270_791, s270_794, oB_some, cl2_i, cl2_r, cl2_l, cl2_u, cl2_s, wd_0, wd_i, wd_r, wd_l, wd_f, ct_i, ct_r, ct_n, ct_f, rf_s, rf_n, tl_s, tl_n, true_and, and_true, eq_self, and_self, Nat.reduceAdd, Nat.reduceLeDiff, Nat.zero_le, Nat.reduceEqDiff, or_true, true_or, false_or, or_false, if_true, if_false, gI_0, gI_1, gI_2, gI_3, gI_4, gI_5, gI_6, gI_7, gI_8, gI_9, gI_10, gI_11, gI_12, gI_13, gI_14, gI_15, gL_0, gL_1, gL_2, gL_3, gL_4, gL_5, gL_6, gL_7, gL_8, gL_9, gL_10, gL_11, gL_12, gL_13, gL_14, gL_15, gA_0, gA_1, gA_2, gA_3, gA_4, gA_5, gA_6, gA_7, gA_8, gA_9, gA_10, gA_11, gA_12, gA_13, gA_14, gA_15, p1_0, p1_1, p1_2, p1_3, p1_4, p1_5, p1_6, p1_7, p1_8, p1_9, p1_10, p1_11, p1_12, p1_13, p1_14, p1_15, p2_0, p2_1, p2_2, p2_3, p2_4, p2_5, p2_6, p2_7, p2_8, p2_9, p2_10, p2_11, p2_12, p2_13, p2_14, p2_15, b01_ok, b_ft, b_tf, b01_e0, b01_e1, lgc_0, not_true_eq_false, not_false_eq_true]
    exact nx _ _ _ _ _ _ _ _ _ (by omega) (by omega) (a.ask f1 f2 M2)
set_option maxHeartbeats 4000000 in
theorem lc_ink {b L x tl len i c s : Nat} {xs : Nat → Int32} {h : HP} {tp r : Nat → Nat} {S : VS} {H : HS} {Q : PQ} (a : LI b L xs h x S H tp tl r len) (hi : i + 6 ≤ L) (hL : L ≤ 3072) (hc : 12 ≤ c) (hs : 172 ≤ s)
    (nx : ∀ h' S' H' tp' tl' r' len' c' s', c ≤ c' + 12 → s ≤ s' + 172 → LI b L xs h' x S' H' tp' tl' r' len' → WP 11 270 Q (1434, [.val (.ref b), .val (.ref x), .val (.ref (x + 34)), .val (.int (nI i))], [], h', c', s')) : WP 11 270 Q (796, [.val (.ref b), .val (.ref x), .val (.ref (x + 34)), .val (.int (nI i))], [], h, c, s) := by
  have a0 := a
  obtain ⟨C, M, ⟨gS, gH⟩, rf, bk⟩ := a0
  have bk1 : SKb b L xs x h := bk
  have s1 : nI i + 1 = nI (i + 1) := nI_add i 1
  have s2 : nI i + 2 = nI (i + 2) := nI_add i 2
  have s3 : nI i + 3 = nI (i + 3) := nI_add i 3
  have s4 : nI i + 4 = nI (i + 4) := nI_add i 4
  have s5 : nI i + 5 = nI (i + 5) := nI_add i 5
  have u1 : i + 1 < 2 ^ 31 := by omega
  have u2 : i + 2 < 2 ^ 31 := by omega
  have u3 : i + 3 < 2 ^ 31 := by omega
  have u4 : i + 4 < 2 ^ 31 := by omega
  have u5 : i + 5 < 2 ^ 31 := by omega
  have v1 : i + 1 < L := by omega
  have v2 : i + 2 < L := by omega
  have v3 : i + 3 < L := by omega
  have v4 : i + 4 < L := by omega
  have v5 : i + 5 < L := by omega
  have kx : hkd h x = 15 := C.1.1.1.1
  simp only [s270_796, s270_797, s270_798, s270_799, s270_800, s270_801, s270_802, s270_803, s270_804, s270_805, s270_806, s270_807, oB_some, cl2_i, cl2_r, cl2_l, cl2_u, cl2_s, wd_0, wd_i, wd_r, wd_l, wd_f, ct_i, ct_r, ct_n, ct_f, rf_s, rf_n, tl_s, tl_n, true_and, and_true, eq_self, and_self, Nat.reduceAdd, Nat.reduceLeDiff, Nat.zero_le, Nat.reduceEqDiff, or_true, true_or, false_or, or_false, if_true, if_false, gI_0, gI_1, gI_2, gI_3, gI_4, gI_5, gI_6, gI_7, gI_8, gI_9, gI_10, gI_11, gI_12, gI_13, gI_14, gI_15, gL_0, gL_1, gL_2, gL_3, gL_4, gL_5, gL_6, gL_7, gL_8, gL_9, gL_10, gL_11, gL_12, gL_13, gL_14, gL_15, gA_0, gA_1, gA_2, gA_3, gA_4, gA_5, gA_6, gA_7, gA_8, gA_9, gA_10, gA_11, gA_12, gA_13, gA_14, gA_15, p1_0, p1_1, p1_2, p1_3, p1_4, p1_5, p1_6, p1_7, p1_8, p1_9, p1_10, p1_11, p1_12, p1_13, p1_14, p1_15, p2_0, p2_1, p2_2, p2_3, p2_4, p2_5, p2_6, p2_7, p2_8, p2_9, p2_10, p2_11, p2_12, p2_13, p2_14, p2_15, kx, bk1.2.1, bk1.2.2.1, bk1.2.2.2, s1, s2, s3, s4, s5, ix_nI u1, ix_nI u2, ix_nI u3, ix_nI u4, ix_nI u5, nI_pos' u1, nI_pos' u2, nI_pos' u3, nI_pos' u4, nI_pos' u5, v1, v2, v3, v4, v5]
  refine x_ink C.1 gS.1 gS.2 (fun y e y0 => ?_) fun e h1 f1 => ?_
  · obtain ⟨h1, eh⟩ : ∃ z, z = RfC h x y := ⟨_, rfl⟩
    have fa1 : FA x h h1 := by rw [eh]; exact RfC.fa
    rw [← eh]
    have bk1 := bk1.fa fa1
    have M1 := M.fa gH fa1
    have km : hkd h1 (x + 34) = 16 := M1.1.1.1.1.1
    simp only [s270_810, s270_811, s270_812, s270_813, s270_814, s270_815, s270_816, s270_817, s270_818, s270_819, s270_820, s270_821, oB_some, cl2_i, cl2_r, cl2_l, cl2_u, cl2_s, wd_0, wd_i, wd_r, wd_l, wd_f, ct_i, ct_r, ct_n, ct_f, rf_s, rf_n, tl_s, tl_n, true_and, and_true, eq_self, and_self, Nat.reduceAdd, Nat.reduceLeDiff, Nat.zero_le, Nat.reduceEqDiff, or_true, true_or, false_or, or_false, if_true, if_false, gI_0, gI_1, gI_2, gI_3, gI_4, gI_5, gI_6, gI_7, gI_8, gI_9, gI_10, gI_11, gI_12, gI_13, gI_14, gI_15, gL_0, gL_1, gL_2, gL_3, gL_4, gL_5, gL_6, gL_7, gL_8, gL_9, gL_10, gL_11, gL_12, gL_13, gL_14, gL_15, gA_0, gA_1, gA_2, gA_3, gA_4, gA_5, gA_6, gA_7, gA_8, gA_9, gA_10, gA_11, gA_12, gA_13, gA_14, gA_15, p1_0, p1_1, p1_2, p1_3, p1_4, p1_5, p1_6, p1_7, p1_8, p1_9, p1_10, p1_11, p1_12, p1_13, p1_14, p1_15, p2_0, p2_1, p2_2, p2_3, p2_4, p2_5, p2_6, p2_7, p2_8, p2_9, p2_10, p2_11, p2_12, p2_13, p2_14, p2_15, km, bk1.2.1, bk1.2.2.1, bk1.2.2.2, s1, s2, s3, s4, s5, ix_nI u1, ix_nI u2, ix_nI u3, ix_nI u4, ix_nI u5, nI_pos' u1, nI_pos' u2, nI_pos' u3, nI_pos' u4, nI_pos' u5, v1, v2, v3, v4, v5]
    refine n_ink M1.1 gS.1 gS.2 (fun y2 e2 n2 => ?_) fun e2 => absurd (e.symm.trans e2) y0
    obtain rfl := e.symm.trans e2
    simp only [s270_824, s270_827, oB_some, cl2_i, cl2_r, cl2_l, cl2_u, cl2_s, wd_0, wd_i, wd_r, wd_l, wd_f, ct_i, ct_r, ct_n, ct_f, rf_s, rf_n, tl_s, tl_n, true_and, and_true, eq_self, and_self, Nat.reduceAdd, Nat.reduceLeDiff, Nat.zero_le, Nat.reduceEqDiff, or_true, true_or, false_or, or_false, if_true, if_false, gI_0, gI_1, gI_2, gI_3, gI_4, gI_5, gI_6, gI_7, gI_8, gI_9, gI_10, gI_11, gI_12, gI_13, gI_14, gI_15, gL_0, gL_1, gL_2, gL_3, gL_4, gL_5, gL_6, gL_7, gL_8, gL_9, gL_10, gL_11, gL_12, gL_13, gL_14, gL_15, gA_0, gA_1, gA_2, gA_3, gA_4, gA_5, gA_6, gA_7, gA_8, gA_9, gA_10, gA_11, gA_12, gA_13, gA_14, gA_15, p1_0, p1_1, p1_2, p1_3, p1_4, p1_5, p1_6, p1_7, p1_8, p1_9, p1_10, p1_11, p1_12, p1_13, p1_14, p1_15, p2_0, p2_1, p2_2, p2_3, p2_4, p2_5, p2_6, p2_7, p2_8, p2_9, p2_10, p2_11, p2_12, p2_13, p2_14, p2_15, b01_ok, b_ft, b_tf, b01_e0, b01_e1, lgc_0, not_true_eq_false, not_false_eq_true]
    rw [eh]
    exact nx _ _ _ _ _ _ _ _ _ (by omega) (by omega) (a.refuse y)
  · skip
    have fa1 : FA x h h1 := f1.fa (by omega) (by omega)
    have bk1 := bk1.fa fa1
    have M1 := M.fa gH fa1
    have km : hkd h1 (x + 34) = 16 := M1.1.1.1.1.1
    simp only [s270_810, s270_811, s270_812, s270_813, s270_814, s270_815, s270_816, s270_817, s270_818, s270_819, s270_820, s270_821, oB_some, cl2_i, cl2_r, cl2_l, cl2_u, cl2_s, wd_0, wd_i, wd_r, wd_l, wd_f, ct_i, ct_r, ct_n, ct_f, rf_s, rf_n, tl_s, tl_n, true_and, and_true, eq_self, and_self, Nat.reduceAdd, Nat.reduceLeDiff, Nat.zero_le, Nat.reduceEqDiff, or_true, true_or, false_or, or_false, if_true, if_false, gI_0, gI_1, gI_2, gI_3, gI_4, gI_5, gI_6, gI_7, gI_8, gI_9, gI_10, gI_11, gI_12, gI_13, gI_14, gI_15, gL_0, gL_1, gL_2, gL_3, gL_4, gL_5, gL_6, gL_7, gL_8, gL_9, gL_10, gL_11, gL_12, gL_13, gL_14, gL_15, gA_0, gA_1, gA_2, gA_3, gA_4, gA_5, gA_6, gA_7, gA_8, gA_9, gA_10, gA_11, gA_12, gA_13, gA_14, gA_15, p1_0, p1_1, p1_2, p1_3, p1_4, p1_5, p1_6, p1_7, p1_8, p1_9, p1_10, p1_11, p1_12, p1_13, p1_14, p1_15, p2_0, p2_1, p2_2, p2_3, p2_4, p2_5, p2_6, p2_7, p2_8, p2_9, p2_10, p2_11, p2_12, p2_13, p2_14, p2_15, km, bk1.2.1, bk1.2.2.1, bk1.2.2.2, s1, s2, s3, s4, s5, ix_nI u1, ix_nI u2, ix_nI u3, ix_nI u4, ix_nI u5, nI_pos' u1, nI_pos' u2, nI_pos' u3, nI_pos' u4, nI_pos' u5, v1, v2, v3, v4, v5]
    refine n_ink M1.1 gS.1 gS.2 (fun y2 e2 n2 => absurd (e2.symm.trans e) n2) fun _ h2 f2 M2 => ?_
    simp only [s270_824, s270_827, oB_some, cl2_i, cl2_r, cl2_l, cl2_u, cl2_s, wd_0, wd_i, wd_r, wd_l, wd_f, ct_i, ct_r, ct_n, ct_f, rf_s, rf_n, tl_s, tl_n, true_and, and_true, eq_self, and_self, Nat.reduceAdd, Nat.reduceLeDiff, Nat.zero_le, Nat.reduceEqDiff, or_true, true_or, false_or, or_false, if_true, if_false, gI_0, gI_1, gI_2, gI_3, gI_4, gI_5, gI_6, gI_7, gI_8, gI_9, gI_10, gI_11, gI_12, gI_13, gI_14, gI_15, gL_0, gL_1, gL_2, gL_3, gL_4, gL_5, gL_6, gL_7, gL_8, gL_9, gL_10, gL_11, gL_12, gL_13, gL_14, gL_15, gA_0, gA_1, gA_2, gA_3, gA_4, gA_5, gA_6, gA_7, gA_8, gA_9, gA_10, gA_11, gA_12, gA_13, gA_14, gA_15, p1_0, p1_1, p1_2, p1_3, p1_4, p1_5, p1_6, p1_7, p1_8, p1_9, p1_10, p1_11, p1_12, p1_13, p1_14, p1_15, p2_0, p2_1, p2_2, p2_3, p2_4, p2_5, p2_6, p2_7, p2_8, p2_9, p2_10, p2_11, p2_12, p2_13, p2_14, p2_15, b01_ok, b_ft, b_tf, b01_e0, b01_e1, lgc_0, not_true_eq_false, not_false_eq_true]
    exact nx _ _ _ _ _ _ _ _ _ (by omega) (by omega) (a.ask f1 f2 M2)
set_option maxHeartbeats 4000000 in
theorem lc_friendFor {b L x tl len i c s : Nat} {xs : Nat → Int32} {h : HP} {tp r : Nat → Nat} {S : VS} {H : HS} {Q : PQ} (a : LI b L xs h x S H tp tl r len) (hi : i + 6 ≤ L) (hL : L ≤ 3072) (hc : 12 ≤ c) (hs : 172 ≤ s)
    (nx : ∀ h' S' H' tp' tl' r' len' c' s', c ≤ c' + 12 → s ≤ s' + 172 → LI b L xs h' x S' H' tp' tl' r' len' → WP 11 270 Q (1434, [.val (.ref b), .val (.ref x), .val (.ref (x + 34)), .val (.int (nI i))], [], h', c', s')) : WP 11 270 Q (829, [.val (.ref b), .val (.ref x), .val (.ref (x + 34)), .val (.int (nI i))], [], h, c, s) := by
  have a0 := a
  obtain ⟨C, M, ⟨gS, gH⟩, rf, bk⟩ := a0
  have bk1 : SKb b L xs x h := bk
  have s1 : nI i + 1 = nI (i + 1) := nI_add i 1
  have s2 : nI i + 2 = nI (i + 2) := nI_add i 2
  have s3 : nI i + 3 = nI (i + 3) := nI_add i 3
  have s4 : nI i + 4 = nI (i + 4) := nI_add i 4
  have s5 : nI i + 5 = nI (i + 5) := nI_add i 5
  have u1 : i + 1 < 2 ^ 31 := by omega
  have u2 : i + 2 < 2 ^ 31 := by omega
  have u3 : i + 3 < 2 ^ 31 := by omega
  have u4 : i + 4 < 2 ^ 31 := by omega
  have u5 : i + 5 < 2 ^ 31 := by omega
  have v1 : i + 1 < L := by omega
  have v2 : i + 2 < L := by omega
  have v3 : i + 3 < L := by omega
  have v4 : i + 4 < L := by omega
  have v5 : i + 5 < L := by omega
  have kx : hkd h x = 15 := C.1.1.1.1
  simp only [s270_829, s270_830, s270_831, s270_832, s270_833, s270_834, s270_835, s270_836, s270_837, s270_838, s270_839, s270_840, s270_841, s270_842, s270_843, s270_844, s270_845, s270_846, s270_847, s270_848, s270_849, s270_850, oB_some, cl2_i, cl2_r, cl2_l, cl2_u, cl2_s, wd_0, wd_i, wd_r, wd_l, wd_f, ct_i, ct_r, ct_n, ct_f, rf_s, rf_n, tl_s, tl_n, true_and, and_true, eq_self, and_self, Nat.reduceAdd, Nat.reduceLeDiff, Nat.zero_le, Nat.reduceEqDiff, or_true, true_or, false_or, or_false, if_true, if_false, gI_0, gI_1, gI_2, gI_3, gI_4, gI_5, gI_6, gI_7, gI_8, gI_9, gI_10, gI_11, gI_12, gI_13, gI_14, gI_15, gL_0, gL_1, gL_2, gL_3, gL_4, gL_5, gL_6, gL_7, gL_8, gL_9, gL_10, gL_11, gL_12, gL_13, gL_14, gL_15, gA_0, gA_1, gA_2, gA_3, gA_4, gA_5, gA_6, gA_7, gA_8, gA_9, gA_10, gA_11, gA_12, gA_13, gA_14, gA_15, p1_0, p1_1, p1_2, p1_3, p1_4, p1_5, p1_6, p1_7, p1_8, p1_9, p1_10, p1_11, p1_12, p1_13, p1_14, p1_15, p2_0, p2_1, p2_2, p2_3, p2_4, p2_5, p2_6, p2_7, p2_8, p2_9, p2_10, p2_11, p2_12, p2_13, p2_14, p2_15, kx, bk1.2.1, bk1.2.2.1, bk1.2.2.2, s1, s2, s3, s4, s5, ix_nI u1, ix_nI u2, ix_nI u3, ix_nI u4, ix_nI u5, nI_pos' u1, nI_pos' u2, nI_pos' u3, nI_pos' u4, nI_pos' u5, v1, v2, v3, v4, v5]
  refine x_friendFor C.1 gS.1 gS.2 (fun y e y0 => ?_) fun e h1 f1 => ?_
  · obtain ⟨h1, eh⟩ : ∃ z, z = RfC h x y := ⟨_, rfl⟩
    have fa1 : FA x h h1 := by rw [eh]; exact RfC.fa
    rw [← eh]
    have bk1 := bk1.fa fa1
    have M1 := M.fa gH fa1
    have km : hkd h1 (x + 34) = 16 := M1.1.1.1.1.1
    simp only [s270_853, s270_854, s270_855, s270_856, s270_857, s270_858, s270_859, s270_860, s270_861, s270_862, s270_863, s270_864, s270_865, s270_866, s270_867, s270_868, s270_869, s270_870, s270_871, s270_872, s270_873, s270_874, oB_some, cl2_i, cl2_r, cl2_l, cl2_u, cl2_s, wd_0, wd_i, wd_r, wd_l, wd_f, ct_i, ct_r, ct_n, ct_f, rf_s, rf_n, tl_s, tl_n, true_and, and_true, eq_self, and_self, Nat.reduceAdd, Nat.reduceLeDiff, Nat.zero_le, Nat.reduceEqDiff, or_true, true_or, false_or, or_false, if_true, if_false, gI_0, gI_1, gI_2, gI_3, gI_4, gI_5, gI_6, gI_7, gI_8, gI_9, gI_10, gI_11, gI_12, gI_13, gI_14, gI_15, gL_0, gL_1, gL_2, gL_3, gL_4, gL_5, gL_6, gL_7, gL_8, gL_9, gL_10, gL_11, gL_12, gL_13, gL_14, gL_15, gA_0, gA_1, gA_2, gA_3, gA_4, gA_5, gA_6, gA_7, gA_8, gA_9, gA_10, gA_11, gA_12, gA_13, gA_14, gA_15, p1_0, p1_1, p1_2, p1_3, p1_4, p1_5, p1_6, p1_7, p1_8, p1_9, p1_10, p1_11, p1_12, p1_13, p1_14, p1_15, p2_0, p2_1, p2_2, p2_3, p2_4, p2_5, p2_6, p2_7, p2_8, p2_9, p2_10, p2_11, p2_12, p2_13, p2_14, p2_15, km, bk1.2.1, bk1.2.2.1, bk1.2.2.2, s1, s2, s3, s4, s5, ix_nI u1, ix_nI u2, ix_nI u3, ix_nI u4, ix_nI u5, nI_pos' u1, nI_pos' u2, nI_pos' u3, nI_pos' u4, nI_pos' u5, v1, v2, v3, v4, v5]
    refine n_friendFor M1.1 gS.1 gS.2 (fun y2 e2 n2 => ?_) fun e2 => absurd (e.symm.trans e2) y0
    obtain rfl := e.symm.trans e2
    simp only [s270_877, s270_880, oB_some, cl2_i, cl2_r, cl2_l, cl2_u, cl2_s, wd_0, wd_i, wd_r, wd_l, wd_f, ct_i, ct_r, ct_n, ct_f, rf_s, rf_n, tl_s, tl_n, true_and, and_true, eq_self, and_self, Nat.reduceAdd, Nat.reduceLeDiff, Nat.zero_le, Nat.reduceEqDiff, or_true, true_or, false_or, or_false, if_true, if_false, gI_0, gI_1, gI_2, gI_3, gI_4, gI_5, gI_6, gI_7, gI_8, gI_9, gI_10, gI_11, gI_12, gI_13, gI_14, gI_15, gL_0, gL_1, gL_2, gL_3, gL_4, gL_5, gL_6, gL_7, gL_8, gL_9, gL_10, gL_11, gL_12, gL_13, gL_14, gL_15, gA_0, gA_1, gA_2, gA_3, gA_4, gA_5, gA_6, gA_7, gA_8, gA_9, gA_10, gA_11, gA_12, gA_13, gA_14, gA_15, p1_0, p1_1, p1_2, p1_3, p1_4, p1_5, p1_6, p1_7, p1_8, p1_9, p1_10, p1_11, p1_12, p1_13, p1_14, p1_15, p2_0, p2_1, p2_2, p2_3, p2_4, p2_5, p2_6, p2_7, p2_8, p2_9, p2_10, p2_11, p2_12, p2_13, p2_14, p2_15, b01_ok, b_ft, b_tf, b01_e0, b01_e1, lgc_0, not_true_eq_false, not_false_eq_true]
    rw [eh]
    exact nx _ _ _ _ _ _ _ _ _ (by omega) (by omega) (a.refuse y)
  · skip
    have fa1 : FA x h h1 := f1.fa (by omega) (by omega)
    have bk1 := bk1.fa fa1
    have M1 := M.fa gH fa1
    have km : hkd h1 (x + 34) = 16 := M1.1.1.1.1.1
    simp only [s270_853, s270_854, s270_855, s270_856, s270_857, s270_858, s270_859, s270_860, s270_861, s270_862, s270_863, s270_864, s270_865, s270_866, s270_867, s270_868, s270_869, s270_870, s270_871, s270_872, s270_873, s270_874, oB_some, cl2_i, cl2_r, cl2_l, cl2_u, cl2_s, wd_0, wd_i, wd_r, wd_l, wd_f, ct_i, ct_r, ct_n, ct_f, rf_s, rf_n, tl_s, tl_n, true_and, and_true, eq_self, and_self, Nat.reduceAdd, Nat.reduceLeDiff, Nat.zero_le, Nat.reduceEqDiff, or_true, true_or, false_or, or_false, if_true, if_false, gI_0, gI_1, gI_2, gI_3, gI_4, gI_5, gI_6, gI_7, gI_8, gI_9, gI_10, gI_11, gI_12, gI_13, gI_14, gI_15, gL_0, gL_1, gL_2, gL_3, gL_4, gL_5, gL_6, gL_7, gL_8, gL_9, gL_10, gL_11, gL_12, gL_13, gL_14, gL_15, gA_0, gA_1, gA_2, gA_3, gA_4, gA_5, gA_6, gA_7, gA_8, gA_9, gA_10, gA_11, gA_12, gA_13, gA_14, gA_15, p1_0, p1_1, p1_2, p1_3, p1_4, p1_5, p1_6, p1_7, p1_8, p1_9, p1_10, p1_11, p1_12, p1_13, p1_14, p1_15, p2_0, p2_1, p2_2, p2_3, p2_4, p2_5, p2_6, p2_7, p2_8, p2_9, p2_10, p2_11, p2_12, p2_13, p2_14, p2_15, km, bk1.2.1, bk1.2.2.1, bk1.2.2.2, s1, s2, s3, s4, s5, ix_nI u1, ix_nI u2, ix_nI u3, ix_nI u4, ix_nI u5, nI_pos' u1, nI_pos' u2, nI_pos' u3, nI_pos' u4, nI_pos' u5, v1, v2, v3, v4, v5]
    refine n_friendFor M1.1 gS.1 gS.2 (fun y2 e2 n2 => absurd (e2.symm.trans e) n2) fun _ h2 f2 M2 => ?_
    simp only [s270_877, s270_880, oB_some, cl2_i, cl2_r, cl2_l, cl2_u, cl2_s, wd_0, wd_i, wd_r, wd_l, wd_f, ct_i, ct_r, ct_n, ct_f, rf_s, rf_n, tl_s, tl_n, true_and, and_true, eq_self, and_self, Nat.reduceAdd, Nat.reduceLeDiff, Nat.zero_le, Nat.reduceEqDiff, or_true, true_or, false_or, or_false, if_true, if_false, gI_0, gI_1, gI_2, gI_3, gI_4, gI_5, gI_6, gI_7, gI_8, gI_9, gI_10, gI_11, gI_12, gI_13, gI_14, gI_15, gL_0, gL_1, gL_2, gL_3, gL_4, gL_5, gL_6, gL_7, gL_8, gL_9, gL_10, gL_11, gL_12, gL_13, gL_14, gL_15, gA_0, gA_1, gA_2, gA_3, gA_4, gA_5, gA_6, gA_7, gA_8, gA_9, gA_10, gA_11, gA_12, gA_13, gA_14, gA_15, p1_0, p1_1, p1_2, p1_3, p1_4, p1_5, p1_6, p1_7, p1_8, p1_9, p1_10, p1_11, p1_12, p1_13, p1_14, p1_15, p2_0, p2_1, p2_2, p2_3, p2_4, p2_5, p2_6, p2_7, p2_8, p2_9, p2_10, p2_11, p2_12, p2_13, p2_14, p2_15, b01_ok, b_ft, b_tf, b01_e0, b01_e1, lgc_0, not_true_eq_false, not_false_eq_true]
    exact nx _ _ _ _ _ _ _ _ _ (by omega) (by omega) (a.ask f1 f2 M2)
set_option maxHeartbeats 4000000 in
theorem lc_swap {b L x tl len i c s : Nat} {xs : Nat → Int32} {h : HP} {tp r : Nat → Nat} {S : VS} {H : HS} {Q : PQ} (a : LI b L xs h x S H tp tl r len) (hi : i + 6 ≤ L) (hL : L ≤ 3072) (hc : 12 ≤ c) (hs : 172 ≤ s)
    (nx : ∀ h' S' H' tp' tl' r' len' c' s', c ≤ c' + 12 → s ≤ s' + 172 → LI b L xs h' x S' H' tp' tl' r' len' → WP 11 270 Q (1434, [.val (.ref b), .val (.ref x), .val (.ref (x + 34)), .val (.int (nI i))], [], h', c', s')) : WP 11 270 Q (882, [.val (.ref b), .val (.ref x), .val (.ref (x + 34)), .val (.int (nI i))], [], h, c, s) := by
  have a0 := a
  obtain ⟨C, M, ⟨gS, gH⟩, rf, bk⟩ := a0
  have bk1 : SKb b L xs x h := bk
  have s1 : nI i + 1 = nI (i + 1) := nI_add i 1
  have s2 : nI i + 2 = nI (i + 2) := nI_add i 2
  have s3 : nI i + 3 = nI (i + 3) := nI_add i 3
  have s4 : nI i + 4 = nI (i + 4) := nI_add i 4
  have s5 : nI i + 5 = nI (i + 5) := nI_add i 5
  have u1 : i + 1 < 2 ^ 31 := by omega
  have u2 : i + 2 < 2 ^ 31 := by omega
  have u3 : i + 3 < 2 ^ 31 := by omega
  have u4 : i + 4 < 2 ^ 31 := by omega
  have u5 : i + 5 < 2 ^ 31 := by omega
  have v1 : i + 1 < L := by omega
  have v2 : i + 2 < L := by omega
  have v3 : i + 3 < L := by omega
  have v4 : i + 4 < L := by omega
  have v5 : i + 5 < L := by omega
  have kx : hkd h x = 15 := C.1.1.1.1
  simp only [s270_882, s270_883, s270_884, s270_885, s270_886, s270_887, s270_888, oB_some, cl2_i, cl2_r, cl2_l, cl2_u, cl2_s, wd_0, wd_i, wd_r, wd_l, wd_f, ct_i, ct_r, ct_n, ct_f, rf_s, rf_n, tl_s, tl_n, true_and, and_true, eq_self, and_self, Nat.reduceAdd, Nat.reduceLeDiff, Nat.zero_le, Nat.reduceEqDiff, or_true, true_or, false_or, or_false, if_true, if_false, gI_0, gI_1, gI_2, gI_3, gI_4, gI_5, gI_6, gI_7, gI_8, gI_9, gI_10, gI_11, gI_12, gI_13, gI_14, gI_15, gL_0, gL_1, gL_2, gL_3, gL_4, gL_5, gL_6, gL_7, gL_8, gL_9, gL_10, gL_11, gL_12, gL_13, gL_14, gL_15, gA_0, gA_1, gA_2, gA_3, gA_4, gA_5, gA_6, gA_7, gA_8, gA_9, gA_10, gA_11, gA_12, gA_13, gA_14, gA_15, p1_0, p1_1, p1_2, p1_3, p1_4, p1_5, p1_6, p1_7, p1_8, p1_9, p1_10, p1_11, p1_12, p1_13, p1_14, p1_15, p2_0, p2_1, p2_2, p2_3, p2_4, p2_5, p2_6, p2_7, p2_8, p2_9, p2_10, p2_11, p2_12, p2_13, p2_14, p2_15, kx, bk1.2.1, bk1.2.2.1, bk1.2.2.2, s1, s2, s3, s4, s5, ix_nI u1, ix_nI u2, ix_nI u3, ix_nI u4, ix_nI u5, nI_pos' u1, nI_pos' u2, nI_pos' u3, nI_pos' u4, nI_pos' u5, v1, v2, v3, v4, v5]
  refine x_swap C.1 gS.1 gS.2 (fun y e y0 => ?_) fun e h1 f1 => ?_
  · obtain ⟨h1, eh⟩ : ∃ z, z = RfC h x y := ⟨_, rfl⟩
    have fa1 : FA x h h1 := by rw [eh]; exact RfC.fa
    rw [← eh]
    have bk1 := bk1.fa fa1
    have M1 := M.fa gH fa1
    have km : hkd h1 (x + 34) = 16 := M1.1.1.1.1.1
    simp only [s270_891, s270_892, s270_893, s270_894, s270_895, s270_896, s270_897, oB_some, cl2_i, cl2_r, cl2_l, cl2_u, cl2_s, wd_0, wd_i, wd_r, wd_l, wd_f, ct_i, ct_r, ct_n, ct_f, rf_s, rf_n, tl_s, tl_n, true_and, and_true, eq_self, and_self, Nat.reduceAdd, Nat.reduceLeDiff, Nat.zero_le, Nat.reduceEqDiff, or_true, true_or, false_or, or_false, if_true, if_false, gI_0, gI_1, gI_2, gI_3, gI_4, gI_5, gI_6, gI_7, gI_8, gI_9, gI_10, gI_11, gI_12, gI_13, gI_14, gI_15, gL_0, gL_1, gL_2, gL_3, gL_4, gL_5, gL_6, gL_7, gL_8, gL_9, gL_10, gL_11, gL_12, gL_13, gL_14, gL_15, gA_0, gA_1, gA_2, gA_3, gA_4, gA_5, gA_6, gA_7, gA_8, gA_9, gA_10, gA_11, gA_12, gA_13, gA_14, gA_15, p1_0, p1_1, p1_2, p1_3, p1_4, p1_5, p1_6, p1_7, p1_8, p1_9, p1_10, p1_11, p1_12, p1_13, p1_14, p1_15, p2_0, p2_1, p2_2, p2_3, p2_4, p2_5, p2_6, p2_7, p2_8, p2_9, p2_10, p2_11, p2_12, p2_13, p2_14, p2_15, km, bk1.2.1, bk1.2.2.1, bk1.2.2.2, s1, s2, s3, s4, s5, ix_nI u1, ix_nI u2, ix_nI u3, ix_nI u4, ix_nI u5, nI_pos' u1, nI_pos' u2, nI_pos' u3, nI_pos' u4, nI_pos' u5, v1, v2, v3, v4, v5]
    refine n_swap M1.1 gS.1 gS.2 (fun y2 e2 n2 => ?_) fun e2 => absurd (e.symm.trans e2) y0
    obtain rfl := e.symm.trans e2
    simp only [s270_900, s270_903, oB_some, cl2_i, cl2_r, cl2_l, cl2_u, cl2_s, wd_0, wd_i, wd_r, wd_l, wd_f, ct_i, ct_r, ct_n, ct_f, rf_s, rf_n, tl_s, tl_n, true_and, and_true, eq_self, and_self, Nat.reduceAdd, Nat.reduceLeDiff, Nat.zero_le, Nat.reduceEqDiff, or_true, true_or, false_or, or_false, if_true, if_false, gI_0, gI_1, gI_2, gI_3, gI_4, gI_5, gI_6, gI_7, gI_8, gI_9, gI_10, gI_11, gI_12, gI_13, gI_14, gI_15, gL_0, gL_1, gL_2, gL_3, gL_4, gL_5, gL_6, gL_7, gL_8, gL_9, gL_10, gL_11, gL_12, gL_13, gL_14, gL_15, gA_0, gA_1, gA_2, gA_3, gA_4, gA_5, gA_6, gA_7, gA_8, gA_9, gA_10, gA_11, gA_12, gA_13, gA_14, gA_15, p1_0, p1_1, p1_2, p1_3, p1_4, p1_5, p1_6, p1_7, p1_8, p1_9, p1_10, p1_11, p1_12, p1_13, p1_14, p1_15, p2_0, p2_1, p2_2, p2_3, p2_4, p2_5, p2_6, p2_7, p2_8, p2_9, p2_10, p2_11, p2_12, p2_13, p2_14, p2_15, b01_ok, b_ft, b_tf, b01_e0, b01_e1, lgc_0, not_true_eq_false, not_false_eq_true]
    rw [eh]
    exact nx _ _ _ _ _ _ _ _ _ (by omega) (by omega) (a.refuse y)
  · skip
    have fa1 : FA x h h1 := f1.fa (by omega) (by omega)
    have bk1 := bk1.fa fa1
    have M1 := M.fa gH fa1
    have km : hkd h1 (x + 34) = 16 := M1.1.1.1.1.1
    simp only [s270_891, s270_892, s270_893, s270_894, s270_895, s270_896, s270_897, oB_some, cl2_i, cl2_r, cl2_l, cl2_u, cl2_s, wd_0, wd_i, wd_r, wd_l, wd_f, ct_i, ct_r, ct_n, ct_f, rf_s, rf_n, tl_s, tl_n, true_and, and_true, eq_self, and_self, Nat.reduceAdd, Nat.reduceLeDiff, Nat.zero_le, Nat.reduceEqDiff, or_true, true_or, false_or, or_false, if_true, if_false, gI_0, gI_1, gI_2, gI_3, gI_4, gI_5, gI_6, gI_7, gI_8, gI_9, gI_10, gI_11, gI_12, gI_13, gI_14, gI_15, gL_0, gL_1, gL_2, gL_3, gL_4, gL_5, gL_6, gL_7, gL_8, gL_9, gL_10, gL_11, gL_12, gL_13, gL_14, gL_15, gA_0, gA_1, gA_2, gA_3, gA_4, gA_5, gA_6, gA_7, gA_8, gA_9, gA_10, gA_11, gA_12, gA_13, gA_14, gA_15, p1_0, p1_1, p1_2, p1_3, p1_4, p1_5, p1_6, p1_7, p1_8, p1_9, p1_10, p1_11, p1_12, p1_13, p1_14, p1_15, p2_0, p2_1, p2_2, p2_3, p2_4, p2_5, p2_6, p2_7, p2_8, p2_9, p2_10, p2_11, p2_12, p2_13, p2_14, p2_15, km, bk1.2.1, bk1.2.2.1, bk1.2.2.2, s1, s2, s3, s4, s5, ix_nI u1, ix_nI u2, ix_nI u3, ix_nI u4, ix_nI u5, nI_pos' u1, nI_pos' u2, nI_pos' u3, nI_pos' u4, nI_pos' u5, v1, v2, v3, v4, v5]
    refine n_swap M1.1 gS.1 gS.2 (fun y2 e2 n2 => absurd (e2.symm.trans e) n2) fun _ h2 f2 M2 => ?_
    simp only [s270_900, s270_903, oB_some, cl2_i, cl2_r, cl2_l, cl2_u, cl2_s, wd_0, wd_i, wd_r, wd_l, wd_f, ct_i, ct_r, ct_n, ct_f, rf_s, rf_n, tl_s, tl_n, true_and, and_true, eq_self, and_self, Nat.reduceAdd, Nat.reduceLeDiff, Nat.zero_le, Nat.reduceEqDiff, or_true, true_or, false_or, or_false, if_true, if_false, gI_0, gI_1, gI_2, gI_3, gI_4, gI_5, gI_6, gI_7, gI_8, gI_9, gI_10, gI_11, gI_12, gI_13, gI_14, gI_15, gL_0, gL_1, gL_2, gL_3, gL_4, gL_5, gL_6, gL_7, gL_8, gL_9, gL_10, gL_11, gL_12, gL_13, gL_14, gL_15, gA_0, gA_1, gA_2, gA_3, gA_4, gA_5, gA_6, gA_7, gA_8, gA_9, gA_10, gA_11, gA_12, gA_13, gA_14, gA_15, p1_0, p1_1, p1_2, p1_3, p1_4, p1_5, p1_6, p1_7, p1_8, p1_9, p1_10, p1_11, p1_12, p1_13, p1_14, p1_15, p2_0, p2_1, p2_2, p2_3, p2_4, p2_5, p2_6, p2_7, p2_8, p2_9, p2_10, p2_11, p2_12, p2_13, p2_14, p2_15, b01_ok, b_ft, b_tf, b01_e0, b01_e1, lgc_0, not_true_eq_false, not_false_eq_true]
    exact nx _ _ _ _ _ _ _ _ _ (by omega) (by omega) (a.ask f1 f2 M2)
set_option maxHeartbeats 4000000 in
theorem lc_shade {b L x tl len i c s : Nat} {xs : Nat → Int32} {h : HP} {tp r : Nat → Nat} {S : VS} {H : HS} {Q : PQ} (a : LI b L xs h x S H tp tl r len) (hi : i + 6 ≤ L) (hL : L ≤ 3072) (hc : 12 ≤ c) (hs : 172 ≤ s)
    (nx : ∀ h' S' H' tp' tl' r' len' c' s', c ≤ c' + 12 → s ≤ s' + 172 → LI b L xs h' x S' H' tp' tl' r' len' → WP 11 270 Q (1434, [.val (.ref b), .val (.ref x), .val (.ref (x + 34)), .val (.int (nI i))], [], h', c', s')) : WP 11 270 Q (905, [.val (.ref b), .val (.ref x), .val (.ref (x + 34)), .val (.int (nI i))], [], h, c, s) := by
  have a0 := a
  obtain ⟨C, M, ⟨gS, gH⟩, rf, bk⟩ := a0
  have bk1 : SKb b L xs x h := bk
  have s1 : nI i + 1 = nI (i + 1) := nI_add i 1
  have s2 : nI i + 2 = nI (i + 2) := nI_add i 2
  have s3 : nI i + 3 = nI (i + 3) := nI_add i 3
  have s4 : nI i + 4 = nI (i + 4) := nI_add i 4
  have s5 : nI i + 5 = nI (i + 5) := nI_add i 5
  have u1 : i + 1 < 2 ^ 31 := by omega
  have u2 : i + 2 < 2 ^ 31 := by omega
  have u3 : i + 3 < 2 ^ 31 := by omega
  have u4 : i + 4 < 2 ^ 31 := by omega
  have u5 : i + 5 < 2 ^ 31 := by omega
  have v1 : i + 1 < L := by omega
  have v2 : i + 2 < L := by omega
  have v3 : i + 3 < L := by omega
  have v4 : i + 4 < L := by omega
  have v5 : i + 5 < L := by omega
  have kx : hkd h x = 15 := C.1.1.1.1
  simp only [s270_905, s270_906, s270_907, s270_908, s270_909, s270_910, s270_911, oB_some, cl2_i, cl2_r, cl2_l, cl2_u, cl2_s, wd_0, wd_i, wd_r, wd_l, wd_f, ct_i, ct_r, ct_n, ct_f, rf_s, rf_n, tl_s, tl_n, true_and, and_true, eq_self, and_self, Nat.reduceAdd, Nat.reduceLeDiff, Nat.zero_le, Nat.reduceEqDiff, or_true, true_or, false_or, or_false, if_true, if_false, gI_0, gI_1, gI_2, gI_3, gI_4, gI_5, gI_6, gI_7, gI_8, gI_9, gI_10, gI_11, gI_12, gI_13, gI_14, gI_15, gL_0, gL_1, gL_2, gL_3, gL_4, gL_5, gL_6, gL_7, gL_8, gL_9, gL_10, gL_11, gL_12, gL_13, gL_14, gL_15, gA_0, gA_1, gA_2, gA_3, gA_4, gA_5, gA_6, gA_7, gA_8, gA_9, gA_10, gA_11, gA_12, gA_13, gA_14, gA_15, p1_0, p1_1, p1_2, p1_3, p1_4, p1_5, p1_6, p1_7, p1_8, p1_9, p1_10, p1_11, p1_12, p1_13, p1_14, p1_15, p2_0, p2_1, p2_2, p2_3, p2_4, p2_5, p2_6, p2_7, p2_8, p2_9, p2_10, p2_11, p2_12, p2_13, p2_14, p2_15, kx, bk1.2.1, bk1.2.2.1, bk1.2.2.2, s1, s2, s3, s4, s5, ix_nI u1, ix_nI u2, ix_nI u3, ix_nI u4, ix_nI u5, nI_pos' u1, nI_pos' u2, nI_pos' u3, nI_pos' u4, nI_pos' u5, v1, v2, v3, v4, v5]
  refine x_shade C.1 gS.1 gS.2 (fun y e y0 => ?_) fun e h1 f1 => ?_
  · obtain ⟨h1, eh⟩ : ∃ z, z = RfC h x y := ⟨_, rfl⟩
    have fa1 : FA x h h1 := by rw [eh]; exact RfC.fa
    rw [← eh]
    have bk1 := bk1.fa fa1
    have M1 := M.fa gH fa1
    have km : hkd h1 (x + 34) = 16 := M1.1.1.1.1.1
    simp only [s270_914, s270_915, s270_916, s270_917, s270_918, s270_919, s270_920, oB_some, cl2_i, cl2_r, cl2_l, cl2_u, cl2_s, wd_0, wd_i, wd_r, wd_l, wd_f, ct_i, ct_r, ct_n, ct_f, rf_s, rf_n, tl_s, tl_n, true_and, and_true, eq_self, and_self, Nat.reduceAdd, Nat.reduceLeDiff, Nat.zero_le, Nat.reduceEqDiff, or_true, true_or, false_or, or_false, if_true, if_false, gI_0, gI_1, gI_2, gI_3, gI_4, gI_5, gI_6, gI_7, gI_8, gI_9, gI_10, gI_11, gI_12, gI_13, gI_14, gI_15, gL_0, gL_1, gL_2, gL_3, gL_4, gL_5, gL_6, gL_7, gL_8, gL_9, gL_10, gL_11, gL_12, gL_13, gL_14, gL_15, gA_0, gA_1, gA_2, gA_3, gA_4, gA_5, gA_6, gA_7, gA_8, gA_9, gA_10, gA_11, gA_12, gA_13, gA_14, gA_15, p1_0, p1_1, p1_2, p1_3, p1_4, p1_5, p1_6, p1_7, p1_8, p1_9, p1_10, p1_11, p1_12, p1_13, p1_14, p1_15, p2_0, p2_1, p2_2, p2_3, p2_4, p2_5, p2_6, p2_7, p2_8, p2_9, p2_10, p2_11, p2_12, p2_13, p2_14, p2_15, km, bk1.2.1, bk1.2.2.1, bk1.2.2.2, s1, s2, s3, s4, s5, ix_nI u1, ix_nI u2, ix_nI u3, ix_nI u4, ix_nI u5, nI_pos' u1, nI_pos' u2, nI_pos' u3, nI_pos' u4, nI_pos' u5, v1, v2, v3, v4, v5]
    refine n_shade M1.1 gS.1 gS.2 (fun y2 e2 n2 => ?_) fun e2 => absurd (e.symm.trans e2) y0
    obtain rfl := e.symm.trans e2
    simp only [s270_923, s270_926, oB_some, cl2_i, cl2_r, cl2_l, cl2_u, cl2_s, wd_0, wd_i, wd_r, wd_l, wd_f, ct_i, ct_r, ct_n, ct_f, rf_s, rf_n, tl_s, tl_n, true_and, and_true, eq_self, and_self, Nat.reduceAdd, Nat.reduceLeDiff, Nat.zero_le, Nat.reduceEqDiff, or_true, true_or, false_or, or_false, if_true, if_false, gI_0, gI_1, gI_2, gI_3, gI_4, gI_5, gI_6, gI_7, gI_8, gI_9, gI_10, gI_11, gI_12, gI_13, gI_14, gI_15, gL_0, gL_1, gL_2, gL_3, gL_4, gL_5, gL_6, gL_7, gL_8, gL_9, gL_10, gL_11, gL_12, gL_13, gL_14, gL_15, gA_0, gA_1, gA_2, gA_3, gA_4, gA_5, gA_6, gA_7, gA_8, gA_9, gA_10, gA_11, gA_12, gA_13, gA_14, gA_15, p1_0, p1_1, p1_2, p1_3, p1_4, p1_5, p1_6, p1_7, p1_8, p1_9, p1_10, p1_11, p1_12, p1_13, p1_14, p1_15, p2_0, p2_1, p2_2, p2_3, p2_4, p2_5, p2_6, p2_7, p2_8, p2_9, p2_10, p2_11, p2_12, p2_13, p2_14, p2_15, b01_ok, b_ft, b_tf, b01_e0, b01_e1, lgc_0, not_true_eq_false, not_false_eq_true]
    rw [eh]
    exact nx _ _ _ _ _ _ _ _ _ (by omega) (by omega) (a.refuse y)
  · skip
    have fa1 : FA x h h1 := f1.fa (by omega) (by omega)
    have bk1 := bk1.fa fa1
    have M1 := M.fa gH fa1
    have km : hkd h1 (x + 34) = 16 := M1.1.1.1.1.1
    simp only [s270_914, s270_915, s270_916, s270_917, s270_918, s270_919, s270_920, oB_some, cl2_i, cl2_r, cl2_l, cl2_u, cl2_s, wd_0, wd_i, wd_r, wd_l, wd_f, ct_i, ct_r, ct_n, ct_f, rf_s, rf_n, tl_s, tl_n, true_and, and_true, eq_self, and_self, Nat.reduceAdd, Nat.reduceLeDiff, Nat.zero_le, Nat.reduceEqDiff, or_true, true_or, false_or, or_false, if_true, if_false, gI_0, gI_1, gI_2, gI_3, gI_4, gI_5, gI_6, gI_7, gI_8, gI_9, gI_10, gI_11, gI_12, gI_13, gI_14, gI_15, gL_0, gL_1, gL_2, gL_3, gL_4, gL_5, gL_6, gL_7, gL_8, gL_9, gL_10, gL_11, gL_12, gL_13, gL_14, gL_15, gA_0, gA_1, gA_2, gA_3, gA_4, gA_5, gA_6, gA_7, gA_8, gA_9, gA_10, gA_11, gA_12, gA_13, gA_14, gA_15, p1_0, p1_1, p1_2, p1_3, p1_4, p1_5, p1_6, p1_7, p1_8, p1_9, p1_10, p1_11, p1_12, p1_13, p1_14, p1_15, p2_0, p2_1, p2_2, p2_3, p2_4, p2_5, p2_6, p2_7, p2_8, p2_9, p2_10, p2_11, p2_12, p2_13, p2_14, p2_15, km, bk1.2.1, bk1.2.2.1, bk1.2.2.2, s1, s2, s3, s4, s5, ix_nI u1, ix_nI u2, ix_nI u3, ix_nI u4, ix_nI u5, nI_pos' u1, nI_pos' u2, nI_pos' u3, nI_pos' u4, nI_pos' u5, v1, v2, v3, v4, v5]
    refine n_shade M1.1 gS.1 gS.2 (fun y2 e2 n2 => absurd (e2.symm.trans e) n2) fun _ h2 f2 M2 => ?_
    simp only [s270_923, s270_926, oB_some, cl2_i, cl2_r, cl2_l, cl2_u, cl2_s, wd_0, wd_i, wd_r, wd_l, wd_f, ct_i, ct_r, ct_n, ct_f, rf_s, rf_n, tl_s, tl_n, true_and, and_true, eq_self, and_self, Nat.reduceAdd, Nat.reduceLeDiff, Nat.zero_le, Nat.reduceEqDiff, or_true, true_or, false_or, or_false, if_true, if_false, gI_0, gI_1, gI_2, gI_3, gI_4, gI_5, gI_6, gI_7, gI_8, gI_9, gI_10, gI_11, gI_12, gI_13, gI_14, gI_15, gL_0, gL_1, gL_2, gL_3, gL_4, gL_5, gL_6, gL_7, gL_8, gL_9, gL_10, gL_11, gL_12, gL_13, gL_14, gL_15, gA_0, gA_1, gA_2, gA_3, gA_4, gA_5, gA_6, gA_7, gA_8, gA_9, gA_10, gA_11, gA_12, gA_13, gA_14, gA_15, p1_0, p1_1, p1_2, p1_3, p1_4, p1_5, p1_6, p1_7, p1_8, p1_9, p1_10, p1_11, p1_12, p1_13, p1_14, p1_15, p2_0, p2_1, p2_2, p2_3, p2_4, p2_5, p2_6, p2_7, p2_8, p2_9, p2_10, p2_11, p2_12, p2_13, p2_14, p2_15, b01_ok, b_ft, b_tf, b01_e0, b01_e1, lgc_0, not_true_eq_false, not_false_eq_true]
    exact nx _ _ _ _ _ _ _ _ _ (by omega) (by omega) (a.ask f1 f2 M2)
set_option maxHeartbeats 4000000 in
theorem lc_whatKind {b L x tl len i c s : Nat} {xs : Nat → Int32} {h : HP} {tp r : Nat → Nat} {S : VS} {H : HS} {Q : PQ} (a : LI b L xs h x S H tp tl r len) (hi : i + 6 ≤ L) (hL : L ≤ 3072) (hc : 12 ≤ c) (hs : 172 ≤ s)
    (nx : ∀ h' S' H' tp' tl' r' len' c' s', c ≤ c' + 12 → s ≤ s' + 172 → LI b L xs h' x S' H' tp' tl' r' len' → WP 11 270 Q (1434, [.val (.ref b), .val (.ref x), .val (.ref (x + 34)), .val (.int (nI i))], [], h', c', s')) : WP 11 270 Q (928, [.val (.ref b), .val (.ref x), .val (.ref (x + 34)), .val (.int (nI i))], [], h, c, s) := by
  have a0 := a
  obtain ⟨C, M, ⟨gS, gH⟩, rf, bk⟩ := a0
  have bk1 : SKb b L xs x h := bk
  have s1 : nI i + 1 = nI (i + 1) := nI_add i 1
  have s2 : nI i + 2 = nI (i + 2) := nI_add i 2
  have s3 : nI i + 3 = nI (i + 3) := nI_add i 3
  have s4 : nI i + 4 = nI (i + 4) := nI_add i 4
  have s5 : nI i + 5 = nI (i + 5) := nI_add i 5
  have u1 : i + 1 < 2 ^ 31 := by omega
  have u2 : i + 2 < 2 ^ 31 := by omega
  have u3 : i + 3 < 2 ^ 31 := by omega
  have u4 : i + 4 < 2 ^ 31 := by omega
  have u5 : i + 5 < 2 ^ 31 := by omega
  have v1 : i + 1 < L := by omega
  have v2 : i + 2 < L := by omega
  have v3 : i + 3 < L := by omega
  have v4 : i + 4 < L := by omega
  have v5 : i + 5 < L := by omega
  have kx : hkd h x = 15 := C.1.1.1.1
  simp only [s270_928, s270_929, s270_930, s270_931, s270_932, s270_933, s270_934, s270_935, s270_936, s270_937, s270_938, s270_939, oB_some, cl2_i, cl2_r, cl2_l, cl2_u, cl2_s, wd_0, wd_i, wd_r, wd_l, wd_f, ct_i, ct_r, ct_n, ct_f, rf_s, rf_n, tl_s, tl_n, true_and, and_true, eq_self, and_self, Nat.reduceAdd, Nat.reduceLeDiff, Nat.zero_le, Nat.reduceEqDiff, or_true, true_or, false_or, or_false, if_true, if_false, gI_0, gI_1, gI_2, gI_3, gI_4, gI_5, gI_6, gI_7, gI_8, gI_9, gI_10, gI_11, gI_12, gI_13, gI_14, gI_15, gL_0, gL_1, gL_2, gL_3, gL_4, gL_5, gL_6, gL_7, gL_8, gL_9, gL_10, gL_11, gL_12, gL_13, gL_14, gL_15, gA_0, gA_1, gA_2, gA_3, gA_4, gA_5, gA_6, gA_7, gA_8, gA_9, gA_10, gA_11, gA_12, gA_13, gA_14, gA_15, p1_0, p1_1, p1_2, p1_3, p1_4, p1_5, p1_6, p1_7, p1_8, p1_9, p1_10, p1_11, p1_12, p1_13, p1_14, p1_15, p2_0, p2_1, p2_2, p2_3, p2_4, p2_5, p2_6, p2_7, p2_8, p2_9, p2_10, p2_11, p2_12, p2_13, p2_14, p2_15, kx, bk1.2.1, bk1.2.2.1, bk1.2.2.2, s1, s2, s3, s4, s5, ix_nI u1, ix_nI u2, ix_nI u3, ix_nI u4, ix_nI u5, nI_pos' u1, nI_pos' u2, nI_pos' u3, nI_pos' u4, nI_pos' u5, v1, v2, v3, v4, v5]
  refine x_whatKind C.1 gS.1 gS.2 C.2.2.2 (fun y e y0 => ?_) fun e => ?_
  · obtain ⟨h1, eh⟩ : ∃ z, z = RfC h x y := ⟨_, rfl⟩
    have fa1 : FA x h h1 := by rw [eh]; exact RfC.fa
    rw [← eh]
    have bk1 := bk1.fa fa1
    have M1 := M.fa gH fa1
    have km : hkd h1 (x + 34) = 16 := M1.1.1.1.1.1
    simp only [s270_942, s270_943, s270_944, s270_945, s270_946, s270_947, s270_948, s270_949, s270_950, s270_951, s270_952, s270_953, oB_some, cl2_i, cl2_r, cl2_l, cl2_u, cl2_s, wd_0, wd_i, wd_r, wd_l, wd_f, ct_i, ct_r, ct_n, ct_f, rf_s, rf_n, tl_s, tl_n, true_and, and_true, eq_self, and_self, Nat.reduceAdd, Nat.reduceLeDiff, Nat.zero_le, Nat.reduceEqDiff, or_true, true_or, false_or, or_false, if_true, if_false, gI_0, gI_1, gI_2, gI_3, gI_4, gI_5, gI_6, gI_7, gI_8, gI_9, gI_10, gI_11, gI_12, gI_13, gI_14, gI_15, gL_0, gL_1, gL_2, gL_3, gL_4, gL_5, gL_6, gL_7, gL_8, gL_9, gL_10, gL_11, gL_12, gL_13, gL_14, gL_15, gA_0, gA_1, gA_2, gA_3, gA_4, gA_5, gA_6, gA_7, gA_8, gA_9, gA_10, gA_11, gA_12, gA_13, gA_14, gA_15, p1_0, p1_1, p1_2, p1_3, p1_4, p1_5, p1_6, p1_7, p1_8, p1_9, p1_10, p1_11, p1_12, p1_13, p1_14, p1_15, p2_0, p2_1, p2_2, p2_3, p2_4, p2_5, p2_6, p2_7, p2_8, p2_9, p2_10, p2_11, p2_12, p2_13, p2_14, p2_15, km, bk1.2.1, bk1.2.2.1, bk1.2.2.2, s1, s2, s3, s4, s5, ix_nI u1, ix_nI u2, ix_nI u3, ix_nI u4, ix_nI u5, nI_pos' u1, nI_pos' u2, nI_pos' u3, nI_pos' u4, nI_pos' u5, v1, v2, v3, v4, v5]
    refine n_whatKind M1.1 gS.1 gS.2 M1.2.2.2 (fun y2 e2 n2 => ?_) fun e2 => absurd (e.symm.trans e2) y0
    obtain rfl := e.symm.trans e2
    simp only [s270_956, s270_959, oB_some, cl2_i, cl2_r, cl2_l, cl2_u, cl2_s, wd_0, wd_i, wd_r, wd_l, wd_f, ct_i, ct_r, ct_n, ct_f, rf_s, rf_n, tl_s, tl_n, true_and, and_true, eq_self, and_self, Nat.reduceAdd, Nat.reduceLeDiff, Nat.zero_le, Nat.reduceEqDiff, or_true, true_or, false_or, or_false, if_true, if_false, gI_0, gI_1, gI_2, gI_3, gI_4, gI_5, gI_6, gI_7, gI_8, gI_9, gI_10, gI_11, gI_12, gI_13, gI_14, gI_15, gL_0, gL_1, gL_2, gL_3, gL_4, gL_5, gL_6, gL_7, gL_8, gL_9, gL_10, gL_11, gL_12, gL_13, gL_14, gL_15, gA_0, gA_1, gA_2, gA_3, gA_4, gA_5, gA_6, gA_7, gA_8, gA_9, gA_10, gA_11, gA_12, gA_13, gA_14, gA_15, p1_0, p1_1, p1_2, p1_3, p1_4, p1_5, p1_6, p1_7, p1_8, p1_9, p1_10, p1_11, p1_12, p1_13, p1_14, p1_15, p2_0, p2_1, p2_2, p2_3, p2_4, p2_5, p2_6, p2_7, p2_8, p2_9, p2_10, p2_11, p2_12, p2_13, p2_14, p2_15, b01_ok, b_ft, b_tf, b01_e0, b01_e1, lgc_0, not_true_eq_false, not_false_eq_true]
    rw [eh]
    exact nx _ _ _ _ _ _ _ _ _ (by omega) (by omega) (a.refuse y)
  · obtain ⟨h1, eh⟩ : ∃ z, z = h := ⟨_, rfl⟩
    have f1 : Fm (x + 20) 14 h h1 := by rw [eh]; exact Fm.rf
    rw [← eh]
    have fa1 : FA x h h1 := f1.fa (by omega) (by omega)
    have bk1 := bk1.fa fa1
    have M1 := M.fa gH fa1
    have km : hkd h1 (x + 34) = 16 := M1.1.1.1.1.1
    simp only [s270_942, s270_943, s270_944, s270_945, s270_946, s270_947, s270_948, s270_949, s270_950, s270_951, s270_952, s270_953, oB_some, cl2_i, cl2_r, cl2_l, cl2_u, cl2_s, wd_0, wd_i, wd_r, wd_l, wd_f, ct_i, ct_r, ct_n, ct_f, rf_s, rf_n, tl_s, tl_n, true_and, and_true, eq_self, and_self, Nat.reduceAdd, Nat.reduceLeDiff, Nat.zero_le, Nat.reduceEqDiff, or_true, true_or, false_or, or_false, if_true, if_false, gI_0, gI_1, gI_2, gI_3, gI_4, gI_5, gI_6, gI_7, gI_8, gI_9, gI_10, gI_11, gI_12, gI_13, gI_14, gI_15, gL_0, gL_1, gL_2, gL_3, gL_4, gL_5, gL_6, gL_7, gL_8, gL_9, gL_10, gL_11, gL_12, gL_13, gL_14, gL_15, gA_0, gA_1, gA_2, gA_3, gA_4, gA_5, gA_6, gA_7, gA_8, gA_9, gA_10, gA_11, gA_12, gA_13, gA_14, gA_15, p1_0, p1_1, p1_2, p1_3, p1_4, p1_5, p1_6, p1_7, p1_8, p1_9, p1_10, p1_11, p1_12, p1_13, p1_14, p1_15, p2_0, p2_1, p2_2, p2_3, p2_4, p2_5, p2_6, p2_7, p2_8, p2_9, p2_10, p2_11, p2_12, p2_13, p2_14, p2_15, km, bk1.2.1, bk1.2.2.1, bk1.2.2.2, s1, s2, s3, s4, s5, ix_nI u1, ix_nI u2, ix_nI u3, ix_nI u4, ix_nI u5, nI_pos' u1, nI_pos' u2, nI_pos' u3, nI_pos' u4, nI_pos' u5, v1, v2, v3, v4, v5]
    refine n_whatKind M1.1 gS.1 gS.2 M1.2.2.2 (fun y2 e2 n2 => absurd (e2.symm.trans e) n2) fun _ h2 f2 M2 => ?_
    simp only [s270_956, s270_959, oB_some, cl2_i, cl2_r, cl2_l, cl2_u, cl2_s, wd_0, wd_i, wd_r, wd_l, wd_f, ct_i, ct_r, ct_n, ct_f, rf_s, rf_n, tl_s, tl_n, true_and, and_true, eq_self, and_self, Nat.reduceAdd, Nat.reduceLeDiff, Nat.zero_le, Nat.reduceEqDiff, or_true, true_or, false_or, or_false, if_true, if_false, gI_0, gI_1, gI_2, gI_3, gI_4, gI_5, gI_6, gI_7, gI_8, gI_9, gI_10, gI_11, gI_12, gI_13, gI_14, gI_15, gL_0, gL_1, gL_2, gL_3, gL_4, gL_5, gL_6, gL_7, gL_8, gL_9, gL_10, gL_11, gL_12, gL_13, gL_14, gL_15, gA_0, gA_1, gA_2, gA_3, gA_4, gA_5, gA_6, gA_7, gA_8, gA_9, gA_10, gA_11, gA_12, gA_13, gA_14, gA_15, p1_0, p1_1, p1_2, p1_3, p1_4, p1_5, p1_6, p1_7, p1_8, p1_9, p1_10, p1_11, p1_12, p1_13, p1_14, p1_15, p2_0, p2_1, p2_2, p2_3, p2_4, p2_5, p2_6, p2_7, p2_8, p2_9, p2_10, p2_11, p2_12, p2_13, p2_14, p2_15, b01_ok, b_ft, b_tf, b01_e0, b01_e1, lgc_0, not_true_eq_false, not_false_eq_true]
    exact nx _ _ _ _ _ _ _ _ _ (by omega) (by omega) (a.ask f1 f2 M2)
set_option maxHeartbeats 4000000 in
theorem lc_toWhom {b L x tl len i c s : Nat} {xs : Nat → Int32} {h : HP} {tp r : Nat → Nat} {S : VS} {H : HS} {Q : PQ} (a : LI b L xs h x S H tp tl r len) (hi : i + 6 ≤ L) (hL : L ≤ 3072) (hc : 12 ≤ c) (hs : 172 ≤ s)
    (nx : ∀ h' S' H' tp' tl' r' len' c' s', c ≤ c' + 12 → s ≤ s' + 172 → LI b L xs h' x S' H' tp' tl' r' len' → WP 11 270 Q (1434, [.val (.ref b), .val (.ref x), .val (.ref (x + 34)), .val (.int (nI i))], [], h', c', s')) : WP 11 270 Q (961, [.val (.ref b), .val (.ref x), .val (.ref (x + 34)), .val (.int (nI i))], [], h, c, s) := by
  have a0 := a
  obtain ⟨C, M, ⟨gS, gH⟩, rf, bk⟩ := a0
  have bk1 : SKb b L xs x h := bk
  have s1 : nI i + 1 = nI (i + 1) := nI_add i 1
  have s2 : nI i + 2 = nI (i + 2) := nI_add i 2
  have s3 : nI i + 3 = nI (i + 3) := nI_add i 3
  have s4 : nI i + 4 = nI (i + 4) := nI_add i 4
  have s5 : nI i + 5 = nI (i + 5) := nI_add i 5
  have u1 : i + 1 < 2 ^ 31 := by omega
  have u2 : i + 2 < 2 ^ 31 := by omega
  have u3 : i + 3 < 2 ^ 31 := by omega
  have u4 : i + 4 < 2 ^ 31 := by omega
  have u5 : i + 5 < 2 ^ 31 := by omega
  have v1 : i + 1 < L := by omega
  have v2 : i + 2 < L := by omega
  have v3 : i + 3 < L := by omega
  have v4 : i + 4 < L := by omega
  have v5 : i + 5 < L := by omega
  have kx : hkd h x = 15 := C.1.1.1.1
  simp only [s270_961, s270_962, s270_963, s270_964, s270_965, s270_966, s270_967, s270_968, s270_969, s270_970, s270_971, s270_972, oB_some, cl2_i, cl2_r, cl2_l, cl2_u, cl2_s, wd_0, wd_i, wd_r, wd_l, wd_f, ct_i, ct_r, ct_n, ct_f, rf_s, rf_n, tl_s, tl_n, true_and, and_true, eq_self, and_self, Nat.reduceAdd, Nat.reduceLeDiff, Nat.zero_le, Nat.reduceEqDiff, or_true, true_or, false_or, or_false, if_true, if_false, gI_0, gI_1, gI_2, gI_3, gI_4, gI_5, gI_6, gI_7, gI_8, gI_9, gI_10, gI_11, gI_12, gI_13, gI_14, gI_15, gL_0, gL_1, gL_2, gL_3, gL_4, gL_5, gL_6, gL_7, gL_8, gL_9, gL_10, gL_11, gL_12, gL_13, gL_14, gL_15, gA_0, gA_1, gA_2, gA_3, gA_4, gA_5, gA_6, gA_7, gA_8, gA_9, gA_10, gA_11, gA_12, gA_13, gA_14, gA_15, p1_0, p1_1, p1_2, p1_3, p1_4, p1_5, p1_6, p1_7, p1_8, p1_9, p1_10, p1_11, p1_12, p1_13, p1_14, p1_15, p2_0, p2_1, p2_2, p2_3, p2_4, p2_5, p2_6, p2_7, p2_8, p2_9, p2_10, p2_11, p2_12, p2_13, p2_14, p2_15, kx, bk1.2.1, bk1.2.2.1, bk1.2.2.2, s1, s2, s3, s4, s5, ix_nI u1, ix_nI u2, ix_nI u3, ix_nI u4, ix_nI u5, nI_pos' u1, nI_pos' u2, nI_pos' u3, nI_pos' u4, nI_pos' u5, v1, v2, v3, v4, v5]
  refine x_toWhom C.1 gS.1 gS.2 C.2.2.2 (fun y e y0 => ?_) fun e h1 f1 => ?_
  · obtain ⟨h1, eh⟩ : ∃ z, z = RfC h x y := ⟨_, rfl⟩
    have fa1 : FA x h h1 := by rw [eh]; exact RfC.fa
    rw [← eh]
    have bk1 := bk1.fa fa1
    have M1 := M.fa gH fa1
    have km : hkd h1 (x + 34) = 16 := M1.1.1.1.1.1
    simp only [s270_975, s270_976, s270_977, s270_978, s270_979, s270_980, s270_981, s270_982, s270_983, s270_984, s270_985, s270_986, oB_some, cl2_i, cl2_r, cl2_l, cl2_u, cl2_s, wd_0, wd_i, wd_r, wd_l, wd_f, ct_i, ct_r, ct_n, ct_f, rf_s, rf_n, tl_s, tl_n, true_and, and_true, eq_self, and_self, Nat.reduceAdd, Nat.reduceLeDiff, Nat.zero_le, Nat.reduceEqDiff, or_true, true_or, false_or, or_false, if_true, if_false, gI_0, gI_1, gI_2, gI_3, gI_4, gI_5, gI_6, gI_7, gI_8, gI_9, gI_10, gI_11, gI_12, gI_13, gI_14, gI_15, gL_0, gL_1, gL_2, gL_3, gL_4, gL_5, gL_6, gL_7, gL_8, gL_9, gL_10, gL_11, gL_12, gL_13, gL_14, gL_15, gA_0, gA_1, gA_2, gA_3, gA_4, gA_5, gA_6, gA_7, gA_8, gA_9, gA_10, gA_11, gA_12, gA_13, gA_14, gA_15, p1_0, p1_1, p1_2, p1_3, p1_4, p1_5, p1_6, p1_7, p1_8, p1_9, p1_10, p1_11, p1_12, p1_13, p1_14, p1_15, p2_0, p2_1, p2_2, p2_3, p2_4, p2_5, p2_6, p2_7, p2_8, p2_9, p2_10, p2_11, p2_12, p2_13, p2_14, p2_15, km, bk1.2.1, bk1.2.2.1, bk1.2.2.2, s1, s2, s3, s4, s5, ix_nI u1, ix_nI u2, ix_nI u3, ix_nI u4, ix_nI u5, nI_pos' u1, nI_pos' u2, nI_pos' u3, nI_pos' u4, nI_pos' u5, v1, v2, v3, v4, v5]
    refine n_toWhom M1.1 gS.1 gS.2 M1.2.2.2 (fun y2 e2 n2 => ?_) fun e2 => absurd (e.symm.trans e2) y0
    obtain rfl := e.symm.trans e2
    simp only [s270_989, s270_992, oB_some, cl2_i, cl2_r, cl2_l, cl2_u, cl2_s, wd_0, wd_i, wd_r, wd_l, wd_f, ct_i, ct_r, ct_n, ct_f, rf_s, rf_n, tl_s, tl_n, true_and, and_true, eq_self, and_self, Nat.reduceAdd, Nat.reduceLeDiff, Nat.zero_le, Nat.reduceEqDiff, or_true, true_or, false_or, or_false, if_true, if_false, gI_0, gI_1, gI_2, gI_3, gI_4, gI_5, gI_6, gI_7, gI_8, gI_9, gI_10, gI_11, gI_12, gI_13, gI_14, gI_15, gL_0, gL_1, gL_2, gL_3, gL_4, gL_5, gL_6, gL_7, gL_8, gL_9, gL_10, gL_11, gL_12, gL_13, gL_14, gL_15, gA_0, gA_1, gA_2, gA_3, gA_4, gA_5, gA_6, gA_7, gA_8, gA_9, gA_10, gA_11, gA_12, gA_13, gA_14, gA_15, p1_0, p1_1, p1_2, p1_3, p1_4, p1_5, p1_6, p1_7, p1_8, p1_9, p1_10, p1_11, p1_12, p1_13, p1_14, p1_15, p2_0, p2_1, p2_2, p2_3, p2_4, p2_5, p2_6, p2_7, p2_8, p2_9, p2_10, p2_11, p2_12, p2_13, p2_14, p2_15, b01_ok, b_ft, b_tf, b01_e0, b01_e1, lgc_0, not_true_eq_false, not_false_eq_true]
    rw [eh]
    exact nx _ _ _ _ _ _ _ _ _ (by omega) (by omega) (a.refuse y)
  · skip
    have fa1 : FA x h h1 := f1.fa (by omega) (by omega)
    have bk1 := bk1.fa fa1
    have M1 := M.fa gH fa1
    have km : hkd h1 (x + 34) = 16 := M1.1.1.1.1.1
    simp only [s270_975, s270_976, s270_977, s270_978, s270_979, s270_980, s270_981, s270_982, s270_983, s270_984, s270_985, s270_986, oB_some, cl2_i, cl2_r, cl2_l, cl2_u, cl2_s, wd_0, wd_i, wd_r, wd_l, wd_f, ct_i, ct_r, ct_n, ct_f, rf_s, rf_n, tl_s, tl_n, true_and, and_true, eq_self, and_self, Nat.reduceAdd, Nat.reduceLeDiff, Nat.zero_le, Nat.reduceEqDiff, or_true, true_or, false_or, or_false, if_true, if_false, gI_0, gI_1, gI_2, gI_3, gI_4, gI_5, gI_6, gI_7, gI_8, gI_9, gI_10, gI_11, gI_12, gI_13, gI_14, gI_15, gL_0, gL_1, gL_2, gL_3, gL_4, gL_5, gL_6, gL_7, gL_8, gL_9, gL_10, gL_11, gL_12, gL_13, gL_14, gL_15, gA_0, gA_1, gA_2, gA_3, gA_4, gA_5, gA_6, gA_7, gA_8, gA_9, gA_10, gA_11, gA_12, gA_13, gA_14, gA_15, p1_0, p1_1, p1_2, p1_3, p1_4, p1_5, p1_6, p1_7, p1_8, p1_9, p1_10, p1_11, p1_12, p1_13, p1_14, p1_15, p2_0, p2_1, p2_2, p2_3, p2_4, p2_5, p2_6, p2_7, p2_8, p2_9, p2_10, p2_11, p2_12, p2_13, p2_14, p2_15, km, bk1.2.1, bk1.2.2.1, bk1.2.2.2, s1, s2, s3, s4, s5, ix_nI u1, ix_nI u2, ix_nI u3, ix_nI u4, ix_nI u5, nI_pos' u1, nI_pos' u2, nI_pos' u3, nI_pos' u4, nI_pos' u5, v1, v2, v3, v4, v5]
    refine n_toWhom M1.1 gS.1 gS.2 M1.2.2.2 (fun y2 e2 n2 => absurd (e2.symm.trans e) n2) fun _ h2 f2 M2 => ?_
    simp only [s270_989, s270_992, oB_some, cl2_i, cl2_r, cl2_l, cl2_u, cl2_s, wd_0, wd_i, wd_r, wd_l, wd_f, ct_i, ct_r, ct_n, ct_f, rf_s, rf_n, tl_s, tl_n, true_and, and_true, eq_self, and_self, Nat.reduceAdd, Nat.reduceLeDiff, Nat.zero_le, Nat.reduceEqDiff, or_true, true_or, false_or, or_false, if_true, if_false, gI_0, gI_1, gI_2, gI_3, gI_4, gI_5, gI_6, gI_7, gI_8, gI_9, gI_10, gI_11, gI_12, gI_13, gI_14, gI_15, gL_0, gL_1, gL_2, gL_3, gL_4, gL_5, gL_6, gL_7, gL_8, gL_9, gL_10, gL_11, gL_12, gL_13, gL_14, gL_15, gA_0, gA_1, gA_2, gA_3, gA_4, gA_5, gA_6, gA_7, gA_8, gA_9, gA_10, gA_11, gA_12, gA_13, gA_14, gA_15, p1_0, p1_1, p1_2, p1_3, p1_4, p1_5, p1_6, p1_7, p1_8, p1_9, p1_10, p1_11, p1_12, p1_13, p1_14, p1_15, p2_0, p2_1, p2_2, p2_3, p2_4, p2_5, p2_6, p2_7, p2_8, p2_9, p2_10, p2_11, p2_12, p2_13, p2_14, p2_15, b01_ok, b_ft, b_tf, b01_e0, b01_e1, lgc_0, not_true_eq_false, not_false_eq_true]
    exact nx _ _ _ _ _ _ _ _ _ (by omega) (by omega) (a.ask f1 f2 M2)
set_option maxHeartbeats 4000000 in
theorem lc_two {b L x tl len i c s : Nat} {xs : Nat → Int32} {h : HP} {tp r : Nat → Nat} {S : VS} {H : HS} {Q : PQ} (a : LI b L xs h x S H tp tl r len) (hi : i + 6 ≤ L) (hL : L ≤ 3072) (hc : 12 ≤ c) (hs : 172 ≤ s)
    (nx : ∀ h' S' H' tp' tl' r' len' c' s', c ≤ c' + 12 → s ≤ s' + 172 → LI b L xs h' x S' H' tp' tl' r' len' → WP 11 270 Q (1434, [.val (.ref b), .val (.ref x), .val (.ref (x + 34)), .val (.int (nI i))], [], h', c', s')) : WP 11 270 Q (994, [.val (.ref b), .val (.ref x), .val (.ref (x + 34)), .val (.int (nI i))], [], h, c, s) := by
  have a0 := a
  obtain ⟨C, M, ⟨gS, gH⟩, rf, bk⟩ := a0
  have bk1 : SKb b L xs x h := bk
  have s1 : nI i + 1 = nI (i + 1) := nI_add i 1
  have s2 : nI i + 2 = nI (i + 2) := nI_add i 2
  have s3 : nI i + 3 = nI (i + 3) := nI_add i 3
  have s4 : nI i + 4 = nI (i + 4) := nI_add i 4
  have s5 : nI i + 5 = nI (i + 5) := nI_add i 5
  have u1 : i + 1 < 2 ^ 31 := by omega
  have u2 : i + 2 < 2 ^ 31 := by omega
  have u3 : i + 3 < 2 ^ 31 := by omega
  have u4 : i + 4 < 2 ^ 31 := by omega
  have u5 : i + 5 < 2 ^ 31 := by omega
  have v1 : i + 1 < L := by omega
  have v2 : i + 2 < L := by omega
  have v3 : i + 3 < L := by omega
  have v4 : i + 4 < L := by omega
  have v5 : i + 5 < L := by omega
  have kx : hkd h x = 15 := C.1.1.1.1
  simp only [s270_994, s270_995, s270_996, s270_997, s270_998, s270_999, s270_1000, s270_1001, s270_1002, s270_1003, s270_1004, s270_1005, s270_1006, s270_1007, s270_1008, s270_1009, s270_1010, oB_some, cl2_i, cl2_r, cl2_l, cl2_u, cl2_s, wd_0, wd_i, wd_r, wd_l, wd_f, ct_i, ct_r, ct_n, ct_f, rf_s, rf_n, tl_s, tl_n, true_and, and_true, eq_self, and_self, Nat.reduceAdd, Nat.reduceLeDiff, Nat.zero_le, Nat.reduceEqDiff, or_true, true_or, false_or, or_false, if_true, if_false, gI_0, gI_1, gI_2, gI_3, gI_4, gI_5, gI_6, gI_7, gI_8, gI_9, gI_10, gI_11, gI_12, gI_13, gI_14, gI_15, gL_0, gL_1, gL_2, gL_3, gL_4, gL_5, gL_6, gL_7, gL_8, gL_9, gL_10, gL_11, gL_12, gL_13, gL_14, gL_15, gA_0, gA_1, gA_2, gA_3, gA_4, gA_5, gA_6, gA_7, gA_8, gA_9, gA_10, gA_11, gA_12, gA_13, gA_14, gA_15, p1_0, p1_1, p1_2, p1_3, p1_4, p1_5, p1_6, p1_7, p1_8, p1_9, p1_10, p1_11, p1_12, p1_13, p1_14, p1_15, p2_0, p2_1, p2_2, p2_3, p2_4, p2_5, p2_6, p2_7, p2_8, p2_9, p2_10, p2_11, p2_12, p2_13, p2_14, p2_15, kx, bk1.2.1, bk1.2.2.1, bk1.2.2.2, s1, s2, s3, s4, s5, ix_nI u1, ix_nI u2, ix_nI u3, ix_nI u4, ix_nI u5, nI_pos' u1, nI_pos' u2, nI_pos' u3, nI_pos' u4, nI_pos' u5, v1, v2, v3, v4, v5]
  refine x_two C.1 gS.1 gS.2 (fun y e y0 => ?_) fun e h1 f1 => ?_
  · obtain ⟨h1, eh⟩ : ∃ z, z = RfC h x y := ⟨_, rfl⟩
    have fa1 : FA x h h1 := by rw [eh]; exact RfC.fa
    rw [← eh]
    have bk1 := bk1.fa fa1
    have M1 := M.fa gH fa1
    have km : hkd h1 (x + 34) = 16 := M1.1.1.1.1.1
    simp only [s270_1013, s270_1014, s270_1015, s270_1016, s270_1017, s270_1018, s270_1019, s270_1020, s270_1021, s270_1022, s270_1023, s270_1024, s270_1025, s270_1026, s270_1027, s270_1028, s270_1029, oB_some, cl2_i, cl2_r, cl2_l, cl2_u, cl2_s, wd_0, wd_i, wd_r, wd_l, wd_f, ct_i, ct_r, ct_n, ct_f, rf_s, rf_n, tl_s, tl_n, true_and, and_true, eq_self, and_self, Nat.reduceAdd, Nat.reduceLeDiff, Nat.zero_le, Nat.reduceEqDiff, or_true, true_or, false_or, or_false, if_true, if_false, gI_0, gI_1, gI_2, gI_3, gI_4, gI_5, gI_6, gI_7, gI_8, gI_9, gI_10, gI_11, gI_12, gI_13, gI_14, gI_15, gL_0, gL_1, gL_2, gL_3, gL_4, gL_5, gL_6, gL_7, gL_8, gL_9, gL_10, gL_11, gL_12, gL_13, gL_14, gL_15, gA_0, gA_1, gA_2, gA_3, gA_4, gA_5, gA_6, gA_7, gA_8, gA_9, gA_10, gA_11, gA_12, gA_13, gA_14, gA_15, p1_0, p1_1, p1_2, p1_3, p1_4, p1_5, p1_6, p1_7, p1_8, p1_9, p1_10, p1_11, p1_12, p1_13, p1_14, p1_15, p2_0, p2_1, p2_2, p2_3, p2_4, p2_5, p2_6, p2_7, p2_8, p2_9, p2_10, p2_11, p2_12, p2_13, p2_14, p2_15, km, bk1.2.1, bk1.2.2.1, bk1.2.2.2, s1, s2, s3, s4, s5, ix_nI u1, ix_nI u2, ix_nI u3, ix_nI u4, ix_nI u5, nI_pos' u1, nI_pos' u2, nI_pos' u3, nI_pos' u4, nI_pos' u5, v1, v2, v3, v4, v5]
    refine n_two M1.1 gS.1 gS.2 (fun y2 e2 n2 => ?_) fun e2 => absurd (e.symm.trans e2) y0
    obtain rfl := e.symm.trans e2
    simp only [s270_1032, s270_1035, oB_some, cl2_i, cl2_r, cl2_l, cl2_u, cl2_s, wd_0, wd_i, wd_r, wd_l, wd_f, ct_i, ct_r, ct_n, ct_f, rf_s, rf_n, tl_s, tl_n, true_and, and_true, eq_self, and_self, Nat.reduceAdd, Nat.reduceLeDiff, Nat.zero_le, Nat.reduceEqDiff, or_true, true_or, false_or, or_false, if_true, if_false, gI_0, gI_1, gI_2, gI_3, gI_4, gI_5, gI_6, gI_7, gI_8, gI_9, gI_10, gI_11, gI_12, gI_13, gI_14, gI_15, gL_0, gL_1, gL_2, gL_3, gL_4, gL_5, gL_6, gL_7, gL_8, gL_9, gL_10, gL_11, gL_12, gL_13, gL_14, gL_15, gA_0, gA_1, gA_2, gA_3, gA_4, gA_5, gA_6, gA_7, gA_8, gA_9, gA_10, gA_11, gA_12, gA_13, gA_14, gA_15, p1_0, p1_1, p1_2, p1_3, p1_4, p1_5, p1_6, p1_7, p1_8, p1_9, p1_10, p1_11, p1_12, p1_13, p1_14, p1_15, p2_0, p2_1, p2_2, p2_3, p2_4, p2_5, p2_6, p2_7, p2_8, p2_9, p2_10, p2_11, p2_12, p2_13, p2_14, p2_15, b01_ok, b_ft, b_tf, b01_e0, b01_e1, lgc_0, not_true_eq_false, not_false_eq_true]
    rw [eh]
    exact nx _ _ _ _ _ _ _ _ _ (by omega) (by omega) (a.refuse y)
  · skip
    have fa1 : FA x h h1 := f1.fa (by omega) (by omega)
    have bk1 := bk1.fa fa1
    have M1 := M.fa gH fa1
    have km : hkd h1 (x + 34) = 16 := M1.1.1.1.1.1
    simp only [s270_1013, s270_1014, s270_1015, s270_1016, s270_1017, s270_1018, s270_1019, s270_1020, s270_1021, s270_1022, s270_1023, s270_1024, s270_1025, s270_1026, s270_1027, s270_1028, s270_1029, oB_some, cl2_i, cl2_r, cl2_l, cl2_u, cl2_s, wd_0, wd_i, wd_r, wd_l, wd_f, ct_i, ct_r, ct_n, ct_f, rf_s, rf_n, tl_s, tl_n, true_and, and_true, eq_self, and_self, Nat.reduceAdd, Nat.reduceLeDiff, Nat.zero_le, Nat.reduceEqDiff, or_true, true_or, false_or, or_false, if_true, if_false, gI_0, gI_1, gI_2, gI_3, gI_4, gI_5, gI_6, gI_7, gI_8, gI_9, gI_10, gI_11, gI_12, gI_13, gI_14, gI_15, gL_0, gL_1, gL_2, gL_3, gL_4, gL_5, gL_6, gL_7, gL_8, gL_9, gL_10, gL_11, gL_12, gL_13, gL_14, gL_15, gA_0, gA_1, gA_2, gA_3, gA_4, gA_5, gA_6, gA_7, gA_8, gA_9, gA_10, gA_11, gA_12, gA_13, gA_14, gA_15, p1_0, p1_1, p1_2, p1_3, p1_4, p1_5, p1_6, p1_7, p1_8, p1_9, p1_10, p1_11, p1_12, p1_13, p1_14, p1_15, p2_0, p2_1, p2_2, p2_3, p2_4, p2_5, p2_6, p2_7, p2_8, p2_9, p2_10, p2_11, p2_12, p2_13, p2_14, p2_15, km, bk1.2.1, bk1.2.2.1, bk1.2.2.2, s1, s2, s3, s4, s5, ix_nI u1, ix_nI u2, ix_nI u3, ix_nI u4, ix_nI u5, nI_pos' u1, nI_pos' u2, nI_pos' u3, nI_pos' u4, nI_pos' u5, v1, v2, v3, v4, v5]
    refine n_two M1.1 gS.1 gS.2 (fun y2 e2 n2 => absurd (e2.symm.trans e) n2) fun _ h2 f2 M2 => ?_
    simp only [s270_1032, s270_1035, oB_some, cl2_i, cl2_r, cl2_l, cl2_u, cl2_s, wd_0, wd_i, wd_r, wd_l, wd_f, ct_i, ct_r, ct_n, ct_f, rf_s, rf_n, tl_s, tl_n, true_and, and_true, eq_self, and_self, Nat.reduceAdd, Nat.reduceLeDiff, Nat.zero_le, Nat.reduceEqDiff, or_true, true_or, false_or, or_false, if_true, if_false, gI_0, gI_1, gI_2, gI_3, gI_4, gI_5, gI_6, gI_7, gI_8, gI_9, gI_10, gI_11, gI_12, gI_13, gI_14, gI_15, gL_0, gL_1, gL_2, gL_3, gL_4, gL_5, gL_6, gL_7, gL_8, gL_9, gL_10, gL_11, gL_12, gL_13, gL_14, gL_15, gA_0, gA_1, gA_2, gA_3, gA_4, gA_5, gA_6, gA_7, gA_8, gA_9, gA_10, gA_11, gA_12, gA_13, gA_14, gA_15, p1_0, p1_1, p1_2, p1_3, p1_4, p1_5, p1_6, p1_7, p1_8, p1_9, p1_10, p1_11, p1_12, p1_13, p1_14, p1_15, p2_0, p2_1, p2_2, p2_3, p2_4, p2_5, p2_6, p2_7, p2_8, p2_9, p2_10, p2_11, p2_12, p2_13, p2_14, p2_15, b01_ok, b_ft, b_tf, b01_e0, b01_e1, lgc_0, not_true_eq_false, not_false_eq_true]
    exact nx _ _ _ _ _ _ _ _ _ (by omega) (by omega) (a.ask f1 f2 M2)
set_option maxHeartbeats 4000000 in
theorem lc_damp {b L x tl len i c s : Nat} {xs : Nat → Int32} {h : HP} {tp r : Nat → Nat} {S : VS} {H : HS} {Q : PQ} (a : LI b L xs h x S H tp tl r len) (hi : i + 6 ≤ L) (hL : L ≤ 3072) (hc : 12 ≤ c) (hs : 172 ≤ s)
    (nx : ∀ h' S' H' tp' tl' r' len' c' s', c ≤ c' + 12 → s ≤ s' + 172 → LI b L xs h' x S' H' tp' tl' r' len' → WP 11 270 Q (1434, [.val (.ref b), .val (.ref x), .val (.ref (x + 34)), .val (.int (nI i))], [], h', c', s')) : WP 11 270 Q (1037, [.val (.ref b), .val (.ref x), .val (.ref (x + 34)), .val (.int (nI i))], [], h, c, s) := by
  have a0 := a
  obtain ⟨C, M, ⟨gS, gH⟩, rf, bk⟩ := a0
  have bk1 : SKb b L xs x h := bk
  have s1 : nI i + 1 = nI (i + 1) := nI_add i 1
  have s2 : nI i + 2 = nI (i + 2) := nI_add i 2
  have s3 : nI i + 3 = nI (i + 3) := nI_add i 3
  have s4 : nI i + 4 = nI (i + 4) := nI_add i 4
  have s5 : nI i + 5 = nI (i + 5) := nI_add i 5
  have u1 : i + 1 < 2 ^ 31 := by omega
  have u2 : i + 2 < 2 ^ 31 := by omega
  have u3 : i + 3 < 2 ^ 31 := by omega
  have u4 : i + 4 < 2 ^ 31 := by omega
  have u5 : i + 5 < 2 ^ 31 := by omega
  have v1 : i + 1 < L := by omega
  have v2 : i + 2 < L := by omega
  have v3 : i + 3 < L := by omega
  have v4 : i + 4 < L := by omega
  have v5 : i + 5 < L := by omega
  have kx : hkd h x = 15 := C.1.1.1.1
  simp only [s270_1037, s270_1038, s270_1039, s270_1040, s270_1041, s270_1042, s270_1043, s270_1044, s270_1045, s270_1046, s270_1047, s270_1048, s270_1049, s270_1050, s270_1051, s270_1052, s270_1053, s270_1054, s270_1055, s270_1056, s270_1057, s270_1058, s270_1059, s270_1060, s270_1061, s270_1062, s270_1063, oB_some, cl2_i, cl2_r, cl2_l, cl2_u, cl2_s, wd_0, wd_i, wd_r, wd_l, wd_f, ct_i, ct_r, ct_n, ct_f, rf_s, rf_n, tl_s, tl_n, true_and, and_true, eq_self, and_self, Nat.reduceAdd, Nat.reduceLeDiff, Nat.zero_le, Nat.reduceEqDiff, or_true, true_or, false_or, or_false, if_true, if_false, gI_0, gI_1, gI_2, gI_3, gI_4, gI_5, gI_6, gI_7, gI_8, gI_9, gI_10, gI_11, gI_12, gI_13, gI_14, gI_15, gL_0, gL_1, gL_2, gL_3, gL_4, gL_5, gL_6, gL_7, gL_8, gL_9, gL_10, gL_11, gL_12, gL_13, gL_14, gL_15, gA_0, gA_1, gA_2, gA_3, gA_4, gA_5, gA_6, gA_7, gA_8, gA_9, gA_10, gA_11, gA_12, gA_13, gA_14, gA_15, p1_0, p1_1, p1_2, p1_3, p1_4, p1_5, p1_6, p1_7, p1_8, p1_9, p1_10, p1_11, p1_12, p1_13, p1_14, p1_15, p2_0, p2_1, p2_2, p2_3, p2_4, p2_5, p2_6, p2_7, p2_8, p2_9, p2_10, p2_11, p2_12, p2_13, p2_14, p2_15, kx, bk1.2.1, bk1.2.2.1, bk1.2.2.2, s1, s2, s3, s4, s5, ix_nI u1, ix_nI u2, ix_nI u3, ix_nI u4, ix_nI u5, nI_pos' u1, nI_pos' u2, nI_pos' u3, nI_pos' u4, nI_pos' u5, v1, v2, v3, v4, v5]
  refine x_damp C.1 gS.1 gS.2 (fun y e y0 => ?_) fun e h1 f1 => ?_
  · obtain ⟨h1, eh⟩ : ∃ z, z = RfC h x y := ⟨_, rfl⟩
    have fa1 : FA x h h1 := by rw [eh]; exact RfC.fa
    rw [← eh]
    have bk1 := bk1.fa fa1
    have M1 := M.fa gH fa1
    have km : hkd h1 (x + 34) = 16 := M1.1.1.1.1.1
    simp only [s270_1066, s270_1067, s270_1068, s270_1069, s270_1070, s270_1071, s270_1072, s270_1073, s270_1074, s270_1075, s270_1076, s270_1077, s270_1078, s270_1079, s270_1080, s270_1081, s270_1082, s270_1083, s270_1084, s270_1085, s270_1086, s270_1087, s270_1088, s270_1089, s270_1090, s270_1091, s270_1092, oB_some, cl2_i, cl2_r, cl2_l, cl2_u, cl2_s, wd_0, wd_i, wd_r, wd_l, wd_f, ct_i, ct_r, ct_n, ct_f, rf_s, rf_n, tl_s, tl_n, true_and, and_true, eq_self, and_self, Nat.reduceAdd, Nat.reduceLeDiff, Nat.zero_le, Nat.reduceEqDiff, or_true, true_or, false_or, or_false, if_true, if_false, gI_0, gI_1, gI_2, gI_3, gI_4, gI_5, gI_6, gI_7, gI_8, gI_9, gI_10, gI_11, gI_12, gI_13, gI_14, gI_15, gL_0, gL_1, gL_2, gL_3, gL_4, gL_5, gL_6, gL_7, gL_8, gL_9, gL_10, gL_11, gL_12, gL_13, gL_14, gL_15, gA_0, gA_1, gA_2, gA_3, gA_4, gA_5, gA_6, gA_7, gA_8, gA_9, gA_10, gA_11, gA_12, gA_13, gA_14, gA_15, p1_0, p1_1, p1_2, p1_3, p1_4, p1_5, p1_6, p1_7, p1_8, p1_9, p1_10, p1_11, p1_12, p1_13, p1_14, p1_15, p2_0, p2_1, p2_2, p2_3, p2_4, p2_5, p2_6, p2_7, p2_8, p2_9, p2_10, p2_11, p2_12, p2_13, p2_14, p2_15, km, bk1.2.1, bk1.2.2.1, bk1.2.2.2, s1, s2, s3, s4, s5, ix_nI u1, ix_nI u2, ix_nI u3, ix_nI u4, ix_nI u5, nI_pos' u1, nI_pos' u2, nI_pos' u3, nI_pos' u4, nI_pos' u5, v1, v2, v3, v4, v5]
    refine n_damp M1.1 gS.1 gS.2 (fun y2 e2 n2 => ?_) fun e2 => absurd (e.symm.trans e2) y0
    obtain rfl := e.symm.trans e2
    simp only [s270_1095, s270_1096, s270_1099, oB_some, cl2_i, cl2_r, cl2_l, cl2_u, cl2_s, wd_0, wd_i, wd_r, wd_l, wd_f, ct_i, ct_r, ct_n, ct_f, rf_s, rf_n, tl_s, tl_n, true_and, and_true, eq_self, and_self, Nat.reduceAdd, Nat.reduceLeDiff, Nat.zero_le, Nat.reduceEqDiff, or_true, true_or, false_or, or_false, if_true, if_false, gI_0, gI_1, gI_2, gI_3, gI_4, gI_5, gI_6, gI_7, gI_8, gI_9, gI_10, gI_11, gI_12, gI_13, gI_14, gI_15, gL_0, gL_1, gL_2, gL_3, gL_4, gL_5, gL_6, gL_7, gL_8, gL_9, gL_10, gL_11, gL_12, gL_13, gL_14, gL_15, gA_0, gA_1, gA_2, gA_3, gA_4, gA_5, gA_6, gA_7, gA_8, gA_9, gA_10, gA_11, gA_12, gA_13, gA_14, gA_15, p1_0, p1_1, p1_2, p1_3, p1_4, p1_5, p1_6, p1_7, p1_8, p1_9, p1_10, p1_11, p1_12, p1_13, p1_14, p1_15, p2_0, p2_1, p2_2, p2_3, p2_4, p2_5, p2_6, p2_7, p2_8, p2_9, p2_10, p2_11, p2_12, p2_13, p2_14, p2_15, b01_ok, b_ft, b_tf, b01_e0, b01_e1, lgc_0, not_true_eq_false, not_false_eq_true]
    rw [eh]
    exact nx _ _ _ _ _ _ _ _ _ (by omega) (by omega) (a.refuse y)
  · skip
    have fa1 : FA x h h1 := f1.fa (by omega) (by omega)
    have bk1 := bk1.fa fa1
    have M1 := M.fa gH fa1
    have km : hkd h1 (x + 34) = 16 := M1.1.1.1.1.1
    simp only [s270_1066, s270_1067, s270_1068, s270_1069, s270_1070, s270_1071, s270_1072, s270_1073, s270_1074, s270_1075, s270_1076, s270_1077, s270_1078, s270_1079, s270_1080, s270_1081, s270_1082, s270_1083, s270_1084, s270_1085, s270_1086, s270_1087, s270_1088, s270_1089, s270_1090, s270_1091, s270_1092, oB_some, cl2_i, cl2_r, cl2_l, cl2_u, cl2_s, wd_0, wd_i, wd_r, wd_l, wd_f, ct_i, ct_r, ct_n, ct_f, rf_s, rf_n, tl_s, tl_n, true_and, and_true, eq_self, and_self, Nat.reduceAdd, Nat.reduceLeDiff, Nat.zero_le, Nat.reduceEqDiff, or_true, true_or, false_or, or_false, if_true, if_false, gI_0, gI_1, gI_2, gI_3, gI_4, gI_5, gI_6, gI_7, gI_8, gI_9, gI_10, gI_11, gI_12, gI_13, gI_14, gI_15, gL_0, gL_1, gL_2, gL_3, gL_4, gL_5, gL_6, gL_7, gL_8, gL_9, gL_10, gL_11, gL_12, gL_13, gL_14, gL_15, gA_0, gA_1, gA_2, gA_3, gA_4, gA_5, gA_6, gA_7, gA_8, gA_9, gA_10, gA_11, gA_12, gA_13, gA_14, gA_15, p1_0, p1_1, p1_2, p1_3, p1_4, p1_5, p1_6, p1_7, p1_8, p1_9, p1_10, p1_11, p1_12, p1_13, p1_14, p1_15, p2_0, p2_1, p2_2, p2_3, p2_4, p2_5, p2_6, p2_7, p2_8, p2_9, p2_10, p2_11, p2_12, p2_13, p2_14, p2_15, km, bk1.2.1, bk1.2.2.1, bk1.2.2.2, s1, s2, s3, s4, s5, ix_nI u1, ix_nI u2, ix_nI u3, ix_nI u4, ix_nI u5, nI_pos' u1, nI_pos' u2, nI_pos' u3, nI_pos' u4, nI_pos' u5, v1, v2, v3, v4, v5]
    refine n_damp M1.1 gS.1 gS.2 (fun y2 e2 n2 => absurd (e2.symm.trans e) n2) fun _ h2 f2 M2 => ?_
    simp only [s270_1095, s270_1096, s270_1099, oB_some, cl2_i, cl2_r, cl2_l, cl2_u, cl2_s, wd_0, wd_i, wd_r, wd_l, wd_f, ct_i, ct_r, ct_n, ct_f, rf_s, rf_n, tl_s, tl_n, true_and, and_true, eq_self, and_self, Nat.reduceAdd, Nat.reduceLeDiff, Nat.zero_le, Nat.reduceEqDiff, or_true, true_or, false_or, or_false, if_true, if_false, gI_0, gI_1, gI_2, gI_3, gI_4, gI_5, gI_6, gI_7, gI_8, gI_9, gI_10, gI_11, gI_12, gI_13, gI_14, gI_15, gL_0, gL_1, gL_2, gL_3, gL_4, gL_5, gL_6, gL_7, gL_8, gL_9, gL_10, gL_11, gL_12, gL_13, gL_14, gL_15, gA_0, gA_1, gA_2, gA_3, gA_4, gA_5, gA_6, gA_7, gA_8, gA_9, gA_10, gA_11, gA_12, gA_13, gA_14, gA_15, p1_0, p1_1, p1_2, p1_3, p1_4, p1_5, p1_6, p1_7, p1_8, p1_9, p1_10, p1_11, p1_12, p1_13, p1_14, p1_15, p2_0, p2_1, p2_2, p2_3, p2_4, p2_5, p2_6, p2_7, p2_8, p2_9, p2_10, p2_11, p2_12, p2_13, p2_14, p2_15, b01_ok, b_ft, b_tf, b01_e0, b01_e1, lgc_0, not_true_eq_false, not_false_eq_true]
    exact nx _ _ _ _ _ _ _ _ _ (by omega) (by omega) (a.ask f1 f2 M2)
set_option maxHeartbeats 4000000 in
theorem lc_reach {b L x tl len i c s : Nat} {xs : Nat → Int32} {h : HP} {tp r : Nat → Nat} {S : VS} {H : HS} {Q : PQ} (a : LI b L xs h x S H tp tl r len) (hi : i + 6 ≤ L) (hL : L ≤ 3072) (hc : 12 ≤ c) (hs : 172 ≤ s)
    (nx : ∀ h' S' H' tp' tl' r' len' c' s', c ≤ c' + 12 → s ≤ s' + 172 → LI b L xs h' x S' H' tp' tl' r' len' → WP 11 270 Q (1434, [.val (.ref b), .val (.ref x), .val (.ref (x + 34)), .val (.int (nI i))], [], h', c', s')) : WP 11 270 Q (1101, [.val (.ref b), .val (.ref x), .val (.ref (x + 34)), .val (.int (nI i))], [], h, c, s) := by
  have a0 := a
  obtain ⟨C, M, ⟨gS, gH⟩, rf, bk⟩ := a0
  have bk1 : SKb b L xs x h := bk
  have s1 : nI i + 1 = nI (i + 1) := nI_add i 1
  have s2 : nI i + 2 = nI (i + 2) := nI_add i 2
  have s3 : nI i + 3 = nI (i + 3) := nI_add i 3
  have s4 : nI i + 4 = nI (i + 4) := nI_add i 4
  have s5 : nI i + 5 = nI (i + 5) := nI_add i 5
  have u1 : i + 1 < 2 ^ 31 := by omega
  have u2 : i + 2 < 2 ^ 31 := by omega
  have u3 : i + 3 < 2 ^ 31 := by omega
  have u4 : i + 4 < 2 ^ 31 := by omega
  have u5 : i + 5 < 2 ^ 31 := by omega
  have v1 : i + 1 < L := by omega
  have v2 : i + 2 < L := by omega
  have v3 : i + 3 < L := by omega
  have v4 : i + 4 < L := by omega
  have v5 : i + 5 < L := by omega
  have kx : hkd h x = 15 := C.1.1.1.1
  simp only [s270_1101, s270_1102, s270_1103, s270_1104, s270_1105, s270_1106, s270_1107, s270_1108, s270_1109, s270_1110, s270_1111, s270_1112, oB_some, cl2_i, cl2_r, cl2_l, cl2_u, cl2_s, wd_0, wd_i, wd_r, wd_l, wd_f, ct_i, ct_r, ct_n, ct_f, rf_s, rf_n, tl_s, tl_n, true_and, and_true, eq_self, and_self, Nat.reduceAdd, Nat.reduceLeDiff, Nat.zero_le, Nat.reduceEqDiff, or_true, true_or, false_or, or_false, if_true, if_false, gI_0, gI_1, gI_2, gI_3, gI_4, gI_5, gI_6, gI_7, gI_8, gI_9, gI_10, gI_11, gI_12, gI_13, gI_14, gI_15, gL_0, gL_1, gL_2, gL_3, gL_4, gL_5, gL_6, gL_7, gL_8, gL_9, gL_10, gL_11, gL_12, gL_13, gL_14, gL_15, gA_0, gA_1, gA_2, gA_3, gA_4, gA_5, gA_6, gA_7, gA_8, gA_9, gA_10, gA_11, gA_12, gA_13, gA_14, gA_15, p1_0, p1_1, p1_2, p1_3, p1_4, p1_5, p1_6, p1_7, p1_8, p1_9, p1_10, p1_11, p1_12, p1_13, p1_14, p1_15, p2_0, p2_1, p2_2, p2_3, p2_4, p2_5, p2_6, p2_7, p2_8, p2_9, p2_10, p2_11, p2_12, p2_13, p2_14, p2_15, kx, bk1.2.1, bk1.2.2.1, bk1.2.2.2, s1, s2, s3, s4, s5, ix_nI u1, ix_nI u2, ix_nI u3, ix_nI u4, ix_nI u5, nI_pos' u1, nI_pos' u2, nI_pos' u3, nI_pos' u4, nI_pos' u5, v1, v2, v3, v4, v5]
  refine x_reach C.1 gS.1 gS.2 (fun y e y0 => ?_) fun e h1 f1 => ?_
  · obtain ⟨h1, eh⟩ : ∃ z, z = RfC h x y := ⟨_, rfl⟩
    have fa1 : FA x h h1 := by rw [eh]; exact RfC.fa
    rw [← eh]
    have bk1 := bk1.fa fa1
    have M1 := M.fa gH fa1
    have km : hkd h1 (x + 34) = 16 := M1.1.1.1.1.1
    simp only [s270_1115, s270_1116, s270_1117, s270_1118, s270_1119, s270_1120, s270_1121, s270_1122, s270_1123, s270_1124, s270_1125, s270_1126, oB_some, cl2_i, cl2_r, cl2_l, cl2_u, cl2_s, wd_0, wd_i, wd_r, wd_l, wd_f, ct_i, ct_r, ct_n, ct_f, rf_s, rf_n, tl_s, tl_n, true_and, and_true, eq_self, and_self, Nat.reduceAdd, Nat.reduceLeDiff, Nat.zero_le, Nat.reduceEqDiff, or_true, true_or, false_or, or_false, if_true, if_false, gI_0, gI_1, gI_2, gI_3, gI_4, gI_5, gI_6, gI_7, gI_8, gI_9, gI_10, gI_11, gI_12, gI_13, gI_14, gI_15, gL_0, gL_1, gL_2, gL_3, gL_4, gL_5, gL_6, gL_7, gL_8, gL_9, gL_10, gL_11, gL_12, gL_13, gL_14, gL_15, gA_0, gA_1, gA_2, gA_3, gA_4, gA_5, gA_6, gA_7, gA_8, gA_9, gA_10, gA_11, gA_12, gA_13, gA_14, gA_15, p1_0, p1_1, p1_2, p1_3, p1_4, p1_5, p1_6, p1_7, p1_8, p1_9, p1_10, p1_11, p1_12, p1_13, p1_14, p1_15, p2_0, p2_1, p2_2, p2_3, p2_4, p2_5, p2_6, p2_7, p2_8, p2_9, p2_10, p2_11, p2_12, p2_13, p2_14, p2_15, km, bk1.2.1, bk1.2.2.1, bk1.2.2.2, s1, s2, s3, s4, s5, ix_nI u1, ix_nI u2, ix_nI u3, ix_nI u4, ix_nI u5, nI_pos' u1, nI_pos' u2, nI_pos' u3, nI_pos' u4, nI_pos' u5, v1, v2, v3, v4, v5]
    refine n_reach M1.1 gS.1 gS.2 (fun y2 e2 n2 => ?_) fun e2 => absurd (e.symm.trans e2) y0
    obtain rfl := e.symm.trans e2
    simp only [s270_1129, s270_1132, oB_some, cl2_i, cl2_r, cl2_l, cl2_u, cl2_s, wd_0, wd_i, wd_r, wd_l, wd_f, ct_i, ct_r, ct_n, ct_f, rf_s, rf_n, tl_s, tl_n, true_and, and_true, eq_self, and_self, Nat.reduceAdd, Nat.reduceLeDiff, Nat.zero_le, Nat.reduceEqDiff, or_true, true_or, false_or, or_false, if_true, if_false, gI_0, gI_1, gI_2, gI_3, gI_4, gI_5, gI_6, gI_7, gI_8, gI_9, gI_10, gI_11, gI_12, gI_13, gI_14, gI_15, gL_0, gL_1, gL_2, gL_3, gL_4, gL_5, gL_6, gL_7, gL_8, gL_9, gL_10, gL_11, gL_12, gL_13, gL_14, gL_15, gA_0, gA_1, gA_2, gA_3, gA_4, gA_5, gA_6, gA_7, gA_8, gA_9, gA_10, gA_11, gA_12, gA_13, gA_14, gA_15, p1_0, p1_1, p1_2, p1_3, p1_4, p1_5, p1_6, p1_7, p1_8, p1_9, p1_10, p1_11, p1_12, p1_13, p1_14, p1_15, p2_0, p2_1, p2_2, p2_3, p2_4, p2_5, p2_6, p2_7, p2_8, p2_9, p2_10, p2_11, p2_12, p2_13, p2_14, p2_15, b01_ok, b_ft, b_tf, b01_e0, b01_e1, lgc_0, not_true_eq_false, not_false_eq_true]
    rw [eh]
    exact nx _ _ _ _ _ _ _ _ _ (by omega) (by omega) (a.refuse y)
  · skip
    have fa1 : FA x h h1 := f1.fa (by omega) (by omega)
    have bk1 := bk1.fa fa1
    have M1 := M.fa gH fa1
    have km : hkd h1 (x + 34) = 16 := M1.1.1.1.1.1
    simp only [s270_1115, s270_1116, s270_1117, s270_1118, s270_1119, s270_1120, s270_1121, s270_1122, s270_1123, s270_1124, s270_1125, s270_1126, oB_some, cl2_i, cl2_r, cl2_l, cl2_u, cl2_s, wd_0, wd_i, wd_r, wd_l, wd_f, ct_i, ct_r, ct_n, ct_f, rf_s, rf_n, tl_s, tl_n, true_and, and_true, eq_self, and_self, Nat.reduceAdd, Nat.reduceLeDiff, Nat.zero_le, Nat.reduceEqDiff, or_true, true_or, false_or, or_false, if_true, if_false, gI_0, gI_1, gI_2, gI_3, gI_4, gI_5, gI_6, gI_7, gI_8, gI_9, gI_10, gI_11, gI_12, gI_13, gI_14, gI_15, gL_0, gL_1, gL_2, gL_3, gL_4, gL_5, gL_6, gL_7, gL_8, gL_9, gL_10, gL_11, gL_12, gL_13, gL_14, gL_15, gA_0, gA_1, gA_2, gA_3, gA_4, gA_5, gA_6, gA_7, gA_8, gA_9, gA_10, gA_11, gA_12, gA_13, gA_14, gA_15, p1_0, p1_1, p1_2, p1_3, p1_4, p1_5, p1_6, p1_7, p1_8, p1_9, p1_10, p1_11, p1_12, p1_13, p1_14, p1_15, p2_0, p2_1, p2_2, p2_3, p2_4, p2_5, p2_6, p2_7, p2_8, p2_9, p2_10, p2_11, p2_12, p2_13, p2_14, p2_15, km, bk1.2.1, bk1.2.2.1, bk1.2.2.2, s1, s2, s3, s4, s5, ix_nI u1, ix_nI u2, ix_nI u3, ix_nI u4, ix_nI u5, nI_pos' u1, nI_pos' u2, nI_pos' u3, nI_pos' u4, nI_pos' u5, v1, v2, v3, v4, v5]
    refine n_reach M1.1 gS.1 gS.2 (fun y2 e2 n2 => absurd (e2.symm.trans e) n2) fun _ h2 f2 M2 => ?_
    simp only [s270_1129, s270_1132, oB_some, cl2_i, cl2_r, cl2_l, cl2_u, cl2_s, wd_0, wd_i, wd_r, wd_l, wd_f, ct_i, ct_r, ct_n, ct_f, rf_s, rf_n, tl_s, tl_n, true_and, and_true, eq_self, and_self, Nat.reduceAdd, Nat.reduceLeDiff, Nat.zero_le, Nat.reduceEqDiff, or_true, true_or, false_or, or_false, if_true, if_false, gI_0, gI_1, gI_2, gI_3, gI_4, gI_5, gI_6, gI_7, gI_8, gI_9, gI_10, gI_11, gI_12, gI_13, gI_14, gI_15, gL_0, gL_1, gL_2, gL_3, gL_4, gL_5, gL_6, gL_7, gL_8, gL_9, gL_10, gL_11, gL_12, gL_13, gL_14, gL_15, gA_0, gA_1, gA_2, gA_3, gA_4, gA_5, gA_6, gA_7, gA_8, gA_9, gA_10, gA_11, gA_12, gA_13, gA_14, gA_15, p1_0, p1_1, p1_2, p1_3, p1_4, p1_5, p1_6, p1_7, p1_8, p1_9, p1_10, p1_11, p1_12, p1_13, p1_14, p1_15, p2_0, p2_1, p2_2, p2_3, p2_4, p2_5, p2_6, p2_7, p2_8, p2_9, p2_10, p2_11, p2_12, p2_13, p2_14, p2_15, b01_ok, b_ft, b_tf, b01_e0, b01_e1, lgc_0, not_true_eq_false, not_false_eq_true]
    exact nx _ _ _ _ _ _ _ _ _ (by omega) (by omega) (a.ask f1 f2 M2)
set_option maxHeartbeats 4000000 in
theorem lc_common {b L x tl len i c s : Nat} {xs : Nat → Int32} {h : HP} {tp r : Nat → Nat} {S : VS} {H : HS} {Q : PQ} (a : LI b L xs h x S H tp tl r len) (hi : i + 6 ≤ L) (hL : L ≤ 3072) (hc : 12 ≤ c) (hs : 172 ≤ s)
    (nx : ∀ h' S' H' tp' tl' r' len' c' s', c ≤ c' + 12 → s ≤ s' + 172 → LI b L xs h' x S' H' tp' tl' r' len' → WP 11 270 Q (1434, [.val (.ref b), .val (.ref x), .val (.ref (x + 34)), .val (.int (nI i))], [], h', c', s')) : WP 11 270 Q (1134, [.val (.ref b), .val (.ref x), .val (.ref (x + 34)), .val (.int (nI i))], [], h, c, s) := by
  have a0 := a
  obtain ⟨C, M, ⟨gS, gH⟩, rf, bk⟩ := a0
  have bk1 : SKb b L xs x h := bk
  have s1 : nI i + 1 = nI (i + 1) := nI_add i 1
  have s2 : nI i + 2 = nI (i + 2) := nI_add i 2
  have s3 : nI i + 3 = nI (i + 3) := nI_add i 3
  have s4 : nI i + 4 = nI (i + 4) := nI_add i 4
  have s5 : nI i + 5 = nI (i + 5) := nI_add i 5
  have u1 : i + 1 < 2 ^ 31 := by omega
  have u2 : i + 2 < 2 ^ 31 := by omega
  have u3 : i + 3 < 2 ^ 31 := by omega
  have u4 : i + 4 < 2 ^ 31 := by omega
  have u5 : i + 5 < 2 ^ 31 := by omega
  have v1 : i + 1 < L := by omega
  have v2 : i + 2 < L := by omega
  have v3 : i + 3 < L := by omega
  have v4 : i + 4 < L := by omega
  have v5 : i + 5 < L := by omega
  have kx : hkd h x = 15 := C.1.1.1.1
  simp only [s270_1134, s270_1135, s270_1136, s270_1137, s270_1138, s270_1139, s270_1140, s270_1141, s270_1142, s270_1143, s270_1144, s270_1145, s270_1146, s270_1147, s270_1148, s270_1149, s270_1150, oB_some, cl2_i, cl2_r, cl2_l, cl2_u, cl2_s, wd_0, wd_i, wd_r, wd_l, wd_f, ct_i, ct_r, ct_n, ct_f, rf_s, rf_n, tl_s, tl_n, true_and, and_true, eq_self, and_self, Nat.reduceAdd, Nat.reduceLeDiff, Nat.zero_le, Nat.reduceEqDiff, or_true, true_or, false_or, or_false, if_true, if_false, gI_0, gI_1, gI_2, gI_3, gI_4, gI_5, gI_6, gI_7, gI_8, gI_9, gI_10, gI_11, gI_12, gI_13, gI_14, gI_15, gL_0, gL_1, gL_2, gL_3, gL_4, gL_5, gL_6, gL_7, gL_8, gL_9, gL_10, gL_11, gL_12, gL_13, gL_14, gL_15, gA_0, gA_1, gA_2, gA_3, gA_4, gA_5, gA_6, gA_7, gA_8, gA_9, gA_10, gA_11, gA_12, gA_13, gA_14, gA_15, p1_0, p1_1, p1_2, p1_3, p1_4, p1_5, p1_6, p1_7, p1_8, p1_9, p1_10, p1_11, p1_12, p1_13, p1_14, p1_15, p2_0, p2_1, p2_2, p2_3, p2_4, p2_5, p2_6, p2_7, p2_8, p2_9, p2_10, p2_11, p2_12, p2_13, p2_14, p2_15, kx, bk1.2.1, bk1.2.2.1, bk1.2.2.2, s1, s2, s3, s4, s5, ix_nI u1, ix_nI u2, ix_nI u3, ix_nI u4, ix_nI u5, nI_pos' u1, nI_pos' u2, nI_pos' u3, nI_pos' u4, nI_pos' u5, v1, v2, v3, v4, v5]
  refine x_common C.1 gS.1 gS.2 (fun y e y0 => ?_) fun e h1 f1 => ?_
  · obtain ⟨h1, eh⟩ : ∃ z, z = RfC h x y := ⟨_, rfl⟩
    have fa1 : FA x h h1 := by rw [eh]; exact RfC.fa
    rw [← eh]
    have bk1 := bk1.fa fa1
    have M1 := M.fa gH fa1
    have km : hkd h1 (x + 34) = 16 := M1.1.1.1.1.1
    simp only [s270_1153, s270_1154, s270_1155, s270_1156, s270_1157, s270_1158, s270_1159, s270_1160, s270_1161, s270_1162, s270_1163, s270_1164, s270_1165, s270_1166, s270_1167, s270_1168, s270_1169, oB_some, cl2_i, cl2_r, cl2_l, cl2_u, cl2_s, wd_0, wd_i, wd_r, wd_l, wd_f, ct_i, ct_r, ct_n, ct_f, rf_s, rf_n, tl_s, tl_n, true_and, and_true, eq_self, and_self, Nat.reduceAdd, Nat.reduceLeDiff, Nat.zero_le, Nat.reduceEqDiff, or_true, true_or, false_or, or_false, if_true, if_false, gI_0, gI_1, gI_2, gI_3, gI_4, gI_5, gI_6, gI_7, gI_8, gI_9, gI_10, gI_11, gI_12, gI_13, gI_14, gI_15, gL_0, gL_1, gL_2, gL_3, gL_4, gL_5, gL_6, gL_7, gL_8, gL_9, gL_10, gL_11, gL_12, gL_13, gL_14, gL_15, gA_0, gA_1, gA_2, gA_3, gA_4, gA_5, gA_6, gA_7, gA_8, gA_9, gA_10, gA_11, gA_12, gA_13, gA_14, gA_15, p1_0, p1_1, p1_2, p1_3, p1_4, p1_5, p1_6, p1_7, p1_8, p1_9, p1_10, p1_11, p1_12, p1_13, p1_14, p1_15, p2_0, p2_1, p2_2, p2_3, p2_4, p2_5, p2_6, p2_7, p2_8, p2_9, p2_10, p2_11, p2_12, p2_13, p2_14, p2_15, km, bk1.2.1, bk1.2.2.1, bk1.2.2.2, s1, s2, s3, s4, s5, ix_nI u1, ix_nI u2, ix_nI u3, ix_nI u4, ix_nI u5, nI_pos' u1, nI_pos' u2, nI_pos' u3, nI_pos' u4, nI_pos' u5, v1, v2, v3, v4, v5]
    refine n_common M1.1 gS.1 gS.2 (fun y2 e2 n2 => ?_) fun e2 => absurd (e.symm.trans e2) y0
    obtain rfl := e.symm.trans e2
    simp only [s270_1172, s270_1175, oB_some, cl2_i, cl2_r, cl2_l, cl2_u, cl2_s, wd_0, wd_i, wd_r, wd_l, wd_f, ct_i, ct_r, ct_n, ct_f, rf_s, rf_n, tl_s, tl_n, true_and, and_true, eq_self, and_self, Nat.reduceAdd, Nat.reduceLeDiff, Nat.zero_le, Nat.reduceEqDiff, or_true, true_or, false_or, or_false, if_true, if_false, gI_0, gI_1, gI_2, gI_3, gI_4, gI_5, gI_6, gI_7, gI_8, gI_9, gI_10, gI_11, gI_12, gI_13, gI_14, gI_15, gL_0, gL_1, gL_2, gL_3, gL_4, gL_5, gL_6, gL_7, gL_8, gL_9, gL_10, gL_11, gL_12, gL_13, gL_14, gL_15, gA_0, gA_1, gA_2, gA_3, gA_4, gA_5, gA_6, gA_7, gA_8, gA_9, gA_10, gA_11, gA_12, gA_13, gA_14, gA_15, p1_0, p1_1, p1_2, p1_3, p1_4, p1_5, p1_6, p1_7, p1_8, p1_9, p1_10, p1_11, p1_12, p1_13, p1_14, p1_15, p2_0, p2_1, p2_2, p2_3, p2_4, p2_5, p2_6, p2_7, p2_8, p2_9, p2_10, p2_11, p2_12, p2_13, p2_14, p2_15, b01_ok, b_ft, b_tf, b01_e0, b01_e1, lgc_0, not_true_eq_false, not_false_eq_true]
    rw [eh]
    exact nx _ _ _ _ _ _ _ _ _ (by omega) (by omega) (a.refuse y)
  · skip
    have fa1 : FA x h h1 := f1.fa (by omega) (by omega)
    have bk1 := bk1.fa fa1
    have M1 := M.fa gH fa1
    have km : hkd h1 (x + 34) = 16 := M1.1.1.1.1.1
    simp only [s270_1153, s270_1154, s270_1155, s270_1156, s270_1157, s270_1158, s270_1159, s270_1160, s270_1161, s270_1162, s270_1163, s270_1164, s270_1165, s270_1166, s270_1167, s270_1168, s270_1169, oB_some, cl2_i, cl2_r, cl2_l, cl2_u, cl2_s, wd_0, wd_i, wd_r, wd_l, wd_f, ct_i, ct_r, ct_n, ct_f, rf_s, rf_n, tl_s, tl_n, true_and, and_true, eq_self, and_self, Nat.reduceAdd, Nat.reduceLeDiff, Nat.zero_le, Nat.reduceEqDiff, or_true, true_or, false_or, or_false, if_true, if_false, gI_0, gI_1, gI_2, gI_3, gI_4, gI_5, gI_6, gI_7, gI_8, gI_9, gI_10, gI_11, gI_12, gI_13, gI_14, gI_15, gL_0, gL_1, gL_2, gL_3, gL_4, gL_5, gL_6, gL_7, gL_8, gL_9, gL_10, gL_11, gL_12, gL_13, gL_14, gL_15, gA_0, gA_1, gA_2, gA_3, gA_4, gA_5, gA_6, gA_7, gA_8, gA_9, gA_10, gA_11, gA_12, gA_13, gA_14, gA_15, p1_0, p1_1, p1_2, p1_3, p1_4, p1_5, p1_6, p1_7, p1_8, p1_9, p1_10, p1_11, p1_12, p1_13, p1_14, p1_15, p2_0, p2_1, p2_2, p2_3, p2_4, p2_5, p2_6, p2_7, p2_8, p2_9, p2_10, p2_11, p2_12, p2_13, p2_14, p2_15, km, bk1.2.1, bk1.2.2.1, bk1.2.2.2, s1, s2, s3, s4, s5, ix_nI u1, ix_nI u2, ix_nI u3, ix_nI u4, ix_nI u5, nI_pos' u1, nI_pos' u2, nI_pos' u3, nI_pos' u4, nI_pos' u5, v1, v2, v3, v4, v5]
    refine n_common M1.1 gS.1 gS.2 (fun y2 e2 n2 => absurd (e2.symm.trans e) n2) fun _ h2 f2 M2 => ?_
    simp only [s270_1172, s270_1175, oB_some, cl2_i, cl2_r, cl2_l, cl2_u, cl2_s, wd_0, wd_i, wd_r, wd_l, wd_f, ct_i, ct_r, ct_n, ct_f, rf_s, rf_n, tl_s, tl_n, true_and, and_true, eq_self, and_self, Nat.reduceAdd, Nat.reduceLeDiff, Nat.zero_le, Nat.reduceEqDiff, or_true, true_or, false_or, or_false, if_true, if_false, gI_0, gI_1, gI_2, gI_3, gI_4, gI_5, gI_6, gI_7, gI_8, gI_9, gI_10, gI_11, gI_12, gI_13, gI_14, gI_15, gL_0, gL_1, gL_2, gL_3, gL_4, gL_5, gL_6, gL_7, gL_8, gL_9, gL_10, gL_11, gL_12, gL_13, gL_14, gL_15, gA_0, gA_1, gA_2, gA_3, gA_4, gA_5, gA_6, gA_7, gA_8, gA_9, gA_10, gA_11, gA_12, gA_13, gA_14, gA_15, p1_0, p1_1, p1_2, p1_3, p1_4, p1_5, p1_6, p1_7, p1_8, p1_9, p1_10, p1_11, p1_12, p1_13, p1_14, p1_15, p2_0, p2_1, p2_2, p2_3, p2_4, p2_5, p2_6, p2_7, p2_8, p2_9, p2_10, p2_11, p2_12, p2_13, p2_14, p2_15, b01_ok, b_ft, b_tf, b01_e0, b01_e1, lgc_0, not_true_eq_false, not_false_eq_true]
    exact nx _ _ _ _ _ _ _ _ _ (by omega) (by omega) (a.ask f1 f2 M2)
set_option maxHeartbeats 4000000 in
theorem lc_rarest {b L x tl len i c s : Nat} {xs : Nat → Int32} {h : HP} {tp r : Nat → Nat} {S : VS} {H : HS} {Q : PQ} (a : LI b L xs h x S H tp tl r len) (hi : i + 6 ≤ L) (hL : L ≤ 3072) (hc : 12 ≤ c) (hs : 172 ≤ s)
    (nx : ∀ h' S' H' tp' tl' r' len' c' s', c ≤ c' + 12 → s ≤ s' + 172 → LI b L xs h' x S' H' tp' tl' r' len' → WP 11 270 Q (1434, [.val (.ref b), .val (.ref x), .val (.ref (x + 34)), .val (.int (nI i))], [], h', c', s')) : WP 11 270 Q (1177, [.val (.ref b), .val (.ref x), .val (.ref (x + 34)), .val (.int (nI i))], [], h, c, s) := by
  have a0 := a
  obtain ⟨C, M, ⟨gS, gH⟩, rf, bk⟩ := a0
  have bk1 : SKb b L xs x h := bk
  have s1 : nI i + 1 = nI (i + 1) := nI_add i 1
  have s2 : nI i + 2 = nI (i + 2) := nI_add i 2
  have s3 : nI i + 3 = nI (i + 3) := nI_add i 3
  have s4 : nI i + 4 = nI (i + 4) := nI_add i 4
  have s5 : nI i + 5 = nI (i + 5) := nI_add i 5
  have u1 : i + 1 < 2 ^ 31 := by omega
  have u2 : i + 2 < 2 ^ 31 := by omega
  have u3 : i + 3 < 2 ^ 31 := by omega
  have u4 : i + 4 < 2 ^ 31 := by omega
  have u5 : i + 5 < 2 ^ 31 := by omega
  have v1 : i + 1 < L := by omega
  have v2 : i + 2 < L := by omega
  have v3 : i + 3 < L := by omega
  have v4 : i + 4 < L := by omega
  have v5 : i + 5 < L := by omega
  have kx : hkd h x = 15 := C.1.1.1.1
  simp only [s270_1177, s270_1178, s270_1179, s270_1180, s270_1181, s270_1182, s270_1183, oB_some, cl2_i, cl2_r, cl2_l, cl2_u, cl2_s, wd_0, wd_i, wd_r, wd_l, wd_f, ct_i, ct_r, ct_n, ct_f, rf_s, rf_n, tl_s, tl_n, true_and, and_true, eq_self, and_self, Nat.reduceAdd, Nat.reduceLeDiff, Nat.zero_le, Nat.reduceEqDiff, or_true, true_or, false_or, or_false, if_true, if_false, gI_0, gI_1, gI_2, gI_3, gI_4, gI_5, gI_6, gI_7, gI_8, gI_9, gI_10, gI_11, gI_12, gI_13, gI_14, gI_15, gL_0, gL_1, gL_2, gL_3, gL_4, gL_5, gL_6, gL_7, gL_8, gL_9, gL_10, gL_11, gL_12, gL_13, gL_14, gL_15, gA_0, gA_1, gA_2, gA_3, gA_4, gA_5, gA_6, gA_7, gA_8, gA_9, gA_10, gA_11, gA_12, gA_13, gA_14, gA_15, p1_0, p1_1, p1_2, p1_3, p1_4, p1_5, p1_6, p1_7, p1_8, p1_9, p1_10, p1_11, p1_12, p1_13, p1_14, p1_15, p2_0, p2_1, p2_2, p2_3, p2_4, p2_5, p2_6, p2_7, p2_8, p2_9, p2_10, p2_11, p2_12, p2_13, p2_14, p2_15, kx, bk1.2.1, bk1.2.2.1, bk1.2.2.2, s1, s2, s3, s4, s5, ix_nI u1, ix_nI u2, ix_nI u3, ix_nI u4, ix_nI u5, nI_pos' u1, nI_pos' u2, nI_pos' u3, nI_pos' u4, nI_pos' u5, v1, v2, v3, v4, v5]
  refine x_rarest C.1 gS.1 gS.2 (fun y e y0 => ?_) fun e h1 f1 => ?_
  · obtain ⟨h1, eh⟩ : ∃ z, z = RfC h x y := ⟨_, rfl⟩
    have fa1 : FA x h h1 := by rw [eh]; exact RfC.fa
    rw [← eh]
    have bk1 := bk1.fa fa1
    have M1 := M.fa gH fa1
    have km : hkd h1 (x + 34) = 16 := M1.1.1.1.1.1
    simp only [s270_1186, s270_1187, s270_1188, s270_1189, s270_1190, s270_1191, s270_1192, oB_some, cl2_i, cl2_r, cl2_l, cl2_u, cl2_s, wd_0, wd_i, wd_r, wd_l, wd_f, ct_i, ct_r, ct_n, ct_f, rf_s, rf_n, tl_s, tl_n, true_and, and_true, eq_self, and_self, Nat.reduceAdd, Nat.reduceLeDiff, Nat.zero_le, Nat.reduceEqDiff, or_true, true_or, false_or, or_false, if_true, if_false, gI_0, gI_1, gI_2, gI_3, gI_4, gI_5, gI_6, gI_7, gI_8, gI_9, gI_10, gI_11, gI_12, gI_13, gI_14, gI_15, gL_0, gL_1, gL_2, gL_3, gL_4, gL_5, gL_6, gL_7, gL_8, gL_9, gL_10, gL_11, gL_12, gL_13, gL_14, gL_15, gA_0, gA_1, gA_2, gA_3, gA_4, gA_5, gA_6, gA_7, gA_8, gA_9, gA_10, gA_11, gA_12, gA_13, gA_14, gA_15, p1_0, p1_1, p1_2, p1_3, p1_4, p1_5, p1_6, p1_7, p1_8, p1_9, p1_10, p1_11, p1_12, p1_13, p1_14, p1_15, p2_0, p2_1, p2_2, p2_3, p2_4, p2_5, p2_6, p2_7, p2_8, p2_9, p2_10, p2_11, p2_12, p2_13, p2_14, p2_15, km, bk1.2.1, bk1.2.2.1, bk1.2.2.2, s1, s2, s3, s4, s5, ix_nI u1, ix_nI u2, ix_nI u3, ix_nI u4, ix_nI u5, nI_pos' u1, nI_pos' u2, nI_pos' u3, nI_pos' u4, nI_pos' u5, v1, v2, v3, v4, v5]
    refine n_rarest M1.1 gS.1 gS.2 (fun y2 e2 n2 => ?_) fun e2 => absurd (e.symm.trans e2) y0
    obtain rfl := e.symm.trans e2
    simp only [s270_1195, s270_1198, oB_some, cl2_i, cl2_r, cl2_l, cl2_u, cl2_s, wd_0, wd_i, wd_r, wd_l, wd_f, ct_i, ct_r, ct_n, ct_f, rf_s, rf_n, tl_s, tl_n, true_and, and_true, eq_self, and_self, Nat.reduceAdd, Nat.reduceLeDiff, Nat.zero_le, Nat.reduceEqDiff, or_true, true_or, false_or, or_false, if_true, if_false, gI_0, gI_1, gI_2, gI_3, gI_4, gI_5, gI_6, gI_7, gI_8, gI_9, gI_10, gI_11, gI_12, gI_13, gI_14, gI_15, gL_0, gL_1, gL_2, gL_3, gL_4, gL_5, gL_6, gL_7, gL_8, gL_9, gL_10, gL_11, gL_12, gL_13, gL_14, gL_15, gA_0, gA_1, gA_2, gA_3, gA_4, gA_5, gA_6, gA_7, gA_8, gA_9, gA_10, gA_11, gA_12, gA_13, gA_14, gA_15, p1_0, p1_1, p1_2, p1_3, p1_4, p1_5, p1_6, p1_7, p1_8, p1_9, p1_10, p1_11, p1_12, p1_13, p1_14, p1_15, p2_0, p2_1, p2_2, p2_3, p2_4, p2_5, p2_6, p2_7, p2_8, p2_9, p2_10, p2_11, p2_12, p2_13, p2_14, p2_15, b01_ok, b_ft, b_tf, b01_e0, b01_e1, lgc_0, not_true_eq_false, not_false_eq_true]
    rw [eh]
    exact nx _ _ _ _ _ _ _ _ _ (by omega) (by omega) (a.refuse y)
  · skip
    have fa1 : FA x h h1 := f1.fa (by omega) (by omega)
    have bk1 := bk1.fa fa1
    have M1 := M.fa gH fa1
    have km : hkd h1 (x + 34) = 16 := M1.1.1.1.1.1
    simp only [s270_1186, s270_1187, s270_1188, s270_1189, s270_1190, s270_1191, s270_1192, oB_some, cl2_i, cl2_r, cl2_l, cl2_u, cl2_s, wd_0, wd_i, wd_r, wd_l, wd_f, ct_i, ct_r, ct_n, ct_f, rf_s, rf_n, tl_s, tl_n, true_and, and_true, eq_self, and_self, Nat.reduceAdd, Nat.reduceLeDiff, Nat.zero_le, Nat.reduceEqDiff, or_true, true_or, false_or, or_false, if_true, if_false, gI_0, gI_1, gI_2, gI_3, gI_4, gI_5, gI_6, gI_7, gI_8, gI_9, gI_10, gI_11, gI_12, gI_13, gI_14, gI_15, gL_0, gL_1, gL_2, gL_3, gL_4, gL_5, gL_6, gL_7, gL_8, gL_9, gL_10, gL_11, gL_12, gL_13, gL_14, gL_15, gA_0, gA_1, gA_2, gA_3, gA_4, gA_5, gA_6, gA_7, gA_8, gA_9, gA_10, gA_11, gA_12, gA_13, gA_14, gA_15, p1_0, p1_1, p1_2, p1_3, p1_4, p1_5, p1_6, p1_7, p1_8, p1_9, p1_10, p1_11, p1_12, p1_13, p1_14, p1_15, p2_0, p2_1, p2_2, p2_3, p2_4, p2_5, p2_6, p2_7, p2_8, p2_9, p2_10, p2_11, p2_12, p2_13, p2_14, p2_15, km, bk1.2.1, bk1.2.2.1, bk1.2.2.2, s1, s2, s3, s4, s5, ix_nI u1, ix_nI u2, ix_nI u3, ix_nI u4, ix_nI u5, nI_pos' u1, nI_pos' u2, nI_pos' u3, nI_pos' u4, nI_pos' u5, v1, v2, v3, v4, v5]
    refine n_rarest M1.1 gS.1 gS.2 (fun y2 e2 n2 => absurd (e2.symm.trans e) n2) fun _ h2 f2 M2 => ?_
    simp only [s270_1195, s270_1198, oB_some, cl2_i, cl2_r, cl2_l, cl2_u, cl2_s, wd_0, wd_i, wd_r, wd_l, wd_f, ct_i, ct_r, ct_n, ct_f, rf_s, rf_n, tl_s, tl_n, true_and, and_true, eq_self, and_self, Nat.reduceAdd, Nat.reduceLeDiff, Nat.zero_le, Nat.reduceEqDiff, or_true, true_or, false_or, or_false, if_true, if_false, gI_0, gI_1, gI_2, gI_3, gI_4, gI_5, gI_6, gI_7, gI_8, gI_9, gI_10, gI_11, gI_12, gI_13, gI_14, gI_15, gL_0, gL_1, gL_2, gL_3, gL_4, gL_5, gL_6, gL_7, gL_8, gL_9, gL_10, gL_11, gL_12, gL_13, gL_14, gL_15, gA_0, gA_1, gA_2, gA_3, gA_4, gA_5, gA_6, gA_7, gA_8, gA_9, gA_10, gA_11, gA_12, gA_13, gA_14, gA_15, p1_0, p1_1, p1_2, p1_3, p1_4, p1_5, p1_6, p1_7, p1_8, p1_9, p1_10, p1_11, p1_12, p1_13, p1_14, p1_15, p2_0, p2_1, p2_2, p2_3, p2_4, p2_5, p2_6, p2_7, p2_8, p2_9, p2_10, p2_11, p2_12, p2_13, p2_14, p2_15, b01_ok, b_ft, b_tf, b01_e0, b01_e1, lgc_0, not_true_eq_false, not_false_eq_true]
    exact nx _ _ _ _ _ _ _ _ _ (by omega) (by omega) (a.ask f1 f2 M2)
set_option maxHeartbeats 4000000 in
theorem lc_share {b L x tl len i c s : Nat} {xs : Nat → Int32} {h : HP} {tp r : Nat → Nat} {S : VS} {H : HS} {Q : PQ} (a : LI b L xs h x S H tp tl r len) (hi : i + 6 ≤ L) (hL : L ≤ 3072) (hc : 12 ≤ c) (hs : 172 ≤ s)
    (nx : ∀ h' S' H' tp' tl' r' len' c' s', c ≤ c' + 12 → s ≤ s' + 172 → LI b L xs h' x S' H' tp' tl' r' len' → WP 11 270 Q (1434, [.val (.ref b), .val (.ref x), .val (.ref (x + 34)), .val (.int (nI i))], [], h', c', s')) : WP 11 270 Q (1200, [.val (.ref b), .val (.ref x), .val (.ref (x + 34)), .val (.int (nI i))], [], h, c, s) := by
  have a0 := a
  obtain ⟨C, M, ⟨gS, gH⟩, rf, bk⟩ := a0
  have bk1 : SKb b L xs x h := bk
  have s1 : nI i + 1 = nI (i + 1) := nI_add i 1
  have s2 : nI i + 2 = nI (i + 2) := nI_add i 2
  have s3 : nI i + 3 = nI (i + 3) := nI_add i 3
  have s4 : nI i + 4 = nI (i + 4) := nI_add i 4
  have s5 : nI i + 5 = nI (i + 5) := nI_add i 5
  have u1 : i + 1 < 2 ^ 31 := by omega
  have u2 : i + 2 < 2 ^ 31 := by omega
  have u3 : i + 3 < 2 ^ 31 := by omega
  have u4 : i + 4 < 2 ^ 31 := by omega
  have u5 : i + 5 < 2 ^ 31 := by omega
  have v1 : i + 1 < L := by omega
  have v2 : i + 2 < L := by omega
  have v3 : i + 3 < L := by omega
  have v4 : i + 4 < L := by omega
  have v5 : i + 5 < L := by omega
  have kx : hkd h x = 15 := C.1.1.1.1
  simp only [s270_1200, s270_1201, s270_1202, s270_1203, s270_1204, s270_1205, s270_1206, oB_some, cl2_i, cl2_r, cl2_l, cl2_u, cl2_s, wd_0, wd_i, wd_r, wd_l, wd_f, ct_i, ct_r, ct_n, ct_f, rf_s, rf_n, tl_s, tl_n, true_and, and_true, eq_self, and_self, Nat.reduceAdd, Nat.reduceLeDiff, Nat.zero_le, Nat.reduceEqDiff, or_true, true_or, false_or, or_false, if_true, if_false, gI_0, gI_1, gI_2, gI_3, gI_4, gI_5, gI_6, gI_7, gI_8, gI_9, gI_10, gI_11, gI_12, gI_13, gI_14, gI_15, gL_0, gL_1, gL_2, gL_3, gL_4, gL_5, gL_6, gL_7, gL_8, gL_9, gL_10, gL_11, gL_12, gL_13, gL_14, gL_15, gA_0, gA_1, gA_2, gA_3, gA_4, gA_5, gA_6, gA_7, gA_8, gA_9, gA_10, gA_11, gA_12, gA_13, gA_14, gA_15, p1_0, p1_1, p1_2, p1_3, p1_4, p1_5, p1_6, p1_7, p1_8, p1_9, p1_10, p1_11, p1_12, p1_13, p1_14, p1_15, p2_0, p2_1, p2_2, p2_3, p2_4, p2_5, p2_6, p2_7, p2_8, p2_9, p2_10, p2_11, p2_12, p2_13, p2_14, p2_15, kx, bk1.2.1, bk1.2.2.1, bk1.2.2.2, s1, s2, s3, s4, s5, ix_nI u1, ix_nI u2, ix_nI u3, ix_nI u4, ix_nI u5, nI_pos' u1, nI_pos' u2, nI_pos' u3, nI_pos' u4, nI_pos' u5, v1, v2, v3, v4, v5]
  refine x_share C.1 gS.1 gS.2 (fun y e y0 => ?_) fun e h1 f1 => ?_
  · obtain ⟨h1, eh⟩ : ∃ z, z = RfC h x y := ⟨_, rfl⟩
    have fa1 : FA x h h1 := by rw [eh]; exact RfC.fa
    rw [← eh]
    have bk1 := bk1.fa fa1
    have M1 := M.fa gH fa1
    have km : hkd h1 (x + 34) = 16 := M1.1.1.1.1.1
    simp only [s270_1209, s270_1210, s270_1211, s270_1212, s270_1213, s270_1214, s270_1215, oB_some, cl2_i, cl2_r, cl2_l, cl2_u, cl2_s, wd_0, wd_i, wd_r, wd_l, wd_f, ct_i, ct_r, ct_n, ct_f, rf_s, rf_n, tl_s, tl_n, true_and, and_true, eq_self, and_self, Nat.reduceAdd, Nat.reduceLeDiff, Nat.zero_le, Nat.reduceEqDiff, or_true, true_or, false_or, or_false, if_true, if_false, gI_0, gI_1, gI_2, gI_3, gI_4, gI_5, gI_6, gI_7, gI_8, gI_9, gI_10, gI_11, gI_12, gI_13, gI_14, gI_15, gL_0, gL_1, gL_2, gL_3, gL_4, gL_5, gL_6, gL_7, gL_8, gL_9, gL_10, gL_11, gL_12, gL_13, gL_14, gL_15, gA_0, gA_1, gA_2, gA_3, gA_4, gA_5, gA_6, gA_7, gA_8, gA_9, gA_10, gA_11, gA_12, gA_13, gA_14, gA_15, p1_0, p1_1, p1_2, p1_3, p1_4, p1_5, p1_6, p1_7, p1_8, p1_9, p1_10, p1_11, p1_12, p1_13, p1_14, p1_15, p2_0, p2_1, p2_2, p2_3, p2_4, p2_5, p2_6, p2_7, p2_8, p2_9, p2_10, p2_11, p2_12, p2_13, p2_14, p2_15, km, bk1.2.1, bk1.2.2.1, bk1.2.2.2, s1, s2, s3, s4, s5, ix_nI u1, ix_nI u2, ix_nI u3, ix_nI u4, ix_nI u5, nI_pos' u1, nI_pos' u2, nI_pos' u3, nI_pos' u4, nI_pos' u5, v1, v2, v3, v4, v5]
    refine n_share M1.1 gS.1 gS.2 (fun y2 e2 n2 => ?_) fun e2 => absurd (e.symm.trans e2) y0
    obtain rfl := e.symm.trans e2
    simp only [s270_1218, s270_1219, s270_1222, oB_some, cl2_i, cl2_r, cl2_l, cl2_u, cl2_s, wd_0, wd_i, wd_r, wd_l, wd_f, ct_i, ct_r, ct_n, ct_f, rf_s, rf_n, tl_s, tl_n, true_and, and_true, eq_self, and_self, Nat.reduceAdd, Nat.reduceLeDiff, Nat.zero_le, Nat.reduceEqDiff, or_true, true_or, false_or, or_false, if_true, if_false, gI_0, gI_1, gI_2, gI_3, gI_4, gI_5, gI_6, gI_7, gI_8, gI_9, gI_10, gI_11, gI_12, gI_13, gI_14, gI_15, gL_0, gL_1, gL_2, gL_3, gL_4, gL_5, gL_6, gL_7, gL_8, gL_9, gL_10, gL_11, gL_12, gL_13, gL_14, gL_15, gA_0, gA_1, gA_2, gA_3, gA_4, gA_5, gA_6, gA_7, gA_8, gA_9, gA_10, gA_11, gA_12, gA_13, gA_14, gA_15, p1_0, p1_1, p1_2, p1_3, p1_4, p1_5, p1_6, p1_7, p1_8, p1_9, p1_10, p1_11, p1_12, p1_13, p1_14, p1_15, p2_0, p2_1, p2_2, p2_3, p2_4, p2_5, p2_6, p2_7, p2_8, p2_9, p2_10, p2_11, p2_12, p2_13, p2_14, p2_15, b01_ok, b_ft, b_tf, b01_e0, b01_e1, lgc_0, not_true_eq_false, not_false_eq_true]
    rw [eh]
    exact nx _ _ _ _ _ _ _ _ _ (by omega) (by omega) (a.refuse y)
  · skip
    have fa1 : FA x h h1 := f1.fa (by omega) (by omega)
    have bk1 := bk1.fa fa1
    have M1 := M.fa gH fa1
    have km : hkd h1 (x + 34) = 16 := M1.1.1.1.1.1
    simp only [s270_1209, s270_1210, s270_1211, s270_1212, s270_1213, s270_1214, s270_1215, oB_some, cl2_i, cl2_r, cl2_l, cl2_u, cl2_s, wd_0, wd_i, wd_r, wd_l, wd_f, ct_i, ct_r, ct_n, ct_f, rf_s, rf_n, tl_s, tl_n, true_and, and_true, eq_self, and_self, Nat.reduceAdd, Nat.reduceLeDiff, Nat.zero_le, Nat.reduceEqDiff, or_true, true_or, false_or, or_false, if_true, if_false, gI_0, gI_1, gI_2, gI_3, gI_4, gI_5, gI_6, gI_7, gI_8, gI_9, gI_10, gI_11, gI_12, gI_13, gI_14, gI_15, gL_0, gL_1, gL_2, gL_3, gL_4, gL_5, gL_6, gL_7, gL_8, gL_9, gL_10, gL_11, gL_12, gL_13, gL_14, gL_15, gA_0, gA_1, gA_2, gA_3, gA_4, gA_5, gA_6, gA_7, gA_8, gA_9, gA_10, gA_11, gA_12, gA_13, gA_14, gA_15, p1_0, p1_1, p1_2, p1_3, p1_4, p1_5, p1_6, p1_7, p1_8, p1_9, p1_10, p1_11, p1_12, p1_13, p1_14, p1_15, p2_0, p2_1, p2_2, p2_3, p2_4, p2_5, p2_6, p2_7, p2_8, p2_9, p2_10, p2_11, p2_12, p2_13, p2_14, p2_15, km, bk1.2.1, bk1.2.2.1, bk1.2.2.2, s1, s2, s3, s4, s5, ix_nI u1, ix_nI u2, ix_nI u3, ix_nI u4, ix_nI u5, nI_pos' u1, nI_pos' u2, nI_pos' u3, nI_pos' u4, nI_pos' u5, v1, v2, v3, v4, v5]
    refine n_share M1.1 gS.1 gS.2 (fun y2 e2 n2 => absurd (e2.symm.trans e) n2) fun _ h2 f2 M2 => ?_
    simp only [s270_1218, s270_1219, s270_1222, oB_some, cl2_i, cl2_r, cl2_l, cl2_u, cl2_s, wd_0, wd_i, wd_r, wd_l, wd_f, ct_i, ct_r, ct_n, ct_f, rf_s, rf_n, tl_s, tl_n, true_and, and_true, eq_self, and_self, Nat.reduceAdd, Nat.reduceLeDiff, Nat.zero_le, Nat.reduceEqDiff, or_true, true_or, false_or, or_false, if_true, if_false, gI_0, gI_1, gI_2, gI_3, gI_4, gI_5, gI_6, gI_7, gI_8, gI_9, gI_10, gI_11, gI_12, gI_13, gI_14, gI_15, gL_0, gL_1, gL_2, gL_3, gL_4, gL_5, gL_6, gL_7, gL_8, gL_9, gL_10, gL_11, gL_12, gL_13, gL_14, gL_15, gA_0, gA_1, gA_2, gA_3, gA_4, gA_5, gA_6, gA_7, gA_8, gA_9, gA_10, gA_11, gA_12, gA_13, gA_14, gA_15, p1_0, p1_1, p1_2, p1_3, p1_4, p1_5, p1_6, p1_7, p1_8, p1_9, p1_10, p1_11, p1_12, p1_13, p1_14, p1_15, p2_0, p2_1, p2_2, p2_3, p2_4, p2_5, p2_6, p2_7, p2_8, p2_9, p2_10, p2_11, p2_12, p2_13, p2_14, p2_15, b01_ok, b_ft, b_tf, b01_e0, b01_e1, lgc_0, not_true_eq_false, not_false_eq_true]
    exact nx _ _ _ _ _ _ _ _ _ (by omega) (by omega) (a.ask f1 f2 M2)
set_option maxHeartbeats 4000000 in
theorem lc_lamp {b L x tl len i c s : Nat} {xs : Nat → Int32} {h : HP} {tp r : Nat → Nat} {S : VS} {H : HS} {Q : PQ} (a : LI b L xs h x S H tp tl r len) (hi : i + 6 ≤ L) (hL : L ≤ 3072) (hc : 12 ≤ c) (hs : 172 ≤ s)
    (nx : ∀ h' S' H' tp' tl' r' len' c' s', c ≤ c' + 12 → s ≤ s' + 172 → LI b L xs h' x S' H' tp' tl' r' len' → WP 11 270 Q (1434, [.val (.ref b), .val (.ref x), .val (.ref (x + 34)), .val (.int (nI i))], [], h', c', s')) : WP 11 270 Q (1224, [.val (.ref b), .val (.ref x), .val (.ref (x + 34)), .val (.int (nI i))], [], h, c, s) := by
  have a0 := a
  obtain ⟨C, M, ⟨gS, gH⟩, rf, bk⟩ := a0
  have bk1 : SKb b L xs x h := bk
  have s1 : nI i + 1 = nI (i + 1) := nI_add i 1
  have s2 : nI i + 2 = nI (i + 2) := nI_add i 2
  have s3 : nI i + 3 = nI (i + 3) := nI_add i 3
  have s4 : nI i + 4 = nI (i + 4) := nI_add i 4
  have s5 : nI i + 5 = nI (i + 5) := nI_add i 5
  have u1 : i + 1 < 2 ^ 31 := by omega
  have u2 : i + 2 < 2 ^ 31 := by omega
  have u3 : i + 3 < 2 ^ 31 := by omega
  have u4 : i + 4 < 2 ^ 31 := by omega
  have u5 : i + 5 < 2 ^ 31 := by omega
  have v1 : i + 1 < L := by omega
  have v2 : i + 2 < L := by omega
  have v3 : i + 3 < L := by omega
  have v4 : i + 4 < L := by omega
  have v5 : i + 5 < L := by omega
  have kx : hkd h x = 15 := C.1.1.1.1
  simp only [s270_1224, s270_1225, s270_1226, s270_1227, s270_1228, s270_1229, s270_1230, oB_some, cl2_i, cl2_r, cl2_l, cl2_u, cl2_s, wd_0, wd_i, wd_r, wd_l, wd_f, ct_i, ct_r, ct_n, ct_f, rf_s, rf_n, tl_s, tl_n, true_and, and_true, eq_self, and_self, Nat.reduceAdd, Nat.reduceLeDiff, Nat.zero_le, Nat.reduceEqDiff, or_true, true_or, false_or, or_false, if_true, if_false, gI_0, gI_1, gI_2, gI_3, gI_4, gI_5, gI_6, gI_7, gI_8, gI_9, gI_10, gI_11, gI_12, gI_13, gI_14, gI_15, gL_0, gL_1, gL_2, gL_3, gL_4, gL_5, gL_6, gL_7, gL_8, gL_9, gL_10, gL_11, gL_12, gL_13, gL_14, gL_15, gA_0, gA_1, gA_2, gA_3, gA_4, gA_5, gA_6, gA_7, gA_8, gA_9, gA_10, gA_11, gA_12, gA_13, gA_14, gA_15, p1_0, p1_1, p1_2, p1_3, p1_4, p1_5, p1_6, p1_7, p1_8, p1_9, p1_10, p1_11, p1_12, p1_13, p1_14, p1_15, p2_0, p2_1, p2_2, p2_3, p2_4, p2_5, p2_6, p2_7, p2_8, p2_9, p2_10, p2_11, p2_12, p2_13, p2_14, p2_15, kx, bk1.2.1, bk1.2.2.1, bk1.2.2.2, s1, s2, s3, s4, s5, ix_nI u1, ix_nI u2, ix_nI u3, ix_nI u4, ix_nI u5, nI_pos' u1, nI_pos' u2, nI_pos' u3, nI_pos' u4, nI_pos' u5, v1, v2, v3, v4, v5]
  refine x_lamp C.1 gS.1 gS.2 (fun y e y0 => ?_) fun e h1 f1 => ?_
  · obtain ⟨h1, eh⟩ : ∃ z, z = RfC h x y := ⟨_, rfl⟩
    have fa1 : FA x h h1 := by rw [eh]; exact RfC.fa
    rw [← eh]
    have bk1 := bk1.fa fa1
    have M1 := M.fa gH fa1
    have km : hkd h1 (x + 34) = 16 := M1.1.1.1.1.1
    simp only [s270_1233, s270_1234, s270_1235, s270_1236, s270_1237, s270_1238, s270_1239, oB_some, cl2_i, cl2_r, cl2_l, cl2_u, cl2_s, wd_0, wd_i, wd_r, wd_l, wd_f, ct_i, ct_r, ct_n, ct_f, rf_s, rf_n, tl_s, tl_n, true_and, and_true, eq_self, and_self, Nat.reduceAdd, Nat.reduceLeDiff, Nat.zero_le, Nat.reduceEqDiff, or_true, true_or, false_or, or_false, if_true, if_false, gI_0, gI_1, gI_2, gI_3, gI_4, gI_5, gI_6, gI_7, gI_8, gI_9, gI_10, gI_11, gI_12, gI_13, gI_14, gI_15, gL_0, gL_1, gL_2, gL_3, gL_4, gL_5, gL_6, gL_7, gL_8, gL_9, gL_10, gL_11, gL_12, gL_13, gL_14, gL_15, gA_0, gA_1, gA_2, gA_3, gA_4, gA_5, gA_6, gA_7, gA_8, gA_9, gA_10, gA_11, gA_12, gA_13, gA_14, gA_15, p1_0, p1_1, p1_2, p1_3, p1_4, p1_5, p1_6, p1_7, p1_8, p1_9, p1_10, p1_11, p1_12, p1_13, p1_14, p1_15, p2_0, p2_1, p2_2, p2_3, p2_4, p2_5, p2_6, p2_7, p2_8, p2_9, p2_10, p2_11, p2_12, p2_13, p2_14, p2_15, km, bk1.2.1, bk1.2.2.1, bk1.2.2.2, s1, s2, s3, s4, s5, ix_nI u1, ix_nI u2, ix_nI u3, ix_nI u4, ix_nI u5, nI_pos' u1, nI_pos' u2, nI_pos' u3, nI_pos' u4, nI_pos' u5, v1, v2, v3, v4, v5]
    refine n_lamp M1.1 gS.1 gS.2 (fun y2 e2 n2 => ?_) fun e2 => absurd (e.symm.trans e2) y0
    obtain rfl := e.symm.trans e2
    simp only [s270_1242, s270_1245, oB_some, cl2_i, cl2_r, cl2_l, cl2_u, cl2_s, wd_0, wd_i, wd_r, wd_l, wd_f, ct_i, ct_r, ct_n, ct_f, rf_s, rf_n, tl_s, tl_n, true_and, and_true, eq_self, and_self, Nat.reduceAdd, Nat.reduceLeDiff, Nat.zero_le, Nat.reduceEqDiff, or_true, true_or, false_or, or_false, if_true, if_false, gI_0, gI_1, gI_2, gI_3, gI_4, gI_5, gI_6, gI_7, gI_8, gI_9, gI_10, gI_11, gI_12, gI_13, gI_14, gI_15, gL_0, gL_1, gL_2, gL_3, gL_4, gL_5, gL_6, gL_7, gL_8, gL_9, gL_10, gL_11, gL_12, gL_13, gL_14, gL_15, gA_0, gA_1, gA_2, gA_3, gA_4, gA_5, gA_6, gA_7, gA_8, gA_9, gA_10, gA_11, gA_12, gA_13, gA_14, gA_15, p1_0, p1_1, p1_2, p1_3, p1_4, p1_5, p1_6, p1_7, p1_8, p1_9, p1_10, p1_11, p1_12, p1_13, p1_14, p1_15, p2_0, p2_1, p2_2, p2_3, p2_4, p2_5, p2_6, p2_7, p2_8, p2_9, p2_10, p2_11, p2_12, p2_13, p2_14, p2_15, b01_ok, b_ft, b_tf, b01_e0, b01_e1, lgc_0, not_true_eq_false, not_false_eq_true]
    rw [eh]
    exact nx _ _ _ _ _ _ _ _ _ (by omega) (by omega) (a.refuse y)
  · skip
    have fa1 : FA x h h1 := f1.fa (by omega) (by omega)
    have bk1 := bk1.fa fa1
    have M1 := M.fa gH fa1
    have km : hkd h1 (x + 34) = 16 := M1.1.1.1.1.1
    simp only [s270_1233, s270_1234, s270_1235, s270_1236, s270_1237, s270_1238, s270_1239, oB_some, cl2_i, cl2_r, cl2_l, cl2_u, cl2_s, wd_0, wd_i, wd_r, wd_l, wd_f, ct_i, ct_r, ct_n, ct_f, rf_s, rf_n, tl_s, tl_n, true_and, and_true, eq_self, and_self, Nat.reduceAdd, Nat.reduceLeDiff, Nat.zero_le, Nat.reduceEqDiff, or_true, true_or, false_or, or_false, if_true, if_false, gI_0, gI_1, gI_2, gI_3, gI_4, gI_5, gI_6, gI_7, gI_8, gI_9, gI_10, gI_11, gI_12, gI_13, gI_14, gI_15, gL_0, gL_1, gL_2, gL_3, gL_4, gL_5, gL_6, gL_7, gL_8, gL_9, gL_10, gL_11, gL_12, gL_13, gL_14, gL_15, gA_0, gA_1, gA_2, gA_3, gA_4, gA_5, gA_6, gA_7, gA_8, gA_9, gA_10, gA_11, gA_12, gA_13, gA_14, gA_15, p1_0, p1_1, p1_2, p1_3, p1_4, p1_5, p1_6, p1_7, p1_8, p1_9, p1_10, p1_11, p1_12, p1_13, p1_14, p1_15, p2_0, p2_1, p2_2, p2_3, p2_4, p2_5, p2_6, p2_7, p2_8, p2_9, p2_10, p2_11, p2_12, p2_13, p2_14, p2_15, km, bk1.2.1, bk1.2.2.1, bk1.2.2.2, s1, s2, s3, s4, s5, ix_nI u1, ix_nI u2, ix_nI u3, ix_nI u4, ix_nI u5, nI_pos' u1, nI_pos' u2, nI_pos' u3, nI_pos' u4, nI_pos' u5, v1, v2, v3, v4, v5]
    refine n_lamp M1.1 gS.1 gS.2 (fun y2 e2 n2 => absurd (e2.symm.trans e) n2) fun _ h2 f2 M2 => ?_
    simp only [s270_1242, s270_1245, oB_some, cl2_i, cl2_r, cl2_l, cl2_u, cl2_s, wd_0, wd_i, wd_r, wd_l, wd_f, ct_i, ct_r, ct_n, ct_f, rf_s, rf_n, tl_s, tl_n, true_and, and_true, eq_self, and_self, Nat.reduceAdd, Nat.reduceLeDiff, Nat.zero_le, Nat.reduceEqDiff, or_true, true_or, false_or, or_false, if_true, if_false, gI_0, gI_1, gI_2, gI_3, gI_4, gI_5, gI_6, gI_7, gI_8, gI_9, gI_10, gI_11, gI_12, gI_13, gI_14, gI_15, gL_0, gL_1, gL_2, gL_3, gL_4, gL_5, gL_6, gL_7, gL_8, gL_9, gL_10, gL_11, gL_12, gL_13, gL_14, gL_15, gA_0, gA_1, gA_2, gA_3, gA_4, gA_5, gA_6, gA_7, gA_8, gA_9, gA_10, gA_11, gA_12, gA_13, gA_14, gA_15, p1_0, p1_1, p1_2, p1_3, p1_4, p1_5, p1_6, p1_7, p1_8, p1_9, p1_10, p1_11, p1_12, p1_13, p1_14, p1_15, p2_0, p2_1, p2_2, p2_3, p2_4, p2_5, p2_6, p2_7, p2_8, p2_9, p2_10, p2_11, p2_12, p2_13, p2_14, p2_15, b01_ok, b_ft, b_tf, b01_e0, b01_e1, lgc_0, not_true_eq_false, not_false_eq_true]
    exact nx _ _ _ _ _ _ _ _ _ (by omega) (by omega) (a.ask f1 f2 M2)
set_option maxHeartbeats 4000000 in
theorem lc_bag {b L x tl len i c s : Nat} {xs : Nat → Int32} {h : HP} {tp r : Nat → Nat} {S : VS} {H : HS} {Q : PQ} (a : LI b L xs h x S H tp tl r len) (hi : i + 6 ≤ L) (hL : L ≤ 3072) (hc : 12 ≤ c) (hs : 172 ≤ s)
    (nx : ∀ h' S' H' tp' tl' r' len' c' s', c ≤ c' + 12 → s ≤ s' + 172 → LI b L xs h' x S' H' tp' tl' r' len' → WP 11 270 Q (1434, [.val (.ref b), .val (.ref x), .val (.ref (x + 34)), .val (.int (nI i))], [], h', c', s')) : WP 11 270 Q (1247, [.val (.ref b), .val (.ref x), .val (.ref (x + 34)), .val (.int (nI i))], [], h, c, s) := by
  have a0 := a
  obtain ⟨C, M, ⟨gS, gH⟩, rf, bk⟩ := a0
  have bk1 : SKb b L xs x h := bk
  have s1 : nI i + 1 = nI (i + 1) := nI_add i 1
  have s2 : nI i + 2 = nI (i + 2) := nI_add i 2
  have s3 : nI i + 3 = nI (i + 3) := nI_add i 3
  have s4 : nI i + 4 = nI (i + 4) := nI_add i 4
  have s5 : nI i + 5 = nI (i + 5) := nI_add i 5
  have u1 : i + 1 < 2 ^ 31 := by omega
  have u2 : i + 2 < 2 ^ 31 := by omega
  have u3 : i + 3 < 2 ^ 31 := by omega
  have u4 : i + 4 < 2 ^ 31 := by omega
  have u5 : i + 5 < 2 ^ 31 := by omega
  have v1 : i + 1 < L := by omega
  have v2 : i + 2 < L := by omega
  have v3 : i + 3 < L := by omega
  have v4 : i + 4 < L := by omega
  have v5 : i + 5 < L := by omega
  have kx : hkd h x = 15 := C.1.1.1.1
  simp only [s270_1247, s270_1248, s270_1249, s270_1250, s270_1251, s270_1252, s270_1253, oB_some, cl2_i, cl2_r, cl2_l, cl2_u, cl2_s, wd_0, wd_i, wd_r, wd_l, wd_f, ct_i, ct_r, ct_n, ct_f, rf_s, rf_n, tl_s, tl_n, true_and, and_true, eq_self, and_self, Nat.reduceAdd, Nat.reduceLeDiff, Nat.zero_le, Nat.reduceEqDiff, or_true, true_or, false_or, or_false, if_true, if_false, gI_0, gI_1, gI_2, gI_3, gI_4, gI_5, gI_6, gI_7, gI_8, gI_9, gI_10, gI_11, gI_12, gI_13, gI_14, gI_15, gL_0, gL_1, gL_2, gL_3, gL_4, gL_5, gL_6, gL_7, gL_8, gL_9, gL_10, gL_11, gL_12, gL_13, gL_14, gL_15, gA_0, gA_1, gA_2, gA_3, gA_4, gA_5, gA_6, gA_7, gA_8, gA_9, gA_10, gA_11, gA_12, gA_13, gA_14, gA_15, p1_0, p1_1, p1_2, p1_3, p1_4, p1_5, p1_6, p1_7, p1_8, p1_9, p1_10, p1_11, p1_12, p1_13, p1_14, p1_15, p2_0, p2_1, p2_2, p2_3, p2_4, p2_5, p2_6, p2_7, p2_8, p2_9, p2_10, p2_11, p2_12, p2_13, p2_14, p2_15, kx, bk1.2.1, bk1.2.2.1, bk1.2.2.2, s1, s2, s3, s4, s5, ix_nI u1, ix_nI u2, ix_nI u3, ix_nI u4, ix_nI u5, nI_pos' u1, nI_pos' u2, nI_pos' u3, nI_pos' u4, nI_pos' u5, v1, v2, v3, v4, v5]
  refine x_bag C.1 gS.1 gS.2 (fun y e y0 => ?_) fun e h1 f1 => ?_
  · obtain ⟨h1, eh⟩ : ∃ z, z = RfC h x y := ⟨_, rfl⟩
    have fa1 : FA x h h1 := by rw [eh]; exact RfC.fa
    rw [← eh]
    have bk1 := bk1.fa fa1
    have M1 := M.fa gH fa1
    have km : hkd h1 (x + 34) = 16 := M1.1.1.1.1.1
    simp only [s270_1256, s270_1257, s270_1258, s270_1259, s270_1260, s270_1261, s270_1262, oB_some, cl2_i, cl2_r, cl2_l, cl2_u, cl2_s, wd_0, wd_i, wd_r, wd_l, wd_f, ct_i, ct_r, ct_n, ct_f, rf_s, rf_n, tl_s, tl_n, true_and, and_true, eq_self, and_self, Nat.reduceAdd, Nat.reduceLeDiff, Nat.zero_le, Nat.reduceEqDiff, or_true, true_or, false_or, or_false, if_true, if_false, gI_0, gI_1, gI_2, gI_3, gI_4, gI_5, gI_6, gI_7, gI_8, gI_9, gI_10, gI_11, gI_12, gI_13, gI_14, gI_15, gL_0, gL_1, gL_2, gL_3, gL_4, gL_5, gL_6, gL_7, gL_8, gL_9, gL_10, gL_11, gL_12, gL_13, gL_14, gL_15, gA_0, gA_1, gA_2, gA_3, gA_4, gA_5, gA_6, gA_7, gA_8, gA_9, gA_10, gA_11, gA_12, gA_13, gA_14, gA_15, p1_0, p1_1, p1_2, p1_3, p1_4, p1_5, p1_6, p1_7, p1_8, p1_9, p1_10, p1_11, p1_12, p1_13, p1_14, p1_15, p2_0, p2_1, p2_2, p2_3, p2_4, p2_5, p2_6, p2_7, p2_8, p2_9, p2_10, p2_11, p2_12, p2_13, p2_14, p2_15, km, bk1.2.1, bk1.2.2.1, bk1.2.2.2, s1, s2, s3, s4, s5, ix_nI u1, ix_nI u2, ix_nI u3, ix_nI u4, ix_nI u5, nI_pos' u1, nI_pos' u2, nI_pos' u3, nI_pos' u4, nI_pos' u5, v1, v2, v3, v4, v5]
    refine n_bag M1.1 gS.1 gS.2 (fun y2 e2 n2 => ?_) fun e2 => absurd (e.symm.trans e2) y0
    obtain rfl := e.symm.trans e2
    simp only [s270_1265, s270_1268, oB_some, cl2_i, cl2_r, cl2_l, cl2_u, cl2_s, wd_0, wd_i, wd_r, wd_l, wd_f, ct_i, ct_r, ct_n, ct_f, rf_s, rf_n, tl_s, tl_n, true_and, and_true, eq_self, and_self, Nat.reduceAdd, Nat.reduceLeDiff, Nat.zero_le, Nat.reduceEqDiff, or_true, true_or, false_or, or_false, if_true, if_false, gI_0, gI_1, gI_2, gI_3, gI_4, gI_5, gI_6, gI_7, gI_8, gI_9, gI_10, gI_11, gI_12, gI_13, gI_14, gI_15, gL_0, gL_1, gL_2, gL_3, gL_4, gL_5, gL_6, gL_7, gL_8, gL_9, gL_10, gL_11, gL_12, gL_13, gL_14, gL_15, gA_0, gA_1, gA_2, gA_3, gA_4, gA_5, gA_6, gA_7, gA_8, gA_9, gA_10, gA_11, gA_12, gA_13, gA_14, gA_15, p1_0, p1_1, p1_2, p1_3, p1_4, p1_5, p1_6, p1_7, p1_8, p1_9, p1_10, p1_11, p1_12, p1_13, p1_14, p1_15, p2_0, p2_1, p2_2, p2_3, p2_4, p2_5, p2_6, p2_7, p2_8, p2_9, p2_10, p2_11, p2_12, p2_13, p2_14, p2_15, b01_ok, b_ft, b_tf, b01_e0, b01_e1, lgc_0, not_true_eq_false, not_false_eq_true]
    rw [eh]
    exact nx _ _ _ _ _ _ _ _ _ (by omega) (by omega) (a.refuse y)
  · skip
    have fa1 : FA x h h1 := f1.fa (by omega) (by omega)
    have bk1 := bk1.fa fa1
    have M1 := M.fa gH fa1
    have km : hkd h1 (x + 34) = 16 := M1.1.1.1.1.1
    simp only [s270_1256, s270_1257, s270_1258, s270_1259, s270_1260, s270_1261, s270_1262, oB_some, cl2_i, cl2_r, cl2_l, cl2_u, cl2_s, wd_0, wd_i, wd_r, wd_l, wd_f, ct_i, ct_r, ct_n, ct_f, rf_s, rf_n, tl_s, tl_n, true_and, and_true, eq_self, and_self, Nat.reduceAdd, Nat.reduceLeDiff, Nat.zero_le, Nat.reduceEqDiff, or_true, true_or, false_or, or_false, if_true, if_false, gI_0, gI_1, gI_2, gI_3, gI_4, gI_5, gI_6, gI_7, gI_8, gI_9, gI_10, gI_11, gI_12, gI_13, gI_14, gI_15, gL_0, gL_1, gL_2, gL_3, gL_4, gL_5, gL_6, gL_7, gL_8, gL_9, gL_10, gL_11, gL_12, gL_13, gL_14, gL_15, gA_0, gA_1, gA_2, gA_3, gA_4, gA_5, gA_6, gA_7, gA_8, gA_9, gA_10, gA_11, gA_12, gA_13, gA_14, gA_15, p1_0, p1_1, p1_2, p1_3, p1_4, p1_5, p1_6, p1_7, p1_8, p1_9, p1_10, p1_11, p1_12, p1_13, p1_14, p1_15, p2_0, p2_1, p2_2, p2_3, p2_4, p2_5, p2_6, p2_7, p2_8, p2_9, p2_10, p2_11, p2_12, p2_13, p2_14, p2_15, km, bk1.2.1, bk1.2.2.1, bk1.2.2.2, s1, s2, s3, s4, s5, ix_nI u1, ix_nI u2, ix_nI u3, ix_nI u4, ix_nI u5, nI_pos' u1, nI_pos' u2, nI_pos' u3, nI_pos' u4, nI_pos' u5, v1, v2, v3, v4, v5]
    refine n_bag M1.1 gS.1 gS.2 (fun y2 e2 n2 => absurd (e2.symm.trans e) n2) fun _ h2 f2 M2 => ?_
    simp only [s270_1265, s270_1268, oB_some, cl2_i, cl2_r, cl2_l, cl2_u, cl2_s, wd_0, wd_i, wd_r, wd_l, wd_f, ct_i, ct_r, ct_n, ct_f, rf_s, rf_n, tl_s, tl_n, true_and, and_true, eq_self, and_self, Nat.reduceAdd, Nat.reduceLeDiff, Nat.zero_le, Nat.reduceEqDiff, or_true, true_or, false_or, or_false, if_true, if_false, gI_0, gI_1, gI_2, gI_3, gI_4, gI_5, gI_6, gI_7, gI_8, gI_9, gI_10, gI_11, gI_12, gI_13, gI_14, gI_15, gL_0, gL_1, gL_2, gL_3, gL_4, gL_5, gL_6, gL_7, gL_8, gL_9, gL_10, gL_11, gL_12, gL_13, gL_14, gL_15, gA_0, gA_1, gA_2, gA_3, gA_4, gA_5, gA_6, gA_7, gA_8, gA_9, gA_10, gA_11, gA_12, gA_13, gA_14, gA_15, p1_0, p1_1, p1_2, p1_3, p1_4, p1_5, p1_6, p1_7, p1_8, p1_9, p1_10, p1_11, p1_12, p1_13, p1_14, p1_15, p2_0, p2_1, p2_2, p2_3, p2_4, p2_5, p2_6, p2_7, p2_8, p2_9, p2_10, p2_11, p2_12, p2_13, p2_14, p2_15, b01_ok, b_ft, b_tf, b01_e0, b01_e1, lgc_0, not_true_eq_false, not_false_eq_true]
    exact nx _ _ _ _ _ _ _ _ _ (by omega) (by omega) (a.ask f1 f2 M2)
set_option maxHeartbeats 4000000 in
theorem lc_kinds {b L x tl len i c s : Nat} {xs : Nat → Int32} {h : HP} {tp r : Nat → Nat} {S : VS} {H : HS} {Q : PQ} (a : LI b L xs h x S H tp tl r len) (hi : i + 6 ≤ L) (hL : L ≤ 3072) (hc : 12 ≤ c) (hs : 172 ≤ s)
    (nx : ∀ h' S' H' tp' tl' r' len' c' s', c ≤ c' + 12 → s ≤ s' + 172 → LI b L xs h' x S' H' tp' tl' r' len' → WP 11 270 Q (1434, [.val (.ref b), .val (.ref x), .val (.ref (x + 34)), .val (.int (nI i))], [], h', c', s')) : WP 11 270 Q (1270, [.val (.ref b), .val (.ref x), .val (.ref (x + 34)), .val (.int (nI i))], [], h, c, s) := by
  have a0 := a
  obtain ⟨C, M, ⟨gS, gH⟩, rf, bk⟩ := a0
  have bk1 : SKb b L xs x h := bk
  have s1 : nI i + 1 = nI (i + 1) := nI_add i 1
  have s2 : nI i + 2 = nI (i + 2) := nI_add i 2
  have s3 : nI i + 3 = nI (i + 3) := nI_add i 3
  have s4 : nI i + 4 = nI (i + 4) := nI_add i 4
  have s5 : nI i + 5 = nI (i + 5) := nI_add i 5
  have u1 : i + 1 < 2 ^ 31 := by omega
  have u2 : i + 2 < 2 ^ 31 := by omega
  have u3 : i + 3 < 2 ^ 31 := by omega
  have u4 : i + 4 < 2 ^ 31 := by omega
  have u5 : i + 5 < 2 ^ 31 := by omega
  have v1 : i + 1 < L := by omega
  have v2 : i + 2 < L := by omega
  have v3 : i + 3 < L := by omega
  have v4 : i + 4 < L := by omega
  have v5 : i + 5 < L := by omega
  have kx : hkd h x = 15 := C.1.1.1.1
  simp only [s270_1270, s270_1271, s270_1272, s270_1273, s270_1274, s270_1275, s270_1276, oB_some, cl2_i, cl2_r, cl2_l, cl2_u, cl2_s, wd_0, wd_i, wd_r, wd_l, wd_f, ct_i, ct_r, ct_n, ct_f, rf_s, rf_n, tl_s, tl_n, true_and, and_true, eq_self, and_self, Nat.reduceAdd, Nat.reduceLeDiff, Nat.zero_le, Nat.reduceEqDiff, or_true, true_or, false_or, or_false, if_true, if_false, gI_0, gI_1, gI_2, gI_3, gI_4, gI_5, gI_6, gI_7, gI_8, gI_9, gI_10, gI_11, gI_12, gI_13, gI_14, gI_15, gL_0, gL_1, gL_2, gL_3, gL_4, gL_5, gL_6, gL_7, gL_8, gL_9, gL_10, gL_11, gL_12, gL_13, gL_14, gL_15, gA_0, gA_1, gA_2, gA_3, gA_4, gA_5, gA_6, gA_7, gA_8, gA_9, gA_10, gA_11, gA_12, gA_13, gA_14, gA_15, p1_0, p1_1, p1_2, p1_3, p1_4, p1_5, p1_6, p1_7, p1_8, p1_9, p1_10, p1_11, p1_12, p1_13, p1_14, p1_15, p2_0, p2_1, p2_2, p2_3, p2_4, p2_5, p2_6, p2_7, p2_8, p2_9, p2_10, p2_11, p2_12, p2_13, p2_14, p2_15, kx, bk1.2.1, bk1.2.2.1, bk1.2.2.2, s1, s2, s3, s4, s5, ix_nI u1, ix_nI u2, ix_nI u3, ix_nI u4, ix_nI u5, nI_pos' u1, nI_pos' u2, nI_pos' u3, nI_pos' u4, nI_pos' u5, v1, v2, v3, v4, v5]
  refine x_kinds C.1 gS.1 gS.2 (fun y e y0 => ?_) fun e h1 f1 => ?_
  · obtain ⟨h1, eh⟩ : ∃ z, z = RfC h x y := ⟨_, rfl⟩
    have fa1 : FA x h h1 := by rw [eh]; exact RfC.fa
    rw [← eh]
    have bk1 := bk1.fa fa1
    have M1 := M.fa gH fa1
    have km : hkd h1 (x + 34) = 16 := M1.1.1.1.1.1
    simp only [s270_1279, s270_1280, s270_1281, s270_1282, s270_1283, s270_1284, s270_1285, oB_some, cl2_i, cl2_r, cl2_l, cl2_u, cl2_s, wd_0, wd_i, wd_r, wd_l, wd_f, ct_i, ct_r, ct_n, ct_f, rf_s, rf_n, tl_s, tl_n, true_and, and_true, eq_self, and_self, Nat.reduceAdd, Nat.reduceLeDiff, Nat.zero_le, Nat.reduceEqDiff, or_true, true_or, false_or, or_false, if_true, if_false, gI_0, gI_1, gI_2, gI_3, gI_4, gI_5, gI_6, gI_7, gI_8, gI_9, gI_10, gI_11, gI_12, gI_13, gI_14, gI_15, gL_0, gL_1, gL_2, gL_3, gL_4, gL_5, gL_6, gL_7, gL_8, gL_9, gL_10, gL_11, gL_12, gL_13, gL_14, gL_15, gA_0, gA_1, gA_2, gA_3, gA_4, gA_5, gA_6, gA_7, gA_8, gA_9, gA_10, gA_11, gA_12, gA_13, gA_14, gA_15, p1_0, p1_1, p1_2, p1_3, p1_4, p1_5, p1_6, p1_7, p1_8, p1_9, p1_10, p1_11, p1_12, p1_13, p1_14, p1_15, p2_0, p2_1, p2_2, p2_3, p2_4, p2_5, p2_6, p2_7, p2_8, p2_9, p2_10, p2_11, p2_12, p2_13, p2_14, p2_15, km, bk1.2.1, bk1.2.2.1, bk1.2.2.2, s1, s2, s3, s4, s5, ix_nI u1, ix_nI u2, ix_nI u3, ix_nI u4, ix_nI u5, nI_pos' u1, nI_pos' u2, nI_pos' u3, nI_pos' u4, nI_pos' u5, v1, v2, v3, v4, v5]
    refine n_kinds M1.1 gS.1 gS.2 (fun y2 e2 n2 => ?_) fun e2 => absurd (e.symm.trans e2) y0
    obtain rfl := e.symm.trans e2
    simp only [s270_1288, s270_1291, oB_some, cl2_i, cl2_r, cl2_l, cl2_u, cl2_s, wd_0, wd_i, wd_r, wd_l, wd_f, ct_i, ct_r, ct_n, ct_f, rf_s, rf_n, tl_s, tl_n, true_and, and_true, eq_self, and_self, Nat.reduceAdd, Nat.reduceLeDiff, Nat.zero_le, Nat.reduceEqDiff, or_true, true_or, false_or, or_false, if_true, if_false, gI_0, gI_1, gI_2, gI_3, gI_4, gI_5, gI_6, gI_7, gI_8, gI_9, gI_10, gI_11, gI_12, gI_13, gI_14, gI_15, gL_0, gL_1, gL_2, gL_3, gL_4, gL_5, gL_6, gL_7, gL_8, gL_9, gL_10, gL_11, gL_12, gL_13, gL_14, gL_15, gA_0, gA_1, gA_2, gA_3, gA_4, gA_5, gA_6, gA_7, gA_8, gA_9, gA_10, gA_11, gA_12, gA_13, gA_14, gA_15, p1_0, p1_1, p1_2, p1_3, p1_4, p1_5, p1_6, p1_7, p1_8, p1_9, p1_10, p1_11, p1_12, p1_13, p1_14, p1_15, p2_0, p2_1, p2_2, p2_3, p2_4, p2_5, p2_6, p2_7, p2_8, p2_9, p2_10, p2_11, p2_12, p2_13, p2_14, p2_15, b01_ok, b_ft, b_tf, b01_e0, b01_e1, lgc_0, not_true_eq_false, not_false_eq_true]
    rw [eh]
    exact nx _ _ _ _ _ _ _ _ _ (by omega) (by omega) (a.refuse y)
  · skip
    have fa1 : FA x h h1 := f1.fa (by omega) (by omega)
    have bk1 := bk1.fa fa1
    have M1 := M.fa gH fa1
    have km : hkd h1 (x + 34) = 16 := M1.1.1.1.1.1
    simp only [s270_1279, s270_1280, s270_1281, s270_1282, s270_1283, s270_1284, s270_1285, oB_some, cl2_i, cl2_r, cl2_l, cl2_u, cl2_s, wd_0, wd_i, wd_r, wd_l, wd_f, ct_i, ct_r, ct_n, ct_f, rf_s, rf_n, tl_s, tl_n, true_and, and_true, eq_self, and_self, Nat.reduceAdd, Nat.reduceLeDiff, Nat.zero_le, Nat.reduceEqDiff, or_true, true_or, false_or, or_false, if_true, if_false, gI_0, gI_1, gI_2, gI_3, gI_4, gI_5, gI_6, gI_7, gI_8, gI_9, gI_10, gI_11, gI_12, gI_13, gI_14, gI_15, gL_0, gL_1, gL_2, gL_3, gL_4, gL_5, gL_6, gL_7, gL_8, gL_9, gL_10, gL_11, gL_12, gL_13, gL_14, gL_15, gA_0, gA_1, gA_2, gA_3, gA_4, gA_5, gA_6, gA_7, gA_8, gA_9, gA_10, gA_11, gA_12, gA_13, gA_14, gA_15, p1_0, p1_1, p1_2, p1_3, p1_4, p1_5, p1_6, p1_7, p1_8, p1_9, p1_10, p1_11, p1_12, p1_13, p1_14, p1_15, p2_0, p2_1, p2_2, p2_3, p2_4, p2_5, p2_6, p2_7, p2_8, p2_9, p2_10, p2_11, p2_12, p2_13, p2_14, p2_15, km, bk1.2.1, bk1.2.2.1, bk1.2.2.2, s1, s2, s3, s4, s5, ix_nI u1, ix_nI u2, ix_nI u3, ix_nI u4, ix_nI u5, nI_pos' u1, nI_pos' u2, nI_pos' u3, nI_pos' u4, nI_pos' u5, v1, v2, v3, v4, v5]
    refine n_kinds M1.1 gS.1 gS.2 (fun y2 e2 n2 => absurd (e2.symm.trans e) n2) fun _ h2 f2 M2 => ?_
    simp only [s270_1288, s270_1291, oB_some, cl2_i, cl2_r, cl2_l, cl2_u, cl2_s, wd_0, wd_i, wd_r, wd_l, wd_f, ct_i, ct_r, ct_n, ct_f, rf_s, rf_n, tl_s, tl_n, true_and, and_true, eq_self, and_self, Nat.reduceAdd, Nat.reduceLeDiff, Nat.zero_le, Nat.reduceEqDiff, or_true, true_or, false_or, or_false, if_true, if_false, gI_0, gI_1, gI_2, gI_3, gI_4, gI_5, gI_6, gI_7, gI_8, gI_9, gI_10, gI_11, gI_12, gI_13, gI_14, gI_15, gL_0, gL_1, gL_2, gL_3, gL_4, gL_5, gL_6, gL_7, gL_8, gL_9, gL_10, gL_11, gL_12, gL_13, gL_14, gL_15, gA_0, gA_1, gA_2, gA_3, gA_4, gA_5, gA_6, gA_7, gA_8, gA_9, gA_10, gA_11, gA_12, gA_13, gA_14, gA_15, p1_0, p1_1, p1_2, p1_3, p1_4, p1_5, p1_6, p1_7, p1_8, p1_9, p1_10, p1_11, p1_12, p1_13, p1_14, p1_15, p2_0, p2_1, p2_2, p2_3, p2_4, p2_5, p2_6, p2_7, p2_8, p2_9, p2_10, p2_11, p2_12, p2_13, p2_14, p2_15, b01_ok, b_ft, b_tf, b01_e0, b01_e1, lgc_0, not_true_eq_false, not_false_eq_true]
    exact nx _ _ _ _ _ _ _ _ _ (by omega) (by omega) (a.ask f1 f2 M2)
set_option maxHeartbeats 4000000 in
theorem lc_lots {b L x tl len i c s : Nat} {xs : Nat → Int32} {h : HP} {tp r : Nat → Nat} {S : VS} {H : HS} {Q : PQ} (a : LI b L xs h x S H tp tl r len) (hi : i + 6 ≤ L) (hL : L ≤ 3072) (hc : 12 ≤ c) (hs : 172 ≤ s)
    (nx : ∀ h' S' H' tp' tl' r' len' c' s', c ≤ c' + 12 → s ≤ s' + 172 → LI b L xs h' x S' H' tp' tl' r' len' → WP 11 270 Q (1434, [.val (.ref b), .val (.ref x), .val (.ref (x + 34)), .val (.int (nI i))], [], h', c', s')) : WP 11 270 Q (1342, [.val (.ref b), .val (.ref x), .val (.ref (x + 34)), .val (.int (nI i))], [], h, c, s) := by
  have a0 := a
  obtain ⟨C, M, ⟨gS, gH⟩, rf, bk⟩ := a0
  have bk1 : SKb b L xs x h := bk
  have s1 : nI i + 1 = nI (i + 1) := nI_add i 1
  have s2 : nI i + 2 = nI (i + 2) := nI_add i 2
  have s3 : nI i + 3 = nI (i + 3) := nI_add i 3
  have s4 : nI i + 4 = nI (i + 4) := nI_add i 4
  have s5 : nI i + 5 = nI (i + 5) := nI_add i 5
  have u1 : i + 1 < 2 ^ 31 := by omega
  have u2 : i + 2 < 2 ^ 31 := by omega
  have u3 : i + 3 < 2 ^ 31 := by omega
  have u4 : i + 4 < 2 ^ 31 := by omega
  have u5 : i + 5 < 2 ^ 31 := by omega
  have v1 : i + 1 < L := by omega
  have v2 : i + 2 < L := by omega
  have v3 : i + 3 < L := by omega
  have v4 : i + 4 < L := by omega
  have v5 : i + 5 < L := by omega
  have kx : hkd h x = 15 := C.1.1.1.1
  simp only [s270_1342, s270_1343, s270_1344, s270_1345, s270_1346, s270_1347, s270_1348, s270_1349, s270_1350, s270_1351, s270_1352, s270_1353, s270_1354, s270_1355, s270_1356, s270_1357, s270_1358, oB_some, cl2_i, cl2_r, cl2_l, cl2_u, cl2_s, wd_0, wd_i, wd_r, wd_l, wd_f, ct_i, ct_r, ct_n, ct_f, rf_s, rf_n, tl_s, tl_n, true_and, and_true, eq_self, and_self, Nat.reduceAdd, Nat.reduceLeDiff, Nat.zero_le, Nat.reduceEqDiff, or_true, true_or, false_or, or_false, if_true, if_false, gI_0, gI_1, gI_2, gI_3, gI_4, gI_5, gI_6, gI_7, gI_8, gI_9, gI_10, gI_11, gI_12, gI_13, gI_14, gI_15, gL_0, gL_1, gL_2, gL_3, gL_4, gL_5, gL_6, gL_7, gL_8, gL_9, gL_10, gL_11, gL_12, gL_13, gL_14, gL_15, gA_0, gA_1, gA_2, gA_3, gA_4, gA_5, gA_6, gA_7, gA_8, gA_9, gA_10, gA_11, gA_12, gA_13, gA_14, gA_15, p1_0, p1_1, p1_2, p1_3, p1_4, p1_5, p1_6, p1_7, p1_8, p1_9, p1_10, p1_11, p1_12, p1_13, p1_14, p1_15, p2_0, p2_1, p2_2, p2_3, p2_4, p2_5, p2_6, p2_7, p2_8, p2_9, p2_10, p2_11, p2_12, p2_13, p2_14, p2_15, kx, bk1.2.1, bk1.2.2.1, bk1.2.2.2, s1, s2, s3, s4, s5, ix_nI u1, ix_nI u2, ix_nI u3, ix_nI u4, ix_nI u5, nI_pos' u1, nI_pos' u2, nI_pos' u3, nI_pos' u4, nI_pos' u5, v1, v2, v3, v4, v5]
  refine x_lots C.1 gS.1 gS.2 (fun y e y0 => ?_) fun e h1 f1 => ?_
  · obtain ⟨h1, eh⟩ : ∃ z, z = RfC h x y := ⟨_, rfl⟩
    have fa1 : FA x h h1 := by rw [eh]; exact RfC.fa
    rw [← eh]
    have bk1 := bk1.fa fa1
    have M1 := M.fa gH fa1
    have km : hkd h1 (x + 34) = 16 := M1.1.1.1.1.1
    simp only [s270_1361, s270_1362, s270_1363, s270_1364, s270_1365, s270_1366, s270_1367, s270_1368, s270_1369, s270_1370, s270_1371, s270_1372, s270_1373, s270_1374, s270_1375, s270_1376, s270_1377, oB_some, cl2_i, cl2_r, cl2_l, cl2_u, cl2_s, wd_0, wd_i, wd_r, wd_l, wd_f, ct_i, ct_r, ct_n, ct_f, rf_s, rf_n, tl_s, tl_n, true_and, and_true, eq_self, and_self, Nat.reduceAdd, Nat.reduceLeDiff, Nat.zero_le, Nat.reduceEqDiff, or_true, true_or, false_or, or_false, if_true, if_false, gI_0, gI_1, gI_2, gI_3, gI_4, gI_5, gI_6, gI_7, gI_8, gI_9, gI_10, gI_11, gI_12, gI_13, gI_14, gI_15, gL_0, gL_1, gL_2, gL_3, gL_4, gL_5, gL_6, gL_7, gL_8, gL_9, gL_10, gL_11, gL_12, gL_13, gL_14, gL_15, gA_0, gA_1, gA_2, gA_3, gA_4, gA_5, gA_6, gA_7, gA_8, gA_9, gA_10, gA_11, gA_12, gA_13, gA_14, gA_15, p1_0, p1_1, p1_2, p1_3, p1_4, p1_5, p1_6, p1_7, p1_8, p1_9, p1_10, p1_11, p1_12, p1_13, p1_14, p1_15, p2_0, p2_1, p2_2, p2_3, p2_4, p2_5, p2_6, p2_7, p2_8, p2_9, p2_10, p2_11, p2_12, p2_13, p2_14, p2_15, km, bk1.2.1, bk1.2.2.1, bk1.2.2.2, s1, s2, s3, s4, s5, ix_nI u1, ix_nI u2, ix_nI u3, ix_nI u4, ix_nI u5, nI_pos' u1, nI_pos' u2, nI_pos' u3, nI_pos' u4, nI_pos' u5, v1, v2, v3, v4, v5]
    refine n_lots M1.1 gS.1 gS.2 (fun y2 e2 n2 => ?_) fun e2 => absurd (e.symm.trans e2) y0
    obtain rfl := e.symm.trans e2
    simp only [s270_1380, s270_1383, oB_some, cl2_i, cl2_r, cl2_l, cl2_u, cl2_s, wd_0, wd_i, wd_r, wd_l, wd_f, ct_i, ct_r, ct_n, ct_f, rf_s, rf_n, tl_s, tl_n, true_and, and_true, eq_self, and_self, Nat.reduceAdd, Nat.reduceLeDiff, Nat.zero_le, Nat.reduceEqDiff, or_true, true_or, false_or, or_false, if_true, if_false, gI_0, gI_1, gI_2, gI_3, gI_4, gI_5, gI_6, gI_7, gI_8, gI_9, gI_10, gI_11, gI_12, gI_13, gI_14, gI_15, gL_0, gL_1, gL_2, gL_3, gL_4, gL_5, gL_6, gL_7, gL_8, gL_9, gL_10, gL_11, gL_12, gL_13, gL_14, gL_15, gA_0, gA_1, gA_2, gA_3, gA_4, gA_5, gA_6, gA_7, gA_8, gA_9, gA_10, gA_11, gA_12, gA_13, gA_14, gA_15, p1_0, p1_1, p1_2, p1_3, p1_4, p1_5, p1_6, p1_7, p1_8, p1_9, p1_10, p1_11, p1_12, p1_13, p1_14, p1_15, p2_0, p2_1, p2_2, p2_3, p2_4, p2_5, p2_6, p2_7, p2_8, p2_9, p2_10, p2_11, p2_12, p2_13, p2_14, p2_15, b01_ok, b_ft, b_tf, b01_e0, b01_e1, lgc_0, not_true_eq_false, not_false_eq_true]
    rw [eh]
    exact nx _ _ _ _ _ _ _ _ _ (by omega) (by omega) (a.refuse y)
  · skip
    have fa1 : FA x h h1 := f1.fa (by omega) (by omega)
    have bk1 := bk1.fa fa1
    have M1 := M.fa gH fa1
    have km : hkd h1 (x + 34) = 16 := M1.1.1.1.1.1
    simp only [s270_1361, s270_1362, s270_1363, s270_1364, s270_1365, s270_1366, s270_1367, s270_1368, s270_1369, s270_1370, s270_1371, s270_1372, s270_1373, s270_1374, s270_1375, s270_1376, s270_1377, oB_some, cl2_i, cl2_r, cl2_l, cl2_u, cl2_s, wd_0, wd_i, wd_r, wd_l, wd_f, ct_i, ct_r, ct_n, ct_f, rf_s, rf_n, tl_s, tl_n, true_and, and_true, eq_self, and_self, Nat.reduceAdd, Nat.reduceLeDiff, Nat.zero_le, Nat.reduceEqDiff, or_true, true_or, false_or, or_false, if_true, if_false, gI_0, gI_1, gI_2, gI_3, gI_4, gI_5, gI_6, gI_7, gI_8, gI_9, gI_10, gI_11, gI_12, gI_13, gI_14, gI_15, gL_0, gL_1, gL_2, gL_3, gL_4, gL_5, gL_6, gL_7, gL_8, gL_9, gL_10, gL_11, gL_12, gL_13, gL_14, gL_15, gA_0, gA_1, gA_2, gA_3, gA_4, gA_5, gA_6, gA_7, gA_8, gA_9, gA_10, gA_11, gA_12, gA_13, gA_14, gA_15, p1_0, p1_1, p1_2, p1_3, p1_4, p1_5, p1_6, p1_7, p1_8, p1_9, p1_10, p1_11, p1_12, p1_13, p1_14, p1_15, p2_0, p2_1, p2_2, p2_3, p2_4, p2_5, p2_6, p2_7, p2_8, p2_9, p2_10, p2_11, p2_12, p2_13, p2_14, p2_15, km, bk1.2.1, bk1.2.2.1, bk1.2.2.2, s1, s2, s3, s4, s5, ix_nI u1, ix_nI u2, ix_nI u3, ix_nI u4, ix_nI u5, nI_pos' u1, nI_pos' u2, nI_pos' u3, nI_pos' u4, nI_pos' u5, v1, v2, v3, v4, v5]
    refine n_lots M1.1 gS.1 gS.2 (fun y2 e2 n2 => absurd (e2.symm.trans e) n2) fun _ h2 f2 M2 => ?_
    simp only [s270_1380, s270_1383, oB_some, cl2_i, cl2_r, cl2_l, cl2_u, cl2_s, wd_0, wd_i, wd_r, wd_l, wd_f, ct_i, ct_r, ct_n, ct_f, rf_s, rf_n, tl_s, tl_n, true_and, and_true, eq_self, and_self, Nat.reduceAdd, Nat.reduceLeDiff, Nat.zero_le, Nat.reduceEqDiff, or_true, true_or, false_or, or_false, if_true, if_false, gI_0, gI_1, gI_2, gI_3, gI_4, gI_5, gI_6, gI_7, gI_8, gI_9, gI_10, gI_11, gI_12, gI_13, gI_14, gI_15, gL_0, gL_1, gL_2, gL_3, gL_4, gL_5, gL_6, gL_7, gL_8, gL_9, gL_10, gL_11, gL_12, gL_13, gL_14, gL_15, gA_0, gA_1, gA_2, gA_3, gA_4, gA_5, gA_6, gA_7, gA_8, gA_9, gA_10, gA_11, gA_12, gA_13, gA_14, gA_15, p1_0, p1_1, p1_2, p1_3, p1_4, p1_5, p1_6, p1_7, p1_8, p1_9, p1_10, p1_11, p1_12, p1_13, p1_14, p1_15, p2_0, p2_1, p2_2, p2_3, p2_4, p2_5, p2_6, p2_7, p2_8, p2_9, p2_10, p2_11, p2_12, p2_13, p2_14, p2_15, b01_ok, b_ft, b_tf, b01_e0, b01_e1, lgc_0, not_true_eq_false, not_false_eq_true]
    exact nx _ _ _ _ _ _ _ _ _ (by omega) (by omega) (a.ask f1 f2 M2)
