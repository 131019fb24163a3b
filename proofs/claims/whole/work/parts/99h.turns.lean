-- written by gen99h.py: the law's turns, questions
def SKb (b L : Nat) (xs : Nat → Int32) (x : Nat) (h : HP) : Prop := b < x ∧ hkd h b = 1 ∧ hln h b = L ∧ ∀ j, hI h b j = xs j
theorem SKb.fa {b L x : Nat} {xs : Nat → Int32} {h h' : HP} (a : SKb b L xs x h) (f : FA x h h') : SKb b L xs x h' := by
  obtain ⟨a1, a2, a3, a4⟩ := a
  refine ⟨a1, ?_, ?_, fun j => ?_⟩
  · rw [(f.1 b (by omega)).1]; exact a2
  · rw [(f.1 b (by omega)).2.1]; exact a3
  · rw [(f.1 b (by omega)).2.2.1]; exact a4 j
set_option maxHeartbeats 4000000 in
theorem lc_person {b L x tl len i c s : Nat} {xs : Nat → Int32} {h : HP} {tp r : Nat → Nat} {S : VS} {H : HS} {Q : PQ} (a : LI b L xs h x S H tp tl r len) (hi : i + 6 ≤ L) (hL : L ≤ 3072) (hc : 12 ≤ c) (hs : 172 ≤ s)
    (nx : ∀ h' S' H' tp' tl' r' len' c' s', c ≤ c' + 12 → s ≤ s' + 172 → LI b L xs h' x S' H' tp' tl' r' len' → WP 11 268 Q (1434, [.val (.ref b), .val (.ref x), .val (.ref (x + 34)), .val (.int (nI i))], [], h', c', s')) : WP 11 268 Q (252, [.val (.ref b), .val (.ref x), .val (.ref (x + 34)), .val (.int (nI i))], [], h, c, s) := by
  have a0 := a
  obtain ⟨C, M, ⟨gS, gH⟩, rf, bk⟩ := a0
  have bk1 : SKb b L xs x h := bk
  have s1 : nI i + 1 = nI (i + 1) := nI_add i 1
  have s2 : nI i + 2 = nI (i + 2) := nI_add i 2
  have s3 : nI i + 3 = nI (i + 3) := nI_add i 3
  have s4 : nI i + 4 = nI (i + 4) := nI_add i 4
  have s5 : nI i + 5 = nI (i + 5) := nI_add i 5
  have u1 : i + 1 < 2 ^ 31 := by omega
  have u2 : i + 2 < 2 ^ 31 := by omega
  have u3 : i + 3 < 2 ^ 31 := by omega
  have u4 : i + 4 < 2 ^ 31 := by omega
  have u5 : i + 5 < 2 ^ 31 := by omega
  have v1 : i + 1 < L := by omega
  have v2 : i + 2 < L := by omega
  have v3 : i + 3 < L := by omega
  have v4 : i + 4 < L := by omega
  have v5 : i + 5 < L := by omega
  have kx : hkd h x = 15 := C.1.1.1.1
  simp only [s268_252, s268_253, s268_254, s268_255, s268_256, s268_257, s268_258, s268_259, s268_260, s268_261, s268_262, s268_263, oB_some, cl2_i, cl2_r, cl2_l, cl2_u, cl2_s, wd_0, wd_i, wd_r, wd_l, wd_f, ct_i, ct_r, ct_n, ct_f, rf_s, rf_n, tl_s, tl_n, true_and, and_true, eq_self, and_self, Nat.reduceAdd, Nat.reduceLeDiff, Nat.zero_le, Nat.reduceEqDiff, or_true, true_or, false_or, or_false, if_true, if_false, gI_0, gI_1, gI_2, gI_3, gI_4, gI_5, gI_6, gI_7, gI_8, gI_9, gI_10, gI_11, gI_12, gI_13, gI_14, gI_15, gL_0, gL_1, gL_2, gL_3, gL_4, gL_5, gL_6, gL_7, gL_8, gL_9, gL_10, gL_11, gL_12, gL_13, gL_14, gL_15, gA_0, gA_1, gA_2, gA_3, gA_4, gA_5, gA_6, gA_7, gA_8, gA_9, gA_10, gA_11, gA_12, gA_13, gA_14, gA_15, p1_0, p1_1, p1_2, p1_3, p1_4, p1_5, p1_6, p1_7, p1_8, p1_9, p1_10, p1_11, p1_12, p1_13, p1_14, p1_15, p2_0, p2_1, p2_2, p2_3, p2_4, p2_5, p2_6, p2_7, p2_8, p2_9, p2_10, p2_11, p2_12, p2_13, p2_14, p2_15, kx, bk1.2.1, bk1.2.2.1, bk1.2.2.2, s1, s2, s3, s4, s5, ix_nI u1, ix_nI u2, ix_nI u3, ix_nI u4, ix_nI u5, nI_pos' u1, nI_pos' u2, nI_pos' u3, nI_pos' u4, nI_pos' u5, v1, v2, v3, v4, v5]
  refine x_person C.1 gS.1 gS.2 (fun y e y0 => ?_) fun e h1 f1 => ?_
  · obtain ⟨h1, eh⟩ : ∃ z, z = RfC h x y := ⟨_, rfl⟩
    have fa1 : FA x h h1 := by rw [eh]; exact RfC.fa
    rw [← eh]
    have bk1 := bk1.fa fa1
    have M1 := M.fa gH fa1
    have km : hkd h1 (x + 34) = 16 := M1.1.1.1.1.1
    simp only [s268_266, s268_267, s268_268, s268_269, s268_270, s268_271, s268_272, s268_273, s268_274, s268_275, s268_276, s268_277, oB_some, cl2_i, cl2_r, cl2_l, cl2_u, cl2_s, wd_0, wd_i, wd_r, wd_l, wd_f, ct_i, ct_r, ct_n, ct_f, rf_s, rf_n, tl_s, tl_n, true_and, and_true, eq_self, and_self, Nat.reduceAdd, Nat.reduceLeDiff, Nat.zero_le, Nat.reduceEqDiff, or_true, true_or, false_or, or_false, if_true, if_false, gI_0, gI_1, gI_2, gI_3, gI_4, gI_5, gI_6, gI_7, gI_8, gI_9, gI_10, gI_11, gI_12, gI_13, gI_14, gI_15, gL_0, gL_1, gL_2, gL_3, gL_4, gL_5, gL_6, gL_7, gL_8, gL_9, gL_10, gL_11, gL_12, gL_13, gL_14, gL_15, gA_0, gA_1, gA_2, gA_3, gA_4, gA_5, gA_6, gA_7, gA_8, gA_9, gA_10, gA_11, gA_12, gA_13, gA_14, gA_15, p1_0, p1_1, p1_2, p1_3, p1_4, p1_5, p1_6, p1_7, p1_8, p1_9, p1_10, p1_11, p1_12, p1_13, p1_14, p1_15, p2_0, p2_1, p2_2, p2_3, p2_4, p2_5, p2_6, p2_7, p2_8, p2_9, p2_10, p2_11, p2_12, p2_13, p2_14, p2_15, km, bk1.2.1, bk1.2.2.1, bk1.2.2.2, s1, s2, s3, s4, s5, ix_nI u1, ix_nI u2, ix_nI u3, ix_nI u4, ix_nI u5, nI_pos' u1, nI_pos' u2, nI_pos' u3, nI_pos' u4, nI_pos' u5, v1, v2, v3, v4, v5]
    refine n_person M1.1 gS.1 gS.2 (fun y2 e2 n2 => ?_) fun e2 => absurd (e.symm.trans e2) y0
    obtain rfl := e.symm.trans e2
    simp only [s268_280, s268_283, oB_some, cl2_i, cl2_r, cl2_l, cl2_u, cl2_s, wd_0, wd_i, wd_r, wd_l, wd_f, ct_i, ct_r, ct_n, ct_f, rf_s, rf_n, tl_s, tl_n, true_and, and_true, eq_self, and_self, Nat.reduceAdd, Nat.reduceLeDiff, Nat.zero_le, Nat.reduceEqDiff, or_true, true_or, false_or, or_false, if_true, if_false, gI_0, gI_1, gI_2, gI_3, gI_4, gI_5, gI_6, gI_7, gI_8, gI_9, gI_10, gI_11, gI_12, gI_13, gI_14, gI_15, gL_0, gL_1, gL_2, gL_3, gL_4, gL_5, gL_6, gL_7, gL_8, gL_9, gL_10, gL_11, gL_12, gL_13, gL_14, gL_15, gA_0, gA_1, gA_2, gA_3, gA_4, gA_5, gA_6, gA_7, gA_8, gA_9, gA_10, gA_11, gA_12, gA_13, gA_14, gA_15, p1_0, p1_1, p1_2, p1_3, p1_4, p1_5, p1_6, p1_7, p1_8, p1_9, p1_10, p1_11, p1_12, p1_13, p1_14, p1_15, p2_0, p2_1, p2_2, p2_3, p2_4, p2_5, p2_6, p2_7, p2_8, p2_9, p2_10, p2_11, p2_12, p2_13, p2_14, p2_15, b01_ok, b_ft, b_tf, b01_e0, b01_e1, lgc_0, not_true_eq_false, not_false_eq_true]
    rw [eh]
    exact nx _ _ _ _ _ _ _ _ _ (by omega) (by omega) (a.refuse y)
  · skip
    have fa1 : FA x h h1 := f1.fa (by omega) (by omega)
    have bk1 := bk1.fa fa1
    have M1 := M.fa gH fa1
    have km : hkd h1 (x + 34) = 16 := M1.1.1.1.1.1
    simp only [s268_266, s268_267, s268_268, s268_269, s268_270, s268_271, s268_272, s268_273, s268_274, s268_275, s268_276, s268_277, oB_some, cl2_i, cl2_r, cl2_l, cl2_u, cl2_s, wd_0, wd_i, wd_r, wd_l, wd_f, ct_i, ct_r, ct_n, ct_f, rf_s, rf_n, tl_s, tl_n, true_and, and_true, eq_self, and_self, Nat.reduceAdd, Nat.reduceLeDiff, Nat.zero_le, Nat.reduceEqDiff, or_true, true_or, false_or, or_false, if_true, if_false, gI_0, gI_1, gI_2, gI_3, gI_4, gI_5, gI_6, gI_7, gI_8, gI_9, gI_10, gI_11, gI_12, gI_13, gI_14, gI_15, gL_0, gL_1, gL_2, gL_3, gL_4, gL_5, gL_6, gL_7, gL_8, gL_9, gL_10, gL_11, gL_12, gL_13, gL_14, gL_15, gA_0, gA_1, gA_2, gA_3, gA_4, gA_5, gA_6, gA_7, gA_8, gA_9, gA_10, gA_11, gA_12, gA_13, gA_14, gA_15, p1_0, p1_1, p1_2, p1_3, p1_4, p1_5, p1_6, p1_7, p1_8, p1_9, p1_10, p1_11, p1_12, p1_13, p1_14, p1_15, p2_0, p2_1, p2_2, p2_3, p2_4, p2_5, p2_6, p2_7, p2_8, p2_9, p2_10, p2_11, p2_12, p2_13, p2_14, p2_15, km, bk1.2.1, bk1.2.2.1, bk1.2.2.2, s1, s2, s3, s4, s5, ix_nI u1, ix_nI u2, ix_nI u3, ix_nI u4, ix_nI u5, nI_pos' u1, nI_pos' u2, nI_pos' u3, nI_pos' u4, nI_pos' u5, v1, v2, v3, v4, v5]
    refine n_person M1.1 gS.1 gS.2 (fun y2 e2 n2 => absurd (e2.symm.trans e) n2) fun _ h2 f2 M2 => ?_
    simp only [s268_280, s268_283, oB_some, cl2_i, cl2_r, cl2_l, cl2_u, cl2_s, wd_0, wd_i, wd_r, wd_l, wd_f, ct_i, ct_r, ct_n, ct_f, rf_s, rf_n, tl_s, tl_n, true_and, and_true, eq_self, and_self, Nat.reduceAdd, Nat.reduceLeDiff, Nat.zero_le, Nat.reduceEqDiff, or_true, true_or, false_or, or_false, if_true, if_false, gI_0, gI_1, gI_2, gI_3, gI_4, gI_5, gI_6, gI_7, gI_8, gI_9, gI_10, gI_11, gI_12, gI_13, gI_14, gI_15, gL_0, gL_1, gL_2, gL_3, gL_4, gL_5, gL_6, gL_7, gL_8, gL_9, gL_10, gL_11, gL_12, gL_13, gL_14, gL_15, gA_0, gA_1, gA_2, gA_3, gA_4, gA_5, gA_6, gA_7, gA_8, gA_9, gA_10, gA_11, gA_12, gA_13, gA_14, gA_15, p1_0, p1_1, p1_2, p1_3, p1_4, p1_5, p1_6, p1_7, p1_8, p1_9, p1_10, p1_11, p1_12, p1_13, p1_14, p1_15, p2_0, p2_1, p2_2, p2_3, p2_4, p2_5, p2_6, p2_7, p2_8, p2_9, p2_10, p2_11, p2_12, p2_13, p2_14, p2_15, b01_ok, b_ft, b_tf, b01_e0, b01_e1, lgc_0, not_true_eq_false, not_false_eq_true]
    exact nx _ _ _ _ _ _ _ _ _ (by omega) (by omega) (a.ask f1 f2 M2)
set_option maxHeartbeats 4000000 in
theorem lc_knows {b L x tl len i c s : Nat} {xs : Nat → Int32} {h : HP} {tp r : Nat → Nat} {S : VS} {H : HS} {Q : PQ} (a : LI b L xs h x S H tp tl r len) (hi : i + 6 ≤ L) (hL : L ≤ 3072) (hc : 12 ≤ c) (hs : 172 ≤ s)
    (nx : ∀ h' S' H' tp' tl' r' len' c' s', c ≤ c' + 12 → s ≤ s' + 172 → LI b L xs h' x S' H' tp' tl' r' len' → WP 11 268 Q (1434, [.val (.ref b), .val (.ref x), .val (.ref (x + 34)), .val (.int (nI i))], [], h', c', s')) : WP 11 268 Q (285, [.val (.ref b), .val (.ref x), .val (.ref (x + 34)), .val (.int (nI i))], [], h, c, s) := by
  have a0 := a
  obtain ⟨C, M, ⟨gS, gH⟩, rf, bk⟩ := a0
  have bk1 : SKb b L xs x h := bk
  have s1 : nI i + 1 = nI (i + 1) := nI_add i 1
  have s2 : nI i + 2 = nI (i + 2) := nI_add i 2
  have s3 : nI i + 3 = nI (i + 3) := nI_add i 3
  have s4 : nI i + 4 = nI (i + 4) := nI_add i 4
  have s5 : nI i + 5 = nI (i + 5) := nI_add i 5
  have u1 : i + 1 < 2 ^ 31 := by omega
  have u2 : i + 2 < 2 ^ 31 := by omega
  have u3 : i + 3 < 2 ^ 31 := by omega
  have u4 : i + 4 < 2 ^ 31 := by omega
  have u5 : i + 5 < 2 ^ 31 := by omega
  have v1 : i + 1 < L := by omega
  have v2 : i + 2 < L := by omega
  have v3 : i + 3 < L := by omega
  have v4 : i + 4 < L := by omega
  have v5 : i + 5 < L := by omega
  have kx : hkd h x = 15 := C.1.1.1.1
  simp only [s268_285, s268_286, s268_287, s268_288, s268_289, s268_290, s268_291, s268_292, s268_293, s268_294, s268_295, s268_296, oB_some, cl2_i, cl2_r, cl2_l, cl2_u, cl2_s, wd_0, wd_i, wd_r, wd_l, wd_f, ct_i, ct_r, ct_n, ct_f, rf_s, rf_n, tl_s, tl_n, true_and, and_true, eq_self, and_self, Nat.reduceAdd, Nat.reduceLeDiff, Nat.zero_le, Nat.reduceEqDiff, or_true, true_or, false_or, or_false, if_true, if_false, gI_0, gI_1, gI_2, gI_3, gI_4, gI_5, gI_6, gI_7, gI_8, gI_9, gI_10, gI_11, gI_12, gI_13, gI_14, gI_15, gL_0, gL_1, gL_2, gL_3, gL_4, gL_5, gL_6, gL_7, gL_8, gL_9, gL_10, gL_11, gL_12, gL_13, gL_14, gL_15, gA_0, gA_1, gA_2, gA_3, gA_4, gA_5, gA_6, gA_7, gA_8, gA_9, gA_10, gA_11, gA_12, gA_13, gA_14, gA_15, p1_0, p1_1, p1_2, p1_3, p1_4, p1_5, p1_6, p1_7, p1_8, p1_9, p1_10, p1_11, p1_12, p1_13, p1_14, p1_15, p2_0, p2_1, p2_2, p2_3, p2_4, p2_5, p2_6, p2_7, p2_8, p2_9, p2_10, p2_11, p2_12, p2_13, p2_14, p2_15, kx, bk1.2.1, bk1.2.2.1, bk1.2.2.2, s1, s2, s3, s4, s5, ix_nI u1, ix_nI u2, ix_nI u3, ix_nI u4, ix_nI u5, nI_pos' u1, nI_pos' u2, nI_pos' u3, nI_pos' u4, nI_pos' u5, v1, v2, v3, v4, v5]
  refine x_knows C.1 gS.1 gS.2 (fun y e y0 => ?_) fun e h1 f1 => ?_
  · obtain ⟨h1, eh⟩ : ∃ z, z = RfC h x y := ⟨_, rfl⟩
    have fa1 : FA x h h1 := by rw [eh]; exact RfC.fa
    rw [← eh]
    have bk1 := bk1.fa fa1
    have M1 := M.fa gH fa1
    have km : hkd h1 (x + 34) = 16 := M1.1.1.1.1.1
    simp only [s268_299, s268_300, s268_301, s268_302, s268_303, s268_304, s268_305, s268_306, s268_307, s268_308, s268_309, s268_310, oB_some, cl2_i, cl2_r, cl2_l, cl2_u, cl2_s, wd_0, wd_i, wd_r, wd_l, wd_f, ct_i, ct_r, ct_n, ct_f, rf_s, rf_n, tl_s, tl_n, true_and, and_true, eq_self, and_self, Nat.reduceAdd, Nat.reduceLeDiff, Nat.zero_le, Nat.reduceEqDiff, or_true, true_or, false_or, or_false, if_true, if_false, gI_0, gI_1, gI_2, gI_3, gI_4, gI_5, gI_6, gI_7, gI_8, gI_9, gI_10, gI_11, gI_12, gI_13, gI_14, gI_15, gL_0, gL_1, gL_2, gL_3, gL_4, gL_5, gL_6, gL_7, gL_8, gL_9, gL_10, gL_11, gL_12, gL_13, gL_14, gL_15, gA_0, gA_1, gA_2, gA_3, gA_4, gA_5, gA_6, gA_7, gA_8, gA_9, gA_10, gA_11, gA_12, gA_13, gA_14, gA_15, p1_0, p1_1, p1_2, p1_3, p1_4, p1_5, p1_6, p1_7, p1_8, p1_9, p1_10, p1_11, p1_12, p1_13, p1_14, p1_15, p2_0, p2_1, p2_2, p2_3, p2_4, p2_5, p2_6, p2_7, p2_8, p2_9, p2_10, p2_11, p2_12, p2_13, p2_14, p2_15, km, bk1.2.1, bk1.2.2.1, bk1.2.2.2, s1, s2, s3, s4, s5, ix_nI u1, ix_nI u2, ix_nI u3, ix_nI u4, ix_nI u5, nI_pos' u1, nI_pos' u2, nI_pos' u3, nI_pos' u4, nI_pos' u5, v1, v2, v3, v4, v5]
    refine n_knows M1.1 gS.1 gS.2 (fun y2 e2 n2 => ?_) fun e2 => absurd (e.symm.trans e2) y0
    obtain rfl := e.symm.trans e2
    simp only [s268_313, s268_316, oB_some, cl2_i, cl2_r, cl2_l, cl2_u, cl2_s, wd_0, wd_i, wd_r, wd_l, wd_f, ct_i, ct_r, ct_n, ct_f, rf_s, rf_n, tl_s, tl_n, true_and, and_true, eq_self, and_self, Nat.reduceAdd, Nat.reduceLeDiff, Nat.zero_le, Nat.reduceEqDiff, or_true, true_or, false_or, or_false, if_true, if_false, gI_0, gI_1, gI_2, gI_3, gI_4, gI_5, gI_6, gI_7, gI_8, gI_9, gI_10, gI_11, gI_12, gI_13, gI_14, gI_15, gL_0, gL_1, gL_2, gL_3, gL_4, gL_5, gL_6, gL_7, gL_8, gL_9, gL_10, gL_11, gL_12, gL_13, gL_14, gL_15, gA_0, gA_1, gA_2, gA_3, gA_4, gA_5, gA_6, gA_7, gA_8, gA_9, gA_10, gA_11, gA_12, gA_13, gA_14, gA_15, p1_0, p1_1, p1_2, p1_3, p1_4, p1_5, p1_6, p1_7, p1_8, p1_9, p1_10, p1_11, p1_12, p1_13, p1_14, p1_15, p2_0, p2_1, p2_2, p2_3, p2_4, p2_5, p2_6, p2_7, p2_8, p2_9, p2_10, p2_11, p2_12, p2_13, p2_14, p2_15, b01_ok, b_ft, b_tf, b01_e0, b01_e1, lgc_0, not_true_eq_false, not_false_eq_true]
    rw [eh]
    exact nx _ _ _ _ _ _ _ _ _ (by omega) (by omega) (a.refuse y)
  · skip
    have fa1 : FA x h h1 := f1.fa (by omega) (by omega)
    have bk1 := bk1.fa fa1
    have M1 := M.fa gH fa1
    have km : hkd h1 (x + 34) = 16 := M1.1.1.1.1.1
    simp only [s268_299, s268_300, s268_301, s268_302, s268_303, s268_304, s268_305, s268_306, s268_307, s268_308, s268_309, s268_310, oB_some, cl2_i, cl2_r, cl2_l, cl2_u, cl2_s, wd_0, wd_i, wd_r, wd_l, wd_f, ct_i, ct_r, ct_n, ct_f, rf_s, rf_n, tl_s, tl_n, true_and, and_true, eq_self, and_self, Nat.reduceAdd, Nat.reduceLeDiff, Nat.zero_le, Nat.reduceEqDiff, or_true, true_or, false_or, or_false, if_true, if_false, gI_0, gI_1, gI_2, gI_3, gI_4, gI_5, gI_6, gI_7, gI_8, gI_9, gI_10, gI_11, gI_12, gI_13, gI_14, gI_15, gL_0, gL_1, gL_2, gL_3, gL_4, gL_5, gL_6, gL_7, gL_8, gL_9, gL_10, gL_11, gL_12, gL_13, gL_14, gL_15, gA_0, gA_1, gA_2, gA_3, gA_4, gA_5, gA_6, gA_7, gA_8, gA_9, gA_10, gA_11, gA_12, gA_13, gA_14, gA_15, p1_0, p1_1, p1_2, p1_3, p1_4, p1_5, p1_6, p1_7, p1_8, p1_9, p1_10, p1_11, p1_12, p1_13, p1_14, p1_15, p2_0, p2_1, p2_2, p2_3, p2_4, p2_5, p2_6, p2_7, p2_8, p2_9, p2_10, p2_11, p2_12, p2_13, p2_14, p2_15, km, bk1.2.1, bk1.2.2.1, bk1.2.2.2, s1, s2, s3, s4, s5, ix_nI u1, ix_nI u2, ix_nI u3, ix_nI u4, ix_nI u5, nI_pos' u1, nI_pos' u2, nI_pos' u3, nI_pos' u4, nI_pos' u5, v1, v2, v3, v4, v5]
    refine n_knows M1.1 gS.1 gS.2 (fun y2 e2 n2 => absurd (e2.symm.trans e) n2) fun _ h2 f2 M2 => ?_
    simp only [s268_313, s268_316, oB_some, cl2_i, cl2_r, cl2_l, cl2_u, cl2_s, wd_0, wd_i, wd_r, wd_l, wd_f, ct_i, ct_r, ct_n, ct_f, rf_s, rf_n, tl_s, tl_n, true_and, and_true, eq_self, and_self, Nat.reduceAdd, Nat.reduceLeDiff, Nat.zero_le, Nat.reduceEqDiff, or_true, true_or, false_or, or_false, if_true, if_false, gI_0, gI_1, gI_2, gI_3, gI_4, gI_5, gI_6, gI_7, gI_8, gI_9, gI_10, gI_11, gI_12, gI_13, gI_14, gI_15, gL_0, gL_1, gL_2, gL_3, gL_4, gL_5, gL_6, gL_7, gL_8, gL_9, gL_10, gL_11, gL_12, gL_13, gL_14, gL_15, gA_0, gA_1, gA_2, gA_3, gA_4, gA_5, gA_6, gA_7, gA_8, gA_9, gA_10, gA_11, gA_12, gA_13, gA_14, gA_15, p1_0, p1_1, p1_2, p1_3, p1_4, p1_5, p1_6, p1_7, p1_8, p1_9, p1_10, p1_11, p1_12, p1_13, p1_14, p1_15, p2_0, p2_1, p2_2, p2_3, p2_4, p2_5, p2_6, p2_7, p2_8, p2_9, p2_10, p2_11, p2_12, p2_13, p2_14, p2_15, b01_ok, b_ft, b_tf, b01_e0, b01_e1, lgc_0, not_true_eq_false, not_false_eq_true]
    exact nx _ _ _ _ _ _ _ _ _ (by omega) (by omega) (a.ask f1 f2 M2)
set_option maxHeartbeats 4000000 in
theorem lc_above {b L x tl len i c s : Nat} {xs : Nat → Int32} {h : HP} {tp r : Nat → Nat} {S : VS} {H : HS} {Q : PQ} (a : LI b L xs h x S H tp tl r len) (hi : i + 6 ≤ L) (hL : L ≤ 3072) (hc : 12 ≤ c) (hs : 172 ≤ s)
    (nx : ∀ h' S' H' tp' tl' r' len' c' s', c ≤ c' + 12 → s ≤ s' + 172 → LI b L xs h' x S' H' tp' tl' r' len' → WP 11 268 Q (1434, [.val (.ref b), .val (.ref x), .val (.ref (x + 34)), .val (.int (nI i))], [], h', c', s')) : WP 11 268 Q (318, [.val (.ref b), .val (.ref x), .val (.ref (x + 34)), .val (.int (nI i))], [], h, c, s) := by
  have a0 := a
  obtain ⟨C, M, ⟨gS, gH⟩, rf, bk⟩ := a0
  have bk1 : SKb b L xs x h := bk
  have s1 : nI i + 1 = nI (i + 1) := nI_add i 1
  have s2 : nI i + 2 = nI (i + 2) := nI_add i 2
  have s3 : nI i + 3 = nI (i + 3) := nI_add i 3
  have s4 : nI i + 4 = nI (i + 4) := nI_add i 4
  have s5 : nI i + 5 = nI (i + 5) := nI_add i 5
  have u1 : i + 1 < 2 ^ 31 := by omega
  have u2 : i + 2 < 2 ^ 31 := by omega
  have u3 : i + 3 < 2 ^ 31 := by omega
  have u4 : i + 4 < 2 ^ 31 := by omega
  have u5 : i + 5 < 2 ^ 31 := by omega
  have v1 : i + 1 < L := by omega
  have v2 : i + 2 < L := by omega
  have v3 : i + 3 < L := by omega
  have v4 : i + 4 < L := by omega
  have v5 : i + 5 < L := by omega
  have kx : hkd h x = 15 := C.1.1.1.1
  simp only [s268_318, s268_319, s268_320, s268_321, s268_322, s268_323, s268_324, s268_325, s268_326, s268_327, s268_328, s268_329, oB_some, cl2_i, cl2_r, cl2_l, cl2_u, cl2_s, wd_0, wd_i, wd_r, wd_l, wd_f, ct_i, ct_r, ct_n, ct_f, rf_s, rf_n, tl_s, tl_n, true_and, and_true, eq_self, and_self, Nat.reduceAdd, Nat.reduceLeDiff, Nat.zero_le, Nat.reduceEqDiff, or_true, true_or, false_or, or_false, if_true, if_false, gI_0, gI_1, gI_2, gI_3, gI_4, gI_5, gI_6, gI_7, gI_8, gI_9, gI_10, gI_11, gI_12, gI_13, gI_14, gI_15, gL_0, gL_1, gL_2, gL_3, gL_4, gL_5, gL_6, gL_7, gL_8, gL_9, gL_10, gL_11, gL_12, gL_13, gL_14, gL_15, gA_0, gA_1, gA_2, gA_3, gA_4, gA_5, gA_6, gA_7, gA_8, gA_9, gA_10, gA_11, gA_12, gA_13, gA_14, gA_15, p1_0, p1_1, p1_2, p1_3, p1_4, p1_5, p1_6, p1_7, p1_8, p1_9, p1_10, p1_11, p1_12, p1_13, p1_14, p1_15, p2_0, p2_1, p2_2, p2_3, p2_4, p2_5, p2_6, p2_7, p2_8, p2_9, p2_10, p2_11, p2_12, p2_13, p2_14, p2_15, kx, bk1.2.1, bk1.2.2.1, bk1.2.2.2, s1, s2, s3, s4, s5, ix_nI u1, ix_nI u2, ix_nI u3, ix_nI u4, ix_nI u5, nI_pos' u1, nI_pos' u2, nI_pos' u3, nI_pos' u4, nI_pos' u5, v1, v2, v3, v4, v5]
  refine x_above C.1 gS.1 gS.2 (fun y e y0 => ?_) fun e h1 f1 => ?_
  · obtain ⟨h1, eh⟩ : ∃ z, z = RfC h x y := ⟨_, rfl⟩
    have fa1 : FA x h h1 := by rw [eh]; exact RfC.fa
    rw [← eh]
    have bk1 := bk1.fa fa1
    have M1 := M.fa gH fa1
    have km : hkd h1 (x + 34) = 16 := M1.1.1.1.1.1
    simp only [s268_332, s268_333, s268_334, s268_335, s268_336, s268_337, s268_338, s268_339, s268_340, s268_341, s268_342, s268_343, oB_some, cl2_i, cl2_r, cl2_l, cl2_u, cl2_s, wd_0, wd_i, wd_r, wd_l, wd_f, ct_i, ct_r, ct_n, ct_f, rf_s, rf_n, tl_s, tl_n, true_and, and_true, eq_self, and_self, Nat.reduceAdd, Nat.reduceLeDiff, Nat.zero_le, Nat.reduceEqDiff, or_true, true_or, false_or, or_false, if_true, if_false, gI_0, gI_1, gI_2, gI_3, gI_4, gI_5, gI_6, gI_7, gI_8, gI_9, gI_10, gI_11, gI_12, gI_13, gI_14, gI_15, gL_0, gL_1, gL_2, gL_3, gL_4, gL_5, gL_6, gL_7, gL_8, gL_9, gL_10, gL_11, gL_12, gL_13, gL_14, gL_15, gA_0, gA_1, gA_2, gA_3, gA_4, gA_5, gA_6, gA_7, gA_8, gA_9, gA_10, gA_11, gA_12, gA_13, gA_14, gA_15, p1_0, p1_1, p1_2, p1_3, p1_4, p1_5, p1_6, p1_7, p1_8, p1_9, p1_10, p1_11, p1_12, p1_13, p1_14, p1_15, p2_0, p2_1, p2_2, p2_3, p2_4, p2_5, p2_6, p2_7, p2_8, p2_9, p2_10, p2_11, p2_12, p2_13, p2_14, p2_15, km, bk1.2.1, bk1.2.2.1, bk1.2.2.2, s1, s2, s3, s4, s5, ix_nI u1, ix_nI u2, ix_nI u3, ix_nI u4, ix_nI u5, nI_pos' u1, nI_pos' u2, nI_pos' u3, nI_pos' u4, nI_pos' u5, v1, v2, v3, v4, v5]
    refine n_above M1.1 gS.1 gS.2 (fun y2 e2 n2 => ?_) fun e2 => absurd (e.symm.trans e2) y0
    obtain rfl := e.symm.trans e2
    simp only [s268_346, s268_349, oB_some, cl2_i, cl2_r, cl2_l, cl2_u, cl2_s, wd_0, wd_i, wd_r, wd_l, wd_f, ct_i, ct_r, ct_n, ct_f, rf_s, rf_n, tl_s, tl_n, true_and, and_true, eq_self, and_self, Nat.reduceAdd, Nat.reduceLeDiff, Nat.zero_le, Nat.reduceEqDiff, or_true, true_or, false_or, or_false, if_true, if_false, gI_0, gI_1, gI_2, gI_3, gI_4, gI_5, gI_6, gI_7, gI_8, gI_9, gI_10, gI_11, gI_12, gI_13, gI_14, gI_15, gL_0, gL_1, gL_2, gL_3, gL_4, gL_5, gL_6, gL_7, gL_8, gL_9, gL_10, gL_11, gL_12, gL_13, gL_14, gL_15, gA_0, gA_1, gA_2, gA_3, gA_4, gA_5, gA_6, gA_7, gA_8, gA_9, gA_10, gA_11, gA_12, gA_13, gA_14, gA_15, p1_0, p1_1, p1_2, p1_3, p1_4, p1_5, p1_6, p1_7, p1_8, p1_9, p1_10, p1_11, p1_12, p1_13, p1_14, p1_15, p2_0, p2_1, p2_2, p2_3, p2_4, p2_5, p2_6, p2_7, p2_8, p2_9, p2_10, p2_11, p2_12, p2_13, p2_14, p2_15, b01_ok, b_ft, b_tf, b01_e0, b01_e1, lgc_0, not_true_eq_false, not_false_eq_true]
    rw [eh]
    exact nx _ _ _ _ _ _ _ _ _ (by omega) (by omega) (a.refuse y)
  · skip
    have fa1 : FA x h h1 := f1.fa (by omega) (by omega)
    have bk1 := bk1.fa fa1
    have M1 := M.fa gH fa1
    have km : hkd h1 (x + 34) = 16 := M1.1.1.1.1.1
    simp only [s268_332, s268_333, s268_334, s268_335, s268_336, s268_337, s268_338, s268_339, s268_340, s268_341, s268_342, s268_343, oB_some, cl2_i, cl2_r, cl2_l, cl2_u, cl2_s, wd_0, wd_i, wd_r, wd_l, wd_f, ct_i, ct_r, ct_n, ct_f, rf_s, rf_n, tl_s, tl_n, true_and, and_true, eq_self, and_self, Nat.reduceAdd, Nat.reduceLeDiff, Nat.zero_le, Nat.reduceEqDiff, or_true, true_or, false_or, or_false, if_true, if_false, gI_0, gI_1, gI_2, gI_3, gI_4, gI_5, gI_6, gI_7, gI_8, gI_9, gI_10, gI_11, gI_12, gI_13, gI_14, gI_15, gL_0, gL_1, gL_2, gL_3, gL_4, gL_5, gL_6, gL_7, gL_8, gL_9, gL_10, gL_11, gL_12, gL_13, gL_14, gL_15, gA_0, gA_1, gA_2, gA_3, gA_4, gA_5, gA_6, gA_7, gA_8, gA_9, gA_10, gA_11, gA_12, gA_13, gA_14, gA_15, p1_0, p1_1, p1_2, p1_3, p1_4, p1_5, p1_6, p1_7, p1_8, p1_9, p1_10, p1_11, p1_12, p1_13, p1_14, p1_15, p2_0, p2_1, p2_2, p2_3, p2_4, p2_5, p2_6, p2_7, p2_8, p2_9, p2_10, p2_11, p2_12, p2_13, p2_14, p2_15, km, bk1.2.1, bk1.2.2.1, bk1.2.2.2, s1, s2, s3, s4, s5, ix_nI u1, ix_nI u2, ix_nI u3, ix_nI u4, ix_nI u5, nI_pos' u1, nI_pos' u2, nI_pos' u3, nI_pos' u4, nI_pos' u5, v1, v2, v3, v4, v5]
    refine n_above M1.1 gS.1 gS.2 (fun y2 e2 n2 => absurd (e2.symm.trans e) n2) fun _ h2 f2 M2 => ?_
    simp only [s268_346, s268_349, oB_some, cl2_i, cl2_r, cl2_l, cl2_u, cl2_s, wd_0, wd_i, wd_r, wd_l, wd_f, ct_i, ct_r, ct_n, ct_f, rf_s, rf_n, tl_s, tl_n, true_and, and_true, eq_self, and_self, Nat.reduceAdd, Nat.reduceLeDiff, Nat.zero_le, Nat.reduceEqDiff, or_true, true_or, false_or, or_false, if_true, if_false, gI_0, gI_1, gI_2, gI_3, gI_4, gI_5, gI_6, gI_7, gI_8, gI_9, gI_10, gI_11, gI_12, gI_13, gI_14, gI_15, gL_0, gL_1, gL_2, gL_3, gL_4, gL_5, gL_6, gL_7, gL_8, gL_9, gL_10, gL_11, gL_12, gL_13, gL_14, gL_15, gA_0, gA_1, gA_2, gA_3, gA_4, gA_5, gA_6, gA_7, gA_8, gA_9, gA_10, gA_11, gA_12, gA_13, gA_14, gA_15, p1_0, p1_1, p1_2, p1_3, p1_4, p1_5, p1_6, p1_7, p1_8, p1_9, p1_10, p1_11, p1_12, p1_13, p1_14, p1_15, p2_0, p2_1, p2_2, p2_3, p2_4, p2_5, p2_6, p2_7, p2_8, p2_9, p2_10, p2_11, p2_12, p2_13, p2_14, p2_15, b01_ok, b_ft, b_tf, b01_e0, b01_e1, lgc_0, not_true_eq_false, not_false_eq_true]
    exact nx _ _ _ _ _ _ _ _ _ (by omega) (by omega) (a.ask f1 f2 M2)
set_option maxHeartbeats 4000000 in
theorem lc_letter {b L x tl len i c s : Nat} {xs : Nat → Int32} {h : HP} {tp r : Nat → Nat} {S : VS} {H : HS} {Q : PQ} (a : LI b L xs h x S H tp tl r len) (hi : i + 6 ≤ L) (hL : L ≤ 3072) (hc : 12 ≤ c) (hs : 172 ≤ s)
    (nx : ∀ h' S' H' tp' tl' r' len' c' s', c ≤ c' + 12 → s ≤ s' + 172 → LI b L xs h' x S' H' tp' tl' r' len' → WP 11 268 Q (1434, [.val (.ref b), .val (.ref x), .val (.ref (x + 34)), .val (.int (nI i))], [], h', c', s')) : WP 11 268 Q (351, [.val (.ref b), .val (.ref x), .val (.ref (x + 34)), .val (.int (nI i))], [], h, c, s) := by
  have a0 := a
  obtain ⟨C, M, ⟨gS, gH⟩, rf, bk⟩ := a0
  have bk1 : SKb b L xs x h := bk
  have s1 : nI i + 1 = nI (i + 1) := nI_add i 1
  have s2 : nI i + 2 = nI (i + 2) := nI_add i 2
  have s3 : nI i + 3 = nI (i + 3) := nI_add i 3
  have s4 : nI i + 4 = nI (i + 4) := nI_add i 4
  have s5 : nI i + 5 = nI (i + 5) := nI_add i 5
  have u1 : i + 1 < 2 ^ 31 := by omega
  have u2 : i + 2 < 2 ^ 31 := by omega
  have u3 : i + 3 < 2 ^ 31 := by omega
  have u4 : i + 4 < 2 ^ 31 := by omega
  have u5 : i + 5 < 2 ^ 31 := by omega
  have v1 : i + 1 < L := by omega
  have v2 : i + 2 < L := by omega
  have v3 : i + 3 < L := by omega
  have v4 : i + 4 < L := by omega
  have v5 : i + 5 < L := by omega
  have kx : hkd h x = 15 := C.1.1.1.1
  simp only [s268_351, s268_352, s268_353, s268_354, s268_355, s268_356, s268_357, s268_358, s268_359, s268_360, s268_361, s268_362, oB_some, cl2_i, cl2_r, cl2_l, cl2_u, cl2_s, wd_0, wd_i, wd_r, wd_l, wd_f, ct_i, ct_r, ct_n, ct_f, rf_s, rf_n, tl_s, tl_n, true_and, and_true, eq_self, and_self, Nat.reduceAdd, Nat.reduceLeDiff, Nat.zero_le, Nat.reduceEqDiff, or_true, true_or, false_or, or_false, if_true, if_false, gI_0, gI_1, gI_2, gI_3, gI_4, gI_5, gI_6, gI_7, gI_8, gI_9, gI_10, gI_11, gI_12, gI_13, gI_14, gI_15, gL_0, gL_1, gL_2, gL_3, gL_4, gL_5, gL_6, gL_7, gL_8, gL_9, gL_10, gL_11, gL_12, gL_13, gL_14, gL_15, gA_0, gA_1, gA_2, gA_3, gA_4, gA_5, gA_6, gA_7, gA_8, gA_9, gA_10, gA_11, gA_12, gA_13, gA_14, gA_15, p1_0, p1_1, p1_2, p1_3, p1_4, p1_5, p1_6, p1_7, p1_8, p1_9, p1_10, p1_11, p1_12, p1_13, p1_14, p1_15, p2_0, p2_1, p2_2, p2_3, p2_4, p2_5, p2_6, p2_7, p2_8, p2_9, p2_10, p2_11, p2_12, p2_13, p2_14, p2_15, kx, bk1.2.1, bk1.2.2.1, bk1.2.2.2, s1, s2, s3, s4, s5, ix_nI u1, ix_nI u2, ix_nI u3, ix_nI u4, ix_nI u5, nI_pos' u1, nI_pos' u2, nI_pos' u3, nI_pos' u4, nI_pos' u5, v1, v2, v3, v4, v5]
  refine x_letter C.1 gS.1 gS.2 (fun y e y0 => ?_) fun e h1 f1 => ?_
  · obtain ⟨h1, eh⟩ : ∃ z, z = RfC h x y := ⟨_, rfl⟩
    have fa1 : FA x h h1 := by rw [eh]; exact RfC.fa
    rw [← eh]
    have bk1 := bk1.fa fa1
    have M1 := M.fa gH fa1
    have km : hkd h1 (x + 34) = 16 := M1.1.1.1.1.1
    simp only [s268_365, s268_366, s268_367, s268_368, s268_369, s268_370, s268_371, s268_372, s268_373, s268_374, s268_375, s268_376, oB_some, cl2_i, cl2_r, cl2_l, cl2_u, cl2_s, wd_0, wd_i, wd_r, wd_l, wd_f, ct_i, ct_r, ct_n, ct_f, rf_s, rf_n, tl_s, tl_n, true_and, and_true, eq_self, and_self, Nat.reduceAdd, Nat.reduceLeDiff, Nat.zero_le, Nat.reduceEqDiff, or_true, true_or, false_or, or_false, if_true, if_false, gI_0, gI_1, gI_2, gI_3, gI_4, gI_5, gI_6, gI_7, gI_8, gI_9, gI_10, gI_11, gI_12, gI_13, gI_14, gI_15, gL_0, gL_1, gL_2, gL_3, gL_4, gL_5, gL_6, gL_7, gL_8, gL_9, gL_10, gL_11, gL_12, gL_13, gL_14, gL_15, gA_0, gA_1, gA_2, gA_3, gA_4, gA_5, gA_6, gA_7, gA_8, gA_9, gA_10, gA_11, gA_12, gA_13, gA_14, gA_15, p1_0, p1_1, p1_2, p1_3, p1_4, p1_5, p1_6, p1_7, p1_8, p1_9, p1_10, p1_11, p1_12, p1_13, p1_14, p1_15, p2_0, p2_1, p2_2, p2_3, p2_4, p2_5, p2_6, p2_7, p2_8, p2_9, p2_10, p2_11, p2_12, p2_13, p2_14, p2_15, km, bk1.2.1, bk1.2.2.1, bk1.2.2.2, s1, s2, s3, s4, s5, ix_nI u1, ix_nI u2, ix_nI u3, ix_nI u4, ix_nI u5, nI_pos' u1, nI_pos' u2, nI_pos' u3, nI_pos' u4, nI_pos' u5, v1, v2, v3, v4, v5]
    refine n_letter M1.1 gS.1 gS.2 (fun y2 e2 n2 => ?_) fun e2 => absurd (e.symm.trans e2) y0
    obtain rfl := e.symm.trans e2
    simp only [s268_379, s268_382, oB_some, cl2_i, cl2_r, cl2_l, cl2_u, cl2_s, wd_0, wd_i, wd_r, wd_l, wd_f, ct_i, ct_r, ct_n, ct_f, rf_s, rf_n, tl_s, tl_n, true_and, and_true, eq_self, and_self, Nat.reduceAdd, Nat.reduceLeDiff, Nat.zero_le, Nat.reduceEqDiff, or_true, true_or, false_or, or_false, if_true, if_false, gI_0, gI_1, gI_2, gI_3, gI_4, gI_5, gI_6, gI_7, gI_8, gI_9, gI_10, gI_11, gI_12, gI_13, gI_14, gI_15, gL_0, gL_1, gL_2, gL_3, gL_4, gL_5, gL_6, gL_7, gL_8, gL_9, gL_10, gL_11, gL_12, gL_13, gL_14, gL_15, gA_0, gA_1, gA_2, gA_3, gA_4, gA_5, gA_6, gA_7, gA_8, gA_9, gA_10, gA_11, gA_12, gA_13, gA_14, gA_15, p1_0, p1_1, p1_2, p1_3, p1_4, p1_5, p1_6, p1_7, p1_8, p1_9, p1_10, p1_11, p1_12, p1_13, p1_14, p1_15, p2_0, p2_1, p2_2, p2_3, p2_4, p2_5, p2_6, p2_7, p2_8, p2_9, p2_10, p2_11, p2_12, p2_13, p2_14, p2_15, b01_ok, b_ft, b_tf, b01_e0, b01_e1, lgc_0, not_true_eq_false, not_false_eq_true]
    rw [eh]
    exact nx _ _ _ _ _ _ _ _ _ (by omega) (by omega) (a.refuse y)
  · skip
    have fa1 : FA x h h1 := f1.fa (by omega) (by omega)
    have bk1 := bk1.fa fa1
    have M1 := M.fa gH fa1
    have km : hkd h1 (x + 34) = 16 := M1.1.1.1.1.1
    simp only [s268_365, s268_366, s268_367, s268_368, s268_369, s268_370, s268_371, s268_372, s268_373, s268_374, s268_375, s268_376, oB_some, cl2_i, cl2_r, cl2_l, cl2_u, cl2_s, wd_0, wd_i, wd_r, wd_l, wd_f, ct_i, ct_r, ct_n, ct_f, rf_s, rf_n, tl_s, tl_n, true_and, and_true, eq_self, and_self, Nat.reduceAdd, Nat.reduceLeDiff, Nat.zero_le, Nat.reduceEqDiff, or_true, true_or, false_or, or_false, if_true, if_false, gI_0, gI_1, gI_2, gI_3, gI_4, gI_5, gI_6, gI_7, gI_8, gI_9, gI_10, gI_11, gI_12, gI_13, gI_14, gI_15, gL_0, gL_1, gL_2, gL_3, gL_4, gL_5, gL_6, gL_7, gL_8, gL_9, gL_10, gL_11, gL_12, gL_13, gL_14, gL_15, gA_0, gA_1, gA_2, gA_3, gA_4, gA_5, gA_6, gA_7, gA_8, gA_9, gA_10, gA_11, gA_12, gA_13, gA_14, gA_15, p1_0, p1_1, p1_2, p1_3, p1_4, p1_5, p1_6, p1_7, p1_8, p1_9, p1_10, p1_11, p1_12, p1_13, p1_14, p1_15, p2_0, p2_1, p2_2, p2_3, p2_4, p2_5, p2_6, p2_7, p2_8, p2_9, p2_10, p2_11, p2_12, p2_13, p2_14, p2_15, km, bk1.2.1, bk1.2.2.1, bk1.2.2.2, s1, s2, s3, s4, s5, ix_nI u1, ix_nI u2, ix_nI u3, ix_nI u4, ix_nI u5, nI_pos' u1, nI_pos' u2, nI_pos' u3, nI_pos' u4, nI_pos' u5, v1, v2, v3, v4, v5]
    refine n_letter M1.1 gS.1 gS.2 (fun y2 e2 n2 => absurd (e2.symm.trans e) n2) fun _ h2 f2 M2 => ?_
    simp only [s268_379, s268_382, oB_some, cl2_i, cl2_r, cl2_l, cl2_u, cl2_s, wd_0, wd_i, wd_r, wd_l, wd_f, ct_i, ct_r, ct_n, ct_f, rf_s, rf_n, tl_s, tl_n, true_and, and_true, eq_self, and_self, Nat.reduceAdd, Nat.reduceLeDiff, Nat.zero_le, Nat.reduceEqDiff, or_true, true_or, false_or, or_false, if_true, if_false, gI_0, gI_1, gI_2, gI_3, gI_4, gI_5, gI_6, gI_7, gI_8, gI_9, gI_10, gI_11, gI_12, gI_13, gI_14, gI_15, gL_0, gL_1, gL_2, gL_3, gL_4, gL_5, gL_6, gL_7, gL_8, gL_9, gL_10, gL_11, gL_12, gL_13, gL_14, gL_15, gA_0, gA_1, gA_2, gA_3, gA_4, gA_5, gA_6, gA_7, gA_8, gA_9, gA_10, gA_11, gA_12, gA_13, gA_14, gA_15, p1_0, p1_1, p1_2, p1_3, p1_4, p1_5, p1_6, p1_7, p1_8, p1_9, p1_10, p1_11, p1_12, p1_13, p1_14, p1_15, p2_0, p2_1, p2_2, p2_3, p2_4, p2_5, p2_6, p2_7, p2_8, p2_9, p2_10, p2_11, p2_12, p2_13, p2_14, p2_15, b01_ok, b_ft, b_tf, b01_e0, b01_e1, lgc_0, not_true_eq_false, not_false_eq_true]
    exact nx _ _ _ _ _ _ _ _ _ (by omega) (by omega) (a.ask f1 f2 M2)
set_option maxHeartbeats 4000000 in
theorem lc_knownIn {b L x tl len i c s : Nat} {xs : Nat → Int32} {h : HP} {tp r : Nat → Nat} {S : VS} {H : HS} {Q : PQ} (a : LI b L xs h x S H tp tl r len) (hi : i + 6 ≤ L) (hL : L ≤ 3072) (hc : 12 ≤ c) (hs : 172 ≤ s)
    (nx : ∀ h' S' H' tp' tl' r' len' c' s', c ≤ c' + 12 → s ≤ s' + 172 → LI b L xs h' x S' H' tp' tl' r' len' → WP 11 268 Q (1434, [.val (.ref b), .val (.ref x), .val (.ref (x + 34)), .val (.int (nI i))], [], h', c', s')) : WP 11 268 Q (588, [.val (.ref b), .val (.ref x), .val (.ref (x + 34)), .val (.int (nI i))], [], h, c, s) := by
  have a0 := a
  obtain ⟨C, M, ⟨gS, gH⟩, rf, bk⟩ := a0
  have bk1 : SKb b L xs x h := bk
  have s1 : nI i + 1 = nI (i + 1) := nI_add i 1
  have s2 : nI i + 2 = nI (i + 2) := nI_add i 2
  have s3 : nI i + 3 = nI (i + 3) := nI_add i 3
  have s4 : nI i + 4 = nI (i + 4) := nI_add i 4
  have s5 : nI i + 5 = nI (i + 5) := nI_add i 5
  have u1 : i + 1 < 2 ^ 31 := by omega
  have u2 : i + 2 < 2 ^ 31 := by omega
  have u3 : i + 3 < 2 ^ 31 := by omega
  have u4 : i + 4 < 2 ^ 31 := by omega
  have u5 : i + 5 < 2 ^ 31 := by omega
  have v1 : i + 1 < L := by omega
  have v2 : i + 2 < L := by omega
  have v3 : i + 3 < L := by omega
  have v4 : i + 4 < L := by omega
  have v5 : i + 5 < L := by omega
  have kx : hkd h x = 15 := C.1.1.1.1
  simp only [s268_588, s268_589, s268_590, s268_591, s268_592, s268_593, s268_594, s268_595, s268_596, s268_597, s268_598, s268_599, oB_some, cl2_i, cl2_r, cl2_l, cl2_u, cl2_s, wd_0, wd_i, wd_r, wd_l, wd_f, ct_i, ct_r, ct_n, ct_f, rf_s, rf_n, tl_s, tl_n, true_and, and_true, eq_self, and_self, Nat.reduceAdd, Nat.reduceLeDiff, Nat.zero_le, Nat.reduceEqDiff, or_true, true_or, false_or, or_false, if_true, if_false, gI_0, gI_1, gI_2, gI_3, gI_4, gI_5, gI_6, gI_7, gI_8, gI_9, gI_10, gI_11, gI_12, gI_13, gI_14, gI_15, gL_0, gL_1, gL_2, gL_3, gL_4, gL_5, gL_6, gL_7, gL_8, gL_9, gL_10, gL_11, gL_12, gL_13, gL_14, gL_15, gA_0, gA_1, gA_2, gA_3, gA_4, gA_5, gA_6, gA_7, gA_8, gA_9, gA_10, gA_11, gA_12, gA_13, gA_14, gA_15, p1_0, p1_1, p1_2, p1_3, p1_4, p1_5, p1_6, p1_7, p1_8, p1_9, p1_10, p1_11, p1_12, p1_13, p1_14, p1_15, p2_0, p2_1, p2_2, p2_3, p2_4, p2_5, p2_6, p2_7, p2_8, p2_9, p2_10, p2_11, p2_12, p2_13, p2_14, p2_15, kx, bk1.2.1, bk1.2.2.1, bk1.2.2.2, s1, s2, s3, s4, s5, ix_nI u1, ix_nI u2, ix_nI u3, ix_nI u4, ix_nI u5, nI_pos' u1, nI_pos' u2, nI_pos' u3, nI_pos' u4, nI_pos' u5, v1, v2, v3, v4, v5]
  refine x_knownIn C.1 gS.1 gS.2 (fun y e y0 => ?_) fun e h1 f1 => ?_
  · obtain ⟨h1, eh⟩ : ∃ z, z = RfC h x y := ⟨_, rfl⟩
    have fa1 : FA x h h1 := by rw [eh]; exact RfC.fa
    rw [← eh]
    have bk1 := bk1.fa fa1
    have M1 := M.fa gH fa1
    have km : hkd h1 (x + 34) = 16 := M1.1.1.1.1.1
    simp only [s268_602, s268_603, s268_604, s268_605, s268_606, s268_607, s268_608, s268_609, s268_610, s268_611, s268_612, s268_613, oB_some, cl2_i, cl2_r, cl2_l, cl2_u, cl2_s, wd_0, wd_i, wd_r, wd_l, wd_f, ct_i, ct_r, ct_n, ct_f, rf_s, rf_n, tl_s, tl_n, true_and, and_true, eq_self, and_self, Nat.reduceAdd, Nat.reduceLeDiff, Nat.zero_le, Nat.reduceEqDiff, or_true, true_or, false_or, or_false, if_true, if_false, gI_0, gI_1, gI_2, gI_3, gI_4, gI_5, gI_6, gI_7, gI_8, gI_9, gI_10, gI_11, gI_12, gI_13, gI_14, gI_15, gL_0, gL_1, gL_2, gL_3, gL_4, gL_5, gL_6, gL_7, gL_8, gL_9, gL_10, gL_11, gL_12, gL_13, gL_14, gL_15, gA_0, gA_1, gA_2, gA_3, gA_4, gA_5, gA_6, gA_7, gA_8, gA_9, gA_10, gA_11, gA_12, gA_13, gA_14, gA_15, p1_0, p1_1, p1_2, p1_3, p1_4, p1_5, p1_6, p1_7, p1_8, p1_9, p1_10, p1_11, p1_12, p1_13, p1_14, p1_15, p2_0, p2_1, p2_2, p2_3, p2_4, p2_5, p2_6, p2_7, p2_8, p2_9, p2_10, p2_11, p2_12, p2_13, p2_14, p2_15, km, bk1.2.1, bk1.2.2.1, bk1.2.2.2, s1, s2, s3, s4, s5, ix_nI u1, ix_nI u2, ix_nI u3, ix_nI u4, ix_nI u5, nI_pos' u1, nI_pos' u2, nI_pos' u3, nI_pos' u4, nI_pos' u5, v1, v2, v3, v4, v5]
    refine n_knownIn M1.1 gS.1 gS.2 (fun y2 e2 n2 => ?_) fun e2 => absurd (e.symm.trans e2) y0
    obtain rfl := e.symm.trans e2
    simp only [s268_616, s268_619, oB_some, cl2_i, cl2_r, cl2_l, cl2_u, cl2_s, wd_0, wd_i, wd_r, wd_l, wd_f, ct_i, ct_r, ct_n, ct_f, rf_s, rf_n, tl_s, tl_n, true_and, and_true, eq_self, and_self, Nat.reduceAdd, Nat.reduceLeDiff, Nat.zero_le, Nat.reduceEqDiff, or_true, true_or, false_or, or_false, if_true, if_false, gI_0, gI_1, gI_2, gI_3, gI_4, gI_5, gI_6, gI_7, gI_8, gI_9, gI_10, gI_11, gI_12, gI_13, gI_14, gI_15, gL_0, gL_1, gL_2, gL_3, gL_4, gL_5, gL_6, gL_7, gL_8, gL_9, gL_10, gL_11, gL_12, gL_13, gL_14, gL_15, gA_0, gA_1, gA_2, gA_3, gA_4, gA_5, gA_6, gA_7, gA_8, gA_9, gA_10, gA_11, gA_12, gA_13, gA_14, gA_15, p1_0, p1_1, p1_2, p1_3, p1_4, p1_5, p1_6, p1_7, p1_8, p1_9, p1_10, p1_11, p1_12, p1_13, p1_14, p1_15, p2_0, p2_1, p2_2, p2_3, p2_4, p2_5, p2_6, p2_7, p2_8, p2_9, p2_10, p2_11, p2_12, p2_13, p2_14, p2_15, b01_ok, b_ft, b_tf, b01_e0, b01_e1, lgc_0, not_true_eq_false, not_false_eq_true]
    rw [eh]
    exact nx _ _ _ _ _ _ _ _ _ (by omega) (by omega) (a.refuse y)
  · skip
    have fa1 : FA x h h1 := f1.fa (by omega) (by omega)
    have bk1 := bk1.fa fa1
    have M1 := M.fa gH fa1
    have km : hkd h1 (x + 34) = 16 := M1.1.1.1.1.1
    simp only [s268_602, s268_603, s268_604, s268_605, s268_606, s268_607, s268_608, s268_609, s268_610, s268_611, s268_612, s268_613, oB_some, cl2_i, cl2_r, cl2_l, cl2_u, cl2_s, wd_0, wd_i, wd_r, wd_l, wd_f, ct_i, ct_r, ct_n, ct_f, rf_s, rf_n, tl_s, tl_n, true_and, and_true, eq_self, and_self, Nat.reduceAdd, Nat.reduceLeDiff, Nat.zero_le, Nat.reduceEqDiff, or_true, true_or, false_or, or_false, if_true, if_false, gI_0, gI_1, gI_2, gI_3, gI_4, gI_5, gI_6, gI_7, gI_8, gI_9, gI_10, gI_11, gI_12, gI_13, gI_14, gI_15, gL_0, gL_1, gL_2, gL_3, gL_4, gL_5, gL_6, gL_7, gL_8, gL_9, gL_10, gL_11, gL_12, gL_13, gL_14, gL_15, gA_0, gA_1, gA_2, gA_3, gA_4, gA_5, gA_6, gA_7, gA_8, gA_9, gA_10, gA_11, gA_12, gA_13, gA_14, gA_15, p1_0, p1_1, p1_2, p1_3, p1_4, p1_5, p1_6, p1_7, p1_8, p1_9, p1_10, p1_11, p1_12, p1_13, p1_14, p1_15, p2_0, p2_1, p2_2, p2_3, p2_4, p2_5, p2_6, p2_7, p2_8, p2_9, p2_10, p2_11, p2_12, p2_13, p2_14, p2_15, km, bk1.2.1, bk1.2.2.1, bk1.2.2.2, s1, s2, s3, s4, s5, ix_nI u1, ix_nI u2, ix_nI u3, ix_nI u4, ix_nI u5, nI_pos' u1, nI_pos' u2, nI_pos' u3, nI_pos' u4, nI_pos' u5, v1, v2, v3, v4, v5]
    refine n_knownIn M1.1 gS.1 gS.2 (fun y2 e2 n2 => absurd (e2.symm.trans e) n2) fun _ h2 f2 M2 => ?_
    simp only [s268_616, s268_619, oB_some, cl2_i, cl2_r, cl2_l, cl2_u, cl2_s, wd_0, wd_i, wd_r, wd_l, wd_f, ct_i, ct_r, ct_n, ct_f, rf_s, rf_n, tl_s, tl_n, true_and, and_true, eq_self, and_self, Nat.reduceAdd, Nat.reduceLeDiff, Nat.zero_le, Nat.reduceEqDiff, or_true, true_or, false_or, or_false, if_true, if_false, gI_0, gI_1, gI_2, gI_3, gI_4, gI_5, gI_6, gI_7, gI_8, gI_9, gI_10, gI_11, gI_12, gI_13, gI_14, gI_15, gL_0, gL_1, gL_2, gL_3, gL_4, gL_5, gL_6, gL_7, gL_8, gL_9, gL_10, gL_11, gL_12, gL_13, gL_14, gL_15, gA_0, gA_1, gA_2, gA_3, gA_4, gA_5, gA_6, gA_7, gA_8, gA_9, gA_10, gA_11, gA_12, gA_13, gA_14, gA_15, p1_0, p1_1, p1_2, p1_3, p1_4, p1_5, p1_6, p1_7, p1_8, p1_9, p1_10, p1_11, p1_12, p1_13, p1_14, p1_15, p2_0, p2_1, p2_2, p2_3, p2_4, p2_5, p2_6, p2_7, p2_8, p2_9, p2_10, p2_11, p2_12, p2_13, p2_14, p2_15, b01_ok, b_ft, b_tf, b01_e0, b01_e1, lgc_0, not_true_eq_false, not_false_eq_true]
    exact nx _ _ _ _ _ _ _ _ _ (by omega) (by omega) (a.ask f1 f2 M2)
set_option maxHeartbeats 4000000 in
theorem lc_then {b L x tl len i c s : Nat} {xs : Nat → Int32} {h : HP} {tp r : Nat → Nat} {S : VS} {H : HS} {Q : PQ} (a : LI b L xs h x S H tp tl r len) (hi : i + 6 ≤ L) (hL : L ≤ 3072) (hc : 12 ≤ c) (hs : 172 ≤ s)
    (nx : ∀ h' S' H' tp' tl' r' len' c' s', c ≤ c' + 12 → s ≤ s' + 172 → LI b L xs h' x S' H' tp' tl' r' len' → WP 11 268 Q (1434, [.val (.ref b), .val (.ref x), .val (.ref (x + 34)), .val (.int (nI i))], [], h', c', s')) : WP 11 268 Q (621, [.val (.ref b), .val (.ref x), .val (.ref (x + 34)), .val (.int (nI i))], [], h, c, s) := by
  have a0 := a
  obtain ⟨C, M, ⟨gS, gH⟩, rf, bk⟩ := a0
  have bk1 : SKb b L xs x h := bk
  have s1 : nI i + 1 = nI (i + 1) := nI_add i 1
  have s2 : nI i + 2 = nI (i + 2) := nI_add i 2
  have s3 : nI i + 3 = nI (i + 3) := nI_add i 3
  have s4 : nI i + 4 = nI (i + 4) := nI_add i 4
  have s5 : nI i + 5 = nI (i + 5) := nI_add i 5
  have u1 : i + 1 < 2 ^ 31 := by omega
  have u2 : i + 2 < 2 ^ 31 := by omega
  have u3 : i + 3 < 2 ^ 31 := by omega
  have u4 : i + 4 < 2 ^ 31 := by omega
  have u5 : i + 5 < 2 ^ 31 := by omega
  have v1 : i + 1 < L := by omega
  have v2 : i + 2 < L := by omega
  have v3 : i + 3 < L := by omega
  have v4 : i + 4 < L := by omega
  have v5 : i + 5 < L := by omega
  have kx : hkd h x = 15 := C.1.1.1.1
  simp only [s268_621, s268_622, s268_623, s268_624, s268_625, s268_626, s268_627, s268_628, s268_629, s268_630, s268_631, s268_632, oB_some, cl2_i, cl2_r, cl2_l, cl2_u, cl2_s, wd_0, wd_i, wd_r, wd_l, wd_f, ct_i, ct_r, ct_n, ct_f, rf_s, rf_n, tl_s, tl_n, true_and, and_true, eq_self, and_self, Nat.reduceAdd, Nat.reduceLeDiff, Nat.zero_le, Nat.reduceEqDiff, or_true, true_or, false_or, or_false, if_true, if_false, gI_0, gI_1, gI_2, gI_3, gI_4, gI_5, gI_6, gI_7, gI_8, gI_9, gI_10, gI_11, gI_12, gI_13, gI_14, gI_15, gL_0, gL_1, gL_2, gL_3, gL_4, gL_5, gL_6, gL_7, gL_8, gL_9, gL_10, gL_11, gL_12, gL_13, gL_14, gL_15, gA_0, gA_1, gA_2, gA_3, gA_4, gA_5, gA_6, gA_7, gA_8, gA_9, gA_10, gA_11, gA_12, gA_13, gA_14, gA_15, p1_0, p1_1, p1_2, p1_3, p1_4, p1_5, p1_6, p1_7, p1_8, p1_9, p1_10, p1_11, p1_12, p1_13, p1_14, p1_15, p2_0, p2_1, p2_2, p2_3, p2_4, p2_5, p2_6, p2_7, p2_8, p2_9, p2_10, p2_11, p2_12, p2_13, p2_14, p2_15, kx, bk1.2.1, bk1.2.2.1, bk1.2.2.2, s1, s2, s3, s4, s5, ix_nI u1, ix_nI u2, ix_nI u3, ix_nI u4, ix_nI u5, nI_pos' u1, nI_pos' u2, nI_pos' u3, nI_pos' u4, nI_pos' u5, v1, v2, v3, v4, v5]
  refine x_then C.1 gS.1 gS.2 (fun y e y0 => ?_) fun e h1 f1 => ?_
  · obtain ⟨h1, eh⟩ : ∃ z, z = RfC h x y := ⟨_, rfl⟩
    have fa1 : FA x h h1 := by rw [eh]; exact RfC.fa
    rw [← eh]
    have bk1 := bk1.fa fa1
    have M1 := M.fa gH fa1
    have km : hkd h1 (x + 34) = 16 := M1.1.1.1.1.1
    simp only [s268_635, s268_636, s268_637, s268_638, s268_639, s268_640, s268_641, s268_642, s268_643, s268_644, s268_645, s268_646, oB_some, cl2_i, cl2_r, cl2_l, cl2_u, cl2_s, wd_0, wd_i, wd_r, wd_l, wd_f, ct_i, ct_r, ct_n, ct_f, rf_s, rf_n, tl_s, tl_n, true_and, and_true, eq_self, and_self, Nat.reduceAdd, Nat.reduceLeDiff, Nat.zero_le, Nat.reduceEqDiff, or_true, true_or, false_or, or_false, if_true, if_false, gI_0, gI_1, gI_2, gI_3, gI_4, gI_5, gI_6, gI_7, gI_8, gI_9, gI_10, gI_11, gI_12, gI_13, gI_14, gI_15, gL_0, gL_1, gL_2, gL_3, gL_4, gL_5, gL_6, gL_7, gL_8, gL_9, gL_10, gL_11, gL_12, gL_13, gL_14, gL_15, gA_0, gA_1, gA_2, gA_3, gA_4, gA_5, gA_6, gA_7, gA_8, gA_9, gA_10, gA_11, gA_12, gA_13, gA_14, gA_15, p1_0, p1_1, p1_2, p1_3, p1_4, p1_5, p1_6, p1_7, p1_8, p1_9, p1_10, p1_11, p1_12, p1_13, p1_14, p1_15, p2_0, p2_1, p2_2, p2_3, p2_4, p2_5, p2_6, p2_7, p2_8, p2_9, p2_10, p2_11, p2_12, p2_13, p2_14, p2_15, km, bk1.2.1, bk1.2.2.1, bk1.2.2.2, s1, s2, s3, s4, s5, ix_nI u1, ix_nI u2, ix_nI u3, ix_nI u4, ix_nI u5, nI_pos' u1, nI_pos' u2, nI_pos' u3, nI_pos' u4, nI_pos' u5, v1, v2, v3, v4, v5]
    refine n_then M1.1 gS.1 gS.2 (fun y2 e2 n2 => ?_) fun e2 => absurd (e.symm.trans e2) y0
    obtain rfl := e.symm.trans e2
    simp only [s268_649, s268_652, oB_some, cl2_i, cl2_r, cl2_l, cl2_u, cl2_s, wd_0, wd_i, wd_r, wd_l, wd_f, ct_i, ct_r, ct_n, ct_f, rf_s, rf_n, tl_s, tl_n, true_and, and_true, eq_self, and_self, Nat.reduceAdd, Nat.reduceLeDiff, Nat.zero_le, Nat.reduceEqDiff, or_true, true_or, false_or, or_false, if_true, if_false, gI_0, gI_1, gI_2, gI_3, gI_4, gI_5, gI_6, gI_7, gI_8, gI_9, gI_10, gI_11, gI_12, gI_13, gI_14, gI_15, gL_0, gL_1, gL_2, gL_3, gL_4, gL_5, gL_6, gL_7, gL_8, gL_9, gL_10, gL_11, gL_12, gL_13, gL_14, gL_15, gA_0, gA_1, gA_2, gA_3, gA_4, gA_5, gA_6, gA_7, gA_8, gA_9, gA_10, gA_11, gA_12, gA_13, gA_14, gA_15, p1_0, p1_1, p1_2, p1_3, p1_4, p1_5, p1_6, p1_7, p1_8, p1_9, p1_10, p1_11, p1_12, p1_13, p1_14, p1_15, p2_0, p2_1, p2_2, p2_3, p2_4, p2_5, p2_6, p2_7, p2_8, p2_9, p2_10, p2_11, p2_12, p2_13, p2_14, p2_15, b01_ok, b_ft, b_tf, b01_e0, b01_e1, lgc_0, not_true_eq_false, not_false_eq_true]
    rw [eh]
    exact nx _ _ _ _ _ _ _ _ _ (by omega) (by omega) (a.refuse y)
  · skip
    have fa1 : FA x h h1 := f1.fa (by omega) (by omega)
    have bk1 := bk1.fa fa1
    have M1 := M.fa gH fa1
    have km : hkd h1 (x + 34) = 16 := M1.1.1.1.1.1
    simp only [s268_635, s268_636, s268_637, s268_638, s268_639, s268_640, s268_641, s268_642, s268_643, s268_644, s268_645, s268_646, oB_some, cl2_i, cl2_r, cl2_l, cl2_u, cl2_s, wd_0, wd_i, wd_r, wd_l, wd_f, ct_i, ct_r, ct_n, ct_f, rf_s, rf_n, tl_s, tl_n, true_and, and_true, eq_self, and_self, Nat.reduceAdd, Nat.reduceLeDiff, Nat.zero_le, Nat.reduceEqDiff, or_true, true_or, false_or, or_false, if_true, if_false, gI_0, gI_1, gI_2, gI_3, gI_4, gI_5, gI_6, gI_7, gI_8, gI_9, gI_10, gI_11, gI_12, gI_13, gI_14, gI_15, gL_0, gL_1, gL_2, gL_3, gL_4, gL_5, gL_6, gL_7, gL_8, gL_9, gL_10, gL_11, gL_12, gL_13, gL_14, gL_15, gA_0, gA_1, gA_2, gA_3, gA_4, gA_5, gA_6, gA_7, gA_8, gA_9, gA_10, gA_11, gA_12, gA_13, gA_14, gA_15, p1_0, p1_1, p1_2, p1_3, p1_4, p1_5, p1_6, p1_7, p1_8, p1_9, p1_10, p1_11, p1_12, p1_13, p1_14, p1_15, p2_0, p2_1, p2_2, p2_3, p2_4, p2_5, p2_6, p2_7, p2_8, p2_9, p2_10, p2_11, p2_12, p2_13, p2_14, p2_15, km, bk1.2.1, bk1.2.2.1, bk1.2.2.2, s1, s2, s3, s4, s5, ix_nI u1, ix_nI u2, ix_nI u3, ix_nI u4, ix_nI u5, nI_pos' u1, nI_pos' u2, nI_pos' u3, nI_pos' u4, nI_pos' u5, v1, v2, v3, v4, v5]
    refine n_then M1.1 gS.1 gS.2 (fun y2 e2 n2 => absurd (e2.symm.trans e) n2) fun _ h2 f2 M2 => ?_
    simp only [s268_649, s268_652, oB_some, cl2_i, cl2_r, cl2_l, cl2_u, cl2_s, wd_0, wd_i, wd_r, wd_l, wd_f, ct_i, ct_r, ct_n, ct_f, rf_s, rf_n, tl_s, tl_n, true_and, and_true, eq_self, and_self, Nat.reduceAdd, Nat.reduceLeDiff, Nat.zero_le, Nat.reduceEqDiff, or_true, true_or, false_or, or_false, if_true, if_false, gI_0, gI_1, gI_2, gI_3, gI_4, gI_5, gI_6, gI_7, gI_8, gI_9, gI_10, gI_11, gI_12, gI_13, gI_14, gI_15, gL_0, gL_1, gL_2, gL_3, gL_4, gL_5, gL_6, gL_7, gL_8, gL_9, gL_10, gL_11, gL_12, gL_13, gL_14, gL_15, gA_0, gA_1, gA_2, gA_3, gA_4, gA_5, gA_6, gA_7, gA_8, gA_9, gA_10, gA_11, gA_12, gA_13, gA_14, gA_15, p1_0, p1_1, p1_2, p1_3, p1_4, p1_5, p1_6, p1_7, p1_8, p1_9, p1_10, p1_11, p1_12, p1_13, p1_14, p1_15, p2_0, p2_1, p2_2, p2_3, p2_4, p2_5, p2_6, p2_7, p2_8, p2_9, p2_10, p2_11, p2_12, p2_13, p2_14, p2_15, b01_ok, b_ft, b_tf, b01_e0, b01_e1, lgc_0, not_true_eq_false, not_false_eq_true]
    exact nx _ _ _ _ _ _ _ _ _ (by omega) (by omega) (a.ask f1 f2 M2)
set_option maxHeartbeats 4000000 in
theorem lc_when {b L x tl len i c s : Nat} {xs : Nat → Int32} {h : HP} {tp r : Nat → Nat} {S : VS} {H : HS} {Q : PQ} (a : LI b L xs h x S H tp tl r len) (hi : i + 6 ≤ L) (hL : L ≤ 3072) (hc : 12 ≤ c) (hs : 172 ≤ s)
    (nx : ∀ h' S' H' tp' tl' r' len' c' s', c ≤ c' + 12 → s ≤ s' + 172 → LI b L xs h' x S' H' tp' tl' r' len' → WP 11 268 Q (1434, [.val (.ref b), .val (.ref x), .val (.ref (x + 34)), .val (.int (nI i))], [], h', c', s')) : WP 11 268 Q (654, [.val (.ref b), .val (.ref x), .val (.ref (x + 34)), .val (.int (nI i))], [], h, c, s) := by
  have a0 := a
  obtain ⟨C, M, ⟨gS, gH⟩, rf, bk⟩ := a0
  have bk1 : SKb b L xs x h := bk
  have s1 : nI i + 1 = nI (i + 1) := nI_add i 1
  have s2 : nI i + 2 = nI (i + 2) := nI_add i 2
  have s3 : nI i + 3 = nI (i + 3) := nI_add i 3
  have s4 : nI i + 4 = nI (i + 4) := nI_add i 4
  have s5 : nI i + 5 = nI (i + 5) := nI_add i 5
  have u1 : i + 1 < 2 ^ 31 := by omega
  have u2 : i + 2 < 2 ^ 31 := by omega
  have u3 : i + 3 < 2 ^ 31 := by omega
  have u4 : i + 4 < 2 ^ 31 := by omega
  have u5 : i + 5 < 2 ^ 31 := by omega
  have v1 : i + 1 < L := by omega
  have v2 : i + 2 < L := by omega
  have v3 : i + 3 < L := by omega
  have v4 : i + 4 < L := by omega
  have v5 : i + 5 < L := by omega
  have kx : hkd h x = 15 := C.1.1.1.1
  simp only [s268_654, s268_655, s268_656, s268_657, s268_658, s268_659, s268_660, s268_661, s268_662, s268_663, s268_664, s268_665, oB_some, cl2_i, cl2_r, cl2_l, cl2_u, cl2_s, wd_0, wd_i, wd_r, wd_l, wd_f, ct_i, ct_r, ct_n, ct_f, rf_s, rf_n, tl_s, tl_n, true_and, and_true, eq_self, and_self, Nat.reduceAdd, Nat.reduceLeDiff, Nat.zero_le, Nat.reduceEqDiff, or_true, true_or, false_or, or_false, if_true, if_false, gI_0, gI_1, gI_2, gI_3, gI_4, gI_5, gI_6, gI_7, gI_8, gI_9, gI_10, gI_11, gI_12, gI_13, gI_14, gI_15, gL_0, gL_1, gL_2, gL_3, gL_4, gL_5, gL_6, gL_7, gL_8, gL_9, gL_10, gL_11, gL_12, gL_13, gL_14, gL_15, gA_0, gA_1, gA_2, gA_3, gA_4, gA_5, gA_6, gA_7, gA_8, gA_9, gA_10, gA_11, gA_12, gA_13, gA_14, gA_15, p1_0, p1_1, p1_2, p1_3, p1_4, p1_5, p1_6, p1_7, p1_8, p1_9, p1_10, p1_11, p1_12, p1_13, p1_14, p1_15, p2_0, p2_1, p2_2, p2_3, p2_4, p2_5, p2_6, p2_7, p2_8, p2_9, p2_10, p2_11, p2_12, p2_13, p2_14, p2_15, kx, bk1.2.1, bk1.2.2.1, bk1.2.2.2, s1, s2, s3, s4, s5, ix_nI u1, ix_nI u2, ix_nI u3, ix_nI u4, ix_nI u5, nI_pos' u1, nI_pos' u2, nI_pos' u3, nI_pos' u4, nI_pos' u5, v1, v2, v3, v4, v5]
  refine x_when C.1 gS.1 gS.2 (fun y e y0 => ?_) fun e h1 f1 => ?_
  · obtain ⟨h1, eh⟩ : ∃ z, z = RfC h x y := ⟨_, rfl⟩
    have fa1 : FA x h h1 := by rw [eh]; exact RfC.fa
    rw [← eh]
    have bk1 := bk1.fa fa1
    have M1 := M.fa gH fa1
    have km : hkd h1 (x + 34) = 16 := M1.1.1.1.1.1
    simp only [s268_668, s268_669, s268_670, s268_671, s268_672, s268_673, s268_674, s268_675, s268_676, s268_677, s268_678, s268_679, oB_some, cl2_i, cl2_r, cl2_l, cl2_u, cl2_s, wd_0, wd_i, wd_r, wd_l, wd_f, ct_i, ct_r, ct_n, ct_f, rf_s, rf_n, tl_s, tl_n, true_and, and_true, eq_self, and_self, Nat.reduceAdd, Nat.reduceLeDiff, Nat.zero_le, Nat.reduceEqDiff, or_true, true_or, false_or, or_false, if_true, if_false, gI_0, gI_1, gI_2, gI_3, gI_4, gI_5, gI_6, gI_7, gI_8, gI_9, gI_10, gI_11, gI_12, gI_13, gI_14, gI_15, gL_0, gL_1, gL_2, gL_3, gL_4, gL_5, gL_6, gL_7, gL_8, gL_9, gL_10, gL_11, gL_12, gL_13, gL_14, gL_15, gA_0, gA_1, gA_2, gA_3, gA_4, gA_5, gA_6, gA_7, gA_8, gA_9, gA_10, gA_11, gA_12, gA_13, gA_14, gA_15, p1_0, p1_1, p1_2, p1_3, p1_4, p1_5, p1_6, p1_7, p1_8, p1_9, p1_10, p1_11, p1_12, p1_13, p1_14, p1_15, p2_0, p2_1, p2_2, p2_3, p2_4, p2_5, p2_6, p2_7, p2_8, p2_9, p2_10, p2_11, p2_12, p2_13, p2_14, p2_15, km, bk1.2.1, bk1.2.2.1, bk1.2.2.2, s1, s2, s3, s4, s5, ix_nI u1, ix_nI u2, ix_nI u3, ix_nI u4, ix_nI u5, nI_pos' u1, nI_pos' u2, nI_pos' u3, nI_pos' u4, nI_pos' u5, v1, v2, v3, v4, v5]
    refine n_when M1.1 gS.1 gS.2 (fun y2 e2 n2 => ?_) fun e2 => absurd (e.symm.trans e2) y0
    obtain rfl := e.symm.trans e2
    simp only [s268_682, s268_685, oB_some, cl2_i, cl2_r, cl2_l, cl2_u, cl2_s, wd_0, wd_i, wd_r, wd_l, wd_f, ct_i, ct_r, ct_n, ct_f, rf_s, rf_n, tl_s, tl_n, true_and, and_true, eq_self, and_self, Nat.reduceAdd, Nat.reduceLeDiff, Nat.zero_le, Nat.reduceEqDiff, or_true, true_or, false_or, or_false, if_true, if_false, gI_0, gI_1, gI_2, gI_3, gI_4, gI_5, gI_6, gI_7, gI_8, gI_9, gI_10, gI_11, gI_12, gI_13, gI_14, gI_15, gL_0, gL_1, gL_2, gL_3, gL_4, gL_5, gL_6, gL_7, gL_8, gL_9, gL_10, gL_11, gL_12, gL_13, gL_14, gL_15, gA_0, gA_1, gA_2, gA_3, gA_4, gA_5, gA_6, gA_7, gA_8, gA_9, gA_10, gA_11, gA_12, gA_13, gA_14, gA_15, p1_0, p1_1, p1_2, p1_3, p1_4, p1_5, p1_6, p1_7, p1_8, p1_9, p1_10, p1_11, p1_12, p1_13, p1_14, p1_15, p2_0, p2_1, p2_2, p2_3, p2_4, p2_5, p2_6, p2_7, p2_8, p2_9, p2_10, p2_11, p2_12, p2_13, p2_14, p2_15, b01_ok, b_ft, b_tf, b01_e0, b01_e1, lgc_0, not_true_eq_false, not_false_eq_true]
    rw [eh]
    exact nx _ _ _ _ _ _ _ _ _ (by omega) (by omega) (a.refuse y)
  · skip
    have fa1 : FA x h h1 := f1.fa (by omega) (by omega)
    have bk1 := bk1.fa fa1
    have M1 := M.fa gH fa1
    have km : hkd h1 (x + 34) = 16 := M1.1.1.1.1.1
    simp only [s268_668, s268_669, s268_670, s268_671, s268_672, s268_673, s268_674, s268_675, s268_676, s268_677, s268_678, s268_679, oB_some, cl2_i, cl2_r, cl2_l, cl2_u, cl2_s, wd_0, wd_i, wd_r, wd_l, wd_f, ct_i, ct_r, ct_n, ct_f, rf_s, rf_n, tl_s, tl_n, true_and, and_true, eq_self, and_self, Nat.reduceAdd, Nat.reduceLeDiff, Nat.zero_le, Nat.reduceEqDiff, or_true, true_or, false_or, or_false, if_true, if_false, gI_0, gI_1, gI_2, gI_3, gI_4, gI_5, gI_6, gI_7, gI_8, gI_9, gI_10, gI_11, gI_12, gI_13, gI_14, gI_15, gL_0, gL_1, gL_2, gL_3, gL_4, gL_5, gL_6, gL_7, gL_8, gL_9, gL_10, gL_11, gL_12, gL_13, gL_14, gL_15, gA_0, gA_1, gA_2, gA_3, gA_4, gA_5, gA_6, gA_7, gA_8, gA_9, gA_10, gA_11, gA_12, gA_13, gA_14, gA_15, p1_0, p1_1, p1_2, p1_3, p1_4, p1_5, p1_6, p1_7, p1_8, p1_9, p1_10, p1_11, p1_12, p1_13, p1_14, p1_15, p2_0, p2_1, p2_2, p2_3, p2_4, p2_5, p2_6, p2_7, p2_8, p2_9, p2_10, p2_11, p2_12, p2_13, p2_14, p2_15, km, bk1.2.1, bk1.2.2.1, bk1.2.2.2, s1, s2, s3, s4, s5, ix_nI u1, ix_nI u2, ix_nI u3, ix_nI u4, ix_nI u5, nI_pos' u1, nI_pos' u2, nI_pos' u3, nI_pos' u4, nI_pos' u5, v1, v2, v3, v4, v5]
    refine n_when M1.1 gS.1 gS.2 (fun y2 e2 n2 => absurd (e2.symm.trans e) n2) fun _ h2 f2 M2 => ?_
    simp only [s268_682, s268_685, oB_some, cl2_i, cl2_r, cl2_l, cl2_u, cl2_s, wd_0, wd_i, wd_r, wd_l, wd_f, ct_i, ct_r, ct_n, ct_f, rf_s, rf_n, tl_s, tl_n, true_and, and_true, eq_self, and_self, Nat.reduceAdd, Nat.reduceLeDiff, Nat.zero_le, Nat.reduceEqDiff, or_true, true_or, false_or, or_false, if_true, if_false, gI_0, gI_1, gI_2, gI_3, gI_4, gI_5, gI_6, gI_7, gI_8, gI_9, gI_10, gI_11, gI_12, gI_13, gI_14, gI_15, gL_0, gL_1, gL_2, gL_3, gL_4, gL_5, gL_6, gL_7, gL_8, gL_9, gL_10, gL_11, gL_12, gL_13, gL_14, gL_15, gA_0, gA_1, gA_2, gA_3, gA_4, gA_5, gA_6, gA_7, gA_8, gA_9, gA_10, gA_11, gA_12, gA_13, gA_14, gA_15, p1_0, p1_1, p1_2, p1_3, p1_4, p1_5, p1_6, p1_7, p1_8, p1_9, p1_10, p1_11, p1_12, p1_13, p1_14, p1_15, p2_0, p2_1, p2_2, p2_3, p2_4, p2_5, p2_6, p2_7, p2_8, p2_9, p2_10, p2_11, p2_12, p2_13, p2_14, p2_15, b01_ok, b_ft, b_tf, b01_e0, b01_e1, lgc_0, not_true_eq_false, not_false_eq_true]
    exact nx _ _ _ _ _ _ _ _ _ (by omega) (by omega) (a.ask f1 f2 M2)
set_option maxHeartbeats 4000000 in
theorem lc_first {b L x tl len i c s : Nat} {xs : Nat → Int32} {h : HP} {tp r : Nat → Nat} {S : VS} {H : HS} {Q : PQ} (a : LI b L xs h x S H tp tl r len) (hi : i + 6 ≤ L) (hL : L ≤ 3072) (hc : 12 ≤ c) (hs : 172 ≤ s)
    (nx : ∀ h' S' H' tp' tl' r' len' c' s', c ≤ c' + 12 → s ≤ s' + 172 → LI b L xs h' x S' H' tp' tl' r' len' → WP 11 268 Q (1434, [.val (.ref b), .val (.ref x), .val (.ref (x + 34)), .val (.int (nI i))], [], h', c', s')) : WP 11 268 Q (687, [.val (.ref b), .val (.ref x), .val (.ref (x + 34)), .val (.int (nI i))], [], h, c, s) := by
  have a0 := a
  obtain ⟨C, M, ⟨gS, gH⟩, rf, bk⟩ := a0
  have bk1 : SKb b L xs x h := bk
  have s1 : nI i + 1 = nI (i + 1) := nI_add i 1
  have s2 : nI i + 2 = nI (i + 2) := nI_add i 2
  have s3 : nI i + 3 = nI (i + 3) := nI_add i 3
  have s4 : nI i + 4 = nI (i + 4) := nI_add i 4
  have s5 : nI i + 5 = nI (i + 5) := nI_add i 5
  have u1 : i + 1 < 2 ^ 31 := by omega
  have u2 : i + 2 < 2 ^ 31 := by omega
  have u3 : i + 3 < 2 ^ 31 := by omega
  have u4 : i + 4 < 2 ^ 31 := by omega
  have u5 : i + 5 < 2 ^ 31 := by omega
  have v1 : i + 1 < L := by omega
  have v2 : i + 2 < L := by omega
  have v3 : i + 3 < L := by omega
  have v4 : i + 4 < L := by omega
  have v5 : i + 5 < L := by omega
  have kx : hkd h x = 15 := C.1.1.1.1
  simp only [s268_687, s268_688, s268_689, s268_690, s268_691, s268_692, s268_693, oB_some, cl2_i, cl2_r, cl2_l, cl2_u, cl2_s, wd_0, wd_i, wd_r, wd_l, wd_f, ct_i, ct_r, ct_n, ct_f, rf_s, rf_n, tl_s, tl_n, true_and, and_true, eq_self, and_self, Nat.reduceAdd, Nat.reduceLeDiff, Nat.zero_le, Nat.reduceEqDiff, or_true, true_or, false_or, or_false, if_true, if_false, gI_0, gI_1, gI_2, gI_3, gI_4, gI_5, gI_6, gI_7, gI_8, gI_9, gI_10, gI_11, gI_12, gI_13, gI_14, gI_15, gL_0, gL_1, gL_2, gL_3, gL_4, gL_5, gL_6, gL_7, gL_8, gL_9, gL_10, gL_11, gL_12, gL_13, gL_14, gL_15, gA_0, gA_1, gA_2, gA_3, gA_4, gA_5, gA_6, gA_7, gA_8, gA_9, gA_10, gA_11, gA_12, gA_13, gA_14, gA_15, p1_0, p1_1, p1_2, p1_3, p1_4, p1_5, p1_6, p1_7, p1_8, p1_9, p1_10, p1_11, p1_12, p1_13, p1_14, p1_15, p2_0, p2_1, p2_2, p2_3, p2_4, p2_5, p2_6, p2_7, p2_8, p2_9, p2_10, p2_11, p2_12, p2_13, p2_14, p2_15, kx, bk1.2.1, bk1.2.2.1, bk1.2.2.2, s1, s2, s3, s4, s5, ix_nI u1, ix_nI u2, ix_nI u3, ix_nI u4, ix_nI u5, nI_pos' u1, nI_pos' u2, nI_pos' u3, nI_pos' u4, nI_pos' u5, v1, v2, v3, v4, v5]
  refine x_first C.1 gS.1 gS.2 (fun y e y0 => ?_) fun e h1 f1 => ?_
  · obtain ⟨h1, eh⟩ : ∃ z, z = RfC h x y := ⟨_, rfl⟩
    have fa1 : FA x h h1 := by rw [eh]; exact RfC.fa
    rw [← eh]
    have bk1 := bk1.fa fa1
    have M1 := M.fa gH fa1
    have km : hkd h1 (x + 34) = 16 := M1.1.1.1.1.1
    simp only [s268_696, s268_697, s268_698, s268_699, s268_700, s268_701, s268_702, oB_some, cl2_i, cl2_r, cl2_l, cl2_u, cl2_s, wd_0, wd_i, wd_r, wd_l, wd_f, ct_i, ct_r, ct_n, ct_f, rf_s, rf_n, tl_s, tl_n, true_and, and_true, eq_self, and_self, Nat.reduceAdd, Nat.reduceLeDiff, Nat.zero_le, Nat.reduceEqDiff, or_true, true_or, false_or, or_false, if_true, if_false, gI_0, gI_1, gI_2, gI_3, gI_4, gI_5, gI_6, gI_7, gI_8, gI_9, gI_10, gI_11, gI_12, gI_13, gI_14, gI_15, gL_0, gL_1, gL_2, gL_3, gL_4, gL_5, gL_6, gL_7, gL_8, gL_9, gL_10, gL_11, gL_12, gL_13, gL_14, gL_15, gA_0, gA_1, gA_2, gA_3, gA_4, gA_5, gA_6, gA_7, gA_8, gA_9, gA_10, gA_11, gA_12, gA_13, gA_14, gA_15, p1_0, p1_1, p1_2, p1_3, p1_4, p1_5, p1_6, p1_7, p1_8, p1_9, p1_10, p1_11, p1_12, p1_13, p1_14, p1_15, p2_0, p2_1, p2_2, p2_3, p2_4, p2_5, p2_6, p2_7, p2_8, p2_9, p2_10, p2_11, p2_12, p2_13, p2_14, p2_15, km, bk1.2.1, bk1.2.2.1, bk1.2.2.2, s1, s2, s3, s4, s5, ix_nI u1, ix_nI u2, ix_nI u3, ix_nI u4, ix_nI u5, nI_pos' u1, nI_pos' u2, nI_pos' u3, nI_pos' u4, nI_pos' u5, v1, v2, v3, v4, v5]
    refine n_first M1.1 gS.1 gS.2 (fun y2 e2 n2 => ?_) fun e2 => absurd (e.symm.trans e2) y0
    obtain rfl := e.symm.trans e2
    simp only [s268_705, s268_708, oB_some, cl2_i, cl2_r, cl2_l, cl2_u, cl2_s, wd_0, wd_i, wd_r, wd_l, wd_f, ct_i, ct_r, ct_n, ct_f, rf_s, rf_n, tl_s, tl_n, true_and, and_true, eq_self, and_self, Nat.reduceAdd, Nat.reduceLeDiff, Nat.zero_le, Nat.reduceEqDiff, or_true, true_or, false_or, or_false, if_true, if_false, gI_0, gI_1, gI_2, gI_3, gI_4, gI_5, gI_6, gI_7, gI_8, gI_9, gI_10, gI_11, gI_12, gI_13, gI_14, gI_15, gL_0, gL_1, gL_2, gL_3, gL_4, gL_5, gL_6, gL_7, gL_8, gL_9, gL_10, gL_11, gL_12, gL_13, gL_14, gL_15, gA_0, gA_1, gA_2, gA_3, gA_4, gA_5, gA_6, gA_7, gA_8, gA_9, gA_10, gA_11, gA_12, gA_13, gA_14, gA_15, p1_0, p1_1, p1_2, p1_3, p1_4, p1_5, p1_6, p1_7, p1_8, p1_9, p1_10, p1_11, p1_12, p1_13, p1_14, p1_15, p2_0, p2_1, p2_2, p2_3, p2_4, p2_5, p2_6, p2_7, p2_8, p2_9, p2_10, p2_11, p2_12, p2_13, p2_14, p2_15, b01_ok, b_ft, b_tf, b01_e0, b01_e1, lgc_0, not_true_eq_false, not_false_eq_true]
    rw [eh]
    exact nx _ _ _ _ _ _ _ _ _ (by omega) (by omega) (a.refuse y)
  · skip
    have fa1 : FA x h h1 := f1.fa (by omega) (by omega)
    have bk1 := bk1.fa fa1
    have M1 := M.fa gH fa1
    have km : hkd h1 (x + 34) = 16 := M1.1.1.1.1.1
    simp only [s268_696, s268_697, s268_698, s268_699, s268_700, s268_701, s268_702, oB_some, cl2_i, cl2_r, cl2_l, cl2_u, cl2_s, wd_0, wd_i, wd_r, wd_l, wd_f, ct_i, ct_r, ct_n, ct_f, rf_s, rf_n, tl_s, tl_n, true_and, and_true, eq_self, and_self, Nat.reduceAdd, Nat.reduceLeDiff, Nat.zero_le, Nat.reduceEqDiff, or_true, true_or, false_or, or_false, if_true, if_false, gI_0, gI_1, gI_2, gI_3, gI_4, gI_5, gI_6, gI_7, gI_8, gI_9, gI_10, gI_11, gI_12, gI_13, gI_14, gI_15, gL_0, gL_1, gL_2, gL_3, gL_4, gL_5, gL_6, gL_7, gL_8, gL_9, gL_10, gL_11, gL_12, gL_13, gL_14, gL_15, gA_0, gA_1, gA_2, gA_3, gA_4, gA_5, gA_6, gA_7, gA_8, gA_9, gA_10, gA_11, gA_12, gA_13, gA_14, gA_15, p1_0, p1_1, p1_2, p1_3, p1_4, p1_5, p1_6, p1_7, p1_8, p1_9, p1_10, p1_11, p1_12, p1_13, p1_14, p1_15, p2_0, p2_1, p2_2, p2_3, p2_4, p2_5, p2_6, p2_7, p2_8, p2_9, p2_10, p2_11, p2_12, p2_13, p2_14, p2_15, km, bk1.2.1, bk1.2.2.1, bk1.2.2.2, s1, s2, s3, s4, s5, ix_nI u1, ix_nI u2, ix_nI u3, ix_nI u4, ix_nI u5, nI_pos' u1, nI_pos' u2, nI_pos' u3, nI_pos' u4, nI_pos' u5, v1, v2, v3, v4, v5]
    refine n_first M1.1 gS.1 gS.2 (fun y2 e2 n2 => absurd (e2.symm.trans e) n2) fun _ h2 f2 M2 => ?_
    simp only [s268_705, s268_708, oB_some, cl2_i, cl2_r, cl2_l, cl2_u, cl2_s, wd_0, wd_i, wd_r, wd_l, wd_f, ct_i, ct_r, ct_n, ct_f, rf_s, rf_n, tl_s, tl_n, true_and, and_true, eq_self, and_self, Nat.reduceAdd, Nat.reduceLeDiff, Nat.zero_le, Nat.reduceEqDiff, or_true, true_or, false_or, or_false, if_true, if_false, gI_0, gI_1, gI_2, gI_3, gI_4, gI_5, gI_6, gI_7, gI_8, gI_9, gI_10, gI_11, gI_12, gI_13, gI_14, gI_15, gL_0, gL_1, gL_2, gL_3, gL_4, gL_5, gL_6, gL_7, gL_8, gL_9, gL_10, gL_11, gL_12, gL_13, gL_14, gL_15, gA_0, gA_1, gA_2, gA_3, gA_4, gA_5, gA_6, gA_7, gA_8, gA_9, gA_10, gA_11, gA_12, gA_13, gA_14, gA_15, p1_0, p1_1, p1_2, p1_3, p1_4, p1_5, p1_6, p1_7, p1_8, p1_9, p1_10, p1_11, p1_12, p1_13, p1_14, p1_15, p2_0, p2_1, p2_2, p2_3, p2_4, p2_5, p2_6, p2_7, p2_8, p2_9, p2_10, p2_11, p2_12, p2_13, p2_14, p2_15, b01_ok, b_ft, b_tf, b01_e0, b01_e1, lgc_0, not_true_eq_false, not_false_eq_true]
    exact nx _ _ _ _ _ _ _ _ _ (by omega) (by omega) (a.ask f1 f2 M2)
set_option maxHeartbeats 4000000 in
theorem lc_letHer {b L x tl len i c s : Nat} {xs : Nat → Int32} {h : HP} {tp r : Nat → Nat} {S : VS} {H : HS} {Q : PQ} (a : LI b L xs h x S H tp tl r len) (hi : i + 6 ≤ L) (hL : L ≤ 3072) (hc : 12 ≤ c) (hs : 172 ≤ s)
    (nx : ∀ h' S' H' tp' tl' r' len' c' s', c ≤ c' + 12 → s ≤ s' + 172 → LI b L xs h' x S' H' tp' tl' r' len' → WP 11 268 Q (1434, [.val (.ref b), .val (.ref x), .val (.ref (x + 34)), .val (.int (nI i))], [], h', c', s')) : WP 11 268 Q (710, [.val (.ref b), .val (.ref x), .val (.ref (x + 34)), .val (.int (nI i))], [], h, c, s) := by
  have a0 := a
  obtain ⟨C, M, ⟨gS, gH⟩, rf, bk⟩ := a0
  have bk1 : SKb b L xs x h := bk
  have s1 : nI i + 1 = nI (i + 1) := nI_add i 1
  have s2 : nI i + 2 = nI (i + 2) := nI_add i 2
  have s3 : nI i + 3 = nI (i + 3) := nI_add i 3
  have s4 : nI i + 4 = nI (i + 4) := nI_add i 4
  have s5 : nI i + 5 = nI (i + 5) := nI_add i 5
  have u1 : i + 1 < 2 ^ 31 := by omega
  have u2 : i + 2 < 2 ^ 31 := by omega
  have u3 : i + 3 < 2 ^ 31 := by omega
  have u4 : i + 4 < 2 ^ 31 := by omega
  have u5 : i + 5 < 2 ^ 31 := by omega
  have v1 : i + 1 < L := by omega
  have v2 : i + 2 < L := by omega
  have v3 : i + 3 < L := by omega
  have v4 : i + 4 < L := by omega
  have v5 : i + 5 < L := by omega
  have kx : hkd h x = 15 := C.1.1.1.1
  simp only [s268_710, s268_711, s268_712, s268_713, s268_714, s268_715, s268_716, s268_717, s268_718, s268_719, s268_720, s268_721, s268_722, s268_723, s268_724, s268_725, s268_726, oB_some, cl2_i, cl2_r, cl2_l, cl2_u, cl2_s, wd_0, wd_i, wd_r, wd_l, wd_f, ct_i, ct_r, ct_n, ct_f, rf_s, rf_n, tl_s, tl_n, true_and, and_true, eq_self, and_self, Nat.reduceAdd, Nat.reduceLeDiff, Nat.zero_le, Nat.reduceEqDiff, or_true, true_or, false_or, or_false, if_true, if_false, gI_0, gI_1, gI_2, gI_3, gI_4, gI_5, gI_6, gI_7, gI_8, gI_9, gI_10, gI_11, gI_12, gI_13, gI_14, gI_15, gL_0, gL_1, gL_2, gL_3, gL_4, gL_5, gL_6, gL_7, gL_8, gL_9, gL_10, gL_11, gL_12, gL_13, gL_14, gL_15, gA_0, gA_1, gA_2, gA_3, gA_4, gA_5, gA_6, gA_7, gA_8, gA_9, gA_10, gA_11, gA_12, gA_13, gA_14, gA_15, p1_0, p1_1, p1_2, p1_3, p1_4, p1_5, p1_6, p1_7, p1_8, p1_9, p1_10, p1_11, p1_12, p1_13, p1_14, p1_15, p2_0, p2_1, p2_2, p2_3, p2_4, p2_5, p2_6, p2_7, p2_8, p2_9, p2_10, p2_11, p2_12, p2_13, p2_14, p2_15, kx, bk1.2.1, bk1.2.2.1, bk1.2.2.2, s1, s2, s3, s4, s5, ix_nI u1, ix_nI u2, ix_nI u3, ix_nI u4, ix_nI u5, nI_pos' u1, nI_pos' u2, nI_pos' u3, nI_pos' u4, nI_pos' u5, v1, v2, v3, v4, v5]
  refine x_letHer C.1 gS.1 gS.2 (fun y e y0 => ?_) fun e h1 f1 => ?_
  · obtain ⟨h1, eh⟩ : ∃ z, z = RfC h x y := ⟨_, rfl⟩
    have fa1 : FA x h h1 := by rw [eh]; exact RfC.fa
    rw [← eh]
    have bk1 := bk1.fa fa1
    have M1 := M.fa gH fa1
    have km : hkd h1 (x + 34) = 16 := M1.1.1.1.1.1
    simp only [s268_729, s268_730, s268_731, s268_732, s268_733, s268_734, s268_735, s268_736, s268_737, s268_738, s268_739, s268_740, s268_741, s268_742, s268_743, s268_744, s268_745, oB_some, cl2_i, cl2_r, cl2_l, cl2_u, cl2_s, wd_0, wd_i, wd_r, wd_l, wd_f, ct_i, ct_r, ct_n, ct_f, rf_s, rf_n, tl_s, tl_n, true_and, and_true, eq_self, and_self, Nat.reduceAdd, Nat.reduceLeDiff, Nat.zero_le, Nat.reduceEqDiff, or_true, true_or, false_or, or_false, if_true, if_false, gI_0, gI_1, gI_2, gI_3, gI_4, gI_5, gI_6, gI_7, gI_8, gI_9, gI_10, gI_11, gI_12, gI_13, gI_14, gI_15, gL_0, gL_1, gL_2, gL_3, gL_4, gL_5, gL_6, gL_7, gL_8, gL_9, gL_10, gL_11, gL_12, gL_13, gL_14, gL_15, gA_0, gA_1, gA_2, gA_3, gA_4, gA_5, gA_6, gA_7, gA_8, gA_9, gA_10, gA_11, gA_12, gA_13, gA_14, gA_15, p1_0, p1_1, p1_2, p1_3, p1_4, p1_5, p1_6, p1_7, p1_8, p1_9, p1_10, p1_11, p1_12, p1_13, p1_14, p1_15, p2_0, p2_1, p2_2, p2_3, p2_4, p2_5, p2_6, p2_7, p2_8, p2_9, p2_10, p2_11, p2_12, p2_13, p2_14, p2_15, km, bk1.2.1, bk1.2.2.1, bk1.2.2.2, s1, s2, s3, s4, s5, ix_nI u1, ix_nI u2, ix_nI u3, ix_nI u4, ix_nI u5, nI_pos' u1, nI_pos' u2, nI_pos' u3, nI_pos' u4, nI_pos' u5, v1, v2, v3, v4, v5]
    refine n_letHer M1.1 gS.1 gS.2 (fun y2 e2 n2 => ?_) fun e2 => absurd (e.symm.trans e2) y0
    obtain rfl := e.symm.trans e2
    simp only [s268_748, s268_751, oB_some, cl2_i, cl2_r, cl2_l, cl2_u, cl2_s, wd_0, wd_i, wd_r, wd_l, wd_f, ct_i, ct_r, ct_n, ct_f, rf_s, rf_n, tl_s, tl_n, true_and, and_true, eq_self, and_self, Nat.reduceAdd, Nat.reduceLeDiff, Nat.zero_le, Nat.reduceEqDiff, or_true, true_or, false_or, or_false, if_true, if_false, gI_0, gI_1, gI_2, gI_3, gI_4, gI_5, gI_6, gI_7, gI_8, gI_9, gI_10, gI_11, gI_12, gI_13, gI_14, gI_15, gL_0, gL_1, gL_2, gL_3, gL_4, gL_5, gL_6, gL_7, gL_8, gL_9, gL_10, gL_11, gL_12, gL_13, gL_14, gL_15, gA_0, gA_1, gA_2, gA_3, gA_4, gA_5, gA_6, gA_7, gA_8, gA_9, gA_10, gA_11, gA_12, gA_13, gA_14, gA_15, p1_0, p1_1, p1_2, p1_3, p1_4, p1_5, p1_6, p1_7, p1_8, p1_9, p1_10, p1_11, p1_12, p1_13, p1_14, p1_15, p2_0, p2_1, p2_2, p2_3, p2_4, p2_5, p2_6, p2_7, p2_8, p2_9, p2_10, p2_11, p2_12, p2_13, p2_14, p2_15, b01_ok, b_ft, b_tf, b01_e0, b01_e1, lgc_0, not_true_eq_false, not_false_eq_true]
    rw [eh]
    exact nx _ _ _ _ _ _ _ _ _ (by omega) (by omega) (a.refuse y)
  · skip
    have fa1 : FA x h h1 := f1.fa (by omega) (by omega)
    have bk1 := bk1.fa fa1
    have M1 := M.fa gH fa1
    have km : hkd h1 (x + 34) = 16 := M1.1.1.1.1.1
    simp only [s268_729, s268_730, s268_731, s268_732, s268_733, s268_734, s268_735, s268_736, s268_737, s268_738, s268_739, s268_740, s268_741, s268_742, s268_743, s268_744, s268_745, oB_some, cl2_i, cl2_r, cl2_l, cl2_u, cl2_s, wd_0, wd_i, wd_r, wd_l, wd_f, ct_i, ct_r, ct_n, ct_f, rf_s, rf_n, tl_s, tl_n, true_and, and_true, eq_self, and_self, Nat.reduceAdd, Nat.reduceLeDiff, Nat.zero_le, Nat.reduceEqDiff, or_true, true_or, false_or, or_false, if_true, if_false, gI_0, gI_1, gI_2, gI_3, gI_4, gI_5, gI_6, gI_7, gI_8, gI_9, gI_10, gI_11, gI_12, gI_13, gI_14, gI_15, gL_0, gL_1, gL_2, gL_3, gL_4, gL_5, gL_6, gL_7, gL_8, gL_9, gL_10, gL_11, gL_12, gL_13, gL_14, gL_15, gA_0, gA_1, gA_2, gA_3, gA_4, gA_5, gA_6, gA_7, gA_8, gA_9, gA_10, gA_11, gA_12, gA_13, gA_14, gA_15, p1_0, p1_1, p1_2, p1_3, p1_4, p1_5, p1_6, p1_7, p1_8, p1_9, p1_10, p1_11, p1_12, p1_13, p1_14, p1_15, p2_0, p2_1, p2_2, p2_3, p2_4, p2_5, p2_6, p2_7, p2_8, p2_9, p2_10, p2_11, p2_12, p2_13, p2_14, p2_15, km, bk1.2.1, bk1.2.2.1, bk1.2.2.2, s1, s2, s3, s4, s5, ix_nI u1, ix_nI u2, ix_nI u3, ix_nI u4, ix_nI u5, nI_pos' u1, nI_pos' u2, nI_pos' u3, nI_pos' u4, nI_pos' u5, v1, v2, v3, v4, v5]
    refine n_letHer M1.1 gS.1 gS.2 (fun y2 e2 n2 => absurd (e2.symm.trans e) n2) fun _ h2 f2 M2 => ?_
    simp only [s268_748, s268_751, oB_some, cl2_i, cl2_r, cl2_l, cl2_u, cl2_s, wd_0, wd_i, wd_r, wd_l, wd_f, ct_i, ct_r, ct_n, ct_f, rf_s, rf_n, tl_s, tl_n, true_and, and_true, eq_self, and_self, Nat.reduceAdd, Nat.reduceLeDiff, Nat.zero_le, Nat.reduceEqDiff, or_true, true_or, false_or, or_false, if_true, if_false, gI_0, gI_1, gI_2, gI_3, gI_4, gI_5, gI_6, gI_7, gI_8, gI_9, gI_10, gI_11, gI_12, gI_13, gI_14, gI_15, gL_0, gL_1, gL_2, gL_3, gL_4, gL_5, gL_6, gL_7, gL_8, gL_9, gL_10, gL_11, gL_12, gL_13, gL_14, gL_15, gA_0, gA_1, gA_2, gA_3, gA_4, gA_5, gA_6, gA_7, gA_8, gA_9, gA_10, gA_11, gA_12, gA_13, gA_14, gA_15, p1_0, p1_1, p1_2, p1_3, p1_4, p1_5, p1_6, p1_7, p1_8, p1_9, p1_10, p1_11, p1_12, p1_13, p1_14, p1_15, p2_0, p2_1, p2_2, p2_3, p2_4, p2_5, p2_6, p2_7, p2_8, p2_9, p2_10, p2_11, p2_12, p2_13, p2_14, p2_15, b01_ok, b_ft, b_tf, b01_e0, b01_e1, lgc_0, not_true_eq_false, not_false_eq_true]
    exact nx _ _ _ _ _ _ _ _ _ (by omega) (by omega) (a.ask f1 f2 M2)
set_option maxHeartbeats 4000000 in
theorem lc_rubberFor {b L x tl len i c s : Nat} {xs : Nat → Int32} {h : HP} {tp r : Nat → Nat} {S : VS} {H : HS} {Q : PQ} (a : LI b L xs h x S H tp tl r len) (hi : i + 6 ≤ L) (hL : L ≤ 3072) (hc : 12 ≤ c) (hs : 172 ≤ s)
    (nx : ∀ h' S' H' tp' tl' r' len' c' s', c ≤ c' + 12 → s ≤ s' + 172 → LI b L xs h' x S' H' tp' tl' r' len' → WP 11 268 Q (1434, [.val (.ref b), .val (.ref x), .val (.ref (x + 34)), .val (.int (nI i))], [], h', c', s')) : WP 11 268 Q (753, [.val (.ref b), .val (.ref x), .val (.ref (x + 34)), .val (.int (nI i))], [], h, c, s) := by
  have a0 := a
  obtain ⟨C, M, ⟨gS, gH⟩, rf, bk⟩ := a0
  have bk1 : SKb b L xs x h := bk
  have s1 : nI i + 1 = nI (i + 1) := nI_add i 1
  have s2 : nI i + 2 = nI (i + 2) := nI_add i 2
  have s3 : nI i + 3 = nI (i + 3) := nI_add i 3
  have s4 : nI i + 4 = nI (i + 4) := nI_add i 4
  have s5 : nI i + 5 = nI (i + 5) := nI_add i 5
  have u1 : i + 1 < 2 ^ 31 := by omega
  have u2 : i + 2 < 2 ^ 31 := by omega
  have u3 : i + 3 < 2 ^ 31 := by omega
  have u4 : i + 4 < 2 ^ 31 := by omega
  have u5 : i + 5 < 2 ^ 31 := by omega
  have v1 : i + 1 < L := by omega
  have v2 : i + 2 < L := by omega
  have v3 : i + 3 < L := by omega
  have v4 : i + 4 < L := by omega
  have v5 : i + 5 < L := by omega
  have kx : hkd h x = 15 := C.1.1.1.1
  simp only [s268_753, s268_754, s268_755, s268_756, s268_757, s268_758, s268_759, s268_760, s268_761, s268_762, s268_763, s268_764, s268_765, s268_766, s268_767, s268_768, s268_769, oB_some, cl2_i, cl2_r, cl2_l, cl2_u, cl2_s, wd_0, wd_i, wd_r, wd_l, wd_f, ct_i, ct_r, ct_n, ct_f, rf_s, rf_n, tl_s, tl_n, true_and, and_true, eq_self, and_self, Nat.reduceAdd, Nat.reduceLeDiff, Nat.zero_le, Nat.reduceEqDiff, or_true, true_or, false_or, or_false, if_true, if_false, gI_0, gI_1, gI_2, gI_3, gI_4, gI_5, gI_6, gI_7, gI_8, gI_9, gI_10, gI_11, gI_12, gI_13, gI_14, gI_15, gL_0, gL_1, gL_2, gL_3, gL_4, gL_5, gL_6, gL_7, gL_8, gL_9, gL_10, gL_11, gL_12, gL_13, gL_14, gL_15, gA_0, gA_1, gA_2, gA_3, gA_4, gA_5, gA_6, gA_7, gA_8, gA_9, gA_10, gA_11, gA_12, gA_13, gA_14, gA_15, p1_0, p1_1, p1_2, p1_3, p1_4, p1_5, p1_6, p1_7, p1_8, p1_9, p1_10, p1_11, p1_12, p1_13, p1_14, p1_15, p2_0, p2_1, p2_2, p2_3, p2_4, p2_5, p2_6, p2_7, p2_8, p2_9, p2_10, p2_11, p2_12, p2_13, p2_14, p2_15, kx, bk1.2.1, bk1.2.2.1, bk1.2.2.2, s1, s2, s3, s4, s5, ix_nI u1, ix_nI u2, ix_nI u3, ix_nI u4, ix_nI u5, nI_pos' u1, nI_pos' u2, nI_pos' u3, nI_pos' u4, nI_pos' u5, v1, v2, v3, v4, v5]
  refine x_rubberFor C.1 gS.1 gS.2 (fun y e y0 => ?_) fun e h1 f1 => ?_
  · obtain ⟨h1, eh⟩ : ∃ z, z = RfC h x y := ⟨_, rfl⟩
    have fa1 : FA x h h1 := by rw [eh]; exact RfC.fa
    rw [← eh]
    have bk1 := bk1.fa fa1
    have M1 := M.fa gH fa1
    have km : hkd h1 (x + 34) = 16 := M1.1.1.1.1.1
    simp only [s268_772, s268_773, s268_774, s268_775, s268_776, s268_777, s268_778, s268_779, s268_780, s268_781, s268_782, s268_783, s268_784, s268_785, s268_786, s268_787, s268_788, oB_some, cl2_i, cl2_r, cl2_l, cl2_u, cl2_s, wd_0, wd_i, wd_r, wd_l, wd_f, ct_i, ct_r, ct_n, ct_f, rf_s, rf_n, tl_s, tl_n, true_and, and_true, eq_self, and_self, Nat.reduceAdd, Nat.reduceLeDiff, Nat.zero_le, Nat.reduceEqDiff, or_true, true_or, false_or, or_false, if_true, if_false, gI_0, gI_1, gI_2, gI_3, gI_4, gI_5, gI_6, gI_7, gI_8, gI_9, gI_10, gI_11, gI_12, gI_13, gI_14, gI_15, gL_0, gL_1, gL_2, gL_3, gL_4, gL_5, gL_6, gL_7, gL_8, gL_9, gL_10, gL_11, gL_12, gL_13, gL_14, gL_15, gA_0, gA_1, gA_2, gA_3, gA_4, gA_5, gA_6, gA_7, gA_8, gA_9, gA_10, gA_11, gA_12, gA_13, gA_14, gA_15, p1_0, p1_1, p1_2, p1_3, p1_4, p1_5, p1_6, p1_7, p1_8, p1_9, p1_10, p1_11, p1_12, p1_13, p1_14, p1_15, p2_0, p2_1, p2_2, p2_3, p2_4, p2_5, p2_6, p2_7, p2_8, p2_9, p2_10, p2_11, p2_12, p2_13, p2_14, p2_15, km, bk1.2.1, bk1.2.2.1, bk1.2.2.2, s1, s2, s3, s4, s5, ix_nI u1, ix_nI u2, ix_nI u3, ix_nI u4, ix_nI u5, nI_pos' u1, nI_pos' u2, nI_pos' u3, nI_pos' u4, nI_pos' u5, v1, v2, v3, v4, v5]
    refine n_rubberFor M1.1 gS.1 gS.2 (fun y2 e2 n2 => ?_) fun e2 => absurd (e.symm.trans e2) y0
    obtain rfl := e.symm.trans e2
    simp only [s268_791, s268_794, oB_some, cl2_i, cl2_r, cl2_l, cl2_u, cl2_s, wd_0, wd_i, wd_r, wd_l, wd_f, ct_i, ct_r, ct_n, ct_f, rf_s, rf_n, tl_s, tl_n, true_and, and_true, eq_self, and_self, Nat.reduceAdd, Nat.reduceLeDiff, Nat.zero_le, Nat.reduceEqDiff, or_true, true_or, false_or, or_false, if_true, if_false, gI_0, gI_1, gI_2, gI_3, gI_4, gI_5, gI_6, gI_7, gI_8, gI_9, gI_10, gI_11, gI_12, gI_13, gI_14, gI_15, gL_0, gL_1, gL_2, gL_3, gL_4, gL_5, gL_6, gL_7, gL_8, gL_9, gL_10, gL_11, gL_12, gL_13, gL_14, gL_15, gA_0, gA_1, gA_2, gA_3, gA_4, gA_5, gA_6, gA_7, gA_8, gA_9, gA_10, gA_11, gA_12, gA_13, gA_14, gA_15, p1_0, p1_1, p1_2, p1_3, p1_4, p1_5, p1_6, p1_7, p1_8, p1_9, p1_10, p1_11, p1_12, p1_13, p1_14, p1_15, p2_0, p2_1, p2_2, p2_3, p2_4, p2_5, p2_6, p2_7, p2_8, p2_9, p2_10, p2_11, p2_12, p2_13, p2_14, p2_15, b01_ok, b_ft, b_tf, b01_e0, b01_e1, lgc_0, not_true_eq_false, not_false_eq_true]
    rw [eh]
    exact nx _ _ _ _ _ _ _ _ _ (by omega) (by omega) (a.refuse y)
  · skip
    have fa1 : FA x h h1 := f1.fa (by omega) (by omega)
    have bk1 := bk1.fa fa1
    have M1 := M.fa gH fa1
    have km : hkd h1 (x + 34) = 16 := M1.1.1.1.1.1
    simp only [s268_772, s268_773, s268_774, s268_775, s268_776, s268_777, s268_778, s268_779, s268_780, s268_781, s268_782, s268_783, s268_784, s268_785, s268_786, s268_787, s268_788, oB_some, cl2_i, cl2_r, cl2_l, cl2_u, cl2_s, wd_0, wd_i, wd_r, wd_l, wd_f, ct_i, ct_r, ct_n, ct_f, rf_s, rf_n, tl_s, tl_n, true_and, and_true, eq_self, and_self, Nat.reduceAdd, Nat.reduceLeDiff, Nat.zero_le, Nat.reduceEqDiff, or_true, true_or, false_or, or_false, if_true, if_false, gI_0, gI_1, gI_2, gI_3, gI_4, gI_5, gI_6, gI_7, gI_8, gI_9, gI_10, gI_11, gI_12, gI_13, gI_14, gI_15, gL_0, gL_1, gL_2, gL_3, gL_4, gL_5, gL_6, gL_7, gL_8, gL_9, gL_10, gL_11, gL_12, gL_13, gL_14, gL_15, gA_0, gA_1, gA_2, gA_3, gA_4, gA_5, gA_6, gA_7, gA_8, gA_9, gA_10, gA_11, gA_12, gA_13, gA_14, gA_15, p1_0, p1_1, p1_2, p1_3, p1_4, p1_5, p1_6, p1_7, p1_8, p1_9, p1_10, p1_11, p1_12, p1_13, p1_14, p1_15, p2_0, p2_1, p2_2, p2_3, p2_4, p2_5, p2_6, p2_7, p2_8, p2_9, p2_10, p2_11, p2_12, p2_13, p2_14, p2_15, km, bk1.2.1, bk1.2.2.1, bk1.2.2.2, s1, s2, s3, s4, s5, ix_nI u1, ix_nI u2, ix_nI u3, ix_nI u4, ix_nI u5, nI_pos' u1, nI_pos' u2, nI_pos' u3, nI_pos' u4, nI_pos' u5, v1, v2, v3, v4, v5]
    refine n_rubberFor M1.1 gS.1 gS.2 (fun y2 e2 n2 => absurd (e2.symm.trans e) n2) fun _ h2 f2 M2 => ?_
    simp only [s268_791, s268_794, oB_some, cl2_i, cl2_r, cl2_l, cl2_u, cl2_s, wd_0, wd_i, wd_r, wd_l, wd_f, ct_i, ct_r, ct_n, ct_f, rf_s, rf_n, tl_s, tl_n, true_and, and_true, eq_self, and_self, Nat.reduceAdd, Nat.reduceLeDiff, Nat.zero_le, Nat.reduceEqDiff, or_true, true_or, false_or, or_false, if_true, if_false, gI_0, gI_1, gI_2, gI_3, gI_4, gI_5, gI_6, gI_7, gI_8, gI_9, gI_10, gI_11, gI_12, gI_13, gI_14, gI_15, gL_0, gL_1, gL_2, gL_3, gL_4, gL_5, gL_6, gL_7, gL_8, gL_9, gL_10, gL_11, gL_12, gL_13, gL_14, gL_15, gA_0, gA_1, gA_2, gA_3, gA_4, gA_5, gA_6, gA_7, gA_8, gA_9, gA_10, gA_11, gA_12, gA_13, gA_14, gA_15, p1_0, p1_1, p1_2, p1_3, p1_4, p1_5, p1_6, p1_7, p1_8, p1_9, p1_10, p1_11, p1_12, p1_13, p1_14, p1_15, p2_0, p2_1, p2_2, p2_3, p2_4, p2_5, p2_6, p2_7, p2_8, p2_9, p2_10, p2_11, p2_12, p2_13, p2_14, p2_15, b01_ok, b_ft, b_tf, b01_e0, b01_e1, lgc_0, not_true_eq_false, not_false_eq_true]
    exact nx _ _ _ _ _ _ _ _ _ (by omega) (by omega) (a.ask f1 f2 M2)
set_option maxHeartbeats 4000000 in
theorem lc_ink {b L x tl len i c s : Nat} {xs : Nat → Int32} {h : HP} {tp r : Nat → Nat} {S : VS} {H : HS} {Q : PQ} (a : LI b L xs h x S H tp tl r len) (hi : i + 6 ≤ L) (hL : L ≤ 3072) (hc : 12 ≤ c) (hs : 172 ≤ s)
    (nx : ∀ h' S' H' tp' tl' r' len' c' s', c ≤ c' + 12 → s ≤ s' + 172 → LI b L xs h' x S' H' tp' tl' r' len' → WP 11 268 Q (1434, [.val (.ref b), .val (.ref x), .val (.ref (x + 34)), .val (.int (nI i))], [], h', c', s')) : WP 11 268 Q (796, [.val (.ref b), .val (.ref x), .val (.ref (x + 34)), .val (.int (nI i))], [], h, c, s) := by
  have a0 := a
  obtain ⟨C, M, ⟨gS, gH⟩, rf, bk⟩ := a0
  have bk1 : SKb b L xs x h := bk
  have s1 : nI i + 1 = nI (i + 1) := nI_add i 1
  have s2 : nI i + 2 = nI (i + 2) := nI_add i 2
  have s3 : nI i + 3 = nI (i + 3) := nI_add i 3
  have s4 : nI i + 4 = nI (i + 4) := nI_add i 4
  have s5 : nI i + 5 = nI (i + 5) := nI_add i 5
  have u1 : i + 1 < 2 ^ 31 := by omega
  have u2 : i + 2 < 2 ^ 31 := by omega
  have u3 : i + 3 < 2 ^ 31 := by omega
  have u4 : i + 4 < 2 ^ 31 := by omega
  have u5 : i + 5 < 2 ^ 31 := by omega
  have v1 : i + 1 < L := by omega
  have v2 : i + 2 < L := by omega
  have v3 : i + 3 < L := by omega
  have v4 : i + 4 < L := by omega
  have v5 : i + 5 < L := by omega
  have kx : hkd h x = 15 := C.1.1.1.1
  simp only [s268_796, s268_797, s268_798, s268_799, s268_800, s268_801, s268_802, s268_803, s268_804, s268_805, s268_806, s268_807, oB_some, cl2_i, cl2_r, cl2_l, cl2_u, cl2_s, wd_0, wd_i, wd_r, wd_l, wd_f, ct_i, ct_r, ct_n, ct_f, rf_s, rf_n, tl_s, tl_n, true_and, and_true, eq_self, and_self, Nat.reduceAdd, Nat.reduceLeDiff, Nat.zero_le, Nat.reduceEqDiff, or_true, true_or, false_or, or_false, if_true, if_false, gI_0, gI_1, gI_2, gI_3, gI_4, gI_5, gI_6, gI_7, gI_8, gI_9, gI_10, gI_11, gI_12, gI_13, gI_14, gI_15, gL_0, gL_1, gL_2, gL_3, gL_4, gL_5, gL_6, gL_7, gL_8, gL_9, gL_10, gL_11, gL_12, gL_13, gL_14, gL_15, gA_0, gA_1, gA_2, gA_3, gA_4, gA_5, gA_6, gA_7, gA_8, gA_9, gA_10, gA_11, gA_12, gA_13, gA_14, gA_15, p1_0, p1_1, p1_2, p1_3, p1_4, p1_5, p1_6, p1_7, p1_8, p1_9, p1_10, p1_11, p1_12, p1_13, p1_14, p1_15, p2_0, p2_1, p2_2, p2_3, p2_4, p2_5, p2_6, p2_7, p2_8, p2_9, p2_10, p2_11, p2_12, p2_13, p2_14, p2_15, kx, bk1.2.1, bk1.2.2.1, bk1.2.2.2, s1, s2, s3, s4, s5, ix_nI u1, ix_nI u2, ix_nI u3, ix_nI u4, ix_nI u5, nI_pos' u1, nI_pos' u2, nI_pos' u3, nI_pos' u4, nI_pos' u5, v1, v2, v3, v4, v5]
  refine x_ink C.1 gS.1 gS.2 (fun y e y0 => ?_) fun e h1 f1 => ?_
  · obtain ⟨h1, eh⟩ : ∃ z, z = RfC h x y := ⟨_, rfl⟩
    have fa1 : FA x h h1 := by rw [eh]; exact RfC.fa
    rw [← eh]
    have bk1 := bk1.fa fa1
    have M1 := M.fa gH fa1
    have km : hkd h1 (x + 34) = 16 := M1.1.1.1.1.1
    simp only [s268_810, s268_811, s268_812, s268_813, s268_814, s268_815, s268_816, s268_817, s268_818, s268_819, s268_820, s268_821, oB_some, cl2_i, cl2_r, cl2_l, cl2_u, cl2_s, wd_0, wd_i, wd_r, wd_l, wd_f, ct_i, ct_r, ct_n, ct_f, rf_s, rf_n, tl_s, tl_n, true_and, and_true, eq_self, and_self, Nat.reduceAdd, Nat.reduceLeDiff, Nat.zero_le, Nat.reduceEqDiff, or_true, true_or, false_or, or_false, if_true, if_false, gI_0, gI_1, gI_2, gI_3, gI_4, gI_5, gI_6, gI_7, gI_8, gI_9, gI_10, gI_11, gI_12, gI_13, gI_14, gI_15, gL_0, gL_1, gL_2, gL_3, gL_4, gL_5, gL_6, gL_7, gL_8, gL_9, gL_10, gL_11, gL_12, gL_13, gL_14, gL_15, gA_0, gA_1, gA_2, gA_3, gA_4, gA_5, gA_6, gA_7, gA_8, gA_9, gA_10, gA_11, gA_12, gA_13, gA_14, gA_15, p1_0, p1_1, p1_2, p1_3, p1_4, p1_5, p1_6, p1_7, p1_8, p1_9, p1_10, p1_11, p1_12, p1_13, p1_14, p1_15, p2_0, p2_1, p2_2, p2_3, p2_4, p2_5, p2_6, p2_7, p2_8, p2_9, p2_10, p2_11, p2_12, p2_13, p2_14, p2_15, km, bk1.2.1, bk1.2.2.1, bk1.2.2.2, s1, s2, s3, s4, s5, ix_nI u1, ix_nI u2, ix_nI u3, ix_nI u4, ix_nI u5, nI_pos' u1, nI_pos' u2, nI_pos' u3, nI_pos' u4, nI_pos' u5, v1, v2, v3, v4, v5]
    refine n_ink M1.1 gS.1 gS.2 (fun y2 e2 n2 => ?_) fun e2 => absurd (e.symm.trans e2) y0
    obtain rfl := e.symm.trans e2
    simp only [s268_824, s268_827, oB_some, cl2_i, cl2_r, cl2_l, cl2_u, cl2_s, wd_0, wd_i, wd_r, wd_l, wd_f, ct_i, ct_r, ct_n, ct_f, rf_s, rf_n, tl_s, tl_n, true_and, and_true, eq_self, and_self, Nat.reduceAdd, Nat.reduceLeDiff, Nat.zero_le, Nat.reduceEqDiff, or_true, true_or, false_or, or_false, if_true, if_false, gI_0, gI_1, gI_2, gI_3, gI_4, gI_5, gI_6, gI_7, gI_8, gI_9, gI_10, gI_11, gI_12, gI_13, gI_14, gI_15, gL_0, gL_1, gL_2, gL_3, gL_4, gL_5, gL_6, gL_7, gL_8, gL_9, gL_10, gL_11, gL_12, gL_13, gL_14, gL_15, gA_0, gA_1, gA_2, gA_3, gA_4, gA_5, gA_6, gA_7, gA_8, gA_9, gA_10, gA_11, gA_12, gA_13, gA_14, gA_15, p1_0, p1_1, p1_2, p1_3, p1_4, p1_5, p1_6, p1_7, p1_8, p1_9, p1_10, p1_11, p1_12, p1_13, p1_14, p1_15, p2_0, p2_1, p2_2, p2_3, p2_4, p2_5, p2_6, p2_7, p2_8, p2_9, p2_10, p2_11, p2_12, p2_13, p2_14, p2_15, b01_ok, b_ft, b_tf, b01_e0, b01_e1, lgc_0, not_true_eq_false, not_false_eq_true]
    rw [eh]
    exact nx _ _ _ _ _ _ _ _ _ (by omega) (by omega) (a.refuse y)
  · skip
    have fa1 : FA x h h1 := f1.fa (by omega) (by omega)
    have bk1 := bk1.fa fa1
    have M1 := M.fa gH fa1
    have km : hkd h1 (x + 34) = 16 := M1.1.1.1.1.1
    simp only [s268_810, s268_811, s268_812, s268_813, s268_814, s268_815, s268_816, s268_817, s268_818, s268_819, s268_820, s268_821, oB_some, cl2_i, cl2_r, cl2_l, cl2_u, cl2_s, wd_0, wd_i, wd_r, wd_l, wd_f, ct_i, ct_r, ct_n, ct_f, rf_s, rf_n, tl_s, tl_n, true_and, and_true, eq_self, and_self, Nat.reduceAdd, Nat.reduceLeDiff, Nat.zero_le, Nat.reduceEqDiff, or_true, true_or, false_or, or_false, if_true, if_false, gI_0, gI_1, gI_2, gI_3, gI_4, gI_5, gI_6, gI_7, gI_8, gI_9, gI_10, gI_11, gI_12, gI_13, gI_14, gI_15, gL_0, gL_1, gL_2, gL_3, gL_4, gL_5, gL_6, gL_7, gL_8, gL_9, gL_10, gL_11, gL_12, gL_13, gL_14, gL_15, gA_0, gA_1, gA_2, gA_3, gA_4, gA_5, gA_6, gA_7, gA_8, gA_9, gA_10, gA_11, gA_12, gA_13, gA_14, gA_15, p1_0, p1_1, p1_2, p1_3, p1_4, p1_5, p1_6, p1_7, p1_8, p1_9, p1_10, p1_11, p1_12, p1_13, p1_14, p1_15, p2_0, p2_1, p2_2, p2_3, p2_4, p2_5, p2_6, p2_7, p2_8, p2_9, p2_10, p2_11, p2_12, p2_13, p2_14, p2_15, km, bk1.2.1, bk1.2.2.1, bk1.2.2.2, s1, s2, s3, s4, s5, ix_nI u1, ix_nI u2, ix_nI u3, ix_nI u4, ix_nI u5, nI_pos' u1, nI_pos' u2, nI_pos' u3, nI_pos' u4, nI_pos' u5, v1, v2, v3, v4, v5]
    refine n_ink M1.1 gS.1 gS.2 (fun y2 e2 n2 => absurd (e2.symm.trans e) n2) fun _ h2 f2 M2 => ?_
    simp only [s268_824, s268_827, oB_some, cl2_i, cl2_r, cl2_l, cl2_u, cl2_s, wd_0, wd_i, wd_r, wd_l, wd_f, ct_i, ct_r, ct_n, ct_f, rf_s, rf_n, tl_s, tl_n, true_and, and_true, eq_self, and_self, Nat.reduceAdd, Nat.reduceLeDiff, Nat.zero_le, Nat.reduceEqDiff, or_true, true_or, false_or, or_false, if_true, if_false, gI_0, gI_1, gI_2, gI_3, gI_4, gI_5, gI_6, gI_7, gI_8, gI_9, gI_10, gI_11, gI_12, gI_13, gI_14, gI_15, gL_0, gL_1, gL_2, gL_3, gL_4, gL_5, gL_6, gL_7, gL_8, gL_9, gL_10, gL_11, gL_12, gL_13, gL_14, gL_15, gA_0, gA_1, gA_2, gA_3, gA_4, gA_5, gA_6, gA_7, gA_8, gA_9, gA_10, gA_11, gA_12, gA_13, gA_14, gA_15, p1_0, p1_1, p1_2, p1_3, p1_4, p1_5, p1_6, p1_7, p1_8, p1_9, p1_10, p1_11, p1_12, p1_13, p1_14, p1_15, p2_0, p2_1, p2_2, p2_3, p2_4, p2_5, p2_6, p2_7, p2_8, p2_9, p2_10, p2_11, p2_12, p2_13, p2_14, p2_15, b01_ok, b_ft, b_tf, b01_e0, b01_e1, lgc_0, not_true_eq_false, not_false_eq_true]
    exact nx _ _ _ _ _ _ _ _ _ (by omega) (by omega) (a.ask f1 f2 M2)
set_option maxHeartbeats 4000000 in
theorem lc_friendFor {b L x tl len i c s : Nat} {xs : Nat → Int32} {h : HP} {tp r : Nat → Nat} {S : VS} {H : HS} {Q : PQ} (a : LI b L xs h x S H tp tl r len) (hi : i + 6 ≤ L) (hL : L ≤ 3072) (hc : 12 ≤ c) (hs : 172 ≤ s)
    (nx : ∀ h' S' H' tp' tl' r' len' c' s', c ≤ c' + 12 → s ≤ s' + 172 → LI b L xs h' x S' H' tp' tl' r' len' → WP 11 268 Q (1434, [.val (.ref b), .val (.ref x), .val (.ref (x + 34)), .val (.int (nI i))], [], h', c', s')) : WP 11 268 Q (829, [.val (.ref b), .val (.ref x), .val (.ref (x + 34)), .val (.int (nI i))], [], h, c, s) := by
  have a0 := a
  obtain ⟨C, M, ⟨gS, gH⟩, rf, bk⟩ := a0
  have bk1 : SKb b L xs x h := bk
  have s1 : nI i + 1 = nI (i + 1) := nI_add i 1
  have s2 : nI i + 2 = nI (i + 2) := nI_add i 2
  have s3 : nI i + 3 = nI (i + 3) := nI_add i 3
  have s4 : nI i + 4 = nI (i + 4) := nI_add i 4
  have s5 : nI i + 5 = nI (i + 5) := nI_add i 5
  have u1 : i + 1 < 2 ^ 31 := by omega
  have u2 : i + 2 < 2 ^ 31 := by omega
  have u3 : i + 3 < 2 ^ 31 := by omega
  have u4 : i + 4 < 2 ^ 31 := by omega
  have u5 : i + 5 < 2 ^ 31 := by omega
  have v1 : i + 1 < L := by omega
  have v2 : i + 2 < L := by omega
  have v3 : i + 3 < L := by omega
  have v4 : i + 4 < L := by omega
  have v5 : i + 5 < L := by omega
  have kx : hkd h x = 15 := C.1.1.1.1
  simp only [s268_829, s268_830, s268_831, s268_832, s268_833, s268_834, s268_835, s268_836, s268_837, s268_838, s268_839, s268_840, s268_841, s268_842, s268_843, s268_844, s268_845, s268_846, s268_847, s268_848, s268_849, s268_850, oB_some, cl2_i, cl2_r, cl2_l, cl2_u, cl2_s, wd_0, wd_i, wd_r, wd_l, wd_f, ct_i, ct_r, ct_n, ct_f, rf_s, rf_n, tl_s, tl_n, true_and, and_true, eq_self, and_self, Nat.reduceAdd, Nat.reduceLeDiff, Nat.zero_le, Nat.reduceEqDiff, or_true, true_or, false_or, or_false, if_true, if_false, gI_0, gI_1, gI_2, gI_3, gI_4, gI_5, gI_6, gI_7, gI_8, gI_9, gI_10, gI_11, gI_12, gI_13, gI_14, gI_15, gL_0, gL_1, gL_2, gL_3, gL_4, gL_5, gL_6, gL_7, gL_8, gL_9, gL_10, gL_11, gL_12, gL_13, gL_14, gL_15, gA_0, gA_1, gA_2, gA_3, gA_4, gA_5, gA_6, gA_7, gA_8, gA_9, gA_10, gA_11, gA_12, gA_13, gA_14, gA_15, p1_0, p1_1, p1_2, p1_3, p1_4, p1_5, p1_6, p1_7, p1_8, p1_9, p1_10, p1_11, p1_12, p1_13, p1_14, p1_15, p2_0, p2_1, p2_2, p2_3, p2_4, p2_5, p2_6, p2_7, p2_8, p2_9, p2_10, p2_11, p2_12, p2_13, p2_14, p2_15, kx, bk1.2.1, bk1.2.2.1, bk1.2.2.2, s1, s2, s3, s4, s5, ix_nI u1, ix_nI u2, ix_nI u3, ix_nI u4, ix_nI u5, nI_pos' u1, nI_pos' u2, nI_pos' u3, nI_pos' u4, nI_pos' u5, v1, v2, v3, v4, v5]
  refine x_friendFor C.1 gS.1 gS.2 (fun y e y0 => ?_) fun e h1 f1 => ?_
  · obtain ⟨h1, eh⟩ : ∃ z, z = RfC h x y := ⟨_, rfl⟩
    have fa1 : FA x h h1 := by rw [eh]; exact RfC.fa
    rw [← eh]
    have bk1 := bk1.fa fa1
    have M1 := M.fa gH fa1
    have km : hkd h1 (x + 34) = 16 := M1.1.1.1.1.1
    simp only [s268_853, s268_854, s268_855, s268_856, s268_857, s268_858, s268_859, s268_860, s268_861, s268_862, s268_863, s268_864, s268_865, s268_866, s268_867, s268_868, s268_869, s268_870, s268_871, s268_872, s268_873, s268_874, oB_some, cl2_i, cl2_r, cl2_l, cl2_u, cl2_s, wd_0, wd_i, wd_r, wd_l, wd_f, ct_i, ct_r, ct_n, ct_f, rf_s, rf_n, tl_s, tl_n, true_and, and_true, eq_self, and_self, Nat.reduceAdd, Nat.reduceLeDiff, Nat.zero_le, Nat.reduceEqDiff, or_true, true_or, false_or, or_false, if_true, if_false, gI_0, gI_1, gI_2, gI_3, gI_4, gI_5, gI_6, gI_7, gI_8, gI_9, gI_10, gI_11, gI_12, gI_13, gI_14, gI_15, gL_0, gL_1, gL_2, gL_3, gL_4, gL_5, gL_6, gL_7, gL_8, gL_9, gL_10, gL_11, gL_12, gL_13, gL_14, gL_15, gA_0, gA_1, gA_2, gA_3, gA_4, gA_5, gA_6, gA_7, gA_8, gA_9, gA_10, gA_11, gA_12, gA_13, gA_14, gA_15, p1_0, p1_1, p1_2, p1_3, p1_4, p1_5, p1_6, p1_7, p1_8, p1_9, p1_10, p1_11, p1_12, p1_13, p1_14, p1_15, p2_0, p2_1, p2_2, p2_3, p2_4, p2_5, p2_6, p2_7, p2_8, p2_9, p2_10, p2_11, p2_12, p2_13, p2_14, p2_15, km, bk1.2.1, bk1.2.2.1, bk1.2.2.2, s1, s2, s3, s4, s5, ix_nI u1, ix_nI u2, ix_nI u3, ix_nI u4, ix_nI u5, nI_pos' u1, nI_pos' u2, nI_pos' u3, nI_pos' u4, nI_pos' u5, v1, v2, v3, v4, v5]
    refine n_friendFor M1.1 gS.1 gS.2 (fun y2 e2 n2 => ?_) fun e2 => absurd (e.symm.trans e2) y0
    obtain rfl := e.symm.trans e2
    simp only [s268_877, s268_880, oB_some, cl2_i, cl2_r, cl2_l, cl2_u, cl2_s, wd_0, wd_i, wd_r, wd_l, wd_f, ct_i, ct_r, ct_n, ct_f, rf_s, rf_n, tl_s, tl_n, true_and, and_true, eq_self, and_self, Nat.reduceAdd, Nat.reduceLeDiff, Nat.zero_le, Nat.reduceEqDiff, or_true, true_or, false_or, or_false, if_true, if_false, gI_0, gI_1, gI_2, gI_3, gI_4, gI_5, gI_6, gI_7, gI_8, gI_9, gI_10, gI_11, gI_12, gI_13, gI_14, gI_15, gL_0, gL_1, gL_2, gL_3, gL_4, gL_5, gL_6, gL_7, gL_8, gL_9, gL_10, gL_11, gL_12, gL_13, gL_14, gL_15, gA_0, gA_1, gA_2, gA_3, gA_4, gA_5, gA_6, gA_7, gA_8, gA_9, gA_10, gA_11, gA_12, gA_13, gA_14, gA_15, p1_0, p1_1, p1_2, p1_3, p1_4, p1_5, p1_6, p1_7, p1_8, p1_9, p1_10, p1_11, p1_12, p1_13, p1_14, p1_15, p2_0, p2_1, p2_2, p2_3, p2_4, p2_5, p2_6, p2_7, p2_8, p2_9, p2_10, p2_11, p2_12, p2_13, p2_14, p2_15, b01_ok, b_ft, b_tf, b01_e0, b01_e1, lgc_0, not_true_eq_false, not_false_eq_true]
    rw [eh]
    exact nx _ _ _ _ _ _ _ _ _ (by omega) (by omega) (a.refuse y)
  · skip
    have fa1 : FA x h h1 := f1.fa (by omega) (by omega)
    have bk1 := bk1.fa fa1
    have M1 := M.fa gH fa1
    have km : hkd h1 (x + 34) = 16 := M1.1.1.1.1.1
    simp only [s268_853, s268_854, s268_855, s268_856, s268_857, s268_858, s268_859, s268_860, s268_861, s268_862, s268_863, s268_864, s268_865, s268_866, s268_867, s268_868, s268_869, s268_870, s268_871, s268_872, s268_873, s268_874, oB_some, cl2_i, cl2_r, cl2_l, cl2_u, cl2_s, wd_0, wd_i, wd_r, wd_l, wd_f, ct_i, ct_r, ct_n, ct_f, rf_s, rf_n, tl_s, tl_n, true_and, and_true, eq_self, and_self, Nat.reduceAdd, Nat.reduceLeDiff, Nat.zero_le, Nat.reduceEqDiff, or_true, true_or, false_or, or_false, if_true, if_false, gI_0, gI_1, gI_2, gI_3, gI_4, gI_5, gI_6, gI_7, gI_8, gI_9, gI_10, gI_11, gI_12, gI_13, gI_14, gI_15, gL_0, gL_1, gL_2, gL_3, gL_4, gL_5, gL_6, gL_7, gL_8, gL_9, gL_10, gL_11, gL_12, gL_13, gL_14, gL_15, gA_0, gA_1, gA_2, gA_3, gA_4, gA_5, gA_6, gA_7, gA_8, gA_9, gA_10, gA_11, gA_12, gA_13, gA_14, gA_15, p1_0, p1_1, p1_2, p1_3, p1_4, p1_5, p1_6, p1_7, p1_8, p1_9, p1_10, p1_11, p1_12, p1_13, p1_14, p1_15, p2_0, p2_1, p2_2, p2_3, p2_4, p2_5, p2_6, p2_7, p2_8, p2_9, p2_10, p2_11, p2_12, p2_13, p2_14, p2_15, km, bk1.2.1, bk1.2.2.1, bk1.2.2.2, s1, s2, s3, s4, s5, ix_nI u1, ix_nI u2, ix_nI u3, ix_nI u4, ix_nI u5, nI_pos' u1, nI_pos' u2, nI_pos' u3, nI_pos' u4, nI_pos' u5, v1, v2, v3, v4, v5]
    refine n_friendFor M1.1 gS.1 gS.2 (fun y2 e2 n2 => absurd (e2.symm.trans e) n2) fun _ h2 f2 M2 => ?_
    simp only [s268_877, s268_880, oB_some, cl2_i, cl2_r, cl2_l, cl2_u, cl2_s, wd_0, wd_i, wd_r, wd_l, wd_f, ct_i, ct_r, ct_n, ct_f, rf_s, rf_n, tl_s, tl_n, true_and, and_true, eq_self, and_self, Nat.reduceAdd, Nat.reduceLeDiff, Nat.zero_le, Nat.reduceEqDiff, or_true, true_or, false_or, or_false, if_true, if_false, gI_0, gI_1, gI_2, gI_3, gI_4, gI_5, gI_6, gI_7, gI_8, gI_9, gI_10, gI_11, gI_12, gI_13, gI_14, gI_15, gL_0, gL_1, gL_2, gL_3, gL_4, gL_5, gL_6, gL_7, gL_8, gL_9, gL_10, gL_11, gL_12, gL_13, gL_14, gL_15, gA_0, gA_1, gA_2, gA_3, gA_4, gA_5, gA_6, gA_7, gA_8, gA_9, gA_10, gA_11, gA_12, gA_13, gA_14, gA_15, p1_0, p1_1, p1_2, p1_3, p1_4, p1_5, p1_6, p1_7, p1_8, p1_9, p1_10, p1_11, p1_12, p1_13, p1_14, p1_15, p2_0, p2_1, p2_2, p2_3, p2_4, p2_5, p2_6, p2_7, p2_8, p2_9, p2_10, p2_11, p2_12, p2_13, p2_14, p2_15, b01_ok, b_ft, b_tf, b01_e0, b01_e1, lgc_0, not_true_eq_false, not_false_eq_true]
    exact nx _ _ _ _ _ _ _ _ _ (by omega) (by omega) (a.ask f1 f2 M2)
set_option maxHeartbeats 4000000 in
theorem lc_swap {b L x tl len i c s : Nat} {xs : Nat → Int32} {h : HP} {tp r : Nat → Nat} {S : VS} {H : HS} {Q : PQ} (a : LI b L xs h x S H tp tl r len) (hi : i + 6 ≤ L) (hL : L ≤ 3072) (hc : 12 ≤ c) (hs : 172 ≤ s)
    (nx : ∀ h' S' H' tp' tl' r' len' c' s', c ≤ c' + 12 → s ≤ s' + 172 → LI b L xs h' x S' H' tp' tl' r' len' → WP 11 268 Q (1434, [.val (.ref b), .val (.ref x), .val (.ref (x + 34)), .val (.int (nI i))], [], h', c', s')) : WP 11 268 Q (882, [.val (.ref b), .val (.ref x), .val (.ref (x + 34)), .val (.int (nI i))], [], h, c, s) := by
  have a0 := a
  obtain ⟨C, M, ⟨gS, gH⟩, rf, bk⟩ := a0
  have bk1 : SKb b L xs x h := bk
  have s1 : nI i + 1 = nI (i + 1) := nI_add i 1
  have s2 : nI i + 2 = nI (i + 2) := nI_add i 2
  have s3 : nI i + 3 = nI (i + 3) := nI_add i 3
  have s4 : nI i + 4 = nI (i + 4) := nI_add i 4
  have s5 : nI i + 5 = nI (i + 5) := nI_add i 5
  have u1 : i + 1 < 2 ^ 31 := by omega
  have u2 : i + 2 < 2 ^ 31 := by omega
  have u3 : i + 3 < 2 ^ 31 := by omega
  have u4 : i + 4 < 2 ^ 31 := by omega
  have u5 : i + 5 < 2 ^ 31 := by omega
  have v1 : i + 1 < L := by omega
  have v2 : i + 2 < L := by omega
  have v3 : i + 3 < L := by omega
  have v4 : i + 4 < L := by omega
  have v5 : i + 5 < L := by omega
  have kx : hkd h x = 15 := C.1.1.1.1
  simp only [s268_882, s268_883, s268_884, s268_885, s268_886, s268_887, s268_888, oB_some, cl2_i, cl2_r, cl2_l, cl2_u, cl2_s, wd_0, wd_i, wd_r, wd_l, wd_f, ct_i, ct_r, ct_n, ct_f, rf_s, rf_n, tl_s, tl_n, true_and, and_true, eq_self, and_self, Nat.reduceAdd, Nat.reduceLeDiff, Nat.zero_le, Nat.reduceEqDiff, or_true, true_or, false_or, or_false, if_true, if_false, gI_0, gI_1, gI_2, gI_3, gI_4, gI_5, gI_6, gI_7, gI_8, gI_9, gI_10, gI_11, gI_12, gI_13, gI_14, gI_15, gL_0, gL_1, gL_2, gL_3, gL_4, gL_5, gL_6, gL_7, gL_8, gL_9, gL_10, gL_11, gL_12, gL_13, gL_14, gL_15, gA_0, gA_1, gA_2, gA_3, gA_4, gA_5, gA_6, gA_7, gA_8, gA_9, gA_10, gA_11, gA_12, gA_13, gA_14, gA_15, p1_0, p1_1, p1_2, p1_3, p1_4, p1_5, p1_6, p1_7, p1_8, p1_9, p1_10, p1_11, p1_12, p1_13, p1_14, p1_15, p2_0, p2_1, p2_2, p2_3, p2_4, p2_5, p2_6, p2_7, p2_8, p2_9, p2_10, p2_11, p2_12, p2_13, p2_14, p2_15, kx, bk1.2.1, bk1.2.2.1, bk1.2.2.2, s1, s2, s3, s4, s5, ix_nI u1, ix_nI u2, ix_nI u3, ix_nI u4, ix_nI u5, nI_pos' u1, nI_pos' u2, nI_pos' u3, nI_pos' u4, nI_pos' u5, v1, v2, v3, v4, v5]
  refine x_swap C.1 gS.1 gS.2 (fun y e y0 => ?_) fun e h1 f1 => ?_
  · obtain ⟨h1, eh⟩ : ∃ z, z = RfC h x y := ⟨_, rfl⟩
    have fa1 : FA x h h1 := by rw [eh]; exact RfC.fa
    rw [← eh]
    have bk1 := bk1.fa fa1
    have M1 := M.fa gH fa1
    have km : hkd h1 (x + 34) = 16 := M1.1.1.1.1.1
    simp only [s268_891, s268_892, s268_893, s268_894, s268_895, s268_896, s268_897, oB_some, cl2_i, cl2_r, cl2_l, cl2_u, cl2_s, wd_0, wd_i, wd_r, wd_l, wd_f, ct_i, ct_r, ct_n, ct_f, rf_s, rf_n, tl_s, tl_n, true_and, and_true, eq_self, and_self, Nat.reduceAdd, Nat.reduceLeDiff, Nat.zero_le, Nat.reduceEqDiff, or_true, true_or, false_or, or_false, if_true, if_false, gI_0, gI_1, gI_2, gI_3, gI_4, gI_5, gI_6, gI_7, gI_8, gI_9, gI_10, gI_11, gI_12, gI_13, gI_14, gI_15, gL_0, gL_1, gL_2, gL_3, gL_4, gL_5, gL_6, gL_7, gL_8, gL_9, gL_10, gL_11, gL_12, gL_13, gL_14, gL_15, gA_0, gA_1, gA_2, gA_3, gA_4, gA_5, gA_6, gA_7, gA_8, gA_9, gA_10, gA_11, gA_12, gA_13, gA_14, gA_15, p1_0, p1_1, p1_2, p1_3, p1_4, p1_5, p1_6, p1_7, p1_8, p1_9, p1_10, p1_11, p1_12, p1_13, p1_14, p1_15, p2_0, p2_1, p2_2, p2_3, p2_4, p2_5, p2_6, p2_7, p2_8, p2_9, p2_10, p2_11, p2_12, p2_13, p2_14, p2_15, km, bk1.2.1, bk1.2.2.1, bk1.2.2.2, s1, s2, s3, s4, s5, ix_nI u1, ix_nI u2, ix_nI u3, ix_nI u4, ix_nI u5, nI_pos' u1, nI_pos' u2, nI_pos' u3, nI_pos' u4, nI_pos' u5, v1, v2, v3, v4, v5]
    refine n_swap M1.1 gS.1 gS.2 (fun y2 e2 n2 => ?_) fun e2 => absurd (e.symm.trans e2) y0
    obtain rfl := e.symm.trans e2
    simp only [s268_900, s268_903, oB_some, cl2_i, cl2_r, cl2_l, cl2_u, cl2_s, wd_0, wd_i, wd_r, wd_l, wd_f, ct_i, ct_r, ct_n, ct_f, rf_s, rf_n, tl_s, tl_n, true_and, and_true, eq_self, and_self, Nat.reduceAdd, Nat.reduceLeDiff, Nat.zero_le, Nat.reduceEqDiff, or_true, true_or, false_or, or_false, if_true, if_false, gI_0, gI_1, gI_2, gI_3, gI_4, gI_5, gI_6, gI_7, gI_8, gI_9, gI_10, gI_11, gI_12, gI_13, gI_14, gI_15, gL_0, gL_1, gL_2, gL_3, gL_4, gL_5, gL_6, gL_7, gL_8, gL_9, gL_10, gL_11, gL_12, gL_13, gL_14, gL_15, gA_0, gA_1, gA_2, gA_3, gA_4, gA_5, gA_6, gA_7, gA_8, gA_9, gA_10, gA_11, gA_12, gA_13, gA_14, gA_15, p1_0, p1_1, p1_2, p1_3, p1_4, p1_5, p1_6, p1_7, p1_8, p1_9, p1_10, p1_11, p1_12, p1_13, p1_14, p1_15, p2_0, p2_1, p2_2, p2_3, p2_4, p2_5, p2_6, p2_7, p2_8, p2_9, p2_10, p2_11, p2_12, p2_13, p2_14, p2_15, b01_ok, b_ft, b_tf, b01_e0, b01_e1, lgc_0, not_true_eq_false, not_false_eq_true]
    rw [eh]
    exact nx _ _ _ _ _ _ _ _ _ (by omega) (by omega) (a.refuse y)
  · skip
    have fa1 : FA x h h1 := f1.fa (by omega) (by omega)
    have bk1 := bk1.fa fa1
    have M1 := M.fa gH fa1
    have km : hkd h1 (x + 34) = 16 := M1.1.1.1.1.1
    simp only [s268_891, s268_892, s268_893, s268_894, s268_895, s268_896, s268_897, oB_some, cl2_i, cl2_r, cl2_l, cl2_u, cl2_s, wd_0, wd_i, wd_r, wd_l, wd_f, ct_i, ct_r, ct_n, ct_f, rf_s, rf_n, tl_s, tl_n, true_and, and_true, eq_self, and_self, Nat.reduceAdd, Nat.reduceLeDiff, Nat.zero_le, Nat.reduceEqDiff, or_true, true_or, false_or, or_false, if_true, if_false, gI_0, gI_1, gI_2, gI_3, gI_4, gI_5, gI_6, gI_7, gI_8, gI_9, gI_10, gI_11, gI_12, gI_13, gI_14, gI_15, gL_0, gL_1, gL_2, gL_3, gL_4, gL_5, gL_6, gL_7, gL_8, gL_9, gL_10, gL_11, gL_12, gL_13, gL_14, gL_15, gA_0, gA_1, gA_2, gA_3, gA_4, gA_5, gA_6, gA_7, gA_8, gA_9, gA_10, gA_11, gA_12, gA_13, gA_14, gA_15, p1_0, p1_1, p1_2, p1_3, p1_4, p1_5, p1_6, p1_7, p1_8, p1_9, p1_10, p1_11, p1_12, p1_13, p1_14, p1_15, p2_0, p2_1, p2_2, p2_3, p2_4, p2_5, p2_6, p2_7, p2_8, p2_9, p2_10, p2_11, p2_12, p2_13, p2_14, p2_15, km, bk1.2.1, bk1.2.2.1, bk1.2.2.2, s1, s2, s3, s4, s5, ix_nI u1, ix_nI u2, ix_nI u3, ix_nI u4, ix_nI u5, nI_pos' u1, nI_pos' u2, nI_pos' u3, nI_pos' u4, nI_pos' u5, v1, v2, v3, v4, v5]
    refine n_swap M1.1 gS.1 gS.2 (fun y2 e2 n2 => absurd (e2.symm.trans e) n2) fun _ h2 f2 M2 => ?_
    simp only [s268_900, s268_903, oB_some, cl2_i, cl2_r, cl2_l, cl2_u, cl2_s, wd_0, wd_i, wd_r, wd_l, wd_f, ct_i, ct_r, ct_n, ct_f, rf_s, rf_n, tl_s, tl_n, true_and, and_true, eq_self, and_self, Nat.reduceAdd, Nat.reduceLeDiff, Nat.zero_le, Nat.reduceEqDiff, or_true, true_or, false_or, or_false, if_true, if_false, gI_0, gI_1, gI_2, gI_3, gI_4, gI_5, gI_6, gI_7, gI_8, gI_9, gI_10, gI_11, gI_12, gI_13, gI_14, gI_15, gL_0, gL_1, gL_2, gL_3, gL_4, gL_5, gL_6, gL_7, gL_8, gL_9, gL_10, gL_11, gL_12, gL_13, gL_14, gL_15, gA_0, gA_1, gA_2, gA_3, gA_4, gA_5, gA_6, gA_7, gA_8, gA_9, gA_10, gA_11, gA_12, gA_13, gA_14, gA_15, p1_0, p1_1, p1_2, p1_3, p1_4, p1_5, p1_6, p1_7, p1_8, p1_9, p1_10, p1_11, p1_12, p1_13, p1_14, p1_15, p2_0, p2_1, p2_2, p2_3, p2_4, p2_5, p2_6, p2_7, p2_8, p2_9, p2_10, p2_11, p2_12, p2_13, p2_14, p2_15, b01_ok, b_ft, b_tf, b01_e0, b01_e1, lgc_0, not_true_eq_false, not_false_eq_true]
    exact nx _ _ _ _ _ _ _ _ _ (by omega) (by omega) (a.ask f1 f2 M2)
set_option maxHeartbeats 4000000 in
theorem lc_shade {b L x tl len i c s : Nat} {xs : Nat → Int32} {h : HP} {tp r : Nat → Nat} {S : VS} {H : HS} {Q : PQ} (a : LI b L xs h x S H tp tl r len) (hi : i + 6 ≤ L) (hL : L ≤ 3072) (hc : 12 ≤ c) (hs : 172 ≤ s)
    (nx : ∀ h' S' H' tp' tl' r' len' c' s', c ≤ c' + 12 → s ≤ s' + 172 → LI b L xs h' x S' H' tp' tl' r' len' → WP 11 268 Q (1434, [.val (.ref b), .val (.ref x), .val (.ref (x + 34)), .val (.int (nI i))], [], h', c', s')) : WP 11 268 Q (905, [.val (.ref b), .val (.ref x), .val (.ref (x + 34)), .val (.int (nI i))], [], h, c, s) := by
  have a0 := a
  obtain ⟨C, M, ⟨gS, gH⟩, rf, bk⟩ := a0
  have bk1 : SKb b L xs x h := bk
  have s1 : nI i + 1 = nI (i + 1) := nI_add i 1
  have s2 : nI i + 2 = nI (i + 2) := nI_add i 2
  have s3 : nI i + 3 = nI (i + 3) := nI_add i 3
  have s4 : nI i + 4 = nI (i + 4) := nI_add i 4
  have s5 : nI i + 5 = nI (i + 5) := nI_add i 5
  have u1 : i + 1 < 2 ^ 31 := by omega
  have u2 : i + 2 < 2 ^ 31 := by omega
  have u3 : i + 3 < 2 ^ 31 := by omega
  have u4 : i + 4 < 2 ^ 31 := by omega
  have u5 : i + 5 < 2 ^ 31 := by omega
  have v1 : i + 1 < L := by omega
  have v2 : i + 2 < L := by omega
  have v3 : i + 3 < L := by omega
  have v4 : i + 4 < L := by omega
  have v5 : i + 5 < L := by omega
  have kx : hkd h x = 15 := C.1.1.1.1
  simp only [s268_905, s268_906, s268_907, s268_908, s268_909, s268_910, s268_911, oB_some, cl2_i, cl2_r, cl2_l, cl2_u, cl2_s, wd_0, wd_i, wd_r, wd_l, wd_f, ct_i, ct_r, ct_n, ct_f, rf_s, rf_n, tl_s, tl_n, true_and, and_true, eq_self, and_self, Nat.reduceAdd, Nat.reduceLeDiff, Nat.zero_le, Nat.reduceEqDiff, or_true, true_or, false_or, or_false, if_true, if_false, gI_0, gI_1, gI_2, gI_3, gI_4, gI_5, gI_6, gI_7, gI_8, gI_9, gI_10, gI_11, gI_12, gI_13, gI_14, gI_15, gL_0, gL_1, gL_2, gL_3, gL_4, gL_5, gL_6, gL_7, gL_8, gL_9, gL_10, gL_11, gL_12, gL_13, gL_14, gL_15, gA_0, gA_1, gA_2, gA_3, gA_4, gA_5, gA_6, gA_7, gA_8, gA_9, gA_10, gA_11, gA_12, gA_13, gA_14, gA_15, p1_0, p1_1, p1_2, p1_3, p1_4, p1_5, p1_6, p1_7, p1_8, p1_9, p1_10, p1_11, p1_12, p1_13, p1_14, p1_15, p2_0, p2_1, p2_2, p2_3, p2_4, p2_5, p2_6, p2_7, p2_8, p2_9, p2_10, p2_11, p2_12, p2_13, p2_14, p2_15, kx, bk1.2.1, bk1.2.2.1, bk1.2.2.2, s1, s2, s3, s4, s5, ix_nI u1, ix_nI u2, ix_nI u3, ix_nI u4, ix_nI u5, nI_pos' u1, nI_pos' u2, nI_pos' u3, nI_pos' u4, nI_pos' u5, v1, v2, v3, v4, v5]
  refine x_shade C.1 gS.1 gS.2 (fun y e y0 => ?_) fun e h1 f1 => ?_
  · obtain ⟨h1, eh⟩ : ∃ z, z = RfC h x y := ⟨_, rfl⟩
    have fa1 : FA x h h1 := by rw [eh]; exact RfC.fa
    rw [← eh]
    have bk1 := bk1.fa fa1
    have M1 := M.fa gH fa1
    have km : hkd h1 (x + 34) = 16 := M1.1.1.1.1.1
    simp only [s268_914, s268_915, s268_916, s268_917, s268_918, s268_919, s268_920, oB_some, cl2_i, cl2_r, cl2_l, cl2_u, cl2_s, wd_0, wd_i, wd_r, wd_l, wd_f, ct_i, ct_r, ct_n, ct_f, rf_s, rf_n, tl_s, tl_n, true_and, and_true, eq_self, and_self, Nat.reduceAdd, Nat.reduceLeDiff, Nat.zero_le, Nat.reduceEqDiff, or_true, true_or, false_or, or_false, if_true, if_false, gI_0, gI_1, gI_2, gI_3, gI_4, gI_5, gI_6, gI_7, gI_8, gI_9, gI_10, gI_11, gI_12, gI_13, gI_14, gI_15, gL_0, gL_1, gL_2, gL_3, gL_4, gL_5, gL_6, gL_7, gL_8, gL_9, gL_10, gL_11, gL_12, gL_13, gL_14, gL_15, gA_0, gA_1, gA_2, gA_3, gA_4, gA_5, gA_6, gA_7, gA_8, gA_9, gA_10, gA_11, gA_12, gA_13, gA_14, gA_15, p1_0, p1_1, p1_2, p1_3, p1_4, p1_5, p1_6, p1_7, p1_8, p1_9, p1_10, p1_11, p1_12, p1_13, p1_14, p1_15, p2_0, p2_1, p2_2, p2_3, p2_4, p2_5, p2_6, p2_7, p2_8, p2_9, p2_10, p2_11, p2_12, p2_13, p2_14, p2_15, km, bk1.2.1, bk1.2.2.1, bk1.2.2.2, s1, s2, s3, s4, s5, ix_nI u1, ix_nI u2, ix_nI u3, ix_nI u4, ix_nI u5, nI_pos' u1, nI_pos' u2, nI_pos' u3, nI_pos' u4, nI_pos' u5, v1, v2, v3, v4, v5]
    refine n_shade M1.1 gS.1 gS.2 (fun y2 e2 n2 => ?_) fun e2 => absurd (e.symm.trans e2) y0
    obtain rfl := e.symm.trans e2
    simp only [s268_923, s268_926, oB_some, cl2_i, cl2_r, cl2_l, cl2_u, cl2_s, wd_0, wd_i, wd_r, wd_l, wd_f, ct_i, ct_r, ct_n, ct_f, rf_s, rf_n, tl_s, tl_n, true_and, and_true, eq_self, and_self, Nat.reduceAdd, Nat.reduceLeDiff, Nat.zero_le, Nat.reduceEqDiff, or_true, true_or, false_or, or_false, if_true, if_false, gI_0, gI_1, gI_2, gI_3, gI_4, gI_5, gI_6, gI_7, gI_8, gI_9, gI_10, gI_11, gI_12, gI_13, gI_14, gI_15, gL_0, gL_1, gL_2, gL_3, gL_4, gL_5, gL_6, gL_7, gL_8, gL_9, gL_10, gL_11, gL_12, gL_13, gL_14, gL_15, gA_0, gA_1, gA_2, gA_3, gA_4, gA_5, gA_6, gA_7, gA_8, gA_9, gA_10, gA_11, gA_12, gA_13, gA_14, gA_15, p1_0, p1_1, p1_2, p1_3, p1_4, p1_5, p1_6, p1_7, p1_8, p1_9, p1_10, p1_11, p1_12, p1_13, p1_14, p1_15, p2_0, p2_1, p2_2, p2_3, p2_4, p2_5, p2_6, p2_7, p2_8, p2_9, p2_10, p2_11, p2_12, p2_13, p2_14, p2_15, b01_ok, b_ft, b_tf, b01_e0, b01_e1, lgc_0, not_true_eq_false, not_false_eq_true]
    rw [eh]
    exact nx _ _ _ _ _ _ _ _ _ (by omega) (by omega) (a.refuse y)
  · skip
    have fa1 : FA x h h1 := f1.fa (by omega) (by omega)
    have bk1 := bk1.fa fa1
    have M1 := M.fa gH fa1
    have km : hkd h1 (x + 34) = 16 := M1.1.1.1.1.1
    simp only [s268_914, s268_915, s268_916, s268_917, s268_918, s268_919, s268_920, oB_some, cl2_i, cl2_r, cl2_l, cl2_u, cl2_s, wd_0, wd_i, wd_r, wd_l, wd_f, ct_i, ct_r, ct_n, ct_f, rf_s, rf_n, tl_s, tl_n, true_and, and_true, eq_self, and_self, Nat.reduceAdd, Nat.reduceLeDiff, Nat.zero_le, Nat.reduceEqDiff, or_true, true_or, false_or, or_false, if_true, if_false, gI_0, gI_1, gI_2, gI_3, gI_4, gI_5, gI_6, gI_7, gI_8, gI_9, gI_10, gI_11, gI_12, gI_13, gI_14, gI_15, gL_0, gL_1, gL_2, gL_3, gL_4, gL_5, gL_6, gL_7, gL_8, gL_9, gL_10, gL_11, gL_12, gL_13, gL_14, gL_15, gA_0, gA_1, gA_2, gA_3, gA_4, gA_5, gA_6, gA_7, gA_8, gA_9, gA_10, gA_11, gA_12, gA_13, gA_14, gA_15, p1_0, p1_1, p1_2, p1_3, p1_4, p1_5, p1_6, p1_7, p1_8, p1_9, p1_10, p1_11, p1_12, p1_13, p1_14, p1_15, p2_0, p2_1, p2_2, p2_3, p2_4, p2_5, p2_6, p2_7, p2_8, p2_9, p2_10, p2_11, p2_12, p2_13, p2_14, p2_15, km, bk1.2.1, bk1.2.2.1, bk1.2.2.2, s1, s2, s3, s4, s5, ix_nI u1, ix_nI u2, ix_nI u3, ix_nI u4, ix_nI u5, nI_pos' u1, nI_pos' u2, nI_pos' u3, nI_pos' u4, nI_pos' u5, v1, v2, v3, v4, v5]
    refine n_shade M1.1 gS.1 gS.2 (fun y2 e2 n2 => absurd (e2.symm.trans e) n2) fun _ h2 f2 M2 => ?_
    simp only [s268_923, s268_926, oB_some, cl2_i, cl2_r, cl2_l, cl2_u, cl2_s, wd_0, wd_i, wd_r, wd_l, wd_f, ct_i, ct_r, ct_n, ct_f, rf_s, rf_n, tl_s, tl_n, true_and, and_true, eq_self, and_self, Nat.reduceAdd, Nat.reduceLeDiff, Nat.zero_le, Nat.reduceEqDiff, or_true, true_or, false_or, or_false, if_true, if_false, gI_0, gI_1, gI_2, gI_3, gI_4, gI_5, gI_6, gI_7, gI_8, gI_9, gI_10, gI_11, gI_12, gI_13, gI_14, gI_15, gL_0, gL_1, gL_2, gL_3, gL_4, gL_5, gL_6, gL_7, gL_8, gL_9, gL_10, gL_11, gL_12, gL_13, gL_14, gL_15, gA_0, gA_1, gA_2, gA_3, gA_4, gA_5, gA_6, gA_7, gA_8, gA_9, gA_10, gA_11, gA_12, gA_13, gA_14, gA_15, p1_0, p1_1, p1_2, p1_3, p1_4, p1_5, p1_6, p1_7, p1_8, p1_9, p1_10, p1_11, p1_12, p1_13, p1_14, p1_15, p2_0, p2_1, p2_2, p2_3, p2_4, p2_5, p2_6, p2_7, p2_8, p2_9, p2_10, p2_11, p2_12, p2_13, p2_14, p2_15, b01_ok, b_ft, b_tf, b01_e0, b01_e1, lgc_0, not_true_eq_false, not_false_eq_true]
    exact nx _ _ _ _ _ _ _ _ _ (by omega) (by omega) (a.ask f1 f2 M2)
set_option maxHeartbeats 4000000 in
theorem lc_whatKind {b L x tl len i c s : Nat} {xs : Nat → Int32} {h : HP} {tp r : Nat → Nat} {S : VS} {H : HS} {Q : PQ} (a : LI b L xs h x S H tp tl r len) (hi : i + 6 ≤ L) (hL : L ≤ 3072) (hc : 12 ≤ c) (hs : 172 ≤ s)
    (nx : ∀ h' S' H' tp' tl' r' len' c' s', c ≤ c' + 12 → s ≤ s' + 172 → LI b L xs h' x S' H' tp' tl' r' len' → WP 11 268 Q (1434, [.val (.ref b), .val (.ref x), .val (.ref (x + 34)), .val (.int (nI i))], [], h', c', s')) : WP 11 268 Q (928, [.val (.ref b), .val (.ref x), .val (.ref (x + 34)), .val (.int (nI i))], [], h, c, s) := by
  have a0 := a
  obtain ⟨C, M, ⟨gS, gH⟩, rf, bk⟩ := a0
  have bk1 : SKb b L xs x h := bk
  have s1 : nI i + 1 = nI (i + 1) := nI_add i 1
  have s2 : nI i + 2 = nI (i + 2) := nI_add i 2
  have s3 : nI i + 3 = nI (i + 3) := nI_add i 3
  have s4 : nI i + 4 = nI (i + 4) := nI_add i 4
  have s5 : nI i + 5 = nI (i + 5) := nI_add i 5
  have u1 : i + 1 < 2 ^ 31 := by omega
  have u2 : i + 2 < 2 ^ 31 := by omega
  have u3 : i + 3 < 2 ^ 31 := by omega
  have u4 : i + 4 < 2 ^ 31 := by omega
  have u5 : i + 5 < 2 ^ 31 := by omega
  have v1 : i + 1 < L := by omega
  have v2 : i + 2 < L := by omega
  have v3 : i + 3 < L := by omega
  have v4 : i + 4 < L := by omega
  have v5 : i + 5 < L := by omega
  have kx : hkd h x = 15 := C.1.1.1.1
  simp only [s268_928, s268_929, s268_930, s268_931, s268_932, s268_933, s268_934, s268_935, s268_936, s268_937, s268_938, s268_939, oB_some, cl2_i, cl2_r, cl2_l, cl2_u, cl2_s, wd_0, wd_i, wd_r, wd_l, wd_f, ct_i, ct_r, ct_n, ct_f, rf_s, rf_n, tl_s, tl_n, true_and, and_true, eq_self, and_self, Nat.reduceAdd, Nat.reduceLeDiff, Nat.zero_le, Nat.reduceEqDiff, or_true, true_or, false_or, or_false, if_true, if_false, gI_0, gI_1, gI_2, gI_3, gI_4, gI_5, gI_6, gI_7, gI_8, gI_9, gI_10, gI_11, gI_12, gI_13, gI_14, gI_15, gL_0, gL_1, gL_2, gL_3, gL_4, gL_5, gL_6, gL_7, gL_8, gL_9, gL_10, gL_11, gL_12, gL_13, gL_14, gL_15, gA_0, gA_1, gA_2, gA_3, gA_4, gA_5, gA_6, gA_7, gA_8, gA_9, gA_10, gA_11, gA_12, gA_13, gA_14, gA_15, p1_0, p1_1, p1_2, p1_3, p1_4, p1_5, p1_6, p1_7, p1_8, p1_9, p1_10, p1_11, p1_12, p1_13, p1_14, p1_15, p2_0, p2_1, p2_2, p2_3, p2_4, p2_5, p2_6, p2_7, p2_8, p2_9, p2_10, p2_11, p2_12, p2_13, p2_14, p2_15, kx, bk1.2.1, bk1.2.2.1, bk1.2.2.2, s1, s2, s3, s4, s5, ix_nI u1, ix_nI u2, ix_nI u3, ix_nI u4, ix_nI u5, nI_pos' u1, nI_pos' u2, nI_pos' u3, nI_pos' u4, nI_pos' u5, v1, v2, v3, v4, v5]
  refine x_whatKind C.1 gS.1 gS.2 C.2.2.2 (fun y e y0 => ?_) fun e => ?_
  · obtain ⟨h1, eh⟩ : ∃ z, z = RfC h x y := ⟨_, rfl⟩
    have fa1 : FA x h h1 := by rw [eh]; exact RfC.fa
    rw [← eh]
    have bk1 := bk1.fa fa1
    have M1 := M.fa gH fa1
    have km : hkd h1 (x + 34) = 16 := M1.1.1.1.1.1
    simp only [s268_942, s268_943, s268_944, s268_945, s268_946, s268_947, s268_948, s268_949, s268_950, s268_951, s268_952, s268_953, oB_some, cl2_i, cl2_r, cl2_l, cl2_u, cl2_s, wd_0, wd_i, wd_r, wd_l, wd_f, ct_i, ct_r, ct_n, ct_f, rf_s, rf_n, tl_s, tl_n, true_and, and_true, eq_self, and_self, Nat.reduceAdd, Nat.reduceLeDiff, Nat.zero_le, Nat.reduceEqDiff, or_true, true_or, false_or, or_false, if_true, if_false, gI_0, gI_1, gI_2, gI_3, gI_4, gI_5, gI_6, gI_7, gI_8, gI_9, gI_10, gI_11, gI_12, gI_13, gI_14, gI_15, gL_0, gL_1, gL_2, gL_3, gL_4, gL_5, gL_6, gL_7, gL_8, gL_9, gL_10, gL_11, gL_12, gL_13, gL_14, gL_15, gA_0, gA_1, gA_2, gA_3, gA_4, gA_5, gA_6, gA_7, gA_8, gA_9, gA_10, gA_11, gA_12, gA_13, gA_14, gA_15, p1_0, p1_1, p1_2, p1_3, p1_4, p1_5, p1_6, p1_7, p1_8, p1_9, p1_10, p1_11, p1_12, p1_13, p1_14, p1_15, p2_0, p2_1, p2_2, p2_3, p2_4, p2_5, p2_6, p2_7, p2_8, p2_9, p2_10, p2_11, p2_12, p2_13, p2_14, p2_15, km, bk1.2.1, bk1.2.2.1, bk1.2.2.2, s1, s2, s3, s4, s5, ix_nI u1, ix_nI u2, ix_nI u3, ix_nI u4, ix_nI u5, nI_pos' u1, nI_pos' u2, nI_pos' u3, nI_pos' u4, nI_pos' u5, v1, v2, v3, v4, v5]
    refine n_whatKind M1.1 gS.1 gS.2 M1.2.2.2 (fun y2 e2 n2 => ?_) fun e2 => absurd (e.symm.trans e2) y0
    obtain rfl := e.symm.trans e2
    simp only [s268_956, s268_959, oB_some, cl2_i, cl2_r, cl2_l, cl2_u, cl2_s, wd_0, wd_i, wd_r, wd_l, wd_f, ct_i, ct_r, ct_n, ct_f, rf_s, rf_n, tl_s, tl_n, true_and, and_true, eq_self, and_self, Nat.reduceAdd, Nat.reduceLeDiff, Nat.zero_le, Nat.reduceEqDiff, or_true, true_or, false_or, or_false, if_true, if_false, gI_0, gI_1, gI_2, gI_3, gI_4, gI_5, gI_6, gI_7, gI_8, gI_9, gI_10, gI_11, gI_12, gI_13, gI_14, gI_15, gL_0, gL_1, gL_2, gL_3, gL_4, gL_5, gL_6, gL_7, gL_8, gL_9, gL_10, gL_11, gL_12, gL_13, gL_14, gL_15, gA_0, gA_1, gA_2, gA_3, gA_4, gA_5, gA_6, gA_7, gA_8, gA_9, gA_10, gA_11, gA_12, gA_13, gA_14, gA_15, p1_0, p1_1, p1_2, p1_3, p1_4, p1_5, p1_6, p1_7, p1_8, p1_9, p1_10, p1_11, p1_12, p1_13, p1_14, p1_15, p2_0, p2_1, p2_2, p2_3, p2_4, p2_5, p2_6, p2_7, p2_8, p2_9, p2_10, p2_11, p2_12, p2_13, p2_14, p2_15, b01_ok, b_ft, b_tf, b01_e0, b01_e1, lgc_0, not_true_eq_false, not_false_eq_true]
    rw [eh]
    exact nx _ _ _ _ _ _ _ _ _ (by omega) (by omega) (a.refuse y)
  · obtain ⟨h1, eh⟩ : ∃ z, z = h := ⟨_, rfl⟩
    have f1 : Fm (x + 20) 14 h h1 := by rw [eh]; exact Fm.rf
    rw [← eh]
    have fa1 : FA x h h1 := f1.fa (by omega) (by omega)
    have bk1 := bk1.fa fa1
    have M1 := M.fa gH fa1
    have km : hkd h1 (x + 34) = 16 := M1.1.1.1.1.1
    simp only [s268_942, s268_943, s268_944, s268_945, s268_946, s268_947, s268_948, s268_949, s268_950, s268_951, s268_952, s268_953, oB_some, cl2_i, cl2_r, cl2_l, cl2_u, cl2_s, wd_0, wd_i, wd_r, wd_l, wd_f, ct_i, ct_r, ct_n, ct_f, rf_s, rf_n, tl_s, tl_n, true_and, and_true, eq_self, and_self, Nat.reduceAdd, Nat.reduceLeDiff, Nat.zero_le, Nat.reduceEqDiff, or_true, true_or, false_or, or_false, if_true, if_false, gI_0, gI_1, gI_2, gI_3, gI_4, gI_5, gI_6, gI_7, gI_8, gI_9, gI_10, gI_11, gI_12, gI_13, gI_14, gI_15, gL_0, gL_1, gL_2, gL_3, gL_4, gL_5, gL_6, gL_7, gL_8, gL_9, gL_10, gL_11, gL_12, gL_13, gL_14, gL_15, gA_0, gA_1, gA_2, gA_3, gA_4, gA_5, gA_6, gA_7, gA_8, gA_9, gA_10, gA_11, gA_12, gA_13, gA_14, gA_15, p1_0, p1_1, p1_2, p1_3, p1_4, p1_5, p1_6, p1_7, p1_8, p1_9, p1_10, p1_11, p1_12, p1_13, p1_14, p1_15, p2_0, p2_1, p2_2, p2_3, p2_4, p2_5, p2_6, p2_7, p2_8, p2_9, p2_10, p2_11, p2_12, p2_13, p2_14, p2_15, km, bk1.2.1, bk1.2.2.1, bk1.2.2.2, s1, s2, s3, s4, s5, ix_nI u1, ix_nI u2, ix_nI u3, ix_nI u4, ix_nI u5, nI_pos' u1, nI_pos' u2, nI_pos' u3, nI_pos' u4, nI_pos' u5, v1, v2, v3, v4, v5]
    refine n_whatKind M1.1 gS.1 gS.2 M1.2.2.2 (fun y2 e2 n2 => absurd (e2.symm.trans e) n2) fun _ h2 f2 M2 => ?_
    simp only [s268_956, s268_959, oB_some, cl2_i, cl2_r, cl2_l, cl2_u, cl2_s, wd_0, wd_i, wd_r, wd_l, wd_f, ct_i, ct_r, ct_n, ct_f, rf_s, rf_n, tl_s, tl_n, true_and, and_true, eq_self, and_self, Nat.reduceAdd, Nat.reduceLeDiff, Nat.zero_le, Nat.reduceEqDiff, or_true, true_or, false_or, or_false, if_true, if_false, gI_0, gI_1, gI_2, gI_3, gI_4, gI_5, gI_6, gI_7, gI_8, gI_9, gI_10, gI_11, gI_12, gI_13, gI_14, gI_15, gL_0, gL_1, gL_2, gL_3, gL_4, gL_5, gL_6, gL_7, gL_8, gL_9, gL_10, gL_11, gL_12, gL_13, gL_14, gL_15, gA_0, gA_1, gA_2, gA_3, gA_4, gA_5, gA_6, gA_7, gA_8, gA_9, gA_10, gA_11, gA_12, gA_13, gA_14, gA_15, p1_0, p1_1, p1_2, p1_3, p1_4, p1_5, p1_6, p1_7, p1_8, p1_9, p1_10, p1_11, p1_12, p1_13, p1_14, p1_15, p2_0, p2_1, p2_2, p2_3, p2_4, p2_5, p2_6, p2_7, p2_8, p2_9, p2_10, p2_11, p2_12, p2_13, p2_14, p2_15, b01_ok, b_ft, b_tf, b01_e0, b01_e1, lgc_0, not_true_eq_false, not_false_eq_true]
    exact nx _ _ _ _ _ _ _ _ _ (by omega) (by omega) (a.ask f1 f2 M2)
set_option maxHeartbeats 4000000 in
theorem lc_toWhom {b L x tl len i c s : Nat} {xs : Nat → Int32} {h : HP} {tp r : Nat → Nat} {S : VS} {H : HS} {Q : PQ} (a : LI b L xs h x S H tp tl r len) (hi : i + 6 ≤ L) (hL : L ≤ 3072) (hc : 12 ≤ c) (hs : 172 ≤ s)
    (nx : ∀ h' S' H' tp' tl' r' len' c' s', c ≤ c' + 12 → s ≤ s' + 172 → LI b L xs h' x S' H' tp' tl' r' len' → WP 11 268 Q (1434, [.val (.ref b), .val (.ref x), .val (.ref (x + 34)), .val (.int (nI i))], [], h', c', s')) : WP 11 268 Q (961, [.val (.ref b), .val (.ref x), .val (.ref (x + 34)), .val (.int (nI i))], [], h, c, s) := by
  have a0 := a
  obtain ⟨C, M, ⟨gS, gH⟩, rf, bk⟩ := a0
  have bk1 : SKb b L xs x h := bk
  have s1 : nI i + 1 = nI (i + 1) := nI_add i 1
  have s2 : nI i + 2 = nI (i + 2) := nI_add i 2
  have s3 : nI i + 3 = nI (i + 3) := nI_add i 3
  have s4 : nI i + 4 = nI (i + 4) := nI_add i 4
  have s5 : nI i + 5 = nI (i + 5) := nI_add i 5
  have u1 : i + 1 < 2 ^ 31 := by omega
  have u2 : i + 2 < 2 ^ 31 := by omega
  have u3 : i + 3 < 2 ^ 31 := by omega
  have u4 : i + 4 < 2 ^ 31 := by omega
  have u5 : i + 5 < 2 ^ 31 := by omega
  have v1 : i + 1 < L := by omega
  have v2 : i + 2 < L := by omega
  have v3 : i + 3 < L := by omega
  have v4 : i + 4 < L := by omega
  have v5 : i + 5 < L := by omega
  have kx : hkd h x = 15 := C.1.1.1.1
  simp only [s268_961, s268_962, s268_963, s268_964, s268_965, s268_966, s268_967, s268_968, s268_969, s268_970, s268_971, s268_972, oB_some, cl2_i, cl2_r, cl2_l, cl2_u, cl2_s, wd_0, wd_i, wd_r, wd_l, wd_f, ct_i, ct_r, ct_n, ct_f, rf_s, rf_n, tl_s, tl_n, true_and, and_true, eq_self, and_self, Nat.reduceAdd, Nat.reduceLeDiff, Nat.zero_le, Nat.reduceEqDiff, or_true, true_or, false_or, or_false, if_true, if_false, gI_0, gI_1, gI_2, gI_3, gI_4, gI_5, gI_6, gI_7, gI_8, gI_9, gI_10, gI_11, gI_12, gI_13, gI_14, gI_15, gL_0, gL_1, gL_2, gL_3, gL_4, gL_5, gL_6, gL_7, gL_8, gL_9, gL_10, gL_11, gL_12, gL_13, gL_14, gL_15, gA_0, gA_1, gA_2, gA_3, gA_4, gA_5, gA_6, gA_7, gA_8, gA_9, gA_10, gA_11, gA_12, gA_13, gA_14, gA_15, p1_0, p1_1, p1_2, p1_3, p1_4, p1_5, p1_6, p1_7, p1_8, p1_9, p1_10, p1_11, p1_12, p1_13, p1_14, p1_15, p2_0, p2_1, p2_2, p2_3, p2_4, p2_5, p2_6, p2_7, p2_8, p2_9, p2_10, p2_11, p2_12, p2_13, p2_14, p2_15, kx, bk1.2.1, bk1.2.2.1, bk1.2.2.2, s1, s2, s3, s4, s5, ix_nI u1, ix_nI u2, ix_nI u3, ix_nI u4, ix_nI u5, nI_pos' u1, nI_pos' u2, nI_pos' u3, nI_pos' u4, nI_pos' u5, v1, v2, v3, v4, v5]
  refine x_toWhom C.1 gS.1 gS.2 C.2.2.2 (fun y e y0 => ?_) fun e h1 f1 => ?_
  · obtain ⟨h1, eh⟩ : ∃ z, z = RfC h x y := ⟨_, rfl⟩
    have fa1 : FA x h h1 := by rw [eh]; exact RfC.fa
    rw [← eh]
    have bk1 := bk1.fa fa1
    have M1 := M.fa gH fa1
    have km : hkd h1 (x + 34) = 16 := M1.1.1.1.1.1
    simp only [s268_975, s268_976, s268_977, s268_978, s268_979, s268_980, s268_981, s268_982, s268_983, s268_984, s268_985, s268_986, oB_some, cl2_i, cl2_r, cl2_l, cl2_u, cl2_s, wd_0, wd_i, wd_r, wd_l, wd_f, ct_i, ct_r, ct_n, ct_f, rf_s, rf_n, tl_s, tl_n, true_and, and_true, eq_self, and_self, Nat.reduceAdd, Nat.reduceLeDiff, Nat.zero_le, Nat.reduceEqDiff, or_true, true_or, false_or, or_false, if_true, if_false, gI_0, gI_1, gI_2, gI_3, gI_4, gI_5, gI_6, gI_7, gI_8, gI_9, gI_10, gI_11, gI_12, gI_13, gI_14, gI_15, gL_0, gL_1, gL_2, gL_3, gL_4, gL_5, gL_6, gL_7, gL_8, gL_9, gL_10, gL_11, gL_12, gL_13, gL_14, gL_15, gA_0, gA_1, gA_2, gA_3, gA_4, gA_5, gA_6, gA_7, gA_8, gA_9, gA_10, gA_11, gA_12, gA_13, gA_14, gA_15, p1_0, p1_1, p1_2, p1_3, p1_4, p1_5, p1_6, p1_7, p1_8, p1_9, p1_10, p1_11, p1_12, p1_13, p1_14, p1_15, p2_0, p2_1, p2_2, p2_3, p2_4, p2_5, p2_6, p2_7, p2_8, p2_9, p2_10, p2_11, p2_12, p2_13, p2_14, p2_15, km, bk1.2.1, bk1.2.2.1, bk1.2.2.2, s1, s2, s3, s4, s5, ix_nI u1, ix_nI u2, ix_nI u3, ix_nI u4, ix_nI u5, nI_pos' u1, nI_pos' u2, nI_pos' u3, nI_pos' u4, nI_pos' u5, v1, v2, v3, v4, v5]
    refine n_toWhom M1.1 gS.1 gS.2 M1.2.2.2 (fun y2 e2 n2 => ?_) fun e2 => absurd (e.symm.trans e2) y0
    obtain rfl := e.symm.trans e2
    simp only [s268_989, s268_992, oB_some, cl2_i, cl2_r, cl2_l, cl2_u, cl2_s, wd_0, wd_i, wd_r, wd_l, wd_f, ct_i, ct_r, ct_n, ct_f, rf_s, rf_n, tl_s, tl_n, true_and, and_true, eq_self, and_self, Nat.reduceAdd, Nat.reduceLeDiff, Nat.zero_le, Nat.reduceEqDiff, or_true, true_or, false_or, or_false, if_true, if_false, gI_0, gI_1, gI_2, gI_3, gI_4, gI_5, gI_6, gI_7, gI_8, gI_9, gI_10, gI_11, gI_12, gI_13, gI_14, gI_15, gL_0, gL_1, gL_2, gL_3, gL_4, gL_5, gL_6, gL_7, gL_8, gL_9, gL_10, gL_11, gL_12, gL_13, gL_14, gL_15, gA_0, gA_1, gA_2, gA_3, gA_4, gA_5, gA_6, gA_7, gA_8, gA_9, gA_10, gA_11, gA_12, gA_13, gA_14, gA_15, p1_0, p1_1, p1_2, p1_3, p1_4, p1_5, p1_6, p1_7, p1_8, p1_9, p1_10, p1_11, p1_12, p1_13, p1_14, p1_15, p2_0, p2_1, p2_2, p2_3, p2_4, p2_5, p2_6, p2_7, p2_8, p2_9, p2_10, p2_11, p2_12, p2_13, p2_14, p2_15, b01_ok, b_ft, b_tf, b01_e0, b01_e1, lgc_0, not_true_eq_false, not_false_eq_true]
    rw [eh]
    exact nx _ _ _ _ _ _ _ _ _ (by omega) (by omega) (a.refuse y)
  · skip
    have fa1 : FA x h h1 := f1.fa (by omega) (by omega)
    have bk1 := bk1.fa fa1
    have M1 := M.fa gH fa1
    have km : hkd h1 (x + 34) = 16 := M1.1.1.1.1.1
    simp only [s268_975, s268_976, s268_977, s268_978, s268_979, s268_980, s268_981, s268_982, s268_983, s268_984, s268_985, s268_986, oB_some, cl2_i, cl2_r, cl2_l, cl2_u, cl2_s, wd_0, wd_i, wd_r, wd_l, wd_f, ct_i, ct_r, ct_n, ct_f, rf_s, rf_n, tl_s, tl_n, true_and, and_true, eq_self, and_self, Nat.reduceAdd, Nat.reduceLeDiff, Nat.zero_le, Nat.reduceEqDiff, or_true, true_or, false_or, or_false, if_true, if_false, gI_0, gI_1, gI_2, gI_3, gI_4, gI_5, gI_6, gI_7, gI_8, gI_9, gI_10, gI_11, gI_12, gI_13, gI_14, gI_15, gL_0, gL_1, gL_2, gL_3, gL_4, gL_5, gL_6, gL_7, gL_8, gL_9, gL_10, gL_11, gL_12, gL_13, gL_14, gL_15, gA_0, gA_1, gA_2, gA_3, gA_4, gA_5, gA_6, gA_7, gA_8, gA_9, gA_10, gA_11, gA_12, gA_13, gA_14, gA_15, p1_0, p1_1, p1_2, p1_3, p1_4, p1_5, p1_6, p1_7, p1_8, p1_9, p1_10, p1_11, p1_12, p1_13, p1_14, p1_15, p2_0, p2_1, p2_2, p2_3, p2_4, p2_5, p2_6, p2_7, p2_8, p2_9, p2_10, p2_11, p2_12, p2_13, p2_14, p2_15, km, bk1.2.1, bk1.2.2.1, bk1.2.2.2, s1, s2, s3, s4, s5, ix_nI u1, ix_nI u2, ix_nI u3, ix_nI u4, ix_nI u5, nI_pos' u1, nI_pos' u2, nI_pos' u3, nI_pos' u4, nI_pos' u5, v1, v2, v3, v4, v5]
    refine n_toWhom M1.1 gS.1 gS.2 M1.2.2.2 (fun y2 e2 n2 => absurd (e2.symm.trans e) n2) fun _ h2 f2 M2 => ?_
    simp only [s268_989, s268_992, oB_some, cl2_i, cl2_r, cl2_l, cl2_u, cl2_s, wd_0, wd_i, wd_r, wd_l, wd_f, ct_i, ct_r, ct_n, ct_f, rf_s, rf_n, tl_s, tl_n, true_and, and_true, eq_self, and_self, Nat.reduceAdd, Nat.reduceLeDiff, Nat.zero_le, Nat.reduceEqDiff, or_true, true_or, false_or, or_false, if_true, if_false, gI_0, gI_1, gI_2, gI_3, gI_4, gI_5, gI_6, gI_7, gI_8, gI_9, gI_10, gI_11, gI_12, gI_13, gI_14, gI_15, gL_0, gL_1, gL_2, gL_3, gL_4, gL_5, gL_6, gL_7, gL_8, gL_9, gL_10, gL_11, gL_12, gL_13, gL_14, gL_15, gA_0, gA_1, gA_2, gA_3, gA_4, gA_5, gA_6, gA_7, gA_8, gA_9, gA_10, gA_11, gA_12, gA_13, gA_14, gA_15, p1_0, p1_1, p1_2, p1_3, p1_4, p1_5, p1_6, p1_7, p1_8, p1_9, p1_10, p1_11, p1_12, p1_13, p1_14, p1_15, p2_0, p2_1, p2_2, p2_3, p2_4, p2_5, p2_6, p2_7, p2_8, p2_9, p2_10, p2_11, p2_12, p2_13, p2_14, p2_15, b01_ok, b_ft, b_tf, b01_e0, b01_e1, lgc_0, not_true_eq_false, not_false_eq_true]
    exact nx _ _ _ _ _ _ _ _ _ (by omega) (by omega) (a.ask f1 f2 M2)
set_option maxHeartbeats 4000000 in
theorem lc_two {b L x tl len i c s : Nat} {xs : Nat → Int32} {h : HP} {tp r : Nat → Nat} {S : VS} {H : HS} {Q : PQ} (a : LI b L xs h x S H tp tl r len) (hi : i + 6 ≤ L) (hL : L ≤ 3072) (hc : 12 ≤ c) (hs : 172 ≤ s)
    (nx : ∀ h' S' H' tp' tl' r' len' c' s', c ≤ c' + 12 → s ≤ s' + 172 → LI b L xs h' x S' H' tp' tl' r' len' → WP 11 268 Q (1434, [.val (.ref b), .val (.ref x), .val (.ref (x + 34)), .val (.int (nI i))], [], h', c', s')) : WP 11 268 Q (994, [.val (.ref b), .val (.ref x), .val (.ref (x + 34)), .val (.int (nI i))], [], h, c, s) := by
  have a0 := a
  obtain ⟨C, M, ⟨gS, gH⟩, rf, bk⟩ := a0
  have bk1 : SKb b L xs x h := bk
  have s1 : nI i + 1 = nI (i + 1) := nI_add i 1
  have s2 : nI i + 2 = nI (i + 2) := nI_add i 2
  have s3 : nI i + 3 = nI (i + 3) := nI_add i 3
  have s4 : nI i + 4 = nI (i + 4) := nI_add i 4
  have s5 : nI i + 5 = nI (i + 5) := nI_add i 5
  have u1 : i + 1 < 2 ^ 31 := by omega
  have u2 : i + 2 < 2 ^ 31 := by omega
  have u3 : i + 3 < 2 ^ 31 := by omega
  have u4 : i + 4 < 2 ^ 31 := by omega
  have u5 : i + 5 < 2 ^ 31 := by omega
  have v1 : i + 1 < L := by omega
  have v2 : i + 2 < L := by omega
  have v3 : i + 3 < L := by omega
  have v4 : i + 4 < L := by omega
  have v5 : i + 5 < L := by omega
  have kx : hkd h x = 15 := C.1.1.1.1
  simp only [s268_994, s268_995, s268_996, s268_997, s268_998, s268_999, s268_1000, s268_1001, s268_1002, s268_1003, s268_1004, s268_1005, s268_1006, s268_1007, s268_1008, s268_1009, s268_1010, oB_some, cl2_i, cl2_r, cl2_l, cl2_u, cl2_s, wd_0, wd_i, wd_r, wd_l, wd_f, ct_i, ct_r, ct_n, ct_f, rf_s, rf_n, tl_s, tl_n, true_and, and_true, eq_self, and_self, Nat.reduceAdd, Nat.reduceLeDiff, Nat.zero_le, Nat.reduceEqDiff, or_true, true_or, false_or, or_false, if_true, if_false, gI_0, gI_1, gI_2, gI_3, gI_4, gI_5, gI_6, gI_7, gI_8, gI_9, gI_10, gI_11, gI_12, gI_13, gI_14, gI_15, gL_0, gL_1, gL_2, gL_3, gL_4, gL_5, gL_6, gL_7, gL_8, gL_9, gL_10, gL_11, gL_12, gL_13, gL_14, gL_15, gA_0, gA_1, gA_2, gA_3, gA_4, gA_5, gA_6, gA_7, gA_8, gA_9, gA_10, gA_11, gA_12, gA_13, gA_14, gA_15, p1_0, p1_1, p1_2, p1_3, p1_4, p1_5, p1_6, p1_7, p1_8, p1_9, p1_10, p1_11, p1_12, p1_13, p1_14, p1_15, p2_0, p2_1, p2_2, p2_3, p2_4, p2_5, p2_6, p2_7, p2_8, p2_9, p2_10, p2_11, p2_12, p2_13, p2_14, p2_15, kx, bk1.2.1, bk1.2.2.1, bk1.2.2.2, s1, s2, s3, s4, s5, ix_nI u1, ix_nI u2, ix_nI u3, ix_nI u4, ix_nI u5, nI_pos' u1, nI_pos' u2, nI_pos' u3, nI_pos' u4, nI_pos' u5, v1, v2, v3, v4, v5]
  refine x_two C.1 gS.1 gS.2 (fun y e y0 => ?_) fun e h1 f1 => ?_
  · obtain ⟨h1, eh⟩ : ∃ z, z = RfC h x y := ⟨_, rfl⟩
    have fa1 : FA x h h1 := by rw [eh]; exact RfC.fa
    rw [← eh]
    have bk1 := bk1.fa fa1
    have M1 := M.fa gH fa1
    have km : hkd h1 (x + 34) = 16 := M1.1.1.1.1.1
    simp only [s268_1013, s268_1014, s268_1015, s268_1016, s268_1017, s268_1018, s268_1019, s268_1020, s268_1021, s268_1022, s268_1023, s268_1024, s268_1025, s268_1026, s268_1027, s268_1028, s268_1029, oB_some, cl2_i, cl2_r, cl2_l, cl2_u, cl2_s, wd_0, wd_i, wd_r, wd_l, wd_f, ct_i, ct_r, ct_n, ct_f, rf_s, rf_n, tl_s, tl_n, true_and, and_true, eq_self, and_self, Nat.reduceAdd, Nat.reduceLeDiff, Nat.zero_le, Nat.reduceEqDiff, or_true, true_or, false_or, or_false, if_true, if_false, gI_0, gI_1, gI_2, gI_3, gI_4, gI_5, gI_6, gI_7, gI_8, gI_9, gI_10, gI_11, gI_12, gI_13, gI_14, gI_15, gL_0, gL_1, gL_2, gL_3, gL_4, gL_5, gL_6, gL_7, gL_8, gL_9, gL_10, gL_11, gL_12, gL_13, gL_14, gL_15, gA_0, gA_1, gA_2, gA_3, gA_4, gA_5, gA_6, gA_7, gA_8, gA_9, gA_10, gA_11, gA_12, gA_13, gA_14, gA_15, p1_0, p1_1, p1_2, p1_3, p1_4, p1_5, p1_6, p1_7, p1_8, p1_9, p1_10, p1_11, p1_12, p1_13, p1_14, p1_15, p2_0, p2_1, p2_2, p2_3, p2_4, p2_5, p2_6, p2_7, p2_8, p2_9, p2_10, p2_11, p2_12, p2_13, p2_14, p2_15, km, bk1.2.1, bk1.2.2.1, bk1.2.2.2, s1, s2, s3, s4, s5, ix_nI u1, ix_nI u2, ix_nI u3, ix_nI u4, ix_nI u5, nI_pos' u1, nI_pos' u2, nI_pos' u3, nI_pos' u4, nI_pos' u5, v1, v2, v3, v4, v5]
    refine n_two M1.1 gS.1 gS.2 (fun y2 e2 n2 => ?_) fun e2 => absurd (e.symm.trans e2) y0
    obtain rfl := e.symm.trans e2
    simp only [s268_1032, s268_1035, oB_some, cl2_i, cl2_r, cl2_l, cl2_u, cl2_s, wd_0, wd_i, wd_r, wd_l, wd_f, ct_i, ct_r, ct_n, ct_f, rf_s, rf_n, tl_s, tl_n, true_and, and_true, eq_self, and_self, Nat.reduceAdd, Nat.reduceLeDiff, Nat.zero_le, Nat.reduceEqDiff, or_true, true_or, false_or, or_false, if_true, if_false, gI_0, gI_1, gI_2, gI_3, gI_4, gI_5, gI_6, gI_7, gI_8, gI_9, gI_10, gI_11, gI_12, gI_13, gI_14, gI_15, gL_0, gL_1, gL_2, gL_3, gL_4, gL_5, gL_6, gL_7, gL_8, gL_9, gL_10, gL_11, gL_12, gL_13, gL_14, gL_15, gA_0, gA_1, gA_2, gA_3, gA_4, gA_5, gA_6, gA_7, gA_8, gA_9, gA_10, gA_11, gA_12, gA_13, gA_14, gA_15, p1_0, p1_1, p1_2, p1_3, p1_4, p1_5, p1_6, p1_7, p1_8, p1_9, p1_10, p1_11, p1_12, p1_13, p1_14, p1_15, p2_0, p2_1, p2_2, p2_3, p2_4, p2_5, p2_6, p2_7, p2_8, p2_9, p2_10, p2_11, p2_12, p2_13, p2_14, p2_15, b01_ok, b_ft, b_tf, b01_e0, b01_e1, lgc_0, not_true_eq_false, not_false_eq_true]
    rw [eh]
    exact nx _ _ _ _ _ _ _ _ _ (by omega) (by omega) (a.refuse y)
  · skip
    have fa1 : FA x h h1 := f1.fa (by omega) (by omega)
    have bk1 := bk1.fa fa1
    have M1 := M.fa gH fa1
    have km : hkd h1 (x + 34) = 16 := M1.1.1.1.1.1
    simp only [s268_1013, s268_1014, s268_1015, s268_1016, s268_1017, s268_1018, s268_1019, s268_1020, s268_1021, s268_1022, s268_1023, s268_1024, s268_1025, s268_1026, s268_1027, s268_1028, s268_1029, oB_some, cl2_i, cl2_r, cl2_l, cl2_u, cl2_s, wd_0, wd_i, wd_r, wd_l, wd_f, ct_i, ct_r, ct_n, ct_f, rf_s, rf_n, tl_s, tl_n, true_and, and_true, eq_self, and_self, Nat.reduceAdd, Nat.reduceLeDiff, Nat.zero_le, Nat.reduceEqDiff, or_true, true_or, false_or, or_false, if_true, if_false, gI_0, gI_1, gI_2, gI_3, gI_4, gI_5, gI_6, gI_7, gI_8, gI_9, gI_10, gI_11, gI_12, gI_13, gI_14, gI_15, gL_0, gL_1, gL_2, gL_3, gL_4, gL_5, gL_6, gL_7, gL_8, gL_9, gL_10, gL_11, gL_12, gL_13, gL_14, gL_15, gA_0, gA_1, gA_2, gA_3, gA_4, gA_5, gA_6, gA_7, gA_8, gA_9, gA_10, gA_11, gA_12, gA_13, gA_14, gA_15, p1_0, p1_1, p1_2, p1_3, p1_4, p1_5, p1_6, p1_7, p1_8, p1_9, p1_10, p1_11, p1_12, p1_13, p1_14, p1_15, p2_0, p2_1, p2_2, p2_3, p2_4, p2_5, p2_6, p2_7, p2_8, p2_9, p2_10, p2_11, p2_12, p2_13, p2_14, p2_15, km, bk1.2.1, bk1.2.2.1, bk1.2.2.2, s1, s2, s3, s4, s5, ix_nI u1, ix_nI u2, ix_nI u3, ix_nI u4, ix_nI u5, nI_pos' u1, nI_pos' u2, nI_pos' u3, nI_pos' u4, nI_pos' u5, v1, v2, v3, v4, v5]
    refine n_two M1.1 gS.1 gS.2 (fun y2 e2 n2 => absurd (e2.symm.trans e) n2) fun _ h2 f2 M2 => ?_
    simp only [s268_1032, s268_1035, oB_some, cl2_i, cl2_r, cl2_l, cl2_u, cl2_s, wd_0, wd_i, wd_r, wd_l, wd_f, ct_i, ct_r, ct_n, ct_f, rf_s, rf_n, tl_s, tl_n, true_and, and_true, eq_self, and_self, Nat.reduceAdd, Nat.reduceLeDiff, Nat.zero_le, Nat.reduceEqDiff, or_true, true_or, false_or, or_false, if_true, if_false, gI_0, gI_1, gI_2, gI_3, gI_4, gI_5, gI_6, gI_7, gI_8, gI_9, gI_10, gI_11, gI_12, gI_13, gI_14, gI_15, gL_0, gL_1, gL_2, gL_3, gL_4, gL_5, gL_6, gL_7, gL_8, gL_9, gL_10, gL_11, gL_12, gL_13, gL_14, gL_15, gA_0, gA_1, gA_2, gA_3, gA_4, gA_5, gA_6, gA_7, gA_8, gA_9, gA_10, gA_11, gA_12, gA_13, gA_14, gA_15, p1_0, p1_1, p1_2, p1_3, p1_4, p1_5, p1_6, p1_7, p1_8, p1_9, p1_10, p1_11, p1_12, p1_13, p1_14, p1_15, p2_0, p2_1, p2_2, p2_3, p2_4, p2_5, p2_6, p2_7, p2_8, p2_9, p2_10, p2_11, p2_12, p2_13, p2_14, p2_15, b01_ok, b_ft, b_tf, b01_e0, b01_e1, lgc_0, not_true_eq_false, not_false_eq_true]
    exact nx _ _ _ _ _ _ _ _ _ (by omega) (by omega) (a.ask f1 f2 M2)
set_option maxHeartbeats 4000000 in
theorem lc_damp {b L x tl len i c s : Nat} {xs : Nat → Int32} {h : HP} {tp r : Nat → Nat} {S : VS} {H : HS} {Q : PQ} (a : LI b L xs h x S H tp tl r len) (hi : i + 6 ≤ L) (hL : L ≤ 3072) (hc : 12 ≤ c) (hs : 172 ≤ s)
    (nx : ∀ h' S' H' tp' tl' r' len' c' s', c ≤ c' + 12 → s ≤ s' + 172 → LI b L xs h' x S' H' tp' tl' r' len' → WP 11 268 Q (1434, [.val (.ref b), .val (.ref x), .val (.ref (x + 34)), .val (.int (nI i))], [], h', c', s')) : WP 11 268 Q (1037, [.val (.ref b), .val (.ref x), .val (.ref (x + 34)), .val (.int (nI i))], [], h, c, s) := by
  have a0 := a
  obtain ⟨C, M, ⟨gS, gH⟩, rf, bk⟩ := a0
  have bk1 : SKb b L xs x h := bk
  have s1 : nI i + 1 = nI (i + 1) := nI_add i 1
  have s2 : nI i + 2 = nI (i + 2) := nI_add i 2
  have s3 : nI i + 3 = nI (i + 3) := nI_add i 3
  have s4 : nI i + 4 = nI (i + 4) := nI_add i 4
  have s5 : nI i + 5 = nI (i + 5) := nI_add i 5
  have u1 : i + 1 < 2 ^ 31 := by omega
  have u2 : i + 2 < 2 ^ 31 := by omega
  have u3 : i + 3 < 2 ^ 31 := by omega
  have u4 : i + 4 < 2 ^ 31 := by omega
  have u5 : i + 5 < 2 ^ 31 := by omega
  have v1 : i + 1 < L := by omega
  have v2 : i + 2 < L := by omega
  have v3 : i + 3 < L := by omega
  have v4 : i + 4 < L := by omega
  have v5 : i + 5 < L := by omega
  have kx : hkd h x = 15 := C.1.1.1.1
  simp only [s268_1037, s268_1038, s268_1039, s268_1040, s268_1041, s268_1042, s268_1043, s268_1044, s268_1045, s268_1046, s268_1047, s268_1048, s268_1049, s268_1050, s268_1051, s268_1052, s268_1053, s268_1054, s268_1055, s268_1056, s268_1057, s268_1058, s268_1059, s268_1060, s268_1061, s268_1062, s268_1063, oB_some, cl2_i, cl2_r, cl2_l, cl2_u, cl2_s, wd_0, wd_i, wd_r, wd_l, wd_f, ct_i, ct_r, ct_n, ct_f, rf_s, rf_n, tl_s, tl_n, true_and, and_true, eq_self, and_self, Nat.reduceAdd, Nat.reduceLeDiff, Nat.zero_le, Nat.reduceEqDiff, or_true, true_or, false_or, or_false, if_true, if_false, gI_0, gI_1, gI_2, gI_3, gI_4, gI_5, gI_6, gI_7, gI_8, gI_9, gI_10, gI_11, gI_12, gI_13, gI_14, gI_15, gL_0, gL_1, gL_2, gL_3, gL_4, gL_5, gL_6, gL_7, gL_8, gL_9, gL_10, gL_11, gL_12, gL_13, gL_14, gL_15, gA_0, gA_1, gA_2, gA_3, gA_4, gA_5, gA_6, gA_7, gA_8, gA_9, gA_10, gA_11, gA_12, gA_13, gA_14, gA_15, p1_0, p1_1, p1_2, p1_3, p1_4, p1_5, p1_6, p1_7, p1_8, p1_9, p1_10, p1_11, p1_12, p1_13, p1_14, p1_15, p2_0, p2_1, p2_2, p2_3, p2_4, p2_5, p2_6, p2_7, p2_8, p2_9, p2_10, p2_11, p2_12, p2_13, p2_14, p2_15, kx, bk1.2.1, bk1.2.2.1, bk1.2.2.2, s1, s2, s3, s4, s5, ix_nI u1, ix_nI u2, ix_nI u3, ix_nI u4, ix_nI u5, nI_pos' u1, nI_pos' u2, nI_pos' u3, nI_pos' u4, nI_pos' u5, v1, v2, v3, v4, v5]
  refine x_damp C.1 gS.1 gS.2 (fun y e y0 => ?_) fun e h1 f1 => ?_
  · obtain ⟨h1, eh⟩ : ∃ z, z = RfC h x y := ⟨_, rfl⟩
    have fa1 : FA x h h1 := by rw [eh]; exact RfC.fa
    rw [← eh]
    have bk1 := bk1.fa fa1
    have M1 := M.fa gH fa1
    have km : hkd h1 (x + 34) = 16 := M1.1.1.1.1.1
    simp only [s268_1066, s268_1067, s268_1068, s268_1069, s268_1070, s268_1071, s268_1072, s268_1073, s268_1074, s268_1075, s268_1076, s268_1077, s268_1078, s268_1079, s268_1080, s268_1081, s268_1082, s268_1083, s268_1084, s268_1085, s268_1086, s268_1087, s268_1088, s268_1089, s268_1090, s268_1091, s268_1092, oB_some, cl2_i, cl2_r, cl2_l, cl2_u, cl2_s, wd_0, wd_i, wd_r, wd_l, wd_f, ct_i, ct_r, ct_n, ct_f, rf_s, rf_n, tl_s, tl_n, true_and, and_true, eq_self, and_self, Nat.reduceAdd, Nat.reduceLeDiff, Nat.zero_le, Nat.reduceEqDiff, or_true, true_or, false_or, or_false, if_true, if_false, gI_0, gI_1, gI_2, gI_3, gI_4, gI_5, gI_6, gI_7, gI_8, gI_9, gI_10, gI_11, gI_12, gI_13, gI_14, gI_15, gL_0, gL_1, gL_2, gL_3, gL_4, gL_5, gL_6, gL_7, gL_8, gL_9, gL_10, gL_11, gL_12, gL_13, gL_14, gL_15, gA_0, gA_1, gA_2, gA_3, gA_4, gA_5, gA_6, gA_7, gA_8, gA_9, gA_10, gA_11, gA_12, gA_13, gA_14, gA_15, p1_0, p1_1, p1_2, p1_3, p1_4, p1_5, p1_6, p1_7, p1_8, p1_9, p1_10, p1_11, p1_12, p1_13, p1_14, p1_15, p2_0, p2_1, p2_2, p2_3, p2_4, p2_5, p2_6, p2_7, p2_8, p2_9, p2_10, p2_11, p2_12, p2_13, p2_14, p2_15, km, bk1.2.1, bk1.2.2.1, bk1.2.2.2, s1, s2, s3, s4, s5, ix_nI u1, ix_nI u2, ix_nI u3, ix_nI u4, ix_nI u5, nI_pos' u1, nI_pos' u2, nI_pos' u3, nI_pos' u4, nI_pos' u5, v1, v2, v3, v4, v5]
    refine n_damp M1.1 gS.1 gS.2 (fun y2 e2 n2 => ?_) fun e2 => absurd (e.symm.trans e2) y0
    obtain rfl := e.symm.trans e2
    simp only [s268_1095, s268_1096, s268_1099, oB_some, cl2_i, cl2_r, cl2_l, cl2_u, cl2_s, wd_0, wd_i, wd_r, wd_l, wd_f, ct_i, ct_r, ct_n, ct_f, rf_s, rf_n, tl_s, tl_n, true_and, and_true, eq_self, and_self, Nat.reduceAdd, Nat.reduceLeDiff, Nat.zero_le, Nat.reduceEqDiff, or_true, true_or, false_or, or_false, if_true, if_false, gI_0, gI_1, gI_2, gI_3, gI_4, gI_5, gI_6, gI_7, gI_8, gI_9, gI_10, gI_11, gI_12, gI_13, gI_14, gI_15, gL_0, gL_1, gL_2, gL_3, gL_4, gL_5, gL_6, gL_7, gL_8, gL_9, gL_10, gL_11, gL_12, gL_13, gL_14, gL_15, gA_0, gA_1, gA_2, gA_3, gA_4, gA_5, gA_6, gA_7, gA_8, gA_9, gA_10, gA_11, gA_12, gA_13, gA_14, gA_15, p1_0, p1_1, p1_2, p1_3, p1_4, p1_5, p1_6, p1_7, p1_8, p1_9, p1_10, p1_11, p1_12, p1_13, p1_14, p1_15, p2_0, p2_1, p2_2, p2_3, p2_4, p2_5, p2_6, p2_7, p2_8, p2_9, p2_10, p2_11, p2_12, p2_13, p2_14, p2_15, b01_ok, b_ft, b_tf, b01_e0, b01_e1, lgc_0, not_true_eq_false, not_false_eq_true]
    rw [eh]
    exact nx _ _ _ _ _ _ _ _ _ (by omega) (by omega) (a.refuse y)
  · skip
    have fa1 : FA x h h1 := f1.fa (by omega) (by omega)
    have bk1 := bk1.fa fa1
    have M1 := M.fa gH fa1
    have km : hkd h1 (x + 34) = 16 := M1.1.1.1.1.1
    simp only [s268_1066, s268_1067, s268_1068, s268_1069, s268_1070, s268_1071, s268_1072, s268_1073, s268_1074, s268_1075, s268_1076, s268_1077, s268_1078, s268_1079, s268_1080, s268_1081, s268_1082, s268_1083, s268_1084, s268_1085, s268_1086, s268_1087, s268_1088, s268_1089, s268_1090, s268_1091, s268_1092, oB_some, cl2_i, cl2_r, cl2_l, cl2_u, cl2_s, wd_0, wd_i, wd_r, wd_l, wd_f, ct_i, ct_r, ct_n, ct_f, rf_s, rf_n, tl_s, tl_n, true_and, and_true, eq_self, and_self, Nat.reduceAdd, Nat.reduceLeDiff, Nat.zero_le, Nat.reduceEqDiff, or_true, true_or, false_or, or_false, if_true, if_false, gI_0, gI_1, gI_2, gI_3, gI_4, gI_5, gI_6, gI_7, gI_8, gI_9, gI_10, gI_11, gI_12, gI_13, gI_14, gI_15, gL_0, gL_1, gL_2, gL_3, gL_4, gL_5, gL_6, gL_7, gL_8, gL_9, gL_10, gL_11, gL_12, gL_13, gL_14, gL_15, gA_0, gA_1, gA_2, gA_3, gA_4, gA_5, gA_6, gA_7, gA_8, gA_9, gA_10, gA_11, gA_12, gA_13, gA_14, gA_15, p1_0, p1_1, p1_2, p1_3, p1_4, p1_5, p1_6, p1_7, p1_8, p1_9, p1_10, p1_11, p1_12, p1_13, p1_14, p1_15, p2_0, p2_1, p2_2, p2_3, p2_4, p2_5, p2_6, p2_7, p2_8, p2_9, p2_10, p2_11, p2_12, p2_13, p2_14, p2_15, km, bk1.2.1, bk1.2.2.1, bk1.2.2.2, s1, s2, s3, s4, s5, ix_nI u1, ix_nI u2, ix_nI u3, ix_nI u4, ix_nI u5, nI_pos' u1, nI_pos' u2, nI_pos' u3, nI_pos' u4, nI_pos' u5, v1, v2, v3, v4, v5]
    refine n_damp M1.1 gS.1 gS.2 (fun y2 e2 n2 => absurd (e2.symm.trans e) n2) fun _ h2 f2 M2 => ?_
    simp only [s268_1095, s268_1096, s268_1099, oB_some, cl2_i, cl2_r, cl2_l, cl2_u, cl2_s, wd_0, wd_i, wd_r, wd_l, wd_f, ct_i, ct_r, ct_n, ct_f, rf_s, rf_n, tl_s, tl_n, true_and, and_true, eq_self, and_self, Nat.reduceAdd, Nat.reduceLeDiff, Nat.zero_le, Nat.reduceEqDiff, or_true, true_or, false_or, or_false, if_true, if_false, gI_0, gI_1, gI_2, gI_3, gI_4, gI_5, gI_6, gI_7, gI_8, gI_9, gI_10, gI_11, gI_12, gI_13, gI_14, gI_15, gL_0, gL_1, gL_2, gL_3, gL_4, gL_5, gL_6, gL_7, gL_8, gL_9, gL_10, gL_11, gL_12, gL_13, gL_14, gL_15, gA_0, gA_1, gA_2, gA_3, gA_4, gA_5, gA_6, gA_7, gA_8, gA_9, gA_10, gA_11, gA_12, gA_13, gA_14, gA_15, p1_0, p1_1, p1_2, p1_3, p1_4, p1_5, p1_6, p1_7, p1_8, p1_9, p1_10, p1_11, p1_12, p1_13, p1_14, p1_15, p2_0, p2_1, p2_2, p2_3, p2_4, p2_5, p2_6, p2_7, p2_8, p2_9, p2_10, p2_11, p2_12, p2_13, p2_14, p2_15, b01_ok, b_ft, b_tf, b01_e0, b01_e1, lgc_0, not_true_eq_false, not_false_eq_true]
    exact nx _ _ _ _ _ _ _ _ _ (by omega) (by omega) (a.ask f1 f2 M2)
set_option maxHeartbeats 4000000 in
theorem lc_reach {b L x tl len i c s : Nat} {xs : Nat → Int32} {h : HP} {tp r : Nat → Nat} {S : VS} {H : HS} {Q : PQ} (a : LI b L xs h x S H tp tl r len) (hi : i + 6 ≤ L) (hL : L ≤ 3072) (hc : 12 ≤ c) (hs : 172 ≤ s)
    (nx : ∀ h' S' H' tp' tl' r' len' c' s', c ≤ c' + 12 → s ≤ s' + 172 → LI b L xs h' x S' H' tp' tl' r' len' → WP 11 268 Q (1434, [.val (.ref b), .val (.ref x), .val (.ref (x + 34)), .val (.int (nI i))], [], h', c', s')) : WP 11 268 Q (1101, [.val (.ref b), .val (.ref x), .val (.ref (x + 34)), .val (.int (nI i))], [], h, c, s) := by
  have a0 := a
  obtain ⟨C, M, ⟨gS, gH⟩, rf, bk⟩ := a0
  have bk1 : SKb b L xs x h := bk
  have s1 : nI i + 1 = nI (i + 1) := nI_add i 1
  have s2 : nI i + 2 = nI (i + 2) := nI_add i 2
  have s3 : nI i + 3 = nI (i + 3) := nI_add i 3
  have s4 : nI i + 4 = nI (i + 4) := nI_add i 4
  have s5 : nI i + 5 = nI (i + 5) := nI_add i 5
  have u1 : i + 1 < 2 ^ 31 := by omega
  have u2 : i + 2 < 2 ^ 31 := by omega
  have u3 : i + 3 < 2 ^ 31 := by omega
  have u4 : i + 4 < 2 ^ 31 := by omega
  have u5 : i + 5 < 2 ^ 31 := by omega
  have v1 : i + 1 < L := by omega
  have v2 : i + 2 < L := by omega
  have v3 : i + 3 < L := by omega
  have v4 : i + 4 < L := by omega
  have v5 : i + 5 < L := by omega
  have kx : hkd h x = 15 := C.1.1.1.1
  simp only [s268_1101, s268_1102, s268_1103, s268_1104, s268_1105, s268_1106, s268_1107, s268_1108, s268_1109, s268_1110, s268_1111, s268_1112, oB_some, cl2_i, cl2_r, cl2_l, cl2_u, cl2_s, wd_0, wd_i, wd_r, wd_l, wd_f, ct_i, ct_r, ct_n, ct_f, rf_s, rf_n, tl_s, tl_n, true_and, and_true, eq_self, and_self, Nat.reduceAdd, Nat.reduceLeDiff, Nat.zero_le, Nat.reduceEqDiff, or_true, true_or, false_or, or_false, if_true, if_false, gI_0, gI_1, gI_2, gI_3, gI_4, gI_5, gI_6, gI_7, gI_8, gI_9, gI_10, gI_11, gI_12, gI_13, gI_14, gI_15, gL_0, gL_1, gL_2, gL_3, gL_4, gL_5, gL_6, gL_7, gL_8, gL_9, gL_10, gL_11, gL_12, gL_13, gL_14, gL_15, gA_0, gA_1, gA_2, gA_3, gA_4, gA_5, gA_6, gA_7, gA_8, gA_9, gA_10, gA_11, gA_12, gA_13, gA_14, gA_15, p1_0, p1_1, p1_2, p1_3, p1_4, p1_5, p1_6, p1_7, p1_8, p1_9, p1_10, p1_11, p1_12, p1_13, p1_14, p1_15, p2_0, p2_1, p2_2, p2_3, p2_4, p2_5, p2_6, p2_7, p2_8, p2_9, p2_10, p2_11, p2_12, p2_13, p2_14, p2_15, kx, bk1.2.1, bk1.2.2.1, bk1.2.2.2, s1, s2, s3, s4, s5, ix_nI u1, ix_nI u2, ix_nI u3, ix_nI u4, ix_nI u5, nI_pos' u1, nI_pos' u2, nI_pos' u3, nI_pos' u4, nI_pos' u5, v1, v2, v3, v4, v5]
  refine x_reach C.1 gS.1 gS.2 (fun y e y0 => ?_) fun e h1 f1 => ?_
  · obtain ⟨h1, eh⟩ : ∃ z, z = RfC h x y := ⟨_, rfl⟩
    have fa1 : FA x h h1 := by rw [eh]; exact RfC.fa
    rw [← eh]
    have bk1 := bk1.fa fa1
    have M1 := M.fa gH fa1
    have km : hkd h1 (x + 34) = 16 := M1.1.1.1.1.1
    simp only [s268_1115, s268_1116, s268_1117, s268_1118, s268_1119, s268_1120, s268_1121, s268_1122, s268_1123, s268_1124, s268_1125, s268_1126, oB_some, cl2_i, cl2_r, cl2_l, cl2_u, cl2_s, wd_0, wd_i, wd_r, wd_l, wd_f, ct_i, ct_r, ct_n, ct_f, rf_s, rf_n, tl_s, tl_n, true_and, and_true, eq_self, and_self, Nat.reduceAdd, Nat.reduceLeDiff, Nat.zero_le, Nat.reduceEqDiff, or_true, true_or, false_or, or_false, if_true, if_false, gI_0, gI_1, gI_2, gI_3, gI_4, gI_5, gI_6, gI_7, gI_8, gI_9, gI_10, gI_11, gI_12, gI_13, gI_14, gI_15, gL_0, gL_1, gL_2, gL_3, gL_4, gL_5, gL_6, gL_7, gL_8, gL_9, gL_10, gL_11, gL_12, gL_13, gL_14, gL_15, gA_0, gA_1, gA_2, gA_3, gA_4, gA_5, gA_6, gA_7, gA_8, gA_9, gA_10, gA_11, gA_12, gA_13, gA_14, gA_15, p1_0, p1_1, p1_2, p1_3, p1_4, p1_5, p1_6, p1_7, p1_8, p1_9, p1_10, p1_11, p1_12, p1_13, p1_14, p1_15, p2_0, p2_1, p2_2, p2_3, p2_4, p2_5, p2_6, p2_7, p2_8, p2_9, p2_10, p2_11, p2_12, p2_13, p2_14, p2_15, km, bk1.2.1, bk1.2.2.1, bk1.2.2.2, s1, s2, s3, s4, s5, ix_nI u1, ix_nI u2, ix_nI u3, ix_nI u4, ix_nI u5, nI_pos' u1, nI_pos' u2, nI_pos' u3, nI_pos' u4, nI_pos' u5, v1, v2, v3, v4, v5]
    refine n_reach M1.1 gS.1 gS.2 (fun y2 e2 n2 => ?_) fun e2 => absurd (e.symm.trans e2) y0
    obtain rfl := e.symm.trans e2
    simp only [s268_1129, s268_1132, oB_some, cl2_i, cl2_r, cl2_l, cl2_u, cl2_s, wd_0, wd_i, wd_r, wd_l, wd_f, ct_i, ct_r, ct_n, ct_f, rf_s, rf_n, tl_s, tl_n, true_and, and_true, eq_self, and_self, Nat.reduceAdd, Nat.reduceLeDiff, Nat.zero_le, Nat.reduceEqDiff, or_true, true_or, false_or, or_false, if_true, if_false, gI_0, gI_1, gI_2, gI_3, gI_4, gI_5, gI_6, gI_7, gI_8, gI_9, gI_10, gI_11, gI_12, gI_13, gI_14, gI_15, gL_0, gL_1, gL_2, gL_3, gL_4, gL_5, gL_6, gL_7, gL_8, gL_9, gL_10, gL_11, gL_12, gL_13, gL_14, gL_15, gA_0, gA_1, gA_2, gA_3, gA_4, gA_5, gA_6, gA_7, gA_8, gA_9, gA_10, gA_11, gA_12, gA_13, gA_14, gA_15, p1_0, p1_1, p1_2, p1_3, p1_4, p1_5, p1_6, p1_7, p1_8, p1_9, p1_10, p1_11, p1_12, p1_13, p1_14, p1_15, p2_0, p2_1, p2_2, p2_3, p2_4, p2_5, p2_6, p2_7, p2_8, p2_9, p2_10, p2_11, p2_12, p2_13, p2_14, p2_15, b01_ok, b_ft, b_tf, b01_e0, b01_e1, lgc_0, not_true_eq_false, not_false_eq_true]
    rw [eh]
    exact nx _ _ _ _ _ _ _ _ _ (by omega) (by omega) (a.refuse y)
  · skip
    have fa1 : FA x h h1 := f1.fa (by omega) (by omega)
    have bk1 := bk1.fa fa1
    have M1 := M.fa gH fa1
    have km : hkd h1 (x + 34) = 16 := M1.1.1.1.1.1
    simp only [s268_1115, s268_1116, s268_1117, s268_1118, s268_1119, s268_1120, s268_1121, s268_1122, s268_1123, s268_1124, s268_1125, s268_1126, oB_some, cl2_i, cl2_r, cl2_l, cl2_u, cl2_s, wd_0, wd_i, wd_r, wd_l, wd_f, ct_i, ct_r, ct_n, ct_f, rf_s, rf_n, tl_s, tl_n, true_and, and_true, eq_self, and_self, Nat.reduceAdd, Nat.reduceLeDiff, Nat.zero_le, Nat.reduceEqDiff, or_true, true_or, false_or, or_false, if_true, if_false, gI_0, gI_1, gI_2, gI_3, gI_4, gI_5, gI_6, gI_7, gI_8, gI_9, gI_10, gI_11, gI_12, gI_13, gI_14, gI_15, gL_0, gL_1, gL_2, gL_3, gL_4, gL_5, gL_6, gL_7, gL_8, gL_9, gL_10, gL_11, gL_12, gL_13, gL_14, gL_15, gA_0, gA_1, gA_2, gA_3, gA_4, gA_5, gA_6, gA_7, gA_8, gA_9, gA_10, gA_11, gA_12, gA_13, gA_14, gA_15, p1_0, p1_1, p1_2, p1_3, p1_4, p1_5, p1_6, p1_7, p1_8, p1_9, p1_10, p1_11, p1_12, p1_13, p1_14, p1_15, p2_0, p2_1, p2_2, p2_3, p2_4, p2_5, p2_6, p2_7, p2_8, p2_9, p2_10, p2_11, p2_12, p2_13, p2_14, p2_15, km, bk1.2.1, bk1.2.2.1, bk1.2.2.2, s1, s2, s3, s4, s5, ix_nI u1, ix_nI u2, ix_nI u3, ix_nI u4, ix_nI u5, nI_pos' u1, nI_pos' u2, nI_pos' u3, nI_pos' u4, nI_pos' u5, v1, v2, v3, v4, v5]
    refine n_reach M1.1 gS.1 gS.2 (fun y2 e2 n2 => absurd (e2.symm.trans e) n2) fun _ h2 f2 M2 => ?_
    simp only [s268_1129, s268_1132, oB_some, cl2_i, cl2_r, cl2_l, cl2_u, cl2_s, wd_0, wd_i, wd_r, wd_l, wd_f, ct_i, ct_r, ct_n, ct_f, rf_s, rf_n, tl_s, tl_n, true_and, and_true, eq_self, and_self, Nat.reduceAdd, Nat.reduceLeDiff, Nat.zero_le, Nat.reduceEqDiff, or_true, true_or, false_or, or_false, if_true, if_false, gI_0, gI_1, gI_2, gI_3, gI_4, gI_5, gI_6, gI_7, gI_8, gI_9, gI_10, gI_11, gI_12, gI_13, gI_14, gI_15, gL_0, gL_1, gL_2, gL_3, gL_4, gL_5, gL_6, gL_7, gL_8, gL_9, gL_10, gL_11, gL_12, gL_13, gL_14, gL_15, gA_0, gA_1, gA_2, gA_3, gA_4, gA_5, gA_6, gA_7, gA_8, gA_9, gA_10, gA_11, gA_12, gA_13, gA_14, gA_15, p1_0, p1_1, p1_2, p1_3, p1_4, p1_5, p1_6, p1_7, p1_8, p1_9, p1_10, p1_11, p1_12, p1_13, p1_14, p1_15, p2_0, p2_1, p2_2, p2_3, p2_4, p2_5, p2_6, p2_7, p2_8, p2_9, p2_10, p2_11, p2_12, p2_13, p2_14, p2_15, b01_ok, b_ft, b_tf, b01_e0, b01_e1, lgc_0, not_true_eq_false, not_false_eq_true]
    exact nx _ _ _ _ _ _ _ _ _ (by omega) (by omega) (a.ask f1 f2 M2)
set_option maxHeartbeats 4000000 in
theorem lc_common {b L x tl len i c s : Nat} {xs : Nat → Int32} {h : HP} {tp r : Nat → Nat} {S : VS} {H : HS} {Q : PQ} (a : LI b L xs h x S H tp tl r len) (hi : i + 6 ≤ L) (hL : L ≤ 3072) (hc : 12 ≤ c) (hs : 172 ≤ s)
    (nx : ∀ h' S' H' tp' tl' r' len' c' s', c ≤ c' + 12 → s ≤ s' + 172 → LI b L xs h' x S' H' tp' tl' r' len' → WP 11 268 Q (1434, [.val (.ref b), .val (.ref x), .val (.ref (x + 34)), .val (.int (nI i))], [], h', c', s')) : WP 11 268 Q (1134, [.val (.ref b), .val (.ref x), .val (.ref (x + 34)), .val (.int (nI i))], [], h, c, s) := by
  have a0 := a
  obtain ⟨C, M, ⟨gS, gH⟩, rf, bk⟩ := a0
  have bk1 : SKb b L xs x h := bk
  have s1 : nI i + 1 = nI (i + 1) := nI_add i 1
  have s2 : nI i + 2 = nI (i + 2) := nI_add i 2
  have s3 : nI i + 3 = nI (i + 3) := nI_add i 3
  have s4 : nI i + 4 = nI (i + 4) := nI_add i 4
  have s5 : nI i + 5 = nI (i + 5) := nI_add i 5
  have u1 : i + 1 < 2 ^ 31 := by omega
  have u2 : i + 2 < 2 ^ 31 := by omega
  have u3 : i + 3 < 2 ^ 31 := by omega
  have u4 : i + 4 < 2 ^ 31 := by omega
  have u5 : i + 5 < 2 ^ 31 := by omega
  have v1 : i + 1 < L := by omega
  have v2 : i + 2 < L := by omega
  have v3 : i + 3 < L := by omega
  have v4 : i + 4 < L := by omega
  have v5 : i + 5 < L := by omega
  have kx : hkd h x = 15 := C.1.1.1.1
  simp only [s268_1134, s268_1135, s268_1136, s268_1137, s268_1138, s268_1139, s268_1140, s268_1141, s268_1142, s268_1143, s268_1144, s268_1145, s268_1146, s268_1147, s268_1148, s268_1149, s268_1150, oB_some, cl2_i, cl2_r, cl2_l, cl2_u, cl2_s, wd_0, wd_i, wd_r, wd_l, wd_f, ct_i, ct_r, ct_n, ct_f, rf_s, rf_n, tl_s, tl_n, true_and, and_true, eq_self, and_self, Nat.reduceAdd, Nat.reduceLeDiff, Nat.zero_le, Nat.reduceEqDiff, or_true, true_or, false_or, or_false, if_true, if_false, gI_0, gI_1, gI_2, gI_3, gI_4, gI_5, gI_6, gI_7, gI_8, gI_9, gI_10, gI_11, gI_12, gI_13, gI_14, gI_15, gL_0, gL_1, gL_2, gL_3, gL_4, gL_5, gL_6, gL_7, gL_8, gL_9, gL_10, gL_11, gL_12, gL_13, gL_14, gL_15, gA_0, gA_1, gA_2, gA_3, gA_4, gA_5, gA_6, gA_7, gA_8, gA_9, gA_10, gA_11, gA_12, gA_13, gA_14, gA_15, p1_0, p1_1, p1_2, p1_3, p1_4, p1_5, p1_6, p1_7, p1_8, p1_9, p1_10, p1_11, p1_12, p1_13, p1_14, p1_15, p2_0, p2_1, p2_2, p2_3, p2_4, p2_5, p2_6, p2_7, p2_8, p2_9, p2_10, p2_11, p2_12, p2_13, p2_14, p2_15, kx, bk1.2.1, bk1.2.2.1, bk1.2.2.2, s1, s2, s3, s4, s5, ix_nI u1, ix_nI u2, ix_nI u3, ix_nI u4, ix_nI u5, nI_pos' u1, nI_pos' u2, nI_pos' u3, nI_pos' u4, nI_pos' u5, v1, v2, v3, v4, v5]
  refine x_common C.1 gS.1 gS.2 (fun y e y0 => ?_) fun e h1 f1 => ?_
  · obtain ⟨h1, eh⟩ : ∃ z, z = RfC h x y := ⟨_, rfl⟩
    have fa1 : FA x h h1 := by rw [eh]; exact RfC.fa
    rw [← eh]
    have bk1 := bk1.fa fa1
    have M1 := M.fa gH fa1
    have km : hkd h1 (x + 34) = 16 := M1.1.1.1.1.1
    simp only [s268_1153, s268_1154, s268_1155, s268_1156, s268_1157, s268_1158, s268_1159, s268_1160, s268_1161, s268_1162, s268_1163, s268_1164, s268_1165, s268_1166, s268_1167, s268_1168, s268_1169, oB_some, cl2_i, cl2_r, cl2_l, cl2_u, cl2_s, wd_0, wd_i, wd_r, wd_l, wd_f, ct_i, ct_r, ct_n, ct_f, rf_s, rf_n, tl_s, tl_n, true_and, and_true, eq_self, and_self, Nat.reduceAdd, Nat.reduceLeDiff, Nat.zero_le, Nat.reduceEqDiff, or_true, true_or, false_or, or_false, if_true, if_false, gI_0, gI_1, gI_2, gI_3, gI_4, gI_5, gI_6, gI_7, gI_8, gI_9, gI_10, gI_11, gI_12, gI_13, gI_14, gI_15, gL_0, gL_1, gL_2, gL_3, gL_4, gL_5, gL_6, gL_7, gL_8, gL_9, gL_10, gL_11, gL_12, gL_13, gL_14, gL_15, gA_0, gA_1, gA_2, gA_3, gA_4, gA_5, gA_6, gA_7, gA_8, gA_9, gA_10, gA_11, gA_12, gA_13, gA_14, gA_15, p1_0, p1_1, p1_2, p1_3, p1_4, p1_5, p1_6, p1_7, p1_8, p1_9, p1_10, p1_11, p1_12, p1_13, p1_14, p1_15, p2_0, p2_1, p2_2, p2_3, p2_4, p2_5, p2_6, p2_7, p2_8, p2_9, p2_10, p2_11, p2_12, p2_13, p2_14, p2_15, km, bk1.2.1, bk1.2.2.1, bk1.2.2.2, s1, s2, s3, s4, s5, ix_nI u1, ix_nI u2, ix_nI u3, ix_nI u4, ix_nI u5, nI_pos' u1, nI_pos' u2, nI_pos' u3, nI_pos' u4, nI_pos' u5, v1, v2, v3, v4, v5]
    refine n_common M1.1 gS.1 gS.2 (fun y2 e2 n2 => ?_) fun e2 => absurd (e.symm.trans e2) y0
    obtain rfl := e.symm.trans e2
    simp only [s268_1172, s268_1175, oB_some, cl2_i, cl2_r, cl2_l, cl2_u, cl2_s, wd_0, wd_i, wd_r, wd_l, wd_f, ct_i, ct_r, ct_n, ct_f, rf_s, rf_n, tl_s, tl_n, true_and, and_true, eq_self, and_self, Nat.reduceAdd, Nat.reduceLeDiff, Nat.zero_le, Nat.reduceEqDiff, or_true, true_or, false_or, or_false, if_true, if_false, gI_0, gI_1, gI_2, gI_3, gI_4, gI_5, gI_6, gI_7, gI_8, gI_9, gI_10, gI_11, gI_12, gI_13, gI_14, gI_15, gL_0, gL_1, gL_2, gL_3, gL_4, gL_5, gL_6, gL_7, gL_8, gL_9, gL_10, gL_11, gL_12, gL_13, gL_14, gL_15, gA_0, gA_1, gA_2, gA_3, gA_4, gA_5, gA_6, gA_7, gA_8, gA_9, gA_10, gA_11, gA_12, gA_13, gA_14, gA_15, p1_0, p1_1, p1_2, p1_3, p1_4, p1_5, p1_6, p1_7, p1_8, p1_9, p1_10, p1_11, p1_12, p1_13, p1_14, p1_15, p2_0, p2_1, p2_2, p2_3, p2_4, p2_5, p2_6, p2_7, p2_8, p2_9, p2_10, p2_11, p2_12, p2_13, p2_14, p2_15, b01_ok, b_ft, b_tf, b01_e0, b01_e1, lgc_0, not_true_eq_false, not_false_eq_true]
    rw [eh]
    exact nx _ _ _ _ _ _ _ _ _ (by omega) (by omega) (a.refuse y)
  · skip
    have fa1 : FA x h h1 := f1.fa (by omega) (by omega)
    have bk1 := bk1.fa fa1
    have M1 := M.fa gH fa1
    have km : hkd h1 (x + 34) = 16 := M1.1.1.1.1.1
    simp only [s268_1153, s268_1154, s268_1155, s268_1156, s268_1157, s268_1158, s268_1159, s268_1160, s268_1161, s268_1162, s268_1163, s268_1164, s268_1165, s268_1166, s268_1167, s268_1168, s268_1169, oB_some, cl2_i, cl2_r, cl2_l, cl2_u, cl2_s, wd_0, wd_i, wd_r, wd_l, wd_f, ct_i, ct_r, ct_n, ct_f, rf_s, rf_n, tl_s, tl_n, true_and, and_true, eq_self, and_self, Nat.reduceAdd, Nat.reduceLeDiff, Nat.zero_le, Nat.reduceEqDiff, or_true, true_or, false_or, or_false, if_true, if_false, gI_0, gI_1, gI_2, gI_3, gI_4, gI_5, gI_6, gI_7, gI_8, gI_9, gI_10, gI_11, gI_12, gI_13, gI_14, gI_15, gL_0, gL_1, gL_2, gL_3, gL_4, gL_5, gL_6, gL_7, gL_8, gL_9, gL_10, gL_11, gL_12, gL_13, gL_14, gL_15, gA_0, gA_1, gA_2, gA_3, gA_4, gA_5, gA_6, gA_7, gA_8, gA_9, gA_10, gA_11, gA_12, gA_13, gA_14, gA_15, p1_0, p1_1, p1_2, p1_3, p1_4, p1_5, p1_6, p1_7, p1_8, p1_9, p1_10, p1_11, p1_12, p1_13, p1_14, p1_15, p2_0, p2_1, p2_2, p2_3, p2_4, p2_5, p2_6, p2_7, p2_8, p2_9, p2_10, p2_11, p2_12, p2_13, p2_14, p2_15, km, bk1.2.1, bk1.2.2.1, bk1.2.2.2, s1, s2, s3, s4, s5, ix_nI u1, ix_nI u2, ix_nI u3, ix_nI u4, ix_nI u5, nI_pos' u1, nI_pos' u2, nI_pos' u3, nI_pos' u4, nI_pos' u5, v1, v2, v3, v4, v5]
    refine n_common M1.1 gS.1 gS.2 (fun y2 e2 n2 => absurd (e2.symm.trans e) n2) fun _ h2 f2 M2 => ?_
    simp only [s268_1172, s268_1175, oB_some, cl2_i, cl2_r, cl2_l, cl2_u, cl2_s, wd_0, wd_i, wd_r, wd_l, wd_f, ct_i, ct_r, ct_n, ct_f, rf_s, rf_n, tl_s, tl_n, true_and, and_true, eq_self, and_self, Nat.reduceAdd, Nat.reduceLeDiff, Nat.zero_le, Nat.reduceEqDiff, or_true, true_or, false_or, or_false, if_true, if_false, gI_0, gI_1, gI_2, gI_3, gI_4, gI_5, gI_6, gI_7, gI_8, gI_9, gI_10, gI_11, gI_12, gI_13, gI_14, gI_15, gL_0, gL_1, gL_2, gL_3, gL_4, gL_5, gL_6, gL_7, gL_8, gL_9, gL_10, gL_11, gL_12, gL_13, gL_14, gL_15, gA_0, gA_1, gA_2, gA_3, gA_4, gA_5, gA_6, gA_7, gA_8, gA_9, gA_10, gA_11, gA_12, gA_13, gA_14, gA_15, p1_0, p1_1, p1_2, p1_3, p1_4, p1_5, p1_6, p1_7, p1_8, p1_9, p1_10, p1_11, p1_12, p1_13, p1_14, p1_15, p2_0, p2_1, p2_2, p2_3, p2_4, p2_5, p2_6, p2_7, p2_8, p2_9, p2_10, p2_11, p2_12, p2_13, p2_14, p2_15, b01_ok, b_ft, b_tf, b01_e0, b01_e1, lgc_0, not_true_eq_false, not_false_eq_true]
    exact nx _ _ _ _ _ _ _ _ _ (by omega) (by omega) (a.ask f1 f2 M2)
set_option maxHeartbeats 4000000 in
theorem lc_rarest {b L x tl len i c s : Nat} {xs : Nat → Int32} {h : HP} {tp r : Nat → Nat} {S : VS} {H : HS} {Q : PQ} (a : LI b L xs h x S H tp tl r len) (hi : i + 6 ≤ L) (hL : L ≤ 3072) (hc : 12 ≤ c) (hs : 172 ≤ s)
    (nx : ∀ h' S' H' tp' tl' r' len' c' s', c ≤ c' + 12 → s ≤ s' + 172 → LI b L xs h' x S' H' tp' tl' r' len' → WP 11 268 Q (1434, [.val (.ref b), .val (.ref x), .val (.ref (x + 34)), .val (.int (nI i))], [], h', c', s')) : WP 11 268 Q (1177, [.val (.ref b), .val (.ref x), .val (.ref (x + 34)), .val (.int (nI i))], [], h, c, s) := by
  have a0 := a
  obtain ⟨C, M, ⟨gS, gH⟩, rf, bk⟩ := a0
  have bk1 : SKb b L xs x h := bk
  have s1 : nI i + 1 = nI (i + 1) := nI_add i 1
  have s2 : nI i + 2 = nI (i + 2) := nI_add i 2
  have s3 : nI i + 3 = nI (i + 3) := nI_add i 3
  have s4 : nI i + 4 = nI (i + 4) := nI_add i 4
  have s5 : nI i + 5 = nI (i + 5) := nI_add i 5
  have u1 : i + 1 < 2 ^ 31 := by omega
  have u2 : i + 2 < 2 ^ 31 := by omega
  have u3 : i + 3 < 2 ^ 31 := by omega
  have u4 : i + 4 < 2 ^ 31 := by omega
  have u5 : i + 5 < 2 ^ 31 := by omega
  have v1 : i + 1 < L := by omega
  have v2 : i + 2 < L := by omega
  have v3 : i + 3 < L := by omega
  have v4 : i + 4 < L := by omega
  have v5 : i + 5 < L := by omega
  have kx : hkd h x = 15 := C.1.1.1.1
  simp only [s268_1177, s268_1178, s268_1179, s268_1180, s268_1181, s268_1182, s268_1183, oB_some, cl2_i, cl2_r, cl2_l, cl2_u, cl2_s, wd_0, wd_i, wd_r, wd_l, wd_f, ct_i, ct_r, ct_n, ct_f, rf_s, rf_n, tl_s, tl_n, true_and, and_true, eq_self, and_self, Nat.reduceAdd, Nat.reduceLeDiff, Nat.zero_le, Nat.reduceEqDiff, or_true, true_or, false_or, or_false, if_true, if_false, gI_0, gI_1, gI_2, gI_3, gI_4, gI_5, gI_6, gI_7, gI_8, gI_9, gI_10, gI_11, gI_12, gI_13, gI_14, gI_15, gL_0, gL_1, gL_2, gL_3, gL_4, gL_5, gL_6, gL_7, gL_8, gL_9, gL_10, gL_11, gL_12, gL_13, gL_14, gL_15, gA_0, gA_1, gA_2, gA_3, gA_4, gA_5, gA_6, gA_7, gA_8, gA_9, gA_10, gA_11, gA_12, gA_13, gA_14, gA_15, p1_0, p1_1, p1_2, p1_3, p1_4, p1_5, p1_6, p1_7, p1_8, p1_9, p1_10, p1_11, p1_12, p1_13, p1_14, p1_15, p2_0, p2_1, p2_2, p2_3, p2_4, p2_5, p2_6, p2_7, p2_8, p2_9, p2_10, p2_11, p2_12, p2_13, p2_14, p2_15, kx, bk1.2.1, bk1.2.2.1, bk1.2.2.2, s1, s2, s3, s4, s5, ix_nI u1, ix_nI u2, ix_nI u3, ix_nI u4, ix_nI u5, nI_pos' u1, nI_pos' u2, nI_pos' u3, nI_pos' u4, nI_pos' u5, v1, v2, v3, v4, v5]
  refine x_rarest C.1 gS.1 gS.2 (fun y e y0 => ?_) fun e h1 f1 => ?_
  · obtain ⟨h1, eh⟩ : ∃ z, z = RfC h x y := ⟨_, rfl⟩
    have fa1 : FA x h h1 := by rw [eh]; exact RfC.fa
    rw [← eh]
    have bk1 := bk1.fa fa1
    have M1 := M.fa gH fa1
    have km : hkd h1 (x + 34) = 16 := M1.1.1.1.1.1
    simp only [s268_1186, s268_1187, s268_1188, s268_1189, s268_1190, s268_1191, s268_1192, oB_some, cl2_i, cl2_r, cl2_l, cl2_u, cl2_s, wd_0, wd_i, wd_r, wd_l, wd_f, ct_i, ct_r, ct_n, ct_f, rf_s, rf_n, tl_s, tl_n, true_and, and_true, eq_self, and_self, Nat.reduceAdd, Nat.reduceLeDiff, Nat.zero_le, Nat.reduceEqDiff, or_true, true_or, false_or, or_false, if_true, if_false, gI_0, gI_1, gI_2, gI_3, gI_4, gI_5, gI_6, gI_7, gI_8, gI_9, gI_10, gI_11, gI_12, gI_13, gI_14, gI_15, gL_0, gL_1, gL_2, gL_3, gL_4, gL_5, gL_6, gL_7, gL_8, gL_9, gL_10, gL_11, gL_12, gL_13, gL_14, gL_15, gA_0, gA_1, gA_2, gA_3, gA_4, gA_5, gA_6, gA_7, gA_8, gA_9, gA_10, gA_11, gA_12, gA_13, gA_14, gA_15, p1_0, p1_1, p1_2, p1_3, p1_4, p1_5, p1_6, p1_7, p1_8, p1_9, p1_10, p1_11, p1_12, p1_13, p1_14, p1_15, p2_0, p2_1, p2_2, p2_3, p2_4, p2_5, p2_6, p2_7, p2_8, p2_9, p2_10, p2_11, p2_12, p2_13, p2_14, p2_15, km, bk1.2.1, bk1.2.2.1, bk1.2.2.2, s1, s2, s3, s4, s5, ix_nI u1, ix_nI u2, ix_nI u3, ix_nI u4, ix_nI u5, nI_pos' u1, nI_pos' u2, nI_pos' u3, nI_pos' u4, nI_pos' u5, v1, v2, v3, v4, v5]
    refine n_rarest M1.1 gS.1 gS.2 (fun y2 e2 n2 => ?_) fun e2 => absurd (e.symm.trans e2) y0
    obtain rfl := e.symm.trans e2
    simp only [s268_1195, s268_1198, oB_some, cl2_i, cl2_r, cl2_l, cl2_u, cl2_s, wd_0, wd_i, wd_r, wd_l, wd_f, ct_i, ct_r, ct_n, ct_f, rf_s, rf_n, tl_s, tl_n, true_and, and_true, eq_self, and_self, Nat.reduceAdd, Nat.reduceLeDiff, Nat.zero_le, Nat.reduceEqDiff, or_true, true_or, false_or, or_false, if_true, if_false, gI_0, gI_1, gI_2, gI_3, gI_4, gI_5, gI_6, gI_7, gI_8, gI_9, gI_10, gI_11, gI_12, gI_13, gI_14, gI_15, gL_0, gL_1, gL_2, gL_3, gL_4, gL_5, gL_6, gL_7, gL_8, gL_9, gL_10, gL_11, gL_12, gL_13, gL_14, gL_15, gA_0, gA_1, gA_2, gA_3, gA_4, gA_5, gA_6, gA_7, gA_8, gA_9, gA_10, gA_11, gA_12, gA_13, gA_14, gA_15, p1_0, p1_1, p1_2, p1_3, p1_4, p1_5, p1_6, p1_7, p1_8, p1_9, p1_10, p1_11, p1_12, p1_13, p1_14, p1_15, p2_0, p2_1, p2_2, p2_3, p2_4, p2_5, p2_6, p2_7, p2_8, p2_9, p2_10, p2_11, p2_12, p2_13, p2_14, p2_15, b01_ok, b_ft, b_tf, b01_e0, b01_e1, lgc_0, not_true_eq_false, not_false_eq_true]
    rw [eh]
    exact nx _ _ _ _ _ _ _ _ _ (by omega) (by omega) (a.refuse y)
  · skip
    have fa1 : FA x h h1 := f1.fa (by omega) (by omega)
    have bk1 := bk1.fa fa1
    have M1 := M.fa gH fa1
    have km : hkd h1 (x + 34) = 16 := M1.1.1.1.1.1
    simp only [s268_1186, s268_1187, s268_1188, s268_1189, s268_1190, s268_1191, s268_1192, oB_some, cl2_i, cl2_r, cl2_l, cl2_u, cl2_s, wd_0, wd_i, wd_r, wd_l, wd_f, ct_i, ct_r, ct_n, ct_f, rf_s, rf_n, tl_s, tl_n, true_and, and_true, eq_self, and_self, Nat.reduceAdd, Nat.reduceLeDiff, Nat.zero_le, Nat.reduceEqDiff, or_true, true_or, false_or, or_false, if_true, if_false, gI_0, gI_1, gI_2, gI_3, gI_4, gI_5, gI_6, gI_7, gI_8, gI_9, gI_10, gI_11, gI_12, gI_13, gI_14, gI_15, gL_0, gL_1, gL_2, gL_3, gL_4, gL_5, gL_6, gL_7, gL_8, gL_9, gL_10, gL_11, gL_12, gL_13, gL_14, gL_15, gA_0, gA_1, gA_2, gA_3, gA_4, gA_5, gA_6, gA_7, gA_8, gA_9, gA_10, gA_11, gA_12, gA_13, gA_14, gA_15, p1_0, p1_1, p1_2, p1_3, p1_4, p1_5, p1_6, p1_7, p1_8, p1_9, p1_10, p1_11, p1_12, p1_13, p1_14, p1_15, p2_0, p2_1, p2_2, p2_3, p2_4, p2_5, p2_6, p2_7, p2_8, p2_9, p2_10, p2_11, p2_12, p2_13, p2_14, p2_15, km, bk1.2.1, bk1.2.2.1, bk1.2.2.2, s1, s2, s3, s4, s5, ix_nI u1, ix_nI u2, ix_nI u3, ix_nI u4, ix_nI u5, nI_pos' u1, nI_pos' u2, nI_pos' u3, nI_pos' u4, nI_pos' u5, v1, v2, v3, v4, v5]
    refine n_rarest M1.1 gS.1 gS.2 (fun y2 e2 n2 => absurd (e2.symm.trans e) n2) fun _ h2 f2 M2 => ?_
    simp only [s268_1195, s268_1198, oB_some, cl2_i, cl2_r, cl2_l, cl2_u, cl2_s, wd_0, wd_i, wd_r, wd_l, wd_f, ct_i, ct_r, ct_n, ct_f, rf_s, rf_n, tl_s, tl_n, true_and, and_true, eq_self, and_self, Nat.reduceAdd, Nat.reduceLeDiff, Nat.zero_le, Nat.reduceEqDiff, or_true, true_or, false_or, or_false, if_true, if_false, gI_0, gI_1, gI_2, gI_3, gI_4, gI_5, gI_6, gI_7, gI_8, gI_9, gI_10, gI_11, gI_12, gI_13, gI_14, gI_15, gL_0, gL_1, gL_2, gL_3, gL_4, gL_5, gL_6, gL_7, gL_8, gL_9, gL_10, gL_11, gL_12, gL_13, gL_14, gL_15, gA_0, gA_1, gA_2, gA_3, gA_4, gA_5, gA_6, gA_7, gA_8, gA_9, gA_10, gA_11, gA_12, gA_13, gA_14, gA_15, p1_0, p1_1, p1_2, p1_3, p1_4, p1_5, p1_6, p1_7, p1_8, p1_9, p1_10, p1_11, p1_12, p1_13, p1_14, p1_15, p2_0, p2_1, p2_2, p2_3, p2_4, p2_5, p2_6, p2_7, p2_8, p2_9, p2_10, p2_11, p2_12, p2_13, p2_14, p2_15, b01_ok, b_ft, b_tf, b01_e0, b01_e1, lgc_0, not_true_eq_false, not_false_eq_true]
    exact nx _ _ _ _ _ _ _ _ _ (by omega) (by omega) (a.ask f1 f2 M2)
set_option maxHeartbeats 4000000 in
theorem lc_share {b L x tl len i c s : Nat} {xs : Nat → Int32} {h : HP} {tp r : Nat → Nat} {S : VS} {H : HS} {Q : PQ} (a : LI b L xs h x S H tp tl r len) (hi : i + 6 ≤ L) (hL : L ≤ 3072) (hc : 12 ≤ c) (hs : 172 ≤ s)
    (nx : ∀ h' S' H' tp' tl' r' len' c' s', c ≤ c' + 12 → s ≤ s' + 172 → LI b L xs h' x S' H' tp' tl' r' len' → WP 11 268 Q (1434, [.val (.ref b), .val (.ref x), .val (.ref (x + 34)), .val (.int (nI i))], [], h', c', s')) : WP 11 268 Q (1200, [.val (.ref b), .val (.ref x), .val (.ref (x + 34)), .val (.int (nI i))], [], h, c, s) := by
  have a0 := a
  obtain ⟨C, M, ⟨gS, gH⟩, rf, bk⟩ := a0
  have bk1 : SKb b L xs x h := bk
  have s1 : nI i + 1 = nI (i + 1) := nI_add i 1
  have s2 : nI i + 2 = nI (i + 2) := nI_add i 2
  have s3 : nI i + 3 = nI (i + 3) := nI_add i 3
  have s4 : nI i + 4 = nI (i + 4) := nI_add i 4
  have s5 : nI i + 5 = nI (i + 5) := nI_add i 5
  have u1 : i + 1 < 2 ^ 31 := by omega
  have u2 : i + 2 < 2 ^ 31 := by omega
  have u3 : i + 3 < 2 ^ 31 := by omega
  have u4 : i + 4 < 2 ^ 31 := by omega
  have u5 : i + 5 < 2 ^ 31 := by omega
  have v1 : i + 1 < L := by omega
  have v2 : i + 2 < L := by omega
  have v3 : i + 3 < L := by omega
  have v4 : i + 4 < L := by omega
  have v5 : i + 5 < L := by omega
  have kx : hkd h x = 15 := C.1.1.1.1
  simp only [s268_1200, s268_1201, s268_1202, s268_1203, s268_1204, s268_1205, s268_1206, oB_some, cl2_i, cl2_r, cl2_l, cl2_u, cl2_s, wd_0, wd_i, wd_r, wd_l, wd_f, ct_i, ct_r, ct_n, ct_f, rf_s, rf_n, tl_s, tl_n, true_and, and_true, eq_self, and_self, Nat.reduceAdd, Nat.reduceLeDiff, Nat.zero_le, Nat.reduceEqDiff, or_true, true_or, false_or, or_false, if_true, if_false, gI_0, gI_1, gI_2, gI_3, gI_4, gI_5, gI_6, gI_7, gI_8, gI_9, gI_10, gI_11, gI_12, gI_13, gI_14, gI_15, gL_0, gL_1, gL_2, gL_3, gL_4, gL_5, gL_6, gL_7, gL_8, gL_9, gL_10, gL_11, gL_12, gL_13, gL_14, gL_15, gA_0, gA_1, gA_2, gA_3, gA_4, gA_5, gA_6, gA_7, gA_8, gA_9, gA_10, gA_11, gA_12, gA_13, gA_14, gA_15, p1_0, p1_1, p1_2, p1_3, p1_4, p1_5, p1_6, p1_7, p1_8, p1_9, p1_10, p1_11, p1_12, p1_13, p1_14, p1_15, p2_0, p2_1, p2_2, p2_3, p2_4, p2_5, p2_6, p2_7, p2_8, p2_9, p2_10, p2_11, p2_12, p2_13, p2_14, p2_15, kx, bk1.2.1, bk1.2.2.1, bk1.2.2.2, s1, s2, s3, s4, s5, ix_nI u1, ix_nI u2, ix_nI u3, ix_nI u4, ix_nI u5, nI_pos' u1, nI_pos' u2, nI_pos' u3, nI_pos' u4, nI_pos' u5, v1, v2, v3, v4, v5]
  refine x_share C.1 gS.1 gS.2 (fun y e y0 => ?_) fun e h1 f1 => ?_
  · obtain ⟨h1, eh⟩ : ∃ z, z = RfC h x y := ⟨_, rfl⟩
    have fa1 : FA x h h1 := by rw [eh]; exact RfC.fa
    rw [← eh]
    have bk1 := bk1.fa fa1
    have M1 := M.fa gH fa1
    have km : hkd h1 (x + 34) = 16 := M1.1.1.1.1.1
    simp only [s268_1209, s268_1210, s268_1211, s268_1212, s268_1213, s268_1214, s268_1215, oB_some, cl2_i, cl2_r, cl2_l, cl2_u, cl2_s, wd_0, wd_i, wd_r, wd_l, wd_f, ct_i, ct_r, ct_n, ct_f, rf_s, rf_n, tl_s, tl_n, true_and, and_true, eq_self, and_self, Nat.reduceAdd, Nat.reduceLeDiff, Nat.zero_le, Nat.reduceEqDiff, or_true, true_or, false_or, or_false, if_true, if_false, gI_0, gI_1, gI_2, gI_3, gI_4, gI_5, gI_6, gI_7, gI_8, gI_9, gI_10, gI_11, gI_12, gI_13, gI_14, gI_15, gL_0, gL_1, gL_2, gL_3, gL_4, gL_5, gL_6, gL_7, gL_8, gL_9, gL_10, gL_11, gL_12, gL_13, gL_14, gL_15, gA_0, gA_1, gA_2, gA_3, gA_4, gA_5, gA_6, gA_7, gA_8, gA_9, gA_10, gA_11, gA_12, gA_13, gA_14, gA_15, p1_0, p1_1, p1_2, p1_3, p1_4, p1_5, p1_6, p1_7, p1_8, p1_9, p1_10, p1_11, p1_12, p1_13, p1_14, p1_15, p2_0, p2_1, p2_2, p2_3, p2_4, p2_5, p2_6, p2_7, p2_8, p2_9, p2_10, p2_11, p2_12, p2_13, p2_14, p2_15, km, bk1.2.1, bk1.2.2.1, bk1.2.2.2, s1, s2, s3, s4, s5, ix_nI u1, ix_nI u2, ix_nI u3, ix_nI u4, ix_nI u5, nI_pos' u1, nI_pos' u2, nI_pos' u3, nI_pos' u4, nI_pos' u5, v1, v2, v3, v4, v5]
    refine n_share M1.1 gS.1 gS.2 (fun y2 e2 n2 => ?_) fun e2 => absurd (e.symm.trans e2) y0
    obtain rfl := e.symm.trans e2
    simp only [s268_1218, s268_1219, s268_1222, oB_some, cl2_i, cl2_r, cl2_l, cl2_u, cl2_s, wd_0, wd_i, wd_r, wd_l, wd_f, ct_i, ct_r, ct_n, ct_f, rf_s, rf_n, tl_s, tl_n, true_and, and_true, eq_self, and_self, Nat.reduceAdd, Nat.reduceLeDiff, Nat.zero_le, Nat.reduceEqDiff, or_true, true_or, false_or, or_false, if_true, if_false, gI_0, gI_1, gI_2, gI_3, gI_4, gI_5, gI_6, gI_7, gI_8, gI_9, gI_10, gI_11, gI_12, gI_13, gI_14, gI_15, gL_0, gL_1, gL_2, gL_3, gL_4, gL_5, gL_6, gL_7, gL_8, gL_9, gL_10, gL_11, gL_12, gL_13, gL_14, gL_15, gA_0, gA_1, gA_2, gA_3, gA_4, gA_5, gA_6, gA_7, gA_8, gA_9, gA_10, gA_11, gA_12, gA_13, gA_14, gA_15, p1_0, p1_1, p1_2, p1_3, p1_4, p1_5, p1_6, p1_7, p1_8, p1_9, p1_10, p1_11, p1_12, p1_13, p1_14, p1_15, p2_0, p2_1, p2_2, p2_3, p2_4, p2_5, p2_6, p2_7, p2_8, p2_9, p2_10, p2_11, p2_12, p2_13, p2_14, p2_15, b01_ok, b_ft, b_tf, b01_e0, b01_e1, lgc_0, not_true_eq_false, not_false_eq_true]
    rw [eh]
    exact nx _ _ _ _ _ _ _ _ _ (by omega) (by omega) (a.refuse y)
  · skip
    have fa1 : FA x h h1 := f1.fa (by omega) (by omega)
    have bk1 := bk1.fa fa1
    have M1 := M.fa gH fa1
    have km : hkd h1 (x + 34) = 16 := M1.1.1.1.1.1
    simp only [s268_1209, s268_1210, s268_1211, s268_1212, s268_1213, s268_1214, s268_1215, oB_some, cl2_i, cl2_r, cl2_l, cl2_u, cl2_s, wd_0, wd_i, wd_r, wd_l, wd_f, ct_i, ct_r, ct_n, ct_f, rf_s, rf_n, tl_s, tl_n, true_and, and_true, eq_self, and_self, Nat.reduceAdd, Nat.reduceLeDiff, Nat.zero_le, Nat.reduceEqDiff, or_true, true_or, false_or, or_false, if_true, if_false, gI_0, gI_1, gI_2, gI_3, gI_4, gI_5, gI_6, gI_7, gI_8, gI_9, gI_10, gI_11, gI_12, gI_13, gI_14, gI_15, gL_0, gL_1, gL_2, gL_3, gL_4, gL_5, gL_6, gL_7, gL_8, gL_9, gL_10, gL_11, gL_12, gL_13, gL_14, gL_15, gA_0, gA_1, gA_2, gA_3, gA_4, gA_5, gA_6, gA_7, gA_8, gA_9, gA_10, gA_11, gA_12, gA_13, gA_14, gA_15, p1_0, p1_1, p1_2, p1_3, p1_4, p1_5, p1_6, p1_7, p1_8, p1_9, p1_10, p1_11, p1_12, p1_13, p1_14, p1_15, p2_0, p2_1, p2_2, p2_3, p2_4, p2_5, p2_6, p2_7, p2_8, p2_9, p2_10, p2_11, p2_12, p2_13, p2_14, p2_15, km, bk1.2.1, bk1.2.2.1, bk1.2.2.2, s1, s2, s3, s4, s5, ix_nI u1, ix_nI u2, ix_nI u3, ix_nI u4, ix_nI u5, nI_pos' u1, nI_pos' u2, nI_pos' u3, nI_pos' u4, nI_pos' u5, v1, v2, v3, v4, v5]
    refine n_share M1.1 gS.1 gS.2 (fun y2 e2 n2 => absurd (e2.symm.trans e) n2) fun _ h2 f2 M2 => ?_
    simp only [s268_1218, s268_1219, s268_1222, oB_some, cl2_i, cl2_r, cl2_l, cl2_u, cl2_s, wd_0, wd_i, wd_r, wd_l, wd_f, ct_i, ct_r, ct_n, ct_f, rf_s, rf_n, tl_s, tl_n, true_and, and_true, eq_self, and_self, Nat.reduceAdd, Nat.reduceLeDiff, Nat.zero_le, Nat.reduceEqDiff, or_true, true_or, false_or, or_false, if_true, if_false, gI_0, gI_1, gI_2, gI_3, gI_4, gI_5, gI_6, gI_7, gI_8, gI_9, gI_10, gI_11, gI_12, gI_13, gI_14, gI_15, gL_0, gL_1, gL_2, gL_3, gL_4, gL_5, gL_6, gL_7, gL_8, gL_9, gL_10, gL_11, gL_12, gL_13, gL_14, gL_15, gA_0, gA_1, gA_2, gA_3, gA_4, gA_5, gA_6, gA_7, gA_8, gA_9, gA_10, gA_11, gA_12, gA_13, gA_14, gA_15, p1_0, p1_1, p1_2, p1_3, p1_4, p1_5, p1_6, p1_7, p1_8, p1_9, p1_10, p1_11, p1_12, p1_13, p1_14, p1_15, p2_0, p2_1, p2_2, p2_3, p2_4, p2_5, p2_6, p2_7, p2_8, p2_9, p2_10, p2_11, p2_12, p2_13, p2_14, p2_15, b01_ok, b_ft, b_tf, b01_e0, b01_e1, lgc_0, not_true_eq_false, not_false_eq_true]
    exact nx _ _ _ _ _ _ _ _ _ (by omega) (by omega) (a.ask f1 f2 M2)
set_option maxHeartbeats 4000000 in
theorem lc_lamp {b L x tl len i c s : Nat} {xs : Nat → Int32} {h : HP} {tp r : Nat → Nat} {S : VS} {H : HS} {Q : PQ} (a : LI b L xs h x S H tp tl r len) (hi : i + 6 ≤ L) (hL : L ≤ 3072) (hc : 12 ≤ c) (hs : 172 ≤ s)
    (nx : ∀ h' S' H' tp' tl' r' len' c' s', c ≤ c' + 12 → s ≤ s' + 172 → LI b L xs h' x S' H' tp' tl' r' len' → WP 11 268 Q (1434, [.val (.ref b), .val (.ref x), .val (.ref (x + 34)), .val (.int (nI i))], [], h', c', s')) : WP 11 268 Q (1224, [.val (.ref b), .val (.ref x), .val (.ref (x + 34)), .val (.int (nI i))], [], h, c, s) := by
  have a0 := a
  obtain ⟨C, M, ⟨gS, gH⟩, rf, bk⟩ := a0
  have bk1 : SKb b L xs x h := bk
  have s1 : nI i + 1 = nI (i + 1) := nI_add i 1
  have s2 : nI i + 2 = nI (i + 2) := nI_add i 2
  have s3 : nI i + 3 = nI (i + 3) := nI_add i 3
  have s4 : nI i + 4 = nI (i + 4) := nI_add i 4
  have s5 : nI i + 5 = nI (i + 5) := nI_add i 5
  have u1 : i + 1 < 2 ^ 31 := by omega
  have u2 : i + 2 < 2 ^ 31 := by omega
  have u3 : i + 3 < 2 ^ 31 := by omega
  have u4 : i + 4 < 2 ^ 31 := by omega
  have u5 : i + 5 < 2 ^ 31 := by omega
  have v1 : i + 1 < L := by omega
  have v2 : i + 2 < L := by omega
  have v3 : i + 3 < L := by omega
  have v4 : i + 4 < L := by omega
  have v5 : i + 5 < L := by omega
  have kx : hkd h x = 15 := C.1.1.1.1
  simp only [s268_1224, s268_1225, s268_1226, s268_1227, s268_1228, s268_1229, s268_1230, oB_some, cl2_i, cl2_r, cl2_l, cl2_u, cl2_s, wd_0, wd_i, wd_r, wd_l, wd_f, ct_i, ct_r, ct_n, ct_f, rf_s, rf_n, tl_s, tl_n, true_and, and_true, eq_self, and_self, Nat.reduceAdd, Nat.reduceLeDiff, Nat.zero_le, Nat.reduceEqDiff, or_true, true_or, false_or, or_false, if_true, if_false, gI_0, gI_1, gI_2, gI_3, gI_4, gI_5, gI_6, gI_7, gI_8, gI_9, gI_10, gI_11, gI_12, gI_13, gI_14, gI_15, gL_0, gL_1, gL_2, gL_3, gL_4, gL_5, gL_6, gL_7, gL_8, gL_9, gL_10, gL_11, gL_12, gL_13, gL_14, gL_15, gA_0, gA_1, gA_2, gA_3, gA_4, gA_5, gA_6, gA_7, gA_8, gA_9, gA_10, gA_11, gA_12, gA_13, gA_14, gA_15, p1_0, p1_1, p1_2, p1_3, p1_4, p1_5, p1_6, p1_7, p1_8, p1_9, p1_10, p1_11, p1_12, p1_13, p1_14, p1_15, p2_0, p2_1, p2_2, p2_3, p2_4, p2_5, p2_6, p2_7, p2_8, p2_9, p2_10, p2_11, p2_12, p2_13, p2_14, p2_15, kx, bk1.2.1, bk1.2.2.1, bk1.2.2.2, s1, s2, s3, s4, s5, ix_nI u1, ix_nI u2, ix_nI u3, ix_nI u4, ix_nI u5, nI_pos' u1, nI_pos' u2, nI_pos' u3, nI_pos' u4, nI_pos' u5, v1, v2, v3, v4, v5]
  refine x_lamp C.1 gS.1 gS.2 (fun y e y0 => ?_) fun e h1 f1 => ?_
  · obtain ⟨h1, eh⟩ : ∃ z, z = RfC h x y := ⟨_, rfl⟩
    have fa1 : FA x h h1 := by rw [eh]; exact RfC.fa
    rw [← eh]
    have bk1 := bk1.fa fa1
    have M1 := M.fa gH fa1
    have km : hkd h1 (x + 34) = 16 := M1.1.1.1.1.1
    simp only [s268_1233, s268_1234, s268_1235, s268_1236, s268_1237, s268_1238, s268_1239, oB_some, cl2_i, cl2_r, cl2_l, cl2_u, cl2_s, wd_0, wd_i, wd_r, wd_l, wd_f, ct_i, ct_r, ct_n, ct_f, rf_s, rf_n, tl_s, tl_n, true_and, and_true, eq_self, and_self, Nat.reduceAdd, Nat.reduceLeDiff, Nat.zero_le, Nat.reduceEqDiff, or_true, true_or, false_or, or_false, if_true, if_false, gI_0, gI_1, gI_2, gI_3, gI_4, gI_5, gI_6, gI_7, gI_8, gI_9, gI_10, gI_11, gI_12, gI_13, gI_14, gI_15, gL_0, gL_1, gL_2, gL_3, gL_4, gL_5, gL_6, gL_7, gL_8, gL_9, gL_10, gL_11, gL_12, gL_13, gL_14, gL_15, gA_0, gA_1, gA_2, gA_3, gA_4, gA_5, gA_6, gA_7, gA_8, gA_9, gA_10, gA_11, gA_12, gA_13, gA_14, gA_15, p1_0, p1_1, p1_2, p1_3, p1_4, p1_5, p1_6, p1_7, p1_8, p1_9, p1_10, p1_11, p1_12, p1_13, p1_14, p1_15, p2_0, p2_1, p2_2, p2_3, p2_4, p2_5, p2_6, p2_7, p2_8, p2_9, p2_10, p2_11, p2_12, p2_13, p2_14, p2_15, km, bk1.2.1, bk1.2.2.1, bk1.2.2.2, s1, s2, s3, s4, s5, ix_nI u1, ix_nI u2, ix_nI u3, ix_nI u4, ix_nI u5, nI_pos' u1, nI_pos' u2, nI_pos' u3, nI_pos' u4, nI_pos' u5, v1, v2, v3, v4, v5]
    refine n_lamp M1.1 gS.1 gS.2 (fun y2 e2 n2 => ?_) fun e2 => absurd (e.symm.trans e2) y0
    obtain rfl := e.symm.trans e2
    simp only [s268_1242, s268_1245, oB_some, cl2_i, cl2_r, cl2_l, cl2_u, cl2_s, wd_0, wd_i, wd_r, wd_l, wd_f, ct_i, ct_r, ct_n, ct_f, rf_s, rf_n, tl_s, tl_n, true_and, and_true, eq_self, and_self, Nat.reduceAdd, Nat.reduceLeDiff, Nat.zero_le, Nat.reduceEqDiff, or_true, true_or, false_or, or_false, if_true, if_false, gI_0, gI_1, gI_2, gI_3, gI_4, gI_5, gI_6, gI_7, gI_8, gI_9, gI_10, gI_11, gI_12, gI_13, gI_14, gI_15, gL_0, gL_1, gL_2, gL_3, gL_4, gL_5, gL_6, gL_7, gL_8, gL_9, gL_10, gL_11, gL_12, gL_13, gL_14, gL_15, gA_0, gA_1, gA_2, gA_3, gA_4, gA_5, gA_6, gA_7, gA_8, gA_9, gA_10, gA_11, gA_12, gA_13, gA_14, gA_15, p1_0, p1_1, p1_2, p1_3, p1_4, p1_5, p1_6, p1_7, p1_8, p1_9, p1_10, p1_11, p1_12, p1_13, p1_14, p1_15, p2_0, p2_1, p2_2, p2_3, p2_4, p2_5, p2_6, p2_7, p2_8, p2_9, p2_10, p2_11, p2_12, p2_13, p2_14, p2_15, b01_ok, b_ft, b_tf, b01_e0, b01_e1, lgc_0, not_true_eq_false, not_false_eq_true]
    rw [eh]
    exact nx _ _ _ _ _ _ _ _ _ (by omega) (by omega) (a.refuse y)
  · skip
    have fa1 : FA x h h1 := f1.fa (by omega) (by omega)
    have bk1 := bk1.fa fa1
    have M1 := M.fa gH fa1
    have km : hkd h1 (x + 34) = 16 := M1.1.1.1.1.1
    simp only [s268_1233, s268_1234, s268_1235, s268_1236, s268_1237, s268_1238, s268_1239, oB_some, cl2_i, cl2_r, cl2_l, cl2_u, cl2_s, wd_0, wd_i, wd_r, wd_l, wd_f, ct_i, ct_r, ct_n, ct_f, rf_s, rf_n, tl_s, tl_n, true_and, and_true, eq_self, and_self, Nat.reduceAdd, Nat.reduceLeDiff, Nat.zero_le, Nat.reduceEqDiff, or_true, true_or, false_or, or_false, if_true, if_false, gI_0, gI_1, gI_2, gI_3, gI_4, gI_5, gI_6, gI_7, gI_8, gI_9, gI_10, gI_11, gI_12, gI_13, gI_14, gI_15, gL_0, gL_1, gL_2, gL_3, gL_4, gL_5, gL_6, gL_7, gL_8, gL_9, gL_10, gL_11, gL_12, gL_13, gL_14, gL_15, gA_0, gA_1, gA_2, gA_3, gA_4, gA_5, gA_6, gA_7, gA_8, gA_9, gA_10, gA_11, gA_12, gA_13, gA_14, gA_15, p1_0, p1_1, p1_2, p1_3, p1_4, p1_5, p1_6, p1_7, p1_8, p1_9, p1_10, p1_11, p1_12, p1_13, p1_14, p1_15, p2_0, p2_1, p2_2, p2_3, p2_4, p2_5, p2_6, p2_7, p2_8, p2_9, p2_10, p2_11, p2_12, p2_13, p2_14, p2_15, km, bk1.2.1, bk1.2.2.1, bk1.2.2.2, s1, s2, s3, s4, s5, ix_nI u1, ix_nI u2, ix_nI u3, ix_nI u4, ix_nI u5, nI_pos' u1, nI_pos' u2, nI_pos' u3, nI_pos' u4, nI_pos' u5, v1, v2, v3, v4, v5]
    refine n_lamp M1.1 gS.1 gS.2 (fun y2 e2 n2 => absurd (e2.symm.trans e) n2) fun _ h2 f2 M2 => ?_
    simp only [s268_1242, s268_1245, oB_some, cl2_i, cl2_r, cl2_l, cl2_u, cl2_s, wd_0, wd_i, wd_r, wd_l, wd_f, ct_i, ct_r, ct_n, ct_f, rf_s, rf_n, tl_s, tl_n, true_and, and_true, eq_self, and_self, Nat.reduceAdd, Nat.reduceLeDiff, Nat.zero_le, Nat.reduceEqDiff, or_true, true_or, false_or, or_false, if_true, if_false, gI_0, gI_1, gI_2, gI_3, gI_4, gI_5, gI_6, gI_7, gI_8, gI_9, gI_10, gI_11, gI_12, gI_13, gI_14, gI_15, gL_0, gL_1, gL_2, gL_3, gL_4, gL_5, gL_6, gL_7, gL_8, gL_9, gL_10, gL_11, gL_12, gL_13, gL_14, gL_15, gA_0, gA_1, gA_2, gA_3, gA_4, gA_5, gA_6, gA_7, gA_8, gA_9, gA_10, gA_11, gA_12, gA_13, gA_14, gA_15, p1_0, p1_1, p1_2, p1_3, p1_4, p1_5, p1_6, p1_7, p1_8, p1_9, p1_10, p1_11, p1_12, p1_13, p1_14, p1_15, p2_0, p2_1, p2_2, p2_3, p2_4, p2_5, p2_6, p2_7, p2_8, p2_9, p2_10, p2_11, p2_12, p2_13, p2_14, p2_15, b01_ok, b_ft, b_tf, b01_e0, b01_e1, lgc_0, not_true_eq_false, not_false_eq_true]
    exact nx _ _ _ _ _ _ _ _ _ (by omega) (by omega) (a.ask f1 f2 M2)
set_option maxHeartbeats 4000000 in
theorem lc_bag {b L x tl len i c s : Nat} {xs : Nat → Int32} {h : HP} {tp r : Nat → Nat} {S : VS} {H : HS} {Q : PQ} (a : LI b L xs h x S H tp tl r len) (hi : i + 6 ≤ L) (hL : L ≤ 3072) (hc : 12 ≤ c) (hs : 172 ≤ s)
    (nx : ∀ h' S' H' tp' tl' r' len' c' s', c ≤ c' + 12 → s ≤ s' + 172 → LI b L xs h' x S' H' tp' tl' r' len' → WP 11 268 Q (1434, [.val (.ref b), .val (.ref x), .val (.ref (x + 34)), .val (.int (nI i))], [], h', c', s')) : WP 11 268 Q (1247, [.val (.ref b), .val (.ref x), .val (.ref (x + 34)), .val (.int (nI i))], [], h, c, s) := by
  have a0 := a
  obtain ⟨C, M, ⟨gS, gH⟩, rf, bk⟩ := a0
  have bk1 : SKb b L xs x h := bk
  have s1 : nI i + 1 = nI (i + 1) := nI_add i 1
  have s2 : nI i + 2 = nI (i + 2) := nI_add i 2
  have s3 : nI i + 3 = nI (i + 3) := nI_add i 3
  have s4 : nI i + 4 = nI (i + 4) := nI_add i 4
  have s5 : nI i + 5 = nI (i + 5) := nI_add i 5
  have u1 : i + 1 < 2 ^ 31 := by omega
  have u2 : i + 2 < 2 ^ 31 := by omega
  have u3 : i + 3 < 2 ^ 31 := by omega
  have u4 : i + 4 < 2 ^ 31 := by omega
  have u5 : i + 5 < 2 ^ 31 := by omega
  have v1 : i + 1 < L := by omega
  have v2 : i + 2 < L := by omega
  have v3 : i + 3 < L := by omega
  have v4 : i + 4 < L := by omega
  have v5 : i + 5 < L := by omega
  have kx : hkd h x = 15 := C.1.1.1.1
  simp only [s268_1247, s268_1248, s268_1249, s268_1250, s268_1251, s268_1252, s268_1253, oB_some, cl2_i, cl2_r, cl2_l, cl2_u, cl2_s, wd_0, wd_i, wd_r, wd_l, wd_f, ct_i, ct_r, ct_n, ct_f, rf_s, rf_n, tl_s, tl_n, true_and, and_true, eq_self, and_self, Nat.reduceAdd, Nat.reduceLeDiff, Nat.zero_le, Nat.reduceEqDiff, or_true, true_or, false_or, or_false, if_true, if_false, gI_0, gI_1, gI_2, gI_3, gI_4, gI_5, gI_6, gI_7, gI_8, gI_9, gI_10, gI_11, gI_12, gI_13, gI_14, gI_15, gL_0, gL_1, gL_2, gL_3, gL_4, gL_5, gL_6, gL_7, gL_8, gL_9, gL_10, gL_11, gL_12, gL_13, gL_14, gL_15, gA_0, gA_1, gA_2, gA_3, gA_4, gA_5, gA_6, gA_7, gA_8, gA_9, gA_10, gA_11, gA_12, gA_13, gA_14, gA_15, p1_0, p1_1, p1_2, p1_3, p1_4, p1_5, p1_6, p1_7, p1_8, p1_9, p1_10, p1_11, p1_12, p1_13, p1_14, p1_15, p2_0, p2_1, p2_2, p2_3, p2_4, p2_5, p2_6, p2_7, p2_8, p2_9, p2_10, p2_11, p2_12, p2_13, p2_14, p2_15, kx, bk1.2.1, bk1.2.2.1, bk1.2.2.2, s1, s2, s3, s4, s5, ix_nI u1, ix_nI u2, ix_nI u3, ix_nI u4, ix_nI u5, nI_pos' u1, nI_pos' u2, nI_pos' u3, nI_pos' u4, nI_pos' u5, v1, v2, v3, v4, v5]
  refine x_bag C.1 gS.1 gS.2 (fun y e y0 => ?_) fun e h1 f1 => ?_
  · obtain ⟨h1, eh⟩ : ∃ z, z = RfC h x y := ⟨_, rfl⟩
    have fa1 : FA x h h1 := by rw [eh]; exact RfC.fa
    rw [← eh]
    have bk1 := bk1.fa fa1
    have M1 := M.fa gH fa1
    have km : hkd h1 (x + 34) = 16 := M1.1.1.1.1.1
    simp only [s268_1256, s268_1257, s268_1258, s268_1259, s268_1260, s268_1261, s268_1262, oB_some, cl2_i, cl2_r, cl2_l, cl2_u, cl2_s, wd_0, wd_i, wd_r, wd_l, wd_f, ct_i, ct_r, ct_n, ct_f, rf_s, rf_n, tl_s, tl_n, true_and, and_true, eq_self, and_self, Nat.reduceAdd, Nat.reduceLeDiff, Nat.zero_le, Nat.reduceEqDiff, or_true, true_or, false_or, or_false, if_true, if_false, gI_0, gI_1, gI_2, gI_3, gI_4, gI_5, gI_6, gI_7, gI_8, gI_9, gI_10, gI_11, gI_12, gI_13, gI_14, gI_15, gL_0, gL_1, gL_2, gL_3, gL_4, gL_5, gL_6, gL_7, gL_8, gL_9, gL_10, gL_11, gL_12, gL_13, gL_14, gL_15, gA_0, gA_1, gA_2, gA_3, gA_4, gA_5, gA_6, gA_7, gA_8, gA_9, gA_10, gA_11, gA_12, gA_13, gA_14, gA_15, p1_0, p1_1, p1_2, p1_3, p1_4, p1_5, p1_6, p1_7, p1_8, p1_9, p1_10, p1_11, p1_12, p1_13, p1_14, p1_15, p2_0, p2_1, p2_2, p2_3, p2_4, p2_5, p2_6, p2_7, p2_8, p2_9, p2_10, p2_11, p2_12, p2_13, p2_14, p2_15, km, bk1.2.1, bk1.2.2.1, bk1.2.2.2, s1, s2, s3, s4, s5, ix_nI u1, ix_nI u2, ix_nI u3, ix_nI u4, ix_nI u5, nI_pos' u1, nI_pos' u2, nI_pos' u3, nI_pos' u4, nI_pos' u5, v1, v2, v3, v4, v5]
    refine n_bag M1.1 gS.1 gS.2 (fun y2 e2 n2 => ?_) fun e2 => absurd (e.symm.trans e2) y0
    obtain rfl := e.symm.trans e2
    simp only [s268_1265, s268_1268, oB_some, cl2_i, cl2_r, cl2_l, cl2_u, cl2_s, wd_0, wd_i, wd_r, wd_l, wd_f, ct_i, ct_r, ct_n, ct_f, rf_s, rf_n, tl_s, tl_n, true_and, and_true, eq_self, and_self, Nat.reduceAdd, Nat.reduceLeDiff, Nat.zero_le, Nat.reduceEqDiff, or_true, true_or, false_or, or_false, if_true, if_false, gI_0, gI_1, gI_2, gI_3, gI_4, gI_5, gI_6, gI_7, gI_8, gI_9, gI_10, gI_11, gI_12, gI_13, gI_14, gI_15, gL_0, gL_1, gL_2, gL_3, gL_4, gL_5, gL_6, gL_7, gL_8, gL_9, gL_10, gL_11, gL_12, gL_13, gL_14, gL_15, gA_0, gA_1, gA_2, gA_3, gA_4, gA_5, gA_6, gA_7, gA_8, gA_9, gA_10, gA_11, gA_12, gA_13, gA_14, gA_15, p1_0, p1_1, p1_2, p1_3, p1_4, p1_5, p1_6, p1_7, p1_8, p1_9, p1_10, p1_11, p1_12, p1_13, p1_14, p1_15, p2_0, p2_1, p2_2, p2_3, p2_4, p2_5, p2_6, p2_7, p2_8, p2_9, p2_10, p2_11, p2_12, p2_13, p2_14, p2_15, b01_ok, b_ft, b_tf, b01_e0, b01_e1, lgc_0, not_true_eq_false, not_false_eq_true]
    rw [eh]
    exact nx _ _ _ _ _ _ _ _ _ (by omega) (by omega) (a.refuse y)
  · skip
    have fa1 : FA x h h1 := f1.fa (by omega) (by omega)
    have bk1 := bk1.fa fa1
    have M1 := M.fa gH fa1
    have km : hkd h1 (x + 34) = 16 := M1.1.1.1.1.1
    simp only [s268_1256, s268_1257, s268_1258, s268_1259, s268_1260, s268_1261, s268_1262, oB_some, cl2_i, cl2_r, cl2_l, cl2_u, cl2_s, wd_0, wd_i, wd_r, wd_l, wd_f, ct_i, ct_r, ct_n, ct_f, rf_s, rf_n, tl_s, tl_n, true_and, and_true, eq_self, and_self, Nat.reduceAdd, Nat.reduceLeDiff, Nat.zero_le, Nat.reduceEqDiff, or_true, true_or, false_or, or_false, if_true, if_false, gI_0, gI_1, gI_2, gI_3, gI_4, gI_5, gI_6, gI_7, gI_8, gI_9, gI_10, gI_11, gI_12, gI_13, gI_14, gI_15, gL_0, gL_1, gL_2, gL_3, gL_4, gL_5, gL_6, gL_7, gL_8, gL_9, gL_10, gL_11, gL_12, gL_13, gL_14, gL_15, gA_0, gA_1, gA_2, gA_3, gA_4, gA_5, gA_6, gA_7, gA_8, gA_9, gA_10, gA_11, gA_12, gA_13, gA_14, gA_15, p1_0, p1_1, p1_2, p1_3, p1_4, p1_5, p1_6, p1_7, p1_8, p1_9, p1_10, p1_11, p1_12, p1_13, p1_14, p1_15, p2_0, p2_1, p2_2, p2_3, p2_4, p2_5, p2_6, p2_7, p2_8, p2_9, p2_10, p2_11, p2_12, p2_13, p2_14, p2_15, km, bk1.2.1, bk1.2.2.1, bk1.2.2.2, s1, s2, s3, s4, s5, ix_nI u1, ix_nI u2, ix_nI u3, ix_nI u4, ix_nI u5, nI_pos' u1, nI_pos' u2, nI_pos' u3, nI_pos' u4, nI_pos' u5, v1, v2, v3, v4, v5]
    refine n_bag M1.1 gS.1 gS.2 (fun y2 e2 n2 => absurd (e2.symm.trans e) n2) fun _ h2 f2 M2 => ?_
    simp only [s268_1265, s268_1268, oB_some, cl2_i, cl2_r, cl2_l, cl2_u, cl2_s, wd_0, wd_i, wd_r, wd_l, wd_f, ct_i, ct_r, ct_n, ct_f, rf_s, rf_n, tl_s, tl_n, true_and, and_true, eq_self, and_self, Nat.reduceAdd, Nat.reduceLeDiff, Nat.zero_le, Nat.reduceEqDiff, or_true, true_or, false_or, or_false, if_true, if_false, gI_0, gI_1, gI_2, gI_3, gI_4, gI_5, gI_6, gI_7, gI_8, gI_9, gI_10, gI_11, gI_12, gI_13, gI_14, gI_15, gL_0, gL_1, gL_2, gL_3, gL_4, gL_5, gL_6, gL_7, gL_8, gL_9, gL_10, gL_11, gL_12, gL_13, gL_14, gL_15, gA_0, gA_1, gA_2, gA_3, gA_4, gA_5, gA_6, gA_7, gA_8, gA_9, gA_10, gA_11, gA_12, gA_13, gA_14, gA_15, p1_0, p1_1, p1_2, p1_3, p1_4, p1_5, p1_6, p1_7, p1_8, p1_9, p1_10, p1_11, p1_12, p1_13, p1_14, p1_15, p2_0, p2_1, p2_2, p2_3, p2_4, p2_5, p2_6, p2_7, p2_8, p2_9, p2_10, p2_11, p2_12, p2_13, p2_14, p2_15, b01_ok, b_ft, b_tf, b01_e0, b01_e1, lgc_0, not_true_eq_false, not_false_eq_true]
    exact nx _ _ _ _ _ _ _ _ _ (by omega) (by omega) (a.ask f1 f2 M2)
set_option maxHeartbeats 4000000 in
theorem lc_kinds {b L x tl len i c s : Nat} {xs : Nat → Int32} {h : HP} {tp r : Nat → Nat} {S : VS} {H : HS} {Q : PQ} (a : LI b L xs h x S H tp tl r len) (hi : i + 6 ≤ L) (hL : L ≤ 3072) (hc : 12 ≤ c) (hs : 172 ≤ s)
    (nx : ∀ h' S' H' tp' tl' r' len' c' s', c ≤ c' + 12 → s ≤ s' + 172 → LI b L xs h' x S' H' tp' tl' r' len' → WP 11 268 Q (1434, [.val (.ref b), .val (.ref x), .val (.ref (x + 34)), .val (.int (nI i))], [], h', c', s')) : WP 11 268 Q (1270, [.val (.ref b), .val (.ref x), .val (.ref (x + 34)), .val (.int (nI i))], [], h, c, s) := by
  have a0 := a
  obtain ⟨C, M, ⟨gS, gH⟩, rf, bk⟩ := a0
  have bk1 : SKb b L xs x h := bk
  have s1 : nI i + 1 = nI (i + 1) := nI_add i 1
  have s2 : nI i + 2 = nI (i + 2) := nI_add i 2
  have s3 : nI i + 3 = nI (i + 3) := nI_add i 3
  have s4 : nI i + 4 = nI (i + 4) := nI_add i 4
  have s5 : nI i + 5 = nI (i + 5) := nI_add i 5
  have u1 : i + 1 < 2 ^ 31 := by omega
  have u2 : i + 2 < 2 ^ 31 := by omega
  have u3 : i + 3 < 2 ^ 31 := by omega
  have u4 : i + 4 < 2 ^ 31 := by omega
  have u5 : i + 5 < 2 ^ 31 := by omega
  have v1 : i + 1 < L := by omega
  have v2 : i + 2 < L := by omega
  have v3 : i + 3 < L := by omega
  have v4 : i + 4 < L := by omega
  have v5 : i + 5 < L := by omega
  have kx : hkd h x = 15 := C.1.1.1.1
  simp only [s268_1270, s268_1271, s268_1272, s268_1273, s268_1274, s268_1275, s268_1276, oB_some, cl2_i, cl2_r, cl2_l, cl2_u, cl2_s, wd_0, wd_i, wd_r, wd_l, wd_f, ct_i, ct_r, ct_n, ct_f, rf_s, rf_n, tl_s, tl_n, true_and, and_true, eq_self, and_self, Nat.reduceAdd, Nat.reduceLeDiff, Nat.zero_le, Nat.reduceEqDiff, or_true, true_or, false_or, or_false, if_true, if_false, gI_0, gI_1, gI_2, gI_3, gI_4, gI_5, gI_6, gI_7, gI_8, gI_9, gI_10, gI_11, gI_12, gI_13, gI_14, gI_15, gL_0, gL_1, gL_2, gL_3, gL_4, gL_5, gL_6, gL_7, gL_8, gL_9, gL_10, gL_11, gL_12, gL_13, gL_14, gL_15, gA_0, gA_1, gA_2, gA_3, gA_4, gA_5, gA_6, gA_7, gA_8, gA_9, gA_10, gA_11, gA_12, gA_13, gA_14, gA_15, p1_0, p1_1, p1_2, p1_3, p1_4, p1_5, p1_6, p1_7, p1_8, p1_9, p1_10, p1_11, p1_12, p1_13, p1_14, p1_15, p2_0, p2_1, p2_2, p2_3, p2_4, p2_5, p2_6, p2_7, p2_8, p2_9, p2_10, p2_11, p2_12, p2_13, p2_14, p2_15, kx, bk1.2.1, bk1.2.2.1, bk1.2.2.2, s1, s2, s3, s4, s5, ix_nI u1, ix_nI u2, ix_nI u3, ix_nI u4, ix_nI u5, nI_pos' u1, nI_pos' u2, nI_pos' u3, nI_pos' u4, nI_pos' u5, v1, v2, v3, v4, v5]
  refine x_kinds C.1 gS.1 gS.2 (fun y e y0 => ?_) fun e h1 f1 => ?_
  · obtain ⟨h1, eh⟩ : ∃ z, z = RfC h x y := ⟨_, rfl⟩
    have fa1 : FA x h h1 := by rw [eh]; exact RfC.fa
    rw [← eh]
    have bk1 := bk1.fa fa1
    have M1 := M.fa gH fa1
    have km : hkd h1 (x + 34) = 16 := M1.1.1.1.1.1
    simp only [s268_1279, s268_1280, s268_1281, s268_1282, s268_1283, s268_1284, s268_1285, oB_some, cl2_i, cl2_r, cl2_l, cl2_u, cl2_s, wd_0, wd_i, wd_r, wd_l, wd_f, ct_i, ct_r, ct_n, ct_f, rf_s, rf_n, tl_s, tl_n, true_and, and_true, eq_self, and_self, Nat.reduceAdd, Nat.reduceLeDiff, Nat.zero_le, Nat.reduceEqDiff, or_true, true_or, false_or, or_false, if_true, if_false, gI_0, gI_1, gI_2, gI_3, gI_4, gI_5, gI_6, gI_7, gI_8, gI_9, gI_10, gI_11, gI_12, gI_13, gI_14, gI_15, gL_0, gL_1, gL_2, gL_3, gL_4, gL_5, gL_6, gL_7, gL_8, gL_9, gL_10, gL_11, gL_12, gL_13, gL_14, gL_15, gA_0, gA_1, gA_2, gA_3, gA_4, gA_5, gA_6, gA_7, gA_8, gA_9, gA_10, gA_11, gA_12, gA_13, gA_14, gA_15, p1_0, p1_1, p1_2, p1_3, p1_4, p1_5, p1_6, p1_7, p1_8, p1_9, p1_10, p1_11, p1_12, p1_13, p1_14, p1_15, p2_0, p2_1, p2_2, p2_3, p2_4, p2_5, p2_6, p2_7, p2_8, p2_9, p2_10, p2_11, p2_12, p2_13, p2_14, p2_15, km, bk1.2.1, bk1.2.2.1, bk1.2.2.2, s1, s2, s3, s4, s5, ix_nI u1, ix_nI u2, ix_nI u3, ix_nI u4, ix_nI u5, nI_pos' u1, nI_pos' u2, nI_pos' u3, nI_pos' u4, nI_pos' u5, v1, v2, v3, v4, v5]
    refine n_kinds M1.1 gS.1 gS.2 (fun y2 e2 n2 => ?_) fun e2 => absurd (e.symm.trans e2) y0
    obtain rfl := e.symm.trans e2
    simp only [s268_1288, s268_1291, oB_some, cl2_i, cl2_r, cl2_l, cl2_u, cl2_s, wd_0, wd_i, wd_r, wd_l, wd_f, ct_i, ct_r, ct_n, ct_f, rf_s, rf_n, tl_s, tl_n, true_and, and_true, eq_self, and_self, Nat.reduceAdd, Nat.reduceLeDiff, Nat.zero_le, Nat.reduceEqDiff, or_true, true_or, false_or, or_false, if_true, if_false, gI_0, gI_1, gI_2, gI_3, gI_4, gI_5, gI_6, gI_7, gI_8, gI_9, gI_10, gI_11, gI_12, gI_13, gI_14, gI_15, gL_0, gL_1, gL_2, gL_3, gL_4, gL_5, gL_6, gL_7, gL_8, gL_9, gL_10, gL_11, gL_12, gL_13, gL_14, gL_15, gA_0, gA_1, gA_2, gA_3, gA_4, gA_5, gA_6, gA_7, gA_8, gA_9, gA_10, gA_11, gA_12, gA_13, gA_14, gA_15, p1_0, p1_1, p1_2, p1_3, p1_4, p1_5, p1_6, p1_7, p1_8, p1_9, p1_10, p1_11, p1_12, p1_13, p1_14, p1_15, p2_0, p2_1, p2_2, p2_3, p2_4, p2_5, p2_6, p2_7, p2_8, p2_9, p2_10, p2_11, p2_12, p2_13, p2_14, p2_15, b01_ok, b_ft, b_tf, b01_e0, b01_e1, lgc_0, not_true_eq_false, not_false_eq_true]
    rw [eh]
    exact nx _ _ _ _ _ _ _ _ _ (by omega) (by omega) (a.refuse y)
  · skip
    have fa1 : FA x h h1 := f1.fa (by omega) (by omega)
    have bk1 := bk1.fa fa1
    have M1 := M.fa gH fa1
    have km : hkd h1 (x + 34) = 16 := M1.1.1.1.1.1
    simp only [s268_1279, s268_1280, s268_1281, s268_1282, s268_1283, s268_1284, s268_1285, oB_some, cl2_i, cl2_r, cl2_l, cl2_u, cl2_s, wd_0, wd_i, wd_r, wd_l, wd_f, ct_i, ct_r, ct_n, ct_f, rf_s, rf_n, tl_s, tl_n, true_and, and_true, eq_self, and_self, Nat.reduceAdd, Nat.reduceLeDiff, Nat.zero_le, Nat.reduceEqDiff, or_true, true_or, false_or, or_false, if_true, if_false, gI_0, gI_1, gI_2, gI_3, gI_4, gI_5, gI_6, gI_7, gI_8, gI_9, gI_10, gI_11, gI_12, gI_13, gI_14, gI_15, gL_0, gL_1, gL_2, gL_3, gL_4, gL_5, gL_6, gL_7, gL_8, gL_9, gL_10, gL_11, gL_12, gL_13, gL_14, gL_15, gA_0, gA_1, gA_2, gA_3, gA_4, gA_5, gA_6, gA_7, gA_8, gA_9, gA_10, gA_11, gA_12, gA_13, gA_14, gA_15, p1_0, p1_1, p1_2, p1_3, p1_4, p1_5, p1_6, p1_7, p1_8, p1_9, p1_10, p1_11, p1_12, p1_13, p1_14, p1_15, p2_0, p2_1, p2_2, p2_3, p2_4, p2_5, p2_6, p2_7, p2_8, p2_9, p2_10, p2_11, p2_12, p2_13, p2_14, p2_15, km, bk1.2.1, bk1.2.2.1, bk1.2.2.2, s1, s2, s3, s4, s5, ix_nI u1, ix_nI u2, ix_nI u3, ix_nI u4, ix_nI u5, nI_pos' u1, nI_pos' u2, nI_pos' u3, nI_pos' u4, nI_pos' u5, v1, v2, v3, v4, v5]
    refine n_kinds M1.1 gS.1 gS.2 (fun y2 e2 n2 => absurd (e2.symm.trans e) n2) fun _ h2 f2 M2 => ?_
    simp only [s268_1288, s268_1291, oB_some, cl2_i, cl2_r, cl2_l, cl2_u, cl2_s, wd_0, wd_i, wd_r, wd_l, wd_f, ct_i, ct_r, ct_n, ct_f, rf_s, rf_n, tl_s, tl_n, true_and, and_true, eq_self, and_self, Nat.reduceAdd, Nat.reduceLeDiff, Nat.zero_le, Nat.reduceEqDiff, or_true, true_or, false_or, or_false, if_true, if_false, gI_0, gI_1, gI_2, gI_3, gI_4, gI_5, gI_6, gI_7, gI_8, gI_9, gI_10, gI_11, gI_12, gI_13, gI_14, gI_15, gL_0, gL_1, gL_2, gL_3, gL_4, gL_5, gL_6, gL_7, gL_8, gL_9, gL_10, gL_11, gL_12, gL_13, gL_14, gL_15, gA_0, gA_1, gA_2, gA_3, gA_4, gA_5, gA_6, gA_7, gA_8, gA_9, gA_10, gA_11, gA_12, gA_13, gA_14, gA_15, p1_0, p1_1, p1_2, p1_3, p1_4, p1_5, p1_6, p1_7, p1_8, p1_9, p1_10, p1_11, p1_12, p1_13, p1_14, p1_15, p2_0, p2_1, p2_2, p2_3, p2_4, p2_5, p2_6, p2_7, p2_8, p2_9, p2_10, p2_11, p2_12, p2_13, p2_14, p2_15, b01_ok, b_ft, b_tf, b01_e0, b01_e1, lgc_0, not_true_eq_false, not_false_eq_true]
    exact nx _ _ _ _ _ _ _ _ _ (by omega) (by omega) (a.ask f1 f2 M2)
set_option maxHeartbeats 4000000 in
theorem lc_lots {b L x tl len i c s : Nat} {xs : Nat → Int32} {h : HP} {tp r : Nat → Nat} {S : VS} {H : HS} {Q : PQ} (a : LI b L xs h x S H tp tl r len) (hi : i + 6 ≤ L) (hL : L ≤ 3072) (hc : 12 ≤ c) (hs : 172 ≤ s)
    (nx : ∀ h' S' H' tp' tl' r' len' c' s', c ≤ c' + 12 → s ≤ s' + 172 → LI b L xs h' x S' H' tp' tl' r' len' → WP 11 268 Q (1434, [.val (.ref b), .val (.ref x), .val (.ref (x + 34)), .val (.int (nI i))], [], h', c', s')) : WP 11 268 Q (1342, [.val (.ref b), .val (.ref x), .val (.ref (x + 34)), .val (.int (nI i))], [], h, c, s) := by
  have a0 := a
  obtain ⟨C, M, ⟨gS, gH⟩, rf, bk⟩ := a0
  have bk1 : SKb b L xs x h := bk
  have s1 : nI i + 1 = nI (i + 1) := nI_add i 1
  have s2 : nI i + 2 = nI (i + 2) := nI_add i 2
  have s3 : nI i + 3 = nI (i + 3) := nI_add i 3
  have s4 : nI i + 4 = nI (i + 4) := nI_add i 4
  have s5 : nI i + 5 = nI (i + 5) := nI_add i 5
  have u1 : i + 1 < 2 ^ 31 := by omega
  have u2 : i + 2 < 2 ^ 31 := by omega
  have u3 : i + 3 < 2 ^ 31 := by omega
  have u4 : i + 4 < 2 ^ 31 := by omega
  have u5 : i + 5 < 2 ^ 31 := by omega
  have v1 : i + 1 < L := by omega
  have v2 : i + 2 < L := by omega
  have v3 : i + 3 < L := by omega
  have v4 : i + 4 < L := by omega
  have v5 : i + 5 < L := by omega
  have kx : hkd h x = 15 := C.1.1.1.1
  simp only [s268_1342, s268_1343, s268_1344, s268_1345, s268_1346, s268_1347, s268_1348, s268_1349, s268_1350, s268_1351, s268_1352, s268_1353, s268_1354, s268_1355, s268_1356, s268_1357, s268_1358, oB_some, cl2_i, cl2_r, cl2_l, cl2_u, cl2_s, wd_0, wd_i, wd_r, wd_l, wd_f, ct_i, ct_r, ct_n, ct_f, rf_s, rf_n, tl_s, tl_n, true_and, and_true, eq_self, and_self, Nat.reduceAdd, Nat.reduceLeDiff, Nat.zero_le, Nat.reduceEqDiff, or_true, true_or, false_or, or_false, if_true, if_false, gI_0, gI_1, gI_2, gI_3, gI_4, gI_5, gI_6, gI_7, gI_8, gI_9, gI_10, gI_11, gI_12, gI_13, gI_14, gI_15, gL_0, gL_1, gL_2, gL_3, gL_4, gL_5, gL_6, gL_7, gL_8, gL_9, gL_10, gL_11, gL_12, gL_13, gL_14, gL_15, gA_0, gA_1, gA_2, gA_3, gA_4, gA_5, gA_6, gA_7, gA_8, gA_9, gA_10, gA_11, gA_12, gA_13, gA_14, gA_15, p1_0, p1_1, p1_2, p1_3, p1_4, p1_5, p1_6, p1_7, p1_8, p1_9, p1_10, p1_11, p1_12, p1_13, p1_14, p1_15, p2_0, p2_1, p2_2, p2_3, p2_4, p2_5, p2_6, p2_7, p2_8, p2_9, p2_10, p2_11, p2_12, p2_13, p2_14, p2_15, kx, bk1.2.1, bk1.2.2.1, bk1.2.2.2, s1, s2, s3, s4, s5, ix_nI u1, ix_nI u2, ix_nI u3, ix_nI u4, ix_nI u5, nI_pos' u1, nI_pos' u2, nI_pos' u3, nI_pos' u4, nI_pos' u5, v1, v2, v3, v4, v5]
  refine x_lots C.1 gS.1 gS.2 (fun y e y0 => ?_) fun e h1 f1 => ?_
  · obtain ⟨h1, eh⟩ : ∃ z, z = RfC h x y := ⟨_, rfl⟩
    have fa1 : FA x h h1 := by rw [eh]; exact RfC.fa
    rw [← eh]
    have bk1 := bk1.fa fa1
    have M1 := M.fa gH fa1
    have km : hkd h1 (x + 34) = 16 := M1.1.1.1.1.1
    simp only [s268_1361, s268_1362, s268_1363, s268_1364, s268_1365, s268_1366, s268_1367, s268_1368, s268_1369, s268_1370, s268_1371, s268_1372, s268_1373, s268_1374, s268_1375, s268_1376, s268_1377, oB_some, cl2_i, cl2_r, cl2_l, cl2_u, cl2_s, wd_0, wd_i, wd_r, wd_l, wd_f, ct_i, ct_r, ct_n, ct_f, rf_s, rf_n, tl_s, tl_n, true_and, and_true, eq_self, and_self, Nat.reduceAdd, Nat.reduceLeDiff, Nat.zero_le, Nat.reduceEqDiff, or_true, true_or, false_or, or_false, if_true, if_false, gI_0, gI_1, gI_2, gI_3, gI_4, gI_5, gI_6, gI_7, gI_8, gI_9, gI_10, gI_11, gI_12, gI_13, gI_14, gI_15, gL_0, gL_1, gL_2, gL_3, gL_4, gL_5, gL_6, gL_7, gL_8, gL_9, gL_10, gL_11, gL_12, gL_13, gL_14, gL_15, gA_0, gA_1, gA_2, gA_3, gA_4, gA_5, gA_6, gA_7, gA_8, gA_9, gA_10, gA_11, gA_12, gA_13, gA_14, gA_15, p1_0, p1_1, p1_2, p1_3, p1_4, p1_5, p1_6, p1_7, p1_8, p1_9, p1_10, p1_11, p1_12, p1_13, p1_14, p1_15, p2_0, p2_1, p2_2, p2_3, p2_4, p2_5, p2_6, p2_7, p2_8, p2_9, p2_10, p2_11, p2_12, p2_13, p2_14, p2_15, km, bk1.2.1, bk1.2.2.1, bk1.2.2.2, s1, s2, s3, s4, s5, ix_nI u1, ix_nI u2, ix_nI u3, ix_nI u4, ix_nI u5, nI_pos' u1, nI_pos' u2, nI_pos' u3, nI_pos' u4, nI_pos' u5, v1, v2, v3, v4, v5]
    refine n_lots M1.1 gS.1 gS.2 (fun y2 e2 n2 => ?_) fun e2 => absurd (e.symm.trans e2) y0
    obtain rfl := e.symm.trans e2
    simp only [s268_1380, s268_1383, oB_some, cl2_i, cl2_r, cl2_l, cl2_u, cl2_s, wd_0, wd_i, wd_r, wd_l, wd_f, ct_i, ct_r, ct_n, ct_f, rf_s, rf_n, tl_s, tl_n, true_and, and_true, eq_self, and_self, Nat.reduceAdd, Nat.reduceLeDiff, Nat.zero_le, Nat.reduceEqDiff, or_true, true_or, false_or, or_false, if_true, if_false, gI_0, gI_1, gI_2, gI_3, gI_4, gI_5, gI_6, gI_7, gI_8, gI_9, gI_10, gI_11, gI_12, gI_13, gI_14, gI_15, gL_0, gL_1, gL_2, gL_3, gL_4, gL_5, gL_6, gL_7, gL_8, gL_9, gL_10, gL_11, gL_12, gL_13, gL_14, gL_15, gA_0, gA_1, gA_2, gA_3, gA_4, gA_5, gA_6, gA_7, gA_8, gA_9, gA_10, gA_11, gA_12, gA_13, gA_14, gA_15, p1_0, p1_1, p1_2, p1_3, p1_4, p1_5, p1_6, p1_7, p1_8, p1_9, p1_10, p1_11, p1_12, p1_13, p1_14, p1_15, p2_0, p2_1, p2_2, p2_3, p2_4, p2_5, p2_6, p2_7, p2_8, p2_9, p2_10, p2_11, p2_12, p2_13, p2_14, p2_15, b01_ok, b_ft, b_tf, b01_e0, b01_e1, lgc_0, not_true_eq_false, not_false_eq_true]
    rw [eh]
    exact nx _ _ _ _ _ _ _ _ _ (by omega) (by omega) (a.refuse y)
  · skip
    have fa1 : FA x h h1 := f1.fa (by omega) (by omega)
    have bk1 := bk1.fa fa1
    have M1 := M.fa gH fa1
    have km : hkd h1 (x + 34) = 16 := M1.1.1.1.1.1
    simp only [s268_1361, s268_1362, s268_1363, s268_1364, s268_1365, s268_1366, s268_1367, s268_1368, s268_1369, s268_1370, s268_1371, s268_1372, s268_1373, s268_1374, s268_1375, s268_1376, s268_1377, oB_some, cl2_i, cl2_r, cl2_l, cl2_u, cl2_s, wd_0, wd_i, wd_r, wd_l, wd_f, ct_i, ct_r, ct_n, ct_f, rf_s, rf_n, tl_s, tl_n, true_and, and_true, eq_self, and_self, Nat.reduceAdd, Nat.reduceLeDiff, Nat.zero_le, Nat.reduceEqDiff, or_true, true_or, false_or, or_false, if_true, if_false, gI_0, gI_1, gI_2, gI_3, gI_4, gI_5, gI_6, gI_7, gI_8, gI_9, gI_10, gI_11, gI_12, gI_13, gI_14, gI_15, gL_0, gL_1, gL_2, gL_3, gL_4, gL_5, gL_6, gL_7, gL_8, gL_9, gL_10, gL_11, gL_12, gL_13, gL_14, gL_15, gA_0, gA_1, gA_2, gA_3, gA_4, gA_5, gA_6, gA_7, gA_8, gA_9, gA_10, gA_11, gA_12, gA_13, gA_14, gA_15, p1_0, p1_1, p1_2, p1_3, p1_4, p1_5, p1_6, p1_7, p1_8, p1_9, p1_10, p1_11, p1_12, p1_13, p1_14, p1_15, p2_0, p2_1, p2_2, p2_3, p2_4, p2_5, p2_6, p2_7, p2_8, p2_9, p2_10, p2_11, p2_12, p2_13, p2_14, p2_15, km, bk1.2.1, bk1.2.2.1, bk1.2.2.2, s1, s2, s3, s4, s5, ix_nI u1, ix_nI u2, ix_nI u3, ix_nI u4, ix_nI u5, nI_pos' u1, nI_pos' u2, nI_pos' u3, nI_pos' u4, nI_pos' u5, v1, v2, v3, v4, v5]
    refine n_lots M1.1 gS.1 gS.2 (fun y2 e2 n2 => absurd (e2.symm.trans e) n2) fun _ h2 f2 M2 => ?_
    simp only [s268_1380, s268_1383, oB_some, cl2_i, cl2_r, cl2_l, cl2_u, cl2_s, wd_0, wd_i, wd_r, wd_l, wd_f, ct_i, ct_r, ct_n, ct_f, rf_s, rf_n, tl_s, tl_n, true_and, and_true, eq_self, and_self, Nat.reduceAdd, Nat.reduceLeDiff, Nat.zero_le, Nat.reduceEqDiff, or_true, true_or, false_or, or_false, if_true, if_false, gI_0, gI_1, gI_2, gI_3, gI_4, gI_5, gI_6, gI_7, gI_8, gI_9, gI_10, gI_11, gI_12, gI_13, gI_14, gI_15, gL_0, gL_1, gL_2, gL_3, gL_4, gL_5, gL_6, gL_7, gL_8, gL_9, gL_10, gL_11, gL_12, gL_13, gL_14, gL_15, gA_0, gA_1, gA_2, gA_3, gA_4, gA_5, gA_6, gA_7, gA_8, gA_9, gA_10, gA_11, gA_12, gA_13, gA_14, gA_15, p1_0, p1_1, p1_2, p1_3, p1_4, p1_5, p1_6, p1_7, p1_8, p1_9, p1_10, p1_11, p1_12, p1_13, p1_14, p1_15, p2_0, p2_1, p2_2, p2_3, p2_4, p2_5, p2_6, p2_7, p2_8, p2_9, p2_10, p2_11, p2_12, p2_13, p2_14, p2_15, b01_ok, b_ft, b_tf, b01_e0, b01_e1, lgc_0, not_true_eq_false, not_false_eq_true]
    exact nx _ _ _ _ _ _ _ _ _ (by omega) (by omega) (a.ask f1 f2 M2)
