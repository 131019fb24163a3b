-- written by gen99h.py: the law's turns, questions
def SKb (b L : Nat) (xs : Nat → Int32) (x : Nat) (h : HP) : Prop := b < x ∧ hkd h b = 1 ∧ hln h b = L ∧ ∀ j, hI h b j = xs j
theorem SKb.fa {b L x : Nat} {xs : Nat → Int32} {h h' : HP} (a : SKb b L xs x h) (f : FA x h h') : SKb b L xs x h' := by
  obtain ⟨a1, a2, a3, a4⟩ := a
  refine ⟨a1, ?_, ?_, fun j => ?_⟩
  · rw [(f.1 b (by omega)).1]; exact a2
  · rw [(f.1 b (by omega)).2.1]; exact a3
  · rw [(f.1 b (by omega)).2.2.1]; exact a4 j
set_option maxHeartbeats 4000000 in
theorem lc_person {b L x tl len i c s : Nat} {xs : Nat → Int32} {h : HP} {tp r : Nat → Nat} {S : VS} {H : HS} {Q : PQ} (a : LI b L xs h x S H tp tl r len) (hi : i + 6 ≤ L) (hL : L ≤ 3072) (hc : 12 ≤ c) (hs : 172 ≤ s)
    (nx : ∀ h' S' H' tp' tl' r' len' c' s', c ≤ c' + 12 → s ≤ s' + 172 → LI b L xs h' x S' H' tp' tl' r' len' → WP 11 268 Q (1434, [.val (.ref b), .val (.ref x), .val (.ref (x + 34)), .val (.int (nI i))], [], h', c', s')) : WP 11 268 Q (252, [.val (.ref b), .val (.ref x), .val (.ref (x + 34)), .val (.int (nI i))], [], h, c, s) := by
  have a0 := a
  obtain ⟨C, M, ⟨gS, gH⟩, rf, bk⟩ := a0
  have bk1 : SKb b L xs x h := bk
  have s1 : nI i + 1 = nI (i + 1) := nI_add i 1
  have s2 : nI i + 2 = nI (i + 2) := nI_add i 2
  have s3 : nI i + 3 = nI (i + 3) := nI_add i 3
  have s4 : nI i + 4 = nI (i + 4) := nI_add i 4
  have s5 : nI i + 5 = nI (i + 5) := nI_add i 5
  have u1 : i + 1 < 2 ^ 31 := by omega
  have u2 : i + 2 < 2 ^ 31 := by omega
  have u3 : i + 3 < 2 ^ 31 := by omega
  have u4 : i + 4 < 2 ^ 31 := by omega
  have u5 : i + 5 < 2 ^ 31 := by omega
  have v1 : i + 1 < L := by omega
  have v2 : i + 2 < L := by omega
  have v3 : i + 3 < L := by omega
  have v4 : i + 4 < L := by omega
  have v5 : i + 5 < L := by omega
  have kx : hkd h x = 15 := C.1.1.1.1
  simp only [s268_252, s268_253, s268_254, s268_255, s268_256, s268_257, s268_258, s268_259, s268_260, s268_261, s268_262, s268_263, oB_some, cl2_i, cl2_r, cl2_l, cl2_u, cl2_s, wd_0, wd_i, wd_r, wd_l, wd_f, ct_i, ct_r, ct_n, ct_f, rf_s, rf_n, tl_s, tl_n, true_and, and_true, eq_self, and_self, Nat.reduceAdd, Nat.reduceLeDiff, Nat.zero_le, Nat.reduceEqDiff, or_true, true_or, false_or, or_false, if_true, if_false, gI_0, gI_1, gI_2, gI_3, gI_4, gI_5, gI_6, gI_7, gI_8, gI_9, gI_10, gI_11, gI_12, gI_13, gI_14, gI_15, gL_0, gL_1, gL_2, gL_3, gL_4, gL_5, gL_6, gL_7, gL_8, gL_9, gL_10, gL_11, gL_12, gL_13, gL_14, gL_15, gA_0, gA_1, gA_2, gA_3, gA_4, gA_5, gA_6, gA_7, gA_8, gA_9, gA_10, gA_11, gA_12, gA_13, gA_14, gA_15, p1_0, p1_1, p1_2, p1_3, p1_4, p1_5, p1_6, p1_7, p1_8, p1_9, p1_10, p1_11, p1_12, p1_13, p1_14, p1_15, p2_0, p2_1, p2_2, p2_3, p2_4, p2_5, p2_6, p2_7, p2_8, p2_9, p2_10, p2_11, p2_12, p2_13, p2_14, p2_15, kx, bk1.2.1, bk1.2.2.1, bk1.2.2.2, s1, s2, s3, s4, s5, ix_nI u1, ix_nI u2, ix_nI u3, ix_nI u4, ix_nI u5, nI_pos' u1, nI_pos' u2, nI_pos' u3, nI_pos' u4, nI_pos' u5, v1, v2, v3, v4, v5]
  refine x_person C.1 gS.1 gS.2 (fun y e y0 => ?_) fun e h1 f1 => ?_
  · obtain ⟨h1, eh⟩ : ∃ z, z = RfC h x y := ⟨_, rfl⟩
    have fa1 : FA x h h1 := by rw [eh]; exact RfC.fa
    rw [← eh]
    have bk1 := bk1.fa fa1
    have M1 := M.fa gH fa1
    have km : hkd h1 (x + 34) = 16 := M1.1.1.1.1.1
    simp only [s268_266, s268_267, s268_268, s268_269, s268_270, s268_271, s268_272, s268_273, s268_274, s268_275, s268_276, s268_277, oB_some, cl2_i, cl2_r, cl2_l, cl2_u, cl2_s, wd_0, wd_i, wd_r, wd_l, wd_f, ct_i, ct_r, ct_n, ct_f, rf_s, rf_n, tl_s, tl_n, true_and, and_true, eq_self, and_self, Nat.reduceAdd, Nat.reduceLeDiff, Nat.zero_le, Nat.reduceEqDiff, or_true, true_or, false_or, or_false, if_true, if_false, gI_0, gI_1, gI_2, gI_3, gI_4, gI_5, gI_6, gI_7, gI_8, gI_9, gI_10, gI_11, gI_12, gI_13, gI_14, gI_15, gL_0, gL_1, gL_2, gL_3, gL_4, gL_5, gL_6, gL_7, gL_8, gL_9, gL_10, gL_11, gL_12, gL_13, gL_14, gL_15, gA_0, gA_1, gA_2, gA_3, gA_4, gA_5, gA_6, gA_7, gA_8, gA_9, gA_10, gA_11, gA_12, gA_13, gA_14, gA_15, p1_0, p1_1, p1_2, p1_3, p1_4, p1_5, p1_6, p1_7, p1_8, p1_9, p1_10, p1_11, p1_12, p1_13, p1_14, p1_15, p2_0, p2_1, p2_2, p2_3, p2_4, p2_5, p2_6, p2_7, p2_8, p2_9, p2_10, p2_11, p2_12, p2_13, p2_14, p2_15, km, bk1.2.1, bk1.2.2.1, bk1.2.2.2, s1, s2, s3, s4, s5, ix_nI u1, ix_nI u2, ix_nI u3, ix_nI u4, ix_nI u5, nI_pos' u1, nI_pos' u2, nI_pos' u3, nI_pos' u4, nI_pos' u5, v1, v2, v3, v4, v5]
    refine n_person M1.1 gS.1 gS.2 (fun y2 e2 n2 => ?_) fun e2 => absurd (e.symm.trans e2) y0
    obtain rfl := e.symm.trans e2
    simp only [s268_280, s268_283, oB_some, cl2_i, cl2_r, cl2_l, cl2_u, cl2_s, wd_0, wd_i, wd_r, wd_l, wd_f, ct_i, ct_r, ct_n, ct_f, rf_s, rf_n, tl_s, tl_n, true_and, and_true, eq_self, and_self, Nat.reduceAdd, Nat.reduceLeDiff, Nat.zero_le, Nat.reduceEqDiff, or_true, true_or, false_or, or_false, if_true, if_false, gI_0, gI_1, gI_2, gI_3, gI_4, gI_5, gI_6, gI_7, gI_8, gI_9, gI_10, gI_11, gI_12, gI_13, gI_14, gI_15, gL_0, gL_1, gL_2, gL_3, gL_4, gL_5, gL_6, gL_7, gL_8, gL_9, gL_10, gL_11, gL_12, gL_13, gL_14, gL_15, gA_0, gA_1, gA_2, gA_3, gA_4, gA_5, gA_6, gA_7, gA_8, gA_9, gA_10, gA_11, gA_12, gA_13, gA_14, gA_15, p1_0, p1_1, p1_2, p1_3, p1_4, p1_5, p1_6, p1_7, p1_8, p1_9, p1_10, p1_11, p1_12, p1_13, p1_14, p1_15, p2_0, p2_1, p2_2, p2_3, p2_4, p2_5, p2_6, p2_7, p2_8, p2_9, p2_10, p2_11, p2_12, p2_13, p2_14, p2_15, b01_ok, b_ft, b_tf, b01_e0, b01_e1, lgc_0, not_true_eq_false, not_false_eq_true]
    rw [eh]
    exact nx _ _ _ _ _ _ _ _ _ (by omega) (by omega) (a.refuse y)
  · skip
    have fa1 : FA x h h1 := f1.fa (by omega) (by omega)
    have bk1 := bk1.fa fa1
    have M1 := M.fa gH fa1
    have km : hkd h1 (x + 34) = 16 := M1.1.1.1.1.1
    simp only [s268_266, s268_267, s268_268, s268_269, s268_270, s268_271, s268_272, s268_273, s268_274, s268_275, s268_276, s268_277, oB_some, cl2_i, cl2_r, cl2_l, cl2_u, cl2_s, wd_0, wd_i, wd_r, wd_l, wd_f, ct_i, ct_r, ct_n, ct_f, rf_s, rf_n, tl_s, tl_n, true_and, and_true, eq_self, and_self, Nat.reduceAdd, Nat.reduceLeDiff, Nat.zero_le, Nat.reduceEqDiff, or_true, true_or, false_or, or_false, if_true, if_false, gI_0, gI_1, gI_2, gI_3, gI_4, gI_5, gI_6, gI_7, gI_8, gI_9, gI_10, gI_11, gI_12, gI_13, gI_14, gI_15, gL_0, gL_1, gL_2, gL_3, gL_4, gL_5, gL_6, gL_7, gL_8, gL_9, gL_10, gL_11, gL_12, gL_13, gL_14, gL_15, gA_0, gA_1, gA_2, gA_3, gA_4, gA_5, gA_6, gA_7, gA_8, gA_9, gA_10, gA_11, gA_12, gA_13, gA_14, gA_15, p1_0, p1_1, p1_2, p1_3, p1_4, p1_5, p1_6, p1_7, p1_8, p1_9, p1_10, p1_11, p1_12, p1_13, p1_14, p1_15, p2_0, p2_1, p2_2, p2_3, p2_4, p2_5, p2_6, p2_7, p2_8, p2_9, p2_10, p2_11, p2_12, p2_13, p2_14, p2_15, km, bk1.2.1, bk1.2.2.1, bk1.2.2.2, s1, s2, s3, s4, s5, ix_nI u1, ix_nI u2, ix_nI u3, ix_nI u4, ix_nI u5, nI_pos' u1, nI_pos' u2, nI_pos' u3, nI_pos' u4, nI_pos' u5, v1, v2, v3, v4, v5]
    refine n_person M1.1 gS.1 gS.2 (fun y2 e2 n2 => absurd (e2.symm.trans e) n2) fun _ h2 f2 M2 => ?_
    simp only [s268_280, s268_283, oB_some, cl2_i, cl2_r, cl2_l, cl2_u, cl2_s, wd_0, wd_i, wd_r, wd_l, wd_f, ct_i, ct_r, ct_n, ct_f, rf_s, rf_n, tl_s, tl_n, true_and, and_true, eq_self, and_self, Nat.reduceAdd, Nat.reduceLeDiff, Nat.zero_le, Nat.reduceEqDiff, or_true, true_or, false_or, or_false, if_true, if_false, gI_0, gI_1, gI_2, gI_3, gI_4, gI_5, gI_6, gI_7, gI_8, gI_9, gI_10, gI_11, gI_12, gI_13, gI_14, gI_15, gL_0, gL_1, gL_2, gL_3, gL_4, gL_5, gL_6, gL_7, gL_8, gL_9, gL_10, gL_11, gL_12, gL_13, gL_14, gL_15, gA_0, gA_1, gA_2, gA_3, gA_4, gA_5, gA_6, gA_7, gA_8, gA_9, gA_10, gA_11, gA_12, gA_13, gA_14, gA_15, p1_0, p1_1, p1_2, p1_3, p1_4, p1_5, p1_6, p1_7, p1_8, p1_9, p1_10, p1_11, p1_12, p1_13, p1_14, p1_15, p2_0, p2_1, p2_2, p2_3, p2_4, p2_5, p2_6, p2_7, p2_8, p2_9, p2_10, p2_11, p2_12, p2_13, p2_14, p2_15, b01_ok, b_ft, b_tf, b01_e0, b01_e1, lgc_0, not_true_eq_false, not_false_eq_true]
    exact nx _ _ _ _ _ _ _ _ _ (by omega) (by omega) (a.ask f1 f2 M2)
