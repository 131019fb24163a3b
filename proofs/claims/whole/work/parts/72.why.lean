-- refusals and what calls ask first, both sides
def why (a b c e : Bool) : Int32 := if a = true then -1 else if b = true then -4 else if c = true then -6 else if e = true then -2 else 0
def rI (w : Int32) : Nat := if w = -1 then 1 else if w = -2 then 2 else if w = -3 then 3 else if w = -4 then 4 else 6
def RfC (h : HP) (x : Nat) (w : Int32) : HP := sI h (x + 6) (rI w - 1) (hI h (x + 6) (rI w - 1) + 1)
def RfM (h : HP) (m : Nat) (w : Int32) : HP := sI h (m + 1) (rI w) (hI h (m + 1) (rI w) + 1)
def XK (h : HP) (x : Nat) : Prop :=
  (hkd h x = 15 ∧ hkd h (x + 1) = 12 ∧ hkd h (x + 2) = 4 ∧ hkd h (x + 3) = 13 ∧ hkd h (x + 4) = 2 ∧ hkd h (x + 5) = 2 ∧ hkd h (x + 6) = 2) ∧ (hln h (x + 2) = 8 ∧ hln h (x + 4) = 96 ∧ hln h (x + 5) = 12 ∧ hln h (x + 6) = 6) ∧
  (hR h x 0 = some (x + 7) ∧ hR h x 1 = some (x + 19) ∧ hR h x 2 = some (x + 1) ∧ hR h x 3 = some (x + 3) ∧ hR h x 4 = some (x + 5) ∧ hR h x 5 = some (x + 6) ∧ hR h (x + 1) 0 = some (x + 2) ∧ hR h (x + 3) 0 = some (x + 4))
theorem XK.kept {h h' : HP} {x : Nat} (a : XK h x) (k1 : hkd h' = hkd h) (k2 : hln h' = hln h) (k3 : hR h' = hR h) : XK h' x := by
  unfold XK
  rw [k1, k2, k3]
  exact a
/-- the one side, for questions -/
def XQ (h : HP) (x : Nat) (S : VS) : Prop := XK h x ∧ FY h (x + 19) (x + 7) (x + 20) S ∧ FYe h (x + 19) (x + 20) ∧ FV h (x + 7) 0 false false
theorem XQ.v {h : HP} {x : Nat} {S : VS} (a : XQ h x S) : RV h (x + 7) S := a.2.1.2.2.1
theorem XQ.kept {h h' : HP} {x : Nat} {S : VS} (a : XQ h x S) (m : Fm (x + 20) 14 h h') : XQ h' x S :=
  ⟨a.1.kept m.2.1 m.2.2.1 m.2.2.2.1, a.2.1.kept14 m (Or.inl (by omega)), a.2.2.1.kept m, a.2.2.2.kept m (Or.inl (by omega))⟩
theorem XQ.rf {h : HP} {x : Nat} {S : VS} (a : XQ h x S) (w : Int32) : XQ (RfC h x w) x S := by
  obtain ⟨a1, ⟨b1, b2, b3, b4⟩, a3, a4⟩ := a
  have m : Fm (x + 6) 1 h (RfC h x w) := Fm.rf.sI (Nat.le_refl _) (by omega)
  exact ⟨a1.kept m.2.1 m.2.2.1 m.2.2.2.1, ⟨b1, b2.kept m.2.1 m.2.2.1 m.2.2.2.1, b3.kept m (Or.inr (by omega)), b4⟩, a3.kept m, a4.kept m (Or.inr (by omega))⟩
theorem z10 : ¬ (1 : Int32) = 0 := by decide
theorem zm1 : ¬ (-1 : Int32) = 0 := by decide
theorem zm2 : ¬ (-2 : Int32) = 0 := by decide
theorem zm3 : ¬ (-3 : Int32) = 0 := by decide
theorem zm4 : ¬ (-4 : Int32) = 0 := by decide
theorem zm6 : ¬ (-6 : Int32) = 0 := by decide
theorem v_whyNot {d : Nat} {Q : PQ} {h : HP} {a b c e : Int32} : Ev (d + 1) 11 [.int a, .int b, .int c, .int e] h Q = Q (some (.int (if ¬ a = 0 then -1 else if ¬ b = 0 then -4 else if ¬ c = 0 then -6 else if ¬ e = 0 then -2 else 0))) h := by
  simp only [e11, s11_0, s11_1, s11_4, s11_5, s11_6, s11_7, s11_10, s11_12, s11_13, s11_14, s11_17, s11_19, s11_20, s11_21, s11_24, s11_26, s11_29, s11_30, oB_some, cl2_i, cl2_r, cl2_l, cl2_u, cl2_s, wd_0, wd_i, wd_r, wd_l, wd_f, ct_i, ct_r, ct_n, ct_f, rf_s, rf_n, tl_s, tl_n, true_and, and_true, eq_self, and_self, Nat.reduceAdd, Nat.reduceLeDiff, Nat.zero_le, Nat.reduceEqDiff, or_true, true_or, false_or, or_false, if_true, if_false, gI_0, gI_1, gI_2, gI_3, gI_4, gI_5, gI_6, gI_7, gI_8, gI_9, gI_10, gI_11, gI_12, gI_13, gI_14, gI_15, gL_0, gL_1, gL_2, gL_3, gL_4, gL_5, gL_6, gL_7, gL_8, gL_9, gL_10, gL_11, gL_12, gL_13, gL_14, gL_15, gA_0, gA_1, gA_2, gA_3, gA_4, gA_5, gA_6, gA_7, gA_8, gA_9, gA_10, gA_11, gA_12, gA_13, gA_14, gA_15, p1_0, p1_1, p1_2, p1_3, p1_4, p1_5, p1_6, p1_7, p1_8, p1_9, p1_10, p1_11, p1_12, p1_13, p1_14, p1_15, p2_0, p2_1, p2_2, p2_3, p2_4, p2_5, p2_6, p2_7, p2_8, p2_9, p2_10, p2_11, p2_12, p2_13, p2_14, p2_15]
  by_cases ha : a = 0 <;> by_cases hb : b = 0 <;> by_cases hc : c = 0 <;> by_cases he : e = 0 <;> simp [ha, hb, hc, he]
theorem rfC_1 : (-1 : Int32) - (-1) = nI (rI (-1) - 1) ∧ rI (-1) - 1 < 6 := by decide +kernel
theorem rfM_1 : -(-1 : Int32) = nI (rI (-1)) ∧ rI (-1) < 7 := by decide +kernel
theorem rfC_2 : (-1 : Int32) - (-2) = nI (rI (-2) - 1) ∧ rI (-2) - 1 < 6 := by decide +kernel
theorem rfM_2 : -(-2 : Int32) = nI (rI (-2)) ∧ rI (-2) < 7 := by decide +kernel
theorem rfC_3 : (-1 : Int32) - (-3) = nI (rI (-3) - 1) ∧ rI (-3) - 1 < 6 := by decide +kernel
theorem rfM_3 : -(-3 : Int32) = nI (rI (-3)) ∧ rI (-3) < 7 := by decide +kernel
theorem rfC_4 : (-1 : Int32) - (-4) = nI (rI (-4) - 1) ∧ rI (-4) - 1 < 6 := by decide +kernel
theorem rfM_4 : -(-4 : Int32) = nI (rI (-4)) ∧ rI (-4) < 7 := by decide +kernel
theorem rfC_6 : (-1 : Int32) - (-6) = nI (rI (-6) - 1) ∧ rI (-6) - 1 < 6 := by decide +kernel
theorem rfM_6 : -(-6 : Int32) = nI (rI (-6)) ∧ rI (-6) < 7 := by decide +kernel
theorem v_refuseA {d i : Nat} {Q : PQ} {h : HP} {x : Nat} {w : Int32} (hw : -1 - w = nI i) : Ev (d + 1) 12 [.ref x, .int w] h Q = WP d 12 Q (4, [.val (.ref x), .val (.int w), .val (.int (nI i))], [], h, 0, 0) := by
  rw [← hw]
  simp only [e12, s12_0, s12_1, s12_2, s12_3, oB_some, cl2_i, cl2_r, cl2_l, cl2_u, cl2_s, wd_0, wd_i, wd_r, wd_l, wd_f, ct_i, ct_r, ct_n, ct_f, rf_s, rf_n, tl_s, tl_n, true_and, and_true, eq_self, and_self, Nat.reduceAdd, Nat.reduceLeDiff, Nat.zero_le, Nat.reduceEqDiff, or_true, true_or, false_or, or_false, if_true, if_false, gI_0, gI_1, gI_2, gI_3, gI_4, gI_5, gI_6, gI_7, gI_8, gI_9, gI_10, gI_11, gI_12, gI_13, gI_14, gI_15, gL_0, gL_1, gL_2, gL_3, gL_4, gL_5, gL_6, gL_7, gL_8, gL_9, gL_10, gL_11, gL_12, gL_13, gL_14, gL_15, gA_0, gA_1, gA_2, gA_3, gA_4, gA_5, gA_6, gA_7, gA_8, gA_9, gA_10, gA_11, gA_12, gA_13, gA_14, gA_15, p1_0, p1_1, p1_2, p1_3, p1_4, p1_5, p1_6, p1_7, p1_8, p1_9, p1_10, p1_11, p1_12, p1_13, p1_14, p1_15, p2_0, p2_1, p2_2, p2_3, p2_4, p2_5, p2_6, p2_7, p2_8, p2_9, p2_10, p2_11, p2_12, p2_13, p2_14, p2_15, b01_ok, b_ft, b_tf, b01_e0, b01_e1, lgc_0, not_true_eq_false, not_false_eq_true]
theorem v_refuseB {d i : Nat} {Q : PQ} {h : HP} {x : Nat} {w : Int32} (X : XK h x) (hi : i < 6) : WP d 12 Q (4, [.val (.ref x), .val (.int w), .val (.int (nI i))], [], h, 0, 0) = WP d 12 Q (17, [.val (.ref x), .val (.int w), .val (.int (nI i))], [], h, 0, 0) := by
  unfold XK at X
  have n31 : i < 2 ^ 31 := by omega
  have z : ¬ Int32.ofNat 6 ≤ nI i := nI_ge (b := 6) hi (by decide)
  have z2 : ¬ nI i < 0 := nI_pos n31
  simp only [s12_4, s12_5, s12_8, s12_9, s12_10, s12_13, s12_14, oB_some, cl2_i, cl2_r, cl2_l, cl2_u, cl2_s, wd_0, wd_i, wd_r, wd_l, wd_f, ct_i, ct_r, ct_n, ct_f, rf_s, rf_n, tl_s, tl_n, true_and, and_true, eq_self, and_self, Nat.reduceAdd, Nat.reduceLeDiff, Nat.zero_le, Nat.reduceEqDiff, or_true, true_or, false_or, or_false, if_true, if_false, gI_0, gI_1, gI_2, gI_3, gI_4, gI_5, gI_6, gI_7, gI_8, gI_9, gI_10, gI_11, gI_12, gI_13, gI_14, gI_15, gL_0, gL_1, gL_2, gL_3, gL_4, gL_5, gL_6, gL_7, gL_8, gL_9, gL_10, gL_11, gL_12, gL_13, gL_14, gL_15, gA_0, gA_1, gA_2, gA_3, gA_4, gA_5, gA_6, gA_7, gA_8, gA_9, gA_10, gA_11, gA_12, gA_13, gA_14, gA_15, p1_0, p1_1, p1_2, p1_3, p1_4, p1_5, p1_6, p1_7, p1_8, p1_9, p1_10, p1_11, p1_12, p1_13, p1_14, p1_15, p2_0, p2_1, p2_2, p2_3, p2_4, p2_5, p2_6, p2_7, p2_8, p2_9, p2_10, p2_11, p2_12, p2_13, p2_14, p2_15, b01_ok, b_ft, b_tf, b01_e0, b01_e1, lgc_0, not_true_eq_false, not_false_eq_true, X, z, z2]
theorem v_refuseC {d i : Nat} {Q : PQ} {h : HP} {x : Nat} {w : Int32} (X : XK h x) (hi : i < 6) : WP d 12 Q (17, [.val (.ref x), .val (.int w), .val (.int (nI i))], [], h, 0, 0) = Q (some (.int w)) (sI h (x + 6) i (hI h (x + 6) i + 1)) := by
  unfold XK at X
  have n31 : i < 2 ^ 31 := by omega
  simp only [s12_17, s12_18, s12_21, s12_22, s12_23, s12_24, s12_25, s12_26, s12_27, s12_28, oB_some, cl2_i, cl2_r, cl2_l, cl2_u, cl2_s, wd_0, wd_i, wd_r, wd_l, wd_f, ct_i, ct_r, ct_n, ct_f, rf_s, rf_n, tl_s, tl_n, true_and, and_true, eq_self, and_self, Nat.reduceAdd, Nat.reduceLeDiff, Nat.zero_le, Nat.reduceEqDiff, or_true, true_or, false_or, or_false, if_true, if_false, gI_0, gI_1, gI_2, gI_3, gI_4, gI_5, gI_6, gI_7, gI_8, gI_9, gI_10, gI_11, gI_12, gI_13, gI_14, gI_15, gL_0, gL_1, gL_2, gL_3, gL_4, gL_5, gL_6, gL_7, gL_8, gL_9, gL_10, gL_11, gL_12, gL_13, gL_14, gL_15, gA_0, gA_1, gA_2, gA_3, gA_4, gA_5, gA_6, gA_7, gA_8, gA_9, gA_10, gA_11, gA_12, gA_13, gA_14, gA_15, p1_0, p1_1, p1_2, p1_3, p1_4, p1_5, p1_6, p1_7, p1_8, p1_9, p1_10, p1_11, p1_12, p1_13, p1_14, p1_15, p2_0, p2_1, p2_2, p2_3, p2_4, p2_5, p2_6, p2_7, p2_8, p2_9, p2_10, p2_11, p2_12, p2_13, p2_14, p2_15, b01_ok, b_ft, b_tf, b01_e0, b01_e1, lgc_0, not_true_eq_false, not_false_eq_true, z_hkd_sI, z_hln_sI, z_hL_sI, z_hR_sI, z_hnx_sI, z_hkd_sL, z_hln_sL, z_hI_sL, z_hR_sL, z_hnx_sL, z_hkd_sR, z_hln_sR, z_hI_sR, z_hL_sR, z_hnx_sR, z_hkd_cI, z_hln_cI, z_hL_cI, z_hR_cI, z_hnx_cI, z_hkd_cLg, z_hln_cLg, z_hI_cLg, z_hR_cLg, z_hnx_cLg, X, ix_nI n31, nI_pos' n31, hi]
theorem v_refuseG {d i : Nat} {Q : PQ} {h : HP} {x : Nat} {w : Int32} (X : XK h x) (hi : i < 6) (hw : -1 - w = nI i) : Ev (d + 1) 12 [.ref x, .int w] h Q = Q (some (.int w)) (sI h (x + 6) i (hI h (x + 6) i + 1)) := by
  rw [v_refuseA hw, v_refuseB X hi, v_refuseC X hi]
theorem v_refuse {d : Nat} {Q : PQ} {h : HP} {x : Nat} {w : Int32} (X : XK h x) (hw : w = -1 ∨ w = -2 ∨ w = -3 ∨ w = -4 ∨ w = -6) : Ev (d + 1) 12 [.ref x, .int w] h Q = Q (some (.int w)) (RfC h x w) := by
  have e : -1 - w = nI (rI w - 1) ∧ rI w - 1 < 6 := by
    rcases hw with rfl | rfl | rfl | rfl | rfl
    · exact rfC_1
    · exact rfC_2
    · exact rfC_3
    · exact rfC_4
    · exact rfC_6
  unfold RfC
  exact v_refuseG X e.2 e.1
theorem m_noG {d i : Nat} {Q : PQ} {h : HP} {m : Nat} {w : Int32} (K0 : MK h m) (hi : i < 7) (hw : -w = nI i) : Ev (d + 1) 16 [.ref m, .int w] h Q = Q (some (.int w)) (sI h (m + 1) i (hI h (m + 1) i + 1)) := by
  have K := K0
  unfold MK at K
  have n31 : i < 2 ^ 31 := by omega
  simp only [e16, s16_0, s16_1, s16_4, s16_5, s16_6, s16_7, s16_8, s16_9, s16_10, s16_11, s16_12, oB_some, cl2_i, cl2_r, cl2_l, cl2_u, cl2_s, wd_0, wd_i, wd_r, wd_l, wd_f, ct_i, ct_r, ct_n, ct_f, rf_s, rf_n, tl_s, tl_n, true_and, and_true, eq_self, and_self, Nat.reduceAdd, Nat.reduceLeDiff, Nat.zero_le, Nat.reduceEqDiff, or_true, true_or, false_or, or_false, if_true, if_false, gI_0, gI_1, gI_2, gI_3, gI_4, gI_5, gI_6, gI_7, gI_8, gI_9, gI_10, gI_11, gI_12, gI_13, gI_14, gI_15, gL_0, gL_1, gL_2, gL_3, gL_4, gL_5, gL_6, gL_7, gL_8, gL_9, gL_10, gL_11, gL_12, gL_13, gL_14, gL_15, gA_0, gA_1, gA_2, gA_3, gA_4, gA_5, gA_6, gA_7, gA_8, gA_9, gA_10, gA_11, gA_12, gA_13, gA_14, gA_15, p1_0, p1_1, p1_2, p1_3, p1_4, p1_5, p1_6, p1_7, p1_8, p1_9, p1_10, p1_11, p1_12, p1_13, p1_14, p1_15, p2_0, p2_1, p2_2, p2_3, p2_4, p2_5, p2_6, p2_7, p2_8, p2_9, p2_10, p2_11, p2_12, p2_13, p2_14, p2_15, b01_ok, b_ft, b_tf, b01_e0, b01_e1, lgc_0, not_true_eq_false, not_false_eq_true, z_hkd_sI, z_hln_sI, z_hL_sI, z_hR_sI, z_hnx_sI, z_hkd_sL, z_hln_sL, z_hI_sL, z_hR_sL, z_hnx_sL, z_hkd_sR, z_hln_sR, z_hI_sR, z_hL_sR, z_hnx_sR, z_hkd_cI, z_hln_cI, z_hL_cI, z_hR_cI, z_hnx_cI, z_hkd_cLg, z_hln_cLg, z_hI_cLg, z_hR_cLg, z_hnx_cLg, K, hw, ix_nI n31, nI_pos' n31, hi]
theorem m_no {d : Nat} {Q : PQ} {h : HP} {m : Nat} {w : Int32} (K0 : MK h m) (hw : w = -1 ∨ w = -2 ∨ w = -3 ∨ w = -4 ∨ w = -6) : Ev (d + 1) 16 [.ref m, .int w] h Q = Q (some (.int w)) (RfM h m w) := by
  have e : -w = nI (rI w) ∧ rI w < 7 := by
    rcases hw with rfl | rfl | rfl | rfl | rfl
    · exact rfM_1
    · exact rfM_2
    · exact rfM_3
    · exact rfM_4
    · exact rfM_6
  unfold RfM
  exact m_noG K0 e.2 e.1
theorem m_lowerG {d i : Nat} {Q : PQ} {h : HP} {m : Nat} {w : Int32} (K0 : MK h m) (hi : i < 7) (hw : -w = nI i) : Ev (d + 1) 190 [.ref m, .int w] h Q = Q (some (.int (1000000000 - w))) (sI h (m + 1) i (hI h (m + 1) i + 1)) := by
  have K := K0
  unfold MK at K
  have n31 : i < 2 ^ 31 := by omega
  simp only [e190, s190_0, s190_1, s190_4, s190_5, s190_6, s190_7, s190_8, s190_9, s190_10, s190_11, s190_13, s190_14, s190_15, oB_some, cl2_i, cl2_r, cl2_l, cl2_u, cl2_s, wd_0, wd_i, wd_r, wd_l, wd_f, ct_i, ct_r, ct_n, ct_f, rf_s, rf_n, tl_s, tl_n, true_and, and_true, eq_self, and_self, Nat.reduceAdd, Nat.reduceLeDiff, Nat.zero_le, Nat.reduceEqDiff, or_true, true_or, false_or, or_false, if_true, if_false, gI_0, gI_1, gI_2, gI_3, gI_4, gI_5, gI_6, gI_7, gI_8, gI_9, gI_10, gI_11, gI_12, gI_13, gI_14, gI_15, gL_0, gL_1, gL_2, gL_3, gL_4, gL_5, gL_6, gL_7, gL_8, gL_9, gL_10, gL_11, gL_12, gL_13, gL_14, gL_15, gA_0, gA_1, gA_2, gA_3, gA_4, gA_5, gA_6, gA_7, gA_8, gA_9, gA_10, gA_11, gA_12, gA_13, gA_14, gA_15, p1_0, p1_1, p1_2, p1_3, p1_4, p1_5, p1_6, p1_7, p1_8, p1_9, p1_10, p1_11, p1_12, p1_13, p1_14, p1_15, p2_0, p2_1, p2_2, p2_3, p2_4, p2_5, p2_6, p2_7, p2_8, p2_9, p2_10, p2_11, p2_12, p2_13, p2_14, p2_15, b01_ok, b_ft, b_tf, b01_e0, b01_e1, lgc_0, not_true_eq_false, not_false_eq_true, z_hkd_sI, z_hln_sI, z_hL_sI, z_hR_sI, z_hnx_sI, z_hkd_sL, z_hln_sL, z_hI_sL, z_hR_sL, z_hnx_sL, z_hkd_sR, z_hln_sR, z_hI_sR, z_hL_sR, z_hnx_sR, z_hkd_cI, z_hln_cI, z_hL_cI, z_hR_cI, z_hnx_cI, z_hkd_cLg, z_hln_cLg, z_hI_cLg, z_hR_cLg, z_hnx_cLg, K, hw, ix_nI n31, nI_pos' n31, hi]
theorem m_lower {d : Nat} {Q : PQ} {h : HP} {m : Nat} {w : Int32} (K0 : MK h m) (hw : w = -1 ∨ w = -2 ∨ w = -3 ∨ w = -4 ∨ w = -6) : Ev (d + 1) 190 [.ref m, .int w] h Q = Q (some (.int (1000000000 - w))) (RfM h m w) := by
  have e : -w = nI (rI w) ∧ rI w < 7 := by
    rcases hw with rfl | rfl | rfl | rfl | rfl
    · exact rfM_1
    · exact rfM_2
    · exact rfM_3
    · exact rfM_4
    · exact rfM_6
  unfold RfM
  exact m_lowerG K0 e.2 e.1
theorem m_lowestOfG {d i : Nat} {Q : PQ} {h : HP} {m : Nat} {w : Int32} (K0 : MK h m) (hi : i < 7) (hw : -w = nI i) : Ev (d + 1) 215 [.ref m, .int w] h Q = Q (some (.long (4000000000000000000 - w.toInt64))) (sI h (m + 1) i (hI h (m + 1) i + 1)) := by
  have K := K0
  unfold MK at K
  have n31 : i < 2 ^ 31 := by omega
  simp only [e215, s215_0, s215_1, s215_4, s215_5, s215_6, s215_7, s215_8, s215_9, s215_10, s215_11, s215_14, s215_15, s215_16, s215_17, oB_some, cl2_i, cl2_r, cl2_l, cl2_u, cl2_s, wd_0, wd_i, wd_r, wd_l, wd_f, ct_i, ct_r, ct_n, ct_f, rf_s, rf_n, tl_s, tl_n, true_and, and_true, eq_self, and_self, Nat.reduceAdd, Nat.reduceLeDiff, Nat.zero_le, Nat.reduceEqDiff, or_true, true_or, false_or, or_false, if_true, if_false, gI_0, gI_1, gI_2, gI_3, gI_4, gI_5, gI_6, gI_7, gI_8, gI_9, gI_10, gI_11, gI_12, gI_13, gI_14, gI_15, gL_0, gL_1, gL_2, gL_3, gL_4, gL_5, gL_6, gL_7, gL_8, gL_9, gL_10, gL_11, gL_12, gL_13, gL_14, gL_15, gA_0, gA_1, gA_2, gA_3, gA_4, gA_5, gA_6, gA_7, gA_8, gA_9, gA_10, gA_11, gA_12, gA_13, gA_14, gA_15, p1_0, p1_1, p1_2, p1_3, p1_4, p1_5, p1_6, p1_7, p1_8, p1_9, p1_10, p1_11, p1_12, p1_13, p1_14, p1_15, p2_0, p2_1, p2_2, p2_3, p2_4, p2_5, p2_6, p2_7, p2_8, p2_9, p2_10, p2_11, p2_12, p2_13, p2_14, p2_15, b01_ok, b_ft, b_tf, b01_e0, b01_e1, lgc_0, not_true_eq_false, not_false_eq_true, z_hkd_sI, z_hln_sI, z_hL_sI, z_hR_sI, z_hnx_sI, z_hkd_sL, z_hln_sL, z_hI_sL, z_hR_sL, z_hnx_sL, z_hkd_sR, z_hln_sR, z_hI_sR, z_hL_sR, z_hnx_sR, z_hkd_cI, z_hln_cI, z_hL_cI, z_hR_cI, z_hnx_cI, z_hkd_cLg, z_hln_cLg, z_hI_cLg, z_hR_cLg, z_hnx_cLg, K, hw, ix_nI n31, nI_pos' n31, hi]
theorem m_lowestOf {d : Nat} {Q : PQ} {h : HP} {m : Nat} {w : Int32} (K0 : MK h m) (hw : w = -1 ∨ w = -2 ∨ w = -3 ∨ w = -4 ∨ w = -6) : Ev (d + 1) 215 [.ref m, .int w] h Q = Q (some (.long (4000000000000000000 - w.toInt64))) (RfM h m w) := by
  have e : -w = nI (rI w) ∧ rI w < 7 := by
    rcases hw with rfl | rfl | rfl | rfl | rfl
    · exact rfM_1
    · exact rfM_2
    · exact rfM_3
    · exact rfM_4
    · exact rfM_6
  unfold RfM
  exact m_lowestOfG K0 e.2 e.1
/-- the other side, for questions -/
def MO (h : HP) (m : Nat) (S : VS) : Prop := RM h m S ∧ FMl h m 0 false false
theorem v_isThere {d : Nat} {Q : PQ} {h : HP} {x : Nat} {p : Int32} {S : VS} (X : XQ h x S) : Ev (d + 2) 107 [.ref x, .int p] h Q = Q (some (.int (b01 (isPI S p)))) h := by
  have K := X.1
  have V := X.v.k
  unfold XK at K
  unfold VK at V
  simp only [e107, s107_0, s107_1, s107_4, s107_5, s107_8, oB_some, cl2_i, cl2_r, cl2_l, cl2_u, cl2_s, wd_0, wd_i, wd_r, wd_l, wd_f, ct_i, ct_r, ct_n, ct_f, rf_s, rf_n, tl_s, tl_n, true_and, and_true, eq_self, and_self, Nat.reduceAdd, Nat.reduceLeDiff, Nat.zero_le, Nat.reduceEqDiff, or_true, true_or, false_or, or_false, if_true, if_false, gI_0, gI_1, gI_2, gI_3, gI_4, gI_5, gI_6, gI_7, gI_8, gI_9, gI_10, gI_11, gI_12, gI_13, gI_14, gI_15, gL_0, gL_1, gL_2, gL_3, gL_4, gL_5, gL_6, gL_7, gL_8, gL_9, gL_10, gL_11, gL_12, gL_13, gL_14, gL_15, gA_0, gA_1, gA_2, gA_3, gA_4, gA_5, gA_6, gA_7, gA_8, gA_9, gA_10, gA_11, gA_12, gA_13, gA_14, gA_15, p1_0, p1_1, p1_2, p1_3, p1_4, p1_5, p1_6, p1_7, p1_8, p1_9, p1_10, p1_11, p1_12, p1_13, p1_14, p1_15, p2_0, p2_1, p2_2, p2_3, p2_4, p2_5, p2_6, p2_7, p2_8, p2_9, p2_10, p2_11, p2_12, p2_13, p2_14, p2_15, b01_ok, b_ft, b_tf, b01_e0, b01_e1, lgc_0, not_true_eq_false, not_false_eq_true, K, V, v_hasPersonI X.v, isPI]
theorem v_isThereOrShe {d : Nat} {Q : PQ} {h : HP} {x : Nat} {p : Int32} {S : VS} (X : XQ h x S) : Ev (d + 3) 111 [.ref x, .int p] h Q = Q (some (.int (b01 (isKI S p)))) h := by
  have K := X.1
  unfold XK at K
  simp only [e111, s111_0, s111_1, s111_2, s111_5, s111_6, s111_7, s111_10, s111_13, s111_14, s111_17, s111_18, oB_some, cl2_i, cl2_r, cl2_l, cl2_u, cl2_s, wd_0, wd_i, wd_r, wd_l, wd_f, ct_i, ct_r, ct_n, ct_f, rf_s, rf_n, tl_s, tl_n, true_and, and_true, eq_self, and_self, Nat.reduceAdd, Nat.reduceLeDiff, Nat.zero_le, Nat.reduceEqDiff, or_true, true_or, false_or, or_false, if_true, if_false, gI_0, gI_1, gI_2, gI_3, gI_4, gI_5, gI_6, gI_7, gI_8, gI_9, gI_10, gI_11, gI_12, gI_13, gI_14, gI_15, gL_0, gL_1, gL_2, gL_3, gL_4, gL_5, gL_6, gL_7, gL_8, gL_9, gL_10, gL_11, gL_12, gL_13, gL_14, gL_15, gA_0, gA_1, gA_2, gA_3, gA_4, gA_5, gA_6, gA_7, gA_8, gA_9, gA_10, gA_11, gA_12, gA_13, gA_14, gA_15, p1_0, p1_1, p1_2, p1_3, p1_4, p1_5, p1_6, p1_7, p1_8, p1_9, p1_10, p1_11, p1_12, p1_13, p1_14, p1_15, p2_0, p2_1, p2_2, p2_3, p2_4, p2_5, p2_6, p2_7, p2_8, p2_9, p2_10, p2_11, p2_12, p2_13, p2_14, p2_15, b01_ok, b_ft, b_tf, b01_e0, b01_e1, lgc_0, not_true_eq_false, not_false_eq_true, K, v_isThere X]
  unfold isKI
  by_cases h0 : p = -1
  · rw [if_pos h0, decide_eq_true h0]
    rfl
  · rw [if_neg h0, decide_eq_false h0, Bool.false_or]
    cases e : isPI S p
    · rfl
    · rfl
def arTwo (S : VS) (a b : Int32) : Bool := isPI S a && isPI S b && !decide (a = b)
theorem v_areTwo {d : Nat} {Q : PQ} {h : HP} {x : Nat} {a b : Int32} {S : VS} (X : XQ h x S) : Ev (d + 3) 203 [.ref x, .int a, .int b] h Q = Q (some (.int (b01 (arTwo S a b)))) h := by
  have K := X.1
  unfold XK at K
  unfold arTwo
  cases e1 : isPI S a <;> cases e2 : isPI S b <;> by_cases h0 : a = b <;> simp only [e203, s203_0, s203_1, s203_2, s203_5, s203_8, s203_9, s203_10, s203_13, s203_16, s203_17, s203_18, s203_21, s203_22, s203_25, s203_26, oB_some, cl2_i, cl2_r, cl2_l, cl2_u, cl2_s, wd_0, wd_i, wd_r, wd_l, wd_f, ct_i, ct_r, ct_n, ct_f, rf_s, rf_n, tl_s, tl_n, true_and, and_true, eq_self, and_self, Nat.reduceAdd, Nat.reduceLeDiff, Nat.zero_le, Nat.reduceEqDiff, or_true, true_or, false_or, or_false, if_true, if_false, gI_0, gI_1, gI_2, gI_3, gI_4, gI_5, gI_6, gI_7, gI_8, gI_9, gI_10, gI_11, gI_12, gI_13, gI_14, gI_15, gL_0, gL_1, gL_2, gL_3, gL_4, gL_5, gL_6, gL_7, gL_8, gL_9, gL_10, gL_11, gL_12, gL_13, gL_14, gL_15, gA_0, gA_1, gA_2, gA_3, gA_4, gA_5, gA_6, gA_7, gA_8, gA_9, gA_10, gA_11, gA_12, gA_13, gA_14, gA_15, p1_0, p1_1, p1_2, p1_3, p1_4, p1_5, p1_6, p1_7, p1_8, p1_9, p1_10, p1_11, p1_12, p1_13, p1_14, p1_15, p2_0, p2_1, p2_2, p2_3, p2_4, p2_5, p2_6, p2_7, p2_8, p2_9, p2_10, p2_11, p2_12, p2_13, p2_14, p2_15, b01_ok, b_ft, b_tf, b01_e0, b01_e1, lgc_0, not_true_eq_false, not_false_eq_true, K, v_isThere X, e1, e2, h0, decide_true, decide_false, Bool.not_true, Bool.not_false, Bool.and_true, Bool.and_false, reduceCtorEq, if_true, if_false] <;> rfl
def inBg (S : VS) (p : Int32) : Bool := decide (0 ≤ p ∧ p < nI (vb S).length)
theorem v_isInBag {d : Nat} {Q : PQ} {h : HP} {x : Nat} {p : Int32} {S : VS} (X : XQ h x S) : Ev (d + 1) 121 [.ref x, .int p] h Q = Q (some (.int (b01 (inBg S p)))) h := by
  have K := X.1
  have V := X.v.k
  have M := X.v.m
  unfold XK at K
  unfold VK at V
  simp only [e121, s121_0, s121_1, s121_4, s121_5, s121_6, s121_9, s121_12, s121_15, s121_18, s121_19, s121_22, s121_23, oB_some, cl2_i, cl2_r, cl2_l, cl2_u, cl2_s, wd_0, wd_i, wd_r, wd_l, wd_f, ct_i, ct_r, ct_n, ct_f, rf_s, rf_n, tl_s, tl_n, true_and, and_true, eq_self, and_self, Nat.reduceAdd, Nat.reduceLeDiff, Nat.zero_le, Nat.reduceEqDiff, or_true, true_or, false_or, or_false, if_true, if_false, gI_0, gI_1, gI_2, gI_3, gI_4, gI_5, gI_6, gI_7, gI_8, gI_9, gI_10, gI_11, gI_12, gI_13, gI_14, gI_15, gL_0, gL_1, gL_2, gL_3, gL_4, gL_5, gL_6, gL_7, gL_8, gL_9, gL_10, gL_11, gL_12, gL_13, gL_14, gL_15, gA_0, gA_1, gA_2, gA_3, gA_4, gA_5, gA_6, gA_7, gA_8, gA_9, gA_10, gA_11, gA_12, gA_13, gA_14, gA_15, p1_0, p1_1, p1_2, p1_3, p1_4, p1_5, p1_6, p1_7, p1_8, p1_9, p1_10, p1_11, p1_12, p1_13, p1_14, p1_15, p2_0, p2_1, p2_2, p2_3, p2_4, p2_5, p2_6, p2_7, p2_8, p2_9, p2_10, p2_11, p2_12, p2_13, p2_14, p2_15, b01_ok, b_ft, b_tf, b01_e0, b01_e1, lgc_0, not_true_eq_false, not_false_eq_true, K, V, M]
  unfold inBg
  by_cases h0 : p < 0
  · rw [if_pos h0, decide_eq_false (fun c => Int32.not_le.mpr h0 c.1)]
    rfl
  · rw [if_neg h0]
    have h0' : 0 ≤ p := Int32.not_lt.mp h0
    by_cases h1 : nI (vb S).length ≤ p
    · rw [if_pos h1, decide_eq_false (fun c => Int32.not_lt.mpr h1 c.2)]
      rfl
    · rw [if_neg h1, decide_eq_true ⟨h0', Int32.not_le.mp h1⟩]
      rfl
theorem inBg_of {S : VS} {p : Int32} (g : Good S) (h : inBg S p = true) : ∃ i, i < (vb S).length ∧ p = nI i := by
  have gl := g.l
  unfold inBg at h
  rw [decide_eq_true_eq] at h
  obtain ⟨h1, h2⟩ := h
  obtain ⟨j, hj, rfl⟩ := nI_of (Int32.not_lt.mpr h1)
  exact ⟨j, (nI_ltI hj (by omega)).mp h2, rfl⟩
def chB (w : Int32) : Bool := decide (w = 0) || decide (w = 1)
theorem v_isChoice {d : Nat} {Q : PQ} {h : HP} {w : Int32} : Ev (d + 1) 164 [.int w] h Q = Q (some (.int (b01 (chB w)))) h := by
  simp only [e164, s164_0, s164_1, s164_4, s164_5, s164_6, s164_9, s164_10, s164_13, s164_14, oB_some, cl2_i, cl2_r, cl2_l, cl2_u, cl2_s, wd_0, wd_i, wd_r, wd_l, wd_f, ct_i, ct_r, ct_n, ct_f, rf_s, rf_n, tl_s, tl_n, true_and, and_true, eq_self, and_self, Nat.reduceAdd, Nat.reduceLeDiff, Nat.zero_le, Nat.reduceEqDiff, or_true, true_or, false_or, or_false, if_true, if_false, gI_0, gI_1, gI_2, gI_3, gI_4, gI_5, gI_6, gI_7, gI_8, gI_9, gI_10, gI_11, gI_12, gI_13, gI_14, gI_15, gL_0, gL_1, gL_2, gL_3, gL_4, gL_5, gL_6, gL_7, gL_8, gL_9, gL_10, gL_11, gL_12, gL_13, gL_14, gL_15, gA_0, gA_1, gA_2, gA_3, gA_4, gA_5, gA_6, gA_7, gA_8, gA_9, gA_10, gA_11, gA_12, gA_13, gA_14, gA_15, p1_0, p1_1, p1_2, p1_3, p1_4, p1_5, p1_6, p1_7, p1_8, p1_9, p1_10, p1_11, p1_12, p1_13, p1_14, p1_15, p2_0, p2_1, p2_2, p2_3, p2_4, p2_5, p2_6, p2_7, p2_8, p2_9, p2_10, p2_11, p2_12, p2_13, p2_14, p2_15, b01_ok, b_ft, b_tf, b01_e0, b01_e1, lgc_0, not_true_eq_false, not_false_eq_true]
  unfold chB
  by_cases h0 : w = 0
  · rw [if_pos h0, decide_eq_true h0]; rfl
  · rw [if_neg h0, decide_eq_false h0]
    by_cases h1 : w = 1
    · rw [if_neg (not_not_intro h1), decide_eq_true h1]; rfl
    · rw [if_pos h1, decide_eq_false h1]; rfl
theorem chB_of {w : Int32} (h : chB w = true) : w = 0 ∨ w = 1 := by
  unfold chB at h
  simpa using h
theorem in01 (w : Int32) : decide (0 ≤ w ∧ w ≤ 1) = chB w := by
  unfold chB
  have e : (0 ≤ w ∧ w ≤ 1) ↔ (w = 0 ∨ w = 1) := by
    rw [Int32.le_iff_toInt_le, Int32.le_iff_toInt_le, ← Int32.toInt_inj, ← Int32.toInt_inj, show ((0 : Int32)).toInt = 0 from by decide, show ((1 : Int32)).toInt = 1 from by decide]
    omega
  rw [← Bool.decide_or]
  exact decide_eq_decide.mpr e
theorem arg_of {x M : Int32} {n : Nat} (hM : M = nI n) (hn : n < 2 ^ 31) (h0 : ¬ x < 0) (h1 : ¬ M < x) : ∃ j, j ≤ n ∧ x = nI j := by
  obtain ⟨j, hj, rfl⟩ := nI_of h0
  refine ⟨j, ?_, rfl⟩
  rw [hM] at h1
  have := (nI_leI hj hn).mp (Int32.not_lt.mp h1)
  exact this
abbrev tc (x : Int32) : Nat := x.toNatClampNeg
theorem tc_n {n : Nat} (h : n < 2 ^ 31) : tc (nI n) = n := nI_clamp h
theorem bnd_lo {v a b : Int32} (h : v < a) : bnd v a b = -4 := if_pos h
theorem bnd_hi {v a b : Int32} (h : ¬ v < a) (h2 : b < v) : bnd v a b = -6 := by unfold bnd; rw [if_neg h, if_pos h2]
theorem bnd_ok {v a b : Int32} (h : ¬ v < a) (h2 : ¬ b < v) : bnd v a b = 0 := by unfold bnd; rw [if_neg h, if_neg h2]
theorem m_notSecret {d : Nat} {Q : PQ} {h : HP} {m : Nat} {p s : Int32} {S : VS} (q : RM h m S) (g : Good S) : Ev (d + 3) 115 [.ref m, .int p, .int s] h Q = Q (some (.int (why (!isKI S p) (decide (s < 0)) (decide (39 < s)) false))) h := by
  have K := q.k
  unfold MK at K
  simp only [e115, s115_0, s115_1, s115_2, s115_5, s115_8, s115_9, s115_12, s115_13, s115_14, s115_16, s115_19, oB_some, cl2_i, cl2_r, cl2_l, cl2_u, cl2_s, wd_0, wd_i, wd_r, wd_l, wd_f, ct_i, ct_r, ct_n, ct_f, rf_s, rf_n, tl_s, tl_n, true_and, and_true, eq_self, and_self, Nat.reduceAdd, Nat.reduceLeDiff, Nat.zero_le, Nat.reduceEqDiff, or_true, true_or, false_or, or_false, if_true, if_false, gI_0, gI_1, gI_2, gI_3, gI_4, gI_5, gI_6, gI_7, gI_8, gI_9, gI_10, gI_11, gI_12, gI_13, gI_14, gI_15, gL_0, gL_1, gL_2, gL_3, gL_4, gL_5, gL_6, gL_7, gL_8, gL_9, gL_10, gL_11, gL_12, gL_13, gL_14, gL_15, gA_0, gA_1, gA_2, gA_3, gA_4, gA_5, gA_6, gA_7, gA_8, gA_9, gA_10, gA_11, gA_12, gA_13, gA_14, gA_15, p1_0, p1_1, p1_2, p1_3, p1_4, p1_5, p1_6, p1_7, p1_8, p1_9, p1_10, p1_11, p1_12, p1_13, p1_14, p1_15, p2_0, p2_1, p2_2, p2_3, p2_4, p2_5, p2_6, p2_7, p2_8, p2_9, p2_10, p2_11, p2_12, p2_13, p2_14, p2_15, b01_ok, b_ft, b_tf, b01_e0, b01_e1, lgc_0, not_true_eq_false, not_false_eq_true, K, m_isKnowerI q g, m_bound]
  unfold why bnd
  cases e : isKI S p
  · simp
  · by_cases h0 : s < 0 <;> by_cases h1 : 39 < s <;> simp [h0, h1]
