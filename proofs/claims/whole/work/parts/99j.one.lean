-- the one side as it is made, its call
theorem v_pastInit {d : Nat} {Q : PQ} {h : HP} {p : Nat} (hk : hkd h p = 12) (hg : p < hnx h) : Ev (d + 2) 3 [.ref p] h Q = Q none (bl1 h p 0 4 8) := by
  have i8 : ix 8 = 8 := by decide
  have p8 : (0 : Int32) ≤ 8 := by decide
  have le : ∀ (h1 : HP) (k t n : Nat), sR (snw h1 t n) p k (some (hnx h1)) = bl1 h1 p k t n := fun _ _ _ _ => rfl
  simp only [e3, s3_0, s3_1, s3_4, s3_5, s3_7, s3_10, s3_13, oB_some, cl2_i, cl2_r, cl2_l, cl2_u, cl2_s, wd_0, wd_i, wd_r, wd_l, wd_f, ct_i, ct_r, ct_n, ct_f, rf_s, rf_n, tl_s, tl_n, true_and, and_true, eq_self, and_self, Nat.reduceAdd, Nat.reduceLeDiff, Nat.zero_le, Nat.reduceEqDiff, or_true, true_or, false_or, or_false, if_true, if_false, gI_0, gI_1, gI_2, gI_3, gI_4, gI_5, gI_6, gI_7, gI_8, gI_9, gI_10, gI_11, gI_12, gI_13, gI_14, gI_15, gL_0, gL_1, gL_2, gL_3, gL_4, gL_5, gL_6, gL_7, gL_8, gL_9, gL_10, gL_11, gL_12, gL_13, gL_14, gL_15, gA_0, gA_1, gA_2, gA_3, gA_4, gA_5, gA_6, gA_7, gA_8, gA_9, gA_10, gA_11, gA_12, gA_13, gA_14, gA_15, p1_0, p1_1, p1_2, p1_3, p1_4, p1_5, p1_6, p1_7, p1_8, p1_9, p1_10, p1_11, p1_12, p1_13, p1_14, p1_15, p2_0, p2_1, p2_2, p2_3, p2_4, p2_5, p2_6, p2_7, p2_8, p2_9, p2_10, p2_11, p2_12, p2_13, p2_14, p2_15, b01_ok, b_ft, b_tf, b01_e0, b01_e1, lgc_0, not_true_eq_false, not_false_eq_true, Nat.reduceSub, hk, i8, p8, snw_kd hg, le]
theorem v_postInit {d : Nat} {Q : PQ} {h : HP} {p : Nat} (hk : hkd h p = 13) (hg : p < hnx h) : Ev (d + 2) 4 [.ref p] h Q = Q none (bl1 h p 0 2 96) := by
  have i8 : ix 96 = 96 := by decide
  have p8 : (0 : Int32) ≤ 96 := by decide
  have le : ∀ (h1 : HP) (k t n : Nat), sR (snw h1 t n) p k (some (hnx h1)) = bl1 h1 p k t n := fun _ _ _ _ => rfl
  simp only [e4, s4_0, s4_1, s4_4, s4_5, s4_7, s4_9, s4_12, oB_some, cl2_i, cl2_r, cl2_l, cl2_u, cl2_s, wd_0, wd_i, wd_r, wd_l, wd_f, ct_i, ct_r, ct_n, ct_f, rf_s, rf_n, tl_s, tl_n, true_and, and_true, eq_self, and_self, Nat.reduceAdd, Nat.reduceLeDiff, Nat.zero_le, Nat.reduceEqDiff, or_true, true_or, false_or, or_false, if_true, if_false, gI_0, gI_1, gI_2, gI_3, gI_4, gI_5, gI_6, gI_7, gI_8, gI_9, gI_10, gI_11, gI_12, gI_13, gI_14, gI_15, gL_0, gL_1, gL_2, gL_3, gL_4, gL_5, gL_6, gL_7, gL_8, gL_9, gL_10, gL_11, gL_12, gL_13, gL_14, gL_15, gA_0, gA_1, gA_2, gA_3, gA_4, gA_5, gA_6, gA_7, gA_8, gA_9, gA_10, gA_11, gA_12, gA_13, gA_14, gA_15, p1_0, p1_1, p1_2, p1_3, p1_4, p1_5, p1_6, p1_7, p1_8, p1_9, p1_10, p1_11, p1_12, p1_13, p1_14, p1_15, p2_0, p2_1, p2_2, p2_3, p2_4, p2_5, p2_6, p2_7, p2_8, p2_9, p2_10, p2_11, p2_12, p2_13, p2_14, p2_15, b01_ok, b_ft, b_tf, b01_e0, b01_e1, lgc_0, not_true_eq_false, not_false_eq_true, Nat.reduceSub, hk, i8, p8, snw_kd hg, le]
set_option maxHeartbeats 4000000 in
theorem v_foreInit {d : Nat} {Q : PQ} {h : HP} {f v w : Nat} (hk : hkd h f = 11) (hg : f < hnx h) (hw : hnx h = w) (k : ∀ h3 h4 h5 h6 h7, h3 = vil (snw h 14 0) (hnx h) → h4 = sR h3 f 1 (some w) → h5 = bl1 h4 f 2 2 4 → h6 = bl1 h5 f 3 2 4 → h7 = sR h6 f 0 (some v) → Q none h7) : Ev (d + 3) 7 [.ref f, .ref v] h Q := by
  have i4 : ix 4 = 4 := by decide
  have p4 : (0 : Int32) ≤ 4 := by decide
  have le : ∀ (h1 : HP) (k t n : Nat), sR (snw h1 t n) f k (some (hnx h1)) = bl1 h1 f k t n := fun _ _ _ _ => rfl
  have k14 : hkd (snw h 14 0) (hnx h) = 14 := if_pos rfl
  have g14 : hnx h < hnx (snw h 14 0) := by rw [hnx_snw]; omega
  obtain ⟨B1, B2, B3, B4, B5⟩ := vnew_f (h := h)
  obtain ⟨h3, y3⟩ : ∃ z, z = vil (snw h 14 0) (hnx h) := ⟨_, rfl⟩
  rw [← y3] at B1 B2 B3 B4 B5
  have e3 : hkd h3 f = 11 := (B5 f hg).1.trans hk
  obtain ⟨h4, y4⟩ : ∃ z, z = sR h3 f 1 (some w) := ⟨_, rfl⟩
  have e4 : hkd h4 f = 11 := by rw [y4]; exact e3
  have g4 : f < hnx h4 := by rw [y4]; show f < hnx h3; omega
  obtain ⟨h5, y5⟩ : ∃ z, z = bl1 h4 f 2 2 4 := ⟨_, rfl⟩
  have e5 : hkd h5 f = 11 := by rw [y5]; exact (bl1_kd g4).trans e4
  have g5 : f < hnx h5 := by rw [y5, bl1_nx]; omega
  obtain ⟨h6, y6⟩ : ∃ z, z = bl1 h5 f 3 2 4 := ⟨_, rfl⟩
  have e6 : hkd h6 f = 11 := by rw [y6]; exact (bl1_kd g5).trans e5
  simp only [e7, s7_0, s7_1, s7_4, s7_5, s7_8, s7_9, s7_12, oB_some, cl2_i, cl2_r, cl2_l, cl2_u, cl2_s, wd_0, wd_i, wd_r, wd_l, wd_f, ct_i, ct_r, ct_n, ct_f, rf_s, rf_n, tl_s, tl_n, true_and, and_true, eq_self, and_self, Nat.reduceAdd, Nat.reduceLeDiff, Nat.zero_le, Nat.reduceEqDiff, or_true, true_or, false_or, or_false, if_true, if_false, gI_0, gI_1, gI_2, gI_3, gI_4, gI_5, gI_6, gI_7, gI_8, gI_9, gI_10, gI_11, gI_12, gI_13, gI_14, gI_15, gL_0, gL_1, gL_2, gL_3, gL_4, gL_5, gL_6, gL_7, gL_8, gL_9, gL_10, gL_11, gL_12, gL_13, gL_14, gL_15, gA_0, gA_1, gA_2, gA_3, gA_4, gA_5, gA_6, gA_7, gA_8, gA_9, gA_10, gA_11, gA_12, gA_13, gA_14, gA_15, p1_0, p1_1, p1_2, p1_3, p1_4, p1_5, p1_6, p1_7, p1_8, p1_9, p1_10, p1_11, p1_12, p1_13, p1_14, p1_15, p2_0, p2_1, p2_2, p2_3, p2_4, p2_5, p2_6, p2_7, p2_8, p2_9, p2_10, p2_11, p2_12, p2_13, p2_14, p2_15, b01_ok, b_ft, b_tf, b01_e0, b01_e1, lgc_0, not_true_eq_false, not_false_eq_true, Nat.reduceSub, hk, k14, v_vilInit k14 g14, e3, ← y3]
  rw [hw, ← y4]
  simp only [s7_15, s7_16, s7_17, s7_19, oB_some, cl2_i, cl2_r, cl2_l, cl2_u, cl2_s, wd_0, wd_i, wd_r, wd_l, wd_f, ct_i, ct_r, ct_n, ct_f, rf_s, rf_n, tl_s, tl_n, true_and, and_true, eq_self, and_self, Nat.reduceAdd, Nat.reduceLeDiff, Nat.zero_le, Nat.reduceEqDiff, or_true, true_or, false_or, or_false, if_true, if_false, gI_0, gI_1, gI_2, gI_3, gI_4, gI_5, gI_6, gI_7, gI_8, gI_9, gI_10, gI_11, gI_12, gI_13, gI_14, gI_15, gL_0, gL_1, gL_2, gL_3, gL_4, gL_5, gL_6, gL_7, gL_8, gL_9, gL_10, gL_11, gL_12, gL_13, gL_14, gL_15, gA_0, gA_1, gA_2, gA_3, gA_4, gA_5, gA_6, gA_7, gA_8, gA_9, gA_10, gA_11, gA_12, gA_13, gA_14, gA_15, p1_0, p1_1, p1_2, p1_3, p1_4, p1_5, p1_6, p1_7, p1_8, p1_9, p1_10, p1_11, p1_12, p1_13, p1_14, p1_15, p2_0, p2_1, p2_2, p2_3, p2_4, p2_5, p2_6, p2_7, p2_8, p2_9, p2_10, p2_11, p2_12, p2_13, p2_14, p2_15, b01_ok, b_ft, b_tf, b01_e0, b01_e1, lgc_0, not_true_eq_false, not_false_eq_true, Nat.reduceSub, e4, i4, p4, snw_kd g4, le, ← y5]
  simp only [s7_22, s7_23, s7_24, s7_26, oB_some, cl2_i, cl2_r, cl2_l, cl2_u, cl2_s, wd_0, wd_i, wd_r, wd_l, wd_f, ct_i, ct_r, ct_n, ct_f, rf_s, rf_n, tl_s, tl_n, true_and, and_true, eq_self, and_self, Nat.reduceAdd, Nat.reduceLeDiff, Nat.zero_le, Nat.reduceEqDiff, or_true, true_or, false_or, or_false, if_true, if_false, gI_0, gI_1, gI_2, gI_3, gI_4, gI_5, gI_6, gI_7, gI_8, gI_9, gI_10, gI_11, gI_12, gI_13, gI_14, gI_15, gL_0, gL_1, gL_2, gL_3, gL_4, gL_5, gL_6, gL_7, gL_8, gL_9, gL_10, gL_11, gL_12, gL_13, gL_14, gL_15, gA_0, gA_1, gA_2, gA_3, gA_4, gA_5, gA_6, gA_7, gA_8, gA_9, gA_10, gA_11, gA_12, gA_13, gA_14, gA_15, p1_0, p1_1, p1_2, p1_3, p1_4, p1_5, p1_6, p1_7, p1_8, p1_9, p1_10, p1_11, p1_12, p1_13, p1_14, p1_15, p2_0, p2_1, p2_2, p2_3, p2_4, p2_5, p2_6, p2_7, p2_8, p2_9, p2_10, p2_11, p2_12, p2_13, p2_14, p2_15, b01_ok, b_ft, b_tf, b01_e0, b01_e1, lgc_0, not_true_eq_false, not_false_eq_true, Nat.reduceSub, e5, i4, p4, snw_kd g5, le, ← y6]
  simp only [s7_29, s7_30, s7_31, s7_34, oB_some, cl2_i, cl2_r, cl2_l, cl2_u, cl2_s, wd_0, wd_i, wd_r, wd_l, wd_f, ct_i, ct_r, ct_n, ct_f, rf_s, rf_n, tl_s, tl_n, true_and, and_true, eq_self, and_self, Nat.reduceAdd, Nat.reduceLeDiff, Nat.zero_le, Nat.reduceEqDiff, or_true, true_or, false_or, or_false, if_true, if_false, gI_0, gI_1, gI_2, gI_3, gI_4, gI_5, gI_6, gI_7, gI_8, gI_9, gI_10, gI_11, gI_12, gI_13, gI_14, gI_15, gL_0, gL_1, gL_2, gL_3, gL_4, gL_5, gL_6, gL_7, gL_8, gL_9, gL_10, gL_11, gL_12, gL_13, gL_14, gL_15, gA_0, gA_1, gA_2, gA_3, gA_4, gA_5, gA_6, gA_7, gA_8, gA_9, gA_10, gA_11, gA_12, gA_13, gA_14, gA_15, p1_0, p1_1, p1_2, p1_3, p1_4, p1_5, p1_6, p1_7, p1_8, p1_9, p1_10, p1_11, p1_12, p1_13, p1_14, p1_15, p2_0, p2_1, p2_2, p2_3, p2_4, p2_5, p2_6, p2_7, p2_8, p2_9, p2_10, p2_11, p2_12, p2_13, p2_14, p2_15, b01_ok, b_ft, b_tf, b01_e0, b01_e1, lgc_0, not_true_eq_false, not_false_eq_true, Nat.reduceSub, e6]
  exact k h3 h4 h5 h6 _ y3 y4 y5 y6 rfl
def X0f (x : Nat) (h0 h : HP) : Prop := hnx h = x + 34 ∧ XQ h x S0 ∧ hR h x 7 = none ∧ (∀ j, hR h (x + 2) j = none) ∧ (∀ j, j < 7 → ∀ i, hI h (x + j) i = 0) ∧ ∀ b, b < x → Eqc b h0 h
set_option maxHeartbeats 4000000 in
theorem v_oneInit {d : Nat} {Q : PQ} {h0 : HP} {x : Nat} (hx : hnx h0 = x) (kk : ∀ h, X0f x h0 h → Q none h) : Ev (d + 4) 2 [.ref x] (snw h0 15 0) Q := by
  have i12 : ix 12 = 12 := by decide
  have p12 : (0 : Int32) ≤ 12 := by decide
  have p6 : (0 : Int32) ≤ 6 := by decide
  have le : ∀ (h1 : HP) (k t n : Nat), sR (snw h1 t n) x k (some (hnx h1)) = bl1 h1 x k t n := fun _ _ _ _ => rfl
  obtain ⟨h1, y1⟩ : ∃ z, z = snw h0 15 0 := ⟨_, rfl⟩
  have n1 : hnx h1 = x + 1 := by rw [y1, hnx_snw, hx]
  have k1 : hkd h1 x = 15 := by rw [y1]; exact if_pos hx.symm
  obtain ⟨h2, y2⟩ : ∃ z, z = snw h1 12 0 := ⟨_, rfl⟩
  have n2 : hnx h2 = x + 2 := by rw [y2, hnx_snw, n1]
  have k2 : hkd h2 x = 15 := by rw [y2, snw_kd (by omega)]; exact k1
  have q2 : hkd h2 (x + 1) = 12 := by rw [y2]; exact if_pos n1.symm
  have g2 : x + 1 < hnx h2 := by omega
  obtain ⟨h3, y3⟩ : ∃ z, z = bl1 h2 (x + 1) 0 4 8 := ⟨_, rfl⟩
  have n3 : hnx h3 = x + 3 := by rw [y3, bl1_nx, n2]
  have k3 : hkd h3 x = 15 := by rw [y3, bl1_kd (by omega)]; exact k2
  obtain ⟨h4, y4⟩ : ∃ z, z = sR h3 x 2 (some (x + 1)) := ⟨_, rfl⟩
  have n4 : hnx h4 = x + 3 := by rw [y4]; exact n3
  have k4 : hkd h4 x = 15 := by rw [y4]; exact k3
  obtain ⟨h5, y5⟩ : ∃ z, z = snw h4 13 0 := ⟨_, rfl⟩
  have n5 : hnx h5 = x + 4 := by rw [y5, hnx_snw, n4]
  have k5 : hkd h5 x = 15 := by rw [y5, snw_kd (by omega)]; exact k4
  have q5 : hkd h5 (x + 3) = 13 := by rw [y5]; exact if_pos n4.symm
  have g5 : x + 3 < hnx h5 := by omega
  obtain ⟨h6, y6⟩ : ∃ z, z = bl1 h5 (x + 3) 0 2 96 := ⟨_, rfl⟩
  have n6 : hnx h6 = x + 5 := by rw [y6, bl1_nx, n5]
  have k6 : hkd h6 x = 15 := by rw [y6, bl1_kd (by omega)]; exact k5
  obtain ⟨h7, y7⟩ : ∃ z, z = sR h6 x 3 (some (x + 3)) := ⟨_, rfl⟩
  have n7 : hnx h7 = x + 5 := by rw [y7]; exact n6
  have k7 : hkd h7 x = 15 := by rw [y7]; exact k6
  have g7 : x < hnx h7 := by omega
  obtain ⟨h8, y8⟩ : ∃ z, z = bl1 h7 x 4 2 12 := ⟨_, rfl⟩
  have n8 : hnx h8 = x + 6 := by rw [y8, bl1_nx, n7]
  have k8 : hkd h8 x = 15 := by rw [y8, bl1_kd (by omega)]; exact k7
  have g8 : x < hnx h8 := by omega
  obtain ⟨h9, y9⟩ : ∃ z, z = bl1 h8 x 5 2 6 := ⟨_, rfl⟩
  have k9 : hkd h9 x = 15 := by rw [y9, bl1_kd (by omega)]; exact k8
  obtain ⟨n9, F, ⟨f1, f2, f3⟩, f4⟩ := xa_f hx y1 y2 y3 y4 y5 y6 y7 y8 y9
  have k14 : hkd (snw h9 14 0) (x + 7) = 14 := by rw [← n9]; exact if_pos rfl
  have g14 : x + 7 < hnx (snw h9 14 0) := by rw [hnx_snw]; omega
  obtain ⟨B1, -, -, -, B5⟩ := vnew_f (h := h9)
  obtain ⟨hB, yB⟩ : ∃ z, z = vil (snw h9 14 0) (x + 7) := ⟨_, rfl⟩
  have eB : hB = vil (snw h9 14 0) (hnx h9) := by rw [n9]; exact yB
  rw [← eB] at B1 B5
  have nB : hnx hB = x + 19 := by rw [B1, n9]
  have kB : hkd hB x = 15 := (B5 x (by omega)).1.trans k9
  obtain ⟨hB2, yB2⟩ : ∃ z, z = sR hB x 0 (some (x + 7)) := ⟨_, rfl⟩
  have nB2 : hnx hB2 = x + 19 := by rw [yB2]; exact nB
  obtain ⟨hC1, yC1⟩ : ∃ z, z = snw hB2 11 0 := ⟨_, rfl⟩
  have nC1 : hnx hC1 = x + 20 := by rw [yC1, hnx_snw, nB2]
  have kC1 : hkd hC1 (x + 19) = 11 := by rw [yC1]; exact if_pos nB2.symm
  rw [← y1]
  simp only [e2, s2_0, s2_1, s2_4, s2_5, s2_8, s2_9, s2_12, oB_some, cl2_i, cl2_r, cl2_l, cl2_u, cl2_s, wd_0, wd_i, wd_r, wd_l, wd_f, ct_i, ct_r, ct_n, ct_f, rf_s, rf_n, tl_s, tl_n, true_and, and_true, eq_self, and_self, Nat.reduceAdd, Nat.reduceLeDiff, Nat.zero_le, Nat.reduceEqDiff, or_true, true_or, false_or, or_false, if_true, if_false, gI_0, gI_1, gI_2, gI_3, gI_4, gI_5, gI_6, gI_7, gI_8, gI_9, gI_10, gI_11, gI_12, gI_13, gI_14, gI_15, gL_0, gL_1, gL_2, gL_3, gL_4, gL_5, gL_6, gL_7, gL_8, gL_9, gL_10, gL_11, gL_12, gL_13, gL_14, gL_15, gA_0, gA_1, gA_2, gA_3, gA_4, gA_5, gA_6, gA_7, gA_8, gA_9, gA_10, gA_11, gA_12, gA_13, gA_14, gA_15, p1_0, p1_1, p1_2, p1_3, p1_4, p1_5, p1_6, p1_7, p1_8, p1_9, p1_10, p1_11, p1_12, p1_13, p1_14, p1_15, p2_0, p2_1, p2_2, p2_3, p2_4, p2_5, p2_6, p2_7, p2_8, p2_9, p2_10, p2_11, p2_12, p2_13, p2_14, p2_15, b01_ok, b_ft, b_tf, b01_e0, b01_e1, lgc_0, not_true_eq_false, not_false_eq_true, Nat.reduceSub, k1, k2, k3, n1, ← y2, v_pastInit q2 g2, ← y3, ← y4]
  simp only [s2_15, s2_16, s2_19, s2_20, s2_23, oB_some, cl2_i, cl2_r, cl2_l, cl2_u, cl2_s, wd_0, wd_i, wd_r, wd_l, wd_f, ct_i, ct_r, ct_n, ct_f, rf_s, rf_n, tl_s, tl_n, true_and, and_true, eq_self, and_self, Nat.reduceAdd, Nat.reduceLeDiff, Nat.zero_le, Nat.reduceEqDiff, or_true, true_or, false_or, or_false, if_true, if_false, gI_0, gI_1, gI_2, gI_3, gI_4, gI_5, gI_6, gI_7, gI_8, gI_9, gI_10, gI_11, gI_12, gI_13, gI_14, gI_15, gL_0, gL_1, gL_2, gL_3, gL_4, gL_5, gL_6, gL_7, gL_8, gL_9, gL_10, gL_11, gL_12, gL_13, gL_14, gL_15, gA_0, gA_1, gA_2, gA_3, gA_4, gA_5, gA_6, gA_7, gA_8, gA_9, gA_10, gA_11, gA_12, gA_13, gA_14, gA_15, p1_0, p1_1, p1_2, p1_3, p1_4, p1_5, p1_6, p1_7, p1_8, p1_9, p1_10, p1_11, p1_12, p1_13, p1_14, p1_15, p2_0, p2_1, p2_2, p2_3, p2_4, p2_5, p2_6, p2_7, p2_8, p2_9, p2_10, p2_11, p2_12, p2_13, p2_14, p2_15, b01_ok, b_ft, b_tf, b01_e0, b01_e1, lgc_0, not_true_eq_false, not_false_eq_true, Nat.reduceSub, k4, k5, k6, n4, ← y5, v_postInit q5 g5, ← y6, ← y7]
  simp only [s2_26, s2_27, s2_29, s2_31, oB_some, cl2_i, cl2_r, cl2_l, cl2_u, cl2_s, wd_0, wd_i, wd_r, wd_l, wd_f, ct_i, ct_r, ct_n, ct_f, rf_s, rf_n, tl_s, tl_n, true_and, and_true, eq_self, and_self, Nat.reduceAdd, Nat.reduceLeDiff, Nat.zero_le, Nat.reduceEqDiff, or_true, true_or, false_or, or_false, if_true, if_false, gI_0, gI_1, gI_2, gI_3, gI_4, gI_5, gI_6, gI_7, gI_8, gI_9, gI_10, gI_11, gI_12, gI_13, gI_14, gI_15, gL_0, gL_1, gL_2, gL_3, gL_4, gL_5, gL_6, gL_7, gL_8, gL_9, gL_10, gL_11, gL_12, gL_13, gL_14, gL_15, gA_0, gA_1, gA_2, gA_3, gA_4, gA_5, gA_6, gA_7, gA_8, gA_9, gA_10, gA_11, gA_12, gA_13, gA_14, gA_15, p1_0, p1_1, p1_2, p1_3, p1_4, p1_5, p1_6, p1_7, p1_8, p1_9, p1_10, p1_11, p1_12, p1_13, p1_14, p1_15, p2_0, p2_1, p2_2, p2_3, p2_4, p2_5, p2_6, p2_7, p2_8, p2_9, p2_10, p2_11, p2_12, p2_13, p2_14, p2_15, b01_ok, b_ft, b_tf, b01_e0, b01_e1, lgc_0, not_true_eq_false, not_false_eq_true, Nat.reduceSub, k7, i12, p12, snw_kd g7, le, ← y8]
  simp only [s2_34, s2_35, s2_37, s2_39, oB_some, cl2_i, cl2_r, cl2_l, cl2_u, cl2_s, wd_0, wd_i, wd_r, wd_l, wd_f, ct_i, ct_r, ct_n, ct_f, rf_s, rf_n, tl_s, tl_n, true_and, and_true, eq_self, and_self, Nat.reduceAdd, Nat.reduceLeDiff, Nat.zero_le, Nat.reduceEqDiff, or_true, true_or, false_or, or_false, if_true, if_false, gI_0, gI_1, gI_2, gI_3, gI_4, gI_5, gI_6, gI_7, gI_8, gI_9, gI_10, gI_11, gI_12, gI_13, gI_14, gI_15, gL_0, gL_1, gL_2, gL_3, gL_4, gL_5, gL_6, gL_7, gL_8, gL_9, gL_10, gL_11, gL_12, gL_13, gL_14, gL_15, gA_0, gA_1, gA_2, gA_3, gA_4, gA_5, gA_6, gA_7, gA_8, gA_9, gA_10, gA_11, gA_12, gA_13, gA_14, gA_15, p1_0, p1_1, p1_2, p1_3, p1_4, p1_5, p1_6, p1_7, p1_8, p1_9, p1_10, p1_11, p1_12, p1_13, p1_14, p1_15, p2_0, p2_1, p2_2, p2_3, p2_4, p2_5, p2_6, p2_7, p2_8, p2_9, p2_10, p2_11, p2_12, p2_13, p2_14, p2_15, b01_ok, b_ft, b_tf, b01_e0, b01_e1, lgc_0, not_true_eq_false, not_false_eq_true, Nat.reduceSub, k8, ix6, p6, snw_kd g8, le, ← y9]
  simp only [s2_42, s2_45, s2_46, s2_49, s2_50, s2_51, s2_52, oB_some, cl2_i, cl2_r, cl2_l, cl2_u, cl2_s, wd_0, wd_i, wd_r, wd_l, wd_f, ct_i, ct_r, ct_n, ct_f, rf_s, rf_n, tl_s, tl_n, true_and, and_true, eq_self, and_self, Nat.reduceAdd, Nat.reduceLeDiff, Nat.zero_le, Nat.reduceEqDiff, or_true, true_or, false_or, or_false, if_true, if_false, gI_0, gI_1, gI_2, gI_3, gI_4, gI_5, gI_6, gI_7, gI_8, gI_9, gI_10, gI_11, gI_12, gI_13, gI_14, gI_15, gL_0, gL_1, gL_2, gL_3, gL_4, gL_5, gL_6, gL_7, gL_8, gL_9, gL_10, gL_11, gL_12, gL_13, gL_14, gL_15, gA_0, gA_1, gA_2, gA_3, gA_4, gA_5, gA_6, gA_7, gA_8, gA_9, gA_10, gA_11, gA_12, gA_13, gA_14, gA_15, p1_0, p1_1, p1_2, p1_3, p1_4, p1_5, p1_6, p1_7, p1_8, p1_9, p1_10, p1_11, p1_12, p1_13, p1_14, p1_15, p2_0, p2_1, p2_2, p2_3, p2_4, p2_5, p2_6, p2_7, p2_8, p2_9, p2_10, p2_11, p2_12, p2_13, p2_14, p2_15, b01_ok, b_ft, b_tf, b01_e0, b01_e1, lgc_0, not_true_eq_false, not_false_eq_true, Nat.reduceSub, n9, v_vilInit k14 g14, ← yB, kB, ← yB2]
  simp only [s2_55, s2_56, s2_59, s2_60, s2_61, oB_some, cl2_i, cl2_r, cl2_l, cl2_u, cl2_s, wd_0, wd_i, wd_r, wd_l, wd_f, ct_i, ct_r, ct_n, ct_f, rf_s, rf_n, tl_s, tl_n, true_and, and_true, eq_self, and_self, Nat.reduceAdd, Nat.reduceLeDiff, Nat.zero_le, Nat.reduceEqDiff, or_true, true_or, false_or, or_false, if_true, if_false, gI_0, gI_1, gI_2, gI_3, gI_4, gI_5, gI_6, gI_7, gI_8, gI_9, gI_10, gI_11, gI_12, gI_13, gI_14, gI_15, gL_0, gL_1, gL_2, gL_3, gL_4, gL_5, gL_6, gL_7, gL_8, gL_9, gL_10, gL_11, gL_12, gL_13, gL_14, gL_15, gA_0, gA_1, gA_2, gA_3, gA_4, gA_5, gA_6, gA_7, gA_8, gA_9, gA_10, gA_11, gA_12, gA_13, gA_14, gA_15, p1_0, p1_1, p1_2, p1_3, p1_4, p1_5, p1_6, p1_7, p1_8, p1_9, p1_10, p1_11, p1_12, p1_13, p1_14, p1_15, p2_0, p2_1, p2_2, p2_3, p2_4, p2_5, p2_6, p2_7, p2_8, p2_9, p2_10, p2_11, p2_12, p2_13, p2_14, p2_15, b01_ok, b_ft, b_tf, b01_e0, b01_e1, lgc_0, not_true_eq_false, not_false_eq_true, Nat.reduceSub, nB2, ← yC1, kC1]
  refine ⟨q2, q5, k14, ?_⟩
  refine v_foreInit kC1 (by omega) nC1 fun hC3 hC4 hC5 hC6 hC7 eC3 eC4 eC5 eC6 eC7 => ?_
  obtain ⟨hD, yD⟩ : ∃ z, z = sR hC7 x 1 (some (x + 19)) := ⟨_, rfl⟩
  obtain ⟨z1, z2, z3, z4, z5⟩ := xq_new n9 F eB yB2 yC1 eC3 eC4 eC5 eC6 eC7 yD
  have kD : hkd hC7 x = 15 := by
    have := z2.1.1.1
    rw [yD] at this
    exact this
  simp only [s2_64, s2_67, oB_some, cl2_i, cl2_r, cl2_l, cl2_u, cl2_s, wd_0, wd_i, wd_r, wd_l, wd_f, ct_i, ct_r, ct_n, ct_f, rf_s, rf_n, tl_s, tl_n, true_and, and_true, eq_self, and_self, Nat.reduceAdd, Nat.reduceLeDiff, Nat.zero_le, Nat.reduceEqDiff, or_true, true_or, false_or, or_false, if_true, if_false, gI_0, gI_1, gI_2, gI_3, gI_4, gI_5, gI_6, gI_7, gI_8, gI_9, gI_10, gI_11, gI_12, gI_13, gI_14, gI_15, gL_0, gL_1, gL_2, gL_3, gL_4, gL_5, gL_6, gL_7, gL_8, gL_9, gL_10, gL_11, gL_12, gL_13, gL_14, gL_15, gA_0, gA_1, gA_2, gA_3, gA_4, gA_5, gA_6, gA_7, gA_8, gA_9, gA_10, gA_11, gA_12, gA_13, gA_14, gA_15, p1_0, p1_1, p1_2, p1_3, p1_4, p1_5, p1_6, p1_7, p1_8, p1_9, p1_10, p1_11, p1_12, p1_13, p1_14, p1_15, p2_0, p2_1, p2_2, p2_3, p2_4, p2_5, p2_6, p2_7, p2_8, p2_9, p2_10, p2_11, p2_12, p2_13, p2_14, p2_15, b01_ok, b_ft, b_tf, b01_e0, b01_e1, lgc_0, not_true_eq_false, not_false_eq_true, Nat.reduceSub, kD, ← yD]
  refine kk hD ⟨z1, z2, z5.trans f1, fun j => ?_, fun j hj i => ?_, fun b hb => ?_⟩
  · rw [(z3 (x + 2) (by omega) (by omega)).2.2.2.2]; exact f2 j
  · by_cases e0 : j = 0
    · subst e0
      rw [show x + 0 = x from rfl, z4]; exact f3 0 hj i
    · rw [(z3 (x + j) (by omega) (by omega)).2.2.1]; exact f3 j hj i
  · exact Eqc.tr (f4 b hb) (z3 b (by omega) (by omega))
