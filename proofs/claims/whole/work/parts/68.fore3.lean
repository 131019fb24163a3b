-- what would be, the one side, the rest
theorem nI_and (a b : Nat) : nI a &&& nI b = nI (a &&& b) := by
  apply Int32.toBitVec_inj.1
  show BitVec.ofNat 32 a &&& BitVec.ofNat 32 b = BitVec.ofNat 32 (a &&& b)
  exact BitVec.ofNat_and.symm
theorem nI_self (z : Int32) : nI z.toBitVec.toNat = z := by
  apply Int32.toBitVec_inj.1
  show BitVec.ofNat 32 z.toBitVec.toNat = z.toBitVec
  simp
theorem shlN : ∀ a, a < 2 → ∀ n, n < 6 → nI a <<< (nI n &&& 31) = nI (a * 2 ^ n) := by decide +kernel
theorem v_friendsRow_x : True := trivial
-- rows
def goR (r : Nat → Nat) (p : Nat) : Nat → Nat → VS → Bool
  | 0, _, _ => true
  | m + 1, i, T => if r i = nb (vw T p) then goR r p m (i + 1) (day1 0 false false T) else false
theorem goR_s (r : Nat → Nat) (p m i : Nat) (T : VS) : goR r p (m + 1) i T = if r i = nb (vw T p) then goR r p m (i + 1) (day1 0 false false T) else false := rfl
/-- a row of numbers -/
def RW (h : HP) (a : Nat) (r : Nat → Nat) (len : Nat) : Prop := hkd h a = 2 ∧ hln h a = 12 ∧ len ≤ 12 ∧ ∀ i, i < len → hI h a i = nI (r i) ∧ r i < 100
theorem RW.kept {h h' : HP} {a w n len : Nat} {r : Nat → Nat} (x : RW h a r len) (m : Fm w n h h') (hd : a < w ∨ w + n ≤ a) : RW h' a r len := by
  unfold RW
  rw [m.2.1, m.2.2.1, (m.1 a hd).1]
  exact x
set_option maxHeartbeats 8000000 in
theorem v_goesByRow {d : Nat} {Q : PQ} {h : HP} {f v w p a len : Nat} {r : Nat → Nat} {S T : VS} (x : FY h f v w S) (q : RV h w T) (g : Good T) (fv : FV h w 0 false false) (hy : vy T + 12 < 2 ^ 20) (hp : p < vn T) (rw_ : RW h a r len) (ha : a < w ∨ w + 12 ≤ a)
    (k : ∀ h', Fm w 12 h h' → Q (some (.int (b01 (goR r p len 0 T)))) h') : Ev (d + 6) 199 [.ref f, .int (nI p), .ref a, .int (nI len)] h Q := by
  have loop : ∀ (m i : Nat) (h1 : HP) (T1 : VS), i + m = len → Fm w 12 h h1 → RV h1 w T1 → Good T1 → FV h1 w 0 false false → vn T1 = vn T → vy T1 + m < 2 ^ 20 → goR r p m i T1 = goR r p len 0 T →
      WP (d + 5) 199 Q (3, [.val (.ref f), .val (.int (nI p)), .val (.ref a), .val (.int (nI len)), .val (.int (nI i))], [], h1, 0, 0) := by
    intro m
    induction m with
    | zero =>
      intro i h1 T1 hi m1 q1 g1 f1 n1 y1 e1
      have hin : i = len := by omega
      rw [hin, s199_3]
      simp only [s199_0, s199_1, s199_5, s199_6, s199_9, s199_11, s199_12, s199_13, s199_16, s199_17, s199_19, s199_20, s199_21, s199_24, s199_25, s199_28, s199_31, s199_34, s199_35, s199_36, s199_37, s199_40, s199_41, s199_44, s199_47, s199_50, s199_51, oB_some, cl2_i, cl2_r, cl2_l, cl2_u, cl2_s, wd_0, wd_i, wd_r, wd_l, wd_f, ct_i, ct_r, ct_n, ct_f, rf_s, rf_n, tl_s, tl_n, true_and, and_true, eq_self, and_self, Nat.reduceAdd, Nat.reduceLeDiff, Nat.zero_le, Nat.reduceEqDiff, or_true, true_or, false_or, or_false, if_true, if_false, gI_0, gI_1, gI_2, gI_3, gI_4, gI_5, gI_6, gI_7, gI_8, gI_9, gI_10, gI_11, gI_12, gI_13, gI_14, gI_15, gL_0, gL_1, gL_2, gL_3, gL_4, gL_5, gL_6, gL_7, gL_8, gL_9, gL_10, gL_11, gL_12, gL_13, gL_14, gL_15, gA_0, gA_1, gA_2, gA_3, gA_4, gA_5, gA_6, gA_7, gA_8, gA_9, gA_10, gA_11, gA_12, gA_13, gA_14, gA_15, p1_0, p1_1, p1_2, p1_3, p1_4, p1_5, p1_6, p1_7, p1_8, p1_9, p1_10, p1_11, p1_12, p1_13, p1_14, p1_15, p2_0, p2_1, p2_2, p2_3, p2_4, p2_5, p2_6, p2_7, p2_8, p2_9, p2_10, p2_11, p2_12, p2_13, p2_14, p2_15, b01_ok, b_ft, b_tf, b01_e0, b01_e1, lgc_0, not_true_eq_false, not_false_eq_true, Int32.le_refl]
      have kk := k h1 m1
      rw [← e1] at kk
      exact kk
    | succ m ih =>
      intro i h1 T1 hi m1 q1 g1 f1 n1 y1 e1
      have x1 := x.kept m1
      have x0 := x1.1
      have K1 := q1.k
      unfold VK at K1
      obtain ⟨w1, w2, w3, w4⟩ := rw_.kept m1 ha
      obtain ⟨w5, w6⟩ := w4 i (by omega)
      have gn := g1.n
      have p6 : p < 6 := by omega
      have p31 : p < 2 ^ 31 := by omega
      have i31 : i < 2 ^ 31 := by omega
      have i12 : i < 12 := by omega
      have z : ¬ nI len ≤ nI i := nI_ge (by omega) (by omega)
      have z2 : ¬ Int32.ofNat 12 ≤ nI i := nI_ge (b := 12) (by omega) (by decide)
      have lb := nb_le (vw T1 p)
      have gp := (g1.at (show p < vn T1 by omega)).2.2.2.1
      rw [goR_s] at e1
      rw [s199_3]
      simp only [s199_0, s199_1, s199_5, s199_6, s199_9, s199_11, s199_12, s199_13, s199_16, s199_17, s199_19, s199_20, s199_21, s199_24, s199_25, s199_28, s199_31, s199_34, s199_35, s199_36, s199_37, s199_40, s199_41, s199_44, s199_47, s199_50, s199_51, oB_some, cl2_i, cl2_r, cl2_l, cl2_u, cl2_s, wd_0, wd_i, wd_r, wd_l, wd_f, ct_i, ct_r, ct_n, ct_f, rf_s, rf_n, tl_s, tl_n, true_and, and_true, eq_self, and_self, Nat.reduceAdd, Nat.reduceLeDiff, Nat.zero_le, Nat.reduceEqDiff, or_true, true_or, false_or, or_false, if_true, if_false, gI_0, gI_1, gI_2, gI_3, gI_4, gI_5, gI_6, gI_7, gI_8, gI_9, gI_10, gI_11, gI_12, gI_13, gI_14, gI_15, gL_0, gL_1, gL_2, gL_3, gL_4, gL_5, gL_6, gL_7, gL_8, gL_9, gL_10, gL_11, gL_12, gL_13, gL_14, gL_15, gA_0, gA_1, gA_2, gA_3, gA_4, gA_5, gA_6, gA_7, gA_8, gA_9, gA_10, gA_11, gA_12, gA_13, gA_14, gA_15, p1_0, p1_1, p1_2, p1_3, p1_4, p1_5, p1_6, p1_7, p1_8, p1_9, p1_10, p1_11, p1_12, p1_13, p1_14, p1_15, p2_0, p2_1, p2_2, p2_3, p2_4, p2_5, p2_6, p2_7, p2_8, p2_9, p2_10, p2_11, p2_12, p2_13, p2_14, p2_15, b01_ok, b_ft, b_tf, b01_e0, b01_e1, lgc_0, not_true_eq_false, not_false_eq_true, x0, K1, w1, w2, z, z2, w5, ix_nI i31, nI_pos' i31, i12, v_knownBy q1 g1 (show p < vn T1 by omega), v_bitCount gp, eqP (show r i < 2 ^ 31 by omega) (show nb (vw T1 p) < 2 ^ 31 by omega)]
      by_cases e : r i = nb (vw T1 p)
      · rw [if_pos e]
        rw [if_pos e] at e1
        refine v_passDays (n := 1) q1 g1 f1 (by decide) (by omega) fun h2 m2 q2 f2 => ?_
        have k1 := day1_keep (ink := 0) (dm := false) (sh := false) g1 (by omega)
        simp only [s199_0, s199_1, s199_5, s199_6, s199_9, s199_11, s199_12, s199_13, s199_16, s199_17, s199_19, s199_20, s199_21, s199_24, s199_25, s199_28, s199_31, s199_34, s199_35, s199_36, s199_37, s199_40, s199_41, s199_44, s199_47, s199_50, s199_51, oB_some, cl2_i, cl2_r, cl2_l, cl2_u, cl2_s, wd_0, wd_i, wd_r, wd_l, wd_f, ct_i, ct_r, ct_n, ct_f, rf_s, rf_n, tl_s, tl_n, true_and, and_true, eq_self, and_self, Nat.reduceAdd, Nat.reduceLeDiff, Nat.zero_le, Nat.reduceEqDiff, or_true, true_or, false_or, or_false, if_true, if_false, gI_0, gI_1, gI_2, gI_3, gI_4, gI_5, gI_6, gI_7, gI_8, gI_9, gI_10, gI_11, gI_12, gI_13, gI_14, gI_15, gL_0, gL_1, gL_2, gL_3, gL_4, gL_5, gL_6, gL_7, gL_8, gL_9, gL_10, gL_11, gL_12, gL_13, gL_14, gL_15, gA_0, gA_1, gA_2, gA_3, gA_4, gA_5, gA_6, gA_7, gA_8, gA_9, gA_10, gA_11, gA_12, gA_13, gA_14, gA_15, p1_0, p1_1, p1_2, p1_3, p1_4, p1_5, p1_6, p1_7, p1_8, p1_9, p1_10, p1_11, p1_12, p1_13, p1_14, p1_15, p2_0, p2_1, p2_2, p2_3, p2_4, p2_5, p2_6, p2_7, p2_8, p2_9, p2_10, p2_11, p2_12, p2_13, p2_14, p2_15, b01_ok, b_ft, b_tf, b01_e0, b01_e1, lgc_0, not_true_eq_false, not_false_eq_true, nI_1]
        exact ih (i + 1) h2 _ (by omega) (m1.tr m2) q2 k1.1 f2 (k1.2.1.trans n1) (by rw [dayN_1, k1.2.2]; omega) e1
      · rw [if_neg e]
        rw [if_neg e] at e1
        have kk := k h1 m1
        rw [← e1] at kk
        exact kk
  simp only [e199, s199_0, s199_1, oB_some, cl2_i, cl2_r, cl2_l, cl2_u, cl2_s, wd_0, wd_i, wd_r, wd_l, wd_f, ct_i, ct_r, ct_n, ct_f, rf_s, rf_n, tl_s, tl_n, true_and, and_true, eq_self, and_self, Nat.reduceAdd, Nat.reduceLeDiff, Nat.zero_le, Nat.reduceEqDiff, or_true, true_or, false_or, or_false, if_true, if_false, gI_0, gI_1, gI_2, gI_3, gI_4, gI_5, gI_6, gI_7, gI_8, gI_9, gI_10, gI_11, gI_12, gI_13, gI_14, gI_15, gL_0, gL_1, gL_2, gL_3, gL_4, gL_5, gL_6, gL_7, gL_8, gL_9, gL_10, gL_11, gL_12, gL_13, gL_14, gL_15, gA_0, gA_1, gA_2, gA_3, gA_4, gA_5, gA_6, gA_7, gA_8, gA_9, gA_10, gA_11, gA_12, gA_13, gA_14, gA_15, p1_0, p1_1, p1_2, p1_3, p1_4, p1_5, p1_6, p1_7, p1_8, p1_9, p1_10, p1_11, p1_12, p1_13, p1_14, p1_15, p2_0, p2_1, p2_2, p2_3, p2_4, p2_5, p2_6, p2_7, p2_8, p2_9, p2_10, p2_11, p2_12, p2_13, p2_14, p2_15, b01_ok, b_ft, b_tf, b01_e0, b01_e1, lgc_0, not_true_eq_false, not_false_eq_true]
  exact loop len 0 h T (by omega) Fm.rf q g fv rfl (by have := rw_.2.2.1; omega) rfl
set_option maxHeartbeats 8000000 in
theorem v_friendsByRow {d : Nat} {Q : PQ} {h : HP} {f v w p t a len : Nat} {r : Nat → Nat} {S : VS} (x : FY h f v w S) (g : Good S) (hy : vy S + 12 < 2 ^ 20) (hp : p < vn S) (ht : t < vn S) (rw_ : RW h a r len) (ha : a < w ∨ w + 12 ≤ a)
    (k : ∀ h', Fm w 12 h h' → Q (some (.int (nI (bitN (fun f => goR r p len 0 (wR S t f)) 6)))) h') : Ev (d + 7) 198 [.ref f, .int (nI p), .int (nI t), .ref a, .int (nI len)] h Q := by
  have gn := g.n
  have t6 : t < 6 := by omega
  have t31 : t < 2 ^ 31 := by omega
  have loop : ∀ (m j : Nat) (h1 : HP), j + m = 6 → Fm w 12 h h1 →
      WP (d + 6) 198 Q (6, [.val (.ref f), .val (.int (nI p)), .val (.int (nI t)), .val (.ref a), .val (.int (nI len)), .val (.int (nI (bitN (fun f => goR r p len 0 (wR S t f)) j))), .val (.int (nI j))], [], h1, 0, 0) := by
    intro m
    induction m with
    | zero =>
      intro j h1 hj m1
      obtain rfl : j = 6 := by omega
      rw [s198_6]
      simp only [s198_0, s198_1, s198_3, s198_4, s198_8, s198_9, s198_12, s198_13, s198_16, s198_17, s198_18, s198_21, s198_24, s198_25, s198_27, s198_28, s198_29, s198_30, s198_31, s198_33, s198_36, s198_39, s198_41, s198_42, s198_44, s198_45, s198_46, s198_48, s198_51, s198_54, s198_56, oB_some, cl2_i, cl2_r, cl2_l, cl2_u, cl2_s, wd_0, wd_i, wd_r, wd_l, wd_f, ct_i, ct_r, ct_n, ct_f, rf_s, rf_n, tl_s, tl_n, true_and, and_true, eq_self, and_self, Nat.reduceAdd, Nat.reduceLeDiff, Nat.zero_le, Nat.reduceEqDiff, or_true, true_or, false_or, or_false, if_true, if_false, gI_0, gI_1, gI_2, gI_3, gI_4, gI_5, gI_6, gI_7, gI_8, gI_9, gI_10, gI_11, gI_12, gI_13, gI_14, gI_15, gL_0, gL_1, gL_2, gL_3, gL_4, gL_5, gL_6, gL_7, gL_8, gL_9, gL_10, gL_11, gL_12, gL_13, gL_14, gL_15, gA_0, gA_1, gA_2, gA_3, gA_4, gA_5, gA_6, gA_7, gA_8, gA_9, gA_10, gA_11, gA_12, gA_13, gA_14, gA_15, p1_0, p1_1, p1_2, p1_3, p1_4, p1_5, p1_6, p1_7, p1_8, p1_9, p1_10, p1_11, p1_12, p1_13, p1_14, p1_15, p2_0, p2_1, p2_2, p2_3, p2_4, p2_5, p2_6, p2_7, p2_8, p2_9, p2_10, p2_11, p2_12, p2_13, p2_14, p2_15, b01_ok, b_ft, b_tf, b01_e0, b01_e1, lgc_0, not_true_eq_false, not_false_eq_true]
      rw [if_pos (by decide)]
      exact k h1 m1
    | succ m ih =>
      intro j h1 hj m1
      have x1 := x.kept m1
      have x0 := x1.1
      have z : ¬ (5 : Int32) < nI j := nI_nlt (a := 5) (by omega) (by decide)
      have i1 := fun h2 m2 => ih (j + 1) h2 (by omega) m2
      rw [bitN_s] at i1
      rw [s198_6]
      simp only [s198_8, s198_9, s198_12, s198_13, oB_some, cl2_i, cl2_r, cl2_l, cl2_u, cl2_s, wd_0, wd_i, wd_r, wd_l, wd_f, ct_i, ct_r, ct_n, ct_f, rf_s, rf_n, tl_s, tl_n, true_and, and_true, eq_self, and_self, Nat.reduceAdd, Nat.reduceLeDiff, Nat.zero_le, Nat.reduceEqDiff, or_true, true_or, false_or, or_false, if_true, if_false, gI_0, gI_1, gI_2, gI_3, gI_4, gI_5, gI_6, gI_7, gI_8, gI_9, gI_10, gI_11, gI_12, gI_13, gI_14, gI_15, gL_0, gL_1, gL_2, gL_3, gL_4, gL_5, gL_6, gL_7, gL_8, gL_9, gL_10, gL_11, gL_12, gL_13, gL_14, gL_15, gA_0, gA_1, gA_2, gA_3, gA_4, gA_5, gA_6, gA_7, gA_8, gA_9, gA_10, gA_11, gA_12, gA_13, gA_14, gA_15, p1_0, p1_1, p1_2, p1_3, p1_4, p1_5, p1_6, p1_7, p1_8, p1_9, p1_10, p1_11, p1_12, p1_13, p1_14, p1_15, p2_0, p2_1, p2_2, p2_3, p2_4, p2_5, p2_6, p2_7, p2_8, p2_9, p2_10, p2_11, p2_12, p2_13, p2_14, p2_15, b01_ok, b_ft, b_tf, b01_e0, b01_e1, lgc_0, not_true_eq_false, not_false_eq_true, x0, z]
      refine v_asItIs x1 g fun h2 m2 q2 f2 => ?_
      have x2 := x1.kept m2
      have x20 := x2.1
      have K2 := q2.k
      unfold VK at K2
      have q3 := RV_r q2 t j
      have m3 : Fm w 12 h2 (sI h2 (w + 3) t (nI j)) := Fm.rf.sI (by omega) (by omega)
      have f3 : FV (sI h2 (w + 3) t (nI j)) w 0 false false := f2.sI (Or.inl (by omega))
      have x3 := x2.kept m3
      have g3 : Good (wR S t j) := g.wR (by omega)
      simp only [s198_16, s198_17, s198_18, s198_21, s198_24, s198_25, s198_27, s198_28, s198_29, s198_30, s198_31, s198_33, oB_some, cl2_i, cl2_r, cl2_l, cl2_u, cl2_s, wd_0, wd_i, wd_r, wd_l, wd_f, ct_i, ct_r, ct_n, ct_f, rf_s, rf_n, tl_s, tl_n, true_and, and_true, eq_self, and_self, Nat.reduceAdd, Nat.reduceLeDiff, Nat.zero_le, Nat.reduceEqDiff, or_true, true_or, false_or, or_false, if_true, if_false, gI_0, gI_1, gI_2, gI_3, gI_4, gI_5, gI_6, gI_7, gI_8, gI_9, gI_10, gI_11, gI_12, gI_13, gI_14, gI_15, gL_0, gL_1, gL_2, gL_3, gL_4, gL_5, gL_6, gL_7, gL_8, gL_9, gL_10, gL_11, gL_12, gL_13, gL_14, gL_15, gA_0, gA_1, gA_2, gA_3, gA_4, gA_5, gA_6, gA_7, gA_8, gA_9, gA_10, gA_11, gA_12, gA_13, gA_14, gA_15, p1_0, p1_1, p1_2, p1_3, p1_4, p1_5, p1_6, p1_7, p1_8, p1_9, p1_10, p1_11, p1_12, p1_13, p1_14, p1_15, p2_0, p2_1, p2_2, p2_3, p2_4, p2_5, p2_6, p2_7, p2_8, p2_9, p2_10, p2_11, p2_12, p2_13, p2_14, p2_15, b01_ok, b_ft, b_tf, b01_e0, b01_e1, lgc_0, not_true_eq_false, not_false_eq_true, z_hkd_sI, z_hln_sI, z_hL_sI, z_hR_sI, z_hnx_sI, z_hkd_sL, z_hln_sL, z_hI_sL, z_hR_sL, z_hnx_sL, z_hkd_sR, z_hln_sR, z_hI_sR, z_hL_sR, z_hnx_sR, z_hkd_cI, z_hln_cI, z_hL_cI, z_hR_cI, z_hnx_cI, z_hkd_cLg, z_hln_cLg, z_hI_cLg, z_hR_cLg, z_hnx_cLg, x20, K2, ix_nI t31, nI_pos' t31, t6]
      refine v_goesByRow x3 q3 g3 f3 hy hp (((rw_.kept m1 ha).kept m2 ha).kept m3 ha) ha fun h4 m4 => ?_
      have mm := m1.tr (m2.tr (m3.tr m4))
      simp only [s198_36, s198_39, s198_41, s198_42, s198_44, s198_45, s198_46, s198_48, s198_51, oB_some, cl2_i, cl2_r, cl2_l, cl2_u, cl2_s, wd_0, wd_i, wd_r, wd_l, wd_f, ct_i, ct_r, ct_n, ct_f, rf_s, rf_n, tl_s, tl_n, true_and, and_true, eq_self, and_self, Nat.reduceAdd, Nat.reduceLeDiff, Nat.zero_le, Nat.reduceEqDiff, or_true, true_or, false_or, or_false, if_true, if_false, gI_0, gI_1, gI_2, gI_3, gI_4, gI_5, gI_6, gI_7, gI_8, gI_9, gI_10, gI_11, gI_12, gI_13, gI_14, gI_15, gL_0, gL_1, gL_2, gL_3, gL_4, gL_5, gL_6, gL_7, gL_8, gL_9, gL_10, gL_11, gL_12, gL_13, gL_14, gL_15, gA_0, gA_1, gA_2, gA_3, gA_4, gA_5, gA_6, gA_7, gA_8, gA_9, gA_10, gA_11, gA_12, gA_13, gA_14, gA_15, p1_0, p1_1, p1_2, p1_3, p1_4, p1_5, p1_6, p1_7, p1_8, p1_9, p1_10, p1_11, p1_12, p1_13, p1_14, p1_15, p2_0, p2_1, p2_2, p2_3, p2_4, p2_5, p2_6, p2_7, p2_8, p2_9, p2_10, p2_11, p2_12, p2_13, p2_14, p2_15, b01_ok, b_ft, b_tf, b01_e0, b01_e1, lgc_0, not_true_eq_false, not_false_eq_true, shl1 j (by omega), nI_or, nI_1]
      by_cases e : goR r p len 0 (wR S t j) = true
      · rw [if_neg (by rw [e]; decide)]
        rw [if_pos e] at i1
        exact i1 h4 mm
      · rw [if_pos (by simpa using e)]
        rw [if_neg e] at i1
        exact i1 h4 mm
  simp only [e198, s198_0, s198_1, s198_3, s198_4, oB_some, cl2_i, cl2_r, cl2_l, cl2_u, cl2_s, wd_0, wd_i, wd_r, wd_l, wd_f, ct_i, ct_r, ct_n, ct_f, rf_s, rf_n, tl_s, tl_n, true_and, and_true, eq_self, and_self, Nat.reduceAdd, Nat.reduceLeDiff, Nat.zero_le, Nat.reduceEqDiff, or_true, true_or, false_or, or_false, if_true, if_false, gI_0, gI_1, gI_2, gI_3, gI_4, gI_5, gI_6, gI_7, gI_8, gI_9, gI_10, gI_11, gI_12, gI_13, gI_14, gI_15, gL_0, gL_1, gL_2, gL_3, gL_4, gL_5, gL_6, gL_7, gL_8, gL_9, gL_10, gL_11, gL_12, gL_13, gL_14, gL_15, gA_0, gA_1, gA_2, gA_3, gA_4, gA_5, gA_6, gA_7, gA_8, gA_9, gA_10, gA_11, gA_12, gA_13, gA_14, gA_15, p1_0, p1_1, p1_2, p1_3, p1_4, p1_5, p1_6, p1_7, p1_8, p1_9, p1_10, p1_11, p1_12, p1_13, p1_14, p1_15, p2_0, p2_1, p2_2, p2_3, p2_4, p2_5, p2_6, p2_7, p2_8, p2_9, p2_10, p2_11, p2_12, p2_13, p2_14, p2_15, b01_ok, b_ft, b_tf, b01_e0, b01_e1, lgc_0, not_true_eq_false, not_false_eq_true]
  exact loop 6 0 h (by omega) Fm.rf
-- two
def gnI (S T : VS) (p : Nat) : Int32 := (if vr S p < vn S then nI (nb (vw T (vr S p))) else 0) - nI (nb (vw S p &&& vs T))
set_option maxHeartbeats 8000000 in
theorem v_gain {d : Nat} {Q : PQ} {h : HP} {f v w p : Nat} {S T : VS} (x : FY h f v w S) (g : Good S) (q : RV h w T) (gt : Good T) (hn : vn T = vn S) (hp : p < vn S) : Ev (d + 3) 205 [.ref f, .int (nI p)] h Q = Q (some (.int (gnI S T p))) h := by
  have gn := g.n
  have x0 := x.1
  have qv := x.2.2.1
  have Kv := qv.k
  have Kw := q.k
  unfold VK at Kv Kw
  have p6 : p < 6 := by omega
  have p31 : p < 2 ^ 31 := by omega
  obtain ⟨a1, a2, a3, a4, a5⟩ := qv.at hp
  obtain ⟨g1, g2, g3, g4, g5⟩ := g.at hp
  have r31 : vr S p < 2 ^ 31 := by omega
  have sa : sm (vw S p &&& vs T) := sm_and g4
  unfold gnI
  by_cases e : vr S p < vn S
  · rw [if_pos e]
    have rn : vr S p < vn T := by omega
    have e1 : ¬ decide (vr S p < vn S) = false := by rw [decide_eq_true e]; decide
    simp only [e205, s205_0, s205_1, s205_4, s205_7, s205_8, s205_9, s205_10, s205_11, s205_14, s205_15, s205_18, s205_21, s205_22, s205_25, s205_26, s205_29, s205_32, s205_35, s205_36, s205_37, s205_38, s205_39, s205_42, s205_43, s205_46, s205_47, s205_50, s205_53, s205_54, s205_57, s205_58, oB_some, cl2_i, cl2_r, cl2_l, cl2_u, cl2_s, wd_0, wd_i, wd_r, wd_l, wd_f, ct_i, ct_r, ct_n, ct_f, rf_s, rf_n, tl_s, tl_n, true_and, and_true, eq_self, and_self, Nat.reduceAdd, Nat.reduceLeDiff, Nat.zero_le, Nat.reduceEqDiff, or_true, true_or, false_or, or_false, if_true, if_false, gI_0, gI_1, gI_2, gI_3, gI_4, gI_5, gI_6, gI_7, gI_8, gI_9, gI_10, gI_11, gI_12, gI_13, gI_14, gI_15, gL_0, gL_1, gL_2, gL_3, gL_4, gL_5, gL_6, gL_7, gL_8, gL_9, gL_10, gL_11, gL_12, gL_13, gL_14, gL_15, gA_0, gA_1, gA_2, gA_3, gA_4, gA_5, gA_6, gA_7, gA_8, gA_9, gA_10, gA_11, gA_12, gA_13, gA_14, gA_15, p1_0, p1_1, p1_2, p1_3, p1_4, p1_5, p1_6, p1_7, p1_8, p1_9, p1_10, p1_11, p1_12, p1_13, p1_14, p1_15, p2_0, p2_1, p2_2, p2_3, p2_4, p2_5, p2_6, p2_7, p2_8, p2_9, p2_10, p2_11, p2_12, p2_13, p2_14, p2_15, b01_ok, b_ft, b_tf, b01_e0, b01_e1, lgc_0, not_true_eq_false, not_false_eq_true, x0, Kv, Kw, a3, v_knownBy qv g hp, q.s, ix_nI p31, nI_pos' p31, p6, v_hasPerson qv g r31, e1, Bool.true_eq_false, v_knownBy q gt rn, v_bitCount (gt.at rn).2.2.2.1, v_bitCount sa]
  · rw [if_neg e]
    simp only [e205, s205_0, s205_1, s205_4, s205_7, s205_8, s205_9, s205_10, s205_11, s205_14, s205_15, s205_18, s205_21, s205_22, s205_25, s205_26, s205_29, s205_32, s205_35, s205_36, s205_37, s205_38, s205_39, s205_42, s205_43, s205_46, s205_47, s205_50, s205_53, s205_54, s205_57, s205_58, oB_some, cl2_i, cl2_r, cl2_l, cl2_u, cl2_s, wd_0, wd_i, wd_r, wd_l, wd_f, ct_i, ct_r, ct_n, ct_f, rf_s, rf_n, tl_s, tl_n, true_and, and_true, eq_self, and_self, Nat.reduceAdd, Nat.reduceLeDiff, Nat.zero_le, Nat.reduceEqDiff, or_true, true_or, false_or, or_false, if_true, if_false, gI_0, gI_1, gI_2, gI_3, gI_4, gI_5, gI_6, gI_7, gI_8, gI_9, gI_10, gI_11, gI_12, gI_13, gI_14, gI_15, gL_0, gL_1, gL_2, gL_3, gL_4, gL_5, gL_6, gL_7, gL_8, gL_9, gL_10, gL_11, gL_12, gL_13, gL_14, gL_15, gA_0, gA_1, gA_2, gA_3, gA_4, gA_5, gA_6, gA_7, gA_8, gA_9, gA_10, gA_11, gA_12, gA_13, gA_14, gA_15, p1_0, p1_1, p1_2, p1_3, p1_4, p1_5, p1_6, p1_7, p1_8, p1_9, p1_10, p1_11, p1_12, p1_13, p1_14, p1_15, p2_0, p2_1, p2_2, p2_3, p2_4, p2_5, p2_6, p2_7, p2_8, p2_9, p2_10, p2_11, p2_12, p2_13, p2_14, p2_15, b01_ok, b_ft, b_tf, b01_e0, b01_e1, lgc_0, not_true_eq_false, not_false_eq_true, x0, Kv, Kw, a3, v_knownBy qv g hp, q.s, ix_nI p31, nI_pos' p31, p6, v_hasPerson qv g r31, decide_eq_false e, v_bitCount sa]
def inkset (a b c : Nat) : Nat := c / 2 * 2 ^ a ||| c % 2 * 2 ^ b
theorem inkset_lt {a b c : Nat} (ha : a < 6) (hb : b < 6) (hc : c < 4) : inkset a b c < 64 := by
  have h1 : 2 ^ a ≤ 2 ^ 5 := Nat.pow_le_pow_right (show 0 < 2 by decide) (show a ≤ 5 by omega)
  have h2 : 2 ^ b ≤ 2 ^ 5 := Nat.pow_le_pow_right (show 0 < 2 by decide) (show b ≤ 5 by omega)
  have h3 : c / 2 * 2 ^ a ≤ 1 * 32 := Nat.mul_le_mul (by omega) h1
  have h4 : c % 2 * 2 ^ b ≤ 1 * 32 := Nat.mul_le_mul (by omega) h2
  exact Nat.or_lt_two_pow (n := 6) (by omega) (by omega)
def twoF (G1 G2 : Nat → Int32) (c : Nat) : Bool := decide (G1 (c ^^^ 2) ≤ G1 c ∧ G2 (c ^^^ 1) ≤ G2 c)
def twoN (S : VS) (a b n : Nat) : Option Nat := (findA (twoF (fun c => gnI S (dayN (inkset a b c) false false n S) a) (fun c => gnI S (dayN (inkset a b c) false false n S) b)) 4 0).map (fun c => c / 2 * 10 + c % 2)
def FYe (h : HP) (f w : Nat) : Prop := hR h f 2 = some (w + 12) ∧ hR h f 3 = some (w + 13) ∧ hkd h (w + 12) = 2 ∧ hkd h (w + 13) = 2 ∧ hln h (w + 12) = 4 ∧ hln h (w + 13) = 4
theorem FYe.kept {h h' : HP} {f w a n : Nat} (x : FYe h f w) (m : Fm a n h h') : FYe h' f w := by
  unfold FYe
  rw [m.2.1, m.2.2.1, m.2.2.2.1]
  exact x
theorem c4x : ∀ c, c < 4 → nI c ^^^ 2 = nI (c ^^^ 2) ∧ nI c ^^^ 1 = nI (c ^^^ 1) ∧ c ^^^ 2 < 4 ∧ c ^^^ 1 < 4 ∧ nI c / 2 = nI (c / 2) ∧ nI c - nI (c / 2) * 2 = nI (c % 2) ∧ nI (c / 2) * 10 = nI (c / 2 * 10) := by decide +kernel
theorem FY.kept14 {h h' : HP} {f v w : Nat} {S : VS} (a : FY h f v w S) (m : Fm w 14 h h') (hd : v + 12 ≤ w ∨ w + 14 ≤ v) : FY h' f v w S := by
  obtain ⟨a1, a2, a3, a4⟩ := a
  refine ⟨?_, a2.kept m.2.1 m.2.2.1 m.2.2.2.1, a3.kept m (by omega), a4⟩
  rw [m.2.1, m.2.2.2.1]
  exact a1
set_option maxHeartbeats 8000000 in
theorem v_settledPair {d : Nat} {Q : PQ} {h : HP} {f v w a b n : Nat} {S : VS} (x : FY h f v w S) (xe : FYe h f w) (hd : v + 12 ≤ w ∨ w + 14 ≤ v) (g : Good S) (hn : vy S + n < 2 ^ 20) (ha : a < vn S) (hb : b < vn S)
    (k : ∀ h', Fm w 14 h h' → Q (some (.int (oN (twoN S a b n)))) h') : Ev (d + 7) 204 [.ref f, .int (nI a), .int (nI b), .int (nI n)] h Q := by
  have gn := g.n
  have sec : ∀ (G1 G2 : Nat → Int32) (m c : Nat) (h1 : HP) (y y2 : Slot), c + m = 4 → Fm w 14 h h1 → (∀ j, j < 4 → hI h1 (w + 12) j = G1 j ∧ hI h1 (w + 13) j = G2 j) →
      (∀ o, findA (twoF G1 G2) m c = o → Q (some (.int (oN (o.map (fun c => c / 2 * 10 + c % 2))))) h1) →
      WP (d + 6) 204 Q (60, [.val (.ref f), .val (.int (nI a)), .val (.int (nI b)), .val (.int (nI n)), .val (.int (nI c)), y, y2], [], h1, 0, 0) := by
    intro G1 G2 m
    induction m with
    | zero =>
      intro c h1 y y2 hc m1 hG kk
      obtain rfl : c = 4 := by omega
      rw [s204_60]
      simp only [s204_62, s204_63, s204_66, s204_68, s204_69, s204_70, s204_72, s204_74, s204_75, s204_76, s204_78, s204_79, s204_82, s204_84, s204_85, s204_86, s204_89, s204_91, s204_92, s204_95, s204_96, s204_99, s204_101, s204_102, s204_103, s204_106, s204_108, s204_109, s204_112, s204_114, s204_115, s204_116, s204_118, s204_119, s204_121, s204_122, s204_123, s204_124, s204_125, s204_128, s204_131, s204_133, oB_some, cl2_i, cl2_r, cl2_l, cl2_u, cl2_s, wd_0, wd_i, wd_r, wd_l, wd_f, ct_i, ct_r, ct_n, ct_f, rf_s, rf_n, tl_s, tl_n, true_and, and_true, eq_self, and_self, Nat.reduceAdd, Nat.reduceLeDiff, Nat.zero_le, Nat.reduceEqDiff, or_true, true_or, false_or, or_false, if_true, if_false, gI_0, gI_1, gI_2, gI_3, gI_4, gI_5, gI_6, gI_7, gI_8, gI_9, gI_10, gI_11, gI_12, gI_13, gI_14, gI_15, gL_0, gL_1, gL_2, gL_3, gL_4, gL_5, gL_6, gL_7, gL_8, gL_9, gL_10, gL_11, gL_12, gL_13, gL_14, gL_15, gA_0, gA_1, gA_2, gA_3, gA_4, gA_5, gA_6, gA_7, gA_8, gA_9, gA_10, gA_11, gA_12, gA_13, gA_14, gA_15, p1_0, p1_1, p1_2, p1_3, p1_4, p1_5, p1_6, p1_7, p1_8, p1_9, p1_10, p1_11, p1_12, p1_13, p1_14, p1_15, p2_0, p2_1, p2_2, p2_3, p2_4, p2_5, p2_6, p2_7, p2_8, p2_9, p2_10, p2_11, p2_12, p2_13, p2_14, p2_15, b01_ok, b_ft, b_tf, b01_e0, b01_e1, lgc_0, not_true_eq_false, not_false_eq_true]
      rw [if_pos (by decide)]
      exact kk none rfl
    | succ m ih =>
      intro c h1 y y2 hc m1 hG kk
      have x0 := (x.kept14 m1 hd).1
      obtain ⟨e1, e2, e3, e4, e5, e6⟩ := xe.kept m1
      obtain ⟨c1, c2, c3, c4, c5, c6, c7⟩ := c4x c (by omega)
      have z : ¬ (4 : Int32) ≤ nI c := nI_ge (b := 4) (by omega) (by decide)
      have c31 : c < 2 ^ 31 := by omega
      have c44 : c < 4 := by omega
      have d31 : c ^^^ 2 < 2 ^ 31 := by omega
      have f31 : c ^^^ 1 < 2 ^ 31 := by omega
      rw [s204_60]
      simp only [s204_62, s204_63, s204_66, s204_68, s204_69, s204_70, s204_72, s204_74, s204_75, s204_76, s204_78, s204_79, s204_82, s204_84, s204_85, s204_86, s204_89, s204_91, s204_92, s204_95, s204_96, s204_99, s204_101, s204_102, s204_103, s204_106, s204_108, s204_109, s204_112, s204_114, s204_115, s204_116, s204_118, s204_119, s204_121, s204_122, s204_123, s204_124, s204_125, s204_128, s204_131, s204_133, oB_some, cl2_i, cl2_r, cl2_l, cl2_u, cl2_s, wd_0, wd_i, wd_r, wd_l, wd_f, ct_i, ct_r, ct_n, ct_f, rf_s, rf_n, tl_s, tl_n, true_and, and_true, eq_self, and_self, Nat.reduceAdd, Nat.reduceLeDiff, Nat.zero_le, Nat.reduceEqDiff, or_true, true_or, false_or, or_false, if_true, if_false, gI_0, gI_1, gI_2, gI_3, gI_4, gI_5, gI_6, gI_7, gI_8, gI_9, gI_10, gI_11, gI_12, gI_13, gI_14, gI_15, gL_0, gL_1, gL_2, gL_3, gL_4, gL_5, gL_6, gL_7, gL_8, gL_9, gL_10, gL_11, gL_12, gL_13, gL_14, gL_15, gA_0, gA_1, gA_2, gA_3, gA_4, gA_5, gA_6, gA_7, gA_8, gA_9, gA_10, gA_11, gA_12, gA_13, gA_14, gA_15, p1_0, p1_1, p1_2, p1_3, p1_4, p1_5, p1_6, p1_7, p1_8, p1_9, p1_10, p1_11, p1_12, p1_13, p1_14, p1_15, p2_0, p2_1, p2_2, p2_3, p2_4, p2_5, p2_6, p2_7, p2_8, p2_9, p2_10, p2_11, p2_12, p2_13, p2_14, p2_15, b01_ok, b_ft, b_tf, b01_e0, b01_e1, lgc_0, not_true_eq_false, not_false_eq_true, x0, e1, e2, e3, e4, e5, e6, z, c1, c2, c5, c6, c7, n2_0, ix_nI c31, nI_pos' c31, c44, ix_nI d31, nI_pos' d31, c3, ix_nI f31, nI_pos' f31, c4, (hG c c44).1, (hG c c44).2, (hG _ c3).1, (hG _ c4).2, nI_add, nI_1, not_false_eq_true]
      rw [findA_s] at kk
      by_cases z1 : G1 c < G1 (c ^^^ 2)
      · rw [if_pos z1]
        rw [if_neg (by unfold twoF; rw [decide_eq_false (fun q => Int32.not_le.mpr z1 q.1)]; decide)] at kk
        exact ih (c + 1) h1 _ _ (by omega) m1 hG kk
      · rw [if_neg z1]
        by_cases z2 : G2 c < G2 (c ^^^ 1)
        · rw [if_pos z2]
          rw [if_neg (by unfold twoF; rw [decide_eq_false (fun q => Int32.not_le.mpr z2 q.2)]; decide)] at kk
          exact ih (c + 1) h1 _ _ (by omega) m1 hG kk
        · rw [if_neg z2]
          exact kk (some c) (by rw [if_pos (by unfold twoF; exact decide_eq_true ⟨Int32.not_lt.mp z1, Int32.not_lt.mp z2⟩)])
  have loop : ∀ (m c : Nat) (h1 : HP) (y y2 : Slot), c + m = 4 → Fm w 14 h h1 → (∀ j, j < c → hI h1 (w + 12) j = gnI S (dayN (inkset a b j) false false n S) a ∧ hI h1 (w + 13) j = gnI S (dayN (inkset a b j) false false n S) b) →
      WP (d + 6) 204 Q (3, [.val (.ref f), .val (.int (nI a)), .val (.int (nI b)), .val (.int (nI n)), .val (.int (nI c)), y, y2], [], h1, 0, 0) := by
    intro m
    induction m with
    | zero =>
      intro c h1 y y2 hc m1 hG
      obtain rfl : c = 4 := by omega
      rw [s204_3]
      simp only [s204_5, s204_6, s204_9, s204_10, s204_12, s204_13, s204_14, s204_15, s204_16, s204_18, s204_19, s204_20, s204_21, s204_22, s204_23, s204_24, s204_27, s204_28, s204_31, s204_33, s204_34, s204_35, s204_38, s204_39, s204_40, s204_43, s204_45, s204_46, s204_47, s204_50, s204_51, s204_54, s204_57, s204_58, oB_some, cl2_i, cl2_r, cl2_l, cl2_u, cl2_s, wd_0, wd_i, wd_r, wd_l, wd_f, ct_i, ct_r, ct_n, ct_f, rf_s, rf_n, tl_s, tl_n, true_and, and_true, eq_self, and_self, Nat.reduceAdd, Nat.reduceLeDiff, Nat.zero_le, Nat.reduceEqDiff, or_true, true_or, false_or, or_false, if_true, if_false, gI_0, gI_1, gI_2, gI_3, gI_4, gI_5, gI_6, gI_7, gI_8, gI_9, gI_10, gI_11, gI_12, gI_13, gI_14, gI_15, gL_0, gL_1, gL_2, gL_3, gL_4, gL_5, gL_6, gL_7, gL_8, gL_9, gL_10, gL_11, gL_12, gL_13, gL_14, gL_15, gA_0, gA_1, gA_2, gA_3, gA_4, gA_5, gA_6, gA_7, gA_8, gA_9, gA_10, gA_11, gA_12, gA_13, gA_14, gA_15, p1_0, p1_1, p1_2, p1_3, p1_4, p1_5, p1_6, p1_7, p1_8, p1_9, p1_10, p1_11, p1_12, p1_13, p1_14, p1_15, p2_0, p2_1, p2_2, p2_3, p2_4, p2_5, p2_6, p2_7, p2_8, p2_9, p2_10, p2_11, p2_12, p2_13, p2_14, p2_15, b01_ok, b_ft, b_tf, b01_e0, b01_e1, lgc_0, not_true_eq_false, not_false_eq_true]
      rw [if_pos (by decide)]
      refine sec _ _ 4 0 h1 _ _ (by omega) m1 hG fun o ho => ?_
      have kk := k h1 m1
      unfold twoN at kk
      rw [ho] at kk
      exact kk
    | succ m ih =>
      intro c h1 y y2 hc m1 hG
      have x1 := x.kept14 m1 hd
      have x0 := x1.1
      obtain ⟨c1, c2, c3, c4, c5, c6, c7⟩ := c4x c (by omega)
      have z : ¬ (4 : Int32) ≤ nI c := nI_ge (b := 4) (by omega) (by decide)
      have c44 : c < 4 := by omega
      have c31 : c < 2 ^ 31 := by omega
      rw [s204_3]
      simp only [s204_5, s204_6, s204_9, s204_10, s204_12, s204_13, s204_14, s204_15, s204_16, s204_18, s204_19, s204_20, s204_21, s204_22, s204_23, s204_24, oB_some, cl2_i, cl2_r, cl2_l, cl2_u, cl2_s, wd_0, wd_i, wd_r, wd_l, wd_f, ct_i, ct_r, ct_n, ct_f, rf_s, rf_n, tl_s, tl_n, true_and, and_true, eq_self, and_self, Nat.reduceAdd, Nat.reduceLeDiff, Nat.zero_le, Nat.reduceEqDiff, or_true, true_or, false_or, or_false, if_true, if_false, gI_0, gI_1, gI_2, gI_3, gI_4, gI_5, gI_6, gI_7, gI_8, gI_9, gI_10, gI_11, gI_12, gI_13, gI_14, gI_15, gL_0, gL_1, gL_2, gL_3, gL_4, gL_5, gL_6, gL_7, gL_8, gL_9, gL_10, gL_11, gL_12, gL_13, gL_14, gL_15, gA_0, gA_1, gA_2, gA_3, gA_4, gA_5, gA_6, gA_7, gA_8, gA_9, gA_10, gA_11, gA_12, gA_13, gA_14, gA_15, p1_0, p1_1, p1_2, p1_3, p1_4, p1_5, p1_6, p1_7, p1_8, p1_9, p1_10, p1_11, p1_12, p1_13, p1_14, p1_15, p2_0, p2_1, p2_2, p2_3, p2_4, p2_5, p2_6, p2_7, p2_8, p2_9, p2_10, p2_11, p2_12, p2_13, p2_14, p2_15, b01_ok, b_ft, b_tf, b01_e0, b01_e1, lgc_0, not_true_eq_false, not_false_eq_true, x0, z, c5, c6, n2_0, not_false_eq_true, shlN (c / 2) (by omega) a (by omega), shlN (c % 2) (by omega) b (by omega), nI_or]
      refine v_passInInk (ink := inkset a b c) x1 g hn (inkset_lt (by omega) (by omega) c44) fun h2 m2 q2 => ?_
      have x2 := x1.kept m2
      have x20 := x2.1
      have kp := dayN_keep (ink := inkset a b c) (dm := false) (sh := false) (n := n) g hn
      obtain ⟨e1, e2, e3, e4, e5, e6⟩ := (xe.kept m1).kept m2
      simp only [s204_27, s204_28, s204_31, s204_33, s204_34, s204_35, s204_38, oB_some, cl2_i, cl2_r, cl2_l, cl2_u, cl2_s, wd_0, wd_i, wd_r, wd_l, wd_f, ct_i, ct_r, ct_n, ct_f, rf_s, rf_n, tl_s, tl_n, true_and, and_true, eq_self, and_self, Nat.reduceAdd, Nat.reduceLeDiff, Nat.zero_le, Nat.reduceEqDiff, or_true, true_or, false_or, or_false, if_true, if_false, gI_0, gI_1, gI_2, gI_3, gI_4, gI_5, gI_6, gI_7, gI_8, gI_9, gI_10, gI_11, gI_12, gI_13, gI_14, gI_15, gL_0, gL_1, gL_2, gL_3, gL_4, gL_5, gL_6, gL_7, gL_8, gL_9, gL_10, gL_11, gL_12, gL_13, gL_14, gL_15, gA_0, gA_1, gA_2, gA_3, gA_4, gA_5, gA_6, gA_7, gA_8, gA_9, gA_10, gA_11, gA_12, gA_13, gA_14, gA_15, p1_0, p1_1, p1_2, p1_3, p1_4, p1_5, p1_6, p1_7, p1_8, p1_9, p1_10, p1_11, p1_12, p1_13, p1_14, p1_15, p2_0, p2_1, p2_2, p2_3, p2_4, p2_5, p2_6, p2_7, p2_8, p2_9, p2_10, p2_11, p2_12, p2_13, p2_14, p2_15, b01_ok, b_ft, b_tf, b01_e0, b01_e1, lgc_0, not_true_eq_false, not_false_eq_true, z_hkd_sI, z_hln_sI, z_hL_sI, z_hR_sI, z_hnx_sI, z_hkd_sL, z_hln_sL, z_hI_sL, z_hR_sL, z_hnx_sL, z_hkd_sR, z_hln_sR, z_hI_sR, z_hL_sR, z_hnx_sR, z_hkd_cI, z_hln_cI, z_hL_cI, z_hR_cI, z_hnx_cI, z_hkd_cLg, z_hln_cLg, z_hI_cLg, z_hR_cLg, z_hnx_cLg, x20, e1, e2, e3, e4, e5, e6, v_gain x2 g q2 kp.1 kp.2.1 ha, ix_nI c31, nI_pos' c31, c44]
      have m3 : Fm w 14 h2 (sI h2 (w + 12) c (gnI S (dayN (inkset a b c) false false n S) a)) := Fm.rf.sI (by omega) (by omega)
      have x3 := x2.kept14 m3 hd
      have x30 := x3.1
      have q3 : RV (sI h2 (w + 12) c (gnI S (dayN (inkset a b c) false false n S) a)) w (dayN (inkset a b c) false false n S) := q2.kept (lo := w + 12) (n := 1) (Fm.rf.sI (Nat.le_refl _) (by omega)) (Or.inl (Nat.le_refl _))
      obtain ⟨i1, i2, i3, i4, i5, i6⟩ := ((xe.kept m1).kept m2).kept m3
      simp only [s204_39, s204_40, s204_43, s204_45, s204_46, s204_47, s204_50, s204_51, s204_54, oB_some, cl2_i, cl2_r, cl2_l, cl2_u, cl2_s, wd_0, wd_i, wd_r, wd_l, wd_f, ct_i, ct_r, ct_n, ct_f, rf_s, rf_n, tl_s, tl_n, true_and, and_true, eq_self, and_self, Nat.reduceAdd, Nat.reduceLeDiff, Nat.zero_le, Nat.reduceEqDiff, or_true, true_or, false_or, or_false, if_true, if_false, gI_0, gI_1, gI_2, gI_3, gI_4, gI_5, gI_6, gI_7, gI_8, gI_9, gI_10, gI_11, gI_12, gI_13, gI_14, gI_15, gL_0, gL_1, gL_2, gL_3, gL_4, gL_5, gL_6, gL_7, gL_8, gL_9, gL_10, gL_11, gL_12, gL_13, gL_14, gL_15, gA_0, gA_1, gA_2, gA_3, gA_4, gA_5, gA_6, gA_7, gA_8, gA_9, gA_10, gA_11, gA_12, gA_13, gA_14, gA_15, p1_0, p1_1, p1_2, p1_3, p1_4, p1_5, p1_6, p1_7, p1_8, p1_9, p1_10, p1_11, p1_12, p1_13, p1_14, p1_15, p2_0, p2_1, p2_2, p2_3, p2_4, p2_5, p2_6, p2_7, p2_8, p2_9, p2_10, p2_11, p2_12, p2_13, p2_14, p2_15, b01_ok, b_ft, b_tf, b01_e0, b01_e1, lgc_0, not_true_eq_false, not_false_eq_true, z_hkd_sI, z_hln_sI, z_hL_sI, z_hR_sI, z_hnx_sI, z_hkd_sL, z_hln_sL, z_hI_sL, z_hR_sL, z_hnx_sL, z_hkd_sR, z_hln_sR, z_hI_sR, z_hL_sR, z_hnx_sR, z_hkd_cI, z_hln_cI, z_hL_cI, z_hR_cI, z_hnx_cI, z_hkd_cLg, z_hln_cLg, z_hI_cLg, z_hR_cLg, z_hnx_cLg, x30, e1, e2, e3, e4, e5, e6, x20, v_gain x3 g q3 kp.1 kp.2.1 hb, ix_nI c31, nI_pos' c31, c44, nI_1]
      refine ih (c + 1) _ _ _ (by omega) (m1.tr ((m2.wide (by omega) (by omega)).tr (m3.sI (by omega) (by omega)))) fun j hj => ?_
      have o12 : hI h2 (w + 12) = hI h1 (w + 12) := (m2.1 (w + 12) (by omega)).1
      have o13 : hI h2 (w + 13) = hI h1 (w + 13) := (m2.1 (w + 13) (by omega)).1
      by_cases e : j = c
      · subst e
        refine ⟨?_, ?_⟩
        · rw [hI_sI_ne (by omega), hI_sI, if_pos ⟨rfl, rfl⟩]
        · rw [hI_sI, if_pos ⟨rfl, rfl⟩]
      · have hj2 := hG j (by omega)
        refine ⟨?_, ?_⟩
        · rw [hI_sI_ne (by omega), hI_sI, if_neg (fun q => e q.2), o12]
          exact hj2.1
        · rw [hI_sI, if_neg (fun q => e q.2), hI_sI_ne (by omega), o13]
          exact hj2.2
  simp only [e204, s204_0, s204_1, oB_some, cl2_i, cl2_r, cl2_l, cl2_u, cl2_s, wd_0, wd_i, wd_r, wd_l, wd_f, ct_i, ct_r, ct_n, ct_f, rf_s, rf_n, tl_s, tl_n, true_and, and_true, eq_self, and_self, Nat.reduceAdd, Nat.reduceLeDiff, Nat.zero_le, Nat.reduceEqDiff, or_true, true_or, false_or, or_false, if_true, if_false, gI_0, gI_1, gI_2, gI_3, gI_4, gI_5, gI_6, gI_7, gI_8, gI_9, gI_10, gI_11, gI_12, gI_13, gI_14, gI_15, gL_0, gL_1, gL_2, gL_3, gL_4, gL_5, gL_6, gL_7, gL_8, gL_9, gL_10, gL_11, gL_12, gL_13, gL_14, gL_15, gA_0, gA_1, gA_2, gA_3, gA_4, gA_5, gA_6, gA_7, gA_8, gA_9, gA_10, gA_11, gA_12, gA_13, gA_14, gA_15, p1_0, p1_1, p1_2, p1_3, p1_4, p1_5, p1_6, p1_7, p1_8, p1_9, p1_10, p1_11, p1_12, p1_13, p1_14, p1_15, p2_0, p2_1, p2_2, p2_3, p2_4, p2_5, p2_6, p2_7, p2_8, p2_9, p2_10, p2_11, p2_12, p2_13, p2_14, p2_15, b01_ok, b_ft, b_tf, b01_e0, b01_e1, lgc_0, not_true_eq_false, not_false_eq_true]
  exact loop 4 0 h _ _ (by omega) Fm.rf (fun j hj => by omega)
