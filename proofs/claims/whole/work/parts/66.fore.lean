-- what would be, the one side: a village w kept for that, v is the true one, f the object that knows both
def FY (h : HP) (f v w : Nat) (S : VS) : Prop := (hkd h f = 11 ∧ hR h f 0 = some v ∧ hR h f 1 = some w) ∧ VK h w ∧ RV h v S ∧ (v + 12 ≤ w ∨ w + 12 ≤ v)
theorem FY.kept {h h' : HP} {f v w : Nat} {S : VS} (a : FY h f v w S) (m : Fm w 12 h h') : FY h' f v w S := by
  obtain ⟨a1, a2, a3, a4⟩ := a
  refine ⟨?_, a2.kept m.2.1 m.2.2.1 m.2.2.2.1, a3.kept m (by omega), a4⟩
  rw [m.2.1, m.2.2.2.1]
  exact a1
theorem v_asItIs {d : Nat} {Q : PQ} {h : HP} {f v w : Nat} {S : VS} (x : FY h f v w S) (g : Good S)
    (k : ∀ h', Fm w 12 h h' → RV h' w S → FV h' w 0 false false → Q (some (.ref w)) h') : Ev (d + 4) 18 [.ref f] h Q := by
  obtain ⟨a1, a2, a3, a4⟩ := x
  have K := a2
  unfold VK at K
  simp only [e18, s18_0, s18_1, s18_4, s18_5, s18_8, oB_some, cl2_i, cl2_r, cl2_l, cl2_u, cl2_s, wd_0, wd_i, wd_r, wd_l, wd_f, ct_i, ct_r, ct_n, ct_f, rf_s, rf_n, tl_s, tl_n, true_and, and_true, eq_self, and_self, Nat.reduceAdd, Nat.reduceLeDiff, Nat.zero_le, Nat.reduceEqDiff, or_true, true_or, false_or, or_false, if_true, if_false, gI_0, gI_1, gI_2, gI_3, gI_4, gI_5, gI_6, gI_7, gI_8, gI_9, gI_10, gI_11, gI_12, gI_13, gI_14, gI_15, gL_0, gL_1, gL_2, gL_3, gL_4, gL_5, gL_6, gL_7, gL_8, gL_9, gL_10, gL_11, gL_12, gL_13, gL_14, gL_15, gA_0, gA_1, gA_2, gA_3, gA_4, gA_5, gA_6, gA_7, gA_8, gA_9, gA_10, gA_11, gA_12, gA_13, gA_14, gA_15, p1_0, p1_1, p1_2, p1_3, p1_4, p1_5, p1_6, p1_7, p1_8, p1_9, p1_10, p1_11, p1_12, p1_13, p1_14, p1_15, p2_0, p2_1, p2_2, p2_3, p2_4, p2_5, p2_6, p2_7, p2_8, p2_9, p2_10, p2_11, p2_12, p2_13, p2_14, p2_15, b01_ok, b_ft, b_tf, b01_e0, b01_e1, lgc_0, not_true_eq_false, not_false_eq_true, a1, K]
  refine v_becomeLike a2 a3 g (by omega) fun h1 m1 q1 f1 => ?_
  have b1 : hkd h1 f = 11 ∧ hR h1 f 0 = some v ∧ hR h1 f 1 = some w := by rw [m1.2.1, m1.2.2.2.1]; exact a1
  simp only [s18_11, s18_12, s18_15, oB_some, cl2_i, cl2_r, cl2_l, cl2_u, cl2_s, wd_0, wd_i, wd_r, wd_l, wd_f, ct_i, ct_r, ct_n, ct_f, rf_s, rf_n, tl_s, tl_n, true_and, and_true, eq_self, and_self, Nat.reduceAdd, Nat.reduceLeDiff, Nat.zero_le, Nat.reduceEqDiff, or_true, true_or, false_or, or_false, if_true, if_false, gI_0, gI_1, gI_2, gI_3, gI_4, gI_5, gI_6, gI_7, gI_8, gI_9, gI_10, gI_11, gI_12, gI_13, gI_14, gI_15, gL_0, gL_1, gL_2, gL_3, gL_4, gL_5, gL_6, gL_7, gL_8, gL_9, gL_10, gL_11, gL_12, gL_13, gL_14, gL_15, gA_0, gA_1, gA_2, gA_3, gA_4, gA_5, gA_6, gA_7, gA_8, gA_9, gA_10, gA_11, gA_12, gA_13, gA_14, gA_15, p1_0, p1_1, p1_2, p1_3, p1_4, p1_5, p1_6, p1_7, p1_8, p1_9, p1_10, p1_11, p1_12, p1_13, p1_14, p1_15, p2_0, p2_1, p2_2, p2_3, p2_4, p2_5, p2_6, p2_7, p2_8, p2_9, p2_10, p2_11, p2_12, p2_13, p2_14, p2_15, b01_ok, b_ft, b_tf, b01_e0, b01_e1, lgc_0, not_true_eq_false, not_false_eq_true, b1]
  exact k h1 m1 q1 f1
theorem v_daysOn {d : Nat} {Q : PQ} {h : HP} {f v w n : Nat} {S : VS} (x : FY h f v w S) (g : Good S) (hn : vy S + n < 2 ^ 20)
    (k : ∀ h', Fm w 12 h h' → RV h' w (dayN 0 false false n S) → Q (some (.ref w)) h') : Ev (d + 6) 145 [.ref f, .int (nI n)] h Q := by
  have x0 := x.1
  simp only [e145, s145_0, s145_1, oB_some, cl2_i, cl2_r, cl2_l, cl2_u, cl2_s, wd_0, wd_i, wd_r, wd_l, wd_f, ct_i, ct_r, ct_n, ct_f, rf_s, rf_n, tl_s, tl_n, true_and, and_true, eq_self, and_self, Nat.reduceAdd, Nat.reduceLeDiff, Nat.zero_le, Nat.reduceEqDiff, or_true, true_or, false_or, or_false, if_true, if_false, gI_0, gI_1, gI_2, gI_3, gI_4, gI_5, gI_6, gI_7, gI_8, gI_9, gI_10, gI_11, gI_12, gI_13, gI_14, gI_15, gL_0, gL_1, gL_2, gL_3, gL_4, gL_5, gL_6, gL_7, gL_8, gL_9, gL_10, gL_11, gL_12, gL_13, gL_14, gL_15, gA_0, gA_1, gA_2, gA_3, gA_4, gA_5, gA_6, gA_7, gA_8, gA_9, gA_10, gA_11, gA_12, gA_13, gA_14, gA_15, p1_0, p1_1, p1_2, p1_3, p1_4, p1_5, p1_6, p1_7, p1_8, p1_9, p1_10, p1_11, p1_12, p1_13, p1_14, p1_15, p2_0, p2_1, p2_2, p2_3, p2_4, p2_5, p2_6, p2_7, p2_8, p2_9, p2_10, p2_11, p2_12, p2_13, p2_14, p2_15, b01_ok, b_ft, b_tf, b01_e0, b01_e1, lgc_0, not_true_eq_false, not_false_eq_true, x0]
  refine v_asItIs x g fun h1 m1 q1 f1 => ?_
  have x1 := (x.kept m1).1
  have K1 := q1.k
  unfold VK at K1
  simp only [s145_4, s145_5, s145_6, s145_9, s145_10, oB_some, cl2_i, cl2_r, cl2_l, cl2_u, cl2_s, wd_0, wd_i, wd_r, wd_l, wd_f, ct_i, ct_r, ct_n, ct_f, rf_s, rf_n, tl_s, tl_n, true_and, and_true, eq_self, and_self, Nat.reduceAdd, Nat.reduceLeDiff, Nat.zero_le, Nat.reduceEqDiff, or_true, true_or, false_or, or_false, if_true, if_false, gI_0, gI_1, gI_2, gI_3, gI_4, gI_5, gI_6, gI_7, gI_8, gI_9, gI_10, gI_11, gI_12, gI_13, gI_14, gI_15, gL_0, gL_1, gL_2, gL_3, gL_4, gL_5, gL_6, gL_7, gL_8, gL_9, gL_10, gL_11, gL_12, gL_13, gL_14, gL_15, gA_0, gA_1, gA_2, gA_3, gA_4, gA_5, gA_6, gA_7, gA_8, gA_9, gA_10, gA_11, gA_12, gA_13, gA_14, gA_15, p1_0, p1_1, p1_2, p1_3, p1_4, p1_5, p1_6, p1_7, p1_8, p1_9, p1_10, p1_11, p1_12, p1_13, p1_14, p1_15, p2_0, p2_1, p2_2, p2_3, p2_4, p2_5, p2_6, p2_7, p2_8, p2_9, p2_10, p2_11, p2_12, p2_13, p2_14, p2_15, b01_ok, b_ft, b_tf, b01_e0, b01_e1, lgc_0, not_true_eq_false, not_false_eq_true, x1, K1]
  refine v_passDays q1 g f1 (by decide) hn fun h2 m2 q2 f2 => ?_
  have x2 := ((x.kept m1).kept m2).1
  simp only [s145_13, s145_14, s145_17, oB_some, cl2_i, cl2_r, cl2_l, cl2_u, cl2_s, wd_0, wd_i, wd_r, wd_l, wd_f, ct_i, ct_r, ct_n, ct_f, rf_s, rf_n, tl_s, tl_n, true_and, and_true, eq_self, and_self, Nat.reduceAdd, Nat.reduceLeDiff, Nat.zero_le, Nat.reduceEqDiff, or_true, true_or, false_or, or_false, if_true, if_false, gI_0, gI_1, gI_2, gI_3, gI_4, gI_5, gI_6, gI_7, gI_8, gI_9, gI_10, gI_11, gI_12, gI_13, gI_14, gI_15, gL_0, gL_1, gL_2, gL_3, gL_4, gL_5, gL_6, gL_7, gL_8, gL_9, gL_10, gL_11, gL_12, gL_13, gL_14, gL_15, gA_0, gA_1, gA_2, gA_3, gA_4, gA_5, gA_6, gA_7, gA_8, gA_9, gA_10, gA_11, gA_12, gA_13, gA_14, gA_15, p1_0, p1_1, p1_2, p1_3, p1_4, p1_5, p1_6, p1_7, p1_8, p1_9, p1_10, p1_11, p1_12, p1_13, p1_14, p1_15, p2_0, p2_1, p2_2, p2_3, p2_4, p2_5, p2_6, p2_7, p2_8, p2_9, p2_10, p2_11, p2_12, p2_13, p2_14, p2_15, b01_ok, b_ft, b_tf, b01_e0, b01_e1, lgc_0, not_true_eq_false, not_false_eq_true, x2]
  exact k h2 (m1.tr m2) q2
def ifShe (S : VS) (n p s : Nat) : Nat := nb (vw (dayN 0 false false n (wS S (vs S ||| bL s))) p)
def asIt (S : VS) (n p : Nat) : Nat := nb (vw (dayN 0 false false n S) p)
theorem nbw_sm {S : VS} {n p ink : Nat} {dm sh : Bool} (g : Good S) (hn : vy S + n < 2 ^ 20) (hp : p < vn S) : sm (vw (dayN ink dm sh n S) p) := by
  obtain ⟨a, b, c⟩ := dayN_keep (ink := ink) (dm := dm) (sh := sh) (n := n) g hn
  exact (a.at (by rw [b]; exact hp)).2.2.2.1
theorem wS_self {S : VS} : wS S (vs S) = S := rfl
theorem or_in {x : Int64} {k : Nat} (hk : k < 64) (h : hb x k = true) : x ||| bL k = x := by
  apply hb_ext
  intro j hj
  rw [hb_or, hb_bL j hk]
  by_cases e : j = k
  · subst e; simp [h]
  · simp [e]
theorem ifShe_in {S : VS} {n p s : Nat} (hs : s < 64) (h : hb (vs S) s = true) : ifShe S n p s = asIt S n p := by
  unfold ifShe
  rw [or_in hs h]
  rfl
set_option maxHeartbeats 4000000 in
theorem v_knownIfSheKnew {d : Nat} {Q : PQ} {h : HP} {f v w n p s : Nat} {S : VS} (x : FY h f v w S) (g : Good S) (hn : vy S + n < 2 ^ 20) (hp : p < vn S) (hs : s < 40)
    (k : ∀ h', Fm w 12 h h' → Q (some (.int (nI (ifShe S n p s)))) h') : Ev (d + 6) 166 [.ref f, .int (nI p), .int (nI s), .int (nI n)] h Q := by
  have x0 := x.1
  have gn := g.n
  have p6 : p < 6 := by omega
  have p31 : p < 2 ^ 31 := by omega
  simp only [e166, s166_0, s166_1, oB_some, cl2_i, cl2_r, cl2_l, cl2_u, cl2_s, wd_0, wd_i, wd_r, wd_l, wd_f, ct_i, ct_r, ct_n, ct_f, rf_s, rf_n, tl_s, tl_n, true_and, and_true, eq_self, and_self, Nat.reduceAdd, Nat.reduceLeDiff, Nat.zero_le, Nat.reduceEqDiff, or_true, true_or, false_or, or_false, if_true, if_false, gI_0, gI_1, gI_2, gI_3, gI_4, gI_5, gI_6, gI_7, gI_8, gI_9, gI_10, gI_11, gI_12, gI_13, gI_14, gI_15, gL_0, gL_1, gL_2, gL_3, gL_4, gL_5, gL_6, gL_7, gL_8, gL_9, gL_10, gL_11, gL_12, gL_13, gL_14, gL_15, gA_0, gA_1, gA_2, gA_3, gA_4, gA_5, gA_6, gA_7, gA_8, gA_9, gA_10, gA_11, gA_12, gA_13, gA_14, gA_15, p1_0, p1_1, p1_2, p1_3, p1_4, p1_5, p1_6, p1_7, p1_8, p1_9, p1_10, p1_11, p1_12, p1_13, p1_14, p1_15, p2_0, p2_1, p2_2, p2_3, p2_4, p2_5, p2_6, p2_7, p2_8, p2_9, p2_10, p2_11, p2_12, p2_13, p2_14, p2_15, b01_ok, b_ft, b_tf, b01_e0, b01_e1, lgc_0, not_true_eq_false, not_false_eq_true, x0]
  refine v_asItIs x g fun h1 m1 q1 f1 => ?_
  have x1 := (x.kept m1).1
  have K1 := q1.k
  unfold VK at K1
  simp only [s166_4, s166_5, s166_6, s166_9, s166_10, s166_11, s166_14, oB_some, cl2_i, cl2_r, cl2_l, cl2_u, cl2_s, wd_0, wd_i, wd_r, wd_l, wd_f, ct_i, ct_r, ct_n, ct_f, rf_s, rf_n, tl_s, tl_n, true_and, and_true, eq_self, and_self, Nat.reduceAdd, Nat.reduceLeDiff, Nat.zero_le, Nat.reduceEqDiff, or_true, true_or, false_or, or_false, if_true, if_false, gI_0, gI_1, gI_2, gI_3, gI_4, gI_5, gI_6, gI_7, gI_8, gI_9, gI_10, gI_11, gI_12, gI_13, gI_14, gI_15, gL_0, gL_1, gL_2, gL_3, gL_4, gL_5, gL_6, gL_7, gL_8, gL_9, gL_10, gL_11, gL_12, gL_13, gL_14, gL_15, gA_0, gA_1, gA_2, gA_3, gA_4, gA_5, gA_6, gA_7, gA_8, gA_9, gA_10, gA_11, gA_12, gA_13, gA_14, gA_15, p1_0, p1_1, p1_2, p1_3, p1_4, p1_5, p1_6, p1_7, p1_8, p1_9, p1_10, p1_11, p1_12, p1_13, p1_14, p1_15, p2_0, p2_1, p2_2, p2_3, p2_4, p2_5, p2_6, p2_7, p2_8, p2_9, p2_10, p2_11, p2_12, p2_13, p2_14, p2_15, b01_ok, b_ft, b_tf, b01_e0, b01_e1, lgc_0, not_true_eq_false, not_false_eq_true, x1, K1, v_only (show s < 64 by omega)]
  refine v_learnK (p := -1) q1 g f1 (by unfold isKI; rfl) fun h2 m2 q2 f2 => ?_
  have x2 := ((x.kept m1).kept m2).1
  have K2 := q2.k
  unfold VK at K2
  have g2 : Good (lrn S (-1) (bL s)) := lrn_good g (by unfold isKI; rfl) (sm_bL hs)
  simp only [s166_17, s166_18, s166_21, s166_22, oB_some, cl2_i, cl2_r, cl2_l, cl2_u, cl2_s, wd_0, wd_i, wd_r, wd_l, wd_f, ct_i, ct_r, ct_n, ct_f, rf_s, rf_n, tl_s, tl_n, true_and, and_true, eq_self, and_self, Nat.reduceAdd, Nat.reduceLeDiff, Nat.zero_le, Nat.reduceEqDiff, or_true, true_or, false_or, or_false, if_true, if_false, gI_0, gI_1, gI_2, gI_3, gI_4, gI_5, gI_6, gI_7, gI_8, gI_9, gI_10, gI_11, gI_12, gI_13, gI_14, gI_15, gL_0, gL_1, gL_2, gL_3, gL_4, gL_5, gL_6, gL_7, gL_8, gL_9, gL_10, gL_11, gL_12, gL_13, gL_14, gL_15, gA_0, gA_1, gA_2, gA_3, gA_4, gA_5, gA_6, gA_7, gA_8, gA_9, gA_10, gA_11, gA_12, gA_13, gA_14, gA_15, p1_0, p1_1, p1_2, p1_3, p1_4, p1_5, p1_6, p1_7, p1_8, p1_9, p1_10, p1_11, p1_12, p1_13, p1_14, p1_15, p2_0, p2_1, p2_2, p2_3, p2_4, p2_5, p2_6, p2_7, p2_8, p2_9, p2_10, p2_11, p2_12, p2_13, p2_14, p2_15, b01_ok, b_ft, b_tf, b01_e0, b01_e1, lgc_0, not_true_eq_false, not_false_eq_true, x2, K2]
  refine v_passDays q2 g2 f2 (by decide) hn fun h3 m3 q3 f3 => ?_
  have x3 := (((x.kept m1).kept m2).kept m3).1
  have K3 := q3.k
  unfold VK at K3
  have kp := dayN_keep (ink := 0) (dm := false) (sh := false) (n := n) g2 hn
  simp only [s166_25, s166_26, s166_29, s166_30, s166_33, s166_36, oB_some, cl2_i, cl2_r, cl2_l, cl2_u, cl2_s, wd_0, wd_i, wd_r, wd_l, wd_f, ct_i, ct_r, ct_n, ct_f, rf_s, rf_n, tl_s, tl_n, true_and, and_true, eq_self, and_self, Nat.reduceAdd, Nat.reduceLeDiff, Nat.zero_le, Nat.reduceEqDiff, or_true, true_or, false_or, or_false, if_true, if_false, gI_0, gI_1, gI_2, gI_3, gI_4, gI_5, gI_6, gI_7, gI_8, gI_9, gI_10, gI_11, gI_12, gI_13, gI_14, gI_15, gL_0, gL_1, gL_2, gL_3, gL_4, gL_5, gL_6, gL_7, gL_8, gL_9, gL_10, gL_11, gL_12, gL_13, gL_14, gL_15, gA_0, gA_1, gA_2, gA_3, gA_4, gA_5, gA_6, gA_7, gA_8, gA_9, gA_10, gA_11, gA_12, gA_13, gA_14, gA_15, p1_0, p1_1, p1_2, p1_3, p1_4, p1_5, p1_6, p1_7, p1_8, p1_9, p1_10, p1_11, p1_12, p1_13, p1_14, p1_15, p2_0, p2_1, p2_2, p2_3, p2_4, p2_5, p2_6, p2_7, p2_8, p2_9, p2_10, p2_11, p2_12, p2_13, p2_14, p2_15, b01_ok, b_ft, b_tf, b01_e0, b01_e1, lgc_0, not_true_eq_false, not_false_eq_true, x3, K3, v_knownBy q3 kp.1 (show p < vn (dayN 0 false false n (lrn S (-1) (bL s))) by rw [kp.2.1]; exact hp), v_bitCount (nbw_sm (ink := 0) (dm := false) (sh := false) g2 hn hp)]
  exact k h3 (m1.tr (m2.tr m3))
def ans2 (what : Int32) (b : Option Nat × Nat) : Int32 := if what = 0 then oN b.1 else if b.1 = none then -9 else nI b.2
theorem oN_m9 {o : Option Nat} (h : ∀ a, o = some a → a < 2 ^ 31) : (oN o = -9) = (o = none) := by
  cases o with
  | none => simp [oN]
  | some a =>
    have := nI_pos' (h a rfl)
    simp only [oN_some, reduceCtorEq, iff_false, eq_iff_iff]
    intro c
    rw [c] at this
    exact absurd this (by decide)
def letHerN (S : VS) (p n : Nat) : Option Nat × Nat := betA (ifShe S n p) (fun s => s) 40 0 (none, asIt S n p)
set_option maxHeartbeats 8000000 in
theorem v_letHer {d : Nat} {Q : PQ} {h : HP} {f v w n p : Nat} {what : Int32} {S : VS} (x : FY h f v w S) (g : Good S) (hn : vy S + n < 2 ^ 20) (hp : p < vn S)
    (k : ∀ h', Fm w 12 h h' → Q (some (.int (ans2 what (letHerN S p n)))) h') : Ev (d + 7) 165 [.ref f, .int (nI p), .int (nI n), .int what] h Q := by
  have gn := g.n
  have p6 : p < 6 := by omega
  have p31 : p < 2 ^ 31 := by omega
  have loop : ∀ (c j : Nat) (h1 : HP) (b : Option Nat × Nat) (y : Slot), j + c = 40 → Fm w 12 h h1 → asIt S n p ≤ b.2 → b.2 ≤ 40 → (∀ a, b.1 = some a → a < 2 ^ 31) → betA (ifShe S n p) (fun s => s) c j b = letHerN S p n →
      WP (d + 6) 165 Q (21, [.val (.ref f), .val (.int (nI p)), .val (.int (nI n)), .val (.int what), .val (.int (oN b.1)), .val (.int (nI b.2)), .val (.int (nI j)), y], [], h1, 0, 0) := by
    intro c
    induction c with
    | zero =>
      intro j h1 b y hj m1 b0 b1 b2 e1
      obtain rfl : j = 40 := by omega
      have e2 : b = letHerN S p n := e1
      rw [s165_21]
      simp only [s165_0, s165_2, s165_4, s165_5, s165_6, s165_9, s165_10, s165_13, s165_16, s165_18, s165_19, s165_23, s165_25, s165_28, s165_29, s165_32, s165_33, s165_35, s165_38, s165_41, s165_42, s165_45, s165_46, s165_47, s165_49, s165_50, s165_53, s165_55, s165_57, s165_59, s165_62, s165_64, s165_66, s165_68, s165_70, s165_73, s165_76, s165_77, s165_80, s165_82, s165_84, s165_87, s165_89, s165_92, s165_94, oB_some, cl2_i, cl2_r, cl2_l, cl2_u, cl2_s, wd_0, wd_i, wd_r, wd_l, wd_f, ct_i, ct_r, ct_n, ct_f, rf_s, rf_n, tl_s, tl_n, true_and, and_true, eq_self, and_self, Nat.reduceAdd, Nat.reduceLeDiff, Nat.zero_le, Nat.reduceEqDiff, or_true, true_or, false_or, or_false, if_true, if_false, gI_0, gI_1, gI_2, gI_3, gI_4, gI_5, gI_6, gI_7, gI_8, gI_9, gI_10, gI_11, gI_12, gI_13, gI_14, gI_15, gL_0, gL_1, gL_2, gL_3, gL_4, gL_5, gL_6, gL_7, gL_8, gL_9, gL_10, gL_11, gL_12, gL_13, gL_14, gL_15, gA_0, gA_1, gA_2, gA_3, gA_4, gA_5, gA_6, gA_7, gA_8, gA_9, gA_10, gA_11, gA_12, gA_13, gA_14, gA_15, p1_0, p1_1, p1_2, p1_3, p1_4, p1_5, p1_6, p1_7, p1_8, p1_9, p1_10, p1_11, p1_12, p1_13, p1_14, p1_15, p2_0, p2_1, p2_2, p2_3, p2_4, p2_5, p2_6, p2_7, p2_8, p2_9, p2_10, p2_11, p2_12, p2_13, p2_14, p2_15, b01_ok, b_ft, b_tf, b01_e0, b01_e1, lgc_0, not_true_eq_false, not_false_eq_true, oN_m9 b2]
      rw [if_pos (by decide)]
      have kk := k h1 m1
      rw [← e2] at kk
      unfold ans2 at kk
      by_cases z : what = 0
      · rw [if_pos z]
        rw [if_pos z] at kk
        exact kk
      · rw [if_neg z]
        rw [if_neg z] at kk
        by_cases z2 : b.1 = none
        · rw [if_neg (not_not_intro z2), z2]
          rw [if_pos z2] at kk
          exact kk
        · rw [if_pos z2]
          rw [if_neg z2] at kk
          exact kk
    | succ c ih =>
      intro j h1 b y hj m1 b0 b1 b2 e1
      have x1 := x.kept m1
      have x0 := x1.1
      have q1 := x1.2.2.1
      have K1 := q1.k
      unfold VK at K1
      have z : ¬ (40 : Int32) ≤ nI j := nI_ge (b := 40) (by omega) (by decide)
      rw [betA_s] at e1
      rw [s165_21]
      simp only [s165_0, s165_2, s165_4, s165_5, s165_6, s165_9, s165_10, s165_13, s165_16, s165_18, s165_19, s165_23, s165_25, s165_28, s165_29, s165_32, s165_33, s165_35, s165_38, s165_41, s165_42, s165_45, s165_46, s165_47, s165_49, s165_50, s165_53, s165_55, s165_57, s165_59, s165_62, s165_64, s165_66, s165_68, s165_70, s165_73, s165_76, s165_77, s165_80, s165_82, s165_84, s165_87, s165_89, s165_92, s165_94, oB_some, cl2_i, cl2_r, cl2_l, cl2_u, cl2_s, wd_0, wd_i, wd_r, wd_l, wd_f, ct_i, ct_r, ct_n, ct_f, rf_s, rf_n, tl_s, tl_n, true_and, and_true, eq_self, and_self, Nat.reduceAdd, Nat.reduceLeDiff, Nat.zero_le, Nat.reduceEqDiff, or_true, true_or, false_or, or_false, if_true, if_false, gI_0, gI_1, gI_2, gI_3, gI_4, gI_5, gI_6, gI_7, gI_8, gI_9, gI_10, gI_11, gI_12, gI_13, gI_14, gI_15, gL_0, gL_1, gL_2, gL_3, gL_4, gL_5, gL_6, gL_7, gL_8, gL_9, gL_10, gL_11, gL_12, gL_13, gL_14, gL_15, gA_0, gA_1, gA_2, gA_3, gA_4, gA_5, gA_6, gA_7, gA_8, gA_9, gA_10, gA_11, gA_12, gA_13, gA_14, gA_15, p1_0, p1_1, p1_2, p1_3, p1_4, p1_5, p1_6, p1_7, p1_8, p1_9, p1_10, p1_11, p1_12, p1_13, p1_14, p1_15, p2_0, p2_1, p2_2, p2_3, p2_4, p2_5, p2_6, p2_7, p2_8, p2_9, p2_10, p2_11, p2_12, p2_13, p2_14, p2_15, b01_ok, b_ft, b_tf, b01_e0, b01_e1, lgc_0, not_true_eq_false, not_false_eq_true, x0, K1, z, v_hasLearntS q1 (show j < 64 by omega), nI_1]
      by_cases e : hb (vs S) j = true
      · rw [if_neg (by rw [e]; decide)]
        have es := ifShe_in (S := S) (n := n) (p := p) (show j < 64 by omega) e
        rw [if_neg (by omega)] at e1
        rw [if_pos (show (0 : Int32) ≤ nI b.2 from nI_pos' (by omega))]
        exact ih (j + 1) h1 b _ (by omega) m1 b0 b1 b2 e1
      · rw [if_pos (by simpa using e)]
        refine v_knownIfSheKnew x1 g hn hp (show j < 40 by omega) fun h2 m2 => ?_
        have lf : ifShe S n p j ≤ 40 := nb_le _
        simp only [s165_0, s165_2, s165_4, s165_5, s165_6, s165_9, s165_10, s165_13, s165_16, s165_18, s165_19, s165_23, s165_25, s165_28, s165_29, s165_32, s165_33, s165_35, s165_38, s165_41, s165_42, s165_45, s165_46, s165_47, s165_49, s165_50, s165_53, s165_55, s165_57, s165_59, s165_62, s165_64, s165_66, s165_68, s165_70, s165_73, s165_76, s165_77, s165_80, s165_82, s165_84, s165_87, s165_89, s165_92, s165_94, oB_some, cl2_i, cl2_r, cl2_l, cl2_u, cl2_s, wd_0, wd_i, wd_r, wd_l, wd_f, ct_i, ct_r, ct_n, ct_f, rf_s, rf_n, tl_s, tl_n, true_and, and_true, eq_self, and_self, Nat.reduceAdd, Nat.reduceLeDiff, Nat.zero_le, Nat.reduceEqDiff, or_true, true_or, false_or, or_false, if_true, if_false, gI_0, gI_1, gI_2, gI_3, gI_4, gI_5, gI_6, gI_7, gI_8, gI_9, gI_10, gI_11, gI_12, gI_13, gI_14, gI_15, gL_0, gL_1, gL_2, gL_3, gL_4, gL_5, gL_6, gL_7, gL_8, gL_9, gL_10, gL_11, gL_12, gL_13, gL_14, gL_15, gA_0, gA_1, gA_2, gA_3, gA_4, gA_5, gA_6, gA_7, gA_8, gA_9, gA_10, gA_11, gA_12, gA_13, gA_14, gA_15, p1_0, p1_1, p1_2, p1_3, p1_4, p1_5, p1_6, p1_7, p1_8, p1_9, p1_10, p1_11, p1_12, p1_13, p1_14, p1_15, p2_0, p2_1, p2_2, p2_3, p2_4, p2_5, p2_6, p2_7, p2_8, p2_9, p2_10, p2_11, p2_12, p2_13, p2_14, p2_15, b01_ok, b_ft, b_tf, b01_e0, b01_e1, lgc_0, not_true_eq_false, not_false_eq_true, leP (show ifShe S n p j < 2 ^ 31 by omega) (show b.2 < 2 ^ 31 by omega), nI_1]
        by_cases e3 : ifShe S n p j ≤ b.2
        · rw [if_pos e3]
          rw [if_neg (by omega)] at e1
          exact ih (j + 1) h2 b _ (by omega) (m1.tr m2) b0 b1 b2 e1
        · rw [if_neg e3]
          rw [if_pos (by omega)] at e1
          exact ih (j + 1) h2 (some j, ifShe S n p j) _ (by omega) (m1.tr m2) (show asIt S n p ≤ ifShe S n p j by omega) lf (fun a ha => by cases ha; omega) e1
  have x0 := x.1
  simp only [e165, s165_0, s165_2, s165_4, s165_5, s165_6, oB_some, cl2_i, cl2_r, cl2_l, cl2_u, cl2_s, wd_0, wd_i, wd_r, wd_l, wd_f, ct_i, ct_r, ct_n, ct_f, rf_s, rf_n, tl_s, tl_n, true_and, and_true, eq_self, and_self, Nat.reduceAdd, Nat.reduceLeDiff, Nat.zero_le, Nat.reduceEqDiff, or_true, true_or, false_or, or_false, if_true, if_false, gI_0, gI_1, gI_2, gI_3, gI_4, gI_5, gI_6, gI_7, gI_8, gI_9, gI_10, gI_11, gI_12, gI_13, gI_14, gI_15, gL_0, gL_1, gL_2, gL_3, gL_4, gL_5, gL_6, gL_7, gL_8, gL_9, gL_10, gL_11, gL_12, gL_13, gL_14, gL_15, gA_0, gA_1, gA_2, gA_3, gA_4, gA_5, gA_6, gA_7, gA_8, gA_9, gA_10, gA_11, gA_12, gA_13, gA_14, gA_15, p1_0, p1_1, p1_2, p1_3, p1_4, p1_5, p1_6, p1_7, p1_8, p1_9, p1_10, p1_11, p1_12, p1_13, p1_14, p1_15, p2_0, p2_1, p2_2, p2_3, p2_4, p2_5, p2_6, p2_7, p2_8, p2_9, p2_10, p2_11, p2_12, p2_13, p2_14, p2_15, b01_ok, b_ft, b_tf, b01_e0, b01_e1, lgc_0, not_true_eq_false, not_false_eq_true, x0]
  refine v_daysOn x g hn fun h1 m1 q1 => ?_
  have K1 := q1.k
  unfold VK at K1
  have kp := dayN_keep (ink := 0) (dm := false) (sh := false) (n := n) g hn
  simp only [s165_9, s165_10, s165_13, s165_16, s165_18, s165_19, oB_some, cl2_i, cl2_r, cl2_l, cl2_u, cl2_s, wd_0, wd_i, wd_r, wd_l, wd_f, ct_i, ct_r, ct_n, ct_f, rf_s, rf_n, tl_s, tl_n, true_and, and_true, eq_self, and_self, Nat.reduceAdd, Nat.reduceLeDiff, Nat.zero_le, Nat.reduceEqDiff, or_true, true_or, false_or, or_false, if_true, if_false, gI_0, gI_1, gI_2, gI_3, gI_4, gI_5, gI_6, gI_7, gI_8, gI_9, gI_10, gI_11, gI_12, gI_13, gI_14, gI_15, gL_0, gL_1, gL_2, gL_3, gL_4, gL_5, gL_6, gL_7, gL_8, gL_9, gL_10, gL_11, gL_12, gL_13, gL_14, gL_15, gA_0, gA_1, gA_2, gA_3, gA_4, gA_5, gA_6, gA_7, gA_8, gA_9, gA_10, gA_11, gA_12, gA_13, gA_14, gA_15, p1_0, p1_1, p1_2, p1_3, p1_4, p1_5, p1_6, p1_7, p1_8, p1_9, p1_10, p1_11, p1_12, p1_13, p1_14, p1_15, p2_0, p2_1, p2_2, p2_3, p2_4, p2_5, p2_6, p2_7, p2_8, p2_9, p2_10, p2_11, p2_12, p2_13, p2_14, p2_15, b01_ok, b_ft, b_tf, b01_e0, b01_e1, lgc_0, not_true_eq_false, not_false_eq_true, K1, v_knownBy q1 kp.1 (show p < vn (dayN 0 false false n S) by rw [kp.2.1]; exact hp), v_bitCount (nbw_sm (ink := 0) (dm := false) (sh := false) g hn hp)]
  exact loop 40 0 h1 (none, asIt S n p) _ (by omega) m1 (Nat.le_refl _) (nb_le _) (fun a ha => by cases ha) rfl
def findA (f : Nat → Bool) : Nat → Nat → Option Nat
  | 0, _ => none
  | m + 1, j => if f j = true then some j else findA f m (j + 1)
theorem findA_s (f : Nat → Bool) (m j : Nat) : findA f (m + 1) j = if f j = true then some j else findA f m (j + 1) := rfl
def rubN (S : VS) (p c n v : Nat) : Bool := !hb (vw (dayN 0 false false n (wU S v)) p) c
set_option maxHeartbeats 8000000 in
theorem v_rubberThatDoes {d : Nat} {Q : PQ} {h : HP} {f v w n p c : Nat} {S : VS} (x : FY h f v w S) (g : Good S) (hn : vy S + n < 2 ^ 20) (hp : p < vn S) (hc : c < 64)
    (k : ∀ h', Fm w 12 h h' → Q (some (.int (oN (findA (rubN S p c n) 19 0)))) h') : Ev (d + 6) 169 [.ref f, .int (nI p), .int (nI c), .int (nI n)] h Q := by
  have loop : ∀ (m j : Nat) (h1 : HP), j + m = 19 → Fm w 12 h h1 → findA (rubN S p c n) m j = findA (rubN S p c n) 19 0 →
      WP (d + 5) 169 Q (3, [.val (.ref f), .val (.int (nI p)), .val (.int (nI c)), .val (.int (nI n)), .val (.int (nI j))], [], h1, 0, 0) := by
    intro m
    induction m with
    | zero =>
      intro j h1 hj m1 e1
      obtain rfl : j = 19 := by omega
      rw [s169_3]
      simp only [s169_0, s169_1, s169_5, s169_7, s169_10, s169_11, s169_14, s169_15, s169_16, s169_19, s169_21, s169_24, s169_25, s169_28, s169_29, s169_32, s169_33, s169_36, s169_37, s169_38, s169_41, s169_44, s169_46, s169_47, s169_50, s169_53, s169_55, oB_some, cl2_i, cl2_r, cl2_l, cl2_u, cl2_s, wd_0, wd_i, wd_r, wd_l, wd_f, ct_i, ct_r, ct_n, ct_f, rf_s, rf_n, tl_s, tl_n, true_and, and_true, eq_self, and_self, Nat.reduceAdd, Nat.reduceLeDiff, Nat.zero_le, Nat.reduceEqDiff, or_true, true_or, false_or, or_false, if_true, if_false, gI_0, gI_1, gI_2, gI_3, gI_4, gI_5, gI_6, gI_7, gI_8, gI_9, gI_10, gI_11, gI_12, gI_13, gI_14, gI_15, gL_0, gL_1, gL_2, gL_3, gL_4, gL_5, gL_6, gL_7, gL_8, gL_9, gL_10, gL_11, gL_12, gL_13, gL_14, gL_15, gA_0, gA_1, gA_2, gA_3, gA_4, gA_5, gA_6, gA_7, gA_8, gA_9, gA_10, gA_11, gA_12, gA_13, gA_14, gA_15, p1_0, p1_1, p1_2, p1_3, p1_4, p1_5, p1_6, p1_7, p1_8, p1_9, p1_10, p1_11, p1_12, p1_13, p1_14, p1_15, p2_0, p2_1, p2_2, p2_3, p2_4, p2_5, p2_6, p2_7, p2_8, p2_9, p2_10, p2_11, p2_12, p2_13, p2_14, p2_15, b01_ok, b_ft, b_tf, b01_e0, b01_e1, lgc_0, not_true_eq_false, not_false_eq_true]
      rw [if_pos (by decide)]
      have kk := k h1 m1
      rw [← e1] at kk
      exact kk
    | succ m ih =>
      intro j h1 hj m1 e1
      have x1 := x.kept m1
      have x0 := x1.1
      have z : ¬ (18 : Int32) < nI j := nI_nlt (a := 18) (by omega) (by decide)
      rw [findA_s] at e1
      rw [s169_3]
      simp only [s169_5, s169_7, s169_10, s169_11, oB_some, cl2_i, cl2_r, cl2_l, cl2_u, cl2_s, wd_0, wd_i, wd_r, wd_l, wd_f, ct_i, ct_r, ct_n, ct_f, rf_s, rf_n, tl_s, tl_n, true_and, and_true, eq_self, and_self, Nat.reduceAdd, Nat.reduceLeDiff, Nat.zero_le, Nat.reduceEqDiff, or_true, true_or, false_or, or_false, if_true, if_false, gI_0, gI_1, gI_2, gI_3, gI_4, gI_5, gI_6, gI_7, gI_8, gI_9, gI_10, gI_11, gI_12, gI_13, gI_14, gI_15, gL_0, gL_1, gL_2, gL_3, gL_4, gL_5, gL_6, gL_7, gL_8, gL_9, gL_10, gL_11, gL_12, gL_13, gL_14, gL_15, gA_0, gA_1, gA_2, gA_3, gA_4, gA_5, gA_6, gA_7, gA_8, gA_9, gA_10, gA_11, gA_12, gA_13, gA_14, gA_15, p1_0, p1_1, p1_2, p1_3, p1_4, p1_5, p1_6, p1_7, p1_8, p1_9, p1_10, p1_11, p1_12, p1_13, p1_14, p1_15, p2_0, p2_1, p2_2, p2_3, p2_4, p2_5, p2_6, p2_7, p2_8, p2_9, p2_10, p2_11, p2_12, p2_13, p2_14, p2_15, b01_ok, b_ft, b_tf, b01_e0, b01_e1, lgc_0, not_true_eq_false, not_false_eq_true, x0, z]
      refine v_asItIs x1 g fun h2 m2 q2 f2 => ?_
      have x2 := x1.kept m2
      have x20 := x2.1
      have K2 := q2.k
      unfold VK at K2
      have q3 := RV_u q2 j
      have f3 : FV (sI h2 w 9 (nI j)) w 0 false false := f2.sI (Or.inr (by decide))
      have m3 : Fm w 12 h2 (sI h2 w 9 (nI j)) := Fm.rf.sI (Nat.le_refl _) (by omega)
      have x30 := (x2.kept m3).1
      have g3 : Good (wU S j) := g.wU (by omega)
      simp only [s169_14, s169_15, s169_16, s169_19, s169_21, s169_24, s169_25, s169_28, s169_29, oB_some, cl2_i, cl2_r, cl2_l, cl2_u, cl2_s, wd_0, wd_i, wd_r, wd_l, wd_f, ct_i, ct_r, ct_n, ct_f, rf_s, rf_n, tl_s, tl_n, true_and, and_true, eq_self, and_self, Nat.reduceAdd, Nat.reduceLeDiff, Nat.zero_le, Nat.reduceEqDiff, or_true, true_or, false_or, or_false, if_true, if_false, gI_0, gI_1, gI_2, gI_3, gI_4, gI_5, gI_6, gI_7, gI_8, gI_9, gI_10, gI_11, gI_12, gI_13, gI_14, gI_15, gL_0, gL_1, gL_2, gL_3, gL_4, gL_5, gL_6, gL_7, gL_8, gL_9, gL_10, gL_11, gL_12, gL_13, gL_14, gL_15, gA_0, gA_1, gA_2, gA_3, gA_4, gA_5, gA_6, gA_7, gA_8, gA_9, gA_10, gA_11, gA_12, gA_13, gA_14, gA_15, p1_0, p1_1, p1_2, p1_3, p1_4, p1_5, p1_6, p1_7, p1_8, p1_9, p1_10, p1_11, p1_12, p1_13, p1_14, p1_15, p2_0, p2_1, p2_2, p2_3, p2_4, p2_5, p2_6, p2_7, p2_8, p2_9, p2_10, p2_11, p2_12, p2_13, p2_14, p2_15, b01_ok, b_ft, b_tf, b01_e0, b01_e1, lgc_0, not_true_eq_false, not_false_eq_true, z_hkd_sI, z_hln_sI, z_hL_sI, z_hR_sI, z_hnx_sI, z_hkd_sL, z_hln_sL, z_hI_sL, z_hR_sL, z_hnx_sL, z_hkd_sR, z_hln_sR, z_hI_sR, z_hL_sR, z_hnx_sR, z_hkd_cI, z_hln_cI, z_hL_cI, z_hR_cI, z_hnx_cI, z_hkd_cLg, z_hln_cLg, z_hI_cLg, z_hR_cLg, z_hnx_cLg, x20, K2]
      refine v_passDays q3 g3 f3 (by decide) hn fun h4 m4 q4 f4 => ?_
      have x4 := (x2.kept m3).kept m4
      have x40 := x4.1
      have K4 := q4.k
      unfold VK at K4
      have kp := dayN_keep (ink := 0) (dm := false) (sh := false) (n := n) g3 hn
      simp only [s169_32, s169_33, s169_36, s169_37, s169_38, s169_41, s169_44, s169_46, s169_47, s169_50, s169_55, oB_some, cl2_i, cl2_r, cl2_l, cl2_u, cl2_s, wd_0, wd_i, wd_r, wd_l, wd_f, ct_i, ct_r, ct_n, ct_f, rf_s, rf_n, tl_s, tl_n, true_and, and_true, eq_self, and_self, Nat.reduceAdd, Nat.reduceLeDiff, Nat.zero_le, Nat.reduceEqDiff, or_true, true_or, false_or, or_false, if_true, if_false, gI_0, gI_1, gI_2, gI_3, gI_4, gI_5, gI_6, gI_7, gI_8, gI_9, gI_10, gI_11, gI_12, gI_13, gI_14, gI_15, gL_0, gL_1, gL_2, gL_3, gL_4, gL_5, gL_6, gL_7, gL_8, gL_9, gL_10, gL_11, gL_12, gL_13, gL_14, gL_15, gA_0, gA_1, gA_2, gA_3, gA_4, gA_5, gA_6, gA_7, gA_8, gA_9, gA_10, gA_11, gA_12, gA_13, gA_14, gA_15, p1_0, p1_1, p1_2, p1_3, p1_4, p1_5, p1_6, p1_7, p1_8, p1_9, p1_10, p1_11, p1_12, p1_13, p1_14, p1_15, p2_0, p2_1, p2_2, p2_3, p2_4, p2_5, p2_6, p2_7, p2_8, p2_9, p2_10, p2_11, p2_12, p2_13, p2_14, p2_15, b01_ok, b_ft, b_tf, b01_e0, b01_e1, lgc_0, not_true_eq_false, not_false_eq_true, x40, K4, v_hasLearnt q4 kp.1 (show p < vn (dayN 0 false false n (wU S j)) by rw [kp.2.1]; exact hp) hc, nI_1]
      have mm := m1.tr (m2.tr (m3.tr m4))
      by_cases e : hb (vw (dayN 0 false false n (wU S j)) p) c = true
      · rw [if_pos (by rw [e]; decide)]
        rw [if_neg (by unfold rubN; rw [e]; decide)] at e1
        exact ih (j + 1) h4 (by omega) mm e1
      · rw [if_neg (by simpa using e)]
        rw [if_pos (by unfold rubN; simpa using e)] at e1
        have kk := k h4 mm
        rw [← e1] at kk
        exact kk
  simp only [e169, s169_0, s169_1, oB_some, cl2_i, cl2_r, cl2_l, cl2_u, cl2_s, wd_0, wd_i, wd_r, wd_l, wd_f, ct_i, ct_r, ct_n, ct_f, rf_s, rf_n, tl_s, tl_n, true_and, and_true, eq_self, and_self, Nat.reduceAdd, Nat.reduceLeDiff, Nat.zero_le, Nat.reduceEqDiff, or_true, true_or, false_or, or_false, if_true, if_false, gI_0, gI_1, gI_2, gI_3, gI_4, gI_5, gI_6, gI_7, gI_8, gI_9, gI_10, gI_11, gI_12, gI_13, gI_14, gI_15, gL_0, gL_1, gL_2, gL_3, gL_4, gL_5, gL_6, gL_7, gL_8, gL_9, gL_10, gL_11, gL_12, gL_13, gL_14, gL_15, gA_0, gA_1, gA_2, gA_3, gA_4, gA_5, gA_6, gA_7, gA_8, gA_9, gA_10, gA_11, gA_12, gA_13, gA_14, gA_15, p1_0, p1_1, p1_2, p1_3, p1_4, p1_5, p1_6, p1_7, p1_8, p1_9, p1_10, p1_11, p1_12, p1_13, p1_14, p1_15, p2_0, p2_1, p2_2, p2_3, p2_4, p2_5, p2_6, p2_7, p2_8, p2_9, p2_10, p2_11, p2_12, p2_13, p2_14, p2_15, b01_ok, b_ft, b_tf, b01_e0, b01_e1, lgc_0, not_true_eq_false, not_false_eq_true]
  exact loop 19 0 h (by omega) Fm.rf rfl
theorem v_passInInk {d : Nat} {Q : PQ} {h : HP} {f v w n ink : Nat} {S : VS} (x : FY h f v w S) (g : Good S) (hn : vy S + n < 2 ^ 20) (hi : ink < 64)
    (k : ∀ h', Fm w 12 h h' → RV h' w (dayN ink false false n S) → Q none h') : Ev (d + 6) 175 [.ref f, .int (nI ink), .int (nI n)] h Q := by
  have x0 := x.1
  simp only [e175, s175_0, s175_1, oB_some, cl2_i, cl2_r, cl2_l, cl2_u, cl2_s, wd_0, wd_i, wd_r, wd_l, wd_f, ct_i, ct_r, ct_n, ct_f, rf_s, rf_n, tl_s, tl_n, true_and, and_true, eq_self, and_self, Nat.reduceAdd, Nat.reduceLeDiff, Nat.zero_le, Nat.reduceEqDiff, or_true, true_or, false_or, or_false, if_true, if_false, gI_0, gI_1, gI_2, gI_3, gI_4, gI_5, gI_6, gI_7, gI_8, gI_9, gI_10, gI_11, gI_12, gI_13, gI_14, gI_15, gL_0, gL_1, gL_2, gL_3, gL_4, gL_5, gL_6, gL_7, gL_8, gL_9, gL_10, gL_11, gL_12, gL_13, gL_14, gL_15, gA_0, gA_1, gA_2, gA_3, gA_4, gA_5, gA_6, gA_7, gA_8, gA_9, gA_10, gA_11, gA_12, gA_13, gA_14, gA_15, p1_0, p1_1, p1_2, p1_3, p1_4, p1_5, p1_6, p1_7, p1_8, p1_9, p1_10, p1_11, p1_12, p1_13, p1_14, p1_15, p2_0, p2_1, p2_2, p2_3, p2_4, p2_5, p2_6, p2_7, p2_8, p2_9, p2_10, p2_11, p2_12, p2_13, p2_14, p2_15, b01_ok, b_ft, b_tf, b01_e0, b01_e1, lgc_0, not_true_eq_false, not_false_eq_true, x0]
  refine v_asItIs x g fun h1 m1 q1 f1 => ?_
  have x1 := (x.kept m1).1
  have K1 := q1.k
  unfold VK at K1
  have q2 : RV (sI h1 w 13 (nI ink)) w S := RV_i q1 (by decide)
  simp only [s175_4, s175_5, s175_6, s175_9, s175_10, s175_13, s175_14, s175_17, s175_18, oB_some, cl2_i, cl2_r, cl2_l, cl2_u, cl2_s, wd_0, wd_i, wd_r, wd_l, wd_f, ct_i, ct_r, ct_n, ct_f, rf_s, rf_n, tl_s, tl_n, true_and, and_true, eq_self, and_self, Nat.reduceAdd, Nat.reduceLeDiff, Nat.zero_le, Nat.reduceEqDiff, or_true, true_or, false_or, or_false, if_true, if_false, gI_0, gI_1, gI_2, gI_3, gI_4, gI_5, gI_6, gI_7, gI_8, gI_9, gI_10, gI_11, gI_12, gI_13, gI_14, gI_15, gL_0, gL_1, gL_2, gL_3, gL_4, gL_5, gL_6, gL_7, gL_8, gL_9, gL_10, gL_11, gL_12, gL_13, gL_14, gL_15, gA_0, gA_1, gA_2, gA_3, gA_4, gA_5, gA_6, gA_7, gA_8, gA_9, gA_10, gA_11, gA_12, gA_13, gA_14, gA_15, p1_0, p1_1, p1_2, p1_3, p1_4, p1_5, p1_6, p1_7, p1_8, p1_9, p1_10, p1_11, p1_12, p1_13, p1_14, p1_15, p2_0, p2_1, p2_2, p2_3, p2_4, p2_5, p2_6, p2_7, p2_8, p2_9, p2_10, p2_11, p2_12, p2_13, p2_14, p2_15, b01_ok, b_ft, b_tf, b01_e0, b01_e1, lgc_0, not_true_eq_false, not_false_eq_true, z_hkd_sI, z_hln_sI, z_hL_sI, z_hR_sI, z_hnx_sI, z_hkd_sL, z_hln_sL, z_hI_sL, z_hR_sL, z_hnx_sL, z_hkd_sR, z_hln_sR, z_hI_sR, z_hL_sR, z_hnx_sR, z_hkd_cI, z_hln_cI, z_hL_cI, z_hR_cI, z_hnx_cI, z_hkd_cLg, z_hln_cLg, z_hI_cLg, z_hR_cLg, z_hnx_cLg, x1, K1]
  refine v_passDays q2 g (FV_ink f1) hi hn fun h3 m3 q3 f3 => ?_
  simp only [s175_21, oB_some, cl2_i, cl2_r, cl2_l, cl2_u, cl2_s, wd_0, wd_i, wd_r, wd_l, wd_f, ct_i, ct_r, ct_n, ct_f, rf_s, rf_n, tl_s, tl_n, true_and, and_true, eq_self, and_self, Nat.reduceAdd, Nat.reduceLeDiff, Nat.zero_le, Nat.reduceEqDiff, or_true, true_or, false_or, or_false, if_true, if_false, gI_0, gI_1, gI_2, gI_3, gI_4, gI_5, gI_6, gI_7, gI_8, gI_9, gI_10, gI_11, gI_12, gI_13, gI_14, gI_15, gL_0, gL_1, gL_2, gL_3, gL_4, gL_5, gL_6, gL_7, gL_8, gL_9, gL_10, gL_11, gL_12, gL_13, gL_14, gL_15, gA_0, gA_1, gA_2, gA_3, gA_4, gA_5, gA_6, gA_7, gA_8, gA_9, gA_10, gA_11, gA_12, gA_13, gA_14, gA_15, p1_0, p1_1, p1_2, p1_3, p1_4, p1_5, p1_6, p1_7, p1_8, p1_9, p1_10, p1_11, p1_12, p1_13, p1_14, p1_15, p2_0, p2_1, p2_2, p2_3, p2_4, p2_5, p2_6, p2_7, p2_8, p2_9, p2_10, p2_11, p2_12, p2_13, p2_14, p2_15, b01_ok, b_ft, b_tf, b01_e0, b01_e1, lgc_0, not_true_eq_false, not_false_eq_true]
  exact k h3 (m1.tr ((Fm.rf.sI (Nat.le_refl _) (by omega)).tr m3)) q3
