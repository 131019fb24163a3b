-- written by gen80.py: the one side's other calls
/-- what stays below x + 54 but for the picture -/
def FC0' (x : Nat) (h h' : HP) : Prop := (∀ b, b < x + 54 → hkd h' b = hkd h b ∧ hln h' b = hln h b ∧ hI h' b = hI h b ∧ hL h' b = hL h b ∧ (¬ b = x → hR h' b = hR h b)) ∧ hnx h ≤ hnx h' ∧ ∀ j, ¬ j = 7 → hR h' x j = hR h x j
theorem FC0'.rf {x : Nat} {h : HP} : FC0' x h h := ⟨fun _ _ => ⟨rfl, rfl, rfl, rfl, fun _ => rfl⟩, Nat.le_refl _, fun _ _ => rfl⟩
theorem FC0'.fa {x : Nat} {h h' : HP} (f : FC0' x h h') : FA x h h' := ⟨fun b hb => by
  obtain ⟨a1, a2, a3, a4, a5⟩ := f.1 b (by omega)
  exact ⟨a1, a2, a3, a4, a5 (by omega)⟩, f.2.1⟩
theorem FC0'.xq {h h' : HP} {x : Nat} {S : VS} (f : FC0' x h h') (a : XQ h x S) : XQ h' x S := by
  obtain ⟨a1, ⟨b1, b2, b3, b4⟩, a3, a4⟩ := a
  have e : ∀ j, 1 ≤ j → j < 54 → hkd h' (x + j) = hkd h (x + j) ∧ hln h' (x + j) = hln h (x + j) ∧ hI h' (x + j) = hI h (x + j) ∧ hL h' (x + j) = hL h (x + j) ∧ hR h' (x + j) = hR h (x + j) := fun j h1 hj => by
    obtain ⟨c1, c2, c3, c4, c5⟩ := f.1 (x + j) (by omega)
    exact ⟨c1, c2, c3, c4, c5 (by omega)⟩
  have k0 := f.1 x (by omega)
  refine ⟨?_, ⟨?_, ?_, ?_, b4⟩, ?_, ?_⟩
  · unfold XK at a1 ⊢
    rw [k0.1, (e 1 (by decide) (by decide)).1, (e 2 (by decide) (by decide)).1, (e 3 (by decide) (by decide)).1, (e 4 (by decide) (by decide)).1, (e 5 (by decide) (by decide)).1, (e 6 (by decide) (by decide)).1,
      (e 2 (by decide) (by decide)).2.1, (e 4 (by decide) (by decide)).2.1, (e 5 (by decide) (by decide)).2.1, (e 6 (by decide) (by decide)).2.1, f.2.2 0 (by decide), f.2.2 1 (by decide), f.2.2 2 (by decide), f.2.2 3 (by decide), f.2.2 4 (by decide), f.2.2 5 (by decide), (e 1 (by decide) (by decide)).2.2.2.2, (e 3 (by decide) (by decide)).2.2.2.2]
    exact a1
  · rw [(e 19 (by decide) (by decide)).1, (e 19 (by decide) (by decide)).2.2.2.2]
    exact b1
  · refine b2.cells fun b h1 h2 => ?_
    have := e (b - x) (by omega) (by omega)
    rw [show x + (b - x) = b by omega] at this
    exact ⟨this.1, this.2.1, this.2.2.2.2⟩
  · refine b3.cells fun b h1 h2 => ?_
    have := e (b - x) (by omega) (by omega)
    rw [show x + (b - x) = b by omega] at this
    exact ⟨this.1, this.2.1, this.2.2.2.2, this.2.2.1, this.2.2.2.1⟩
  · unfold FYe at a3 ⊢
    rw [(e 19 (by decide) (by decide)).2.2.2.2, show hkd h' (x + 20 + 12) = hkd h (x + 20 + 12) from (e 32 (by decide) (by decide)).1, show hkd h' (x + 20 + 13) = hkd h (x + 20 + 13) from (e 33 (by decide) (by decide)).1, show hln h' (x + 20 + 12) = hln h (x + 20 + 12) from (e 32 (by decide) (by decide)).2.1, show hln h' (x + 20 + 13) = hln h (x + 20 + 13) from (e 33 (by decide) (by decide)).2.1]
    exact a3
  · unfold FV at a4 ⊢
    rw [(e 7 (by decide) (by decide)).2.2.1]
    exact a4
theorem XQ.far {lo n x : Nat} {h h' : HP} {S : VS} (a : XQ h x S) (m : Fm lo n h h') (h1 : x + 34 ≤ lo) : XQ h' x S := by
  obtain ⟨a1, ⟨b1, b2, b3, b4⟩, a3, a4⟩ := a
  refine ⟨a1.kept m.2.1 m.2.2.1 m.2.2.2.1, ⟨?_, b2.kept m.2.1 m.2.2.1 m.2.2.2.1, b3.kept m (Or.inl (by omega)), b4⟩, a3.kept m, a4.kept m (Or.inl (by omega))⟩
  rw [m.2.1, m.2.2.2.1]
  exact b1
theorem XQ.fc0' {lo n x : Nat} {h h' : HP} {S : VS} (a : XQ h x S) (m : Fm lo n h h') (h1 : lo + n ≤ x + 7) (h2 : 0 ≤ lo) : XQ h' x S := by
  obtain ⟨a1, ⟨b1, b2, b3, b4⟩, a3, a4⟩ := a
  refine ⟨a1.kept m.2.1 m.2.2.1 m.2.2.2.1, ⟨?_, b2.kept m.2.1 m.2.2.1 m.2.2.2.1, b3.kept m (Or.inr (by omega)), b4⟩, a3.kept m, a4.kept m (Or.inr (by omega))⟩
  rw [m.2.1, m.2.2.2.1]
  exact b1
theorem nz_0 : True := by decide
theorem nz_1 : ¬ (1 : Int32) = 0 := by decide
theorem nz_2 : ¬ (2 : Int32) = 0 ∧ ¬ (2 : Int32) = 1 := by decide
theorem nz_3 : ¬ (3 : Int32) = 0 ∧ ¬ (3 : Int32) = 1 ∧ ¬ (3 : Int32) = 2 := by decide
theorem nz_4 : ¬ (4 : Int32) = 0 ∧ ¬ (4 : Int32) = 1 ∧ ¬ (4 : Int32) = 2 ∧ ¬ (4 : Int32) = 3 := by decide
theorem nz_5 : ¬ (5 : Int32) = 0 ∧ ¬ (5 : Int32) = 1 ∧ ¬ (5 : Int32) = 2 ∧ ¬ (5 : Int32) = 3 ∧ ¬ (5 : Int32) = 4 := by decide
theorem nz_6 : ¬ (6 : Int32) = 0 ∧ ¬ (6 : Int32) = 1 ∧ ¬ (6 : Int32) = 2 ∧ ¬ (6 : Int32) = 3 ∧ ¬ (6 : Int32) = 4 ∧ ¬ (6 : Int32) = 5 := by decide
theorem nz_7 : ¬ (7 : Int32) = 0 ∧ ¬ (7 : Int32) = 1 ∧ ¬ (7 : Int32) = 2 ∧ ¬ (7 : Int32) = 3 ∧ ¬ (7 : Int32) = 4 ∧ ¬ (7 : Int32) = 5 ∧ ¬ (7 : Int32) = 6 := by decide
theorem nz_8 : ¬ (8 : Int32) = 0 ∧ ¬ (8 : Int32) = 1 ∧ ¬ (8 : Int32) = 2 ∧ ¬ (8 : Int32) = 3 ∧ ¬ (8 : Int32) = 4 ∧ ¬ (8 : Int32) = 5 ∧ ¬ (8 : Int32) = 6 ∧ ¬ (8 : Int32) = 7 := by decide
theorem nz_9 : ¬ (9 : Int32) = 0 ∧ ¬ (9 : Int32) = 1 ∧ ¬ (9 : Int32) = 2 ∧ ¬ (9 : Int32) = 3 ∧ ¬ (9 : Int32) = 4 ∧ ¬ (9 : Int32) = 5 ∧ ¬ (9 : Int32) = 6 ∧ ¬ (9 : Int32) = 7 ∧ ¬ (9 : Int32) = 8 := by decide
theorem nz_10 : ¬ (10 : Int32) = 0 ∧ ¬ (10 : Int32) = 1 ∧ ¬ (10 : Int32) = 2 ∧ ¬ (10 : Int32) = 3 ∧ ¬ (10 : Int32) = 4 ∧ ¬ (10 : Int32) = 5 ∧ ¬ (10 : Int32) = 6 ∧ ¬ (10 : Int32) = 7 ∧ ¬ (10 : Int32) = 8 ∧ ¬ (10 : Int32) = 9 := by decide
theorem arg11 {w : Int32} (h1 : ¬ w < 11) (h2 : ¬ 16 < w) : ∃ j, 11 ≤ j ∧ j ≤ 16 ∧ w = nI j := by
  have h0 : ¬ w < 0 := fun c => h1 (Int32.lt_iff_toInt_lt.mpr (by
    have := Int32.lt_iff_toInt_lt.mp c
    rw [show ((0 : Int32)).toInt = 0 from by decide] at this
    rw [show ((11 : Int32)).toInt = 11 from by decide]
    omega))
  obtain ⟨j, hj, rfl⟩ := arg_of (n := 16) (M := 16) rfl (by decide) h0 h2
  refine ⟨j, ?_, hj, rfl⟩
  have := (nI_leI (a := 11) (b := j) (by decide) (by omega)).mp (Int32.not_lt.mp h1)
  exact this
theorem CI.tape {x tl len : Nat} {tp r : Nat → Nat} {h : HP} {S : VS} {H : HS} (C : CI h x S H tp tl r len) {j : Nat} (ht : tl < 96) (hj : j < 256) : CI (sI (sI h (x + 4) tl (nI j)) (x + 3) 1 (nI (tl + 1))) x S H (va_up tp tl j) (tl + 1) r len := by
  obtain ⟨X, P, T, R⟩ := C
  have m : Fm (x + 3) 2 h (sI (sI h (x + 4) tl (nI j)) (x + 3) 1 (nI (tl + 1))) := (Fm.rf.sI (by omega) (by omega)).sI (by omega) (by omega)
  refine ⟨X.fc0' m (by omega) (by omega), P.kept m (Or.inl (by omega)) (by omega), ⟨by rw [hI_sI, if_pos ⟨rfl, rfl⟩], by omega, fun i hi => ?_⟩, R.kept m (Or.inr (by omega))⟩
  rw [hI_sI_ne (by omega), hI_sI_eq]
  unfold va_up
  by_cases e : i = tl
  · rw [if_pos e, if_pos e]
    exact ⟨rfl, hj⟩
  · rw [if_neg e, if_neg e]
    exact T.2.2 i (by omega)
theorem CI.tape0 {x tl len : Nat} {tp r : Nat → Nat} {h : HP} {S : VS} {H : HS} (C : CI h x S H tp tl r len) : CI (sI h (x + 3) 1 0) x S H tp 0 r len := by
  obtain ⟨X, P, T, R⟩ := C
  have m : Fm (x + 3) 1 h (sI h (x + 3) 1 0) := Fm.rf.sI (by omega) (by omega)
  exact ⟨X.fc0' m (by omega) (by omega), P.kept m (Or.inl (by omega)) (by omega), ⟨by rw [hI_sI, if_pos ⟨rfl, rfl⟩]; rfl, by omega, fun i hi => absurd hi (Nat.not_lt_zero i)⟩, R.kept m (Or.inr (by omega))⟩
theorem XR.x0 {x len len2 : Nat} {r : Nat → Nat} {h : HP} (R : XR h x r len) (hl : len2 ≤ len) : XR (sI h x 6 (nI len2)) x r len2 := by
  obtain ⟨⟨r1, r2, r3, r4⟩, r5⟩ := R
  refine ⟨⟨r1, r2, by omega, fun i hi => ?_⟩, by rw [hI_sI, if_pos ⟨rfl, rfl⟩]⟩
  rw [hI_sI_ne (by omega)]
  exact r4 i (by omega)
theorem CI.row0 {x tl len : Nat} {tp r : Nat → Nat} {h : HP} {S : VS} {H : HS} (C : CI h x S H tp tl r len) : CI (sI h x 6 0) x S H tp tl r 0 := by
  obtain ⟨X, P, T, R⟩ := C
  have m : Fm x 1 h (sI h x 6 0) := Fm.rf.sI (by omega) (by omega)
  exact ⟨X.fc0' m (by omega) (by omega), P.kept m (Or.inr (by omega)) (by omega), T.kept m (Or.inr (by omega)), R.x0 (len2 := 0) (Nat.zero_le _)⟩
theorem CI.row1 {x tl len : Nat} {tp r : Nat → Nat} {h : HP} {S : VS} {H : HS} (C : CI h x S H tp tl r len) {j : Nat} (ht : len < 12) (hj : j < 100) : CI (sI (sI h (x + 5) len (nI j)) x 6 (nI (len + 1))) x S H tp tl (va_up r len j) (len + 1) := by
  obtain ⟨X, P, T, R⟩ := C
  have m1 : Fm (x + 5) 1 h (sI h (x + 5) len (nI j)) := Fm.rf.sI (by omega) (by omega)
  have m2 : Fm x 1 (sI h (x + 5) len (nI j)) (sI (sI h (x + 5) len (nI j)) x 6 (nI (len + 1))) := Fm.rf.sI (by omega) (by omega)
  obtain ⟨⟨r1, r2, r3, r4⟩, r5⟩ := R
  refine ⟨(X.fc0' m1 (by omega) (by omega)).fc0' m2 (by omega) (by omega), (P.kept m1 (Or.inl (by omega)) (by omega)).kept m2 (Or.inr (by omega)) (by omega), (T.kept m1 (Or.inl (by omega))).kept m2 (Or.inr (by omega)), ⟨r1, r2, by omega, fun i hi => ?_⟩, by rw [hI_sI, if_pos ⟨rfl, rfl⟩]⟩
  rw [hI_sI_ne (by omega), hI_sI_eq]
  unfold va_up
  by_cases e : i = len
  · rw [if_pos e, if_pos e]
    exact ⟨rfl, hj⟩
  · rw [if_neg e, if_neg e]
    exact r4 i (by omega)
def isFl (tl : Nat) : Bool := decide (tl = 96)
theorem v_postFull {d tl : Nat} {Q : PQ} {h : HP} {p : Nat} (hk : hkd h p = 13) (hn : hI h p 1 = nI tl) (ht : tl ≤ 96) : Ev (d + 1) 10 [.ref p] h Q = Q (some (.int (b01 (decide (tl = 96))))) h := by
  simp only [e10, s10_0, s10_1, s10_4, s10_6, s10_9, s10_10, s10_13, s10_14, oB_some, cl2_i, cl2_r, cl2_l, cl2_u, cl2_s, wd_0, wd_i, wd_r, wd_l, wd_f, ct_i, ct_r, ct_n, ct_f, rf_s, rf_n, tl_s, tl_n, true_and, and_true, eq_self, and_self, Nat.reduceAdd, Nat.reduceLeDiff, Nat.zero_le, Nat.reduceEqDiff, or_true, true_or, false_or, or_false, if_true, if_false, gI_0, gI_1, gI_2, gI_3, gI_4, gI_5, gI_6, gI_7, gI_8, gI_9, gI_10, gI_11, gI_12, gI_13, gI_14, gI_15, gL_0, gL_1, gL_2, gL_3, gL_4, gL_5, gL_6, gL_7, gL_8, gL_9, gL_10, gL_11, gL_12, gL_13, gL_14, gL_15, gA_0, gA_1, gA_2, gA_3, gA_4, gA_5, gA_6, gA_7, gA_8, gA_9, gA_10, gA_11, gA_12, gA_13, gA_14, gA_15, p1_0, p1_1, p1_2, p1_3, p1_4, p1_5, p1_6, p1_7, p1_8, p1_9, p1_10, p1_11, p1_12, p1_13, p1_14, p1_15, p2_0, p2_1, p2_2, p2_3, p2_4, p2_5, p2_6, p2_7, p2_8, p2_9, p2_10, p2_11, p2_12, p2_13, p2_14, p2_15, b01_ok, b_ft, b_tf, b01_e0, b01_e1, lgc_0, not_true_eq_false, not_false_eq_true, hk, hn]
  by_cases e : tl = 96
  · subst e
    rw [if_neg (by decide)]
    rfl
  · rw [if_pos (show nI tl < 96 from nI_lt (b := 96) (by omega) (by decide)), decide_eq_false e]
    rfl
set_option maxHeartbeats 4000000 in
theorem v_take {d tl : Nat} {Q : PQ} {h : HP} {x : Nat} {y : Int32} (X : XK h x) (hn : hI h (x + 3) 1 = nI tl) (ht : tl < 96) : Ev (d + 2) 13 [.ref (x + 3), .int y] h Q = Q (some (.int (nI (tl + 1)))) (sI (sI h (x + 4) tl y) (x + 3) 1 (nI (tl + 1))) := by
  have K := X
  unfold XK at K
  have e0 : b01 (decide (tl = 96)) = 0 := by rw [decide_eq_false (by omega)]; rfl
  have t31 : tl < 2 ^ 31 := by omega
  have n1 : hI (sI h (x + 4) tl y) (x + 3) 1 = nI tl := by rw [hI_sI_ne (by omega)]; exact hn
  have n2 : hI (sI (sI h (x + 4) tl y) (x + 3) 1 (nI (tl + 1))) (x + 3) 1 = nI (tl + 1) := by rw [hI_sI, if_pos ⟨rfl, rfl⟩]
  simp only [e13, s13_0, s13_1, s13_4, s13_7, s13_8, s13_11, s13_12, s13_15, s13_16, s13_17, s13_18, s13_19, s13_22, s13_23, s13_24, s13_27, s13_28, s13_31, oB_some, cl2_i, cl2_r, cl2_l, cl2_u, cl2_s, wd_0, wd_i, wd_r, wd_l, wd_f, ct_i, ct_r, ct_n, ct_f, rf_s, rf_n, tl_s, tl_n, true_and, and_true, eq_self, and_self, Nat.reduceAdd, Nat.reduceLeDiff, Nat.zero_le, Nat.reduceEqDiff, or_true, true_or, false_or, or_false, if_true, if_false, gI_0, gI_1, gI_2, gI_3, gI_4, gI_5, gI_6, gI_7, gI_8, gI_9, gI_10, gI_11, gI_12, gI_13, gI_14, gI_15, gL_0, gL_1, gL_2, gL_3, gL_4, gL_5, gL_6, gL_7, gL_8, gL_9, gL_10, gL_11, gL_12, gL_13, gL_14, gL_15, gA_0, gA_1, gA_2, gA_3, gA_4, gA_5, gA_6, gA_7, gA_8, gA_9, gA_10, gA_11, gA_12, gA_13, gA_14, gA_15, p1_0, p1_1, p1_2, p1_3, p1_4, p1_5, p1_6, p1_7, p1_8, p1_9, p1_10, p1_11, p1_12, p1_13, p1_14, p1_15, p2_0, p2_1, p2_2, p2_3, p2_4, p2_5, p2_6, p2_7, p2_8, p2_9, p2_10, p2_11, p2_12, p2_13, p2_14, p2_15, b01_ok, b_ft, b_tf, b01_e0, b01_e1, lgc_0, not_true_eq_false, not_false_eq_true, z_hkd_sI, z_hln_sI, z_hL_sI, z_hR_sI, z_hnx_sI, z_hkd_sL, z_hln_sL, z_hI_sL, z_hR_sL, z_hnx_sL, z_hkd_sR, z_hln_sR, z_hI_sR, z_hL_sR, z_hnx_sR, z_hkd_cI, z_hln_cI, z_hL_cI, z_hR_cI, z_hnx_cI, z_hkd_cLg, z_hln_cLg, z_hI_cLg, z_hR_cLg, z_hnx_cLg, K, v_postFull K.1.2.2.2.1 hn (show tl ≤ 96 by omega), e0, hn, ix_nI t31, nI_pos' t31, ht, n1, nI_1, n2]
set_option maxHeartbeats 8000000 in
theorem x_feed {y : Int32} {d tl len : Nat} {tp r : Nat → Nat} {Q : PQ} {h : HP} {x : Nat} {S : VS} {H : HS} (C : CI h x S H tp tl r len) (gS : GV S) (gH : GH H)
    (kr : ∀ w, why false (decide (y < 0)) (decide (255 < y) || isFl tl) false = w → ¬ w = 0 → Q (some (.int w)) (RfC h x w))
    (k : why false (decide (y < 0)) (decide (255 < y) || isFl tl) false = 0 → KC h x S H (va_up tp tl (tc y)) (tl + 1) r len (Q (some (.int (nI (tl + 1)))))) : Ev (d + 4) 9 [.ref x, .int y] h Q := by
  have X := C.1
  have g := gS.1
  have hy := gS.2
  have K := X.1
  unfold XK at K
  have V := X.v.k
  unfold VK at V
  have F := X.2.1.1
  have gn := g.n
  have gl := g.l
  have T := C.2.2.1
  have pf := fun (h1 : HP) (Q1 : PQ) (e1 : h1 = h) => v_postFull (d := d + 2) (Q := Q1) (h := h1) (p := x + 3) (tl := tl) (by rw [e1]; exact K.1.2.2.2.1) (by rw [e1]; exact T.1) T.2.1
  have pf2 : ∀ (Q1 : PQ), Ev (d + 3) 10 [.ref (x + 3)] h Q1 = Q1 (some (.int (b01 (isFl tl)))) h := fun Q1 => pf h Q1 rfl
  by_cases h0 : y < 0
  · have h0n := Int32.not_le.mpr h0
    simp only [e9, s9_0, s9_1, s9_2, s9_5, s9_6, s9_9, s9_10, s9_11, s9_14, s9_17, s9_18, s9_21, s9_24, s9_27, s9_28, s9_31, s9_32, s9_33, s9_36, s9_37, s9_38, s9_41, s9_42, s9_43, s9_46, s9_49, s9_50, s9_53, s9_54, s9_57, oB_some, cl2_i, cl2_r, cl2_l, cl2_u, cl2_s, wd_0, wd_i, wd_r, wd_l, wd_f, ct_i, ct_r, ct_n, ct_f, rf_s, rf_n, tl_s, tl_n, true_and, and_true, eq_self, and_self, Nat.reduceAdd, Nat.reduceLeDiff, Nat.zero_le, Nat.reduceEqDiff, or_true, true_or, false_or, or_false, if_true, if_false, gI_0, gI_1, gI_2, gI_3, gI_4, gI_5, gI_6, gI_7, gI_8, gI_9, gI_10, gI_11, gI_12, gI_13, gI_14, gI_15, gL_0, gL_1, gL_2, gL_3, gL_4, gL_5, gL_6, gL_7, gL_8, gL_9, gL_10, gL_11, gL_12, gL_13, gL_14, gL_15, gA_0, gA_1, gA_2, gA_3, gA_4, gA_5, gA_6, gA_7, gA_8, gA_9, gA_10, gA_11, gA_12, gA_13, gA_14, gA_15, p1_0, p1_1, p1_2, p1_3, p1_4, p1_5, p1_6, p1_7, p1_8, p1_9, p1_10, p1_11, p1_12, p1_13, p1_14, p1_15, p2_0, p2_1, p2_2, p2_3, p2_4, p2_5, p2_6, p2_7, p2_8, p2_9, p2_10, p2_11, p2_12, p2_13, p2_14, p2_15, b01_ok, b_ft, b_tf, b01_e0, b01_e1, lgc_0, not_true_eq_false, not_false_eq_true, K, Bool.true_eq_false, Bool.false_eq_true, zm1, zm2, zm3, zm4, zm6, z10, v_whyNot, v_ref1 X, v_ref2 X, v_ref3 X, v_ref4 X, v_ref6 X, Bool.or_false, Bool.false_or, Bool.or_true, Bool.true_or, Bool.not_true, Bool.not_false, pf2, h0, h0n, ite_self]
    exact kr (-4) (by simp [why, h0]) (by decide)
  · have h0n := Int32.not_lt.mp h0
    by_cases h1 : 255 < y
    · have h1n := Int32.not_le.mpr h1
      simp only [e9, s9_0, s9_1, s9_2, s9_5, s9_6, s9_9, s9_10, s9_11, s9_14, s9_17, s9_18, s9_21, s9_24, s9_27, s9_28, s9_31, s9_32, s9_33, s9_36, s9_37, s9_38, s9_41, s9_42, s9_43, s9_46, s9_49, s9_50, s9_53, s9_54, s9_57, oB_some, cl2_i, cl2_r, cl2_l, cl2_u, cl2_s, wd_0, wd_i, wd_r, wd_l, wd_f, ct_i, ct_r, ct_n, ct_f, rf_s, rf_n, tl_s, tl_n, true_and, and_true, eq_self, and_self, Nat.reduceAdd, Nat.reduceLeDiff, Nat.zero_le, Nat.reduceEqDiff, or_true, true_or, false_or, or_false, if_true, if_false, gI_0, gI_1, gI_2, gI_3, gI_4, gI_5, gI_6, gI_7, gI_8, gI_9, gI_10, gI_11, gI_12, gI_13, gI_14, gI_15, gL_0, gL_1, gL_2, gL_3, gL_4, gL_5, gL_6, gL_7, gL_8, gL_9, gL_10, gL_11, gL_12, gL_13, gL_14, gL_15, gA_0, gA_1, gA_2, gA_3, gA_4, gA_5, gA_6, gA_7, gA_8, gA_9, gA_10, gA_11, gA_12, gA_13, gA_14, gA_15, p1_0, p1_1, p1_2, p1_3, p1_4, p1_5, p1_6, p1_7, p1_8, p1_9, p1_10, p1_11, p1_12, p1_13, p1_14, p1_15, p2_0, p2_1, p2_2, p2_3, p2_4, p2_5, p2_6, p2_7, p2_8, p2_9, p2_10, p2_11, p2_12, p2_13, p2_14, p2_15, b01_ok, b_ft, b_tf, b01_e0, b01_e1, lgc_0, not_true_eq_false, not_false_eq_true, K, Bool.true_eq_false, Bool.false_eq_true, zm1, zm2, zm3, zm4, zm6, z10, v_whyNot, v_ref1 X, v_ref2 X, v_ref3 X, v_ref4 X, v_ref6 X, Bool.or_false, Bool.false_or, Bool.or_true, Bool.true_or, Bool.not_true, Bool.not_false, pf2, h0, h0n, h1, h1n, ite_self]
      exact kr (-6) (by simp [why, h0, h1]) (by decide)
    · have h1n := Int32.not_lt.mp h1
      cases hf : isFl tl with
      | true =>
        simp only [e9, s9_0, s9_1, s9_2, s9_5, s9_6, s9_9, s9_10, s9_11, s9_14, s9_17, s9_18, s9_21, s9_24, s9_27, s9_28, s9_31, s9_32, s9_33, s9_36, s9_37, s9_38, s9_41, s9_42, s9_43, s9_46, s9_49, s9_50, s9_53, s9_54, s9_57, oB_some, cl2_i, cl2_r, cl2_l, cl2_u, cl2_s, wd_0, wd_i, wd_r, wd_l, wd_f, ct_i, ct_r, ct_n, ct_f, rf_s, rf_n, tl_s, tl_n, true_and, and_true, eq_self, and_self, Nat.reduceAdd, Nat.reduceLeDiff, Nat.zero_le, Nat.reduceEqDiff, or_true, true_or, false_or, or_false, if_true, if_false, gI_0, gI_1, gI_2, gI_3, gI_4, gI_5, gI_6, gI_7, gI_8, gI_9, gI_10, gI_11, gI_12, gI_13, gI_14, gI_15, gL_0, gL_1, gL_2, gL_3, gL_4, gL_5, gL_6, gL_7, gL_8, gL_9, gL_10, gL_11, gL_12, gL_13, gL_14, gL_15, gA_0, gA_1, gA_2, gA_3, gA_4, gA_5, gA_6, gA_7, gA_8, gA_9, gA_10, gA_11, gA_12, gA_13, gA_14, gA_15, p1_0, p1_1, p1_2, p1_3, p1_4, p1_5, p1_6, p1_7, p1_8, p1_9, p1_10, p1_11, p1_12, p1_13, p1_14, p1_15, p2_0, p2_1, p2_2, p2_3, p2_4, p2_5, p2_6, p2_7, p2_8, p2_9, p2_10, p2_11, p2_12, p2_13, p2_14, p2_15, b01_ok, b_ft, b_tf, b01_e0, b01_e1, lgc_0, not_true_eq_false, not_false_eq_true, K, Bool.true_eq_false, Bool.false_eq_true, zm1, zm2, zm3, zm4, zm6, z10, v_whyNot, v_ref1 X, v_ref2 X, v_ref3 X, v_ref4 X, v_ref6 X, Bool.or_false, Bool.false_or, Bool.or_true, Bool.true_or, Bool.not_true, Bool.not_false, pf2, h0, h0n, h1, h1n, hf, ite_self]
        exact kr (-6) (by simp [why, h0, h1, hf]) (by decide)
      | false =>
        have kk := k (by simp [why, h0, h1, hf])
        have tl96 : tl < 96 := by
          unfold isFl at hf
          have := T.2.1
          have : ¬ tl = 96 := by simpa using hf
          omega
        obtain ⟨j, hj, rfl⟩ := arg_of (n := 255) (M := 255) rfl (by decide) h0 h1
        rw [tc_n (show j < 2 ^ 31 by omega)] at kk
        simp only [e9, s9_0, s9_1, s9_2, s9_5, s9_6, s9_9, s9_10, s9_11, s9_14, s9_17, s9_18, s9_21, s9_24, s9_27, s9_28, s9_31, s9_32, s9_33, s9_36, s9_37, s9_38, s9_41, s9_42, s9_43, s9_46, s9_49, s9_50, s9_53, s9_54, s9_57, oB_some, cl2_i, cl2_r, cl2_l, cl2_u, cl2_s, wd_0, wd_i, wd_r, wd_l, wd_f, ct_i, ct_r, ct_n, ct_f, rf_s, rf_n, tl_s, tl_n, true_and, and_true, eq_self, and_self, Nat.reduceAdd, Nat.reduceLeDiff, Nat.zero_le, Nat.reduceEqDiff, or_true, true_or, false_or, or_false, if_true, if_false, gI_0, gI_1, gI_2, gI_3, gI_4, gI_5, gI_6, gI_7, gI_8, gI_9, gI_10, gI_11, gI_12, gI_13, gI_14, gI_15, gL_0, gL_1, gL_2, gL_3, gL_4, gL_5, gL_6, gL_7, gL_8, gL_9, gL_10, gL_11, gL_12, gL_13, gL_14, gL_15, gA_0, gA_1, gA_2, gA_3, gA_4, gA_5, gA_6, gA_7, gA_8, gA_9, gA_10, gA_11, gA_12, gA_13, gA_14, gA_15, p1_0, p1_1, p1_2, p1_3, p1_4, p1_5, p1_6, p1_7, p1_8, p1_9, p1_10, p1_11, p1_12, p1_13, p1_14, p1_15, p2_0, p2_1, p2_2, p2_3, p2_4, p2_5, p2_6, p2_7, p2_8, p2_9, p2_10, p2_11, p2_12, p2_13, p2_14, p2_15, b01_ok, b_ft, b_tf, b01_e0, b01_e1, lgc_0, not_true_eq_false, not_false_eq_true, K, Bool.true_eq_false, Bool.false_eq_true, zm1, zm2, zm3, zm4, zm6, z10, v_whyNot, v_ref1 X, v_ref2 X, v_ref3 X, v_ref4 X, v_ref6 X, Bool.or_false, Bool.false_or, Bool.or_true, Bool.true_or, Bool.not_true, Bool.not_false, pf2, h0, h0n, h1, h1n, hf, v_take X.1 T.1 tl96]
        exact kk _ (Fm.fa (lo := x + 3) (n := 2) ((Fm.rf.sI (by omega) (by omega)).sI (by omega) (by omega)) (by omega) (by omega)) (by rw [hI_sI_ne (by omega), hI_sI_ne (by omega)]) (C.tape tl96 (by omega))
set_option maxHeartbeats 8000000 in
theorem x_row {y : Int32} {d tl len : Nat} {tp r : Nat → Nat} {Q : PQ} {h : HP} {x : Nat} {S : VS} {H : HS} (C : CI h x S H tp tl r len) (gS : GV S) (gH : GH H)
    (kr : ∀ w, why false (decide (y < 0)) (decide (99 < y) || decide (len = 12)) false = w → ¬ w = 0 → Q (some (.int w)) (RfC h x w))
    (k : why false (decide (y < 0)) (decide (99 < y) || decide (len = 12)) false = 0 → KC h x S H tp tl (va_up r len (tc y)) (len + 1) (Q (some (.int (nI (len + 1)))))) : Ev (d + 4) 251 [.ref x, .int y] h Q := by
  have X := C.1
  have g := gS.1
  have hy := gS.2
  have K := X.1
  unfold XK at K
  have V := X.v.k
  unfold VK at V
  have F := X.2.1.1
  have gn := g.n
  have gl := g.l
  obtain ⟨⟨w1, w2, w3, w4⟩, w5⟩ := C.2.2.2
  by_cases h0 : y < 0
  · have h0n := Int32.not_le.mpr h0
    simp only [e251, s251_0, s251_1, s251_2, s251_5, s251_6, s251_9, s251_10, s251_11, s251_13, s251_16, s251_17, s251_20, s251_22, s251_25, s251_26, s251_29, s251_30, s251_31, s251_34, s251_35, s251_36, s251_39, s251_40, s251_41, s251_44, s251_45, s251_46, s251_49, s251_50, s251_53, s251_54, s251_55, s251_56, s251_57, s251_60, s251_61, s251_62, s251_65, s251_66, s251_69, oB_some, cl2_i, cl2_r, cl2_l, cl2_u, cl2_s, wd_0, wd_i, wd_r, wd_l, wd_f, ct_i, ct_r, ct_n, ct_f, rf_s, rf_n, tl_s, tl_n, true_and, and_true, eq_self, and_self, Nat.reduceAdd, Nat.reduceLeDiff, Nat.zero_le, Nat.reduceEqDiff, or_true, true_or, false_or, or_false, if_true, if_false, gI_0, gI_1, gI_2, gI_3, gI_4, gI_5, gI_6, gI_7, gI_8, gI_9, gI_10, gI_11, gI_12, gI_13, gI_14, gI_15, gL_0, gL_1, gL_2, gL_3, gL_4, gL_5, gL_6, gL_7, gL_8, gL_9, gL_10, gL_11, gL_12, gL_13, gL_14, gL_15, gA_0, gA_1, gA_2, gA_3, gA_4, gA_5, gA_6, gA_7, gA_8, gA_9, gA_10, gA_11, gA_12, gA_13, gA_14, gA_15, p1_0, p1_1, p1_2, p1_3, p1_4, p1_5, p1_6, p1_7, p1_8, p1_9, p1_10, p1_11, p1_12, p1_13, p1_14, p1_15, p2_0, p2_1, p2_2, p2_3, p2_4, p2_5, p2_6, p2_7, p2_8, p2_9, p2_10, p2_11, p2_12, p2_13, p2_14, p2_15, b01_ok, b_ft, b_tf, b01_e0, b01_e1, lgc_0, not_true_eq_false, not_false_eq_true, K, Bool.true_eq_false, Bool.false_eq_true, zm1, zm2, zm3, zm4, zm6, z10, v_whyNot, v_ref1 X, v_ref2 X, v_ref3 X, v_ref4 X, v_ref6 X, Bool.or_false, Bool.false_or, Bool.or_true, Bool.true_or, Bool.not_true, Bool.not_false, w5, h0, h0n, ite_self]
    exact kr (-4) (by simp [why, h0]) (by decide)
  · have h0n := Int32.not_lt.mp h0
    by_cases h1 : 99 < y
    · have h1n := Int32.not_le.mpr h1
      simp only [e251, s251_0, s251_1, s251_2, s251_5, s251_6, s251_9, s251_10, s251_11, s251_13, s251_16, s251_17, s251_20, s251_22, s251_25, s251_26, s251_29, s251_30, s251_31, s251_34, s251_35, s251_36, s251_39, s251_40, s251_41, s251_44, s251_45, s251_46, s251_49, s251_50, s251_53, s251_54, s251_55, s251_56, s251_57, s251_60, s251_61, s251_62, s251_65, s251_66, s251_69, oB_some, cl2_i, cl2_r, cl2_l, cl2_u, cl2_s, wd_0, wd_i, wd_r, wd_l, wd_f, ct_i, ct_r, ct_n, ct_f, rf_s, rf_n, tl_s, tl_n, true_and, and_true, eq_self, and_self, Nat.reduceAdd, Nat.reduceLeDiff, Nat.zero_le, Nat.reduceEqDiff, or_true, true_or, false_or, or_false, if_true, if_false, gI_0, gI_1, gI_2, gI_3, gI_4, gI_5, gI_6, gI_7, gI_8, gI_9, gI_10, gI_11, gI_12, gI_13, gI_14, gI_15, gL_0, gL_1, gL_2, gL_3, gL_4, gL_5, gL_6, gL_7, gL_8, gL_9, gL_10, gL_11, gL_12, gL_13, gL_14, gL_15, gA_0, gA_1, gA_2, gA_3, gA_4, gA_5, gA_6, gA_7, gA_8, gA_9, gA_10, gA_11, gA_12, gA_13, gA_14, gA_15, p1_0, p1_1, p1_2, p1_3, p1_4, p1_5, p1_6, p1_7, p1_8, p1_9, p1_10, p1_11, p1_12, p1_13, p1_14, p1_15, p2_0, p2_1, p2_2, p2_3, p2_4, p2_5, p2_6, p2_7, p2_8, p2_9, p2_10, p2_11, p2_12, p2_13, p2_14, p2_15, b01_ok, b_ft, b_tf, b01_e0, b01_e1, lgc_0, not_true_eq_false, not_false_eq_true, K, Bool.true_eq_false, Bool.false_eq_true, zm1, zm2, zm3, zm4, zm6, z10, v_whyNot, v_ref1 X, v_ref2 X, v_ref3 X, v_ref4 X, v_ref6 X, Bool.or_false, Bool.false_or, Bool.or_true, Bool.true_or, Bool.not_true, Bool.not_false, w5, h0, h0n, h1, h1n, ite_self]
      exact kr (-6) (by simp [why, h0, h1]) (by decide)
    · have h1n := Int32.not_lt.mp h1
      by_cases hf : len = 12
      · have hfn : ¬ nI len < 12 := by rw [hf]; decide
        simp only [e251, s251_0, s251_1, s251_2, s251_5, s251_6, s251_9, s251_10, s251_11, s251_13, s251_16, s251_17, s251_20, s251_22, s251_25, s251_26, s251_29, s251_30, s251_31, s251_34, s251_35, s251_36, s251_39, s251_40, s251_41, s251_44, s251_45, s251_46, s251_49, s251_50, s251_53, s251_54, s251_55, s251_56, s251_57, s251_60, s251_61, s251_62, s251_65, s251_66, s251_69, oB_some, cl2_i, cl2_r, cl2_l, cl2_u, cl2_s, wd_0, wd_i, wd_r, wd_l, wd_f, ct_i, ct_r, ct_n, ct_f, rf_s, rf_n, tl_s, tl_n, true_and, and_true, eq_self, and_self, Nat.reduceAdd, Nat.reduceLeDiff, Nat.zero_le, Nat.reduceEqDiff, or_true, true_or, false_or, or_false, if_true, if_false, gI_0, gI_1, gI_2, gI_3, gI_4, gI_5, gI_6, gI_7, gI_8, gI_9, gI_10, gI_11, gI_12, gI_13, gI_14, gI_15, gL_0, gL_1, gL_2, gL_3, gL_4, gL_5, gL_6, gL_7, gL_8, gL_9, gL_10, gL_11, gL_12, gL_13, gL_14, gL_15, gA_0, gA_1, gA_2, gA_3, gA_4, gA_5, gA_6, gA_7, gA_8, gA_9, gA_10, gA_11, gA_12, gA_13, gA_14, gA_15, p1_0, p1_1, p1_2, p1_3, p1_4, p1_5, p1_6, p1_7, p1_8, p1_9, p1_10, p1_11, p1_12, p1_13, p1_14, p1_15, p2_0, p2_1, p2_2, p2_3, p2_4, p2_5, p2_6, p2_7, p2_8, p2_9, p2_10, p2_11, p2_12, p2_13, p2_14, p2_15, b01_ok, b_ft, b_tf, b01_e0, b01_e1, lgc_0, not_true_eq_false, not_false_eq_true, K, Bool.true_eq_false, Bool.false_eq_true, zm1, zm2, zm3, zm4, zm6, z10, v_whyNot, v_ref1 X, v_ref2 X, v_ref3 X, v_ref4 X, v_ref6 X, Bool.or_false, Bool.false_or, Bool.or_true, Bool.true_or, Bool.not_true, Bool.not_false, w5, h0, h0n, h1, h1n, hfn, ite_self]
        exact kr (-6) (by simp [why, h0, h1, hf]) (by decide)
      · have hfn : nI len < 12 := nI_lt (b := 12) (by omega) (by decide)
        have kk := k (by simp [why, h0, h1, hf])
        obtain ⟨j, hj, rfl⟩ := arg_of (n := 99) (M := 99) rfl (by decide) h0 h1
        rw [tc_n (show j < 2 ^ 31 by omega)] at kk
        have l31 : len < 2 ^ 31 := by omega
        have l12 : len < 12 := by omega
        have n1 : hI (sI h (x + 5) len (nI j)) x 6 = nI len := by rw [hI_sI_ne (by omega)]; exact w5
        have n2 : hI (sI (sI h (x + 5) len (nI j)) x 6 (nI (len + 1))) x 6 = nI (len + 1) := by rw [hI_sI, if_pos ⟨rfl, rfl⟩]
        simp only [e251, s251_0, s251_1, s251_2, s251_5, s251_6, s251_9, s251_10, s251_11, s251_13, s251_16, s251_17, s251_20, s251_22, s251_25, s251_26, s251_29, s251_30, s251_31, s251_34, s251_35, s251_36, s251_39, s251_40, s251_41, s251_44, s251_45, s251_46, s251_49, s251_50, s251_53, s251_54, s251_55, s251_56, s251_57, s251_60, s251_61, s251_62, s251_65, s251_66, s251_69, oB_some, cl2_i, cl2_r, cl2_l, cl2_u, cl2_s, wd_0, wd_i, wd_r, wd_l, wd_f, ct_i, ct_r, ct_n, ct_f, rf_s, rf_n, tl_s, tl_n, true_and, and_true, eq_self, and_self, Nat.reduceAdd, Nat.reduceLeDiff, Nat.zero_le, Nat.reduceEqDiff, or_true, true_or, false_or, or_false, if_true, if_false, gI_0, gI_1, gI_2, gI_3, gI_4, gI_5, gI_6, gI_7, gI_8, gI_9, gI_10, gI_11, gI_12, gI_13, gI_14, gI_15, gL_0, gL_1, gL_2, gL_3, gL_4, gL_5, gL_6, gL_7, gL_8, gL_9, gL_10, gL_11, gL_12, gL_13, gL_14, gL_15, gA_0, gA_1, gA_2, gA_3, gA_4, gA_5, gA_6, gA_7, gA_8, gA_9, gA_10, gA_11, gA_12, gA_13, gA_14, gA_15, p1_0, p1_1, p1_2, p1_3, p1_4, p1_5, p1_6, p1_7, p1_8, p1_9, p1_10, p1_11, p1_12, p1_13, p1_14, p1_15, p2_0, p2_1, p2_2, p2_3, p2_4, p2_5, p2_6, p2_7, p2_8, p2_9, p2_10, p2_11, p2_12, p2_13, p2_14, p2_15, b01_ok, b_ft, b_tf, b01_e0, b01_e1, lgc_0, not_true_eq_false, not_false_eq_true, z_hkd_sI, z_hln_sI, z_hL_sI, z_hR_sI, z_hnx_sI, z_hkd_sL, z_hln_sL, z_hI_sL, z_hR_sL, z_hnx_sL, z_hkd_sR, z_hln_sR, z_hI_sR, z_hL_sR, z_hnx_sR, z_hkd_cI, z_hln_cI, z_hL_cI, z_hR_cI, z_hnx_cI, z_hkd_cLg, z_hln_cLg, z_hI_cLg, z_hR_cLg, z_hnx_cLg, K, Bool.true_eq_false, Bool.false_eq_true, zm1, zm2, zm3, zm4, zm6, z10, v_whyNot, v_ref1 X, v_ref2 X, v_ref3 X, v_ref4 X, v_ref6 X, Bool.or_false, Bool.false_or, Bool.or_true, Bool.true_or, Bool.not_true, Bool.not_false, w5, h0, h0n, h1, h1n, hfn, ix_nI l31, nI_pos' l31, l12, n1, nI_1, n2]
        exact kk _ (Fm.fa (lo := x) (n := 6) ((Fm.rf.sI (by omega) (by omega)).sI (by omega) (by omega)) (by omega) (by omega)) (by rw [hI_sI_ne (by omega), hI_sI_ne (by omega)]) (C.row1 l12 (by omega))
theorem x_clear {d tl len : Nat} {tp r : Nat → Nat} {Q : PQ} {h : HP} {x : Nat} {S : VS} {H : HS} (C : CI h x S H tp tl r len) (gS : GV S) (gH : GH H)
    (k : KC h x S H tp tl r 0 (Q (some (.int (nI len))))) : Ev (d + 1) 255 [.ref x] h Q := by
  have X := C.1
  have K := X.1
  unfold XK at K
  have w5 := C.2.2.2.2
  simp only [e255, s255_0, s255_1, s255_4, s255_5, s255_6, s255_7, s255_10, s255_11, oB_some, cl2_i, cl2_r, cl2_l, cl2_u, cl2_s, wd_0, wd_i, wd_r, wd_l, wd_f, ct_i, ct_r, ct_n, ct_f, rf_s, rf_n, tl_s, tl_n, true_and, and_true, eq_self, and_self, Nat.reduceAdd, Nat.reduceLeDiff, Nat.zero_le, Nat.reduceEqDiff, or_true, true_or, false_or, or_false, if_true, if_false, gI_0, gI_1, gI_2, gI_3, gI_4, gI_5, gI_6, gI_7, gI_8, gI_9, gI_10, gI_11, gI_12, gI_13, gI_14, gI_15, gL_0, gL_1, gL_2, gL_3, gL_4, gL_5, gL_6, gL_7, gL_8, gL_9, gL_10, gL_11, gL_12, gL_13, gL_14, gL_15, gA_0, gA_1, gA_2, gA_3, gA_4, gA_5, gA_6, gA_7, gA_8, gA_9, gA_10, gA_11, gA_12, gA_13, gA_14, gA_15, p1_0, p1_1, p1_2, p1_3, p1_4, p1_5, p1_6, p1_7, p1_8, p1_9, p1_10, p1_11, p1_12, p1_13, p1_14, p1_15, p2_0, p2_1, p2_2, p2_3, p2_4, p2_5, p2_6, p2_7, p2_8, p2_9, p2_10, p2_11, p2_12, p2_13, p2_14, p2_15, b01_ok, b_ft, b_tf, b01_e0, b01_e1, lgc_0, not_true_eq_false, not_false_eq_true, K, w5]
  exact k _ (Fm.fa (lo := x) (n := 1) (Fm.rf.sI (by omega) (by omega)) (by omega) (by omega)) (by rw [hI_sI_ne (by omega)]) C.row0
def judN (S : VS) (r : Nat → Nat) (i : Nat) : Bool := !(decide (i < vn S) && decide (nb (vw S i) = r i))
set_option maxHeartbeats 8000000 in
theorem x_judge {d tl len : Nat} {tp r : Nat → Nat} {Q : PQ} {h : HP} {x : Nat} {S : VS} {H : HS} (C : CI h x S H tp tl r len) (gS : GV S) (gH : GH H)
    (k : KC h x S H tp tl r 0 (Q (some (.int (oN (findA (judN S r) len 0)))))) : Ev (d + 4) 253 [.ref x] h Q := by
  have X := C.1
  have g := gS.1
  have hy := gS.2
  have K := X.1
  unfold XK at K
  have V := X.v.k
  unfold VK at V
  have F := X.2.1.1
  have gn := g.n
  have gl := g.l
  obtain ⟨⟨w1, w2, w3, w4⟩, w5⟩ := C.2.2.2
  have fin : ∀ (y : Int32) (z : Slot), Q (some (.int y)) (sI h x 6 0) → WP (d + 3) 253 Q (55, [.val (.ref x), .val (.int y), z], [], h, 0, 0) := by
    intro y z hq
    simp only [s253_55, s253_56, s253_57, s253_60, s253_61, oB_some, cl2_i, cl2_r, cl2_l, cl2_u, cl2_s, wd_0, wd_i, wd_r, wd_l, wd_f, ct_i, ct_r, ct_n, ct_f, rf_s, rf_n, tl_s, tl_n, true_and, and_true, eq_self, and_self, Nat.reduceAdd, Nat.reduceLeDiff, Nat.zero_le, Nat.reduceEqDiff, or_true, true_or, false_or, or_false, if_true, if_false, gI_0, gI_1, gI_2, gI_3, gI_4, gI_5, gI_6, gI_7, gI_8, gI_9, gI_10, gI_11, gI_12, gI_13, gI_14, gI_15, gL_0, gL_1, gL_2, gL_3, gL_4, gL_5, gL_6, gL_7, gL_8, gL_9, gL_10, gL_11, gL_12, gL_13, gL_14, gL_15, gA_0, gA_1, gA_2, gA_3, gA_4, gA_5, gA_6, gA_7, gA_8, gA_9, gA_10, gA_11, gA_12, gA_13, gA_14, gA_15, p1_0, p1_1, p1_2, p1_3, p1_4, p1_5, p1_6, p1_7, p1_8, p1_9, p1_10, p1_11, p1_12, p1_13, p1_14, p1_15, p2_0, p2_1, p2_2, p2_3, p2_4, p2_5, p2_6, p2_7, p2_8, p2_9, p2_10, p2_11, p2_12, p2_13, p2_14, p2_15, b01_ok, b_ft, b_tf, b01_e0, b01_e1, lgc_0, not_true_eq_false, not_false_eq_true, z_hkd_sI, z_hln_sI, z_hL_sI, z_hR_sI, z_hnx_sI, z_hkd_sL, z_hln_sL, z_hI_sL, z_hR_sL, z_hnx_sL, z_hkd_sR, z_hln_sR, z_hI_sR, z_hL_sR, z_hnx_sR, z_hkd_cI, z_hln_cI, z_hL_cI, z_hR_cI, z_hnx_cI, z_hkd_cLg, z_hln_cLg, z_hI_cLg, z_hR_cLg, z_hnx_cLg, K]
    exact hq
  have loop : ∀ (m i : Nat), i + m = len → (∀ o, findA (judN S r) m i = o → Q (some (.int (oN o))) (sI h x 6 0)) → WP (d + 3) 253 Q (5, [.val (.ref x), .val (.int (-9)), .val (.int (nI i))], [], h, 0, 0) := by
    intro m
    induction m with
    | zero =>
      intro i hi kq
      have hin : i = len := by omega
      rw [hin, s253_5]
      simp only [s253_6, s253_7, s253_10, oB_some, cl2_i, cl2_r, cl2_l, cl2_u, cl2_s, wd_0, wd_i, wd_r, wd_l, wd_f, ct_i, ct_r, ct_n, ct_f, rf_s, rf_n, tl_s, tl_n, true_and, and_true, eq_self, and_self, Nat.reduceAdd, Nat.reduceLeDiff, Nat.zero_le, Nat.reduceEqDiff, or_true, true_or, false_or, or_false, if_true, if_false, gI_0, gI_1, gI_2, gI_3, gI_4, gI_5, gI_6, gI_7, gI_8, gI_9, gI_10, gI_11, gI_12, gI_13, gI_14, gI_15, gL_0, gL_1, gL_2, gL_3, gL_4, gL_5, gL_6, gL_7, gL_8, gL_9, gL_10, gL_11, gL_12, gL_13, gL_14, gL_15, gA_0, gA_1, gA_2, gA_3, gA_4, gA_5, gA_6, gA_7, gA_8, gA_9, gA_10, gA_11, gA_12, gA_13, gA_14, gA_15, p1_0, p1_1, p1_2, p1_3, p1_4, p1_5, p1_6, p1_7, p1_8, p1_9, p1_10, p1_11, p1_12, p1_13, p1_14, p1_15, p2_0, p2_1, p2_2, p2_3, p2_4, p2_5, p2_6, p2_7, p2_8, p2_9, p2_10, p2_11, p2_12, p2_13, p2_14, p2_15, b01_ok, b_ft, b_tf, b01_e0, b01_e1, lgc_0, not_true_eq_false, not_false_eq_true, K, w5, Int32.le_refl]
      exact fin _ _ (kq none rfl)
    | succ m ih =>
      intro i hi kq
      have i31 : i < 2 ^ 31 := by omega
      have i12 : i < 12 := by omega
      have z : ¬ nI len ≤ nI i := nI_ge (by omega) (by omega)
      have n9 : ¬ nI i = -9 := fun q => by
        have := nI_pos' i31
        rw [q] at this
        exact absurd this (by decide)
      obtain ⟨w6, w7⟩ := w4 i (by omega)
      rw [findA_s] at kq
      rw [s253_5]
      have bad : judN S r i = true → WP (d + 3) 253 Q (5, [.val (.ref x), .val (.int (nI i)), .val (.int (nI (i + 1)))], [], h, 0, 0) := by
        intro e
        rw [if_pos e] at kq
        rw [s253_5]
        by_cases e2 : i + 1 = len
        · rw [e2]
          simp only [s253_6, s253_7, s253_10, oB_some, cl2_i, cl2_r, cl2_l, cl2_u, cl2_s, wd_0, wd_i, wd_r, wd_l, wd_f, ct_i, ct_r, ct_n, ct_f, rf_s, rf_n, tl_s, tl_n, true_and, and_true, eq_self, and_self, Nat.reduceAdd, Nat.reduceLeDiff, Nat.zero_le, Nat.reduceEqDiff, or_true, true_or, false_or, or_false, if_true, if_false, gI_0, gI_1, gI_2, gI_3, gI_4, gI_5, gI_6, gI_7, gI_8, gI_9, gI_10, gI_11, gI_12, gI_13, gI_14, gI_15, gL_0, gL_1, gL_2, gL_3, gL_4, gL_5, gL_6, gL_7, gL_8, gL_9, gL_10, gL_11, gL_12, gL_13, gL_14, gL_15, gA_0, gA_1, gA_2, gA_3, gA_4, gA_5, gA_6, gA_7, gA_8, gA_9, gA_10, gA_11, gA_12, gA_13, gA_14, gA_15, p1_0, p1_1, p1_2, p1_3, p1_4, p1_5, p1_6, p1_7, p1_8, p1_9, p1_10, p1_11, p1_12, p1_13, p1_14, p1_15, p2_0, p2_1, p2_2, p2_3, p2_4, p2_5, p2_6, p2_7, p2_8, p2_9, p2_10, p2_11, p2_12, p2_13, p2_14, p2_15, b01_ok, b_ft, b_tf, b01_e0, b01_e1, lgc_0, not_true_eq_false, not_false_eq_true, K, w5, Int32.le_refl]
          exact fin _ _ (kq (some i) rfl)
        · have z2 : ¬ nI len ≤ nI (i + 1) := nI_ge (by omega) (by omega)
          simp only [s253_6, s253_7, s253_10, s253_13, s253_14, s253_16, oB_some, cl2_i, cl2_r, cl2_l, cl2_u, cl2_s, wd_0, wd_i, wd_r, wd_l, wd_f, ct_i, ct_r, ct_n, ct_f, rf_s, rf_n, tl_s, tl_n, true_and, and_true, eq_self, and_self, Nat.reduceAdd, Nat.reduceLeDiff, Nat.zero_le, Nat.reduceEqDiff, or_true, true_or, false_or, or_false, if_true, if_false, gI_0, gI_1, gI_2, gI_3, gI_4, gI_5, gI_6, gI_7, gI_8, gI_9, gI_10, gI_11, gI_12, gI_13, gI_14, gI_15, gL_0, gL_1, gL_2, gL_3, gL_4, gL_5, gL_6, gL_7, gL_8, gL_9, gL_10, gL_11, gL_12, gL_13, gL_14, gL_15, gA_0, gA_1, gA_2, gA_3, gA_4, gA_5, gA_6, gA_7, gA_8, gA_9, gA_10, gA_11, gA_12, gA_13, gA_14, gA_15, p1_0, p1_1, p1_2, p1_3, p1_4, p1_5, p1_6, p1_7, p1_8, p1_9, p1_10, p1_11, p1_12, p1_13, p1_14, p1_15, p2_0, p2_1, p2_2, p2_3, p2_4, p2_5, p2_6, p2_7, p2_8, p2_9, p2_10, p2_11, p2_12, p2_13, p2_14, p2_15, b01_ok, b_ft, b_tf, b01_e0, b01_e1, lgc_0, not_true_eq_false, not_false_eq_true, K, w5, z2, n9, not_false_eq_true]
          exact fin _ _ (kq (some i) rfl)
      by_cases e : i < vn S
      · have pe : isPI S (nI i) = true := by rw [isPI_nI g i31]; exact decide_eq_true e
        have lb := nb_le (vw S i)
        simp only [s253_6, s253_7, s253_10, s253_13, s253_14, s253_16, s253_19, s253_20, s253_21, s253_24, s253_27, s253_28, s253_31, s253_32, s253_35, s253_38, s253_39, s253_42, s253_43, s253_44, s253_47, s253_48, s253_49, s253_52, oB_some, cl2_i, cl2_r, cl2_l, cl2_u, cl2_s, wd_0, wd_i, wd_r, wd_l, wd_f, ct_i, ct_r, ct_n, ct_f, rf_s, rf_n, tl_s, tl_n, true_and, and_true, eq_self, and_self, Nat.reduceAdd, Nat.reduceLeDiff, Nat.zero_le, Nat.reduceEqDiff, or_true, true_or, false_or, or_false, if_true, if_false, gI_0, gI_1, gI_2, gI_3, gI_4, gI_5, gI_6, gI_7, gI_8, gI_9, gI_10, gI_11, gI_12, gI_13, gI_14, gI_15, gL_0, gL_1, gL_2, gL_3, gL_4, gL_5, gL_6, gL_7, gL_8, gL_9, gL_10, gL_11, gL_12, gL_13, gL_14, gL_15, gA_0, gA_1, gA_2, gA_3, gA_4, gA_5, gA_6, gA_7, gA_8, gA_9, gA_10, gA_11, gA_12, gA_13, gA_14, gA_15, p1_0, p1_1, p1_2, p1_3, p1_4, p1_5, p1_6, p1_7, p1_8, p1_9, p1_10, p1_11, p1_12, p1_13, p1_14, p1_15, p2_0, p2_1, p2_2, p2_3, p2_4, p2_5, p2_6, p2_7, p2_8, p2_9, p2_10, p2_11, p2_12, p2_13, p2_14, p2_15, b01_ok, b_ft, b_tf, b01_e0, b01_e1, lgc_0, not_true_eq_false, not_false_eq_true, K, V, F, w1, w2, w5, z, pe, v_isThere X, Bool.true_eq_false, v_knownBy X.v g e, v_bitCount (g.at e).2.2.2.1, w6, ix_nI i31, nI_pos' i31, i12, nI_1, not_true_eq_false, eqP (show nb (vw S i) < 2 ^ 31 by omega) (show r i < 2 ^ 31 by omega)]
        by_cases e2 : nb (vw S i) = r i
        · rw [if_pos e2]
          rw [if_neg (by unfold judN; rw [decide_eq_true e, decide_eq_true e2]; decide)] at kq
          exact ih (i + 1) (by omega) kq
        · rw [if_neg e2]
          exact bad (by unfold judN; rw [decide_eq_true e, decide_eq_false e2]; rfl)
      · have pe : isPI S (nI i) = false := by rw [isPI_nI g i31]; exact decide_eq_false e
        simp only [s253_6, s253_7, s253_10, s253_13, s253_14, s253_16, s253_19, s253_20, s253_21, s253_24, s253_27, s253_28, s253_31, s253_32, s253_35, s253_38, s253_39, s253_42, s253_43, s253_44, s253_47, s253_48, s253_49, s253_52, oB_some, cl2_i, cl2_r, cl2_l, cl2_u, cl2_s, wd_0, wd_i, wd_r, wd_l, wd_f, ct_i, ct_r, ct_n, ct_f, rf_s, rf_n, tl_s, tl_n, true_and, and_true, eq_self, and_self, Nat.reduceAdd, Nat.reduceLeDiff, Nat.zero_le, Nat.reduceEqDiff, or_true, true_or, false_or, or_false, if_true, if_false, gI_0, gI_1, gI_2, gI_3, gI_4, gI_5, gI_6, gI_7, gI_8, gI_9, gI_10, gI_11, gI_12, gI_13, gI_14, gI_15, gL_0, gL_1, gL_2, gL_3, gL_4, gL_5, gL_6, gL_7, gL_8, gL_9, gL_10, gL_11, gL_12, gL_13, gL_14, gL_15, gA_0, gA_1, gA_2, gA_3, gA_4, gA_5, gA_6, gA_7, gA_8, gA_9, gA_10, gA_11, gA_12, gA_13, gA_14, gA_15, p1_0, p1_1, p1_2, p1_3, p1_4, p1_5, p1_6, p1_7, p1_8, p1_9, p1_10, p1_11, p1_12, p1_13, p1_14, p1_15, p2_0, p2_1, p2_2, p2_3, p2_4, p2_5, p2_6, p2_7, p2_8, p2_9, p2_10, p2_11, p2_12, p2_13, p2_14, p2_15, b01_ok, b_ft, b_tf, b01_e0, b01_e1, lgc_0, not_true_eq_false, not_false_eq_true, K, V, F, w5, z, pe, v_isThere X, nI_1, not_true_eq_false]
        exact bad (by unfold judN; rw [decide_eq_false e]; rfl)
  simp only [e253, s253_0, s253_2, s253_3, s253_4, oB_some, cl2_i, cl2_r, cl2_l, cl2_u, cl2_s, wd_0, wd_i, wd_r, wd_l, wd_f, ct_i, ct_r, ct_n, ct_f, rf_s, rf_n, tl_s, tl_n, true_and, and_true, eq_self, and_self, Nat.reduceAdd, Nat.reduceLeDiff, Nat.zero_le, Nat.reduceEqDiff, or_true, true_or, false_or, or_false, if_true, if_false, gI_0, gI_1, gI_2, gI_3, gI_4, gI_5, gI_6, gI_7, gI_8, gI_9, gI_10, gI_11, gI_12, gI_13, gI_14, gI_15, gL_0, gL_1, gL_2, gL_3, gL_4, gL_5, gL_6, gL_7, gL_8, gL_9, gL_10, gL_11, gL_12, gL_13, gL_14, gL_15, gA_0, gA_1, gA_2, gA_3, gA_4, gA_5, gA_6, gA_7, gA_8, gA_9, gA_10, gA_11, gA_12, gA_13, gA_14, gA_15, p1_0, p1_1, p1_2, p1_3, p1_4, p1_5, p1_6, p1_7, p1_8, p1_9, p1_10, p1_11, p1_12, p1_13, p1_14, p1_15, p2_0, p2_1, p2_2, p2_3, p2_4, p2_5, p2_6, p2_7, p2_8, p2_9, p2_10, p2_11, p2_12, p2_13, p2_14, p2_15, b01_ok, b_ft, b_tf, b01_e0, b01_e1, lgc_0, not_true_eq_false, not_false_eq_true]
  refine loop len 0 (by omega) fun q hq => ?_
  have kk := k _ (Fm.fa (lo := x) (n := 1) (Fm.rf.sI (by omega) (by omega)) (by omega) (by omega)) (by rw [hI_sI_ne (by omega)]) C.row0
  rw [hq] at kk
  exact kk
def aCount (S : VS) (c tl len : Nat) (rf : Nat → Int32) (w : Int32) : Int32 := if w = 0 then nI (vn S) else if w = 1 then nI (vy S) else if w = 2 then nI (vu S) else if w = 3 then nI (vd S) else if w = 4 then nI (vt S) else if w = 5 then nI (vb S).length else if w = 6 then nI (nb (vs S)) else if w = 7 then nI (nb (vo S)) else if w = 8 then nI tl else if w = 9 then nI len else if w = 10 then nI c else if w < 11 then -9 else if 16 < w then -9 else rf (tc w - 11)
set_option maxHeartbeats 8000000 in
theorem x_count {w : Int32} {d tl len : Nat} {tp r : Nat → Nat} {Q : PQ} {h : HP} {x : Nat} {S : VS} {H : HS} (C : CI h x S H tp tl r len) (gS : GV S) (gH : GH H)
    (k : Q (some (.int (aCount S (hc H) tl len (hI h (x + 6)) w))) h) : Ev (d + 4) 268 [.ref x, .int w] h Q := by
  have X := C.1
  have g := gS.1
  have hy := gS.2
  have K := X.1
  unfold XK at K
  have V := X.v.k
  unfold VK at V
  have F := X.2.1.1
  have gn := g.n
  have gl := g.l
  have T := C.2.2.1
  have w5 := C.2.2.2.2
  have p2 := C.2.1.1.2
  unfold aCount at k
  by_cases e0 : w = 0
  · subst e0
    simp only [e268, s268_0, s268_1, s268_60, s268_61, s268_64, s268_67, s268_68, s268_69, s268_72, s268_75, s268_76, s268_77, s268_80, s268_83, s268_84, s268_85, s268_88, s268_91, s268_92, s268_93, s268_96, s268_99, s268_100, s268_101, s268_104, s268_107, s268_110, s268_111, s268_112, s268_115, s268_118, s268_121, s268_122, s268_123, s268_126, s268_129, s268_132, s268_133, s268_134, s268_137, s268_140, s268_141, s268_142, s268_145, s268_146, s268_147, s268_150, s268_153, s268_154, s268_155, s268_157, s268_160, s268_161, s268_163, s268_166, s268_167, s268_170, s268_171, s268_173, s268_174, s268_175, s268_178, s268_180, oB_some, cl2_i, cl2_r, cl2_l, cl2_u, cl2_s, wd_0, wd_i, wd_r, wd_l, wd_f, ct_i, ct_r, ct_n, ct_f, rf_s, rf_n, tl_s, tl_n, true_and, and_true, eq_self, and_self, Nat.reduceAdd, Nat.reduceLeDiff, Nat.zero_le, Nat.reduceEqDiff, or_true, true_or, false_or, or_false, if_true, if_false, gI_0, gI_1, gI_2, gI_3, gI_4, gI_5, gI_6, gI_7, gI_8, gI_9, gI_10, gI_11, gI_12, gI_13, gI_14, gI_15, gL_0, gL_1, gL_2, gL_3, gL_4, gL_5, gL_6, gL_7, gL_8, gL_9, gL_10, gL_11, gL_12, gL_13, gL_14, gL_15, gA_0, gA_1, gA_2, gA_3, gA_4, gA_5, gA_6, gA_7, gA_8, gA_9, gA_10, gA_11, gA_12, gA_13, gA_14, gA_15, p1_0, p1_1, p1_2, p1_3, p1_4, p1_5, p1_6, p1_7, p1_8, p1_9, p1_10, p1_11, p1_12, p1_13, p1_14, p1_15, p2_0, p2_1, p2_2, p2_3, p2_4, p2_5, p2_6, p2_7, p2_8, p2_9, p2_10, p2_11, p2_12, p2_13, p2_14, p2_15, b01_ok, b_ft, b_tf, b01_e0, b01_e1, lgc_0, not_true_eq_false, not_false_eq_true, K, V, F, X.v.n, X.v.y, X.v.u, X.v.d, X.v.t, X.v.m, X.v.s, X.v.o, v_bitCount g.s, v_bitCount g.o, T.1, w5, p2, nz_0]
    exact k
  · rw [if_neg e0] at k
    by_cases e1 : w = 1
    · subst e1
      simp only [e268, s268_0, s268_1, s268_60, s268_61, s268_64, s268_67, s268_68, s268_69, s268_72, s268_75, s268_76, s268_77, s268_80, s268_83, s268_84, s268_85, s268_88, s268_91, s268_92, s268_93, s268_96, s268_99, s268_100, s268_101, s268_104, s268_107, s268_110, s268_111, s268_112, s268_115, s268_118, s268_121, s268_122, s268_123, s268_126, s268_129, s268_132, s268_133, s268_134, s268_137, s268_140, s268_141, s268_142, s268_145, s268_146, s268_147, s268_150, s268_153, s268_154, s268_155, s268_157, s268_160, s268_161, s268_163, s268_166, s268_167, s268_170, s268_171, s268_173, s268_174, s268_175, s268_178, s268_180, oB_some, cl2_i, cl2_r, cl2_l, cl2_u, cl2_s, wd_0, wd_i, wd_r, wd_l, wd_f, ct_i, ct_r, ct_n, ct_f, rf_s, rf_n, tl_s, tl_n, true_and, and_true, eq_self, and_self, Nat.reduceAdd, Nat.reduceLeDiff, Nat.zero_le, Nat.reduceEqDiff, or_true, true_or, false_or, or_false, if_true, if_false, gI_0, gI_1, gI_2, gI_3, gI_4, gI_5, gI_6, gI_7, gI_8, gI_9, gI_10, gI_11, gI_12, gI_13, gI_14, gI_15, gL_0, gL_1, gL_2, gL_3, gL_4, gL_5, gL_6, gL_7, gL_8, gL_9, gL_10, gL_11, gL_12, gL_13, gL_14, gL_15, gA_0, gA_1, gA_2, gA_3, gA_4, gA_5, gA_6, gA_7, gA_8, gA_9, gA_10, gA_11, gA_12, gA_13, gA_14, gA_15, p1_0, p1_1, p1_2, p1_3, p1_4, p1_5, p1_6, p1_7, p1_8, p1_9, p1_10, p1_11, p1_12, p1_13, p1_14, p1_15, p2_0, p2_1, p2_2, p2_3, p2_4, p2_5, p2_6, p2_7, p2_8, p2_9, p2_10, p2_11, p2_12, p2_13, p2_14, p2_15, b01_ok, b_ft, b_tf, b01_e0, b01_e1, lgc_0, not_true_eq_false, not_false_eq_true, K, V, F, X.v.n, X.v.y, X.v.u, X.v.d, X.v.t, X.v.m, X.v.s, X.v.o, v_bitCount g.s, v_bitCount g.o, T.1, w5, p2, nz_1]
      exact k
    · rw [if_neg e1] at k
      by_cases e2 : w = 2
      · subst e2
        simp only [e268, s268_0, s268_1, s268_60, s268_61, s268_64, s268_67, s268_68, s268_69, s268_72, s268_75, s268_76, s268_77, s268_80, s268_83, s268_84, s268_85, s268_88, s268_91, s268_92, s268_93, s268_96, s268_99, s268_100, s268_101, s268_104, s268_107, s268_110, s268_111, s268_112, s268_115, s268_118, s268_121, s268_122, s268_123, s268_126, s268_129, s268_132, s268_133, s268_134, s268_137, s268_140, s268_141, s268_142, s268_145, s268_146, s268_147, s268_150, s268_153, s268_154, s268_155, s268_157, s268_160, s268_161, s268_163, s268_166, s268_167, s268_170, s268_171, s268_173, s268_174, s268_175, s268_178, s268_180, oB_some, cl2_i, cl2_r, cl2_l, cl2_u, cl2_s, wd_0, wd_i, wd_r, wd_l, wd_f, ct_i, ct_r, ct_n, ct_f, rf_s, rf_n, tl_s, tl_n, true_and, and_true, eq_self, and_self, Nat.reduceAdd, Nat.reduceLeDiff, Nat.zero_le, Nat.reduceEqDiff, or_true, true_or, false_or, or_false, if_true, if_false, gI_0, gI_1, gI_2, gI_3, gI_4, gI_5, gI_6, gI_7, gI_8, gI_9, gI_10, gI_11, gI_12, gI_13, gI_14, gI_15, gL_0, gL_1, gL_2, gL_3, gL_4, gL_5, gL_6, gL_7, gL_8, gL_9, gL_10, gL_11, gL_12, gL_13, gL_14, gL_15, gA_0, gA_1, gA_2, gA_3, gA_4, gA_5, gA_6, gA_7, gA_8, gA_9, gA_10, gA_11, gA_12, gA_13, gA_14, gA_15, p1_0, p1_1, p1_2, p1_3, p1_4, p1_5, p1_6, p1_7, p1_8, p1_9, p1_10, p1_11, p1_12, p1_13, p1_14, p1_15, p2_0, p2_1, p2_2, p2_3, p2_4, p2_5, p2_6, p2_7, p2_8, p2_9, p2_10, p2_11, p2_12, p2_13, p2_14, p2_15, b01_ok, b_ft, b_tf, b01_e0, b01_e1, lgc_0, not_true_eq_false, not_false_eq_true, K, V, F, X.v.n, X.v.y, X.v.u, X.v.d, X.v.t, X.v.m, X.v.s, X.v.o, v_bitCount g.s, v_bitCount g.o, T.1, w5, p2, nz_2]
        exact k
      · rw [if_neg e2] at k
        by_cases e3 : w = 3
        · subst e3
          simp only [e268, s268_0, s268_1, s268_60, s268_61, s268_64, s268_67, s268_68, s268_69, s268_72, s268_75, s268_76, s268_77, s268_80, s268_83, s268_84, s268_85, s268_88, s268_91, s268_92, s268_93, s268_96, s268_99, s268_100, s268_101, s268_104, s268_107, s268_110, s268_111, s268_112, s268_115, s268_118, s268_121, s268_122, s268_123, s268_126, s268_129, s268_132, s268_133, s268_134, s268_137, s268_140, s268_141, s268_142, s268_145, s268_146, s268_147, s268_150, s268_153, s268_154, s268_155, s268_157, s268_160, s268_161, s268_163, s268_166, s268_167, s268_170, s268_171, s268_173, s268_174, s268_175, s268_178, s268_180, oB_some, cl2_i, cl2_r, cl2_l, cl2_u, cl2_s, wd_0, wd_i, wd_r, wd_l, wd_f, ct_i, ct_r, ct_n, ct_f, rf_s, rf_n, tl_s, tl_n, true_and, and_true, eq_self, and_self, Nat.reduceAdd, Nat.reduceLeDiff, Nat.zero_le, Nat.reduceEqDiff, or_true, true_or, false_or, or_false, if_true, if_false, gI_0, gI_1, gI_2, gI_3, gI_4, gI_5, gI_6, gI_7, gI_8, gI_9, gI_10, gI_11, gI_12, gI_13, gI_14, gI_15, gL_0, gL_1, gL_2, gL_3, gL_4, gL_5, gL_6, gL_7, gL_8, gL_9, gL_10, gL_11, gL_12, gL_13, gL_14, gL_15, gA_0, gA_1, gA_2, gA_3, gA_4, gA_5, gA_6, gA_7, gA_8, gA_9, gA_10, gA_11, gA_12, gA_13, gA_14, gA_15, p1_0, p1_1, p1_2, p1_3, p1_4, p1_5, p1_6, p1_7, p1_8, p1_9, p1_10, p1_11, p1_12, p1_13, p1_14, p1_15, p2_0, p2_1, p2_2, p2_3, p2_4, p2_5, p2_6, p2_7, p2_8, p2_9, p2_10, p2_11, p2_12, p2_13, p2_14, p2_15, b01_ok, b_ft, b_tf, b01_e0, b01_e1, lgc_0, not_true_eq_false, not_false_eq_true, K, V, F, X.v.n, X.v.y, X.v.u, X.v.d, X.v.t, X.v.m, X.v.s, X.v.o, v_bitCount g.s, v_bitCount g.o, T.1, w5, p2, nz_3]
          exact k
        · rw [if_neg e3] at k
          by_cases e4 : w = 4
          · subst e4
            simp only [e268, s268_0, s268_1, s268_60, s268_61, s268_64, s268_67, s268_68, s268_69, s268_72, s268_75, s268_76, s268_77, s268_80, s268_83, s268_84, s268_85, s268_88, s268_91, s268_92, s268_93, s268_96, s268_99, s268_100, s268_101, s268_104, s268_107, s268_110, s268_111, s268_112, s268_115, s268_118, s268_121, s268_122, s268_123, s268_126, s268_129, s268_132, s268_133, s268_134, s268_137, s268_140, s268_141, s268_142, s268_145, s268_146, s268_147, s268_150, s268_153, s268_154, s268_155, s268_157, s268_160, s268_161, s268_163, s268_166, s268_167, s268_170, s268_171, s268_173, s268_174, s268_175, s268_178, s268_180, oB_some, cl2_i, cl2_r, cl2_l, cl2_u, cl2_s, wd_0, wd_i, wd_r, wd_l, wd_f, ct_i, ct_r, ct_n, ct_f, rf_s, rf_n, tl_s, tl_n, true_and, and_true, eq_self, and_self, Nat.reduceAdd, Nat.reduceLeDiff, Nat.zero_le, Nat.reduceEqDiff, or_true, true_or, false_or, or_false, if_true, if_false, gI_0, gI_1, gI_2, gI_3, gI_4, gI_5, gI_6, gI_7, gI_8, gI_9, gI_10, gI_11, gI_12, gI_13, gI_14, gI_15, gL_0, gL_1, gL_2, gL_3, gL_4, gL_5, gL_6, gL_7, gL_8, gL_9, gL_10, gL_11, gL_12, gL_13, gL_14, gL_15, gA_0, gA_1, gA_2, gA_3, gA_4, gA_5, gA_6, gA_7, gA_8, gA_9, gA_10, gA_11, gA_12, gA_13, gA_14, gA_15, p1_0, p1_1, p1_2, p1_3, p1_4, p1_5, p1_6, p1_7, p1_8, p1_9, p1_10, p1_11, p1_12, p1_13, p1_14, p1_15, p2_0, p2_1, p2_2, p2_3, p2_4, p2_5, p2_6, p2_7, p2_8, p2_9, p2_10, p2_11, p2_12, p2_13, p2_14, p2_15, b01_ok, b_ft, b_tf, b01_e0, b01_e1, lgc_0, not_true_eq_false, not_false_eq_true, K, V, F, X.v.n, X.v.y, X.v.u, X.v.d, X.v.t, X.v.m, X.v.s, X.v.o, v_bitCount g.s, v_bitCount g.o, T.1, w5, p2, nz_4]
            exact k
          · rw [if_neg e4] at k
            by_cases e5 : w = 5
            · subst e5
              simp only [e268, s268_0, s268_1, s268_60, s268_61, s268_64, s268_67, s268_68, s268_69, s268_72, s268_75, s268_76, s268_77, s268_80, s268_83, s268_84, s268_85, s268_88, s268_91, s268_92, s268_93, s268_96, s268_99, s268_100, s268_101, s268_104, s268_107, s268_110, s268_111, s268_112, s268_115, s268_118, s268_121, s268_122, s268_123, s268_126, s268_129, s268_132, s268_133, s268_134, s268_137, s268_140, s268_141, s268_142, s268_145, s268_146, s268_147, s268_150, s268_153, s268_154, s268_155, s268_157, s268_160, s268_161, s268_163, s268_166, s268_167, s268_170, s268_171, s268_173, s268_174, s268_175, s268_178, s268_180, oB_some, cl2_i, cl2_r, cl2_l, cl2_u, cl2_s, wd_0, wd_i, wd_r, wd_l, wd_f, ct_i, ct_r, ct_n, ct_f, rf_s, rf_n, tl_s, tl_n, true_and, and_true, eq_self, and_self, Nat.reduceAdd, Nat.reduceLeDiff, Nat.zero_le, Nat.reduceEqDiff, or_true, true_or, false_or, or_false, if_true, if_false, gI_0, gI_1, gI_2, gI_3, gI_4, gI_5, gI_6, gI_7, gI_8, gI_9, gI_10, gI_11, gI_12, gI_13, gI_14, gI_15, gL_0, gL_1, gL_2, gL_3, gL_4, gL_5, gL_6, gL_7, gL_8, gL_9, gL_10, gL_11, gL_12, gL_13, gL_14, gL_15, gA_0, gA_1, gA_2, gA_3, gA_4, gA_5, gA_6, gA_7, gA_8, gA_9, gA_10, gA_11, gA_12, gA_13, gA_14, gA_15, p1_0, p1_1, p1_2, p1_3, p1_4, p1_5, p1_6, p1_7, p1_8, p1_9, p1_10, p1_11, p1_12, p1_13, p1_14, p1_15, p2_0, p2_1, p2_2, p2_3, p2_4, p2_5, p2_6, p2_7, p2_8, p2_9, p2_10, p2_11, p2_12, p2_13, p2_14, p2_15, b01_ok, b_ft, b_tf, b01_e0, b01_e1, lgc_0, not_true_eq_false, not_false_eq_true, K, V, F, X.v.n, X.v.y, X.v.u, X.v.d, X.v.t, X.v.m, X.v.s, X.v.o, v_bitCount g.s, v_bitCount g.o, T.1, w5, p2, nz_5]
              exact k
            · rw [if_neg e5] at k
              by_cases e6 : w = 6
              · subst e6
                simp only [e268, s268_0, s268_1, s268_60, s268_61, s268_64, s268_67, s268_68, s268_69, s268_72, s268_75, s268_76, s268_77, s268_80, s268_83, s268_84, s268_85, s268_88, s268_91, s268_92, s268_93, s268_96, s268_99, s268_100, s268_101, s268_104, s268_107, s268_110, s268_111, s268_112, s268_115, s268_118, s268_121, s268_122, s268_123, s268_126, s268_129, s268_132, s268_133, s268_134, s268_137, s268_140, s268_141, s268_142, s268_145, s268_146, s268_147, s268_150, s268_153, s268_154, s268_155, s268_157, s268_160, s268_161, s268_163, s268_166, s268_167, s268_170, s268_171, s268_173, s268_174, s268_175, s268_178, s268_180, oB_some, cl2_i, cl2_r, cl2_l, cl2_u, cl2_s, wd_0, wd_i, wd_r, wd_l, wd_f, ct_i, ct_r, ct_n, ct_f, rf_s, rf_n, tl_s, tl_n, true_and, and_true, eq_self, and_self, Nat.reduceAdd, Nat.reduceLeDiff, Nat.zero_le, Nat.reduceEqDiff, or_true, true_or, false_or, or_false, if_true, if_false, gI_0, gI_1, gI_2, gI_3, gI_4, gI_5, gI_6, gI_7, gI_8, gI_9, gI_10, gI_11, gI_12, gI_13, gI_14, gI_15, gL_0, gL_1, gL_2, gL_3, gL_4, gL_5, gL_6, gL_7, gL_8, gL_9, gL_10, gL_11, gL_12, gL_13, gL_14, gL_15, gA_0, gA_1, gA_2, gA_3, gA_4, gA_5, gA_6, gA_7, gA_8, gA_9, gA_10, gA_11, gA_12, gA_13, gA_14, gA_15, p1_0, p1_1, p1_2, p1_3, p1_4, p1_5, p1_6, p1_7, p1_8, p1_9, p1_10, p1_11, p1_12, p1_13, p1_14, p1_15, p2_0, p2_1, p2_2, p2_3, p2_4, p2_5, p2_6, p2_7, p2_8, p2_9, p2_10, p2_11, p2_12, p2_13, p2_14, p2_15, b01_ok, b_ft, b_tf, b01_e0, b01_e1, lgc_0, not_true_eq_false, not_false_eq_true, K, V, F, X.v.n, X.v.y, X.v.u, X.v.d, X.v.t, X.v.m, X.v.s, X.v.o, v_bitCount g.s, v_bitCount g.o, T.1, w5, p2, nz_6]
                exact k
              · rw [if_neg e6] at k
                by_cases e7 : w = 7
                · subst e7
                  simp only [e268, s268_0, s268_1, s268_60, s268_61, s268_64, s268_67, s268_68, s268_69, s268_72, s268_75, s268_76, s268_77, s268_80, s268_83, s268_84, s268_85, s268_88, s268_91, s268_92, s268_93, s268_96, s268_99, s268_100, s268_101, s268_104, s268_107, s268_110, s268_111, s268_112, s268_115, s268_118, s268_121, s268_122, s268_123, s268_126, s268_129, s268_132, s268_133, s268_134, s268_137, s268_140, s268_141, s268_142, s268_145, s268_146, s268_147, s268_150, s268_153, s268_154, s268_155, s268_157, s268_160, s268_161, s268_163, s268_166, s268_167, s268_170, s268_171, s268_173, s268_174, s268_175, s268_178, s268_180, oB_some, cl2_i, cl2_r, cl2_l, cl2_u, cl2_s, wd_0, wd_i, wd_r, wd_l, wd_f, ct_i, ct_r, ct_n, ct_f, rf_s, rf_n, tl_s, tl_n, true_and, and_true, eq_self, and_self, Nat.reduceAdd, Nat.reduceLeDiff, Nat.zero_le, Nat.reduceEqDiff, or_true, true_or, false_or, or_false, if_true, if_false, gI_0, gI_1, gI_2, gI_3, gI_4, gI_5, gI_6, gI_7, gI_8, gI_9, gI_10, gI_11, gI_12, gI_13, gI_14, gI_15, gL_0, gL_1, gL_2, gL_3, gL_4, gL_5, gL_6, gL_7, gL_8, gL_9, gL_10, gL_11, gL_12, gL_13, gL_14, gL_15, gA_0, gA_1, gA_2, gA_3, gA_4, gA_5, gA_6, gA_7, gA_8, gA_9, gA_10, gA_11, gA_12, gA_13, gA_14, gA_15, p1_0, p1_1, p1_2, p1_3, p1_4, p1_5, p1_6, p1_7, p1_8, p1_9, p1_10, p1_11, p1_12, p1_13, p1_14, p1_15, p2_0, p2_1, p2_2, p2_3, p2_4, p2_5, p2_6, p2_7, p2_8, p2_9, p2_10, p2_11, p2_12, p2_13, p2_14, p2_15, b01_ok, b_ft, b_tf, b01_e0, b01_e1, lgc_0, not_true_eq_false, not_false_eq_true, K, V, F, X.v.n, X.v.y, X.v.u, X.v.d, X.v.t, X.v.m, X.v.s, X.v.o, v_bitCount g.s, v_bitCount g.o, T.1, w5, p2, nz_7]
                  exact k
                · rw [if_neg e7] at k
                  by_cases e8 : w = 8
                  · subst e8
                    simp only [e268, s268_0, s268_1, s268_60, s268_61, s268_64, s268_67, s268_68, s268_69, s268_72, s268_75, s268_76, s268_77, s268_80, s268_83, s268_84, s268_85, s268_88, s268_91, s268_92, s268_93, s268_96, s268_99, s268_100, s268_101, s268_104, s268_107, s268_110, s268_111, s268_112, s268_115, s268_118, s268_121, s268_122, s268_123, s268_126, s268_129, s268_132, s268_133, s268_134, s268_137, s268_140, s268_141, s268_142, s268_145, s268_146, s268_147, s268_150, s268_153, s268_154, s268_155, s268_157, s268_160, s268_161, s268_163, s268_166, s268_167, s268_170, s268_171, s268_173, s268_174, s268_175, s268_178, s268_180, oB_some, cl2_i, cl2_r, cl2_l, cl2_u, cl2_s, wd_0, wd_i, wd_r, wd_l, wd_f, ct_i, ct_r, ct_n, ct_f, rf_s, rf_n, tl_s, tl_n, true_and, and_true, eq_self, and_self, Nat.reduceAdd, Nat.reduceLeDiff, Nat.zero_le, Nat.reduceEqDiff, or_true, true_or, false_or, or_false, if_true, if_false, gI_0, gI_1, gI_2, gI_3, gI_4, gI_5, gI_6, gI_7, gI_8, gI_9, gI_10, gI_11, gI_12, gI_13, gI_14, gI_15, gL_0, gL_1, gL_2, gL_3, gL_4, gL_5, gL_6, gL_7, gL_8, gL_9, gL_10, gL_11, gL_12, gL_13, gL_14, gL_15, gA_0, gA_1, gA_2, gA_3, gA_4, gA_5, gA_6, gA_7, gA_8, gA_9, gA_10, gA_11, gA_12, gA_13, gA_14, gA_15, p1_0, p1_1, p1_2, p1_3, p1_4, p1_5, p1_6, p1_7, p1_8, p1_9, p1_10, p1_11, p1_12, p1_13, p1_14, p1_15, p2_0, p2_1, p2_2, p2_3, p2_4, p2_5, p2_6, p2_7, p2_8, p2_9, p2_10, p2_11, p2_12, p2_13, p2_14, p2_15, b01_ok, b_ft, b_tf, b01_e0, b01_e1, lgc_0, not_true_eq_false, not_false_eq_true, K, V, F, X.v.n, X.v.y, X.v.u, X.v.d, X.v.t, X.v.m, X.v.s, X.v.o, v_bitCount g.s, v_bitCount g.o, T.1, w5, p2, nz_8]
                    exact k
                  · rw [if_neg e8] at k
                    by_cases e9 : w = 9
                    · subst e9
                      simp only [e268, s268_0, s268_1, s268_60, s268_61, s268_64, s268_67, s268_68, s268_69, s268_72, s268_75, s268_76, s268_77, s268_80, s268_83, s268_84, s268_85, s268_88, s268_91, s268_92, s268_93, s268_96, s268_99, s268_100, s268_101, s268_104, s268_107, s268_110, s268_111, s268_112, s268_115, s268_118, s268_121, s268_122, s268_123, s268_126, s268_129, s268_132, s268_133, s268_134, s268_137, s268_140, s268_141, s268_142, s268_145, s268_146, s268_147, s268_150, s268_153, s268_154, s268_155, s268_157, s268_160, s268_161, s268_163, s268_166, s268_167, s268_170, s268_171, s268_173, s268_174, s268_175, s268_178, s268_180, oB_some, cl2_i, cl2_r, cl2_l, cl2_u, cl2_s, wd_0, wd_i, wd_r, wd_l, wd_f, ct_i, ct_r, ct_n, ct_f, rf_s, rf_n, tl_s, tl_n, true_and, and_true, eq_self, and_self, Nat.reduceAdd, Nat.reduceLeDiff, Nat.zero_le, Nat.reduceEqDiff, or_true, true_or, false_or, or_false, if_true, if_false, gI_0, gI_1, gI_2, gI_3, gI_4, gI_5, gI_6, gI_7, gI_8, gI_9, gI_10, gI_11, gI_12, gI_13, gI_14, gI_15, gL_0, gL_1, gL_2, gL_3, gL_4, gL_5, gL_6, gL_7, gL_8, gL_9, gL_10, gL_11, gL_12, gL_13, gL_14, gL_15, gA_0, gA_1, gA_2, gA_3, gA_4, gA_5, gA_6, gA_7, gA_8, gA_9, gA_10, gA_11, gA_12, gA_13, gA_14, gA_15, p1_0, p1_1, p1_2, p1_3, p1_4, p1_5, p1_6, p1_7, p1_8, p1_9, p1_10, p1_11, p1_12, p1_13, p1_14, p1_15, p2_0, p2_1, p2_2, p2_3, p2_4, p2_5, p2_6, p2_7, p2_8, p2_9, p2_10, p2_11, p2_12, p2_13, p2_14, p2_15, b01_ok, b_ft, b_tf, b01_e0, b01_e1, lgc_0, not_true_eq_false, not_false_eq_true, K, V, F, X.v.n, X.v.y, X.v.u, X.v.d, X.v.t, X.v.m, X.v.s, X.v.o, v_bitCount g.s, v_bitCount g.o, T.1, w5, p2, nz_9]
                      exact k
                    · rw [if_neg e9] at k
                      by_cases e10 : w = 10
                      · subst e10
                        simp only [e268, s268_0, s268_1, s268_60, s268_61, s268_64, s268_67, s268_68, s268_69, s268_72, s268_75, s268_76, s268_77, s268_80, s268_83, s268_84, s268_85, s268_88, s268_91, s268_92, s268_93, s268_96, s268_99, s268_100, s268_101, s268_104, s268_107, s268_110, s268_111, s268_112, s268_115, s268_118, s268_121, s268_122, s268_123, s268_126, s268_129, s268_132, s268_133, s268_134, s268_137, s268_140, s268_141, s268_142, s268_145, s268_146, s268_147, s268_150, s268_153, s268_154, s268_155, s268_157, s268_160, s268_161, s268_163, s268_166, s268_167, s268_170, s268_171, s268_173, s268_174, s268_175, s268_178, s268_180, oB_some, cl2_i, cl2_r, cl2_l, cl2_u, cl2_s, wd_0, wd_i, wd_r, wd_l, wd_f, ct_i, ct_r, ct_n, ct_f, rf_s, rf_n, tl_s, tl_n, true_and, and_true, eq_self, and_self, Nat.reduceAdd, Nat.reduceLeDiff, Nat.zero_le, Nat.reduceEqDiff, or_true, true_or, false_or, or_false, if_true, if_false, gI_0, gI_1, gI_2, gI_3, gI_4, gI_5, gI_6, gI_7, gI_8, gI_9, gI_10, gI_11, gI_12, gI_13, gI_14, gI_15, gL_0, gL_1, gL_2, gL_3, gL_4, gL_5, gL_6, gL_7, gL_8, gL_9, gL_10, gL_11, gL_12, gL_13, gL_14, gL_15, gA_0, gA_1, gA_2, gA_3, gA_4, gA_5, gA_6, gA_7, gA_8, gA_9, gA_10, gA_11, gA_12, gA_13, gA_14, gA_15, p1_0, p1_1, p1_2, p1_3, p1_4, p1_5, p1_6, p1_7, p1_8, p1_9, p1_10, p1_11, p1_12, p1_13, p1_14, p1_15, p2_0, p2_1, p2_2, p2_3, p2_4, p2_5, p2_6, p2_7, p2_8, p2_9, p2_10, p2_11, p2_12, p2_13, p2_14, p2_15, b01_ok, b_ft, b_tf, b01_e0, b01_e1, lgc_0, not_true_eq_false, not_false_eq_true, K, V, F, X.v.n, X.v.y, X.v.u, X.v.d, X.v.t, X.v.m, X.v.s, X.v.o, v_bitCount g.s, v_bitCount g.o, T.1, w5, p2, nz_10]
                        exact k
                      · rw [if_neg e10] at k
                        by_cases f1 : w < 11
                        · rw [if_pos f1] at k
                          simp only [e268, s268_0, s268_1, s268_60, s268_61, s268_64, s268_67, s268_68, s268_69, s268_72, s268_75, s268_76, s268_77, s268_80, s268_83, s268_84, s268_85, s268_88, s268_91, s268_92, s268_93, s268_96, s268_99, s268_100, s268_101, s268_104, s268_107, s268_110, s268_111, s268_112, s268_115, s268_118, s268_121, s268_122, s268_123, s268_126, s268_129, s268_132, s268_133, s268_134, s268_137, s268_140, s268_141, s268_142, s268_145, s268_146, s268_147, s268_150, s268_153, s268_154, s268_155, s268_157, s268_160, s268_161, s268_163, s268_166, s268_167, s268_170, s268_171, s268_173, s268_174, s268_175, s268_178, s268_180, oB_some, cl2_i, cl2_r, cl2_l, cl2_u, cl2_s, wd_0, wd_i, wd_r, wd_l, wd_f, ct_i, ct_r, ct_n, ct_f, rf_s, rf_n, tl_s, tl_n, true_and, and_true, eq_self, and_self, Nat.reduceAdd, Nat.reduceLeDiff, Nat.zero_le, Nat.reduceEqDiff, or_true, true_or, false_or, or_false, if_true, if_false, gI_0, gI_1, gI_2, gI_3, gI_4, gI_5, gI_6, gI_7, gI_8, gI_9, gI_10, gI_11, gI_12, gI_13, gI_14, gI_15, gL_0, gL_1, gL_2, gL_3, gL_4, gL_5, gL_6, gL_7, gL_8, gL_9, gL_10, gL_11, gL_12, gL_13, gL_14, gL_15, gA_0, gA_1, gA_2, gA_3, gA_4, gA_5, gA_6, gA_7, gA_8, gA_9, gA_10, gA_11, gA_12, gA_13, gA_14, gA_15, p1_0, p1_1, p1_2, p1_3, p1_4, p1_5, p1_6, p1_7, p1_8, p1_9, p1_10, p1_11, p1_12, p1_13, p1_14, p1_15, p2_0, p2_1, p2_2, p2_3, p2_4, p2_5, p2_6, p2_7, p2_8, p2_9, p2_10, p2_11, p2_12, p2_13, p2_14, p2_15, b01_ok, b_ft, b_tf, b01_e0, b01_e1, lgc_0, not_true_eq_false, not_false_eq_true, K, V, F, e0, e1, e2, e3, e4, e5, e6, e7, e8, e9, e10, f1]
                          exact k
                        · rw [if_neg f1] at k
                          by_cases f2 : 16 < w
                          · rw [if_pos f2] at k
                            simp only [e268, s268_0, s268_1, s268_60, s268_61, s268_64, s268_67, s268_68, s268_69, s268_72, s268_75, s268_76, s268_77, s268_80, s268_83, s268_84, s268_85, s268_88, s268_91, s268_92, s268_93, s268_96, s268_99, s268_100, s268_101, s268_104, s268_107, s268_110, s268_111, s268_112, s268_115, s268_118, s268_121, s268_122, s268_123, s268_126, s268_129, s268_132, s268_133, s268_134, s268_137, s268_140, s268_141, s268_142, s268_145, s268_146, s268_147, s268_150, s268_153, s268_154, s268_155, s268_157, s268_160, s268_161, s268_163, s268_166, s268_167, s268_170, s268_171, s268_173, s268_174, s268_175, s268_178, s268_180, oB_some, cl2_i, cl2_r, cl2_l, cl2_u, cl2_s, wd_0, wd_i, wd_r, wd_l, wd_f, ct_i, ct_r, ct_n, ct_f, rf_s, rf_n, tl_s, tl_n, true_and, and_true, eq_self, and_self, Nat.reduceAdd, Nat.reduceLeDiff, Nat.zero_le, Nat.reduceEqDiff, or_true, true_or, false_or, or_false, if_true, if_false, gI_0, gI_1, gI_2, gI_3, gI_4, gI_5, gI_6, gI_7, gI_8, gI_9, gI_10, gI_11, gI_12, gI_13, gI_14, gI_15, gL_0, gL_1, gL_2, gL_3, gL_4, gL_5, gL_6, gL_7, gL_8, gL_9, gL_10, gL_11, gL_12, gL_13, gL_14, gL_15, gA_0, gA_1, gA_2, gA_3, gA_4, gA_5, gA_6, gA_7, gA_8, gA_9, gA_10, gA_11, gA_12, gA_13, gA_14, gA_15, p1_0, p1_1, p1_2, p1_3, p1_4, p1_5, p1_6, p1_7, p1_8, p1_9, p1_10, p1_11, p1_12, p1_13, p1_14, p1_15, p2_0, p2_1, p2_2, p2_3, p2_4, p2_5, p2_6, p2_7, p2_8, p2_9, p2_10, p2_11, p2_12, p2_13, p2_14, p2_15, b01_ok, b_ft, b_tf, b01_e0, b01_e1, lgc_0, not_true_eq_false, not_false_eq_true, K, V, F, e0, e1, e2, e3, e4, e5, e6, e7, e8, e9, e10, f1, f2]
                            exact k
                          · rw [if_neg f2] at k
                            obtain ⟨j, hj1, hj, rfl⟩ := arg11 f1 f2
                            have s11 : nI j - 11 = nI (j - 11) := pk_sub (b := 11) hj1
                            have j31 : j - 11 < 2 ^ 31 := by omega
                            have j6 : j - 11 < 6 := by omega
                            rw [tc_n (show j < 2 ^ 31 by omega)] at k
                            simp only [e268, s268_0, s268_1, s268_60, s268_61, s268_64, s268_67, s268_68, s268_69, s268_72, s268_75, s268_76, s268_77, s268_80, s268_83, s268_84, s268_85, s268_88, s268_91, s268_92, s268_93, s268_96, s268_99, s268_100, s268_101, s268_104, s268_107, s268_110, s268_111, s268_112, s268_115, s268_118, s268_121, s268_122, s268_123, s268_126, s268_129, s268_132, s268_133, s268_134, s268_137, s268_140, s268_141, s268_142, s268_145, s268_146, s268_147, s268_150, s268_153, s268_154, s268_155, s268_157, s268_160, s268_161, s268_163, s268_166, s268_167, s268_170, s268_171, s268_173, s268_174, s268_175, s268_178, s268_180, oB_some, cl2_i, cl2_r, cl2_l, cl2_u, cl2_s, wd_0, wd_i, wd_r, wd_l, wd_f, ct_i, ct_r, ct_n, ct_f, rf_s, rf_n, tl_s, tl_n, true_and, and_true, eq_self, and_self, Nat.reduceAdd, Nat.reduceLeDiff, Nat.zero_le, Nat.reduceEqDiff, or_true, true_or, false_or, or_false, if_true, if_false, gI_0, gI_1, gI_2, gI_3, gI_4, gI_5, gI_6, gI_7, gI_8, gI_9, gI_10, gI_11, gI_12, gI_13, gI_14, gI_15, gL_0, gL_1, gL_2, gL_3, gL_4, gL_5, gL_6, gL_7, gL_8, gL_9, gL_10, gL_11, gL_12, gL_13, gL_14, gL_15, gA_0, gA_1, gA_2, gA_3, gA_4, gA_5, gA_6, gA_7, gA_8, gA_9, gA_10, gA_11, gA_12, gA_13, gA_14, gA_15, p1_0, p1_1, p1_2, p1_3, p1_4, p1_5, p1_6, p1_7, p1_8, p1_9, p1_10, p1_11, p1_12, p1_13, p1_14, p1_15, p2_0, p2_1, p2_2, p2_3, p2_4, p2_5, p2_6, p2_7, p2_8, p2_9, p2_10, p2_11, p2_12, p2_13, p2_14, p2_15, b01_ok, b_ft, b_tf, b01_e0, b01_e1, lgc_0, not_true_eq_false, not_false_eq_true, K, V, F, e0, e1, e2, e3, e4, e5, e6, e7, e8, e9, e10, f1, f2, s11, ix_nI j31, nI_pos' j31, j6]
                            exact k
set_option maxHeartbeats 4000000 in
theorem x_back {d tl len : Nat} {tp r : Nat → Nat} {Q : PQ} {h : HP} {x : Nat} {S : VS} {H : HS} (C : CI h x S H tp tl r len) (gS : GV S) (gH : GH H)
    (kr : hc H = 0 → Q (some (.int (-3))) (RfC h x (-3)))
    (k : ¬ hc H = 0 → KC h x (topH H) (popH H) tp tl r len (Q (some (.int (nI (hc H - 1)))))) : Ev (d + 5) 141 [.ref x] h Q := by
  have X := C.1
  have g := gS.1
  have hy := gS.2
  have K := X.1
  unfold XK at K
  have V := X.v.k
  unfold VK at V
  have F := X.2.1.1
  have gn := g.n
  have gl := g.l
  have p2 := C.2.1.1.2
  have c8 := gH.1.2
  have e0 : (nI (hc H) = 0) = (hc H = 0) := eq_l0 (by omega)
  by_cases e : hc H = 0
  · have n00 : nI 0 = 0 := rfl
    simp only [e141, s141_0, s141_1, s141_4, s141_7, s141_10, s141_11, s141_13, s141_16, s141_17, s141_18, s141_21, s141_22, s141_25, s141_28, s141_29, s141_32, s141_35, oB_some, cl2_i, cl2_r, cl2_l, cl2_u, cl2_s, wd_0, wd_i, wd_r, wd_l, wd_f, ct_i, ct_r, ct_n, ct_f, rf_s, rf_n, tl_s, tl_n, true_and, and_true, eq_self, and_self, Nat.reduceAdd, Nat.reduceLeDiff, Nat.zero_le, Nat.reduceEqDiff, or_true, true_or, false_or, or_false, if_true, if_false, gI_0, gI_1, gI_2, gI_3, gI_4, gI_5, gI_6, gI_7, gI_8, gI_9, gI_10, gI_11, gI_12, gI_13, gI_14, gI_15, gL_0, gL_1, gL_2, gL_3, gL_4, gL_5, gL_6, gL_7, gL_8, gL_9, gL_10, gL_11, gL_12, gL_13, gL_14, gL_15, gA_0, gA_1, gA_2, gA_3, gA_4, gA_5, gA_6, gA_7, gA_8, gA_9, gA_10, gA_11, gA_12, gA_13, gA_14, gA_15, p1_0, p1_1, p1_2, p1_3, p1_4, p1_5, p1_6, p1_7, p1_8, p1_9, p1_10, p1_11, p1_12, p1_13, p1_14, p1_15, p2_0, p2_1, p2_2, p2_3, p2_4, p2_5, p2_6, p2_7, p2_8, p2_9, p2_10, p2_11, p2_12, p2_13, p2_14, p2_15, b01_ok, b_ft, b_tf, b01_e0, b01_e1, lgc_0, not_true_eq_false, not_false_eq_true, K, p2, e, n00, v_ref3 X, not_true_eq_false]
    exact kr e
  · simp only [e141, s141_0, s141_1, s141_4, s141_7, s141_10, s141_11, s141_13, s141_16, s141_17, s141_18, s141_21, s141_22, s141_25, oB_some, cl2_i, cl2_r, cl2_l, cl2_u, cl2_s, wd_0, wd_i, wd_r, wd_l, wd_f, ct_i, ct_r, ct_n, ct_f, rf_s, rf_n, tl_s, tl_n, true_and, and_true, eq_self, and_self, Nat.reduceAdd, Nat.reduceLeDiff, Nat.zero_le, Nat.reduceEqDiff, or_true, true_or, false_or, or_false, if_true, if_false, gI_0, gI_1, gI_2, gI_3, gI_4, gI_5, gI_6, gI_7, gI_8, gI_9, gI_10, gI_11, gI_12, gI_13, gI_14, gI_15, gL_0, gL_1, gL_2, gL_3, gL_4, gL_5, gL_6, gL_7, gL_8, gL_9, gL_10, gL_11, gL_12, gL_13, gL_14, gL_15, gA_0, gA_1, gA_2, gA_3, gA_4, gA_5, gA_6, gA_7, gA_8, gA_9, gA_10, gA_11, gA_12, gA_13, gA_14, gA_15, p1_0, p1_1, p1_2, p1_3, p1_4, p1_5, p1_6, p1_7, p1_8, p1_9, p1_10, p1_11, p1_12, p1_13, p1_14, p1_15, p2_0, p2_1, p2_2, p2_3, p2_4, p2_5, p2_6, p2_7, p2_8, p2_9, p2_10, p2_11, p2_12, p2_13, p2_14, p2_15, b01_ok, b_ft, b_tf, b01_e0, b01_e1, lgc_0, not_true_eq_false, not_false_eq_true, K, p2, e0, e, not_false_eq_true]
    refine v_takeBack C gH e fun h1 f1 r1 C1 => ?_
    have K1 := C1.1.1
    unfold XK at K1
    have q2 : hI h1 (x + 1) 2 = nI (hc H - 1) := C1.2.1.1.2
    simp only [s141_28, s141_29, s141_32, s141_35, oB_some, cl2_i, cl2_r, cl2_l, cl2_u, cl2_s, wd_0, wd_i, wd_r, wd_l, wd_f, ct_i, ct_r, ct_n, ct_f, rf_s, rf_n, tl_s, tl_n, true_and, and_true, eq_self, and_self, Nat.reduceAdd, Nat.reduceLeDiff, Nat.zero_le, Nat.reduceEqDiff, or_true, true_or, false_or, or_false, if_true, if_false, gI_0, gI_1, gI_2, gI_3, gI_4, gI_5, gI_6, gI_7, gI_8, gI_9, gI_10, gI_11, gI_12, gI_13, gI_14, gI_15, gL_0, gL_1, gL_2, gL_3, gL_4, gL_5, gL_6, gL_7, gL_8, gL_9, gL_10, gL_11, gL_12, gL_13, gL_14, gL_15, gA_0, gA_1, gA_2, gA_3, gA_4, gA_5, gA_6, gA_7, gA_8, gA_9, gA_10, gA_11, gA_12, gA_13, gA_14, gA_15, p1_0, p1_1, p1_2, p1_3, p1_4, p1_5, p1_6, p1_7, p1_8, p1_9, p1_10, p1_11, p1_12, p1_13, p1_14, p1_15, p2_0, p2_1, p2_2, p2_3, p2_4, p2_5, p2_6, p2_7, p2_8, p2_9, p2_10, p2_11, p2_12, p2_13, p2_14, p2_15, b01_ok, b_ft, b_tf, b01_e0, b01_e1, lgc_0, not_true_eq_false, not_false_eq_true, K1, q2]
    exact k e h1 f1 r1 C1
set_option maxHeartbeats 4000000 in
theorem x_restore {d tl len : Nat} {tp r : Nat → Nat} {Q : PQ} {h : HP} {x : Nat} {S : VS} {H : HS} (C : CI h x S H tp tl r len) (gS : GV S) (gH : GH H)
    (kr : him H = none → Q (some (.int (-3))) (RfC h x (-3)))
    (k : ∀ I, him H = some I → KC h x I (dropH H) tp tl r len (Q (some (.int (nI (vy I)))))) : Ev (d + 5) 266 [.ref x] h Q := by
  have X := C.1
  have g := gS.1
  have hy := gS.2
  have K := X.1
  unfold XK at K
  have V := X.v.k
  unfold VK at V
  have F := X.2.1.1
  have gn := g.n
  have gl := g.l
  obtain ⟨⟨p1, p2⟩, p3, A, ⟨p4, p5⟩, p6, p7, p8, p9, p10⟩ := C.2.1
  cases e : him H with
  | none =>
    have a8 := p9 e
    rw [a8] at p5
    simp only [e266, s266_0, s266_1, s266_4, s266_4N, s266_7, s266_8, s266_10, s266_13, s266_14, s266_15, s266_18, s266_19, s266_22, s266_25, s266_26, s266_29, s266_32, s266_33, s266_36, s266_39, oB_some, cl2_i, cl2_r, cl2_l, cl2_u, cl2_s, wd_0, wd_i, wd_r, wd_l, wd_f, ct_i, ct_r, ct_n, ct_f, rf_s, rf_n, tl_s, tl_n, true_and, and_true, eq_self, and_self, Nat.reduceAdd, Nat.reduceLeDiff, Nat.zero_le, Nat.reduceEqDiff, or_true, true_or, false_or, or_false, if_true, if_false, gI_0, gI_1, gI_2, gI_3, gI_4, gI_5, gI_6, gI_7, gI_8, gI_9, gI_10, gI_11, gI_12, gI_13, gI_14, gI_15, gL_0, gL_1, gL_2, gL_3, gL_4, gL_5, gL_6, gL_7, gL_8, gL_9, gL_10, gL_11, gL_12, gL_13, gL_14, gL_15, gA_0, gA_1, gA_2, gA_3, gA_4, gA_5, gA_6, gA_7, gA_8, gA_9, gA_10, gA_11, gA_12, gA_13, gA_14, gA_15, p1_0, p1_1, p1_2, p1_3, p1_4, p1_5, p1_6, p1_7, p1_8, p1_9, p1_10, p1_11, p1_12, p1_13, p1_14, p1_15, p2_0, p2_1, p2_2, p2_3, p2_4, p2_5, p2_6, p2_7, p2_8, p2_9, p2_10, p2_11, p2_12, p2_13, p2_14, p2_15, b01_ok, b_ft, b_tf, b01_e0, b01_e1, lgc_0, not_true_eq_false, not_false_eq_true, K, p5, va_rf, v_ref3 X]
    exact kr e
  | some I =>
    obtain ⟨a, ha, qa⟩ := p10 I e
    rw [ha] at p5
    have ga := (p6 8 a (by decide) ha).1
    have VN := X.v.k.1.1
    simp only [e266, s266_0, s266_1, s266_4, s266_4N, s266_7, s266_8, s266_10, s266_13, s266_14, s266_15, s266_18, s266_19, s266_22, oB_some, cl2_i, cl2_r, cl2_l, cl2_u, cl2_s, wd_0, wd_i, wd_r, wd_l, wd_f, ct_i, ct_r, ct_n, ct_f, rf_s, rf_n, tl_s, tl_n, true_and, and_true, eq_self, and_self, Nat.reduceAdd, Nat.reduceLeDiff, Nat.zero_le, Nat.reduceEqDiff, or_true, true_or, false_or, or_false, if_true, if_false, gI_0, gI_1, gI_2, gI_3, gI_4, gI_5, gI_6, gI_7, gI_8, gI_9, gI_10, gI_11, gI_12, gI_13, gI_14, gI_15, gL_0, gL_1, gL_2, gL_3, gL_4, gL_5, gL_6, gL_7, gL_8, gL_9, gL_10, gL_11, gL_12, gL_13, gL_14, gL_15, gA_0, gA_1, gA_2, gA_3, gA_4, gA_5, gA_6, gA_7, gA_8, gA_9, gA_10, gA_11, gA_12, gA_13, gA_14, gA_15, p1_0, p1_1, p1_2, p1_3, p1_4, p1_5, p1_6, p1_7, p1_8, p1_9, p1_10, p1_11, p1_12, p1_13, p1_14, p1_15, p2_0, p2_1, p2_2, p2_3, p2_4, p2_5, p2_6, p2_7, p2_8, p2_9, p2_10, p2_11, p2_12, p2_13, p2_14, p2_15, b01_ok, b_ft, b_tf, b01_e0, b01_e1, lgc_0, not_true_eq_false, not_false_eq_true, K, p5, va_rf, VN]
    refine v_becomeLike X.v.k qa (gH.2.1 I e).1 (Or.inr (by omega)) fun h1 m1 q1 f1 => ?_
    have C1 := (C.now m1 q1 f1).drop
    have K1 := (C.now m1 q1 f1).1.1
    unfold XK at K1
    have V1 := q1.k
    unfold VK at V1
    have y1 : hI (sI h1 (x + 1) 2 0) (x + 7) 12 = nI (vy I) := by rw [hI_sI_ne (by omega)]; exact q1.y
    simp only [s266_25, s266_26, s266_29, s266_32, s266_33, s266_36, s266_39, oB_some, cl2_i, cl2_r, cl2_l, cl2_u, cl2_s, wd_0, wd_i, wd_r, wd_l, wd_f, ct_i, ct_r, ct_n, ct_f, rf_s, rf_n, tl_s, tl_n, true_and, and_true, eq_self, and_self, Nat.reduceAdd, Nat.reduceLeDiff, Nat.zero_le, Nat.reduceEqDiff, or_true, true_or, false_or, or_false, if_true, if_false, gI_0, gI_1, gI_2, gI_3, gI_4, gI_5, gI_6, gI_7, gI_8, gI_9, gI_10, gI_11, gI_12, gI_13, gI_14, gI_15, gL_0, gL_1, gL_2, gL_3, gL_4, gL_5, gL_6, gL_7, gL_8, gL_9, gL_10, gL_11, gL_12, gL_13, gL_14, gL_15, gA_0, gA_1, gA_2, gA_3, gA_4, gA_5, gA_6, gA_7, gA_8, gA_9, gA_10, gA_11, gA_12, gA_13, gA_14, gA_15, p1_0, p1_1, p1_2, p1_3, p1_4, p1_5, p1_6, p1_7, p1_8, p1_9, p1_10, p1_11, p1_12, p1_13, p1_14, p1_15, p2_0, p2_1, p2_2, p2_3, p2_4, p2_5, p2_6, p2_7, p2_8, p2_9, p2_10, p2_11, p2_12, p2_13, p2_14, p2_15, b01_ok, b_ft, b_tf, b01_e0, b01_e1, lgc_0, not_true_eq_false, not_false_eq_true, z_hkd_sI, z_hln_sI, z_hL_sI, z_hR_sI, z_hnx_sI, z_hkd_sL, z_hln_sL, z_hI_sL, z_hR_sL, z_hnx_sL, z_hkd_sR, z_hln_sR, z_hI_sR, z_hL_sR, z_hnx_sR, z_hkd_cI, z_hln_cI, z_hL_cI, z_hR_cI, z_hnx_cI, z_hkd_cLg, z_hln_cLg, z_hI_cLg, z_hR_cLg, z_hnx_cLg, K1, V1, v_forgetAll (show hkd h1 (x + 1) = 12 from K1.1.2.1), y1]
    exact k I e _ ((m1.fa (by omega) (by omega)).tr (Fm.fa (lo := x + 1) (n := 1) (Fm.rf.sI (Nat.le_refl _) (by omega)) (by omega) (by omega))) (by rw [hI_sI_ne (by omega), (m1.1 (x + 6) (by omega)).1]) C1
def imgH (H : HS) (S : VS) : HS := (some S, ho H, hc H, hg H)
set_option maxHeartbeats 8000000 in
theorem x_image {d tl len : Nat} {tp r : Nat → Nat} {Q : PQ} {h : HP} {x : Nat} {S : VS} {H : HS} (C : CI h x S H tp tl r len) (gS : GV S) (gH : GH H)
    (k : KC h x S (imgH H S) tp tl r len (Q (some (.int (nI (vy S)))))) : Ev (d + 5) 264 [.ref x] h Q := by
  have X := C.1
  have g := gS.1
  have hy := gS.2
  have K := X.1
  unfold XK at K
  have V := X.v.k
  unfold VK at V
  have F := X.2.1.1
  have gn := g.n
  have gl := g.l
  obtain ⟨⟨p1, p2⟩, p3, A, ⟨p4, p5⟩, p6, p7, p8, p9, p10⟩ := C.2.1
  have part : ∀ (h1 : HP) (a : Nat) (A2 : Nat → Option Nat) (c s : Nat), FC0' x h h1 → (∀ i, i < 8 → hR h1 (x + 2) i = A2 i) → hR h1 x 7 = A2 8 → (∀ i a, i < 9 → A2 i = some a → x + 54 ≤ a ∧ a + 12 ≤ hnx h1 ∧ VK h1 a) →
      (∀ i j a b, i < 9 → j < 9 → ¬ i = j → A2 i = some a → A2 j = some b → a + 12 ≤ b ∨ b + 12 ≤ a) → (∀ j, j < hc H → ∃ a, A2 ((ho H + j) % 8) = some a ∧ RV h1 a (hg H ((ho H + j) % 8))) → A2 8 = some a →
      WP (d + 4) 264 Q (18, [.val (.ref x)], [], h1, c, s) := by
    intro h1 a A2 c s f1 r1 r2 b1 dj l1 ha
    have X1 := f1.xq X
    have K1 := X1.1
    unfold XK at K1
    obtain ⟨ga, gb, gk⟩ := b1 8 a (by decide) ha
    have gk14 := gk.1.1
    simp only [s264_18, s264_19, s264_22, s264_23, s264_26, oB_some, cl2_i, cl2_r, cl2_l, cl2_u, cl2_s, wd_0, wd_i, wd_r, wd_l, wd_f, ct_i, ct_r, ct_n, ct_f, rf_s, rf_n, tl_s, tl_n, true_and, and_true, eq_self, and_self, Nat.reduceAdd, Nat.reduceLeDiff, Nat.zero_le, Nat.reduceEqDiff, or_true, true_or, false_or, or_false, if_true, if_false, gI_0, gI_1, gI_2, gI_3, gI_4, gI_5, gI_6, gI_7, gI_8, gI_9, gI_10, gI_11, gI_12, gI_13, gI_14, gI_15, gL_0, gL_1, gL_2, gL_3, gL_4, gL_5, gL_6, gL_7, gL_8, gL_9, gL_10, gL_11, gL_12, gL_13, gL_14, gL_15, gA_0, gA_1, gA_2, gA_3, gA_4, gA_5, gA_6, gA_7, gA_8, gA_9, gA_10, gA_11, gA_12, gA_13, gA_14, gA_15, p1_0, p1_1, p1_2, p1_3, p1_4, p1_5, p1_6, p1_7, p1_8, p1_9, p1_10, p1_11, p1_12, p1_13, p1_14, p1_15, p2_0, p2_1, p2_2, p2_3, p2_4, p2_5, p2_6, p2_7, p2_8, p2_9, p2_10, p2_11, p2_12, p2_13, p2_14, p2_15, b01_ok, b_ft, b_tf, b01_e0, b01_e1, lgc_0, not_true_eq_false, not_false_eq_true, K1, r2, ha, va_rf, gk14]
    refine v_becomeLike gk X1.v g (Or.inl (by omega)) fun h2 m2 q2 f2 => ?_
    have X2 := X1.far m2 (by omega)
    have K2 := X2.1
    unfold XK at K2
    have V2 := X2.v.k
    unfold VK at V2
    simp only [s264_29, s264_30, s264_33, s264_36, oB_some, cl2_i, cl2_r, cl2_l, cl2_u, cl2_s, wd_0, wd_i, wd_r, wd_l, wd_f, ct_i, ct_r, ct_n, ct_f, rf_s, rf_n, tl_s, tl_n, true_and, and_true, eq_self, and_self, Nat.reduceAdd, Nat.reduceLeDiff, Nat.zero_le, Nat.reduceEqDiff, or_true, true_or, false_or, or_false, if_true, if_false, gI_0, gI_1, gI_2, gI_3, gI_4, gI_5, gI_6, gI_7, gI_8, gI_9, gI_10, gI_11, gI_12, gI_13, gI_14, gI_15, gL_0, gL_1, gL_2, gL_3, gL_4, gL_5, gL_6, gL_7, gL_8, gL_9, gL_10, gL_11, gL_12, gL_13, gL_14, gL_15, gA_0, gA_1, gA_2, gA_3, gA_4, gA_5, gA_6, gA_7, gA_8, gA_9, gA_10, gA_11, gA_12, gA_13, gA_14, gA_15, p1_0, p1_1, p1_2, p1_3, p1_4, p1_5, p1_6, p1_7, p1_8, p1_9, p1_10, p1_11, p1_12, p1_13, p1_14, p1_15, p2_0, p2_1, p2_2, p2_3, p2_4, p2_5, p2_6, p2_7, p2_8, p2_9, p2_10, p2_11, p2_12, p2_13, p2_14, p2_15, b01_ok, b_ft, b_tf, b01_e0, b01_e1, lgc_0, not_true_eq_false, not_false_eq_true, K2, V2, X2.v.y]
    refine k h2 (f1.fa.tr ⟨fun b hb => ⟨by rw [m2.2.1], by rw [m2.2.2.1], (m2.1 b (by omega)).1, (m2.1 b (by omega)).2, by rw [m2.2.2.2.1]⟩, by rw [m2.2.2.2.2]; exact Nat.le_refl _⟩) ?_ ⟨X2, ⟨⟨?_, ?_⟩, ?_, A2, ⟨fun i hi => ?_, ?_⟩, fun i b hi hb => ?_, dj, fun j hj => ?_, fun hn => (by cases hn), fun I hI => ?_⟩, ?_, ?_⟩
    · rw [(m2.1 (x + 6) (by omega)).1, (f1.1 (x + 6) (by omega)).2.2.1]
    · rw [(m2.1 (x + 1) (by omega)).1, (f1.1 (x + 1) (by omega)).2.2.1]; exact p1
    · rw [(m2.1 (x + 1) (by omega)).1, (f1.1 (x + 1) (by omega)).2.2.1]; exact p2
    · have := f1.2.1
      rw [m2.2.2.2.2]
      omega
    · rw [m2.2.2.2.1]; exact r1 i hi
    · rw [m2.2.2.2.1]; exact r2
    · obtain ⟨z1, z2, z3⟩ := b1 i b hi hb
      exact ⟨z1, by rw [m2.2.2.2.2]; exact z2, z3.kept m2.2.1 m2.2.2.1 m2.2.2.2.1⟩
    · obtain ⟨b, hb, qb⟩ := l1 j hj
      have l8 := Nat.mod_lt (ho H + j) (show 0 < 8 by decide)
      have := dj _ 8 b a (by omega) (by decide) (by omega) hb ha
      exact ⟨b, hb, qb.kept m2 (by omega)⟩
    · cases hI
      exact ⟨a, ha, q2⟩
    · have T := C.2.2.1
      unfold XT at T ⊢
      rw [(m2.1 (x + 3) (by omega)).1, (m2.1 (x + 4) (by omega)).1, (f1.1 (x + 3) (by omega)).2.2.1, (f1.1 (x + 4) (by omega)).2.2.1]
      exact T
    · have Rr := C.2.2.2
      unfold XR RW at Rr ⊢
      rw [m2.2.1, m2.2.2.1, (m2.1 (x + 5) (by omega)).1, (m2.1 x (by omega)).1, (f1.1 (x + 5) (by omega)).1, (f1.1 (x + 5) (by omega)).2.1, (f1.1 (x + 5) (by omega)).2.2.1, (f1.1 x (by omega)).2.2.1]
      exact Rr
  cases ha : A 8 with
  | some a =>
    have p5' := p5
    rw [ha] at p5'
    simp only [e264, s264_0, s264_1, s264_4, s264_4N, s264_7, s264_8, s264_11, s264_12, s264_15, oB_some, cl2_i, cl2_r, cl2_l, cl2_u, cl2_s, wd_0, wd_i, wd_r, wd_l, wd_f, ct_i, ct_r, ct_n, ct_f, rf_s, rf_n, tl_s, tl_n, true_and, and_true, eq_self, and_self, Nat.reduceAdd, Nat.reduceLeDiff, Nat.zero_le, Nat.reduceEqDiff, or_true, true_or, false_or, or_false, if_true, if_false, gI_0, gI_1, gI_2, gI_3, gI_4, gI_5, gI_6, gI_7, gI_8, gI_9, gI_10, gI_11, gI_12, gI_13, gI_14, gI_15, gL_0, gL_1, gL_2, gL_3, gL_4, gL_5, gL_6, gL_7, gL_8, gL_9, gL_10, gL_11, gL_12, gL_13, gL_14, gL_15, gA_0, gA_1, gA_2, gA_3, gA_4, gA_5, gA_6, gA_7, gA_8, gA_9, gA_10, gA_11, gA_12, gA_13, gA_14, gA_15, p1_0, p1_1, p1_2, p1_3, p1_4, p1_5, p1_6, p1_7, p1_8, p1_9, p1_10, p1_11, p1_12, p1_13, p1_14, p1_15, p2_0, p2_1, p2_2, p2_3, p2_4, p2_5, p2_6, p2_7, p2_8, p2_9, p2_10, p2_11, p2_12, p2_13, p2_14, p2_15, b01_ok, b_ft, b_tf, b01_e0, b01_e1, lgc_0, not_true_eq_false, not_false_eq_true, K, p5', va_rf]
    exact part h a A _ _ FC0'.rf p4 p5 p6 p7 p8 ha
  | none =>
    have p5' := p5
    rw [ha] at p5'
    have kv : hkd (snw h 14 0) (hnx h) = 14 := if_pos rfl
    have lv : hnx h < hnx (snw h 14 0) := by rw [hnx_snw]; omega
    obtain ⟨n1, n2, n3, n4, n5⟩ := vnew_f (h := h)
    have K2 : hkd (vil (snw h 14 0) (hnx h)) x = 15 := (n5 x (by omega)).1.trans K.1.1
    have kn : hkd (vil (snw h 14 0) (hnx h)) (hnx h) = 14 := n2.1.1
    simp only [e264, s264_0, s264_1, s264_4, s264_4N, s264_7, s264_8, s264_11, s264_12, s264_15, oB_some, cl2_i, cl2_r, cl2_l, cl2_u, cl2_s, wd_0, wd_i, wd_r, wd_l, wd_f, ct_i, ct_r, ct_n, ct_f, rf_s, rf_n, tl_s, tl_n, true_and, and_true, eq_self, and_self, Nat.reduceAdd, Nat.reduceLeDiff, Nat.zero_le, Nat.reduceEqDiff, or_true, true_or, false_or, or_false, if_true, if_false, gI_0, gI_1, gI_2, gI_3, gI_4, gI_5, gI_6, gI_7, gI_8, gI_9, gI_10, gI_11, gI_12, gI_13, gI_14, gI_15, gL_0, gL_1, gL_2, gL_3, gL_4, gL_5, gL_6, gL_7, gL_8, gL_9, gL_10, gL_11, gL_12, gL_13, gL_14, gL_15, gA_0, gA_1, gA_2, gA_3, gA_4, gA_5, gA_6, gA_7, gA_8, gA_9, gA_10, gA_11, gA_12, gA_13, gA_14, gA_15, p1_0, p1_1, p1_2, p1_3, p1_4, p1_5, p1_6, p1_7, p1_8, p1_9, p1_10, p1_11, p1_12, p1_13, p1_14, p1_15, p2_0, p2_1, p2_2, p2_3, p2_4, p2_5, p2_6, p2_7, p2_8, p2_9, p2_10, p2_11, p2_12, p2_13, p2_14, p2_15, b01_ok, b_ft, b_tf, b01_e0, b01_e1, lgc_0, not_true_eq_false, not_false_eq_true, K, p5', va_rf, kv, v_vilInit kv lv, K2, kn, Nat.reduceSub, Value.category]
    have oldRV : ∀ b T, b + 12 ≤ hnx h → ¬ (b ≤ x ∧ x < b + 12) → RV h b T → RV (sR (vil (snw h 14 0) (hnx h)) x 7 (some (hnx h))) b T := fun b T hb hb2 q => q.cells fun c hc1 hc2 => by
      obtain ⟨z1, z2, z3, z4, z5⟩ := n5 c (by omega)
      refine ⟨by rw [hkd_sR]; exact z1, by rw [hln_sR]; exact z2, ?_, by rw [hI_sR]; exact z3, by rw [hL_sR]; exact z4⟩
      funext j
      rw [hR_sR, if_neg (by omega), z5]
    have oldVK : ∀ b, b + 12 ≤ hnx h → ¬ (b ≤ x ∧ x < b + 12) → VK h b → VK (sR (vil (snw h 14 0) (hnx h)) x 7 (some (hnx h))) b := fun b hb hb2 q => q.cells fun c hc1 hc2 => by
      obtain ⟨z1, z2, z3, z4, z5⟩ := n5 c (by omega)
      refine ⟨by rw [hkd_sR]; exact z1, by rw [hln_sR]; exact z2, ?_⟩
      funext j
      rw [hR_sR, if_neg (by omega), z5]
    have newVK : VK (sR (vil (snw h 14 0) (hnx h)) x 7 (some (hnx h))) (hnx h) := n2.cells fun c hc1 hc2 => by
      refine ⟨by rw [hkd_sR], by rw [hln_sR], ?_⟩
      funext j
      rw [hR_sR, if_neg (by omega)]
    refine part _ (hnx h) (va_up A 8 (some (hnx h))) _ _ ⟨fun b hb => ?_, by rw [hnx_sR, n1]; omega, fun j hj => ?_⟩ (fun i hi => ?_) ?_ (fun i b hi hb => ?_) (fun i j a b hi hj hne h1i h1j => ?_) (fun j hj => ?_) up_at
    · obtain ⟨z1, z2, z3, z4, z5⟩ := n5 b (by omega)
      refine ⟨by rw [hkd_sR]; exact z1, by rw [hln_sR]; exact z2, by rw [hI_sR]; exact z3, by rw [hL_sR]; exact z4, fun z => ?_⟩
      funext j
      rw [hR_sR, if_neg (fun c => z c.1), z5]
    · rw [hR_sR, if_neg (fun c => hj c.2), (n5 x (by omega)).2.2.2.2]
    · rw [hR_sR, if_neg (by omega), up_ne (by omega), (n5 (x + 2) (by omega)).2.2.2.2]
      exact p4 i hi
    · rw [hR_sR, if_pos ⟨rfl, rfl⟩, up_at]
    · by_cases e : i = 8
      · subst e
        rw [up_at] at hb
        cases hb
        exact ⟨p3, by rw [hnx_sR, n1]; exact Nat.le_refl _, newVK⟩
      · rw [up_ne e] at hb
        obtain ⟨z1, z2, z3⟩ := p6 i b hi hb
        exact ⟨z1, by rw [hnx_sR, n1]; omega, oldVK b z2 (by omega) z3⟩
    · by_cases ei : i = 8
      · have ej : ¬ j = 8 := fun z => hne (ei.trans z.symm)
        rw [ei, up_at] at h1i
        rw [up_ne ej] at h1j
        cases h1i
        exact Or.inr (p6 j b hj h1j).2.1
      · rw [up_ne ei] at h1i
        by_cases ej : j = 8
        · rw [ej, up_at] at h1j
          cases h1j
          exact Or.inl (p6 i a hi h1i).2.1
        · rw [up_ne ej] at h1j
          exact p7 i j a b hi hj hne h1i h1j
    · obtain ⟨b, hb, qb⟩ := p8 j hj
      have l8 := Nat.mod_lt (ho H + j) (show 0 < 8 by decide)
      obtain ⟨z1, z2, z3⟩ := p6 _ b (by omega) hb
      exact ⟨b, by rw [up_ne (by omega)]; exact hb, oldRV b _ z2 (by omega) qb⟩
