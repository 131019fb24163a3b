-- the one side, all of it
def XT (h : HP) (x : Nat) (tp : Nat → Nat) (tl : Nat) : Prop := hI h (x + 3) 1 = nI tl ∧ tl ≤ 96 ∧ ∀ i, i < tl → hI h (x + 4) i = nI (tp i) ∧ tp i < 256
def CI (h : HP) (x : Nat) (S : VS) (H : HS) (tp : Nat → Nat) (tl : Nat) (r : Nat → Nat) (len : Nat) : Prop := XQ h x S ∧ XP h x H ∧ XT h x tp tl ∧ XR h x r len
def FA (x : Nat) (h h' : HP) : Prop := (∀ b, (b < x ∨ (x + 34 ≤ b ∧ b < x + 54)) → hkd h' b = hkd h b ∧ hln h' b = hln h b ∧ hI h' b = hI h b ∧ hL h' b = hL h b ∧ hR h' b = hR h b) ∧ hnx h ≤ hnx h'
theorem FA.rf {x : Nat} {h : HP} : FA x h h := ⟨fun _ _ => ⟨rfl, rfl, rfl, rfl, rfl⟩, Nat.le_refl _⟩
theorem FA.tr {x : Nat} {h h1 h2 : HP} (a : FA x h h1) (b : FA x h1 h2) : FA x h h2 := ⟨fun q hq => by
  obtain ⟨a1, a2, a3, a4, a5⟩ := a.1 q hq
  obtain ⟨b1, b2, b3, b4, b5⟩ := b.1 q hq
  exact ⟨b1.trans a1, b2.trans a2, b3.trans a3, b4.trans a4, b5.trans a5⟩, Nat.le_trans a.2 b.2⟩
theorem Fm.fa {x lo n : Nat} {h h' : HP} (f : Fm lo n h h') (h1 : x ≤ lo) (h2 : lo + n ≤ x + 34) : FA x h h' := ⟨fun b hb => ⟨by rw [f.2.1], by rw [f.2.2.1], (f.1 b (by omega)).1, (f.1 b (by omega)).2, by rw [f.2.2.2.1]⟩, by rw [f.2.2.2.2]; exact Nat.le_refl _⟩
theorem FC0.fa {x : Nat} {h h' : HP} (f : FC0 x h h') : FA x h h' := ⟨fun b hb => by
  obtain ⟨a1, a2, a3, a4, a5⟩ := f.1 b (by omega)
  exact ⟨a1, a2, a3 (by omega), a4, a5 (by omega)⟩, f.2⟩
theorem XP.kept {x lo n : Nat} {h h' : HP} {H : HS} (P : XP h x H) (f : Fm lo n h h') (h1 : x + 2 < lo ∨ lo + n ≤ x + 1) (h2 : lo + n ≤ x + 54) : XP h' x H := by
  obtain ⟨⟨p1, p2⟩, p3, A, ⟨p4, p5⟩, p6, p7, p8, p9, p10⟩ := P
  have e1 : hI h' (x + 1) = hI h (x + 1) := (f.1 (x + 1) (by omega)).1
  refine ⟨⟨by rw [e1]; exact p1, by rw [e1]; exact p2⟩, by rw [f.2.2.2.2]; exact p3, A, ⟨fun i hi => by rw [f.2.2.2.1]; exact p4 i hi, by rw [f.2.2.2.1]; exact p5⟩, fun i a hi ha => ?_, p7, fun j hj => ?_, p9, fun I hI => ?_⟩
  · obtain ⟨z1, z2, z3⟩ := p6 i a hi ha
    exact ⟨z1, by rw [f.2.2.2.2]; exact z2, z3.kept f.2.1 f.2.2.1 f.2.2.2.1⟩
  · obtain ⟨a, ha, qa⟩ := p8 j hj
    have := (p6 _ a (by have := Nat.mod_lt (ho H + j) (show 0 < 8 by decide); omega) ha).1
    exact ⟨a, ha, qa.kept f (by omega)⟩
  · obtain ⟨a, ha, qa⟩ := p10 I hI
    have := (p6 8 a (by decide) ha).1
    exact ⟨a, ha, qa.kept f (by omega)⟩
theorem XT.kept {x lo n tl : Nat} {tp : Nat → Nat} {h h' : HP} (a : XT h x tp tl) (f : Fm lo n h h') (h1 : x + 4 < lo ∨ lo + n ≤ x + 3) : XT h' x tp tl := by
  unfold XT at a ⊢
  rw [(f.1 (x + 3) (by omega)).1, (f.1 (x + 4) (by omega)).1]
  exact a
theorem XR.kept {x lo n len : Nat} {r : Nat → Nat} {h h' : HP} (a : XR h x r len) (f : Fm lo n h h') (h1 : x + 5 < lo ∨ (x < lo ∧ lo + n ≤ x + 5)) : XR h' x r len := by
  refine ⟨a.1.kept f (by omega), ?_⟩
  rw [(f.1 x (by omega)).1]
  exact a.2
theorem CI.q {x tl len : Nat} {tp r : Nat → Nat} {h h' : HP} {S : VS} {H : HS} (a : CI h x S H tp tl r len) (m : Fm (x + 20) 14 h h') : CI h' x S H tp tl r len :=
  ⟨a.1.kept m, a.2.1.kept m (Or.inl (by omega)) (by omega), a.2.2.1.kept m (Or.inl (by omega)), a.2.2.2.kept m (Or.inl (by omega))⟩
theorem CI.rf {x tl len : Nat} {tp r : Nat → Nat} {h : HP} {S : VS} {H : HS} (a : CI h x S H tp tl r len) (w : Int32) : CI (RfC h x w) x S H tp tl r len := by
  have m : Fm (x + 6) 1 h (RfC h x w) := Fm.rf.sI (Nat.le_refl _) (by omega)
  exact ⟨a.1.rf w, a.2.1.kept m (Or.inl (by omega)) (by omega), a.2.2.1.kept m (Or.inl (by omega)), a.2.2.2.kept m (Or.inl (by omega))⟩
theorem CI.now {x tl len : Nat} {tp r : Nat → Nat} {h h' : HP} {S S' : VS} {H : HS} (a : CI h x S H tp tl r len) (m : Fm (x + 7) 12 h h') (q : RV h' (x + 7) S') (f : FV h' (x + 7) 0 false false) : CI h' x S' H tp tl r len := by
  obtain ⟨⟨a1, ⟨b1, b2, b3, b4⟩, a3, a4⟩, P, T, R⟩ := a
  refine ⟨⟨a1.kept m.2.1 m.2.2.1 m.2.2.2.1, ⟨?_, b2.kept m.2.1 m.2.2.1 m.2.2.2.1, q, b4⟩, a3.kept m, f⟩, P.kept m (Or.inl (by omega)) (by omega), T.kept m (Or.inl (by omega)), R.kept m (Or.inl (by omega))⟩
  rw [m.2.1, m.2.2.2.1]
  exact b1
theorem CI.fc0 {x tl len : Nat} {tp r : Nat → Nat} {h h' : HP} {S : VS} {H H' : HS} (a : CI h x S H tp tl r len) (f : FC0 x h h') (P : XP h' x H') : CI h' x S H' tp tl r len := by
  obtain ⟨X, -, T, R⟩ := a
  refine ⟨X.fc0 f, P, ?_, ?_⟩
  · unfold XT at T ⊢
    rw [(f.1 (x + 3) (by omega)).2.2.1 (by omega), (f.1 (x + 4) (by omega)).2.2.1 (by omega)]
    exact T
  · unfold XR RW at R ⊢
    rw [(f.1 (x + 5) (by omega)).2.2.1 (by omega), (f.1 (x + 5) (by omega)).1, (f.1 (x + 5) (by omega)).2.1, (f.1 x (by omega)).2.2.1 (by omega)]
    exact R
/-- an answer that leaves all as it is, or changes it -/
def KC (h : HP) (x : Nat) (S : VS) (H : HS) (tp : Nat → Nat) (tl : Nat) (r : Nat → Nat) (len : Nat) (Q : HP → Prop) : Prop := ∀ h', FA x h h' → hI h' (x + 6) = hI h (x + 6) → CI h' x S H tp tl r len → Q h'
theorem v_forgetAll {d : Nat} {Q : PQ} {h : HP} {p : Nat} (hk : hkd h p = 12) : Ev (d + 1) 65 [.ref p] h Q = Q none (sI h p 2 0) := by
  simp only [e65, s65_0, s65_1, s65_2, s65_5, oB_some, cl2_i, cl2_r, cl2_l, cl2_u, cl2_s, wd_0, wd_i, wd_r, wd_l, wd_f, ct_i, ct_r, ct_n, ct_f, rf_s, rf_n, tl_s, tl_n, true_and, and_true, eq_self, and_self, Nat.reduceAdd, Nat.reduceLeDiff, Nat.zero_le, Nat.reduceEqDiff, or_true, true_or, false_or, or_false, if_true, if_false, gI_0, gI_1, gI_2, gI_3, gI_4, gI_5, gI_6, gI_7, gI_8, gI_9, gI_10, gI_11, gI_12, gI_13, gI_14, gI_15, gL_0, gL_1, gL_2, gL_3, gL_4, gL_5, gL_6, gL_7, gL_8, gL_9, gL_10, gL_11, gL_12, gL_13, gL_14, gL_15, gA_0, gA_1, gA_2, gA_3, gA_4, gA_5, gA_6, gA_7, gA_8, gA_9, gA_10, gA_11, gA_12, gA_13, gA_14, gA_15, p1_0, p1_1, p1_2, p1_3, p1_4, p1_5, p1_6, p1_7, p1_8, p1_9, p1_10, p1_11, p1_12, p1_13, p1_14, p1_15, p2_0, p2_1, p2_2, p2_3, p2_4, p2_5, p2_6, p2_7, p2_8, p2_9, p2_10, p2_11, p2_12, p2_13, p2_14, p2_15, b01_ok, b_ft, b_tf, b01_e0, b01_e1, lgc_0, not_true_eq_false, not_false_eq_true, hk]
def dropH (H : HS) : HS := (him H, ho H, 0, hg H)
theorem XP.drop {h : HP} {x : Nat} {H : HS} (P : XP h x H) : XP (sI h (x + 1) 2 0) x (dropH H) := by
  obtain ⟨⟨p1, p2⟩, p3, A, ⟨p4, p5⟩, p6, p7, p8, p9, p10⟩ := P
  have f : Fm (x + 1) 1 h (sI h (x + 1) 2 0) := Fm.rf.sI (Nat.le_refl _) (by omega)
  refine ⟨⟨by rw [hI_sI, if_neg (by omega)]; exact p1, by rw [hI_sI, if_pos ⟨rfl, rfl⟩]; rfl⟩, p3, A, ⟨p4, p5⟩, fun i a hi ha => p6 i a hi ha, p7, fun j hj => absurd hj (Nat.not_lt_zero j), p9, fun I hI => ?_⟩
  obtain ⟨a, ha, qa⟩ := p10 I hI
  have := (p6 8 a (by decide) ha).1
  exact ⟨a, ha, qa.kept f (by omega)⟩
theorem CI.drop {x tl len : Nat} {tp r : Nat → Nat} {h : HP} {S : VS} {H : HS} (a : CI h x S H tp tl r len) : CI (sI h (x + 1) 2 0) x S (dropH H) tp tl r len := by
  refine a.fc0 ⟨fun b hb => ⟨rfl, rfl, fun z => by rw [hI_sI_ne z], rfl, fun _ => rfl⟩, Nat.le_refl _⟩ a.2.1.drop
def popH (H : HS) : HS := (him H, ho H, hc H - 1, hg H)
def topH (H : HS) : VS := hg H ((ho H + (hc H - 1)) % 8)
set_option maxHeartbeats 4000000 in
theorem v_takeBack {d tl len : Nat} {tp r : Nat → Nat} {Q : PQ} {h : HP} {x : Nat} {S : VS} {H : HS} (C : CI h x S H tp tl r len) (gH : GH H) (h0 : ¬ hc H = 0) (k : KC h x (topH H) (popH H) tp tl r len (Q none)) : Ev (d + 4) 142 [.ref (x + 1), .ref (x + 7)] h Q := by
  have X := C.1
  obtain ⟨⟨p1, p2⟩, p3, A, ⟨p4, p5⟩, p6, p7, p8, p9, p10⟩ := C.2.1
  obtain ⟨⟨ho8, hc8⟩, gI, gR⟩ := gH
  have K := X.1
  unfold XK at K
  obtain ⟨a, ha, qa⟩ := p8 (hc H - 1) (by omega)
  have l8 := Nat.mod_lt (ho H + (hc H - 1)) (show 0 < 8 by decide)
  obtain ⟨ga, gb, gk⟩ := p6 _ a (by omega) ha
  have c0 : ¬ nI (hc H) = 0 := nI_ne0 (by omega) (by omega)
  have c1 : nI (hc H) - 1 = nI (hc H - 1) := pk_sub (b := 1) (by omega)
  have i31 : (ho H + (hc H - 1)) % 8 < 2 ^ 31 := by omega
  have r8 : nI (ho H + (hc H - 1)) - nI (ho H + (hc H - 1)) / 8 * 8 = nI ((ho H + (hc H - 1)) % 8) := rem8 (by omega)
  have j1 : hI (sI h (x + 1) 2 (nI (hc H - 1))) (x + 1) 1 = nI (ho H) := by rw [hI_sI, if_neg (by omega), p1]
  have j2 : hI (sI h (x + 1) 2 (nI (hc H - 1))) (x + 1) 2 = nI (hc H - 1) := by rw [hI_sI, if_pos ⟨rfl, rfl⟩]
  have pa := p4 _ l8
  have VN := X.v.k.1.1
  have f1 : FC0 x h (sI h (x + 1) 2 (nI (hc H - 1))) := ⟨fun b hb => ⟨rfl, rfl, fun z => by rw [hI_sI_ne z], rfl, fun _ => rfl⟩, Nat.le_refl _⟩
  have fm : Fm (x + 1) 1 h (sI h (x + 1) 2 (nI (hc H - 1))) := Fm.rf.sI (Nat.le_refl _) (by omega)
  have C1 : CI (sI h (x + 1) 2 (nI (hc H - 1))) x S (popH H) tp tl r len := C.fc0 f1 ⟨⟨j1, j2⟩, p3, A, ⟨p4, p5⟩, fun i b hi hb => p6 i b hi hb, p7, fun j hj => by
      have hj2 : j < hc H - 1 := hj
      obtain ⟨b, hb, qb⟩ := p8 j (by omega)
      have := (p6 _ b (by have := Nat.mod_lt (ho H + j) (show 0 < 8 by decide); omega) hb).1
      exact ⟨b, hb, qb.kept fm (by omega)⟩, p9, fun I hI => by
      obtain ⟨b, hb, qb⟩ := p10 I hI
      have := (p6 8 b (by decide) hb).1
      exact ⟨b, hb, qb.kept fm (by omega)⟩⟩
  have qa1 : RV (sI h (x + 1) 2 (nI (hc H - 1))) a (topH H) := qa.kept fm (by omega)
  simp only [e142, s142_0, s142_1, s142_4, s142_7, s142_8, s142_9, s142_10, s142_13, s142_14, s142_15, s142_18, s142_19, s142_22, s142_23, s142_26, s142_27, s142_30, s142_31, s142_33, s142_34, s142_35, s142_36, s142_37, s142_37N, s142_40, s142_41, s142_42, oB_some, cl2_i, cl2_r, cl2_l, cl2_u, cl2_s, wd_0, wd_i, wd_r, wd_l, wd_f, ct_i, ct_r, ct_n, ct_f, rf_s, rf_n, tl_s, tl_n, true_and, and_true, eq_self, and_self, Nat.reduceAdd, Nat.reduceLeDiff, Nat.zero_le, Nat.reduceEqDiff, or_true, true_or, false_or, or_false, if_true, if_false, gI_0, gI_1, gI_2, gI_3, gI_4, gI_5, gI_6, gI_7, gI_8, gI_9, gI_10, gI_11, gI_12, gI_13, gI_14, gI_15, gL_0, gL_1, gL_2, gL_3, gL_4, gL_5, gL_6, gL_7, gL_8, gL_9, gL_10, gL_11, gL_12, gL_13, gL_14, gL_15, gA_0, gA_1, gA_2, gA_3, gA_4, gA_5, gA_6, gA_7, gA_8, gA_9, gA_10, gA_11, gA_12, gA_13, gA_14, gA_15, p1_0, p1_1, p1_2, p1_3, p1_4, p1_5, p1_6, p1_7, p1_8, p1_9, p1_10, p1_11, p1_12, p1_13, p1_14, p1_15, p2_0, p2_1, p2_2, p2_3, p2_4, p2_5, p2_6, p2_7, p2_8, p2_9, p2_10, p2_11, p2_12, p2_13, p2_14, p2_15, b01_ok, b_ft, b_tf, b01_e0, b01_e1, lgc_0, not_true_eq_false, not_false_eq_true, z_hkd_sI, z_hln_sI, z_hL_sI, z_hR_sI, z_hnx_sI, z_hkd_sL, z_hln_sL, z_hI_sL, z_hR_sL, z_hnx_sL, z_hkd_sR, z_hln_sR, z_hI_sR, z_hL_sR, z_hnx_sR, z_hkd_cI, z_hln_cI, z_hL_cI, z_hR_cI, z_hnx_cI, z_hkd_cLg, z_hln_cLg, z_hI_cLg, z_hR_cLg, z_hnx_cLg, K, p2, c0, c1, j1, j2, nI_add, r8, z80, pa, ha, va_rf, ix_nI i31, nI_pos' i31, l8, VN, not_false_eq_true]
  refine v_becomeLike C1.1.v.k qa1 (gR _ (by omega)).1 (Or.inr (by omega)) fun h2 m2 q2 f2 => ?_
  simp only [s142_45, oB_some, cl2_i, cl2_r, cl2_l, cl2_u, cl2_s, wd_0, wd_i, wd_r, wd_l, wd_f, ct_i, ct_r, ct_n, ct_f, rf_s, rf_n, tl_s, tl_n, true_and, and_true, eq_self, and_self, Nat.reduceAdd, Nat.reduceLeDiff, Nat.zero_le, Nat.reduceEqDiff, or_true, true_or, false_or, or_false, if_true, if_false, gI_0, gI_1, gI_2, gI_3, gI_4, gI_5, gI_6, gI_7, gI_8, gI_9, gI_10, gI_11, gI_12, gI_13, gI_14, gI_15, gL_0, gL_1, gL_2, gL_3, gL_4, gL_5, gL_6, gL_7, gL_8, gL_9, gL_10, gL_11, gL_12, gL_13, gL_14, gL_15, gA_0, gA_1, gA_2, gA_3, gA_4, gA_5, gA_6, gA_7, gA_8, gA_9, gA_10, gA_11, gA_12, gA_13, gA_14, gA_15, p1_0, p1_1, p1_2, p1_3, p1_4, p1_5, p1_6, p1_7, p1_8, p1_9, p1_10, p1_11, p1_12, p1_13, p1_14, p1_15, p2_0, p2_1, p2_2, p2_3, p2_4, p2_5, p2_6, p2_7, p2_8, p2_9, p2_10, p2_11, p2_12, p2_13, p2_14, p2_15, b01_ok, b_ft, b_tf, b01_e0, b01_e1, lgc_0, not_true_eq_false, not_false_eq_true]
  exact k h2 (f1.fa.tr (m2.fa (by omega) (by omega))) (by rw [(m2.1 (x + 6) (by omega)).1, hI_sI_ne (by omega)]) (C1.now m2 q2 f2)
