-- what can be taken back, the one side
abbrev HS : Type := Option VS × Nat × Nat × (Nat → VS)
def him (H : HS) : Option VS := H.1
def ho (H : HS) : Nat := H.2.1
def hc (H : HS) : Nat := H.2.2.1
def hg (H : HS) : Nat → VS := H.2.2.2
def GV (S : VS) : Prop := Good S ∧ vy S ≤ 999
def GH (H : HS) : Prop := (ho H < 8 ∧ hc H ≤ 8) ∧ (∀ I, him H = some I → GV I) ∧ ∀ j, j < hc H → GV (hg H ((ho H + j) % 8))
def po (H : HS) : Nat := if hc H = 8 then (ho H + 1) % 8 else ho H
def pc1 (H : HS) : Nat := if hc H = 8 then 7 else hc H
def pushH (H : HS) (S : VS) : HS := (him H, po H, pc1 H + 1, va_up (hg H) ((po H + pc1 H) % 8) S)
def XP (h : HP) (x : Nat) (H : HS) : Prop :=
  (hI h (x + 1) 1 = nI (ho H) ∧ hI h (x + 1) 2 = nI (hc H)) ∧ x + 54 ≤ hnx h ∧ ∃ A : Nat → Option Nat, ((∀ i, i < 8 → hR h (x + 2) i = A i) ∧ hR h x 7 = A 8) ∧ (∀ i a, i < 9 → A i = some a → x + 54 ≤ a ∧ a + 12 ≤ hnx h ∧ VK h a) ∧
    (∀ i j a b, i < 9 → j < 9 → ¬ i = j → A i = some a → A j = some b → a + 12 ≤ b ∨ b + 12 ≤ a) ∧ (∀ j, j < hc H → ∃ a, A ((ho H + j) % 8) = some a ∧ RV h a (hg H ((ho H + j) % 8))) ∧ (him H = none → A 8 = none) ∧ (∀ I, him H = some I → ∃ a, A 8 = some a ∧ RV h a I)
/-- what stays below x + 54 but for the two rows of what can be taken back -/
def FC0 (x : Nat) (h h' : HP) : Prop := (∀ b, b < x + 54 → hkd h' b = hkd h b ∧ hln h' b = hln h b ∧ (¬ b = x + 1 → hI h' b = hI h b) ∧ hL h' b = hL h b ∧ (¬ b = x + 2 → hR h' b = hR h b)) ∧ hnx h ≤ hnx h'
theorem FC0.rf {x : Nat} {h : HP} : FC0 x h h := ⟨fun _ _ => ⟨rfl, rfl, fun _ => rfl, rfl, fun _ => rfl⟩, Nat.le_refl _⟩
theorem FC0.tr {x : Nat} {h h1 h2 : HP} (a : FC0 x h h1) (b : FC0 x h1 h2) : FC0 x h h2 := ⟨fun q hq => by
  obtain ⟨a1, a2, a3, a4, a5⟩ := a.1 q hq
  obtain ⟨b1, b2, b3, b4, b5⟩ := b.1 q hq
  exact ⟨b1.trans a1, b2.trans a2, fun z => (b3 z).trans (a3 z), b4.trans a4, fun z => (b5 z).trans (a5 z)⟩, Nat.le_trans a.2 b.2⟩
theorem VK.cells {h h' : HP} {v : Nat} (a : VK h v) (e : ∀ b, v ≤ b → b < v + 12 → hkd h' b = hkd h b ∧ hln h' b = hln h b ∧ hR h' b = hR h b) : VK h' v := by
  unfold VK at a ⊢
  have e0 : hkd h' v = hkd h v ∧ hln h' v = hln h v ∧ hR h' v = hR h v := e v (Nat.le_refl _) (by omega)
  have ej : ∀ j, j < 12 → hkd h' (v + j) = hkd h (v + j) ∧ hln h' (v + j) = hln h (v + j) ∧ hR h' (v + j) = hR h (v + j) := fun j hj => e (v + j) (by omega) (by omega)
  rw [e0.1, e0.2.2, (ej 1 (by decide)).1, (ej 2 (by decide)).1, (ej 3 (by decide)).1, (ej 4 (by decide)).1, (ej 5 (by decide)).1, (ej 6 (by decide)).1, (ej 7 (by decide)).1, (ej 8 (by decide)).1, (ej 9 (by decide)).1, (ej 10 (by decide)).1, (ej 11 (by decide)).1,
    (ej 1 (by decide)).2.1, (ej 2 (by decide)).2.1, (ej 3 (by decide)).2.1, (ej 4 (by decide)).2.1, (ej 5 (by decide)).2.1, (ej 7 (by decide)).2.1, (ej 8 (by decide)).2.1, (ej 9 (by decide)).2.1, (ej 10 (by decide)).2.1, (ej 11 (by decide)).2.1, (ej 6 (by decide)).2.2]
  exact a
theorem RV.cells {h h' : HP} {v : Nat} {S : VS} (a : RV h v S) (e : ∀ b, v ≤ b → b < v + 12 → hkd h' b = hkd h b ∧ hln h' b = hln h b ∧ hR h' b = hR h b ∧ hI h' b = hI h b ∧ hL h' b = hL h b) : RV h' v S := by
  refine ⟨a.1.cells fun b h1 h2 => ⟨(e b h1 h2).1, (e b h1 h2).2.1, (e b h1 h2).2.2.1⟩, ?_⟩
  have ej : ∀ j, j < 12 → hI h' (v + j) = hI h (v + j) ∧ hL h' (v + j) = hL h (v + j) := fun j hj => (e (v + j) (by omega) (by omega)).2.2.2
  have e0 : hI h' v = hI h v ∧ hL h' v = hL h v := ej 0 (by decide)
  have e5 : lt5 h' (v + 6) = lt5 h (v + 6) := lt5_kept fun j h1 h2 => by
    rw [Nat.add_assoc]
    exact ej (6 + j) (by omega)
  unfold RVr
  rw [e0.1, e0.2, (ej 1 (by decide)).1, (ej 2 (by decide)).1, (ej 3 (by decide)).1, (ej 4 (by decide)).2, (ej 5 (by decide)).2, (ej 6 (by decide)).1, e5]
  exact a.2
theorem XQ.fc0 {h h' : HP} {x : Nat} {S : VS} (a : XQ h x S) (f : FC0 x h h') : XQ h' x S := by
  obtain ⟨a1, ⟨b1, b2, b3, b4⟩, a3, a4⟩ := a
  have e : ∀ j, j < 54 → ¬ j = 1 → ¬ j = 2 → hkd h' (x + j) = hkd h (x + j) ∧ hln h' (x + j) = hln h (x + j) ∧ hI h' (x + j) = hI h (x + j) ∧ hL h' (x + j) = hL h (x + j) ∧ hR h' (x + j) = hR h (x + j) := fun j hj h1 h2 => by
    obtain ⟨c1, c2, c3, c4, c5⟩ := f.1 (x + j) (by omega)
    exact ⟨c1, c2, c3 (by omega), c4, c5 (by omega)⟩
  have e0 := e 0 (by decide) (by decide) (by decide)
  have k1 := f.1 (x + 1) (by omega)
  have k2 := f.1 (x + 2) (by omega)
  refine ⟨?_, ⟨?_, ?_, ?_, b4⟩, ?_, ?_⟩
  · unfold XK at a1 ⊢
    rw [show hkd h' x = hkd h x from e0.1, k1.1, k2.1, (e 3 (by decide) (by decide) (by decide)).1, (e 4 (by decide) (by decide) (by decide)).1, (e 5 (by decide) (by decide) (by decide)).1, (e 6 (by decide) (by decide) (by decide)).1,
      k2.2.1, (e 4 (by decide) (by decide) (by decide)).2.1, (e 5 (by decide) (by decide) (by decide)).2.1, (e 6 (by decide) (by decide) (by decide)).2.1, show hR h' x = hR h x from e0.2.2.2.2, k1.2.2.2.2 (by omega), (e 3 (by decide) (by decide) (by decide)).2.2.2.2]
    exact a1
  · rw [(e 19 (by decide) (by decide) (by decide)).1, (e 19 (by decide) (by decide) (by decide)).2.2.2.2]
    exact b1
  · refine b2.cells fun b h1 h2 => ?_
    have := e (b - x) (by omega) (by omega) (by omega)
    rw [show x + (b - x) = b by omega] at this
    exact ⟨this.1, this.2.1, this.2.2.2.2⟩
  · refine b3.cells fun b h1 h2 => ?_
    have := e (b - x) (by omega) (by omega) (by omega)
    rw [show x + (b - x) = b by omega] at this
    exact ⟨this.1, this.2.1, this.2.2.2.2, this.2.2.1, this.2.2.2.1⟩
  · unfold FYe at a3 ⊢
    rw [(e 19 (by decide) (by decide) (by decide)).2.2.2.2, show hkd h' (x + 20 + 12) = hkd h (x + 20 + 12) from (e 32 (by decide) (by decide) (by decide)).1, show hkd h' (x + 20 + 13) = hkd h (x + 20 + 13) from (e 33 (by decide) (by decide) (by decide)).1, show hln h' (x + 20 + 12) = hln h (x + 20 + 12) from (e 32 (by decide) (by decide) (by decide)).2.1, show hln h' (x + 20 + 13) = hln h (x + 20 + 13) from (e 33 (by decide) (by decide) (by decide)).2.1]
    exact a3
  · unfold FV at a4 ⊢
    rw [(e 7 (by decide) (by decide) (by decide)).2.2.1]
    exact a4
theorem mod8_ne {o c j : Nat} (hj : j < c) (hc : c < 8) : ¬ (o + j) % 8 = (o + c) % 8 := by omega
theorem rem8 {n : Nat} (h : n < 2 ^ 31) : nI n - nI n / 8 * 8 = nI (n % 8) := pk_rem (d := 8) h (by decide) (by decide)
theorem z80 : ¬ (8 : Int32) = 0 := by decide
set_option maxHeartbeats 8000000 in
theorem v_keep {d : Nat} {Q : PQ} {h : HP} {x : Nat} {S : VS} {H : HS} (X : XQ h x S) (P : XP h x H) (g : Good S) (gH : GH H)
    (k : ∀ h', FC0 x h h' → XQ h' x S → XP h' x (pushH H S) → Q none h') : Ev (d + 4) 127 [.ref (x + 1), .ref (x + 7)] h Q := by
  obtain ⟨⟨p1, p2⟩, p3, A, ⟨p4, p5⟩, p6, p7, p8, p9, p10⟩ := P
  obtain ⟨⟨ho8, hc8⟩, gI, gR⟩ := gH
  have po8 : po H < 8 := by unfold po; split <;> omega
  have pc7 : pc1 H < 8 := by unfold pc1; split <;> omega
  have pl8 : (po H + pc1 H) % 8 < 8 := Nat.mod_lt _ (by decide)
  -- the last part: the village becomes like it, one more is kept
  have partC : ∀ (h1 : HP) (a : Nat) (A2 : Nat → Option Nat) (c s : Nat), FC0 x h h1 → hI h1 (x + 1) 1 = nI (po H) → hI h1 (x + 1) 2 = nI (pc1 H) → (∀ i, i < 8 → hR h1 (x + 2) i = A2 i) → hR h1 x 7 = A2 8 → (∀ i a, i < 9 → A2 i = some a → x + 54 ≤ a ∧ a + 12 ≤ hnx h1 ∧ VK h1 a) →
      (∀ i j a b, i < 9 → j < 9 → ¬ i = j → A2 i = some a → A2 j = some b → a + 12 ≤ b ∨ b + 12 ≤ a) → (∀ j, j < pc1 H → ∃ a, A2 ((po H + j) % 8) = some a ∧ RV h1 a (hg H ((po H + j) % 8))) → (him H = none → A2 8 = none) → (∀ I, him H = some I → ∃ a, A2 8 = some a ∧ RV h1 a I) → A2 ((po H + pc1 H) % 8) = some a →
      WP (d + 3) 127 Q (67, [.val (.ref (x + 1)), .val (.ref (x + 7)), .val (.int (nI ((po H + pc1 H) % 8)))], [], h1, c, s) := by
    intro h1 a A2 c s f1 i1 i2 r1 r2 b1 dj l1 im1 im2 ha
    have X1 := X.fc0 f1
    have K := X1.1
    unfold XK at K
    obtain ⟨ga, gb, gk⟩ := b1 _ a (by omega) ha
    have pl31 : (po H + pc1 H) % 8 < 2 ^ 31 := by omega
    have gk14 := gk.1.1
    simp only [s127_67, s127_68, s127_71, s127_72, s127_73, s127_74, oB_some, cl2_i, cl2_r, cl2_l, cl2_u, cl2_s, wd_0, wd_i, wd_r, wd_l, wd_f, ct_i, ct_r, ct_n, ct_f, rf_s, rf_n, tl_s, tl_n, true_and, and_true, eq_self, and_self, Nat.reduceAdd, Nat.reduceLeDiff, Nat.zero_le, Nat.reduceEqDiff, or_true, true_or, false_or, or_false, if_true, if_false, gI_0, gI_1, gI_2, gI_3, gI_4, gI_5, gI_6, gI_7, gI_8, gI_9, gI_10, gI_11, gI_12, gI_13, gI_14, gI_15, gL_0, gL_1, gL_2, gL_3, gL_4, gL_5, gL_6, gL_7, gL_8, gL_9, gL_10, gL_11, gL_12, gL_13, gL_14, gL_15, gA_0, gA_1, gA_2, gA_3, gA_4, gA_5, gA_6, gA_7, gA_8, gA_9, gA_10, gA_11, gA_12, gA_13, gA_14, gA_15, p1_0, p1_1, p1_2, p1_3, p1_4, p1_5, p1_6, p1_7, p1_8, p1_9, p1_10, p1_11, p1_12, p1_13, p1_14, p1_15, p2_0, p2_1, p2_2, p2_3, p2_4, p2_5, p2_6, p2_7, p2_8, p2_9, p2_10, p2_11, p2_12, p2_13, p2_14, p2_15, b01_ok, b_ft, b_tf, b01_e0, b01_e1, lgc_0, not_true_eq_false, not_false_eq_true, K, gk14, r1 _ pl8, ha, ix_nI pl31, nI_pos' pl31, pl8, va_rf]
    refine v_becomeLike gk X1.v g (Or.inl (by omega)) fun h2 m2 q2 f2 => ?_
    have K2 := K
    rw [← m2.2.1, ← m2.2.2.1, ← m2.2.2.2.1] at K2
    have i22 : hI h2 (x + 1) 2 = nI (pc1 H) := by rw [(m2.1 (x + 1) (Or.inl (by omega))).1]; exact i2
    simp only [s127_77, s127_78, s127_79, s127_82, s127_83, s127_84, s127_87, oB_some, cl2_i, cl2_r, cl2_l, cl2_u, cl2_s, wd_0, wd_i, wd_r, wd_l, wd_f, ct_i, ct_r, ct_n, ct_f, rf_s, rf_n, tl_s, tl_n, true_and, and_true, eq_self, and_self, Nat.reduceAdd, Nat.reduceLeDiff, Nat.zero_le, Nat.reduceEqDiff, or_true, true_or, false_or, or_false, if_true, if_false, gI_0, gI_1, gI_2, gI_3, gI_4, gI_5, gI_6, gI_7, gI_8, gI_9, gI_10, gI_11, gI_12, gI_13, gI_14, gI_15, gL_0, gL_1, gL_2, gL_3, gL_4, gL_5, gL_6, gL_7, gL_8, gL_9, gL_10, gL_11, gL_12, gL_13, gL_14, gL_15, gA_0, gA_1, gA_2, gA_3, gA_4, gA_5, gA_6, gA_7, gA_8, gA_9, gA_10, gA_11, gA_12, gA_13, gA_14, gA_15, p1_0, p1_1, p1_2, p1_3, p1_4, p1_5, p1_6, p1_7, p1_8, p1_9, p1_10, p1_11, p1_12, p1_13, p1_14, p1_15, p2_0, p2_1, p2_2, p2_3, p2_4, p2_5, p2_6, p2_7, p2_8, p2_9, p2_10, p2_11, p2_12, p2_13, p2_14, p2_15, b01_ok, b_ft, b_tf, b01_e0, b01_e1, lgc_0, not_true_eq_false, not_false_eq_true, z_hkd_sI, z_hln_sI, z_hL_sI, z_hR_sI, z_hnx_sI, z_hkd_sL, z_hln_sL, z_hI_sL, z_hR_sL, z_hnx_sL, z_hkd_sR, z_hln_sR, z_hI_sR, z_hL_sR, z_hnx_sR, z_hkd_cI, z_hln_cI, z_hL_cI, z_hR_cI, z_hnx_cI, z_hkd_cLg, z_hln_cLg, z_hI_cLg, z_hR_cLg, z_hnx_cLg, K2, i22, nI_1]
    have fA : FC0 x h1 (sI h2 (x + 1) 2 (nI (pc1 H + 1))) := ⟨fun b hb => by
      refine ⟨?_, ?_, fun z => ?_, ?_, fun z => ?_⟩
      · rw [hkd_sI, m2.2.1]
      · rw [hln_sI, m2.2.2.1]
      · rw [hI_sI_ne z, (m2.1 b (Or.inl (by omega))).1]
      · rw [hL_sI, (m2.1 b (Or.inl (by omega))).2]
      · rw [hR_sI, m2.2.2.2.1], by rw [hnx_sI, m2.2.2.2.2]; exact Nat.le_refl _⟩
    have oth : ∀ i b T, i < 9 → A2 i = some b → ¬ i = (po H + pc1 H) % 8 → RV h1 b T → RV (sI h2 (x + 1) 2 (nI (pc1 H + 1))) b T := fun i b T hi hb hne q => by
      have := dj i _ b a hi (by omega) hne hb ha
      have gb := (b1 i b hi hb).1
      exact (q.kept m2 (by omega)).kept (lo := x + 1) (n := 1) (Fm.rf.sI (Nat.le_refl _) (by omega)) (by omega)
    refine k _ (f1.tr fA) (X.fc0 (f1.tr fA)) ⟨⟨?_, ?_⟩, ?_, A2, ⟨fun i hi => ?_, ?_⟩, fun i b hi hb => ?_, dj, fun j hj => ?_, im1, fun I hI => ?_⟩
    · rw [hI_sI, if_neg (by omega), (m2.1 (x + 1) (Or.inl (by omega))).1]
      exact i1
    · rw [hI_sI, if_pos ⟨rfl, rfl⟩]
      rfl
    · have := f1.2
      rw [hnx_sI, m2.2.2.2.2]
      omega
    · rw [hR_sI, m2.2.2.2.1]
      exact r1 i hi
    · rw [hR_sI, m2.2.2.2.1]
      exact r2
    · obtain ⟨z1, z2, z3⟩ := b1 i b hi hb
      exact ⟨z1, by rw [hnx_sI, m2.2.2.2.2]; exact z2, z3.kept (by rw [hkd_sI, m2.2.1]) (by rw [hln_sI, m2.2.2.1]) (by rw [hR_sI, m2.2.2.2.1])⟩
    · have hj2 : j < pc1 H + 1 := hj
      show ∃ a, A2 ((po H + j) % 8) = some a ∧ RV _ a (va_up (hg H) ((po H + pc1 H) % 8) S ((po H + j) % 8))
      by_cases e : j = pc1 H
      · subst e
        refine ⟨a, ha, ?_⟩
        rw [up_at]
        exact q2.kept (lo := x + 1) (n := 1) (Fm.rf.sI (Nat.le_refl _) (by omega)) (by omega)
      · have hne := mod8_ne (o := po H) (show j < pc1 H by omega) pc7
        obtain ⟨b, hb, qb⟩ := l1 j (by omega)
        refine ⟨b, hb, ?_⟩
        rw [up_ne hne]
        exact oth _ b _ (by have := Nat.mod_lt (po H + j) (show 0 < 8 by decide); omega) hb hne qb
    · obtain ⟨b, hb, qb⟩ := im2 I hI
      exact ⟨b, hb, oth 8 b I (by decide) hb (by omega) qb⟩
  -- the row's place, a new village where none is
  have partB : ∀ (h1 : HP), FC0 x h h1 → hI h1 (x + 1) 1 = nI (po H) → hI h1 (x + 1) 2 = nI (pc1 H) → hkd h1 = hkd h → hln h1 = hln h → hR h1 = hR h → hnx h1 = hnx h → (∀ b, ¬ b = x + 1 → hI h1 b = hI h b ∧ hL h1 b = hL h b) →
      WP (d + 3) 127 Q (45, [.val (.ref (x + 1)), .val (.ref (x + 7)), .val (.int (nI ((po H + pc1 H) % 8)))], [], h1, 12, 172) := by
    intro h1 f1 i1 i2 e1 e2 e3 e4 e5
    have X1 := X.fc0 f1
    have K := X1.1
    unfold XK at K
    have pl31 : (po H + pc1 H) % 8 < 2 ^ 31 := by omega
    have rr : hR h1 (x + 2) ((po H + pc1 H) % 8) = A ((po H + pc1 H) % 8) := by rw [e3]; exact p4 _ pl8
    have keepRV : ∀ b T, x + 54 ≤ b → RV h b T → RV h1 b T := fun b T hb q => q.cells fun c hc1 hc2 => ⟨by rw [e1], by rw [e2], by rw [e3], (e5 c (by omega)).1, (e5 c (by omega)).2⟩
    have live : ∀ j, j < pc1 H → ∃ a, A ((po H + j) % 8) = some a ∧ RV h1 a (hg H ((po H + j) % 8)) := fun j hj => by
      have : ∃ i, i < hc H ∧ (po H + j) % 8 = (ho H + i) % 8 := by
        unfold po pc1 at *
        by_cases e : hc H = 8
        · rw [if_pos e] at *
          exact ⟨j + 1, by omega, by omega⟩
        · rw [if_neg e] at *
          exact ⟨j, hj, rfl⟩
      obtain ⟨i, hi, ei⟩ := this
      obtain ⟨b, hb, qb⟩ := p8 i hi
      rw [ei]
      exact ⟨b, hb, keepRV b _ (p6 _ b (by have := Nat.mod_lt (ho H + i) (show 0 < 8 by decide); omega) hb).1 qb⟩
    cases ha : A ((po H + pc1 H) % 8) with
    | some a =>
      rw [ha] at rr
      simp only [s127_45, s127_46, s127_49, s127_50, s127_51, s127_51N, s127_54, s127_55, s127_58, s127_59, s127_62, s127_63, s127_66, oB_some, cl2_i, cl2_r, cl2_l, cl2_u, cl2_s, wd_0, wd_i, wd_r, wd_l, wd_f, ct_i, ct_r, ct_n, ct_f, rf_s, rf_n, tl_s, tl_n, true_and, and_true, eq_self, and_self, Nat.reduceAdd, Nat.reduceLeDiff, Nat.zero_le, Nat.reduceEqDiff, or_true, true_or, false_or, or_false, if_true, if_false, gI_0, gI_1, gI_2, gI_3, gI_4, gI_5, gI_6, gI_7, gI_8, gI_9, gI_10, gI_11, gI_12, gI_13, gI_14, gI_15, gL_0, gL_1, gL_2, gL_3, gL_4, gL_5, gL_6, gL_7, gL_8, gL_9, gL_10, gL_11, gL_12, gL_13, gL_14, gL_15, gA_0, gA_1, gA_2, gA_3, gA_4, gA_5, gA_6, gA_7, gA_8, gA_9, gA_10, gA_11, gA_12, gA_13, gA_14, gA_15, p1_0, p1_1, p1_2, p1_3, p1_4, p1_5, p1_6, p1_7, p1_8, p1_9, p1_10, p1_11, p1_12, p1_13, p1_14, p1_15, p2_0, p2_1, p2_2, p2_3, p2_4, p2_5, p2_6, p2_7, p2_8, p2_9, p2_10, p2_11, p2_12, p2_13, p2_14, p2_15, b01_ok, b_ft, b_tf, b01_e0, b01_e1, lgc_0, not_true_eq_false, not_false_eq_true, K, rr, ix_nI pl31, nI_pos' pl31, pl8, va_rf]
      refine partC h1 a A _ _ f1 i1 i2 (fun i hi => by rw [e3]; exact p4 i hi) (by rw [e3]; exact p5) (fun i b hi hb => ?_) p7 live p9 (fun I hI => ?_) ha
      · obtain ⟨z1, z2, z3⟩ := p6 i b hi hb
        exact ⟨z1, by rw [e4]; exact z2, z3.kept e1 e2 e3⟩
      · obtain ⟨b, hb, qb⟩ := p10 I hI
        exact ⟨b, hb, keepRV b _ (p6 8 b (by decide) hb).1 qb⟩
    | none =>
      rw [ha] at rr
      have kv : hkd (snw h1 14 0) (hnx h1) = 14 := if_pos rfl
      have lv : hnx h1 < hnx (snw h1 14 0) := by rw [hnx_snw]; omega
      obtain ⟨n1, n2, n3, n4, n5⟩ := vnew_f (h := h1)
      have hx54 : x + 54 ≤ hnx h1 := by rw [e4]; exact p3
      have k1a : hkd (snw h1 14 0) (x + 1) = 12 := by rw [snw_kd (by omega)]; exact K.1.2.1
      have K2 : hkd (vil (snw h1 14 0) (hnx h1)) (x + 2) = 4 ∧ hln (vil (snw h1 14 0) (hnx h1)) (x + 2) = 8 := by
        obtain ⟨z1, z2, -⟩ := n5 (x + 2) (by omega)
        exact ⟨z1.trans K.1.2.2.1, z2.trans K.2.1.1⟩
      have kn : hkd (vil (snw h1 14 0) (hnx h1)) (hnx h1) = 14 := n2.1.1
      simp only [s127_45, s127_46, s127_49, s127_50, s127_51, s127_51N, s127_54, s127_55, s127_58, s127_59, s127_62, s127_63, s127_66, oB_some, cl2_i, cl2_r, cl2_l, cl2_u, cl2_s, wd_0, wd_i, wd_r, wd_l, wd_f, ct_i, ct_r, ct_n, ct_f, rf_s, rf_n, tl_s, tl_n, true_and, and_true, eq_self, and_self, Nat.reduceAdd, Nat.reduceLeDiff, Nat.zero_le, Nat.reduceEqDiff, or_true, true_or, false_or, or_false, if_true, if_false, gI_0, gI_1, gI_2, gI_3, gI_4, gI_5, gI_6, gI_7, gI_8, gI_9, gI_10, gI_11, gI_12, gI_13, gI_14, gI_15, gL_0, gL_1, gL_2, gL_3, gL_4, gL_5, gL_6, gL_7, gL_8, gL_9, gL_10, gL_11, gL_12, gL_13, gL_14, gL_15, gA_0, gA_1, gA_2, gA_3, gA_4, gA_5, gA_6, gA_7, gA_8, gA_9, gA_10, gA_11, gA_12, gA_13, gA_14, gA_15, p1_0, p1_1, p1_2, p1_3, p1_4, p1_5, p1_6, p1_7, p1_8, p1_9, p1_10, p1_11, p1_12, p1_13, p1_14, p1_15, p2_0, p2_1, p2_2, p2_3, p2_4, p2_5, p2_6, p2_7, p2_8, p2_9, p2_10, p2_11, p2_12, p2_13, p2_14, p2_15, b01_ok, b_ft, b_tf, b01_e0, b01_e1, lgc_0, not_true_eq_false, not_false_eq_true, K, rr, ix_nI pl31, nI_pos' pl31, pl8, va_rf, kv, v_vilInit kv lv, K2, kn, Nat.reduceSub, Value.category]
      have fv : FC0 x h1 (sR (vil (snw h1 14 0) (hnx h1)) (x + 2) ((po H + pc1 H) % 8) (some (hnx h1))) := ⟨fun b hb => by
        obtain ⟨z1, z2, z3, z4, z5⟩ := n5 b (by omega)
        refine ⟨by rw [hkd_sR]; exact z1, by rw [hln_sR]; exact z2, fun _ => by rw [hI_sR]; exact z3, by rw [hL_sR]; exact z4, fun z => ?_⟩
        funext j
        rw [hR_sR, if_neg (fun c => z c.1), z5], by rw [hnx_sR, n1]; omega⟩
      have oldRV : ∀ b T, x + 54 ≤ b → b + 12 ≤ hnx h1 → RV h1 b T → RV (sR (vil (snw h1 14 0) (hnx h1)) (x + 2) ((po H + pc1 H) % 8) (some (hnx h1))) b T := fun b T hb hb2 q => q.cells fun c hc1 hc2 => by
        obtain ⟨z1, z2, z3, z4, z5⟩ := n5 c (by omega)
        refine ⟨by rw [hkd_sR]; exact z1, by rw [hln_sR]; exact z2, ?_, by rw [hI_sR]; exact z3, by rw [hL_sR]; exact z4⟩
        funext j
        rw [hR_sR, if_neg (by omega), z5]
      have oldVK : ∀ b, x + 54 ≤ b → b + 12 ≤ hnx h1 → VK h1 b → VK (sR (vil (snw h1 14 0) (hnx h1)) (x + 2) ((po H + pc1 H) % 8) (some (hnx h1))) b := fun b hb hb2 q => q.cells fun c hc1 hc2 => by
        obtain ⟨z1, z2, z3, z4, z5⟩ := n5 c (by omega)
        refine ⟨by rw [hkd_sR]; exact z1, by rw [hln_sR]; exact z2, ?_⟩
        funext j
        rw [hR_sR, if_neg (by omega), z5]
      have newVK : VK (sR (vil (snw h1 14 0) (hnx h1)) (x + 2) ((po H + pc1 H) % 8) (some (hnx h1))) (hnx h1) := n2.cells fun c hc1 hc2 => by
        refine ⟨by rw [hkd_sR], by rw [hln_sR], ?_⟩
        funext j
        rw [hR_sR, if_neg (by omega)]
      refine partC _ (hnx h1) (va_up A ((po H + pc1 H) % 8) (some (hnx h1))) _ _ (f1.tr fv) ?_ ?_ (fun i hi => ?_) ?_ (fun i b hi hb => ?_) (fun i j a b hi hj hne h1i h1j => ?_) (fun j hj => ?_) (fun hn => ?_) (fun I hI => ?_) up_at
      · rw [hI_sR, (n5 (x + 1) (by omega)).2.2.1]
        exact i1
      · rw [hI_sR, (n5 (x + 1) (by omega)).2.2.1]
        exact i2
      · rw [hR_sR]
        by_cases e : i = (po H + pc1 H) % 8
        · rw [if_pos ⟨rfl, e⟩, e, up_at]
        · rw [if_neg (fun c => e c.2), up_ne e, (n5 (x + 2) (by omega)).2.2.2.2, e3]
          exact p4 i hi
      · rw [hR_sR, if_neg (by omega), (n5 x (by omega)).2.2.2.2, up_ne (by omega), e3]
        exact p5
      · by_cases e : i = (po H + pc1 H) % 8
        · subst e
          rw [up_at] at hb
          cases hb
          exact ⟨hx54, by rw [hnx_sR, n1]; exact Nat.le_refl _, newVK⟩
        · rw [up_ne e] at hb
          obtain ⟨z1, z2, z3⟩ := p6 i b hi hb
          exact ⟨z1, by rw [hnx_sR, n1, e4]; omega, oldVK b z1 (by rw [e4]; exact z2) (z3.kept e1 e2 e3)⟩
      · by_cases ei : i = (po H + pc1 H) % 8
        · have ej : ¬ j = (po H + pc1 H) % 8 := fun z => hne (ei.trans z.symm)
          rw [ei, up_at] at h1i
          rw [up_ne ej] at h1j
          cases h1i
          obtain ⟨z1, z2, z3⟩ := p6 j b hj h1j
          rw [e4]
          exact Or.inr z2
        · rw [up_ne ei] at h1i
          by_cases ej : j = (po H + pc1 H) % 8
          · rw [ej, up_at] at h1j
            cases h1j
            obtain ⟨z1, z2, z3⟩ := p6 i a hi h1i
            rw [e4]
            exact Or.inl z2
          · rw [up_ne ej] at h1j
            exact p7 i j a b hi hj hne h1i h1j
      · have hne := mod8_ne (o := po H) (show j < pc1 H by omega) pc7
        obtain ⟨b, hb, qb⟩ := live j hj
        obtain ⟨z1, z2, z3⟩ := p6 _ b (by have := Nat.mod_lt (po H + j) (show 0 < 8 by decide); omega) hb
        exact ⟨b, by rw [up_ne hne]; exact hb, oldRV b _ z1 (by rw [e4]; exact z2) qb⟩
      · rw [up_ne (by omega)]
        exact p9 hn
      · obtain ⟨b, hb, qb⟩ := p10 I hI
        obtain ⟨z1, z2, z3⟩ := p6 8 b (by decide) hb
        exact ⟨b, by rw [up_ne (by omega)]; exact hb, oldRV b _ z1 (by rw [e4]; exact z2) (keepRV b _ z1 qb)⟩
  have K := X.1
  unfold XK at K
  have e8 : (nI (hc H) = 8) = (hc H = 8) := eqP (b := 8) (by omega) (by decide)
  by_cases e : hc H = 8
  · have ho1 : nI (ho H + 1) - nI (ho H + 1) / 8 * 8 = nI ((ho H + 1) % 8) := rem8 (by omega)
    have m31 : nI 8 - 1 = nI 7 := by decide
    have epo : po H = (ho H + 1) % 8 := if_pos e
    have epc : pc1 H = 7 := if_pos e
    have re2 : nI (po H + pc1 H) - nI (po H + pc1 H) / 8 * 8 = nI ((po H + pc1 H) % 8) := rem8 (by omega)
    have i2h : hI (sI h (x + 1) 1 (nI ((ho H + 1) % 8))) (x + 1) 2 = nI 8 := by rw [hI_sI, if_neg (by omega), p2, e]
    have j1 : hI (sI (sI h (x + 1) 1 (nI ((ho H + 1) % 8))) (x + 1) 2 (nI 7)) (x + 1) 1 = nI ((ho H + 1) % 8) := by rw [hI_sI, if_neg (by omega), hI_sI, if_pos ⟨rfl, rfl⟩]
    have j2 : hI (sI (sI h (x + 1) 1 (nI ((ho H + 1) % 8))) (x + 1) 2 (nI 7)) (x + 1) 2 = nI 7 := by rw [hI_sI, if_pos ⟨rfl, rfl⟩]
    have n88 : nI 8 = 8 := rfl
    rw [epo, epc] at re2
    simp only [e127, s127_0, s127_1, s127_4, s127_6, s127_9, s127_10, s127_11, s127_14, s127_15, s127_16, s127_18, s127_19, s127_22, s127_23, s127_24, s127_27, s127_28, s127_29, oB_some, cl2_i, cl2_r, cl2_l, cl2_u, cl2_s, wd_0, wd_i, wd_r, wd_l, wd_f, ct_i, ct_r, ct_n, ct_f, rf_s, rf_n, tl_s, tl_n, true_and, and_true, eq_self, and_self, Nat.reduceAdd, Nat.reduceLeDiff, Nat.zero_le, Nat.reduceEqDiff, or_true, true_or, false_or, or_false, if_true, if_false, gI_0, gI_1, gI_2, gI_3, gI_4, gI_5, gI_6, gI_7, gI_8, gI_9, gI_10, gI_11, gI_12, gI_13, gI_14, gI_15, gL_0, gL_1, gL_2, gL_3, gL_4, gL_5, gL_6, gL_7, gL_8, gL_9, gL_10, gL_11, gL_12, gL_13, gL_14, gL_15, gA_0, gA_1, gA_2, gA_3, gA_4, gA_5, gA_6, gA_7, gA_8, gA_9, gA_10, gA_11, gA_12, gA_13, gA_14, gA_15, p1_0, p1_1, p1_2, p1_3, p1_4, p1_5, p1_6, p1_7, p1_8, p1_9, p1_10, p1_11, p1_12, p1_13, p1_14, p1_15, p2_0, p2_1, p2_2, p2_3, p2_4, p2_5, p2_6, p2_7, p2_8, p2_9, p2_10, p2_11, p2_12, p2_13, p2_14, p2_15, b01_ok, b_ft, b_tf, b01_e0, b01_e1, lgc_0, not_true_eq_false, not_false_eq_true, z_hkd_sI, z_hln_sI, z_hL_sI, z_hR_sI, z_hnx_sI, z_hkd_sL, z_hln_sL, z_hI_sL, z_hR_sL, z_hnx_sL, z_hkd_sR, z_hln_sR, z_hI_sR, z_hL_sR, z_hnx_sR, z_hkd_cI, z_hln_cI, z_hL_cI, z_hR_cI, z_hnx_cI, z_hkd_cLg, z_hln_cLg, z_hI_cLg, z_hR_cLg, z_hnx_cLg, K, p1, p2, e, n88, nI_1, z80, ho1, not_false_eq_true, not_true_eq_false]
    rw [n88] at i2h m31
    simp only [s127_0, s127_1, s127_4, s127_6, s127_9, s127_10, s127_11, s127_14, s127_15, s127_16, s127_18, s127_19, s127_22, s127_23, s127_24, s127_27, s127_28, s127_29, s127_32, s127_33, s127_36, s127_37, s127_40, s127_41, s127_43, s127_44, oB_some, cl2_i, cl2_r, cl2_l, cl2_u, cl2_s, wd_0, wd_i, wd_r, wd_l, wd_f, ct_i, ct_r, ct_n, ct_f, rf_s, rf_n, tl_s, tl_n, true_and, and_true, eq_self, and_self, Nat.reduceAdd, Nat.reduceLeDiff, Nat.zero_le, Nat.reduceEqDiff, or_true, true_or, false_or, or_false, if_true, if_false, gI_0, gI_1, gI_2, gI_3, gI_4, gI_5, gI_6, gI_7, gI_8, gI_9, gI_10, gI_11, gI_12, gI_13, gI_14, gI_15, gL_0, gL_1, gL_2, gL_3, gL_4, gL_5, gL_6, gL_7, gL_8, gL_9, gL_10, gL_11, gL_12, gL_13, gL_14, gL_15, gA_0, gA_1, gA_2, gA_3, gA_4, gA_5, gA_6, gA_7, gA_8, gA_9, gA_10, gA_11, gA_12, gA_13, gA_14, gA_15, p1_0, p1_1, p1_2, p1_3, p1_4, p1_5, p1_6, p1_7, p1_8, p1_9, p1_10, p1_11, p1_12, p1_13, p1_14, p1_15, p2_0, p2_1, p2_2, p2_3, p2_4, p2_5, p2_6, p2_7, p2_8, p2_9, p2_10, p2_11, p2_12, p2_13, p2_14, p2_15, b01_ok, b_ft, b_tf, b01_e0, b01_e1, lgc_0, not_true_eq_false, not_false_eq_true, z_hkd_sI, z_hln_sI, z_hL_sI, z_hR_sI, z_hnx_sI, z_hkd_sL, z_hln_sL, z_hI_sL, z_hR_sL, z_hnx_sL, z_hkd_sR, z_hln_sR, z_hI_sR, z_hL_sR, z_hnx_sR, z_hkd_cI, z_hln_cI, z_hL_cI, z_hR_cI, z_hnx_cI, z_hkd_cLg, z_hln_cLg, z_hI_cLg, z_hR_cLg, z_hnx_cLg, K, i2h, m31, j1, j2, nI_add, re2, z80, not_false_eq_true]
    have fx := partB (sI (sI h (x + 1) 1 (nI ((ho H + 1) % 8))) (x + 1) 2 (nI 7)) ⟨fun b hb => ⟨rfl, rfl, fun z => by rw [hI_sI_ne z, hI_sI_ne z], rfl, fun _ => rfl⟩, Nat.le_refl _⟩ (by rw [epo]; exact j1) (by rw [epc]; exact j2) rfl rfl rfl rfl (fun b hb => ⟨by rw [hI_sI_ne hb, hI_sI_ne hb], rfl⟩)
    rw [epo, epc] at fx
    exact fx
  · have epo : po H = ho H := if_neg e
    have epc : pc1 H = hc H := if_neg e
    have re2 : nI (po H + pc1 H) - nI (po H + pc1 H) / 8 * 8 = nI ((po H + pc1 H) % 8) := rem8 (by omega)
    rw [epo, epc] at re2
    simp only [e127, s127_0, s127_1, s127_4, s127_6, s127_9, s127_10, s127_11, s127_14, s127_15, s127_16, s127_18, s127_19, s127_22, s127_23, s127_24, s127_27, s127_28, s127_29, s127_32, s127_33, s127_36, s127_37, s127_40, s127_41, s127_43, s127_44, oB_some, cl2_i, cl2_r, cl2_l, cl2_u, cl2_s, wd_0, wd_i, wd_r, wd_l, wd_f, ct_i, ct_r, ct_n, ct_f, rf_s, rf_n, tl_s, tl_n, true_and, and_true, eq_self, and_self, Nat.reduceAdd, Nat.reduceLeDiff, Nat.zero_le, Nat.reduceEqDiff, or_true, true_or, false_or, or_false, if_true, if_false, gI_0, gI_1, gI_2, gI_3, gI_4, gI_5, gI_6, gI_7, gI_8, gI_9, gI_10, gI_11, gI_12, gI_13, gI_14, gI_15, gL_0, gL_1, gL_2, gL_3, gL_4, gL_5, gL_6, gL_7, gL_8, gL_9, gL_10, gL_11, gL_12, gL_13, gL_14, gL_15, gA_0, gA_1, gA_2, gA_3, gA_4, gA_5, gA_6, gA_7, gA_8, gA_9, gA_10, gA_11, gA_12, gA_13, gA_14, gA_15, p1_0, p1_1, p1_2, p1_3, p1_4, p1_5, p1_6, p1_7, p1_8, p1_9, p1_10, p1_11, p1_12, p1_13, p1_14, p1_15, p2_0, p2_1, p2_2, p2_3, p2_4, p2_5, p2_6, p2_7, p2_8, p2_9, p2_10, p2_11, p2_12, p2_13, p2_14, p2_15, b01_ok, b_ft, b_tf, b01_e0, b01_e1, lgc_0, not_true_eq_false, not_false_eq_true, z_hkd_sI, z_hln_sI, z_hL_sI, z_hR_sI, z_hnx_sI, z_hkd_sL, z_hln_sL, z_hI_sL, z_hR_sL, z_hnx_sL, z_hkd_sR, z_hln_sR, z_hI_sR, z_hL_sR, z_hnx_sR, z_hkd_cI, z_hln_cI, z_hL_cI, z_hR_cI, z_hnx_cI, z_hkd_cLg, z_hln_cLg, z_hI_cLg, z_hR_cLg, z_hnx_cLg, K, p1, p2, e8, e, nI_add, re2, z80, not_false_eq_true]
    have fx := partB h FC0.rf (by rw [epo]; exact p1) (by rw [epc]; exact p2) rfl rfl rfl rfl (fun b hb => ⟨rfl, rfl⟩)
    rw [epo, epc] at fx
    exact fx
