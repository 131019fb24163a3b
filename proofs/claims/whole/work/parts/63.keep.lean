theorem Rep.of {n nl u d t y n' nl' u' d' t' y' : Int32} {k f r k' f' r' : Nat → Int32} {w x w' x' : Nat → Int64} {lt lt' : Nat → R5} {s o s' o' : Int64} {S : VS} (R : Rep n k f r w x nl lt s o u d t y S) (g : Good S)
    (e1 : n' = n) (e2 : ∀ i, i < 6 → k' i = k i ∧ f' i = f i ∧ r' i = r i ∧ w' i = w i ∧ x' i = x i) (e3 : nl' = nl) (e4 : ∀ j, j < 24 → lt' j = lt j) (e5 : s' = s) (e6 : o' = o) (e7 : u' = u) (e8 : d' = d) (e9 : t' = t) (e10 : y' = y) : Rep n' k' f' r' w' x' nl' lt' s' o' u' d' t' y' S := by
  obtain ⟨r1, r2, r3, r4, r5, r6, r7, r8, r9, r10⟩ := R
  have gn := g.n
  have gl := g.l
  refine ⟨e1.trans r1, fun i hi => ?_, e3.trans r3, fun j l hj => ?_, e5.trans r5, e6.trans r6, e7.trans r7, e8.trans r8, e9.trans r9, e10.trans r10⟩
  · obtain ⟨a1, a2, a3, a4, a5⟩ := r2 i hi
    obtain ⟨b1, b2, b3, b4, b5⟩ := e2 i (by omega)
    exact ⟨b1.trans a1, b2.trans a2, b3.trans a3, b4.trans a4, b5.trans a5⟩
  · rw [e4 j (by have := (List.getElem?_eq_some_iff.mp hj).1; omega)]
    exact r4 j l hj
/-- the w-th of the kept ones is S -/
def KP (h : HP) (m w : Nat) (S : VS) : Prop :=
  Rep (hI h (m + 16) (120 * w + 114)) (fun i => hI h (m + 16) (120 * w + (0 + i))) (fun i => hI h (m + 16) (120 * w + (6 + i))) (fun i => hI h (m + 16) (120 * w + (12 + i))) (fun i => hL h (m + 17) (38 * w + (0 + i))) (fun i => hL h (m + 17) (38 * w + (6 + i))) (hI h (m + 16) (120 * w + 115))
    (fun j => (hI h (m + 16) (120 * w + (18 + j)), hI h (m + 16) (120 * w + (42 + j)), hI h (m + 16) (120 * w + (66 + j)), hI h (m + 16) (120 * w + (90 + j)), hL h (m + 17) (38 * w + (12 + j)))) (hL h (m + 17) (38 * w + 36)) (hL h (m + 17) (38 * w + 37)) (hI h (m + 16) (120 * w + 116)) (hI h (m + 16) (120 * w + 117)) (hI h (m + 16) (120 * w + 118)) (hI h (m + 16) (120 * w + 119)) S
theorem gF0 {h : HP} {m i : Nat} (hi : i < 6) : gF h m (0 + i) = hI h (m + 2) i := by unfold gF; rw [sg0 hi]
theorem gF1 {h : HP} {m i : Nat} (hi : i < 6) : gF h m (6 + i) = hI h (m + 3) i := by unfold gF; rw [sg1 hi]
theorem gF2 {h : HP} {m i : Nat} (hi : i < 6) : gF h m (12 + i) = hI h (m + 4) i := by unfold gF; rw [sg2 hi]
theorem gF3 {h : HP} {m i : Nat} (hi : i < 24) : gF h m (18 + i) = hI h (m + 5) i := by unfold gF; rw [sg3 hi]
theorem gF4 {h : HP} {m i : Nat} (hi : i < 24) : gF h m (42 + i) = hI h (m + 6) i := by unfold gF; rw [sg4 hi]
theorem gF5 {h : HP} {m i : Nat} (hi : i < 24) : gF h m (66 + i) = hI h (m + 7) i := by unfold gF; rw [sg5 hi]
theorem gF6 {h : HP} {m i : Nat} (hi : i < 24) : gF h m (90 + i) = hI h (m + 8) i := by unfold gF; rw [sg6 hi]
theorem gG0 {h : HP} {m i : Nat} (hi : i < 6) : gG h m (0 + i) = hL h (m + 9) i := by unfold gG; rw [sl0 hi]
theorem gG1 {h : HP} {m i : Nat} (hi : i < 6) : gG h m (6 + i) = hL h (m + 10) i := by unfold gG; rw [sl1 hi]
theorem gG2 {h : HP} {m i : Nat} (hi : i < 24) : gG h m (12 + i) = hL h (m + 11) i := by unfold gG; rw [sl2 hi]
theorem PK.rm {m w p l : Nat} {h h' : HP} {S : VS} (q : RM h m S) (G : PK m w p l h h') : RM h' m S := by
  have e : ∀ b, m < b → b < m + 12 → hI h' b = hI h b ∧ hL h' b = hL h b := fun b h1 h2 => ⟨G.2.2.1 b (by omega) (by omega), G.2.2.2.2.1 b (by omega)⟩
  have e0 : ∀ k, k < 34 → hI h' m k = hI h m k := fun k hk => G.2.2.2.1 k (by omega) (by omega) (by omega)
  have e1 : hL h' m = hL h m := G.2.2.2.2.1 m (by omega)
  have e2 : mt5 h' m = mt5 h m := by
    funext j
    unfold mt5
    rw [(e (m + 5) (by omega) (by omega)).1, (e (m + 6) (by omega) (by omega)).1, (e (m + 7) (by omega) (by omega)).1, (e (m + 8) (by omega) (by omega)).1, (e (m + 11) (by omega) (by omega)).2]
  refine ⟨q.1.kept G.1.1 G.1.2.1 G.1.2.2.1, ?_⟩
  unfold RMr
  rw [e0 11 (by decide), (e (m + 2) (by omega) (by omega)).1, (e (m + 3) (by omega) (by omega)).1, (e (m + 4) (by omega) (by omega)).1, (e (m + 9) (by omega) (by omega)).2, (e (m + 10) (by omega) (by omega)).2, e0 12 (by decide), e2, e1, e0 13 (by decide), e0 14 (by decide), e0 15 (by decide), e0 16 (by decide)]
  exact q.2
theorem PK.kp {m w : Nat} {h h' : HP} {S : VS} (q : RM h m S) (g : Good S) (G : PK m w 120 38 h h') : KP h' m w S := by
  have eI : ∀ j, j < 120 → hI h' (m + 16) (120 * w + j) = gF h m j := fun j hj => by
    rw [G.2.2.2.2.2.1, if_pos (by omega), show 120 * w + j - 120 * w = j by omega]
  have eL : ∀ j, j < 38 → hL h' (m + 17) (38 * w + j) = gG h m j := fun j hj => by
    rw [G.2.2.2.2.2.2, if_pos (by omega), show 38 * w + j - 38 * w = j by omega]
  refine Rep.of q.2 g (eI 114 (by decide)) (fun i hi => ⟨(eI _ (by omega)).trans (gF0 hi), (eI _ (by omega)).trans (gF1 hi), (eI _ (by omega)).trans (gF2 hi), (eL _ (by omega)).trans (gG0 hi), (eL _ (by omega)).trans (gG1 hi)⟩) (eI 115 (by decide)) (fun j hj => ?_) (eL 36 (by decide)) (eL 37 (by decide)) (eI 116 (by decide)) (eI 117 (by decide)) (eI 118 (by decide)) (eI 119 (by decide))
  unfold mt5
  rw [eI _ (by omega), eI _ (by omega), eI _ (by omega), eI _ (by omega), eL _ (by omega), gF3 hj, gF4 hj, gF5 hj, gF6 hj, gG2 hj]
theorem PR.rm {m w : Nat} {h h' : HP} {S : VS} (K : MK h m) (q : KP h m w S) (g : Good S) (G : PR m w 120 38 h h') : RM h' m S := by
  have eI : ∀ j, j < 120 → gF h' m j = hI h (m + 16) (120 * w + j) := G.2.2.2.2.2.1
  have eL : ∀ j, j < 38 → gG h' m j = hL h (m + 17) (38 * w + j) := G.2.2.2.2.2.2
  refine ⟨K.kept G.1.1 G.1.2.1 G.1.2.2.1, ?_⟩
  refine Rep.of q g (eI 114 (by decide)) (fun i hi => ⟨(gF0 hi).symm.trans (eI _ (by omega)), (gF1 hi).symm.trans (eI _ (by omega)), (gF2 hi).symm.trans (eI _ (by omega)), (gG0 hi).symm.trans (eL _ (by omega)), (gG1 hi).symm.trans (eL _ (by omega))⟩) (eI 115 (by decide)) (fun j hj => ?_) (eL 36 (by decide)) (eL 37 (by decide)) (eI 116 (by decide)) (eI 117 (by decide)) (eI 118 (by decide)) (eI 119 (by decide))
  unfold mt5
  rw [← gF3 hj, ← gF4 hj, ← gF5 hj, ← gF6 hj, ← gG2 hj, eI _ (by omega), eI _ (by omega), eI _ (by omega), eI _ (by omega), eL _ (by omega)]
/-- what questions leave alone -/
def FQ (m : Nat) (h h' : HP) : Prop := Sm4 h h' ∧ (∀ b, (b < m ∨ m + 20 ≤ b) → hI h' b = hI h b ∧ hL h' b = hL h b) ∧ (∀ b, (b = m + 1 ∨ (m + 12 ≤ b ∧ b ≤ m + 15) ∨ b = m + 18) → hI h' b = hI h b) ∧ (∀ k, 23 ≤ k → ¬ k = 34 → ¬ k = 35 → ¬ k = 36 → ¬ k = 42 → hI h' m k = hI h m k) ∧ (∀ j, (j < 240 ∨ 360 ≤ j) → hI h' (m + 16) j = hI h (m + 16) j) ∧ (∀ j, (j < 76 ∨ 114 ≤ j) → hL h' (m + 17) j = hL h (m + 17) j)
theorem Sm4.rf {h : HP} : Sm4 h h := ⟨rfl, rfl, rfl, rfl⟩
theorem Sm4.tr {h h1 h2 : HP} (a : Sm4 h h1) (b : Sm4 h1 h2) : Sm4 h h2 := ⟨b.1.trans a.1, b.2.1.trans a.2.1, b.2.2.1.trans a.2.2.1, b.2.2.2.trans a.2.2.2⟩
theorem FQ.rf {m : Nat} {h : HP} : FQ m h h := ⟨Sm4.rf, fun _ _ => ⟨rfl, rfl⟩, fun _ _ => rfl, fun _ _ _ _ _ _ => rfl, fun _ _ => rfl, fun _ _ => rfl⟩
theorem FQ.tr {m : Nat} {h h1 h2 : HP} (a : FQ m h h1) (b : FQ m h1 h2) : FQ m h h2 :=
  ⟨a.1.tr b.1, fun q hq => ⟨(b.2.1 q hq).1.trans (a.2.1 q hq).1, (b.2.1 q hq).2.trans (a.2.1 q hq).2⟩, fun q hq => (b.2.2.1 q hq).trans (a.2.2.1 q hq), fun k h1 h2 h3 h4 h5 => (b.2.2.2.1 k h1 h2 h3 h4 h5).trans (a.2.2.2.1 k h1 h2 h3 h4 h5), fun j hj => (b.2.2.2.2.1 j hj).trans (a.2.2.2.2.1 j hj), fun j hj => (b.2.2.2.2.2 j hj).trans (a.2.2.2.2.2 j hj)⟩
theorem FD.fq {m : Nat} {h h' : HP} (a : FD m h h') : FQ m h h' :=
  ⟨⟨a.2.2.1, a.2.2.2.1, a.2.2.2.2.1, a.2.2.2.2.2⟩, fun b hb => a.1 b (by omega), fun b hb => (a.1 b (by omega)).1, fun k h1 h2 h3 h4 h5 => a.2.1 k (by omega) (by omega), fun j _ => congrFun (a.1 (m + 16) (by omega)).1 j, fun j _ => congrFun (a.1 (m + 17) (by omega)).2 j⟩
theorem PK.fq {m p l : Nat} {h h' : HP} (hp : p ≤ 120) (hl : l ≤ 38) (G : PK m 2 p l h h') : FQ m h h' :=
  ⟨G.1, fun b hb => ⟨G.2.2.1 b (by omega) (by omega), G.2.2.2.2.1 b (by omega)⟩, fun b hb => G.2.2.1 b (by omega) (by omega), fun k h1 h2 h3 h4 h5 => G.2.2.2.1 k h2 h3 h4, fun j hj => by rw [G.2.2.2.2.2.1, if_neg (by omega)], fun j hj => by rw [G.2.2.2.2.2.2, if_neg (by omega)]⟩
theorem PR.fq {m w p l : Nat} {h h' : HP} (G : PR m w p l h h') : FQ m h h' :=
  ⟨G.1, fun b hb => ⟨G.2.2.1 b (by omega), G.2.2.2.2.1 b (by omega)⟩, fun b hb => G.2.2.1 b (by omega), fun k h1 h2 h3 h4 h5 => G.2.2.2.1 k (by omega) h2 h3 h4, fun j hj => congrFun (G.2.2.1 (m + 16) (by omega)) j, fun j hj => congrFun (G.2.2.2.2.1 (m + 17) (by omega)) j⟩
theorem FQ.sI {m a k : Nat} {x : Int32} {h h1 : HP} (f : FQ m h h1) (c : (a = m ∧ (k < 23 ∨ k = 34 ∨ k = 35 ∨ k = 36 ∨ k = 42)) ∨ (m + 1 < a ∧ a < m + 12) ∨ a = m + 19) : FQ m h (sI h1 a k x) := by
  obtain ⟨f1, f2, f3, f4, f5, f6⟩ := f
  refine ⟨f1, fun b hb => ⟨?_, (f2 b hb).2⟩, fun b hb => ?_, fun j h1 h2 h3 h4 h5 => ?_, fun j hj => ?_, f6⟩
  · rw [hI_sI_ne (by omega)]
    exact (f2 b hb).1
  · rw [hI_sI_ne (by omega)]
    exact f3 b hb
  · rw [hI_sI, if_neg (by omega)]
    exact f4 j h1 h2 h3 h4 h5
  · rw [hI_sI_ne (by omega)]
    exact f5 j hj
theorem FQ.sL {m a k : Nat} {x : Int64} {h h1 : HP} (f : FQ m h h1) (c : a = m ∨ (m + 1 < a ∧ a < m + 12)) : FQ m h (sL h1 a k x) := by
  obtain ⟨f1, f2, f3, f4, f5, f6⟩ := f
  refine ⟨f1, fun b hb => ⟨(f2 b hb).1, ?_⟩, f3, f4, f5, fun j hj => ?_⟩
  · rw [hL_sL_ne (by omega)]
    exact (f2 b hb).2
  · rw [hL_sL_ne (by omega)]
    exact f6 j hj
theorem KP.cong {h h' : HP} {m w : Nat} {S : VS} (q : KP h m w S) (g : Good S) (e1 : ∀ j, j < 120 → hI h' (m + 16) (120 * w + j) = hI h (m + 16) (120 * w + j)) (e2 : ∀ j, j < 38 → hL h' (m + 17) (38 * w + j) = hL h (m + 17) (38 * w + j)) : KP h' m w S := by
  refine Rep.of q g (e1 114 (by decide)) (fun i hi => ⟨e1 _ (by omega), e1 _ (by omega), e1 _ (by omega), e2 _ (by omega), e2 _ (by omega)⟩) (e1 115 (by decide)) (fun j hj => ?_) (e2 36 (by decide)) (e2 37 (by decide)) (e1 116 (by decide)) (e1 117 (by decide)) (e1 118 (by decide)) (e1 119 (by decide))
  rw [e1 _ (by omega), e1 _ (by omega), e1 _ (by omega), e1 _ (by omega), e2 _ (by omega)]
theorem KP.fq {h h' : HP} {m w : Nat} {S : VS} (q : KP h m w S) (g : Good S) (f : FQ m h h') (hw : ¬ w = 2) : KP h' m w S := q.cong g (fun j hj => f.2.2.2.2.1 _ (by omega)) (fun j hj => f.2.2.2.2.2 _ (by omega))
theorem KP.fd {h h' : HP} {m w : Nat} {S : VS} (q : KP h m w S) (g : Good S) (f : FD m h h') : KP h' m w S := q.cong g (fun j hj => congrFun (f.1 (m + 16) (by omega)).1 _) (fun j hj => congrFun (f.1 (m + 17) (by omega)).2 _)
theorem FMl.pk {h h' : HP} {m w p l ink : Nat} {dm sh : Bool} (f : FMl h m ink dm sh) (G : PK m w p l h h') : FMl h' m ink dm sh := by
  unfold FMl
  rw [G.2.2.2.1 19 (by decide) (by decide) (by decide), G.2.2.2.1 22 (by decide) (by decide) (by decide), G.2.2.2.1 21 (by decide) (by decide) (by decide)]
  exact f
theorem FMl.pr {h h' : HP} {m w p l ink : Nat} {dm sh : Bool} (f : FMl h m ink dm sh) (G : PR m w p l h h') : FMl h' m ink dm sh := by
  unfold FMl
  rw [G.2.2.2.1 19 (by decide) (by decide) (by decide) (by decide), G.2.2.2.1 22 (by decide) (by decide) (by decide) (by decide), G.2.2.2.1 21 (by decide) (by decide) (by decide) (by decide)]
  exact f
theorem m_minds {d : Nat} {Q : PQ} {h : HP} {m ink : Nat} {dm sh : Bool} {S : VS} (q : RM h m S) (g : Good S) (f : FMl h m ink dm sh)
    (k : ∀ h', FQ m h h' → RM h' m S → FMl h' m ink dm sh → KP h' m 2 S → Q none h') : Ev (d + 3) 148 [.ref m] h Q := by
  have K := q.k
  unfold MK at K
  simp only [e148, s148_0, s148_1, s148_2, s148_3, s148_6, oB_some, cl2_i, cl2_r, cl2_l, cl2_u, cl2_s, wd_0, wd_i, wd_r, wd_l, wd_f, ct_i, ct_r, ct_n, ct_f, rf_s, rf_n, tl_s, tl_n, true_and, and_true, eq_self, and_self, Nat.reduceAdd, Nat.reduceLeDiff, Nat.zero_le, Nat.reduceEqDiff, or_true, true_or, false_or, or_false, if_true, if_false, gI_0, gI_1, gI_2, gI_3, gI_4, gI_5, gI_6, gI_7, gI_8, gI_9, gI_10, gI_11, gI_12, gI_13, gI_14, gI_15, gL_0, gL_1, gL_2, gL_3, gL_4, gL_5, gL_6, gL_7, gL_8, gL_9, gL_10, gL_11, gL_12, gL_13, gL_14, gL_15, gA_0, gA_1, gA_2, gA_3, gA_4, gA_5, gA_6, gA_7, gA_8, gA_9, gA_10, gA_11, gA_12, gA_13, gA_14, gA_15, p1_0, p1_1, p1_2, p1_3, p1_4, p1_5, p1_6, p1_7, p1_8, p1_9, p1_10, p1_11, p1_12, p1_13, p1_14, p1_15, p2_0, p2_1, p2_2, p2_3, p2_4, p2_5, p2_6, p2_7, p2_8, p2_9, p2_10, p2_11, p2_12, p2_13, p2_14, p2_15, b01_ok, b_ft, b_tf, b01_e0, b01_e1, lgc_0, not_true_eq_false, not_false_eq_true, K]
  refine m_allK (w := 2) q.k (by decide) fun h1 G => ?_
  simp only [s148_0, s148_1, s148_2, s148_3, s148_6, oB_some, cl2_i, cl2_r, cl2_l, cl2_u, cl2_s, wd_0, wd_i, wd_r, wd_l, wd_f, ct_i, ct_r, ct_n, ct_f, rf_s, rf_n, tl_s, tl_n, true_and, and_true, eq_self, and_self, Nat.reduceAdd, Nat.reduceLeDiff, Nat.zero_le, Nat.reduceEqDiff, or_true, true_or, false_or, or_false, if_true, if_false, gI_0, gI_1, gI_2, gI_3, gI_4, gI_5, gI_6, gI_7, gI_8, gI_9, gI_10, gI_11, gI_12, gI_13, gI_14, gI_15, gL_0, gL_1, gL_2, gL_3, gL_4, gL_5, gL_6, gL_7, gL_8, gL_9, gL_10, gL_11, gL_12, gL_13, gL_14, gL_15, gA_0, gA_1, gA_2, gA_3, gA_4, gA_5, gA_6, gA_7, gA_8, gA_9, gA_10, gA_11, gA_12, gA_13, gA_14, gA_15, p1_0, p1_1, p1_2, p1_3, p1_4, p1_5, p1_6, p1_7, p1_8, p1_9, p1_10, p1_11, p1_12, p1_13, p1_14, p1_15, p2_0, p2_1, p2_2, p2_3, p2_4, p2_5, p2_6, p2_7, p2_8, p2_9, p2_10, p2_11, p2_12, p2_13, p2_14, p2_15, b01_ok, b_ft, b_tf, b01_e0, b01_e1, lgc_0, not_true_eq_false, not_false_eq_true]
  exact k h1 (G.fq (Nat.le_refl _) (Nat.le_refl _)) (PK.rm q G) (f.pk G) (PK.kp q g G)
theorem m_forgets {d : Nat} {Q : PQ} {h : HP} {m : Nat} {S : VS} (K0 : MK h m) (g : Good S) (p : KP h m 2 S)
    (k : ∀ h', FQ m h h' → RM h' m S → FMl h' m 0 false false → Q none h') : Ev (d + 3) 149 [.ref m] h Q := by
  have K := K0
  unfold MK at K
  simp only [e149, s149_0, s149_1, s149_2, s149_3, oB_some, cl2_i, cl2_r, cl2_l, cl2_u, cl2_s, wd_0, wd_i, wd_r, wd_l, wd_f, ct_i, ct_r, ct_n, ct_f, rf_s, rf_n, tl_s, tl_n, true_and, and_true, eq_self, and_self, Nat.reduceAdd, Nat.reduceLeDiff, Nat.zero_le, Nat.reduceEqDiff, or_true, true_or, false_or, or_false, if_true, if_false, gI_0, gI_1, gI_2, gI_3, gI_4, gI_5, gI_6, gI_7, gI_8, gI_9, gI_10, gI_11, gI_12, gI_13, gI_14, gI_15, gL_0, gL_1, gL_2, gL_3, gL_4, gL_5, gL_6, gL_7, gL_8, gL_9, gL_10, gL_11, gL_12, gL_13, gL_14, gL_15, gA_0, gA_1, gA_2, gA_3, gA_4, gA_5, gA_6, gA_7, gA_8, gA_9, gA_10, gA_11, gA_12, gA_13, gA_14, gA_15, p1_0, p1_1, p1_2, p1_3, p1_4, p1_5, p1_6, p1_7, p1_8, p1_9, p1_10, p1_11, p1_12, p1_13, p1_14, p1_15, p2_0, p2_1, p2_2, p2_3, p2_4, p2_5, p2_6, p2_7, p2_8, p2_9, p2_10, p2_11, p2_12, p2_13, p2_14, p2_15, b01_ok, b_ft, b_tf, b01_e0, b01_e1, lgc_0, not_true_eq_false, not_false_eq_true, K]
  refine m_allR (w := 2) K0 (by decide) fun h1 G => ?_
  have q1 := PR.rm K0 p g G
  have K1 := q1.k
  unfold MK at K1
  simp only [s149_6, s149_7, s149_8, s149_11, s149_12, s149_13, s149_16, s149_17, s149_18, s149_21, oB_some, cl2_i, cl2_r, cl2_l, cl2_u, cl2_s, wd_0, wd_i, wd_r, wd_l, wd_f, ct_i, ct_r, ct_n, ct_f, rf_s, rf_n, tl_s, tl_n, true_and, and_true, eq_self, and_self, Nat.reduceAdd, Nat.reduceLeDiff, Nat.zero_le, Nat.reduceEqDiff, or_true, true_or, false_or, or_false, if_true, if_false, gI_0, gI_1, gI_2, gI_3, gI_4, gI_5, gI_6, gI_7, gI_8, gI_9, gI_10, gI_11, gI_12, gI_13, gI_14, gI_15, gL_0, gL_1, gL_2, gL_3, gL_4, gL_5, gL_6, gL_7, gL_8, gL_9, gL_10, gL_11, gL_12, gL_13, gL_14, gL_15, gA_0, gA_1, gA_2, gA_3, gA_4, gA_5, gA_6, gA_7, gA_8, gA_9, gA_10, gA_11, gA_12, gA_13, gA_14, gA_15, p1_0, p1_1, p1_2, p1_3, p1_4, p1_5, p1_6, p1_7, p1_8, p1_9, p1_10, p1_11, p1_12, p1_13, p1_14, p1_15, p2_0, p2_1, p2_2, p2_3, p2_4, p2_5, p2_6, p2_7, p2_8, p2_9, p2_10, p2_11, p2_12, p2_13, p2_14, p2_15, b01_ok, b_ft, b_tf, b01_e0, b01_e1, lgc_0, not_true_eq_false, not_false_eq_true, z_hkd_sI, z_hln_sI, z_hL_sI, z_hR_sI, z_hnx_sI, z_hkd_sL, z_hln_sL, z_hI_sL, z_hR_sL, z_hnx_sL, z_hkd_sR, z_hln_sR, z_hI_sR, z_hL_sR, z_hnx_sR, z_hkd_cI, z_hln_cI, z_hL_cI, z_hR_cI, z_hnx_cI, z_hkd_cLg, z_hln_cLg, z_hI_cLg, z_hR_cLg, z_hnx_cLg, K1]
  refine k _ (((G.fq.sI (Or.inl ⟨rfl, by omega⟩)).sI (Or.inl ⟨rfl, by omega⟩)).sI (Or.inl ⟨rfl, by omega⟩)) (RM_i (RM_i (RM_i q1 (by decide)) (by decide)) (by decide)) ?_
  unfold FMl
  refine ⟨?_, ?_, ?_⟩
  · rw [hI_sI, if_neg (by omega), hI_sI, if_neg (by omega), hI_sI, if_pos ⟨rfl, rfl⟩]; rfl
  · rw [hI_sI, if_pos ⟨rfl, rfl⟩]; rfl
  · rw [hI_sI, if_neg (by omega), hI_sI, if_pos ⟨rfl, rfl⟩]; rfl
