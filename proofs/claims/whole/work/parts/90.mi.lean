-- the other side, all of it
def MT (h : HP) (m : Nat) (tp : Nat → Nat) (tl : Nat) : Prop := hI h m 27 = nI tl ∧ tl ≤ 96 ∧ ∀ i, i < tl → hI h (m + 12) i = nI (tp i) ∧ tp i < 256
def MP (h : HP) (m : Nat) (H : HS) : Prop := (hI h m 37 = nI (ho H) ∧ hI h m 38 = nI (hc H)) ∧ (him H = none → hI h m 33 = 0) ∧ (∀ I, him H = some I → hI h m 33 = 1 ∧ KP h m 0 I) ∧ ∀ j, j < hc H → KP h m (3 + (ho H + j) % 8) (hg H ((ho H + j) % 8))
def MI (h : HP) (m : Nat) (S : VS) (H : HS) (tp : Nat → Nat) (tl : Nat) (r : Nat → Nat) (len : Nat) : Prop := MO h m S ∧ MP h m H ∧ MT h m tp tl ∧ MR h m r len
def FMm (m : Nat) (h h' : HP) : Prop := Sm4 h h' ∧ ∀ b, (b < m ∨ m + 20 ≤ b) → hI h' b = hI h b ∧ hL h' b = hL h b
theorem FMm.tr {m : Nat} {h h1 h2 : HP} (a : FMm m h h1) (b : FMm m h1 h2) : FMm m h h2 := ⟨a.1.tr b.1, fun q hq => ⟨(b.2 q hq).1.trans (a.2 q hq).1, (b.2 q hq).2.trans (a.2 q hq).2⟩⟩
theorem FMm.rf {m : Nat} {h : HP} : FMm m h h := ⟨Sm4.rf, fun _ _ => ⟨rfl, rfl⟩⟩
theorem FMm.sI {m a k : Nat} {x : Int32} {h h1 : HP} (f : FMm m h h1) (h1a : m ≤ a) (h2a : a < m + 20) : FMm m h (sI h1 a k x) := ⟨f.1, fun b hb => ⟨by rw [hI_sI_ne (by omega)]; exact (f.2 b hb).1, (f.2 b hb).2⟩⟩
theorem FMm.sL {m a k : Nat} {x : Int64} {h h1 : HP} (f : FMm m h h1) (h1a : m ≤ a) (h2a : a < m + 20) : FMm m h (sL h1 a k x) := ⟨f.1, fun b hb => ⟨(f.2 b hb).1, by rw [hL_sL_ne (by omega)]; exact (f.2 b hb).2⟩⟩
theorem FQ.fm {m : Nat} {h h' : HP} (f : FQ m h h') : FMm m h h' := ⟨f.1, f.2.1⟩
theorem PK.fm {m w p l : Nat} {h h' : HP} (G : PK m w p l h h') : FMm m h h' := ⟨G.1, fun b hb => ⟨G.2.2.1 b (by omega) (by omega), G.2.2.2.2.1 b (by omega)⟩⟩
def KM (h : HP) (m : Nat) (S : VS) (H : HS) (tp : Nat → Nat) (tl : Nat) (r : Nat → Nat) (len : Nat) (Q : HP → Prop) : Prop := ∀ h', FMm m h h' → hI h' (m + 1) = hI h (m + 1) → MI h' m S H tp tl r len → Q h'
theorem MT.fq {h h' : HP} {m tl : Nat} {tp : Nat → Nat} (a : MT h m tp tl) (f : FQ m h h') : MT h' m tp tl := by
  unfold MT
  rw [f.2.2.2.1 27 (by decide) (by decide) (by decide) (by decide) (by decide), f.2.2.1 (m + 12) (by omega)]
  exact a
theorem MP.fq {h h' : HP} {m : Nat} {H : HS} (a : MP h m H) (gH : GH H) (f : FQ m h h') : MP h' m H := by
  obtain ⟨⟨a1, a2⟩, a3, a4, a5⟩ := a
  have e : ∀ k, k = 33 ∨ k = 37 ∨ k = 38 → hI h' m k = hI h m k := fun k hk => f.2.2.2.1 k (by omega) (by omega) (by omega) (by omega) (by omega)
  refine ⟨⟨?_, ?_⟩, fun hn => ?_, fun I hI => ?_, fun j hj => ?_⟩
  · rw [e 37 (by decide)]; exact a1
  · rw [e 38 (by decide)]; exact a2
  · rw [e 33 (by decide)]; exact a3 hn
  · rw [e 33 (by decide)]
    exact ⟨(a4 I hI).1, (a4 I hI).2.fq (gH.2.1 I hI).1 f (by decide)⟩
  · exact (a5 j hj).fq (gH.2.2 j hj).1 f (by omega)
theorem MI.fq {h h' : HP} {m tl len : Nat} {tp r : Nat → Nat} {S S' : VS} {H : HS} (a : MI h m S H tp tl r len) (gH : GH H) (f : FQ m h h') (q : MO h' m S') : MI h' m S' H tp tl r len := ⟨q, a.2.1.fq gH f, a.2.2.1.fq f, a.2.2.2.fq f⟩
theorem MO.rf {h : HP} {m : Nat} {S : VS} (a : MO h m S) (w : Int32) : MO (RfM h m w) m S := by
  obtain ⟨⟨k0, r1, r2, r3, r4, r5, r6, r7, r8, r9, r10⟩, f⟩ := a
  refine ⟨⟨k0, ?_⟩, f.w (Or.inl (by omega))⟩
  unfold RMr RfM
  rw [mt5_sI (by omega), hI_sI_ne (by omega), hI_sI_ne (by omega), hI_sI_ne (by omega), hI_sI_ne (by omega)]
  exact ⟨r1, r2, r3, r4, r5, r6, r7, r8, r9, r10⟩
theorem MI.rf {h : HP} {m tl len : Nat} {tp r : Nat → Nat} {S : VS} {H : HS} (a : MI h m S H tp tl r len) (gH : GH H) (w : Int32) : MI (RfM h m w) m S H tp tl r len := by
  obtain ⟨q, ⟨⟨a1, a2⟩, a3, a4, a5⟩, t, R⟩ := a
  have e0 : hI (RfM h m w) m = hI h m := hI_sI_ne (by omega)
  refine ⟨q.rf w, ⟨⟨by rw [e0]; exact a1, by rw [e0]; exact a2⟩, fun hn => by rw [e0]; exact a3 hn, fun I hI => ⟨by rw [e0]; exact (a4 I hI).1, (a4 I hI).2.w (gH.2.1 I hI).1 (by omega)⟩, fun j hj => (a5 j hj).w (gH.2.2 j hj).1 (by omega)⟩, ?_, ?_⟩
  · unfold MT at t ⊢
    rw [e0, show hI (RfM h m w) (m + 12) = hI h (m + 12) from hI_sI_ne (by omega)]
    exact t
  · unfold MR at R ⊢
    rw [e0, show hI (RfM h m w) (m + 18) = hI h (m + 18) from hI_sI_ne (by omega)]
    exact R
theorem KP.pk {h h' : HP} {m w w2 : Nat} {S : VS} (p : KP h m w2 S) (g : Good S) (G : PK m w 120 38 h h') (hne : ¬ w2 = w) : KP h' m w2 S := by
  refine p.cong g (fun j hj => ?_) (fun j hj => ?_)
  · rw [G.2.2.2.2.2.1, if_neg (by omega)]
  · rw [G.2.2.2.2.2.2, if_neg (by omega)]
theorem MT.pk {h h' : HP} {m w tl : Nat} {tp : Nat → Nat} (a : MT h m tp tl) (G : PK m w 120 38 h h') : MT h' m tp tl := by
  unfold MT
  rw [G.2.2.2.1 27 (by decide) (by decide) (by decide), G.2.2.1 (m + 12) (by omega) (by omega)]
  exact a
theorem MR.pk {h h' : HP} {m w len : Nat} {r : Nat → Nat} (a : MR h m r len) (G : PK m w 120 38 h h') : MR h' m r len := by
  unfold MR
  rw [G.2.2.2.1 40 (by decide) (by decide) (by decide), G.2.2.1 (m + 18) (by omega) (by omega)]
  exact a
/-- only m's fields 37, 38 (and what m counts) have changed -/
def FQ' (m : Nat) (h h' : HP) : Prop := FMm m h h' ∧ (∀ k, ¬ k = 37 → ¬ k = 38 → hI h' m k = hI h m k) ∧ (∀ b, ¬ b = m → hI h' b = hI h b) ∧ ∀ b, hL h' b = hL h b
theorem FQ'.mo {m : Nat} {h h' : HP} {S : VS} (f : FQ' m h h') (a : MO h m S) : MO h' m S := by
  obtain ⟨⟨k0, r1, r2, r3, r4, r5, r6, r7, r8, r9, r10⟩, l⟩ := a
  obtain ⟨f1, f2, f3, f4⟩ := f
  have em : mt5 h' m = mt5 h m := by
    funext j
    unfold mt5
    rw [f3 (m + 5) (by omega), f3 (m + 6) (by omega), f3 (m + 7) (by omega), f3 (m + 8) (by omega), f4]
  refine ⟨⟨k0.kept f1.1.1 f1.1.2.1 f1.1.2.2.1, ?_⟩, ?_⟩
  · unfold RMr
    rw [f2 11 (by decide) (by decide), f3 (m + 2) (by omega), f3 (m + 3) (by omega), f3 (m + 4) (by omega), f4, f4, f2 12 (by decide) (by decide), em, f4, f2 13 (by decide) (by decide), f2 14 (by decide) (by decide), f2 15 (by decide) (by decide), f2 16 (by decide) (by decide)]
    exact ⟨r1, r2, r3, r4, r5, r6, r7, r8, r9, r10⟩
  · unfold FMl at l ⊢
    rw [f2 19 (by decide) (by decide), f2 22 (by decide) (by decide), f2 21 (by decide) (by decide)]
    exact l
theorem FQ'.kp {m w : Nat} {h h' : HP} {S : VS} (f : FQ' m h h') (p : KP h m w S) (g : Good S) : KP h' m w S := p.cong g (fun j hj => by rw [f.2.2.1 (m + 16) (by omega)]) (fun j hj => by rw [f.2.2.2])
theorem FQ'.mt {h h' : HP} {m tl : Nat} {tp : Nat → Nat} (f : FQ' m h h') (a : MT h m tp tl) : MT h' m tp tl := by
  unfold MT
  rw [f.2.1 27 (by decide) (by decide), f.2.2.1 (m + 12) (by omega)]
  exact a
theorem FQ'.mr {h h' : HP} {m len : Nat} {r : Nat → Nat} (f : FQ' m h h') (a : MR h m r len) : MR h' m r len := by
  unfold MR
  rw [f.2.1 40 (by decide) (by decide), f.2.2.1 (m + 18) (by omega)]
  exact a
set_option maxHeartbeats 4000000 in
theorem m_remembers {d tl len : Nat} {tp r : Nat → Nat} {Q : PQ} {h : HP} {m : Nat} {S : VS} {H : HS} (C : MI h m S H tp tl r len) (g : Good S) (gH : GH H) (k : KM h m S (pushH H S) tp tl r len (Q none)) : Ev (d + 3) 129 [.ref m] h Q := by
  obtain ⟨q, ⟨⟨a1, a2⟩, a3, a4, a5⟩, t, R⟩ := C
  obtain ⟨⟨ho8, hc8⟩, gI, gR⟩ := gH
  have K := q.1.k
  unfold MK at K
  have po8 : po H < 8 := by unfold po; split <;> omega
  have pc7 : pc1 H < 8 := by unfold pc1; split <;> omega
  have pl8 : (po H + pc1 H) % 8 < 8 := Nat.mod_lt _ (by decide)
  have live : ∀ j, j < pc1 H → ∃ i, i < hc H ∧ (po H + j) % 8 = (ho H + i) % 8 := fun j hj => by
    unfold po pc1 at *
    by_cases e : hc H = 8
    · rw [if_pos e] at *
      exact ⟨j + 1, by omega, by omega⟩
    · rw [if_neg e] at *
      exact ⟨j, hj, rfl⟩
  have fin : ∀ (h1 : HP), FQ' m h h1 → hI h1 m 37 = nI (po H) → hI h1 m 38 = nI (pc1 H + 1) → hkd h1 = hkd h → hln h1 = hln h → hR h1 = hR h →
      WP (d + 2) 129 Q (35, [.val (.ref m)], [], h1, 0, 0) := by
    intro h1 f1 i1 i2 e1 e2 e3
    have q1 := f1.mo q
    have K1 := q1.1.k
    unfold MK at K1
    have s1 : nI (po H + (pc1 H + 1)) - 1 = nI (po H + pc1 H) := pk_sub (b := 1) (by omega)
    have re : nI (po H + pc1 H) - nI (po H + pc1 H) / 8 * 8 = nI ((po H + pc1 H) % 8) := rem8 (by omega)
    have a3' : (3 : Int32) + nI ((po H + pc1 H) % 8) = nI (3 + (po H + pc1 H) % 8) := nI_add 3 _
    simp only [s129_35, s129_36, s129_37, s129_38, s129_41, s129_42, s129_45, s129_46, s129_47, s129_48, s129_50, s129_51, s129_52, s129_53, oB_some, cl2_i, cl2_r, cl2_l, cl2_u, cl2_s, wd_0, wd_i, wd_r, wd_l, wd_f, ct_i, ct_r, ct_n, ct_f, rf_s, rf_n, tl_s, tl_n, true_and, and_true, eq_self, and_self, Nat.reduceAdd, Nat.reduceLeDiff, Nat.zero_le, Nat.reduceEqDiff, or_true, true_or, false_or, or_false, if_true, if_false, gI_0, gI_1, gI_2, gI_3, gI_4, gI_5, gI_6, gI_7, gI_8, gI_9, gI_10, gI_11, gI_12, gI_13, gI_14, gI_15, gL_0, gL_1, gL_2, gL_3, gL_4, gL_5, gL_6, gL_7, gL_8, gL_9, gL_10, gL_11, gL_12, gL_13, gL_14, gL_15, gA_0, gA_1, gA_2, gA_3, gA_4, gA_5, gA_6, gA_7, gA_8, gA_9, gA_10, gA_11, gA_12, gA_13, gA_14, gA_15, p1_0, p1_1, p1_2, p1_3, p1_4, p1_5, p1_6, p1_7, p1_8, p1_9, p1_10, p1_11, p1_12, p1_13, p1_14, p1_15, p2_0, p2_1, p2_2, p2_3, p2_4, p2_5, p2_6, p2_7, p2_8, p2_9, p2_10, p2_11, p2_12, p2_13, p2_14, p2_15, b01_ok, b_ft, b_tf, b01_e0, b01_e1, lgc_0, not_true_eq_false, not_false_eq_true, K1, i1, i2, nI_add, s1, re, a3', z80, not_false_eq_true]
    refine m_allK (w := 3 + (po H + pc1 H) % 8) q1.1.k (by omega) fun h2 G => ?_
    simp only [s129_56, oB_some, cl2_i, cl2_r, cl2_l, cl2_u, cl2_s, wd_0, wd_i, wd_r, wd_l, wd_f, ct_i, ct_r, ct_n, ct_f, rf_s, rf_n, tl_s, tl_n, true_and, and_true, eq_self, and_self, Nat.reduceAdd, Nat.reduceLeDiff, Nat.zero_le, Nat.reduceEqDiff, or_true, true_or, false_or, or_false, if_true, if_false, gI_0, gI_1, gI_2, gI_3, gI_4, gI_5, gI_6, gI_7, gI_8, gI_9, gI_10, gI_11, gI_12, gI_13, gI_14, gI_15, gL_0, gL_1, gL_2, gL_3, gL_4, gL_5, gL_6, gL_7, gL_8, gL_9, gL_10, gL_11, gL_12, gL_13, gL_14, gL_15, gA_0, gA_1, gA_2, gA_3, gA_4, gA_5, gA_6, gA_7, gA_8, gA_9, gA_10, gA_11, gA_12, gA_13, gA_14, gA_15, p1_0, p1_1, p1_2, p1_3, p1_4, p1_5, p1_6, p1_7, p1_8, p1_9, p1_10, p1_11, p1_12, p1_13, p1_14, p1_15, p2_0, p2_1, p2_2, p2_3, p2_4, p2_5, p2_6, p2_7, p2_8, p2_9, p2_10, p2_11, p2_12, p2_13, p2_14, p2_15, b01_ok, b_ft, b_tf, b01_e0, b01_e1, lgc_0, not_true_eq_false, not_false_eq_true]
    have f33 := f1.2.1 33 (by decide) (by decide)
    refine k h2 (f1.1.tr G.fm) (by rw [G.2.2.1 (m + 1) (by omega) (by omega), f1.2.2.1 (m + 1) (by omega)]) ⟨⟨PK.rm q1.1 G, q1.2.pk G⟩, ⟨⟨?_, ?_⟩, fun hn => ?_, fun I hI => ⟨?_, ?_⟩, fun j hj => ?_⟩, (f1.mt t).pk G, (f1.mr R).pk G⟩
    · rw [G.2.2.2.1 37 (by decide) (by decide) (by decide)]; exact i1
    · rw [G.2.2.2.1 38 (by decide) (by decide) (by decide)]; exact i2
    · rw [G.2.2.2.1 33 (by decide) (by decide) (by decide), f33]; exact a3 hn
    · rw [G.2.2.2.1 33 (by decide) (by decide) (by decide), f33]; exact (a4 I hI).1
    · exact (f1.kp (a4 I hI).2 (gI I hI).1).pk (gI I hI).1 G (by omega)
    · have hj2 : j < pc1 H + 1 := hj
      show KP h2 m (3 + (po H + j) % 8) (va_up (hg H) ((po H + pc1 H) % 8) S ((po H + j) % 8))
      by_cases e : j = pc1 H
      · subst e
        rw [up_at]
        exact PK.kp q1.1 g G
      · have hne := mod8_ne (o := po H) (show j < pc1 H by omega) pc7
        rw [up_ne hne]
        obtain ⟨i, hi, ei⟩ := live j (by omega)
        rw [ei] at hne ⊢
        exact (f1.kp (a5 i hi) (gR i hi).1).pk (gR i hi).1 G (by omega)
  have e8 : (nI (hc H) = 8) = (hc H = 8) := eqP (b := 8) (by omega) (by decide)
  by_cases e : hc H = 8
  · have ho1 : nI (ho H + 1) - nI (ho H + 1) / 8 * 8 = nI ((ho H + 1) % 8) := rem8 (by omega)
    have epo : po H = (ho H + 1) % 8 := if_pos e
    have epc : pc1 H = 7 := if_pos e
    have n88 : nI 8 = 8 := rfl
    simp only [e129, s129_0, s129_1, s129_4, s129_6, s129_9, s129_10, s129_11, s129_14, s129_15, s129_16, s129_18, s129_19, s129_22, s129_25, s129_26, s129_27, s129_30, s129_31, s129_32, oB_some, cl2_i, cl2_r, cl2_l, cl2_u, cl2_s, wd_0, wd_i, wd_r, wd_l, wd_f, ct_i, ct_r, ct_n, ct_f, rf_s, rf_n, tl_s, tl_n, true_and, and_true, eq_self, and_self, Nat.reduceAdd, Nat.reduceLeDiff, Nat.zero_le, Nat.reduceEqDiff, or_true, true_or, false_or, or_false, if_true, if_false, gI_0, gI_1, gI_2, gI_3, gI_4, gI_5, gI_6, gI_7, gI_8, gI_9, gI_10, gI_11, gI_12, gI_13, gI_14, gI_15, gL_0, gL_1, gL_2, gL_3, gL_4, gL_5, gL_6, gL_7, gL_8, gL_9, gL_10, gL_11, gL_12, gL_13, gL_14, gL_15, gA_0, gA_1, gA_2, gA_3, gA_4, gA_5, gA_6, gA_7, gA_8, gA_9, gA_10, gA_11, gA_12, gA_13, gA_14, gA_15, p1_0, p1_1, p1_2, p1_3, p1_4, p1_5, p1_6, p1_7, p1_8, p1_9, p1_10, p1_11, p1_12, p1_13, p1_14, p1_15, p2_0, p2_1, p2_2, p2_3, p2_4, p2_5, p2_6, p2_7, p2_8, p2_9, p2_10, p2_11, p2_12, p2_13, p2_14, p2_15, b01_ok, b_ft, b_tf, b01_e0, b01_e1, lgc_0, not_true_eq_false, not_false_eq_true, z_hkd_sI, z_hln_sI, z_hL_sI, z_hR_sI, z_hnx_sI, z_hkd_sL, z_hln_sL, z_hI_sL, z_hR_sL, z_hnx_sL, z_hkd_sR, z_hln_sR, z_hI_sR, z_hL_sR, z_hnx_sR, z_hkd_cI, z_hln_cI, z_hL_cI, z_hR_cI, z_hnx_cI, z_hkd_cLg, z_hln_cLg, z_hI_cLg, z_hR_cLg, z_hnx_cLg, K, a1, a2, e, n88, nI_1, z80, ho1, not_false_eq_true, not_true_eq_false]
    refine fin _ ⟨FMm.rf.sI (by omega) (by omega), fun k h1 h2 => by rw [hI_sI, if_neg (by omega)], fun b hb => by rw [hI_sI_ne hb], fun b => rfl⟩ (by rw [hI_sI, if_pos ⟨rfl, rfl⟩, epo]) (by rw [hI_sI, if_neg (by omega), a2, e, epc]) rfl rfl rfl
  · have epo : po H = ho H := if_neg e
    have epc : pc1 H = hc H := if_neg e
    simp only [e129, s129_0, s129_1, s129_4, s129_6, s129_9, s129_10, s129_11, s129_14, s129_15, s129_16, s129_18, s129_19, s129_22, s129_25, s129_26, s129_27, s129_30, s129_31, s129_32, oB_some, cl2_i, cl2_r, cl2_l, cl2_u, cl2_s, wd_0, wd_i, wd_r, wd_l, wd_f, ct_i, ct_r, ct_n, ct_f, rf_s, rf_n, tl_s, tl_n, true_and, and_true, eq_self, and_self, Nat.reduceAdd, Nat.reduceLeDiff, Nat.zero_le, Nat.reduceEqDiff, or_true, true_or, false_or, or_false, if_true, if_false, gI_0, gI_1, gI_2, gI_3, gI_4, gI_5, gI_6, gI_7, gI_8, gI_9, gI_10, gI_11, gI_12, gI_13, gI_14, gI_15, gL_0, gL_1, gL_2, gL_3, gL_4, gL_5, gL_6, gL_7, gL_8, gL_9, gL_10, gL_11, gL_12, gL_13, gL_14, gL_15, gA_0, gA_1, gA_2, gA_3, gA_4, gA_5, gA_6, gA_7, gA_8, gA_9, gA_10, gA_11, gA_12, gA_13, gA_14, gA_15, p1_0, p1_1, p1_2, p1_3, p1_4, p1_5, p1_6, p1_7, p1_8, p1_9, p1_10, p1_11, p1_12, p1_13, p1_14, p1_15, p2_0, p2_1, p2_2, p2_3, p2_4, p2_5, p2_6, p2_7, p2_8, p2_9, p2_10, p2_11, p2_12, p2_13, p2_14, p2_15, b01_ok, b_ft, b_tf, b01_e0, b01_e1, lgc_0, not_true_eq_false, not_false_eq_true, z_hkd_sI, z_hln_sI, z_hL_sI, z_hR_sI, z_hnx_sI, z_hkd_sL, z_hln_sL, z_hI_sL, z_hR_sL, z_hnx_sL, z_hkd_sR, z_hln_sR, z_hI_sR, z_hL_sR, z_hnx_sR, z_hkd_cI, z_hln_cI, z_hL_cI, z_hR_cI, z_hnx_cI, z_hkd_cLg, z_hln_cLg, z_hI_cLg, z_hR_cLg, z_hnx_cLg, K, a1, a2, e8, e, nI_1, not_false_eq_true]
    refine fin _ ⟨FMm.rf.sI (by omega) (by omega), fun k h1 h2 => by rw [hI_sI, if_neg (by omega)], fun b hb => by rw [hI_sI_ne hb], fun b => rfl⟩ (by rw [hI_sI, if_neg (by omega), a1, epo]) (by rw [hI_sI, if_pos ⟨rfl, rfl⟩, epc]) rfl rfl rfl
