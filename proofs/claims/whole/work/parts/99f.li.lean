-- both sides together
theorem FMm.fm' {m : Nat} {h h' : HP} (f : FMm m h h') : Fm m 20 h h' := ⟨fun b hb => f.2 b (by omega), f.1⟩
theorem CI.fmm {x tl len : Nat} {tp r : Nat → Nat} {h h' : HP} {S : VS} {H : HS} (a : CI h x S H tp tl r len) (f : FMm (x + 34) h h') : CI h' x S H tp tl r len := by
  have m := f.fm'
  obtain ⟨⟨a1, ⟨b1, b2, b3, b4⟩, a3, a4⟩, P, T, R⟩ := a
  refine ⟨⟨a1.kept m.2.1 m.2.2.1 m.2.2.2.1, ⟨?_, b2.kept m.2.1 m.2.2.1 m.2.2.2.1, b3.kept m (by omega), b4⟩, ?_, a4.kept m (Or.inl (by omega))⟩, P.kept m (Or.inl (by omega)) (by omega), T.kept m (Or.inl (by omega)), R.kept m (Or.inl (by omega))⟩
  · rw [m.2.1, m.2.2.2.1]
    exact b1
  · unfold FYe at a3 ⊢
    rw [m.2.1, m.2.2.1, m.2.2.2.1]
    exact a3
theorem MI.cells {h h' : HP} {m tl len : Nat} {tp r : Nat → Nat} {S : VS} {H : HS} (a : MI h m S H tp tl r len) (gH : GH H) (c : ∀ b, m ≤ b → b < m + 20 → hkd h' b = hkd h b ∧ hln h' b = hln h b ∧ hI h' b = hI h b ∧ hL h' b = hL h b ∧ hR h' b = hR h b) : MI h' m S H tp tl r len := by
  obtain ⟨⟨⟨k0, r1, r2, r3, r4, r5, r6, r7, r8, r9, r10⟩, l⟩, ⟨⟨a1, a2⟩, a3, a4, a5⟩, T, R⟩ := a
  have T' := T
  have R' := R
  have c0 := c m (by omega) (by omega)
  have cj : ∀ j, j < 20 → hkd h' (m + j) = hkd h (m + j) ∧ hln h' (m + j) = hln h (m + j) ∧ hI h' (m + j) = hI h (m + j) ∧ hL h' (m + j) = hL h (m + j) ∧ hR h' (m + j) = hR h (m + j) := fun j hj => c (m + j) (by omega) (by omega)
  have em : mt5 h' m = mt5 h m := by
    funext j
    unfold mt5
    rw [(cj 5 (by decide)).2.2.1, (cj 6 (by decide)).2.2.1, (cj 7 (by decide)).2.2.1, (cj 8 (by decide)).2.2.1, (cj 11 (by decide)).2.2.2.1]
  have kp : ∀ w U, KP h m w U → Good U → KP h' m w U := fun w U p g => p.cong g (fun j hj => by rw [(cj 16 (by decide)).2.2.1]) (fun j hj => by rw [(cj 17 (by decide)).2.2.2.1])
  refine ⟨⟨⟨?_, ?_⟩, ?_⟩, ⟨⟨?_, ?_⟩, fun hn => ?_, fun I hI => ⟨?_, ?_⟩, fun j hj => ?_⟩, ?_, ?_⟩
  · unfold MK at k0 ⊢
    rw [c0.1, (cj 1 (by decide)).1, (cj 2 (by decide)).1, (cj 3 (by decide)).1, (cj 4 (by decide)).1, (cj 5 (by decide)).1, (cj 6 (by decide)).1, (cj 7 (by decide)).1, (cj 8 (by decide)).1, (cj 9 (by decide)).1, (cj 10 (by decide)).1, (cj 11 (by decide)).1, (cj 12 (by decide)).1, (cj 13 (by decide)).1, (cj 14 (by decide)).1, (cj 15 (by decide)).1, (cj 16 (by decide)).1, (cj 17 (by decide)).1, (cj 18 (by decide)).1, (cj 19 (by decide)).1,
      (cj 1 (by decide)).2.1, (cj 2 (by decide)).2.1, (cj 3 (by decide)).2.1, (cj 4 (by decide)).2.1, (cj 5 (by decide)).2.1, (cj 6 (by decide)).2.1, (cj 7 (by decide)).2.1, (cj 8 (by decide)).2.1, (cj 9 (by decide)).2.1, (cj 10 (by decide)).2.1, (cj 11 (by decide)).2.1, (cj 12 (by decide)).2.1, (cj 13 (by decide)).2.1, (cj 14 (by decide)).2.1, (cj 15 (by decide)).2.1, (cj 16 (by decide)).2.1, (cj 17 (by decide)).2.1, (cj 18 (by decide)).2.1, (cj 19 (by decide)).2.1, c0.2.2.2.2]
    exact k0
  · unfold RMr
    rw [c0.2.2.1, (cj 2 (by decide)).2.2.1, (cj 3 (by decide)).2.2.1, (cj 4 (by decide)).2.2.1, (cj 9 (by decide)).2.2.2.1, (cj 10 (by decide)).2.2.2.1, em, c0.2.2.2.1]
    exact ⟨r1, r2, r3, r4, r5, r6, r7, r8, r9, r10⟩
  · unfold FMl at l ⊢
    rw [c0.2.2.1]
    exact l
  · rw [c0.2.2.1]; exact a1
  · rw [c0.2.2.1]; exact a2
  · rw [c0.2.2.1]; exact a3 hn
  · rw [c0.2.2.1]; exact (a4 I hI).1
  · exact kp 0 I (a4 I hI).2 (gH.2.1 I hI).1
  · exact kp _ _ (a5 j hj) (gH.2.2 j hj).1
  · unfold MT at T' ⊢
    rw [c0.2.2.1, (cj 12 (by decide)).2.2.1]
    exact T'
  · unfold MR at R' ⊢
    rw [c0.2.2.1, (cj 18 (by decide)).2.2.1]
    exact R'
theorem MI.fa {h h' : HP} {x tl len : Nat} {tp r : Nat → Nat} {S : VS} {H : HS} (a : MI h (x + 34) S H tp tl r len) (gH : GH H) (f : FA x h h') : MI h' (x + 34) S H tp tl r len := a.cells gH fun b h1 h2 => f.1 b (by omega)
/-- what holds between two turns -/
def LI (b L : Nat) (xs : Nat → Int32) (h : HP) (x : Nat) (S : VS) (H : HS) (tp : Nat → Nat) (tl : Nat) (r : Nat → Nat) (len : Nat) : Prop :=
  CI h x S H tp tl r len ∧ MI h (x + 34) S H tp tl r len ∧ (GV S ∧ GH H) ∧ (∀ j, j < 6 → hI h (x + 6) j = hI h (x + 34 + 1) (j + 1)) ∧ (b < x ∧ hkd h b = 1 ∧ hln h b = L ∧ ∀ j, hI h b j = xs j)
theorem LI.step {b L x tl len tl2 len2 : Nat} {xs : Nat → Int32} {h h1 h2 : HP} {tp r tp2 r2 : Nat → Nat} {S S2 : VS} {H H2 : HS} (a : LI b L xs h x S H tp tl r len) (f : FA x h h1) (e : hI h1 (x + 6) = hI h (x + 6)) (C : CI h1 x S2 H2 tp2 tl2 r2 len2) (f2 : FMm (x + 34) h1 h2) (e2 : hI h2 (x + 34 + 1) = hI h1 (x + 34 + 1)) (M : MI h2 (x + 34) S2 H2 tp2 tl2 r2 len2) (gS : GV S2) (gH : GH H2) : LI b L xs h2 x S2 H2 tp2 tl2 r2 len2 := by
  obtain ⟨-, -, -, a4, a5, a6, a7, a8⟩ := a
  refine ⟨C.fmm f2, M, ⟨gS, gH⟩, fun j hj => ?_, a5, ?_, ?_, fun j => ?_⟩
  · rw [(f2.2 (x + 6) (by omega)).1, e, e2, (f.1 (x + 34 + 1) (by omega)).2.2.1]
    exact a4 j hj
  · rw [f2.1.1, (f.1 b (by omega)).1]; exact a6
  · rw [f2.1.2.1, (f.1 b (by omega)).2.1]; exact a7
  · rw [(f2.2 b (by omega)).1, (f.1 b (by omega)).2.2.1]; exact a8 j
theorem LI.ask {b L x tl len : Nat} {xs : Nat → Int32} {h h1 h2 : HP} {tp r : Nat → Nat} {S : VS} {H : HS} (a : LI b L xs h x S H tp tl r len) (f : Fm (x + 20) 14 h h1) (f2 : FQ (x + 34) h1 h2) (M : MO h2 (x + 34) S) : LI b L xs h2 x S H tp tl r len := by
  have fa : FA x h h1 := f.fa (by omega) (by omega)
  have M1 := a.2.1.fa a.2.2.1.2 fa
  exact a.step fa (f.1 (x + 6) (by omega)).1 (a.1.q f) f2.fm (f2.2.2.1 _ (Or.inl rfl)) (M1.fq a.2.2.1.2 f2 M) a.2.2.1.1 a.2.2.1.2
theorem rI_6 (w : Int32) : 1 ≤ rI w ∧ rI w ≤ 6 := by
  unfold rI
  repeat' split
  all_goals omega
theorem RfC.fa {h : HP} {x : Nat} {w : Int32} : FA x h (RfC h x w) := Fm.fa (lo := x + 6) (n := 1) (Fm.rf.sI (Nat.le_refl _) (by omega)) (by omega) (by omega)
theorem LI.refuse {b L x tl len : Nat} {xs : Nat → Int32} {h : HP} {tp r : Nat → Nat} {S : VS} {H : HS} (a : LI b L xs h x S H tp tl r len) (w : Int32) : LI b L xs (RfM (RfC h x w) (x + 34) w) x S H tp tl r len := by
  have M1 := a.2.1.fa a.2.2.1.2 (RfC.fa (w := w))
  have f2 : FMm (x + 34) (RfC h x w) (RfM (RfC h x w) (x + 34) w) := FMm.rf.sI (by omega) (by omega)
  have C1 := (a.1.rf w).fmm f2
  have rb := rI_6 w
  obtain ⟨-, -, a3, a4, a5, a6, a7, a8⟩ := a
  refine ⟨C1, M1.rf a3.2 w, a3, fun j hj => ?_, a5, a6, a7, fun j => ?_⟩
  · unfold RfM
    rw [hI_sI_ne (by omega), hI_sI]
    unfold RfC
    rw [hI_sI, hI_sI_ne (by omega)]
    by_cases z : j = rI w - 1
    · rw [if_pos ⟨rfl, z⟩, if_pos ⟨rfl, by omega⟩, a4 _ (by omega), show rI w - 1 + 1 = rI w by omega]
    · rw [if_neg (fun y => z y.2), if_neg (fun y => z (by omega)), a4 j hj]
  · unfold RfM RfC
    rw [hI_sI_ne (by omega), hI_sI_ne (by omega)]
    exact a8 j
