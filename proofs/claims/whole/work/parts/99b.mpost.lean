-- the other side: the post
def pl (tp : Nat → Nat) : Nat → Nat
  | 0 => 0
  | j + 1 => pl tp j + 1 + lbN (tp (pl tp j))
theorem pl_lt {tp : Nat → Nat} : ∀ {b a : Nat}, a < b → pl tp a < pl tp b := by
  intro b
  induction b with
  | zero => exact fun {a} h => absurd h (Nat.not_lt_zero a)
  | succ b ih =>
    intro a h
    have s : pl tp (b + 1) = pl tp b + 1 + lbN (tp (pl tp b)) := rfl
    by_cases e : a = b
    · rw [e, s]; omega
    · have := ih (a := a) (by omega)
      rw [s]; omega
theorem pl_4 {tp : Nat → Nat} : ∀ {b : Nat}, (∀ j, j < b → ¬ lbN (tp (pl tp j)) = 0) → 4 * b ≤ pl tp b := by
  intro b
  induction b with
  | zero => exact fun _ => Nat.zero_le _
  | succ b ih =>
    intro h
    have s : pl tp (b + 1) = pl tp b + 1 + lbN (tp (pl tp b)) := rfl
    have i1 := ih (fun j hj => h j (by omega))
    have i2 := h b (by omega)
    have i3 := lb34 (tp (pl tp b))
    rw [s]
    omega
/-- what the post leaves alone -/
def PF (m : Nat) (h h' : HP) : Prop := Sm4 h h' ∧ (∀ b, (b < m ∨ m + 20 ≤ b) → hI h' b = hI h b ∧ hL h' b = hL h b) ∧ (∀ b, (b = m + 1 ∨ b = m + 18) → hI h' b = hI h b) ∧ (∀ k, (k = 33 ∨ k = 37 ∨ k = 38 ∨ k = 40) → hI h' m k = hI h m k) ∧ (∀ j, (j < 120 ∨ 360 ≤ j) → hI h' (m + 16) j = hI h (m + 16) j) ∧ (∀ j, (j < 38 ∨ 114 ≤ j) → hL h' (m + 17) j = hL h (m + 17) j)
theorem PF.tr {m : Nat} {h h1 h2 : HP} (a : PF m h h1) (b : PF m h1 h2) : PF m h h2 :=
  ⟨a.1.tr b.1, fun q hq => ⟨(b.2.1 q hq).1.trans (a.2.1 q hq).1, (b.2.1 q hq).2.trans (a.2.1 q hq).2⟩, fun q hq => (b.2.2.1 q hq).trans (a.2.2.1 q hq), fun k hk => (b.2.2.2.1 k hk).trans (a.2.2.2.1 k hk), fun j hj => (b.2.2.2.2.1 j hj).trans (a.2.2.2.2.1 j hj), fun j hj => (b.2.2.2.2.2 j hj).trans (a.2.2.2.2.2 j hj)⟩
theorem TF.pf {m : Nat} {h h' : HP} (f : TF m h h') : PF m h h' :=
  ⟨f.1, fun b hb => ⟨f.2.1 b (by omega) (by omega), by rw [f.2.2.2]⟩, fun b hb => f.2.1 b (by omega) (by omega), fun k hk => f.2.2.1 k (by omega), fun j _ => by rw [f.2.1 (m + 16) (by omega) (by omega)], fun j _ => by rw [f.2.2.2]⟩
theorem FQ.pf {m : Nat} {h h' : HP} (f : FQ m h h') : PF m h h' :=
  ⟨f.1, f.2.1, fun b hb => f.2.2.1 b (by omega), fun k hk => f.2.2.2.1 k (by omega) (by omega) (by omega) (by omega) (by omega), fun j hj => f.2.2.2.2.1 j (by omega), fun j hj => f.2.2.2.2.2 j (by omega)⟩
theorem PK.pf {m : Nat} {h h' : HP} (G : PK m 1 120 38 h h') : PF m h h' :=
  ⟨G.1, fun b hb => ⟨G.2.2.1 b (by omega) (by omega), G.2.2.2.2.1 b (by omega)⟩, fun b hb => G.2.2.1 b (by omega) (by omega), fun k hk => G.2.2.2.1 k (by omega) (by omega) (by omega), fun j hj => by rw [G.2.2.2.2.2.1, if_neg (by omega)], fun j hj => by rw [G.2.2.2.2.2.2, if_neg (by omega)]⟩
theorem PR.pf {m w p l : Nat} {h h' : HP} (G : PR m w p l h h') : PF m h h' := (PR.fq G).pf
theorem PF.fm {m : Nat} {h h' : HP} (f : PF m h h') : FMm m h h' := ⟨f.1, f.2.1⟩
theorem MI.pf {h h' : HP} {m tl len : Nat} {tp r : Nat → Nat} {S S' : VS} {H : HS} (C : MI h m S H tp tl r len) (gH : GH H) (f : PF m h h') (q : MO h' m S') (e : hI h' m 27 = 0) : MI h' m S' H tp 0 r len := by
  obtain ⟨-, ⟨⟨a1, a2⟩, a3, a4, a5⟩, -, R⟩ := C
  have R' := R
  obtain ⟨f1, f2, f3, f4, f5, f6⟩ := f
  have kp : ∀ w T, (w = 0 ∨ 3 ≤ w) → KP h m w T → Good T → KP h' m w T := fun w T hw p g => p.cong g (fun j hj => f5 _ (by omega)) (fun j hj => f6 _ (by omega))
  refine ⟨q, ⟨⟨?_, ?_⟩, fun hn => ?_, fun I hI => ⟨?_, ?_⟩, fun j hj => ?_⟩, ⟨by rw [e]; rfl, by omega, fun i hi => absurd hi (Nat.not_lt_zero i)⟩, ?_⟩
  · rw [f4 37 (by omega)]; exact a1
  · rw [f4 38 (by omega)]; exact a2
  · rw [f4 33 (by omega)]; exact a3 hn
  · rw [f4 33 (by omega)]; exact (a4 I hI).1
  · exact kp 0 I (Or.inl rfl) (a4 I hI).2 (gH.2.1 I hI).1
  · exact kp _ _ (Or.inr (by omega)) (a5 j hj) (gH.2.2 j hj).1
  · unfold MR at R' ⊢
    rw [f4 40 (by omega), f3 (m + 18) (by omega)]
    exact R'
theorem MO.tf {h h' : HP} {m : Nat} {S : VS} (a : MO h m S) (f : TF m h h') : MO h' m S := by
  obtain ⟨⟨k0, r1, r2, r3, r4, r5, r6, r7, r8, r9, r10⟩, l⟩ := a
  have e2 : ∀ b, m < b → b < m + 12 → hI h' b = hI h b := fun b h1 h2 => f.2.1 b (by omega) (by omega)
  have e1 : ∀ k, k < 27 → hI h' m k = hI h m k := fun k hk => f.2.2.1 k (Or.inl hk)
  have em : mt5 h' m = mt5 h m := by
    funext j
    unfold mt5
    rw [e2 (m + 5) (by omega) (by omega), e2 (m + 6) (by omega) (by omega), e2 (m + 7) (by omega) (by omega), e2 (m + 8) (by omega) (by omega), f.2.2.2]
  refine ⟨⟨f.mk k0, ?_⟩, ?_⟩
  · unfold RMr
    rw [e1 11 (by decide), e2 (m + 2) (by omega) (by omega), e2 (m + 3) (by omega) (by omega), e2 (m + 4) (by omega) (by omega), f.2.2.2, e1 12 (by decide), em, e1 13 (by decide), e1 14 (by decide), e1 15 (by decide), e1 16 (by decide)]
    exact ⟨r1, r2, r3, r4, r5, r6, r7, r8, r9, r10⟩
  · unfold FMl at l ⊢
    rw [e1 19 (by decide), e1 22 (by decide), e1 21 (by decide)]
    exact l
theorem ST.cong {h h' : HP} {m j i : Nat} {tp : Nat → Nat} (a : ST h m tp j i) (e : ∀ b, m + 13 ≤ b → b ≤ m + 15 → hI h' b = hI h b) : ST h' m tp j i := by
  unfold ST TLD
  rw [e (m + 13) (by omega) (by omega), e (m + 14) (by omega) (by omega), e (m + 15) (by omega) (by omega)]
  exact a
