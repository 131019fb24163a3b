-- needs: 16.num 17.small 18.bits 20.spec 21.kinds 22.rep 23.bag 24.bag2 25.get
-- the other side's village: its cells
def MK (h : HP) (m : Nat) : Prop :=
  (hkd h m = 16 ∧ hkd h (m + 1) = 2 ∧ hkd h (m + 2) = 2 ∧ hkd h (m + 3) = 2 ∧ hkd h (m + 4) = 2 ∧ hkd h (m + 5) = 2 ∧ hkd h (m + 6) = 2 ∧ hkd h (m + 7) = 2 ∧ hkd h (m + 8) = 2 ∧ hkd h (m + 9) = 3 ∧ hkd h (m + 10) = 3 ∧ hkd h (m + 11) = 3 ∧ hkd h (m + 12) = 2 ∧ hkd h (m + 13) = 2 ∧ hkd h (m + 14) = 2 ∧ hkd h (m + 15) = 2 ∧ hkd h (m + 16) = 2 ∧ hkd h (m + 17) = 3 ∧ hkd h (m + 18) = 2 ∧ hkd h (m + 19) = 2) ∧
  (hln h (m + 1) = 7 ∧ hln h (m + 2) = 6 ∧ hln h (m + 3) = 6 ∧ hln h (m + 4) = 6 ∧ hln h (m + 5) = 24 ∧ hln h (m + 6) = 24 ∧ hln h (m + 7) = 24 ∧ hln h (m + 8) = 24 ∧ hln h (m + 9) = 6 ∧ hln h (m + 10) = 6 ∧ hln h (m + 11) = 24 ∧ hln h (m + 12) = 96 ∧ hln h (m + 13) = 33 ∧ hln h (m + 14) = 33 ∧ hln h (m + 15) = 66 ∧ hln h (m + 16) = 1320 ∧ hln h (m + 17) = 418 ∧ hln h (m + 18) = 12 ∧ hln h (m + 19) = 8) ∧
  (hR h m 0 = some (m + 1) ∧ hR h m 1 = some (m + 2) ∧ hR h m 2 = some (m + 3) ∧ hR h m 3 = some (m + 4) ∧ hR h m 4 = some (m + 5) ∧ hR h m 5 = some (m + 6) ∧ hR h m 6 = some (m + 7) ∧ hR h m 7 = some (m + 8) ∧ hR h m 8 = some (m + 9) ∧ hR h m 9 = some (m + 10) ∧ hR h m 10 = some (m + 11) ∧ hR h m 23 = some (m + 12) ∧ hR h m 24 = some (m + 13) ∧ hR h m 25 = some (m + 14) ∧ hR h m 26 = some (m + 15) ∧ hR h m 31 = some (m + 16) ∧ hR h m 32 = some (m + 17) ∧ hR h m 39 = some (m + 18) ∧ hR h m 41 = some (m + 19))
def mt5 (h : HP) (m : Nat) (j : Nat) : R5 := (hI h (m + 5) j, hI h (m + 6) j, hI h (m + 7) j, hI h (m + 8) j, hL h (m + 11) j)
def RMr (h : HP) (m : Nat) (S : VS) : Prop := Rep (hI h m 11) (hI h (m + 2)) (hI h (m + 3)) (hI h (m + 4)) (hL h (m + 9)) (hL h (m + 10)) (hI h m 12) (mt5 h m) (hL h m 17) (hL h m 18) (hI h m 13) (hI h m 14) (hI h m 15) (hI h m 16) S
def RM (h : HP) (m : Nat) (S : VS) : Prop := MK h m ∧ RMr h m S
def FMl (h : HP) (m : Nat) (ink : Nat) (dm sh : Bool) : Prop := hI h m 19 = nI ink ∧ hI h m 22 = b01 dm ∧ hI h m 21 = b01 sh
/-- what days leave alone -/
def FD (m : Nat) (h h' : HP) : Prop := (∀ b, (b < m ∨ m + 12 ≤ b ∨ b = m + 1) → hI h' b = hI h b ∧ hL h' b = hL h b) ∧ (∀ k, 19 ≤ k → ¬ k = 20 → hI h' m k = hI h m k) ∧ hkd h' = hkd h ∧ hln h' = hln h ∧ hR h' = hR h ∧ hnx h' = hnx h
theorem FD.rf {m : Nat} {h : HP} : FD m h h := ⟨fun _ _ => ⟨rfl, rfl⟩, fun _ _ _ => rfl, rfl, rfl, rfl, rfl⟩
theorem FD.tr {m : Nat} {h h1 h2 : HP} (a : FD m h h1) (b : FD m h1 h2) : FD m h h2 := ⟨fun q hq => ⟨(b.1 q hq).1.trans (a.1 q hq).1, (b.1 q hq).2.trans (a.1 q hq).2⟩, fun k h1 h2 => (b.2.1 k h1 h2).trans (a.2.1 k h1 h2), b.2.2.1.trans a.2.2.1, b.2.2.2.1.trans a.2.2.2.1, b.2.2.2.2.1.trans a.2.2.2.2.1, b.2.2.2.2.2.trans a.2.2.2.2.2⟩
theorem FD.sI {m a k : Nat} {x : Int32} {h h1 : HP} (f : FD m h h1) (c : (a = m ∧ (k < 19 ∨ k = 20)) ∨ (m + 1 < a ∧ a < m + 12)) : FD m h (sI h1 a k x) := by
  refine ⟨fun q hq => ⟨?_, (f.1 q hq).2⟩, fun j h1 h2 => ?_, f.2.2⟩
  · rw [hI_sI_ne (by omega)]
    exact (f.1 q hq).1
  · rw [hI_sI, if_neg (by omega)]
    exact f.2.1 j h1 h2
theorem FD.sL {m a k : Nat} {x : Int64} {h h1 : HP} (f : FD m h h1) (c : a = m ∨ (m + 1 < a ∧ a < m + 12)) : FD m h (sL h1 a k x) := by
  refine ⟨fun q hq => ⟨(f.1 q hq).1, ?_⟩, fun j h1 h2 => f.2.1 j h1 h2, f.2.2⟩
  rw [hL_sL_ne (by omega)]
  exact (f.1 q hq).2
theorem FMl.kept {m ink : Nat} {dm sh : Bool} {h h' : HP} (a : FMl h m ink dm sh) (f : FD m h h') : FMl h' m ink dm sh := by
  unfold FMl
  rw [f.2.1 19 (by decide) (by decide), f.2.1 22 (by decide) (by decide), f.2.1 21 (by decide) (by decide)]
  exact a
theorem MK.kept {h h' : HP} {m : Nat} (a : MK h m) (k1 : hkd h' = hkd h) (k2 : hln h' = hln h) (k3 : hR h' = hR h) : MK h' m := by
  unfold MK
  rw [k1, k2, k3]
  exact a
theorem RM.k {h : HP} {m : Nat} {S : VS} (q : RM h m S) : MK h m := q.1
theorem RM.n {h : HP} {m : Nat} {S : VS} (q : RM h m S) : hI h m 11 = nI (vn S) := q.2.1
theorem RM.at {h : HP} {m : Nat} {S : VS} (q : RM h m S) {i : Nat} (hi : i < vn S) : hI h (m + 2) i = nI (vk S i) ∧ hI h (m + 3) i = nI (vf S i) ∧ hI h (m + 4) i = nI (vr S i) ∧ hL h (m + 9) i = vw S i ∧ hL h (m + 10) i = vx S i := q.2.2.1 i hi
theorem RM.m {h : HP} {m : Nat} {S : VS} (q : RM h m S) : hI h m 12 = nI (vb S).length := q.2.2.2.1
theorem RM.b {h : HP} {m : Nat} {S : VS} (q : RM h m S) : RL5 (mt5 h m) (vb S) := q.2.2.2.2.1
theorem RM.s {h : HP} {m : Nat} {S : VS} (q : RM h m S) : hL h m 17 = vs S := q.2.2.2.2.2.1
theorem RM.o {h : HP} {m : Nat} {S : VS} (q : RM h m S) : hL h m 18 = vo S := q.2.2.2.2.2.2.1
theorem RM.u {h : HP} {m : Nat} {S : VS} (q : RM h m S) : hI h m 13 = nI (vu S) := q.2.2.2.2.2.2.2.1
theorem RM.d {h : HP} {m : Nat} {S : VS} (q : RM h m S) : hI h m 14 = nI (vd S) := q.2.2.2.2.2.2.2.2.1
theorem RM.t {h : HP} {m : Nat} {S : VS} (q : RM h m S) : hI h m 15 = nI (vt S) := q.2.2.2.2.2.2.2.2.2.1
theorem RM.y {h : HP} {m : Nat} {S : VS} (q : RM h m S) : hI h m 16 = nI (vy S) := q.2.2.2.2.2.2.2.2.2.2
theorem RM.lt {h : HP} {m : Nat} {S : VS} (q : RM h m S) {j : Nat} {l : Ltr} (hj : (vb S)[j]? = some l) : hI h (m + 5) j = nI (lF l) ∧ hI h (m + 6) j = nI (lT l) ∧ hI h (m + 7) j = nI (lD l) ∧ hI h (m + 8) j = nI (lP l) ∧ hL h (m + 11) j = lC l := by
  have e := q.b j l hj
  unfold mt5 enc at e
  injection e with e1 e
  injection e with e2 e
  injection e with e3 e
  injection e with e4 e5
  exact ⟨e1, e2, e3, e4, e5⟩
theorem mt5_sI {h : HP} {m a k : Nat} {x : Int32} (hn : a < m + 5 ∨ m + 9 ≤ a) : mt5 (sI h a k x) m = mt5 h m := by
  funext j
  unfold mt5
  rw [hI_sI_ne (by omega), hI_sI_ne (by omega), hI_sI_ne (by omega), hI_sI_ne (by omega)]
  rfl
theorem mt5_sL {h : HP} {m a k : Nat} {x : Int64} (hn : ¬ m + 11 = a) : mt5 (sL h a k x) m = mt5 h m := by
  funext j
  unfold mt5
  rw [hL_sL_ne hn]
  rfl
theorem RM_y {h : HP} {m : Nat} {S : VS} (q : RM h m S) (a : Nat) : RM (sI h m 16 (nI a)) m (wY S a) := by
  obtain ⟨k, r1, r2, r3, r4, r5, r6, r7, r8, r9, r10⟩ := q
  refine ⟨k, ?_⟩
  unfold RMr
  rw [mt5_sI (by omega)]
  simp [hI_sI_ne, hI_sI_eq, hL_sI, hL_sL_ne, hL_sL_eq, hI_sL, up_at, up_ne]
  exact ⟨r1, r2, r3, r4, r5, r6, r7, r8, r9, rfl⟩
theorem RM_d {h : HP} {m : Nat} {S : VS} (q : RM h m S) (a : Nat) : RM (sI h m 14 (nI a)) m (wD S a) := by
  obtain ⟨k, r1, r2, r3, r4, r5, r6, r7, r8, r9, r10⟩ := q
  refine ⟨k, ?_⟩
  unfold RMr
  rw [mt5_sI (by omega)]
  simp [hI_sI_ne, hI_sI_eq, hL_sI, hL_sL_ne, hL_sL_eq, hI_sL, up_at, up_ne]
  exact ⟨r1, r2, r3, r4, r5, r6, r7, rfl, r9, r10⟩
theorem RM_t {h : HP} {m : Nat} {S : VS} (q : RM h m S) (a : Nat) : RM (sI h m 15 (nI a)) m (wT S a) := by
  obtain ⟨k, r1, r2, r3, r4, r5, r6, r7, r8, r9, r10⟩ := q
  refine ⟨k, ?_⟩
  unfold RMr
  rw [mt5_sI (by omega)]
  simp [hI_sI_ne, hI_sI_eq, hL_sI, hL_sL_ne, hL_sL_eq, hI_sL, up_at, up_ne]
  exact ⟨r1, r2, r3, r4, r5, r6, r7, r8, rfl, r10⟩
theorem RM_u {h : HP} {m : Nat} {S : VS} (q : RM h m S) (a : Nat) : RM (sI h m 13 (nI a)) m (wU S a) := by
  obtain ⟨k, r1, r2, r3, r4, r5, r6, r7, r8, r9, r10⟩ := q
  refine ⟨k, ?_⟩
  unfold RMr
  rw [mt5_sI (by omega)]
  simp [hI_sI_ne, hI_sI_eq, hL_sI, hL_sL_ne, hL_sL_eq, hI_sL, up_at, up_ne]
  exact ⟨r1, r2, r3, r4, r5, r6, rfl, r8, r9, r10⟩
theorem RM_s {h : HP} {m : Nat} {S : VS} (q : RM h m S) (a : Int64) : RM (sL h m 17 a) m (wS S a) := by
  obtain ⟨k, r1, r2, r3, r4, r5, r6, r7, r8, r9, r10⟩ := q
  refine ⟨k, ?_⟩
  unfold RMr
  rw [mt5_sL (by omega)]
  simp [hI_sI_ne, hI_sI_eq, hL_sI, hL_sL_ne, hL_sL_eq, hI_sL, up_at, up_ne]
  exact ⟨r1, r2, r3, r4, rfl, r6, r7, r8, r9, r10⟩
theorem RM_o {h : HP} {m : Nat} {S : VS} (q : RM h m S) (a : Int64) : RM (sL h m 18 a) m (wO S a) := by
  obtain ⟨k, r1, r2, r3, r4, r5, r6, r7, r8, r9, r10⟩ := q
  refine ⟨k, ?_⟩
  unfold RMr
  rw [mt5_sL (by omega)]
  simp [hI_sI_ne, hI_sI_eq, hL_sI, hL_sL_ne, hL_sL_eq, hI_sL, up_at, up_ne]
  exact ⟨r1, r2, r3, r4, r5, rfl, r7, r8, r9, r10⟩
theorem RM_w {h : HP} {m : Nat} {S : VS} (q : RM h m S) (i : Nat) (a : Int64) : RM (sL h (m + 9) i a) m (wW S i a) := by
  obtain ⟨k, r1, r2, r3, r4, r5, r6, r7, r8, r9, r10⟩ := q
  refine ⟨k, ?_⟩
  unfold RMr
  rw [mt5_sL (by omega)]
  simp [hI_sI_ne, hI_sI_eq, hL_sI, hL_sL_ne, hL_sL_eq, hI_sL]
  refine ⟨r1, fun j hj => ?_, r3, r4, r5, r6, r7, r8, r9, r10⟩
  obtain ⟨a1, a2, a3, a4, a5⟩ := r2 j hj
  refine ⟨a1, a2, a3, ?_, a5⟩
  show va_up _ i a j = va_up _ i a j
  unfold va_up
  split
  · rfl
  · assumption
theorem RM_x {h : HP} {m : Nat} {S : VS} (q : RM h m S) (i : Nat) (a : Int64) : RM (sL h (m + 10) i a) m (wX S i a) := by
  obtain ⟨k, r1, r2, r3, r4, r5, r6, r7, r8, r9, r10⟩ := q
  refine ⟨k, ?_⟩
  unfold RMr
  rw [mt5_sL (by omega)]
  simp [hI_sI_ne, hI_sI_eq, hL_sI, hL_sL_ne, hL_sL_eq, hI_sL]
  refine ⟨r1, fun j hj => ?_, r3, r4, r5, r6, r7, r8, r9, r10⟩
  obtain ⟨a1, a2, a3, a4, a5⟩ := r2 j hj
  refine ⟨a1, a2, a3, a4, ?_⟩
  show va_up _ i a j = va_up _ i a j
  unfold va_up
  split
  · rfl
  · assumption
theorem RM_r {h : HP} {m : Nat} {S : VS} (q : RM h m S) (i : Nat) (a : Nat) : RM (sI h (m + 4) i (nI a)) m (wR S i a) := by
  obtain ⟨k, r1, r2, r3, r4, r5, r6, r7, r8, r9, r10⟩ := q
  refine ⟨k, ?_⟩
  unfold RMr
  rw [mt5_sI (by omega)]
  simp [hI_sI_ne, hI_sI_eq, hL_sI, hL_sL_ne, hL_sL_eq, hI_sL]
  refine ⟨r1, fun j hj => ?_, r3, r4, r5, r6, r7, r8, r9, r10⟩
  obtain ⟨a1, a2, a3, a4, a5⟩ := r2 j hj
  refine ⟨a1, a2, ?_, a4, a5⟩
  show va_up _ i (nI a) j = nI (va_up _ i a j)
  unfold va_up
  split
  · rfl
  · assumption
theorem RM_i {h : HP} {m : Nat} {S : VS} (q : RM h m S) {k : Nat} {x : Int32} (hk : 19 ≤ k) : RM (sI h m k x) m S := by
  obtain ⟨k0, r1, r2, r3, r4, r5, r6, r7, r8, r9, r10⟩ := q
  refine ⟨k0, ?_⟩
  unfold RMr
  rw [mt5_sI (by omega), hI_sI_eq, up_ne (by omega), up_ne (by omega), up_ne (by omega), up_ne (by omega), up_ne (by omega), up_ne (by omega), hI_sI_ne (by omega), hI_sI_ne (by omega), hI_sI_ne (by omega)]
  exact ⟨r1, r2, r3, r4, r5, r6, r7, r8, r9, r10⟩
/-- other letters -/
theorem RM_b {h h' : HP} {m : Nat} {S : VS} (q : RM h m S) (e : ∀ b, (b < m + 5 ∨ m + 8 < b) → ¬ b = m → hI h' b = hI h b) (e2 : ∀ b, ¬ b = m + 11 → hL h' b = hL h b) (e3 : ∀ k, ¬ k = 12 → hI h' m k = hI h m k) (k1 : hkd h' = hkd h) (k2 : hln h' = hln h) (k3 : hR h' = hR h) {b : List Ltr} (hn : hI h' m 12 = nI b.length) (hb : RL5 (mt5 h' m) b) : RM h' m (wB S b) := by
  obtain ⟨k, r1, r2, r3, r4, r5, r6, r7, r8, r9, r10⟩ := q
  refine ⟨k.kept k1 k2 k3, ?_⟩
  unfold RMr
  rw [e3 11 (by decide), e (m + 2) (by omega) (by omega), e (m + 3) (by omega) (by omega), e (m + 4) (by omega) (by omega), e2 (m + 9) (by omega), e2 (m + 10) (by omega), e2 m (by omega), e3 13 (by decide), e3 14 (by decide), e3 15 (by decide), e3 16 (by decide)]
  exact ⟨r1, r2, hn, hb, r5, r6, r7, r8, r9, r10⟩
