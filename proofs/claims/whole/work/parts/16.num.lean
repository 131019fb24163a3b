-- needs:
-- rows on the heap's writes, so stated that a simp step leaves a step of proof
theorem z_hkd_sI (h : HP) (a k : Nat) (x : Int32) : hkd (sI h a k x) = hkd h := Eq.trans (hkd_sI ..) rfl
theorem z_hln_sI (h : HP) (a k : Nat) (x : Int32) : hln (sI h a k x) = hln h := Eq.trans (hln_sI ..) rfl
theorem z_hL_sI (h : HP) (a k : Nat) (x : Int32) : hL (sI h a k x) = hL h := Eq.trans (hL_sI ..) rfl
theorem z_hR_sI (h : HP) (a k : Nat) (x : Int32) : hR (sI h a k x) = hR h := Eq.trans (hR_sI ..) rfl
theorem z_hnx_sI (h : HP) (a k : Nat) (x : Int32) : hnx (sI h a k x) = hnx h := Eq.trans (hnx_sI ..) rfl
theorem z_hkd_sL (h : HP) (a k : Nat) (x : Int64) : hkd (sL h a k x) = hkd h := Eq.trans (hkd_sL ..) rfl
theorem z_hln_sL (h : HP) (a k : Nat) (x : Int64) : hln (sL h a k x) = hln h := Eq.trans (hln_sL ..) rfl
theorem z_hI_sL (h : HP) (a k : Nat) (x : Int64) : hI (sL h a k x) = hI h := Eq.trans (hI_sL ..) rfl
theorem z_hR_sL (h : HP) (a k : Nat) (x : Int64) : hR (sL h a k x) = hR h := Eq.trans (hR_sL ..) rfl
theorem z_hnx_sL (h : HP) (a k : Nat) (x : Int64) : hnx (sL h a k x) = hnx h := Eq.trans (hnx_sL ..) rfl
theorem z_hkd_sR (h : HP) (a k : Nat) (x : Option Nat) : hkd (sR h a k x) = hkd h := Eq.trans (hkd_sR ..) rfl
theorem z_hln_sR (h : HP) (a k : Nat) (x : Option Nat) : hln (sR h a k x) = hln h := Eq.trans (hln_sR ..) rfl
theorem z_hI_sR (h : HP) (a k : Nat) (x : Option Nat) : hI (sR h a k x) = hI h := Eq.trans (hI_sR ..) rfl
theorem z_hL_sR (h : HP) (a k : Nat) (x : Option Nat) : hL (sR h a k x) = hL h := Eq.trans (hL_sR ..) rfl
theorem z_hnx_sR (h : HP) (a k : Nat) (x : Option Nat) : hnx (sR h a k x) = hnx h := Eq.trans (hnx_sR ..) rfl
theorem z_hkd_cI (h : HP) (a b sp dp n : Nat) : hkd (cI h a b sp dp n) = hkd h := Eq.trans (hkd_cI ..) rfl
theorem z_hln_cI (h : HP) (a b sp dp n : Nat) : hln (cI h a b sp dp n) = hln h := Eq.trans (hln_cI ..) rfl
theorem z_hL_cI (h : HP) (a b sp dp n : Nat) : hL (cI h a b sp dp n) = hL h := Eq.trans (hL_cI ..) rfl
theorem z_hR_cI (h : HP) (a b sp dp n : Nat) : hR (cI h a b sp dp n) = hR h := Eq.trans (hR_cI ..) rfl
theorem z_hnx_cI (h : HP) (a b sp dp n : Nat) : hnx (cI h a b sp dp n) = hnx h := Eq.trans (hnx_cI ..) rfl
theorem z_hkd_cLg (h : HP) (a b sp dp n : Nat) : hkd (cLg h a b sp dp n) = hkd h := Eq.trans (hkd_cLg ..) rfl
theorem z_hln_cLg (h : HP) (a b sp dp n : Nat) : hln (cLg h a b sp dp n) = hln h := Eq.trans (hln_cLg ..) rfl
theorem z_hI_cLg (h : HP) (a b sp dp n : Nat) : hI (cLg h a b sp dp n) = hI h := Eq.trans (hI_cLg ..) rfl
theorem z_hR_cLg (h : HP) (a b sp dp n : Nat) : hR (cLg h a b sp dp n) = hR h := Eq.trans (hR_cLg ..) rfl
theorem z_hnx_cLg (h : HP) (a b sp dp n : Nat) : hnx (cLg h a b sp dp n) = hnx h := Eq.trans (hnx_cLg ..) rfl
theorem ix_nI {n : Nat} (h : n < 2 ^ 31) : ix (nI n) = n := nI_clamp h
def hb (x : Int64) (k : Nat) : Bool := x.toBitVec.getLsbD k
def bL (k : Nat) : Int64 := Int64.ofBitVec (BitVec.twoPow 64 k)
theorem hb_and (x y : Int64) (k : Nat) : hb (x &&& y) k = (hb x k && hb y k) := by simp [hb]
theorem hb_or (x y : Int64) (k : Nat) : hb (x ||| y) k = (hb x k || hb y k) := by simp [hb]
theorem hb_xor (x y : Int64) (k : Nat) : hb (x ^^^ y) k = (hb x k ^^ hb y k) := by simp [hb]
theorem hb_0 (k : Nat) : hb 0 k = false := by simp [hb]
theorem hb_m1 {k : Nat} (h : k < 64) : hb (-1) k = true := by
  have e : ((-1 : Int64)).toBitVec = BitVec.allOnes 64 := by decide
  unfold hb
  rw [e, BitVec.getLsbD_allOnes]
  exact decide_eq_true h
theorem hb_big {x : Int64} {k : Nat} (h : 64 ≤ k) : hb x k = false := BitVec.getLsbD_of_ge _ _ h
theorem hb_ext {x y : Int64} (h : ∀ k, k < 64 → hb x k = hb y k) : x = y := by
  apply Int64.toBitVec_inj.mp
  apply BitVec.eq_of_getLsbD_eq
  intro i hi
  exact h i hi
theorem hb_bL {k : Nat} (j : Nat) (h : k < 64) : hb (bL k) j = decide (j = k) := by
  unfold hb bL
  rw [Int64.toBitVec_ofBitVec, BitVec.getLsbD_twoPow]
  by_cases e : j = k
  · subst e; simp [h]
  · simp [e, Ne.symm e]
theorem shl_bL : ∀ k, k < 64 → (1 : Int64) <<< ((nI k).toInt64 &&& 63) = bL k := by decide +kernel
theorem lgc_0 (a b : Int64) : lg_cmp a b = 0 ↔ a = b := by
  unfold lg_cmp
  by_cases h1 : a > b
  · rw [if_pos h1]
    constructor
    · intro h; exact absurd h (by decide)
    · intro h; subst h; exact absurd h1 (Int64.lt_irrefl)
  · rw [if_neg h1]
    by_cases h2 : a = b
    · simp [h2]
    · rw [if_neg h2]
      constructor
      · intro h; exact absurd h (by decide)
      · intro h; exact absurd h h2
theorem and_bL {x : Int64} {k : Nat} (h : k < 64) : x &&& bL k = 0 ↔ hb x k = false := by
  constructor
  · intro e
    have h1 : hb (x &&& bL k) k = false := by rw [e, hb_0]
    rw [hb_and, hb_bL k h] at h1
    simpa using h1
  · intro e
    apply hb_ext
    intro j hj
    rw [hb_and, hb_bL j h, hb_0]
    by_cases hjk : j = k
    · subst hjk; simp [e]
    · simp [hjk]
/-- the one side's question -/
theorem q_class {x : Int64} {k : Nat} (h : k < 64) : lg_cmp (x &&& (1 : Int64) <<< ((nI k).toInt64 &&& 63)) 0 = 0 ↔ hb x k = false := by
  rw [lgc_0, shl_bL k h, and_bL h]
theorem shr_amt : ∀ k, k < 64 → (((nI k).toInt64 &&& 63).toBitVec.smod 64).toNat = k := by decide +kernel
theorem hb_shr {x : Int64} {k : Nat} (h : k < 64) : hb (x >>> ((nI k).toInt64 &&& 63)) 0 = hb x k := by
  unfold hb
  rw [Int64.toBitVec_shiftRight]
  unfold BitVec.sshiftRight'
  rw [shr_amt k h, BitVec.getLsbD_sshiftRight]
  simp [h]
theorem and_1 (x : Int64) : x &&& 1 = 1 ↔ hb x 0 = true := by
  have e1 : (1 : Int64) = bL 0 := by decide
  constructor
  · intro e
    have h1 : hb (x &&& 1) 0 = true := by rw [e, e1, hb_bL 0 (by decide)]; rfl
    rw [hb_and] at h1
    simp at h1
    exact h1.1
  · intro e
    apply hb_ext
    intro j hj
    rw [hb_and, e1, hb_bL j (by decide)]
    by_cases hj0 : j = 0
    · subst hj0; simp [e]
    · simp [hj0]
/-- the other side's -/
theorem q_model {x : Int64} {k : Nat} (h : k < 64) : lg_cmp (x >>> ((nI k).toInt64 &&& 63) &&& 1) 1 = 0 ↔ hb x k = true := by
  rw [lgc_0, and_1, hb_shr h]
-- counts, least, greatest
def nbU : Nat → Int64 → Nat
  | 0, _ => 0
  | n + 1, x => nbU n x + (if hb x n = true then 1 else 0)
theorem nbU_succ (n : Nat) (x : Int64) : nbU (n + 1) x = nbU n x + (if hb x n = true then 1 else 0) := rfl
def nb (x : Int64) : Nat := nbU 40 x
theorem nbU_le : ∀ (n : Nat) (x : Int64), nbU n x ≤ n
  | 0, x => Nat.le_refl 0
  | n + 1, x => by
    have := nbU_le n x
    unfold nbU
    split <;> omega
theorem nb_le (x : Int64) : nb x ≤ 40 := nbU_le 40 x
def lsA (x : Int64) : Nat → Nat → Option Nat
  | 0, _ => none
  | n + 1, f => if hb x f = true then some f else lsA x n (f + 1)
def lst (x : Int64) (f : Nat) : Option Nat := lsA x (40 - f) f
def grA (x : Int64) : Nat → Option Nat
  | 0 => none
  | n + 1 => if hb x n = true then some n else grA x n
def grt (x : Int64) : Option Nat := grA x 40
def oN (o : Option Nat) : Int32 := match o with
  | none => -9
  | some k => nI k
theorem lsA_some {x : Int64} : ∀ (n f k : Nat), lsA x n f = some k → (f ≤ k ∧ k < f + n ∧ hb x k = true ∧ ∀ j, f ≤ j → j < k → hb x j = false)
  | 0, f, k, h => by simp [lsA] at h
  | n + 1, f, k, h => by
    unfold lsA at h
    by_cases hx : hb x f = true
    · rw [if_pos hx] at h
      have e : f = k := Option.some.inj h
      subst e
      exact ⟨Nat.le_refl _, by omega, hx, fun j h1 h2 => by omega⟩
    · rw [if_neg hx] at h
      obtain ⟨h1, h2, h3, h4⟩ := lsA_some n (f + 1) k h
      refine ⟨by omega, by omega, h3, fun j h5 h6 => ?_⟩
      by_cases hj : j = f
      · subst hj; simpa using hx
      · exact h4 j (by omega) h6
theorem lsA_none {x : Int64} : ∀ (n f : Nat), lsA x n f = none → ∀ j, f ≤ j → j < f + n → hb x j = false
  | 0, f, h, j, h1, h2 => by omega
  | n + 1, f, h, j, h1, h2 => by
    unfold lsA at h
    by_cases hx : hb x f = true
    · rw [if_pos hx] at h; cases h
    · rw [if_neg hx] at h
      by_cases hj : j = f
      · subst hj; simpa using hx
      · exact lsA_none n (f + 1) h j (by omega) (by omega)
theorem grA_some {x : Int64} : ∀ (n k : Nat), grA x n = some k → (k < n ∧ hb x k = true ∧ ∀ j, k < j → j < n → hb x j = false)
  | 0, k, h => by simp [grA] at h
  | n + 1, k, h => by
    unfold grA at h
    by_cases hx : hb x n = true
    · rw [if_pos hx] at h
      have e : n = k := Option.some.inj h
      subst e
      exact ⟨by omega, hx, fun j h1 h2 => by omega⟩
    · rw [if_neg hx] at h
      obtain ⟨h1, h2, h3⟩ := grA_some n k h
      refine ⟨by omega, h2, fun j h4 h5 => ?_⟩
      by_cases hj : j = n
      · subst hj; simpa using hx
      · exact h3 j h4 (by omega)
theorem grA_none {x : Int64} : ∀ (n : Nat), grA x n = none → ∀ j, j < n → hb x j = false
  | 0, h, j, h1 => by omega
  | n + 1, h, j, h1 => by
    unfold grA at h
    by_cases hx : hb x n = true
    · rw [if_pos hx] at h; cases h
    · rw [if_neg hx] at h
      by_cases hj : j = n
      · subst hj; simpa using hx
      · exact grA_none n h j (by omega)
/-- no bit from 40 on -/
def sm (x : Int64) : Prop := ∀ k, 40 ≤ k → hb x k = false
theorem sm_0 : sm 0 := fun k _ => hb_0 k
theorem sm_and {x y : Int64} (h : sm x) : sm (x &&& y) := fun k hk => by rw [hb_and, h k hk]; rfl
theorem sm_or {x y : Int64} (h : sm x) (h2 : sm y) : sm (x ||| y) := fun k hk => by rw [hb_or, h k hk, h2 k hk]; rfl
theorem sm_xor {x y : Int64} (h : sm x) (h2 : sm y) : sm (x ^^^ y) := fun k hk => by rw [hb_xor, h k hk, h2 k hk]; rfl
theorem sm_bL {k : Nat} (h : k < 40) : sm (bL k) := fun j hj => by
  rw [hb_bL j (by omega)]
  simp
  omega
theorem lst_none_0 {x : Int64} (hx : sm x) (h : lst x 0 = none) : x = 0 := by
  apply hb_ext
  intro k hk
  rw [hb_0]
  by_cases h40 : k < 40
  · exact lsA_none 40 0 h k (Nat.zero_le _) (by omega)
  · exact hx k (by omega)
theorem grt_none_0 {x : Int64} (hx : sm x) (h : grt x = none) : x = 0 := by
  apply hb_ext
  intro k hk
  rw [hb_0]
  by_cases h40 : k < 40
  · exact grA_none 40 h k h40
  · exact hx k (by omega)
