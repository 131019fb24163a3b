-- needs: 16.num 17.small
theorem hb_neg {x : Int64} {k : Nat} (hk : k < 64) : hb (-x) k = (hb x k ^^ decide (∃ j, j < k ∧ hb x j = true)) := by
  unfold hb
  rw [Int64.toBitVec_neg, BitVec.getLsbD_neg]
  simp [hk]
theorem hb_pred {x : Int64} {k : Nat} (hk : k < 64) : hb (x - 1) k = !hb (-x) k := by
  have e : (-x).toBitVec = ~~~((x - 1).toBitVec) := by
    have e1 : (x - 1).toBitVec = x.toBitVec - 1#64 := rfl
    rw [Int64.toBitVec_neg, e1, BitVec.not_sub_one_eq_not_add_one]
    rw [BitVec.neg_eq_not_add]
  unfold hb
  rw [e]
  simp [hk]
theorem lst_0 {x : Int64} {k : Nat} (h : lst x 0 = some k) : k < 40 ∧ hb x k = true ∧ ∀ j, j < k → hb x j = false := by
  obtain ⟨h1, h2, h3, h4⟩ := lsA_some 40 0 k h
  exact ⟨by omega, h3, fun j hj => h4 j (Nat.zero_le _) hj⟩
theorem low_ex {x : Int64} {k : Nat} (h : lst x 0 = some k) (j : Nat) : (∃ i, i < j ∧ hb x i = true) ↔ k < j := by
  obtain ⟨h1, h2, h3⟩ := lst_0 h
  constructor
  · rintro ⟨i, hi, hx⟩
    by_cases z : i < k
    · rw [h3 i z] at hx; cases hx
    · omega
  · intro hj
    exact ⟨k, hj, h2⟩
theorem hb_negL {x : Int64} {k j : Nat} (h : lst x 0 = some k) (hj : j < 64) : hb (-x) j = (hb x j ^^ decide (k < j)) := by
  rw [hb_neg hj]
  congr 1
  by_cases e : k < j
  · rw [decide_eq_true e]; exact decide_eq_true ((low_ex h j).mpr e)
  · rw [decide_eq_false e]; exact decide_eq_false (fun q => e ((low_ex h j).mp q))
/-- the least alone -/
theorem and_neg {x : Int64} {k : Nat} (h : lst x 0 = some k) : x &&& -x = bL k := by
  obtain ⟨h1, h2, h3⟩ := lst_0 h
  apply hb_ext
  intro j hj
  rw [hb_and, hb_negL h hj, hb_bL j (by omega)]
  by_cases e : j = k
  · subst e; simp [h2]
  · by_cases e2 : j < k
    · rw [h3 j e2]; simp [e]
    · have : k < j := by omega
      simp [e, this]
/-- all but the least -/
theorem and_pred {x : Int64} {k : Nat} (h : lst x 0 = some k) : x &&& (x - 1) = x &&& (bL k ^^^ -1) := by
  obtain ⟨h1, h2, h3⟩ := lst_0 h
  apply hb_ext
  intro j hj
  rw [hb_and, hb_pred hj, hb_negL h hj, hb_and, hb_xor, hb_m1 hj, hb_bL j (by omega)]
  by_cases e : j = k
  · subst e; simp [h2]
  · by_cases e2 : j < k
    · rw [h3 j e2]; simp
    · have : k < j := by omega
      simp [e, this]
theorem lst_some_ne {x : Int64} {k : Nat} (h : lst x 0 = some k) : ¬ x = 0 := by
  intro e
  have := (lst_0 h).2.1
  rw [e, hb_0] at this
  cases this
theorem low_of (x : Int64) (hx : sm x) : x &&& -x = (match lst x 0 with | none => 0 | some k => bL k) := by
  cases h : lst x 0 with
  | none =>
    have := lst_none_0 hx h
    subst this
    decide
  | some k => exact and_neg h
/-- how many: the machine's own way -/
def tn (x : Int64) : Nat := x.toBitVec.toNat
def shu (x : Int64) (k : Int32) : Int64 := (x.toUInt64 >>> ((Int32.toInt64 k).toUInt64 &&& Int64.toUInt64 63)).toInt64
def bc1 (x : Int64) : Int64 := x - (shu x 1 &&& 6148914691236517205)
def bc2 (x : Int64) : Int64 := (x &&& 3689348814741910323) + (shu x 2 &&& 3689348814741910323)
def bc3 (x : Int64) : Int64 := (x + shu x 4) &&& 1085102592571150095
def bc4 (x : Int64) : Int64 := x + shu x 8
def bc5 (x : Int64) : Int64 := x + shu x 16
def bc6 (x : Int64) : Int64 := x + shu x 32
def bcF (x : Int64) : Int32 := (bc6 (bc5 (bc4 (bc3 (bc2 (bc1 x)))))).toInt32 &&& 127
theorem tn_shu {x : Int64} {k : Int32} {j : Nat} (e : (((Int32.toInt64 k).toUInt64 &&& Int64.toUInt64 63)).toNat % 64 = j) : tn (shu x k) = tn x / 2 ^ j := by
  have h : tn (shu x k) = (x.toUInt64 >>> ((Int32.toInt64 k).toUInt64 &&& Int64.toUInt64 63)).toNat := rfl
  rw [h, UInt64.toNat_shiftRight, e, Nat.shiftRight_eq_div_pow]
  rfl
theorem tn_add {x y : Int64} (h : tn x + tn y < 2 ^ 64) : tn (x + y) = tn x + tn y := by
  have e : tn (x + y) = (tn x + tn y) % 2 ^ 64 := BitVec.toNat_add x.toBitVec y.toBitVec
  rw [e, Nat.mod_eq_of_lt h]
theorem tn_lt (x : Int64) : tn x < 2 ^ 64 := x.toBitVec.isLt
theorem tn_sub {x y : Int64} (h : tn y ≤ tn x) : tn (x - y) = tn x - tn y := by
  have e : tn (x - y) = (2 ^ 64 - tn y + tn x) % 2 ^ 64 := BitVec.toNat_sub x.toBitVec y.toBitVec
  have := tn_lt x
  rw [e]
  omega
theorem tn_and {x y : Int64} : tn (x &&& y) = tn x &&& tn y := BitVec.toNat_and x.toBitVec y.toBitVec
theorem land8 (a b : Nat) : a &&& b = 256 * (a / 256 &&& b / 256) + (a % 256 &&& b % 256) := by
  have h1 : (a &&& b) / 2 ^ 8 = a / 2 ^ 8 &&& b / 2 ^ 8 := Nat.and_div_two_pow
  have h2 : (a &&& b) % 2 ^ 8 = a % 2 ^ 8 &&& b % 2 ^ 8 := Nat.and_mod_two_pow
  have h3 := Nat.div_add_mod (a &&& b) 256
  rw [show (2 : Nat) ^ 8 = 256 from rfl] at h1 h2
  rw [← h1, ← h2]
  omega
/-- five bytes -/
def by5 (a b c d e : Nat) : Nat := a + 256 * b + 65536 * c + 16777216 * d + 4294967296 * e
theorem by5_land {a b c d e m k : Nat} (ha : a < 256) (hb : b < 256) (hc : c < 256) (hd : d < 256) (he : e < 256) (h1 : m % 256 = k) (h2 : m / 256 % 256 = k) (h3 : m / 256 / 256 % 256 = k) (h4 : m / 256 / 256 / 256 % 256 = k) (h5 : m / 256 / 256 / 256 / 256 % 256 = k) :
    by5 a b c d e &&& m = by5 (a &&& k) (b &&& k) (c &&& k) (d &&& k) (e &&& k) := by
  unfold by5
  have z1 : (a + 256 * b + 65536 * c + 16777216 * d + 4294967296 * e) / 256 = b + 256 * c + 65536 * d + 16777216 * e := by omega
  have z2 : (b + 256 * c + 65536 * d + 16777216 * e) / 256 = c + 256 * d + 65536 * e := by omega
  have z3 : (c + 256 * d + 65536 * e) / 256 = d + 256 * e := by omega
  have z4 : (d + 256 * e) / 256 = e := by omega
  have z5 : e / 256 = 0 := by omega
  have y1 : (a + 256 * b + 65536 * c + 16777216 * d + 4294967296 * e) % 256 = a := by omega
  have y2 : (b + 256 * c + 65536 * d + 16777216 * e) % 256 = b := by omega
  have y3 : (c + 256 * d + 65536 * e) % 256 = c := by omega
  have y4 : (d + 256 * e) % 256 = d := by omega
  have y5 : e % 256 = e := by omega
  rw [land8, z1, y1, h1, land8 (b + 256 * c + 65536 * d + 16777216 * e), z2, y2, h2, land8 (c + 256 * d + 65536 * e), z3, y3, h3, land8 (d + 256 * e), z4, y4, h4, land8 e, z5, y5, h5, Nat.zero_and]
  omega
def c1b (b : Nat) : Nat := b - (b / 2 &&& 85)
def c2b (b : Nat) : Nat := (b &&& 51) + (b / 4 &&& 51)
def c3b (b : Nat) : Nat := (b + b / 16) % 16
def pcb (b : Nat) : Nat := b % 2 + b / 2 % 2 + b / 4 % 2 + b / 8 % 2 + b / 16 % 2 + b / 32 % 2 + b / 64 % 2 + b / 128 % 2
theorem byA : ∀ b, b < 256 → ∀ e, e < 2 → (b / 2 + 128 * e) &&& 85 = b / 2 &&& 85 := by decide +kernel
theorem byB : ∀ b, b < 256 → (b / 2 &&& 85) ≤ b := by decide +kernel
theorem byC : ∀ b, b < 256 → ∀ e, e < 4 → (b / 4 + 64 * e) &&& 51 = b / 4 &&& 51 := by decide +kernel
theorem byD : ∀ b, b < 256 → c2b (c1b b) < 69 ∧ c2b (c1b b) % 16 < 5 ∧ c1b b < 256 := by decide +kernel
theorem byE : ∀ b, b < 69 → b % 16 < 5 → ∀ e, e < 5 → (b + b / 16 + 16 * e) &&& 15 = c3b b := by decide +kernel
theorem byF : ∀ b, b < 256 → c3b (c2b (c1b b)) = pcb b := by decide +kernel
theorem byG : ∀ b, b < 256 → pcb b ≤ 8 := by decide +kernel
theorem by5_bc1 {x : Int64} {a b c d e : Nat} (ha : a < 256) (hb : b < 256) (hc : c < 256) (hd : d < 256) (he : e < 256) (h : tn x = by5 a b c d e) : tn (bc1 x) = by5 (c1b a) (c1b b) (c1b c) (c1b d) (c1b e) := by
  have s : tn (shu x 1 &&& 6148914691236517205) = by5 (a / 2 &&& 85) (b / 2 &&& 85) (c / 2 &&& 85) (d / 2 &&& 85) (e / 2 &&& 85) := by
    rw [tn_and, tn_shu (j := 1) (by decide), h]
    have e1 : by5 a b c d e / 2 ^ 1 = by5 (a / 2 + 128 * (b % 2)) (b / 2 + 128 * (c % 2)) (c / 2 + 128 * (d % 2)) (d / 2 + 128 * (e % 2)) (e / 2 + 128 * 0) := by unfold by5; omega
    rw [e1, by5_land (k := 85) (by omega) (by omega) (by omega) (by omega) (by omega) (by decide) (by decide) (by decide) (by decide) (by decide), byA a ha _ (by omega), byA b hb _ (by omega), byA c hc _ (by omega), byA d hd _ (by omega), byA e he _ (by omega)]
  have b1 := byB a ha
  have b2 := byB b hb
  have b3 := byB c hc
  have b4 := byB d hd
  have b5 := byB e he
  unfold bc1
  rw [tn_sub (by rw [s, h]; unfold by5; omega), s, h]
  unfold by5 c1b
  omega
theorem and_le51 {b : Nat} : b &&& 51 ≤ 51 := Nat.and_le_right
theorem by5_bc2 {x : Int64} {a b c d e : Nat} (ha : a < 256) (hb : b < 256) (hc : c < 256) (hd : d < 256) (he : e < 256) (h : tn x = by5 a b c d e) : tn (bc2 x) = by5 (c2b a) (c2b b) (c2b c) (c2b d) (c2b e) := by
  have s : tn (shu x 2 &&& 3689348814741910323) = by5 (a / 4 &&& 51) (b / 4 &&& 51) (c / 4 &&& 51) (d / 4 &&& 51) (e / 4 &&& 51) := by
    rw [tn_and, tn_shu (j := 2) (by decide), h]
    have e1 : by5 a b c d e / 2 ^ 2 = by5 (a / 4 + 64 * (b % 4)) (b / 4 + 64 * (c % 4)) (c / 4 + 64 * (d % 4)) (d / 4 + 64 * (e % 4)) (e / 4 + 64 * 0) := by unfold by5; omega
    rw [e1, by5_land (k := 51) (by omega) (by omega) (by omega) (by omega) (by omega) (by decide) (by decide) (by decide) (by decide) (by decide), byC a ha _ (by omega), byC b hb _ (by omega), byC c hc _ (by omega), byC d hd _ (by omega), byC e he _ (by omega)]
  have s2 : tn (x &&& 3689348814741910323) = by5 (a &&& 51) (b &&& 51) (c &&& 51) (d &&& 51) (e &&& 51) := by
    rw [tn_and, h, by5_land (k := 51) ha hb hc hd he (by decide) (by decide) (by decide) (by decide) (by decide)]
  have m1 := @and_le51 a
  have m2 := @and_le51 b
  have m3 := @and_le51 c
  have m4 := @and_le51 d
  have m5 := @and_le51 e
  have m6 := @and_le51 (a / 4)
  have m7 := @and_le51 (b / 4)
  have m8 := @and_le51 (c / 4)
  have m9 := @and_le51 (d / 4)
  have m0 := @and_le51 (e / 4)
  unfold bc2
  rw [tn_add (by rw [s, s2]; unfold by5; omega), s, s2]
  unfold by5 c2b
  omega
theorem by5_bc3 {x : Int64} {a b c d e : Nat} (ha : a < 69 ∧ a % 16 < 5) (hb : b < 69 ∧ b % 16 < 5) (hc : c < 69 ∧ c % 16 < 5) (hd : d < 69 ∧ d % 16 < 5) (he : e < 69 ∧ e % 16 < 5) (h : tn x = by5 a b c d e) : tn (bc3 x) = by5 (c3b a) (c3b b) (c3b c) (c3b d) (c3b e) := by
  have s : tn (shu x 4) = by5 (a / 16 + 16 * (b % 16)) (b / 16 + 16 * (c % 16)) (c / 16 + 16 * (d % 16)) (d / 16 + 16 * (e % 16)) (e / 16 + 16 * 0) := by
    rw [tn_shu (j := 4) (by decide), h]
    unfold by5
    omega
  have s2 : tn (x + shu x 4) = by5 (a + a / 16 + 16 * (b % 16)) (b + b / 16 + 16 * (c % 16)) (c + c / 16 + 16 * (d % 16)) (d + d / 16 + 16 * (e % 16)) (e + e / 16 + 16 * 0) := by
    rw [tn_add (by rw [s, h]; unfold by5; omega), s, h]
    unfold by5
    omega
  unfold bc3
  rw [tn_and, s2, by5_land (k := 15) (by omega) (by omega) (by omega) (by omega) (by omega) (by decide) (by decide) (by decide) (by decide) (by decide), byE a ha.1 ha.2 _ (by omega), byE b hb.1 hb.2 _ (by omega), byE c hc.1 hc.2 _ (by omega), byE d hd.1 hd.2 _ (by omega), byE e he.1 he.2 _ (by omega)]
theorem hb_tn (x : Int64) (k : Nat) : (if hb x k = true then 1 else 0) = tn x / 2 ^ k % 2 := by
  have e : hb x k = decide (tn x / 2 ^ k % 2 = 1) := Nat.testBit_eq_decide_div_mod_eq
  rw [e]
  by_cases z : tn x / 2 ^ k % 2 = 1
  · rw [z]; rfl
  · rw [if_neg (fun q => z (of_decide_eq_true q))]
    omega
theorem nb8 (x : Int64) (n : Nat) : nbU (n + 8) x = nbU n x + pcb (tn x / 2 ^ n % 256) := by
  have e : ∀ j, tn x / 2 ^ (n + j) = tn x / 2 ^ n / 2 ^ j := fun j => by rw [Nat.div_div_eq_div_mul, Nat.pow_add]
  have e0 : nbU (n + 8) x = nbU n x + tn x / 2 ^ n % 2 + tn x / 2 ^ (n + 1) % 2 + tn x / 2 ^ (n + 2) % 2 + tn x / 2 ^ (n + 3) % 2 + tn x / 2 ^ (n + 4) % 2 + tn x / 2 ^ (n + 5) % 2 + tn x / 2 ^ (n + 6) % 2 + tn x / 2 ^ (n + 7) % 2 := by
    simp only [← hb_tn]
    rfl
  rw [e0, e 1, e 2, e 3, e 4, e 5, e 6, e 7]
  unfold pcb
  generalize tn x / 2 ^ n = z
  omega
theorem sm_tn {x : Int64} (hx : sm x) : tn x < 2 ^ 40 := by
  apply Nat.lt_pow_two_of_testBit
  intro i hi
  exact hx i hi
theorem low7 {z : Int64} {n : Nat} (h7 : tn z % 128 = n) : z.toInt32 &&& 127 = nI n := by
  apply Int32.toBitVec_inj.mp
  apply BitVec.eq_of_toNat_eq
  have e : (z.toInt32 &&& 127).toBitVec = z.toBitVec.setWidth 32 &&& 127#32 := by
    rw [Int32.toBitVec_and, Int64.toBitVec_toInt32, BitVec.signExtend_eq_setWidth_of_le _ (by decide)]
    rfl
  rw [e, BitVec.toNat_and, BitVec.toNat_setWidth]
  have e2 : (nI n).toBitVec.toNat = n % 2 ^ 32 := rfl
  rw [e2]
  have e3 : (127#32).toNat = 2 ^ 7 - 1 := rfl
  have e4 : z.toBitVec.toNat = tn z := rfl
  rw [e3, Nat.and_two_pow_sub_one_eq_mod, e4]
  omega
theorem bcF_eq {x : Int64} (hx : sm x) : bcF x = nI (nb x) := by
  have hX := sm_tn hx
  have e0 : tn x = by5 (tn x % 256) (tn x / 256 % 256) (tn x / 65536 % 256) (tn x / 16777216 % 256) (tn x / 4294967296 % 256) := by unfold by5; omega
  have en : nb x = pcb (tn x % 256) + pcb (tn x / 256 % 256) + pcb (tn x / 65536 % 256) + pcb (tn x / 16777216 % 256) + pcb (tn x / 4294967296 % 256) := by
    have f1 := nb8 x 32
    have f2 := nb8 x 24
    have f3 := nb8 x 16
    have f4 := nb8 x 8
    have f5 := nb8 x 0
    have f6 : nbU 0 x = 0 := rfl
    have f7 : nb x = nbU 40 x := rfl
    simp only [Nat.reduceAdd, Nat.reducePow, Nat.div_one, Nat.zero_add] at f1 f2 f3 f4 f5
    omega
  generalize ga : tn x % 256 = a at e0 en
  generalize gb : tn x / 256 % 256 = b at e0 en
  generalize gc : tn x / 65536 % 256 = c at e0 en
  generalize gd : tn x / 16777216 % 256 = d at e0 en
  generalize ge : tn x / 4294967296 % 256 = e at e0 en
  have ha : a < 256 := by omega
  have hb : b < 256 := by omega
  have hc : c < 256 := by omega
  have hd : d < 256 := by omega
  have he : e < 256 := by omega
  have h1 := by5_bc1 ha hb hc hd he e0
  have da := byD a ha
  have db := byD b hb
  have dc := byD c hc
  have dd := byD d hd
  have de := byD e he
  have h2 := by5_bc2 da.2.2 db.2.2 dc.2.2 dd.2.2 de.2.2 h1
  have h3 := by5_bc3 ⟨da.1, da.2.1⟩ ⟨db.1, db.2.1⟩ ⟨dc.1, dc.2.1⟩ ⟨dd.1, dd.2.1⟩ ⟨de.1, de.2.1⟩ h2
  rw [byF a ha, byF b hb, byF c hc, byF d hd, byF e he] at h3
  have ga := byG a ha
  have gb := byG b hb
  have gc := byG c hc
  have gd := byG d hd
  have ge := byG e he
  show (bc6 (bc5 (bc4 (bc3 (bc2 (bc1 x)))))).toInt32 &&& 127 = nI (nb x)
  generalize bc3 (bc2 (bc1 x)) = y at h3 ⊢
  generalize pcb a = A at h3 en ga
  generalize pcb b = B at h3 en gb
  generalize pcb c = C at h3 en gc
  generalize pcb d = D at h3 en gd
  generalize pcb e = E at h3 en ge
  have h4 : tn (bc4 y) = by5 (A + B) (B + C) (C + D) (D + E) E := by
    unfold bc4
    rw [tn_add (by rw [tn_shu (j := 8) (by decide), h3]; unfold by5; omega), tn_shu (j := 8) (by decide), h3]
    unfold by5
    omega
  have h5 : tn (bc5 (bc4 y)) = by5 (A + B + (C + D)) (B + C + (D + E)) (C + D + E) (D + E) E := by
    unfold bc5
    rw [tn_add (by rw [tn_shu (j := 16) (by decide), h4]; unfold by5; omega), tn_shu (j := 16) (by decide), h4]
    unfold by5
    omega
  have h6 : tn (bc6 (bc5 (bc4 y))) = by5 (A + B + (C + D) + E) (B + C + (D + E)) (C + D + E) (D + E) E := by
    unfold bc6
    rw [tn_add (by rw [tn_shu (j := 32) (by decide), h5]; unfold by5; omega), tn_shu (j := 32) (by decide), h5]
    unfold by5
    omega
  have h7 : tn (bc6 (bc5 (bc4 y))) % 128 = nb x := by
    rw [h6, en]
    unfold by5
    omega
  exact low7 h7
theorem v_bitCount {d : Nat} {Q : PQ} {h : HP} {x : Int64} (hx : sm x) : Ev (d + 1) 46 [.long x] h Q = Q (some (.int (nI (nb x)))) h := by
  rw [← bcF_eq hx]
  simp only [e46, s46_0, s46_1, s46_2, s46_3, s46_4, s46_7, s46_8, s46_9, s46_10, s46_11, s46_14, s46_15, s46_16, s46_17, s46_18, s46_21, s46_22, s46_23, s46_24, s46_25, s46_26, s46_27, s46_28, s46_29, s46_32, s46_33, s46_34, s46_35, s46_36, s46_38, s46_39, s46_40, s46_41, s46_42, s46_43, s46_45, s46_46, s46_47, s46_48, s46_49, s46_50, s46_52, s46_53, s46_54, s46_55, s46_56, s46_57, s46_59, s46_60, oB_some, cl2_i, cl2_r, cl2_l, cl2_u, cl2_s, wd_0, wd_i, wd_r, wd_l, wd_f, ct_i, ct_r, ct_n, ct_f, rf_s, rf_n, tl_s, tl_n, true_and, and_true, eq_self, and_self, Nat.reduceAdd, Nat.reduceLeDiff, Nat.zero_le, Nat.reduceEqDiff, or_true, true_or, false_or, or_false, if_true, if_false, gI_0, gI_1, gI_2, gI_3, gI_4, gI_5, gI_6, gI_7, gI_8, gI_9, gI_10, gI_11, gI_12, gI_13, gI_14, gI_15, gL_0, gL_1, gL_2, gL_3, gL_4, gL_5, gL_6, gL_7, gL_8, gL_9, gL_10, gL_11, gL_12, gL_13, gL_14, gL_15, gA_0, gA_1, gA_2, gA_3, gA_4, gA_5, gA_6, gA_7, gA_8, gA_9, gA_10, gA_11, gA_12, gA_13, gA_14, gA_15, p1_0, p1_1, p1_2, p1_3, p1_4, p1_5, p1_6, p1_7, p1_8, p1_9, p1_10, p1_11, p1_12, p1_13, p1_14, p1_15, p2_0, p2_1, p2_2, p2_3, p2_4, p2_5, p2_6, p2_7, p2_8, p2_9, p2_10, p2_11, p2_12, p2_13, p2_14, p2_15, bcF, bc6, bc5, bc4, bc3, bc2, bc1, shu]
def shi (x k : Int32) : Int32 := (x.toUInt32 >>> (Int32.toUInt32 k &&& Int32.toUInt32 31)).toInt32
def bi1 (x : Int32) : Int32 := x - (shi x 1 &&& 1431655765)
def bi2 (x : Int32) : Int32 := (x &&& 858993459) + (shi x 2 &&& 858993459)
def bi3 (x : Int32) : Int32 := (x + shi x 4) &&& 252645135
def bi4 (x : Int32) : Int32 := x + shi x 8
def bi5 (x : Int32) : Int32 := x + shi x 16
def biF (x : Int32) : Int32 := bi5 (bi4 (bi3 (bi2 (bi1 x)))) &&& 63
theorem biF_all : ∀ n, n < 64 → biF (nI n) = nI (nb (lN n)) := by decide +kernel
theorem v_bitCountI {d : Nat} {Q : PQ} {h : HP} {n : Nat} (hx : n < 64) : Ev (d + 1) 174 [.int (nI n)] h Q = Q (some (.int (nI (nb (lN n))))) h := by
  rw [← biF_all n hx]
  simp only [e174, s174_0, s174_1, s174_2, s174_3, s174_4, s174_7, s174_8, s174_9, s174_10, s174_11, s174_14, s174_15, s174_16, s174_17, s174_18, s174_21, s174_22, s174_23, s174_24, s174_25, s174_26, s174_27, s174_28, s174_29, s174_32, s174_33, s174_34, s174_35, s174_36, s174_38, s174_39, s174_40, s174_41, s174_42, s174_43, s174_45, s174_46, s174_47, s174_48, s174_49, s174_51, s174_52, oB_some, cl2_i, cl2_r, cl2_l, cl2_u, cl2_s, wd_0, wd_i, wd_r, wd_l, wd_f, ct_i, ct_r, ct_n, ct_f, rf_s, rf_n, tl_s, tl_n, true_and, and_true, eq_self, and_self, Nat.reduceAdd, Nat.reduceLeDiff, Nat.zero_le, Nat.reduceEqDiff, or_true, true_or, false_or, or_false, if_true, if_false, gI_0, gI_1, gI_2, gI_3, gI_4, gI_5, gI_6, gI_7, gI_8, gI_9, gI_10, gI_11, gI_12, gI_13, gI_14, gI_15, gL_0, gL_1, gL_2, gL_3, gL_4, gL_5, gL_6, gL_7, gL_8, gL_9, gL_10, gL_11, gL_12, gL_13, gL_14, gL_15, gA_0, gA_1, gA_2, gA_3, gA_4, gA_5, gA_6, gA_7, gA_8, gA_9, gA_10, gA_11, gA_12, gA_13, gA_14, gA_15, p1_0, p1_1, p1_2, p1_3, p1_4, p1_5, p1_6, p1_7, p1_8, p1_9, p1_10, p1_11, p1_12, p1_13, p1_14, p1_15, p2_0, p2_1, p2_2, p2_3, p2_4, p2_5, p2_6, p2_7, p2_8, p2_9, p2_10, p2_11, p2_12, p2_13, p2_14, p2_15, biF, bi5, bi4, bi3, bi2, bi1, shi]
