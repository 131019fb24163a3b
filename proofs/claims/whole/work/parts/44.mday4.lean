-- needs: 16.num 17.small 18.bits 20.spec 21.kinds 22.rep 23.bag 24.bag2 25.get 30.day 31.have 32.day2 33.day3 40.mrep 41.mday 42.mday2
theorem inkBitM : ∀ ink, ink < 64 → ∀ p, p < 6 → (nI ink >>> (nI p &&& 31) &&& 1 = 1) = (ink.testBit p = true) := by decide +kernel
theorem mt5_5 {h : HP} {m k : Nat} {x : Int32} : mt5 (sI h (m + 5) k x) m = fun j => (va_up (hI h (m + 5)) k x j, hI h (m + 6) j, hI h (m + 7) j, hI h (m + 8) j, hL h (m + 11) j) := by
  funext j
  unfold mt5
  rw [hI_sI_eq, hI_sI_ne (by omega), hI_sI_ne (by omega), hI_sI_ne (by omega)]
  rfl
/-- a letter is put behind the others -/
def adM (h : HP) (m n : Nat) (a b c e : Int32) (x : Int64) : HP := sI (sL (sI (sI (sI (sI h (m + 5) n a) (m + 6) n b) (m + 7) n c) (m + 8) n e) (m + 11) n x) m 12 (nI (n + 1))
theorem adM_t {h : HP} {m n : Nat} {a b c e : Int32} {x : Int64} (j : Nat) : mt5 (adM h m n a b c e x) m j = if j = n then (a, b, c, e, x) else mt5 h m j := by
  unfold adM
  rw [mt5_sI (by omega)]
  unfold mt5
  by_cases hj : j = n
  · subst hj
    simp [hI_sI, hL_sL, hI_sL, hL_sI]
  · simp [hI_sI, hL_sL, hI_sL, hL_sI, hj]
theorem adM_f {h : HP} {m n : Nat} {a b c e : Int32} {x : Int64} : FB m h (adM h m n a b c e x) := by
  refine ⟨fun q h1 h2 => ?_, fun q h1 => ?_, fun k h1 => ?_, rfl, rfl, rfl, rfl⟩
  · unfold adM
    rw [hI_sI_ne h2, hI_sL, hI_sI_ne (by omega), hI_sI_ne (by omega), hI_sI_ne (by omega), hI_sI_ne (by omega)]
  · unfold adM
    rw [hL_sI, hL_sL_ne h1]
    rfl
  · unfold adM
    rw [hI_sI, if_neg (by omega), hI_sL, hI_sI_ne (by omega), hI_sI_ne (by omega), hI_sI_ne (by omega), hI_sI_ne (by omega)]
