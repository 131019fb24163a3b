abbrev HP : Type := (Nat → Nat) × (Nat → Nat) × (Nat → Nat → Int32) × (Nat → Nat → Int64) × (Nat → Nat → Option Nat) × Nat
def hkd (h : HP) (a : Nat) : Nat := h.1 a
def hln (h : HP) (a : Nat) : Nat := h.2.1 a
def hI (h : HP) (a k : Nat) : Int32 := h.2.2.1 a k
def hL (h : HP) (a k : Nat) : Int64 := h.2.2.2.1 a k
def hR (h : HP) (a k : Nat) : Option Nat := h.2.2.2.2.1 a k
def hnx (h : HP) : Nat := h.2.2.2.2.2
def sI (h : HP) (a k : Nat) (x : Int32) : HP := (h.1, h.2.1, (fun b j => if b = a ∧ j = k then x else hI h b j), h.2.2.2)
def sL (h : HP) (a k : Nat) (x : Int64) : HP := (h.1, h.2.1, h.2.2.1, (fun b j => if b = a ∧ j = k then x else hL h b j), h.2.2.2.2)
def sR (h : HP) (a k : Nat) (x : Option Nat) : HP := (h.1, h.2.1, h.2.2.1, h.2.2.2.1, (fun b j => if b = a ∧ j = k then x else hR h b j), h.2.2.2.2.2)
def cI (h : HP) (a b sp dp n : Nat) : HP := (h.1, h.2.1, (fun q j => if q = b then va_cpy (hI h a) (hI h b) sp dp n j else hI h q j), h.2.2.2)
def cLg (h : HP) (a b sp dp n : Nat) : HP := (h.1, h.2.1, h.2.2.1, (fun q j => if q = b then va_cpy (hL h a) (hL h b) sp dp n j else hL h q j), h.2.2.2.2)
def snw (h : HP) (t n : Nat) : HP := ((fun b => if b = hnx h then t else hkd h b), (fun b => if b = hnx h then n else hln h b), (fun b j => if b = hnx h then 0 else hI h b j), (fun b j => if b = hnx h then 0 else hL h b j), (fun b j => if b = hnx h then none else hR h b j), hnx h + 1)
theorem hkd_sI (h : HP) (a k : Nat) (x : Int32) : hkd (sI h a k x) = hkd h := rfl
theorem hln_sI (h : HP) (a k : Nat) (x : Int32) : hln (sI h a k x) = hln h := rfl
theorem hL_sI (h : HP) (a k : Nat) (x : Int32) : hL (sI h a k x) = hL h := rfl
theorem hR_sI (h : HP) (a k : Nat) (x : Int32) : hR (sI h a k x) = hR h := rfl
theorem hnx_sI (h : HP) (a k : Nat) (x : Int32) : hnx (sI h a k x) = hnx h := rfl
theorem hI_sI (h : HP) (a k : Nat) (x : Int32) (b j : Nat) : hI (sI h a k x) b j = if b = a ∧ j = k then x else hI h b j := rfl
theorem hkd_sL (h : HP) (a k : Nat) (x : Int64) : hkd (sL h a k x) = hkd h := rfl
theorem hln_sL (h : HP) (a k : Nat) (x : Int64) : hln (sL h a k x) = hln h := rfl
theorem hI_sL (h : HP) (a k : Nat) (x : Int64) : hI (sL h a k x) = hI h := rfl
theorem hR_sL (h : HP) (a k : Nat) (x : Int64) : hR (sL h a k x) = hR h := rfl
theorem hnx_sL (h : HP) (a k : Nat) (x : Int64) : hnx (sL h a k x) = hnx h := rfl
theorem hL_sL (h : HP) (a k : Nat) (x : Int64) (b j : Nat) : hL (sL h a k x) b j = if b = a ∧ j = k then x else hL h b j := rfl
theorem hkd_sR (h : HP) (a k : Nat) (x : Option Nat) : hkd (sR h a k x) = hkd h := rfl
theorem hln_sR (h : HP) (a k : Nat) (x : Option Nat) : hln (sR h a k x) = hln h := rfl
theorem hI_sR (h : HP) (a k : Nat) (x : Option Nat) : hI (sR h a k x) = hI h := rfl
theorem hL_sR (h : HP) (a k : Nat) (x : Option Nat) : hL (sR h a k x) = hL h := rfl
theorem hnx_sR (h : HP) (a k : Nat) (x : Option Nat) : hnx (sR h a k x) = hnx h := rfl
theorem hR_sR (h : HP) (a k : Nat) (x : Option Nat) (b j : Nat) : hR (sR h a k x) b j = if b = a ∧ j = k then x else hR h b j := rfl
theorem hkd_cI (h : HP) (a b sp dp n : Nat) : hkd (cI h a b sp dp n) = hkd h := rfl
theorem hln_cI (h : HP) (a b sp dp n : Nat) : hln (cI h a b sp dp n) = hln h := rfl
theorem hL_cI (h : HP) (a b sp dp n : Nat) : hL (cI h a b sp dp n) = hL h := rfl
theorem hR_cI (h : HP) (a b sp dp n : Nat) : hR (cI h a b sp dp n) = hR h := rfl
theorem hnx_cI (h : HP) (a b sp dp n : Nat) : hnx (cI h a b sp dp n) = hnx h := rfl
theorem hI_cI (h : HP) (a b sp dp n q j : Nat) : hI (cI h a b sp dp n) q j = if q = b then va_cpy (hI h a) (hI h b) sp dp n j else hI h q j := rfl
theorem hkd_cLg (h : HP) (a b sp dp n : Nat) : hkd (cLg h a b sp dp n) = hkd h := rfl
theorem hln_cLg (h : HP) (a b sp dp n : Nat) : hln (cLg h a b sp dp n) = hln h := rfl
theorem hI_cLg (h : HP) (a b sp dp n : Nat) : hI (cLg h a b sp dp n) = hI h := rfl
theorem hR_cLg (h : HP) (a b sp dp n : Nat) : hR (cLg h a b sp dp n) = hR h := rfl
theorem hnx_cLg (h : HP) (a b sp dp n : Nat) : hnx (cLg h a b sp dp n) = hnx h := rfl
theorem hL_cLg (h : HP) (a b sp dp n q j : Nat) : hL (cLg h a b sp dp n) q j = if q = b then va_cpy (hL h a) (hL h b) sp dp n j else hL h q j := rfl
theorem hnx_snw (h : HP) (t n : Nat) : hnx (snw h t n) = hnx h + 1 := rfl
theorem hkd_snw (h : HP) (t n b : Nat) : hkd (snw h t n) b = if b = hnx h then t else hkd h b := rfl
theorem hln_snw (h : HP) (t n b : Nat) : hln (snw h t n) b = if b = hnx h then n else hln h b := rfl
theorem hI_snw (h : HP) (t n b j : Nat) : hI (snw h t n) b j = if b = hnx h then 0 else hI h b j := rfl
theorem hL_snw (h : HP) (t n b j : Nat) : hL (snw h t n) b j = if b = hnx h then 0 else hL h b j := rfl
theorem hR_snw (h : HP) (t n b j : Nat) : hR (snw h t n) b j = if b = hnx h then none else hR h b j := rfl
def gI : List Slot → Nat → Option Int32
  | .val (.int x) :: _, 0 => some x
  | _, 0 => none
  | [], _ + 1 => none
  | _ :: t, n + 1 => gI t n
def gL : List Slot → Nat → Option Int64
  | .val (.long x) :: _, 0 => some x
  | _, 0 => none
  | [], _ + 1 => none
  | _ :: t, n + 1 => gL t n
def gA : List Slot → Nat → Option Value
  | .val (.ref x) :: _, 0 => some (.ref x)
  | .val .null :: _, 0 => some .null
  | _, 0 => none
  | [], _ + 1 => none
  | _ :: t, n + 1 => gA t n
def cl2 : Slot → Slot
  | .val (.long _) => .unset
  | .val (.double _) => .unset
  | a => a
/-- a value of one slot is put at a place: what it halves is unset -/
def p1 (v : Value) : Nat → List Slot → List Slot
  | _, [] => []
  | 0, _ :: t => .val v :: t
  | 1, a :: t => cl2 a :: p1 v 0 t
  | n + 2, a :: t => a :: p1 v (n + 1) t
def p2 (v : Value) : Nat → List Slot → List Slot
  | _, [] => []
  | 0, _ :: [] => [.val v]
  | 0, _ :: _ :: t => .val v :: .second :: t
  | 1, a :: t => cl2 a :: p2 v 0 t
  | n + 2, a :: t => a :: p2 v (n + 1) t
def sl : List Value → List Slot
  | [] => []
  | .long x :: t => .val (.long x) :: .second :: sl t
  | .double x :: t => .val (.double x) :: .second :: sl t
  | v :: t => .val v :: sl t
def wd : List Value → Nat
  | [] => 0
  | v :: t => v.category + wd t
def popN : Nat → List Value → List Value → Option (List Value × List Value)
  | 0, acc, st => some (acc, st)
  | n + 1, acc, v :: st => popN n (v :: acc) st
  | _ + 1, _, [] => none
abbrev Fr : Type := Nat × List Slot × List Value × HP × Nat × Nat
abbrev Out : Type := Option (Fr ⊕ ((Option Value × HP) ⊕ (Nat × List Value × Fr)))
def oGo (f : Fr) : Out := some (.inl f)
def oRet (r : Option Value) (h : HP) : Out := some (.inr (.inl (r, h)))
def oCall (y : Nat) (as : List Value) (f : Fr) : Out := some (.inr (.inr (y, as, f)))
def tgt (pc : Nat) (off : Int) : Option Nat := if 0 ≤ (pc : Int) + off then some (((pc : Int) + off).toNat) else none
def oBr (b : Prop) [Decidable b] (pc : Nat) (off : Int) (al : List Slot) (st : List Value) (h : HP) (c s : Nat) : Out := match tgt pc off with
  | some t => if b then oGo (t, al, st, h, c, s) else oGo (pc + 3, al, st, h, c, s)
  | none => none
