-- needs: 16.num 17.small
abbrev Ltr : Type := Nat × Nat × Nat × Nat × Int64
def lF (l : Ltr) : Nat := l.1
def lT (l : Ltr) : Nat := l.2.1
def lD (l : Ltr) : Nat := l.2.2.1
def lP (l : Ltr) : Nat := l.2.2.2.1
def lC (l : Ltr) : Int64 := l.2.2.2.2
abbrev VS : Type := Nat × (Nat → Nat) × (Nat → Nat) × (Nat → Nat) × (Nat → Int64) × (Nat → Int64) × List Ltr × Int64 × Int64 × Nat × Nat × Nat × Nat
def vn (S : VS) : Nat := S.1
def vk (S : VS) : Nat → Nat := S.2.1
def vf (S : VS) : Nat → Nat := S.2.2.1
def vr (S : VS) : Nat → Nat := S.2.2.2.1
def vw (S : VS) : Nat → Int64 := S.2.2.2.2.1
def vx (S : VS) : Nat → Int64 := S.2.2.2.2.2.1
def vb (S : VS) : List Ltr := S.2.2.2.2.2.2.1
def vs (S : VS) : Int64 := S.2.2.2.2.2.2.2.1
def vo (S : VS) : Int64 := S.2.2.2.2.2.2.2.2.1
def vu (S : VS) : Nat := S.2.2.2.2.2.2.2.2.2.1
def vd (S : VS) : Nat := S.2.2.2.2.2.2.2.2.2.2.1
def vt (S : VS) : Nat := S.2.2.2.2.2.2.2.2.2.2.2.1
def vy (S : VS) : Nat := S.2.2.2.2.2.2.2.2.2.2.2.2
def mkV (n : Nat) (k f r : Nat → Nat) (w x : Nat → Int64) (b : List Ltr) (s o : Int64) (u d t y : Nat) : VS := (n, k, f, r, w, x, b, s, o, u, d, t, y)
-- kinds
def childN (d : Nat) : Nat := if d % 3 = 0 then 3 else if d % 3 = 1 then 0 else 6
def leadN (k f d : Nat) : Nat :=
  if k = 1 then f / 2 + 1 else if k = 2 then (if d % 3 = 0 then 4 else if d % 3 = 1 then 1 else 7) else if k = 3 then (if d % (f + 2) = 0 then 9 else 0)
  else if k = 4 then (if d % (f + 2) = 0 then 9 else if d % 2 = 1 then 5 else 0) else if k = 5 then f / 2 + 3 else if k = 6 then childN d else if k = 7 then 9 - childN d else if d % 2 = 0 then 0 else f
def pressN (k f : Nat) : Nat := if k = 1 then 4 + f / 3 else if k = 2 then 1 else if k = 3 then 5 else if k = 4 then 0 else if k = 5 then 1 + f / 3 else if k = 6 then 5 else if k = 7 then 5 else 2
def everyN (k f : Nat) : Nat := if k = 1 then 1 else if k = 2 then f / 2 + 2 else if k = 3 then 5 else if k = 6 then f / 2 + 3 else if k = 7 then 2 * (f / 2 + 3) else 3
def picksN (k : Nat) : Nat := if k = 1 then 3 else if k = 7 then 3 else if k = 0 then 1 else if k = 3 then 1 else 2
def backN (k : Nat) : Bool := decide (k = 4) || decide (k = 7)
-- sets
def oneOf (b : Bool) (x : Int64) : Nat := ((if b = true then grt x else lst x 0)).getD 0
def rmv (b : Bool) : Nat → Int64 → Int64
  | 0, x => x
  | n + 1, x => if x = 0 then x else rmv b n (x &&& (bL (oneOf b x) ^^^ -1))
def picked (b : Bool) (n : Nat) (x : Int64) : Int64 := x &&& (rmv b n x ^^^ -1)
def putIn (S : VS) (t : Nat) : Int64 := match lst (vs S &&& (vo S ^^^ -1) &&& (vw S t ^^^ -1)) 0 with
  | none => 0
  | some k => bL k
-- a letter is had: dm a damp night, sh purple is ink
def inkd (sh : Bool) (l : Ltr) : Bool := decide (lD l = 0) || (sh && decide (lD l = 5))
def she1 (sh : Bool) (S : VS) (l : Ltr) : Int64 := if inkd sh l = true then vs S else vs S ||| lC l
def rubs (dm sh : Bool) (S : VS) (l : Ltr) : Bool := !inkd sh l && !dm && decide (lD l + lP l ≤ vu S) && !decide (lC l &&& vo S = 0)
def wS (S : VS) (s : Int64) : VS := mkV (vn S) (vk S) (vf S) (vr S) (vw S) (vx S) (vb S) s (vo S) (vu S) (vd S) (vt S) (vy S)
def wT (S : VS) (t : Nat) : VS := mkV (vn S) (vk S) (vf S) (vr S) (vw S) (vx S) (vb S) (vs S) (vo S) (vu S) (vd S) t (vy S)
def wD (S : VS) (d : Nat) : VS := mkV (vn S) (vk S) (vf S) (vr S) (vw S) (vx S) (vb S) (vs S) (vo S) (vu S) d (vt S) (vy S)
def wY (S : VS) (y : Nat) : VS := mkV (vn S) (vk S) (vf S) (vr S) (vw S) (vx S) (vb S) (vs S) (vo S) (vu S) (vd S) (vt S) y
def wB (S : VS) (b : List Ltr) : VS := mkV (vn S) (vk S) (vf S) (vr S) (vw S) (vx S) b (vs S) (vo S) (vu S) (vd S) (vt S) (vy S)
def wW (S : VS) (i : Nat) (x : Int64) : VS := mkV (vn S) (vk S) (vf S) (vr S) (va_up (vw S) i x) (vx S) (vb S) (vs S) (vo S) (vu S) (vd S) (vt S) (vy S)
def wX (S : VS) (i : Nat) (x : Int64) : VS := mkV (vn S) (vk S) (vf S) (vr S) (vw S) (va_up (vx S) i x) (vb S) (vs S) (vo S) (vu S) (vd S) (vt S) (vy S)
def wR (S : VS) (i : Nat) (x : Nat) : VS := mkV (vn S) (vk S) (vf S) (va_up (vr S) i x) (vw S) (vx S) (vb S) (vs S) (vo S) (vu S) (vd S) (vt S) (vy S)
def wO (S : VS) (o : Int64) : VS := mkV (vn S) (vk S) (vf S) (vr S) (vw S) (vx S) (vb S) (vs S) o (vu S) (vd S) (vt S) (vy S)
def wU (S : VS) (u : Nat) : VS := mkV (vn S) (vk S) (vf S) (vr S) (vw S) (vx S) (vb S) (vs S) (vo S) u (vd S) (vt S) (vy S)
def left1 (dm sh : Bool) (S : VS) (l : Ltr) : VS := let S1 := wS S (she1 sh S l); if rubs dm sh S l = true then wT S1 (min 9999 (vt S + nb (lC l &&& vo S))) else S1
def word1 (dm sh : Bool) (S : VS) (l : Ltr) : Int64 := if rubs dm sh S l = true then (if lC l &&& (vo S ^^^ -1) = 0 then putIn (wS S (she1 sh S l)) (lT l) else lC l &&& (vo S ^^^ -1)) else lC l
def had1 (dm sh : Bool) (S : VS) (l : Ltr) : VS := let S1 := left1 dm sh S l; let w := word1 dm sh S l; if w = 0 then wD S1 (min 999 (vd S + 1)) else wW S1 (lT l) (vw S (lT l) ||| w)
def hadAll (dm sh : Bool) : List Ltr → VS → VS
  | [], S => S
  | l :: t, S => hadAll dm sh t (had1 dm sh S l)
def due (S : VS) (p : Nat) : Bool := decide (vy S % everyN (vk S p) (vf S p) = 0) && decide (vr S p < vn S) && !decide (vr S p = p)
def pick1 (S : VS) (p : Nat) : Int64 := picked (backN (vk S p)) (picksN (vk S p)) (vw S p &&& (vx S p ^^^ -1))
def writ (ink : Nat) (S : VS) (p : Nat) : VS :=
  if due S p = true ∧ ¬ pick1 S p = 0 ∧ (vb S).length < 24 then
    wX (wB S (vb S ++ [(p, vr S p, (if ink.testBit p = true then 0 else leadN (vk S p) (vf S p) (vy S)), pressN (vk S p) (vf S p), pick1 S p)])) p (vx S p ||| pick1 S p)
  else S
def writAll (ink : Nat) : Nat → Nat → VS → VS
  | 0, _, S => S
  | n + 1, p, S => writAll ink n (p + 1) (writ ink S p)
def day1 (ink : Nat) (dm sh : Bool) (S : VS) : VS :=
  let S1 := wY S (vy S + 1)
  let S2 := hadAll dm sh ((vb S).take 3) S1
  let S3 := wB S2 ((vb S).drop 3)
  writAll ink (vn S) 0 S3
def dayN (ink : Nat) (dm sh : Bool) : Nat → VS → VS
  | 0, S => S
  | n + 1, S => dayN ink dm sh n (day1 ink dm sh S)
-- what always holds
def Gl (n : Nat) (l : Ltr) : Prop := lF l < n ∧ lT l < n ∧ lD l ≤ 9 ∧ lP l ≤ 9 ∧ ¬ lC l = 0 ∧ sm (lC l)
def Good (S : VS) : Prop := vn S ≤ 6 ∧ (∀ i, i < vn S → vk S i < 8 ∧ vf S i < 10 ∧ vr S i < 6 ∧ sm (vw S i) ∧ sm (vx S i)) ∧ (vb S).length ≤ 24 ∧ (∀ l, l ∈ vb S → Gl (vn S) l) ∧ sm (vs S) ∧ sm (vo S) ∧ vu S ≤ 18 ∧ vd S ≤ 999 ∧ vt S ≤ 9999 ∧ vy S < 2 ^ 20
abbrev R5 : Type := Int32 × Int32 × Int32 × Int32 × Int64
def enc (l : Ltr) : R5 := (nI (lF l), nI (lT l), nI (lD l), nI (lP l), lC l)
/-- a row of letters, its first places as a list -/
def RL5 (f : Nat → R5) (b : List Ltr) : Prop := ∀ (j : Nat) (l : Ltr), b[j]? = some l → f j = enc l
/-- the state as a memory holds it -/
def Rep (n : Int32) (k f r : Nat → Int32) (w x : Nat → Int64) (nl : Int32) (lt : Nat → R5) (s o : Int64) (u d t y : Int32) (S : VS) : Prop :=
  n = nI (vn S) ∧ (∀ i, i < vn S → k i = nI (vk S i) ∧ f i = nI (vf S i) ∧ r i = nI (vr S i) ∧ w i = vw S i ∧ x i = vx S i) ∧ nl = nI (vb S).length ∧ RL5 lt (vb S) ∧
  s = vs S ∧ o = vo S ∧ u = nI (vu S) ∧ d = nI (vd S) ∧ t = nI (vt S) ∧ y = nI (vy S)
theorem RL5.drop {f : Nat → R5} {b : List Ltr} (h : RL5 f b) (n : Nat) : RL5 (fun j => f (j + n)) (b.drop n) := fun j l hj => h (j + n) l (by rw [List.getElem?_drop] at hj; rw [Nat.add_comm]; exact hj)
theorem RL5.cong {f g : Nat → R5} {b : List Ltr} (h : RL5 f b) (e : ∀ j, j < b.length → g j = f j) : RL5 g b := fun j l hj => by
  rw [e j (List.getElem?_eq_some_iff.mp hj).1]
  exact h j l hj
theorem RL5.push {f g : Nat → R5} {b : List Ltr} {l : Ltr} (h : RL5 f b) (e : ∀ j, j < b.length → g j = f j) (hl : g b.length = enc l) : RL5 g (b ++ [l]) := fun j q hj => by
  by_cases hlt : j < b.length
  · rw [List.getElem?_append_left hlt] at hj
    rw [e j hlt]
    exact h j q hj
  · rw [List.getElem?_append_right (by omega)] at hj
    have h1 : j - b.length < 1 := (List.getElem?_eq_some_iff.mp hj).1
    have h2 : j = b.length := by omega
    subst h2
    rw [Nat.sub_self] at hj
    have h3 : l = q := Option.some.inj hj
    subst h3
    exact hl
theorem RL5.nil {f : Nat → R5} : RL5 f [] := fun j l hj => by simp at hj
