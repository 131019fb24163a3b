def ix (i : Int32) : Nat := i.toNatClampNeg
def fget (ty : Nat) (h : HP) (a k : Nat) : Value := match ty with
  | 1 => .long (hL h a k)
  | 2 => va_rf (hR h a k)
  | _ => .int (hI h a k)
def oI1 (pc : Nat) (al : List Slot) (st : List Value) (h : HP) (c s : Nat) (F : Int32 → Value) : Out := match st with
  | .int a :: r => oGo (pc + 1, al, F a :: r, h, c, s)
  | _ => none
def oL1 (pc : Nat) (al : List Slot) (st : List Value) (h : HP) (c s : Nat) (F : Int64 → Value) : Out := match st with
  | .long a :: r => oGo (pc + 1, al, F a :: r, h, c, s)
  | _ => none
def oII (pc : Nat) (al : List Slot) (st : List Value) (h : HP) (c s : Nat) (F : Int32 → Int32 → Value) : Out := match st with
  | .int b :: .int a :: r => oGo (pc + 1, al, F a b :: r, h, c, s)
  | _ => none
def oLL (pc : Nat) (al : List Slot) (st : List Value) (h : HP) (c s : Nat) (F : Int64 → Int64 → Value) : Out := match st with
  | .long b :: .long a :: r => oGo (pc + 1, al, F a b :: r, h, c, s)
  | _ => none
def oLI (pc : Nat) (al : List Slot) (st : List Value) (h : HP) (c s : Nat) (F : Int64 → Int32 → Value) : Out := match st with
  | .int b :: .long a :: r => oGo (pc + 1, al, F a b :: r, h, c, s)
  | _ => none
def oLdI (pc i : Nat) (al : List Slot) (st : List Value) (h : HP) (c s : Nat) : Out := match gI al i with
  | some x => oGo (pc, al, .int x :: st, h, c, s)
  | none => none
def oLdL (pc i : Nat) (al : List Slot) (st : List Value) (h : HP) (c s : Nat) : Out := match gL al i with
  | some x => oGo (pc, al, .long x :: st, h, c, s)
  | none => none
def oLdA (pc i : Nat) (al : List Slot) (st : List Value) (h : HP) (c s : Nat) : Out := match gA al i with
  | some x => oGo (pc, al, x :: st, h, c, s)
  | none => none
def oStI (y pc i : Nat) (al : List Slot) (st : List Value) (h : HP) (c s : Nat) : Out := match st with
  | .int x :: r => if i < mL y then oGo (pc, p1 (.int x) i al, r, h, c, s) else none
  | _ => none
def oStL (y pc i : Nat) (al : List Slot) (st : List Value) (h : HP) (c s : Nat) : Out := match st with
  | .long x :: r => if i + 1 < mL y then oGo (pc, p2 (.long x) i al, r, h, c, s) else none
  | _ => none
def oStA (y pc i : Nat) (al : List Slot) (st : List Value) (h : HP) (c s : Nat) : Out := match st with
  | .ref x :: r => if i < mL y then oGo (pc, p1 (.ref x) i al, r, h, c, s) else none
  | _ => none
def oIf (pc : Nat) (off : Int) (al : List Slot) (st : List Value) (h : HP) (c s : Nat) (F : Int32 → Bool) : Out := match st with
  | .int x :: r => oBr (F x = true) pc off al r h c s
  | _ => none
def oCm (pc : Nat) (off : Int) (al : List Slot) (st : List Value) (h : HP) (c s : Nat) (F : Int32 → Int32 → Bool) : Out := match st with
  | .int b :: .int a :: r => oBr (F a b = true) pc off al r h c s
  | _ => none
def oJmp (pc : Nat) (off : Int) (al : List Slot) (st : List Value) (h : HP) (c s : Nat) : Out := match tgt pc off with
  | some t => oGo (t, al, st, h, c, s)
  | none => none
def oGet (y pc i : Nat) (al : List Slot) (st : List Value) (h : HP) (c s : Nat) : Out := match fk (mO y) i, st with
  | some (ci, k, ty, _), .ref a :: r => if hkd h a = 10 + ci then oGo (pc + 3, al, fget ty h a k :: r, h, c, s) else none
  | _, _ => none
def okF (fin : Bool) (y ci : Nat) : Bool := !fin || (mK y == 2 && mci y == ci)
def oPut (y pc i : Nat) (al : List Slot) (st : List Value) (h : HP) (c s : Nat) : Out := match fk (mO y) i, st with
  | some (ci, k, 0, fin), .int x :: .ref a :: r => if hkd h a = 10 + ci ∧ okF fin y ci = true then oGo (pc + 3, al, r, sI h a k x, c, s) else none
  | some (ci, k, 3, fin), .int x :: .ref a :: r => if (hkd h a = 10 + ci ∧ okF fin y ci = true) ∧ (x = 0 ∨ x = 1) then oGo (pc + 3, al, r, sI h a k x, c, s) else none
  | some (ci, k, 1, fin), .long x :: .ref a :: r => if hkd h a = 10 + ci ∧ okF fin y ci = true then oGo (pc + 3, al, r, sL h a k x, c, s) else none
  | some (ci, k, 2, fin), .ref x :: .ref a :: r => if hkd h a = 10 + ci ∧ okF fin y ci = true then oGo (pc + 3, al, r, sR h a k (some x), c, s) else none
  | _, _ => none
def oIal (pc : Nat) (al : List Slot) (st : List Value) (h : HP) (c s : Nat) : Out := match st with
  | .int i :: .ref a :: r => if (hkd h a = 1 ∨ hkd h a = 2) ∧ (0 ≤ i ∧ ix i < hln h a) then oGo (pc + 1, al, .int (hI h a (ix i)) :: r, h, c, s) else none
  | _ => none
def oLal (pc : Nat) (al : List Slot) (st : List Value) (h : HP) (c s : Nat) : Out := match st with
  | .int i :: .ref a :: r => if hkd h a = 3 ∧ (0 ≤ i ∧ ix i < hln h a) then oGo (pc + 1, al, .long (hL h a (ix i)) :: r, h, c, s) else none
  | _ => none
def oAal (pc : Nat) (al : List Slot) (st : List Value) (h : HP) (c s : Nat) : Out := match st with
  | .int i :: .ref a :: r => if hkd h a = 4 ∧ (0 ≤ i ∧ ix i < hln h a) then oGo (pc + 1, al, va_rf (hR h a (ix i)) :: r, h, c, s) else none
  | _ => none
def oIas (pc : Nat) (al : List Slot) (st : List Value) (h : HP) (c s : Nat) : Out := match st with
  | .int x :: .int i :: .ref a :: r => if hkd h a = 2 ∧ (0 ≤ i ∧ ix i < hln h a) then oGo (pc + 1, al, r, sI h a (ix i) x, c, s) else none
  | _ => none
def oLas (pc : Nat) (al : List Slot) (st : List Value) (h : HP) (c s : Nat) : Out := match st with
  | .long x :: .int i :: .ref a :: r => if hkd h a = 3 ∧ (0 ≤ i ∧ ix i < hln h a) then oGo (pc + 1, al, r, sL h a (ix i) x, c, s) else none
  | _ => none
def oAas (pc : Nat) (al : List Slot) (st : List Value) (h : HP) (c s : Nat) : Out := match st with
  | .ref x :: .int i :: .ref a :: r => if (hkd h a = 4 ∧ hkd h x = 14) ∧ (0 ≤ i ∧ ix i < hln h a) then oGo (pc + 1, al, r, sR h a (ix i) (some x), c, s) else none
  | _ => none
def oAln (pc : Nat) (al : List Slot) (st : List Value) (h : HP) (c s : Nat) : Out := match st with
  | .ref a :: r => if hkd h a = 1 ∨ hkd h a = 2 ∨ hkd h a = 3 then oGo (pc + 1, al, .int (Int32.ofNat (hln h a)) :: r, h, c, s) else none
  | _ => none
def oNew (y pc i : Nat) (al : List Slot) (st : List Value) (h : HP) (c s : Nat) : Out := match nk (mO y) i with
  | some (ci, N) => if 1 ≤ c ∧ N ≤ s then oGo (pc + 3, al, .ref (hnx h) :: st, snw h (10 + ci) 0, c - 1, s - N) else none
  | none => none
def oNwA (pc t : Nat) (al : List Slot) (st : List Value) (h : HP) (c s : Nat) : Out := match st with
  | .int n :: r => if (0 ≤ n ∧ ix n ≤ 4096) ∧ (1 ≤ c ∧ ix n ≤ s) then oGo (pc, al, .ref (hnx h) :: r, snw h t (ix n), c - 1, s - ix n) else none
  | _ => none
def oInv (y' pc : Nat) (al : List Slot) (st : List Value) (h : HP) (c s : Nat) : Out := match popN (mN y') [] st with
  | some (as, .ref o :: r) => if (hkd h o = 10 + mci y' ∧ wd r ≤ 8) ∧ (mA y' ≤ c ∧ mS y' ≤ s) ∧ (sl (.ref o :: as)).length ≤ mL y' then oCall y' (.ref o :: as) (pc + 3, al, r, h, c - mA y', s - mS y') else none
  | _ => none
def oInS (y' pc : Nat) (al : List Slot) (st : List Value) (h : HP) (c s : Nat) : Out := match popN (mN y') [] st with
  | some (as, r) => if wd r ≤ 8 ∧ (mA y' ≤ c ∧ mS y' ≤ s) ∧ (sl as).length ≤ mL y' then oCall y' as (pc + 3, al, r, h, c - mA y', s - mS y') else none
  | _ => none
def oCpy (pc : Nat) (al : List Slot) (st : List Value) (h : HP) (c s : Nat) : Out := match st with
  | .int n :: .int dp :: .ref b :: .int sp :: .ref a :: r =>
    if (0 ≤ sp ∧ 0 ≤ dp ∧ 0 ≤ n) ∧ (ix sp + ix n ≤ hln h a ∧ ix dp + ix n ≤ hln h b) ∧ wd r ≤ 8 then
      (if hkd h a = 2 ∧ hkd h b = 2 then oGo (pc + 3, al, r, cI h a b (ix sp) (ix dp) (ix n), c, s)
       else if hkd h a = 3 ∧ hkd h b = 3 then oGo (pc + 3, al, r, cLg h a b (ix sp) (ix dp) (ix n), c, s) else none)
    else none
  | _ => none
def oMx (pc : Nat) (al : List Slot) (st : List Value) (h : HP) (c s : Nat) (F : Int32 → Int32 → Value) : Out := match st with
  | .int b :: .int a :: r => if wd r ≤ 8 then oGo (pc + 3, al, F a b :: r, h, c, s) else none
  | _ => none
def oRtI (y : Nat) (st : List Value) (h : HP) : Out := match st, mR y with
  | [.int x], some .int => oRet (some (.int x)) h
  | [.int x], some .boolean => if x = 0 ∨ x = 1 then oRet (some (.int x)) h else none
  | _, _ => none
def oRtL (y : Nat) (st : List Value) (h : HP) : Out := match st, mR y with
  | [.long x], some .long => oRet (some (.long x)) h
  | _, _ => none
def oRtA (y : Nat) (st : List Value) (h : HP) : Out := match st, mR y with
  | [.ref x], some (.object _) => oRet (some (.ref x)) h
  | _, _ => none
def oRtV (y : Nat) (st : List Value) (h : HP) : Out := match st, mR y with
  | [], none => oRet none h
  | _, _ => none
def swT (x : Int32) : Int32 → List Int → Int → Int
  | _, [], d => d
  | n, o :: os, d => if x = n then o else swT x (n + 1) os d
def swL (x : Int32) : List (Int × Int) → Int → Int
  | [], d => d
  | (k, o) :: os, d => if x = Int32.ofInt k then o else swL x os d
def okT (lo hi : Int) (offs : Array Int) : Bool := decide (0 ≤ lo ∧ hi < 1000 ∧ hi - lo + 1 = offs.size)
def okK (ps : List (Int × Int)) : Bool := ps.all (fun q => decide (0 ≤ q.1 ∧ q.1 < 1000)) && (ps.zip (ps.drop 1)).all (fun (a, next) => a.1 < next.1)
def oTab (pc : Nat) (d lo hi : Int) (offs : Array Int) (al : List Slot) (st : List Value) (h : HP) (c s : Nat) : Out := match st with
  | .int x :: r => if okT lo hi offs = true then oJmp pc (swT x (Int32.ofInt lo) offs.toList d) al r h c s else none
  | _ => none
def oLok (pc : Nat) (d : Int) (ps : Array (Int × Int)) (al : List Slot) (st : List Value) (h : HP) (c s : Nat) : Out := match st with
  | .int x :: r => if okK ps.toList = true then oJmp pc (swL x ps.toList d) al r h c s else none
  | _ => none
def isN : Value → Option Bool
  | .null => some true
  | .ref _ => some false
  | _ => none
def oNul (pc : Nat) (off : Int) (al : List Slot) (st : List Value) (h : HP) (c s : Nat) (w : Bool) : Out := match st with
  | v :: r => (match isN v with | some b => oBr (b = w) pc off al r h c s | none => none)
  | _ => none
def nxI (y pc : Nat) (al : List Slot) (st : List Value) (h : HP) (c s : Nat) (ins : Instr) : Out := match ins with
  | .iconst n => oGo (pc + 1, al, .int (Int32.ofInt n) :: st, h, c, s)
  | .lconst n => oGo (pc + 1, al, .long (Int64.ofNat (n : Nat)) :: st, h, c, s)
  | .bipush n => oGo (pc + 2, al, .int (Int8.ofInt n).toInt32 :: st, h, c, s)
  | .sipush n => oGo (pc + 3, al, .int (Int16.ofInt n).toInt32 :: st, h, c, s)
  | .ldc i => (match kI (mO y) i with | some v => oGo (pc + 2, al, .int v :: st, h, c, s) | none => none)
  | .ldc_w i => (match kI (mO y) i with | some v => oGo (pc + 3, al, .int v :: st, h, c, s) | none => none)
  | .ldc2_w i => (match kL (mO y) i with | some v => oGo (pc + 3, al, .long v :: st, h, c, s) | none => none)
  | .iload_n k => oLdI (pc + 1) k.val al st h c s
  | .iload k => oLdI (pc + 2) k al st h c s
  | .lload_n k => oLdL (pc + 1) k.val al st h c s
  | .lload k => oLdL (pc + 2) k al st h c s
  | .aload_n k => oLdA (pc + 1) k.val al st h c s
  | .aload k => oLdA (pc + 2) k al st h c s
  | .istore_n k => oStI y (pc + 1) k.val al st h c s
  | .istore k => oStI y (pc + 2) k al st h c s
  | .lstore_n k => oStL y (pc + 1) k.val al st h c s
  | .lstore k => oStL y (pc + 2) k al st h c s
  | .astore_n k => oStA y (pc + 1) k.val al st h c s
  | .astore k => oStA y (pc + 2) k al st h c s
  | .iinc i n => (match gI al i with | some x => if i < mL y then oGo (pc + 3, p1 (.int (x + Int32.ofInt n)) i al, st, h, c, s) else none | none => none)
  | .iadd => oII pc al st h c s (fun a b => .int (a + b))
  | .isub => oII pc al st h c s (fun a b => .int (a - b))
  | .imul => oII pc al st h c s (fun a b => .int (a * b))
  | .iand => oII pc al st h c s (fun a b => .int (a &&& b))
  | .ior => oII pc al st h c s (fun a b => .int (a ||| b))
  | .ixor => oII pc al st h c s (fun a b => .int (a ^^^ b))
  | .ishl => oII pc al st h c s (fun a b => .int (a <<< (b &&& 31)))
  | .ishr => oII pc al st h c s (fun a b => .int (a >>> (b &&& 31)))
  | .iushr => oII pc al st h c s (fun a b => .int (a.toUInt32 >>> (b.toUInt32 &&& Int32.toUInt32 31)).toInt32)
  | .ineg => oI1 pc al st h c s (fun a => .int (-a))
  | .idiv => (match st with | .int b :: .int a :: r => if b = 0 then none else oGo (pc + 1, al, .int (a / b) :: r, h, c, s) | _ => none)
  | .irem => (match st with | .int b :: .int a :: r => if b = 0 then none else oGo (pc + 1, al, .int (a - a / b * b) :: r, h, c, s) | _ => none)
  | .ladd => oLL pc al st h c s (fun a b => .long (a + b))
  | .lsub => oLL pc al st h c s (fun a b => .long (a - b))
  | .lmul => oLL pc al st h c s (fun a b => .long (a * b))
  | .land => oLL pc al st h c s (fun a b => .long (a &&& b))
  | .lor => oLL pc al st h c s (fun a b => .long (a ||| b))
  | .lxor => oLL pc al st h c s (fun a b => .long (a ^^^ b))
  | .lcmp => oLL pc al st h c s (fun a b => .int (lg_cmp a b))
  | .lneg => oL1 pc al st h c s (fun a => .long (-a))
  | .ldiv => (match st with | .long b :: .long a :: r => if b = 0 then none else oGo (pc + 1, al, .long (a / b) :: r, h, c, s) | _ => none)
  | .lrem => (match st with | .long b :: .long a :: r => if b = 0 then none else oGo (pc + 1, al, .long (a - a / b * b) :: r, h, c, s) | _ => none)
  | .lshl => oLI pc al st h c s (fun a b => .long (a <<< (b.toInt64 &&& 63)))
  | .lshr => oLI pc al st h c s (fun a b => .long (a >>> (b.toInt64 &&& 63)))
  | .lushr => oLI pc al st h c s (fun a b => .long (a.toUInt64 >>> (b.toInt64.toUInt64 &&& Int64.toUInt64 63)).toInt64)
  | .i2l => oI1 pc al st h c s (fun a => .long a.toInt64)
  | .l2i => oL1 pc al st h c s (fun a => .int a.toInt32)
  | .dup => (match st with | v :: r => if v.category = 1 then oGo (pc + 1, al, v :: v :: r, h, c, s) else none | _ => none)
  | .dup2 => (match st with | va :: vb :: r => if va.category = 1 ∧ vb.category = 1 then oGo (pc + 1, al, va :: vb :: va :: vb :: r, h, c, s) else none | _ => none)
  | .pop => (match st with | v :: r => if v.category = 1 then oGo (pc + 1, al, r, h, c, s) else none | _ => none)
  | .ifCond .eq off => oIf pc off al st h c s (fun x => decide (x = 0))
  | .ifCond .ne off => oIf pc off al st h c s (fun x => decide (¬ x = 0))
  | .ifCond .lt off => oIf pc off al st h c s (fun x => decide (x < 0))
  | .ifCond .ge off => oIf pc off al st h c s (fun x => decide (0 ≤ x))
  | .ifCond .gt off => oIf pc off al st h c s (fun x => decide (0 < x))
  | .ifCond .le off => oIf pc off al st h c s (fun x => decide (x ≤ 0))
  | .if_icmp .eq off => oCm pc off al st h c s (fun x y => decide (x = y))
  | .if_icmp .ne off => oCm pc off al st h c s (fun x y => decide (¬ x = y))
  | .if_icmp .lt off => oCm pc off al st h c s (fun x y => decide (x < y))
  | .if_icmp .ge off => oCm pc off al st h c s (fun x y => decide (y ≤ x))
  | .if_icmp .gt off => oCm pc off al st h c s (fun x y => decide (y < x))
  | .if_icmp .le off => oCm pc off al st h c s (fun x y => decide (x ≤ y))
  | .ifnull off => oNul pc off al st h c s true
  | .ifnonnull off => oNul pc off al st h c s false
  | .goto off => oJmp pc off al st h c s
  | .tableswitch d lo hi offs => oTab pc d lo hi offs al st h c s
  | .lookupswitch d ps => oLok pc d ps al st h c s
  | .getfield i => oGet y pc i al st h c s
  | .putfield i => oPut y pc i al st h c s
  | .iaload => oIal pc al st h c s
  | .laload => oLal pc al st h c s
  | .aaload => oAal pc al st h c s
  | .iastore => oIas pc al st h c s
  | .lastore => oLas pc al st h c s
  | .aastore => oAas pc al st h c s
  | .arraylength => oAln pc al st h c s
  | .new i => oNew y pc i al st h c s
  | .newarray .int => oNwA (pc + 2) 2 al st h c s
  | .newarray .long => oNwA (pc + 2) 3 al st h c s
  | .anewarray i => if ak (mO y) i = true then oNwA (pc + 3) 4 al st h c s else none
  | .invokevirtual i => (match lk (mO y) i with | some y' => if mK y' = 1 then oInv y' pc al st h c s else none | none => none)
  | .invokespecial i => if ok (mO y) i = true then (match st with | .ref _ :: r => if wd r ≤ 8 then oGo (pc + 3, al, r, h, c, s) else none | _ => none)
      else (match lk (mO y) i with | some y' => if mK y' = 2 then oInv y' pc al st h c s else none | none => none)
  | .invokestatic i => if yk (mO y) i = true then oCpy pc al st h c s else if mx (mO y) i = 1 then oMx pc al st h c s (fun a b => .int (if a < b then b else a)) else if mx (mO y) i = 2 then oMx pc al st h c s (fun a b => .int (if b < a then b else a))
      else (match lk (mO y) i with | some y' => if mK y' = 0 then oInS y' pc al st h c s else none | none => none)
  | .ireturn => oRtI y st h
  | .lreturn => oRtL y st h
  | .areturn => oRtA y st h
  | .return_ => oRtV y st h
  | _ => none
def okL (ins : Instr) (n : Nat) : Bool := match ins with
  | .bipush _ | .ldc _ | .iload _ | .lload _ | .aload _ | .istore _ | .lstore _ | .astore _ | .newarray _ => n == 2
  | .sipush _ | .ldc_w _ | .ldc2_w _ | .ifCond _ _ | .if_icmp _ _ | .goto _ | .ifnull _ | .ifnonnull _ | .iinc _ _ | .getfield _ | .putfield _ | .new _ | .anewarray _ | .invokevirtual _ | .invokespecial _ | .invokestatic _ => n == 3
  | .tableswitch _ _ _ _ | .lookupswitch _ _ => true
  | _ => n == 1
def nxt (y : Nat) (f : Fr) : Out := match decode (mC y) f.1 with
  | .ok (ins, n) => if okL ins n = true then nxI y f.1 f.2.1 f.2.2.1 f.2.2.2.1 f.2.2.2.2.1 f.2.2.2.2.2 ins else none
  | .error _ => none
def retf (f : Fr) (r : Option Value) (h : HP) : Fr := (f.1, f.2.1, r.toList ++ f.2.2.1, h, f.2.2.2.2.1, f.2.2.2.2.2)
abbrev PQ : Type := Option Value → HP → Prop
def stO (E : Nat → List Value → HP → PQ → Prop) (Q : PQ) (K : Fr → Prop) (o : Out) : Prop := match o with
  | none => False
  | some (.inl f) => K f
  | some (.inr (.inl (r, h))) => Q r h
  | some (.inr (.inr (y', as, f))) => E y' as f.2.2.2.1 (fun r h' => K (retf f r h'))
def wpE (E : Nat → List Value → HP → PQ → Prop) (y : Nat) (Q : PQ) (f : Fr) : Prop := ∀ P : Fr → Prop, (∀ g, stO E Q P (nxt y g) → P g) → P f
def ent (y : Nat) (as : List Value) (h : HP) : Fr := (0, sl as ++ List.replicate (mL y - (sl as).length) Slot.unset, [], h, mA y, mS y)
def Ev : Nat → Nat → List Value → HP → PQ → Prop
  | 0, _, _, _, _ => False
  | d + 1, y, as, h, Q => wpE (Ev d) y Q (ent y as h)
abbrev WP (d y : Nat) (Q : PQ) (f : Fr) : Prop := wpE (Ev d) y Q f
theorem stO_mono {E : Nat → List Value → HP → PQ → Prop} (hE : ∀ y as h Q Q', (∀ r h, Q r h → Q' r h) → E y as h Q → E y as h Q') {Q Q' : PQ} {K K' : Fr → Prop} (hQ : ∀ r h, Q r h → Q' r h) (hK : ∀ f, K f → K' f) (o : Out) (h : stO E Q K o) : stO E Q' K' o := by
  match o, h with
  | some (.inl f), h => exact hK f h
  | some (.inr (.inl (r, h'))), h => exact hQ r h' h
  | some (.inr (.inr (y', as, f))), h => exact hE _ _ _ _ _ (fun r h' z => hK _ z) h
theorem wpE_eq {E : Nat → List Value → HP → PQ → Prop} (hE : ∀ y as h Q Q', (∀ r h, Q r h → Q' r h) → E y as h Q → E y as h Q') (y : Nat) (Q : PQ) (f : Fr) : wpE E y Q f = stO E Q (wpE E y Q) (nxt y f) := by
  have up : ∀ f, stO E Q (wpE E y Q) (nxt y f) → wpE E y Q f := fun f h P hP => hP f (stO_mono hE (fun _ _ z => z) (fun g hg => hg P hP) _ h)
  exact propext ⟨fun h => h (fun f => stO E Q (wpE E y Q) (nxt y f)) (fun g hg => stO_mono hE (fun _ _ z => z) up _ hg), up f⟩
theorem wpE_mono {E : Nat → List Value → HP → PQ → Prop} (hE : ∀ y as h Q Q', (∀ r h, Q r h → Q' r h) → E y as h Q → E y as h Q') {y : Nat} {Q Q' : PQ} (hQ : ∀ r h, Q r h → Q' r h) {f : Fr} (h : wpE E y Q f) : wpE E y Q' f :=
  h (wpE E y Q') (fun g hg => by rw [wpE_eq hE]; exact stO_mono hE hQ (fun _ z => z) _ hg)
theorem Ev_mono : ∀ (d : Nat) (y : Nat) (as : List Value) (h : HP) (Q Q' : PQ), (∀ r h, Q r h → Q' r h) → Ev d y as h Q → Ev d y as h Q' := by
  intro d
  induction d with
  | zero => intro y as h Q Q' hQ z; exact z.elim
  | succ d ih => intro y as h Q Q' hQ z; exact wpE_mono ih hQ z
theorem WP_eq (d y : Nat) (Q : PQ) (f : Fr) : WP d y Q f = stO (Ev d) Q (WP d y Q) (nxt y f) := wpE_eq (Ev_mono d) y Q f
theorem Ev_up : ∀ (d : Nat) (y : Nat) (as : List Value) (h : HP) (Q : PQ), Ev d y as h Q → Ev (d + 1) y as h Q := by
  intro d
  induction d with
  | zero => intro y as h Q z; exact z.elim
  | succ d ih =>
    intro y as h Q z
    show wpE (Ev (d + 1)) y Q _
    refine z (wpE (Ev (d + 1)) y Q) (fun g hg => ?_)
    rw [wpE_eq (Ev_mono (d + 1))]
    revert hg
    cases hn : nxt y g with
    | none => exact fun z => z
    | some o =>
      match o with
      | .inl f => exact fun z => z
      | .inr (.inl (r, h')) => exact fun z => z
      | .inr (.inr (y', as', f)) => exact fun z => ih _ _ _ _ z
