/-! THE CALLS, in numbers: which exception a call throws (0: none; the numbers of its clause), what it answers. -/
abbrev cN (x : Int32) : Nat := x.toNatClampNeg
def thR (M : ecM) (r : Int32) : Nat := if ixB r (mnR M) = true then 0 else 1
def thA (M : ecM) (a : Int32) : Nat := if ixB a (mnA M) = true then 0 else 1
def thF (M : ecM) (f : Int32) : Nat := if ixB f (mnF M) = true then 0 else 1
def thAdd (M : ecM) : Nat := if mnR M = 4 then 1 else 0
def thSet (M : ecM) (r c s : Int32) : Nat := if ixB r (mnR M) = true then (if stB c s = true then 0 else 2) else 1
def smB (pl a b c d : Int32) : Bool := (((rgB pl 0 9 && (decide (a = 1) || decide (a = -1))) && rgB b (-9) 9) && rgB c (-9) 9) && rgB d (-9) 9
def thMes (M : ecM) (r pl a b c d : Int32) : Nat := if ixB r (mnR M) = true then (if smB pl a b c d = true then (if mnA M = 40 then 3 else 0) else 2) else 1
def thSam (M : ecM) (a i : Int32) : Nat := if ixB a (mnA M) = true then (if ixB i 4 = true then 0 else 2) else 1
def thLat (M : ecM) (r pl c s : Int32) (o : Bool) : Nat := if ixB r (mnR M) = true then (if (rgB pl 0 9 && stB c s) = true then (if (latN M (cN r) pl (cdN c s o) (mnA M)).isSome = true then 0 else 3) else 2) else 1
def thMak (M : ecM) (a : Int32) : Nat := if ixB a (mnA M) = true then (if mnF M = 20 then 2 else 0) else 1
def thTap (M : ecM) (f i : Int32) : Nat := if ixB f (mnF M) = true then (if ixB i 6 = true then 0 else 2) else 1
def thUse (M : ecM) (f x : Int32) : Nat := if ixB f (mnF M) = true then (if rgB x (-999) 999 = true then (if barM M (cN f) = 45 then 0 else 3) else 2) else 1
def thPr (M : ecM) (f a : Int32) : Nat := if (ixB f (mnF M) && ixB a (mnA M)) = true then 0 else 1
def thPro (M : ecM) (f a i : Int32) : Nat := if (ixB f (mnF M) && ixB a (mnA M)) = true then (if ixB i 6 = true then 0 else 2) else 1
def thLim (x : Int32) : Nat := if rgB x 0 999 = true then 0 else 1
def bkB (M : ecM) (c s f l : Int32) : Bool := ((stB c s && decide (mhr M < f)) && decide (f ≤ l)) && decide (l ≤ 9999)
def thBok (M : ecM) (r c s : Int32) (o : Bool) (f l : Int32) : Nat := if ixB r (mnR M) = true then (if bkB M c s f l = true then (if (clM M (cN r) (cdN c s o) f l).isSome = true then 3 else if mnB M = 16 then 4 else 0) else 2) else 1
def thCla (M : ecM) (r c s : Int32) (o : Bool) (f l : Int32) : Nat := if ixB r (mnR M) = true then (if (stB c s && decide (f ≤ l)) = true then (if (clM M (cN r) (cdN c s o) f l).isSome = true then 0 else 3) else 2) else 1
def thCan (M : ecM) (b : Int32) : Nat := if ixB b (mnB M) = true then (if M.1 6 (cN b) = 0 ∧ mhr M < M.2.1 7 (cN b) then 0 else 2) else 1
def thPas (M : ecM) (h : Int32) : Nat := if rgB h 1 48 = true ∧ mhr M + h ≤ 9999 then 0 else 1
def thNxt (M : ecM) (r : Int32) : Nat := if ixB r (mnR M) = true then (if (nxtN M (cN r) (mnB M)).isSome = true then 0 else 2) else 1
def thSha (M : ecM) : Nat := if mnF M = 0 then 1 else 0
theorem ecx {cs : List (String × Nat)} {t n : Nat} {E C : String} (ht : t = n) (hE : E = C) (h : (C, n) ∈ cs) : (E, t) ∈ cs := by rw [ht, hE]; exact h
theorem smN_s {M : ecM} {r n : Nat} : smN M r (n + 1) = smN M r n + (if decide (M.1 1 n = r) && frN M n n then 1 else 0) := rfl
theorem freN_s {M : ecM} {n : Nat} : freN M (n + 1) = freN M n + (if barM M n = 45 then 1 else 0) := rfl
