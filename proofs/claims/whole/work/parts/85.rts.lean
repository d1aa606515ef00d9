/-! the class' bits of a float: finite facts -/
def cU : Nat → UInt32 → Int32 → Option (UInt32 × Int32)
  | 0, _, _ => none
  | k + 1, y, e => if cmL y FP.fconst2 < 0 then some (y, e) else if nI 254 ≤ e then some (y, e) else if n3 (FP.fdiv y FP.fconst2) = true then cU k (FP.fdiv y FP.fconst2) (e + nI 1) else none
def cD : Nat → UInt32 → Int32 → Option (UInt32 × Int32)
  | 0, _, _ => none
  | k + 1, y, e => if 0 ≤ cmG y FP.fconst1 then some (y, e) else if e ≤ nI 1 then some (y, e) else if n3 (FP.fmul y FP.fconst2) = true then cD k (FP.fmul y FP.fconst2) (e + -nI 1) else none
/-- the bits of a float, as the class finds them -/
def btc (x : UInt32) : Option Int32 :=
  if 0 < cmG x FP.fconst0 then
  match cU 200 x (nI 127) with
  | none => none
  | some (y, e) => match cD 200 y e with
    | none => none
    | some (z, f) => if n3 (FP.fsub z FP.fconst1) = true then (if n3 (FP.fmul (FP.fsub z FP.fconst1) 1258291200) = true then some ((f <<< (nI 23 &&& 31)) + FP.f2i (FP.fmul (FP.fsub z FP.fconst1) 1258291200)) else none) else none
  else some (nI 0)
/-- ways to choose, as the class reckons them -/
def chI (a : Int32) : Nat → Int32
  | 0 => nI 1
  | i + 1 => (chI a i * (a - nI (i + 1) + nI 1)) / nI (i + 1)
theorem chI_c : ∀ a, a < 7 → ∀ t, t < 9 → chI (nI a) t = nI (chs a t) := by decide +kernel
theorem tst2 : ∀ n, n < 101 → btc (FP.fdiv (FP.i2f (nI n)) 1094713344) = bts (FP.fdiv (FP.i2f (nI n)) 1094713344) := by decide +kernel
theorem fml2 : ∀ nf, nf < 6 → ∀ nu, nu < 7 → ∀ t, t ≤ nu → 1 ≤ nf → btc (rvF nf nu t) = bts (rvF nf nu t) := by decide +kernel
def sh2 (nf nu nc : Nat) : Bool := decide (btc (shZ nf nu nc) = bts (shZ nf nu nc))
theorem shC2 : ∀ nf, nf < 6 → 1 ≤ nf → ∀ nu, nu < 7 → 1 ≤ nu → ∀ nc, nc < 61 → sh2 nf nu nc = true := by decide +kernel
