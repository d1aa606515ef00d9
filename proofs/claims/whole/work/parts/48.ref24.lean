/-! the reference, part 24: rates -/
/-- b of a -/
def chs : Nat → Nat → Nat
  | _, 0 => 1
  | 0, _ + 1 => 0
  | a + 1, b + 1 => chs a b + chs a (b + 1)
theorem nst_chs : ∀ k, k < 7 → ∀ t, t < 9 → nst t (2 ^ k) = chs k t := by decide +kernel
def lsN (nf nu : Nat) : Nat := if nf < nu then nf else nu
/-- the rate with sets of t users -/
def rvF (nf nu t : Nat) : UInt32 := FP.fdiv (FP.i2f (nI (chs nu (t + 1)) - nI (chs (nu - lsN nf nu) (t + 1)))) (FP.i2f (nI (chs nu t)))
theorem rvF_n : ∀ nf, nf < 6 → ∀ nu, nu < 7 → ∀ t, t ≤ nu → n3 (rvF nf nu t) = true := by decide +kernel
def o_rate (hn : Nat) : Int32 := (bts (FP.fdiv (FP.i2f (nI hn)) 1094713344)).getD 0
theorem isS {o : Option Int32} (h : o.isSome = true) : o = some (o.getD 0) := by cases o with | none => exact absurd h (by decide) | some a => rfl
theorem fml_s : ∀ nf, nf < 6 → ∀ nu, nu < 7 → ∀ t, t ≤ nu → 1 ≤ nf → (bts (rvF nf nu t)).isSome = true := by decide +kernel
def o_formula (nf nu : Nat) (x : Int32) : Int32 := if isIx x (nu + 1) = true then (bts (rvF nf nu (ix x))).getD 0 else -nI 101
def shX (nf nu nc : Nat) : UInt32 := if cmL (FP.fdiv (FP.i2f (nI (nu * nc))) (FP.i2f (nI (12 * nf)))) (FP.i2f (nI nu)) ≤ 0 then FP.fdiv (FP.i2f (nI (nu * nc))) (FP.i2f (nI (12 * nf))) else FP.i2f (nI nu)
def shT (nf nu nc : Nat) : Nat := (FP.f2i (shX nf nu nc)).toInt.toNat
def shY (nf nu nc : Nat) : UInt32 := FP.fsub (shX nf nu nc) (FP.i2f (nI (shT nf nu nc)))
def shZ (nf nu nc : Nat) : UInt32 := if cmL (shY nf nu nc) FP.fconst0 = 0 then rvF nf nu (shT nf nu nc) else FP.fadd (rvF nf nu (shT nf nu nc)) (FP.fmul (shY nf nu nc) (FP.fsub (rvF nf nu (shT nf nu nc + 1)) (rvF nf nu (shT nf nu nc))))
def shC (nf nu nc : Nat) : Bool := n3 (FP.fdiv (FP.i2f (nI (nu * nc))) (FP.i2f (nI (12 * nf)))) && decide (FP.f2i (shX nf nu nc) = nI (shT nf nu nc)) && decide (shT nf nu nc ≤ nu) && n3 (shY nf nu nc) && (decide (cmL (shY nf nu nc) FP.fconst0 = 0) || (decide (shT nf nu nc + 1 ≤ nu) && n3 (FP.fsub (rvF nf nu (shT nf nu nc + 1)) (rvF nf nu (shT nf nu nc))) && n3 (FP.fmul (shY nf nu nc) (FP.fsub (rvF nf nu (shT nf nu nc + 1)) (rvF nf nu (shT nf nu nc)))) && n3 (shZ nf nu nc))) && (bts (shZ nf nu nc)).isSome
theorem shC_t : ∀ nf, nf < 6 → 1 ≤ nf → ∀ nu, nu < 7 → 1 ≤ nu → ∀ nc, nc < 61 → shC nf nu nc = true := by decide +kernel
def o_shared (nf nu nc : Nat) : Int32 := (bts (shZ nf nu nc)).getD 0
