/-! updates of updates -/
theorem up2_r0 {α : Type} (f : Nat → Nat → α) (i : Nat) {k : Nat} {v : α} : up2 f i k v = va_up f i (va_up (f i) k v) := rfl
theorem up2_r1 {α : Type} {f : Nat → Nat → α} {i : Nat} {r : Nat → α} {k : Nat} {v : α} : up2 (va_up f i r) i k v = va_up f i (va_up r k v) := by
  unfold up2
  funext a
  by_cases h : a = i
  · subst h; rw [va_up_self, va_up_self, va_up_self]
  · rw [va_up_ne _ _ h, va_up_ne _ _ h, va_up_ne _ _ h]
theorem up2_r2 {α : Type} {f : Nat → Nat → α} {i j : Nat} {s : Nat → α} {k : Nat} {v : α} (h : j ≠ i) : up2 (va_up f j s) i k v = va_up (up2 f i k v) j s := by
  unfold up2
  funext a
  rw [va_up_ne f s (Ne.symm h)]
  by_cases h1 : a = i
  · subst h1; rw [va_up_self, va_up_ne _ _ (Ne.symm h), va_up_self]
  · rw [va_up_ne _ _ h1]
    by_cases h2 : a = j
    · subst h2; rw [va_up_self, va_up_self]
    · rw [va_up_ne _ _ h2, va_up_ne _ _ h2, va_up_ne _ _ h1]
theorem up2_c1 {α : Type} {f : Nat → Nat → α} {i k : Nat} {v w : α} : up2 (up2 f i k v) i k w = up2 f i k w := by
  funext a b
  rw [up2_eq, up2_eq, up2_eq, up2_eq]
  by_cases h : a = i <;> by_cases h2 : b = k <;> simp [h, h2]
theorem up2_c2 {α : Type} {f : Nat → Nat → α} {i k j l : Nat} {s v : α} (h : j ≠ i ∨ l ≠ k) : up2 (up2 f j l s) i k v = up2 (up2 f i k v) j l s := by
  funext a b
  simp only [up2_eq]
  by_cases h1 : a = i <;> by_cases h2 : a = j <;> by_cases h3 : b = k <;> by_cases h4 : b = l <;> simp_all
theorem va_up1 {α : Type} {f : Nat → α} {i : Nat} {r s : α} : va_up (va_up f i r) i s = va_up f i s := by
  funext a
  by_cases h : a = i
  · subst h; rw [va_up_self, va_up_self]
  · rw [va_up_ne _ _ h, va_up_ne _ _ h, va_up_ne _ _ h]
theorem va_up2 {α : Type} {f : Nat → α} {i j : Nat} {r s : α} (h : j ≠ i) : va_up (va_up f j s) i r = va_up (va_up f i r) j s := by
  funext a
  by_cases h1 : a = i
  · subst h1; rw [va_up_self, va_up_ne _ _ (Ne.symm h), va_up_self]
  · rw [va_up_ne _ _ h1]
    by_cases h2 : a = j
    · subst h2; rw [va_up_self, va_up_self]
    · rw [va_up_ne _ _ h2, va_up_ne _ _ h2, va_up_ne _ _ h1]
theorem va_id {α : Type} (f : Nat → α) (i : Nat) : va_up f i (f i) = f := by
  funext a
  by_cases h : a = i
  · subst h; rw [va_up_self]
  · rw [va_up_ne _ _ h]
/-- an index that is in range, as the reference and the class both ask it -/
def isIx (x : Int32) (n : Nat) : Bool := decide (0 ≤ x.toInt ∧ x.toInt < n)
theorem isIx_nI {j n : Nat} (hj : j < 2 ^ 31) : isIx (nI j) n = decide (j < n) := by
  unfold isIx
  rw [nI_toInt hj]
  by_cases h : j < n
  · rw [decide_eq_true h, decide_eq_true]; omega
  · rw [decide_eq_false h, decide_eq_false]; omega
theorem isIx_t {x : Int32} {n : Nat} (h : isIx x n = true) : ∃ j : Nat, j < n ∧ x = nI j := by
  unfold isIx at h
  have h := of_decide_eq_true h
  have hr : x.toInt < 2 ^ 31 := Int32.toInt_lt x
  refine ⟨x.toInt.toNat, by omega, Int32.toInt_inj.mp ?_⟩
  rw [nI_toInt (by omega)]
  omega
theorem S_lveq {X : MX} {Y : PS} {pc : Nat} {lv lv' : List (Nat × Value)} {st : List Value} {I : FI} {J : FJ} {A : FI} {B : FJ} {kc n : Nat} (h : lv = lv') (kk : Sim X Y pc lv' st I J A B kc n) : Sim X Y pc lv st I J A B kc n := by rw [h]; exact kk
theorem S_steq {X : MX} {Y : PS} {pc : Nat} {lv : List (Nat × Value)} {st st' : List Value} {I : FI} {J : FJ} {A : FI} {B : FJ} {kc n : Nat} (h : st = st') (kk : Sim X Y pc lv st' I J A B kc n) : Sim X Y pc lv st I J A B kc n := by rw [h]; exact kk
