/-! sets of users as numbers below 64 -/
theorem nI_or (a b : Nat) : nI a ||| nI b = nI (a ||| b) := by
  apply ti_ext
  intro i hi
  rw [ti_or, ti_nI, ti_nI, ti_nI, Nat.testBit_or]
  simp [hi]
theorem nI_and (a b : Nat) : nI a &&& nI b = nI (a &&& b) := by
  apply ti_ext
  intro i hi
  rw [ti_and, ti_nI, ti_nI, ti_nI, Nat.testBit_and]
  simp [hi]
theorem i1_nI {k : Nat} (hk : k < 32) : i1 k = nI (2 ^ k) := by
  apply ti_ext
  intro i hi
  rw [ti_i1 hk hi, ti_nI, Nat.testBit_two_pow]
  by_cases h : i = k
  · subst h; simp [hi]
  · simp [h, Ne.symm h]
def sdf (s a : Nat) : Nat := s &&& (63 ^^^ a)
theorem t63 {i : Nat} (h : i < 6) : Nat.testBit 63 i = true := by
  have : ∀ i, i < 6 → Nat.testBit 63 i = true := by decide
  exact this i h
theorem tb_hi {s i : Nat} (hs : s < 64) (h : 6 ≤ i) : s.testBit i = false := Nat.testBit_lt_two_pow (Nat.lt_of_lt_of_le (show s < 2 ^ 6 from hs) (Nat.pow_le_pow_right (by decide) h))
theorem sdf_bit {s a : Nat} (hs : s < 64) (i : Nat) : (sdf s a).testBit i = (s.testBit i && !a.testBit i) := by
  unfold sdf
  rw [Nat.testBit_and, Nat.testBit_xor]
  by_cases h : i < 6
  · rw [t63 h]; simp
  · rw [tb_hi hs (by omega)]; simp
theorem sdf_lt {s a : Nat} (hs : s < 64) : sdf s a < 64 := Nat.lt_of_le_of_lt Nat.and_le_left hs
theorem nI_sdf {s a : Nat} (hs : s < 64) : nI s &&& (nI a ^^^ -nI 1) = nI (sdf s a) := by
  apply ti_ext
  intro i hi
  rw [ti_and, ti_xor, ti_nI, ti_nI, ti_nI, ti_m1 hi, sdf_bit hs]
  simp [hi]
theorem nI_sdf1 {s u : Nat} (hs : s < 64) (hu : u < 32) : nI s &&& (i1 u ^^^ -nI 1) = nI (sdf s (2 ^ u)) := by rw [i1_nI hu]; exact nI_sdf hs
/-- all of s is in a -/
def sub6 (s a : Nat) : Prop := sdf s a = 0
theorem ti_nI6 {s i : Nat} (hi : i < 32) : ti (nI s) i = s.testBit i := by rw [ti_nI]; simp [hi]
theorem pow6 {u : Nat} (h : u < 6) : 2 ^ u < 64 := by
  have : ∀ u, u < 6 → 2 ^ u < 64 := by decide
  exact this u h
theorem sdf_self {s u : Nat} (hs : s < 64) : sdf s (2 ^ u) = s ↔ s.testBit u = false := by
  constructor
  · intro h
    have := congrArg (fun z => z.testBit u) h
    rw [sdf_bit hs, Nat.testBit_two_pow] at this
    simp at this
    exact this
  · intro h
    apply Nat.eq_of_testBit_eq
    intro i
    rw [sdf_bit hs, Nat.testBit_two_pow]
    by_cases e : u = i
    · subst e; simp [h]
    · simp [e]
/-- bit u of a set of users put in -/
theorem or_lt {a k : Nat} (ha : a < 64) (hk : k < 6) : a ||| 2 ^ k < 64 := Nat.or_lt_two_pow (n := 6) ha (pow6 hk)
theorem bit_nat {s k : Nat} (hk : k < 32) : nI s >>> (nI k &&& 31) &&& nI 1 = nI (s.testBit k).toNat := by rw [bit32 hk, ti_nI6 hk]
