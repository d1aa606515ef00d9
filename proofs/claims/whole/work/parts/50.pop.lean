/-! counting bits by lanes -/
/-- n lanes of w bits -/
def Lz (w : Nat) (f : Nat → Nat) : Nat → Nat
  | 0 => 0
  | n + 1 => Lz w f n + f n * 2 ^ (w * n)
theorem Lz_lt {w : Nat} {f : Nat → Nat} (h : ∀ k, f k < 2 ^ w) : ∀ n, Lz w f n < 2 ^ (w * n)
  | 0 => by rw [Lz, Nat.mul_zero]; decide
  | n + 1 => by
    have ih := Lz_lt h n
    have h1 := h n
    rw [Lz, Nat.mul_succ, Nat.pow_add]
    have h2 : f n * 2 ^ (w * n) ≤ (2 ^ w - 1) * 2 ^ (w * n) := Nat.mul_le_mul_right _ (by omega)
    have h3 : (2 ^ w - 1) * 2 ^ (w * n) + 2 ^ (w * n) = 2 ^ (w * n) * 2 ^ w := by
      rw [Nat.mul_comm (2 ^ (w * n)) (2 ^ w), ← Nat.succ_mul]
      congr 1
      omega
    omega
theorem Lz_eq {w : Nat} {f g : Nat → Nat} : ∀ n, (∀ k, k < n → f k = g k) → Lz w f n = Lz w g n
  | 0, _ => rfl
  | n + 1, h => by rw [Lz, Lz, Lz_eq n (fun k hk => h k (by omega)), h n (by omega)]
theorem Lz_add {w : Nat} (f g : Nat → Nat) : ∀ n, Lz w f n + Lz w g n = Lz w (fun k => f k + g k) n
  | 0 => rfl
  | n + 1 => by
    rw [Lz, Lz, Lz, ← Lz_add f g n, Nat.add_mul]
    omega
theorem Lz_bit {w : Nat} {f : Nat → Nat} (h : ∀ k, f k < 2 ^ w) {j : Nat} (hj : j < w) : ∀ n k, (Lz w f n).testBit (w * k + j) = (decide (k < n) && (f k).testBit j)
  | 0, k => by rw [Lz, Nat.zero_testBit, decide_eq_false (by omega)]; rfl
  | n + 1, k => by
    rw [Lz, Nat.add_comm, Nat.mul_comm (f n), Nat.testBit_two_pow_mul_add _ (Lz_lt h n)]
    by_cases e : k < n
    · have : w * k + j < w * n := by
        have := Nat.mul_le_mul_left w (show k + 1 ≤ n from e)
        rw [Nat.mul_succ] at this
        omega
      rw [if_pos this, Lz_bit h hj n k, decide_eq_true e, decide_eq_true (by omega)]
    · have h1 : w * n ≤ w * k := Nat.mul_le_mul_left w (by omega)
      rw [if_neg (by omega)]
      by_cases e2 : k = n
      · subst e2
        rw [Nat.add_sub_cancel_left, decide_eq_true (by omega), Bool.true_and]
      · rw [decide_eq_false (by omega), Bool.false_and]
        apply Nat.testBit_lt_two_pow
        have h2 : w * (n + 1) ≤ w * k := Nat.mul_le_mul_left w (by omega)
        rw [Nat.mul_succ] at h2
        exact Nat.lt_of_lt_of_le (h n) (Nat.pow_le_pow_right (by decide) (by omega))
theorem lane {w : Nat} (hw : 0 < w) (i : Nat) : i = w * (i / w) + i % w := (Nat.div_add_mod i w).symm
theorem Lz_shr {w : Nat} (hw : 0 < w) {f : Nat → Nat} (h : ∀ k, f k < 2 ^ w) {n : Nat} (hz : ∀ k, n ≤ k → f k = 0) (s : Nat) : Lz w f n >>> (w * s) = Lz w (fun k => f (k + s)) n := by
  apply Nat.eq_of_testBit_eq
  intro i
  have hm := Nat.mod_lt i hw
  rw [Nat.testBit_shiftRight, lane hw i, ← Nat.add_assoc, ← Nat.mul_add, Lz_bit h hm, Lz_bit (fun k => h (k + s)) hm, Nat.add_comm s]
  by_cases e : i / w + s < n
  · rw [decide_eq_true e, decide_eq_true (by omega)]
  · rw [decide_eq_false e, Bool.false_and, hz _ (by omega), Nat.zero_testBit, Bool.and_false]
theorem Lz_even {w : Nat} (hw : 0 < w) {f : Nat → Nat} (h : ∀ k, f k < 2 ^ w) (n : Nat) : Lz w f (2 * n) &&& Lz (2 * w) (fun _ => 2 ^ w - 1) n = Lz (2 * w) (fun k => f (2 * k)) n := by
  have hp : 2 ^ w ≤ 2 ^ (2 * w) := Nat.pow_le_pow_right (by decide) (by omega)
  have h1 : ∀ k, f (2 * k) < 2 ^ (2 * w) := fun k => Nat.lt_of_lt_of_le (h _) hp
  have h2 : ∀ k : Nat, (fun _ : Nat => 2 ^ w - 1) k < 2 ^ (2 * w) := fun k => by
    have : 0 < 2 ^ w := Nat.two_pow_pos w
    show 2 ^ w - 1 < _
    omega
  apply Nat.eq_of_testBit_eq
  intro i
  have hm := Nat.mod_lt i (show 0 < 2 * w by omega)
  rw [Nat.testBit_and, lane (show 0 < 2 * w by omega) i, Lz_bit h2 hm, Lz_bit h1 hm, Nat.testBit_two_pow_sub_one]
  by_cases e : i % (2 * w) < w
  · rw [show 2 * w * (i / (2 * w)) = w * (2 * (i / (2 * w))) from by rw [← Nat.mul_assoc, Nat.mul_comm w 2], Lz_bit h e, decide_eq_true e, Bool.and_true]
    by_cases q : i / (2 * w) < n
    · rw [decide_eq_true q, decide_eq_true (by omega), Bool.and_true]
    · rw [decide_eq_false q, Bool.and_false, Bool.false_and]
  · rw [decide_eq_false e, Bool.and_false, Bool.and_false]
    rw [Nat.testBit_lt_two_pow (Nat.lt_of_lt_of_le (h _) (Nat.pow_le_pow_right (by decide) (by omega))), Bool.and_false]
theorem Lz_pair {w : Nat} (f : Nat → Nat) : ∀ n, Lz w f (2 * n) = Lz (2 * w) (fun k => f (2 * k) + 2 ^ w * f (2 * k + 1)) n
  | 0 => rfl
  | n + 1 => by
    rw [show 2 * (n + 1) = 2 * n + 1 + 1 from by omega, Lz, Lz, Lz_pair f n, Lz, Nat.add_mul, show w * (2 * n + 1) = w + 2 * w * n from by rw [Nat.mul_add, Nat.mul_one, ← Nat.mul_assoc, Nat.mul_comm w 2, Nat.add_comm], Nat.pow_add, show w * (2 * n) = 2 * w * n from by rw [← Nat.mul_assoc, Nat.mul_comm w 2], Nat.mul_comm (2 ^ w) (f (2 * n + 1)), Nat.mul_assoc (f (2 * n + 1)), Nat.add_assoc]
theorem Lz_low {w : Nat} (f : Nat → Nat) : ∀ n, 0 < n → ∃ r, Lz w f n = f 0 + 2 ^ w * r
  | 0, h => absurd h (Nat.lt_irrefl 0)
  | 1, _ => ⟨0, by rw [Lz, Lz, Nat.mul_zero, Nat.mul_zero]; omega⟩
  | n + 2, _ => by
    obtain ⟨r, hr⟩ := Lz_low f (n + 1) (by omega)
    refine ⟨r + f (n + 1) * 2 ^ (w * n), ?_⟩
    rw [Lz, hr, Nat.mul_succ, Nat.pow_add, Nat.mul_add]
    rw [Nat.mul_comm (2 ^ (w * n)) (2 ^ w), ← Nat.mul_assoc, ← Nat.mul_assoc, Nat.mul_comm (f (n + 1)) (2 ^ w)]
    omega
/-- the bits of x, one a lane -/
theorem Lz_bits (x : Nat) : ∀ n, Lz 1 (fun k => (decide (k < n) && x.testBit k).toNat) n = x % 2 ^ n := by
  intro n
  apply Nat.eq_of_testBit_eq
  intro i
  have h : ∀ k, (fun k => (decide (k < n) && x.testBit k).toNat) k < 2 ^ 1 := fun k => by
    have := Bool.toNat_le (decide (k < n) && x.testBit k)
    show (decide (k < n) && x.testBit k).toNat < 2
    omega
  have := Lz_bit h (show 0 < 1 by decide) n i
  rw [Nat.one_mul, Nat.add_zero] at this
  rw [this, Nat.testBit_mod_two_pow]
  cases decide (i < n) <;> cases x.testBit i <;> rfl
