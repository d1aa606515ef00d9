/-! how the class' world at base b stands for the row m -/
def r0w (b : Nat) (m : Nat → Int64) (I : FI) (J : FJ) (A : FI) (B : FJ) : Prop := I b 5 = (m 0).toInt32 ∧ I b 6 = (m 1).toInt32 ∧ I b 7 = (m 2).toInt32 ∧ I b 9 = (m 620).toInt32
def r1w (b : Nat) (m : Nat → Int64) (I : FI) (J : FJ) (A : FI) (B : FJ) : Prop := I b 8 = preS m (gN (m 1))
def r2w (b : Nat) (m : Nat → Int64) (I : FI) (J : FJ) (A : FI) (B : FJ) : Prop := ∀ p, p < 60 → A (b + 1) p = (m (3 + p)).toInt32
def r3w (b : Nat) (m : Nat → Int64) (I : FI) (J : FJ) (A : FI) (B : FJ) : Prop := ∀ u, u < 6 → J (b + 20 + 4 * u) 1 = m (63 + u) ∧ I (b + 20 + 4 * u) 2 = (m (69 + u)).toInt32
def r4w (b : Nat) (m : Nat → Int64) (I : FI) (J : FJ) (A : FI) (B : FJ) : Prop := ∀ u, u < 6 → I (b + 20 + 4 * u + 1) 2 = nI 40 ∧ I (b + 20 + 4 * u + 1) 3 = nI (lnG m u) ∧ ∀ k, k < lnG m u → B (b + 20 + 4 * u + 1 + 1) k = m (87 + 40 * u + k)
def r5w (b : Nat) (m : Nat → Int64) (I : FI) (J : FJ) (A : FI) (B : FJ) : Prop := ∀ u, u < 6 → ∀ k, k < lnG m u → A (b + 20 + 4 * u + 1 + 2) k = cnX (fun p => (m (3 + p)).toInt32) (m (87 + 40 * u + k)) (12 * gN (m 0))
def r6w (b : Nat) (m : Nat → Int64) (I : FI) (J : FJ) (A : FI) (B : FJ) : Prop := I (b + 3) 2 = nI 100 ∧ I (b + 3) 3 = nI (gN (m 327)) ∧ ∀ k, k < gN (m 327) → B (b + 3 + 1) k = m (328 + k)
def r7w (b : Nat) (m : Nat → Int64) (I : FI) (J : FJ) (A : FI) (B : FJ) : Prop := I (b + 6) 2 = nI 100 ∧ I (b + 6) 3 = nI (gN (m 428)) ∧ ∀ k, k < gN (m 428) → B (b + 6 + 1) k = m (429 + k)
def r8w (b : Nat) (m : Nat → Int64) (I : FI) (J : FJ) (A : FI) (B : FJ) : Prop := I (b + 9) 3 = nI (gN (m 529)) ∧ ∀ k, k < gN (m 529) → A (b + 10) k = (m (530 + 3 * k)).toInt32 ∧ A (b + 11) k = (m (530 + 3 * k + 1)).toInt32 ∧ A (b + 12) k = (m (530 + 3 * k + 2)).toInt32
def RepW (b : Nat) (m : Nat → Int64) (I : FI) (J : FJ) (A : FI) (B : FJ) : Prop := r0w b m I J A B ∧ r1w b m I J A B ∧ r2w b m I J A B ∧ r3w b m I J A B ∧ r4w b m I J A B ∧ r5w b m I J A B ∧ r6w b m I J A B ∧ r7w b m I J A B ∧ r8w b m I J A B
theorem preS_cong {m m' : Nat → Int64} (h : ∀ j, 75 ≤ j → j < 81 → m' j = m j) : ∀ k, k ≤ 6 → preS m' k = preS m k
  | 0, _ => rfl
  | k + 1, hk => by unfold preS; rw [preS_cong h k (by omega), h (75 + k) (by omega) (by omega)]
theorem cnX_cong {c c' : Nat → Int32} {s : Int64} : ∀ n, (∀ p, p < n → c' p = c p) → cnX c' s n = cnX c s n
  | 0, _ => rfl
  | n + 1, h => by unfold cnX; rw [cnX_cong n (fun p hp => h p (by omega)), h n (by omega)]
/-- the place of a world -/
def inW (b i : Nat) : Prop := b ≤ i ∧ i < b + 44

theorem r0_m {b : Nat} {m m' : Nat → Int64} {I : FI} {J : FJ} {A : FI} {B : FJ} (h : r0w b m I J A B) (e : ∀ j, j < 3 ∨ j = 620 → m' j = m j) : r0w b m' I J A B := by
  unfold r0w at h ⊢
  rw [e 0 (by omega), e 1 (by omega), e 2 (by omega), e 620 (by omega)]
  exact h
theorem r1_m {b : Nat} {m m' : Nat → Int64} {I : FI} {J : FJ} {A : FI} {B : FJ} (h : r1w b m I J A B) (hu : gN (m 1) ≤ 6) (e : ∀ j, j = 1 ∨ 75 ≤ j ∧ j < 81 → m' j = m j) : r1w b m' I J A B := by
  unfold r1w at h ⊢
  rw [e 1 (by omega), preS_cong (fun j a b => e j (by omega)) _ hu]
  exact h
theorem r2_m {b : Nat} {m m' : Nat → Int64} {I : FI} {J : FJ} {A : FI} {B : FJ} (h : r2w b m I J A B) (e : ∀ j, 3 ≤ j → j < 63 → m' j = m j) : r2w b m' I J A B := fun p hp => by rw [e _ (by omega) (by omega)]; exact h p hp
theorem r3_m {b : Nat} {m m' : Nat → Int64} {I : FI} {J : FJ} {A : FI} {B : FJ} (h : r3w b m I J A B) (e : ∀ j, 63 ≤ j → j < 75 → m' j = m j) : r3w b m' I J A B := fun u hu => by rw [e _ (by omega) (by omega), e _ (by omega) (by omega)]; exact h u hu
theorem r4_m {b : Nat} {m m' : Nat → Int64} {I : FI} {J : FJ} {A : FI} {B : FJ} (h : r4w b m I J A B) (hl : ∀ u, u < 6 → lnG m u ≤ 40) (e : ∀ j, 81 ≤ j → j < 327 → m' j = m j) : r4w b m' I J A B := fun u hu => by
  have h1 : lnG m' u = lnG m u := by unfold lnG; rw [e _ (by omega) (by omega)]
  have h2 := hl u hu
  rw [h1]
  exact ⟨(h u hu).1, (h u hu).2.1, fun k hk => by rw [e _ (by omega) (by omega)]; exact (h u hu).2.2 k hk⟩
theorem r5_m {b : Nat} {m m' : Nat → Int64} {I : FI} {J : FJ} {A : FI} {B : FJ} (h : r5w b m I J A B) (hf : gN (m 0) ≤ 5) (hl : ∀ u, u < 6 → lnG m u ≤ 40) (e : ∀ j, j = 0 ∨ 3 ≤ j ∧ j < 63 ∨ 81 ≤ j ∧ j < 327 → m' j = m j) : r5w b m' I J A B := fun u hu k hk => by
  have h1 : lnG m' u = lnG m u := by unfold lnG; rw [e _ (by omega)]
  have h2 := hl u hu
  rw [h1] at hk
  rw [e _ (by omega), e 0 (by omega), cnX_cong (c := fun p => (m (3 + p)).toInt32) (c' := fun p => (m' (3 + p)).toInt32) _ (fun p hp => by show (m' (3 + p)).toInt32 = _; rw [e _ (by omega)])]
  exact h u hu k hk
theorem r6_m {b : Nat} {m m' : Nat → Int64} {I : FI} {J : FJ} {A : FI} {B : FJ} (h : r6w b m I J A B) (hq : gN (m 327) ≤ 100) (e : ∀ j, 327 ≤ j → j < 428 → m' j = m j) : r6w b m' I J A B := by
  unfold r6w at h ⊢
  rw [e 327 (by omega) (by omega)]
  exact ⟨h.1, h.2.1, fun k hk => by rw [e _ (by omega) (by omega)]; exact h.2.2 k hk⟩
theorem r7_m {b : Nat} {m m' : Nat → Int64} {I : FI} {J : FJ} {A : FI} {B : FJ} (h : r7w b m I J A B) (hq : gN (m 428) ≤ 100) (e : ∀ j, 428 ≤ j → j < 529 → m' j = m j) : r7w b m' I J A B := by
  unfold r7w at h ⊢
  rw [e 428 (by omega) (by omega)]
  exact ⟨h.1, h.2.1, fun k hk => by rw [e _ (by omega) (by omega)]; exact h.2.2 k hk⟩
theorem r8_m {b : Nat} {m m' : Nat → Int64} {I : FI} {J : FJ} {A : FI} {B : FJ} (h : r8w b m I J A B) (hq : gN (m 529) ≤ 30) (e : ∀ j, 529 ≤ j → j < 620 → m' j = m j) : r8w b m' I J A B := by
  unfold r8w at h ⊢
  rw [e 529 (by omega) (by omega)]
  exact ⟨h.1, fun k hk => by rw [e _ (by omega) (by omega), e _ (by omega) (by omega), e _ (by omega) (by omega)]; exact h.2 k hk⟩
theorem r0_h {b : Nat} {m : Nat → Int64} {I I' : FI} {J J' : FJ} {A A' : FI} {B B' : FJ} (h : r0w b m I J A B) (e : ∀ k, k ≠ 8 → I' b k = I b k) : r0w b m I' J' A' B' := by unfold r0w at h ⊢; rw [e 5 (by omega), e 6 (by omega), e 7 (by omega), e 9 (by omega)]; exact h
theorem r1_h {b : Nat} {m : Nat → Int64} {I I' : FI} {J J' : FJ} {A A' : FI} {B B' : FJ} (h : r1w b m I J A B) (e : I' b 8 = I b 8) : r1w b m I' J' A' B' := by unfold r1w at h ⊢; rw [e]; exact h
theorem r2_h {b : Nat} {m : Nat → Int64} {I I' : FI} {J J' : FJ} {A A' : FI} {B B' : FJ} (h : r2w b m I J A B) (e : A' (b + 1) = A (b + 1)) : r2w b m I' J' A' B' := by unfold r2w at h ⊢; rw [e]; exact h
theorem r3_h {b : Nat} {m : Nat → Int64} {I I' : FI} {J J' : FJ} {A A' : FI} {B B' : FJ} (h : r3w b m I J A B) (eJ : ∀ u, u < 6 → J' (b + 20 + 4 * u) 1 = J (b + 20 + 4 * u) 1) (eI : ∀ u, u < 6 → I' (b + 20 + 4 * u) 2 = I (b + 20 + 4 * u) 2) : r3w b m I' J' A' B' := fun u hu => by rw [eJ u hu, eI u hu]; exact h u hu
theorem r4_h {b : Nat} {m : Nat → Int64} {I I' : FI} {J J' : FJ} {A A' : FI} {B B' : FJ} (h : r4w b m I J A B) (eI : ∀ u, u < 6 → ∀ k, I' (b + 20 + 4 * u + 1) k = I (b + 20 + 4 * u + 1) k) (eB : ∀ u, u < 6 → B' (b + 20 + 4 * u + 1 + 1) = B (b + 20 + 4 * u + 1 + 1)) : r4w b m I' J' A' B' := fun u hu => by rw [eI u hu 2, eI u hu 3, eB u hu]; exact h u hu
theorem r5_h {b : Nat} {m : Nat → Int64} {I I' : FI} {J J' : FJ} {A A' : FI} {B B' : FJ} (h : r5w b m I J A B) (eA : ∀ u, u < 6 → A' (b + 20 + 4 * u + 1 + 2) = A (b + 20 + 4 * u + 1 + 2)) : r5w b m I' J' A' B' := fun u hu k hk => by rw [eA u hu]; exact h u hu k hk
theorem r6_h {b : Nat} {m : Nat → Int64} {I I' : FI} {J J' : FJ} {A A' : FI} {B B' : FJ} (h : r6w b m I J A B) (eI : ∀ k, I' (b + 3) k = I (b + 3) k) (eB : B' (b + 3 + 1) = B (b + 3 + 1)) : r6w b m I' J' A' B' := by unfold r6w at h ⊢; rw [eI 2, eI 3, eB]; exact h
theorem r7_h {b : Nat} {m : Nat → Int64} {I I' : FI} {J J' : FJ} {A A' : FI} {B B' : FJ} (h : r7w b m I J A B) (eI : ∀ k, I' (b + 6) k = I (b + 6) k) (eB : B' (b + 6 + 1) = B (b + 6 + 1)) : r7w b m I' J' A' B' := by unfold r7w at h ⊢; rw [eI 2, eI 3, eB]; exact h
theorem r8_h {b : Nat} {m : Nat → Int64} {I I' : FI} {J J' : FJ} {A A' : FI} {B B' : FJ} (h : r8w b m I J A B) (eI : I' (b + 9) 3 = I (b + 9) 3) (e1 : A' (b + 10) = A (b + 10)) (e2 : A' (b + 11) = A (b + 11)) (e3 : A' (b + 12) = A (b + 12)) : r8w b m I' J' A' B' := by unfold r8w at h ⊢; rw [eI, e1, e2, e3]; exact h
