/-! where the cells stand: the class' places under 500, the reference's from 500 on; worlds at 100, 200 and 300 -/
def kdw (r : Nat) : Nat := [7, 10, 13, 6, 11, 10, 6, 11, 10, 3, 10, 10, 10, 99, 99, 99, 99, 99, 99, 99, 2, 6, 11, 10, 2, 6, 11, 10, 2, 6, 11, 10, 2, 6, 11, 10, 2, 6, 11, 10, 2, 6, 11, 10].getD r 99
def nnw (r : Nat) : Nat := [0, 60, 6, 0, 100, 100, 0, 100, 100, 0, 30, 30, 30, 0, 0, 0, 0, 0, 0, 0, 0, 0, 40, 40, 0, 0, 40, 40, 0, 0, 40, 40, 0, 0, 40, 40, 0, 0, 40, 40, 0, 0, 40, 40].getD r 0
def ppw (r k : Nat) : Option Nat := ([[1, 2, 3, 6, 9], [], [], [4, 5], [], [], [7, 8], [], [], [10, 11, 12], [], [], [], [], [], [], [], [], [], [], [21], [22, 23], [], [], [25], [26, 27], [], [], [29], [30, 31], [], [], [33], [34, 35], [], [], [37], [38, 39], [], [], [41], [42, 43], [], []].getD r [])[k]?
def kdC (z0 z1 : Bool) (i : Nat) : Nat := bif Nat.blt i 100 then [8, 14, 1, 11, 11, 11, 5, 11, 10, 11, 0, 10, 11, 4, 10, 10].getD i 99 else bif Nat.blt i 200 then kdw (i - 100) else bif Nat.blt i 300 then (bif z0 then kdw (i - 200) else 99) else bif Nat.blt i 400 then (bif z1 then kdw (i - 300) else 99) else 99
def nnC (i : Nat) : Nat := bif Nat.blt i 100 then [0, 2, 0, 40, 40, 40, 0, 6, 60, 12, 0, 64, 64, 0, 80, 12].getD i 0 else nnw (i % 100)
def ppC (i k : Nat) : Option Nat := bif Nat.blt i 100 then ([[100, 1, 2, 6, 10, 13, 15], [], [3, 4, 5], [], [], [], [7, 8, 9], [], [], [], [11, 12], [], [], [14], [], []].getD i [])[k]? else (ppw (i % 100) k).map (fun r => i / 100 * 100 + r)
def rrC (z0 z1 : Bool) (i j : Nat) : Option Nat := bif Nat.blt i 100 then (match j with
    | 0 => bif z0 then some 200 else none
    | 1 => bif z1 then some 300 else none
    | _ => none) else some (i / 100 * 100 + 20 + 4 * j)
abbrev YC (ad : Nat → Nat) (z0 z1 : Bool) : PS := (ad, kdC z0 z1, nnC, ppC, rrC z0 z1)
def kdR (i : Nat) : Nat := bif Nat.blt i 500 then 99 else [9, 11, 11, 12, 10, 11, 11, 11, 10, 11, 10, 12, 10, 10].getD (i - 500) 99
def nnR (i : Nat) : Nat := [0, 621, 1242, 2, 80, 6, 60, 60, 64, 6, 72, 72, 6, 120].getD (i - 500) 0
def ppR (_ k : Nat) : Option Nat := [some 501, some 502, some 503, some 504, none, none, some 505, some 506, some 507, none, none, none, some 508, some 509, some 510, some 511, none, some 512, some 513, none, none, none].getD k none
abbrev YR (ad : Nat → Nat) : PS := (ad, kdR, nnR, ppR, fun _ _ => none)
/-- a world that is there, by its first place -/
def isW (z0 z1 : Bool) (b : Nat) : Prop := b = 100 ∨ (b = 200 ∧ z0 = true) ∨ (b = 300 ∧ z1 = true)
theorem isW_100 {z0 z1 : Bool} : isW z0 z1 100 := Or.inl rfl
theorem isW_lt {z0 z1 : Bool} {b : Nat} (h : isW z0 z1 b) : b ≤ 300 := by rcases h with h | ⟨h, -⟩ | ⟨h, -⟩ <;> omega
theorem kd_w {z0 z1 : Bool} {b : Nat} (h : isW z0 z1 b) : ∀ r, r < 44 → kdC z0 z1 (b + r) = kdw r := by
  rcases h with rfl | ⟨rfl, rfl⟩ | ⟨rfl, rfl⟩
  · revert z0 z1; decide
  · revert z1; decide
  · revert z0; decide
theorem nn_w {z0 z1 : Bool} {b : Nat} (h : isW z0 z1 b) : ∀ r, r < 44 → nnC (b + r) = nnw r := by
  rcases h with rfl | ⟨rfl, rfl⟩ | ⟨rfl, rfl⟩ <;> decide
theorem pp_w {z0 z1 : Bool} {b : Nat} (h : isW z0 z1 b) : ∀ r, r < 44 → ∀ k, k < 5 → ppC (b + r) k = (ppw r k).map (fun q => b + q) := by
  rcases h with rfl | ⟨rfl, rfl⟩ | ⟨rfl, rfl⟩ <;> decide
theorem rr_w {z0 z1 : Bool} {b : Nat} (h : isW z0 z1 b) (j : Nat) : rrC z0 z1 (b + 2) j = some (b + 20 + 4 * j) := by
  rcases h with rfl | ⟨rfl, rfl⟩ | ⟨rfl, rfl⟩ <;> rfl
theorem kdw_m : ∀ u, u < 6 → kdw (20 + 4 * u) = 2 ∧ kdw (21 + 4 * u) = 6 ∧ kdw (22 + 4 * u) = 11 ∧ kdw (23 + 4 * u) = 10 ∧ nnw (22 + 4 * u) = 40 ∧ nnw (23 + 4 * u) = 40 ∧ ppw (20 + 4 * u) 0 = some (21 + 4 * u) ∧ ppw (21 + 4 * u) 0 = some (22 + 4 * u) ∧ ppw (21 + 4 * u) 1 = some (23 + 4 * u) := by decide
/-- a list of sums at a place i: its two rows lie right behind it -/
def isSL (Y : PS) (i lim : Nat) : Prop := i + 2 < 600 ∧ Y.2.1 i = 6 ∧ Y.2.1 (i + 1) = 11 ∧ Y.2.1 (i + 2) = 10 ∧ Y.2.2.1 (i + 1) = lim ∧ Y.2.2.1 (i + 2) = lim ∧ Y.2.2.2.1 i 0 = some (i + 1) ∧ Y.2.2.2.1 i 1 = some (i + 2)
/-- a member at a place i: its list lies right behind it -/
def isMb (Y : PS) (i : Nat) : Prop := Y.2.1 i = 2 ∧ Y.2.2.2.1 i 0 = some (i + 1) ∧ isSL Y (i + 1) 40
theorem sl_q {ad : Nat → Nat} {z0 z1 : Bool} {b : Nat} (h : isW z0 z1 b) : isSL (YC ad z0 z1) (b + 3) 100 := by
  have := isW_lt h
  exact ⟨by omega, kd_w h 3 (by decide), kd_w h 4 (by decide), kd_w h 5 (by decide), nn_w h 4 (by decide), nn_w h 5 (by decide), pp_w h 3 (by decide) 0 (by decide), pp_w h 3 (by decide) 1 (by decide)⟩
theorem sl_h {ad : Nat → Nat} {z0 z1 : Bool} {b : Nat} (h : isW z0 z1 b) : isSL (YC ad z0 z1) (b + 6) 100 := by
  have := isW_lt h
  exact ⟨by omega, kd_w h 6 (by decide), kd_w h 7 (by decide), kd_w h 8 (by decide), nn_w h 7 (by decide), nn_w h 8 (by decide), pp_w h 6 (by decide) 0 (by decide), pp_w h 6 (by decide) 1 (by decide)⟩
theorem mb_u {ad : Nat → Nat} {z0 z1 : Bool} {b u : Nat} (h : isW z0 z1 b) (hu : u < 6) : isMb (YC ad z0 z1) (b + 20 + 4 * u) := by
  have := isW_lt h
  obtain ⟨h1, h2, h3, h4, h5, h6, h7, h8, h9⟩ := kdw_m u hu
  have e0 : b + 20 + 4 * u = b + (20 + 4 * u) := by omega
  have e1 : b + 20 + 4 * u + 1 = b + (21 + 4 * u) := by omega
  have e2 : b + 20 + 4 * u + 1 + 1 = b + (22 + 4 * u) := by omega
  have e3 : b + 20 + 4 * u + 1 + 2 = b + (23 + 4 * u) := by omega
  refine ⟨?_, ?_, by omega, ?_, ?_, ?_, ?_, ?_, ?_, ?_⟩
  · show kdC z0 z1 _ = 2
    rw [e0, kd_w h _ (by omega), h1]
  · show ppC _ 0 = _
    rw [e1, e0, pp_w h _ (by omega) 0 (by decide), h7]
    rfl
  · show kdC z0 z1 _ = 6
    rw [e1, kd_w h _ (by omega), h2]
  · show kdC z0 z1 _ = 11
    rw [e2, kd_w h _ (by omega), h3]
  · show kdC z0 z1 _ = 10
    rw [e3, kd_w h _ (by omega), h4]
  · show nnC _ = 40
    rw [e2, nn_w h _ (by omega), h5]
  · show nnC _ = 40
    rw [e3, nn_w h _ (by omega), h6]
  · show ppC _ 0 = _
    rw [e2, e1, pp_w h _ (by omega) 0 (by decide), h8]
    rfl
  · show ppC _ 1 = _
    rw [e3, e1, pp_w h _ (by omega) 1 (by decide), h9]
    rfl
