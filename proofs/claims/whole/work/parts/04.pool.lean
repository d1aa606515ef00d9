/-! runs of plain instructions by a table; the pool of cells by layout places -/
abbrev TB : Type := List (Nat × Instr × Nat)
def fnd : TB → Nat → Option (Instr × Nat)
  | [], _ => none
  | (q, i, n) :: t, pc => if q == pc then some (i, n) else fnd t pc
def tbOk (cc : ByteArray) (tb : TB) : Prop := ∀ r ∈ tb, decode cc r.1 = .ok (r.2.1, r.2.2)
def tbAll (cc : ByteArray) (tb : TB) : Bool := tb.all (fun r => decide (decode cc r.1 = .ok (r.2.1, r.2.2)))
theorem tbOk_of {cc : ByteArray} {tb : TB} (h : tbAll cc tb = true) : tbOk cc tb := fun r hr => of_decide_eq_true (List.all_eq_true.mp h r hr)
theorem fnd_mem : ∀ {tb : TB} {pc : Nat} {i : Instr} {n : Nat}, fnd tb pc = some (i, n) → (pc, i, n) ∈ tb
  | [], _, _, _, h => by cases h
  | (q, j, k) :: t, pc, i, n, h => by
    unfold fnd at h
    by_cases e : q == pc
    · rw [if_pos e] at h
      cases h
      rw [beq_iff_eq] at e
      subst e
      exact List.mem_cons_self
    · rw [if_neg e] at h
      exact List.mem_cons_of_mem _ (fnd_mem h)
theorem fnd_dec {cc : ByteArray} {tb : TB} (hok : tbOk cc tb) {pc : Nat} {i : Instr} {n : Nat} (h : fnd tb pc = some (i, n)) : decode cc pc = .ok (i, n) := hok (pc, i, n) (fnd_mem h)
def stpN (nL : Nat) (tb : TB) : Nat → Nat → List (Nat × Value) → List Value → SR
  | 0, pc, lv, st => some (pc, lv, st)
  | k + 1, pc, lv, st => match fnd tb pc with
    | some (i, n) => match stp nL i n pc lv st with
      | some (pc', lv', st') => stpN nL tb k pc' lv' st'
      | none => none
    | none => none
/-- fields by class: 0 an int, 1 a long, 2 a reference, 3 a boolean -/
def fkd : Nat → List Nat
  | 0 => [2, 2]
  | 1 => [2, 2, 2, 0, 1, 1]
  | 2 => [2, 1, 0]
  | 3 => [2, 2, 2, 0]
  | 4 => [2, 0, 0, 3, 0, 0, 0]
  | 5 => [2, 2, 2, 0, 0]
  | 6 => [2, 2, 0, 0]
  | 7 => [2, 2, 2, 2, 2, 0, 0, 0, 0, 0]
  | 8 => [2, 2, 2, 2, 2, 2, 2, 0]
  | 9 => [2, 2, 2, 2, 0, 0, 2, 2, 2, 0, 1, 1, 2, 2, 2, 2, 0, 2, 2, 0, 0, 1]
  | _ => []
abbrev FI : Type := Nat → Nat → Int32
abbrev FJ : Type := Nat → Nat → Int64
abbrev FP' : Type := Nat → Nat → Option Nat
abbrev CY : Type := ClassId × ClassId × ClassId × ClassId × ClassId
/-- where the places lie, their kinds, lengths, references of fields and of arrays -/
abbrev PS : Type := (Nat → Nat) × (Nat → Nat) × (Nat → Nat) × FP' × FP'
def fcl (ad : Nat → Nat) (P : FP') (I : FI) (J : FJ) (i k kd : Nat) : Value := if kd = 1 then .long (J i k) else if kd = 2 then va_rf ((P i k).map ad) else .int (I i k)
def cel (cy : CY) (Y : PS) (I : FI) (J : FJ) (A : FI) (B : FJ) (i : Nat) : va_E :=
  if Y.2.1 i = 10 then .inl (cy.1, Y.2.2.1 i, .inl (A i))
  else if Y.2.1 i = 11 then .inl (cy.2.1, Y.2.2.1 i, .inr (.inl (B i)))
  else if Y.2.1 i = 12 then .inl (cy.2.2.1, Y.2.2.1 i, .inl (A i))
  else if Y.2.1 i = 13 then .inl (cy.2.2.2.1, Y.2.2.1 i, .inr (.inr (.inr (.inr (fun j => (Y.2.2.2.2 i j).map Y.1)))))
  else if Y.2.1 i = 14 then .inl (cy.2.2.2.2, Y.2.2.1 i, .inr (.inr (.inr (.inr (fun j => (Y.2.2.2.2 i j).map Y.1)))))
  else .inr (Y.2.1 i, (fkd (Y.2.1 i)).mapIdx (fcl Y.1 Y.2.2.2.1 I J i))
def lst (K : Nat → Nat) : List Nat := (List.range 600).filter (fun i => decide (K i < 15))
def pool (cy : CY) (Y : PS) (I : FI) (J : FJ) (A : FI) (B : FJ) : va_W := (lst Y.2.1).map fun i => (Y.1 i, cel cy Y I J A B i)
def up2 {α : Type} (f : Nat → Nat → α) (i k : Nat) (v : α) : Nat → Nat → α := va_up f i (va_up (f i) k v)
theorem up2_eq {α : Type} (f : Nat → Nat → α) (i k : Nat) (v : α) (a b : Nat) : up2 f i k v a b = if a = i then (if b = k then v else f i b) else f a b := by
  unfold up2 va_up
  by_cases h : a = i
  · rw [if_pos h, if_pos h]
  · rw [if_neg h, if_neg h]
theorem up2_same {α : Type} (f : Nat → Nat → α) (i k : Nat) (v : α) : up2 f i k v i k = v := by rw [up2_eq, if_pos rfl, if_pos rfl]
theorem up2_row {α : Type} (f : Nat → Nat → α) {i a : Nat} (k : Nat) (v : α) (h : a ≠ i) : up2 f i k v a = f a := by funext b; rw [up2_eq, if_neg h]
theorem up2_ne {α : Type} (f : Nat → Nat → α) {i a : Nat} (k : Nat) (v : α) (b : Nat) (h : a ≠ i) : up2 f i k v a b = f a b := by rw [up2_row f k v h]
theorem up2_ix {α : Type} (f : Nat → Nat → α) (i : Nat) {k b : Nat} (v : α) (h : b ≠ k) : up2 f i k v i b = f i b := by rw [up2_eq, if_pos rfl, if_neg h]
theorem lst_at {K : Nat → Nat} {i : Nat} (hK : K i < 15) (hi : i < 600) : ∃ q : Nat, (lst K)[q]? = some i := by
  apply List.getElem?_of_mem
  unfold lst
  exact List.mem_filter.mpr ⟨List.mem_range.mpr hi, decide_eq_true hK⟩
theorem lst_in {K : Nat → Nat} {i : Nat} (h : i ∈ lst K) : K i < 15 ∧ i < 600 := by
  unfold lst at h
  obtain ⟨h1, h2⟩ := List.mem_filter.mp h
  exact ⟨of_decide_eq_true h2, List.mem_range.mp h1⟩
theorem pool_get {cy : CY} {Y : PS} {I : FI} {J : FJ} {A : FI} {B : FJ} {q i : Nat} (h : (lst Y.2.1)[q]? = some i) : (pool cy Y I J A B)[q]? = some (Y.1 i, cel cy Y I J A B i) := by
  unfold pool
  rw [List.getElem?_map, h]
  rfl
theorem pool_set {A0 : Nat → Prop} {cy : CY} {Y Y' : PS} {I I' : FI} {J J' : FJ} {A A' : FI} {B B' : FJ} {q i : Nat} (hD : va_D A0 (pool cy Y I J A B)) (h : (lst Y.2.1)[q]? = some i) (h1 : Y'.1 = Y.1) (h2 : Y'.2.1 = Y.2.1) (hc : ∀ j, j ≠ i → cel cy Y' I' J' A' B' j = cel cy Y I J A B j) {x : va_E} (hx : cel cy Y' I' J' A' B' i = x) : (pool cy Y I J A B).set q (Y.1 i, x) = pool cy Y' I' J' A' B' := by
  subst hx
  apply List.ext_getElem?
  intro j
  have hl := (List.getElem?_eq_some_iff.mp (pool_get (cy := cy) (Y := Y) (I := I) (J := J) (A := A) (B := B) h)).1
  by_cases hj : j = q
  · subst hj
    rw [List.getElem?_set_self hl]
    unfold pool
    rw [List.getElem?_map, h2, h, h1]
    rfl
  · rw [List.getElem?_set_ne (Ne.symm hj)]
    unfold pool
    rw [List.getElem?_map, List.getElem?_map, h2, h1]
    cases hb : (lst Y.2.1)[j]? with
    | none => rfl
    | some b =>
      have hba : b ≠ i := by
        intro e
        subst e
        exact hj (hD.1 j q _ _ (pool_get hb) (pool_get h) rfl)
      simp only [Option.map_some]
      rw [hc b hba]
theorem fcl_set {ad : Nat → Nat} {P P' : FP'} {I I' : FI} {J J' : FJ} {i k c : Nat} {kd : Nat} {v : Value} (hk : (fkd c)[k]? = some kd) (hv : fcl ad P' I' J' i k kd = v) (ho : ∀ j x, j ≠ k → fcl ad P' I' J' i j x = fcl ad P I J i j x) : (fkd c).mapIdx (fcl ad P' I' J' i) = ((fkd c).mapIdx (fcl ad P I J i)).set k v := by
  apply List.ext_getElem?
  intro j
  have hl : k < ((fkd c).mapIdx (fcl ad P I J i)).length := by
    rw [List.length_mapIdx]
    exact (List.getElem?_eq_some_iff.mp hk).1
  by_cases hj : j = k
  · subst hj
    rw [List.getElem?_set_self hl, List.getElem?_mapIdx, hk]
    exact congrArg some hv
  · rw [List.getElem?_set_ne (Ne.symm hj), List.getElem?_mapIdx, List.getElem?_mapIdx]
    cases (fkd c)[j]? with
    | none => rfl
    | some x => exact congrArg some (ho j x hj)
theorem cel_o {cy : CY} {Y : PS} {I : FI} {J : FJ} {A : FI} {B : FJ} {i c : Nat} (h : Y.2.1 i = c) (hc : c < 10) : cel cy Y I J A B i = .inr (c, (fkd c).mapIdx (fcl Y.1 Y.2.2.2.1 I J i)) := by
  unfold cel
  rw [h, if_neg (by omega), if_neg (by omega), if_neg (by omega), if_neg (by omega), if_neg (by omega)]
theorem cel_10 {cy : CY} {Y : PS} {I : FI} {J : FJ} {A : FI} {B : FJ} {i : Nat} (h : Y.2.1 i = 10) : cel cy Y I J A B i = .inl (cy.1, Y.2.2.1 i, .inl (A i)) := by
  unfold cel
  rw [if_pos h]
theorem cel_11 {cy : CY} {Y : PS} {I : FI} {J : FJ} {A : FI} {B : FJ} {i : Nat} (h : Y.2.1 i = 11) : cel cy Y I J A B i = .inl (cy.2.1, Y.2.2.1 i, .inr (.inl (B i))) := by
  unfold cel
  rw [if_neg (by omega), if_pos h]
theorem cel_12 {cy : CY} {Y : PS} {I : FI} {J : FJ} {A : FI} {B : FJ} {i : Nat} (h : Y.2.1 i = 12) : cel cy Y I J A B i = .inl (cy.2.2.1, Y.2.2.1 i, .inl (A i)) := by
  unfold cel
  rw [if_neg (by omega), if_neg (by omega), if_pos h]
theorem cel_13 {cy : CY} {Y : PS} {I : FI} {J : FJ} {A : FI} {B : FJ} {i : Nat} (h : Y.2.1 i = 13) : cel cy Y I J A B i = .inl (cy.2.2.2.1, Y.2.2.1 i, .inr (.inr (.inr (.inr (fun j => (Y.2.2.2.2 i j).map Y.1))))) := by
  unfold cel
  rw [if_neg (by omega), if_neg (by omega), if_neg (by omega), if_pos h]
theorem cel_14 {cy : CY} {Y : PS} {I : FI} {J : FJ} {A : FI} {B : FJ} {i : Nat} (h : Y.2.1 i = 14) : cel cy Y I J A B i = .inl (cy.2.2.2.2, Y.2.2.1 i, .inr (.inr (.inr (.inr (fun j => (Y.2.2.2.2 i j).map Y.1))))) := by
  unfold cel
  rw [if_neg (by omega), if_neg (by omega), if_neg (by omega), if_neg (by omega), if_pos h]
theorem cel_I {cy : CY} {Y : PS} {I : FI} {J : FJ} {A : FI} {B : FJ} {i k : Nat} {x : Int32} (j : Nat) (hj : j ≠ i) : cel cy Y (up2 I i k x) J A B j = cel cy Y I J A B j := by
  unfold cel
  rw [show fcl Y.1 Y.2.2.2.1 (up2 I i k x) J j = fcl Y.1 Y.2.2.2.1 I J j from by funext a b; unfold fcl; rw [up2_ne _ _ _ _ hj]]
theorem cel_J {cy : CY} {Y : PS} {I : FI} {J : FJ} {A : FI} {B : FJ} {i k : Nat} {x : Int64} (j : Nat) (hj : j ≠ i) : cel cy Y I (up2 J i k x) A B j = cel cy Y I J A B j := by
  unfold cel
  rw [show fcl Y.1 Y.2.2.2.1 I (up2 J i k x) j = fcl Y.1 Y.2.2.2.1 I J j from by funext a b; unfold fcl; rw [up2_ne _ _ _ _ hj]]
theorem cel_A {cy : CY} {Y : PS} {I : FI} {J : FJ} {A : FI} {B : FJ} {i : Nat} {x : Nat → Int32} (j : Nat) (hj : j ≠ i) : cel cy Y I J (va_up A i x) B j = cel cy Y I J A B j := by
  unfold cel
  rw [va_up_ne _ _ hj]
theorem cel_B {cy : CY} {Y : PS} {I : FI} {J : FJ} {A : FI} {B : FJ} {i : Nat} {x : Nat → Int64} (j : Nat) (hj : j ≠ i) : cel cy Y I J A (va_up B i x) j = cel cy Y I J A B j := by
  unfold cel
  rw [va_up_ne _ _ hj]
