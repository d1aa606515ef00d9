/-! two layouts that say the same of every place -/
/-- of place i, where the first layout has it -/
def sameAt (Y Y2 : PS) (i : Nat) : Prop := Y.1 i = Y2.1 i ∧ Y.2.2.1 i = Y2.2.2.1 i ∧ (∀ k, (fkd (Y.2.1 i))[k]? = some 2 → (Y.2.2.2.1 i k).map Y.1 = (Y2.2.2.2.1 i k).map Y2.1) ∧ (Y.2.1 i = 13 ∨ Y.2.1 i = 14 → ∀ e, e < Y.2.2.1 i → (Y.2.2.2.2 i e).map Y.1 = (Y2.2.2.2.2 i e).map Y2.1)
theorem arrV_cong {cA : ClassId} {n : Nat} {f g : Nat → Value} (h : ∀ j, j < n → f j = g j) : arrV cA n f = arrV cA n g := by
  unfold arrV
  congr 1
  apply congrArg Array.ofFn
  funext j
  exact h j.val j.isLt
theorem lst_cong {K K2 : Nat → Nat} (h : ∀ i, i < 600 → K i = K2 i) : lst K = lst K2 := by
  unfold lst
  apply List.filter_congr
  intro i hi
  rw [h i (List.mem_range.mp hi)]
theorem at_cong {D : va_G} {H : Heap} {cy : CY} {Y Y2 : PS} {I : FI} {J : FJ} {A : FI} {B : FJ} {i : Nat} (hk : Y.2.1 i = Y2.2.1 i) (hs : sameAt Y Y2 i) (h : va_at D vwCl (Y.1 i, cel cy Y I J A B i) H) : va_at D vwCl (Y2.1 i, cel cy Y2 I J A B i) H := by
  obtain ⟨s1, s2, s3, s4⟩ := hs
  rw [← s1]
  by_cases c13 : Y.2.1 i = 13
  · rw [cel_13 c13] at h
    rw [cel_13 (hk ▸ c13)]
    have h : H[Y.1 i]? = some (vp_cell _ _) := h
    show H[Y.1 i]? = some (vp_cell _ _)
    rw [h, vp_cell_q, vp_cell_q, ← s2]
    exact congrArg some (arrV_cong (fun j hj => by rw [s4 (Or.inl c13) j hj]))
  · by_cases c14 : Y.2.1 i = 14
    · rw [cel_14 c14] at h
      rw [cel_14 (hk ▸ c14)]
      have h : H[Y.1 i]? = some (vp_cell _ _) := h
      show H[Y.1 i]? = some (vp_cell _ _)
      rw [h, vp_cell_q, vp_cell_q, ← s2]
      exact congrArg some (arrV_cong (fun j hj => by rw [s4 (Or.inr c14) j hj]))
    · have e : cel cy Y I J A B i = cel cy Y2 I J A B i := by
        unfold cel
        rw [← hk, ← s2, if_neg c13, if_neg c14, if_neg c13, if_neg c14]
        have ef : (fkd (Y.2.1 i)).mapIdx (fcl Y.1 Y.2.2.2.1 I J i) = (fkd (Y.2.1 i)).mapIdx (fcl Y2.1 Y2.2.2.2.1 I J i) := by
          apply List.ext_getElem?
          intro k
          rw [List.getElem?_mapIdx, List.getElem?_mapIdx]
          cases hq : (fkd (Y.2.1 i))[k]? with
          | none => rfl
          | some kd =>
            show some (fcl _ _ I J i k kd) = some (fcl _ _ I J i k kd)
            unfold fcl
            by_cases q1 : kd = 1
            · rw [if_pos q1, if_pos q1]
            · by_cases q2 : kd = 2
              · rw [if_neg q1, if_neg q1, if_pos q2, if_pos q2, s3 k (by rw [hq, q2])]
              · rw [if_neg q1, if_neg q1, if_neg q2, if_neg q2]
        rw [ef]
      rw [← e]
      exact h
theorem Sim_Y {X : MX} {Y Y2 : PS} {pc : Nat} {lv : List (Nat × Value)} {st : List Value} {I : FI} {J : FJ} {A : FI} {B : FJ} {kc n : Nat} (hk : ∀ i, i < 600 → Y.2.1 i = Y2.2.1 i) (hs : ∀ i, i < 600 → Y.2.1 i < 15 → sameAt Y Y2 i) (kk : Sim X Y2 pc lv st I J A B kc n) : Sim X Y pc lv st I J A B kc n := by
  obtain ⟨p, l, e, R, s, m, args, below, meth, cod, Q, D, cy, A0, nL⟩ := X
  intro H locs ls hP hD hS hl
  have el := lst_cong hk
  have key : ∀ (k : Nat) (x : Nat × va_E), (pool cy Y2 I J A B)[k]? = some x → ∃ y : Nat × va_E, (pool cy Y I J A B)[k]? = some y ∧ y.1 = x.1 ∧ (va_at D vwCl y H → va_at D vwCl x H) := by
    intro k x h
    obtain ⟨j, hj, rfl⟩ := pool_mem h
    rw [← el] at hj
    have hlt := lst_in (List.mem_of_getElem? hj)
    refine ⟨_, pool_get hj, (hs j hlt.2 hlt.1).1, fun ha => at_cong (hk j hlt.2) (hs j hlt.2 hlt.1) ha⟩
  refine kk H locs ls (fun k x h => ?_) ⟨fun a b x y ha hb hxy => ?_, fun k x h => ?_⟩ hS hl
  · obtain ⟨y, h1, _, h3⟩ := key k x h
    exact h3 (hP k y h1)
  · obtain ⟨x', h1, h2, _⟩ := key a x ha
    obtain ⟨y', g1, g2, _⟩ := key b y hb
    exact hD.1 a b x' y' h1 g1 (by rw [h2, g2]; exact hxy)
  · obtain ⟨y, h1, h2, _⟩ := key k x h
    rw [← h2]
    exact hD.2 k y h1
