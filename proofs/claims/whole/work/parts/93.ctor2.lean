/-! a member is made -/
set_option maxRecDepth 100000 in
set_option maxHeartbeats 4000000 in
theorem in_X2 (kF : Nat → Nat) (pF : FP') (Y : PS) (I : FI) (J : FJ) (A : FI) (B : FJ) (t : Nat) (hC : ClY Y) (ht : t + 3 < 600) (hK : Y.2.1 t = 2) (hfree : ∀ j, t < j → j ≤ t + 3 → ¬ Y.2.1 j < 15) (l2 : Y.2.2.1 (t + 1 + 1) = 40) (l3 : Y.2.2.1 (t + 1 + 2) = 40) (k1 : kF (t + 1) = 6) (k2 : kF (t + 1 + 1) = 11) (k3 : kF (t + 1 + 2) = 10) (p0 : pF t 0 = some (t + 1)) (p1 : pF (t + 1) 0 = some (t + 1 + 1)) (p2 : pF (t + 1) 1 = some (t + 1 + 2)) : Spec M_X2_init [.ref (Y.1 t)] Y I J A B (fun v' Y' I' J' A' B' => v' = none ∧ Bld kF pF Y Y' (fun j => t < j ∧ j ≤ t + 3) t (fun k => k = 0) ∧ I' = up2 (va_up I (t + 1) (fun _ => 0)) (t + 1) 2 (nI 40) ∧ J' = va_up J (t + 1) (fun _ => 0) ∧ A' = va_up A (t + 1 + 2) (fun _ => 0) ∧ B' = va_up B (t + 1 + 1) (fun _ => 0)) := by
  refine Spec_ofI (by decide) rfl tk_X2_init (Nat.le_of_ble_eq_true rfl) (fun X g nm rt => ?_)
  show Sim X Y 0 [(0, .ref (Y.1 (t)))] [] I J A B 0 0
  have hT15 : Y.2.1 t < 15 := by rw [hK]; decide
  have hKt := hK
  have b0 : Bld kF pF Y Y (fun _ => False) t (fun _ => False) := B_0 hC
  refine S_n g 1 (pc' := 1) (lv' := [(0, .ref (Y.1 (t)))]) (st' := [.ref (Y.1 (t))]) rfl ?_
  refine S_oinit g lo_X2_3 oi_i oi_c (Nat.le_of_ble_eq_true rfl) (Nat.le_of_ble_eq_true rfl) rfl ?_
  refine S_n g 1 (pc' := 5) (lv' := [(0, .ref (Y.1 (t)))]) (st' := [.ref (Y.1 (t))]) rfl ?_
  have hf0 : ¬ Y.2.1 (t + 1) < 15 := by rw [b0.2.1 (t + 1) (by first | (dsimp only; omega) | (simp only [false_or]; omega) | simp)]; exact hfree _ (by omega) (by omega)
  refine S_newO g (i := t + 1) (c := 6) (frY_of b0.2.2.2.2.2.2.2 (by omega) hf0) (by decide) nw_X2_9 (Nat.le_of_ble_eq_true rfl) (Nat.le_of_ble_eq_true rfl) rfl (fun q0 => ?_)
  obtain ⟨Y1, hY1⟩ : ∃ Y1 : PS, Y1 = newY Y (t + 1) q0 6 := ⟨_, rfl⟩
  rw [← hY1]
  have ea1 : Y1.1 (t) = Y.1 (t) := by rw [hY1]; exact nY1 (by omega)
  rw [← ea1]
  have eq1 : Y1.1 (t + 1) = q0 := by rw [hY1]; exact nY1s
  rw [← eq1]
  have hKn1 : Y1.2.1 (t + 1) = 6 := by rw [hY1]; exact nYKs
  have hKt : Y1.2.1 (t) = 2 := by rw [hY1, nYK (by omega)]; exact hKt
  have hCn1 : ClY Y1 := by rw [hY1]; exact ClY_new b0.2.2.2.2.2.2.2 (by decide)
  have hLn1 : Y1.2.2.1 = Y.2.2.1 := by rw [hY1]; exact b0.2.2.2.1
  have hFn1 : ∀ j, j ≠ t + 1 → Y1.2.1 j = Y.2.1 j := fun j hj => by rw [hY1]; exact nYK hj
  refine S_n g 2 (pc' := 11) (lv' := [(0, .ref (Y1.1 (t)))]) (st' := [.int (nI 40), .ref (Y1.1 (t + 1)), .ref (Y1.1 (t + 1)), .ref (Y1.1 (t))]) rfl ?_
  refine S_callI g (b := Y1.1 (t + 1)) (As := [.int (nI 40)]) (st := [.ref (Y1.1 (t + 1)), .ref (Y1.1 (t))]) (in_X6 kF pF Y1 (va_up (I) (t + 1) (fun _ => 0)) (va_up (J) (t + 1) (fun _ => 0)) (A) (B) (t + 1) 40 (by decide) hCn1 (by omega) hKn1 (fun j a b => by rw [hFn1 j (by omega), b0.2.1 j (by first | (dsimp only; omega) | (simp only [false_or]; omega) | simp)]; exact hfree j (by omega) (by omega)) (by rw [hLn1]; exact l2) (by rw [hLn1]; exact l3) k2 k3 p1 p2) mw_X6_init mi_X6_init rfl rfl lk_X2_11 ⟨Nat.le_of_ble_eq_true rfl, Nat.le_of_ble_eq_true rfl⟩ rfl (Nat.le_of_ble_eq_true rfl) ⟨Nat.le_of_ble_eq_true rfl, Nat.le_of_ble_eq_true rfl⟩ rfl (fun v' Y2 I2 J2 A2 B2 hpo => ?_)
  obtain ⟨rfl, h22, e12, e22, e32, e42⟩ := hpo
  rw [e12, e22, e32, e42]
  have b2 := B_obj (q := q0) (c := 6) b0 hf0 k1 (by decide) (hY1 ▸ h22) (fun k h => by rcases k with _ | _ | _ | _ | k <;> simp_all [fkd]) hT15
  have ea2t : Y2.1 (t) = Y1.1 (t) := h22.1 (t) (by rw [hKt]; decide)
  rw [← ea2t]
  have ea2t1 : Y2.1 (t + 1) = Y1.1 (t + 1) := h22.1 (t + 1) (by rw [hKn1]; decide)
  rw [← ea2t1]
  show Sim X Y2 14 [(0, .ref (Y2.1 (t)))] [.ref (Y2.1 (t + 1)), .ref (Y2.1 (t))] (up2 (va_up (I) (t + 1) (fun _ => 0)) (t + 1) 2 (nI 40)) (va_up (J) (t + 1) (fun _ => 0)) (va_up (A) (t + 1 + 2) (fun _ => 0)) (va_up (B) (t + 1 + 1) (fun _ => 0)) _ _
  have hKt : Y2.2.1 (t) = 2 := (B_al b2 hT15).trans hK
  have hp2 : Y2.2.1 (t + 1) < 15 := by rw [(b2.2.2.1 (t + 1) (by first | (dsimp only; omega) | (simp only [false_or]; omega) | simp)).2.1]; exact (b2.2.2.1 (t + 1) (by first | (dsimp only; omega) | (simp only [false_or]; omega) | simp)).2.2
  refine S_putFR g nm (i := t) (c := 2) (k := 0) (j := t + 1) (by omega) (by decide) hKt rfl fx_X2_14 rfl rfl rfl ?_
  obtain ⟨Y3, hY3⟩ : ∃ Y3 : PS, Y3 = putY Y2 (t) 0 (t + 1) := ⟨_, rfl⟩
  rw [← hY3]
  have b3 := B_put (k := 0) (j := t + 1) b2 hT15 p0 hp2
  rw [← hY3] at b3
  have ea3 : Y3.1 = Y2.1 := by rw [hY3]; rfl
  rw [← ea3]
  have hKt : Y3.2.1 (t) = 2 := (B_al b3 hT15).trans hK
  exact rt 17 _ none _ _ _ _ _ _ _ ⟨rfl, rfl⟩ (Nat.le_of_ble_eq_true rfl) (Nat.le_of_ble_eq_true rfl) ⟨rfl, B_as b3 (fun j => by constructor <;> intro h <;> simp only [false_or] at h ⊢ <;> omega) (fun k h => by simp only [false_or]; omega), rfl, rfl, rfl, rfl⟩
