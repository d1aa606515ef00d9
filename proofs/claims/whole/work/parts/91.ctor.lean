/-! constructors that make arrays only -/
set_option maxRecDepth 100000 in
set_option maxHeartbeats 4000000 in
theorem in_X3 (kF : Nat → Nat) (pF : FP') (Y : PS) (I : FI) (J : FJ) (A : FI) (B : FJ) (t : Nat) (hC : ClY Y) (ht : t + 3 < 600) (hK : Y.2.1 t = 3) (hfree : ∀ j, t < j → j ≤ t + 3 → ¬ Y.2.1 j < 15) (l1 : Y.2.2.1 (t + 1) = 30) (k1 : kF (t + 1) = 10) (p1 : pF t 0 = some (t + 1)) (l2 : Y.2.2.1 (t + 2) = 30) (k2 : kF (t + 2) = 10) (p2 : pF t 1 = some (t + 2)) (l3 : Y.2.2.1 (t + 3) = 30) (k3 : kF (t + 3) = 10) (p3 : pF t 2 = some (t + 3)) : Spec M_X3_init [.ref (Y.1 t)] Y I J A B (fun v' Y' I' J' A' B' => v' = none ∧ Bld kF pF Y Y' (fun j => t < j ∧ j ≤ t + 3) t (fun k => k = 0 ∨ k = 1 ∨ k = 2) ∧ I' = I ∧ J' = J ∧ A' = va_up (va_up (va_up (A) (t + 1) (fun _ => 0)) (t + 2) (fun _ => 0)) (t + 3) (fun _ => 0) ∧ B' = B) := by
  refine Spec_ofI (by decide) rfl tk_X3_init (Nat.le_of_ble_eq_true rfl) (fun X g nm rt => ?_)
  show Sim X Y 0 [(0, .ref (Y.1 (t)))] [] I J A B 0 0
  have hT15 : Y.2.1 t < 15 := by rw [hK]; decide
  have hKt := hK
  have b0 : Bld kF pF Y Y (fun _ => False) t (fun _ => False) := B_0 hC
  refine S_n g 1 (pc' := 1) (lv' := [(0, .ref (Y.1 (t)))]) (st' := [.ref (Y.1 (t))]) rfl ?_
  refine S_oinit g lo_X3_3 oi_i oi_c (Nat.le_of_ble_eq_true rfl) (Nat.le_of_ble_eq_true rfl) rfl ?_
  refine S_n g 2 (pc' := 7) (lv' := [(0, .ref (Y.1 (t)))]) (st' := [.int (nI 30), .ref (Y.1 (t))]) rfl ?_
  have hf0 : ¬ Y.2.1 (t + 1) < 15 := by rw [b0.2.1 (t + 1) (by first | (dsimp only; omega) | (simp only [false_or]; omega) | simp)]; exact hfree _ (by omega) (by omega)
  refine S_newI g (i := t + 1) (N := 30) (frY_of b0.2.2.2.2.2.2.2 (by omega) hf0) ai_w (nI_pos (by decide)) (nI_clamp (by decide)) (by rw [b0.2.2.2.1]; exact l1) (by decide) (Nat.le_of_ble_eq_true rfl) (Nat.le_of_ble_eq_true rfl) rfl (fun q0 => ?_)
  obtain ⟨Y1, hY1⟩ : ∃ Y1 : PS, Y1 = newY Y (t + 1) q0 10 := ⟨_, rfl⟩
  rw [← hY1]
  have b1 := B_arr (q := q0) (c := 10) b0 hf0 k1 (by decide) rfl hT15
  rw [← hY1] at b1
  have ea1 : Y1.1 (t) = Y.1 (t) := by rw [hY1]; exact nY1 (by omega)
  rw [← ea1]
  have eq1 : Y1.1 (t + 1) = q0 := by rw [hY1]; exact nY1s
  rw [← eq1]
  have hKt : Y1.2.1 (t) = 3 := (B_al b1 hT15).trans hK
  have hp1 : Y1.2.1 (t + 1) < 15 := by rw [(b1.2.2.1 (t + 1) (by first | (dsimp only; omega) | (simp only [false_or]; omega) | simp)).2.1]; exact (b1.2.2.1 (t + 1) (by first | (dsimp only; omega) | (simp only [false_or]; omega) | simp)).2.2
  refine S_putFR g nm (i := t) (c := 3) (k := 0) (j := t + 1) (by omega) (by decide) hKt rfl fx_X3_9 rfl rfl rfl ?_
  obtain ⟨Y2, hY2⟩ : ∃ Y2 : PS, Y2 = putY Y1 (t) 0 (t + 1) := ⟨_, rfl⟩
  rw [← hY2]
  have b2 := B_put (k := 0) (j := t + 1) b1 hT15 p1 hp1
  rw [← hY2] at b2
  have ea2 : Y2.1 = Y1.1 := by rw [hY2]; rfl
  rw [← ea2]
  have hKt : Y2.2.1 (t) = 3 := (B_al b2 hT15).trans hK
  refine S_n g 2 (pc' := 15) (lv' := [(0, .ref (Y2.1 (t)))]) (st' := [.int (nI 30), .ref (Y2.1 (t))]) rfl ?_
  have hf2 : ¬ Y2.2.1 (t + 2) < 15 := by rw [b2.2.1 (t + 2) (by first | (dsimp only; omega) | (simp only [false_or]; omega) | simp)]; exact hfree _ (by omega) (by omega)
  refine S_newI g (i := t + 2) (N := 30) (frY_of b2.2.2.2.2.2.2.2 (by omega) hf2) ai_w (nI_pos (by decide)) (nI_clamp (by decide)) (by rw [b2.2.2.2.1]; exact l2) (by decide) (Nat.le_of_ble_eq_true rfl) (Nat.le_of_ble_eq_true rfl) rfl (fun q2 => ?_)
  obtain ⟨Y3, hY3⟩ : ∃ Y3 : PS, Y3 = newY Y2 (t + 2) q2 10 := ⟨_, rfl⟩
  rw [← hY3]
  have b3 := B_arr (q := q2) (c := 10) b2 hf2 k2 (by decide) rfl hT15
  rw [← hY3] at b3
  have ea3 : Y3.1 (t) = Y2.1 (t) := by rw [hY3]; exact nY1 (by omega)
  rw [← ea3]
  have eq3 : Y3.1 (t + 2) = q2 := by rw [hY3]; exact nY1s
  rw [← eq3]
  have hKt : Y3.2.1 (t) = 3 := (B_al b3 hT15).trans hK
  have hp3 : Y3.2.1 (t + 2) < 15 := by rw [(b3.2.2.1 (t + 2) (by first | (dsimp only; omega) | (simp only [false_or]; omega) | simp)).2.1]; exact (b3.2.2.1 (t + 2) (by first | (dsimp only; omega) | (simp only [false_or]; omega) | simp)).2.2
  refine S_putFR g nm (i := t) (c := 3) (k := 1) (j := t + 2) (by omega) (by decide) hKt rfl fx_X3_15 rfl rfl rfl ?_
  obtain ⟨Y4, hY4⟩ : ∃ Y4 : PS, Y4 = putY Y3 (t) 1 (t + 2) := ⟨_, rfl⟩
  rw [← hY4]
  have b4 := B_put (k := 1) (j := t + 2) b3 hT15 p2 hp3
  rw [← hY4] at b4
  have ea4 : Y4.1 = Y3.1 := by rw [hY4]; rfl
  rw [← ea4]
  have hKt : Y4.2.1 (t) = 3 := (B_al b4 hT15).trans hK
  refine S_n g 2 (pc' := 23) (lv' := [(0, .ref (Y4.1 (t)))]) (st' := [.int (nI 30), .ref (Y4.1 (t))]) rfl ?_
  have hf4 : ¬ Y4.2.1 (t + 3) < 15 := by rw [b4.2.1 (t + 3) (by first | (dsimp only; omega) | (simp only [false_or]; omega) | simp)]; exact hfree _ (by omega) (by omega)
  refine S_newI g (i := t + 3) (N := 30) (frY_of b4.2.2.2.2.2.2.2 (by omega) hf4) ai_w (nI_pos (by decide)) (nI_clamp (by decide)) (by rw [b4.2.2.2.1]; exact l3) (by decide) (Nat.le_of_ble_eq_true rfl) (Nat.le_of_ble_eq_true rfl) rfl (fun q4 => ?_)
  obtain ⟨Y5, hY5⟩ : ∃ Y5 : PS, Y5 = newY Y4 (t + 3) q4 10 := ⟨_, rfl⟩
  rw [← hY5]
  have b5 := B_arr (q := q4) (c := 10) b4 hf4 k3 (by decide) rfl hT15
  rw [← hY5] at b5
  have ea5 : Y5.1 (t) = Y4.1 (t) := by rw [hY5]; exact nY1 (by omega)
  rw [← ea5]
  have eq5 : Y5.1 (t + 3) = q4 := by rw [hY5]; exact nY1s
  rw [← eq5]
  have hKt : Y5.2.1 (t) = 3 := (B_al b5 hT15).trans hK
  have hp5 : Y5.2.1 (t + 3) < 15 := by rw [(b5.2.2.1 (t + 3) (by first | (dsimp only; omega) | (simp only [false_or]; omega) | simp)).2.1]; exact (b5.2.2.1 (t + 3) (by first | (dsimp only; omega) | (simp only [false_or]; omega) | simp)).2.2
  refine S_putFR g nm (i := t) (c := 3) (k := 2) (j := t + 3) (by omega) (by decide) hKt rfl fx_X3_18 rfl rfl rfl ?_
  obtain ⟨Y6, hY6⟩ : ∃ Y6 : PS, Y6 = putY Y5 (t) 2 (t + 3) := ⟨_, rfl⟩
  rw [← hY6]
  have b6 := B_put (k := 2) (j := t + 3) b5 hT15 p3 hp5
  rw [← hY6] at b6
  have ea6 : Y6.1 = Y5.1 := by rw [hY6]; rfl
  rw [← ea6]
  have hKt : Y6.2.1 (t) = 3 := (B_al b6 hT15).trans hK
  exact rt 28 _ none _ _ _ _ _ _ _ ⟨rfl, rfl⟩ (Nat.le_of_ble_eq_true rfl) (Nat.le_of_ble_eq_true rfl) ⟨rfl, B_as b6 (fun j => by constructor <;> intro h <;> simp only [false_or] at h ⊢ <;> omega) (fun k h => by simp only [false_or]; omega), rfl, rfl, rfl, rfl⟩

set_option maxRecDepth 100000 in
set_option maxHeartbeats 4000000 in
theorem in_X1 (kF : Nat → Nat) (pF : FP') (Y : PS) (I : FI) (J : FJ) (A : FI) (B : FJ) (t : Nat) (hC : ClY Y) (ht : t + 3 < 600) (hK : Y.2.1 t = 1) (hfree : ∀ j, t < j → j ≤ t + 3 → ¬ Y.2.1 j < 15) (l1 : Y.2.2.1 (t + 1) = 40) (k1 : kF (t + 1) = 11) (p1 : pF t 0 = some (t + 1)) (l2 : Y.2.2.1 (t + 2) = 40) (k2 : kF (t + 2) = 11) (p2 : pF t 1 = some (t + 2)) (l3 : Y.2.2.1 (t + 3) = 40) (k3 : kF (t + 3) = 11) (p3 : pF t 2 = some (t + 3)) : Spec M_X1_init [.ref (Y.1 t)] Y I J A B (fun v' Y' I' J' A' B' => v' = none ∧ Bld kF pF Y Y' (fun j => t < j ∧ j ≤ t + 3) t (fun k => k = 0 ∨ k = 1 ∨ k = 2) ∧ I' = I ∧ J' = J ∧ A' = A ∧ B' = va_up (va_up (va_up (B) (t + 1) (fun _ => 0)) (t + 2) (fun _ => 0)) (t + 3) (fun _ => 0)) := by
  refine Spec_ofI (by decide) rfl tk_X1_init (Nat.le_of_ble_eq_true rfl) (fun X g nm rt => ?_)
  show Sim X Y 0 [(0, .ref (Y.1 (t)))] [] I J A B 0 0
  have hT15 : Y.2.1 t < 15 := by rw [hK]; decide
  have hKt := hK
  have b0 : Bld kF pF Y Y (fun _ => False) t (fun _ => False) := B_0 hC
  refine S_n g 1 (pc' := 1) (lv' := [(0, .ref (Y.1 (t)))]) (st' := [.ref (Y.1 (t))]) rfl ?_
  refine S_oinit g lo_X1_3 oi_i oi_c (Nat.le_of_ble_eq_true rfl) (Nat.le_of_ble_eq_true rfl) rfl ?_
  refine S_n g 2 (pc' := 7) (lv' := [(0, .ref (Y.1 (t)))]) (st' := [.int (nI 40), .ref (Y.1 (t))]) rfl ?_
  have hf0 : ¬ Y.2.1 (t + 1) < 15 := by rw [b0.2.1 (t + 1) (by first | (dsimp only; omega) | (simp only [false_or]; omega) | simp)]; exact hfree _ (by omega) (by omega)
  refine S_newL g (i := t + 1) (N := 40) (frY_of b0.2.2.2.2.2.2.2 (by omega) hf0) al_w (nI_pos (by decide)) (nI_clamp (by decide)) (by rw [b0.2.2.2.1]; exact l1) (by decide) (Nat.le_of_ble_eq_true rfl) (Nat.le_of_ble_eq_true rfl) rfl (fun q0 => ?_)
  obtain ⟨Y1, hY1⟩ : ∃ Y1 : PS, Y1 = newY Y (t + 1) q0 11 := ⟨_, rfl⟩
  rw [← hY1]
  have b1 := B_arr (q := q0) (c := 11) b0 hf0 k1 (by decide) rfl hT15
  rw [← hY1] at b1
  have ea1 : Y1.1 (t) = Y.1 (t) := by rw [hY1]; exact nY1 (by omega)
  rw [← ea1]
  have eq1 : Y1.1 (t + 1) = q0 := by rw [hY1]; exact nY1s
  rw [← eq1]
  have hKt : Y1.2.1 (t) = 1 := (B_al b1 hT15).trans hK
  have hp1 : Y1.2.1 (t + 1) < 15 := by rw [(b1.2.2.1 (t + 1) (by first | (dsimp only; omega) | (simp only [false_or]; omega) | simp)).2.1]; exact (b1.2.2.1 (t + 1) (by first | (dsimp only; omega) | (simp only [false_or]; omega) | simp)).2.2
  refine S_putFR g nm (i := t) (c := 1) (k := 0) (j := t + 1) (by omega) (by decide) hKt rfl fx_X1_9 rfl rfl rfl ?_
  obtain ⟨Y2, hY2⟩ : ∃ Y2 : PS, Y2 = putY Y1 (t) 0 (t + 1) := ⟨_, rfl⟩
  rw [← hY2]
  have b2 := B_put (k := 0) (j := t + 1) b1 hT15 p1 hp1
  rw [← hY2] at b2
  have ea2 : Y2.1 = Y1.1 := by rw [hY2]; rfl
  rw [← ea2]
  have hKt : Y2.2.1 (t) = 1 := (B_al b2 hT15).trans hK
  refine S_n g 2 (pc' := 15) (lv' := [(0, .ref (Y2.1 (t)))]) (st' := [.int (nI 40), .ref (Y2.1 (t))]) rfl ?_
  have hf2 : ¬ Y2.2.1 (t + 2) < 15 := by rw [b2.2.1 (t + 2) (by first | (dsimp only; omega) | (simp only [false_or]; omega) | simp)]; exact hfree _ (by omega) (by omega)
  refine S_newL g (i := t + 2) (N := 40) (frY_of b2.2.2.2.2.2.2.2 (by omega) hf2) al_w (nI_pos (by decide)) (nI_clamp (by decide)) (by rw [b2.2.2.2.1]; exact l2) (by decide) (Nat.le_of_ble_eq_true rfl) (Nat.le_of_ble_eq_true rfl) rfl (fun q2 => ?_)
  obtain ⟨Y3, hY3⟩ : ∃ Y3 : PS, Y3 = newY Y2 (t + 2) q2 11 := ⟨_, rfl⟩
  rw [← hY3]
  have b3 := B_arr (q := q2) (c := 11) b2 hf2 k2 (by decide) rfl hT15
  rw [← hY3] at b3
  have ea3 : Y3.1 (t) = Y2.1 (t) := by rw [hY3]; exact nY1 (by omega)
  rw [← ea3]
  have eq3 : Y3.1 (t + 2) = q2 := by rw [hY3]; exact nY1s
  rw [← eq3]
  have hKt : Y3.2.1 (t) = 1 := (B_al b3 hT15).trans hK
  have hp3 : Y3.2.1 (t + 2) < 15 := by rw [(b3.2.2.1 (t + 2) (by first | (dsimp only; omega) | (simp only [false_or]; omega) | simp)).2.1]; exact (b3.2.2.1 (t + 2) (by first | (dsimp only; omega) | (simp only [false_or]; omega) | simp)).2.2
  refine S_putFR g nm (i := t) (c := 1) (k := 1) (j := t + 2) (by omega) (by decide) hKt rfl fx_X1_15 rfl rfl rfl ?_
  obtain ⟨Y4, hY4⟩ : ∃ Y4 : PS, Y4 = putY Y3 (t) 1 (t + 2) := ⟨_, rfl⟩
  rw [← hY4]
  have b4 := B_put (k := 1) (j := t + 2) b3 hT15 p2 hp3
  rw [← hY4] at b4
  have ea4 : Y4.1 = Y3.1 := by rw [hY4]; rfl
  rw [← ea4]
  have hKt : Y4.2.1 (t) = 1 := (B_al b4 hT15).trans hK
  refine S_n g 2 (pc' := 23) (lv' := [(0, .ref (Y4.1 (t)))]) (st' := [.int (nI 40), .ref (Y4.1 (t))]) rfl ?_
  have hf4 : ¬ Y4.2.1 (t + 3) < 15 := by rw [b4.2.1 (t + 3) (by first | (dsimp only; omega) | (simp only [false_or]; omega) | simp)]; exact hfree _ (by omega) (by omega)
  refine S_newL g (i := t + 3) (N := 40) (frY_of b4.2.2.2.2.2.2.2 (by omega) hf4) al_w (nI_pos (by decide)) (nI_clamp (by decide)) (by rw [b4.2.2.2.1]; exact l3) (by decide) (Nat.le_of_ble_eq_true rfl) (Nat.le_of_ble_eq_true rfl) rfl (fun q4 => ?_)
  obtain ⟨Y5, hY5⟩ : ∃ Y5 : PS, Y5 = newY Y4 (t + 3) q4 11 := ⟨_, rfl⟩
  rw [← hY5]
  have b5 := B_arr (q := q4) (c := 11) b4 hf4 k3 (by decide) rfl hT15
  rw [← hY5] at b5
  have ea5 : Y5.1 (t) = Y4.1 (t) := by rw [hY5]; exact nY1 (by omega)
  rw [← ea5]
  have eq5 : Y5.1 (t + 3) = q4 := by rw [hY5]; exact nY1s
  rw [← eq5]
  have hKt : Y5.2.1 (t) = 1 := (B_al b5 hT15).trans hK
  have hp5 : Y5.2.1 (t + 3) < 15 := by rw [(b5.2.2.1 (t + 3) (by first | (dsimp only; omega) | (simp only [false_or]; omega) | simp)).2.1]; exact (b5.2.2.1 (t + 3) (by first | (dsimp only; omega) | (simp only [false_or]; omega) | simp)).2.2
  refine S_putFR g nm (i := t) (c := 1) (k := 2) (j := t + 3) (by omega) (by decide) hKt rfl fx_X1_18 rfl rfl rfl ?_
  obtain ⟨Y6, hY6⟩ : ∃ Y6 : PS, Y6 = putY Y5 (t) 2 (t + 3) := ⟨_, rfl⟩
  rw [← hY6]
  have b6 := B_put (k := 2) (j := t + 3) b5 hT15 p3 hp5
  rw [← hY6] at b6
  have ea6 : Y6.1 = Y5.1 := by rw [hY6]; rfl
  rw [← ea6]
  have hKt : Y6.2.1 (t) = 1 := (B_al b6 hT15).trans hK
  exact rt 28 _ none _ _ _ _ _ _ _ ⟨rfl, rfl⟩ (Nat.le_of_ble_eq_true rfl) (Nat.le_of_ble_eq_true rfl) ⟨rfl, B_as b6 (fun j => by constructor <;> intro h <;> simp only [false_or] at h ⊢ <;> omega) (fun k h => by simp only [false_or]; omega), rfl, rfl, rfl, rfl⟩

set_option maxRecDepth 100000 in
set_option maxHeartbeats 4000000 in
theorem in_X5 (kF : Nat → Nat) (pF : FP') (Y : PS) (I : FI) (J : FJ) (A : FI) (B : FJ) (t : Nat) (hC : ClY Y) (ht : t + 3 < 600) (hK : Y.2.1 t = 5) (hfree : ∀ j, t < j → j ≤ t + 3 → ¬ Y.2.1 j < 15) (l1 : Y.2.2.1 (t + 1) = 6) (k1 : kF (t + 1) = 11) (p1 : pF t 0 = some (t + 1)) (l2 : Y.2.2.1 (t + 2) = 60) (k2 : kF (t + 2) = 10) (p2 : pF t 1 = some (t + 2)) (l3 : Y.2.2.1 (t + 3) = 12) (k3 : kF (t + 3) = 11) (p3 : pF t 2 = some (t + 3)) : Spec M_X5_init [.ref (Y.1 t)] Y I J A B (fun v' Y' I' J' A' B' => v' = none ∧ Bld kF pF Y Y' (fun j => t < j ∧ j ≤ t + 3) t (fun k => k = 0 ∨ k = 1 ∨ k = 2) ∧ I' = I ∧ J' = J ∧ A' = va_up (A) (t + 2) (fun _ => 0) ∧ B' = va_up (va_up (B) (t + 1) (fun _ => 0)) (t + 3) (fun _ => 0)) := by
  refine Spec_ofI (by decide) rfl tk_X5_init (Nat.le_of_ble_eq_true rfl) (fun X g nm rt => ?_)
  show Sim X Y 0 [(0, .ref (Y.1 (t)))] [] I J A B 0 0
  have hT15 : Y.2.1 t < 15 := by rw [hK]; decide
  have hKt := hK
  have b0 : Bld kF pF Y Y (fun _ => False) t (fun _ => False) := B_0 hC
  refine S_n g 1 (pc' := 1) (lv' := [(0, .ref (Y.1 (t)))]) (st' := [.ref (Y.1 (t))]) rfl ?_
  refine S_oinit g lo_X5_3 oi_i oi_c (Nat.le_of_ble_eq_true rfl) (Nat.le_of_ble_eq_true rfl) rfl ?_
  refine S_n g 2 (pc' := 7) (lv' := [(0, .ref (Y.1 (t)))]) (st' := [.int (nI 6), .ref (Y.1 (t))]) rfl ?_
  have hf0 : ¬ Y.2.1 (t + 1) < 15 := by rw [b0.2.1 (t + 1) (by first | (dsimp only; omega) | (simp only [false_or]; omega) | simp)]; exact hfree _ (by omega) (by omega)
  refine S_newL g (i := t + 1) (N := 6) (frY_of b0.2.2.2.2.2.2.2 (by omega) hf0) al_w (nI_pos (by decide)) (nI_clamp (by decide)) (by rw [b0.2.2.2.1]; exact l1) (by decide) (Nat.le_of_ble_eq_true rfl) (Nat.le_of_ble_eq_true rfl) rfl (fun q0 => ?_)
  obtain ⟨Y1, hY1⟩ : ∃ Y1 : PS, Y1 = newY Y (t + 1) q0 11 := ⟨_, rfl⟩
  rw [← hY1]
  have b1 := B_arr (q := q0) (c := 11) b0 hf0 k1 (by decide) rfl hT15
  rw [← hY1] at b1
  have ea1 : Y1.1 (t) = Y.1 (t) := by rw [hY1]; exact nY1 (by omega)
  rw [← ea1]
  have eq1 : Y1.1 (t + 1) = q0 := by rw [hY1]; exact nY1s
  rw [← eq1]
  have hKt : Y1.2.1 (t) = 5 := (B_al b1 hT15).trans hK
  have hp1 : Y1.2.1 (t + 1) < 15 := by rw [(b1.2.2.1 (t + 1) (by first | (dsimp only; omega) | (simp only [false_or]; omega) | simp)).2.1]; exact (b1.2.2.1 (t + 1) (by first | (dsimp only; omega) | (simp only [false_or]; omega) | simp)).2.2
  refine S_putFR g nm (i := t) (c := 5) (k := 0) (j := t + 1) (by omega) (by decide) hKt rfl fx_X5_9 rfl rfl rfl ?_
  obtain ⟨Y2, hY2⟩ : ∃ Y2 : PS, Y2 = putY Y1 (t) 0 (t + 1) := ⟨_, rfl⟩
  rw [← hY2]
  have b2 := B_put (k := 0) (j := t + 1) b1 hT15 p1 hp1
  rw [← hY2] at b2
  have ea2 : Y2.1 = Y1.1 := by rw [hY2]; rfl
  rw [← ea2]
  have hKt : Y2.2.1 (t) = 5 := (B_al b2 hT15).trans hK
  refine S_n g 2 (pc' := 15) (lv' := [(0, .ref (Y2.1 (t)))]) (st' := [.int (nI 60), .ref (Y2.1 (t))]) rfl ?_
  have hf2 : ¬ Y2.2.1 (t + 2) < 15 := by rw [b2.2.1 (t + 2) (by first | (dsimp only; omega) | (simp only [false_or]; omega) | simp)]; exact hfree _ (by omega) (by omega)
  refine S_newI g (i := t + 2) (N := 60) (frY_of b2.2.2.2.2.2.2.2 (by omega) hf2) ai_w (nI_pos (by decide)) (nI_clamp (by decide)) (by rw [b2.2.2.2.1]; exact l2) (by decide) (Nat.le_of_ble_eq_true rfl) (Nat.le_of_ble_eq_true rfl) rfl (fun q2 => ?_)
  obtain ⟨Y3, hY3⟩ : ∃ Y3 : PS, Y3 = newY Y2 (t + 2) q2 10 := ⟨_, rfl⟩
  rw [← hY3]
  have b3 := B_arr (q := q2) (c := 10) b2 hf2 k2 (by decide) rfl hT15
  rw [← hY3] at b3
  have ea3 : Y3.1 (t) = Y2.1 (t) := by rw [hY3]; exact nY1 (by omega)
  rw [← ea3]
  have eq3 : Y3.1 (t + 2) = q2 := by rw [hY3]; exact nY1s
  rw [← eq3]
  have hKt : Y3.2.1 (t) = 5 := (B_al b3 hT15).trans hK
  have hp3 : Y3.2.1 (t + 2) < 15 := by rw [(b3.2.2.1 (t + 2) (by first | (dsimp only; omega) | (simp only [false_or]; omega) | simp)).2.1]; exact (b3.2.2.1 (t + 2) (by first | (dsimp only; omega) | (simp only [false_or]; omega) | simp)).2.2
  refine S_putFR g nm (i := t) (c := 5) (k := 1) (j := t + 2) (by omega) (by decide) hKt rfl fx_X5_15 rfl rfl rfl ?_
  obtain ⟨Y4, hY4⟩ : ∃ Y4 : PS, Y4 = putY Y3 (t) 1 (t + 2) := ⟨_, rfl⟩
  rw [← hY4]
  have b4 := B_put (k := 1) (j := t + 2) b3 hT15 p2 hp3
  rw [← hY4] at b4
  have ea4 : Y4.1 = Y3.1 := by rw [hY4]; rfl
  rw [← ea4]
  have hKt : Y4.2.1 (t) = 5 := (B_al b4 hT15).trans hK
  refine S_n g 2 (pc' := 23) (lv' := [(0, .ref (Y4.1 (t)))]) (st' := [.int (nI 12), .ref (Y4.1 (t))]) rfl ?_
  have hf4 : ¬ Y4.2.1 (t + 3) < 15 := by rw [b4.2.1 (t + 3) (by first | (dsimp only; omega) | (simp only [false_or]; omega) | simp)]; exact hfree _ (by omega) (by omega)
  refine S_newL g (i := t + 3) (N := 12) (frY_of b4.2.2.2.2.2.2.2 (by omega) hf4) al_w (nI_pos (by decide)) (nI_clamp (by decide)) (by rw [b4.2.2.2.1]; exact l3) (by decide) (Nat.le_of_ble_eq_true rfl) (Nat.le_of_ble_eq_true rfl) rfl (fun q4 => ?_)
  obtain ⟨Y5, hY5⟩ : ∃ Y5 : PS, Y5 = newY Y4 (t + 3) q4 11 := ⟨_, rfl⟩
  rw [← hY5]
  have b5 := B_arr (q := q4) (c := 11) b4 hf4 k3 (by decide) rfl hT15
  rw [← hY5] at b5
  have ea5 : Y5.1 (t) = Y4.1 (t) := by rw [hY5]; exact nY1 (by omega)
  rw [← ea5]
  have eq5 : Y5.1 (t + 3) = q4 := by rw [hY5]; exact nY1s
  rw [← eq5]
  have hKt : Y5.2.1 (t) = 5 := (B_al b5 hT15).trans hK
  have hp5 : Y5.2.1 (t + 3) < 15 := by rw [(b5.2.2.1 (t + 3) (by first | (dsimp only; omega) | (simp only [false_or]; omega) | simp)).2.1]; exact (b5.2.2.1 (t + 3) (by first | (dsimp only; omega) | (simp only [false_or]; omega) | simp)).2.2
  refine S_putFR g nm (i := t) (c := 5) (k := 2) (j := t + 3) (by omega) (by decide) hKt rfl fx_X5_19 rfl rfl rfl ?_
  obtain ⟨Y6, hY6⟩ : ∃ Y6 : PS, Y6 = putY Y5 (t) 2 (t + 3) := ⟨_, rfl⟩
  rw [← hY6]
  have b6 := B_put (k := 2) (j := t + 3) b5 hT15 p3 hp5
  rw [← hY6] at b6
  have ea6 : Y6.1 = Y5.1 := by rw [hY6]; rfl
  rw [← ea6]
  have hKt : Y6.2.1 (t) = 5 := (B_al b6 hT15).trans hK
  exact rt 28 _ none _ _ _ _ _ _ _ ⟨rfl, rfl⟩ (Nat.le_of_ble_eq_true rfl) (Nat.le_of_ble_eq_true rfl) ⟨rfl, B_as b6 (fun j => by constructor <;> intro h <;> simp only [false_or] at h ⊢ <;> omega) (fun k h => by simp only [false_or]; omega), rfl, rfl, rfl, rfl⟩

set_option maxRecDepth 100000 in
set_option maxHeartbeats 4000000 in
theorem in_X0 (kF : Nat → Nat) (pF : FP') (Y : PS) (I : FI) (J : FJ) (A : FI) (B : FJ) (t : Nat) (hC : ClY Y) (ht : t + 2 < 600) (hK : Y.2.1 t = 0) (hfree : ∀ j, t < j → j ≤ t + 2 → ¬ Y.2.1 j < 15) (l1 : Y.2.2.1 (t + 1) = 64) (k1 : kF (t + 1) = 10) (p1 : pF t 0 = some (t + 1)) (l2 : Y.2.2.1 (t + 2) = 64) (k2 : kF (t + 2) = 11) (p2 : pF t 1 = some (t + 2)) : Spec M_X0_init [.ref (Y.1 t)] Y I J A B (fun v' Y' I' J' A' B' => v' = none ∧ Bld kF pF Y Y' (fun j => t < j ∧ j ≤ t + 2) t (fun k => k = 0 ∨ k = 1) ∧ I' = I ∧ J' = J ∧ A' = va_up (A) (t + 1) (fun _ => 0) ∧ B' = va_up (B) (t + 2) (fun _ => 0)) := by
  refine Spec_ofI (by decide) rfl tk_X0_init (Nat.le_of_ble_eq_true rfl) (fun X g nm rt => ?_)
  show Sim X Y 0 [(0, .ref (Y.1 (t)))] [] I J A B 0 0
  have hT15 : Y.2.1 t < 15 := by rw [hK]; decide
  have hKt := hK
  have b0 : Bld kF pF Y Y (fun _ => False) t (fun _ => False) := B_0 hC
  refine S_n g 1 (pc' := 1) (lv' := [(0, .ref (Y.1 (t)))]) (st' := [.ref (Y.1 (t))]) rfl ?_
  refine S_oinit g lo_X0_3 oi_i oi_c (Nat.le_of_ble_eq_true rfl) (Nat.le_of_ble_eq_true rfl) rfl ?_
  refine S_n g 2 (pc' := 7) (lv' := [(0, .ref (Y.1 (t)))]) (st' := [.int (nI 64), .ref (Y.1 (t))]) rfl ?_
  have hf0 : ¬ Y.2.1 (t + 1) < 15 := by rw [b0.2.1 (t + 1) (by first | (dsimp only; omega) | (simp only [false_or]; omega) | simp)]; exact hfree _ (by omega) (by omega)
  refine S_newI g (i := t + 1) (N := 64) (frY_of b0.2.2.2.2.2.2.2 (by omega) hf0) ai_w (nI_pos (by decide)) (nI_clamp (by decide)) (by rw [b0.2.2.2.1]; exact l1) (by decide) (Nat.le_of_ble_eq_true rfl) (Nat.le_of_ble_eq_true rfl) rfl (fun q0 => ?_)
  obtain ⟨Y1, hY1⟩ : ∃ Y1 : PS, Y1 = newY Y (t + 1) q0 10 := ⟨_, rfl⟩
  rw [← hY1]
  have b1 := B_arr (q := q0) (c := 10) b0 hf0 k1 (by decide) rfl hT15
  rw [← hY1] at b1
  have ea1 : Y1.1 (t) = Y.1 (t) := by rw [hY1]; exact nY1 (by omega)
  rw [← ea1]
  have eq1 : Y1.1 (t + 1) = q0 := by rw [hY1]; exact nY1s
  rw [← eq1]
  have hKt : Y1.2.1 (t) = 0 := (B_al b1 hT15).trans hK
  have hp1 : Y1.2.1 (t + 1) < 15 := by rw [(b1.2.2.1 (t + 1) (by first | (dsimp only; omega) | (simp only [false_or]; omega) | simp)).2.1]; exact (b1.2.2.1 (t + 1) (by first | (dsimp only; omega) | (simp only [false_or]; omega) | simp)).2.2
  refine S_putFR g nm (i := t) (c := 0) (k := 0) (j := t + 1) (by omega) (by decide) hKt rfl fx_X0_9 rfl rfl rfl ?_
  obtain ⟨Y2, hY2⟩ : ∃ Y2 : PS, Y2 = putY Y1 (t) 0 (t + 1) := ⟨_, rfl⟩
  rw [← hY2]
  have b2 := B_put (k := 0) (j := t + 1) b1 hT15 p1 hp1
  rw [← hY2] at b2
  have ea2 : Y2.1 = Y1.1 := by rw [hY2]; rfl
  rw [← ea2]
  have hKt : Y2.2.1 (t) = 0 := (B_al b2 hT15).trans hK
  refine S_n g 2 (pc' := 15) (lv' := [(0, .ref (Y2.1 (t)))]) (st' := [.int (nI 64), .ref (Y2.1 (t))]) rfl ?_
  have hf2 : ¬ Y2.2.1 (t + 2) < 15 := by rw [b2.2.1 (t + 2) (by first | (dsimp only; omega) | (simp only [false_or]; omega) | simp)]; exact hfree _ (by omega) (by omega)
  refine S_newL g (i := t + 2) (N := 64) (frY_of b2.2.2.2.2.2.2.2 (by omega) hf2) al_w (nI_pos (by decide)) (nI_clamp (by decide)) (by rw [b2.2.2.2.1]; exact l2) (by decide) (Nat.le_of_ble_eq_true rfl) (Nat.le_of_ble_eq_true rfl) rfl (fun q2 => ?_)
  obtain ⟨Y3, hY3⟩ : ∃ Y3 : PS, Y3 = newY Y2 (t + 2) q2 11 := ⟨_, rfl⟩
  rw [← hY3]
  have b3 := B_arr (q := q2) (c := 11) b2 hf2 k2 (by decide) rfl hT15
  rw [← hY3] at b3
  have ea3 : Y3.1 (t) = Y2.1 (t) := by rw [hY3]; exact nY1 (by omega)
  rw [← ea3]
  have eq3 : Y3.1 (t + 2) = q2 := by rw [hY3]; exact nY1s
  rw [← eq3]
  have hKt : Y3.2.1 (t) = 0 := (B_al b3 hT15).trans hK
  have hp3 : Y3.2.1 (t + 2) < 15 := by rw [(b3.2.2.1 (t + 2) (by first | (dsimp only; omega) | (simp only [false_or]; omega) | simp)).2.1]; exact (b3.2.2.1 (t + 2) (by first | (dsimp only; omega) | (simp only [false_or]; omega) | simp)).2.2
  refine S_putFR g nm (i := t) (c := 0) (k := 1) (j := t + 2) (by omega) (by decide) hKt rfl fx_X0_15 rfl rfl rfl ?_
  obtain ⟨Y4, hY4⟩ : ∃ Y4 : PS, Y4 = putY Y3 (t) 1 (t + 2) := ⟨_, rfl⟩
  rw [← hY4]
  have b4 := B_put (k := 1) (j := t + 2) b3 hT15 p2 hp3
  rw [← hY4] at b4
  have ea4 : Y4.1 = Y3.1 := by rw [hY4]; rfl
  rw [← ea4]
  have hKt : Y4.2.1 (t) = 0 := (B_al b4 hT15).trans hK
  exact rt 20 _ none _ _ _ _ _ _ _ ⟨rfl, rfl⟩ (Nat.le_of_ble_eq_true rfl) (Nat.le_of_ble_eq_true rfl) ⟨rfl, B_as b4 (fun j => by constructor <;> intro h <;> simp only [false_or] at h ⊢ <;> omega) (fun k h => by simp only [false_or]; omega), rfl, rfl, rfl, rfl⟩

set_option maxRecDepth 100000 in
set_option maxHeartbeats 4000000 in
theorem in_X4 (kF : Nat → Nat) (pF : FP') (Y : PS) (I : FI) (J : FJ) (A : FI) (B : FJ) (t : Nat) (hC : ClY Y) (ht : t + 1 < 600) (hK : Y.2.1 t = 4) (hfree : ∀ j, t < j → j ≤ t + 1 → ¬ Y.2.1 j < 15) (l1 : Y.2.2.1 (t + 1) = 80) (k1 : kF (t + 1) = 10) (p1 : pF t 0 = some (t + 1)) : Spec M_X4_init [.ref (Y.1 t)] Y I J A B (fun v' Y' I' J' A' B' => v' = none ∧ Bld kF pF Y Y' (fun j => t < j ∧ j ≤ t + 1) t (fun k => k = 0) ∧ I' = I ∧ J' = J ∧ A' = va_up (A) (t + 1) (fun _ => 0) ∧ B' = B) := by
  refine Spec_ofI (by decide) rfl tk_X4_init (Nat.le_of_ble_eq_true rfl) (fun X g nm rt => ?_)
  show Sim X Y 0 [(0, .ref (Y.1 (t)))] [] I J A B 0 0
  have hT15 : Y.2.1 t < 15 := by rw [hK]; decide
  have hKt := hK
  have b0 : Bld kF pF Y Y (fun _ => False) t (fun _ => False) := B_0 hC
  refine S_n g 1 (pc' := 1) (lv' := [(0, .ref (Y.1 (t)))]) (st' := [.ref (Y.1 (t))]) rfl ?_
  refine S_oinit g lo_X4_3 oi_i oi_c (Nat.le_of_ble_eq_true rfl) (Nat.le_of_ble_eq_true rfl) rfl ?_
  refine S_n g 2 (pc' := 7) (lv' := [(0, .ref (Y.1 (t)))]) (st' := [.int (nI 80), .ref (Y.1 (t))]) rfl ?_
  have hf0 : ¬ Y.2.1 (t + 1) < 15 := by rw [b0.2.1 (t + 1) (by first | (dsimp only; omega) | (simp only [false_or]; omega) | simp)]; exact hfree _ (by omega) (by omega)
  refine S_newI g (i := t + 1) (N := 80) (frY_of b0.2.2.2.2.2.2.2 (by omega) hf0) ai_w (nI_pos (by decide)) (nI_clamp (by decide)) (by rw [b0.2.2.2.1]; exact l1) (by decide) (Nat.le_of_ble_eq_true rfl) (Nat.le_of_ble_eq_true rfl) rfl (fun q0 => ?_)
  obtain ⟨Y1, hY1⟩ : ∃ Y1 : PS, Y1 = newY Y (t + 1) q0 10 := ⟨_, rfl⟩
  rw [← hY1]
  have b1 := B_arr (q := q0) (c := 10) b0 hf0 k1 (by decide) rfl hT15
  rw [← hY1] at b1
  have ea1 : Y1.1 (t) = Y.1 (t) := by rw [hY1]; exact nY1 (by omega)
  rw [← ea1]
  have eq1 : Y1.1 (t + 1) = q0 := by rw [hY1]; exact nY1s
  rw [← eq1]
  have hKt : Y1.2.1 (t) = 4 := (B_al b1 hT15).trans hK
  have hp1 : Y1.2.1 (t + 1) < 15 := by rw [(b1.2.2.1 (t + 1) (by first | (dsimp only; omega) | (simp only [false_or]; omega) | simp)).2.1]; exact (b1.2.2.1 (t + 1) (by first | (dsimp only; omega) | (simp only [false_or]; omega) | simp)).2.2
  refine S_putFR g nm (i := t) (c := 4) (k := 0) (j := t + 1) (by omega) (by decide) hKt rfl fx_X4_9 rfl rfl rfl ?_
  obtain ⟨Y2, hY2⟩ : ∃ Y2 : PS, Y2 = putY Y1 (t) 0 (t + 1) := ⟨_, rfl⟩
  rw [← hY2]
  have b2 := B_put (k := 0) (j := t + 1) b1 hT15 p1 hp1
  rw [← hY2] at b2
  have ea2 : Y2.1 = Y1.1 := by rw [hY2]; rfl
  rw [← ea2]
  have hKt : Y2.2.1 (t) = 4 := (B_al b2 hT15).trans hK
  exact rt 12 _ none _ _ _ _ _ _ _ ⟨rfl, rfl⟩ (Nat.le_of_ble_eq_true rfl) (Nat.le_of_ble_eq_true rfl) ⟨rfl, B_as b2 (fun j => by constructor <;> intro h <;> simp only [false_or] at h ⊢ <;> omega) (fun k h => by simp only [false_or]; omega), rfl, rfl, rfl, rfl⟩

set_option maxRecDepth 100000 in
set_option maxHeartbeats 4000000 in
theorem in_X6 (kF : Nat → Nat) (pF : FP') (Y : PS) (I : FI) (J : FJ) (A : FI) (B : FJ) (t : Nat) (lim : Nat) (hl : lim ≤ 100) (hC : ClY Y) (ht : t + 2 < 600) (hK : Y.2.1 t = 6) (hfree : ∀ j, t < j → j ≤ t + 2 → ¬ Y.2.1 j < 15) (l1 : Y.2.2.1 (t + 1) = lim) (l2 : Y.2.2.1 (t + 2) = lim) (k1 : kF (t + 1) = 11) (k2 : kF (t + 2) = 10) (p1 : pF t 0 = some (t + 1)) (p2 : pF t 1 = some (t + 2)) : Spec M_X6_init [.ref (Y.1 t), .int (nI lim)] Y I J A B (fun v' Y' I' J' A' B' => v' = none ∧ Bld kF pF Y Y' (fun j => t < j ∧ j ≤ t + 2) t (fun k => k = 0 ∨ k = 1) ∧ I' = up2 I t 2 (nI lim) ∧ J' = J ∧ A' = va_up A (t + 2) (fun _ => 0) ∧ B' = va_up B (t + 1) (fun _ => 0)) := by
  refine Spec_ofI (by decide) rfl tk_X6_init (Nat.le_of_ble_eq_true rfl) (fun X g nm rt => ?_)
  show Sim X Y 0 [(0, .ref (Y.1 (t))), (1, .int (nI lim))] [] I J A B 0 0
  have hT15 : Y.2.1 t < 15 := by rw [hK]; decide
  have hKt := hK
  have b0 : Bld kF pF Y Y (fun _ => False) t (fun _ => False) := B_0 hC
  refine S_n g 1 (pc' := 1) (lv' := [(0, .ref (Y.1 (t))), (1, .int (nI lim))]) (st' := [.ref (Y.1 (t))]) rfl ?_
  refine S_oinit g lo_X6_1 oi_i oi_c (Nat.le_of_ble_eq_true rfl) (Nat.le_of_ble_eq_true rfl) rfl ?_
  refine S_n g 2 (pc' := 6) (lv' := [(0, .ref (Y.1 (t))), (1, .int (nI lim))]) (st' := [.int (nI lim), .ref (Y.1 (t))]) rfl ?_
  refine S_putFI g nm (i := t) (c := 6) (k := 2) (kd := 0) (by omega) (by decide) hKt rfl (by decide) fx_X6_7 rfl rfl rfl ?_
  refine S_n g 2 (pc' := 11) (lv' := [(0, .ref (Y.1 (t))), (1, .int (nI lim))]) (st' := [.int (nI lim), .ref (Y.1 (t))]) rfl ?_
  have hf0 : ¬ Y.2.1 (t + 1) < 15 := by rw [b0.2.1 (t + 1) (by first | (dsimp only; omega) | (simp only [false_or]; omega) | simp)]; exact hfree _ (by omega) (by omega)
  refine S_newL g (i := t + 1) (N := lim) (frY_of b0.2.2.2.2.2.2.2 (by omega) hf0) al_w (nI_pos (by omega)) (nI_clamp (by omega)) (by rw [b0.2.2.2.1]; exact l1) (by omega) (Nat.le_of_ble_eq_true rfl) (by show _ ≤ 200; omega) rfl (fun q0 => ?_)
  obtain ⟨Y1, hY1⟩ : ∃ Y1 : PS, Y1 = newY Y (t + 1) q0 11 := ⟨_, rfl⟩
  rw [← hY1]
  have b1 := B_arr (q := q0) (c := 11) b0 hf0 k1 (by decide) rfl hT15
  rw [← hY1] at b1
  have ea1 : Y1.1 (t) = Y.1 (t) := by rw [hY1]; exact nY1 (by omega)
  rw [← ea1]
  have eq1 : Y1.1 (t + 1) = q0 := by rw [hY1]; exact nY1s
  rw [← eq1]
  have hKt : Y1.2.1 (t) = 6 := (B_al b1 hT15).trans hK
  have hp1 : Y1.2.1 (t + 1) < 15 := by rw [(b1.2.2.1 (t + 1) (by first | (dsimp only; omega) | (simp only [false_or]; omega) | simp)).2.1]; exact (b1.2.2.1 (t + 1) (by first | (dsimp only; omega) | (simp only [false_or]; omega) | simp)).2.2
  refine S_putFR g nm (i := t) (c := 6) (k := 0) (j := t + 1) (by omega) (by decide) hKt rfl fx_X6_13 rfl rfl rfl ?_
  obtain ⟨Y2, hY2⟩ : ∃ Y2 : PS, Y2 = putY Y1 (t) 0 (t + 1) := ⟨_, rfl⟩
  rw [← hY2]
  have b2 := B_put (k := 0) (j := t + 1) b1 hT15 p1 hp1
  rw [← hY2] at b2
  have ea2 : Y2.1 = Y1.1 := by rw [hY2]; rfl
  rw [← ea2]
  have hKt : Y2.2.1 (t) = 6 := (B_al b2 hT15).trans hK
  refine S_n g 2 (pc' := 18) (lv' := [(0, .ref (Y2.1 (t))), (1, .int (nI lim))]) (st' := [.int (nI lim), .ref (Y2.1 (t))]) rfl ?_
  have hf2 : ¬ Y2.2.1 (t + 2) < 15 := by rw [b2.2.1 (t + 2) (by first | (dsimp only; omega) | (simp only [false_or]; omega) | simp)]; exact hfree _ (by omega) (by omega)
  refine S_newI g (i := t + 2) (N := lim) (frY_of b2.2.2.2.2.2.2.2 (by omega) hf2) ai_w (nI_pos (by omega)) (nI_clamp (by omega)) (by rw [b2.2.2.2.1]; exact l2) (by omega) (Nat.le_of_ble_eq_true rfl) (by show _ ≤ 200; omega) rfl (fun q2 => ?_)
  obtain ⟨Y3, hY3⟩ : ∃ Y3 : PS, Y3 = newY Y2 (t + 2) q2 10 := ⟨_, rfl⟩
  rw [← hY3]
  have b3 := B_arr (q := q2) (c := 10) b2 hf2 k2 (by decide) rfl hT15
  rw [← hY3] at b3
  have ea3 : Y3.1 (t) = Y2.1 (t) := by rw [hY3]; exact nY1 (by omega)
  rw [← ea3]
  have eq3 : Y3.1 (t + 2) = q2 := by rw [hY3]; exact nY1s
  rw [← eq3]
  have hKt : Y3.2.1 (t) = 6 := (B_al b3 hT15).trans hK
  have hp3 : Y3.2.1 (t + 2) < 15 := by rw [(b3.2.2.1 (t + 2) (by first | (dsimp only; omega) | (simp only [false_or]; omega) | simp)).2.1]; exact (b3.2.2.1 (t + 2) (by first | (dsimp only; omega) | (simp only [false_or]; omega) | simp)).2.2
  refine S_putFR g nm (i := t) (c := 6) (k := 1) (j := t + 2) (by omega) (by decide) hKt rfl fx_X6_17 rfl rfl rfl ?_
  obtain ⟨Y4, hY4⟩ : ∃ Y4 : PS, Y4 = putY Y3 (t) 1 (t + 2) := ⟨_, rfl⟩
  rw [← hY4]
  have b4 := B_put (k := 1) (j := t + 2) b3 hT15 p2 hp3
  rw [← hY4] at b4
  have ea4 : Y4.1 = Y3.1 := by rw [hY4]; rfl
  rw [← ea4]
  have hKt : Y4.2.1 (t) = 6 := (B_al b4 hT15).trans hK
  exact rt 23 _ none _ _ _ _ _ _ _ ⟨rfl, rfl⟩ (Nat.le_of_ble_eq_true rfl) (by show _ ≤ 200; omega) ⟨rfl, B_as b4 (fun j => by constructor <;> intro h <;> simp only [false_or] at h ⊢ <;> omega) (fun k h => by simp only [false_or]; omega), rfl, rfl, rfl, rfl⟩
