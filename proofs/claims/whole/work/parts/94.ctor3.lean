/-! a world is made -/
theorem B_ast {kF : Nat → Nat} {pF : FP'} {Y Y' : PS} {S : Nat → Prop} {t : Nat} {asg : Nat → Prop} (h : Bld kF pF Y Y' S t asg) {i e j : Nat} (hi : ¬ Y.2.1 i < 15) (hj : Y'.2.1 j < 15) : Bld kF pF Y (astY Y' i e j) S t asg := by
  obtain ⟨b1, b2, b3, b4, b5, b6, b7, b8⟩ := h
  refine ⟨b1, b2, b3, b4, fun a ha => ⟨(b5 a ha).1, fun k => ?_⟩, b6, b7, ClY_ast b8 hj⟩
  show up2 Y'.2.2.2.2 i e (some j) a k = _
  rw [up2_ne _ _ _ _ (fun q => hi (by rw [← q]; exact ha))]
  exact (b5 a ha).2 k
theorem ref6 {k : Nat} (h : (fkd 6)[k]? = some 2) : k = 0 ∨ k = 1 := by rcases k with _ | _ | _ | _ | k <;> simp_all [fkd]
theorem ref3 {k : Nat} (h : (fkd 3)[k]? = some 2) : k = 0 ∨ k = 1 ∨ k = 2 := by rcases k with _ | _ | _ | _ | k <;> simp_all [fkd]
theorem ref2 {k : Nat} (h : (fkd 2)[k]? = some 2) : k = 0 := by rcases k with _ | _ | _ | k <;> simp_all [fkd]

set_option maxRecDepth 100000 in
set_option maxHeartbeats 4000000 in
theorem in_X7_100 (Y : PS) (I : FI) (J : FJ) (A : FI) (B : FJ) (hC : ClY Y) (hK : Y.2.1 100 = 7) (hfree : ∀ j, 100 < j → j < 144 → ¬ Y.2.1 j < 15) (hN : Y.2.2.1 = nnC) : Spec M_X7_init [.ref (Y.1 100)] Y I J A B (fun v' Y' I' J' A' B' => v' = none ∧ Bld (kdC true true) ppC Y Y' (fun j => (100 < j ∧ j ≤ 112) ∨ (120 ≤ j ∧ j < 144)) 100 (fun k => k < 5) ∧ (∀ e, e < 6 → Y'.2.2.2.2 102 e = some (120 + 4 * e)) ∧ Lim 100 I' ∧ ∀ j, j ≤ 100 ∨ 144 ≤ j → I' j = I j ∧ J' j = J j ∧ A' j = A j ∧ B' j = B j) := by
  refine Spec_ofI (by decide) rfl tk_X7_init (Nat.le_of_ble_eq_true rfl) (fun X g nm rt => ?_)
  show Sim X Y 0 [(0, .ref (Y.1 (100)))] [] I J A B 0 0
  have hT15 : Y.2.1 100 < 15 := by rw [hK]; decide
  have hKt := hK
  have b0 : Bld (kdC true true) ppC Y Y (fun _ => False) 100 (fun _ => False) := B_0 hC
  refine S_n g 1 (pc' := 1) (lv' := [(0, .ref (Y.1 (100)))]) (st' := [.ref (Y.1 (100))]) rfl ?_
  refine S_oinit g lo_X7_3 oi_i oi_c (Nat.le_of_ble_eq_true rfl) (Nat.le_of_ble_eq_true rfl) rfl ?_
  refine S_n g 2 (pc' := 7) (lv' := [(0, .ref (Y.1 (100)))]) (st' := [.int (nI 60), .ref (Y.1 (100))]) rfl ?_
  have hf0 : ¬ Y.2.1 (101) < 15 := by rw [b0.2.1 (101) (by first | (dsimp only; omega) | (simp only [false_or]; omega) | simp)]; exact hfree _ (by omega) (by omega)
  refine S_newI g (i := 101) (N := 60) (frY_of b0.2.2.2.2.2.2.2 (by omega) hf0) ai_w (nI_pos (by decide)) (nI_clamp (by decide)) (by rw [b0.2.2.2.1]; exact (by rw [hN]; rfl)) (by decide) (Nat.le_of_ble_eq_true rfl) (Nat.le_of_ble_eq_true rfl) rfl (fun q0 => ?_)
  obtain ⟨Y1, hY1⟩ : ∃ Y1 : PS, Y1 = newY Y (101) q0 10 := ⟨_, rfl⟩
  rw [← hY1]
  have b1 := B_arr (q := q0) (c := 10) b0 hf0 rfl (by decide) rfl hT15
  rw [← hY1] at b1
  have ea1 : Y1.1 (100) = Y.1 (100) := by rw [hY1]; exact nY1 (by omega)
  rw [← ea1]
  have eq1 : Y1.1 (101) = q0 := by rw [hY1]; exact nY1s
  rw [← eq1]
  have hKt : Y1.2.1 (100) = 7 := (B_al b1 hT15).trans hK
  have hp1 : Y1.2.1 (101) < 15 := by rw [(b1.2.2.1 (101) (by first | (dsimp only; omega) | (simp only [false_or]; omega) | simp)).2.1]; exact (b1.2.2.1 (101) (by first | (dsimp only; omega) | (simp only [false_or]; omega) | simp)).2.2
  refine S_putFR g nm (i := 100) (c := 7) (k := 0) (j := 101) (by omega) (by decide) hKt rfl fx_X7_9 rfl rfl rfl ?_
  obtain ⟨Y2, hY2⟩ : ∃ Y2 : PS, Y2 = putY Y1 (100) 0 (101) := ⟨_, rfl⟩
  rw [← hY2]
  have b2 := B_put (k := 0) (j := 101) b1 hT15 rfl hp1
  rw [← hY2] at b2
  have ea2 : Y2.1 = Y1.1 := by rw [hY2]; rfl
  rw [← ea2]
  have hKt : Y2.2.1 (100) = 7 := (B_al b2 hT15).trans hK
  refine S_n g 2 (pc' := 15) (lv' := [(0, .ref (Y2.1 (100)))]) (st' := [.int (nI 6), .ref (Y2.1 (100))]) rfl ?_
  have hf2 : ¬ Y2.2.1 (102) < 15 := by rw [b2.2.1 (102) (by first | (dsimp only; omega) | (simp only [false_or]; omega) | simp)]; exact hfree _ (by omega) (by omega)
  refine S_newM g (i := 102) (N := 6) (frY_of b2.2.2.2.2.2.2.2 (by omega) hf2) cl_X7_15 ao_2 (nI_pos (by decide)) (nI_clamp (by decide)) (by rw [b2.2.2.2.1, hN]; rfl) (by decide) (Nat.le_of_ble_eq_true rfl) (Nat.le_of_ble_eq_true rfl) rfl (fun q2 => ?_)
  obtain ⟨Y3, hY3⟩ : ∃ Y3 : PS, Y3 = newY Y2 (102) q2 13 := ⟨_, rfl⟩
  rw [← hY3]
  have b3 := B_arr (q := q2) (c := 13) b2 hf2 (show (kdC true true) 102 = 13 from rfl) (by decide) rfl hT15
  rw [← hY3] at b3
  have ea3 : Y3.1 (100) = Y2.1 (100) := by rw [hY3]; exact nY1 (by omega)
  rw [← ea3]
  have eq3 : Y3.1 (102) = q2 := by rw [hY3]; exact nY1s
  rw [← eq3]
  have hKt : Y3.2.1 (100) = 7 := (B_al b3 hT15).trans hK
  have hp3 : Y3.2.1 (102) < 15 := by rw [(b3.2.2.1 (102) (by first | (dsimp only; omega) | (simp only [false_or]; omega) | simp)).2.1]; exact (b3.2.2.1 (102) (by first | (dsimp only; omega) | (simp only [false_or]; omega) | simp)).2.2
  refine S_putFR g nm (i := 100) (c := 7) (k := 1) (j := 102) (by omega) (by decide) hKt rfl fx_X7_17 rfl rfl rfl ?_
  obtain ⟨Y4, hY4⟩ : ∃ Y4 : PS, Y4 = putY Y3 (100) 1 (102) := ⟨_, rfl⟩
  rw [← hY4]
  have b4 := B_put (k := 1) (j := 102) b3 hT15 rfl hp3
  rw [← hY4] at b4
  have ea4 : Y4.1 = Y3.1 := by rw [hY4]; rfl
  rw [← ea4]
  have hKt : Y4.2.1 (100) = 7 := (B_al b4 hT15).trans hK
  refine S_n g 1 (pc' := 22) (lv' := [(0, .ref (Y4.1 (100)))]) (st' := [.ref (Y4.1 (100))]) rfl ?_
  have hf4 : ¬ Y4.2.1 (103) < 15 := by rw [b4.2.1 (103) (by first | (dsimp only; omega) | (simp only [false_or]; omega) | simp)]; exact hfree _ (by omega) (by omega)
  refine S_newO g (i := 103) (c := 6) (frY_of b4.2.2.2.2.2.2.2 (by omega) hf4) (by decide) nw_X7_21 (Nat.le_of_ble_eq_true rfl) (Nat.le_of_ble_eq_true rfl) rfl (fun q4 => ?_)
  obtain ⟨Y5, hY5⟩ : ∃ Y5 : PS, Y5 = newY Y4 (103) q4 6 := ⟨_, rfl⟩
  rw [← hY5]
  have ea5 : Y5.1 (100) = Y4.1 (100) := by rw [hY5]; exact nY1 (by omega)
  rw [← ea5]
  have eq5 : Y5.1 (103) = q4 := by rw [hY5]; exact nY1s
  rw [← eq5]
  have hKn5 : Y5.2.1 (103) = 6 := by rw [hY5]; exact nYKs
  have hKt : Y5.2.1 (100) = 7 := by rw [hY5, nYK (by omega)]; exact hKt
  have hCn5 : ClY Y5 := by rw [hY5]; exact ClY_new b4.2.2.2.2.2.2.2 (by decide)
  have hLn5 : Y5.2.2.1 = Y.2.2.1 := by rw [hY5]; exact b4.2.2.2.1
  have hFn5 : ∀ j, j ≠ 103 → Y5.2.1 j = Y4.2.1 j := fun j hj => by rw [hY5]; exact nYK hj
  refine S_n g 2 (pc' := 28) (lv' := [(0, .ref (Y5.1 (100)))]) (st' := [.int (nI 100), .ref (Y5.1 (103)), .ref (Y5.1 (103)), .ref (Y5.1 (100))]) rfl ?_
  refine S_callI g (b := Y5.1 (103)) (As := [.int (nI 100)]) (st := [.ref (Y5.1 (103)), .ref (Y5.1 (100))]) (in_X6 (kdC true true) ppC Y5 (va_up (I) (103) (fun _ => 0)) (va_up (J) (103) (fun _ => 0)) (va_up (A) (101) (fun _ => 0)) (B) 103 100 (by decide) hCn5 (by omega) hKn5 (fun j x y => by rw [hFn5 j (by omega), b4.2.1 j (by first | (dsimp only; omega) | (simp only [false_or]; omega) | simp)]; exact hfree j (by omega) (by omega)) (by rw [hLn5, hN]; rfl) (by rw [hLn5, hN]; rfl) rfl rfl rfl rfl) mw_X6_init mi_X6_init rfl rfl lk_X7_23 ⟨Nat.le_of_ble_eq_true rfl, Nat.le_of_ble_eq_true rfl⟩ rfl (Nat.le_of_ble_eq_true rfl) ⟨Nat.le_of_ble_eq_true rfl, Nat.le_of_ble_eq_true rfl⟩ rfl (fun v' Y6 I6 J6 A6 B6 hpo => ?_)
  obtain ⟨rfl, h26, e16, e26, e36, e46⟩ := hpo
  rw [e16, e26, e36, e46]
  have b6 := B_obj (q := q4) (c := 6) b4 hf4 rfl (by decide) (hY5 ▸ h26) (fun k h => ref6 h) hT15
  have ea6100 : Y6.1 (100) = Y5.1 (100) := h26.1 (100) (by rw [hKt]; decide)
  rw [← ea6100]
  have ea6103 : Y6.1 (103) = Y5.1 (103) := h26.1 (103) (by rw [hKn5]; decide)
  rw [← ea6103]
  show Sim X Y6 31 [(0, .ref (Y6.1 (100)))] [.ref (Y6.1 (103)), .ref (Y6.1 (100))] (up2 (va_up (I) (103) (fun _ => 0)) 103 2 (nI 100)) (va_up (J) (103) (fun _ => 0)) (va_up (va_up (A) (101) (fun _ => 0)) (103 + 2) (fun _ => 0)) (va_up (B) (103 + 1) (fun _ => 0)) _ _
  have hKt : Y6.2.1 (100) = 7 := (B_al b6 hT15).trans hK
  have hp6 : Y6.2.1 (103) < 15 := by rw [(b6.2.2.1 (103) (by first | (dsimp only; omega) | (simp only [false_or]; omega) | simp)).2.1]; exact (b6.2.2.1 (103) (by first | (dsimp only; omega) | (simp only [false_or]; omega) | simp)).2.2
  refine S_putFR g nm (i := 100) (c := 7) (k := 2) (j := 103) (by omega) (by decide) hKt rfl fx_X7_26 rfl rfl rfl ?_
  obtain ⟨Y7, hY7⟩ : ∃ Y7 : PS, Y7 = putY Y6 (100) 2 (103) := ⟨_, rfl⟩
  rw [← hY7]
  have b7 := B_put (k := 2) (j := 103) b6 hT15 rfl hp6
  rw [← hY7] at b7
  have ea7 : Y7.1 = Y6.1 := by rw [hY7]; rfl
  rw [← ea7]
  have hKt : Y7.2.1 (100) = 7 := (B_al b7 hT15).trans hK
  refine S_n g 1 (pc' := 35) (lv' := [(0, .ref (Y7.1 (100)))]) (st' := [.ref (Y7.1 (100))]) rfl ?_
  have hf7 : ¬ Y7.2.1 (106) < 15 := by rw [b7.2.1 (106) (by first | (dsimp only; omega) | (simp only [false_or]; omega) | simp)]; exact hfree _ (by omega) (by omega)
  refine S_newO g (i := 106) (c := 6) (frY_of b7.2.2.2.2.2.2.2 (by omega) hf7) (by decide) nw_X7_21 (Nat.le_of_ble_eq_true rfl) (Nat.le_of_ble_eq_true rfl) rfl (fun q7 => ?_)
  obtain ⟨Y8, hY8⟩ : ∃ Y8 : PS, Y8 = newY Y7 (106) q7 6 := ⟨_, rfl⟩
  rw [← hY8]
  have ea8 : Y8.1 (100) = Y7.1 (100) := by rw [hY8]; exact nY1 (by omega)
  rw [← ea8]
  have eq8 : Y8.1 (106) = q7 := by rw [hY8]; exact nY1s
  rw [← eq8]
  have hKn8 : Y8.2.1 (106) = 6 := by rw [hY8]; exact nYKs
  have hKt : Y8.2.1 (100) = 7 := by rw [hY8, nYK (by omega)]; exact hKt
  have hCn8 : ClY Y8 := by rw [hY8]; exact ClY_new b7.2.2.2.2.2.2.2 (by decide)
  have hLn8 : Y8.2.2.1 = Y.2.2.1 := by rw [hY8]; exact b7.2.2.2.1
  have hFn8 : ∀ j, j ≠ 106 → Y8.2.1 j = Y7.2.1 j := fun j hj => by rw [hY8]; exact nYK hj
  refine S_n g 2 (pc' := 41) (lv' := [(0, .ref (Y8.1 (100)))]) (st' := [.int (nI 100), .ref (Y8.1 (106)), .ref (Y8.1 (106)), .ref (Y8.1 (100))]) rfl ?_
  refine S_callI g (b := Y8.1 (106)) (As := [.int (nI 100)]) (st := [.ref (Y8.1 (106)), .ref (Y8.1 (100))]) (in_X6 (kdC true true) ppC Y8 (va_up (up2 (va_up (I) (103) (fun _ => 0)) 103 2 (nI 100)) (106) (fun _ => 0)) (va_up (va_up (J) (103) (fun _ => 0)) (106) (fun _ => 0)) (va_up (va_up (A) (101) (fun _ => 0)) (103 + 2) (fun _ => 0)) (va_up (B) (103 + 1) (fun _ => 0)) 106 100 (by decide) hCn8 (by omega) hKn8 (fun j x y => by rw [hFn8 j (by omega), b7.2.1 j (by first | (dsimp only; omega) | (simp only [false_or]; omega) | simp)]; exact hfree j (by omega) (by omega)) (by rw [hLn8, hN]; rfl) (by rw [hLn8, hN]; rfl) rfl rfl rfl rfl) mw_X6_init mi_X6_init rfl rfl lk_X7_23 ⟨Nat.le_of_ble_eq_true rfl, Nat.le_of_ble_eq_true rfl⟩ rfl (Nat.le_of_ble_eq_true rfl) ⟨Nat.le_of_ble_eq_true rfl, Nat.le_of_ble_eq_true rfl⟩ rfl (fun v' Y9 I9 J9 A9 B9 hpo => ?_)
  obtain ⟨rfl, h29, e19, e29, e39, e49⟩ := hpo
  rw [e19, e29, e39, e49]
  have b9 := B_obj (q := q7) (c := 6) b7 hf7 rfl (by decide) (hY8 ▸ h29) (fun k h => ref6 h) hT15
  have ea9100 : Y9.1 (100) = Y8.1 (100) := h29.1 (100) (by rw [hKt]; decide)
  rw [← ea9100]
  have ea9106 : Y9.1 (106) = Y8.1 (106) := h29.1 (106) (by rw [hKn8]; decide)
  rw [← ea9106]
  show Sim X Y9 44 [(0, .ref (Y9.1 (100)))] [.ref (Y9.1 (106)), .ref (Y9.1 (100))] (up2 (va_up (up2 (va_up (I) (103) (fun _ => 0)) 103 2 (nI 100)) (106) (fun _ => 0)) 106 2 (nI 100)) (va_up (va_up (J) (103) (fun _ => 0)) (106) (fun _ => 0)) (va_up (va_up (va_up (A) (101) (fun _ => 0)) (103 + 2) (fun _ => 0)) (106 + 2) (fun _ => 0)) (va_up (va_up (B) (103 + 1) (fun _ => 0)) (106 + 1) (fun _ => 0)) _ _
  have hKt : Y9.2.1 (100) = 7 := (B_al b9 hT15).trans hK
  have hp9 : Y9.2.1 (106) < 15 := by rw [(b9.2.2.1 (106) (by first | (dsimp only; omega) | (simp only [false_or]; omega) | simp)).2.1]; exact (b9.2.2.1 (106) (by first | (dsimp only; omega) | (simp only [false_or]; omega) | simp)).2.2
  refine S_putFR g nm (i := 100) (c := 7) (k := 3) (j := 106) (by omega) (by decide) hKt rfl fx_X7_30 rfl rfl rfl ?_
  obtain ⟨Y10, hY10⟩ : ∃ Y10 : PS, Y10 = putY Y9 (100) 3 (106) := ⟨_, rfl⟩
  rw [← hY10]
  have b10 := B_put (k := 3) (j := 106) b9 hT15 rfl hp9
  rw [← hY10] at b10
  have ea10 : Y10.1 = Y9.1 := by rw [hY10]; rfl
  rw [← ea10]
  have hKt : Y10.2.1 (100) = 7 := (B_al b10 hT15).trans hK
  refine S_n g 1 (pc' := 48) (lv' := [(0, .ref (Y10.1 (100)))]) (st' := [.ref (Y10.1 (100))]) rfl ?_
  have hf10 : ¬ Y10.2.1 (109) < 15 := by rw [b10.2.1 (109) (by first | (dsimp only; omega) | (simp only [false_or]; omega) | simp)]; exact hfree _ (by omega) (by omega)
  refine S_newO g (i := 109) (c := 3) (frY_of b10.2.2.2.2.2.2.2 (by omega) hf10) (by decide) nw_X7_33 (Nat.le_of_ble_eq_true rfl) (Nat.le_of_ble_eq_true rfl) rfl (fun q10 => ?_)
  obtain ⟨Y11, hY11⟩ : ∃ Y11 : PS, Y11 = newY Y10 (109) q10 3 := ⟨_, rfl⟩
  rw [← hY11]
  have ea11 : Y11.1 (100) = Y10.1 (100) := by rw [hY11]; exact nY1 (by omega)
  rw [← ea11]
  have eq11 : Y11.1 (109) = q10 := by rw [hY11]; exact nY1s
  rw [← eq11]
  have hKn11 : Y11.2.1 (109) = 3 := by rw [hY11]; exact nYKs
  have hKt : Y11.2.1 (100) = 7 := by rw [hY11, nYK (by omega)]; exact hKt
  have hCn11 : ClY Y11 := by rw [hY11]; exact ClY_new b10.2.2.2.2.2.2.2 (by decide)
  have hLn11 : Y11.2.2.1 = Y.2.2.1 := by rw [hY11]; exact b10.2.2.2.1
  have hFn11 : ∀ j, j ≠ 109 → Y11.2.1 j = Y10.2.1 j := fun j hj => by rw [hY11]; exact nYK hj
  refine S_n g 1 (pc' := 52) (lv' := [(0, .ref (Y11.1 (100)))]) (st' := [.ref (Y11.1 (109)), .ref (Y11.1 (109)), .ref (Y11.1 (100))]) rfl ?_
  refine S_callI g (b := Y11.1 (109)) (As := []) (st := [.ref (Y11.1 (109)), .ref (Y11.1 (100))]) (in_X3 (kdC true true) ppC Y11 (va_up (up2 (va_up (up2 (va_up (I) (103) (fun _ => 0)) 103 2 (nI 100)) (106) (fun _ => 0)) 106 2 (nI 100)) (109) (fun _ => 0)) (va_up (va_up (va_up (J) (103) (fun _ => 0)) (106) (fun _ => 0)) (109) (fun _ => 0)) (va_up (va_up (va_up (A) (101) (fun _ => 0)) (103 + 2) (fun _ => 0)) (106 + 2) (fun _ => 0)) (va_up (va_up (B) (103 + 1) (fun _ => 0)) (106 + 1) (fun _ => 0)) 109 hCn11 (by omega) hKn11 (fun j x y => by rw [hFn11 j (by omega), b10.2.1 j (by first | (dsimp only; omega) | (simp only [false_or]; omega) | simp)]; exact hfree j (by omega) (by omega)) (by rw [hLn11, hN]; rfl) rfl rfl (by rw [hLn11, hN]; rfl) rfl rfl (by rw [hLn11, hN]; rfl) rfl rfl) mw_X3_init mi_X3_init rfl rfl lk_X7_35 ⟨Nat.le_of_ble_eq_true rfl, Nat.le_of_ble_eq_true rfl⟩ rfl (Nat.le_of_ble_eq_true rfl) ⟨Nat.le_of_ble_eq_true rfl, Nat.le_of_ble_eq_true rfl⟩ rfl (fun v' Y12 I12 J12 A12 B12 hpo => ?_)
  obtain ⟨rfl, h212, e112, e212, e312, e412⟩ := hpo
  rw [e112, e212, e312, e412]
  have b12 := B_obj (q := q10) (c := 3) b10 hf10 rfl (by decide) (hY11 ▸ h212) (fun k h => ref3 h) hT15
  have ea12109 : Y12.1 (109) = Y11.1 (109) := h212.1 (109) (by rw [hKn11]; decide)
  rw [← ea12109]
  have ea12100 : Y12.1 (100) = Y11.1 (100) := h212.1 (100) (by rw [hKt]; decide)
  rw [← ea12100]
  show Sim X Y12 55 [(0, .ref (Y12.1 (100)))] [.ref (Y12.1 (109)), .ref (Y12.1 (100))] (va_up (up2 (va_up (up2 (va_up (I) (103) (fun _ => 0)) 103 2 (nI 100)) (106) (fun _ => 0)) 106 2 (nI 100)) (109) (fun _ => 0)) (va_up (va_up (va_up (J) (103) (fun _ => 0)) (106) (fun _ => 0)) (109) (fun _ => 0)) (va_up (va_up (va_up (va_up (va_up (va_up (A) (101) (fun _ => 0)) (103 + 2) (fun _ => 0)) (106 + 2) (fun _ => 0)) (109 + 1) (fun _ => 0)) (109 + 2) (fun _ => 0)) (109 + 3) (fun _ => 0)) (va_up (va_up (B) (103 + 1) (fun _ => 0)) (106 + 1) (fun _ => 0)) _ _
  have hKt : Y12.2.1 (100) = 7 := (B_al b12 hT15).trans hK
  have hp12 : Y12.2.1 (109) < 15 := by rw [(b12.2.2.1 (109) (by first | (dsimp only; omega) | (simp only [false_or]; omega) | simp)).2.1]; exact (b12.2.2.1 (109) (by first | (dsimp only; omega) | (simp only [false_or]; omega) | simp)).2.2
  refine S_putFR g nm (i := 100) (c := 7) (k := 4) (j := 109) (by omega) (by decide) hKt rfl fx_X7_36 rfl rfl rfl ?_
  obtain ⟨Y13, hY13⟩ : ∃ Y13 : PS, Y13 = putY Y12 (100) 4 (109) := ⟨_, rfl⟩
  rw [← hY13]
  have b13 := B_put (k := 4) (j := 109) b12 hT15 rfl hp12
  rw [← hY13] at b13
  have ea13 : Y13.1 = Y12.1 := by rw [hY13]; rfl
  rw [← ea13]
  have hKt : Y13.2.1 (100) = 7 := (B_al b13 hT15).trans hK
  refine S_n g 2 (pc' := 60) (lv' := [(0, .ref (Y13.1 (100))), (1, .int (nI 0))]) (st' := []) rfl ?_
  obtain ⟨I5, hI5⟩ : ∃ I5 : FI, I5 = va_up (up2 (va_up (up2 (va_up (I) (103) (fun _ => 0)) 103 2 (nI 100)) (106) (fun _ => 0)) 106 2 (nI 100)) (109) (fun _ => 0) := ⟨_, rfl⟩
  obtain ⟨J5, hJ5⟩ : ∃ J5 : FJ, J5 = va_up (va_up (va_up (J) (103) (fun _ => 0)) (106) (fun _ => 0)) (109) (fun _ => 0) := ⟨_, rfl⟩
  obtain ⟨A5, hA5⟩ : ∃ A5 : FI, A5 = va_up (va_up (va_up (va_up (va_up (va_up (A) (101) (fun _ => 0)) (103 + 2) (fun _ => 0)) (106 + 2) (fun _ => 0)) (109 + 1) (fun _ => 0)) (109 + 2) (fun _ => 0)) (109 + 3) (fun _ => 0) := ⟨_, rfl⟩
  obtain ⟨B5, hB5⟩ : ∃ B5 : FJ, B5 = va_up (va_up (B) (103 + 1) (fun _ => 0)) (106 + 1) (fun _ => 0) := ⟨_, rfl⟩
  rw [← hI5, ← hJ5, ← hA5, ← hB5]
  have k5 : ∀ j, j ≤ 100 ∨ 144 ≤ j → I5 j = I j ∧ J5 j = J j ∧ A5 j = A j ∧ B5 j = B j := fun j hj => by
    rw [hI5, hJ5, hA5, hB5]
    refine ⟨?_, ?_, ?_, ?_⟩ <;> repeat (first | rw [va_up_ne _ _ (by omega)] | rw [u2r (by omega)])
  have l5 : I5 103 2 = nI 100 ∧ I5 106 2 = nI 100 := by rw [hI5]; exact ⟨rfl, rfl⟩
  have b5 : Bld (kdC true true) ppC Y Y13 (fun j => (100 < j ∧ j ≤ 112) ∨ (120 ≤ j ∧ j < 120 + 4 * 0)) 100 (fun k => k < 5) := B_as b13 (fun j => by constructor <;> intro h <;> simp only [false_or] at h ⊢ <;> omega) (fun k h => by simp only [false_or]; omega)
  have lp : ∀ (nn u : Nat) (Yu : PS) (I2 : FI) (J2 : FJ) (A2 : FI) (B2 : FJ), 6 - u = nn → u ≤ 6 → Bld (kdC true true) ppC Y Yu (fun j => (100 < j ∧ j ≤ 112) ∨ (120 ≤ j ∧ j < 120 + 4 * u)) 100 (fun k => k < 5) → (∀ e, e < u → Yu.2.2.2.2 102 e = some (120 + 4 * e)) → (∀ j, j < 120 ∨ 144 ≤ j → I2 j = I5 j ∧ J2 j = J5 j ∧ A2 j = A5 j ∧ B2 j = B5 j) → (∀ v, v < u → I2 (120 + 4 * v + 1) 2 = nI 40) → Sim X Yu 60 [(0, .ref (Yu.1 100)), (1, .int (nI u))] [] I2 J2 A2 B2 (12 + 4 * u) (568 + 207 * u) := by
    intro nn
    induction nn using Nat.strongRecOn with
    | ind nn ih =>
      intro u Yu I2 J2 A2 B2 hm hu6 bu hR2 hk2 hl2
      have hKt : Yu.2.1 100 = 7 := (B_al bu hT15).trans hK
      refine S_n g 2 (pc' := 63) (lv' := [(0, .ref (Yu.1 100)), (1, .int (nI u))]) (st' := [.int (nI 6), .int (nI u)]) rfl ?_
      refine S_icN_ge g (tgt := 85) (by omega) (by omega) rfl (by decide) (fun qz63 => ?_) (fun qz63 => ?_)
      · have hu9 : u = 6 := by omega
        subst hu9
        exact rt 85 _ none _ _ _ _ _ _ _ ⟨rfl, rfl⟩ (Nat.le_of_ble_eq_true rfl) (Nat.le_of_ble_eq_true rfl) ⟨rfl, B_as bu (fun j => by constructor <;> intro h <;> omega) (fun k h => h), hR2, ⟨by rw [(hk2 103 (by omega)).1]; exact l5.1, by rw [(hk2 106 (by omega)).1]; exact l5.2, fun v hv => hl2 v hv⟩, fun j hj => ⟨(hk2 j (by omega)).1.trans (k5 j hj).1, (hk2 j (by omega)).2.1.trans (k5 j hj).2.1, (hk2 j (by omega)).2.2.1.trans (k5 j hj).2.2.1, (hk2 j (by omega)).2.2.2.trans (k5 j hj).2.2.2⟩⟩
      · have hu : u < 6 := by omega
        have hmb := (mb_u (ad := fun _ => 0) (show isW true true 100 from isW_100) hu)
        have hK13 : Yu.2.1 102 = 13 := (bu.2.2.1 102 (by omega)).2.1
        refine S_n g 1 (pc' := 67) (lv' := [(0, .ref (Yu.1 (100))), (1, .int (nI u))]) (st' := [.ref (Yu.1 100)]) rfl ?_
        refine S_getR g (i := 100) (c := 7) (k := 1) (j := 102) (by decide) (by decide) hKt rfl (bu.2.2.2.2.2.2.1 1 (by decide)) fl_X7_17 rfl ?_
        refine S_n g 1 (pc' := 71) (lv' := [(0, .ref (Yu.1 (100))), (1, .int (nI u))]) (st' := [.int (nI u), .ref (Yu.1 (102))]) rfl ?_
        have hf90 : ¬ Yu.2.1 (120 + 4 * u) < 15 := by rw [bu.2.1 (120 + 4 * u) (by omega)]; exact hfree _ (by omega) (by omega)
        refine S_newO g (i := 120 + 4 * u) (c := 2) (frY_of bu.2.2.2.2.2.2.2 (by omega) hf90) (by decide) nw_X7_15 (by show 12 + 4 * u + 1 ≤ 36; omega) (by show 568 + 207 * u + 3 ≤ 1810; omega) rfl (fun q90 => ?_)
        obtain ⟨Y91, hY91⟩ : ∃ Y91 : PS, Y91 = newY Yu (120 + 4 * u) q90 2 := ⟨_, rfl⟩
        rw [← hY91]
        have ea100 : Y91.1 (100) = Yu.1 (100) := by rw [hY91]; exact nY1 (by omega)
        rw [← ea100]
        have ea102 : Y91.1 (102) = Yu.1 (102) := by rw [hY91]; exact nY1 (by omega)
        rw [← ea102]
        have eq91 : Y91.1 (120 + 4 * u) = q90 := by rw [hY91]; exact nY1s
        rw [← eq91]
        have hKn : Y91.2.1 (120 + 4 * u) = 2 := by rw [hY91]; exact nYKs
        have hFn : ∀ j, j ≠ 120 + 4 * u → Y91.2.1 j = Yu.2.1 j := fun j hj => by rw [hY91]; exact nYK hj
        have hCn : ClY Y91 := by rw [hY91]; exact ClY_new bu.2.2.2.2.2.2.2 (by decide)
        have hLn : Y91.2.2.1 = nnC := by rw [hY91]; exact bu.2.2.2.1.trans hN
        refine S_n g 1 (pc' := 75) (lv' := [(0, .ref (Y91.1 (100))), (1, .int (nI u))]) (st' := [.ref (Y91.1 (120 + 4 * u)), .ref (Y91.1 (120 + 4 * u)), .int (nI u), .ref (Y91.1 (102))]) rfl ?_
        refine S_callI g (b := Y91.1 (120 + 4 * u)) (As := []) (st := [.ref (Y91.1 (120 + 4 * u)), .int (nI u), .ref (Y91.1 (102))]) (in_X2 (kdC true true) ppC Y91 (va_up I2 (120 + 4 * u) (fun _ => 0)) (va_up J2 (120 + 4 * u) (fun _ => 0)) (A2) (B2) (120 + 4 * u) hCn (by omega) hKn (fun j x y => by rw [hFn j (by omega), bu.2.1 j (by omega)]; exact hfree j (by omega) (by omega)) (by rw [hLn]; exact hmb.2.2.2.2.2.2.1) (by rw [hLn]; exact hmb.2.2.2.2.2.2.2.1) hmb.2.2.2.1 hmb.2.2.2.2.1 hmb.2.2.2.2.2.1 hmb.2.1 hmb.2.2.2.2.2.2.2.2.1 hmb.2.2.2.2.2.2.2.2.2) mw_X2_init mi_X2_init rfl rfl lk_X7_40 ⟨Nat.le_of_ble_eq_true rfl, Nat.le_of_ble_eq_true rfl⟩ rfl (Nat.le_of_ble_eq_true rfl) ⟨by show 12 + 4 * u + 1 + 3 ≤ 36; omega, by show 568 + 207 * u + 3 + 204 ≤ 1810; omega⟩ rfl (fun v' Ym I3 J3 A3 B3 hpo => ?_)
        obtain ⟨rfl, h2m, e1, e2, e3, e4⟩ := hpo
        have bm := B_obj (q := q90) (c := 2) bu hf90 hmb.1 (by decide) (hY91 ▸ h2m) (fun k h => ref2 h) hT15
        have em100 : Ym.1 (100) = Y91.1 (100) := h2m.1 (100) (by rw [hFn 100 (by omega), hKt]; decide)
        rw [← em100]
        have em102 : Ym.1 (102) = Y91.1 (102) := h2m.1 (102) (by rw [hFn 102 (by omega), hK13]; decide)
        rw [← em102]
        have em1204u : Ym.1 (120 + 4 * u) = Y91.1 (120 + 4 * u) := h2m.1 (120 + 4 * u) (by rw [hKn]; decide)
        rw [← em1204u]
        show Sim X Ym 78 [(0, .ref (Ym.1 (100))), (1, .int (nI u))] [.ref (Ym.1 (120 + 4 * u)), .int (nI u), .ref (Ym.1 (102))] I3 J3 A3 B3 _ _
        have hKm : Ym.2.1 (120 + 4 * u) = 2 := ((bm.2.2.1 (120 + 4 * u) (by omega)).2.1).trans hmb.1
        have hK13m : Ym.2.1 102 = 13 := (bm.2.2.1 102 (by omega)).2.1
        refine S_ast13 g (i := 102) (e := u) (j := 120 + 4 * u) (by omega) hK13m (by omega) hKm (vp_in_nI (show u < Ym.2.2.1 102 from by rw [bm.2.2.2.1, hN]; exact hu) (by rw [bm.2.2.2.1, hN]; decide)) (nI_clamp (by omega)) rfl ?_
        obtain ⟨Y9, hY9⟩ : ∃ Y9 : PS, Y9 = astY Ym 102 u (120 + 4 * u) := ⟨_, rfl⟩
        rw [← hY9]
        have b9 := B_ast (i := 102) (e := u) bm (hfree 102 (by omega) (by omega)) (show Ym.2.1 (120 + 4 * u) < 15 by rw [hKm]; decide)
        rw [← hY9] at b9
        have ea9 : Y9.1 = Ym.1 := by rw [hY9]; rfl
        rw [← ea9]
        refine S_n g 2 (pc' := 60) (lv' := [(0, .ref (Y9.1 100)), (1, .int (nI u + nI 1))]) (st' := []) rfl ?_
        rw [nI_add u 1]
        rw [show 12 + 4 * u + 1 + M_X2_init.2.2.2.2.1.cells = 12 + 4 * (u + 1) from by show 12 + 4 * u + 1 + 3 = _; omega, show 568 + 207 * u + (fkd 2).length + M_X2_init.2.2.2.2.1.slots = 568 + 207 * (u + 1) from by show 568 + 207 * u + 3 + 204 = _; omega]
        refine ih (6 - (u + 1)) (by omega) (u + 1) Y9 I3 J3 A3 B3 rfl (by omega) (B_as b9 (fun j => by constructor <;> intro h <;> omega) (fun k h => h)) (fun e he => ?_) (fun j hj => ?_) (fun v hv => ?_)
        · rw [hY9]
          show up2 Ym.2.2.2.2 102 u (some (120 + 4 * u)) 102 e = _
          by_cases z : e = u
          · subst z; exact up2_same _ _ _ _
          · rw [up2_ix _ _ _ z, (h2m.2.2.2.2.1 102 (by rw [hFn 102 (by omega), hK13]; decide)).2 e, hY91]
            show va_up Yu.2.2.2.2 (120 + 4 * u) (fun _ => none) 102 e = _
            rw [va_up_ne _ _ (by omega)]; exact hR2 e (by omega)
        · rw [e1, e2, e3, e4, u2r (by omega), va_up_ne _ _ (by omega), va_up_ne _ _ (by omega), va_up_ne _ _ (by omega), va_up_ne _ _ (by omega), va_up_ne _ _ (by omega), va_up_ne _ _ (by omega)]; exact hk2 j hj
        · rw [e1]
          by_cases z : v = u
          · subst z; exact up2_same _ _ _ _
          · rw [u2j (Or.inl (by omega)), va_up_ne _ _ (by omega), va_up_ne _ _ (by omega)]; exact hl2 v (by omega)
  exact lp _ 0 Y13 I5 J5 A5 B5 rfl (by omega) b5 (fun e he => absurd he (Nat.not_lt_zero e)) (fun j hj => ⟨rfl, rfl, rfl, rfl⟩) (fun v hv => absurd hv (Nat.not_lt_zero v))

set_option maxRecDepth 100000 in
set_option maxHeartbeats 4000000 in
theorem in_X7_200 (Y : PS) (I : FI) (J : FJ) (A : FI) (B : FJ) (hC : ClY Y) (hK : Y.2.1 200 = 7) (hfree : ∀ j, 200 < j → j < 244 → ¬ Y.2.1 j < 15) (hN : Y.2.2.1 = nnC) : Spec M_X7_init [.ref (Y.1 200)] Y I J A B (fun v' Y' I' J' A' B' => v' = none ∧ Bld (kdC true true) ppC Y Y' (fun j => (200 < j ∧ j ≤ 212) ∨ (220 ≤ j ∧ j < 244)) 200 (fun k => k < 5) ∧ (∀ e, e < 6 → Y'.2.2.2.2 202 e = some (220 + 4 * e)) ∧ Lim 200 I' ∧ ∀ j, j ≤ 200 ∨ 244 ≤ j → I' j = I j ∧ J' j = J j ∧ A' j = A j ∧ B' j = B j) := by
  refine Spec_ofI (by decide) rfl tk_X7_init (Nat.le_of_ble_eq_true rfl) (fun X g nm rt => ?_)
  show Sim X Y 0 [(0, .ref (Y.1 (200)))] [] I J A B 0 0
  have hT15 : Y.2.1 200 < 15 := by rw [hK]; decide
  have hKt := hK
  have b0 : Bld (kdC true true) ppC Y Y (fun _ => False) 200 (fun _ => False) := B_0 hC
  refine S_n g 1 (pc' := 1) (lv' := [(0, .ref (Y.1 (200)))]) (st' := [.ref (Y.1 (200))]) rfl ?_
  refine S_oinit g lo_X7_3 oi_i oi_c (Nat.le_of_ble_eq_true rfl) (Nat.le_of_ble_eq_true rfl) rfl ?_
  refine S_n g 2 (pc' := 7) (lv' := [(0, .ref (Y.1 (200)))]) (st' := [.int (nI 60), .ref (Y.1 (200))]) rfl ?_
  have hf0 : ¬ Y.2.1 (201) < 15 := by rw [b0.2.1 (201) (by first | (dsimp only; omega) | (simp only [false_or]; omega) | simp)]; exact hfree _ (by omega) (by omega)
  refine S_newI g (i := 201) (N := 60) (frY_of b0.2.2.2.2.2.2.2 (by omega) hf0) ai_w (nI_pos (by decide)) (nI_clamp (by decide)) (by rw [b0.2.2.2.1]; exact (by rw [hN]; rfl)) (by decide) (Nat.le_of_ble_eq_true rfl) (Nat.le_of_ble_eq_true rfl) rfl (fun q0 => ?_)
  obtain ⟨Y1, hY1⟩ : ∃ Y1 : PS, Y1 = newY Y (201) q0 10 := ⟨_, rfl⟩
  rw [← hY1]
  have b1 := B_arr (q := q0) (c := 10) b0 hf0 rfl (by decide) rfl hT15
  rw [← hY1] at b1
  have ea1 : Y1.1 (200) = Y.1 (200) := by rw [hY1]; exact nY1 (by omega)
  rw [← ea1]
  have eq1 : Y1.1 (201) = q0 := by rw [hY1]; exact nY1s
  rw [← eq1]
  have hKt : Y1.2.1 (200) = 7 := (B_al b1 hT15).trans hK
  have hp1 : Y1.2.1 (201) < 15 := by rw [(b1.2.2.1 (201) (by first | (dsimp only; omega) | (simp only [false_or]; omega) | simp)).2.1]; exact (b1.2.2.1 (201) (by first | (dsimp only; omega) | (simp only [false_or]; omega) | simp)).2.2
  refine S_putFR g nm (i := 200) (c := 7) (k := 0) (j := 201) (by omega) (by decide) hKt rfl fx_X7_9 rfl rfl rfl ?_
  obtain ⟨Y2, hY2⟩ : ∃ Y2 : PS, Y2 = putY Y1 (200) 0 (201) := ⟨_, rfl⟩
  rw [← hY2]
  have b2 := B_put (k := 0) (j := 201) b1 hT15 rfl hp1
  rw [← hY2] at b2
  have ea2 : Y2.1 = Y1.1 := by rw [hY2]; rfl
  rw [← ea2]
  have hKt : Y2.2.1 (200) = 7 := (B_al b2 hT15).trans hK
  refine S_n g 2 (pc' := 15) (lv' := [(0, .ref (Y2.1 (200)))]) (st' := [.int (nI 6), .ref (Y2.1 (200))]) rfl ?_
  have hf2 : ¬ Y2.2.1 (202) < 15 := by rw [b2.2.1 (202) (by first | (dsimp only; omega) | (simp only [false_or]; omega) | simp)]; exact hfree _ (by omega) (by omega)
  refine S_newM g (i := 202) (N := 6) (frY_of b2.2.2.2.2.2.2.2 (by omega) hf2) cl_X7_15 ao_2 (nI_pos (by decide)) (nI_clamp (by decide)) (by rw [b2.2.2.2.1, hN]; rfl) (by decide) (Nat.le_of_ble_eq_true rfl) (Nat.le_of_ble_eq_true rfl) rfl (fun q2 => ?_)
  obtain ⟨Y3, hY3⟩ : ∃ Y3 : PS, Y3 = newY Y2 (202) q2 13 := ⟨_, rfl⟩
  rw [← hY3]
  have b3 := B_arr (q := q2) (c := 13) b2 hf2 (show (kdC true true) 202 = 13 from rfl) (by decide) rfl hT15
  rw [← hY3] at b3
  have ea3 : Y3.1 (200) = Y2.1 (200) := by rw [hY3]; exact nY1 (by omega)
  rw [← ea3]
  have eq3 : Y3.1 (202) = q2 := by rw [hY3]; exact nY1s
  rw [← eq3]
  have hKt : Y3.2.1 (200) = 7 := (B_al b3 hT15).trans hK
  have hp3 : Y3.2.1 (202) < 15 := by rw [(b3.2.2.1 (202) (by first | (dsimp only; omega) | (simp only [false_or]; omega) | simp)).2.1]; exact (b3.2.2.1 (202) (by first | (dsimp only; omega) | (simp only [false_or]; omega) | simp)).2.2
  refine S_putFR g nm (i := 200) (c := 7) (k := 1) (j := 202) (by omega) (by decide) hKt rfl fx_X7_17 rfl rfl rfl ?_
  obtain ⟨Y4, hY4⟩ : ∃ Y4 : PS, Y4 = putY Y3 (200) 1 (202) := ⟨_, rfl⟩
  rw [← hY4]
  have b4 := B_put (k := 1) (j := 202) b3 hT15 rfl hp3
  rw [← hY4] at b4
  have ea4 : Y4.1 = Y3.1 := by rw [hY4]; rfl
  rw [← ea4]
  have hKt : Y4.2.1 (200) = 7 := (B_al b4 hT15).trans hK
  refine S_n g 1 (pc' := 22) (lv' := [(0, .ref (Y4.1 (200)))]) (st' := [.ref (Y4.1 (200))]) rfl ?_
  have hf4 : ¬ Y4.2.1 (203) < 15 := by rw [b4.2.1 (203) (by first | (dsimp only; omega) | (simp only [false_or]; omega) | simp)]; exact hfree _ (by omega) (by omega)
  refine S_newO g (i := 203) (c := 6) (frY_of b4.2.2.2.2.2.2.2 (by omega) hf4) (by decide) nw_X7_21 (Nat.le_of_ble_eq_true rfl) (Nat.le_of_ble_eq_true rfl) rfl (fun q4 => ?_)
  obtain ⟨Y5, hY5⟩ : ∃ Y5 : PS, Y5 = newY Y4 (203) q4 6 := ⟨_, rfl⟩
  rw [← hY5]
  have ea5 : Y5.1 (200) = Y4.1 (200) := by rw [hY5]; exact nY1 (by omega)
  rw [← ea5]
  have eq5 : Y5.1 (203) = q4 := by rw [hY5]; exact nY1s
  rw [← eq5]
  have hKn5 : Y5.2.1 (203) = 6 := by rw [hY5]; exact nYKs
  have hKt : Y5.2.1 (200) = 7 := by rw [hY5, nYK (by omega)]; exact hKt
  have hCn5 : ClY Y5 := by rw [hY5]; exact ClY_new b4.2.2.2.2.2.2.2 (by decide)
  have hLn5 : Y5.2.2.1 = Y.2.2.1 := by rw [hY5]; exact b4.2.2.2.1
  have hFn5 : ∀ j, j ≠ 203 → Y5.2.1 j = Y4.2.1 j := fun j hj => by rw [hY5]; exact nYK hj
  refine S_n g 2 (pc' := 28) (lv' := [(0, .ref (Y5.1 (200)))]) (st' := [.int (nI 100), .ref (Y5.1 (203)), .ref (Y5.1 (203)), .ref (Y5.1 (200))]) rfl ?_
  refine S_callI g (b := Y5.1 (203)) (As := [.int (nI 100)]) (st := [.ref (Y5.1 (203)), .ref (Y5.1 (200))]) (in_X6 (kdC true true) ppC Y5 (va_up (I) (203) (fun _ => 0)) (va_up (J) (203) (fun _ => 0)) (va_up (A) (201) (fun _ => 0)) (B) 203 100 (by decide) hCn5 (by omega) hKn5 (fun j x y => by rw [hFn5 j (by omega), b4.2.1 j (by first | (dsimp only; omega) | (simp only [false_or]; omega) | simp)]; exact hfree j (by omega) (by omega)) (by rw [hLn5, hN]; rfl) (by rw [hLn5, hN]; rfl) rfl rfl rfl rfl) mw_X6_init mi_X6_init rfl rfl lk_X7_23 ⟨Nat.le_of_ble_eq_true rfl, Nat.le_of_ble_eq_true rfl⟩ rfl (Nat.le_of_ble_eq_true rfl) ⟨Nat.le_of_ble_eq_true rfl, Nat.le_of_ble_eq_true rfl⟩ rfl (fun v' Y6 I6 J6 A6 B6 hpo => ?_)
  obtain ⟨rfl, h26, e16, e26, e36, e46⟩ := hpo
  rw [e16, e26, e36, e46]
  have b6 := B_obj (q := q4) (c := 6) b4 hf4 rfl (by decide) (hY5 ▸ h26) (fun k h => ref6 h) hT15
  have ea6200 : Y6.1 (200) = Y5.1 (200) := h26.1 (200) (by rw [hKt]; decide)
  rw [← ea6200]
  have ea6203 : Y6.1 (203) = Y5.1 (203) := h26.1 (203) (by rw [hKn5]; decide)
  rw [← ea6203]
  show Sim X Y6 31 [(0, .ref (Y6.1 (200)))] [.ref (Y6.1 (203)), .ref (Y6.1 (200))] (up2 (va_up (I) (203) (fun _ => 0)) 203 2 (nI 100)) (va_up (J) (203) (fun _ => 0)) (va_up (va_up (A) (201) (fun _ => 0)) (203 + 2) (fun _ => 0)) (va_up (B) (203 + 1) (fun _ => 0)) _ _
  have hKt : Y6.2.1 (200) = 7 := (B_al b6 hT15).trans hK
  have hp6 : Y6.2.1 (203) < 15 := by rw [(b6.2.2.1 (203) (by first | (dsimp only; omega) | (simp only [false_or]; omega) | simp)).2.1]; exact (b6.2.2.1 (203) (by first | (dsimp only; omega) | (simp only [false_or]; omega) | simp)).2.2
  refine S_putFR g nm (i := 200) (c := 7) (k := 2) (j := 203) (by omega) (by decide) hKt rfl fx_X7_26 rfl rfl rfl ?_
  obtain ⟨Y7, hY7⟩ : ∃ Y7 : PS, Y7 = putY Y6 (200) 2 (203) := ⟨_, rfl⟩
  rw [← hY7]
  have b7 := B_put (k := 2) (j := 203) b6 hT15 rfl hp6
  rw [← hY7] at b7
  have ea7 : Y7.1 = Y6.1 := by rw [hY7]; rfl
  rw [← ea7]
  have hKt : Y7.2.1 (200) = 7 := (B_al b7 hT15).trans hK
  refine S_n g 1 (pc' := 35) (lv' := [(0, .ref (Y7.1 (200)))]) (st' := [.ref (Y7.1 (200))]) rfl ?_
  have hf7 : ¬ Y7.2.1 (206) < 15 := by rw [b7.2.1 (206) (by first | (dsimp only; omega) | (simp only [false_or]; omega) | simp)]; exact hfree _ (by omega) (by omega)
  refine S_newO g (i := 206) (c := 6) (frY_of b7.2.2.2.2.2.2.2 (by omega) hf7) (by decide) nw_X7_21 (Nat.le_of_ble_eq_true rfl) (Nat.le_of_ble_eq_true rfl) rfl (fun q7 => ?_)
  obtain ⟨Y8, hY8⟩ : ∃ Y8 : PS, Y8 = newY Y7 (206) q7 6 := ⟨_, rfl⟩
  rw [← hY8]
  have ea8 : Y8.1 (200) = Y7.1 (200) := by rw [hY8]; exact nY1 (by omega)
  rw [← ea8]
  have eq8 : Y8.1 (206) = q7 := by rw [hY8]; exact nY1s
  rw [← eq8]
  have hKn8 : Y8.2.1 (206) = 6 := by rw [hY8]; exact nYKs
  have hKt : Y8.2.1 (200) = 7 := by rw [hY8, nYK (by omega)]; exact hKt
  have hCn8 : ClY Y8 := by rw [hY8]; exact ClY_new b7.2.2.2.2.2.2.2 (by decide)
  have hLn8 : Y8.2.2.1 = Y.2.2.1 := by rw [hY8]; exact b7.2.2.2.1
  have hFn8 : ∀ j, j ≠ 206 → Y8.2.1 j = Y7.2.1 j := fun j hj => by rw [hY8]; exact nYK hj
  refine S_n g 2 (pc' := 41) (lv' := [(0, .ref (Y8.1 (200)))]) (st' := [.int (nI 100), .ref (Y8.1 (206)), .ref (Y8.1 (206)), .ref (Y8.1 (200))]) rfl ?_
  refine S_callI g (b := Y8.1 (206)) (As := [.int (nI 100)]) (st := [.ref (Y8.1 (206)), .ref (Y8.1 (200))]) (in_X6 (kdC true true) ppC Y8 (va_up (up2 (va_up (I) (203) (fun _ => 0)) 203 2 (nI 100)) (206) (fun _ => 0)) (va_up (va_up (J) (203) (fun _ => 0)) (206) (fun _ => 0)) (va_up (va_up (A) (201) (fun _ => 0)) (203 + 2) (fun _ => 0)) (va_up (B) (203 + 1) (fun _ => 0)) 206 100 (by decide) hCn8 (by omega) hKn8 (fun j x y => by rw [hFn8 j (by omega), b7.2.1 j (by first | (dsimp only; omega) | (simp only [false_or]; omega) | simp)]; exact hfree j (by omega) (by omega)) (by rw [hLn8, hN]; rfl) (by rw [hLn8, hN]; rfl) rfl rfl rfl rfl) mw_X6_init mi_X6_init rfl rfl lk_X7_23 ⟨Nat.le_of_ble_eq_true rfl, Nat.le_of_ble_eq_true rfl⟩ rfl (Nat.le_of_ble_eq_true rfl) ⟨Nat.le_of_ble_eq_true rfl, Nat.le_of_ble_eq_true rfl⟩ rfl (fun v' Y9 I9 J9 A9 B9 hpo => ?_)
  obtain ⟨rfl, h29, e19, e29, e39, e49⟩ := hpo
  rw [e19, e29, e39, e49]
  have b9 := B_obj (q := q7) (c := 6) b7 hf7 rfl (by decide) (hY8 ▸ h29) (fun k h => ref6 h) hT15
  have ea9206 : Y9.1 (206) = Y8.1 (206) := h29.1 (206) (by rw [hKn8]; decide)
  rw [← ea9206]
  have ea9200 : Y9.1 (200) = Y8.1 (200) := h29.1 (200) (by rw [hKt]; decide)
  rw [← ea9200]
  show Sim X Y9 44 [(0, .ref (Y9.1 (200)))] [.ref (Y9.1 (206)), .ref (Y9.1 (200))] (up2 (va_up (up2 (va_up (I) (203) (fun _ => 0)) 203 2 (nI 100)) (206) (fun _ => 0)) 206 2 (nI 100)) (va_up (va_up (J) (203) (fun _ => 0)) (206) (fun _ => 0)) (va_up (va_up (va_up (A) (201) (fun _ => 0)) (203 + 2) (fun _ => 0)) (206 + 2) (fun _ => 0)) (va_up (va_up (B) (203 + 1) (fun _ => 0)) (206 + 1) (fun _ => 0)) _ _
  have hKt : Y9.2.1 (200) = 7 := (B_al b9 hT15).trans hK
  have hp9 : Y9.2.1 (206) < 15 := by rw [(b9.2.2.1 (206) (by first | (dsimp only; omega) | (simp only [false_or]; omega) | simp)).2.1]; exact (b9.2.2.1 (206) (by first | (dsimp only; omega) | (simp only [false_or]; omega) | simp)).2.2
  refine S_putFR g nm (i := 200) (c := 7) (k := 3) (j := 206) (by omega) (by decide) hKt rfl fx_X7_30 rfl rfl rfl ?_
  obtain ⟨Y10, hY10⟩ : ∃ Y10 : PS, Y10 = putY Y9 (200) 3 (206) := ⟨_, rfl⟩
  rw [← hY10]
  have b10 := B_put (k := 3) (j := 206) b9 hT15 rfl hp9
  rw [← hY10] at b10
  have ea10 : Y10.1 = Y9.1 := by rw [hY10]; rfl
  rw [← ea10]
  have hKt : Y10.2.1 (200) = 7 := (B_al b10 hT15).trans hK
  refine S_n g 1 (pc' := 48) (lv' := [(0, .ref (Y10.1 (200)))]) (st' := [.ref (Y10.1 (200))]) rfl ?_
  have hf10 : ¬ Y10.2.1 (209) < 15 := by rw [b10.2.1 (209) (by first | (dsimp only; omega) | (simp only [false_or]; omega) | simp)]; exact hfree _ (by omega) (by omega)
  refine S_newO g (i := 209) (c := 3) (frY_of b10.2.2.2.2.2.2.2 (by omega) hf10) (by decide) nw_X7_33 (Nat.le_of_ble_eq_true rfl) (Nat.le_of_ble_eq_true rfl) rfl (fun q10 => ?_)
  obtain ⟨Y11, hY11⟩ : ∃ Y11 : PS, Y11 = newY Y10 (209) q10 3 := ⟨_, rfl⟩
  rw [← hY11]
  have ea11 : Y11.1 (200) = Y10.1 (200) := by rw [hY11]; exact nY1 (by omega)
  rw [← ea11]
  have eq11 : Y11.1 (209) = q10 := by rw [hY11]; exact nY1s
  rw [← eq11]
  have hKn11 : Y11.2.1 (209) = 3 := by rw [hY11]; exact nYKs
  have hKt : Y11.2.1 (200) = 7 := by rw [hY11, nYK (by omega)]; exact hKt
  have hCn11 : ClY Y11 := by rw [hY11]; exact ClY_new b10.2.2.2.2.2.2.2 (by decide)
  have hLn11 : Y11.2.2.1 = Y.2.2.1 := by rw [hY11]; exact b10.2.2.2.1
  have hFn11 : ∀ j, j ≠ 209 → Y11.2.1 j = Y10.2.1 j := fun j hj => by rw [hY11]; exact nYK hj
  refine S_n g 1 (pc' := 52) (lv' := [(0, .ref (Y11.1 (200)))]) (st' := [.ref (Y11.1 (209)), .ref (Y11.1 (209)), .ref (Y11.1 (200))]) rfl ?_
  refine S_callI g (b := Y11.1 (209)) (As := []) (st := [.ref (Y11.1 (209)), .ref (Y11.1 (200))]) (in_X3 (kdC true true) ppC Y11 (va_up (up2 (va_up (up2 (va_up (I) (203) (fun _ => 0)) 203 2 (nI 100)) (206) (fun _ => 0)) 206 2 (nI 100)) (209) (fun _ => 0)) (va_up (va_up (va_up (J) (203) (fun _ => 0)) (206) (fun _ => 0)) (209) (fun _ => 0)) (va_up (va_up (va_up (A) (201) (fun _ => 0)) (203 + 2) (fun _ => 0)) (206 + 2) (fun _ => 0)) (va_up (va_up (B) (203 + 1) (fun _ => 0)) (206 + 1) (fun _ => 0)) 209 hCn11 (by omega) hKn11 (fun j x y => by rw [hFn11 j (by omega), b10.2.1 j (by first | (dsimp only; omega) | (simp only [false_or]; omega) | simp)]; exact hfree j (by omega) (by omega)) (by rw [hLn11, hN]; rfl) rfl rfl (by rw [hLn11, hN]; rfl) rfl rfl (by rw [hLn11, hN]; rfl) rfl rfl) mw_X3_init mi_X3_init rfl rfl lk_X7_35 ⟨Nat.le_of_ble_eq_true rfl, Nat.le_of_ble_eq_true rfl⟩ rfl (Nat.le_of_ble_eq_true rfl) ⟨Nat.le_of_ble_eq_true rfl, Nat.le_of_ble_eq_true rfl⟩ rfl (fun v' Y12 I12 J12 A12 B12 hpo => ?_)
  obtain ⟨rfl, h212, e112, e212, e312, e412⟩ := hpo
  rw [e112, e212, e312, e412]
  have b12 := B_obj (q := q10) (c := 3) b10 hf10 rfl (by decide) (hY11 ▸ h212) (fun k h => ref3 h) hT15
  have ea12200 : Y12.1 (200) = Y11.1 (200) := h212.1 (200) (by rw [hKt]; decide)
  rw [← ea12200]
  have ea12209 : Y12.1 (209) = Y11.1 (209) := h212.1 (209) (by rw [hKn11]; decide)
  rw [← ea12209]
  show Sim X Y12 55 [(0, .ref (Y12.1 (200)))] [.ref (Y12.1 (209)), .ref (Y12.1 (200))] (va_up (up2 (va_up (up2 (va_up (I) (203) (fun _ => 0)) 203 2 (nI 100)) (206) (fun _ => 0)) 206 2 (nI 100)) (209) (fun _ => 0)) (va_up (va_up (va_up (J) (203) (fun _ => 0)) (206) (fun _ => 0)) (209) (fun _ => 0)) (va_up (va_up (va_up (va_up (va_up (va_up (A) (201) (fun _ => 0)) (203 + 2) (fun _ => 0)) (206 + 2) (fun _ => 0)) (209 + 1) (fun _ => 0)) (209 + 2) (fun _ => 0)) (209 + 3) (fun _ => 0)) (va_up (va_up (B) (203 + 1) (fun _ => 0)) (206 + 1) (fun _ => 0)) _ _
  have hKt : Y12.2.1 (200) = 7 := (B_al b12 hT15).trans hK
  have hp12 : Y12.2.1 (209) < 15 := by rw [(b12.2.2.1 (209) (by first | (dsimp only; omega) | (simp only [false_or]; omega) | simp)).2.1]; exact (b12.2.2.1 (209) (by first | (dsimp only; omega) | (simp only [false_or]; omega) | simp)).2.2
  refine S_putFR g nm (i := 200) (c := 7) (k := 4) (j := 209) (by omega) (by decide) hKt rfl fx_X7_36 rfl rfl rfl ?_
  obtain ⟨Y13, hY13⟩ : ∃ Y13 : PS, Y13 = putY Y12 (200) 4 (209) := ⟨_, rfl⟩
  rw [← hY13]
  have b13 := B_put (k := 4) (j := 209) b12 hT15 rfl hp12
  rw [← hY13] at b13
  have ea13 : Y13.1 = Y12.1 := by rw [hY13]; rfl
  rw [← ea13]
  have hKt : Y13.2.1 (200) = 7 := (B_al b13 hT15).trans hK
  refine S_n g 2 (pc' := 60) (lv' := [(0, .ref (Y13.1 (200))), (1, .int (nI 0))]) (st' := []) rfl ?_
  obtain ⟨I5, hI5⟩ : ∃ I5 : FI, I5 = va_up (up2 (va_up (up2 (va_up (I) (203) (fun _ => 0)) 203 2 (nI 100)) (206) (fun _ => 0)) 206 2 (nI 100)) (209) (fun _ => 0) := ⟨_, rfl⟩
  obtain ⟨J5, hJ5⟩ : ∃ J5 : FJ, J5 = va_up (va_up (va_up (J) (203) (fun _ => 0)) (206) (fun _ => 0)) (209) (fun _ => 0) := ⟨_, rfl⟩
  obtain ⟨A5, hA5⟩ : ∃ A5 : FI, A5 = va_up (va_up (va_up (va_up (va_up (va_up (A) (201) (fun _ => 0)) (203 + 2) (fun _ => 0)) (206 + 2) (fun _ => 0)) (209 + 1) (fun _ => 0)) (209 + 2) (fun _ => 0)) (209 + 3) (fun _ => 0) := ⟨_, rfl⟩
  obtain ⟨B5, hB5⟩ : ∃ B5 : FJ, B5 = va_up (va_up (B) (203 + 1) (fun _ => 0)) (206 + 1) (fun _ => 0) := ⟨_, rfl⟩
  rw [← hI5, ← hJ5, ← hA5, ← hB5]
  have k5 : ∀ j, j ≤ 200 ∨ 244 ≤ j → I5 j = I j ∧ J5 j = J j ∧ A5 j = A j ∧ B5 j = B j := fun j hj => by
    rw [hI5, hJ5, hA5, hB5]
    refine ⟨?_, ?_, ?_, ?_⟩ <;> repeat (first | rw [va_up_ne _ _ (by omega)] | rw [u2r (by omega)])
  have l5 : I5 203 2 = nI 100 ∧ I5 206 2 = nI 100 := by rw [hI5]; exact ⟨rfl, rfl⟩
  have b5 : Bld (kdC true true) ppC Y Y13 (fun j => (200 < j ∧ j ≤ 212) ∨ (220 ≤ j ∧ j < 220 + 4 * 0)) 200 (fun k => k < 5) := B_as b13 (fun j => by constructor <;> intro h <;> simp only [false_or] at h ⊢ <;> omega) (fun k h => by simp only [false_or]; omega)
  have lp : ∀ (nn u : Nat) (Yu : PS) (I2 : FI) (J2 : FJ) (A2 : FI) (B2 : FJ), 6 - u = nn → u ≤ 6 → Bld (kdC true true) ppC Y Yu (fun j => (200 < j ∧ j ≤ 212) ∨ (220 ≤ j ∧ j < 220 + 4 * u)) 200 (fun k => k < 5) → (∀ e, e < u → Yu.2.2.2.2 202 e = some (220 + 4 * e)) → (∀ j, j < 220 ∨ 244 ≤ j → I2 j = I5 j ∧ J2 j = J5 j ∧ A2 j = A5 j ∧ B2 j = B5 j) → (∀ v, v < u → I2 (220 + 4 * v + 1) 2 = nI 40) → Sim X Yu 60 [(0, .ref (Yu.1 200)), (1, .int (nI u))] [] I2 J2 A2 B2 (12 + 4 * u) (568 + 207 * u) := by
    intro nn
    induction nn using Nat.strongRecOn with
    | ind nn ih =>
      intro u Yu I2 J2 A2 B2 hm hu6 bu hR2 hk2 hl2
      have hKt : Yu.2.1 200 = 7 := (B_al bu hT15).trans hK
      refine S_n g 2 (pc' := 63) (lv' := [(0, .ref (Yu.1 200)), (1, .int (nI u))]) (st' := [.int (nI 6), .int (nI u)]) rfl ?_
      refine S_icN_ge g (tgt := 85) (by omega) (by omega) rfl (by decide) (fun qz63 => ?_) (fun qz63 => ?_)
      · have hu9 : u = 6 := by omega
        subst hu9
        exact rt 85 _ none _ _ _ _ _ _ _ ⟨rfl, rfl⟩ (Nat.le_of_ble_eq_true rfl) (Nat.le_of_ble_eq_true rfl) ⟨rfl, B_as bu (fun j => by constructor <;> intro h <;> omega) (fun k h => h), hR2, ⟨by rw [(hk2 203 (by omega)).1]; exact l5.1, by rw [(hk2 206 (by omega)).1]; exact l5.2, fun v hv => hl2 v hv⟩, fun j hj => ⟨(hk2 j (by omega)).1.trans (k5 j hj).1, (hk2 j (by omega)).2.1.trans (k5 j hj).2.1, (hk2 j (by omega)).2.2.1.trans (k5 j hj).2.2.1, (hk2 j (by omega)).2.2.2.trans (k5 j hj).2.2.2⟩⟩
      · have hu : u < 6 := by omega
        have hmb := (mb_u (ad := fun _ => 0) (show isW true true 200 from isW_200) hu)
        have hK13 : Yu.2.1 202 = 13 := (bu.2.2.1 202 (by omega)).2.1
        refine S_n g 1 (pc' := 67) (lv' := [(0, .ref (Yu.1 (200))), (1, .int (nI u))]) (st' := [.ref (Yu.1 200)]) rfl ?_
        refine S_getR g (i := 200) (c := 7) (k := 1) (j := 202) (by decide) (by decide) hKt rfl (bu.2.2.2.2.2.2.1 1 (by decide)) fl_X7_17 rfl ?_
        refine S_n g 1 (pc' := 71) (lv' := [(0, .ref (Yu.1 (200))), (1, .int (nI u))]) (st' := [.int (nI u), .ref (Yu.1 (202))]) rfl ?_
        have hf90 : ¬ Yu.2.1 (220 + 4 * u) < 15 := by rw [bu.2.1 (220 + 4 * u) (by omega)]; exact hfree _ (by omega) (by omega)
        refine S_newO g (i := 220 + 4 * u) (c := 2) (frY_of bu.2.2.2.2.2.2.2 (by omega) hf90) (by decide) nw_X7_15 (by show 12 + 4 * u + 1 ≤ 36; omega) (by show 568 + 207 * u + 3 ≤ 1810; omega) rfl (fun q90 => ?_)
        obtain ⟨Y91, hY91⟩ : ∃ Y91 : PS, Y91 = newY Yu (220 + 4 * u) q90 2 := ⟨_, rfl⟩
        rw [← hY91]
        have ea200 : Y91.1 (200) = Yu.1 (200) := by rw [hY91]; exact nY1 (by omega)
        rw [← ea200]
        have ea202 : Y91.1 (202) = Yu.1 (202) := by rw [hY91]; exact nY1 (by omega)
        rw [← ea202]
        have eq91 : Y91.1 (220 + 4 * u) = q90 := by rw [hY91]; exact nY1s
        rw [← eq91]
        have hKn : Y91.2.1 (220 + 4 * u) = 2 := by rw [hY91]; exact nYKs
        have hFn : ∀ j, j ≠ 220 + 4 * u → Y91.2.1 j = Yu.2.1 j := fun j hj => by rw [hY91]; exact nYK hj
        have hCn : ClY Y91 := by rw [hY91]; exact ClY_new bu.2.2.2.2.2.2.2 (by decide)
        have hLn : Y91.2.2.1 = nnC := by rw [hY91]; exact bu.2.2.2.1.trans hN
        refine S_n g 1 (pc' := 75) (lv' := [(0, .ref (Y91.1 (200))), (1, .int (nI u))]) (st' := [.ref (Y91.1 (220 + 4 * u)), .ref (Y91.1 (220 + 4 * u)), .int (nI u), .ref (Y91.1 (202))]) rfl ?_
        refine S_callI g (b := Y91.1 (220 + 4 * u)) (As := []) (st := [.ref (Y91.1 (220 + 4 * u)), .int (nI u), .ref (Y91.1 (202))]) (in_X2 (kdC true true) ppC Y91 (va_up I2 (220 + 4 * u) (fun _ => 0)) (va_up J2 (220 + 4 * u) (fun _ => 0)) (A2) (B2) (220 + 4 * u) hCn (by omega) hKn (fun j x y => by rw [hFn j (by omega), bu.2.1 j (by omega)]; exact hfree j (by omega) (by omega)) (by rw [hLn]; exact hmb.2.2.2.2.2.2.1) (by rw [hLn]; exact hmb.2.2.2.2.2.2.2.1) hmb.2.2.2.1 hmb.2.2.2.2.1 hmb.2.2.2.2.2.1 hmb.2.1 hmb.2.2.2.2.2.2.2.2.1 hmb.2.2.2.2.2.2.2.2.2) mw_X2_init mi_X2_init rfl rfl lk_X7_40 ⟨Nat.le_of_ble_eq_true rfl, Nat.le_of_ble_eq_true rfl⟩ rfl (Nat.le_of_ble_eq_true rfl) ⟨by show 12 + 4 * u + 1 + 3 ≤ 36; omega, by show 568 + 207 * u + 3 + 204 ≤ 1810; omega⟩ rfl (fun v' Ym I3 J3 A3 B3 hpo => ?_)
        obtain ⟨rfl, h2m, e1, e2, e3, e4⟩ := hpo
        have bm := B_obj (q := q90) (c := 2) bu hf90 hmb.1 (by decide) (hY91 ▸ h2m) (fun k h => ref2 h) hT15
        have em200 : Ym.1 (200) = Y91.1 (200) := h2m.1 (200) (by rw [hFn 200 (by omega), hKt]; decide)
        rw [← em200]
        have em202 : Ym.1 (202) = Y91.1 (202) := h2m.1 (202) (by rw [hFn 202 (by omega), hK13]; decide)
        rw [← em202]
        have em2204u : Ym.1 (220 + 4 * u) = Y91.1 (220 + 4 * u) := h2m.1 (220 + 4 * u) (by rw [hKn]; decide)
        rw [← em2204u]
        show Sim X Ym 78 [(0, .ref (Ym.1 (200))), (1, .int (nI u))] [.ref (Ym.1 (220 + 4 * u)), .int (nI u), .ref (Ym.1 (202))] I3 J3 A3 B3 _ _
        have hKm : Ym.2.1 (220 + 4 * u) = 2 := ((bm.2.2.1 (220 + 4 * u) (by omega)).2.1).trans hmb.1
        have hK13m : Ym.2.1 202 = 13 := (bm.2.2.1 202 (by omega)).2.1
        refine S_ast13 g (i := 202) (e := u) (j := 220 + 4 * u) (by omega) hK13m (by omega) hKm (vp_in_nI (show u < Ym.2.2.1 202 from by rw [bm.2.2.2.1, hN]; exact hu) (by rw [bm.2.2.2.1, hN]; decide)) (nI_clamp (by omega)) rfl ?_
        obtain ⟨Y9, hY9⟩ : ∃ Y9 : PS, Y9 = astY Ym 202 u (220 + 4 * u) := ⟨_, rfl⟩
        rw [← hY9]
        have b9 := B_ast (i := 202) (e := u) bm (hfree 202 (by omega) (by omega)) (show Ym.2.1 (220 + 4 * u) < 15 by rw [hKm]; decide)
        rw [← hY9] at b9
        have ea9 : Y9.1 = Ym.1 := by rw [hY9]; rfl
        rw [← ea9]
        refine S_n g 2 (pc' := 60) (lv' := [(0, .ref (Y9.1 200)), (1, .int (nI u + nI 1))]) (st' := []) rfl ?_
        rw [nI_add u 1]
        rw [show 12 + 4 * u + 1 + M_X2_init.2.2.2.2.1.cells = 12 + 4 * (u + 1) from by show 12 + 4 * u + 1 + 3 = _; omega, show 568 + 207 * u + (fkd 2).length + M_X2_init.2.2.2.2.1.slots = 568 + 207 * (u + 1) from by show 568 + 207 * u + 3 + 204 = _; omega]
        refine ih (6 - (u + 1)) (by omega) (u + 1) Y9 I3 J3 A3 B3 rfl (by omega) (B_as b9 (fun j => by constructor <;> intro h <;> omega) (fun k h => h)) (fun e he => ?_) (fun j hj => ?_) (fun v hv => ?_)
        · rw [hY9]
          show up2 Ym.2.2.2.2 202 u (some (220 + 4 * u)) 202 e = _
          by_cases z : e = u
          · subst z; exact up2_same _ _ _ _
          · rw [up2_ix _ _ _ z, (h2m.2.2.2.2.1 202 (by rw [hFn 202 (by omega), hK13]; decide)).2 e, hY91]
            show va_up Yu.2.2.2.2 (220 + 4 * u) (fun _ => none) 202 e = _
            rw [va_up_ne _ _ (by omega)]; exact hR2 e (by omega)
        · rw [e1, e2, e3, e4, u2r (by omega), va_up_ne _ _ (by omega), va_up_ne _ _ (by omega), va_up_ne _ _ (by omega), va_up_ne _ _ (by omega), va_up_ne _ _ (by omega), va_up_ne _ _ (by omega)]; exact hk2 j hj
        · rw [e1]
          by_cases z : v = u
          · subst z; exact up2_same _ _ _ _
          · rw [u2j (Or.inl (by omega)), va_up_ne _ _ (by omega), va_up_ne _ _ (by omega)]; exact hl2 v (by omega)
  exact lp _ 0 Y13 I5 J5 A5 B5 rfl (by omega) b5 (fun e he => absurd he (Nat.not_lt_zero e)) (fun j hj => ⟨rfl, rfl, rfl, rfl⟩) (fun v hv => absurd hv (Nat.not_lt_zero v))

set_option maxRecDepth 100000 in
set_option maxHeartbeats 4000000 in
theorem in_X7_300 (Y : PS) (I : FI) (J : FJ) (A : FI) (B : FJ) (hC : ClY Y) (hK : Y.2.1 300 = 7) (hfree : ∀ j, 300 < j → j < 344 → ¬ Y.2.1 j < 15) (hN : Y.2.2.1 = nnC) : Spec M_X7_init [.ref (Y.1 300)] Y I J A B (fun v' Y' I' J' A' B' => v' = none ∧ Bld (kdC true true) ppC Y Y' (fun j => (300 < j ∧ j ≤ 312) ∨ (320 ≤ j ∧ j < 344)) 300 (fun k => k < 5) ∧ (∀ e, e < 6 → Y'.2.2.2.2 302 e = some (320 + 4 * e)) ∧ Lim 300 I' ∧ ∀ j, j ≤ 300 ∨ 344 ≤ j → I' j = I j ∧ J' j = J j ∧ A' j = A j ∧ B' j = B j) := by
  refine Spec_ofI (by decide) rfl tk_X7_init (Nat.le_of_ble_eq_true rfl) (fun X g nm rt => ?_)
  show Sim X Y 0 [(0, .ref (Y.1 (300)))] [] I J A B 0 0
  have hT15 : Y.2.1 300 < 15 := by rw [hK]; decide
  have hKt := hK
  have b0 : Bld (kdC true true) ppC Y Y (fun _ => False) 300 (fun _ => False) := B_0 hC
  refine S_n g 1 (pc' := 1) (lv' := [(0, .ref (Y.1 (300)))]) (st' := [.ref (Y.1 (300))]) rfl ?_
  refine S_oinit g lo_X7_3 oi_i oi_c (Nat.le_of_ble_eq_true rfl) (Nat.le_of_ble_eq_true rfl) rfl ?_
  refine S_n g 2 (pc' := 7) (lv' := [(0, .ref (Y.1 (300)))]) (st' := [.int (nI 60), .ref (Y.1 (300))]) rfl ?_
  have hf0 : ¬ Y.2.1 (301) < 15 := by rw [b0.2.1 (301) (by first | (dsimp only; omega) | (simp only [false_or]; omega) | simp)]; exact hfree _ (by omega) (by omega)
  refine S_newI g (i := 301) (N := 60) (frY_of b0.2.2.2.2.2.2.2 (by omega) hf0) ai_w (nI_pos (by decide)) (nI_clamp (by decide)) (by rw [b0.2.2.2.1]; exact (by rw [hN]; rfl)) (by decide) (Nat.le_of_ble_eq_true rfl) (Nat.le_of_ble_eq_true rfl) rfl (fun q0 => ?_)
  obtain ⟨Y1, hY1⟩ : ∃ Y1 : PS, Y1 = newY Y (301) q0 10 := ⟨_, rfl⟩
  rw [← hY1]
  have b1 := B_arr (q := q0) (c := 10) b0 hf0 rfl (by decide) rfl hT15
  rw [← hY1] at b1
  have ea1 : Y1.1 (300) = Y.1 (300) := by rw [hY1]; exact nY1 (by omega)
  rw [← ea1]
  have eq1 : Y1.1 (301) = q0 := by rw [hY1]; exact nY1s
  rw [← eq1]
  have hKt : Y1.2.1 (300) = 7 := (B_al b1 hT15).trans hK
  have hp1 : Y1.2.1 (301) < 15 := by rw [(b1.2.2.1 (301) (by first | (dsimp only; omega) | (simp only [false_or]; omega) | simp)).2.1]; exact (b1.2.2.1 (301) (by first | (dsimp only; omega) | (simp only [false_or]; omega) | simp)).2.2
  refine S_putFR g nm (i := 300) (c := 7) (k := 0) (j := 301) (by omega) (by decide) hKt rfl fx_X7_9 rfl rfl rfl ?_
  obtain ⟨Y2, hY2⟩ : ∃ Y2 : PS, Y2 = putY Y1 (300) 0 (301) := ⟨_, rfl⟩
  rw [← hY2]
  have b2 := B_put (k := 0) (j := 301) b1 hT15 rfl hp1
  rw [← hY2] at b2
  have ea2 : Y2.1 = Y1.1 := by rw [hY2]; rfl
  rw [← ea2]
  have hKt : Y2.2.1 (300) = 7 := (B_al b2 hT15).trans hK
  refine S_n g 2 (pc' := 15) (lv' := [(0, .ref (Y2.1 (300)))]) (st' := [.int (nI 6), .ref (Y2.1 (300))]) rfl ?_
  have hf2 : ¬ Y2.2.1 (302) < 15 := by rw [b2.2.1 (302) (by first | (dsimp only; omega) | (simp only [false_or]; omega) | simp)]; exact hfree _ (by omega) (by omega)
  refine S_newM g (i := 302) (N := 6) (frY_of b2.2.2.2.2.2.2.2 (by omega) hf2) cl_X7_15 ao_2 (nI_pos (by decide)) (nI_clamp (by decide)) (by rw [b2.2.2.2.1, hN]; rfl) (by decide) (Nat.le_of_ble_eq_true rfl) (Nat.le_of_ble_eq_true rfl) rfl (fun q2 => ?_)
  obtain ⟨Y3, hY3⟩ : ∃ Y3 : PS, Y3 = newY Y2 (302) q2 13 := ⟨_, rfl⟩
  rw [← hY3]
  have b3 := B_arr (q := q2) (c := 13) b2 hf2 (show (kdC true true) 302 = 13 from rfl) (by decide) rfl hT15
  rw [← hY3] at b3
  have ea3 : Y3.1 (300) = Y2.1 (300) := by rw [hY3]; exact nY1 (by omega)
  rw [← ea3]
  have eq3 : Y3.1 (302) = q2 := by rw [hY3]; exact nY1s
  rw [← eq3]
  have hKt : Y3.2.1 (300) = 7 := (B_al b3 hT15).trans hK
  have hp3 : Y3.2.1 (302) < 15 := by rw [(b3.2.2.1 (302) (by first | (dsimp only; omega) | (simp only [false_or]; omega) | simp)).2.1]; exact (b3.2.2.1 (302) (by first | (dsimp only; omega) | (simp only [false_or]; omega) | simp)).2.2
  refine S_putFR g nm (i := 300) (c := 7) (k := 1) (j := 302) (by omega) (by decide) hKt rfl fx_X7_17 rfl rfl rfl ?_
  obtain ⟨Y4, hY4⟩ : ∃ Y4 : PS, Y4 = putY Y3 (300) 1 (302) := ⟨_, rfl⟩
  rw [← hY4]
  have b4 := B_put (k := 1) (j := 302) b3 hT15 rfl hp3
  rw [← hY4] at b4
  have ea4 : Y4.1 = Y3.1 := by rw [hY4]; rfl
  rw [← ea4]
  have hKt : Y4.2.1 (300) = 7 := (B_al b4 hT15).trans hK
  refine S_n g 1 (pc' := 22) (lv' := [(0, .ref (Y4.1 (300)))]) (st' := [.ref (Y4.1 (300))]) rfl ?_
  have hf4 : ¬ Y4.2.1 (303) < 15 := by rw [b4.2.1 (303) (by first | (dsimp only; omega) | (simp only [false_or]; omega) | simp)]; exact hfree _ (by omega) (by omega)
  refine S_newO g (i := 303) (c := 6) (frY_of b4.2.2.2.2.2.2.2 (by omega) hf4) (by decide) nw_X7_21 (Nat.le_of_ble_eq_true rfl) (Nat.le_of_ble_eq_true rfl) rfl (fun q4 => ?_)
  obtain ⟨Y5, hY5⟩ : ∃ Y5 : PS, Y5 = newY Y4 (303) q4 6 := ⟨_, rfl⟩
  rw [← hY5]
  have ea5 : Y5.1 (300) = Y4.1 (300) := by rw [hY5]; exact nY1 (by omega)
  rw [← ea5]
  have eq5 : Y5.1 (303) = q4 := by rw [hY5]; exact nY1s
  rw [← eq5]
  have hKn5 : Y5.2.1 (303) = 6 := by rw [hY5]; exact nYKs
  have hKt : Y5.2.1 (300) = 7 := by rw [hY5, nYK (by omega)]; exact hKt
  have hCn5 : ClY Y5 := by rw [hY5]; exact ClY_new b4.2.2.2.2.2.2.2 (by decide)
  have hLn5 : Y5.2.2.1 = Y.2.2.1 := by rw [hY5]; exact b4.2.2.2.1
  have hFn5 : ∀ j, j ≠ 303 → Y5.2.1 j = Y4.2.1 j := fun j hj => by rw [hY5]; exact nYK hj
  refine S_n g 2 (pc' := 28) (lv' := [(0, .ref (Y5.1 (300)))]) (st' := [.int (nI 100), .ref (Y5.1 (303)), .ref (Y5.1 (303)), .ref (Y5.1 (300))]) rfl ?_
  refine S_callI g (b := Y5.1 (303)) (As := [.int (nI 100)]) (st := [.ref (Y5.1 (303)), .ref (Y5.1 (300))]) (in_X6 (kdC true true) ppC Y5 (va_up (I) (303) (fun _ => 0)) (va_up (J) (303) (fun _ => 0)) (va_up (A) (301) (fun _ => 0)) (B) 303 100 (by decide) hCn5 (by omega) hKn5 (fun j x y => by rw [hFn5 j (by omega), b4.2.1 j (by first | (dsimp only; omega) | (simp only [false_or]; omega) | simp)]; exact hfree j (by omega) (by omega)) (by rw [hLn5, hN]; rfl) (by rw [hLn5, hN]; rfl) rfl rfl rfl rfl) mw_X6_init mi_X6_init rfl rfl lk_X7_23 ⟨Nat.le_of_ble_eq_true rfl, Nat.le_of_ble_eq_true rfl⟩ rfl (Nat.le_of_ble_eq_true rfl) ⟨Nat.le_of_ble_eq_true rfl, Nat.le_of_ble_eq_true rfl⟩ rfl (fun v' Y6 I6 J6 A6 B6 hpo => ?_)
  obtain ⟨rfl, h26, e16, e26, e36, e46⟩ := hpo
  rw [e16, e26, e36, e46]
  have b6 := B_obj (q := q4) (c := 6) b4 hf4 rfl (by decide) (hY5 ▸ h26) (fun k h => ref6 h) hT15
  have ea6300 : Y6.1 (300) = Y5.1 (300) := h26.1 (300) (by rw [hKt]; decide)
  rw [← ea6300]
  have ea6303 : Y6.1 (303) = Y5.1 (303) := h26.1 (303) (by rw [hKn5]; decide)
  rw [← ea6303]
  show Sim X Y6 31 [(0, .ref (Y6.1 (300)))] [.ref (Y6.1 (303)), .ref (Y6.1 (300))] (up2 (va_up (I) (303) (fun _ => 0)) 303 2 (nI 100)) (va_up (J) (303) (fun _ => 0)) (va_up (va_up (A) (301) (fun _ => 0)) (303 + 2) (fun _ => 0)) (va_up (B) (303 + 1) (fun _ => 0)) _ _
  have hKt : Y6.2.1 (300) = 7 := (B_al b6 hT15).trans hK
  have hp6 : Y6.2.1 (303) < 15 := by rw [(b6.2.2.1 (303) (by first | (dsimp only; omega) | (simp only [false_or]; omega) | simp)).2.1]; exact (b6.2.2.1 (303) (by first | (dsimp only; omega) | (simp only [false_or]; omega) | simp)).2.2
  refine S_putFR g nm (i := 300) (c := 7) (k := 2) (j := 303) (by omega) (by decide) hKt rfl fx_X7_26 rfl rfl rfl ?_
  obtain ⟨Y7, hY7⟩ : ∃ Y7 : PS, Y7 = putY Y6 (300) 2 (303) := ⟨_, rfl⟩
  rw [← hY7]
  have b7 := B_put (k := 2) (j := 303) b6 hT15 rfl hp6
  rw [← hY7] at b7
  have ea7 : Y7.1 = Y6.1 := by rw [hY7]; rfl
  rw [← ea7]
  have hKt : Y7.2.1 (300) = 7 := (B_al b7 hT15).trans hK
  refine S_n g 1 (pc' := 35) (lv' := [(0, .ref (Y7.1 (300)))]) (st' := [.ref (Y7.1 (300))]) rfl ?_
  have hf7 : ¬ Y7.2.1 (306) < 15 := by rw [b7.2.1 (306) (by first | (dsimp only; omega) | (simp only [false_or]; omega) | simp)]; exact hfree _ (by omega) (by omega)
  refine S_newO g (i := 306) (c := 6) (frY_of b7.2.2.2.2.2.2.2 (by omega) hf7) (by decide) nw_X7_21 (Nat.le_of_ble_eq_true rfl) (Nat.le_of_ble_eq_true rfl) rfl (fun q7 => ?_)
  obtain ⟨Y8, hY8⟩ : ∃ Y8 : PS, Y8 = newY Y7 (306) q7 6 := ⟨_, rfl⟩
  rw [← hY8]
  have ea8 : Y8.1 (300) = Y7.1 (300) := by rw [hY8]; exact nY1 (by omega)
  rw [← ea8]
  have eq8 : Y8.1 (306) = q7 := by rw [hY8]; exact nY1s
  rw [← eq8]
  have hKn8 : Y8.2.1 (306) = 6 := by rw [hY8]; exact nYKs
  have hKt : Y8.2.1 (300) = 7 := by rw [hY8, nYK (by omega)]; exact hKt
  have hCn8 : ClY Y8 := by rw [hY8]; exact ClY_new b7.2.2.2.2.2.2.2 (by decide)
  have hLn8 : Y8.2.2.1 = Y.2.2.1 := by rw [hY8]; exact b7.2.2.2.1
  have hFn8 : ∀ j, j ≠ 306 → Y8.2.1 j = Y7.2.1 j := fun j hj => by rw [hY8]; exact nYK hj
  refine S_n g 2 (pc' := 41) (lv' := [(0, .ref (Y8.1 (300)))]) (st' := [.int (nI 100), .ref (Y8.1 (306)), .ref (Y8.1 (306)), .ref (Y8.1 (300))]) rfl ?_
  refine S_callI g (b := Y8.1 (306)) (As := [.int (nI 100)]) (st := [.ref (Y8.1 (306)), .ref (Y8.1 (300))]) (in_X6 (kdC true true) ppC Y8 (va_up (up2 (va_up (I) (303) (fun _ => 0)) 303 2 (nI 100)) (306) (fun _ => 0)) (va_up (va_up (J) (303) (fun _ => 0)) (306) (fun _ => 0)) (va_up (va_up (A) (301) (fun _ => 0)) (303 + 2) (fun _ => 0)) (va_up (B) (303 + 1) (fun _ => 0)) 306 100 (by decide) hCn8 (by omega) hKn8 (fun j x y => by rw [hFn8 j (by omega), b7.2.1 j (by first | (dsimp only; omega) | (simp only [false_or]; omega) | simp)]; exact hfree j (by omega) (by omega)) (by rw [hLn8, hN]; rfl) (by rw [hLn8, hN]; rfl) rfl rfl rfl rfl) mw_X6_init mi_X6_init rfl rfl lk_X7_23 ⟨Nat.le_of_ble_eq_true rfl, Nat.le_of_ble_eq_true rfl⟩ rfl (Nat.le_of_ble_eq_true rfl) ⟨Nat.le_of_ble_eq_true rfl, Nat.le_of_ble_eq_true rfl⟩ rfl (fun v' Y9 I9 J9 A9 B9 hpo => ?_)
  obtain ⟨rfl, h29, e19, e29, e39, e49⟩ := hpo
  rw [e19, e29, e39, e49]
  have b9 := B_obj (q := q7) (c := 6) b7 hf7 rfl (by decide) (hY8 ▸ h29) (fun k h => ref6 h) hT15
  have ea9306 : Y9.1 (306) = Y8.1 (306) := h29.1 (306) (by rw [hKn8]; decide)
  rw [← ea9306]
  have ea9300 : Y9.1 (300) = Y8.1 (300) := h29.1 (300) (by rw [hKt]; decide)
  rw [← ea9300]
  show Sim X Y9 44 [(0, .ref (Y9.1 (300)))] [.ref (Y9.1 (306)), .ref (Y9.1 (300))] (up2 (va_up (up2 (va_up (I) (303) (fun _ => 0)) 303 2 (nI 100)) (306) (fun _ => 0)) 306 2 (nI 100)) (va_up (va_up (J) (303) (fun _ => 0)) (306) (fun _ => 0)) (va_up (va_up (va_up (A) (301) (fun _ => 0)) (303 + 2) (fun _ => 0)) (306 + 2) (fun _ => 0)) (va_up (va_up (B) (303 + 1) (fun _ => 0)) (306 + 1) (fun _ => 0)) _ _
  have hKt : Y9.2.1 (300) = 7 := (B_al b9 hT15).trans hK
  have hp9 : Y9.2.1 (306) < 15 := by rw [(b9.2.2.1 (306) (by first | (dsimp only; omega) | (simp only [false_or]; omega) | simp)).2.1]; exact (b9.2.2.1 (306) (by first | (dsimp only; omega) | (simp only [false_or]; omega) | simp)).2.2
  refine S_putFR g nm (i := 300) (c := 7) (k := 3) (j := 306) (by omega) (by decide) hKt rfl fx_X7_30 rfl rfl rfl ?_
  obtain ⟨Y10, hY10⟩ : ∃ Y10 : PS, Y10 = putY Y9 (300) 3 (306) := ⟨_, rfl⟩
  rw [← hY10]
  have b10 := B_put (k := 3) (j := 306) b9 hT15 rfl hp9
  rw [← hY10] at b10
  have ea10 : Y10.1 = Y9.1 := by rw [hY10]; rfl
  rw [← ea10]
  have hKt : Y10.2.1 (300) = 7 := (B_al b10 hT15).trans hK
  refine S_n g 1 (pc' := 48) (lv' := [(0, .ref (Y10.1 (300)))]) (st' := [.ref (Y10.1 (300))]) rfl ?_
  have hf10 : ¬ Y10.2.1 (309) < 15 := by rw [b10.2.1 (309) (by first | (dsimp only; omega) | (simp only [false_or]; omega) | simp)]; exact hfree _ (by omega) (by omega)
  refine S_newO g (i := 309) (c := 3) (frY_of b10.2.2.2.2.2.2.2 (by omega) hf10) (by decide) nw_X7_33 (Nat.le_of_ble_eq_true rfl) (Nat.le_of_ble_eq_true rfl) rfl (fun q10 => ?_)
  obtain ⟨Y11, hY11⟩ : ∃ Y11 : PS, Y11 = newY Y10 (309) q10 3 := ⟨_, rfl⟩
  rw [← hY11]
  have ea11 : Y11.1 (300) = Y10.1 (300) := by rw [hY11]; exact nY1 (by omega)
  rw [← ea11]
  have eq11 : Y11.1 (309) = q10 := by rw [hY11]; exact nY1s
  rw [← eq11]
  have hKn11 : Y11.2.1 (309) = 3 := by rw [hY11]; exact nYKs
  have hKt : Y11.2.1 (300) = 7 := by rw [hY11, nYK (by omega)]; exact hKt
  have hCn11 : ClY Y11 := by rw [hY11]; exact ClY_new b10.2.2.2.2.2.2.2 (by decide)
  have hLn11 : Y11.2.2.1 = Y.2.2.1 := by rw [hY11]; exact b10.2.2.2.1
  have hFn11 : ∀ j, j ≠ 309 → Y11.2.1 j = Y10.2.1 j := fun j hj => by rw [hY11]; exact nYK hj
  refine S_n g 1 (pc' := 52) (lv' := [(0, .ref (Y11.1 (300)))]) (st' := [.ref (Y11.1 (309)), .ref (Y11.1 (309)), .ref (Y11.1 (300))]) rfl ?_
  refine S_callI g (b := Y11.1 (309)) (As := []) (st := [.ref (Y11.1 (309)), .ref (Y11.1 (300))]) (in_X3 (kdC true true) ppC Y11 (va_up (up2 (va_up (up2 (va_up (I) (303) (fun _ => 0)) 303 2 (nI 100)) (306) (fun _ => 0)) 306 2 (nI 100)) (309) (fun _ => 0)) (va_up (va_up (va_up (J) (303) (fun _ => 0)) (306) (fun _ => 0)) (309) (fun _ => 0)) (va_up (va_up (va_up (A) (301) (fun _ => 0)) (303 + 2) (fun _ => 0)) (306 + 2) (fun _ => 0)) (va_up (va_up (B) (303 + 1) (fun _ => 0)) (306 + 1) (fun _ => 0)) 309 hCn11 (by omega) hKn11 (fun j x y => by rw [hFn11 j (by omega), b10.2.1 j (by first | (dsimp only; omega) | (simp only [false_or]; omega) | simp)]; exact hfree j (by omega) (by omega)) (by rw [hLn11, hN]; rfl) rfl rfl (by rw [hLn11, hN]; rfl) rfl rfl (by rw [hLn11, hN]; rfl) rfl rfl) mw_X3_init mi_X3_init rfl rfl lk_X7_35 ⟨Nat.le_of_ble_eq_true rfl, Nat.le_of_ble_eq_true rfl⟩ rfl (Nat.le_of_ble_eq_true rfl) ⟨Nat.le_of_ble_eq_true rfl, Nat.le_of_ble_eq_true rfl⟩ rfl (fun v' Y12 I12 J12 A12 B12 hpo => ?_)
  obtain ⟨rfl, h212, e112, e212, e312, e412⟩ := hpo
  rw [e112, e212, e312, e412]
  have b12 := B_obj (q := q10) (c := 3) b10 hf10 rfl (by decide) (hY11 ▸ h212) (fun k h => ref3 h) hT15
  have ea12309 : Y12.1 (309) = Y11.1 (309) := h212.1 (309) (by rw [hKn11]; decide)
  rw [← ea12309]
  have ea12300 : Y12.1 (300) = Y11.1 (300) := h212.1 (300) (by rw [hKt]; decide)
  rw [← ea12300]
  show Sim X Y12 55 [(0, .ref (Y12.1 (300)))] [.ref (Y12.1 (309)), .ref (Y12.1 (300))] (va_up (up2 (va_up (up2 (va_up (I) (303) (fun _ => 0)) 303 2 (nI 100)) (306) (fun _ => 0)) 306 2 (nI 100)) (309) (fun _ => 0)) (va_up (va_up (va_up (J) (303) (fun _ => 0)) (306) (fun _ => 0)) (309) (fun _ => 0)) (va_up (va_up (va_up (va_up (va_up (va_up (A) (301) (fun _ => 0)) (303 + 2) (fun _ => 0)) (306 + 2) (fun _ => 0)) (309 + 1) (fun _ => 0)) (309 + 2) (fun _ => 0)) (309 + 3) (fun _ => 0)) (va_up (va_up (B) (303 + 1) (fun _ => 0)) (306 + 1) (fun _ => 0)) _ _
  have hKt : Y12.2.1 (300) = 7 := (B_al b12 hT15).trans hK
  have hp12 : Y12.2.1 (309) < 15 := by rw [(b12.2.2.1 (309) (by first | (dsimp only; omega) | (simp only [false_or]; omega) | simp)).2.1]; exact (b12.2.2.1 (309) (by first | (dsimp only; omega) | (simp only [false_or]; omega) | simp)).2.2
  refine S_putFR g nm (i := 300) (c := 7) (k := 4) (j := 309) (by omega) (by decide) hKt rfl fx_X7_36 rfl rfl rfl ?_
  obtain ⟨Y13, hY13⟩ : ∃ Y13 : PS, Y13 = putY Y12 (300) 4 (309) := ⟨_, rfl⟩
  rw [← hY13]
  have b13 := B_put (k := 4) (j := 309) b12 hT15 rfl hp12
  rw [← hY13] at b13
  have ea13 : Y13.1 = Y12.1 := by rw [hY13]; rfl
  rw [← ea13]
  have hKt : Y13.2.1 (300) = 7 := (B_al b13 hT15).trans hK
  refine S_n g 2 (pc' := 60) (lv' := [(0, .ref (Y13.1 (300))), (1, .int (nI 0))]) (st' := []) rfl ?_
  obtain ⟨I5, hI5⟩ : ∃ I5 : FI, I5 = va_up (up2 (va_up (up2 (va_up (I) (303) (fun _ => 0)) 303 2 (nI 100)) (306) (fun _ => 0)) 306 2 (nI 100)) (309) (fun _ => 0) := ⟨_, rfl⟩
  obtain ⟨J5, hJ5⟩ : ∃ J5 : FJ, J5 = va_up (va_up (va_up (J) (303) (fun _ => 0)) (306) (fun _ => 0)) (309) (fun _ => 0) := ⟨_, rfl⟩
  obtain ⟨A5, hA5⟩ : ∃ A5 : FI, A5 = va_up (va_up (va_up (va_up (va_up (va_up (A) (301) (fun _ => 0)) (303 + 2) (fun _ => 0)) (306 + 2) (fun _ => 0)) (309 + 1) (fun _ => 0)) (309 + 2) (fun _ => 0)) (309 + 3) (fun _ => 0) := ⟨_, rfl⟩
  obtain ⟨B5, hB5⟩ : ∃ B5 : FJ, B5 = va_up (va_up (B) (303 + 1) (fun _ => 0)) (306 + 1) (fun _ => 0) := ⟨_, rfl⟩
  rw [← hI5, ← hJ5, ← hA5, ← hB5]
  have k5 : ∀ j, j ≤ 300 ∨ 344 ≤ j → I5 j = I j ∧ J5 j = J j ∧ A5 j = A j ∧ B5 j = B j := fun j hj => by
    rw [hI5, hJ5, hA5, hB5]
    refine ⟨?_, ?_, ?_, ?_⟩ <;> repeat (first | rw [va_up_ne _ _ (by omega)] | rw [u2r (by omega)])
  have l5 : I5 303 2 = nI 100 ∧ I5 306 2 = nI 100 := by rw [hI5]; exact ⟨rfl, rfl⟩
  have b5 : Bld (kdC true true) ppC Y Y13 (fun j => (300 < j ∧ j ≤ 312) ∨ (320 ≤ j ∧ j < 320 + 4 * 0)) 300 (fun k => k < 5) := B_as b13 (fun j => by constructor <;> intro h <;> simp only [false_or] at h ⊢ <;> omega) (fun k h => by simp only [false_or]; omega)
  have lp : ∀ (nn u : Nat) (Yu : PS) (I2 : FI) (J2 : FJ) (A2 : FI) (B2 : FJ), 6 - u = nn → u ≤ 6 → Bld (kdC true true) ppC Y Yu (fun j => (300 < j ∧ j ≤ 312) ∨ (320 ≤ j ∧ j < 320 + 4 * u)) 300 (fun k => k < 5) → (∀ e, e < u → Yu.2.2.2.2 302 e = some (320 + 4 * e)) → (∀ j, j < 320 ∨ 344 ≤ j → I2 j = I5 j ∧ J2 j = J5 j ∧ A2 j = A5 j ∧ B2 j = B5 j) → (∀ v, v < u → I2 (320 + 4 * v + 1) 2 = nI 40) → Sim X Yu 60 [(0, .ref (Yu.1 300)), (1, .int (nI u))] [] I2 J2 A2 B2 (12 + 4 * u) (568 + 207 * u) := by
    intro nn
    induction nn using Nat.strongRecOn with
    | ind nn ih =>
      intro u Yu I2 J2 A2 B2 hm hu6 bu hR2 hk2 hl2
      have hKt : Yu.2.1 300 = 7 := (B_al bu hT15).trans hK
      refine S_n g 2 (pc' := 63) (lv' := [(0, .ref (Yu.1 300)), (1, .int (nI u))]) (st' := [.int (nI 6), .int (nI u)]) rfl ?_
      refine S_icN_ge g (tgt := 85) (by omega) (by omega) rfl (by decide) (fun qz63 => ?_) (fun qz63 => ?_)
      · have hu9 : u = 6 := by omega
        subst hu9
        exact rt 85 _ none _ _ _ _ _ _ _ ⟨rfl, rfl⟩ (Nat.le_of_ble_eq_true rfl) (Nat.le_of_ble_eq_true rfl) ⟨rfl, B_as bu (fun j => by constructor <;> intro h <;> omega) (fun k h => h), hR2, ⟨by rw [(hk2 303 (by omega)).1]; exact l5.1, by rw [(hk2 306 (by omega)).1]; exact l5.2, fun v hv => hl2 v hv⟩, fun j hj => ⟨(hk2 j (by omega)).1.trans (k5 j hj).1, (hk2 j (by omega)).2.1.trans (k5 j hj).2.1, (hk2 j (by omega)).2.2.1.trans (k5 j hj).2.2.1, (hk2 j (by omega)).2.2.2.trans (k5 j hj).2.2.2⟩⟩
      · have hu : u < 6 := by omega
        have hmb := (mb_u (ad := fun _ => 0) (show isW true true 300 from isW_300) hu)
        have hK13 : Yu.2.1 302 = 13 := (bu.2.2.1 302 (by omega)).2.1
        refine S_n g 1 (pc' := 67) (lv' := [(0, .ref (Yu.1 (300))), (1, .int (nI u))]) (st' := [.ref (Yu.1 300)]) rfl ?_
        refine S_getR g (i := 300) (c := 7) (k := 1) (j := 302) (by decide) (by decide) hKt rfl (bu.2.2.2.2.2.2.1 1 (by decide)) fl_X7_17 rfl ?_
        refine S_n g 1 (pc' := 71) (lv' := [(0, .ref (Yu.1 (300))), (1, .int (nI u))]) (st' := [.int (nI u), .ref (Yu.1 (302))]) rfl ?_
        have hf90 : ¬ Yu.2.1 (320 + 4 * u) < 15 := by rw [bu.2.1 (320 + 4 * u) (by omega)]; exact hfree _ (by omega) (by omega)
        refine S_newO g (i := 320 + 4 * u) (c := 2) (frY_of bu.2.2.2.2.2.2.2 (by omega) hf90) (by decide) nw_X7_15 (by show 12 + 4 * u + 1 ≤ 36; omega) (by show 568 + 207 * u + 3 ≤ 1810; omega) rfl (fun q90 => ?_)
        obtain ⟨Y91, hY91⟩ : ∃ Y91 : PS, Y91 = newY Yu (320 + 4 * u) q90 2 := ⟨_, rfl⟩
        rw [← hY91]
        have ea300 : Y91.1 (300) = Yu.1 (300) := by rw [hY91]; exact nY1 (by omega)
        rw [← ea300]
        have ea302 : Y91.1 (302) = Yu.1 (302) := by rw [hY91]; exact nY1 (by omega)
        rw [← ea302]
        have eq91 : Y91.1 (320 + 4 * u) = q90 := by rw [hY91]; exact nY1s
        rw [← eq91]
        have hKn : Y91.2.1 (320 + 4 * u) = 2 := by rw [hY91]; exact nYKs
        have hFn : ∀ j, j ≠ 320 + 4 * u → Y91.2.1 j = Yu.2.1 j := fun j hj => by rw [hY91]; exact nYK hj
        have hCn : ClY Y91 := by rw [hY91]; exact ClY_new bu.2.2.2.2.2.2.2 (by decide)
        have hLn : Y91.2.2.1 = nnC := by rw [hY91]; exact bu.2.2.2.1.trans hN
        refine S_n g 1 (pc' := 75) (lv' := [(0, .ref (Y91.1 (300))), (1, .int (nI u))]) (st' := [.ref (Y91.1 (320 + 4 * u)), .ref (Y91.1 (320 + 4 * u)), .int (nI u), .ref (Y91.1 (302))]) rfl ?_
        refine S_callI g (b := Y91.1 (320 + 4 * u)) (As := []) (st := [.ref (Y91.1 (320 + 4 * u)), .int (nI u), .ref (Y91.1 (302))]) (in_X2 (kdC true true) ppC Y91 (va_up I2 (320 + 4 * u) (fun _ => 0)) (va_up J2 (320 + 4 * u) (fun _ => 0)) (A2) (B2) (320 + 4 * u) hCn (by omega) hKn (fun j x y => by rw [hFn j (by omega), bu.2.1 j (by omega)]; exact hfree j (by omega) (by omega)) (by rw [hLn]; exact hmb.2.2.2.2.2.2.1) (by rw [hLn]; exact hmb.2.2.2.2.2.2.2.1) hmb.2.2.2.1 hmb.2.2.2.2.1 hmb.2.2.2.2.2.1 hmb.2.1 hmb.2.2.2.2.2.2.2.2.1 hmb.2.2.2.2.2.2.2.2.2) mw_X2_init mi_X2_init rfl rfl lk_X7_40 ⟨Nat.le_of_ble_eq_true rfl, Nat.le_of_ble_eq_true rfl⟩ rfl (Nat.le_of_ble_eq_true rfl) ⟨by show 12 + 4 * u + 1 + 3 ≤ 36; omega, by show 568 + 207 * u + 3 + 204 ≤ 1810; omega⟩ rfl (fun v' Ym I3 J3 A3 B3 hpo => ?_)
        obtain ⟨rfl, h2m, e1, e2, e3, e4⟩ := hpo
        have bm := B_obj (q := q90) (c := 2) bu hf90 hmb.1 (by decide) (hY91 ▸ h2m) (fun k h => ref2 h) hT15
        have em300 : Ym.1 (300) = Y91.1 (300) := h2m.1 (300) (by rw [hFn 300 (by omega), hKt]; decide)
        rw [← em300]
        have em302 : Ym.1 (302) = Y91.1 (302) := h2m.1 (302) (by rw [hFn 302 (by omega), hK13]; decide)
        rw [← em302]
        have em3204u : Ym.1 (320 + 4 * u) = Y91.1 (320 + 4 * u) := h2m.1 (320 + 4 * u) (by rw [hKn]; decide)
        rw [← em3204u]
        show Sim X Ym 78 [(0, .ref (Ym.1 (300))), (1, .int (nI u))] [.ref (Ym.1 (320 + 4 * u)), .int (nI u), .ref (Ym.1 (302))] I3 J3 A3 B3 _ _
        have hKm : Ym.2.1 (320 + 4 * u) = 2 := ((bm.2.2.1 (320 + 4 * u) (by omega)).2.1).trans hmb.1
        have hK13m : Ym.2.1 302 = 13 := (bm.2.2.1 302 (by omega)).2.1
        refine S_ast13 g (i := 302) (e := u) (j := 320 + 4 * u) (by omega) hK13m (by omega) hKm (vp_in_nI (show u < Ym.2.2.1 302 from by rw [bm.2.2.2.1, hN]; exact hu) (by rw [bm.2.2.2.1, hN]; decide)) (nI_clamp (by omega)) rfl ?_
        obtain ⟨Y9, hY9⟩ : ∃ Y9 : PS, Y9 = astY Ym 302 u (320 + 4 * u) := ⟨_, rfl⟩
        rw [← hY9]
        have b9 := B_ast (i := 302) (e := u) bm (hfree 302 (by omega) (by omega)) (show Ym.2.1 (320 + 4 * u) < 15 by rw [hKm]; decide)
        rw [← hY9] at b9
        have ea9 : Y9.1 = Ym.1 := by rw [hY9]; rfl
        rw [← ea9]
        refine S_n g 2 (pc' := 60) (lv' := [(0, .ref (Y9.1 300)), (1, .int (nI u + nI 1))]) (st' := []) rfl ?_
        rw [nI_add u 1]
        rw [show 12 + 4 * u + 1 + M_X2_init.2.2.2.2.1.cells = 12 + 4 * (u + 1) from by show 12 + 4 * u + 1 + 3 = _; omega, show 568 + 207 * u + (fkd 2).length + M_X2_init.2.2.2.2.1.slots = 568 + 207 * (u + 1) from by show 568 + 207 * u + 3 + 204 = _; omega]
        refine ih (6 - (u + 1)) (by omega) (u + 1) Y9 I3 J3 A3 B3 rfl (by omega) (B_as b9 (fun j => by constructor <;> intro h <;> omega) (fun k h => h)) (fun e he => ?_) (fun j hj => ?_) (fun v hv => ?_)
        · rw [hY9]
          show up2 Ym.2.2.2.2 302 u (some (320 + 4 * u)) 302 e = _
          by_cases z : e = u
          · subst z; exact up2_same _ _ _ _
          · rw [up2_ix _ _ _ z, (h2m.2.2.2.2.1 302 (by rw [hFn 302 (by omega), hK13]; decide)).2 e, hY91]
            show va_up Yu.2.2.2.2 (320 + 4 * u) (fun _ => none) 302 e = _
            rw [va_up_ne _ _ (by omega)]; exact hR2 e (by omega)
        · rw [e1, e2, e3, e4, u2r (by omega), va_up_ne _ _ (by omega), va_up_ne _ _ (by omega), va_up_ne _ _ (by omega), va_up_ne _ _ (by omega), va_up_ne _ _ (by omega), va_up_ne _ _ (by omega)]; exact hk2 j hj
        · rw [e1]
          by_cases z : v = u
          · subst z; exact up2_same _ _ _ _
          · rw [u2j (Or.inl (by omega)), va_up_ne _ _ (by omega), va_up_ne _ _ (by omega)]; exact hl2 v (by omega)
  exact lp _ 0 Y13 I5 J5 A5 B5 rfl (by omega) b5 (fun e he => absurd he (Nat.not_lt_zero e)) (fun j hj => ⟨rfl, rfl, rfl, rfl⟩) (fun v hv => absurd hv (Nat.not_lt_zero v))
