/-! the reference's object is made -/
theorem ref9 {k : Nat} (h : (fkd 9)[k]? = some 2) : k = 0 ∨ k = 1 ∨ k = 2 ∨ k = 3 ∨ k = 6 ∨ k = 7 ∨ k = 8 ∨ k = 12 ∨ k = 13 ∨ k = 14 ∨ k = 15 ∨ k = 17 ∨ k = 18 := by
  have hl : k < 22 := Nat.lt_of_lt_of_le (List.getElem?_eq_some_iff.mp h).1 (by decide)
  have : ∀ k, k < 22 → (fkd 9)[k]? = some 2 → k = 0 ∨ k = 1 ∨ k = 2 ∨ k = 3 ∨ k = 6 ∨ k = 7 ∨ k = 8 ∨ k = 12 ∨ k = 13 ∨ k = 14 ∨ k = 15 ∨ k = 17 ∨ k = 18 := by decide
  exact this k hl h
set_option maxRecDepth 100000 in
theorem kdR_in : ∀ i, i < 600 → (500 < i ∧ i ≤ 513 ∧ kdR i < 13 ∧ 10 ≤ kdR i) ∨ i = 500 ∨ (kdR i = 99 ∧ ¬ (500 < i ∧ i ≤ 513)) := by decide +kernel
theorem fkd_arr : ∀ c, c < 13 → 10 ≤ c → fkd c = [] := by decide
set_option maxRecDepth 100000 in
theorem Sim_R0 {X : MX} {Y0 Y : PS} {pc : Nat} {lv : List (Nat × Value)} {st : List Value} {I : FI} {J : FJ} {A : FI} {B : FJ} {kc n : Nat} (hF : ∀ j, j ≠ 500 → Y0.2.1 j = 99) (hK : Y0.2.1 500 = 9) (hN : Y0.2.2.1 = nnR) (b : Bld kdR ppR Y0 Y (fun i => 500 < i ∧ i ≤ 513) 500 (fun k => k = 0 ∨ k = 1 ∨ k = 2 ∨ k = 3 ∨ k = 6 ∨ k = 7 ∨ k = 8 ∨ k = 12 ∨ k = 13 ∨ k = 14 ∨ k = 15 ∨ k = 17 ∨ k = 18)) (kk : Sim X (YR Y.1) pc lv st I J A B kc n) : Sim X Y pc lv st I J A B kc n := by
  have hk : ∀ i, i < 600 → Y.2.1 i = kdR i := by
    intro i hi
    rcases kdR_in i hi with ⟨h1, h2, h3, h4⟩ | h | ⟨h, e⟩
    · exact (b.2.2.1 i ⟨h1, h2⟩).2.1
    · subst h; rw [b.2.1 500 (by omega), hK]; rfl
    · rw [b.2.1 i e, h]
      by_cases z : i = 500
      · subst z; exact absurd h (by decide)
      · exact hF i z
  refine Sim_Y (Y2 := YR Y.1) hk (fun i hi h15 => ⟨rfl, congrFun (b.2.2.2.1.trans hN) i, fun k h => congrArg (Option.map Y.1) ?_, fun h e he => ?_⟩) kk
  · rcases kdR_in i hi with ⟨h1, h2, h3, h4⟩ | q | ⟨q, e⟩
    · rw [hk i hi, fkd_arr _ h3 h4] at h; cases h
    · subst q
      refine b.2.2.2.2.2.2.1 k (ref9 ?_)
      rw [hk 500 hi] at h; exact h
    · rw [hk i hi, q] at h15; exact absurd h15 (by decide)
  · exfalso
    rw [hk i hi] at h
    rcases kdR_in i hi with ⟨h1, h2, h3, h4⟩ | q | ⟨q, e⟩
    · omega
    · subst q; rcases h with h | h <;> exact absurd h (by decide)
    · omega

set_option maxRecDepth 100000 in
set_option maxHeartbeats 4000000 in
theorem in_X9 (Y : PS) (I : FI) (J : FJ) (A : FI) (B : FJ) (hC : ClY Y) (hK : Y.2.1 500 = 9) (hF : ∀ j, j ≠ 500 → Y.2.1 j = 99) (hN : Y.2.2.1 = nnR) : Spec M_X9_init [.ref (Y.1 500)] Y I J A B (fun v' Y' I' J' A' B' => v' = none ∧ (∃ ad, Y' = YR ad ∧ ad 500 = Y.1 500) ∧ isBeg 1 1 0 (B' 501) ∧ I' = up2 I 500 5 (-nI 1) ∧ A' 503 = fun _ => 0) := by
  have hfree : ∀ j, 500 < j → j < 600 → ¬ Y.2.1 j < 15 := fun j h _ => by rw [hF j (by omega)]; decide
  refine Spec_ofI (by decide) rfl tk_X9_init (Nat.le_of_ble_eq_true rfl) (fun X g nm rt => ?_)
  show Sim X Y 0 [(0, .ref (Y.1 (500)))] [] I J A B 0 0
  have hT15 : Y.2.1 500 < 15 := by rw [hK]; decide
  have hKt := hK
  have b0 : Bld kdR ppR Y Y (fun _ => False) 500 (fun _ => False) := B_0 hC
  refine S_n g 1 (pc' := 1) (lv' := [(0, .ref (Y.1 (500)))]) (st' := [.ref (Y.1 (500))]) rfl ?_
  refine S_oinit g lo_X9_1 oi_i oi_c (Nat.le_of_ble_eq_true rfl) (Nat.le_of_ble_eq_true rfl) rfl ?_
  refine S_n g 2 (pc' := 8) (lv' := [(0, .ref (Y.1 (500)))]) (st' := [.int (nI 621), .ref (Y.1 (500))]) rfl ?_
  have hf0 : ¬ Y.2.1 (501) < 15 := by rw [b0.2.1 (501) (by first | (dsimp only; omega) | (simp only [false_or]; omega) | simp)]; exact hfree _ (by omega) (by omega)
  refine S_newL g (i := 501) (N := 621) (frY_of b0.2.2.2.2.2.2.2 (by omega) hf0) al_w (nI_pos (by decide)) (nI_clamp (by decide)) (by rw [b0.2.2.2.1]; exact (by rw [hN]; rfl)) (by decide) (Nat.le_of_ble_eq_true rfl) (Nat.le_of_ble_eq_true rfl) rfl (fun q0 => ?_)
  obtain ⟨Y1, hY1⟩ : ∃ Y1 : PS, Y1 = newY Y (501) q0 11 := ⟨_, rfl⟩
  rw [← hY1]
  have b1 := B_arr (q := q0) (c := 11) b0 hf0 rfl (by decide) rfl hT15
  rw [← hY1] at b1
  have ea1 : Y1.1 (500) = Y.1 (500) := by rw [hY1]; exact nY1 (by omega)
  rw [← ea1]
  have eq1 : Y1.1 (501) = q0 := by rw [hY1]; exact nY1s
  rw [← eq1]
  have hKt : Y1.2.1 (500) = 9 := (B_al b1 hT15).trans hK
  have hp1 : Y1.2.1 (501) < 15 := by rw [(b1.2.2.1 (501) (by first | (dsimp only; omega) | (simp only [false_or]; omega) | simp)).2.1]; exact (b1.2.2.1 (501) (by first | (dsimp only; omega) | (simp only [false_or]; omega) | simp)).2.2
  refine S_putFR g nm (i := 500) (c := 9) (k := 0) (j := 501) (by omega) (by decide) hKt rfl fx_X9_7 rfl rfl rfl ?_
  obtain ⟨Y2, hY2⟩ : ∃ Y2 : PS, Y2 = putY Y1 (500) 0 (501) := ⟨_, rfl⟩
  rw [← hY2]
  have b2 := B_put (k := 0) (j := 501) b1 hT15 rfl hp1
  rw [← hY2] at b2
  have ea2 : Y2.1 = Y1.1 := by rw [hY2]; rfl
  rw [← ea2]
  have hKt : Y2.2.1 (500) = 9 := (B_al b2 hT15).trans hK
  refine S_n g 2 (pc' := 17) (lv' := [(0, .ref (Y2.1 (500)))]) (st' := [.int (nI 1242), .ref (Y2.1 (500))]) rfl ?_
  have hf2 : ¬ Y2.2.1 (502) < 15 := by rw [b2.2.1 (502) (by first | (dsimp only; omega) | (simp only [false_or]; omega) | simp)]; exact hfree _ (by omega) (by omega)
  refine S_newL g (i := 502) (N := 1242) (frY_of b2.2.2.2.2.2.2.2 (by omega) hf2) al_w (nI_pos (by decide)) (nI_clamp (by decide)) (by rw [b2.2.2.2.1]; exact (by rw [hN]; rfl)) (by decide) (Nat.le_of_ble_eq_true rfl) (Nat.le_of_ble_eq_true rfl) rfl (fun q2 => ?_)
  obtain ⟨Y3, hY3⟩ : ∃ Y3 : PS, Y3 = newY Y2 (502) q2 11 := ⟨_, rfl⟩
  rw [← hY3]
  have b3 := B_arr (q := q2) (c := 11) b2 hf2 rfl (by decide) rfl hT15
  rw [← hY3] at b3
  have ea3 : Y3.1 (500) = Y2.1 (500) := by rw [hY3]; exact nY1 (by omega)
  rw [← ea3]
  have eq3 : Y3.1 (502) = q2 := by rw [hY3]; exact nY1s
  rw [← eq3]
  have hKt : Y3.2.1 (500) = 9 := (B_al b3 hT15).trans hK
  have hp3 : Y3.2.1 (502) < 15 := by rw [(b3.2.2.1 (502) (by first | (dsimp only; omega) | (simp only [false_or]; omega) | simp)).2.1]; exact (b3.2.2.1 (502) (by first | (dsimp only; omega) | (simp only [false_or]; omega) | simp)).2.2
  refine S_putFR g nm (i := 500) (c := 9) (k := 1) (j := 502) (by omega) (by decide) hKt rfl fx_X9_13 rfl rfl rfl ?_
  obtain ⟨Y4, hY4⟩ : ∃ Y4 : PS, Y4 = putY Y3 (500) 1 (502) := ⟨_, rfl⟩
  rw [← hY4]
  have b4 := B_put (k := 1) (j := 502) b3 hT15 rfl hp3
  rw [← hY4] at b4
  have ea4 : Y4.1 = Y3.1 := by rw [hY4]; rfl
  rw [← ea4]
  have hKt : Y4.2.1 (500) = 9 := (B_al b4 hT15).trans hK
  refine S_n g 2 (pc' := 24) (lv' := [(0, .ref (Y4.1 (500)))]) (st' := [.int (nI 2), .ref (Y4.1 (500))]) rfl ?_
  have hf4 : ¬ Y4.2.1 (503) < 15 := by rw [b4.2.1 (503) (by first | (dsimp only; omega) | (simp only [false_or]; omega) | simp)]; exact hfree _ (by omega) (by omega)
  refine S_newZ g (i := 503) (N := 2) (frY_of b4.2.2.2.2.2.2.2 (by omega) hf4) az_w (nI_pos (by decide)) (nI_clamp (by decide)) (by rw [b4.2.2.2.1]; exact (by rw [hN]; rfl)) (by decide) (Nat.le_of_ble_eq_true rfl) (Nat.le_of_ble_eq_true rfl) rfl (fun q4 => ?_)
  obtain ⟨Y5, hY5⟩ : ∃ Y5 : PS, Y5 = newY Y4 (503) q4 12 := ⟨_, rfl⟩
  rw [← hY5]
  have b5 := B_arr (q := q4) (c := 12) b4 hf4 rfl (by decide) rfl hT15
  rw [← hY5] at b5
  have ea5 : Y5.1 (500) = Y4.1 (500) := by rw [hY5]; exact nY1 (by omega)
  rw [← ea5]
  have eq5 : Y5.1 (503) = q4 := by rw [hY5]; exact nY1s
  rw [← eq5]
  have hKt : Y5.2.1 (500) = 9 := (B_al b5 hT15).trans hK
  have hp5 : Y5.2.1 (503) < 15 := by rw [(b5.2.2.1 (503) (by first | (dsimp only; omega) | (simp only [false_or]; omega) | simp)).2.1]; exact (b5.2.2.1 (503) (by first | (dsimp only; omega) | (simp only [false_or]; omega) | simp)).2.2
  refine S_putFR g nm (i := 500) (c := 9) (k := 2) (j := 503) (by omega) (by decide) hKt rfl fx_X9_16 rfl rfl rfl ?_
  obtain ⟨Y6, hY6⟩ : ∃ Y6 : PS, Y6 = putY Y5 (500) 2 (503) := ⟨_, rfl⟩
  rw [← hY6]
  have b6 := B_put (k := 2) (j := 503) b5 hT15 rfl hp5
  rw [← hY6] at b6
  have ea6 : Y6.1 = Y5.1 := by rw [hY6]; rfl
  rw [← ea6]
  have hKt : Y6.2.1 (500) = 9 := (B_al b6 hT15).trans hK
  refine S_n g 2 (pc' := 32) (lv' := [(0, .ref (Y6.1 (500)))]) (st' := [.int (nI 80), .ref (Y6.1 (500))]) rfl ?_
  have hf6 : ¬ Y6.2.1 (504) < 15 := by rw [b6.2.1 (504) (by first | (dsimp only; omega) | (simp only [false_or]; omega) | simp)]; exact hfree _ (by omega) (by omega)
  refine S_newI g (i := 504) (N := 80) (frY_of b6.2.2.2.2.2.2.2 (by omega) hf6) ai_w (nI_pos (by decide)) (nI_clamp (by decide)) (by rw [b6.2.2.2.1]; exact (by rw [hN]; rfl)) (by decide) (Nat.le_of_ble_eq_true rfl) (Nat.le_of_ble_eq_true rfl) rfl (fun q6 => ?_)
  obtain ⟨Y7, hY7⟩ : ∃ Y7 : PS, Y7 = newY Y6 (504) q6 10 := ⟨_, rfl⟩
  rw [← hY7]
  have b7 := B_arr (q := q6) (c := 10) b6 hf6 rfl (by decide) rfl hT15
  rw [← hY7] at b7
  have ea7 : Y7.1 (500) = Y6.1 (500) := by rw [hY7]; exact nY1 (by omega)
  rw [← ea7]
  have eq7 : Y7.1 (504) = q6 := by rw [hY7]; exact nY1s
  rw [← eq7]
  have hKt : Y7.2.1 (500) = 9 := (B_al b7 hT15).trans hK
  have hp7 : Y7.2.1 (504) < 15 := by rw [(b7.2.2.1 (504) (by first | (dsimp only; omega) | (simp only [false_or]; omega) | simp)).2.1]; exact (b7.2.2.1 (504) (by first | (dsimp only; omega) | (simp only [false_or]; omega) | simp)).2.2
  refine S_putFR g nm (i := 500) (c := 9) (k := 3) (j := 504) (by omega) (by decide) hKt rfl fx_X9_20 rfl rfl rfl ?_
  obtain ⟨Y8, hY8⟩ : ∃ Y8 : PS, Y8 = putY Y7 (500) 3 (504) := ⟨_, rfl⟩
  rw [← hY8]
  have b8 := B_put (k := 3) (j := 504) b7 hT15 rfl hp7
  rw [← hY8] at b8
  have ea8 : Y8.1 = Y7.1 := by rw [hY8]; rfl
  rw [← ea8]
  have hKt : Y8.2.1 (500) = 9 := (B_al b8 hT15).trans hK
  refine S_n g 2 (pc' := 39) (lv' := [(0, .ref (Y8.1 (500)))]) (st' := [.int (-nI 1), .ref (Y8.1 (500))]) rfl ?_
  refine S_putI g (i := 500) (c := 9) (k := 5) (kd := 0) (by omega) (by decide) hKt rfl (by decide) fw_X9_24 rfl rfl rfl ?_
  refine S_n g 2 (pc' := 45) (lv' := [(0, .ref (Y8.1 (500)))]) (st' := [.int (nI 6), .ref (Y8.1 (500))]) rfl ?_
  have hf8 : ¬ Y8.2.1 (505) < 15 := by rw [b8.2.1 (505) (by first | (dsimp only; omega) | (simp only [false_or]; omega) | simp)]; exact hfree _ (by omega) (by omega)
  refine S_newL g (i := 505) (N := 6) (frY_of b8.2.2.2.2.2.2.2 (by omega) hf8) al_w (nI_pos (by decide)) (nI_clamp (by decide)) (by rw [b8.2.2.2.1]; exact (by rw [hN]; rfl)) (by decide) (Nat.le_of_ble_eq_true rfl) (Nat.le_of_ble_eq_true rfl) rfl (fun q8 => ?_)
  obtain ⟨Y9, hY9⟩ : ∃ Y9 : PS, Y9 = newY Y8 (505) q8 11 := ⟨_, rfl⟩
  rw [← hY9]
  have b9 := B_arr (q := q8) (c := 11) b8 hf8 rfl (by decide) rfl hT15
  rw [← hY9] at b9
  have ea9 : Y9.1 (500) = Y8.1 (500) := by rw [hY9]; exact nY1 (by omega)
  rw [← ea9]
  have eq9 : Y9.1 (505) = q8 := by rw [hY9]; exact nY1s
  rw [← eq9]
  have hKt : Y9.2.1 (500) = 9 := (B_al b9 hT15).trans hK
  have hp9 : Y9.2.1 (505) < 15 := by rw [(b9.2.2.1 (505) (by first | (dsimp only; omega) | (simp only [false_or]; omega) | simp)).2.1]; exact (b9.2.2.1 (505) (by first | (dsimp only; omega) | (simp only [false_or]; omega) | simp)).2.2
  refine S_putFR g nm (i := 500) (c := 9) (k := 6) (j := 505) (by omega) (by decide) hKt rfl fx_X9_28 rfl rfl rfl ?_
  obtain ⟨Y10, hY10⟩ : ∃ Y10 : PS, Y10 = putY Y9 (500) 6 (505) := ⟨_, rfl⟩
  rw [← hY10]
  have b10 := B_put (k := 6) (j := 505) b9 hT15 rfl hp9
  rw [← hY10] at b10
  have ea10 : Y10.1 = Y9.1 := by rw [hY10]; rfl
  rw [← ea10]
  have hKt : Y10.2.1 (500) = 9 := (B_al b10 hT15).trans hK
  refine S_n g 2 (pc' := 53) (lv' := [(0, .ref (Y10.1 (500)))]) (st' := [.int (nI 60), .ref (Y10.1 (500))]) rfl ?_
  have hf10 : ¬ Y10.2.1 (506) < 15 := by rw [b10.2.1 (506) (by first | (dsimp only; omega) | (simp only [false_or]; omega) | simp)]; exact hfree _ (by omega) (by omega)
  refine S_newL g (i := 506) (N := 60) (frY_of b10.2.2.2.2.2.2.2 (by omega) hf10) al_w (nI_pos (by decide)) (nI_clamp (by decide)) (by rw [b10.2.2.2.1]; exact (by rw [hN]; rfl)) (by decide) (Nat.le_of_ble_eq_true rfl) (Nat.le_of_ble_eq_true rfl) rfl (fun q10 => ?_)
  obtain ⟨Y11, hY11⟩ : ∃ Y11 : PS, Y11 = newY Y10 (506) q10 11 := ⟨_, rfl⟩
  rw [← hY11]
  have b11 := B_arr (q := q10) (c := 11) b10 hf10 rfl (by decide) rfl hT15
  rw [← hY11] at b11
  have ea11 : Y11.1 (500) = Y10.1 (500) := by rw [hY11]; exact nY1 (by omega)
  rw [← ea11]
  have eq11 : Y11.1 (506) = q10 := by rw [hY11]; exact nY1s
  rw [← eq11]
  have hKt : Y11.2.1 (500) = 9 := (B_al b11 hT15).trans hK
  have hp11 : Y11.2.1 (506) < 15 := by rw [(b11.2.2.1 (506) (by first | (dsimp only; omega) | (simp only [false_or]; omega) | simp)).2.1]; exact (b11.2.2.1 (506) (by first | (dsimp only; omega) | (simp only [false_or]; omega) | simp)).2.2
  refine S_putFR g nm (i := 500) (c := 9) (k := 7) (j := 506) (by omega) (by decide) hKt rfl fx_X9_31 rfl rfl rfl ?_
  obtain ⟨Y12, hY12⟩ : ∃ Y12 : PS, Y12 = putY Y11 (500) 7 (506) := ⟨_, rfl⟩
  rw [← hY12]
  have b12 := B_put (k := 7) (j := 506) b11 hT15 rfl hp11
  rw [← hY12] at b12
  have ea12 : Y12.1 = Y11.1 := by rw [hY12]; rfl
  rw [← ea12]
  have hKt : Y12.2.1 (500) = 9 := (B_al b12 hT15).trans hK
  refine S_n g 2 (pc' := 61) (lv' := [(0, .ref (Y12.1 (500)))]) (st' := [.int (nI 60), .ref (Y12.1 (500))]) rfl ?_
  have hf12 : ¬ Y12.2.1 (507) < 15 := by rw [b12.2.1 (507) (by first | (dsimp only; omega) | (simp only [false_or]; omega) | simp)]; exact hfree _ (by omega) (by omega)
  refine S_newL g (i := 507) (N := 60) (frY_of b12.2.2.2.2.2.2.2 (by omega) hf12) al_w (nI_pos (by decide)) (nI_clamp (by decide)) (by rw [b12.2.2.2.1]; exact (by rw [hN]; rfl)) (by decide) (Nat.le_of_ble_eq_true rfl) (Nat.le_of_ble_eq_true rfl) rfl (fun q12 => ?_)
  obtain ⟨Y13, hY13⟩ : ∃ Y13 : PS, Y13 = newY Y12 (507) q12 11 := ⟨_, rfl⟩
  rw [← hY13]
  have b13 := B_arr (q := q12) (c := 11) b12 hf12 rfl (by decide) rfl hT15
  rw [← hY13] at b13
  have ea13 : Y13.1 (500) = Y12.1 (500) := by rw [hY13]; exact nY1 (by omega)
  rw [← ea13]
  have eq13 : Y13.1 (507) = q12 := by rw [hY13]; exact nY1s
  rw [← eq13]
  have hKt : Y13.2.1 (500) = 9 := (B_al b13 hT15).trans hK
  have hp13 : Y13.2.1 (507) < 15 := by rw [(b13.2.2.1 (507) (by first | (dsimp only; omega) | (simp only [false_or]; omega) | simp)).2.1]; exact (b13.2.2.1 (507) (by first | (dsimp only; omega) | (simp only [false_or]; omega) | simp)).2.2
  refine S_putFR g nm (i := 500) (c := 9) (k := 8) (j := 507) (by omega) (by decide) hKt rfl fx_X9_34 rfl rfl rfl ?_
  obtain ⟨Y14, hY14⟩ : ∃ Y14 : PS, Y14 = putY Y13 (500) 8 (507) := ⟨_, rfl⟩
  rw [← hY14]
  have b14 := B_put (k := 8) (j := 507) b13 hT15 rfl hp13
  rw [← hY14] at b14
  have ea14 : Y14.1 = Y13.1 := by rw [hY14]; rfl
  rw [← ea14]
  have hKt : Y14.2.1 (500) = 9 := (B_al b14 hT15).trans hK
  refine S_n g 2 (pc' := 69) (lv' := [(0, .ref (Y14.1 (500)))]) (st' := [.int (nI 64), .ref (Y14.1 (500))]) rfl ?_
  have hf14 : ¬ Y14.2.1 (508) < 15 := by rw [b14.2.1 (508) (by first | (dsimp only; omega) | (simp only [false_or]; omega) | simp)]; exact hfree _ (by omega) (by omega)
  refine S_newI g (i := 508) (N := 64) (frY_of b14.2.2.2.2.2.2.2 (by omega) hf14) ai_w (nI_pos (by decide)) (nI_clamp (by decide)) (by rw [b14.2.2.2.1]; exact (by rw [hN]; rfl)) (by decide) (Nat.le_of_ble_eq_true rfl) (Nat.le_of_ble_eq_true rfl) rfl (fun q14 => ?_)
  obtain ⟨Y15, hY15⟩ : ∃ Y15 : PS, Y15 = newY Y14 (508) q14 10 := ⟨_, rfl⟩
  rw [← hY15]
  have b15 := B_arr (q := q14) (c := 10) b14 hf14 rfl (by decide) rfl hT15
  rw [← hY15] at b15
  have ea15 : Y15.1 (500) = Y14.1 (500) := by rw [hY15]; exact nY1 (by omega)
  rw [← ea15]
  have eq15 : Y15.1 (508) = q14 := by rw [hY15]; exact nY1s
  rw [← eq15]
  have hKt : Y15.2.1 (500) = 9 := (B_al b15 hT15).trans hK
  have hp15 : Y15.2.1 (508) < 15 := by rw [(b15.2.2.1 (508) (by first | (dsimp only; omega) | (simp only [false_or]; omega) | simp)).2.1]; exact (b15.2.2.1 (508) (by first | (dsimp only; omega) | (simp only [false_or]; omega) | simp)).2.2
  refine S_putFR g nm (i := 500) (c := 9) (k := 12) (j := 508) (by omega) (by decide) hKt rfl fx_X9_37 rfl rfl rfl ?_
  obtain ⟨Y16, hY16⟩ : ∃ Y16 : PS, Y16 = putY Y15 (500) 12 (508) := ⟨_, rfl⟩
  rw [← hY16]
  have b16 := B_put (k := 12) (j := 508) b15 hT15 rfl hp15
  rw [← hY16] at b16
  have ea16 : Y16.1 = Y15.1 := by rw [hY16]; rfl
  rw [← ea16]
  have hKt : Y16.2.1 (500) = 9 := (B_al b16 hT15).trans hK
  refine S_n g 2 (pc' := 77) (lv' := [(0, .ref (Y16.1 (500)))]) (st' := [.int (nI 6), .ref (Y16.1 (500))]) rfl ?_
  have hf16 : ¬ Y16.2.1 (509) < 15 := by rw [b16.2.1 (509) (by first | (dsimp only; omega) | (simp only [false_or]; omega) | simp)]; exact hfree _ (by omega) (by omega)
  refine S_newL g (i := 509) (N := 6) (frY_of b16.2.2.2.2.2.2.2 (by omega) hf16) al_w (nI_pos (by decide)) (nI_clamp (by decide)) (by rw [b16.2.2.2.1]; exact (by rw [hN]; rfl)) (by decide) (Nat.le_of_ble_eq_true rfl) (Nat.le_of_ble_eq_true rfl) rfl (fun q16 => ?_)
  obtain ⟨Y17, hY17⟩ : ∃ Y17 : PS, Y17 = newY Y16 (509) q16 11 := ⟨_, rfl⟩
  rw [← hY17]
  have b17 := B_arr (q := q16) (c := 11) b16 hf16 rfl (by decide) rfl hT15
  rw [← hY17] at b17
  have ea17 : Y17.1 (500) = Y16.1 (500) := by rw [hY17]; exact nY1 (by omega)
  rw [← ea17]
  have eq17 : Y17.1 (509) = q16 := by rw [hY17]; exact nY1s
  rw [← eq17]
  have hKt : Y17.2.1 (500) = 9 := (B_al b17 hT15).trans hK
  have hp17 : Y17.2.1 (509) < 15 := by rw [(b17.2.2.1 (509) (by first | (dsimp only; omega) | (simp only [false_or]; omega) | simp)).2.1]; exact (b17.2.2.1 (509) (by first | (dsimp only; omega) | (simp only [false_or]; omega) | simp)).2.2
  refine S_putFR g nm (i := 500) (c := 9) (k := 13) (j := 509) (by omega) (by decide) hKt rfl fx_X9_40 rfl rfl rfl ?_
  obtain ⟨Y18, hY18⟩ : ∃ Y18 : PS, Y18 = putY Y17 (500) 13 (509) := ⟨_, rfl⟩
  rw [← hY18]
  have b18 := B_put (k := 13) (j := 509) b17 hT15 rfl hp17
  rw [← hY18] at b18
  have ea18 : Y18.1 = Y17.1 := by rw [hY18]; rfl
  rw [← ea18]
  have hKt : Y18.2.1 (500) = 9 := (B_al b18 hT15).trans hK
  refine S_n g 2 (pc' := 85) (lv' := [(0, .ref (Y18.1 (500)))]) (st' := [.int (nI 72), .ref (Y18.1 (500))]) rfl ?_
  have hf18 : ¬ Y18.2.1 (510) < 15 := by rw [b18.2.1 (510) (by first | (dsimp only; omega) | (simp only [false_or]; omega) | simp)]; exact hfree _ (by omega) (by omega)
  refine S_newI g (i := 510) (N := 72) (frY_of b18.2.2.2.2.2.2.2 (by omega) hf18) ai_w (nI_pos (by decide)) (nI_clamp (by decide)) (by rw [b18.2.2.2.1]; exact (by rw [hN]; rfl)) (by decide) (Nat.le_of_ble_eq_true rfl) (Nat.le_of_ble_eq_true rfl) rfl (fun q18 => ?_)
  obtain ⟨Y19, hY19⟩ : ∃ Y19 : PS, Y19 = newY Y18 (510) q18 10 := ⟨_, rfl⟩
  rw [← hY19]
  have b19 := B_arr (q := q18) (c := 10) b18 hf18 rfl (by decide) rfl hT15
  rw [← hY19] at b19
  have ea19 : Y19.1 (500) = Y18.1 (500) := by rw [hY19]; exact nY1 (by omega)
  rw [← ea19]
  have eq19 : Y19.1 (510) = q18 := by rw [hY19]; exact nY1s
  rw [← eq19]
  have hKt : Y19.2.1 (500) = 9 := (B_al b19 hT15).trans hK
  have hp19 : Y19.2.1 (510) < 15 := by rw [(b19.2.2.1 (510) (by first | (dsimp only; omega) | (simp only [false_or]; omega) | simp)).2.1]; exact (b19.2.2.1 (510) (by first | (dsimp only; omega) | (simp only [false_or]; omega) | simp)).2.2
  refine S_putFR g nm (i := 500) (c := 9) (k := 14) (j := 510) (by omega) (by decide) hKt rfl fx_X9_43 rfl rfl rfl ?_
  obtain ⟨Y20, hY20⟩ : ∃ Y20 : PS, Y20 = putY Y19 (500) 14 (510) := ⟨_, rfl⟩
  rw [← hY20]
  have b20 := B_put (k := 14) (j := 510) b19 hT15 rfl hp19
  rw [← hY20] at b20
  have ea20 : Y20.1 = Y19.1 := by rw [hY20]; rfl
  rw [← ea20]
  have hKt : Y20.2.1 (500) = 9 := (B_al b20 hT15).trans hK
  refine S_n g 2 (pc' := 93) (lv' := [(0, .ref (Y20.1 (500)))]) (st' := [.int (nI 72), .ref (Y20.1 (500))]) rfl ?_
  have hf20 : ¬ Y20.2.1 (511) < 15 := by rw [b20.2.1 (511) (by first | (dsimp only; omega) | (simp only [false_or]; omega) | simp)]; exact hfree _ (by omega) (by omega)
  refine S_newZ g (i := 511) (N := 72) (frY_of b20.2.2.2.2.2.2.2 (by omega) hf20) az_w (nI_pos (by decide)) (nI_clamp (by decide)) (by rw [b20.2.2.2.1]; exact (by rw [hN]; rfl)) (by decide) (Nat.le_of_ble_eq_true rfl) (Nat.le_of_ble_eq_true rfl) rfl (fun q20 => ?_)
  obtain ⟨Y21, hY21⟩ : ∃ Y21 : PS, Y21 = newY Y20 (511) q20 12 := ⟨_, rfl⟩
  rw [← hY21]
  have b21 := B_arr (q := q20) (c := 12) b20 hf20 rfl (by decide) rfl hT15
  rw [← hY21] at b21
  have ea21 : Y21.1 (500) = Y20.1 (500) := by rw [hY21]; exact nY1 (by omega)
  rw [← ea21]
  have eq21 : Y21.1 (511) = q20 := by rw [hY21]; exact nY1s
  rw [← eq21]
  have hKt : Y21.2.1 (500) = 9 := (B_al b21 hT15).trans hK
  have hp21 : Y21.2.1 (511) < 15 := by rw [(b21.2.2.1 (511) (by first | (dsimp only; omega) | (simp only [false_or]; omega) | simp)).2.1]; exact (b21.2.2.1 (511) (by first | (dsimp only; omega) | (simp only [false_or]; omega) | simp)).2.2
  refine S_putFR g nm (i := 500) (c := 9) (k := 15) (j := 511) (by omega) (by decide) hKt rfl fx_X9_46 rfl rfl rfl ?_
  obtain ⟨Y22, hY22⟩ : ∃ Y22 : PS, Y22 = putY Y21 (500) 15 (511) := ⟨_, rfl⟩
  rw [← hY22]
  have b22 := B_put (k := 15) (j := 511) b21 hT15 rfl hp21
  rw [← hY22] at b22
  have ea22 : Y22.1 = Y21.1 := by rw [hY22]; rfl
  rw [← ea22]
  have hKt : Y22.2.1 (500) = 9 := (B_al b22 hT15).trans hK
  refine S_n g 2 (pc' := 101) (lv' := [(0, .ref (Y22.1 (500)))]) (st' := [.int (nI 6), .ref (Y22.1 (500))]) rfl ?_
  have hf22 : ¬ Y22.2.1 (512) < 15 := by rw [b22.2.1 (512) (by first | (dsimp only; omega) | (simp only [false_or]; omega) | simp)]; exact hfree _ (by omega) (by omega)
  refine S_newI g (i := 512) (N := 6) (frY_of b22.2.2.2.2.2.2.2 (by omega) hf22) ai_w (nI_pos (by decide)) (nI_clamp (by decide)) (by rw [b22.2.2.2.1]; exact (by rw [hN]; rfl)) (by decide) (Nat.le_of_ble_eq_true rfl) (Nat.le_of_ble_eq_true rfl) rfl (fun q22 => ?_)
  obtain ⟨Y23, hY23⟩ : ∃ Y23 : PS, Y23 = newY Y22 (512) q22 10 := ⟨_, rfl⟩
  rw [← hY23]
  have b23 := B_arr (q := q22) (c := 10) b22 hf22 rfl (by decide) rfl hT15
  rw [← hY23] at b23
  have ea23 : Y23.1 (500) = Y22.1 (500) := by rw [hY23]; exact nY1 (by omega)
  rw [← ea23]
  have eq23 : Y23.1 (512) = q22 := by rw [hY23]; exact nY1s
  rw [← eq23]
  have hKt : Y23.2.1 (500) = 9 := (B_al b23 hT15).trans hK
  have hp23 : Y23.2.1 (512) < 15 := by rw [(b23.2.2.1 (512) (by first | (dsimp only; omega) | (simp only [false_or]; omega) | simp)).2.1]; exact (b23.2.2.1 (512) (by first | (dsimp only; omega) | (simp only [false_or]; omega) | simp)).2.2
  refine S_putFR g nm (i := 500) (c := 9) (k := 17) (j := 512) (by omega) (by decide) hKt rfl fx_X9_49 rfl rfl rfl ?_
  obtain ⟨Y24, hY24⟩ : ∃ Y24 : PS, Y24 = putY Y23 (500) 17 (512) := ⟨_, rfl⟩
  rw [← hY24]
  have b24 := B_put (k := 17) (j := 512) b23 hT15 rfl hp23
  rw [← hY24] at b24
  have ea24 : Y24.1 = Y23.1 := by rw [hY24]; rfl
  rw [← ea24]
  have hKt : Y24.2.1 (500) = 9 := (B_al b24 hT15).trans hK
  refine S_n g 2 (pc' := 109) (lv' := [(0, .ref (Y24.1 (500)))]) (st' := [.int (nI 120), .ref (Y24.1 (500))]) rfl ?_
  have hf24 : ¬ Y24.2.1 (513) < 15 := by rw [b24.2.1 (513) (by first | (dsimp only; omega) | (simp only [false_or]; omega) | simp)]; exact hfree _ (by omega) (by omega)
  refine S_newI g (i := 513) (N := 120) (frY_of b24.2.2.2.2.2.2.2 (by omega) hf24) ai_w (nI_pos (by decide)) (nI_clamp (by decide)) (by rw [b24.2.2.2.1]; exact (by rw [hN]; rfl)) (by decide) (Nat.le_of_ble_eq_true rfl) (Nat.le_of_ble_eq_true rfl) rfl (fun q24 => ?_)
  obtain ⟨Y25, hY25⟩ : ∃ Y25 : PS, Y25 = newY Y24 (513) q24 10 := ⟨_, rfl⟩
  rw [← hY25]
  have b25 := B_arr (q := q24) (c := 10) b24 hf24 rfl (by decide) rfl hT15
  rw [← hY25] at b25
  have ea25 : Y25.1 (500) = Y24.1 (500) := by rw [hY25]; exact nY1 (by omega)
  rw [← ea25]
  have eq25 : Y25.1 (513) = q24 := by rw [hY25]; exact nY1s
  rw [← eq25]
  have hKt : Y25.2.1 (500) = 9 := (B_al b25 hT15).trans hK
  have hp25 : Y25.2.1 (513) < 15 := by rw [(b25.2.2.1 (513) (by first | (dsimp only; omega) | (simp only [false_or]; omega) | simp)).2.1]; exact (b25.2.2.1 (513) (by first | (dsimp only; omega) | (simp only [false_or]; omega) | simp)).2.2
  refine S_putFR g nm (i := 500) (c := 9) (k := 18) (j := 513) (by omega) (by decide) hKt rfl fx_X9_52 rfl rfl rfl ?_
  obtain ⟨Y26, hY26⟩ : ∃ Y26 : PS, Y26 = putY Y25 (500) 18 (513) := ⟨_, rfl⟩
  rw [← hY26]
  have b26 := B_put (k := 18) (j := 513) b25 hT15 rfl hp25
  rw [← hY26] at b26
  have ea26 : Y26.1 = Y25.1 := by rw [hY26]; rfl
  rw [← ea26]
  have hKt : Y26.2.1 (500) = 9 := (B_al b26 hT15).trans hK
  obtain ⟨I5, hI5⟩ : ∃ I5 : FI, I5 = up2 (I) (500) 5 (-nI 1) := ⟨_, rfl⟩
  obtain ⟨J5, hJ5⟩ : ∃ J5 : FJ, J5 = J := ⟨_, rfl⟩
  obtain ⟨A5, hA5⟩ : ∃ A5 : FI, A5 = va_up (va_up (va_up (va_up (va_up (va_up (va_up (A) (503) (fun _ => 0)) (504) (fun _ => 0)) (508) (fun _ => 0)) (510) (fun _ => 0)) (511) (fun _ => 0)) (512) (fun _ => 0)) (513) (fun _ => 0) := ⟨_, rfl⟩
  obtain ⟨B5, hB5⟩ : ∃ B5 : FJ, B5 = va_up (va_up (va_up (va_up (va_up (va_up (B) (501) (fun _ => 0)) (502) (fun _ => 0)) (505) (fun _ => 0)) (506) (fun _ => 0)) (507) (fun _ => 0)) (509) (fun _ => 0) := ⟨_, rfl⟩
  rw [← hI5, ← hJ5, ← hA5, ← hB5]
  have e3 : A5 503 = fun _ => 0 := by rw [hA5]; rfl
  have bz : Bld kdR ppR Y Y26 (fun i => 500 < i ∧ i ≤ 513) 500 (fun k => k = 0 ∨ k = 1 ∨ k = 2 ∨ k = 3 ∨ k = 6 ∨ k = 7 ∨ k = 8 ∨ k = 12 ∨ k = 13 ∨ k = 14 ∨ k = 15 ∨ k = 17 ∨ k = 18) := B_as b26 (fun j => by constructor <;> intro h <;> simp only [false_or] at h ⊢ <;> omega) (fun k h => by simp only [false_or]; omega)
  refine Sim_R0 hF hK hN bz ?_
  obtain ⟨ad, had⟩ : ∃ ad, ad = Y26.1 := ⟨_, rfl⟩
  rw [← had]
  have a0 : ad 500 = Y.1 500 := by rw [had]; exact bz.1 500 hT15
  refine S_n g 4 (pc' := 118) (lv' := [(0, .ref (ad 500))]) (st' := [.int (nI 0), .int (nI 1), .int (nI 1), .ref (ad 500)]) rfl ?_
  refine S_callV g (i := 500) (As := [.int (nI 1), .int (nI 1), .int (nI 0)]) (st := []) (sp_begins ad I5 J5 A5 B5 1 1 0 (by decide) (by decide) (by decide)) mw_X9_begins lk_X9_55 ⟨Nat.le_of_ble_eq_true rfl, Nat.le_of_ble_eq_true rfl⟩ (by decide) (by decide) rfl rfl (Nat.le_of_ble_eq_true rfl) ⟨Nat.le_of_ble_eq_true rfl, Nat.le_of_ble_eq_true rfl⟩ rfl (fun v' Y' I6 J6 A6 B6 hpo => ?_)
  obtain ⟨rfl, rfl, rfl, rfl, rfl, m', rfl, hm'⟩ := hpo
  exact rt 121 _ none _ _ _ _ _ _ _ ⟨rfl, rfl⟩ (Nat.le_of_ble_eq_true rfl) (Nat.le_of_ble_eq_true rfl) ⟨rfl, ⟨ad, rfl, a0⟩, by rw [va_up_self]; exact hm', hI5, e3⟩
