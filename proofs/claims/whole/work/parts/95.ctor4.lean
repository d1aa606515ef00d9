/-! the class' object is made; a slot is saved for the first time -/
theorem ref7 {k : Nat} (h : (fkd 7)[k]? = some 2) : k < 5 := by
  rcases Nat.lt_or_ge k 5 with q | q
  · exact q
  · exfalso
    rcases k with _ | _ | _ | _ | _ | _ | _ | _ | _ | _ | _ | _ | k <;> simp_all [fkd]
theorem ref8 {k : Nat} (h : (fkd 8)[k]? = some 2) : k < 7 := by
  rcases Nat.lt_or_ge k 7 with q | q
  · exact q
  · exfalso
    rcases k with _ | _ | _ | _ | _ | _ | _ | _ | k <;> simp_all [fkd]
set_option maxRecDepth 100000 in
theorem Sim_C {X : MX} {Y : PS} {z0 z1 : Bool} {pc : Nat} {lv : List (Nat × Value)} {st : List Value} {I : FI} {J : FJ} {A : FI} {B : FJ} {kc n : Nat} (hk : ∀ i, i < 600 → Y.2.1 i = kdC z0 z1 i) (hN : Y.2.2.1 = nnC) (hp : ∀ i, i < 600 → Y.2.1 i < 15 → ∀ k, (fkd (Y.2.1 i))[k]? = some 2 → Y.2.2.2.1 i k = ppC i k) (hr : ∀ i, i < 600 → Y.2.1 i = 13 ∨ Y.2.1 i = 14 → ∀ e, e < nnC i → Y.2.2.2.2 i e = rrC z0 z1 i e) (kk : Sim X (YC Y.1 z0 z1) pc lv st I J A B kc n) : Sim X Y pc lv st I J A B kc n :=
  Sim_Y (Y2 := YC Y.1 z0 z1) hk (fun i hi h15 => ⟨rfl, congrFun hN i, fun k h => congrArg (Option.map Y.1) (hp i hi h15 k h), fun h e he => congrArg (Option.map Y.1) (hr i hi h e (lt_of_lt_of_eq he (congrFun hN i)))⟩) kk
set_option maxRecDepth 100000 in
theorem kdC_in : ∀ i, i < 600 → (((0 < i ∧ i ≤ 15) ∨ (100 ≤ i ∧ i ≤ 112) ∨ (120 ≤ i ∧ i < 144)) ∧ kdC true true i = kdC false false i) ∨ i = 0 ∨ (kdC false false i = 99 ∧ ¬ ((0 < i ∧ i ≤ 15) ∨ (100 ≤ i ∧ i ≤ 112) ∨ (120 ≤ i ∧ i < 144))) := by decide
set_option maxRecDepth 100000 in
theorem kdC_13 : ∀ i, i < 600 → kdC false false i = 13 ∨ kdC false false i = 14 → i = 102 ∨ i = 1 := by decide
set_option maxRecDepth 100000 in
theorem Sim_C0 {X : MX} {Y0 Y : PS} {pc : Nat} {lv : List (Nat × Value)} {st : List Value} {I : FI} {J : FJ} {A : FI} {B : FJ} {kc n : Nat} (hF : ∀ j, j ≠ 0 → Y0.2.1 j = 99) (hK : Y0.2.1 0 = 8) (hN : Y0.2.2.1 = nnC) (b : Bld (kdC true true) ppC Y0 Y (fun i => (0 < i ∧ i ≤ 15) ∨ (100 ≤ i ∧ i ≤ 112) ∨ (120 ≤ i ∧ i < 144)) 0 (fun k => k < 7)) (h102 : ∀ e, e < 6 → Y.2.2.2.2 102 e = some (120 + 4 * e)) (h1 : ∀ e, Y.2.2.2.2 1 e = none) (kk : Sim X (YC Y.1 false false) pc lv st I J A B kc n) : Sim X Y pc lv st I J A B kc n := by
  have hk : ∀ i, i < 600 → Y.2.1 i = kdC false false i := by
    intro i hi
    rcases kdC_in i hi with ⟨h, e⟩ | h | ⟨h, e⟩
    · rw [(b.2.2.1 i h).2.1, e]
    · subst h; rw [b.2.1 0 (by omega), hK]; rfl
    · rw [b.2.1 i e, h]
      by_cases z : i = 0
      · subst z; exact absurd h (by decide)
      · exact hF i z
  refine Sim_C hk (b.2.2.2.1.trans hN) (fun i hi h15 k h => ?_) (fun i hi h e he => ?_) kk
  · rcases kdC_in i hi with ⟨q, e⟩ | q | ⟨q, e⟩
    · exact b.2.2.2.2.2.1 i q k (by rw [e, ← hk i hi]; exact h)
    · subst q
      refine b.2.2.2.2.2.2.1 k (ref8 ?_)
      rw [hk 0 hi] at h; exact h
    · rw [hk i hi, q] at h15; exact absurd h15 (by decide)
  · rw [hk i hi] at h
    rcases kdC_13 i hi h with rfl | rfl
    · rw [h102 e he]; rfl
    · rw [h1 e]
      show none = rrC false false 1 e
      rcases e with _ | _ | e <;> rfl

set_option maxRecDepth 100000 in
set_option maxHeartbeats 4000000 in
theorem in_X8 (Y : PS) (I : FI) (J : FJ) (A : FI) (B : FJ) (hC : ClY Y) (hK : Y.2.1 0 = 8) (hF : ∀ j, j ≠ 0 → Y.2.1 j = 99) (hN : Y.2.2.1 = nnC) : Spec M_X8_init [.ref (Y.1 0)] Y I J A B (fun v' Y' I' J' A' B' => v' = none ∧ (∃ ad, Y' = YC ad false false ∧ ad 0 = Y.1 0) ∧ (∀ m, isBeg 1 1 0 m → RepW 100 m I' J' A' B') ∧ I' 13 1 = nI 0 ∧ I' 0 7 = -nI 1 ∧ A' 11 0 = nI 0 ∧ B' 12 0 = lN 0) := by
  have hfree : ∀ j, 0 < j → j < 600 → ¬ Y.2.1 j < 15 := fun j h _ => by rw [hF j (by omega)]; decide
  refine Spec_ofI (by decide) rfl tk_X8_init (Nat.le_of_ble_eq_true rfl) (fun X g nm rt => ?_)
  show Sim X Y 0 [(0, .ref (Y.1 (0)))] [] I J A B 0 0
  have hT15 : Y.2.1 0 < 15 := by rw [hK]; decide
  have hKt := hK
  have b0 : Bld (kdC true true) ppC Y Y (fun _ => False) 0 (fun _ => False) := B_0 hC
  refine S_n g 1 (pc' := 1) (lv' := [(0, .ref (Y.1 (0)))]) (st' := [.ref (Y.1 (0))]) rfl ?_
  refine S_oinit g lo_X8_1 oi_i oi_c (Nat.le_of_ble_eq_true rfl) (Nat.le_of_ble_eq_true rfl) rfl ?_
  refine S_n g 1 (pc' := 5) (lv' := [(0, .ref (Y.1 (0)))]) (st' := [.ref (Y.1 (0))]) rfl ?_
  have hf0 : ¬ Y.2.1 (100) < 15 := by rw [b0.2.1 (100) (by first | (dsimp only; omega) | (simp only [false_or]; omega) | simp)]; exact hfree _ (by omega) (by omega)
  refine S_newO g (i := 100) (c := 7) (frY_of b0.2.2.2.2.2.2.2 (by omega) hf0) (by decide) nw_X8_7 (Nat.le_of_ble_eq_true rfl) (Nat.le_of_ble_eq_true rfl) rfl (fun q0 => ?_)
  obtain ⟨Y1, hY1⟩ : ∃ Y1 : PS, Y1 = newY Y (100) q0 7 := ⟨_, rfl⟩
  rw [← hY1]
  have ea1 : Y1.1 (0) = Y.1 (0) := by rw [hY1]; exact nY1 (by omega)
  rw [← ea1]
  have eq1 : Y1.1 (100) = q0 := by rw [hY1]; exact nY1s
  rw [← eq1]
  have hKn1 : Y1.2.1 (100) = 7 := by rw [hY1]; exact nYKs
  have hKt : Y1.2.1 (0) = 8 := by rw [hY1, nYK (by omega)]; exact hKt
  have hCn1 : ClY Y1 := by rw [hY1]; exact ClY_new b0.2.2.2.2.2.2.2 (by decide)
  have hLn1 : Y1.2.2.1 = Y.2.2.1 := by rw [hY1]; exact b0.2.2.2.1
  have hFn1 : ∀ j, j ≠ 100 → Y1.2.1 j = Y.2.1 j := fun j hj => by rw [hY1]; exact nYK hj
  refine S_n g 1 (pc' := 9) (lv' := [(0, .ref (Y1.1 (0)))]) (st' := [.ref (Y1.1 (100)), .ref (Y1.1 (100)), .ref (Y1.1 (0))]) rfl ?_
  refine S_callI g (b := Y1.1 (100)) (As := []) (st := [.ref (Y1.1 (100)), .ref (Y1.1 (0))]) (in_X7_100 Y1 (va_up (I) (100) (fun _ => 0)) (va_up (J) (100) (fun _ => 0)) (A) (B) hCn1 hKn1 (fun j x y => by rw [hFn1 j (by omega), b0.2.1 j (by first | (dsimp only; omega) | (simp only [false_or]; omega) | simp)]; exact hfree j (by omega) (by omega)) (hLn1.trans hN)) mw_X7_init mi_X7_init rfl rfl lk_X8_9 ⟨Nat.le_of_ble_eq_true rfl, Nat.le_of_ble_eq_true rfl⟩ rfl (Nat.le_of_ble_eq_true rfl) ⟨Nat.le_of_ble_eq_true rfl, Nat.le_of_ble_eq_true rfl⟩ rfl (fun v' Y2 I1 J1 A1 B1 hpo => ?_)
  obtain ⟨rfl, h22, hR102, hLim, hkp⟩ := hpo
  have b2 := B_obj (q := q0) (c := 7) b0 hf0 (show (kdC true true) 100 = 7 from rfl) (by decide) (hY1 ▸ h22) (fun k h => ref7 h) hT15
  have ea2p0 : Y2.1 (0) = Y1.1 (0) := h22.1 (0) (by rw [hKt]; decide)
  rw [← ea2p0]
  have ea2p100 : Y2.1 (100) = Y1.1 (100) := h22.1 (100) (by rw [hKn1]; decide)
  rw [← ea2p100]
  show Sim X Y2 12 [(0, .ref (Y2.1 (0)))] [.ref (Y2.1 (100)), .ref (Y2.1 (0))] (I1) (J1) (A1) (B1) _ _
  have hKt : Y2.2.1 (0) = 8 := (B_al b2 hT15).trans hK
  have hp2 : Y2.2.1 (100) < 15 := by rw [(b2.2.2.1 (100) (by first | (dsimp only; omega) | (simp only [false_or]; omega) | simp)).2.1]; exact (b2.2.2.1 (100) (by first | (dsimp only; omega) | (simp only [false_or]; omega) | simp)).2.2
  refine S_putFR g nm (i := 0) (c := 8) (k := 0) (j := 100) (by omega) (by decide) hKt rfl fx_X8_10 rfl rfl rfl ?_
  obtain ⟨Y3, hY3⟩ : ∃ Y3 : PS, Y3 = putY Y2 (0) 0 (100) := ⟨_, rfl⟩
  rw [← hY3]
  have b3 := B_put (k := 0) (j := 100) b2 hT15 rfl hp2
  rw [← hY3] at b3
  have ea3 : Y3.1 = Y2.1 := by rw [hY3]; rfl
  rw [← ea3]
  have hKt : Y3.2.1 (0) = 8 := (B_al b3 hT15).trans hK
  have hR102 : ∀ e, e < 6 → Y3.2.2.2.2 102 e = some (120 + 4 * e) := fun e he => by rw [hY3]; exact hR102 e he
  refine S_n g 2 (pc' := 17) (lv' := [(0, .ref (Y3.1 (0)))]) (st' := [.int (nI 2), .ref (Y3.1 (0))]) rfl ?_
  have hf3 : ¬ Y3.2.1 (1) < 15 := by rw [b3.2.1 (1) (by first | (dsimp only; omega) | (simp only [false_or]; omega) | simp)]; exact hfree _ (by omega) (by omega)
  refine S_newW g (i := 1) (N := 2) (frY_of b3.2.2.2.2.2.2.2 (by omega) hf3) cl_X8_7 ao_7 (nI_pos (by decide)) (nI_clamp (by decide)) (by rw [b3.2.2.2.1, hN]; rfl) (by decide) (Nat.le_of_ble_eq_true rfl) (Nat.le_of_ble_eq_true rfl) rfl (fun q3 => ?_)
  obtain ⟨Y4, hY4⟩ : ∃ Y4 : PS, Y4 = newY Y3 (1) q3 14 := ⟨_, rfl⟩
  rw [← hY4]
  have b4 := B_arr (q := q3) (c := 14) b3 hf3 (show (kdC true true) 1 = 14 from rfl) (by decide) rfl hT15
  rw [← hY4] at b4
  have ea4 : Y4.1 (0) = Y3.1 (0) := by rw [hY4]; exact nY1 (by omega)
  rw [← ea4]
  have eq4 : Y4.1 (1) = q3 := by rw [hY4]; exact nY1s
  rw [← eq4]
  have hKt : Y4.2.1 (0) = 8 := (B_al b4 hT15).trans hK
  have hR102 : ∀ e, e < 6 → Y4.2.2.2.2 102 e = some (120 + 4 * e) := fun e he => by rw [hY4, nYR (by omega)]; exact hR102 e he
  have hR1 : ∀ e, Y4.2.2.2.2 1 e = none := fun e => by rw [hY4]; show va_up Y3.2.2.2.2 1 (fun _ => none) 1 e = none; rw [va_up_self]
  have hp4 : Y4.2.1 (1) < 15 := by rw [(b4.2.2.1 (1) (by first | (dsimp only; omega) | (simp only [false_or]; omega) | simp)).2.1]; exact (b4.2.2.1 (1) (by first | (dsimp only; omega) | (simp only [false_or]; omega) | simp)).2.2
  refine S_putFR g nm (i := 0) (c := 8) (k := 1) (j := 1) (by omega) (by decide) hKt rfl fx_X8_16 rfl rfl rfl ?_
  obtain ⟨Y5, hY5⟩ : ∃ Y5 : PS, Y5 = putY Y4 (0) 1 (1) := ⟨_, rfl⟩
  rw [← hY5]
  have b5 := B_put (k := 1) (j := 1) b4 hT15 rfl hp4
  rw [← hY5] at b5
  have ea5 : Y5.1 = Y4.1 := by rw [hY5]; rfl
  rw [← ea5]
  have hKt : Y5.2.1 (0) = 8 := (B_al b5 hT15).trans hK
  have hR102 : ∀ e, e < 6 → Y5.2.2.2.2 102 e = some (120 + 4 * e) := fun e he => by rw [hY5]; exact hR102 e he
  have hR1 : ∀ e, Y5.2.2.2.2 1 e = none := fun e => by rw [hY5]; exact hR1 e
  refine S_n g 1 (pc' := 24) (lv' := [(0, .ref (Y5.1 (0)))]) (st' := [.ref (Y5.1 (0))]) rfl ?_
  have hf5 : ¬ Y5.2.1 (2) < 15 := by rw [b5.2.1 (2) (by first | (dsimp only; omega) | (simp only [false_or]; omega) | simp)]; exact hfree _ (by omega) (by omega)
  refine S_newO g (i := 2) (c := 1) (frY_of b5.2.2.2.2.2.2.2 (by omega) hf5) (by decide) nw_X8_20 (Nat.le_of_ble_eq_true rfl) (Nat.le_of_ble_eq_true rfl) rfl (fun q5 => ?_)
  obtain ⟨Y6, hY6⟩ : ∃ Y6 : PS, Y6 = newY Y5 (2) q5 1 := ⟨_, rfl⟩
  rw [← hY6]
  have ea6 : Y6.1 (0) = Y5.1 (0) := by rw [hY6]; exact nY1 (by omega)
  rw [← ea6]
  have eq6 : Y6.1 (2) = q5 := by rw [hY6]; exact nY1s
  rw [← eq6]
  have hKn6 : Y6.2.1 (2) = 1 := by rw [hY6]; exact nYKs
  have hKt : Y6.2.1 (0) = 8 := by rw [hY6, nYK (by omega)]; exact hKt
  have hCn6 : ClY Y6 := by rw [hY6]; exact ClY_new b5.2.2.2.2.2.2.2 (by decide)
  have hLn6 : Y6.2.2.1 = Y.2.2.1 := by rw [hY6]; exact b5.2.2.2.1
  have hFn6 : ∀ j, j ≠ 2 → Y6.2.1 j = Y5.2.1 j := fun j hj => by rw [hY6]; exact nYK hj
  have hR102 : ∀ e, e < 6 → Y6.2.2.2.2 102 e = some (120 + 4 * e) := fun e he => by rw [hY6, nYR (by omega)]; exact hR102 e he
  have hR1 : ∀ e, Y6.2.2.2.2 1 e = none := fun e => by rw [hY6, nYR (by omega)]; exact hR1 e
  refine S_n g 1 (pc' := 28) (lv' := [(0, .ref (Y6.1 (0)))]) (st' := [.ref (Y6.1 (2)), .ref (Y6.1 (2)), .ref (Y6.1 (0))]) rfl ?_
  refine S_callI g (b := Y6.1 (2)) (As := []) (st := [.ref (Y6.1 (2)), .ref (Y6.1 (0))]) (in_X1 (kdC true true) ppC Y6 (va_up (I1) (2) (fun _ => 0)) (va_up (J1) (2) (fun _ => 0)) (A1) (B1) 2 hCn6 (by omega) hKn6 (fun j x y => by rw [hFn6 j (by omega), b5.2.1 j (by first | (dsimp only; omega) | (simp only [false_or]; omega) | simp)]; exact hfree j (by omega) (by omega)) (by rw [hLn6, hN]; rfl) rfl rfl (by rw [hLn6, hN]; rfl) rfl rfl (by rw [hLn6, hN]; rfl) rfl rfl) mw_X1_init mi_X1_init rfl rfl lk_X8_22 ⟨Nat.le_of_ble_eq_true rfl, Nat.le_of_ble_eq_true rfl⟩ rfl (Nat.le_of_ble_eq_true rfl) ⟨Nat.le_of_ble_eq_true rfl, Nat.le_of_ble_eq_true rfl⟩ rfl (fun v' Y7 I7 J7 A7 B7 hpo => ?_)
  obtain ⟨rfl, h27, e17, e27, e37, e47⟩ := hpo
  rw [e17, e27, e37, e47]
  have b7 := B_obj (q := q5) (c := 1) b5 hf5 rfl (by decide) (hY6 ▸ h27) (fun k h => by rcases k with _ | _ | _ | _ | _ | _ | _ | _ | k <;> simp_all [fkd]) hT15
  have ea70 : Y7.1 (0) = Y6.1 (0) := h27.1 (0) (by rw [hKt]; decide)
  rw [← ea70]
  have ea72 : Y7.1 (2) = Y6.1 (2) := h27.1 (2) (by rw [hKn6]; decide)
  rw [← ea72]
  show Sim X Y7 31 [(0, .ref (Y7.1 (0)))] [.ref (Y7.1 (2)), .ref (Y7.1 (0))] (va_up (I1) (2) (fun _ => 0)) (va_up (J1) (2) (fun _ => 0)) (A1) (va_up (va_up (va_up (B1) (2 + 1) (fun _ => 0)) (2 + 2) (fun _ => 0)) (2 + 3) (fun _ => 0)) _ _
  have hKt : Y7.2.1 (0) = 8 := (B_al b7 hT15).trans hK
  have hR102 : ∀ e, e < 6 → Y7.2.2.2.2 102 e = some (120 + 4 * e) := fun e he => by rw [(h27.2.2.2.2.1 102 (by rw [hFn6 102 (by omega), (b5.2.2.1 102 (by first | (dsimp only; omega) | (simp only [false_or]; omega) | simp)).2.1]; decide)).2 e]; exact hR102 e he
  have hR1 : ∀ e, Y7.2.2.2.2 1 e = none := fun e => by rw [(h27.2.2.2.2.1 1 (by rw [hFn6 1 (by omega), (b5.2.2.1 1 (by first | (dsimp only; omega) | (simp only [false_or]; omega) | simp)).2.1]; decide)).2 e]; exact hR1 e
  have hp7 : Y7.2.1 (2) < 15 := by rw [(b7.2.2.1 (2) (by first | (dsimp only; omega) | (simp only [false_or]; omega) | simp)).2.1]; exact (b7.2.2.1 (2) (by first | (dsimp only; omega) | (simp only [false_or]; omega) | simp)).2.2
  refine S_putFR g nm (i := 0) (c := 8) (k := 2) (j := 2) (by omega) (by decide) hKt rfl fx_X8_23 rfl rfl rfl ?_
  obtain ⟨Y8, hY8⟩ : ∃ Y8 : PS, Y8 = putY Y7 (0) 2 (2) := ⟨_, rfl⟩
  rw [← hY8]
  have b8 := B_put (k := 2) (j := 2) b7 hT15 rfl hp7
  rw [← hY8] at b8
  have ea8 : Y8.1 = Y7.1 := by rw [hY8]; rfl
  rw [← ea8]
  have hKt : Y8.2.1 (0) = 8 := (B_al b8 hT15).trans hK
  have hR102 : ∀ e, e < 6 → Y8.2.2.2.2 102 e = some (120 + 4 * e) := fun e he => by rw [hY8]; exact hR102 e he
  have hR1 : ∀ e, Y8.2.2.2.2 1 e = none := fun e => by rw [hY8]; exact hR1 e
  refine S_n g 1 (pc' := 35) (lv' := [(0, .ref (Y8.1 (0)))]) (st' := [.ref (Y8.1 (0))]) rfl ?_
  have hf8 : ¬ Y8.2.1 (6) < 15 := by rw [b8.2.1 (6) (by first | (dsimp only; omega) | (simp only [false_or]; omega) | simp)]; exact hfree _ (by omega) (by omega)
  refine S_newO g (i := 6) (c := 5) (frY_of b8.2.2.2.2.2.2.2 (by omega) hf8) (by decide) nw_X8_27 (Nat.le_of_ble_eq_true rfl) (Nat.le_of_ble_eq_true rfl) rfl (fun q8 => ?_)
  obtain ⟨Y9, hY9⟩ : ∃ Y9 : PS, Y9 = newY Y8 (6) q8 5 := ⟨_, rfl⟩
  rw [← hY9]
  have ea9 : Y9.1 (0) = Y8.1 (0) := by rw [hY9]; exact nY1 (by omega)
  rw [← ea9]
  have eq9 : Y9.1 (6) = q8 := by rw [hY9]; exact nY1s
  rw [← eq9]
  have hKn9 : Y9.2.1 (6) = 5 := by rw [hY9]; exact nYKs
  have hKt : Y9.2.1 (0) = 8 := by rw [hY9, nYK (by omega)]; exact hKt
  have hCn9 : ClY Y9 := by rw [hY9]; exact ClY_new b8.2.2.2.2.2.2.2 (by decide)
  have hLn9 : Y9.2.2.1 = Y.2.2.1 := by rw [hY9]; exact b8.2.2.2.1
  have hFn9 : ∀ j, j ≠ 6 → Y9.2.1 j = Y8.2.1 j := fun j hj => by rw [hY9]; exact nYK hj
  have hR102 : ∀ e, e < 6 → Y9.2.2.2.2 102 e = some (120 + 4 * e) := fun e he => by rw [hY9, nYR (by omega)]; exact hR102 e he
  have hR1 : ∀ e, Y9.2.2.2.2 1 e = none := fun e => by rw [hY9, nYR (by omega)]; exact hR1 e
  refine S_n g 1 (pc' := 39) (lv' := [(0, .ref (Y9.1 (0)))]) (st' := [.ref (Y9.1 (6)), .ref (Y9.1 (6)), .ref (Y9.1 (0))]) rfl ?_
  refine S_callI g (b := Y9.1 (6)) (As := []) (st := [.ref (Y9.1 (6)), .ref (Y9.1 (0))]) (in_X5 (kdC true true) ppC Y9 (va_up (va_up (I1) (2) (fun _ => 0)) (6) (fun _ => 0)) (va_up (va_up (J1) (2) (fun _ => 0)) (6) (fun _ => 0)) (A1) (va_up (va_up (va_up (B1) (2 + 1) (fun _ => 0)) (2 + 2) (fun _ => 0)) (2 + 3) (fun _ => 0)) 6 hCn9 (by omega) hKn9 (fun j x y => by rw [hFn9 j (by omega), b8.2.1 j (by first | (dsimp only; omega) | (simp only [false_or]; omega) | simp)]; exact hfree j (by omega) (by omega)) (by rw [hLn9, hN]; rfl) rfl rfl (by rw [hLn9, hN]; rfl) rfl rfl (by rw [hLn9, hN]; rfl) rfl rfl) mw_X5_init mi_X5_init rfl rfl lk_X8_29 ⟨Nat.le_of_ble_eq_true rfl, Nat.le_of_ble_eq_true rfl⟩ rfl (Nat.le_of_ble_eq_true rfl) ⟨Nat.le_of_ble_eq_true rfl, Nat.le_of_ble_eq_true rfl⟩ rfl (fun v' Y10 I10 J10 A10 B10 hpo => ?_)
  obtain ⟨rfl, h210, e110, e210, e310, e410⟩ := hpo
  rw [e110, e210, e310, e410]
  have b10 := B_obj (q := q8) (c := 5) b8 hf8 rfl (by decide) (hY9 ▸ h210) (fun k h => by rcases k with _ | _ | _ | _ | _ | _ | _ | _ | k <;> simp_all [fkd]) hT15
  have ea100 : Y10.1 (0) = Y9.1 (0) := h210.1 (0) (by rw [hKt]; decide)
  rw [← ea100]
  have ea106 : Y10.1 (6) = Y9.1 (6) := h210.1 (6) (by rw [hKn9]; decide)
  rw [← ea106]
  show Sim X Y10 42 [(0, .ref (Y10.1 (0)))] [.ref (Y10.1 (6)), .ref (Y10.1 (0))] (va_up (va_up (I1) (2) (fun _ => 0)) (6) (fun _ => 0)) (va_up (va_up (J1) (2) (fun _ => 0)) (6) (fun _ => 0)) (va_up (A1) (6 + 2) (fun _ => 0)) (va_up (va_up (va_up (va_up (va_up (B1) (2 + 1) (fun _ => 0)) (2 + 2) (fun _ => 0)) (2 + 3) (fun _ => 0)) (6 + 1) (fun _ => 0)) (6 + 3) (fun _ => 0)) _ _
  have hKt : Y10.2.1 (0) = 8 := (B_al b10 hT15).trans hK
  have hR102 : ∀ e, e < 6 → Y10.2.2.2.2 102 e = some (120 + 4 * e) := fun e he => by rw [(h210.2.2.2.2.1 102 (by rw [hFn9 102 (by omega), (b8.2.2.1 102 (by first | (dsimp only; omega) | (simp only [false_or]; omega) | simp)).2.1]; decide)).2 e]; exact hR102 e he
  have hR1 : ∀ e, Y10.2.2.2.2 1 e = none := fun e => by rw [(h210.2.2.2.2.1 1 (by rw [hFn9 1 (by omega), (b8.2.2.1 1 (by first | (dsimp only; omega) | (simp only [false_or]; omega) | simp)).2.1]; decide)).2 e]; exact hR1 e
  have hp10 : Y10.2.1 (6) < 15 := by rw [(b10.2.2.1 (6) (by first | (dsimp only; omega) | (simp only [false_or]; omega) | simp)).2.1]; exact (b10.2.2.1 (6) (by first | (dsimp only; omega) | (simp only [false_or]; omega) | simp)).2.2
  refine S_putFR g nm (i := 0) (c := 8) (k := 3) (j := 6) (by omega) (by decide) hKt rfl fx_X8_30 rfl rfl rfl ?_
  obtain ⟨Y11, hY11⟩ : ∃ Y11 : PS, Y11 = putY Y10 (0) 3 (6) := ⟨_, rfl⟩
  rw [← hY11]
  have b11 := B_put (k := 3) (j := 6) b10 hT15 rfl hp10
  rw [← hY11] at b11
  have ea11 : Y11.1 = Y10.1 := by rw [hY11]; rfl
  rw [← ea11]
  have hKt : Y11.2.1 (0) = 8 := (B_al b11 hT15).trans hK
  have hR102 : ∀ e, e < 6 → Y11.2.2.2.2 102 e = some (120 + 4 * e) := fun e he => by rw [hY11]; exact hR102 e he
  have hR1 : ∀ e, Y11.2.2.2.2 1 e = none := fun e => by rw [hY11]; exact hR1 e
  refine S_n g 1 (pc' := 46) (lv' := [(0, .ref (Y11.1 (0)))]) (st' := [.ref (Y11.1 (0))]) rfl ?_
  have hf11 : ¬ Y11.2.1 (10) < 15 := by rw [b11.2.1 (10) (by first | (dsimp only; omega) | (simp only [false_or]; omega) | simp)]; exact hfree _ (by omega) (by omega)
  refine S_newO g (i := 10) (c := 0) (frY_of b11.2.2.2.2.2.2.2 (by omega) hf11) (by decide) nw_X8_34 (Nat.le_of_ble_eq_true rfl) (Nat.le_of_ble_eq_true rfl) rfl (fun q11 => ?_)
  obtain ⟨Y12, hY12⟩ : ∃ Y12 : PS, Y12 = newY Y11 (10) q11 0 := ⟨_, rfl⟩
  rw [← hY12]
  have ea12 : Y12.1 (0) = Y11.1 (0) := by rw [hY12]; exact nY1 (by omega)
  rw [← ea12]
  have eq12 : Y12.1 (10) = q11 := by rw [hY12]; exact nY1s
  rw [← eq12]
  have hKn12 : Y12.2.1 (10) = 0 := by rw [hY12]; exact nYKs
  have hKt : Y12.2.1 (0) = 8 := by rw [hY12, nYK (by omega)]; exact hKt
  have hCn12 : ClY Y12 := by rw [hY12]; exact ClY_new b11.2.2.2.2.2.2.2 (by decide)
  have hLn12 : Y12.2.2.1 = Y.2.2.1 := by rw [hY12]; exact b11.2.2.2.1
  have hFn12 : ∀ j, j ≠ 10 → Y12.2.1 j = Y11.2.1 j := fun j hj => by rw [hY12]; exact nYK hj
  have hR102 : ∀ e, e < 6 → Y12.2.2.2.2 102 e = some (120 + 4 * e) := fun e he => by rw [hY12, nYR (by omega)]; exact hR102 e he
  have hR1 : ∀ e, Y12.2.2.2.2 1 e = none := fun e => by rw [hY12, nYR (by omega)]; exact hR1 e
  refine S_n g 1 (pc' := 50) (lv' := [(0, .ref (Y12.1 (0)))]) (st' := [.ref (Y12.1 (10)), .ref (Y12.1 (10)), .ref (Y12.1 (0))]) rfl ?_
  refine S_callI g (b := Y12.1 (10)) (As := []) (st := [.ref (Y12.1 (10)), .ref (Y12.1 (0))]) (in_X0 (kdC true true) ppC Y12 (va_up (va_up (va_up (I1) (2) (fun _ => 0)) (6) (fun _ => 0)) (10) (fun _ => 0)) (va_up (va_up (va_up (J1) (2) (fun _ => 0)) (6) (fun _ => 0)) (10) (fun _ => 0)) (va_up (A1) (6 + 2) (fun _ => 0)) (va_up (va_up (va_up (va_up (va_up (B1) (2 + 1) (fun _ => 0)) (2 + 2) (fun _ => 0)) (2 + 3) (fun _ => 0)) (6 + 1) (fun _ => 0)) (6 + 3) (fun _ => 0)) 10 hCn12 (by omega) hKn12 (fun j x y => by rw [hFn12 j (by omega), b11.2.1 j (by first | (dsimp only; omega) | (simp only [false_or]; omega) | simp)]; exact hfree j (by omega) (by omega)) (by rw [hLn12, hN]; rfl) rfl rfl (by rw [hLn12, hN]; rfl) rfl rfl) mw_X0_init mi_X0_init rfl rfl lk_X8_36 ⟨Nat.le_of_ble_eq_true rfl, Nat.le_of_ble_eq_true rfl⟩ rfl (Nat.le_of_ble_eq_true rfl) ⟨Nat.le_of_ble_eq_true rfl, Nat.le_of_ble_eq_true rfl⟩ rfl (fun v' Y13 I13 J13 A13 B13 hpo => ?_)
  obtain ⟨rfl, h213, e113, e213, e313, e413⟩ := hpo
  rw [e113, e213, e313, e413]
  have b13 := B_obj (q := q11) (c := 0) b11 hf11 rfl (by decide) (hY12 ▸ h213) (fun k h => by rcases k with _ | _ | _ | _ | _ | _ | _ | _ | k <;> simp_all [fkd]) hT15
  have ea130 : Y13.1 (0) = Y12.1 (0) := h213.1 (0) (by rw [hKt]; decide)
  rw [← ea130]
  have ea1310 : Y13.1 (10) = Y12.1 (10) := h213.1 (10) (by rw [hKn12]; decide)
  rw [← ea1310]
  show Sim X Y13 53 [(0, .ref (Y13.1 (0)))] [.ref (Y13.1 (10)), .ref (Y13.1 (0))] (va_up (va_up (va_up (I1) (2) (fun _ => 0)) (6) (fun _ => 0)) (10) (fun _ => 0)) (va_up (va_up (va_up (J1) (2) (fun _ => 0)) (6) (fun _ => 0)) (10) (fun _ => 0)) (va_up (va_up (A1) (6 + 2) (fun _ => 0)) (10 + 1) (fun _ => 0)) (va_up (va_up (va_up (va_up (va_up (va_up (B1) (2 + 1) (fun _ => 0)) (2 + 2) (fun _ => 0)) (2 + 3) (fun _ => 0)) (6 + 1) (fun _ => 0)) (6 + 3) (fun _ => 0)) (10 + 2) (fun _ => 0)) _ _
  have hKt : Y13.2.1 (0) = 8 := (B_al b13 hT15).trans hK
  have hR102 : ∀ e, e < 6 → Y13.2.2.2.2 102 e = some (120 + 4 * e) := fun e he => by rw [(h213.2.2.2.2.1 102 (by rw [hFn12 102 (by omega), (b11.2.2.1 102 (by first | (dsimp only; omega) | (simp only [false_or]; omega) | simp)).2.1]; decide)).2 e]; exact hR102 e he
  have hR1 : ∀ e, Y13.2.2.2.2 1 e = none := fun e => by rw [(h213.2.2.2.2.1 1 (by rw [hFn12 1 (by omega), (b11.2.2.1 1 (by first | (dsimp only; omega) | (simp only [false_or]; omega) | simp)).2.1]; decide)).2 e]; exact hR1 e
  have hp13 : Y13.2.1 (10) < 15 := by rw [(b13.2.2.1 (10) (by first | (dsimp only; omega) | (simp only [false_or]; omega) | simp)).2.1]; exact (b13.2.2.1 (10) (by first | (dsimp only; omega) | (simp only [false_or]; omega) | simp)).2.2
  refine S_putFR g nm (i := 0) (c := 8) (k := 4) (j := 10) (by omega) (by decide) hKt rfl fx_X8_37 rfl rfl rfl ?_
  obtain ⟨Y14, hY14⟩ : ∃ Y14 : PS, Y14 = putY Y13 (0) 4 (10) := ⟨_, rfl⟩
  rw [← hY14]
  have b14 := B_put (k := 4) (j := 10) b13 hT15 rfl hp13
  rw [← hY14] at b14
  have ea14 : Y14.1 = Y13.1 := by rw [hY14]; rfl
  rw [← ea14]
  have hKt : Y14.2.1 (0) = 8 := (B_al b14 hT15).trans hK
  have hR102 : ∀ e, e < 6 → Y14.2.2.2.2 102 e = some (120 + 4 * e) := fun e he => by rw [hY14]; exact hR102 e he
  have hR1 : ∀ e, Y14.2.2.2.2 1 e = none := fun e => by rw [hY14]; exact hR1 e
  refine S_n g 1 (pc' := 57) (lv' := [(0, .ref (Y14.1 (0)))]) (st' := [.ref (Y14.1 (0))]) rfl ?_
  have hf14 : ¬ Y14.2.1 (13) < 15 := by rw [b14.2.1 (13) (by first | (dsimp only; omega) | (simp only [false_or]; omega) | simp)]; exact hfree _ (by omega) (by omega)
  refine S_newO g (i := 13) (c := 4) (frY_of b14.2.2.2.2.2.2.2 (by omega) hf14) (by decide) nw_X8_41 (Nat.le_of_ble_eq_true rfl) (Nat.le_of_ble_eq_true rfl) rfl (fun q14 => ?_)
  obtain ⟨Y15, hY15⟩ : ∃ Y15 : PS, Y15 = newY Y14 (13) q14 4 := ⟨_, rfl⟩
  rw [← hY15]
  have ea15 : Y15.1 (0) = Y14.1 (0) := by rw [hY15]; exact nY1 (by omega)
  rw [← ea15]
  have eq15 : Y15.1 (13) = q14 := by rw [hY15]; exact nY1s
  rw [← eq15]
  have hKn15 : Y15.2.1 (13) = 4 := by rw [hY15]; exact nYKs
  have hKt : Y15.2.1 (0) = 8 := by rw [hY15, nYK (by omega)]; exact hKt
  have hCn15 : ClY Y15 := by rw [hY15]; exact ClY_new b14.2.2.2.2.2.2.2 (by decide)
  have hLn15 : Y15.2.2.1 = Y.2.2.1 := by rw [hY15]; exact b14.2.2.2.1
  have hFn15 : ∀ j, j ≠ 13 → Y15.2.1 j = Y14.2.1 j := fun j hj => by rw [hY15]; exact nYK hj
  have hR102 : ∀ e, e < 6 → Y15.2.2.2.2 102 e = some (120 + 4 * e) := fun e he => by rw [hY15, nYR (by omega)]; exact hR102 e he
  have hR1 : ∀ e, Y15.2.2.2.2 1 e = none := fun e => by rw [hY15, nYR (by omega)]; exact hR1 e
  refine S_n g 1 (pc' := 61) (lv' := [(0, .ref (Y15.1 (0)))]) (st' := [.ref (Y15.1 (13)), .ref (Y15.1 (13)), .ref (Y15.1 (0))]) rfl ?_
  refine S_callI g (b := Y15.1 (13)) (As := []) (st := [.ref (Y15.1 (13)), .ref (Y15.1 (0))]) (in_X4 (kdC true true) ppC Y15 (va_up (va_up (va_up (va_up (I1) (2) (fun _ => 0)) (6) (fun _ => 0)) (10) (fun _ => 0)) (13) (fun _ => 0)) (va_up (va_up (va_up (va_up (J1) (2) (fun _ => 0)) (6) (fun _ => 0)) (10) (fun _ => 0)) (13) (fun _ => 0)) (va_up (va_up (A1) (6 + 2) (fun _ => 0)) (10 + 1) (fun _ => 0)) (va_up (va_up (va_up (va_up (va_up (va_up (B1) (2 + 1) (fun _ => 0)) (2 + 2) (fun _ => 0)) (2 + 3) (fun _ => 0)) (6 + 1) (fun _ => 0)) (6 + 3) (fun _ => 0)) (10 + 2) (fun _ => 0)) 13 hCn15 (by omega) hKn15 (fun j x y => by rw [hFn15 j (by omega), b14.2.1 j (by first | (dsimp only; omega) | (simp only [false_or]; omega) | simp)]; exact hfree j (by omega) (by omega)) (by rw [hLn15, hN]; rfl) rfl rfl) mw_X4_init mi_X4_init rfl rfl lk_X8_43 ⟨Nat.le_of_ble_eq_true rfl, Nat.le_of_ble_eq_true rfl⟩ rfl (Nat.le_of_ble_eq_true rfl) ⟨Nat.le_of_ble_eq_true rfl, Nat.le_of_ble_eq_true rfl⟩ rfl (fun v' Y16 I16 J16 A16 B16 hpo => ?_)
  obtain ⟨rfl, h216, e116, e216, e316, e416⟩ := hpo
  rw [e116, e216, e316, e416]
  have b16 := B_obj (q := q14) (c := 4) b14 hf14 rfl (by decide) (hY15 ▸ h216) (fun k h => by rcases k with _ | _ | _ | _ | _ | _ | _ | _ | k <;> simp_all [fkd]) hT15
  have ea160 : Y16.1 (0) = Y15.1 (0) := h216.1 (0) (by rw [hKt]; decide)
  rw [← ea160]
  have ea1613 : Y16.1 (13) = Y15.1 (13) := h216.1 (13) (by rw [hKn15]; decide)
  rw [← ea1613]
  show Sim X Y16 64 [(0, .ref (Y16.1 (0)))] [.ref (Y16.1 (13)), .ref (Y16.1 (0))] (va_up (va_up (va_up (va_up (I1) (2) (fun _ => 0)) (6) (fun _ => 0)) (10) (fun _ => 0)) (13) (fun _ => 0)) (va_up (va_up (va_up (va_up (J1) (2) (fun _ => 0)) (6) (fun _ => 0)) (10) (fun _ => 0)) (13) (fun _ => 0)) (va_up (va_up (va_up (A1) (6 + 2) (fun _ => 0)) (10 + 1) (fun _ => 0)) (13 + 1) (fun _ => 0)) (va_up (va_up (va_up (va_up (va_up (va_up (B1) (2 + 1) (fun _ => 0)) (2 + 2) (fun _ => 0)) (2 + 3) (fun _ => 0)) (6 + 1) (fun _ => 0)) (6 + 3) (fun _ => 0)) (10 + 2) (fun _ => 0)) _ _
  have hKt : Y16.2.1 (0) = 8 := (B_al b16 hT15).trans hK
  have hR102 : ∀ e, e < 6 → Y16.2.2.2.2 102 e = some (120 + 4 * e) := fun e he => by rw [(h216.2.2.2.2.1 102 (by rw [hFn15 102 (by omega), (b14.2.2.1 102 (by first | (dsimp only; omega) | (simp only [false_or]; omega) | simp)).2.1]; decide)).2 e]; exact hR102 e he
  have hR1 : ∀ e, Y16.2.2.2.2 1 e = none := fun e => by rw [(h216.2.2.2.2.1 1 (by rw [hFn15 1 (by omega), (b14.2.2.1 1 (by first | (dsimp only; omega) | (simp only [false_or]; omega) | simp)).2.1]; decide)).2 e]; exact hR1 e
  have hp16 : Y16.2.1 (13) < 15 := by rw [(b16.2.2.1 (13) (by first | (dsimp only; omega) | (simp only [false_or]; omega) | simp)).2.1]; exact (b16.2.2.1 (13) (by first | (dsimp only; omega) | (simp only [false_or]; omega) | simp)).2.2
  refine S_putFR g nm (i := 0) (c := 8) (k := 5) (j := 13) (by omega) (by decide) hKt rfl fx_X8_44 rfl rfl rfl ?_
  obtain ⟨Y17, hY17⟩ : ∃ Y17 : PS, Y17 = putY Y16 (0) 5 (13) := ⟨_, rfl⟩
  rw [← hY17]
  have b17 := B_put (k := 5) (j := 13) b16 hT15 rfl hp16
  rw [← hY17] at b17
  have ea17 : Y17.1 = Y16.1 := by rw [hY17]; rfl
  rw [← ea17]
  have hKt : Y17.2.1 (0) = 8 := (B_al b17 hT15).trans hK
  have hR102 : ∀ e, e < 6 → Y17.2.2.2.2 102 e = some (120 + 4 * e) := fun e he => by rw [hY17]; exact hR102 e he
  have hR1 : ∀ e, Y17.2.2.2.2 1 e = none := fun e => by rw [hY17]; exact hR1 e
  refine S_n g 2 (pc' := 70) (lv' := [(0, .ref (Y17.1 (0)))]) (st' := [.int (nI 12), .ref (Y17.1 (0))]) rfl ?_
  have hf17 : ¬ Y17.2.1 (15) < 15 := by rw [b17.2.1 (15) (by first | (dsimp only; omega) | (simp only [false_or]; omega) | simp)]; exact hfree _ (by omega) (by omega)
  refine S_newI g (i := 15) (N := 12) (frY_of b17.2.2.2.2.2.2.2 (by omega) hf17) ai_w (nI_pos (by decide)) (nI_clamp (by decide)) (by rw [b17.2.2.2.1]; exact (by rw [hN]; rfl)) (by decide) (Nat.le_of_ble_eq_true rfl) (Nat.le_of_ble_eq_true rfl) rfl (fun q17 => ?_)
  obtain ⟨Y18, hY18⟩ : ∃ Y18 : PS, Y18 = newY Y17 (15) q17 10 := ⟨_, rfl⟩
  rw [← hY18]
  have b18 := B_arr (q := q17) (c := 10) b17 hf17 rfl (by decide) rfl hT15
  rw [← hY18] at b18
  have ea18 : Y18.1 (0) = Y17.1 (0) := by rw [hY18]; exact nY1 (by omega)
  rw [← ea18]
  have eq18 : Y18.1 (15) = q17 := by rw [hY18]; exact nY1s
  rw [← eq18]
  have hKt : Y18.2.1 (0) = 8 := (B_al b18 hT15).trans hK
  have hR102 : ∀ e, e < 6 → Y18.2.2.2.2 102 e = some (120 + 4 * e) := fun e he => by rw [hY18, nYR (by omega)]; exact hR102 e he
  have hR1 : ∀ e, Y18.2.2.2.2 1 e = none := fun e => by rw [hY18, nYR (by omega)]; exact hR1 e
  have hp18 : Y18.2.1 (15) < 15 := by rw [(b18.2.2.1 (15) (by first | (dsimp only; omega) | (simp only [false_or]; omega) | simp)).2.1]; exact (b18.2.2.1 (15) (by first | (dsimp only; omega) | (simp only [false_or]; omega) | simp)).2.2
  refine S_putFR g nm (i := 0) (c := 8) (k := 6) (j := 15) (by omega) (by decide) hKt rfl fx_X8_48 rfl rfl rfl ?_
  obtain ⟨Y19, hY19⟩ : ∃ Y19 : PS, Y19 = putY Y18 (0) 6 (15) := ⟨_, rfl⟩
  rw [← hY19]
  have b19 := B_put (k := 6) (j := 15) b18 hT15 rfl hp18
  rw [← hY19] at b19
  have ea19 : Y19.1 = Y18.1 := by rw [hY19]; rfl
  rw [← ea19]
  have hKt : Y19.2.1 (0) = 8 := (B_al b19 hT15).trans hK
  have hR102 : ∀ e, e < 6 → Y19.2.2.2.2 102 e = some (120 + 4 * e) := fun e he => by rw [hY19]; exact hR102 e he
  have hR1 : ∀ e, Y19.2.2.2.2 1 e = none := fun e => by rw [hY19]; exact hR1 e
  refine S_n g 2 (pc' := 77) (lv' := [(0, .ref (Y19.1 (0)))]) (st' := [.int (-nI 1), .ref (Y19.1 (0))]) rfl ?_
  refine S_putI g (i := 0) (c := 8) (k := 7) (kd := 0) (by omega) (by decide) hKt rfl (by decide) fw_X8_52 rfl rfl rfl ?_
  obtain ⟨I5, hI5⟩ : ∃ I5 : FI, I5 = up2 (va_up (va_up (va_up (va_up (I1) (2) (fun _ => 0)) (6) (fun _ => 0)) (10) (fun _ => 0)) (13) (fun _ => 0)) (0) 7 (-nI 1) := ⟨_, rfl⟩
  obtain ⟨J5, hJ5⟩ : ∃ J5 : FJ, J5 = va_up (va_up (va_up (va_up (J1) (2) (fun _ => 0)) (6) (fun _ => 0)) (10) (fun _ => 0)) (13) (fun _ => 0) := ⟨_, rfl⟩
  obtain ⟨A5, hA5⟩ : ∃ A5 : FI, A5 = va_up (va_up (va_up (va_up (A1) (6 + 2) (fun _ => 0)) (10 + 1) (fun _ => 0)) (13 + 1) (fun _ => 0)) (15) (fun _ => 0) := ⟨_, rfl⟩
  obtain ⟨B5, hB5⟩ : ∃ B5 : FJ, B5 = va_up (va_up (va_up (va_up (va_up (va_up (B1) (2 + 1) (fun _ => 0)) (2 + 2) (fun _ => 0)) (2 + 3) (fun _ => 0)) (6 + 1) (fun _ => 0)) (6 + 3) (fun _ => 0)) (10 + 2) (fun _ => 0) := ⟨_, rfl⟩
  rw [← hI5, ← hJ5, ← hA5, ← hB5]
  have hLim5 : Lim 100 I5 := by
    rw [hI5]
    refine ⟨?_, ?_, fun u hu => ?_⟩ <;> repeat (first | rw [va_up_ne _ _ (by omega)] | rw [u2r (by omega)])
    · exact hLim.1
    · exact hLim.2.1
    · exact hLim.2.2 u hu
  have e13 : I5 13 1 = nI 0 := by rw [hI5]; rfl
  have e07 : I5 0 7 = -nI 1 := by rw [hI5]; exact up2_same _ _ _ _
  have e11 : A5 11 0 = nI 0 := by rw [hA5]; rfl
  have e12 : B5 12 0 = lN 0 := by rw [hB5]; rfl
  have bz : Bld (kdC true true) ppC Y Y19 (fun i => (0 < i ∧ i ≤ 15) ∨ (100 ≤ i ∧ i ≤ 112) ∨ (120 ≤ i ∧ i < 144)) 0 (fun k => k < 7) := B_as b19 (fun j => by constructor <;> intro h <;> simp only [false_or] at h ⊢ <;> omega) (fun k h => by simp only [false_or]; omega)
  refine Sim_C0 hF hK hN bz hR102 hR1 ?_
  obtain ⟨ad, had⟩ : ∃ ad, ad = Y19.1 := ⟨_, rfl⟩
  rw [← had]
  have a0 : ad 0 = Y.1 0 := by rw [had]; exact bz.1 0 hT15
  refine S_n g 1 (pc' := 81) (lv' := [(0, .ref (ad 0))]) (st' := [.ref (ad 0)]) rfl ?_
  refine S_getR g (i := 0) (c := 8) (k := 0) (j := 100) (by decide) (by decide) rfl rfl rfl fl_X8_10 rfl ?_
  refine S_n g 3 (pc' := 87) (lv' := [(0, .ref (ad 0))]) (st' := [.int (nI 0), .int (nI 1), .int (nI 1), .ref (ad 100)]) rfl ?_
  refine S_callV g (i := 100) (As := [.int (nI 1), .int (nI 1), .int (nI 0)]) (st := []) (w_begin ad false false I5 J5 A5 B5 1 1 0 (by decide) (by decide) (by decide) hLim5) mw_X7_begin lk_X8_56 ⟨Nat.le_of_ble_eq_true rfl, Nat.le_of_ble_eq_true rfl⟩ (by decide) (by decide) rfl rfl (Nat.le_of_ble_eq_true rfl) ⟨Nat.le_of_ble_eq_true rfl, Nat.le_of_ble_eq_true rfl⟩ rfl (fun v' Y' I6 J6 A6 B6 hpo => ?_)
  obtain ⟨rfl, rfl, hR6, hk6⟩ := hpo
  exact rt 90 _ none _ _ _ _ _ _ _ ⟨rfl, rfl⟩ (Nat.le_of_ble_eq_true rfl) (Nat.le_of_ble_eq_true rfl) ⟨rfl, ⟨ad, rfl, a0⟩, hR6, by rw [hk6.2.1]; exact e13, hk6.2.2.2.1.trans e07, hk6.2.2.2.2.1.trans e11, hk6.2.2.2.2.2.trans e12⟩
