/-! the class: worlds are copied -/
theorem RepW_frb {b : Nat} {m : Nat → Int64} {I I' : FI} {J J' : FJ} {A A' : FI} {B B' : FJ} (h : RepW b m I J A B) (e : ∀ i, b ≤ i → i < b + 44 → I' i = I i ∧ J' i = J i ∧ A' i = A i ∧ B' i = B i) : RepW b m I' J' A' B' := by
  obtain ⟨h0, h1, h2, h3, h4, h5, h6, h7, h8⟩ := h
  have eI : ∀ i k, b ≤ i → i < b + 44 → I' i k = I i k := fun i k a b => by rw [(e i a b).1]
  refine ⟨r0_h h0 (fun k _ => eI _ _ (by omega) (by omega)), r1_h h1 (eI _ _ (by omega) (by omega)), r2_h h2 (e _ (by omega) (by omega)).2.2.1, r3_h h3 (fun w hw => by rw [(e _ (by omega) (by omega)).2.1]) (fun w hw => eI _ _ (by omega) (by omega)), r4_h h4 (fun w hw k => eI _ _ (by omega) (by omega)) (fun w hw => (e _ (by omega) (by omega)).2.2.2), r5_h h5 (fun w hw => (e _ (by omega) (by omega)).2.2.1), r6_h h6 (fun k => eI _ _ (by omega) (by omega)) (e _ (by omega) (by omega)).2.2.2, r7_h h7 (fun k => eI _ _ (by omega) (by omega)) (e _ (by omega) (by omega)).2.2.2, r8_h h8 (eI _ _ (by omega) (by omega)) (e _ (by omega) (by omega)).2.2.1 (e _ (by omega) (by omega)).2.2.1 (e _ (by omega) (by omega)).2.2.1⟩
/-- member v of the world at b stands for m's -/
def mR (b : Nat) (m : Nat → Int64) (v : Nat) (I : FI) (J : FJ) (A : FI) (B : FJ) : Prop := (J (b + 20 + 4 * v) 1 = m (63 + v) ∧ I (b + 20 + 4 * v) 2 = (m (69 + v)).toInt32) ∧ (I (b + 20 + 4 * v + 1) 2 = nI 40 ∧ I (b + 20 + 4 * v + 1) 3 = nI (lnG m v) ∧ ∀ k, k < lnG m v → B (b + 20 + 4 * v + 1 + 1) k = m (87 + 40 * v + k)) ∧ ∀ k, k < lnG m v → A (b + 20 + 4 * v + 1 + 2) k = cnX (fun p => (m (3 + p)).toInt32) (m (87 + 40 * v + k)) (12 * gN (m 0))
theorem mR_fr {b : Nat} {m : Nat → Int64} {v : Nat} {I I' : FI} {J J' : FJ} {A A' : FI} {B B' : FJ} (h : mR b m v I J A B) (e : ∀ i, b + 20 + 4 * v ≤ i → i < b + 20 + 4 * v + 4 → I' i = I i ∧ J' i = J i ∧ A' i = A i ∧ B' i = B i) : mR b m v I' J' A' B' := by
  unfold mR at h ⊢
  rw [(e (b + 20 + 4 * v) (by omega) (by omega)).1, (e (b + 20 + 4 * v) (by omega) (by omega)).2.1, (e (b + 20 + 4 * v + 1) (by omega) (by omega)).1, (e (b + 20 + 4 * v + 1 + 1) (by omega) (by omega)).2.2.2, (e (b + 20 + 4 * v + 1 + 2) (by omega) (by omega)).2.2.1]
  exact h
theorem cpy_0 {α : Type} {f g : Nat → α} {n k : Nat} (h : k < n) : va_cpy f g 0 0 n k = f k := by unfold va_cpy; rw [if_pos (by omega), show 0 + (k - 0) = k by omega]
theorem isW_200 {z1 : Bool} : isW true z1 200 := Or.inr (Or.inl ⟨rfl, rfl⟩)
theorem isW_300 {z0 : Bool} : isW z0 true 300 := Or.inr (Or.inr ⟨rfl, rfl⟩)
/-- the world at b is the only thing that has changed -/
def kpB (b : Nat) (I : FI) (J : FJ) (A : FI) (B : FJ) (I' : FI) (J' : FJ) (A' : FI) (B' : FJ) : Prop := ∀ i, i < b ∨ b + 44 ≤ i → I' i = I i ∧ J' i = J i ∧ A' i = A i ∧ B' i = B i
theorem kpB_rf (b : Nat) (I : FI) (J : FJ) (A : FI) (B : FJ) : kpB b I J A B I J A B := fun _ _ => ⟨rfl, rfl, rfl, rfl⟩
theorem kpB_tr {b : Nat} {I : FI} {J : FJ} {A : FI} {B : FJ} {I' : FI} {J' : FJ} {A' : FI} {B' : FJ} {I2 : FI} {J2 : FJ} {A2 : FI} {B2 : FJ} (h : kpB b I J A B I' J' A' B') (q : kpB b I' J' A' B' I2 J2 A2 B2) : kpB b I J A B I2 J2 A2 B2 := fun i hi => ⟨(q i hi).1.trans (h i hi).1, (q i hi).2.1.trans (h i hi).2.1, (q i hi).2.2.1.trans (h i hi).2.2.1, (q i hi).2.2.2.trans (h i hi).2.2.2⟩

set_option maxRecDepth 100000 in
set_option maxHeartbeats 4000000 in
theorem mb_copy_s0 (ad : Nat → Nat) (z1 : Bool) (I : FI) (J : FJ) (A : FI) (B : FJ) (u n : Nat) (hu : u < 6) (hS : I (120 + 4 * u + 1) 3 = nI n) (hn : n ≤ 40) (hLm : I (220 + 4 * u + 1) 2 = nI 40) : Spec M_X2_copyFrom [.ref (ad (220 + 4 * u)), .ref (ad (120 + 4 * u))] (YC ad true z1) I J A B (eqP none (YC ad true z1) (up2 (up2 I (220 + 4 * u + 1) 3 (nI n)) (220 + 4 * u) 2 (I (120 + 4 * u) 2)) (up2 J (220 + 4 * u) 1 (J (120 + 4 * u) 1)) (va_up A (220 + 4 * u + 1 + 2) (va_cpy (A (120 + 4 * u + 1 + 2)) (A (220 + 4 * u + 1 + 2)) 0 0 n)) (va_up B (220 + 4 * u + 1 + 1) (va_cpy (B (120 + 4 * u + 1 + 1)) (B (220 + 4 * u + 1 + 1)) 0 0 n))) := by
  have hmb := mb_u (ad := ad) (show isW true z1 200 from isW_200) hu
  have hmo := mb_u (ad := ad) (show isW true z1 100 from isW_100) hu
  refine Spec_of (by decide) tk_X2_copyFrom (Nat.le_of_ble_eq_true rfl) (fun X g rt => ?_)
  show Sim X (YC ad true z1) 0 [(0, .ref (ad (220 + 4 * u))), (1, .ref (ad (120 + 4 * u)))] [] I J A B 0 0
  refine S_n g 1 (pc' := 1) (lv' := [(0, .ref (ad (220 + 4 * u))), (1, .ref (ad (120 + 4 * u)))]) (st' := [.ref (ad (220 + 4 * u))]) rfl ?_
  refine S_getR g (i := 220 + 4 * u) (c := 2) (k := 0) (j := 220 + 4 * u + 1) (by omega) (by decide) (mb_u (ad := ad) (show isW true z1 200 from isW_200) hu).1 rfl (mb_u (ad := ad) (show isW true z1 200 from isW_200) hu).2.1 fl_X2_14 rfl ?_
  refine S_n g 1 (pc' := 5) (lv' := [(0, .ref (ad (220 + 4 * u))), (1, .ref (ad (120 + 4 * u)))]) (st' := [.ref (ad (120 + 4 * u)), .ref (ad (220 + 4 * u + 1))]) rfl ?_
  refine S_getR g (i := 120 + 4 * u) (c := 2) (k := 0) (j := 120 + 4 * u + 1) (by omega) (by decide) (mb_u (ad := ad) (show isW true z1 100 from isW_100) hu).1 rfl (mb_u (ad := ad) (show isW true z1 100 from isW_100) hu).2.1 fl_X2_14 rfl ?_
  refine S_cV g (i := 220 + 4 * u + 1) (As := [.ref (ad (120 + 4 * u + 1))]) (st := []) (sl_copyFrom ad true z1 I J A B (220 + 4 * u + 1) (120 + 4 * u + 1) 40 n hmb.2.2 hmo.2.2 (by decide) hS hn hLm) mw_X6_copyFrom lk_X2_44 ⟨Nat.le_of_ble_eq_true rfl, Nat.le_of_ble_eq_true rfl⟩ (by omega) (by decide) (mb_u (ad := ad) (show isW true z1 200 from isW_200) hu).2.2.2.1 rfl (Nat.le_of_ble_eq_true rfl) ⟨Nat.le_of_ble_eq_true rfl, Nat.le_of_ble_eq_true rfl⟩ rfl ?_
  show Sim X (YC ad true z1) 11 [(0, .ref (ad (220 + 4 * u))), (1, .ref (ad (120 + 4 * u)))] [] (up2 I (220 + 4 * u + 1) 3 (nI n)) J (va_up A (220 + 4 * u + 1 + 2) (va_cpy (A (120 + 4 * u + 1 + 2)) (A (220 + 4 * u + 1 + 2)) 0 0 n)) (va_up B (220 + 4 * u + 1 + 1) (va_cpy (B (120 + 4 * u + 1 + 1)) (B (220 + 4 * u + 1 + 1)) 0 0 n)) 0 0
  refine S_n g 2 (pc' := 13) (lv' := [(0, .ref (ad (220 + 4 * u))), (1, .ref (ad (120 + 4 * u)))]) (st' := [.ref (ad (120 + 4 * u)), .ref (ad (220 + 4 * u))]) rfl ?_
  refine S_getJ g (i := 120 + 4 * u) (c := 2) (k := 1) (by omega) (by decide) (mb_u (ad := ad) (show isW true z1 100 from isW_100) hu).1 rfl fl_X2_24 rfl ?_
  refine S_putJ g (i := 220 + 4 * u) (c := 2) (k := 1) (by omega) (by decide) (mb_u (ad := ad) (show isW true z1 200 from isW_200) hu).1 rfl fw_X2_24 rfl ?_
  refine S_n g 2 (pc' := 21) (lv' := [(0, .ref (ad (220 + 4 * u))), (1, .ref (ad (120 + 4 * u)))]) (st' := [.ref (ad (120 + 4 * u)), .ref (ad (220 + 4 * u))]) rfl ?_
  refine S_getI g (i := 120 + 4 * u) (c := 2) (k := 2) (by omega) (by decide) (mb_u (ad := ad) (show isW true z1 100 from isW_100) hu).1 rfl fl_X2_28 rfl ?_
  rw [up2_ne _ _ _ _ (show 120 + 4 * u ≠ 220 + 4 * u + 1 from (by omega))]
  refine S_putI g (i := 220 + 4 * u) (c := 2) (k := 2) (kd := 0) (by omega) (by decide) (mb_u (ad := ad) (show isW true z1 200 from isW_200) hu).1 rfl (by decide) fw_X2_28 rfl rfl rfl ?_
  exact rtV rt rfl rfl eqP_rf

set_option maxRecDepth 100000 in
set_option maxHeartbeats 4000000 in
theorem pl_copy_s0 (ad : Nat → Nat) (z1 : Bool) (I : FI) (J : FJ) (A : FI) (B : FJ) (n : Nat) (hS : I 109 3 = nI n) (hn : n ≤ 30) : Spec M_X3_copyFrom [.ref (ad 209), .ref (ad 109)] (YC ad true z1) I J A B (eqP none (YC ad true z1) (up2 I 209 3 (nI n)) J (va_up (va_up (va_up A 210 (va_cpy (A 110) (A 210) 0 0 n)) 211 (va_cpy (A 111) (A 211) 0 0 n)) 212 (va_cpy (A 112) (A 212) 0 0 n)) B) := by
  refine Spec_of (by decide) tk_X3_copyFrom (Nat.le_of_ble_eq_true rfl) (fun X g rt => ?_)
  show Sim X (YC ad true z1) 0 [(0, .ref (ad 209)), (1, .ref (ad 109))] [] I J A B 0 0
  refine S_n g 2 (pc' := 2) (lv' := [(0, .ref (ad 209)), (1, .ref (ad 109))]) (st' := [.ref (ad 109), .ref (ad 209)]) rfl ?_
  refine S_getI g (i := 109) (c := 3) (k := 3) (by decide) (by decide) rfl rfl fl_X3_21 rfl ?_
  rw [hS]
  refine S_putI g (i := 209) (c := 3) (k := 3) (kd := 0) (by decide) (by decide) rfl rfl (by decide) fw_X3_21 rfl rfl rfl ?_
  refine S_n g 1 (pc' := 9) (lv' := [(0, .ref (ad 209)), (1, .ref (ad 109))]) (st' := [.ref (ad 109)]) rfl ?_
  refine S_getR g (i := 109) (c := 3) (k := 0) (j := 110) (by decide) (by decide) rfl rfl rfl fl_X3_9 rfl ?_
  refine S_n g 2 (pc' := 14) (lv' := [(0, .ref (ad 209)), (1, .ref (ad 109))]) (st' := [.ref (ad 209), .int (nI 0), .ref (ad 110)]) rfl ?_
  refine S_getR g (i := 209) (c := 3) (k := 0) (j := 210) (by decide) (by decide) rfl rfl rfl fl_X3_9 rfl ?_
  refine S_n g 2 (pc' := 19) (lv' := [(0, .ref (ad 209)), (1, .ref (ad 109))]) (st' := [.ref (ad 209), .int (nI 0), .ref (ad 210), .int (nI 0), .ref (ad 110)]) rfl ?_
  refine S_getI g (i := 209) (c := 3) (k := 3) (by decide) (by decide) rfl rfl fl_X3_21 rfl ?_
  show Sim X (YC ad true z1) 22 [(0, .ref (ad 209)), (1, .ref (ad 109))] [.int (nI n), .int (nI 0), .ref (ad 210), .int (nI 0), .ref (ad 110)] (up2 I 209 3 (nI n)) J A B 0 0
  refine S_copyi g (i := 110) (j := 210) (by decide) rfl (by decide) rfl lc_X3_25 ac_nat ac_stat ac_ini (nI_pos (by omega)) (nI_pos (by omega)) (nI_pos (by omega)) (by rw [nI_clamp (n := 0) (by omega), nI_clamp (n := n) (by omega)]; exact (show (0) + (n) ≤ 30 from by omega)) (by rw [nI_clamp (n := 0) (by omega), nI_clamp (n := n) (by omega)]; exact (show (0) + (n) ≤ 30 from by omega)) (Nat.le_of_ble_eq_true rfl) (Nat.le_of_ble_eq_true rfl) rfl ?_
  rw [nI_clamp (n := 0) (by omega), nI_clamp (n := n) (by omega)]
  show Sim X (YC ad true z1) 25 [(0, .ref (ad 209)), (1, .ref (ad 109))] [] (up2 I 209 3 (nI n)) J (va_up A 210 (va_cpy (A 110) (A 210) 0 0 n)) B 0 0
  refine S_n g 1 (pc' := 26) (lv' := [(0, .ref (ad 209)), (1, .ref (ad 109))]) (st' := [.ref (ad 109)]) rfl ?_
  refine S_getR g (i := 109) (c := 3) (k := 1) (j := 111) (by decide) (by decide) rfl rfl rfl fl_X3_15 rfl ?_
  refine S_n g 2 (pc' := 31) (lv' := [(0, .ref (ad 209)), (1, .ref (ad 109))]) (st' := [.ref (ad 209), .int (nI 0), .ref (ad 111)]) rfl ?_
  refine S_getR g (i := 209) (c := 3) (k := 1) (j := 211) (by decide) (by decide) rfl rfl rfl fl_X3_15 rfl ?_
  refine S_n g 2 (pc' := 36) (lv' := [(0, .ref (ad 209)), (1, .ref (ad 109))]) (st' := [.ref (ad 209), .int (nI 0), .ref (ad 211), .int (nI 0), .ref (ad 111)]) rfl ?_
  refine S_getI g (i := 209) (c := 3) (k := 3) (by decide) (by decide) rfl rfl fl_X3_21 rfl ?_
  show Sim X (YC ad true z1) 39 [(0, .ref (ad 209)), (1, .ref (ad 109))] [.int (nI n), .int (nI 0), .ref (ad 211), .int (nI 0), .ref (ad 111)] (up2 I 209 3 (nI n)) J (va_up A 210 (va_cpy (A 110) (A 210) 0 0 n)) B 0 0
  refine S_copyi g (i := 111) (j := 211) (by decide) rfl (by decide) rfl lc_X3_25 ac_nat ac_stat ac_ini (nI_pos (by omega)) (nI_pos (by omega)) (nI_pos (by omega)) (by rw [nI_clamp (n := 0) (by omega), nI_clamp (n := n) (by omega)]; exact (show (0) + (n) ≤ 30 from by omega)) (by rw [nI_clamp (n := 0) (by omega), nI_clamp (n := n) (by omega)]; exact (show (0) + (n) ≤ 30 from by omega)) (Nat.le_of_ble_eq_true rfl) (Nat.le_of_ble_eq_true rfl) rfl ?_
  rw [nI_clamp (n := 0) (by omega), nI_clamp (n := n) (by omega)]
  show Sim X (YC ad true z1) 42 [(0, .ref (ad 209)), (1, .ref (ad 109))] [] (up2 I 209 3 (nI n)) J (va_up (va_up A 210 (va_cpy (A 110) (A 210) 0 0 n)) 211 (va_cpy (A 111) (A 211) 0 0 n)) B 0 0
  refine S_n g 1 (pc' := 43) (lv' := [(0, .ref (ad 209)), (1, .ref (ad 109))]) (st' := [.ref (ad 109)]) rfl ?_
  refine S_getR g (i := 109) (c := 3) (k := 2) (j := 112) (by decide) (by decide) rfl rfl rfl fl_X3_18 rfl ?_
  refine S_n g 2 (pc' := 48) (lv' := [(0, .ref (ad 209)), (1, .ref (ad 109))]) (st' := [.ref (ad 209), .int (nI 0), .ref (ad 112)]) rfl ?_
  refine S_getR g (i := 209) (c := 3) (k := 2) (j := 212) (by decide) (by decide) rfl rfl rfl fl_X3_18 rfl ?_
  refine S_n g 2 (pc' := 53) (lv' := [(0, .ref (ad 209)), (1, .ref (ad 109))]) (st' := [.ref (ad 209), .int (nI 0), .ref (ad 212), .int (nI 0), .ref (ad 112)]) rfl ?_
  refine S_getI g (i := 209) (c := 3) (k := 3) (by decide) (by decide) rfl rfl fl_X3_21 rfl ?_
  show Sim X (YC ad true z1) 56 [(0, .ref (ad 209)), (1, .ref (ad 109))] [.int (nI n), .int (nI 0), .ref (ad 212), .int (nI 0), .ref (ad 112)] (up2 I 209 3 (nI n)) J (va_up (va_up A 210 (va_cpy (A 110) (A 210) 0 0 n)) 211 (va_cpy (A 111) (A 211) 0 0 n)) B 0 0
  refine S_copyi g (i := 112) (j := 212) (by decide) rfl (by decide) rfl lc_X3_25 ac_nat ac_stat ac_ini (nI_pos (by omega)) (nI_pos (by omega)) (nI_pos (by omega)) (by rw [nI_clamp (n := 0) (by omega), nI_clamp (n := n) (by omega)]; exact (show (0) + (n) ≤ 30 from by omega)) (by rw [nI_clamp (n := 0) (by omega), nI_clamp (n := n) (by omega)]; exact (show (0) + (n) ≤ 30 from by omega)) (Nat.le_of_ble_eq_true rfl) (Nat.le_of_ble_eq_true rfl) rfl ?_
  rw [nI_clamp (n := 0) (by omega), nI_clamp (n := n) (by omega)]
  show Sim X (YC ad true z1) 59 [(0, .ref (ad 209)), (1, .ref (ad 109))] [] (up2 I 209 3 (nI n)) J (va_up (va_up (va_up A 210 (va_cpy (A 110) (A 210) 0 0 n)) 211 (va_cpy (A 111) (A 211) 0 0 n)) 212 (va_cpy (A 112) (A 212) 0 0 n)) B 0 0
  exact rtV rt rfl rfl eqP_rf

set_option maxRecDepth 100000 in
set_option maxHeartbeats 4000000 in
theorem w_copy_s0 (ad : Nat → Nat) (z1 : Bool) (I : FI) (J : FJ) (A : FI) (B : FJ) (m : Nat → Int64) (hG : WG m) (hR : RepW 100 m I J A B) (hL : Lim 200 I) : Spec M_X7_copyFrom [.ref (ad 200), .ref (ad 100)] (YC ad true z1) I J A B (fun v' Y' I' J' A' B' => v' = none ∧ Y' = YC ad true z1 ∧ RepW 200 m I' J' A' B' ∧ kpB 200 I J A B I' J' A' B') := by
  obtain ⟨g0, g1, g2, g3, g4, g5⟩ := WGn hG
  have hI5 := hR.1
  have hR0 := hR
  refine Spec_of (by decide) tk_X7_copyFrom (Nat.le_of_ble_eq_true rfl) (fun X g rt => ?_)
  show Sim X (YC ad true z1) 0 [(0, .ref (ad 200)), (1, .ref (ad 100))] [] I J A B 0 0
  have i5 : I 100 5 = (m 0).toInt32 := hR.1.1
  have i6 : I 100 6 = (m 1).toInt32 := hR.1.2.1
  have i7 : I 100 7 = (m 2).toInt32 := hR.1.2.2.1
  have i9 : I 100 9 = (m 620).toInt32 := hR.1.2.2.2
  have i8 : I 100 8 = preS m (gN (m 1)) := hR.2.1
  refine S_n g 2 (pc' := 2) (lv' := [(0, .ref (ad 200)), (1, .ref (ad 100))]) (st' := [.ref (ad 100), .ref (ad 200)]) rfl ?_
  refine S_getI g (i := 100) (c := 7) (k := 5) (by decide) (by decide) rfl rfl fl_X7_41 rfl ?_
  rw [i5]
  refine S_putI g (i := 200) (c := 7) (k := 5) (kd := 0) (by decide) (by decide) rfl rfl (by decide) fw_X7_41 rfl rfl rfl ?_
  refine S_n g 2 (pc' := 10) (lv' := [(0, .ref (ad 200)), (1, .ref (ad 100))]) (st' := [.ref (ad 100), .ref (ad 200)]) rfl ?_
  refine S_getI g (i := 100) (c := 7) (k := 6) (by decide) (by decide) rfl rfl fl_X7_45 rfl ?_
  show Sim X (YC ad true z1) 13 [(0, .ref (ad 200)), (1, .ref (ad 100))] [.int (I 100 6), .ref (ad 200)] (up2 I 200 5 (m 0).toInt32) J A B 0 0
  rw [i6]
  refine S_putI g (i := 200) (c := 7) (k := 6) (kd := 0) (by decide) (by decide) rfl rfl (by decide) fw_X7_45 rfl rfl rfl ?_
  refine S_n g 2 (pc' := 18) (lv' := [(0, .ref (ad 200)), (1, .ref (ad 100))]) (st' := [.ref (ad 100), .ref (ad 200)]) rfl ?_
  refine S_getI g (i := 100) (c := 7) (k := 7) (by decide) (by decide) rfl rfl fl_X7_48 rfl ?_
  show Sim X (YC ad true z1) 21 [(0, .ref (ad 200)), (1, .ref (ad 100))] [.int (I 100 7), .ref (ad 200)] (up2 (up2 I 200 5 (m 0).toInt32) 200 6 (m 1).toInt32) J A B 0 0
  rw [i7]
  refine S_putI g (i := 200) (c := 7) (k := 7) (kd := 0) (by decide) (by decide) rfl rfl (by decide) fw_X7_48 rfl rfl rfl ?_
  refine S_n g 2 (pc' := 26) (lv' := [(0, .ref (ad 200)), (1, .ref (ad 100))]) (st' := [.ref (ad 100), .ref (ad 200)]) rfl ?_
  refine S_getI g (i := 100) (c := 7) (k := 8) (by decide) (by decide) rfl rfl fl_X7_51 rfl ?_
  show Sim X (YC ad true z1) 29 [(0, .ref (ad 200)), (1, .ref (ad 100))] [.int (I 100 8), .ref (ad 200)] (up2 (up2 (up2 I 200 5 (m 0).toInt32) 200 6 (m 1).toInt32) 200 7 (m 2).toInt32) J A B 0 0
  rw [i8]
  refine S_putI g (i := 200) (c := 7) (k := 8) (kd := 0) (by decide) (by decide) rfl rfl (by decide) fw_X7_51 rfl rfl rfl ?_
  refine S_n g 2 (pc' := 34) (lv' := [(0, .ref (ad 200)), (1, .ref (ad 100))]) (st' := [.ref (ad 100), .ref (ad 200)]) rfl ?_
  refine S_getI g (i := 100) (c := 7) (k := 9) (by decide) (by decide) rfl rfl fl_X7_54 rfl ?_
  show Sim X (YC ad true z1) 37 [(0, .ref (ad 200)), (1, .ref (ad 100))] [.int (I 100 9), .ref (ad 200)] (up2 (up2 (up2 (up2 I 200 5 (m 0).toInt32) 200 6 (m 1).toInt32) 200 7 (m 2).toInt32) 200 8 (preS m (gN (m 1)))) J A B 0 0
  rw [i9]
  refine S_putI g (i := 200) (c := 7) (k := 9) (kd := 0) (by decide) (by decide) rfl rfl (by decide) fw_X7_54 rfl rfl rfl ?_
  refine S_n g 1 (pc' := 41) (lv' := [(0, .ref (ad 200)), (1, .ref (ad 100))]) (st' := [.ref (ad 100)]) rfl ?_
  refine S_getR g (i := 100) (c := 7) (k := 0) (j := 101) (by decide) (by decide) rfl rfl rfl fl_X7_9 rfl ?_
  refine S_n g 2 (pc' := 46) (lv' := [(0, .ref (ad 200)), (1, .ref (ad 100))]) (st' := [.ref (ad 200), .int (nI 0), .ref (ad 101)]) rfl ?_
  refine S_getR g (i := 200) (c := 7) (k := 0) (j := 201) (by decide) (by decide) rfl rfl rfl fl_X7_9 rfl ?_
  refine S_n g 2 (pc' := 52) (lv' := [(0, .ref (ad 200)), (1, .ref (ad 100))]) (st' := [.int (nI 60), .int (nI 0), .ref (ad 201), .int (nI 0), .ref (ad 101)]) rfl ?_
  refine S_copyi g (i := 101) (j := 201) (by decide) rfl (by decide) rfl lc_X7_64 ac_nat ac_stat ac_ini (nI_pos (by omega)) (nI_pos (by omega)) (nI_pos (by omega)) (by rw [nI_clamp (n := 0) (by omega), nI_clamp (n := 60) (by omega)]; exact (show (0) + (60) ≤ 60 from by omega)) (by rw [nI_clamp (n := 0) (by omega), nI_clamp (n := 60) (by omega)]; exact (show (0) + (60) ≤ 60 from by omega)) (Nat.le_of_ble_eq_true rfl) (Nat.le_of_ble_eq_true rfl) rfl ?_
  rw [nI_clamp (n := 0) (by omega), nI_clamp (n := 60) (by omega)]
  show Sim X (YC ad true z1) 55 [(0, .ref (ad 200)), (1, .ref (ad 100))] [] (up2 (up2 (up2 (up2 (up2 I 200 5 (m 0).toInt32) 200 6 (m 1).toInt32) 200 7 (m 2).toInt32) 200 8 (preS m (gN (m 1)))) 200 9 (m 620).toInt32) J (va_up A 201 (va_cpy (A 101) (A 201) 0 0 60)) B 0 0
  refine S_n g 2 (pc' := 57) (lv' := [(0, .ref (ad 200)), (1, .ref (ad 100)), (2, .int (nI 0))]) (st' := []) rfl ?_
  obtain ⟨I1, hI1⟩ : ∃ I1 : FI, I1 = up2 (up2 (up2 (up2 (up2 I 200 5 (m 0).toInt32) 200 6 (m 1).toInt32) 200 7 (m 2).toInt32) 200 8 (preS m (gN (m 1)))) 200 9 (m 620).toInt32 := ⟨_, rfl⟩
  obtain ⟨A1, hA1⟩ : ∃ A1 : FI, A1 = va_up A 201 (va_cpy (A 101) (A 201) 0 0 60) := ⟨_, rfl⟩
  rw [← hI1, ← hA1]
  show Sim X (YC ad true z1) 57 [(0, .ref (ad 200)), (1, .ref (ad 100)), (2, .int (nI 0))] [] I1 J A1 B 0 0
  have kI1 : ∀ i, i ≠ 200 → I1 i = I i := fun i hi => by rw [hI1, u2r hi, u2r hi, u2r hi, u2r hi, u2r hi]
  have kA1 : ∀ i, i ≠ 201 → A1 i = A i := fun i hi => by rw [hA1, va_up_ne _ _ hi]
  have hb0 : r0w 200 m I1 J A1 B := by unfold r0w; rw [hI1]; exact ⟨rfl, rfl, rfl, rfl⟩
  have hb1 : r1w 200 m I1 J A1 B := by unfold r1w; rw [hI1]; rfl
  have hb2 : r2w 200 m I1 J A1 B := fun p hp => by rw [hA1, show va_up A 201 (va_cpy (A 101) (A 201) 0 0 60) (200 + 1) p = va_cpy (A 101) (A 201) 0 0 60 p from by rw [va_up_self], cpy_0 hp]; exact hR.2.2.1 p hp
  have hRo : RepW 100 m I1 J A1 B := RepW_frb hR (fun i a c => ⟨kI1 i (by omega), rfl, kA1 i (by omega), rfl⟩)
  have hk1 : kpB 200 I J A B I1 J A1 B := fun i hi => ⟨kI1 i (by omega), rfl, kA1 i (by omega), rfl⟩
  have lp : ∀ (nn : Nat) (u : Nat) (I2 : FI) (J2 : FJ) (A2 : FI) (B2 : FJ), 6 - u = nn → (u ≤ 6) → (RepW 100 m I2 J2 A2 B2) → (∀ i, i < 220 ∨ 244 ≤ i → I2 i = I1 i ∧ J2 i = J i ∧ A2 i = A1 i ∧ B2 i = B i) → (∀ v, v < 6 → I2 (200 + 20 + 4 * v + 1) 2 = nI 40) → (∀ v, v < u → mR 200 m v I2 J2 A2 B2) → Sim X (YC ad true z1) 57 [(0, .ref (ad 200)), (1, .ref (ad 100)), (2, .int (nI u))] [] I2 J2 A2 B2 0 0 := by
    intro nn
    induction nn using Nat.strongRecOn with
    | ind nn ih =>
      intro u I2 J2 A2 B2 hmz hu0 hRo2 hk2 hlm hmr
      have lp := ih
      refine S_n g 2 (pc' := 60) (lv' := [(0, .ref (ad 200)), (1, .ref (ad 100)), (2, .int (nI u))]) (st' := [.int (nI 6), .int (nI u)]) rfl ?_
      refine S_icN_ge g (tgt := 84) (by omega) (by omega) rfl (by decide) (fun qz60 => ?_) (fun qz60 => ?_)
      · skip
        have hu9 : u = 6 := by omega
        subst hu9
        have h6 := hRo2.2.2.2.2.2.2.1
        have h7 := hRo2.2.2.2.2.2.2.2.1
        have h8 := hRo2.2.2.2.2.2.2.2.2
        have l3 : I2 203 2 = nI 100 := by rw [(hk2 203 (by omega)).1, kI1 _ (by decide)]; exact hL.1
        have l6 : I2 206 2 = nI 100 := by rw [(hk2 206 (by omega)).1, kI1 _ (by decide)]; exact hL.2.1
        refine S_n g 1 (pc' := 85) (lv' := [(0, .ref (ad 200)), (1, .ref (ad 100)), (2, .int (nI 6))]) (st' := [.ref (ad 200)]) rfl ?_
        refine S_getR g (i := 200) (c := 7) (k := 2) (j := 203) (by decide) (by decide) rfl rfl rfl fl_X7_26 rfl ?_
        refine S_n g 1 (pc' := 89) (lv' := [(0, .ref (ad 200)), (1, .ref (ad 100)), (2, .int (nI 6))]) (st' := [.ref (ad 100), .ref (ad 203)]) rfl ?_
        refine S_getR g (i := 100) (c := 7) (k := 2) (j := 103) (by decide) (by decide) rfl rfl rfl fl_X7_26 rfl ?_
        refine S_cV g (i := 203) (As := [.ref (ad 103)]) (st := []) (sl_copyFrom ad true z1 I2 J2 A2 B2 203 103 100 (gN (m 327)) (sl_q (show isW true z1 200 from isW_200)) (sl_q (show isW true z1 100 from isW_100)) (by decide) h6.2.1 g2 l3) mw_X6_copyFrom lk_X7_74 ⟨Nat.le_of_ble_eq_true rfl, Nat.le_of_ble_eq_true rfl⟩ (by decide) (by decide) rfl rfl (Nat.le_of_ble_eq_true rfl) ⟨Nat.le_of_ble_eq_true rfl, Nat.le_of_ble_eq_true rfl⟩ rfl ?_
        show Sim X (YC ad true z1) 95 [(0, .ref (ad 200)), (1, .ref (ad 100)), (2, .int (nI 6))] [] (up2 I2 203 3 (nI (gN (m 327)))) J2 (va_up A2 205 (va_cpy (A2 105) (A2 205) 0 0 (gN (m 327)))) (va_up B2 204 (va_cpy (B2 104) (B2 204) 0 0 (gN (m 327)))) 0 0
        refine S_n g 1 (pc' := 96) (lv' := [(0, .ref (ad 200)), (1, .ref (ad 100)), (2, .int (nI 6))]) (st' := [.ref (ad 200)]) rfl ?_
        refine S_getR g (i := 200) (c := 7) (k := 3) (j := 206) (by decide) (by decide) rfl rfl rfl fl_X7_30 rfl ?_
        refine S_n g 1 (pc' := 100) (lv' := [(0, .ref (ad 200)), (1, .ref (ad 100)), (2, .int (nI 6))]) (st' := [.ref (ad 100), .ref (ad 206)]) rfl ?_
        refine S_getR g (i := 100) (c := 7) (k := 3) (j := 106) (by decide) (by decide) rfl rfl rfl fl_X7_30 rfl ?_
        refine S_cV g (i := 206) (As := [.ref (ad 106)]) (st := []) (sl_copyFrom ad true z1 (up2 I2 203 3 (nI (gN (m 327)))) J2 (va_up A2 205 (va_cpy (A2 105) (A2 205) 0 0 (gN (m 327)))) (va_up B2 204 (va_cpy (B2 104) (B2 204) 0 0 (gN (m 327)))) 206 106 100 (gN (m 428)) (sl_h (show isW true z1 200 from isW_200)) (sl_h (show isW true z1 100 from isW_100)) (by decide) ((u2j (Or.inl (by decide))).trans h7.2.1) g3 ((u2j (Or.inl (by decide))).trans l6)) mw_X6_copyFrom lk_X7_74 ⟨Nat.le_of_ble_eq_true rfl, Nat.le_of_ble_eq_true rfl⟩ (by decide) (by decide) rfl rfl (Nat.le_of_ble_eq_true rfl) ⟨Nat.le_of_ble_eq_true rfl, Nat.le_of_ble_eq_true rfl⟩ rfl ?_
        show Sim X (YC ad true z1) 106 [(0, .ref (ad 200)), (1, .ref (ad 100)), (2, .int (nI 6))] [] (up2 (up2 I2 203 3 (nI (gN (m 327)))) 206 3 (nI (gN (m 428)))) J2 (va_up (va_up A2 205 (va_cpy (A2 105) (A2 205) 0 0 (gN (m 327)))) 208 (va_cpy (A2 108) (A2 208) 0 0 (gN (m 428)))) (va_up (va_up B2 204 (va_cpy (B2 104) (B2 204) 0 0 (gN (m 327)))) 207 (va_cpy (B2 107) (B2 207) 0 0 (gN (m 428)))) 0 0
        refine S_n g 1 (pc' := 107) (lv' := [(0, .ref (ad 200)), (1, .ref (ad 100)), (2, .int (nI 6))]) (st' := [.ref (ad 200)]) rfl ?_
        refine S_getR g (i := 200) (c := 7) (k := 4) (j := 209) (by decide) (by decide) rfl rfl rfl fl_X7_36 rfl ?_
        refine S_n g 1 (pc' := 111) (lv' := [(0, .ref (ad 200)), (1, .ref (ad 100)), (2, .int (nI 6))]) (st' := [.ref (ad 100), .ref (ad 209)]) rfl ?_
        refine S_getR g (i := 100) (c := 7) (k := 4) (j := 109) (by decide) (by decide) rfl rfl rfl fl_X7_36 rfl ?_
        refine S_cV g (i := 209) (As := [.ref (ad 109)]) (st := []) (pl_copy_s0 ad z1 (up2 (up2 I2 203 3 (nI (gN (m 327)))) 206 3 (nI (gN (m 428)))) J2 (va_up (va_up A2 205 (va_cpy (A2 105) (A2 205) 0 0 (gN (m 327)))) 208 (va_cpy (A2 108) (A2 208) 0 0 (gN (m 428)))) (va_up (va_up B2 204 (va_cpy (B2 104) (B2 204) 0 0 (gN (m 327)))) 207 (va_cpy (B2 107) (B2 207) 0 0 (gN (m 428)))) (gN (m 529)) ((u2j (Or.inl (by decide))).trans ((u2j (Or.inl (by decide))).trans h8.1)) g4) mw_X3_copyFrom lk_X7_77 ⟨Nat.le_of_ble_eq_true rfl, Nat.le_of_ble_eq_true rfl⟩ (by decide) (by decide) rfl rfl (Nat.le_of_ble_eq_true rfl) ⟨Nat.le_of_ble_eq_true rfl, Nat.le_of_ble_eq_true rfl⟩ rfl ?_
        show Sim X (YC ad true z1) 117 [(0, .ref (ad 200)), (1, .ref (ad 100)), (2, .int (nI 6))] [] (up2 (up2 (up2 I2 203 3 (nI (gN (m 327)))) 206 3 (nI (gN (m 428)))) 209 3 (nI (gN (m 529)))) J2 (va_up (va_up (va_up (va_up (va_up A2 205 (va_cpy (A2 105) (A2 205) 0 0 (gN (m 327)))) 208 (va_cpy (A2 108) (A2 208) 0 0 (gN (m 428)))) 210 (va_cpy (A2 110) (A2 210) 0 0 (gN (m 529)))) 211 (va_cpy (A2 111) (A2 211) 0 0 (gN (m 529)))) 212 (va_cpy (A2 112) (A2 212) 0 0 (gN (m 529)))) (va_up (va_up B2 204 (va_cpy (B2 104) (B2 204) 0 0 (gN (m 327)))) 207 (va_cpy (B2 107) (B2 207) 0 0 (gN (m 428)))) 0 0
        obtain ⟨I4, hI4⟩ : ∃ I4 : FI, I4 = up2 (up2 (up2 I2 203 3 (nI (gN (m 327)))) 206 3 (nI (gN (m 428)))) 209 3 (nI (gN (m 529))) := ⟨_, rfl⟩
        obtain ⟨A4, hA4⟩ : ∃ A4 : FI, A4 = va_up (va_up (va_up (va_up (va_up A2 205 (va_cpy (A2 105) (A2 205) 0 0 (gN (m 327)))) 208 (va_cpy (A2 108) (A2 208) 0 0 (gN (m 428)))) 210 (va_cpy (A2 110) (A2 210) 0 0 (gN (m 529)))) 211 (va_cpy (A2 111) (A2 211) 0 0 (gN (m 529)))) 212 (va_cpy (A2 112) (A2 212) 0 0 (gN (m 529))) := ⟨_, rfl⟩
        obtain ⟨B4, hB4⟩ : ∃ B4 : FJ, B4 = va_up (va_up B2 204 (va_cpy (B2 104) (B2 204) 0 0 (gN (m 327)))) 207 (va_cpy (B2 107) (B2 207) 0 0 (gN (m 428))) := ⟨_, rfl⟩
        rw [← hI4, ← hA4, ← hB4]
        show Sim X (YC ad true z1) 117 [(0, .ref (ad 200)), (1, .ref (ad 100)), (2, .int (nI 6))] [] I4 J2 A4 B4 0 0
        have kI : ∀ i, i ≠ 203 → i ≠ 206 → i ≠ 209 → I4 i = I2 i := fun i x y z => by rw [hI4, u2r z, u2r y, u2r x]
        have kA : ∀ i, i ≠ 205 → i ≠ 208 → i ≠ 210 → i ≠ 211 → i ≠ 212 → A4 i = A2 i := fun i x y z p q => by rw [hA4, va_up_ne _ _ q, va_up_ne _ _ p, va_up_ne _ _ z, va_up_ne _ _ y, va_up_ne _ _ x]
        have kB : ∀ i, i ≠ 204 → i ≠ 207 → B4 i = B2 i := fun i x y => by rw [hB4, va_up_ne _ _ y, va_up_ne _ _ x]
        refine rtV rt rfl rfl ⟨rfl, rfl, ⟨?_, ?_, ?_, ?_, ?_, ?_, ?_, ?_, ?_⟩, fun i hi => ?_⟩
        · exact r0_h hb0 (fun k _ => by rw [kI _ (by decide) (by decide) (by decide), (hk2 200 (by omega)).1])
        · exact r1_h hb1 (by rw [kI _ (by decide) (by decide) (by decide), (hk2 200 (by omega)).1])
        · exact r2_h hb2 (by rw [kA _ (by decide) (by decide) (by decide) (by decide) (by decide), (hk2 (200 + 1) (by omega)).2.2.1])
        · intro v hv; rw [kI _ (by omega) (by omega) (by omega)]; exact (hmr v hv).1
        · intro v hv; rw [kI _ (by omega) (by omega) (by omega), kB _ (by omega) (by omega)]; exact (hmr v hv).2.1
        · intro v hv; rw [kA _ (by omega) (by omega) (by omega) (by omega) (by omega)]; exact (hmr v hv).2.2
        · refine ⟨?_, by rw [hI4]; rfl, fun k hk => ?_⟩
          · rw [hI4]; exact l3
          · show B4 204 k = _
            rw [hB4, show (va_up (va_up B2 204 (va_cpy (B2 104) (B2 204) 0 0 (gN (m 327)))) 207 (va_cpy (B2 107) (B2 207) 0 0 (gN (m 428)))) 204 = va_cpy (B2 104) (B2 204) 0 0 (gN (m 327)) from rfl, cpy_0 hk]
            exact h6.2.2 k hk
        · refine ⟨?_, by rw [hI4]; rfl, fun k hk => ?_⟩
          · rw [hI4]; exact l6
          · show B4 207 k = _
            rw [hB4, show (va_up (va_up B2 204 (va_cpy (B2 104) (B2 204) 0 0 (gN (m 327)))) 207 (va_cpy (B2 107) (B2 207) 0 0 (gN (m 428)))) 207 = va_cpy (B2 107) (B2 207) 0 0 (gN (m 428)) from rfl, cpy_0 hk]
            exact h7.2.2 k hk
        · refine ⟨by rw [hI4]; rfl, fun k hk => ⟨?_, ?_, ?_⟩⟩
          · show A4 210 k = _
            rw [hA4, show (va_up (va_up (va_up (va_up (va_up A2 205 (va_cpy (A2 105) (A2 205) 0 0 (gN (m 327)))) 208 (va_cpy (A2 108) (A2 208) 0 0 (gN (m 428)))) 210 (va_cpy (A2 110) (A2 210) 0 0 (gN (m 529)))) 211 (va_cpy (A2 111) (A2 211) 0 0 (gN (m 529)))) 212 (va_cpy (A2 112) (A2 212) 0 0 (gN (m 529)))) 210 = va_cpy (A2 110) (A2 210) 0 0 (gN (m 529)) from rfl, cpy_0 hk]
            exact (h8.2 k hk).1
          · show A4 211 k = _
            rw [hA4, show (va_up (va_up (va_up (va_up (va_up A2 205 (va_cpy (A2 105) (A2 205) 0 0 (gN (m 327)))) 208 (va_cpy (A2 108) (A2 208) 0 0 (gN (m 428)))) 210 (va_cpy (A2 110) (A2 210) 0 0 (gN (m 529)))) 211 (va_cpy (A2 111) (A2 211) 0 0 (gN (m 529)))) 212 (va_cpy (A2 112) (A2 212) 0 0 (gN (m 529)))) 211 = va_cpy (A2 111) (A2 211) 0 0 (gN (m 529)) from rfl, cpy_0 hk]
            exact (h8.2 k hk).2.1
          · show A4 212 k = _
            rw [hA4, show (va_up (va_up (va_up (va_up (va_up A2 205 (va_cpy (A2 105) (A2 205) 0 0 (gN (m 327)))) 208 (va_cpy (A2 108) (A2 208) 0 0 (gN (m 428)))) 210 (va_cpy (A2 110) (A2 210) 0 0 (gN (m 529)))) 211 (va_cpy (A2 111) (A2 211) 0 0 (gN (m 529)))) 212 (va_cpy (A2 112) (A2 212) 0 0 (gN (m 529)))) 212 = va_cpy (A2 112) (A2 212) 0 0 (gN (m 529)) from rfl, cpy_0 hk]
            exact (h8.2 k hk).2.2
        · rw [kI i (by omega) (by omega) (by omega), kA i (by omega) (by omega) (by omega) (by omega) (by omega), kB i (by omega) (by omega)]; exact ⟨(hk2 i (by omega)).1.trans (hk1 i hi).1, (hk2 i (by omega)).2.1.trans (hk1 i hi).2.1, (hk2 i (by omega)).2.2.1.trans (hk1 i hi).2.2.1, (hk2 i (by omega)).2.2.2.trans (hk1 i hi).2.2.2⟩
      · skip
        have hu : u < 6 := by omega
        have h4o := hRo2.2.2.2.2.1 u hu
        have h3o := hRo2.2.2.2.1 u hu
        have h5o := hRo2.2.2.2.2.2.1 u hu
        have hlu : I2 (220 + 4 * u + 1) 2 = nI 40 := hlm u hu
        refine S_n g 1 (pc' := 64) (lv' := [(0, .ref (ad 200)), (1, .ref (ad 100)), (2, .int (nI u))]) (st' := [.ref (ad 200)]) rfl ?_
        refine S_getR g (i := 200) (c := 7) (k := 1) (j := 202) (by decide) (by decide) rfl rfl rfl fl_X7_17 rfl ?_
        refine S_n g 1 (pc' := 68) (lv' := [(0, .ref (ad 200)), (1, .ref (ad 100)), (2, .int (nI u))]) (st' := [.int (nI u), .ref (ad 202)]) rfl ?_
        refine S_aaldN g (i := 202) (e := u) (j := 220 + 4 * u) (by decide) rfl (show u < 6 from by omega) (show (6 : Nat) < 2 ^ 31 from by decide) rfl rfl ?_
        refine S_n g 1 (pc' := 70) (lv' := [(0, .ref (ad 200)), (1, .ref (ad 100)), (2, .int (nI u))]) (st' := [.ref (ad 100), .ref (ad (220 + 4 * u))]) rfl ?_
        refine S_getR g (i := 100) (c := 7) (k := 1) (j := 102) (by decide) (by decide) rfl rfl rfl fl_X7_17 rfl ?_
        refine S_n g 1 (pc' := 74) (lv' := [(0, .ref (ad 200)), (1, .ref (ad 100)), (2, .int (nI u))]) (st' := [.int (nI u), .ref (ad 102), .ref (ad (220 + 4 * u))]) rfl ?_
        refine S_aaldN g (i := 102) (e := u) (j := 120 + 4 * u) (by decide) rfl (show u < 6 from by omega) (show (6 : Nat) < 2 ^ 31 from by decide) rfl rfl ?_
        refine S_callV g (i := 220 + 4 * u) (As := [.ref (ad (120 + 4 * u))]) (st := []) (mb_copy_s0 ad z1 I2 J2 A2 B2 u (lnG m u) hu h4o.2.1 (g5 u hu) hlu) mw_X2_copyFrom lk_X7_70 ⟨Nat.le_of_ble_eq_true rfl, Nat.le_of_ble_eq_true rfl⟩ (by omega) (by decide) (mb_u (ad := ad) (show isW true z1 200 from isW_200) hu).1 rfl (Nat.le_of_ble_eq_true rfl) ⟨Nat.le_of_ble_eq_true rfl, Nat.le_of_ble_eq_true rfl⟩ rfl (fun v' Y' I3 J3 A3 B3 hpo => ?_)
        obtain ⟨rfl, rfl, e1, e2, e3, e4⟩ := hpo
        show Sim X (YC ad true z1) 78 [(0, .ref (ad 200)), (1, .ref (ad 100)), (2, .int (nI u))] [] I3 J3 A3 B3 0 0
        have hk3 : ∀ i, i < 220 + 4 * u ∨ 224 + 4 * u ≤ i → I3 i = I2 i ∧ J3 i = J2 i ∧ A3 i = A2 i ∧ B3 i = B2 i := fun i hi => ⟨by rw [e1, u2r (by omega), u2r (by omega)], by rw [e2, u2r (by omega)], by rw [e3, va_up_ne _ _ (by omega)], by rw [e4, va_up_ne _ _ (by omega)]⟩
        have hmu : mR 200 m u I3 J3 A3 B3 := by
          show (J3 (220 + 4 * u) 1 = m (63 + u) ∧ I3 (220 + 4 * u) 2 = (m (69 + u)).toInt32) ∧ (I3 (220 + 4 * u + 1) 2 = nI 40 ∧ I3 (220 + 4 * u + 1) 3 = nI (lnG m u) ∧ ∀ k, k < lnG m u → B3 (220 + 4 * u + 1 + 1) k = m (87 + 40 * u + k)) ∧ ∀ k, k < lnG m u → A3 (220 + 4 * u + 1 + 2) k = cnX (fun p => (m (3 + p)).toInt32) (m (87 + 40 * u + k)) (12 * gN (m 0))
          rw [e1, e2, e3, e4]
          refine ⟨⟨(up2_same _ _ _ _).trans h3o.1, (up2_same _ _ _ _).trans h3o.2⟩, ⟨(u2j (Or.inl (by omega))).trans ((u2j (Or.inr (by decide))).trans hlu), (u2j (Or.inl (by omega))).trans (up2_same _ _ _ _), fun k hk => ?_⟩, fun k hk => ?_⟩
          · rw [va_up_self, cpy_0 hk]; exact h4o.2.2 k hk
          · rw [va_up_self, cpy_0 hk]; exact h5o k hk
        refine S_n g 1 (pc' := 81) (lv' := [(0, .ref (ad 200)), (1, .ref (ad 100)), (2, .int ((nI u) + nI 1))]) (st' := []) rfl ?_
        rw [nI_add u 1]
        refine S_n g 1 (pc' := 57) (lv' := [(0, .ref (ad 200)), (1, .ref (ad 100)), (2, .int (nI (u + 1)))]) (st' := []) rfl ?_
        exact lp (6 - (u + 1)) (by omega) (u + 1) I3 J3 A3 B3 rfl (by omega) (RepW_frb hRo2 (fun i a c => hk3 i (by omega))) (fun i hi => ⟨(hk3 i (by omega)).1.trans (hk2 i hi).1, (hk3 i (by omega)).2.1.trans (hk2 i hi).2.1, (hk3 i (by omega)).2.2.1.trans (hk2 i hi).2.2.1, (hk3 i (by omega)).2.2.2.trans (hk2 i hi).2.2.2⟩) (fun v hv => by by_cases e : v = u; (· subst e; exact hmu.2.1.1); (· rw [(hk3 _ (by omega)).1]; exact hlm v hv)) (fun v hv => by by_cases e : v = u; (· subst e; exact hmu); (· exact mR_fr (hmr v (by omega)) (fun i a c => hk3 i (by omega))))
  exact lp _ 0 I1 J A1 B rfl (Nat.zero_le _) hRo (fun i hi => ⟨rfl, rfl, rfl, rfl⟩) (fun v hv => by rw [kI1 _ (by omega)]; exact hL.2.2 v hv) (fun v hv => absurd hv (Nat.not_lt_zero v))

set_option maxRecDepth 100000 in
set_option maxHeartbeats 4000000 in
theorem mb_copy_s1 (ad : Nat → Nat) (z0 : Bool) (I : FI) (J : FJ) (A : FI) (B : FJ) (u n : Nat) (hu : u < 6) (hS : I (120 + 4 * u + 1) 3 = nI n) (hn : n ≤ 40) (hLm : I (320 + 4 * u + 1) 2 = nI 40) : Spec M_X2_copyFrom [.ref (ad (320 + 4 * u)), .ref (ad (120 + 4 * u))] (YC ad z0 true) I J A B (eqP none (YC ad z0 true) (up2 (up2 I (320 + 4 * u + 1) 3 (nI n)) (320 + 4 * u) 2 (I (120 + 4 * u) 2)) (up2 J (320 + 4 * u) 1 (J (120 + 4 * u) 1)) (va_up A (320 + 4 * u + 1 + 2) (va_cpy (A (120 + 4 * u + 1 + 2)) (A (320 + 4 * u + 1 + 2)) 0 0 n)) (va_up B (320 + 4 * u + 1 + 1) (va_cpy (B (120 + 4 * u + 1 + 1)) (B (320 + 4 * u + 1 + 1)) 0 0 n))) := by
  have hmb := mb_u (ad := ad) (show isW z0 true 300 from isW_300) hu
  have hmo := mb_u (ad := ad) (show isW z0 true 100 from isW_100) hu
  refine Spec_of (by decide) tk_X2_copyFrom (Nat.le_of_ble_eq_true rfl) (fun X g rt => ?_)
  show Sim X (YC ad z0 true) 0 [(0, .ref (ad (320 + 4 * u))), (1, .ref (ad (120 + 4 * u)))] [] I J A B 0 0
  refine S_n g 1 (pc' := 1) (lv' := [(0, .ref (ad (320 + 4 * u))), (1, .ref (ad (120 + 4 * u)))]) (st' := [.ref (ad (320 + 4 * u))]) rfl ?_
  refine S_getR g (i := 320 + 4 * u) (c := 2) (k := 0) (j := 320 + 4 * u + 1) (by omega) (by decide) (mb_u (ad := ad) (show isW z0 true 300 from isW_300) hu).1 rfl (mb_u (ad := ad) (show isW z0 true 300 from isW_300) hu).2.1 fl_X2_14 rfl ?_
  refine S_n g 1 (pc' := 5) (lv' := [(0, .ref (ad (320 + 4 * u))), (1, .ref (ad (120 + 4 * u)))]) (st' := [.ref (ad (120 + 4 * u)), .ref (ad (320 + 4 * u + 1))]) rfl ?_
  refine S_getR g (i := 120 + 4 * u) (c := 2) (k := 0) (j := 120 + 4 * u + 1) (by omega) (by decide) (mb_u (ad := ad) (show isW z0 true 100 from isW_100) hu).1 rfl (mb_u (ad := ad) (show isW z0 true 100 from isW_100) hu).2.1 fl_X2_14 rfl ?_
  refine S_cV g (i := 320 + 4 * u + 1) (As := [.ref (ad (120 + 4 * u + 1))]) (st := []) (sl_copyFrom ad z0 true I J A B (320 + 4 * u + 1) (120 + 4 * u + 1) 40 n hmb.2.2 hmo.2.2 (by decide) hS hn hLm) mw_X6_copyFrom lk_X2_44 ⟨Nat.le_of_ble_eq_true rfl, Nat.le_of_ble_eq_true rfl⟩ (by omega) (by decide) (mb_u (ad := ad) (show isW z0 true 300 from isW_300) hu).2.2.2.1 rfl (Nat.le_of_ble_eq_true rfl) ⟨Nat.le_of_ble_eq_true rfl, Nat.le_of_ble_eq_true rfl⟩ rfl ?_
  show Sim X (YC ad z0 true) 11 [(0, .ref (ad (320 + 4 * u))), (1, .ref (ad (120 + 4 * u)))] [] (up2 I (320 + 4 * u + 1) 3 (nI n)) J (va_up A (320 + 4 * u + 1 + 2) (va_cpy (A (120 + 4 * u + 1 + 2)) (A (320 + 4 * u + 1 + 2)) 0 0 n)) (va_up B (320 + 4 * u + 1 + 1) (va_cpy (B (120 + 4 * u + 1 + 1)) (B (320 + 4 * u + 1 + 1)) 0 0 n)) 0 0
  refine S_n g 2 (pc' := 13) (lv' := [(0, .ref (ad (320 + 4 * u))), (1, .ref (ad (120 + 4 * u)))]) (st' := [.ref (ad (120 + 4 * u)), .ref (ad (320 + 4 * u))]) rfl ?_
  refine S_getJ g (i := 120 + 4 * u) (c := 2) (k := 1) (by omega) (by decide) (mb_u (ad := ad) (show isW z0 true 100 from isW_100) hu).1 rfl fl_X2_24 rfl ?_
  refine S_putJ g (i := 320 + 4 * u) (c := 2) (k := 1) (by omega) (by decide) (mb_u (ad := ad) (show isW z0 true 300 from isW_300) hu).1 rfl fw_X2_24 rfl ?_
  refine S_n g 2 (pc' := 21) (lv' := [(0, .ref (ad (320 + 4 * u))), (1, .ref (ad (120 + 4 * u)))]) (st' := [.ref (ad (120 + 4 * u)), .ref (ad (320 + 4 * u))]) rfl ?_
  refine S_getI g (i := 120 + 4 * u) (c := 2) (k := 2) (by omega) (by decide) (mb_u (ad := ad) (show isW z0 true 100 from isW_100) hu).1 rfl fl_X2_28 rfl ?_
  rw [up2_ne _ _ _ _ (show 120 + 4 * u ≠ 320 + 4 * u + 1 from (by omega))]
  refine S_putI g (i := 320 + 4 * u) (c := 2) (k := 2) (kd := 0) (by omega) (by decide) (mb_u (ad := ad) (show isW z0 true 300 from isW_300) hu).1 rfl (by decide) fw_X2_28 rfl rfl rfl ?_
  exact rtV rt rfl rfl eqP_rf

set_option maxRecDepth 100000 in
set_option maxHeartbeats 4000000 in
theorem pl_copy_s1 (ad : Nat → Nat) (z0 : Bool) (I : FI) (J : FJ) (A : FI) (B : FJ) (n : Nat) (hS : I 109 3 = nI n) (hn : n ≤ 30) : Spec M_X3_copyFrom [.ref (ad 309), .ref (ad 109)] (YC ad z0 true) I J A B (eqP none (YC ad z0 true) (up2 I 309 3 (nI n)) J (va_up (va_up (va_up A 310 (va_cpy (A 110) (A 310) 0 0 n)) 311 (va_cpy (A 111) (A 311) 0 0 n)) 312 (va_cpy (A 112) (A 312) 0 0 n)) B) := by
  refine Spec_of (by decide) tk_X3_copyFrom (Nat.le_of_ble_eq_true rfl) (fun X g rt => ?_)
  show Sim X (YC ad z0 true) 0 [(0, .ref (ad 309)), (1, .ref (ad 109))] [] I J A B 0 0
  refine S_n g 2 (pc' := 2) (lv' := [(0, .ref (ad 309)), (1, .ref (ad 109))]) (st' := [.ref (ad 109), .ref (ad 309)]) rfl ?_
  refine S_getI g (i := 109) (c := 3) (k := 3) (by decide) (by decide) rfl rfl fl_X3_21 rfl ?_
  rw [hS]
  refine S_putI g (i := 309) (c := 3) (k := 3) (kd := 0) (by decide) (by decide) rfl rfl (by decide) fw_X3_21 rfl rfl rfl ?_
  refine S_n g 1 (pc' := 9) (lv' := [(0, .ref (ad 309)), (1, .ref (ad 109))]) (st' := [.ref (ad 109)]) rfl ?_
  refine S_getR g (i := 109) (c := 3) (k := 0) (j := 110) (by decide) (by decide) rfl rfl rfl fl_X3_9 rfl ?_
  refine S_n g 2 (pc' := 14) (lv' := [(0, .ref (ad 309)), (1, .ref (ad 109))]) (st' := [.ref (ad 309), .int (nI 0), .ref (ad 110)]) rfl ?_
  refine S_getR g (i := 309) (c := 3) (k := 0) (j := 310) (by decide) (by decide) rfl rfl rfl fl_X3_9 rfl ?_
  refine S_n g 2 (pc' := 19) (lv' := [(0, .ref (ad 309)), (1, .ref (ad 109))]) (st' := [.ref (ad 309), .int (nI 0), .ref (ad 310), .int (nI 0), .ref (ad 110)]) rfl ?_
  refine S_getI g (i := 309) (c := 3) (k := 3) (by decide) (by decide) rfl rfl fl_X3_21 rfl ?_
  show Sim X (YC ad z0 true) 22 [(0, .ref (ad 309)), (1, .ref (ad 109))] [.int (nI n), .int (nI 0), .ref (ad 310), .int (nI 0), .ref (ad 110)] (up2 I 309 3 (nI n)) J A B 0 0
  refine S_copyi g (i := 110) (j := 310) (by decide) rfl (by decide) rfl lc_X3_25 ac_nat ac_stat ac_ini (nI_pos (by omega)) (nI_pos (by omega)) (nI_pos (by omega)) (by rw [nI_clamp (n := 0) (by omega), nI_clamp (n := n) (by omega)]; exact (show (0) + (n) ≤ 30 from by omega)) (by rw [nI_clamp (n := 0) (by omega), nI_clamp (n := n) (by omega)]; exact (show (0) + (n) ≤ 30 from by omega)) (Nat.le_of_ble_eq_true rfl) (Nat.le_of_ble_eq_true rfl) rfl ?_
  rw [nI_clamp (n := 0) (by omega), nI_clamp (n := n) (by omega)]
  show Sim X (YC ad z0 true) 25 [(0, .ref (ad 309)), (1, .ref (ad 109))] [] (up2 I 309 3 (nI n)) J (va_up A 310 (va_cpy (A 110) (A 310) 0 0 n)) B 0 0
  refine S_n g 1 (pc' := 26) (lv' := [(0, .ref (ad 309)), (1, .ref (ad 109))]) (st' := [.ref (ad 109)]) rfl ?_
  refine S_getR g (i := 109) (c := 3) (k := 1) (j := 111) (by decide) (by decide) rfl rfl rfl fl_X3_15 rfl ?_
  refine S_n g 2 (pc' := 31) (lv' := [(0, .ref (ad 309)), (1, .ref (ad 109))]) (st' := [.ref (ad 309), .int (nI 0), .ref (ad 111)]) rfl ?_
  refine S_getR g (i := 309) (c := 3) (k := 1) (j := 311) (by decide) (by decide) rfl rfl rfl fl_X3_15 rfl ?_
  refine S_n g 2 (pc' := 36) (lv' := [(0, .ref (ad 309)), (1, .ref (ad 109))]) (st' := [.ref (ad 309), .int (nI 0), .ref (ad 311), .int (nI 0), .ref (ad 111)]) rfl ?_
  refine S_getI g (i := 309) (c := 3) (k := 3) (by decide) (by decide) rfl rfl fl_X3_21 rfl ?_
  show Sim X (YC ad z0 true) 39 [(0, .ref (ad 309)), (1, .ref (ad 109))] [.int (nI n), .int (nI 0), .ref (ad 311), .int (nI 0), .ref (ad 111)] (up2 I 309 3 (nI n)) J (va_up A 310 (va_cpy (A 110) (A 310) 0 0 n)) B 0 0
  refine S_copyi g (i := 111) (j := 311) (by decide) rfl (by decide) rfl lc_X3_25 ac_nat ac_stat ac_ini (nI_pos (by omega)) (nI_pos (by omega)) (nI_pos (by omega)) (by rw [nI_clamp (n := 0) (by omega), nI_clamp (n := n) (by omega)]; exact (show (0) + (n) ≤ 30 from by omega)) (by rw [nI_clamp (n := 0) (by omega), nI_clamp (n := n) (by omega)]; exact (show (0) + (n) ≤ 30 from by omega)) (Nat.le_of_ble_eq_true rfl) (Nat.le_of_ble_eq_true rfl) rfl ?_
  rw [nI_clamp (n := 0) (by omega), nI_clamp (n := n) (by omega)]
  show Sim X (YC ad z0 true) 42 [(0, .ref (ad 309)), (1, .ref (ad 109))] [] (up2 I 309 3 (nI n)) J (va_up (va_up A 310 (va_cpy (A 110) (A 310) 0 0 n)) 311 (va_cpy (A 111) (A 311) 0 0 n)) B 0 0
  refine S_n g 1 (pc' := 43) (lv' := [(0, .ref (ad 309)), (1, .ref (ad 109))]) (st' := [.ref (ad 109)]) rfl ?_
  refine S_getR g (i := 109) (c := 3) (k := 2) (j := 112) (by decide) (by decide) rfl rfl rfl fl_X3_18 rfl ?_
  refine S_n g 2 (pc' := 48) (lv' := [(0, .ref (ad 309)), (1, .ref (ad 109))]) (st' := [.ref (ad 309), .int (nI 0), .ref (ad 112)]) rfl ?_
  refine S_getR g (i := 309) (c := 3) (k := 2) (j := 312) (by decide) (by decide) rfl rfl rfl fl_X3_18 rfl ?_
  refine S_n g 2 (pc' := 53) (lv' := [(0, .ref (ad 309)), (1, .ref (ad 109))]) (st' := [.ref (ad 309), .int (nI 0), .ref (ad 312), .int (nI 0), .ref (ad 112)]) rfl ?_
  refine S_getI g (i := 309) (c := 3) (k := 3) (by decide) (by decide) rfl rfl fl_X3_21 rfl ?_
  show Sim X (YC ad z0 true) 56 [(0, .ref (ad 309)), (1, .ref (ad 109))] [.int (nI n), .int (nI 0), .ref (ad 312), .int (nI 0), .ref (ad 112)] (up2 I 309 3 (nI n)) J (va_up (va_up A 310 (va_cpy (A 110) (A 310) 0 0 n)) 311 (va_cpy (A 111) (A 311) 0 0 n)) B 0 0
  refine S_copyi g (i := 112) (j := 312) (by decide) rfl (by decide) rfl lc_X3_25 ac_nat ac_stat ac_ini (nI_pos (by omega)) (nI_pos (by omega)) (nI_pos (by omega)) (by rw [nI_clamp (n := 0) (by omega), nI_clamp (n := n) (by omega)]; exact (show (0) + (n) ≤ 30 from by omega)) (by rw [nI_clamp (n := 0) (by omega), nI_clamp (n := n) (by omega)]; exact (show (0) + (n) ≤ 30 from by omega)) (Nat.le_of_ble_eq_true rfl) (Nat.le_of_ble_eq_true rfl) rfl ?_
  rw [nI_clamp (n := 0) (by omega), nI_clamp (n := n) (by omega)]
  show Sim X (YC ad z0 true) 59 [(0, .ref (ad 309)), (1, .ref (ad 109))] [] (up2 I 309 3 (nI n)) J (va_up (va_up (va_up A 310 (va_cpy (A 110) (A 310) 0 0 n)) 311 (va_cpy (A 111) (A 311) 0 0 n)) 312 (va_cpy (A 112) (A 312) 0 0 n)) B 0 0
  exact rtV rt rfl rfl eqP_rf

set_option maxRecDepth 100000 in
set_option maxHeartbeats 4000000 in
theorem w_copy_s1 (ad : Nat → Nat) (z0 : Bool) (I : FI) (J : FJ) (A : FI) (B : FJ) (m : Nat → Int64) (hG : WG m) (hR : RepW 100 m I J A B) (hL : Lim 300 I) : Spec M_X7_copyFrom [.ref (ad 300), .ref (ad 100)] (YC ad z0 true) I J A B (fun v' Y' I' J' A' B' => v' = none ∧ Y' = YC ad z0 true ∧ RepW 300 m I' J' A' B' ∧ kpB 300 I J A B I' J' A' B') := by
  obtain ⟨g0, g1, g2, g3, g4, g5⟩ := WGn hG
  have hI5 := hR.1
  have hR0 := hR
  refine Spec_of (by decide) tk_X7_copyFrom (Nat.le_of_ble_eq_true rfl) (fun X g rt => ?_)
  show Sim X (YC ad z0 true) 0 [(0, .ref (ad 300)), (1, .ref (ad 100))] [] I J A B 0 0
  have i5 : I 100 5 = (m 0).toInt32 := hR.1.1
  have i6 : I 100 6 = (m 1).toInt32 := hR.1.2.1
  have i7 : I 100 7 = (m 2).toInt32 := hR.1.2.2.1
  have i9 : I 100 9 = (m 620).toInt32 := hR.1.2.2.2
  have i8 : I 100 8 = preS m (gN (m 1)) := hR.2.1
  refine S_n g 2 (pc' := 2) (lv' := [(0, .ref (ad 300)), (1, .ref (ad 100))]) (st' := [.ref (ad 100), .ref (ad 300)]) rfl ?_
  refine S_getI g (i := 100) (c := 7) (k := 5) (by decide) (by decide) rfl rfl fl_X7_41 rfl ?_
  rw [i5]
  refine S_putI g (i := 300) (c := 7) (k := 5) (kd := 0) (by decide) (by decide) rfl rfl (by decide) fw_X7_41 rfl rfl rfl ?_
  refine S_n g 2 (pc' := 10) (lv' := [(0, .ref (ad 300)), (1, .ref (ad 100))]) (st' := [.ref (ad 100), .ref (ad 300)]) rfl ?_
  refine S_getI g (i := 100) (c := 7) (k := 6) (by decide) (by decide) rfl rfl fl_X7_45 rfl ?_
  show Sim X (YC ad z0 true) 13 [(0, .ref (ad 300)), (1, .ref (ad 100))] [.int (I 100 6), .ref (ad 300)] (up2 I 300 5 (m 0).toInt32) J A B 0 0
  rw [i6]
  refine S_putI g (i := 300) (c := 7) (k := 6) (kd := 0) (by decide) (by decide) rfl rfl (by decide) fw_X7_45 rfl rfl rfl ?_
  refine S_n g 2 (pc' := 18) (lv' := [(0, .ref (ad 300)), (1, .ref (ad 100))]) (st' := [.ref (ad 100), .ref (ad 300)]) rfl ?_
  refine S_getI g (i := 100) (c := 7) (k := 7) (by decide) (by decide) rfl rfl fl_X7_48 rfl ?_
  show Sim X (YC ad z0 true) 21 [(0, .ref (ad 300)), (1, .ref (ad 100))] [.int (I 100 7), .ref (ad 300)] (up2 (up2 I 300 5 (m 0).toInt32) 300 6 (m 1).toInt32) J A B 0 0
  rw [i7]
  refine S_putI g (i := 300) (c := 7) (k := 7) (kd := 0) (by decide) (by decide) rfl rfl (by decide) fw_X7_48 rfl rfl rfl ?_
  refine S_n g 2 (pc' := 26) (lv' := [(0, .ref (ad 300)), (1, .ref (ad 100))]) (st' := [.ref (ad 100), .ref (ad 300)]) rfl ?_
  refine S_getI g (i := 100) (c := 7) (k := 8) (by decide) (by decide) rfl rfl fl_X7_51 rfl ?_
  show Sim X (YC ad z0 true) 29 [(0, .ref (ad 300)), (1, .ref (ad 100))] [.int (I 100 8), .ref (ad 300)] (up2 (up2 (up2 I 300 5 (m 0).toInt32) 300 6 (m 1).toInt32) 300 7 (m 2).toInt32) J A B 0 0
  rw [i8]
  refine S_putI g (i := 300) (c := 7) (k := 8) (kd := 0) (by decide) (by decide) rfl rfl (by decide) fw_X7_51 rfl rfl rfl ?_
  refine S_n g 2 (pc' := 34) (lv' := [(0, .ref (ad 300)), (1, .ref (ad 100))]) (st' := [.ref (ad 100), .ref (ad 300)]) rfl ?_
  refine S_getI g (i := 100) (c := 7) (k := 9) (by decide) (by decide) rfl rfl fl_X7_54 rfl ?_
  show Sim X (YC ad z0 true) 37 [(0, .ref (ad 300)), (1, .ref (ad 100))] [.int (I 100 9), .ref (ad 300)] (up2 (up2 (up2 (up2 I 300 5 (m 0).toInt32) 300 6 (m 1).toInt32) 300 7 (m 2).toInt32) 300 8 (preS m (gN (m 1)))) J A B 0 0
  rw [i9]
  refine S_putI g (i := 300) (c := 7) (k := 9) (kd := 0) (by decide) (by decide) rfl rfl (by decide) fw_X7_54 rfl rfl rfl ?_
  refine S_n g 1 (pc' := 41) (lv' := [(0, .ref (ad 300)), (1, .ref (ad 100))]) (st' := [.ref (ad 100)]) rfl ?_
  refine S_getR g (i := 100) (c := 7) (k := 0) (j := 101) (by decide) (by decide) rfl rfl rfl fl_X7_9 rfl ?_
  refine S_n g 2 (pc' := 46) (lv' := [(0, .ref (ad 300)), (1, .ref (ad 100))]) (st' := [.ref (ad 300), .int (nI 0), .ref (ad 101)]) rfl ?_
  refine S_getR g (i := 300) (c := 7) (k := 0) (j := 301) (by decide) (by decide) rfl rfl rfl fl_X7_9 rfl ?_
  refine S_n g 2 (pc' := 52) (lv' := [(0, .ref (ad 300)), (1, .ref (ad 100))]) (st' := [.int (nI 60), .int (nI 0), .ref (ad 301), .int (nI 0), .ref (ad 101)]) rfl ?_
  refine S_copyi g (i := 101) (j := 301) (by decide) rfl (by decide) rfl lc_X7_64 ac_nat ac_stat ac_ini (nI_pos (by omega)) (nI_pos (by omega)) (nI_pos (by omega)) (by rw [nI_clamp (n := 0) (by omega), nI_clamp (n := 60) (by omega)]; exact (show (0) + (60) ≤ 60 from by omega)) (by rw [nI_clamp (n := 0) (by omega), nI_clamp (n := 60) (by omega)]; exact (show (0) + (60) ≤ 60 from by omega)) (Nat.le_of_ble_eq_true rfl) (Nat.le_of_ble_eq_true rfl) rfl ?_
  rw [nI_clamp (n := 0) (by omega), nI_clamp (n := 60) (by omega)]
  show Sim X (YC ad z0 true) 55 [(0, .ref (ad 300)), (1, .ref (ad 100))] [] (up2 (up2 (up2 (up2 (up2 I 300 5 (m 0).toInt32) 300 6 (m 1).toInt32) 300 7 (m 2).toInt32) 300 8 (preS m (gN (m 1)))) 300 9 (m 620).toInt32) J (va_up A 301 (va_cpy (A 101) (A 301) 0 0 60)) B 0 0
  refine S_n g 2 (pc' := 57) (lv' := [(0, .ref (ad 300)), (1, .ref (ad 100)), (2, .int (nI 0))]) (st' := []) rfl ?_
  obtain ⟨I1, hI1⟩ : ∃ I1 : FI, I1 = up2 (up2 (up2 (up2 (up2 I 300 5 (m 0).toInt32) 300 6 (m 1).toInt32) 300 7 (m 2).toInt32) 300 8 (preS m (gN (m 1)))) 300 9 (m 620).toInt32 := ⟨_, rfl⟩
  obtain ⟨A1, hA1⟩ : ∃ A1 : FI, A1 = va_up A 301 (va_cpy (A 101) (A 301) 0 0 60) := ⟨_, rfl⟩
  rw [← hI1, ← hA1]
  show Sim X (YC ad z0 true) 57 [(0, .ref (ad 300)), (1, .ref (ad 100)), (2, .int (nI 0))] [] I1 J A1 B 0 0
  have kI1 : ∀ i, i ≠ 300 → I1 i = I i := fun i hi => by rw [hI1, u2r hi, u2r hi, u2r hi, u2r hi, u2r hi]
  have kA1 : ∀ i, i ≠ 301 → A1 i = A i := fun i hi => by rw [hA1, va_up_ne _ _ hi]
  have hb0 : r0w 300 m I1 J A1 B := by unfold r0w; rw [hI1]; exact ⟨rfl, rfl, rfl, rfl⟩
  have hb1 : r1w 300 m I1 J A1 B := by unfold r1w; rw [hI1]; rfl
  have hb2 : r2w 300 m I1 J A1 B := fun p hp => by rw [hA1, show va_up A 301 (va_cpy (A 101) (A 301) 0 0 60) (300 + 1) p = va_cpy (A 101) (A 301) 0 0 60 p from by rw [va_up_self], cpy_0 hp]; exact hR.2.2.1 p hp
  have hRo : RepW 100 m I1 J A1 B := RepW_frb hR (fun i a c => ⟨kI1 i (by omega), rfl, kA1 i (by omega), rfl⟩)
  have hk1 : kpB 300 I J A B I1 J A1 B := fun i hi => ⟨kI1 i (by omega), rfl, kA1 i (by omega), rfl⟩
  have lp : ∀ (nn : Nat) (u : Nat) (I2 : FI) (J2 : FJ) (A2 : FI) (B2 : FJ), 6 - u = nn → (u ≤ 6) → (RepW 100 m I2 J2 A2 B2) → (∀ i, i < 320 ∨ 344 ≤ i → I2 i = I1 i ∧ J2 i = J i ∧ A2 i = A1 i ∧ B2 i = B i) → (∀ v, v < 6 → I2 (300 + 20 + 4 * v + 1) 2 = nI 40) → (∀ v, v < u → mR 300 m v I2 J2 A2 B2) → Sim X (YC ad z0 true) 57 [(0, .ref (ad 300)), (1, .ref (ad 100)), (2, .int (nI u))] [] I2 J2 A2 B2 0 0 := by
    intro nn
    induction nn using Nat.strongRecOn with
    | ind nn ih =>
      intro u I2 J2 A2 B2 hmz hu0 hRo2 hk2 hlm hmr
      have lp := ih
      refine S_n g 2 (pc' := 60) (lv' := [(0, .ref (ad 300)), (1, .ref (ad 100)), (2, .int (nI u))]) (st' := [.int (nI 6), .int (nI u)]) rfl ?_
      refine S_icN_ge g (tgt := 84) (by omega) (by omega) rfl (by decide) (fun qz60 => ?_) (fun qz60 => ?_)
      · skip
        have hu9 : u = 6 := by omega
        subst hu9
        have h6 := hRo2.2.2.2.2.2.2.1
        have h7 := hRo2.2.2.2.2.2.2.2.1
        have h8 := hRo2.2.2.2.2.2.2.2.2
        have l3 : I2 303 2 = nI 100 := by rw [(hk2 303 (by omega)).1, kI1 _ (by decide)]; exact hL.1
        have l6 : I2 306 2 = nI 100 := by rw [(hk2 306 (by omega)).1, kI1 _ (by decide)]; exact hL.2.1
        refine S_n g 1 (pc' := 85) (lv' := [(0, .ref (ad 300)), (1, .ref (ad 100)), (2, .int (nI 6))]) (st' := [.ref (ad 300)]) rfl ?_
        refine S_getR g (i := 300) (c := 7) (k := 2) (j := 303) (by decide) (by decide) rfl rfl rfl fl_X7_26 rfl ?_
        refine S_n g 1 (pc' := 89) (lv' := [(0, .ref (ad 300)), (1, .ref (ad 100)), (2, .int (nI 6))]) (st' := [.ref (ad 100), .ref (ad 303)]) rfl ?_
        refine S_getR g (i := 100) (c := 7) (k := 2) (j := 103) (by decide) (by decide) rfl rfl rfl fl_X7_26 rfl ?_
        refine S_cV g (i := 303) (As := [.ref (ad 103)]) (st := []) (sl_copyFrom ad z0 true I2 J2 A2 B2 303 103 100 (gN (m 327)) (sl_q (show isW z0 true 300 from isW_300)) (sl_q (show isW z0 true 100 from isW_100)) (by decide) h6.2.1 g2 l3) mw_X6_copyFrom lk_X7_74 ⟨Nat.le_of_ble_eq_true rfl, Nat.le_of_ble_eq_true rfl⟩ (by decide) (by decide) rfl rfl (Nat.le_of_ble_eq_true rfl) ⟨Nat.le_of_ble_eq_true rfl, Nat.le_of_ble_eq_true rfl⟩ rfl ?_
        show Sim X (YC ad z0 true) 95 [(0, .ref (ad 300)), (1, .ref (ad 100)), (2, .int (nI 6))] [] (up2 I2 303 3 (nI (gN (m 327)))) J2 (va_up A2 305 (va_cpy (A2 105) (A2 305) 0 0 (gN (m 327)))) (va_up B2 304 (va_cpy (B2 104) (B2 304) 0 0 (gN (m 327)))) 0 0
        refine S_n g 1 (pc' := 96) (lv' := [(0, .ref (ad 300)), (1, .ref (ad 100)), (2, .int (nI 6))]) (st' := [.ref (ad 300)]) rfl ?_
        refine S_getR g (i := 300) (c := 7) (k := 3) (j := 306) (by decide) (by decide) rfl rfl rfl fl_X7_30 rfl ?_
        refine S_n g 1 (pc' := 100) (lv' := [(0, .ref (ad 300)), (1, .ref (ad 100)), (2, .int (nI 6))]) (st' := [.ref (ad 100), .ref (ad 306)]) rfl ?_
        refine S_getR g (i := 100) (c := 7) (k := 3) (j := 106) (by decide) (by decide) rfl rfl rfl fl_X7_30 rfl ?_
        refine S_cV g (i := 306) (As := [.ref (ad 106)]) (st := []) (sl_copyFrom ad z0 true (up2 I2 303 3 (nI (gN (m 327)))) J2 (va_up A2 305 (va_cpy (A2 105) (A2 305) 0 0 (gN (m 327)))) (va_up B2 304 (va_cpy (B2 104) (B2 304) 0 0 (gN (m 327)))) 306 106 100 (gN (m 428)) (sl_h (show isW z0 true 300 from isW_300)) (sl_h (show isW z0 true 100 from isW_100)) (by decide) ((u2j (Or.inl (by decide))).trans h7.2.1) g3 ((u2j (Or.inl (by decide))).trans l6)) mw_X6_copyFrom lk_X7_74 ⟨Nat.le_of_ble_eq_true rfl, Nat.le_of_ble_eq_true rfl⟩ (by decide) (by decide) rfl rfl (Nat.le_of_ble_eq_true rfl) ⟨Nat.le_of_ble_eq_true rfl, Nat.le_of_ble_eq_true rfl⟩ rfl ?_
        show Sim X (YC ad z0 true) 106 [(0, .ref (ad 300)), (1, .ref (ad 100)), (2, .int (nI 6))] [] (up2 (up2 I2 303 3 (nI (gN (m 327)))) 306 3 (nI (gN (m 428)))) J2 (va_up (va_up A2 305 (va_cpy (A2 105) (A2 305) 0 0 (gN (m 327)))) 308 (va_cpy (A2 108) (A2 308) 0 0 (gN (m 428)))) (va_up (va_up B2 304 (va_cpy (B2 104) (B2 304) 0 0 (gN (m 327)))) 307 (va_cpy (B2 107) (B2 307) 0 0 (gN (m 428)))) 0 0
        refine S_n g 1 (pc' := 107) (lv' := [(0, .ref (ad 300)), (1, .ref (ad 100)), (2, .int (nI 6))]) (st' := [.ref (ad 300)]) rfl ?_
        refine S_getR g (i := 300) (c := 7) (k := 4) (j := 309) (by decide) (by decide) rfl rfl rfl fl_X7_36 rfl ?_
        refine S_n g 1 (pc' := 111) (lv' := [(0, .ref (ad 300)), (1, .ref (ad 100)), (2, .int (nI 6))]) (st' := [.ref (ad 100), .ref (ad 309)]) rfl ?_
        refine S_getR g (i := 100) (c := 7) (k := 4) (j := 109) (by decide) (by decide) rfl rfl rfl fl_X7_36 rfl ?_
        refine S_cV g (i := 309) (As := [.ref (ad 109)]) (st := []) (pl_copy_s1 ad z0 (up2 (up2 I2 303 3 (nI (gN (m 327)))) 306 3 (nI (gN (m 428)))) J2 (va_up (va_up A2 305 (va_cpy (A2 105) (A2 305) 0 0 (gN (m 327)))) 308 (va_cpy (A2 108) (A2 308) 0 0 (gN (m 428)))) (va_up (va_up B2 304 (va_cpy (B2 104) (B2 304) 0 0 (gN (m 327)))) 307 (va_cpy (B2 107) (B2 307) 0 0 (gN (m 428)))) (gN (m 529)) ((u2j (Or.inl (by decide))).trans ((u2j (Or.inl (by decide))).trans h8.1)) g4) mw_X3_copyFrom lk_X7_77 ⟨Nat.le_of_ble_eq_true rfl, Nat.le_of_ble_eq_true rfl⟩ (by decide) (by decide) rfl rfl (Nat.le_of_ble_eq_true rfl) ⟨Nat.le_of_ble_eq_true rfl, Nat.le_of_ble_eq_true rfl⟩ rfl ?_
        show Sim X (YC ad z0 true) 117 [(0, .ref (ad 300)), (1, .ref (ad 100)), (2, .int (nI 6))] [] (up2 (up2 (up2 I2 303 3 (nI (gN (m 327)))) 306 3 (nI (gN (m 428)))) 309 3 (nI (gN (m 529)))) J2 (va_up (va_up (va_up (va_up (va_up A2 305 (va_cpy (A2 105) (A2 305) 0 0 (gN (m 327)))) 308 (va_cpy (A2 108) (A2 308) 0 0 (gN (m 428)))) 310 (va_cpy (A2 110) (A2 310) 0 0 (gN (m 529)))) 311 (va_cpy (A2 111) (A2 311) 0 0 (gN (m 529)))) 312 (va_cpy (A2 112) (A2 312) 0 0 (gN (m 529)))) (va_up (va_up B2 304 (va_cpy (B2 104) (B2 304) 0 0 (gN (m 327)))) 307 (va_cpy (B2 107) (B2 307) 0 0 (gN (m 428)))) 0 0
        obtain ⟨I4, hI4⟩ : ∃ I4 : FI, I4 = up2 (up2 (up2 I2 303 3 (nI (gN (m 327)))) 306 3 (nI (gN (m 428)))) 309 3 (nI (gN (m 529))) := ⟨_, rfl⟩
        obtain ⟨A4, hA4⟩ : ∃ A4 : FI, A4 = va_up (va_up (va_up (va_up (va_up A2 305 (va_cpy (A2 105) (A2 305) 0 0 (gN (m 327)))) 308 (va_cpy (A2 108) (A2 308) 0 0 (gN (m 428)))) 310 (va_cpy (A2 110) (A2 310) 0 0 (gN (m 529)))) 311 (va_cpy (A2 111) (A2 311) 0 0 (gN (m 529)))) 312 (va_cpy (A2 112) (A2 312) 0 0 (gN (m 529))) := ⟨_, rfl⟩
        obtain ⟨B4, hB4⟩ : ∃ B4 : FJ, B4 = va_up (va_up B2 304 (va_cpy (B2 104) (B2 304) 0 0 (gN (m 327)))) 307 (va_cpy (B2 107) (B2 307) 0 0 (gN (m 428))) := ⟨_, rfl⟩
        rw [← hI4, ← hA4, ← hB4]
        show Sim X (YC ad z0 true) 117 [(0, .ref (ad 300)), (1, .ref (ad 100)), (2, .int (nI 6))] [] I4 J2 A4 B4 0 0
        have kI : ∀ i, i ≠ 303 → i ≠ 306 → i ≠ 309 → I4 i = I2 i := fun i x y z => by rw [hI4, u2r z, u2r y, u2r x]
        have kA : ∀ i, i ≠ 305 → i ≠ 308 → i ≠ 310 → i ≠ 311 → i ≠ 312 → A4 i = A2 i := fun i x y z p q => by rw [hA4, va_up_ne _ _ q, va_up_ne _ _ p, va_up_ne _ _ z, va_up_ne _ _ y, va_up_ne _ _ x]
        have kB : ∀ i, i ≠ 304 → i ≠ 307 → B4 i = B2 i := fun i x y => by rw [hB4, va_up_ne _ _ y, va_up_ne _ _ x]
        refine rtV rt rfl rfl ⟨rfl, rfl, ⟨?_, ?_, ?_, ?_, ?_, ?_, ?_, ?_, ?_⟩, fun i hi => ?_⟩
        · exact r0_h hb0 (fun k _ => by rw [kI _ (by decide) (by decide) (by decide), (hk2 300 (by omega)).1])
        · exact r1_h hb1 (by rw [kI _ (by decide) (by decide) (by decide), (hk2 300 (by omega)).1])
        · exact r2_h hb2 (by rw [kA _ (by decide) (by decide) (by decide) (by decide) (by decide), (hk2 (300 + 1) (by omega)).2.2.1])
        · intro v hv; rw [kI _ (by omega) (by omega) (by omega)]; exact (hmr v hv).1
        · intro v hv; rw [kI _ (by omega) (by omega) (by omega), kB _ (by omega) (by omega)]; exact (hmr v hv).2.1
        · intro v hv; rw [kA _ (by omega) (by omega) (by omega) (by omega) (by omega)]; exact (hmr v hv).2.2
        · refine ⟨?_, by rw [hI4]; rfl, fun k hk => ?_⟩
          · rw [hI4]; exact l3
          · show B4 304 k = _
            rw [hB4, show (va_up (va_up B2 304 (va_cpy (B2 104) (B2 304) 0 0 (gN (m 327)))) 307 (va_cpy (B2 107) (B2 307) 0 0 (gN (m 428)))) 304 = va_cpy (B2 104) (B2 304) 0 0 (gN (m 327)) from rfl, cpy_0 hk]
            exact h6.2.2 k hk
        · refine ⟨?_, by rw [hI4]; rfl, fun k hk => ?_⟩
          · rw [hI4]; exact l6
          · show B4 307 k = _
            rw [hB4, show (va_up (va_up B2 304 (va_cpy (B2 104) (B2 304) 0 0 (gN (m 327)))) 307 (va_cpy (B2 107) (B2 307) 0 0 (gN (m 428)))) 307 = va_cpy (B2 107) (B2 307) 0 0 (gN (m 428)) from rfl, cpy_0 hk]
            exact h7.2.2 k hk
        · refine ⟨by rw [hI4]; rfl, fun k hk => ⟨?_, ?_, ?_⟩⟩
          · show A4 310 k = _
            rw [hA4, show (va_up (va_up (va_up (va_up (va_up A2 305 (va_cpy (A2 105) (A2 305) 0 0 (gN (m 327)))) 308 (va_cpy (A2 108) (A2 308) 0 0 (gN (m 428)))) 310 (va_cpy (A2 110) (A2 310) 0 0 (gN (m 529)))) 311 (va_cpy (A2 111) (A2 311) 0 0 (gN (m 529)))) 312 (va_cpy (A2 112) (A2 312) 0 0 (gN (m 529)))) 310 = va_cpy (A2 110) (A2 310) 0 0 (gN (m 529)) from rfl, cpy_0 hk]
            exact (h8.2 k hk).1
          · show A4 311 k = _
            rw [hA4, show (va_up (va_up (va_up (va_up (va_up A2 305 (va_cpy (A2 105) (A2 305) 0 0 (gN (m 327)))) 308 (va_cpy (A2 108) (A2 308) 0 0 (gN (m 428)))) 310 (va_cpy (A2 110) (A2 310) 0 0 (gN (m 529)))) 311 (va_cpy (A2 111) (A2 311) 0 0 (gN (m 529)))) 312 (va_cpy (A2 112) (A2 312) 0 0 (gN (m 529)))) 311 = va_cpy (A2 111) (A2 311) 0 0 (gN (m 529)) from rfl, cpy_0 hk]
            exact (h8.2 k hk).2.1
          · show A4 312 k = _
            rw [hA4, show (va_up (va_up (va_up (va_up (va_up A2 305 (va_cpy (A2 105) (A2 305) 0 0 (gN (m 327)))) 308 (va_cpy (A2 108) (A2 308) 0 0 (gN (m 428)))) 310 (va_cpy (A2 110) (A2 310) 0 0 (gN (m 529)))) 311 (va_cpy (A2 111) (A2 311) 0 0 (gN (m 529)))) 312 (va_cpy (A2 112) (A2 312) 0 0 (gN (m 529)))) 312 = va_cpy (A2 112) (A2 312) 0 0 (gN (m 529)) from rfl, cpy_0 hk]
            exact (h8.2 k hk).2.2
        · rw [kI i (by omega) (by omega) (by omega), kA i (by omega) (by omega) (by omega) (by omega) (by omega), kB i (by omega) (by omega)]; exact ⟨(hk2 i (by omega)).1.trans (hk1 i hi).1, (hk2 i (by omega)).2.1.trans (hk1 i hi).2.1, (hk2 i (by omega)).2.2.1.trans (hk1 i hi).2.2.1, (hk2 i (by omega)).2.2.2.trans (hk1 i hi).2.2.2⟩
      · skip
        have hu : u < 6 := by omega
        have h4o := hRo2.2.2.2.2.1 u hu
        have h3o := hRo2.2.2.2.1 u hu
        have h5o := hRo2.2.2.2.2.2.1 u hu
        have hlu : I2 (320 + 4 * u + 1) 2 = nI 40 := hlm u hu
        refine S_n g 1 (pc' := 64) (lv' := [(0, .ref (ad 300)), (1, .ref (ad 100)), (2, .int (nI u))]) (st' := [.ref (ad 300)]) rfl ?_
        refine S_getR g (i := 300) (c := 7) (k := 1) (j := 302) (by decide) (by decide) rfl rfl rfl fl_X7_17 rfl ?_
        refine S_n g 1 (pc' := 68) (lv' := [(0, .ref (ad 300)), (1, .ref (ad 100)), (2, .int (nI u))]) (st' := [.int (nI u), .ref (ad 302)]) rfl ?_
        refine S_aaldN g (i := 302) (e := u) (j := 320 + 4 * u) (by decide) rfl (show u < 6 from by omega) (show (6 : Nat) < 2 ^ 31 from by decide) rfl rfl ?_
        refine S_n g 1 (pc' := 70) (lv' := [(0, .ref (ad 300)), (1, .ref (ad 100)), (2, .int (nI u))]) (st' := [.ref (ad 100), .ref (ad (320 + 4 * u))]) rfl ?_
        refine S_getR g (i := 100) (c := 7) (k := 1) (j := 102) (by decide) (by decide) rfl rfl rfl fl_X7_17 rfl ?_
        refine S_n g 1 (pc' := 74) (lv' := [(0, .ref (ad 300)), (1, .ref (ad 100)), (2, .int (nI u))]) (st' := [.int (nI u), .ref (ad 102), .ref (ad (320 + 4 * u))]) rfl ?_
        refine S_aaldN g (i := 102) (e := u) (j := 120 + 4 * u) (by decide) rfl (show u < 6 from by omega) (show (6 : Nat) < 2 ^ 31 from by decide) rfl rfl ?_
        refine S_callV g (i := 320 + 4 * u) (As := [.ref (ad (120 + 4 * u))]) (st := []) (mb_copy_s1 ad z0 I2 J2 A2 B2 u (lnG m u) hu h4o.2.1 (g5 u hu) hlu) mw_X2_copyFrom lk_X7_70 ⟨Nat.le_of_ble_eq_true rfl, Nat.le_of_ble_eq_true rfl⟩ (by omega) (by decide) (mb_u (ad := ad) (show isW z0 true 300 from isW_300) hu).1 rfl (Nat.le_of_ble_eq_true rfl) ⟨Nat.le_of_ble_eq_true rfl, Nat.le_of_ble_eq_true rfl⟩ rfl (fun v' Y' I3 J3 A3 B3 hpo => ?_)
        obtain ⟨rfl, rfl, e1, e2, e3, e4⟩ := hpo
        show Sim X (YC ad z0 true) 78 [(0, .ref (ad 300)), (1, .ref (ad 100)), (2, .int (nI u))] [] I3 J3 A3 B3 0 0
        have hk3 : ∀ i, i < 320 + 4 * u ∨ 324 + 4 * u ≤ i → I3 i = I2 i ∧ J3 i = J2 i ∧ A3 i = A2 i ∧ B3 i = B2 i := fun i hi => ⟨by rw [e1, u2r (by omega), u2r (by omega)], by rw [e2, u2r (by omega)], by rw [e3, va_up_ne _ _ (by omega)], by rw [e4, va_up_ne _ _ (by omega)]⟩
        have hmu : mR 300 m u I3 J3 A3 B3 := by
          show (J3 (320 + 4 * u) 1 = m (63 + u) ∧ I3 (320 + 4 * u) 2 = (m (69 + u)).toInt32) ∧ (I3 (320 + 4 * u + 1) 2 = nI 40 ∧ I3 (320 + 4 * u + 1) 3 = nI (lnG m u) ∧ ∀ k, k < lnG m u → B3 (320 + 4 * u + 1 + 1) k = m (87 + 40 * u + k)) ∧ ∀ k, k < lnG m u → A3 (320 + 4 * u + 1 + 2) k = cnX (fun p => (m (3 + p)).toInt32) (m (87 + 40 * u + k)) (12 * gN (m 0))
          rw [e1, e2, e3, e4]
          refine ⟨⟨(up2_same _ _ _ _).trans h3o.1, (up2_same _ _ _ _).trans h3o.2⟩, ⟨(u2j (Or.inl (by omega))).trans ((u2j (Or.inr (by decide))).trans hlu), (u2j (Or.inl (by omega))).trans (up2_same _ _ _ _), fun k hk => ?_⟩, fun k hk => ?_⟩
          · rw [va_up_self, cpy_0 hk]; exact h4o.2.2 k hk
          · rw [va_up_self, cpy_0 hk]; exact h5o k hk
        refine S_n g 1 (pc' := 81) (lv' := [(0, .ref (ad 300)), (1, .ref (ad 100)), (2, .int ((nI u) + nI 1))]) (st' := []) rfl ?_
        rw [nI_add u 1]
        refine S_n g 1 (pc' := 57) (lv' := [(0, .ref (ad 300)), (1, .ref (ad 100)), (2, .int (nI (u + 1)))]) (st' := []) rfl ?_
        exact lp (6 - (u + 1)) (by omega) (u + 1) I3 J3 A3 B3 rfl (by omega) (RepW_frb hRo2 (fun i a c => hk3 i (by omega))) (fun i hi => ⟨(hk3 i (by omega)).1.trans (hk2 i hi).1, (hk3 i (by omega)).2.1.trans (hk2 i hi).2.1, (hk3 i (by omega)).2.2.1.trans (hk2 i hi).2.2.1, (hk3 i (by omega)).2.2.2.trans (hk2 i hi).2.2.2⟩) (fun v hv => by by_cases e : v = u; (· subst e; exact hmu.2.1.1); (· rw [(hk3 _ (by omega)).1]; exact hlm v hv)) (fun v hv => by by_cases e : v = u; (· subst e; exact hmu); (· exact mR_fr (hmr v (by omega)) (fun i a c => hk3 i (by omega))))
  exact lp _ 0 I1 J A1 B rfl (Nat.zero_le _) hRo (fun i hi => ⟨rfl, rfl, rfl, rfl⟩) (fun v hv => by rw [kI1 _ (by omega)]; exact hL.2.2 v hv) (fun v hv => absurd hv (Nat.not_lt_zero v))

set_option maxRecDepth 100000 in
set_option maxHeartbeats 4000000 in
theorem mb_copy_r0 (ad : Nat → Nat) (z1 : Bool) (I : FI) (J : FJ) (A : FI) (B : FJ) (u n : Nat) (hu : u < 6) (hS : I (220 + 4 * u + 1) 3 = nI n) (hn : n ≤ 40) (hLm : I (120 + 4 * u + 1) 2 = nI 40) : Spec M_X2_copyFrom [.ref (ad (120 + 4 * u)), .ref (ad (220 + 4 * u))] (YC ad true z1) I J A B (eqP none (YC ad true z1) (up2 (up2 I (120 + 4 * u + 1) 3 (nI n)) (120 + 4 * u) 2 (I (220 + 4 * u) 2)) (up2 J (120 + 4 * u) 1 (J (220 + 4 * u) 1)) (va_up A (120 + 4 * u + 1 + 2) (va_cpy (A (220 + 4 * u + 1 + 2)) (A (120 + 4 * u + 1 + 2)) 0 0 n)) (va_up B (120 + 4 * u + 1 + 1) (va_cpy (B (220 + 4 * u + 1 + 1)) (B (120 + 4 * u + 1 + 1)) 0 0 n))) := by
  have hmb := mb_u (ad := ad) (show isW true z1 100 from isW_100) hu
  have hmo := mb_u (ad := ad) (show isW true z1 200 from isW_200) hu
  refine Spec_of (by decide) tk_X2_copyFrom (Nat.le_of_ble_eq_true rfl) (fun X g rt => ?_)
  show Sim X (YC ad true z1) 0 [(0, .ref (ad (120 + 4 * u))), (1, .ref (ad (220 + 4 * u)))] [] I J A B 0 0
  refine S_n g 1 (pc' := 1) (lv' := [(0, .ref (ad (120 + 4 * u))), (1, .ref (ad (220 + 4 * u)))]) (st' := [.ref (ad (120 + 4 * u))]) rfl ?_
  refine S_getR g (i := 120 + 4 * u) (c := 2) (k := 0) (j := 120 + 4 * u + 1) (by omega) (by decide) (mb_u (ad := ad) (show isW true z1 100 from isW_100) hu).1 rfl (mb_u (ad := ad) (show isW true z1 100 from isW_100) hu).2.1 fl_X2_14 rfl ?_
  refine S_n g 1 (pc' := 5) (lv' := [(0, .ref (ad (120 + 4 * u))), (1, .ref (ad (220 + 4 * u)))]) (st' := [.ref (ad (220 + 4 * u)), .ref (ad (120 + 4 * u + 1))]) rfl ?_
  refine S_getR g (i := 220 + 4 * u) (c := 2) (k := 0) (j := 220 + 4 * u + 1) (by omega) (by decide) (mb_u (ad := ad) (show isW true z1 200 from isW_200) hu).1 rfl (mb_u (ad := ad) (show isW true z1 200 from isW_200) hu).2.1 fl_X2_14 rfl ?_
  refine S_cV g (i := 120 + 4 * u + 1) (As := [.ref (ad (220 + 4 * u + 1))]) (st := []) (sl_copyFrom ad true z1 I J A B (120 + 4 * u + 1) (220 + 4 * u + 1) 40 n hmb.2.2 hmo.2.2 (by decide) hS hn hLm) mw_X6_copyFrom lk_X2_44 ⟨Nat.le_of_ble_eq_true rfl, Nat.le_of_ble_eq_true rfl⟩ (by omega) (by decide) (mb_u (ad := ad) (show isW true z1 100 from isW_100) hu).2.2.2.1 rfl (Nat.le_of_ble_eq_true rfl) ⟨Nat.le_of_ble_eq_true rfl, Nat.le_of_ble_eq_true rfl⟩ rfl ?_
  show Sim X (YC ad true z1) 11 [(0, .ref (ad (120 + 4 * u))), (1, .ref (ad (220 + 4 * u)))] [] (up2 I (120 + 4 * u + 1) 3 (nI n)) J (va_up A (120 + 4 * u + 1 + 2) (va_cpy (A (220 + 4 * u + 1 + 2)) (A (120 + 4 * u + 1 + 2)) 0 0 n)) (va_up B (120 + 4 * u + 1 + 1) (va_cpy (B (220 + 4 * u + 1 + 1)) (B (120 + 4 * u + 1 + 1)) 0 0 n)) 0 0
  refine S_n g 2 (pc' := 13) (lv' := [(0, .ref (ad (120 + 4 * u))), (1, .ref (ad (220 + 4 * u)))]) (st' := [.ref (ad (220 + 4 * u)), .ref (ad (120 + 4 * u))]) rfl ?_
  refine S_getJ g (i := 220 + 4 * u) (c := 2) (k := 1) (by omega) (by decide) (mb_u (ad := ad) (show isW true z1 200 from isW_200) hu).1 rfl fl_X2_24 rfl ?_
  refine S_putJ g (i := 120 + 4 * u) (c := 2) (k := 1) (by omega) (by decide) (mb_u (ad := ad) (show isW true z1 100 from isW_100) hu).1 rfl fw_X2_24 rfl ?_
  refine S_n g 2 (pc' := 21) (lv' := [(0, .ref (ad (120 + 4 * u))), (1, .ref (ad (220 + 4 * u)))]) (st' := [.ref (ad (220 + 4 * u)), .ref (ad (120 + 4 * u))]) rfl ?_
  refine S_getI g (i := 220 + 4 * u) (c := 2) (k := 2) (by omega) (by decide) (mb_u (ad := ad) (show isW true z1 200 from isW_200) hu).1 rfl fl_X2_28 rfl ?_
  rw [up2_ne _ _ _ _ (show 220 + 4 * u ≠ 120 + 4 * u + 1 from (by omega))]
  refine S_putI g (i := 120 + 4 * u) (c := 2) (k := 2) (kd := 0) (by omega) (by decide) (mb_u (ad := ad) (show isW true z1 100 from isW_100) hu).1 rfl (by decide) fw_X2_28 rfl rfl rfl ?_
  exact rtV rt rfl rfl eqP_rf

set_option maxRecDepth 100000 in
set_option maxHeartbeats 4000000 in
theorem pl_copy_r0 (ad : Nat → Nat) (z1 : Bool) (I : FI) (J : FJ) (A : FI) (B : FJ) (n : Nat) (hS : I 209 3 = nI n) (hn : n ≤ 30) : Spec M_X3_copyFrom [.ref (ad 109), .ref (ad 209)] (YC ad true z1) I J A B (eqP none (YC ad true z1) (up2 I 109 3 (nI n)) J (va_up (va_up (va_up A 110 (va_cpy (A 210) (A 110) 0 0 n)) 111 (va_cpy (A 211) (A 111) 0 0 n)) 112 (va_cpy (A 212) (A 112) 0 0 n)) B) := by
  refine Spec_of (by decide) tk_X3_copyFrom (Nat.le_of_ble_eq_true rfl) (fun X g rt => ?_)
  show Sim X (YC ad true z1) 0 [(0, .ref (ad 109)), (1, .ref (ad 209))] [] I J A B 0 0
  refine S_n g 2 (pc' := 2) (lv' := [(0, .ref (ad 109)), (1, .ref (ad 209))]) (st' := [.ref (ad 209), .ref (ad 109)]) rfl ?_
  refine S_getI g (i := 209) (c := 3) (k := 3) (by decide) (by decide) rfl rfl fl_X3_21 rfl ?_
  rw [hS]
  refine S_putI g (i := 109) (c := 3) (k := 3) (kd := 0) (by decide) (by decide) rfl rfl (by decide) fw_X3_21 rfl rfl rfl ?_
  refine S_n g 1 (pc' := 9) (lv' := [(0, .ref (ad 109)), (1, .ref (ad 209))]) (st' := [.ref (ad 209)]) rfl ?_
  refine S_getR g (i := 209) (c := 3) (k := 0) (j := 210) (by decide) (by decide) rfl rfl rfl fl_X3_9 rfl ?_
  refine S_n g 2 (pc' := 14) (lv' := [(0, .ref (ad 109)), (1, .ref (ad 209))]) (st' := [.ref (ad 109), .int (nI 0), .ref (ad 210)]) rfl ?_
  refine S_getR g (i := 109) (c := 3) (k := 0) (j := 110) (by decide) (by decide) rfl rfl rfl fl_X3_9 rfl ?_
  refine S_n g 2 (pc' := 19) (lv' := [(0, .ref (ad 109)), (1, .ref (ad 209))]) (st' := [.ref (ad 109), .int (nI 0), .ref (ad 110), .int (nI 0), .ref (ad 210)]) rfl ?_
  refine S_getI g (i := 109) (c := 3) (k := 3) (by decide) (by decide) rfl rfl fl_X3_21 rfl ?_
  show Sim X (YC ad true z1) 22 [(0, .ref (ad 109)), (1, .ref (ad 209))] [.int (nI n), .int (nI 0), .ref (ad 110), .int (nI 0), .ref (ad 210)] (up2 I 109 3 (nI n)) J A B 0 0
  refine S_copyi g (i := 210) (j := 110) (by decide) rfl (by decide) rfl lc_X3_25 ac_nat ac_stat ac_ini (nI_pos (by omega)) (nI_pos (by omega)) (nI_pos (by omega)) (by rw [nI_clamp (n := 0) (by omega), nI_clamp (n := n) (by omega)]; exact (show (0) + (n) ≤ 30 from by omega)) (by rw [nI_clamp (n := 0) (by omega), nI_clamp (n := n) (by omega)]; exact (show (0) + (n) ≤ 30 from by omega)) (Nat.le_of_ble_eq_true rfl) (Nat.le_of_ble_eq_true rfl) rfl ?_
  rw [nI_clamp (n := 0) (by omega), nI_clamp (n := n) (by omega)]
  show Sim X (YC ad true z1) 25 [(0, .ref (ad 109)), (1, .ref (ad 209))] [] (up2 I 109 3 (nI n)) J (va_up A 110 (va_cpy (A 210) (A 110) 0 0 n)) B 0 0
  refine S_n g 1 (pc' := 26) (lv' := [(0, .ref (ad 109)), (1, .ref (ad 209))]) (st' := [.ref (ad 209)]) rfl ?_
  refine S_getR g (i := 209) (c := 3) (k := 1) (j := 211) (by decide) (by decide) rfl rfl rfl fl_X3_15 rfl ?_
  refine S_n g 2 (pc' := 31) (lv' := [(0, .ref (ad 109)), (1, .ref (ad 209))]) (st' := [.ref (ad 109), .int (nI 0), .ref (ad 211)]) rfl ?_
  refine S_getR g (i := 109) (c := 3) (k := 1) (j := 111) (by decide) (by decide) rfl rfl rfl fl_X3_15 rfl ?_
  refine S_n g 2 (pc' := 36) (lv' := [(0, .ref (ad 109)), (1, .ref (ad 209))]) (st' := [.ref (ad 109), .int (nI 0), .ref (ad 111), .int (nI 0), .ref (ad 211)]) rfl ?_
  refine S_getI g (i := 109) (c := 3) (k := 3) (by decide) (by decide) rfl rfl fl_X3_21 rfl ?_
  show Sim X (YC ad true z1) 39 [(0, .ref (ad 109)), (1, .ref (ad 209))] [.int (nI n), .int (nI 0), .ref (ad 111), .int (nI 0), .ref (ad 211)] (up2 I 109 3 (nI n)) J (va_up A 110 (va_cpy (A 210) (A 110) 0 0 n)) B 0 0
  refine S_copyi g (i := 211) (j := 111) (by decide) rfl (by decide) rfl lc_X3_25 ac_nat ac_stat ac_ini (nI_pos (by omega)) (nI_pos (by omega)) (nI_pos (by omega)) (by rw [nI_clamp (n := 0) (by omega), nI_clamp (n := n) (by omega)]; exact (show (0) + (n) ≤ 30 from by omega)) (by rw [nI_clamp (n := 0) (by omega), nI_clamp (n := n) (by omega)]; exact (show (0) + (n) ≤ 30 from by omega)) (Nat.le_of_ble_eq_true rfl) (Nat.le_of_ble_eq_true rfl) rfl ?_
  rw [nI_clamp (n := 0) (by omega), nI_clamp (n := n) (by omega)]
  show Sim X (YC ad true z1) 42 [(0, .ref (ad 109)), (1, .ref (ad 209))] [] (up2 I 109 3 (nI n)) J (va_up (va_up A 110 (va_cpy (A 210) (A 110) 0 0 n)) 111 (va_cpy (A 211) (A 111) 0 0 n)) B 0 0
  refine S_n g 1 (pc' := 43) (lv' := [(0, .ref (ad 109)), (1, .ref (ad 209))]) (st' := [.ref (ad 209)]) rfl ?_
  refine S_getR g (i := 209) (c := 3) (k := 2) (j := 212) (by decide) (by decide) rfl rfl rfl fl_X3_18 rfl ?_
  refine S_n g 2 (pc' := 48) (lv' := [(0, .ref (ad 109)), (1, .ref (ad 209))]) (st' := [.ref (ad 109), .int (nI 0), .ref (ad 212)]) rfl ?_
  refine S_getR g (i := 109) (c := 3) (k := 2) (j := 112) (by decide) (by decide) rfl rfl rfl fl_X3_18 rfl ?_
  refine S_n g 2 (pc' := 53) (lv' := [(0, .ref (ad 109)), (1, .ref (ad 209))]) (st' := [.ref (ad 109), .int (nI 0), .ref (ad 112), .int (nI 0), .ref (ad 212)]) rfl ?_
  refine S_getI g (i := 109) (c := 3) (k := 3) (by decide) (by decide) rfl rfl fl_X3_21 rfl ?_
  show Sim X (YC ad true z1) 56 [(0, .ref (ad 109)), (1, .ref (ad 209))] [.int (nI n), .int (nI 0), .ref (ad 112), .int (nI 0), .ref (ad 212)] (up2 I 109 3 (nI n)) J (va_up (va_up A 110 (va_cpy (A 210) (A 110) 0 0 n)) 111 (va_cpy (A 211) (A 111) 0 0 n)) B 0 0
  refine S_copyi g (i := 212) (j := 112) (by decide) rfl (by decide) rfl lc_X3_25 ac_nat ac_stat ac_ini (nI_pos (by omega)) (nI_pos (by omega)) (nI_pos (by omega)) (by rw [nI_clamp (n := 0) (by omega), nI_clamp (n := n) (by omega)]; exact (show (0) + (n) ≤ 30 from by omega)) (by rw [nI_clamp (n := 0) (by omega), nI_clamp (n := n) (by omega)]; exact (show (0) + (n) ≤ 30 from by omega)) (Nat.le_of_ble_eq_true rfl) (Nat.le_of_ble_eq_true rfl) rfl ?_
  rw [nI_clamp (n := 0) (by omega), nI_clamp (n := n) (by omega)]
  show Sim X (YC ad true z1) 59 [(0, .ref (ad 109)), (1, .ref (ad 209))] [] (up2 I 109 3 (nI n)) J (va_up (va_up (va_up A 110 (va_cpy (A 210) (A 110) 0 0 n)) 111 (va_cpy (A 211) (A 111) 0 0 n)) 112 (va_cpy (A 212) (A 112) 0 0 n)) B 0 0
  exact rtV rt rfl rfl eqP_rf

set_option maxRecDepth 100000 in
set_option maxHeartbeats 4000000 in
theorem w_copy_r0 (ad : Nat → Nat) (z1 : Bool) (I : FI) (J : FJ) (A : FI) (B : FJ) (m : Nat → Int64) (hG : WG m) (hR : RepW 200 m I J A B) (hL : Lim 100 I) : Spec M_X7_copyFrom [.ref (ad 100), .ref (ad 200)] (YC ad true z1) I J A B (fun v' Y' I' J' A' B' => v' = none ∧ Y' = YC ad true z1 ∧ RepW 100 m I' J' A' B' ∧ kpB 100 I J A B I' J' A' B') := by
  obtain ⟨g0, g1, g2, g3, g4, g5⟩ := WGn hG
  have hI5 := hR.1
  have hR0 := hR
  refine Spec_of (by decide) tk_X7_copyFrom (Nat.le_of_ble_eq_true rfl) (fun X g rt => ?_)
  show Sim X (YC ad true z1) 0 [(0, .ref (ad 100)), (1, .ref (ad 200))] [] I J A B 0 0
  have i5 : I 200 5 = (m 0).toInt32 := hR.1.1
  have i6 : I 200 6 = (m 1).toInt32 := hR.1.2.1
  have i7 : I 200 7 = (m 2).toInt32 := hR.1.2.2.1
  have i9 : I 200 9 = (m 620).toInt32 := hR.1.2.2.2
  have i8 : I 200 8 = preS m (gN (m 1)) := hR.2.1
  refine S_n g 2 (pc' := 2) (lv' := [(0, .ref (ad 100)), (1, .ref (ad 200))]) (st' := [.ref (ad 200), .ref (ad 100)]) rfl ?_
  refine S_getI g (i := 200) (c := 7) (k := 5) (by decide) (by decide) rfl rfl fl_X7_41 rfl ?_
  rw [i5]
  refine S_putI g (i := 100) (c := 7) (k := 5) (kd := 0) (by decide) (by decide) rfl rfl (by decide) fw_X7_41 rfl rfl rfl ?_
  refine S_n g 2 (pc' := 10) (lv' := [(0, .ref (ad 100)), (1, .ref (ad 200))]) (st' := [.ref (ad 200), .ref (ad 100)]) rfl ?_
  refine S_getI g (i := 200) (c := 7) (k := 6) (by decide) (by decide) rfl rfl fl_X7_45 rfl ?_
  show Sim X (YC ad true z1) 13 [(0, .ref (ad 100)), (1, .ref (ad 200))] [.int (I 200 6), .ref (ad 100)] (up2 I 100 5 (m 0).toInt32) J A B 0 0
  rw [i6]
  refine S_putI g (i := 100) (c := 7) (k := 6) (kd := 0) (by decide) (by decide) rfl rfl (by decide) fw_X7_45 rfl rfl rfl ?_
  refine S_n g 2 (pc' := 18) (lv' := [(0, .ref (ad 100)), (1, .ref (ad 200))]) (st' := [.ref (ad 200), .ref (ad 100)]) rfl ?_
  refine S_getI g (i := 200) (c := 7) (k := 7) (by decide) (by decide) rfl rfl fl_X7_48 rfl ?_
  show Sim X (YC ad true z1) 21 [(0, .ref (ad 100)), (1, .ref (ad 200))] [.int (I 200 7), .ref (ad 100)] (up2 (up2 I 100 5 (m 0).toInt32) 100 6 (m 1).toInt32) J A B 0 0
  rw [i7]
  refine S_putI g (i := 100) (c := 7) (k := 7) (kd := 0) (by decide) (by decide) rfl rfl (by decide) fw_X7_48 rfl rfl rfl ?_
  refine S_n g 2 (pc' := 26) (lv' := [(0, .ref (ad 100)), (1, .ref (ad 200))]) (st' := [.ref (ad 200), .ref (ad 100)]) rfl ?_
  refine S_getI g (i := 200) (c := 7) (k := 8) (by decide) (by decide) rfl rfl fl_X7_51 rfl ?_
  show Sim X (YC ad true z1) 29 [(0, .ref (ad 100)), (1, .ref (ad 200))] [.int (I 200 8), .ref (ad 100)] (up2 (up2 (up2 I 100 5 (m 0).toInt32) 100 6 (m 1).toInt32) 100 7 (m 2).toInt32) J A B 0 0
  rw [i8]
  refine S_putI g (i := 100) (c := 7) (k := 8) (kd := 0) (by decide) (by decide) rfl rfl (by decide) fw_X7_51 rfl rfl rfl ?_
  refine S_n g 2 (pc' := 34) (lv' := [(0, .ref (ad 100)), (1, .ref (ad 200))]) (st' := [.ref (ad 200), .ref (ad 100)]) rfl ?_
  refine S_getI g (i := 200) (c := 7) (k := 9) (by decide) (by decide) rfl rfl fl_X7_54 rfl ?_
  show Sim X (YC ad true z1) 37 [(0, .ref (ad 100)), (1, .ref (ad 200))] [.int (I 200 9), .ref (ad 100)] (up2 (up2 (up2 (up2 I 100 5 (m 0).toInt32) 100 6 (m 1).toInt32) 100 7 (m 2).toInt32) 100 8 (preS m (gN (m 1)))) J A B 0 0
  rw [i9]
  refine S_putI g (i := 100) (c := 7) (k := 9) (kd := 0) (by decide) (by decide) rfl rfl (by decide) fw_X7_54 rfl rfl rfl ?_
  refine S_n g 1 (pc' := 41) (lv' := [(0, .ref (ad 100)), (1, .ref (ad 200))]) (st' := [.ref (ad 200)]) rfl ?_
  refine S_getR g (i := 200) (c := 7) (k := 0) (j := 201) (by decide) (by decide) rfl rfl rfl fl_X7_9 rfl ?_
  refine S_n g 2 (pc' := 46) (lv' := [(0, .ref (ad 100)), (1, .ref (ad 200))]) (st' := [.ref (ad 100), .int (nI 0), .ref (ad 201)]) rfl ?_
  refine S_getR g (i := 100) (c := 7) (k := 0) (j := 101) (by decide) (by decide) rfl rfl rfl fl_X7_9 rfl ?_
  refine S_n g 2 (pc' := 52) (lv' := [(0, .ref (ad 100)), (1, .ref (ad 200))]) (st' := [.int (nI 60), .int (nI 0), .ref (ad 101), .int (nI 0), .ref (ad 201)]) rfl ?_
  refine S_copyi g (i := 201) (j := 101) (by decide) rfl (by decide) rfl lc_X7_64 ac_nat ac_stat ac_ini (nI_pos (by omega)) (nI_pos (by omega)) (nI_pos (by omega)) (by rw [nI_clamp (n := 0) (by omega), nI_clamp (n := 60) (by omega)]; exact (show (0) + (60) ≤ 60 from by omega)) (by rw [nI_clamp (n := 0) (by omega), nI_clamp (n := 60) (by omega)]; exact (show (0) + (60) ≤ 60 from by omega)) (Nat.le_of_ble_eq_true rfl) (Nat.le_of_ble_eq_true rfl) rfl ?_
  rw [nI_clamp (n := 0) (by omega), nI_clamp (n := 60) (by omega)]
  show Sim X (YC ad true z1) 55 [(0, .ref (ad 100)), (1, .ref (ad 200))] [] (up2 (up2 (up2 (up2 (up2 I 100 5 (m 0).toInt32) 100 6 (m 1).toInt32) 100 7 (m 2).toInt32) 100 8 (preS m (gN (m 1)))) 100 9 (m 620).toInt32) J (va_up A 101 (va_cpy (A 201) (A 101) 0 0 60)) B 0 0
  refine S_n g 2 (pc' := 57) (lv' := [(0, .ref (ad 100)), (1, .ref (ad 200)), (2, .int (nI 0))]) (st' := []) rfl ?_
  obtain ⟨I1, hI1⟩ : ∃ I1 : FI, I1 = up2 (up2 (up2 (up2 (up2 I 100 5 (m 0).toInt32) 100 6 (m 1).toInt32) 100 7 (m 2).toInt32) 100 8 (preS m (gN (m 1)))) 100 9 (m 620).toInt32 := ⟨_, rfl⟩
  obtain ⟨A1, hA1⟩ : ∃ A1 : FI, A1 = va_up A 101 (va_cpy (A 201) (A 101) 0 0 60) := ⟨_, rfl⟩
  rw [← hI1, ← hA1]
  show Sim X (YC ad true z1) 57 [(0, .ref (ad 100)), (1, .ref (ad 200)), (2, .int (nI 0))] [] I1 J A1 B 0 0
  have kI1 : ∀ i, i ≠ 100 → I1 i = I i := fun i hi => by rw [hI1, u2r hi, u2r hi, u2r hi, u2r hi, u2r hi]
  have kA1 : ∀ i, i ≠ 101 → A1 i = A i := fun i hi => by rw [hA1, va_up_ne _ _ hi]
  have hb0 : r0w 100 m I1 J A1 B := by unfold r0w; rw [hI1]; exact ⟨rfl, rfl, rfl, rfl⟩
  have hb1 : r1w 100 m I1 J A1 B := by unfold r1w; rw [hI1]; rfl
  have hb2 : r2w 100 m I1 J A1 B := fun p hp => by rw [hA1, show va_up A 101 (va_cpy (A 201) (A 101) 0 0 60) (100 + 1) p = va_cpy (A 201) (A 101) 0 0 60 p from by rw [va_up_self], cpy_0 hp]; exact hR.2.2.1 p hp
  have hRo : RepW 200 m I1 J A1 B := RepW_frb hR (fun i a c => ⟨kI1 i (by omega), rfl, kA1 i (by omega), rfl⟩)
  have hk1 : kpB 100 I J A B I1 J A1 B := fun i hi => ⟨kI1 i (by omega), rfl, kA1 i (by omega), rfl⟩
  have lp : ∀ (nn : Nat) (u : Nat) (I2 : FI) (J2 : FJ) (A2 : FI) (B2 : FJ), 6 - u = nn → (u ≤ 6) → (RepW 200 m I2 J2 A2 B2) → (∀ i, i < 120 ∨ 144 ≤ i → I2 i = I1 i ∧ J2 i = J i ∧ A2 i = A1 i ∧ B2 i = B i) → (∀ v, v < 6 → I2 (100 + 20 + 4 * v + 1) 2 = nI 40) → (∀ v, v < u → mR 100 m v I2 J2 A2 B2) → Sim X (YC ad true z1) 57 [(0, .ref (ad 100)), (1, .ref (ad 200)), (2, .int (nI u))] [] I2 J2 A2 B2 0 0 := by
    intro nn
    induction nn using Nat.strongRecOn with
    | ind nn ih =>
      intro u I2 J2 A2 B2 hmz hu0 hRo2 hk2 hlm hmr
      have lp := ih
      refine S_n g 2 (pc' := 60) (lv' := [(0, .ref (ad 100)), (1, .ref (ad 200)), (2, .int (nI u))]) (st' := [.int (nI 6), .int (nI u)]) rfl ?_
      refine S_icN_ge g (tgt := 84) (by omega) (by omega) rfl (by decide) (fun qz60 => ?_) (fun qz60 => ?_)
      · skip
        have hu9 : u = 6 := by omega
        subst hu9
        have h6 := hRo2.2.2.2.2.2.2.1
        have h7 := hRo2.2.2.2.2.2.2.2.1
        have h8 := hRo2.2.2.2.2.2.2.2.2
        have l3 : I2 103 2 = nI 100 := by rw [(hk2 103 (by omega)).1, kI1 _ (by decide)]; exact hL.1
        have l6 : I2 106 2 = nI 100 := by rw [(hk2 106 (by omega)).1, kI1 _ (by decide)]; exact hL.2.1
        refine S_n g 1 (pc' := 85) (lv' := [(0, .ref (ad 100)), (1, .ref (ad 200)), (2, .int (nI 6))]) (st' := [.ref (ad 100)]) rfl ?_
        refine S_getR g (i := 100) (c := 7) (k := 2) (j := 103) (by decide) (by decide) rfl rfl rfl fl_X7_26 rfl ?_
        refine S_n g 1 (pc' := 89) (lv' := [(0, .ref (ad 100)), (1, .ref (ad 200)), (2, .int (nI 6))]) (st' := [.ref (ad 200), .ref (ad 103)]) rfl ?_
        refine S_getR g (i := 200) (c := 7) (k := 2) (j := 203) (by decide) (by decide) rfl rfl rfl fl_X7_26 rfl ?_
        refine S_cV g (i := 103) (As := [.ref (ad 203)]) (st := []) (sl_copyFrom ad true z1 I2 J2 A2 B2 103 203 100 (gN (m 327)) (sl_q (show isW true z1 100 from isW_100)) (sl_q (show isW true z1 200 from isW_200)) (by decide) h6.2.1 g2 l3) mw_X6_copyFrom lk_X7_74 ⟨Nat.le_of_ble_eq_true rfl, Nat.le_of_ble_eq_true rfl⟩ (by decide) (by decide) rfl rfl (Nat.le_of_ble_eq_true rfl) ⟨Nat.le_of_ble_eq_true rfl, Nat.le_of_ble_eq_true rfl⟩ rfl ?_
        show Sim X (YC ad true z1) 95 [(0, .ref (ad 100)), (1, .ref (ad 200)), (2, .int (nI 6))] [] (up2 I2 103 3 (nI (gN (m 327)))) J2 (va_up A2 105 (va_cpy (A2 205) (A2 105) 0 0 (gN (m 327)))) (va_up B2 104 (va_cpy (B2 204) (B2 104) 0 0 (gN (m 327)))) 0 0
        refine S_n g 1 (pc' := 96) (lv' := [(0, .ref (ad 100)), (1, .ref (ad 200)), (2, .int (nI 6))]) (st' := [.ref (ad 100)]) rfl ?_
        refine S_getR g (i := 100) (c := 7) (k := 3) (j := 106) (by decide) (by decide) rfl rfl rfl fl_X7_30 rfl ?_
        refine S_n g 1 (pc' := 100) (lv' := [(0, .ref (ad 100)), (1, .ref (ad 200)), (2, .int (nI 6))]) (st' := [.ref (ad 200), .ref (ad 106)]) rfl ?_
        refine S_getR g (i := 200) (c := 7) (k := 3) (j := 206) (by decide) (by decide) rfl rfl rfl fl_X7_30 rfl ?_
        refine S_cV g (i := 106) (As := [.ref (ad 206)]) (st := []) (sl_copyFrom ad true z1 (up2 I2 103 3 (nI (gN (m 327)))) J2 (va_up A2 105 (va_cpy (A2 205) (A2 105) 0 0 (gN (m 327)))) (va_up B2 104 (va_cpy (B2 204) (B2 104) 0 0 (gN (m 327)))) 106 206 100 (gN (m 428)) (sl_h (show isW true z1 100 from isW_100)) (sl_h (show isW true z1 200 from isW_200)) (by decide) ((u2j (Or.inl (by decide))).trans h7.2.1) g3 ((u2j (Or.inl (by decide))).trans l6)) mw_X6_copyFrom lk_X7_74 ⟨Nat.le_of_ble_eq_true rfl, Nat.le_of_ble_eq_true rfl⟩ (by decide) (by decide) rfl rfl (Nat.le_of_ble_eq_true rfl) ⟨Nat.le_of_ble_eq_true rfl, Nat.le_of_ble_eq_true rfl⟩ rfl ?_
        show Sim X (YC ad true z1) 106 [(0, .ref (ad 100)), (1, .ref (ad 200)), (2, .int (nI 6))] [] (up2 (up2 I2 103 3 (nI (gN (m 327)))) 106 3 (nI (gN (m 428)))) J2 (va_up (va_up A2 105 (va_cpy (A2 205) (A2 105) 0 0 (gN (m 327)))) 108 (va_cpy (A2 208) (A2 108) 0 0 (gN (m 428)))) (va_up (va_up B2 104 (va_cpy (B2 204) (B2 104) 0 0 (gN (m 327)))) 107 (va_cpy (B2 207) (B2 107) 0 0 (gN (m 428)))) 0 0
        refine S_n g 1 (pc' := 107) (lv' := [(0, .ref (ad 100)), (1, .ref (ad 200)), (2, .int (nI 6))]) (st' := [.ref (ad 100)]) rfl ?_
        refine S_getR g (i := 100) (c := 7) (k := 4) (j := 109) (by decide) (by decide) rfl rfl rfl fl_X7_36 rfl ?_
        refine S_n g 1 (pc' := 111) (lv' := [(0, .ref (ad 100)), (1, .ref (ad 200)), (2, .int (nI 6))]) (st' := [.ref (ad 200), .ref (ad 109)]) rfl ?_
        refine S_getR g (i := 200) (c := 7) (k := 4) (j := 209) (by decide) (by decide) rfl rfl rfl fl_X7_36 rfl ?_
        refine S_cV g (i := 109) (As := [.ref (ad 209)]) (st := []) (pl_copy_r0 ad z1 (up2 (up2 I2 103 3 (nI (gN (m 327)))) 106 3 (nI (gN (m 428)))) J2 (va_up (va_up A2 105 (va_cpy (A2 205) (A2 105) 0 0 (gN (m 327)))) 108 (va_cpy (A2 208) (A2 108) 0 0 (gN (m 428)))) (va_up (va_up B2 104 (va_cpy (B2 204) (B2 104) 0 0 (gN (m 327)))) 107 (va_cpy (B2 207) (B2 107) 0 0 (gN (m 428)))) (gN (m 529)) ((u2j (Or.inl (by decide))).trans ((u2j (Or.inl (by decide))).trans h8.1)) g4) mw_X3_copyFrom lk_X7_77 ⟨Nat.le_of_ble_eq_true rfl, Nat.le_of_ble_eq_true rfl⟩ (by decide) (by decide) rfl rfl (Nat.le_of_ble_eq_true rfl) ⟨Nat.le_of_ble_eq_true rfl, Nat.le_of_ble_eq_true rfl⟩ rfl ?_
        show Sim X (YC ad true z1) 117 [(0, .ref (ad 100)), (1, .ref (ad 200)), (2, .int (nI 6))] [] (up2 (up2 (up2 I2 103 3 (nI (gN (m 327)))) 106 3 (nI (gN (m 428)))) 109 3 (nI (gN (m 529)))) J2 (va_up (va_up (va_up (va_up (va_up A2 105 (va_cpy (A2 205) (A2 105) 0 0 (gN (m 327)))) 108 (va_cpy (A2 208) (A2 108) 0 0 (gN (m 428)))) 110 (va_cpy (A2 210) (A2 110) 0 0 (gN (m 529)))) 111 (va_cpy (A2 211) (A2 111) 0 0 (gN (m 529)))) 112 (va_cpy (A2 212) (A2 112) 0 0 (gN (m 529)))) (va_up (va_up B2 104 (va_cpy (B2 204) (B2 104) 0 0 (gN (m 327)))) 107 (va_cpy (B2 207) (B2 107) 0 0 (gN (m 428)))) 0 0
        obtain ⟨I4, hI4⟩ : ∃ I4 : FI, I4 = up2 (up2 (up2 I2 103 3 (nI (gN (m 327)))) 106 3 (nI (gN (m 428)))) 109 3 (nI (gN (m 529))) := ⟨_, rfl⟩
        obtain ⟨A4, hA4⟩ : ∃ A4 : FI, A4 = va_up (va_up (va_up (va_up (va_up A2 105 (va_cpy (A2 205) (A2 105) 0 0 (gN (m 327)))) 108 (va_cpy (A2 208) (A2 108) 0 0 (gN (m 428)))) 110 (va_cpy (A2 210) (A2 110) 0 0 (gN (m 529)))) 111 (va_cpy (A2 211) (A2 111) 0 0 (gN (m 529)))) 112 (va_cpy (A2 212) (A2 112) 0 0 (gN (m 529))) := ⟨_, rfl⟩
        obtain ⟨B4, hB4⟩ : ∃ B4 : FJ, B4 = va_up (va_up B2 104 (va_cpy (B2 204) (B2 104) 0 0 (gN (m 327)))) 107 (va_cpy (B2 207) (B2 107) 0 0 (gN (m 428))) := ⟨_, rfl⟩
        rw [← hI4, ← hA4, ← hB4]
        show Sim X (YC ad true z1) 117 [(0, .ref (ad 100)), (1, .ref (ad 200)), (2, .int (nI 6))] [] I4 J2 A4 B4 0 0
        have kI : ∀ i, i ≠ 103 → i ≠ 106 → i ≠ 109 → I4 i = I2 i := fun i x y z => by rw [hI4, u2r z, u2r y, u2r x]
        have kA : ∀ i, i ≠ 105 → i ≠ 108 → i ≠ 110 → i ≠ 111 → i ≠ 112 → A4 i = A2 i := fun i x y z p q => by rw [hA4, va_up_ne _ _ q, va_up_ne _ _ p, va_up_ne _ _ z, va_up_ne _ _ y, va_up_ne _ _ x]
        have kB : ∀ i, i ≠ 104 → i ≠ 107 → B4 i = B2 i := fun i x y => by rw [hB4, va_up_ne _ _ y, va_up_ne _ _ x]
        refine rtV rt rfl rfl ⟨rfl, rfl, ⟨?_, ?_, ?_, ?_, ?_, ?_, ?_, ?_, ?_⟩, fun i hi => ?_⟩
        · exact r0_h hb0 (fun k _ => by rw [kI _ (by decide) (by decide) (by decide), (hk2 100 (by omega)).1])
        · exact r1_h hb1 (by rw [kI _ (by decide) (by decide) (by decide), (hk2 100 (by omega)).1])
        · exact r2_h hb2 (by rw [kA _ (by decide) (by decide) (by decide) (by decide) (by decide), (hk2 (100 + 1) (by omega)).2.2.1])
        · intro v hv; rw [kI _ (by omega) (by omega) (by omega)]; exact (hmr v hv).1
        · intro v hv; rw [kI _ (by omega) (by omega) (by omega), kB _ (by omega) (by omega)]; exact (hmr v hv).2.1
        · intro v hv; rw [kA _ (by omega) (by omega) (by omega) (by omega) (by omega)]; exact (hmr v hv).2.2
        · refine ⟨?_, by rw [hI4]; rfl, fun k hk => ?_⟩
          · rw [hI4]; exact l3
          · show B4 104 k = _
            rw [hB4, show (va_up (va_up B2 104 (va_cpy (B2 204) (B2 104) 0 0 (gN (m 327)))) 107 (va_cpy (B2 207) (B2 107) 0 0 (gN (m 428)))) 104 = va_cpy (B2 204) (B2 104) 0 0 (gN (m 327)) from rfl, cpy_0 hk]
            exact h6.2.2 k hk
        · refine ⟨?_, by rw [hI4]; rfl, fun k hk => ?_⟩
          · rw [hI4]; exact l6
          · show B4 107 k = _
            rw [hB4, show (va_up (va_up B2 104 (va_cpy (B2 204) (B2 104) 0 0 (gN (m 327)))) 107 (va_cpy (B2 207) (B2 107) 0 0 (gN (m 428)))) 107 = va_cpy (B2 207) (B2 107) 0 0 (gN (m 428)) from rfl, cpy_0 hk]
            exact h7.2.2 k hk
        · refine ⟨by rw [hI4]; rfl, fun k hk => ⟨?_, ?_, ?_⟩⟩
          · show A4 110 k = _
            rw [hA4, show (va_up (va_up (va_up (va_up (va_up A2 105 (va_cpy (A2 205) (A2 105) 0 0 (gN (m 327)))) 108 (va_cpy (A2 208) (A2 108) 0 0 (gN (m 428)))) 110 (va_cpy (A2 210) (A2 110) 0 0 (gN (m 529)))) 111 (va_cpy (A2 211) (A2 111) 0 0 (gN (m 529)))) 112 (va_cpy (A2 212) (A2 112) 0 0 (gN (m 529)))) 110 = va_cpy (A2 210) (A2 110) 0 0 (gN (m 529)) from rfl, cpy_0 hk]
            exact (h8.2 k hk).1
          · show A4 111 k = _
            rw [hA4, show (va_up (va_up (va_up (va_up (va_up A2 105 (va_cpy (A2 205) (A2 105) 0 0 (gN (m 327)))) 108 (va_cpy (A2 208) (A2 108) 0 0 (gN (m 428)))) 110 (va_cpy (A2 210) (A2 110) 0 0 (gN (m 529)))) 111 (va_cpy (A2 211) (A2 111) 0 0 (gN (m 529)))) 112 (va_cpy (A2 212) (A2 112) 0 0 (gN (m 529)))) 111 = va_cpy (A2 211) (A2 111) 0 0 (gN (m 529)) from rfl, cpy_0 hk]
            exact (h8.2 k hk).2.1
          · show A4 112 k = _
            rw [hA4, show (va_up (va_up (va_up (va_up (va_up A2 105 (va_cpy (A2 205) (A2 105) 0 0 (gN (m 327)))) 108 (va_cpy (A2 208) (A2 108) 0 0 (gN (m 428)))) 110 (va_cpy (A2 210) (A2 110) 0 0 (gN (m 529)))) 111 (va_cpy (A2 211) (A2 111) 0 0 (gN (m 529)))) 112 (va_cpy (A2 212) (A2 112) 0 0 (gN (m 529)))) 112 = va_cpy (A2 212) (A2 112) 0 0 (gN (m 529)) from rfl, cpy_0 hk]
            exact (h8.2 k hk).2.2
        · rw [kI i (by omega) (by omega) (by omega), kA i (by omega) (by omega) (by omega) (by omega) (by omega), kB i (by omega) (by omega)]; exact ⟨(hk2 i (by omega)).1.trans (hk1 i hi).1, (hk2 i (by omega)).2.1.trans (hk1 i hi).2.1, (hk2 i (by omega)).2.2.1.trans (hk1 i hi).2.2.1, (hk2 i (by omega)).2.2.2.trans (hk1 i hi).2.2.2⟩
      · skip
        have hu : u < 6 := by omega
        have h4o := hRo2.2.2.2.2.1 u hu
        have h3o := hRo2.2.2.2.1 u hu
        have h5o := hRo2.2.2.2.2.2.1 u hu
        have hlu : I2 (120 + 4 * u + 1) 2 = nI 40 := hlm u hu
        refine S_n g 1 (pc' := 64) (lv' := [(0, .ref (ad 100)), (1, .ref (ad 200)), (2, .int (nI u))]) (st' := [.ref (ad 100)]) rfl ?_
        refine S_getR g (i := 100) (c := 7) (k := 1) (j := 102) (by decide) (by decide) rfl rfl rfl fl_X7_17 rfl ?_
        refine S_n g 1 (pc' := 68) (lv' := [(0, .ref (ad 100)), (1, .ref (ad 200)), (2, .int (nI u))]) (st' := [.int (nI u), .ref (ad 102)]) rfl ?_
        refine S_aaldN g (i := 102) (e := u) (j := 120 + 4 * u) (by decide) rfl (show u < 6 from by omega) (show (6 : Nat) < 2 ^ 31 from by decide) rfl rfl ?_
        refine S_n g 1 (pc' := 70) (lv' := [(0, .ref (ad 100)), (1, .ref (ad 200)), (2, .int (nI u))]) (st' := [.ref (ad 200), .ref (ad (120 + 4 * u))]) rfl ?_
        refine S_getR g (i := 200) (c := 7) (k := 1) (j := 202) (by decide) (by decide) rfl rfl rfl fl_X7_17 rfl ?_
        refine S_n g 1 (pc' := 74) (lv' := [(0, .ref (ad 100)), (1, .ref (ad 200)), (2, .int (nI u))]) (st' := [.int (nI u), .ref (ad 202), .ref (ad (120 + 4 * u))]) rfl ?_
        refine S_aaldN g (i := 202) (e := u) (j := 220 + 4 * u) (by decide) rfl (show u < 6 from by omega) (show (6 : Nat) < 2 ^ 31 from by decide) rfl rfl ?_
        refine S_callV g (i := 120 + 4 * u) (As := [.ref (ad (220 + 4 * u))]) (st := []) (mb_copy_r0 ad z1 I2 J2 A2 B2 u (lnG m u) hu h4o.2.1 (g5 u hu) hlu) mw_X2_copyFrom lk_X7_70 ⟨Nat.le_of_ble_eq_true rfl, Nat.le_of_ble_eq_true rfl⟩ (by omega) (by decide) (mb_u (ad := ad) (show isW true z1 100 from isW_100) hu).1 rfl (Nat.le_of_ble_eq_true rfl) ⟨Nat.le_of_ble_eq_true rfl, Nat.le_of_ble_eq_true rfl⟩ rfl (fun v' Y' I3 J3 A3 B3 hpo => ?_)
        obtain ⟨rfl, rfl, e1, e2, e3, e4⟩ := hpo
        show Sim X (YC ad true z1) 78 [(0, .ref (ad 100)), (1, .ref (ad 200)), (2, .int (nI u))] [] I3 J3 A3 B3 0 0
        have hk3 : ∀ i, i < 120 + 4 * u ∨ 124 + 4 * u ≤ i → I3 i = I2 i ∧ J3 i = J2 i ∧ A3 i = A2 i ∧ B3 i = B2 i := fun i hi => ⟨by rw [e1, u2r (by omega), u2r (by omega)], by rw [e2, u2r (by omega)], by rw [e3, va_up_ne _ _ (by omega)], by rw [e4, va_up_ne _ _ (by omega)]⟩
        have hmu : mR 100 m u I3 J3 A3 B3 := by
          show (J3 (120 + 4 * u) 1 = m (63 + u) ∧ I3 (120 + 4 * u) 2 = (m (69 + u)).toInt32) ∧ (I3 (120 + 4 * u + 1) 2 = nI 40 ∧ I3 (120 + 4 * u + 1) 3 = nI (lnG m u) ∧ ∀ k, k < lnG m u → B3 (120 + 4 * u + 1 + 1) k = m (87 + 40 * u + k)) ∧ ∀ k, k < lnG m u → A3 (120 + 4 * u + 1 + 2) k = cnX (fun p => (m (3 + p)).toInt32) (m (87 + 40 * u + k)) (12 * gN (m 0))
          rw [e1, e2, e3, e4]
          refine ⟨⟨(up2_same _ _ _ _).trans h3o.1, (up2_same _ _ _ _).trans h3o.2⟩, ⟨(u2j (Or.inl (by omega))).trans ((u2j (Or.inr (by decide))).trans hlu), (u2j (Or.inl (by omega))).trans (up2_same _ _ _ _), fun k hk => ?_⟩, fun k hk => ?_⟩
          · rw [va_up_self, cpy_0 hk]; exact h4o.2.2 k hk
          · rw [va_up_self, cpy_0 hk]; exact h5o k hk
        refine S_n g 1 (pc' := 81) (lv' := [(0, .ref (ad 100)), (1, .ref (ad 200)), (2, .int ((nI u) + nI 1))]) (st' := []) rfl ?_
        rw [nI_add u 1]
        refine S_n g 1 (pc' := 57) (lv' := [(0, .ref (ad 100)), (1, .ref (ad 200)), (2, .int (nI (u + 1)))]) (st' := []) rfl ?_
        exact lp (6 - (u + 1)) (by omega) (u + 1) I3 J3 A3 B3 rfl (by omega) (RepW_frb hRo2 (fun i a c => hk3 i (by omega))) (fun i hi => ⟨(hk3 i (by omega)).1.trans (hk2 i hi).1, (hk3 i (by omega)).2.1.trans (hk2 i hi).2.1, (hk3 i (by omega)).2.2.1.trans (hk2 i hi).2.2.1, (hk3 i (by omega)).2.2.2.trans (hk2 i hi).2.2.2⟩) (fun v hv => by by_cases e : v = u; (· subst e; exact hmu.2.1.1); (· rw [(hk3 _ (by omega)).1]; exact hlm v hv)) (fun v hv => by by_cases e : v = u; (· subst e; exact hmu); (· exact mR_fr (hmr v (by omega)) (fun i a c => hk3 i (by omega))))
  exact lp _ 0 I1 J A1 B rfl (Nat.zero_le _) hRo (fun i hi => ⟨rfl, rfl, rfl, rfl⟩) (fun v hv => by rw [kI1 _ (by omega)]; exact hL.2.2 v hv) (fun v hv => absurd hv (Nat.not_lt_zero v))

set_option maxRecDepth 100000 in
set_option maxHeartbeats 4000000 in
theorem mb_copy_r1 (ad : Nat → Nat) (z0 : Bool) (I : FI) (J : FJ) (A : FI) (B : FJ) (u n : Nat) (hu : u < 6) (hS : I (320 + 4 * u + 1) 3 = nI n) (hn : n ≤ 40) (hLm : I (120 + 4 * u + 1) 2 = nI 40) : Spec M_X2_copyFrom [.ref (ad (120 + 4 * u)), .ref (ad (320 + 4 * u))] (YC ad z0 true) I J A B (eqP none (YC ad z0 true) (up2 (up2 I (120 + 4 * u + 1) 3 (nI n)) (120 + 4 * u) 2 (I (320 + 4 * u) 2)) (up2 J (120 + 4 * u) 1 (J (320 + 4 * u) 1)) (va_up A (120 + 4 * u + 1 + 2) (va_cpy (A (320 + 4 * u + 1 + 2)) (A (120 + 4 * u + 1 + 2)) 0 0 n)) (va_up B (120 + 4 * u + 1 + 1) (va_cpy (B (320 + 4 * u + 1 + 1)) (B (120 + 4 * u + 1 + 1)) 0 0 n))) := by
  have hmb := mb_u (ad := ad) (show isW z0 true 100 from isW_100) hu
  have hmo := mb_u (ad := ad) (show isW z0 true 300 from isW_300) hu
  refine Spec_of (by decide) tk_X2_copyFrom (Nat.le_of_ble_eq_true rfl) (fun X g rt => ?_)
  show Sim X (YC ad z0 true) 0 [(0, .ref (ad (120 + 4 * u))), (1, .ref (ad (320 + 4 * u)))] [] I J A B 0 0
  refine S_n g 1 (pc' := 1) (lv' := [(0, .ref (ad (120 + 4 * u))), (1, .ref (ad (320 + 4 * u)))]) (st' := [.ref (ad (120 + 4 * u))]) rfl ?_
  refine S_getR g (i := 120 + 4 * u) (c := 2) (k := 0) (j := 120 + 4 * u + 1) (by omega) (by decide) (mb_u (ad := ad) (show isW z0 true 100 from isW_100) hu).1 rfl (mb_u (ad := ad) (show isW z0 true 100 from isW_100) hu).2.1 fl_X2_14 rfl ?_
  refine S_n g 1 (pc' := 5) (lv' := [(0, .ref (ad (120 + 4 * u))), (1, .ref (ad (320 + 4 * u)))]) (st' := [.ref (ad (320 + 4 * u)), .ref (ad (120 + 4 * u + 1))]) rfl ?_
  refine S_getR g (i := 320 + 4 * u) (c := 2) (k := 0) (j := 320 + 4 * u + 1) (by omega) (by decide) (mb_u (ad := ad) (show isW z0 true 300 from isW_300) hu).1 rfl (mb_u (ad := ad) (show isW z0 true 300 from isW_300) hu).2.1 fl_X2_14 rfl ?_
  refine S_cV g (i := 120 + 4 * u + 1) (As := [.ref (ad (320 + 4 * u + 1))]) (st := []) (sl_copyFrom ad z0 true I J A B (120 + 4 * u + 1) (320 + 4 * u + 1) 40 n hmb.2.2 hmo.2.2 (by decide) hS hn hLm) mw_X6_copyFrom lk_X2_44 ⟨Nat.le_of_ble_eq_true rfl, Nat.le_of_ble_eq_true rfl⟩ (by omega) (by decide) (mb_u (ad := ad) (show isW z0 true 100 from isW_100) hu).2.2.2.1 rfl (Nat.le_of_ble_eq_true rfl) ⟨Nat.le_of_ble_eq_true rfl, Nat.le_of_ble_eq_true rfl⟩ rfl ?_
  show Sim X (YC ad z0 true) 11 [(0, .ref (ad (120 + 4 * u))), (1, .ref (ad (320 + 4 * u)))] [] (up2 I (120 + 4 * u + 1) 3 (nI n)) J (va_up A (120 + 4 * u + 1 + 2) (va_cpy (A (320 + 4 * u + 1 + 2)) (A (120 + 4 * u + 1 + 2)) 0 0 n)) (va_up B (120 + 4 * u + 1 + 1) (va_cpy (B (320 + 4 * u + 1 + 1)) (B (120 + 4 * u + 1 + 1)) 0 0 n)) 0 0
  refine S_n g 2 (pc' := 13) (lv' := [(0, .ref (ad (120 + 4 * u))), (1, .ref (ad (320 + 4 * u)))]) (st' := [.ref (ad (320 + 4 * u)), .ref (ad (120 + 4 * u))]) rfl ?_
  refine S_getJ g (i := 320 + 4 * u) (c := 2) (k := 1) (by omega) (by decide) (mb_u (ad := ad) (show isW z0 true 300 from isW_300) hu).1 rfl fl_X2_24 rfl ?_
  refine S_putJ g (i := 120 + 4 * u) (c := 2) (k := 1) (by omega) (by decide) (mb_u (ad := ad) (show isW z0 true 100 from isW_100) hu).1 rfl fw_X2_24 rfl ?_
  refine S_n g 2 (pc' := 21) (lv' := [(0, .ref (ad (120 + 4 * u))), (1, .ref (ad (320 + 4 * u)))]) (st' := [.ref (ad (320 + 4 * u)), .ref (ad (120 + 4 * u))]) rfl ?_
  refine S_getI g (i := 320 + 4 * u) (c := 2) (k := 2) (by omega) (by decide) (mb_u (ad := ad) (show isW z0 true 300 from isW_300) hu).1 rfl fl_X2_28 rfl ?_
  rw [up2_ne _ _ _ _ (show 320 + 4 * u ≠ 120 + 4 * u + 1 from (by omega))]
  refine S_putI g (i := 120 + 4 * u) (c := 2) (k := 2) (kd := 0) (by omega) (by decide) (mb_u (ad := ad) (show isW z0 true 100 from isW_100) hu).1 rfl (by decide) fw_X2_28 rfl rfl rfl ?_
  exact rtV rt rfl rfl eqP_rf

set_option maxRecDepth 100000 in
set_option maxHeartbeats 4000000 in
theorem pl_copy_r1 (ad : Nat → Nat) (z0 : Bool) (I : FI) (J : FJ) (A : FI) (B : FJ) (n : Nat) (hS : I 309 3 = nI n) (hn : n ≤ 30) : Spec M_X3_copyFrom [.ref (ad 109), .ref (ad 309)] (YC ad z0 true) I J A B (eqP none (YC ad z0 true) (up2 I 109 3 (nI n)) J (va_up (va_up (va_up A 110 (va_cpy (A 310) (A 110) 0 0 n)) 111 (va_cpy (A 311) (A 111) 0 0 n)) 112 (va_cpy (A 312) (A 112) 0 0 n)) B) := by
  refine Spec_of (by decide) tk_X3_copyFrom (Nat.le_of_ble_eq_true rfl) (fun X g rt => ?_)
  show Sim X (YC ad z0 true) 0 [(0, .ref (ad 109)), (1, .ref (ad 309))] [] I J A B 0 0
  refine S_n g 2 (pc' := 2) (lv' := [(0, .ref (ad 109)), (1, .ref (ad 309))]) (st' := [.ref (ad 309), .ref (ad 109)]) rfl ?_
  refine S_getI g (i := 309) (c := 3) (k := 3) (by decide) (by decide) rfl rfl fl_X3_21 rfl ?_
  rw [hS]
  refine S_putI g (i := 109) (c := 3) (k := 3) (kd := 0) (by decide) (by decide) rfl rfl (by decide) fw_X3_21 rfl rfl rfl ?_
  refine S_n g 1 (pc' := 9) (lv' := [(0, .ref (ad 109)), (1, .ref (ad 309))]) (st' := [.ref (ad 309)]) rfl ?_
  refine S_getR g (i := 309) (c := 3) (k := 0) (j := 310) (by decide) (by decide) rfl rfl rfl fl_X3_9 rfl ?_
  refine S_n g 2 (pc' := 14) (lv' := [(0, .ref (ad 109)), (1, .ref (ad 309))]) (st' := [.ref (ad 109), .int (nI 0), .ref (ad 310)]) rfl ?_
  refine S_getR g (i := 109) (c := 3) (k := 0) (j := 110) (by decide) (by decide) rfl rfl rfl fl_X3_9 rfl ?_
  refine S_n g 2 (pc' := 19) (lv' := [(0, .ref (ad 109)), (1, .ref (ad 309))]) (st' := [.ref (ad 109), .int (nI 0), .ref (ad 110), .int (nI 0), .ref (ad 310)]) rfl ?_
  refine S_getI g (i := 109) (c := 3) (k := 3) (by decide) (by decide) rfl rfl fl_X3_21 rfl ?_
  show Sim X (YC ad z0 true) 22 [(0, .ref (ad 109)), (1, .ref (ad 309))] [.int (nI n), .int (nI 0), .ref (ad 110), .int (nI 0), .ref (ad 310)] (up2 I 109 3 (nI n)) J A B 0 0
  refine S_copyi g (i := 310) (j := 110) (by decide) rfl (by decide) rfl lc_X3_25 ac_nat ac_stat ac_ini (nI_pos (by omega)) (nI_pos (by omega)) (nI_pos (by omega)) (by rw [nI_clamp (n := 0) (by omega), nI_clamp (n := n) (by omega)]; exact (show (0) + (n) ≤ 30 from by omega)) (by rw [nI_clamp (n := 0) (by omega), nI_clamp (n := n) (by omega)]; exact (show (0) + (n) ≤ 30 from by omega)) (Nat.le_of_ble_eq_true rfl) (Nat.le_of_ble_eq_true rfl) rfl ?_
  rw [nI_clamp (n := 0) (by omega), nI_clamp (n := n) (by omega)]
  show Sim X (YC ad z0 true) 25 [(0, .ref (ad 109)), (1, .ref (ad 309))] [] (up2 I 109 3 (nI n)) J (va_up A 110 (va_cpy (A 310) (A 110) 0 0 n)) B 0 0
  refine S_n g 1 (pc' := 26) (lv' := [(0, .ref (ad 109)), (1, .ref (ad 309))]) (st' := [.ref (ad 309)]) rfl ?_
  refine S_getR g (i := 309) (c := 3) (k := 1) (j := 311) (by decide) (by decide) rfl rfl rfl fl_X3_15 rfl ?_
  refine S_n g 2 (pc' := 31) (lv' := [(0, .ref (ad 109)), (1, .ref (ad 309))]) (st' := [.ref (ad 109), .int (nI 0), .ref (ad 311)]) rfl ?_
  refine S_getR g (i := 109) (c := 3) (k := 1) (j := 111) (by decide) (by decide) rfl rfl rfl fl_X3_15 rfl ?_
  refine S_n g 2 (pc' := 36) (lv' := [(0, .ref (ad 109)), (1, .ref (ad 309))]) (st' := [.ref (ad 109), .int (nI 0), .ref (ad 111), .int (nI 0), .ref (ad 311)]) rfl ?_
  refine S_getI g (i := 109) (c := 3) (k := 3) (by decide) (by decide) rfl rfl fl_X3_21 rfl ?_
  show Sim X (YC ad z0 true) 39 [(0, .ref (ad 109)), (1, .ref (ad 309))] [.int (nI n), .int (nI 0), .ref (ad 111), .int (nI 0), .ref (ad 311)] (up2 I 109 3 (nI n)) J (va_up A 110 (va_cpy (A 310) (A 110) 0 0 n)) B 0 0
  refine S_copyi g (i := 311) (j := 111) (by decide) rfl (by decide) rfl lc_X3_25 ac_nat ac_stat ac_ini (nI_pos (by omega)) (nI_pos (by omega)) (nI_pos (by omega)) (by rw [nI_clamp (n := 0) (by omega), nI_clamp (n := n) (by omega)]; exact (show (0) + (n) ≤ 30 from by omega)) (by rw [nI_clamp (n := 0) (by omega), nI_clamp (n := n) (by omega)]; exact (show (0) + (n) ≤ 30 from by omega)) (Nat.le_of_ble_eq_true rfl) (Nat.le_of_ble_eq_true rfl) rfl ?_
  rw [nI_clamp (n := 0) (by omega), nI_clamp (n := n) (by omega)]
  show Sim X (YC ad z0 true) 42 [(0, .ref (ad 109)), (1, .ref (ad 309))] [] (up2 I 109 3 (nI n)) J (va_up (va_up A 110 (va_cpy (A 310) (A 110) 0 0 n)) 111 (va_cpy (A 311) (A 111) 0 0 n)) B 0 0
  refine S_n g 1 (pc' := 43) (lv' := [(0, .ref (ad 109)), (1, .ref (ad 309))]) (st' := [.ref (ad 309)]) rfl ?_
  refine S_getR g (i := 309) (c := 3) (k := 2) (j := 312) (by decide) (by decide) rfl rfl rfl fl_X3_18 rfl ?_
  refine S_n g 2 (pc' := 48) (lv' := [(0, .ref (ad 109)), (1, .ref (ad 309))]) (st' := [.ref (ad 109), .int (nI 0), .ref (ad 312)]) rfl ?_
  refine S_getR g (i := 109) (c := 3) (k := 2) (j := 112) (by decide) (by decide) rfl rfl rfl fl_X3_18 rfl ?_
  refine S_n g 2 (pc' := 53) (lv' := [(0, .ref (ad 109)), (1, .ref (ad 309))]) (st' := [.ref (ad 109), .int (nI 0), .ref (ad 112), .int (nI 0), .ref (ad 312)]) rfl ?_
  refine S_getI g (i := 109) (c := 3) (k := 3) (by decide) (by decide) rfl rfl fl_X3_21 rfl ?_
  show Sim X (YC ad z0 true) 56 [(0, .ref (ad 109)), (1, .ref (ad 309))] [.int (nI n), .int (nI 0), .ref (ad 112), .int (nI 0), .ref (ad 312)] (up2 I 109 3 (nI n)) J (va_up (va_up A 110 (va_cpy (A 310) (A 110) 0 0 n)) 111 (va_cpy (A 311) (A 111) 0 0 n)) B 0 0
  refine S_copyi g (i := 312) (j := 112) (by decide) rfl (by decide) rfl lc_X3_25 ac_nat ac_stat ac_ini (nI_pos (by omega)) (nI_pos (by omega)) (nI_pos (by omega)) (by rw [nI_clamp (n := 0) (by omega), nI_clamp (n := n) (by omega)]; exact (show (0) + (n) ≤ 30 from by omega)) (by rw [nI_clamp (n := 0) (by omega), nI_clamp (n := n) (by omega)]; exact (show (0) + (n) ≤ 30 from by omega)) (Nat.le_of_ble_eq_true rfl) (Nat.le_of_ble_eq_true rfl) rfl ?_
  rw [nI_clamp (n := 0) (by omega), nI_clamp (n := n) (by omega)]
  show Sim X (YC ad z0 true) 59 [(0, .ref (ad 109)), (1, .ref (ad 309))] [] (up2 I 109 3 (nI n)) J (va_up (va_up (va_up A 110 (va_cpy (A 310) (A 110) 0 0 n)) 111 (va_cpy (A 311) (A 111) 0 0 n)) 112 (va_cpy (A 312) (A 112) 0 0 n)) B 0 0
  exact rtV rt rfl rfl eqP_rf

set_option maxRecDepth 100000 in
set_option maxHeartbeats 4000000 in
theorem w_copy_r1 (ad : Nat → Nat) (z0 : Bool) (I : FI) (J : FJ) (A : FI) (B : FJ) (m : Nat → Int64) (hG : WG m) (hR : RepW 300 m I J A B) (hL : Lim 100 I) : Spec M_X7_copyFrom [.ref (ad 100), .ref (ad 300)] (YC ad z0 true) I J A B (fun v' Y' I' J' A' B' => v' = none ∧ Y' = YC ad z0 true ∧ RepW 100 m I' J' A' B' ∧ kpB 100 I J A B I' J' A' B') := by
  obtain ⟨g0, g1, g2, g3, g4, g5⟩ := WGn hG
  have hI5 := hR.1
  have hR0 := hR
  refine Spec_of (by decide) tk_X7_copyFrom (Nat.le_of_ble_eq_true rfl) (fun X g rt => ?_)
  show Sim X (YC ad z0 true) 0 [(0, .ref (ad 100)), (1, .ref (ad 300))] [] I J A B 0 0
  have i5 : I 300 5 = (m 0).toInt32 := hR.1.1
  have i6 : I 300 6 = (m 1).toInt32 := hR.1.2.1
  have i7 : I 300 7 = (m 2).toInt32 := hR.1.2.2.1
  have i9 : I 300 9 = (m 620).toInt32 := hR.1.2.2.2
  have i8 : I 300 8 = preS m (gN (m 1)) := hR.2.1
  refine S_n g 2 (pc' := 2) (lv' := [(0, .ref (ad 100)), (1, .ref (ad 300))]) (st' := [.ref (ad 300), .ref (ad 100)]) rfl ?_
  refine S_getI g (i := 300) (c := 7) (k := 5) (by decide) (by decide) rfl rfl fl_X7_41 rfl ?_
  rw [i5]
  refine S_putI g (i := 100) (c := 7) (k := 5) (kd := 0) (by decide) (by decide) rfl rfl (by decide) fw_X7_41 rfl rfl rfl ?_
  refine S_n g 2 (pc' := 10) (lv' := [(0, .ref (ad 100)), (1, .ref (ad 300))]) (st' := [.ref (ad 300), .ref (ad 100)]) rfl ?_
  refine S_getI g (i := 300) (c := 7) (k := 6) (by decide) (by decide) rfl rfl fl_X7_45 rfl ?_
  show Sim X (YC ad z0 true) 13 [(0, .ref (ad 100)), (1, .ref (ad 300))] [.int (I 300 6), .ref (ad 100)] (up2 I 100 5 (m 0).toInt32) J A B 0 0
  rw [i6]
  refine S_putI g (i := 100) (c := 7) (k := 6) (kd := 0) (by decide) (by decide) rfl rfl (by decide) fw_X7_45 rfl rfl rfl ?_
  refine S_n g 2 (pc' := 18) (lv' := [(0, .ref (ad 100)), (1, .ref (ad 300))]) (st' := [.ref (ad 300), .ref (ad 100)]) rfl ?_
  refine S_getI g (i := 300) (c := 7) (k := 7) (by decide) (by decide) rfl rfl fl_X7_48 rfl ?_
  show Sim X (YC ad z0 true) 21 [(0, .ref (ad 100)), (1, .ref (ad 300))] [.int (I 300 7), .ref (ad 100)] (up2 (up2 I 100 5 (m 0).toInt32) 100 6 (m 1).toInt32) J A B 0 0
  rw [i7]
  refine S_putI g (i := 100) (c := 7) (k := 7) (kd := 0) (by decide) (by decide) rfl rfl (by decide) fw_X7_48 rfl rfl rfl ?_
  refine S_n g 2 (pc' := 26) (lv' := [(0, .ref (ad 100)), (1, .ref (ad 300))]) (st' := [.ref (ad 300), .ref (ad 100)]) rfl ?_
  refine S_getI g (i := 300) (c := 7) (k := 8) (by decide) (by decide) rfl rfl fl_X7_51 rfl ?_
  show Sim X (YC ad z0 true) 29 [(0, .ref (ad 100)), (1, .ref (ad 300))] [.int (I 300 8), .ref (ad 100)] (up2 (up2 (up2 I 100 5 (m 0).toInt32) 100 6 (m 1).toInt32) 100 7 (m 2).toInt32) J A B 0 0
  rw [i8]
  refine S_putI g (i := 100) (c := 7) (k := 8) (kd := 0) (by decide) (by decide) rfl rfl (by decide) fw_X7_51 rfl rfl rfl ?_
  refine S_n g 2 (pc' := 34) (lv' := [(0, .ref (ad 100)), (1, .ref (ad 300))]) (st' := [.ref (ad 300), .ref (ad 100)]) rfl ?_
  refine S_getI g (i := 300) (c := 7) (k := 9) (by decide) (by decide) rfl rfl fl_X7_54 rfl ?_
  show Sim X (YC ad z0 true) 37 [(0, .ref (ad 100)), (1, .ref (ad 300))] [.int (I 300 9), .ref (ad 100)] (up2 (up2 (up2 (up2 I 100 5 (m 0).toInt32) 100 6 (m 1).toInt32) 100 7 (m 2).toInt32) 100 8 (preS m (gN (m 1)))) J A B 0 0
  rw [i9]
  refine S_putI g (i := 100) (c := 7) (k := 9) (kd := 0) (by decide) (by decide) rfl rfl (by decide) fw_X7_54 rfl rfl rfl ?_
  refine S_n g 1 (pc' := 41) (lv' := [(0, .ref (ad 100)), (1, .ref (ad 300))]) (st' := [.ref (ad 300)]) rfl ?_
  refine S_getR g (i := 300) (c := 7) (k := 0) (j := 301) (by decide) (by decide) rfl rfl rfl fl_X7_9 rfl ?_
  refine S_n g 2 (pc' := 46) (lv' := [(0, .ref (ad 100)), (1, .ref (ad 300))]) (st' := [.ref (ad 100), .int (nI 0), .ref (ad 301)]) rfl ?_
  refine S_getR g (i := 100) (c := 7) (k := 0) (j := 101) (by decide) (by decide) rfl rfl rfl fl_X7_9 rfl ?_
  refine S_n g 2 (pc' := 52) (lv' := [(0, .ref (ad 100)), (1, .ref (ad 300))]) (st' := [.int (nI 60), .int (nI 0), .ref (ad 101), .int (nI 0), .ref (ad 301)]) rfl ?_
  refine S_copyi g (i := 301) (j := 101) (by decide) rfl (by decide) rfl lc_X7_64 ac_nat ac_stat ac_ini (nI_pos (by omega)) (nI_pos (by omega)) (nI_pos (by omega)) (by rw [nI_clamp (n := 0) (by omega), nI_clamp (n := 60) (by omega)]; exact (show (0) + (60) ≤ 60 from by omega)) (by rw [nI_clamp (n := 0) (by omega), nI_clamp (n := 60) (by omega)]; exact (show (0) + (60) ≤ 60 from by omega)) (Nat.le_of_ble_eq_true rfl) (Nat.le_of_ble_eq_true rfl) rfl ?_
  rw [nI_clamp (n := 0) (by omega), nI_clamp (n := 60) (by omega)]
  show Sim X (YC ad z0 true) 55 [(0, .ref (ad 100)), (1, .ref (ad 300))] [] (up2 (up2 (up2 (up2 (up2 I 100 5 (m 0).toInt32) 100 6 (m 1).toInt32) 100 7 (m 2).toInt32) 100 8 (preS m (gN (m 1)))) 100 9 (m 620).toInt32) J (va_up A 101 (va_cpy (A 301) (A 101) 0 0 60)) B 0 0
  refine S_n g 2 (pc' := 57) (lv' := [(0, .ref (ad 100)), (1, .ref (ad 300)), (2, .int (nI 0))]) (st' := []) rfl ?_
  obtain ⟨I1, hI1⟩ : ∃ I1 : FI, I1 = up2 (up2 (up2 (up2 (up2 I 100 5 (m 0).toInt32) 100 6 (m 1).toInt32) 100 7 (m 2).toInt32) 100 8 (preS m (gN (m 1)))) 100 9 (m 620).toInt32 := ⟨_, rfl⟩
  obtain ⟨A1, hA1⟩ : ∃ A1 : FI, A1 = va_up A 101 (va_cpy (A 301) (A 101) 0 0 60) := ⟨_, rfl⟩
  rw [← hI1, ← hA1]
  show Sim X (YC ad z0 true) 57 [(0, .ref (ad 100)), (1, .ref (ad 300)), (2, .int (nI 0))] [] I1 J A1 B 0 0
  have kI1 : ∀ i, i ≠ 100 → I1 i = I i := fun i hi => by rw [hI1, u2r hi, u2r hi, u2r hi, u2r hi, u2r hi]
  have kA1 : ∀ i, i ≠ 101 → A1 i = A i := fun i hi => by rw [hA1, va_up_ne _ _ hi]
  have hb0 : r0w 100 m I1 J A1 B := by unfold r0w; rw [hI1]; exact ⟨rfl, rfl, rfl, rfl⟩
  have hb1 : r1w 100 m I1 J A1 B := by unfold r1w; rw [hI1]; rfl
  have hb2 : r2w 100 m I1 J A1 B := fun p hp => by rw [hA1, show va_up A 101 (va_cpy (A 301) (A 101) 0 0 60) (100 + 1) p = va_cpy (A 301) (A 101) 0 0 60 p from by rw [va_up_self], cpy_0 hp]; exact hR.2.2.1 p hp
  have hRo : RepW 300 m I1 J A1 B := RepW_frb hR (fun i a c => ⟨kI1 i (by omega), rfl, kA1 i (by omega), rfl⟩)
  have hk1 : kpB 100 I J A B I1 J A1 B := fun i hi => ⟨kI1 i (by omega), rfl, kA1 i (by omega), rfl⟩
  have lp : ∀ (nn : Nat) (u : Nat) (I2 : FI) (J2 : FJ) (A2 : FI) (B2 : FJ), 6 - u = nn → (u ≤ 6) → (RepW 300 m I2 J2 A2 B2) → (∀ i, i < 120 ∨ 144 ≤ i → I2 i = I1 i ∧ J2 i = J i ∧ A2 i = A1 i ∧ B2 i = B i) → (∀ v, v < 6 → I2 (100 + 20 + 4 * v + 1) 2 = nI 40) → (∀ v, v < u → mR 100 m v I2 J2 A2 B2) → Sim X (YC ad z0 true) 57 [(0, .ref (ad 100)), (1, .ref (ad 300)), (2, .int (nI u))] [] I2 J2 A2 B2 0 0 := by
    intro nn
    induction nn using Nat.strongRecOn with
    | ind nn ih =>
      intro u I2 J2 A2 B2 hmz hu0 hRo2 hk2 hlm hmr
      have lp := ih
      refine S_n g 2 (pc' := 60) (lv' := [(0, .ref (ad 100)), (1, .ref (ad 300)), (2, .int (nI u))]) (st' := [.int (nI 6), .int (nI u)]) rfl ?_
      refine S_icN_ge g (tgt := 84) (by omega) (by omega) rfl (by decide) (fun qz60 => ?_) (fun qz60 => ?_)
      · skip
        have hu9 : u = 6 := by omega
        subst hu9
        have h6 := hRo2.2.2.2.2.2.2.1
        have h7 := hRo2.2.2.2.2.2.2.2.1
        have h8 := hRo2.2.2.2.2.2.2.2.2
        have l3 : I2 103 2 = nI 100 := by rw [(hk2 103 (by omega)).1, kI1 _ (by decide)]; exact hL.1
        have l6 : I2 106 2 = nI 100 := by rw [(hk2 106 (by omega)).1, kI1 _ (by decide)]; exact hL.2.1
        refine S_n g 1 (pc' := 85) (lv' := [(0, .ref (ad 100)), (1, .ref (ad 300)), (2, .int (nI 6))]) (st' := [.ref (ad 100)]) rfl ?_
        refine S_getR g (i := 100) (c := 7) (k := 2) (j := 103) (by decide) (by decide) rfl rfl rfl fl_X7_26 rfl ?_
        refine S_n g 1 (pc' := 89) (lv' := [(0, .ref (ad 100)), (1, .ref (ad 300)), (2, .int (nI 6))]) (st' := [.ref (ad 300), .ref (ad 103)]) rfl ?_
        refine S_getR g (i := 300) (c := 7) (k := 2) (j := 303) (by decide) (by decide) rfl rfl rfl fl_X7_26 rfl ?_
        refine S_cV g (i := 103) (As := [.ref (ad 303)]) (st := []) (sl_copyFrom ad z0 true I2 J2 A2 B2 103 303 100 (gN (m 327)) (sl_q (show isW z0 true 100 from isW_100)) (sl_q (show isW z0 true 300 from isW_300)) (by decide) h6.2.1 g2 l3) mw_X6_copyFrom lk_X7_74 ⟨Nat.le_of_ble_eq_true rfl, Nat.le_of_ble_eq_true rfl⟩ (by decide) (by decide) rfl rfl (Nat.le_of_ble_eq_true rfl) ⟨Nat.le_of_ble_eq_true rfl, Nat.le_of_ble_eq_true rfl⟩ rfl ?_
        show Sim X (YC ad z0 true) 95 [(0, .ref (ad 100)), (1, .ref (ad 300)), (2, .int (nI 6))] [] (up2 I2 103 3 (nI (gN (m 327)))) J2 (va_up A2 105 (va_cpy (A2 305) (A2 105) 0 0 (gN (m 327)))) (va_up B2 104 (va_cpy (B2 304) (B2 104) 0 0 (gN (m 327)))) 0 0
        refine S_n g 1 (pc' := 96) (lv' := [(0, .ref (ad 100)), (1, .ref (ad 300)), (2, .int (nI 6))]) (st' := [.ref (ad 100)]) rfl ?_
        refine S_getR g (i := 100) (c := 7) (k := 3) (j := 106) (by decide) (by decide) rfl rfl rfl fl_X7_30 rfl ?_
        refine S_n g 1 (pc' := 100) (lv' := [(0, .ref (ad 100)), (1, .ref (ad 300)), (2, .int (nI 6))]) (st' := [.ref (ad 300), .ref (ad 106)]) rfl ?_
        refine S_getR g (i := 300) (c := 7) (k := 3) (j := 306) (by decide) (by decide) rfl rfl rfl fl_X7_30 rfl ?_
        refine S_cV g (i := 106) (As := [.ref (ad 306)]) (st := []) (sl_copyFrom ad z0 true (up2 I2 103 3 (nI (gN (m 327)))) J2 (va_up A2 105 (va_cpy (A2 305) (A2 105) 0 0 (gN (m 327)))) (va_up B2 104 (va_cpy (B2 304) (B2 104) 0 0 (gN (m 327)))) 106 306 100 (gN (m 428)) (sl_h (show isW z0 true 100 from isW_100)) (sl_h (show isW z0 true 300 from isW_300)) (by decide) ((u2j (Or.inl (by decide))).trans h7.2.1) g3 ((u2j (Or.inl (by decide))).trans l6)) mw_X6_copyFrom lk_X7_74 ⟨Nat.le_of_ble_eq_true rfl, Nat.le_of_ble_eq_true rfl⟩ (by decide) (by decide) rfl rfl (Nat.le_of_ble_eq_true rfl) ⟨Nat.le_of_ble_eq_true rfl, Nat.le_of_ble_eq_true rfl⟩ rfl ?_
        show Sim X (YC ad z0 true) 106 [(0, .ref (ad 100)), (1, .ref (ad 300)), (2, .int (nI 6))] [] (up2 (up2 I2 103 3 (nI (gN (m 327)))) 106 3 (nI (gN (m 428)))) J2 (va_up (va_up A2 105 (va_cpy (A2 305) (A2 105) 0 0 (gN (m 327)))) 108 (va_cpy (A2 308) (A2 108) 0 0 (gN (m 428)))) (va_up (va_up B2 104 (va_cpy (B2 304) (B2 104) 0 0 (gN (m 327)))) 107 (va_cpy (B2 307) (B2 107) 0 0 (gN (m 428)))) 0 0
        refine S_n g 1 (pc' := 107) (lv' := [(0, .ref (ad 100)), (1, .ref (ad 300)), (2, .int (nI 6))]) (st' := [.ref (ad 100)]) rfl ?_
        refine S_getR g (i := 100) (c := 7) (k := 4) (j := 109) (by decide) (by decide) rfl rfl rfl fl_X7_36 rfl ?_
        refine S_n g 1 (pc' := 111) (lv' := [(0, .ref (ad 100)), (1, .ref (ad 300)), (2, .int (nI 6))]) (st' := [.ref (ad 300), .ref (ad 109)]) rfl ?_
        refine S_getR g (i := 300) (c := 7) (k := 4) (j := 309) (by decide) (by decide) rfl rfl rfl fl_X7_36 rfl ?_
        refine S_cV g (i := 109) (As := [.ref (ad 309)]) (st := []) (pl_copy_r1 ad z0 (up2 (up2 I2 103 3 (nI (gN (m 327)))) 106 3 (nI (gN (m 428)))) J2 (va_up (va_up A2 105 (va_cpy (A2 305) (A2 105) 0 0 (gN (m 327)))) 108 (va_cpy (A2 308) (A2 108) 0 0 (gN (m 428)))) (va_up (va_up B2 104 (va_cpy (B2 304) (B2 104) 0 0 (gN (m 327)))) 107 (va_cpy (B2 307) (B2 107) 0 0 (gN (m 428)))) (gN (m 529)) ((u2j (Or.inl (by decide))).trans ((u2j (Or.inl (by decide))).trans h8.1)) g4) mw_X3_copyFrom lk_X7_77 ⟨Nat.le_of_ble_eq_true rfl, Nat.le_of_ble_eq_true rfl⟩ (by decide) (by decide) rfl rfl (Nat.le_of_ble_eq_true rfl) ⟨Nat.le_of_ble_eq_true rfl, Nat.le_of_ble_eq_true rfl⟩ rfl ?_
        show Sim X (YC ad z0 true) 117 [(0, .ref (ad 100)), (1, .ref (ad 300)), (2, .int (nI 6))] [] (up2 (up2 (up2 I2 103 3 (nI (gN (m 327)))) 106 3 (nI (gN (m 428)))) 109 3 (nI (gN (m 529)))) J2 (va_up (va_up (va_up (va_up (va_up A2 105 (va_cpy (A2 305) (A2 105) 0 0 (gN (m 327)))) 108 (va_cpy (A2 308) (A2 108) 0 0 (gN (m 428)))) 110 (va_cpy (A2 310) (A2 110) 0 0 (gN (m 529)))) 111 (va_cpy (A2 311) (A2 111) 0 0 (gN (m 529)))) 112 (va_cpy (A2 312) (A2 112) 0 0 (gN (m 529)))) (va_up (va_up B2 104 (va_cpy (B2 304) (B2 104) 0 0 (gN (m 327)))) 107 (va_cpy (B2 307) (B2 107) 0 0 (gN (m 428)))) 0 0
        obtain ⟨I4, hI4⟩ : ∃ I4 : FI, I4 = up2 (up2 (up2 I2 103 3 (nI (gN (m 327)))) 106 3 (nI (gN (m 428)))) 109 3 (nI (gN (m 529))) := ⟨_, rfl⟩
        obtain ⟨A4, hA4⟩ : ∃ A4 : FI, A4 = va_up (va_up (va_up (va_up (va_up A2 105 (va_cpy (A2 305) (A2 105) 0 0 (gN (m 327)))) 108 (va_cpy (A2 308) (A2 108) 0 0 (gN (m 428)))) 110 (va_cpy (A2 310) (A2 110) 0 0 (gN (m 529)))) 111 (va_cpy (A2 311) (A2 111) 0 0 (gN (m 529)))) 112 (va_cpy (A2 312) (A2 112) 0 0 (gN (m 529))) := ⟨_, rfl⟩
        obtain ⟨B4, hB4⟩ : ∃ B4 : FJ, B4 = va_up (va_up B2 104 (va_cpy (B2 304) (B2 104) 0 0 (gN (m 327)))) 107 (va_cpy (B2 307) (B2 107) 0 0 (gN (m 428))) := ⟨_, rfl⟩
        rw [← hI4, ← hA4, ← hB4]
        show Sim X (YC ad z0 true) 117 [(0, .ref (ad 100)), (1, .ref (ad 300)), (2, .int (nI 6))] [] I4 J2 A4 B4 0 0
        have kI : ∀ i, i ≠ 103 → i ≠ 106 → i ≠ 109 → I4 i = I2 i := fun i x y z => by rw [hI4, u2r z, u2r y, u2r x]
        have kA : ∀ i, i ≠ 105 → i ≠ 108 → i ≠ 110 → i ≠ 111 → i ≠ 112 → A4 i = A2 i := fun i x y z p q => by rw [hA4, va_up_ne _ _ q, va_up_ne _ _ p, va_up_ne _ _ z, va_up_ne _ _ y, va_up_ne _ _ x]
        have kB : ∀ i, i ≠ 104 → i ≠ 107 → B4 i = B2 i := fun i x y => by rw [hB4, va_up_ne _ _ y, va_up_ne _ _ x]
        refine rtV rt rfl rfl ⟨rfl, rfl, ⟨?_, ?_, ?_, ?_, ?_, ?_, ?_, ?_, ?_⟩, fun i hi => ?_⟩
        · exact r0_h hb0 (fun k _ => by rw [kI _ (by decide) (by decide) (by decide), (hk2 100 (by omega)).1])
        · exact r1_h hb1 (by rw [kI _ (by decide) (by decide) (by decide), (hk2 100 (by omega)).1])
        · exact r2_h hb2 (by rw [kA _ (by decide) (by decide) (by decide) (by decide) (by decide), (hk2 (100 + 1) (by omega)).2.2.1])
        · intro v hv; rw [kI _ (by omega) (by omega) (by omega)]; exact (hmr v hv).1
        · intro v hv; rw [kI _ (by omega) (by omega) (by omega), kB _ (by omega) (by omega)]; exact (hmr v hv).2.1
        · intro v hv; rw [kA _ (by omega) (by omega) (by omega) (by omega) (by omega)]; exact (hmr v hv).2.2
        · refine ⟨?_, by rw [hI4]; rfl, fun k hk => ?_⟩
          · rw [hI4]; exact l3
          · show B4 104 k = _
            rw [hB4, show (va_up (va_up B2 104 (va_cpy (B2 304) (B2 104) 0 0 (gN (m 327)))) 107 (va_cpy (B2 307) (B2 107) 0 0 (gN (m 428)))) 104 = va_cpy (B2 304) (B2 104) 0 0 (gN (m 327)) from rfl, cpy_0 hk]
            exact h6.2.2 k hk
        · refine ⟨?_, by rw [hI4]; rfl, fun k hk => ?_⟩
          · rw [hI4]; exact l6
          · show B4 107 k = _
            rw [hB4, show (va_up (va_up B2 104 (va_cpy (B2 304) (B2 104) 0 0 (gN (m 327)))) 107 (va_cpy (B2 307) (B2 107) 0 0 (gN (m 428)))) 107 = va_cpy (B2 307) (B2 107) 0 0 (gN (m 428)) from rfl, cpy_0 hk]
            exact h7.2.2 k hk
        · refine ⟨by rw [hI4]; rfl, fun k hk => ⟨?_, ?_, ?_⟩⟩
          · show A4 110 k = _
            rw [hA4, show (va_up (va_up (va_up (va_up (va_up A2 105 (va_cpy (A2 305) (A2 105) 0 0 (gN (m 327)))) 108 (va_cpy (A2 308) (A2 108) 0 0 (gN (m 428)))) 110 (va_cpy (A2 310) (A2 110) 0 0 (gN (m 529)))) 111 (va_cpy (A2 311) (A2 111) 0 0 (gN (m 529)))) 112 (va_cpy (A2 312) (A2 112) 0 0 (gN (m 529)))) 110 = va_cpy (A2 310) (A2 110) 0 0 (gN (m 529)) from rfl, cpy_0 hk]
            exact (h8.2 k hk).1
          · show A4 111 k = _
            rw [hA4, show (va_up (va_up (va_up (va_up (va_up A2 105 (va_cpy (A2 305) (A2 105) 0 0 (gN (m 327)))) 108 (va_cpy (A2 308) (A2 108) 0 0 (gN (m 428)))) 110 (va_cpy (A2 310) (A2 110) 0 0 (gN (m 529)))) 111 (va_cpy (A2 311) (A2 111) 0 0 (gN (m 529)))) 112 (va_cpy (A2 312) (A2 112) 0 0 (gN (m 529)))) 111 = va_cpy (A2 311) (A2 111) 0 0 (gN (m 529)) from rfl, cpy_0 hk]
            exact (h8.2 k hk).2.1
          · show A4 112 k = _
            rw [hA4, show (va_up (va_up (va_up (va_up (va_up A2 105 (va_cpy (A2 305) (A2 105) 0 0 (gN (m 327)))) 108 (va_cpy (A2 308) (A2 108) 0 0 (gN (m 428)))) 110 (va_cpy (A2 310) (A2 110) 0 0 (gN (m 529)))) 111 (va_cpy (A2 311) (A2 111) 0 0 (gN (m 529)))) 112 (va_cpy (A2 312) (A2 112) 0 0 (gN (m 529)))) 112 = va_cpy (A2 312) (A2 112) 0 0 (gN (m 529)) from rfl, cpy_0 hk]
            exact (h8.2 k hk).2.2
        · rw [kI i (by omega) (by omega) (by omega), kA i (by omega) (by omega) (by omega) (by omega) (by omega), kB i (by omega) (by omega)]; exact ⟨(hk2 i (by omega)).1.trans (hk1 i hi).1, (hk2 i (by omega)).2.1.trans (hk1 i hi).2.1, (hk2 i (by omega)).2.2.1.trans (hk1 i hi).2.2.1, (hk2 i (by omega)).2.2.2.trans (hk1 i hi).2.2.2⟩
      · skip
        have hu : u < 6 := by omega
        have h4o := hRo2.2.2.2.2.1 u hu
        have h3o := hRo2.2.2.2.1 u hu
        have h5o := hRo2.2.2.2.2.2.1 u hu
        have hlu : I2 (120 + 4 * u + 1) 2 = nI 40 := hlm u hu
        refine S_n g 1 (pc' := 64) (lv' := [(0, .ref (ad 100)), (1, .ref (ad 300)), (2, .int (nI u))]) (st' := [.ref (ad 100)]) rfl ?_
        refine S_getR g (i := 100) (c := 7) (k := 1) (j := 102) (by decide) (by decide) rfl rfl rfl fl_X7_17 rfl ?_
        refine S_n g 1 (pc' := 68) (lv' := [(0, .ref (ad 100)), (1, .ref (ad 300)), (2, .int (nI u))]) (st' := [.int (nI u), .ref (ad 102)]) rfl ?_
        refine S_aaldN g (i := 102) (e := u) (j := 120 + 4 * u) (by decide) rfl (show u < 6 from by omega) (show (6 : Nat) < 2 ^ 31 from by decide) rfl rfl ?_
        refine S_n g 1 (pc' := 70) (lv' := [(0, .ref (ad 100)), (1, .ref (ad 300)), (2, .int (nI u))]) (st' := [.ref (ad 300), .ref (ad (120 + 4 * u))]) rfl ?_
        refine S_getR g (i := 300) (c := 7) (k := 1) (j := 302) (by decide) (by decide) rfl rfl rfl fl_X7_17 rfl ?_
        refine S_n g 1 (pc' := 74) (lv' := [(0, .ref (ad 100)), (1, .ref (ad 300)), (2, .int (nI u))]) (st' := [.int (nI u), .ref (ad 302), .ref (ad (120 + 4 * u))]) rfl ?_
        refine S_aaldN g (i := 302) (e := u) (j := 320 + 4 * u) (by decide) rfl (show u < 6 from by omega) (show (6 : Nat) < 2 ^ 31 from by decide) rfl rfl ?_
        refine S_callV g (i := 120 + 4 * u) (As := [.ref (ad (320 + 4 * u))]) (st := []) (mb_copy_r1 ad z0 I2 J2 A2 B2 u (lnG m u) hu h4o.2.1 (g5 u hu) hlu) mw_X2_copyFrom lk_X7_70 ⟨Nat.le_of_ble_eq_true rfl, Nat.le_of_ble_eq_true rfl⟩ (by omega) (by decide) (mb_u (ad := ad) (show isW z0 true 100 from isW_100) hu).1 rfl (Nat.le_of_ble_eq_true rfl) ⟨Nat.le_of_ble_eq_true rfl, Nat.le_of_ble_eq_true rfl⟩ rfl (fun v' Y' I3 J3 A3 B3 hpo => ?_)
        obtain ⟨rfl, rfl, e1, e2, e3, e4⟩ := hpo
        show Sim X (YC ad z0 true) 78 [(0, .ref (ad 100)), (1, .ref (ad 300)), (2, .int (nI u))] [] I3 J3 A3 B3 0 0
        have hk3 : ∀ i, i < 120 + 4 * u ∨ 124 + 4 * u ≤ i → I3 i = I2 i ∧ J3 i = J2 i ∧ A3 i = A2 i ∧ B3 i = B2 i := fun i hi => ⟨by rw [e1, u2r (by omega), u2r (by omega)], by rw [e2, u2r (by omega)], by rw [e3, va_up_ne _ _ (by omega)], by rw [e4, va_up_ne _ _ (by omega)]⟩
        have hmu : mR 100 m u I3 J3 A3 B3 := by
          show (J3 (120 + 4 * u) 1 = m (63 + u) ∧ I3 (120 + 4 * u) 2 = (m (69 + u)).toInt32) ∧ (I3 (120 + 4 * u + 1) 2 = nI 40 ∧ I3 (120 + 4 * u + 1) 3 = nI (lnG m u) ∧ ∀ k, k < lnG m u → B3 (120 + 4 * u + 1 + 1) k = m (87 + 40 * u + k)) ∧ ∀ k, k < lnG m u → A3 (120 + 4 * u + 1 + 2) k = cnX (fun p => (m (3 + p)).toInt32) (m (87 + 40 * u + k)) (12 * gN (m 0))
          rw [e1, e2, e3, e4]
          refine ⟨⟨(up2_same _ _ _ _).trans h3o.1, (up2_same _ _ _ _).trans h3o.2⟩, ⟨(u2j (Or.inl (by omega))).trans ((u2j (Or.inr (by decide))).trans hlu), (u2j (Or.inl (by omega))).trans (up2_same _ _ _ _), fun k hk => ?_⟩, fun k hk => ?_⟩
          · rw [va_up_self, cpy_0 hk]; exact h4o.2.2 k hk
          · rw [va_up_self, cpy_0 hk]; exact h5o k hk
        refine S_n g 1 (pc' := 81) (lv' := [(0, .ref (ad 100)), (1, .ref (ad 300)), (2, .int ((nI u) + nI 1))]) (st' := []) rfl ?_
        rw [nI_add u 1]
        refine S_n g 1 (pc' := 57) (lv' := [(0, .ref (ad 100)), (1, .ref (ad 300)), (2, .int (nI (u + 1)))]) (st' := []) rfl ?_
        exact lp (6 - (u + 1)) (by omega) (u + 1) I3 J3 A3 B3 rfl (by omega) (RepW_frb hRo2 (fun i a c => hk3 i (by omega))) (fun i hi => ⟨(hk3 i (by omega)).1.trans (hk2 i hi).1, (hk3 i (by omega)).2.1.trans (hk2 i hi).2.1, (hk3 i (by omega)).2.2.1.trans (hk2 i hi).2.2.1, (hk3 i (by omega)).2.2.2.trans (hk2 i hi).2.2.2⟩) (fun v hv => by by_cases e : v = u; (· subst e; exact hmu.2.1.1); (· rw [(hk3 _ (by omega)).1]; exact hlm v hv)) (fun v hv => by by_cases e : v = u; (· subst e; exact hmu); (· exact mR_fr (hmr v (by omega)) (fun i a c => hk3 i (by omega))))
  exact lp _ 0 I1 J A1 B rfl (Nat.zero_le _) hRo (fun i hi => ⟨rfl, rfl, rfl, rfl⟩) (fun v hv => by rw [kI1 _ (by omega)]; exact hL.2.2 v hv) (fun v hv => absurd hv (Nat.not_lt_zero v))
