/-! the class: a list of sums is copied -/
set_option maxRecDepth 100000 in
set_option maxHeartbeats 4000000 in
theorem sl_copyFrom (ad : Nat → Nat) (z0 z1 : Bool) (I : FI) (J : FJ) (A : FI) (B : FJ) (i o lim n : Nat) (hSL : isSL (YC ad z0 z1) i lim) (hSO : isSL (YC ad z0 z1) o lim) (hlim : lim ≤ 100) (hS : I o 3 = nI n) (hn : n ≤ lim) (hLm : I i 2 = nI lim) : Spec M_X6_copyFrom [.ref (ad i), .ref (ad o)] (YC ad z0 z1) I J A B (eqP none (YC ad z0 z1) (up2 I i 3 (nI n)) J (va_up A (i + 2) (va_cpy (A (o + 2)) (A (i + 2)) 0 0 n)) (va_up B (i + 1) (va_cpy (B (o + 1)) (B (i + 1)) 0 0 n))) := by
  refine Spec_of (by decide) tk_X6_copyFrom (Nat.le_of_ble_eq_true rfl) (fun X g rt => ?_)
  show Sim X (YC ad z0 z1) 0 [(0, .ref (ad i)), (1, .ref (ad o))] [] I J A B 0 0
  refine S_n g 2 (pc' := 2) (lv' := [(0, .ref (ad i)), (1, .ref (ad o))]) (st' := [.ref (ad o), .ref (ad i)]) rfl ?_
  refine S_getI g (i := o) (c := 6) (k := 3) (slf hSO).1 (by decide) hSO.2.1 rfl fl_X6_21 rfl ?_
  rw [hS]
  refine S_n g 1 (pc' := 6) (lv' := [(0, .ref (ad i)), (1, .ref (ad o))]) (st' := [.ref (ad i), .int (nI n), .ref (ad i)]) rfl ?_
  refine S_getI g (i := i) (c := 6) (k := 2) (slf hSL).1 (by decide) hSL.2.1 rfl fl_X6_7 rfl ?_
  rw [hLm]
  refine S_cS g (As := [.int (nI n), .int (nI lim)]) (st := [.ref (ad i)]) (sp_min (YC ad z0 z1) I J A B n lim (by omega) (by omega)) mw_J9_min_7cf53 lk_X6_30 ⟨Nat.le_of_ble_eq_true rfl, Nat.le_of_ble_eq_true rfl⟩ rfl (Nat.le_of_ble_eq_true rfl) ⟨Nat.le_of_ble_eq_true rfl, Nat.le_of_ble_eq_true rfl⟩ rfl ?_
  rw [show min n lim = n from by omega]
  show Sim X (YC ad z0 z1) 12 [(0, .ref (ad i)), (1, .ref (ad o))] [.int (nI n), .ref (ad i)] I J A B 0 0
  refine S_putI g (i := i) (c := 6) (k := 3) (kd := 0) (slf hSL).1 (by decide) hSL.2.1 rfl (by decide) fw_X6_21 rfl rfl rfl ?_
  refine S_n g 1 (pc' := 16) (lv' := [(0, .ref (ad i)), (1, .ref (ad o))]) (st' := [.ref (ad o)]) rfl ?_
  refine S_getR g (i := o) (c := 6) (k := 0) (j := o + 1) (slf hSO).1 (by decide) hSO.2.1 rfl hSO.2.2.2.2.2.2.1 fl_X6_13 rfl ?_
  refine S_n g 2 (pc' := 21) (lv' := [(0, .ref (ad i)), (1, .ref (ad o))]) (st' := [.ref (ad i), .int (nI 0), .ref (ad (o + 1))]) rfl ?_
  refine S_getR g (i := i) (c := 6) (k := 0) (j := i + 1) (slf hSL).1 (by decide) hSL.2.1 rfl hSL.2.2.2.2.2.2.1 fl_X6_13 rfl ?_
  refine S_n g 2 (pc' := 26) (lv' := [(0, .ref (ad i)), (1, .ref (ad o))]) (st' := [.ref (ad i), .int (nI 0), .ref (ad (i + 1)), .int (nI 0), .ref (ad (o + 1))]) rfl ?_
  refine S_getI g (i := i) (c := 6) (k := 3) (slf hSL).1 (by decide) hSL.2.1 rfl fl_X6_21 rfl ?_
  rw [up2_same]
  refine S_copyl g (i := o + 1) (j := i + 1) (slf hSO).2.1 hSO.2.2.1 (slf hSL).2.1 hSL.2.2.1 lc_X6_24 ac_nat ac_stat ac_ini (nI_pos (by omega)) (nI_pos (by omega)) (nI_pos (by omega)) (by rw [nI_clamp (n := 0) (by omega), nI_clamp (n := n) (by omega)]; exact (by rw [hSO.2.2.2.2.1]; omega)) (by rw [nI_clamp (n := 0) (by omega), nI_clamp (n := n) (by omega)]; exact (by rw [hSL.2.2.2.2.1]; omega)) (Nat.le_of_ble_eq_true rfl) (Nat.le_of_ble_eq_true rfl) rfl ?_
  rw [nI_clamp (n := 0) (by omega), nI_clamp (n := n) (by omega)]
  show Sim X (YC ad z0 z1) 32 [(0, .ref (ad i)), (1, .ref (ad o))] [] (up2 I i 3 (nI n)) J A (va_up B (i + 1) (va_cpy (B (o + 1)) (B (i + 1)) 0 0 n)) 0 0
  refine S_n g 1 (pc' := 33) (lv' := [(0, .ref (ad i)), (1, .ref (ad o))]) (st' := [.ref (ad o)]) rfl ?_
  refine S_getR g (i := o) (c := 6) (k := 1) (j := o + 2) (slf hSO).1 (by decide) hSO.2.1 rfl hSO.2.2.2.2.2.2.2 fl_X6_17 rfl ?_
  refine S_n g 2 (pc' := 38) (lv' := [(0, .ref (ad i)), (1, .ref (ad o))]) (st' := [.ref (ad i), .int (nI 0), .ref (ad (o + 2))]) rfl ?_
  refine S_getR g (i := i) (c := 6) (k := 1) (j := i + 2) (slf hSL).1 (by decide) hSL.2.1 rfl hSL.2.2.2.2.2.2.2 fl_X6_17 rfl ?_
  refine S_n g 2 (pc' := 43) (lv' := [(0, .ref (ad i)), (1, .ref (ad o))]) (st' := [.ref (ad i), .int (nI 0), .ref (ad (i + 2)), .int (nI 0), .ref (ad (o + 2))]) rfl ?_
  refine S_getI g (i := i) (c := 6) (k := 3) (slf hSL).1 (by decide) hSL.2.1 rfl fl_X6_21 rfl ?_
  rw [up2_same]
  refine S_copyi g (i := o + 2) (j := i + 2) (slf hSO).2.2 hSO.2.2.2.1 (slf hSL).2.2 hSL.2.2.2.1 lc_X6_24 ac_nat ac_stat ac_ini (nI_pos (by omega)) (nI_pos (by omega)) (nI_pos (by omega)) (by rw [nI_clamp (n := 0) (by omega), nI_clamp (n := n) (by omega)]; exact (by rw [hSO.2.2.2.2.2.1]; omega)) (by rw [nI_clamp (n := 0) (by omega), nI_clamp (n := n) (by omega)]; exact (by rw [hSL.2.2.2.2.2.1]; omega)) (Nat.le_of_ble_eq_true rfl) (Nat.le_of_ble_eq_true rfl) rfl ?_
  rw [nI_clamp (n := 0) (by omega), nI_clamp (n := n) (by omega)]
  show Sim X (YC ad z0 z1) 49 [(0, .ref (ad i)), (1, .ref (ad o))] [] (up2 I i 3 (nI n)) J (va_up A (i + 2) (va_cpy (A (o + 2)) (A (i + 2)) 0 0 n)) (va_up B (i + 1) (va_cpy (B (o + 1)) (B (i + 1)) 0 0 n)) 0 0
  exact rtV rt rfl rfl eqP_rf
