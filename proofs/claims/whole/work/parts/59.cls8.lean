/-! the class: text -/
set_option maxRecDepth 100000 in
set_option maxHeartbeats 4000000 in
theorem c_why (ad : Nat → Nat) (z0 z1 : Bool) (I : FI) (J : FJ) (A : FI) (B : FJ) : Spec M_X8_why [.ref (ad 0)] (YC ad z0 z1) I J A B (eqP (some (.int (I 0 7))) (YC ad z0 z1) I J A B) := by
  refine Spec_of (by decide) tk_X8_why (Nat.le_of_ble_eq_true rfl) (fun X g rt => ?_)
  show Sim X (YC ad z0 z1) 0 [(0, .ref (ad 0))] [] I J A B 0 0
  refine S_n g 1 (pc' := 1) (lv' := [(0, .ref (ad 0))]) (st' := [.ref (ad 0)]) rfl ?_
  refine S_getI g (i := 0) (c := 8) (k := 7) (by decide) (by decide) rfl rfl fl_X8_52 rfl ?_
  exact rtI rt rfl rfl eqP_rf

set_option maxRecDepth 100000 in
set_option maxHeartbeats 4000000 in
theorem c_clearText (ad : Nat → Nat) (z0 z1 : Bool) (I : FI) (J : FJ) (A : FI) (B : FJ) (n : Nat) (hN : I 13 1 = nI n) : Spec M_X8_clearText [.ref (ad 0)] (YC ad z0 z1) I J A B (eqP (some (.int (nI n))) (YC ad z0 z1) (up2 I 13 1 (nI 0)) J A B) := by
  refine Spec_of (by decide) tk_X8_clearText (Nat.le_of_ble_eq_true rfl) (fun X g rt => ?_)
  show Sim X (YC ad z0 z1) 0 [(0, .ref (ad 0))] [] I J A B 0 0
  refine S_n g 1 (pc' := 1) (lv' := [(0, .ref (ad 0))]) (st' := [.ref (ad 0)]) rfl ?_
  refine S_getR g (i := 0) (c := 8) (k := 5) (j := 13) (by decide) (by decide) rfl rfl rfl fl_X8_44 rfl ?_
  refine S_getI g (i := 13) (c := 4) (k := 1) (by decide) (by decide) rfl rfl fl_X8_252 rfl ?_
  rw [hN]
  refine S_n g 2 (pc' := 9) (lv' := [(0, .ref (ad 0)), (1, .int (nI n))]) (st' := [.ref (ad 0)]) rfl ?_
  refine S_getR g (i := 0) (c := 8) (k := 5) (j := 13) (by decide) (by decide) rfl rfl rfl fl_X8_44 rfl ?_
  refine S_n g 1 (pc' := 13) (lv' := [(0, .ref (ad 0)), (1, .int (nI n))]) (st' := [.int (nI 0), .ref (ad 13)]) rfl ?_
  refine S_putI g (i := 13) (c := 4) (k := 1) (kd := 0) (by decide) (by decide) rfl rfl (by decide) fw_X8_252 rfl rfl rfl ?_
  refine S_n g 1 (pc' := 17) (lv' := [(0, .ref (ad 0)), (1, .int (nI n))]) (st' := [.int (nI n)]) rfl ?_
  exact rtI rt rfl rfl eqP_rf

set_option maxRecDepth 100000 in
set_option maxHeartbeats 4000000 in
theorem tx_append (ad : Nat → Nat) (z0 z1 : Bool) (I : FI) (J : FJ) (A : FI) (B : FJ) (n : Nat) (hN : I 13 1 = nI n) (hn : n < 80) (x : Int32) : Spec M_X4_append [.ref (ad 13), .int x] (YC ad z0 z1) I J A B (eqP none (YC ad z0 z1) (up2 I 13 1 (nI (n + 1))) J (va_up A 14 (va_up (A 14) n x)) B) := by
  refine Spec_of (by decide) tk_X4_append (Nat.le_of_ble_eq_true rfl) (fun X g rt => ?_)
  show Sim X (YC ad z0 z1) 0 [(0, .ref (ad 13)), (1, .int x)] [] I J A B 0 0
  refine S_n g 1 (pc' := 1) (lv' := [(0, .ref (ad 13)), (1, .int x)]) (st' := [.ref (ad 13)]) rfl ?_
  refine S_getI g (i := 13) (c := 4) (k := 1) (by decide) (by decide) rfl rfl fl_X4_15 rfl ?_
  rw [hN]
  refine S_n g 1 (pc' := 6) (lv' := [(0, .ref (ad 13)), (1, .int x)]) (st' := [.int (nI 80), .int (nI n)]) rfl ?_
  refine S_icN_ge g (tgt := 29) (by omega) (by omega) rfl (by decide) (fun qz6 => ?_) (fun qz6 => ?_)
  · skip
    omega
  · skip
    refine S_n g 1 (pc' := 10) (lv' := [(0, .ref (ad 13)), (1, .int x)]) (st' := [.ref (ad 13)]) rfl ?_
    refine S_getR g (i := 13) (c := 4) (k := 0) (j := 14) (by decide) (by decide) rfl rfl rfl fl_X4_9 rfl ?_
    refine S_n g 1 (pc' := 14) (lv' := [(0, .ref (ad 13)), (1, .int x)]) (st' := [.ref (ad 13), .ref (ad 14)]) rfl ?_
    refine S_getI g (i := 13) (c := 4) (k := 1) (by decide) (by decide) rfl rfl fl_X4_15 rfl ?_
    rw [hN]
    refine S_n g 1 (pc' := 18) (lv' := [(0, .ref (ad 13)), (1, .int x)]) (st' := [.int x, .int (nI n), .ref (ad 14)]) rfl ?_
    refine S_iastN g (i := 14) (e := n) (by decide) rfl (show n < 80 from by omega) (show (80 : Nat) < 2 ^ 31 from by decide) rfl ?_
    show Sim X (YC ad z0 z1) 19 [(0, .ref (ad 13)), (1, .int x)] [] I J (va_up A 14 (va_up (A 14) n x)) B 0 0
    refine S_n g 2 (pc' := 21) (lv' := [(0, .ref (ad 13)), (1, .int x)]) (st' := [.ref (ad 13), .ref (ad 13)]) rfl ?_
    refine S_getI g (i := 13) (c := 4) (k := 1) (by decide) (by decide) rfl rfl fl_X4_15 rfl ?_
    rw [hN]
    refine S_n g 2 (pc' := 26) (lv' := [(0, .ref (ad 13)), (1, .int x)]) (st' := [.int ((nI n) + (nI 1)), .ref (ad 13)]) rfl ?_
    rw [nI_add n 1]
    refine S_putI g (i := 13) (c := 4) (k := 1) (kd := 0) (by decide) (by decide) rfl rfl (by decide) fw_X4_15 rfl rfl rfl ?_
    exact rtV rt rfl rfl eqP_rf

set_option maxRecDepth 100000 in
set_option maxHeartbeats 4000000 in
theorem c_type (ad : Nat → Nat) (z0 z1 : Bool) (I : FI) (J : FJ) (A : FI) (B : FJ) (x : Int32) (n : Nat) (hN : I 13 1 = nI n) (hn : n ≤ 80) : Spec M_X8_type [.ref (ad 0), .int x] (YC ad z0 z1) I J A B (eqP (some (.int (if isIx x 128 = true then (if n = 80 then -nI 103 else nI (n + 1)) else -nI 101))) (YC ad z0 z1) (if isIx x 128 = true ∧ n < 80 then up2 I 13 1 (nI (n + 1)) else I) J (if isIx x 128 = true ∧ n < 80 then va_up A 14 (va_up (A 14) n x) else A) B) := by
  refine Spec_of (by decide) tk_X8_type (Nat.le_of_ble_eq_true rfl) (fun X g rt => ?_)
  show Sim X (YC ad z0 z1) 0 [(0, .ref (ad 0)), (1, .int x)] [] I J A B 0 0
  refine S_n g 1 (pc' := 1) (lv' := [(0, .ref (ad 0)), (1, .int x)]) (st' := [.int x]) rfl ?_
  refine S_if_lt g (tgt := 10) rfl (by decide) (fun qz1 => ?_) (fun qz1 => ?_)
  · skip
    have hz := ix_lo (n := 128) qz1
    refine S_n g 1 (pc' := 12) (lv' := [(0, .ref (ad 0)), (1, .int x)]) (st' := [.int (-nI 101)]) rfl ?_
    exact rtI rt rfl rfl (by rw [hz, if_neg (by decide), if_neg (fun q => absurd q.1 (by decide)), if_neg (fun q => absurd q.1 (by decide))]; exact eqP_rf)
  · skip
    refine S_n g 2 (pc' := 7) (lv' := [(0, .ref (ad 0)), (1, .int x)]) (st' := [.int (nI 127), .int x]) rfl ?_
    refine S_ic_le g (tgt := 13) rfl (by decide) (fun qz7 => ?_) (fun qz7 => ?_)
    · skip
      have hz := ix_le qz1 qz7 (by decide)
      refine S_n g 1 (pc' := 14) (lv' := [(0, .ref (ad 0)), (1, .int x)]) (st' := [.ref (ad 0)]) rfl ?_
      refine S_getR g (i := 0) (c := 8) (k := 5) (j := 13) (by decide) (by decide) rfl rfl rfl fl_X8_44 rfl ?_
      refine S_getI g (i := 13) (c := 4) (k := 1) (by decide) (by decide) rfl rfl fl_X8_252 rfl ?_
      rw [hN]
      refine S_n g 1 (pc' := 22) (lv' := [(0, .ref (ad 0)), (1, .int x)]) (st' := [.int (nI 80), .int (nI n)]) rfl ?_
      refine S_icN_lt g (tgt := 28) (by omega) (by omega) rfl (by decide) (fun qz22 => ?_) (fun qz22 => ?_)
      · skip
        refine S_n g 1 (pc' := 29) (lv' := [(0, .ref (ad 0)), (1, .int x)]) (st' := [.ref (ad 0)]) rfl ?_
        refine S_getR g (i := 0) (c := 8) (k := 5) (j := 13) (by decide) (by decide) rfl rfl rfl fl_X8_44 rfl ?_
        refine S_n g 1 (pc' := 33) (lv' := [(0, .ref (ad 0)), (1, .int x)]) (st' := [.int x, .ref (ad 13)]) rfl ?_
        refine S_cV g (i := 13) (As := [.int x]) (st := []) (tx_append ad z0 z1 I J A B n hN (by omega) x) mw_X4_append lk_X8_255 ⟨Nat.le_of_ble_eq_true rfl, Nat.le_of_ble_eq_true rfl⟩ (by decide) (by decide) rfl rfl (Nat.le_of_ble_eq_true rfl) ⟨Nat.le_of_ble_eq_true rfl, Nat.le_of_ble_eq_true rfl⟩ rfl ?_
        show Sim X (YC ad z0 z1) 36 [(0, .ref (ad 0)), (1, .int x)] [] (up2 I 13 1 (nI (n + 1))) J (va_up A 14 (va_up (A 14) n x)) B 0 0
        refine S_n g 1 (pc' := 37) (lv' := [(0, .ref (ad 0)), (1, .int x)]) (st' := [.ref (ad 0)]) rfl ?_
        refine S_getR g (i := 0) (c := 8) (k := 5) (j := 13) (by decide) (by decide) rfl rfl rfl fl_X8_44 rfl ?_
        refine S_getI g (i := 13) (c := 4) (k := 1) (by decide) (by decide) rfl rfl fl_X8_252 rfl ?_
        show Sim X (YC ad z0 z1) 43 [(0, .ref (ad 0)), (1, .int x)] [.int (nI (n + 1))] (up2 I 13 1 (nI (n + 1))) J (va_up A 14 (va_up (A 14) n x)) B 0 0
        exact rtI rt rfl rfl (by rw [if_pos hz, if_neg (by omega), if_pos ⟨hz, by omega⟩, if_pos ⟨hz, by omega⟩]; exact eqP_rf)
      · skip
        refine S_n g 1 (pc' := 27) (lv' := [(0, .ref (ad 0)), (1, .int x)]) (st' := [.int (-nI 103)]) rfl ?_
        exact rtI rt rfl rfl (by rw [if_pos hz, if_pos (by omega), if_neg (fun q => by omega), if_neg (fun q => by omega)]; exact eqP_rf)
    · skip
      have hz := ix_gt qz7 (by decide)
      refine S_n g 1 (pc' := 12) (lv' := [(0, .ref (ad 0)), (1, .int x)]) (st' := [.int (-nI 101)]) rfl ?_
      exact rtI rt rfl rfl (by rw [hz, if_neg (by decide), if_neg (fun q => absurd q.1 (by decide)), if_neg (fun q => absurd q.1 (by decide))]; exact eqP_rf)
