/-! the class: a plan is taken out -/
set_option maxRecDepth 100000 in
set_option maxHeartbeats 4000000 in
theorem pl_remove (ad : Nat → Nat) (z0 z1 : Bool) (I : FI) (J : FJ) (A : FI) (B : FJ) (b pn : Nat) (hP : I 109 3 = nI pn) (hb : b < pn) (hp2 : pn ≤ 30) : Spec M_X3_remove [.ref (ad 109), .int (nI b)] (YC ad z0 z1) I J A B (eqP none (YC ad z0 z1) (up2 I 109 3 (nI (pn - 1))) J (va_up (va_up (va_up A 110 (va_cpy (A 110) (A 110) (b + 1) b (pn - 1 - b))) 111 (va_cpy (A 111) (A 111) (b + 1) b (pn - 1 - b))) 112 (va_cpy (A 112) (A 112) (b + 1) b (pn - 1 - b))) B) := by
  refine Spec_of (by decide) tk_X3_remove (Nat.le_of_ble_eq_true rfl) (fun X g rt => ?_)
  show Sim X (YC ad z0 z1) 0 [(0, .ref (ad 109)), (1, .int (nI b))] [] I J A B 0 0
  refine S_n g 1 (pc' := 1) (lv' := [(0, .ref (ad 109)), (1, .int (nI b))]) (st' := [.int (nI b)]) rfl ?_
  refine S_ifN_lt g (tgt := 85) (by omega) rfl (by decide) ?_
  refine S_n g 2 (pc' := 6) (lv' := [(0, .ref (ad 109)), (1, .int (nI b))]) (st' := [.ref (ad 109), .int (nI b)]) rfl ?_
  refine S_getI g (i := 109) (c := 3) (k := 3) (by decide) (by decide) rfl rfl fl_X3_21 rfl ?_
  rw [hP]
  refine S_icN_ge g (tgt := 85) (by omega) (by omega) rfl (by decide) (fun qz9 => ?_) (fun qz9 => ?_)
  · skip
    omega
  · skip
    refine S_n g 2 (pc' := 14) (lv' := [(0, .ref (ad 109)), (1, .int (nI b))]) (st' := [.ref (ad 109), .ref (ad 109)]) rfl ?_
    refine S_getI g (i := 109) (c := 3) (k := 3) (by decide) (by decide) rfl rfl fl_X3_21 rfl ?_
    rw [hP]
    refine S_n g 2 (pc' := 19) (lv' := [(0, .ref (ad 109)), (1, .int (nI b))]) (st' := [.int ((nI pn) - (nI 1)), .ref (ad 109)]) rfl ?_
    rw [pk_sub (a := pn) (b := 1) (by omega)]
    refine S_putI g (i := 109) (c := 3) (k := 3) (kd := 0) (by decide) (by decide) rfl rfl (by decide) fw_X3_21 rfl rfl rfl ?_
    refine S_n g 1 (pc' := 23) (lv' := [(0, .ref (ad 109)), (1, .int (nI b))]) (st' := [.ref (ad 109)]) rfl ?_
    refine S_getR g (i := 109) (c := 3) (k := 0) (j := 110) (by decide) (by decide) rfl rfl rfl fl_X3_9 rfl ?_
    refine S_n g 3 (pc' := 29) (lv' := [(0, .ref (ad 109)), (1, .int (nI b))]) (st' := [.int ((nI b) + (nI 1)), .ref (ad 110)]) rfl ?_
    rw [nI_add b 1]
    refine S_n g 1 (pc' := 30) (lv' := [(0, .ref (ad 109)), (1, .int (nI b))]) (st' := [.ref (ad 109), .int (nI (b + 1)), .ref (ad 110)]) rfl ?_
    refine S_getR g (i := 109) (c := 3) (k := 0) (j := 110) (by decide) (by decide) rfl rfl rfl fl_X3_9 rfl ?_
    refine S_n g 2 (pc' := 35) (lv' := [(0, .ref (ad 109)), (1, .int (nI b))]) (st' := [.ref (ad 109), .int (nI b), .ref (ad 110), .int (nI (b + 1)), .ref (ad 110)]) rfl ?_
    refine S_getI g (i := 109) (c := 3) (k := 3) (by decide) (by decide) rfl rfl fl_X3_21 rfl ?_
    show Sim X (YC ad z0 z1) 38 [(0, .ref (ad 109)), (1, .int (nI b))] [.int (nI (pn - 1)), .int (nI b), .ref (ad 110), .int (nI (b + 1)), .ref (ad 110)] (up2 I 109 3 (nI (pn - 1))) J A B 0 0
    refine S_n g 2 (pc' := 40) (lv' := [(0, .ref (ad 109)), (1, .int (nI b))]) (st' := [.int ((nI (pn - 1)) - (nI b)), .int (nI b), .ref (ad 110), .int (nI (b + 1)), .ref (ad 110)]) rfl ?_
    rw [pk_sub (a := pn - 1) (b := b) (by omega)]
    refine S_copyi g (i := 110) (j := 110) (by decide) rfl (by decide) rfl lc_X3_25 ac_nat ac_stat ac_ini (nI_pos (by omega)) (nI_pos (by omega)) (nI_pos (by omega)) (by rw [nI_clamp (n := b + 1) (by omega), nI_clamp (n := (pn - 1) - b) (by omega)]; exact (show (b + 1) + ((pn - 1) - b) ≤ 30 from by omega)) (by rw [nI_clamp (n := b) (by omega), nI_clamp (n := (pn - 1) - b) (by omega)]; exact (show (b) + ((pn - 1) - b) ≤ 30 from by omega)) (Nat.le_of_ble_eq_true rfl) (Nat.le_of_ble_eq_true rfl) rfl ?_
    rw [nI_clamp (n := b + 1) (by omega), nI_clamp (n := b) (by omega), nI_clamp (n := (pn - 1) - b) (by omega)]
    show Sim X (YC ad z0 z1) 43 [(0, .ref (ad 109)), (1, .int (nI b))] [] (up2 I 109 3 (nI (pn - 1))) J (va_up A 110 (va_cpy (A 110) (A 110) (b + 1) b (pn - 1 - b))) B 0 0
    refine S_n g 1 (pc' := 44) (lv' := [(0, .ref (ad 109)), (1, .int (nI b))]) (st' := [.ref (ad 109)]) rfl ?_
    refine S_getR g (i := 109) (c := 3) (k := 1) (j := 111) (by decide) (by decide) rfl rfl rfl fl_X3_15 rfl ?_
    refine S_n g 3 (pc' := 50) (lv' := [(0, .ref (ad 109)), (1, .int (nI b))]) (st' := [.int ((nI b) + (nI 1)), .ref (ad 111)]) rfl ?_
    rw [nI_add b 1]
    refine S_n g 1 (pc' := 51) (lv' := [(0, .ref (ad 109)), (1, .int (nI b))]) (st' := [.ref (ad 109), .int (nI (b + 1)), .ref (ad 111)]) rfl ?_
    refine S_getR g (i := 109) (c := 3) (k := 1) (j := 111) (by decide) (by decide) rfl rfl rfl fl_X3_15 rfl ?_
    refine S_n g 2 (pc' := 56) (lv' := [(0, .ref (ad 109)), (1, .int (nI b))]) (st' := [.ref (ad 109), .int (nI b), .ref (ad 111), .int (nI (b + 1)), .ref (ad 111)]) rfl ?_
    refine S_getI g (i := 109) (c := 3) (k := 3) (by decide) (by decide) rfl rfl fl_X3_21 rfl ?_
    show Sim X (YC ad z0 z1) 59 [(0, .ref (ad 109)), (1, .int (nI b))] [.int (nI (pn - 1)), .int (nI b), .ref (ad 111), .int (nI (b + 1)), .ref (ad 111)] (up2 I 109 3 (nI (pn - 1))) J (va_up A 110 (va_cpy (A 110) (A 110) (b + 1) b (pn - 1 - b))) B 0 0
    refine S_n g 2 (pc' := 61) (lv' := [(0, .ref (ad 109)), (1, .int (nI b))]) (st' := [.int ((nI (pn - 1)) - (nI b)), .int (nI b), .ref (ad 111), .int (nI (b + 1)), .ref (ad 111)]) rfl ?_
    rw [pk_sub (a := pn - 1) (b := b) (by omega)]
    refine S_copyi g (i := 111) (j := 111) (by decide) rfl (by decide) rfl lc_X3_25 ac_nat ac_stat ac_ini (nI_pos (by omega)) (nI_pos (by omega)) (nI_pos (by omega)) (by rw [nI_clamp (n := b + 1) (by omega), nI_clamp (n := (pn - 1) - b) (by omega)]; exact (show (b + 1) + ((pn - 1) - b) ≤ 30 from by omega)) (by rw [nI_clamp (n := b) (by omega), nI_clamp (n := (pn - 1) - b) (by omega)]; exact (show (b) + ((pn - 1) - b) ≤ 30 from by omega)) (Nat.le_of_ble_eq_true rfl) (Nat.le_of_ble_eq_true rfl) rfl ?_
    rw [nI_clamp (n := b + 1) (by omega), nI_clamp (n := b) (by omega), nI_clamp (n := (pn - 1) - b) (by omega)]
    show Sim X (YC ad z0 z1) 64 [(0, .ref (ad 109)), (1, .int (nI b))] [] (up2 I 109 3 (nI (pn - 1))) J (va_up (va_up A 110 (va_cpy (A 110) (A 110) (b + 1) b (pn - 1 - b))) 111 (va_cpy (A 111) (A 111) (b + 1) b (pn - 1 - b))) B 0 0
    refine S_n g 1 (pc' := 65) (lv' := [(0, .ref (ad 109)), (1, .int (nI b))]) (st' := [.ref (ad 109)]) rfl ?_
    refine S_getR g (i := 109) (c := 3) (k := 2) (j := 112) (by decide) (by decide) rfl rfl rfl fl_X3_18 rfl ?_
    refine S_n g 3 (pc' := 71) (lv' := [(0, .ref (ad 109)), (1, .int (nI b))]) (st' := [.int ((nI b) + (nI 1)), .ref (ad 112)]) rfl ?_
    rw [nI_add b 1]
    refine S_n g 1 (pc' := 72) (lv' := [(0, .ref (ad 109)), (1, .int (nI b))]) (st' := [.ref (ad 109), .int (nI (b + 1)), .ref (ad 112)]) rfl ?_
    refine S_getR g (i := 109) (c := 3) (k := 2) (j := 112) (by decide) (by decide) rfl rfl rfl fl_X3_18 rfl ?_
    refine S_n g 2 (pc' := 77) (lv' := [(0, .ref (ad 109)), (1, .int (nI b))]) (st' := [.ref (ad 109), .int (nI b), .ref (ad 112), .int (nI (b + 1)), .ref (ad 112)]) rfl ?_
    refine S_getI g (i := 109) (c := 3) (k := 3) (by decide) (by decide) rfl rfl fl_X3_21 rfl ?_
    show Sim X (YC ad z0 z1) 80 [(0, .ref (ad 109)), (1, .int (nI b))] [.int (nI (pn - 1)), .int (nI b), .ref (ad 112), .int (nI (b + 1)), .ref (ad 112)] (up2 I 109 3 (nI (pn - 1))) J (va_up (va_up A 110 (va_cpy (A 110) (A 110) (b + 1) b (pn - 1 - b))) 111 (va_cpy (A 111) (A 111) (b + 1) b (pn - 1 - b))) B 0 0
    refine S_n g 2 (pc' := 82) (lv' := [(0, .ref (ad 109)), (1, .int (nI b))]) (st' := [.int ((nI (pn - 1)) - (nI b)), .int (nI b), .ref (ad 112), .int (nI (b + 1)), .ref (ad 112)]) rfl ?_
    rw [pk_sub (a := pn - 1) (b := b) (by omega)]
    refine S_copyi g (i := 112) (j := 112) (by decide) rfl (by decide) rfl lc_X3_25 ac_nat ac_stat ac_ini (nI_pos (by omega)) (nI_pos (by omega)) (nI_pos (by omega)) (by rw [nI_clamp (n := b + 1) (by omega), nI_clamp (n := (pn - 1) - b) (by omega)]; exact (show (b + 1) + ((pn - 1) - b) ≤ 30 from by omega)) (by rw [nI_clamp (n := b) (by omega), nI_clamp (n := (pn - 1) - b) (by omega)]; exact (show (b) + ((pn - 1) - b) ≤ 30 from by omega)) (Nat.le_of_ble_eq_true rfl) (Nat.le_of_ble_eq_true rfl) rfl ?_
    rw [nI_clamp (n := b + 1) (by omega), nI_clamp (n := b) (by omega), nI_clamp (n := (pn - 1) - b) (by omega)]
    show Sim X (YC ad z0 z1) 85 [(0, .ref (ad 109)), (1, .int (nI b))] [] (up2 I 109 3 (nI (pn - 1))) J (va_up (va_up (va_up A 110 (va_cpy (A 110) (A 110) (b + 1) b (pn - 1 - b))) 111 (va_cpy (A 111) (A 111) (b + 1) b (pn - 1 - b))) 112 (va_cpy (A 112) (A 112) (b + 1) b (pn - 1 - b))) B 0 0
    exact rtV rt rfl rfl eqP_rf
