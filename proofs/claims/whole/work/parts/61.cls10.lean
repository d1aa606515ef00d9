/-! the class: digits, semicolons -/
/-- stuck or not, the place, the digit -/
def rgD (tc : Nat → Nat) (n : Nat) (st : Bool) (a : Nat) : Bool × Nat × Nat := if st = true then (true, a, 0) else if isD (ch tc n (bl tc n a)) = true then (false, bl tc n a + 1, ch tc n (bl tc n a) - 1 - 48) else (true, bl tc n a, 0)
def rgS (tc : Nat → Nat) (n : Nat) (st : Bool) (a : Nat) : Bool × Nat := if st = true then (true, a) else if ch tc n (bl tc n a) = 60 then (false, bl tc n a + 1) else (true, bl tc n a)

set_option maxRecDepth 100000 in
set_option maxHeartbeats 4000000 in
theorem tx_readDigit (ad : Nat → Nat) (z0 z1 : Bool) (I : FI) (J : FJ) (A : FI) (B : FJ) (tc : Nat → Nat) (n a : Nat) (hN : I 13 1 = nI n) (hT : RTc A tc n) (ha : a ≤ n) (st : Bool) : Spec M_X4_readDigit [.ref (ad 13)] (YC ad z0 z1) (up2 (up2 I 13 3 (bI st)) 13 2 (nI a)) J A B (eqP (some (.int (nI (rgD tc n st a).2.2))) (YC ad z0 z1) (up2 (up2 I 13 3 (bI (rgD tc n st a).1)) 13 2 (nI (rgD tc n st a).2.1)) J A B) := by
  have hn8 := hT.1
  have hbn := bl_le (tc := tc) ha
  refine Spec_of (by decide) tk_X4_readDigit (Nat.le_of_ble_eq_true rfl) (fun X g rt => ?_)
  show Sim X (YC ad z0 z1) 0 [(0, .ref (ad 13))] [] (up2 (up2 I 13 3 (bI st)) 13 2 (nI a)) J A B 0 0
  refine S_n g 1 (pc' := 1) (lv' := [(0, .ref (ad 13))]) (st' := [.ref (ad 13)]) rfl ?_
  refine S_getZ g (i := 13) (c := 4) (k := 3) (by decide) (by decide) rfl rfl fl_X4_22 rfl ?_
  show Sim X (YC ad z0 z1) 4 [(0, .ref (ad 13))] [.int (bI st)] (up2 (up2 I 13 3 (bI st)) 13 2 (nI a)) J A B 0 0
  refine S_ifB_eq g (tgt := 9) rfl (by decide) (fun qz4 => ?_) (fun qz4 => ?_)
  · skip
    have hr : rgD tc n st a = if isD (ch tc n (bl tc n a)) = true then (false, bl tc n a + 1, ch tc n (bl tc n a) - 1 - 48) else (true, bl tc n a, 0) := by rw [rgD, if_neg (by rw [qz4]; decide)]
    refine S_n g 1 (pc' := 10) (lv' := [(0, .ref (ad 13))]) (st' := [.ref (ad 13)]) rfl ?_
    refine S_cV g (i := 13) (As := []) (st := []) (tx_blanks ad z0 z1 (up2 I 13 3 (bI st)) J A B tc n (a) hN hT (by omega)) mw_X4_skipBlanks lk_X4_33 ⟨Nat.le_of_ble_eq_true rfl, Nat.le_of_ble_eq_true rfl⟩ (by decide) (by decide) rfl rfl (Nat.le_of_ble_eq_true rfl) ⟨Nat.le_of_ble_eq_true rfl, Nat.le_of_ble_eq_true rfl⟩ rfl ?_
    show Sim X (YC ad z0 z1) 13 [(0, .ref (ad 13))] [] (up2 (up2 I 13 3 (bI st)) 13 2 (nI (bl tc n a))) J A B 0 0
    obtain ⟨b, hb⟩ : ∃ b, b = bl tc n a := ⟨_, rfl⟩
    rw [← hb] at hbn hr ⊢
    have hcl := chc_lt hT b
    refine S_n g 1 (pc' := 14) (lv' := [(0, .ref (ad 13))]) (st' := [.ref (ad 13)]) rfl ?_
    refine S_cV g (i := 13) (As := []) (st := []) (tx_digit ad z0 z1 (up2 I 13 3 (bI st)) J A B tc n (b) hN hT (by omega)) mw_X4_isDigitHere lk_X4_58 ⟨Nat.le_of_ble_eq_true rfl, Nat.le_of_ble_eq_true rfl⟩ (by decide) (by decide) rfl rfl (Nat.le_of_ble_eq_true rfl) ⟨Nat.le_of_ble_eq_true rfl, Nat.le_of_ble_eq_true rfl⟩ rfl ?_
    show Sim X (YC ad z0 z1) 17 [(0, .ref (ad 13))] [.int (bI (isD (ch tc n b)))] (up2 (up2 I 13 3 (bI st)) 13 2 (nI b)) J A B 0 0
    refine S_ifB_ne g (tgt := 27) rfl (by decide) (fun qz17 => ?_) (fun qz17 => ?_)
    · skip
      rw [if_pos qz17] at hr
      have hd9 := isD_t qz17
      refine S_n g 1 (pc' := 28) (lv' := [(0, .ref (ad 13))]) (st' := [.ref (ad 13)]) rfl ?_
      refine S_cV g (i := 13) (As := []) (st := []) (tx_letter ad z0 z1 (up2 I 13 3 (bI st)) J A B tc n (b) hN hT (by omega)) mw_X4_letterHere lk_X4_36 ⟨Nat.le_of_ble_eq_true rfl, Nat.le_of_ble_eq_true rfl⟩ (by decide) (by decide) rfl rfl (Nat.le_of_ble_eq_true rfl) ⟨Nat.le_of_ble_eq_true rfl, Nat.le_of_ble_eq_true rfl⟩ rfl ?_
      show Sim X (YC ad z0 z1) 31 [(0, .ref (ad 13))] [.int (hI (ch tc n b))] (up2 (up2 I 13 3 (bI st)) 13 2 (nI b)) J A B 0 0
      refine S_steq (st' := [.int (nI (ch tc n b - 1))]) (by rw [(show hI (ch tc n b) = nI (ch tc n b - 1) from hI_pos (by omega)).symm]) ?_
      refine S_n g 2 (pc' := 34) (lv' := [(0, .ref (ad 13))]) (st' := [.int ((nI (ch tc n b - 1)) - (nI 48))]) rfl ?_
      rw [pk_sub (a := ch tc n b - 1) (b := 48) (by omega)]
      refine S_n g 3 (pc' := 37) (lv' := [(0, .ref (ad 13)), (1, .int (nI ((ch tc n b - 1) - 48)))]) (st' := [.ref (ad 13), .ref (ad 13)]) rfl ?_
      refine S_getI g (i := 13) (c := 4) (k := 2) (by decide) (by decide) rfl rfl fl_X4_19 rfl ?_
      show Sim X (YC ad z0 z1) 40 [(0, .ref (ad 13)), (1, .int (nI ((ch tc n b - 1) - 48)))] [.int (nI b), .ref (ad 13)] (up2 (up2 I 13 3 (bI st)) 13 2 (nI b)) J A B 0 0
      refine S_n g 2 (pc' := 42) (lv' := [(0, .ref (ad 13)), (1, .int (nI ((ch tc n b - 1) - 48)))]) (st' := [.int ((nI b) + (nI 1)), .ref (ad 13)]) rfl ?_
      rw [nI_add b 1]
      refine S_putI g (i := 13) (c := 4) (k := 2) (kd := 0) (by decide) (by decide) rfl rfl (by decide) fw_X4_19 rfl rfl rfl ?_
      rw [up2_c1 (i := 13) (k := 2)]
      refine S_n g 1 (pc' := 46) (lv' := [(0, .ref (ad 13)), (1, .int (nI ((ch tc n b - 1) - 48)))]) (st' := [.int (nI ((ch tc n b - 1) - 48))]) rfl ?_
      exact rtI rt rfl rfl (by rw [hr, ← qz4]; exact eqP_rf)
    · skip
      rw [if_neg (by rw [qz17]; decide)] at hr
      refine S_n g 2 (pc' := 22) (lv' := [(0, .ref (ad 13))]) (st' := [.int (nI 1), .ref (ad 13)]) rfl ?_
      refine S_putI g (i := 13) (c := 4) (k := 3) (kd := 3) (by decide) (by decide) rfl rfl (by decide) fw_X4_22 rfl rfl rfl ?_
      rw [up2_c2 (i := 13) (k := 3) (j := 13) (l := 2) (Or.inr (by decide))]
      rw [up2_c1 (i := 13) (k := 3)]
      refine S_n g 1 (pc' := 26) (lv' := [(0, .ref (ad 13))]) (st' := [.int (nI 0)]) rfl ?_
      exact rtI rt rfl rfl (by rw [hr]; exact eqP_rf)
  · skip
    refine S_n g 1 (pc' := 8) (lv' := [(0, .ref (ad 13))]) (st' := [.int (nI 0)]) rfl ?_
    exact rtI rt rfl rfl (by rw [rgD, if_pos qz4, qz4]; exact eqP_rf)

set_option maxRecDepth 100000 in
set_option maxHeartbeats 4000000 in
theorem tx_readSemi (ad : Nat → Nat) (z0 z1 : Bool) (I : FI) (J : FJ) (A : FI) (B : FJ) (tc : Nat → Nat) (n a : Nat) (hN : I 13 1 = nI n) (hT : RTc A tc n) (ha : a ≤ n) (st : Bool) : Spec M_X4_readSemicolon [.ref (ad 13)] (YC ad z0 z1) (up2 (up2 I 13 3 (bI st)) 13 2 (nI a)) J A B (eqP none (YC ad z0 z1) (up2 (up2 I 13 3 (bI (rgS tc n st a).1)) 13 2 (nI (rgS tc n st a).2)) J A B) := by
  have hn8 := hT.1
  have hbn := bl_le (tc := tc) ha
  refine Spec_of (by decide) tk_X4_readSemicolon (Nat.le_of_ble_eq_true rfl) (fun X g rt => ?_)
  show Sim X (YC ad z0 z1) 0 [(0, .ref (ad 13))] [] (up2 (up2 I 13 3 (bI st)) 13 2 (nI a)) J A B 0 0
  refine S_n g 1 (pc' := 1) (lv' := [(0, .ref (ad 13))]) (st' := [.ref (ad 13)]) rfl ?_
  refine S_getZ g (i := 13) (c := 4) (k := 3) (by decide) (by decide) rfl rfl fl_X4_22 rfl ?_
  show Sim X (YC ad z0 z1) 4 [(0, .ref (ad 13))] [.int (bI st)] (up2 (up2 I 13 3 (bI st)) 13 2 (nI a)) J A B 0 0
  refine S_ifB_eq g (tgt := 8) rfl (by decide) (fun qz4 => ?_) (fun qz4 => ?_)
  · skip
    have hr : rgS tc n st a = if ch tc n (bl tc n a) = 60 then (false, bl tc n a + 1) else (true, bl tc n a) := by rw [rgS, if_neg (by rw [qz4]; decide)]
    refine S_n g 1 (pc' := 9) (lv' := [(0, .ref (ad 13))]) (st' := [.ref (ad 13)]) rfl ?_
    refine S_cV g (i := 13) (As := []) (st := []) (tx_blanks ad z0 z1 (up2 I 13 3 (bI st)) J A B tc n (a) hN hT (by omega)) mw_X4_skipBlanks lk_X4_33 ⟨Nat.le_of_ble_eq_true rfl, Nat.le_of_ble_eq_true rfl⟩ (by decide) (by decide) rfl rfl (Nat.le_of_ble_eq_true rfl) ⟨Nat.le_of_ble_eq_true rfl, Nat.le_of_ble_eq_true rfl⟩ rfl ?_
    show Sim X (YC ad z0 z1) 12 [(0, .ref (ad 13))] [] (up2 (up2 I 13 3 (bI st)) 13 2 (nI (bl tc n a))) J A B 0 0
    obtain ⟨b, hb⟩ : ∃ b, b = bl tc n a := ⟨_, rfl⟩
    rw [← hb] at hbn hr ⊢
    have hcl := chc_lt hT b
    refine S_n g 1 (pc' := 13) (lv' := [(0, .ref (ad 13))]) (st' := [.ref (ad 13)]) rfl ?_
    refine S_cV g (i := 13) (As := []) (st := []) (tx_letter ad z0 z1 (up2 I 13 3 (bI st)) J A B tc n (b) hN hT (by omega)) mw_X4_letterHere lk_X4_36 ⟨Nat.le_of_ble_eq_true rfl, Nat.le_of_ble_eq_true rfl⟩ (by decide) (by decide) rfl rfl (Nat.le_of_ble_eq_true rfl) ⟨Nat.le_of_ble_eq_true rfl, Nat.le_of_ble_eq_true rfl⟩ rfl ?_
    show Sim X (YC ad z0 z1) 16 [(0, .ref (ad 13))] [.int (hI (ch tc n b))] (up2 (up2 I 13 3 (bI st)) 13 2 (nI b)) J A B 0 0
    refine S_n g 1 (pc' := 18) (lv' := [(0, .ref (ad 13))]) (st' := [.int (nI 59), .int (hI (ch tc n b))]) rfl ?_
    refine S_ic_ne g (tgt := 34) rfl (by decide) (fun qz18 => ?_) (fun qz18 => ?_)
    · skip
      rw [if_neg (fun e => qz18 ((hI_lit (by omega) (by decide)).mpr e))] at hr
      refine S_n g 2 (pc' := 36) (lv' := [(0, .ref (ad 13))]) (st' := [.int (nI 1), .ref (ad 13)]) rfl ?_
      refine S_putI g (i := 13) (c := 4) (k := 3) (kd := 3) (by decide) (by decide) rfl rfl (by decide) fw_X4_22 rfl rfl rfl ?_
      rw [up2_c2 (i := 13) (k := 3) (j := 13) (l := 2) (Or.inr (by decide))]
      rw [up2_c1 (i := 13) (k := 3)]
      exact rtV rt rfl rfl (by rw [hr]; exact eqP_rf)
    · skip
      rw [if_pos ((hI_lit (by omega) (by decide)).mp qz18)] at hr
      refine S_n g 2 (pc' := 23) (lv' := [(0, .ref (ad 13))]) (st' := [.ref (ad 13), .ref (ad 13)]) rfl ?_
      refine S_getI g (i := 13) (c := 4) (k := 2) (by decide) (by decide) rfl rfl fl_X4_19 rfl ?_
      show Sim X (YC ad z0 z1) 26 [(0, .ref (ad 13))] [.int (nI b), .ref (ad 13)] (up2 (up2 I 13 3 (bI st)) 13 2 (nI b)) J A B 0 0
      refine S_n g 2 (pc' := 28) (lv' := [(0, .ref (ad 13))]) (st' := [.int ((nI b) + (nI 1)), .ref (ad 13)]) rfl ?_
      rw [nI_add b 1]
      refine S_putI g (i := 13) (c := 4) (k := 2) (kd := 0) (by decide) (by decide) rfl rfl (by decide) fw_X4_19 rfl rfl rfl ?_
      rw [up2_c1 (i := 13) (k := 2)]
      refine S_n g 1 (pc' := 39) (lv' := [(0, .ref (ad 13))]) (st' := []) rfl ?_
      exact rtV rt rfl rfl (by rw [hr, ← qz4]; exact eqP_rf)
  · skip
    exact rtV rt rfl rfl (by rw [rgS, if_pos qz4, qz4]; exact eqP_rf)
