/-! the class: numbers -/
theorem rgD_b {tc : Nat → Nat} {n : Nat} {st : Bool} {a : Nat} (ha : a ≤ n) : (rgD tc n st a).2.1 ≤ n ∧ a ≤ (rgD tc n st a).2.1 ∧ (rgD tc n st a).2.2 ≤ 9 := by
  have h1 := bl_ge tc n a
  have h2 := bl_le (tc := tc) ha
  unfold rgD
  split
  · exact ⟨ha, Nat.le_refl _, Nat.zero_le _⟩
  · split
    · next q =>
      have h3 := isD_t q
      have h4 := ch_pos (show 0 < ch tc n (bl tc n a) by omega)
      exact ⟨h4, by show a ≤ bl tc n a + 1; omega, by show ch tc n (bl tc n a) - 1 - 48 ≤ 9; omega⟩
    · exact ⟨h2, h1, Nat.zero_le _⟩
/-- one digit or two -/
def rgN (tc : Nat → Nat) (n : Nat) (st : Bool) (a : Nat) : Bool × Nat × Nat := if (rgD tc n st a).1 = true then rgD tc n st a else if isD (ch tc n (rgD tc n st a).2.1) = true then ((rgD tc n false (rgD tc n st a).2.1).1, (rgD tc n false (rgD tc n st a).2.1).2.1, 10 * (rgD tc n st a).2.2 + (rgD tc n false (rgD tc n st a).2.1).2.2) else rgD tc n st a

set_option maxRecDepth 100000 in
set_option maxHeartbeats 4000000 in
theorem tx_readNumber (ad : Nat → Nat) (z0 z1 : Bool) (I : FI) (J : FJ) (A : FI) (B : FJ) (tc : Nat → Nat) (n a : Nat) (hN : I 13 1 = nI n) (hT : RTc A tc n) (ha : a ≤ n) (st : Bool) : Spec M_X4_readNumber [.ref (ad 13)] (YC ad z0 z1) (up2 (up2 I 13 3 (bI st)) 13 2 (nI a)) J A B (eqP (some (.int (nI (rgN tc n st a).2.2))) (YC ad z0 z1) (up2 (up2 I 13 3 (bI (rgN tc n st a).1)) 13 2 (nI (rgN tc n st a).2.1)) J A B) := by
  have hn8 := hT.1
  have hb1 := rgD_b (tc := tc) (st := st) ha
  obtain ⟨D, hD⟩ : ∃ D, D = rgD tc n st a := ⟨_, rfl⟩
  rw [← hD] at hb1
  have hr : rgN tc n st a = if D.1 = true then D else if isD (ch tc n D.2.1) = true then ((rgD tc n false D.2.1).1, (rgD tc n false D.2.1).2.1, 10 * D.2.2 + (rgD tc n false D.2.1).2.2) else D := by rw [rgN, ← hD]
  refine Spec_of (by decide) tk_X4_readNumber (Nat.le_of_ble_eq_true rfl) (fun X g rt => ?_)
  show Sim X (YC ad z0 z1) 0 [(0, .ref (ad 13))] [] (up2 (up2 I 13 3 (bI st)) 13 2 (nI a)) J A B 0 0
  refine S_n g 1 (pc' := 1) (lv' := [(0, .ref (ad 13))]) (st' := [.ref (ad 13)]) rfl ?_
  refine S_cV g (i := 13) (As := []) (st := []) (tx_readDigit ad z0 z1 I J A B tc n (a) hN hT (by omega) st) mw_X4_readDigit lk_X4_43 ⟨Nat.le_of_ble_eq_true rfl, Nat.le_of_ble_eq_true rfl⟩ (by decide) (by decide) rfl rfl (Nat.le_of_ble_eq_true rfl) ⟨Nat.le_of_ble_eq_true rfl, Nat.le_of_ble_eq_true rfl⟩ rfl ?_
  rw [← hD]
  show Sim X (YC ad z0 z1) 4 [(0, .ref (ad 13))] [.int (nI D.2.2)] (up2 (up2 I 13 3 (bI D.1)) 13 2 (nI D.2.1)) J A B 0 0
  refine S_n g 2 (pc' := 6) (lv' := [(0, .ref (ad 13)), (1, .int (nI D.2.2))]) (st' := [.ref (ad 13)]) rfl ?_
  refine S_getZ g (i := 13) (c := 4) (k := 3) (by decide) (by decide) rfl rfl fl_X4_22 rfl ?_
  show Sim X (YC ad z0 z1) 9 [(0, .ref (ad 13)), (1, .int (nI D.2.2))] [.int (bI D.1)] (up2 (up2 I 13 3 (bI D.1)) 13 2 (nI D.2.1)) J A B 0 0
  refine S_ifB_ne g (tgt := 29) rfl (by decide) (fun qz9 => ?_) (fun qz9 => ?_)
  · skip
    rw [if_pos qz9] at hr
    refine S_n g 1 (pc' := 30) (lv' := [(0, .ref (ad 13)), (1, .int (nI D.2.2))]) (st' := [.int (nI D.2.2)]) rfl ?_
    exact rtI rt rfl rfl (by rw [hr]; exact eqP_rf)
  · skip
    rw [if_neg (by rw [qz9]; decide)] at hr
    refine S_n g 1 (pc' := 13) (lv' := [(0, .ref (ad 13)), (1, .int (nI D.2.2))]) (st' := [.ref (ad 13)]) rfl ?_
    refine S_cV g (i := 13) (As := []) (st := []) (tx_digit ad z0 z1 (up2 I 13 3 (bI D.1)) J A B tc n (D.2.1) hN hT (by omega)) mw_X4_isDigitHere lk_X4_58 ⟨Nat.le_of_ble_eq_true rfl, Nat.le_of_ble_eq_true rfl⟩ (by decide) (by decide) rfl rfl (Nat.le_of_ble_eq_true rfl) ⟨Nat.le_of_ble_eq_true rfl, Nat.le_of_ble_eq_true rfl⟩ rfl ?_
    show Sim X (YC ad z0 z1) 16 [(0, .ref (ad 13)), (1, .int (nI D.2.2))] [.int (bI (isD (ch tc n D.2.1)))] (up2 (up2 I 13 3 (bI D.1)) 13 2 (nI D.2.1)) J A B 0 0
    refine S_ifB_eq g (tgt := 29) rfl (by decide) (fun qz16 => ?_) (fun qz16 => ?_)
    · skip
      rw [if_neg (by rw [qz16]; decide)] at hr
      refine S_n g 1 (pc' := 30) (lv' := [(0, .ref (ad 13)), (1, .int (nI D.2.2))]) (st' := [.int (nI D.2.2)]) rfl ?_
      exact rtI rt rfl rfl (by rw [hr]; exact eqP_rf)
    · skip
      rw [if_pos qz16] at hr
      obtain ⟨E, hE⟩ : ∃ E, E = rgD tc n false D.2.1 := ⟨_, rfl⟩
      rw [← hE] at hr
      refine S_n g 3 (pc' := 23) (lv' := [(0, .ref (ad 13)), (1, .int (nI D.2.2))]) (st' := [.int ((nI 10) * (nI D.2.2))]) rfl ?_
      rw [pk_mul 10 D.2.2]
      refine S_n g 1 (pc' := 24) (lv' := [(0, .ref (ad 13)), (1, .int (nI D.2.2))]) (st' := [.ref (ad 13), .int (nI (10 * D.2.2))]) rfl ?_
      rw [qz9]
      refine S_cV g (i := 13) (As := []) (st := [.int (nI (10 * D.2.2))]) (tx_readDigit ad z0 z1 I J A B tc n (D.2.1) hN hT (by omega) false) mw_X4_readDigit lk_X4_43 ⟨Nat.le_of_ble_eq_true rfl, Nat.le_of_ble_eq_true rfl⟩ (by decide) (by decide) rfl rfl (Nat.le_of_ble_eq_true rfl) ⟨Nat.le_of_ble_eq_true rfl, Nat.le_of_ble_eq_true rfl⟩ rfl ?_
      rw [← hE]
      show Sim X (YC ad z0 z1) 27 [(0, .ref (ad 13)), (1, .int (nI D.2.2))] [.int (nI E.2.2), .int (nI (10 * D.2.2))] (up2 (up2 I 13 3 (bI E.1)) 13 2 (nI E.2.1)) J A B 0 0
      refine S_n g 1 (pc' := 28) (lv' := [(0, .ref (ad 13)), (1, .int (nI D.2.2))]) (st' := [.int ((nI (10 * D.2.2)) + (nI E.2.2))]) rfl ?_
      rw [nI_add (10 * D.2.2) E.2.2]
      refine S_n g 2 (pc' := 30) (lv' := [(0, .ref (ad 13)), (1, .int (nI ((10 * D.2.2) + E.2.2)))]) (st' := [.int (nI ((10 * D.2.2) + E.2.2))]) rfl ?_
      exact rtI rt rfl rfl (by rw [hr]; exact eqP_rf)

set_option maxRecDepth 100000 in
set_option maxHeartbeats 4000000 in
theorem tx_rewind (ad : Nat → Nat) (z0 z1 : Bool) (I : FI) (J : FJ) (A : FI) (B : FJ) : Spec M_X4_rewind [.ref (ad 13)] (YC ad z0 z1) I J A B (eqP none (YC ad z0 z1) (up2 (up2 I 13 3 (bI false)) 13 2 (nI 0)) J A B) := by
  refine Spec_of (by decide) tk_X4_rewind (Nat.le_of_ble_eq_true rfl) (fun X g rt => ?_)
  show Sim X (YC ad z0 z1) 0 [(0, .ref (ad 13))] [] I J A B 0 0
  refine S_n g 2 (pc' := 2) (lv' := [(0, .ref (ad 13))]) (st' := [.int (nI 0), .ref (ad 13)]) rfl ?_
  refine S_putI g (i := 13) (c := 4) (k := 2) (kd := 0) (by decide) (by decide) rfl rfl (by decide) fw_X4_19 rfl rfl rfl ?_
  refine S_n g 2 (pc' := 7) (lv' := [(0, .ref (ad 13))]) (st' := [.int (nI 0), .ref (ad 13)]) rfl ?_
  refine S_putI g (i := 13) (c := 4) (k := 3) (kd := 3) (by decide) (by decide) rfl rfl (by decide) fw_X4_22 rfl rfl rfl ?_
  rw [up2_c2 (i := 13) (k := 3) (j := 13) (l := 2) (Or.inr (by decide))]
  show Sim X (YC ad z0 z1) 10 [(0, .ref (ad 13))] [] (up2 (up2 I 13 3 (nI 0)) 13 2 (nI 0)) J A B 0 0
  exact rtV rt rfl rfl eqP_rf
