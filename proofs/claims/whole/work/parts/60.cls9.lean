/-! the class: the reader of the text -/
def RTc (A : FI) (tc : Nat → Nat) (n : Nat) : Prop := n ≤ 80 ∧ ∀ i, i < n → A 14 i = nI (tc i) ∧ tc i < 128
theorem chc_lt {A : FI} {tc : Nat → Nat} {n : Nat} (h : RTc A tc n) (a : Nat) : ch tc n a ≤ 128 := by
  unfold ch
  split
  · next q => have := (h.2 a q).2; omega
  · omega
theorem hI_ge {c k : Nat} (hc : c < 2 ^ 31) (hk : k < 2 ^ 31) : hI c < nI k ↔ c < k + 1 := by
  rw [Int32.lt_iff_toInt_lt, nI_toInt hk]
  cases c with
  | zero => rw [show (hI 0).toInt = -1 from by decide]; omega
  | succ j => rw [hI_pos (by omega), Nat.add_sub_cancel, nI_toInt (by omega)]; omega
theorem hI_gt {c k : Nat} (hc : c < 2 ^ 31) (hk : k < 2 ^ 31) : nI k < hI c ↔ k + 1 < c := by
  rw [Int32.lt_iff_toInt_lt, nI_toInt hk]
  cases c with
  | zero => rw [show (hI 0).toInt = -1 from by decide]; omega
  | succ j => rw [hI_pos (by omega), Nat.add_sub_cancel, nI_toInt (by omega)]; omega

set_option maxRecDepth 100000 in
set_option maxHeartbeats 4000000 in
theorem tx_letter (ad : Nat → Nat) (z0 z1 : Bool) (I : FI) (J : FJ) (A : FI) (B : FJ) (tc : Nat → Nat) (n a : Nat) (hN : I 13 1 = nI n) (hT : RTc A tc n) (ha : a ≤ n) : Spec M_X4_letterHere [.ref (ad 13)] (YC ad z0 z1) (up2 I 13 2 (nI a)) J A B (eqP (some (.int (hI (ch tc n a)))) (YC ad z0 z1) (up2 I 13 2 (nI a)) J A B) := by
  have hn8 := hT.1
  refine Spec_of (by decide) tk_X4_letterHere (Nat.le_of_ble_eq_true rfl) (fun X g rt => ?_)
  show Sim X (YC ad z0 z1) 0 [(0, .ref (ad 13))] [] (up2 I 13 2 (nI a)) J A B 0 0
  refine S_n g 1 (pc' := 1) (lv' := [(0, .ref (ad 13))]) (st' := [.ref (ad 13)]) rfl ?_
  refine S_getI g (i := 13) (c := 4) (k := 2) (by decide) (by decide) rfl rfl fl_X4_19 rfl ?_
  show Sim X (YC ad z0 z1) 4 [(0, .ref (ad 13))] [.int (nI a)] (up2 I 13 2 (nI a)) J A B 0 0
  refine S_ifN_lt g (tgt := 30) (by omega) rfl (by decide) ?_
  refine S_n g 1 (pc' := 8) (lv' := [(0, .ref (ad 13))]) (st' := [.ref (ad 13)]) rfl ?_
  refine S_getI g (i := 13) (c := 4) (k := 2) (by decide) (by decide) rfl rfl fl_X4_19 rfl ?_
  show Sim X (YC ad z0 z1) 11 [(0, .ref (ad 13))] [.int (nI a)] (up2 I 13 2 (nI a)) J A B 0 0
  refine S_n g 1 (pc' := 12) (lv' := [(0, .ref (ad 13))]) (st' := [.ref (ad 13), .int (nI a)]) rfl ?_
  refine S_getI g (i := 13) (c := 4) (k := 1) (by decide) (by decide) rfl rfl fl_X4_15 rfl ?_
  show Sim X (YC ad z0 z1) 15 [(0, .ref (ad 13))] [.int (I 13 1), .int (nI a)] (up2 I 13 2 (nI a)) J A B 0 0
  rw [hN]
  refine S_icN_ge g (tgt := 30) (by omega) (by omega) rfl (by decide) (fun qz15 => ?_) (fun qz15 => ?_)
  · skip
    refine S_n g 1 (pc' := 31) (lv' := [(0, .ref (ad 13))]) (st' := [.int (-nI 1)]) rfl ?_
    exact rtI rt rfl rfl (by rw [ch, if_neg (by omega)]; exact eqP_rf)
  · skip
    obtain ⟨hta, htl⟩ := hT.2 a (by omega)
    refine S_n g 1 (pc' := 19) (lv' := [(0, .ref (ad 13))]) (st' := [.ref (ad 13)]) rfl ?_
    refine S_getR g (i := 13) (c := 4) (k := 0) (j := 14) (by decide) (by decide) rfl rfl rfl fl_X4_9 rfl ?_
    refine S_n g 1 (pc' := 23) (lv' := [(0, .ref (ad 13))]) (st' := [.ref (ad 13), .ref (ad 14)]) rfl ?_
    refine S_getI g (i := 13) (c := 4) (k := 2) (by decide) (by decide) rfl rfl fl_X4_19 rfl ?_
    show Sim X (YC ad z0 z1) 26 [(0, .ref (ad 13))] [.int (nI a), .ref (ad 14)] (up2 I 13 2 (nI a)) J A B 0 0
    refine S_ialdN g (i := 14) (e := a) (by decide) rfl (show a < 80 from by omega) (show (80 : Nat) < 2 ^ 31 from by decide) rfl ?_
    rw [hta]
    refine S_n g 1 (pc' := 31) (lv' := [(0, .ref (ad 13))]) (st' := [.int (nI (tc a))]) rfl ?_
    exact rtI rt rfl rfl (by rw [ch, if_pos (by omega), hI_pos (by omega), Nat.add_sub_cancel]; exact eqP_rf)

set_option maxRecDepth 100000 in
set_option maxHeartbeats 4000000 in
theorem tx_digit (ad : Nat → Nat) (z0 z1 : Bool) (I : FI) (J : FJ) (A : FI) (B : FJ) (tc : Nat → Nat) (n a : Nat) (hN : I 13 1 = nI n) (hT : RTc A tc n) (ha : a ≤ n) : Spec M_X4_isDigitHere [.ref (ad 13)] (YC ad z0 z1) (up2 I 13 2 (nI a)) J A B (eqP (some (.int (bI (isD (ch tc n a))))) (YC ad z0 z1) (up2 I 13 2 (nI a)) J A B) := by
  have hn8 := hT.1
  have hcl := chc_lt hT a
  refine Spec_of (by decide) tk_X4_isDigitHere (Nat.le_of_ble_eq_true rfl) (fun X g rt => ?_)
  show Sim X (YC ad z0 z1) 0 [(0, .ref (ad 13))] [] (up2 I 13 2 (nI a)) J A B 0 0
  refine S_n g 1 (pc' := 1) (lv' := [(0, .ref (ad 13))]) (st' := [.ref (ad 13)]) rfl ?_
  refine S_cV g (i := 13) (As := []) (st := []) (tx_letter ad z0 z1 I J A B tc n (a) hN hT (by omega)) mw_X4_letterHere lk_X4_36 ⟨Nat.le_of_ble_eq_true rfl, Nat.le_of_ble_eq_true rfl⟩ (by decide) (by decide) rfl rfl (Nat.le_of_ble_eq_true rfl) ⟨Nat.le_of_ble_eq_true rfl, Nat.le_of_ble_eq_true rfl⟩ rfl ?_
  show Sim X (YC ad z0 z1) 4 [(0, .ref (ad 13))] [.int (hI (ch tc n a))] (up2 I 13 2 (nI a)) J A B 0 0
  refine S_n g 1 (pc' := 6) (lv' := [(0, .ref (ad 13))]) (st' := [.int (nI 48), .int (hI (ch tc n a))]) rfl ?_
  refine S_ic_lt g (tgt := 22) rfl (by decide) (fun qz6 => ?_) (fun qz6 => ?_)
  · skip
    have h9 := (hI_ge (by omega) (by decide)).mp qz6
    refine S_n g 1 (pc' := 23) (lv' := [(0, .ref (ad 13))]) (st' := [.int (nI 0)]) rfl ?_
    show Sim X (YC ad z0 z1) 23 [(0, .ref (ad 13))] [.int (bI false)] (up2 I 13 2 (nI a)) J A B 0 0
    exact rtZ rt rfl rfl (by rw [show isD (ch tc n a) = false from decide_eq_false (by omega)]; exact eqP_rf)
  · skip
    have h9 : ¬ ch tc n a < 48 + 1 := fun q => qz6 ((hI_ge (by omega) (by decide)).mpr q)
    refine S_n g 1 (pc' := 10) (lv' := [(0, .ref (ad 13))]) (st' := [.ref (ad 13)]) rfl ?_
    refine S_cV g (i := 13) (As := []) (st := []) (tx_letter ad z0 z1 I J A B tc n (a) hN hT (by omega)) mw_X4_letterHere lk_X4_36 ⟨Nat.le_of_ble_eq_true rfl, Nat.le_of_ble_eq_true rfl⟩ (by decide) (by decide) rfl rfl (Nat.le_of_ble_eq_true rfl) ⟨Nat.le_of_ble_eq_true rfl, Nat.le_of_ble_eq_true rfl⟩ rfl ?_
    show Sim X (YC ad z0 z1) 13 [(0, .ref (ad 13))] [.int (hI (ch tc n a))] (up2 I 13 2 (nI a)) J A B 0 0
    refine S_n g 1 (pc' := 15) (lv' := [(0, .ref (ad 13))]) (st' := [.int (nI 57), .int (hI (ch tc n a))]) rfl ?_
    refine S_ic_gt g (tgt := 22) rfl (by decide) (fun qz15 => ?_) (fun qz15 => ?_)
    · skip
      have h8 := (hI_gt (by omega) (by decide)).mp qz15
      refine S_n g 1 (pc' := 23) (lv' := [(0, .ref (ad 13))]) (st' := [.int (nI 0)]) rfl ?_
      show Sim X (YC ad z0 z1) 23 [(0, .ref (ad 13))] [.int (bI false)] (up2 I 13 2 (nI a)) J A B 0 0
      exact rtZ rt rfl rfl (by rw [show isD (ch tc n a) = false from decide_eq_false (by omega)]; exact eqP_rf)
    · skip
      have h8 : ¬ 57 + 1 < ch tc n a := fun q => qz15 ((hI_gt (by omega) (by decide)).mpr q)
      refine S_n g 2 (pc' := 23) (lv' := [(0, .ref (ad 13))]) (st' := [.int (nI 1)]) rfl ?_
      show Sim X (YC ad z0 z1) 23 [(0, .ref (ad 13))] [.int (bI true)] (up2 I 13 2 (nI a)) J A B 0 0
      exact rtZ rt rfl rfl (by rw [show isD (ch tc n a) = true from decide_eq_true (by omega)]; exact eqP_rf)

set_option maxRecDepth 100000 in
set_option maxHeartbeats 4000000 in
theorem tx_blanks (ad : Nat → Nat) (z0 z1 : Bool) (I : FI) (J : FJ) (A : FI) (B : FJ) (tc : Nat → Nat) (n a : Nat) (hN : I 13 1 = nI n) (hT : RTc A tc n) (ha : a ≤ n) : Spec M_X4_skipBlanks [.ref (ad 13)] (YC ad z0 z1) (up2 I 13 2 (nI a)) J A B (eqP none (YC ad z0 z1) (up2 I 13 2 (nI (bl tc n a))) J A B) := by
  have hn8 := hT.1
  refine Spec_of (by decide) tk_X4_skipBlanks (Nat.le_of_ble_eq_true rfl) (fun X g rt => ?_)
  show Sim X (YC ad z0 z1) 0 [(0, .ref (ad 13))] [] (up2 I 13 2 (nI a)) J A B 0 0
  have lp : ∀ (nn : Nat) (b : Nat), n - b = nn → (b ≤ n) → (bl tc n b = bl tc n a) → Sim X (YC ad z0 z1) 0 [(0, .ref (ad 13))] [] (up2 I 13 2 (nI b)) J A B 0 0 := by
    intro nn
    induction nn using Nat.strongRecOn with
    | ind nn ih =>
      intro b hmz hb hbl
      have lp := ih
      have hcl := chc_lt hT b
      refine S_n g 1 (pc' := 1) (lv' := [(0, .ref (ad 13))]) (st' := [.ref (ad 13)]) rfl ?_
      refine S_getI g (i := 13) (c := 4) (k := 2) (by decide) (by decide) rfl rfl fl_X4_19 rfl ?_
      show Sim X (YC ad z0 z1) 4 [(0, .ref (ad 13))] [.int (nI b)] (up2 I 13 2 (nI b)) J A B 0 0
      refine S_n g 1 (pc' := 5) (lv' := [(0, .ref (ad 13))]) (st' := [.ref (ad 13), .int (nI b)]) rfl ?_
      refine S_getI g (i := 13) (c := 4) (k := 1) (by decide) (by decide) rfl rfl fl_X4_15 rfl ?_
      show Sim X (YC ad z0 z1) 8 [(0, .ref (ad 13))] [.int (I 13 1), .int (nI b)] (up2 I 13 2 (nI b)) J A B 0 0
      rw [hN]
      refine S_icN_ge g (tgt := 33) (by omega) (by omega) rfl (by decide) (fun qz8 => ?_) (fun qz8 => ?_)
      · skip
        have hc9 : ¬ ch tc n b = 33 := by unfold ch; rw [if_neg (by omega)]; decide
        exact rtV rt rfl rfl (by rw [← hbl, bl_n hc9]; exact eqP_rf)
      · skip
        refine S_n g 1 (pc' := 12) (lv' := [(0, .ref (ad 13))]) (st' := [.ref (ad 13)]) rfl ?_
        refine S_cV g (i := 13) (As := []) (st := []) (tx_letter ad z0 z1 I J A B tc n (b) hN hT (by omega)) mw_X4_letterHere lk_X4_36 ⟨Nat.le_of_ble_eq_true rfl, Nat.le_of_ble_eq_true rfl⟩ (by decide) (by decide) rfl rfl (Nat.le_of_ble_eq_true rfl) ⟨Nat.le_of_ble_eq_true rfl, Nat.le_of_ble_eq_true rfl⟩ rfl ?_
        show Sim X (YC ad z0 z1) 15 [(0, .ref (ad 13))] [.int (hI (ch tc n b))] (up2 I 13 2 (nI b)) J A B 0 0
        refine S_n g 1 (pc' := 17) (lv' := [(0, .ref (ad 13))]) (st' := [.int (nI 32), .int (hI (ch tc n b))]) rfl ?_
        refine S_ic_ne g (tgt := 33) rfl (by decide) (fun qz17 => ?_) (fun qz17 => ?_)
        · skip
          have hc9 : ¬ ch tc n b = 33 := fun q => qz17 ((hI_lit (by omega) (by decide)).mpr q)
          exact rtV rt rfl rfl (by rw [← hbl, bl_n hc9]; exact eqP_rf)
        · skip
          have hc9 : ch tc n b = 33 := (hI_lit (by omega) (by decide)).mp qz17
          refine S_n g 2 (pc' := 22) (lv' := [(0, .ref (ad 13))]) (st' := [.ref (ad 13), .ref (ad 13)]) rfl ?_
          refine S_getI g (i := 13) (c := 4) (k := 2) (by decide) (by decide) rfl rfl fl_X4_19 rfl ?_
          show Sim X (YC ad z0 z1) 25 [(0, .ref (ad 13))] [.int (nI b), .ref (ad 13)] (up2 I 13 2 (nI b)) J A B 0 0
          refine S_n g 2 (pc' := 27) (lv' := [(0, .ref (ad 13))]) (st' := [.int ((nI b) + (nI 1)), .ref (ad 13)]) rfl ?_
          rw [nI_add b 1]
          refine S_putI g (i := 13) (c := 4) (k := 2) (kd := 0) (by decide) (by decide) rfl rfl (by decide) fw_X4_19 rfl rfl rfl ?_
          rw [up2_c1 (i := 13) (k := 2)]
          refine S_n g 1 (pc' := 0) (lv' := [(0, .ref (ad 13))]) (st' := []) rfl ?_
          exact lp (n - (b + 1)) (by omega) (b + 1) rfl (by omega) (by rw [← hbl]; exact (bl_y hc9).symm)
  exact lp _ a rfl ha rfl
