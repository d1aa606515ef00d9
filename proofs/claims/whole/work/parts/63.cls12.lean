/-! the class: the most urgent plan -/
theorem lN_less {a b : Nat} (ha : a < 2 ^ 63) (hb : b < 2 ^ 63) : lN a < lN b ↔ a < b := by
  rw [Int64.lt_iff_toInt_lt, pk_lT ha, pk_lT hb]
  omega

set_option maxRecDepth 100000 in
set_option maxHeartbeats 4000000 in
theorem pl_urgent (ad : Nat → Nat) (z0 z1 : Bool) (I : FI) (J : FJ) (A : FI) (B : FJ) (m : Nat → Int64) (pr : Nat → Nat) (pn : Nat) (hP : I 109 3 = nI pn) (hp : 1 ≤ pn) (hp2 : pn ≤ 30) (hA : ∀ k, k < pn → A 112 k = nI (pr k) ∧ pr k < 10 ∧ m (530 + 3 * k + 2) = lN (pr k)) : Spec M_X3_mostUrgent [.ref (ad 109)] (YC ad z0 z1) I J A B (eqP (some (.int (nI (bst m pn)))) (YC ad z0 z1) I J A B) := by
  refine Spec_of (by decide) tk_X3_mostUrgent (Nat.le_of_ble_eq_true rfl) (fun X g rt => ?_)
  show Sim X (YC ad z0 z1) 0 [(0, .ref (ad 109))] [] I J A B 0 0
  refine S_n g 4 (pc' := 4) (lv' := [(0, .ref (ad 109)), (1, .int (nI 0)), (2, .int (nI 1))]) (st' := []) rfl ?_
  have lp : ∀ (nn : Nat) (k : Nat), pn - k = nn → (k ≤ pn) → (1 ≤ k) → Sim X (YC ad z0 z1) 4 [(0, .ref (ad 109)), (1, .int (nI (bst m k))), (2, .int (nI k))] [] I J A B 0 0 := by
    intro nn
    induction nn using Nat.strongRecOn with
    | ind nn ih =>
      intro k hmz hk hk1
      have lp := ih
      have hbl := bst_lt m k (by omega)
      refine S_n g 2 (pc' := 6) (lv' := [(0, .ref (ad 109)), (1, .int (nI (bst m k))), (2, .int (nI k))]) (st' := [.ref (ad 109), .int (nI k)]) rfl ?_
      refine S_getI g (i := 109) (c := 3) (k := 3) (by decide) (by decide) rfl rfl fl_X3_21 rfl ?_
      rw [hP]
      refine S_icN_ge g (tgt := 35) (by omega) (by omega) rfl (by decide) (fun qz9 => ?_) (fun qz9 => ?_)
      · skip
        have hk9 : k = pn := by omega
        refine S_n g 1 (pc' := 36) (lv' := [(0, .ref (ad 109)), (1, .int (nI (bst m k))), (2, .int (nI k))]) (st' := [.int (nI (bst m k))]) rfl ?_
        exact rtI rt rfl rfl (by rw [hk9]; exact eqP_rf)
      · skip
        obtain ⟨a1, a2, a3⟩ := hA k (by omega)
        obtain ⟨b1, b2, b3⟩ := hA (bst m k) (by omega)
        have hs : bst m (k + 1) = if pr (bst m k) < pr k then k else bst m k := by rw [bst, if_neg (by omega), a3, b3]; simp only [lN_less (show pr (bst m k) < 2 ^ 63 by omega) (show pr k < 2 ^ 63 by omega)]
        refine S_n g 1 (pc' := 13) (lv' := [(0, .ref (ad 109)), (1, .int (nI (bst m k))), (2, .int (nI k))]) (st' := [.ref (ad 109)]) rfl ?_
        refine S_getR g (i := 109) (c := 3) (k := 2) (j := 112) (by decide) (by decide) rfl rfl rfl fl_X3_18 rfl ?_
        refine S_n g 1 (pc' := 17) (lv' := [(0, .ref (ad 109)), (1, .int (nI (bst m k))), (2, .int (nI k))]) (st' := [.int (nI k), .ref (ad 112)]) rfl ?_
        refine S_ialdN g (i := 112) (e := k) (by decide) rfl (show k < 30 from by omega) (show (30 : Nat) < 2 ^ 31 from by decide) rfl ?_
        rw [a1]
        refine S_n g 1 (pc' := 19) (lv' := [(0, .ref (ad 109)), (1, .int (nI (bst m k))), (2, .int (nI k))]) (st' := [.ref (ad 109), .int (nI (pr k))]) rfl ?_
        refine S_getR g (i := 109) (c := 3) (k := 2) (j := 112) (by decide) (by decide) rfl rfl rfl fl_X3_18 rfl ?_
        refine S_n g 1 (pc' := 23) (lv' := [(0, .ref (ad 109)), (1, .int (nI (bst m k))), (2, .int (nI k))]) (st' := [.int (nI (bst m k)), .ref (ad 112), .int (nI (pr k))]) rfl ?_
        refine S_ialdN g (i := 112) (e := bst m k) (by decide) rfl (show bst m k < 30 from by omega) (show (30 : Nat) < 2 ^ 31 from by decide) rfl ?_
        rw [b1]
        refine S_icN_le g (tgt := 29) (by omega) (by omega) rfl (by decide) (fun qz24 => ?_) (fun qz24 => ?_)
        · skip
          refine S_lveq (lv' := [(0, .ref (ad 109)), (1, .int (nI (bst m (k + 1)))), (2, .int (nI k))]) (by rw [(show nI (bst m k) = nI (bst m (k + 1)) from by rw [hs, if_neg (by omega)]).symm]) ?_
          refine S_n g 1 (pc' := 32) (lv' := [(0, .ref (ad 109)), (1, .int (nI (bst m (k + 1)))), (2, .int ((nI k) + nI 1))]) (st' := []) rfl ?_
          rw [nI_add k 1]
          refine S_n g 1 (pc' := 4) (lv' := [(0, .ref (ad 109)), (1, .int (nI (bst m (k + 1)))), (2, .int (nI (k + 1)))]) (st' := []) rfl ?_
          exact lp (pn - (k + 1)) (by omega) (k + 1) rfl (by omega) (by omega)
        · skip
          refine S_n g 2 (pc' := 29) (lv' := [(0, .ref (ad 109)), (1, .int (nI k)), (2, .int (nI k))]) (st' := []) rfl ?_
          refine S_lveq (lv' := [(0, .ref (ad 109)), (1, .int (nI (bst m (k + 1)))), (2, .int (nI k))]) (by rw [(show nI k = nI (bst m (k + 1)) from by rw [hs, if_pos (by omega)]).symm]) ?_
          refine S_n g 1 (pc' := 32) (lv' := [(0, .ref (ad 109)), (1, .int (nI (bst m (k + 1)))), (2, .int ((nI k) + nI 1))]) (st' := []) rfl ?_
          rw [nI_add k 1]
          refine S_n g 1 (pc' := 4) (lv' := [(0, .ref (ad 109)), (1, .int (nI (bst m (k + 1)))), (2, .int (nI (k + 1)))]) (st' := []) rfl ?_
          exact lp (pn - (k + 1)) (by omega) (k + 1) rfl (by omega) (by omega)
  exact lp _ 1 rfl hp (Nat.le_refl 1)
