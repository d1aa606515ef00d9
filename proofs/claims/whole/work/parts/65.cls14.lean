/-! the class: who demands -/
theorem wm1 {m : Nat → Int64} {u nf : Nat} (hf : nf ≤ 5) (h : okW m u nf) : (m (69 + u)).toInt32 = -nI 1 ↔ m (69 + u) = -lN 1 := by
  rcases h with h | ⟨f, h1, h⟩
  · rw [h]; exact ⟨fun _ => rfl, fun _ => by decide⟩
  · rw [h, lN_i]
    constructor
    · intro q
      have := congrArg Int32.toInt q
      rw [nI_toInt (by omega), show (-nI 1).toInt = -1 from by decide] at this
      omega
    · intro q; exact absurd q (lN_m1 (by omega))

set_option maxRecDepth 100000 in
set_option maxHeartbeats 4000000 in
theorem w_demanding (ad : Nat → Nat) (z0 z1 : Bool) (I : FI) (J : FJ) (A : FI) (B : FJ) (m : Nat → Int64) (nu nf : Nat) (hU : I 100 6 = nI nu) (h4 : nu ≤ 6) (h2 : nf ≤ 5) (hW : ∀ u, u < 6 → okW m u nf) (hI : ∀ u, u < 6 → I (120 + 4 * u) 2 = (m (69 + u)).toInt32) : Spec M_X7_demanding [.ref (ad 100)] (YC ad z0 z1) I J A B (eqP (some (.int (nI (dmN m nu)))) (YC ad z0 z1) I J A B) := by
  refine Spec_of (by decide) tk_X7_demanding (Nat.le_of_ble_eq_true rfl) (fun X g rt => ?_)
  show Sim X (YC ad z0 z1) 0 [(0, .ref (ad 100))] [] I J A B 0 0
  refine S_n g 4 (pc' := 4) (lv' := [(0, .ref (ad 100)), (1, .int (nI 0)), (2, .int (nI 0))]) (st' := []) rfl ?_
  have lp : ∀ (nn : Nat) (u : Nat), nu - u = nn → (u ≤ nu) → Sim X (YC ad z0 z1) 4 [(0, .ref (ad 100)), (1, .int (nI (dmN m u))), (2, .int (nI u))] [] I J A B 0 0 := by
    intro nn
    induction nn using Nat.strongRecOn with
    | ind nn ih =>
      intro u hmz hu9
      have lp := ih
      refine S_n g 2 (pc' := 6) (lv' := [(0, .ref (ad 100)), (1, .int (nI (dmN m u))), (2, .int (nI u))]) (st' := [.ref (ad 100), .int (nI u)]) rfl ?_
      refine S_getI g (i := 100) (c := 7) (k := 6) (by decide) (by decide) rfl rfl fl_X7_45 rfl ?_
      rw [hU]
      refine S_icN_ge g (tgt := 37) (by omega) (by omega) rfl (by decide) (fun qz9 => ?_) (fun qz9 => ?_)
      · skip
        have hk9 : u = nu := by omega
        refine S_n g 1 (pc' := 38) (lv' := [(0, .ref (ad 100)), (1, .int (nI (dmN m u))), (2, .int (nI u))]) (st' := [.int (nI (dmN m u))]) rfl ?_
        exact rtI rt rfl rfl (by rw [hk9]; exact eqP_rf)
      · skip
        have hu : u < 6 := by omega
        refine S_n g 1 (pc' := 13) (lv' := [(0, .ref (ad 100)), (1, .int (nI (dmN m u))), (2, .int (nI u))]) (st' := [.ref (ad 100)]) rfl ?_
        refine S_getR g (i := 100) (c := 7) (k := 1) (j := 102) (by decide) (by decide) rfl rfl rfl fl_X7_17 rfl ?_
        refine S_n g 1 (pc' := 17) (lv' := [(0, .ref (ad 100)), (1, .int (nI (dmN m u))), (2, .int (nI u))]) (st' := [.int (nI u), .ref (ad 102)]) rfl ?_
        refine S_aaldN g (i := 102) (e := u) (j := 120 + 4 * u) (by decide) rfl (show u < 6 from by omega) (show (6 : Nat) < 2 ^ 31 from by decide) rfl rfl ?_
        refine S_getI g (i := 120 + 4 * u) (c := 2) (k := 2) (by omega) (by decide) (mb7 hu).1 rfl fl_X7_90 rfl ?_
        rw [hI u hu]
        refine S_n g 1 (pc' := 22) (lv' := [(0, .ref (ad 100)), (1, .int (nI (dmN m u))), (2, .int (nI u))]) (st' := [.int (-nI 1), .int (m (69 + u)).toInt32]) rfl ?_
        refine S_ic_eq g (tgt := 31) rfl (by decide) (fun qz22 => ?_) (fun qz22 => ?_)
        · skip
          have hq := (wm1 h2 (hW u hu)).mp qz22
          refine S_lveq (lv' := [(0, .ref (ad 100)), (1, .int (nI (dmN m (u + 1)))), (2, .int (nI u))]) (by rw [(show nI (dmN m u) = nI (dmN m (u + 1)) from by rw [dmN, if_pos hq]).symm]) ?_
          refine S_n g 1 (pc' := 34) (lv' := [(0, .ref (ad 100)), (1, .int (nI (dmN m (u + 1)))), (2, .int ((nI u) + nI 1))]) (st' := []) rfl ?_
          rw [nI_add u 1]
          refine S_n g 1 (pc' := 4) (lv' := [(0, .ref (ad 100)), (1, .int (nI (dmN m (u + 1)))), (2, .int (nI (u + 1)))]) (st' := []) rfl ?_
          exact lp (nu - (u + 1)) (by omega) (u + 1) rfl (by omega)
        · skip
          have hq : ¬ m (69 + u) = -lN 1 := fun q => qz22 ((wm1 h2 (hW u hu)).mpr q)
          refine S_n g 6 (pc' := 31) (lv' := [(0, .ref (ad 100)), (1, .int ((nI (dmN m u)) ||| ((nI 1) <<< ((nI u) &&& 31)))), (2, .int (nI u))]) (st' := []) rfl ?_
          refine S_lveq (lv' := [(0, .ref (ad 100)), (1, .int (nI (dmN m (u + 1)))), (2, .int (nI u))]) (by rw [(show (nI (dmN m u)) ||| ((nI 1) <<< ((nI u) &&& 31)) = nI (dmN m (u + 1)) from by rw [dmN, if_neg hq, ← nI_or, ← i1_nI (by omega)]).symm]) ?_
          refine S_n g 1 (pc' := 34) (lv' := [(0, .ref (ad 100)), (1, .int (nI (dmN m (u + 1)))), (2, .int ((nI u) + nI 1))]) (st' := []) rfl ?_
          rw [nI_add u 1]
          refine S_n g 1 (pc' := 4) (lv' := [(0, .ref (ad 100)), (1, .int (nI (dmN m (u + 1)))), (2, .int (nI (u + 1)))]) (st' := []) rfl ?_
          exact lp (nu - (u + 1)) (by omega) (u + 1) rfl (by omega)
  exact lp _ 0 rfl (Nat.zero_le _)
