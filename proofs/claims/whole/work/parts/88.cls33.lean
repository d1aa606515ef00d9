/-! the class: restore, and save where a world is kept already -/
theorem S_asN {X : MX} {M : MI} {Y : PS} {pc : Nat} {lv : List (Nat × Value)} {st : List Value} {I : FI} {J : FJ} {A : FI} {B : FJ} {kc n : Nat} (g : Good X M) {k : Fin 4} {lv' : List (Nat × Value)} (hk : k.val < M.2.2.1) (hd : fnd M.2.2.2.2.2 pc = some (.astore_n k, 1)) (hl' : (k.val, Value.null) :: lv.filter (fun q => !(q.1 == k.val) && !(q.1 + 1 == k.val && q.2.category == 2)) = lv') (kk : Sim X Y (pc + 1) lv' st I J A B kc n) : Sim X Y pc lv (.null :: st) I J A B kc n := by
  obtain ⟨p, l, e, R, s, m, args, below, meth, cod, Q, D, cy, A0, nL⟩ := X
  obtain ⟨hx, hb, hown, hts, hns, hK, hml, hnl, hA, hok, hR⟩ := g
  intro H locs ls hP hD hS hl
  exact lv_astore_nN hx hb (fnd_dec hok hd) rfl hl (by rw [hnl]; exact hk) hl' (fun ls' h' => kk H locs ls' hP hD hS h')

set_option maxRecDepth 100000 in
set_option maxHeartbeats 4000000 in
theorem c_restore_bad (ad : Nat → Nat) (z0 z1 : Bool) (I : FI) (J : FJ) (A : FI) (B : FJ) (x : Int32) (h : isIx x 2 = false) : Spec M_X8_restore [.ref (ad 0), .int x] (YC ad z0 z1) I J A B (eqP (some (.int (-nI 101))) (YC ad z0 z1) I J A B) := by
  refine Spec_of (by decide) tk_X8_restore (Nat.le_of_ble_eq_true rfl) (fun X g rt => ?_)
  show Sim X (YC ad z0 z1) 0 [(0, .ref (ad 0)), (1, .int x)] [] I J A B 0 0
  refine S_n g 1 (pc' := 1) (lv' := [(0, .ref (ad 0)), (1, .int x)]) (st' := [.int x]) rfl ?_
  refine S_if_lt g (tgt := 9) rfl (by decide) (fun qz1 => ?_) (fun qz1 => ?_)
  · skip
    refine S_n g 1 (pc' := 11) (lv' := [(0, .ref (ad 0)), (1, .int x)]) (st' := [.int (-nI 101)]) rfl ?_
    exact rtI rt rfl rfl eqP_rf
  · skip
    refine S_n g 2 (pc' := 6) (lv' := [(0, .ref (ad 0)), (1, .int x)]) (st' := [.int (nI 2), .int x]) rfl ?_
    refine S_ic_lt g (tgt := 12) rfl (by decide) (fun qz6 => ?_) (fun qz6 => ?_)
    · skip
      exact absurd (isIx_of qz1 (fun q => absurd qz6 (nlt32.mpr q)) (by decide)) (by rw [h]; decide)
    · skip
      refine S_n g 1 (pc' := 11) (lv' := [(0, .ref (ad 0)), (1, .int x)]) (st' := [.int (-nI 101)]) rfl ?_
      exact rtI rt rfl rfl eqP_rf

set_option maxRecDepth 100000 in
set_option maxHeartbeats 4000000 in
theorem c_save_bad (ad : Nat → Nat) (z0 z1 : Bool) (I : FI) (J : FJ) (A : FI) (B : FJ) (x : Int32) (h : isIx x 2 = false) : Spec M_X8_save [.ref (ad 0), .int x] (YC ad z0 z1) I J A B (eqP (some (.int (-nI 101))) (YC ad z0 z1) I J A B) := by
  refine Spec_of (by decide) tk_X8_save (Nat.le_of_ble_eq_true rfl) (fun X g rt => ?_)
  show Sim X (YC ad z0 z1) 0 [(0, .ref (ad 0)), (1, .int x)] [] I J A B 0 0
  refine S_n g 1 (pc' := 1) (lv' := [(0, .ref (ad 0)), (1, .int x)]) (st' := [.int x]) rfl ?_
  refine S_if_lt g (tgt := 9) rfl (by decide) (fun qz1 => ?_) (fun qz1 => ?_)
  · skip
    refine S_n g 1 (pc' := 11) (lv' := [(0, .ref (ad 0)), (1, .int x)]) (st' := [.int (-nI 101)]) rfl ?_
    exact rtI rt rfl rfl eqP_rf
  · skip
    refine S_n g 2 (pc' := 6) (lv' := [(0, .ref (ad 0)), (1, .int x)]) (st' := [.int (nI 2), .int x]) rfl ?_
    refine S_ic_lt g (tgt := 12) rfl (by decide) (fun qz6 => ?_) (fun qz6 => ?_)
    · skip
      exact absurd (isIx_of qz1 (fun q => absurd qz6 (nlt32.mpr q)) (by decide)) (by rw [h]; decide)
    · skip
      refine S_n g 1 (pc' := 11) (lv' := [(0, .ref (ad 0)), (1, .int x)]) (st' := [.int (-nI 101)]) rfl ?_
      exact rtI rt rfl rfl eqP_rf

set_option maxRecDepth 100000 in
set_option maxHeartbeats 4000000 in
theorem c_restore_n0 (ad : Nat → Nat) (z1 : Bool) (I : FI) (J : FJ) (A : FI) (B : FJ) : Spec M_X8_restore [.ref (ad 0), .int (nI 0)] (YC ad false z1) I J A B (eqP (some (.int (-nI 102))) (YC ad false z1) I J A B) := by
  refine Spec_of (by decide) tk_X8_restore (Nat.le_of_ble_eq_true rfl) (fun X g rt => ?_)
  show Sim X (YC ad false z1) 0 [(0, .ref (ad 0)), (1, .int (nI 0))] [] I J A B 0 0
  refine S_n g 1 (pc' := 1) (lv' := [(0, .ref (ad 0)), (1, .int (nI 0))]) (st' := [.int (nI 0)]) rfl ?_
  refine S_ifN_lt g (tgt := 9) (by omega) rfl (by decide) ?_
  refine S_n g 2 (pc' := 6) (lv' := [(0, .ref (ad 0)), (1, .int (nI 0))]) (st' := [.int (nI 2), .int (nI 0)]) rfl ?_
  refine S_icN_lt g (tgt := 12) (by omega) (by omega) rfl (by decide) (fun qz6 => ?_) (fun qz6 => ?_)
  · skip
    refine S_n g 1 (pc' := 13) (lv' := [(0, .ref (ad 0)), (1, .int (nI 0))]) (st' := [.ref (ad 0)]) rfl ?_
    refine S_getR g (i := 0) (c := 8) (k := 1) (j := 1) (by decide) (by decide) rfl rfl rfl fl_X8_16 rfl ?_
    refine S_n g 1 (pc' := 17) (lv' := [(0, .ref (ad 0)), (1, .int (nI 0))]) (st' := [.int (nI 0), .ref (ad 1)]) rfl ?_
    refine S_aald14 g (i := 1) (by decide) rfl (vp_in_nI (show 0 < 2 by decide) (show (2 : Nat) < 2 ^ 31 by decide)) rfl ?_
    show Sim X (YC ad false z1) 18 [(0, .ref (ad 0)), (1, .int (nI 0))] [.null] I J A B 0 0
    refine S_asN g (k := 2) (lv' := [(2, .null), (0, .ref (ad 0)), (1, .int (nI 0))]) (by decide) rfl rfl ?_
    refine S_less (lv' := [(0, .ref (ad 0)), (1, .int (nI 0)), (2, .null)]) (fun q hq => by simp only [List.mem_cons, List.not_mem_nil, or_false] at hq ⊢; rcases hq with h | h | h <;> simp [h]) ?_
    refine S_alN g rfl rfl ?_
    refine S_nonnullN g rfl ?_
    refine S_n g 1 (pc' := 25) (lv' := [(0, .ref (ad 0)), (1, .int (nI 0)), (2, .null)]) (st' := [.int (-nI 102)]) rfl ?_
    exact rtI rt rfl rfl eqP_rf
  · skip
    exact absurd qz6 (by decide)

set_option maxRecDepth 100000 in
set_option maxHeartbeats 4000000 in
theorem c_restore_y0 (ad : Nat → Nat) (z1 : Bool) (I : FI) (J : FJ) (A : FI) (B : FJ) (m s : Nat → Int64) (hG : WG s) (hR : RepW 100 m I J A B) (hS : RepW 200 s I J A B) : Spec M_X8_restore [.ref (ad 0), .int (nI 0)] (YC ad true z1) I J A B (fun v' Y' I' J' A' B' => v' = some (.int (s 428).toInt32) ∧ Y' = YC ad true z1 ∧ RepW 100 s I' J' A' B' ∧ kpB 100 I J A B I' J' A' B') := by
  refine Spec_of (by decide) tk_X8_restore (Nat.le_of_ble_eq_true rfl) (fun X g rt => ?_)
  show Sim X (YC ad true z1) 0 [(0, .ref (ad 0)), (1, .int (nI 0))] [] I J A B 0 0
  refine S_n g 1 (pc' := 1) (lv' := [(0, .ref (ad 0)), (1, .int (nI 0))]) (st' := [.int (nI 0)]) rfl ?_
  refine S_ifN_lt g (tgt := 9) (by omega) rfl (by decide) ?_
  refine S_n g 2 (pc' := 6) (lv' := [(0, .ref (ad 0)), (1, .int (nI 0))]) (st' := [.int (nI 2), .int (nI 0)]) rfl ?_
  refine S_icN_lt g (tgt := 12) (by omega) (by omega) rfl (by decide) (fun qz6 => ?_) (fun qz6 => ?_)
  · skip
    refine S_n g 1 (pc' := 13) (lv' := [(0, .ref (ad 0)), (1, .int (nI 0))]) (st' := [.ref (ad 0)]) rfl ?_
    refine S_getR g (i := 0) (c := 8) (k := 1) (j := 1) (by decide) (by decide) rfl rfl rfl fl_X8_16 rfl ?_
    refine S_n g 1 (pc' := 17) (lv' := [(0, .ref (ad 0)), (1, .int (nI 0))]) (st' := [.int (nI 0), .ref (ad 1)]) rfl ?_
    refine S_aald14 g (i := 1) (by decide) rfl (vp_in_nI (show 0 < 2 by decide) (show (2 : Nat) < 2 ^ 31 by decide)) rfl ?_
    show Sim X (YC ad true z1) 18 [(0, .ref (ad 0)), (1, .int (nI 0))] [.ref (ad 200)] I J A B 0 0
    refine S_n g 2 (pc' := 20) (lv' := [(0, .ref (ad 0)), (1, .int (nI 0)), (2, .ref (ad 200))]) (st' := [.ref (ad 200)]) rfl ?_
    refine S_nonnull g (tgt := 26) rfl rfl ?_
    refine S_n g 1 (pc' := 27) (lv' := [(0, .ref (ad 0)), (1, .int (nI 0)), (2, .ref (ad 200))]) (st' := [.ref (ad 0)]) rfl ?_
    refine S_getR g (i := 0) (c := 8) (k := 0) (j := 100) (by decide) (by decide) rfl rfl rfl fl_X8_10 rfl ?_
    refine S_n g 1 (pc' := 31) (lv' := [(0, .ref (ad 0)), (1, .int (nI 0)), (2, .ref (ad 200))]) (st' := [.ref (ad 200), .ref (ad 100)]) rfl ?_
    refine S_callV g (i := 100) (As := [.ref (ad 200)]) (st := []) (w_copy_r0 ad z1 I J A B s hG hS (RepW_lim hR)) mw_X7_copyFrom lk_X8_301 ⟨Nat.le_of_ble_eq_true rfl, Nat.le_of_ble_eq_true rfl⟩ (by decide) (by decide) rfl rfl (Nat.le_of_ble_eq_true rfl) ⟨Nat.le_of_ble_eq_true rfl, Nat.le_of_ble_eq_true rfl⟩ rfl (fun v' Y' I2 J2 A2 B2 hpo => ?_)
    obtain ⟨rfl, rfl, hR2, hk2⟩ := hpo
    show Sim X (YC ad true z1) 34 [(0, .ref (ad 0)), (1, .int (nI 0)), (2, .ref (ad 200))] [] I2 J2 A2 B2 0 0
    have hH : I2 106 3 = (s 428).toInt32 := by rw [hG.2.2.1.1, lN_i]; exact hR2.2.2.2.2.2.2.2.1.2.1
    refine S_n g 1 (pc' := 35) (lv' := [(0, .ref (ad 0)), (1, .int (nI 0)), (2, .ref (ad 200))]) (st' := [.ref (ad 0)]) rfl ?_
    refine S_getR g (i := 0) (c := 8) (k := 0) (j := 100) (by decide) (by decide) rfl rfl rfl fl_X8_10 rfl ?_
    refine S_getR g (i := 100) (c := 7) (k := 3) (j := 106) (by decide) (by decide) rfl rfl rfl fl_X8_68 rfl ?_
    refine S_getI g (i := 106) (c := 6) (k := 3) (by decide) (by decide) rfl rfl fl_X8_72 rfl ?_
    rw [hH]
    exact rtI rt rfl rfl (⟨rfl, rfl, hR2, hk2⟩)
  · skip
    exact absurd qz6 (by decide)

set_option maxRecDepth 100000 in
set_option maxHeartbeats 4000000 in
theorem c_save_y0 (ad : Nat → Nat) (z1 : Bool) (I : FI) (J : FJ) (A : FI) (B : FJ) (m s : Nat → Int64) (hG : WG m) (hR : RepW 100 m I J A B) (hS : RepW 200 s I J A B) : Spec M_X8_save [.ref (ad 0), .int (nI 0)] (YC ad true z1) I J A B (fun v' Y' I' J' A' B' => v' = some (.int (m 428).toInt32) ∧ Y' = YC ad true z1 ∧ RepW 200 m I' J' A' B' ∧ kpB 200 I J A B I' J' A' B') := by
  refine Spec_of (by decide) tk_X8_save (Nat.le_of_ble_eq_true rfl) (fun X g rt => ?_)
  show Sim X (YC ad true z1) 0 [(0, .ref (ad 0)), (1, .int (nI 0))] [] I J A B 0 0
  refine S_n g 1 (pc' := 1) (lv' := [(0, .ref (ad 0)), (1, .int (nI 0))]) (st' := [.int (nI 0)]) rfl ?_
  refine S_ifN_lt g (tgt := 9) (by omega) rfl (by decide) ?_
  refine S_n g 2 (pc' := 6) (lv' := [(0, .ref (ad 0)), (1, .int (nI 0))]) (st' := [.int (nI 2), .int (nI 0)]) rfl ?_
  refine S_icN_lt g (tgt := 12) (by omega) (by omega) rfl (by decide) (fun qz6 => ?_) (fun qz6 => ?_)
  · skip
    refine S_n g 1 (pc' := 13) (lv' := [(0, .ref (ad 0)), (1, .int (nI 0))]) (st' := [.ref (ad 0)]) rfl ?_
    refine S_getR g (i := 0) (c := 8) (k := 1) (j := 1) (by decide) (by decide) rfl rfl rfl fl_X8_16 rfl ?_
    refine S_n g 1 (pc' := 17) (lv' := [(0, .ref (ad 0)), (1, .int (nI 0))]) (st' := [.int (nI 0), .ref (ad 1)]) rfl ?_
    refine S_aald14 g (i := 1) (by decide) rfl (vp_in_nI (show 0 < 2 by decide) (show (2 : Nat) < 2 ^ 31 by decide)) rfl ?_
    show Sim X (YC ad true z1) 18 [(0, .ref (ad 0)), (1, .int (nI 0))] [.ref (ad 200)] I J A B 0 0
    refine S_n g 2 (pc' := 20) (lv' := [(0, .ref (ad 0)), (1, .int (nI 0)), (2, .ref (ad 200))]) (st' := [.ref (ad 200)]) rfl ?_
    refine S_nonnull g (tgt := 38) rfl rfl ?_
    refine S_n g 2 (pc' := 40) (lv' := [(0, .ref (ad 0)), (1, .int (nI 0)), (2, .ref (ad 200))]) (st' := [.ref (ad 0), .ref (ad 200)]) rfl ?_
    refine S_getR g (i := 0) (c := 8) (k := 0) (j := 100) (by decide) (by decide) rfl rfl rfl fl_X8_10 rfl ?_
    refine S_callV g (i := 200) (As := [.ref (ad 100)]) (st := []) (w_copy_s0 ad z1 I J A B m hG hR (RepW_lim hS)) mw_X7_copyFrom lk_X8_301 ⟨Nat.le_of_ble_eq_true rfl, Nat.le_of_ble_eq_true rfl⟩ (by decide) (by decide) rfl rfl (Nat.le_of_ble_eq_true rfl) ⟨Nat.le_of_ble_eq_true rfl, Nat.le_of_ble_eq_true rfl⟩ rfl (fun v' Y' I2 J2 A2 B2 hpo => ?_)
    obtain ⟨rfl, rfl, hR2, hk2⟩ := hpo
    show Sim X (YC ad true z1) 46 [(0, .ref (ad 0)), (1, .int (nI 0)), (2, .ref (ad 200))] [] I2 J2 A2 B2 0 0
    have hH : I2 106 3 = (m 428).toInt32 := by rw [(hk2 106 (by omega)).1, hG.2.2.1.1, lN_i]; exact hR.2.2.2.2.2.2.2.1.2.1
    refine S_n g 1 (pc' := 47) (lv' := [(0, .ref (ad 0)), (1, .int (nI 0)), (2, .ref (ad 200))]) (st' := [.ref (ad 0)]) rfl ?_
    refine S_getR g (i := 0) (c := 8) (k := 0) (j := 100) (by decide) (by decide) rfl rfl rfl fl_X8_10 rfl ?_
    refine S_getR g (i := 100) (c := 7) (k := 3) (j := 106) (by decide) (by decide) rfl rfl rfl fl_X8_68 rfl ?_
    refine S_getI g (i := 106) (c := 6) (k := 3) (by decide) (by decide) rfl rfl fl_X8_72 rfl ?_
    rw [hH]
    exact rtI rt rfl rfl (⟨rfl, rfl, hR2, hk2⟩)
  · skip
    exact absurd qz6 (by decide)

set_option maxRecDepth 100000 in
set_option maxHeartbeats 4000000 in
theorem c_restore_n1 (ad : Nat → Nat) (z0 : Bool) (I : FI) (J : FJ) (A : FI) (B : FJ) : Spec M_X8_restore [.ref (ad 0), .int (nI 1)] (YC ad z0 false) I J A B (eqP (some (.int (-nI 102))) (YC ad z0 false) I J A B) := by
  refine Spec_of (by decide) tk_X8_restore (Nat.le_of_ble_eq_true rfl) (fun X g rt => ?_)
  show Sim X (YC ad z0 false) 0 [(0, .ref (ad 0)), (1, .int (nI 1))] [] I J A B 0 0
  refine S_n g 1 (pc' := 1) (lv' := [(0, .ref (ad 0)), (1, .int (nI 1))]) (st' := [.int (nI 1)]) rfl ?_
  refine S_ifN_lt g (tgt := 9) (by omega) rfl (by decide) ?_
  refine S_n g 2 (pc' := 6) (lv' := [(0, .ref (ad 0)), (1, .int (nI 1))]) (st' := [.int (nI 2), .int (nI 1)]) rfl ?_
  refine S_icN_lt g (tgt := 12) (by omega) (by omega) rfl (by decide) (fun qz6 => ?_) (fun qz6 => ?_)
  · skip
    refine S_n g 1 (pc' := 13) (lv' := [(0, .ref (ad 0)), (1, .int (nI 1))]) (st' := [.ref (ad 0)]) rfl ?_
    refine S_getR g (i := 0) (c := 8) (k := 1) (j := 1) (by decide) (by decide) rfl rfl rfl fl_X8_16 rfl ?_
    refine S_n g 1 (pc' := 17) (lv' := [(0, .ref (ad 0)), (1, .int (nI 1))]) (st' := [.int (nI 1), .ref (ad 1)]) rfl ?_
    refine S_aald14 g (i := 1) (by decide) rfl (vp_in_nI (show 1 < 2 by decide) (show (2 : Nat) < 2 ^ 31 by decide)) rfl ?_
    show Sim X (YC ad z0 false) 18 [(0, .ref (ad 0)), (1, .int (nI 1))] [.null] I J A B 0 0
    refine S_asN g (k := 2) (lv' := [(2, .null), (0, .ref (ad 0)), (1, .int (nI 1))]) (by decide) rfl rfl ?_
    refine S_less (lv' := [(0, .ref (ad 0)), (1, .int (nI 1)), (2, .null)]) (fun q hq => by simp only [List.mem_cons, List.not_mem_nil, or_false] at hq ⊢; rcases hq with h | h | h <;> simp [h]) ?_
    refine S_alN g rfl rfl ?_
    refine S_nonnullN g rfl ?_
    refine S_n g 1 (pc' := 25) (lv' := [(0, .ref (ad 0)), (1, .int (nI 1)), (2, .null)]) (st' := [.int (-nI 102)]) rfl ?_
    exact rtI rt rfl rfl eqP_rf
  · skip
    exact absurd qz6 (by decide)

set_option maxRecDepth 100000 in
set_option maxHeartbeats 4000000 in
theorem c_restore_y1 (ad : Nat → Nat) (z0 : Bool) (I : FI) (J : FJ) (A : FI) (B : FJ) (m s : Nat → Int64) (hG : WG s) (hR : RepW 100 m I J A B) (hS : RepW 300 s I J A B) : Spec M_X8_restore [.ref (ad 0), .int (nI 1)] (YC ad z0 true) I J A B (fun v' Y' I' J' A' B' => v' = some (.int (s 428).toInt32) ∧ Y' = YC ad z0 true ∧ RepW 100 s I' J' A' B' ∧ kpB 100 I J A B I' J' A' B') := by
  refine Spec_of (by decide) tk_X8_restore (Nat.le_of_ble_eq_true rfl) (fun X g rt => ?_)
  show Sim X (YC ad z0 true) 0 [(0, .ref (ad 0)), (1, .int (nI 1))] [] I J A B 0 0
  refine S_n g 1 (pc' := 1) (lv' := [(0, .ref (ad 0)), (1, .int (nI 1))]) (st' := [.int (nI 1)]) rfl ?_
  refine S_ifN_lt g (tgt := 9) (by omega) rfl (by decide) ?_
  refine S_n g 2 (pc' := 6) (lv' := [(0, .ref (ad 0)), (1, .int (nI 1))]) (st' := [.int (nI 2), .int (nI 1)]) rfl ?_
  refine S_icN_lt g (tgt := 12) (by omega) (by omega) rfl (by decide) (fun qz6 => ?_) (fun qz6 => ?_)
  · skip
    refine S_n g 1 (pc' := 13) (lv' := [(0, .ref (ad 0)), (1, .int (nI 1))]) (st' := [.ref (ad 0)]) rfl ?_
    refine S_getR g (i := 0) (c := 8) (k := 1) (j := 1) (by decide) (by decide) rfl rfl rfl fl_X8_16 rfl ?_
    refine S_n g 1 (pc' := 17) (lv' := [(0, .ref (ad 0)), (1, .int (nI 1))]) (st' := [.int (nI 1), .ref (ad 1)]) rfl ?_
    refine S_aald14 g (i := 1) (by decide) rfl (vp_in_nI (show 1 < 2 by decide) (show (2 : Nat) < 2 ^ 31 by decide)) rfl ?_
    show Sim X (YC ad z0 true) 18 [(0, .ref (ad 0)), (1, .int (nI 1))] [.ref (ad 300)] I J A B 0 0
    refine S_n g 2 (pc' := 20) (lv' := [(0, .ref (ad 0)), (1, .int (nI 1)), (2, .ref (ad 300))]) (st' := [.ref (ad 300)]) rfl ?_
    refine S_nonnull g (tgt := 26) rfl rfl ?_
    refine S_n g 1 (pc' := 27) (lv' := [(0, .ref (ad 0)), (1, .int (nI 1)), (2, .ref (ad 300))]) (st' := [.ref (ad 0)]) rfl ?_
    refine S_getR g (i := 0) (c := 8) (k := 0) (j := 100) (by decide) (by decide) rfl rfl rfl fl_X8_10 rfl ?_
    refine S_n g 1 (pc' := 31) (lv' := [(0, .ref (ad 0)), (1, .int (nI 1)), (2, .ref (ad 300))]) (st' := [.ref (ad 300), .ref (ad 100)]) rfl ?_
    refine S_callV g (i := 100) (As := [.ref (ad 300)]) (st := []) (w_copy_r1 ad z0 I J A B s hG hS (RepW_lim hR)) mw_X7_copyFrom lk_X8_301 ⟨Nat.le_of_ble_eq_true rfl, Nat.le_of_ble_eq_true rfl⟩ (by decide) (by decide) rfl rfl (Nat.le_of_ble_eq_true rfl) ⟨Nat.le_of_ble_eq_true rfl, Nat.le_of_ble_eq_true rfl⟩ rfl (fun v' Y' I2 J2 A2 B2 hpo => ?_)
    obtain ⟨rfl, rfl, hR2, hk2⟩ := hpo
    show Sim X (YC ad z0 true) 34 [(0, .ref (ad 0)), (1, .int (nI 1)), (2, .ref (ad 300))] [] I2 J2 A2 B2 0 0
    have hH : I2 106 3 = (s 428).toInt32 := by rw [hG.2.2.1.1, lN_i]; exact hR2.2.2.2.2.2.2.2.1.2.1
    refine S_n g 1 (pc' := 35) (lv' := [(0, .ref (ad 0)), (1, .int (nI 1)), (2, .ref (ad 300))]) (st' := [.ref (ad 0)]) rfl ?_
    refine S_getR g (i := 0) (c := 8) (k := 0) (j := 100) (by decide) (by decide) rfl rfl rfl fl_X8_10 rfl ?_
    refine S_getR g (i := 100) (c := 7) (k := 3) (j := 106) (by decide) (by decide) rfl rfl rfl fl_X8_68 rfl ?_
    refine S_getI g (i := 106) (c := 6) (k := 3) (by decide) (by decide) rfl rfl fl_X8_72 rfl ?_
    rw [hH]
    exact rtI rt rfl rfl (⟨rfl, rfl, hR2, hk2⟩)
  · skip
    exact absurd qz6 (by decide)

set_option maxRecDepth 100000 in
set_option maxHeartbeats 4000000 in
theorem c_save_y1 (ad : Nat → Nat) (z0 : Bool) (I : FI) (J : FJ) (A : FI) (B : FJ) (m s : Nat → Int64) (hG : WG m) (hR : RepW 100 m I J A B) (hS : RepW 300 s I J A B) : Spec M_X8_save [.ref (ad 0), .int (nI 1)] (YC ad z0 true) I J A B (fun v' Y' I' J' A' B' => v' = some (.int (m 428).toInt32) ∧ Y' = YC ad z0 true ∧ RepW 300 m I' J' A' B' ∧ kpB 300 I J A B I' J' A' B') := by
  refine Spec_of (by decide) tk_X8_save (Nat.le_of_ble_eq_true rfl) (fun X g rt => ?_)
  show Sim X (YC ad z0 true) 0 [(0, .ref (ad 0)), (1, .int (nI 1))] [] I J A B 0 0
  refine S_n g 1 (pc' := 1) (lv' := [(0, .ref (ad 0)), (1, .int (nI 1))]) (st' := [.int (nI 1)]) rfl ?_
  refine S_ifN_lt g (tgt := 9) (by omega) rfl (by decide) ?_
  refine S_n g 2 (pc' := 6) (lv' := [(0, .ref (ad 0)), (1, .int (nI 1))]) (st' := [.int (nI 2), .int (nI 1)]) rfl ?_
  refine S_icN_lt g (tgt := 12) (by omega) (by omega) rfl (by decide) (fun qz6 => ?_) (fun qz6 => ?_)
  · skip
    refine S_n g 1 (pc' := 13) (lv' := [(0, .ref (ad 0)), (1, .int (nI 1))]) (st' := [.ref (ad 0)]) rfl ?_
    refine S_getR g (i := 0) (c := 8) (k := 1) (j := 1) (by decide) (by decide) rfl rfl rfl fl_X8_16 rfl ?_
    refine S_n g 1 (pc' := 17) (lv' := [(0, .ref (ad 0)), (1, .int (nI 1))]) (st' := [.int (nI 1), .ref (ad 1)]) rfl ?_
    refine S_aald14 g (i := 1) (by decide) rfl (vp_in_nI (show 1 < 2 by decide) (show (2 : Nat) < 2 ^ 31 by decide)) rfl ?_
    show Sim X (YC ad z0 true) 18 [(0, .ref (ad 0)), (1, .int (nI 1))] [.ref (ad 300)] I J A B 0 0
    refine S_n g 2 (pc' := 20) (lv' := [(0, .ref (ad 0)), (1, .int (nI 1)), (2, .ref (ad 300))]) (st' := [.ref (ad 300)]) rfl ?_
    refine S_nonnull g (tgt := 38) rfl rfl ?_
    refine S_n g 2 (pc' := 40) (lv' := [(0, .ref (ad 0)), (1, .int (nI 1)), (2, .ref (ad 300))]) (st' := [.ref (ad 0), .ref (ad 300)]) rfl ?_
    refine S_getR g (i := 0) (c := 8) (k := 0) (j := 100) (by decide) (by decide) rfl rfl rfl fl_X8_10 rfl ?_
    refine S_callV g (i := 300) (As := [.ref (ad 100)]) (st := []) (w_copy_s1 ad z0 I J A B m hG hR (RepW_lim hS)) mw_X7_copyFrom lk_X8_301 ⟨Nat.le_of_ble_eq_true rfl, Nat.le_of_ble_eq_true rfl⟩ (by decide) (by decide) rfl rfl (Nat.le_of_ble_eq_true rfl) ⟨Nat.le_of_ble_eq_true rfl, Nat.le_of_ble_eq_true rfl⟩ rfl (fun v' Y' I2 J2 A2 B2 hpo => ?_)
    obtain ⟨rfl, rfl, hR2, hk2⟩ := hpo
    show Sim X (YC ad z0 true) 46 [(0, .ref (ad 0)), (1, .int (nI 1)), (2, .ref (ad 300))] [] I2 J2 A2 B2 0 0
    have hH : I2 106 3 = (m 428).toInt32 := by rw [(hk2 106 (by omega)).1, hG.2.2.1.1, lN_i]; exact hR.2.2.2.2.2.2.2.1.2.1
    refine S_n g 1 (pc' := 47) (lv' := [(0, .ref (ad 0)), (1, .int (nI 1)), (2, .ref (ad 300))]) (st' := [.ref (ad 0)]) rfl ?_
    refine S_getR g (i := 0) (c := 8) (k := 0) (j := 100) (by decide) (by decide) rfl rfl rfl fl_X8_10 rfl ?_
    refine S_getR g (i := 100) (c := 7) (k := 3) (j := 106) (by decide) (by decide) rfl rfl rfl fl_X8_68 rfl ?_
    refine S_getI g (i := 106) (c := 6) (k := 3) (by decide) (by decide) rfl rfl fl_X8_72 rfl ?_
    rw [hH]
    exact rtI rt rfl rfl (⟨rfl, rfl, hR2, hk2⟩)
  · skip
    exact absurd qz6 (by decide)
