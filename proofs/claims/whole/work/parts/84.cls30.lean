/-! the class: run -/
theorem agN_8 {c : Nat} (h : agN (c + 1) ≠ 0) : c = 105 ∨ c = 106 ∨ c = 108 ∨ c = 110 ∨ c = 113 ∨ c = 115 ∨ c = 116 ∨ c = 119 := by
  unfold agN at h
  by_cases q : c + 1 = 120
  · omega
  · rw [if_neg q] at h
    apply Classical.byContradiction
    intro w
    apply h
    rw [if_neg (by omega)]
theorem rdC_ok {tc : Nat → Nat} {n a : Nat} (h : (rdC tc n a).1 = true) : agN ((rdC tc n a).2.2.1 + 1) ≠ 0 := by
  have rz : ∀ e c v1 v2, (rdZ tc n e c v1 v2).1 = true → (rdZ tc n e c v1 v2).2.2.1 = c := fun e c v1 v2 q => by
    unfold rdZ at q ⊢
    split
    · rfl
    · next w => rw [if_neg w] at q; exact bft q
  by_cases q0 : agN (ch tc n a) = 0
  · unfold rdC at h
    rw [if_pos q0] at h
    exact bft h
  · have hp := agN_pos q0
    have : (rdC tc n a).2.2.1 = ch tc n a - 1 := by
      unfold rdC at h ⊢
      rw [if_neg q0] at h ⊢
      split
      · next w => rw [if_pos w] at h; exact bft h
      · next w =>
        rw [if_neg w] at h
        split
        · next x => rw [if_pos x] at h; exact rz _ _ _ _ h
        · next x =>
          rw [if_neg x] at h
          split
          · next y => rw [if_pos y] at h; exact bft h
          · next y => rw [if_neg y] at h; exact rz _ _ _ _ h
    rw [this, show ch tc n a - 1 + 1 = ch tc n a by omega]
    exact q0
theorem flt_pre {tc : Nat → Nat} {n : Nat} : ∀ k a L, ∃ R, (flt tc n k a L).2.2 = L ++ R
  | 0, a, L => ⟨[], (List.append_nil L).symm⟩
  | k + 1, a, L => by
    rw [flt]
    split
    · split
      · obtain ⟨R, hR⟩ := flt_pre k (rdC tc n a).2.1 (L ++ [(rdC tc n a).2.2])
        exact ⟨[(rdC tc n a).2.2] ++ R, by rw [hR, List.append_assoc]⟩
      · exact ⟨[], (List.append_nil L).symm⟩
    · exact ⟨[], (List.append_nil L).symm⟩
theorem getD_3 {A R : List (Nat × Nat × Nat)} {x : Nat × Nat × Nat} : ((A ++ [x]) ++ R).getD A.length (0, 0, 0) = x := by
  rw [List.append_assoc, List.getD_eq_getElem?_getD, List.getElem?_append_right (Nat.le_refl _), Nat.sub_self]
  rfl
/-- as kpC, but for the reason -/
def kpX (I : FI) (J : FJ) (A : FI) (B : FJ) (I' : FI) (J' : FJ) (A' : FI) (B' : FJ) : Prop := (∀ i, 200 ≤ i → I' i = I i ∧ J' i = J i ∧ A' i = A i ∧ B' i = B i) ∧ I' 13 1 = I 13 1 ∧ A' 14 = A 14 ∧ A' 11 0 = A 11 0 ∧ B' 12 0 = B 12 0
theorem kpX_tr {I : FI} {J : FJ} {A : FI} {B : FJ} {I' : FI} {J' : FJ} {A' : FI} {B' : FJ} {I2 : FI} {J2 : FJ} {A2 : FI} {B2 : FJ} (h : kpX I J A B I' J' A' B') (q : kpX I' J' A' B' I2 J2 A2 B2) : kpX I J A B I2 J2 A2 B2 := by
  obtain ⟨a, b, c, d, e⟩ := h
  obtain ⟨a', b', c', d', e'⟩ := q
  exact ⟨fun i hi => ⟨(a' i hi).1.trans (a i hi).1, (a' i hi).2.1.trans (a i hi).2.1, (a' i hi).2.2.1.trans (a i hi).2.2.1, (a' i hi).2.2.2.trans (a i hi).2.2.2⟩, b'.trans b, c'.trans c, d'.trans d, e'.trans e⟩
theorem kpX_C {I : FI} {J : FJ} {A : FI} {B : FJ} {I' : FI} {J' : FJ} {A' : FI} {B' : FJ} (h : kpC I J A B I' J' A' B') : kpX I J A B I' J' A' B' := ⟨h.1, by rw [h.2.1], h.2.2.1, h.2.2.2.2.1, h.2.2.2.2.2⟩
theorem kpX_rd {I : FI} {J : FJ} {A : FI} {B : FJ} {vb f1 f2 : Int32} {st : Bool} {a : Nat} : kpX I J A B (rdH I vb f1 f2 st a) J A B := ⟨fun i hi => ⟨funext fun k => rdH_k (Or.inl (by omega)), rfl, rfl, rfl⟩, rdH_k (Or.inr (by decide)), rfl, rfl, rfl⟩
theorem RepW_rd {m : Nat → Int64} {I : FI} {J : FJ} {A : FI} {B : FJ} {vb f1 f2 : Int32} {st : Bool} {a : Nat} (h : RepW 100 m I J A B) : RepW 100 m (rdH I vb f1 f2 st a) J A B := RepW_fr h (fun i _ _ => ⟨funext fun k => rdH_k (Or.inl (by omega)), rfl, rfl, rfl⟩)
theorem rdH_I {I : FI} {p : Nat} (h1 : I 13 3 = bI false) (h2 : I 13 2 = nI p) : rdH I (I 13 4) (I 13 5) (I 13 6) false p = I := by
  rw [rdH_0, ← h1, up2_id, ← h2, up2_id]
theorem isF_n {x : Int32} (h : isF x = true) : ¬ x = 0 := fun e => by rw [e] at h; exact absurd h (by decide)
def crN (ad : Nat → Nat) (z0 z1 : Bool) (o : Int32 × Int32 × (Nat → Int64)) (I : FI) (J : FJ) (A : FI) (B : FJ) : PO := fun v' Y' I' J' A' B' => v' = some (.int o.1) ∧ Y' = YC ad z0 z1 ∧ I' 0 7 = o.2.1 ∧ RepW 100 o.2.2 I' J' A' B' ∧ kpX I J A B I' J' A' B'

set_option maxRecDepth 100000 in
set_option maxHeartbeats 4000000 in
theorem c_make (ad : Nat → Nat) (z0 z1 : Bool) (I : FI) (J : FJ) (A : FI) (B : FJ) (c v1 v2 : Nat) (f2 : Int32) (m : Nat → Int64) (hG : WG m) (hR : RepW 100 m I J A B) (hc : agN (c + 1) ≠ 0) (hf2 : c = 119 → f2 = nI v2) : Spec M_X8_makeCall [.ref (ad 0), .int (nI c), .int (nI v1), .int f2] (YC ad z0 z1) I J A B (cP ad z0 z1 I J A B (.int (doC m (c, v1, v2)).1) (doC m (c, v1, v2)).2) := by
  have h8 := agN_8 hc
  refine Spec_of (by decide) tk_X8_makeCall (Nat.le_of_ble_eq_true rfl) (fun X g rt => ?_)
  show Sim X (YC ad z0 z1) 0 [(0, .ref (ad 0)), (1, .int (nI c)), (2, .int (nI v1)), (3, .int f2)] [] I J A B 0 0
  refine S_n g 1 (pc' := 1) (lv' := [(0, .ref (ad 0)), (1, .int (nI c)), (2, .int (nI v1)), (3, .int f2)]) (st' := [.int (nI c)]) rfl ?_
  rcases (show c = 105 ∨ c = 106 ∨ c = 108 ∨ c = 110 ∨ c = 113 ∨ c = 115 ∨ c = 116 ∨ c = 119 by omega) with rfl | rfl | rfl | rfl | rfl | rfl | rfl | rfl
  · skip
    refine S_swIn g (off := 95) (tgt := 96) rfl (by decide) (by decide) rfl rfl ?_
    refine S_n g 2 (pc' := 98) (lv' := [(0, .ref (ad 0)), (1, .int (nI 105)), (2, .int (nI v1)), (3, .int f2)]) (st' := [.int (nI v1), .ref (ad 0)]) rfl ?_
    refine S_callV g (i := 0) (As := [.int (nI v1)]) (st := []) (c_idle ad z0 z1 I J A B (nI v1) m hG hR) mw_X8_idle lk_X8_286 ⟨Nat.le_of_ble_eq_true rfl, Nat.le_of_ble_eq_true rfl⟩ (by decide) (by decide) rfl rfl (Nat.le_of_ble_eq_true rfl) ⟨Nat.le_of_ble_eq_true rfl, Nat.le_of_ble_eq_true rfl⟩ rfl (fun v' Y' I2 J2 A2 B2 hpo => ?_)
    obtain ⟨rfl, rfl, hq5, hqk⟩ := hpo
    show Sim X (YC ad z0 z1) 101 [(0, .ref (ad 0)), (1, .int (nI 105)), (2, .int (nI v1)), (3, .int f2)] [.int (k_idle m (nI v1)).1] I2 J2 A2 B2 0 0
    exact rtI rt rfl rfl (⟨rfl, rfl, hq5, hqk⟩)
  · skip
    refine S_swIn g (off := 119) (tgt := 120) rfl (by decide) (by decide) rfl rfl ?_
    refine S_n g 2 (pc' := 122) (lv' := [(0, .ref (ad 0)), (1, .int (nI 106)), (2, .int (nI v1)), (3, .int f2)]) (st' := [.int (nI v1), .ref (ad 0)]) rfl ?_
    refine S_callV g (i := 0) (As := [.int (nI v1)]) (st := []) (c_join ad z0 z1 I J A B (nI v1) m hG hR) mw_X8_join lk_X8_298 ⟨Nat.le_of_ble_eq_true rfl, Nat.le_of_ble_eq_true rfl⟩ (by decide) (by decide) rfl rfl (Nat.le_of_ble_eq_true rfl) ⟨Nat.le_of_ble_eq_true rfl, Nat.le_of_ble_eq_true rfl⟩ rfl (fun v' Y' I2 J2 A2 B2 hpo => ?_)
    obtain ⟨rfl, rfl, hq5, hqk⟩ := hpo
    show Sim X (YC ad z0 z1) 125 [(0, .ref (ad 0)), (1, .int (nI 106)), (2, .int (nI v1)), (3, .int f2)] [.int (k_comes m (nI v1) true).1] I2 J2 A2 B2 0 0
    exact rtI rt rfl rfl (⟨rfl, rfl, hq5, hqk⟩)
  · skip
    refine S_swIn g (off := 113) (tgt := 114) rfl (by decide) (by decide) rfl rfl ?_
    refine S_n g 2 (pc' := 116) (lv' := [(0, .ref (ad 0)), (1, .int (nI 108)), (2, .int (nI v1)), (3, .int f2)]) (st' := [.int (nI v1), .ref (ad 0)]) rfl ?_
    refine S_callV g (i := 0) (As := [.int (nI v1)]) (st := []) (c_leave ad z0 z1 I J A B (nI v1) m hG hR) mw_X8_leave lk_X8_295 ⟨Nat.le_of_ble_eq_true rfl, Nat.le_of_ble_eq_true rfl⟩ (by decide) (by decide) rfl rfl (Nat.le_of_ble_eq_true rfl) ⟨Nat.le_of_ble_eq_true rfl, Nat.le_of_ble_eq_true rfl⟩ rfl (fun v' Y' I2 J2 A2 B2 hpo => ?_)
    obtain ⟨rfl, rfl, hq5, hqk⟩ := hpo
    show Sim X (YC ad z0 z1) 119 [(0, .ref (ad 0)), (1, .int (nI 108)), (2, .int (nI v1)), (3, .int f2)] [.int (k_comes m (nI v1) false).1] I2 J2 A2 B2 0 0
    exact rtI rt rfl rfl (⟨rfl, rfl, hq5, hqk⟩)
  · skip
    refine S_swIn g (off := 82) (tgt := 83) rfl (by decide) (by decide) rfl rfl ?_
    refine S_n g 3 (pc' := 86) (lv' := [(0, .ref (ad 0)), (1, .int (nI 110)), (2, .int (nI v1)), (3, .int f2)]) (st' := [.int (-nI 1), .int (nI v1), .ref (ad 0)]) rfl ?_
    refine S_callV g (i := 0) (As := [.int (nI v1), .int (-nI 1)]) (st := []) (c_want ad z0 z1 I J A B (nI v1) (-nI 1) m hG hR) mw_X8_want lk_X8_280 ⟨Nat.le_of_ble_eq_true rfl, Nat.le_of_ble_eq_true rfl⟩ (by decide) (by decide) rfl rfl (Nat.le_of_ble_eq_true rfl) ⟨Nat.le_of_ble_eq_true rfl, Nat.le_of_ble_eq_true rfl⟩ rfl (fun v' Y' I2 J2 A2 B2 hpo => ?_)
    obtain ⟨rfl, rfl, hq5, hqk⟩ := hpo
    show Sim X (YC ad z0 z1) 89 [(0, .ref (ad 0)), (1, .int (nI 110)), (2, .int (nI v1)), (3, .int f2)] [.int (k_want m (nI v1) (-nI 1)).1] I2 J2 A2 B2 0 0
    exact rtI rt rfl rfl (⟨rfl, rfl, hq5, hqk⟩)
  · skip
    refine S_swIn g (off := 89) (tgt := 90) rfl (by decide) (by decide) rfl rfl ?_
    refine S_n g 2 (pc' := 92) (lv' := [(0, .ref (ad 0)), (1, .int (nI 113)), (2, .int (nI v1)), (3, .int f2)]) (st' := [.int (nI v1), .ref (ad 0)]) rfl ?_
    refine S_callV g (i := 0) (As := [.int (nI v1)]) (st := []) (c_subs ad z0 z1 I J A B (nI v1) m hG hR) mw_X8_storeSubsets lk_X8_283 ⟨Nat.le_of_ble_eq_true rfl, Nat.le_of_ble_eq_true rfl⟩ (by decide) (by decide) rfl rfl (Nat.le_of_ble_eq_true rfl) ⟨Nat.le_of_ble_eq_true rfl, Nat.le_of_ble_eq_true rfl⟩ rfl (fun v' Y' I2 J2 A2 B2 hpo => ?_)
    obtain ⟨rfl, rfl, hq5, hqk⟩ := hpo
    show Sim X (YC ad z0 z1) 95 [(0, .ref (ad 0)), (1, .int (nI 113)), (2, .int (nI v1)), (3, .int f2)] [.int (k_subs m (nI v1)).1] I2 J2 A2 B2 0 0
    exact rtI rt rfl rfl (⟨rfl, rfl, hq5, hqk⟩)
  · skip
    refine S_swIn g (off := 101) (tgt := 102) rfl (by decide) (by decide) rfl rfl ?_
    refine S_n g 2 (pc' := 104) (lv' := [(0, .ref (ad 0)), (1, .int (nI 115)), (2, .int (nI v1)), (3, .int f2)]) (st' := [.int (nI v1), .ref (ad 0)]) rfl ?_
    refine S_callV g (i := 0) (As := [.int (nI v1)]) (st := []) (c_sched ad z0 z1 I J A B (nI v1) m hG hR) mw_X8_schedule lk_X8_289 ⟨Nat.le_of_ble_eq_true rfl, Nat.le_of_ble_eq_true rfl⟩ (by decide) (by decide) rfl rfl (Nat.le_of_ble_eq_true rfl) ⟨Nat.le_of_ble_eq_true rfl, Nat.le_of_ble_eq_true rfl⟩ rfl (fun v' Y' I2 J2 A2 B2 hpo => ?_)
    obtain ⟨rfl, rfl, hq5, hqk⟩ := hpo
    show Sim X (YC ad z0 z1) 107 [(0, .ref (ad 0)), (1, .int (nI 115)), (2, .int (nI v1)), (3, .int f2)] [.int (k_sched m (nI v1)).1] I2 J2 A2 B2 0 0
    exact rtI rt rfl rfl (⟨rfl, rfl, hq5, hqk⟩)
  · skip
    refine S_swIn g (off := 107) (tgt := 108) rfl (by decide) (by decide) rfl rfl ?_
    refine S_n g 2 (pc' := 110) (lv' := [(0, .ref (ad 0)), (1, .int (nI 116)), (2, .int (nI v1)), (3, .int f2)]) (st' := [.int (nI v1), .ref (ad 0)]) rfl ?_
    refine S_callV g (i := 0) (As := [.int (nI v1)]) (st := []) (c_send ad z0 z1 I J A B (nI v1) m hG hR) mw_X8_send lk_X8_292 ⟨Nat.le_of_ble_eq_true rfl, Nat.le_of_ble_eq_true rfl⟩ (by decide) (by decide) rfl rfl (Nat.le_of_ble_eq_true rfl) ⟨Nat.le_of_ble_eq_true rfl, Nat.le_of_ble_eq_true rfl⟩ rfl (fun v' Y' I2 J2 A2 B2 hpo => ?_)
    obtain ⟨rfl, rfl, hq5, hqk⟩ := hpo
    show Sim X (YC ad z0 z1) 113 [(0, .ref (ad 0)), (1, .int (nI 116)), (2, .int (nI v1)), (3, .int f2)] [.int (k_send m (nI v1)).1] I2 J2 A2 B2 0 0
    exact rtI rt rfl rfl (⟨rfl, rfl, hq5, hqk⟩)
  · skip
    refine S_swIn g (off := 75) (tgt := 76) rfl (by decide) (by decide) rfl rfl ?_
    rw [hf2 rfl]
    show Sim X (YC ad z0 z1) 76 [(0, .ref (ad 0)), (1, .int (nI 119)), (2, .int (nI v1)), (3, .int (nI v2))] [] I J A B 0 0
    refine S_n g 3 (pc' := 79) (lv' := [(0, .ref (ad 0)), (1, .int (nI 119)), (2, .int (nI v1)), (3, .int (nI v2))]) (st' := [.int (nI v2), .int (nI v1), .ref (ad 0)]) rfl ?_
    refine S_callV g (i := 0) (As := [.int (nI v1), .int (nI v2)]) (st := []) (c_want ad z0 z1 I J A B (nI v1) (nI v2) m hG hR) mw_X8_want lk_X8_280 ⟨Nat.le_of_ble_eq_true rfl, Nat.le_of_ble_eq_true rfl⟩ (by decide) (by decide) rfl rfl (Nat.le_of_ble_eq_true rfl) ⟨Nat.le_of_ble_eq_true rfl, Nat.le_of_ble_eq_true rfl⟩ rfl (fun v' Y' I2 J2 A2 B2 hpo => ?_)
    obtain ⟨rfl, rfl, hq5, hqk⟩ := hpo
    show Sim X (YC ad z0 z1) 82 [(0, .ref (ad 0)), (1, .int (nI 119)), (2, .int (nI v1)), (3, .int (nI v2))] [.int (k_want m (nI v1) (nI v2)).1] I2 J2 A2 B2 0 0
    exact rtI rt rfl rfl (⟨rfl, rfl, hq5, hqk⟩)

theorem flt_lt {tc : Nat → Nat} {n : Nat} : ∀ k a L, a ≤ n → (flt tc n k a L).1 ≤ n + 1
  | 0, a, L, _ => Nat.zero_le _
  | k + 1, a, L, h => by
    have hb := rdC_b (tc := tc) h
    rw [flt]
    split
    · split
      · exact flt_lt k _ _ hb.1
      · show (rdC tc n a).2.1 + 1 ≤ n + 1; omega
    · exact Nat.zero_le _
theorem flt_lim {A : FI} {tc : Nat → Nat} {n : Nat} (h : RTc A tc n) : (o_fault tc n).1 < 2 ^ 31 := by
  have h1 := flt_lt (tc := tc) 81 (bl tc n 0) [] (bl_le (Nat.zero_le n))
  have h2 := h.1
  unfold o_fault
  omega

set_option maxRecDepth 100000 in
set_option maxHeartbeats 4000000 in
theorem c_run (ad : Nat → Nat) (z0 z1 : Bool) (I : FI) (J : FJ) (A : FI) (B : FJ) (tc : Nat → Nat) (n : Nat) (hN : I 13 1 = nI n) (hT : RTc A tc n) (m : Nat → Int64) (hG : WG m) (hR : RepW 100 m I J A B) : Spec M_X8_run [.ref (ad 0)] (YC ad z0 z1) I J A B (crN ad z0 z1 (o_run tc n m (I 0 7)) I J A B) := by
  have hn8 := hT.1
  refine Spec_of (by decide) tk_X8_run (Nat.le_of_ble_eq_true rfl) (fun X g rt => ?_)
  show Sim X (YC ad z0 z1) 0 [(0, .ref (ad 0))] [] I J A B 0 0
  refine S_n g 1 (pc' := 1) (lv' := [(0, .ref (ad 0))]) (st' := [.ref (ad 0)]) rfl ?_
  refine S_getR g (i := 0) (c := 8) (k := 5) (j := 13) (by decide) (by decide) rfl rfl rfl fl_X8_44 rfl ?_
  refine S_callV g (i := 13) (As := []) (st := []) (tx_fault ad z0 z1 I J A B tc n hN hT) mw_X4_firstFault lk_X8_258 ⟨Nat.le_of_ble_eq_true rfl, Nat.le_of_ble_eq_true rfl⟩ (by decide) (by decide) rfl rfl (Nat.le_of_ble_eq_true rfl) ⟨Nat.le_of_ble_eq_true rfl, Nat.le_of_ble_eq_true rfl⟩ rfl (fun v' Y' I2 J2 A2 B2 hpo => ?_)
  obtain ⟨rfl, rfl, e1, e2, e3, vb0, f10, f20, st0, a0, hI2⟩ := hpo
  rw [e1, e2, e3]
  show Sim X (YC ad z0 z1) 7 [(0, .ref (ad 0))] [.int (hI (o_fault tc n).1)] I2 J A B 0 0
  have hoc : (o_fault tc n).1 < 2 ^ 31 := flt_lim hT
  have hR2 : RepW 100 m I2 J A B := by rw [hI2]; exact RepW_rd hR
  have hk2 : kpX I J A B I2 J A B := by rw [hI2]; exact kpX_rd
  have h07 : I2 0 7 = I 0 7 := by rw [hI2]; exact rdH_k (Or.inl (by decide))
  refine S_n g 1 (pc' := 8) (lv' := [(0, .ref (ad 0))]) (st' := [.int (-nI 1), .int (hI (o_fault tc n).1)]) rfl ?_
  refine S_ic_eq g (tgt := 14) rfl (by decide) (fun qz8 => ?_) (fun qz8 => ?_)
  · skip
    have h0 : (o_fault tc n).1 = 0 := (hI_m1 hoc).mp qz8
    obtain ⟨L, hL⟩ : ∃ L, L = (o_fault tc n).2.2 := ⟨_, rfl⟩
    have ho : o_run tc n m (I 0 7) = (nI (runL L m L.length).1, (runL L m L.length).2.1, (runL L m L.length).2.2) := by rw [o_run, if_pos h0, ← hL]
    refine S_n g 2 (pc' := 16) (lv' := [(0, .ref (ad 0))]) (st' := [.int (nI 0), .ref (ad 0)]) rfl ?_
    refine S_putI g (i := 0) (c := 8) (k := 7) (kd := 0) (by decide) (by decide) rfl rfl (by decide) fw_X8_52 rfl rfl rfl ?_
    refine S_n g 1 (pc' := 20) (lv' := [(0, .ref (ad 0))]) (st' := [.ref (ad 0)]) rfl ?_
    refine S_getR g (i := 0) (c := 8) (k := 5) (j := 13) (by decide) (by decide) rfl rfl rfl fl_X8_44 rfl ?_
    refine S_cV g (i := 13) (As := []) (st := []) (tx_rewind ad z0 z1 (up2 I2 0 7 (nI 0)) J A B) mw_X4_rewind lk_X8_261 ⟨Nat.le_of_ble_eq_true rfl, Nat.le_of_ble_eq_true rfl⟩ (by decide) (by decide) rfl rfl (Nat.le_of_ble_eq_true rfl) ⟨Nat.le_of_ble_eq_true rfl, Nat.le_of_ble_eq_true rfl⟩ rfl ?_
    show Sim X (YC ad z0 z1) 26 [(0, .ref (ad 0))] [] (up2 (up2 (up2 I2 0 7 (nI 0)) 13 3 (bI false)) 13 2 (nI 0)) J A B 0 0
    have hR5 : RepW 100 m (up2 (up2 (up2 I2 0 7 (nI 0)) 13 3 (bI false)) 13 2 (nI 0)) J A B := RepW_fr hR2 (fun i a b => ⟨(u2r (by omega)).trans ((u2r (by omega)).trans (u2r (by omega))), rfl, rfl, rfl⟩)
    have hk5 : kpX I J A B (up2 (up2 (up2 I2 0 7 (nI 0)) 13 3 (bI false)) 13 2 (nI 0)) J A B := kpX_tr hk2 ⟨fun i hi => ⟨(u2r (by omega)).trans ((u2r (by omega)).trans (u2r (by omega))), rfl, rfl, rfl⟩, rfl, rfl, rfl, rfl⟩
    refine S_n g 2 (pc' := 28) (lv' := [(0, .ref (ad 0)), (1, .int (nI 0))]) (st' := []) rfl ?_
    have lp : ∀ (nn : Nat) (p : Nat) (kk : Nat) (Lk : List (Nat × Nat × Nat)) (I3 : FI) (J3 : FJ) (A3 : FI) (B3 : FJ), n - bl tc n p = nn → (p ≤ n) → (3 * Lk.length ≤ bl tc n p) → (n < bl tc n p + kk) → (flt tc n kk (bl tc n p) Lk = o_fault tc n) → (I3 13 2 = nI p) → (I3 13 3 = bI false) → (I3 0 7 = nI 0) → ((runL L m Lk.length).1 = Lk.length) → ((runL L m Lk.length).2.1 = 0) → (RepW 100 (runL L m Lk.length).2.2 I3 J3 A3 B3) → (kpX I J A B I3 J3 A3 B3) → Sim X (YC ad z0 z1) 28 [(0, .ref (ad 0)), (1, .int (nI Lk.length))] [] I3 J3 A3 B3 0 0 := by
      intro nn
      induction nn using Nat.strongRecOn with
      | ind nn ih =>
        intro p kk Lk I3 J3 A3 B3 hmz hp hl3 hkk hfl hp3 hs3 h73 hn3 hz3 hR3 hk3
        have lp := ih
        have hbn := bl_le (tc := tc) hp
        have hN3 : I3 13 1 = nI n := by rw [hk3.2.1]; exact hN
        have hT3 : RTc A3 tc n := by unfold RTc; rw [hk3.2.2.1]; exact hT
        have hrd : Spec M_X4_readCall [.ref (ad 13)] (YC ad z0 z1) I3 J3 A3 B3 (rcP ad z0 z1 I3 J3 A3 B3 tc n p) := by
          have h := tx_readCall ad z0 z1 I3 J3 A3 B3 tc n p hN3 hT3 hp (I3 13 4) (I3 13 5) (I3 13 6)
          rw [show up2 (up2 (up2 (up2 (up2 I3 13 4 (I3 13 4)) 13 5 (I3 13 5)) 13 6 (I3 13 6)) 13 3 (bI false)) 13 2 (nI p) = I3 from rdH_I hs3 hp3] at h
          exact h
        have hWk := runL_wf (L := L) (Wf_WF (show Wf m (gN (m 0)) (gN (m 1)) (gN (m 2)) (gN (m 327)) (gN (m 428)) (gN (m 529)) (lnG m) from hG)) Lk.length
        refine S_n g 2 (pc' := 31) (lv' := [(0, .ref (ad 0)), (1, .int (nI Lk.length))]) (st' := [.int (nI 80), .int (nI Lk.length)]) rfl ?_
        refine S_icN_ge g (tgt := 101) (by omega) (by omega) rfl (by decide) (fun qz31 => ?_) (fun qz31 => ?_)
        · skip
          omega
        · skip
          refine S_n g 1 (pc' := 35) (lv' := [(0, .ref (ad 0)), (1, .int (nI Lk.length))]) (st' := [.ref (ad 0)]) rfl ?_
          refine S_getR g (i := 0) (c := 8) (k := 5) (j := 13) (by decide) (by decide) rfl rfl rfl fl_X8_44 rfl ?_
          refine S_callV g (i := 13) (As := []) (st := []) (hrd) mw_X4_readCall lk_X8_264 ⟨Nat.le_of_ble_eq_true rfl, Nat.le_of_ble_eq_true rfl⟩ (by decide) (by decide) rfl rfl (Nat.le_of_ble_eq_true rfl) ⟨Nat.le_of_ble_eq_true rfl, Nat.le_of_ble_eq_true rfl⟩ rfl (fun v' Y' I9 J9 A9 B9 hpo => ?_)
          obtain ⟨rfl, e1, e2, e3, hif⟩ := hpo
          rw [e1, e2, e3]
          obtain ⟨w9, hw9⟩ : ∃ w9, v' = some (.int w9) := by split at hif; (· split at hif; (· exact ⟨_, hif.1⟩); (· exact ⟨_, hif.1⟩)); (· exact ⟨_, hif.1⟩)
          subst hw9
          show Sim X (YC ad z0 z1) 41 [(0, .ref (ad 0)), (1, .int (nI Lk.length))] [.int w9] I9 J3 A3 B3 0 0
          by_cases han : bl tc n p < n
          · skip
            rw [if_pos han] at hif
            have hrb := rdC_b (tc := tc) hbn
            have hok : (rdC tc n (bl tc n p)).1 = true := Classical.byContradiction (fun hno => by have hof : (o_fault tc n).1 = (rdC tc n (bl tc n p)).2.1 + 1 := (by rw [← hfl, show kk = (kk - 1) + 1 by omega, flt, if_pos han, if_neg hno]); omega)
            rw [if_pos hok] at hif
            obtain ⟨hv, q, g2, hI9, hq, hbq, hg2⟩ := hif
            have hac := rdC_ok hok
            have hfl2 : flt tc n (kk - 1) (bl tc n q) (Lk ++ [(rdC tc n (bl tc n p)).2.2]) = o_fault tc n := by rw [← hfl, show kk = (kk - 1) + 1 by omega, flt, if_pos han, if_pos hok, hbq]; rfl
            have h3r := hrb.2.2 hok
            obtain ⟨R, hRR⟩ := flt_pre (tc := tc) (n := n) (kk - 1) (bl tc n q) (Lk ++ [(rdC tc n (bl tc n p)).2.2])
            rw [hfl2, ← hL] at hRR
            have hgd : L.getD Lk.length (0, 0, 0) = (rdC tc n (bl tc n p)).2.2 := by rw [hRR]; exact getD_3
            have hlen : Lk.length + 1 ≤ L.length := by rw [hRR, List.length_append, List.length_append]; exact Nat.le_add_right _ _
            obtain ⟨c, v1, v2, hcc⟩ : ∃ c v1 v2, (rdC tc n (bl tc n p)).2.2 = (c, v1, v2) := ⟨_, _, _, rfl⟩
            rw [hcc] at hgd hI9 hg2 hac hfl2 hRR
            dsimp only at hI9 hg2 hac
            have hR9 : RepW 100 (runL L m Lk.length).2.2 I9 J3 A3 B3 := by rw [hI9]; exact RepW_rd hR3
            have hk9 : kpX I3 J3 A3 B3 I9 J3 A3 B3 := by rw [hI9]; exact kpX_rd
            have e4 : I9 13 4 = nI c := by rw [hI9]; rfl
            have e5 : I9 13 5 = nI v1 := by rw [hI9]; rfl
            have e6 : I9 13 6 = g2 := by rw [hI9]; rfl
            have e7 : I9 0 7 = nI 0 := by rw [hI9, rdH_k (Or.inl (by decide))]; exact h73
            have e8 : I9 13 2 = nI q := by rw [hI9]; rfl
            have e9 : I9 13 3 = bI false := by rw [hI9]; rfl
            injection hv with hv
            injection hv with hv
            rw [hv]
            show Sim X (YC ad z0 z1) 41 [(0, .ref (ad 0)), (1, .int (nI Lk.length))] [.int (bI true)] I9 J3 A3 B3 0 0
            refine S_ifB_eq g (tgt := 101) rfl (by decide) (fun qz41 => ?_) (fun qz41 => ?_)
            · skip
              exact absurd qz41 (by decide)
            · skip
              refine S_n g 2 (pc' := 46) (lv' := [(0, .ref (ad 0)), (1, .int (nI Lk.length))]) (st' := [.ref (ad 0), .ref (ad 0)]) rfl ?_
              refine S_getR g (i := 0) (c := 8) (k := 5) (j := 13) (by decide) (by decide) rfl rfl rfl fl_X8_44 rfl ?_
              refine S_getI g (i := 13) (c := 4) (k := 4) (by decide) (by decide) rfl rfl fl_X8_267 rfl ?_
              rw [e4]
              refine S_n g 1 (pc' := 53) (lv' := [(0, .ref (ad 0)), (1, .int (nI Lk.length))]) (st' := [.ref (ad 0), .int (nI c), .ref (ad 0)]) rfl ?_
              refine S_getR g (i := 0) (c := 8) (k := 5) (j := 13) (by decide) (by decide) rfl rfl rfl fl_X8_44 rfl ?_
              refine S_getI g (i := 13) (c := 4) (k := 5) (by decide) (by decide) rfl rfl fl_X8_270 rfl ?_
              rw [e5]
              refine S_n g 1 (pc' := 60) (lv' := [(0, .ref (ad 0)), (1, .int (nI Lk.length))]) (st' := [.ref (ad 0), .int (nI v1), .int (nI c), .ref (ad 0)]) rfl ?_
              refine S_getR g (i := 0) (c := 8) (k := 5) (j := 13) (by decide) (by decide) rfl rfl rfl fl_X8_44 rfl ?_
              refine S_getI g (i := 13) (c := 4) (k := 6) (by decide) (by decide) rfl rfl fl_X8_273 rfl ?_
              rw [e6]
              refine S_callV g (i := 0) (As := [.int (nI c), .int (nI v1), .int g2]) (st := []) (c_make ad z0 z1 I9 J3 A3 B3 c v1 v2 g2 (runL L m Lk.length).2.2 (WF_g hWk) hR9 hac hg2) mw_X8_makeCall lk_X8_276 ⟨Nat.le_of_ble_eq_true rfl, Nat.le_of_ble_eq_true rfl⟩ (by decide) (by decide) rfl rfl (Nat.le_of_ble_eq_true rfl) ⟨Nat.le_of_ble_eq_true rfl, Nat.le_of_ble_eq_true rfl⟩ rfl (fun v' Y' I4 J4 A4 B4 hpo => ?_)
              obtain ⟨rfl, rfl, hR4, hk4⟩ := hpo
              obtain ⟨w5, hw5⟩ : ∃ w5, w5 = (doC (runL L m Lk.length).2.2 (c, v1, v2)).1 := ⟨_, rfl⟩
              rw [← hw5]
              show Sim X (YC ad z0 z1) 69 [(0, .ref (ad 0)), (1, .int (nI Lk.length))] [.int w5] I4 J4 A4 B4 0 0
              have hrs := runL_s L m Lk.length
              rw [if_pos hz3, hgd, ← hw5, hn3] at hrs
              have hkX := kpX_tr hk3 (kpX_tr hk9 (kpX_C hk4))
              refine S_n g 3 (pc' := 73) (lv' := [(0, .ref (ad 0)), (1, .int (nI Lk.length)), (2, .int w5)]) (st' := [.int (-nI 101), .int w5]) rfl ?_
              refine S_ic_eq g (tgt := 88) rfl (by decide) (fun qz73 => ?_) (fun qz73 => ?_)
              · skip
                have hF : isF w5 = true := decide_eq_true (by simp [qz73])
                rw [if_pos hF] at hrs
                have hfin : runL L m L.length = (Lk.length, w5, (doC (runL L m Lk.length).2.2 (c, v1, v2)).2) := by rw [show L.length = (Lk.length + 1) + (L.length - (Lk.length + 1)) by omega, runL_stop (by rw [hrs]; exact isF_n hF), hrs]
                refine S_n g 2 (pc' := 90) (lv' := [(0, .ref (ad 0)), (1, .int (nI Lk.length)), (2, .int w5)]) (st' := [.int w5, .ref (ad 0)]) rfl ?_
                refine S_putI g (i := 0) (c := 8) (k := 7) (kd := 0) (by decide) (by decide) rfl rfl (by decide) fw_X8_52 rfl rfl rfl ?_
                refine S_n g 1 (pc' := 94) (lv' := [(0, .ref (ad 0)), (1, .int (nI Lk.length)), (2, .int w5)]) (st' := [.int (nI Lk.length)]) rfl ?_
                exact rtI rt rfl rfl (⟨by rw [ho, hfin], rfl, by rw [ho, hfin]; exact up2_same _ _ _ _, by rw [ho, hfin]; exact RepW_fr hR4 (fun i a b => ⟨u2r (by omega), rfl, rfl, rfl⟩), kpX_tr hkX ⟨fun i hi => ⟨u2r (by omega), rfl, rfl, rfl⟩, u2j (Or.inl (by decide)), rfl, rfl, rfl⟩⟩)
              · skip
                refine S_n g 2 (pc' := 79) (lv' := [(0, .ref (ad 0)), (1, .int (nI Lk.length)), (2, .int w5)]) (st' := [.int (-nI 102), .int w5]) rfl ?_
                refine S_ic_eq g (tgt := 88) rfl (by decide) (fun qz79 => ?_) (fun qz79 => ?_)
                · skip
                  have hF : isF w5 = true := decide_eq_true (by simp [qz79])
                  rw [if_pos hF] at hrs
                  have hfin : runL L m L.length = (Lk.length, w5, (doC (runL L m Lk.length).2.2 (c, v1, v2)).2) := by rw [show L.length = (Lk.length + 1) + (L.length - (Lk.length + 1)) by omega, runL_stop (by rw [hrs]; exact isF_n hF), hrs]
                  refine S_n g 2 (pc' := 90) (lv' := [(0, .ref (ad 0)), (1, .int (nI Lk.length)), (2, .int w5)]) (st' := [.int w5, .ref (ad 0)]) rfl ?_
                  refine S_putI g (i := 0) (c := 8) (k := 7) (kd := 0) (by decide) (by decide) rfl rfl (by decide) fw_X8_52 rfl rfl rfl ?_
                  refine S_n g 1 (pc' := 94) (lv' := [(0, .ref (ad 0)), (1, .int (nI Lk.length)), (2, .int w5)]) (st' := [.int (nI Lk.length)]) rfl ?_
                  exact rtI rt rfl rfl (⟨by rw [ho, hfin], rfl, by rw [ho, hfin]; exact up2_same _ _ _ _, by rw [ho, hfin]; exact RepW_fr hR4 (fun i a b => ⟨u2r (by omega), rfl, rfl, rfl⟩), kpX_tr hkX ⟨fun i hi => ⟨u2r (by omega), rfl, rfl, rfl⟩, u2j (Or.inl (by decide)), rfl, rfl, rfl⟩⟩)
                · skip
                  refine S_n g 2 (pc' := 85) (lv' := [(0, .ref (ad 0)), (1, .int (nI Lk.length)), (2, .int w5)]) (st' := [.int (-nI 103), .int w5]) rfl ?_
                  refine S_ic_ne g (tgt := 95) rfl (by decide) (fun qz85 => ?_) (fun qz85 => ?_)
                  · skip
                    have hF : ¬ isF w5 = true := fun x => by have := of_decide_eq_true x; rcases this with x | x | x; (· exact qz73 x); (· exact qz79 x); (· exact qz85 x)
                    rw [if_neg hF] at hrs
                    refine S_n g 1 (pc' := 98) (lv' := [(0, .ref (ad 0)), (1, .int ((nI Lk.length) + nI 1)), (2, .int w5)]) (st' := []) rfl ?_
                    rw [nI_add Lk.length 1]
                    refine S_n g 1 (pc' := 28) (lv' := [(0, .ref (ad 0)), (1, .int (nI (Lk.length + 1))), (2, .int w5)]) (st' := []) rfl ?_
                    refine S_lveq (lv' := [(0, .ref (ad 0)), (1, .int (nI (Lk ++ [(c, v1, v2)]).length)), (2, .int w5)]) (by rw [(show nI (Lk.length + 1) = nI (Lk ++ [(c, v1, v2)]).length from by rw [List.length_append]; rfl).symm]) ?_
                    have hll : (Lk ++ [(c, v1, v2)]).length = Lk.length + 1 := by rw [List.length_append]; rfl
                    refine S_keep (lv' := [(0, .ref (ad 0)), (1, .int (nI (Lk ++ [(c, v1, v2)]).length))]) [0, 1] rfl ?_
                    exact lp (n - bl tc n q) (by omega) q (kk - 1) (Lk ++ [(c, v1, v2)]) I4 J4 A4 B4 rfl hq (by rw [hll, hbq]; omega) (by omega) hfl2 (by rw [hk4.2.1]; exact e8) (by rw [hk4.2.1]; exact e9) (by rw [hk4.2.2.2.1]; exact e7) (by rw [hll, hrs]) (by rw [hll, hrs]; rfl) (by rw [hll, hrs]; exact hR4) hkX
                  · skip
                    have hF : isF w5 = true := decide_eq_true (by simp [qz85])
                    rw [if_pos hF] at hrs
                    have hfin : runL L m L.length = (Lk.length, w5, (doC (runL L m Lk.length).2.2 (c, v1, v2)).2) := by rw [show L.length = (Lk.length + 1) + (L.length - (Lk.length + 1)) by omega, runL_stop (by rw [hrs]; exact isF_n hF), hrs]
                    refine S_n g 2 (pc' := 90) (lv' := [(0, .ref (ad 0)), (1, .int (nI Lk.length)), (2, .int w5)]) (st' := [.int w5, .ref (ad 0)]) rfl ?_
                    refine S_putI g (i := 0) (c := 8) (k := 7) (kd := 0) (by decide) (by decide) rfl rfl (by decide) fw_X8_52 rfl rfl rfl ?_
                    refine S_n g 1 (pc' := 94) (lv' := [(0, .ref (ad 0)), (1, .int (nI Lk.length)), (2, .int w5)]) (st' := [.int (nI Lk.length)]) rfl ?_
                    exact rtI rt rfl rfl (⟨by rw [ho, hfin], rfl, by rw [ho, hfin]; exact up2_same _ _ _ _, by rw [ho, hfin]; exact RepW_fr hR4 (fun i a b => ⟨u2r (by omega), rfl, rfl, rfl⟩), kpX_tr hkX ⟨fun i hi => ⟨u2r (by omega), rfl, rfl, rfl⟩, u2j (Or.inl (by decide)), rfl, rfl, rfl⟩⟩)
          · skip
            rw [if_neg han] at hif
            obtain ⟨hv, vb3, g1, g2, hI9⟩ := hif
            have hLk : L = Lk := by rw [hL, ← hfl, show kk = (kk - 1) + 1 by omega, flt, if_neg han]
            injection hv with hv
            injection hv with hv
            rw [hv, hI9]
            show Sim X (YC ad z0 z1) 41 [(0, .ref (ad 0)), (1, .int (nI Lk.length))] [.int (bI false)] (rdH I3 vb3 g1 g2 false (bl tc n p)) J3 A3 B3 0 0
            refine S_ifB_eq g (tgt := 101) rfl (by decide) (fun qz41 => ?_) (fun qz41 => ?_)
            · skip
              refine S_n g 1 (pc' := 102) (lv' := [(0, .ref (ad 0)), (1, .int (nI Lk.length))]) (st' := [.int (nI Lk.length)]) rfl ?_
              exact rtI rt rfl rfl (⟨by rw [ho, show L.length = Lk.length by rw [hLk], hn3], rfl, by rw [ho, show L.length = Lk.length by rw [hLk]]; exact (rdH_k (Or.inl (by decide))).trans (h73.trans (show nI 0 = _ from hz3.symm)), by rw [ho, show L.length = Lk.length by rw [hLk]]; exact RepW_rd hR3, kpX_tr hk3 kpX_rd⟩)
            · skip
              exact absurd qz41 (by decide)
    exact lp _ 0 81 ([]) (up2 (up2 (up2 I2 0 7 (nI 0)) 13 3 (bI false)) 13 2 (nI 0)) J A B rfl (Nat.zero_le _) (Nat.zero_le _) (by omega) rfl rfl rfl rfl rfl rfl hR5 hk5
  · skip
    have hne : ¬ (o_fault tc n).1 = 0 := fun e => qz8 ((hI_m1 hoc).mpr e)
    refine S_n g 1 (pc' := 13) (lv' := [(0, .ref (ad 0))]) (st' := [.int (-nI 102)]) rfl ?_
    exact rtI rt rfl rfl (⟨by rw [o_run, if_neg hne], rfl, by rw [o_run, if_neg hne]; exact h07, by rw [o_run, if_neg hne]; exact hR2, hk2⟩)
