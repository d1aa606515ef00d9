/-! the reference, part 20: run, why -/
def isF (x : Int32) : Bool := decide (x = -nI 101 ∨ x = -nI 102 ∨ x = -nI 103)
/-- after k calls: how many were done, why it ended, the row -/
def runL (L : List (Nat × Nat × Nat)) (m : Nat → Int64) : Nat → Nat × Int32 × (Nat → Int64)
  | 0 => (0, nI 0, m)
  | k + 1 => if (runL L m k).2.1 = 0 then (if isF (doC (runL L m k).2.2 (L.getD k (0, 0, 0))).1 = true then ((runL L m k).1, (doC (runL L m k).2.2 (L.getD k (0, 0, 0))).1, (doC (runL L m k).2.2 (L.getD k (0, 0, 0))).2) else ((runL L m k).1 + 1, nI 0, (doC (runL L m k).2.2 (L.getD k (0, 0, 0))).2)) else runL L m k
theorem runL_s (L : List (Nat × Nat × Nat)) (m : Nat → Int64) (k : Nat) : runL L m (k + 1) = if (runL L m k).2.1 = 0 then (if isF (doC (runL L m k).2.2 (L.getD k (0, 0, 0))).1 = true then ((runL L m k).1, (doC (runL L m k).2.2 (L.getD k (0, 0, 0))).1, (doC (runL L m k).2.2 (L.getD k (0, 0, 0))).2) else ((runL L m k).1 + 1, nI 0, (doC (runL L m k).2.2 (L.getD k (0, 0, 0))).2)) else runL L m k := rfl
theorem runL_stop {L : List (Nat × Nat × Nat)} {m : Nat → Int64} {k : Nat} (h : ¬ (runL L m k).2.1 = 0) : ∀ n, runL L m (k + n) = runL L m k
  | 0 => rfl
  | n + 1 => by
    have ih := runL_stop h n
    rw [show k + (n + 1) = k + n + 1 from rfl, runL_s, ih, if_neg h]
theorem runL_wf {L : List (Nat × Nat × Nat)} {m : Nat → Int64} (h : WF m) : ∀ k, WF (runL L m k).2.2
  | 0 => h
  | k + 1 => by
    have ih := runL_wf (L := L) h k
    rw [runL_s]
    split
    · split
      · exact WF_do ih _
      · exact WF_do ih _
    · exact ih
theorem flt_le {tc : Nat → Nat} {n : Nat} : ∀ k a L, a ≤ n → (flt tc n k a L).1 ≤ n + 1
  | 0, _, _, _ => Nat.zero_le _
  | k + 1, a, L, h => by
    obtain ⟨q1, q2, q3⟩ := rdC_b (tc := tc) h
    unfold flt
    split
    · split
      · exact flt_le k _ _ q1
      · show (rdC tc n a).2.1 + 1 ≤ n + 1; omega
    · exact Nat.zero_le _
/-- what run answers, why, the row -/
def o_run (tc : Nat → Nat) (n : Nat) (m : Nat → Int64) (w : Int32) : Int32 × Int32 × (Nat → Int64) :=
  if (o_fault tc n).1 = 0 then (nI (runL (o_fault tc n).2.2 m (o_fault tc n).2.2.length).1, (runL (o_fault tc n).2.2 m (o_fault tc n).2.2.length).2.1, (runL (o_fault tc n).2.2 m (o_fault tc n).2.2.length).2.2) else (-nI 102, w, m)
/-- what is kept of what can be seen -/
def kpV (I : FI) (A : FI) (B : FJ) (I' : FI) (A' : FI) (B' : FJ) : Prop := I' 500 4 = I 500 4 ∧ A' 503 = A 503 ∧ A' 504 = A 504 ∧ B' 502 = B 502
theorem kpV_rf (I : FI) (A : FI) (B : FJ) : kpV I A B I A B := ⟨rfl, rfl, rfl, rfl⟩
theorem kpV_tr {I A I' A' I2 A2 : FI} {B B' B2 : FJ} (h : kpV I A B I' A' B') (q : kpV I' A' B' I2 A2 B2) : kpV I A B I2 A2 B2 := ⟨q.1.trans h.1, q.2.1.trans h.2.1, q.2.2.1.trans h.2.2.1, q.2.2.2.trans h.2.2.2⟩
theorem kpR_V {I : FI} {J : FJ} {A : FI} {B : FJ} {I' : FI} {J' : FJ} {A' : FI} {B' : FJ} (h : kpR I J A B I' J' A' B') : kpV I A B I' A' B' := ⟨h.1.1, h.2.2.1.1, h.2.2.1.2.1, h.2.2.2⟩

set_option maxRecDepth 100000 in
set_option maxHeartbeats 4000000 in
theorem sp_why (ad : Nat → Nat) (I : FI) (J : FJ) (A : FI) (B : FJ) : Spec M_X9_why [.ref (ad 500)] (YR ad) I J A B (eqP (some (.int (I 500 5))) (YR ad) I J A B) := by
  refine Spec_of (by decide) tk_X9_why (Nat.le_of_ble_eq_true rfl) (fun X g rt => ?_)
  show Sim X (YR ad) 0 [(0, .ref (ad 500))] [] I J A B 0 0
  refine S_n g 1 (pc' := 1) (lv' := [(0, .ref (ad 500))]) (st' := [.ref (ad 500)]) rfl ?_
  refine S_getI g (i := 500) (c := 9) (k := 5) (by decide) (by decide) rfl rfl fl_X9_24 rfl ?_
  exact rtI rt rfl rfl eqP_rf

set_option maxRecDepth 100000 in
set_option maxHeartbeats 4000000 in
theorem sp_run (ad : Nat → Nat) (I : FI) (J : FJ) (A : FI) (B : FJ) (tc : Nat → Nat) (n : Nat) (hI4 : I 500 4 = nI n) (hT : RT_ A tc n) (m0 : Nat → Int64) (hm0 : B 501 = m0) (hW : WF m0) : Spec M_X9_run [.ref (ad 500)] (YR ad) I J A B (fun v' Y' I' J' A' B' => v' = some (.int (o_run tc n m0 (I 500 5)).1) ∧ Y' = YR ad ∧ I' 500 5 = (o_run tc n m0 (I 500 5)).2.1 ∧ B' 501 = (o_run tc n m0 (I 500 5)).2.2 ∧ kpV I A B I' A' B') := by
  refine Spec_of (by decide) tk_X9_run (Nat.le_of_ble_eq_true rfl) (fun X g rt => ?_)
  show Sim X (YR ad) 0 [(0, .ref (ad 500))] [] I J A B 0 0
  refine S_n g 1 (pc' := 1) (lv' := [(0, .ref (ad 500))]) (st' := [.ref (ad 500)]) rfl ?_
  refine S_callV g (i := 500) (As := []) (st := []) (sp_fault ad I J A B tc n hI4 hT) mw_X9_fault lk_X9_285 ⟨Nat.le_of_ble_eq_true rfl, Nat.le_of_ble_eq_true rfl⟩ (by decide) (by decide) rfl rfl (Nat.le_of_ble_eq_true rfl) ⟨Nat.le_of_ble_eq_true rfl, Nat.le_of_ble_eq_true rfl⟩ rfl (fun v' Y' I' J' A' B' hpo => ?_)
  obtain ⟨rfl, rfl, hqJ, hqB, hqI, hl80, r, hqA, hRC⟩ := hpo
  rw [hqI, hqJ, hqB, hqA]
  obtain ⟨F, hFo⟩ : ∃ F, F = o_fault tc n := ⟨_, rfl⟩
  obtain ⟨L, hLo⟩ : ∃ L, L = F.2.2 := ⟨_, rfl⟩
  obtain ⟨fa, hfa⟩ : ∃ fa, fa = F.2.1 := ⟨_, rfl⟩
  rw [← hFo, ← hLo] at hl80 hRC
  have hfl1 := flt_le (tc := tc) (n := n) 81 (bl tc n 0) [] (bl_le (Nat.zero_le n))
  have hn8 := hT.1
  have hF81 : F.1 ≤ n + 1 := by rw [hFo]; exact hfl1
  rw [← hFo, ← hLo, ← hfa]
  show Sim X (YR ad) 4 [(0, .ref (ad 500))] [.int (hI F.1)] (up2 (up2 I 500 19 (nI L.length)) 500 20 (nI fa)) J (va_up A 513 r) B 0 0
  refine S_n g 1 (pc' := 5) (lv' := [(0, .ref (ad 500))]) (st' := [.int (-nI 1), .int (hI F.1)]) rfl ?_
  refine S_ic_eq g (tgt := 11) rfl (by decide) (fun qz5 => ?_) (fun qz5 => ?_)
  · skip
    by_cases hz : F.1 = 0
    · skip
      have hor : o_run tc n m0 (I 500 5) = (nI (runL L m0 L.length).1, (runL L m0 L.length).2.1, (runL L m0 L.length).2.2) := by rw [o_run, ← hFo, if_pos hz, ← hLo]
      refine S_n g 2 (pc' := 13) (lv' := [(0, .ref (ad 500))]) (st' := [.int (nI 0), .ref (ad 500)]) rfl ?_
      refine S_putI g (i := 500) (c := 9) (k := 5) (kd := 0) (by decide) (by decide) rfl rfl (by decide) fw_X9_24 rfl rfl rfl ?_
      refine S_n g 4 (pc' := 20) (lv' := [(0, .ref (ad 500)), (1, .int (nI 0)), (2, .int (nI 0))]) (st' := []) rfl ?_
      have lp : ∀ (nn : Nat) (k : Nat) (I2 : FI) (J2 : FJ) (A2 : FI) (B2 : FJ), L.length - k = nn → (k ≤ L.length) → (B2 501 = (runL L m0 k).2.2) → (I2 500 5 = (runL L m0 k).2.1) → (I2 500 19 = nI L.length) → (A2 513 = r) → (kpV I A B I2 A2 B2) → Sim X (YR ad) 20 [(0, .ref (ad 500)), (1, .int (nI (runL L m0 k).1)), (2, .int (nI k))] [] I2 J2 A2 B2 0 0 := by
        intro nn
        induction nn using Nat.strongRecOn with
        | ind nn ih =>
          intro k I2 J2 A2 B2 hmz hk hb1 hw5 h19 h513 hkp
          have lp := ih
          refine S_n g 2 (pc' := 22) (lv' := [(0, .ref (ad 500)), (1, .int (nI (runL L m0 k).1)), (2, .int (nI k))]) (st' := [.ref (ad 500), .int (nI k)]) rfl ?_
          refine S_getI g (i := 500) (c := 9) (k := 19) (by decide) (by decide) rfl rfl fl_X9_255 rfl ?_
          rw [h19]
          refine S_icN_ge g (tgt := 99) (by omega) (by omega) rfl (by decide) (fun qz25 => ?_) (fun qz25 => ?_)
          · skip
            have hk9 : k = L.length := by omega
            have he9 : runL L m0 L.length = runL L m0 k := by rw [hk9]
            refine S_n g 1 (pc' := 100) (lv' := [(0, .ref (ad 500)), (1, .int (nI (runL L m0 k).1)), (2, .int (nI k))]) (st' := [.int (nI (runL L m0 k).1)]) rfl ?_
            exact rtI rt rfl rfl (⟨by rw [hor, he9], rfl, by rw [hor, he9]; exact hw5, by rw [hor, he9]; exact hb1, hkp⟩)
          · skip
            refine S_n g 1 (pc' := 29) (lv' := [(0, .ref (ad 500)), (1, .int (nI (runL L m0 k).1)), (2, .int (nI k))]) (st' := [.ref (ad 500)]) rfl ?_
            refine S_getI g (i := 500) (c := 9) (k := 5) (by decide) (by decide) rfl rfl fl_X9_24 rfl ?_
            rw [hw5]
            refine S_if_ne g (tgt := 99) rfl (by decide) (fun qz32 => ?_) (fun qz32 => ?_)
            · skip
              have he9 : runL L m0 L.length = runL L m0 k := by rw [show L.length = k + (L.length - k) from by omega]; exact runL_stop qz32 _
              refine S_n g 1 (pc' := 100) (lv' := [(0, .ref (ad 500)), (1, .int (nI (runL L m0 k).1)), (2, .int (nI k))]) (st' := [.int (nI (runL L m0 k).1)]) rfl ?_
              exact rtI rt rfl rfl (⟨by rw [hor, he9], rfl, by rw [hor, he9]; exact hw5, by rw [hor, he9]; exact hb1, hkp⟩)
            · skip
              have hst := runL_s L m0 k
              rw [if_pos qz32] at hst
              have hgd : L.getD k (0, 0, 0) = L[k] := by rw [List.getD_eq_getElem?_getD, List.getElem?_eq_getElem (by omega)]; rfl
              rw [hgd] at hst
              refine S_n g 2 (pc' := 37) (lv' := [(0, .ref (ad 500)), (1, .int (nI (runL L m0 k).1)), (2, .int (nI k))]) (st' := [.int (nI k), .ref (ad 500)]) rfl ?_
              refine S_callV g (i := 500) (As := [.int (nI k)]) (st := []) (sp_does ad I2 J2 A2 B2 (runL L m0 k).2.2 hb1 (runL_wf hW k) L (by rw [h513]; exact hRC) k (by omega) (by omega)) mw_X9_does lk_X9_288 ⟨Nat.le_of_ble_eq_true rfl, Nat.le_of_ble_eq_true rfl⟩ (by decide) (by decide) rfl rfl (Nat.le_of_ble_eq_true rfl) ⟨Nat.le_of_ble_eq_true rfl, Nat.le_of_ble_eq_true rfl⟩ rfl (fun v' Y' I3 J3 A3 B3 hpo => ?_)
              obtain ⟨rfl, rfl, hq5, hqk⟩ := hpo
              obtain ⟨d, hd⟩ : ∃ d, d = doC (runL L m0 k).2.2 L[k] := ⟨_, rfl⟩
              rw [← hd] at hst hq5 ⊢
              show Sim X (YR ad) 40 [(0, .ref (ad 500)), (1, .int (nI (runL L m0 k).1)), (2, .int (nI k))] [.int d.1] I3 J3 A3 B3 0 0
              have jn : Sim X (YR ad) 66 [(0, .ref (ad 500)), (1, .int (nI (runL L m0 k).1)), (2, .int (nI k)), (3, .int d.1), (4, .int (bI (isF d.1)))] [] I3 J3 A3 B3 0 0 := by
                refine S_n g 2 (pc' := 69) (lv' := [(0, .ref (ad 500)), (1, .int (nI (runL L m0 k).1)), (2, .int (nI k)), (3, .int d.1), (4, .int (bI (isF d.1)))]) (st' := [.int (bI (isF d.1)), .ref (ad 500)]) rfl ?_
                refine S_ifB_eq g (tgt := 76) rfl (by decide) (fun qz69 => ?_) (fun qz69 => ?_)
                · skip
                  refine S_n g 1 (pc' := 77) (lv' := [(0, .ref (ad 500)), (1, .int (nI (runL L m0 k).1)), (2, .int (nI k)), (3, .int d.1), (4, .int (bI (isF d.1)))]) (st' := [.int (nI 0), .ref (ad 500)]) rfl ?_
                  refine S_putI g (i := 500) (c := 9) (k := 5) (kd := 0) (by decide) (by decide) rfl rfl (by decide) fw_X9_24 rfl rfl rfl ?_
                  refine S_n g 2 (pc' := 83) (lv' := [(0, .ref (ad 500)), (1, .int (nI (runL L m0 k).1)), (2, .int (nI k)), (3, .int d.1), (4, .int (bI (isF d.1)))]) (st' := [.int (bI (isF d.1)), .int (nI (runL L m0 k).1)]) rfl ?_
                  refine S_ifB_eq g (tgt := 90) rfl (by decide) (fun qz83 => ?_) (fun qz83 => ?_)
                  · skip
                    refine S_n g 2 (pc' := 92) (lv' := [(0, .ref (ad 500)), (1, .int (nI (runL L m0 k).1)), (2, .int (nI k)), (3, .int d.1), (4, .int (bI (isF d.1)))]) (st' := [.int ((nI (runL L m0 k).1) + (nI 1))]) rfl ?_
                    rw [nI_add (runL L m0 k).1 1]
                    refine S_n g 2 (pc' := 96) (lv' := [(0, .ref (ad 500)), (1, .int (nI ((runL L m0 k).1 + 1))), (2, .int ((nI k) + nI 1)), (3, .int d.1), (4, .int (bI (isF d.1)))]) (st' := []) rfl ?_
                    rw [nI_add k 1]
                    refine S_n g 1 (pc' := 20) (lv' := [(0, .ref (ad 500)), (1, .int (nI ((runL L m0 k).1 + 1))), (2, .int (nI (k + 1))), (3, .int d.1), (4, .int (bI (isF d.1)))]) (st' := []) rfl ?_
                    rw [if_neg (by rw [qz69]; decide)] at hst
                    refine S_lveq (lv' := [(0, .ref (ad 500)), (1, .int (nI (runL L m0 (k + 1)).1)), (2, .int (nI (k + 1))), (3, .int d.1), (4, .int (bI (isF d.1)))]) (by rw [(show nI ((runL L m0 k).1 + 1) = nI (runL L m0 (k + 1)).1 from by rw [hst]).symm]) ?_
                    refine S_keep (lv' := [(0, .ref (ad 500)), (1, .int (nI (runL L m0 (k + 1)).1)), (2, .int (nI (k + 1)))]) [0, 1, 2] rfl ?_
                    exact lp (L.length - (k + 1)) (by omega) (k + 1) (up2 I3 500 5 (nI 0)) J3 A3 B3 rfl (by omega) (by rw [hst]; exact hq5) (by rw [hst]; rfl) (hqk.1.2.2.1.trans h19) (hqk.2.2.1.2.2.trans h513) (kpV_tr hkp (kpV_tr (kpR_V hqk) ⟨rfl, rfl, rfl, rfl⟩))
                  · skip
                    exact absurd (qz69.symm.trans qz83) (by decide)
                · skip
                  refine S_n g 2 (pc' := 77) (lv' := [(0, .ref (ad 500)), (1, .int (nI (runL L m0 k).1)), (2, .int (nI k)), (3, .int d.1), (4, .int (bI (isF d.1)))]) (st' := [.int d.1, .ref (ad 500)]) rfl ?_
                  refine S_putI g (i := 500) (c := 9) (k := 5) (kd := 0) (by decide) (by decide) rfl rfl (by decide) fw_X9_24 rfl rfl rfl ?_
                  refine S_n g 2 (pc' := 83) (lv' := [(0, .ref (ad 500)), (1, .int (nI (runL L m0 k).1)), (2, .int (nI k)), (3, .int d.1), (4, .int (bI (isF d.1)))]) (st' := [.int (bI (isF d.1)), .int (nI (runL L m0 k).1)]) rfl ?_
                  refine S_ifB_eq g (tgt := 90) rfl (by decide) (fun qz83 => ?_) (fun qz83 => ?_)
                  · skip
                    exact absurd (qz69.symm.trans qz83) (by decide)
                  · skip
                    refine S_n g 3 (pc' := 92) (lv' := [(0, .ref (ad 500)), (1, .int (nI (runL L m0 k).1)), (2, .int (nI k)), (3, .int d.1), (4, .int (bI (isF d.1)))]) (st' := [.int ((nI (runL L m0 k).1) + (nI 0))]) rfl ?_
                    rw [nI_add (runL L m0 k).1 0]
                    refine S_n g 2 (pc' := 96) (lv' := [(0, .ref (ad 500)), (1, .int (nI ((runL L m0 k).1 + 0))), (2, .int ((nI k) + nI 1)), (3, .int d.1), (4, .int (bI (isF d.1)))]) (st' := []) rfl ?_
                    rw [nI_add k 1]
                    refine S_n g 1 (pc' := 20) (lv' := [(0, .ref (ad 500)), (1, .int (nI ((runL L m0 k).1 + 0))), (2, .int (nI (k + 1))), (3, .int d.1), (4, .int (bI (isF d.1)))]) (st' := []) rfl ?_
                    rw [if_pos qz69] at hst
                    refine S_lveq (lv' := [(0, .ref (ad 500)), (1, .int (nI (runL L m0 (k + 1)).1)), (2, .int (nI (k + 1))), (3, .int d.1), (4, .int (bI (isF d.1)))]) (by rw [(show nI ((runL L m0 k).1 + 0) = nI (runL L m0 (k + 1)).1 from by rw [hst]; rfl).symm]) ?_
                    refine S_keep (lv' := [(0, .ref (ad 500)), (1, .int (nI (runL L m0 (k + 1)).1)), (2, .int (nI (k + 1)))]) [0, 1, 2] rfl ?_
                    exact lp (L.length - (k + 1)) (by omega) (k + 1) (up2 I3 500 5 (d.1)) J3 A3 B3 rfl (by omega) (by rw [hst]; exact hq5) (by rw [hst]; rfl) (hqk.1.2.2.1.trans h19) (hqk.2.2.1.2.2.trans h513) (kpV_tr hkp (kpV_tr (kpR_V hqk) ⟨rfl, rfl, rfl, rfl⟩))
              refine S_n g 3 (pc' := 44) (lv' := [(0, .ref (ad 500)), (1, .int (nI (runL L m0 k).1)), (2, .int (nI k)), (3, .int d.1)]) (st' := [.int (-nI 101), .int d.1]) rfl ?_
              refine S_ic_eq g (tgt := 59) rfl (by decide) (fun qz44 => ?_) (fun qz44 => ?_)
              · skip
                refine S_n g 3 (pc' := 66) (lv' := [(0, .ref (ad 500)), (1, .int (nI (runL L m0 k).1)), (2, .int (nI k)), (3, .int d.1), (4, .int (nI 1))]) (st' := []) rfl ?_
                refine S_lveq (lv' := [(0, .ref (ad 500)), (1, .int (nI (runL L m0 k).1)), (2, .int (nI k)), (3, .int d.1), (4, .int (bI (isF d.1)))]) (by rw [(show nI 1 = bI (isF d.1) from by rw [show isF d.1 = true from decide_eq_true (by simp [qz44])]; rfl).symm]) ?_
                exact jn
              · skip
                refine S_n g 2 (pc' := 50) (lv' := [(0, .ref (ad 500)), (1, .int (nI (runL L m0 k).1)), (2, .int (nI k)), (3, .int d.1)]) (st' := [.int (-nI 102), .int d.1]) rfl ?_
                refine S_ic_eq g (tgt := 59) rfl (by decide) (fun qz50 => ?_) (fun qz50 => ?_)
                · skip
                  refine S_n g 3 (pc' := 66) (lv' := [(0, .ref (ad 500)), (1, .int (nI (runL L m0 k).1)), (2, .int (nI k)), (3, .int d.1), (4, .int (nI 1))]) (st' := []) rfl ?_
                  refine S_lveq (lv' := [(0, .ref (ad 500)), (1, .int (nI (runL L m0 k).1)), (2, .int (nI k)), (3, .int d.1), (4, .int (bI (isF d.1)))]) (by rw [(show nI 1 = bI (isF d.1) from by rw [show isF d.1 = true from decide_eq_true (by simp [qz44, qz50])]; rfl).symm]) ?_
                  exact jn
                · skip
                  refine S_n g 2 (pc' := 56) (lv' := [(0, .ref (ad 500)), (1, .int (nI (runL L m0 k).1)), (2, .int (nI k)), (3, .int d.1)]) (st' := [.int (-nI 103), .int d.1]) rfl ?_
                  refine S_ic_ne g (tgt := 63) rfl (by decide) (fun qz56 => ?_) (fun qz56 => ?_)
                  · skip
                    refine S_n g 2 (pc' := 66) (lv' := [(0, .ref (ad 500)), (1, .int (nI (runL L m0 k).1)), (2, .int (nI k)), (3, .int d.1), (4, .int (nI 0))]) (st' := []) rfl ?_
                    refine S_lveq (lv' := [(0, .ref (ad 500)), (1, .int (nI (runL L m0 k).1)), (2, .int (nI k)), (3, .int d.1), (4, .int (bI (isF d.1)))]) (by rw [(show nI 0 = bI (isF d.1) from by rw [show isF d.1 = false from decide_eq_false (by simp [qz44, qz50, qz56])]; rfl).symm]) ?_
                    exact jn
                  · skip
                    refine S_n g 3 (pc' := 66) (lv' := [(0, .ref (ad 500)), (1, .int (nI (runL L m0 k).1)), (2, .int (nI k)), (3, .int d.1), (4, .int (nI 1))]) (st' := []) rfl ?_
                    refine S_lveq (lv' := [(0, .ref (ad 500)), (1, .int (nI (runL L m0 k).1)), (2, .int (nI k)), (3, .int d.1), (4, .int (bI (isF d.1)))]) (by rw [(show nI 1 = bI (isF d.1) from by rw [show isF d.1 = true from decide_eq_true (by simp [qz44, qz50, qz56])]; rfl).symm]) ?_
                    exact jn
      exact lp _ 0 (up2 (up2 (up2 I 500 19 (nI L.length)) 500 20 (nI fa)) 500 5 (nI 0)) J (va_up A 513 r) B rfl (Nat.zero_le _) hm0 rfl rfl (va_up_self _ _ _) (⟨rfl, rfl, rfl, rfl⟩)
    · exact absurd ((hI_m1 (by omega)).mp qz5) hz
  · skip
    have hz : ¬ F.1 = 0 := fun q => qz5 (by rw [q]; rfl)
    refine S_n g 1 (pc' := 10) (lv' := [(0, .ref (ad 500))]) (st' := [.int (-nI 102)]) rfl ?_
    exact rtI rt rfl rfl (⟨by rw [o_run, ← hFo, if_neg hz], rfl, by rw [o_run, ← hFo, if_neg hz]; rfl, by rw [o_run, ← hFo, if_neg hz]; exact hm0, ⟨rfl, rfl, rfl, rfl⟩⟩)
