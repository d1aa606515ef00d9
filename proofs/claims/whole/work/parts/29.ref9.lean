/-! the reference, part 9: demanding, counts, bound -/
def dmN (m : Nat → Int64) : Nat → Nat
  | 0 => 0
  | k + 1 => if m (69 + k) = -lN 1 then dmN m k else dmN m k ||| 2 ^ k
theorem dmN_lt (m : Nat → Int64) : ∀ k, k ≤ 6 → dmN m k < 64
  | 0, _ => by decide
  | k + 1, h => by
    have := dmN_lt m k (by omega)
    unfold dmN
    split
    · exact this
    · exact or_lt this (by omega)
theorem dmN_bit (m : Nat → Int64) : ∀ k u, (dmN m k).testBit u = (decide (u < k) && decide (m (69 + u) ≠ -lN 1))
  | 0, u => by simp [dmN]
  | k + 1, u => by
    have ih := dmN_bit m k u
    unfold dmN
    by_cases e : u = k
    · subst e
      split
      · rename_i h
        rw [ih]; simp [h]
      · rename_i h
        rw [Nat.testBit_or, ih, Nat.testBit_two_pow]; simp [h]
    · have e1 : decide (u < k + 1) = decide (u < k) := by
        by_cases h : u < k
        · rw [decide_eq_true h, decide_eq_true]; omega
        · rw [decide_eq_false h, decide_eq_false]; omega
      split
      · rw [ih, e1]
      · rw [Nat.testBit_or, ih, Nat.testBit_two_pow, e1]
        simp [Ne.symm e]

set_option maxRecDepth 100000 in
set_option maxHeartbeats 4000000 in
theorem sp_demanding (ad : Nat → Nat) (I : FI) (J : FJ) (A : FI) (B : FJ) (nu : Nat) (hU : B 501 1 = lN nu) (h2 : nu ≤ 6) : Spec M_X9_demanding [.ref (ad 500)] (YR ad) I J A B (eqP (some (.int (nI (dmN (B 501) nu)))) (YR ad) I J A B) := by
  refine Spec_of (by decide) tk_X9_demanding (Nat.le_of_ble_eq_true rfl) (fun X g rt => ?_)
  show Sim X (YR ad) 0 [(0, .ref (ad 500))] [] I J A B 0 0
  refine S_n g 4 (pc' := 4) (lv' := [(0, .ref (ad 500)), (1, .int (nI 0)), (2, .int (nI 0))]) (st' := []) rfl ?_
  have lp : ∀ (nn : Nat) (k : Nat), nu - k = nn → (k ≤ nu) → Sim X (YR ad) 4 [(0, .ref (ad 500)), (1, .int (nI (dmN (B 501) k))), (2, .int (nI k))] [] I J A B 0 0 := by
    intro nn
    induction nn using Nat.strongRecOn with
    | ind nn ih =>
      intro k hmz hk
      have lp := ih
      refine S_n g 2 (pc' := 6) (lv' := [(0, .ref (ad 500)), (1, .int (nI (dmN (B 501) k))), (2, .int (nI k))]) (st' := [.ref (ad 500), .int (nI k)]) rfl ?_
      refine S_cV g (i := 500) (As := []) (st := [.int (nI k)]) (sp_users ad I J A B nu hU) mw_X9_users lk_X9_71 ⟨Nat.le_of_ble_eq_true rfl, Nat.le_of_ble_eq_true rfl⟩ (by decide) (by decide) rfl rfl (Nat.le_of_ble_eq_true rfl) ⟨Nat.le_of_ble_eq_true rfl, Nat.le_of_ble_eq_true rfl⟩ rfl ?_
      show Sim X (YR ad) 9 [(0, .ref (ad 500)), (1, .int (nI (dmN (B 501) k))), (2, .int (nI k))] [.int (nI nu), .int (nI k)] I J A B 0 0
      refine S_icN_ge g (tgt := 44) (by omega) (by omega) rfl (by decide) (fun qz9 => ?_) (fun qz9 => ?_)
      · skip
        have hk9 : k = nu := by omega
        refine S_n g 1 (pc' := 45) (lv' := [(0, .ref (ad 500)), (1, .int (nI (dmN (B 501) k))), (2, .int (nI k))]) (st' := [.int (nI (dmN (B 501) k))]) rfl ?_
        exact rtI rt rfl rfl (by rw [hk9]; exact eqP_rf)
      · skip
        refine S_n g 2 (pc' := 14) (lv' := [(0, .ref (ad 500)), (1, .int (nI (dmN (B 501) k))), (2, .int (nI k))]) (st' := [.ref (ad 500), .int (nI (dmN (B 501) k))]) rfl ?_
        refine S_getR g (i := 500) (c := 9) (k := 0) (j := 501) (by decide) (by decide) rfl rfl rfl fl_X9_7 rfl ?_
        refine S_n g 3 (pc' := 21) (lv' := [(0, .ref (ad 500)), (1, .int (nI (dmN (B 501) k))), (2, .int (nI k))]) (st' := [.int ((nI 69) + (nI k)), .ref (ad 501), .int (nI (dmN (B 501) k))]) rfl ?_
        rw [nI_add 69 k]
        refine S_laldN g (i := 501) (e := 69 + k) (by decide) rfl (show 69 + k < 621 from by omega) (show (621 : Nat) < 2 ^ 31 from by decide) rfl ?_
        refine S_ldc2 g kc_X9_59 rfl ?_
        refine S_lc_ne g (tgt := 33) rfl rfl (by decide) (fun qz25 => ?_) (fun qz25 => ?_)
        · skip
          refine S_n g 5 (pc' := 38) (lv' := [(0, .ref (ad 500)), (1, .int ((nI (dmN (B 501) k)) ||| ((nI 1) <<< ((nI k) &&& 31)))), (2, .int (nI k))]) (st' := []) rfl ?_
          refine S_lveq (lv' := [(0, .ref (ad 500)), (1, .int (nI (dmN (B 501) (k + 1)))), (2, .int (nI k))]) (by rw [(show (nI (dmN (B 501) k)) ||| ((nI 1) <<< ((nI k) &&& 31)) = nI (dmN (B 501) (k + 1)) from by rw [dmN, if_neg qz25, ← nI_or, ← i1_nI (by omega)]).symm]) ?_
          refine S_n g 1 (pc' := 41) (lv' := [(0, .ref (ad 500)), (1, .int (nI (dmN (B 501) (k + 1)))), (2, .int ((nI k) + nI 1))]) (st' := []) rfl ?_
          rw [nI_add k 1]
          refine S_n g 1 (pc' := 4) (lv' := [(0, .ref (ad 500)), (1, .int (nI (dmN (B 501) (k + 1)))), (2, .int (nI (k + 1)))]) (st' := []) rfl ?_
          exact lp (nu - (k + 1)) (by omega) (k + 1) rfl (by omega)
        · skip
          refine S_n g 4 (pc' := 38) (lv' := [(0, .ref (ad 500)), (1, .int ((nI (dmN (B 501) k)) ||| (nI 0))), (2, .int (nI k))]) (st' := []) rfl ?_
          refine S_lveq (lv' := [(0, .ref (ad 500)), (1, .int (nI (dmN (B 501) (k + 1)))), (2, .int (nI k))]) (by rw [(show (nI (dmN (B 501) k)) ||| (nI 0) = nI (dmN (B 501) (k + 1)) from by rw [dmN, if_pos qz25, nI_or, Nat.or_zero]).symm]) ?_
          refine S_n g 1 (pc' := 41) (lv' := [(0, .ref (ad 500)), (1, .int (nI (dmN (B 501) (k + 1)))), (2, .int ((nI k) + nI 1))]) (st' := []) rfl ?_
          rw [nI_add k 1]
          refine S_n g 1 (pc' := 4) (lv' := [(0, .ref (ad 500)), (1, .int (nI (dmN (B 501) (k + 1)))), (2, .int (nI (k + 1)))]) (st' := []) rfl ?_
          exact lp (nu - (k + 1)) (by omega) (k + 1) rfl (by omega)
  exact lp _ 0 rfl (by omega)

/-- piece p counts for u, looked at among the users below v -/
def isV (m : Nat → Int64) (u bf fl p : Nat) : Nat → Bool
  | 0 => !tb (m (63 + u)) p
  | v + 1 => isV m u bf fl p v && !(bf.testBit v && (tb (m (63 + v)) p || decide (m (69 + v) = lN fl)))
def cnV (m : Nat → Int64) (nu u bf fl : Nat) : Nat → Nat
  | 0 => 0
  | j + 1 => cnV m nu u bf fl j + (isV m u bf fl (12 * fl + j) nu).toNat
theorem cnV_le (m : Nat → Int64) (nu u bf fl : Nat) : ∀ k, cnV m nu u bf fl k ≤ k
  | 0 => Nat.le_refl 0
  | k + 1 => by
    have := cnV_le m nu u bf fl k
    have := Bool.toNat_le (isV m u bf fl (12 * fl + k) nu)
    unfold cnV
    omega

set_option maxRecDepth 100000 in
set_option maxHeartbeats 4000000 in
theorem sp_counts (ad : Nat → Nat) (I : FI) (J : FJ) (A : FI) (B : FJ) (u bf nu fl : Nat) (hU : B 501 1 = lN nu) (h2 : nu ≤ 6) (hu : u < 6) (hb : bf < 64) (hWf : B 501 (69 + u) = lN fl) (hfl : fl < 5) : Spec M_X9_counts [.ref (ad 500), .int (nI u), .int (nI bf)] (YR ad) I J A B (eqP (some (.int (nI (cnV (B 501) nu u bf fl 12)))) (YR ad) I J A B) := by
  refine Spec_of (by decide) tk_X9_counts (Nat.le_of_ble_eq_true rfl) (fun X g rt => ?_)
  show Sim X (YR ad) 0 [(0, .ref (ad 500)), (1, .int (nI u)), (2, .int (nI bf))] [] I J A B 0 0
  refine S_n g 1 (pc' := 1) (lv' := [(0, .ref (ad 500)), (1, .int (nI u)), (2, .int (nI bf))]) (st' := [.ref (ad 500)]) rfl ?_
  refine S_getR g (i := 500) (c := 9) (k := 0) (j := 501) (by decide) (by decide) rfl rfl rfl fl_X9_7 rfl ?_
  refine S_n g 3 (pc' := 8) (lv' := [(0, .ref (ad 500)), (1, .int (nI u)), (2, .int (nI bf))]) (st' := [.int ((nI 69) + (nI u)), .ref (ad 501)]) rfl ?_
  rw [nI_add 69 u]
  refine S_laldN g (i := 501) (e := 69 + u) (by decide) rfl (show 69 + u < 621 from by omega) (show (621 : Nat) < 2 ^ 31 from by decide) rfl ?_
  rw [hWf]
  refine S_n g 1 (pc' := 10) (lv' := [(0, .ref (ad 500)), (1, .int (nI u)), (2, .int (nI bf))]) (st' := [.int (lN fl).toInt32]) rfl ?_
  rw [lN_i fl]
  refine S_n g 6 (pc' := 18) (lv' := [(0, .ref (ad 500)), (1, .int (nI u)), (2, .int (nI bf)), (3, .int (nI fl)), (4, .int (nI 0))]) (st' := [.int ((nI 12) * (nI fl))]) rfl ?_
  rw [pk_mul 12 fl]
  refine S_n g 1 (pc' := 20) (lv' := [(0, .ref (ad 500)), (1, .int (nI u)), (2, .int (nI bf)), (3, .int (nI fl)), (4, .int (nI 0)), (5, .int (nI (12 * fl)))]) (st' := []) rfl ?_
  have lp : ∀ (nn : Nat) (j : Nat), 12 - j = nn → (j ≤ 12) → Sim X (YR ad) 20 [(0, .ref (ad 500)), (1, .int (nI u)), (2, .int (nI bf)), (3, .int (nI fl)), (4, .int (nI (cnV (B 501) nu u bf fl j))), (5, .int (nI (12 * fl + j)))] [] I J A B 0 0 := by
    intro nn
    induction nn using Nat.strongRecOn with
    | ind nn ih =>
      intro j hmz hj
      have lp := ih
      have hcn := cnV_le (B 501) nu u bf fl j
      refine S_n g 4 (pc' := 26) (lv' := [(0, .ref (ad 500)), (1, .int (nI u)), (2, .int (nI bf)), (3, .int (nI fl)), (4, .int (nI (cnV (B 501) nu u bf fl j))), (5, .int (nI (12 * fl + j)))]) (st' := [.int ((nI 12) * (nI fl)), .int (nI (12 * fl + j))]) rfl ?_
      rw [pk_mul 12 fl]
      refine S_n g 2 (pc' := 29) (lv' := [(0, .ref (ad 500)), (1, .int (nI u)), (2, .int (nI bf)), (3, .int (nI fl)), (4, .int (nI (cnV (B 501) nu u bf fl j))), (5, .int (nI (12 * fl + j)))]) (st' := [.int ((nI (12 * fl)) + (nI 12)), .int (nI (12 * fl + j))]) rfl ?_
      rw [nI_add (12 * fl) 12]
      refine S_icN_ge g (tgt := 149) (by omega) (by omega) rfl (by decide) (fun qz29 => ?_) (fun qz29 => ?_)
      · skip
        have hj9 : j = 12 := by omega
        refine S_n g 1 (pc' := 151) (lv' := [(0, .ref (ad 500)), (1, .int (nI u)), (2, .int (nI bf)), (3, .int (nI fl)), (4, .int (nI (cnV (B 501) nu u bf fl j))), (5, .int (nI (12 * fl + j)))]) (st' := [.int (nI (cnV (B 501) nu u bf fl j))]) rfl ?_
        exact rtI rt rfl rfl (by rw [hj9]; exact eqP_rf)
      · skip
        refine S_n g 3 (pc' := 36) (lv' := [(0, .ref (ad 500)), (1, .int (nI u)), (2, .int (nI bf)), (3, .int (nI fl)), (4, .int (nI (cnV (B 501) nu u bf fl j))), (5, .int (nI (12 * fl + j)))]) (st' := [.int (nI (12 * fl + j)), .int (nI u), .ref (ad 500)]) rfl ?_
        refine S_cV g (i := 500) (As := [.int (nI u), .int (nI (12 * fl + j))]) (st := []) (sp_has ad I J A B u (12 * fl + j) (by omega) (by omega)) mw_X9_has lk_X9_87 ⟨Nat.le_of_ble_eq_true rfl, Nat.le_of_ble_eq_true rfl⟩ (by decide) (by decide) rfl rfl (Nat.le_of_ble_eq_true rfl) ⟨Nat.le_of_ble_eq_true rfl, Nat.le_of_ble_eq_true rfl⟩ rfl ?_
        show Sim X (YR ad) 39 [(0, .ref (ad 500)), (1, .int (nI u)), (2, .int (nI bf)), (3, .int (nI fl)), (4, .int (nI (cnV (B 501) nu u bf fl j))), (5, .int (nI (12 * fl + j)))] [.int (bI (tb (B 501 (63 + u)) (12 * fl + j)))] I J A B 0 0
        refine S_ifB_ne g (tgt := 46) rfl (by decide) (fun qz39 => ?_) (fun qz39 => ?_)
        · skip
          refine S_n g 4 (pc' := 52) (lv' := [(0, .ref (ad 500)), (1, .int (nI u)), (2, .int (nI bf)), (3, .int (nI fl)), (4, .int (nI (cnV (B 501) nu u bf fl j))), (5, .int (nI (12 * fl + j))), (6, .int (nI 0)), (7, .int (nI 0))]) (st' := []) rfl ?_
          refine S_lveq (lv' := [(0, .ref (ad 500)), (1, .int (nI u)), (2, .int (nI bf)), (3, .int (nI fl)), (4, .int (nI (cnV (B 501) nu u bf fl j))), (5, .int (nI (12 * fl + j))), (6, .int (bI (isV (B 501) u bf fl (12 * fl + j) 0))), (7, .int (nI 0))]) (by rw [(show nI 0 = bI (isV (B 501) u bf fl (12 * fl + j) 0) from by simp [isV, bI, qz39]).symm]) ?_
          have lp2 : ∀ (nn : Nat) (v : Nat), nu - v = nn → (v ≤ nu) → Sim X (YR ad) 52 [(0, .ref (ad 500)), (1, .int (nI u)), (2, .int (nI bf)), (3, .int (nI fl)), (4, .int (nI (cnV (B 501) nu u bf fl j))), (5, .int (nI (12 * fl + j))), (6, .int (bI (isV (B 501) u bf fl (12 * fl + j) v))), (7, .int (nI v))] [] I J A B 0 0 := by
            intro nn
            induction nn using Nat.strongRecOn with
            | ind nn ih =>
              intro v hmz hv
              have lp2 := ih
              refine S_n g 2 (pc' := 55) (lv' := [(0, .ref (ad 500)), (1, .int (nI u)), (2, .int (nI bf)), (3, .int (nI fl)), (4, .int (nI (cnV (B 501) nu u bf fl j))), (5, .int (nI (12 * fl + j))), (6, .int (bI (isV (B 501) u bf fl (12 * fl + j) v))), (7, .int (nI v))]) (st' := [.ref (ad 500), .int (nI v)]) rfl ?_
              refine S_cV g (i := 500) (As := []) (st := [.int (nI v)]) (sp_users ad I J A B nu hU) mw_X9_users lk_X9_71 ⟨Nat.le_of_ble_eq_true rfl, Nat.le_of_ble_eq_true rfl⟩ (by decide) (by decide) rfl rfl (Nat.le_of_ble_eq_true rfl) ⟨Nat.le_of_ble_eq_true rfl, Nat.le_of_ble_eq_true rfl⟩ rfl ?_
              show Sim X (YR ad) 58 [(0, .ref (ad 500)), (1, .int (nI u)), (2, .int (nI bf)), (3, .int (nI fl)), (4, .int (nI (cnV (B 501) nu u bf fl j))), (5, .int (nI (12 * fl + j))), (6, .int (bI (isV (B 501) u bf fl (12 * fl + j) v))), (7, .int (nI v))] [.int (nI nu), .int (nI v)] I J A B 0 0
              refine S_icN_ge g (tgt := 128) (by omega) (by omega) rfl (by decide) (fun qz58 => ?_) (fun qz58 => ?_)
              · skip
                have hv9 : v = nu := by omega
                refine S_lveq (lv' := [(0, .ref (ad 500)), (1, .int (nI u)), (2, .int (nI bf)), (3, .int (nI fl)), (4, .int (nI (cnV (B 501) nu u bf fl j))), (5, .int (nI (12 * fl + j))), (6, .int (bI (isV (B 501) u bf fl (12 * fl + j) nu))), (7, .int (nI v))]) (by rw [(show bI (isV (B 501) u bf fl (12 * fl + j) v) = bI (isV (B 501) u bf fl (12 * fl + j) nu) from by rw [hv9]).symm]) ?_
                refine S_n g 2 (pc' := 132) (lv' := [(0, .ref (ad 500)), (1, .int (nI u)), (2, .int (nI bf)), (3, .int (nI fl)), (4, .int (nI (cnV (B 501) nu u bf fl j))), (5, .int (nI (12 * fl + j))), (6, .int (bI (isV (B 501) u bf fl (12 * fl + j) nu))), (7, .int (nI v))]) (st' := [.int (bI (isV (B 501) u bf fl (12 * fl + j) nu)), .int (nI (cnV (B 501) nu u bf fl j))]) rfl ?_
                refine S_ifB_eq g (tgt := 139) rfl (by decide) (fun qz132 => ?_) (fun qz132 => ?_)
                · skip
                  refine S_n g 2 (pc' := 141) (lv' := [(0, .ref (ad 500)), (1, .int (nI u)), (2, .int (nI bf)), (3, .int (nI fl)), (4, .int (nI (cnV (B 501) nu u bf fl j))), (5, .int (nI (12 * fl + j))), (6, .int (bI (isV (B 501) u bf fl (12 * fl + j) nu))), (7, .int (nI v))]) (st' := [.int ((nI (cnV (B 501) nu u bf fl j)) + (nI 0))]) rfl ?_
                  rw [nI_add (cnV (B 501) nu u bf fl j) 0]
                  refine S_n g 1 (pc' := 143) (lv' := [(0, .ref (ad 500)), (1, .int (nI u)), (2, .int (nI bf)), (3, .int (nI fl)), (4, .int (nI ((cnV (B 501) nu u bf fl j) + 0))), (5, .int (nI (12 * fl + j))), (6, .int (bI (isV (B 501) u bf fl (12 * fl + j) nu))), (7, .int (nI v))]) (st' := []) rfl ?_
                  refine S_lveq (lv' := [(0, .ref (ad 500)), (1, .int (nI u)), (2, .int (nI bf)), (3, .int (nI fl)), (4, .int (nI (cnV (B 501) nu u bf fl (j + 1)))), (5, .int (nI (12 * fl + j))), (6, .int (bI (isV (B 501) u bf fl (12 * fl + j) nu))), (7, .int (nI v))]) (by rw [(show nI ((cnV (B 501) nu u bf fl j) + 0) = nI (cnV (B 501) nu u bf fl (j + 1)) from by simp [cnV, qz132]).symm]) ?_
                  refine S_n g 1 (pc' := 146) (lv' := [(0, .ref (ad 500)), (1, .int (nI u)), (2, .int (nI bf)), (3, .int (nI fl)), (4, .int (nI (cnV (B 501) nu u bf fl (j + 1)))), (5, .int ((nI (12 * fl + j)) + nI 1)), (6, .int (bI (isV (B 501) u bf fl (12 * fl + j) nu))), (7, .int (nI v))]) (st' := []) rfl ?_
                  rw [nI_add (12 * fl + j) 1]
                  refine S_n g 1 (pc' := 20) (lv' := [(0, .ref (ad 500)), (1, .int (nI u)), (2, .int (nI bf)), (3, .int (nI fl)), (4, .int (nI (cnV (B 501) nu u bf fl (j + 1)))), (5, .int (nI (12 * fl + j + 1))), (6, .int (bI (isV (B 501) u bf fl (12 * fl + j) nu))), (7, .int (nI v))]) (st' := []) rfl ?_
                  refine S_keep (lv' := [(0, .ref (ad 500)), (1, .int (nI u)), (2, .int (nI bf)), (3, .int (nI fl)), (4, .int (nI (cnV (B 501) nu u bf fl (j + 1)))), (5, .int (nI (12 * fl + j + 1)))]) [0, 1, 2, 3, 4, 5] rfl ?_
                  exact lp (12 - (j + 1)) (by omega) (j + 1) rfl (by omega)
                · skip
                  refine S_n g 3 (pc' := 141) (lv' := [(0, .ref (ad 500)), (1, .int (nI u)), (2, .int (nI bf)), (3, .int (nI fl)), (4, .int (nI (cnV (B 501) nu u bf fl j))), (5, .int (nI (12 * fl + j))), (6, .int (bI (isV (B 501) u bf fl (12 * fl + j) nu))), (7, .int (nI v))]) (st' := [.int ((nI (cnV (B 501) nu u bf fl j)) + (nI 1))]) rfl ?_
                  rw [nI_add (cnV (B 501) nu u bf fl j) 1]
                  refine S_n g 1 (pc' := 143) (lv' := [(0, .ref (ad 500)), (1, .int (nI u)), (2, .int (nI bf)), (3, .int (nI fl)), (4, .int (nI ((cnV (B 501) nu u bf fl j) + 1))), (5, .int (nI (12 * fl + j))), (6, .int (bI (isV (B 501) u bf fl (12 * fl + j) nu))), (7, .int (nI v))]) (st' := []) rfl ?_
                  refine S_lveq (lv' := [(0, .ref (ad 500)), (1, .int (nI u)), (2, .int (nI bf)), (3, .int (nI fl)), (4, .int (nI (cnV (B 501) nu u bf fl (j + 1)))), (5, .int (nI (12 * fl + j))), (6, .int (bI (isV (B 501) u bf fl (12 * fl + j) nu))), (7, .int (nI v))]) (by rw [(show nI ((cnV (B 501) nu u bf fl j) + 1) = nI (cnV (B 501) nu u bf fl (j + 1)) from by simp [cnV, qz132]).symm]) ?_
                  refine S_n g 1 (pc' := 146) (lv' := [(0, .ref (ad 500)), (1, .int (nI u)), (2, .int (nI bf)), (3, .int (nI fl)), (4, .int (nI (cnV (B 501) nu u bf fl (j + 1)))), (5, .int ((nI (12 * fl + j)) + nI 1)), (6, .int (bI (isV (B 501) u bf fl (12 * fl + j) nu))), (7, .int (nI v))]) (st' := []) rfl ?_
                  rw [nI_add (12 * fl + j) 1]
                  refine S_n g 1 (pc' := 20) (lv' := [(0, .ref (ad 500)), (1, .int (nI u)), (2, .int (nI bf)), (3, .int (nI fl)), (4, .int (nI (cnV (B 501) nu u bf fl (j + 1)))), (5, .int (nI (12 * fl + j + 1))), (6, .int (bI (isV (B 501) u bf fl (12 * fl + j) nu))), (7, .int (nI v))]) (st' := []) rfl ?_
                  refine S_keep (lv' := [(0, .ref (ad 500)), (1, .int (nI u)), (2, .int (nI bf)), (3, .int (nI fl)), (4, .int (nI (cnV (B 501) nu u bf fl (j + 1)))), (5, .int (nI (12 * fl + j + 1)))]) [0, 1, 2, 3, 4, 5] rfl ?_
                  exact lp (12 - (j + 1)) (by omega) (j + 1) rfl (by omega)
              · skip
                refine S_n g 5 (pc' := 67) (lv' := [(0, .ref (ad 500)), (1, .int (nI u)), (2, .int (nI bf)), (3, .int (nI fl)), (4, .int (nI (cnV (B 501) nu u bf fl j))), (5, .int (nI (12 * fl + j))), (6, .int (bI (isV (B 501) u bf fl (12 * fl + j) v))), (7, .int (nI v))]) (st' := [.int (((nI bf) >>> ((nI v) &&& 31)) &&& (nI 1))]) rfl ?_
                refine S_steq (st' := [.int (nI (bf.testBit v).toNat)]) (by rw [(show ((nI bf) >>> ((nI v) &&& 31)) &&& (nI 1) = nI (bf.testBit v).toNat from bit_nat (by omega)).symm]) ?_
                have hb1 : (bf.testBit v).toNat ≤ 1 := Bool.toNat_le _
                refine S_n g 1 (pc' := 68) (lv' := [(0, .ref (ad 500)), (1, .int (nI u)), (2, .int (nI bf)), (3, .int (nI fl)), (4, .int (nI (cnV (B 501) nu u bf fl j))), (5, .int (nI (12 * fl + j))), (6, .int (bI (isV (B 501) u bf fl (12 * fl + j) v))), (7, .int (nI v))]) (st' := [.int (nI 1), .int (nI (bf.testBit v).toNat)]) rfl ?_
                refine S_icN_ne g (tgt := 75) (by omega) (by omega) rfl (by decide) (fun qz68 => ?_) (fun qz68 => ?_)
                · skip
                  refine S_n g 3 (pc' := 80) (lv' := [(0, .ref (ad 500)), (1, .int (nI u)), (2, .int (nI bf)), (3, .int (nI fl)), (4, .int (nI (cnV (B 501) nu u bf fl j))), (5, .int (nI (12 * fl + j))), (6, .int (bI (isV (B 501) u bf fl (12 * fl + j) v))), (7, .int (nI v)), (8, .int (nI 0))]) (st' := [.int (bI (isV (B 501) u bf fl (12 * fl + j) v))]) rfl ?_
                  refine S_ifB_eq g (tgt := 119) rfl (by decide) (fun qz80 => ?_) (fun qz80 => ?_)
                  · skip
                    refine S_n g 2 (pc' := 122) (lv' := [(0, .ref (ad 500)), (1, .int (nI u)), (2, .int (nI bf)), (3, .int (nI fl)), (4, .int (nI (cnV (B 501) nu u bf fl j))), (5, .int (nI (12 * fl + j))), (6, .int (nI 0)), (7, .int (nI v)), (8, .int (nI 0))]) (st' := []) rfl ?_
                    refine S_lveq (lv' := [(0, .ref (ad 500)), (1, .int (nI u)), (2, .int (nI bf)), (3, .int (nI fl)), (4, .int (nI (cnV (B 501) nu u bf fl j))), (5, .int (nI (12 * fl + j))), (6, .int (bI (isV (B 501) u bf fl (12 * fl + j) (v + 1)))), (7, .int (nI v)), (8, .int (nI 0))]) (by rw [(show nI 0 = bI (isV (B 501) u bf fl (12 * fl + j) (v + 1)) from by cases hbv : bf.testBit v <;> simp_all [isV, bI]).symm]) ?_
                    refine S_n g 1 (pc' := 125) (lv' := [(0, .ref (ad 500)), (1, .int (nI u)), (2, .int (nI bf)), (3, .int (nI fl)), (4, .int (nI (cnV (B 501) nu u bf fl j))), (5, .int (nI (12 * fl + j))), (6, .int (bI (isV (B 501) u bf fl (12 * fl + j) (v + 1)))), (7, .int ((nI v) + nI 1)), (8, .int (nI 0))]) (st' := []) rfl ?_
                    rw [nI_add v 1]
                    refine S_n g 1 (pc' := 52) (lv' := [(0, .ref (ad 500)), (1, .int (nI u)), (2, .int (nI bf)), (3, .int (nI fl)), (4, .int (nI (cnV (B 501) nu u bf fl j))), (5, .int (nI (12 * fl + j))), (6, .int (bI (isV (B 501) u bf fl (12 * fl + j) (v + 1)))), (7, .int (nI (v + 1))), (8, .int (nI 0))]) (st' := []) rfl ?_
                    refine S_keep (lv' := [(0, .ref (ad 500)), (1, .int (nI u)), (2, .int (nI bf)), (3, .int (nI fl)), (4, .int (nI (cnV (B 501) nu u bf fl j))), (5, .int (nI (12 * fl + j))), (6, .int (bI (isV (B 501) u bf fl (12 * fl + j) (v + 1)))), (7, .int (nI (v + 1)))]) [0, 1, 2, 3, 4, 5, 6, 7] rfl ?_
                    exact lp2 (nu - (v + 1)) (by omega) (v + 1) rfl (by omega)
                  · skip
                    refine S_n g 1 (pc' := 85) (lv' := [(0, .ref (ad 500)), (1, .int (nI u)), (2, .int (nI bf)), (3, .int (nI fl)), (4, .int (nI (cnV (B 501) nu u bf fl j))), (5, .int (nI (12 * fl + j))), (6, .int (bI (isV (B 501) u bf fl (12 * fl + j) v))), (7, .int (nI v)), (8, .int (nI 0))]) (st' := [.int (nI 0)]) rfl ?_
                    refine S_ifN_eq g (tgt := 115) (by omega) rfl (by decide) (fun qz85 => ?_) (fun qz85 => ?_)
                    · skip
                      refine S_n g 3 (pc' := 122) (lv' := [(0, .ref (ad 500)), (1, .int (nI u)), (2, .int (nI bf)), (3, .int (nI fl)), (4, .int (nI (cnV (B 501) nu u bf fl j))), (5, .int (nI (12 * fl + j))), (6, .int (nI 1)), (7, .int (nI v)), (8, .int (nI 0))]) (st' := []) rfl ?_
                      refine S_lveq (lv' := [(0, .ref (ad 500)), (1, .int (nI u)), (2, .int (nI bf)), (3, .int (nI fl)), (4, .int (nI (cnV (B 501) nu u bf fl j))), (5, .int (nI (12 * fl + j))), (6, .int (bI (isV (B 501) u bf fl (12 * fl + j) (v + 1)))), (7, .int (nI v)), (8, .int (nI 0))]) (by rw [(show nI 1 = bI (isV (B 501) u bf fl (12 * fl + j) (v + 1)) from by cases hbv : bf.testBit v <;> simp_all [isV, bI]).symm]) ?_
                      refine S_n g 1 (pc' := 125) (lv' := [(0, .ref (ad 500)), (1, .int (nI u)), (2, .int (nI bf)), (3, .int (nI fl)), (4, .int (nI (cnV (B 501) nu u bf fl j))), (5, .int (nI (12 * fl + j))), (6, .int (bI (isV (B 501) u bf fl (12 * fl + j) (v + 1)))), (7, .int ((nI v) + nI 1)), (8, .int (nI 0))]) (st' := []) rfl ?_
                      rw [nI_add v 1]
                      refine S_n g 1 (pc' := 52) (lv' := [(0, .ref (ad 500)), (1, .int (nI u)), (2, .int (nI bf)), (3, .int (nI fl)), (4, .int (nI (cnV (B 501) nu u bf fl j))), (5, .int (nI (12 * fl + j))), (6, .int (bI (isV (B 501) u bf fl (12 * fl + j) (v + 1)))), (7, .int (nI (v + 1))), (8, .int (nI 0))]) (st' := []) rfl ?_
                      refine S_keep (lv' := [(0, .ref (ad 500)), (1, .int (nI u)), (2, .int (nI bf)), (3, .int (nI fl)), (4, .int (nI (cnV (B 501) nu u bf fl j))), (5, .int (nI (12 * fl + j))), (6, .int (bI (isV (B 501) u bf fl (12 * fl + j) (v + 1)))), (7, .int (nI (v + 1)))]) [0, 1, 2, 3, 4, 5, 6, 7] rfl ?_
                      exact lp2 (nu - (v + 1)) (by omega) (v + 1) rfl (by omega)
                    · skip
                      exact absurd qz85 (by decide)
                · skip
                  refine S_n g 4 (pc' := 80) (lv' := [(0, .ref (ad 500)), (1, .int (nI u)), (2, .int (nI bf)), (3, .int (nI fl)), (4, .int (nI (cnV (B 501) nu u bf fl j))), (5, .int (nI (12 * fl + j))), (6, .int (bI (isV (B 501) u bf fl (12 * fl + j) v))), (7, .int (nI v)), (8, .int (nI 1))]) (st' := [.int (bI (isV (B 501) u bf fl (12 * fl + j) v))]) rfl ?_
                  refine S_ifB_eq g (tgt := 119) rfl (by decide) (fun qz80 => ?_) (fun qz80 => ?_)
                  · skip
                    refine S_n g 2 (pc' := 122) (lv' := [(0, .ref (ad 500)), (1, .int (nI u)), (2, .int (nI bf)), (3, .int (nI fl)), (4, .int (nI (cnV (B 501) nu u bf fl j))), (5, .int (nI (12 * fl + j))), (6, .int (nI 0)), (7, .int (nI v)), (8, .int (nI 1))]) (st' := []) rfl ?_
                    refine S_lveq (lv' := [(0, .ref (ad 500)), (1, .int (nI u)), (2, .int (nI bf)), (3, .int (nI fl)), (4, .int (nI (cnV (B 501) nu u bf fl j))), (5, .int (nI (12 * fl + j))), (6, .int (bI (isV (B 501) u bf fl (12 * fl + j) (v + 1)))), (7, .int (nI v)), (8, .int (nI 1))]) (by rw [(show nI 0 = bI (isV (B 501) u bf fl (12 * fl + j) (v + 1)) from by cases hbv : bf.testBit v <;> simp_all [isV, bI]).symm]) ?_
                    refine S_n g 1 (pc' := 125) (lv' := [(0, .ref (ad 500)), (1, .int (nI u)), (2, .int (nI bf)), (3, .int (nI fl)), (4, .int (nI (cnV (B 501) nu u bf fl j))), (5, .int (nI (12 * fl + j))), (6, .int (bI (isV (B 501) u bf fl (12 * fl + j) (v + 1)))), (7, .int ((nI v) + nI 1)), (8, .int (nI 1))]) (st' := []) rfl ?_
                    rw [nI_add v 1]
                    refine S_n g 1 (pc' := 52) (lv' := [(0, .ref (ad 500)), (1, .int (nI u)), (2, .int (nI bf)), (3, .int (nI fl)), (4, .int (nI (cnV (B 501) nu u bf fl j))), (5, .int (nI (12 * fl + j))), (6, .int (bI (isV (B 501) u bf fl (12 * fl + j) (v + 1)))), (7, .int (nI (v + 1))), (8, .int (nI 1))]) (st' := []) rfl ?_
                    refine S_keep (lv' := [(0, .ref (ad 500)), (1, .int (nI u)), (2, .int (nI bf)), (3, .int (nI fl)), (4, .int (nI (cnV (B 501) nu u bf fl j))), (5, .int (nI (12 * fl + j))), (6, .int (bI (isV (B 501) u bf fl (12 * fl + j) (v + 1)))), (7, .int (nI (v + 1)))]) [0, 1, 2, 3, 4, 5, 6, 7] rfl ?_
                    exact lp2 (nu - (v + 1)) (by omega) (v + 1) rfl (by omega)
                  · skip
                    refine S_n g 1 (pc' := 85) (lv' := [(0, .ref (ad 500)), (1, .int (nI u)), (2, .int (nI bf)), (3, .int (nI fl)), (4, .int (nI (cnV (B 501) nu u bf fl j))), (5, .int (nI (12 * fl + j))), (6, .int (bI (isV (B 501) u bf fl (12 * fl + j) v))), (7, .int (nI v)), (8, .int (nI 1))]) (st' := [.int (nI 1)]) rfl ?_
                    refine S_ifN_eq g (tgt := 115) (by omega) rfl (by decide) (fun qz85 => ?_) (fun qz85 => ?_)
                    · skip
                      exact absurd qz85 (by decide)
                    · skip
                      refine S_n g 3 (pc' := 93) (lv' := [(0, .ref (ad 500)), (1, .int (nI u)), (2, .int (nI bf)), (3, .int (nI fl)), (4, .int (nI (cnV (B 501) nu u bf fl j))), (5, .int (nI (12 * fl + j))), (6, .int (bI (isV (B 501) u bf fl (12 * fl + j) v))), (7, .int (nI v)), (8, .int (nI 1))]) (st' := [.int (nI (12 * fl + j)), .int (nI v), .ref (ad 500)]) rfl ?_
                      refine S_cV g (i := 500) (As := [.int (nI v), .int (nI (12 * fl + j))]) (st := []) (sp_has ad I J A B v (12 * fl + j) (by omega) (by omega)) mw_X9_has lk_X9_87 ⟨Nat.le_of_ble_eq_true rfl, Nat.le_of_ble_eq_true rfl⟩ (by decide) (by decide) rfl rfl (Nat.le_of_ble_eq_true rfl) ⟨Nat.le_of_ble_eq_true rfl, Nat.le_of_ble_eq_true rfl⟩ rfl ?_
                      show Sim X (YR ad) 96 [(0, .ref (ad 500)), (1, .int (nI u)), (2, .int (nI bf)), (3, .int (nI fl)), (4, .int (nI (cnV (B 501) nu u bf fl j))), (5, .int (nI (12 * fl + j))), (6, .int (bI (isV (B 501) u bf fl (12 * fl + j) v))), (7, .int (nI v)), (8, .int (nI 1))] [.int (bI (tb (B 501 (63 + v)) (12 * fl + j)))] I J A B 0 0
                      refine S_ifB_ne g (tgt := 119) rfl (by decide) (fun qz96 => ?_) (fun qz96 => ?_)
                      · skip
                        refine S_n g 2 (pc' := 122) (lv' := [(0, .ref (ad 500)), (1, .int (nI u)), (2, .int (nI bf)), (3, .int (nI fl)), (4, .int (nI (cnV (B 501) nu u bf fl j))), (5, .int (nI (12 * fl + j))), (6, .int (nI 0)), (7, .int (nI v)), (8, .int (nI 1))]) (st' := []) rfl ?_
                        refine S_lveq (lv' := [(0, .ref (ad 500)), (1, .int (nI u)), (2, .int (nI bf)), (3, .int (nI fl)), (4, .int (nI (cnV (B 501) nu u bf fl j))), (5, .int (nI (12 * fl + j))), (6, .int (bI (isV (B 501) u bf fl (12 * fl + j) (v + 1)))), (7, .int (nI v)), (8, .int (nI 1))]) (by rw [(show nI 0 = bI (isV (B 501) u bf fl (12 * fl + j) (v + 1)) from by cases hbv : bf.testBit v <;> simp_all [isV, bI]).symm]) ?_
                        refine S_n g 1 (pc' := 125) (lv' := [(0, .ref (ad 500)), (1, .int (nI u)), (2, .int (nI bf)), (3, .int (nI fl)), (4, .int (nI (cnV (B 501) nu u bf fl j))), (5, .int (nI (12 * fl + j))), (6, .int (bI (isV (B 501) u bf fl (12 * fl + j) (v + 1)))), (7, .int ((nI v) + nI 1)), (8, .int (nI 1))]) (st' := []) rfl ?_
                        rw [nI_add v 1]
                        refine S_n g 1 (pc' := 52) (lv' := [(0, .ref (ad 500)), (1, .int (nI u)), (2, .int (nI bf)), (3, .int (nI fl)), (4, .int (nI (cnV (B 501) nu u bf fl j))), (5, .int (nI (12 * fl + j))), (6, .int (bI (isV (B 501) u bf fl (12 * fl + j) (v + 1)))), (7, .int (nI (v + 1))), (8, .int (nI 1))]) (st' := []) rfl ?_
                        refine S_keep (lv' := [(0, .ref (ad 500)), (1, .int (nI u)), (2, .int (nI bf)), (3, .int (nI fl)), (4, .int (nI (cnV (B 501) nu u bf fl j))), (5, .int (nI (12 * fl + j))), (6, .int (bI (isV (B 501) u bf fl (12 * fl + j) (v + 1)))), (7, .int (nI (v + 1)))]) [0, 1, 2, 3, 4, 5, 6, 7] rfl ?_
                        exact lp2 (nu - (v + 1)) (by omega) (v + 1) rfl (by omega)
                      · skip
                        refine S_n g 1 (pc' := 100) (lv' := [(0, .ref (ad 500)), (1, .int (nI u)), (2, .int (nI bf)), (3, .int (nI fl)), (4, .int (nI (cnV (B 501) nu u bf fl j))), (5, .int (nI (12 * fl + j))), (6, .int (bI (isV (B 501) u bf fl (12 * fl + j) v))), (7, .int (nI v)), (8, .int (nI 1))]) (st' := [.ref (ad 500)]) rfl ?_
                        refine S_getR g (i := 500) (c := 9) (k := 0) (j := 501) (by decide) (by decide) rfl rfl rfl fl_X9_7 rfl ?_
                        refine S_n g 3 (pc' := 108) (lv' := [(0, .ref (ad 500)), (1, .int (nI u)), (2, .int (nI bf)), (3, .int (nI fl)), (4, .int (nI (cnV (B 501) nu u bf fl j))), (5, .int (nI (12 * fl + j))), (6, .int (bI (isV (B 501) u bf fl (12 * fl + j) v))), (7, .int (nI v)), (8, .int (nI 1))]) (st' := [.int ((nI 69) + (nI v)), .ref (ad 501)]) rfl ?_
                        rw [nI_add 69 v]
                        refine S_laldN g (i := 501) (e := 69 + v) (by decide) rfl (show 69 + v < 621 from by omega) (show (621 : Nat) < 2 ^ 31 from by decide) rfl ?_
                        refine S_n g 2 (pc' := 111) (lv' := [(0, .ref (ad 500)), (1, .int (nI u)), (2, .int (nI bf)), (3, .int (nI fl)), (4, .int (nI (cnV (B 501) nu u bf fl j))), (5, .int (nI (12 * fl + j))), (6, .int (bI (isV (B 501) u bf fl (12 * fl + j) v))), (7, .int (nI v)), (8, .int (nI 1))]) (st' := [.long (nI fl).toInt64, .long (B 501 (69 + v))]) rfl ?_
                        rw [nI_l (n := fl) (by omega)]
                        refine S_lc_eq g (tgt := 119) rfl rfl (by decide) (fun qz111 => ?_) (fun qz111 => ?_)
                        · skip
                          refine S_n g 2 (pc' := 122) (lv' := [(0, .ref (ad 500)), (1, .int (nI u)), (2, .int (nI bf)), (3, .int (nI fl)), (4, .int (nI (cnV (B 501) nu u bf fl j))), (5, .int (nI (12 * fl + j))), (6, .int (nI 0)), (7, .int (nI v)), (8, .int (nI 1))]) (st' := []) rfl ?_
                          refine S_lveq (lv' := [(0, .ref (ad 500)), (1, .int (nI u)), (2, .int (nI bf)), (3, .int (nI fl)), (4, .int (nI (cnV (B 501) nu u bf fl j))), (5, .int (nI (12 * fl + j))), (6, .int (bI (isV (B 501) u bf fl (12 * fl + j) (v + 1)))), (7, .int (nI v)), (8, .int (nI 1))]) (by rw [(show nI 0 = bI (isV (B 501) u bf fl (12 * fl + j) (v + 1)) from by cases hbv : bf.testBit v <;> simp_all [isV, bI]).symm]) ?_
                          refine S_n g 1 (pc' := 125) (lv' := [(0, .ref (ad 500)), (1, .int (nI u)), (2, .int (nI bf)), (3, .int (nI fl)), (4, .int (nI (cnV (B 501) nu u bf fl j))), (5, .int (nI (12 * fl + j))), (6, .int (bI (isV (B 501) u bf fl (12 * fl + j) (v + 1)))), (7, .int ((nI v) + nI 1)), (8, .int (nI 1))]) (st' := []) rfl ?_
                          rw [nI_add v 1]
                          refine S_n g 1 (pc' := 52) (lv' := [(0, .ref (ad 500)), (1, .int (nI u)), (2, .int (nI bf)), (3, .int (nI fl)), (4, .int (nI (cnV (B 501) nu u bf fl j))), (5, .int (nI (12 * fl + j))), (6, .int (bI (isV (B 501) u bf fl (12 * fl + j) (v + 1)))), (7, .int (nI (v + 1))), (8, .int (nI 1))]) (st' := []) rfl ?_
                          refine S_keep (lv' := [(0, .ref (ad 500)), (1, .int (nI u)), (2, .int (nI bf)), (3, .int (nI fl)), (4, .int (nI (cnV (B 501) nu u bf fl j))), (5, .int (nI (12 * fl + j))), (6, .int (bI (isV (B 501) u bf fl (12 * fl + j) (v + 1)))), (7, .int (nI (v + 1)))]) [0, 1, 2, 3, 4, 5, 6, 7] rfl ?_
                          exact lp2 (nu - (v + 1)) (by omega) (v + 1) rfl (by omega)
                        · skip
                          refine S_n g 3 (pc' := 122) (lv' := [(0, .ref (ad 500)), (1, .int (nI u)), (2, .int (nI bf)), (3, .int (nI fl)), (4, .int (nI (cnV (B 501) nu u bf fl j))), (5, .int (nI (12 * fl + j))), (6, .int (nI 1)), (7, .int (nI v)), (8, .int (nI 1))]) (st' := []) rfl ?_
                          refine S_lveq (lv' := [(0, .ref (ad 500)), (1, .int (nI u)), (2, .int (nI bf)), (3, .int (nI fl)), (4, .int (nI (cnV (B 501) nu u bf fl j))), (5, .int (nI (12 * fl + j))), (6, .int (bI (isV (B 501) u bf fl (12 * fl + j) (v + 1)))), (7, .int (nI v)), (8, .int (nI 1))]) (by rw [(show nI 1 = bI (isV (B 501) u bf fl (12 * fl + j) (v + 1)) from by cases hbv : bf.testBit v <;> simp_all [isV, bI]).symm]) ?_
                          refine S_n g 1 (pc' := 125) (lv' := [(0, .ref (ad 500)), (1, .int (nI u)), (2, .int (nI bf)), (3, .int (nI fl)), (4, .int (nI (cnV (B 501) nu u bf fl j))), (5, .int (nI (12 * fl + j))), (6, .int (bI (isV (B 501) u bf fl (12 * fl + j) (v + 1)))), (7, .int ((nI v) + nI 1)), (8, .int (nI 1))]) (st' := []) rfl ?_
                          rw [nI_add v 1]
                          refine S_n g 1 (pc' := 52) (lv' := [(0, .ref (ad 500)), (1, .int (nI u)), (2, .int (nI bf)), (3, .int (nI fl)), (4, .int (nI (cnV (B 501) nu u bf fl j))), (5, .int (nI (12 * fl + j))), (6, .int (bI (isV (B 501) u bf fl (12 * fl + j) (v + 1)))), (7, .int (nI (v + 1))), (8, .int (nI 1))]) (st' := []) rfl ?_
                          refine S_keep (lv' := [(0, .ref (ad 500)), (1, .int (nI u)), (2, .int (nI bf)), (3, .int (nI fl)), (4, .int (nI (cnV (B 501) nu u bf fl j))), (5, .int (nI (12 * fl + j))), (6, .int (bI (isV (B 501) u bf fl (12 * fl + j) (v + 1)))), (7, .int (nI (v + 1)))]) [0, 1, 2, 3, 4, 5, 6, 7] rfl ?_
                          exact lp2 (nu - (v + 1)) (by omega) (v + 1) rfl (by omega)
          exact lp2 _ 0 rfl (by omega)
        · skip
          refine S_n g 5 (pc' := 52) (lv' := [(0, .ref (ad 500)), (1, .int (nI u)), (2, .int (nI bf)), (3, .int (nI fl)), (4, .int (nI (cnV (B 501) nu u bf fl j))), (5, .int (nI (12 * fl + j))), (6, .int (nI 1)), (7, .int (nI 0))]) (st' := []) rfl ?_
          refine S_lveq (lv' := [(0, .ref (ad 500)), (1, .int (nI u)), (2, .int (nI bf)), (3, .int (nI fl)), (4, .int (nI (cnV (B 501) nu u bf fl j))), (5, .int (nI (12 * fl + j))), (6, .int (bI (isV (B 501) u bf fl (12 * fl + j) 0))), (7, .int (nI 0))]) (by rw [(show nI 1 = bI (isV (B 501) u bf fl (12 * fl + j) 0) from by simp [isV, bI, qz39]).symm]) ?_
          have lp2 : ∀ (nn : Nat) (v : Nat), nu - v = nn → (v ≤ nu) → Sim X (YR ad) 52 [(0, .ref (ad 500)), (1, .int (nI u)), (2, .int (nI bf)), (3, .int (nI fl)), (4, .int (nI (cnV (B 501) nu u bf fl j))), (5, .int (nI (12 * fl + j))), (6, .int (bI (isV (B 501) u bf fl (12 * fl + j) v))), (7, .int (nI v))] [] I J A B 0 0 := by
            intro nn
            induction nn using Nat.strongRecOn with
            | ind nn ih =>
              intro v hmz hv
              have lp2 := ih
              refine S_n g 2 (pc' := 55) (lv' := [(0, .ref (ad 500)), (1, .int (nI u)), (2, .int (nI bf)), (3, .int (nI fl)), (4, .int (nI (cnV (B 501) nu u bf fl j))), (5, .int (nI (12 * fl + j))), (6, .int (bI (isV (B 501) u bf fl (12 * fl + j) v))), (7, .int (nI v))]) (st' := [.ref (ad 500), .int (nI v)]) rfl ?_
              refine S_cV g (i := 500) (As := []) (st := [.int (nI v)]) (sp_users ad I J A B nu hU) mw_X9_users lk_X9_71 ⟨Nat.le_of_ble_eq_true rfl, Nat.le_of_ble_eq_true rfl⟩ (by decide) (by decide) rfl rfl (Nat.le_of_ble_eq_true rfl) ⟨Nat.le_of_ble_eq_true rfl, Nat.le_of_ble_eq_true rfl⟩ rfl ?_
              show Sim X (YR ad) 58 [(0, .ref (ad 500)), (1, .int (nI u)), (2, .int (nI bf)), (3, .int (nI fl)), (4, .int (nI (cnV (B 501) nu u bf fl j))), (5, .int (nI (12 * fl + j))), (6, .int (bI (isV (B 501) u bf fl (12 * fl + j) v))), (7, .int (nI v))] [.int (nI nu), .int (nI v)] I J A B 0 0
              refine S_icN_ge g (tgt := 128) (by omega) (by omega) rfl (by decide) (fun qz58 => ?_) (fun qz58 => ?_)
              · skip
                have hv9 : v = nu := by omega
                refine S_lveq (lv' := [(0, .ref (ad 500)), (1, .int (nI u)), (2, .int (nI bf)), (3, .int (nI fl)), (4, .int (nI (cnV (B 501) nu u bf fl j))), (5, .int (nI (12 * fl + j))), (6, .int (bI (isV (B 501) u bf fl (12 * fl + j) nu))), (7, .int (nI v))]) (by rw [(show bI (isV (B 501) u bf fl (12 * fl + j) v) = bI (isV (B 501) u bf fl (12 * fl + j) nu) from by rw [hv9]).symm]) ?_
                refine S_n g 2 (pc' := 132) (lv' := [(0, .ref (ad 500)), (1, .int (nI u)), (2, .int (nI bf)), (3, .int (nI fl)), (4, .int (nI (cnV (B 501) nu u bf fl j))), (5, .int (nI (12 * fl + j))), (6, .int (bI (isV (B 501) u bf fl (12 * fl + j) nu))), (7, .int (nI v))]) (st' := [.int (bI (isV (B 501) u bf fl (12 * fl + j) nu)), .int (nI (cnV (B 501) nu u bf fl j))]) rfl ?_
                refine S_ifB_eq g (tgt := 139) rfl (by decide) (fun qz132 => ?_) (fun qz132 => ?_)
                · skip
                  refine S_n g 2 (pc' := 141) (lv' := [(0, .ref (ad 500)), (1, .int (nI u)), (2, .int (nI bf)), (3, .int (nI fl)), (4, .int (nI (cnV (B 501) nu u bf fl j))), (5, .int (nI (12 * fl + j))), (6, .int (bI (isV (B 501) u bf fl (12 * fl + j) nu))), (7, .int (nI v))]) (st' := [.int ((nI (cnV (B 501) nu u bf fl j)) + (nI 0))]) rfl ?_
                  rw [nI_add (cnV (B 501) nu u bf fl j) 0]
                  refine S_n g 1 (pc' := 143) (lv' := [(0, .ref (ad 500)), (1, .int (nI u)), (2, .int (nI bf)), (3, .int (nI fl)), (4, .int (nI ((cnV (B 501) nu u bf fl j) + 0))), (5, .int (nI (12 * fl + j))), (6, .int (bI (isV (B 501) u bf fl (12 * fl + j) nu))), (7, .int (nI v))]) (st' := []) rfl ?_
                  refine S_lveq (lv' := [(0, .ref (ad 500)), (1, .int (nI u)), (2, .int (nI bf)), (3, .int (nI fl)), (4, .int (nI (cnV (B 501) nu u bf fl (j + 1)))), (5, .int (nI (12 * fl + j))), (6, .int (bI (isV (B 501) u bf fl (12 * fl + j) nu))), (7, .int (nI v))]) (by rw [(show nI ((cnV (B 501) nu u bf fl j) + 0) = nI (cnV (B 501) nu u bf fl (j + 1)) from by simp [cnV, qz132]).symm]) ?_
                  refine S_n g 1 (pc' := 146) (lv' := [(0, .ref (ad 500)), (1, .int (nI u)), (2, .int (nI bf)), (3, .int (nI fl)), (4, .int (nI (cnV (B 501) nu u bf fl (j + 1)))), (5, .int ((nI (12 * fl + j)) + nI 1)), (6, .int (bI (isV (B 501) u bf fl (12 * fl + j) nu))), (7, .int (nI v))]) (st' := []) rfl ?_
                  rw [nI_add (12 * fl + j) 1]
                  refine S_n g 1 (pc' := 20) (lv' := [(0, .ref (ad 500)), (1, .int (nI u)), (2, .int (nI bf)), (3, .int (nI fl)), (4, .int (nI (cnV (B 501) nu u bf fl (j + 1)))), (5, .int (nI (12 * fl + j + 1))), (6, .int (bI (isV (B 501) u bf fl (12 * fl + j) nu))), (7, .int (nI v))]) (st' := []) rfl ?_
                  refine S_keep (lv' := [(0, .ref (ad 500)), (1, .int (nI u)), (2, .int (nI bf)), (3, .int (nI fl)), (4, .int (nI (cnV (B 501) nu u bf fl (j + 1)))), (5, .int (nI (12 * fl + j + 1)))]) [0, 1, 2, 3, 4, 5] rfl ?_
                  exact lp (12 - (j + 1)) (by omega) (j + 1) rfl (by omega)
                · skip
                  refine S_n g 3 (pc' := 141) (lv' := [(0, .ref (ad 500)), (1, .int (nI u)), (2, .int (nI bf)), (3, .int (nI fl)), (4, .int (nI (cnV (B 501) nu u bf fl j))), (5, .int (nI (12 * fl + j))), (6, .int (bI (isV (B 501) u bf fl (12 * fl + j) nu))), (7, .int (nI v))]) (st' := [.int ((nI (cnV (B 501) nu u bf fl j)) + (nI 1))]) rfl ?_
                  rw [nI_add (cnV (B 501) nu u bf fl j) 1]
                  refine S_n g 1 (pc' := 143) (lv' := [(0, .ref (ad 500)), (1, .int (nI u)), (2, .int (nI bf)), (3, .int (nI fl)), (4, .int (nI ((cnV (B 501) nu u bf fl j) + 1))), (5, .int (nI (12 * fl + j))), (6, .int (bI (isV (B 501) u bf fl (12 * fl + j) nu))), (7, .int (nI v))]) (st' := []) rfl ?_
                  refine S_lveq (lv' := [(0, .ref (ad 500)), (1, .int (nI u)), (2, .int (nI bf)), (3, .int (nI fl)), (4, .int (nI (cnV (B 501) nu u bf fl (j + 1)))), (5, .int (nI (12 * fl + j))), (6, .int (bI (isV (B 501) u bf fl (12 * fl + j) nu))), (7, .int (nI v))]) (by rw [(show nI ((cnV (B 501) nu u bf fl j) + 1) = nI (cnV (B 501) nu u bf fl (j + 1)) from by simp [cnV, qz132]).symm]) ?_
                  refine S_n g 1 (pc' := 146) (lv' := [(0, .ref (ad 500)), (1, .int (nI u)), (2, .int (nI bf)), (3, .int (nI fl)), (4, .int (nI (cnV (B 501) nu u bf fl (j + 1)))), (5, .int ((nI (12 * fl + j)) + nI 1)), (6, .int (bI (isV (B 501) u bf fl (12 * fl + j) nu))), (7, .int (nI v))]) (st' := []) rfl ?_
                  rw [nI_add (12 * fl + j) 1]
                  refine S_n g 1 (pc' := 20) (lv' := [(0, .ref (ad 500)), (1, .int (nI u)), (2, .int (nI bf)), (3, .int (nI fl)), (4, .int (nI (cnV (B 501) nu u bf fl (j + 1)))), (5, .int (nI (12 * fl + j + 1))), (6, .int (bI (isV (B 501) u bf fl (12 * fl + j) nu))), (7, .int (nI v))]) (st' := []) rfl ?_
                  refine S_keep (lv' := [(0, .ref (ad 500)), (1, .int (nI u)), (2, .int (nI bf)), (3, .int (nI fl)), (4, .int (nI (cnV (B 501) nu u bf fl (j + 1)))), (5, .int (nI (12 * fl + j + 1)))]) [0, 1, 2, 3, 4, 5] rfl ?_
                  exact lp (12 - (j + 1)) (by omega) (j + 1) rfl (by omega)
              · skip
                refine S_n g 5 (pc' := 67) (lv' := [(0, .ref (ad 500)), (1, .int (nI u)), (2, .int (nI bf)), (3, .int (nI fl)), (4, .int (nI (cnV (B 501) nu u bf fl j))), (5, .int (nI (12 * fl + j))), (6, .int (bI (isV (B 501) u bf fl (12 * fl + j) v))), (7, .int (nI v))]) (st' := [.int (((nI bf) >>> ((nI v) &&& 31)) &&& (nI 1))]) rfl ?_
                refine S_steq (st' := [.int (nI (bf.testBit v).toNat)]) (by rw [(show ((nI bf) >>> ((nI v) &&& 31)) &&& (nI 1) = nI (bf.testBit v).toNat from bit_nat (by omega)).symm]) ?_
                have hb1 : (bf.testBit v).toNat ≤ 1 := Bool.toNat_le _
                refine S_n g 1 (pc' := 68) (lv' := [(0, .ref (ad 500)), (1, .int (nI u)), (2, .int (nI bf)), (3, .int (nI fl)), (4, .int (nI (cnV (B 501) nu u bf fl j))), (5, .int (nI (12 * fl + j))), (6, .int (bI (isV (B 501) u bf fl (12 * fl + j) v))), (7, .int (nI v))]) (st' := [.int (nI 1), .int (nI (bf.testBit v).toNat)]) rfl ?_
                refine S_icN_ne g (tgt := 75) (by omega) (by omega) rfl (by decide) (fun qz68 => ?_) (fun qz68 => ?_)
                · skip
                  refine S_n g 3 (pc' := 80) (lv' := [(0, .ref (ad 500)), (1, .int (nI u)), (2, .int (nI bf)), (3, .int (nI fl)), (4, .int (nI (cnV (B 501) nu u bf fl j))), (5, .int (nI (12 * fl + j))), (6, .int (bI (isV (B 501) u bf fl (12 * fl + j) v))), (7, .int (nI v)), (8, .int (nI 0))]) (st' := [.int (bI (isV (B 501) u bf fl (12 * fl + j) v))]) rfl ?_
                  refine S_ifB_eq g (tgt := 119) rfl (by decide) (fun qz80 => ?_) (fun qz80 => ?_)
                  · skip
                    refine S_n g 2 (pc' := 122) (lv' := [(0, .ref (ad 500)), (1, .int (nI u)), (2, .int (nI bf)), (3, .int (nI fl)), (4, .int (nI (cnV (B 501) nu u bf fl j))), (5, .int (nI (12 * fl + j))), (6, .int (nI 0)), (7, .int (nI v)), (8, .int (nI 0))]) (st' := []) rfl ?_
                    refine S_lveq (lv' := [(0, .ref (ad 500)), (1, .int (nI u)), (2, .int (nI bf)), (3, .int (nI fl)), (4, .int (nI (cnV (B 501) nu u bf fl j))), (5, .int (nI (12 * fl + j))), (6, .int (bI (isV (B 501) u bf fl (12 * fl + j) (v + 1)))), (7, .int (nI v)), (8, .int (nI 0))]) (by rw [(show nI 0 = bI (isV (B 501) u bf fl (12 * fl + j) (v + 1)) from by cases hbv : bf.testBit v <;> simp_all [isV, bI]).symm]) ?_
                    refine S_n g 1 (pc' := 125) (lv' := [(0, .ref (ad 500)), (1, .int (nI u)), (2, .int (nI bf)), (3, .int (nI fl)), (4, .int (nI (cnV (B 501) nu u bf fl j))), (5, .int (nI (12 * fl + j))), (6, .int (bI (isV (B 501) u bf fl (12 * fl + j) (v + 1)))), (7, .int ((nI v) + nI 1)), (8, .int (nI 0))]) (st' := []) rfl ?_
                    rw [nI_add v 1]
                    refine S_n g 1 (pc' := 52) (lv' := [(0, .ref (ad 500)), (1, .int (nI u)), (2, .int (nI bf)), (3, .int (nI fl)), (4, .int (nI (cnV (B 501) nu u bf fl j))), (5, .int (nI (12 * fl + j))), (6, .int (bI (isV (B 501) u bf fl (12 * fl + j) (v + 1)))), (7, .int (nI (v + 1))), (8, .int (nI 0))]) (st' := []) rfl ?_
                    refine S_keep (lv' := [(0, .ref (ad 500)), (1, .int (nI u)), (2, .int (nI bf)), (3, .int (nI fl)), (4, .int (nI (cnV (B 501) nu u bf fl j))), (5, .int (nI (12 * fl + j))), (6, .int (bI (isV (B 501) u bf fl (12 * fl + j) (v + 1)))), (7, .int (nI (v + 1)))]) [0, 1, 2, 3, 4, 5, 6, 7] rfl ?_
                    exact lp2 (nu - (v + 1)) (by omega) (v + 1) rfl (by omega)
                  · skip
                    refine S_n g 1 (pc' := 85) (lv' := [(0, .ref (ad 500)), (1, .int (nI u)), (2, .int (nI bf)), (3, .int (nI fl)), (4, .int (nI (cnV (B 501) nu u bf fl j))), (5, .int (nI (12 * fl + j))), (6, .int (bI (isV (B 501) u bf fl (12 * fl + j) v))), (7, .int (nI v)), (8, .int (nI 0))]) (st' := [.int (nI 0)]) rfl ?_
                    refine S_ifN_eq g (tgt := 115) (by omega) rfl (by decide) (fun qz85 => ?_) (fun qz85 => ?_)
                    · skip
                      refine S_n g 3 (pc' := 122) (lv' := [(0, .ref (ad 500)), (1, .int (nI u)), (2, .int (nI bf)), (3, .int (nI fl)), (4, .int (nI (cnV (B 501) nu u bf fl j))), (5, .int (nI (12 * fl + j))), (6, .int (nI 1)), (7, .int (nI v)), (8, .int (nI 0))]) (st' := []) rfl ?_
                      refine S_lveq (lv' := [(0, .ref (ad 500)), (1, .int (nI u)), (2, .int (nI bf)), (3, .int (nI fl)), (4, .int (nI (cnV (B 501) nu u bf fl j))), (5, .int (nI (12 * fl + j))), (6, .int (bI (isV (B 501) u bf fl (12 * fl + j) (v + 1)))), (7, .int (nI v)), (8, .int (nI 0))]) (by rw [(show nI 1 = bI (isV (B 501) u bf fl (12 * fl + j) (v + 1)) from by cases hbv : bf.testBit v <;> simp_all [isV, bI]).symm]) ?_
                      refine S_n g 1 (pc' := 125) (lv' := [(0, .ref (ad 500)), (1, .int (nI u)), (2, .int (nI bf)), (3, .int (nI fl)), (4, .int (nI (cnV (B 501) nu u bf fl j))), (5, .int (nI (12 * fl + j))), (6, .int (bI (isV (B 501) u bf fl (12 * fl + j) (v + 1)))), (7, .int ((nI v) + nI 1)), (8, .int (nI 0))]) (st' := []) rfl ?_
                      rw [nI_add v 1]
                      refine S_n g 1 (pc' := 52) (lv' := [(0, .ref (ad 500)), (1, .int (nI u)), (2, .int (nI bf)), (3, .int (nI fl)), (4, .int (nI (cnV (B 501) nu u bf fl j))), (5, .int (nI (12 * fl + j))), (6, .int (bI (isV (B 501) u bf fl (12 * fl + j) (v + 1)))), (7, .int (nI (v + 1))), (8, .int (nI 0))]) (st' := []) rfl ?_
                      refine S_keep (lv' := [(0, .ref (ad 500)), (1, .int (nI u)), (2, .int (nI bf)), (3, .int (nI fl)), (4, .int (nI (cnV (B 501) nu u bf fl j))), (5, .int (nI (12 * fl + j))), (6, .int (bI (isV (B 501) u bf fl (12 * fl + j) (v + 1)))), (7, .int (nI (v + 1)))]) [0, 1, 2, 3, 4, 5, 6, 7] rfl ?_
                      exact lp2 (nu - (v + 1)) (by omega) (v + 1) rfl (by omega)
                    · skip
                      exact absurd qz85 (by decide)
                · skip
                  refine S_n g 4 (pc' := 80) (lv' := [(0, .ref (ad 500)), (1, .int (nI u)), (2, .int (nI bf)), (3, .int (nI fl)), (4, .int (nI (cnV (B 501) nu u bf fl j))), (5, .int (nI (12 * fl + j))), (6, .int (bI (isV (B 501) u bf fl (12 * fl + j) v))), (7, .int (nI v)), (8, .int (nI 1))]) (st' := [.int (bI (isV (B 501) u bf fl (12 * fl + j) v))]) rfl ?_
                  refine S_ifB_eq g (tgt := 119) rfl (by decide) (fun qz80 => ?_) (fun qz80 => ?_)
                  · skip
                    refine S_n g 2 (pc' := 122) (lv' := [(0, .ref (ad 500)), (1, .int (nI u)), (2, .int (nI bf)), (3, .int (nI fl)), (4, .int (nI (cnV (B 501) nu u bf fl j))), (5, .int (nI (12 * fl + j))), (6, .int (nI 0)), (7, .int (nI v)), (8, .int (nI 1))]) (st' := []) rfl ?_
                    refine S_lveq (lv' := [(0, .ref (ad 500)), (1, .int (nI u)), (2, .int (nI bf)), (3, .int (nI fl)), (4, .int (nI (cnV (B 501) nu u bf fl j))), (5, .int (nI (12 * fl + j))), (6, .int (bI (isV (B 501) u bf fl (12 * fl + j) (v + 1)))), (7, .int (nI v)), (8, .int (nI 1))]) (by rw [(show nI 0 = bI (isV (B 501) u bf fl (12 * fl + j) (v + 1)) from by cases hbv : bf.testBit v <;> simp_all [isV, bI]).symm]) ?_
                    refine S_n g 1 (pc' := 125) (lv' := [(0, .ref (ad 500)), (1, .int (nI u)), (2, .int (nI bf)), (3, .int (nI fl)), (4, .int (nI (cnV (B 501) nu u bf fl j))), (5, .int (nI (12 * fl + j))), (6, .int (bI (isV (B 501) u bf fl (12 * fl + j) (v + 1)))), (7, .int ((nI v) + nI 1)), (8, .int (nI 1))]) (st' := []) rfl ?_
                    rw [nI_add v 1]
                    refine S_n g 1 (pc' := 52) (lv' := [(0, .ref (ad 500)), (1, .int (nI u)), (2, .int (nI bf)), (3, .int (nI fl)), (4, .int (nI (cnV (B 501) nu u bf fl j))), (5, .int (nI (12 * fl + j))), (6, .int (bI (isV (B 501) u bf fl (12 * fl + j) (v + 1)))), (7, .int (nI (v + 1))), (8, .int (nI 1))]) (st' := []) rfl ?_
                    refine S_keep (lv' := [(0, .ref (ad 500)), (1, .int (nI u)), (2, .int (nI bf)), (3, .int (nI fl)), (4, .int (nI (cnV (B 501) nu u bf fl j))), (5, .int (nI (12 * fl + j))), (6, .int (bI (isV (B 501) u bf fl (12 * fl + j) (v + 1)))), (7, .int (nI (v + 1)))]) [0, 1, 2, 3, 4, 5, 6, 7] rfl ?_
                    exact lp2 (nu - (v + 1)) (by omega) (v + 1) rfl (by omega)
                  · skip
                    refine S_n g 1 (pc' := 85) (lv' := [(0, .ref (ad 500)), (1, .int (nI u)), (2, .int (nI bf)), (3, .int (nI fl)), (4, .int (nI (cnV (B 501) nu u bf fl j))), (5, .int (nI (12 * fl + j))), (6, .int (bI (isV (B 501) u bf fl (12 * fl + j) v))), (7, .int (nI v)), (8, .int (nI 1))]) (st' := [.int (nI 1)]) rfl ?_
                    refine S_ifN_eq g (tgt := 115) (by omega) rfl (by decide) (fun qz85 => ?_) (fun qz85 => ?_)
                    · skip
                      exact absurd qz85 (by decide)
                    · skip
                      refine S_n g 3 (pc' := 93) (lv' := [(0, .ref (ad 500)), (1, .int (nI u)), (2, .int (nI bf)), (3, .int (nI fl)), (4, .int (nI (cnV (B 501) nu u bf fl j))), (5, .int (nI (12 * fl + j))), (6, .int (bI (isV (B 501) u bf fl (12 * fl + j) v))), (7, .int (nI v)), (8, .int (nI 1))]) (st' := [.int (nI (12 * fl + j)), .int (nI v), .ref (ad 500)]) rfl ?_
                      refine S_cV g (i := 500) (As := [.int (nI v), .int (nI (12 * fl + j))]) (st := []) (sp_has ad I J A B v (12 * fl + j) (by omega) (by omega)) mw_X9_has lk_X9_87 ⟨Nat.le_of_ble_eq_true rfl, Nat.le_of_ble_eq_true rfl⟩ (by decide) (by decide) rfl rfl (Nat.le_of_ble_eq_true rfl) ⟨Nat.le_of_ble_eq_true rfl, Nat.le_of_ble_eq_true rfl⟩ rfl ?_
                      show Sim X (YR ad) 96 [(0, .ref (ad 500)), (1, .int (nI u)), (2, .int (nI bf)), (3, .int (nI fl)), (4, .int (nI (cnV (B 501) nu u bf fl j))), (5, .int (nI (12 * fl + j))), (6, .int (bI (isV (B 501) u bf fl (12 * fl + j) v))), (7, .int (nI v)), (8, .int (nI 1))] [.int (bI (tb (B 501 (63 + v)) (12 * fl + j)))] I J A B 0 0
                      refine S_ifB_ne g (tgt := 119) rfl (by decide) (fun qz96 => ?_) (fun qz96 => ?_)
                      · skip
                        refine S_n g 2 (pc' := 122) (lv' := [(0, .ref (ad 500)), (1, .int (nI u)), (2, .int (nI bf)), (3, .int (nI fl)), (4, .int (nI (cnV (B 501) nu u bf fl j))), (5, .int (nI (12 * fl + j))), (6, .int (nI 0)), (7, .int (nI v)), (8, .int (nI 1))]) (st' := []) rfl ?_
                        refine S_lveq (lv' := [(0, .ref (ad 500)), (1, .int (nI u)), (2, .int (nI bf)), (3, .int (nI fl)), (4, .int (nI (cnV (B 501) nu u bf fl j))), (5, .int (nI (12 * fl + j))), (6, .int (bI (isV (B 501) u bf fl (12 * fl + j) (v + 1)))), (7, .int (nI v)), (8, .int (nI 1))]) (by rw [(show nI 0 = bI (isV (B 501) u bf fl (12 * fl + j) (v + 1)) from by cases hbv : bf.testBit v <;> simp_all [isV, bI]).symm]) ?_
                        refine S_n g 1 (pc' := 125) (lv' := [(0, .ref (ad 500)), (1, .int (nI u)), (2, .int (nI bf)), (3, .int (nI fl)), (4, .int (nI (cnV (B 501) nu u bf fl j))), (5, .int (nI (12 * fl + j))), (6, .int (bI (isV (B 501) u bf fl (12 * fl + j) (v + 1)))), (7, .int ((nI v) + nI 1)), (8, .int (nI 1))]) (st' := []) rfl ?_
                        rw [nI_add v 1]
                        refine S_n g 1 (pc' := 52) (lv' := [(0, .ref (ad 500)), (1, .int (nI u)), (2, .int (nI bf)), (3, .int (nI fl)), (4, .int (nI (cnV (B 501) nu u bf fl j))), (5, .int (nI (12 * fl + j))), (6, .int (bI (isV (B 501) u bf fl (12 * fl + j) (v + 1)))), (7, .int (nI (v + 1))), (8, .int (nI 1))]) (st' := []) rfl ?_
                        refine S_keep (lv' := [(0, .ref (ad 500)), (1, .int (nI u)), (2, .int (nI bf)), (3, .int (nI fl)), (4, .int (nI (cnV (B 501) nu u bf fl j))), (5, .int (nI (12 * fl + j))), (6, .int (bI (isV (B 501) u bf fl (12 * fl + j) (v + 1)))), (7, .int (nI (v + 1)))]) [0, 1, 2, 3, 4, 5, 6, 7] rfl ?_
                        exact lp2 (nu - (v + 1)) (by omega) (v + 1) rfl (by omega)
                      · skip
                        refine S_n g 1 (pc' := 100) (lv' := [(0, .ref (ad 500)), (1, .int (nI u)), (2, .int (nI bf)), (3, .int (nI fl)), (4, .int (nI (cnV (B 501) nu u bf fl j))), (5, .int (nI (12 * fl + j))), (6, .int (bI (isV (B 501) u bf fl (12 * fl + j) v))), (7, .int (nI v)), (8, .int (nI 1))]) (st' := [.ref (ad 500)]) rfl ?_
                        refine S_getR g (i := 500) (c := 9) (k := 0) (j := 501) (by decide) (by decide) rfl rfl rfl fl_X9_7 rfl ?_
                        refine S_n g 3 (pc' := 108) (lv' := [(0, .ref (ad 500)), (1, .int (nI u)), (2, .int (nI bf)), (3, .int (nI fl)), (4, .int (nI (cnV (B 501) nu u bf fl j))), (5, .int (nI (12 * fl + j))), (6, .int (bI (isV (B 501) u bf fl (12 * fl + j) v))), (7, .int (nI v)), (8, .int (nI 1))]) (st' := [.int ((nI 69) + (nI v)), .ref (ad 501)]) rfl ?_
                        rw [nI_add 69 v]
                        refine S_laldN g (i := 501) (e := 69 + v) (by decide) rfl (show 69 + v < 621 from by omega) (show (621 : Nat) < 2 ^ 31 from by decide) rfl ?_
                        refine S_n g 2 (pc' := 111) (lv' := [(0, .ref (ad 500)), (1, .int (nI u)), (2, .int (nI bf)), (3, .int (nI fl)), (4, .int (nI (cnV (B 501) nu u bf fl j))), (5, .int (nI (12 * fl + j))), (6, .int (bI (isV (B 501) u bf fl (12 * fl + j) v))), (7, .int (nI v)), (8, .int (nI 1))]) (st' := [.long (nI fl).toInt64, .long (B 501 (69 + v))]) rfl ?_
                        rw [nI_l (n := fl) (by omega)]
                        refine S_lc_eq g (tgt := 119) rfl rfl (by decide) (fun qz111 => ?_) (fun qz111 => ?_)
                        · skip
                          refine S_n g 2 (pc' := 122) (lv' := [(0, .ref (ad 500)), (1, .int (nI u)), (2, .int (nI bf)), (3, .int (nI fl)), (4, .int (nI (cnV (B 501) nu u bf fl j))), (5, .int (nI (12 * fl + j))), (6, .int (nI 0)), (7, .int (nI v)), (8, .int (nI 1))]) (st' := []) rfl ?_
                          refine S_lveq (lv' := [(0, .ref (ad 500)), (1, .int (nI u)), (2, .int (nI bf)), (3, .int (nI fl)), (4, .int (nI (cnV (B 501) nu u bf fl j))), (5, .int (nI (12 * fl + j))), (6, .int (bI (isV (B 501) u bf fl (12 * fl + j) (v + 1)))), (7, .int (nI v)), (8, .int (nI 1))]) (by rw [(show nI 0 = bI (isV (B 501) u bf fl (12 * fl + j) (v + 1)) from by cases hbv : bf.testBit v <;> simp_all [isV, bI]).symm]) ?_
                          refine S_n g 1 (pc' := 125) (lv' := [(0, .ref (ad 500)), (1, .int (nI u)), (2, .int (nI bf)), (3, .int (nI fl)), (4, .int (nI (cnV (B 501) nu u bf fl j))), (5, .int (nI (12 * fl + j))), (6, .int (bI (isV (B 501) u bf fl (12 * fl + j) (v + 1)))), (7, .int ((nI v) + nI 1)), (8, .int (nI 1))]) (st' := []) rfl ?_
                          rw [nI_add v 1]
                          refine S_n g 1 (pc' := 52) (lv' := [(0, .ref (ad 500)), (1, .int (nI u)), (2, .int (nI bf)), (3, .int (nI fl)), (4, .int (nI (cnV (B 501) nu u bf fl j))), (5, .int (nI (12 * fl + j))), (6, .int (bI (isV (B 501) u bf fl (12 * fl + j) (v + 1)))), (7, .int (nI (v + 1))), (8, .int (nI 1))]) (st' := []) rfl ?_
                          refine S_keep (lv' := [(0, .ref (ad 500)), (1, .int (nI u)), (2, .int (nI bf)), (3, .int (nI fl)), (4, .int (nI (cnV (B 501) nu u bf fl j))), (5, .int (nI (12 * fl + j))), (6, .int (bI (isV (B 501) u bf fl (12 * fl + j) (v + 1)))), (7, .int (nI (v + 1)))]) [0, 1, 2, 3, 4, 5, 6, 7] rfl ?_
                          exact lp2 (nu - (v + 1)) (by omega) (v + 1) rfl (by omega)
                        · skip
                          refine S_n g 3 (pc' := 122) (lv' := [(0, .ref (ad 500)), (1, .int (nI u)), (2, .int (nI bf)), (3, .int (nI fl)), (4, .int (nI (cnV (B 501) nu u bf fl j))), (5, .int (nI (12 * fl + j))), (6, .int (nI 1)), (7, .int (nI v)), (8, .int (nI 1))]) (st' := []) rfl ?_
                          refine S_lveq (lv' := [(0, .ref (ad 500)), (1, .int (nI u)), (2, .int (nI bf)), (3, .int (nI fl)), (4, .int (nI (cnV (B 501) nu u bf fl j))), (5, .int (nI (12 * fl + j))), (6, .int (bI (isV (B 501) u bf fl (12 * fl + j) (v + 1)))), (7, .int (nI v)), (8, .int (nI 1))]) (by rw [(show nI 1 = bI (isV (B 501) u bf fl (12 * fl + j) (v + 1)) from by cases hbv : bf.testBit v <;> simp_all [isV, bI]).symm]) ?_
                          refine S_n g 1 (pc' := 125) (lv' := [(0, .ref (ad 500)), (1, .int (nI u)), (2, .int (nI bf)), (3, .int (nI fl)), (4, .int (nI (cnV (B 501) nu u bf fl j))), (5, .int (nI (12 * fl + j))), (6, .int (bI (isV (B 501) u bf fl (12 * fl + j) (v + 1)))), (7, .int ((nI v) + nI 1)), (8, .int (nI 1))]) (st' := []) rfl ?_
                          rw [nI_add v 1]
                          refine S_n g 1 (pc' := 52) (lv' := [(0, .ref (ad 500)), (1, .int (nI u)), (2, .int (nI bf)), (3, .int (nI fl)), (4, .int (nI (cnV (B 501) nu u bf fl j))), (5, .int (nI (12 * fl + j))), (6, .int (bI (isV (B 501) u bf fl (12 * fl + j) (v + 1)))), (7, .int (nI (v + 1))), (8, .int (nI 1))]) (st' := []) rfl ?_
                          refine S_keep (lv' := [(0, .ref (ad 500)), (1, .int (nI u)), (2, .int (nI bf)), (3, .int (nI fl)), (4, .int (nI (cnV (B 501) nu u bf fl j))), (5, .int (nI (12 * fl + j))), (6, .int (bI (isV (B 501) u bf fl (12 * fl + j) (v + 1)))), (7, .int (nI (v + 1)))]) [0, 1, 2, 3, 4, 5, 6, 7] rfl ?_
                          exact lp2 (nu - (v + 1)) (by omega) (v + 1) rfl (by omega)
          exact lp2 _ 0 rfl (by omega)
  exact lp _ 0 rfl (by omega)

/-- the best so far for a set s, over its members below u, by a table b of the smaller sets -/
def bmx (m : Nat → Int64) (nu : Nat) (b : Nat → Nat) (s : Nat) : Nat → Nat
  | 0 => 0
  | u + 1 => if s.testBit u = true then (if bmx m nu b s u < b (sdf s (2 ^ u)) + cnV m nu u (sdf s (2 ^ u)) (m (69 + u)).toInt.toNat 12 then b (sdf s (2 ^ u)) + cnV m nu u (sdf s (2 ^ u)) (m (69 + u)).toInt.toNat 12 else bmx m nu b s u) else bmx m nu b s u
/-- b is the table of all sets of demanding users, below n -/
def isBst (m : Nat → Int64) (nu all : Nat) (b : Nat → Nat) (n : Nat) : Prop := ∀ s, s < n → b s = if sdf s all = 0 then bmx m nu b s nu else 0
theorem bmx_cong {m : Nat → Int64} {nu : Nat} {b c : Nat → Nat} {s : Nat} (hs : s < 64) (h : ∀ r, r < s → b r = c r) : ∀ u, u ≤ 6 → bmx m nu b s u = bmx m nu c s u
  | 0, _ => rfl
  | u + 1, hu => by
    have ih := bmx_cong hs h u (by omega)
    unfold bmx
    split
    · rename_i ht
      have hlt : sdf s (2 ^ u) < s := by
        have h1 : sdf s (2 ^ u) ≤ s := Nat.and_le_left
        have h2 : sdf s (2 ^ u) ≠ s := fun q => by rw [(sdf_self hs).mp q] at ht; cases ht
        omega
      rw [ih, h _ hlt]
    · exact ih
theorem bmx_le {m : Nat → Int64} {nu : Nat} {b : Nat → Nat} {s : Nat} (hb : ∀ r, r < 64 → b r ≤ 12 * r) (hs : s < 64) : ∀ u, u ≤ 6 → bmx m nu b s u ≤ 12 * s
  | 0, _ => Nat.zero_le _
  | u + 1, hu => by
    have ih := bmx_le hb hs u (by omega)
    unfold bmx
    split
    · rename_i ht
      have h1 : sdf s (2 ^ u) ≤ s := Nat.and_le_left
      have h2 : sdf s (2 ^ u) ≠ s := fun q => by rw [(sdf_self hs).mp q] at ht; cases ht
      have h3 := hb (sdf s (2 ^ u)) (by omega)
      have h4 := cnV_le m nu u (sdf s (2 ^ u)) (m (69 + u)).toInt.toNat 12
      split <;> omega
    · exact ih
