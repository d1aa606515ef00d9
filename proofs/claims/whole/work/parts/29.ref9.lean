/-! the reference, part 9: demanding, counts, bound -/
def dmN (m : Nat → Int64) : Nat → Nat
  | 0 => 0
  | k + 1 => if m (69 + k) = -lN 1 then dmN m k else dmN m k ||| 2 ^ k
theorem dmN_lt (m : Nat → Int64) : ∀ k, k ≤ 6 → dmN m k < 64
  | 0, _ => by show 0 < 64; decide
  | k + 1, h => by
    have := dmN_lt m k (by omega)
    unfold dmN
    split
    · exact this
    · exact or_lt this (by omega)
theorem dmN_bit (m : Nat → Int64) : ∀ k u, (dmN m k).testBit u = (decide (u < k) && decide (m (69 + u) ≠ -lN 1))
  | 0, u => by simp [dmN]
  | k + 1, u => by
    have ih := dmN_bit m k u
    unfold dmN
    by_cases e : u = k
    · subst e
      split
      · rename_i h
        rw [ih]; simp [h]
      · rename_i h
        rw [Nat.testBit_or, ih, Nat.testBit_two_pow]; simp [h]
    · have e1 : decide (u < k + 1) = decide (u < k) := by
        by_cases h : u < k
        · rw [decide_eq_true h, decide_eq_true]; omega
        · rw [decide_eq_false h, decide_eq_false]; omega
      split
      · rw [ih, e1]
      · rw [Nat.testBit_or, ih, Nat.testBit_two_pow, e1]
        simp [Ne.symm e]

set_option maxRecDepth 100000 in
set_option maxHeartbeats 4000000 in
theorem sp_demanding (ad : Nat → Nat) (I : FI) (J : FJ) (A : FI) (B : FJ) (nu : Nat) (hU : B 501 1 = lN nu) (h2 : nu ≤ 6) : Spec M_X9_demanding [.ref (ad 500)] (YR ad) I J A B (eqP (some (.int (nI (dmN (B 501) nu)))) (YR ad) I J A B) := by
  refine Spec_of (by decide) tk_X9_demanding (Nat.le_of_ble_eq_true rfl) (fun X g rt => ?_)
  show Sim X (YR ad) 0 [(0, .ref (ad 500))] [] I J A B 0 0
  refine S_n g 4 (pc' := 4) (lv' := [(0, .ref (ad 500)), (1, .int (nI 0)), (2, .int (nI 0))]) (st' := []) rfl ?_
  have lp : ∀ (nn : Nat) (k : Nat), nu - k = nn → (k ≤ nu) → Sim X (YR ad) 4 [(0, .ref (ad 500)), (1, .int (nI (dmN (B 501) k))), (2, .int (nI k))] [] I J A B 0 0 := by
    intro nn
    induction nn using Nat.strongRecOn with
    | ind nn ih =>
      intro k hmz hk
      have lp := ih
      refine S_n g 2 (pc' := 6) (lv' := [(0, .ref (ad 500)), (1, .int (nI (dmN (B 501) k))), (2, .int (nI k))]) (st' := [.ref (ad 500), .int (nI k)]) rfl ?_
      refine S_cV g (i := 500) (As := []) (st := [.int (nI k)]) (sp_users ad I J A B nu hU) mw_X9_users lk_X9_71 ⟨Nat.le_of_ble_eq_true rfl, Nat.le_of_ble_eq_true rfl⟩ (by decide) (by decide) rfl rfl (Nat.le_of_ble_eq_true rfl) ⟨Nat.le_of_ble_eq_true rfl, Nat.le_of_ble_eq_true rfl⟩ rfl ?_
      show Sim X (YR ad) 9 [(0, .ref (ad 500)), (1, .int (nI (dmN (B 501) k))), (2, .int (nI k))] [.int (nI nu), .int (nI k)] I J A B 0 0
      refine S_icN_ge g (tgt := 44) (by omega) (by omega) rfl (by decide) (fun qz9 => ?_) (fun qz9 => ?_)
      · skip
        have hk9 : k = nu := by omega
        refine S_n g 1 (pc' := 45) (lv' := [(0, .ref (ad 500)), (1, .int (nI (dmN (B 501) k))), (2, .int (nI k))]) (st' := [.int (nI (dmN (B 501) k))]) rfl ?_
        exact rtI rt rfl rfl (by rw [hk9]; exact eqP_rf)
      · skip
        refine S_n g 2 (pc' := 14) (lv' := [(0, .ref (ad 500)), (1, .int (nI (dmN (B 501) k))), (2, .int (nI k))]) (st' := [.ref (ad 500), .int (nI (dmN (B 501) k))]) rfl ?_
        refine S_getR g (i := 500) (c := 9) (k := 0) (j := 501) (by decide) (by decide) rfl rfl rfl fl_X9_7 rfl ?_
        refine S_n g 3 (pc' := 21) (lv' := [(0, .ref (ad 500)), (1, .int (nI (dmN (B 501) k))), (2, .int (nI k))]) (st' := [.int ((nI 69) + (nI k)), .ref (ad 501), .int (nI (dmN (B 501) k))]) rfl ?_
        rw [nI_add 69 k]
        refine S_laldN g (i := 501) (e := 69 + k) (by decide) rfl (show 69 + k < 621 from by omega) (show (621 : Nat) < 2 ^ 31 from by decide) rfl ?_
        refine S_ldc2 g kc_X9_59 rfl ?_
        refine S_lc_ne g (tgt := 33) rfl rfl (by decide) (fun qz25 => ?_) (fun qz25 => ?_)
        · skip
          refine S_n g 5 (pc' := 38) (lv' := [(0, .ref (ad 500)), (1, .int ((nI (dmN (B 501) k)) ||| ((nI 1) <<< ((nI k) &&& 31)))), (2, .int (nI k))]) (st' := []) rfl ?_
          refine S_lveq (lv' := [(0, .ref (ad 500)), (1, .int (nI (dmN (B 501) (k + 1)))), (2, .int (nI k))]) (by rw [(show (nI (dmN (B 501) k)) ||| ((nI 1) <<< ((nI k) &&& 31)) = nI (dmN (B 501) (k + 1)) from by rw [dmN, if_neg qz25, ← nI_or, ← i1_nI (by omega)]).symm]) ?_
          refine S_n g 1 (pc' := 41) (lv' := [(0, .ref (ad 500)), (1, .int (nI (dmN (B 501) (k + 1)))), (2, .int ((nI k) + nI 1))]) (st' := []) rfl ?_
          rw [nI_add k 1]
          refine S_n g 1 (pc' := 4) (lv' := [(0, .ref (ad 500)), (1, .int (nI (dmN (B 501) (k + 1)))), (2, .int (nI (k + 1)))]) (st' := []) rfl ?_
          exact lp (nu - (k + 1)) (by omega) (k + 1) rfl (by omega)
        · skip
          refine S_n g 4 (pc' := 38) (lv' := [(0, .ref (ad 500)), (1, .int ((nI (dmN (B 501) k)) ||| (nI 0))), (2, .int (nI k))]) (st' := []) rfl ?_
          refine S_lveq (lv' := [(0, .ref (ad 500)), (1, .int (nI (dmN (B 501) (k + 1)))), (2, .int (nI k))]) (by rw [(show (nI (dmN (B 501) k)) ||| (nI 0) = nI (dmN (B 501) (k + 1)) from by rw [dmN, if_pos qz25, nI_or, Nat.or_zero]).symm]) ?_
          refine S_n g 1 (pc' := 41) (lv' := [(0, .ref (ad 500)), (1, .int (nI (dmN (B 501) (k + 1)))), (2, .int ((nI k) + nI 1))]) (st' := []) rfl ?_
          rw [nI_add k 1]
          refine S_n g 1 (pc' := 4) (lv' := [(0, .ref (ad 500)), (1, .int (nI (dmN (B 501) (k + 1)))), (2, .int (nI (k + 1)))]) (st' := []) rfl ?_
          exact lp (nu - (k + 1)) (by omega) (k + 1) rfl (by omega)
  exact lp _ 0 rfl (by omega)

/-- piece p counts for u, looked at among the users below v -/
def isV (m : Nat → Int64) (u bf fl p : Nat) : Nat → Bool
  | 0 => !tb (m (63 + u)) p
  | v + 1 => isV m u bf fl p v && !(bf.testBit v && (tb (m (63 + v)) p || decide (m (69 + v) = lN fl)))
def cnV (m : Nat → Int64) (nu u bf fl : Nat) : Nat → Nat
  | 0 => 0
  | j + 1 => cnV m nu u bf fl j + (isV m u bf fl (12 * fl + j) nu).toNat
theorem cnV_le (m : Nat → Int64) (nu u bf fl : Nat) : ∀ k, cnV m nu u bf fl k ≤ k
  | 0 => Nat.le_refl 0
  | k + 1 => by
    have := cnV_le m nu u bf fl k
    have := Bool.toNat_le (isV m u bf fl (12 * fl + k) nu)
    unfold cnV
    omega

set_option maxRecDepth 100000 in
set_option maxHeartbeats 4000000 in
theorem sp_counts (ad : Nat → Nat) (I : FI) (J : FJ) (A : FI) (B : FJ) (u bf nu fl : Nat) (hU : B 501 1 = lN nu) (h2 : nu ≤ 6) (hu : u < 6) (hb : bf < 64) (hWf : B 501 (69 + u) = lN fl) (hfl : fl < 5) : Spec M_X9_counts [.ref (ad 500), .int (nI u), .int (nI bf)] (YR ad) I J A B (eqP (some (.int (nI (cnV (B 501) nu u bf fl 12)))) (YR ad) I J A B) := by
  refine Spec_of (by decide) tk_X9_counts (Nat.le_of_ble_eq_true rfl) (fun X g rt => ?_)
  show Sim X (YR ad) 0 [(0, .ref (ad 500)), (1, .int (nI u)), (2, .int (nI bf))] [] I J A B 0 0
  refine S_n g 1 (pc' := 1) (lv' := [(0, .ref (ad 500)), (1, .int (nI u)), (2, .int (nI bf))]) (st' := [.ref (ad 500)]) rfl ?_
  refine S_getR g (i := 500) (c := 9) (k := 0) (j := 501) (by decide) (by decide) rfl rfl rfl fl_X9_7 rfl ?_
  refine S_n g 3 (pc' := 8) (lv' := [(0, .ref (ad 500)), (1, .int (nI u)), (2, .int (nI bf))]) (st' := [.int ((nI 69) + (nI u)), .ref (ad 501)]) rfl ?_
  rw [nI_add 69 u]
  refine S_laldN g (i := 501) (e := 69 + u) (by decide) rfl (show 69 + u < 621 from by omega) (show (621 : Nat) < 2 ^ 31 from by decide) rfl ?_
  rw [hWf]
  refine S_n g 1 (pc' := 10) (lv' := [(0, .ref (ad 500)), (1, .int (nI u)), (2, .int (nI bf))]) (st' := [.int (lN fl).toInt32]) rfl ?_
  rw [lN_i fl]
  refine S_n g 6 (pc' := 18) (lv' := [(0, .ref (ad 500)), (1, .int (nI u)), (2, .int (nI bf)), (3, .int (nI fl)), (4, .int (nI 0))]) (st' := [.int ((nI 12) * (nI fl))]) rfl ?_
  rw [pk_mul 12 fl]
  refine S_n g 1 (pc' := 20) (lv' := [(0, .ref (ad 500)), (1, .int (nI u)), (2, .int (nI bf)), (3, .int (nI fl)), (4, .int (nI 0)), (5, .int (nI (12 * fl)))]) (st' := []) rfl ?_
  have lp : ∀ (nn : Nat) (j : Nat), 12 - j = nn → (j ≤ 12) → Sim X (YR ad) 20 [(0, .ref (ad 500)), (1, .int (nI u)), (2, .int (nI bf)), (3, .int (nI fl)), (4, .int (nI (cnV (B 501) nu u bf fl j))), (5, .int (nI (12 * fl + j)))] [] I J A B 0 0 := by
    intro nn
    induction nn using Nat.strongRecOn with
    | ind nn ih =>
      intro j hmz hj
      have lp := ih
      have hcn := cnV_le (B 501) nu u bf fl j
      refine S_n g 4 (pc' := 26) (lv' := [(0, .ref (ad 500)), (1, .int (nI u)), (2, .int (nI bf)), (3, .int (nI fl)), (4, .int (nI (cnV (B 501) nu u bf fl j))), (5, .int (nI (12 * fl + j)))]) (st' := [.int ((nI 12) * (nI fl)), .int (nI (12 * fl + j))]) rfl ?_
      rw [pk_mul 12 fl]
      refine S_n g 2 (pc' := 29) (lv' := [(0, .ref (ad 500)), (1, .int (nI u)), (2, .int (nI bf)), (3, .int (nI fl)), (4, .int (nI (cnV (B 501) nu u bf fl j))), (5, .int (nI (12 * fl + j)))]) (st' := [.int ((nI (12 * fl)) + (nI 12)), .int (nI (12 * fl + j))]) rfl ?_
      rw [nI_add (12 * fl) 12]
      refine S_icN_ge g (tgt := 149) (by omega) (by omega) rfl (by decide) (fun qz29 => ?_) (fun qz29 => ?_)
      · skip
        have hj9 : j = 12 := by omega
        refine S_n g 1 (pc' := 151) (lv' := [(0, .ref (ad 500)), (1, .int (nI u)), (2, .int (nI bf)), (3, .int (nI fl)), (4, .int (nI (cnV (B 501) nu u bf fl j))), (5, .int (nI (12 * fl + j)))]) (st' := [.int (nI (cnV (B 501) nu u bf fl j))]) rfl ?_
        exact rtI rt rfl rfl (by rw [hj9]; exact eqP_rf)
      · skip
        refine S_n g 3 (pc' := 36) (lv' := [(0, .ref (ad 500)), (1, .int (nI u)), (2, .int (nI bf)), (3, .int (nI fl)), (4, .int (nI (cnV (B 501) nu u bf fl j))), (5, .int (nI (12 * fl + j)))]) (st' := [.int (nI (12 * fl + j)), .int (nI u), .ref (ad 500)]) rfl ?_
        refine S_cV g (i := 500) (As := [.int (nI u), .int (nI (12 * fl + j))]) (st := []) (sp_has ad I J A B u (12 * fl + j) (by omega) (by omega)) mw_X9_has lk_X9_87 ⟨Nat.le_of_ble_eq_true rfl, Nat.le_of_ble_eq_true rfl⟩ (by decide) (by decide) rfl rfl (Nat.le_of_ble_eq_true rfl) ⟨Nat.le_of_ble_eq_true rfl, Nat.le_of_ble_eq_true rfl⟩ rfl ?_
        show Sim X (YR ad) 39 [(0, .ref (ad 500)), (1, .int (nI u)), (2, .int (nI bf)), (3, .int (nI fl)), (4, .int (nI (cnV (B 501) nu u bf fl j))), (5, .int (nI (12 * fl + j)))] [.int (bI (tb (B 501 (63 + u)) (12 * fl + j)))] I J A B 0 0
        refine S_ifB_ne g (tgt := 46) rfl (by decide) (fun qz39 => ?_) (fun qz39 => ?_)
        · skip
          refine S_n g 4 (pc' := 52) (lv' := [(0, .ref (ad 500)), (1, .int (nI u)), (2, .int (nI bf)), (3, .int (nI fl)), (4, .int (nI (cnV (B 501) nu u bf fl j))), (5, .int (nI (12 * fl + j))), (6, .int (nI 0)), (7, .int (nI 0))]) (st' := []) rfl ?_
          refine S_lveq (lv' := [(0, .ref (ad 500)), (1, .int (nI u)), (2, .int (nI bf)), (3, .int (nI fl)), (4, .int (nI (cnV (B 501) nu u bf fl j))), (5, .int (nI (12 * fl + j))), (6, .int (bI (isV (B 501) u bf fl (12 * fl + j) 0))), (7, .int (nI 0))]) (by rw [(show nI 0 = bI (isV (B 501) u bf fl (12 * fl + j) 0) from by simp [isV, bI, qz39]).symm]) ?_
          have lp2 : ∀ (nn : Nat) (v : Nat), nu - v = nn → (v ≤ nu) → Sim X (YR ad) 52 [(0, .ref (ad 500)), (1, .int (nI u)), (2, .int (nI bf)), (3, .int (nI fl)), (4, .int (nI (cnV (B 501) nu u bf fl j))), (5, .int (nI (12 * fl + j))), (6, .int (bI (isV (B 501) u bf fl (12 * fl + j) v))), (7, .int (nI v))] [] I J A B 0 0 := by
            intro nn
            induction nn using Nat.strongRecOn with
            | ind nn ih =>
              intro v hmz hv
              have lp2 := ih
              refine S_n g 2 (pc' := 55) (lv' := [(0, .ref (ad 500)), (1, .int (nI u)), (2, .int (nI bf)), (3, .int (nI fl)), (4, .int (nI (cnV (B 501) nu u bf fl j))), (5, .int (nI (12 * fl + j))), (6, .int (bI (isV (B 501) u bf fl (12 * fl + j) v))), (7, .int (nI v))]) (st' := [.ref (ad 500), .int (nI v)]) rfl ?_
              refine S_cV g (i := 500) (As := []) (st := [.int (nI v)]) (sp_users ad I J A B nu hU) mw_X9_users lk_X9_71 ⟨Nat.le_of_ble_eq_true rfl, Nat.le_of_ble_eq_true rfl⟩ (by decide) (by decide) rfl rfl (Nat.le_of_ble_eq_true rfl) ⟨Nat.le_of_ble_eq_true rfl, Nat.le_of_ble_eq_true rfl⟩ rfl ?_
              show Sim X (YR ad) 58 [(0, .ref (ad 500)), (1, .int (nI u)), (2, .int (nI bf)), (3, .int (nI fl)), (4, .int (nI (cnV (B 501) nu u bf fl j))), (5, .int (nI (12 * fl + j))), (6, .int (bI (isV (B 501) u bf fl (12 * fl + j) v))), (7, .int (nI v))] [.int (nI nu), .int (nI v)] I J A B 0 0
              refine S_icN_ge g (tgt := 128) (by omega) (by omega) rfl (by decide) (fun qz58 => ?_) (fun qz58 => ?_)
              · skip
                have hv9 : v = nu := by omega
                refine S_lveq (lv' := [(0, .ref (ad 500)), (1, .int (nI u)), (2, .int (nI bf)), (3, .int (nI fl)), (4, .int (nI (cnV (B 501) nu u bf fl j))), (5, .int (nI (12 * fl + j))), (6, .int (bI (isV (B 501) u bf fl (12 * fl + j) nu))), (7, .int (nI v))]) (by rw [(show bI (isV (B 501) u bf fl (12 * fl + j) v) = bI (isV (B 501) u bf fl (12 * fl + j) nu) from by rw [hv9]).symm]) ?_
                refine S_n g 2 (pc' := 132) (lv' := [(0, .ref (ad 500)), (1, .int (nI u)), (2, .int (nI bf)), (3, .int (nI fl)), (4, .int (nI (cnV (B 501) nu u bf fl j))), (5, .int (nI (12 * fl + j))), (6, .int (bI (isV (B 501) u bf fl (12 * fl + j) nu))), (7, .int (nI v))]) (st' := [.int (bI (isV (B 501) u bf fl (12 * fl + j) nu)), .int (nI (cnV (B 501) nu u bf fl j))]) rfl ?_
                refine S_ifB_eq g (tgt := 139) rfl (by decide) (fun qz132 => ?_) (fun qz132 => ?_)
                · skip
                  refine S_n g 2 (pc' := 141) (lv' := [(0, .ref (ad 500)), (1, .int (nI u)), (2, .int (nI bf)), (3, .int (nI fl)), (4, .int (nI (cnV (B 501) nu u bf fl j))), (5, .int (nI (12 * fl + j))), (6, .int (bI (isV (B 501) u bf fl (12 * fl + j) nu))), (7, .int (nI v))]) (st' := [.int ((nI (cnV (B 501) nu u bf fl j)) + (nI 0))]) rfl ?_
                  rw [nI_add (cnV (B 501) nu u bf fl j) 0]
                  refine S_n g 1 (pc' := 143) (lv' := [(0, .ref (ad 500)), (1, .int (nI u)), (2, .int (nI bf)), (3, .int (nI fl)), (4, .int (nI ((cnV (B 501) nu u bf fl j) + 0))), (5, .int (nI (12 * fl + j))), (6, .int (bI (isV (B 501) u bf fl (12 * fl + j) nu))), (7, .int (nI v))]) (st' := []) rfl ?_
                  refine S_lveq (lv' := [(0, .ref (ad 500)), (1, .int (nI u)), (2, .int (nI bf)), (3, .int (nI fl)), (4, .int (nI (cnV (B 501) nu u bf fl (j + 1)))), (5, .int (nI (12 * fl + j))), (6, .int (bI (isV (B 501) u bf fl (12 * fl + j) nu))), (7, .int (nI v))]) (by rw [(show nI ((cnV (B 501) nu u bf fl j) + 0) = nI (cnV (B 501) nu u bf fl (j + 1)) from by simp [cnV, qz132]).symm]) ?_
                  refine S_n g 1 (pc' := 146) (lv' := [(0, .ref (ad 500)), (1, .int (nI u)), (2, .int (nI bf)), (3, .int (nI fl)), (4, .int (nI (cnV (B 501) nu u bf fl (j + 1)))), (5, .int ((nI (12 * fl + j)) + nI 1)), (6, .int (bI (isV (B 501) u bf fl (12 * fl + j) nu))), (7, .int (nI v))]) (st' := []) rfl ?_
                  rw [nI_add (12 * fl + j) 1]
                  refine S_n g 1 (pc' := 20) (lv' := [(0, .ref (ad 500)), (1, .int (nI u)), (2, .int (nI bf)), (3, .int (nI fl)), (4, .int (nI (cnV (B 501) nu u bf fl (j + 1)))), (5, .int (nI (12 * fl + j + 1))), (6, .int (bI (isV (B 501) u bf fl (12 * fl + j) nu))), (7, .int (nI v))]) (st' := []) rfl ?_
                  refine S_keep (lv' := [(0, .ref (ad 500)), (1, .int (nI u)), (2, .int (nI bf)), (3, .int (nI fl)), (4, .int (nI (cnV (B 501) nu u bf fl (j + 1)))), (5, .int (nI (12 * fl + j + 1)))]) [0, 1, 2, 3, 4, 5] rfl ?_
                  exact lp (12 - (j + 1)) (by omega) (j + 1) rfl (by omega)
                · skip
                  refine S_n g 3 (pc' := 141) (lv' := [(0, .ref (ad 500)), (1, .int (nI u)), (2, .int (nI bf)), (3, .int (nI fl)), (4, .int (nI (cnV (B 501) nu u bf fl j))), (5, .int (nI (12 * fl + j))), (6, .int (bI (isV (B 501) u bf fl (12 * fl + j) nu))), (7, .int (nI v))]) (st' := [.int ((nI (cnV (B 501) nu u bf fl j)) + (nI 1))]) rfl ?_
                  rw [nI_add (cnV (B 501) nu u bf fl j) 1]
                  refine S_n g 1 (pc' := 143) (lv' := [(0, .ref (ad 500)), (1, .int (nI u)), (2, .int (nI bf)), (3, .int (nI fl)), (4, .int (nI ((cnV (B 501) nu u bf fl j) + 1))), (5, .int (nI (12 * fl + j))), (6, .int (bI (isV (B 501) u bf fl (12 * fl + j) nu))), (7, .int (nI v))]) (st' := []) rfl ?_
                  refine S_lveq (lv' := [(0, .ref (ad 500)), (1, .int (nI u)), (2, .int (nI bf)), (3, .int (nI fl)), (4, .int (nI (cnV (B 501) nu u bf fl (j + 1)))), (5, .int (nI (12 * fl + j))), (6, .int (bI (isV (B 501) u bf fl (12 * fl + j) nu))), (7, .int (nI v))]) (by rw [(show nI ((cnV (B 501) nu u bf fl j) + 1) = nI (cnV (B 501) nu u bf fl (j + 1)) from by simp [cnV, qz132]).symm]) ?_
                  refine S_n g 1 (pc' := 146) (lv' := [(0, .ref (ad 500)), (1, .int (nI u)), (2, .int (nI bf)), (3, .int (nI fl)), (4, .int (nI (cnV (B 501) nu u bf fl (j + 1)))), (5, .int ((nI (12 * fl + j)) + nI 1)), (6, .int (bI (isV (B 501) u bf fl (12 * fl + j) nu))), (7, .int (nI v))]) (st' := []) rfl ?_
                  rw [nI_add (12 * fl + j) 1]
                  refine S_n g 1 (pc' := 20) (lv' := [(0, .ref (ad 500)), (1, .int (nI u)), (2, .int (nI bf)), (3, .int (nI fl)), (4, .int (nI (cnV (B 501) nu u bf fl (j + 1)))), (5, .int (nI (12 * fl + j + 1))), (6, .int (bI (isV (B 501) u bf fl (12 * fl + j) nu))), (7, .int (nI v))]) (st' := []) rfl ?_
                  refine S_keep (lv' := [(0, .ref (ad 500)), (1, .int (nI u)), (2, .int (nI bf)), (3, .int (nI fl)), (4, .int (nI (cnV (B 501) nu u bf fl (j + 1)))), (5, .int (nI (12 * fl + j + 1)))]) [0, 1, 2, 3, 4, 5] rfl ?_
                  exact lp (12 - (j + 1)) (by omega) (j + 1) rfl (by omega)
              · skip
                refine S_n g 5 (pc' := 67) (lv' := [(0, .ref (ad 500)), (1, .int (nI u)), (2, .int (nI bf)), (3, .int (nI fl)), (4, .int (nI (cnV (B 501) nu u bf fl j))), (5, .int (nI (12 * fl + j))), (6, .int (bI (isV (B 501) u bf fl (12 * fl + j) v))), (7, .int (nI v))]) (st' := [.int (((nI bf) >>> ((nI v) &&& 31)) &&& (nI 1))]) rfl ?_
                refine S_steq (st' := [.int (nI (bf.testBit v).toNat)]) (by rw [(show ((nI bf) >>> ((nI v) &&& 31)) &&& (nI 1) = nI (bf.testBit v).toNat from bit_nat (by omega)).symm]) ?_
                have hb1 : (bf.testBit v).toNat ≤ 1 := Bool.toNat_le _
                refine S_n g 1 (pc' := 68) (lv' := [(0, .ref (ad 500)), (1, .int (nI u)), (2, .int (nI bf)), (3, .int (nI fl)), (4, .int (nI (cnV (B 501) nu u bf fl j))), (5, .int (nI (12 * fl + j))), (6, .int (bI (isV (B 501) u bf fl (12 * fl + j) v))), (7, .int (nI v))]) (st' := [.int (nI 1), .int (nI (bf.testBit v).toNat)]) rfl ?_
                refine S_icN_ne g (tgt := 75) (by omega) (by omega) rfl (by decide) (fun qz68 => ?_) (fun qz68 => ?_)
                · skip
                  refine S_n g 3 (pc' := 80) (lv' := [(0, .ref (ad 500)), (1, .int (nI u)), (2, .int (nI bf)), (3, .int (nI fl)), (4, .int (nI (cnV (B 501) nu u bf fl j))), (5, .int (nI (12 * fl + j))), (6, .int (bI (isV (B 501) u bf fl (12 * fl + j) v))), (7, .int (nI v)), (8, .int (nI 0))]) (st' := [.int (bI (isV (B 501) u bf fl (12 * fl + j) v))]) rfl ?_
                  refine S_ifB_eq g (tgt := 119) rfl (by decide) (fun qz80 => ?_) (fun qz80 => ?_)
                  · skip
                    refine S_n g 2 (pc' := 122) (lv' := [(0, .ref (ad 500)), (1, .int (nI u)), (2, .int (nI bf)), (3, .int (nI fl)), (4, .int (nI (cnV (B 501) nu u bf fl j))), (5, .int (nI (12 * fl + j))), (6, .int (nI 0)), (7, .int (nI v)), (8, .int (nI 0))]) (st' := []) rfl ?_
                    refine S_lveq (lv' := [(0, .ref (ad 500)), (1, .int (nI u)), (2, .int (nI bf)), (3, .int (nI fl)), (4, .int (nI (cnV (B 501) nu u bf fl j))), (5, .int (nI (12 * fl + j))), (6, .int (bI (isV (B 501) u bf fl (12 * fl + j) (v + 1)))), (7, .int (nI v)), (8, .int (nI 0))]) (by rw [(show nI 0 = bI (isV (B 501) u bf fl (12 * fl + j) (v + 1)) from by cases hbv : bf.testBit v <;> simp_all [isV, bI]).symm]) ?_
                    refine S_n g 1 (pc' := 125) (lv' := [(0, .ref (ad 500)), (1, .int (nI u)), (2, .int (nI bf)), (3, .int (nI fl)), (4, .int (nI (cnV (B 501) nu u bf fl j))), (5, .int (nI (12 * fl + j))), (6, .int (bI (isV (B 501) u bf fl (12 * fl + j) (v + 1)))), (7, .int ((nI v) + nI 1)), (8, .int (nI 0))]) (st' := []) rfl ?_
                    rw [nI_add v 1]
                    refine S_n g 1 (pc' := 52) (lv' := [(0, .ref (ad 500)), (1, .int (nI u)), (2, .int (nI bf)), (3, .int (nI fl)), (4, .int (nI (cnV (B 501) nu u bf fl j))), (5, .int (nI (12 * fl + j))), (6, .int (bI (isV (B 501) u bf fl (12 * fl + j) (v + 1)))), (7, .int (nI (v + 1))), (8, .int (nI 0))]) (st' := []) rfl ?_
                    refine S_keep (lv' := [(0, .ref (ad 500)), (1, .int (nI u)), (2, .int (nI bf)), (3, .int (nI fl)), (4, .int (nI (cnV (B 501) nu u bf fl j))), (5, .int (nI (12 * fl + j))), (6, .int (bI (isV (B 501) u bf fl (12 * fl + j) (v + 1)))), (7, .int (nI (v + 1)))]) [0, 1, 2, 3, 4, 5, 6, 7] rfl ?_
                    exact lp2 (nu - (v + 1)) (by omega) (v + 1) rfl (by omega)
                  · skip
                    refine S_n g 1 (pc' := 85) (lv' := [(0, .ref (ad 500)), (1, .int (nI u)), (2, .int (nI bf)), (3, .int (nI fl)), (4, .int (nI (cnV (B 501) nu u bf fl j))), (5, .int (nI (12 * fl + j))), (6, .int (bI (isV (B 501) u bf fl (12 * fl + j) v))), (7, .int (nI v)), (8, .int (nI 0))]) (st' := [.int (nI 0)]) rfl ?_
                    refine S_ifN_eq g (tgt := 115) (by omega) rfl (by decide) (fun qz85 => ?_) (fun qz85 => ?_)
                    · skip
                      refine S_n g 3 (pc' := 122) (lv' := [(0, .ref (ad 500)), (1, .int (nI u)), (2, .int (nI bf)), (3, .int (nI fl)), (4, .int (nI (cnV (B 501) nu u bf fl j))), (5, .int (nI (12 * fl + j))), (6, .int (nI 1)), (7, .int (nI v)), (8, .int (nI 0))]) (st' := []) rfl ?_
                      refine S_lveq (lv' := [(0, .ref (ad 500)), (1, .int (nI u)), (2, .int (nI bf)), (3, .int (nI fl)), (4, .int (nI (cnV (B 501) nu u bf fl j))), (5, .int (nI (12 * fl + j))), (6, .int (bI (isV (B 501) u bf fl (12 * fl + j) (v + 1)))), (7, .int (nI v)), (8, .int (nI 0))]) (by rw [(show nI 1 = bI (isV (B 501) u bf fl (12 * fl + j) (v + 1)) from by cases hbv : bf.testBit v <;> simp_all [isV, bI]).symm]) ?_
                      refine S_n g 1 (pc' := 125) (lv' := [(0, .ref (ad 500)), (1, .int (nI u)), (2, .int (nI bf)), (3, .int (nI fl)), (4, .int (nI (cnV (B 501) nu u bf fl j))), (5, .int (nI (12 * fl + j))), (6, .int (bI (isV (B 501) u bf fl (12 * fl + j) (v + 1)))), (7, .int ((nI v) + nI 1)), (8, .int (nI 0))]) (st' := []) rfl ?_
                      rw [nI_add v 1]
                      refine S_n g 1 (pc' := 52) (lv' := [(0, .ref (ad 500)), (1, .int (nI u)), (2, .int (nI bf)), (3, .int (nI fl)), (4, .int (nI (cnV (B 501) nu u bf fl j))), (5, .int (nI (12 * fl + j))), (6, .int (bI (isV (B 501) u bf fl (12 * fl + j) (v + 1)))), (7, .int (nI (v + 1))), (8, .int (nI 0))]) (st' := []) rfl ?_
                      refine S_keep (lv' := [(0, .ref (ad 500)), (1, .int (nI u)), (2, .int (nI bf)), (3, .int (nI fl)), (4, .int (nI (cnV (B 501) nu u bf fl j))), (5, .int (nI (12 * fl + j))), (6, .int (bI (isV (B 501) u bf fl (12 * fl + j) (v + 1)))), (7, .int (nI (v + 1)))]) [0, 1, 2, 3, 4, 5, 6, 7] rfl ?_
                      exact lp2 (nu - (v + 1)) (by omega) (v + 1) rfl (by omega)
                    · skip
                      exact absurd qz85 (by decide)
                · skip
                  refine S_n g 4 (pc' := 80) (lv' := [(0, .ref (ad 500)), (1, .int (nI u)), (2, .int (nI bf)), (3, .int (nI fl)), (4, .int (nI (cnV (B 501) nu u bf fl j))), (5, .int (nI (12 * fl + j))), (6, .int (bI (isV (B 501) u bf fl (12 * fl + j) v))), (7, .int (nI v)), (8, .int (nI 1))]) (st' := [.int (bI (isV (B 501) u bf fl (12 * fl + j) v))]) rfl ?_
                  refine S_ifB_eq g (tgt := 119) rfl (by decide) (fun qz80 => ?_) (fun qz80 => ?_)
                  · skip
                    refine S_n g 2 (pc' := 122) (lv' := [(0, .ref (ad 500)), (1, .int (nI u)), (2, .int (nI bf)), (3, .int (nI fl)), (4, .int (nI (cnV (B 501) nu u bf fl j))), (5, .int (nI (12 * fl + j))), (6, .int (nI 0)), (7, .int (nI v)), (8, .int (nI 1))]) (st' := []) rfl ?_
                    refine S_lveq (lv' := [(0, .ref (ad 500)), (1, .int (nI u)), (2, .int (nI bf)), (3, .int (nI fl)), (4, .int (nI (cnV (B 501) nu u bf fl j))), (5, .int (nI (12 * fl + j))), (6, .int (bI (isV (B 501) u bf fl (12 * fl + j) (v + 1)))), (7, .int (nI v)), (8, .int (nI 1))]) (by rw [(show nI 0 = bI (isV (B 501) u bf fl (12 * fl + j) (v + 1)) from by cases hbv : bf.testBit v <;> simp_all [isV, bI]).symm]) ?_
                    refine S_n g 1 (pc' := 125) (lv' := [(0, .ref (ad 500)), (1, .int (nI u)), (2, .int (nI bf)), (3, .int (nI fl)), (4, .int (nI (cnV (B 501) nu u bf fl j))), (5, .int (nI (12 * fl + j))), (6, .int (bI (isV (B 501) u bf fl (12 * fl + j) (v + 1)))), (7, .int ((nI v) + nI 1)), (8, .int (nI 1))]) (st' := []) rfl ?_
                    rw [nI_add v 1]
                    refine S_n g 1 (pc' := 52) (lv' := [(0, .ref (ad 500)), (1, .int (nI u)), (2, .int (nI bf)), (3, .int (nI fl)), (4, .int (nI (cnV (B 501) nu u bf fl j))), (5, .int (nI (12 * fl + j))), (6, .int (bI (isV (B 501) u bf fl (12 * fl + j) (v + 1)))), (7, .int (nI (v + 1))), (8, .int (nI 1))]) (st' := []) rfl ?_
                    refine S_keep (lv' := [(0, .ref (ad 500)), (1, .int (nI u)), (2, .int (nI bf)), (3, .int (nI fl)), (4, .int (nI (cnV (B 501) nu u bf fl j))), (5, .int (nI (12 * fl + j))), (6, .int (bI (isV (B 501) u bf fl (12 * fl + j) (v + 1)))), (7, .int (nI (v + 1)))]) [0, 1, 2, 3, 4, 5, 6, 7] rfl ?_
                    exact lp2 (nu - (v + 1)) (by omega) (v + 1) rfl (by omega)
                  · skip
                    refine S_n g 1 (pc' := 85) (lv' := [(0, .ref (ad 500)), (1, .int (nI u)), (2, .int (nI bf)), (3, .int (nI fl)), (4, .int (nI (cnV (B 501) nu u bf fl j))), (5, .int (nI (12 * fl + j))), (6, .int (bI (isV (B 501) u bf fl (12 * fl + j) v))), (7, .int (nI v)), (8, .int (nI 1))]) (st' := [.int (nI 1)]) rfl ?_
                    refine S_ifN_eq g (tgt := 115) (by omega) rfl (by decide) (fun qz85 => ?_) (fun qz85 => ?_)
                    · skip
                      exact absurd qz85 (by decide)
                    · skip
                      refine S_n g 3 (pc' := 93) (lv' := [(0, .ref (ad 500)), (1, .int (nI u)), (2, .int (nI bf)), (3, .int (nI fl)), (4, .int (nI (cnV (B 501) nu u bf fl j))), (5, .int (nI (12 * fl + j))), (6, .int (bI (isV (B 501) u bf fl (12 * fl + j) v))), (7, .int (nI v)), (8, .int (nI 1))]) (st' := [.int (nI (12 * fl + j)), .int (nI v), .ref (ad 500)]) rfl ?_
                      refine S_cV g (i := 500) (As := [.int (nI v), .int (nI (12 * fl + j))]) (st := []) (sp_has ad I J A B v (12 * fl + j) (by omega) (by omega)) mw_X9_has lk_X9_87 ⟨Nat.le_of_ble_eq_true rfl, Nat.le_of_ble_eq_true rfl⟩ (by decide) (by decide) rfl rfl (Nat.le_of_ble_eq_true rfl) ⟨Nat.le_of_ble_eq_true rfl, Nat.le_of_ble_eq_true rfl⟩ rfl ?_
                      show Sim X (YR ad) 96 [(0, .ref (ad 500)), (1, .int (nI u)), (2, .int (nI bf)), (3, .int (nI fl)), (4, .int (nI (cnV (B 501) nu u bf fl j))), (5, .int (nI (12 * fl + j))), (6, .int (bI (isV (B 501) u bf fl (12 * fl + j) v))), (7, .int (nI v)), (8, .int (nI 1))] [.int (bI (tb (B 501 (63 + v)) (12 * fl + j)))] I J A B 0 0
                      refine S_ifB_ne g (tgt := 119) rfl (by decide) (fun qz96 => ?_) (fun qz96 => ?_)
                      · skip
                        refine S_n g 2 (pc' := 122) (lv' := [(0, .ref (ad 500)), (1, .int (nI u)), (2, .int (nI bf)), (3, .int (nI fl)), (4, .int (nI (cnV (B 501) nu u bf fl j))), (5, .int (nI (12 * fl + j))), (6, .int (nI 0)), (7, .int (nI v)), (8, .int (nI 1))]) (st' := []) rfl ?_
                        refine S_lveq (lv' := [(0, .ref (ad 500)), (1, .int (nI u)), (2, .int (nI bf)), (3, .int (nI fl)), (4, .int (nI (cnV (B 501) nu u bf fl j))), (5, .int (nI (12 * fl + j))), (6, .int (bI (isV (B 501) u bf fl (12 * fl + j) (v + 1)))), (7, .int (nI v)), (8, .int (nI 1))]) (by rw [(show nI 0 = bI (isV (B 501) u bf fl (12 * fl + j) (v + 1)) from by cases hbv : bf.testBit v <;> simp_all [isV, bI]).symm]) ?_
                        refine S_n g 1 (pc' := 125) (lv' := [(0, .ref (ad 500)), (1, .int (nI u)), (2, .int (nI bf)), (3, .int (nI fl)), (4, .int (nI (cnV (B 501) nu u bf fl j))), (5, .int (nI (12 * fl + j))), (6, .int (bI (isV (B 501) u bf fl (12 * fl + j) (v + 1)))), (7, .int ((nI v) + nI 1)), (8, .int (nI 1))]) (st' := []) rfl ?_
                        rw [nI_add v 1]
                        refine S_n g 1 (pc' := 52) (lv' := [(0, .ref (ad 500)), (1, .int (nI u)), (2, .int (nI bf)), (3, .int (nI fl)), (4, .int (nI (cnV (B 501) nu u bf fl j))), (5, .int (nI (12 * fl + j))), (6, .int (bI (isV (B 501) u bf fl (12 * fl + j) (v + 1)))), (7, .int (nI (v + 1))), (8, .int (nI 1))]) (st' := []) rfl ?_
                        refine S_keep (lv' := [(0, .ref (ad 500)), (1, .int (nI u)), (2, .int (nI bf)), (3, .int (nI fl)), (4, .int (nI (cnV (B 501) nu u bf fl j))), (5, .int (nI (12 * fl + j))), (6, .int (bI (isV (B 501) u bf fl (12 * fl + j) (v + 1)))), (7, .int (nI (v + 1)))]) [0, 1, 2, 3, 4, 5, 6, 7] rfl ?_
                        exact lp2 (nu - (v + 1)) (by omega) (v + 1) rfl (by omega)
                      · skip
                        refine S_n g 1 (pc' := 100) (lv' := [(0, .ref (ad 500)), (1, .int (nI u)), (2, .int (nI bf)), (3, .int (nI fl)), (4, .int (nI (cnV (B 501) nu u bf fl j))), (5, .int (nI (12 * fl + j))), (6, .int (bI (isV (B 501) u bf fl (12 * fl + j) v))), (7, .int (nI v)), (8, .int (nI 1))]) (st' := [.ref (ad 500)]) rfl ?_
                        refine S_getR g (i := 500) (c := 9) (k := 0) (j := 501) (by decide) (by decide) rfl rfl rfl fl_X9_7 rfl ?_
                        refine S_n g 3 (pc' := 108) (lv' := [(0, .ref (ad 500)), (1, .int (nI u)), (2, .int (nI bf)), (3, .int (nI fl)), (4, .int (nI (cnV (B 501) nu u bf fl j))), (5, .int (nI (12 * fl + j))), (6, .int (bI (isV (B 501) u bf fl (12 * fl + j) v))), (7, .int (nI v)), (8, .int (nI 1))]) (st' := [.int ((nI 69) + (nI v)), .ref (ad 501)]) rfl ?_
                        rw [nI_add 69 v]
                        refine S_laldN g (i := 501) (e := 69 + v) (by decide) rfl (show 69 + v < 621 from by omega) (show (621 : Nat) < 2 ^ 31 from by decide) rfl ?_
                        refine S_n g 2 (pc' := 111) (lv' := [(0, .ref (ad 500)), (1, .int (nI u)), (2, .int (nI bf)), (3, .int (nI fl)), (4, .int (nI (cnV (B 501) nu u bf fl j))), (5, .int (nI (12 * fl + j))), (6, .int (bI (isV (B 501) u bf fl (12 * fl + j) v))), (7, .int (nI v)), (8, .int (nI 1))]) (st' := [.long (nI fl).toInt64, .long (B 501 (69 + v))]) rfl ?_
                        rw [nI_l (n := fl) (by omega)]
                        refine S_lc_eq g (tgt := 119) rfl rfl (by decide) (fun qz111 => ?_) (fun qz111 => ?_)
                        · skip
                          refine S_n g 2 (pc' := 122) (lv' := [(0, .ref (ad 500)), (1, .int (nI u)), (2, .int (nI bf)), (3, .int (nI fl)), (4, .int (nI (cnV (B 501) nu u bf fl j))), (5, .int (nI (12 * fl + j))), (6, .int (nI 0)), (7, .int (nI v)), (8, .int (nI 1))]) (st' := []) rfl ?_
                          refine S_lveq (lv' := [(0, .ref (ad 500)), (1, .int (nI u)), (2, .int (nI bf)), (3, .int (nI fl)), (4, .int (nI (cnV (B 501) nu u bf fl j))), (5, .int (nI (12 * fl + j))), (6, .int (bI (isV (B 501) u bf fl (12 * fl + j) (v + 1)))), (7, .int (nI v)), (8, .int (nI 1))]) (by rw [(show nI 0 = bI (isV (B 501) u bf fl (12 * fl + j) (v + 1)) from by cases hbv : bf.testBit v <;> simp_all [isV, bI]).symm]) ?_
                          refine S_n g 1 (pc' := 125) (lv' := [(0, .ref (ad 500)), (1, .int (nI u)), (2, .int (nI bf)), (3, .int (nI fl)), (4, .int (nI (cnV (B 501) nu u bf fl j))), (5, .int (nI (12 * fl + j))), (6, .int (bI (isV (B 501) u bf fl (12 * fl + j) (v + 1)))), (7, .int ((nI v) + nI 1)), (8, .int (nI 1))]) (st' := []) rfl ?_
                          rw [nI_add v 1]
                          refine S_n g 1 (pc' := 52) (lv' := [(0, .ref (ad 500)), (1, .int (nI u)), (2, .int (nI bf)), (3, .int (nI fl)), (4, .int (nI (cnV (B 501) nu u bf fl j))), (5, .int (nI (12 * fl + j))), (6, .int (bI (isV (B 501) u bf fl (12 * fl + j) (v + 1)))), (7, .int (nI (v + 1))), (8, .int (nI 1))]) (st' := []) rfl ?_
                          refine S_keep (lv' := [(0, .ref (ad 500)), (1, .int (nI u)), (2, .int (nI bf)), (3, .int (nI fl)), (4, .int (nI (cnV (B 501) nu u bf fl j))), (5, .int (nI (12 * fl + j))), (6, .int (bI (isV (B 501) u bf fl (12 * fl + j) (v + 1)))), (7, .int (nI (v + 1)))]) [0, 1, 2, 3, 4, 5, 6, 7] rfl ?_
                          exact lp2 (nu - (v + 1)) (by omega) (v + 1) rfl (by omega)
                        · skip
                          refine S_n g 3 (pc' := 122) (lv' := [(0, .ref (ad 500)), (1, .int (nI u)), (2, .int (nI bf)), (3, .int (nI fl)), (4, .int (nI (cnV (B 501) nu u bf fl j))), (5, .int (nI (12 * fl + j))), (6, .int (nI 1)), (7, .int (nI v)), (8, .int (nI 1))]) (st' := []) rfl ?_
                          refine S_lveq (lv' := [(0, .ref (ad 500)), (1, .int (nI u)), (2, .int (nI bf)), (3, .int (nI fl)), (4, .int (nI (cnV (B 501) nu u bf fl j))), (5, .int (nI (12 * fl + j))), (6, .int (bI (isV (B 501) u bf fl (12 * fl + j) (v + 1)))), (7, .int (nI v)), (8, .int (nI 1))]) (by rw [(show nI 1 = bI (isV (B 501) u bf fl (12 * fl + j) (v + 1)) from by cases hbv : bf.testBit v <;> simp_all [isV, bI]).symm]) ?_
                          refine S_n g 1 (pc' := 125) (lv' := [(0, .ref (ad 500)), (1, .int (nI u)), (2, .int (nI bf)), (3, .int (nI fl)), (4, .int (nI (cnV (B 501) nu u bf fl j))), (5, .int (nI (12 * fl + j))), (6, .int (bI (isV (B 501) u bf fl (12 * fl + j) (v + 1)))), (7, .int ((nI v) + nI 1)), (8, .int (nI 1))]) (st' := []) rfl ?_
                          rw [nI_add v 1]
                          refine S_n g 1 (pc' := 52) (lv' := [(0, .ref (ad 500)), (1, .int (nI u)), (2, .int (nI bf)), (3, .int (nI fl)), (4, .int (nI (cnV (B 501) nu u bf fl j))), (5, .int (nI (12 * fl + j))), (6, .int (bI (isV (B 501) u bf fl (12 * fl + j) (v + 1)))), (7, .int (nI (v + 1))), (8, .int (nI 1))]) (st' := []) rfl ?_
                          refine S_keep (lv' := [(0, .ref (ad 500)), (1, .int (nI u)), (2, .int (nI bf)), (3, .int (nI fl)), (4, .int (nI (cnV (B 501) nu u bf fl j))), (5, .int (nI (12 * fl + j))), (6, .int (bI (isV (B 501) u bf fl (12 * fl + j) (v + 1)))), (7, .int (nI (v + 1)))]) [0, 1, 2, 3, 4, 5, 6, 7] rfl ?_
                          exact lp2 (nu - (v + 1)) (by omega) (v + 1) rfl (by omega)
          exact lp2 _ 0 rfl (by omega)
        · skip
          refine S_n g 5 (pc' := 52) (lv' := [(0, .ref (ad 500)), (1, .int (nI u)), (2, .int (nI bf)), (3, .int (nI fl)), (4, .int (nI (cnV (B 501) nu u bf fl j))), (5, .int (nI (12 * fl + j))), (6, .int (nI 1)), (7, .int (nI 0))]) (st' := []) rfl ?_
          refine S_lveq (lv' := [(0, .ref (ad 500)), (1, .int (nI u)), (2, .int (nI bf)), (3, .int (nI fl)), (4, .int (nI (cnV (B 501) nu u bf fl j))), (5, .int (nI (12 * fl + j))), (6, .int (bI (isV (B 501) u bf fl (12 * fl + j) 0))), (7, .int (nI 0))]) (by rw [(show nI 1 = bI (isV (B 501) u bf fl (12 * fl + j) 0) from by simp [isV, bI, qz39]).symm]) ?_
          have lp2 : ∀ (nn : Nat) (v : Nat), nu - v = nn → (v ≤ nu) → Sim X (YR ad) 52 [(0, .ref (ad 500)), (1, .int (nI u)), (2, .int (nI bf)), (3, .int (nI fl)), (4, .int (nI (cnV (B 501) nu u bf fl j))), (5, .int (nI (12 * fl + j))), (6, .int (bI (isV (B 501) u bf fl (12 * fl + j) v))), (7, .int (nI v))] [] I J A B 0 0 := by
            intro nn
            induction nn using Nat.strongRecOn with
            | ind nn ih =>
              intro v hmz hv
              have lp2 := ih
              refine S_n g 2 (pc' := 55) (lv' := [(0, .ref (ad 500)), (1, .int (nI u)), (2, .int (nI bf)), (3, .int (nI fl)), (4, .int (nI (cnV (B 501) nu u bf fl j))), (5, .int (nI (12 * fl + j))), (6, .int (bI (isV (B 501) u bf fl (12 * fl + j) v))), (7, .int (nI v))]) (st' := [.ref (ad 500), .int (nI v)]) rfl ?_
              refine S_cV g (i := 500) (As := []) (st := [.int (nI v)]) (sp_users ad I J A B nu hU) mw_X9_users lk_X9_71 ⟨Nat.le_of_ble_eq_true rfl, Nat.le_of_ble_eq_true rfl⟩ (by decide) (by decide) rfl rfl (Nat.le_of_ble_eq_true rfl) ⟨Nat.le_of_ble_eq_true rfl, Nat.le_of_ble_eq_true rfl⟩ rfl ?_
              show Sim X (YR ad) 58 [(0, .ref (ad 500)), (1, .int (nI u)), (2, .int (nI bf)), (3, .int (nI fl)), (4, .int (nI (cnV (B 501) nu u bf fl j))), (5, .int (nI (12 * fl + j))), (6, .int (bI (isV (B 501) u bf fl (12 * fl + j) v))), (7, .int (nI v))] [.int (nI nu), .int (nI v)] I J A B 0 0
              refine S_icN_ge g (tgt := 128) (by omega) (by omega) rfl (by decide) (fun qz58 => ?_) (fun qz58 => ?_)
              · skip
                have hv9 : v = nu := by omega
                refine S_lveq (lv' := [(0, .ref (ad 500)), (1, .int (nI u)), (2, .int (nI bf)), (3, .int (nI fl)), (4, .int (nI (cnV (B 501) nu u bf fl j))), (5, .int (nI (12 * fl + j))), (6, .int (bI (isV (B 501) u bf fl (12 * fl + j) nu))), (7, .int (nI v))]) (by rw [(show bI (isV (B 501) u bf fl (12 * fl + j) v) = bI (isV (B 501) u bf fl (12 * fl + j) nu) from by rw [hv9]).symm]) ?_
                refine S_n g 2 (pc' := 132) (lv' := [(0, .ref (ad 500)), (1, .int (nI u)), (2, .int (nI bf)), (3, .int (nI fl)), (4, .int (nI (cnV (B 501) nu u bf fl j))), (5, .int (nI (12 * fl + j))), (6, .int (bI (isV (B 501) u bf fl (12 * fl + j) nu))), (7, .int (nI v))]) (st' := [.int (bI (isV (B 501) u bf fl (12 * fl + j) nu)), .int (nI (cnV (B 501) nu u bf fl j))]) rfl ?_
                refine S_ifB_eq g (tgt := 139) rfl (by decide) (fun qz132 => ?_) (fun qz132 => ?_)
                · skip
                  refine S_n g 2 (pc' := 141) (lv' := [(0, .ref (ad 500)), (1, .int (nI u)), (2, .int (nI bf)), (3, .int (nI fl)), (4, .int (nI (cnV (B 501) nu u bf fl j))), (5, .int (nI (12 * fl + j))), (6, .int (bI (isV (B 501) u bf fl (12 * fl + j) nu))), (7, .int (nI v))]) (st' := [.int ((nI (cnV (B 501) nu u bf fl j)) + (nI 0))]) rfl ?_
                  rw [nI_add (cnV (B 501) nu u bf fl j) 0]
                  refine S_n g 1 (pc' := 143) (lv' := [(0, .ref (ad 500)), (1, .int (nI u)), (2, .int (nI bf)), (3, .int (nI fl)), (4, .int (nI ((cnV (B 501) nu u bf fl j) + 0))), (5, .int (nI (12 * fl + j))), (6, .int (bI (isV (B 501) u bf fl (12 * fl + j) nu))), (7, .int (nI v))]) (st' := []) rfl ?_
                  refine S_lveq (lv' := [(0, .ref (ad 500)), (1, .int (nI u)), (2, .int (nI bf)), (3, .int (nI fl)), (4, .int (nI (cnV (B 501) nu u bf fl (j + 1)))), (5, .int (nI (12 * fl + j))), (6, .int (bI (isV (B 501) u bf fl (12 * fl + j) nu))), (7, .int (nI v))]) (by rw [(show nI ((cnV (B 501) nu u bf fl j) + 0) = nI (cnV (B 501) nu u bf fl (j + 1)) from by simp [cnV, qz132]).symm]) ?_
                  refine S_n g 1 (pc' := 146) (lv' := [(0, .ref (ad 500)), (1, .int (nI u)), (2, .int (nI bf)), (3, .int (nI fl)), (4, .int (nI (cnV (B 501) nu u bf fl (j + 1)))), (5, .int ((nI (12 * fl + j)) + nI 1)), (6, .int (bI (isV (B 501) u bf fl (12 * fl + j) nu))), (7, .int (nI v))]) (st' := []) rfl ?_
                  rw [nI_add (12 * fl + j) 1]
                  refine S_n g 1 (pc' := 20) (lv' := [(0, .ref (ad 500)), (1, .int (nI u)), (2, .int (nI bf)), (3, .int (nI fl)), (4, .int (nI (cnV (B 501) nu u bf fl (j + 1)))), (5, .int (nI (12 * fl + j + 1))), (6, .int (bI (isV (B 501) u bf fl (12 * fl + j) nu))), (7, .int (nI v))]) (st' := []) rfl ?_
                  refine S_keep (lv' := [(0, .ref (ad 500)), (1, .int (nI u)), (2, .int (nI bf)), (3, .int (nI fl)), (4, .int (nI (cnV (B 501) nu u bf fl (j + 1)))), (5, .int (nI (12 * fl + j + 1)))]) [0, 1, 2, 3, 4, 5] rfl ?_
                  exact lp (12 - (j + 1)) (by omega) (j + 1) rfl (by omega)
                · skip
                  refine S_n g 3 (pc' := 141) (lv' := [(0, .ref (ad 500)), (1, .int (nI u)), (2, .int (nI bf)), (3, .int (nI fl)), (4, .int (nI (cnV (B 501) nu u bf fl j))), (5, .int (nI (12 * fl + j))), (6, .int (bI (isV (B 501) u bf fl (12 * fl + j) nu))), (7, .int (nI v))]) (st' := [.int ((nI (cnV (B 501) nu u bf fl j)) + (nI 1))]) rfl ?_
                  rw [nI_add (cnV (B 501) nu u bf fl j) 1]
                  refine S_n g 1 (pc' := 143) (lv' := [(0, .ref (ad 500)), (1, .int (nI u)), (2, .int (nI bf)), (3, .int (nI fl)), (4, .int (nI ((cnV (B 501) nu u bf fl j) + 1))), (5, .int (nI (12 * fl + j))), (6, .int (bI (isV (B 501) u bf fl (12 * fl + j) nu))), (7, .int (nI v))]) (st' := []) rfl ?_
                  refine S_lveq (lv' := [(0, .ref (ad 500)), (1, .int (nI u)), (2, .int (nI bf)), (3, .int (nI fl)), (4, .int (nI (cnV (B 501) nu u bf fl (j + 1)))), (5, .int (nI (12 * fl + j))), (6, .int (bI (isV (B 501) u bf fl (12 * fl + j) nu))), (7, .int (nI v))]) (by rw [(show nI ((cnV (B 501) nu u bf fl j) + 1) = nI (cnV (B 501) nu u bf fl (j + 1)) from by simp [cnV, qz132]).symm]) ?_
                  refine S_n g 1 (pc' := 146) (lv' := [(0, .ref (ad 500)), (1, .int (nI u)), (2, .int (nI bf)), (3, .int (nI fl)), (4, .int (nI (cnV (B 501) nu u bf fl (j + 1)))), (5, .int ((nI (12 * fl + j)) + nI 1)), (6, .int (bI (isV (B 501) u bf fl (12 * fl + j) nu))), (7, .int (nI v))]) (st' := []) rfl ?_
                  rw [nI_add (12 * fl + j) 1]
                  refine S_n g 1 (pc' := 20) (lv' := [(0, .ref (ad 500)), (1, .int (nI u)), (2, .int (nI bf)), (3, .int (nI fl)), (4, .int (nI (cnV (B 501) nu u bf fl (j + 1)))), (5, .int (nI (12 * fl + j + 1))), (6, .int (bI (isV (B 501) u bf fl (12 * fl + j) nu))), (7, .int (nI v))]) (st' := []) rfl ?_
                  refine S_keep (lv' := [(0, .ref (ad 500)), (1, .int (nI u)), (2, .int (nI bf)), (3, .int (nI fl)), (4, .int (nI (cnV (B 501) nu u bf fl (j + 1)))), (5, .int (nI (12 * fl + j + 1)))]) [0, 1, 2, 3, 4, 5] rfl ?_
                  exact lp (12 - (j + 1)) (by omega) (j + 1) rfl (by omega)
              · skip
                refine S_n g 5 (pc' := 67) (lv' := [(0, .ref (ad 500)), (1, .int (nI u)), (2, .int (nI bf)), (3, .int (nI fl)), (4, .int (nI (cnV (B 501) nu u bf fl j))), (5, .int (nI (12 * fl + j))), (6, .int (bI (isV (B 501) u bf fl (12 * fl + j) v))), (7, .int (nI v))]) (st' := [.int (((nI bf) >>> ((nI v) &&& 31)) &&& (nI 1))]) rfl ?_
                refine S_steq (st' := [.int (nI (bf.testBit v).toNat)]) (by rw [(show ((nI bf) >>> ((nI v) &&& 31)) &&& (nI 1) = nI (bf.testBit v).toNat from bit_nat (by omega)).symm]) ?_
                have hb1 : (bf.testBit v).toNat ≤ 1 := Bool.toNat_le _
                refine S_n g 1 (pc' := 68) (lv' := [(0, .ref (ad 500)), (1, .int (nI u)), (2, .int (nI bf)), (3, .int (nI fl)), (4, .int (nI (cnV (B 501) nu u bf fl j))), (5, .int (nI (12 * fl + j))), (6, .int (bI (isV (B 501) u bf fl (12 * fl + j) v))), (7, .int (nI v))]) (st' := [.int (nI 1), .int (nI (bf.testBit v).toNat)]) rfl ?_
                refine S_icN_ne g (tgt := 75) (by omega) (by omega) rfl (by decide) (fun qz68 => ?_) (fun qz68 => ?_)
                · skip
                  refine S_n g 3 (pc' := 80) (lv' := [(0, .ref (ad 500)), (1, .int (nI u)), (2, .int (nI bf)), (3, .int (nI fl)), (4, .int (nI (cnV (B 501) nu u bf fl j))), (5, .int (nI (12 * fl + j))), (6, .int (bI (isV (B 501) u bf fl (12 * fl + j) v))), (7, .int (nI v)), (8, .int (nI 0))]) (st' := [.int (bI (isV (B 501) u bf fl (12 * fl + j) v))]) rfl ?_
                  refine S_ifB_eq g (tgt := 119) rfl (by decide) (fun qz80 => ?_) (fun qz80 => ?_)
                  · skip
                    refine S_n g 2 (pc' := 122) (lv' := [(0, .ref (ad 500)), (1, .int (nI u)), (2, .int (nI bf)), (3, .int (nI fl)), (4, .int (nI (cnV (B 501) nu u bf fl j))), (5, .int (nI (12 * fl + j))), (6, .int (nI 0)), (7, .int (nI v)), (8, .int (nI 0))]) (st' := []) rfl ?_
                    refine S_lveq (lv' := [(0, .ref (ad 500)), (1, .int (nI u)), (2, .int (nI bf)), (3, .int (nI fl)), (4, .int (nI (cnV (B 501) nu u bf fl j))), (5, .int (nI (12 * fl + j))), (6, .int (bI (isV (B 501) u bf fl (12 * fl + j) (v + 1)))), (7, .int (nI v)), (8, .int (nI 0))]) (by rw [(show nI 0 = bI (isV (B 501) u bf fl (12 * fl + j) (v + 1)) from by cases hbv : bf.testBit v <;> simp_all [isV, bI]).symm]) ?_
                    refine S_n g 1 (pc' := 125) (lv' := [(0, .ref (ad 500)), (1, .int (nI u)), (2, .int (nI bf)), (3, .int (nI fl)), (4, .int (nI (cnV (B 501) nu u bf fl j))), (5, .int (nI (12 * fl + j))), (6, .int (bI (isV (B 501) u bf fl (12 * fl + j) (v + 1)))), (7, .int ((nI v) + nI 1)), (8, .int (nI 0))]) (st' := []) rfl ?_
                    rw [nI_add v 1]
                    refine S_n g 1 (pc' := 52) (lv' := [(0, .ref (ad 500)), (1, .int (nI u)), (2, .int (nI bf)), (3, .int (nI fl)), (4, .int (nI (cnV (B 501) nu u bf fl j))), (5, .int (nI (12 * fl + j))), (6, .int (bI (isV (B 501) u bf fl (12 * fl + j) (v + 1)))), (7, .int (nI (v + 1))), (8, .int (nI 0))]) (st' := []) rfl ?_
                    refine S_keep (lv' := [(0, .ref (ad 500)), (1, .int (nI u)), (2, .int (nI bf)), (3, .int (nI fl)), (4, .int (nI (cnV (B 501) nu u bf fl j))), (5, .int (nI (12 * fl + j))), (6, .int (bI (isV (B 501) u bf fl (12 * fl + j) (v + 1)))), (7, .int (nI (v + 1)))]) [0, 1, 2, 3, 4, 5, 6, 7] rfl ?_
                    exact lp2 (nu - (v + 1)) (by omega) (v + 1) rfl (by omega)
                  · skip
                    refine S_n g 1 (pc' := 85) (lv' := [(0, .ref (ad 500)), (1, .int (nI u)), (2, .int (nI bf)), (3, .int (nI fl)), (4, .int (nI (cnV (B 501) nu u bf fl j))), (5, .int (nI (12 * fl + j))), (6, .int (bI (isV (B 501) u bf fl (12 * fl + j) v))), (7, .int (nI v)), (8, .int (nI 0))]) (st' := [.int (nI 0)]) rfl ?_
                    refine S_ifN_eq g (tgt := 115) (by omega) rfl (by decide) (fun qz85 => ?_) (fun qz85 => ?_)
                    · skip
                      refine S_n g 3 (pc' := 122) (lv' := [(0, .ref (ad 500)), (1, .int (nI u)), (2, .int (nI bf)), (3, .int (nI fl)), (4, .int (nI (cnV (B 501) nu u bf fl j))), (5, .int (nI (12 * fl + j))), (6, .int (nI 1)), (7, .int (nI v)), (8, .int (nI 0))]) (st' := []) rfl ?_
                      refine S_lveq (lv' := [(0, .ref (ad 500)), (1, .int (nI u)), (2, .int (nI bf)), (3, .int (nI fl)), (4, .int (nI (cnV (B 501) nu u bf fl j))), (5, .int (nI (12 * fl + j))), (6, .int (bI (isV (B 501) u bf fl (12 * fl + j) (v + 1)))), (7, .int (nI v)), (8, .int (nI 0))]) (by rw [(show nI 1 = bI (isV (B 501) u bf fl (12 * fl + j) (v + 1)) from by cases hbv : bf.testBit v <;> simp_all [isV, bI]).symm]) ?_
                      refine S_n g 1 (pc' := 125) (lv' := [(0, .ref (ad 500)), (1, .int (nI u)), (2, .int (nI bf)), (3, .int (nI fl)), (4, .int (nI (cnV (B 501) nu u bf fl j))), (5, .int (nI (12 * fl + j))), (6, .int (bI (isV (B 501) u bf fl (12 * fl + j) (v + 1)))), (7, .int ((nI v) + nI 1)), (8, .int (nI 0))]) (st' := []) rfl ?_
                      rw [nI_add v 1]
                      refine S_n g 1 (pc' := 52) (lv' := [(0, .ref (ad 500)), (1, .int (nI u)), (2, .int (nI bf)), (3, .int (nI fl)), (4, .int (nI (cnV (B 501) nu u bf fl j))), (5, .int (nI (12 * fl + j))), (6, .int (bI (isV (B 501) u bf fl (12 * fl + j) (v + 1)))), (7, .int (nI (v + 1))), (8, .int (nI 0))]) (st' := []) rfl ?_
                      refine S_keep (lv' := [(0, .ref (ad 500)), (1, .int (nI u)), (2, .int (nI bf)), (3, .int (nI fl)), (4, .int (nI (cnV (B 501) nu u bf fl j))), (5, .int (nI (12 * fl + j))), (6, .int (bI (isV (B 501) u bf fl (12 * fl + j) (v + 1)))), (7, .int (nI (v + 1)))]) [0, 1, 2, 3, 4, 5, 6, 7] rfl ?_
                      exact lp2 (nu - (v + 1)) (by omega) (v + 1) rfl (by omega)
                    · skip
                      exact absurd qz85 (by decide)
                · skip
                  refine S_n g 4 (pc' := 80) (lv' := [(0, .ref (ad 500)), (1, .int (nI u)), (2, .int (nI bf)), (3, .int (nI fl)), (4, .int (nI (cnV (B 501) nu u bf fl j))), (5, .int (nI (12 * fl + j))), (6, .int (bI (isV (B 501) u bf fl (12 * fl + j) v))), (7, .int (nI v)), (8, .int (nI 1))]) (st' := [.int (bI (isV (B 501) u bf fl (12 * fl + j) v))]) rfl ?_
                  refine S_ifB_eq g (tgt := 119) rfl (by decide) (fun qz80 => ?_) (fun qz80 => ?_)
                  · skip
                    refine S_n g 2 (pc' := 122) (lv' := [(0, .ref (ad 500)), (1, .int (nI u)), (2, .int (nI bf)), (3, .int (nI fl)), (4, .int (nI (cnV (B 501) nu u bf fl j))), (5, .int (nI (12 * fl + j))), (6, .int (nI 0)), (7, .int (nI v)), (8, .int (nI 1))]) (st' := []) rfl ?_
                    refine S_lveq (lv' := [(0, .ref (ad 500)), (1, .int (nI u)), (2, .int (nI bf)), (3, .int (nI fl)), (4, .int (nI (cnV (B 501) nu u bf fl j))), (5, .int (nI (12 * fl + j))), (6, .int (bI (isV (B 501) u bf fl (12 * fl + j) (v + 1)))), (7, .int (nI v)), (8, .int (nI 1))]) (by rw [(show nI 0 = bI (isV (B 501) u bf fl (12 * fl + j) (v + 1)) from by cases hbv : bf.testBit v <;> simp_all [isV, bI]).symm]) ?_
                    refine S_n g 1 (pc' := 125) (lv' := [(0, .ref (ad 500)), (1, .int (nI u)), (2, .int (nI bf)), (3, .int (nI fl)), (4, .int (nI (cnV (B 501) nu u bf fl j))), (5, .int (nI (12 * fl + j))), (6, .int (bI (isV (B 501) u bf fl (12 * fl + j) (v + 1)))), (7, .int ((nI v) + nI 1)), (8, .int (nI 1))]) (st' := []) rfl ?_
                    rw [nI_add v 1]
                    refine S_n g 1 (pc' := 52) (lv' := [(0, .ref (ad 500)), (1, .int (nI u)), (2, .int (nI bf)), (3, .int (nI fl)), (4, .int (nI (cnV (B 501) nu u bf fl j))), (5, .int (nI (12 * fl + j))), (6, .int (bI (isV (B 501) u bf fl (12 * fl + j) (v + 1)))), (7, .int (nI (v + 1))), (8, .int (nI 1))]) (st' := []) rfl ?_
                    refine S_keep (lv' := [(0, .ref (ad 500)), (1, .int (nI u)), (2, .int (nI bf)), (3, .int (nI fl)), (4, .int (nI (cnV (B 501) nu u bf fl j))), (5, .int (nI (12 * fl + j))), (6, .int (bI (isV (B 501) u bf fl (12 * fl + j) (v + 1)))), (7, .int (nI (v + 1)))]) [0, 1, 2, 3, 4, 5, 6, 7] rfl ?_
                    exact lp2 (nu - (v + 1)) (by omega) (v + 1) rfl (by omega)
                  · skip
                    refine S_n g 1 (pc' := 85) (lv' := [(0, .ref (ad 500)), (1, .int (nI u)), (2, .int (nI bf)), (3, .int (nI fl)), (4, .int (nI (cnV (B 501) nu u bf fl j))), (5, .int (nI (12 * fl + j))), (6, .int (bI (isV (B 501) u bf fl (12 * fl + j) v))), (7, .int (nI v)), (8, .int (nI 1))]) (st' := [.int (nI 1)]) rfl ?_
                    refine S_ifN_eq g (tgt := 115) (by omega) rfl (by decide) (fun qz85 => ?_) (fun qz85 => ?_)
                    · skip
                      exact absurd qz85 (by decide)
                    · skip
                      refine S_n g 3 (pc' := 93) (lv' := [(0, .ref (ad 500)), (1, .int (nI u)), (2, .int (nI bf)), (3, .int (nI fl)), (4, .int (nI (cnV (B 501) nu u bf fl j))), (5, .int (nI (12 * fl + j))), (6, .int (bI (isV (B 501) u bf fl (12 * fl + j) v))), (7, .int (nI v)), (8, .int (nI 1))]) (st' := [.int (nI (12 * fl + j)), .int (nI v), .ref (ad 500)]) rfl ?_
                      refine S_cV g (i := 500) (As := [.int (nI v), .int (nI (12 * fl + j))]) (st := []) (sp_has ad I J A B v (12 * fl + j) (by omega) (by omega)) mw_X9_has lk_X9_87 ⟨Nat.le_of_ble_eq_true rfl, Nat.le_of_ble_eq_true rfl⟩ (by decide) (by decide) rfl rfl (Nat.le_of_ble_eq_true rfl) ⟨Nat.le_of_ble_eq_true rfl, Nat.le_of_ble_eq_true rfl⟩ rfl ?_
                      show Sim X (YR ad) 96 [(0, .ref (ad 500)), (1, .int (nI u)), (2, .int (nI bf)), (3, .int (nI fl)), (4, .int (nI (cnV (B 501) nu u bf fl j))), (5, .int (nI (12 * fl + j))), (6, .int (bI (isV (B 501) u bf fl (12 * fl + j) v))), (7, .int (nI v)), (8, .int (nI 1))] [.int (bI (tb (B 501 (63 + v)) (12 * fl + j)))] I J A B 0 0
                      refine S_ifB_ne g (tgt := 119) rfl (by decide) (fun qz96 => ?_) (fun qz96 => ?_)
                      · skip
                        refine S_n g 2 (pc' := 122) (lv' := [(0, .ref (ad 500)), (1, .int (nI u)), (2, .int (nI bf)), (3, .int (nI fl)), (4, .int (nI (cnV (B 501) nu u bf fl j))), (5, .int (nI (12 * fl + j))), (6, .int (nI 0)), (7, .int (nI v)), (8, .int (nI 1))]) (st' := []) rfl ?_
                        refine S_lveq (lv' := [(0, .ref (ad 500)), (1, .int (nI u)), (2, .int (nI bf)), (3, .int (nI fl)), (4, .int (nI (cnV (B 501) nu u bf fl j))), (5, .int (nI (12 * fl + j))), (6, .int (bI (isV (B 501) u bf fl (12 * fl + j) (v + 1)))), (7, .int (nI v)), (8, .int (nI 1))]) (by rw [(show nI 0 = bI (isV (B 501) u bf fl (12 * fl + j) (v + 1)) from by cases hbv : bf.testBit v <;> simp_all [isV, bI]).symm]) ?_
                        refine S_n g 1 (pc' := 125) (lv' := [(0, .ref (ad 500)), (1, .int (nI u)), (2, .int (nI bf)), (3, .int (nI fl)), (4, .int (nI (cnV (B 501) nu u bf fl j))), (5, .int (nI (12 * fl + j))), (6, .int (bI (isV (B 501) u bf fl (12 * fl + j) (v + 1)))), (7, .int ((nI v) + nI 1)), (8, .int (nI 1))]) (st' := []) rfl ?_
                        rw [nI_add v 1]
                        refine S_n g 1 (pc' := 52) (lv' := [(0, .ref (ad 500)), (1, .int (nI u)), (2, .int (nI bf)), (3, .int (nI fl)), (4, .int (nI (cnV (B 501) nu u bf fl j))), (5, .int (nI (12 * fl + j))), (6, .int (bI (isV (B 501) u bf fl (12 * fl + j) (v + 1)))), (7, .int (nI (v + 1))), (8, .int (nI 1))]) (st' := []) rfl ?_
                        refine S_keep (lv' := [(0, .ref (ad 500)), (1, .int (nI u)), (2, .int (nI bf)), (3, .int (nI fl)), (4, .int (nI (cnV (B 501) nu u bf fl j))), (5, .int (nI (12 * fl + j))), (6, .int (bI (isV (B 501) u bf fl (12 * fl + j) (v + 1)))), (7, .int (nI (v + 1)))]) [0, 1, 2, 3, 4, 5, 6, 7] rfl ?_
                        exact lp2 (nu - (v + 1)) (by omega) (v + 1) rfl (by omega)
                      · skip
                        refine S_n g 1 (pc' := 100) (lv' := [(0, .ref (ad 500)), (1, .int (nI u)), (2, .int (nI bf)), (3, .int (nI fl)), (4, .int (nI (cnV (B 501) nu u bf fl j))), (5, .int (nI (12 * fl + j))), (6, .int (bI (isV (B 501) u bf fl (12 * fl + j) v))), (7, .int (nI v)), (8, .int (nI 1))]) (st' := [.ref (ad 500)]) rfl ?_
                        refine S_getR g (i := 500) (c := 9) (k := 0) (j := 501) (by decide) (by decide) rfl rfl rfl fl_X9_7 rfl ?_
                        refine S_n g 3 (pc' := 108) (lv' := [(0, .ref (ad 500)), (1, .int (nI u)), (2, .int (nI bf)), (3, .int (nI fl)), (4, .int (nI (cnV (B 501) nu u bf fl j))), (5, .int (nI (12 * fl + j))), (6, .int (bI (isV (B 501) u bf fl (12 * fl + j) v))), (7, .int (nI v)), (8, .int (nI 1))]) (st' := [.int ((nI 69) + (nI v)), .ref (ad 501)]) rfl ?_
                        rw [nI_add 69 v]
                        refine S_laldN g (i := 501) (e := 69 + v) (by decide) rfl (show 69 + v < 621 from by omega) (show (621 : Nat) < 2 ^ 31 from by decide) rfl ?_
                        refine S_n g 2 (pc' := 111) (lv' := [(0, .ref (ad 500)), (1, .int (nI u)), (2, .int (nI bf)), (3, .int (nI fl)), (4, .int (nI (cnV (B 501) nu u bf fl j))), (5, .int (nI (12 * fl + j))), (6, .int (bI (isV (B 501) u bf fl (12 * fl + j) v))), (7, .int (nI v)), (8, .int (nI 1))]) (st' := [.long (nI fl).toInt64, .long (B 501 (69 + v))]) rfl ?_
                        rw [nI_l (n := fl) (by omega)]
                        refine S_lc_eq g (tgt := 119) rfl rfl (by decide) (fun qz111 => ?_) (fun qz111 => ?_)
                        · skip
                          refine S_n g 2 (pc' := 122) (lv' := [(0, .ref (ad 500)), (1, .int (nI u)), (2, .int (nI bf)), (3, .int (nI fl)), (4, .int (nI (cnV (B 501) nu u bf fl j))), (5, .int (nI (12 * fl + j))), (6, .int (nI 0)), (7, .int (nI v)), (8, .int (nI 1))]) (st' := []) rfl ?_
                          refine S_lveq (lv' := [(0, .ref (ad 500)), (1, .int (nI u)), (2, .int (nI bf)), (3, .int (nI fl)), (4, .int (nI (cnV (B 501) nu u bf fl j))), (5, .int (nI (12 * fl + j))), (6, .int (bI (isV (B 501) u bf fl (12 * fl + j) (v + 1)))), (7, .int (nI v)), (8, .int (nI 1))]) (by rw [(show nI 0 = bI (isV (B 501) u bf fl (12 * fl + j) (v + 1)) from by cases hbv : bf.testBit v <;> simp_all [isV, bI]).symm]) ?_
                          refine S_n g 1 (pc' := 125) (lv' := [(0, .ref (ad 500)), (1, .int (nI u)), (2, .int (nI bf)), (3, .int (nI fl)), (4, .int (nI (cnV (B 501) nu u bf fl j))), (5, .int (nI (12 * fl + j))), (6, .int (bI (isV (B 501) u bf fl (12 * fl + j) (v + 1)))), (7, .int ((nI v) + nI 1)), (8, .int (nI 1))]) (st' := []) rfl ?_
                          rw [nI_add v 1]
                          refine S_n g 1 (pc' := 52) (lv' := [(0, .ref (ad 500)), (1, .int (nI u)), (2, .int (nI bf)), (3, .int (nI fl)), (4, .int (nI (cnV (B 501) nu u bf fl j))), (5, .int (nI (12 * fl + j))), (6, .int (bI (isV (B 501) u bf fl (12 * fl + j) (v + 1)))), (7, .int (nI (v + 1))), (8, .int (nI 1))]) (st' := []) rfl ?_
                          refine S_keep (lv' := [(0, .ref (ad 500)), (1, .int (nI u)), (2, .int (nI bf)), (3, .int (nI fl)), (4, .int (nI (cnV (B 501) nu u bf fl j))), (5, .int (nI (12 * fl + j))), (6, .int (bI (isV (B 501) u bf fl (12 * fl + j) (v + 1)))), (7, .int (nI (v + 1)))]) [0, 1, 2, 3, 4, 5, 6, 7] rfl ?_
                          exact lp2 (nu - (v + 1)) (by omega) (v + 1) rfl (by omega)
                        · skip
                          refine S_n g 3 (pc' := 122) (lv' := [(0, .ref (ad 500)), (1, .int (nI u)), (2, .int (nI bf)), (3, .int (nI fl)), (4, .int (nI (cnV (B 501) nu u bf fl j))), (5, .int (nI (12 * fl + j))), (6, .int (nI 1)), (7, .int (nI v)), (8, .int (nI 1))]) (st' := []) rfl ?_
                          refine S_lveq (lv' := [(0, .ref (ad 500)), (1, .int (nI u)), (2, .int (nI bf)), (3, .int (nI fl)), (4, .int (nI (cnV (B 501) nu u bf fl j))), (5, .int (nI (12 * fl + j))), (6, .int (bI (isV (B 501) u bf fl (12 * fl + j) (v + 1)))), (7, .int (nI v)), (8, .int (nI 1))]) (by rw [(show nI 1 = bI (isV (B 501) u bf fl (12 * fl + j) (v + 1)) from by cases hbv : bf.testBit v <;> simp_all [isV, bI]).symm]) ?_
                          refine S_n g 1 (pc' := 125) (lv' := [(0, .ref (ad 500)), (1, .int (nI u)), (2, .int (nI bf)), (3, .int (nI fl)), (4, .int (nI (cnV (B 501) nu u bf fl j))), (5, .int (nI (12 * fl + j))), (6, .int (bI (isV (B 501) u bf fl (12 * fl + j) (v + 1)))), (7, .int ((nI v) + nI 1)), (8, .int (nI 1))]) (st' := []) rfl ?_
                          rw [nI_add v 1]
                          refine S_n g 1 (pc' := 52) (lv' := [(0, .ref (ad 500)), (1, .int (nI u)), (2, .int (nI bf)), (3, .int (nI fl)), (4, .int (nI (cnV (B 501) nu u bf fl j))), (5, .int (nI (12 * fl + j))), (6, .int (bI (isV (B 501) u bf fl (12 * fl + j) (v + 1)))), (7, .int (nI (v + 1))), (8, .int (nI 1))]) (st' := []) rfl ?_
                          refine S_keep (lv' := [(0, .ref (ad 500)), (1, .int (nI u)), (2, .int (nI bf)), (3, .int (nI fl)), (4, .int (nI (cnV (B 501) nu u bf fl j))), (5, .int (nI (12 * fl + j))), (6, .int (bI (isV (B 501) u bf fl (12 * fl + j) (v + 1)))), (7, .int (nI (v + 1)))]) [0, 1, 2, 3, 4, 5, 6, 7] rfl ?_
                          exact lp2 (nu - (v + 1)) (by omega) (v + 1) rfl (by omega)
          exact lp2 _ 0 rfl (by omega)
  exact lp _ 0 rfl (by omega)

/-- the best so far for a set s, over its members below u, by a table b of the smaller sets -/
def bmx (m : Nat → Int64) (nu : Nat) (b : Nat → Nat) (s : Nat) : Nat → Nat
  | 0 => 0
  | u + 1 => if s.testBit u = true then (if bmx m nu b s u < b (sdf s (2 ^ u)) + cnV m nu u (sdf s (2 ^ u)) (m (69 + u)).toInt.toNat 12 then b (sdf s (2 ^ u)) + cnV m nu u (sdf s (2 ^ u)) (m (69 + u)).toInt.toNat 12 else bmx m nu b s u) else bmx m nu b s u
/-- the table of all sets of demanding users, below n -/
def btab (m : Nat → Int64) (nu all : Nat) : Nat → (Nat → Nat)
  | 0 => fun _ => 0
  | n + 1 => va_up (btab m nu all n) n (if sdf n all = 0 then bmx m nu (btab m nu all n) n nu else 0)
def o_bound (m : Nat → Int64) (nu : Nat) : Nat := btab m nu (dmN m nu) 64 (dmN m nu)
theorem bmx_cong {m : Nat → Int64} {nu : Nat} {b c : Nat → Nat} {s : Nat} (hs : s < 64) (h : ∀ r, r < s → b r = c r) : ∀ u, u ≤ 6 → bmx m nu b s u = bmx m nu c s u
  | 0, _ => rfl
  | u + 1, hu => by
    have ih := bmx_cong (m := m) (nu := nu) hs h u (by omega)
    unfold bmx
    split
    · rename_i ht
      have hlt : sdf s (2 ^ u) < s := by
        have h1 : sdf s (2 ^ u) ≤ s := Nat.and_le_left
        have h2 : sdf s (2 ^ u) ≠ s := fun q => by rw [(sdf_self hs).mp q] at ht; cases ht
        omega
      rw [ih, h _ hlt]
    · exact ih
theorem bmx_le {m : Nat → Int64} {nu : Nat} {b : Nat → Nat} {s : Nat} (hb : ∀ r, r < 64 → b r ≤ 12 * r) (hs : s < 64) : ∀ u, u ≤ 6 → bmx m nu b s u ≤ 12 * s
  | 0, _ => Nat.zero_le _
  | u + 1, hu => by
    have ih := bmx_le (m := m) (nu := nu) hb hs u (by omega)
    unfold bmx
    split
    · rename_i ht
      have h1 : sdf s (2 ^ u) ≤ s := Nat.and_le_left
      have h2 : sdf s (2 ^ u) ≠ s := fun q => by rw [(sdf_self hs).mp q] at ht; cases ht
      have h3 := hb (sdf s (2 ^ u)) (by omega)
      have h4 := cnV_le m nu u (sdf s (2 ^ u)) (m (69 + u)).toInt.toNat 12
      split <;> omega
    · exact ih

theorem sdf_ne {s u : Nat} (hs : s < 64) (h : sdf s (2 ^ u) ≠ s) : s.testBit u = true := by
  cases e : s.testBit u with
  | false => exact absurd ((sdf_self hs).mpr e) h
  | true => rfl
theorem btab_le (m : Nat → Int64) (nu all : Nat) (hnu : nu ≤ 6) : ∀ n, n ≤ 64 → ∀ r, r < 64 → btab m nu all n r ≤ 12 * r
  | 0, _, r, _ => Nat.zero_le _
  | n + 1, hn, r, hr => by
    have ih := btab_le m nu all hnu n (by omega)
    unfold btab
    by_cases e : r = n
    · subst e
      rw [va_up_self]
      split
      · exact bmx_le ih hr nu hnu
      · exact Nat.zero_le _
    · rw [va_up_ne _ _ e]
      exact ih r hr
theorem btab_lt (m : Nat → Int64) (nu all : Nat) {r n : Nat} (h : r ≠ n) : btab m nu all (n + 1) r = btab m nu all n r := va_up_ne _ _ h
theorem btab_at (m : Nat → Int64) (nu all n : Nat) : btab m nu all (n + 1) n = if sdf n all = 0 then bmx m nu (btab m nu all n) n nu else 0 := va_up_self _ _ _

theorem bt_next {m : Nat → Int64} {nu all s : Nat} {a : Nat → Int32} (ha : ∀ r, r < s → a r = nI (btab m nu all s r)) {z : Nat} (hz : sdf s all = 0 → z = bmx m nu (btab m nu all s) s nu) (hn : 0 < sdf s all → z = 0) : ∀ r, r < s + 1 → va_up a s (nI z) r = nI (btab m nu all (s + 1) r) := by
  intro r hr
  by_cases e : r = s
  · subst e
    rw [va_up_self, btab_at]
    split
    · rename_i h; rw [hz h]
    · rename_i h; rw [hn (by omega)]
  · rw [va_up_ne _ _ e, btab_lt _ _ _ e, ha r (by omega)]
set_option maxRecDepth 100000 in
set_option maxHeartbeats 4000000 in
theorem sp_bound (ad : Nat → Nat) (I : FI) (J : FJ) (A : FI) (B : FJ) (nf nu : Nat) (hU : B 501 1 = lN nu) (h2 : nu ≤ 6) (h3 : nf ≤ 5) (hWs : ∀ u, u < 6 → okW (B 501) u nf) : Spec M_X9_bound [.ref (ad 500)] (YR ad) I J A B (fun v' Y' I' J' A' B' => v' = some (.int (nI (o_bound (B 501) nu))) ∧ Y' = YR ad ∧ I' = I ∧ J' = J ∧ B' = B ∧ ∃ a, A' = va_up A 508 a) := by
  have hal := dmN_lt (B 501) nu h2
  refine Spec_of (by decide) tk_X9_bound (Nat.le_of_ble_eq_true rfl) (fun X g rt => ?_)
  show Sim X (YR ad) 0 [(0, .ref (ad 500))] [] I J A B 0 0
  refine S_n g 1 (pc' := 1) (lv' := [(0, .ref (ad 500))]) (st' := [.ref (ad 500)]) rfl ?_
  refine S_cV g (i := 500) (As := []) (st := []) (sp_demanding ad I J A B nu hU h2) mw_X9_demanding lk_X9_176 ⟨Nat.le_of_ble_eq_true rfl, Nat.le_of_ble_eq_true rfl⟩ (by decide) (by decide) rfl rfl (Nat.le_of_ble_eq_true rfl) ⟨Nat.le_of_ble_eq_true rfl, Nat.le_of_ble_eq_true rfl⟩ rfl ?_
  show Sim X (YR ad) 4 [(0, .ref (ad 500))] [.int (nI (dmN (B 501) nu))] I J A B 0 0
  obtain ⟨all, hall⟩ : ∃ all, all = dmN (B 501) nu := ⟨_, rfl⟩
  rw [← hall] at hal ⊢
  refine S_n g 3 (pc' := 7) (lv' := [(0, .ref (ad 500)), (1, .int (nI all)), (2, .int (nI 0))]) (st' := []) rfl ?_
  have lp : ∀ (nn : Nat) (s : Nat) (a : Nat → Int32), 64 - s = nn → (s ≤ 64) → (∀ r, r < s → a r = nI (btab (B 501) nu all s r)) → Sim X (YR ad) 7 [(0, .ref (ad 500)), (1, .int (nI all)), (2, .int (nI s))] [] I J (va_up A 508 a) B 0 0 := by
    intro nn
    induction nn using Nat.strongRecOn with
    | ind nn ih =>
      intro s a hmz hs ha
      have lp := ih
      have hbl := btab_le (B 501) nu all h2 s (by omega)
      refine S_n g 2 (pc' := 10) (lv' := [(0, .ref (ad 500)), (1, .int (nI all)), (2, .int (nI s))]) (st' := [.int (nI 64), .int (nI s)]) rfl ?_
      refine S_icN_ge g (tgt := 110) (by omega) (by omega) rfl (by decide) (fun qz10 => ?_) (fun qz10 => ?_)
      · skip
        have hs9 : s = 64 := by omega
        refine S_n g 1 (pc' := 111) (lv' := [(0, .ref (ad 500)), (1, .int (nI all)), (2, .int (nI s))]) (st' := [.ref (ad 500)]) rfl ?_
        refine S_getR g (i := 500) (c := 9) (k := 12) (j := 508) (by decide) (by decide) rfl rfl rfl fl_X9_37 rfl ?_
        refine S_n g 1 (pc' := 115) (lv' := [(0, .ref (ad 500)), (1, .int (nI all)), (2, .int (nI s))]) (st' := [.int (nI all), .ref (ad 508)]) rfl ?_
        refine S_ialdN g (i := 508) (e := all) (by decide) rfl (show all < 64 from by omega) (show (64 : Nat) < 2 ^ 31 from by decide) rfl ?_
        show Sim X (YR ad) 116 [(0, .ref (ad 500)), (1, .int (nI all)), (2, .int (nI s))] [.int (a all)] I J (va_up A 508 a) B 0 0
        rw [ha all (by omega)]
        exact rtI rt rfl rfl (⟨by unfold o_bound; rw [← hall, hs9], rfl, rfl, rfl, rfl, _, rfl⟩)
      · skip
        refine S_n g 1 (pc' := 14) (lv' := [(0, .ref (ad 500)), (1, .int (nI all)), (2, .int (nI s))]) (st' := [.ref (ad 500)]) rfl ?_
        refine S_getR g (i := 500) (c := 9) (k := 12) (j := 508) (by decide) (by decide) rfl rfl rfl fl_X9_37 rfl ?_
        refine S_n g 2 (pc' := 19) (lv' := [(0, .ref (ad 500)), (1, .int (nI all)), (2, .int (nI s))]) (st' := [.int (nI 0), .int (nI s), .ref (ad 508)]) rfl ?_
        refine S_iastN g (i := 508) (e := s) (by decide) rfl (show s < 64 from by omega) (show (64 : Nat) < 2 ^ 31 from by decide) rfl ?_
        rw [up2_r1 (i := 508)]
        refine S_n g 2 (pc' := 22) (lv' := [(0, .ref (ad 500)), (1, .int (nI all)), (2, .int (nI s)), (3, .int (nI 0))]) (st' := []) rfl ?_
        have lp2 : ∀ (nn : Nat) (u : Nat), nu - u = nn → (u ≤ nu) → (0 < sdf s all → u = 0) → Sim X (YR ad) 22 [(0, .ref (ad 500)), (1, .int (nI all)), (2, .int (nI s)), (3, .int (nI u))] [] I J (va_up A 508 (va_up a s (nI (bmx (B 501) nu (btab (B 501) nu all s) s u)))) B 0 0 := by
          intro nn
          induction nn using Nat.strongRecOn with
          | ind nn ih =>
            intro u hmz hu hcs
            have lp2 := ih
            refine S_n g 2 (pc' := 24) (lv' := [(0, .ref (ad 500)), (1, .int (nI all)), (2, .int (nI s)), (3, .int (nI u))]) (st' := [.ref (ad 500), .int (nI u)]) rfl ?_
            refine S_cV g (i := 500) (As := []) (st := [.int (nI u)]) (sp_users ad I J (va_up A 508 (va_up a s (nI (bmx (B 501) nu (btab (B 501) nu all s) s u)))) B nu hU) mw_X9_users lk_X9_71 ⟨Nat.le_of_ble_eq_true rfl, Nat.le_of_ble_eq_true rfl⟩ (by decide) (by decide) rfl rfl (Nat.le_of_ble_eq_true rfl) ⟨Nat.le_of_ble_eq_true rfl, Nat.le_of_ble_eq_true rfl⟩ rfl ?_
            show Sim X (YR ad) 27 [(0, .ref (ad 500)), (1, .int (nI all)), (2, .int (nI s)), (3, .int (nI u))] [.int (nI nu), .int (nI u)] I J (va_up A 508 (va_up a s (nI (bmx (B 501) nu (btab (B 501) nu all s) s u)))) B 0 0
            refine S_icN_ge g (tgt := 104) (by omega) (by omega) rfl (by decide) (fun qz27 => ?_) (fun qz27 => ?_)
            · skip
              have hu9 : u = nu := by omega
              refine S_n g 1 (pc' := 107) (lv' := [(0, .ref (ad 500)), (1, .int (nI all)), (2, .int ((nI s) + nI 1)), (3, .int (nI u))]) (st' := []) rfl ?_
              rw [nI_add s 1]
              refine S_n g 1 (pc' := 7) (lv' := [(0, .ref (ad 500)), (1, .int (nI all)), (2, .int (nI (s + 1))), (3, .int (nI u))]) (st' := []) rfl ?_
              refine S_keep (lv' := [(0, .ref (ad 500)), (1, .int (nI all)), (2, .int (nI (s + 1)))]) [0, 1, 2] rfl ?_
              exact lp (64 - (s + 1)) (by omega) (s + 1) (va_up a s (nI (bmx (B 501) nu (btab (B 501) nu all s) s u))) rfl (by omega) (bt_next ha (fun _ => by rw [hu9]) (fun h => by rw [hcs h]; rfl))
            · skip
              refine S_n g 5 (pc' := 35) (lv' := [(0, .ref (ad 500)), (1, .int (nI all)), (2, .int (nI s)), (3, .int (nI u))]) (st' := [.int ((nI s) &&& ((nI all) ^^^ (-nI 1)))]) rfl ?_
              refine S_steq (st' := [.int (nI (sdf s all))]) (by rw [(show (nI s) &&& ((nI all) ^^^ (-nI 1)) = nI (sdf s all) from nI_sdf (by omega)).symm]) ?_
              have hsl0 : sdf s all < 64 := sdf_lt (by omega)
              refine S_ifN_ne g (tgt := 104) (by omega) rfl (by decide) (fun qz35 => ?_) (fun qz35 => ?_)
              · skip
                have hu0 : u = 0 := hcs (by omega)
                refine S_n g 1 (pc' := 107) (lv' := [(0, .ref (ad 500)), (1, .int (nI all)), (2, .int ((nI s) + nI 1)), (3, .int (nI u))]) (st' := []) rfl ?_
                rw [nI_add s 1]
                refine S_n g 1 (pc' := 7) (lv' := [(0, .ref (ad 500)), (1, .int (nI all)), (2, .int (nI (s + 1))), (3, .int (nI u))]) (st' := []) rfl ?_
                refine S_keep (lv' := [(0, .ref (ad 500)), (1, .int (nI all)), (2, .int (nI (s + 1)))]) [0, 1, 2] rfl ?_
                exact lp (64 - (s + 1)) (by omega) (s + 1) (va_up a s (nI (bmx (B 501) nu (btab (B 501) nu all s) s u))) rfl (by omega) (bt_next ha (fun h => absurd h (by omega)) (fun _ => by rw [hu0]; rfl))
              · skip
                refine S_n g 7 (pc' := 45) (lv' := [(0, .ref (ad 500)), (1, .int (nI all)), (2, .int (nI s)), (3, .int (nI u))]) (st' := [.int ((nI s) &&& (((nI 1) <<< ((nI u) &&& 31)) ^^^ (-nI 1)))]) rfl ?_
                refine S_steq (st' := [.int (nI (sdf s (2 ^ u)))]) (by rw [(show (nI s) &&& (((nI 1) <<< ((nI u) &&& 31)) ^^^ (-nI 1)) = nI (sdf s (2 ^ u)) from nI_sdf1 (by omega) (by omega)).symm]) ?_
                have hsl : sdf s (2 ^ u) < 64 := sdf_lt (by omega)
                have hsle : sdf s (2 ^ u) ≤ s := Nat.and_le_left
                refine S_n g 3 (pc' := 50) (lv' := [(0, .ref (ad 500)), (1, .int (nI all)), (2, .int (nI s)), (3, .int (nI u)), (4, .int (nI (sdf s (2 ^ u))))]) (st' := [.int (nI s), .int (nI (sdf s (2 ^ u)))]) rfl ?_
                refine S_icN_eq g (tgt := 98) (by omega) (by omega) rfl (by decide) (fun qz50 => ?_) (fun qz50 => ?_)
                · skip
                  have hbs : bmx (B 501) nu (btab (B 501) nu all s) s (u + 1) = bmx (B 501) nu (btab (B 501) nu all s) s u := by rw [bmx, if_neg (by rw [(sdf_self (show s < 64 from by omega)).mp qz50]; decide)]
                  rw [← hbs]
                  refine S_n g 1 (pc' := 101) (lv' := [(0, .ref (ad 500)), (1, .int (nI all)), (2, .int (nI s)), (3, .int ((nI u) + nI 1)), (4, .int (nI (sdf s (2 ^ u))))]) (st' := []) rfl ?_
                  rw [nI_add u 1]
                  refine S_n g 1 (pc' := 22) (lv' := [(0, .ref (ad 500)), (1, .int (nI all)), (2, .int (nI s)), (3, .int (nI (u + 1))), (4, .int (nI (sdf s (2 ^ u))))]) (st' := []) rfl ?_
                  refine S_keep (lv' := [(0, .ref (ad 500)), (1, .int (nI all)), (2, .int (nI s)), (3, .int (nI (u + 1)))]) [0, 1, 2, 3] rfl ?_
                  exact lp2 (nu - (u + 1)) (by omega) (u + 1) rfl (by omega) (fun h => absurd qz35 (by omega))
                · skip
                  have hlt : sdf s (2 ^ u) < s := by omega
                  have htb : s.testBit u = true := sdf_ne (show s < 64 from by omega) (by omega)
                  have hau : all.testBit u = true := by have h := congrArg (fun z => z.testBit u) qz35; rw [sdf_bit (show s < 64 from by omega), htb] at h; simpa using h
                  have hwn : B 501 (69 + u) ≠ -lN 1 := by rw [hall, dmN_bit] at hau; simp at hau; exact hau.2
                  obtain ⟨fl, hfl, hWf⟩ := (hWs u (by omega)).resolve_left hwn
                  have hfe : (B 501 (69 + u)).toInt.toNat = fl := by rw [hWf, lN_nat' (by omega)]
                  have hcl := cnV_le (B 501) nu u (sdf s (2 ^ u)) fl 12
                  have hb1 := hbl (sdf s (2 ^ u)) hsl
                  have hb2 := bmx_le (m := B 501) (nu := nu) hbl (show s < 64 from by omega) u (by omega)
                  refine S_n g 1 (pc' := 54) (lv' := [(0, .ref (ad 500)), (1, .int (nI all)), (2, .int (nI s)), (3, .int (nI u)), (4, .int (nI (sdf s (2 ^ u))))]) (st' := [.ref (ad 500)]) rfl ?_
                  refine S_getR g (i := 500) (c := 9) (k := 12) (j := 508) (by decide) (by decide) rfl rfl rfl fl_X9_37 rfl ?_
                  refine S_n g 1 (pc' := 59) (lv' := [(0, .ref (ad 500)), (1, .int (nI all)), (2, .int (nI s)), (3, .int (nI u)), (4, .int (nI (sdf s (2 ^ u))))]) (st' := [.int (nI (sdf s (2 ^ u))), .ref (ad 508)]) rfl ?_
                  refine S_ialdN g (i := 508) (e := sdf s (2 ^ u)) (by decide) rfl (show sdf s (2 ^ u) < 64 from by omega) (show (64 : Nat) < 2 ^ 31 from by decide) rfl ?_
                  show Sim X (YR ad) 60 [(0, .ref (ad 500)), (1, .int (nI all)), (2, .int (nI s)), (3, .int (nI u)), (4, .int (nI (sdf s (2 ^ u))))] [.int ((va_up a s (nI (bmx (B 501) nu (btab (B 501) nu all s) s u))) (sdf s (2 ^ u)))] I J (va_up A 508 (va_up a s (nI (bmx (B 501) nu (btab (B 501) nu all s) s u)))) B 0 0
                  rw [va_up_ne _ _ (show sdf s (2 ^ u) ≠ s from by omega)]
                  rw [ha _ hlt]
                  refine S_n g 3 (pc' := 64) (lv' := [(0, .ref (ad 500)), (1, .int (nI all)), (2, .int (nI s)), (3, .int (nI u)), (4, .int (nI (sdf s (2 ^ u))))]) (st' := [.int (nI (sdf s (2 ^ u))), .int (nI u), .ref (ad 500), .int (nI (btab (B 501) nu all s (sdf s (2 ^ u))))]) rfl ?_
                  refine S_cV g (i := 500) (As := [.int (nI u), .int (nI (sdf s (2 ^ u)))]) (st := [.int (nI (btab (B 501) nu all s (sdf s (2 ^ u))))]) (sp_counts ad I J (va_up A 508 (va_up a s (nI (bmx (B 501) nu (btab (B 501) nu all s) s u)))) B u (sdf s (2 ^ u)) nu fl hU h2 (by omega) hsl hWf (by omega)) mw_X9_counts lk_X9_179 ⟨Nat.le_of_ble_eq_true rfl, Nat.le_of_ble_eq_true rfl⟩ (by decide) (by decide) rfl rfl (Nat.le_of_ble_eq_true rfl) ⟨Nat.le_of_ble_eq_true rfl, Nat.le_of_ble_eq_true rfl⟩ rfl ?_
                  show Sim X (YR ad) 67 [(0, .ref (ad 500)), (1, .int (nI all)), (2, .int (nI s)), (3, .int (nI u)), (4, .int (nI (sdf s (2 ^ u))))] [.int (nI (cnV (B 501) nu u (sdf s (2 ^ u)) fl 12)), .int (nI (btab (B 501) nu all s (sdf s (2 ^ u))))] I J (va_up A 508 (va_up a s (nI (bmx (B 501) nu (btab (B 501) nu all s) s u)))) B 0 0
                  refine S_n g 1 (pc' := 68) (lv' := [(0, .ref (ad 500)), (1, .int (nI all)), (2, .int (nI s)), (3, .int (nI u)), (4, .int (nI (sdf s (2 ^ u))))]) (st' := [.int ((nI (btab (B 501) nu all s (sdf s (2 ^ u)))) + (nI (cnV (B 501) nu u (sdf s (2 ^ u)) fl 12)))]) rfl ?_
                  rw [nI_add (btab (B 501) nu all s (sdf s (2 ^ u))) (cnV (B 501) nu u (sdf s (2 ^ u)) fl 12)]
                  refine S_n g 2 (pc' := 71) (lv' := [(0, .ref (ad 500)), (1, .int (nI all)), (2, .int (nI s)), (3, .int (nI u)), (4, .int (nI (sdf s (2 ^ u)))), (5, .int (nI ((btab (B 501) nu all s (sdf s (2 ^ u))) + (cnV (B 501) nu u (sdf s (2 ^ u)) fl 12))))]) (st' := [.ref (ad 500)]) rfl ?_
                  refine S_getR g (i := 500) (c := 9) (k := 12) (j := 508) (by decide) (by decide) rfl rfl rfl fl_X9_37 rfl ?_
                  refine S_n g 3 (pc' := 78) (lv' := [(0, .ref (ad 500)), (1, .int (nI all)), (2, .int (nI s)), (3, .int (nI u)), (4, .int (nI (sdf s (2 ^ u)))), (5, .int (nI ((btab (B 501) nu all s (sdf s (2 ^ u))) + (cnV (B 501) nu u (sdf s (2 ^ u)) fl 12))))]) (st' := [.ref (ad 500), .int (nI ((btab (B 501) nu all s (sdf s (2 ^ u))) + (cnV (B 501) nu u (sdf s (2 ^ u)) fl 12))), .int (nI s), .ref (ad 508)]) rfl ?_
                  refine S_getR g (i := 500) (c := 9) (k := 12) (j := 508) (by decide) (by decide) rfl rfl rfl fl_X9_37 rfl ?_
                  refine S_n g 1 (pc' := 82) (lv' := [(0, .ref (ad 500)), (1, .int (nI all)), (2, .int (nI s)), (3, .int (nI u)), (4, .int (nI (sdf s (2 ^ u)))), (5, .int (nI ((btab (B 501) nu all s (sdf s (2 ^ u))) + (cnV (B 501) nu u (sdf s (2 ^ u)) fl 12))))]) (st' := [.int (nI s), .ref (ad 508), .int (nI ((btab (B 501) nu all s (sdf s (2 ^ u))) + (cnV (B 501) nu u (sdf s (2 ^ u)) fl 12))), .int (nI s), .ref (ad 508)]) rfl ?_
                  refine S_ialdN g (i := 508) (e := s) (by decide) rfl (show s < 64 from by omega) (show (64 : Nat) < 2 ^ 31 from by decide) rfl ?_
                  show Sim X (YR ad) 83 [(0, .ref (ad 500)), (1, .int (nI all)), (2, .int (nI s)), (3, .int (nI u)), (4, .int (nI (sdf s (2 ^ u)))), (5, .int (nI ((btab (B 501) nu all s (sdf s (2 ^ u))) + (cnV (B 501) nu u (sdf s (2 ^ u)) fl 12))))] [.int ((va_up a s (nI (bmx (B 501) nu (btab (B 501) nu all s) s u))) s), .int (nI ((btab (B 501) nu all s (sdf s (2 ^ u))) + (cnV (B 501) nu u (sdf s (2 ^ u)) fl 12))), .int (nI s), .ref (ad 508)] I J (va_up A 508 (va_up a s (nI (bmx (B 501) nu (btab (B 501) nu all s) s u)))) B 0 0
                  rw [va_up_self]
                  refine S_icN_le g (tgt := 91) (by omega) (by omega) rfl (by decide) (fun qz83 => ?_) (fun qz83 => ?_)
                  · skip
                    refine S_n g 1 (pc' := 92) (lv' := [(0, .ref (ad 500)), (1, .int (nI all)), (2, .int (nI s)), (3, .int (nI u)), (4, .int (nI (sdf s (2 ^ u)))), (5, .int (nI ((btab (B 501) nu all s (sdf s (2 ^ u))) + (cnV (B 501) nu u (sdf s (2 ^ u)) fl 12))))]) (st' := [.ref (ad 500), .int (nI s), .ref (ad 508)]) rfl ?_
                    refine S_getR g (i := 500) (c := 9) (k := 12) (j := 508) (by decide) (by decide) rfl rfl rfl fl_X9_37 rfl ?_
                    refine S_n g 1 (pc' := 96) (lv' := [(0, .ref (ad 500)), (1, .int (nI all)), (2, .int (nI s)), (3, .int (nI u)), (4, .int (nI (sdf s (2 ^ u)))), (5, .int (nI ((btab (B 501) nu all s (sdf s (2 ^ u))) + (cnV (B 501) nu u (sdf s (2 ^ u)) fl 12))))]) (st' := [.int (nI s), .ref (ad 508), .int (nI s), .ref (ad 508)]) rfl ?_
                    refine S_ialdN g (i := 508) (e := s) (by decide) rfl (show s < 64 from by omega) (show (64 : Nat) < 2 ^ 31 from by decide) rfl ?_
                    show Sim X (YR ad) 97 [(0, .ref (ad 500)), (1, .int (nI all)), (2, .int (nI s)), (3, .int (nI u)), (4, .int (nI (sdf s (2 ^ u)))), (5, .int (nI ((btab (B 501) nu all s (sdf s (2 ^ u))) + (cnV (B 501) nu u (sdf s (2 ^ u)) fl 12))))] [.int ((va_up a s (nI (bmx (B 501) nu (btab (B 501) nu all s) s u))) s), .int (nI s), .ref (ad 508)] I J (va_up A 508 (va_up a s (nI (bmx (B 501) nu (btab (B 501) nu all s) s u)))) B 0 0
                    rw [va_up_self]
                    refine S_iastN g (i := 508) (e := s) (by decide) rfl (show s < 64 from by omega) (show (64 : Nat) < 2 ^ 31 from by decide) rfl ?_
                    rw [up2_r1 (i := 508)]
                    refine S_keep (lv' := [(0, .ref (ad 500)), (1, .int (nI all)), (2, .int (nI s)), (3, .int (nI u))]) [0, 1, 2, 3] rfl ?_
                    have hbs : bmx (B 501) nu (btab (B 501) nu all s) s (u + 1) = bmx (B 501) nu (btab (B 501) nu all s) s u := by rw [bmx, if_pos htb, hfe, if_neg (by omega)]
                    rw [va_up1, ← hbs]
                    refine S_n g 1 (pc' := 101) (lv' := [(0, .ref (ad 500)), (1, .int (nI all)), (2, .int (nI s)), (3, .int ((nI u) + nI 1))]) (st' := []) rfl ?_
                    rw [nI_add u 1]
                    refine S_n g 1 (pc' := 22) (lv' := [(0, .ref (ad 500)), (1, .int (nI all)), (2, .int (nI s)), (3, .int (nI (u + 1)))]) (st' := []) rfl ?_
                    exact lp2 (nu - (u + 1)) (by omega) (u + 1) rfl (by omega) (fun h => absurd qz35 (by omega))
                  · skip
                    refine S_n g 2 (pc' := 97) (lv' := [(0, .ref (ad 500)), (1, .int (nI all)), (2, .int (nI s)), (3, .int (nI u)), (4, .int (nI (sdf s (2 ^ u)))), (5, .int (nI ((btab (B 501) nu all s (sdf s (2 ^ u))) + (cnV (B 501) nu u (sdf s (2 ^ u)) fl 12))))]) (st' := [.int (nI ((btab (B 501) nu all s (sdf s (2 ^ u))) + (cnV (B 501) nu u (sdf s (2 ^ u)) fl 12))), .int (nI s), .ref (ad 508)]) rfl ?_
                    refine S_iastN g (i := 508) (e := s) (by decide) rfl (show s < 64 from by omega) (show (64 : Nat) < 2 ^ 31 from by decide) rfl ?_
                    rw [up2_r1 (i := 508)]
                    refine S_keep (lv' := [(0, .ref (ad 500)), (1, .int (nI all)), (2, .int (nI s)), (3, .int (nI u))]) [0, 1, 2, 3] rfl ?_
                    have hbs : bmx (B 501) nu (btab (B 501) nu all s) s (u + 1) = btab (B 501) nu all s (sdf s (2 ^ u)) + cnV (B 501) nu u (sdf s (2 ^ u)) fl 12 := by rw [bmx, if_pos htb, hfe, if_pos (by omega)]
                    rw [va_up1, ← hbs]
                    refine S_n g 1 (pc' := 101) (lv' := [(0, .ref (ad 500)), (1, .int (nI all)), (2, .int (nI s)), (3, .int ((nI u) + nI 1))]) (st' := []) rfl ?_
                    rw [nI_add u 1]
                    refine S_n g 1 (pc' := 22) (lv' := [(0, .ref (ad 500)), (1, .int (nI all)), (2, .int (nI s)), (3, .int (nI (u + 1)))]) (st' := []) rfl ?_
                    exact lp2 (nu - (u + 1)) (by omega) (u + 1) rfl (by omega) (fun h => absurd qz35 (by omega))
        exact lp2 _ 0 rfl (by omega) (fun _ => rfl)
  have h0 := lp _ 0 (A 508) rfl (by omega) (fun r hr => absurd hr (Nat.not_lt_zero r))
  rw [va_id] at h0
  exact h0
