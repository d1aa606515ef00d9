/-! the reference, part 10: schedules by pieces and by sets of users -/
/-- of the users in all, below k, those that have piece p -/
def hdN (m : Nat → Int64) (all p : Nat) : Nat → Nat
  | 0 => 0
  | u + 1 => if (all.testBit u && tb (m (63 + u)) p) = true then hdN m all p u ||| 2 ^ u else hdN m all p u
theorem hdN_lt (m : Nat → Int64) (all p : Nat) : ∀ k, k ≤ 6 → hdN m all p k < 64
  | 0, _ => by show 0 < 64; decide
  | k + 1, h => by
    have := hdN_lt m all p k (by omega)
    unfold hdN
    split
    · exact or_lt this (by omega)
    · exact this
/-- the queue holds just the sums of L -/
def qL (m : Nat → Int64) (L : List Int64) : Nat → Int64 := (L.foldl (fun (st : Nat × (Nat → Int64)) s => (st.1 + 1, (o_queues st.1 st.2 s).2)) (0, va_up m 327 (lN 0))).2
theorem qL_fst (L : List Int64) : ∀ (n : Nat) (r : Nat → Int64), (L.foldl (fun (st : Nat × (Nat → Int64)) s => (st.1 + 1, (o_queues st.1 st.2 s).2)) (n, r)).1 = n + L.length := by
  induction L with
  | nil => intro n r; rfl
  | cons a L ih => intro n r; rw [List.foldl_cons, ih, List.length_cons]; omega
theorem qL_snoc (m : Nat → Int64) (L : List Int64) (s : Int64) : qL m (L ++ [s]) = (o_queues L.length (qL m L) s).2 := by
  unfold qL
  rw [List.foldl_append]
  have h := qL_fst L 0 (va_up m 327 (lN 0))
  rw [Nat.zero_add] at h
  show (o_queues _ _ s).2 = _
  rw [h]
theorem qL_nil (m : Nat → Int64) : qL m [] = va_up m 327 (lN 0) := rfl
theorem qL_327 (m : Nat → Int64) (L : List Int64) : qL m L 327 = lN L.length := by
  rcases List.eq_nil_or_concat L with rfl | ⟨L', s, rfl⟩
  · rw [qL_nil, va_up_self]; rfl
  · rw [List.concat_eq_append, qL_snoc]
    unfold o_queues
    dsimp only
    rw [va_up_self, List.length_append]
    rfl
theorem qL_keep (m : Nat → Int64) {j : Nat} (hj : j < 327 ∨ 428 ≤ j) (L : List Int64) : ∀ n, L.length = n → n ≤ 100 → qL m L j = m j := by
  intro n
  induction n generalizing L with
  | zero =>
    intro h _
    rw [List.length_eq_zero_iff.mp h, qL_nil, va_up_ne _ _ (by omega)]
  | succ n ih =>
    intro h hn
    rcases List.eq_nil_or_concat L with rfl | ⟨L', s, rfl⟩
    · cases h
    · rw [List.concat_eq_append] at h ⊢
      rw [List.length_append] at h
      have hl : L'.length = n := by simpa using h
      rw [qL_snoc]
      unfold o_queues
      dsimp only
      rw [va_up_ne _ _ (by omega), va_up_ne _ _ (by omega)]
      exact ih L' hl (by omega)
theorem qL_lo (m : Nat → Int64) {L : List Int64} (hL : L.length ≤ 100) {j : Nat} (hj : j < 327) : qL m L j = m j := qL_keep m (Or.inl hj) L _ rfl hL

set_option maxRecDepth 100000 in
set_option maxHeartbeats 4000000 in
theorem sp_holders (ad : Nat → Nat) (I : FI) (J : FJ) (A : FI) (B : FJ) (p all nu : Nat) (hU : B 501 1 = lN nu) (h2 : nu ≤ 6) (hp : p < 60) : Spec M_X9_holders [.ref (ad 500), .int (nI p), .int (nI all)] (YR ad) I J A B (eqP (some (.int (nI (hdN (B 501) all p nu)))) (YR ad) I J A B) := by
  refine Spec_of (by decide) tk_X9_holders (Nat.le_of_ble_eq_true rfl) (fun X g rt => ?_)
  show Sim X (YR ad) 0 [(0, .ref (ad 500)), (1, .int (nI p)), (2, .int (nI all))] [] I J A B 0 0
  refine S_n g 4 (pc' := 5) (lv' := [(0, .ref (ad 500)), (1, .int (nI p)), (2, .int (nI all)), (3, .int (nI 0)), (4, .int (nI 0))]) (st' := []) rfl ?_
  have lp : ∀ (nn : Nat) (k : Nat), nu - k = nn → (k ≤ nu) → Sim X (YR ad) 5 [(0, .ref (ad 500)), (1, .int (nI p)), (2, .int (nI all)), (3, .int (nI (hdN (B 501) all p k))), (4, .int (nI k))] [] I J A B 0 0 := by
    intro nn
    induction nn using Nat.strongRecOn with
    | ind nn ih =>
      intro k hmz hk
      have lp := ih
      refine S_n g 2 (pc' := 8) (lv' := [(0, .ref (ad 500)), (1, .int (nI p)), (2, .int (nI all)), (3, .int (nI (hdN (B 501) all p k))), (4, .int (nI k))]) (st' := [.ref (ad 500), .int (nI k)]) rfl ?_
      refine S_cV g (i := 500) (As := []) (st := [.int (nI k)]) (sp_users ad I J A B nu hU) mw_X9_users lk_X9_71 ⟨Nat.le_of_ble_eq_true rfl, Nat.le_of_ble_eq_true rfl⟩ (by decide) (by decide) rfl rfl (Nat.le_of_ble_eq_true rfl) ⟨Nat.le_of_ble_eq_true rfl, Nat.le_of_ble_eq_true rfl⟩ rfl ?_
      show Sim X (YR ad) 11 [(0, .ref (ad 500)), (1, .int (nI p)), (2, .int (nI all)), (3, .int (nI (hdN (B 501) all p k))), (4, .int (nI k))] [.int (nI nu), .int (nI k)] I J A B 0 0
      refine S_icN_ge g (tgt := 51) (by omega) (by omega) rfl (by decide) (fun qz11 => ?_) (fun qz11 => ?_)
      · skip
        have hk9 : k = nu := by omega
        refine S_n g 1 (pc' := 52) (lv' := [(0, .ref (ad 500)), (1, .int (nI p)), (2, .int (nI all)), (3, .int (nI (hdN (B 501) all p k))), (4, .int (nI k))]) (st' := [.int (nI (hdN (B 501) all p k))]) rfl ?_
        exact rtI rt rfl rfl (by rw [hk9]; exact eqP_rf)
      · skip
        refine S_n g 6 (pc' := 21) (lv' := [(0, .ref (ad 500)), (1, .int (nI p)), (2, .int (nI all)), (3, .int (nI (hdN (B 501) all p k))), (4, .int (nI k))]) (st' := [.int (((nI all) >>> ((nI k) &&& 31)) &&& (nI 1)), .int (nI (hdN (B 501) all p k))]) rfl ?_
        refine S_steq (st' := [.int (nI (all.testBit k).toNat), .int (nI (hdN (B 501) all p k))]) (by rw [(show ((nI all) >>> ((nI k) &&& 31)) &&& (nI 1) = nI (all.testBit k).toNat from bit_nat (by omega)).symm]) ?_
        have hb1 : (all.testBit k).toNat ≤ 1 := Bool.toNat_le _
        refine S_n g 1 (pc' := 22) (lv' := [(0, .ref (ad 500)), (1, .int (nI p)), (2, .int (nI all)), (3, .int (nI (hdN (B 501) all p k))), (4, .int (nI k))]) (st' := [.int (nI 1), .int (nI (all.testBit k).toNat), .int (nI (hdN (B 501) all p k))]) rfl ?_
        refine S_icN_ne g (tgt := 42) (by omega) (by omega) rfl (by decide) (fun qz22 => ?_) (fun qz22 => ?_)
        · skip
          refine S_n g 3 (pc' := 45) (lv' := [(0, .ref (ad 500)), (1, .int (nI p)), (2, .int (nI all)), (3, .int ((nI (hdN (B 501) all p k)) ||| (nI 0))), (4, .int (nI k))]) (st' := []) rfl ?_
          refine S_lveq (lv' := [(0, .ref (ad 500)), (1, .int (nI p)), (2, .int (nI all)), (3, .int (nI (hdN (B 501) all p (k + 1)))), (4, .int (nI k))]) (by rw [(show (nI (hdN (B 501) all p k)) ||| (nI 0) = nI (hdN (B 501) all p (k + 1)) from by rw [hdN, if_neg (by cases hbv : all.testBit k <;> simp_all), nI_or, Nat.or_zero]).symm]) ?_
          refine S_n g 1 (pc' := 48) (lv' := [(0, .ref (ad 500)), (1, .int (nI p)), (2, .int (nI all)), (3, .int (nI (hdN (B 501) all p (k + 1)))), (4, .int ((nI k) + nI 1))]) (st' := []) rfl ?_
          rw [nI_add k 1]
          refine S_n g 1 (pc' := 5) (lv' := [(0, .ref (ad 500)), (1, .int (nI p)), (2, .int (nI all)), (3, .int (nI (hdN (B 501) all p (k + 1)))), (4, .int (nI (k + 1)))]) (st' := []) rfl ?_
          exact lp (nu - (k + 1)) (by omega) (k + 1) rfl (by omega)
        · skip
          refine S_n g 3 (pc' := 29) (lv' := [(0, .ref (ad 500)), (1, .int (nI p)), (2, .int (nI all)), (3, .int (nI (hdN (B 501) all p k))), (4, .int (nI k))]) (st' := [.int (nI p), .int (nI k), .ref (ad 500), .int (nI (hdN (B 501) all p k))]) rfl ?_
          refine S_cV g (i := 500) (As := [.int (nI k), .int (nI p)]) (st := [.int (nI (hdN (B 501) all p k))]) (sp_has ad I J A B k p (by omega) (by omega)) mw_X9_has lk_X9_87 ⟨Nat.le_of_ble_eq_true rfl, Nat.le_of_ble_eq_true rfl⟩ (by decide) (by decide) rfl rfl (Nat.le_of_ble_eq_true rfl) ⟨Nat.le_of_ble_eq_true rfl, Nat.le_of_ble_eq_true rfl⟩ rfl ?_
          show Sim X (YR ad) 32 [(0, .ref (ad 500)), (1, .int (nI p)), (2, .int (nI all)), (3, .int (nI (hdN (B 501) all p k))), (4, .int (nI k))] [.int (bI (tb (B 501 (63 + k)) p)), .int (nI (hdN (B 501) all p k))] I J A B 0 0
          refine S_ifB_eq g (tgt := 42) rfl (by decide) (fun qz32 => ?_) (fun qz32 => ?_)
          · skip
            refine S_n g 3 (pc' := 45) (lv' := [(0, .ref (ad 500)), (1, .int (nI p)), (2, .int (nI all)), (3, .int ((nI (hdN (B 501) all p k)) ||| (nI 0))), (4, .int (nI k))]) (st' := []) rfl ?_
            refine S_lveq (lv' := [(0, .ref (ad 500)), (1, .int (nI p)), (2, .int (nI all)), (3, .int (nI (hdN (B 501) all p (k + 1)))), (4, .int (nI k))]) (by rw [(show (nI (hdN (B 501) all p k)) ||| (nI 0) = nI (hdN (B 501) all p (k + 1)) from by rw [hdN, if_neg (by cases hbv : all.testBit k <;> simp_all), nI_or, Nat.or_zero]).symm]) ?_
            refine S_n g 1 (pc' := 48) (lv' := [(0, .ref (ad 500)), (1, .int (nI p)), (2, .int (nI all)), (3, .int (nI (hdN (B 501) all p (k + 1)))), (4, .int ((nI k) + nI 1))]) (st' := []) rfl ?_
            rw [nI_add k 1]
            refine S_n g 1 (pc' := 5) (lv' := [(0, .ref (ad 500)), (1, .int (nI p)), (2, .int (nI all)), (3, .int (nI (hdN (B 501) all p (k + 1)))), (4, .int (nI (k + 1)))]) (st' := []) rfl ?_
            exact lp (nu - (k + 1)) (by omega) (k + 1) rfl (by omega)
          · skip
            refine S_n g 6 (pc' := 45) (lv' := [(0, .ref (ad 500)), (1, .int (nI p)), (2, .int (nI all)), (3, .int ((nI (hdN (B 501) all p k)) ||| ((nI 1) <<< ((nI k) &&& 31)))), (4, .int (nI k))]) (st' := []) rfl ?_
            refine S_lveq (lv' := [(0, .ref (ad 500)), (1, .int (nI p)), (2, .int (nI all)), (3, .int (nI (hdN (B 501) all p (k + 1)))), (4, .int (nI k))]) (by rw [(show (nI (hdN (B 501) all p k)) ||| ((nI 1) <<< ((nI k) &&& 31)) = nI (hdN (B 501) all p (k + 1)) from by rw [hdN, if_pos (by cases hbv : all.testBit k <;> simp_all), ← nI_or, ← i1_nI (by omega)]).symm]) ?_
            refine S_n g 1 (pc' := 48) (lv' := [(0, .ref (ad 500)), (1, .int (nI p)), (2, .int (nI all)), (3, .int (nI (hdN (B 501) all p (k + 1)))), (4, .int ((nI k) + nI 1))]) (st' := []) rfl ?_
            rw [nI_add k 1]
            refine S_n g 1 (pc' := 5) (lv' := [(0, .ref (ad 500)), (1, .int (nI p)), (2, .int (nI all)), (3, .int (nI (hdN (B 501) all p (k + 1)))), (4, .int (nI (k + 1)))]) (st' := []) rfl ?_
            exact lp (nu - (k + 1)) (by omega) (k + 1) rfl (by omega)
  exact lp _ 0 rfl (by omega)

def plC (lk : Nat → Int64) (all p : Nat) : Nat → Bool
  | 0 => false
  | u + 1 => plC lk all p u || (all.testBit u && tb (lk u) p)
def plL (lk : Nat → Int64) (all nu : Nat) : Nat → List Int64
  | 0 => []
  | p + 1 => if plC lk all p nu = true then plL lk all nu p ++ [b1 p] else plL lk all nu p
theorem plL_len (lk : Nat → Int64) (all nu : Nat) : ∀ p, (plL lk all nu p).length ≤ p
  | 0 => Nat.le_refl 0
  | p + 1 => by
    have := plL_len lk all nu p
    unfold plL
    split
    · rw [List.length_append, List.length_singleton]; omega
    · omega

set_option maxRecDepth 100000 in
set_option maxHeartbeats 4000000 in
theorem sp_plain (ad : Nat → Nat) (I : FI) (J : FJ) (A : FI) (B : FJ) (m0 : Nat → Int64) (all nf nu : Nat) (hF : m0 0 = lN nf) (hU : m0 1 = lN nu) (h1 : nf ≤ 5) (h2 : nu ≤ 6) (hal : all < 64) : Spec M_X9_plain [.ref (ad 500), .int (nI all)] (YR ad) I J A (va_up B 501 (qL m0 ([]))) (eqP none (YR ad) I J A (va_up B 501 (qL m0 (plL (B 509) all nu (12 * nf))))) := by
  refine Spec_of (by decide) tk_X9_plain (Nat.le_of_ble_eq_true rfl) (fun X g rt => ?_)
  show Sim X (YR ad) 0 [(0, .ref (ad 500)), (1, .int (nI all))] [] I J A (va_up B 501 (qL m0 ([]))) 0 0
  refine S_n g 2 (pc' := 2) (lv' := [(0, .ref (ad 500)), (1, .int (nI all)), (2, .int (nI 0))]) (st' := []) rfl ?_
  have lp : ∀ (nn : Nat) (p : Nat), 12 * nf - p = nn → (p ≤ 12 * nf) → Sim X (YR ad) 2 [(0, .ref (ad 500)), (1, .int (nI all)), (2, .int (nI p))] [] I J A (va_up B 501 (qL m0 (plL (B 509) all nu p))) 0 0 := by
    intro nn
    induction nn using Nat.strongRecOn with
    | ind nn ih =>
      intro p hmz hp
      have lp := ih
      have hlen := plL_len (B 509) all nu p
      have hl9 : (plL (B 509) all nu p).length ≤ 100 := by omega
      refine S_n g 2 (pc' := 4) (lv' := [(0, .ref (ad 500)), (1, .int (nI all)), (2, .int (nI p))]) (st' := [.ref (ad 500), .int (nI p)]) rfl ?_
      refine S_cV g (i := 500) (As := []) (st := [.int (nI p)]) (sp_pieces ad I J A (va_up B 501 (qL m0 (plL (B 509) all nu p))) nf ((qL_lo m0 hl9 (by decide)).trans hF)) mw_X9_pieces lk_X9_75 ⟨Nat.le_of_ble_eq_true rfl, Nat.le_of_ble_eq_true rfl⟩ (by decide) (by decide) rfl rfl (Nat.le_of_ble_eq_true rfl) ⟨Nat.le_of_ble_eq_true rfl, Nat.le_of_ble_eq_true rfl⟩ rfl ?_
      show Sim X (YR ad) 7 [(0, .ref (ad 500)), (1, .int (nI all)), (2, .int (nI p))] [.int (nI (12 * nf)), .int (nI p)] I J A (va_up B 501 (qL m0 (plL (B 509) all nu p))) 0 0
      refine S_icN_ge g (tgt := 84) (by omega) (by omega) rfl (by decide) (fun qz7 => ?_) (fun qz7 => ?_)
      · skip
        have hp9 : p = 12 * nf := by omega
        exact rtV rt rfl rfl (by rw [hp9]; exact eqP_rf)
      · skip
        refine S_n g 4 (pc' := 15) (lv' := [(0, .ref (ad 500)), (1, .int (nI all)), (2, .int (nI p)), (3, .int (nI 0)), (4, .int (nI 0))]) (st' := []) rfl ?_
        show Sim X (YR ad) 15 [(0, .ref (ad 500)), (1, .int (nI all)), (2, .int (nI p)), (3, .int (bI (plC (B 509) all p 0))), (4, .int (nI 0))] [] I J A (va_up B 501 (qL m0 (plL (B 509) all nu p))) 0 0
        have lp2 : ∀ (nn : Nat) (u : Nat), nu - u = nn → (u ≤ nu) → Sim X (YR ad) 15 [(0, .ref (ad 500)), (1, .int (nI all)), (2, .int (nI p)), (3, .int (bI (plC (B 509) all p u))), (4, .int (nI u))] [] I J A (va_up B 501 (qL m0 (plL (B 509) all nu p))) 0 0 := by
          intro nn
          induction nn using Nat.strongRecOn with
          | ind nn ih =>
            intro u hmz hu
            have lp2 := ih
            refine S_n g 2 (pc' := 18) (lv' := [(0, .ref (ad 500)), (1, .int (nI all)), (2, .int (nI p)), (3, .int (bI (plC (B 509) all p u))), (4, .int (nI u))]) (st' := [.ref (ad 500), .int (nI u)]) rfl ?_
            refine S_cV g (i := 500) (As := []) (st := [.int (nI u)]) (sp_users ad I J A (va_up B 501 (qL m0 (plL (B 509) all nu p))) nu ((qL_lo m0 hl9 (by decide)).trans hU)) mw_X9_users lk_X9_71 ⟨Nat.le_of_ble_eq_true rfl, Nat.le_of_ble_eq_true rfl⟩ (by decide) (by decide) rfl rfl (Nat.le_of_ble_eq_true rfl) ⟨Nat.le_of_ble_eq_true rfl, Nat.le_of_ble_eq_true rfl⟩ rfl ?_
            show Sim X (YR ad) 21 [(0, .ref (ad 500)), (1, .int (nI all)), (2, .int (nI p)), (3, .int (bI (plC (B 509) all p u))), (4, .int (nI u))] [.int (nI nu), .int (nI u)] I J A (va_up B 501 (qL m0 (plL (B 509) all nu p))) 0 0
            refine S_icN_ge g (tgt := 66) (by omega) (by omega) rfl (by decide) (fun qz21 => ?_) (fun qz21 => ?_)
            · skip
              have hu9 : u = nu := by omega
              refine S_lveq (lv' := [(0, .ref (ad 500)), (1, .int (nI all)), (2, .int (nI p)), (3, .int (bI (plC (B 509) all p nu))), (4, .int (nI u))]) (by rw [(show bI (plC (B 509) all p u) = bI (plC (B 509) all p nu) from by rw [hu9]).symm]) ?_
              refine S_n g 1 (pc' := 67) (lv' := [(0, .ref (ad 500)), (1, .int (nI all)), (2, .int (nI p)), (3, .int (bI (plC (B 509) all p nu))), (4, .int (nI u))]) (st' := [.int (bI (plC (B 509) all p nu))]) rfl ?_
              refine S_ifB_eq g (tgt := 78) rfl (by decide) (fun qz67 => ?_) (fun qz67 => ?_)
              · skip
                have hpl : plL (B 509) all nu (p + 1) = plL (B 509) all nu p := by rw [plL, if_neg (by rw [qz67]; decide)]
                rw [← hpl]
                refine S_n g 1 (pc' := 81) (lv' := [(0, .ref (ad 500)), (1, .int (nI all)), (2, .int ((nI p) + nI 1)), (3, .int (bI (plC (B 509) all p nu))), (4, .int (nI u))]) (st' := []) rfl ?_
                rw [nI_add p 1]
                refine S_n g 1 (pc' := 2) (lv' := [(0, .ref (ad 500)), (1, .int (nI all)), (2, .int (nI (p + 1))), (3, .int (bI (plC (B 509) all p nu))), (4, .int (nI u))]) (st' := []) rfl ?_
                refine S_keep (lv' := [(0, .ref (ad 500)), (1, .int (nI all)), (2, .int (nI (p + 1)))]) [0, 1, 2] rfl ?_
                exact lp (12 * nf - (p + 1)) (by omega) (p + 1) rfl (by omega)
              · skip
                refine S_n g 4 (pc' := 74) (lv' := [(0, .ref (ad 500)), (1, .int (nI all)), (2, .int (nI p)), (3, .int (bI (plC (B 509) all p nu))), (4, .int (nI u))]) (st' := [.long ((lN 1) <<< ((nI p).toInt64 &&& 63)), .ref (ad 500)]) rfl ?_
                refine S_cV g (i := 500) (As := [.long ((lN 1) <<< ((nI p).toInt64 &&& 63))]) (st := []) (sp_queues ad I J A (va_up B 501 (qL m0 (plL (B 509) all nu p))) (b1 p) (plL (B 509) all nu p).length (qL_327 m0 _) (by omega)) mw_X9_queues lk_X9_132 ⟨Nat.le_of_ble_eq_true rfl, Nat.le_of_ble_eq_true rfl⟩ (by decide) (by decide) rfl rfl (Nat.le_of_ble_eq_true rfl) ⟨Nat.le_of_ble_eq_true rfl, Nat.le_of_ble_eq_true rfl⟩ rfl ?_
                rw [va_up1, va_up_self, ← qL_snoc]
                show Sim X (YR ad) 77 [(0, .ref (ad 500)), (1, .int (nI all)), (2, .int (nI p)), (3, .int (bI (plC (B 509) all p nu))), (4, .int (nI u))] [.int (o_queues (plL (B 509) all nu p).length (qL m0 (plL (B 509) all nu p)) (b1 p)).1] I J A (va_up B 501 (qL m0 ((plL (B 509) all nu p) ++ [b1 p]))) 0 0
                have hpl : plL (B 509) all nu (p + 1) = plL (B 509) all nu p ++ [b1 p] := by rw [plL, if_pos qz67]
                rw [← hpl]
                refine S_n g 2 (pc' := 81) (lv' := [(0, .ref (ad 500)), (1, .int (nI all)), (2, .int ((nI p) + nI 1)), (3, .int (bI (plC (B 509) all p nu))), (4, .int (nI u))]) (st' := []) rfl ?_
                rw [nI_add p 1]
                refine S_n g 1 (pc' := 2) (lv' := [(0, .ref (ad 500)), (1, .int (nI all)), (2, .int (nI (p + 1))), (3, .int (bI (plC (B 509) all p nu))), (4, .int (nI u))]) (st' := []) rfl ?_
                refine S_keep (lv' := [(0, .ref (ad 500)), (1, .int (nI all)), (2, .int (nI (p + 1)))]) [0, 1, 2] rfl ?_
                exact lp (12 * nf - (p + 1)) (by omega) (p + 1) rfl (by omega)
            · skip
              refine S_n g 1 (pc' := 25) (lv' := [(0, .ref (ad 500)), (1, .int (nI all)), (2, .int (nI p)), (3, .int (bI (plC (B 509) all p u))), (4, .int (nI u))]) (st' := [.int (bI (plC (B 509) all p u))]) rfl ?_
              refine S_ifB_ne g (tgt := 54) rfl (by decide) (fun qz25 => ?_) (fun qz25 => ?_)
              · skip
                refine S_n g 3 (pc' := 60) (lv' := [(0, .ref (ad 500)), (1, .int (nI all)), (2, .int (nI p)), (3, .int (nI 1)), (4, .int (nI u))]) (st' := []) rfl ?_
                refine S_lveq (lv' := [(0, .ref (ad 500)), (1, .int (nI all)), (2, .int (nI p)), (3, .int (bI (plC (B 509) all p (u + 1)))), (4, .int (nI u))]) (by rw [(show nI 1 = bI (plC (B 509) all p (u + 1)) from by cases hbv : all.testBit u <;> cases hbw : tb (B 509 u) p <;> simp_all [plC, bI]).symm]) ?_
                refine S_n g 1 (pc' := 63) (lv' := [(0, .ref (ad 500)), (1, .int (nI all)), (2, .int (nI p)), (3, .int (bI (plC (B 509) all p (u + 1)))), (4, .int ((nI u) + nI 1))]) (st' := []) rfl ?_
                rw [nI_add u 1]
                refine S_n g 1 (pc' := 15) (lv' := [(0, .ref (ad 500)), (1, .int (nI all)), (2, .int (nI p)), (3, .int (bI (plC (B 509) all p (u + 1)))), (4, .int (nI (u + 1)))]) (st' := []) rfl ?_
                exact lp2 (nu - (u + 1)) (by omega) (u + 1) rfl (by omega)
              · skip
                refine S_n g 5 (pc' := 34) (lv' := [(0, .ref (ad 500)), (1, .int (nI all)), (2, .int (nI p)), (3, .int (bI (plC (B 509) all p u))), (4, .int (nI u))]) (st' := [.int (((nI all) >>> ((nI u) &&& 31)) &&& (nI 1))]) rfl ?_
                refine S_steq (st' := [.int (nI (all.testBit u).toNat)]) (by rw [(show ((nI all) >>> ((nI u) &&& 31)) &&& (nI 1) = nI (all.testBit u).toNat from bit_nat (by omega)).symm]) ?_
                have hb1 : (all.testBit u).toNat ≤ 1 := Bool.toNat_le _
                refine S_n g 1 (pc' := 35) (lv' := [(0, .ref (ad 500)), (1, .int (nI all)), (2, .int (nI p)), (3, .int (bI (plC (B 509) all p u))), (4, .int (nI u))]) (st' := [.int (nI 1), .int (nI (all.testBit u).toNat)]) rfl ?_
                refine S_icN_ne g (tgt := 58) (by omega) (by omega) rfl (by decide) (fun qz35 => ?_) (fun qz35 => ?_)
                · skip
                  refine S_n g 2 (pc' := 60) (lv' := [(0, .ref (ad 500)), (1, .int (nI all)), (2, .int (nI p)), (3, .int (nI 0)), (4, .int (nI u))]) (st' := []) rfl ?_
                  refine S_lveq (lv' := [(0, .ref (ad 500)), (1, .int (nI all)), (2, .int (nI p)), (3, .int (bI (plC (B 509) all p (u + 1)))), (4, .int (nI u))]) (by rw [(show nI 0 = bI (plC (B 509) all p (u + 1)) from by cases hbv : all.testBit u <;> cases hbw : tb (B 509 u) p <;> simp_all [plC, bI]).symm]) ?_
                  refine S_n g 1 (pc' := 63) (lv' := [(0, .ref (ad 500)), (1, .int (nI all)), (2, .int (nI p)), (3, .int (bI (plC (B 509) all p (u + 1)))), (4, .int ((nI u) + nI 1))]) (st' := []) rfl ?_
                  rw [nI_add u 1]
                  refine S_n g 1 (pc' := 15) (lv' := [(0, .ref (ad 500)), (1, .int (nI all)), (2, .int (nI p)), (3, .int (bI (plC (B 509) all p (u + 1)))), (4, .int (nI (u + 1)))]) (st' := []) rfl ?_
                  exact lp2 (nu - (u + 1)) (by omega) (u + 1) rfl (by omega)
                · skip
                  refine S_n g 1 (pc' := 39) (lv' := [(0, .ref (ad 500)), (1, .int (nI all)), (2, .int (nI p)), (3, .int (bI (plC (B 509) all p u))), (4, .int (nI u))]) (st' := [.ref (ad 500)]) rfl ?_
                  refine S_getR g (i := 500) (c := 9) (k := 13) (j := 509) (by decide) (by decide) rfl rfl rfl fl_X9_40 rfl ?_
                  refine S_n g 1 (pc' := 44) (lv' := [(0, .ref (ad 500)), (1, .int (nI all)), (2, .int (nI p)), (3, .int (bI (plC (B 509) all p u))), (4, .int (nI u))]) (st' := [.int (nI u), .ref (ad 509)]) rfl ?_
                  refine S_laldN g (i := 509) (e := u) (by decide) rfl (show u < 6 from by omega) (show (6 : Nat) < 2 ^ 31 from by decide) rfl ?_
                  show Sim X (YR ad) 45 [(0, .ref (ad 500)), (1, .int (nI all)), (2, .int (nI p)), (3, .int (bI (plC (B 509) all p u))), (4, .int (nI u))] [.long (B 509 u)] I J A (va_up B 501 (qL m0 (plL (B 509) all nu p))) 0 0
                  refine S_n g 4 (pc' := 49) (lv' := [(0, .ref (ad 500)), (1, .int (nI all)), (2, .int (nI p)), (3, .int (bI (plC (B 509) all p u))), (4, .int (nI u))]) (st' := [.long (((B 509 u) >>> ((nI p).toInt64 &&& 63)) &&& (lN 1))]) rfl ?_
                  refine S_steq (st' := [.long (lN (tb (B 509 u) p).toNat)]) (by rw [(show ((B 509 u) >>> ((nI p).toInt64 &&& 63)) &&& (lN 1) = lN (tb (B 509 u) p).toNat from bit64 (by omega) _).symm]) ?_
                  have hb2 : (tb (B 509 u) p).toNat ≤ 1 := Bool.toNat_le _
                  refine S_n g 1 (pc' := 50) (lv' := [(0, .ref (ad 500)), (1, .int (nI all)), (2, .int (nI p)), (3, .int (bI (plC (B 509) all p u))), (4, .int (nI u))]) (st' := [.long (lN 1), .long (lN (tb (B 509 u) p).toNat)]) rfl ?_
                  refine S_lcN_ne g (tgt := 58) (by omega) (by omega) rfl rfl (by decide) (fun qz50 => ?_) (fun qz50 => ?_)
                  · skip
                    refine S_n g 2 (pc' := 60) (lv' := [(0, .ref (ad 500)), (1, .int (nI all)), (2, .int (nI p)), (3, .int (nI 0)), (4, .int (nI u))]) (st' := []) rfl ?_
                    refine S_lveq (lv' := [(0, .ref (ad 500)), (1, .int (nI all)), (2, .int (nI p)), (3, .int (bI (plC (B 509) all p (u + 1)))), (4, .int (nI u))]) (by rw [(show nI 0 = bI (plC (B 509) all p (u + 1)) from by cases hbv : all.testBit u <;> cases hbw : tb (B 509 u) p <;> simp_all [plC, bI]).symm]) ?_
                    refine S_n g 1 (pc' := 63) (lv' := [(0, .ref (ad 500)), (1, .int (nI all)), (2, .int (nI p)), (3, .int (bI (plC (B 509) all p (u + 1)))), (4, .int ((nI u) + nI 1))]) (st' := []) rfl ?_
                    rw [nI_add u 1]
                    refine S_n g 1 (pc' := 15) (lv' := [(0, .ref (ad 500)), (1, .int (nI all)), (2, .int (nI p)), (3, .int (bI (plC (B 509) all p (u + 1)))), (4, .int (nI (u + 1)))]) (st' := []) rfl ?_
                    exact lp2 (nu - (u + 1)) (by omega) (u + 1) rfl (by omega)
                  · skip
                    refine S_n g 3 (pc' := 60) (lv' := [(0, .ref (ad 500)), (1, .int (nI all)), (2, .int (nI p)), (3, .int (nI 1)), (4, .int (nI u))]) (st' := []) rfl ?_
                    refine S_lveq (lv' := [(0, .ref (ad 500)), (1, .int (nI all)), (2, .int (nI p)), (3, .int (bI (plC (B 509) all p (u + 1)))), (4, .int (nI u))]) (by rw [(show nI 1 = bI (plC (B 509) all p (u + 1)) from by cases hbv : all.testBit u <;> cases hbw : tb (B 509 u) p <;> simp_all [plC, bI]).symm]) ?_
                    refine S_n g 1 (pc' := 63) (lv' := [(0, .ref (ad 500)), (1, .int (nI all)), (2, .int (nI p)), (3, .int (bI (plC (B 509) all p (u + 1)))), (4, .int ((nI u) + nI 1))]) (st' := []) rfl ?_
                    rw [nI_add u 1]
                    refine S_n g 1 (pc' := 15) (lv' := [(0, .ref (ad 500)), (1, .int (nI all)), (2, .int (nI p)), (3, .int (bI (plC (B 509) all p (u + 1)))), (4, .int (nI (u + 1)))]) (st' := []) rfl ?_
                    exact lp2 (nu - (u + 1)) (by omega) (u + 1) rfl (by omega)
        exact lp2 _ 0 rfl (by omega)
  exact lp _ 0 rfl (by omega)

/-- piece p is in user u's list for the set T -/
def lmt (m lk : Nat → Int64) (all nu u T p : Nat) : Bool := tb (lk u) p && decide (hdN m all p nu = sdf T (2 ^ u))
def lct (m lk : Nat → Int64) (all nu u T : Nat) : Nat → Nat
  | 0 => 0
  | p + 1 => lct m lk all nu u T p + (lmt m lk all nu u T p).toNat
/-- the i-th piece of that list below n: one more than it, or 0 -/
def lsF (m lk : Nat → Int64) (all nu u T i : Nat) : Nat → Nat
  | 0 => 0
  | p + 1 => if lmt m lk all nu u T p = true ∧ lct m lk all nu u T p = i then p + 1 else lsF m lk all nu u T i p
theorem lct_mono (m lk : Nat → Int64) (all nu u T : Nat) {p : Nat} : ∀ n, p ≤ n → lct m lk all nu u T p ≤ lct m lk all nu u T n
  | 0, h => by rw [Nat.le_zero.mp h]; exact Nat.le_refl _
  | n + 1, h => by
    by_cases e : p = n + 1
    · rw [e]; exact Nat.le_refl _
    · exact Nat.le_trans (lct_mono m lk all nu u T n (by omega)) (Nat.le_add_right _ _)
theorem lsF_at {m lk : Nat → Int64} {all nu u T i p : Nat} (h1 : lmt m lk all nu u T p = true) (h2 : lct m lk all nu u T p = i) : ∀ n, p < n → lsF m lk all nu u T i n = p + 1
  | 0, h => absurd h (Nat.not_lt_zero p)
  | n + 1, h => by
    unfold lsF
    by_cases e : p = n
    · subst e; rw [if_pos ⟨h1, h2⟩]
    · have h3 : lct m lk all nu u T (p + 1) ≤ lct m lk all nu u T n := lct_mono m lk all nu u T n (by omega)
      have h4 : lct m lk all nu u T (p + 1) = i + 1 := by rw [lct, h1, h2]; rfl
      rw [if_neg (fun q => by omega)]
      exact lsF_at h1 h2 n (by omega)
theorem lsF_le (m lk : Nat → Int64) (all nu u T i : Nat) : ∀ n, lsF m lk all nu u T i n ≤ n
  | 0 => Nat.le_refl 0
  | n + 1 => by
    have := lsF_le m lk all nu u T i n
    unfold lsF
    split <;> omega
theorem hI_m1 {k : Nat} (hk : k < 2 ^ 31) : hI k = -nI 1 ↔ k = 0 := by
  constructor
  · intro h
    apply (hI_neg hk).mp
    rw [h]
    decide
  · intro h
    subst h
    rfl

set_option maxRecDepth 100000 in
set_option maxHeartbeats 4000000 in
theorem sp_listed (ad : Nat → Nat) (I : FI) (J : FJ) (A : FI) (B : FJ) (u T all i nf nu : Nat) (hF : B 501 0 = lN nf) (hU : B 501 1 = lN nu) (h1 : nf ≤ 5) (h2 : nu ≤ 6) (hu : u < 6) (hT : T < 64) (hi : i < 12) : Spec M_X9_listed [.ref (ad 500), .int (nI u), .int (nI T), .int (nI all), .int (nI i)] (YR ad) I J A B (eqP (some (.int (hI (lsF (B 501) (B 509) all nu u T i (12 * nf))))) (YR ad) I J A B) := by
  refine Spec_of (by decide) tk_X9_listed (Nat.le_of_ble_eq_true rfl) (fun X g rt => ?_)
  show Sim X (YR ad) 0 [(0, .ref (ad 500)), (1, .int (nI u)), (2, .int (nI T)), (3, .int (nI all)), (4, .int (nI i))] [] I J A B 0 0
  refine S_n g 4 (pc' := 7) (lv' := [(0, .ref (ad 500)), (1, .int (nI u)), (2, .int (nI T)), (3, .int (nI all)), (4, .int (nI i)), (5, .int (nI i)), (6, .int (nI 0))]) (st' := []) rfl ?_
  have lp : ∀ (nn : Nat) (p : Nat), 12 * nf - p = nn → (p ≤ 12 * nf) → (lct (B 501) (B 509) all nu u T p ≤ i) → (lsF (B 501) (B 509) all nu u T i p = 0) → Sim X (YR ad) 7 [(0, .ref (ad 500)), (1, .int (nI u)), (2, .int (nI T)), (3, .int (nI all)), (4, .int (nI i)), (5, .int (nI (i - lct (B 501) (B 509) all nu u T p))), (6, .int (nI p))] [] I J A B 0 0 := by
    intro nn
    induction nn using Nat.strongRecOn with
    | ind nn ih =>
      intro p hmz hp hlc hz
      have lp := ih
      refine S_n g 2 (pc' := 10) (lv' := [(0, .ref (ad 500)), (1, .int (nI u)), (2, .int (nI T)), (3, .int (nI all)), (4, .int (nI i)), (5, .int (nI (i - lct (B 501) (B 509) all nu u T p))), (6, .int (nI p))]) (st' := [.ref (ad 500), .int (nI p)]) rfl ?_
      refine S_cV g (i := 500) (As := []) (st := [.int (nI p)]) (sp_pieces ad I J A B nf hF) mw_X9_pieces lk_X9_75 ⟨Nat.le_of_ble_eq_true rfl, Nat.le_of_ble_eq_true rfl⟩ (by decide) (by decide) rfl rfl (Nat.le_of_ble_eq_true rfl) ⟨Nat.le_of_ble_eq_true rfl, Nat.le_of_ble_eq_true rfl⟩ rfl ?_
      show Sim X (YR ad) 13 [(0, .ref (ad 500)), (1, .int (nI u)), (2, .int (nI T)), (3, .int (nI all)), (4, .int (nI i)), (5, .int (nI (i - lct (B 501) (B 509) all nu u T p))), (6, .int (nI p))] [.int (nI (12 * nf)), .int (nI p)] I J A B 0 0
      refine S_icN_ge g (tgt := 66) (by omega) (by omega) rfl (by decide) (fun qz13 => ?_) (fun qz13 => ?_)
      · skip
        have hp9 : p = 12 * nf := by omega
        refine S_n g 1 (pc' := 67) (lv' := [(0, .ref (ad 500)), (1, .int (nI u)), (2, .int (nI T)), (3, .int (nI all)), (4, .int (nI i)), (5, .int (nI (i - lct (B 501) (B 509) all nu u T p))), (6, .int (nI p))]) (st' := [.int (-nI 1)]) rfl ?_
        exact rtI rt rfl rfl (by rw [← hp9, hz]; exact eqP_rf)
      · skip
        refine S_n g 1 (pc' := 17) (lv' := [(0, .ref (ad 500)), (1, .int (nI u)), (2, .int (nI T)), (3, .int (nI all)), (4, .int (nI i)), (5, .int (nI (i - lct (B 501) (B 509) all nu u T p))), (6, .int (nI p))]) (st' := [.ref (ad 500)]) rfl ?_
        refine S_getR g (i := 500) (c := 9) (k := 13) (j := 509) (by decide) (by decide) rfl rfl rfl fl_X9_40 rfl ?_
        refine S_n g 1 (pc' := 21) (lv' := [(0, .ref (ad 500)), (1, .int (nI u)), (2, .int (nI T)), (3, .int (nI all)), (4, .int (nI i)), (5, .int (nI (i - lct (B 501) (B 509) all nu u T p))), (6, .int (nI p))]) (st' := [.int (nI u), .ref (ad 509)]) rfl ?_
        refine S_laldN g (i := 509) (e := u) (by decide) rfl (show u < 6 from by omega) (show (6 : Nat) < 2 ^ 31 from by decide) rfl ?_
        refine S_n g 4 (pc' := 27) (lv' := [(0, .ref (ad 500)), (1, .int (nI u)), (2, .int (nI T)), (3, .int (nI all)), (4, .int (nI i)), (5, .int (nI (i - lct (B 501) (B 509) all nu u T p))), (6, .int (nI p))]) (st' := [.long (((B 509 u) >>> ((nI p).toInt64 &&& 63)) &&& (lN 1))]) rfl ?_
        refine S_steq (st' := [.long (lN (tb (B 509 u) p).toNat)]) (by rw [(show ((B 509 u) >>> ((nI p).toInt64 &&& 63)) &&& (lN 1) = lN (tb (B 509 u) p).toNat from bit64 (by omega) _).symm]) ?_
        have hb2 : (tb (B 509 u) p).toNat ≤ 1 := Bool.toNat_le _
        refine S_n g 1 (pc' := 28) (lv' := [(0, .ref (ad 500)), (1, .int (nI u)), (2, .int (nI T)), (3, .int (nI all)), (4, .int (nI i)), (5, .int (nI (i - lct (B 501) (B 509) all nu u T p))), (6, .int (nI p))]) (st' := [.long (lN 1), .long (lN (tb (B 509 u) p).toNat)]) rfl ?_
        refine S_lcN_ne g (tgt := 60) (by omega) (by omega) rfl rfl (by decide) (fun qz28 => ?_) (fun qz28 => ?_)
        · skip
          have hm1 : lmt (B 501) (B 509) all nu u T p = false := by cases hbw : tb (B 509 u) p <;> simp_all [lmt]
          have hl1 : lct (B 501) (B 509) all nu u T (p + 1) = lct (B 501) (B 509) all nu u T p := by rw [lct, hm1]; rfl
          refine S_lveq (lv' := [(0, .ref (ad 500)), (1, .int (nI u)), (2, .int (nI T)), (3, .int (nI all)), (4, .int (nI i)), (5, .int (nI (i - lct (B 501) (B 509) all nu u T (p + 1)))), (6, .int (nI p))]) (by rw [(show nI (i - lct (B 501) (B 509) all nu u T p) = nI (i - lct (B 501) (B 509) all nu u T (p + 1)) from by rw [hl1]).symm]) ?_
          refine S_n g 1 (pc' := 63) (lv' := [(0, .ref (ad 500)), (1, .int (nI u)), (2, .int (nI T)), (3, .int (nI all)), (4, .int (nI i)), (5, .int (nI (i - lct (B 501) (B 509) all nu u T (p + 1)))), (6, .int ((nI p) + nI 1))]) (st' := []) rfl ?_
          rw [nI_add p 1]
          refine S_n g 1 (pc' := 7) (lv' := [(0, .ref (ad 500)), (1, .int (nI u)), (2, .int (nI T)), (3, .int (nI all)), (4, .int (nI i)), (5, .int (nI (i - lct (B 501) (B 509) all nu u T (p + 1)))), (6, .int (nI (p + 1)))]) (st' := []) rfl ?_
          exact lp (12 * nf - (p + 1)) (by omega) (p + 1) rfl (by omega) (by omega) (by rw [lsF, if_neg (fun q => by rw [hm1] at q; exact absurd q.1 (by decide))]; exact hz)
        · skip
          refine S_n g 3 (pc' := 36) (lv' := [(0, .ref (ad 500)), (1, .int (nI u)), (2, .int (nI T)), (3, .int (nI all)), (4, .int (nI i)), (5, .int (nI (i - lct (B 501) (B 509) all nu u T p))), (6, .int (nI p))]) (st' := [.int (nI all), .int (nI p), .ref (ad 500)]) rfl ?_
          refine S_cV g (i := 500) (As := [.int (nI p), .int (nI all)]) (st := []) (sp_holders ad I J A B p all nu hU h2 (by omega)) mw_X9_holders lk_X9_182 ⟨Nat.le_of_ble_eq_true rfl, Nat.le_of_ble_eq_true rfl⟩ (by decide) (by decide) rfl rfl (Nat.le_of_ble_eq_true rfl) ⟨Nat.le_of_ble_eq_true rfl, Nat.le_of_ble_eq_true rfl⟩ rfl ?_
          show Sim X (YR ad) 39 [(0, .ref (ad 500)), (1, .int (nI u)), (2, .int (nI T)), (3, .int (nI all)), (4, .int (nI i)), (5, .int (nI (i - lct (B 501) (B 509) all nu u T p))), (6, .int (nI p))] [.int (nI (hdN (B 501) all p nu))] I J A B 0 0
          have hhl := hdN_lt (B 501) all p nu h2
          refine S_n g 7 (pc' := 46) (lv' := [(0, .ref (ad 500)), (1, .int (nI u)), (2, .int (nI T)), (3, .int (nI all)), (4, .int (nI i)), (5, .int (nI (i - lct (B 501) (B 509) all nu u T p))), (6, .int (nI p))]) (st' := [.int ((nI T) &&& (((nI 1) <<< ((nI u) &&& 31)) ^^^ (-nI 1))), .int (nI (hdN (B 501) all p nu))]) rfl ?_
          refine S_steq (st' := [.int (nI (sdf T (2 ^ u))), .int (nI (hdN (B 501) all p nu))]) (by rw [(show (nI T) &&& (((nI 1) <<< ((nI u) &&& 31)) ^^^ (-nI 1)) = nI (sdf T (2 ^ u)) from nI_sdf1 (by omega) (by omega)).symm]) ?_
          have hsl : sdf T (2 ^ u) < 64 := sdf_lt (by omega)
          refine S_icN_ne g (tgt := 60) (by omega) (by omega) rfl (by decide) (fun qz46 => ?_) (fun qz46 => ?_)
          · skip
            have hm1 : lmt (B 501) (B 509) all nu u T p = false := by cases hbw : tb (B 509 u) p <;> simp_all [lmt]
            have hl1 : lct (B 501) (B 509) all nu u T (p + 1) = lct (B 501) (B 509) all nu u T p := by rw [lct, hm1]; rfl
            refine S_lveq (lv' := [(0, .ref (ad 500)), (1, .int (nI u)), (2, .int (nI T)), (3, .int (nI all)), (4, .int (nI i)), (5, .int (nI (i - lct (B 501) (B 509) all nu u T (p + 1)))), (6, .int (nI p))]) (by rw [(show nI (i - lct (B 501) (B 509) all nu u T p) = nI (i - lct (B 501) (B 509) all nu u T (p + 1)) from by rw [hl1]).symm]) ?_
            refine S_n g 1 (pc' := 63) (lv' := [(0, .ref (ad 500)), (1, .int (nI u)), (2, .int (nI T)), (3, .int (nI all)), (4, .int (nI i)), (5, .int (nI (i - lct (B 501) (B 509) all nu u T (p + 1)))), (6, .int ((nI p) + nI 1))]) (st' := []) rfl ?_
            rw [nI_add p 1]
            refine S_n g 1 (pc' := 7) (lv' := [(0, .ref (ad 500)), (1, .int (nI u)), (2, .int (nI T)), (3, .int (nI all)), (4, .int (nI i)), (5, .int (nI (i - lct (B 501) (B 509) all nu u T (p + 1)))), (6, .int (nI (p + 1)))]) (st' := []) rfl ?_
            exact lp (12 * nf - (p + 1)) (by omega) (p + 1) rfl (by omega) (by omega) (by rw [lsF, if_neg (fun q => by rw [hm1] at q; exact absurd q.1 (by decide))]; exact hz)
          · skip
            refine S_n g 1 (pc' := 51) (lv' := [(0, .ref (ad 500)), (1, .int (nI u)), (2, .int (nI T)), (3, .int (nI all)), (4, .int (nI i)), (5, .int (nI (i - lct (B 501) (B 509) all nu u T p))), (6, .int (nI p))]) (st' := [.int (nI (i - lct (B 501) (B 509) all nu u T p))]) rfl ?_
            refine S_ifN_ne g (tgt := 57) (by omega) rfl (by decide) (fun qz51 => ?_) (fun qz51 => ?_)
            · skip
              refine S_n g 1 (pc' := 60) (lv' := [(0, .ref (ad 500)), (1, .int (nI u)), (2, .int (nI T)), (3, .int (nI all)), (4, .int (nI i)), (5, .int ((nI (i - lct (B 501) (B 509) all nu u T p)) + -nI 1)), (6, .int (nI p))]) (st' := []) rfl ?_
              rw [iinc_neg (a := i - lct (B 501) (B 509) all nu u T p) (b := 1) (by omega)]
              have hm1 : lmt (B 501) (B 509) all nu u T p = true := by cases hbw : tb (B 509 u) p <;> simp_all [lmt]
              refine S_lveq (lv' := [(0, .ref (ad 500)), (1, .int (nI u)), (2, .int (nI T)), (3, .int (nI all)), (4, .int (nI i)), (5, .int (nI (i - lct (B 501) (B 509) all nu u T (p + 1)))), (6, .int (nI p))]) (by rw [(show nI (i - lct (B 501) (B 509) all nu u T p - 1) = nI (i - lct (B 501) (B 509) all nu u T (p + 1)) from by rw [lct, hm1]; exact congrArg nI (show _ = _ by rw [Bool.toNat_true]; omega)).symm]) ?_
              refine S_n g 1 (pc' := 63) (lv' := [(0, .ref (ad 500)), (1, .int (nI u)), (2, .int (nI T)), (3, .int (nI all)), (4, .int (nI i)), (5, .int (nI (i - lct (B 501) (B 509) all nu u T (p + 1)))), (6, .int ((nI p) + nI 1))]) (st' := []) rfl ?_
              rw [nI_add p 1]
              refine S_n g 1 (pc' := 7) (lv' := [(0, .ref (ad 500)), (1, .int (nI u)), (2, .int (nI T)), (3, .int (nI all)), (4, .int (nI i)), (5, .int (nI (i - lct (B 501) (B 509) all nu u T (p + 1)))), (6, .int (nI (p + 1)))]) (st' := []) rfl ?_
              exact lp (12 * nf - (p + 1)) (by omega) (p + 1) rfl (by omega) (by rw [lct, hm1, Bool.toNat_true]; omega) (by rw [lsF, if_neg (fun q => by omega)]; exact hz)
            · skip
              refine S_n g 1 (pc' := 56) (lv' := [(0, .ref (ad 500)), (1, .int (nI u)), (2, .int (nI T)), (3, .int (nI all)), (4, .int (nI i)), (5, .int (nI (i - lct (B 501) (B 509) all nu u T p))), (6, .int (nI p))]) (st' := [.int (nI p)]) rfl ?_
              have hm1 : lmt (B 501) (B 509) all nu u T p = true := by cases hbw : tb (B 509 u) p <;> simp_all [lmt]
              exact rtI rt rfl rfl (by rw [lsF_at hm1 (by omega) (12 * nf) (by omega), hI_pos (by omega), Nat.add_sub_cancel]; exact eqP_rf)
  exact lp _ 0 rfl (by omega) (Nat.zero_le _) rfl
