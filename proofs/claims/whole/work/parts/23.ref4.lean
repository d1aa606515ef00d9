/-! the reference, part 4: plans fulfilled, idle, receiving, sending -/
def bst (m : Nat → Int64) : Nat → Nat
  | 0 => 0
  | k + 1 => if k = 0 then 0 else if m (530 + 3 * bst m k + 2) < m (530 + 3 * k + 2) then k else bst m k
theorem bst_lt (m : Nat → Int64) : ∀ k, 0 < k → bst m k < k
  | 0, h => absurd h (Nat.lt_irrefl 0)
  | k + 1, _ => by
    unfold bst
    by_cases h : k = 0
    · rw [if_pos h]; omega
    · have := bst_lt m k (by omega)
      rw [if_neg h]
      split <;> omega
/-- plan b is taken out of pn: up to place k -/
def rmP (m : Nat → Int64) (pn b k : Nat) : Nat → Int64 := fun j => if j = 529 then lN (pn - 1) else if 530 + 3 * b ≤ j ∧ j < 530 + k then m (j + 3) else m j
theorem rmP_529 {m : Nat → Int64} {pn b k : Nat} : rmP m pn b k 529 = lN (pn - 1) := by unfold rmP; rw [if_pos rfl]
theorem rmP_lo {m : Nat → Int64} {pn b k j : Nat} (h : j < 529) : rmP m pn b k j = m j := by unfold rmP; rw [if_neg (by omega), if_neg (by omega)]
theorem rmP_hi {m : Nat → Int64} {pn b k j : Nat} (h : 530 + k ≤ j) : rmP m pn b k j = m j := by unfold rmP; rw [if_neg (by omega), if_neg (by omega)]
theorem rmP_Dm {nf nu nc : Nat} {m : Nat → Int64} {pn b k : Nat} (hm : Dm m nf nu nc) : Dm (rmP m pn b k) nf nu nc := ⟨by rw [rmP_lo (by decide)]; exact hm.1, by rw [rmP_lo (by decide)]; exact hm.2.1, by rw [rmP_lo (by decide)]; exact hm.2.2.1, hm.2.2.2⟩
theorem rmP_0 {m : Nat → Int64} {pn b : Nat} : va_up m 529 (lN (pn - 1)) = rmP m pn b (3 * b) := by
  funext j
  unfold rmP
  by_cases h : j = 529
  · subst h; rw [va_up_self, if_pos rfl]
  · rw [va_up_ne _ _ h, if_neg h, if_neg (by omega)]
theorem rmP_s {m : Nat → Int64} {pn b k : Nat} (h : 3 * b ≤ k) : va_up (rmP m pn b k) (530 + k) (rmP m pn b k (530 + k + 3)) = rmP m pn b (k + 1) := by
  funext j
  by_cases e : j = 530 + k
  · subst e
    rw [va_up_self, rmP_hi (by omega)]
    unfold rmP
    rw [if_neg (by omega), if_pos (by omega)]
  · rw [va_up_ne _ _ e]
    unfold rmP
    by_cases h1 : j = 529
    · rw [if_pos h1, if_pos h1]
    · rw [if_neg h1, if_neg h1]
      by_cases h2 : 530 + 3 * b ≤ j ∧ j < 530 + k
      · rw [if_pos h2, if_pos (by omega)]
      · rw [if_neg h2, if_neg (by omega)]
def o_fulfils (nf nu nc pn : Nat) (m : Nat → Int64) : Int32 × (Nat → Int64) :=
  (if 0 ≤ (o_store nf nu nc (rmP m pn (bst m pn) (3 * (pn - 1))) (m (530 + 3 * bst m pn)).toInt32 (m (530 + 3 * bst m pn + 1)).toInt32).1 then nI 1 else nI 0,
   va_up (o_store nf nu nc (rmP m pn (bst m pn) (3 * (pn - 1))) (m (530 + 3 * bst m pn)).toInt32 (m (530 + 3 * bst m pn + 1)).toInt32).2 620 ((o_store nf nu nc (rmP m pn (bst m pn) (3 * (pn - 1))) (m (530 + 3 * bst m pn)).toInt32 (m (530 + 3 * bst m pn + 1)).toInt32).2 620 + if 0 ≤ (o_store nf nu nc (rmP m pn (bst m pn) (3 * (pn - 1))) (m (530 + 3 * bst m pn)).toInt32 (m (530 + 3 * bst m pn + 1)).toInt32).1 then lN 0 else lN 1))
theorem ix_lt {x : Int32} {n : Nat} (h : isIx x n = true) : ix x < n := by
  unfold isIx at h
  have h := of_decide_eq_true h
  show x.toInt.toNat < n
  omega

theorem store_keep {nf nu nc : Nat} (hnu : nu ≤ 6) {m : Nat → Int64} {x y : Int32} {j : Nat} (h : j < 63 ∨ 69 ≤ j) : (o_store nf nu nc m x y).2 j = m j := by
  unfold o_store
  split
  · rename_i hx
    have := ix_lt hx
    split
    · split
      · rfl
      · split
        · rfl
        · exact va_up_ne _ _ (by omega)
    · rfl
  · rfl
theorem ful_keep {nf nu nc pn : Nat} (hnu : nu ≤ 6) {m : Nat → Int64} {j : Nat} (h : j < 63 ∨ (69 ≤ j ∧ j < 529)) : (o_fulfils nf nu nc pn m).2 j = m j := by
  unfold o_fulfils
  show va_up _ 620 _ j = m j
  rw [va_up_ne _ _ (by omega), store_keep hnu (by omega), rmP_lo (by omega)]
theorem ful_ne {nf nu nc pn : Nat} {m : Nat → Int64} {j : Nat} (h : j ≠ 620) : (o_fulfils nf nu nc pn m).2 j = (o_store nf nu nc (rmP m pn (bst m pn) (3 * (pn - 1))) (m (530 + 3 * bst m pn)).toInt32 (m (530 + 3 * bst m pn + 1)).toInt32).2 j := va_up_ne _ _ h
theorem ful_529 {nf nu nc pn : Nat} (hnu : nu ≤ 6) {m : Nat → Int64} : (o_fulfils nf nu nc pn m).2 529 = lN (pn - 1) := by rw [ful_ne (by decide), store_keep hnu (by omega), rmP_529]
theorem ful_Dm {nf nu nc pn : Nat} {m : Nat → Int64} (h : Dm m nf nu nc) : Dm (o_fulfils nf nu nc pn m).2 nf nu nc := by
  obtain ⟨hF, hU, hC, h1, h2, h3, h4, h5⟩ := h
  exact ⟨by rw [ful_keep h4 (by omega)]; exact hF, by rw [ful_keep h4 (by omega)]; exact hU, by rw [ful_keep h4 (by omega)]; exact hC, h1, h2, h3, h4, h5⟩

theorem nlt64 {x y : Int64} : ¬ x < y ↔ y ≤ x := by rw [Int64.le_iff_toInt_le, Int64.lt_iff_toInt_lt]; omega
set_option maxRecDepth 100000 in
set_option maxHeartbeats 4000000 in
theorem sp_fulfils (ad : Nat → Nat) (I : FI) (J : FJ) (A : FI) (B : FJ) (nf nu nc pn : Nat) (hm : Dm (B 501) nf nu nc) (hP : B 501 529 = lN pn) (hp1 : 1 ≤ pn) (hp2 : pn ≤ 30) : Spec M_X9_fulfils [.ref (ad 500)] (YR ad) I J A B (eqP (some (.int (o_fulfils nf nu nc pn (B 501)).1)) (YR ad) I J A (va_up B 501 (o_fulfils nf nu nc pn (B 501)).2)) := by
  refine Spec_of (by decide) tk_X9_fulfils (Nat.le_of_ble_eq_true rfl) (fun X g rt => ?_)
  show Sim X (YR ad) 0 [(0, .ref (ad 500))] [] I J A B 0 0
  refine S_n g 4 (pc' := 4) (lv' := [(0, .ref (ad 500)), (1, .int (nI 0)), (2, .int (nI 1))]) (st' := []) rfl ?_
  have lp : ∀ (nn : Nat) (k : Nat), pn - k = nn → (0 < k) → (k ≤ pn) → Sim X (YR ad) 4 [(0, .ref (ad 500)), (1, .int (nI (bst (B 501) k))), (2, .int (nI k))] [] I J A B 0 0 := by
    intro nn
    induction nn using Nat.strongRecOn with
    | ind nn ih =>
      intro k hmz hk1 hk2
      have lp := ih
      have hb9 := bst_lt (B 501) k hk1
      refine S_n g 2 (pc' := 6) (lv' := [(0, .ref (ad 500)), (1, .int (nI (bst (B 501) k))), (2, .int (nI k))]) (st' := [.long (nI k).toInt64]) rfl ?_
      rw [nI_l (n := k) (by omega)]
      refine S_n g 1 (pc' := 7) (lv' := [(0, .ref (ad 500)), (1, .int (nI (bst (B 501) k))), (2, .int (nI k))]) (st' := [.ref (ad 500), .long (lN k)]) rfl ?_
      refine S_getR g (i := 500) (c := 9) (k := 0) (j := 501) (by decide) (by decide) rfl rfl rfl fl_X9_7 rfl ?_
      refine S_n g 1 (pc' := 13) (lv' := [(0, .ref (ad 500)), (1, .int (nI (bst (B 501) k))), (2, .int (nI k))]) (st' := [.int (nI 529), .ref (ad 501), .long (lN k)]) rfl ?_
      refine S_laldN g (i := 501) (e := 529) (by decide) rfl (show 529 < 621 from by omega) (show (621 : Nat) < 2 ^ 31 from by decide) rfl ?_
      rw [hP]
      refine S_lcN_ge g (tgt := 62) (by omega) (by omega) rfl rfl (by decide) (fun qz14 => ?_) (fun qz14 => ?_)
      · skip
        have hk9 : k = pn := by omega
        obtain ⟨b, hb⟩ : ∃ b, b = bst (B 501) pn := ⟨_, rfl⟩
        refine S_lveq (lv' := [(0, .ref (ad 500)), (1, .int (nI b)), (2, .int (nI k))]) (by rw [(show nI (bst (B 501) k) = nI b from by rw [hb, hk9]).symm]) ?_
        refine S_keep (lv' := [(0, .ref (ad 500)), (1, .int (nI b))]) [0, 1] rfl ?_
        rw [hk9] at hb9
        rw [← hb] at hb9
        refine S_n g 1 (pc' := 63) (lv' := [(0, .ref (ad 500)), (1, .int (nI b))]) (st' := [.ref (ad 500)]) rfl ?_
        refine S_getR g (i := 500) (c := 9) (k := 0) (j := 501) (by decide) (by decide) rfl rfl rfl fl_X9_7 rfl ?_
        refine S_n g 4 (pc' := 72) (lv' := [(0, .ref (ad 500)), (1, .int (nI b))]) (st' := [.int ((nI 3) * (nI b)), .int (nI 530), .ref (ad 501)]) rfl ?_
        rw [pk_mul 3 b]
        refine S_n g 1 (pc' := 73) (lv' := [(0, .ref (ad 500)), (1, .int (nI b))]) (st' := [.int ((nI 530) + (nI (3 * b))), .ref (ad 501)]) rfl ?_
        rw [nI_add 530 (3 * b)]
        refine S_laldN g (i := 501) (e := 530 + (3 * b)) (by decide) rfl (show 530 + (3 * b) < 621 from by omega) (show (621 : Nat) < 2 ^ 31 from by decide) rfl ?_
        refine S_n g 3 (pc' := 77) (lv' := [(0, .ref (ad 500)), (1, .int (nI b)), (2, .int (B 501 (530 + (3 * b))).toInt32)]) (st' := [.ref (ad 500)]) rfl ?_
        refine S_getR g (i := 500) (c := 9) (k := 0) (j := 501) (by decide) (by decide) rfl rfl rfl fl_X9_7 rfl ?_
        refine S_n g 4 (pc' := 86) (lv' := [(0, .ref (ad 500)), (1, .int (nI b)), (2, .int (B 501 (530 + (3 * b))).toInt32)]) (st' := [.int ((nI 3) * (nI b)), .int (nI 530), .ref (ad 501)]) rfl ?_
        rw [pk_mul 3 b]
        refine S_n g 1 (pc' := 87) (lv' := [(0, .ref (ad 500)), (1, .int (nI b)), (2, .int (B 501 (530 + (3 * b))).toInt32)]) (st' := [.int ((nI 530) + (nI (3 * b))), .ref (ad 501)]) rfl ?_
        rw [nI_add 530 (3 * b)]
        refine S_n g 2 (pc' := 89) (lv' := [(0, .ref (ad 500)), (1, .int (nI b)), (2, .int (B 501 (530 + (3 * b))).toInt32)]) (st' := [.int ((nI (530 + (3 * b))) + (nI 1)), .ref (ad 501)]) rfl ?_
        rw [nI_add (530 + (3 * b)) 1]
        refine S_laldN g (i := 501) (e := (530 + (3 * b)) + 1) (by decide) rfl (show (530 + (3 * b)) + 1 < 621 from by omega) (show (621 : Nat) < 2 ^ 31 from by decide) rfl ?_
        refine S_n g 3 (pc' := 93) (lv' := [(0, .ref (ad 500)), (1, .int (nI b)), (2, .int (B 501 (530 + (3 * b))).toInt32), (3, .int (B 501 ((530 + (3 * b)) + 1)).toInt32)]) (st' := [.ref (ad 500)]) rfl ?_
        refine S_getR g (i := 500) (c := 9) (k := 0) (j := 501) (by decide) (by decide) rfl rfl rfl fl_X9_7 rfl ?_
        refine S_n g 2 (pc' := 100) (lv' := [(0, .ref (ad 500)), (1, .int (nI b)), (2, .int (B 501 (530 + (3 * b))).toInt32), (3, .int (B 501 ((530 + (3 * b)) + 1)).toInt32)]) (st' := [.int (nI 529), .ref (ad 501), .int (nI 529), .ref (ad 501)]) rfl ?_
        refine S_laldN g (i := 501) (e := 529) (by decide) rfl (show 529 < 621 from by omega) (show (621 : Nat) < 2 ^ 31 from by decide) rfl ?_
        rw [hP]
        refine S_n g 2 (pc' := 103) (lv' := [(0, .ref (ad 500)), (1, .int (nI b)), (2, .int (B 501 (530 + (3 * b))).toInt32), (3, .int (B 501 ((530 + (3 * b)) + 1)).toInt32)]) (st' := [.long ((lN pn) - (lN 1)), .int (nI 529), .ref (ad 501)]) rfl ?_
        rw [lN_sub (a := pn) (b := 1) (by omega)]
        refine S_lastN g (i := 501) (e := 529) (by decide) rfl (show 529 < 621 from by omega) (show (621 : Nat) < 2 ^ 31 from by decide) rfl ?_
        show Sim X (YR ad) 104 [(0, .ref (ad 500)), (1, .int (nI b)), (2, .int (B 501 (530 + (3 * b))).toInt32), (3, .int (B 501 ((530 + (3 * b)) + 1)).toInt32)] [] I J A (va_up B 501 (va_up (B 501) 529 (lN (pn - 1)))) 0 0
        refine S_n g 3 (pc' := 107) (lv' := [(0, .ref (ad 500)), (1, .int (nI b)), (2, .int (B 501 (530 + (3 * b))).toInt32), (3, .int (B 501 ((530 + (3 * b)) + 1)).toInt32)]) (st' := [.int ((nI 3) * (nI b))]) rfl ?_
        rw [pk_mul 3 b]
        refine S_n g 1 (pc' := 109) (lv' := [(0, .ref (ad 500)), (1, .int (nI b)), (2, .int (B 501 (530 + (3 * b))).toInt32), (3, .int (B 501 ((530 + (3 * b)) + 1)).toInt32), (4, .int (nI (3 * b)))]) (st' := []) rfl ?_
        rw [rmP_0 (m := B 501) (pn := pn) (b := b)]
        have lp2 : ∀ (nn : Nat) (k2 : Nat), 3 * (pn - 1) - k2 = nn → (3 * b ≤ k2) → (k2 ≤ 3 * (pn - 1)) → Sim X (YR ad) 109 [(0, .ref (ad 500)), (1, .int (nI b)), (2, .int (B 501 (530 + (3 * b))).toInt32), (3, .int (B 501 ((530 + (3 * b)) + 1)).toInt32), (4, .int (nI k2))] [] I J A (va_up B 501 (rmP (B 501) pn b k2)) 0 0 := by
          intro nn
          induction nn using Nat.strongRecOn with
          | ind nn ih =>
            intro k2 hmz hk2 hk3
            have lp2 := ih
            refine S_n g 3 (pc' := 113) (lv' := [(0, .ref (ad 500)), (1, .int (nI b)), (2, .int (B 501 (530 + (3 * b))).toInt32), (3, .int (B 501 ((530 + (3 * b)) + 1)).toInt32), (4, .int (nI k2))]) (st' := [.ref (ad 500), .int (nI 3), .int (nI k2)]) rfl ?_
            refine S_getR g (i := 500) (c := 9) (k := 0) (j := 501) (by decide) (by decide) rfl rfl rfl fl_X9_7 rfl ?_
            refine S_n g 1 (pc' := 119) (lv' := [(0, .ref (ad 500)), (1, .int (nI b)), (2, .int (B 501 (530 + (3 * b))).toInt32), (3, .int (B 501 ((530 + (3 * b)) + 1)).toInt32), (4, .int (nI k2))]) (st' := [.int (nI 529), .ref (ad 501), .int (nI 3), .int (nI k2)]) rfl ?_
            refine S_laldN g (i := 501) (e := 529) (by decide) rfl (show 529 < 621 from by omega) (show (621 : Nat) < 2 ^ 31 from by decide) rfl ?_
            show Sim X (YR ad) 120 [(0, .ref (ad 500)), (1, .int (nI b)), (2, .int (B 501 (530 + (3 * b))).toInt32), (3, .int (B 501 ((530 + (3 * b)) + 1)).toInt32), (4, .int (nI k2))] [.long (rmP (B 501) pn b k2 529), .int (nI 3), .int (nI k2)] I J A (va_up B 501 (rmP (B 501) pn b k2)) 0 0
            rw [rmP_529]
            refine S_n g 1 (pc' := 121) (lv' := [(0, .ref (ad 500)), (1, .int (nI b)), (2, .int (B 501 (530 + (3 * b))).toInt32), (3, .int (B 501 ((530 + (3 * b)) + 1)).toInt32), (4, .int (nI k2))]) (st' := [.int (lN (pn - 1)).toInt32, .int (nI 3), .int (nI k2)]) rfl ?_
            rw [lN_i (pn - 1)]
            refine S_n g 1 (pc' := 122) (lv' := [(0, .ref (ad 500)), (1, .int (nI b)), (2, .int (B 501 (530 + (3 * b))).toInt32), (3, .int (B 501 ((530 + (3 * b)) + 1)).toInt32), (4, .int (nI k2))]) (st' := [.int ((nI 3) * (nI (pn - 1))), .int (nI k2)]) rfl ?_
            rw [pk_mul 3 (pn - 1)]
            refine S_icN_ge g (tgt := 155) (by omega) (by omega) rfl (by decide) (fun qz122 => ?_) (fun qz122 => ?_)
            · skip
              have hj9 : k2 = 3 * (pn - 1) := by omega
              rw [hj9]
              refine S_n g 3 (pc' := 158) (lv' := [(0, .ref (ad 500)), (1, .int (nI b)), (2, .int (B 501 (530 + (3 * b))).toInt32), (3, .int (B 501 ((530 + (3 * b)) + 1)).toInt32), (4, .int (nI (3 * (pn - 1))))]) (st' := [.int (B 501 ((530 + (3 * b)) + 1)).toInt32, .int (B 501 (530 + (3 * b))).toInt32, .ref (ad 500)]) rfl ?_
              refine S_cV g (i := 500) (As := [.int (B 501 (530 + (3 * b))).toInt32, .int (B 501 ((530 + (3 * b)) + 1)).toInt32]) (st := []) (sp_store ad I J A (va_up B 501 (rmP (B 501) pn b (3 * (pn - 1)))) (B 501 (530 + (3 * b))).toInt32 (B 501 ((530 + (3 * b)) + 1)).toInt32 nf nu nc (rmP_Dm hm)) mw_X9_store lk_X9_115 ⟨Nat.le_of_ble_eq_true rfl, Nat.le_of_ble_eq_true rfl⟩ (by decide) (by decide) rfl rfl (Nat.le_of_ble_eq_true rfl) ⟨Nat.le_of_ble_eq_true rfl, Nat.le_of_ble_eq_true rfl⟩ rfl ?_
              rw [va_up1]
              show Sim X (YR ad) 161 [(0, .ref (ad 500)), (1, .int (nI b)), (2, .int (B 501 (530 + (3 * b))).toInt32), (3, .int (B 501 ((530 + (3 * b)) + 1)).toInt32), (4, .int (nI (3 * (pn - 1))))] [.int (o_store nf nu nc (rmP (B 501) pn b (3 * (pn - 1))) (B 501 (530 + (3 * b))).toInt32 (B 501 ((530 + (3 * b)) + 1)).toInt32).1] I J A (va_up B 501 (o_store nf nu nc (rmP (B 501) pn b (3 * (pn - 1))) (B 501 (530 + (3 * b))).toInt32 (B 501 ((530 + (3 * b)) + 1)).toInt32).2) 0 0
              have hso : (o_store nf nu nc (rmP (B 501) pn b (3 * (pn - 1))) (B 501 (530 + (3 * b))).toInt32 (B 501 ((530 + (3 * b)) + 1)).toInt32) = o_store nf nu nc (rmP (B 501) pn b (3 * (pn - 1))) (B 501 (530 + (3 * b))).toInt32 (B 501 ((530 + (3 * b)) + 1)).toInt32 := rfl
              obtain ⟨so, hso⟩ : ∃ so, so = o_store nf nu nc (rmP (B 501) pn b (3 * (pn - 1))) (B 501 (530 + (3 * b))).toInt32 (B 501 ((530 + (3 * b)) + 1)).toInt32 := ⟨_, rfl⟩
              rw [← hso]
              have hfo : o_fulfils nf nu nc pn (B 501) = (if 0 ≤ so.1 then nI 1 else nI 0, va_up so.2 620 (so.2 620 + if 0 ≤ so.1 then lN 0 else lN 1)) := by rw [hso, hb]; rfl
              refine S_n g 2 (pc' := 164) (lv' := [(0, .ref (ad 500)), (1, .int (nI b)), (2, .int (B 501 (530 + (3 * b))).toInt32), (3, .int (B 501 ((530 + (3 * b)) + 1)).toInt32), (4, .int so.1)]) (st' := [.ref (ad 500)]) rfl ?_
              refine S_getR g (i := 500) (c := 9) (k := 0) (j := 501) (by decide) (by decide) rfl rfl rfl fl_X9_7 rfl ?_
              refine S_n g 2 (pc' := 171) (lv' := [(0, .ref (ad 500)), (1, .int (nI b)), (2, .int (B 501 (530 + (3 * b))).toInt32), (3, .int (B 501 ((530 + (3 * b)) + 1)).toInt32), (4, .int so.1)]) (st' := [.int (nI 620), .ref (ad 501), .int (nI 620), .ref (ad 501)]) rfl ?_
              refine S_laldN g (i := 501) (e := 620) (by decide) rfl (show 620 < 621 from by omega) (show (621 : Nat) < 2 ^ 31 from by decide) rfl ?_
              show Sim X (YR ad) 172 [(0, .ref (ad 500)), (1, .int (nI b)), (2, .int (B 501 (530 + (3 * b))).toInt32), (3, .int (B 501 ((530 + (3 * b)) + 1)).toInt32), (4, .int so.1)] [.long (so.2 620), .int (nI 620), .ref (ad 501)] I J A (va_up B 501 so.2) 0 0
              refine S_n g 1 (pc' := 174) (lv' := [(0, .ref (ad 500)), (1, .int (nI b)), (2, .int (B 501 (530 + (3 * b))).toInt32), (3, .int (B 501 ((530 + (3 * b)) + 1)).toInt32), (4, .int so.1)]) (st' := [.int so.1, .long (so.2 620), .int (nI 620), .ref (ad 501)]) rfl ?_
              refine S_if_ge g (tgt := 181) rfl (by decide) (fun qz174 => ?_) (fun qz174 => ?_)
              · skip
                refine S_n g 2 (pc' := 183) (lv' := [(0, .ref (ad 500)), (1, .int (nI b)), (2, .int (B 501 (530 + (3 * b))).toInt32), (3, .int (B 501 ((530 + (3 * b)) + 1)).toInt32), (4, .int so.1)]) (st' := [.long ((so.2 620) + (lN 0)), .int (nI 620), .ref (ad 501)]) rfl ?_
                refine S_lastN g (i := 501) (e := 620) (by decide) rfl (show 620 < 621 from by omega) (show (621 : Nat) < 2 ^ 31 from by decide) rfl ?_
                rw [up2_r1 (i := 501)]
                refine S_n g 1 (pc' := 186) (lv' := [(0, .ref (ad 500)), (1, .int (nI b)), (2, .int (B 501 (530 + (3 * b))).toInt32), (3, .int (B 501 ((530 + (3 * b)) + 1)).toInt32), (4, .int so.1)]) (st' := [.int so.1]) rfl ?_
                refine S_if_ge g (tgt := 193) rfl (by decide) (fun qz186 => ?_) (fun qz186 => ?_)
                · skip
                  refine S_n g 1 (pc' := 194) (lv' := [(0, .ref (ad 500)), (1, .int (nI b)), (2, .int (B 501 (530 + (3 * b))).toInt32), (3, .int (B 501 ((530 + (3 * b)) + 1)).toInt32), (4, .int so.1)]) (st' := [.int (nI 1)]) rfl ?_
                  exact rtI rt rfl rfl (eq_o (by rw [hfo, if_pos qz174, if_pos qz174]) rfl)
                · skip
                  exact absurd qz174 qz186
              · skip
                refine S_n g 3 (pc' := 183) (lv' := [(0, .ref (ad 500)), (1, .int (nI b)), (2, .int (B 501 (530 + (3 * b))).toInt32), (3, .int (B 501 ((530 + (3 * b)) + 1)).toInt32), (4, .int so.1)]) (st' := [.long ((so.2 620) + (lN 1)), .int (nI 620), .ref (ad 501)]) rfl ?_
                refine S_lastN g (i := 501) (e := 620) (by decide) rfl (show 620 < 621 from by omega) (show (621 : Nat) < 2 ^ 31 from by decide) rfl ?_
                rw [up2_r1 (i := 501)]
                refine S_n g 1 (pc' := 186) (lv' := [(0, .ref (ad 500)), (1, .int (nI b)), (2, .int (B 501 (530 + (3 * b))).toInt32), (3, .int (B 501 ((530 + (3 * b)) + 1)).toInt32), (4, .int so.1)]) (st' := [.int so.1]) rfl ?_
                refine S_if_ge g (tgt := 193) rfl (by decide) (fun qz186 => ?_) (fun qz186 => ?_)
                · skip
                  exact absurd qz186 qz174
                · skip
                  refine S_n g 2 (pc' := 194) (lv' := [(0, .ref (ad 500)), (1, .int (nI b)), (2, .int (B 501 (530 + (3 * b))).toInt32), (3, .int (B 501 ((530 + (3 * b)) + 1)).toInt32), (4, .int so.1)]) (st' := [.int (nI 0)]) rfl ?_
                  exact rtI rt rfl rfl (eq_o (by rw [hfo, if_neg qz174, if_neg qz174]) rfl)
            · skip
              refine S_n g 1 (pc' := 126) (lv' := [(0, .ref (ad 500)), (1, .int (nI b)), (2, .int (B 501 (530 + (3 * b))).toInt32), (3, .int (B 501 ((530 + (3 * b)) + 1)).toInt32), (4, .int (nI k2))]) (st' := [.ref (ad 500)]) rfl ?_
              refine S_getR g (i := 500) (c := 9) (k := 0) (j := 501) (by decide) (by decide) rfl rfl rfl fl_X9_7 rfl ?_
              refine S_n g 3 (pc' := 135) (lv' := [(0, .ref (ad 500)), (1, .int (nI b)), (2, .int (B 501 (530 + (3 * b))).toInt32), (3, .int (B 501 ((530 + (3 * b)) + 1)).toInt32), (4, .int (nI k2))]) (st' := [.int ((nI 530) + (nI k2)), .ref (ad 501)]) rfl ?_
              rw [nI_add 530 k2]
              refine S_n g 1 (pc' := 136) (lv' := [(0, .ref (ad 500)), (1, .int (nI b)), (2, .int (B 501 (530 + (3 * b))).toInt32), (3, .int (B 501 ((530 + (3 * b)) + 1)).toInt32), (4, .int (nI k2))]) (st' := [.ref (ad 500), .int (nI (530 + k2)), .ref (ad 501)]) rfl ?_
              refine S_getR g (i := 500) (c := 9) (k := 0) (j := 501) (by decide) (by decide) rfl rfl rfl fl_X9_7 rfl ?_
              refine S_n g 3 (pc' := 145) (lv' := [(0, .ref (ad 500)), (1, .int (nI b)), (2, .int (B 501 (530 + (3 * b))).toInt32), (3, .int (B 501 ((530 + (3 * b)) + 1)).toInt32), (4, .int (nI k2))]) (st' := [.int ((nI 530) + (nI k2)), .ref (ad 501), .int (nI (530 + k2)), .ref (ad 501)]) rfl ?_
              rw [nI_add 530 k2]
              refine S_n g 2 (pc' := 147) (lv' := [(0, .ref (ad 500)), (1, .int (nI b)), (2, .int (B 501 (530 + (3 * b))).toInt32), (3, .int (B 501 ((530 + (3 * b)) + 1)).toInt32), (4, .int (nI k2))]) (st' := [.int ((nI (530 + k2)) + (nI 3)), .ref (ad 501), .int (nI (530 + k2)), .ref (ad 501)]) rfl ?_
              rw [nI_add (530 + k2) 3]
              refine S_laldN g (i := 501) (e := (530 + k2) + 3) (by decide) rfl (show (530 + k2) + 3 < 621 from by omega) (show (621 : Nat) < 2 ^ 31 from by decide) rfl ?_
              show Sim X (YR ad) 148 [(0, .ref (ad 500)), (1, .int (nI b)), (2, .int (B 501 (530 + (3 * b))).toInt32), (3, .int (B 501 ((530 + (3 * b)) + 1)).toInt32), (4, .int (nI k2))] [.long (rmP (B 501) pn b k2 ((530 + k2) + 3)), .int (nI (530 + k2)), .ref (ad 501)] I J A (va_up B 501 (rmP (B 501) pn b k2)) 0 0
              refine S_lastN g (i := 501) (e := 530 + k2) (by decide) rfl (show 530 + k2 < 621 from by omega) (show (621 : Nat) < 2 ^ 31 from by decide) rfl ?_
              rw [up2_r1 (i := 501)]
              refine S_n g 1 (pc' := 152) (lv' := [(0, .ref (ad 500)), (1, .int (nI b)), (2, .int (B 501 (530 + (3 * b))).toInt32), (3, .int (B 501 ((530 + (3 * b)) + 1)).toInt32), (4, .int ((nI k2) + nI 1))]) (st' := []) rfl ?_
              rw [nI_add k2 1]
              refine S_n g 1 (pc' := 109) (lv' := [(0, .ref (ad 500)), (1, .int (nI b)), (2, .int (B 501 (530 + (3 * b))).toInt32), (3, .int (B 501 ((530 + (3 * b)) + 1)).toInt32), (4, .int (nI (k2 + 1)))]) (st' := []) rfl ?_
              rw [rmP_s (by omega)]
              exact lp2 (3 * (pn - 1) - (k2 + 1)) (by omega) (k2 + 1) rfl (by omega) (by omega)
        exact lp2 _ (3 * b) rfl (by omega) (by omega)
      · skip
        refine S_n g 1 (pc' := 19) (lv' := [(0, .ref (ad 500)), (1, .int (nI (bst (B 501) k))), (2, .int (nI k))]) (st' := [.ref (ad 500)]) rfl ?_
        refine S_getR g (i := 500) (c := 9) (k := 0) (j := 501) (by decide) (by decide) rfl rfl rfl fl_X9_7 rfl ?_
        refine S_n g 4 (pc' := 28) (lv' := [(0, .ref (ad 500)), (1, .int (nI (bst (B 501) k))), (2, .int (nI k))]) (st' := [.int ((nI 3) * (nI k)), .int (nI 530), .ref (ad 501)]) rfl ?_
        rw [pk_mul 3 k]
        refine S_n g 1 (pc' := 29) (lv' := [(0, .ref (ad 500)), (1, .int (nI (bst (B 501) k))), (2, .int (nI k))]) (st' := [.int ((nI 530) + (nI (3 * k))), .ref (ad 501)]) rfl ?_
        rw [nI_add 530 (3 * k)]
        refine S_n g 2 (pc' := 31) (lv' := [(0, .ref (ad 500)), (1, .int (nI (bst (B 501) k))), (2, .int (nI k))]) (st' := [.int ((nI (530 + (3 * k))) + (nI 2)), .ref (ad 501)]) rfl ?_
        rw [nI_add (530 + (3 * k)) 2]
        refine S_laldN g (i := 501) (e := (530 + (3 * k)) + 2) (by decide) rfl (show (530 + (3 * k)) + 2 < 621 from by omega) (show (621 : Nat) < 2 ^ 31 from by decide) rfl ?_
        refine S_n g 1 (pc' := 33) (lv' := [(0, .ref (ad 500)), (1, .int (nI (bst (B 501) k))), (2, .int (nI k))]) (st' := [.ref (ad 500), .long (B 501 ((530 + (3 * k)) + 2))]) rfl ?_
        refine S_getR g (i := 500) (c := 9) (k := 0) (j := 501) (by decide) (by decide) rfl rfl rfl fl_X9_7 rfl ?_
        refine S_n g 4 (pc' := 42) (lv' := [(0, .ref (ad 500)), (1, .int (nI (bst (B 501) k))), (2, .int (nI k))]) (st' := [.int ((nI 3) * (nI (bst (B 501) k))), .int (nI 530), .ref (ad 501), .long (B 501 ((530 + (3 * k)) + 2))]) rfl ?_
        rw [pk_mul 3 (bst (B 501) k)]
        refine S_n g 1 (pc' := 43) (lv' := [(0, .ref (ad 500)), (1, .int (nI (bst (B 501) k))), (2, .int (nI k))]) (st' := [.int ((nI 530) + (nI (3 * (bst (B 501) k)))), .ref (ad 501), .long (B 501 ((530 + (3 * k)) + 2))]) rfl ?_
        rw [nI_add 530 (3 * (bst (B 501) k))]
        refine S_n g 2 (pc' := 45) (lv' := [(0, .ref (ad 500)), (1, .int (nI (bst (B 501) k))), (2, .int (nI k))]) (st' := [.int ((nI (530 + (3 * (bst (B 501) k)))) + (nI 2)), .ref (ad 501), .long (B 501 ((530 + (3 * k)) + 2))]) rfl ?_
        rw [nI_add (530 + (3 * (bst (B 501) k))) 2]
        refine S_laldN g (i := 501) (e := (530 + (3 * (bst (B 501) k))) + 2) (by decide) rfl (show (530 + (3 * (bst (B 501) k))) + 2 < 621 from by omega) (show (621 : Nat) < 2 ^ 31 from by decide) rfl ?_
        refine S_lc_le g (tgt := 54) rfl rfl (by decide) (fun qz46 => ?_) (fun qz46 => ?_)
        · skip
          refine S_n g 2 (pc' := 56) (lv' := [(0, .ref (ad 500)), (1, .int (nI (bst (B 501) k))), (2, .int (nI k))]) (st' := []) rfl ?_
          refine S_lveq (lv' := [(0, .ref (ad 500)), (1, .int (nI (bst (B 501) (k + 1)))), (2, .int (nI k))]) (by rw [(show nI (bst (B 501) k) = nI (bst (B 501) (k + 1)) from by rw [bst, if_neg (by omega), if_neg (nlt64.mpr qz46)]).symm]) ?_
          refine S_n g 1 (pc' := 59) (lv' := [(0, .ref (ad 500)), (1, .int (nI (bst (B 501) (k + 1)))), (2, .int ((nI k) + nI 1))]) (st' := []) rfl ?_
          rw [nI_add k 1]
          refine S_n g 1 (pc' := 4) (lv' := [(0, .ref (ad 500)), (1, .int (nI (bst (B 501) (k + 1)))), (2, .int (nI (k + 1)))]) (st' := []) rfl ?_
          exact lp (pn - (k + 1)) (by omega) (k + 1) rfl (by omega) (by omega)
        · skip
          refine S_n g 3 (pc' := 56) (lv' := [(0, .ref (ad 500)), (1, .int (nI k)), (2, .int (nI k))]) (st' := []) rfl ?_
          refine S_lveq (lv' := [(0, .ref (ad 500)), (1, .int (nI (bst (B 501) (k + 1)))), (2, .int (nI k))]) (by rw [(show nI k = nI (bst (B 501) (k + 1)) from by rw [bst, if_neg (by omega), if_pos qz46]).symm]) ?_
          refine S_n g 1 (pc' := 59) (lv' := [(0, .ref (ad 500)), (1, .int (nI (bst (B 501) (k + 1)))), (2, .int ((nI k) + nI 1))]) (st' := []) rfl ?_
          rw [nI_add k 1]
          refine S_n g 1 (pc' := 4) (lv' := [(0, .ref (ad 500)), (1, .int (nI (bst (B 501) (k + 1)))), (2, .int (nI (k + 1)))]) (st' := []) rfl ?_
          exact lp (pn - (k + 1)) (by omega) (k + 1) rfl (by omega) (by omega)
  exact lp _ 1 rfl (by omega) (by omega)

def itI (nf nu nc pn : Nat) (m : Nat → Int64) : Nat → Int32 × (Nat → Int64)
  | 0 => (nI 0, m)
  | t + 1 => ((itI nf nu nc pn m t).1 + (o_fulfils nf nu nc (pn - t) (itI nf nu nc pn m t).2).1, (o_fulfils nf nu nc (pn - t) (itI nf nu nc pn m t).2).2)
theorem itI_Dm {nf nu nc pn : Nat} {m : Nat → Int64} (h : Dm m nf nu nc) : ∀ t, Dm (itI nf nu nc pn m t).2 nf nu nc
  | 0 => h
  | t + 1 => ful_Dm (itI_Dm h t)
theorem itI_529 {nf nu nc pn : Nat} (hnu : nu ≤ 6) {m : Nat → Int64} (h : m 529 = lN pn) : ∀ t, (itI nf nu nc pn m t).2 529 = lN (pn - t)
  | 0 => h
  | t + 1 => by
    show (o_fulfils nf nu nc (pn - t) (itI nf nu nc pn m t).2).2 529 = _
    rw [ful_529 hnu]
    congr 1
def o_idle (nf nu nc pn qn : Nat) (m : Nat → Int64) (x : Int32) : Int32 × (Nat → Int64) :=
  if isIn x 1 50 = true then (if 0 < qn then (-nI 102, m) else itI nf nu nc pn m (min (ix x) pn)) else (-nI 101, m)

set_option maxRecDepth 100000 in
set_option maxHeartbeats 4000000 in
theorem sp_idle (ad : Nat → Nat) (I : FI) (J : FJ) (A : FI) (B : FJ) (x : Int32) (nf nu nc pn qn : Nat) (hm : Dm (B 501) nf nu nc) (hP : B 501 529 = lN pn) (hp2 : pn ≤ 30) (hQ : B 501 327 = lN qn) (hq : qn ≤ 100) : Spec M_X9_idle [.ref (ad 500), .int x] (YR ad) I J A B (eqP (some (.int (o_idle nf nu nc pn qn (B 501) x).1)) (YR ad) I J A (va_up B 501 (o_idle nf nu nc pn qn (B 501) x).2)) := by
  have h4 := hm.2.2.2.2.2.2.1
  refine Spec_of (by decide) tk_X9_idle (Nat.le_of_ble_eq_true rfl) (fun X g rt => ?_)
  show Sim X (YR ad) 0 [(0, .ref (ad 500)), (1, .int x)] [] I J A B 0 0
  refine S_n g 3 (pc' := 3) (lv' := [(0, .ref (ad 500)), (1, .int x)]) (st' := [.long (lN 1), .long x.toInt64]) rfl ?_
  refine S_ldc2 g kc_X9_118 rfl ?_
  refine S_cS g (As := [.long x.toInt64, .long (lN 1), .long (lN 50)]) (st := []) (sp_in (YR ad) I J A B x.toInt64 (lN 1) (lN 50)) mw_X9_in lk_X9_63 ⟨Nat.le_of_ble_eq_true rfl, Nat.le_of_ble_eq_true rfl⟩ rfl (Nat.le_of_ble_eq_true rfl) ⟨Nat.le_of_ble_eq_true rfl, Nat.le_of_ble_eq_true rfl⟩ rfl ?_
  show Sim X (YR ad) 9 [(0, .ref (ad 500)), (1, .int x)] [.int (bI (inL x.toInt64 (lN 1) (lN 50)))] I J A B 0 0
  refine S_steq (st' := [.int (bI (isIn x 1 50))]) (by rw [(show bI (inL x.toInt64 (lN 1) (lN 50)) = bI (isIn x 1 50) from by rw [inL_n (by decide) (by decide)]; rfl).symm]) ?_
  refine S_ifB_ne g (tgt := 15) rfl (by decide) (fun qz9 => ?_) (fun qz9 => ?_)
  · skip
    obtain ⟨n, hna, hnb, hxn⟩ := isIn_t qz9
    subst hxn
    have hcn : (nI n).toNatClampNeg = n := nI_clamp (by omega)
    refine S_n g 1 (pc' := 16) (lv' := [(0, .ref (ad 500)), (1, .int (nI n))]) (st' := [.ref (ad 500)]) rfl ?_
    refine S_getR g (i := 500) (c := 9) (k := 0) (j := 501) (by decide) (by decide) rfl rfl rfl fl_X9_7 rfl ?_
    refine S_n g 1 (pc' := 22) (lv' := [(0, .ref (ad 500)), (1, .int (nI n))]) (st' := [.int (nI 327), .ref (ad 501)]) rfl ?_
    refine S_laldN g (i := 501) (e := 327) (by decide) rfl (show 327 < 621 from by omega) (show (621 : Nat) < 2 ^ 31 from by decide) rfl ?_
    rw [hQ]
    refine S_n g 1 (pc' := 24) (lv' := [(0, .ref (ad 500)), (1, .int (nI n))]) (st' := [.long (lN 0), .long (lN qn)]) rfl ?_
    refine S_lcN_le g (tgt := 31) (by omega) (by omega) rfl rfl (by decide) (fun qz24 => ?_) (fun qz24 => ?_)
    · skip
      refine S_n g 4 (pc' := 35) (lv' := [(0, .ref (ad 500)), (1, .int (nI n)), (2, .int (nI 0)), (3, .int (nI 0))]) (st' := []) rfl ?_
      have lp : ∀ (nn : Nat) (t : Nat), n - t = nn → (t ≤ n) → (t ≤ pn) → Sim X (YR ad) 35 [(0, .ref (ad 500)), (1, .int (nI n)), (2, .int (itI nf nu nc pn (B 501) t).1), (3, .int (nI t))] [] I J A (va_up B 501 (itI nf nu nc pn (B 501) t).2) 0 0 := by
        intro nn
        induction nn using Nat.strongRecOn with
        | ind nn ih =>
          intro t hmz ht1 ht2
          have lp := ih
          refine S_n g 2 (pc' := 37) (lv' := [(0, .ref (ad 500)), (1, .int (nI n)), (2, .int (itI nf nu nc pn (B 501) t).1), (3, .int (nI t))]) (st' := [.int (nI n), .int (nI t)]) rfl ?_
          refine S_icN_ge g (tgt := 66) (by omega) (by omega) rfl (by decide) (fun qz37 => ?_) (fun qz37 => ?_)
          · skip
            refine S_n g 1 (pc' := 67) (lv' := [(0, .ref (ad 500)), (1, .int (nI n)), (2, .int (itI nf nu nc pn (B 501) t).1), (3, .int (nI t))]) (st' := [.int (itI nf nu nc pn (B 501) t).1]) rfl ?_
            exact rtI rt rfl rfl (eq_o (by simp only [o_idle, qz9, if_true, show ¬ 0 < qn from by omega, if_false, ix, hcn]; rw [show min n pn = t from by omega]) rfl)
          · skip
            refine S_n g 1 (pc' := 41) (lv' := [(0, .ref (ad 500)), (1, .int (nI n)), (2, .int (itI nf nu nc pn (B 501) t).1), (3, .int (nI t))]) (st' := [.ref (ad 500)]) rfl ?_
            refine S_getR g (i := 500) (c := 9) (k := 0) (j := 501) (by decide) (by decide) rfl rfl rfl fl_X9_7 rfl ?_
            refine S_n g 1 (pc' := 47) (lv' := [(0, .ref (ad 500)), (1, .int (nI n)), (2, .int (itI nf nu nc pn (B 501) t).1), (3, .int (nI t))]) (st' := [.int (nI 529), .ref (ad 501)]) rfl ?_
            refine S_laldN g (i := 501) (e := 529) (by decide) rfl (show 529 < 621 from by omega) (show (621 : Nat) < 2 ^ 31 from by decide) rfl ?_
            show Sim X (YR ad) 48 [(0, .ref (ad 500)), (1, .int (nI n)), (2, .int (itI nf nu nc pn (B 501) t).1), (3, .int (nI t))] [.long ((itI nf nu nc pn (B 501) t).2 529)] I J A (va_up B 501 (itI nf nu nc pn (B 501) t).2) 0 0
            rw [itI_529 (by omega) hP t]
            refine S_n g 1 (pc' := 49) (lv' := [(0, .ref (ad 500)), (1, .int (nI n)), (2, .int (itI nf nu nc pn (B 501) t).1), (3, .int (nI t))]) (st' := [.long (lN 0), .long (lN (pn - t))]) rfl ?_
            refine S_lcN_le g (tgt := 66) (by omega) (by omega) rfl rfl (by decide) (fun qz49 => ?_) (fun qz49 => ?_)
            · skip
              refine S_n g 1 (pc' := 67) (lv' := [(0, .ref (ad 500)), (1, .int (nI n)), (2, .int (itI nf nu nc pn (B 501) t).1), (3, .int (nI t))]) (st' := [.int (itI nf nu nc pn (B 501) t).1]) rfl ?_
              exact rtI rt rfl rfl (eq_o (by simp only [o_idle, qz9, if_true, show ¬ 0 < qn from by omega, if_false, ix, hcn]; rw [show min n pn = t from by omega]) rfl)
            · skip
              refine S_n g 2 (pc' := 55) (lv' := [(0, .ref (ad 500)), (1, .int (nI n)), (2, .int (itI nf nu nc pn (B 501) t).1), (3, .int (nI t))]) (st' := [.ref (ad 500), .int (itI nf nu nc pn (B 501) t).1]) rfl ?_
              refine S_cV g (i := 500) (As := []) (st := [.int (itI nf nu nc pn (B 501) t).1]) (sp_fulfils ad I J A (va_up B 501 (itI nf nu nc pn (B 501) t).2) nf nu nc (pn - t) (itI_Dm hm t) (itI_529 (by omega) hP t) (by omega) (by omega)) mw_X9_fulfils lk_X9_120 ⟨Nat.le_of_ble_eq_true rfl, Nat.le_of_ble_eq_true rfl⟩ (by decide) (by decide) rfl rfl (Nat.le_of_ble_eq_true rfl) ⟨Nat.le_of_ble_eq_true rfl, Nat.le_of_ble_eq_true rfl⟩ rfl ?_
              rw [va_up1]
              show Sim X (YR ad) 58 [(0, .ref (ad 500)), (1, .int (nI n)), (2, .int (itI nf nu nc pn (B 501) t).1), (3, .int (nI t))] [.int (o_fulfils nf nu nc (pn - t) (itI nf nu nc pn (B 501) t).2).1, .int (itI nf nu nc pn (B 501) t).1] I J A (va_up B 501 (itI nf nu nc pn (B 501) (t + 1)).2) 0 0
              refine S_n g 2 (pc' := 60) (lv' := [(0, .ref (ad 500)), (1, .int (nI n)), (2, .int ((itI nf nu nc pn (B 501) t).1 + (o_fulfils nf nu nc (pn - t) (itI nf nu nc pn (B 501) t).2).1)), (3, .int (nI t))]) (st' := []) rfl ?_
              show Sim X (YR ad) 60 [(0, .ref (ad 500)), (1, .int (nI n)), (2, .int (itI nf nu nc pn (B 501) (t + 1)).1), (3, .int (nI t))] [] I J A (va_up B 501 (itI nf nu nc pn (B 501) (t + 1)).2) 0 0
              refine S_n g 1 (pc' := 63) (lv' := [(0, .ref (ad 500)), (1, .int (nI n)), (2, .int (itI nf nu nc pn (B 501) (t + 1)).1), (3, .int ((nI t) + nI 1))]) (st' := []) rfl ?_
              rw [nI_add t 1]
              refine S_n g 1 (pc' := 35) (lv' := [(0, .ref (ad 500)), (1, .int (nI n)), (2, .int (itI nf nu nc pn (B 501) (t + 1)).1), (3, .int (nI (t + 1)))]) (st' := []) rfl ?_
              exact lp (n - (t + 1)) (by omega) (t + 1) rfl (by omega) (by omega)
      have h0 := lp _ 0 rfl (by omega) (by omega)
      have e0 : (itI nf nu nc pn (B 501) 0).2 = B 501 := rfl
      rw [e0, va_id] at h0
      exact h0
    · skip
      refine S_n g 1 (pc' := 30) (lv' := [(0, .ref (ad 500)), (1, .int (nI n))]) (st' := [.int (-nI 102)]) rfl ?_
      exact rtI rt rfl rfl (eq_o (by simp [o_idle, qz9, show 0 < qn from by omega]) (va_id _ _).symm)
  · skip
    refine S_n g 1 (pc' := 14) (lv' := [(0, .ref (ad 500)), (1, .int x)]) (st' := [.int (-nI 101)]) rfl ?_
    exact rtI rt rfl rfl (eq_o (by simp [o_idle, qz9]) (va_id _ _).symm)
