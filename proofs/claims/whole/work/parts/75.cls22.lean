/-! the class: knowledge -/
theorem md_0 {R R0 : Nat → Int64} {ld x : Int64} : md R R0 ld x 0 = R := by funext i; unfold md; rw [if_neg (fun q => absurd q.1 (Nat.not_lt_zero i))]
theorem md_at {R R0 : Nat → Int64} {ld x : Int64} {k : Nat} : md R R0 ld x k k = R k := by unfold md; rw [if_neg (fun q => absurd q.1 (Nat.lt_irrefl k))]
theorem md_s {R R0 : Nat → Int64} {ld x : Int64} {k : Nat} (h : ¬ R0 k &&& ld = lN 0) : va_up (md R R0 ld x k) k (R k ^^^ x) = md R R0 ld x (k + 1) := by
  funext i
  by_cases e : i = k
  · subst e
    rw [va_up_self]
    unfold md
    rw [if_pos ⟨Nat.lt_succ_self _, h⟩]
  · rw [va_up_ne _ _ e]
    unfold md
    by_cases q : i < k ∧ R0 i &&& ld ≠ lN 0
    · rw [if_pos q, if_pos ⟨by omega, q.2⟩]
    · rw [if_neg q, if_neg (fun w => q ⟨by omega, w.2⟩)]
theorem md_n {R R0 : Nat → Int64} {ld x : Int64} {k : Nat} (h : R0 k &&& ld = lN 0) : md R R0 ld x k = md R R0 ld x (k + 1) := by
  funext i
  unfold md
  by_cases q : i < k ∧ R0 i &&& ld ≠ lN 0
  · rw [if_pos q, if_pos ⟨by omega, q.2⟩]
  · rw [if_neg q, if_neg (fun w => q ⟨by have : i ≠ k := fun e => w.2 (by rw [e]; exact h); omega, w.2⟩)]
def adB (B : FJ) (r bh ld : Int64) (z : Nat) : FJ := va_up (va_up (va_up B 3 (va_up (md (B 3) (B 3) ld r z) z r)) 5 (va_up (md (B 5) (B 3) ld bh z) z bh)) 4 (va_up (B 4) z ld)
def KN (c : Int64) (li : Nat → Int64) (n : Nat) (I : FI) (J : FJ) (B : FJ) : Prop := ∃ z pv, CIv c li n z (B 3) (B 4) (B 5) pv ∧ I 2 3 = nI z ∧ J 2 4 = c ∧ J 2 5 = knL (B 3) (B 4) c z
def kpK (I : FI) (J : FJ) (B : FJ) (I' : FI) (J' : FJ) (B' : FJ) : Prop := (∀ i, i ≠ 2 → I' i = I i ∧ J' i = J i) ∧ ∀ i, i ≠ 3 → i ≠ 4 → i ≠ 5 → B' i = B i
def lrP (ad : Nat → Nat) (z0 z1 : Bool) (c : Int64) (li : Nat → Int64) (n : Nat) (I : FI) (J : FJ) (A : FI) (B : FJ) : PO := fun v' Y' I' J' A' B' => v' = none ∧ Y' = YC ad z0 z1 ∧ A' = A ∧ KN c li n I' J' B' ∧ kpK I J B I' J' B'

set_option maxRecDepth 100000 in
set_option maxHeartbeats 4000000 in
theorem kn_addRow (ad : Nat → Nat) (z0 z1 : Bool) (I : FI) (J : FJ) (A : FI) (B : FJ) (s q : Int64) (z : Nat) (hZ : I 2 3 = nI z) (hz : z < 40) : Spec M_X1_addRow [.ref (ad 2), .long s, .long q] (YC ad z0 z1) I J A B (fun v' Y' I' J' A' B' => v' = none ∧ Y' = YC ad z0 z1 ∧ J' = J ∧ A' = A ∧ if (cRd (B 3) (B 4) (B 5) s q z).1 = lN 0 then I' = I ∧ B' = B else I' = up2 I 2 3 (nI (z + 1)) ∧ B' = adB B (cRd (B 3) (B 4) (B 5) s q z).1 (cRd (B 3) (B 4) (B 5) s q z).2 ((cRd (B 3) (B 4) (B 5) s q z).1 &&& -(cRd (B 3) (B 4) (B 5) s q z).1) z) := by
  refine Spec_of (by decide) tk_X1_addRow (Nat.le_of_ble_eq_true rfl) (fun X g rt => ?_)
  show Sim X (YC ad z0 z1) 0 [(0, .ref (ad 2)), (1, .long s), (3, .long q)] [] I J A B 0 0
  refine S_n g 6 (pc' := 9) (lv' := [(0, .ref (ad 2)), (1, .long s), (3, .long q), (5, .long s), (7, .long q), (9, .int (nI 0))]) (st' := []) rfl ?_
  have lp : ∀ (nn : Nat) (j : Nat), z - j = nn → (j ≤ z) → Sim X (YC ad z0 z1) 9 [(0, .ref (ad 2)), (1, .long s), (3, .long q), (5, .long (cRd (B 3) (B 4) (B 5) s q j).1), (7, .long (cRd (B 3) (B 4) (B 5) s q j).2), (9, .int (nI j))] [] I J A B 0 0 := by
    intro nn
    induction nn using Nat.strongRecOn with
    | ind nn ih =>
      intro j hmz hj
      have lp := ih
      refine S_n g 2 (pc' := 12) (lv' := [(0, .ref (ad 2)), (1, .long s), (3, .long q), (5, .long (cRd (B 3) (B 4) (B 5) s q j).1), (7, .long (cRd (B 3) (B 4) (B 5) s q j).2), (9, .int (nI j))]) (st' := [.ref (ad 2), .int (nI j)]) rfl ?_
      refine S_getI g (i := 2) (c := 1) (k := 3) (by decide) (by decide) rfl rfl fl_X1_38 rfl ?_
      rw [hZ]
      refine S_icN_ge g (tgt := 63) (by omega) (by omega) rfl (by decide) (fun qz15 => ?_) (fun qz15 => ?_)
      · skip
        have hj9 : j = z := by omega
        subst hj9
        obtain ⟨r, hr⟩ : ∃ r, r = (cRd (B 3) (B 4) (B 5) s q j).1 := ⟨_, rfl⟩
        obtain ⟨bh, hbh⟩ : ∃ bh, bh = (cRd (B 3) (B 4) (B 5) s q j).2 := ⟨_, rfl⟩
        rw [← hr, ← hbh]
        show Sim X (YC ad z0 z1) 63 [(0, .ref (ad 2)), (1, .long s), (3, .long q), (5, .long r), (7, .long bh), (9, .int (nI j))] [] I J A B 0 0
        refine S_n g 2 (pc' := 66) (lv' := [(0, .ref (ad 2)), (1, .long s), (3, .long q), (5, .long r), (7, .long bh), (9, .int (nI j))]) (st' := [.long (lN 0), .long r]) rfl ?_
        refine S_lc_eq g (tgt := 79) rfl rfl (by decide) (fun qz66 => ?_) (fun qz66 => ?_)
        · skip
          exact rtV rt rfl rfl (⟨rfl, rfl, rfl, rfl, by rw [← hr, if_pos qz66]; exact ⟨rfl, rfl⟩⟩)
        · skip
          refine S_n g 1 (pc' := 71) (lv' := [(0, .ref (ad 2)), (1, .long s), (3, .long q), (5, .long r), (7, .long bh), (9, .int (nI j))]) (st' := [.ref (ad 2)]) rfl ?_
          refine S_getI g (i := 2) (c := 1) (k := 3) (by decide) (by decide) rfl rfl fl_X1_38 rfl ?_
          rw [hZ]
          refine S_n g 1 (pc' := 76) (lv' := [(0, .ref (ad 2)), (1, .long s), (3, .long q), (5, .long r), (7, .long bh), (9, .int (nI j))]) (st' := [.int (nI 40), .int (nI j)]) rfl ?_
          refine S_icN_lt g (tgt := 80) (by omega) (by omega) rfl (by decide) (fun qz76 => ?_) (fun qz76 => ?_)
          · skip
            refine S_n g 7 (pc' := 91) (lv' := [(0, .ref (ad 2)), (1, .long s), (3, .long q), (5, .long r), (7, .long bh), (9, .long (r &&& (-r))), (11, .int (nI 0))]) (st' := []) rfl ?_
            obtain ⟨ld, hld⟩ : ∃ ld, ld = r &&& -r := ⟨_, rfl⟩
            rw [← hld]
            show Sim X (YC ad z0 z1) 91 [(0, .ref (ad 2)), (1, .long s), (3, .long q), (5, .long r), (7, .long bh), (9, .long ld), (11, .int (nI 0))] [] I J A B 0 0
            have lp2 : ∀ (nn : Nat) (k : Nat), j - k = nn → (k ≤ j) → Sim X (YC ad z0 z1) 91 [(0, .ref (ad 2)), (1, .long s), (3, .long q), (5, .long r), (7, .long bh), (9, .long ld), (11, .int (nI k))] [] I J A (va_up (va_up B 3 (md (B 3) (B 3) ld r k)) 5 (md (B 5) (B 3) ld bh k)) 0 0 := by
              intro nn
              induction nn using Nat.strongRecOn with
              | ind nn ih =>
                intro k hmz hk
                have lp2 := ih
                refine S_n g 2 (pc' := 94) (lv' := [(0, .ref (ad 2)), (1, .long s), (3, .long q), (5, .long r), (7, .long bh), (9, .long ld), (11, .int (nI k))]) (st' := [.ref (ad 2), .int (nI k)]) rfl ?_
                refine S_getI g (i := 2) (c := 1) (k := 3) (by decide) (by decide) rfl rfl fl_X1_38 rfl ?_
                rw [hZ]
                refine S_icN_ge g (tgt := 145) (by omega) (by omega) rfl (by decide) (fun qz97 => ?_) (fun qz97 => ?_)
                · skip
                  have hk9 : k = j := by omega
                  subst hk9
                  refine S_n g 1 (pc' := 146) (lv' := [(0, .ref (ad 2)), (1, .long s), (3, .long q), (5, .long r), (7, .long bh), (9, .long ld), (11, .int (nI k))]) (st' := [.ref (ad 2)]) rfl ?_
                  refine S_getR g (i := 2) (c := 1) (k := 0) (j := 3) (by decide) (by decide) rfl rfl rfl fl_X1_9 rfl ?_
                  refine S_n g 1 (pc' := 150) (lv' := [(0, .ref (ad 2)), (1, .long s), (3, .long q), (5, .long r), (7, .long bh), (9, .long ld), (11, .int (nI k))]) (st' := [.ref (ad 2), .ref (ad 3)]) rfl ?_
                  refine S_getI g (i := 2) (c := 1) (k := 3) (by decide) (by decide) rfl rfl fl_X1_38 rfl ?_
                  rw [hZ]
                  refine S_n g 1 (pc' := 155) (lv' := [(0, .ref (ad 2)), (1, .long s), (3, .long q), (5, .long r), (7, .long bh), (9, .long ld), (11, .int (nI k))]) (st' := [.long r, .int (nI k), .ref (ad 3)]) rfl ?_
                  refine S_lastN g (i := 3) (e := k) (by decide) rfl (show k < 40 from by omega) (show (40 : Nat) < 2 ^ 31 from by decide) rfl ?_
                  rw [up2_r2 (i := 3) (j := 5) (by decide)]
                  rw [up2_r1 (i := 3)]
                  refine S_n g 1 (pc' := 157) (lv' := [(0, .ref (ad 2)), (1, .long s), (3, .long q), (5, .long r), (7, .long bh), (9, .long ld), (11, .int (nI k))]) (st' := [.ref (ad 2)]) rfl ?_
                  refine S_getR g (i := 2) (c := 1) (k := 1) (j := 4) (by decide) (by decide) rfl rfl rfl fl_X1_15 rfl ?_
                  refine S_n g 1 (pc' := 161) (lv' := [(0, .ref (ad 2)), (1, .long s), (3, .long q), (5, .long r), (7, .long bh), (9, .long ld), (11, .int (nI k))]) (st' := [.ref (ad 2), .ref (ad 4)]) rfl ?_
                  refine S_getI g (i := 2) (c := 1) (k := 3) (by decide) (by decide) rfl rfl fl_X1_38 rfl ?_
                  rw [hZ]
                  refine S_n g 1 (pc' := 166) (lv' := [(0, .ref (ad 2)), (1, .long s), (3, .long q), (5, .long r), (7, .long bh), (9, .long ld), (11, .int (nI k))]) (st' := [.long ld, .int (nI k), .ref (ad 4)]) rfl ?_
                  refine S_lastN g (i := 4) (e := k) (by decide) rfl (show k < 40 from by omega) (show (40 : Nat) < 2 ^ 31 from by decide) rfl ?_
                  show Sim X (YC ad z0 z1) 167 [(0, .ref (ad 2)), (1, .long s), (3, .long q), (5, .long r), (7, .long bh), (9, .long ld), (11, .int (nI k))] [] I J A (va_up (va_up (va_up B 3 (va_up (md (B 3) (B 3) ld r k) k r)) 5 (md (B 5) (B 3) ld bh k)) 4 (va_up (B 4) k ld)) 0 0
                  refine S_n g 1 (pc' := 168) (lv' := [(0, .ref (ad 2)), (1, .long s), (3, .long q), (5, .long r), (7, .long bh), (9, .long ld), (11, .int (nI k))]) (st' := [.ref (ad 2)]) rfl ?_
                  refine S_getR g (i := 2) (c := 1) (k := 2) (j := 5) (by decide) (by decide) rfl rfl rfl fl_X1_18 rfl ?_
                  refine S_n g 1 (pc' := 172) (lv' := [(0, .ref (ad 2)), (1, .long s), (3, .long q), (5, .long r), (7, .long bh), (9, .long ld), (11, .int (nI k))]) (st' := [.ref (ad 2), .ref (ad 5)]) rfl ?_
                  refine S_getI g (i := 2) (c := 1) (k := 3) (by decide) (by decide) rfl rfl fl_X1_38 rfl ?_
                  rw [hZ]
                  refine S_n g 1 (pc' := 177) (lv' := [(0, .ref (ad 2)), (1, .long s), (3, .long q), (5, .long r), (7, .long bh), (9, .long ld), (11, .int (nI k))]) (st' := [.long bh, .int (nI k), .ref (ad 5)]) rfl ?_
                  refine S_lastN g (i := 5) (e := k) (by decide) rfl (show k < 40 from by omega) (show (40 : Nat) < 2 ^ 31 from by decide) rfl ?_
                  rw [up2_r2 (i := 5) (j := 4) (by decide)]
                  rw [up2_r1 (i := 5)]
                  refine S_n g 2 (pc' := 180) (lv' := [(0, .ref (ad 2)), (1, .long s), (3, .long q), (5, .long r), (7, .long bh), (9, .long ld), (11, .int (nI k))]) (st' := [.ref (ad 2), .ref (ad 2)]) rfl ?_
                  refine S_getI g (i := 2) (c := 1) (k := 3) (by decide) (by decide) rfl rfl fl_X1_38 rfl ?_
                  rw [hZ]
                  refine S_n g 2 (pc' := 185) (lv' := [(0, .ref (ad 2)), (1, .long s), (3, .long q), (5, .long r), (7, .long bh), (9, .long ld), (11, .int (nI k))]) (st' := [.int ((nI k) + (nI 1)), .ref (ad 2)]) rfl ?_
                  rw [nI_add k 1]
                  refine S_putI g (i := 2) (c := 1) (k := 3) (kd := 0) (by decide) (by decide) rfl rfl (by decide) fw_X1_38 rfl rfl rfl ?_
                  exact rtV rt rfl rfl (⟨rfl, rfl, rfl, rfl, by rw [← hr, ← hbh, if_neg qz66, ← hld]; exact ⟨rfl, rfl⟩⟩)
                · skip
                  refine S_n g 1 (pc' := 101) (lv' := [(0, .ref (ad 2)), (1, .long s), (3, .long q), (5, .long r), (7, .long bh), (9, .long ld), (11, .int (nI k))]) (st' := [.ref (ad 2)]) rfl ?_
                  refine S_getR g (i := 2) (c := 1) (k := 0) (j := 3) (by decide) (by decide) rfl rfl rfl fl_X1_9 rfl ?_
                  refine S_n g 1 (pc' := 106) (lv' := [(0, .ref (ad 2)), (1, .long s), (3, .long q), (5, .long r), (7, .long bh), (9, .long ld), (11, .int (nI k))]) (st' := [.int (nI k), .ref (ad 3)]) rfl ?_
                  refine S_laldN g (i := 3) (e := k) (by decide) rfl (show k < 40 from by omega) (show (40 : Nat) < 2 ^ 31 from by decide) rfl ?_
                  show Sim X (YC ad z0 z1) 107 [(0, .ref (ad 2)), (1, .long s), (3, .long q), (5, .long r), (7, .long bh), (9, .long ld), (11, .int (nI k))] [.long (md (B 3) (B 3) ld r k k)] I J A (va_up (va_up B 3 (md (B 3) (B 3) ld r k)) 5 (md (B 5) (B 3) ld bh k)) 0 0
                  rw [md_at]
                  refine S_n g 3 (pc' := 111) (lv' := [(0, .ref (ad 2)), (1, .long s), (3, .long q), (5, .long r), (7, .long bh), (9, .long ld), (11, .int (nI k))]) (st' := [.long (lN 0), .long ((B 3 k) &&& ld)]) rfl ?_
                  refine S_lc_eq g (tgt := 139) rfl rfl (by decide) (fun qz111 => ?_) (fun qz111 => ?_)
                  · skip
                    rw [md_n (R := B 3) qz111, md_n (R := B 5) qz111]
                    refine S_n g 1 (pc' := 142) (lv' := [(0, .ref (ad 2)), (1, .long s), (3, .long q), (5, .long r), (7, .long bh), (9, .long ld), (11, .int ((nI k) + nI 1))]) (st' := []) rfl ?_
                    rw [nI_add k 1]
                    refine S_n g 1 (pc' := 91) (lv' := [(0, .ref (ad 2)), (1, .long s), (3, .long q), (5, .long r), (7, .long bh), (9, .long ld), (11, .int (nI (k + 1)))]) (st' := []) rfl ?_
                    exact lp2 (j - (k + 1)) (by omega) (k + 1) rfl (by omega)
                  · skip
                    refine S_n g 1 (pc' := 116) (lv' := [(0, .ref (ad 2)), (1, .long s), (3, .long q), (5, .long r), (7, .long bh), (9, .long ld), (11, .int (nI k))]) (st' := [.ref (ad 2)]) rfl ?_
                    refine S_getR g (i := 2) (c := 1) (k := 0) (j := 3) (by decide) (by decide) rfl rfl rfl fl_X1_9 rfl ?_
                    refine S_n g 2 (pc' := 122) (lv' := [(0, .ref (ad 2)), (1, .long s), (3, .long q), (5, .long r), (7, .long bh), (9, .long ld), (11, .int (nI k))]) (st' := [.int (nI k), .ref (ad 3), .int (nI k), .ref (ad 3)]) rfl ?_
                    refine S_laldN g (i := 3) (e := k) (by decide) rfl (show k < 40 from by omega) (show (40 : Nat) < 2 ^ 31 from by decide) rfl ?_
                    show Sim X (YC ad z0 z1) 123 [(0, .ref (ad 2)), (1, .long s), (3, .long q), (5, .long r), (7, .long bh), (9, .long ld), (11, .int (nI k))] [.long (md (B 3) (B 3) ld r k k), .int (nI k), .ref (ad 3)] I J A (va_up (va_up B 3 (md (B 3) (B 3) ld r k)) 5 (md (B 5) (B 3) ld bh k)) 0 0
                    rw [md_at]
                    refine S_n g 2 (pc' := 126) (lv' := [(0, .ref (ad 2)), (1, .long s), (3, .long q), (5, .long r), (7, .long bh), (9, .long ld), (11, .int (nI k))]) (st' := [.long ((B 3 k) ^^^ r), .int (nI k), .ref (ad 3)]) rfl ?_
                    refine S_lastN g (i := 3) (e := k) (by decide) rfl (show k < 40 from by omega) (show (40 : Nat) < 2 ^ 31 from by decide) rfl ?_
                    rw [up2_r2 (i := 3) (j := 5) (by decide)]
                    rw [up2_r1 (i := 3)]
                    refine S_n g 1 (pc' := 128) (lv' := [(0, .ref (ad 2)), (1, .long s), (3, .long q), (5, .long r), (7, .long bh), (9, .long ld), (11, .int (nI k))]) (st' := [.ref (ad 2)]) rfl ?_
                    refine S_getR g (i := 2) (c := 1) (k := 2) (j := 5) (by decide) (by decide) rfl rfl rfl fl_X1_18 rfl ?_
                    refine S_n g 2 (pc' := 134) (lv' := [(0, .ref (ad 2)), (1, .long s), (3, .long q), (5, .long r), (7, .long bh), (9, .long ld), (11, .int (nI k))]) (st' := [.int (nI k), .ref (ad 5), .int (nI k), .ref (ad 5)]) rfl ?_
                    refine S_laldN g (i := 5) (e := k) (by decide) rfl (show k < 40 from by omega) (show (40 : Nat) < 2 ^ 31 from by decide) rfl ?_
                    show Sim X (YC ad z0 z1) 135 [(0, .ref (ad 2)), (1, .long s), (3, .long q), (5, .long r), (7, .long bh), (9, .long ld), (11, .int (nI k))] [.long (md (B 5) (B 3) ld bh k k), .int (nI k), .ref (ad 5)] I J A (va_up (va_up B 3 (va_up (md (B 3) (B 3) ld r k) k ((B 3 k) ^^^ r))) 5 (md (B 5) (B 3) ld bh k)) 0 0
                    rw [md_at]
                    refine S_n g 2 (pc' := 138) (lv' := [(0, .ref (ad 2)), (1, .long s), (3, .long q), (5, .long r), (7, .long bh), (9, .long ld), (11, .int (nI k))]) (st' := [.long ((B 5 k) ^^^ bh), .int (nI k), .ref (ad 5)]) rfl ?_
                    refine S_lastN g (i := 5) (e := k) (by decide) rfl (show k < 40 from by omega) (show (40 : Nat) < 2 ^ 31 from by decide) rfl ?_
                    rw [up2_r1 (i := 5)]
                    rw [md_s (R := B 3) qz111, md_s (R := B 5) qz111]
                    refine S_n g 1 (pc' := 142) (lv' := [(0, .ref (ad 2)), (1, .long s), (3, .long q), (5, .long r), (7, .long bh), (9, .long ld), (11, .int ((nI k) + nI 1))]) (st' := []) rfl ?_
                    rw [nI_add k 1]
                    refine S_n g 1 (pc' := 91) (lv' := [(0, .ref (ad 2)), (1, .long s), (3, .long q), (5, .long r), (7, .long bh), (9, .long ld), (11, .int (nI (k + 1)))]) (st' := []) rfl ?_
                    exact lp2 (j - (k + 1)) (by omega) (k + 1) rfl (by omega)
            have h0 := lp2 _ 0 rfl (Nat.zero_le _)
            rw [md_0, md_0, va_id, va_id] at h0
            exact h0
          · skip
            omega
      · skip
        refine S_n g 2 (pc' := 21) (lv' := [(0, .ref (ad 2)), (1, .long s), (3, .long q), (5, .long (cRd (B 3) (B 4) (B 5) s q j).1), (7, .long (cRd (B 3) (B 4) (B 5) s q j).2), (9, .int (nI j))]) (st' := [.ref (ad 2), .long (cRd (B 3) (B 4) (B 5) s q j).1]) rfl ?_
        refine S_getR g (i := 2) (c := 1) (k := 1) (j := 4) (by decide) (by decide) rfl rfl rfl fl_X1_15 rfl ?_
        refine S_n g 1 (pc' := 26) (lv' := [(0, .ref (ad 2)), (1, .long s), (3, .long q), (5, .long (cRd (B 3) (B 4) (B 5) s q j).1), (7, .long (cRd (B 3) (B 4) (B 5) s q j).2), (9, .int (nI j))]) (st' := [.int (nI j), .ref (ad 4), .long (cRd (B 3) (B 4) (B 5) s q j).1]) rfl ?_
        refine S_laldN g (i := 4) (e := j) (by decide) rfl (show j < 40 from by omega) (show (40 : Nat) < 2 ^ 31 from by decide) rfl ?_
        refine S_n g 2 (pc' := 29) (lv' := [(0, .ref (ad 2)), (1, .long s), (3, .long q), (5, .long (cRd (B 3) (B 4) (B 5) s q j).1), (7, .long (cRd (B 3) (B 4) (B 5) s q j).2), (9, .int (nI j))]) (st' := [.long (lN 0), .long ((cRd (B 3) (B 4) (B 5) s q j).1 &&& (B 4 j))]) rfl ?_
        refine S_lc_eq g (tgt := 57) rfl rfl (by decide) (fun qz29 => ?_) (fun qz29 => ?_)
        · skip
          refine S_lveq (lv' := [(0, .ref (ad 2)), (1, .long s), (3, .long q), (5, .long (cRd (B 3) (B 4) (B 5) s q (j + 1)).1), (7, .long (cRd (B 3) (B 4) (B 5) s q j).2), (9, .int (nI j))]) (by rw [(show (cRd (B 3) (B 4) (B 5) s q j).1 = (cRd (B 3) (B 4) (B 5) s q (j + 1)).1 from by rw [cRd, if_neg (fun q => q qz29)]).symm]) ?_
          refine S_lveq (lv' := [(0, .ref (ad 2)), (1, .long s), (3, .long q), (5, .long (cRd (B 3) (B 4) (B 5) s q (j + 1)).1), (7, .long (cRd (B 3) (B 4) (B 5) s q (j + 1)).2), (9, .int (nI j))]) (by rw [(show (cRd (B 3) (B 4) (B 5) s q j).2 = (cRd (B 3) (B 4) (B 5) s q (j + 1)).2 from by rw [cRd, if_neg (fun q => q qz29)]).symm]) ?_
          refine S_n g 1 (pc' := 60) (lv' := [(0, .ref (ad 2)), (1, .long s), (3, .long q), (5, .long (cRd (B 3) (B 4) (B 5) s q (j + 1)).1), (7, .long (cRd (B 3) (B 4) (B 5) s q (j + 1)).2), (9, .int ((nI j) + nI 1))]) (st' := []) rfl ?_
          rw [nI_add j 1]
          refine S_n g 1 (pc' := 9) (lv' := [(0, .ref (ad 2)), (1, .long s), (3, .long q), (5, .long (cRd (B 3) (B 4) (B 5) s q (j + 1)).1), (7, .long (cRd (B 3) (B 4) (B 5) s q (j + 1)).2), (9, .int (nI (j + 1)))]) (st' := []) rfl ?_
          exact lp (z - (j + 1)) (by omega) (j + 1) rfl (by omega)
        · skip
          refine S_n g 2 (pc' := 36) (lv' := [(0, .ref (ad 2)), (1, .long s), (3, .long q), (5, .long (cRd (B 3) (B 4) (B 5) s q j).1), (7, .long (cRd (B 3) (B 4) (B 5) s q j).2), (9, .int (nI j))]) (st' := [.ref (ad 2), .long (cRd (B 3) (B 4) (B 5) s q j).1]) rfl ?_
          refine S_getR g (i := 2) (c := 1) (k := 0) (j := 3) (by decide) (by decide) rfl rfl rfl fl_X1_9 rfl ?_
          refine S_n g 1 (pc' := 41) (lv' := [(0, .ref (ad 2)), (1, .long s), (3, .long q), (5, .long (cRd (B 3) (B 4) (B 5) s q j).1), (7, .long (cRd (B 3) (B 4) (B 5) s q j).2), (9, .int (nI j))]) (st' := [.int (nI j), .ref (ad 3), .long (cRd (B 3) (B 4) (B 5) s q j).1]) rfl ?_
          refine S_laldN g (i := 3) (e := j) (by decide) rfl (show j < 40 from by omega) (show (40 : Nat) < 2 ^ 31 from by decide) rfl ?_
          refine S_n g 4 (pc' := 48) (lv' := [(0, .ref (ad 2)), (1, .long s), (3, .long q), (5, .long ((cRd (B 3) (B 4) (B 5) s q j).1 ^^^ (B 3 j))), (7, .long (cRd (B 3) (B 4) (B 5) s q j).2), (9, .int (nI j))]) (st' := [.ref (ad 2), .long (cRd (B 3) (B 4) (B 5) s q j).2]) rfl ?_
          refine S_getR g (i := 2) (c := 1) (k := 2) (j := 5) (by decide) (by decide) rfl rfl rfl fl_X1_18 rfl ?_
          refine S_n g 1 (pc' := 53) (lv' := [(0, .ref (ad 2)), (1, .long s), (3, .long q), (5, .long ((cRd (B 3) (B 4) (B 5) s q j).1 ^^^ (B 3 j))), (7, .long (cRd (B 3) (B 4) (B 5) s q j).2), (9, .int (nI j))]) (st' := [.int (nI j), .ref (ad 5), .long (cRd (B 3) (B 4) (B 5) s q j).2]) rfl ?_
          refine S_laldN g (i := 5) (e := j) (by decide) rfl (show j < 40 from by omega) (show (40 : Nat) < 2 ^ 31 from by decide) rfl ?_
          refine S_n g 2 (pc' := 57) (lv' := [(0, .ref (ad 2)), (1, .long s), (3, .long q), (5, .long ((cRd (B 3) (B 4) (B 5) s q j).1 ^^^ (B 3 j))), (7, .long ((cRd (B 3) (B 4) (B 5) s q j).2 ^^^ (B 5 j))), (9, .int (nI j))]) (st' := []) rfl ?_
          refine S_lveq (lv' := [(0, .ref (ad 2)), (1, .long s), (3, .long q), (5, .long (cRd (B 3) (B 4) (B 5) s q (j + 1)).1), (7, .long ((cRd (B 3) (B 4) (B 5) s q j).2 ^^^ (B 5 j))), (9, .int (nI j))]) (by rw [(show (cRd (B 3) (B 4) (B 5) s q j).1 ^^^ (B 3 j) = (cRd (B 3) (B 4) (B 5) s q (j + 1)).1 from by rw [cRd, if_pos qz29]).symm]) ?_
          refine S_lveq (lv' := [(0, .ref (ad 2)), (1, .long s), (3, .long q), (5, .long (cRd (B 3) (B 4) (B 5) s q (j + 1)).1), (7, .long (cRd (B 3) (B 4) (B 5) s q (j + 1)).2), (9, .int (nI j))]) (by rw [(show (cRd (B 3) (B 4) (B 5) s q j).2 ^^^ (B 5 j) = (cRd (B 3) (B 4) (B 5) s q (j + 1)).2 from by rw [cRd, if_pos qz29]).symm]) ?_
          refine S_n g 1 (pc' := 60) (lv' := [(0, .ref (ad 2)), (1, .long s), (3, .long q), (5, .long (cRd (B 3) (B 4) (B 5) s q (j + 1)).1), (7, .long (cRd (B 3) (B 4) (B 5) s q (j + 1)).2), (9, .int ((nI j) + nI 1))]) (st' := []) rfl ?_
          rw [nI_add j 1]
          refine S_n g 1 (pc' := 9) (lv' := [(0, .ref (ad 2)), (1, .long s), (3, .long q), (5, .long (cRd (B 3) (B 4) (B 5) s q (j + 1)).1), (7, .long (cRd (B 3) (B 4) (B 5) s q (j + 1)).2), (9, .int (nI (j + 1)))]) (st' := []) rfl ?_
          exact lp (z - (j + 1)) (by omega) (j + 1) rfl (by omega)
  exact lp _ 0 rfl (Nat.zero_le _)

set_option maxRecDepth 100000 in
set_option maxHeartbeats 4000000 in
theorem kn_learnFrom (ad : Nat → Nat) (z0 z1 : Bool) (I : FI) (J : FJ) (A : FI) (B : FJ) (u n : Nat) (c : Int64) (li : Nat → Int64) (hu : u < 6) (hS : I (120 + 4 * u + 1) 3 = nI n) (hn : n ≤ 40) (hli : ∀ k, k < n → B (120 + 4 * u + 1 + 1) k = li k) (hc : ∀ i, 60 ≤ i → tb c i = false) (hl : ∀ k, k < n → ∀ i, 60 ≤ i → tb (li k) i = false) : Spec M_X1_learnFrom [.ref (ad 2), .long c, .ref (ad (120 + 4 * u + 1))] (YC ad z0 z1) I J A B (lrP ad z0 z1 c li n I J A B) := by
  have hmb := mb7 (ad := ad) (z0 := z0) (z1 := z1) hu
  refine Spec_of (by decide) tk_X1_learnFrom (Nat.le_of_ble_eq_true rfl) (fun X g rt => ?_)
  show Sim X (YC ad z0 z1) 0 [(0, .ref (ad 2)), (1, .long c), (3, .ref (ad (120 + 4 * u + 1)))] [] I J A B 0 0
  refine S_n g 2 (pc' := 2) (lv' := [(0, .ref (ad 2)), (1, .long c), (3, .ref (ad (120 + 4 * u + 1)))]) (st' := [.long c, .ref (ad 2)]) rfl ?_
  refine S_putJ g (i := 2) (c := 1) (k := 4) (by decide) (by decide) rfl rfl fw_X1_35 rfl ?_
  refine S_n g 2 (pc' := 7) (lv' := [(0, .ref (ad 2)), (1, .long c), (3, .ref (ad (120 + 4 * u + 1)))]) (st' := [.int (nI 0), .ref (ad 2)]) rfl ?_
  refine S_putI g (i := 2) (c := 1) (k := 3) (kd := 0) (by decide) (by decide) rfl rfl (by decide) fw_X1_38 rfl rfl rfl ?_
  refine S_n g 2 (pc' := 13) (lv' := [(0, .ref (ad 2)), (1, .long c), (3, .ref (ad (120 + 4 * u + 1))), (4, .int (nI 0))]) (st' := []) rfl ?_
  have lp : ∀ (nn : Nat) (k : Nat) (I2 : FI) (B2 : FJ), n - k = nn → (k ≤ n) → (∃ z pv, CIv c li k z (B2 3) (B2 4) (B2 5) pv ∧ I2 2 3 = nI z) → (∀ i, i ≠ 2 → I2 i = I i) → (∀ i, i ≠ 3 → i ≠ 4 → i ≠ 5 → B2 i = B i) → Sim X (YC ad z0 z1) 13 [(0, .ref (ad 2)), (1, .long c), (3, .ref (ad (120 + 4 * u + 1))), (4, .int (nI k))] [] I2 (up2 J 2 4 c) A B2 0 0 := by
    intro nn
    induction nn using Nat.strongRecOn with
    | ind nn ih =>
      intro k I2 B2 hmz hk hinv hk1 hk2
      have lp := ih
      have hS2 : I2 (120 + 4 * u + 1) 3 = nI n := by rw [hk1 _ (by omega)]; exact hS
      refine S_n g 2 (pc' := 16) (lv' := [(0, .ref (ad 2)), (1, .long c), (3, .ref (ad (120 + 4 * u + 1))), (4, .int (nI k))]) (st' := [.ref (ad (120 + 4 * u + 1)), .int (nI k)]) rfl ?_
      refine S_getI g (i := 120 + 4 * u + 1) (c := 6) (k := 3) (by omega) (by decide) (mb7 hu).2.2.2.1 rfl fl_X1_42 rfl ?_
      rw [hS2]
      refine S_icN_ge g (tgt := 48) (by omega) (by omega) rfl (by decide) (fun qz19 => ?_) (fun qz19 => ?_)
      · skip
        have hk9 : k = n := by omega
        subst hk9
        obtain ⟨z, pv, hCI, hZ⟩ := hinv
        have hzk := hCI.1.1
        refine S_n g 2 (pc' := 50) (lv' := [(0, .ref (ad 2)), (1, .long c), (3, .ref (ad (120 + 4 * u + 1))), (4, .int (nI k))]) (st' := [.long c, .ref (ad 2)]) rfl ?_
        refine S_putJ g (i := 2) (c := 1) (k := 5) (by decide) (by decide) rfl rfl fw_X1_55 rfl ?_
        refine S_n g 2 (pc' := 56) (lv' := [(0, .ref (ad 2)), (1, .long c), (3, .ref (ad (120 + 4 * u + 1))), (4, .int (nI 0))]) (st' := []) rfl ?_
        have lp2 : ∀ (nn : Nat) (j : Nat), z - j = nn → (j ≤ z) → Sim X (YC ad z0 z1) 56 [(0, .ref (ad 2)), (1, .long c), (3, .ref (ad (120 + 4 * u + 1))), (4, .int (nI j))] [] I2 (up2 (up2 J 2 4 c) 2 5 (knL (B2 3) (B2 4) c j)) A B2 0 0 := by
          intro nn
          induction nn using Nat.strongRecOn with
          | ind nn ih =>
            intro j hmz hj
            have lp2 := ih
            refine S_n g 2 (pc' := 59) (lv' := [(0, .ref (ad 2)), (1, .long c), (3, .ref (ad (120 + 4 * u + 1))), (4, .int (nI j))]) (st' := [.ref (ad 2), .int (nI j)]) rfl ?_
            refine S_getI g (i := 2) (c := 1) (k := 3) (by decide) (by decide) rfl rfl fl_X1_38 rfl ?_
            rw [hZ]
            refine S_icN_ge g (tgt := 105) (by omega) (by omega) rfl (by decide) (fun qz62 => ?_) (fun qz62 => ?_)
            · skip
              have hj9 : j = z := by omega
              subst hj9
              exact rtV rt rfl rfl (⟨rfl, rfl, rfl, ⟨j, pv, hCI, hZ, rfl, rfl⟩, fun i hi => ⟨hk1 i hi, (u2r hi).trans (u2r hi)⟩, hk2⟩)
            · skip
              refine S_n g 1 (pc' := 66) (lv' := [(0, .ref (ad 2)), (1, .long c), (3, .ref (ad (120 + 4 * u + 1))), (4, .int (nI j))]) (st' := [.ref (ad 2)]) rfl ?_
              refine S_getR g (i := 2) (c := 1) (k := 0) (j := 3) (by decide) (by decide) rfl rfl rfl fl_X1_9 rfl ?_
              refine S_n g 1 (pc' := 71) (lv' := [(0, .ref (ad 2)), (1, .long c), (3, .ref (ad (120 + 4 * u + 1))), (4, .int (nI j))]) (st' := [.int (nI j), .ref (ad 3)]) rfl ?_
              refine S_laldN g (i := 3) (e := j) (by decide) rfl (show j < 40 from by omega) (show (40 : Nat) < 2 ^ 31 from by decide) rfl ?_
              refine S_n g 1 (pc' := 73) (lv' := [(0, .ref (ad 2)), (1, .long c), (3, .ref (ad (120 + 4 * u + 1))), (4, .int (nI j))]) (st' := [.ref (ad 2), .long (B2 3 j)]) rfl ?_
              refine S_getR g (i := 2) (c := 1) (k := 1) (j := 4) (by decide) (by decide) rfl rfl rfl fl_X1_15 rfl ?_
              refine S_n g 1 (pc' := 78) (lv' := [(0, .ref (ad 2)), (1, .long c), (3, .ref (ad (120 + 4 * u + 1))), (4, .int (nI j))]) (st' := [.int (nI j), .ref (ad 4), .long (B2 3 j)]) rfl ?_
              refine S_laldN g (i := 4) (e := j) (by decide) rfl (show j < 40 from by omega) (show (40 : Nat) < 2 ^ 31 from by decide) rfl ?_
              refine S_lc_ne g (tgt := 99) rfl rfl (by decide) (fun qz79 => ?_) (fun qz79 => ?_)
              · skip
                rw [show knL (B2 3) (B2 4) c j = knL (B2 3) (B2 4) c (j + 1) from by rw [knL, if_neg qz79]]
                refine S_n g 1 (pc' := 102) (lv' := [(0, .ref (ad 2)), (1, .long c), (3, .ref (ad (120 + 4 * u + 1))), (4, .int ((nI j) + nI 1))]) (st' := []) rfl ?_
                rw [nI_add j 1]
                refine S_n g 1 (pc' := 56) (lv' := [(0, .ref (ad 2)), (1, .long c), (3, .ref (ad (120 + 4 * u + 1))), (4, .int (nI (j + 1)))]) (st' := []) rfl ?_
                exact lp2 (z - (j + 1)) (by omega) (j + 1) rfl (by omega)
              · skip
                refine S_n g 2 (pc' := 85) (lv' := [(0, .ref (ad 2)), (1, .long c), (3, .ref (ad (120 + 4 * u + 1))), (4, .int (nI j))]) (st' := [.ref (ad 2), .ref (ad 2)]) rfl ?_
                refine S_getJ g (i := 2) (c := 1) (k := 5) (by decide) (by decide) rfl rfl fl_X1_55 rfl ?_
                show Sim X (YC ad z0 z1) 88 [(0, .ref (ad 2)), (1, .long c), (3, .ref (ad (120 + 4 * u + 1))), (4, .int (nI j))] [.long (knL (B2 3) (B2 4) c j), .ref (ad 2)] I2 (up2 (up2 J 2 4 c) 2 5 (knL (B2 3) (B2 4) c j)) A B2 0 0
                refine S_n g 1 (pc' := 89) (lv' := [(0, .ref (ad 2)), (1, .long c), (3, .ref (ad (120 + 4 * u + 1))), (4, .int (nI j))]) (st' := [.ref (ad 2), .long (knL (B2 3) (B2 4) c j), .ref (ad 2)]) rfl ?_
                refine S_getR g (i := 2) (c := 1) (k := 0) (j := 3) (by decide) (by decide) rfl rfl rfl fl_X1_9 rfl ?_
                refine S_n g 1 (pc' := 94) (lv' := [(0, .ref (ad 2)), (1, .long c), (3, .ref (ad (120 + 4 * u + 1))), (4, .int (nI j))]) (st' := [.int (nI j), .ref (ad 3), .long (knL (B2 3) (B2 4) c j), .ref (ad 2)]) rfl ?_
                refine S_laldN g (i := 3) (e := j) (by decide) rfl (show j < 40 from by omega) (show (40 : Nat) < 2 ^ 31 from by decide) rfl ?_
                refine S_n g 1 (pc' := 96) (lv' := [(0, .ref (ad 2)), (1, .long c), (3, .ref (ad (120 + 4 * u + 1))), (4, .int (nI j))]) (st' := [.long ((knL (B2 3) (B2 4) c j) ||| (B2 3 j)), .ref (ad 2)]) rfl ?_
                refine S_steq (st' := [.long (knL (B2 3) (B2 4) c (j + 1)), .ref (ad 2)]) (by rw [(show (knL (B2 3) (B2 4) c j) ||| (B2 3 j) = knL (B2 3) (B2 4) c (j + 1) from by rw [knL, if_pos qz79]).symm]) ?_
                refine S_putJ g (i := 2) (c := 1) (k := 5) (by decide) (by decide) rfl rfl fw_X1_55 rfl ?_
                rw [up2_c1 (i := 2) (k := 5)]
                refine S_n g 1 (pc' := 102) (lv' := [(0, .ref (ad 2)), (1, .long c), (3, .ref (ad (120 + 4 * u + 1))), (4, .int ((nI j) + nI 1))]) (st' := []) rfl ?_
                rw [nI_add j 1]
                refine S_n g 1 (pc' := 56) (lv' := [(0, .ref (ad 2)), (1, .long c), (3, .ref (ad (120 + 4 * u + 1))), (4, .int (nI (j + 1)))]) (st' := []) rfl ?_
                exact lp2 (z - (j + 1)) (by omega) (j + 1) rfl (by omega)
        exact lp2 _ 0 rfl (Nat.zero_le _)
      · skip
        refine S_n g 3 (pc' := 26) (lv' := [(0, .ref (ad 2)), (1, .long c), (3, .ref (ad (120 + 4 * u + 1))), (4, .int (nI k))]) (st' := [.int (nI k), .ref (ad (120 + 4 * u + 1)), .ref (ad 2)]) rfl ?_
        refine S_cV g (i := 120 + 4 * u + 1) (As := [.int (nI k)]) (st := [.ref (ad 2)]) (sl_setAt ad z0 z1 I2 (up2 J 2 4 c) A B2 (120 + 4 * u + 1) 40 n hmb.2.2 (by decide) hS2 hn (nI k)) mw_X6_setAt lk_X1_45 ⟨Nat.le_of_ble_eq_true rfl, Nat.le_of_ble_eq_true rfl⟩ (by omega) (by decide) (mb7 hu).2.2.2.1 rfl (Nat.le_of_ble_eq_true rfl) ⟨Nat.le_of_ble_eq_true rfl, Nat.le_of_ble_eq_true rfl⟩ rfl ?_
        rw [if_pos (show isIx (nI k) n = true from decide_eq_true (by rw [nI_toInt (by omega)]; omega)), show ix (nI k) = k from nI_clamp (by omega), hk2 _ (by omega) (by omega) (by omega), hli k (by omega)]
        show Sim X (YC ad z0 z1) 29 [(0, .ref (ad 2)), (1, .long c), (3, .ref (ad (120 + 4 * u + 1))), (4, .int (nI k))] [.long (li k), .ref (ad 2)] I2 (up2 J 2 4 c) A B2 0 0
        refine S_n g 1 (pc' := 30) (lv' := [(0, .ref (ad 2)), (1, .long c), (3, .ref (ad (120 + 4 * u + 1))), (4, .int (nI k))]) (st' := [.long c, .long (li k), .ref (ad 2)]) rfl ?_
        refine S_ldc2 g kc_X1_49 rfl ?_
        refine S_n g 5 (pc' := 39) (lv' := [(0, .ref (ad 2)), (1, .long c), (3, .ref (ad (120 + 4 * u + 1))), (4, .int (nI k))]) (st' := [.long ((lN 1) <<< ((nI k).toInt64 &&& 63)), .long ((li k) &&& (c ^^^ (-lN 1))), .ref (ad 2)]) rfl ?_
        refine S_steq (st' := [.long (b1 k), .long ((li k) &&& (c ^^^ (-lN 1))), .ref (ad 2)]) (by rw [(show (lN 1) <<< ((nI k).toInt64 &&& 63) = b1 k from rfl).symm]) ?_
        obtain ⟨z, pv, hCI, hZ⟩ := hinv
        have hzk := hCI.1.1
        refine S_callV g (i := 2) (As := [.long ((li k) &&& (c ^^^ (-lN 1))), .long (b1 k)]) (st := []) (kn_addRow ad z0 z1 I2 (up2 J 2 4 c) A B2 (li k &&& (c ^^^ -lN 1)) (b1 k) z hZ (by omega)) mw_X1_addRow lk_X1_51 ⟨Nat.le_of_ble_eq_true rfl, Nat.le_of_ble_eq_true rfl⟩ (by decide) (by decide) rfl rfl (Nat.le_of_ble_eq_true rfl) ⟨Nat.le_of_ble_eq_true rfl, Nat.le_of_ble_eq_true rfl⟩ rfl (fun v' Y' I3 J3 A3 B3 hpo => ?_)
        obtain ⟨rfl, rfl, e1, e2, hif⟩ := hpo
        rw [e1, e2]
        show Sim X (YC ad z0 z1) 42 [(0, .ref (ad 2)), (1, .long c), (3, .ref (ad (120 + 4 * u + 1))), (4, .int (nI k))] [] I3 (up2 J 2 4 c) A B3 0 0
        have hnew : (∃ z pv, CIv c li (k + 1) z (B3 3) (B3 4) (B3 5) pv ∧ I3 2 3 = nI z) ∧ (∀ i, i ≠ 2 → I3 i = I2 i) ∧ ∀ i, i ≠ 3 → i ≠ 4 → i ≠ 5 → B3 i = B2 i := by
          have hl1 : ∀ j, j < k + 1 → ∀ i, 60 ≤ i → tb (li j) i = false := fun j hj => hl j (by omega)
          by_cases hz0 : (cRd (B2 3) (B2 4) (B2 5) (li k &&& (c ^^^ -lN 1)) (b1 k) z).1 = lN 0
          · rw [if_pos hz0] at hif
            obtain ⟨f1, f2⟩ := hif
            rw [f1, f2]
            exact ⟨⟨z, pv, CIv_no hc hl1 hCI hz0, hZ⟩, fun i hi => rfl, fun i _ _ _ => rfl⟩
          · rw [if_neg hz0] at hif
            obtain ⟨f1, f2⟩ := hif
            have hC : Cl (PL c li k) := PL_Cl hc k (fun j hj => hl j (by omega))
            obtain ⟨a0, b0, k1, k2, ke⟩ := cRd_P hC hCI (li k &&& (c ^^^ -lN 1)) (b1 k) z (Nat.le_refl _)
            obtain ⟨p, hp, elow, htp⟩ := low_b1 hz0 (fun i hi => by rw [ke]; dsimp only; rw [tb_xor, tb_and, hl k (by omega) i hi, hC.2.2 _ _ k1 i hi]; rfl)
            rw [elow] at f2
            rw [f1, f2]
            refine ⟨⟨z + 1, va_up pv z p, ?_, up2_same _ _ _ _⟩, fun i hi => u2r hi, fun i a b d => ?_⟩
            · exact CIv_add hc hl1 hCI rfl hz0 hp htp
            · unfold adB
              rw [va_up_ne _ _ b, va_up_ne _ _ d, va_up_ne _ _ a]
        obtain ⟨hn1, hn2, hn3⟩ := hnew
        refine S_n g 1 (pc' := 45) (lv' := [(0, .ref (ad 2)), (1, .long c), (3, .ref (ad (120 + 4 * u + 1))), (4, .int ((nI k) + nI 1))]) (st' := []) rfl ?_
        rw [nI_add k 1]
        refine S_n g 1 (pc' := 13) (lv' := [(0, .ref (ad 2)), (1, .long c), (3, .ref (ad (120 + 4 * u + 1))), (4, .int (nI (k + 1)))]) (st' := []) rfl ?_
        exact lp (n - (k + 1)) (by omega) (k + 1) I3 B3 rfl (by omega) hn1 (fun i hi => (hn2 i hi).trans (hk1 i hi)) (fun i a b d => (hn3 i a b d).trans (hk2 i a b d))
  exact lp _ 0 (up2 I 2 3 (nI 0)) B rfl (Nat.zero_le _) (⟨0, fun _ => 0, CIv_0 c li (B 3) (B 4) (B 5) (fun _ => 0), rfl⟩) (fun i hi => u2r hi) (fun i _ _ _ => rfl)

set_option maxRecDepth 100000 in
set_option maxHeartbeats 4000000 in
theorem kn_learn (ad : Nat → Nat) (z0 z1 : Bool) (I : FI) (J : FJ) (A : FI) (B : FJ) (u n : Nat) (c : Int64) (li : Nat → Int64) (hu : u < 6) (hS : I (120 + 4 * u + 1) 3 = nI n) (hn : n ≤ 40) (hli : ∀ k, k < n → B (120 + 4 * u + 1 + 1) k = li k) (hc : ∀ i, 60 ≤ i → tb c i = false) (hl : ∀ k, k < n → ∀ i, 60 ≤ i → tb (li k) i = false) (hJ : J (120 + 4 * u) 1 = c) : Spec M_X1_learn [.ref (ad 2), .ref (ad (120 + 4 * u))] (YC ad z0 z1) I J A B (lrP ad z0 z1 c li n I J A B) := by
  refine Spec_of (by decide) tk_X1_learn (Nat.le_of_ble_eq_true rfl) (fun X g rt => ?_)
  show Sim X (YC ad z0 z1) 0 [(0, .ref (ad 2)), (1, .ref (ad (120 + 4 * u)))] [] I J A B 0 0
  refine S_n g 2 (pc' := 2) (lv' := [(0, .ref (ad 2)), (1, .ref (ad (120 + 4 * u)))]) (st' := [.ref (ad (120 + 4 * u)), .ref (ad 2)]) rfl ?_
  refine S_getJ g (i := 120 + 4 * u) (c := 2) (k := 1) (by omega) (by decide) (mb7 hu).1 rfl fl_X1_21 rfl ?_
  rw [hJ]
  refine S_n g 1 (pc' := 6) (lv' := [(0, .ref (ad 2)), (1, .ref (ad (120 + 4 * u)))]) (st' := [.ref (ad (120 + 4 * u)), .long c, .ref (ad 2)]) rfl ?_
  refine S_getR g (i := 120 + 4 * u) (c := 2) (k := 0) (j := 120 + 4 * u + 1) (by omega) (by decide) (mb7 hu).1 rfl (mb7 hu).2.1 fl_X1_27 rfl ?_
  refine S_callV g (i := 2) (As := [.long c, .ref (ad (120 + 4 * u + 1))]) (st := []) (kn_learnFrom ad z0 z1 I J A B u n c li hu hS hn hli hc hl) mw_X1_learnFrom lk_X1_31 ⟨Nat.le_of_ble_eq_true rfl, Nat.le_of_ble_eq_true rfl⟩ (by decide) (by decide) rfl rfl (Nat.le_of_ble_eq_true rfl) ⟨Nat.le_of_ble_eq_true rfl, Nat.le_of_ble_eq_true rfl⟩ rfl (fun v' Y' I2 J2 A2 B2 hpo => ?_)
  obtain ⟨rfl, rfl, hqa, hqk, hqf⟩ := hpo
  show Sim X (YC ad z0 z1) 12 [(0, .ref (ad 2)), (1, .ref (ad (120 + 4 * u)))] [] I2 J2 A2 B2 0 0
  exact rtV rt rfl rfl (⟨rfl, rfl, hqa, hqk, hqf⟩)

set_option maxRecDepth 100000 in
set_option maxHeartbeats 4000000 in
theorem kn_rank (ad : Nat → Nat) (z0 z1 : Bool) (I : FI) (J : FJ) (A : FI) (B : FJ) (n : Nat) (c : Int64) (li : Nat → Int64) (hn : n ≤ 40) (hc : ∀ i, 60 ≤ i → tb c i = false) (hK : KN c li n I J B) : Spec M_X1_rank [.ref (ad 2)] (YC ad z0 z1) I J A B (eqP (some (.int (nI (elL c li n).1))) (YC ad z0 z1) I J A B) := by
  obtain ⟨z, pv, hCI, hZ, hG, hN⟩ := hK
  have hz := hCI.1.1
  have hcl := ctb_le c 60
  have e60 : ctb c 64 = ctb c 60 := ctb_cut hc 64 (by decide)
  refine Spec_of (by decide) tk_X1_rank (Nat.le_of_ble_eq_true rfl) (fun X g rt => ?_)
  show Sim X (YC ad z0 z1) 0 [(0, .ref (ad 2))] [] I J A B 0 0
  refine S_n g 1 (pc' := 1) (lv' := [(0, .ref (ad 2))]) (st' := [.ref (ad 2)]) rfl ?_
  refine S_getJ g (i := 2) (c := 1) (k := 4) (by decide) (by decide) rfl rfl fl_X1_35 rfl ?_
  rw [hG]
  refine S_cS g (As := [.long c]) (st := []) (sp_bitL (YC ad z0 z1) I J A B c) mw_J13_bitCount_95d88 lk_X1_58 ⟨Nat.le_of_ble_eq_true rfl, Nat.le_of_ble_eq_true rfl⟩ rfl (Nat.le_of_ble_eq_true rfl) ⟨Nat.le_of_ble_eq_true rfl, Nat.le_of_ble_eq_true rfl⟩ rfl ?_
  rw [e60]
  show Sim X (YC ad z0 z1) 7 [(0, .ref (ad 2))] [.int (nI (ctb c 60))] I J A B 0 0
  refine S_n g 1 (pc' := 8) (lv' := [(0, .ref (ad 2))]) (st' := [.ref (ad 2), .int (nI (ctb c 60))]) rfl ?_
  refine S_getI g (i := 2) (c := 1) (k := 3) (by decide) (by decide) rfl rfl fl_X1_38 rfl ?_
  rw [hZ]
  refine S_n g 1 (pc' := 12) (lv' := [(0, .ref (ad 2))]) (st' := [.int ((nI (ctb c 60)) + (nI z))]) rfl ?_
  rw [nI_add (ctb c 60) z]
  exact rtI rt rfl rfl (by rw [← hCI.1.2, Nat.add_comm]; exact eqP_rf)

theorem msE_bit {E : EE} {f b : Nat} (hf : f < 5) : ∀ j, j ≤ 12 → tb (msE E f j) b = (decide (12 * f ≤ b ∧ b < 12 * f + j) && !knE E b)
  | 0, _ => by rw [msE, tb_0, decide_eq_false (by omega)]; rfl
  | j + 1, hj => by
    rw [msE, tb_or, msE_bit hf j (by omega)]
    by_cases e : b = 12 * f + j
    · subst e
      rw [decide_eq_false (by omega), Bool.false_and, Bool.false_or, decide_eq_true (by omega), Bool.true_and]
      cases hk : knE E (12 * f + j)
      · rw [if_neg (by decide), tb_b1 (by omega) (by omega)]; simp
      · rw [if_pos rfl, tb_0]; rfl
    · have e1 : tb (if knE E (12 * f + j) = true then lN 0 else b1 (12 * f + j)) b = false := by
        split
        · exact tb_0 b
        · cases hq : tb (b1 (12 * f + j)) b
          · rfl
          · exact absurd (b1_bit (by omega) hq) e
      rw [e1, Bool.or_false]
      congr 1
      exact decide_eq_decide.mpr ⟨fun q => ⟨q.1, by omega⟩, fun q => ⟨q.1, by omega⟩⟩
theorem ms_eq {E : EE} {f : Nat} (hf : f < 5) {kn : Int64} (h : ∀ p, p < 60 → tb kn p = knE E p) : flP f &&& (kn ^^^ -lN 1) = msE E f 12 := by
  apply tb_ext
  intro b hb
  rw [off_c hb, flP_bit hf, msE_bit hf 12 (Nat.le_refl _)]
  by_cases q : 12 * f ≤ b ∧ b < 12 * f + 12
  · rw [decide_eq_true q, h b (by omega)]
  · rw [decide_eq_false q]; rfl
/-- the pieces of what is wanted -/
def wfP (x : Int64) : Int64 := if x = -lN 1 then lN 0 else flP x.toInt.toNat

set_option maxRecDepth 100000 in
set_option maxHeartbeats 4000000 in
theorem c_pcsN (ad : Nat → Nat) (z0 z1 : Bool) (I : FI) (J : FJ) (A : FI) (B : FJ) : Spec M_X8_piecesOf [.int (-nI 1)] (YC ad z0 z1) I J A B (eqP (some (.long (lN 0))) (YC ad z0 z1) I J A B) := by
  refine Spec_of (by decide) tk_X8_piecesOf (Nat.le_of_ble_eq_true rfl) (fun X g rt => ?_)
  show Sim X (YC ad z0 z1) 0 [(0, .int (-nI 1))] [] I J A B 0 0
  refine S_n g 1 (pc' := 1) (lv' := [(0, .int (-nI 1))]) (st' := [.int (-nI 1)]) rfl ?_
  refine S_if_ge g (tgt := 8) rfl (by decide) (fun qz1 => ?_) (fun qz1 => ?_)
  · skip
    exact absurd qz1 (by decide)
  · skip
    refine S_n g 2 (pc' := 16) (lv' := [(0, .int (-nI 1))]) (st' := [.long (lN 0)]) rfl ?_
    exact rtL rt rfl rfl eqP_rf

set_option maxRecDepth 100000 in
set_option maxHeartbeats 4000000 in
theorem c_pcsF (ad : Nat → Nat) (z0 z1 : Bool) (I : FI) (J : FJ) (A : FI) (B : FJ) (f : Nat) (hf : f < 5) : Spec M_X8_piecesOf [.int (nI f)] (YC ad z0 z1) I J A B (eqP (some (.long (flP f))) (YC ad z0 z1) I J A B) := by
  refine Spec_of (by decide) tk_X8_piecesOf (Nat.le_of_ble_eq_true rfl) (fun X g rt => ?_)
  show Sim X (YC ad z0 z1) 0 [(0, .int (nI f))] [] I J A B 0 0
  refine S_n g 1 (pc' := 1) (lv' := [(0, .int (nI f))]) (st' := [.int (nI f)]) rfl ?_
  refine S_ifN_ge g (tgt := 8) (by omega) rfl (by decide) ?_
  refine S_ldc2 g kc_X8_232 rfl ?_
  refine S_n g 3 (pc' := 15) (lv' := [(0, .int (nI f))]) (st' := [.int ((nI 12) * (nI f)), .long (lN 4095)]) rfl ?_
  rw [pk_mul 12 f]
  refine S_n g 1 (pc' := 16) (lv' := [(0, .int (nI f))]) (st' := [.long ((lN 4095) <<< ((nI (12 * f)).toInt64 &&& 63))]) rfl ?_
  exact rtL rt rfl rfl eqP_rf

theorem c_piecesOf (ad : Nat → Nat) (z0 z1 : Bool) (I : FI) (J : FJ) (A : FI) (B : FJ) (m : Nat → Int64) (u nf : Nat) (hf : nf ≤ 5) (h : okW m u nf) : Spec M_X8_piecesOf [.int (m (69 + u)).toInt32] (YC ad z0 z1) I J A B (eqP (some (.long (wfP (m (69 + u))))) (YC ad z0 z1) I J A B) := by
  unfold wfP
  rcases h with h | ⟨f, h1, h⟩
  · rw [h, if_pos rfl]
    exact c_pcsN ad z0 z1 I J A B
  · rw [h, if_neg (lN_m1 (by omega)), pk_lT (by omega), lN_i]
    exact c_pcsF ad z0 z1 I J A B f (by omega)

set_option maxRecDepth 100000 in
set_option maxHeartbeats 4000000 in
theorem kn_missing (ad : Nat → Nat) (z0 z1 : Bool) (I : FI) (J : FJ) (A : FI) (B : FJ) (m : Nat → Int64) (u nf n : Nat) (hu : u < 6) (hf : nf ≤ 5) (hw : okW m u nf) (hIu : I (120 + 4 * u) 2 = (m (69 + u)).toInt32) (hc : ∀ i, 60 ≤ i → tb (m (63 + u)) i = false) (hl : ∀ k, k < n → ∀ i, 60 ≤ i → tb (m (87 + 40 * u + k)) i = false) (hK : KN (m (63 + u)) (fun k => m (87 + 40 * u + k)) n I J B) : Spec M_X1_missingFor [.ref (ad 2), .ref (ad (120 + 4 * u))] (YC ad z0 z1) I J A B (eqP (some (.long (msF m u n))) (YC ad z0 z1) I J A B) := by
  obtain ⟨z, pv, hCI, hZ, hG, hN⟩ := hK
  have hkn : ∀ p, p < 60 → tb (J 2 5) p = knE (rowE m u n) p := fun p hp => by rw [hN]; exact kn_bit hc hl hCI hp
  refine Spec_of (by decide) tk_X1_missingFor (Nat.le_of_ble_eq_true rfl) (fun X g rt => ?_)
  show Sim X (YC ad z0 z1) 0 [(0, .ref (ad 2)), (1, .ref (ad (120 + 4 * u)))] [] I J A B 0 0
  refine S_n g 1 (pc' := 1) (lv' := [(0, .ref (ad 2)), (1, .ref (ad (120 + 4 * u)))]) (st' := [.ref (ad (120 + 4 * u))]) rfl ?_
  refine S_getI g (i := 120 + 4 * u) (c := 2) (k := 2) (by omega) (by decide) (mb7 hu).1 rfl fl_X1_64 rfl ?_
  rw [hIu]
  refine S_cS g (As := [.int (m (69 + u)).toInt32]) (st := []) (c_piecesOf ad z0 z1 I J A B m u nf hf hw) mw_X8_piecesOf lk_X1_67 ⟨Nat.le_of_ble_eq_true rfl, Nat.le_of_ble_eq_true rfl⟩ rfl (Nat.le_of_ble_eq_true rfl) ⟨Nat.le_of_ble_eq_true rfl, Nat.le_of_ble_eq_true rfl⟩ rfl ?_
  show Sim X (YC ad z0 z1) 7 [(0, .ref (ad 2)), (1, .ref (ad (120 + 4 * u)))] [.long (wfP (m (69 + u)))] I J A B 0 0
  refine S_n g 1 (pc' := 8) (lv' := [(0, .ref (ad 2)), (1, .ref (ad (120 + 4 * u)))]) (st' := [.ref (ad 2), .long (wfP (m (69 + u)))]) rfl ?_
  refine S_getJ g (i := 2) (c := 1) (k := 5) (by decide) (by decide) rfl rfl fl_X1_55 rfl ?_
  refine S_ldc2 g kc_X1_49 rfl ?_
  refine S_n g 2 (pc' := 16) (lv' := [(0, .ref (ad 2)), (1, .ref (ad (120 + 4 * u)))]) (st' := [.long ((wfP (m (69 + u))) &&& ((J 2 5) ^^^ (-lN 1)))]) rfl ?_
  exact rtL rt rfl rfl (by
    have e : wfP (m (69 + u)) &&& (J 2 5 ^^^ -lN 1) = msF m u n := by
      unfold wfP msF
      rcases hw with h | ⟨f, h1, h⟩
      · rw [if_pos h, if_pos h]; apply tb_ext; intro i hi; rw [tb_and, tb_0]; rfl
      · rw [if_neg (by rw [h]; exact lN_m1 (by omega)), if_neg (by rw [h]; exact lN_m1 (by omega)), h, pk_lT (by omega)]
        exact ms_eq (by omega) hkn
    rw [← e]; exact eqP_rf)

set_option maxRecDepth 100000 in
set_option maxHeartbeats 4000000 in
theorem kn_sums (ad : Nat → Nat) (z0 z1 : Bool) (I : FI) (J : FJ) (A : FI) (B : FJ) (n p : Nat) (c : Int64) (li : Nat → Int64) (hn : n ≤ 40) (hp : p < 60) (hc : ∀ i, 60 ≤ i → tb c i = false) (hl : ∀ k, k < n → ∀ i, 60 ≤ i → tb (li k) i = false) (hK : KN c li n I J B) (hk : knE (elL c li n) p = true) : Spec M_X1_sumsBehind [.ref (ad 2), .int (nI p)] (YC ad z0 z1) I J A B (eqP (some (.long (knQ (elL c li n) p))) (YC ad z0 z1) I J A B) := by
  obtain ⟨z, pv, hCI, hZ, hG, hN⟩ := hK
  have hz := hCI.1.1
  have hq := q_row hc hl hCI hp hk
  refine Spec_of (by decide) tk_X1_sumsBehind (Nat.le_of_ble_eq_true rfl) (fun X g rt => ?_)
  show Sim X (YC ad z0 z1) 0 [(0, .ref (ad 2)), (1, .int (nI p))] [] I J A B 0 0
  refine S_n g 3 (pc' := 3) (lv' := [(0, .ref (ad 2)), (1, .int (nI p))]) (st' := [.long ((lN 1) <<< ((nI p).toInt64 &&& 63))]) rfl ?_
  refine S_steq (st' := [.long (b1 p)]) (by rw [(show (lN 1) <<< ((nI p).toInt64 &&& 63) = b1 p from rfl).symm]) ?_
  refine S_n g 3 (pc' := 7) (lv' := [(0, .ref (ad 2)), (1, .int (nI p)), (2, .long (b1 p)), (4, .int (nI 0))]) (st' := []) rfl ?_
  have lp : ∀ (nn : Nat) (j : Nat), z - j = nn → (j ≤ z) → (∀ i, i < j → B 3 i ≠ b1 p) → Sim X (YC ad z0 z1) 7 [(0, .ref (ad 2)), (1, .int (nI p)), (2, .long (b1 p)), (4, .int (nI j))] [] I J A B 0 0 := by
    intro nn
    induction nn using Nat.strongRecOn with
    | ind nn ih =>
      intro j hmz hj hno
      have lp := ih
      refine S_n g 2 (pc' := 10) (lv' := [(0, .ref (ad 2)), (1, .int (nI p)), (2, .long (b1 p)), (4, .int (nI j))]) (st' := [.ref (ad 2), .int (nI j)]) rfl ?_
      refine S_getI g (i := 2) (c := 1) (k := 3) (by decide) (by decide) rfl rfl fl_X1_38 rfl ?_
      rw [hZ]
      refine S_icN_ge g (tgt := 42) (by omega) (by omega) rfl (by decide) (fun qz13 => ?_) (fun qz13 => ?_)
      · skip
        have hj9 : j = z := by omega
        subst hj9
        refine S_n g 1 (pc' := 43) (lv' := [(0, .ref (ad 2)), (1, .int (nI p)), (2, .long (b1 p)), (4, .int (nI j))]) (st' := [.long (lN 0)]) rfl ?_
        exact rtL rt rfl rfl (by rw [hq.2 hno]; exact eqP_rf)
      · skip
        refine S_n g 1 (pc' := 17) (lv' := [(0, .ref (ad 2)), (1, .int (nI p)), (2, .long (b1 p)), (4, .int (nI j))]) (st' := [.ref (ad 2)]) rfl ?_
        refine S_getR g (i := 2) (c := 1) (k := 0) (j := 3) (by decide) (by decide) rfl rfl rfl fl_X1_9 rfl ?_
        refine S_n g 1 (pc' := 22) (lv' := [(0, .ref (ad 2)), (1, .int (nI p)), (2, .long (b1 p)), (4, .int (nI j))]) (st' := [.int (nI j), .ref (ad 3)]) rfl ?_
        refine S_laldN g (i := 3) (e := j) (by decide) rfl (show j < 40 from by omega) (show (40 : Nat) < 2 ^ 31 from by decide) rfl ?_
        refine S_n g 1 (pc' := 24) (lv' := [(0, .ref (ad 2)), (1, .int (nI p)), (2, .long (b1 p)), (4, .int (nI j))]) (st' := [.long (b1 p), .long (B 3 j)]) rfl ?_
        refine S_lc_ne g (tgt := 36) rfl rfl (by decide) (fun qz24 => ?_) (fun qz24 => ?_)
        · skip
          refine S_n g 1 (pc' := 39) (lv' := [(0, .ref (ad 2)), (1, .int (nI p)), (2, .long (b1 p)), (4, .int ((nI j) + nI 1))]) (st' := []) rfl ?_
          rw [nI_add j 1]
          refine S_n g 1 (pc' := 7) (lv' := [(0, .ref (ad 2)), (1, .int (nI p)), (2, .long (b1 p)), (4, .int (nI (j + 1)))]) (st' := []) rfl ?_
          exact lp (z - (j + 1)) (by omega) (j + 1) rfl (by omega) (fun i hi => by by_cases e : i = j; (· subst e; exact qz24); (· exact hno i (by omega)))
        · skip
          refine S_n g 1 (pc' := 29) (lv' := [(0, .ref (ad 2)), (1, .int (nI p)), (2, .long (b1 p)), (4, .int (nI j))]) (st' := [.ref (ad 2)]) rfl ?_
          refine S_getR g (i := 2) (c := 1) (k := 2) (j := 5) (by decide) (by decide) rfl rfl rfl fl_X1_18 rfl ?_
          refine S_n g 1 (pc' := 34) (lv' := [(0, .ref (ad 2)), (1, .int (nI p)), (2, .long (b1 p)), (4, .int (nI j))]) (st' := [.int (nI j), .ref (ad 5)]) rfl ?_
          refine S_laldN g (i := 5) (e := j) (by decide) rfl (show j < 40 from by omega) (show (40 : Nat) < 2 ^ 31 from by decide) rfl ?_
          exact rtL rt rfl rfl (by rw [hq.1 j (by omega) qz24]; exact eqP_rf)
  exact lp _ 0 rfl (Nat.zero_le _) (fun i hi => absurd hi (Nat.not_lt_zero i))
