/-! the reference, part 6: the rows of a user, brought to their highest bits -/
/-- a place below k, or none: -1 -/
def hI (k : Nat) : Int32 := if k = 0 then -nI 1 else nI (k - 1)
theorem hI_0 : hI 0 = -nI 1 := rfl
theorem hI_pos {k : Nat} (h : 0 < k) : hI k = nI (k - 1) := by unfold hI; rw [if_neg (by omega)]
theorem hI_dec {k : Nat} (h : 0 < k) : nI (k - 1) + -nI 1 = hI (k - 1) := by
  cases k with
  | zero => omega
  | succ j =>
    cases j with
    | zero => decide
    | succ i =>
      rw [hI_pos (by omega), iinc_neg (by omega)]
theorem hI_neg {k : Nat} (hk : k < 2 ^ 31) : hI k < 0 ↔ k = 0 := by
  constructor
  · intro h
    cases k with
    | zero => rfl
    | succ j =>
      rw [hI_pos (by omega)] at h
      exact absurd h (nI_pos (by omega))
  · intro h
    subst h
    decide
theorem S_ifH_lt {X : MX} {M : MI} {Y : PS} {pc : Nat} {lv : List (Nat × Value)} {st : List Value} {I : FI} {J : FJ} {A : FI} {B : FJ} {kc n : Nat} (g : Good X M) {k : Nat} {off : Int} {tgt : Nat} (hk : k < 2 ^ 31) (hd : fnd M.2.2.2.2.2 pc = some (.ifCond .lt off, 3)) (ht : (pc : Int) + off = (tgt : Int)) (kt : k = 0 → Sim X Y tgt lv st I J A B kc n) (kf : 0 < k → Sim X Y (pc + 3) lv st I J A B kc n) : Sim X Y pc lv (.int (hI k) :: st) I J A B kc n :=
  S_if_lt g hd ht (fun h => kt ((hI_neg hk).mp h)) (fun h => kf (Nat.pos_of_ne_zero (fun q => h ((hI_neg hk).mpr q))))
def rd (t f : Nat → Int64) (s q : Int64) : Nat → Int64 × Int64
  | 0 => (s, q)
  | n + 1 => if tb (rd t f s q n).1 (59 - n) = true ∧ t (59 - n) ≠ lN 0 then ((rd t f s q n).1 ^^^ t (59 - n), (rd t f s q n).2 ^^^ f (59 - n)) else rd t f s q n
theorem rd_k {t f : Nat → Int64} {s q : Int64} {k : Nat} (h0 : 0 < k) (h : k ≤ 60) : rd t f s q (60 - (k - 1)) = if tb (rd t f s q (60 - k)).1 (k - 1) = true ∧ t (k - 1) ≠ lN 0 then ((rd t f s q (60 - k)).1 ^^^ t (k - 1), (rd t f s q (60 - k)).2 ^^^ f (k - 1)) else rd t f s q (60 - k) := by
  rw [show 60 - (k - 1) = (60 - k) + 1 from by omega]
  conv => lhs; unfold rd
  rw [show 59 - (60 - k) = k - 1 from by omega]
theorem up2_id {α : Type} (f : Nat → Nat → α) (i k : Nat) : up2 f i k (f i k) = f := by
  unfold up2
  rw [va_id, va_id]

set_option maxRecDepth 100000 in
set_option maxHeartbeats 4000000 in
theorem sp_reduces (ad : Nat → Nat) (I : FI) (J : FJ) (A : FI) (B : FJ) (s q : Int64) : Spec M_X9_reduces [.ref (ad 500), .long s, .long q] (YR ad) I J A B (eqP none (YR ad) I (up2 (up2 J 500 10 (rd (B 506) (B 507) s q 60).1) 500 11 (rd (B 506) (B 507) s q 60).2) A B) := by
  refine Spec_of (by decide) tk_X9_reduces (Nat.le_of_ble_eq_true rfl) (fun X g rt => ?_)
  show Sim X (YR ad) 0 [(0, .ref (ad 500)), (1, .long s), (3, .long q)] [] I J A B 0 0
  refine S_n g 2 (pc' := 2) (lv' := [(0, .ref (ad 500)), (1, .long s), (3, .long q)]) (st' := [.long s, .ref (ad 500)]) rfl ?_
  refine S_putJ g (i := 500) (c := 9) (k := 10) (by decide) (by decide) rfl rfl fw_X9_143 rfl ?_
  refine S_n g 2 (pc' := 7) (lv' := [(0, .ref (ad 500)), (1, .long s), (3, .long q)]) (st' := [.long q, .ref (ad 500)]) rfl ?_
  refine S_putJ g (i := 500) (c := 9) (k := 11) (by decide) (by decide) rfl rfl fw_X9_147 rfl ?_
  refine S_n g 2 (pc' := 14) (lv' := [(0, .ref (ad 500)), (1, .long s), (3, .long q), (5, .int (nI 59))]) (st' := []) rfl ?_
  have lp : ∀ (nn : Nat) (k : Nat), k = nn → (k ≤ 60) → Sim X (YR ad) 14 [(0, .ref (ad 500)), (1, .long s), (3, .long q), (5, .int (hI k))] [] I (up2 (up2 J 500 10 (rd (B 506) (B 507) s q (60 - k)).1) 500 11 (rd (B 506) (B 507) s q (60 - k)).2) A B 0 0 := by
    intro nn
    induction nn using Nat.strongRecOn with
    | ind nn ih =>
      intro k hmz hk
      have lp := ih
      refine S_n g 1 (pc' := 16) (lv' := [(0, .ref (ad 500)), (1, .long s), (3, .long q), (5, .int (hI k))]) (st' := [.int (hI k)]) rfl ?_
      refine S_ifH_lt g (tgt := 83) (by omega) rfl (by decide) (fun qz16 => ?_) (fun qz16 => ?_)
      · skip
        have hk9 : k = 0 := by omega
        rw [hk9]
        exact rtV rt rfl rfl eqP_rf
      · skip
        refine S_lveq (lv' := [(0, .ref (ad 500)), (1, .long s), (3, .long q), (5, .int (nI (k - 1)))]) (by rw [(show hI k = nI (k - 1) from hI_pos (by omega)).symm]) ?_
        have hrk := rd_k (t := B 506) (f := B 507) (s := s) (q := q) (k := k) (by omega) hk
        refine S_n g 1 (pc' := 20) (lv' := [(0, .ref (ad 500)), (1, .long s), (3, .long q), (5, .int (nI (k - 1)))]) (st' := [.ref (ad 500)]) rfl ?_
        refine S_getJ g (i := 500) (c := 9) (k := 10) (by decide) (by decide) rfl rfl fl_X9_143 rfl ?_
        show Sim X (YR ad) 23 [(0, .ref (ad 500)), (1, .long s), (3, .long q), (5, .int (nI (k - 1)))] [.long (rd (B 506) (B 507) s q (60 - k)).1] I (up2 (up2 J 500 10 (rd (B 506) (B 507) s q (60 - k)).1) 500 11 (rd (B 506) (B 507) s q (60 - k)).2) A B 0 0
        refine S_n g 4 (pc' := 28) (lv' := [(0, .ref (ad 500)), (1, .long s), (3, .long q), (5, .int (nI (k - 1)))]) (st' := [.long (((rd (B 506) (B 507) s q (60 - k)).1 >>> ((nI (k - 1)).toInt64 &&& 63)) &&& (lN 1))]) rfl ?_
        refine S_steq (st' := [.long (lN (tb (rd (B 506) (B 507) s q (60 - k)).1 (k - 1)).toNat)]) (by rw [(show ((rd (B 506) (B 507) s q (60 - k)).1 >>> ((nI (k - 1)).toInt64 &&& 63)) &&& (lN 1) = lN (tb (rd (B 506) (B 507) s q (60 - k)).1 (k - 1)).toNat from bit64 (by omega) _).symm]) ?_
        have hb1 : (tb (rd (B 506) (B 507) s q (60 - k)).1 (k - 1)).toNat ≤ 1 := Bool.toNat_le _
        refine S_n g 1 (pc' := 29) (lv' := [(0, .ref (ad 500)), (1, .long s), (3, .long q), (5, .int (nI (k - 1)))]) (st' := [.long (lN 1), .long (lN (tb (rd (B 506) (B 507) s q (60 - k)).1 (k - 1)).toNat)]) rfl ?_
        refine S_lcN_ne g (tgt := 77) (by omega) (by omega) rfl rfl (by decide) (fun qz29 => ?_) (fun qz29 => ?_)
        · skip
          rw [if_neg (fun h => by rw [h.1] at qz29; exact qz29 rfl)] at hrk
          rw [← hrk]
          refine S_n g 2 (pc' := 14) (lv' := [(0, .ref (ad 500)), (1, .long s), (3, .long q), (5, .int ((nI (k - 1)) + -nI 1))]) (st' := []) rfl ?_
          refine S_lveq (lv' := [(0, .ref (ad 500)), (1, .long s), (3, .long q), (5, .int (hI (k - 1)))]) (by rw [(show (nI (k - 1)) + -nI 1 = hI (k - 1) from hI_dec (by omega)).symm]) ?_
          exact lp (k - 1) (by omega) (k - 1) rfl (by omega)
        · skip
          refine S_n g 1 (pc' := 34) (lv' := [(0, .ref (ad 500)), (1, .long s), (3, .long q), (5, .int (nI (k - 1)))]) (st' := [.ref (ad 500)]) rfl ?_
          refine S_getR g (i := 500) (c := 9) (k := 7) (j := 506) (by decide) (by decide) rfl rfl rfl fl_X9_31 rfl ?_
          refine S_n g 1 (pc' := 39) (lv' := [(0, .ref (ad 500)), (1, .long s), (3, .long q), (5, .int (nI (k - 1)))]) (st' := [.int (nI (k - 1)), .ref (ad 506)]) rfl ?_
          refine S_laldN g (i := 506) (e := k - 1) (by decide) rfl (show k - 1 < 60 from by omega) (show (60 : Nat) < 2 ^ 31 from by decide) rfl ?_
          refine S_n g 1 (pc' := 41) (lv' := [(0, .ref (ad 500)), (1, .long s), (3, .long q), (5, .int (nI (k - 1)))]) (st' := [.long (lN 0), .long (B 506 (k - 1))]) rfl ?_
          refine S_lc_eq g (tgt := 77) rfl rfl (by decide) (fun qz41 => ?_) (fun qz41 => ?_)
          · skip
            rw [if_neg (fun h => h.2 qz41)] at hrk
            rw [← hrk]
            refine S_n g 2 (pc' := 14) (lv' := [(0, .ref (ad 500)), (1, .long s), (3, .long q), (5, .int ((nI (k - 1)) + -nI 1))]) (st' := []) rfl ?_
            refine S_lveq (lv' := [(0, .ref (ad 500)), (1, .long s), (3, .long q), (5, .int (hI (k - 1)))]) (by rw [(show (nI (k - 1)) + -nI 1 = hI (k - 1) from hI_dec (by omega)).symm]) ?_
            exact lp (k - 1) (by omega) (k - 1) rfl (by omega)
          · skip
            rw [if_pos ⟨by cases h : tb (rd (B 506) (B 507) s q (60 - k)).1 (k - 1) <;> simp_all, qz41⟩] at hrk
            refine S_n g 2 (pc' := 47) (lv' := [(0, .ref (ad 500)), (1, .long s), (3, .long q), (5, .int (nI (k - 1)))]) (st' := [.ref (ad 500), .ref (ad 500)]) rfl ?_
            refine S_getJ g (i := 500) (c := 9) (k := 10) (by decide) (by decide) rfl rfl fl_X9_143 rfl ?_
            show Sim X (YR ad) 50 [(0, .ref (ad 500)), (1, .long s), (3, .long q), (5, .int (nI (k - 1)))] [.long (rd (B 506) (B 507) s q (60 - k)).1, .ref (ad 500)] I (up2 (up2 J 500 10 (rd (B 506) (B 507) s q (60 - k)).1) 500 11 (rd (B 506) (B 507) s q (60 - k)).2) A B 0 0
            refine S_n g 1 (pc' := 51) (lv' := [(0, .ref (ad 500)), (1, .long s), (3, .long q), (5, .int (nI (k - 1)))]) (st' := [.ref (ad 500), .long (rd (B 506) (B 507) s q (60 - k)).1, .ref (ad 500)]) rfl ?_
            refine S_getR g (i := 500) (c := 9) (k := 7) (j := 506) (by decide) (by decide) rfl rfl rfl fl_X9_31 rfl ?_
            refine S_n g 1 (pc' := 56) (lv' := [(0, .ref (ad 500)), (1, .long s), (3, .long q), (5, .int (nI (k - 1)))]) (st' := [.int (nI (k - 1)), .ref (ad 506), .long (rd (B 506) (B 507) s q (60 - k)).1, .ref (ad 500)]) rfl ?_
            refine S_laldN g (i := 506) (e := k - 1) (by decide) rfl (show k - 1 < 60 from by omega) (show (60 : Nat) < 2 ^ 31 from by decide) rfl ?_
            refine S_n g 1 (pc' := 58) (lv' := [(0, .ref (ad 500)), (1, .long s), (3, .long q), (5, .int (nI (k - 1)))]) (st' := [.long ((rd (B 506) (B 507) s q (60 - k)).1 ^^^ (B 506 (k - 1))), .ref (ad 500)]) rfl ?_
            refine S_putJ g (i := 500) (c := 9) (k := 10) (by decide) (by decide) rfl rfl fw_X9_143 rfl ?_
            rw [up2_c2 (i := 500) (k := 10) (j := 500) (l := 11) (Or.inr (by decide))]
            rw [up2_c1 (i := 500) (k := 10)]
            refine S_n g 2 (pc' := 63) (lv' := [(0, .ref (ad 500)), (1, .long s), (3, .long q), (5, .int (nI (k - 1)))]) (st' := [.ref (ad 500), .ref (ad 500)]) rfl ?_
            refine S_getJ g (i := 500) (c := 9) (k := 11) (by decide) (by decide) rfl rfl fl_X9_147 rfl ?_
            show Sim X (YR ad) 66 [(0, .ref (ad 500)), (1, .long s), (3, .long q), (5, .int (nI (k - 1)))] [.long (rd (B 506) (B 507) s q (60 - k)).2, .ref (ad 500)] I (up2 (up2 J 500 10 ((rd (B 506) (B 507) s q (60 - k)).1 ^^^ (B 506 (k - 1)))) 500 11 (rd (B 506) (B 507) s q (60 - k)).2) A B 0 0
            refine S_n g 1 (pc' := 67) (lv' := [(0, .ref (ad 500)), (1, .long s), (3, .long q), (5, .int (nI (k - 1)))]) (st' := [.ref (ad 500), .long (rd (B 506) (B 507) s q (60 - k)).2, .ref (ad 500)]) rfl ?_
            refine S_getR g (i := 500) (c := 9) (k := 8) (j := 507) (by decide) (by decide) rfl rfl rfl fl_X9_34 rfl ?_
            refine S_n g 1 (pc' := 72) (lv' := [(0, .ref (ad 500)), (1, .long s), (3, .long q), (5, .int (nI (k - 1)))]) (st' := [.int (nI (k - 1)), .ref (ad 507), .long (rd (B 506) (B 507) s q (60 - k)).2, .ref (ad 500)]) rfl ?_
            refine S_laldN g (i := 507) (e := k - 1) (by decide) rfl (show k - 1 < 60 from by omega) (show (60 : Nat) < 2 ^ 31 from by decide) rfl ?_
            refine S_n g 1 (pc' := 74) (lv' := [(0, .ref (ad 500)), (1, .long s), (3, .long q), (5, .int (nI (k - 1)))]) (st' := [.long ((rd (B 506) (B 507) s q (60 - k)).2 ^^^ (B 507 (k - 1))), .ref (ad 500)]) rfl ?_
            refine S_putJ g (i := 500) (c := 9) (k := 11) (by decide) (by decide) rfl rfl fw_X9_147 rfl ?_
            rw [up2_c1 (i := 500) (k := 11)]
            rw [show (rd (B 506) (B 507) s q (60 - k)).1 ^^^ B 506 (k - 1) = (rd (B 506) (B 507) s q (60 - (k - 1))).1 from by rw [hrk], show (rd (B 506) (B 507) s q (60 - k)).2 ^^^ B 507 (k - 1) = (rd (B 506) (B 507) s q (60 - (k - 1))).2 from by rw [hrk]]
            refine S_n g 2 (pc' := 14) (lv' := [(0, .ref (ad 500)), (1, .long s), (3, .long q), (5, .int ((nI (k - 1)) + -nI 1))]) (st' := []) rfl ?_
            refine S_lveq (lv' := [(0, .ref (ad 500)), (1, .long s), (3, .long q), (5, .int (hI (k - 1)))]) (by rw [(show (nI (k - 1)) + -nI 1 = hI (k - 1) from hI_dec (by omega)).symm]) ?_
            exact lp (k - 1) (by omega) (k - 1) rfl (by omega)
  exact lp _ 60 rfl (by omega)

def hb (l : Int64) : Nat → Nat
  | 0 => 0
  | k + 1 => if tb l k = true then k + 1 else hb l k
theorem hb_le (l : Int64) : ∀ k, hb l k ≤ k
  | 0 => Nat.le_refl 0
  | k + 1 => by
    have := hb_le l k
    unfold hb
    split <;> omega
