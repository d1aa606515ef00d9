/-! the reference, part 1 -/
def inL (v a b : Int64) : Bool := decide (a ≤ v ∧ v ≤ b)
theorem inL_ix {x : Int32} {n : Nat} (h0 : 1 ≤ n) (h : n < 2 ^ 31) : inL x.toInt64 (lN 0) (lN (n - 1)) = isIx x n := by
  unfold inL isIx
  simp only [Int64.le_iff_toInt_le, Int32.toInt_toInt64, pk_lT (show 0 < 2 ^ 63 by decide), pk_lT (show n - 1 < 2 ^ 63 by omega)]
  congr 1
  apply propext
  omega
theorem inL_n {x : Int32} {a b : Nat} (ha : a < 2 ^ 63) (hb : b < 2 ^ 63) : inL x.toInt64 (lN a) (lN b) = decide ((a : Int) ≤ x.toInt ∧ x.toInt ≤ b) := by
  unfold inL
  simp only [Int64.le_iff_toInt_le, Int32.toInt_toInt64, pk_lT ha, pk_lT hb]
def Dm (m : Nat → Int64) (nf nu nc : Nat) : Prop := m 0 = lN nf ∧ m 1 = lN nu ∧ m 2 = lN nc ∧ 1 ≤ nf ∧ nf ≤ 5 ∧ 1 ≤ nu ∧ nu ≤ 6 ∧ nc ≤ 60
def ctb (s : Int64) : Nat → Nat
  | 0 => 0
  | k + 1 => ctb s k + (tb s k).toNat

set_option maxRecDepth 100000 in
set_option maxHeartbeats 4000000 in
theorem sp_in (Y : PS) (I : FI) (J : FJ) (A : FI) (B : FJ) (v a b : Int64) : Spec M_X9_in [.long v, .long a, .long b] Y I J A B (eqP (some (.int (bI (inL v a b)))) Y I J A B) := by
  refine Spec_of (by decide) tk_X9_in (Nat.le_of_ble_eq_true rfl) (fun X g rt => ?_)
  show Sim X Y 0 [(0, .long v), (2, .long a), (4, .long b)] [] I J A B 0 0
  refine S_n g 2 (pc' := 2) (lv' := [(0, .long v), (2, .long a), (4, .long b)]) (st' := [.long a, .long v]) rfl ?_
  refine S_lc_lt g (tgt := 17) rfl rfl (by decide) (fun qz2 => ?_) (fun qz2 => ?_)
  · skip
    refine S_n g 1 (pc' := 18) (lv' := [(0, .long v), (2, .long a), (4, .long b)]) (st' := [.int (nI 0)]) rfl ?_
    show Sim X Y 18 [(0, .long v), (2, .long a), (4, .long b)] [.int (bI false)] I J A B 0 0
    exact rtZ rt rfl rfl (by rw [show inL v a b = false from by unfold inL; rw [decide_eq_false_iff_not]; intro h; exact nle64.mpr qz2 h.1]; exact eqP_rf)
  · skip
    refine S_n g 2 (pc' := 9) (lv' := [(0, .long v), (2, .long a), (4, .long b)]) (st' := [.long b, .long v]) rfl ?_
    refine S_lc_gt g (tgt := 17) rfl rfl (by decide) (fun qz9 => ?_) (fun qz9 => ?_)
    · skip
      refine S_n g 1 (pc' := 18) (lv' := [(0, .long v), (2, .long a), (4, .long b)]) (st' := [.int (nI 0)]) rfl ?_
      show Sim X Y 18 [(0, .long v), (2, .long a), (4, .long b)] [.int (bI false)] I J A B 0 0
      exact rtZ rt rfl rfl (by rw [show inL v a b = false from by unfold inL; rw [decide_eq_false_iff_not]; intro h; exact nle64.mpr qz9 h.2]; exact eqP_rf)
    · skip
      refine S_n g 2 (pc' := 18) (lv' := [(0, .long v), (2, .long a), (4, .long b)]) (st' := [.int (nI 1)]) rfl ?_
      show Sim X Y 18 [(0, .long v), (2, .long a), (4, .long b)] [.int (bI true)] I J A B 0 0
      exact rtZ rt rfl rfl (by rw [show inL v a b = true from by unfold inL; rw [decide_eq_true_eq]; exact ⟨qz2, qz9⟩]; exact eqP_rf)

set_option maxRecDepth 100000 in
set_option maxHeartbeats 4000000 in
theorem sp_users (ad : Nat → Nat) (I : FI) (J : FJ) (A : FI) (B : FJ) (nu : Nat) (hU : B 501 1 = lN nu) : Spec M_X9_users [.ref (ad 500)] (YR ad) I J A B (eqP (some (.int (nI nu))) (YR ad) I J A B) := by
  refine Spec_of (by decide) tk_X9_users (Nat.le_of_ble_eq_true rfl) (fun X g rt => ?_)
  show Sim X (YR ad) 0 [(0, .ref (ad 500))] [] I J A B 0 0
  refine S_n g 1 (pc' := 1) (lv' := [(0, .ref (ad 500))]) (st' := [.ref (ad 500)]) rfl ?_
  refine S_getR g (i := 500) (c := 9) (k := 0) (j := 501) (by decide) (by decide) rfl rfl rfl fl_X9_7 rfl ?_
  refine S_n g 1 (pc' := 5) (lv' := [(0, .ref (ad 500))]) (st' := [.int (nI 1), .ref (ad 501)]) rfl ?_
  refine S_laldN g (i := 501) (e := 1) (by decide) rfl (show 1 < 621 from by omega) (show (621 : Nat) < 2 ^ 31 from by decide) rfl ?_
  rw [hU]
  refine S_n g 1 (pc' := 7) (lv' := [(0, .ref (ad 500))]) (st' := [.int (lN nu).toInt32]) rfl ?_
  rw [lN_i nu]
  exact rtI rt rfl rfl eqP_rf

set_option maxRecDepth 100000 in
set_option maxHeartbeats 4000000 in
theorem sp_pieces (ad : Nat → Nat) (I : FI) (J : FJ) (A : FI) (B : FJ) (nf : Nat) (hF : B 501 0 = lN nf) : Spec M_X9_pieces [.ref (ad 500)] (YR ad) I J A B (eqP (some (.int (nI (12 * nf)))) (YR ad) I J A B) := by
  refine Spec_of (by decide) tk_X9_pieces (Nat.le_of_ble_eq_true rfl) (fun X g rt => ?_)
  show Sim X (YR ad) 0 [(0, .ref (ad 500))] [] I J A B 0 0
  refine S_n g 2 (pc' := 3) (lv' := [(0, .ref (ad 500))]) (st' := [.ref (ad 500), .int (nI 12)]) rfl ?_
  refine S_getR g (i := 500) (c := 9) (k := 0) (j := 501) (by decide) (by decide) rfl rfl rfl fl_X9_7 rfl ?_
  refine S_n g 1 (pc' := 7) (lv' := [(0, .ref (ad 500))]) (st' := [.int (nI 0), .ref (ad 501), .int (nI 12)]) rfl ?_
  refine S_laldN g (i := 501) (e := 0) (by decide) rfl (show 0 < 621 from by omega) (show (621 : Nat) < 2 ^ 31 from by decide) rfl ?_
  rw [hF]
  refine S_n g 1 (pc' := 9) (lv' := [(0, .ref (ad 500))]) (st' := [.int (lN nf).toInt32, .int (nI 12)]) rfl ?_
  rw [lN_i nf]
  refine S_n g 1 (pc' := 10) (lv' := [(0, .ref (ad 500))]) (st' := [.int ((nI 12) * (nI nf))]) rfl ?_
  rw [pk_mul 12 nf]
  exact rtI rt rfl rfl eqP_rf

set_option maxRecDepth 100000 in
set_option maxHeartbeats 4000000 in
theorem sp_many (Y : PS) (I : FI) (J : FJ) (A : FI) (B : FJ) (s : Int64) : Spec M_X9_many [.long s] Y I J A B (eqP (some (.int (nI (ctb s 60)))) Y I J A B) := by
  refine Spec_of (by decide) tk_X9_many (Nat.le_of_ble_eq_true rfl) (fun X g rt => ?_)
  show Sim X Y 0 [(0, .long s)] [] I J A B 0 0
  refine S_n g 4 (pc' := 4) (lv' := [(0, .long s), (2, .int (nI 0)), (3, .int (nI 0))]) (st' := []) rfl ?_
  have lp : ∀ (nn : Nat) (k : Nat), 60 - k = nn → (k ≤ 60) → Sim X Y 4 [(0, .long s), (2, .int (nI (ctb s k))), (3, .int (nI k))] [] I J A B 0 0 := by
    intro nn
    induction nn using Nat.strongRecOn with
    | ind nn ih =>
      intro k hmz hk
      have lp := ih
      refine S_n g 2 (pc' := 7) (lv' := [(0, .long s), (2, .int (nI (ctb s k))), (3, .int (nI k))]) (st' := [.int (nI 60), .int (nI k)]) rfl ?_
      refine S_icN_ge g (tgt := 25) (by omega) (by omega) rfl (by decide) (fun qz7 => ?_) (fun qz7 => ?_)
      · skip
        refine S_n g 1 (pc' := 26) (lv' := [(0, .long s), (2, .int (nI (ctb s k))), (3, .int (nI k))]) (st' := [.int (nI (ctb s k))]) rfl ?_
        have hk : k = 60 := by omega
        subst hk
        exact rtI rt rfl rfl eqP_rf
      · skip
        refine S_n g 6 (pc' := 16) (lv' := [(0, .long s), (2, .int (nI (ctb s k))), (3, .int (nI k))]) (st' := [.long ((s >>> ((nI k).toInt64 &&& 63)) &&& (lN 1)), .int (nI (ctb s k))]) rfl ?_
        refine S_steq (st' := [.long (lN (tb s k).toNat), .int (nI (ctb s k))]) (by rw [(show (s >>> ((nI k).toInt64 &&& 63)) &&& (lN 1) = lN (tb s k).toNat from bit64 (by omega) s).symm]) ?_
        refine S_n g 1 (pc' := 17) (lv' := [(0, .long s), (2, .int (nI (ctb s k))), (3, .int (nI k))]) (st' := [.int (lN (tb s k).toNat).toInt32, .int (nI (ctb s k))]) rfl ?_
        rw [lN_i (tb s k).toNat]
        refine S_n g 1 (pc' := 18) (lv' := [(0, .long s), (2, .int (nI (ctb s k))), (3, .int (nI k))]) (st' := [.int ((nI (ctb s k)) + (nI (tb s k).toNat))]) rfl ?_
        rw [nI_add (ctb s k) (tb s k).toNat]
        refine S_n g 2 (pc' := 22) (lv' := [(0, .long s), (2, .int (nI ((ctb s k) + (tb s k).toNat))), (3, .int ((nI k) + nI 1))]) (st' := []) rfl ?_
        rw [nI_add k 1]
        refine S_n g 1 (pc' := 4) (lv' := [(0, .long s), (2, .int (nI ((ctb s k) + (tb s k).toNat))), (3, .int (nI (k + 1)))]) (st' := []) rfl ?_
        exact lp (60 - (k + 1)) (by omega) (k + 1) rfl (by omega)
  exact lp _ 0 rfl (by omega)

set_option maxRecDepth 100000 in
set_option maxHeartbeats 4000000 in
theorem sp_isUser (ad : Nat → Nat) (I : FI) (J : FJ) (A : FI) (B : FJ) (x : Int32) (nu : Nat) (hU : B 501 1 = lN nu) (h1 : 1 ≤ nu) (h2 : nu ≤ 6) : Spec M_X9_isUser [.ref (ad 500), .int x] (YR ad) I J A B (eqP (some (.int (bI (isIx x nu)))) (YR ad) I J A B) := by
  refine Spec_of (by decide) tk_X9_isUser (Nat.le_of_ble_eq_true rfl) (fun X g rt => ?_)
  show Sim X (YR ad) 0 [(0, .ref (ad 500)), (1, .int x)] [] I J A B 0 0
  refine S_n g 4 (pc' := 4) (lv' := [(0, .ref (ad 500)), (1, .int x)]) (st' := [.ref (ad 500), .long (lN 0), .long x.toInt64]) rfl ?_
  refine S_cV g (i := 500) (As := []) (st := [.long (lN 0), .long x.toInt64]) (sp_users ad I J A B nu hU) mw_X9_users lk_X9_71 ⟨Nat.le_of_ble_eq_true rfl, Nat.le_of_ble_eq_true rfl⟩ (by decide) (by decide) rfl rfl (Nat.le_of_ble_eq_true rfl) ⟨Nat.le_of_ble_eq_true rfl, Nat.le_of_ble_eq_true rfl⟩ rfl ?_
  show Sim X (YR ad) 7 [(0, .ref (ad 500)), (1, .int x)] [.int (nI nu), .long (lN 0), .long x.toInt64] I J A B 0 0
  refine S_n g 2 (pc' := 9) (lv' := [(0, .ref (ad 500)), (1, .int x)]) (st' := [.int ((nI nu) - (nI 1)), .long (lN 0), .long x.toInt64]) rfl ?_
  rw [pk_sub (a := nu) (b := 1) (by omega)]
  refine S_n g 1 (pc' := 10) (lv' := [(0, .ref (ad 500)), (1, .int x)]) (st' := [.long (nI (nu - 1)).toInt64, .long (lN 0), .long x.toInt64]) rfl ?_
  rw [nI_l (n := nu - 1) (by omega)]
  refine S_cS g (As := [.long x.toInt64, .long (lN 0), .long (lN (nu - 1))]) (st := []) (sp_in (YR ad) I J A B x.toInt64 (lN 0) (lN (nu - 1))) mw_X9_in lk_X9_63 ⟨Nat.le_of_ble_eq_true rfl, Nat.le_of_ble_eq_true rfl⟩ rfl (Nat.le_of_ble_eq_true rfl) ⟨Nat.le_of_ble_eq_true rfl, Nat.le_of_ble_eq_true rfl⟩ rfl ?_
  show Sim X (YR ad) 13 [(0, .ref (ad 500)), (1, .int x)] [.int (bI (inL x.toInt64 (lN 0) (lN (nu - 1))))] I J A B 0 0
  refine S_steq (st' := [.int (bI (isIx x nu))]) (by rw [(show bI (inL x.toInt64 (lN 0) (lN (nu - 1))) = bI (isIx x nu) from by rw [inL_ix (by omega) (by omega)]).symm]) ?_
  exact rtZ rt rfl rfl eqP_rf

set_option maxRecDepth 100000 in
set_option maxHeartbeats 4000000 in
theorem sp_isPiece (ad : Nat → Nat) (I : FI) (J : FJ) (A : FI) (B : FJ) (x : Int32) (nf : Nat) (hF : B 501 0 = lN nf) (h1 : 1 ≤ nf) (h2 : nf ≤ 5) : Spec M_X9_isPiece [.ref (ad 500), .int x] (YR ad) I J A B (eqP (some (.int (bI (isIx x (12 * nf))))) (YR ad) I J A B) := by
  refine Spec_of (by decide) tk_X9_isPiece (Nat.le_of_ble_eq_true rfl) (fun X g rt => ?_)
  show Sim X (YR ad) 0 [(0, .ref (ad 500)), (1, .int x)] [] I J A B 0 0
  refine S_n g 4 (pc' := 4) (lv' := [(0, .ref (ad 500)), (1, .int x)]) (st' := [.ref (ad 500), .long (lN 0), .long x.toInt64]) rfl ?_
  refine S_cV g (i := 500) (As := []) (st := [.long (lN 0), .long x.toInt64]) (sp_pieces ad I J A B nf hF) mw_X9_pieces lk_X9_75 ⟨Nat.le_of_ble_eq_true rfl, Nat.le_of_ble_eq_true rfl⟩ (by decide) (by decide) rfl rfl (Nat.le_of_ble_eq_true rfl) ⟨Nat.le_of_ble_eq_true rfl, Nat.le_of_ble_eq_true rfl⟩ rfl ?_
  show Sim X (YR ad) 7 [(0, .ref (ad 500)), (1, .int x)] [.int (nI (12 * nf)), .long (lN 0), .long x.toInt64] I J A B 0 0
  refine S_n g 2 (pc' := 9) (lv' := [(0, .ref (ad 500)), (1, .int x)]) (st' := [.int ((nI (12 * nf)) - (nI 1)), .long (lN 0), .long x.toInt64]) rfl ?_
  rw [pk_sub (a := 12 * nf) (b := 1) (by omega)]
  refine S_n g 1 (pc' := 10) (lv' := [(0, .ref (ad 500)), (1, .int x)]) (st' := [.long (nI ((12 * nf) - 1)).toInt64, .long (lN 0), .long x.toInt64]) rfl ?_
  rw [nI_l (n := (12 * nf) - 1) (by omega)]
  refine S_cS g (As := [.long x.toInt64, .long (lN 0), .long (lN ((12 * nf) - 1))]) (st := []) (sp_in (YR ad) I J A B x.toInt64 (lN 0) (lN ((12 * nf) - 1))) mw_X9_in lk_X9_63 ⟨Nat.le_of_ble_eq_true rfl, Nat.le_of_ble_eq_true rfl⟩ rfl (Nat.le_of_ble_eq_true rfl) ⟨Nat.le_of_ble_eq_true rfl, Nat.le_of_ble_eq_true rfl⟩ rfl ?_
  show Sim X (YR ad) 13 [(0, .ref (ad 500)), (1, .int x)] [.int (bI (inL x.toInt64 (lN 0) (lN ((12 * nf) - 1))))] I J A B 0 0
  refine S_steq (st' := [.int (bI (isIx x (12 * nf)))]) (by rw [(show bI (inL x.toInt64 (lN 0) (lN ((12 * nf) - 1))) = bI (isIx x (12 * nf)) from by rw [inL_ix (by omega) (by omega)]).symm]) ?_
  exact rtZ rt rfl rfl eqP_rf

set_option maxRecDepth 100000 in
set_option maxHeartbeats 4000000 in
theorem sp_has (ad : Nat → Nat) (I : FI) (J : FJ) (A : FI) (B : FJ) (u p : Nat) (hu : u < 6) (hp : p < 60) : Spec M_X9_has [.ref (ad 500), .int (nI u), .int (nI p)] (YR ad) I J A B (eqP (some (.int (bI (tb (B 501 (63 + u)) p)))) (YR ad) I J A B) := by
  refine Spec_of (by decide) tk_X9_has (Nat.le_of_ble_eq_true rfl) (fun X g rt => ?_)
  show Sim X (YR ad) 0 [(0, .ref (ad 500)), (1, .int (nI u)), (2, .int (nI p))] [] I J A B 0 0
  refine S_n g 1 (pc' := 1) (lv' := [(0, .ref (ad 500)), (1, .int (nI u)), (2, .int (nI p))]) (st' := [.ref (ad 500)]) rfl ?_
  refine S_getR g (i := 500) (c := 9) (k := 0) (j := 501) (by decide) (by decide) rfl rfl rfl fl_X9_7 rfl ?_
  refine S_n g 3 (pc' := 8) (lv' := [(0, .ref (ad 500)), (1, .int (nI u)), (2, .int (nI p))]) (st' := [.int ((nI 63) + (nI u)), .ref (ad 501)]) rfl ?_
  rw [nI_add 63 u]
  refine S_laldN g (i := 501) (e := 63 + u) (by decide) rfl (show 63 + u < 621 from by omega) (show (621 : Nat) < 2 ^ 31 from by decide) rfl ?_
  refine S_n g 4 (pc' := 13) (lv' := [(0, .ref (ad 500)), (1, .int (nI u)), (2, .int (nI p))]) (st' := [.long (((B 501 (63 + u)) >>> ((nI p).toInt64 &&& 63)) &&& (lN 1))]) rfl ?_
  refine S_steq (st' := [.long (lN (tb (B 501 (63 + u)) p).toNat)]) (by rw [(show ((B 501 (63 + u)) >>> ((nI p).toInt64 &&& 63)) &&& (lN 1) = lN (tb (B 501 (63 + u)) p).toNat from bit64 (by omega) _).symm]) ?_
  have hb1 : (tb (B 501 (63 + u)) p).toNat ≤ 1 := Bool.toNat_le _
  refine S_n g 1 (pc' := 14) (lv' := [(0, .ref (ad 500)), (1, .int (nI u)), (2, .int (nI p))]) (st' := [.long (lN 1), .long (lN (tb (B 501 (63 + u)) p).toNat)]) rfl ?_
  refine S_lcN_ne g (tgt := 22) (by omega) (by omega) rfl rfl (by decide) (fun qz14 => ?_) (fun qz14 => ?_)
  · skip
    refine S_n g 1 (pc' := 23) (lv' := [(0, .ref (ad 500)), (1, .int (nI u)), (2, .int (nI p))]) (st' := [.int (nI 0)]) rfl ?_
    show Sim X (YR ad) 23 [(0, .ref (ad 500)), (1, .int (nI u)), (2, .int (nI p))] [.int (bI false)] I J A B 0 0
    exact rtZ rt rfl rfl (by rw [show tb (B 501 (63 + u)) p = false from by cases h : tb (B 501 (63 + u)) p <;> simp_all]; exact eqP_rf)
  · skip
    refine S_n g 2 (pc' := 23) (lv' := [(0, .ref (ad 500)), (1, .int (nI u)), (2, .int (nI p))]) (st' := [.int (nI 1)]) rfl ?_
    show Sim X (YR ad) 23 [(0, .ref (ad 500)), (1, .int (nI u)), (2, .int (nI p))] [.int (bI true)] I J A B 0 0
    exact rtZ rt rfl rfl (by rw [show tb (B 501 (63 + u)) p = true from by cases h : tb (B 501 (63 + u)) p <;> simp_all]; exact eqP_rf)
