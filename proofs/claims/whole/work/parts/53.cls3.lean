/-! the class: small questions about the world and its members -/
theorem mb7 {ad : Nat → Nat} {z0 z1 : Bool} {u : Nat} (hu : u < 6) : isMb (YC ad z0 z1) (120 + 4 * u) := mb_u isW_100 hu
/-- the exclusive or of the contents of the pieces below n that are in s -/
def cnX (c : Nat → Int32) (s : Int64) : Nat → Int32
  | 0 => nI 0
  | p + 1 => if tb s p = true then cnX c s p ^^^ c p else cnX c s p
theorem ctb_64 {s : Int64} {nf : Nat} (hf : nf ≤ 5) (h : inP nf s) : ctb s 64 = ctb s 60 := by
  have h1 : ∀ b, 60 ≤ b → tb s b = false := fun b hb => h b (by omega)
  show ctb s 60 + (tb s 60).toNat + (tb s 61).toNat + (tb s 62).toNat + (tb s 63).toNat = _
  rw [h1 60 (by decide), h1 61 (by decide), h1 62 (by decide), h1 63 (by decide)]
  rfl

theorem ix_lo {x : Int32} {n : Nat} (h1 : x < 0) : isIx x n = false := by
  unfold isIx
  rw [Int32.lt_iff_toInt_lt] at h1
  have e : (0 : Int32).toInt = 0 := rfl
  exact decide_eq_false (by omega)
theorem ix_hi {x : Int32} {n : Nat} (h1 : nI n ≤ x) (hn : n < 2 ^ 31) : isIx x n = false := by
  unfold isIx
  rw [Int32.le_iff_toInt_le, nI_toInt hn] at h1
  exact decide_eq_false (by omega)

set_option maxRecDepth 100000 in
set_option maxHeartbeats 4000000 in
theorem w_pieces (ad : Nat → Nat) (z0 z1 : Bool) (I : FI) (J : FJ) (A : FI) (B : FJ) (nf : Nat) (hF : I 100 5 = nI nf) : Spec M_X7_pieces [.ref (ad 100)] (YC ad z0 z1) I J A B (eqP (some (.int (nI (12 * nf)))) (YC ad z0 z1) I J A B) := by
  refine Spec_of (by decide) tk_X7_pieces (Nat.le_of_ble_eq_true rfl) (fun X g rt => ?_)
  show Sim X (YC ad z0 z1) 0 [(0, .ref (ad 100))] [] I J A B 0 0
  refine S_n g 2 (pc' := 3) (lv' := [(0, .ref (ad 100))]) (st' := [.ref (ad 100), .int (nI 12)]) rfl ?_
  refine S_getI g (i := 100) (c := 7) (k := 5) (by decide) (by decide) rfl rfl fl_X7_41 rfl ?_
  rw [hF]
  refine S_n g 1 (pc' := 7) (lv' := [(0, .ref (ad 100))]) (st' := [.int ((nI 12) * (nI nf))]) rfl ?_
  rw [pk_mul 12 nf]
  exact rtI rt rfl rfl eqP_rf

set_option maxRecDepth 100000 in
set_option maxHeartbeats 4000000 in
theorem w_hasUser (ad : Nat → Nat) (z0 z1 : Bool) (I : FI) (J : FJ) (A : FI) (B : FJ) (x : Int32) (nu : Nat) (hU : I 100 6 = nI nu) (h4 : nu ≤ 6) : Spec M_X7_hasUser [.ref (ad 100), .int x] (YC ad z0 z1) I J A B (eqP (some (.int (bI (isIx x (nu))))) (YC ad z0 z1) I J A B) := by
  refine Spec_of (by decide) tk_X7_hasUser (Nat.le_of_ble_eq_true rfl) (fun X g rt => ?_)
  show Sim X (YC ad z0 z1) 0 [(0, .ref (ad 100)), (1, .int x)] [] I J A B 0 0
  refine S_n g 1 (pc' := 1) (lv' := [(0, .ref (ad 100)), (1, .int x)]) (st' := [.int x]) rfl ?_
  refine S_if_lt g (tgt := 16) rfl (by decide) (fun qz1 => ?_) (fun qz1 => ?_)
  · skip
    refine S_n g 1 (pc' := 17) (lv' := [(0, .ref (ad 100)), (1, .int x)]) (st' := [.int (nI 0)]) rfl ?_
    show Sim X (YC ad z0 z1) 17 [(0, .ref (ad 100)), (1, .int x)] [.int (bI false)] I J A B 0 0
    exact rtZ rt rfl rfl (by rw [show isIx x (nu) = false from ix_lo qz1]; exact eqP_rf)
  · skip
    refine S_n g 2 (pc' := 6) (lv' := [(0, .ref (ad 100)), (1, .int x)]) (st' := [.ref (ad 100), .int x]) rfl ?_
    refine S_getI g (i := 100) (c := 7) (k := 6) (by decide) (by decide) rfl rfl fl_X7_45 rfl ?_
    rw [hU]
    refine S_ic_ge g (tgt := 16) rfl (by decide) (fun qz9 => ?_) (fun qz9 => ?_)
    · skip
      refine S_n g 1 (pc' := 17) (lv' := [(0, .ref (ad 100)), (1, .int x)]) (st' := [.int (nI 0)]) rfl ?_
      show Sim X (YC ad z0 z1) 17 [(0, .ref (ad 100)), (1, .int x)] [.int (bI false)] I J A B 0 0
      exact rtZ rt rfl rfl (by rw [show isIx x (nu) = false from ix_hi qz9 (by omega)]; exact eqP_rf)
    · skip
      refine S_n g 2 (pc' := 17) (lv' := [(0, .ref (ad 100)), (1, .int x)]) (st' := [.int (nI 1)]) rfl ?_
      show Sim X (YC ad z0 z1) 17 [(0, .ref (ad 100)), (1, .int x)] [.int (bI true)] I J A B 0 0
      exact rtZ rt rfl rfl (by rw [show isIx x (nu) = true from isIx_of qz1 qz9 (by omega)]; exact eqP_rf)

set_option maxRecDepth 100000 in
set_option maxHeartbeats 4000000 in
theorem w_hasPiece (ad : Nat → Nat) (z0 z1 : Bool) (I : FI) (J : FJ) (A : FI) (B : FJ) (x : Int32) (nf : Nat) (hF : I 100 5 = nI nf) (h2 : nf ≤ 5) : Spec M_X7_hasPiece [.ref (ad 100), .int x] (YC ad z0 z1) I J A B (eqP (some (.int (bI (isIx x (12 * nf))))) (YC ad z0 z1) I J A B) := by
  refine Spec_of (by decide) tk_X7_hasPiece (Nat.le_of_ble_eq_true rfl) (fun X g rt => ?_)
  show Sim X (YC ad z0 z1) 0 [(0, .ref (ad 100)), (1, .int x)] [] I J A B 0 0
  refine S_n g 1 (pc' := 1) (lv' := [(0, .ref (ad 100)), (1, .int x)]) (st' := [.int x]) rfl ?_
  refine S_if_lt g (tgt := 16) rfl (by decide) (fun qz1 => ?_) (fun qz1 => ?_)
  · skip
    refine S_n g 1 (pc' := 17) (lv' := [(0, .ref (ad 100)), (1, .int x)]) (st' := [.int (nI 0)]) rfl ?_
    show Sim X (YC ad z0 z1) 17 [(0, .ref (ad 100)), (1, .int x)] [.int (bI false)] I J A B 0 0
    exact rtZ rt rfl rfl (by rw [show isIx x (12 * nf) = false from ix_lo qz1]; exact eqP_rf)
  · skip
    refine S_n g 2 (pc' := 6) (lv' := [(0, .ref (ad 100)), (1, .int x)]) (st' := [.ref (ad 100), .int x]) rfl ?_
    refine S_cV g (i := 100) (As := []) (st := [.int x]) (w_pieces ad z0 z1 I J A B nf hF) mw_X7_pieces lk_X7_80 ⟨Nat.le_of_ble_eq_true rfl, Nat.le_of_ble_eq_true rfl⟩ (by decide) (by decide) rfl rfl (Nat.le_of_ble_eq_true rfl) ⟨Nat.le_of_ble_eq_true rfl, Nat.le_of_ble_eq_true rfl⟩ rfl ?_
    show Sim X (YC ad z0 z1) 9 [(0, .ref (ad 100)), (1, .int x)] [.int (nI (12 * nf)), .int x] I J A B 0 0
    refine S_ic_ge g (tgt := 16) rfl (by decide) (fun qz9 => ?_) (fun qz9 => ?_)
    · skip
      refine S_n g 1 (pc' := 17) (lv' := [(0, .ref (ad 100)), (1, .int x)]) (st' := [.int (nI 0)]) rfl ?_
      show Sim X (YC ad z0 z1) 17 [(0, .ref (ad 100)), (1, .int x)] [.int (bI false)] I J A B 0 0
      exact rtZ rt rfl rfl (by rw [show isIx x (12 * nf) = false from ix_hi qz9 (by omega)]; exact eqP_rf)
    · skip
      refine S_n g 2 (pc' := 17) (lv' := [(0, .ref (ad 100)), (1, .int x)]) (st' := [.int (nI 1)]) rfl ?_
      show Sim X (YC ad z0 z1) 17 [(0, .ref (ad 100)), (1, .int x)] [.int (bI true)] I J A B 0 0
      exact rtZ rt rfl rfl (by rw [show isIx x (12 * nf) = true from isIx_of qz1 qz9 (by omega)]; exact eqP_rf)

set_option maxRecDepth 100000 in
set_option maxHeartbeats 4000000 in
theorem w_isPresent (ad : Nat → Nat) (z0 z1 : Bool) (I : FI) (J : FJ) (A : FI) (B : FJ) (u ps : Nat) (hu : u < 6) (hP : I 100 8 = nI ps) : Spec M_X7_isPresent [.ref (ad 100), .int (nI u)] (YC ad z0 z1) I J A B (eqP (some (.int (bI (ps.testBit u)))) (YC ad z0 z1) I J A B) := by
  refine Spec_of (by decide) tk_X7_isPresent (Nat.le_of_ble_eq_true rfl) (fun X g rt => ?_)
  show Sim X (YC ad z0 z1) 0 [(0, .ref (ad 100)), (1, .int (nI u))] [] I J A B 0 0
  refine S_n g 1 (pc' := 1) (lv' := [(0, .ref (ad 100)), (1, .int (nI u))]) (st' := [.ref (ad 100)]) rfl ?_
  refine S_getI g (i := 100) (c := 7) (k := 8) (by decide) (by decide) rfl rfl fl_X7_51 rfl ?_
  rw [hP]
  refine S_n g 4 (pc' := 8) (lv' := [(0, .ref (ad 100)), (1, .int (nI u))]) (st' := [.int (((nI ps) >>> ((nI u) &&& 31)) &&& (nI 1))]) rfl ?_
  refine S_steq (st' := [.int (nI (ps.testBit u).toNat)]) (by rw [(show ((nI ps) >>> ((nI u) &&& 31)) &&& (nI 1) = nI (ps.testBit u).toNat from bit_nat (by omega)).symm]) ?_
  have hb1 : (ps.testBit u).toNat ≤ 1 := Bool.toNat_le _
  refine S_ifN_eq g (tgt := 15) (by omega) rfl (by decide) (fun qz8 => ?_) (fun qz8 => ?_)
  · skip
    refine S_n g 1 (pc' := 16) (lv' := [(0, .ref (ad 100)), (1, .int (nI u))]) (st' := [.int (nI 0)]) rfl ?_
    show Sim X (YC ad z0 z1) 16 [(0, .ref (ad 100)), (1, .int (nI u))] [.int (bI false)] I J A B 0 0
    exact rtZ rt rfl rfl (by rw [show ps.testBit u = false from by cases hbv : ps.testBit u <;> simp_all]; exact eqP_rf)
  · skip
    refine S_n g 2 (pc' := 16) (lv' := [(0, .ref (ad 100)), (1, .int (nI u))]) (st' := [.int (nI 1)]) rfl ?_
    show Sim X (YC ad z0 z1) 16 [(0, .ref (ad 100)), (1, .int (nI u))] [.int (bI true)] I J A B 0 0
    exact rtZ rt rfl rfl (by rw [show ps.testBit u = true from by cases hbv : ps.testBit u <;> simp_all]; exact eqP_rf)

set_option maxRecDepth 100000 in
set_option maxHeartbeats 4000000 in
theorem mb_holds (ad : Nat → Nat) (z0 z1 : Bool) (I : FI) (J : FJ) (A : FI) (B : FJ) (i : Nat) (hi : i < 600) (hM : (YC ad z0 z1).2.1 i = 2) (p : Nat) (hp : p < 60) : Spec M_X2_holds [.ref (ad i), .int (nI p)] (YC ad z0 z1) I J A B (eqP (some (.int (bI (tb (J i 1) p)))) (YC ad z0 z1) I J A B) := by
  refine Spec_of (by decide) tk_X2_holds (Nat.le_of_ble_eq_true rfl) (fun X g rt => ?_)
  show Sim X (YC ad z0 z1) 0 [(0, .ref (ad i)), (1, .int (nI p))] [] I J A B 0 0
  refine S_n g 1 (pc' := 1) (lv' := [(0, .ref (ad i)), (1, .int (nI p))]) (st' := [.ref (ad i)]) rfl ?_
  refine S_getJ g (i := i) (c := 2) (k := 1) hi (by decide) hM rfl fl_X2_24 rfl ?_
  refine S_n g 4 (pc' := 8) (lv' := [(0, .ref (ad i)), (1, .int (nI p))]) (st' := [.long (((J i 1) >>> ((nI p).toInt64 &&& 63)) &&& (lN 1))]) rfl ?_
  refine S_steq (st' := [.long (lN (tb (J i 1) p).toNat)]) (by rw [(show ((J i 1) >>> ((nI p).toInt64 &&& 63)) &&& (lN 1) = lN (tb (J i 1) p).toNat from bit64 (by omega) _).symm]) ?_
  have hb1 : (tb (J i 1) p).toNat ≤ 1 := Bool.toNat_le _
  refine S_n g 1 (pc' := 9) (lv' := [(0, .ref (ad i)), (1, .int (nI p))]) (st' := [.long (lN 0), .long (lN (tb (J i 1) p).toNat)]) rfl ?_
  refine S_lcN_eq g (tgt := 17) (by omega) (by omega) rfl rfl (by decide) (fun qz9 => ?_) (fun qz9 => ?_)
  · skip
    refine S_n g 1 (pc' := 18) (lv' := [(0, .ref (ad i)), (1, .int (nI p))]) (st' := [.int (nI 0)]) rfl ?_
    show Sim X (YC ad z0 z1) 18 [(0, .ref (ad i)), (1, .int (nI p))] [.int (bI false)] I J A B 0 0
    exact rtZ rt rfl rfl (by rw [show tb (J i 1) p = false from by cases hbv : tb (J i 1) p <;> simp_all]; exact eqP_rf)
  · skip
    refine S_n g 2 (pc' := 18) (lv' := [(0, .ref (ad i)), (1, .int (nI p))]) (st' := [.int (nI 1)]) rfl ?_
    show Sim X (YC ad z0 z1) 18 [(0, .ref (ad i)), (1, .int (nI p))] [.int (bI true)] I J A B 0 0
    exact rtZ rt rfl rfl (by rw [show tb (J i 1) p = true from by cases hbv : tb (J i 1) p <;> simp_all]; exact eqP_rf)

set_option maxRecDepth 100000 in
set_option maxHeartbeats 4000000 in
theorem mb_held (ad : Nat → Nat) (z0 z1 : Bool) (I : FI) (J : FJ) (A : FI) (B : FJ) (i : Nat) (hi : i < 600) (hM : (YC ad z0 z1).2.1 i = 2) : Spec M_X2_held [.ref (ad i)] (YC ad z0 z1) I J A B (eqP (some (.int (nI (ctb (J i 1) 64)))) (YC ad z0 z1) I J A B) := by
  refine Spec_of (by decide) tk_X2_held (Nat.le_of_ble_eq_true rfl) (fun X g rt => ?_)
  show Sim X (YC ad z0 z1) 0 [(0, .ref (ad i))] [] I J A B 0 0
  refine S_n g 1 (pc' := 1) (lv' := [(0, .ref (ad i))]) (st' := [.ref (ad i)]) rfl ?_
  refine S_getJ g (i := i) (c := 2) (k := 1) hi (by decide) hM rfl fl_X2_24 rfl ?_
  refine S_cS g (As := [.long (J i 1)]) (st := []) (sp_bitL (YC ad z0 z1) I J A B (J i 1)) mw_J13_bitCount_95d88 lk_X2_31 ⟨Nat.le_of_ble_eq_true rfl, Nat.le_of_ble_eq_true rfl⟩ rfl (Nat.le_of_ble_eq_true rfl) ⟨Nat.le_of_ble_eq_true rfl, Nat.le_of_ble_eq_true rfl⟩ rfl ?_
  show Sim X (YC ad z0 z1) 7 [(0, .ref (ad i))] [.int (nI (ctb (J i 1) 64))] I J A B 0 0
  exact rtI rt rfl rfl eqP_rf

set_option maxRecDepth 100000 in
set_option maxHeartbeats 4000000 in
theorem w_contentOf (ad : Nat → Nat) (z0 z1 : Bool) (I : FI) (J : FJ) (A : FI) (B : FJ) (s : Int64) (nf : Nat) (hF : I 100 5 = nI nf) (h2 : nf ≤ 5) : Spec M_X7_contentOf [.ref (ad 100), .long s] (YC ad z0 z1) I J A B (eqP (some (.int (cnX (A 101) s (12 * nf)))) (YC ad z0 z1) I J A B) := by
  refine Spec_of (by decide) tk_X7_contentOf (Nat.le_of_ble_eq_true rfl) (fun X g rt => ?_)
  show Sim X (YC ad z0 z1) 0 [(0, .ref (ad 100)), (1, .long s)] [] I J A B 0 0
  refine S_n g 4 (pc' := 5) (lv' := [(0, .ref (ad 100)), (1, .long s), (3, .int (nI 0)), (4, .int (nI 0))]) (st' := []) rfl ?_
  have lp : ∀ (nn : Nat) (p : Nat), 12 * nf - p = nn → (p ≤ 12 * nf) → Sim X (YC ad z0 z1) 5 [(0, .ref (ad 100)), (1, .long s), (3, .int (cnX (A 101) s p)), (4, .int (nI p))] [] I J A B 0 0 := by
    intro nn
    induction nn using Nat.strongRecOn with
    | ind nn ih =>
      intro p hmz hp
      have lp := ih
      refine S_n g 2 (pc' := 8) (lv' := [(0, .ref (ad 100)), (1, .long s), (3, .int (cnX (A 101) s p)), (4, .int (nI p))]) (st' := [.ref (ad 100), .int (nI p)]) rfl ?_
      refine S_cV g (i := 100) (As := []) (st := [.int (nI p)]) (w_pieces ad z0 z1 I J A B nf hF) mw_X7_pieces lk_X7_80 ⟨Nat.le_of_ble_eq_true rfl, Nat.le_of_ble_eq_true rfl⟩ (by decide) (by decide) rfl rfl (Nat.le_of_ble_eq_true rfl) ⟨Nat.le_of_ble_eq_true rfl, Nat.le_of_ble_eq_true rfl⟩ rfl ?_
      show Sim X (YC ad z0 z1) 11 [(0, .ref (ad 100)), (1, .long s), (3, .int (cnX (A 101) s p)), (4, .int (nI p))] [.int (nI (12 * nf)), .int (nI p)] I J A B 0 0
      refine S_icN_ge g (tgt := 41) (by omega) (by omega) rfl (by decide) (fun qz11 => ?_) (fun qz11 => ?_)
      · skip
        have hp9 : p = 12 * nf := by omega
        refine S_n g 1 (pc' := 42) (lv' := [(0, .ref (ad 100)), (1, .long s), (3, .int (cnX (A 101) s p)), (4, .int (nI p))]) (st' := [.int (cnX (A 101) s p)]) rfl ?_
        exact rtI rt rfl rfl (by rw [hp9]; exact eqP_rf)
      · skip
        refine S_n g 5 (pc' := 20) (lv' := [(0, .ref (ad 100)), (1, .long s), (3, .int (cnX (A 101) s p)), (4, .int (nI p))]) (st' := [.long ((s >>> ((nI p).toInt64 &&& 63)) &&& (lN 1))]) rfl ?_
        refine S_steq (st' := [.long (lN (tb s p).toNat)]) (by rw [(show (s >>> ((nI p).toInt64 &&& 63)) &&& (lN 1) = lN (tb s p).toNat from bit64 (by omega) _).symm]) ?_
        have hb1 : (tb s p).toNat ≤ 1 := Bool.toNat_le _
        refine S_n g 1 (pc' := 21) (lv' := [(0, .ref (ad 100)), (1, .long s), (3, .int (cnX (A 101) s p)), (4, .int (nI p))]) (st' := [.long (lN 0), .long (lN (tb s p).toNat)]) rfl ?_
        refine S_lcN_eq g (tgt := 35) (by omega) (by omega) rfl rfl (by decide) (fun qz21 => ?_) (fun qz21 => ?_)
        · skip
          refine S_lveq (lv' := [(0, .ref (ad 100)), (1, .long s), (3, .int (cnX (A 101) s (p + 1))), (4, .int (nI p))]) (by rw [(show cnX (A 101) s p = cnX (A 101) s (p + 1) from by rw [cnX, if_neg (by cases hbv : tb s p <;> simp_all)]).symm]) ?_
          refine S_n g 1 (pc' := 38) (lv' := [(0, .ref (ad 100)), (1, .long s), (3, .int (cnX (A 101) s (p + 1))), (4, .int ((nI p) + nI 1))]) (st' := []) rfl ?_
          rw [nI_add p 1]
          refine S_n g 1 (pc' := 5) (lv' := [(0, .ref (ad 100)), (1, .long s), (3, .int (cnX (A 101) s (p + 1))), (4, .int (nI (p + 1)))]) (st' := []) rfl ?_
          exact lp (12 * nf - (p + 1)) (by omega) (p + 1) rfl (by omega)
        · skip
          refine S_n g 2 (pc' := 27) (lv' := [(0, .ref (ad 100)), (1, .long s), (3, .int (cnX (A 101) s p)), (4, .int (nI p))]) (st' := [.ref (ad 100), .int (cnX (A 101) s p)]) rfl ?_
          refine S_getR g (i := 100) (c := 7) (k := 0) (j := 101) (by decide) (by decide) rfl rfl rfl fl_X7_9 rfl ?_
          refine S_n g 1 (pc' := 32) (lv' := [(0, .ref (ad 100)), (1, .long s), (3, .int (cnX (A 101) s p)), (4, .int (nI p))]) (st' := [.int (nI p), .ref (ad 101), .int (cnX (A 101) s p)]) rfl ?_
          refine S_ialdN g (i := 101) (e := p) (by decide) rfl (show p < 60 from by omega) (show (60 : Nat) < 2 ^ 31 from by decide) rfl ?_
          refine S_n g 2 (pc' := 35) (lv' := [(0, .ref (ad 100)), (1, .long s), (3, .int ((cnX (A 101) s p) ^^^ (A 101 p))), (4, .int (nI p))]) (st' := []) rfl ?_
          refine S_lveq (lv' := [(0, .ref (ad 100)), (1, .long s), (3, .int (cnX (A 101) s (p + 1))), (4, .int (nI p))]) (by rw [(show (cnX (A 101) s p) ^^^ (A 101 p) = cnX (A 101) s (p + 1) from by rw [cnX, if_pos (by cases hbv : tb s p <;> simp_all)]).symm]) ?_
          refine S_n g 1 (pc' := 38) (lv' := [(0, .ref (ad 100)), (1, .long s), (3, .int (cnX (A 101) s (p + 1))), (4, .int ((nI p) + nI 1))]) (st' := []) rfl ?_
          rw [nI_add p 1]
          refine S_n g 1 (pc' := 5) (lv' := [(0, .ref (ad 100)), (1, .long s), (3, .int (cnX (A 101) s (p + 1))), (4, .int (nI (p + 1)))]) (st' := []) rfl ?_
          exact lp (12 * nf - (p + 1)) (by omega) (p + 1) rfl (by omega)
  exact lp _ 0 rfl (Nat.zero_le _)
