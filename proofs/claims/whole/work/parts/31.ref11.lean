/-! the reference, part 11: one set of users, leaders, all sets -/
def pbit (h : Nat) : Int64 := if h = 0 then lN 0 else b1 (h - 1)
/-- sum i of the set T: over its users below u -/
def smT (m lk : Nat → Int64) (all nf nu T i : Nat) : Nat → Int64
  | 0 => lN 0
  | u + 1 => smT m lk all nf nu T i u ||| (if T.testBit u = true then pbit (lsF m lk all nu u T i (12 * nf)) else lN 0)
/-- the sums of T before i were all there -/
def mrT (m lk : Nat → Int64) (all nf nu T : Nat) : Nat → Bool
  | 0 => true
  | i + 1 => mrT m lk all nf nu T i && decide (smT m lk all nf nu T i nu ≠ lN 0)
def sbL (m lk : Nat → Int64) (all nf nu T : Nat) : Nat → List Int64
  | 0 => []
  | i + 1 => if mrT m lk all nf nu T (i + 1) = true then sbL m lk all nf nu T i ++ [smT m lk all nf nu T i nu] else sbL m lk all nf nu T i
theorem sbL_len (m lk : Nat → Int64) (all nf nu T : Nat) : ∀ i, (sbL m lk all nf nu T i).length ≤ i
  | 0 => Nat.le_refl 0
  | i + 1 => by
    have := sbL_len m lk all nf nu T i
    unfold sbL
    split
    · rw [List.length_append, List.length_singleton]; omega
    · omega
theorem sbL_stop (m lk : Nat → Int64) (all nf nu T : Nat) {i : Nat} (h : mrT m lk all nf nu T i = false) : ∀ n, mrT m lk all nf nu T (i + n) = false ∧ sbL m lk all nf nu T (i + n) = sbL m lk all nf nu T i
  | 0 => ⟨h, rfl⟩
  | n + 1 => by
    obtain ⟨h1, h2⟩ := sbL_stop m lk all nf nu T h n
    have h3 : mrT m lk all nf nu T (i + (n + 1)) = false := by
      show (mrT m lk all nf nu T (i + n) && _) = false
      rw [h1]; rfl
    refine ⟨h3, ?_⟩
    show sbL m lk all nf nu T (i + n + 1) = _
    rw [sbL, if_neg (by rw [show i + n + 1 = i + (n + 1) from rfl, h3]; decide), h2]

theorem hdN_cong {m m' : Nat → Int64} (h : ∀ v, v < 6 → m (63 + v) = m' (63 + v)) (all p : Nat) : ∀ k, k ≤ 6 → hdN m all p k = hdN m' all p k
  | 0, _ => rfl
  | k + 1, hk => by
    have ih := hdN_cong h all p k (by omega)
    unfold hdN
    rw [ih, h k (by omega)]
theorem lsF_cong {m m' lk : Nat → Int64} {all nu : Nat} (h : ∀ v, v < 6 → m (63 + v) = m' (63 + v)) (hnu : nu ≤ 6) (u T i : Nat) : ∀ n, lsF m lk all nu u T i n = lsF m' lk all nu u T i n := by
  have hl : ∀ p, lmt m lk all nu u T p = lmt m' lk all nu u T p := fun p => by unfold lmt; rw [hdN_cong h all p nu hnu]
  have hc : ∀ p, lct m lk all nu u T p = lct m' lk all nu u T p := fun p => by
    induction p with
    | zero => rfl
    | succ p ih => unfold lct; rw [ih, hl p]
  intro n
  induction n with
  | zero => rfl
  | succ n ih => unfold lsF; rw [ih, hl n, hc n]
set_option maxRecDepth 100000 in
set_option maxHeartbeats 4000000 in
theorem sp_subset (ad : Nat → Nat) (I : FI) (J : FJ) (A : FI) (B : FJ) (m0 : Nat → Int64) (L : List Int64) (T all nf nu : Nat) (hF : m0 0 = lN nf) (hU : m0 1 = lN nu) (h1 : nf ≤ 5) (h2 : nu ≤ 6) (hal : all < 64) (hT : T < 64) (hL : L.length ≤ 88) : Spec M_X9_subset [.ref (ad 500), .int (nI T), .int (nI all)] (YR ad) I J A (va_up B 501 (qL m0 (L))) (eqP none (YR ad) I J A (va_up B 501 (qL m0 (L ++ sbL m0 (B 509) all nf nu T 12)))) := by
  refine Spec_of (by decide) tk_X9_subset (Nat.le_of_ble_eq_true rfl) (fun X g rt => ?_)
  show Sim X (YR ad) 0 [(0, .ref (ad 500)), (1, .int (nI T)), (2, .int (nI all))] [] I J A (va_up B 501 (qL m0 (L))) 0 0
  refine S_n g 4 (pc' := 5) (lv' := [(0, .ref (ad 500)), (1, .int (nI T)), (2, .int (nI all)), (3, .int (nI 1)), (4, .int (nI 0))]) (st' := []) rfl ?_
  show Sim X (YR ad) 5 [(0, .ref (ad 500)), (1, .int (nI T)), (2, .int (nI all)), (3, .int (bI (mrT m0 (B 509) all nf nu T 0))), (4, .int (nI 0))] [] I J A (va_up B 501 (qL m0 (L))) 0 0
  have lp : ∀ (nn : Nat) (i : Nat), 12 - i = nn → (i ≤ 12) → Sim X (YR ad) 5 [(0, .ref (ad 500)), (1, .int (nI T)), (2, .int (nI all)), (3, .int (bI (mrT m0 (B 509) all nf nu T i))), (4, .int (nI i))] [] I J A (va_up B 501 (qL m0 (L ++ sbL m0 (B 509) all nf nu T i))) 0 0 := by
    intro nn
    induction nn using Nat.strongRecOn with
    | ind nn ih =>
      intro i hmz hi
      have lp := ih
      have hlen := sbL_len m0 (B 509) all nf nu T i
      have hl9 : (L ++ sbL m0 (B 509) all nf nu T i).length ≤ 100 := by rw [List.length_append]; omega
      refine S_n g 2 (pc' := 9) (lv' := [(0, .ref (ad 500)), (1, .int (nI T)), (2, .int (nI all)), (3, .int (bI (mrT m0 (B 509) all nf nu T i))), (4, .int (nI i))]) (st' := [.int (nI 12), .int (nI i)]) rfl ?_
      refine S_icN_ge g (tgt := 112) (by omega) (by omega) rfl (by decide) (fun qz9 => ?_) (fun qz9 => ?_)
      · skip
        have hi9 : i = 12 := by omega
        exact rtV rt rfl rfl (by rw [hi9]; exact eqP_rf)
      · skip
        refine S_n g 1 (pc' := 13) (lv' := [(0, .ref (ad 500)), (1, .int (nI T)), (2, .int (nI all)), (3, .int (bI (mrT m0 (B 509) all nf nu T i))), (4, .int (nI i))]) (st' := [.int (bI (mrT m0 (B 509) all nf nu T i))]) rfl ?_
        refine S_ifB_eq g (tgt := 112) rfl (by decide) (fun qz13 => ?_) (fun qz13 => ?_)
        · skip
          have hst := (sbL_stop m0 (B 509) all nf nu T qz13 (12 - i)).2
          rw [show i + (12 - i) = 12 from by omega] at hst
          exact rtV rt rfl rfl (by rw [hst]; exact eqP_rf)
        · skip
          refine S_n g 4 (pc' := 22) (lv' := [(0, .ref (ad 500)), (1, .int (nI T)), (2, .int (nI all)), (3, .int (bI (mrT m0 (B 509) all nf nu T i))), (4, .int (nI i)), (5, .long (lN 0)), (7, .int (nI 0))]) (st' := []) rfl ?_
          have lp2 : ∀ (nn : Nat) (u : Nat), nu - u = nn → (u ≤ nu) → Sim X (YR ad) 22 [(0, .ref (ad 500)), (1, .int (nI T)), (2, .int (nI all)), (3, .int (bI (mrT m0 (B 509) all nf nu T i))), (4, .int (nI i)), (5, .long (smT m0 (B 509) all nf nu T i u)), (7, .int (nI u))] [] I J A (va_up B 501 (qL m0 (L ++ sbL m0 (B 509) all nf nu T i))) 0 0 := by
            intro nn
            induction nn using Nat.strongRecOn with
            | ind nn ih =>
              intro u hmz hu
              have lp2 := ih
              refine S_n g 2 (pc' := 25) (lv' := [(0, .ref (ad 500)), (1, .int (nI T)), (2, .int (nI all)), (3, .int (bI (mrT m0 (B 509) all nf nu T i))), (4, .int (nI i)), (5, .long (smT m0 (B 509) all nf nu T i u)), (7, .int (nI u))]) (st' := [.ref (ad 500), .int (nI u)]) rfl ?_
              refine S_cV g (i := 500) (As := []) (st := [.int (nI u)]) (sp_users ad I J A (va_up B 501 (qL m0 (L ++ sbL m0 (B 509) all nf nu T i))) nu ((qL_lo m0 hl9 (by decide)).trans hU)) mw_X9_users lk_X9_71 ⟨Nat.le_of_ble_eq_true rfl, Nat.le_of_ble_eq_true rfl⟩ (by decide) (by decide) rfl rfl (Nat.le_of_ble_eq_true rfl) ⟨Nat.le_of_ble_eq_true rfl, Nat.le_of_ble_eq_true rfl⟩ rfl ?_
              show Sim X (YR ad) 28 [(0, .ref (ad 500)), (1, .int (nI T)), (2, .int (nI all)), (3, .int (bI (mrT m0 (B 509) all nf nu T i))), (4, .int (nI i)), (5, .long (smT m0 (B 509) all nf nu T i u)), (7, .int (nI u))] [.int (nI nu), .int (nI u)] I J A (va_up B 501 (qL m0 (L ++ sbL m0 (B 509) all nf nu T i))) 0 0
              refine S_icN_ge g (tgt := 82) (by omega) (by omega) rfl (by decide) (fun qz28 => ?_) (fun qz28 => ?_)
              · skip
                have hu9 : u = nu := by omega
                refine S_lveq (lv' := [(0, .ref (ad 500)), (1, .int (nI T)), (2, .int (nI all)), (3, .int (bI (mrT m0 (B 509) all nf nu T i))), (4, .int (nI i)), (5, .long (smT m0 (B 509) all nf nu T i nu)), (7, .int (nI u))]) (by rw [(show smT m0 (B 509) all nf nu T i u = smT m0 (B 509) all nf nu T i nu from by rw [hu9]).symm]) ?_
                refine S_n g 2 (pc' := 85) (lv' := [(0, .ref (ad 500)), (1, .int (nI T)), (2, .int (nI all)), (3, .int (bI (mrT m0 (B 509) all nf nu T i))), (4, .int (nI i)), (5, .long (smT m0 (B 509) all nf nu T i nu)), (7, .int (nI u))]) (st' := [.long (lN 0), .long (smT m0 (B 509) all nf nu T i nu)]) rfl ?_
                refine S_lc_eq g (tgt := 93) rfl rfl (by decide) (fun qz85 => ?_) (fun qz85 => ?_)
                · skip
                  have hmr : mrT m0 (B 509) all nf nu T (i + 1) = false := by simp [mrT, qz13, qz85]
                  have hsb : sbL m0 (B 509) all nf nu T (i + 1) = sbL m0 (B 509) all nf nu T i := by rw [sbL, if_neg (by rw [hmr]; decide)]
                  refine S_n g 2 (pc' := 95) (lv' := [(0, .ref (ad 500)), (1, .int (nI T)), (2, .int (nI all)), (3, .int (nI 0)), (4, .int (nI i)), (5, .long (smT m0 (B 509) all nf nu T i nu)), (7, .int (nI u))]) (st' := []) rfl ?_
                  refine S_lveq (lv' := [(0, .ref (ad 500)), (1, .int (nI T)), (2, .int (nI all)), (3, .int (bI (mrT m0 (B 509) all nf nu T (i + 1)))), (4, .int (nI i)), (5, .long (smT m0 (B 509) all nf nu T i nu)), (7, .int (nI u))]) (by rw [(show nI 0 = bI (mrT m0 (B 509) all nf nu T (i + 1)) from by rw [hmr]; rfl).symm]) ?_
                  rw [← hsb]
                  refine S_n g 1 (pc' := 96) (lv' := [(0, .ref (ad 500)), (1, .int (nI T)), (2, .int (nI all)), (3, .int (bI (mrT m0 (B 509) all nf nu T (i + 1)))), (4, .int (nI i)), (5, .long (smT m0 (B 509) all nf nu T i nu)), (7, .int (nI u))]) (st' := [.int (bI (mrT m0 (B 509) all nf nu T (i + 1)))]) rfl ?_
                  refine S_ifB_eq g (tgt := 106) rfl (by decide) (fun qz96 => ?_) (fun qz96 => ?_)
                  · skip
                    refine S_n g 1 (pc' := 109) (lv' := [(0, .ref (ad 500)), (1, .int (nI T)), (2, .int (nI all)), (3, .int (bI (mrT m0 (B 509) all nf nu T (i + 1)))), (4, .int ((nI i) + nI 1)), (5, .long (smT m0 (B 509) all nf nu T i nu)), (7, .int (nI u))]) (st' := []) rfl ?_
                    rw [nI_add i 1]
                    refine S_n g 1 (pc' := 5) (lv' := [(0, .ref (ad 500)), (1, .int (nI T)), (2, .int (nI all)), (3, .int (bI (mrT m0 (B 509) all nf nu T (i + 1)))), (4, .int (nI (i + 1))), (5, .long (smT m0 (B 509) all nf nu T i nu)), (7, .int (nI u))]) (st' := []) rfl ?_
                    refine S_keep (lv' := [(0, .ref (ad 500)), (1, .int (nI T)), (2, .int (nI all)), (3, .int (bI (mrT m0 (B 509) all nf nu T (i + 1)))), (4, .int (nI (i + 1)))]) [0, 1, 2, 3, 4] rfl ?_
                    exact lp (12 - (i + 1)) (by omega) (i + 1) rfl (by omega)
                  · skip
                    exact absurd (hmr.symm.trans qz96) (by decide)
                · skip
                  have hmr : mrT m0 (B 509) all nf nu T (i + 1) = true := by simp [mrT, qz13, qz85]
                  have hsb : sbL m0 (B 509) all nf nu T (i + 1) = sbL m0 (B 509) all nf nu T i ++ [smT m0 (B 509) all nf nu T i nu] := by rw [sbL, if_pos hmr]
                  refine S_n g 3 (pc' := 95) (lv' := [(0, .ref (ad 500)), (1, .int (nI T)), (2, .int (nI all)), (3, .int (nI 1)), (4, .int (nI i)), (5, .long (smT m0 (B 509) all nf nu T i nu)), (7, .int (nI u))]) (st' := []) rfl ?_
                  refine S_lveq (lv' := [(0, .ref (ad 500)), (1, .int (nI T)), (2, .int (nI all)), (3, .int (bI (mrT m0 (B 509) all nf nu T (i + 1)))), (4, .int (nI i)), (5, .long (smT m0 (B 509) all nf nu T i nu)), (7, .int (nI u))]) (by rw [(show nI 1 = bI (mrT m0 (B 509) all nf nu T (i + 1)) from by rw [hmr]; rfl).symm]) ?_
                  refine S_n g 1 (pc' := 96) (lv' := [(0, .ref (ad 500)), (1, .int (nI T)), (2, .int (nI all)), (3, .int (bI (mrT m0 (B 509) all nf nu T (i + 1)))), (4, .int (nI i)), (5, .long (smT m0 (B 509) all nf nu T i nu)), (7, .int (nI u))]) (st' := [.int (bI (mrT m0 (B 509) all nf nu T (i + 1)))]) rfl ?_
                  refine S_ifB_eq g (tgt := 106) rfl (by decide) (fun qz96 => ?_) (fun qz96 => ?_)
                  · skip
                    exact absurd (hmr.symm.trans qz96) (by decide)
                  · skip
                    refine S_n g 2 (pc' := 102) (lv' := [(0, .ref (ad 500)), (1, .int (nI T)), (2, .int (nI all)), (3, .int (bI (mrT m0 (B 509) all nf nu T (i + 1)))), (4, .int (nI i)), (5, .long (smT m0 (B 509) all nf nu T i nu)), (7, .int (nI u))]) (st' := [.long (smT m0 (B 509) all nf nu T i nu), .ref (ad 500)]) rfl ?_
                    refine S_cV g (i := 500) (As := [.long (smT m0 (B 509) all nf nu T i nu)]) (st := []) (sp_queues ad I J A (va_up B 501 (qL m0 (L ++ sbL m0 (B 509) all nf nu T i))) (smT m0 (B 509) all nf nu T i nu) (L ++ sbL m0 (B 509) all nf nu T i).length (qL_327 m0 _) (by rw [List.length_append]; omega)) mw_X9_queues lk_X9_132 ⟨Nat.le_of_ble_eq_true rfl, Nat.le_of_ble_eq_true rfl⟩ (by decide) (by decide) rfl rfl (Nat.le_of_ble_eq_true rfl) ⟨Nat.le_of_ble_eq_true rfl, Nat.le_of_ble_eq_true rfl⟩ rfl ?_
                    rw [va_up1, va_up_self, ← qL_snoc]
                    show Sim X (YR ad) 105 [(0, .ref (ad 500)), (1, .int (nI T)), (2, .int (nI all)), (3, .int (bI (mrT m0 (B 509) all nf nu T (i + 1)))), (4, .int (nI i)), (5, .long (smT m0 (B 509) all nf nu T i nu)), (7, .int (nI u))] [.int (o_queues (L ++ sbL m0 (B 509) all nf nu T i).length (qL m0 (L ++ sbL m0 (B 509) all nf nu T i)) (smT m0 (B 509) all nf nu T i nu)).1] I J A (va_up B 501 (qL m0 ((L ++ sbL m0 (B 509) all nf nu T i) ++ [smT m0 (B 509) all nf nu T i nu]))) 0 0
                    rw [List.append_assoc, ← hsb]
                    refine S_n g 2 (pc' := 109) (lv' := [(0, .ref (ad 500)), (1, .int (nI T)), (2, .int (nI all)), (3, .int (bI (mrT m0 (B 509) all nf nu T (i + 1)))), (4, .int ((nI i) + nI 1)), (5, .long (smT m0 (B 509) all nf nu T i nu)), (7, .int (nI u))]) (st' := []) rfl ?_
                    rw [nI_add i 1]
                    refine S_n g 1 (pc' := 5) (lv' := [(0, .ref (ad 500)), (1, .int (nI T)), (2, .int (nI all)), (3, .int (bI (mrT m0 (B 509) all nf nu T (i + 1)))), (4, .int (nI (i + 1))), (5, .long (smT m0 (B 509) all nf nu T i nu)), (7, .int (nI u))]) (st' := []) rfl ?_
                    refine S_keep (lv' := [(0, .ref (ad 500)), (1, .int (nI T)), (2, .int (nI all)), (3, .int (bI (mrT m0 (B 509) all nf nu T (i + 1)))), (4, .int (nI (i + 1)))]) [0, 1, 2, 3, 4] rfl ?_
                    exact lp (12 - (i + 1)) (by omega) (i + 1) rfl (by omega)
              · skip
                refine S_n g 5 (pc' := 37) (lv' := [(0, .ref (ad 500)), (1, .int (nI T)), (2, .int (nI all)), (3, .int (bI (mrT m0 (B 509) all nf nu T i))), (4, .int (nI i)), (5, .long (smT m0 (B 509) all nf nu T i u)), (7, .int (nI u))]) (st' := [.int (((nI T) >>> ((nI u) &&& 31)) &&& (nI 1))]) rfl ?_
                refine S_steq (st' := [.int (nI (T.testBit u).toNat)]) (by rw [(show ((nI T) >>> ((nI u) &&& 31)) &&& (nI 1) = nI (T.testBit u).toNat from bit_nat (by omega)).symm]) ?_
                have hb1 : (T.testBit u).toNat ≤ 1 := Bool.toNat_le _
                refine S_n g 1 (pc' := 38) (lv' := [(0, .ref (ad 500)), (1, .int (nI T)), (2, .int (nI all)), (3, .int (bI (mrT m0 (B 509) all nf nu T i))), (4, .int (nI i)), (5, .long (smT m0 (B 509) all nf nu T i u)), (7, .int (nI u))]) (st' := [.int (nI 1), .int (nI (T.testBit u).toNat)]) rfl ?_
                refine S_icN_ne g (tgt := 54) (by omega) (by omega) rfl (by decide) (fun qz38 => ?_) (fun qz38 => ?_)
                · skip
                  refine S_n g 5 (pc' := 62) (lv' := [(0, .ref (ad 500)), (1, .int (nI T)), (2, .int (nI all)), (3, .int (bI (mrT m0 (B 509) all nf nu T i))), (4, .int (nI i)), (5, .long (smT m0 (B 509) all nf nu T i u)), (7, .int (nI u)), (8, .int (-nI 1))]) (st' := [.int (-nI 1), .int (-nI 1), .long (smT m0 (B 509) all nf nu T i u)]) rfl ?_
                  refine S_ic_ne g (tgt := 69) rfl (by decide) (fun qz62 => ?_) (fun qz62 => ?_)
                  · skip
                    exact absurd rfl qz62
                  · skip
                    refine S_n g 4 (pc' := 76) (lv' := [(0, .ref (ad 500)), (1, .int (nI T)), (2, .int (nI all)), (3, .int (bI (mrT m0 (B 509) all nf nu T i))), (4, .int (nI i)), (5, .long ((smT m0 (B 509) all nf nu T i u) ||| (lN 0))), (7, .int (nI u)), (8, .int (-nI 1))]) (st' := []) rfl ?_
                    refine S_lveq (lv' := [(0, .ref (ad 500)), (1, .int (nI T)), (2, .int (nI all)), (3, .int (bI (mrT m0 (B 509) all nf nu T i))), (4, .int (nI i)), (5, .long (smT m0 (B 509) all nf nu T i (u + 1))), (7, .int (nI u)), (8, .int (-nI 1))]) (by rw [(show (smT m0 (B 509) all nf nu T i u) ||| (lN 0) = smT m0 (B 509) all nf nu T i (u + 1) from by rw [smT, if_neg (by cases hbv : T.testBit u <;> simp_all)]).symm]) ?_
                    refine S_n g 1 (pc' := 79) (lv' := [(0, .ref (ad 500)), (1, .int (nI T)), (2, .int (nI all)), (3, .int (bI (mrT m0 (B 509) all nf nu T i))), (4, .int (nI i)), (5, .long (smT m0 (B 509) all nf nu T i (u + 1))), (7, .int ((nI u) + nI 1)), (8, .int (-nI 1))]) (st' := []) rfl ?_
                    rw [nI_add u 1]
                    refine S_n g 1 (pc' := 22) (lv' := [(0, .ref (ad 500)), (1, .int (nI T)), (2, .int (nI all)), (3, .int (bI (mrT m0 (B 509) all nf nu T i))), (4, .int (nI i)), (5, .long (smT m0 (B 509) all nf nu T i (u + 1))), (7, .int (nI (u + 1))), (8, .int (-nI 1))]) (st' := []) rfl ?_
                    refine S_keep (lv' := [(0, .ref (ad 500)), (1, .int (nI T)), (2, .int (nI all)), (3, .int (bI (mrT m0 (B 509) all nf nu T i))), (4, .int (nI i)), (5, .long (smT m0 (B 509) all nf nu T i (u + 1))), (7, .int (nI (u + 1)))]) [0, 1, 2, 3, 4, 5, 7] rfl ?_
                    exact lp2 (nu - (u + 1)) (by omega) (u + 1) rfl (by omega)
                · skip
                  have hlsl := lsF_le m0 (B 509) all nu u T i (12 * nf)
                  refine S_n g 5 (pc' := 48) (lv' := [(0, .ref (ad 500)), (1, .int (nI T)), (2, .int (nI all)), (3, .int (bI (mrT m0 (B 509) all nf nu T i))), (4, .int (nI i)), (5, .long (smT m0 (B 509) all nf nu T i u)), (7, .int (nI u))]) (st' := [.int (nI i), .int (nI all), .int (nI T), .int (nI u), .ref (ad 500)]) rfl ?_
                  refine S_cV g (i := 500) (As := [.int (nI u), .int (nI T), .int (nI all), .int (nI i)]) (st := []) (sp_listed ad I J A (va_up B 501 (qL m0 (L ++ sbL m0 (B 509) all nf nu T i))) u T all i nf nu ((qL_lo m0 hl9 (by decide)).trans hF) ((qL_lo m0 hl9 (by decide)).trans hU) h1 h2 (by omega) hT (by omega)) mw_X9_listed lk_X9_185 ⟨Nat.le_of_ble_eq_true rfl, Nat.le_of_ble_eq_true rfl⟩ (by decide) (by decide) rfl rfl (Nat.le_of_ble_eq_true rfl) ⟨Nat.le_of_ble_eq_true rfl, Nat.le_of_ble_eq_true rfl⟩ rfl ?_
                  have hcg : lsF (va_up B 501 (qL m0 (L ++ sbL m0 (B 509) all nf nu T i)) 501) (va_up B 501 (qL m0 (L ++ sbL m0 (B 509) all nf nu T i)) 509) all nu u T i (12 * nf) = lsF m0 (B 509) all nu u T i (12 * nf) := lsF_cong (fun v hv => qL_lo m0 hl9 (by omega)) h2 u T i _
                  rw [hcg]
                  show Sim X (YR ad) 51 [(0, .ref (ad 500)), (1, .int (nI T)), (2, .int (nI all)), (3, .int (bI (mrT m0 (B 509) all nf nu T i))), (4, .int (nI i)), (5, .long (smT m0 (B 509) all nf nu T i u)), (7, .int (nI u))] [.int (hI (lsF m0 (B 509) all nu u T i (12 * nf)))] I J A (va_up B 501 (qL m0 (L ++ sbL m0 (B 509) all nf nu T i))) 0 0
                  refine S_n g 5 (pc' := 62) (lv' := [(0, .ref (ad 500)), (1, .int (nI T)), (2, .int (nI all)), (3, .int (bI (mrT m0 (B 509) all nf nu T i))), (4, .int (nI i)), (5, .long (smT m0 (B 509) all nf nu T i u)), (7, .int (nI u)), (8, .int (hI (lsF m0 (B 509) all nu u T i (12 * nf))))]) (st' := [.int (-nI 1), .int (hI (lsF m0 (B 509) all nu u T i (12 * nf))), .long (smT m0 (B 509) all nf nu T i u)]) rfl ?_
                  refine S_ic_ne g (tgt := 69) rfl (by decide) (fun qz62 => ?_) (fun qz62 => ?_)
                  · skip
                    have hk0 : 0 < lsF m0 (B 509) all nu u T i (12 * nf) := Nat.pos_of_ne_zero (fun q => qz62 ((hI_m1 (by omega)).mpr q))
                    refine S_lveq (lv' := [(0, .ref (ad 500)), (1, .int (nI T)), (2, .int (nI all)), (3, .int (bI (mrT m0 (B 509) all nf nu T i))), (4, .int (nI i)), (5, .long (smT m0 (B 509) all nf nu T i u)), (7, .int (nI u)), (8, .int (nI (lsF m0 (B 509) all nu u T i (12 * nf) - 1)))]) (by rw [(show hI (lsF m0 (B 509) all nu u T i (12 * nf)) = nI (lsF m0 (B 509) all nu u T i (12 * nf) - 1) from hI_pos hk0).symm]) ?_
                    refine S_n g 5 (pc' := 76) (lv' := [(0, .ref (ad 500)), (1, .int (nI T)), (2, .int (nI all)), (3, .int (bI (mrT m0 (B 509) all nf nu T i))), (4, .int (nI i)), (5, .long ((smT m0 (B 509) all nf nu T i u) ||| ((lN 1) <<< ((nI (lsF m0 (B 509) all nu u T i (12 * nf) - 1)).toInt64 &&& 63)))), (7, .int (nI u)), (8, .int (nI (lsF m0 (B 509) all nu u T i (12 * nf) - 1)))]) (st' := []) rfl ?_
                    refine S_lveq (lv' := [(0, .ref (ad 500)), (1, .int (nI T)), (2, .int (nI all)), (3, .int (bI (mrT m0 (B 509) all nf nu T i))), (4, .int (nI i)), (5, .long (smT m0 (B 509) all nf nu T i (u + 1))), (7, .int (nI u)), (8, .int (nI (lsF m0 (B 509) all nu u T i (12 * nf) - 1)))]) (by rw [(show (smT m0 (B 509) all nf nu T i u) ||| ((lN 1) <<< ((nI (lsF m0 (B 509) all nu u T i (12 * nf) - 1)).toInt64 &&& 63)) = smT m0 (B 509) all nf nu T i (u + 1) from by rw [smT, if_pos (by cases hbv : T.testBit u <;> simp_all), pbit, if_neg (by omega)]).symm]) ?_
                    refine S_n g 1 (pc' := 79) (lv' := [(0, .ref (ad 500)), (1, .int (nI T)), (2, .int (nI all)), (3, .int (bI (mrT m0 (B 509) all nf nu T i))), (4, .int (nI i)), (5, .long (smT m0 (B 509) all nf nu T i (u + 1))), (7, .int ((nI u) + nI 1)), (8, .int (nI (lsF m0 (B 509) all nu u T i (12 * nf) - 1)))]) (st' := []) rfl ?_
                    rw [nI_add u 1]
                    refine S_n g 1 (pc' := 22) (lv' := [(0, .ref (ad 500)), (1, .int (nI T)), (2, .int (nI all)), (3, .int (bI (mrT m0 (B 509) all nf nu T i))), (4, .int (nI i)), (5, .long (smT m0 (B 509) all nf nu T i (u + 1))), (7, .int (nI (u + 1))), (8, .int (nI (lsF m0 (B 509) all nu u T i (12 * nf) - 1)))]) (st' := []) rfl ?_
                    refine S_keep (lv' := [(0, .ref (ad 500)), (1, .int (nI T)), (2, .int (nI all)), (3, .int (bI (mrT m0 (B 509) all nf nu T i))), (4, .int (nI i)), (5, .long (smT m0 (B 509) all nf nu T i (u + 1))), (7, .int (nI (u + 1)))]) [0, 1, 2, 3, 4, 5, 7] rfl ?_
                    exact lp2 (nu - (u + 1)) (by omega) (u + 1) rfl (by omega)
                  · skip
                    refine S_n g 4 (pc' := 76) (lv' := [(0, .ref (ad 500)), (1, .int (nI T)), (2, .int (nI all)), (3, .int (bI (mrT m0 (B 509) all nf nu T i))), (4, .int (nI i)), (5, .long ((smT m0 (B 509) all nf nu T i u) ||| (lN 0))), (7, .int (nI u)), (8, .int (hI (lsF m0 (B 509) all nu u T i (12 * nf))))]) (st' := []) rfl ?_
                    refine S_lveq (lv' := [(0, .ref (ad 500)), (1, .int (nI T)), (2, .int (nI all)), (3, .int (bI (mrT m0 (B 509) all nf nu T i))), (4, .int (nI i)), (5, .long (smT m0 (B 509) all nf nu T i (u + 1))), (7, .int (nI u)), (8, .int (hI (lsF m0 (B 509) all nu u T i (12 * nf))))]) (by rw [(show (smT m0 (B 509) all nf nu T i u) ||| (lN 0) = smT m0 (B 509) all nf nu T i (u + 1) from by rw [smT, if_pos (by cases hbv : T.testBit u <;> simp_all), pbit, if_pos ((hI_m1 (by omega)).mp qz62)]).symm]) ?_
                    refine S_n g 1 (pc' := 79) (lv' := [(0, .ref (ad 500)), (1, .int (nI T)), (2, .int (nI all)), (3, .int (bI (mrT m0 (B 509) all nf nu T i))), (4, .int (nI i)), (5, .long (smT m0 (B 509) all nf nu T i (u + 1))), (7, .int ((nI u) + nI 1)), (8, .int (hI (lsF m0 (B 509) all nu u T i (12 * nf))))]) (st' := []) rfl ?_
                    rw [nI_add u 1]
                    refine S_n g 1 (pc' := 22) (lv' := [(0, .ref (ad 500)), (1, .int (nI T)), (2, .int (nI all)), (3, .int (bI (mrT m0 (B 509) all nf nu T i))), (4, .int (nI i)), (5, .long (smT m0 (B 509) all nf nu T i (u + 1))), (7, .int (nI (u + 1))), (8, .int (hI (lsF m0 (B 509) all nu u T i (12 * nf))))]) (st' := []) rfl ?_
                    refine S_keep (lv' := [(0, .ref (ad 500)), (1, .int (nI T)), (2, .int (nI all)), (3, .int (bI (mrT m0 (B 509) all nf nu T i))), (4, .int (nI i)), (5, .long (smT m0 (B 509) all nf nu T i (u + 1))), (7, .int (nI (u + 1)))]) [0, 1, 2, 3, 4, 5, 7] rfl ?_
                    exact lp2 (nu - (u + 1)) (by omega) (u + 1) rfl (by omega)
          exact lp2 _ 0 rfl (by omega)
  have h0 := lp _ 0 rfl (by omega)
  have e0 : L ++ sbL m0 (B 509) all nf nu T 0 = L := List.append_nil L
  rw [e0] at h0
  exact h0

def fsV (m : Nat → Int64) (all u : Nat) : Nat → Bool
  | 0 => all.testBit u
  | v + 1 => fsV m all u v && decide (m (69 + v) ≠ m (69 + u))
def ldN (m : Nat → Int64) (all : Nat) : Nat → Nat
  | 0 => 0
  | u + 1 => if fsV m all u u = true then ldN m all u ||| 2 ^ u else ldN m all u
theorem ldN_lt (m : Nat → Int64) (all : Nat) : ∀ k, k ≤ 6 → ldN m all k < 64
  | 0, _ => by show 0 < 64; decide
  | k + 1, h => by
    have := ldN_lt m all k (by omega)
    unfold ldN
    split
    · exact or_lt this (by omega)
    · exact this

set_option maxRecDepth 100000 in
set_option maxHeartbeats 4000000 in
theorem sp_leaders (ad : Nat → Nat) (I : FI) (J : FJ) (A : FI) (B : FJ) (all nu : Nat) (hU : B 501 1 = lN nu) (h2 : nu ≤ 6) : Spec M_X9_leaders [.ref (ad 500), .int (nI all)] (YR ad) I J A B (eqP (some (.int (nI (ldN (B 501) all nu)))) (YR ad) I J A B) := by
  refine Spec_of (by decide) tk_X9_leaders (Nat.le_of_ble_eq_true rfl) (fun X g rt => ?_)
  show Sim X (YR ad) 0 [(0, .ref (ad 500)), (1, .int (nI all))] [] I J A B 0 0
  refine S_n g 4 (pc' := 4) (lv' := [(0, .ref (ad 500)), (1, .int (nI all)), (2, .int (nI 0)), (3, .int (nI 0))]) (st' := []) rfl ?_
  have lp : ∀ (nn : Nat) (u : Nat), nu - u = nn → (u ≤ nu) → Sim X (YR ad) 4 [(0, .ref (ad 500)), (1, .int (nI all)), (2, .int (nI (ldN (B 501) all u))), (3, .int (nI u))] [] I J A B 0 0 := by
    intro nn
    induction nn using Nat.strongRecOn with
    | ind nn ih =>
      intro u hmz hu
      have lp := ih
      refine S_n g 2 (pc' := 6) (lv' := [(0, .ref (ad 500)), (1, .int (nI all)), (2, .int (nI (ldN (B 501) all u))), (3, .int (nI u))]) (st' := [.ref (ad 500), .int (nI u)]) rfl ?_
      refine S_cV g (i := 500) (As := []) (st := [.int (nI u)]) (sp_users ad I J A B nu hU) mw_X9_users lk_X9_71 ⟨Nat.le_of_ble_eq_true rfl, Nat.le_of_ble_eq_true rfl⟩ (by decide) (by decide) rfl rfl (Nat.le_of_ble_eq_true rfl) ⟨Nat.le_of_ble_eq_true rfl, Nat.le_of_ble_eq_true rfl⟩ rfl ?_
      show Sim X (YR ad) 9 [(0, .ref (ad 500)), (1, .int (nI all)), (2, .int (nI (ldN (B 501) all u))), (3, .int (nI u))] [.int (nI nu), .int (nI u)] I J A B 0 0
      refine S_icN_ge g (tgt := 99) (by omega) (by omega) rfl (by decide) (fun qz9 => ?_) (fun qz9 => ?_)
      · skip
        have hu9 : u = nu := by omega
        refine S_n g 1 (pc' := 100) (lv' := [(0, .ref (ad 500)), (1, .int (nI all)), (2, .int (nI (ldN (B 501) all u))), (3, .int (nI u))]) (st' := [.int (nI (ldN (B 501) all u))]) rfl ?_
        exact rtI rt rfl rfl (by rw [hu9]; exact eqP_rf)
      · skip
        refine S_n g 5 (pc' := 17) (lv' := [(0, .ref (ad 500)), (1, .int (nI all)), (2, .int (nI (ldN (B 501) all u))), (3, .int (nI u))]) (st' := [.int (((nI all) >>> ((nI u) &&& 31)) &&& (nI 1))]) rfl ?_
        refine S_steq (st' := [.int (nI (all.testBit u).toNat)]) (by rw [(show ((nI all) >>> ((nI u) &&& 31)) &&& (nI 1) = nI (all.testBit u).toNat from bit_nat (by omega)).symm]) ?_
        have hb1 : (all.testBit u).toNat ≤ 1 := Bool.toNat_le _
        refine S_n g 1 (pc' := 18) (lv' := [(0, .ref (ad 500)), (1, .int (nI all)), (2, .int (nI (ldN (B 501) all u))), (3, .int (nI u))]) (st' := [.int (nI 1), .int (nI (all.testBit u).toNat)]) rfl ?_
        refine S_icN_ne g (tgt := 25) (by omega) (by omega) rfl (by decide) (fun qz18 => ?_) (fun qz18 => ?_)
        · skip
          refine S_n g 4 (pc' := 31) (lv' := [(0, .ref (ad 500)), (1, .int (nI all)), (2, .int (nI (ldN (B 501) all u))), (3, .int (nI u)), (4, .int (nI 0)), (5, .int (nI 0))]) (st' := []) rfl ?_
          refine S_lveq (lv' := [(0, .ref (ad 500)), (1, .int (nI all)), (2, .int (nI (ldN (B 501) all u))), (3, .int (nI u)), (4, .int (bI (fsV (B 501) all u 0))), (5, .int (nI 0))]) (by rw [(show nI 0 = bI (fsV (B 501) all u 0) from by cases hbv : all.testBit u <;> simp_all [fsV, bI]).symm]) ?_
          have lp2 : ∀ (nn : Nat) (v : Nat), u - v = nn → (v ≤ u) → Sim X (YR ad) 31 [(0, .ref (ad 500)), (1, .int (nI all)), (2, .int (nI (ldN (B 501) all u))), (3, .int (nI u)), (4, .int (bI (fsV (B 501) all u v))), (5, .int (nI v))] [] I J A B 0 0 := by
            intro nn
            induction nn using Nat.strongRecOn with
            | ind nn ih =>
              intro v hmz hv
              have lp2 := ih
              refine S_n g 2 (pc' := 34) (lv' := [(0, .ref (ad 500)), (1, .int (nI all)), (2, .int (nI (ldN (B 501) all u))), (3, .int (nI u)), (4, .int (bI (fsV (B 501) all u v))), (5, .int (nI v))]) (st' := [.int (nI u), .int (nI v)]) rfl ?_
              refine S_icN_ge g (tgt := 78) (by omega) (by omega) rfl (by decide) (fun qz34 => ?_) (fun qz34 => ?_)
              · skip
                have hv9 : v = u := by omega
                refine S_lveq (lv' := [(0, .ref (ad 500)), (1, .int (nI all)), (2, .int (nI (ldN (B 501) all u))), (3, .int (nI u)), (4, .int (bI (fsV (B 501) all u u))), (5, .int (nI v))]) (by rw [(show bI (fsV (B 501) all u v) = bI (fsV (B 501) all u u) from by rw [hv9]).symm]) ?_
                refine S_n g 2 (pc' := 81) (lv' := [(0, .ref (ad 500)), (1, .int (nI all)), (2, .int (nI (ldN (B 501) all u))), (3, .int (nI u)), (4, .int (bI (fsV (B 501) all u u))), (5, .int (nI v))]) (st' := [.int (bI (fsV (B 501) all u u)), .int (nI (ldN (B 501) all u))]) rfl ?_
                refine S_ifB_eq g (tgt := 90) rfl (by decide) (fun qz81 => ?_) (fun qz81 => ?_)
                · skip
                  refine S_n g 3 (pc' := 93) (lv' := [(0, .ref (ad 500)), (1, .int (nI all)), (2, .int ((nI (ldN (B 501) all u)) ||| (nI 0))), (3, .int (nI u)), (4, .int (bI (fsV (B 501) all u u))), (5, .int (nI v))]) (st' := []) rfl ?_
                  refine S_lveq (lv' := [(0, .ref (ad 500)), (1, .int (nI all)), (2, .int (nI (ldN (B 501) all (u + 1)))), (3, .int (nI u)), (4, .int (bI (fsV (B 501) all u u))), (5, .int (nI v))]) (by rw [(show (nI (ldN (B 501) all u)) ||| (nI 0) = nI (ldN (B 501) all (u + 1)) from by rw [ldN, if_neg (by rw [qz81]; decide), nI_or, Nat.or_zero]).symm]) ?_
                  refine S_n g 1 (pc' := 96) (lv' := [(0, .ref (ad 500)), (1, .int (nI all)), (2, .int (nI (ldN (B 501) all (u + 1)))), (3, .int ((nI u) + nI 1)), (4, .int (bI (fsV (B 501) all u u))), (5, .int (nI v))]) (st' := []) rfl ?_
                  rw [nI_add u 1]
                  refine S_n g 1 (pc' := 4) (lv' := [(0, .ref (ad 500)), (1, .int (nI all)), (2, .int (nI (ldN (B 501) all (u + 1)))), (3, .int (nI (u + 1))), (4, .int (bI (fsV (B 501) all u u))), (5, .int (nI v))]) (st' := []) rfl ?_
                  refine S_keep (lv' := [(0, .ref (ad 500)), (1, .int (nI all)), (2, .int (nI (ldN (B 501) all (u + 1)))), (3, .int (nI (u + 1)))]) [0, 1, 2, 3] rfl ?_
                  exact lp (nu - (u + 1)) (by omega) (u + 1) rfl (by omega)
                · skip
                  refine S_n g 6 (pc' := 93) (lv' := [(0, .ref (ad 500)), (1, .int (nI all)), (2, .int ((nI (ldN (B 501) all u)) ||| ((nI 1) <<< ((nI u) &&& 31)))), (3, .int (nI u)), (4, .int (bI (fsV (B 501) all u u))), (5, .int (nI v))]) (st' := []) rfl ?_
                  refine S_lveq (lv' := [(0, .ref (ad 500)), (1, .int (nI all)), (2, .int (nI (ldN (B 501) all (u + 1)))), (3, .int (nI u)), (4, .int (bI (fsV (B 501) all u u))), (5, .int (nI v))]) (by rw [(show (nI (ldN (B 501) all u)) ||| ((nI 1) <<< ((nI u) &&& 31)) = nI (ldN (B 501) all (u + 1)) from by rw [ldN, if_pos qz81, ← nI_or, ← i1_nI (by omega)]).symm]) ?_
                  refine S_n g 1 (pc' := 96) (lv' := [(0, .ref (ad 500)), (1, .int (nI all)), (2, .int (nI (ldN (B 501) all (u + 1)))), (3, .int ((nI u) + nI 1)), (4, .int (bI (fsV (B 501) all u u))), (5, .int (nI v))]) (st' := []) rfl ?_
                  rw [nI_add u 1]
                  refine S_n g 1 (pc' := 4) (lv' := [(0, .ref (ad 500)), (1, .int (nI all)), (2, .int (nI (ldN (B 501) all (u + 1)))), (3, .int (nI (u + 1))), (4, .int (bI (fsV (B 501) all u u))), (5, .int (nI v))]) (st' := []) rfl ?_
                  refine S_keep (lv' := [(0, .ref (ad 500)), (1, .int (nI all)), (2, .int (nI (ldN (B 501) all (u + 1)))), (3, .int (nI (u + 1)))]) [0, 1, 2, 3] rfl ?_
                  exact lp (nu - (u + 1)) (by omega) (u + 1) rfl (by omega)
              · skip
                refine S_n g 1 (pc' := 39) (lv' := [(0, .ref (ad 500)), (1, .int (nI all)), (2, .int (nI (ldN (B 501) all u))), (3, .int (nI u)), (4, .int (bI (fsV (B 501) all u v))), (5, .int (nI v))]) (st' := [.int (bI (fsV (B 501) all u v))]) rfl ?_
                refine S_ifB_eq g (tgt := 69) rfl (by decide) (fun qz39 => ?_) (fun qz39 => ?_)
                · skip
                  refine S_n g 2 (pc' := 72) (lv' := [(0, .ref (ad 500)), (1, .int (nI all)), (2, .int (nI (ldN (B 501) all u))), (3, .int (nI u)), (4, .int (nI 0)), (5, .int (nI v))]) (st' := []) rfl ?_
                  refine S_lveq (lv' := [(0, .ref (ad 500)), (1, .int (nI all)), (2, .int (nI (ldN (B 501) all u))), (3, .int (nI u)), (4, .int (bI (fsV (B 501) all u (v + 1)))), (5, .int (nI v))]) (by rw [(show nI 0 = bI (fsV (B 501) all u (v + 1)) from by simp_all [fsV, bI]).symm]) ?_
                  refine S_n g 1 (pc' := 75) (lv' := [(0, .ref (ad 500)), (1, .int (nI all)), (2, .int (nI (ldN (B 501) all u))), (3, .int (nI u)), (4, .int (bI (fsV (B 501) all u (v + 1)))), (5, .int ((nI v) + nI 1))]) (st' := []) rfl ?_
                  rw [nI_add v 1]
                  refine S_n g 1 (pc' := 31) (lv' := [(0, .ref (ad 500)), (1, .int (nI all)), (2, .int (nI (ldN (B 501) all u))), (3, .int (nI u)), (4, .int (bI (fsV (B 501) all u (v + 1)))), (5, .int (nI (v + 1)))]) (st' := []) rfl ?_
                  exact lp2 (u - (v + 1)) (by omega) (v + 1) rfl (by omega)
                · skip
                  refine S_n g 1 (pc' := 43) (lv' := [(0, .ref (ad 500)), (1, .int (nI all)), (2, .int (nI (ldN (B 501) all u))), (3, .int (nI u)), (4, .int (bI (fsV (B 501) all u v))), (5, .int (nI v))]) (st' := [.ref (ad 500)]) rfl ?_
                  refine S_getR g (i := 500) (c := 9) (k := 0) (j := 501) (by decide) (by decide) rfl rfl rfl fl_X9_7 rfl ?_
                  refine S_n g 3 (pc' := 51) (lv' := [(0, .ref (ad 500)), (1, .int (nI all)), (2, .int (nI (ldN (B 501) all u))), (3, .int (nI u)), (4, .int (bI (fsV (B 501) all u v))), (5, .int (nI v))]) (st' := [.int ((nI 69) + (nI v)), .ref (ad 501)]) rfl ?_
                  rw [nI_add 69 v]
                  refine S_laldN g (i := 501) (e := 69 + v) (by decide) rfl (show 69 + v < 621 from by omega) (show (621 : Nat) < 2 ^ 31 from by decide) rfl ?_
                  refine S_n g 1 (pc' := 53) (lv' := [(0, .ref (ad 500)), (1, .int (nI all)), (2, .int (nI (ldN (B 501) all u))), (3, .int (nI u)), (4, .int (bI (fsV (B 501) all u v))), (5, .int (nI v))]) (st' := [.ref (ad 500), .long (B 501 (69 + v))]) rfl ?_
                  refine S_getR g (i := 500) (c := 9) (k := 0) (j := 501) (by decide) (by decide) rfl rfl rfl fl_X9_7 rfl ?_
                  refine S_n g 3 (pc' := 60) (lv' := [(0, .ref (ad 500)), (1, .int (nI all)), (2, .int (nI (ldN (B 501) all u))), (3, .int (nI u)), (4, .int (bI (fsV (B 501) all u v))), (5, .int (nI v))]) (st' := [.int ((nI 69) + (nI u)), .ref (ad 501), .long (B 501 (69 + v))]) rfl ?_
                  rw [nI_add 69 u]
                  refine S_laldN g (i := 501) (e := 69 + u) (by decide) rfl (show 69 + u < 621 from by omega) (show (621 : Nat) < 2 ^ 31 from by decide) rfl ?_
                  refine S_lc_eq g (tgt := 69) rfl rfl (by decide) (fun qz61 => ?_) (fun qz61 => ?_)
                  · skip
                    refine S_n g 2 (pc' := 72) (lv' := [(0, .ref (ad 500)), (1, .int (nI all)), (2, .int (nI (ldN (B 501) all u))), (3, .int (nI u)), (4, .int (nI 0)), (5, .int (nI v))]) (st' := []) rfl ?_
                    refine S_lveq (lv' := [(0, .ref (ad 500)), (1, .int (nI all)), (2, .int (nI (ldN (B 501) all u))), (3, .int (nI u)), (4, .int (bI (fsV (B 501) all u (v + 1)))), (5, .int (nI v))]) (by rw [(show nI 0 = bI (fsV (B 501) all u (v + 1)) from by simp_all [fsV, bI]).symm]) ?_
                    refine S_n g 1 (pc' := 75) (lv' := [(0, .ref (ad 500)), (1, .int (nI all)), (2, .int (nI (ldN (B 501) all u))), (3, .int (nI u)), (4, .int (bI (fsV (B 501) all u (v + 1)))), (5, .int ((nI v) + nI 1))]) (st' := []) rfl ?_
                    rw [nI_add v 1]
                    refine S_n g 1 (pc' := 31) (lv' := [(0, .ref (ad 500)), (1, .int (nI all)), (2, .int (nI (ldN (B 501) all u))), (3, .int (nI u)), (4, .int (bI (fsV (B 501) all u (v + 1)))), (5, .int (nI (v + 1)))]) (st' := []) rfl ?_
                    exact lp2 (u - (v + 1)) (by omega) (v + 1) rfl (by omega)
                  · skip
                    refine S_n g 3 (pc' := 72) (lv' := [(0, .ref (ad 500)), (1, .int (nI all)), (2, .int (nI (ldN (B 501) all u))), (3, .int (nI u)), (4, .int (nI 1)), (5, .int (nI v))]) (st' := []) rfl ?_
                    refine S_lveq (lv' := [(0, .ref (ad 500)), (1, .int (nI all)), (2, .int (nI (ldN (B 501) all u))), (3, .int (nI u)), (4, .int (bI (fsV (B 501) all u (v + 1)))), (5, .int (nI v))]) (by rw [(show nI 1 = bI (fsV (B 501) all u (v + 1)) from by simp_all [fsV, bI]).symm]) ?_
                    refine S_n g 1 (pc' := 75) (lv' := [(0, .ref (ad 500)), (1, .int (nI all)), (2, .int (nI (ldN (B 501) all u))), (3, .int (nI u)), (4, .int (bI (fsV (B 501) all u (v + 1)))), (5, .int ((nI v) + nI 1))]) (st' := []) rfl ?_
                    rw [nI_add v 1]
                    refine S_n g 1 (pc' := 31) (lv' := [(0, .ref (ad 500)), (1, .int (nI all)), (2, .int (nI (ldN (B 501) all u))), (3, .int (nI u)), (4, .int (bI (fsV (B 501) all u (v + 1)))), (5, .int (nI (v + 1)))]) (st' := []) rfl ?_
                    exact lp2 (u - (v + 1)) (by omega) (v + 1) rfl (by omega)
          exact lp2 _ 0 rfl (by omega)
        · skip
          refine S_n g 5 (pc' := 31) (lv' := [(0, .ref (ad 500)), (1, .int (nI all)), (2, .int (nI (ldN (B 501) all u))), (3, .int (nI u)), (4, .int (nI 1)), (5, .int (nI 0))]) (st' := []) rfl ?_
          refine S_lveq (lv' := [(0, .ref (ad 500)), (1, .int (nI all)), (2, .int (nI (ldN (B 501) all u))), (3, .int (nI u)), (4, .int (bI (fsV (B 501) all u 0))), (5, .int (nI 0))]) (by rw [(show nI 1 = bI (fsV (B 501) all u 0) from by cases hbv : all.testBit u <;> simp_all [fsV, bI]).symm]) ?_
          have lp2 : ∀ (nn : Nat) (v : Nat), u - v = nn → (v ≤ u) → Sim X (YR ad) 31 [(0, .ref (ad 500)), (1, .int (nI all)), (2, .int (nI (ldN (B 501) all u))), (3, .int (nI u)), (4, .int (bI (fsV (B 501) all u v))), (5, .int (nI v))] [] I J A B 0 0 := by
            intro nn
            induction nn using Nat.strongRecOn with
            | ind nn ih =>
              intro v hmz hv
              have lp2 := ih
              refine S_n g 2 (pc' := 34) (lv' := [(0, .ref (ad 500)), (1, .int (nI all)), (2, .int (nI (ldN (B 501) all u))), (3, .int (nI u)), (4, .int (bI (fsV (B 501) all u v))), (5, .int (nI v))]) (st' := [.int (nI u), .int (nI v)]) rfl ?_
              refine S_icN_ge g (tgt := 78) (by omega) (by omega) rfl (by decide) (fun qz34 => ?_) (fun qz34 => ?_)
              · skip
                have hv9 : v = u := by omega
                refine S_lveq (lv' := [(0, .ref (ad 500)), (1, .int (nI all)), (2, .int (nI (ldN (B 501) all u))), (3, .int (nI u)), (4, .int (bI (fsV (B 501) all u u))), (5, .int (nI v))]) (by rw [(show bI (fsV (B 501) all u v) = bI (fsV (B 501) all u u) from by rw [hv9]).symm]) ?_
                refine S_n g 2 (pc' := 81) (lv' := [(0, .ref (ad 500)), (1, .int (nI all)), (2, .int (nI (ldN (B 501) all u))), (3, .int (nI u)), (4, .int (bI (fsV (B 501) all u u))), (5, .int (nI v))]) (st' := [.int (bI (fsV (B 501) all u u)), .int (nI (ldN (B 501) all u))]) rfl ?_
                refine S_ifB_eq g (tgt := 90) rfl (by decide) (fun qz81 => ?_) (fun qz81 => ?_)
                · skip
                  refine S_n g 3 (pc' := 93) (lv' := [(0, .ref (ad 500)), (1, .int (nI all)), (2, .int ((nI (ldN (B 501) all u)) ||| (nI 0))), (3, .int (nI u)), (4, .int (bI (fsV (B 501) all u u))), (5, .int (nI v))]) (st' := []) rfl ?_
                  refine S_lveq (lv' := [(0, .ref (ad 500)), (1, .int (nI all)), (2, .int (nI (ldN (B 501) all (u + 1)))), (3, .int (nI u)), (4, .int (bI (fsV (B 501) all u u))), (5, .int (nI v))]) (by rw [(show (nI (ldN (B 501) all u)) ||| (nI 0) = nI (ldN (B 501) all (u + 1)) from by rw [ldN, if_neg (by rw [qz81]; decide), nI_or, Nat.or_zero]).symm]) ?_
                  refine S_n g 1 (pc' := 96) (lv' := [(0, .ref (ad 500)), (1, .int (nI all)), (2, .int (nI (ldN (B 501) all (u + 1)))), (3, .int ((nI u) + nI 1)), (4, .int (bI (fsV (B 501) all u u))), (5, .int (nI v))]) (st' := []) rfl ?_
                  rw [nI_add u 1]
                  refine S_n g 1 (pc' := 4) (lv' := [(0, .ref (ad 500)), (1, .int (nI all)), (2, .int (nI (ldN (B 501) all (u + 1)))), (3, .int (nI (u + 1))), (4, .int (bI (fsV (B 501) all u u))), (5, .int (nI v))]) (st' := []) rfl ?_
                  refine S_keep (lv' := [(0, .ref (ad 500)), (1, .int (nI all)), (2, .int (nI (ldN (B 501) all (u + 1)))), (3, .int (nI (u + 1)))]) [0, 1, 2, 3] rfl ?_
                  exact lp (nu - (u + 1)) (by omega) (u + 1) rfl (by omega)
                · skip
                  refine S_n g 6 (pc' := 93) (lv' := [(0, .ref (ad 500)), (1, .int (nI all)), (2, .int ((nI (ldN (B 501) all u)) ||| ((nI 1) <<< ((nI u) &&& 31)))), (3, .int (nI u)), (4, .int (bI (fsV (B 501) all u u))), (5, .int (nI v))]) (st' := []) rfl ?_
                  refine S_lveq (lv' := [(0, .ref (ad 500)), (1, .int (nI all)), (2, .int (nI (ldN (B 501) all (u + 1)))), (3, .int (nI u)), (4, .int (bI (fsV (B 501) all u u))), (5, .int (nI v))]) (by rw [(show (nI (ldN (B 501) all u)) ||| ((nI 1) <<< ((nI u) &&& 31)) = nI (ldN (B 501) all (u + 1)) from by rw [ldN, if_pos qz81, ← nI_or, ← i1_nI (by omega)]).symm]) ?_
                  refine S_n g 1 (pc' := 96) (lv' := [(0, .ref (ad 500)), (1, .int (nI all)), (2, .int (nI (ldN (B 501) all (u + 1)))), (3, .int ((nI u) + nI 1)), (4, .int (bI (fsV (B 501) all u u))), (5, .int (nI v))]) (st' := []) rfl ?_
                  rw [nI_add u 1]
                  refine S_n g 1 (pc' := 4) (lv' := [(0, .ref (ad 500)), (1, .int (nI all)), (2, .int (nI (ldN (B 501) all (u + 1)))), (3, .int (nI (u + 1))), (4, .int (bI (fsV (B 501) all u u))), (5, .int (nI v))]) (st' := []) rfl ?_
                  refine S_keep (lv' := [(0, .ref (ad 500)), (1, .int (nI all)), (2, .int (nI (ldN (B 501) all (u + 1)))), (3, .int (nI (u + 1)))]) [0, 1, 2, 3] rfl ?_
                  exact lp (nu - (u + 1)) (by omega) (u + 1) rfl (by omega)
              · skip
                refine S_n g 1 (pc' := 39) (lv' := [(0, .ref (ad 500)), (1, .int (nI all)), (2, .int (nI (ldN (B 501) all u))), (3, .int (nI u)), (4, .int (bI (fsV (B 501) all u v))), (5, .int (nI v))]) (st' := [.int (bI (fsV (B 501) all u v))]) rfl ?_
                refine S_ifB_eq g (tgt := 69) rfl (by decide) (fun qz39 => ?_) (fun qz39 => ?_)
                · skip
                  refine S_n g 2 (pc' := 72) (lv' := [(0, .ref (ad 500)), (1, .int (nI all)), (2, .int (nI (ldN (B 501) all u))), (3, .int (nI u)), (4, .int (nI 0)), (5, .int (nI v))]) (st' := []) rfl ?_
                  refine S_lveq (lv' := [(0, .ref (ad 500)), (1, .int (nI all)), (2, .int (nI (ldN (B 501) all u))), (3, .int (nI u)), (4, .int (bI (fsV (B 501) all u (v + 1)))), (5, .int (nI v))]) (by rw [(show nI 0 = bI (fsV (B 501) all u (v + 1)) from by simp_all [fsV, bI]).symm]) ?_
                  refine S_n g 1 (pc' := 75) (lv' := [(0, .ref (ad 500)), (1, .int (nI all)), (2, .int (nI (ldN (B 501) all u))), (3, .int (nI u)), (4, .int (bI (fsV (B 501) all u (v + 1)))), (5, .int ((nI v) + nI 1))]) (st' := []) rfl ?_
                  rw [nI_add v 1]
                  refine S_n g 1 (pc' := 31) (lv' := [(0, .ref (ad 500)), (1, .int (nI all)), (2, .int (nI (ldN (B 501) all u))), (3, .int (nI u)), (4, .int (bI (fsV (B 501) all u (v + 1)))), (5, .int (nI (v + 1)))]) (st' := []) rfl ?_
                  exact lp2 (u - (v + 1)) (by omega) (v + 1) rfl (by omega)
                · skip
                  refine S_n g 1 (pc' := 43) (lv' := [(0, .ref (ad 500)), (1, .int (nI all)), (2, .int (nI (ldN (B 501) all u))), (3, .int (nI u)), (4, .int (bI (fsV (B 501) all u v))), (5, .int (nI v))]) (st' := [.ref (ad 500)]) rfl ?_
                  refine S_getR g (i := 500) (c := 9) (k := 0) (j := 501) (by decide) (by decide) rfl rfl rfl fl_X9_7 rfl ?_
                  refine S_n g 3 (pc' := 51) (lv' := [(0, .ref (ad 500)), (1, .int (nI all)), (2, .int (nI (ldN (B 501) all u))), (3, .int (nI u)), (4, .int (bI (fsV (B 501) all u v))), (5, .int (nI v))]) (st' := [.int ((nI 69) + (nI v)), .ref (ad 501)]) rfl ?_
                  rw [nI_add 69 v]
                  refine S_laldN g (i := 501) (e := 69 + v) (by decide) rfl (show 69 + v < 621 from by omega) (show (621 : Nat) < 2 ^ 31 from by decide) rfl ?_
                  refine S_n g 1 (pc' := 53) (lv' := [(0, .ref (ad 500)), (1, .int (nI all)), (2, .int (nI (ldN (B 501) all u))), (3, .int (nI u)), (4, .int (bI (fsV (B 501) all u v))), (5, .int (nI v))]) (st' := [.ref (ad 500), .long (B 501 (69 + v))]) rfl ?_
                  refine S_getR g (i := 500) (c := 9) (k := 0) (j := 501) (by decide) (by decide) rfl rfl rfl fl_X9_7 rfl ?_
                  refine S_n g 3 (pc' := 60) (lv' := [(0, .ref (ad 500)), (1, .int (nI all)), (2, .int (nI (ldN (B 501) all u))), (3, .int (nI u)), (4, .int (bI (fsV (B 501) all u v))), (5, .int (nI v))]) (st' := [.int ((nI 69) + (nI u)), .ref (ad 501), .long (B 501 (69 + v))]) rfl ?_
                  rw [nI_add 69 u]
                  refine S_laldN g (i := 501) (e := 69 + u) (by decide) rfl (show 69 + u < 621 from by omega) (show (621 : Nat) < 2 ^ 31 from by decide) rfl ?_
                  refine S_lc_eq g (tgt := 69) rfl rfl (by decide) (fun qz61 => ?_) (fun qz61 => ?_)
                  · skip
                    refine S_n g 2 (pc' := 72) (lv' := [(0, .ref (ad 500)), (1, .int (nI all)), (2, .int (nI (ldN (B 501) all u))), (3, .int (nI u)), (4, .int (nI 0)), (5, .int (nI v))]) (st' := []) rfl ?_
                    refine S_lveq (lv' := [(0, .ref (ad 500)), (1, .int (nI all)), (2, .int (nI (ldN (B 501) all u))), (3, .int (nI u)), (4, .int (bI (fsV (B 501) all u (v + 1)))), (5, .int (nI v))]) (by rw [(show nI 0 = bI (fsV (B 501) all u (v + 1)) from by simp_all [fsV, bI]).symm]) ?_
                    refine S_n g 1 (pc' := 75) (lv' := [(0, .ref (ad 500)), (1, .int (nI all)), (2, .int (nI (ldN (B 501) all u))), (3, .int (nI u)), (4, .int (bI (fsV (B 501) all u (v + 1)))), (5, .int ((nI v) + nI 1))]) (st' := []) rfl ?_
                    rw [nI_add v 1]
                    refine S_n g 1 (pc' := 31) (lv' := [(0, .ref (ad 500)), (1, .int (nI all)), (2, .int (nI (ldN (B 501) all u))), (3, .int (nI u)), (4, .int (bI (fsV (B 501) all u (v + 1)))), (5, .int (nI (v + 1)))]) (st' := []) rfl ?_
                    exact lp2 (u - (v + 1)) (by omega) (v + 1) rfl (by omega)
                  · skip
                    refine S_n g 3 (pc' := 72) (lv' := [(0, .ref (ad 500)), (1, .int (nI all)), (2, .int (nI (ldN (B 501) all u))), (3, .int (nI u)), (4, .int (nI 1)), (5, .int (nI v))]) (st' := []) rfl ?_
                    refine S_lveq (lv' := [(0, .ref (ad 500)), (1, .int (nI all)), (2, .int (nI (ldN (B 501) all u))), (3, .int (nI u)), (4, .int (bI (fsV (B 501) all u (v + 1)))), (5, .int (nI v))]) (by rw [(show nI 1 = bI (fsV (B 501) all u (v + 1)) from by simp_all [fsV, bI]).symm]) ?_
                    refine S_n g 1 (pc' := 75) (lv' := [(0, .ref (ad 500)), (1, .int (nI all)), (2, .int (nI (ldN (B 501) all u))), (3, .int (nI u)), (4, .int (bI (fsV (B 501) all u (v + 1)))), (5, .int ((nI v) + nI 1))]) (st' := []) rfl ?_
                    rw [nI_add v 1]
                    refine S_n g 1 (pc' := 31) (lv' := [(0, .ref (ad 500)), (1, .int (nI all)), (2, .int (nI (ldN (B 501) all u))), (3, .int (nI u)), (4, .int (bI (fsV (B 501) all u (v + 1)))), (5, .int (nI (v + 1)))]) (st' := []) rfl ?_
                    exact lp2 (u - (v + 1)) (by omega) (v + 1) rfl (by omega)
          exact lp2 _ 0 rfl (by omega)
  exact lp _ 0 rfl (by omega)

/-- sets T of z users below s, all of them in all and one in ld: their sums -/
def siL (m lk : Nat → Int64) (all ld nf nu z : Nat) : Nat → List Int64
  | 0 => []
  | s + 1 => if 0 < s ∧ ctb (lN s) 60 = z ∧ sdf s all = 0 ∧ s &&& ld ≠ 0 then siL m lk all ld nf nu z s ++ sbL m lk all nf nu s 12 else siL m lk all ld nf nu z s
/-- the k greatest sizes, from nu downwards -/
def soL (m lk : Nat → Int64) (all ld nf nu : Nat) : Nat → List Int64
  | 0 => []
  | k + 1 => soL m lk all ld nf nu k ++ siL m lk all ld nf nu (nu - k) (2 ^ nu)

set_option maxRecDepth 100000 in
set_option maxHeartbeats 4000000 in
theorem sp_subsets (ad : Nat → Nat) (I : FI) (J : FJ) (A : FI) (B : FJ) (m0 : Nat → Int64) (all ld nf nu : Nat) (hF : m0 0 = lN nf) (hU : m0 1 = lN nu) (h1 : nf ≤ 5) (h2 : nu ≤ 6) (hal : all < 64) (hld : ld < 64) (hbd : ∀ k s, k < nu → s ≤ 2 ^ nu → (soL m0 (B 509) all ld nf nu k ++ siL m0 (B 509) all ld nf nu (nu - k) s).length ≤ 88) : Spec M_X9_subsets [.ref (ad 500), .int (nI all), .int (nI ld)] (YR ad) I J A (va_up B 501 (qL m0 ([]))) (eqP none (YR ad) I J A (va_up B 501 (qL m0 (soL m0 (B 509) all ld nf nu nu)))) := by
  have hpw : 2 ^ nu ≤ 64 := Nat.pow_le_pow_right (by decide) h2
  refine Spec_of (by decide) tk_X9_subsets (Nat.le_of_ble_eq_true rfl) (fun X g rt => ?_)
  show Sim X (YR ad) 0 [(0, .ref (ad 500)), (1, .int (nI all)), (2, .int (nI ld))] [] I J A (va_up B 501 (qL m0 ([]))) 0 0
  refine S_n g 1 (pc' := 1) (lv' := [(0, .ref (ad 500)), (1, .int (nI all)), (2, .int (nI ld))]) (st' := [.ref (ad 500)]) rfl ?_
  refine S_cV g (i := 500) (As := []) (st := []) (sp_users ad I J A (va_up B 501 (qL m0 ([]))) nu ((qL_lo m0 (by decide) (by decide)).trans hU)) mw_X9_users lk_X9_71 ⟨Nat.le_of_ble_eq_true rfl, Nat.le_of_ble_eq_true rfl⟩ (by decide) (by decide) rfl rfl (Nat.le_of_ble_eq_true rfl) ⟨Nat.le_of_ble_eq_true rfl, Nat.le_of_ble_eq_true rfl⟩ rfl ?_
  show Sim X (YR ad) 4 [(0, .ref (ad 500)), (1, .int (nI all)), (2, .int (nI ld))] [.int (nI nu)] I J A (va_up B 501 (qL m0 ([]))) 0 0
  refine S_n g 1 (pc' := 5) (lv' := [(0, .ref (ad 500)), (1, .int (nI all)), (2, .int (nI ld)), (3, .int (nI nu))]) (st' := []) rfl ?_
  have lp : ∀ (nn : Nat) (z : Nat), z = nn → (z ≤ nu) → Sim X (YR ad) 5 [(0, .ref (ad 500)), (1, .int (nI all)), (2, .int (nI ld)), (3, .int (nI z))] [] I J A (va_up B 501 (qL m0 (soL m0 (B 509) all ld nf nu (nu - z)))) 0 0 := by
    intro nn
    induction nn using Nat.strongRecOn with
    | ind nn ih =>
      intro z hmz hz
      have lp := ih
      refine S_n g 1 (pc' := 6) (lv' := [(0, .ref (ad 500)), (1, .int (nI all)), (2, .int (nI ld)), (3, .int (nI z))]) (st' := [.int (nI z)]) rfl ?_
      refine S_ifN_le g (tgt := 68) (by omega) rfl (by decide) (fun qz6 => ?_) (fun qz6 => ?_)
      · skip
        have hz9 : nu - z = nu := by omega
        exact rtV rt rfl rfl (by rw [hz9]; exact eqP_rf)
      · skip
        have hbz := hbd (nu - z)
        rw [show nu - (nu - z) = z from by omega] at hbz
        refine S_n g 2 (pc' := 12) (lv' := [(0, .ref (ad 500)), (1, .int (nI all)), (2, .int (nI ld)), (3, .int (nI z)), (4, .int (nI 1))]) (st' := []) rfl ?_
        have lp2 : ∀ (nn : Nat) (s : Nat), 2 ^ nu - s = nn → (1 ≤ s) → (s ≤ 2 ^ nu) → Sim X (YR ad) 12 [(0, .ref (ad 500)), (1, .int (nI all)), (2, .int (nI ld)), (3, .int (nI z)), (4, .int (nI s))] [] I J A (va_up B 501 (qL m0 (soL m0 (B 509) all ld nf nu (nu - z) ++ siL m0 (B 509) all ld nf nu z s))) 0 0 := by
          intro nn
          induction nn using Nat.strongRecOn with
          | ind nn ih =>
            intro s hmz hs1 hs2
            have lp2 := ih
            have hl8 : (soL m0 (B 509) all ld nf nu (nu - z) ++ siL m0 (B 509) all ld nf nu z s).length ≤ 88 := hbz s (by omega) (by omega)
            have hl9 : (soL m0 (B 509) all ld nf nu (nu - z) ++ siL m0 (B 509) all ld nf nu z s).length ≤ 100 := by omega
            refine S_n g 3 (pc' := 16) (lv' := [(0, .ref (ad 500)), (1, .int (nI all)), (2, .int (nI ld)), (3, .int (nI z)), (4, .int (nI s))]) (st' := [.ref (ad 500), .int (nI 1), .int (nI s)]) rfl ?_
            refine S_cV g (i := 500) (As := []) (st := [.int (nI 1), .int (nI s)]) (sp_users ad I J A (va_up B 501 (qL m0 (soL m0 (B 509) all ld nf nu (nu - z) ++ siL m0 (B 509) all ld nf nu z s))) nu ((qL_lo m0 hl9 (by decide)).trans hU)) mw_X9_users lk_X9_71 ⟨Nat.le_of_ble_eq_true rfl, Nat.le_of_ble_eq_true rfl⟩ (by decide) (by decide) rfl rfl (Nat.le_of_ble_eq_true rfl) ⟨Nat.le_of_ble_eq_true rfl, Nat.le_of_ble_eq_true rfl⟩ rfl ?_
            show Sim X (YR ad) 19 [(0, .ref (ad 500)), (1, .int (nI all)), (2, .int (nI ld)), (3, .int (nI z)), (4, .int (nI s))] [.int (nI nu), .int (nI 1), .int (nI s)] I J A (va_up B 501 (qL m0 (soL m0 (B 509) all ld nf nu (nu - z) ++ siL m0 (B 509) all ld nf nu z s))) 0 0
            refine S_n g 1 (pc' := 20) (lv' := [(0, .ref (ad 500)), (1, .int (nI all)), (2, .int (nI ld)), (3, .int (nI z)), (4, .int (nI s))]) (st' := [.int ((nI 1) <<< ((nI nu) &&& 31)), .int (nI s)]) rfl ?_
            refine S_steq (st' := [.int (nI (2 ^ nu)), .int (nI s)]) (by rw [(show (nI 1) <<< ((nI nu) &&& 31) = nI (2 ^ nu) from i1_nI (by omega)).symm]) ?_
            refine S_icN_ge g (tgt := 62) (by omega) (by omega) rfl (by decide) (fun qz20 => ?_) (fun qz20 => ?_)
            · skip
              have hs9 : s = 2 ^ nu := by omega
              have hso : soL m0 (B 509) all ld nf nu (nu - (z - 1)) = soL m0 (B 509) all ld nf nu (nu - z) ++ siL m0 (B 509) all ld nf nu z s := by rw [show nu - (z - 1) = (nu - z) + 1 from by omega, soL, show nu - (nu - z) = z from by omega, hs9]
              rw [← hso]
              refine S_n g 1 (pc' := 65) (lv' := [(0, .ref (ad 500)), (1, .int (nI all)), (2, .int (nI ld)), (3, .int ((nI z) + -nI 1)), (4, .int (nI s))]) (st' := []) rfl ?_
              rw [iinc_neg (a := z) (b := 1) (by omega)]
              refine S_n g 1 (pc' := 5) (lv' := [(0, .ref (ad 500)), (1, .int (nI all)), (2, .int (nI ld)), (3, .int (nI (z - 1))), (4, .int (nI s))]) (st' := []) rfl ?_
              refine S_keep (lv' := [(0, .ref (ad 500)), (1, .int (nI all)), (2, .int (nI ld)), (3, .int (nI (z - 1)))]) [0, 1, 2, 3] rfl ?_
              exact lp (z - 1) (by omega) (z - 1) rfl (by omega)
            · skip
              have hct := ctb_le (lN s) 60
              refine S_n g 2 (pc' := 26) (lv' := [(0, .ref (ad 500)), (1, .int (nI all)), (2, .int (nI ld)), (3, .int (nI z)), (4, .int (nI s))]) (st' := [.long (nI s).toInt64]) rfl ?_
              rw [nI_l (n := s) (by omega)]
              refine S_cS g (As := [.long (lN s)]) (st := []) (sp_many (YR ad) I J A (va_up B 501 (qL m0 (soL m0 (B 509) all ld nf nu (nu - z) ++ siL m0 (B 509) all ld nf nu z s))) (lN s)) mw_X9_many lk_X9_91 ⟨Nat.le_of_ble_eq_true rfl, Nat.le_of_ble_eq_true rfl⟩ rfl (Nat.le_of_ble_eq_true rfl) ⟨Nat.le_of_ble_eq_true rfl, Nat.le_of_ble_eq_true rfl⟩ rfl ?_
              show Sim X (YR ad) 29 [(0, .ref (ad 500)), (1, .int (nI all)), (2, .int (nI ld)), (3, .int (nI z)), (4, .int (nI s))] [.int (nI (ctb (lN s) 60))] I J A (va_up B 501 (qL m0 (soL m0 (B 509) all ld nf nu (nu - z) ++ siL m0 (B 509) all ld nf nu z s))) 0 0
              refine S_n g 1 (pc' := 30) (lv' := [(0, .ref (ad 500)), (1, .int (nI all)), (2, .int (nI ld)), (3, .int (nI z)), (4, .int (nI s))]) (st' := [.int (nI z), .int (nI (ctb (lN s) 60))]) rfl ?_
              refine S_icN_ne g (tgt := 56) (by omega) (by omega) rfl (by decide) (fun qz30 => ?_) (fun qz30 => ?_)
              · skip
                have hsi : siL m0 (B 509) all ld nf nu z (s + 1) = siL m0 (B 509) all ld nf nu z s := by rw [siL, if_neg (fun q => absurd q.2.1 (by omega))]
                rw [← hsi]
                refine S_n g 1 (pc' := 59) (lv' := [(0, .ref (ad 500)), (1, .int (nI all)), (2, .int (nI ld)), (3, .int (nI z)), (4, .int ((nI s) + nI 1))]) (st' := []) rfl ?_
                rw [nI_add s 1]
                refine S_n g 1 (pc' := 12) (lv' := [(0, .ref (ad 500)), (1, .int (nI all)), (2, .int (nI ld)), (3, .int (nI z)), (4, .int (nI (s + 1)))]) (st' := []) rfl ?_
                exact lp2 (2 ^ nu - (s + 1)) (by omega) (s + 1) rfl (by omega) (by omega)
              · skip
                refine S_n g 5 (pc' := 39) (lv' := [(0, .ref (ad 500)), (1, .int (nI all)), (2, .int (nI ld)), (3, .int (nI z)), (4, .int (nI s))]) (st' := [.int ((nI s) &&& ((nI all) ^^^ (-nI 1)))]) rfl ?_
                refine S_steq (st' := [.int (nI (sdf s all))]) (by rw [(show (nI s) &&& ((nI all) ^^^ (-nI 1)) = nI (sdf s all) from nI_sdf (by omega)).symm]) ?_
                have hsl : sdf s all < 64 := sdf_lt (by omega)
                refine S_ifN_ne g (tgt := 56) (by omega) rfl (by decide) (fun qz39 => ?_) (fun qz39 => ?_)
                · skip
                  have hsi : siL m0 (B 509) all ld nf nu z (s + 1) = siL m0 (B 509) all ld nf nu z s := by rw [siL, if_neg (fun q => absurd q.2.2.1 (by omega))]
                  rw [← hsi]
                  refine S_n g 1 (pc' := 59) (lv' := [(0, .ref (ad 500)), (1, .int (nI all)), (2, .int (nI ld)), (3, .int (nI z)), (4, .int ((nI s) + nI 1))]) (st' := []) rfl ?_
                  rw [nI_add s 1]
                  refine S_n g 1 (pc' := 12) (lv' := [(0, .ref (ad 500)), (1, .int (nI all)), (2, .int (nI ld)), (3, .int (nI z)), (4, .int (nI (s + 1)))]) (st' := []) rfl ?_
                  exact lp2 (2 ^ nu - (s + 1)) (by omega) (s + 1) rfl (by omega) (by omega)
                · skip
                  refine S_n g 3 (pc' := 46) (lv' := [(0, .ref (ad 500)), (1, .int (nI all)), (2, .int (nI ld)), (3, .int (nI z)), (4, .int (nI s))]) (st' := [.int ((nI s) &&& (nI ld))]) rfl ?_
                  refine S_steq (st' := [.int (nI (s &&& ld))]) (by rw [(show (nI s) &&& (nI ld) = nI (s &&& ld) from nI_and s ld).symm]) ?_
                  have hal2 : s &&& ld ≤ s := Nat.and_le_left
                  refine S_ifN_eq g (tgt := 56) (by omega) rfl (by decide) (fun qz46 => ?_) (fun qz46 => ?_)
                  · skip
                    have hsi : siL m0 (B 509) all ld nf nu z (s + 1) = siL m0 (B 509) all ld nf nu z s := by rw [siL, if_neg (fun q => absurd q.2.2.2 (by omega))]
                    rw [← hsi]
                    refine S_n g 1 (pc' := 59) (lv' := [(0, .ref (ad 500)), (1, .int (nI all)), (2, .int (nI ld)), (3, .int (nI z)), (4, .int ((nI s) + nI 1))]) (st' := []) rfl ?_
                    rw [nI_add s 1]
                    refine S_n g 1 (pc' := 12) (lv' := [(0, .ref (ad 500)), (1, .int (nI all)), (2, .int (nI ld)), (3, .int (nI z)), (4, .int (nI (s + 1)))]) (st' := []) rfl ?_
                    exact lp2 (2 ^ nu - (s + 1)) (by omega) (s + 1) rfl (by omega) (by omega)
                  · skip
                    refine S_n g 3 (pc' := 53) (lv' := [(0, .ref (ad 500)), (1, .int (nI all)), (2, .int (nI ld)), (3, .int (nI z)), (4, .int (nI s))]) (st' := [.int (nI all), .int (nI s), .ref (ad 500)]) rfl ?_
                    refine S_cV g (i := 500) (As := [.int (nI s), .int (nI all)]) (st := []) (sp_subset ad I J A B m0 (soL m0 (B 509) all ld nf nu (nu - z) ++ siL m0 (B 509) all ld nf nu z s) s all nf nu hF hU h1 h2 hal (by omega) hl8) mw_X9_subset lk_X9_189 ⟨Nat.le_of_ble_eq_true rfl, Nat.le_of_ble_eq_true rfl⟩ (by decide) (by decide) rfl rfl (Nat.le_of_ble_eq_true rfl) ⟨Nat.le_of_ble_eq_true rfl, Nat.le_of_ble_eq_true rfl⟩ rfl ?_
                    have hsi : siL m0 (B 509) all ld nf nu z (s + 1) = siL m0 (B 509) all ld nf nu z s ++ sbL m0 (B 509) all nf nu s 12 := by rw [siL, if_pos ⟨by omega, by omega, by omega, by omega⟩]
                    rw [List.append_assoc, ← hsi]
                    show Sim X (YR ad) 56 [(0, .ref (ad 500)), (1, .int (nI all)), (2, .int (nI ld)), (3, .int (nI z)), (4, .int (nI s))] [] I J A (va_up B 501 (qL m0 (soL m0 (B 509) all ld nf nu (nu - z) ++ siL m0 (B 509) all ld nf nu z (s + 1)))) 0 0
                    refine S_n g 1 (pc' := 59) (lv' := [(0, .ref (ad 500)), (1, .int (nI all)), (2, .int (nI ld)), (3, .int (nI z)), (4, .int ((nI s) + nI 1))]) (st' := []) rfl ?_
                    rw [nI_add s 1]
                    refine S_n g 1 (pc' := 12) (lv' := [(0, .ref (ad 500)), (1, .int (nI all)), (2, .int (nI ld)), (3, .int (nI z)), (4, .int (nI (s + 1)))]) (st' := []) rfl ?_
                    exact lp2 (2 ^ nu - (s + 1)) (by omega) (s + 1) rfl (by omega) (by omega)
        have h0 := lp2 _ 1 rfl (by omega) (Nat.one_le_two_pow)
        have e0 : siL m0 (B 509) all ld nf nu z 1 = [] := by rw [siL, if_neg (fun q => absurd q.1 (by decide))]; rfl
        rw [e0, List.append_nil] at h0
        exact h0
  have h0 := lp _ nu rfl (by omega)
  have e0 : soL m0 (B 509) all ld nf nu (nu - nu) = [] := by rw [Nat.sub_self]; rfl
  rw [e0] at h0
  exact h0
