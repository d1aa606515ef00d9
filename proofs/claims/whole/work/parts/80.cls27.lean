/-! the class: schedules by sets of users -/
theorem lsF_0 {m lk : Nat → Int64} {all nu u T i : Nat} : ∀ n, lct m lk all nu u T n ≤ i → lsF m lk all nu u T i n = 0
  | 0, _ => rfl
  | n + 1, h => by
    rw [lct] at h
    rw [lsF]
    by_cases q : lmt m lk all nu u T n = true
    · rw [q] at h
      rw [if_neg (fun x => by have := x.2; have e : true.toNat = 1 := rfl; omega)]
      exact lsF_0 n (by have e : true.toNat = 1 := rfl; omega)
    · rw [if_neg (fun x => q x.1)]
      exact lsF_0 n (by omega)
theorem lsF_p {m lk : Nat → Int64} {all nu u T i : Nat} : ∀ n, i < lct m lk all nu u T n → lsF m lk all nu u T i n ≠ 0
  | 0, h => absurd h (Nat.not_lt_zero i)
  | n + 1, h => by
    rw [lct] at h
    rw [lsF]
    by_cases q : lmt m lk all nu u T n = true ∧ lct m lk all nu u T n = i
    · rw [if_pos q]; omega
    · rw [if_neg q]
      apply lsF_p n
      cases w : lmt m lk all nu u T n
      · rw [w] at h; have e : false.toNat = 0 := rfl; omega
      · rw [w] at h
        have e : true.toNat = 1 := rfl
        have : lct m lk all nu u T n ≠ i := fun z => q ⟨w, z⟩
        omega
theorem lct_z {m lk : Nat → Int64} {all nu u T N : Nat} : ∀ n, n ≤ N → (∀ p, p < N → tb (lk u) p = false) → lct m lk all nu u T n = 0
  | 0, _, _ => rfl
  | n + 1, hn, h => by
    rw [lct, lct_z n (by omega) h]
    unfold lmt
    rw [h n (by omega)]; rfl
theorem lct_c {m lk : Nat → Int64} {all nu u T N : Nat} (h : ∀ p, N ≤ p → tb (lk u) p = false) : ∀ n, N ≤ n → lct m lk all nu u T n = lct m lk all nu u T N
  | 0, hn => by rw [show N = 0 by omega]
  | n + 1, hn => by
    by_cases e : N = n + 1
    · rw [e]
    · rw [lct, lct_c h n (by omega)]
      unfold lmt
      rw [h n (by omega)]; rfl
theorem lsF_c {m lk : Nat → Int64} {all nu u T i N : Nat} (h : ∀ p, N ≤ p → tb (lk u) p = false) : ∀ n, N ≤ n → lsF m lk all nu u T i n = lsF m lk all nu u T i N
  | 0, hn => by rw [show N = 0 by omega]
  | n + 1, hn => by
    by_cases e : N = n + 1
    · rw [e]
    · have : lmt m lk all nu u T n = false := by unfold lmt; rw [h n (by omega)]; rfl
      rw [lsF, if_neg (fun x => by rw [this] at x; exact absurd x.1 (by decide)), lsF_c h n (by omega)]
theorem lmt_t {m lk : Nat → Int64} {all nu u T p : Nat} (h1 : tb (lk u) p = true) (h2 : hdN m all p nu = sdf T (2 ^ u)) : lmt m lk all nu u T p = true := by unfold lmt; rw [h1, decide_eq_true h2]; rfl
theorem lmt_f1 {m lk : Nat → Int64} {all nu u T p : Nat} (h1 : tb (lk u) p = false) : lmt m lk all nu u T p = false := by unfold lmt; rw [h1]; rfl
theorem lmt_f2 {m lk : Nat → Int64} {all nu u T p : Nat} (h2 : hdN m all p nu ≠ sdf T (2 ^ u)) : lmt m lk all nu u T p = false := by unfold lmt; rw [decide_eq_false h2, Bool.and_false]
theorem lct_n {m lk : Nat → Int64} {all nu u T p : Nat} (h : lmt m lk all nu u T p = false) : lct m lk all nu u T (p + 1) = lct m lk all nu u T p := by rw [lct, h]; rfl
theorem lsF_n {m lk : Nat → Int64} {all nu u T i p : Nat} (h : lmt m lk all nu u T p = false) : lsF m lk all nu u T i (p + 1) = lsF m lk all nu u T i p := by rw [lsF, if_neg (fun x => by rw [h] at x; exact absurd x.1 (by decide))]
theorem lct_y {m lk : Nat → Int64} {all nu u T p : Nat} (h : lmt m lk all nu u T p = true) : lct m lk all nu u T (p + 1) = lct m lk all nu u T p + 1 := by rw [lct, h]; rfl

set_option maxRecDepth 100000 in
set_option maxHeartbeats 4000000 in
theorem s_spread (ad : Nat → Nat) (z0 z1 : Bool) (I : FI) (J : FJ) (A : FI) (B : FJ) (m lk : Nat → Int64) (nf nu u T f : Nat) (h2 : nf ≤ 5) (h4 : nu ≤ 6) (hu : u < nu) (hT : T < 64) (hf : f < nf) (hlk : okL lk m nf nu) (hmf : m (69 + u) = lN f) (hB7 : B 7 u = lk u) (hA8 : ∀ p, p < 60 → A 8 p = nI (hdN m (dmN m nu) p nu)) : Spec M_X5_spreadPieces [.ref (ad 6), .int (nI u), .int (nI f), .int (nI (sdf T (2 ^ u)))] (YC ad z0 z1) I J A B (fun v' Y' I' J' A' B' => v' = some (.int (nI (lct m lk (dmN m nu) nu u T (12 * nf)))) ∧ Y' = YC ad z0 z1 ∧ I' = I ∧ J' = J ∧ A' = A ∧ ∃ r, B' = va_up B 9 r ∧ ∀ i, i < 12 → r i = B 9 i ||| pbit (lsF m lk (dmN m nu) nu u T i (12 * nf))) := by
  have hin : ∀ p, tb (lk u) p = true → 12 * f ≤ p ∧ p < 12 * f + 12 := fun p hp => by
    obtain ⟨f2, a1, a2, a3, a4⟩ := hlk u hu p hp
    rw [hmf] at a2
    have e := congrArg gN a2
    rw [gN_lN (by omega), gN_lN (by omega)] at e
    omega
  have hlo : ∀ p, p < 12 * f → tb (lk u) p = false := fun p hp => by cases hb : tb (lk u) p; (· rfl); (· have := hin p hb; omega)
  have hhi : ∀ p, 12 * f + 12 ≤ p → tb (lk u) p = false := fun p hp => by cases hb : tb (lk u) p; (· rfl); (· have := hin p hb; omega)
  have hs64 := sdf_lt (a := 2 ^ u) hT
  refine Spec_of (by decide) tk_X5_spreadPieces (Nat.le_of_ble_eq_true rfl) (fun X g rt => ?_)
  show Sim X (YC ad z0 z1) 0 [(0, .ref (ad 6)), (1, .int (nI u)), (2, .int (nI f)), (3, .int (nI (sdf T (2 ^ u))))] [] I J A B 0 0
  refine S_n g 1 (pc' := 1) (lv' := [(0, .ref (ad 6)), (1, .int (nI u)), (2, .int (nI f)), (3, .int (nI (sdf T (2 ^ u))))]) (st' := [.int (nI f)]) rfl ?_
  refine S_ifN_lt g (tgt := 9) (by omega) rfl (by decide) ?_
  refine S_n g 2 (pc' := 6) (lv' := [(0, .ref (ad 6)), (1, .int (nI u)), (2, .int (nI f)), (3, .int (nI (sdf T (2 ^ u))))]) (st' := [.int (nI 5), .int (nI f)]) rfl ?_
  refine S_icN_lt g (tgt := 11) (by omega) (by omega) rfl (by decide) (fun qz6 => ?_) (fun qz6 => ?_)
  · skip
    refine S_n g 5 (pc' := 18) (lv' := [(0, .ref (ad 6)), (1, .int (nI u)), (2, .int (nI f)), (3, .int (nI (sdf T (2 ^ u)))), (4, .int (nI 0))]) (st' := [.int ((nI 12) * (nI f))]) rfl ?_
    rw [pk_mul 12 f]
    refine S_n g 1 (pc' := 20) (lv' := [(0, .ref (ad 6)), (1, .int (nI u)), (2, .int (nI f)), (3, .int (nI (sdf T (2 ^ u)))), (4, .int (nI 0)), (5, .int (nI (12 * f)))]) (st' := []) rfl ?_
    refine S_lveq (lv' := [(0, .ref (ad 6)), (1, .int (nI u)), (2, .int (nI f)), (3, .int (nI (sdf T (2 ^ u)))), (4, .int (nI (lct m lk (dmN m nu) nu u T (12 * f)))), (5, .int (nI (12 * f)))]) (by rw [(show nI 0 = nI (lct m lk (dmN m nu) nu u T (12 * f)) from by rw [lct_z (12 * f) (Nat.le_refl _) hlo]).symm]) ?_
    have lp : ∀ (nn : Nat) (p : Nat) (r : Nat → Int64), 12 * f + 12 - p = nn → (12 * f ≤ p) → (p ≤ 12 * f + 12) → (lct m lk (dmN m nu) nu u T p ≤ p - 12 * f) → (∀ i, i < 12 → r i = B 9 i ||| pbit (lsF m lk (dmN m nu) nu u T i p)) → Sim X (YC ad z0 z1) 20 [(0, .ref (ad 6)), (1, .int (nI u)), (2, .int (nI f)), (3, .int (nI (sdf T (2 ^ u)))), (4, .int (nI (lct m lk (dmN m nu) nu u T p))), (5, .int (nI p))] [] I J A (va_up B 9 r) 0 0 := by
      intro nn
      induction nn using Nat.strongRecOn with
      | ind nn ih =>
        intro p r hmz hp1 hp2 hlc hr
        have lp := ih
        refine S_n g 5 (pc' := 27) (lv' := [(0, .ref (ad 6)), (1, .int (nI u)), (2, .int (nI f)), (3, .int (nI (sdf T (2 ^ u)))), (4, .int (nI (lct m lk (dmN m nu) nu u T p))), (5, .int (nI p))]) (st' := [.int ((nI f) + (nI 1)), .int (nI 12), .int (nI p)]) rfl ?_
        rw [nI_add f 1]
        refine S_n g 1 (pc' := 28) (lv' := [(0, .ref (ad 6)), (1, .int (nI u)), (2, .int (nI f)), (3, .int (nI (sdf T (2 ^ u)))), (4, .int (nI (lct m lk (dmN m nu) nu u T p))), (5, .int (nI p))]) (st' := [.int ((nI 12) * (nI (f + 1))), .int (nI p)]) rfl ?_
        rw [pk_mul 12 (f + 1)]
        refine S_icN_ge g (tgt := 81) (by omega) (by omega) rfl (by decide) (fun qz28 => ?_) (fun qz28 => ?_)
        · skip
          have hp9 : p = 12 * f + 12 := by omega
          subst hp9
          refine S_n g 1 (pc' := 83) (lv' := [(0, .ref (ad 6)), (1, .int (nI u)), (2, .int (nI f)), (3, .int (nI (sdf T (2 ^ u)))), (4, .int (nI (lct m lk (dmN m nu) nu u T (12 * f + 12)))), (5, .int (nI (12 * f + 12)))]) (st' := [.int (nI (lct m lk (dmN m nu) nu u T (12 * f + 12)))]) rfl ?_
          exact rtI rt rfl rfl (⟨by rw [lct_c hhi (12 * nf) (by omega)], rfl, rfl, rfl, rfl, r, rfl, fun i hi => by rw [lsF_c hhi (12 * nf) (by omega)]; exact hr i hi⟩)
        · skip
          have hh64 := hdN_lt m (dmN m nu) p nu h4
          refine S_n g 1 (pc' := 32) (lv' := [(0, .ref (ad 6)), (1, .int (nI u)), (2, .int (nI f)), (3, .int (nI (sdf T (2 ^ u)))), (4, .int (nI (lct m lk (dmN m nu) nu u T p))), (5, .int (nI p))]) (st' := [.ref (ad 6)]) rfl ?_
          refine S_getR g (i := 6) (c := 5) (k := 0) (j := 7) (by decide) (by decide) rfl rfl rfl fl_X5_9 rfl ?_
          refine S_n g 1 (pc' := 36) (lv' := [(0, .ref (ad 6)), (1, .int (nI u)), (2, .int (nI f)), (3, .int (nI (sdf T (2 ^ u)))), (4, .int (nI (lct m lk (dmN m nu) nu u T p))), (5, .int (nI p))]) (st' := [.int (nI u), .ref (ad 7)]) rfl ?_
          refine S_laldN g (i := 7) (e := u) (by decide) rfl (show u < 6 from by omega) (show (6 : Nat) < 2 ^ 31 from by decide) rfl ?_
          show Sim X (YC ad z0 z1) 37 [(0, .ref (ad 6)), (1, .int (nI u)), (2, .int (nI f)), (3, .int (nI (sdf T (2 ^ u)))), (4, .int (nI (lct m lk (dmN m nu) nu u T p))), (5, .int (nI p))] [.long (B 7 u)] I J A (va_up B 9 r) 0 0
          rw [hB7]
          refine S_n g 4 (pc' := 42) (lv' := [(0, .ref (ad 6)), (1, .int (nI u)), (2, .int (nI f)), (3, .int (nI (sdf T (2 ^ u)))), (4, .int (nI (lct m lk (dmN m nu) nu u T p))), (5, .int (nI p))]) (st' := [.long (((lk u) >>> ((nI p).toInt64 &&& 63)) &&& (lN 1))]) rfl ?_
          refine S_steq (st' := [.long (lN (tb (lk u) p).toNat)]) (by rw [(show ((lk u) >>> ((nI p).toInt64 &&& 63)) &&& (lN 1) = lN (tb (lk u) p).toNat from bit64 (by omega) _).symm]) ?_
          have hb1 : (tb (lk u) p).toNat ≤ 1 := Bool.toNat_le _
          refine S_n g 1 (pc' := 43) (lv' := [(0, .ref (ad 6)), (1, .int (nI u)), (2, .int (nI f)), (3, .int (nI (sdf T (2 ^ u)))), (4, .int (nI (lct m lk (dmN m nu) nu u T p))), (5, .int (nI p))]) (st' := [.long (lN 0), .long (lN (tb (lk u) p).toNat)]) rfl ?_
          refine S_lcN_eq g (tgt := 75) (by omega) (by omega) rfl rfl (by decide) (fun qz43 => ?_) (fun qz43 => ?_)
          · skip
            have hlm : lmt m lk (dmN m nu) nu u T p = false := lmt_f1 (by cases hbv : tb (lk u) p; (· rfl); (· rw [hbv] at qz43; exact absurd qz43 (by decide)))
            refine S_lveq (lv' := [(0, .ref (ad 6)), (1, .int (nI u)), (2, .int (nI f)), (3, .int (nI (sdf T (2 ^ u)))), (4, .int (nI (lct m lk (dmN m nu) nu u T (p + 1)))), (5, .int (nI p))]) (by rw [(show nI (lct m lk (dmN m nu) nu u T p) = nI (lct m lk (dmN m nu) nu u T (p + 1)) from by rw [lct_n hlm]).symm]) ?_
            refine S_n g 1 (pc' := 78) (lv' := [(0, .ref (ad 6)), (1, .int (nI u)), (2, .int (nI f)), (3, .int (nI (sdf T (2 ^ u)))), (4, .int (nI (lct m lk (dmN m nu) nu u T (p + 1)))), (5, .int ((nI p) + nI 1))]) (st' := []) rfl ?_
            rw [nI_add p 1]
            refine S_n g 1 (pc' := 20) (lv' := [(0, .ref (ad 6)), (1, .int (nI u)), (2, .int (nI f)), (3, .int (nI (sdf T (2 ^ u)))), (4, .int (nI (lct m lk (dmN m nu) nu u T (p + 1)))), (5, .int (nI (p + 1)))]) (st' := []) rfl ?_
            exact lp (12 * f + 12 - (p + 1)) (by omega) (p + 1) r rfl (by omega) (by omega) (by rw [lct_n hlm]; omega) (fun i hi => by rw [lsF_n hlm]; exact hr i hi)
          · skip
            have hbu : tb (lk u) p = true := by cases hbv : tb (lk u) p; (· rw [hbv] at qz43; exact absurd qz43 (by decide)); (· rfl)
            refine S_n g 1 (pc' := 48) (lv' := [(0, .ref (ad 6)), (1, .int (nI u)), (2, .int (nI f)), (3, .int (nI (sdf T (2 ^ u)))), (4, .int (nI (lct m lk (dmN m nu) nu u T p))), (5, .int (nI p))]) (st' := [.ref (ad 6)]) rfl ?_
            refine S_getR g (i := 6) (c := 5) (k := 1) (j := 8) (by decide) (by decide) rfl rfl rfl fl_X5_15 rfl ?_
            refine S_n g 1 (pc' := 53) (lv' := [(0, .ref (ad 6)), (1, .int (nI u)), (2, .int (nI f)), (3, .int (nI (sdf T (2 ^ u)))), (4, .int (nI (lct m lk (dmN m nu) nu u T p))), (5, .int (nI p))]) (st' := [.int (nI p), .ref (ad 8)]) rfl ?_
            refine S_ialdN g (i := 8) (e := p) (by decide) rfl (show p < 60 from by omega) (show (60 : Nat) < 2 ^ 31 from by decide) rfl ?_
            rw [hA8 p (by omega)]
            refine S_n g 1 (pc' := 55) (lv' := [(0, .ref (ad 6)), (1, .int (nI u)), (2, .int (nI f)), (3, .int (nI (sdf T (2 ^ u)))), (4, .int (nI (lct m lk (dmN m nu) nu u T p))), (5, .int (nI p))]) (st' := [.int (nI (sdf T (2 ^ u))), .int (nI (hdN m (dmN m nu) p nu))]) rfl ?_
            refine S_icN_ne g (tgt := 75) (by omega) (by omega) rfl (by decide) (fun qz55 => ?_) (fun qz55 => ?_)
            · skip
              have hlm : lmt m lk (dmN m nu) nu u T p = false := lmt_f2 (by omega)
              refine S_lveq (lv' := [(0, .ref (ad 6)), (1, .int (nI u)), (2, .int (nI f)), (3, .int (nI (sdf T (2 ^ u)))), (4, .int (nI (lct m lk (dmN m nu) nu u T (p + 1)))), (5, .int (nI p))]) (by rw [(show nI (lct m lk (dmN m nu) nu u T p) = nI (lct m lk (dmN m nu) nu u T (p + 1)) from by rw [lct_n hlm]).symm]) ?_
              refine S_n g 1 (pc' := 78) (lv' := [(0, .ref (ad 6)), (1, .int (nI u)), (2, .int (nI f)), (3, .int (nI (sdf T (2 ^ u)))), (4, .int (nI (lct m lk (dmN m nu) nu u T (p + 1)))), (5, .int ((nI p) + nI 1))]) (st' := []) rfl ?_
              rw [nI_add p 1]
              refine S_n g 1 (pc' := 20) (lv' := [(0, .ref (ad 6)), (1, .int (nI u)), (2, .int (nI f)), (3, .int (nI (sdf T (2 ^ u)))), (4, .int (nI (lct m lk (dmN m nu) nu u T (p + 1)))), (5, .int (nI (p + 1)))]) (st' := []) rfl ?_
              exact lp (12 * f + 12 - (p + 1)) (by omega) (p + 1) r rfl (by omega) (by omega) (by rw [lct_n hlm]; omega) (fun i hi => by rw [lsF_n hlm]; exact hr i hi)
            · skip
              have hlm : lmt m lk (dmN m nu) nu u T p = true := lmt_t hbu (by omega)
              have hr0 := hr (lct m lk (dmN m nu) nu u T p) (by omega)
              rw [lsF_0 p (Nat.le_refl _)] at hr0
              refine S_n g 1 (pc' := 59) (lv' := [(0, .ref (ad 6)), (1, .int (nI u)), (2, .int (nI f)), (3, .int (nI (sdf T (2 ^ u)))), (4, .int (nI (lct m lk (dmN m nu) nu u T p))), (5, .int (nI p))]) (st' := [.ref (ad 6)]) rfl ?_
              refine S_getR g (i := 6) (c := 5) (k := 2) (j := 9) (by decide) (by decide) rfl rfl rfl fl_X5_19 rfl ?_
              refine S_n g 2 (pc' := 65) (lv' := [(0, .ref (ad 6)), (1, .int (nI u)), (2, .int (nI f)), (3, .int (nI (sdf T (2 ^ u)))), (4, .int (nI (lct m lk (dmN m nu) nu u T p))), (5, .int (nI p))]) (st' := [.int (nI (lct m lk (dmN m nu) nu u T p)), .ref (ad 9), .int (nI (lct m lk (dmN m nu) nu u T p)), .ref (ad 9)]) rfl ?_
              refine S_laldN g (i := 9) (e := lct m lk (dmN m nu) nu u T p) (by decide) rfl (show lct m lk (dmN m nu) nu u T p < 12 from by omega) (show (12 : Nat) < 2 ^ 31 from by decide) rfl ?_
              show Sim X (YC ad z0 z1) 66 [(0, .ref (ad 6)), (1, .int (nI u)), (2, .int (nI f)), (3, .int (nI (sdf T (2 ^ u)))), (4, .int (nI (lct m lk (dmN m nu) nu u T p))), (5, .int (nI p))] [.long (r (lct m lk (dmN m nu) nu u T p)), .int (nI (lct m lk (dmN m nu) nu u T p)), .ref (ad 9)] I J A (va_up B 9 r) 0 0
              refine S_n g 4 (pc' := 71) (lv' := [(0, .ref (ad 6)), (1, .int (nI u)), (2, .int (nI f)), (3, .int (nI (sdf T (2 ^ u)))), (4, .int (nI (lct m lk (dmN m nu) nu u T p))), (5, .int (nI p))]) (st' := [.long ((r (lct m lk (dmN m nu) nu u T p)) ||| ((lN 1) <<< ((nI p).toInt64 &&& 63))), .int (nI (lct m lk (dmN m nu) nu u T p)), .ref (ad 9)]) rfl ?_
              refine S_lastN g (i := 9) (e := lct m lk (dmN m nu) nu u T p) (by decide) rfl (show lct m lk (dmN m nu) nu u T p < 12 from by omega) (show (12 : Nat) < 2 ^ 31 from by decide) rfl ?_
              rw [up2_r1 (i := 9)]
              refine S_n g 1 (pc' := 75) (lv' := [(0, .ref (ad 6)), (1, .int (nI u)), (2, .int (nI f)), (3, .int (nI (sdf T (2 ^ u)))), (4, .int ((nI (lct m lk (dmN m nu) nu u T p)) + nI 1)), (5, .int (nI p))]) (st' := []) rfl ?_
              rw [nI_add (lct m lk (dmN m nu) nu u T p) 1]
              refine S_lveq (lv' := [(0, .ref (ad 6)), (1, .int (nI u)), (2, .int (nI f)), (3, .int (nI (sdf T (2 ^ u)))), (4, .int (nI (lct m lk (dmN m nu) nu u T (p + 1)))), (5, .int (nI p))]) (by rw [(show nI (lct m lk (dmN m nu) nu u T p + 1) = nI (lct m lk (dmN m nu) nu u T (p + 1)) from by rw [lct_y hlm]).symm]) ?_
              refine S_n g 1 (pc' := 78) (lv' := [(0, .ref (ad 6)), (1, .int (nI u)), (2, .int (nI f)), (3, .int (nI (sdf T (2 ^ u)))), (4, .int (nI (lct m lk (dmN m nu) nu u T (p + 1)))), (5, .int ((nI p) + nI 1))]) (st' := []) rfl ?_
              rw [nI_add p 1]
              refine S_n g 1 (pc' := 20) (lv' := [(0, .ref (ad 6)), (1, .int (nI u)), (2, .int (nI f)), (3, .int (nI (sdf T (2 ^ u)))), (4, .int (nI (lct m lk (dmN m nu) nu u T (p + 1)))), (5, .int (nI (p + 1)))]) (st' := []) rfl ?_
              exact lp (12 * f + 12 - (p + 1)) (by omega) (p + 1) (va_up r (lct m lk (dmN m nu) nu u T p) ((r (lct m lk (dmN m nu) nu u T p)) ||| ((lN 1) <<< ((nI p).toInt64 &&& 63)))) rfl (by omega) (by omega) (by rw [lct_y hlm]; omega) (fun i hi => by by_cases e : i = lct m lk (dmN m nu) nu u T p; (· subst e; rw [va_up_self, hr0, lsF, if_pos ⟨hlm, rfl⟩, show pbit 0 = lN 0 from rfl, or_z, show pbit (p + 1) = b1 p from rfl]); (· rw [va_up_ne _ _ e, lsF, if_neg (fun x => e x.2.symm)]; exact hr i hi))
    have h0 := lp _ (12 * f) (B 9) rfl (Nat.le_refl _) (by omega) (by rw [lct_z (12 * f) (Nat.le_refl _) hlo]; omega) (fun i hi => by rw [lsF_0 (12 * f) (by rw [lct_z (12 * f) (Nat.le_refl _) hlo]; omega), show pbit 0 = lN 0 from rfl, or_z])
    rw [va_id] at h0
    exact h0
  · skip
    omega

/-- the longest list of the users in T -/
def lgT (m lk : Nat → Int64) (all nf nu T : Nat) : Nat → Nat
  | 0 => 0
  | u + 1 => if T.testBit u = true then max (lgT m lk all nf nu T u) (lct m lk all nu u T (12 * nf)) else lgT m lk all nf nu T u
theorem lgT_mem {m lk : Nat → Int64} {all nf nu T i : Nat} : ∀ u, i < lgT m lk all nf nu T u → ∃ v, v < u ∧ T.testBit v = true ∧ i < lct m lk all nu v T (12 * nf)
  | 0, h => absurd h (Nat.not_lt_zero i)
  | u + 1, h => by
    rw [lgT] at h
    by_cases q : T.testBit u = true
    · rw [if_pos q] at h
      by_cases w : i < lct m lk all nu u T (12 * nf)
      · exact ⟨u, by omega, q, w⟩
      · obtain ⟨v, a, b⟩ := lgT_mem (m := m) (lk := lk) (all := all) (nf := nf) (nu := nu) (T := T) (i := i) u (by omega)
        exact ⟨v, by omega, b⟩
    · rw [if_neg q] at h
      obtain ⟨v, a, b⟩ := lgT_mem u h
      exact ⟨v, by omega, b⟩
theorem lgT_ge {m lk : Nat → Int64} {all nf nu T v : Nat} (hb : T.testBit v = true) : ∀ u, v < u → lct m lk all nu v T (12 * nf) ≤ lgT m lk all nf nu T u
  | 0, h => absurd h (Nat.not_lt_zero v)
  | u + 1, h => by
    rw [lgT]
    by_cases e : v = u
    · subst e; rw [if_pos hb]; omega
    · have := lgT_ge (m := m) (lk := lk) (all := all) (nf := nf) (nu := nu) hb u (by omega)
      split <;> omega
theorem smT_bit {m lk : Nat → Int64} {all nf nu T i v : Nat} (hb : T.testBit v = true) {p : Nat} (hp : tb (pbit (lsF m lk all nu v T i (12 * nf))) p = true) : ∀ u, v < u → tb (smT m lk all nf nu T i u) p = true
  | 0, h => absurd h (Nat.not_lt_zero v)
  | u + 1, h => by
    rw [smT, tb_or]
    by_cases e : v = u
    · subst e; rw [if_pos hb, hp, Bool.or_true]
    · rw [smT_bit hb hp u (by omega), Bool.true_or]
theorem smT_lg {m lk : Nat → Int64} {all nf nu T i : Nat} (hf : nf ≤ 5) : i < lgT m lk all nf nu T nu ↔ smT m lk all nf nu T i nu ≠ lN 0 := by
  constructor
  · intro h
    obtain ⟨v, h1, h2, h3⟩ := lgT_mem nu h
    have h4 := lsF_p _ h3
    have h5 := lsF_le m lk all nu v T i (12 * nf)
    refine nz_bit (b := lsF m lk all nu v T i (12 * nf) - 1) (smT_bit h2 ?_ nu h1)
    unfold pbit
    rw [if_neg h4, tb_b1 (by omega) (by omega)]
    exact decide_eq_true rfl
  · intro h
    obtain ⟨v, h1, h2, h3⟩ := smT_nz nu h
    have h4 := lsF_ct _ h3
    have h5 := lgT_ge (m := m) (lk := lk) (all := all) (nf := nf) (nu := nu) h2 nu h1
    omega
theorem mrT_lg {m lk : Nat → Int64} {all nf nu T : Nat} (hf : nf ≤ 5) : ∀ i, i ≤ lgT m lk all nf nu T nu → mrT m lk all nf nu T i = true
  | 0, _ => rfl
  | i + 1, h => by rw [mrT, mrT_lg hf i (by omega), decide_eq_true ((smT_lg hf).mp (by omega))]; rfl
theorem sbL_lg {m lk : Nat → Int64} {all nf nu T : Nat} (hf : nf ≤ 5) (h : lgT m lk all nf nu T nu ≤ 12) : sbL m lk all nf nu T 12 = sbL m lk all nf nu T (lgT m lk all nf nu T nu) := by
  obtain ⟨g, hg⟩ : ∃ g, g = lgT m lk all nf nu T nu := ⟨_, rfl⟩
  have hz : smT m lk all nf nu T g nu = lN 0 := Classical.byContradiction (fun q => by have := (smT_lg (all := all) (T := T) (i := g) hf).mpr q; omega)
  rw [← hg] at h ⊢
  by_cases e : g = 12
  · rw [e]
  · have h1 : mrT m lk all nf nu T (g + 1) = false := by rw [mrT, decide_eq_false (fun q => q hz), Bool.and_false]
    have h2 := (sbL_stop m lk all nf nu T h1 (12 - (g + 1))).2
    rw [show g + 1 + (12 - (g + 1)) = 12 by omega] at h2
    rw [h2, sbL, if_neg (by rw [h1]; decide)]

theorem lct_12 {m lk : Nat → Int64} {all nf nu u T f : Nat} (h2 : nf ≤ 5) (hu : u < nu) (hlk : okL lk m nf nu) (hmf : m (69 + u) = lN f) : lct m lk all nu u T (12 * nf) ≤ 12 := by
  rw [lct_sm]
  have h1 : sm (fun p => (lmt m lk all nu u T p).toNat) (12 * nf) ≤ sm (fun p => (tb (lk u) p).toNat) (12 * nf) := sm_le _ (fun p _ => by
    unfold lmt
    cases tb (lk u) p
    · simp
    · exact Bool.toNat_le _)
  by_cases q : ∃ p, tb (lk u) p = true
  · obtain ⟨p0, hp0⟩ := q
    obtain ⟨g, a1, a2, _⟩ := hlk u hu p0 hp0
    have h3 := win_ct (s := lk u) (lo := 12 * g) (fun p hp => by
      obtain ⟨f2, b1, b2, b3, b4⟩ := hlk u hu p hp
      have e := congrArg gN (a2.symm.trans b2)
      rw [gN_lN (by omega), gN_lN (by omega)] at e
      omega) (12 * nf)
    omega
  · have h3 : sm (fun p => (tb (lk u) p).toNat) (12 * nf) = 0 := by
      rw [sm_eq (g := fun _ => 0) _ (fun p _ => by
        cases hb : tb (lk u) p
        · rfl
        · exact absurd ⟨p, hb⟩ q)]
      exact sm_zero _
    omega

set_option maxRecDepth 100000 in
set_option maxHeartbeats 4000000 in
theorem s_sumsFor (ad : Nat → Nat) (z0 z1 : Bool) (I : FI) (J : FJ) (A : FI) (B : FJ) (m : Nat → Int64) (nf nu : Nat) (hB : WB m) (h1 : 1 ≤ nf) (h2 : nf ≤ 5) (h4 : nu ≤ 6) (hmU : m 1 = lN nu) (lk : Nat → Int64) (hlk : okL lk m nf nu) (hB7 : ∀ u, u < nu → B 7 u = lk u) (hWs : ∀ v, v < 6 → okW m v nf) (hA8 : ∀ p, p < 60 → A 8 p = nI (hdN m (dmN m nu) p nu)) (T : Nat) (hT : T < 64) (hTd : sdf T (dmN m nu) = 0) (L : List Int64) (hL : L.length ≤ 72) (hR : RepW 100 (qL m L) I J A B) : Spec M_X5_addSumsFor [.ref (ad 6), .ref (ad 100), .int (nI T)] (YC ad z0 z1) I J A B (fun v' Y' I' J' A' B' => v' = none ∧ Y' = YC ad z0 z1 ∧ J' = J ∧ RepW 100 (qL m (L ++ sbL m lk (dmN m nu) nf nu T 12)) I' J A' B' ∧ ∃ r, kpQ I A (va_up B 9 r) I' A' B') := by
  have hU : I 100 6 = nI nu := by rw [hR.1.2.1, qL_lo m (by omega) (by decide), hmU, lN_i]
  have h3 : ∀ v, v < 6 → I (120 + 4 * v) 2 = (m (69 + v)).toInt32 := fun v hv => by rw [(hR.2.2.2.1 v hv).2, qL_lo m (by omega) (by omega)]
  refine Spec_of (by decide) tk_X5_addSumsFor (Nat.le_of_ble_eq_true rfl) (fun X g rt => ?_)
  show Sim X (YC ad z0 z1) 0 [(0, .ref (ad 6)), (1, .ref (ad 100)), (2, .int (nI T))] [] I J A B 0 0
  refine S_n g 2 (pc' := 2) (lv' := [(0, .ref (ad 6)), (1, .ref (ad 100)), (2, .int (nI T)), (3, .int (nI 0))]) (st' := []) rfl ?_
  have lp : ∀ (nn : Nat) (k : Nat) (c : Nat → Int64), 12 - k = nn → (k ≤ 12) → (∀ j, j < k → c j = lN 0) → Sim X (YC ad z0 z1) 2 [(0, .ref (ad 6)), (1, .ref (ad 100)), (2, .int (nI T)), (3, .int (nI k))] [] I J A (va_up B 9 c) 0 0 := by
    intro nn
    induction nn using Nat.strongRecOn with
    | ind nn ih =>
      intro k c hmz hk hc
      have lp := ih
      refine S_n g 2 (pc' := 5) (lv' := [(0, .ref (ad 6)), (1, .ref (ad 100)), (2, .int (nI T)), (3, .int (nI k))]) (st' := [.int (nI 12), .int (nI k)]) rfl ?_
      refine S_icN_ge g (tgt := 21) (by omega) (by omega) rfl (by decide) (fun qz5 => ?_) (fun qz5 => ?_)
      · skip
        refine S_n g 4 (pc' := 26) (lv' := [(0, .ref (ad 6)), (1, .ref (ad 100)), (2, .int (nI T)), (3, .int (nI 0)), (4, .int (nI 0))]) (st' := []) rfl ?_
        have lp1 : ∀ (nn : Nat) (u : Nat) (r : Nat → Int64), nu - u = nn → (u ≤ nu) → (lgT m lk (dmN m nu) nf nu T u ≤ 12) → (∀ i, i < 12 → r i = smT m lk (dmN m nu) nf nu T i u) → Sim X (YC ad z0 z1) 26 [(0, .ref (ad 6)), (1, .ref (ad 100)), (2, .int (nI T)), (3, .int (nI (lgT m lk (dmN m nu) nf nu T u))), (4, .int (nI u))] [] I J A (va_up B 9 r) 0 0 := by
          intro nn
          induction nn using Nat.strongRecOn with
          | ind nn ih =>
            intro u r hmz hu0 hlg0 hr
            have lp1 := ih
            refine S_n g 2 (pc' := 29) (lv' := [(0, .ref (ad 6)), (1, .ref (ad 100)), (2, .int (nI T)), (3, .int (nI (lgT m lk (dmN m nu) nf nu T u))), (4, .int (nI u))]) (st' := [.ref (ad 100), .int (nI u)]) rfl ?_
            refine S_getI g (i := 100) (c := 7) (k := 6) (by decide) (by decide) rfl rfl fl_X5_22 rfl ?_
            rw [hU]
            refine S_icN_ge g (tgt := 79) (by omega) (by omega) rfl (by decide) (fun qz32 => ?_) (fun qz32 => ?_)
            · skip
              have hu9 : u = nu := by omega
              subst hu9
              refine S_keep (lv' := [(0, .ref (ad 6)), (1, .ref (ad 100)), (2, .int (nI T)), (3, .int (nI (lgT m lk (dmN m u) nf u T u)))]) [0, 1, 2, 3] rfl ?_
              have hlg : lgT m lk (dmN m u) nf u T u ≤ 12 := hlg0
              refine S_n g 2 (pc' := 82) (lv' := [(0, .ref (ad 6)), (1, .ref (ad 100)), (2, .int (nI T)), (3, .int (nI (lgT m lk (dmN m u) nf u T u))), (4, .int (nI 0))]) (st' := []) rfl ?_
              have hR0 : RepW 100 (qL m (L ++ sbL m lk (dmN m u) nf u T 0)) I J A (va_up B 9 r) := by rw [show sbL m lk (dmN m u) nf u T 0 = [] from rfl, List.append_nil]; exact RepW_fr hR (fun i a b => ⟨rfl, rfl, rfl, va_up_ne _ _ (by omega)⟩)
              have lp2 : ∀ (nn : Nat) (i : Nat) (I2 : FI) (A2 : FI) (B2 : FJ), lgT m lk (dmN m u) nf u T u - i = nn → (i ≤ lgT m lk (dmN m u) nf u T u) → (RepW 100 (qL m (L ++ sbL m lk (dmN m u) nf u T i)) I2 J A2 B2) → (kpQ I A (va_up B 9 r) I2 A2 B2) → Sim X (YC ad z0 z1) 82 [(0, .ref (ad 6)), (1, .ref (ad 100)), (2, .int (nI T)), (3, .int (nI (lgT m lk (dmN m u) nf u T u))), (4, .int (nI i))] [] I2 J A2 B2 0 0 := by
                intro nn
                induction nn using Nat.strongRecOn with
                | ind nn ih =>
                  intro i I2 A2 B2 hmz hi hR2 hk2
                  have lp2 := ih
                  have hsl := sbL_len m lk (dmN m u) nf u T i
                  have hlen : (L ++ sbL m lk (dmN m u) nf u T i).length < 100 := by rw [List.length_append]; omega
                  refine S_n g 2 (pc' := 85) (lv' := [(0, .ref (ad 6)), (1, .ref (ad 100)), (2, .int (nI T)), (3, .int (nI (lgT m lk (dmN m u) nf u T u))), (4, .int (nI i))]) (st' := [.int (nI (lgT m lk (dmN m u) nf u T u)), .int (nI i)]) rfl ?_
                  refine S_icN_ge g (tgt := 109) (by omega) (by omega) rfl (by decide) (fun qz85 => ?_) (fun qz85 => ?_)
                  · skip
                    have hi9 : i = lgT m lk (dmN m u) nf u T u := by omega
                    exact rtV rt rfl rfl (⟨rfl, rfl, rfl, by rw [sbL_lg h2 hlg, ← hi9]; exact hR2, r, hk2⟩)
                  · skip
                    have hs : sbL m lk (dmN m u) nf u T (i + 1) = sbL m lk (dmN m u) nf u T i ++ [smT m lk (dmN m u) nf u T i u] := by rw [sbL, if_pos (mrT_lg h2 (i + 1) (by omega))]
                    refine S_n g 1 (pc' := 89) (lv' := [(0, .ref (ad 6)), (1, .ref (ad 100)), (2, .int (nI T)), (3, .int (nI (lgT m lk (dmN m u) nf u T u))), (4, .int (nI i))]) (st' := [.ref (ad 100)]) rfl ?_
                    refine S_getR g (i := 100) (c := 7) (k := 2) (j := 103) (by decide) (by decide) rfl rfl rfl fl_X5_42 rfl ?_
                    refine S_n g 1 (pc' := 93) (lv' := [(0, .ref (ad 6)), (1, .ref (ad 100)), (2, .int (nI T)), (3, .int (nI (lgT m lk (dmN m u) nf u T u))), (4, .int (nI i))]) (st' := [.ref (ad 6), .ref (ad 103)]) rfl ?_
                    refine S_getR g (i := 6) (c := 5) (k := 2) (j := 9) (by decide) (by decide) rfl rfl rfl fl_X5_19 rfl ?_
                    refine S_n g 1 (pc' := 98) (lv' := [(0, .ref (ad 6)), (1, .ref (ad 100)), (2, .int (nI T)), (3, .int (nI (lgT m lk (dmN m u) nf u T u))), (4, .int (nI i))]) (st' := [.int (nI i), .ref (ad 9), .ref (ad 103)]) rfl ?_
                    refine S_laldN g (i := 9) (e := i) (by decide) rfl (show i < 12 from by omega) (show (12 : Nat) < 2 ^ 31 from by decide) rfl ?_
                    rw [show B2 9 i = smT m lk (dmN m u) nf u T i u from by rw [hk2.2.2 9 (by decide), va_up_self]; exact hr i (by omega)]
                    refine S_n g 1 (pc' := 100) (lv' := [(0, .ref (ad 6)), (1, .ref (ad 100)), (2, .int (nI T)), (3, .int (nI (lgT m lk (dmN m u) nf u T u))), (4, .int (nI i))]) (st' := [.int (nI 0), .long (smT m lk (dmN m u) nf u T i u), .ref (ad 103)]) rfl ?_
                    refine S_callV g (i := 103) (As := [.long (smT m lk (dmN m u) nf u T i u), .int (nI 0)]) (st := []) (q_push ad z0 z1 I2 J A2 B2 m hB (L ++ sbL m lk (dmN m u) nf u T i) hlen hR2 (smT m lk (dmN m u) nf u T i u)) mw_X6_append lk_X5_68 ⟨Nat.le_of_ble_eq_true rfl, Nat.le_of_ble_eq_true rfl⟩ (by decide) (by decide) rfl rfl (Nat.le_of_ble_eq_true rfl) ⟨Nat.le_of_ble_eq_true rfl, Nat.le_of_ble_eq_true rfl⟩ rfl (fun v' Y' I3 J3 A3 B3 hpo => ?_)
                    obtain ⟨rfl, rfl, ej3, hR3, hq3⟩ := hpo
                    rw [ej3]
                    show Sim X (YC ad z0 z1) 103 [(0, .ref (ad 6)), (1, .ref (ad 100)), (2, .int (nI T)), (3, .int (nI (lgT m lk (dmN m u) nf u T u))), (4, .int (nI i))] [] I3 J A3 B3 0 0
                    refine S_n g 1 (pc' := 106) (lv' := [(0, .ref (ad 6)), (1, .ref (ad 100)), (2, .int (nI T)), (3, .int (nI (lgT m lk (dmN m u) nf u T u))), (4, .int ((nI i) + nI 1))]) (st' := []) rfl ?_
                    rw [nI_add i 1]
                    refine S_n g 1 (pc' := 82) (lv' := [(0, .ref (ad 6)), (1, .ref (ad 100)), (2, .int (nI T)), (3, .int (nI (lgT m lk (dmN m u) nf u T u))), (4, .int (nI (i + 1)))]) (st' := []) rfl ?_
                    exact lp2 (lgT m lk (dmN m u) nf u T u - (i + 1)) (by omega) (i + 1) I3 A3 B3 rfl (by omega) (by rw [hs, ← List.append_assoc]; exact hR3) (kpQ_tr hk2 hq3)
              exact lp2 _ 0 I A (va_up B 9 r) rfl (Nat.zero_le _) hR0 (kpQ_rf I A (va_up B 9 r))
            · skip
              refine S_n g 5 (pc' := 41) (lv' := [(0, .ref (ad 6)), (1, .ref (ad 100)), (2, .int (nI T)), (3, .int (nI (lgT m lk (dmN m nu) nf nu T u))), (4, .int (nI u))]) (st' := [.int (((nI T) >>> ((nI u) &&& 31)) &&& (nI 1))]) rfl ?_
              refine S_steq (st' := [.int (nI (T.testBit u).toNat)]) (by rw [(show ((nI T) >>> ((nI u) &&& 31)) &&& (nI 1) = nI (T.testBit u).toNat from bit_nat (by omega)).symm]) ?_
              have hb1 : (T.testBit u).toNat ≤ 1 := Bool.toNat_le _
              refine S_ifN_eq g (tgt := 73) (by omega) rfl (by decide) (fun qz41 => ?_) (fun qz41 => ?_)
              · skip
                have hTu : ¬ T.testBit u = true := fun hbv => by rw [hbv] at qz41; exact absurd qz41 (by decide)
                refine S_lveq (lv' := [(0, .ref (ad 6)), (1, .ref (ad 100)), (2, .int (nI T)), (3, .int (nI (lgT m lk (dmN m nu) nf nu T (u + 1)))), (4, .int (nI u))]) (by rw [(show nI (lgT m lk (dmN m nu) nf nu T u) = nI (lgT m lk (dmN m nu) nf nu T (u + 1)) from by rw [lgT, if_neg hTu]).symm]) ?_
                refine S_n g 1 (pc' := 76) (lv' := [(0, .ref (ad 6)), (1, .ref (ad 100)), (2, .int (nI T)), (3, .int (nI (lgT m lk (dmN m nu) nf nu T (u + 1)))), (4, .int ((nI u) + nI 1))]) (st' := []) rfl ?_
                rw [nI_add u 1]
                refine S_n g 1 (pc' := 26) (lv' := [(0, .ref (ad 6)), (1, .ref (ad 100)), (2, .int (nI T)), (3, .int (nI (lgT m lk (dmN m nu) nf nu T (u + 1)))), (4, .int (nI (u + 1)))]) (st' := []) rfl ?_
                exact lp1 (nu - (u + 1)) (by omega) (u + 1) r rfl (by omega) (by rw [lgT, if_neg hTu]; exact hlg0) (fun i hi => by rw [smT, if_neg hTu, or_z]; exact hr i hi)
              · skip
                have hTu : T.testBit u = true := by cases hbv : T.testBit u; (· rw [hbv] at qz41; exact absurd qz41 (by decide)); (· rfl)
                have hu : u < 6 := by omega
                obtain ⟨f, hf, hmf⟩ := (hWs u hu).resolve_left (sub_dm hT hTd hTu).2
                refine S_n g 4 (pc' := 49) (lv' := [(0, .ref (ad 6)), (1, .ref (ad 100)), (2, .int (nI T)), (3, .int (nI (lgT m lk (dmN m nu) nf nu T u))), (4, .int (nI u))]) (st' := [.ref (ad 100), .int (nI u), .ref (ad 6), .int (nI (lgT m lk (dmN m nu) nf nu T u))]) rfl ?_
                refine S_getR g (i := 100) (c := 7) (k := 1) (j := 102) (by decide) (by decide) rfl rfl rfl fl_X5_28 rfl ?_
                refine S_n g 1 (pc' := 54) (lv' := [(0, .ref (ad 6)), (1, .ref (ad 100)), (2, .int (nI T)), (3, .int (nI (lgT m lk (dmN m nu) nf nu T u))), (4, .int (nI u))]) (st' := [.int (nI u), .ref (ad 102), .int (nI u), .ref (ad 6), .int (nI (lgT m lk (dmN m nu) nf nu T u))]) rfl ?_
                refine S_aaldN g (i := 102) (e := u) (j := 120 + 4 * u) (by decide) rfl (show u < 6 from by omega) (show (6 : Nat) < 2 ^ 31 from by decide) rfl rfl ?_
                refine S_getI g (i := 120 + 4 * u) (c := 2) (k := 2) (by omega) (by decide) (mb7 hu).1 rfl fl_X5_87 rfl ?_
                rw [show I (120 + 4 * u) 2 = nI f from by rw [h3 u hu, hmf, lN_i]]
                refine S_n g 7 (pc' := 66) (lv' := [(0, .ref (ad 6)), (1, .ref (ad 100)), (2, .int (nI T)), (3, .int (nI (lgT m lk (dmN m nu) nf nu T u))), (4, .int (nI u))]) (st' := [.int ((nI T) &&& (((nI 1) <<< ((nI u) &&& 31)) ^^^ (-nI 1))), .int (nI f), .int (nI u), .ref (ad 6), .int (nI (lgT m lk (dmN m nu) nf nu T u))]) rfl ?_
                refine S_steq (st' := [.int (nI (sdf T (2 ^ u))), .int (nI f), .int (nI u), .ref (ad 6), .int (nI (lgT m lk (dmN m nu) nf nu T u))]) (by rw [(show (nI T) &&& (((nI 1) <<< ((nI u) &&& 31)) ^^^ (-nI 1)) = nI (sdf T (2 ^ u)) from nI_sdf1 hT (by omega)).symm]) ?_
                refine S_callV g (i := 6) (As := [.int (nI u), .int (nI f), .int (nI (sdf T (2 ^ u)))]) (st := [.int (nI (lgT m lk (dmN m nu) nf nu T u))]) (s_spread ad z0 z1 I J A (va_up B 9 r) m lk nf nu u T f h2 h4 (by omega) hT hf hlk hmf (by rw [va_up_ne _ _ (by decide)]; exact hB7 u (by omega)) hA8) mw_X5_spreadPieces lk_X5_106 ⟨Nat.le_of_ble_eq_true rfl, Nat.le_of_ble_eq_true rfl⟩ (by decide) (by decide) rfl rfl (Nat.le_of_ble_eq_true rfl) ⟨Nat.le_of_ble_eq_true rfl, Nat.le_of_ble_eq_true rfl⟩ rfl (fun v' Y' I3 J3 A3 B3 hpo => ?_)
                obtain ⟨rfl, rfl, e1, e2, e3, r2, e4, hr2⟩ := hpo
                rw [va_up_self] at hr2
                rw [e1, e2, e3, e4, va_up1]
                show Sim X (YC ad z0 z1) 69 [(0, .ref (ad 6)), (1, .ref (ad 100)), (2, .int (nI T)), (3, .int (nI (lgT m lk (dmN m nu) nf nu T u))), (4, .int (nI u))] [.int (nI (lct m lk (dmN m nu) nu u T (12 * nf))), .int (nI (lgT m lk (dmN m nu) nf nu T u))] I J A (va_up B 9 r2) 0 0
                have hc12 : lct m lk (dmN m nu) nu u T (12 * nf) ≤ 12 := lct_12 h2 (by omega) hlk hmf
                refine S_cS g (As := [.int (nI (lgT m lk (dmN m nu) nf nu T u)), .int (nI (lct m lk (dmN m nu) nu u T (12 * nf)))]) (st := []) (sp_max (YC ad z0 z1) I J A (va_up B 9 r2) (lgT m lk (dmN m nu) nf nu T u) (lct m lk (dmN m nu) nu u T (12 * nf)) (by omega) (by omega)) mw_J9_max_7cf53 lk_X5_110 ⟨Nat.le_of_ble_eq_true rfl, Nat.le_of_ble_eq_true rfl⟩ rfl (Nat.le_of_ble_eq_true rfl) ⟨Nat.le_of_ble_eq_true rfl, Nat.le_of_ble_eq_true rfl⟩ rfl ?_
                rw [show max (lgT m lk (dmN m nu) nf nu T u) (lct m lk (dmN m nu) nu u T (12 * nf)) = lgT m lk (dmN m nu) nf nu T (u + 1) from by rw [lgT, if_pos hTu]]
                show Sim X (YC ad z0 z1) 72 [(0, .ref (ad 6)), (1, .ref (ad 100)), (2, .int (nI T)), (3, .int (nI (lgT m lk (dmN m nu) nf nu T u))), (4, .int (nI u))] [.int (nI (lgT m lk (dmN m nu) nf nu T (u + 1)))] I J A (va_up B 9 r2) 0 0
                refine S_n g 2 (pc' := 76) (lv' := [(0, .ref (ad 6)), (1, .ref (ad 100)), (2, .int (nI T)), (3, .int (nI (lgT m lk (dmN m nu) nf nu T (u + 1)))), (4, .int ((nI u) + nI 1))]) (st' := []) rfl ?_
                rw [nI_add u 1]
                refine S_n g 1 (pc' := 26) (lv' := [(0, .ref (ad 6)), (1, .ref (ad 100)), (2, .int (nI T)), (3, .int (nI (lgT m lk (dmN m nu) nf nu T (u + 1)))), (4, .int (nI (u + 1)))]) (st' := []) rfl ?_
                exact lp1 (nu - (u + 1)) (by omega) (u + 1) r2 rfl (by omega) (by rw [lgT, if_pos hTu]; omega) (fun i hi => by rw [smT, if_pos hTu, hr2 i hi, hr i hi])
        exact lp1 _ 0 c rfl (Nat.zero_le _) (Nat.zero_le _) (fun i hi => hc i (by omega))
      · skip
        refine S_n g 1 (pc' := 9) (lv' := [(0, .ref (ad 6)), (1, .ref (ad 100)), (2, .int (nI T)), (3, .int (nI k))]) (st' := [.ref (ad 6)]) rfl ?_
        refine S_getR g (i := 6) (c := 5) (k := 2) (j := 9) (by decide) (by decide) rfl rfl rfl fl_X5_19 rfl ?_
        refine S_n g 2 (pc' := 14) (lv' := [(0, .ref (ad 6)), (1, .ref (ad 100)), (2, .int (nI T)), (3, .int (nI k))]) (st' := [.long (lN 0), .int (nI k), .ref (ad 9)]) rfl ?_
        refine S_lastN g (i := 9) (e := k) (by decide) rfl (show k < 12 from by omega) (show (12 : Nat) < 2 ^ 31 from by decide) rfl ?_
        rw [up2_r1 (i := 9)]
        refine S_n g 1 (pc' := 18) (lv' := [(0, .ref (ad 6)), (1, .ref (ad 100)), (2, .int (nI T)), (3, .int ((nI k) + nI 1))]) (st' := []) rfl ?_
        rw [nI_add k 1]
        refine S_n g 1 (pc' := 2) (lv' := [(0, .ref (ad 6)), (1, .ref (ad 100)), (2, .int (nI T)), (3, .int (nI (k + 1)))]) (st' := []) rfl ?_
        exact lp (12 - (k + 1)) (by omega) (k + 1) (va_up c k (lN 0)) rfl (by omega) (fun j hj => by by_cases e : j = k; (· subst e; rw [va_up_self]); (· rw [va_up_ne _ _ e]; exact hc j (by omega)))
  have h0 := lp _ 0 (B 9) rfl (Nat.zero_le _) (fun j hj => absurd hj (Nat.not_lt_zero j))
  rw [va_id] at h0
  exact h0

/-- sums, owners and the pending list may have changed -/
def kpS (I : FI) (A : FI) (B : FJ) (I' : FI) (A' : FI) (B' : FJ) : Prop := (∀ i k, i ≠ 103 ∨ k ≠ 3 → I' i k = I i k) ∧ (∀ i, i ≠ 105 → A' i = A i) ∧ ∀ i, i ≠ 104 → i ≠ 9 → B' i = B i
theorem kpS_rf (I : FI) (A : FI) (B : FJ) : kpS I A B I A B := ⟨fun _ _ _ => rfl, fun _ _ => rfl, fun _ _ _ => rfl⟩
theorem kpS_tr {I : FI} {A : FI} {B : FJ} {I' : FI} {A' : FI} {B' : FJ} {I2 : FI} {A2 : FI} {B2 : FJ} (h : kpS I A B I' A' B') (q : kpS I' A' B' I2 A2 B2) : kpS I A B I2 A2 B2 := ⟨fun i k e => (q.1 i k e).trans (h.1 i k e), fun i e => (q.2.1 i e).trans (h.2.1 i e), fun i e f => (q.2.2 i e f).trans (h.2.2 i e f)⟩
theorem kpS_9 {I : FI} {A : FI} {B : FJ} {I' : FI} {A' : FI} {B' : FJ} {r : Nat → Int64} (h : kpQ I A (va_up B 9 r) I' A' B') : kpS I A B I' A' B' := ⟨h.1, h.2.1, fun i e f => (h.2.2 i e).trans (va_up_ne _ _ f)⟩
theorem sub_and {s d : Nat} (hs : s < 64) (h0 : 0 < s) (h : sdf s d = 0) : s &&& d ≠ 0 := by
  obtain ⟨u, hu⟩ := ex_bit (show 1 ≤ s by omega)
  intro q
  have h1 := congrArg (fun z => z.testBit u) h
  have h2 := congrArg (fun z => z.testBit u) q
  simp only [sdf_bit hs, Nat.zero_testBit, hu, Bool.true_and] at h1
  simp only [Nat.testBit_and, Nat.zero_testBit, hu, Bool.true_and] at h2
  rw [h2] at h1
  exact absurd h1 (by decide)

set_option maxRecDepth 100000 in
set_option maxHeartbeats 4000000 in
theorem s_subsets (ad : Nat → Nat) (z0 z1 : Bool) (I : FI) (J : FJ) (A : FI) (B : FJ) (m : Nat → Int64) (nf nu : Nat) (hB : WB m) (h1 : 1 ≤ nf) (h2 : nf ≤ 5) (h4 : nu ≤ 6) (hmU : m 1 = lN nu) (lk : Nat → Int64) (hlk : okL lk m nf nu) (hB7 : ∀ u, u < nu → B 7 u = lk u) (hWs : ∀ v, v < 6 → okW m v nf) (hA8 : ∀ p, p < 60 → A 8 p = nI (hdN m (dmN m nu) p nu)) (ld : Nat) (hld : ld < 64) (only : Bool) (hD6 : I 6 3 = nI (dmN m nu)) (hL6 : only = true → I 6 4 = nI ld) (hL7 : only = false → ld = dmN m nu) (hbd : ∀ k s, k < nu → s ≤ 2 ^ nu → (soL m lk (dmN m nu) ld nf nu k ++ siL m lk (dmN m nu) ld nf nu (nu - k) s).length ≤ 72) (hR : RepW 100 (qL m []) I J A B) : Spec M_X5_addSubsets [.ref (ad 6), .ref (ad 100), .int (bI only)] (YC ad z0 z1) I J A B (fun v' Y' I' J' A' B' => v' = none ∧ Y' = YC ad z0 z1 ∧ J' = J ∧ RepW 100 (qL m (soL m lk (dmN m nu) ld nf nu nu)) I' J A' B' ∧ kpS I A B I' A' B') := by
  have hU : I 100 6 = nI nu := by rw [hR.1.2.1, qL_lo m (Nat.zero_le _) (by decide), hmU, lN_i]
  have h64 : 2 ^ nu ≤ 2 ^ 6 := Nat.pow_le_pow_right (by decide) h4
  have hp1 : 1 ≤ 2 ^ nu := Nat.one_le_two_pow
  have hd64 := dmN_lt m nu h4
  refine Spec_of (by decide) tk_X5_addSubsets (Nat.le_of_ble_eq_true rfl) (fun X g rt => ?_)
  show Sim X (YC ad z0 z1) 0 [(0, .ref (ad 6)), (1, .ref (ad 100)), (2, .int (bI only))] [] I J A B 0 0
  refine S_n g 1 (pc' := 1) (lv' := [(0, .ref (ad 6)), (1, .ref (ad 100)), (2, .int (bI only))]) (st' := [.ref (ad 100)]) rfl ?_
  refine S_getI g (i := 100) (c := 7) (k := 6) (by decide) (by decide) rfl rfl fl_X5_22 rfl ?_
  rw [hU]
  refine S_n g 1 (pc' := 5) (lv' := [(0, .ref (ad 6)), (1, .ref (ad 100)), (2, .int (bI only)), (3, .int (nI nu))]) (st' := []) rfl ?_
  obtain ⟨pw, hpw⟩ : ∃ pw, pw = 2 ^ nu := ⟨_, rfl⟩
  rw [← hpw] at h64 hp1
  have lp : ∀ (nn : Nat) (z : Nat) (I2 : FI) (A2 : FI) (B2 : FJ), z = nn → (z ≤ nu) → (RepW 100 (qL m (soL m lk (dmN m nu) ld nf nu (nu - z))) I2 J A2 B2) → (kpS I A B I2 A2 B2) → Sim X (YC ad z0 z1) 5 [(0, .ref (ad 6)), (1, .ref (ad 100)), (2, .int (bI only)), (3, .int (nI z))] [] I2 J A2 B2 0 0 := by
    intro nn
    induction nn using Nat.strongRecOn with
    | ind nn ih =>
      intro z I2 A2 B2 hmz hz hR2 hk2
      have lp := ih
      have hUz : I2 100 6 = nI nu := by rw [hk2.1 100 6 (by omega)]; exact hU
      refine S_n g 1 (pc' := 6) (lv' := [(0, .ref (ad 6)), (1, .ref (ad 100)), (2, .int (bI only)), (3, .int (nI z))]) (st' := [.int (nI z)]) rfl ?_
      refine S_ifN_le g (tgt := 89) (by omega) rfl (by decide) (fun qz6 => ?_) (fun qz6 => ?_)
      · skip
        have hz9 : z = 0 := by omega
        subst hz9
        exact rtV rt rfl rfl (⟨rfl, rfl, rfl, hR2, hk2⟩)
      · skip
        refine S_n g 2 (pc' := 12) (lv' := [(0, .ref (ad 6)), (1, .ref (ad 100)), (2, .int (bI only)), (3, .int (nI z)), (4, .int (nI 1))]) (st' := []) rfl ?_
        have e1 : siL m lk (dmN m nu) ld nf nu z 1 = [] := by rw [siL, if_neg (fun q => absurd q.1 (by decide))]; rfl
        have lp2 : ∀ (nn : Nat) (s : Nat) (I3 : FI) (A3 : FI) (B3 : FJ), pw - s = nn → (1 ≤ s) → (s ≤ pw) → (RepW 100 (qL m (soL m lk (dmN m nu) ld nf nu (nu - z) ++ siL m lk (dmN m nu) ld nf nu z s)) I3 J A3 B3) → (kpS I A B I3 A3 B3) → Sim X (YC ad z0 z1) 12 [(0, .ref (ad 6)), (1, .ref (ad 100)), (2, .int (bI only)), (3, .int (nI z)), (4, .int (nI s))] [] I3 J A3 B3 0 0 := by
          intro nn
          induction nn using Nat.strongRecOn with
          | ind nn ih =>
            intro s I3 A3 B3 hmz hs1 hs hR3 hk3
            have lp2 := ih
            have hU3 : I3 100 6 = nI nu := by rw [hk3.1 100 6 (by omega)]; exact hU
            have hbz := hbd (nu - z) s (by omega) (by rw [← hpw]; omega)
            rw [show nu - (nu - z) = z by omega] at hbz
            refine S_n g 3 (pc' := 16) (lv' := [(0, .ref (ad 6)), (1, .ref (ad 100)), (2, .int (bI only)), (3, .int (nI z)), (4, .int (nI s))]) (st' := [.ref (ad 100), .int (nI 1), .int (nI s)]) rfl ?_
            refine S_getI g (i := 100) (c := 7) (k := 6) (by decide) (by decide) rfl rfl fl_X5_22 rfl ?_
            rw [hU3]
            refine S_n g 1 (pc' := 20) (lv' := [(0, .ref (ad 6)), (1, .ref (ad 100)), (2, .int (bI only)), (3, .int (nI z)), (4, .int (nI s))]) (st' := [.int ((nI 1) <<< ((nI nu) &&& 31)), .int (nI s)]) rfl ?_
            refine S_steq (st' := [.int (nI pw), .int (nI s)]) (by rw [(show (nI 1) <<< ((nI nu) &&& 31) = nI pw from by rw [hpw]; exact i1_nI (by omega)).symm]) ?_
            refine S_icN_ge g (tgt := 83) (by omega) (by omega) rfl (by decide) (fun qz20 => ?_) (fun qz20 => ?_)
            · skip
              have hs9 : s = pw := by omega
              have hso : soL m lk (dmN m nu) ld nf nu (nu - (z - 1)) = soL m lk (dmN m nu) ld nf nu (nu - z) ++ siL m lk (dmN m nu) ld nf nu z pw := by rw [show nu - (z - 1) = (nu - z) + 1 by omega, soL, show nu - (nu - z) = z by omega, ← hpw]
              refine S_n g 1 (pc' := 86) (lv' := [(0, .ref (ad 6)), (1, .ref (ad 100)), (2, .int (bI only)), (3, .int ((nI z) + -nI 1)), (4, .int (nI s))]) (st' := []) rfl ?_
              rw [iinc_neg (a := z) (b := 1) (by omega)]
              refine S_n g 1 (pc' := 5) (lv' := [(0, .ref (ad 6)), (1, .ref (ad 100)), (2, .int (bI only)), (3, .int (nI (z - 1))), (4, .int (nI s))]) (st' := []) rfl ?_
              refine S_keep (lv' := [(0, .ref (ad 6)), (1, .ref (ad 100)), (2, .int (bI only)), (3, .int (nI (z - 1)))]) [0, 1, 2, 3] rfl ?_
              exact lp (z - 1) (by omega) (z - 1) I3 A3 B3 rfl (by omega) (by rw [hso, ← hs9]; exact hR3) hk3
            · skip
              refine S_n g 1 (pc' := 25) (lv' := [(0, .ref (ad 6)), (1, .ref (ad 100)), (2, .int (bI only)), (3, .int (nI z)), (4, .int (nI s))]) (st' := [.int (nI s)]) rfl ?_
              refine S_cS g (As := [.int (nI s)]) (st := []) (sp_bitI (YC ad z0 z1) I3 J A3 B3 s (by omega)) mw_J6_bitCount_0f7a4 lk_X5_96 ⟨Nat.le_of_ble_eq_true rfl, Nat.le_of_ble_eq_true rfl⟩ rfl (Nat.le_of_ble_eq_true rfl) ⟨Nat.le_of_ble_eq_true rfl, Nat.le_of_ble_eq_true rfl⟩ rfl ?_
              have hcl := ctb_le (lN s) 60
              show Sim X (YC ad z0 z1) 28 [(0, .ref (ad 6)), (1, .ref (ad 100)), (2, .int (bI only)), (3, .int (nI z)), (4, .int (nI s))] [.int (nI (ctb (lN s) 60))] I3 J A3 B3 0 0
              refine S_n g 1 (pc' := 29) (lv' := [(0, .ref (ad 6)), (1, .ref (ad 100)), (2, .int (bI only)), (3, .int (nI z)), (4, .int (nI s))]) (st' := [.int (nI z), .int (nI (ctb (lN s) 60))]) rfl ?_
              refine S_icN_ne g (tgt := 48) (by omega) (by omega) rfl (by decide) (fun qz29 => ?_) (fun qz29 => ?_)
              · skip
                refine S_n g 3 (pc' := 53) (lv' := [(0, .ref (ad 6)), (1, .ref (ad 100)), (2, .int (bI only)), (3, .int (nI z)), (4, .int (nI s)), (5, .int (nI 0))]) (st' := [.int (nI 0)]) rfl ?_
                refine S_ifN_eq g (tgt := 77) (by omega) rfl (by decide) (fun qz53 => ?_) (fun qz53 => ?_)
                · skip
                  have hsk : siL m lk (dmN m nu) ld nf nu z (s + 1) = siL m lk (dmN m nu) ld nf nu z s := by rw [siL, if_neg (fun q => by have := q.2.1; omega)]
                  refine S_n g 1 (pc' := 80) (lv' := [(0, .ref (ad 6)), (1, .ref (ad 100)), (2, .int (bI only)), (3, .int (nI z)), (4, .int ((nI s) + nI 1)), (5, .int (nI 0))]) (st' := []) rfl ?_
                  rw [nI_add s 1]
                  refine S_n g 1 (pc' := 12) (lv' := [(0, .ref (ad 6)), (1, .ref (ad 100)), (2, .int (bI only)), (3, .int (nI z)), (4, .int (nI (s + 1))), (5, .int (nI 0))]) (st' := []) rfl ?_
                  refine S_keep (lv' := [(0, .ref (ad 6)), (1, .ref (ad 100)), (2, .int (bI only)), (3, .int (nI z)), (4, .int (nI (s + 1)))]) [0, 1, 2, 3, 4] rfl ?_
                  exact lp2 (pw - (s + 1)) (by omega) (s + 1) I3 A3 B3 rfl (by omega) (by omega) (by rw [hsk]; exact hR3) hk3
                · skip
                  exact absurd qz53 (by decide)
              · skip
                refine S_n g 2 (pc' := 35) (lv' := [(0, .ref (ad 6)), (1, .ref (ad 100)), (2, .int (bI only)), (3, .int (nI z)), (4, .int (nI s))]) (st' := [.ref (ad 6), .int (nI s)]) rfl ?_
                refine S_getI g (i := 6) (c := 5) (k := 3) (by decide) (by decide) rfl rfl fl_X5_76 rfl ?_
                rw [show I3 6 3 = nI (dmN m nu) from by rw [hk3.1 6 3 (by omega)]; exact hD6]
                refine S_n g 3 (pc' := 41) (lv' := [(0, .ref (ad 6)), (1, .ref (ad 100)), (2, .int (bI only)), (3, .int (nI z)), (4, .int (nI s))]) (st' := [.int ((nI s) &&& ((nI (dmN m nu)) ^^^ (-nI 1)))]) rfl ?_
                refine S_steq (st' := [.int (nI (sdf s (dmN m nu)))]) (by rw [(show (nI s) &&& ((nI (dmN m nu)) ^^^ (-nI 1)) = nI (sdf s (dmN m nu)) from nI_sdf (by omega)).symm]) ?_
                have hsl := sdf_lt (a := dmN m nu) (show s < 64 by omega)
                refine S_ifN_ne g (tgt := 48) (by omega) rfl (by decide) (fun qz41 => ?_) (fun qz41 => ?_)
                · skip
                  refine S_n g 3 (pc' := 53) (lv' := [(0, .ref (ad 6)), (1, .ref (ad 100)), (2, .int (bI only)), (3, .int (nI z)), (4, .int (nI s)), (5, .int (nI 0))]) (st' := [.int (nI 0)]) rfl ?_
                  refine S_ifN_eq g (tgt := 77) (by omega) rfl (by decide) (fun qz53 => ?_) (fun qz53 => ?_)
                  · skip
                    have hsk : siL m lk (dmN m nu) ld nf nu z (s + 1) = siL m lk (dmN m nu) ld nf nu z s := by rw [siL, if_neg (fun q => by have := q.2.2.1; omega)]
                    refine S_n g 1 (pc' := 80) (lv' := [(0, .ref (ad 6)), (1, .ref (ad 100)), (2, .int (bI only)), (3, .int (nI z)), (4, .int ((nI s) + nI 1)), (5, .int (nI 0))]) (st' := []) rfl ?_
                    rw [nI_add s 1]
                    refine S_n g 1 (pc' := 12) (lv' := [(0, .ref (ad 6)), (1, .ref (ad 100)), (2, .int (bI only)), (3, .int (nI z)), (4, .int (nI (s + 1))), (5, .int (nI 0))]) (st' := []) rfl ?_
                    refine S_keep (lv' := [(0, .ref (ad 6)), (1, .ref (ad 100)), (2, .int (bI only)), (3, .int (nI z)), (4, .int (nI (s + 1)))]) [0, 1, 2, 3, 4] rfl ?_
                    exact lp2 (pw - (s + 1)) (by omega) (s + 1) I3 A3 B3 rfl (by omega) (by omega) (by rw [hsk]; exact hR3) hk3
                  · skip
                    exact absurd qz53 (by decide)
                · skip
                  have hz0 : sdf s (dmN m nu) = 0 := by omega
                  refine S_n g 4 (pc' := 53) (lv' := [(0, .ref (ad 6)), (1, .ref (ad 100)), (2, .int (bI only)), (3, .int (nI z)), (4, .int (nI s)), (5, .int (nI 1))]) (st' := [.int (nI 1)]) rfl ?_
                  refine S_ifN_eq g (tgt := 77) (by omega) rfl (by decide) (fun qz53 => ?_) (fun qz53 => ?_)
                  · skip
                    exact absurd qz53 (by decide)
                  · skip
                    refine S_n g 1 (pc' := 57) (lv' := [(0, .ref (ad 6)), (1, .ref (ad 100)), (2, .int (bI only)), (3, .int (nI z)), (4, .int (nI s)), (5, .int (nI 1))]) (st' := [.int (bI only)]) rfl ?_
                    refine S_ifB_eq g (tgt := 70) rfl (by decide) (fun qz57 => ?_) (fun qz57 => ?_)
                    · skip
                      have hlead : s &&& ld ≠ 0 := by rw [hL7 qz57]; exact sub_and (by omega) (by omega) hz0
                      have hyes : siL m lk (dmN m nu) ld nf nu z (s + 1) = siL m lk (dmN m nu) ld nf nu z s ++ sbL m lk (dmN m nu) nf nu s 12 := by rw [siL, if_pos ⟨by omega, by omega, hz0, hlead⟩]
                      refine S_n g 3 (pc' := 74) (lv' := [(0, .ref (ad 6)), (1, .ref (ad 100)), (2, .int (bI only)), (3, .int (nI z)), (4, .int (nI s)), (5, .int (nI 1))]) (st' := [.int (nI s), .ref (ad 100), .ref (ad 6)]) rfl ?_
                      refine S_callV g (i := 6) (As := [.ref (ad 100), .int (nI s)]) (st := []) (s_sumsFor ad z0 z1 I3 J A3 B3 m nf nu hB h1 h2 h4 hmU lk hlk (fun u hu => by rw [hk3.2.2 7 (by decide) (by decide)]; exact hB7 u hu) hWs (fun p hp => by rw [hk3.2.1 8 (by decide)]; exact hA8 p hp) s (by omega) hz0 (soL m lk (dmN m nu) ld nf nu (nu - z) ++ siL m lk (dmN m nu) ld nf nu z s) hbz hR3) mw_X5_addSumsFor lk_X5_102 ⟨Nat.le_of_ble_eq_true rfl, Nat.le_of_ble_eq_true rfl⟩ (by decide) (by decide) rfl rfl (Nat.le_of_ble_eq_true rfl) ⟨Nat.le_of_ble_eq_true rfl, Nat.le_of_ble_eq_true rfl⟩ rfl (fun v' Y' I4 J4 A4 B4 hpo => ?_)
                      obtain ⟨rfl, rfl, e2, hR4, r4, hk4⟩ := hpo
                      rw [e2]
                      show Sim X (YC ad z0 z1) 77 [(0, .ref (ad 6)), (1, .ref (ad 100)), (2, .int (bI only)), (3, .int (nI z)), (4, .int (nI s)), (5, .int (nI 1))] [] I4 J A4 B4 0 0
                      refine S_n g 1 (pc' := 80) (lv' := [(0, .ref (ad 6)), (1, .ref (ad 100)), (2, .int (bI only)), (3, .int (nI z)), (4, .int ((nI s) + nI 1)), (5, .int (nI 1))]) (st' := []) rfl ?_
                      rw [nI_add s 1]
                      refine S_n g 1 (pc' := 12) (lv' := [(0, .ref (ad 6)), (1, .ref (ad 100)), (2, .int (bI only)), (3, .int (nI z)), (4, .int (nI (s + 1))), (5, .int (nI 1))]) (st' := []) rfl ?_
                      refine S_keep (lv' := [(0, .ref (ad 6)), (1, .ref (ad 100)), (2, .int (bI only)), (3, .int (nI z)), (4, .int (nI (s + 1)))]) [0, 1, 2, 3, 4] rfl ?_
                      exact lp2 (pw - (s + 1)) (by omega) (s + 1) I4 A4 B4 rfl (by omega) (by omega) (by rw [hyes, ← List.append_assoc]; exact hR4) (kpS_tr hk3 (kpS_9 hk4))
                    · skip
                      refine S_n g 2 (pc' := 63) (lv' := [(0, .ref (ad 6)), (1, .ref (ad 100)), (2, .int (bI only)), (3, .int (nI z)), (4, .int (nI s)), (5, .int (nI 1))]) (st' := [.ref (ad 6), .int (nI s)]) rfl ?_
                      refine S_getI g (i := 6) (c := 5) (k := 4) (by decide) (by decide) rfl rfl fl_X5_84 rfl ?_
                      rw [show I3 6 4 = nI ld from by rw [hk3.1 6 4 (by omega)]; exact hL6 qz57]
                      refine S_n g 1 (pc' := 67) (lv' := [(0, .ref (ad 6)), (1, .ref (ad 100)), (2, .int (bI only)), (3, .int (nI z)), (4, .int (nI s)), (5, .int (nI 1))]) (st' := [.int ((nI s) &&& (nI ld))]) rfl ?_
                      refine S_steq (st' := [.int (nI (s &&& ld))]) (by rw [(show (nI s) &&& (nI ld) = nI (s &&& ld) from nI_and _ _).symm]) ?_
                      have hal : s &&& ld ≤ s := Nat.and_le_left
                      refine S_ifN_eq g (tgt := 77) (by omega) rfl (by decide) (fun qz67 => ?_) (fun qz67 => ?_)
                      · skip
                        have hsk : siL m lk (dmN m nu) ld nf nu z (s + 1) = siL m lk (dmN m nu) ld nf nu z s := by rw [siL, if_neg (fun q => by have := q.2.2.2; omega)]
                        refine S_n g 1 (pc' := 80) (lv' := [(0, .ref (ad 6)), (1, .ref (ad 100)), (2, .int (bI only)), (3, .int (nI z)), (4, .int ((nI s) + nI 1)), (5, .int (nI 1))]) (st' := []) rfl ?_
                        rw [nI_add s 1]
                        refine S_n g 1 (pc' := 12) (lv' := [(0, .ref (ad 6)), (1, .ref (ad 100)), (2, .int (bI only)), (3, .int (nI z)), (4, .int (nI (s + 1))), (5, .int (nI 1))]) (st' := []) rfl ?_
                        refine S_keep (lv' := [(0, .ref (ad 6)), (1, .ref (ad 100)), (2, .int (bI only)), (3, .int (nI z)), (4, .int (nI (s + 1)))]) [0, 1, 2, 3, 4] rfl ?_
                        exact lp2 (pw - (s + 1)) (by omega) (s + 1) I3 A3 B3 rfl (by omega) (by omega) (by rw [hsk]; exact hR3) hk3
                      · skip
                        have hlead : s &&& ld ≠ 0 := by omega
                        have hyes : siL m lk (dmN m nu) ld nf nu z (s + 1) = siL m lk (dmN m nu) ld nf nu z s ++ sbL m lk (dmN m nu) nf nu s 12 := by rw [siL, if_pos ⟨by omega, by omega, hz0, hlead⟩]
                        refine S_n g 3 (pc' := 74) (lv' := [(0, .ref (ad 6)), (1, .ref (ad 100)), (2, .int (bI only)), (3, .int (nI z)), (4, .int (nI s)), (5, .int (nI 1))]) (st' := [.int (nI s), .ref (ad 100), .ref (ad 6)]) rfl ?_
                        refine S_callV g (i := 6) (As := [.ref (ad 100), .int (nI s)]) (st := []) (s_sumsFor ad z0 z1 I3 J A3 B3 m nf nu hB h1 h2 h4 hmU lk hlk (fun u hu => by rw [hk3.2.2 7 (by decide) (by decide)]; exact hB7 u hu) hWs (fun p hp => by rw [hk3.2.1 8 (by decide)]; exact hA8 p hp) s (by omega) hz0 (soL m lk (dmN m nu) ld nf nu (nu - z) ++ siL m lk (dmN m nu) ld nf nu z s) hbz hR3) mw_X5_addSumsFor lk_X5_102 ⟨Nat.le_of_ble_eq_true rfl, Nat.le_of_ble_eq_true rfl⟩ (by decide) (by decide) rfl rfl (Nat.le_of_ble_eq_true rfl) ⟨Nat.le_of_ble_eq_true rfl, Nat.le_of_ble_eq_true rfl⟩ rfl (fun v' Y' I4 J4 A4 B4 hpo => ?_)
                        obtain ⟨rfl, rfl, e2, hR4, r4, hk4⟩ := hpo
                        rw [e2]
                        show Sim X (YC ad z0 z1) 77 [(0, .ref (ad 6)), (1, .ref (ad 100)), (2, .int (bI only)), (3, .int (nI z)), (4, .int (nI s)), (5, .int (nI 1))] [] I4 J A4 B4 0 0
                        refine S_n g 1 (pc' := 80) (lv' := [(0, .ref (ad 6)), (1, .ref (ad 100)), (2, .int (bI only)), (3, .int (nI z)), (4, .int ((nI s) + nI 1)), (5, .int (nI 1))]) (st' := []) rfl ?_
                        rw [nI_add s 1]
                        refine S_n g 1 (pc' := 12) (lv' := [(0, .ref (ad 6)), (1, .ref (ad 100)), (2, .int (bI only)), (3, .int (nI z)), (4, .int (nI (s + 1))), (5, .int (nI 1))]) (st' := []) rfl ?_
                        refine S_keep (lv' := [(0, .ref (ad 6)), (1, .ref (ad 100)), (2, .int (bI only)), (3, .int (nI z)), (4, .int (nI (s + 1)))]) [0, 1, 2, 3, 4] rfl ?_
                        exact lp2 (pw - (s + 1)) (by omega) (s + 1) I4 A4 B4 rfl (by omega) (by omega) (by rw [hyes, ← List.append_assoc]; exact hR4) (kpS_tr hk3 (kpS_9 hk4))
        exact lp2 _ 1 I2 A2 B2 rfl (Nat.le_refl _) hp1 (by rw [e1, List.append_nil]; exact hR2) hk2
  exact lp _ nu I A B rfl (Nat.le_refl _) (by rw [Nat.sub_self]; exact hR) (kpS_rf I A B)
