/-! the class: storeSubsets -/
theorem RepW_fr {m : Nat → Int64} {I I' : FI} {J J' : FJ} {A A' : FI} {B B' : FJ} (h : RepW 100 m I J A B) (e : ∀ i, 100 ≤ i → i < 150 → I' i = I i ∧ J' i = J i ∧ A' i = A i ∧ B' i = B i) : RepW 100 m I' J' A' B' := by
  obtain ⟨h0, h1, h2, h3, h4, h5, h6, h7, h8⟩ := h
  have eI : ∀ i k, 100 ≤ i → i < 150 → I' i k = I i k := fun i k a b => by rw [(e i a b).1]
  refine ⟨r0_h h0 (fun k _ => eI _ _ (by omega) (by omega)), r1_h h1 (eI _ _ (by omega) (by omega)), r2_h h2 (e _ (by omega) (by omega)).2.2.1, r3_h h3 (fun w hw => by rw [(e _ (by omega) (by omega)).2.1]) (fun w hw => eI _ _ (by omega) (by omega)), r4_h h4 (fun w hw k => eI _ _ (by omega) (by omega)) (fun w hw => (e _ (by omega) (by omega)).2.2.2), r5_h h5 (fun w hw => (e _ (by omega) (by omega)).2.2.1), r6_h h6 (fun k => eI _ _ (by omega) (by omega)) (e _ (by omega) (by omega)).2.2.2, r7_h h7 (fun k => eI _ _ (by omega) (by omega)) (e _ (by omega) (by omega)).2.2.2, r8_h h8 (eI _ _ (by omega) (by omega)) (e _ (by omega) (by omega)).2.2.1 (e _ (by omega) (by omega)).2.2.1 (e _ (by omega) (by omega)).2.2.1⟩
theorem flS_bit {t nu u b : Nat} (hb : b < 64) : ∀ n, n ≤ 60 → tb (flS t nu u n) b = (decide (b < n) && (sfn t (b % 12 % nst t (2 ^ nu)) (2 ^ nu) - 1).testBit u)
  | 0, _ => by rw [flS, tb_0]; simp
  | n + 1, hn => by
    rw [flS, tb_or, flS_bit hb n (by omega)]
    by_cases e : b = n
    · subst e
      rw [decide_eq_false (Nat.lt_irrefl _), Bool.false_and, Bool.false_or, decide_eq_true (by omega), Bool.true_and]
      split
      · next q => rw [tb_b1 (by omega) hb, q]; simp
      · next q => rw [tb_0]; simpa using q
    · have e1 : tb (if (sfn t (n % 12 % nst t (2 ^ nu)) (2 ^ nu) - 1).testBit u = true then b1 n else lN 0) b = false := by
        split
        · rw [tb_b1 (by omega) hb, decide_eq_false e]
        · exact tb_0 b
      rw [e1, Bool.or_false]
      congr 1
      by_cases q : b < n
      · rw [decide_eq_true q, decide_eq_true (by omega)]
      · rw [decide_eq_false q, decide_eq_false (by omega)]
theorem flS_12 {t nu u f : Nat} (hf : f < 5) : flS t nu u (12 * f) ||| flS t nu u 12 <<< ((nI (12 * f)).toInt64 &&& 63) = flS t nu u (12 * (f + 1)) := by
  apply tb_ext
  intro b hb
  rw [tb_or, tb_shl _ (by omega) _ hb, flS_bit hb _ (by omega), flS_bit hb _ (by omega)]
  by_cases q1 : b < 12 * f
  · rw [decide_eq_true q1, decide_eq_true (show b < 12 * (f + 1) by omega), decide_eq_false (show ¬ 12 * f ≤ b by omega)]
    simp
  · rw [decide_eq_false q1, decide_eq_true (show 12 * f ≤ b by omega), flS_bit (by omega) _ (by decide)]
    by_cases q2 : b < 12 * (f + 1)
    · rw [decide_eq_true (show b - 12 * f < 12 by omega), decide_eq_true q2, show (b - 12 * f) % 12 = b % 12 by omega]
      simp
    · rw [decide_eq_false (show ¬ b - 12 * f < 12 by omega), decide_eq_false q2]
      simp
theorem ftS_bad {t nu nf nc u : Nat} (h : ¬ ctb (flS t nu u (12 * nf)) 60 ≤ nc) : ∀ k, u < k → ftS t nu nf nc k = false
  | 0, q => absurd q (Nat.not_lt_zero u)
  | k + 1, q => by
    rw [ftS]
    by_cases e : u = k
    · subst e; rw [decide_eq_false h, Bool.and_false]
    · rw [ftS_bad h k (by omega), Bool.false_and]
theorem sfn_64 {t i nu : Nat} (h4 : nu ≤ 6) : sfn t i (2 ^ nu) - 1 < 64 := by
  have h1 := sfn_le t i (2 ^ nu)
  have h2 : 2 ^ nu ≤ 2 ^ 6 := Nat.pow_le_pow_right (by decide) h4
  omega
/-- what the parts' sets are -/
def dlR (t nu : Nat) (r : Nat → Int32) : Prop := ∀ k, k < 12 → r k = nI (sfn t (k % nst t (2 ^ nu)) (2 ^ nu) - 1)

set_option maxRecDepth 100000 in
set_option maxHeartbeats 4000000 in
theorem c_deal (ad : Nat → Nat) (z0 z1 : Bool) (I : FI) (J : FJ) (A : FI) (B : FJ) (t nu : Nat) (hU : I 100 6 = nI nu) (h4 : nu ≤ 6) (ht : t ≤ nu) : Spec M_X8_dealSubsets [.ref (ad 0), .int (nI t)] (YC ad z0 z1) I J A B (fun v' Y' I' J' A' B' => v' = some (.int (nI (nst t (2 ^ nu)))) ∧ Y' = YC ad z0 z1 ∧ I' = I ∧ J' = J ∧ B' = B ∧ ∃ r, A' = va_up A 15 r ∧ dlR t nu r) := by
  have h64 : 2 ^ nu ≤ 2 ^ 6 := Nat.pow_le_pow_right (by decide) h4
  have hN := nst_pos ht h4
  have hN2 := nst_le t (2 ^ nu)
  obtain ⟨p, hp⟩ : ∃ p, p = 2 ^ nu := ⟨_, rfl⟩
  unfold dlR
  rw [← hp] at h64 hN hN2 ⊢
  refine Spec_of (by decide) tk_X8_dealSubsets (Nat.le_of_ble_eq_true rfl) (fun X g rt => ?_)
  show Sim X (YC ad z0 z1) 0 [(0, .ref (ad 0)), (1, .int (nI t))] [] I J A B 0 0
  refine S_n g 4 (pc' := 4) (lv' := [(0, .ref (ad 0)), (1, .int (nI t)), (2, .int (nI 0)), (3, .int (nI 0))]) (st' := []) rfl ?_
  have lp : ∀ (nn : Nat) (s : Nat) (r : Nat → Int32), p - s = nn → (s ≤ p) → (∀ k, k < nst t s → k < 12 → r k = nI (sfn t k s - 1)) → Sim X (YC ad z0 z1) 4 [(0, .ref (ad 0)), (1, .int (nI t)), (2, .int (nI (nst t s))), (3, .int (nI s))] [] I J (va_up A 15 r) B 0 0 := by
    intro nn
    induction nn using Nat.strongRecOn with
    | ind nn ih =>
      intro s r hmz hs hr
      have lp := ih
      have hnl := nst_le t s
      refine S_n g 3 (pc' := 7) (lv' := [(0, .ref (ad 0)), (1, .int (nI t)), (2, .int (nI (nst t s))), (3, .int (nI s))]) (st' := [.ref (ad 0), .int (nI 1), .int (nI s)]) rfl ?_
      refine S_getR g (i := 0) (c := 8) (k := 0) (j := 100) (by decide) (by decide) rfl rfl rfl fl_X8_10 rfl ?_
      refine S_getI g (i := 100) (c := 7) (k := 6) (by decide) (by decide) rfl rfl fl_X8_104 rfl ?_
      rw [hU]
      refine S_n g 1 (pc' := 14) (lv' := [(0, .ref (ad 0)), (1, .int (nI t)), (2, .int (nI (nst t s))), (3, .int (nI s))]) (st' := [.int ((nI 1) <<< ((nI nu) &&& 31)), .int (nI s)]) rfl ?_
      refine S_steq (st' := [.int (nI p), .int (nI s)]) (by rw [(show (nI 1) <<< ((nI nu) &&& 31) = nI p from by rw [hp]; exact i1_nI (by omega)).symm]) ?_
      refine S_icN_ge g (tgt := 47) (by omega) (by omega) rfl (by decide) (fun qz14 => ?_) (fun qz14 => ?_)
      · skip
        have hs9 : s = p := by omega
        subst hs9
        refine S_n g 2 (pc' := 49) (lv' := [(0, .ref (ad 0)), (1, .int (nI t)), (2, .int (nI (nst t s))), (3, .int (nI (nst t s)))]) (st' := []) rfl ?_
        obtain ⟨N, hNN⟩ : ∃ N, N = nst t s := ⟨_, rfl⟩
        rw [← hNN] at hN hN2 hnl hr ⊢
        show Sim X (YC ad z0 z1) 49 [(0, .ref (ad 0)), (1, .int (nI t)), (2, .int (nI N)), (3, .int (nI N))] [] I J (va_up A 15 r) B 0 0
        have lp2 : ∀ (nn : Nat) (k : Nat) (c : Nat → Int32), 12 - k = nn → (N ≤ k) → (k ≤ 12 + N) → (∀ j, j < k → j < 12 → c j = nI (sfn t (j % N) s - 1)) → Sim X (YC ad z0 z1) 49 [(0, .ref (ad 0)), (1, .int (nI t)), (2, .int (nI N)), (3, .int (nI k))] [] I J (va_up A 15 c) B 0 0 := by
          intro nn
          induction nn using Nat.strongRecOn with
          | ind nn ih =>
            intro k c hmz hk hkb hc
            have lp2 := ih
            refine S_n g 2 (pc' := 52) (lv' := [(0, .ref (ad 0)), (1, .int (nI t)), (2, .int (nI N)), (3, .int (nI k))]) (st' := [.int (nI 12), .int (nI k)]) rfl ?_
            refine S_icN_ge g (tgt := 75) (by omega) (by omega) rfl (by decide) (fun qz52 => ?_) (fun qz52 => ?_)
            · skip
              refine S_n g 1 (pc' := 76) (lv' := [(0, .ref (ad 0)), (1, .int (nI t)), (2, .int (nI N)), (3, .int (nI k))]) (st' := [.int (nI N)]) rfl ?_
              exact rtI rt rfl rfl (⟨by rw [hNN], rfl, rfl, rfl, rfl, c, rfl, fun k hk => by rw [← hNN]; exact hc k (by omega) hk⟩)
            · skip
              refine S_n g 1 (pc' := 56) (lv' := [(0, .ref (ad 0)), (1, .int (nI t)), (2, .int (nI N)), (3, .int (nI k))]) (st' := [.ref (ad 0)]) rfl ?_
              refine S_getR g (i := 0) (c := 8) (k := 6) (j := 15) (by decide) (by decide) rfl rfl rfl fl_X8_48 rfl ?_
              refine S_n g 2 (pc' := 61) (lv' := [(0, .ref (ad 0)), (1, .int (nI t)), (2, .int (nI N)), (3, .int (nI k))]) (st' := [.ref (ad 0), .int (nI k), .ref (ad 15)]) rfl ?_
              refine S_getR g (i := 0) (c := 8) (k := 6) (j := 15) (by decide) (by decide) rfl rfl rfl fl_X8_48 rfl ?_
              refine S_n g 3 (pc' := 67) (lv' := [(0, .ref (ad 0)), (1, .int (nI t)), (2, .int (nI N)), (3, .int (nI k))]) (st' := [.int ((nI k) - (nI N)), .ref (ad 15), .int (nI k), .ref (ad 15)]) rfl ?_
              rw [pk_sub (a := k) (b := N) (by omega)]
              refine S_ialdN g (i := 15) (e := k - N) (by decide) rfl (show k - N < 12 from by omega) (show (12 : Nat) < 2 ^ 31 from by decide) rfl ?_
              show Sim X (YC ad z0 z1) 68 [(0, .ref (ad 0)), (1, .int (nI t)), (2, .int (nI N)), (3, .int (nI k))] [.int (c (k - N)), .int (nI k), .ref (ad 15)] I J (va_up A 15 c) B 0 0
              refine S_iastN g (i := 15) (e := k) (by decide) rfl (show k < 12 from by omega) (show (12 : Nat) < 2 ^ 31 from by decide) rfl ?_
              rw [up2_r1 (i := 15)]
              refine S_n g 1 (pc' := 72) (lv' := [(0, .ref (ad 0)), (1, .int (nI t)), (2, .int (nI N)), (3, .int ((nI k) + nI 1))]) (st' := []) rfl ?_
              rw [nI_add k 1]
              refine S_n g 1 (pc' := 49) (lv' := [(0, .ref (ad 0)), (1, .int (nI t)), (2, .int (nI N)), (3, .int (nI (k + 1)))]) (st' := []) rfl ?_
              exact lp2 (12 - (k + 1)) (by omega) (k + 1) (va_up c k (c (k - N))) rfl (by omega) (by omega) (fun j hj hj2 => by by_cases e : j = k; (· subst e; rw [va_up_self, hc _ (by omega) (by omega), Nat.mod_eq_sub_mod (show j ≥ N by omega)]); (· rw [va_up_ne _ _ e]; exact hc j (by omega) hj2))
        exact lp2 _ N r rfl (Nat.le_refl _) (by omega) (fun j hj hj2 => by rw [Nat.mod_eq_of_lt hj]; exact hr j hj hj2)
      · skip
        refine S_n g 1 (pc' := 18) (lv' := [(0, .ref (ad 0)), (1, .int (nI t)), (2, .int (nI (nst t s))), (3, .int (nI s))]) (st' := [.int (nI s)]) rfl ?_
        refine S_cS g (As := [.int (nI s)]) (st := []) (sp_bitI (YC ad z0 z1) I J (va_up A 15 r) B s (by omega)) mw_J6_bitCount_0f7a4 lk_X8_121 ⟨Nat.le_of_ble_eq_true rfl, Nat.le_of_ble_eq_true rfl⟩ rfl (Nat.le_of_ble_eq_true rfl) ⟨Nat.le_of_ble_eq_true rfl, Nat.le_of_ble_eq_true rfl⟩ rfl ?_
        have hcl := ctb_le (lN s) 60
        show Sim X (YC ad z0 z1) 21 [(0, .ref (ad 0)), (1, .int (nI t)), (2, .int (nI (nst t s))), (3, .int (nI s))] [.int (nI (ctb (lN s) 60))] I J (va_up A 15 r) B 0 0
        refine S_n g 1 (pc' := 22) (lv' := [(0, .ref (ad 0)), (1, .int (nI t)), (2, .int (nI (nst t s))), (3, .int (nI s))]) (st' := [.int (nI t), .int (nI (ctb (lN s) 60))]) rfl ?_
        refine S_icN_ne g (tgt := 41) (by omega) (by omega) rfl (by decide) (fun qz22 => ?_) (fun qz22 => ?_)
        · skip
          have hq : ¬ ctb (lN s) 60 = t := by omega
          refine S_n g 1 (pc' := 44) (lv' := [(0, .ref (ad 0)), (1, .int (nI t)), (2, .int (nI (nst t s))), (3, .int ((nI s) + nI 1))]) (st' := []) rfl ?_
          rw [nI_add s 1]
          refine S_n g 1 (pc' := 4) (lv' := [(0, .ref (ad 0)), (1, .int (nI t)), (2, .int (nI (nst t s))), (3, .int (nI (s + 1)))]) (st' := []) rfl ?_
          refine S_lveq (lv' := [(0, .ref (ad 0)), (1, .int (nI t)), (2, .int (nI (nst t (s + 1)))), (3, .int (nI (s + 1)))]) (by rw [(show nI (nst t s) = nI (nst t (s + 1)) from by rw [nst_f hq]).symm]) ?_
          exact lp (p - (s + 1)) (by omega) (s + 1) r rfl (by omega) (fun k hk hk2 => by rw [nst_f hq] at hk; rw [sfn, if_neg (fun q => hq q.1)]; exact hr k hk hk2)
        · skip
          have hq : ctb (lN s) 60 = t := by omega
          refine S_n g 2 (pc' := 28) (lv' := [(0, .ref (ad 0)), (1, .int (nI t)), (2, .int (nI (nst t s))), (3, .int (nI s))]) (st' := [.int (nI 12), .int (nI (nst t s))]) rfl ?_
          refine S_icN_ge g (tgt := 38) (by omega) (by omega) rfl (by decide) (fun qz28 => ?_) (fun qz28 => ?_)
          · skip
            refine S_n g 1 (pc' := 41) (lv' := [(0, .ref (ad 0)), (1, .int (nI t)), (2, .int ((nI (nst t s)) + nI 1)), (3, .int (nI s))]) (st' := []) rfl ?_
            rw [nI_add (nst t s) 1]
            refine S_n g 1 (pc' := 44) (lv' := [(0, .ref (ad 0)), (1, .int (nI t)), (2, .int (nI (nst t s + 1))), (3, .int ((nI s) + nI 1))]) (st' := []) rfl ?_
            rw [nI_add s 1]
            refine S_n g 1 (pc' := 4) (lv' := [(0, .ref (ad 0)), (1, .int (nI t)), (2, .int (nI (nst t s + 1))), (3, .int (nI (s + 1)))]) (st' := []) rfl ?_
            refine S_lveq (lv' := [(0, .ref (ad 0)), (1, .int (nI t)), (2, .int (nI (nst t (s + 1)))), (3, .int (nI (s + 1)))]) (by rw [(show nI (nst t s + 1) = nI (nst t (s + 1)) from by rw [nst_t hq]).symm]) ?_
            exact lp (p - (s + 1)) (by omega) (s + 1) r rfl (by omega) (fun k hk hk2 => by rw [sfn, if_neg (fun q => by omega)]; exact hr k (by omega) hk2)
          · skip
            refine S_n g 1 (pc' := 32) (lv' := [(0, .ref (ad 0)), (1, .int (nI t)), (2, .int (nI (nst t s))), (3, .int (nI s))]) (st' := [.ref (ad 0)]) rfl ?_
            refine S_getR g (i := 0) (c := 8) (k := 6) (j := 15) (by decide) (by decide) rfl rfl rfl fl_X8_48 rfl ?_
            refine S_n g 2 (pc' := 37) (lv' := [(0, .ref (ad 0)), (1, .int (nI t)), (2, .int (nI (nst t s))), (3, .int (nI s))]) (st' := [.int (nI s), .int (nI (nst t s)), .ref (ad 15)]) rfl ?_
            refine S_iastN g (i := 15) (e := nst t s) (by decide) rfl (show nst t s < 12 from by omega) (show (12 : Nat) < 2 ^ 31 from by decide) rfl ?_
            rw [up2_r1 (i := 15)]
            refine S_n g 1 (pc' := 41) (lv' := [(0, .ref (ad 0)), (1, .int (nI t)), (2, .int ((nI (nst t s)) + nI 1)), (3, .int (nI s))]) (st' := []) rfl ?_
            rw [nI_add (nst t s) 1]
            refine S_n g 1 (pc' := 44) (lv' := [(0, .ref (ad 0)), (1, .int (nI t)), (2, .int (nI (nst t s + 1))), (3, .int ((nI s) + nI 1))]) (st' := []) rfl ?_
            rw [nI_add s 1]
            refine S_n g 1 (pc' := 4) (lv' := [(0, .ref (ad 0)), (1, .int (nI t)), (2, .int (nI (nst t s + 1))), (3, .int (nI (s + 1)))]) (st' := []) rfl ?_
            refine S_lveq (lv' := [(0, .ref (ad 0)), (1, .int (nI t)), (2, .int (nI (nst t (s + 1)))), (3, .int (nI (s + 1)))]) (by rw [(show nI (nst t s + 1) = nI (nst t (s + 1)) from by rw [nst_t hq]).symm]) ?_
            exact lp (p - (s + 1)) (by omega) (s + 1) (va_up r (nst t s) (nI s)) rfl (by omega) (fun k hk hk2 => by by_cases e : k = nst t s; (· subst e; rw [va_up_self, sfn, if_pos ⟨hq, rfl⟩]; rfl); (· rw [va_up_ne _ _ e, sfn, if_neg (fun q => e q.2.symm)]; rw [nst_t hq] at hk; exact hr k (by omega) hk2))
  have h0 := lp _ 0 (A 15) rfl (Nat.zero_le _) (fun k hk => absurd hk (Nat.not_lt_zero k))
  rw [va_id] at h0
  exact h0

theorem or_z (x : Int64) : x ||| lN 0 = x := by apply tb_ext; intro i hi; rw [tb_or, tb_0, Bool.or_false]

set_option maxRecDepth 100000 in
set_option maxHeartbeats 4000000 in
theorem c_dealt (ad : Nat → Nat) (z0 z1 : Bool) (I : FI) (J : FJ) (A : FI) (B : FJ) (t nu nf u : Nat) (hF : I 100 5 = nI nf) (h2 : nf ≤ 5) (h4 : nu ≤ 6) (hu : u < 6) (hA : dlR t nu (A 15)) : Spec M_X8_dealtTo [.ref (ad 0), .int (nI u)] (YC ad z0 z1) I J A B (eqP (some (.long (flS t nu u (12 * nf)))) (YC ad z0 z1) I J A B) := by
  refine Spec_of (by decide) tk_X8_dealtTo (Nat.le_of_ble_eq_true rfl) (fun X g rt => ?_)
  show Sim X (YC ad z0 z1) 0 [(0, .ref (ad 0)), (1, .int (nI u))] [] I J A B 0 0
  refine S_n g 4 (pc' := 5) (lv' := [(0, .ref (ad 0)), (1, .int (nI u)), (2, .long (lN 0)), (4, .int (nI 0))]) (st' := []) rfl ?_
  have lp : ∀ (nn : Nat) (k : Nat), 12 - k = nn → (k ≤ 12) → Sim X (YC ad z0 z1) 5 [(0, .ref (ad 0)), (1, .int (nI u)), (2, .long (flS t nu u k)), (4, .int (nI k))] [] I J A B 0 0 := by
    intro nn
    induction nn using Nat.strongRecOn with
    | ind nn ih =>
      intro k hmz hk
      have lp := ih
      refine S_n g 2 (pc' := 9) (lv' := [(0, .ref (ad 0)), (1, .int (nI u)), (2, .long (flS t nu u k)), (4, .int (nI k))]) (st' := [.int (nI 12), .int (nI k)]) rfl ?_
      refine S_icN_ge g (tgt := 39) (by omega) (by omega) rfl (by decide) (fun qz9 => ?_) (fun qz9 => ?_)
      · skip
        have hk9 : k = 12 := by omega
        subst hk9
        refine S_n g 4 (pc' := 45) (lv' := [(0, .ref (ad 0)), (1, .int (nI u)), (2, .long (flS t nu u 12)), (4, .long (lN 0)), (6, .int (nI 0))]) (st' := []) rfl ?_
        have lp2 : ∀ (nn : Nat) (f : Nat), nf - f = nn → (f ≤ nf) → Sim X (YC ad z0 z1) 45 [(0, .ref (ad 0)), (1, .int (nI u)), (2, .long (flS t nu u 12)), (4, .long (flS t nu u (12 * f))), (6, .int (nI f))] [] I J A B 0 0 := by
          intro nn
          induction nn using Nat.strongRecOn with
          | ind nn ih =>
            intro f hmz hf
            have lp2 := ih
            refine S_n g 2 (pc' := 48) (lv' := [(0, .ref (ad 0)), (1, .int (nI u)), (2, .long (flS t nu u 12)), (4, .long (flS t nu u (12 * f))), (6, .int (nI f))]) (st' := [.ref (ad 0), .int (nI f)]) rfl ?_
            refine S_getR g (i := 0) (c := 8) (k := 0) (j := 100) (by decide) (by decide) rfl rfl rfl fl_X8_10 rfl ?_
            refine S_getI g (i := 100) (c := 7) (k := 5) (by decide) (by decide) rfl rfl fl_X8_125 rfl ?_
            rw [hF]
            refine S_icN_ge g (tgt := 75) (by omega) (by omega) rfl (by decide) (fun qz54 => ?_) (fun qz54 => ?_)
            · skip
              have hf9 : f = nf := by omega
              subst hf9
              refine S_n g 1 (pc' := 77) (lv' := [(0, .ref (ad 0)), (1, .int (nI u)), (2, .long (flS t nu u 12)), (4, .long (flS t nu u (12 * f))), (6, .int (nI f))]) (st' := [.long (flS t nu u (12 * f))]) rfl ?_
              exact rtL rt rfl rfl eqP_rf
            · skip
              refine S_n g 5 (pc' := 65) (lv' := [(0, .ref (ad 0)), (1, .int (nI u)), (2, .long (flS t nu u 12)), (4, .long (flS t nu u (12 * f))), (6, .int (nI f))]) (st' := [.int ((nI 12) * (nI f)), .long (flS t nu u 12), .long (flS t nu u (12 * f))]) rfl ?_
              rw [pk_mul 12 f]
              refine S_n g 2 (pc' := 67) (lv' := [(0, .ref (ad 0)), (1, .int (nI u)), (2, .long (flS t nu u 12)), (4, .long (flS t nu u (12 * f))), (6, .int (nI f))]) (st' := [.long ((flS t nu u (12 * f)) ||| ((flS t nu u 12) <<< ((nI (12 * f)).toInt64 &&& 63)))]) rfl ?_
              refine S_steq (st' := [.long (flS t nu u (12 * (f + 1)))]) (by rw [(show (flS t nu u (12 * f)) ||| ((flS t nu u 12) <<< ((nI (12 * f)).toInt64 &&& 63)) = flS t nu u (12 * (f + 1)) from flS_12 (by omega)).symm]) ?_
              refine S_n g 2 (pc' := 72) (lv' := [(0, .ref (ad 0)), (1, .int (nI u)), (2, .long (flS t nu u 12)), (4, .long (flS t nu u (12 * (f + 1)))), (6, .int ((nI f) + nI 1))]) (st' := []) rfl ?_
              rw [nI_add f 1]
              refine S_n g 1 (pc' := 45) (lv' := [(0, .ref (ad 0)), (1, .int (nI u)), (2, .long (flS t nu u 12)), (4, .long (flS t nu u (12 * (f + 1)))), (6, .int (nI (f + 1)))]) (st' := []) rfl ?_
              exact lp2 (nf - (f + 1)) (by omega) (f + 1) rfl (by omega)
        exact lp2 _ 0 rfl (Nat.zero_le _)
      · skip
        refine S_n g 1 (pc' := 13) (lv' := [(0, .ref (ad 0)), (1, .int (nI u)), (2, .long (flS t nu u k)), (4, .int (nI k))]) (st' := [.ref (ad 0)]) rfl ?_
        refine S_getR g (i := 0) (c := 8) (k := 6) (j := 15) (by decide) (by decide) rfl rfl rfl fl_X8_48 rfl ?_
        refine S_n g 1 (pc' := 18) (lv' := [(0, .ref (ad 0)), (1, .int (nI u)), (2, .long (flS t nu u k)), (4, .int (nI k))]) (st' := [.int (nI k), .ref (ad 15)]) rfl ?_
        refine S_ialdN g (i := 15) (e := k) (by decide) rfl (show k < 12 from by omega) (show (12 : Nat) < 2 ^ 31 from by decide) rfl ?_
        rw [hA k (by omega)]
        refine S_n g 4 (pc' := 23) (lv' := [(0, .ref (ad 0)), (1, .int (nI u)), (2, .long (flS t nu u k)), (4, .int (nI k))]) (st' := [.int (((nI (sfn t (k % nst t (2 ^ nu)) (2 ^ nu) - 1)) >>> ((nI u) &&& 31)) &&& (nI 1))]) rfl ?_
        refine S_steq (st' := [.int (nI ((sfn t (k % nst t (2 ^ nu)) (2 ^ nu) - 1).testBit u).toNat)]) (by rw [(show ((nI (sfn t (k % nst t (2 ^ nu)) (2 ^ nu) - 1)) >>> ((nI u) &&& 31)) &&& (nI 1) = nI ((sfn t (k % nst t (2 ^ nu)) (2 ^ nu) - 1).testBit u).toNat from bit_nat (by omega)).symm]) ?_
        have hb1 : ((sfn t (k % nst t (2 ^ nu)) (2 ^ nu) - 1).testBit u).toNat ≤ 1 := Bool.toNat_le _
        have hm12 : k % 12 = k := Nat.mod_eq_of_lt (by omega)
        refine S_ifN_eq g (tgt := 33) (by omega) rfl (by decide) (fun qz23 => ?_) (fun qz23 => ?_)
        · skip
          refine S_lveq (lv' := [(0, .ref (ad 0)), (1, .int (nI u)), (2, .long (flS t nu u (k + 1))), (4, .int (nI k))]) (by rw [(show flS t nu u k = flS t nu u (k + 1) from by rw [flS, hm12, if_neg (by cases hbv : (sfn t (k % nst t (2 ^ nu)) (2 ^ nu) - 1).testBit u <;> simp_all)]; exact (or_z _).symm).symm]) ?_
          refine S_n g 1 (pc' := 36) (lv' := [(0, .ref (ad 0)), (1, .int (nI u)), (2, .long (flS t nu u (k + 1))), (4, .int ((nI k) + nI 1))]) (st' := []) rfl ?_
          rw [nI_add k 1]
          refine S_n g 1 (pc' := 5) (lv' := [(0, .ref (ad 0)), (1, .int (nI u)), (2, .long (flS t nu u (k + 1))), (4, .int (nI (k + 1)))]) (st' := []) rfl ?_
          exact lp (12 - (k + 1)) (by omega) (k + 1) rfl (by omega)
        · skip
          refine S_n g 5 (pc' := 32) (lv' := [(0, .ref (ad 0)), (1, .int (nI u)), (2, .long (flS t nu u k)), (4, .int (nI k))]) (st' := [.long ((flS t nu u k) ||| ((lN 1) <<< ((nI k).toInt64 &&& 63)))]) rfl ?_
          refine S_steq (st' := [.long (flS t nu u (k + 1))]) (by rw [(show (flS t nu u k) ||| ((lN 1) <<< ((nI k).toInt64 &&& 63)) = flS t nu u (k + 1) from by rw [flS, hm12, if_pos (by cases hbv : (sfn t (k % nst t (2 ^ nu)) (2 ^ nu) - 1).testBit u <;> simp_all)]).symm]) ?_
          refine S_n g 2 (pc' := 36) (lv' := [(0, .ref (ad 0)), (1, .int (nI u)), (2, .long (flS t nu u (k + 1))), (4, .int ((nI k) + nI 1))]) (st' := []) rfl ?_
          rw [nI_add k 1]
          refine S_n g 1 (pc' := 5) (lv' := [(0, .ref (ad 0)), (1, .int (nI u)), (2, .long (flS t nu u (k + 1))), (4, .int (nI (k + 1)))]) (st' := []) rfl ?_
          exact lp (12 - (k + 1)) (by omega) (k + 1) rfl (by omega)
  exact lp _ 0 rfl (Nat.zero_le _)

set_option maxRecDepth 100000 in
set_option maxHeartbeats 4000000 in
theorem c_subs (ad : Nat → Nat) (z0 z1 : Bool) (I : FI) (J : FJ) (A : FI) (B : FJ) (x : Int32) (m : Nat → Int64) (hG : WG m) (hR : RepW 100 m I J A B) : Spec M_X8_storeSubsets [.ref (ad 0), .int x] (YC ad z0 z1) I J A B (cP ad z0 z1 I J A B (.int (k_subs m x).1) (k_subs m x).2) := by
  have hW : Wf m (gN (m 0)) (gN (m 1)) (gN (m 2)) (gN (m 327)) (gN (m 428)) (gN (m 529)) (lnG m) := hG
  unfold k_subs
  generalize gN (m 0) = nf at hW ⊢
  generalize gN (m 1) = nu at hW ⊢
  generalize gN (m 2) = nc at hW ⊢
  obtain ⟨hmF, hmU, hmC, h1, h2, h3, h4, h5⟩ := hW.1
  have hF : I 100 5 = nI nf := by rw [hR.1.1, hmF, lN_i]
  have hU : I 100 6 = nI nu := by rw [hR.1.2.1, hmU, lN_i]
  have hC : I 100 7 = nI nc := by rw [hR.1.2.2.1, hmC, lN_i]
  refine Spec_of (by decide) tk_X8_storeSubsets (Nat.le_of_ble_eq_true rfl) (fun X g rt => ?_)
  show Sim X (YC ad z0 z1) 0 [(0, .ref (ad 0)), (1, .int x)] [] I J A B 0 0
  refine S_n g 1 (pc' := 1) (lv' := [(0, .ref (ad 0)), (1, .int x)]) (st' := [.int x]) rfl ?_
  refine S_if_lt g (tgt := 15) rfl (by decide) (fun qz1 => ?_) (fun qz1 => ?_)
  · skip
    refine S_n g 1 (pc' := 17) (lv' := [(0, .ref (ad 0)), (1, .int x)]) (st' := [.int (-nI 101)]) rfl ?_
    exact rtI rt rfl rfl (⟨by rw [o_storeSubsets, ix_lo qz1, if_neg (by decide)], rfl, by rw [o_storeSubsets, ix_lo qz1, if_neg (by decide)]; exact hR, kpC_rf I J A B⟩)
  · skip
    refine S_n g 2 (pc' := 6) (lv' := [(0, .ref (ad 0)), (1, .int x)]) (st' := [.ref (ad 0), .int x]) rfl ?_
    refine S_getR g (i := 0) (c := 8) (k := 0) (j := 100) (by decide) (by decide) rfl rfl rfl fl_X8_10 rfl ?_
    refine S_getI g (i := 100) (c := 7) (k := 6) (by decide) (by decide) rfl rfl fl_X8_104 rfl ?_
    rw [hU]
    refine S_ic_le g (tgt := 18) rfl (by decide) (fun qz12 => ?_) (fun qz12 => ?_)
    · skip
      have hx : isIx x (nu + 1) = true := ix_le qz1 qz12 (by omega)
      obtain ⟨t, ht, hxt⟩ := isIx_t hx
      subst hxt
      have hct : (nI t).toNatClampNeg = t := nI_clamp (by omega)
      have ho : o_storeSubsets nf nu nc m (nI t) = if ftS t nu nf nc nu = true then (nI (nst t (2 ^ nu)), cpS t nu nf m nu) else (-nI 103, m) := by rw [o_storeSubsets, if_pos hx, show ix (nI t) = t from hct]
      refine S_n g 2 (pc' := 20) (lv' := [(0, .ref (ad 0)), (1, .int (nI t))]) (st' := [.int (nI t), .ref (ad 0)]) rfl ?_
      refine S_callV g (i := 0) (As := [.int (nI t)]) (st := []) (c_deal ad z0 z1 I J A B t nu hU h4 (by omega)) mw_X8_dealSubsets lk_X8_107 ⟨Nat.le_of_ble_eq_true rfl, Nat.le_of_ble_eq_true rfl⟩ (by decide) (by decide) rfl rfl (Nat.le_of_ble_eq_true rfl) ⟨Nat.le_of_ble_eq_true rfl, Nat.le_of_ble_eq_true rfl⟩ rfl (fun v' Y' I2 J2 A2 B2 hpo => ?_)
      obtain ⟨rfl, rfl, e1, e2, e3, r, e4, hdl⟩ := hpo
      rw [e1, e2, e3, e4]
      show Sim X (YC ad z0 z1) 23 [(0, .ref (ad 0)), (1, .int (nI t))] [.int (nI (nst t (2 ^ nu)))] I J (va_up A 15 r) B 0 0
      have hdl2 : dlR t nu (va_up A 15 r 15) := by rw [va_up_self]; exact hdl
      have hR0 : RepW 100 m I J (va_up A 15 r) B := RepW_fr hR (fun i a b => ⟨rfl, rfl, va_up_ne _ _ (by omega), rfl⟩)
      have hk0 : kpC I J A B I J (va_up A 15 r) B := ⟨fun i hi => ⟨rfl, rfl, va_up_ne _ _ (by omega), rfl⟩, rfl, rfl, rfl, rfl, rfl⟩
      refine S_n g 3 (pc' := 26) (lv' := [(0, .ref (ad 0)), (1, .int (nI t)), (2, .int (nI (nst t (2 ^ nu)))), (3, .int (nI 0))]) (st' := []) rfl ?_
      have lp : ∀ (nn : Nat) (u : Nat), nu - u = nn → (u ≤ nu) → (ftS t nu nf nc u = true) → Sim X (YC ad z0 z1) 26 [(0, .ref (ad 0)), (1, .int (nI t)), (2, .int (nI (nst t (2 ^ nu)))), (3, .int (nI u))] [] I J (va_up A 15 r) B 0 0 := by
        intro nn
        induction nn using Nat.strongRecOn with
        | ind nn ih =>
          intro u hmz hu0 hft
          have lp := ih
          refine S_n g 2 (pc' := 28) (lv' := [(0, .ref (ad 0)), (1, .int (nI t)), (2, .int (nI (nst t (2 ^ nu)))), (3, .int (nI u))]) (st' := [.ref (ad 0), .int (nI u)]) rfl ?_
          refine S_getR g (i := 0) (c := 8) (k := 0) (j := 100) (by decide) (by decide) rfl rfl rfl fl_X8_10 rfl ?_
          refine S_getI g (i := 100) (c := 7) (k := 6) (by decide) (by decide) rfl rfl fl_X8_104 rfl ?_
          rw [hU]
          refine S_icN_ge g (tgt := 64) (by omega) (by omega) rfl (by decide) (fun qz34 => ?_) (fun qz34 => ?_)
          · skip
            have hu9 : u = nu := by omega
            subst hu9
            rw [if_pos hft] at ho
            refine S_n g 2 (pc' := 66) (lv' := [(0, .ref (ad 0)), (1, .int (nI t)), (2, .int (nI (nst t (2 ^ u)))), (3, .int (nI 0))]) (st' := []) rfl ?_
            have lp2 : ∀ (nn : Nat) (v : Nat) (J2 : FJ), u - v = nn → (v ≤ u) → (RepW 100 (cpS t u nf m v) I J2 (va_up A 15 r) B) → (kpC I J A B I J2 (va_up A 15 r) B) → Sim X (YC ad z0 z1) 66 [(0, .ref (ad 0)), (1, .int (nI t)), (2, .int (nI (nst t (2 ^ u)))), (3, .int (nI v))] [] I J2 (va_up A 15 r) B 0 0 := by
              intro nn
              induction nn using Nat.strongRecOn with
              | ind nn ih =>
                intro v J2 hmz hv hR2 hk2
                have lp2 := ih
                refine S_n g 2 (pc' := 68) (lv' := [(0, .ref (ad 0)), (1, .int (nI t)), (2, .int (nI (nst t (2 ^ u)))), (3, .int (nI v))]) (st' := [.ref (ad 0), .int (nI v)]) rfl ?_
                refine S_getR g (i := 0) (c := 8) (k := 0) (j := 100) (by decide) (by decide) rfl rfl rfl fl_X8_10 rfl ?_
                refine S_getI g (i := 100) (c := 7) (k := 6) (by decide) (by decide) rfl rfl fl_X8_104 rfl ?_
                rw [hU]
                refine S_icN_ge g (tgt := 100) (by omega) (by omega) rfl (by decide) (fun qz74 => ?_) (fun qz74 => ?_)
                · skip
                  have hv9 : v = u := by omega
                  subst hv9
                  refine S_n g 1 (pc' := 101) (lv' := [(0, .ref (ad 0)), (1, .int (nI t)), (2, .int (nI (nst t (2 ^ v)))), (3, .int (nI v))]) (st' := [.int (nI (nst t (2 ^ v)))]) rfl ?_
                  exact rtI rt rfl rfl (by rw [ho]; exact ⟨rfl, rfl, hR2, hk2⟩)
                · skip
                  have hu : v < 6 := by omega
                  refine S_n g 1 (pc' := 78) (lv' := [(0, .ref (ad 0)), (1, .int (nI t)), (2, .int (nI (nst t (2 ^ u)))), (3, .int (nI v))]) (st' := [.ref (ad 0)]) rfl ?_
                  refine S_getR g (i := 0) (c := 8) (k := 0) (j := 100) (by decide) (by decide) rfl rfl rfl fl_X8_10 rfl ?_
                  refine S_getR g (i := 100) (c := 7) (k := 1) (j := 102) (by decide) (by decide) rfl rfl rfl fl_X8_83 rfl ?_
                  refine S_n g 1 (pc' := 85) (lv' := [(0, .ref (ad 0)), (1, .int (nI t)), (2, .int (nI (nst t (2 ^ u)))), (3, .int (nI v))]) (st' := [.int (nI v), .ref (ad 102)]) rfl ?_
                  refine S_aaldN g (i := 102) (e := v) (j := 120 + 4 * v) (by decide) rfl (show v < 6 from by omega) (show (6 : Nat) < 2 ^ 31 from by decide) rfl rfl ?_
                  refine S_n g 2 (pc' := 88) (lv' := [(0, .ref (ad 0)), (1, .int (nI t)), (2, .int (nI (nst t (2 ^ u)))), (3, .int (nI v))]) (st' := [.int (nI v), .ref (ad 0), .ref (ad (120 + 4 * v))]) rfl ?_
                  refine S_cV g (i := 0) (As := [.int (nI v)]) (st := [.ref (ad (120 + 4 * v))]) (c_dealt ad z0 z1 I J2 (va_up A 15 r) B t u nf v hF h2 h4 hu hdl2) mw_X8_dealtTo lk_X8_111 ⟨Nat.le_of_ble_eq_true rfl, Nat.le_of_ble_eq_true rfl⟩ (by decide) (by decide) rfl rfl (Nat.le_of_ble_eq_true rfl) ⟨Nat.le_of_ble_eq_true rfl, Nat.le_of_ble_eq_true rfl⟩ rfl ?_
                  show Sim X (YC ad z0 z1) 91 [(0, .ref (ad 0)), (1, .int (nI t)), (2, .int (nI (nst t (2 ^ u)))), (3, .int (nI v))] [.long (flS t u v (12 * nf)), .ref (ad (120 + 4 * v))] I J2 (va_up A 15 r) B 0 0
                  refine S_putJ g (i := 120 + 4 * v) (c := 2) (k := 1) (by omega) (by decide) (mb7 hu).1 rfl fw_X8_98 rfl ?_
                  refine S_n g 1 (pc' := 97) (lv' := [(0, .ref (ad 0)), (1, .int (nI t)), (2, .int (nI (nst t (2 ^ u)))), (3, .int ((nI v) + nI 1))]) (st' := []) rfl ?_
                  rw [nI_add v 1]
                  refine S_n g 1 (pc' := 66) (lv' := [(0, .ref (ad 0)), (1, .int (nI t)), (2, .int (nI (nst t (2 ^ u)))), (3, .int (nI (v + 1)))]) (st' := []) rfl ?_
                  exact lp2 (u - (v + 1)) (by omega) (v + 1) (up2 J2 (120 + 4 * v) 1 (flS t u v (12 * nf))) rfl (by omega) (RepW_cache (WF_g (Wf_WF (Wf_cpS hW t u v hv))) hR2 hu _) (kpC_tr hk2 ⟨fun i hi => ⟨rfl, u2r (by omega), rfl, rfl⟩, rfl, rfl, rfl, rfl, rfl⟩)
            exact lp2 _ 0 J rfl (Nat.zero_le _) hR0 hk0
          · skip
            refine S_n g 2 (pc' := 39) (lv' := [(0, .ref (ad 0)), (1, .int (nI t)), (2, .int (nI (nst t (2 ^ nu)))), (3, .int (nI u))]) (st' := [.int (nI u), .ref (ad 0)]) rfl ?_
            refine S_cV g (i := 0) (As := [.int (nI u)]) (st := []) (c_dealt ad z0 z1 I J (va_up A 15 r) B t nu nf u hF h2 h4 (by omega) hdl2) mw_X8_dealtTo lk_X8_111 ⟨Nat.le_of_ble_eq_true rfl, Nat.le_of_ble_eq_true rfl⟩ (by decide) (by decide) rfl rfl (Nat.le_of_ble_eq_true rfl) ⟨Nat.le_of_ble_eq_true rfl, Nat.le_of_ble_eq_true rfl⟩ rfl ?_
            show Sim X (YC ad z0 z1) 42 [(0, .ref (ad 0)), (1, .int (nI t)), (2, .int (nI (nst t (2 ^ nu)))), (3, .int (nI u))] [.long (flS t nu u (12 * nf))] I J (va_up A 15 r) B 0 0
            refine S_cS g (As := [.long (flS t nu u (12 * nf))]) (st := []) (sp_bitL (YC ad z0 z1) I J (va_up A 15 r) B (flS t nu u (12 * nf))) mw_J13_bitCount_95d88 lk_X8_115 ⟨Nat.le_of_ble_eq_true rfl, Nat.le_of_ble_eq_true rfl⟩ rfl (Nat.le_of_ble_eq_true rfl) ⟨Nat.le_of_ble_eq_true rfl, Nat.le_of_ble_eq_true rfl⟩ rfl ?_
            rw [ctb_64 h2 (flS_in h2 _ (Nat.le_refl _))]
            have hcl := ctb_le (flS t nu u (12 * nf)) 60
            show Sim X (YC ad z0 z1) 45 [(0, .ref (ad 0)), (1, .int (nI t)), (2, .int (nI (nst t (2 ^ nu)))), (3, .int (nI u))] [.int (nI (ctb (flS t nu u (12 * nf)) 60))] I J (va_up A 15 r) B 0 0
            refine S_n g 1 (pc' := 46) (lv' := [(0, .ref (ad 0)), (1, .int (nI t)), (2, .int (nI (nst t (2 ^ nu)))), (3, .int (nI u))]) (st' := [.ref (ad 0), .int (nI (ctb (flS t nu u (12 * nf)) 60))]) rfl ?_
            refine S_getR g (i := 0) (c := 8) (k := 0) (j := 100) (by decide) (by decide) rfl rfl rfl fl_X8_10 rfl ?_
            refine S_getI g (i := 100) (c := 7) (k := 7) (by decide) (by decide) rfl rfl fl_X8_95 rfl ?_
            rw [hC]
            refine S_icN_le g (tgt := 58) (by omega) (by omega) rfl (by decide) (fun qz52 => ?_) (fun qz52 => ?_)
            · skip
              refine S_n g 1 (pc' := 61) (lv' := [(0, .ref (ad 0)), (1, .int (nI t)), (2, .int (nI (nst t (2 ^ nu)))), (3, .int ((nI u) + nI 1))]) (st' := []) rfl ?_
              rw [nI_add u 1]
              refine S_n g 1 (pc' := 26) (lv' := [(0, .ref (ad 0)), (1, .int (nI t)), (2, .int (nI (nst t (2 ^ nu)))), (3, .int (nI (u + 1)))]) (st' := []) rfl ?_
              exact lp (nu - (u + 1)) (by omega) (u + 1) rfl (by omega) (by rw [ftS, hft, decide_eq_true (by omega)]; rfl)
            · skip
              rw [if_neg (by rw [ftS_bad (u := u) (show ¬ ctb (flS t nu u (12 * nf)) 60 ≤ nc by omega) nu (by omega)]; decide)] at ho
              refine S_n g 1 (pc' := 57) (lv' := [(0, .ref (ad 0)), (1, .int (nI t)), (2, .int (nI (nst t (2 ^ nu)))), (3, .int (nI u))]) (st' := [.int (-nI 103)]) rfl ?_
              exact rtI rt rfl rfl (by rw [ho]; exact ⟨rfl, rfl, hR0, hk0⟩)
      exact lp _ 0 rfl (Nat.zero_le _) rfl
    · skip
      refine S_n g 1 (pc' := 17) (lv' := [(0, .ref (ad 0)), (1, .int x)]) (st' := [.int (-nI 101)]) rfl ?_
      exact rtI rt rfl rfl (⟨by rw [o_storeSubsets, ix_gt qz12 (by omega), if_neg (by decide)], rfl, by rw [o_storeSubsets, ix_gt qz12 (by omega), if_neg (by decide)]; exact hR, kpC_rf I J A B⟩)
