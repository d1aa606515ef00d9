/-! the class: schedules; the list that is pending -/
def WB (m : Nat → Int64) : Prop := gN (m 0) ≤ 5 ∧ gN (m 1) ≤ 6 ∧ gN (m 327) ≤ 100 ∧ gN (m 428) ≤ 100 ∧ gN (m 529) ≤ 30 ∧ ∀ u, u < 6 → lnG m u ≤ 40
theorem RepW_push2 {m : Nat → Int64} {I : FI} {J : FJ} {A : FI} {B : FJ} (g : WB m) (h : RepW 100 m I J A B) (hq : gN (m 327) < 100) (s : Int64) (v : Int32) : RepW 100 (o_queues (gN (m 327)) m s).2 (up2 I 103 3 (nI (gN (m 327) + 1))) J (va_up A 105 (va_up (A 105) (gN (m 327)) v)) (va_up B 104 (va_up (B 104) (gN (m 327)) s)) := by
  obtain ⟨h0, h1, h2, h3, h4, h5, h6, h7, h8⟩ := h
  obtain ⟨g0, g1, g2, g3, g4, g5⟩ := g
  obtain ⟨qn, hqn⟩ : ∃ qn, qn = gN (m 327) := ⟨_, rfl⟩
  have e : ∀ j, j < 327 ∨ 428 ≤ j → (o_queues qn m s).2 j = m j := fun j hj => (ne1 (by omega)).trans (ne1 (by omega))
  have e7 : (o_queues qn m s).2 327 = lN (qn + 1) := by
    show va_up (va_up m (328 + qn) s) 327 (lN (qn + 1)) 327 = _
    rw [va_up_self]
  unfold r6w at h6
  rw [← hqn] at h6 hq ⊢
  refine ⟨r0_h (r0_m h0 (fun j hj => e j (by omega))) (fun k _ => u2j (Or.inl (by omega))), r1_h (r1_m h1 g1 (fun j hj => e j (by omega))) (u2j (Or.inl (by omega))), r2_h (r2_m h2 (fun j a b => e j (by omega))) (va_up_ne _ _ (by omega)), r3_h (r3_m h3 (fun j a b => e j (by omega))) (fun _ _ => rfl) (fun w hw => u2j (Or.inl (by omega))), r4_h (r4_m h4 g5 (fun j a b => e j (by omega))) (fun w hw k => u2j (Or.inl (by omega))) (fun w hw => va_up_ne _ _ (by omega)), r5_h (r5_m h5 g0 g5 (fun j hj => e j (by omega))) (fun w hw => va_up_ne _ _ (by omega)), ?_, r7_h (r7_m h7 g3 (fun j a b => e j (by omega))) (fun k => u2j (Or.inl (by omega))) (va_up_ne _ _ (by omega)), r8_h (r8_m h8 g4 (fun j a b => e j (by omega))) (u2j (Or.inl (by omega))) (va_up_ne _ _ (by omega)) (va_up_ne _ _ (by omega)) (va_up_ne _ _ (by omega))⟩
  unfold r6w
  rw [e7, gN_lN (by omega)]
  refine ⟨(u2j (Or.inr (by decide))).trans h6.1, up2_same _ _ _ _, fun k hk => ?_⟩
  show va_up B 104 (va_up (B 104) qn s) 104 k = va_up (va_up m (328 + qn) s) 327 (lN (qn + 1)) (328 + k)
  rw [va_up_self, ne1 (show 328 + k ≠ 327 by omega)]
  by_cases q : k = qn
  · subst q; rw [va_up_self, va_up_self]
  · rw [va_up_ne _ _ q, ne1 (show 328 + k ≠ 328 + qn by omega)]
    exact h6.2.2 k (by omega)
theorem WB_qL {m : Nat → Int64} (h : WB m) {L : List Int64} (hL : L.length ≤ 100) : WB (qL m L) := by
  obtain ⟨g0, g1, g2, g3, g4, g5⟩ := h
  refine ⟨by rw [qL_lo m hL (by decide)]; exact g0, by rw [qL_lo m hL (by decide)]; exact g1, by rw [qL_327, gN_lN (by omega)]; exact hL, by rw [qL_keep m (Or.inr (by decide)) L _ rfl hL]; exact g3, by rw [qL_keep m (Or.inr (by decide)) L _ rfl hL]; exact g4, fun u hu => by unfold lnG; rw [qL_lo m hL (by omega)]; exact g5 u hu⟩
/-- only the pending list has changed -/
def kpQ (I : FI) (A : FI) (B : FJ) (I' : FI) (A' : FI) (B' : FJ) : Prop := (∀ i k, i ≠ 103 ∨ k ≠ 3 → I' i k = I i k) ∧ (∀ i, i ≠ 105 → A' i = A i) ∧ ∀ i, i ≠ 104 → B' i = B i
theorem kpQ_rf (I : FI) (A : FI) (B : FJ) : kpQ I A B I A B := ⟨fun _ _ _ => rfl, fun _ _ => rfl, fun _ _ => rfl⟩
theorem kpQ_tr {I : FI} {A : FI} {B : FJ} {I' : FI} {A' : FI} {B' : FJ} {I2 : FI} {A2 : FI} {B2 : FJ} (h : kpQ I A B I' A' B') (q : kpQ I' A' B' I2 A2 B2) : kpQ I A B I2 A2 B2 := ⟨fun i k e => (q.1 i k e).trans (h.1 i k e), fun i e => (q.2.1 i e).trans (h.2.1 i e), fun i e => (q.2.2 i e).trans (h.2.2 i e)⟩
/-- the pending list stands for L -/
def qP (ad : Nat → Nat) (z0 z1 : Bool) (m : Nat → Int64) (L : List Int64) (I : FI) (J : FJ) (A : FI) (B : FJ) : PO := fun v' Y' I' J' A' B' => v' = none ∧ Y' = YC ad z0 z1 ∧ J' = J ∧ RepW 100 (qL m L) I' J A' B' ∧ kpQ I A B I' A' B'
theorem q_push (ad : Nat → Nat) (z0 z1 : Bool) (I : FI) (J : FJ) (A : FI) (B : FJ) (m : Nat → Int64) (hB : WB m) (L : List Int64) (hL : L.length < 100) (hR : RepW 100 (qL m L) I J A B) (s : Int64) : Spec M_X6_append [.ref (ad 103), .long s, .int (nI 0)] (YC ad z0 z1) I J A B (qP ad z0 z1 m (L ++ [s]) I J A B) := by
  have hq := hR.2.2.2.2.2.2.1
  have eL : gN (qL m L 327) = L.length := by rw [qL_327]; exact gN_lN (by omega)
  unfold r6w at hq
  rw [eL] at hq
  refine Spec_mono (sl_append ad z0 z1 I J A B 103 100 L.length (sl_q isW_100) (by decide) hq.2.1 (by omega) hq.1 hL s (nI 0)) (fun v' Y' I' J' A' B' h => ?_)
  obtain ⟨rfl, rfl, rfl, rfl, rfl, rfl⟩ := h
  refine ⟨rfl, rfl, rfl, ?_, fun i k e => u2j e, fun i e => va_up_ne _ _ e, fun i e => va_up_ne _ _ e⟩
  have h9 := RepW_push2 (WB_qL hB (by omega)) hR (by rw [eL]; exact hL) s (nI 0)
  rw [eL] at h9
  rw [qL_snoc]
  exact h9

def orL (lk : Nat → Int64) : Nat → Int64
  | 0 => lN 0
  | u + 1 => orL lk u ||| lk u
theorem orL_bit {lk : Nat → Int64} {d p : Nat} : ∀ u, (∀ v, v < u → tb (lk v) p = true → d.testBit v = true) → tb (orL lk u) p = plC lk d p u
  | 0, _ => by rw [orL, tb_0]; rfl
  | u + 1, h => by
    rw [orL, plC, tb_or, orL_bit u (fun v hv => h v (by omega))]
    congr 1
    cases hb : tb (lk u) p
    · simp
    · rw [h u (by omega) hb]; rfl
theorem plL_hi {lk : Nat → Int64} {d nu N : Nat} (h : ∀ p, N ≤ p → plC lk d p nu = false) : ∀ n, N ≤ n → plL lk d nu n = plL lk d nu N
  | 0, hn => by rw [show N = 0 by omega]
  | n + 1, hn => by
    by_cases e : N = n + 1
    · rw [e]
    · rw [plL, if_neg (by rw [h n (by omega)]; decide), plL_hi h n (by omega)]
/-- what is missing lies in the wanted file -/
def okL (lk m : Nat → Int64) (nf nu : Nat) : Prop := ∀ u, u < nu → ∀ p, tb (lk u) p = true → ∃ f, f < nf ∧ m (69 + u) = lN f ∧ 12 * f ≤ p ∧ p < 12 * f + 12
theorem okL_d {lk m : Nat → Int64} {nf nu u p : Nat} (hf : nf ≤ 5) (h : okL lk m nf nu) (hu : u < nu) (hb : tb (lk u) p = true) : (dmN m nu).testBit u = true ∧ p < 12 * nf := by
  obtain ⟨f, h1, h2, h3, h4⟩ := h u hu p hb
  rw [dmN_bit, decide_eq_true hu, h2, decide_eq_true (lN_m1 (by omega))]
  exact ⟨rfl, by omega⟩
theorem okL_of {m : Nat → Int64} {nf nu : Nat} {ln : Nat → Nat} (hf : nf ≤ 5) (h4 : nu ≤ 6) (hW : ∀ u, u < 6 → okW m u nf) : okL (lkF m ln) m nf nu := fun u hu p hb => by
  unfold lkF msF at hb
  rcases hW u (by omega) with h | ⟨f, h1, h⟩
  · rw [if_pos h, tb_0] at hb; exact absurd hb (by decide)
  · rw [if_neg (by rw [h]; exact lN_m1 (by omega)), h, pk_lT (by omega), Int.toNat_natCast] at hb
    have := msE_win _ (show f < 5 by omega) 12 (Nat.le_refl _) p hb
    exact ⟨f, h1, h, this⟩
theorem okL_z {lk m : Nat → Int64} {nf nu p : Nat} (h : okL lk m nf nu) (hf : nf ≤ 5) (hp : 12 * nf ≤ p) {u : Nat} (hu : u < nu) : tb (lk u) p = false := by
  cases hb : tb (lk u) p
  · rfl
  · have := (okL_d hf h hu hb).2; omega
theorem plC_z {lk m : Nat → Int64} {nf nu p : Nat} {d : Nat} (h : okL lk m nf nu) (hf : nf ≤ 5) (hp : 12 * nf ≤ p) : ∀ u, u ≤ nu → plC lk d p u = false
  | 0, _ => rfl
  | u + 1, hu => by rw [plC, plC_z h hf hp u (by omega), okL_z h hf hp (show u < nu by omega), Bool.and_false]; rfl

set_option maxRecDepth 100000 in
set_option maxHeartbeats 4000000 in
theorem s_plain (ad : Nat → Nat) (z0 z1 : Bool) (I : FI) (J : FJ) (A : FI) (B : FJ) (m : Nat → Int64) (nf nu : Nat) (hB : WB m) (h1 : 1 ≤ nf) (h2 : nf ≤ 5) (h4 : nu ≤ 6) (hmU : m 1 = lN nu) (lk : Nat → Int64) (hlk : okL lk m nf nu) (hB7 : ∀ u, u < nu → B 7 u = lk u) (hR : RepW 100 (qL m []) I J A B) : Spec M_X5_addPlain [.ref (ad 6), .ref (ad 100)] (YC ad z0 z1) I J A B (qP ad z0 z1 m (plL lk (dmN m nu) nu (12 * nf)) I J A B) := by
  have hU : I 100 6 = nI nu := by rw [hR.1.2.1, qL_lo m (Nat.zero_le _) (by decide), hmU, lN_i]
  refine Spec_of (by decide) tk_X5_addPlain (Nat.le_of_ble_eq_true rfl) (fun X g rt => ?_)
  show Sim X (YC ad z0 z1) 0 [(0, .ref (ad 6)), (1, .ref (ad 100))] [] I J A B 0 0
  refine S_n g 4 (pc' := 5) (lv' := [(0, .ref (ad 6)), (1, .ref (ad 100)), (2, .long (lN 0)), (4, .int (nI 0))]) (st' := []) rfl ?_
  have lp : ∀ (nn : Nat) (u : Nat), nu - u = nn → (u ≤ nu) → Sim X (YC ad z0 z1) 5 [(0, .ref (ad 6)), (1, .ref (ad 100)), (2, .long (orL lk u)), (4, .int (nI u))] [] I J A B 0 0 := by
    intro nn
    induction nn using Nat.strongRecOn with
    | ind nn ih =>
      intro u hmz hu
      have lp := ih
      refine S_n g 2 (pc' := 8) (lv' := [(0, .ref (ad 6)), (1, .ref (ad 100)), (2, .long (orL lk u)), (4, .int (nI u))]) (st' := [.ref (ad 100), .int (nI u)]) rfl ?_
      refine S_getI g (i := 100) (c := 7) (k := 6) (by decide) (by decide) rfl rfl fl_X5_22 rfl ?_
      rw [hU]
      refine S_icN_ge g (tgt := 30) (by omega) (by omega) rfl (by decide) (fun qz11 => ?_) (fun qz11 => ?_)
      · skip
        have hu9 : u = nu := by omega
        refine S_n g 2 (pc' := 33) (lv' := [(0, .ref (ad 6)), (1, .ref (ad 100)), (2, .long (orL lk u)), (4, .int (nI 0))]) (st' := []) rfl ?_
        have lp2 : ∀ (nn : Nat) (p : Nat) (I2 : FI) (A2 : FI) (B2 : FJ), 60 - p = nn → (p ≤ 60) → (RepW 100 (qL m (plL lk (dmN m nu) nu p)) I2 J A2 B2) → (kpQ I A B I2 A2 B2) → Sim X (YC ad z0 z1) 33 [(0, .ref (ad 6)), (1, .ref (ad 100)), (2, .long (orL lk u)), (4, .int (nI p))] [] I2 J A2 B2 0 0 := by
          intro nn
          induction nn using Nat.strongRecOn with
          | ind nn ih =>
            intro p I2 A2 B2 hmz hp hR2 hk2
            have lp2 := ih
            have hpl := plL_len lk (dmN m nu) nu p
            refine S_n g 2 (pc' := 37) (lv' := [(0, .ref (ad 6)), (1, .ref (ad 100)), (2, .long (orL lk u)), (4, .int (nI p))]) (st' := [.int (nI 60), .int (nI p)]) rfl ?_
            refine S_icN_ge g (tgt := 69) (by omega) (by omega) rfl (by decide) (fun qz37 => ?_) (fun qz37 => ?_)
            · skip
              have hp9 : p = 60 := by omega
              exact rtV rt rfl rfl (⟨rfl, rfl, rfl, by rw [← plL_hi (fun q hq => plC_z hlk h2 hq nu (Nat.le_refl _)) 60 (by omega), ← hp9]; exact hR2, hk2⟩)
            · skip
              refine S_n g 5 (pc' := 46) (lv' := [(0, .ref (ad 6)), (1, .ref (ad 100)), (2, .long (orL lk u)), (4, .int (nI p))]) (st' := [.long (((orL lk u) >>> ((nI p).toInt64 &&& 63)) &&& (lN 1))]) rfl ?_
              refine S_steq (st' := [.long (lN (tb (orL lk u) p).toNat)]) (by rw [(show ((orL lk u) >>> ((nI p).toInt64 &&& 63)) &&& (lN 1) = lN (tb (orL lk u) p).toNat from bit64 (by omega) _).symm]) ?_
              have hb1 : (tb (orL lk u) p).toNat ≤ 1 := Bool.toNat_le _
              have hob := orL_bit (lk := lk) (d := dmN m nu) (p := p) u (fun v hv hb => (okL_d h2 hlk (by omega) hb).1)
              refine S_n g 1 (pc' := 47) (lv' := [(0, .ref (ad 6)), (1, .ref (ad 100)), (2, .long (orL lk u)), (4, .int (nI p))]) (st' := [.long (lN 0), .long (lN (tb (orL lk u) p).toNat)]) rfl ?_
              refine S_lcN_eq g (tgt := 63) (by omega) (by omega) rfl rfl (by decide) (fun qz47 => ?_) (fun qz47 => ?_)
              · skip
                have hs : plL lk (dmN m nu) nu (p + 1) = plL lk (dmN m nu) nu p := by rw [plL, if_neg (by rw [show plC lk (dmN m nu) p nu = tb (orL lk u) p from by rw [hob, hu9]]; intro hbv; rw [hbv] at qz47; exact absurd qz47 (by decide))]
                refine S_n g 1 (pc' := 66) (lv' := [(0, .ref (ad 6)), (1, .ref (ad 100)), (2, .long (orL lk u)), (4, .int ((nI p) + nI 1))]) (st' := []) rfl ?_
                rw [nI_add p 1]
                refine S_n g 1 (pc' := 33) (lv' := [(0, .ref (ad 6)), (1, .ref (ad 100)), (2, .long (orL lk u)), (4, .int (nI (p + 1)))]) (st' := []) rfl ?_
                exact lp2 (60 - (p + 1)) (by omega) (p + 1) I2 A2 B2 rfl (by omega) (by rw [hs]; exact hR2) hk2
              · skip
                have hs : plL lk (dmN m nu) nu (p + 1) = plL lk (dmN m nu) nu p ++ [b1 p] := by rw [plL, if_pos (by rw [show plC lk (dmN m nu) p nu = tb (orL lk u) p from by rw [hob, hu9]]; cases hbv : tb (orL lk u) p; (· rw [hbv] at qz47; exact absurd qz47 (by decide)); (· rfl))]
                refine S_n g 1 (pc' := 52) (lv' := [(0, .ref (ad 6)), (1, .ref (ad 100)), (2, .long (orL lk u)), (4, .int (nI p))]) (st' := [.ref (ad 100)]) rfl ?_
                refine S_getR g (i := 100) (c := 7) (k := 2) (j := 103) (by decide) (by decide) rfl rfl rfl fl_X5_42 rfl ?_
                refine S_n g 4 (pc' := 60) (lv' := [(0, .ref (ad 6)), (1, .ref (ad 100)), (2, .long (orL lk u)), (4, .int (nI p))]) (st' := [.int (nI 0), .long ((lN 1) <<< ((nI p).toInt64 &&& 63)), .ref (ad 103)]) rfl ?_
                refine S_callV g (i := 103) (As := [.long ((lN 1) <<< ((nI p).toInt64 &&& 63)), .int (nI 0)]) (st := []) (q_push ad z0 z1 I2 J A2 B2 m hB (plL lk (dmN m nu) nu p) (by omega) hR2 (b1 p)) mw_X6_append lk_X5_68 ⟨Nat.le_of_ble_eq_true rfl, Nat.le_of_ble_eq_true rfl⟩ (by decide) (by decide) rfl rfl (Nat.le_of_ble_eq_true rfl) ⟨Nat.le_of_ble_eq_true rfl, Nat.le_of_ble_eq_true rfl⟩ rfl (fun v' Y' I3 J3 A3 B3 hpo => ?_)
                obtain ⟨rfl, rfl, ej3, hR3, hq3⟩ := hpo
                rw [ej3]
                show Sim X (YC ad z0 z1) 63 [(0, .ref (ad 6)), (1, .ref (ad 100)), (2, .long (orL lk u)), (4, .int (nI p))] [] I3 J A3 B3 0 0
                refine S_n g 1 (pc' := 66) (lv' := [(0, .ref (ad 6)), (1, .ref (ad 100)), (2, .long (orL lk u)), (4, .int ((nI p) + nI 1))]) (st' := []) rfl ?_
                rw [nI_add p 1]
                refine S_n g 1 (pc' := 33) (lv' := [(0, .ref (ad 6)), (1, .ref (ad 100)), (2, .long (orL lk u)), (4, .int (nI (p + 1)))]) (st' := []) rfl ?_
                exact lp2 (60 - (p + 1)) (by omega) (p + 1) I3 A3 B3 rfl (by omega) (by rw [hs]; exact hR3) (kpQ_tr hk2 hq3)
        exact lp2 _ 0 I A B rfl (Nat.zero_le _) hR (kpQ_rf I A B)
      · skip
        refine S_n g 2 (pc' := 16) (lv' := [(0, .ref (ad 6)), (1, .ref (ad 100)), (2, .long (orL lk u)), (4, .int (nI u))]) (st' := [.ref (ad 6), .long (orL lk u)]) rfl ?_
        refine S_getR g (i := 6) (c := 5) (k := 0) (j := 7) (by decide) (by decide) rfl rfl rfl fl_X5_9 rfl ?_
        refine S_n g 1 (pc' := 21) (lv' := [(0, .ref (ad 6)), (1, .ref (ad 100)), (2, .long (orL lk u)), (4, .int (nI u))]) (st' := [.int (nI u), .ref (ad 7), .long (orL lk u)]) rfl ?_
        refine S_laldN g (i := 7) (e := u) (by decide) rfl (show u < 6 from by omega) (show (6 : Nat) < 2 ^ 31 from by decide) rfl ?_
        rw [hB7 u (by omega)]
        refine S_n g 1 (pc' := 23) (lv' := [(0, .ref (ad 6)), (1, .ref (ad 100)), (2, .long (orL lk u)), (4, .int (nI u))]) (st' := [.long ((orL lk u) ||| (lk u))]) rfl ?_
        refine S_steq (st' := [.long (orL lk (u + 1))]) (by rw [(show (orL lk u) ||| (lk u) = orL lk (u + 1) from rfl).symm]) ?_
        refine S_n g 2 (pc' := 27) (lv' := [(0, .ref (ad 6)), (1, .ref (ad 100)), (2, .long (orL lk (u + 1))), (4, .int ((nI u) + nI 1))]) (st' := []) rfl ?_
        rw [nI_add u 1]
        refine S_n g 1 (pc' := 5) (lv' := [(0, .ref (ad 6)), (1, .ref (ad 100)), (2, .long (orL lk (u + 1))), (4, .int (nI (u + 1)))]) (st' := []) rfl ?_
        exact lp (nu - (u + 1)) (by omega) (u + 1) rfl (by omega)
  exact lp _ 0 rfl (Nat.zero_le _)

set_option maxRecDepth 100000 in
set_option maxHeartbeats 4000000 in
theorem s_owners (ad : Nat → Nat) (z0 z1 : Bool) (I : FI) (J : FJ) (A : FI) (B : FJ) (m : Nat → Int64) (nf nu : Nat) (hU : I 100 6 = nI nu) (h4 : nu ≤ 6) (h2 : nf ≤ 5) (hWs : ∀ v, v < 6 → okW m v nf) (h3 : ∀ v, v < 6 → J (120 + 4 * v) 1 = m (63 + v) ∧ I (120 + 4 * v) 2 = (m (69 + v)).toInt32) : Spec M_X5_findOwners [.ref (ad 6), .ref (ad 100)] (YC ad z0 z1) I J A B (fun v' Y' I' J' A' B' => v' = none ∧ Y' = YC ad z0 z1 ∧ I' = up2 I 6 3 (nI (dmN m nu)) ∧ J' = J ∧ B' = B ∧ ∃ r, A' = va_up A 8 r ∧ ∀ p, p < 60 → r p = nI (hdN m (dmN m nu) p nu)) := by
  have hd64 := dmN_lt m nu h4
  refine Spec_of (by decide) tk_X5_findOwners (Nat.le_of_ble_eq_true rfl) (fun X g rt => ?_)
  show Sim X (YC ad z0 z1) 0 [(0, .ref (ad 6)), (1, .ref (ad 100))] [] I J A B 0 0
  refine S_n g 2 (pc' := 2) (lv' := [(0, .ref (ad 6)), (1, .ref (ad 100))]) (st' := [.ref (ad 100), .ref (ad 6)]) rfl ?_
  refine S_cV g (i := 100) (As := []) (st := [.ref (ad 6)]) (w_demanding ad z0 z1 I J A B m nu nf hU h4 h2 hWs (fun u hu => (h3 u hu).2)) mw_X7_demanding lk_X5_72 ⟨Nat.le_of_ble_eq_true rfl, Nat.le_of_ble_eq_true rfl⟩ (by decide) (by decide) rfl rfl (Nat.le_of_ble_eq_true rfl) ⟨Nat.le_of_ble_eq_true rfl, Nat.le_of_ble_eq_true rfl⟩ rfl ?_
  show Sim X (YC ad z0 z1) 5 [(0, .ref (ad 6)), (1, .ref (ad 100))] [.int (nI (dmN m nu)), .ref (ad 6)] I J A B 0 0
  obtain ⟨d, hd⟩ : ∃ d, d = dmN m nu := ⟨_, rfl⟩
  rw [← hd] at hd64 ⊢
  show Sim X (YC ad z0 z1) 5 [(0, .ref (ad 6)), (1, .ref (ad 100))] [.int (nI d), .ref (ad 6)] I J A B 0 0
  refine S_putI g (i := 6) (c := 5) (k := 3) (kd := 0) (by decide) (by decide) rfl rfl (by decide) fw_X5_76 rfl rfl rfl ?_
  refine S_n g 2 (pc' := 10) (lv' := [(0, .ref (ad 6)), (1, .ref (ad 100)), (2, .int (nI 0))]) (st' := []) rfl ?_
  have lp : ∀ (nn : Nat) (p : Nat) (r : Nat → Int32), 60 - p = nn → (p ≤ 60) → (∀ q, q < p → r q = nI (hdN m d q nu)) → Sim X (YC ad z0 z1) 10 [(0, .ref (ad 6)), (1, .ref (ad 100)), (2, .int (nI p))] [] (up2 I 6 3 (nI d)) J (va_up A 8 r) B 0 0 := by
    intro nn
    induction nn using Nat.strongRecOn with
    | ind nn ih =>
      intro p r hmz hp hr
      have lp := ih
      refine S_n g 2 (pc' := 13) (lv' := [(0, .ref (ad 6)), (1, .ref (ad 100)), (2, .int (nI p))]) (st' := [.int (nI 60), .int (nI p)]) rfl ?_
      refine S_icN_ge g (tgt := 81) (by omega) (by omega) rfl (by decide) (fun qz13 => ?_) (fun qz13 => ?_)
      · skip
        exact rtV rt rfl rfl (⟨rfl, rfl, by rw [← hd], rfl, rfl, r, rfl, fun q hq => by rw [← hd]; exact hr q (by omega)⟩)
      · skip
        refine S_n g 1 (pc' := 17) (lv' := [(0, .ref (ad 6)), (1, .ref (ad 100)), (2, .int (nI p))]) (st' := [.ref (ad 6)]) rfl ?_
        refine S_getR g (i := 6) (c := 5) (k := 1) (j := 8) (by decide) (by decide) rfl rfl rfl fl_X5_15 rfl ?_
        refine S_n g 2 (pc' := 22) (lv' := [(0, .ref (ad 6)), (1, .ref (ad 100)), (2, .int (nI p))]) (st' := [.int (nI 0), .int (nI p), .ref (ad 8)]) rfl ?_
        refine S_iastN g (i := 8) (e := p) (by decide) rfl (show p < 60 from by omega) (show (60 : Nat) < 2 ^ 31 from by decide) rfl ?_
        rw [up2_r1 (i := 8)]
        refine S_n g 2 (pc' := 25) (lv' := [(0, .ref (ad 6)), (1, .ref (ad 100)), (2, .int (nI p)), (3, .int (nI 0))]) (st' := []) rfl ?_
        have lp2 : ∀ (nn : Nat) (u : Nat) (c : Nat → Int32), nu - u = nn → (u ≤ nu) → (∀ q, q ≠ p → c q = r q) → (c p = nI (hdN m d p u)) → Sim X (YC ad z0 z1) 25 [(0, .ref (ad 6)), (1, .ref (ad 100)), (2, .int (nI p)), (3, .int (nI u))] [] (up2 I 6 3 (nI d)) J (va_up A 8 c) B 0 0 := by
          intro nn
          induction nn using Nat.strongRecOn with
          | ind nn ih =>
            intro u c hmz hu0 hc hcp
            have lp2 := ih
            have hh64 := hdN_lt m d p u (by omega)
            refine S_n g 2 (pc' := 27) (lv' := [(0, .ref (ad 6)), (1, .ref (ad 100)), (2, .int (nI p)), (3, .int (nI u))]) (st' := [.ref (ad 100), .int (nI u)]) rfl ?_
            refine S_getI g (i := 100) (c := 7) (k := 6) (by decide) (by decide) rfl rfl fl_X5_22 rfl ?_
            show Sim X (YC ad z0 z1) 30 [(0, .ref (ad 6)), (1, .ref (ad 100)), (2, .int (nI p)), (3, .int (nI u))] [.int (I 100 6), .int (nI u)] (up2 I 6 3 (nI d)) J (va_up A 8 c) B 0 0
            rw [hU]
            refine S_icN_ge g (tgt := 75) (by omega) (by omega) rfl (by decide) (fun qz30 => ?_) (fun qz30 => ?_)
            · skip
              have hu9 : u = nu := by omega
              refine S_n g 1 (pc' := 78) (lv' := [(0, .ref (ad 6)), (1, .ref (ad 100)), (2, .int ((nI p) + nI 1)), (3, .int (nI u))]) (st' := []) rfl ?_
              rw [nI_add p 1]
              refine S_n g 1 (pc' := 10) (lv' := [(0, .ref (ad 6)), (1, .ref (ad 100)), (2, .int (nI (p + 1))), (3, .int (nI u))]) (st' := []) rfl ?_
              refine S_keep (lv' := [(0, .ref (ad 6)), (1, .ref (ad 100)), (2, .int (nI (p + 1)))]) [0, 1, 2] rfl ?_
              exact lp (60 - (p + 1)) (by omega) (p + 1) c rfl (by omega) (fun q hq => by by_cases e : q = p; (· subst e; rw [hcp, hu9]); (· rw [hc q e]; exact hr q (by omega)))
            · skip
              refine S_n g 1 (pc' := 34) (lv' := [(0, .ref (ad 6)), (1, .ref (ad 100)), (2, .int (nI p)), (3, .int (nI u))]) (st' := [.ref (ad 6)]) rfl ?_
              refine S_getI g (i := 6) (c := 5) (k := 3) (by decide) (by decide) rfl rfl fl_X5_76 rfl ?_
              show Sim X (YC ad z0 z1) 37 [(0, .ref (ad 6)), (1, .ref (ad 100)), (2, .int (nI p)), (3, .int (nI u))] [.int (nI d)] (up2 I 6 3 (nI d)) J (va_up A 8 c) B 0 0
              refine S_n g 4 (pc' := 41) (lv' := [(0, .ref (ad 6)), (1, .ref (ad 100)), (2, .int (nI p)), (3, .int (nI u))]) (st' := [.int (((nI d) >>> ((nI u) &&& 31)) &&& (nI 1))]) rfl ?_
              refine S_steq (st' := [.int (nI (d.testBit u).toNat)]) (by rw [(show ((nI d) >>> ((nI u) &&& 31)) &&& (nI 1) = nI (d.testBit u).toNat from bit_nat (by omega)).symm]) ?_
              have hb1 : (d.testBit u).toNat ≤ 1 := Bool.toNat_le _
              have hu : u < 6 := by omega
              have hmb := mb7 (ad := ad) (z0 := z0) (z1 := z1) hu
              refine S_ifN_eq g (tgt := 69) (by omega) rfl (by decide) (fun qz41 => ?_) (fun qz41 => ?_)
              · skip
                refine S_n g 1 (pc' := 72) (lv' := [(0, .ref (ad 6)), (1, .ref (ad 100)), (2, .int (nI p)), (3, .int ((nI u) + nI 1))]) (st' := []) rfl ?_
                rw [nI_add u 1]
                refine S_n g 1 (pc' := 25) (lv' := [(0, .ref (ad 6)), (1, .ref (ad 100)), (2, .int (nI p)), (3, .int (nI (u + 1)))]) (st' := []) rfl ?_
                exact lp2 (nu - (u + 1)) (by omega) (u + 1) c rfl (by omega) hc (by rw [hdN, if_neg (by intro hq; rw [Bool.and_eq_true] at hq; rw [hq.1] at qz41; exact absurd qz41 (by decide))]; exact hcp)
              · skip
                have hdu : d.testBit u = true := by cases hbv : d.testBit u; (· rw [hbv] at qz41; exact absurd qz41 (by decide)); (· rfl)
                refine S_n g 1 (pc' := 45) (lv' := [(0, .ref (ad 6)), (1, .ref (ad 100)), (2, .int (nI p)), (3, .int (nI u))]) (st' := [.ref (ad 100)]) rfl ?_
                refine S_getR g (i := 100) (c := 7) (k := 1) (j := 102) (by decide) (by decide) rfl rfl rfl fl_X5_28 rfl ?_
                refine S_n g 1 (pc' := 49) (lv' := [(0, .ref (ad 6)), (1, .ref (ad 100)), (2, .int (nI p)), (3, .int (nI u))]) (st' := [.int (nI u), .ref (ad 102)]) rfl ?_
                refine S_aaldN g (i := 102) (e := u) (j := 120 + 4 * u) (by decide) rfl (show u < 6 from by omega) (show (6 : Nat) < 2 ^ 31 from by decide) rfl rfl ?_
                refine S_n g 1 (pc' := 51) (lv' := [(0, .ref (ad 6)), (1, .ref (ad 100)), (2, .int (nI p)), (3, .int (nI u))]) (st' := [.int (nI p), .ref (ad (120 + 4 * u))]) rfl ?_
                refine S_cV g (i := 120 + 4 * u) (As := [.int (nI p)]) (st := []) (mb_holds ad z0 z1 (up2 I 6 3 (nI d)) J (va_up A 8 c) B (120 + 4 * u) (by omega) hmb.1 p (by omega)) mw_X2_holds lk_X5_78 ⟨Nat.le_of_ble_eq_true rfl, Nat.le_of_ble_eq_true rfl⟩ (by omega) (by decide) (mb7 hu).1 rfl (Nat.le_of_ble_eq_true rfl) ⟨Nat.le_of_ble_eq_true rfl, Nat.le_of_ble_eq_true rfl⟩ rfl ?_
                rw [(h3 u hu).1]
                show Sim X (YC ad z0 z1) 54 [(0, .ref (ad 6)), (1, .ref (ad 100)), (2, .int (nI p)), (3, .int (nI u))] [.int (bI (tb (m (63 + u)) p))] (up2 I 6 3 (nI d)) J (va_up A 8 c) B 0 0
                refine S_ifB_eq g (tgt := 69) rfl (by decide) (fun qz54 => ?_) (fun qz54 => ?_)
                · skip
                  refine S_n g 1 (pc' := 72) (lv' := [(0, .ref (ad 6)), (1, .ref (ad 100)), (2, .int (nI p)), (3, .int ((nI u) + nI 1))]) (st' := []) rfl ?_
                  rw [nI_add u 1]
                  refine S_n g 1 (pc' := 25) (lv' := [(0, .ref (ad 6)), (1, .ref (ad 100)), (2, .int (nI p)), (3, .int (nI (u + 1)))]) (st' := []) rfl ?_
                  exact lp2 (nu - (u + 1)) (by omega) (u + 1) c rfl (by omega) hc (by rw [hdN, if_neg (by intro hq; rw [Bool.and_eq_true] at hq; rw [hq.2] at qz54; exact absurd qz54 (by decide))]; exact hcp)
                · skip
                  refine S_n g 1 (pc' := 58) (lv' := [(0, .ref (ad 6)), (1, .ref (ad 100)), (2, .int (nI p)), (3, .int (nI u))]) (st' := [.ref (ad 6)]) rfl ?_
                  refine S_getR g (i := 6) (c := 5) (k := 1) (j := 8) (by decide) (by decide) rfl rfl rfl fl_X5_15 rfl ?_
                  refine S_n g 2 (pc' := 63) (lv' := [(0, .ref (ad 6)), (1, .ref (ad 100)), (2, .int (nI p)), (3, .int (nI u))]) (st' := [.int (nI p), .ref (ad 8), .int (nI p), .ref (ad 8)]) rfl ?_
                  refine S_ialdN g (i := 8) (e := p) (by decide) rfl (show p < 60 from by omega) (show (60 : Nat) < 2 ^ 31 from by decide) rfl ?_
                  show Sim X (YC ad z0 z1) 64 [(0, .ref (ad 6)), (1, .ref (ad 100)), (2, .int (nI p)), (3, .int (nI u))] [.int (c p), .int (nI p), .ref (ad 8)] (up2 I 6 3 (nI d)) J (va_up A 8 c) B 0 0
                  rw [hcp]
                  refine S_n g 4 (pc' := 68) (lv' := [(0, .ref (ad 6)), (1, .ref (ad 100)), (2, .int (nI p)), (3, .int (nI u))]) (st' := [.int ((nI (hdN m d p u)) ||| ((nI 1) <<< ((nI u) &&& 31))), .int (nI p), .ref (ad 8)]) rfl ?_
                  refine S_steq (st' := [.int (nI (hdN m d p (u + 1))), .int (nI p), .ref (ad 8)]) (by rw [(show (nI (hdN m d p u)) ||| ((nI 1) <<< ((nI u) &&& 31)) = nI (hdN m d p (u + 1)) from by rw [hdN, if_pos (by rw [hdu, qz54]; rfl), ← nI_or, ← i1_nI (by omega)]).symm]) ?_
                  refine S_iastN g (i := 8) (e := p) (by decide) rfl (show p < 60 from by omega) (show (60 : Nat) < 2 ^ 31 from by decide) rfl ?_
                  rw [up2_r1 (i := 8)]
                  refine S_n g 1 (pc' := 72) (lv' := [(0, .ref (ad 6)), (1, .ref (ad 100)), (2, .int (nI p)), (3, .int ((nI u) + nI 1))]) (st' := []) rfl ?_
                  rw [nI_add u 1]
                  refine S_n g 1 (pc' := 25) (lv' := [(0, .ref (ad 6)), (1, .ref (ad 100)), (2, .int (nI p)), (3, .int (nI (u + 1)))]) (st' := []) rfl ?_
                  exact lp2 (nu - (u + 1)) (by omega) (u + 1) (va_up c p (nI (hdN m d p (u + 1)))) rfl (by omega) (fun q hq => by rw [va_up_ne _ _ hq]; exact hc q hq) (va_up_self _ _ _)
        exact lp2 _ 0 (va_up r p (nI 0)) rfl (Nat.zero_le _) (fun q hq => va_up_ne _ _ hq) (va_up_self _ _ _)
  have h0 := lp _ 0 (A 8) rfl (Nat.zero_le _) (fun q hq => absurd hq (Nat.not_lt_zero q))
  rw [va_id] at h0
  exact h0

def ledN (m : Nat → Int64) : Nat → Int64
  | 0 => lN 0
  | u + 1 => ledN m u ||| wfP (m (69 + u))
theorem ledN_bit {m : Nat → Int64} {p : Nat} : ∀ u, tb (ledN m u) p = true ↔ ∃ v, v < u ∧ tb (wfP (m (69 + v))) p = true
  | 0 => by rw [ledN, tb_0]; exact ⟨fun h => absurd h (by decide), fun ⟨v, h, _⟩ => absurd h (Nat.not_lt_zero v)⟩
  | u + 1 => by
    rw [ledN, tb_or, Bool.or_eq_true, ledN_bit u]
    constructor
    · rintro (⟨v, h1, h2⟩ | h)
      · exact ⟨v, by omega, h2⟩
      · exact ⟨u, by omega, h⟩
    · rintro ⟨v, h1, h2⟩
      by_cases e : v = u
      · subst e; exact Or.inr h2
      · exact Or.inl ⟨v, by omega, h2⟩
theorem fsV_iff {m : Nat → Int64} {d u : Nat} : ∀ k, fsV m d u k = true ↔ d.testBit u = true ∧ ∀ v, v < k → m (69 + v) ≠ m (69 + u)
  | 0 => by rw [fsV]; exact ⟨fun h => ⟨h, fun v hv => absurd hv (Nat.not_lt_zero v)⟩, fun h => h.1⟩
  | k + 1 => by
    rw [fsV, Bool.and_eq_true, fsV_iff k, decide_eq_true_iff]
    constructor
    · rintro ⟨⟨h1, h2⟩, h3⟩
      refine ⟨h1, fun v hv => ?_⟩
      by_cases e : v = k
      · subst e; exact h3
      · exact h2 v (by omega)
    · rintro ⟨h1, h2⟩
      exact ⟨⟨h1, fun v hv => h2 v (by omega)⟩, h2 k (by omega)⟩
theorem led_iff {m : Nat → Int64} {nf nu u : Nat} (hf : nf ≤ 5) (h4 : nu ≤ 6) (hW : ∀ v, v < 6 → okW m v nf) (hu : u < nu) : wfP (m (69 + u)) &&& (ledN m u ^^^ -lN 1) ≠ lN 0 ↔ fsV m (dmN m nu) u u = true := by
  rw [fsV_iff, dmN_bit, decide_eq_true hu, Bool.true_and, decide_eq_true_iff]
  rcases hW u (by omega) with h | ⟨f, h1, h⟩
  · have e : wfP (m (69 + u)) = lN 0 := by unfold wfP; rw [if_pos h]
    rw [e]
    constructor
    · intro q
      refine absurd (tb_ext (fun i _ => ?_)) q
      rw [tb_and, tb_0]; rfl
    · rintro ⟨q, _⟩; exact absurd h q
  · have e : wfP (m (69 + u)) = flP f := by unfold wfP; rw [if_neg (by rw [h]; exact lN_m1 (by omega)), h, pk_lT (by omega), Int.toNat_natCast]
    rw [e]
    constructor
    · intro q
      refine ⟨by rw [h]; exact lN_m1 (by omega), fun v hv ev => q (tb_ext (fun i hi => ?_))⟩
      rw [off_c hi, tb_0, flP_bit (by omega)]
      by_cases w : 12 * f ≤ i ∧ i < 12 * f + 12
      · have : tb (ledN m u) i = true := (ledN_bit u).mpr ⟨v, hv, (wfP_bit hf (hW v (by omega)) (show f < 5 by omega) w.1 w.2).mpr (ev.trans h)⟩
        rw [this]; simp
      · rw [decide_eq_false w]; rfl
    · rintro ⟨_, q⟩ z
      have := congrArg (fun x => tb x (12 * f)) z
      simp only [tb_0] at this
      rw [off_c (by omega), flP_bit (by omega), decide_eq_true (by omega), Bool.true_and] at this
      have h3 : tb (ledN m u) (12 * f) = true := by simpa using this
      obtain ⟨v, hv, hb⟩ := (ledN_bit u).mp h3
      exact q v hv (((wfP_bit hf (hW v (by omega)) (show f < 5 by omega) (by omega) (by omega)).mp hb).trans h.symm)
theorem or_sub {a b : Int64} (h : a &&& (b ^^^ -lN 1) = lN 0) : b ||| a = b := by
  apply tb_ext
  intro i hi
  have := congrArg (fun x => tb x i) h
  simp only [tb_0] at this
  rw [off_c hi] at this
  rw [tb_or]
  cases ha : tb a i
  · simp
  · rw [ha] at this
    have h2 : tb b i = true := by simpa using this
    rw [h2]; rfl

set_option maxRecDepth 100000 in
set_option maxHeartbeats 4000000 in
theorem s_leaders (ad : Nat → Nat) (z0 z1 : Bool) (I : FI) (J : FJ) (A : FI) (B : FJ) (m : Nat → Int64) (nf nu : Nat) (hU : I 100 6 = nI nu) (h4 : nu ≤ 6) (h2 : nf ≤ 5) (hWs : ∀ v, v < 6 → okW m v nf) (h3 : ∀ v, v < 6 → I (120 + 4 * v) 2 = (m (69 + v)).toInt32) : Spec M_X5_findLeaders [.ref (ad 6), .ref (ad 100)] (YC ad z0 z1) I J A B (fun v' Y' I' J' A' B' => v' = none ∧ Y' = YC ad z0 z1 ∧ I' = up2 I 6 4 (nI (ldN m (dmN m nu) nu)) ∧ J' = J ∧ A' = A ∧ B' = B) := by
  refine Spec_of (by decide) tk_X5_findLeaders (Nat.le_of_ble_eq_true rfl) (fun X g rt => ?_)
  show Sim X (YC ad z0 z1) 0 [(0, .ref (ad 6)), (1, .ref (ad 100))] [] I J A B 0 0
  refine S_n g 2 (pc' := 2) (lv' := [(0, .ref (ad 6)), (1, .ref (ad 100))]) (st' := [.int (nI 0), .ref (ad 6)]) rfl ?_
  refine S_putI g (i := 6) (c := 5) (k := 4) (kd := 0) (by decide) (by decide) rfl rfl (by decide) fw_X5_84 rfl rfl rfl ?_
  refine S_n g 4 (pc' := 10) (lv' := [(0, .ref (ad 6)), (1, .ref (ad 100)), (2, .long (lN 0)), (4, .int (nI 0))]) (st' := []) rfl ?_
  have lp : ∀ (nn : Nat) (u : Nat), nu - u = nn → (u ≤ nu) → Sim X (YC ad z0 z1) 10 [(0, .ref (ad 6)), (1, .ref (ad 100)), (2, .long (ledN m u)), (4, .int (nI u))] [] (up2 I 6 4 (nI (ldN m (dmN m nu) u))) J A B 0 0 := by
    intro nn
    induction nn using Nat.strongRecOn with
    | ind nn ih =>
      intro u hmz hu0
      have lp := ih
      have hl64 := ldN_lt m (dmN m nu) u (by omega)
      refine S_n g 2 (pc' := 13) (lv' := [(0, .ref (ad 6)), (1, .ref (ad 100)), (2, .long (ledN m u)), (4, .int (nI u))]) (st' := [.ref (ad 100), .int (nI u)]) rfl ?_
      refine S_getI g (i := 100) (c := 7) (k := 6) (by decide) (by decide) rfl rfl fl_X5_22 rfl ?_
      show Sim X (YC ad z0 z1) 16 [(0, .ref (ad 6)), (1, .ref (ad 100)), (2, .long (ledN m u)), (4, .int (nI u))] [.int (I 100 6), .int (nI u)] (up2 I 6 4 (nI (ldN m (dmN m nu) u))) J A B 0 0
      rw [hU]
      refine S_icN_ge g (tgt := 71) (by omega) (by omega) rfl (by decide) (fun qz16 => ?_) (fun qz16 => ?_)
      · skip
        have hu9 : u = nu := by omega
        exact rtV rt rfl rfl (⟨rfl, rfl, by rw [hu9], rfl, rfl, rfl⟩)
      · skip
        have hu : u < 6 := by omega
        refine S_n g 1 (pc' := 20) (lv' := [(0, .ref (ad 6)), (1, .ref (ad 100)), (2, .long (ledN m u)), (4, .int (nI u))]) (st' := [.ref (ad 100)]) rfl ?_
        refine S_getR g (i := 100) (c := 7) (k := 1) (j := 102) (by decide) (by decide) rfl rfl rfl fl_X5_28 rfl ?_
        refine S_n g 1 (pc' := 25) (lv' := [(0, .ref (ad 6)), (1, .ref (ad 100)), (2, .long (ledN m u)), (4, .int (nI u))]) (st' := [.int (nI u), .ref (ad 102)]) rfl ?_
        refine S_aaldN g (i := 102) (e := u) (j := 120 + 4 * u) (by decide) rfl (show u < 6 from by omega) (show (6 : Nat) < 2 ^ 31 from by decide) rfl rfl ?_
        refine S_getI g (i := 120 + 4 * u) (c := 2) (k := 2) (by omega) (by decide) (mb7 hu).1 rfl fl_X5_87 rfl ?_
        rw [up2_ne _ _ _ _ (show 120 + 4 * u ≠ 6 from (by omega))]
        rw [h3 u hu]
        refine S_cS g (As := [.int (m (69 + u)).toInt32]) (st := []) (c_piecesOf ad z0 z1 (up2 I 6 4 (nI (ldN m (dmN m nu) u))) J A B m u nf h2 (hWs u hu)) mw_X8_piecesOf lk_X5_90 ⟨Nat.le_of_ble_eq_true rfl, Nat.le_of_ble_eq_true rfl⟩ rfl (Nat.le_of_ble_eq_true rfl) ⟨Nat.le_of_ble_eq_true rfl, Nat.le_of_ble_eq_true rfl⟩ rfl ?_
        show Sim X (YC ad z0 z1) 32 [(0, .ref (ad 6)), (1, .ref (ad 100)), (2, .long (ledN m u)), (4, .int (nI u))] [.long (wfP (m (69 + u)))] (up2 I 6 4 (nI (ldN m (dmN m nu) u))) J A B 0 0
        have hli := led_iff h2 h4 hWs (show u < nu by omega)
        refine S_n g 3 (pc' := 37) (lv' := [(0, .ref (ad 6)), (1, .ref (ad 100)), (2, .long (ledN m u)), (4, .int (nI u)), (5, .long (wfP (m (69 + u))))]) (st' := [.long (ledN m u), .long (wfP (m (69 + u)))]) rfl ?_
        refine S_ldc2 g kc_X5_94 rfl ?_
        refine S_n g 3 (pc' := 43) (lv' := [(0, .ref (ad 6)), (1, .ref (ad 100)), (2, .long (ledN m u)), (4, .int (nI u)), (5, .long (wfP (m (69 + u))))]) (st' := [.long (lN 0), .long ((wfP (m (69 + u))) &&& ((ledN m u) ^^^ (-lN 1)))]) rfl ?_
        refine S_lc_eq g (tgt := 65) rfl rfl (by decide) (fun qz43 => ?_) (fun qz43 => ?_)
        · skip
          have hs : ldN m (dmN m nu) (u + 1) = ldN m (dmN m nu) u := by rw [ldN, if_neg (fun x => hli.mpr x qz43)]
          refine S_lveq (lv' := [(0, .ref (ad 6)), (1, .ref (ad 100)), (2, .long (ledN m (u + 1))), (4, .int (nI u)), (5, .long (wfP (m (69 + u))))]) (by rw [(show ledN m u = ledN m (u + 1) from by rw [ledN, or_sub qz43]).symm]) ?_
          rw [← hs]
          refine S_n g 1 (pc' := 68) (lv' := [(0, .ref (ad 6)), (1, .ref (ad 100)), (2, .long (ledN m (u + 1))), (4, .int ((nI u) + nI 1)), (5, .long (wfP (m (69 + u))))]) (st' := []) rfl ?_
          rw [nI_add u 1]
          refine S_n g 1 (pc' := 10) (lv' := [(0, .ref (ad 6)), (1, .ref (ad 100)), (2, .long (ledN m (u + 1))), (4, .int (nI (u + 1))), (5, .long (wfP (m (69 + u))))]) (st' := []) rfl ?_
          refine S_keep (lv' := [(0, .ref (ad 6)), (1, .ref (ad 100)), (2, .long (ledN m (u + 1))), (4, .int (nI (u + 1)))]) [0, 1, 2, 4] rfl ?_
          exact lp (nu - (u + 1)) (by omega) (u + 1) rfl (by omega)
        · skip
          refine S_n g 2 (pc' := 49) (lv' := [(0, .ref (ad 6)), (1, .ref (ad 100)), (2, .long (ledN m u)), (4, .int (nI u)), (5, .long (wfP (m (69 + u))))]) (st' := [.ref (ad 6), .ref (ad 6)]) rfl ?_
          refine S_getI g (i := 6) (c := 5) (k := 4) (by decide) (by decide) rfl rfl fl_X5_84 rfl ?_
          show Sim X (YC ad z0 z1) 52 [(0, .ref (ad 6)), (1, .ref (ad 100)), (2, .long (ledN m u)), (4, .int (nI u)), (5, .long (wfP (m (69 + u))))] [.int (nI (ldN m (dmN m nu) u)), .ref (ad 6)] (up2 I 6 4 (nI (ldN m (dmN m nu) u))) J A B 0 0
          refine S_n g 4 (pc' := 57) (lv' := [(0, .ref (ad 6)), (1, .ref (ad 100)), (2, .long (ledN m u)), (4, .int (nI u)), (5, .long (wfP (m (69 + u))))]) (st' := [.int ((nI (ldN m (dmN m nu) u)) ||| ((nI 1) <<< ((nI u) &&& 31))), .ref (ad 6)]) rfl ?_
          refine S_steq (st' := [.int (nI (ldN m (dmN m nu) (u + 1))), .ref (ad 6)]) (by rw [(show (nI (ldN m (dmN m nu) u)) ||| ((nI 1) <<< ((nI u) &&& 31)) = nI (ldN m (dmN m nu) (u + 1)) from by rw [ldN, if_pos (hli.mp qz43), ← nI_or, ← i1_nI (by omega)]).symm]) ?_
          refine S_putI g (i := 6) (c := 5) (k := 4) (kd := 0) (by decide) (by decide) rfl rfl (by decide) fw_X5_84 rfl rfl rfl ?_
          rw [up2_c1 (i := 6) (k := 4)]
          refine S_n g 4 (pc' := 65) (lv' := [(0, .ref (ad 6)), (1, .ref (ad 100)), (2, .long ((ledN m u) ||| (wfP (m (69 + u))))), (4, .int (nI u)), (5, .long (wfP (m (69 + u))))]) (st' := []) rfl ?_
          refine S_lveq (lv' := [(0, .ref (ad 6)), (1, .ref (ad 100)), (2, .long (ledN m (u + 1))), (4, .int (nI u)), (5, .long (wfP (m (69 + u))))]) (by rw [(show (ledN m u) ||| (wfP (m (69 + u))) = ledN m (u + 1) from rfl).symm]) ?_
          refine S_n g 1 (pc' := 68) (lv' := [(0, .ref (ad 6)), (1, .ref (ad 100)), (2, .long (ledN m (u + 1))), (4, .int ((nI u) + nI 1)), (5, .long (wfP (m (69 + u))))]) (st' := []) rfl ?_
          rw [nI_add u 1]
          refine S_n g 1 (pc' := 10) (lv' := [(0, .ref (ad 6)), (1, .ref (ad 100)), (2, .long (ledN m (u + 1))), (4, .int (nI (u + 1))), (5, .long (wfP (m (69 + u))))]) (st' := []) rfl ?_
          refine S_keep (lv' := [(0, .ref (ad 6)), (1, .ref (ad 100)), (2, .long (ledN m (u + 1))), (4, .int (nI (u + 1)))]) [0, 1, 2, 4] rfl ?_
          exact lp (nu - (u + 1)) (by omega) (u + 1) rfl (by omega)
  exact lp _ 0 rfl (Nat.zero_le _)
