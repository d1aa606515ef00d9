/-! the reference, part 13: greedy, schedule -/
def pgP (lk : Nat → Int64) (u : Nat) : Nat → List Nat
  | 0 => []
  | p + 1 => if tb (lk u) p = true then pgP lk u p ++ [60 * u + p] else pgP lk u p
def pgU (lk : Nat → Int64) (np : Nat) : Nat → List Nat
  | 0 => []
  | u + 1 => pgU lk np u ++ pgP lk u np
theorem pgP_mono (lk : Nat → Int64) (u : Nat) {p : Nat} : ∀ n, p ≤ n → (pgP lk u p).length ≤ (pgP lk u n).length
  | 0, h => by rw [Nat.le_zero.mp h]; exact Nat.le_refl _
  | n + 1, h => by
    by_cases e : p = n + 1
    · rw [e]; exact Nat.le_refl _
    · have := pgP_mono lk u n (show p ≤ n by omega)
      rw [pgP]
      split
      · rw [List.length_append]; omega
      · exact this
theorem pgU_len (lk : Nat → Int64) (np nu : Nat) (hc : ∀ u, u < nu → (pgP lk u np).length ≤ 12) : ∀ u, u ≤ nu → (pgU lk np u).length ≤ 12 * u
  | 0, _ => Nat.le_refl 0
  | u + 1, h => by
    have h1 := pgU_len lk np nu hc u (by omega)
    have h2 := hc u (by omega)
    rw [pgU, List.length_append]
    omega
theorem getD_l {L : List Nat} {x k : Nat} (h : k < L.length) : (L ++ [x]).getD k 0 = L.getD k 0 := by
  rw [List.getD_eq_getElem?_getD, List.getD_eq_getElem?_getD, List.getElem?_append_left h]
theorem getD_e {L : List Nat} {x : Nat} : (L ++ [x]).getD L.length 0 = x := by
  rw [List.getD_eq_getElem?_getD, List.getElem?_append_right (Nat.le_refl _), Nat.sub_self]
  rfl
theorem RP_sn {a : Nat → Int32} {L : List Nat} {x : Nat} (h : RP a L) (hx : x < 360) : RP (va_up a L.length (nI x)) (L ++ [x]) := by
  intro k hk
  rw [List.length_append, List.length_singleton] at hk
  by_cases e : k = L.length
  · subst e; rw [va_up_self, getD_e]; exact ⟨rfl, hx⟩
  · rw [va_up_ne _ _ e, getD_l (by omega)]; exact h k (by omega)
theorem RS_sn {a : Nat → Int32} {n : Nat} (h : RS a (fun _ => false) n) : RS (va_up a n (nI 0)) (fun _ => false) (n + 1) := by
  intro k hk
  by_cases e : k = n
  · subst e; rw [va_up_self]; rfl
  · rw [va_up_ne _ _ e]; exact h k (by omega)
def gdS (m : Nat → Int64) (nu : Nat) (L : List Nat) : Nat → List Int64 × (Nat → Bool)
  | 0 => ([], fun _ => false)
  | k + 1 => if (gdS m nu L k).2 k = true then gdS m nu L k else ((gdS m nu L k).1 ++ [(gpS m nu L (gdS m nu L k).2 k (L.length - k)).1], (gpS m nu L (gdS m nu L k).2 k (L.length - k)).2.2)
theorem gdS_s (m : Nat → Int64) (nu : Nat) (L : List Nat) (k : Nat) : gdS m nu L (k + 1) = if (gdS m nu L k).2 k = true then gdS m nu L k else ((gdS m nu L k).1 ++ [(gpS m nu L (gdS m nu L k).2 k (L.length - k)).1], (gpS m nu L (gdS m nu L k).2 k (L.length - k)).2.2) := rfl
theorem gdS_len (m : Nat → Int64) (nu : Nat) (L : List Nat) : ∀ k, (gdS m nu L k).1.length ≤ k
  | 0 => Nat.le_refl 0
  | k + 1 => by
    have := gdS_len m nu L k
    rw [gdS_s]
    split
    · omega
    · rw [List.length_append, List.length_singleton]; omega

set_option maxRecDepth 100000 in
set_option maxHeartbeats 4000000 in
theorem sp_greedy (ad : Nat → Nat) (I : FI) (J : FJ) (A : FI) (B : FJ) (m0 : Nat → Int64) (nf nu : Nat) (hF : m0 0 = lN nf) (hU : m0 1 = lN nu) (h1 : nf ≤ 5) (h2 : nu ≤ 6) (hc : ∀ u, u < nu → (pgP (B 509) u (12 * nf)).length ≤ 12) : Spec M_X9_greedy [.ref (ad 500)] (YR ad) I J A (va_up B 501 (qL m0 ([]))) (fun v' Y' I' J' A' B' => v' = none ∧ Y' = YR ad ∧ I' = up2 I 500 16 (nI (pgU (B 509) (12 * nf) nu).length) ∧ J' = J ∧ B' = va_up B 501 (qL m0 (gdS m0 nu (pgU (B 509) (12 * nf) nu) (pgU (B 509) (12 * nf) nu).length).1) ∧ ∃ b1 b2 b3, A' = va_up (va_up (va_up A 510 b1) 511 b2) 512 b3) := by
  refine Spec_of (by decide) tk_X9_greedy (Nat.le_of_ble_eq_true rfl) (fun X g rt => ?_)
  show Sim X (YR ad) 0 [(0, .ref (ad 500))] [] I J A (va_up B 501 (qL m0 ([]))) 0 0
  refine S_n g 2 (pc' := 2) (lv' := [(0, .ref (ad 500))]) (st' := [.int (nI 0), .ref (ad 500)]) rfl ?_
  refine S_putI g (i := 500) (c := 9) (k := 16) (kd := 0) (by decide) (by decide) rfl rfl (by decide) fw_X9_193 rfl rfl rfl ?_
  refine S_n g 2 (pc' := 7) (lv' := [(0, .ref (ad 500)), (1, .int (nI 0))]) (st' := []) rfl ?_
  have lp : ∀ (nn : Nat) (u : Nat) (b1 : Nat → Int32) (b2 : Nat → Int32), nu - u = nn → (u ≤ nu) → (RP b1 (pgU (B 509) (12 * nf) u)) → (RS b2 (fun _ => false) (pgU (B 509) (12 * nf) u).length) → Sim X (YR ad) 7 [(0, .ref (ad 500)), (1, .int (nI u))] [] (up2 I 500 16 (nI (pgU (B 509) (12 * nf) u).length)) J (va_up (va_up A 510 b1) 511 b2) (va_up B 501 (qL m0 ([]))) 0 0 := by
    intro nn
    induction nn using Nat.strongRecOn with
    | ind nn ih =>
      intro u b1 b2 hmz hu hRP hRS
      have lp := ih
      have hpu := pgU_len (B 509) (12 * nf) nu hc u (by omega)
      refine S_n g 2 (pc' := 9) (lv' := [(0, .ref (ad 500)), (1, .int (nI u))]) (st' := [.ref (ad 500), .int (nI u)]) rfl ?_
      refine S_cV g (i := 500) (As := []) (st := [.int (nI u)]) (sp_users ad (up2 I 500 16 (nI (pgU (B 509) (12 * nf) u).length)) J (va_up (va_up A 510 b1) 511 b2) (va_up B 501 (qL m0 ([]))) nu ((qL_lo m0 (by decide) (by decide)).trans hU)) mw_X9_users lk_X9_71 ⟨Nat.le_of_ble_eq_true rfl, Nat.le_of_ble_eq_true rfl⟩ (by decide) (by decide) rfl rfl (Nat.le_of_ble_eq_true rfl) ⟨Nat.le_of_ble_eq_true rfl, Nat.le_of_ble_eq_true rfl⟩ rfl ?_
      show Sim X (YR ad) 12 [(0, .ref (ad 500)), (1, .int (nI u))] [.int (nI nu), .int (nI u)] (up2 I 500 16 (nI (pgU (B 509) (12 * nf) u).length)) J (va_up (va_up A 510 b1) 511 b2) (va_up B 501 (qL m0 ([]))) 0 0
      refine S_icN_ge g (tgt := 87) (by omega) (by omega) rfl (by decide) (fun qz12 => ?_) (fun qz12 => ?_)
      · skip
        have hu9 : u = nu := by omega
        obtain ⟨L, hL⟩ : ∃ L, L = pgU (B 509) (12 * nf) nu := ⟨_, rfl⟩
        rw [hu9] at hpu hRP hRS ⊢
        rw [← hL] at hpu hRP hRS ⊢
        refine S_n g 2 (pc' := 89) (lv' := [(0, .ref (ad 500)), (1, .int (nI 0))]) (st' := []) rfl ?_
        have lp2 : ∀ (nn : Nat) (k : Nat) (c2 : Nat → Int32) (c3 : Nat → Int32), L.length - k = nn → (k ≤ L.length) → (RS c2 (gdS m0 nu L k).2 L.length) → Sim X (YR ad) 89 [(0, .ref (ad 500)), (1, .int (nI k))] [] (up2 I 500 16 (nI L.length)) J (va_up (va_up (va_up A 510 b1) 511 c2) 512 c3) (va_up B 501 (qL m0 ((gdS m0 nu L k).1))) 0 0 := by
          intro nn
          induction nn using Nat.strongRecOn with
          | ind nn ih =>
            intro k c2 c3 hmz hk hRSk
            have lp2 := ih
            have hgl := gdS_len m0 nu L k
            have hst := gdS_s m0 nu L k
            obtain ⟨G, hG⟩ : ∃ G, G = gdS m0 nu L k := ⟨_, rfl⟩
            rw [← hG] at hgl hst hRSk ⊢
            refine S_n g 2 (pc' := 91) (lv' := [(0, .ref (ad 500)), (1, .int (nI k))]) (st' := [.ref (ad 500), .int (nI k)]) rfl ?_
            refine S_getI g (i := 500) (c := 9) (k := 16) (by decide) (by decide) rfl rfl fl_X9_193 rfl ?_
            show Sim X (YR ad) 94 [(0, .ref (ad 500)), (1, .int (nI k))] [.int (nI L.length), .int (nI k)] (up2 I 500 16 (nI L.length)) J (va_up (va_up (va_up A 510 b1) 511 c2) 512 c3) (va_up B 501 (qL m0 (G.1))) 0 0
            refine S_icN_ge g (tgt := 117) (by omega) (by omega) rfl (by decide) (fun qz94 => ?_) (fun qz94 => ?_)
            · skip
              have hk9 : k = L.length := by omega
              exact rtV rt rfl rfl (⟨rfl, rfl, by rw [hL], rfl, by rw [hG, hk9, hL], _, _, _, rfl⟩)
            · skip
              refine S_n g 1 (pc' := 98) (lv' := [(0, .ref (ad 500)), (1, .int (nI k))]) (st' := [.ref (ad 500)]) rfl ?_
              refine S_getR g (i := 500) (c := 9) (k := 15) (j := 511) (by decide) (by decide) rfl rfl rfl fl_X9_46 rfl ?_
              refine S_n g 1 (pc' := 102) (lv' := [(0, .ref (ad 500)), (1, .int (nI k))]) (st' := [.int (nI k), .ref (ad 511)]) rfl ?_
              refine S_zaldN g (i := 511) (e := k) (by decide) rfl (show k < 72 from by omega) (show (72 : Nat) < 2 ^ 31 from by decide) rfl ?_
              show Sim X (YR ad) 103 [(0, .ref (ad 500)), (1, .int (nI k))] [.int (c2 k)] (up2 I 500 16 (nI L.length)) J (va_up (va_up (va_up A 510 b1) 511 c2) 512 c3) (va_up B 501 (qL m0 (G.1))) 0 0
              rw [hRSk k (by omega)]
              refine S_ifB_ne g (tgt := 111) rfl (by decide) (fun qz103 => ?_) (fun qz103 => ?_)
              · skip
                rw [if_pos qz103] at hst
                refine S_n g 1 (pc' := 114) (lv' := [(0, .ref (ad 500)), (1, .int ((nI k) + nI 1))]) (st' := []) rfl ?_
                rw [nI_add k 1]
                refine S_n g 1 (pc' := 89) (lv' := [(0, .ref (ad 500)), (1, .int (nI (k + 1)))]) (st' := []) rfl ?_
                have h9 := lp2 (L.length - (k + 1)) (by omega) (k + 1) c2 c3 rfl (by omega) (by rw [hst]; exact hRSk)
                rw [hst] at h9
                exact h9
              · skip
                rw [if_neg (by rw [qz103]; decide)] at hst
                refine S_n g 2 (pc' := 108) (lv' := [(0, .ref (ad 500)), (1, .int (nI k))]) (st' := [.int (nI k), .ref (ad 500)]) rfl ?_
                refine S_callV g (i := 500) (As := [.int (nI k)]) (st := []) (sp_group ad (up2 I 500 16 (nI L.length)) J A B m0 G.1 L G.2 k nu b1 c2 c3 hU h2 rfl (by omega) (by omega) hRP hRSk qz103 (by omega)) mw_X9_group lk_X9_200 ⟨Nat.le_of_ble_eq_true rfl, Nat.le_of_ble_eq_true rfl⟩ (by decide) (by decide) rfl rfl (Nat.le_of_ble_eq_true rfl) ⟨Nat.le_of_ble_eq_true rfl, Nat.le_of_ble_eq_true rfl⟩ rfl (fun v' Y' I' J' A' B' hpo => ?_)
                obtain ⟨rfl, rfl, hqI, hqJ, hqB, d2, d3, hqA, hRSd⟩ := hpo
                rw [hqI, hqJ, hqB, hqA]
                show Sim X (YR ad) 111 [(0, .ref (ad 500)), (1, .int (nI k))] [] (up2 I 500 16 (nI L.length)) J (va_up (va_up (va_up A 510 b1) 511 d2) 512 d3) (va_up B 501 (qL m0 (G.1 ++ [(gpS m0 nu L G.2 k (L.length - k)).1]))) 0 0
                refine S_n g 1 (pc' := 114) (lv' := [(0, .ref (ad 500)), (1, .int ((nI k) + nI 1))]) (st' := []) rfl ?_
                rw [nI_add k 1]
                refine S_n g 1 (pc' := 89) (lv' := [(0, .ref (ad 500)), (1, .int (nI (k + 1)))]) (st' := []) rfl ?_
                have h9 := lp2 (L.length - (k + 1)) (by omega) (k + 1) d2 d3 rfl (by omega) (by rw [hst]; exact hRSd)
                rw [hst] at h9
                exact h9
        have h0 := lp2 _ 0 b2 (A 512) rfl (by omega) hRS
        rw [show va_up (va_up (va_up A 510 b1) 511 b2) 512 (A 512) = va_up (va_up A 510 b1) 511 b2 from va_id (va_up (va_up A 510 b1) 511 b2) 512] at h0
        exact h0
      · skip
        have hcu := hc u (by omega)
        refine S_n g 2 (pc' := 17) (lv' := [(0, .ref (ad 500)), (1, .int (nI u)), (2, .int (nI 0))]) (st' := []) rfl ?_
        have lp1 : ∀ (nn : Nat) (p : Nat) (e1 : Nat → Int32) (e2 : Nat → Int32), 12 * nf - p = nn → (p ≤ 12 * nf) → (RP e1 (pgU (B 509) (12 * nf) u ++ pgP (B 509) u p)) → (RS e2 (fun _ => false) (pgU (B 509) (12 * nf) u ++ pgP (B 509) u p).length) → Sim X (YR ad) 17 [(0, .ref (ad 500)), (1, .int (nI u)), (2, .int (nI p))] [] (up2 I 500 16 (nI (pgU (B 509) (12 * nf) u ++ pgP (B 509) u p).length)) J (va_up (va_up A 510 e1) 511 e2) (va_up B 501 (qL m0 ([]))) 0 0 := by
          intro nn
          induction nn using Nat.strongRecOn with
          | ind nn ih =>
            intro p e1 e2 hmz hp hRP2 hRS2
            have lp1 := ih
            have hpm := pgP_mono (B 509) u (12 * nf) hp
            have hql : (pgU (B 509) (12 * nf) u ++ pgP (B 509) u p).length ≤ 72 := by rw [List.length_append]; omega
            refine S_n g 2 (pc' := 19) (lv' := [(0, .ref (ad 500)), (1, .int (nI u)), (2, .int (nI p))]) (st' := [.ref (ad 500), .int (nI p)]) rfl ?_
            refine S_cV g (i := 500) (As := []) (st := [.int (nI p)]) (sp_pieces ad (up2 I 500 16 (nI (pgU (B 509) (12 * nf) u ++ pgP (B 509) u p).length)) J (va_up (va_up A 510 e1) 511 e2) (va_up B 501 (qL m0 ([]))) nf ((qL_lo m0 (by decide) (by decide)).trans hF)) mw_X9_pieces lk_X9_75 ⟨Nat.le_of_ble_eq_true rfl, Nat.le_of_ble_eq_true rfl⟩ (by decide) (by decide) rfl rfl (Nat.le_of_ble_eq_true rfl) ⟨Nat.le_of_ble_eq_true rfl, Nat.le_of_ble_eq_true rfl⟩ rfl ?_
            show Sim X (YR ad) 22 [(0, .ref (ad 500)), (1, .int (nI u)), (2, .int (nI p))] [.int (nI (12 * nf)), .int (nI p)] (up2 I 500 16 (nI (pgU (B 509) (12 * nf) u ++ pgP (B 509) u p).length)) J (va_up (va_up A 510 e1) 511 e2) (va_up B 501 (qL m0 ([]))) 0 0
            refine S_icN_ge g (tgt := 81) (by omega) (by omega) rfl (by decide) (fun qz22 => ?_) (fun qz22 => ?_)
            · skip
              have hp9 : p = 12 * nf := by omega
              rw [hp9] at hRP2 hRS2 ⊢
              refine S_n g 1 (pc' := 84) (lv' := [(0, .ref (ad 500)), (1, .int ((nI u) + nI 1)), (2, .int (nI (12 * nf)))]) (st' := []) rfl ?_
              rw [nI_add u 1]
              refine S_n g 1 (pc' := 7) (lv' := [(0, .ref (ad 500)), (1, .int (nI (u + 1))), (2, .int (nI (12 * nf)))]) (st' := []) rfl ?_
              refine S_keep (lv' := [(0, .ref (ad 500)), (1, .int (nI (u + 1)))]) [0, 1] rfl ?_
              exact lp (nu - (u + 1)) (by omega) (u + 1) e1 e2 rfl (by omega) hRP2 hRS2
            · skip
              refine S_n g 1 (pc' := 26) (lv' := [(0, .ref (ad 500)), (1, .int (nI u)), (2, .int (nI p))]) (st' := [.ref (ad 500)]) rfl ?_
              refine S_getR g (i := 500) (c := 9) (k := 13) (j := 509) (by decide) (by decide) rfl rfl rfl fl_X9_40 rfl ?_
              refine S_n g 1 (pc' := 30) (lv' := [(0, .ref (ad 500)), (1, .int (nI u)), (2, .int (nI p))]) (st' := [.int (nI u), .ref (ad 509)]) rfl ?_
              refine S_laldN g (i := 509) (e := u) (by decide) rfl (show u < 6 from by omega) (show (6 : Nat) < 2 ^ 31 from by decide) rfl ?_
              show Sim X (YR ad) 31 [(0, .ref (ad 500)), (1, .int (nI u)), (2, .int (nI p))] [.long (B 509 u)] (up2 I 500 16 (nI (pgU (B 509) (12 * nf) u ++ pgP (B 509) u p).length)) J (va_up (va_up A 510 e1) 511 e2) (va_up B 501 (qL m0 ([]))) 0 0
              refine S_n g 4 (pc' := 35) (lv' := [(0, .ref (ad 500)), (1, .int (nI u)), (2, .int (nI p))]) (st' := [.long (((B 509 u) >>> ((nI p).toInt64 &&& 63)) &&& (lN 1))]) rfl ?_
              refine S_steq (st' := [.long (lN (tb (B 509 u) p).toNat)]) (by rw [(show ((B 509 u) >>> ((nI p).toInt64 &&& 63)) &&& (lN 1) = lN (tb (B 509 u) p).toNat from bit64 (by omega) _).symm]) ?_
              have hb1 : (tb (B 509 u) p).toNat ≤ 1 := Bool.toNat_le _
              refine S_n g 1 (pc' := 36) (lv' := [(0, .ref (ad 500)), (1, .int (nI u)), (2, .int (nI p))]) (st' := [.long (lN 1), .long (lN (tb (B 509 u) p).toNat)]) rfl ?_
              refine S_lcN_ne g (tgt := 75) (by omega) (by omega) rfl rfl (by decide) (fun qz36 => ?_) (fun qz36 => ?_)
              · skip
                have hpp : pgP (B 509) u (p + 1) = pgP (B 509) u p := by rw [pgP, if_neg (by cases hbv : tb (B 509 u) p <;> simp_all)]
                refine S_n g 1 (pc' := 78) (lv' := [(0, .ref (ad 500)), (1, .int (nI u)), (2, .int ((nI p) + nI 1))]) (st' := []) rfl ?_
                rw [nI_add p 1]
                refine S_n g 1 (pc' := 17) (lv' := [(0, .ref (ad 500)), (1, .int (nI u)), (2, .int (nI (p + 1)))]) (st' := []) rfl ?_
                have h9 := lp1 (12 * nf - (p + 1)) (by omega) (p + 1) e1 e2 rfl (by omega) (by rw [hpp]; exact hRP2) (by rw [hpp]; exact hRS2)
                rw [hpp] at h9
                exact h9
              · skip
                have hpp : pgP (B 509) u (p + 1) = pgP (B 509) u p ++ [60 * u + p] := by rw [pgP, if_pos (by cases hbv : tb (B 509 u) p <;> simp_all)]
                have hpm2 := pgP_mono (B 509) u (p := p + 1) (12 * nf) (by omega)
                rw [hpp, List.length_append, List.length_singleton] at hpm2
                have hq71 : (pgU (B 509) (12 * nf) u ++ pgP (B 509) u p).length < 72 := by rw [List.length_append]; omega
                obtain ⟨N, hN⟩ : ∃ N, N = (pgU (B 509) (12 * nf) u ++ pgP (B 509) u p) := ⟨_, rfl⟩
                rw [← hN] at hRP2 hRS2 hq71 ⊢
                refine S_n g 1 (pc' := 41) (lv' := [(0, .ref (ad 500)), (1, .int (nI u)), (2, .int (nI p))]) (st' := [.ref (ad 500)]) rfl ?_
                refine S_getR g (i := 500) (c := 9) (k := 14) (j := 510) (by decide) (by decide) rfl rfl rfl fl_X9_43 rfl ?_
                refine S_n g 1 (pc' := 45) (lv' := [(0, .ref (ad 500)), (1, .int (nI u)), (2, .int (nI p))]) (st' := [.ref (ad 500), .ref (ad 510)]) rfl ?_
                refine S_getI g (i := 500) (c := 9) (k := 16) (by decide) (by decide) rfl rfl fl_X9_193 rfl ?_
                show Sim X (YR ad) 48 [(0, .ref (ad 500)), (1, .int (nI u)), (2, .int (nI p))] [.int (nI N.length), .ref (ad 510)] (up2 I 500 16 (nI N.length)) J (va_up (va_up A 510 e1) 511 e2) (va_up B 501 (qL m0 ([]))) 0 0
                refine S_n g 3 (pc' := 52) (lv' := [(0, .ref (ad 500)), (1, .int (nI u)), (2, .int (nI p))]) (st' := [.int ((nI 60) * (nI u)), .int (nI N.length), .ref (ad 510)]) rfl ?_
                rw [pk_mul 60 u]
                refine S_n g 2 (pc' := 54) (lv' := [(0, .ref (ad 500)), (1, .int (nI u)), (2, .int (nI p))]) (st' := [.int ((nI (60 * u)) + (nI p)), .int (nI N.length), .ref (ad 510)]) rfl ?_
                rw [nI_add (60 * u) p]
                refine S_iastN g (i := 510) (e := N.length) (by decide) rfl (show N.length < 72 from by omega) (show (72 : Nat) < 2 ^ 31 from by decide) rfl ?_
                rw [up2_r2 (i := 510) (j := 511) (by decide)]
                rw [up2_r1 (i := 510)]
                refine S_n g 1 (pc' := 56) (lv' := [(0, .ref (ad 500)), (1, .int (nI u)), (2, .int (nI p))]) (st' := [.ref (ad 500)]) rfl ?_
                refine S_getR g (i := 500) (c := 9) (k := 15) (j := 511) (by decide) (by decide) rfl rfl rfl fl_X9_46 rfl ?_
                refine S_n g 1 (pc' := 60) (lv' := [(0, .ref (ad 500)), (1, .int (nI u)), (2, .int (nI p))]) (st' := [.ref (ad 500), .ref (ad 511)]) rfl ?_
                refine S_getI g (i := 500) (c := 9) (k := 16) (by decide) (by decide) rfl rfl fl_X9_193 rfl ?_
                show Sim X (YR ad) 63 [(0, .ref (ad 500)), (1, .int (nI u)), (2, .int (nI p))] [.int (nI N.length), .ref (ad 511)] (up2 I 500 16 (nI N.length)) J (va_up (va_up A 510 (va_up e1 N.length (nI ((60 * u) + p)))) 511 e2) (va_up B 501 (qL m0 ([]))) 0 0
                refine S_n g 1 (pc' := 64) (lv' := [(0, .ref (ad 500)), (1, .int (nI u)), (2, .int (nI p))]) (st' := [.int (nI 0), .int (nI N.length), .ref (ad 511)]) rfl ?_
                refine S_zastN g (i := 511) (e := N.length) (by decide) rfl (show N.length < 72 from by omega) (show (72 : Nat) < 2 ^ 31 from by decide) rfl rfl ?_
                rw [up2_r1 (i := 511)]
                refine S_n g 2 (pc' := 67) (lv' := [(0, .ref (ad 500)), (1, .int (nI u)), (2, .int (nI p))]) (st' := [.ref (ad 500), .ref (ad 500)]) rfl ?_
                refine S_getI g (i := 500) (c := 9) (k := 16) (by decide) (by decide) rfl rfl fl_X9_193 rfl ?_
                show Sim X (YR ad) 70 [(0, .ref (ad 500)), (1, .int (nI u)), (2, .int (nI p))] [.int (nI N.length), .ref (ad 500)] (up2 I 500 16 (nI N.length)) J (va_up (va_up A 510 (va_up e1 N.length (nI ((60 * u) + p)))) 511 (va_up e2 N.length (nI 0))) (va_up B 501 (qL m0 ([]))) 0 0
                refine S_n g 2 (pc' := 72) (lv' := [(0, .ref (ad 500)), (1, .int (nI u)), (2, .int (nI p))]) (st' := [.int ((nI N.length) + (nI 1)), .ref (ad 500)]) rfl ?_
                rw [nI_add N.length 1]
                refine S_putI g (i := 500) (c := 9) (k := 16) (kd := 0) (by decide) (by decide) rfl rfl (by decide) fw_X9_193 rfl rfl rfl ?_
                rw [up2_c1 (i := 500) (k := 16)]
                refine S_n g 1 (pc' := 78) (lv' := [(0, .ref (ad 500)), (1, .int (nI u)), (2, .int ((nI p) + nI 1))]) (st' := []) rfl ?_
                rw [nI_add p 1]
                refine S_n g 1 (pc' := 17) (lv' := [(0, .ref (ad 500)), (1, .int (nI u)), (2, .int (nI (p + 1)))]) (st' := []) rfl ?_
                have hN1 : (pgU (B 509) (12 * nf) u ++ pgP (B 509) u (p + 1)) = N ++ [60 * u + p] := by rw [hpp, hN, List.append_assoc]
                have h9 := lp1 (12 * nf - (p + 1)) (by omega) (p + 1) (va_up e1 N.length (nI (60 * u + p))) (va_up e2 N.length (nI 0)) rfl (by omega) (by rw [hN1]; exact RP_sn hRP2 (by omega)) (by rw [hN1, List.length_append]; exact RS_sn hRS2)
                rw [hN1, List.length_append, List.length_singleton] at h9
                exact h9
        have e0 : pgU (B 509) (12 * nf) u ++ pgP (B 509) u 0 = pgU (B 509) (12 * nf) u := List.append_nil _
        have h0 := lp1 _ 0 b1 b2 rfl (by omega) (by rw [e0]; exact hRP) (by rw [e0]; exact hRS)
        rw [e0] at h0
        exact h0
  have h0 := lp _ 0 (A 510) (A 511) rfl (by omega) (fun k hk => absurd hk (Nat.not_lt_zero k)) (fun k hk => absurd hk (Nat.not_lt_zero k))
  rw [va_id, va_id] at h0
  exact h0
