/-! the class: greedy schedule, schedule -/
theorem gp_skip {m lk : Nat → Int64} {nf nu : Nat} {sv : Nat → Bool} {fi u p : Nat} {s be : Int64} {mi : Nat → Int64} (hf : nf ≤ 5) (hlk : okL lk m nf nu) (hu : u < nu) (hp : p < 60) (h : GI m lk (12 * nf) nu (gpS m nu (pgU lk (12 * nf) nu) sv fi (max 1 (pix lk (12 * nf) u p - fi))) s be mi fi) (hz : ¬ (tb (mi u) p = true ∧ tb be p = true ∧ (s &&& (m (63 + u) ^^^ -lN 1)) &&& (b1 p ^^^ -lN 1) = lN 0)) : GI m lk (12 * nf) nu (gpS m nu (pgU lk (12 * nf) nu) sv fi (max 1 (pix lk (12 * nf) u (p + 1) - fi))) s be mi fi := by
  cases hb : tb (mi u) p
  · rw [gp_same hu hp h hb]; exact h
  · rw [gp_not hf hlk hu hp h hb (fun q => hz ⟨hb, q.1, q.2⟩)]; exact h
theorem kp_C {I : FI} {J : FJ} {A : FI} {B : FJ} {I' : FI} {A' : FI} {B' : FJ} (h1 : ∀ i k, i ≠ 103 ∨ k ≠ 3 → I' i k = I i k) (h2 : ∀ i, i ≠ 105 → A' i = A i) (h3 : ∀ i, i ≠ 104 → i ≠ 9 → i ≠ 7 → B' i = B i) : kpC I J A B I' J A' B' := ⟨fun i hi => ⟨funext fun k => h1 i k (Or.inl (by omega)), rfl, h2 i (by omega), h3 i (by omega) (by omega) (by omega)⟩, funext fun k => h1 13 k (Or.inl (by decide)), h2 14 (by decide), h1 0 7 (Or.inl (by decide)), by rw [h2 11 (by decide)], by rw [h3 12 (by decide) (by decide) (by decide)]⟩
theorem RepW_clear {m : Nat → Int64} {I : FI} {J : FJ} {A : FI} {B : FJ} (g : WG m) (h : RepW 100 m I J A B) : RepW 100 (qL m []) (up2 I 103 3 (nI 0)) J A B := by
  obtain ⟨h0, h1, h2, h3, h4, h5, h6, h7, h8⟩ := h
  obtain ⟨g0, g1, g2, g3, g4, g5⟩ := WGn g
  rw [qL_nil]
  refine ⟨r0_h (r0_m h0 (fun j hj => ne1 (by omega))) (fun k _ => u2j (Or.inl (by omega))), r1_h (r1_m h1 g1 (fun j hj => ne1 (by omega))) (u2j (Or.inl (by omega))), r2_m h2 (fun j a b => ne1 (by omega)), r3_h (r3_m h3 (fun j a b => ne1 (by omega))) (fun _ _ => rfl) (fun w hw => u2j (Or.inl (by omega))), r4_h (r4_m h4 g5 (fun j a b => ne1 (by omega))) (fun w hw k => u2j (Or.inl (by omega))) (fun _ _ => rfl), r5_m h5 g0 g5 (fun j hj => ne1 (by omega)), ?_, r7_h (r7_m h7 g3 (fun j a b => ne1 (by omega))) (fun k => u2j (Or.inl (by omega))) rfl, r8_h (r8_m h8 g4 (fun j a b => ne1 (by omega))) (u2j (Or.inl (by omega))) rfl rfl rfl⟩
  unfold r6w
  rw [va_up_self, gN_lN (by decide)]
  exact ⟨(u2j (Or.inr (by decide))).trans h6.1, up2_same _ _ _ _, fun k hk => absurd hk (Nat.not_lt_zero k)⟩

set_option maxRecDepth 100000 in
set_option maxHeartbeats 4000000 in
theorem s_grow (ad : Nat → Nat) (z0 z1 : Bool) (I : FI) (J : FJ) (A : FI) (B : FJ) (m lk : Nat → Int64) (nf nu : Nat) (h2 : nf ≤ 5) (h4 : nu ≤ 6) (hU : I 100 6 = nI nu) (h3 : ∀ v, v < 6 → J (120 + 4 * v) 1 = m (63 + v)) (hlk : okL lk m nf nu) (hcl : ∀ v, v < nu → ∀ q, tb (lk v) q = true → tb (m (63 + v)) q = false) (sv : Nat → Bool) (fi u0 : Nat) (hu0 : u0 < nu) (pc0 : Int64) (hGI : GI m lk (12 * nf) nu (gpS m nu (pgU lk (12 * nf) nu) sv fi (max 1 (pix lk (12 * nf) u0 0 - fi))) pc0 (m (63 + u0) ||| pc0) (B 7) fi) : Spec M_X5_growGroup [.ref (ad 6), .ref (ad 100), .int (nI u0), .long pc0] (YC ad z0 z1) I J A B (fun v' Y' I' J' A' B' => Y' = YC ad z0 z1 ∧ I' = I ∧ J' = J ∧ A' = A ∧ ∃ s be r, v' = some (.long s) ∧ B' = va_up B 7 r ∧ GI m lk (12 * nf) nu (gpS m nu (pgU lk (12 * nf) nu) sv fi (max 1 (pix lk (12 * nf) nu 0 - fi))) s be r fi) := by
  refine Spec_of (by decide) tk_X5_growGroup (Nat.le_of_ble_eq_true rfl) (fun X g rt => ?_)
  show Sim X (YC ad z0 z1) 0 [(0, .ref (ad 6)), (1, .ref (ad 100)), (2, .int (nI u0)), (3, .long pc0)] [] I J A B 0 0
  refine S_n g 3 (pc' := 4) (lv' := [(0, .ref (ad 6)), (1, .ref (ad 100)), (2, .int (nI u0)), (3, .long pc0), (5, .long pc0)]) (st' := [.ref (ad 100)]) rfl ?_
  refine S_getR g (i := 100) (c := 7) (k := 1) (j := 102) (by decide) (by decide) rfl rfl rfl fl_X5_28 rfl ?_
  refine S_n g 1 (pc' := 8) (lv' := [(0, .ref (ad 6)), (1, .ref (ad 100)), (2, .int (nI u0)), (3, .long pc0), (5, .long pc0)]) (st' := [.int (nI u0), .ref (ad 102)]) rfl ?_
  refine S_aaldN g (i := 102) (e := u0) (j := 120 + 4 * u0) (by decide) rfl (show u0 < 6 from by omega) (show (6 : Nat) < 2 ^ 31 from by decide) rfl rfl ?_
  refine S_getJ g (i := 120 + 4 * u0) (c := 2) (k := 1) (by omega) (by decide) (mb7 (show u0 < 6 by omega)).1 rfl fl_X5_120 rfl ?_
  rw [h3 u0 (by omega)]
  refine S_n g 5 (pc' := 19) (lv' := [(0, .ref (ad 6)), (1, .ref (ad 100)), (2, .int (nI u0)), (3, .long pc0), (5, .long pc0), (7, .long ((m (63 + u0)) ||| pc0)), (9, .int (nI u0))]) (st' := []) rfl ?_
  have lp : ∀ (nn : Nat) (u : Nat) (s : Int64) (be : Int64) (r : Nat → Int64), nu - u = nn → (u ≤ nu) → (GI m lk (12 * nf) nu (gpS m nu (pgU lk (12 * nf) nu) sv fi (max 1 (pix lk (12 * nf) u 0 - fi))) s be r fi) → Sim X (YC ad z0 z1) 19 [(0, .ref (ad 6)), (1, .ref (ad 100)), (2, .int (nI u0)), (3, .long pc0), (5, .long s), (7, .long be), (9, .int (nI u))] [] I J A (va_up B 7 r) 0 0 := by
    intro nn
    induction nn using Nat.strongRecOn with
    | ind nn ih =>
      intro u s be r hmz hu1 hg
      have lp := ih
      refine S_n g 2 (pc' := 22) (lv' := [(0, .ref (ad 6)), (1, .ref (ad 100)), (2, .int (nI u0)), (3, .long pc0), (5, .long s), (7, .long be), (9, .int (nI u))]) (st' := [.ref (ad 100), .int (nI u)]) rfl ?_
      refine S_getI g (i := 100) (c := 7) (k := 6) (by decide) (by decide) rfl rfl fl_X5_22 rfl ?_
      rw [hU]
      refine S_icN_ge g (tgt := 152) (by omega) (by omega) rfl (by decide) (fun qz25 => ?_) (fun qz25 => ?_)
      · skip
        have hu9 : u = nu := by omega
        subst hu9
        refine S_n g 1 (pc' := 154) (lv' := [(0, .ref (ad 6)), (1, .ref (ad 100)), (2, .int (nI u0)), (3, .long pc0), (5, .long s), (7, .long be), (9, .int (nI u))]) (st' := [.long s]) rfl ?_
        exact rtL rt rfl rfl (⟨rfl, rfl, rfl, rfl, s, be, r, rfl, rfl, hg⟩)
      · skip
        have hu : u < 6 := by omega
        refine S_n g 1 (pc' := 29) (lv' := [(0, .ref (ad 6)), (1, .ref (ad 100)), (2, .int (nI u0)), (3, .long pc0), (5, .long s), (7, .long be), (9, .int (nI u))]) (st' := [.ref (ad 100)]) rfl ?_
        refine S_getR g (i := 100) (c := 7) (k := 1) (j := 102) (by decide) (by decide) rfl rfl rfl fl_X5_28 rfl ?_
        refine S_n g 1 (pc' := 34) (lv' := [(0, .ref (ad 6)), (1, .ref (ad 100)), (2, .int (nI u0)), (3, .long pc0), (5, .long s), (7, .long be), (9, .int (nI u))]) (st' := [.int (nI u), .ref (ad 102)]) rfl ?_
        refine S_aaldN g (i := 102) (e := u) (j := 120 + 4 * u) (by decide) rfl (show u < 6 from by omega) (show (6 : Nat) < 2 ^ 31 from by decide) rfl rfl ?_
        refine S_getJ g (i := 120 + 4 * u) (c := 2) (k := 1) (by omega) (by decide) (mb7 hu).1 rfl fl_X5_120 rfl ?_
        rw [h3 u hu]
        refine S_n g 3 (pc' := 43) (lv' := [(0, .ref (ad 6)), (1, .ref (ad 100)), (2, .int (nI u0)), (3, .long pc0), (5, .long s), (7, .long be), (9, .int (nI u)), (10, .long (m (63 + u))), (12, .int (nI 0))]) (st' := []) rfl ?_
        have lp2 : ∀ (nn : Nat) (p : Nat) (s2 : Int64) (be2 : Int64) (r2 : Nat → Int64), 60 - p = nn → (p ≤ 60) → (GI m lk (12 * nf) nu (gpS m nu (pgU lk (12 * nf) nu) sv fi (max 1 (pix lk (12 * nf) u p - fi))) s2 be2 r2 fi) → Sim X (YC ad z0 z1) 43 [(0, .ref (ad 6)), (1, .ref (ad 100)), (2, .int (nI u0)), (3, .long pc0), (5, .long s2), (7, .long be2), (9, .int (nI u)), (10, .long (m (63 + u))), (12, .int (nI p))] [] I J A (va_up B 7 r2) 0 0 := by
          intro nn
          induction nn using Nat.strongRecOn with
          | ind nn ih =>
            intro p s2 be2 r2 hmz hp hg2
            have lp2 := ih
            refine S_n g 2 (pc' := 47) (lv' := [(0, .ref (ad 6)), (1, .ref (ad 100)), (2, .int (nI u0)), (3, .long pc0), (5, .long s2), (7, .long be2), (9, .int (nI u)), (10, .long (m (63 + u))), (12, .int (nI p))]) (st' := [.int (nI 60), .int (nI p)]) rfl ?_
            refine S_icN_ge g (tgt := 146) (by omega) (by omega) rfl (by decide) (fun qz47 => ?_) (fun qz47 => ?_)
            · skip
              have hp9 : p = 60 := by omega
              subst hp9
              have hpu := pix_u (lk := lk) (np := 12 * nf) (u := u) (by omega) (fun q hq => okL_z hlk h2 hq (by omega))
              refine S_n g 1 (pc' := 149) (lv' := [(0, .ref (ad 6)), (1, .ref (ad 100)), (2, .int (nI u0)), (3, .long pc0), (5, .long s2), (7, .long be2), (9, .int ((nI u) + nI 1)), (10, .long (m (63 + u))), (12, .int (nI 60))]) (st' := []) rfl ?_
              rw [nI_add u 1]
              refine S_n g 1 (pc' := 19) (lv' := [(0, .ref (ad 6)), (1, .ref (ad 100)), (2, .int (nI u0)), (3, .long pc0), (5, .long s2), (7, .long be2), (9, .int (nI (u + 1))), (10, .long (m (63 + u))), (12, .int (nI 60))]) (st' := []) rfl ?_
              refine S_keep (lv' := [(0, .ref (ad 6)), (1, .ref (ad 100)), (2, .int (nI u0)), (3, .long pc0), (5, .long s2), (7, .long be2), (9, .int (nI (u + 1)))]) [0, 1, 2, 3, 5, 7, 9] rfl ?_
              exact lp (nu - (u + 1)) (by omega) (u + 1) s2 be2 r2 rfl (by omega) (by rw [← hpu]; exact hg2)
            · skip
              refine S_n g 3 (pc' := 54) (lv' := [(0, .ref (ad 6)), (1, .ref (ad 100)), (2, .int (nI u0)), (3, .long pc0), (5, .long s2), (7, .long be2), (9, .int (nI u)), (10, .long (m (63 + u))), (12, .int (nI p))]) (st' := [.long ((lN 1) <<< ((nI p).toInt64 &&& 63))]) rfl ?_
              refine S_steq (st' := [.long (b1 p)]) (by rw [(show (lN 1) <<< ((nI p).toInt64 &&& 63) = b1 p from rfl).symm]) ?_
              refine S_n g 2 (pc' := 57) (lv' := [(0, .ref (ad 6)), (1, .ref (ad 100)), (2, .int (nI u0)), (3, .long pc0), (5, .long s2), (7, .long be2), (9, .int (nI u)), (10, .long (m (63 + u))), (12, .int (nI p)), (13, .long (b1 p))]) (st' := [.ref (ad 6)]) rfl ?_
              refine S_getR g (i := 6) (c := 5) (k := 0) (j := 7) (by decide) (by decide) rfl rfl rfl fl_X5_9 rfl ?_
              refine S_n g 1 (pc' := 62) (lv' := [(0, .ref (ad 6)), (1, .ref (ad 100)), (2, .int (nI u0)), (3, .long pc0), (5, .long s2), (7, .long be2), (9, .int (nI u)), (10, .long (m (63 + u))), (12, .int (nI p)), (13, .long (b1 p))]) (st' := [.int (nI u), .ref (ad 7)]) rfl ?_
              refine S_laldN g (i := 7) (e := u) (by decide) rfl (show u < 6 from by omega) (show (6 : Nat) < 2 ^ 31 from by decide) rfl ?_
              show Sim X (YC ad z0 z1) 63 [(0, .ref (ad 6)), (1, .ref (ad 100)), (2, .int (nI u0)), (3, .long pc0), (5, .long s2), (7, .long be2), (9, .int (nI u)), (10, .long (m (63 + u))), (12, .int (nI p)), (13, .long (b1 p))] [.long (r2 u)] I J A (va_up B 7 r2) 0 0
              refine S_n g 5 (pc' := 70) (lv' := [(0, .ref (ad 6)), (1, .ref (ad 100)), (2, .int (nI u0)), (3, .long pc0), (5, .long s2), (7, .long be2), (9, .int (nI u)), (10, .long (m (63 + u))), (12, .int (nI p)), (13, .long (b1 p))]) (st' := [.long (lN 0), .long (((r2 u) &&& be2) &&& (b1 p))]) rfl ?_
              refine S_lc_eq g (tgt := 78) rfl rfl (by decide) (fun qz70 => ?_) (fun qz70 => ?_)
              · skip
                have hnb := (and_b1 (show p < 64 by omega)).mp qz70
                rw [tb_and] at hnb
                refine S_n g 3 (pc' := 83) (lv' := [(0, .ref (ad 6)), (1, .ref (ad 100)), (2, .int (nI u0)), (3, .long pc0), (5, .long s2), (7, .long be2), (9, .int (nI u)), (10, .long (m (63 + u))), (12, .int (nI p)), (13, .long (b1 p)), (15, .int (nI 0))]) (st' := [.int (nI 0)]) rfl ?_
                refine S_ifN_eq g (tgt := 140) (by omega) rfl (by decide) (fun qz83 => ?_) (fun qz83 => ?_)
                · skip
                  have hsk := gp_skip h2 hlk (show u < nu by omega) (show p < 60 by omega) hg2 (fun q => by rw [q.1, q.2.1] at hnb; exact absurd hnb (by decide))
                  refine S_n g 1 (pc' := 143) (lv' := [(0, .ref (ad 6)), (1, .ref (ad 100)), (2, .int (nI u0)), (3, .long pc0), (5, .long s2), (7, .long be2), (9, .int (nI u)), (10, .long (m (63 + u))), (12, .int ((nI p) + nI 1)), (13, .long (b1 p)), (15, .int (nI 0))]) (st' := []) rfl ?_
                  rw [nI_add p 1]
                  refine S_n g 1 (pc' := 43) (lv' := [(0, .ref (ad 6)), (1, .ref (ad 100)), (2, .int (nI u0)), (3, .long pc0), (5, .long s2), (7, .long be2), (9, .int (nI u)), (10, .long (m (63 + u))), (12, .int (nI (p + 1))), (13, .long (b1 p)), (15, .int (nI 0))]) (st' := []) rfl ?_
                  refine S_keep (lv' := [(0, .ref (ad 6)), (1, .ref (ad 100)), (2, .int (nI u0)), (3, .long pc0), (5, .long s2), (7, .long be2), (9, .int (nI u)), (10, .long (m (63 + u))), (12, .int (nI (p + 1)))]) [0, 1, 2, 3, 5, 7, 9, 10, 12] rfl ?_
                  exact lp2 (60 - (p + 1)) (by omega) (p + 1) s2 be2 r2 rfl (by omega) hsk
                · skip
                  exact absurd qz83 (by decide)
              · skip
                have hnb : tb (r2 u &&& be2) p = true := by cases hbv : tb (r2 u &&& be2) p; (· exact absurd ((and_b1 (show p < 64 by omega)).mpr hbv) qz70); (· rfl)
                rw [tb_and, Bool.and_eq_true] at hnb
                refine S_n g 4 (pc' := 83) (lv' := [(0, .ref (ad 6)), (1, .ref (ad 100)), (2, .int (nI u0)), (3, .long pc0), (5, .long s2), (7, .long be2), (9, .int (nI u)), (10, .long (m (63 + u))), (12, .int (nI p)), (13, .long (b1 p)), (15, .int (nI 1))]) (st' := [.int (nI 1)]) rfl ?_
                refine S_ifN_eq g (tgt := 140) (by omega) rfl (by decide) (fun qz83 => ?_) (fun qz83 => ?_)
                · skip
                  exact absurd qz83 (by decide)
                · skip
                  refine S_n g 2 (pc' := 90) (lv' := [(0, .ref (ad 6)), (1, .ref (ad 100)), (2, .int (nI u0)), (3, .long pc0), (5, .long s2), (7, .long be2), (9, .int (nI u)), (10, .long (m (63 + u))), (12, .int (nI p)), (13, .long (b1 p)), (15, .int (nI 1))]) (st' := [.long (m (63 + u)), .long s2]) rfl ?_
                  refine S_ldc2 g kc_X5_94 rfl ?_
                  refine S_n g 3 (pc' := 97) (lv' := [(0, .ref (ad 6)), (1, .ref (ad 100)), (2, .int (nI u0)), (3, .long pc0), (5, .long s2), (7, .long be2), (9, .int (nI u)), (10, .long (m (63 + u))), (12, .int (nI p)), (13, .long (b1 p)), (15, .int (nI 1))]) (st' := [.long (b1 p), .long (s2 &&& ((m (63 + u)) ^^^ (-lN 1)))]) rfl ?_
                  refine S_ldc2 g kc_X5_94 rfl ?_
                  refine S_n g 3 (pc' := 103) (lv' := [(0, .ref (ad 6)), (1, .ref (ad 100)), (2, .int (nI u0)), (3, .long pc0), (5, .long s2), (7, .long be2), (9, .int (nI u)), (10, .long (m (63 + u))), (12, .int (nI p)), (13, .long (b1 p)), (15, .int (nI 1))]) (st' := [.long (lN 0), .long ((s2 &&& ((m (63 + u)) ^^^ (-lN 1))) &&& ((b1 p) ^^^ (-lN 1)))]) rfl ?_
                  refine S_lc_ne g (tgt := 140) rfl rfl (by decide) (fun qz103 => ?_) (fun qz103 => ?_)
                  · skip
                    have hsk := gp_skip h2 hlk (show u < nu by omega) (show p < 60 by omega) hg2 (fun q => qz103 q.2.2)
                    refine S_n g 1 (pc' := 143) (lv' := [(0, .ref (ad 6)), (1, .ref (ad 100)), (2, .int (nI u0)), (3, .long pc0), (5, .long s2), (7, .long be2), (9, .int (nI u)), (10, .long (m (63 + u))), (12, .int ((nI p) + nI 1)), (13, .long (b1 p)), (15, .int (nI 1))]) (st' := []) rfl ?_
                    rw [nI_add p 1]
                    refine S_n g 1 (pc' := 43) (lv' := [(0, .ref (ad 6)), (1, .ref (ad 100)), (2, .int (nI u0)), (3, .long pc0), (5, .long s2), (7, .long be2), (9, .int (nI u)), (10, .long (m (63 + u))), (12, .int (nI (p + 1))), (13, .long (b1 p)), (15, .int (nI 1))]) (st' := []) rfl ?_
                    refine S_keep (lv' := [(0, .ref (ad 6)), (1, .ref (ad 100)), (2, .int (nI u0)), (3, .long pc0), (5, .long s2), (7, .long be2), (9, .int (nI u)), (10, .long (m (63 + u))), (12, .int (nI (p + 1)))]) [0, 1, 2, 3, 5, 7, 9, 10, 12] rfl ?_
                    exact lp2 (60 - (p + 1)) (by omega) (p + 1) s2 be2 r2 rfl (by omega) hsk
                  · skip
                    have hjn := gp_join h2 hlk hcl (show u < nu by omega) (show p < 60 by omega) hg2 hnb.1 hnb.2 qz103
                    refine S_n g 11 (pc' := 125) (lv' := [(0, .ref (ad 6)), (1, .ref (ad 100)), (2, .int (nI u0)), (3, .long pc0), (5, .long (s2 ||| (b1 p))), (7, .long (be2 &&& ((m (63 + u)) ||| (b1 p)))), (9, .int (nI u)), (10, .long (m (63 + u))), (12, .int (nI p)), (13, .long (b1 p)), (15, .int (nI 1))]) (st' := [.ref (ad 6)]) rfl ?_
                    refine S_getR g (i := 6) (c := 5) (k := 0) (j := 7) (by decide) (by decide) rfl rfl rfl fl_X5_9 rfl ?_
                    refine S_n g 2 (pc' := 131) (lv' := [(0, .ref (ad 6)), (1, .ref (ad 100)), (2, .int (nI u0)), (3, .long pc0), (5, .long (s2 ||| (b1 p))), (7, .long (be2 &&& ((m (63 + u)) ||| (b1 p)))), (9, .int (nI u)), (10, .long (m (63 + u))), (12, .int (nI p)), (13, .long (b1 p)), (15, .int (nI 1))]) (st' := [.int (nI u), .ref (ad 7), .int (nI u), .ref (ad 7)]) rfl ?_
                    refine S_laldN g (i := 7) (e := u) (by decide) rfl (show u < 6 from by omega) (show (6 : Nat) < 2 ^ 31 from by decide) rfl ?_
                    show Sim X (YC ad z0 z1) 132 [(0, .ref (ad 6)), (1, .ref (ad 100)), (2, .int (nI u0)), (3, .long pc0), (5, .long (s2 ||| (b1 p))), (7, .long (be2 &&& ((m (63 + u)) ||| (b1 p)))), (9, .int (nI u)), (10, .long (m (63 + u))), (12, .int (nI p)), (13, .long (b1 p)), (15, .int (nI 1))] [.long (r2 u), .int (nI u), .ref (ad 7)] I J A (va_up B 7 r2) 0 0
                    refine S_n g 1 (pc' := 134) (lv' := [(0, .ref (ad 6)), (1, .ref (ad 100)), (2, .int (nI u0)), (3, .long pc0), (5, .long (s2 ||| (b1 p))), (7, .long (be2 &&& ((m (63 + u)) ||| (b1 p)))), (9, .int (nI u)), (10, .long (m (63 + u))), (12, .int (nI p)), (13, .long (b1 p)), (15, .int (nI 1))]) (st' := [.long (b1 p), .long (r2 u), .int (nI u), .ref (ad 7)]) rfl ?_
                    refine S_ldc2 g kc_X5_94 rfl ?_
                    refine S_n g 2 (pc' := 139) (lv' := [(0, .ref (ad 6)), (1, .ref (ad 100)), (2, .int (nI u0)), (3, .long pc0), (5, .long (s2 ||| (b1 p))), (7, .long (be2 &&& ((m (63 + u)) ||| (b1 p)))), (9, .int (nI u)), (10, .long (m (63 + u))), (12, .int (nI p)), (13, .long (b1 p)), (15, .int (nI 1))]) (st' := [.long ((r2 u) &&& ((b1 p) ^^^ (-lN 1))), .int (nI u), .ref (ad 7)]) rfl ?_
                    refine S_lastN g (i := 7) (e := u) (by decide) rfl (show u < 6 from by omega) (show (6 : Nat) < 2 ^ 31 from by decide) rfl ?_
                    rw [up2_r1 (i := 7)]
                    refine S_n g 1 (pc' := 143) (lv' := [(0, .ref (ad 6)), (1, .ref (ad 100)), (2, .int (nI u0)), (3, .long pc0), (5, .long (s2 ||| (b1 p))), (7, .long (be2 &&& ((m (63 + u)) ||| (b1 p)))), (9, .int (nI u)), (10, .long (m (63 + u))), (12, .int ((nI p) + nI 1)), (13, .long (b1 p)), (15, .int (nI 1))]) (st' := []) rfl ?_
                    rw [nI_add p 1]
                    refine S_n g 1 (pc' := 43) (lv' := [(0, .ref (ad 6)), (1, .ref (ad 100)), (2, .int (nI u0)), (3, .long pc0), (5, .long (s2 ||| (b1 p))), (7, .long (be2 &&& ((m (63 + u)) ||| (b1 p)))), (9, .int (nI u)), (10, .long (m (63 + u))), (12, .int (nI (p + 1))), (13, .long (b1 p)), (15, .int (nI 1))]) (st' := []) rfl ?_
                    refine S_keep (lv' := [(0, .ref (ad 6)), (1, .ref (ad 100)), (2, .int (nI u0)), (3, .long pc0), (5, .long (s2 ||| (b1 p))), (7, .long (be2 &&& ((m (63 + u)) ||| (b1 p)))), (9, .int (nI u)), (10, .long (m (63 + u))), (12, .int (nI (p + 1)))]) [0, 1, 2, 3, 5, 7, 9, 10, 12] rfl ?_
                    exact lp2 (60 - (p + 1)) (by omega) (p + 1) (s2 ||| (b1 p)) (be2 &&& ((m (63 + u)) ||| (b1 p))) (va_up r2 u ((r2 u) &&& ((b1 p) ^^^ (-lN 1)))) rfl (by omega) hjn
        exact lp2 _ 0 s be r rfl (Nat.zero_le _) hg
  have h0 := lp _ u0 pc0 (m (63 + u0) ||| pc0) (B 7) rfl (by omega) hGI
  rw [va_id] at h0
  exact h0

/-- what is missing and the pending list may have changed -/
def kpG (I : FI) (A : FI) (B : FJ) (I' : FI) (A' : FI) (B' : FJ) : Prop := (∀ i k, i ≠ 103 ∨ k ≠ 3 → I' i k = I i k) ∧ (∀ i, i ≠ 105 → A' i = A i) ∧ ∀ i, i ≠ 104 → i ≠ 7 → B' i = B i
theorem kpG_rf (I : FI) (A : FI) (B : FJ) : kpG I A B I A B := ⟨fun _ _ _ => rfl, fun _ _ => rfl, fun _ _ _ => rfl⟩
theorem kpG_7 {I : FI} {A : FI} {B : FJ} {I' : FI} {A' : FI} {B' : FJ} {I2 : FI} {A2 : FI} {B2 : FJ} {r : Nat → Int64} (h : kpG I A B I' A' B') (q : kpQ I' A' (va_up B' 7 r) I2 A2 B2) : kpG I A B I2 A2 B2 := ⟨fun i k e => (q.1 i k e).trans (h.1 i k e), fun i e => (q.2.1 i e).trans (h.2.1 i e), fun i e f => (q.2.2 i e).trans ((va_up_ne _ _ f).trans (h.2.2 i e f))⟩
/-- the greedy schedule so far -/
def GD (m lk : Nat → Int64) (nf nu k : Nat) (mi : Nat → Int64) : Prop := (∀ v, v < nu → ∀ q, q < 60 → tb (mi v) q = (tb (lk v) q && !(gdS m nu (pgU lk (12 * nf) nu) k).2 (pix lk (12 * nf) v q))) ∧ ∀ j, j < k → (gdS m nu (pgU lk (12 * nf) nu) k).2 j = true
theorem GD_no {m lk : Nat → Int64} {nf nu u p : Nat} {mi : Nat → Int64} (hu : u < nu) (hp : p < 60) (h : GD m lk nf nu (pix lk (12 * nf) u p) mi) (hb : tb (mi u) p = false) : GD m lk nf nu (pix lk (12 * nf) u (p + 1)) mi ∧ (gdS m nu (pgU lk (12 * nf) nu) (pix lk (12 * nf) u (p + 1))).1 = (gdS m nu (pgU lk (12 * nf) nu) (pix lk (12 * nf) u p)).1 := by
  cases hl : tb (lk u) p
  · rw [pix_f hl]; exact ⟨h, rfl⟩
  · have h3 := h.1 u hu p hp
    rw [hb, hl, Bool.true_and] at h3
    have hs : (gdS m nu (pgU lk (12 * nf) nu) (pix lk (12 * nf) u p)).2 (pix lk (12 * nf) u p) = true := by simpa using h3.symm
    have e : gdS m nu (pgU lk (12 * nf) nu) (pix lk (12 * nf) u p + 1) = gdS m nu (pgU lk (12 * nf) nu) (pix lk (12 * nf) u p) := by rw [gdS_s, if_pos hs]
    rw [pix_t hl]
    refine ⟨⟨?_, fun j hj => ?_⟩, by rw [e]⟩
    · rw [e]; exact h.1
    · rw [e]
      by_cases z : j = pix lk (12 * nf) u p
      · rw [z]; exact hs
      · exact h.2 j (by omega)

set_option maxRecDepth 100000 in
set_option maxHeartbeats 4000000 in
theorem s_greedy (ad : Nat → Nat) (z0 z1 : Bool) (I : FI) (J : FJ) (A : FI) (B : FJ) (m : Nat → Int64) (nf nu : Nat) (hB : WB m) (h1 : 1 ≤ nf) (h2 : nf ≤ 5) (h4 : nu ≤ 6) (hmU : m 1 = lN nu) (lk : Nat → Int64) (hlk : okL lk m nf nu) (hB7 : ∀ u, u < nu → B 7 u = lk u) (hcl : ∀ v, v < nu → ∀ q, tb (lk v) q = true → tb (m (63 + v)) q = false) (hlen : (pgU lk (12 * nf) nu).length ≤ 72) (hR : RepW 100 (qL m []) I J A B) : Spec M_X5_addGreedy [.ref (ad 6), .ref (ad 100)] (YC ad z0 z1) I J A B (fun v' Y' I' J' A' B' => v' = none ∧ Y' = YC ad z0 z1 ∧ J' = J ∧ RepW 100 (qL m (gdS m nu (pgU lk (12 * nf) nu) (pgU lk (12 * nf) nu).length).1) I' J A' B' ∧ kpG I A B I' A' B') := by
  have h3 : ∀ v, v < 6 → J (120 + 4 * v) 1 = m (63 + v) := fun v hv => by rw [(hR.2.2.2.1 v hv).1, qL_lo m (Nat.zero_le _) (by omega)]
  have hU : I 100 6 = nI nu := by rw [hR.1.2.1, qL_lo m (Nat.zero_le _) (by decide), hmU, lN_i]
  refine Spec_of (by decide) tk_X5_addGreedy (Nat.le_of_ble_eq_true rfl) (fun X g rt => ?_)
  show Sim X (YC ad z0 z1) 0 [(0, .ref (ad 6)), (1, .ref (ad 100))] [] I J A B 0 0
  refine S_n g 2 (pc' := 2) (lv' := [(0, .ref (ad 6)), (1, .ref (ad 100)), (2, .int (nI 0))]) (st' := []) rfl ?_
  have lp : ∀ (nn : Nat) (u : Nat) (I2 : FI) (A2 : FI) (B2 : FJ), nu - u = nn → (u ≤ nu) → (GD m lk nf nu (pix lk (12 * nf) u 0) (B2 7)) → (RepW 100 (qL m (gdS m nu (pgU lk (12 * nf) nu) (pix lk (12 * nf) u 0)).1) I2 J A2 B2) → (kpG I A B I2 A2 B2) → Sim X (YC ad z0 z1) 2 [(0, .ref (ad 6)), (1, .ref (ad 100)), (2, .int (nI u))] [] I2 J A2 B2 0 0 := by
    intro nn
    induction nn using Nat.strongRecOn with
    | ind nn ih =>
      intro u I2 A2 B2 hmz hu1 hg2 hR2 hk2
      have lp := ih
      have hU2 : I2 100 6 = nI nu := by rw [hk2.1 100 6 (by omega)]; exact hU
      refine S_n g 2 (pc' := 4) (lv' := [(0, .ref (ad 6)), (1, .ref (ad 100)), (2, .int (nI u))]) (st' := [.ref (ad 100), .int (nI u)]) rfl ?_
      refine S_getI g (i := 100) (c := 7) (k := 6) (by decide) (by decide) rfl rfl fl_X5_22 rfl ?_
      rw [hU2]
      refine S_icN_ge g (tgt := 78) (by omega) (by omega) rfl (by decide) (fun qz7 => ?_) (fun qz7 => ?_)
      · skip
        have hu9 : u = nu := by omega
        subst hu9
        exact rtV rt rfl rfl (⟨rfl, rfl, rfl, hR2, hk2⟩)
      · skip
        have hu : u < nu := by omega
        refine S_n g 2 (pc' := 12) (lv' := [(0, .ref (ad 6)), (1, .ref (ad 100)), (2, .int (nI u)), (3, .int (nI 0))]) (st' := []) rfl ?_
        have lp2 : ∀ (nn : Nat) (p : Nat) (I3 : FI) (A3 : FI) (B3 : FJ), 60 - p = nn → (p ≤ 60) → (GD m lk nf nu (pix lk (12 * nf) u p) (B3 7)) → (RepW 100 (qL m (gdS m nu (pgU lk (12 * nf) nu) (pix lk (12 * nf) u p)).1) I3 J A3 B3) → (kpG I A B I3 A3 B3) → Sim X (YC ad z0 z1) 12 [(0, .ref (ad 6)), (1, .ref (ad 100)), (2, .int (nI u)), (3, .int (nI p))] [] I3 J A3 B3 0 0 := by
          intro nn
          induction nn using Nat.strongRecOn with
          | ind nn ih =>
            intro p I3 A3 B3 hmz hp hg3 hR3 hk3
            have lp2 := ih
            have hU3 : I3 100 6 = nI nu := by rw [hk3.1 100 6 (by omega)]; exact hU
            refine S_n g 2 (pc' := 15) (lv' := [(0, .ref (ad 6)), (1, .ref (ad 100)), (2, .int (nI u)), (3, .int (nI p))]) (st' := [.int (nI 60), .int (nI p)]) rfl ?_
            refine S_icN_ge g (tgt := 72) (by omega) (by omega) rfl (by decide) (fun qz15 => ?_) (fun qz15 => ?_)
            · skip
              have hp9 : p = 60 := by omega
              subst hp9
              have hpu := pix_u (lk := lk) (np := 12 * nf) (u := u) (by omega) (fun q hq => okL_z hlk h2 hq hu)
              refine S_n g 1 (pc' := 75) (lv' := [(0, .ref (ad 6)), (1, .ref (ad 100)), (2, .int ((nI u) + nI 1)), (3, .int (nI 60))]) (st' := []) rfl ?_
              rw [nI_add u 1]
              refine S_n g 1 (pc' := 2) (lv' := [(0, .ref (ad 6)), (1, .ref (ad 100)), (2, .int (nI (u + 1))), (3, .int (nI 60))]) (st' := []) rfl ?_
              refine S_keep (lv' := [(0, .ref (ad 6)), (1, .ref (ad 100)), (2, .int (nI (u + 1)))]) [0, 1, 2] rfl ?_
              exact lp (nu - (u + 1)) (by omega) (u + 1) I3 A3 B3 rfl (by omega) (by rw [← hpu]; exact hg3) (by rw [← hpu]; exact hR3) hk3
            · skip
              refine S_n g 1 (pc' := 19) (lv' := [(0, .ref (ad 6)), (1, .ref (ad 100)), (2, .int (nI u)), (3, .int (nI p))]) (st' := [.ref (ad 6)]) rfl ?_
              refine S_getR g (i := 6) (c := 5) (k := 0) (j := 7) (by decide) (by decide) rfl rfl rfl fl_X5_9 rfl ?_
              refine S_n g 1 (pc' := 23) (lv' := [(0, .ref (ad 6)), (1, .ref (ad 100)), (2, .int (nI u)), (3, .int (nI p))]) (st' := [.int (nI u), .ref (ad 7)]) rfl ?_
              refine S_laldN g (i := 7) (e := u) (by decide) rfl (show u < 6 from by omega) (show (6 : Nat) < 2 ^ 31 from by decide) rfl ?_
              refine S_n g 4 (pc' := 28) (lv' := [(0, .ref (ad 6)), (1, .ref (ad 100)), (2, .int (nI u)), (3, .int (nI p))]) (st' := [.long (((B3 7 u) >>> ((nI p).toInt64 &&& 63)) &&& (lN 1))]) rfl ?_
              refine S_steq (st' := [.long (lN (tb (B3 7 u) p).toNat)]) (by rw [(show ((B3 7 u) >>> ((nI p).toInt64 &&& 63)) &&& (lN 1) = lN (tb (B3 7 u) p).toNat from bit64 (by omega) _).symm]) ?_
              have hb1 : (tb (B3 7 u) p).toNat ≤ 1 := Bool.toNat_le _
              refine S_n g 1 (pc' := 29) (lv' := [(0, .ref (ad 6)), (1, .ref (ad 100)), (2, .int (nI u)), (3, .int (nI p))]) (st' := [.long (lN 0), .long (lN (tb (B3 7 u) p).toNat)]) rfl ?_
              refine S_lcN_eq g (tgt := 66) (by omega) (by omega) rfl rfl (by decide) (fun qz29 => ?_) (fun qz29 => ?_)
              · skip
                have hgn := GD_no hu (show p < 60 by omega) hg3 (by cases hbv : tb (B3 7 u) p; (· rfl); (· rw [hbv] at qz29; exact absurd qz29 (by decide)))
                refine S_n g 1 (pc' := 69) (lv' := [(0, .ref (ad 6)), (1, .ref (ad 100)), (2, .int (nI u)), (3, .int ((nI p) + nI 1))]) (st' := []) rfl ?_
                rw [nI_add p 1]
                refine S_n g 1 (pc' := 12) (lv' := [(0, .ref (ad 6)), (1, .ref (ad 100)), (2, .int (nI u)), (3, .int (nI (p + 1)))]) (st' := []) rfl ?_
                exact lp2 (60 - (p + 1)) (by omega) (p + 1) I3 A3 B3 rfl (by omega) hgn.1 (by rw [hgn.2]; exact hR3) hk3
              · skip
                have hbit : tb (B3 7 u) p = true := by cases hbv : tb (B3 7 u) p; (· rw [hbv] at qz29; exact absurd qz29 (by decide)); (· rfl)
                obtain ⟨hsv, hl, hbg⟩ := gp_beg (mi := B3 7) h2 hlk hcl hu (show p < 60 by omega) hg3.1 hg3.2 hbit
                have hkl := (L_at hu (okL_d h2 hlk hu hl).2 hl).2
                have hgl := gdS_len m nu (pgU lk (12 * nf) nu) (pix lk (12 * nf) u p)
                refine S_n g 1 (pc' := 34) (lv' := [(0, .ref (ad 6)), (1, .ref (ad 100)), (2, .int (nI u)), (3, .int (nI p))]) (st' := [.ref (ad 6)]) rfl ?_
                refine S_getR g (i := 6) (c := 5) (k := 0) (j := 7) (by decide) (by decide) rfl rfl rfl fl_X5_9 rfl ?_
                refine S_n g 2 (pc' := 39) (lv' := [(0, .ref (ad 6)), (1, .ref (ad 100)), (2, .int (nI u)), (3, .int (nI p))]) (st' := [.int (nI u), .ref (ad 7), .int (nI u), .ref (ad 7)]) rfl ?_
                refine S_laldN g (i := 7) (e := u) (by decide) rfl (show u < 6 from by omega) (show (6 : Nat) < 2 ^ 31 from by decide) rfl ?_
                refine S_n g 3 (pc' := 43) (lv' := [(0, .ref (ad 6)), (1, .ref (ad 100)), (2, .int (nI u)), (3, .int (nI p))]) (st' := [.long ((lN 1) <<< ((nI p).toInt64 &&& 63)), .long (B3 7 u), .int (nI u), .ref (ad 7)]) rfl ?_
                refine S_ldc2 g kc_X5_94 rfl ?_
                refine S_n g 2 (pc' := 48) (lv' := [(0, .ref (ad 6)), (1, .ref (ad 100)), (2, .int (nI u)), (3, .int (nI p))]) (st' := [.long ((B3 7 u) &&& (((lN 1) <<< ((nI p).toInt64 &&& 63)) ^^^ (-lN 1))), .int (nI u), .ref (ad 7)]) rfl ?_
                refine S_lastN g (i := 7) (e := u) (by decide) rfl (show u < 6 from by omega) (show (6 : Nat) < 2 ^ 31 from by decide) rfl ?_
                show Sim X (YC ad z0 z1) 49 [(0, .ref (ad 6)), (1, .ref (ad 100)), (2, .int (nI u)), (3, .int (nI p))] [] I3 J A3 (va_up B3 7 (va_up (B3 7) u ((B3 7 u) &&& (((lN 1) <<< ((nI p).toInt64 &&& 63)) ^^^ (-lN 1))))) 0 0
                refine S_n g 1 (pc' := 50) (lv' := [(0, .ref (ad 6)), (1, .ref (ad 100)), (2, .int (nI u)), (3, .int (nI p))]) (st' := [.ref (ad 100)]) rfl ?_
                refine S_getR g (i := 100) (c := 7) (k := 2) (j := 103) (by decide) (by decide) rfl rfl rfl fl_X5_42 rfl ?_
                refine S_n g 6 (pc' := 59) (lv' := [(0, .ref (ad 6)), (1, .ref (ad 100)), (2, .int (nI u)), (3, .int (nI p))]) (st' := [.long ((lN 1) <<< ((nI p).toInt64 &&& 63)), .int (nI u), .ref (ad 100), .ref (ad 6), .ref (ad 103)]) rfl ?_
                refine S_steq (st' := [.long (b1 p), .int (nI u), .ref (ad 100), .ref (ad 6), .ref (ad 103)]) (by rw [(show (lN 1) <<< ((nI p).toInt64 &&& 63) = b1 p from rfl).symm]) ?_
                refine S_callV g (i := 6) (As := [.ref (ad 100), .int (nI u), .long (b1 p)]) (st := [.ref (ad 103)]) (s_grow ad z0 z1 I3 J A3 (va_up B3 7 (va_up (B3 7) u ((B3 7 u) &&& (((lN 1) <<< ((nI p).toInt64 &&& 63)) ^^^ (-lN 1))))) m lk nf nu h2 h4 hU3 h3 hlk hcl (gdS m nu (pgU lk (12 * nf) nu) (pix lk (12 * nf) u p)).2 (pix lk (12 * nf) u p) u hu (b1 p) (by rw [va_up_self]; exact hbg 0 (Nat.zero_le _))) mw_X5_growGroup lk_X5_116 ⟨Nat.le_of_ble_eq_true rfl, Nat.le_of_ble_eq_true rfl⟩ (by decide) (by decide) rfl rfl (Nat.le_of_ble_eq_true rfl) ⟨Nat.le_of_ble_eq_true rfl, Nat.le_of_ble_eq_true rfl⟩ rfl (fun v' Y' I9 J9 A9 B9 hpo => ?_)
                obtain ⟨rfl, e1, e2, e3, s9, be9, r9, rfl, e4, hg9⟩ := hpo
                rw [e1, e2, e3, e4, va_up1]
                rw [pix_nu, show max 1 ((pgU lk (12 * nf) nu).length - pix lk (12 * nf) u p) = (pgU lk (12 * nf) nu).length - pix lk (12 * nf) u p by omega] at hg9
                show Sim X (YC ad z0 z1) 62 [(0, .ref (ad 6)), (1, .ref (ad 100)), (2, .int (nI u)), (3, .int (nI p))] [.long s9, .ref (ad 103)] I3 J A3 (va_up B3 7 r9) 0 0
                have hst : gdS m nu (pgU lk (12 * nf) nu) (pix lk (12 * nf) u (p + 1)) = ((gdS m nu (pgU lk (12 * nf) nu) (pix lk (12 * nf) u p)).1 ++ [s9], (gpS m nu (pgU lk (12 * nf) nu) (gdS m nu (pgU lk (12 * nf) nu) (pix lk (12 * nf) u p)).2 (pix lk (12 * nf) u p) ((pgU lk (12 * nf) nu).length - pix lk (12 * nf) u p)).2.2) := by rw [pix_t hl, gdS_s, if_neg (by rw [hsv]; decide), hg9.1]
                have hR9 : RepW 100 (qL m (gdS m nu (pgU lk (12 * nf) nu) (pix lk (12 * nf) u p)).1) I3 J A3 (va_up B3 7 r9) := RepW_fr hR3 (fun i a b => ⟨rfl, rfl, rfl, va_up_ne _ _ (by omega)⟩)
                refine S_n g 1 (pc' := 63) (lv' := [(0, .ref (ad 6)), (1, .ref (ad 100)), (2, .int (nI u)), (3, .int (nI p))]) (st' := [.int (nI 0), .long s9, .ref (ad 103)]) rfl ?_
                refine S_callV g (i := 103) (As := [.long s9, .int (nI 0)]) (st := []) (q_push ad z0 z1 I3 J A3 (va_up B3 7 r9) m hB ((gdS m nu (pgU lk (12 * nf) nu) (pix lk (12 * nf) u p)).1) (by omega) hR9 (s9)) mw_X6_append lk_X5_68 ⟨Nat.le_of_ble_eq_true rfl, Nat.le_of_ble_eq_true rfl⟩ (by decide) (by decide) rfl rfl (Nat.le_of_ble_eq_true rfl) ⟨Nat.le_of_ble_eq_true rfl, Nat.le_of_ble_eq_true rfl⟩ rfl (fun v' Y' I4 J4 A4 B4 hpo => ?_)
                obtain ⟨rfl, rfl, ej4, hR4, hq4⟩ := hpo
                rw [ej4]
                show Sim X (YC ad z0 z1) 66 [(0, .ref (ad 6)), (1, .ref (ad 100)), (2, .int (nI u)), (3, .int (nI p))] [] I4 J A4 B4 0 0
                have hg4 : GD m lk nf nu (pix lk (12 * nf) u (p + 1)) (B4 7) := by
                  rw [hq4.2.2 7 (by decide), va_up_self]
                  unfold GD
                  rw [hst]
                  exact ⟨hg9.2.2.1, fun j hj => hg9.2.2.2.2 j (by rw [pix_t hl] at hj; omega)⟩
                refine S_n g 1 (pc' := 69) (lv' := [(0, .ref (ad 6)), (1, .ref (ad 100)), (2, .int (nI u)), (3, .int ((nI p) + nI 1))]) (st' := []) rfl ?_
                rw [nI_add p 1]
                refine S_n g 1 (pc' := 12) (lv' := [(0, .ref (ad 6)), (1, .ref (ad 100)), (2, .int (nI u)), (3, .int (nI (p + 1)))]) (st' := []) rfl ?_
                exact lp2 (60 - (p + 1)) (by omega) (p + 1) I4 A4 B4 rfl (by omega) hg4 (by rw [hst]; exact hR4) (kpG_7 hk3 hq4)
        exact lp2 _ 0 I2 A2 B2 rfl (Nat.zero_le _) hg2 hR2 hk2
  exact lp _ 0 I A B rfl (Nat.zero_le _) (⟨fun v hv q hq => by rw [hB7 v hv, pix_0]; exact (Bool.and_true _).symm, fun j hj => absurd hj (Nat.not_lt_zero j)⟩) hR (kpG_rf I A B)

set_option maxRecDepth 100000 in
set_option maxHeartbeats 4000000 in
theorem s_replace (ad : Nat → Nat) (z0 z1 : Bool) (I : FI) (J : FJ) (A : FI) (B : FJ) (k : Nat) (m : Nat → Int64) (hG : WG m) (hR : RepW 100 m I J A B) (hk4 : k < 4) : Spec M_X5_replacePending [.ref (ad 6), .ref (ad 100), .ref (ad 2), .int (nI k)] (YC ad z0 z1) I J A B (fun v' Y' I' J' A' B' => v' = none ∧ Y' = YC ad z0 z1 ∧ RepW 100 (qL m (schL (gN (m 0)) (gN (m 1)) (lnG m) m k)) I' J' A' B' ∧ kpC I J A B I' J' A' B') := by
  obtain ⟨nf, hnf⟩ : ∃ nf, nf = gN (m 0) := ⟨_, rfl⟩
  obtain ⟨nu, hnu⟩ : ∃ nu, nu = gN (m 1) := ⟨_, rfl⟩
  obtain ⟨nc, hnc⟩ : ∃ nc, nc = gN (m 2) := ⟨_, rfl⟩
  have hD := hG.1
  unfold wc0 at hD
  rw [← hnf, ← hnu, ← hnc] at hD
  obtain ⟨hmF, hmU, hmC, h1, h2, h3, h4, h5⟩ := hD
  have hF : I 100 5 = nI nf := by rw [hR.1.1, hmF, lN_i]
  have hU : I 100 6 = nI nu := by rw [hR.1.2.1, hmU, lN_i]
  have hC : I 100 7 = nI nc := by rw [hR.1.2.2.1, hmC, lN_i]
  have hsok := sch_ok (show Wf m (gN (m 0)) (gN (m 1)) (gN (m 2)) (gN (m 327)) (gN (m 428)) (gN (m 529)) (lnG m) from hG) k
  rw [← hnf, ← hnu] at hsok ⊢
  have hWs : ∀ v, v < 6 → okW m v nf := fun v hv => by rw [hnf]; exact (hG.2.2.2.2.2.1 v hv).1
  have hlk : okL (lkF m (lnG m)) m nf nu := okL_of h2 h4 hWs
  have hB : WB m := WGn hG
  have hcl := lk_cl (ln := lnG m) h2 h4 hWs (fun u hu => (usr hG hR hu).2.2.2.1) (fun u hu => (usr hG hR hu).2.2.2.2.1)
  refine Spec_of (by decide) tk_X5_replacePending (Nat.le_of_ble_eq_true rfl) (fun X g rt => ?_)
  show Sim X (YC ad z0 z1) 0 [(0, .ref (ad 6)), (1, .ref (ad 100)), (2, .ref (ad 2)), (3, .int (nI k))] [] I J A B 0 0
  refine S_n g 2 (pc' := 3) (lv' := [(0, .ref (ad 6)), (1, .ref (ad 100)), (2, .ref (ad 2)), (3, .int (nI k)), (4, .int (nI 0))]) (st' := []) rfl ?_
  have lp : ∀ (nn : Nat) (u : Nat) (I2 : FI) (J2 : FJ) (B2 : FJ), nu - u = nn → (u ≤ nu) → (RepW 100 m I2 J2 A B2) → (kpC I J A B I2 J2 A B2) → (∀ v, v < u → B2 7 v = lkF m (lnG m) v) → Sim X (YC ad z0 z1) 3 [(0, .ref (ad 6)), (1, .ref (ad 100)), (2, .ref (ad 2)), (3, .int (nI k)), (4, .int (nI u))] [] I2 J2 A B2 0 0 := by
    intro nn
    induction nn using Nat.strongRecOn with
    | ind nn ih =>
      intro u I2 J2 B2 hmz hu0 hR2 hk2 hb7
      have lp := ih
      have hU2 : I2 100 6 = nI nu := by rw [hR2.1.2.1, hmU, lN_i]
      refine S_n g 2 (pc' := 6) (lv' := [(0, .ref (ad 6)), (1, .ref (ad 100)), (2, .ref (ad 2)), (3, .int (nI k)), (4, .int (nI u))]) (st' := [.ref (ad 100), .int (nI u)]) rfl ?_
      refine S_getI g (i := 100) (c := 7) (k := 6) (by decide) (by decide) rfl rfl fl_X5_22 rfl ?_
      rw [hU2]
      refine S_icN_ge g (tgt := 46) (by omega) (by omega) rfl (by decide) (fun qz9 => ?_) (fun qz9 => ?_)
      · skip
        have hu9 : u = nu := by omega
        have hB7 : ∀ v, v < nu → B2 7 v = lkF m (lnG m) v := fun v hv => hb7 v (by omega)
        refine S_n g 1 (pc' := 47) (lv' := [(0, .ref (ad 6)), (1, .ref (ad 100)), (2, .ref (ad 2)), (3, .int (nI k)), (4, .int (nI u))]) (st' := [.ref (ad 100)]) rfl ?_
        refine S_getR g (i := 100) (c := 7) (k := 2) (j := 103) (by decide) (by decide) rfl rfl rfl fl_X5_42 rfl ?_
        refine S_n g 1 (pc' := 51) (lv' := [(0, .ref (ad 6)), (1, .ref (ad 100)), (2, .ref (ad 2)), (3, .int (nI k)), (4, .int (nI u))]) (st' := [.int (nI 0), .ref (ad 103)]) rfl ?_
        refine S_putI g (i := 103) (c := 6) (k := 3) (kd := 0) (by decide) (by decide) rfl rfl (by decide) fw_X5_46 rfl rfl rfl ?_
        have hR0 := RepW_clear hG hR2
        have hk0 : kpC I J A B (up2 I2 103 3 (nI 0)) J2 A B2 := kpC_tr hk2 ⟨fun i hi => ⟨u2r (by omega), rfl, rfl, rfl⟩, u2r (by decide), rfl, u2j (Or.inl (by decide)), rfl, rfl⟩
        obtain ⟨I5, hI5⟩ : ∃ I5 : FI, I5 = up2 I2 103 3 (nI 0) := ⟨_, rfl⟩
        rw [← hI5] at hR0 hk0 ⊢
        show Sim X (YC ad z0 z1) 54 [(0, .ref (ad 6)), (1, .ref (ad 100)), (2, .ref (ad 2)), (3, .int (nI k)), (4, .int (nI u))] [] I5 J2 A B2 0 0
        refine S_keep (lv' := [(0, .ref (ad 6)), (1, .ref (ad 100)), (2, .ref (ad 2)), (3, .int (nI k))]) [0, 1, 2, 3] rfl ?_
        have hU5 : I5 100 6 = nI nu := by rw [hR0.1.2.1, qL_lo m (Nat.zero_le _) (by decide), hmU, lN_i]
        have h35 : ∀ v, v < 6 → J2 (120 + 4 * v) 1 = m (63 + v) ∧ I5 (120 + 4 * v) 2 = (m (69 + v)).toInt32 := fun v hv => ⟨by rw [(hR0.2.2.2.1 v hv).1, qL_lo m (Nat.zero_le _) (by omega)], by rw [(hR0.2.2.2.1 v hv).2, qL_lo m (Nat.zero_le _) (by omega)]⟩
        refine S_n g 1 (pc' := 55) (lv' := [(0, .ref (ad 6)), (1, .ref (ad 100)), (2, .ref (ad 2)), (3, .int (nI k))]) (st' := [.int (nI k)]) rfl ?_
        refine S_ifN_ne g (tgt := 66) (by omega) rfl (by decide) (fun qz55 => ?_) (fun qz55 => ?_)
        · skip
          refine S_n g 2 (pc' := 68) (lv' := [(0, .ref (ad 6)), (1, .ref (ad 100)), (2, .ref (ad 2)), (3, .int (nI k))]) (st' := [.int (nI 3), .int (nI k)]) rfl ?_
          refine S_icN_ne g (tgt := 79) (by omega) (by omega) rfl (by decide) (fun qz68 => ?_) (fun qz68 => ?_)
          · skip
            refine S_n g 2 (pc' := 81) (lv' := [(0, .ref (ad 6)), (1, .ref (ad 100)), (2, .ref (ad 2)), (3, .int (nI k))]) (st' := [.ref (ad 100), .ref (ad 6)]) rfl ?_
            refine S_callV g (i := 6) (As := [.ref (ad 100)]) (st := []) (s_owners ad z0 z1 I5 J2 A B2 m nf nu hU5 h4 h2 hWs h35) mw_X5_findOwners lk_X5_58 ⟨Nat.le_of_ble_eq_true rfl, Nat.le_of_ble_eq_true rfl⟩ (by decide) (by decide) rfl rfl (Nat.le_of_ble_eq_true rfl) ⟨Nat.le_of_ble_eq_true rfl, Nat.le_of_ble_eq_true rfl⟩ rfl (fun v' Y' I6 J6 A6 B6 hpo => ?_)
            obtain ⟨rfl, rfl, e1, e2, e3, r8, e4, hr8⟩ := hpo
            rw [e1, e2, e3, e4]
            show Sim X (YC ad z0 z1) 84 [(0, .ref (ad 6)), (1, .ref (ad 100)), (2, .ref (ad 2)), (3, .int (nI k))] [] (up2 I5 6 3 (nI (dmN m nu))) J2 (va_up A 8 r8) B2 0 0
            refine S_n g 2 (pc' := 86) (lv' := [(0, .ref (ad 6)), (1, .ref (ad 100)), (2, .ref (ad 2)), (3, .int (nI k))]) (st' := [.ref (ad 100), .ref (ad 6)]) rfl ?_
            refine S_callV g (i := 6) (As := [.ref (ad 100)]) (st := []) (s_leaders ad z0 z1 (up2 I5 6 3 (nI (dmN m nu))) J2 (va_up A 8 r8) B2 m nf nu ((u2j (Or.inl (by decide))).trans hU5) h4 h2 hWs (fun v hv => (u2j (Or.inl (by omega))).trans (h35 v hv).2)) mw_X5_findLeaders lk_X5_61 ⟨Nat.le_of_ble_eq_true rfl, Nat.le_of_ble_eq_true rfl⟩ (by decide) (by decide) rfl rfl (Nat.le_of_ble_eq_true rfl) ⟨Nat.le_of_ble_eq_true rfl, Nat.le_of_ble_eq_true rfl⟩ rfl (fun v' Y' I6 J6 A6 B6 hpo => ?_)
            obtain ⟨rfl, rfl, e1, e2, e3, e4⟩ := hpo
            rw [e1, e2, e3, e4]
            show Sim X (YC ad z0 z1) 89 [(0, .ref (ad 6)), (1, .ref (ad 100)), (2, .ref (ad 2)), (3, .int (nI k))] [] (up2 (up2 I5 6 3 (nI (dmN m nu))) 6 4 (nI (ldN m (dmN m nu) nu))) J2 (va_up A 8 r8) B2 0 0
            have hd64 := dmN_lt m nu h4
            have hl64 := ldN_lt m (dmN m nu) nu h4
            have hR8 : RepW 100 (qL m []) (up2 (up2 I5 6 3 (nI (dmN m nu))) 6 4 (nI (ldN m (dmN m nu) nu))) J2 (va_up A 8 r8) B2 := RepW_fr hR0 (fun i a b => ⟨(u2r (by omega)).trans (u2r (by omega)), rfl, va_up_ne _ _ (by omega), rfl⟩)
            refine S_n g 4 (pc' := 93) (lv' := [(0, .ref (ad 6)), (1, .ref (ad 100)), (2, .ref (ad 2)), (3, .int (nI k))]) (st' := [.int (nI 2), .int (nI k), .ref (ad 100), .ref (ad 6)]) rfl ?_
            have h8C : kpC I5 J2 A B2 (up2 (up2 I5 6 3 (nI (dmN m nu))) 6 4 (nI (ldN m (dmN m nu) nu))) J2 (va_up A 8 r8) B2 := ⟨fun i hi => ⟨(u2r (by omega)).trans (u2r (by omega)), rfl, va_up_ne _ _ (by omega), rfl⟩, rfl, rfl, rfl, rfl, rfl⟩
            refine S_icN_ne g (tgt := 100) (by omega) (by omega) rfl (by decide) (fun qz93 => ?_) (fun qz93 => ?_)
            · skip
              have hk9 : k = 1 := by omega
              subst hk9
              refine S_n g 1 (pc' := 101) (lv' := [(0, .ref (ad 6)), (1, .ref (ad 100)), (2, .ref (ad 2)), (3, .int (nI 1))]) (st' := [.int (nI 0), .ref (ad 100), .ref (ad 6)]) rfl ?_
              refine S_steq (st' := [.int (bI false), .ref (ad 100), .ref (ad 6)]) (by rw [(show nI 0 = bI false from rfl).symm]) ?_
              refine S_callV g (i := 6) (As := [.ref (ad 100), .int (bI false)]) (st := []) (s_subsets ad z0 z1 (up2 (up2 I5 6 3 (nI (dmN m nu))) 6 4 (nI (ldN m (dmN m nu) nu))) J2 (va_up A 8 r8) B2 m nf nu hB h1 h2 h4 hmU (lkF m (lnG m)) hlk hB7 hWs (fun p hp => by rw [va_up_self]; exact hr8 p hp) (dmN m nu) hd64 false rfl (fun q => absurd q (by decide)) (fun _ => rfl) (fun k s a b => sch_bd h2 h4 (lnG m) hWs _ k s a b) hR8) mw_X5_addSubsets lk_X5_64 ⟨Nat.le_of_ble_eq_true rfl, Nat.le_of_ble_eq_true rfl⟩ (by decide) (by decide) rfl rfl (Nat.le_of_ble_eq_true rfl) ⟨Nat.le_of_ble_eq_true rfl, Nat.le_of_ble_eq_true rfl⟩ rfl (fun v' Y' I6 J6 A6 B6 hpo => ?_)
              obtain ⟨rfl, rfl, ej, hR6, hq6⟩ := hpo
              rw [ej]
              show Sim X (YC ad z0 z1) 104 [(0, .ref (ad 6)), (1, .ref (ad 100)), (2, .ref (ad 2)), (3, .int (nI 1))] [] I6 J2 A6 B6 0 0
              exact rtV rt rfl rfl (⟨rfl, rfl, hR6, kpC_tr hk0 (kpC_tr h8C (kp_C hq6.1 hq6.2.1 (fun i a b _ => hq6.2.2 i a b)))⟩)
            · skip
              have hk9 : k = 2 := by omega
              subst hk9
              refine S_n g 2 (pc' := 101) (lv' := [(0, .ref (ad 6)), (1, .ref (ad 100)), (2, .ref (ad 2)), (3, .int (nI 2))]) (st' := [.int (nI 1), .ref (ad 100), .ref (ad 6)]) rfl ?_
              refine S_steq (st' := [.int (bI true), .ref (ad 100), .ref (ad 6)]) (by rw [(show nI 1 = bI true from rfl).symm]) ?_
              refine S_callV g (i := 6) (As := [.ref (ad 100), .int (bI true)]) (st := []) (s_subsets ad z0 z1 (up2 (up2 I5 6 3 (nI (dmN m nu))) 6 4 (nI (ldN m (dmN m nu) nu))) J2 (va_up A 8 r8) B2 m nf nu hB h1 h2 h4 hmU (lkF m (lnG m)) hlk hB7 hWs (fun p hp => by rw [va_up_self]; exact hr8 p hp) (ldN m (dmN m nu) nu) hl64 true rfl (fun _ => rfl) (fun q => absurd q (by decide)) (fun k s a b => sch_bd h2 h4 (lnG m) hWs _ k s a b) hR8) mw_X5_addSubsets lk_X5_64 ⟨Nat.le_of_ble_eq_true rfl, Nat.le_of_ble_eq_true rfl⟩ (by decide) (by decide) rfl rfl (Nat.le_of_ble_eq_true rfl) ⟨Nat.le_of_ble_eq_true rfl, Nat.le_of_ble_eq_true rfl⟩ rfl (fun v' Y' I6 J6 A6 B6 hpo => ?_)
              obtain ⟨rfl, rfl, ej, hR6, hq6⟩ := hpo
              rw [ej]
              show Sim X (YC ad z0 z1) 104 [(0, .ref (ad 6)), (1, .ref (ad 100)), (2, .ref (ad 2)), (3, .int (nI 2))] [] I6 J2 A6 B6 0 0
              exact rtV rt rfl rfl (⟨rfl, rfl, hR6, kpC_tr hk0 (kpC_tr h8C (kp_C hq6.1 hq6.2.1 (fun i a b _ => hq6.2.2 i a b)))⟩)
          · skip
            have hk9 : k = 3 := by omega
            subst hk9
            have hlen : (pgU (lkF m (lnG m)) (12 * nf) nu).length ≤ 72 := by have h := pgU_len (lkF m (lnG m)) (12 * nf) nu (fun u hu => sch_hc h2 (lnG m) hWs (by omega)) nu (Nat.le_refl _); omega
            refine S_n g 2 (pc' := 73) (lv' := [(0, .ref (ad 6)), (1, .ref (ad 100)), (2, .ref (ad 2)), (3, .int (nI 3))]) (st' := [.ref (ad 100), .ref (ad 6)]) rfl ?_
            refine S_callV g (i := 6) (As := [.ref (ad 100)]) (st := []) (s_greedy ad z0 z1 I5 J2 A B2 m nf nu hB h1 h2 h4 hmU (lkF m (lnG m)) hlk hB7 hcl hlen hR0) mw_X5_addGreedy lk_X5_55 ⟨Nat.le_of_ble_eq_true rfl, Nat.le_of_ble_eq_true rfl⟩ (by decide) (by decide) rfl rfl (Nat.le_of_ble_eq_true rfl) ⟨Nat.le_of_ble_eq_true rfl, Nat.le_of_ble_eq_true rfl⟩ rfl (fun v' Y' I6 J6 A6 B6 hpo => ?_)
            obtain ⟨rfl, rfl, ej, hR6, hq6⟩ := hpo
            rw [ej]
            show Sim X (YC ad z0 z1) 76 [(0, .ref (ad 6)), (1, .ref (ad 100)), (2, .ref (ad 2)), (3, .int (nI 3))] [] I6 J2 A6 B6 0 0
            refine S_n g 1 (pc' := 104) (lv' := [(0, .ref (ad 6)), (1, .ref (ad 100)), (2, .ref (ad 2)), (3, .int (nI 3))]) (st' := []) rfl ?_
            exact rtV rt rfl rfl (⟨rfl, rfl, hR6, kpC_tr hk0 (kp_C hq6.1 hq6.2.1 (fun i a _ b => hq6.2.2 i a b))⟩)
        · skip
          have hk9 : k = 0 := by omega
          subst hk9
          refine S_n g 2 (pc' := 60) (lv' := [(0, .ref (ad 6)), (1, .ref (ad 100)), (2, .ref (ad 2)), (3, .int (nI 0))]) (st' := [.ref (ad 100), .ref (ad 6)]) rfl ?_
          refine S_callV g (i := 6) (As := [.ref (ad 100)]) (st := []) (s_plain ad z0 z1 I5 J2 A B2 m nf nu hB h1 h2 h4 hmU (lkF m (lnG m)) hlk hB7 hR0) mw_X5_addPlain lk_X5_51 ⟨Nat.le_of_ble_eq_true rfl, Nat.le_of_ble_eq_true rfl⟩ (by decide) (by decide) rfl rfl (Nat.le_of_ble_eq_true rfl) ⟨Nat.le_of_ble_eq_true rfl, Nat.le_of_ble_eq_true rfl⟩ rfl (fun v' Y' I6 J6 A6 B6 hpo => ?_)
          obtain ⟨rfl, rfl, ej, hR6, hq6⟩ := hpo
          rw [ej]
          show Sim X (YC ad z0 z1) 63 [(0, .ref (ad 6)), (1, .ref (ad 100)), (2, .ref (ad 2)), (3, .int (nI 0))] [] I6 J2 A6 B6 0 0
          refine S_n g 1 (pc' := 104) (lv' := [(0, .ref (ad 6)), (1, .ref (ad 100)), (2, .ref (ad 2)), (3, .int (nI 0))]) (st' := []) rfl ?_
          exact rtV rt rfl rfl (⟨rfl, rfl, hR6, kpC_tr hk0 (kp_C hq6.1 hq6.2.1 (fun i a _ _ => hq6.2.2 i a))⟩)
      · skip
        have hu : u < 6 := by omega
        obtain ⟨a1, a2, a3, a4, a5, a6, a7, a8⟩ := usr hG hR2 hu
        rw [← hnf] at a8
        refine S_n g 1 (pc' := 13) (lv' := [(0, .ref (ad 6)), (1, .ref (ad 100)), (2, .ref (ad 2)), (3, .int (nI k)), (4, .int (nI u))]) (st' := [.ref (ad 100)]) rfl ?_
        refine S_getR g (i := 100) (c := 7) (k := 1) (j := 102) (by decide) (by decide) rfl rfl rfl fl_X5_28 rfl ?_
        refine S_n g 1 (pc' := 18) (lv' := [(0, .ref (ad 6)), (1, .ref (ad 100)), (2, .ref (ad 2)), (3, .int (nI k)), (4, .int (nI u))]) (st' := [.int (nI u), .ref (ad 102)]) rfl ?_
        refine S_aaldN g (i := 102) (e := u) (j := 120 + 4 * u) (by decide) rfl (show u < 6 from by omega) (show (6 : Nat) < 2 ^ 31 from by decide) rfl rfl ?_
        refine S_n g 3 (pc' := 24) (lv' := [(0, .ref (ad 6)), (1, .ref (ad 100)), (2, .ref (ad 2)), (3, .int (nI k)), (4, .int (nI u)), (5, .ref (ad (120 + 4 * u)))]) (st' := [.ref (ad (120 + 4 * u)), .ref (ad 2)]) rfl ?_
        refine S_callV g (i := 2) (As := [.ref (ad (120 + 4 * u))]) (st := []) (kn_learn ad z0 z1 I2 J2 A B2 u (lnG m u) (m (63 + u)) (fun k => m (87 + 40 * u + k)) hu a1 a2 a3 a4 a5 a6) mw_X1_learn lk_X5_32 ⟨Nat.le_of_ble_eq_true rfl, Nat.le_of_ble_eq_true rfl⟩ (by decide) (by decide) rfl rfl (Nat.le_of_ble_eq_true rfl) ⟨Nat.le_of_ble_eq_true rfl, Nat.le_of_ble_eq_true rfl⟩ rfl (fun v' Y' I3 J3 A3 B3 hpo => ?_)
        obtain ⟨rfl, rfl, hqa3, hK3, hkp3⟩ := hpo
        rw [hqa3]
        show Sim X (YC ad z0 z1) 27 [(0, .ref (ad 6)), (1, .ref (ad 100)), (2, .ref (ad 2)), (3, .int (nI k)), (4, .int (nI u)), (5, .ref (ad (120 + 4 * u)))] [] I3 J3 A B3 0 0
        have hR3 : RepW 100 m I3 J3 A B3 := kpK_R hR2 hkp3
        refine S_n g 1 (pc' := 28) (lv' := [(0, .ref (ad 6)), (1, .ref (ad 100)), (2, .ref (ad 2)), (3, .int (nI k)), (4, .int (nI u)), (5, .ref (ad (120 + 4 * u)))]) (st' := [.ref (ad 6)]) rfl ?_
        refine S_getR g (i := 6) (c := 5) (k := 0) (j := 7) (by decide) (by decide) rfl rfl rfl fl_X5_9 rfl ?_
        refine S_n g 3 (pc' := 36) (lv' := [(0, .ref (ad 6)), (1, .ref (ad 100)), (2, .ref (ad 2)), (3, .int (nI k)), (4, .int (nI u)), (5, .ref (ad (120 + 4 * u)))]) (st' := [.ref (ad (120 + 4 * u)), .ref (ad 2), .int (nI u), .ref (ad 7)]) rfl ?_
        refine S_cV g (i := 2) (As := [.ref (ad (120 + 4 * u))]) (st := [.int (nI u), .ref (ad 7)]) (kn_missing ad z0 z1 I3 J3 A B3 m u nf (lnG m u) hu h2 a8 (usr hG hR3 hu).2.2.2.2.2.2.1 a4 a5 hK3) mw_X1_missingFor lk_X5_38 ⟨Nat.le_of_ble_eq_true rfl, Nat.le_of_ble_eq_true rfl⟩ (by decide) (by decide) rfl rfl (Nat.le_of_ble_eq_true rfl) ⟨Nat.le_of_ble_eq_true rfl, Nat.le_of_ble_eq_true rfl⟩ rfl ?_
        show Sim X (YC ad z0 z1) 39 [(0, .ref (ad 6)), (1, .ref (ad 100)), (2, .ref (ad 2)), (3, .int (nI k)), (4, .int (nI u)), (5, .ref (ad (120 + 4 * u)))] [.long (msF m u (lnG m u)), .int (nI u), .ref (ad 7)] I3 J3 A B3 0 0
        refine S_lastN g (i := 7) (e := u) (by decide) rfl (show u < 6 from by omega) (show (6 : Nat) < 2 ^ 31 from by decide) rfl ?_
        show Sim X (YC ad z0 z1) 40 [(0, .ref (ad 6)), (1, .ref (ad 100)), (2, .ref (ad 2)), (3, .int (nI k)), (4, .int (nI u)), (5, .ref (ad (120 + 4 * u)))] [] I3 J3 A (va_up B3 7 (va_up (B3 7) u (msF m u (lnG m u)))) 0 0
        refine S_n g 1 (pc' := 43) (lv' := [(0, .ref (ad 6)), (1, .ref (ad 100)), (2, .ref (ad 2)), (3, .int (nI k)), (4, .int ((nI u) + nI 1)), (5, .ref (ad (120 + 4 * u)))]) (st' := []) rfl ?_
        rw [nI_add u 1]
        refine S_n g 1 (pc' := 3) (lv' := [(0, .ref (ad 6)), (1, .ref (ad 100)), (2, .ref (ad 2)), (3, .int (nI k)), (4, .int (nI (u + 1))), (5, .ref (ad (120 + 4 * u)))]) (st' := []) rfl ?_
        refine S_keep (lv' := [(0, .ref (ad 6)), (1, .ref (ad 100)), (2, .ref (ad 2)), (3, .int (nI k)), (4, .int (nI (u + 1)))]) [0, 1, 2, 3, 4] rfl ?_
        exact lp (nu - (u + 1)) (by omega) (u + 1) I3 J3 (va_up B3 7 (va_up (B3 7) u (msF m u (lnG m u)))) rfl (by omega) (RepW_fr hR3 (fun i a b => ⟨rfl, rfl, rfl, va_up_ne _ _ (by omega)⟩)) (kpC_tr hk2 (kpC_tr (kpK_C hkp3) ⟨fun i hi => ⟨rfl, rfl, rfl, va_up_ne _ _ (by omega)⟩, rfl, rfl, rfl, rfl, rfl⟩)) (fun v hv => by rw [va_up_self]; by_cases e : v = u; (· subst e; rw [va_up_self]; rfl); (· rw [va_up_ne _ _ e, hkp3.2 7 (by decide) (by decide) (by decide)]; exact hb7 v (by omega)))
  exact lp _ 0 I J B rfl (Nat.zero_le _) hR (kpC_rf I J A B) (fun v hv => absurd hv (Nat.not_lt_zero v))

set_option maxRecDepth 100000 in
set_option maxHeartbeats 4000000 in
theorem c_sched (ad : Nat → Nat) (z0 z1 : Bool) (I : FI) (J : FJ) (A : FI) (B : FJ) (x : Int32) (m : Nat → Int64) (hG : WG m) (hR : RepW 100 m I J A B) : Spec M_X8_schedule [.ref (ad 0), .int x] (YC ad z0 z1) I J A B (cP ad z0 z1 I J A B (.int (k_sched m x).1) (k_sched m x).2) := by
  unfold k_sched
  refine Spec_of (by decide) tk_X8_schedule (Nat.le_of_ble_eq_true rfl) (fun X g rt => ?_)
  show Sim X (YC ad z0 z1) 0 [(0, .ref (ad 0)), (1, .int x)] [] I J A B 0 0
  refine S_n g 1 (pc' := 1) (lv' := [(0, .ref (ad 0)), (1, .int x)]) (st' := [.int x]) rfl ?_
  refine S_if_lt g (tgt := 9) rfl (by decide) (fun qz1 => ?_) (fun qz1 => ?_)
  · skip
    refine S_n g 1 (pc' := 11) (lv' := [(0, .ref (ad 0)), (1, .int x)]) (st' := [.int (-nI 101)]) rfl ?_
    exact rtI rt rfl rfl (⟨by rw [o_schedule, ix_lo qz1, if_neg (by decide)], rfl, by rw [o_schedule, ix_lo qz1, if_neg (by decide)]; exact hR, kpC_rf I J A B⟩)
  · skip
    refine S_n g 2 (pc' := 6) (lv' := [(0, .ref (ad 0)), (1, .int x)]) (st' := [.int (nI 3), .int x]) rfl ?_
    refine S_ic_le g (tgt := 12) rfl (by decide) (fun qz6 => ?_) (fun qz6 => ?_)
    · skip
      have hx : isIx x 4 = true := ix_le qz1 qz6 (by decide)
      obtain ⟨k, hk, hxk⟩ := isIx_t hx
      subst hxk
      have hck : (nI k).toNatClampNeg = k := nI_clamp (by omega)
      have hsok := (sch_ok (show Wf m (gN (m 0)) (gN (m 1)) (gN (m 2)) (gN (m 327)) (gN (m 428)) (gN (m 529)) (lnG m) from hG) k).1
      have ho : o_schedule (gN (m 0)) (gN (m 1)) (lnG m) m (nI k) = (nI (schL (gN (m 0)) (gN (m 1)) (lnG m) m k).length, qL m (schL (gN (m 0)) (gN (m 1)) (lnG m) m k)) := by rw [o_schedule, if_pos hx, show ix (nI k) = k from hck]
      refine S_n g 1 (pc' := 13) (lv' := [(0, .ref (ad 0)), (1, .int (nI k))]) (st' := [.ref (ad 0)]) rfl ?_
      refine S_getR g (i := 0) (c := 8) (k := 3) (j := 6) (by decide) (by decide) rfl rfl rfl fl_X8_30 rfl ?_
      refine S_n g 1 (pc' := 17) (lv' := [(0, .ref (ad 0)), (1, .int (nI k))]) (st' := [.ref (ad 0), .ref (ad 6)]) rfl ?_
      refine S_getR g (i := 0) (c := 8) (k := 0) (j := 100) (by decide) (by decide) rfl rfl rfl fl_X8_10 rfl ?_
      refine S_n g 1 (pc' := 21) (lv' := [(0, .ref (ad 0)), (1, .int (nI k))]) (st' := [.ref (ad 0), .ref (ad 100), .ref (ad 6)]) rfl ?_
      refine S_getR g (i := 0) (c := 8) (k := 2) (j := 2) (by decide) (by decide) rfl rfl rfl fl_X8_23 rfl ?_
      refine S_n g 1 (pc' := 25) (lv' := [(0, .ref (ad 0)), (1, .int (nI k))]) (st' := [.int (nI k), .ref (ad 2), .ref (ad 100), .ref (ad 6)]) rfl ?_
      refine S_callV g (i := 6) (As := [.ref (ad 100), .ref (ad 2), .int (nI k)]) (st := []) (s_replace ad z0 z1 I J A B k m hG hR hk) mw_X5_replacePending lk_X8_177 ⟨Nat.le_of_ble_eq_true rfl, Nat.le_of_ble_eq_true rfl⟩ (by decide) (by decide) rfl rfl (Nat.le_of_ble_eq_true rfl) ⟨Nat.le_of_ble_eq_true rfl, Nat.le_of_ble_eq_true rfl⟩ rfl (fun v' Y' I2 J2 A2 B2 hpo => ?_)
      obtain ⟨rfl, rfl, hR2, hk2⟩ := hpo
      show Sim X (YC ad z0 z1) 28 [(0, .ref (ad 0)), (1, .int (nI k))] [] I2 J2 A2 B2 0 0
      refine S_n g 1 (pc' := 29) (lv' := [(0, .ref (ad 0)), (1, .int (nI k))]) (st' := [.ref (ad 0)]) rfl ?_
      refine S_getR g (i := 0) (c := 8) (k := 0) (j := 100) (by decide) (by decide) rfl rfl rfl fl_X8_10 rfl ?_
      refine S_getR g (i := 100) (c := 7) (k := 2) (j := 103) (by decide) (by decide) rfl rfl rfl fl_X8_151 rfl ?_
      refine S_getI g (i := 103) (c := 6) (k := 3) (by decide) (by decide) rfl rfl fl_X8_72 rfl ?_
      rw [show I2 103 3 = nI (schL (gN (m 0)) (gN (m 1)) (lnG m) m k).length from by have h := hR2.2.2.2.2.2.2.1.2.1; rw [qL_327, gN_lN (by omega)] at h; exact h]
      exact rtI rt rfl rfl (by rw [ho]; exact ⟨rfl, rfl, hR2, hk2⟩)
    · skip
      refine S_n g 1 (pc' := 11) (lv' := [(0, .ref (ad 0)), (1, .int x)]) (st' := [.int (-nI 101)]) rfl ?_
      exact rtI rt rfl rfl (⟨by rw [o_schedule, ix_gt qz6 (by decide), if_neg (by decide)], rfl, by rw [o_schedule, ix_gt qz6 (by decide), if_neg (by decide)]; exact hR, kpC_rf I J A B⟩)
