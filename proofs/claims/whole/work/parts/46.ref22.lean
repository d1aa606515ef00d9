/-! the reference, part 22: digest -/
def mixN (f : Nat → Int64) (h0 : Int64) : Nat → Int64
  | 0 => h0
  | k + 1 => lN 31 * mixN f h0 k + f k
def dg1 (m : Nat → Int64) (n : Nat) (k : Nat) : Int64 := mixN (fun w => (o_count m n (nI w)).toInt64) (lN 19) k
def dg2 (m : Nat → Int64) (n : Nat) (k : Nat) : Int64 := mixN (fun p => m (3 + p)) (dg1 m n 10) k
def dgA (m : Nat → Int64) (u : Nat) (h : Int64) (k : Nat) : Int64 := mixN (fun w => (o_user (gN (m 0)) (gN (m 1)) (lnG m) m (nI u) (nI w)).toInt64) h k
def dgB (m : Nat → Int64) (u : Nat) (h : Int64) (k : Nat) : Int64 := mixN (fun i => m (87 + 40 * u + i)) (lN 31 * dgA m u h 8 + m (63 + u)) k
def dg3 (m : Nat → Int64) (n : Nat) : Nat → Int64
  | 0 => dg2 m n (12 * gN (m 0))
  | u + 1 => dgB m u (dg3 m n u) (lnG m u)
def dg4 (m : Nat → Int64) (n : Nat) (k : Nat) : Int64 := mixN (fun i => m (328 + i)) (dg3 m n (gN (m 1))) k
def dg5 (m : Nat → Int64) (n : Nat) (k : Nat) : Int64 := mixN (fun i => m (429 + i)) (dg4 m n (gN (m 327))) k
def dg6 (m : Nat → Int64) (n : Nat) (k : Nat) : Int64 := mixN (fun u => (o_need (gN (m 1)) (lnG m) m (nI u)).toInt64) (dg5 m n (gN (m 428))) k
def o_digest (m : Nat → Int64) (n : Nat) : Int64 := lN 31 * dg6 m n (gN (m 1)) + (nI (o_bound m (gN (m 1)))).toInt64

set_option maxRecDepth 100000 in
set_option maxHeartbeats 4000000 in
theorem sp_digest (ad : Nat → Nat) (I : FI) (J : FJ) (A : FI) (B : FJ) (n : Nat) (hI4 : I 500 4 = nI n) (m0 : Nat → Int64) (hm0 : B 501 = m0) (hG : WG m0) : Spec M_X9_digest [.ref (ad 500)] (YR ad) I J A B (fun v' Y' I' J' A' B' => v' = some (.long (o_digest m0 n)) ∧ Y' = YR ad ∧ B' 501 = m0 ∧ I' 500 5 = I 500 5 ∧ kpV I A B I' A' B') := by
  obtain ⟨hF, hU, hC, h1, h2, h3, h4, h5⟩ := hG.1
  have hLs : ∀ u, u < 6 → m0 (81 + u) = lN (lnG m0 u) := fun u hu => (hG.2.2.2.2.1 u hu).1
  have hls : ∀ u, u < 6 → lnG m0 u ≤ 40 := fun u hu => (hG.2.2.2.2.1 u hu).2
  have hWs : ∀ u, u < 6 → okW m0 u (gN (m0 0)) := fun u hu => (hG.2.2.2.2.2.1 u hu).1
  obtain ⟨nu, hnu⟩ : ∃ nu, nu = gN (m0 1) := ⟨_, rfl⟩
  rw [← hnu] at hU h3 h4
  obtain ⟨nf, hnf⟩ : ∃ nf, nf = gN (m0 0) := ⟨_, rfl⟩
  rw [← hnf] at hF h1 h2 hWs
  have hQ := hG.2.1
  have hH := hG.2.2.1
  obtain ⟨qn, hqn⟩ : ∃ qn, qn = gN (m0 327) := ⟨_, rfl⟩
  obtain ⟨hn, hhn⟩ : ∃ hn, hn = gN (m0 428) := ⟨_, rfl⟩
  unfold wc1 at hQ
  unfold wc2 at hH
  rw [← hqn] at hQ
  rw [← hhn] at hH
  obtain ⟨hQ1, hQ2⟩ := hQ
  obtain ⟨hH1, hH2⟩ := hH
  refine Spec_of (by decide) tk_X9_digest (Nat.le_of_ble_eq_true rfl) (fun X g rt => ?_)
  show Sim X (YR ad) 0 [(0, .ref (ad 500))] [] I J A B 0 0
  refine S_n g 1 (pc' := 1) (lv' := [(0, .ref (ad 500))]) (st' := [.ref (ad 500)]) rfl ?_
  refine S_ldc2 g kc_X9_299 rfl ?_
  refine S_putJ g (i := 500) (c := 9) (k := 21) (by decide) (by decide) rfl rfl fw_X9_296 rfl ?_
  refine S_n g 2 (pc' := 9) (lv' := [(0, .ref (ad 500)), (1, .int (nI 0))]) (st' := []) rfl ?_
  have lp1 : ∀ (nn : Nat) (k : Nat) (I2 : FI) (J2 : FJ) (A2 : FI) (B2 : FJ), 10 - k = nn → (k ≤ 10) → (B2 501 = m0) → (J2 500 21 = dg1 m0 n k) → (I2 500 5 = I 500 5) → (kpV I A B I2 A2 B2) → Sim X (YR ad) 9 [(0, .ref (ad 500)), (1, .int (nI k))] [] I2 J2 A2 B2 0 0 := by
    intro nn
    induction nn using Nat.strongRecOn with
    | ind nn ih =>
      intro k I2 J2 A2 B2 hmz hk hb1 hJ h5v hkp
      have lp1 := ih
      refine S_n g 2 (pc' := 12) (lv' := [(0, .ref (ad 500)), (1, .int (nI k))]) (st' := [.int (nI 10), .int (nI k)]) rfl ?_
      refine S_icN_ge g (tgt := 31) (by omega) (by omega) rfl (by decide) (fun qz12 => ?_) (fun qz12 => ?_)
      · skip
        have hk9 : k = 10 := by omega
        rw [hk9] at hJ
        refine S_n g 2 (pc' := 33) (lv' := [(0, .ref (ad 500)), (1, .int (nI 0))]) (st' := []) rfl ?_
        have lp2 : ∀ (nn : Nat) (p : Nat) (I2 : FI) (J2 : FJ) (A2 : FI) (B2 : FJ), 12 * nf - p = nn → (p ≤ 12 * nf) → (B2 501 = m0) → (J2 500 21 = dg2 m0 n p) → (I2 500 5 = I 500 5) → (kpV I A B I2 A2 B2) → Sim X (YR ad) 33 [(0, .ref (ad 500)), (1, .int (nI p))] [] I2 J2 A2 B2 0 0 := by
          intro nn
          induction nn using Nat.strongRecOn with
          | ind nn ih =>
            intro p I2 J2 A2 B2 hmz hp hb1 hJ h5v hkp
            have lp2 := ih
            refine S_n g 2 (pc' := 35) (lv' := [(0, .ref (ad 500)), (1, .int (nI p))]) (st' := [.ref (ad 500), .int (nI p)]) rfl ?_
            refine S_cV g (i := 500) (As := []) (st := [.int (nI p)]) (sp_pieces ad I2 J2 A2 B2 nf (by rw [hb1]; exact hF)) mw_X9_pieces lk_X9_75 ⟨Nat.le_of_ble_eq_true rfl, Nat.le_of_ble_eq_true rfl⟩ (by decide) (by decide) rfl rfl (Nat.le_of_ble_eq_true rfl) ⟨Nat.le_of_ble_eq_true rfl, Nat.le_of_ble_eq_true rfl⟩ rfl ?_
            show Sim X (YR ad) 38 [(0, .ref (ad 500)), (1, .int (nI p))] [.int (nI (12 * nf)), .int (nI p)] I2 J2 A2 B2 0 0
            refine S_icN_ge g (tgt := 59) (by omega) (by omega) rfl (by decide) (fun qz38 => ?_) (fun qz38 => ?_)
            · skip
              have hp9 : p = 12 * nf := by omega
              rw [hp9] at hJ
              refine S_n g 2 (pc' := 61) (lv' := [(0, .ref (ad 500)), (1, .int (nI 0))]) (st' := []) rfl ?_
              rw [show dg2 m0 n (12 * nf) = dg3 m0 n 0 from by rw [dg3, ← hnf]] at hJ
              have lp3 : ∀ (nn : Nat) (u : Nat) (I2 : FI) (J2 : FJ) (A2 : FI) (B2 : FJ), nu - u = nn → (u ≤ nu) → (B2 501 = m0) → (J2 500 21 = dg3 m0 n u) → (I2 500 5 = I 500 5) → (kpV I A B I2 A2 B2) → Sim X (YR ad) 61 [(0, .ref (ad 500)), (1, .int (nI u))] [] I2 J2 A2 B2 0 0 := by
                intro nn
                induction nn using Nat.strongRecOn with
                | ind nn ih =>
                  intro u I2 J2 A2 B2 hmz hu hb1 hJ h5v hkp
                  have lp3 := ih
                  refine S_n g 2 (pc' := 63) (lv' := [(0, .ref (ad 500)), (1, .int (nI u))]) (st' := [.ref (ad 500), .int (nI u)]) rfl ?_
                  refine S_cV g (i := 500) (As := []) (st := [.int (nI u)]) (sp_users ad I2 J2 A2 B2 nu (by rw [hb1]; exact hU)) mw_X9_users lk_X9_71 ⟨Nat.le_of_ble_eq_true rfl, Nat.le_of_ble_eq_true rfl⟩ (by decide) (by decide) rfl rfl (Nat.le_of_ble_eq_true rfl) ⟨Nat.le_of_ble_eq_true rfl, Nat.le_of_ble_eq_true rfl⟩ rfl ?_
                  show Sim X (YR ad) 66 [(0, .ref (ad 500)), (1, .int (nI u))] [.int (nI nu), .int (nI u)] I2 J2 A2 B2 0 0
                  refine S_icN_ge g (tgt := 154) (by omega) (by omega) rfl (by decide) (fun qz66 => ?_) (fun qz66 => ?_)
                  · skip
                    have hu9 : u = nu := by omega
                    rw [hu9] at hJ
                    refine S_n g 2 (pc' := 156) (lv' := [(0, .ref (ad 500)), (1, .int (nI 0))]) (st' := []) rfl ?_
                    rw [show dg3 m0 n nu = dg4 m0 n 0 from by rw [hnu]; rfl] at hJ
                    have lp4 : ∀ (nn : Nat) (k : Nat) (I2 : FI) (J2 : FJ) (A2 : FI) (B2 : FJ), qn - k = nn → (k ≤ qn) → (B2 501 = m0) → (J2 500 21 = dg4 m0 n k) → (I2 500 5 = I 500 5) → (kpV I A B I2 A2 B2) → Sim X (YR ad) 156 [(0, .ref (ad 500)), (1, .int (nI k))] [] I2 J2 A2 B2 0 0 := by
                      intro nn
                      induction nn using Nat.strongRecOn with
                      | ind nn ih =>
                        intro k I2 J2 A2 B2 hmz hk hb1 hJ h5v hkp
                        have lp4 := ih
                        refine S_n g 2 (pc' := 158) (lv' := [(0, .ref (ad 500)), (1, .int (nI k))]) (st' := [.long (nI k).toInt64]) rfl ?_
                        rw [nI_l (n := k) (by omega)]
                        refine S_n g 1 (pc' := 159) (lv' := [(0, .ref (ad 500)), (1, .int (nI k))]) (st' := [.ref (ad 500), .long (lN k)]) rfl ?_
                        refine S_getR g (i := 500) (c := 9) (k := 0) (j := 501) (by decide) (by decide) rfl rfl rfl fl_X9_7 rfl ?_
                        refine S_n g 1 (pc' := 165) (lv' := [(0, .ref (ad 500)), (1, .int (nI k))]) (st' := [.int (nI 327), .ref (ad 501), .long (lN k)]) rfl ?_
                        refine S_laldN g (i := 501) (e := 327) (by decide) rfl (show 327 < 621 from by omega) (show (621 : Nat) < 2 ^ 31 from by decide) rfl ?_
                        rw [hb1, hQ1]
                        refine S_lcN_ge g (tgt := 190) (by omega) (by omega) rfl rfl (by decide) (fun qz166 => ?_) (fun qz166 => ?_)
                        · skip
                          have hk9 : k = qn := by omega
                          rw [hk9] at hJ
                          refine S_n g 2 (pc' := 192) (lv' := [(0, .ref (ad 500)), (1, .int (nI 0))]) (st' := []) rfl ?_
                          rw [show dg4 m0 n qn = dg5 m0 n 0 from by rw [hqn]; rfl] at hJ
                          have lp5 : ∀ (nn : Nat) (k : Nat) (I2 : FI) (J2 : FJ) (A2 : FI) (B2 : FJ), hn - k = nn → (k ≤ hn) → (B2 501 = m0) → (J2 500 21 = dg5 m0 n k) → (I2 500 5 = I 500 5) → (kpV I A B I2 A2 B2) → Sim X (YR ad) 192 [(0, .ref (ad 500)), (1, .int (nI k))] [] I2 J2 A2 B2 0 0 := by
                            intro nn
                            induction nn using Nat.strongRecOn with
                            | ind nn ih =>
                              intro k I2 J2 A2 B2 hmz hk hb1 hJ h5v hkp
                              have lp5 := ih
                              refine S_n g 2 (pc' := 194) (lv' := [(0, .ref (ad 500)), (1, .int (nI k))]) (st' := [.long (nI k).toInt64]) rfl ?_
                              rw [nI_l (n := k) (by omega)]
                              refine S_n g 1 (pc' := 195) (lv' := [(0, .ref (ad 500)), (1, .int (nI k))]) (st' := [.ref (ad 500), .long (lN k)]) rfl ?_
                              refine S_getR g (i := 500) (c := 9) (k := 0) (j := 501) (by decide) (by decide) rfl rfl rfl fl_X9_7 rfl ?_
                              refine S_n g 1 (pc' := 201) (lv' := [(0, .ref (ad 500)), (1, .int (nI k))]) (st' := [.int (nI 428), .ref (ad 501), .long (lN k)]) rfl ?_
                              refine S_laldN g (i := 501) (e := 428) (by decide) rfl (show 428 < 621 from by omega) (show (621 : Nat) < 2 ^ 31 from by decide) rfl ?_
                              rw [hb1, hH1]
                              refine S_lcN_ge g (tgt := 226) (by omega) (by omega) rfl rfl (by decide) (fun qz202 => ?_) (fun qz202 => ?_)
                              · skip
                                have hk9 : k = hn := by omega
                                rw [hk9] at hJ
                                refine S_n g 2 (pc' := 228) (lv' := [(0, .ref (ad 500)), (1, .int (nI 0))]) (st' := []) rfl ?_
                                rw [show dg5 m0 n hn = dg6 m0 n 0 from by rw [hhn]; rfl] at hJ
                                have lp6 : ∀ (nn : Nat) (u : Nat) (I2 : FI) (J2 : FJ) (A2 : FI) (B2 : FJ), nu - u = nn → (u ≤ nu) → (B2 501 = m0) → (J2 500 21 = dg6 m0 n u) → (I2 500 5 = I 500 5) → (kpV I A B I2 A2 B2) → Sim X (YR ad) 228 [(0, .ref (ad 500)), (1, .int (nI u))] [] I2 J2 A2 B2 0 0 := by
                                  intro nn
                                  induction nn using Nat.strongRecOn with
                                  | ind nn ih =>
                                    intro u I2 J2 A2 B2 hmz hu hb1 hJ h5v hkp
                                    have lp6 := ih
                                    refine S_n g 2 (pc' := 230) (lv' := [(0, .ref (ad 500)), (1, .int (nI u))]) (st' := [.ref (ad 500), .int (nI u)]) rfl ?_
                                    refine S_cV g (i := 500) (As := []) (st := [.int (nI u)]) (sp_users ad I2 J2 A2 B2 nu (by rw [hb1]; exact hU)) mw_X9_users lk_X9_71 ⟨Nat.le_of_ble_eq_true rfl, Nat.le_of_ble_eq_true rfl⟩ (by decide) (by decide) rfl rfl (Nat.le_of_ble_eq_true rfl) ⟨Nat.le_of_ble_eq_true rfl, Nat.le_of_ble_eq_true rfl⟩ rfl ?_
                                    show Sim X (YR ad) 233 [(0, .ref (ad 500)), (1, .int (nI u))] [.int (nI nu), .int (nI u)] I2 J2 A2 B2 0 0
                                    refine S_icN_ge g (tgt := 252) (by omega) (by omega) rfl (by decide) (fun qz233 => ?_) (fun qz233 => ?_)
                                    · skip
                                      have hu9 : u = nu := by omega
                                      rw [hu9] at hJ
                                      refine S_n g 2 (pc' := 254) (lv' := [(0, .ref (ad 500)), (1, .int (nI u))]) (st' := [.ref (ad 500), .ref (ad 500)]) rfl ?_
                                      refine S_callV g (i := 500) (As := []) (st := [.ref (ad 500)]) (sp_bound ad I2 J2 A2 B2 nf nu (by rw [hb1]; exact hU) h4 h2 (fun v hv => by rw [hb1]; exact hWs v hv)) mw_X9_bound lk_X9_314 ⟨Nat.le_of_ble_eq_true rfl, Nat.le_of_ble_eq_true rfl⟩ (by decide) (by decide) rfl rfl (Nat.le_of_ble_eq_true rfl) ⟨Nat.le_of_ble_eq_true rfl, Nat.le_of_ble_eq_true rfl⟩ rfl (fun v' Y' I3 J3 A3 B3 hpo => ?_)
                                      rw [hb1] at hpo
                                      obtain ⟨rfl, rfl, rfl, rfl, rfl, az, hA3⟩ := hpo
                                      show Sim X (YR ad) 257 [(0, .ref (ad 500)), (1, .int (nI u))] [.int (nI (o_bound m0 nu)), .ref (ad 500)] I3 J3 A3 B3 0 0
                                      refine S_n g 1 (pc' := 258) (lv' := [(0, .ref (ad 500)), (1, .int (nI u))]) (st' := [.long (nI (o_bound m0 nu)).toInt64, .ref (ad 500)]) rfl ?_
                                      refine S_cV g (i := 500) (As := [.long (nI (o_bound m0 nu)).toInt64]) (st := []) (sp_mixes ad I3 J3 A3 B3 ((nI (o_bound m0 nu)).toInt64)) mw_X9_mixes lk_X9_304 ⟨Nat.le_of_ble_eq_true rfl, Nat.le_of_ble_eq_true rfl⟩ (by decide) (by decide) rfl rfl (Nat.le_of_ble_eq_true rfl) ⟨Nat.le_of_ble_eq_true rfl, Nat.le_of_ble_eq_true rfl⟩ rfl ?_
                                      show Sim X (YR ad) 261 [(0, .ref (ad 500)), (1, .int (nI u))] [] I3 (up2 J3 500 21 (lN 31 * J3 500 21 + ((nI (o_bound m0 nu)).toInt64))) A3 B3 0 0
                                      refine S_n g 1 (pc' := 262) (lv' := [(0, .ref (ad 500)), (1, .int (nI u))]) (st' := [.ref (ad 500)]) rfl ?_
                                      refine S_getJ g (i := 500) (c := 9) (k := 21) (by decide) (by decide) rfl rfl fl_X9_296 rfl ?_
                                      exact rtL rt rfl rfl (⟨by rw [o_digest, ← hnu]; show some (Value.long (lN 31 * J3 500 21 + _)) = _; rw [hJ], rfl, hb1, h5v, kpV_tr hkp (by rw [hA3]; exact ⟨rfl, rfl, rfl, rfl⟩)⟩)
                                    · skip
                                      refine S_n g 3 (pc' := 239) (lv' := [(0, .ref (ad 500)), (1, .int (nI u))]) (st' := [.int (nI u), .ref (ad 500), .ref (ad 500)]) rfl ?_
                                      refine S_callV g (i := 500) (As := [.int (nI u)]) (st := [.ref (ad 500)]) (sp_need ad I2 J2 A2 B2 (nI u) (gN (m0 0)) (gN (m0 1)) (gN (m0 2)) (by rw [hb1]; exact hG.1) (lnG m0) (fun v hv => by rw [hb1]; exact hLs v hv) hls (fun v hv => by rw [hb1, ← hnf]; exact hWs v hv)) mw_X9_need lk_X9_311 ⟨Nat.le_of_ble_eq_true rfl, Nat.le_of_ble_eq_true rfl⟩ (by decide) (by decide) rfl rfl (Nat.le_of_ble_eq_true rfl) ⟨Nat.le_of_ble_eq_true rfl, Nat.le_of_ble_eq_true rfl⟩ rfl (fun v' Y' I3 J3 A3 B3 hpo => ?_)
                                      have hpo := se_sc hpo
                                      rw [hb1] at hpo
                                      obtain ⟨rfl, rfl, hq5, hqk⟩ := hpo
                                      show Sim X (YR ad) 242 [(0, .ref (ad 500)), (1, .int (nI u))] [.int (o_need (gN (m0 1)) (lnG m0) m0 (nI u)), .ref (ad 500)] I3 J3 A3 B3 0 0
                                      refine S_n g 1 (pc' := 243) (lv' := [(0, .ref (ad 500)), (1, .int (nI u))]) (st' := [.long (o_need (gN (m0 1)) (lnG m0) m0 (nI u)).toInt64, .ref (ad 500)]) rfl ?_
                                      refine S_cV g (i := 500) (As := [.long (o_need (gN (m0 1)) (lnG m0) m0 (nI u)).toInt64]) (st := []) (sp_mixes ad I3 J3 A3 B3 ((o_need (gN (m0 1)) (lnG m0) m0 (nI u)).toInt64)) mw_X9_mixes lk_X9_304 ⟨Nat.le_of_ble_eq_true rfl, Nat.le_of_ble_eq_true rfl⟩ (by decide) (by decide) rfl rfl (Nat.le_of_ble_eq_true rfl) ⟨Nat.le_of_ble_eq_true rfl, Nat.le_of_ble_eq_true rfl⟩ rfl ?_
                                      show Sim X (YR ad) 246 [(0, .ref (ad 500)), (1, .int (nI u))] [] I3 (up2 J3 500 21 (lN 31 * J3 500 21 + ((o_need (gN (m0 1)) (lnG m0) m0 (nI u)).toInt64))) A3 B3 0 0
                                      refine S_n g 1 (pc' := 249) (lv' := [(0, .ref (ad 500)), (1, .int ((nI u) + nI 1))]) (st' := []) rfl ?_
                                      rw [nI_add u 1]
                                      refine S_n g 1 (pc' := 228) (lv' := [(0, .ref (ad 500)), (1, .int (nI (u + 1)))]) (st' := []) rfl ?_
                                      exact lp6 (nu - (u + 1)) (by omega) (u + 1) I3 (up2 J3 500 21 (lN 31 * J3 500 21 + ((o_need (gN (m0 1)) (lnG m0) m0 (nI u)).toInt64))) A3 B3 rfl (by omega) (hq5.trans hb1) (by show lN 31 * J3 500 21 + _ = _; rw [hqk.2.1, hJ]; rfl) (hqk.1.2.1.trans h5v) (kpV_tr hkp (kpR_V hqk))
                                exact lp6 _ 0 I2 J2 A2 B2 rfl (Nat.zero_le _) hb1 hJ h5v hkp
                              · skip
                                refine S_n g 2 (pc' := 208) (lv' := [(0, .ref (ad 500)), (1, .int (nI k))]) (st' := [.ref (ad 500), .ref (ad 500)]) rfl ?_
                                refine S_getR g (i := 500) (c := 9) (k := 0) (j := 501) (by decide) (by decide) rfl rfl rfl fl_X9_7 rfl ?_
                                refine S_n g 3 (pc' := 216) (lv' := [(0, .ref (ad 500)), (1, .int (nI k))]) (st' := [.int ((nI 429) + (nI k)), .ref (ad 501), .ref (ad 500)]) rfl ?_
                                rw [nI_add 429 k]
                                refine S_laldN g (i := 501) (e := 429 + k) (by decide) rfl (show 429 + k < 621 from by omega) (show (621 : Nat) < 2 ^ 31 from by decide) rfl ?_
                                rw [hb1]
                                refine S_cV g (i := 500) (As := [.long (m0 (429 + k))]) (st := []) (sp_mixes ad I2 J2 A2 B2 (m0 (429 + k))) mw_X9_mixes lk_X9_304 ⟨Nat.le_of_ble_eq_true rfl, Nat.le_of_ble_eq_true rfl⟩ (by decide) (by decide) rfl rfl (Nat.le_of_ble_eq_true rfl) ⟨Nat.le_of_ble_eq_true rfl, Nat.le_of_ble_eq_true rfl⟩ rfl ?_
                                show Sim X (YR ad) 220 [(0, .ref (ad 500)), (1, .int (nI k))] [] I2 (up2 J2 500 21 (lN 31 * J2 500 21 + (m0 (429 + k)))) A2 B2 0 0
                                refine S_n g 1 (pc' := 223) (lv' := [(0, .ref (ad 500)), (1, .int ((nI k) + nI 1))]) (st' := []) rfl ?_
                                rw [nI_add k 1]
                                refine S_n g 1 (pc' := 192) (lv' := [(0, .ref (ad 500)), (1, .int (nI (k + 1)))]) (st' := []) rfl ?_
                                exact lp5 (hn - (k + 1)) (by omega) (k + 1) I2 (up2 J2 500 21 (lN 31 * J2 500 21 + (m0 (429 + k)))) A2 B2 rfl (by omega) hb1 (by show lN 31 * J2 500 21 + _ = _; rw [hJ]; rfl) h5v hkp
                          exact lp5 _ 0 I2 J2 A2 B2 rfl (Nat.zero_le _) hb1 hJ h5v hkp
                        · skip
                          refine S_n g 2 (pc' := 172) (lv' := [(0, .ref (ad 500)), (1, .int (nI k))]) (st' := [.ref (ad 500), .ref (ad 500)]) rfl ?_
                          refine S_getR g (i := 500) (c := 9) (k := 0) (j := 501) (by decide) (by decide) rfl rfl rfl fl_X9_7 rfl ?_
                          refine S_n g 3 (pc' := 180) (lv' := [(0, .ref (ad 500)), (1, .int (nI k))]) (st' := [.int ((nI 328) + (nI k)), .ref (ad 501), .ref (ad 500)]) rfl ?_
                          rw [nI_add 328 k]
                          refine S_laldN g (i := 501) (e := 328 + k) (by decide) rfl (show 328 + k < 621 from by omega) (show (621 : Nat) < 2 ^ 31 from by decide) rfl ?_
                          rw [hb1]
                          refine S_cV g (i := 500) (As := [.long (m0 (328 + k))]) (st := []) (sp_mixes ad I2 J2 A2 B2 (m0 (328 + k))) mw_X9_mixes lk_X9_304 ⟨Nat.le_of_ble_eq_true rfl, Nat.le_of_ble_eq_true rfl⟩ (by decide) (by decide) rfl rfl (Nat.le_of_ble_eq_true rfl) ⟨Nat.le_of_ble_eq_true rfl, Nat.le_of_ble_eq_true rfl⟩ rfl ?_
                          show Sim X (YR ad) 184 [(0, .ref (ad 500)), (1, .int (nI k))] [] I2 (up2 J2 500 21 (lN 31 * J2 500 21 + (m0 (328 + k)))) A2 B2 0 0
                          refine S_n g 1 (pc' := 187) (lv' := [(0, .ref (ad 500)), (1, .int ((nI k) + nI 1))]) (st' := []) rfl ?_
                          rw [nI_add k 1]
                          refine S_n g 1 (pc' := 156) (lv' := [(0, .ref (ad 500)), (1, .int (nI (k + 1)))]) (st' := []) rfl ?_
                          exact lp4 (qn - (k + 1)) (by omega) (k + 1) I2 (up2 J2 500 21 (lN 31 * J2 500 21 + (m0 (328 + k)))) A2 B2 rfl (by omega) hb1 (by show lN 31 * J2 500 21 + _ = _; rw [hJ]; rfl) h5v hkp
                    exact lp4 _ 0 I2 J2 A2 B2 rfl (Nat.zero_le _) hb1 hJ h5v hkp
                  · skip
                    refine S_n g 2 (pc' := 71) (lv' := [(0, .ref (ad 500)), (1, .int (nI u)), (2, .int (nI 0))]) (st' := []) rfl ?_
                    have lpa : ∀ (nn : Nat) (a : Nat) (I2 : FI) (J2 : FJ) (A2 : FI) (B2 : FJ), 8 - a = nn → (a ≤ 8) → (B2 501 = m0) → (J2 500 21 = dgA m0 u (dg3 m0 n u) a) → (I2 500 5 = I 500 5) → (kpV I A B I2 A2 B2) → Sim X (YR ad) 71 [(0, .ref (ad 500)), (1, .int (nI u)), (2, .int (nI a))] [] I2 J2 A2 B2 0 0 := by
                      intro nn
                      induction nn using Nat.strongRecOn with
                      | ind nn ih =>
                        intro a I2 J2 A2 B2 hmz ha hb1 hJ h5v hkp
                        have lpa := ih
                        refine S_n g 2 (pc' := 74) (lv' := [(0, .ref (ad 500)), (1, .int (nI u)), (2, .int (nI a))]) (st' := [.int (nI 8), .int (nI a)]) rfl ?_
                        refine S_icN_ge g (tgt := 94) (by omega) (by omega) rfl (by decide) (fun qz74 => ?_) (fun qz74 => ?_)
                        · skip
                          have ha9 : a = 8 := by omega
                          rw [ha9] at hJ
                          refine S_n g 2 (pc' := 96) (lv' := [(0, .ref (ad 500)), (1, .int (nI u)), (2, .int (nI a))]) (st' := [.ref (ad 500), .ref (ad 500)]) rfl ?_
                          refine S_getR g (i := 500) (c := 9) (k := 0) (j := 501) (by decide) (by decide) rfl rfl rfl fl_X9_7 rfl ?_
                          refine S_n g 3 (pc' := 103) (lv' := [(0, .ref (ad 500)), (1, .int (nI u)), (2, .int (nI a))]) (st' := [.int ((nI 63) + (nI u)), .ref (ad 501), .ref (ad 500)]) rfl ?_
                          rw [nI_add 63 u]
                          refine S_laldN g (i := 501) (e := 63 + u) (by decide) rfl (show 63 + u < 621 from by omega) (show (621 : Nat) < 2 ^ 31 from by decide) rfl ?_
                          rw [hb1]
                          refine S_cV g (i := 500) (As := [.long (m0 (63 + u))]) (st := []) (sp_mixes ad I2 J2 A2 B2 (m0 (63 + u))) mw_X9_mixes lk_X9_304 ⟨Nat.le_of_ble_eq_true rfl, Nat.le_of_ble_eq_true rfl⟩ (by decide) (by decide) rfl rfl (Nat.le_of_ble_eq_true rfl) ⟨Nat.le_of_ble_eq_true rfl, Nat.le_of_ble_eq_true rfl⟩ rfl ?_
                          show Sim X (YR ad) 107 [(0, .ref (ad 500)), (1, .int (nI u)), (2, .int (nI a))] [] I2 (up2 J2 500 21 (lN 31 * J2 500 21 + (m0 (63 + u)))) A2 B2 0 0
                          refine S_n g 2 (pc' := 109) (lv' := [(0, .ref (ad 500)), (1, .int (nI u)), (2, .int (nI 0))]) (st' := []) rfl ?_
                          obtain ⟨l, hl⟩ : ∃ l, l = lnG m0 u := ⟨_, rfl⟩
                          have hl40 := hls u (by omega)
                          have hlm := hLs u (by omega)
                          rw [← hl] at hl40 hlm
                          have lpb : ∀ (nn : Nat) (i : Nat) (I2 : FI) (J2 : FJ) (A2 : FI) (B2 : FJ), l - i = nn → (i ≤ l) → (B2 501 = m0) → (J2 500 21 = dgB m0 u (dg3 m0 n u) i) → (I2 500 5 = I 500 5) → (kpV I A B I2 A2 B2) → Sim X (YR ad) 109 [(0, .ref (ad 500)), (1, .int (nI u)), (2, .int (nI i))] [] I2 J2 A2 B2 0 0 := by
                            intro nn
                            induction nn using Nat.strongRecOn with
                            | ind nn ih =>
                              intro i I2 J2 A2 B2 hmz hi hb1 hJ h5v hkp
                              have lpb := ih
                              refine S_n g 2 (pc' := 111) (lv' := [(0, .ref (ad 500)), (1, .int (nI u)), (2, .int (nI i))]) (st' := [.long (nI i).toInt64]) rfl ?_
                              rw [nI_l (n := i) (by omega)]
                              refine S_n g 1 (pc' := 112) (lv' := [(0, .ref (ad 500)), (1, .int (nI u)), (2, .int (nI i))]) (st' := [.ref (ad 500), .long (lN i)]) rfl ?_
                              refine S_getR g (i := 500) (c := 9) (k := 0) (j := 501) (by decide) (by decide) rfl rfl rfl fl_X9_7 rfl ?_
                              refine S_n g 3 (pc' := 119) (lv' := [(0, .ref (ad 500)), (1, .int (nI u)), (2, .int (nI i))]) (st' := [.int ((nI 81) + (nI u)), .ref (ad 501), .long (lN i)]) rfl ?_
                              rw [nI_add 81 u]
                              refine S_laldN g (i := 501) (e := 81 + u) (by decide) rfl (show 81 + u < 621 from by omega) (show (621 : Nat) < 2 ^ 31 from by decide) rfl ?_
                              rw [hb1, hlm]
                              refine S_lcN_ge g (tgt := 148) (by omega) (by omega) rfl rfl (by decide) (fun qz120 => ?_) (fun qz120 => ?_)
                              · skip
                                have hi9 : i = l := by omega
                                rw [hi9] at hJ
                                refine S_n g 1 (pc' := 151) (lv' := [(0, .ref (ad 500)), (1, .int ((nI u) + nI 1)), (2, .int (nI i))]) (st' := []) rfl ?_
                                rw [nI_add u 1]
                                refine S_n g 1 (pc' := 61) (lv' := [(0, .ref (ad 500)), (1, .int (nI (u + 1))), (2, .int (nI i))]) (st' := []) rfl ?_
                                refine S_keep (lv' := [(0, .ref (ad 500)), (1, .int (nI (u + 1)))]) [0, 1] rfl ?_
                                exact lp3 (nu - (u + 1)) (by omega) (u + 1) I2 J2 A2 B2 rfl (by omega) hb1 (by rw [hJ, dg3, ← hl]) h5v hkp
                              · skip
                                refine S_n g 2 (pc' := 126) (lv' := [(0, .ref (ad 500)), (1, .int (nI u)), (2, .int (nI i))]) (st' := [.ref (ad 500), .ref (ad 500)]) rfl ?_
                                refine S_getR g (i := 500) (c := 9) (k := 0) (j := 501) (by decide) (by decide) rfl rfl rfl fl_X9_7 rfl ?_
                                refine S_n g 4 (pc' := 135) (lv' := [(0, .ref (ad 500)), (1, .int (nI u)), (2, .int (nI i))]) (st' := [.int ((nI 40) * (nI u)), .int (nI 87), .ref (ad 501), .ref (ad 500)]) rfl ?_
                                rw [pk_mul 40 u]
                                refine S_n g 1 (pc' := 136) (lv' := [(0, .ref (ad 500)), (1, .int (nI u)), (2, .int (nI i))]) (st' := [.int ((nI 87) + (nI (40 * u))), .ref (ad 501), .ref (ad 500)]) rfl ?_
                                rw [nI_add 87 (40 * u)]
                                refine S_n g 2 (pc' := 138) (lv' := [(0, .ref (ad 500)), (1, .int (nI u)), (2, .int (nI i))]) (st' := [.int ((nI (87 + (40 * u))) + (nI i)), .ref (ad 501), .ref (ad 500)]) rfl ?_
                                rw [nI_add (87 + (40 * u)) i]
                                refine S_laldN g (i := 501) (e := (87 + (40 * u)) + i) (by decide) rfl (show (87 + (40 * u)) + i < 621 from by omega) (show (621 : Nat) < 2 ^ 31 from by decide) rfl ?_
                                rw [hb1]
                                refine S_cV g (i := 500) (As := [.long (m0 ((87 + (40 * u)) + i))]) (st := []) (sp_mixes ad I2 J2 A2 B2 (m0 ((87 + (40 * u)) + i))) mw_X9_mixes lk_X9_304 ⟨Nat.le_of_ble_eq_true rfl, Nat.le_of_ble_eq_true rfl⟩ (by decide) (by decide) rfl rfl (Nat.le_of_ble_eq_true rfl) ⟨Nat.le_of_ble_eq_true rfl, Nat.le_of_ble_eq_true rfl⟩ rfl ?_
                                show Sim X (YR ad) 142 [(0, .ref (ad 500)), (1, .int (nI u)), (2, .int (nI i))] [] I2 (up2 J2 500 21 (lN 31 * J2 500 21 + (m0 ((87 + (40 * u)) + i)))) A2 B2 0 0
                                refine S_n g 1 (pc' := 145) (lv' := [(0, .ref (ad 500)), (1, .int (nI u)), (2, .int ((nI i) + nI 1))]) (st' := []) rfl ?_
                                rw [nI_add i 1]
                                refine S_n g 1 (pc' := 109) (lv' := [(0, .ref (ad 500)), (1, .int (nI u)), (2, .int (nI (i + 1)))]) (st' := []) rfl ?_
                                exact lpb (l - (i + 1)) (by omega) (i + 1) I2 (up2 J2 500 21 (lN 31 * J2 500 21 + (m0 ((87 + (40 * u)) + i)))) A2 B2 rfl (by omega) hb1 (by show lN 31 * J2 500 21 + _ = _; rw [hJ]; rfl) h5v hkp
                          exact lpb _ 0 I2 (up2 J2 500 21 (lN 31 * J2 500 21 + (m0 (63 + u)))) A2 B2 rfl (Nat.zero_le _) hb1 (by show lN 31 * J2 500 21 + _ = _; rw [hJ]; rfl) h5v hkp
                        · skip
                          refine S_n g 4 (pc' := 81) (lv' := [(0, .ref (ad 500)), (1, .int (nI u)), (2, .int (nI a))]) (st' := [.int (nI a), .int (nI u), .ref (ad 500), .ref (ad 500)]) rfl ?_
                          refine S_callV g (i := 500) (As := [.int (nI u), .int (nI a)]) (st := [.ref (ad 500)]) (sp_user ad I2 J2 A2 B2 (nI u) (nI a) (gN (m0 0)) (gN (m0 1)) (gN (m0 2)) (by rw [hb1]; exact hG.1) (lnG m0) (fun v hv => by rw [hb1]; exact hLs v hv) hls (fun v hv => by rw [hb1, ← hnf]; exact hWs v hv)) mw_X9_user lk_X9_308 ⟨Nat.le_of_ble_eq_true rfl, Nat.le_of_ble_eq_true rfl⟩ (by decide) (by decide) rfl rfl (Nat.le_of_ble_eq_true rfl) ⟨Nat.le_of_ble_eq_true rfl, Nat.le_of_ble_eq_true rfl⟩ rfl (fun v' Y' I3 J3 A3 B3 hpo => ?_)
                          have hpo := se_sc hpo
                          rw [hb1] at hpo
                          obtain ⟨rfl, rfl, hq5, hqk⟩ := hpo
                          show Sim X (YR ad) 84 [(0, .ref (ad 500)), (1, .int (nI u)), (2, .int (nI a))] [.int (o_user (gN (m0 0)) (gN (m0 1)) (lnG m0) m0 (nI u) (nI a)), .ref (ad 500)] I3 J3 A3 B3 0 0
                          refine S_n g 1 (pc' := 85) (lv' := [(0, .ref (ad 500)), (1, .int (nI u)), (2, .int (nI a))]) (st' := [.long (o_user (gN (m0 0)) (gN (m0 1)) (lnG m0) m0 (nI u) (nI a)).toInt64, .ref (ad 500)]) rfl ?_
                          refine S_cV g (i := 500) (As := [.long (o_user (gN (m0 0)) (gN (m0 1)) (lnG m0) m0 (nI u) (nI a)).toInt64]) (st := []) (sp_mixes ad I3 J3 A3 B3 ((o_user (gN (m0 0)) (gN (m0 1)) (lnG m0) m0 (nI u) (nI a)).toInt64)) mw_X9_mixes lk_X9_304 ⟨Nat.le_of_ble_eq_true rfl, Nat.le_of_ble_eq_true rfl⟩ (by decide) (by decide) rfl rfl (Nat.le_of_ble_eq_true rfl) ⟨Nat.le_of_ble_eq_true rfl, Nat.le_of_ble_eq_true rfl⟩ rfl ?_
                          show Sim X (YR ad) 88 [(0, .ref (ad 500)), (1, .int (nI u)), (2, .int (nI a))] [] I3 (up2 J3 500 21 (lN 31 * J3 500 21 + ((o_user (gN (m0 0)) (gN (m0 1)) (lnG m0) m0 (nI u) (nI a)).toInt64))) A3 B3 0 0
                          refine S_n g 1 (pc' := 91) (lv' := [(0, .ref (ad 500)), (1, .int (nI u)), (2, .int ((nI a) + nI 1))]) (st' := []) rfl ?_
                          rw [nI_add a 1]
                          refine S_n g 1 (pc' := 71) (lv' := [(0, .ref (ad 500)), (1, .int (nI u)), (2, .int (nI (a + 1)))]) (st' := []) rfl ?_
                          exact lpa (8 - (a + 1)) (by omega) (a + 1) I3 (up2 J3 500 21 (lN 31 * J3 500 21 + ((o_user (gN (m0 0)) (gN (m0 1)) (lnG m0) m0 (nI u) (nI a)).toInt64))) A3 B3 rfl (by omega) (hq5.trans hb1) (by show lN 31 * J3 500 21 + _ = _; rw [hqk.2.1, hJ]; rfl) (hqk.1.2.1.trans h5v) (kpV_tr hkp (kpR_V hqk))
                    exact lpa _ 0 I2 J2 A2 B2 rfl (Nat.zero_le _) hb1 hJ h5v hkp
              exact lp3 _ 0 I2 J2 A2 B2 rfl (Nat.zero_le _) hb1 hJ h5v hkp
            · skip
              refine S_n g 2 (pc' := 43) (lv' := [(0, .ref (ad 500)), (1, .int (nI p))]) (st' := [.ref (ad 500), .ref (ad 500)]) rfl ?_
              refine S_getR g (i := 500) (c := 9) (k := 0) (j := 501) (by decide) (by decide) rfl rfl rfl fl_X9_7 rfl ?_
              refine S_n g 3 (pc' := 49) (lv' := [(0, .ref (ad 500)), (1, .int (nI p))]) (st' := [.int ((nI 3) + (nI p)), .ref (ad 501), .ref (ad 500)]) rfl ?_
              rw [nI_add 3 p]
              refine S_laldN g (i := 501) (e := 3 + p) (by decide) rfl (show 3 + p < 621 from by omega) (show (621 : Nat) < 2 ^ 31 from by decide) rfl ?_
              rw [hb1]
              refine S_cV g (i := 500) (As := [.long (m0 (3 + p))]) (st := []) (sp_mixes ad I2 J2 A2 B2 (m0 (3 + p))) mw_X9_mixes lk_X9_304 ⟨Nat.le_of_ble_eq_true rfl, Nat.le_of_ble_eq_true rfl⟩ (by decide) (by decide) rfl rfl (Nat.le_of_ble_eq_true rfl) ⟨Nat.le_of_ble_eq_true rfl, Nat.le_of_ble_eq_true rfl⟩ rfl ?_
              show Sim X (YR ad) 53 [(0, .ref (ad 500)), (1, .int (nI p))] [] I2 (up2 J2 500 21 (lN 31 * J2 500 21 + (m0 (3 + p)))) A2 B2 0 0
              refine S_n g 1 (pc' := 56) (lv' := [(0, .ref (ad 500)), (1, .int ((nI p) + nI 1))]) (st' := []) rfl ?_
              rw [nI_add p 1]
              refine S_n g 1 (pc' := 33) (lv' := [(0, .ref (ad 500)), (1, .int (nI (p + 1)))]) (st' := []) rfl ?_
              exact lp2 (12 * nf - (p + 1)) (by omega) (p + 1) I2 (up2 J2 500 21 (lN 31 * J2 500 21 + (m0 (3 + p)))) A2 B2 rfl (by omega) hb1 (by show lN 31 * J2 500 21 + _ = _; rw [hJ]; rfl) h5v hkp
        exact lp2 _ 0 I2 J2 A2 B2 rfl (Nat.zero_le _) hb1 hJ h5v hkp
      · skip
        refine S_n g 3 (pc' := 18) (lv' := [(0, .ref (ad 500)), (1, .int (nI k))]) (st' := [.int (nI k), .ref (ad 500), .ref (ad 500)]) rfl ?_
        refine S_callV g (i := 500) (As := [.int (nI k)]) (st := [.ref (ad 500)]) (sp_count ad I2 J2 A2 B2 (nI k) n (hkp.1.trans hI4) m0 hb1 hG) mw_X9_count lk_X9_301 ⟨Nat.le_of_ble_eq_true rfl, Nat.le_of_ble_eq_true rfl⟩ (by decide) (by decide) rfl rfl (Nat.le_of_ble_eq_true rfl) ⟨Nat.le_of_ble_eq_true rfl, Nat.le_of_ble_eq_true rfl⟩ rfl (fun v' Y' I3 J3 A3 B3 hpo => ?_)
        obtain ⟨rfl, rfl, hq5, hqk⟩ := hpo
        show Sim X (YR ad) 21 [(0, .ref (ad 500)), (1, .int (nI k))] [.int (o_count m0 n (nI k)), .ref (ad 500)] I3 J3 A3 B3 0 0
        refine S_n g 1 (pc' := 22) (lv' := [(0, .ref (ad 500)), (1, .int (nI k))]) (st' := [.long (o_count m0 n (nI k)).toInt64, .ref (ad 500)]) rfl ?_
        refine S_cV g (i := 500) (As := [.long (o_count m0 n (nI k)).toInt64]) (st := []) (sp_mixes ad I3 J3 A3 B3 ((o_count m0 n (nI k)).toInt64)) mw_X9_mixes lk_X9_304 ⟨Nat.le_of_ble_eq_true rfl, Nat.le_of_ble_eq_true rfl⟩ (by decide) (by decide) rfl rfl (Nat.le_of_ble_eq_true rfl) ⟨Nat.le_of_ble_eq_true rfl, Nat.le_of_ble_eq_true rfl⟩ rfl ?_
        show Sim X (YR ad) 25 [(0, .ref (ad 500)), (1, .int (nI k))] [] I3 (up2 J3 500 21 (lN 31 * J3 500 21 + ((o_count m0 n (nI k)).toInt64))) A3 B3 0 0
        refine S_n g 1 (pc' := 28) (lv' := [(0, .ref (ad 500)), (1, .int ((nI k) + nI 1))]) (st' := []) rfl ?_
        rw [nI_add k 1]
        refine S_n g 1 (pc' := 9) (lv' := [(0, .ref (ad 500)), (1, .int (nI (k + 1)))]) (st' := []) rfl ?_
        exact lp1 (10 - (k + 1)) (by omega) (k + 1) I3 (up2 J3 500 21 (lN 31 * J3 500 21 + ((o_count m0 n (nI k)).toInt64))) A3 B3 rfl (by omega) (hq5.trans hb1) (by show lN 31 * J3 500 21 + _ = _; rw [hqk.2.1, hJ]; rfl) (hqk.1.2.1.trans h5v) (kpV_tr hkp (kpR_V hqk))
  exact lp1 _ 0 I (up2 J 500 21 (lN 19)) A B rfl (by decide) hm0 rfl rfl (kpV_rf I A B)
