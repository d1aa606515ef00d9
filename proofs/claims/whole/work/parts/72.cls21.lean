/-! the class: storeRandom -/
theorem rs_in {x : Int32} (h1 : ¬ x < nI 1) (h : x.toInt64 < lN 2147483647) : isIn x 1 2147483646 = true := by
  unfold isIn
  rw [Int32.lt_iff_toInt_lt, show (nI 1).toInt = 1 from rfl] at h1
  rw [Int64.lt_iff_toInt_lt, Int32.toInt_toInt64, pk_lT (by decide)] at h
  exact decide_eq_true (by omega)
theorem rs_out {x : Int32} (h : lN 2147483647 ≤ x.toInt64) : isIn x 1 2147483646 = false := by
  unfold isIn
  rw [Int64.le_iff_toInt_le, Int32.toInt_toInt64, pk_lT (by decide)] at h
  exact decide_eq_false (by omega)
theorem rqN_min (nf nc : Nat) : min 12 (nc / nf) = rqN nf nc := by
  unfold rqN
  split <;> omega
theorem or_in {c : Int64} {p : Nat} (hp : p < 64) (h : tb c p = true) : c ||| b1 p = c := by
  apply tb_ext
  intro i hi
  rw [tb_or, tb_b1 hp hi]
  by_cases e : i = p
  · subst e; rw [h]; rfl
  · rw [decide_eq_false e, Bool.or_false]
theorem and_b1 {c : Int64} {p : Nat} (hp : p < 64) : c &&& b1 p = lN 0 ↔ tb c p = false := by
  constructor
  · intro h
    have := congrArg (fun z => tb z p) h
    simp only [tb_and, tb_b1 hp hp, decide_eq_true, Bool.and_true, tb_0] at this
    exact this
  · intro h
    apply tb_ext
    intro i hi
    rw [tb_and, tb_b1 hp hi, tb_0]
    by_cases e : i = p
    · subst e; rw [h]; rfl
    · rw [decide_eq_false e, Bool.and_false]
theorem kq {q f d : Nat} (h : d < q) : (q * f + d) / q = f := by
  rw [Nat.mul_add_div (by omega), Nat.div_eq_of_lt h, Nat.add_zero]

set_option maxRecDepth 100000 in
set_option maxHeartbeats 4000000 in
theorem w_ppf (ad : Nat → Nat) (z0 z1 : Bool) (I : FI) (J : FJ) (A : FI) (B : FJ) (nf nc : Nat) (hF : I 100 5 = nI nf) (hC : I 100 7 = nI nc) (h1 : 1 ≤ nf) (h2 : nf ≤ 5) (h5 : nc ≤ 60) : Spec M_X7_partsPerFile [.ref (ad 100)] (YC ad z0 z1) I J A B (eqP (some (.int (nI (rqN nf nc)))) (YC ad z0 z1) I J A B) := by
  have hdl := Nat.div_le_self nc nf
  refine Spec_of (by decide) tk_X7_partsPerFile (Nat.le_of_ble_eq_true rfl) (fun X g rt => ?_)
  show Sim X (YC ad z0 z1) 0 [(0, .ref (ad 100))] [] I J A B 0 0
  refine S_n g 1 (pc' := 1) (lv' := [(0, .ref (ad 100))]) (st' := [.ref (ad 100)]) rfl ?_
  refine S_getI g (i := 100) (c := 7) (k := 5) (by decide) (by decide) rfl rfl fl_X7_41 rfl ?_
  rw [hF]
  refine S_n g 1 (pc' := 5) (lv' := [(0, .ref (ad 100))]) (st' := [.int (nI 1), .int (nI nf)]) rfl ?_
  refine S_icN_ge g (tgt := 12) (by omega) (by omega) rfl (by decide) (fun qz5 => ?_) (fun qz5 => ?_)
  · skip
    refine S_n g 2 (pc' := 15) (lv' := [(0, .ref (ad 100))]) (st' := [.ref (ad 100), .int (nI 12)]) rfl ?_
    refine S_getI g (i := 100) (c := 7) (k := 7) (by decide) (by decide) rfl rfl fl_X7_48 rfl ?_
    rw [hC]
    refine S_n g 1 (pc' := 19) (lv' := [(0, .ref (ad 100))]) (st' := [.ref (ad 100), .int (nI nc), .int (nI 12)]) rfl ?_
    refine S_getI g (i := 100) (c := 7) (k := 5) (by decide) (by decide) rfl rfl fl_X7_41 rfl ?_
    rw [hF]
    refine S_idiv g (nI_z1 (by omega) (by omega)) rfl ?_
    rw [pk_div (a := nc) (d := nf) (by omega) (by omega) (by omega)]
    refine S_cS g (As := [.int (nI 12), .int (nI (nc / nf))]) (st := []) (sp_min (YC ad z0 z1) I J A B 12 (nc / nf) (by decide) (by omega)) mw_J9_min_7cf53 lk_X7_84 ⟨Nat.le_of_ble_eq_true rfl, Nat.le_of_ble_eq_true rfl⟩ rfl (Nat.le_of_ble_eq_true rfl) ⟨Nat.le_of_ble_eq_true rfl, Nat.le_of_ble_eq_true rfl⟩ rfl ?_
    rw [rqN_min]
    show Sim X (YC ad z0 z1) 26 [(0, .ref (ad 100))] [.int (nI (rqN nf nc))] I J A B 0 0
    exact rtI rt rfl rfl eqP_rf
  · skip
    omega

set_option maxRecDepth 100000 in
set_option maxHeartbeats 4000000 in
theorem c_free (ad : Nat → Nat) (z0 z1 : Bool) (I : FI) (J : FJ) (A : FI) (B : FJ) (c : Int64) (f r : Nat) (hf : f < 5) (hr : r < 12) : Spec M_X8_freePiece [.long c, .int (nI f), .int (nI r)] (YC ad z0 z1) I J A B (fun v' Y' I' J' A' B' => ∃ s, v' = some (.long s) ∧ c ||| s = c ||| b1 (12 * f + frp c (12 * f) 12 r) ∧ Y' = YC ad z0 z1 ∧ I' = I ∧ J' = J ∧ A' = A ∧ B' = B) := by
  refine Spec_of (by decide) tk_X8_freePiece (Nat.le_of_ble_eq_true rfl) (fun X g rt => ?_)
  show Sim X (YC ad z0 z1) 0 [(0, .long c), (2, .int (nI f)), (3, .int (nI r))] [] I J A B 0 0
  refine S_n g 2 (pc' := 3) (lv' := [(0, .long c), (2, .int (nI f)), (3, .int (nI r)), (4, .int (nI 0))]) (st' := []) rfl ?_
  have lp : ∀ (nn : Nat) (k : Nat), 12 - k = nn → (k ≤ 12) → (frp c (12 * f) 12 r = frp c (12 * f) (12 - k) ((r + k) % 12)) → (∀ j, j < k → tb c (12 * f + (r + j) % 12) = true) → Sim X (YC ad z0 z1) 3 [(0, .long c), (2, .int (nI f)), (3, .int (nI r)), (4, .int (nI k))] [] I J A B 0 0 := by
    intro nn
    induction nn using Nat.strongRecOn with
    | ind nn ih =>
      intro k hmz hk hfp hal
      have lp := ih
      refine S_n g 2 (pc' := 7) (lv' := [(0, .long c), (2, .int (nI f)), (3, .int (nI r)), (4, .int (nI k))]) (st' := [.int (nI 12), .int (nI k)]) rfl ?_
      refine S_icN_ge g (tgt := 44) (by omega) (by omega) rfl (by decide) (fun qz7 => ?_) (fun qz7 => ?_)
      · skip
        have hk9 : k = 12 := by omega
        subst hk9
        have hfr : frp c (12 * f) 12 r = r := by rw [hfp, show 12 - 12 = 0 from rfl, frp]; omega
        have hbt := hal 0 (by decide)
        rw [show (r + 0) % 12 = r by omega] at hbt
        refine S_n g 1 (pc' := 45) (lv' := [(0, .long c), (2, .int (nI f)), (3, .int (nI r)), (4, .int (nI 12))]) (st' := [.long (lN 0)]) rfl ?_
        exact rtL rt rfl rfl (⟨_, rfl, by rw [hfr, or_in (by omega) hbt]; exact or_z c, rfl, rfl, rfl, rfl, rfl⟩)
      · skip
        have hm9 : (r + k) % 12 < 12 := Nat.mod_lt _ (by decide)
        refine S_n g 4 (pc' := 15) (lv' := [(0, .long c), (2, .int (nI f)), (3, .int (nI r)), (4, .int (nI k))]) (st' := [.int ((nI 12) * (nI f)), .long (lN 1)]) rfl ?_
        rw [pk_mul 12 f]
        refine S_n g 3 (pc' := 19) (lv' := [(0, .long c), (2, .int (nI f)), (3, .int (nI r)), (4, .int (nI k))]) (st' := [.int ((nI r) + (nI k)), .int (nI (12 * f)), .long (lN 1)]) rfl ?_
        rw [nI_add r k]
        refine S_n g 1 (pc' := 21) (lv' := [(0, .long c), (2, .int (nI f)), (3, .int (nI r)), (4, .int (nI k))]) (st' := [.int (nI 12), .int (nI (r + k)), .int (nI (12 * f)), .long (lN 1)]) rfl ?_
        refine S_irem g (nI_z1 (by omega) (by omega)) rfl ?_
        rw [pk_rem (a := r + k) (d := 12) (by omega) (by omega) (by omega)]
        refine S_n g 1 (pc' := 23) (lv' := [(0, .long c), (2, .int (nI f)), (3, .int (nI r)), (4, .int (nI k))]) (st' := [.int ((nI (12 * f)) + (nI ((r + k) % 12))), .long (lN 1)]) rfl ?_
        rw [nI_add (12 * f) ((r + k) % 12)]
        refine S_n g 6 (pc' := 31) (lv' := [(0, .long c), (2, .int (nI f)), (3, .int (nI r)), (4, .int (nI k)), (5, .long ((lN 1) <<< ((nI ((12 * f) + ((r + k) % 12))).toInt64 &&& 63)))]) (st' := [.long (lN 0), .long (c &&& ((lN 1) <<< ((nI ((12 * f) + ((r + k) % 12))).toInt64 &&& 63)))]) rfl ?_
        refine S_lc_ne g (tgt := 38) rfl rfl (by decide) (fun qz31 => ?_) (fun qz31 => ?_)
        · skip
          have hbt : tb c (12 * f + (r + k) % 12) = true := by cases hbv : tb c (12 * f + (r + k) % 12); (· exact absurd ((and_b1 (by omega)).mpr hbv) qz31); (· rfl)
          refine S_n g 1 (pc' := 41) (lv' := [(0, .long c), (2, .int (nI f)), (3, .int (nI r)), (4, .int ((nI k) + nI 1)), (5, .long ((lN 1) <<< ((nI ((12 * f) + ((r + k) % 12))).toInt64 &&& 63)))]) (st' := []) rfl ?_
          rw [nI_add k 1]
          refine S_n g 1 (pc' := 3) (lv' := [(0, .long c), (2, .int (nI f)), (3, .int (nI r)), (4, .int (nI (k + 1))), (5, .long ((lN 1) <<< ((nI ((12 * f) + ((r + k) % 12))).toInt64 &&& 63)))]) (st' := []) rfl ?_
          refine S_keep (lv' := [(0, .long c), (2, .int (nI f)), (3, .int (nI r)), (4, .int (nI (k + 1)))]) [0, 2, 3, 4] rfl ?_
          exact lp (12 - (k + 1)) (by omega) (k + 1) rfl (by omega) (by rw [hfp, show 12 - k = (12 - (k + 1)) + 1 by omega, frp, if_pos hbt, show ((r + k) % 12 + 1) % 12 = (r + (k + 1)) % 12 by omega]) (fun j hj => by by_cases e : j = k; (· subst e; exact hbt); (· exact hal j (by omega)))
        · skip
          have hbt := (and_b1 (by omega)).mp qz31
          have hfr : frp c (12 * f) 12 r = (r + k) % 12 := by rw [hfp, show 12 - k = (12 - (k + 1)) + 1 by omega, frp, if_neg (by rw [hbt]; decide)]
          refine S_n g 1 (pc' := 37) (lv' := [(0, .long c), (2, .int (nI f)), (3, .int (nI r)), (4, .int (nI k)), (5, .long ((lN 1) <<< ((nI ((12 * f) + ((r + k) % 12))).toInt64 &&& 63)))]) (st' := [.long ((lN 1) <<< ((nI ((12 * f) + ((r + k) % 12))).toInt64 &&& 63))]) rfl ?_
          exact rtL rt rfl rfl (⟨_, rfl, by rw [hfr], rfl, rfl, rfl, rfl, rfl⟩)
  exact lp _ 0 rfl (Nat.zero_le _) (by rw [show (r + 0) % 12 = r by omega]) (fun j hj => absurd hj (Nat.not_lt_zero j))

set_option maxRecDepth 100000 in
set_option maxHeartbeats 4000000 in
theorem c_random (ad : Nat → Nat) (z0 z1 : Bool) (I : FI) (J : FJ) (A : FI) (B : FJ) (x : Int32) (m : Nat → Int64) (hG : WG m) (hR : RepW 100 m I J A B) : Spec M_X8_storeRandom [.ref (ad 0), .int x] (YC ad z0 z1) I J A B (cP ad z0 z1 I J A B (.int (o_storeRandom (gN (m 0)) (gN (m 1)) (gN (m 2)) m x).1) (o_storeRandom (gN (m 0)) (gN (m 1)) (gN (m 2)) m x).2) := by
  have hW : Wf m (gN (m 0)) (gN (m 1)) (gN (m 2)) (gN (m 327)) (gN (m 428)) (gN (m 529)) (lnG m) := hG
  generalize gN (m 0) = nf at hW ⊢
  generalize gN (m 1) = nu at hW ⊢
  generalize gN (m 2) = nc at hW ⊢
  obtain ⟨hmF, hmU, hmC, h1, h2, h3, h4, h5⟩ := hW.1
  have hF : I 100 5 = nI nf := by rw [hR.1.1, hmF, lN_i]
  have hU : I 100 6 = nI nu := by rw [hR.1.2.1, hmU, lN_i]
  have hC : I 100 7 = nI nc := by rw [hR.1.2.2.1, hmC, lN_i]
  refine Spec_of (by decide) tk_X8_storeRandom (Nat.le_of_ble_eq_true rfl) (fun X g rt => ?_)
  show Sim X (YC ad z0 z1) 0 [(0, .ref (ad 0)), (1, .int x)] [] I J A B 0 0
  refine S_n g 2 (pc' := 2) (lv' := [(0, .ref (ad 0)), (1, .int x)]) (st' := [.int (nI 1), .int x]) rfl ?_
  refine S_ic_lt g (tgt := 14) rfl (by decide) (fun qz2 => ?_) (fun qz2 => ?_)
  · skip
    refine S_n g 1 (pc' := 16) (lv' := [(0, .ref (ad 0)), (1, .int x)]) (st' := [.int (-nI 101)]) rfl ?_
    exact rtI rt rfl rfl (⟨by rw [o_storeRandom, lt_1 (n := 2147483646) qz2, if_neg (by decide)], rfl, by rw [o_storeRandom, lt_1 (n := 2147483646) qz2, if_neg (by decide)]; exact hR, kpC_rf I J A B⟩)
  · skip
    refine S_n g 2 (pc' := 7) (lv' := [(0, .ref (ad 0)), (1, .int x)]) (st' := [.long x.toInt64]) rfl ?_
    refine S_ldc2 g kc_X8_128 rfl ?_
    refine S_lc_lt g (tgt := 17) rfl rfl (by decide) (fun qz10 => ?_) (fun qz10 => ?_)
    · skip
      have hx := rs_in qz2 qz10
      obtain ⟨s, hs9, es, fs⟩ := isIn_k hx
      have ho : o_storeRandom nf nu nc m x = (nI (rqN nf nc), cpR (rqN nf nc) (rqN nf nc * nf) s m nu) := by rw [o_storeRandom, if_pos hx, fs]
      subst es
      show Sim X (YC ad z0 z1) 17 [(0, .ref (ad 0)), (1, .int (nI s))] [] I J A B 0 0
      refine S_n g 1 (pc' := 18) (lv' := [(0, .ref (ad 0)), (1, .int (nI s))]) (st' := [.ref (ad 0)]) rfl ?_
      refine S_getR g (i := 0) (c := 8) (k := 0) (j := 100) (by decide) (by decide) rfl rfl rfl fl_X8_10 rfl ?_
      refine S_cV g (i := 100) (As := []) (st := []) (w_ppf ad z0 z1 I J A B nf nc hF hC h1 h2 h5) mw_X7_partsPerFile lk_X8_130 ⟨Nat.le_of_ble_eq_true rfl, Nat.le_of_ble_eq_true rfl⟩ (by decide) (by decide) rfl rfl (Nat.le_of_ble_eq_true rfl) ⟨Nat.le_of_ble_eq_true rfl, Nat.le_of_ble_eq_true rfl⟩ rfl ?_
      show Sim X (YC ad z0 z1) 24 [(0, .ref (ad 0)), (1, .int (nI s))] [.int (nI (rqN nf nc))] I J A B 0 0
      have hq12 : rqN nf nc ≤ 12 := by rw [← rqN_min]; omega
      obtain ⟨q, hqq⟩ : ∃ q, q = rqN nf nc := ⟨_, rfl⟩
      rw [← hqq] at hq12 ho ⊢
      show Sim X (YC ad z0 z1) 24 [(0, .ref (ad 0)), (1, .int (nI s))] [.int (nI q)] I J A B 0 0
      refine S_n g 3 (pc' := 27) (lv' := [(0, .ref (ad 0)), (1, .int (nI s)), (2, .int (nI q))]) (st' := [.long (nI s).toInt64]) rfl ?_
      rw [nI_l (n := s) (by omega)]
      refine S_n g 3 (pc' := 31) (lv' := [(0, .ref (ad 0)), (1, .int (nI s)), (2, .int (nI q)), (3, .long (lN s)), (5, .int (nI 0))]) (st' := []) rfl ?_
      have lp : ∀ (nn : Nat) (u : Nat) (J2 : FJ), nu - u = nn → (u ≤ nu) → (RepW 100 (cpR q (q * nf) s m u) I J2 A B) → (kpC I J A B I J2 A B) → Sim X (YC ad z0 z1) 31 [(0, .ref (ad 0)), (1, .int (nI s)), (2, .int (nI q)), (3, .long (lN (rxU q (q * nf) s u))), (5, .int (nI u))] [] I J2 A B 0 0 := by
        intro nn
        induction nn using Nat.strongRecOn with
        | ind nn ih =>
          intro u J2 hmz hu0 hR2 hk2
          have lp := ih
          have hxl := rxU_lt (q := q) (n := q * nf) (x0 := s) (by omega) u
          obtain ⟨y, hy⟩ : ∃ y, y = rxU q (q * nf) s u := ⟨_, rfl⟩
          rw [← hy] at hxl ⊢
          show Sim X (YC ad z0 z1) 31 [(0, .ref (ad 0)), (1, .int (nI s)), (2, .int (nI q)), (3, .long (lN y)), (5, .int (nI u))] [] I J2 A B 0 0
          refine S_n g 2 (pc' := 34) (lv' := [(0, .ref (ad 0)), (1, .int (nI s)), (2, .int (nI q)), (3, .long (lN y)), (5, .int (nI u))]) (st' := [.ref (ad 0), .int (nI u)]) rfl ?_
          refine S_getR g (i := 0) (c := 8) (k := 0) (j := 100) (by decide) (by decide) rfl rfl rfl fl_X8_10 rfl ?_
          refine S_getI g (i := 100) (c := 7) (k := 6) (by decide) (by decide) rfl rfl fl_X8_104 rfl ?_
          rw [hU]
          refine S_icN_ge g (tgt := 131) (by omega) (by omega) rfl (by decide) (fun qz40 => ?_) (fun qz40 => ?_)
          · skip
            have hu9 : u = nu := by omega
            subst hu9
            refine S_n g 1 (pc' := 132) (lv' := [(0, .ref (ad 0)), (1, .int (nI s)), (2, .int (nI q)), (3, .long (lN y)), (5, .int (nI u))]) (st' := [.int (nI q)]) rfl ?_
            exact rtI rt rfl rfl (by rw [ho]; exact ⟨rfl, rfl, hR2, hk2⟩)
          · skip
            refine S_n g 4 (pc' := 49) (lv' := [(0, .ref (ad 0)), (1, .int (nI s)), (2, .int (nI q)), (3, .long (lN y)), (5, .int (nI u)), (6, .long (lN 0)), (8, .int (nI 0))]) (st' := []) rfl ?_
            have lp2 : ∀ (nn : Nat) (f : Nat), nf - f = nn → (f ≤ nf) → Sim X (YC ad z0 z1) 49 [(0, .ref (ad 0)), (1, .int (nI s)), (2, .int (nI q)), (3, .long (lN (rsN q y (q * f)).1)), (5, .int (nI u)), (6, .long (rsN q y (q * f)).2), (8, .int (nI f))] [] I J2 A B 0 0 := by
              intro nn
              induction nn using Nat.strongRecOn with
              | ind nn ih =>
                intro f hmz hf
                have lp2 := ih
                refine S_n g 2 (pc' := 52) (lv' := [(0, .ref (ad 0)), (1, .int (nI s)), (2, .int (nI q)), (3, .long (lN (rsN q y (q * f)).1)), (5, .int (nI u)), (6, .long (rsN q y (q * f)).2), (8, .int (nI f))]) (st' := [.ref (ad 0), .int (nI f)]) rfl ?_
                refine S_getR g (i := 0) (c := 8) (k := 0) (j := 100) (by decide) (by decide) rfl rfl rfl fl_X8_10 rfl ?_
                refine S_getI g (i := 100) (c := 7) (k := 5) (by decide) (by decide) rfl rfl fl_X8_125 rfl ?_
                rw [hF]
                refine S_icN_ge g (tgt := 110) (by omega) (by omega) rfl (by decide) (fun qz58 => ?_) (fun qz58 => ?_)
                · skip
                  have hf9 : f = nf := by omega
                  subst hf9
                  have hu : u < 6 := by omega
                  refine S_keep (lv' := [(0, .ref (ad 0)), (1, .int (nI s)), (2, .int (nI q)), (3, .long (lN (rsN q y (q * f)).1)), (5, .int (nI u)), (6, .long (rsN q y (q * f)).2)]) [0, 1, 2, 3, 5, 6] rfl ?_
                  refine S_n g 1 (pc' := 111) (lv' := [(0, .ref (ad 0)), (1, .int (nI s)), (2, .int (nI q)), (3, .long (lN (rsN q y (q * f)).1)), (5, .int (nI u)), (6, .long (rsN q y (q * f)).2)]) (st' := [.ref (ad 0)]) rfl ?_
                  refine S_getR g (i := 0) (c := 8) (k := 0) (j := 100) (by decide) (by decide) rfl rfl rfl fl_X8_10 rfl ?_
                  refine S_getR g (i := 100) (c := 7) (k := 1) (j := 102) (by decide) (by decide) rfl rfl rfl fl_X8_83 rfl ?_
                  refine S_n g 1 (pc' := 119) (lv' := [(0, .ref (ad 0)), (1, .int (nI s)), (2, .int (nI q)), (3, .long (lN (rsN q y (q * f)).1)), (5, .int (nI u)), (6, .long (rsN q y (q * f)).2)]) (st' := [.int (nI u), .ref (ad 102)]) rfl ?_
                  refine S_aaldN g (i := 102) (e := u) (j := 120 + 4 * u) (by decide) rfl (show u < 6 from by omega) (show (6 : Nat) < 2 ^ 31 from by decide) rfl rfl ?_
                  refine S_n g 1 (pc' := 122) (lv' := [(0, .ref (ad 0)), (1, .int (nI s)), (2, .int (nI q)), (3, .long (lN (rsN q y (q * f)).1)), (5, .int (nI u)), (6, .long (rsN q y (q * f)).2)]) (st' := [.long (rsN q y (q * f)).2, .ref (ad (120 + 4 * u))]) rfl ?_
                  refine S_putJ g (i := 120 + 4 * u) (c := 2) (k := 1) (by omega) (by decide) (mb7 hu).1 rfl fw_X8_98 rfl ?_
                  refine S_n g 1 (pc' := 128) (lv' := [(0, .ref (ad 0)), (1, .int (nI s)), (2, .int (nI q)), (3, .long (lN (rsN q y (q * f)).1)), (5, .int ((nI u) + nI 1)), (6, .long (rsN q y (q * f)).2)]) (st' := []) rfl ?_
                  rw [nI_add u 1]
                  refine S_n g 1 (pc' := 31) (lv' := [(0, .ref (ad 0)), (1, .int (nI s)), (2, .int (nI q)), (3, .long (lN (rsN q y (q * f)).1)), (5, .int (nI (u + 1))), (6, .long (rsN q y (q * f)).2)]) (st' := []) rfl ?_
                  refine S_keep (lv' := [(0, .ref (ad 0)), (1, .int (nI s)), (2, .int (nI q)), (3, .long (lN (rsN q y (q * f)).1)), (5, .int (nI (u + 1)))]) [0, 1, 2, 3, 5] rfl ?_
                  refine S_lveq (lv' := [(0, .ref (ad 0)), (1, .int (nI s)), (2, .int (nI q)), (3, .long (lN (rxU q (q * f) s (u + 1)))), (5, .int (nI (u + 1)))]) (by rw [(show lN (rsN q y (q * f)).1 = lN (rxU q (q * f) s (u + 1)) from by rw [rxU, ← hy]).symm]) ?_
                  exact lp (nu - (u + 1)) (by omega) (u + 1) (up2 J2 (120 + 4 * u) 1 (rsN q y (q * f)).2) rfl (by omega) (by rw [cpR, ← hy]; exact RepW_cache (WF_g (Wf_WF (Wf_cpR hW q s u hu0))) hR2 hu _) (kpC_tr hk2 ⟨fun i hi => ⟨rfl, u2r (by omega), rfl, rfl⟩, rfl, rfl, rfl, rfl, rfl⟩)
                · skip
                  refine S_n g 2 (pc' := 64) (lv' := [(0, .ref (ad 0)), (1, .int (nI s)), (2, .int (nI q)), (3, .long (lN (rsN q y (q * f)).1)), (5, .int (nI u)), (6, .long (rsN q y (q * f)).2), (8, .int (nI f)), (9, .int (nI 0))]) (st' := []) rfl ?_
                  refine S_lveq (lv' := [(0, .ref (ad 0)), (1, .int (nI s)), (2, .int (nI q)), (3, .long (lN (rsN q y (q * f + 0)).1)), (5, .int (nI u)), (6, .long (rsN q y (q * f)).2), (8, .int (nI f)), (9, .int (nI 0))]) (by rw [(show lN (rsN q y (q * f)).1 = lN (rsN q y (q * f + 0)).1 from rfl).symm]) ?_
                  refine S_lveq (lv' := [(0, .ref (ad 0)), (1, .int (nI s)), (2, .int (nI q)), (3, .long (lN (rsN q y (q * f + 0)).1)), (5, .int (nI u)), (6, .long (rsN q y (q * f + 0)).2), (8, .int (nI f)), (9, .int (nI 0))]) (by rw [(show (rsN q y (q * f)).2 = (rsN q y (q * f + 0)).2 from rfl).symm]) ?_
                  show Sim X (YC ad z0 z1) 64 [(0, .ref (ad 0)), (1, .int (nI s)), (2, .int (nI q)), (3, .long (lN (rsN q y (q * f + 0)).1)), (5, .int (nI u)), (6, .long (rsN q y (q * f + 0)).2), (8, .int (nI f)), (9, .int (nI 0))] [] I J2 A B 0 0
                  have lp3 : ∀ (nn : Nat) (d : Nat), q - d = nn → (d ≤ q) → Sim X (YC ad z0 z1) 64 [(0, .ref (ad 0)), (1, .int (nI s)), (2, .int (nI q)), (3, .long (lN (rsN q y (q * f + d)).1)), (5, .int (nI u)), (6, .long (rsN q y (q * f + d)).2), (8, .int (nI f)), (9, .int (nI d))] [] I J2 A B 0 0 := by
                    intro nn
                    induction nn using Nat.strongRecOn with
                    | ind nn ih =>
                      intro d hmz hd
                      have lp3 := ih
                      have hrl := rsN_lt (q := q) hxl (q * f + d)
                      obtain ⟨z, hz⟩ : ∃ z, z = (rsN q y (q * f + d)).1 := ⟨_, rfl⟩
                      rw [← hz] at hrl ⊢
                      obtain ⟨c, hc⟩ : ∃ c, c = (rsN q y (q * f + d)).2 := ⟨_, rfl⟩
                      rw [← hc]
                      show Sim X (YC ad z0 z1) 64 [(0, .ref (ad 0)), (1, .int (nI s)), (2, .int (nI q)), (3, .long (lN z)), (5, .int (nI u)), (6, .long c), (8, .int (nI f)), (9, .int (nI d))] [] I J2 A B 0 0
                      refine S_n g 2 (pc' := 67) (lv' := [(0, .ref (ad 0)), (1, .int (nI s)), (2, .int (nI q)), (3, .long (lN z)), (5, .int (nI u)), (6, .long c), (8, .int (nI f)), (9, .int (nI d))]) (st' := [.int (nI q), .int (nI d)]) rfl ?_
                      refine S_icN_ge g (tgt := 104) (by omega) (by omega) rfl (by decide) (fun qz67 => ?_) (fun qz67 => ?_)
                      · skip
                        have hd9 : d = q := by omega
                        subst hd9
                        refine S_n g 1 (pc' := 107) (lv' := [(0, .ref (ad 0)), (1, .int (nI s)), (2, .int (nI d)), (3, .long (lN z)), (5, .int (nI u)), (6, .long c), (8, .int ((nI f) + nI 1)), (9, .int (nI d))]) (st' := []) rfl ?_
                        rw [nI_add f 1]
                        refine S_n g 1 (pc' := 49) (lv' := [(0, .ref (ad 0)), (1, .int (nI s)), (2, .int (nI d)), (3, .long (lN z)), (5, .int (nI u)), (6, .long c), (8, .int (nI (f + 1))), (9, .int (nI d))]) (st' := []) rfl ?_
                        refine S_lveq (lv' := [(0, .ref (ad 0)), (1, .int (nI s)), (2, .int (nI d)), (3, .long (lN (rsN d y (d * (f + 1))).1)), (5, .int (nI u)), (6, .long c), (8, .int (nI (f + 1))), (9, .int (nI d))]) (by rw [(show lN z = lN (rsN d y (d * (f + 1))).1 from by rw [hz, Nat.mul_succ]).symm]) ?_
                        refine S_lveq (lv' := [(0, .ref (ad 0)), (1, .int (nI s)), (2, .int (nI d)), (3, .long (lN (rsN d y (d * (f + 1))).1)), (5, .int (nI u)), (6, .long (rsN d y (d * (f + 1))).2), (8, .int (nI (f + 1))), (9, .int (nI d))]) (by rw [(show c = (rsN d y (d * (f + 1))).2 from by rw [hc, Nat.mul_succ]).symm]) ?_
                        refine S_keep (lv' := [(0, .ref (ad 0)), (1, .int (nI s)), (2, .int (nI d)), (3, .long (lN (rsN d y (d * (f + 1))).1)), (5, .int (nI u)), (6, .long (rsN d y (d * (f + 1))).2), (8, .int (nI (f + 1)))]) [0, 1, 2, 3, 5, 6, 8] rfl ?_
                        exact lp2 (nf - (f + 1)) (by omega) (f + 1) rfl (by omega)
                      · skip
                        have hm1 : 48271 * z % 2147483647 < 2147483647 := Nat.mod_lt _ (by decide)
                        have hm2 : 48271 * z % 2147483647 % 12 < 12 := Nat.mod_lt _ (by decide)
                        refine S_ldc2 g kc_X8_133 rfl ?_
                        refine S_n g 2 (pc' := 75) (lv' := [(0, .ref (ad 0)), (1, .int (nI s)), (2, .int (nI q)), (3, .long (lN z)), (5, .int (nI u)), (6, .long c), (8, .int (nI f)), (9, .int (nI d))]) (st' := [.long ((lN 48271) * (lN z))]) rfl ?_
                        rw [lN_mul 48271 z]
                        refine S_ldc2 g kc_X8_128 rfl ?_
                        refine S_lrem g (lN_z1 (by omega) (by omega)) rfl ?_
                        rw [pk_lRem (a := 48271 * z) (b := 2147483647) (by omega) (by omega) (by omega)]
                        refine S_n g 5 (pc' := 87) (lv' := [(0, .ref (ad 0)), (1, .int (nI s)), (2, .int (nI q)), (3, .long (lN ((48271 * z) % 2147483647))), (5, .int (nI u)), (6, .long c), (8, .int (nI f)), (9, .int (nI d))]) (st' := [.long (lN ((48271 * z) % 2147483647)), .int (nI f), .long c, .long c]) rfl ?_
                        refine S_ldc2 g kc_X8_135 rfl ?_
                        refine S_lrem g (lN_z1 (by omega) (by omega)) rfl ?_
                        rw [pk_lRem (a := (48271 * z) % 2147483647) (b := 12) (by omega) (by omega) (by omega)]
                        refine S_n g 1 (pc' := 92) (lv' := [(0, .ref (ad 0)), (1, .int (nI s)), (2, .int (nI q)), (3, .long (lN ((48271 * z) % 2147483647))), (5, .int (nI u)), (6, .long c), (8, .int (nI f)), (9, .int (nI d))]) (st' := [.int (lN (((48271 * z) % 2147483647) % 12)).toInt32, .int (nI f), .long c, .long c]) rfl ?_
                        rw [lN_i (((48271 * z) % 2147483647) % 12)]
                        refine S_callS g (As := [.long c, .int (nI f), .int (nI (((48271 * z) % 2147483647) % 12))]) (st := [.long c]) (c_free ad z0 z1 I J2 A B c f (48271 * z % 2147483647 % 12) (by omega) hm2) mw_X8_freePiece lk_X8_137 ⟨Nat.le_of_ble_eq_true rfl, Nat.le_of_ble_eq_true rfl⟩ rfl (Nat.le_of_ble_eq_true rfl) ⟨Nat.le_of_ble_eq_true rfl, Nat.le_of_ble_eq_true rfl⟩ rfl (fun v' Y' I4 J4 A4 B4 hpo => ?_)
                        obtain ⟨g9, rfl, hg9, rfl, e1, e2, e3, e4⟩ := hpo
                        rw [e1, e2, e3, e4]
                        show Sim X (YC ad z0 z1) 95 [(0, .ref (ad 0)), (1, .int (nI s)), (2, .int (nI q)), (3, .long (lN ((48271 * z) % 2147483647))), (5, .int (nI u)), (6, .long c), (8, .int (nI f)), (9, .int (nI d))] [.long g9, .long c] I J2 A B 0 0
                        have hst : rsN q y (q * f + (d + 1)) = (48271 * z % 2147483647, c ||| b1 (12 * f + frp c (12 * f) 12 (48271 * z % 2147483647 % 12))) := by rw [show q * f + (d + 1) = (q * f + d) + 1 from rfl, rsN_s, ← hz, ← hc, kq (show d < q by omega)]; rfl
                        refine S_n g 1 (pc' := 96) (lv' := [(0, .ref (ad 0)), (1, .int (nI s)), (2, .int (nI q)), (3, .long (lN ((48271 * z) % 2147483647))), (5, .int (nI u)), (6, .long c), (8, .int (nI f)), (9, .int (nI d))]) (st' := [.long (c ||| g9)]) rfl ?_
                        refine S_steq (st' := [.long (rsN q y (q * f + (d + 1))).2]) (by rw [(show c ||| g9 = (rsN q y (q * f + (d + 1))).2 from by rw [hst]; exact hg9).symm]) ?_
                        refine S_n g 2 (pc' := 101) (lv' := [(0, .ref (ad 0)), (1, .int (nI s)), (2, .int (nI q)), (3, .long (lN ((48271 * z) % 2147483647))), (5, .int (nI u)), (6, .long (rsN q y (q * f + (d + 1))).2), (8, .int (nI f)), (9, .int ((nI d) + nI 1))]) (st' := []) rfl ?_
                        rw [nI_add d 1]
                        refine S_n g 1 (pc' := 64) (lv' := [(0, .ref (ad 0)), (1, .int (nI s)), (2, .int (nI q)), (3, .long (lN ((48271 * z) % 2147483647))), (5, .int (nI u)), (6, .long (rsN q y (q * f + (d + 1))).2), (8, .int (nI f)), (9, .int (nI (d + 1)))]) (st' := []) rfl ?_
                        refine S_lveq (lv' := [(0, .ref (ad 0)), (1, .int (nI s)), (2, .int (nI q)), (3, .long (lN (rsN q y (q * f + (d + 1))).1)), (5, .int (nI u)), (6, .long (rsN q y (q * f + (d + 1))).2), (8, .int (nI f)), (9, .int (nI (d + 1)))]) (by rw [(show lN ((48271 * z) % 2147483647) = lN (rsN q y (q * f + (d + 1))).1 from by rw [hst]).symm]) ?_
                        exact lp3 (q - (d + 1)) (by omega) (d + 1) rfl (by omega)
                  exact lp3 _ 0 rfl (Nat.zero_le _)
            have h0 := lp2 _ 0 rfl (Nat.zero_le _)
            rw [Nat.mul_zero] at h0
            exact h0
      exact lp _ 0 J rfl (Nat.zero_le _) hR (kpC_rf I J A B)
    · skip
      refine S_n g 1 (pc' := 16) (lv' := [(0, .ref (ad 0)), (1, .int x)]) (st' := [.int (-nI 101)]) rfl ?_
      exact rtI rt rfl rfl (⟨by rw [o_storeRandom, rs_out qz10, if_neg (by decide)], rfl, by rw [o_storeRandom, rs_out qz10, if_neg (by decide)]; exact hR, kpC_rf I J A B⟩)
