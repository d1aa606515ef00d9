/-! the reference, part 16: storeRandom -/
def rnd (x : Nat) : Nat := 48271 * x % 2147483647
/-- the first part from r on, round, that c doesn't have of the pieces from a on; n tries -/
def frp (c : Int64) (a : Nat) : Nat → Nat → Nat
  | 0, r => r
  | n + 1, r => if tb c (a + r) = true then frp c a n ((r + 1) % 12) else r
/-- the generator and the cache after k draws -/
def rsN (q x0 : Nat) : Nat → Nat × Int64
  | 0 => (x0, lN 0)
  | k + 1 => (rnd (rsN q x0 k).1, (rsN q x0 k).2 ||| b1 (12 * (k / q) + frp (rsN q x0 k).2 (12 * (k / q)) 12 (rnd (rsN q x0 k).1 % 12)))
theorem rsN_s (q x0 k : Nat) : rsN q x0 (k + 1) = (rnd (rsN q x0 k).1, (rsN q x0 k).2 ||| b1 (12 * (k / q) + frp (rsN q x0 k).2 (12 * (k / q)) 12 (rnd (rsN q x0 k).1 % 12))) := rfl
theorem rnd_lt (x : Nat) : rnd x < 2147483647 := Nat.mod_lt _ (by decide)
theorem rsN_lt {q x0 : Nat} (h : x0 < 2147483647) : ∀ k, (rsN q x0 k).1 < 2147483647
  | 0 => h
  | k + 1 => by rw [rsN_s]; exact rnd_lt _
/-- how many of the parts below n of file f are in c -/
def cnf (c : Int64) (f : Nat) : Nat → Nat
  | 0 => 0
  | j + 1 => cnf c f j + (tb c (12 * f + j)).toNat
theorem cnf_free {c : Int64} {f : Nat} : ∀ n, cnf c f n < n → ∃ j, j < n ∧ tb c (12 * f + j) = false
  | 0, h => absurd h (Nat.not_lt_zero _)
  | n + 1, h => by
    cases hb : tb c (12 * f + n) with
    | false => exact ⟨n, by omega, hb⟩
    | true =>
      rw [cnf, hb, Bool.toNat_true] at h
      obtain ⟨j, h1, h2⟩ := cnf_free (c := c) (f := f) n (by omega)
      exact ⟨j, by omega, h2⟩
theorem cnf_0 (f : Nat) : ∀ n, cnf (lN 0) f n = 0
  | 0 => rfl
  | n + 1 => by rw [cnf, cnf_0 f n, tb_0]; rfl
theorem cnf_or {c : Int64} {f g r : Nat} (hf : f < 5) (hg : g < 5) (hr : r < 12) : ∀ n, n ≤ 12 → cnf (c ||| b1 (12 * g + r)) f n ≤ cnf c f n + (if f = g ∧ r < n then 1 else 0)
  | 0, _ => by show 0 ≤ _; omega
  | n + 1, hn => by
    have ih := cnf_or (c := c) hf hg hr n (by omega)
    rw [cnf, cnf, tb_or, tb_b1 (by omega) (by omega)]
    by_cases e : 12 * f + n = 12 * g + r
    · have e1 : f = g := by omega
      have e2 : r = n := by omega
      rw [if_neg (by omega)] at ih
      rw [if_pos (by omega)]
      have := Bool.toNat_le (tb c (12 * f + n) || decide (12 * f + n = 12 * g + r))
      omega
    · rw [decide_eq_false e, Bool.or_false]
      have h3 : (if f = g ∧ r < n then 1 else 0) ≤ (if f = g ∧ r < n + 1 then 1 else 0) := by
        split
        · rw [if_pos (by omega)]; omega
        · omega
      omega
theorem frp_lt (c : Int64) (a : Nat) : ∀ n r, r < 12 → frp c a n r < 12
  | 0, r, h => h
  | n + 1, r, h => by
    unfold frp
    split
    · exact frp_lt c a n _ (Nat.mod_lt _ (by decide))
    · exact h
theorem rs_inv {q x0 nf : Nat} (hq : 0 < q) (hnf : nf ≤ 5) : ∀ k, k ≤ q * nf → ∀ f, f < 5 → cnf (rsN q x0 k).2 f 12 ≤ k - f * q
  | 0, _, f, _ => by rw [show (rsN q x0 0).2 = lN 0 from rfl, cnf_0]; omega
  | k + 1, hk, f, hf => by
    have ih := rs_inv (x0 := x0) hq hnf k (by omega) f hf
    have hg : k / q < nf := Nat.div_lt_of_lt_mul hk
    rw [rsN_s]
    have hr := frp_lt (rsN q x0 k).2 (12 * (k / q)) 12 (rnd (rsN q x0 k).1 % 12) (Nat.mod_lt _ (by decide))
    have h1 := cnf_or (c := (rsN q x0 k).2) hf (show k / q < 5 by omega) hr 12 (Nat.le_refl _)
    refine Nat.le_trans h1 ?_
    by_cases e : f = k / q
    · rw [if_pos ⟨e, hr⟩]
      have h2 : f * q ≤ k := by rw [e]; exact Nat.div_mul_le_self k q
      omega
    · rw [if_neg (fun w => e w.1)]
      omega
theorem rs_free {q x0 nf k : Nat} (hq : 0 < q) (hq2 : q ≤ 12) (hnf : nf ≤ 5) (hk : k < q * nf) : ∃ j, j < 12 ∧ tb (rsN q x0 k).2 (12 * (k / q) + j) = false := by
  have hg : k / q < nf := Nat.div_lt_of_lt_mul hk
  have h1 := rs_inv (x0 := x0) hq hnf k (by omega) (k / q) (by omega)
  have h2 : k - k / q * q < q := by
    have := Nat.mod_lt k hq
    have := Nat.div_add_mod k q
    rw [Nat.mul_comm] at this
    omega
  exact cnf_free 12 (by omega)
/-- the generator after u users -/
def rxU (q n x0 : Nat) : Nat → Nat
  | 0 => x0
  | u + 1 => (rsN q (rxU q n x0 u) n).1
theorem rxU_lt {q n x0 : Nat} (h : x0 < 2147483647) : ∀ u, rxU q n x0 u < 2147483647
  | 0 => h
  | u + 1 => rsN_lt (rxU_lt h u) n
def cpR (q n x0 : Nat) (m : Nat → Int64) : Nat → Nat → Int64
  | 0 => m
  | u + 1 => va_up (cpR q n x0 m u) (63 + u) (rsN q (rxU q n x0 u) n).2
theorem cpR_lo (q n x0 : Nat) (m : Nat → Int64) {j : Nat} (hj : j < 63) : ∀ u, cpR q n x0 m u j = m j
  | 0 => rfl
  | u + 1 => by rw [cpR, va_up_ne _ _ (by omega)]; exact cpR_lo q n x0 m hj u
def rqN (nf nc : Nat) : Nat := if 12 < nc / nf then 12 else nc / nf
def o_storeRandom (nf nu nc : Nat) (m : Nat → Int64) (x : Int32) : Int32 × (Nat → Int64) :=
  if isIn x 1 2147483646 = true then (nI (rqN nf nc), cpR (rqN nf nc) (rqN nf nc * nf) (ix x) m nu) else (-nI 101, m)

set_option maxRecDepth 100000 in
set_option maxHeartbeats 4000000 in
theorem sp_storeRandom (ad : Nat → Nat) (I : FI) (J : FJ) (A : FI) (B : FJ) (x : Int32) (nf nu nc : Nat) (hm : Dm (B 501) nf nu nc) : Spec M_X9_storeRandom [.ref (ad 500), .int x] (YR ad) I J A B (eqP (some (.int (o_storeRandom nf nu nc (B 501) x).1)) (YR ad) I J A (va_up B 501 (o_storeRandom nf nu nc (B 501) x).2)) := by
  obtain ⟨hF, hU, hC, h1, h2, h3, h4, h5⟩ := hm
  refine Spec_of (by decide) tk_X9_storeRandom (Nat.le_of_ble_eq_true rfl) (fun X g rt => ?_)
  show Sim X (YR ad) 0 [(0, .ref (ad 500)), (1, .int x)] [] I J A B 0 0
  refine S_n g 3 (pc' := 3) (lv' := [(0, .ref (ad 500)), (1, .int x)]) (st' := [.long (lN 1), .long x.toInt64]) rfl ?_
  refine S_ldc2 g kc_X9_103 rfl ?_
  refine S_cS g (As := [.long x.toInt64, .long (lN 1), .long (lN 2147483646)]) (st := []) (sp_in (YR ad) I J A B x.toInt64 (lN 1) (lN 2147483646)) mw_X9_in lk_X9_63 ⟨Nat.le_of_ble_eq_true rfl, Nat.le_of_ble_eq_true rfl⟩ rfl (Nat.le_of_ble_eq_true rfl) ⟨Nat.le_of_ble_eq_true rfl, Nat.le_of_ble_eq_true rfl⟩ rfl ?_
  show Sim X (YR ad) 9 [(0, .ref (ad 500)), (1, .int x)] [.int (bI (inL x.toInt64 (lN 1) (lN 2147483646)))] I J A B 0 0
  refine S_steq (st' := [.int (bI (isIn x 1 2147483646))]) (by rw [(show bI (inL x.toInt64 (lN 1) (lN 2147483646)) = bI (isIn x 1 2147483646) from by rw [inL_n (by decide) (by decide)]; rfl).symm]) ?_
  refine S_ifB_ne g (tgt := 15) rfl (by decide) (fun qz9 => ?_) (fun qz9 => ?_)
  · skip
    obtain ⟨s, hsa, hsb, hxs⟩ := isIn_t qz9
    subst hxs
    have hcs : (nI s).toNatClampNeg = s := nI_clamp (by omega)
    have ho : o_storeRandom nf nu nc (B 501) (nI s) = (nI (rqN nf nc), cpR (rqN nf nc) (rqN nf nc * nf) s (B 501) nu) := by unfold o_storeRandom; rw [if_pos qz9, show ix (nI s) = s from hcs]
    have hdl : nc / nf ≤ nc := Nat.div_le_self _ _
    refine S_n g 1 (pc' := 16) (lv' := [(0, .ref (ad 500)), (1, .int (nI s))]) (st' := [.ref (ad 500)]) rfl ?_
    refine S_getR g (i := 500) (c := 9) (k := 0) (j := 501) (by decide) (by decide) rfl rfl rfl fl_X9_7 rfl ?_
    refine S_n g 1 (pc' := 20) (lv' := [(0, .ref (ad 500)), (1, .int (nI s))]) (st' := [.int (nI 2), .ref (ad 501)]) rfl ?_
    refine S_laldN g (i := 501) (e := 2) (by decide) rfl (show 2 < 621 from by omega) (show (621 : Nat) < 2 ^ 31 from by decide) rfl ?_
    rw [hC]
    refine S_n g 1 (pc' := 22) (lv' := [(0, .ref (ad 500)), (1, .int (nI s))]) (st' := [.ref (ad 500), .long (lN nc)]) rfl ?_
    refine S_getR g (i := 500) (c := 9) (k := 0) (j := 501) (by decide) (by decide) rfl rfl rfl fl_X9_7 rfl ?_
    refine S_n g 1 (pc' := 26) (lv' := [(0, .ref (ad 500)), (1, .int (nI s))]) (st' := [.int (nI 0), .ref (ad 501), .long (lN nc)]) rfl ?_
    refine S_laldN g (i := 501) (e := 0) (by decide) rfl (show 0 < 621 from by omega) (show (621 : Nat) < 2 ^ 31 from by decide) rfl ?_
    rw [hF]
    refine S_ldiv g (lN_z1 (by omega) (by omega)) rfl ?_
    rw [pk_lDiv (a := nc) (b := nf) (by omega) (by omega) (by omega)]
    refine S_n g 1 (pc' := 29) (lv' := [(0, .ref (ad 500)), (1, .int (nI s))]) (st' := [.int (lN (nc / nf)).toInt32]) rfl ?_
    rw [lN_i (nc / nf)]
    refine S_n g 1 (pc' := 30) (lv' := [(0, .ref (ad 500)), (1, .int (nI s)), (2, .int (nI (nc / nf)))]) (st' := []) rfl ?_
    refine S_n g 2 (pc' := 33) (lv' := [(0, .ref (ad 500)), (1, .int (nI s)), (2, .int (nI (nc / nf)))]) (st' := [.int (nI 12), .int (nI (nc / nf))]) rfl ?_
    refine S_icN_le g (tgt := 41) (by omega) (by omega) rfl (by decide) (fun qz33 => ?_) (fun qz33 => ?_)
    · skip
      refine S_n g 2 (pc' := 43) (lv' := [(0, .ref (ad 500)), (1, .int (nI s)), (2, .int (nI (nc / nf)))]) (st' := []) rfl ?_
      refine S_lveq (lv' := [(0, .ref (ad 500)), (1, .int (nI s)), (2, .int (nI (rqN nf nc)))]) (by rw [(show nI (nc / nf) = nI (rqN nf nc) from by rw [rqN, if_neg (by omega)]).symm]) ?_
      have hq12 : rqN nf nc ≤ 12 := by unfold rqN; split <;> omega
      obtain ⟨q, hq⟩ : ∃ q, q = rqN nf nc := ⟨_, rfl⟩
      rw [← hq] at hq12 ho ⊢
      show Sim X (YR ad) 43 [(0, .ref (ad 500)), (1, .int (nI s)), (2, .int (nI q))] [] I J A B 0 0
      have hqn : q * nf ≤ 60 := Nat.mul_le_mul hq12 h2
      obtain ⟨n, hn⟩ : ∃ n, n = q * nf := ⟨_, rfl⟩
      rw [← hn] at hqn ho
      refine S_n g 2 (pc' := 45) (lv' := [(0, .ref (ad 500)), (1, .int (nI s)), (2, .int (nI q))]) (st' := [.long (nI s).toInt64]) rfl ?_
      rw [nI_l (n := s) (by omega)]
      refine S_n g 3 (pc' := 49) (lv' := [(0, .ref (ad 500)), (1, .int (nI s)), (2, .int (nI q)), (3, .long (lN s)), (5, .int (nI 0))]) (st' := []) rfl ?_
      have lp : ∀ (nn : Nat) (u : Nat), nu - u = nn → (u ≤ nu) → Sim X (YR ad) 49 [(0, .ref (ad 500)), (1, .int (nI s)), (2, .int (nI q)), (3, .long (lN (rxU q n s u))), (5, .int (nI u))] [] I J A (va_up B 501 (cpR q n s (B 501) u)) 0 0 := by
        intro nn
        induction nn using Nat.strongRecOn with
        | ind nn ih =>
          intro u hmz hu
          have lp := ih
          have hxl := rxU_lt (q := q) (n := n) (show s < 2147483647 by omega) u
          refine S_n g 2 (pc' := 52) (lv' := [(0, .ref (ad 500)), (1, .int (nI s)), (2, .int (nI q)), (3, .long (lN (rxU q n s u))), (5, .int (nI u))]) (st' := [.ref (ad 500), .int (nI u)]) rfl ?_
          refine S_cV g (i := 500) (As := []) (st := [.int (nI u)]) (sp_users ad I J A (va_up B 501 (cpR q n s (B 501) u)) nu ((cpR_lo q n s (B 501) (by decide) u).trans hU)) mw_X9_users lk_X9_71 ⟨Nat.le_of_ble_eq_true rfl, Nat.le_of_ble_eq_true rfl⟩ (by decide) (by decide) rfl rfl (Nat.le_of_ble_eq_true rfl) ⟨Nat.le_of_ble_eq_true rfl, Nat.le_of_ble_eq_true rfl⟩ rfl ?_
          show Sim X (YR ad) 55 [(0, .ref (ad 500)), (1, .int (nI s)), (2, .int (nI q)), (3, .long (lN (rxU q n s u))), (5, .int (nI u))] [.int (nI nu), .int (nI u)] I J A (va_up B 501 (cpR q n s (B 501) u)) 0 0
          refine S_icN_ge g (tgt := 171) (by omega) (by omega) rfl (by decide) (fun qz55 => ?_) (fun qz55 => ?_)
          · skip
            have hu9 : u = nu := by omega
            refine S_n g 1 (pc' := 172) (lv' := [(0, .ref (ad 500)), (1, .int (nI s)), (2, .int (nI q)), (3, .long (lN (rxU q n s u))), (5, .int (nI u))]) (st' := [.int (nI q)]) rfl ?_
            exact rtI rt rfl rfl (by rw [ho, hu9]; exact eqP_rf)
          · skip
            refine S_n g 1 (pc' := 59) (lv' := [(0, .ref (ad 500)), (1, .int (nI s)), (2, .int (nI q)), (3, .long (lN (rxU q n s u))), (5, .int (nI u))]) (st' := [.ref (ad 500)]) rfl ?_
            refine S_getR g (i := 500) (c := 9) (k := 0) (j := 501) (by decide) (by decide) rfl rfl rfl fl_X9_7 rfl ?_
            refine S_n g 3 (pc' := 67) (lv' := [(0, .ref (ad 500)), (1, .int (nI s)), (2, .int (nI q)), (3, .long (lN (rxU q n s u))), (5, .int (nI u))]) (st' := [.int ((nI 63) + (nI u)), .ref (ad 501)]) rfl ?_
            rw [nI_add 63 u]
            refine S_n g 1 (pc' := 68) (lv' := [(0, .ref (ad 500)), (1, .int (nI s)), (2, .int (nI q)), (3, .long (lN (rxU q n s u))), (5, .int (nI u))]) (st' := [.long (lN 0), .int (nI (63 + u)), .ref (ad 501)]) rfl ?_
            refine S_lastN g (i := 501) (e := 63 + u) (by decide) rfl (show 63 + u < 621 from by omega) (show (621 : Nat) < 2 ^ 31 from by decide) rfl ?_
            rw [up2_r1 (i := 501)]
            refine S_n g 2 (pc' := 72) (lv' := [(0, .ref (ad 500)), (1, .int (nI s)), (2, .int (nI q)), (3, .long (lN (rxU q n s u))), (5, .int (nI u)), (6, .int (nI 0))]) (st' := []) rfl ?_
            obtain ⟨x0, hx0⟩ : ∃ x0, x0 = rxU q n s u := ⟨_, rfl⟩
            rw [← hx0] at hxl ⊢
            show Sim X (YR ad) 72 [(0, .ref (ad 500)), (1, .int (nI s)), (2, .int (nI q)), (3, .long (lN (rsN q x0 0).1)), (5, .int (nI u)), (6, .int (nI 0))] [] I J A (va_up B 501 (va_up (cpR q n s (B 501) u) (63 + u) (rsN q x0 0).2)) 0 0
            have lp2 : ∀ (nn : Nat) (k : Nat), n - k = nn → (k ≤ n) → Sim X (YR ad) 72 [(0, .ref (ad 500)), (1, .int (nI s)), (2, .int (nI q)), (3, .long (lN (rsN q x0 k).1)), (5, .int (nI u)), (6, .int (nI k))] [] I J A (va_up B 501 (va_up (cpR q n s (B 501) u) (63 + u) (rsN q x0 k).2)) 0 0 := by
              intro nn
              induction nn using Nat.strongRecOn with
              | ind nn ih =>
                intro k hmz hk
                have lp2 := ih
                have hxk := rsN_lt (q := q) hxl k
                have hstep := rsN_s q x0 k
                have hfr : (va_up (cpR q n s (B 501) u) (63 + u) (rsN q x0 k).2) 0 = lN nf := by rw [va_up_ne _ _ (by omega), cpR_lo q n s (B 501) (by decide) u]; exact hF
                refine S_n g 3 (pc' := 76) (lv' := [(0, .ref (ad 500)), (1, .int (nI s)), (2, .int (nI q)), (3, .long (lN (rsN q x0 k).1)), (5, .int (nI u)), (6, .int (nI k))]) (st' := [.ref (ad 500), .int (nI q), .int (nI k)]) rfl ?_
                refine S_getR g (i := 500) (c := 9) (k := 0) (j := 501) (by decide) (by decide) rfl rfl rfl fl_X9_7 rfl ?_
                refine S_n g 1 (pc' := 80) (lv' := [(0, .ref (ad 500)), (1, .int (nI s)), (2, .int (nI q)), (3, .long (lN (rsN q x0 k).1)), (5, .int (nI u)), (6, .int (nI k))]) (st' := [.int (nI 0), .ref (ad 501), .int (nI q), .int (nI k)]) rfl ?_
                refine S_laldN g (i := 501) (e := 0) (by decide) rfl (show 0 < 621 from by omega) (show (621 : Nat) < 2 ^ 31 from by decide) rfl ?_
                show Sim X (YR ad) 81 [(0, .ref (ad 500)), (1, .int (nI s)), (2, .int (nI q)), (3, .long (lN (rsN q x0 k).1)), (5, .int (nI u)), (6, .int (nI k))] [.long ((va_up (cpR q n s (B 501) u) (63 + u) (rsN q x0 k).2) 0), .int (nI q), .int (nI k)] I J A (va_up B 501 (va_up (cpR q n s (B 501) u) (63 + u) (rsN q x0 k).2)) 0 0
                rw [hfr]
                refine S_n g 1 (pc' := 82) (lv' := [(0, .ref (ad 500)), (1, .int (nI s)), (2, .int (nI q)), (3, .long (lN (rsN q x0 k).1)), (5, .int (nI u)), (6, .int (nI k))]) (st' := [.int (lN nf).toInt32, .int (nI q), .int (nI k)]) rfl ?_
                rw [lN_i nf]
                refine S_n g 1 (pc' := 83) (lv' := [(0, .ref (ad 500)), (1, .int (nI s)), (2, .int (nI q)), (3, .long (lN (rsN q x0 k).1)), (5, .int (nI u)), (6, .int (nI k))]) (st' := [.int ((nI q) * (nI nf)), .int (nI k)]) rfl ?_
                rw [pk_mul q nf]
                refine S_icN_ge g (tgt := 165) (by omega) (by omega) rfl (by decide) (fun qz83 => ?_) (fun qz83 => ?_)
                · skip
                  have hk9 : k = n := by omega
                  refine S_n g 1 (pc' := 168) (lv' := [(0, .ref (ad 500)), (1, .int (nI s)), (2, .int (nI q)), (3, .long (lN (rsN q x0 k).1)), (5, .int ((nI u) + nI 1)), (6, .int (nI k))]) (st' := []) rfl ?_
                  rw [nI_add u 1]
                  refine S_n g 1 (pc' := 49) (lv' := [(0, .ref (ad 500)), (1, .int (nI s)), (2, .int (nI q)), (3, .long (lN (rsN q x0 k).1)), (5, .int (nI (u + 1))), (6, .int (nI k))]) (st' := []) rfl ?_
                  rw [hk9]
                  have h9 := lp (nu - (u + 1)) (by omega) (u + 1) rfl (by omega)
                  rw [rxU, cpR, ← hx0] at h9
                  refine S_keep (lv' := [(0, .ref (ad 500)), (1, .int (nI s)), (2, .int (nI q)), (3, .long (lN (rsN q x0 n).1)), (5, .int (nI (u + 1)))]) [0, 1, 2, 3, 5] rfl ?_
                  exact h9
                · skip
                  have hq0 : 0 < q := Nat.pos_of_ne_zero (fun e => by rw [e, Nat.zero_mul] at qz83; omega)
                  have hkd : k / q < nf := Nat.div_lt_of_lt_mul (by omega)
                  obtain ⟨j0, hj0, hjf⟩ := rs_free (x0 := x0) hq0 hq12 h2 (show k < q * nf by omega)
                  have hrl := rnd_lt (rsN q x0 k).1
                  refine S_n g 3 (pc' := 91) (lv' := [(0, .ref (ad 500)), (1, .int (nI s)), (2, .int (nI q)), (3, .long (lN (rsN q x0 k).1)), (5, .int (nI u)), (6, .int (nI k))]) (st' := [.int (nI q), .int (nI k), .int (nI 12)]) rfl ?_
                  refine S_idiv g (nI_z1 (by omega) (by omega)) rfl ?_
                  rw [pk_div (a := k) (d := q) (by omega) (by omega) (by omega)]
                  refine S_n g 1 (pc' := 93) (lv' := [(0, .ref (ad 500)), (1, .int (nI s)), (2, .int (nI q)), (3, .long (lN (rsN q x0 k).1)), (5, .int (nI u)), (6, .int (nI k))]) (st' := [.int ((nI 12) * (nI (k / q)))]) rfl ?_
                  rw [pk_mul 12 (k / q)]
                  refine S_n g 1 (pc' := 95) (lv' := [(0, .ref (ad 500)), (1, .int (nI s)), (2, .int (nI q)), (3, .long (lN (rsN q x0 k).1)), (5, .int (nI u)), (6, .int (nI k)), (7, .int (nI (12 * (k / q))))]) (st' := []) rfl ?_
                  refine S_ldc2 g kc_X9_105 rfl ?_
                  refine S_n g 2 (pc' := 100) (lv' := [(0, .ref (ad 500)), (1, .int (nI s)), (2, .int (nI q)), (3, .long (lN (rsN q x0 k).1)), (5, .int (nI u)), (6, .int (nI k)), (7, .int (nI (12 * (k / q))))]) (st' := [.long ((lN 48271) * (lN (rsN q x0 k).1))]) rfl ?_
                  rw [lN_mul 48271 (rsN q x0 k).1]
                  refine S_ldc2 g kc_X9_107 rfl ?_
                  refine S_lrem g (lN_z1 (by omega) (by omega)) rfl ?_
                  rw [pk_lRem (a := 48271 * (rsN q x0 k).1) (b := 2147483647) (by omega) (by omega) (by omega)]
                  refine S_n g 1 (pc' := 105) (lv' := [(0, .ref (ad 500)), (1, .int (nI s)), (2, .int (nI q)), (3, .long (lN ((48271 * (rsN q x0 k).1) % 2147483647))), (5, .int (nI u)), (6, .int (nI k)), (7, .int (nI (12 * (k / q))))]) (st' := []) rfl ?_
                  show Sim X (YR ad) 105 [(0, .ref (ad 500)), (1, .int (nI s)), (2, .int (nI q)), (3, .long (lN (rnd (rsN q x0 k).1))), (5, .int (nI u)), (6, .int (nI k)), (7, .int (nI (12 * (k / q))))] [] I J A (va_up B 501 (va_up (cpR q n s (B 501) u) (63 + u) (rsN q x0 k).2)) 0 0
                  refine S_n g 1 (pc' := 106) (lv' := [(0, .ref (ad 500)), (1, .int (nI s)), (2, .int (nI q)), (3, .long (lN (rnd (rsN q x0 k).1))), (5, .int (nI u)), (6, .int (nI k)), (7, .int (nI (12 * (k / q))))]) (st' := [.long (lN (rnd (rsN q x0 k).1))]) rfl ?_
                  refine S_ldc2 g kc_X9_109 rfl ?_
                  refine S_lrem g (lN_z1 (by omega) (by omega)) rfl ?_
                  rw [pk_lRem (a := rnd (rsN q x0 k).1) (b := 12) (by omega) (by omega) (by omega)]
                  refine S_n g 1 (pc' := 111) (lv' := [(0, .ref (ad 500)), (1, .int (nI s)), (2, .int (nI q)), (3, .long (lN (rnd (rsN q x0 k).1))), (5, .int (nI u)), (6, .int (nI k)), (7, .int (nI (12 * (k / q))))]) (st' := [.int (lN ((rnd (rsN q x0 k).1) % 12)).toInt32]) rfl ?_
                  rw [lN_i ((rnd (rsN q x0 k).1) % 12)]
                  refine S_n g 1 (pc' := 113) (lv' := [(0, .ref (ad 500)), (1, .int (nI s)), (2, .int (nI q)), (3, .long (lN (rnd (rsN q x0 k).1))), (5, .int (nI u)), (6, .int (nI k)), (7, .int (nI (12 * (k / q)))), (8, .int (nI ((rnd (rsN q x0 k).1) % 12)))]) (st' := []) rfl ?_
                  obtain ⟨c, hcc⟩ : ∃ c, c = (rsN q x0 k).2 := ⟨_, rfl⟩
                  obtain ⟨y, hy⟩ : ∃ y, y = rnd (rsN q x0 k).1 := ⟨_, rfl⟩
                  obtain ⟨a, ha⟩ : ∃ a, a = k / q := ⟨_, rfl⟩
                  rw [← hcc, ← hy, ← ha] at hstep
                  rw [← hcc, ← ha] at hjf
                  rw [← hy] at hrl
                  rw [← ha] at hkd
                  rw [← hcc, ← hy, ← ha]
                  show Sim X (YR ad) 113 [(0, .ref (ad 500)), (1, .int (nI s)), (2, .int (nI q)), (3, .long (lN y)), (5, .int (nI u)), (6, .int (nI k)), (7, .int (nI (12 * a))), (8, .int (nI (y % 12)))] [] I J A (va_up B 501 (va_up (cpR q n s (B 501) u) (63 + u) c)) 0 0
                  have lp3 : ∀ (nn : Nat) (r : Nat) (i : Nat), (j0 + 12 - r) % 12 = nn → (r < 12) → ((j0 + 12 - r) % 12 < i) → (frp c (12 * a) i r = frp c (12 * a) 12 (y % 12)) → Sim X (YR ad) 113 [(0, .ref (ad 500)), (1, .int (nI s)), (2, .int (nI q)), (3, .long (lN y)), (5, .int (nI u)), (6, .int (nI k)), (7, .int (nI (12 * a))), (8, .int (nI r))] [] I J A (va_up B 501 (va_up (cpR q n s (B 501) u) (63 + u) c)) 0 0 := by
                    intro nn
                    induction nn using Nat.strongRecOn with
                    | ind nn ih =>
                      intro r i hmz hr hi hfp
                      have lp3 := ih
                      refine S_n g 5 (pc' := 121) (lv' := [(0, .ref (ad 500)), (1, .int (nI s)), (2, .int (nI q)), (3, .long (lN y)), (5, .int (nI u)), (6, .int (nI k)), (7, .int (nI (12 * a))), (8, .int (nI r))]) (st' := [.int ((nI (12 * a)) + (nI r)), .int (nI u), .ref (ad 500)]) rfl ?_
                      rw [nI_add (12 * a) r]
                      refine S_cV g (i := 500) (As := [.int (nI u), .int (nI ((12 * a) + r))]) (st := []) (sp_has ad I J A (va_up B 501 (va_up (cpR q n s (B 501) u) (63 + u) c)) u (12 * a + r) (by omega) (by omega)) mw_X9_has lk_X9_87 ⟨Nat.le_of_ble_eq_true rfl, Nat.le_of_ble_eq_true rfl⟩ (by decide) (by decide) rfl rfl (Nat.le_of_ble_eq_true rfl) ⟨Nat.le_of_ble_eq_true rfl, Nat.le_of_ble_eq_true rfl⟩ rfl ?_
                      rw [show (va_up B 501 (va_up (cpR q n s (B 501) u) (63 + u) c) : FJ) 501 (63 + u) = c from va_up_self (cpR q n s (B 501) u) (63 + u) c]
                      show Sim X (YR ad) 124 [(0, .ref (ad 500)), (1, .int (nI s)), (2, .int (nI q)), (3, .long (lN y)), (5, .int (nI u)), (6, .int (nI k)), (7, .int (nI (12 * a))), (8, .int (nI r))] [.int (bI (tb c (12 * a + r)))] I J A (va_up B 501 (va_up (cpR q n s (B 501) u) (63 + u) c)) 0 0
                      refine S_ifB_eq g (tgt := 139) rfl (by decide) (fun qz124 => ?_) (fun qz124 => ?_)
                      · skip
                        have hr9 : r = frp c (12 * a) 12 (y % 12) := by rw [← hfp, show i = i - 1 + 1 from by omega, frp, if_neg (by rw [qz124]; decide)]
                        refine S_n g 1 (pc' := 140) (lv' := [(0, .ref (ad 500)), (1, .int (nI s)), (2, .int (nI q)), (3, .long (lN y)), (5, .int (nI u)), (6, .int (nI k)), (7, .int (nI (12 * a))), (8, .int (nI r))]) (st' := [.ref (ad 500)]) rfl ?_
                        refine S_getR g (i := 500) (c := 9) (k := 0) (j := 501) (by decide) (by decide) rfl rfl rfl fl_X9_7 rfl ?_
                        refine S_n g 3 (pc' := 148) (lv' := [(0, .ref (ad 500)), (1, .int (nI s)), (2, .int (nI q)), (3, .long (lN y)), (5, .int (nI u)), (6, .int (nI k)), (7, .int (nI (12 * a))), (8, .int (nI r))]) (st' := [.int ((nI 63) + (nI u)), .ref (ad 501)]) rfl ?_
                        rw [nI_add 63 u]
                        refine S_n g 1 (pc' := 149) (lv' := [(0, .ref (ad 500)), (1, .int (nI s)), (2, .int (nI q)), (3, .long (lN y)), (5, .int (nI u)), (6, .int (nI k)), (7, .int (nI (12 * a))), (8, .int (nI r))]) (st' := [.int (nI (63 + u)), .ref (ad 501), .int (nI (63 + u)), .ref (ad 501)]) rfl ?_
                        refine S_laldN g (i := 501) (e := 63 + u) (by decide) rfl (show 63 + u < 621 from by omega) (show (621 : Nat) < 2 ^ 31 from by decide) rfl ?_
                        show Sim X (YR ad) 150 [(0, .ref (ad 500)), (1, .int (nI s)), (2, .int (nI q)), (3, .long (lN y)), (5, .int (nI u)), (6, .int (nI k)), (7, .int (nI (12 * a))), (8, .int (nI r))] [.long ((va_up (cpR q n s (B 501) u) (63 + u) c) (63 + u)), .int (nI (63 + u)), .ref (ad 501)] I J A (va_up B 501 (va_up (cpR q n s (B 501) u) (63 + u) c)) 0 0
                        rw [va_up_self]
                        show Sim X (YR ad) 150 [(0, .ref (ad 500)), (1, .int (nI s)), (2, .int (nI q)), (3, .long (lN y)), (5, .int (nI u)), (6, .int (nI k)), (7, .int (nI (12 * a))), (8, .int (nI r))] [.long c, .int (nI (63 + u)), .ref (ad 501)] I J A (va_up B 501 (va_up (cpR q n s (B 501) u) (63 + u) c)) 0 0
                        refine S_n g 4 (pc' := 156) (lv' := [(0, .ref (ad 500)), (1, .int (nI s)), (2, .int (nI q)), (3, .long (lN y)), (5, .int (nI u)), (6, .int (nI k)), (7, .int (nI (12 * a))), (8, .int (nI r))]) (st' := [.int ((nI (12 * a)) + (nI r)), .long (lN 1), .long c, .int (nI (63 + u)), .ref (ad 501)]) rfl ?_
                        rw [nI_add (12 * a) r]
                        refine S_n g 2 (pc' := 158) (lv' := [(0, .ref (ad 500)), (1, .int (nI s)), (2, .int (nI q)), (3, .long (lN y)), (5, .int (nI u)), (6, .int (nI k)), (7, .int (nI (12 * a))), (8, .int (nI r))]) (st' := [.long (c ||| ((lN 1) <<< ((nI ((12 * a) + r)).toInt64 &&& 63))), .int (nI (63 + u)), .ref (ad 501)]) rfl ?_
                        refine S_lastN g (i := 501) (e := 63 + u) (by decide) rfl (show 63 + u < 621 from by omega) (show (621 : Nat) < 2 ^ 31 from by decide) rfl ?_
                        rw [up2_r1 (i := 501)]
                        rw [va_up1]
                        show Sim X (YR ad) 159 [(0, .ref (ad 500)), (1, .int (nI s)), (2, .int (nI q)), (3, .long (lN y)), (5, .int (nI u)), (6, .int (nI k)), (7, .int (nI (12 * a))), (8, .int (nI r))] [] I J A (va_up B 501 (va_up (cpR q n s (B 501) u) (63 + u) (c ||| b1 (12 * a + r)))) 0 0
                        refine S_n g 1 (pc' := 162) (lv' := [(0, .ref (ad 500)), (1, .int (nI s)), (2, .int (nI q)), (3, .long (lN y)), (5, .int (nI u)), (6, .int ((nI k) + nI 1)), (7, .int (nI (12 * a))), (8, .int (nI r))]) (st' := []) rfl ?_
                        rw [nI_add k 1]
                        refine S_n g 1 (pc' := 72) (lv' := [(0, .ref (ad 500)), (1, .int (nI s)), (2, .int (nI q)), (3, .long (lN y)), (5, .int (nI u)), (6, .int (nI (k + 1))), (7, .int (nI (12 * a))), (8, .int (nI r))]) (st' := []) rfl ?_
                        refine S_keep (lv' := [(0, .ref (ad 500)), (1, .int (nI s)), (2, .int (nI q)), (3, .long (lN y)), (5, .int (nI u)), (6, .int (nI (k + 1)))]) [0, 1, 2, 3, 5, 6] rfl ?_
                        have h9 := lp2 (n - (k + 1)) (by omega) (k + 1) rfl (by omega)
                        rw [hstep, ← hr9] at h9
                        exact h9
                      · skip
                        have hrj : r ≠ j0 := fun e => by rw [e] at qz124; exact absurd (qz124.symm.trans hjf) (by decide)
                        refine S_n g 3 (pc' := 131) (lv' := [(0, .ref (ad 500)), (1, .int (nI s)), (2, .int (nI q)), (3, .long (lN y)), (5, .int (nI u)), (6, .int (nI k)), (7, .int (nI (12 * a))), (8, .int (nI r))]) (st' := [.int ((nI r) + (nI 1))]) rfl ?_
                        rw [nI_add r 1]
                        refine S_n g 1 (pc' := 133) (lv' := [(0, .ref (ad 500)), (1, .int (nI s)), (2, .int (nI q)), (3, .long (lN y)), (5, .int (nI u)), (6, .int (nI k)), (7, .int (nI (12 * a))), (8, .int (nI r))]) (st' := [.int (nI 12), .int (nI (r + 1))]) rfl ?_
                        refine S_irem g (nI_z1 (by omega) (by omega)) rfl ?_
                        rw [pk_rem (a := r + 1) (d := 12) (by omega) (by omega) (by omega)]
                        refine S_n g 2 (pc' := 113) (lv' := [(0, .ref (ad 500)), (1, .int (nI s)), (2, .int (nI q)), (3, .long (lN y)), (5, .int (nI u)), (6, .int (nI k)), (7, .int (nI (12 * a))), (8, .int (nI ((r + 1) % 12)))]) (st' := []) rfl ?_
                        exact lp3 ((j0 + 12 - (r + 1) % 12) % 12) (by omega) ((r + 1) % 12) (i - 1) rfl (by omega) (by omega) (by rw [← hfp, show i = i - 1 + 1 from by omega, frp, if_pos qz124]; rfl)
                  exact lp3 _ (y % 12) 12 rfl (by omega) (by omega) rfl
            exact lp2 _ 0 rfl (Nat.zero_le _)
      have h0 := lp _ 0 rfl (by omega)
      rw [show va_up B 501 (cpR q n s (B 501) 0) = B from va_id B 501] at h0
      exact h0
    · skip
      refine S_n g 3 (pc' := 43) (lv' := [(0, .ref (ad 500)), (1, .int (nI s)), (2, .int (nI 12))]) (st' := []) rfl ?_
      refine S_lveq (lv' := [(0, .ref (ad 500)), (1, .int (nI s)), (2, .int (nI (rqN nf nc)))]) (by rw [(show nI 12 = nI (rqN nf nc) from by rw [rqN, if_pos (by omega)]).symm]) ?_
      have hq12 : rqN nf nc ≤ 12 := by unfold rqN; split <;> omega
      obtain ⟨q, hq⟩ : ∃ q, q = rqN nf nc := ⟨_, rfl⟩
      rw [← hq] at hq12 ho ⊢
      show Sim X (YR ad) 43 [(0, .ref (ad 500)), (1, .int (nI s)), (2, .int (nI q))] [] I J A B 0 0
      have hqn : q * nf ≤ 60 := Nat.mul_le_mul hq12 h2
      obtain ⟨n, hn⟩ : ∃ n, n = q * nf := ⟨_, rfl⟩
      rw [← hn] at hqn ho
      refine S_n g 2 (pc' := 45) (lv' := [(0, .ref (ad 500)), (1, .int (nI s)), (2, .int (nI q))]) (st' := [.long (nI s).toInt64]) rfl ?_
      rw [nI_l (n := s) (by omega)]
      refine S_n g 3 (pc' := 49) (lv' := [(0, .ref (ad 500)), (1, .int (nI s)), (2, .int (nI q)), (3, .long (lN s)), (5, .int (nI 0))]) (st' := []) rfl ?_
      have lp : ∀ (nn : Nat) (u : Nat), nu - u = nn → (u ≤ nu) → Sim X (YR ad) 49 [(0, .ref (ad 500)), (1, .int (nI s)), (2, .int (nI q)), (3, .long (lN (rxU q n s u))), (5, .int (nI u))] [] I J A (va_up B 501 (cpR q n s (B 501) u)) 0 0 := by
        intro nn
        induction nn using Nat.strongRecOn with
        | ind nn ih =>
          intro u hmz hu
          have lp := ih
          have hxl := rxU_lt (q := q) (n := n) (show s < 2147483647 by omega) u
          refine S_n g 2 (pc' := 52) (lv' := [(0, .ref (ad 500)), (1, .int (nI s)), (2, .int (nI q)), (3, .long (lN (rxU q n s u))), (5, .int (nI u))]) (st' := [.ref (ad 500), .int (nI u)]) rfl ?_
          refine S_cV g (i := 500) (As := []) (st := [.int (nI u)]) (sp_users ad I J A (va_up B 501 (cpR q n s (B 501) u)) nu ((cpR_lo q n s (B 501) (by decide) u).trans hU)) mw_X9_users lk_X9_71 ⟨Nat.le_of_ble_eq_true rfl, Nat.le_of_ble_eq_true rfl⟩ (by decide) (by decide) rfl rfl (Nat.le_of_ble_eq_true rfl) ⟨Nat.le_of_ble_eq_true rfl, Nat.le_of_ble_eq_true rfl⟩ rfl ?_
          show Sim X (YR ad) 55 [(0, .ref (ad 500)), (1, .int (nI s)), (2, .int (nI q)), (3, .long (lN (rxU q n s u))), (5, .int (nI u))] [.int (nI nu), .int (nI u)] I J A (va_up B 501 (cpR q n s (B 501) u)) 0 0
          refine S_icN_ge g (tgt := 171) (by omega) (by omega) rfl (by decide) (fun qz55 => ?_) (fun qz55 => ?_)
          · skip
            have hu9 : u = nu := by omega
            refine S_n g 1 (pc' := 172) (lv' := [(0, .ref (ad 500)), (1, .int (nI s)), (2, .int (nI q)), (3, .long (lN (rxU q n s u))), (5, .int (nI u))]) (st' := [.int (nI q)]) rfl ?_
            exact rtI rt rfl rfl (by rw [ho, hu9]; exact eqP_rf)
          · skip
            refine S_n g 1 (pc' := 59) (lv' := [(0, .ref (ad 500)), (1, .int (nI s)), (2, .int (nI q)), (3, .long (lN (rxU q n s u))), (5, .int (nI u))]) (st' := [.ref (ad 500)]) rfl ?_
            refine S_getR g (i := 500) (c := 9) (k := 0) (j := 501) (by decide) (by decide) rfl rfl rfl fl_X9_7 rfl ?_
            refine S_n g 3 (pc' := 67) (lv' := [(0, .ref (ad 500)), (1, .int (nI s)), (2, .int (nI q)), (3, .long (lN (rxU q n s u))), (5, .int (nI u))]) (st' := [.int ((nI 63) + (nI u)), .ref (ad 501)]) rfl ?_
            rw [nI_add 63 u]
            refine S_n g 1 (pc' := 68) (lv' := [(0, .ref (ad 500)), (1, .int (nI s)), (2, .int (nI q)), (3, .long (lN (rxU q n s u))), (5, .int (nI u))]) (st' := [.long (lN 0), .int (nI (63 + u)), .ref (ad 501)]) rfl ?_
            refine S_lastN g (i := 501) (e := 63 + u) (by decide) rfl (show 63 + u < 621 from by omega) (show (621 : Nat) < 2 ^ 31 from by decide) rfl ?_
            rw [up2_r1 (i := 501)]
            refine S_n g 2 (pc' := 72) (lv' := [(0, .ref (ad 500)), (1, .int (nI s)), (2, .int (nI q)), (3, .long (lN (rxU q n s u))), (5, .int (nI u)), (6, .int (nI 0))]) (st' := []) rfl ?_
            obtain ⟨x0, hx0⟩ : ∃ x0, x0 = rxU q n s u := ⟨_, rfl⟩
            rw [← hx0] at hxl ⊢
            show Sim X (YR ad) 72 [(0, .ref (ad 500)), (1, .int (nI s)), (2, .int (nI q)), (3, .long (lN (rsN q x0 0).1)), (5, .int (nI u)), (6, .int (nI 0))] [] I J A (va_up B 501 (va_up (cpR q n s (B 501) u) (63 + u) (rsN q x0 0).2)) 0 0
            have lp2 : ∀ (nn : Nat) (k : Nat), n - k = nn → (k ≤ n) → Sim X (YR ad) 72 [(0, .ref (ad 500)), (1, .int (nI s)), (2, .int (nI q)), (3, .long (lN (rsN q x0 k).1)), (5, .int (nI u)), (6, .int (nI k))] [] I J A (va_up B 501 (va_up (cpR q n s (B 501) u) (63 + u) (rsN q x0 k).2)) 0 0 := by
              intro nn
              induction nn using Nat.strongRecOn with
              | ind nn ih =>
                intro k hmz hk
                have lp2 := ih
                have hxk := rsN_lt (q := q) hxl k
                have hstep := rsN_s q x0 k
                have hfr : (va_up (cpR q n s (B 501) u) (63 + u) (rsN q x0 k).2) 0 = lN nf := by rw [va_up_ne _ _ (by omega), cpR_lo q n s (B 501) (by decide) u]; exact hF
                refine S_n g 3 (pc' := 76) (lv' := [(0, .ref (ad 500)), (1, .int (nI s)), (2, .int (nI q)), (3, .long (lN (rsN q x0 k).1)), (5, .int (nI u)), (6, .int (nI k))]) (st' := [.ref (ad 500), .int (nI q), .int (nI k)]) rfl ?_
                refine S_getR g (i := 500) (c := 9) (k := 0) (j := 501) (by decide) (by decide) rfl rfl rfl fl_X9_7 rfl ?_
                refine S_n g 1 (pc' := 80) (lv' := [(0, .ref (ad 500)), (1, .int (nI s)), (2, .int (nI q)), (3, .long (lN (rsN q x0 k).1)), (5, .int (nI u)), (6, .int (nI k))]) (st' := [.int (nI 0), .ref (ad 501), .int (nI q), .int (nI k)]) rfl ?_
                refine S_laldN g (i := 501) (e := 0) (by decide) rfl (show 0 < 621 from by omega) (show (621 : Nat) < 2 ^ 31 from by decide) rfl ?_
                show Sim X (YR ad) 81 [(0, .ref (ad 500)), (1, .int (nI s)), (2, .int (nI q)), (3, .long (lN (rsN q x0 k).1)), (5, .int (nI u)), (6, .int (nI k))] [.long ((va_up (cpR q n s (B 501) u) (63 + u) (rsN q x0 k).2) 0), .int (nI q), .int (nI k)] I J A (va_up B 501 (va_up (cpR q n s (B 501) u) (63 + u) (rsN q x0 k).2)) 0 0
                rw [hfr]
                refine S_n g 1 (pc' := 82) (lv' := [(0, .ref (ad 500)), (1, .int (nI s)), (2, .int (nI q)), (3, .long (lN (rsN q x0 k).1)), (5, .int (nI u)), (6, .int (nI k))]) (st' := [.int (lN nf).toInt32, .int (nI q), .int (nI k)]) rfl ?_
                rw [lN_i nf]
                refine S_n g 1 (pc' := 83) (lv' := [(0, .ref (ad 500)), (1, .int (nI s)), (2, .int (nI q)), (3, .long (lN (rsN q x0 k).1)), (5, .int (nI u)), (6, .int (nI k))]) (st' := [.int ((nI q) * (nI nf)), .int (nI k)]) rfl ?_
                rw [pk_mul q nf]
                refine S_icN_ge g (tgt := 165) (by omega) (by omega) rfl (by decide) (fun qz83 => ?_) (fun qz83 => ?_)
                · skip
                  have hk9 : k = n := by omega
                  refine S_n g 1 (pc' := 168) (lv' := [(0, .ref (ad 500)), (1, .int (nI s)), (2, .int (nI q)), (3, .long (lN (rsN q x0 k).1)), (5, .int ((nI u) + nI 1)), (6, .int (nI k))]) (st' := []) rfl ?_
                  rw [nI_add u 1]
                  refine S_n g 1 (pc' := 49) (lv' := [(0, .ref (ad 500)), (1, .int (nI s)), (2, .int (nI q)), (3, .long (lN (rsN q x0 k).1)), (5, .int (nI (u + 1))), (6, .int (nI k))]) (st' := []) rfl ?_
                  rw [hk9]
                  have h9 := lp (nu - (u + 1)) (by omega) (u + 1) rfl (by omega)
                  rw [rxU, cpR, ← hx0] at h9
                  refine S_keep (lv' := [(0, .ref (ad 500)), (1, .int (nI s)), (2, .int (nI q)), (3, .long (lN (rsN q x0 n).1)), (5, .int (nI (u + 1)))]) [0, 1, 2, 3, 5] rfl ?_
                  exact h9
                · skip
                  have hq0 : 0 < q := Nat.pos_of_ne_zero (fun e => by rw [e, Nat.zero_mul] at qz83; omega)
                  have hkd : k / q < nf := Nat.div_lt_of_lt_mul (by omega)
                  obtain ⟨j0, hj0, hjf⟩ := rs_free (x0 := x0) hq0 hq12 h2 (show k < q * nf by omega)
                  have hrl := rnd_lt (rsN q x0 k).1
                  refine S_n g 3 (pc' := 91) (lv' := [(0, .ref (ad 500)), (1, .int (nI s)), (2, .int (nI q)), (3, .long (lN (rsN q x0 k).1)), (5, .int (nI u)), (6, .int (nI k))]) (st' := [.int (nI q), .int (nI k), .int (nI 12)]) rfl ?_
                  refine S_idiv g (nI_z1 (by omega) (by omega)) rfl ?_
                  rw [pk_div (a := k) (d := q) (by omega) (by omega) (by omega)]
                  refine S_n g 1 (pc' := 93) (lv' := [(0, .ref (ad 500)), (1, .int (nI s)), (2, .int (nI q)), (3, .long (lN (rsN q x0 k).1)), (5, .int (nI u)), (6, .int (nI k))]) (st' := [.int ((nI 12) * (nI (k / q)))]) rfl ?_
                  rw [pk_mul 12 (k / q)]
                  refine S_n g 1 (pc' := 95) (lv' := [(0, .ref (ad 500)), (1, .int (nI s)), (2, .int (nI q)), (3, .long (lN (rsN q x0 k).1)), (5, .int (nI u)), (6, .int (nI k)), (7, .int (nI (12 * (k / q))))]) (st' := []) rfl ?_
                  refine S_ldc2 g kc_X9_105 rfl ?_
                  refine S_n g 2 (pc' := 100) (lv' := [(0, .ref (ad 500)), (1, .int (nI s)), (2, .int (nI q)), (3, .long (lN (rsN q x0 k).1)), (5, .int (nI u)), (6, .int (nI k)), (7, .int (nI (12 * (k / q))))]) (st' := [.long ((lN 48271) * (lN (rsN q x0 k).1))]) rfl ?_
                  rw [lN_mul 48271 (rsN q x0 k).1]
                  refine S_ldc2 g kc_X9_107 rfl ?_
                  refine S_lrem g (lN_z1 (by omega) (by omega)) rfl ?_
                  rw [pk_lRem (a := 48271 * (rsN q x0 k).1) (b := 2147483647) (by omega) (by omega) (by omega)]
                  refine S_n g 1 (pc' := 105) (lv' := [(0, .ref (ad 500)), (1, .int (nI s)), (2, .int (nI q)), (3, .long (lN ((48271 * (rsN q x0 k).1) % 2147483647))), (5, .int (nI u)), (6, .int (nI k)), (7, .int (nI (12 * (k / q))))]) (st' := []) rfl ?_
                  show Sim X (YR ad) 105 [(0, .ref (ad 500)), (1, .int (nI s)), (2, .int (nI q)), (3, .long (lN (rnd (rsN q x0 k).1))), (5, .int (nI u)), (6, .int (nI k)), (7, .int (nI (12 * (k / q))))] [] I J A (va_up B 501 (va_up (cpR q n s (B 501) u) (63 + u) (rsN q x0 k).2)) 0 0
                  refine S_n g 1 (pc' := 106) (lv' := [(0, .ref (ad 500)), (1, .int (nI s)), (2, .int (nI q)), (3, .long (lN (rnd (rsN q x0 k).1))), (5, .int (nI u)), (6, .int (nI k)), (7, .int (nI (12 * (k / q))))]) (st' := [.long (lN (rnd (rsN q x0 k).1))]) rfl ?_
                  refine S_ldc2 g kc_X9_109 rfl ?_
                  refine S_lrem g (lN_z1 (by omega) (by omega)) rfl ?_
                  rw [pk_lRem (a := rnd (rsN q x0 k).1) (b := 12) (by omega) (by omega) (by omega)]
                  refine S_n g 1 (pc' := 111) (lv' := [(0, .ref (ad 500)), (1, .int (nI s)), (2, .int (nI q)), (3, .long (lN (rnd (rsN q x0 k).1))), (5, .int (nI u)), (6, .int (nI k)), (7, .int (nI (12 * (k / q))))]) (st' := [.int (lN ((rnd (rsN q x0 k).1) % 12)).toInt32]) rfl ?_
                  rw [lN_i ((rnd (rsN q x0 k).1) % 12)]
                  refine S_n g 1 (pc' := 113) (lv' := [(0, .ref (ad 500)), (1, .int (nI s)), (2, .int (nI q)), (3, .long (lN (rnd (rsN q x0 k).1))), (5, .int (nI u)), (6, .int (nI k)), (7, .int (nI (12 * (k / q)))), (8, .int (nI ((rnd (rsN q x0 k).1) % 12)))]) (st' := []) rfl ?_
                  obtain ⟨c, hcc⟩ : ∃ c, c = (rsN q x0 k).2 := ⟨_, rfl⟩
                  obtain ⟨y, hy⟩ : ∃ y, y = rnd (rsN q x0 k).1 := ⟨_, rfl⟩
                  obtain ⟨a, ha⟩ : ∃ a, a = k / q := ⟨_, rfl⟩
                  rw [← hcc, ← hy, ← ha] at hstep
                  rw [← hcc, ← ha] at hjf
                  rw [← hy] at hrl
                  rw [← ha] at hkd
                  rw [← hcc, ← hy, ← ha]
                  show Sim X (YR ad) 113 [(0, .ref (ad 500)), (1, .int (nI s)), (2, .int (nI q)), (3, .long (lN y)), (5, .int (nI u)), (6, .int (nI k)), (7, .int (nI (12 * a))), (8, .int (nI (y % 12)))] [] I J A (va_up B 501 (va_up (cpR q n s (B 501) u) (63 + u) c)) 0 0
                  have lp3 : ∀ (nn : Nat) (r : Nat) (i : Nat), (j0 + 12 - r) % 12 = nn → (r < 12) → ((j0 + 12 - r) % 12 < i) → (frp c (12 * a) i r = frp c (12 * a) 12 (y % 12)) → Sim X (YR ad) 113 [(0, .ref (ad 500)), (1, .int (nI s)), (2, .int (nI q)), (3, .long (lN y)), (5, .int (nI u)), (6, .int (nI k)), (7, .int (nI (12 * a))), (8, .int (nI r))] [] I J A (va_up B 501 (va_up (cpR q n s (B 501) u) (63 + u) c)) 0 0 := by
                    intro nn
                    induction nn using Nat.strongRecOn with
                    | ind nn ih =>
                      intro r i hmz hr hi hfp
                      have lp3 := ih
                      refine S_n g 5 (pc' := 121) (lv' := [(0, .ref (ad 500)), (1, .int (nI s)), (2, .int (nI q)), (3, .long (lN y)), (5, .int (nI u)), (6, .int (nI k)), (7, .int (nI (12 * a))), (8, .int (nI r))]) (st' := [.int ((nI (12 * a)) + (nI r)), .int (nI u), .ref (ad 500)]) rfl ?_
                      rw [nI_add (12 * a) r]
                      refine S_cV g (i := 500) (As := [.int (nI u), .int (nI ((12 * a) + r))]) (st := []) (sp_has ad I J A (va_up B 501 (va_up (cpR q n s (B 501) u) (63 + u) c)) u (12 * a + r) (by omega) (by omega)) mw_X9_has lk_X9_87 ⟨Nat.le_of_ble_eq_true rfl, Nat.le_of_ble_eq_true rfl⟩ (by decide) (by decide) rfl rfl (Nat.le_of_ble_eq_true rfl) ⟨Nat.le_of_ble_eq_true rfl, Nat.le_of_ble_eq_true rfl⟩ rfl ?_
                      rw [show (va_up B 501 (va_up (cpR q n s (B 501) u) (63 + u) c) : FJ) 501 (63 + u) = c from va_up_self (cpR q n s (B 501) u) (63 + u) c]
                      show Sim X (YR ad) 124 [(0, .ref (ad 500)), (1, .int (nI s)), (2, .int (nI q)), (3, .long (lN y)), (5, .int (nI u)), (6, .int (nI k)), (7, .int (nI (12 * a))), (8, .int (nI r))] [.int (bI (tb c (12 * a + r)))] I J A (va_up B 501 (va_up (cpR q n s (B 501) u) (63 + u) c)) 0 0
                      refine S_ifB_eq g (tgt := 139) rfl (by decide) (fun qz124 => ?_) (fun qz124 => ?_)
                      · skip
                        have hr9 : r = frp c (12 * a) 12 (y % 12) := by rw [← hfp, show i = i - 1 + 1 from by omega, frp, if_neg (by rw [qz124]; decide)]
                        refine S_n g 1 (pc' := 140) (lv' := [(0, .ref (ad 500)), (1, .int (nI s)), (2, .int (nI q)), (3, .long (lN y)), (5, .int (nI u)), (6, .int (nI k)), (7, .int (nI (12 * a))), (8, .int (nI r))]) (st' := [.ref (ad 500)]) rfl ?_
                        refine S_getR g (i := 500) (c := 9) (k := 0) (j := 501) (by decide) (by decide) rfl rfl rfl fl_X9_7 rfl ?_
                        refine S_n g 3 (pc' := 148) (lv' := [(0, .ref (ad 500)), (1, .int (nI s)), (2, .int (nI q)), (3, .long (lN y)), (5, .int (nI u)), (6, .int (nI k)), (7, .int (nI (12 * a))), (8, .int (nI r))]) (st' := [.int ((nI 63) + (nI u)), .ref (ad 501)]) rfl ?_
                        rw [nI_add 63 u]
                        refine S_n g 1 (pc' := 149) (lv' := [(0, .ref (ad 500)), (1, .int (nI s)), (2, .int (nI q)), (3, .long (lN y)), (5, .int (nI u)), (6, .int (nI k)), (7, .int (nI (12 * a))), (8, .int (nI r))]) (st' := [.int (nI (63 + u)), .ref (ad 501), .int (nI (63 + u)), .ref (ad 501)]) rfl ?_
                        refine S_laldN g (i := 501) (e := 63 + u) (by decide) rfl (show 63 + u < 621 from by omega) (show (621 : Nat) < 2 ^ 31 from by decide) rfl ?_
                        show Sim X (YR ad) 150 [(0, .ref (ad 500)), (1, .int (nI s)), (2, .int (nI q)), (3, .long (lN y)), (5, .int (nI u)), (6, .int (nI k)), (7, .int (nI (12 * a))), (8, .int (nI r))] [.long ((va_up (cpR q n s (B 501) u) (63 + u) c) (63 + u)), .int (nI (63 + u)), .ref (ad 501)] I J A (va_up B 501 (va_up (cpR q n s (B 501) u) (63 + u) c)) 0 0
                        rw [va_up_self]
                        show Sim X (YR ad) 150 [(0, .ref (ad 500)), (1, .int (nI s)), (2, .int (nI q)), (3, .long (lN y)), (5, .int (nI u)), (6, .int (nI k)), (7, .int (nI (12 * a))), (8, .int (nI r))] [.long c, .int (nI (63 + u)), .ref (ad 501)] I J A (va_up B 501 (va_up (cpR q n s (B 501) u) (63 + u) c)) 0 0
                        refine S_n g 4 (pc' := 156) (lv' := [(0, .ref (ad 500)), (1, .int (nI s)), (2, .int (nI q)), (3, .long (lN y)), (5, .int (nI u)), (6, .int (nI k)), (7, .int (nI (12 * a))), (8, .int (nI r))]) (st' := [.int ((nI (12 * a)) + (nI r)), .long (lN 1), .long c, .int (nI (63 + u)), .ref (ad 501)]) rfl ?_
                        rw [nI_add (12 * a) r]
                        refine S_n g 2 (pc' := 158) (lv' := [(0, .ref (ad 500)), (1, .int (nI s)), (2, .int (nI q)), (3, .long (lN y)), (5, .int (nI u)), (6, .int (nI k)), (7, .int (nI (12 * a))), (8, .int (nI r))]) (st' := [.long (c ||| ((lN 1) <<< ((nI ((12 * a) + r)).toInt64 &&& 63))), .int (nI (63 + u)), .ref (ad 501)]) rfl ?_
                        refine S_lastN g (i := 501) (e := 63 + u) (by decide) rfl (show 63 + u < 621 from by omega) (show (621 : Nat) < 2 ^ 31 from by decide) rfl ?_
                        rw [up2_r1 (i := 501)]
                        rw [va_up1]
                        show Sim X (YR ad) 159 [(0, .ref (ad 500)), (1, .int (nI s)), (2, .int (nI q)), (3, .long (lN y)), (5, .int (nI u)), (6, .int (nI k)), (7, .int (nI (12 * a))), (8, .int (nI r))] [] I J A (va_up B 501 (va_up (cpR q n s (B 501) u) (63 + u) (c ||| b1 (12 * a + r)))) 0 0
                        refine S_n g 1 (pc' := 162) (lv' := [(0, .ref (ad 500)), (1, .int (nI s)), (2, .int (nI q)), (3, .long (lN y)), (5, .int (nI u)), (6, .int ((nI k) + nI 1)), (7, .int (nI (12 * a))), (8, .int (nI r))]) (st' := []) rfl ?_
                        rw [nI_add k 1]
                        refine S_n g 1 (pc' := 72) (lv' := [(0, .ref (ad 500)), (1, .int (nI s)), (2, .int (nI q)), (3, .long (lN y)), (5, .int (nI u)), (6, .int (nI (k + 1))), (7, .int (nI (12 * a))), (8, .int (nI r))]) (st' := []) rfl ?_
                        refine S_keep (lv' := [(0, .ref (ad 500)), (1, .int (nI s)), (2, .int (nI q)), (3, .long (lN y)), (5, .int (nI u)), (6, .int (nI (k + 1)))]) [0, 1, 2, 3, 5, 6] rfl ?_
                        have h9 := lp2 (n - (k + 1)) (by omega) (k + 1) rfl (by omega)
                        rw [hstep, ← hr9] at h9
                        exact h9
                      · skip
                        have hrj : r ≠ j0 := fun e => by rw [e] at qz124; exact absurd (qz124.symm.trans hjf) (by decide)
                        refine S_n g 3 (pc' := 131) (lv' := [(0, .ref (ad 500)), (1, .int (nI s)), (2, .int (nI q)), (3, .long (lN y)), (5, .int (nI u)), (6, .int (nI k)), (7, .int (nI (12 * a))), (8, .int (nI r))]) (st' := [.int ((nI r) + (nI 1))]) rfl ?_
                        rw [nI_add r 1]
                        refine S_n g 1 (pc' := 133) (lv' := [(0, .ref (ad 500)), (1, .int (nI s)), (2, .int (nI q)), (3, .long (lN y)), (5, .int (nI u)), (6, .int (nI k)), (7, .int (nI (12 * a))), (8, .int (nI r))]) (st' := [.int (nI 12), .int (nI (r + 1))]) rfl ?_
                        refine S_irem g (nI_z1 (by omega) (by omega)) rfl ?_
                        rw [pk_rem (a := r + 1) (d := 12) (by omega) (by omega) (by omega)]
                        refine S_n g 2 (pc' := 113) (lv' := [(0, .ref (ad 500)), (1, .int (nI s)), (2, .int (nI q)), (3, .long (lN y)), (5, .int (nI u)), (6, .int (nI k)), (7, .int (nI (12 * a))), (8, .int (nI ((r + 1) % 12)))]) (st' := []) rfl ?_
                        exact lp3 ((j0 + 12 - (r + 1) % 12) % 12) (by omega) ((r + 1) % 12) (i - 1) rfl (by omega) (by omega) (by rw [← hfp, show i = i - 1 + 1 from by omega, frp, if_pos qz124]; rfl)
                  exact lp3 _ (y % 12) 12 rfl (by omega) (by omega) rfl
            exact lp2 _ 0 rfl (Nat.zero_le _)
      have h0 := lp _ 0 rfl (by omega)
      rw [show va_up B 501 (cpR q n s (B 501) 0) = B from va_id B 501] at h0
      exact h0
  · skip
    refine S_n g 1 (pc' := 14) (lv' := [(0, .ref (ad 500)), (1, .int x)]) (st' := [.int (-nI 101)]) rfl ?_
    exact rtI rt rfl rfl (eq_o (by simp [o_storeRandom, qz9]) (va_id _ _).symm)
