/-! the reference, part 14: schedule -/
/-- what a call that looks at the state, or schedules, leaves as it was -/
def kpR (I : FI) (J : FJ) (A : FI) (B : FJ) (I' : FI) (J' : FJ) (A' : FI) (B' : FJ) : Prop := (I' 500 4 = I 500 4 ∧ I' 500 5 = I 500 5 ∧ I' 500 19 = I 500 19 ∧ I' 500 20 = I 500 20) ∧ J' 500 21 = J 500 21 ∧ (A' 503 = A 503 ∧ A' 504 = A 504 ∧ A' 513 = A 513) ∧ B' 502 = B 502
theorem kpR_rf (I : FI) (J : FJ) (A : FI) (B : FJ) : kpR I J A B I J A B := ⟨⟨rfl, rfl, rfl, rfl⟩, rfl, ⟨rfl, rfl, rfl⟩, rfl⟩
theorem kpR_tr {I : FI} {J : FJ} {A : FI} {B : FJ} {I' : FI} {J' : FJ} {A' : FI} {B' : FJ} {I2 : FI} {J2 : FJ} {A2 : FI} {B2 : FJ} (h : kpR I J A B I' J' A' B') (q : kpR I' J' A' B' I2 J2 A2 B2) : kpR I J A B I2 J2 A2 B2 := by
  obtain ⟨⟨a1, a2, a3, a4⟩, b, ⟨c1, c2, c3⟩, d⟩ := h
  obtain ⟨⟨a1', a2', a3', a4'⟩, b', ⟨c1', c2', c3'⟩, d'⟩ := q
  exact ⟨⟨a1'.trans a1, a2'.trans a2, a3'.trans a3, a4'.trans a4⟩, b'.trans b, ⟨c1'.trans c1, c2'.trans c2, c3'.trans c3⟩, d'.trans d⟩
theorem kpR_scr {I : FI} {J : FJ} {A : FI} {B : FJ} {I' : FI} {J' : FJ} {B' : FJ} (h : scr I J B I' J' B') : kpR I J A B I' J' A B' := by
  obtain ⟨r, t, f, l, q, rfl, rfl, rfl⟩ := h
  exact ⟨⟨rfl, rfl, rfl, rfl⟩, rfl, ⟨rfl, rfl, rfl⟩, rfl⟩
theorem scr_501 {I : FI} {J B : FJ} {I' : FI} {J' B' : FJ} (h : scr I J B I' J' B') : B' 501 = B 501 := by
  obtain ⟨r, t, f, l, q, rfl, rfl, rfl⟩ := h
  rfl
theorem scr_509 {I : FI} {J B : FJ} {I' : FI} {J' B' : FJ} (h : scr I J B I' J' B') : B' 509 = B 509 := by
  obtain ⟨r, t, f, l, q, rfl, rfl, rfl⟩ := h
  rfl
/-- what each user lacks of the file that it wants -/
def lkF (m : Nat → Int64) (ln : Nat → Nat) (u : Nat) : Int64 := msF m u (ln u)
theorem plC_cong {lk lk' : Nat → Int64} (all p : Nat) : ∀ u, (∀ v, v < u → lk v = lk' v) → plC lk all p u = plC lk' all p u
  | 0, _ => rfl
  | u + 1, h => by unfold plC; rw [plC_cong all p u (fun v hv => h v (by omega)), h u (by omega)]
theorem plL_cong {lk lk' : Nat → Int64} {nu : Nat} (all : Nat) (h : ∀ v, v < nu → lk v = lk' v) : ∀ p, plL lk all nu p = plL lk' all nu p
  | 0 => rfl
  | p + 1 => by unfold plL; rw [plL_cong all h p, plC_cong all p nu h]
theorem lmt_k {m lk lk' : Nat → Int64} {all nu u T : Nat} (h : lk u = lk' u) (p : Nat) : lmt m lk all nu u T p = lmt m lk' all nu u T p := by unfold lmt; rw [h]
theorem lct_k {m lk lk' : Nat → Int64} {all nu u T : Nat} (h : lk u = lk' u) : ∀ p, lct m lk all nu u T p = lct m lk' all nu u T p
  | 0 => rfl
  | p + 1 => by unfold lct; rw [lct_k h p, lmt_k h p]
theorem lsF_k {m lk lk' : Nat → Int64} {all nu u T i : Nat} (h : lk u = lk' u) : ∀ p, lsF m lk all nu u T i p = lsF m lk' all nu u T i p
  | 0 => rfl
  | p + 1 => by unfold lsF; rw [lsF_k h p, lmt_k h p, lct_k h p]
theorem smT_k {m lk lk' : Nat → Int64} {all nf nu T i : Nat} : ∀ u, (∀ v, v < u → lk v = lk' v) → smT m lk all nf nu T i u = smT m lk' all nf nu T i u
  | 0, _ => rfl
  | u + 1, h => by unfold smT; rw [smT_k u (fun v hv => h v (by omega)), lsF_k (h u (by omega))]
theorem mrT_k {m lk lk' : Nat → Int64} {all nf nu T : Nat} (h : ∀ v, v < nu → lk v = lk' v) : ∀ i, mrT m lk all nf nu T i = mrT m lk' all nf nu T i
  | 0 => rfl
  | i + 1 => by unfold mrT; rw [mrT_k h i, smT_k nu h]
theorem sbL_k {m lk lk' : Nat → Int64} {all nf nu T : Nat} (h : ∀ v, v < nu → lk v = lk' v) : ∀ i, sbL m lk all nf nu T i = sbL m lk' all nf nu T i
  | 0 => rfl
  | i + 1 => by unfold sbL; rw [sbL_k h i, smT_k nu h, mrT_k h]
theorem siL_k {m lk lk' : Nat → Int64} {all ld nf nu z : Nat} (h : ∀ v, v < nu → lk v = lk' v) : ∀ s, siL m lk all ld nf nu z s = siL m lk' all ld nf nu z s
  | 0 => rfl
  | s + 1 => by unfold siL; rw [siL_k h s, sbL_k h]
theorem soL_k {m lk lk' : Nat → Int64} {all ld nf nu : Nat} (h : ∀ v, v < nu → lk v = lk' v) : ∀ k, soL m lk all ld nf nu k = soL m lk' all ld nf nu k
  | 0 => rfl
  | k + 1 => by unfold soL; rw [soL_k h k, siL_k h]
theorem pgP_k {lk lk' : Nat → Int64} {u : Nat} (h : lk u = lk' u) : ∀ p, pgP lk u p = pgP lk' u p
  | 0 => rfl
  | p + 1 => by unfold pgP; rw [pgP_k h p, h]
theorem pgU_k {lk lk' : Nat → Int64} {np : Nat} : ∀ u, (∀ v, v < u → lk v = lk' v) → pgU lk np u = pgU lk' np u
  | 0, _ => rfl
  | u + 1, h => by unfold pgU; rw [pgU_k u (fun v hv => h v (by omega)), pgP_k (h u (by omega))]
/-- the sums that method w queues -/
def schL (nf nu : Nat) (ln : Nat → Nat) (m : Nat → Int64) : Nat → List Int64
  | 0 => plL (lkF m ln) (dmN m nu) nu (12 * nf)
  | 1 => soL m (lkF m ln) (dmN m nu) (dmN m nu) nf nu nu
  | 2 => soL m (lkF m ln) (dmN m nu) (ldN m (dmN m nu) nu) nf nu nu
  | _ => (gdS m nu (pgU (lkF m ln) (12 * nf) nu) (pgU (lkF m ln) (12 * nf) nu).length).1
def o_schedule (nf nu : Nat) (ln : Nat → Nat) (m : Nat → Int64) (x : Int32) : Int32 × (Nat → Int64) :=
  if isIx x 4 = true then (nI (schL nf nu ln m (ix x)).length, qL m (schL nf nu ln m (ix x))) else (-nI 101, m)

theorem fsV_cong {m m' : Nat → Int64} (h : ∀ v, v < 6 → m (69 + v) = m' (69 + v)) (all : Nat) {u : Nat} (hu : u < 6) : ∀ v, v ≤ 6 → fsV m all u v = fsV m' all u v
  | 0, _ => rfl
  | v + 1, hv => by unfold fsV; rw [fsV_cong h all hu v (by omega), h v (by omega), h u hu]
theorem ldN_cong {m m' : Nat → Int64} (h : ∀ v, v < 6 → m (69 + v) = m' (69 + v)) (all : Nat) : ∀ u, u ≤ 6 → ldN m all u = ldN m' all u
  | 0, _ => rfl
  | u + 1, hu => by unfold ldN; rw [ldN_cong h all u (by omega), fsV_cong h all (by omega) u (by omega)]
theorem lk_s {r f : Nat → Int64} {u : Nat} (h : ∀ v, v < u → r v = f v) : ∀ v, v < u + 1 → va_up r u (f u) v = f v := by
  intro v hv
  by_cases e : v = u
  · subst e; rw [va_up_self]
  · rw [va_up_ne _ _ e]; exact h v (by omega)
set_option maxRecDepth 100000 in
set_option maxHeartbeats 4000000 in
theorem sp_schedule (ad : Nat → Nat) (I : FI) (J : FJ) (A : FI) (B : FJ) (x : Int32) (m0 : Nat → Int64) (hm0 : B 501 = m0) (nf nu nc : Nat) (hm : Dm m0 nf nu nc) (ln : Nat → Nat) (hLs : ∀ u, u < 6 → m0 (81 + u) = lN (ln u)) (hls : ∀ u, u < 6 → ln u ≤ 40) (hWs : ∀ u, u < 6 → okW m0 u nf) (hbd : ∀ ld k s, ld < 64 → k < nu → s ≤ 2 ^ nu → (soL m0 (lkF m0 ln) (dmN m0 nu) ld nf nu k ++ siL m0 (lkF m0 ln) (dmN m0 nu) ld nf nu (nu - k) s).length ≤ 88) (hc : ∀ u, u < nu → (pgP (lkF m0 ln) u (12 * nf)).length ≤ 12) : Spec M_X9_schedule [.ref (ad 500), .int x] (YR ad) I J A B (fun v' Y' I' J' A' B' => v' = some (.int (o_schedule nf nu ln m0 x).1) ∧ Y' = YR ad ∧ B' 501 = (o_schedule nf nu ln m0 x).2 ∧ kpR I J A B I' J' A' B') := by
  obtain ⟨hF, hU, hC, h1, h2, h3, h4, h5⟩ := hm
  have hal := dmN_lt m0 nu h4
  refine Spec_of (by decide) tk_X9_schedule (Nat.le_of_ble_eq_true rfl) (fun X g rt => ?_)
  show Sim X (YR ad) 0 [(0, .ref (ad 500)), (1, .int x)] [] I J A B 0 0
  refine S_n g 3 (pc' := 3) (lv' := [(0, .ref (ad 500)), (1, .int x)]) (st' := [.long (lN 0), .long x.toInt64]) rfl ?_
  refine S_ldc2 g kc_X9_203 rfl ?_
  refine S_cS g (As := [.long x.toInt64, .long (lN 0), .long (lN 3)]) (st := []) (sp_in (YR ad) I J A B x.toInt64 (lN 0) (lN 3)) mw_X9_in lk_X9_63 ⟨Nat.le_of_ble_eq_true rfl, Nat.le_of_ble_eq_true rfl⟩ rfl (Nat.le_of_ble_eq_true rfl) ⟨Nat.le_of_ble_eq_true rfl, Nat.le_of_ble_eq_true rfl⟩ rfl ?_
  show Sim X (YR ad) 9 [(0, .ref (ad 500)), (1, .int x)] [.int (bI (inL x.toInt64 (lN 0) (lN 3)))] I J A B 0 0
  refine S_steq (st' := [.int (bI (isIx x 4))]) (by rw [(show bI (inL x.toInt64 (lN 0) (lN 3)) = bI (isIx x 4) from by rw [in_ix2 (by decide)]).symm]) ?_
  refine S_ifB_ne g (tgt := 15) rfl (by decide) (fun qz9 => ?_) (fun qz9 => ?_)
  · skip
    obtain ⟨k, hk, hxk⟩ := isIx_t qz9
    subst hxk
    have hck : (nI k).toNatClampNeg = k := nI_clamp (by omega)
    have ho : o_schedule nf nu ln m0 (nI k) = (nI (schL nf nu ln m0 k).length, qL m0 (schL nf nu ln m0 k)) := by unfold o_schedule; rw [if_pos qz9, show ix (nI k) = k from hck]
    refine S_n g 1 (pc' := 16) (lv' := [(0, .ref (ad 500)), (1, .int (nI k))]) (st' := [.ref (ad 500)]) rfl ?_
    refine S_cV g (i := 500) (As := []) (st := []) (sp_demanding ad I J A B nu (by rw [hm0]; exact hU) h4) mw_X9_demanding lk_X9_176 ⟨Nat.le_of_ble_eq_true rfl, Nat.le_of_ble_eq_true rfl⟩ (by decide) (by decide) rfl rfl (Nat.le_of_ble_eq_true rfl) ⟨Nat.le_of_ble_eq_true rfl, Nat.le_of_ble_eq_true rfl⟩ rfl ?_
    rw [hm0]
    show Sim X (YR ad) 19 [(0, .ref (ad 500)), (1, .int (nI k))] [.int (nI (dmN m0 nu))] I J A B 0 0
    refine S_n g 3 (pc' := 22) (lv' := [(0, .ref (ad 500)), (1, .int (nI k)), (2, .int (nI (dmN m0 nu))), (3, .int (nI 0))]) (st' := []) rfl ?_
    have lp : ∀ (nn : Nat) (u : Nat) (I2 : FI) (J2 : FJ) (B2 : FJ), nu - u = nn → (u ≤ nu) → (B2 501 = m0) → (∀ v, v < u → B2 509 v = lkF m0 ln v) → (kpR I J A B I2 J2 A B2) → Sim X (YR ad) 22 [(0, .ref (ad 500)), (1, .int (nI k)), (2, .int (nI (dmN m0 nu))), (3, .int (nI u))] [] I2 J2 A B2 0 0 := by
      intro nn
      induction nn using Nat.strongRecOn with
      | ind nn ih =>
        intro u I2 J2 B2 hmz hu hb1 hlk hkp
        have lp := ih
        refine S_n g 2 (pc' := 24) (lv' := [(0, .ref (ad 500)), (1, .int (nI k)), (2, .int (nI (dmN m0 nu))), (3, .int (nI u))]) (st' := [.ref (ad 500), .int (nI u)]) rfl ?_
        refine S_cV g (i := 500) (As := []) (st := [.int (nI u)]) (sp_users ad I2 J2 A B2 nu (by rw [hb1]; exact hU)) mw_X9_users lk_X9_71 ⟨Nat.le_of_ble_eq_true rfl, Nat.le_of_ble_eq_true rfl⟩ (by decide) (by decide) rfl rfl (Nat.le_of_ble_eq_true rfl) ⟨Nat.le_of_ble_eq_true rfl, Nat.le_of_ble_eq_true rfl⟩ rfl ?_
        show Sim X (YR ad) 27 [(0, .ref (ad 500)), (1, .int (nI k)), (2, .int (nI (dmN m0 nu))), (3, .int (nI u))] [.int (nI nu), .int (nI u)] I2 J2 A B2 0 0
        refine S_icN_ge g (tgt := 47) (by omega) (by omega) rfl (by decide) (fun qz27 => ?_) (fun qz27 => ?_)
        · skip
          have hu9 : u = nu := by omega
          have hlk9 : ∀ v, v < nu → B2 509 v = lkF m0 ln v := fun v hv => hlk v (by omega)
          refine S_n g 1 (pc' := 48) (lv' := [(0, .ref (ad 500)), (1, .int (nI k)), (2, .int (nI (dmN m0 nu))), (3, .int (nI u))]) (st' := [.ref (ad 500)]) rfl ?_
          refine S_getR g (i := 500) (c := 9) (k := 0) (j := 501) (by decide) (by decide) rfl rfl rfl fl_X9_7 rfl ?_
          refine S_n g 2 (pc' := 55) (lv' := [(0, .ref (ad 500)), (1, .int (nI k)), (2, .int (nI (dmN m0 nu))), (3, .int (nI u))]) (st' := [.long (lN 0), .int (nI 327), .ref (ad 501)]) rfl ?_
          refine S_lastN g (i := 501) (e := 327) (by decide) rfl (show 327 < 621 from by omega) (show (621 : Nat) < 2 ^ 31 from by decide) rfl ?_
          show Sim X (YR ad) 56 [(0, .ref (ad 500)), (1, .int (nI k)), (2, .int (nI (dmN m0 nu))), (3, .int (nI u))] [] I2 J2 A (va_up B2 501 (va_up (B2 501) 327 (lN 0))) 0 0
          rw [hb1]
          show Sim X (YR ad) 56 [(0, .ref (ad 500)), (1, .int (nI k)), (2, .int (nI (dmN m0 nu))), (3, .int (nI u))] [] I2 J2 A (va_up B2 501 (qL m0 [])) 0 0
          refine S_n g 1 (pc' := 57) (lv' := [(0, .ref (ad 500)), (1, .int (nI k)), (2, .int (nI (dmN m0 nu))), (3, .int (nI u))]) (st' := [.int (nI k)]) rfl ?_
          refine S_ifN_ne g (tgt := 68) (by omega) rfl (by decide) (fun qz57 => ?_) (fun qz57 => ?_)
          · skip
            refine S_n g 2 (pc' := 70) (lv' := [(0, .ref (ad 500)), (1, .int (nI k)), (2, .int (nI (dmN m0 nu))), (3, .int (nI u))]) (st' := [.int (nI 3), .int (nI k)]) rfl ?_
            refine S_icN_ne g (tgt := 80) (by omega) (by omega) rfl (by decide) (fun qz70 => ?_) (fun qz70 => ?_)
            · skip
              refine S_n g 4 (pc' := 84) (lv' := [(0, .ref (ad 500)), (1, .int (nI k)), (2, .int (nI (dmN m0 nu))), (3, .int (nI u))]) (st' := [.int (nI 1), .int (nI k), .int (nI (dmN m0 nu)), .ref (ad 500)]) rfl ?_
              refine S_icN_ne g (tgt := 91) (by omega) (by omega) rfl (by decide) (fun qz84 => ?_) (fun qz84 => ?_)
              · skip
                refine S_n g 2 (pc' := 93) (lv' := [(0, .ref (ad 500)), (1, .int (nI k)), (2, .int (nI (dmN m0 nu))), (3, .int (nI u))]) (st' := [.int (nI (dmN m0 nu)), .ref (ad 500), .int (nI (dmN m0 nu)), .ref (ad 500)]) rfl ?_
                refine S_cV g (i := 500) (As := [.int (nI (dmN m0 nu))]) (st := [.int (nI (dmN m0 nu)), .ref (ad 500)]) (sp_leaders ad I2 J2 A (va_up B2 501 (qL m0 [])) (dmN m0 nu) nu ((qL_lo m0 (by decide) (by decide)).trans hU) h4) mw_X9_leaders lk_X9_211 ⟨Nat.le_of_ble_eq_true rfl, Nat.le_of_ble_eq_true rfl⟩ (by decide) (by decide) rfl rfl (Nat.le_of_ble_eq_true rfl) ⟨Nat.le_of_ble_eq_true rfl, Nat.le_of_ble_eq_true rfl⟩ rfl ?_
                rw [show ldN ((va_up B2 501 (qL m0 [])) 501) (dmN m0 nu) nu = ldN m0 (dmN m0 nu) nu from ldN_cong (fun v hv => qL_lo m0 (by decide) (by omega)) (dmN m0 nu) nu h4]
                show Sim X (YR ad) 96 [(0, .ref (ad 500)), (1, .int (nI k)), (2, .int (nI (dmN m0 nu))), (3, .int (nI u))] [.int (nI (ldN m0 (dmN m0 nu) nu)), .int (nI (dmN m0 nu)), .ref (ad 500)] I2 J2 A (va_up B2 501 (qL m0 [])) 0 0
                refine S_cV g (i := 500) (As := [.int (nI (dmN m0 nu)), .int (nI (ldN m0 (dmN m0 nu) nu))]) (st := []) (sp_subsets ad I2 J2 A B2 m0 (dmN m0 nu) (ldN m0 (dmN m0 nu) nu) nf nu hF hU h2 h4 hal (ldN_lt m0 (dmN m0 nu) nu h4) (fun k s hk hs => by rw [soL_k hlk9, siL_k hlk9]; exact hbd (ldN m0 (dmN m0 nu) nu) k s (ldN_lt m0 (dmN m0 nu) nu h4) hk hs)) mw_X9_subsets lk_X9_214 ⟨Nat.le_of_ble_eq_true rfl, Nat.le_of_ble_eq_true rfl⟩ (by decide) (by decide) rfl rfl (Nat.le_of_ble_eq_true rfl) ⟨Nat.le_of_ble_eq_true rfl, Nat.le_of_ble_eq_true rfl⟩ rfl ?_
                rw [soL_k hlk9]
                show Sim X (YR ad) 99 [(0, .ref (ad 500)), (1, .int (nI k)), (2, .int (nI (dmN m0 nu))), (3, .int (nI u))] [] I2 J2 A (va_up B2 501 (qL m0 (soL m0 (lkF m0 ln) (dmN m0 nu) (ldN m0 (dmN m0 nu) nu) nf nu nu))) 0 0
                skip
                refine S_n g 1 (pc' := 100) (lv' := [(0, .ref (ad 500)), (1, .int (nI k)), (2, .int (nI (dmN m0 nu))), (3, .int (nI u))]) (st' := [.ref (ad 500)]) rfl ?_
                refine S_getR g (i := 500) (c := 9) (k := 0) (j := 501) (by decide) (by decide) rfl rfl rfl fl_X9_7 rfl ?_
                refine S_n g 1 (pc' := 106) (lv' := [(0, .ref (ad 500)), (1, .int (nI k)), (2, .int (nI (dmN m0 nu))), (3, .int (nI u))]) (st' := [.int (nI 327), .ref (ad 501)]) rfl ?_
                refine S_laldN g (i := 501) (e := 327) (by decide) rfl (show 327 < 621 from by omega) (show (621 : Nat) < 2 ^ 31 from by decide) rfl ?_
                show Sim X (YR ad) 107 [(0, .ref (ad 500)), (1, .int (nI k)), (2, .int (nI (dmN m0 nu))), (3, .int (nI u))] [.long ((qL m0 (soL m0 (lkF m0 ln) (dmN m0 nu) (ldN m0 (dmN m0 nu) nu) nf nu nu)) 327)] I2 J2 A (va_up B2 501 (qL m0 (soL m0 (lkF m0 ln) (dmN m0 nu) (ldN m0 (dmN m0 nu) nu) nf nu nu))) 0 0
                refine S_n g 1 (pc' := 108) (lv' := [(0, .ref (ad 500)), (1, .int (nI k)), (2, .int (nI (dmN m0 nu))), (3, .int (nI u))]) (st' := [.int ((qL m0 (soL m0 (lkF m0 ln) (dmN m0 nu) (ldN m0 (dmN m0 nu) nu) nf nu nu)) 327).toInt32]) rfl ?_
                exact rtI rt rfl rfl (⟨by rw [ho, show k = 2 from by omega, qL_327, lN_i]; rfl, rfl, by rw [ho, show k = 2 from by omega]; rfl, kpR_tr hkp ⟨⟨rfl, rfl, rfl, rfl⟩, rfl, ⟨rfl, rfl, rfl⟩, rfl⟩⟩)
              · skip
                refine S_n g 2 (pc' := 96) (lv' := [(0, .ref (ad 500)), (1, .int (nI k)), (2, .int (nI (dmN m0 nu))), (3, .int (nI u))]) (st' := [.int (nI (dmN m0 nu)), .int (nI (dmN m0 nu)), .ref (ad 500)]) rfl ?_
                refine S_cV g (i := 500) (As := [.int (nI (dmN m0 nu)), .int (nI (dmN m0 nu))]) (st := []) (sp_subsets ad I2 J2 A B2 m0 (dmN m0 nu) (dmN m0 nu) nf nu hF hU h2 h4 hal hal (fun k s hk hs => by rw [soL_k hlk9, siL_k hlk9]; exact hbd (dmN m0 nu) k s hal hk hs)) mw_X9_subsets lk_X9_214 ⟨Nat.le_of_ble_eq_true rfl, Nat.le_of_ble_eq_true rfl⟩ (by decide) (by decide) rfl rfl (Nat.le_of_ble_eq_true rfl) ⟨Nat.le_of_ble_eq_true rfl, Nat.le_of_ble_eq_true rfl⟩ rfl ?_
                rw [soL_k hlk9]
                show Sim X (YR ad) 99 [(0, .ref (ad 500)), (1, .int (nI k)), (2, .int (nI (dmN m0 nu))), (3, .int (nI u))] [] I2 J2 A (va_up B2 501 (qL m0 (soL m0 (lkF m0 ln) (dmN m0 nu) (dmN m0 nu) nf nu nu))) 0 0
                skip
                refine S_n g 1 (pc' := 100) (lv' := [(0, .ref (ad 500)), (1, .int (nI k)), (2, .int (nI (dmN m0 nu))), (3, .int (nI u))]) (st' := [.ref (ad 500)]) rfl ?_
                refine S_getR g (i := 500) (c := 9) (k := 0) (j := 501) (by decide) (by decide) rfl rfl rfl fl_X9_7 rfl ?_
                refine S_n g 1 (pc' := 106) (lv' := [(0, .ref (ad 500)), (1, .int (nI k)), (2, .int (nI (dmN m0 nu))), (3, .int (nI u))]) (st' := [.int (nI 327), .ref (ad 501)]) rfl ?_
                refine S_laldN g (i := 501) (e := 327) (by decide) rfl (show 327 < 621 from by omega) (show (621 : Nat) < 2 ^ 31 from by decide) rfl ?_
                show Sim X (YR ad) 107 [(0, .ref (ad 500)), (1, .int (nI k)), (2, .int (nI (dmN m0 nu))), (3, .int (nI u))] [.long ((qL m0 (soL m0 (lkF m0 ln) (dmN m0 nu) (dmN m0 nu) nf nu nu)) 327)] I2 J2 A (va_up B2 501 (qL m0 (soL m0 (lkF m0 ln) (dmN m0 nu) (dmN m0 nu) nf nu nu))) 0 0
                refine S_n g 1 (pc' := 108) (lv' := [(0, .ref (ad 500)), (1, .int (nI k)), (2, .int (nI (dmN m0 nu))), (3, .int (nI u))]) (st' := [.int ((qL m0 (soL m0 (lkF m0 ln) (dmN m0 nu) (dmN m0 nu) nf nu nu)) 327).toInt32]) rfl ?_
                exact rtI rt rfl rfl (⟨by rw [ho, show k = 1 from by omega, qL_327, lN_i]; rfl, rfl, by rw [ho, show k = 1 from by omega]; rfl, kpR_tr hkp ⟨⟨rfl, rfl, rfl, rfl⟩, rfl, ⟨rfl, rfl, rfl⟩, rfl⟩⟩)
            · skip
              refine S_n g 1 (pc' := 74) (lv' := [(0, .ref (ad 500)), (1, .int (nI k)), (2, .int (nI (dmN m0 nu))), (3, .int (nI u))]) (st' := [.ref (ad 500)]) rfl ?_
              refine S_callV g (i := 500) (As := []) (st := []) (sp_greedy ad I2 J2 A B2 m0 nf nu hF hU h2 h4 (fun u hu => by rw [pgP_k (hlk9 u hu)]; exact hc u hu)) mw_X9_greedy lk_X9_208 ⟨Nat.le_of_ble_eq_true rfl, Nat.le_of_ble_eq_true rfl⟩ (by decide) (by decide) rfl rfl (Nat.le_of_ble_eq_true rfl) ⟨Nat.le_of_ble_eq_true rfl, Nat.le_of_ble_eq_true rfl⟩ rfl (fun v' Y' I' J' A' B' hpo => ?_)
              obtain ⟨rfl, rfl, hqI, hqJ, hqB, z1, z2, z3, hqA⟩ := hpo
              rw [pgU_k nu hlk9] at hqI hqB
              rw [hqI, hqJ, hqB, hqA]
              show Sim X (YR ad) 77 [(0, .ref (ad 500)), (1, .int (nI k)), (2, .int (nI (dmN m0 nu))), (3, .int (nI u))] [] (up2 I2 500 16 (nI (pgU (lkF m0 ln) (12 * nf) nu).length)) J2 (va_up (va_up (va_up A 510 z1) 511 z2) 512 z3) (va_up B2 501 (qL m0 ((gdS m0 nu (pgU (lkF m0 ln) (12 * nf) nu) (pgU (lkF m0 ln) (12 * nf) nu).length).1))) 0 0
              refine S_n g 2 (pc' := 100) (lv' := [(0, .ref (ad 500)), (1, .int (nI k)), (2, .int (nI (dmN m0 nu))), (3, .int (nI u))]) (st' := [.ref (ad 500)]) rfl ?_
              refine S_getR g (i := 500) (c := 9) (k := 0) (j := 501) (by decide) (by decide) rfl rfl rfl fl_X9_7 rfl ?_
              refine S_n g 1 (pc' := 106) (lv' := [(0, .ref (ad 500)), (1, .int (nI k)), (2, .int (nI (dmN m0 nu))), (3, .int (nI u))]) (st' := [.int (nI 327), .ref (ad 501)]) rfl ?_
              refine S_laldN g (i := 501) (e := 327) (by decide) rfl (show 327 < 621 from by omega) (show (621 : Nat) < 2 ^ 31 from by decide) rfl ?_
              show Sim X (YR ad) 107 [(0, .ref (ad 500)), (1, .int (nI k)), (2, .int (nI (dmN m0 nu))), (3, .int (nI u))] [.long ((qL m0 ((gdS m0 nu (pgU (lkF m0 ln) (12 * nf) nu) (pgU (lkF m0 ln) (12 * nf) nu).length).1)) 327)] (up2 I2 500 16 (nI (pgU (lkF m0 ln) (12 * nf) nu).length)) J2 (va_up (va_up (va_up A 510 z1) 511 z2) 512 z3) (va_up B2 501 (qL m0 ((gdS m0 nu (pgU (lkF m0 ln) (12 * nf) nu) (pgU (lkF m0 ln) (12 * nf) nu).length).1))) 0 0
              refine S_n g 1 (pc' := 108) (lv' := [(0, .ref (ad 500)), (1, .int (nI k)), (2, .int (nI (dmN m0 nu))), (3, .int (nI u))]) (st' := [.int ((qL m0 ((gdS m0 nu (pgU (lkF m0 ln) (12 * nf) nu) (pgU (lkF m0 ln) (12 * nf) nu).length).1)) 327).toInt32]) rfl ?_
              exact rtI rt rfl rfl (⟨by rw [ho, show k = 3 from by omega, qL_327, lN_i]; rfl, rfl, by rw [ho, show k = 3 from by omega]; rfl, kpR_tr hkp ⟨⟨rfl, rfl, rfl, rfl⟩, rfl, ⟨rfl, rfl, rfl⟩, rfl⟩⟩)
          · skip
            refine S_n g 2 (pc' := 62) (lv' := [(0, .ref (ad 500)), (1, .int (nI k)), (2, .int (nI (dmN m0 nu))), (3, .int (nI u))]) (st' := [.int (nI (dmN m0 nu)), .ref (ad 500)]) rfl ?_
            refine S_cV g (i := 500) (As := [.int (nI (dmN m0 nu))]) (st := []) (sp_plain ad I2 J2 A B2 m0 (dmN m0 nu) nf nu hF hU h2 h4 hal) mw_X9_plain lk_X9_205 ⟨Nat.le_of_ble_eq_true rfl, Nat.le_of_ble_eq_true rfl⟩ (by decide) (by decide) rfl rfl (Nat.le_of_ble_eq_true rfl) ⟨Nat.le_of_ble_eq_true rfl, Nat.le_of_ble_eq_true rfl⟩ rfl ?_
            rw [plL_cong (dmN m0 nu) hlk9]
            show Sim X (YR ad) 65 [(0, .ref (ad 500)), (1, .int (nI k)), (2, .int (nI (dmN m0 nu))), (3, .int (nI u))] [] I2 J2 A (va_up B2 501 (qL m0 (plL (lkF m0 ln) (dmN m0 nu) nu (12 * nf)))) 0 0
            refine S_n g 2 (pc' := 100) (lv' := [(0, .ref (ad 500)), (1, .int (nI k)), (2, .int (nI (dmN m0 nu))), (3, .int (nI u))]) (st' := [.ref (ad 500)]) rfl ?_
            refine S_getR g (i := 500) (c := 9) (k := 0) (j := 501) (by decide) (by decide) rfl rfl rfl fl_X9_7 rfl ?_
            refine S_n g 1 (pc' := 106) (lv' := [(0, .ref (ad 500)), (1, .int (nI k)), (2, .int (nI (dmN m0 nu))), (3, .int (nI u))]) (st' := [.int (nI 327), .ref (ad 501)]) rfl ?_
            refine S_laldN g (i := 501) (e := 327) (by decide) rfl (show 327 < 621 from by omega) (show (621 : Nat) < 2 ^ 31 from by decide) rfl ?_
            show Sim X (YR ad) 107 [(0, .ref (ad 500)), (1, .int (nI k)), (2, .int (nI (dmN m0 nu))), (3, .int (nI u))] [.long ((qL m0 (plL (lkF m0 ln) (dmN m0 nu) nu (12 * nf))) 327)] I2 J2 A (va_up B2 501 (qL m0 (plL (lkF m0 ln) (dmN m0 nu) nu (12 * nf)))) 0 0
            refine S_n g 1 (pc' := 108) (lv' := [(0, .ref (ad 500)), (1, .int (nI k)), (2, .int (nI (dmN m0 nu))), (3, .int (nI u))]) (st' := [.int ((qL m0 (plL (lkF m0 ln) (dmN m0 nu) nu (12 * nf))) 327).toInt32]) rfl ?_
            exact rtI rt rfl rfl (⟨by rw [ho, show k = 0 from by omega, qL_327, lN_i]; rfl, rfl, by rw [ho, show k = 0 from by omega]; rfl, kpR_tr hkp ⟨⟨rfl, rfl, rfl, rfl⟩, rfl, ⟨rfl, rfl, rfl⟩, rfl⟩⟩)
        · skip
          refine S_n g 1 (pc' := 31) (lv' := [(0, .ref (ad 500)), (1, .int (nI k)), (2, .int (nI (dmN m0 nu))), (3, .int (nI u))]) (st' := [.ref (ad 500)]) rfl ?_
          refine S_getR g (i := 500) (c := 9) (k := 13) (j := 509) (by decide) (by decide) rfl rfl rfl fl_X9_40 rfl ?_
          refine S_n g 3 (pc' := 37) (lv' := [(0, .ref (ad 500)), (1, .int (nI k)), (2, .int (nI (dmN m0 nu))), (3, .int (nI u))]) (st' := [.int (nI u), .ref (ad 500), .int (nI u), .ref (ad 509)]) rfl ?_
          refine S_callV g (i := 500) (As := [.int (nI u)]) (st := [.int (nI u), .ref (ad 509)]) (sp_missing ad I2 J2 A B2 u (ln u) nf (by omega) (by rw [hb1]; exact hLs u (by omega)) (hls u (by omega)) h2 (by rw [hb1]; exact hWs u (by omega))) mw_X9_missing lk_X9_172 ⟨Nat.le_of_ble_eq_true rfl, Nat.le_of_ble_eq_true rfl⟩ (by decide) (by decide) rfl rfl (Nat.le_of_ble_eq_true rfl) ⟨Nat.le_of_ble_eq_true rfl, Nat.le_of_ble_eq_true rfl⟩ rfl (fun v' Y' I3 J3 A' B3 hpo => ?_)
          obtain ⟨rfl, rfl, hqA, hsc⟩ := hpo
          rw [hqA, hb1]
          show Sim X (YR ad) 40 [(0, .ref (ad 500)), (1, .int (nI k)), (2, .int (nI (dmN m0 nu))), (3, .int (nI u))] [.long (msF m0 u (ln u)), .int (nI u), .ref (ad 509)] I3 J3 A B3 0 0
          refine S_lastN g (i := 509) (e := u) (by decide) rfl (show u < 6 from by omega) (show (6 : Nat) < 2 ^ 31 from by decide) rfl ?_
          show Sim X (YR ad) 41 [(0, .ref (ad 500)), (1, .int (nI k)), (2, .int (nI (dmN m0 nu))), (3, .int (nI u))] [] I3 J3 A (va_up B3 509 (va_up (B3 509) u (msF m0 u (ln u)))) 0 0
          refine S_n g 1 (pc' := 44) (lv' := [(0, .ref (ad 500)), (1, .int (nI k)), (2, .int (nI (dmN m0 nu))), (3, .int ((nI u) + nI 1))]) (st' := []) rfl ?_
          rw [nI_add u 1]
          refine S_n g 1 (pc' := 22) (lv' := [(0, .ref (ad 500)), (1, .int (nI k)), (2, .int (nI (dmN m0 nu))), (3, .int (nI (u + 1)))]) (st' := []) rfl ?_
          have h5x := scr_501 hsc
          have h9x := scr_509 hsc
          exact lp (nu - (u + 1)) (by omega) (u + 1) I3 J3 (va_up B3 509 (va_up (B3 509) u (msF m0 u (ln u)))) rfl (by omega) (h5x.trans hb1) (by rw [va_up_self, h9x]; exact lk_s hlk) (kpR_tr hkp (kpR_tr (kpR_scr hsc) ⟨⟨rfl, rfl, rfl, rfl⟩, rfl, ⟨rfl, rfl, rfl⟩, rfl⟩))
    exact lp _ 0 I J B rfl (by omega) hm0 (fun v hv => absurd hv (Nat.not_lt_zero v)) (kpR_rf I J A B)
  · skip
    refine S_n g 1 (pc' := 14) (lv' := [(0, .ref (ad 500)), (1, .int x)]) (st' := [.int (-nI 101)]) rfl ?_
    exact rtI rt rfl rfl (⟨by simp [o_schedule, qz9], rfl, by simp [o_schedule, qz9, hm0], kpR_rf I J A B⟩)
