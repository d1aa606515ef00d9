/-! the reference, part 2: what each call does to the row m, and that it does so -/
abbrev ix (x : Int32) : Nat := x.toNatClampNeg
theorem eq_o {Y : PS} {I : FI} {J : FJ} {A : FI} {B B' : FJ} {r : Int32 × (Nat → Int64)} {x : Int32} {m' : Nat → Int64} (h : r = (x, m')) (hB : B' = va_up B 501 m') : eqP (some (.int r.1)) Y I J A (va_up B 501 r.2) (some (.int x)) Y I J A B' := by
  subst h
  subst hB
  exact eqP_rf
theorem eq_i {Y : PS} {I : FI} {J : FJ} {A : FI} {B : FJ} {r x : Int32} (h : r = x) : eqP (some (.int r)) Y I J A B (some (.int x)) Y I J A B := by
  subst h
  exact eqP_rf
theorem eq_l {Y : PS} {I : FI} {J : FJ} {A : FI} {B : FJ} {r x : Int64} (h : r = x) : eqP (some (.long r)) Y I J A B (some (.long x)) Y I J A B := by
  subst h
  exact eqP_rf
def o_setContent (nf hn : Nat) (m : Nat → Int64) (x y : Int32) : Int32 × (Nat → Int64) :=
  if isIx x (12 * nf) = true then (if isIx y 256 = true then (if 0 < hn then (-nI 102, m) else ((m (3 + ix x)).toInt32, va_up m (3 + ix x) (lN (ix y)))) else (-nI 101, m)) else (-nI 101, m)
def o_store (nf nu nc : Nat) (m : Nat → Int64) (x y : Int32) : Int32 × (Nat → Int64) :=
  if isIx x nu = true then (if isIx y (12 * nf) = true then (if tb (m (63 + ix x)) (ix y) = true then (-nI 102, m) else if nc ≤ ctb (m (63 + ix x)) 60 then (-nI 103, m) else (nI (ctb (m (63 + ix x) ||| b1 (ix y)) 60), va_up m (63 + ix x) (m (63 + ix x) ||| b1 (ix y)))) else (-nI 101, m)) else (-nI 101, m)
def o_drop (nf nu : Nat) (m : Nat → Int64) (x y : Int32) : Int32 × (Nat → Int64) :=
  if isIx x nu = true then (if isIx y (12 * nf) = true then (if tb (m (63 + ix x)) (ix y) = true then (nI (ctb (m (63 + ix x) &&& (b1 (ix y) ^^^ -lN 1)) 60), va_up m (63 + ix x) (m (63 + ix x) &&& (b1 (ix y) ^^^ -lN 1))) else (-nI 102, m)) else (-nI 101, m)) else (-nI 101, m)
def o_cached (nf nu : Nat) (m : Nat → Int64) (x y : Int32) : Int32 :=
  if isIx x nu = true then (if isIx y (12 * nf) = true then bI (tb (m (63 + ix x)) (ix y)) else -nI 101) else -nI 101
def o_want (nf nu : Nat) (m : Nat → Int64) (x y : Int32) : Int32 × (Nat → Int64) :=
  if isIx x nu = true then (if y = -nI 1 ∨ isIx y nf = true then ((m (69 + ix x)).toInt32, va_up m (69 + ix x) y.toInt64) else (-nI 101, m)) else (-nI 101, m)
/-- the users that are present, as a set, of the first k -/
def preS (m : Nat → Int64) : Nat → Int32
  | 0 => nI 0
  | k + 1 => preS m k ||| (if m (75 + k) = lN 1 then i1 k else nI 0)
def o_comes (nu : Nat) (m : Nat → Int64) (x : Int32) (b : Bool) : Int32 × (Nat → Int64) :=
  if isIx x nu = true then (if m (75 + ix x) = lN b.toNat then (-nI 102, m) else (nI (ctb (preS (va_up m (75 + ix x) (lN b.toNat)) nu).toInt64 60), va_up m (75 + ix x) (lN b.toNat))) else (-nI 101, m)
def o_queues (qn : Nat) (m : Nat → Int64) (s : Int64) : Int32 × (Nat → Int64) := (nI (qn + 1), va_up (va_up m (328 + qn) s) 327 (lN (qn + 1)))
def o_sum (nf qn : Nat) (m : Nat → Int64) (s : Int64) : Int32 × (Nat → Int64) :=
  if s ≤ lN 0 ∨ s >>> ((nI (12 * nf)).toInt64 &&& 63) ≠ lN 0 then (-nI 101, m) else if qn = 100 then (-nI 103, m) else o_queues qn m s
def o_resend (qn hn : Nat) (m : Nat → Int64) (x : Int32) : Int32 × (Nat → Int64) :=
  if isIx x hn = true then (if qn = 100 then (-nI 103, m) else o_queues qn m (m (429 + ix x))) else (-nI 101, m)
def o_at (o n : Nat) (m : Nat → Int64) (x : Int32) : Int64 := if isIx x n = true then m (o + ix x) else lN 0
theorem in_ix {x : Int32} {n : Nat} (h : n < 2 ^ 31) : inL x.toInt64 (lN 0) (lN n - lN 1) = isIx x n := by
  unfold inL isIx
  have e : (lN n - lN 1).toInt = (n : Int) - 1 := by
    cases n with
    | zero => decide
    | succ k => rw [lN_sub (by omega), pk_lT (by omega)]; omega
  simp only [Int64.le_iff_toInt_le, Int32.toInt_toInt64, pk_lT (show 0 < 2 ^ 63 by decide), e]
  congr 1
  apply propext
  omega
theorem in_ix2 {x : Int32} {n : Nat} (h : n < 2 ^ 31) : inL x.toInt64 (lN 0) (lN n) = isIx x (n + 1) := by
  unfold inL isIx
  simp only [Int64.le_iff_toInt_le, Int32.toInt_toInt64, pk_lT (show 0 < 2 ^ 63 by decide), pk_lT (show n < 2 ^ 63 by omega)]
  congr 1
  apply propext
  omega

set_option maxRecDepth 100000 in
set_option maxHeartbeats 4000000 in
theorem sp_setContent (ad : Nat → Nat) (I : FI) (J : FJ) (A : FI) (B : FJ) (x y : Int32) (nf hn : Nat) (hF : B 501 0 = lN nf) (h1 : 1 ≤ nf) (h2 : nf ≤ 5) (hH : B 501 428 = lN hn) (h3 : hn ≤ 100) : Spec M_X9_setContent [.ref (ad 500), .int x, .int y] (YR ad) I J A B (eqP (some (.int (o_setContent nf hn (B 501) x y).1)) (YR ad) I J A (va_up B 501 (o_setContent nf hn (B 501) x y).2)) := by
  refine Spec_of (by decide) tk_X9_setContent (Nat.le_of_ble_eq_true rfl) (fun X g rt => ?_)
  show Sim X (YR ad) 0 [(0, .ref (ad 500)), (1, .int x), (2, .int y)] [] I J A B 0 0
  refine S_n g 2 (pc' := 2) (lv' := [(0, .ref (ad 500)), (1, .int x), (2, .int y)]) (st' := [.int x, .ref (ad 500)]) rfl ?_
  refine S_cV g (i := 500) (As := [.int x]) (st := []) (sp_isPiece ad I J A B x nf hF (by omega) (by omega)) mw_X9_isPiece lk_X9_78 ⟨Nat.le_of_ble_eq_true rfl, Nat.le_of_ble_eq_true rfl⟩ (by decide) (by decide) rfl rfl (Nat.le_of_ble_eq_true rfl) ⟨Nat.le_of_ble_eq_true rfl, Nat.le_of_ble_eq_true rfl⟩ rfl ?_
  show Sim X (YR ad) 5 [(0, .ref (ad 500)), (1, .int x), (2, .int y)] [.int (bI (isIx x (12 * nf)))] I J A B 0 0
  refine S_ifB_eq g (tgt := 20) rfl (by decide) (fun qz5 => ?_) (fun qz5 => ?_)
  · skip
    refine S_n g 1 (pc' := 22) (lv' := [(0, .ref (ad 500)), (1, .int x), (2, .int y)]) (st' := [.int (-nI 101)]) rfl ?_
    exact rtI rt rfl rfl (eq_o (by simp [o_setContent, qz5]) (va_id _ _).symm)
  · skip
    refine S_n g 3 (pc' := 11) (lv' := [(0, .ref (ad 500)), (1, .int x), (2, .int y)]) (st' := [.long (lN 0), .long y.toInt64]) rfl ?_
    refine S_ldc2 g kc_X9_82 rfl ?_
    refine S_cS g (As := [.long y.toInt64, .long (lN 0), .long (lN 255)]) (st := []) (sp_in (YR ad) I J A B y.toInt64 (lN 0) (lN 255)) mw_X9_in lk_X9_63 ⟨Nat.le_of_ble_eq_true rfl, Nat.le_of_ble_eq_true rfl⟩ rfl (Nat.le_of_ble_eq_true rfl) ⟨Nat.le_of_ble_eq_true rfl, Nat.le_of_ble_eq_true rfl⟩ rfl ?_
    show Sim X (YR ad) 17 [(0, .ref (ad 500)), (1, .int x), (2, .int y)] [.int (bI (inL y.toInt64 (lN 0) (lN 255)))] I J A B 0 0
    refine S_steq (st' := [.int (bI (isIx y 256))]) (by rw [(show bI (inL y.toInt64 (lN 0) (lN 255)) = bI (isIx y 256) from by rw [in_ix2 (by decide)]).symm]) ?_
    refine S_ifB_ne g (tgt := 23) rfl (by decide) (fun qz17 => ?_) (fun qz17 => ?_)
    · skip
      obtain ⟨p, hp, hxp⟩ := isIx_t qz5
      subst hxp
      have hcp : (nI p).toNatClampNeg = p := nI_clamp (by omega)
      obtain ⟨v, hv, hxv⟩ := isIx_t qz17
      subst hxv
      have hcv : (nI v).toNatClampNeg = v := nI_clamp (by omega)
      refine S_n g 1 (pc' := 24) (lv' := [(0, .ref (ad 500)), (1, .int (nI p)), (2, .int (nI v))]) (st' := [.ref (ad 500)]) rfl ?_
      refine S_getR g (i := 500) (c := 9) (k := 0) (j := 501) (by decide) (by decide) rfl rfl rfl fl_X9_7 rfl ?_
      refine S_n g 1 (pc' := 30) (lv' := [(0, .ref (ad 500)), (1, .int (nI p)), (2, .int (nI v))]) (st' := [.int (nI 428), .ref (ad 501)]) rfl ?_
      refine S_laldN g (i := 501) (e := 428) (by decide) rfl (show 428 < 621 from by omega) (show (621 : Nat) < 2 ^ 31 from by decide) rfl ?_
      rw [hH]
      refine S_n g 1 (pc' := 32) (lv' := [(0, .ref (ad 500)), (1, .int (nI p)), (2, .int (nI v))]) (st' := [.long (lN 0), .long (lN hn)]) rfl ?_
      refine S_lcN_le g (tgt := 39) (by omega) (by omega) rfl rfl (by decide) (fun qz32 => ?_) (fun qz32 => ?_)
      · skip
        refine S_n g 1 (pc' := 40) (lv' := [(0, .ref (ad 500)), (1, .int (nI p)), (2, .int (nI v))]) (st' := [.ref (ad 500)]) rfl ?_
        refine S_getR g (i := 500) (c := 9) (k := 0) (j := 501) (by decide) (by decide) rfl rfl rfl fl_X9_7 rfl ?_
        refine S_n g 3 (pc' := 46) (lv' := [(0, .ref (ad 500)), (1, .int (nI p)), (2, .int (nI v))]) (st' := [.int ((nI 3) + (nI p)), .ref (ad 501)]) rfl ?_
        rw [nI_add 3 p]
        refine S_laldN g (i := 501) (e := 3 + p) (by decide) rfl (show 3 + p < 621 from by omega) (show (621 : Nat) < 2 ^ 31 from by decide) rfl ?_
        refine S_n g 3 (pc' := 50) (lv' := [(0, .ref (ad 500)), (1, .int (nI p)), (2, .int (nI v)), (3, .int (B 501 (3 + p)).toInt32)]) (st' := [.ref (ad 500)]) rfl ?_
        refine S_getR g (i := 500) (c := 9) (k := 0) (j := 501) (by decide) (by decide) rfl rfl rfl fl_X9_7 rfl ?_
        refine S_n g 3 (pc' := 56) (lv' := [(0, .ref (ad 500)), (1, .int (nI p)), (2, .int (nI v)), (3, .int (B 501 (3 + p)).toInt32)]) (st' := [.int ((nI 3) + (nI p)), .ref (ad 501)]) rfl ?_
        rw [nI_add 3 p]
        refine S_n g 2 (pc' := 58) (lv' := [(0, .ref (ad 500)), (1, .int (nI p)), (2, .int (nI v)), (3, .int (B 501 (3 + p)).toInt32)]) (st' := [.long (nI v).toInt64, .int (nI (3 + p)), .ref (ad 501)]) rfl ?_
        rw [nI_l (n := v) (by omega)]
        refine S_lastN g (i := 501) (e := 3 + p) (by decide) rfl (show 3 + p < 621 from by omega) (show (621 : Nat) < 2 ^ 31 from by decide) rfl ?_
        show Sim X (YR ad) 59 [(0, .ref (ad 500)), (1, .int (nI p)), (2, .int (nI v)), (3, .int (B 501 (3 + p)).toInt32)] [] I J A (va_up B 501 (va_up (B 501) (3 + p) (lN v))) 0 0
        refine S_n g 1 (pc' := 60) (lv' := [(0, .ref (ad 500)), (1, .int (nI p)), (2, .int (nI v)), (3, .int (B 501 (3 + p)).toInt32)]) (st' := [.int (B 501 (3 + p)).toInt32]) rfl ?_
        exact rtI rt rfl rfl (eq_o (by simp [o_setContent, qz5, qz17, hcp, hcv, show ¬ 0 < hn from by omega]) rfl)
      · skip
        refine S_n g 1 (pc' := 38) (lv' := [(0, .ref (ad 500)), (1, .int (nI p)), (2, .int (nI v))]) (st' := [.int (-nI 102)]) rfl ?_
        exact rtI rt rfl rfl (eq_o (by simp [o_setContent, qz5, qz17, show 0 < hn from by omega]) (va_id _ _).symm)
    · skip
      refine S_n g 1 (pc' := 22) (lv' := [(0, .ref (ad 500)), (1, .int x), (2, .int y)]) (st' := [.int (-nI 101)]) rfl ?_
      exact rtI rt rfl rfl (eq_o (by simp [o_setContent, qz5, qz17]) (va_id _ _).symm)

theorem ctb_le (s : Int64) : ∀ k, ctb s k ≤ k
  | 0 => Nat.le_refl 0
  | k + 1 => by
    have := ctb_le s k
    have := Bool.toNat_le (tb s k)
    unfold ctb
    omega
set_option maxRecDepth 100000 in
set_option maxHeartbeats 4000000 in
theorem sp_store (ad : Nat → Nat) (I : FI) (J : FJ) (A : FI) (B : FJ) (x y : Int32) (nf nu nc : Nat) (hm : Dm (B 501) nf nu nc) : Spec M_X9_store [.ref (ad 500), .int x, .int y] (YR ad) I J A B (eqP (some (.int (o_store nf nu nc (B 501) x y).1)) (YR ad) I J A (va_up B 501 (o_store nf nu nc (B 501) x y).2)) := by
  obtain ⟨hF, hU, hC, h1, h2, h3, h4, h5⟩ := hm
  refine Spec_of (by decide) tk_X9_store (Nat.le_of_ble_eq_true rfl) (fun X g rt => ?_)
  show Sim X (YR ad) 0 [(0, .ref (ad 500)), (1, .int x), (2, .int y)] [] I J A B 0 0
  refine S_n g 2 (pc' := 2) (lv' := [(0, .ref (ad 500)), (1, .int x), (2, .int y)]) (st' := [.int x, .ref (ad 500)]) rfl ?_
  refine S_cV g (i := 500) (As := [.int x]) (st := []) (sp_isUser ad I J A B x nu hU (by omega) (by omega)) mw_X9_isUser lk_X9_84 ⟨Nat.le_of_ble_eq_true rfl, Nat.le_of_ble_eq_true rfl⟩ (by decide) (by decide) rfl rfl (Nat.le_of_ble_eq_true rfl) ⟨Nat.le_of_ble_eq_true rfl, Nat.le_of_ble_eq_true rfl⟩ rfl ?_
  show Sim X (YR ad) 5 [(0, .ref (ad 500)), (1, .int x), (2, .int y)] [.int (bI (isIx x nu))] I J A B 0 0
  refine S_ifB_eq g (tgt := 16) rfl (by decide) (fun qz5 => ?_) (fun qz5 => ?_)
  · skip
    refine S_n g 1 (pc' := 18) (lv' := [(0, .ref (ad 500)), (1, .int x), (2, .int y)]) (st' := [.int (-nI 101)]) rfl ?_
    exact rtI rt rfl rfl (eq_o (by simp [o_store, qz5]) (va_id _ _).symm)
  · skip
    refine S_n g 2 (pc' := 10) (lv' := [(0, .ref (ad 500)), (1, .int x), (2, .int y)]) (st' := [.int y, .ref (ad 500)]) rfl ?_
    refine S_cV g (i := 500) (As := [.int y]) (st := []) (sp_isPiece ad I J A B y nf hF (by omega) (by omega)) mw_X9_isPiece lk_X9_78 ⟨Nat.le_of_ble_eq_true rfl, Nat.le_of_ble_eq_true rfl⟩ (by decide) (by decide) rfl rfl (Nat.le_of_ble_eq_true rfl) ⟨Nat.le_of_ble_eq_true rfl, Nat.le_of_ble_eq_true rfl⟩ rfl ?_
    show Sim X (YR ad) 13 [(0, .ref (ad 500)), (1, .int x), (2, .int y)] [.int (bI (isIx y (12 * nf)))] I J A B 0 0
    refine S_ifB_ne g (tgt := 19) rfl (by decide) (fun qz13 => ?_) (fun qz13 => ?_)
    · skip
      obtain ⟨u, hu, hxu⟩ := isIx_t qz5
      subst hxu
      have hcu : (nI u).toNatClampNeg = u := nI_clamp (by omega)
      obtain ⟨p, hp, hxp⟩ := isIx_t qz13
      subst hxp
      have hcp : (nI p).toNatClampNeg = p := nI_clamp (by omega)
      refine S_n g 3 (pc' := 22) (lv' := [(0, .ref (ad 500)), (1, .int (nI u)), (2, .int (nI p))]) (st' := [.int (nI p), .int (nI u), .ref (ad 500)]) rfl ?_
      refine S_cV g (i := 500) (As := [.int (nI u), .int (nI p)]) (st := []) (sp_has ad I J A B u p (by omega) (by omega)) mw_X9_has lk_X9_87 ⟨Nat.le_of_ble_eq_true rfl, Nat.le_of_ble_eq_true rfl⟩ (by decide) (by decide) rfl rfl (Nat.le_of_ble_eq_true rfl) ⟨Nat.le_of_ble_eq_true rfl, Nat.le_of_ble_eq_true rfl⟩ rfl ?_
      show Sim X (YR ad) 25 [(0, .ref (ad 500)), (1, .int (nI u)), (2, .int (nI p))] [.int (bI (tb (B 501 (63 + u)) p))] I J A B 0 0
      refine S_ifB_eq g (tgt := 31) rfl (by decide) (fun qz25 => ?_) (fun qz25 => ?_)
      · skip
        refine S_n g 1 (pc' := 32) (lv' := [(0, .ref (ad 500)), (1, .int (nI u)), (2, .int (nI p))]) (st' := [.ref (ad 500)]) rfl ?_
        refine S_getR g (i := 500) (c := 9) (k := 0) (j := 501) (by decide) (by decide) rfl rfl rfl fl_X9_7 rfl ?_
        refine S_n g 3 (pc' := 39) (lv' := [(0, .ref (ad 500)), (1, .int (nI u)), (2, .int (nI p))]) (st' := [.int ((nI 63) + (nI u)), .ref (ad 501)]) rfl ?_
        rw [nI_add 63 u]
        refine S_laldN g (i := 501) (e := 63 + u) (by decide) rfl (show 63 + u < 621 from by omega) (show (621 : Nat) < 2 ^ 31 from by decide) rfl ?_
        refine S_cS g (As := [.long (B 501 (63 + u))]) (st := []) (sp_many (YR ad) I J A B (B 501 (63 + u))) mw_X9_many lk_X9_91 ⟨Nat.le_of_ble_eq_true rfl, Nat.le_of_ble_eq_true rfl⟩ rfl (Nat.le_of_ble_eq_true rfl) ⟨Nat.le_of_ble_eq_true rfl, Nat.le_of_ble_eq_true rfl⟩ rfl ?_
        show Sim X (YR ad) 43 [(0, .ref (ad 500)), (1, .int (nI u)), (2, .int (nI p))] [.int (nI (ctb (B 501 (63 + u)) 60))] I J A B 0 0
        have hct : ctb (B 501 (63 + u)) 60 ≤ 60 := ctb_le _ _
        refine S_n g 1 (pc' := 44) (lv' := [(0, .ref (ad 500)), (1, .int (nI u)), (2, .int (nI p))]) (st' := [.long (nI (ctb (B 501 (63 + u)) 60)).toInt64]) rfl ?_
        rw [nI_l (n := ctb (B 501 (63 + u)) 60) (by omega)]
        refine S_n g 1 (pc' := 45) (lv' := [(0, .ref (ad 500)), (1, .int (nI u)), (2, .int (nI p))]) (st' := [.ref (ad 500), .long (lN (ctb (B 501 (63 + u)) 60))]) rfl ?_
        refine S_getR g (i := 500) (c := 9) (k := 0) (j := 501) (by decide) (by decide) rfl rfl rfl fl_X9_7 rfl ?_
        refine S_n g 1 (pc' := 49) (lv' := [(0, .ref (ad 500)), (1, .int (nI u)), (2, .int (nI p))]) (st' := [.int (nI 2), .ref (ad 501), .long (lN (ctb (B 501 (63 + u)) 60))]) rfl ?_
        refine S_laldN g (i := 501) (e := 2) (by decide) rfl (show 2 < 621 from by omega) (show (621 : Nat) < 2 ^ 31 from by decide) rfl ?_
        rw [hC]
        refine S_lcN_lt g (tgt := 57) (by omega) (by omega) rfl rfl (by decide) (fun qz50 => ?_) (fun qz50 => ?_)
        · skip
          refine S_n g 1 (pc' := 58) (lv' := [(0, .ref (ad 500)), (1, .int (nI u)), (2, .int (nI p))]) (st' := [.ref (ad 500)]) rfl ?_
          refine S_getR g (i := 500) (c := 9) (k := 0) (j := 501) (by decide) (by decide) rfl rfl rfl fl_X9_7 rfl ?_
          refine S_n g 3 (pc' := 65) (lv' := [(0, .ref (ad 500)), (1, .int (nI u)), (2, .int (nI p))]) (st' := [.int ((nI 63) + (nI u)), .ref (ad 501)]) rfl ?_
          rw [nI_add 63 u]
          refine S_n g 1 (pc' := 66) (lv' := [(0, .ref (ad 500)), (1, .int (nI u)), (2, .int (nI p))]) (st' := [.int (nI (63 + u)), .ref (ad 501), .int (nI (63 + u)), .ref (ad 501)]) rfl ?_
          refine S_laldN g (i := 501) (e := 63 + u) (by decide) rfl (show 63 + u < 621 from by omega) (show (621 : Nat) < 2 ^ 31 from by decide) rfl ?_
          refine S_n g 4 (pc' := 71) (lv' := [(0, .ref (ad 500)), (1, .int (nI u)), (2, .int (nI p))]) (st' := [.long ((B 501 (63 + u)) ||| ((lN 1) <<< ((nI p).toInt64 &&& 63))), .int (nI (63 + u)), .ref (ad 501)]) rfl ?_
          refine S_lastN g (i := 501) (e := 63 + u) (by decide) rfl (show 63 + u < 621 from by omega) (show (621 : Nat) < 2 ^ 31 from by decide) rfl ?_
          show Sim X (YR ad) 72 [(0, .ref (ad 500)), (1, .int (nI u)), (2, .int (nI p))] [] I J A (va_up B 501 (va_up (B 501) (63 + u) ((B 501 (63 + u)) ||| ((lN 1) <<< ((nI p).toInt64 &&& 63))))) 0 0
          refine S_n g 1 (pc' := 73) (lv' := [(0, .ref (ad 500)), (1, .int (nI u)), (2, .int (nI p))]) (st' := [.ref (ad 500)]) rfl ?_
          refine S_getR g (i := 500) (c := 9) (k := 0) (j := 501) (by decide) (by decide) rfl rfl rfl fl_X9_7 rfl ?_
          refine S_n g 3 (pc' := 80) (lv' := [(0, .ref (ad 500)), (1, .int (nI u)), (2, .int (nI p))]) (st' := [.int ((nI 63) + (nI u)), .ref (ad 501)]) rfl ?_
          rw [nI_add 63 u]
          refine S_laldN g (i := 501) (e := 63 + u) (by decide) rfl (show 63 + u < 621 from by omega) (show (621 : Nat) < 2 ^ 31 from by decide) rfl ?_
          show Sim X (YR ad) 81 [(0, .ref (ad 500)), (1, .int (nI u)), (2, .int (nI p))] [.long ((va_up (B 501) (63 + u) ((B 501 (63 + u)) ||| ((lN 1) <<< ((nI p).toInt64 &&& 63)))) (63 + u))] I J A (va_up B 501 (va_up (B 501) (63 + u) ((B 501 (63 + u)) ||| ((lN 1) <<< ((nI p).toInt64 &&& 63))))) 0 0
          rw [va_up_self]
          refine S_cS g (As := [.long ((B 501 (63 + u)) ||| ((lN 1) <<< ((nI p).toInt64 &&& 63)))]) (st := []) (sp_many (YR ad) I J A (va_up B 501 (va_up (B 501) (63 + u) ((B 501 (63 + u)) ||| ((lN 1) <<< ((nI p).toInt64 &&& 63))))) ((B 501 (63 + u)) ||| ((lN 1) <<< ((nI p).toInt64 &&& 63)))) mw_X9_many lk_X9_91 ⟨Nat.le_of_ble_eq_true rfl, Nat.le_of_ble_eq_true rfl⟩ rfl (Nat.le_of_ble_eq_true rfl) ⟨Nat.le_of_ble_eq_true rfl, Nat.le_of_ble_eq_true rfl⟩ rfl ?_
          show Sim X (YR ad) 84 [(0, .ref (ad 500)), (1, .int (nI u)), (2, .int (nI p))] [.int (nI (ctb ((B 501 (63 + u)) ||| ((lN 1) <<< ((nI p).toInt64 &&& 63))) 60))] I J A (va_up B 501 (va_up (B 501) (63 + u) ((B 501 (63 + u)) ||| ((lN 1) <<< ((nI p).toInt64 &&& 63))))) 0 0
          exact rtI rt rfl rfl (eq_o (by simp [o_store, qz5, qz13, hcu, hcp, qz25, show ¬ nc ≤ ctb (B 501 (63 + u)) 60 from by omega]) rfl)
        · skip
          refine S_n g 1 (pc' := 56) (lv' := [(0, .ref (ad 500)), (1, .int (nI u)), (2, .int (nI p))]) (st' := [.int (-nI 103)]) rfl ?_
          exact rtI rt rfl rfl (eq_o (by simp [o_store, qz5, qz13, hcu, hcp, qz25, show nc ≤ ctb (B 501 (63 + u)) 60 from by omega]) (va_id _ _).symm)
      · skip
        refine S_n g 1 (pc' := 30) (lv' := [(0, .ref (ad 500)), (1, .int (nI u)), (2, .int (nI p))]) (st' := [.int (-nI 102)]) rfl ?_
        exact rtI rt rfl rfl (eq_o (by simp [o_store, qz5, qz13, hcu, hcp, qz25]) (va_id _ _).symm)
    · skip
      refine S_n g 1 (pc' := 18) (lv' := [(0, .ref (ad 500)), (1, .int x), (2, .int y)]) (st' := [.int (-nI 101)]) rfl ?_
      exact rtI rt rfl rfl (eq_o (by simp [o_store, qz5, qz13]) (va_id _ _).symm)

set_option maxRecDepth 100000 in
set_option maxHeartbeats 4000000 in
theorem sp_drop (ad : Nat → Nat) (I : FI) (J : FJ) (A : FI) (B : FJ) (x y : Int32) (nf nu nc : Nat) (hm : Dm (B 501) nf nu nc) : Spec M_X9_drop [.ref (ad 500), .int x, .int y] (YR ad) I J A B (eqP (some (.int (o_drop nf nu (B 501) x y).1)) (YR ad) I J A (va_up B 501 (o_drop nf nu (B 501) x y).2)) := by
  obtain ⟨hF, hU, hC, h1, h2, h3, h4, h5⟩ := hm
  refine Spec_of (by decide) tk_X9_drop (Nat.le_of_ble_eq_true rfl) (fun X g rt => ?_)
  show Sim X (YR ad) 0 [(0, .ref (ad 500)), (1, .int x), (2, .int y)] [] I J A B 0 0
  refine S_n g 2 (pc' := 2) (lv' := [(0, .ref (ad 500)), (1, .int x), (2, .int y)]) (st' := [.int x, .ref (ad 500)]) rfl ?_
  refine S_cV g (i := 500) (As := [.int x]) (st := []) (sp_isUser ad I J A B x nu hU (by omega) (by omega)) mw_X9_isUser lk_X9_84 ⟨Nat.le_of_ble_eq_true rfl, Nat.le_of_ble_eq_true rfl⟩ (by decide) (by decide) rfl rfl (Nat.le_of_ble_eq_true rfl) ⟨Nat.le_of_ble_eq_true rfl, Nat.le_of_ble_eq_true rfl⟩ rfl ?_
  show Sim X (YR ad) 5 [(0, .ref (ad 500)), (1, .int x), (2, .int y)] [.int (bI (isIx x nu))] I J A B 0 0
  refine S_ifB_eq g (tgt := 16) rfl (by decide) (fun qz5 => ?_) (fun qz5 => ?_)
  · skip
    refine S_n g 1 (pc' := 18) (lv' := [(0, .ref (ad 500)), (1, .int x), (2, .int y)]) (st' := [.int (-nI 101)]) rfl ?_
    exact rtI rt rfl rfl (eq_o (by simp [o_drop, qz5]) (va_id _ _).symm)
  · skip
    refine S_n g 2 (pc' := 10) (lv' := [(0, .ref (ad 500)), (1, .int x), (2, .int y)]) (st' := [.int y, .ref (ad 500)]) rfl ?_
    refine S_cV g (i := 500) (As := [.int y]) (st := []) (sp_isPiece ad I J A B y nf hF (by omega) (by omega)) mw_X9_isPiece lk_X9_78 ⟨Nat.le_of_ble_eq_true rfl, Nat.le_of_ble_eq_true rfl⟩ (by decide) (by decide) rfl rfl (Nat.le_of_ble_eq_true rfl) ⟨Nat.le_of_ble_eq_true rfl, Nat.le_of_ble_eq_true rfl⟩ rfl ?_
    show Sim X (YR ad) 13 [(0, .ref (ad 500)), (1, .int x), (2, .int y)] [.int (bI (isIx y (12 * nf)))] I J A B 0 0
    refine S_ifB_ne g (tgt := 19) rfl (by decide) (fun qz13 => ?_) (fun qz13 => ?_)
    · skip
      obtain ⟨u, hu, hxu⟩ := isIx_t qz5
      subst hxu
      have hcu : (nI u).toNatClampNeg = u := nI_clamp (by omega)
      obtain ⟨p, hp, hxp⟩ := isIx_t qz13
      subst hxp
      have hcp : (nI p).toNatClampNeg = p := nI_clamp (by omega)
      refine S_n g 3 (pc' := 22) (lv' := [(0, .ref (ad 500)), (1, .int (nI u)), (2, .int (nI p))]) (st' := [.int (nI p), .int (nI u), .ref (ad 500)]) rfl ?_
      refine S_cV g (i := 500) (As := [.int (nI u), .int (nI p)]) (st := []) (sp_has ad I J A B u p (by omega) (by omega)) mw_X9_has lk_X9_87 ⟨Nat.le_of_ble_eq_true rfl, Nat.le_of_ble_eq_true rfl⟩ (by decide) (by decide) rfl rfl (Nat.le_of_ble_eq_true rfl) ⟨Nat.le_of_ble_eq_true rfl, Nat.le_of_ble_eq_true rfl⟩ rfl ?_
      show Sim X (YR ad) 25 [(0, .ref (ad 500)), (1, .int (nI u)), (2, .int (nI p))] [.int (bI (tb (B 501 (63 + u)) p))] I J A B 0 0
      refine S_ifB_ne g (tgt := 31) rfl (by decide) (fun qz25 => ?_) (fun qz25 => ?_)
      · skip
        refine S_n g 1 (pc' := 32) (lv' := [(0, .ref (ad 500)), (1, .int (nI u)), (2, .int (nI p))]) (st' := [.ref (ad 500)]) rfl ?_
        refine S_getR g (i := 500) (c := 9) (k := 0) (j := 501) (by decide) (by decide) rfl rfl rfl fl_X9_7 rfl ?_
        refine S_n g 3 (pc' := 39) (lv' := [(0, .ref (ad 500)), (1, .int (nI u)), (2, .int (nI p))]) (st' := [.int ((nI 63) + (nI u)), .ref (ad 501)]) rfl ?_
        rw [nI_add 63 u]
        refine S_n g 1 (pc' := 40) (lv' := [(0, .ref (ad 500)), (1, .int (nI u)), (2, .int (nI p))]) (st' := [.int (nI (63 + u)), .ref (ad 501), .int (nI (63 + u)), .ref (ad 501)]) rfl ?_
        refine S_laldN g (i := 501) (e := 63 + u) (by decide) rfl (show 63 + u < 621 from by omega) (show (621 : Nat) < 2 ^ 31 from by decide) rfl ?_
        refine S_n g 3 (pc' := 44) (lv' := [(0, .ref (ad 500)), (1, .int (nI u)), (2, .int (nI p))]) (st' := [.long ((lN 1) <<< ((nI p).toInt64 &&& 63)), .long (B 501 (63 + u)), .int (nI (63 + u)), .ref (ad 501)]) rfl ?_
        refine S_ldc2 g kc_X9_59 rfl ?_
        refine S_n g 2 (pc' := 49) (lv' := [(0, .ref (ad 500)), (1, .int (nI u)), (2, .int (nI p))]) (st' := [.long ((B 501 (63 + u)) &&& (((lN 1) <<< ((nI p).toInt64 &&& 63)) ^^^ (-lN 1))), .int (nI (63 + u)), .ref (ad 501)]) rfl ?_
        refine S_lastN g (i := 501) (e := 63 + u) (by decide) rfl (show 63 + u < 621 from by omega) (show (621 : Nat) < 2 ^ 31 from by decide) rfl ?_
        show Sim X (YR ad) 50 [(0, .ref (ad 500)), (1, .int (nI u)), (2, .int (nI p))] [] I J A (va_up B 501 (va_up (B 501) (63 + u) ((B 501 (63 + u)) &&& (((lN 1) <<< ((nI p).toInt64 &&& 63)) ^^^ (-lN 1))))) 0 0
        refine S_n g 1 (pc' := 51) (lv' := [(0, .ref (ad 500)), (1, .int (nI u)), (2, .int (nI p))]) (st' := [.ref (ad 500)]) rfl ?_
        refine S_getR g (i := 500) (c := 9) (k := 0) (j := 501) (by decide) (by decide) rfl rfl rfl fl_X9_7 rfl ?_
        refine S_n g 3 (pc' := 58) (lv' := [(0, .ref (ad 500)), (1, .int (nI u)), (2, .int (nI p))]) (st' := [.int ((nI 63) + (nI u)), .ref (ad 501)]) rfl ?_
        rw [nI_add 63 u]
        refine S_laldN g (i := 501) (e := 63 + u) (by decide) rfl (show 63 + u < 621 from by omega) (show (621 : Nat) < 2 ^ 31 from by decide) rfl ?_
        show Sim X (YR ad) 59 [(0, .ref (ad 500)), (1, .int (nI u)), (2, .int (nI p))] [.long ((va_up (B 501) (63 + u) ((B 501 (63 + u)) &&& (((lN 1) <<< ((nI p).toInt64 &&& 63)) ^^^ (-lN 1)))) (63 + u))] I J A (va_up B 501 (va_up (B 501) (63 + u) ((B 501 (63 + u)) &&& (((lN 1) <<< ((nI p).toInt64 &&& 63)) ^^^ (-lN 1))))) 0 0
        rw [va_up_self]
        refine S_cS g (As := [.long ((B 501 (63 + u)) &&& (((lN 1) <<< ((nI p).toInt64 &&& 63)) ^^^ (-lN 1)))]) (st := []) (sp_many (YR ad) I J A (va_up B 501 (va_up (B 501) (63 + u) ((B 501 (63 + u)) &&& (((lN 1) <<< ((nI p).toInt64 &&& 63)) ^^^ (-lN 1))))) ((B 501 (63 + u)) &&& (((lN 1) <<< ((nI p).toInt64 &&& 63)) ^^^ (-lN 1)))) mw_X9_many lk_X9_91 ⟨Nat.le_of_ble_eq_true rfl, Nat.le_of_ble_eq_true rfl⟩ rfl (Nat.le_of_ble_eq_true rfl) ⟨Nat.le_of_ble_eq_true rfl, Nat.le_of_ble_eq_true rfl⟩ rfl ?_
        show Sim X (YR ad) 62 [(0, .ref (ad 500)), (1, .int (nI u)), (2, .int (nI p))] [.int (nI (ctb ((B 501 (63 + u)) &&& (((lN 1) <<< ((nI p).toInt64 &&& 63)) ^^^ (-lN 1))) 60))] I J A (va_up B 501 (va_up (B 501) (63 + u) ((B 501 (63 + u)) &&& (((lN 1) <<< ((nI p).toInt64 &&& 63)) ^^^ (-lN 1))))) 0 0
        exact rtI rt rfl rfl (eq_o (by simp [o_drop, qz5, qz13, hcu, hcp, qz25]) rfl)
      · skip
        refine S_n g 1 (pc' := 30) (lv' := [(0, .ref (ad 500)), (1, .int (nI u)), (2, .int (nI p))]) (st' := [.int (-nI 102)]) rfl ?_
        exact rtI rt rfl rfl (eq_o (by simp [o_drop, qz5, qz13, hcu, hcp, qz25]) (va_id _ _).symm)
    · skip
      refine S_n g 1 (pc' := 18) (lv' := [(0, .ref (ad 500)), (1, .int x), (2, .int y)]) (st' := [.int (-nI 101)]) rfl ?_
      exact rtI rt rfl rfl (eq_o (by simp [o_drop, qz5, qz13]) (va_id _ _).symm)

set_option maxRecDepth 100000 in
set_option maxHeartbeats 4000000 in
theorem sp_cached (ad : Nat → Nat) (I : FI) (J : FJ) (A : FI) (B : FJ) (x y : Int32) (nf nu nc : Nat) (hm : Dm (B 501) nf nu nc) : Spec M_X9_cached [.ref (ad 500), .int x, .int y] (YR ad) I J A B (eqP (some (.int (o_cached nf nu (B 501) x y))) (YR ad) I J A B) := by
  obtain ⟨hF, hU, hC, h1, h2, h3, h4, h5⟩ := hm
  refine Spec_of (by decide) tk_X9_cached (Nat.le_of_ble_eq_true rfl) (fun X g rt => ?_)
  show Sim X (YR ad) 0 [(0, .ref (ad 500)), (1, .int x), (2, .int y)] [] I J A B 0 0
  refine S_n g 2 (pc' := 2) (lv' := [(0, .ref (ad 500)), (1, .int x), (2, .int y)]) (st' := [.int x, .ref (ad 500)]) rfl ?_
  refine S_cV g (i := 500) (As := [.int x]) (st := []) (sp_isUser ad I J A B x nu hU (by omega) (by omega)) mw_X9_isUser lk_X9_84 ⟨Nat.le_of_ble_eq_true rfl, Nat.le_of_ble_eq_true rfl⟩ (by decide) (by decide) rfl rfl (Nat.le_of_ble_eq_true rfl) ⟨Nat.le_of_ble_eq_true rfl, Nat.le_of_ble_eq_true rfl⟩ rfl ?_
  show Sim X (YR ad) 5 [(0, .ref (ad 500)), (1, .int x), (2, .int y)] [.int (bI (isIx x nu))] I J A B 0 0
  refine S_ifB_eq g (tgt := 16) rfl (by decide) (fun qz5 => ?_) (fun qz5 => ?_)
  · skip
    refine S_n g 1 (pc' := 18) (lv' := [(0, .ref (ad 500)), (1, .int x), (2, .int y)]) (st' := [.int (-nI 101)]) rfl ?_
    exact rtI rt rfl rfl (eq_i (by simp [o_cached, qz5]))
  · skip
    refine S_n g 2 (pc' := 10) (lv' := [(0, .ref (ad 500)), (1, .int x), (2, .int y)]) (st' := [.int y, .ref (ad 500)]) rfl ?_
    refine S_cV g (i := 500) (As := [.int y]) (st := []) (sp_isPiece ad I J A B y nf hF (by omega) (by omega)) mw_X9_isPiece lk_X9_78 ⟨Nat.le_of_ble_eq_true rfl, Nat.le_of_ble_eq_true rfl⟩ (by decide) (by decide) rfl rfl (Nat.le_of_ble_eq_true rfl) ⟨Nat.le_of_ble_eq_true rfl, Nat.le_of_ble_eq_true rfl⟩ rfl ?_
    show Sim X (YR ad) 13 [(0, .ref (ad 500)), (1, .int x), (2, .int y)] [.int (bI (isIx y (12 * nf)))] I J A B 0 0
    refine S_ifB_ne g (tgt := 19) rfl (by decide) (fun qz13 => ?_) (fun qz13 => ?_)
    · skip
      obtain ⟨u, hu, hxu⟩ := isIx_t qz5
      subst hxu
      have hcu : (nI u).toNatClampNeg = u := nI_clamp (by omega)
      obtain ⟨p, hp, hxp⟩ := isIx_t qz13
      subst hxp
      have hcp : (nI p).toNatClampNeg = p := nI_clamp (by omega)
      refine S_n g 3 (pc' := 22) (lv' := [(0, .ref (ad 500)), (1, .int (nI u)), (2, .int (nI p))]) (st' := [.int (nI p), .int (nI u), .ref (ad 500)]) rfl ?_
      refine S_cV g (i := 500) (As := [.int (nI u), .int (nI p)]) (st := []) (sp_has ad I J A B u p (by omega) (by omega)) mw_X9_has lk_X9_87 ⟨Nat.le_of_ble_eq_true rfl, Nat.le_of_ble_eq_true rfl⟩ (by decide) (by decide) rfl rfl (Nat.le_of_ble_eq_true rfl) ⟨Nat.le_of_ble_eq_true rfl, Nat.le_of_ble_eq_true rfl⟩ rfl ?_
      show Sim X (YR ad) 25 [(0, .ref (ad 500)), (1, .int (nI u)), (2, .int (nI p))] [.int (bI (tb (B 501 (63 + u)) p))] I J A B 0 0
      refine S_ifB_eq g (tgt := 32) rfl (by decide) (fun qz25 => ?_) (fun qz25 => ?_)
      · skip
        refine S_n g 1 (pc' := 33) (lv' := [(0, .ref (ad 500)), (1, .int (nI u)), (2, .int (nI p))]) (st' := [.int (nI 0)]) rfl ?_
        exact rtI rt rfl rfl (eq_i (by simp [o_cached, qz5, qz13, hcu, hcp, qz25, bI]))
      · skip
        refine S_n g 2 (pc' := 33) (lv' := [(0, .ref (ad 500)), (1, .int (nI u)), (2, .int (nI p))]) (st' := [.int (nI 1)]) rfl ?_
        exact rtI rt rfl rfl (eq_i (by simp [o_cached, qz5, qz13, hcu, hcp, qz25, bI]))
    · skip
      refine S_n g 1 (pc' := 18) (lv' := [(0, .ref (ad 500)), (1, .int x), (2, .int y)]) (st' := [.int (-nI 101)]) rfl ?_
      exact rtI rt rfl rfl (eq_i (by simp [o_cached, qz5, qz13]))

set_option maxRecDepth 100000 in
set_option maxHeartbeats 4000000 in
theorem sp_want (ad : Nat → Nat) (I : FI) (J : FJ) (A : FI) (B : FJ) (x y : Int32) (nf nu nc : Nat) (hm : Dm (B 501) nf nu nc) : Spec M_X9_want [.ref (ad 500), .int x, .int y] (YR ad) I J A B (eqP (some (.int (o_want nf nu (B 501) x y).1)) (YR ad) I J A (va_up B 501 (o_want nf nu (B 501) x y).2)) := by
  obtain ⟨hF, hU, hC, h1, h2, h3, h4, h5⟩ := hm
  refine Spec_of (by decide) tk_X9_want (Nat.le_of_ble_eq_true rfl) (fun X g rt => ?_)
  show Sim X (YR ad) 0 [(0, .ref (ad 500)), (1, .int x), (2, .int y)] [] I J A B 0 0
  refine S_n g 2 (pc' := 2) (lv' := [(0, .ref (ad 500)), (1, .int x), (2, .int y)]) (st' := [.int x, .ref (ad 500)]) rfl ?_
  refine S_cV g (i := 500) (As := [.int x]) (st := []) (sp_isUser ad I J A B x nu hU (by omega) (by omega)) mw_X9_isUser lk_X9_84 ⟨Nat.le_of_ble_eq_true rfl, Nat.le_of_ble_eq_true rfl⟩ (by decide) (by decide) rfl rfl (Nat.le_of_ble_eq_true rfl) ⟨Nat.le_of_ble_eq_true rfl, Nat.le_of_ble_eq_true rfl⟩ rfl ?_
  show Sim X (YR ad) 5 [(0, .ref (ad 500)), (1, .int x), (2, .int y)] [.int (bI (isIx x nu))] I J A B 0 0
  refine S_ifB_eq g (tgt := 30) rfl (by decide) (fun qz5 => ?_) (fun qz5 => ?_)
  · skip
    refine S_n g 1 (pc' := 32) (lv' := [(0, .ref (ad 500)), (1, .int x), (2, .int y)]) (st' := [.int (-nI 101)]) rfl ?_
    exact rtI rt rfl rfl (eq_o (by simp [o_want, qz5]) (va_id _ _).symm)
  · skip
    obtain ⟨u, hu, hxu⟩ := isIx_t qz5
    subst hxu
    have hcu : (nI u).toNatClampNeg = u := nI_clamp (by omega)
    refine S_n g 2 (pc' := 10) (lv' := [(0, .ref (ad 500)), (1, .int (nI u)), (2, .int y)]) (st' := [.int (-nI 1), .int y]) rfl ?_
    refine S_ic_eq g (tgt := 33) rfl (by decide) (fun qz10 => ?_) (fun qz10 => ?_)
    · skip
      refine S_n g 1 (pc' := 34) (lv' := [(0, .ref (ad 500)), (1, .int (nI u)), (2, .int y)]) (st' := [.ref (ad 500)]) rfl ?_
      refine S_getR g (i := 500) (c := 9) (k := 0) (j := 501) (by decide) (by decide) rfl rfl rfl fl_X9_7 rfl ?_
      refine S_n g 3 (pc' := 41) (lv' := [(0, .ref (ad 500)), (1, .int (nI u)), (2, .int y)]) (st' := [.int ((nI 69) + (nI u)), .ref (ad 501)]) rfl ?_
      rw [nI_add 69 u]
      refine S_laldN g (i := 501) (e := 69 + u) (by decide) rfl (show 69 + u < 621 from by omega) (show (621 : Nat) < 2 ^ 31 from by decide) rfl ?_
      refine S_n g 3 (pc' := 45) (lv' := [(0, .ref (ad 500)), (1, .int (nI u)), (2, .int y), (3, .int (B 501 (69 + u)).toInt32)]) (st' := [.ref (ad 500)]) rfl ?_
      refine S_getR g (i := 500) (c := 9) (k := 0) (j := 501) (by decide) (by decide) rfl rfl rfl fl_X9_7 rfl ?_
      refine S_n g 3 (pc' := 52) (lv' := [(0, .ref (ad 500)), (1, .int (nI u)), (2, .int y), (3, .int (B 501 (69 + u)).toInt32)]) (st' := [.int ((nI 69) + (nI u)), .ref (ad 501)]) rfl ?_
      rw [nI_add 69 u]
      refine S_n g 2 (pc' := 54) (lv' := [(0, .ref (ad 500)), (1, .int (nI u)), (2, .int y), (3, .int (B 501 (69 + u)).toInt32)]) (st' := [.long y.toInt64, .int (nI (69 + u)), .ref (ad 501)]) rfl ?_
      refine S_lastN g (i := 501) (e := 69 + u) (by decide) rfl (show 69 + u < 621 from by omega) (show (621 : Nat) < 2 ^ 31 from by decide) rfl ?_
      show Sim X (YR ad) 55 [(0, .ref (ad 500)), (1, .int (nI u)), (2, .int y), (3, .int (B 501 (69 + u)).toInt32)] [] I J A (va_up B 501 (va_up (B 501) (69 + u) y.toInt64)) 0 0
      refine S_n g 1 (pc' := 56) (lv' := [(0, .ref (ad 500)), (1, .int (nI u)), (2, .int y), (3, .int (B 501 (69 + u)).toInt32)]) (st' := [.int (B 501 (69 + u)).toInt32]) rfl ?_
      exact rtI rt rfl rfl (eq_o (by simp [o_want, qz5, hcu, qz10]) rfl)
    · skip
      refine S_n g 4 (pc' := 17) (lv' := [(0, .ref (ad 500)), (1, .int (nI u)), (2, .int y)]) (st' := [.ref (ad 500), .long (lN 0), .long y.toInt64]) rfl ?_
      refine S_getR g (i := 500) (c := 9) (k := 0) (j := 501) (by decide) (by decide) rfl rfl rfl fl_X9_7 rfl ?_
      refine S_n g 1 (pc' := 21) (lv' := [(0, .ref (ad 500)), (1, .int (nI u)), (2, .int y)]) (st' := [.int (nI 0), .ref (ad 501), .long (lN 0), .long y.toInt64]) rfl ?_
      refine S_laldN g (i := 501) (e := 0) (by decide) rfl (show 0 < 621 from by omega) (show (621 : Nat) < 2 ^ 31 from by decide) rfl ?_
      rw [hF]
      refine S_n g 2 (pc' := 24) (lv' := [(0, .ref (ad 500)), (1, .int (nI u)), (2, .int y)]) (st' := [.long ((lN nf) - (lN 1)), .long (lN 0), .long y.toInt64]) rfl ?_
      refine S_cS g (As := [.long y.toInt64, .long (lN 0), .long ((lN nf) - (lN 1))]) (st := []) (sp_in (YR ad) I J A B y.toInt64 (lN 0) ((lN nf) - (lN 1))) mw_X9_in lk_X9_63 ⟨Nat.le_of_ble_eq_true rfl, Nat.le_of_ble_eq_true rfl⟩ rfl (Nat.le_of_ble_eq_true rfl) ⟨Nat.le_of_ble_eq_true rfl, Nat.le_of_ble_eq_true rfl⟩ rfl ?_
      show Sim X (YR ad) 27 [(0, .ref (ad 500)), (1, .int (nI u)), (2, .int y)] [.int (bI (inL y.toInt64 (lN 0) ((lN nf) - (lN 1))))] I J A B 0 0
      refine S_steq (st' := [.int (bI (isIx y nf))]) (by rw [(show bI (inL y.toInt64 (lN 0) ((lN nf) - (lN 1))) = bI (isIx y nf) from by rw [in_ix (by omega)]).symm]) ?_
      refine S_ifB_ne g (tgt := 33) rfl (by decide) (fun qz27 => ?_) (fun qz27 => ?_)
      · skip
        refine S_n g 1 (pc' := 34) (lv' := [(0, .ref (ad 500)), (1, .int (nI u)), (2, .int y)]) (st' := [.ref (ad 500)]) rfl ?_
        refine S_getR g (i := 500) (c := 9) (k := 0) (j := 501) (by decide) (by decide) rfl rfl rfl fl_X9_7 rfl ?_
        refine S_n g 3 (pc' := 41) (lv' := [(0, .ref (ad 500)), (1, .int (nI u)), (2, .int y)]) (st' := [.int ((nI 69) + (nI u)), .ref (ad 501)]) rfl ?_
        rw [nI_add 69 u]
        refine S_laldN g (i := 501) (e := 69 + u) (by decide) rfl (show 69 + u < 621 from by omega) (show (621 : Nat) < 2 ^ 31 from by decide) rfl ?_
        refine S_n g 3 (pc' := 45) (lv' := [(0, .ref (ad 500)), (1, .int (nI u)), (2, .int y), (3, .int (B 501 (69 + u)).toInt32)]) (st' := [.ref (ad 500)]) rfl ?_
        refine S_getR g (i := 500) (c := 9) (k := 0) (j := 501) (by decide) (by decide) rfl rfl rfl fl_X9_7 rfl ?_
        refine S_n g 3 (pc' := 52) (lv' := [(0, .ref (ad 500)), (1, .int (nI u)), (2, .int y), (3, .int (B 501 (69 + u)).toInt32)]) (st' := [.int ((nI 69) + (nI u)), .ref (ad 501)]) rfl ?_
        rw [nI_add 69 u]
        refine S_n g 2 (pc' := 54) (lv' := [(0, .ref (ad 500)), (1, .int (nI u)), (2, .int y), (3, .int (B 501 (69 + u)).toInt32)]) (st' := [.long y.toInt64, .int (nI (69 + u)), .ref (ad 501)]) rfl ?_
        refine S_lastN g (i := 501) (e := 69 + u) (by decide) rfl (show 69 + u < 621 from by omega) (show (621 : Nat) < 2 ^ 31 from by decide) rfl ?_
        show Sim X (YR ad) 55 [(0, .ref (ad 500)), (1, .int (nI u)), (2, .int y), (3, .int (B 501 (69 + u)).toInt32)] [] I J A (va_up B 501 (va_up (B 501) (69 + u) y.toInt64)) 0 0
        refine S_n g 1 (pc' := 56) (lv' := [(0, .ref (ad 500)), (1, .int (nI u)), (2, .int y), (3, .int (B 501 (69 + u)).toInt32)]) (st' := [.int (B 501 (69 + u)).toInt32]) rfl ?_
        exact rtI rt rfl rfl (eq_o (by simp [o_want, qz5, hcu, qz27]) rfl)
      · skip
        refine S_n g 1 (pc' := 32) (lv' := [(0, .ref (ad 500)), (1, .int (nI u)), (2, .int y)]) (st' := [.int (-nI 101)]) rfl ?_
        exact rtI rt rfl rfl (eq_o (by simp [o_want, qz5, hcu, qz27, qz10]) (va_id _ _).symm)

set_option maxRecDepth 100000 in
set_option maxHeartbeats 4000000 in
theorem sp_presents (ad : Nat → Nat) (I : FI) (J : FJ) (A : FI) (B : FJ) (nu : Nat) (hU : B 501 1 = lN nu) (h2 : nu ≤ 6) : Spec M_X9_presents [.ref (ad 500)] (YR ad) I J A B (eqP (some (.int (preS (B 501) nu))) (YR ad) I J A B) := by
  refine Spec_of (by decide) tk_X9_presents (Nat.le_of_ble_eq_true rfl) (fun X g rt => ?_)
  show Sim X (YR ad) 0 [(0, .ref (ad 500))] [] I J A B 0 0
  refine S_n g 4 (pc' := 4) (lv' := [(0, .ref (ad 500)), (1, .int (nI 0)), (2, .int (nI 0))]) (st' := []) rfl ?_
  have lp : ∀ (nn : Nat) (k : Nat), nu - k = nn → (k ≤ nu) → Sim X (YR ad) 4 [(0, .ref (ad 500)), (1, .int (preS (B 501) k)), (2, .int (nI k))] [] I J A B 0 0 := by
    intro nn
    induction nn using Nat.strongRecOn with
    | ind nn ih =>
      intro k hmz hk
      have lp := ih
      refine S_n g 2 (pc' := 6) (lv' := [(0, .ref (ad 500)), (1, .int (preS (B 501) k)), (2, .int (nI k))]) (st' := [.ref (ad 500), .int (nI k)]) rfl ?_
      refine S_cV g (i := 500) (As := []) (st := [.int (nI k)]) (sp_users ad I J A B nu hU) mw_X9_users lk_X9_71 ⟨Nat.le_of_ble_eq_true rfl, Nat.le_of_ble_eq_true rfl⟩ (by decide) (by decide) rfl rfl (Nat.le_of_ble_eq_true rfl) ⟨Nat.le_of_ble_eq_true rfl, Nat.le_of_ble_eq_true rfl⟩ rfl ?_
      show Sim X (YR ad) 9 [(0, .ref (ad 500)), (1, .int (preS (B 501) k)), (2, .int (nI k))] [.int (nI nu), .int (nI k)] I J A B 0 0
      refine S_icN_ge g (tgt := 42) (by omega) (by omega) rfl (by decide) (fun qz9 => ?_) (fun qz9 => ?_)
      · skip
        refine S_n g 1 (pc' := 43) (lv' := [(0, .ref (ad 500)), (1, .int (preS (B 501) k)), (2, .int (nI k))]) (st' := [.int (preS (B 501) k)]) rfl ?_
        have hk : k = nu := by omega
        subst hk
        exact rtI rt rfl rfl eqP_rf
      · skip
        refine S_n g 2 (pc' := 14) (lv' := [(0, .ref (ad 500)), (1, .int (preS (B 501) k)), (2, .int (nI k))]) (st' := [.ref (ad 500), .int (preS (B 501) k)]) rfl ?_
        refine S_getR g (i := 500) (c := 9) (k := 0) (j := 501) (by decide) (by decide) rfl rfl rfl fl_X9_7 rfl ?_
        refine S_n g 3 (pc' := 21) (lv' := [(0, .ref (ad 500)), (1, .int (preS (B 501) k)), (2, .int (nI k))]) (st' := [.int ((nI 75) + (nI k)), .ref (ad 501), .int (preS (B 501) k)]) rfl ?_
        rw [nI_add 75 k]
        refine S_laldN g (i := 501) (e := 75 + k) (by decide) rfl (show 75 + k < 621 from by omega) (show (621 : Nat) < 2 ^ 31 from by decide) rfl ?_
        refine S_n g 1 (pc' := 23) (lv' := [(0, .ref (ad 500)), (1, .int (preS (B 501) k)), (2, .int (nI k))]) (st' := [.long (lN 1), .long (B 501 (75 + k)), .int (preS (B 501) k)]) rfl ?_
        refine S_lc_ne g (tgt := 33) rfl rfl (by decide) (fun qz23 => ?_) (fun qz23 => ?_)
        · skip
          refine S_n g 3 (pc' := 36) (lv' := [(0, .ref (ad 500)), (1, .int ((preS (B 501) k) ||| (nI 0))), (2, .int (nI k))]) (st' := []) rfl ?_
          refine S_lveq (lv' := [(0, .ref (ad 500)), (1, .int (preS (B 501) (k + 1))), (2, .int (nI k))]) (by rw [(show (preS (B 501) k) ||| (nI 0) = preS (B 501) (k + 1) from by rw [preS, if_neg qz23]).symm]) ?_
          refine S_n g 1 (pc' := 39) (lv' := [(0, .ref (ad 500)), (1, .int (preS (B 501) (k + 1))), (2, .int ((nI k) + nI 1))]) (st' := []) rfl ?_
          rw [nI_add k 1]
          refine S_n g 1 (pc' := 4) (lv' := [(0, .ref (ad 500)), (1, .int (preS (B 501) (k + 1))), (2, .int (nI (k + 1)))]) (st' := []) rfl ?_
          exact lp (nu - (k + 1)) (by omega) (k + 1) rfl (by omega)
        · skip
          refine S_n g 6 (pc' := 36) (lv' := [(0, .ref (ad 500)), (1, .int ((preS (B 501) k) ||| ((nI 1) <<< ((nI k) &&& 31)))), (2, .int (nI k))]) (st' := []) rfl ?_
          refine S_lveq (lv' := [(0, .ref (ad 500)), (1, .int (preS (B 501) (k + 1))), (2, .int (nI k))]) (by rw [(show (preS (B 501) k) ||| ((nI 1) <<< ((nI k) &&& 31)) = preS (B 501) (k + 1) from by rw [preS, if_pos qz23]).symm]) ?_
          refine S_n g 1 (pc' := 39) (lv' := [(0, .ref (ad 500)), (1, .int (preS (B 501) (k + 1))), (2, .int ((nI k) + nI 1))]) (st' := []) rfl ?_
          rw [nI_add k 1]
          refine S_n g 1 (pc' := 4) (lv' := [(0, .ref (ad 500)), (1, .int (preS (B 501) (k + 1))), (2, .int (nI (k + 1)))]) (st' := []) rfl ?_
          exact lp (nu - (k + 1)) (by omega) (k + 1) rfl (by omega)
  exact lp _ 0 rfl (by omega)

set_option maxRecDepth 100000 in
set_option maxHeartbeats 4000000 in
theorem sp_comes (ad : Nat → Nat) (I : FI) (J : FJ) (A : FI) (B : FJ) (x : Int32) (b : Bool) (nu : Nat) (hU : B 501 1 = lN nu) (h3 : 1 ≤ nu) (h4 : nu ≤ 6) : Spec M_X9_comes [.ref (ad 500), .int x, .long (lN b.toNat)] (YR ad) I J A B (eqP (some (.int (o_comes nu (B 501) x b).1)) (YR ad) I J A (va_up B 501 (o_comes nu (B 501) x b).2)) := by
  refine Spec_of (by decide) tk_X9_comes (Nat.le_of_ble_eq_true rfl) (fun X g rt => ?_)
  show Sim X (YR ad) 0 [(0, .ref (ad 500)), (1, .int x), (2, .long (lN b.toNat))] [] I J A B 0 0
  refine S_n g 2 (pc' := 2) (lv' := [(0, .ref (ad 500)), (1, .int x), (2, .long (lN b.toNat))]) (st' := [.int x, .ref (ad 500)]) rfl ?_
  refine S_cV g (i := 500) (As := [.int x]) (st := []) (sp_isUser ad I J A B x nu hU (by omega) (by omega)) mw_X9_isUser lk_X9_84 ⟨Nat.le_of_ble_eq_true rfl, Nat.le_of_ble_eq_true rfl⟩ (by decide) (by decide) rfl rfl (Nat.le_of_ble_eq_true rfl) ⟨Nat.le_of_ble_eq_true rfl, Nat.le_of_ble_eq_true rfl⟩ rfl ?_
  show Sim X (YR ad) 5 [(0, .ref (ad 500)), (1, .int x), (2, .long (lN b.toNat))] [.int (bI (isIx x nu))] I J A B 0 0
  refine S_ifB_ne g (tgt := 11) rfl (by decide) (fun qz5 => ?_) (fun qz5 => ?_)
  · skip
    obtain ⟨u, hu, hxu⟩ := isIx_t qz5
    subst hxu
    have hcu : (nI u).toNatClampNeg = u := nI_clamp (by omega)
    refine S_n g 1 (pc' := 12) (lv' := [(0, .ref (ad 500)), (1, .int (nI u)), (2, .long (lN b.toNat))]) (st' := [.ref (ad 500)]) rfl ?_
    refine S_getR g (i := 500) (c := 9) (k := 0) (j := 501) (by decide) (by decide) rfl rfl rfl fl_X9_7 rfl ?_
    refine S_n g 3 (pc' := 19) (lv' := [(0, .ref (ad 500)), (1, .int (nI u)), (2, .long (lN b.toNat))]) (st' := [.int ((nI 75) + (nI u)), .ref (ad 501)]) rfl ?_
    rw [nI_add 75 u]
    refine S_laldN g (i := 501) (e := 75 + u) (by decide) rfl (show 75 + u < 621 from by omega) (show (621 : Nat) < 2 ^ 31 from by decide) rfl ?_
    refine S_n g 1 (pc' := 21) (lv' := [(0, .ref (ad 500)), (1, .int (nI u)), (2, .long (lN b.toNat))]) (st' := [.long (lN b.toNat), .long (B 501 (75 + u))]) rfl ?_
    refine S_lc_ne g (tgt := 28) rfl rfl (by decide) (fun qz21 => ?_) (fun qz21 => ?_)
    · skip
      refine S_n g 1 (pc' := 29) (lv' := [(0, .ref (ad 500)), (1, .int (nI u)), (2, .long (lN b.toNat))]) (st' := [.ref (ad 500)]) rfl ?_
      refine S_getR g (i := 500) (c := 9) (k := 0) (j := 501) (by decide) (by decide) rfl rfl rfl fl_X9_7 rfl ?_
      refine S_n g 3 (pc' := 36) (lv' := [(0, .ref (ad 500)), (1, .int (nI u)), (2, .long (lN b.toNat))]) (st' := [.int ((nI 75) + (nI u)), .ref (ad 501)]) rfl ?_
      rw [nI_add 75 u]
      refine S_n g 1 (pc' := 37) (lv' := [(0, .ref (ad 500)), (1, .int (nI u)), (2, .long (lN b.toNat))]) (st' := [.long (lN b.toNat), .int (nI (75 + u)), .ref (ad 501)]) rfl ?_
      refine S_lastN g (i := 501) (e := 75 + u) (by decide) rfl (show 75 + u < 621 from by omega) (show (621 : Nat) < 2 ^ 31 from by decide) rfl ?_
      show Sim X (YR ad) 38 [(0, .ref (ad 500)), (1, .int (nI u)), (2, .long (lN b.toNat))] [] I J A (va_up B 501 (va_up (B 501) (75 + u) (lN b.toNat))) 0 0
      refine S_n g 1 (pc' := 39) (lv' := [(0, .ref (ad 500)), (1, .int (nI u)), (2, .long (lN b.toNat))]) (st' := [.ref (ad 500)]) rfl ?_
      refine S_cV g (i := 500) (As := []) (st := []) (sp_presents ad I J A (va_up B 501 (va_up (B 501) (75 + u) (lN b.toNat))) nu (by show va_up (B 501) (75 + u) (lN b.toNat) 1 = lN nu; rw [va_up_ne _ _ (by omega)]; exact hU) (by omega)) mw_X9_presents lk_X9_123 ⟨Nat.le_of_ble_eq_true rfl, Nat.le_of_ble_eq_true rfl⟩ (by decide) (by decide) rfl rfl (Nat.le_of_ble_eq_true rfl) ⟨Nat.le_of_ble_eq_true rfl, Nat.le_of_ble_eq_true rfl⟩ rfl ?_
      show Sim X (YR ad) 42 [(0, .ref (ad 500)), (1, .int (nI u)), (2, .long (lN b.toNat))] [.int (preS (va_up (B 501) (75 + u) (lN b.toNat)) nu)] I J A (va_up B 501 (va_up (B 501) (75 + u) (lN b.toNat))) 0 0
      refine S_n g 1 (pc' := 43) (lv' := [(0, .ref (ad 500)), (1, .int (nI u)), (2, .long (lN b.toNat))]) (st' := [.long (preS (va_up (B 501) (75 + u) (lN b.toNat)) nu).toInt64]) rfl ?_
      refine S_cS g (As := [.long (preS (va_up (B 501) (75 + u) (lN b.toNat)) nu).toInt64]) (st := []) (sp_many (YR ad) I J A (va_up B 501 (va_up (B 501) (75 + u) (lN b.toNat))) (preS (va_up (B 501) (75 + u) (lN b.toNat)) nu).toInt64) mw_X9_many lk_X9_91 ⟨Nat.le_of_ble_eq_true rfl, Nat.le_of_ble_eq_true rfl⟩ rfl (Nat.le_of_ble_eq_true rfl) ⟨Nat.le_of_ble_eq_true rfl, Nat.le_of_ble_eq_true rfl⟩ rfl ?_
      show Sim X (YR ad) 46 [(0, .ref (ad 500)), (1, .int (nI u)), (2, .long (lN b.toNat))] [.int (nI (ctb (preS (va_up (B 501) (75 + u) (lN b.toNat)) nu).toInt64 60))] I J A (va_up B 501 (va_up (B 501) (75 + u) (lN b.toNat))) 0 0
      exact rtI rt rfl rfl (eq_o (by simp [o_comes, qz5, hcu, qz21]) rfl)
    · skip
      refine S_n g 1 (pc' := 27) (lv' := [(0, .ref (ad 500)), (1, .int (nI u)), (2, .long (lN b.toNat))]) (st' := [.int (-nI 102)]) rfl ?_
      exact rtI rt rfl rfl (eq_o (by simp [o_comes, qz5, hcu, qz21]) (va_id _ _).symm)
  · skip
    refine S_n g 1 (pc' := 10) (lv' := [(0, .ref (ad 500)), (1, .int x), (2, .long (lN b.toNat))]) (st' := [.int (-nI 101)]) rfl ?_
    exact rtI rt rfl rfl (eq_o (by simp [o_comes, qz5]) (va_id _ _).symm)

set_option maxRecDepth 100000 in
set_option maxHeartbeats 4000000 in
theorem sp_leave (ad : Nat → Nat) (I : FI) (J : FJ) (A : FI) (B : FJ) (x : Int32) (nu : Nat) (hU : B 501 1 = lN nu) (h3 : 1 ≤ nu) (h4 : nu ≤ 6) : Spec M_X9_leave [.ref (ad 500), .int x] (YR ad) I J A B (eqP (some (.int (o_comes nu (B 501) x false).1)) (YR ad) I J A (va_up B 501 (o_comes nu (B 501) x false).2)) := by
  refine Spec_of (by decide) tk_X9_leave (Nat.le_of_ble_eq_true rfl) (fun X g rt => ?_)
  show Sim X (YR ad) 0 [(0, .ref (ad 500)), (1, .int x)] [] I J A B 0 0
  refine S_n g 3 (pc' := 3) (lv' := [(0, .ref (ad 500)), (1, .int x)]) (st' := [.long (lN 0), .int x, .ref (ad 500)]) rfl ?_
  refine S_cV g (i := 500) (As := [.int x, .long (lN 0)]) (st := []) (sp_comes ad I J A B x false nu hU h3 h4) mw_X9_comes lk_X9_126 ⟨Nat.le_of_ble_eq_true rfl, Nat.le_of_ble_eq_true rfl⟩ (by decide) (by decide) rfl rfl (Nat.le_of_ble_eq_true rfl) ⟨Nat.le_of_ble_eq_true rfl, Nat.le_of_ble_eq_true rfl⟩ rfl ?_
  show Sim X (YR ad) 6 [(0, .ref (ad 500)), (1, .int x)] [.int (o_comes nu (B 501) x false).1] I J A (va_up B 501 (o_comes nu (B 501) x false).2) 0 0
  exact rtI rt rfl rfl eqP_rf

set_option maxRecDepth 100000 in
set_option maxHeartbeats 4000000 in
theorem sp_join (ad : Nat → Nat) (I : FI) (J : FJ) (A : FI) (B : FJ) (x : Int32) (nu : Nat) (hU : B 501 1 = lN nu) (h3 : 1 ≤ nu) (h4 : nu ≤ 6) : Spec M_X9_join [.ref (ad 500), .int x] (YR ad) I J A B (eqP (some (.int (o_comes nu (B 501) x true).1)) (YR ad) I J A (va_up B 501 (o_comes nu (B 501) x true).2)) := by
  refine Spec_of (by decide) tk_X9_join (Nat.le_of_ble_eq_true rfl) (fun X g rt => ?_)
  show Sim X (YR ad) 0 [(0, .ref (ad 500)), (1, .int x)] [] I J A B 0 0
  refine S_n g 3 (pc' := 3) (lv' := [(0, .ref (ad 500)), (1, .int x)]) (st' := [.long (lN 1), .int x, .ref (ad 500)]) rfl ?_
  refine S_cV g (i := 500) (As := [.int x, .long (lN 1)]) (st := []) (sp_comes ad I J A B x true nu hU h3 h4) mw_X9_comes lk_X9_126 ⟨Nat.le_of_ble_eq_true rfl, Nat.le_of_ble_eq_true rfl⟩ (by decide) (by decide) rfl rfl (Nat.le_of_ble_eq_true rfl) ⟨Nat.le_of_ble_eq_true rfl, Nat.le_of_ble_eq_true rfl⟩ rfl ?_
  show Sim X (YR ad) 6 [(0, .ref (ad 500)), (1, .int x)] [.int (o_comes nu (B 501) x true).1] I J A (va_up B 501 (o_comes nu (B 501) x true).2) 0 0
  exact rtI rt rfl rfl eqP_rf

set_option maxRecDepth 100000 in
set_option maxHeartbeats 4000000 in
theorem sp_queues (ad : Nat → Nat) (I : FI) (J : FJ) (A : FI) (B : FJ) (s : Int64) (qn : Nat) (hQ : B 501 327 = lN qn) (h : qn < 100) : Spec M_X9_queues [.ref (ad 500), .long s] (YR ad) I J A B (eqP (some (.int (o_queues qn (B 501) s).1)) (YR ad) I J A (va_up B 501 (o_queues qn (B 501) s).2)) := by
  refine Spec_of (by decide) tk_X9_queues (Nat.le_of_ble_eq_true rfl) (fun X g rt => ?_)
  show Sim X (YR ad) 0 [(0, .ref (ad 500)), (1, .long s)] [] I J A B 0 0
  refine S_n g 1 (pc' := 1) (lv' := [(0, .ref (ad 500)), (1, .long s)]) (st' := [.ref (ad 500)]) rfl ?_
  refine S_getR g (i := 500) (c := 9) (k := 0) (j := 501) (by decide) (by decide) rfl rfl rfl fl_X9_7 rfl ?_
  refine S_n g 2 (pc' := 8) (lv' := [(0, .ref (ad 500)), (1, .long s)]) (st' := [.ref (ad 500), .int (nI 328), .ref (ad 501)]) rfl ?_
  refine S_getR g (i := 500) (c := 9) (k := 0) (j := 501) (by decide) (by decide) rfl rfl rfl fl_X9_7 rfl ?_
  refine S_n g 1 (pc' := 14) (lv' := [(0, .ref (ad 500)), (1, .long s)]) (st' := [.int (nI 327), .ref (ad 501), .int (nI 328), .ref (ad 501)]) rfl ?_
  refine S_laldN g (i := 501) (e := 327) (by decide) rfl (show 327 < 621 from by omega) (show (621 : Nat) < 2 ^ 31 from by decide) rfl ?_
  rw [hQ]
  refine S_n g 1 (pc' := 16) (lv' := [(0, .ref (ad 500)), (1, .long s)]) (st' := [.int (lN qn).toInt32, .int (nI 328), .ref (ad 501)]) rfl ?_
  rw [lN_i qn]
  refine S_n g 1 (pc' := 17) (lv' := [(0, .ref (ad 500)), (1, .long s)]) (st' := [.int ((nI 328) + (nI qn)), .ref (ad 501)]) rfl ?_
  rw [nI_add 328 qn]
  refine S_n g 1 (pc' := 18) (lv' := [(0, .ref (ad 500)), (1, .long s)]) (st' := [.long s, .int (nI (328 + qn)), .ref (ad 501)]) rfl ?_
  refine S_lastN g (i := 501) (e := 328 + qn) (by decide) rfl (show 328 + qn < 621 from by omega) (show (621 : Nat) < 2 ^ 31 from by decide) rfl ?_
  show Sim X (YR ad) 19 [(0, .ref (ad 500)), (1, .long s)] [] I J A (va_up B 501 (va_up (B 501) (328 + qn) s)) 0 0
  refine S_n g 1 (pc' := 20) (lv' := [(0, .ref (ad 500)), (1, .long s)]) (st' := [.ref (ad 500)]) rfl ?_
  refine S_getR g (i := 500) (c := 9) (k := 0) (j := 501) (by decide) (by decide) rfl rfl rfl fl_X9_7 rfl ?_
  refine S_n g 2 (pc' := 27) (lv' := [(0, .ref (ad 500)), (1, .long s)]) (st' := [.int (nI 327), .ref (ad 501), .int (nI 327), .ref (ad 501)]) rfl ?_
  refine S_laldN g (i := 501) (e := 327) (by decide) rfl (show 327 < 621 from by omega) (show (621 : Nat) < 2 ^ 31 from by decide) rfl ?_
  show Sim X (YR ad) 28 [(0, .ref (ad 500)), (1, .long s)] [.long ((va_up (B 501) (328 + qn) s) 327), .int (nI 327), .ref (ad 501)] I J A (va_up B 501 (va_up (B 501) (328 + qn) s)) 0 0
  rw [va_up_ne _ _ (show 327 ≠ 328 + qn from by omega)]
  rw [hQ]
  refine S_n g 2 (pc' := 30) (lv' := [(0, .ref (ad 500)), (1, .long s)]) (st' := [.long ((lN qn) + (lN 1)), .int (nI 327), .ref (ad 501)]) rfl ?_
  rw [lN_add qn 1]
  refine S_lastN g (i := 501) (e := 327) (by decide) rfl (show 327 < 621 from by omega) (show (621 : Nat) < 2 ^ 31 from by decide) rfl ?_
  rw [up2_r1 (i := 501)]
  refine S_n g 1 (pc' := 32) (lv' := [(0, .ref (ad 500)), (1, .long s)]) (st' := [.ref (ad 500)]) rfl ?_
  refine S_getR g (i := 500) (c := 9) (k := 0) (j := 501) (by decide) (by decide) rfl rfl rfl fl_X9_7 rfl ?_
  refine S_n g 1 (pc' := 38) (lv' := [(0, .ref (ad 500)), (1, .long s)]) (st' := [.int (nI 327), .ref (ad 501)]) rfl ?_
  refine S_laldN g (i := 501) (e := 327) (by decide) rfl (show 327 < 621 from by omega) (show (621 : Nat) < 2 ^ 31 from by decide) rfl ?_
  show Sim X (YR ad) 39 [(0, .ref (ad 500)), (1, .long s)] [.long ((va_up (va_up (B 501) (328 + qn) s) 327 (lN (qn + 1))) 327)] I J A (va_up B 501 (va_up (va_up (B 501) (328 + qn) s) 327 (lN (qn + 1)))) 0 0
  rw [va_up_self]
  refine S_n g 1 (pc' := 40) (lv' := [(0, .ref (ad 500)), (1, .long s)]) (st' := [.int (lN (qn + 1)).toInt32]) rfl ?_
  rw [lN_i (qn + 1)]
  exact rtI rt rfl rfl (eq_o rfl rfl)

set_option maxRecDepth 100000 in
set_option maxHeartbeats 4000000 in
theorem sp_sum (ad : Nat → Nat) (I : FI) (J : FJ) (A : FI) (B : FJ) (s : Int64) (nf qn : Nat) (hF : B 501 0 = lN nf) (hQ : B 501 327 = lN qn) (h : qn ≤ 100) : Spec M_X9_sum [.ref (ad 500), .long s] (YR ad) I J A B (eqP (some (.int (o_sum nf qn (B 501) s).1)) (YR ad) I J A (va_up B 501 (o_sum nf qn (B 501) s).2)) := by
  refine Spec_of (by decide) tk_X9_sum (Nat.le_of_ble_eq_true rfl) (fun X g rt => ?_)
  show Sim X (YR ad) 0 [(0, .ref (ad 500)), (1, .long s)] [] I J A B 0 0
  refine S_n g 2 (pc' := 2) (lv' := [(0, .ref (ad 500)), (1, .long s)]) (st' := [.long (lN 0), .long s]) rfl ?_
  refine S_lc_le g (tgt := 17) rfl rfl (by decide) (fun qz2 => ?_) (fun qz2 => ?_)
  · skip
    refine S_n g 1 (pc' := 19) (lv' := [(0, .ref (ad 500)), (1, .long s)]) (st' := [.int (-nI 101)]) rfl ?_
    exact rtI rt rfl rfl (eq_o (by simp [o_sum, qz2]) (va_id _ _).symm)
  · skip
    refine S_n g 2 (pc' := 8) (lv' := [(0, .ref (ad 500)), (1, .long s)]) (st' := [.ref (ad 500), .long s]) rfl ?_
    refine S_cV g (i := 500) (As := []) (st := [.long s]) (sp_pieces ad I J A B nf hF) mw_X9_pieces lk_X9_75 ⟨Nat.le_of_ble_eq_true rfl, Nat.le_of_ble_eq_true rfl⟩ (by decide) (by decide) rfl rfl (Nat.le_of_ble_eq_true rfl) ⟨Nat.le_of_ble_eq_true rfl, Nat.le_of_ble_eq_true rfl⟩ rfl ?_
    show Sim X (YR ad) 11 [(0, .ref (ad 500)), (1, .long s)] [.int (nI (12 * nf)), .long s] I J A B 0 0
    refine S_n g 2 (pc' := 13) (lv' := [(0, .ref (ad 500)), (1, .long s)]) (st' := [.long (lN 0), .long (s >>> ((nI (12 * nf)).toInt64 &&& 63))]) rfl ?_
    refine S_lc_eq g (tgt := 20) rfl rfl (by decide) (fun qz13 => ?_) (fun qz13 => ?_)
    · skip
      refine S_n g 1 (pc' := 21) (lv' := [(0, .ref (ad 500)), (1, .long s)]) (st' := [.ref (ad 500)]) rfl ?_
      refine S_getR g (i := 500) (c := 9) (k := 0) (j := 501) (by decide) (by decide) rfl rfl rfl fl_X9_7 rfl ?_
      refine S_n g 1 (pc' := 27) (lv' := [(0, .ref (ad 500)), (1, .long s)]) (st' := [.int (nI 327), .ref (ad 501)]) rfl ?_
      refine S_laldN g (i := 501) (e := 327) (by decide) rfl (show 327 < 621 from by omega) (show (621 : Nat) < 2 ^ 31 from by decide) rfl ?_
      rw [hQ]
      refine S_ldc2 g kc_X9_130 rfl ?_
      refine S_lcN_ne g (tgt := 40) (by omega) (by omega) rfl rfl (by decide) (fun qz31 => ?_) (fun qz31 => ?_)
      · skip
        refine S_n g 2 (pc' := 42) (lv' := [(0, .ref (ad 500)), (1, .long s)]) (st' := [.long s, .ref (ad 500)]) rfl ?_
        refine S_cV g (i := 500) (As := [.long s]) (st := []) (sp_queues ad I J A B s qn hQ (by omega)) mw_X9_queues lk_X9_132 ⟨Nat.le_of_ble_eq_true rfl, Nat.le_of_ble_eq_true rfl⟩ (by decide) (by decide) rfl rfl (Nat.le_of_ble_eq_true rfl) ⟨Nat.le_of_ble_eq_true rfl, Nat.le_of_ble_eq_true rfl⟩ rfl ?_
        show Sim X (YR ad) 45 [(0, .ref (ad 500)), (1, .long s)] [.int (o_queues qn (B 501) s).1] I J A (va_up B 501 (o_queues qn (B 501) s).2) 0 0
        exact rtI rt rfl rfl (eq_o (by simp [o_sum, nle64.mpr qz2, qz13, show ¬ qn = 100 from by omega]) rfl)
      · skip
        refine S_n g 2 (pc' := 45) (lv' := [(0, .ref (ad 500)), (1, .long s)]) (st' := [.int (-nI 103)]) rfl ?_
        exact rtI rt rfl rfl (eq_o (by simp [o_sum, nle64.mpr qz2, qz13, show qn = 100 from by omega]) (va_id _ _).symm)
    · skip
      refine S_n g 1 (pc' := 19) (lv' := [(0, .ref (ad 500)), (1, .long s)]) (st' := [.int (-nI 101)]) rfl ?_
      exact rtI rt rfl rfl (eq_o (by simp [o_sum, qz13]) (va_id _ _).symm)

set_option maxRecDepth 100000 in
set_option maxHeartbeats 4000000 in
theorem sp_resend (ad : Nat → Nat) (I : FI) (J : FJ) (A : FI) (B : FJ) (x : Int32) (qn hn : Nat) (hQ : B 501 327 = lN qn) (h : qn ≤ 100) (hH : B 501 428 = lN hn) (hh : hn ≤ 100) : Spec M_X9_resend [.ref (ad 500), .int x] (YR ad) I J A B (eqP (some (.int (o_resend qn hn (B 501) x).1)) (YR ad) I J A (va_up B 501 (o_resend qn hn (B 501) x).2)) := by
  refine Spec_of (by decide) tk_X9_resend (Nat.le_of_ble_eq_true rfl) (fun X g rt => ?_)
  show Sim X (YR ad) 0 [(0, .ref (ad 500)), (1, .int x)] [] I J A B 0 0
  refine S_n g 4 (pc' := 4) (lv' := [(0, .ref (ad 500)), (1, .int x)]) (st' := [.ref (ad 500), .long (lN 0), .long x.toInt64]) rfl ?_
  refine S_getR g (i := 500) (c := 9) (k := 0) (j := 501) (by decide) (by decide) rfl rfl rfl fl_X9_7 rfl ?_
  refine S_n g 1 (pc' := 10) (lv' := [(0, .ref (ad 500)), (1, .int x)]) (st' := [.int (nI 428), .ref (ad 501), .long (lN 0), .long x.toInt64]) rfl ?_
  refine S_laldN g (i := 501) (e := 428) (by decide) rfl (show 428 < 621 from by omega) (show (621 : Nat) < 2 ^ 31 from by decide) rfl ?_
  rw [hH]
  refine S_n g 2 (pc' := 13) (lv' := [(0, .ref (ad 500)), (1, .int x)]) (st' := [.long ((lN hn) - (lN 1)), .long (lN 0), .long x.toInt64]) rfl ?_
  refine S_cS g (As := [.long x.toInt64, .long (lN 0), .long ((lN hn) - (lN 1))]) (st := []) (sp_in (YR ad) I J A B x.toInt64 (lN 0) ((lN hn) - (lN 1))) mw_X9_in lk_X9_63 ⟨Nat.le_of_ble_eq_true rfl, Nat.le_of_ble_eq_true rfl⟩ rfl (Nat.le_of_ble_eq_true rfl) ⟨Nat.le_of_ble_eq_true rfl, Nat.le_of_ble_eq_true rfl⟩ rfl ?_
  show Sim X (YR ad) 16 [(0, .ref (ad 500)), (1, .int x)] [.int (bI (inL x.toInt64 (lN 0) ((lN hn) - (lN 1))))] I J A B 0 0
  refine S_steq (st' := [.int (bI (isIx x hn))]) (by rw [(show bI (inL x.toInt64 (lN 0) ((lN hn) - (lN 1))) = bI (isIx x hn) from by rw [in_ix (by omega)]).symm]) ?_
  refine S_ifB_ne g (tgt := 22) rfl (by decide) (fun qz16 => ?_) (fun qz16 => ?_)
  · skip
    obtain ⟨i, hi, hxi⟩ := isIx_t qz16
    subst hxi
    have hci : (nI i).toNatClampNeg = i := nI_clamp (by omega)
    refine S_n g 1 (pc' := 23) (lv' := [(0, .ref (ad 500)), (1, .int (nI i))]) (st' := [.ref (ad 500)]) rfl ?_
    refine S_getR g (i := 500) (c := 9) (k := 0) (j := 501) (by decide) (by decide) rfl rfl rfl fl_X9_7 rfl ?_
    refine S_n g 1 (pc' := 29) (lv' := [(0, .ref (ad 500)), (1, .int (nI i))]) (st' := [.int (nI 327), .ref (ad 501)]) rfl ?_
    refine S_laldN g (i := 501) (e := 327) (by decide) rfl (show 327 < 621 from by omega) (show (621 : Nat) < 2 ^ 31 from by decide) rfl ?_
    rw [hQ]
    refine S_ldc2 g kc_X9_130 rfl ?_
    refine S_lcN_ne g (tgt := 42) (by omega) (by omega) rfl rfl (by decide) (fun qz33 => ?_) (fun qz33 => ?_)
    · skip
      refine S_n g 2 (pc' := 44) (lv' := [(0, .ref (ad 500)), (1, .int (nI i))]) (st' := [.ref (ad 500), .ref (ad 500)]) rfl ?_
      refine S_getR g (i := 500) (c := 9) (k := 0) (j := 501) (by decide) (by decide) rfl rfl rfl fl_X9_7 rfl ?_
      refine S_n g 3 (pc' := 52) (lv' := [(0, .ref (ad 500)), (1, .int (nI i))]) (st' := [.int ((nI 429) + (nI i)), .ref (ad 501), .ref (ad 500)]) rfl ?_
      rw [nI_add 429 i]
      refine S_laldN g (i := 501) (e := 429 + i) (by decide) rfl (show 429 + i < 621 from by omega) (show (621 : Nat) < 2 ^ 31 from by decide) rfl ?_
      refine S_cV g (i := 500) (As := [.long (B 501 (429 + i))]) (st := []) (sp_queues ad I J A B (B 501 (429 + i)) qn hQ (by omega)) mw_X9_queues lk_X9_132 ⟨Nat.le_of_ble_eq_true rfl, Nat.le_of_ble_eq_true rfl⟩ (by decide) (by decide) rfl rfl (Nat.le_of_ble_eq_true rfl) ⟨Nat.le_of_ble_eq_true rfl, Nat.le_of_ble_eq_true rfl⟩ rfl ?_
      show Sim X (YR ad) 56 [(0, .ref (ad 500)), (1, .int (nI i))] [.int (o_queues qn (B 501) (B 501 (429 + i))).1] I J A (va_up B 501 (o_queues qn (B 501) (B 501 (429 + i))).2) 0 0
      exact rtI rt rfl rfl (eq_o (by simp [o_resend, qz16, hci, show ¬ qn = 100 from by omega]) rfl)
    · skip
      refine S_n g 2 (pc' := 56) (lv' := [(0, .ref (ad 500)), (1, .int (nI i))]) (st' := [.int (-nI 103)]) rfl ?_
      exact rtI rt rfl rfl (eq_o (by simp [o_resend, qz16, hci, show qn = 100 from by omega]) (va_id _ _).symm)
  · skip
    refine S_n g 1 (pc' := 21) (lv' := [(0, .ref (ad 500)), (1, .int x)]) (st' := [.int (-nI 101)]) rfl ?_
    exact rtI rt rfl rfl (eq_o (by simp [o_resend, qz16]) (va_id _ _).symm)

set_option maxRecDepth 100000 in
set_option maxHeartbeats 4000000 in
theorem sp_pending (ad : Nat → Nat) (I : FI) (J : FJ) (A : FI) (B : FJ) (x : Int32) (qn : Nat) (hQ : B 501 327 = lN qn) (h : qn ≤ 100) : Spec M_X9_pending [.ref (ad 500), .int x] (YR ad) I J A B (eqP (some (.long (o_at 328 qn (B 501) x))) (YR ad) I J A B) := by
  refine Spec_of (by decide) tk_X9_pending (Nat.le_of_ble_eq_true rfl) (fun X g rt => ?_)
  show Sim X (YR ad) 0 [(0, .ref (ad 500)), (1, .int x)] [] I J A B 0 0
  refine S_n g 4 (pc' := 4) (lv' := [(0, .ref (ad 500)), (1, .int x)]) (st' := [.ref (ad 500), .long (lN 0), .long x.toInt64]) rfl ?_
  refine S_getR g (i := 500) (c := 9) (k := 0) (j := 501) (by decide) (by decide) rfl rfl rfl fl_X9_7 rfl ?_
  refine S_n g 1 (pc' := 10) (lv' := [(0, .ref (ad 500)), (1, .int x)]) (st' := [.int (nI 327), .ref (ad 501), .long (lN 0), .long x.toInt64]) rfl ?_
  refine S_laldN g (i := 501) (e := 327) (by decide) rfl (show 327 < 621 from by omega) (show (621 : Nat) < 2 ^ 31 from by decide) rfl ?_
  rw [hQ]
  refine S_n g 2 (pc' := 13) (lv' := [(0, .ref (ad 500)), (1, .int x)]) (st' := [.long ((lN qn) - (lN 1)), .long (lN 0), .long x.toInt64]) rfl ?_
  refine S_cS g (As := [.long x.toInt64, .long (lN 0), .long ((lN qn) - (lN 1))]) (st := []) (sp_in (YR ad) I J A B x.toInt64 (lN 0) ((lN qn) - (lN 1))) mw_X9_in lk_X9_63 ⟨Nat.le_of_ble_eq_true rfl, Nat.le_of_ble_eq_true rfl⟩ rfl (Nat.le_of_ble_eq_true rfl) ⟨Nat.le_of_ble_eq_true rfl, Nat.le_of_ble_eq_true rfl⟩ rfl ?_
  show Sim X (YR ad) 16 [(0, .ref (ad 500)), (1, .int x)] [.int (bI (inL x.toInt64 (lN 0) ((lN qn) - (lN 1))))] I J A B 0 0
  refine S_steq (st' := [.int (bI (isIx x qn))]) (by rw [(show bI (inL x.toInt64 (lN 0) ((lN qn) - (lN 1))) = bI (isIx x qn) from by rw [in_ix (by omega)]).symm]) ?_
  refine S_ifB_eq g (tgt := 32) rfl (by decide) (fun qz16 => ?_) (fun qz16 => ?_)
  · skip
    refine S_n g 1 (pc' := 33) (lv' := [(0, .ref (ad 500)), (1, .int x)]) (st' := [.long (lN 0)]) rfl ?_
    exact rtL rt rfl rfl (eq_l (by simp [o_at, qz16]))
  · skip
    obtain ⟨i, hi, hxi⟩ := isIx_t qz16
    subst hxi
    have hci : (nI i).toNatClampNeg = i := nI_clamp (by omega)
    refine S_n g 1 (pc' := 20) (lv' := [(0, .ref (ad 500)), (1, .int (nI i))]) (st' := [.ref (ad 500)]) rfl ?_
    refine S_getR g (i := 500) (c := 9) (k := 0) (j := 501) (by decide) (by decide) rfl rfl rfl fl_X9_7 rfl ?_
    refine S_n g 3 (pc' := 28) (lv' := [(0, .ref (ad 500)), (1, .int (nI i))]) (st' := [.int ((nI 328) + (nI i)), .ref (ad 501)]) rfl ?_
    rw [nI_add 328 i]
    refine S_laldN g (i := 501) (e := 328 + i) (by decide) rfl (show 328 + i < 621 from by omega) (show (621 : Nat) < 2 ^ 31 from by decide) rfl ?_
    refine S_n g 1 (pc' := 33) (lv' := [(0, .ref (ad 500)), (1, .int (nI i))]) (st' := [.long (B 501 (328 + i))]) rfl ?_
    exact rtL rt rfl rfl (eq_l (by simp [o_at, qz16, hci]))

set_option maxRecDepth 100000 in
set_option maxHeartbeats 4000000 in
theorem sp_sent (ad : Nat → Nat) (I : FI) (J : FJ) (A : FI) (B : FJ) (x : Int32) (qn : Nat) (hQ : B 501 428 = lN qn) (h : qn ≤ 100) : Spec M_X9_sent [.ref (ad 500), .int x] (YR ad) I J A B (eqP (some (.long (o_at 429 qn (B 501) x))) (YR ad) I J A B) := by
  refine Spec_of (by decide) tk_X9_sent (Nat.le_of_ble_eq_true rfl) (fun X g rt => ?_)
  show Sim X (YR ad) 0 [(0, .ref (ad 500)), (1, .int x)] [] I J A B 0 0
  refine S_n g 4 (pc' := 4) (lv' := [(0, .ref (ad 500)), (1, .int x)]) (st' := [.ref (ad 500), .long (lN 0), .long x.toInt64]) rfl ?_
  refine S_getR g (i := 500) (c := 9) (k := 0) (j := 501) (by decide) (by decide) rfl rfl rfl fl_X9_7 rfl ?_
  refine S_n g 1 (pc' := 10) (lv' := [(0, .ref (ad 500)), (1, .int x)]) (st' := [.int (nI 428), .ref (ad 501), .long (lN 0), .long x.toInt64]) rfl ?_
  refine S_laldN g (i := 501) (e := 428) (by decide) rfl (show 428 < 621 from by omega) (show (621 : Nat) < 2 ^ 31 from by decide) rfl ?_
  rw [hQ]
  refine S_n g 2 (pc' := 13) (lv' := [(0, .ref (ad 500)), (1, .int x)]) (st' := [.long ((lN qn) - (lN 1)), .long (lN 0), .long x.toInt64]) rfl ?_
  refine S_cS g (As := [.long x.toInt64, .long (lN 0), .long ((lN qn) - (lN 1))]) (st := []) (sp_in (YR ad) I J A B x.toInt64 (lN 0) ((lN qn) - (lN 1))) mw_X9_in lk_X9_63 ⟨Nat.le_of_ble_eq_true rfl, Nat.le_of_ble_eq_true rfl⟩ rfl (Nat.le_of_ble_eq_true rfl) ⟨Nat.le_of_ble_eq_true rfl, Nat.le_of_ble_eq_true rfl⟩ rfl ?_
  show Sim X (YR ad) 16 [(0, .ref (ad 500)), (1, .int x)] [.int (bI (inL x.toInt64 (lN 0) ((lN qn) - (lN 1))))] I J A B 0 0
  refine S_steq (st' := [.int (bI (isIx x qn))]) (by rw [(show bI (inL x.toInt64 (lN 0) ((lN qn) - (lN 1))) = bI (isIx x qn) from by rw [in_ix (by omega)]).symm]) ?_
  refine S_ifB_eq g (tgt := 32) rfl (by decide) (fun qz16 => ?_) (fun qz16 => ?_)
  · skip
    refine S_n g 1 (pc' := 33) (lv' := [(0, .ref (ad 500)), (1, .int x)]) (st' := [.long (lN 0)]) rfl ?_
    exact rtL rt rfl rfl (eq_l (by simp [o_at, qz16]))
  · skip
    obtain ⟨i, hi, hxi⟩ := isIx_t qz16
    subst hxi
    have hci : (nI i).toNatClampNeg = i := nI_clamp (by omega)
    refine S_n g 1 (pc' := 20) (lv' := [(0, .ref (ad 500)), (1, .int (nI i))]) (st' := [.ref (ad 500)]) rfl ?_
    refine S_getR g (i := 500) (c := 9) (k := 0) (j := 501) (by decide) (by decide) rfl rfl rfl fl_X9_7 rfl ?_
    refine S_n g 3 (pc' := 28) (lv' := [(0, .ref (ad 500)), (1, .int (nI i))]) (st' := [.int ((nI 429) + (nI i)), .ref (ad 501)]) rfl ?_
    rw [nI_add 429 i]
    refine S_laldN g (i := 501) (e := 429 + i) (by decide) rfl (show 429 + i < 621 from by omega) (show (621 : Nat) < 2 ^ 31 from by decide) rfl ?_
    refine S_n g 1 (pc' := 33) (lv' := [(0, .ref (ad 500)), (1, .int (nI i))]) (st' := [.long (B 501 (429 + i))]) rfl ?_
    exact rtL rt rfl rfl (eq_l (by simp [o_at, qz16, hci]))
