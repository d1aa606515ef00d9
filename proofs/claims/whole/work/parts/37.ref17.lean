/-! the reference, part 17: the text and its calls -/
/-- the letter at a: one more than it, or 0 behind the end -/
def ch (tc : Nat → Nat) (n a : Nat) : Nat := if a < n then tc a + 1 else 0
def isD (c : Nat) : Bool := decide (49 ≤ c ∧ c ≤ 58)
def bk (tc : Nat → Nat) (n : Nat) : Nat → Nat → Nat
  | 0, a => a
  | k + 1, a => if ch tc n a = 33 then bk tc n k (a + 1) else a
/-- behind the blanks -/
def bl (tc : Nat → Nat) (n a : Nat) : Nat := bk tc n (n - a) a
theorem bl_y {tc : Nat → Nat} {n a : Nat} (h : ch tc n a = 33) : bl tc n a = bl tc n (a + 1) := by
  have h1 : a < n := by
    unfold ch at h
    split at h
    · assumption
    · omega
  unfold bl
  rw [show n - a = (n - (a + 1)) + 1 from by omega, bk, if_pos h]
theorem bl_n {tc : Nat → Nat} {n a : Nat} (h : ¬ ch tc n a = 33) : bl tc n a = a := by
  unfold bl
  cases n - a with
  | zero => rfl
  | succ k => rw [bk, if_neg h]
theorem bk_ge (tc : Nat → Nat) (n : Nat) : ∀ k a, a ≤ bk tc n k a ∧ bk tc n k a ≤ a + k
  | 0, a => ⟨Nat.le_refl _, Nat.le_refl _⟩
  | k + 1, a => by
    have := bk_ge tc n k (a + 1)
    unfold bk
    split <;> omega
theorem bl_ge (tc : Nat → Nat) (n a : Nat) : a ≤ bl tc n a := (bk_ge tc n (n - a) a).1
theorem bl_le {tc : Nat → Nat} {n a : Nat} (h : a ≤ n) : bl tc n a ≤ n := by
  have := (bk_ge tc n (n - a) a).2
  unfold bl
  omega
theorem ch_pos {tc : Nat → Nat} {n a : Nat} (h : 0 < ch tc n a) : a < n := by
  unfold ch at h
  split at h
  · assumption
  · omega
/-- digits from a on, at most k of them: the number, and the place behind them -/
def dgs (tc : Nat → Nat) (n : Nat) : Nat → Nat → Nat → Nat × Nat
  | 0, a, v => (v, a)
  | k + 1, a, v => if isD (ch tc n a) = true then dgs tc n k (a + 1) (10 * v + (ch tc n a - 1) - 48) else (v, a)
theorem isD_t {c : Nat} (h : isD c = true) : 49 ≤ c ∧ c ≤ 58 := of_decide_eq_true h
theorem dgs_ge (tc : Nat → Nat) (n : Nat) : ∀ k a v, a ≤ (dgs tc n k a v).2 ∧ (a ≤ n → (dgs tc n k a v).2 ≤ n) ∧ (dgs tc n k a v).1 + 1 ≤ (v + 1) * 10 ^ k
  | 0, a, v => ⟨Nat.le_refl _, fun h => h, by show v + 1 ≤ _; omega⟩
  | k + 1, a, v => by
    unfold dgs
    split
    · next h =>
      have h1 := isD_t h
      have h2 := dgs_ge tc n k (a + 1) (10 * v + (ch tc n a - 1) - 48)
      have h3 := ch_pos (show 0 < ch tc n a by omega)
      refine ⟨by omega, fun _ => h2.2.1 (by omega), Nat.le_trans h2.2.2 ?_⟩
      rw [Nat.pow_succ, Nat.mul_comm (10 ^ k) 10, ← Nat.mul_assoc]
      exact Nat.mul_le_mul_right _ (by omega)
    · refine ⟨Nat.le_refl _, fun h => h, ?_⟩
      have : 1 ≤ 10 ^ (k + 1) := Nat.one_le_pow _ _ (by decide)
      exact Nat.le_trans (by omega) (Nat.mul_le_mul_left (v + 1) this)
/-- a number of at most w digits: one more than it, or 0; and the place behind it -/
def num (tc : Nat → Nat) (n w a : Nat) : Nat × Nat := (if (dgs tc n w a 0).2 = a then 0 else (dgs tc n w a 0).1 + 1, if isD (ch tc n (dgs tc n w a 0).2) = true then (dgs tc n w a 0).2 else bl tc n (dgs tc n w a 0).2)
theorem num_b {tc : Nat → Nat} {n w a : Nat} (ha : a ≤ n) : a ≤ (num tc n w a).2 ∧ (num tc n w a).2 ≤ n ∧ (num tc n w a).1 ≤ 10 ^ w ∧ (0 < (num tc n w a).1 → a + 1 ≤ (num tc n w a).2) := by
  have h := dgs_ge tc n w a 0
  have h1 := bl_ge tc n (dgs tc n w a 0).2
  have h2 := bl_le (tc := tc) (h.2.1 ha)
  have h3 := h.2.1 ha
  have h4 := h.2.2
  rw [Nat.zero_add, Nat.one_mul] at h4
  have h5 : 1 ≤ 10 ^ w := Nat.one_le_pow _ _ (by decide)
  unfold num
  refine ⟨?_, ?_, ?_, ?_⟩
  · show a ≤ (if _ then _ else _); split <;> omega
  · show (if _ then _ else _) ≤ n; split <;> omega
  · show (if _ then _ else _) ≤ _; split <;> omega
  · show 0 < (if _ then _ else _) → _ ≤ (if _ then _ else _)
    split
    · intro q; omega
    · intro _; split <;> omega
/-- how many arguments a letter's call has -/
def agN (c : Nat) : Nat := if c = 120 then 2 else if c = 111 ∨ c = 114 ∨ c = 106 ∨ c = 116 ∨ c = 117 ∨ c = 109 ∨ c = 107 then 1 else 0
def wdN (c : Nat) : Nat := if c = 114 ∨ c = 106 ∨ c = 117 then 2 else 1
/-- a call's end from e on -/
def rdZ (tc : Nat → Nat) (n e c v1 v2 : Nat) : Bool × Nat × (Nat × Nat × Nat) := if ch tc n e = 60 then (true, bl tc n (e + 1), (c, v1, v2)) else (false, e, (0, 0, 0))
/-- a call from a on: whether there is one, the place behind it or of the fault, the call -/
def rdC (tc : Nat → Nat) (n a : Nat) : Bool × Nat × (Nat × Nat × Nat) :=
  if agN (ch tc n a) = 0 then (false, a, (0, 0, 0)) else
  if (num tc n (wdN (ch tc n a)) (bl tc n (a + 1))).1 = 0 then (false, (num tc n (wdN (ch tc n a)) (bl tc n (a + 1))).2, (0, 0, 0)) else
  if agN (ch tc n a) = 1 then rdZ tc n (bl tc n (num tc n (wdN (ch tc n a)) (bl tc n (a + 1))).2) (ch tc n a - 1) ((num tc n (wdN (ch tc n a)) (bl tc n (a + 1))).1 - 1) 0 else
  if (num tc n (wdN (ch tc n a)) (bl tc n (num tc n (wdN (ch tc n a)) (bl tc n (a + 1))).2)).1 = 0 then (false, (num tc n (wdN (ch tc n a)) (bl tc n (num tc n (wdN (ch tc n a)) (bl tc n (a + 1))).2)).2, (0, 0, 0)) else
  rdZ tc n (bl tc n (num tc n (wdN (ch tc n a)) (bl tc n (num tc n (wdN (ch tc n a)) (bl tc n (a + 1))).2)).2) (ch tc n a - 1) ((num tc n (wdN (ch tc n a)) (bl tc n (a + 1))).1 - 1) ((num tc n (wdN (ch tc n a)) (bl tc n (num tc n (wdN (ch tc n a)) (bl tc n (a + 1))).2)).1 - 1)
theorem agN_pos {c : Nat} (h : ¬ agN c = 0) : 0 < c := by
  cases c with
  | zero => exact absurd rfl h
  | succ k => omega
theorem agN_le (c : Nat) : agN c ≤ 2 := by unfold agN; split <;> (try split) <;> omega
theorem wdN_le (c : Nat) : wdN c ≤ 2 := by unfold wdN; split <;> omega
theorem rdZ_b {tc : Nat → Nat} {n e c v1 v2 : Nat} (he : e ≤ n) : (rdZ tc n e c v1 v2).2.1 ≤ n ∧ e ≤ (rdZ tc n e c v1 v2).2.1 ∧ ((rdZ tc n e c v1 v2).1 = true → e + 1 ≤ (rdZ tc n e c v1 v2).2.1) := by
  unfold rdZ
  split
  · next h =>
    have h1 := ch_pos (show 0 < ch tc n e by omega)
    have h2 := bl_ge tc n (e + 1)
    have h3 := bl_le (tc := tc) (show e + 1 ≤ n from h1)
    exact ⟨h3, by show e ≤ bl tc n (e + 1); omega, fun _ => h2⟩
  · exact ⟨he, Nat.le_refl _, fun q => Bool.noConfusion q⟩
theorem rdC_b {tc : Nat → Nat} {n a : Nat} (ha : a ≤ n) : (rdC tc n a).2.1 ≤ n ∧ a ≤ (rdC tc n a).2.1 ∧ ((rdC tc n a).1 = true → a + 3 ≤ (rdC tc n a).2.1) := by
  unfold rdC
  split
  · exact ⟨ha, Nat.le_refl _, fun q => Bool.noConfusion q⟩
  · next h0 =>
    have h1 := ch_pos (agN_pos h0)
    have h2 := bl_ge tc n (a + 1)
    have h3 := bl_le (tc := tc) (show a + 1 ≤ n from h1)
    obtain ⟨b1, b2, b3, b4⟩ := num_b (tc := tc) (w := wdN (ch tc n a)) h3
    split
    · exact ⟨b2, by show a ≤ (num _ _ _ _).2; omega, fun q => Bool.noConfusion q⟩
    · next h4 =>
      have b5 := b4 (by omega)
      have c1 := bl_ge tc n (num tc n (wdN (ch tc n a)) (bl tc n (a + 1))).2
      have c2 := bl_le (tc := tc) b2
      split
      · obtain ⟨d1, d2, d3⟩ := rdZ_b (tc := tc) (c := ch tc n a - 1) (v1 := (num tc n (wdN (ch tc n a)) (bl tc n (a + 1))).1 - 1) (v2 := 0) c2
        exact ⟨d1, by omega, fun q => by have := d3 q; omega⟩
      · obtain ⟨e1, e2, e3, e4⟩ := num_b (tc := tc) (w := wdN (ch tc n a)) c2
        split
        · exact ⟨e2, by show a ≤ (num _ _ _ _).2; omega, fun q => Bool.noConfusion q⟩
        · have f1 := bl_ge tc n (num tc n (wdN (ch tc n a)) (bl tc n (num tc n (wdN (ch tc n a)) (bl tc n (a + 1))).2)).2
          have f2 := bl_le (tc := tc) e2
          obtain ⟨d1, d2, d3⟩ := rdZ_b (tc := tc) (c := ch tc n a - 1) (v1 := (num tc n (wdN (ch tc n a)) (bl tc n (a + 1))).1 - 1) (v2 := (num tc n (wdN (ch tc n a)) (bl tc n (num tc n (wdN (ch tc n a)) (bl tc n (a + 1))).2)).1 - 1) f2
          exact ⟨d1, by omega, fun q => by have := d3 q; omega⟩
/-- the calls from a on, behind those of L: the fault's place (one more than it, or 0), where the reader stands, the calls -/
def flt (tc : Nat → Nat) (n : Nat) : Nat → Nat → List (Nat × Nat × Nat) → Nat × Nat × List (Nat × Nat × Nat)
  | 0, a, L => (0, a, L)
  | k + 1, a, L => if a < n then (if (rdC tc n a).1 = true then flt tc n k (rdC tc n a).2.1 (L ++ [(rdC tc n a).2.2]) else ((rdC tc n a).2.1 + 1, (rdC tc n a).2.1, L)) else (0, a, L)
def o_fault (tc : Nat → Nat) (n : Nat) : Nat × Nat × List (Nat × Nat × Nat) := flt tc n 81 (bl tc n 0) []
/-- the row of calls holds those of L -/
def RC (r : Nat → Int32) (L : List (Nat × Nat × Nat)) : Prop := ∀ k, (h : k < L.length) → r (3 * k) = nI L[k].1 ∧ L[k].1 < 128 ∧ r (3 * k + 1) = nI L[k].2.1 ∧ L[k].2.1 < 100 ∧ (L[k].1 = 119 → r (3 * k + 2) = nI L[k].2.2 ∧ L[k].2.2 < 100)
def RT_ (A : FI) (tc : Nat → Nat) (n : Nat) : Prop := n ≤ 80 ∧ ∀ i, i < n → A 504 i = nI (tc i) ∧ tc i < 128
theorem ch_lt {A : FI} {tc : Nat → Nat} {n : Nat} (h : RT_ A tc n) (a : Nat) : ch tc n a ≤ 128 := by
  unfold ch
  split
  · next q => have := (h.2 a q).2; omega
  · omega
theorem isD_in {c : Nat} (h : c < 1000) : inL (hI c).toInt64 (lN 48) (lN 57) = isD c := by
  rw [inL_n (by decide) (by decide)]
  unfold isD
  congr 1
  apply propext
  cases c with
  | zero =>
    have : (hI 0).toInt = -1 := by decide
    rw [this]; omega
  | succ k =>
    rw [hI_pos (by omega), Nat.add_sub_cancel, nI_toInt (by omega)]
    omega
theorem hI_lit {c k : Nat} (hc : c < 2 ^ 31) (hk : k < 2 ^ 31) : hI c = nI k ↔ c = k + 1 := hI_eq hc hk

set_option maxRecDepth 100000 in
set_option maxHeartbeats 4000000 in
theorem sp_clearText (ad : Nat → Nat) (I : FI) (J : FJ) (A : FI) (B : FJ) (n : Nat) (hI4 : I 500 4 = nI n) : Spec M_X9_clearText [.ref (ad 500)] (YR ad) I J A B (eqP (some (.int (nI n))) (YR ad) (up2 I 500 4 (nI 0)) J A B) := by
  refine Spec_of (by decide) tk_X9_clearText (Nat.le_of_ble_eq_true rfl) (fun X g rt => ?_)
  show Sim X (YR ad) 0 [(0, .ref (ad 500))] [] I J A B 0 0
  refine S_n g 1 (pc' := 1) (lv' := [(0, .ref (ad 500))]) (st' := [.ref (ad 500)]) rfl ?_
  refine S_getI g (i := 500) (c := 9) (k := 4) (by decide) (by decide) rfl rfl fl_X9_232 rfl ?_
  rw [hI4]
  refine S_n g 3 (pc' := 7) (lv' := [(0, .ref (ad 500)), (1, .int (nI n))]) (st' := [.int (nI 0), .ref (ad 500)]) rfl ?_
  refine S_putI g (i := 500) (c := 9) (k := 4) (kd := 0) (by decide) (by decide) rfl rfl (by decide) fw_X9_232 rfl rfl rfl ?_
  refine S_n g 1 (pc' := 11) (lv' := [(0, .ref (ad 500)), (1, .int (nI n))]) (st' := [.int (nI n)]) rfl ?_
  exact rtI rt rfl rfl eqP_rf

set_option maxRecDepth 100000 in
set_option maxHeartbeats 4000000 in
theorem sp_type (ad : Nat → Nat) (I : FI) (J : FJ) (A : FI) (B : FJ) (x : Int32) (n : Nat) (hI4 : I 500 4 = nI n) (hn : n ≤ 80) : Spec M_X9_type [.ref (ad 500), .int x] (YR ad) I J A B (eqP (some (.int (if isIx x 128 = true then (if n = 80 then -nI 103 else nI (n + 1)) else -nI 101))) (YR ad) (if isIx x 128 = true ∧ n < 80 then up2 I 500 4 (nI (n + 1)) else I) J (if isIx x 128 = true ∧ n < 80 then va_up A 504 (va_up (A 504) n x) else A) B) := by
  refine Spec_of (by decide) tk_X9_type (Nat.le_of_ble_eq_true rfl) (fun X g rt => ?_)
  show Sim X (YR ad) 0 [(0, .ref (ad 500)), (1, .int x)] [] I J A B 0 0
  refine S_n g 3 (pc' := 3) (lv' := [(0, .ref (ad 500)), (1, .int x)]) (st' := [.long (lN 0), .long x.toInt64]) rfl ?_
  refine S_ldc2 g kc_X9_230 rfl ?_
  refine S_cS g (As := [.long x.toInt64, .long (lN 0), .long (lN 127)]) (st := []) (sp_in (YR ad) I J A B x.toInt64 (lN 0) (lN 127)) mw_X9_in lk_X9_63 ⟨Nat.le_of_ble_eq_true rfl, Nat.le_of_ble_eq_true rfl⟩ rfl (Nat.le_of_ble_eq_true rfl) ⟨Nat.le_of_ble_eq_true rfl, Nat.le_of_ble_eq_true rfl⟩ rfl ?_
  show Sim X (YR ad) 9 [(0, .ref (ad 500)), (1, .int x)] [.int (bI (inL x.toInt64 (lN 0) (lN 127)))] I J A B 0 0
  refine S_steq (st' := [.int (bI (isIx x 128))]) (by rw [(show bI (inL x.toInt64 (lN 0) (lN 127)) = bI (isIx x 128) from by rw [in_ix2 (by decide)]).symm]) ?_
  refine S_ifB_ne g (tgt := 15) rfl (by decide) (fun qz9 => ?_) (fun qz9 => ?_)
  · skip
    refine S_n g 1 (pc' := 16) (lv' := [(0, .ref (ad 500)), (1, .int x)]) (st' := [.ref (ad 500)]) rfl ?_
    refine S_getI g (i := 500) (c := 9) (k := 4) (by decide) (by decide) rfl rfl fl_X9_232 rfl ?_
    rw [hI4]
    refine S_n g 1 (pc' := 21) (lv' := [(0, .ref (ad 500)), (1, .int x)]) (st' := [.int (nI 80), .int (nI n)]) rfl ?_
    refine S_icN_ne g (tgt := 27) (by omega) (by omega) rfl (by decide) (fun qz21 => ?_) (fun qz21 => ?_)
    · skip
      refine S_n g 1 (pc' := 28) (lv' := [(0, .ref (ad 500)), (1, .int x)]) (st' := [.ref (ad 500)]) rfl ?_
      refine S_getR g (i := 500) (c := 9) (k := 3) (j := 504) (by decide) (by decide) rfl rfl rfl fl_X9_20 rfl ?_
      refine S_n g 1 (pc' := 32) (lv' := [(0, .ref (ad 500)), (1, .int x)]) (st' := [.ref (ad 500), .ref (ad 504)]) rfl ?_
      refine S_getI g (i := 500) (c := 9) (k := 4) (by decide) (by decide) rfl rfl fl_X9_232 rfl ?_
      rw [hI4]
      refine S_n g 1 (pc' := 36) (lv' := [(0, .ref (ad 500)), (1, .int x)]) (st' := [.int x, .int (nI n), .ref (ad 504)]) rfl ?_
      refine S_iastN g (i := 504) (e := n) (by decide) rfl (show n < 80 from by omega) (show (80 : Nat) < 2 ^ 31 from by decide) rfl ?_
      show Sim X (YR ad) 37 [(0, .ref (ad 500)), (1, .int x)] [] I J (va_up A 504 (va_up (A 504) n x)) B 0 0
      refine S_n g 2 (pc' := 39) (lv' := [(0, .ref (ad 500)), (1, .int x)]) (st' := [.ref (ad 500), .ref (ad 500)]) rfl ?_
      refine S_getI g (i := 500) (c := 9) (k := 4) (by decide) (by decide) rfl rfl fl_X9_232 rfl ?_
      rw [hI4]
      refine S_n g 2 (pc' := 44) (lv' := [(0, .ref (ad 500)), (1, .int x)]) (st' := [.int ((nI n) + (nI 1)), .ref (ad 500)]) rfl ?_
      rw [nI_add n 1]
      refine S_putI g (i := 500) (c := 9) (k := 4) (kd := 0) (by decide) (by decide) rfl rfl (by decide) fw_X9_232 rfl rfl rfl ?_
      refine S_n g 1 (pc' := 48) (lv' := [(0, .ref (ad 500)), (1, .int x)]) (st' := [.ref (ad 500)]) rfl ?_
      refine S_getI g (i := 500) (c := 9) (k := 4) (by decide) (by decide) rfl rfl fl_X9_232 rfl ?_
      show Sim X (YR ad) 51 [(0, .ref (ad 500)), (1, .int x)] [.int (nI (n + 1))] (up2 I 500 4 (nI (n + 1))) J (va_up A 504 (va_up (A 504) n x)) B 0 0
      exact rtI rt rfl rfl (by rw [if_pos qz9, if_neg (by omega), if_pos ⟨qz9, by omega⟩, if_pos ⟨qz9, by omega⟩]; exact eqP_rf)
    · skip
      refine S_n g 1 (pc' := 26) (lv' := [(0, .ref (ad 500)), (1, .int x)]) (st' := [.int (-nI 103)]) rfl ?_
      exact rtI rt rfl rfl (by rw [if_pos qz9, if_pos (by omega), if_neg (fun q => by omega), if_neg (fun q => by omega)]; exact eqP_rf)
  · skip
    refine S_n g 1 (pc' := 14) (lv' := [(0, .ref (ad 500)), (1, .int x)]) (st' := [.int (-nI 101)]) rfl ?_
    exact rtI rt rfl rfl (by rw [qz9, if_neg (by decide), if_neg (fun q => absurd q.1 (by decide)), if_neg (fun q => absurd q.1 (by decide))]; exact eqP_rf)

set_option maxRecDepth 100000 in
set_option maxHeartbeats 4000000 in
theorem sp_next (ad : Nat → Nat) (I : FI) (J : FJ) (A : FI) (B : FJ) (tc : Nat → Nat) (n a : Nat) (hI4 : I 500 4 = nI n) (hT : RT_ A tc n) (ha : a ≤ n) : Spec M_X9_next [.ref (ad 500)] (YR ad) (up2 I 500 20 (nI a)) J A B (eqP (some (.int (hI (ch tc n a)))) (YR ad) (up2 I 500 20 (nI a)) J A B) := by
  have hn8 := hT.1
  refine Spec_of (by decide) tk_X9_next (Nat.le_of_ble_eq_true rfl) (fun X g rt => ?_)
  show Sim X (YR ad) 0 [(0, .ref (ad 500))] [] (up2 I 500 20 (nI a)) J A B 0 0
  refine S_n g 1 (pc' := 1) (lv' := [(0, .ref (ad 500))]) (st' := [.ref (ad 500)]) rfl ?_
  refine S_getI g (i := 500) (c := 9) (k := 20) (by decide) (by decide) rfl rfl fl_X9_235 rfl ?_
  show Sim X (YR ad) 4 [(0, .ref (ad 500))] [.int (nI a)] (up2 I 500 20 (nI a)) J A B 0 0
  refine S_n g 1 (pc' := 5) (lv' := [(0, .ref (ad 500))]) (st' := [.ref (ad 500), .int (nI a)]) rfl ?_
  refine S_getI g (i := 500) (c := 9) (k := 4) (by decide) (by decide) rfl rfl fl_X9_232 rfl ?_
  show Sim X (YR ad) 8 [(0, .ref (ad 500))] [.int (I 500 4), .int (nI a)] (up2 I 500 20 (nI a)) J A B 0 0
  rw [hI4]
  refine S_icN_ge g (tgt := 23) (by omega) (by omega) rfl (by decide) (fun qz8 => ?_) (fun qz8 => ?_)
  · skip
    refine S_n g 1 (pc' := 24) (lv' := [(0, .ref (ad 500))]) (st' := [.int (-nI 1)]) rfl ?_
    exact rtI rt rfl rfl (by rw [ch, if_neg (by omega)]; exact eqP_rf)
  · skip
    obtain ⟨hta, htl⟩ := hT.2 a (by omega)
    refine S_n g 1 (pc' := 12) (lv' := [(0, .ref (ad 500))]) (st' := [.ref (ad 500)]) rfl ?_
    refine S_getR g (i := 500) (c := 9) (k := 3) (j := 504) (by decide) (by decide) rfl rfl rfl fl_X9_20 rfl ?_
    refine S_n g 1 (pc' := 16) (lv' := [(0, .ref (ad 500))]) (st' := [.ref (ad 500), .ref (ad 504)]) rfl ?_
    refine S_getI g (i := 500) (c := 9) (k := 20) (by decide) (by decide) rfl rfl fl_X9_235 rfl ?_
    show Sim X (YR ad) 19 [(0, .ref (ad 500))] [.int (nI a), .ref (ad 504)] (up2 I 500 20 (nI a)) J A B 0 0
    refine S_ialdN g (i := 504) (e := a) (by decide) rfl (show a < 80 from by omega) (show (80 : Nat) < 2 ^ 31 from by decide) rfl ?_
    rw [hta]
    refine S_n g 1 (pc' := 24) (lv' := [(0, .ref (ad 500))]) (st' := [.int (nI (tc a))]) rfl ?_
    exact rtI rt rfl rfl (by rw [ch, if_pos (by omega), hI_pos (by omega), Nat.add_sub_cancel]; exact eqP_rf)

set_option maxRecDepth 100000 in
set_option maxHeartbeats 4000000 in
theorem sp_isDigit (ad : Nat → Nat) (I : FI) (J : FJ) (A : FI) (B : FJ) (tc : Nat → Nat) (n a : Nat) (hI4 : I 500 4 = nI n) (hT : RT_ A tc n) (ha : a ≤ n) : Spec M_X9_isDigit [.ref (ad 500)] (YR ad) (up2 I 500 20 (nI a)) J A B (eqP (some (.int (bI (isD (ch tc n a))))) (YR ad) (up2 I 500 20 (nI a)) J A B) := by
  have hn8 := hT.1
  have hcl := ch_lt hT a
  refine Spec_of (by decide) tk_X9_isDigit (Nat.le_of_ble_eq_true rfl) (fun X g rt => ?_)
  show Sim X (YR ad) 0 [(0, .ref (ad 500))] [] (up2 I 500 20 (nI a)) J A B 0 0
  refine S_n g 1 (pc' := 1) (lv' := [(0, .ref (ad 500))]) (st' := [.ref (ad 500)]) rfl ?_
  refine S_cV g (i := 500) (As := []) (st := []) (sp_next ad I J A B tc n (a) hI4 hT (by omega)) mw_X9_next lk_X9_238 ⟨Nat.le_of_ble_eq_true rfl, Nat.le_of_ble_eq_true rfl⟩ (by decide) (by decide) rfl rfl (Nat.le_of_ble_eq_true rfl) ⟨Nat.le_of_ble_eq_true rfl, Nat.le_of_ble_eq_true rfl⟩ rfl ?_
  show Sim X (YR ad) 4 [(0, .ref (ad 500))] [.int (hI (ch tc n a))] (up2 I 500 20 (nI a)) J A B 0 0
  refine S_n g 1 (pc' := 5) (lv' := [(0, .ref (ad 500))]) (st' := [.long (hI (ch tc n a)).toInt64]) rfl ?_
  refine S_ldc2 g kc_X9_241 rfl ?_
  refine S_ldc2 g kc_X9_243 rfl ?_
  refine S_cS g (As := [.long (hI (ch tc n a)).toInt64, .long (lN 48), .long (lN 57)]) (st := []) (sp_in (YR ad) (up2 I 500 20 (nI a)) J A B (hI (ch tc n a)).toInt64 (lN 48) (lN 57)) mw_X9_in lk_X9_63 ⟨Nat.le_of_ble_eq_true rfl, Nat.le_of_ble_eq_true rfl⟩ rfl (Nat.le_of_ble_eq_true rfl) ⟨Nat.le_of_ble_eq_true rfl, Nat.le_of_ble_eq_true rfl⟩ rfl ?_
  show Sim X (YR ad) 14 [(0, .ref (ad 500))] [.int (bI (inL (hI (ch tc n a)).toInt64 (lN 48) (lN 57)))] (up2 I 500 20 (nI a)) J A B 0 0
  refine S_steq (st' := [.int (bI (isD (ch tc n a)))]) (by rw [(show bI (inL (hI (ch tc n a)).toInt64 (lN 48) (lN 57)) = bI (isD (ch tc n a)) from by rw [isD_in (by omega)]).symm]) ?_
  exact rtZ rt rfl rfl eqP_rf

set_option maxRecDepth 100000 in
set_option maxHeartbeats 4000000 in
theorem sp_blanks (ad : Nat → Nat) (I : FI) (J : FJ) (A : FI) (B : FJ) (tc : Nat → Nat) (n a : Nat) (hI4 : I 500 4 = nI n) (hT : RT_ A tc n) (ha : a ≤ n) : Spec M_X9_blanks [.ref (ad 500)] (YR ad) (up2 I 500 20 (nI a)) J A B (eqP none (YR ad) (up2 I 500 20 (nI (bl tc n a))) J A B) := by
  have hn8 := hT.1
  refine Spec_of (by decide) tk_X9_blanks (Nat.le_of_ble_eq_true rfl) (fun X g rt => ?_)
  show Sim X (YR ad) 0 [(0, .ref (ad 500))] [] (up2 I 500 20 (nI a)) J A B 0 0
  have lp : ∀ (nn : Nat) (b : Nat), n - b = nn → (b ≤ n) → (bl tc n b = bl tc n a) → Sim X (YR ad) 0 [(0, .ref (ad 500))] [] (up2 I 500 20 (nI b)) J A B 0 0 := by
    intro nn
    induction nn using Nat.strongRecOn with
    | ind nn ih =>
      intro b hmz hb hbl
      have lp := ih
      have hcl := ch_lt hT b
      refine S_n g 1 (pc' := 1) (lv' := [(0, .ref (ad 500))]) (st' := [.ref (ad 500)]) rfl ?_
      refine S_cV g (i := 500) (As := []) (st := []) (sp_next ad I J A B tc n (b) hI4 hT (by omega)) mw_X9_next lk_X9_238 ⟨Nat.le_of_ble_eq_true rfl, Nat.le_of_ble_eq_true rfl⟩ (by decide) (by decide) rfl rfl (Nat.le_of_ble_eq_true rfl) ⟨Nat.le_of_ble_eq_true rfl, Nat.le_of_ble_eq_true rfl⟩ rfl ?_
      show Sim X (YR ad) 4 [(0, .ref (ad 500))] [.int (hI (ch tc n b))] (up2 I 500 20 (nI b)) J A B 0 0
      refine S_n g 1 (pc' := 6) (lv' := [(0, .ref (ad 500))]) (st' := [.int (nI 32), .int (hI (ch tc n b))]) rfl ?_
      refine S_ic_ne g (tgt := 22) rfl (by decide) (fun qz6 => ?_) (fun qz6 => ?_)
      · skip
        have hc9 : ¬ ch tc n b = 33 := fun q => qz6 ((hI_lit (by omega) (by decide)).mpr q)
        exact rtV rt rfl rfl (by rw [← hbl, bl_n hc9]; exact eqP_rf)
      · skip
        have hc9 : ch tc n b = 33 := (hI_lit (by omega) (by decide)).mp qz6
        have hbn := ch_pos (show 0 < ch tc n b by omega)
        refine S_n g 2 (pc' := 11) (lv' := [(0, .ref (ad 500))]) (st' := [.ref (ad 500), .ref (ad 500)]) rfl ?_
        refine S_getI g (i := 500) (c := 9) (k := 20) (by decide) (by decide) rfl rfl fl_X9_235 rfl ?_
        show Sim X (YR ad) 14 [(0, .ref (ad 500))] [.int (nI b), .ref (ad 500)] (up2 I 500 20 (nI b)) J A B 0 0
        refine S_n g 2 (pc' := 16) (lv' := [(0, .ref (ad 500))]) (st' := [.int ((nI b) + (nI 1)), .ref (ad 500)]) rfl ?_
        rw [nI_add b 1]
        refine S_putI g (i := 500) (c := 9) (k := 20) (kd := 0) (by decide) (by decide) rfl rfl (by decide) fw_X9_235 rfl rfl rfl ?_
        rw [up2_c1 (i := 500) (k := 20)]
        refine S_n g 1 (pc' := 0) (lv' := [(0, .ref (ad 500))]) (st' := []) rfl ?_
        exact lp (n - (b + 1)) (by omega) (b + 1) rfl (by omega) (by rw [← hbl]; exact (bl_y hc9).symm)
  exact lp _ a rfl ha rfl

set_option maxRecDepth 100000 in
set_option maxHeartbeats 4000000 in
theorem sp_number (ad : Nat → Nat) (I : FI) (J : FJ) (A : FI) (B : FJ) (tc : Nat → Nat) (n a : Nat) (hI4 : I 500 4 = nI n) (hT : RT_ A tc n) (ha : a ≤ n) (w : Nat) (hw : w ≤ 2) : Spec M_X9_number [.ref (ad 500), .int (nI w)] (YR ad) (up2 I 500 20 (nI a)) J A B (eqP (some (.int (hI (num tc n w a).1))) (YR ad) (up2 I 500 20 (nI (num tc n w a).2)) J A B) := by
  have hn8 := hT.1
  refine Spec_of (by decide) tk_X9_number (Nat.le_of_ble_eq_true rfl) (fun X g rt => ?_)
  show Sim X (YR ad) 0 [(0, .ref (ad 500)), (1, .int (nI w))] [] (up2 I 500 20 (nI a)) J A B 0 0
  refine S_n g 3 (pc' := 3) (lv' := [(0, .ref (ad 500)), (1, .int (nI w)), (2, .int (nI 0))]) (st' := [.ref (ad 500)]) rfl ?_
  refine S_getI g (i := 500) (c := 9) (k := 20) (by decide) (by decide) rfl rfl fl_X9_235 rfl ?_
  show Sim X (YR ad) 6 [(0, .ref (ad 500)), (1, .int (nI w)), (2, .int (nI 0))] [.int (nI a)] (up2 I 500 20 (nI a)) J A B 0 0
  refine S_n g 1 (pc' := 7) (lv' := [(0, .ref (ad 500)), (1, .int (nI w)), (2, .int (nI 0)), (3, .int (nI a))]) (st' := []) rfl ?_
  have lp : ∀ (nn : Nat) (b : Nat) (v : Nat) (i : Nat), i = nn → (b ≤ n) → (b + i = a + w) → (dgs tc n i b v = dgs tc n w a 0) → Sim X (YR ad) 7 [(0, .ref (ad 500)), (1, .int (nI w)), (2, .int (nI v)), (3, .int (nI a))] [] (up2 I 500 20 (nI b)) J A B 0 0 := by
    intro nn
    induction nn using Nat.strongRecOn with
    | ind nn ih =>
      intro b v i hmz hb hbi hdg
      have lp := ih
      have hcl := ch_lt hT b
      refine S_n g 1 (pc' := 8) (lv' := [(0, .ref (ad 500)), (1, .int (nI w)), (2, .int (nI v)), (3, .int (nI a))]) (st' := [.ref (ad 500)]) rfl ?_
      refine S_cV g (i := 500) (As := []) (st := []) (sp_isDigit ad I J A B tc n (b) hI4 hT (by omega)) mw_X9_isDigit lk_X9_245 ⟨Nat.le_of_ble_eq_true rfl, Nat.le_of_ble_eq_true rfl⟩ (by decide) (by decide) rfl rfl (Nat.le_of_ble_eq_true rfl) ⟨Nat.le_of_ble_eq_true rfl, Nat.le_of_ble_eq_true rfl⟩ rfl ?_
      show Sim X (YR ad) 11 [(0, .ref (ad 500)), (1, .int (nI w)), (2, .int (nI v)), (3, .int (nI a))] [.int (bI (isD (ch tc n b)))] (up2 I 500 20 (nI b)) J A B 0 0
      refine S_ifB_eq g (tgt := 50) rfl (by decide) (fun qz11 => ?_) (fun qz11 => ?_)
      · skip
        have hds : dgs tc n w a 0 = (v, b) := by rw [← hdg]; cases i with | zero => rfl | succ k => rw [dgs, if_neg (by rw [qz11]; decide)]
        have hn2 : num tc n w a = (if b = a then 0 else v + 1, if isD (ch tc n b) = true then b else bl tc n b) := by unfold num; rw [hds]
        refine S_n g 1 (pc' := 51) (lv' := [(0, .ref (ad 500)), (1, .int (nI w)), (2, .int (nI v)), (3, .int (nI a))]) (st' := [.ref (ad 500)]) rfl ?_
        refine S_getI g (i := 500) (c := 9) (k := 20) (by decide) (by decide) rfl rfl fl_X9_235 rfl ?_
        show Sim X (YR ad) 54 [(0, .ref (ad 500)), (1, .int (nI w)), (2, .int (nI v)), (3, .int (nI a))] [.int (nI b)] (up2 I 500 20 (nI b)) J A B 0 0
        refine S_n g 1 (pc' := 55) (lv' := [(0, .ref (ad 500)), (1, .int (nI w)), (2, .int (nI v)), (3, .int (nI a))]) (st' := [.int (nI a), .int (nI b)]) rfl ?_
        refine S_icN_ne g (tgt := 62) (by omega) (by omega) rfl (by decide) (fun qz55 => ?_) (fun qz55 => ?_)
        · skip
          refine S_n g 2 (pc' := 65) (lv' := [(0, .ref (ad 500)), (1, .int (nI w)), (2, .int (nI v)), (3, .int (nI a)), (4, .int (nI 0))]) (st' := []) rfl ?_
          refine S_n g 1 (pc' := 66) (lv' := [(0, .ref (ad 500)), (1, .int (nI w)), (2, .int (nI v)), (3, .int (nI a)), (4, .int (nI 0))]) (st' := [.ref (ad 500)]) rfl ?_
          refine S_cV g (i := 500) (As := []) (st := []) (sp_isDigit ad I J A B tc n (b) hI4 hT (by omega)) mw_X9_isDigit lk_X9_245 ⟨Nat.le_of_ble_eq_true rfl, Nat.le_of_ble_eq_true rfl⟩ (by decide) (by decide) rfl rfl (Nat.le_of_ble_eq_true rfl) ⟨Nat.le_of_ble_eq_true rfl, Nat.le_of_ble_eq_true rfl⟩ rfl ?_
          show Sim X (YR ad) 69 [(0, .ref (ad 500)), (1, .int (nI w)), (2, .int (nI v)), (3, .int (nI a)), (4, .int (nI 0))] [.int (bI (isD (ch tc n b)))] (up2 I 500 20 (nI b)) J A B 0 0
          refine S_ifB_ne g (tgt := 76) rfl (by decide) (fun qz69 => ?_) (fun qz69 => ?_)
          · skip
            refine S_n g 1 (pc' := 78) (lv' := [(0, .ref (ad 500)), (1, .int (nI w)), (2, .int (nI v)), (3, .int (nI a)), (4, .int (nI 0))]) (st' := [.int (nI 0)]) rfl ?_
            refine S_ifN_eq g (tgt := 85) (by omega) rfl (by decide) (fun qz78 => ?_) (fun qz78 => ?_)
            · skip
              refine S_n g 1 (pc' := 86) (lv' := [(0, .ref (ad 500)), (1, .int (nI w)), (2, .int (nI v)), (3, .int (nI a)), (4, .int (nI 0))]) (st' := [.int (nI v)]) rfl ?_
              exact rtI rt rfl rfl (by rw [hn2, if_neg (by omega), if_pos qz69, hI_pos (by omega), Nat.add_sub_cancel]; exact eqP_rf)
            · skip
              exact absurd qz78 (by decide)
          · skip
            refine S_n g 1 (pc' := 73) (lv' := [(0, .ref (ad 500)), (1, .int (nI w)), (2, .int (nI v)), (3, .int (nI a)), (4, .int (nI 0))]) (st' := [.ref (ad 500)]) rfl ?_
            refine S_cV g (i := 500) (As := []) (st := []) (sp_blanks ad I J A B tc n (b) hI4 hT (by omega)) mw_X9_blanks lk_X9_249 ⟨Nat.le_of_ble_eq_true rfl, Nat.le_of_ble_eq_true rfl⟩ (by decide) (by decide) rfl rfl (Nat.le_of_ble_eq_true rfl) ⟨Nat.le_of_ble_eq_true rfl, Nat.le_of_ble_eq_true rfl⟩ rfl ?_
            show Sim X (YR ad) 76 [(0, .ref (ad 500)), (1, .int (nI w)), (2, .int (nI v)), (3, .int (nI a)), (4, .int (nI 0))] [] (up2 I 500 20 (nI (bl tc n b))) J A B 0 0
            refine S_n g 1 (pc' := 78) (lv' := [(0, .ref (ad 500)), (1, .int (nI w)), (2, .int (nI v)), (3, .int (nI a)), (4, .int (nI 0))]) (st' := [.int (nI 0)]) rfl ?_
            refine S_ifN_eq g (tgt := 85) (by omega) rfl (by decide) (fun qz78 => ?_) (fun qz78 => ?_)
            · skip
              refine S_n g 1 (pc' := 86) (lv' := [(0, .ref (ad 500)), (1, .int (nI w)), (2, .int (nI v)), (3, .int (nI a)), (4, .int (nI 0))]) (st' := [.int (nI v)]) rfl ?_
              exact rtI rt rfl rfl (by rw [hn2, if_neg (by omega), if_neg (by rw [qz69]; decide), hI_pos (by omega), Nat.add_sub_cancel]; exact eqP_rf)
            · skip
              exact absurd qz78 (by decide)
        · skip
          refine S_n g 3 (pc' := 65) (lv' := [(0, .ref (ad 500)), (1, .int (nI w)), (2, .int (nI v)), (3, .int (nI a)), (4, .int (nI 1))]) (st' := []) rfl ?_
          refine S_n g 1 (pc' := 66) (lv' := [(0, .ref (ad 500)), (1, .int (nI w)), (2, .int (nI v)), (3, .int (nI a)), (4, .int (nI 1))]) (st' := [.ref (ad 500)]) rfl ?_
          refine S_cV g (i := 500) (As := []) (st := []) (sp_isDigit ad I J A B tc n (b) hI4 hT (by omega)) mw_X9_isDigit lk_X9_245 ⟨Nat.le_of_ble_eq_true rfl, Nat.le_of_ble_eq_true rfl⟩ (by decide) (by decide) rfl rfl (Nat.le_of_ble_eq_true rfl) ⟨Nat.le_of_ble_eq_true rfl, Nat.le_of_ble_eq_true rfl⟩ rfl ?_
          show Sim X (YR ad) 69 [(0, .ref (ad 500)), (1, .int (nI w)), (2, .int (nI v)), (3, .int (nI a)), (4, .int (nI 1))] [.int (bI (isD (ch tc n b)))] (up2 I 500 20 (nI b)) J A B 0 0
          refine S_ifB_ne g (tgt := 76) rfl (by decide) (fun qz69 => ?_) (fun qz69 => ?_)
          · skip
            refine S_n g 1 (pc' := 78) (lv' := [(0, .ref (ad 500)), (1, .int (nI w)), (2, .int (nI v)), (3, .int (nI a)), (4, .int (nI 1))]) (st' := [.int (nI 1)]) rfl ?_
            refine S_ifN_eq g (tgt := 85) (by omega) rfl (by decide) (fun qz78 => ?_) (fun qz78 => ?_)
            · skip
              exact absurd qz78 (by decide)
            · skip
              refine S_n g 2 (pc' := 86) (lv' := [(0, .ref (ad 500)), (1, .int (nI w)), (2, .int (nI v)), (3, .int (nI a)), (4, .int (nI 1))]) (st' := [.int (-nI 1)]) rfl ?_
              exact rtI rt rfl rfl (by rw [hn2, if_pos (by omega), if_pos qz69]; exact eqP_rf)
          · skip
            refine S_n g 1 (pc' := 73) (lv' := [(0, .ref (ad 500)), (1, .int (nI w)), (2, .int (nI v)), (3, .int (nI a)), (4, .int (nI 1))]) (st' := [.ref (ad 500)]) rfl ?_
            refine S_cV g (i := 500) (As := []) (st := []) (sp_blanks ad I J A B tc n (b) hI4 hT (by omega)) mw_X9_blanks lk_X9_249 ⟨Nat.le_of_ble_eq_true rfl, Nat.le_of_ble_eq_true rfl⟩ (by decide) (by decide) rfl rfl (Nat.le_of_ble_eq_true rfl) ⟨Nat.le_of_ble_eq_true rfl, Nat.le_of_ble_eq_true rfl⟩ rfl ?_
            show Sim X (YR ad) 76 [(0, .ref (ad 500)), (1, .int (nI w)), (2, .int (nI v)), (3, .int (nI a)), (4, .int (nI 1))] [] (up2 I 500 20 (nI (bl tc n b))) J A B 0 0
            refine S_n g 1 (pc' := 78) (lv' := [(0, .ref (ad 500)), (1, .int (nI w)), (2, .int (nI v)), (3, .int (nI a)), (4, .int (nI 1))]) (st' := [.int (nI 1)]) rfl ?_
            refine S_ifN_eq g (tgt := 85) (by omega) rfl (by decide) (fun qz78 => ?_) (fun qz78 => ?_)
            · skip
              exact absurd qz78 (by decide)
            · skip
              refine S_n g 2 (pc' := 86) (lv' := [(0, .ref (ad 500)), (1, .int (nI w)), (2, .int (nI v)), (3, .int (nI a)), (4, .int (nI 1))]) (st' := [.int (-nI 1)]) rfl ?_
              exact rtI rt rfl rfl (by rw [hn2, if_pos (by omega), if_neg (by rw [qz69]; decide)]; exact eqP_rf)
      · skip
        refine S_n g 1 (pc' := 15) (lv' := [(0, .ref (ad 500)), (1, .int (nI w)), (2, .int (nI v)), (3, .int (nI a))]) (st' := [.ref (ad 500)]) rfl ?_
        refine S_getI g (i := 500) (c := 9) (k := 20) (by decide) (by decide) rfl rfl fl_X9_235 rfl ?_
        show Sim X (YR ad) 18 [(0, .ref (ad 500)), (1, .int (nI w)), (2, .int (nI v)), (3, .int (nI a))] [.int (nI b)] (up2 I 500 20 (nI b)) J A B 0 0
        refine S_n g 3 (pc' := 21) (lv' := [(0, .ref (ad 500)), (1, .int (nI w)), (2, .int (nI v)), (3, .int (nI a))]) (st' := [.int ((nI a) + (nI w)), .int (nI b)]) rfl ?_
        rw [nI_add a w]
        refine S_icN_ge g (tgt := 50) (by omega) (by omega) rfl (by decide) (fun qz21 => ?_) (fun qz21 => ?_)
        · skip
          have hds : dgs tc n w a 0 = (v, b) := by rw [← hdg, show i = 0 from by omega]; rfl
          have hn2 : num tc n w a = (if b = a then 0 else v + 1, if isD (ch tc n b) = true then b else bl tc n b) := by unfold num; rw [hds]
          refine S_n g 1 (pc' := 51) (lv' := [(0, .ref (ad 500)), (1, .int (nI w)), (2, .int (nI v)), (3, .int (nI a))]) (st' := [.ref (ad 500)]) rfl ?_
          refine S_getI g (i := 500) (c := 9) (k := 20) (by decide) (by decide) rfl rfl fl_X9_235 rfl ?_
          show Sim X (YR ad) 54 [(0, .ref (ad 500)), (1, .int (nI w)), (2, .int (nI v)), (3, .int (nI a))] [.int (nI b)] (up2 I 500 20 (nI b)) J A B 0 0
          refine S_n g 1 (pc' := 55) (lv' := [(0, .ref (ad 500)), (1, .int (nI w)), (2, .int (nI v)), (3, .int (nI a))]) (st' := [.int (nI a), .int (nI b)]) rfl ?_
          refine S_icN_ne g (tgt := 62) (by omega) (by omega) rfl (by decide) (fun qz55 => ?_) (fun qz55 => ?_)
          · skip
            refine S_n g 2 (pc' := 65) (lv' := [(0, .ref (ad 500)), (1, .int (nI w)), (2, .int (nI v)), (3, .int (nI a)), (4, .int (nI 0))]) (st' := []) rfl ?_
            refine S_n g 1 (pc' := 66) (lv' := [(0, .ref (ad 500)), (1, .int (nI w)), (2, .int (nI v)), (3, .int (nI a)), (4, .int (nI 0))]) (st' := [.ref (ad 500)]) rfl ?_
            refine S_cV g (i := 500) (As := []) (st := []) (sp_isDigit ad I J A B tc n (b) hI4 hT (by omega)) mw_X9_isDigit lk_X9_245 ⟨Nat.le_of_ble_eq_true rfl, Nat.le_of_ble_eq_true rfl⟩ (by decide) (by decide) rfl rfl (Nat.le_of_ble_eq_true rfl) ⟨Nat.le_of_ble_eq_true rfl, Nat.le_of_ble_eq_true rfl⟩ rfl ?_
            show Sim X (YR ad) 69 [(0, .ref (ad 500)), (1, .int (nI w)), (2, .int (nI v)), (3, .int (nI a)), (4, .int (nI 0))] [.int (bI (isD (ch tc n b)))] (up2 I 500 20 (nI b)) J A B 0 0
            refine S_ifB_ne g (tgt := 76) rfl (by decide) (fun qz69 => ?_) (fun qz69 => ?_)
            · skip
              refine S_n g 1 (pc' := 78) (lv' := [(0, .ref (ad 500)), (1, .int (nI w)), (2, .int (nI v)), (3, .int (nI a)), (4, .int (nI 0))]) (st' := [.int (nI 0)]) rfl ?_
              refine S_ifN_eq g (tgt := 85) (by omega) rfl (by decide) (fun qz78 => ?_) (fun qz78 => ?_)
              · skip
                refine S_n g 1 (pc' := 86) (lv' := [(0, .ref (ad 500)), (1, .int (nI w)), (2, .int (nI v)), (3, .int (nI a)), (4, .int (nI 0))]) (st' := [.int (nI v)]) rfl ?_
                exact rtI rt rfl rfl (by rw [hn2, if_neg (by omega), if_pos qz69, hI_pos (by omega), Nat.add_sub_cancel]; exact eqP_rf)
              · skip
                exact absurd qz78 (by decide)
            · skip
              refine S_n g 1 (pc' := 73) (lv' := [(0, .ref (ad 500)), (1, .int (nI w)), (2, .int (nI v)), (3, .int (nI a)), (4, .int (nI 0))]) (st' := [.ref (ad 500)]) rfl ?_
              refine S_cV g (i := 500) (As := []) (st := []) (sp_blanks ad I J A B tc n (b) hI4 hT (by omega)) mw_X9_blanks lk_X9_249 ⟨Nat.le_of_ble_eq_true rfl, Nat.le_of_ble_eq_true rfl⟩ (by decide) (by decide) rfl rfl (Nat.le_of_ble_eq_true rfl) ⟨Nat.le_of_ble_eq_true rfl, Nat.le_of_ble_eq_true rfl⟩ rfl ?_
              show Sim X (YR ad) 76 [(0, .ref (ad 500)), (1, .int (nI w)), (2, .int (nI v)), (3, .int (nI a)), (4, .int (nI 0))] [] (up2 I 500 20 (nI (bl tc n b))) J A B 0 0
              refine S_n g 1 (pc' := 78) (lv' := [(0, .ref (ad 500)), (1, .int (nI w)), (2, .int (nI v)), (3, .int (nI a)), (4, .int (nI 0))]) (st' := [.int (nI 0)]) rfl ?_
              refine S_ifN_eq g (tgt := 85) (by omega) rfl (by decide) (fun qz78 => ?_) (fun qz78 => ?_)
              · skip
                refine S_n g 1 (pc' := 86) (lv' := [(0, .ref (ad 500)), (1, .int (nI w)), (2, .int (nI v)), (3, .int (nI a)), (4, .int (nI 0))]) (st' := [.int (nI v)]) rfl ?_
                exact rtI rt rfl rfl (by rw [hn2, if_neg (by omega), if_neg (by rw [qz69]; decide), hI_pos (by omega), Nat.add_sub_cancel]; exact eqP_rf)
              · skip
                exact absurd qz78 (by decide)
          · skip
            refine S_n g 3 (pc' := 65) (lv' := [(0, .ref (ad 500)), (1, .int (nI w)), (2, .int (nI v)), (3, .int (nI a)), (4, .int (nI 1))]) (st' := []) rfl ?_
            refine S_n g 1 (pc' := 66) (lv' := [(0, .ref (ad 500)), (1, .int (nI w)), (2, .int (nI v)), (3, .int (nI a)), (4, .int (nI 1))]) (st' := [.ref (ad 500)]) rfl ?_
            refine S_cV g (i := 500) (As := []) (st := []) (sp_isDigit ad I J A B tc n (b) hI4 hT (by omega)) mw_X9_isDigit lk_X9_245 ⟨Nat.le_of_ble_eq_true rfl, Nat.le_of_ble_eq_true rfl⟩ (by decide) (by decide) rfl rfl (Nat.le_of_ble_eq_true rfl) ⟨Nat.le_of_ble_eq_true rfl, Nat.le_of_ble_eq_true rfl⟩ rfl ?_
            show Sim X (YR ad) 69 [(0, .ref (ad 500)), (1, .int (nI w)), (2, .int (nI v)), (3, .int (nI a)), (4, .int (nI 1))] [.int (bI (isD (ch tc n b)))] (up2 I 500 20 (nI b)) J A B 0 0
            refine S_ifB_ne g (tgt := 76) rfl (by decide) (fun qz69 => ?_) (fun qz69 => ?_)
            · skip
              refine S_n g 1 (pc' := 78) (lv' := [(0, .ref (ad 500)), (1, .int (nI w)), (2, .int (nI v)), (3, .int (nI a)), (4, .int (nI 1))]) (st' := [.int (nI 1)]) rfl ?_
              refine S_ifN_eq g (tgt := 85) (by omega) rfl (by decide) (fun qz78 => ?_) (fun qz78 => ?_)
              · skip
                exact absurd qz78 (by decide)
              · skip
                refine S_n g 2 (pc' := 86) (lv' := [(0, .ref (ad 500)), (1, .int (nI w)), (2, .int (nI v)), (3, .int (nI a)), (4, .int (nI 1))]) (st' := [.int (-nI 1)]) rfl ?_
                exact rtI rt rfl rfl (by rw [hn2, if_pos (by omega), if_pos qz69]; exact eqP_rf)
            · skip
              refine S_n g 1 (pc' := 73) (lv' := [(0, .ref (ad 500)), (1, .int (nI w)), (2, .int (nI v)), (3, .int (nI a)), (4, .int (nI 1))]) (st' := [.ref (ad 500)]) rfl ?_
              refine S_cV g (i := 500) (As := []) (st := []) (sp_blanks ad I J A B tc n (b) hI4 hT (by omega)) mw_X9_blanks lk_X9_249 ⟨Nat.le_of_ble_eq_true rfl, Nat.le_of_ble_eq_true rfl⟩ (by decide) (by decide) rfl rfl (Nat.le_of_ble_eq_true rfl) ⟨Nat.le_of_ble_eq_true rfl, Nat.le_of_ble_eq_true rfl⟩ rfl ?_
              show Sim X (YR ad) 76 [(0, .ref (ad 500)), (1, .int (nI w)), (2, .int (nI v)), (3, .int (nI a)), (4, .int (nI 1))] [] (up2 I 500 20 (nI (bl tc n b))) J A B 0 0
              refine S_n g 1 (pc' := 78) (lv' := [(0, .ref (ad 500)), (1, .int (nI w)), (2, .int (nI v)), (3, .int (nI a)), (4, .int (nI 1))]) (st' := [.int (nI 1)]) rfl ?_
              refine S_ifN_eq g (tgt := 85) (by omega) rfl (by decide) (fun qz78 => ?_) (fun qz78 => ?_)
              · skip
                exact absurd qz78 (by decide)
              · skip
                refine S_n g 2 (pc' := 86) (lv' := [(0, .ref (ad 500)), (1, .int (nI w)), (2, .int (nI v)), (3, .int (nI a)), (4, .int (nI 1))]) (st' := [.int (-nI 1)]) rfl ?_
                exact rtI rt rfl rfl (by rw [hn2, if_pos (by omega), if_neg (by rw [qz69]; decide)]; exact eqP_rf)
        · skip
          have hd9 := isD_t qz11
          have hbn := ch_pos (show 0 < ch tc n b by omega)
          refine S_n g 3 (pc' := 28) (lv' := [(0, .ref (ad 500)), (1, .int (nI w)), (2, .int (nI v)), (3, .int (nI a))]) (st' := [.int ((nI 10) * (nI v))]) rfl ?_
          rw [pk_mul 10 v]
          refine S_n g 1 (pc' := 29) (lv' := [(0, .ref (ad 500)), (1, .int (nI w)), (2, .int (nI v)), (3, .int (nI a))]) (st' := [.ref (ad 500), .int (nI (10 * v))]) rfl ?_
          refine S_cV g (i := 500) (As := []) (st := [.int (nI (10 * v))]) (sp_next ad I J A B tc n (b) hI4 hT (by omega)) mw_X9_next lk_X9_238 ⟨Nat.le_of_ble_eq_true rfl, Nat.le_of_ble_eq_true rfl⟩ (by decide) (by decide) rfl rfl (Nat.le_of_ble_eq_true rfl) ⟨Nat.le_of_ble_eq_true rfl, Nat.le_of_ble_eq_true rfl⟩ rfl ?_
          show Sim X (YR ad) 32 [(0, .ref (ad 500)), (1, .int (nI w)), (2, .int (nI v)), (3, .int (nI a))] [.int (hI (ch tc n b)), .int (nI (10 * v))] (up2 I 500 20 (nI b)) J A B 0 0
          refine S_steq (st' := [.int (nI (ch tc n b - 1)), .int (nI (10 * v))]) (by rw [(show hI (ch tc n b) = nI (ch tc n b - 1) from hI_pos (by omega)).symm]) ?_
          refine S_n g 1 (pc' := 33) (lv' := [(0, .ref (ad 500)), (1, .int (nI w)), (2, .int (nI v)), (3, .int (nI a))]) (st' := [.int ((nI (10 * v)) + (nI (ch tc n b - 1)))]) rfl ?_
          rw [nI_add (10 * v) (ch tc n b - 1)]
          refine S_n g 2 (pc' := 36) (lv' := [(0, .ref (ad 500)), (1, .int (nI w)), (2, .int (nI v)), (3, .int (nI a))]) (st' := [.int ((nI ((10 * v) + (ch tc n b - 1))) - (nI 48))]) rfl ?_
          rw [pk_sub (a := (10 * v) + (ch tc n b - 1)) (b := 48) (by omega)]
          refine S_n g 3 (pc' := 39) (lv' := [(0, .ref (ad 500)), (1, .int (nI w)), (2, .int (nI (((10 * v) + (ch tc n b - 1)) - 48))), (3, .int (nI a))]) (st' := [.ref (ad 500), .ref (ad 500)]) rfl ?_
          refine S_getI g (i := 500) (c := 9) (k := 20) (by decide) (by decide) rfl rfl fl_X9_235 rfl ?_
          show Sim X (YR ad) 42 [(0, .ref (ad 500)), (1, .int (nI w)), (2, .int (nI (((10 * v) + (ch tc n b - 1)) - 48))), (3, .int (nI a))] [.int (nI b), .ref (ad 500)] (up2 I 500 20 (nI b)) J A B 0 0
          refine S_n g 2 (pc' := 44) (lv' := [(0, .ref (ad 500)), (1, .int (nI w)), (2, .int (nI (((10 * v) + (ch tc n b - 1)) - 48))), (3, .int (nI a))]) (st' := [.int ((nI b) + (nI 1)), .ref (ad 500)]) rfl ?_
          rw [nI_add b 1]
          refine S_putI g (i := 500) (c := 9) (k := 20) (kd := 0) (by decide) (by decide) rfl rfl (by decide) fw_X9_235 rfl rfl rfl ?_
          rw [up2_c1 (i := 500) (k := 20)]
          refine S_n g 1 (pc' := 7) (lv' := [(0, .ref (ad 500)), (1, .int (nI w)), (2, .int (nI (((10 * v) + (ch tc n b - 1)) - 48))), (3, .int (nI a))]) (st' := []) rfl ?_
          exact lp (i - 1) (by omega) (b + 1) (10 * v + (ch tc n b - 1) - 48) (i - 1) rfl (by omega) (by omega) (by rw [← hdg, show i = i - 1 + 1 from by omega, dgs, if_pos qz11]; rfl)
  exact lp _ a 0 w rfl ha rfl rfl

set_option maxRecDepth 100000 in
set_option maxHeartbeats 4000000 in
theorem sp_argumentsOf (Y : PS) (I : FI) (J : FJ) (A : FI) (B : FJ) (c : Nat) (hc : c ≤ 128) : Spec M_X9_argumentsOf [.int (hI c)] Y I J A B (eqP (some (.int (nI (agN c)))) Y I J A B) := by
  refine Spec_of (by decide) tk_X9_argumentsOf (Nat.le_of_ble_eq_true rfl) (fun X g rt => ?_)
  show Sim X Y 0 [(0, .int (hI c))] [] I J A B 0 0
  by_cases hin : 106 ≤ c ∧ c ≤ 120
  · skip
    refine S_lveq (lv' := [(0, .int (nI (c - 1)))]) (by rw [(show hI c = nI (c - 1) from hI_pos (by omega)).symm]) ?_
    obtain ⟨d, hd, hcd⟩ : ∃ d, d = c - 1 ∧ c = d + 1 := ⟨c - 1, rfl, by omega⟩
    rw [← hd]
    subst hcd
    show Sim X Y 0 [(0, .int (nI d))] [] I J A B 0 0
    refine S_n g 1 (pc' := 1) (lv' := [(0, .int (nI d))]) (st' := [.int (nI d)]) rfl ?_
    rcases (show d = 105 ∨ d = 106 ∨ d = 107 ∨ d = 108 ∨ d = 109 ∨ d = 110 ∨ d = 111 ∨ d = 112 ∨ d = 113 ∨ d = 114 ∨ d = 115 ∨ d = 116 ∨ d = 117 ∨ d = 118 ∨ d = 119 by omega) with rfl | rfl | rfl | rfl | rfl | rfl | rfl | rfl | rfl | rfl | rfl | rfl | rfl | rfl | rfl
    · skip
      refine S_swIn g (off := 77) (tgt := 78) rfl (by decide) (by decide) rfl rfl ?_
      refine S_n g 1 (pc' := 79) (lv' := [(0, .int (nI 105))]) (st' := [.int (nI 1)]) rfl ?_
      exact rtI rt rfl rfl eqP_rf
    · skip
      refine S_swIn g (off := 77) (tgt := 78) rfl (by decide) (by decide) rfl rfl ?_
      refine S_n g 1 (pc' := 79) (lv' := [(0, .int (nI 106))]) (st' := [.int (nI 1)]) rfl ?_
      exact rtI rt rfl rfl eqP_rf
    · skip
      refine S_swIn g (off := 79) (tgt := 80) rfl (by decide) (by decide) rfl rfl ?_
      refine S_n g 1 (pc' := 81) (lv' := [(0, .int (nI 107))]) (st' := [.int (nI 0)]) rfl ?_
      exact rtI rt rfl rfl eqP_rf
    · skip
      refine S_swIn g (off := 77) (tgt := 78) rfl (by decide) (by decide) rfl rfl ?_
      refine S_n g 1 (pc' := 79) (lv' := [(0, .int (nI 108))]) (st' := [.int (nI 1)]) rfl ?_
      exact rtI rt rfl rfl eqP_rf
    · skip
      refine S_swIn g (off := 79) (tgt := 80) rfl (by decide) (by decide) rfl rfl ?_
      refine S_n g 1 (pc' := 81) (lv' := [(0, .int (nI 109))]) (st' := [.int (nI 0)]) rfl ?_
      exact rtI rt rfl rfl eqP_rf
    · skip
      refine S_swIn g (off := 77) (tgt := 78) rfl (by decide) (by decide) rfl rfl ?_
      refine S_n g 1 (pc' := 79) (lv' := [(0, .int (nI 110))]) (st' := [.int (nI 1)]) rfl ?_
      exact rtI rt rfl rfl eqP_rf
    · skip
      refine S_swIn g (off := 79) (tgt := 80) rfl (by decide) (by decide) rfl rfl ?_
      refine S_n g 1 (pc' := 81) (lv' := [(0, .int (nI 111))]) (st' := [.int (nI 0)]) rfl ?_
      exact rtI rt rfl rfl eqP_rf
    · skip
      refine S_swIn g (off := 79) (tgt := 80) rfl (by decide) (by decide) rfl rfl ?_
      refine S_n g 1 (pc' := 81) (lv' := [(0, .int (nI 112))]) (st' := [.int (nI 0)]) rfl ?_
      exact rtI rt rfl rfl eqP_rf
    · skip
      refine S_swIn g (off := 77) (tgt := 78) rfl (by decide) (by decide) rfl rfl ?_
      refine S_n g 1 (pc' := 79) (lv' := [(0, .int (nI 113))]) (st' := [.int (nI 1)]) rfl ?_
      exact rtI rt rfl rfl eqP_rf
    · skip
      refine S_swIn g (off := 79) (tgt := 80) rfl (by decide) (by decide) rfl rfl ?_
      refine S_n g 1 (pc' := 81) (lv' := [(0, .int (nI 114))]) (st' := [.int (nI 0)]) rfl ?_
      exact rtI rt rfl rfl eqP_rf
    · skip
      refine S_swIn g (off := 77) (tgt := 78) rfl (by decide) (by decide) rfl rfl ?_
      refine S_n g 1 (pc' := 79) (lv' := [(0, .int (nI 115))]) (st' := [.int (nI 1)]) rfl ?_
      exact rtI rt rfl rfl eqP_rf
    · skip
      refine S_swIn g (off := 77) (tgt := 78) rfl (by decide) (by decide) rfl rfl ?_
      refine S_n g 1 (pc' := 79) (lv' := [(0, .int (nI 116))]) (st' := [.int (nI 1)]) rfl ?_
      exact rtI rt rfl rfl eqP_rf
    · skip
      refine S_swIn g (off := 79) (tgt := 80) rfl (by decide) (by decide) rfl rfl ?_
      refine S_n g 1 (pc' := 81) (lv' := [(0, .int (nI 117))]) (st' := [.int (nI 0)]) rfl ?_
      exact rtI rt rfl rfl eqP_rf
    · skip
      refine S_swIn g (off := 79) (tgt := 80) rfl (by decide) (by decide) rfl rfl ?_
      refine S_n g 1 (pc' := 81) (lv' := [(0, .int (nI 118))]) (st' := [.int (nI 0)]) rfl ?_
      exact rtI rt rfl rfl eqP_rf
    · skip
      refine S_swIn g (off := 75) (tgt := 76) rfl (by decide) (by decide) rfl rfl ?_
      refine S_n g 1 (pc' := 77) (lv' := [(0, .int (nI 119))]) (st' := [.int (nI 2)]) rfl ?_
      exact rtI rt rfl rfl eqP_rf
  · skip
    have hto : (hI c).toInt < 105 ∨ 119 < (hI c).toInt := by cases c with | zero => exact Or.inl (by decide) | succ k => rw [hI_pos (by omega), Nat.add_sub_cancel, nI_toInt (by omega)]; omega
    have hag : agN c = 0 := by unfold agN; rw [if_neg (by omega), if_neg (by omega)]
    refine S_n g 1 (pc' := 1) (lv' := [(0, .int (hI c))]) (st' := [.int (hI c)]) rfl ?_
    refine S_swOut g (tgt := 80) rfl hto rfl ?_
    refine S_n g 1 (pc' := 81) (lv' := [(0, .int (hI c))]) (st' := [.int (nI 0)]) rfl ?_
    exact rtI rt rfl rfl (by rw [hag]; exact eqP_rf)
