/-! the class: lists of sums -/
theorem slf {Y : PS} {i lim : Nat} (h : isSL Y i lim) : i < 600 ∧ i + 1 < 600 ∧ i + 2 < 600 := ⟨by have := h.1; omega, by have := h.1; omega, h.1⟩

theorem isIx_of {x : Int32} {n : Nat} (h1 : ¬ x < 0) (h2 : ¬ nI n ≤ x) (hn : n < 2 ^ 31) : isIx x n = true := by
  unfold isIx
  have h3 : 0 ≤ x.toInt := by rw [Int32.lt_iff_toInt_lt] at h1; have e : (0 : Int32).toInt = 0 := rfl; omega
  rw [Int32.le_iff_toInt_le, nI_toInt hn] at h2
  exact decide_eq_true (by omega)
theorem slx {x : Int32} {n : Nat} (h : ¬ nI n ≤ x) (hn : n < 2 ^ 31) : x.toInt < (n : Int) := by
  rw [Int32.le_iff_toInt_le, nI_toInt hn] at h
  omega

set_option maxRecDepth 100000 in
set_option maxHeartbeats 4000000 in
theorem sl_setAt (ad : Nat → Nat) (z0 z1 : Bool) (I : FI) (J : FJ) (A : FI) (B : FJ) (i lim n : Nat) (hSL : isSL (YC ad z0 z1) i lim) (hlim : lim ≤ 100) (hS : I i 3 = nI n) (hn : n ≤ lim) (x : Int32) : Spec M_X6_setAt [.ref (ad i), .int x] (YC ad z0 z1) I J A B (eqP (some (.long (if isIx x n = true then B (i + 1) (ix x) else lN 0))) (YC ad z0 z1) I J A B) := by
  refine Spec_of (by decide) tk_X6_setAt (Nat.le_of_ble_eq_true rfl) (fun X g rt => ?_)
  show Sim X (YC ad z0 z1) 0 [(0, .ref (ad i)), (1, .int x)] [] I J A B 0 0
  by_cases hin : isIx x n = true
  · skip
    obtain ⟨k, hk, hxk⟩ := isIx_t hin
    subst hxk
    have hck : (nI k).toNatClampNeg = k := nI_clamp (by omega)
    refine S_n g 1 (pc' := 1) (lv' := [(0, .ref (ad i)), (1, .int (nI k))]) (st' := [.int (nI k)]) rfl ?_
    refine S_ifN_lt g (tgt := 21) (by omega) rfl (by decide) ?_
    refine S_n g 2 (pc' := 6) (lv' := [(0, .ref (ad i)), (1, .int (nI k))]) (st' := [.ref (ad i), .int (nI k)]) rfl ?_
    refine S_getI g (i := i) (c := 6) (k := 3) (slf hSL).1 (by decide) hSL.2.1 rfl fl_X6_21 rfl ?_
    rw [hS]
    refine S_icN_ge g (tgt := 21) (by omega) (by omega) rfl (by decide) (fun qz9 => ?_) (fun qz9 => ?_)
    · skip
      omega
    · skip
      refine S_n g 1 (pc' := 13) (lv' := [(0, .ref (ad i)), (1, .int (nI k))]) (st' := [.ref (ad i)]) rfl ?_
      refine S_getR g (i := i) (c := 6) (k := 0) (j := i + 1) (slf hSL).1 (by decide) hSL.2.1 rfl hSL.2.2.2.2.2.2.1 fl_X6_13 rfl ?_
      refine S_n g 1 (pc' := 17) (lv' := [(0, .ref (ad i)), (1, .int (nI k))]) (st' := [.int (nI k), .ref (ad (i + 1))]) rfl ?_
      refine S_laldN g (i := i + 1) (e := k) (slf hSL).2.1 hSL.2.2.1 (by rw [hSL.2.2.2.2.1]; omega) (by rw [hSL.2.2.2.2.1]; omega) rfl ?_
      refine S_n g 1 (pc' := 22) (lv' := [(0, .ref (ad i)), (1, .int (nI k))]) (st' := [.long (B (i + 1) k)]) rfl ?_
      exact rtL rt rfl rfl (by rw [if_pos hin, show ix (nI k) = k from hck]; exact eqP_rf)
  · skip
    have hin2 := of_decide_eq_false (Bool.eq_false_iff.mpr hin)
    refine S_n g 1 (pc' := 1) (lv' := [(0, .ref (ad i)), (1, .int x)]) (st' := [.int x]) rfl ?_
    refine S_if_lt g (tgt := 21) rfl (by decide) (fun qz1 => ?_) (fun qz1 => ?_)
    · skip
      refine S_n g 1 (pc' := 22) (lv' := [(0, .ref (ad i)), (1, .int x)]) (st' := [.long (lN 0)]) rfl ?_
      exact rtL rt rfl rfl (by rw [if_neg hin]; exact eqP_rf)
    · skip
      refine S_n g 2 (pc' := 6) (lv' := [(0, .ref (ad i)), (1, .int x)]) (st' := [.ref (ad i), .int x]) rfl ?_
      refine S_getI g (i := i) (c := 6) (k := 3) (slf hSL).1 (by decide) hSL.2.1 rfl fl_X6_21 rfl ?_
      rw [hS]
      refine S_ic_ge g (tgt := 21) rfl (by decide) (fun qz9 => ?_) (fun qz9 => ?_)
      · skip
        refine S_n g 1 (pc' := 22) (lv' := [(0, .ref (ad i)), (1, .int x)]) (st' := [.long (lN 0)]) rfl ?_
        exact rtL rt rfl rfl (by rw [if_neg hin]; exact eqP_rf)
      · skip
        exact absurd (isIx_of qz1 qz9 (by omega)) hin

set_option maxRecDepth 100000 in
set_option maxHeartbeats 4000000 in
theorem sl_byteAt (ad : Nat → Nat) (z0 z1 : Bool) (I : FI) (J : FJ) (A : FI) (B : FJ) (i lim n : Nat) (hSL : isSL (YC ad z0 z1) i lim) (hlim : lim ≤ 100) (hS : I i 3 = nI n) (hn : n ≤ lim) (x : Int32) : Spec M_X6_byteAt [.ref (ad i), .int x] (YC ad z0 z1) I J A B (eqP (some (.int (if isIx x n = true then A (i + 2) (ix x) else nI 0))) (YC ad z0 z1) I J A B) := by
  refine Spec_of (by decide) tk_X6_byteAt (Nat.le_of_ble_eq_true rfl) (fun X g rt => ?_)
  show Sim X (YC ad z0 z1) 0 [(0, .ref (ad i)), (1, .int x)] [] I J A B 0 0
  by_cases hin : isIx x n = true
  · skip
    obtain ⟨k, hk, hxk⟩ := isIx_t hin
    subst hxk
    have hck : (nI k).toNatClampNeg = k := nI_clamp (by omega)
    refine S_n g 1 (pc' := 1) (lv' := [(0, .ref (ad i)), (1, .int (nI k))]) (st' := [.int (nI k)]) rfl ?_
    refine S_ifN_lt g (tgt := 21) (by omega) rfl (by decide) ?_
    refine S_n g 2 (pc' := 6) (lv' := [(0, .ref (ad i)), (1, .int (nI k))]) (st' := [.ref (ad i), .int (nI k)]) rfl ?_
    refine S_getI g (i := i) (c := 6) (k := 3) (slf hSL).1 (by decide) hSL.2.1 rfl fl_X6_21 rfl ?_
    rw [hS]
    refine S_icN_ge g (tgt := 21) (by omega) (by omega) rfl (by decide) (fun qz9 => ?_) (fun qz9 => ?_)
    · skip
      omega
    · skip
      refine S_n g 1 (pc' := 13) (lv' := [(0, .ref (ad i)), (1, .int (nI k))]) (st' := [.ref (ad i)]) rfl ?_
      refine S_getR g (i := i) (c := 6) (k := 1) (j := i + 2) (slf hSL).1 (by decide) hSL.2.1 rfl hSL.2.2.2.2.2.2.2 fl_X6_17 rfl ?_
      refine S_n g 1 (pc' := 17) (lv' := [(0, .ref (ad i)), (1, .int (nI k))]) (st' := [.int (nI k), .ref (ad (i + 2))]) rfl ?_
      refine S_ialdN g (i := i + 2) (e := k) (slf hSL).2.2 hSL.2.2.2.1 (by rw [hSL.2.2.2.2.2.1]; omega) (by rw [hSL.2.2.2.2.2.1]; omega) rfl ?_
      refine S_n g 1 (pc' := 22) (lv' := [(0, .ref (ad i)), (1, .int (nI k))]) (st' := [.int (A (i + 2) k)]) rfl ?_
      exact rtI rt rfl rfl (by rw [if_pos hin, show ix (nI k) = k from hck]; exact eqP_rf)
  · skip
    have hin2 := of_decide_eq_false (Bool.eq_false_iff.mpr hin)
    refine S_n g 1 (pc' := 1) (lv' := [(0, .ref (ad i)), (1, .int x)]) (st' := [.int x]) rfl ?_
    refine S_if_lt g (tgt := 21) rfl (by decide) (fun qz1 => ?_) (fun qz1 => ?_)
    · skip
      refine S_n g 1 (pc' := 22) (lv' := [(0, .ref (ad i)), (1, .int x)]) (st' := [.int (nI 0)]) rfl ?_
      exact rtI rt rfl rfl (by rw [if_neg hin]; exact eqP_rf)
    · skip
      refine S_n g 2 (pc' := 6) (lv' := [(0, .ref (ad i)), (1, .int x)]) (st' := [.ref (ad i), .int x]) rfl ?_
      refine S_getI g (i := i) (c := 6) (k := 3) (slf hSL).1 (by decide) hSL.2.1 rfl fl_X6_21 rfl ?_
      rw [hS]
      refine S_ic_ge g (tgt := 21) rfl (by decide) (fun qz9 => ?_) (fun qz9 => ?_)
      · skip
        refine S_n g 1 (pc' := 22) (lv' := [(0, .ref (ad i)), (1, .int x)]) (st' := [.int (nI 0)]) rfl ?_
        exact rtI rt rfl rfl (by rw [if_neg hin]; exact eqP_rf)
      · skip
        exact absurd (isIx_of qz1 qz9 (by omega)) hin

set_option maxRecDepth 100000 in
set_option maxHeartbeats 4000000 in
theorem sl_append (ad : Nat → Nat) (z0 z1 : Bool) (I : FI) (J : FJ) (A : FI) (B : FJ) (i lim n : Nat) (hSL : isSL (YC ad z0 z1) i lim) (hlim : lim ≤ 100) (hS : I i 3 = nI n) (hn : n ≤ lim) (hLm : I i 2 = nI lim) (hr : n < lim) (s : Int64) (v : Int32) : Spec M_X6_append [.ref (ad i), .long s, .int v] (YC ad z0 z1) I J A B (eqP none (YC ad z0 z1) (up2 I i 3 (nI (n + 1))) J (va_up A (i + 2) (va_up (A (i + 2)) n v)) (va_up B (i + 1) (va_up (B (i + 1)) n s))) := by
  refine Spec_of (by decide) tk_X6_append (Nat.le_of_ble_eq_true rfl) (fun X g rt => ?_)
  show Sim X (YC ad z0 z1) 0 [(0, .ref (ad i)), (1, .long s), (3, .int v)] [] I J A B 0 0
  refine S_n g 1 (pc' := 1) (lv' := [(0, .ref (ad i)), (1, .long s), (3, .int v)]) (st' := [.ref (ad i)]) rfl ?_
  refine S_getI g (i := i) (c := 6) (k := 3) (slf hSL).1 (by decide) hSL.2.1 rfl fl_X6_21 rfl ?_
  rw [hS]
  refine S_n g 1 (pc' := 5) (lv' := [(0, .ref (ad i)), (1, .long s), (3, .int v)]) (st' := [.ref (ad i), .int (nI n)]) rfl ?_
  refine S_getI g (i := i) (c := 6) (k := 2) (slf hSL).1 (by decide) hSL.2.1 rfl fl_X6_7 rfl ?_
  rw [hLm]
  refine S_icN_ge g (tgt := 41) (by omega) (by omega) rfl (by decide) (fun qz8 => ?_) (fun qz8 => ?_)
  · skip
    omega
  · skip
    refine S_n g 1 (pc' := 12) (lv' := [(0, .ref (ad i)), (1, .long s), (3, .int v)]) (st' := [.ref (ad i)]) rfl ?_
    refine S_getR g (i := i) (c := 6) (k := 0) (j := i + 1) (slf hSL).1 (by decide) hSL.2.1 rfl hSL.2.2.2.2.2.2.1 fl_X6_13 rfl ?_
    refine S_n g 1 (pc' := 16) (lv' := [(0, .ref (ad i)), (1, .long s), (3, .int v)]) (st' := [.ref (ad i), .ref (ad (i + 1))]) rfl ?_
    refine S_getI g (i := i) (c := 6) (k := 3) (slf hSL).1 (by decide) hSL.2.1 rfl fl_X6_21 rfl ?_
    rw [hS]
    refine S_n g 1 (pc' := 20) (lv' := [(0, .ref (ad i)), (1, .long s), (3, .int v)]) (st' := [.long s, .int (nI n), .ref (ad (i + 1))]) rfl ?_
    refine S_lastN g (i := i + 1) (e := n) (slf hSL).2.1 hSL.2.2.1 (by rw [hSL.2.2.2.2.1]; omega) (by rw [hSL.2.2.2.2.1]; omega) rfl ?_
    show Sim X (YC ad z0 z1) 21 [(0, .ref (ad i)), (1, .long s), (3, .int v)] [] I J A (va_up B (i + 1) (va_up (B (i + 1)) n s)) 0 0
    refine S_n g 1 (pc' := 22) (lv' := [(0, .ref (ad i)), (1, .long s), (3, .int v)]) (st' := [.ref (ad i)]) rfl ?_
    refine S_getR g (i := i) (c := 6) (k := 1) (j := i + 2) (slf hSL).1 (by decide) hSL.2.1 rfl hSL.2.2.2.2.2.2.2 fl_X6_17 rfl ?_
    refine S_n g 1 (pc' := 26) (lv' := [(0, .ref (ad i)), (1, .long s), (3, .int v)]) (st' := [.ref (ad i), .ref (ad (i + 2))]) rfl ?_
    refine S_getI g (i := i) (c := 6) (k := 3) (slf hSL).1 (by decide) hSL.2.1 rfl fl_X6_21 rfl ?_
    rw [hS]
    refine S_n g 1 (pc' := 30) (lv' := [(0, .ref (ad i)), (1, .long s), (3, .int v)]) (st' := [.int v, .int (nI n), .ref (ad (i + 2))]) rfl ?_
    refine S_iastN g (i := i + 2) (e := n) (slf hSL).2.2 hSL.2.2.2.1 (by rw [hSL.2.2.2.2.2.1]; omega) (by rw [hSL.2.2.2.2.2.1]; omega) rfl ?_
    show Sim X (YC ad z0 z1) 31 [(0, .ref (ad i)), (1, .long s), (3, .int v)] [] I J (va_up A (i + 2) (va_up (A (i + 2)) n v)) (va_up B (i + 1) (va_up (B (i + 1)) n s)) 0 0
    refine S_n g 2 (pc' := 33) (lv' := [(0, .ref (ad i)), (1, .long s), (3, .int v)]) (st' := [.ref (ad i), .ref (ad i)]) rfl ?_
    refine S_getI g (i := i) (c := 6) (k := 3) (slf hSL).1 (by decide) hSL.2.1 rfl fl_X6_21 rfl ?_
    rw [hS]
    refine S_n g 2 (pc' := 38) (lv' := [(0, .ref (ad i)), (1, .long s), (3, .int v)]) (st' := [.int ((nI n) + (nI 1)), .ref (ad i)]) rfl ?_
    rw [nI_add n 1]
    refine S_putI g (i := i) (c := 6) (k := 3) (kd := 0) (slf hSL).1 (by decide) hSL.2.1 rfl (by decide) fw_X6_21 rfl rfl rfl ?_
    exact rtV rt rfl rfl eqP_rf

set_option maxRecDepth 100000 in
set_option maxHeartbeats 4000000 in
theorem sl_digestInto (ad : Nat → Nat) (z0 z1 : Bool) (I : FI) (J : FJ) (A : FI) (B : FJ) (i lim n : Nat) (hSL : isSL (YC ad z0 z1) i lim) (hlim : lim ≤ 100) (hS : I i 3 = nI n) (hn : n ≤ lim) (h : Int64) : Spec M_X6_digestInto [.ref (ad i), .long h] (YC ad z0 z1) I J A B (eqP (some (.long (mixN (fun k => B (i + 1) k) h n))) (YC ad z0 z1) I J A B) := by
  refine Spec_of (by decide) tk_X6_digestInto (Nat.le_of_ble_eq_true rfl) (fun X g rt => ?_)
  show Sim X (YC ad z0 z1) 0 [(0, .ref (ad i)), (1, .long h)] [] I J A B 0 0
  refine S_n g 4 (pc' := 5) (lv' := [(0, .ref (ad i)), (1, .long h), (3, .long h), (5, .int (nI 0))]) (st' := []) rfl ?_
  have lp : ∀ (nn : Nat) (k : Nat), n - k = nn → (k ≤ n) → Sim X (YC ad z0 z1) 5 [(0, .ref (ad i)), (1, .long h), (3, .long (mixN (fun k => B (i + 1) k) h k)), (5, .int (nI k))] [] I J A B 0 0 := by
    intro nn
    induction nn using Nat.strongRecOn with
    | ind nn ih =>
      intro k hmz hk
      have lp := ih
      refine S_n g 2 (pc' := 8) (lv' := [(0, .ref (ad i)), (1, .long h), (3, .long (mixN (fun k => B (i + 1) k) h k)), (5, .int (nI k))]) (st' := [.ref (ad i), .int (nI k)]) rfl ?_
      refine S_getI g (i := i) (c := 6) (k := 3) (slf hSL).1 (by decide) hSL.2.1 rfl fl_X6_21 rfl ?_
      rw [hS]
      refine S_icN_ge g (tgt := 34) (by omega) (by omega) rfl (by decide) (fun qz11 => ?_) (fun qz11 => ?_)
      · skip
        have hk9 : k = n := by omega
        refine S_n g 1 (pc' := 35) (lv' := [(0, .ref (ad i)), (1, .long h), (3, .long (mixN (fun k => B (i + 1) k) h k)), (5, .int (nI k))]) (st' := [.long (mixN (fun k => B (i + 1) k) h k)]) rfl ?_
        exact rtL rt rfl rfl (by rw [hk9]; exact eqP_rf)
      · skip
        refine S_ldc2 g kc_X6_36 rfl ?_
        refine S_n g 3 (pc' := 20) (lv' := [(0, .ref (ad i)), (1, .long h), (3, .long (mixN (fun k => B (i + 1) k) h k)), (5, .int (nI k))]) (st' := [.ref (ad i), .long ((lN 31) * (mixN (fun k => B (i + 1) k) h k))]) rfl ?_
        refine S_getR g (i := i) (c := 6) (k := 0) (j := i + 1) (slf hSL).1 (by decide) hSL.2.1 rfl hSL.2.2.2.2.2.2.1 fl_X6_13 rfl ?_
        refine S_n g 1 (pc' := 25) (lv' := [(0, .ref (ad i)), (1, .long h), (3, .long (mixN (fun k => B (i + 1) k) h k)), (5, .int (nI k))]) (st' := [.int (nI k), .ref (ad (i + 1)), .long ((lN 31) * (mixN (fun k => B (i + 1) k) h k))]) rfl ?_
        refine S_laldN g (i := i + 1) (e := k) (slf hSL).2.1 hSL.2.2.1 (by rw [hSL.2.2.2.2.1]; omega) (by rw [hSL.2.2.2.2.1]; omega) rfl ?_
        refine S_n g 2 (pc' := 28) (lv' := [(0, .ref (ad i)), (1, .long h), (3, .long (((lN 31) * (mixN (fun k => B (i + 1) k) h k)) + (B (i + 1) k))), (5, .int (nI k))]) (st' := []) rfl ?_
        refine S_lveq (lv' := [(0, .ref (ad i)), (1, .long h), (3, .long (mixN (fun k => B (i + 1) k) h (k + 1))), (5, .int (nI k))]) (by rw [(show ((lN 31) * (mixN (fun k => B (i + 1) k) h k)) + (B (i + 1) k) = mixN (fun k => B (i + 1) k) h (k + 1) from rfl).symm]) ?_
        refine S_n g 1 (pc' := 31) (lv' := [(0, .ref (ad i)), (1, .long h), (3, .long (mixN (fun k => B (i + 1) k) h (k + 1))), (5, .int ((nI k) + nI 1))]) (st' := []) rfl ?_
        rw [nI_add k 1]
        refine S_n g 1 (pc' := 5) (lv' := [(0, .ref (ad i)), (1, .long h), (3, .long (mixN (fun k => B (i + 1) k) h (k + 1))), (5, .int (nI (k + 1)))]) (st' := []) rfl ?_
        exact lp (n - (k + 1)) (by omega) (k + 1) rfl (by omega)
  exact lp _ 0 rfl (Nat.zero_le _)

set_option maxRecDepth 100000 in
set_option maxHeartbeats 4000000 in
theorem sl_removeFirst (ad : Nat → Nat) (z0 z1 : Bool) (I : FI) (J : FJ) (A : FI) (B : FJ) (i lim n : Nat) (hSL : isSL (YC ad z0 z1) i lim) (hlim : lim ≤ 100) (hS : I i 3 = nI n) (hn : n ≤ lim) (h1 : 1 ≤ n) : Spec M_X6_removeFirst [.ref (ad i)] (YC ad z0 z1) I J A B (eqP none (YC ad z0 z1) (up2 I i 3 (nI (n - 1))) J (va_up A (i + 2) (va_cpy (A (i + 2)) (A (i + 2)) 1 0 (n - 1))) (va_up B (i + 1) (va_cpy (B (i + 1)) (B (i + 1)) 1 0 (n - 1)))) := by
  refine Spec_of (by decide) tk_X6_removeFirst (Nat.le_of_ble_eq_true rfl) (fun X g rt => ?_)
  show Sim X (YC ad z0 z1) 0 [(0, .ref (ad i))] [] I J A B 0 0
  refine S_n g 1 (pc' := 1) (lv' := [(0, .ref (ad i))]) (st' := [.ref (ad i)]) rfl ?_
  refine S_getI g (i := i) (c := 6) (k := 3) (slf hSL).1 (by decide) hSL.2.1 rfl fl_X6_21 rfl ?_
  rw [hS]
  refine S_ifN_le g (tgt := 51) (by omega) rfl (by decide) (fun qz4 => ?_) (fun qz4 => ?_)
  · skip
    omega
  · skip
    refine S_n g 2 (pc' := 9) (lv' := [(0, .ref (ad i))]) (st' := [.ref (ad i), .ref (ad i)]) rfl ?_
    refine S_getI g (i := i) (c := 6) (k := 3) (slf hSL).1 (by decide) hSL.2.1 rfl fl_X6_21 rfl ?_
    rw [hS]
    refine S_n g 2 (pc' := 14) (lv' := [(0, .ref (ad i))]) (st' := [.int ((nI n) - (nI 1)), .ref (ad i)]) rfl ?_
    rw [pk_sub (a := n) (b := 1) (by omega)]
    refine S_putI g (i := i) (c := 6) (k := 3) (kd := 0) (slf hSL).1 (by decide) hSL.2.1 rfl (by decide) fw_X6_21 rfl rfl rfl ?_
    refine S_n g 1 (pc' := 18) (lv' := [(0, .ref (ad i))]) (st' := [.ref (ad i)]) rfl ?_
    refine S_getR g (i := i) (c := 6) (k := 0) (j := i + 1) (slf hSL).1 (by decide) hSL.2.1 rfl hSL.2.2.2.2.2.2.1 fl_X6_13 rfl ?_
    refine S_n g 2 (pc' := 23) (lv' := [(0, .ref (ad i))]) (st' := [.ref (ad i), .int (nI 1), .ref (ad (i + 1))]) rfl ?_
    refine S_getR g (i := i) (c := 6) (k := 0) (j := i + 1) (slf hSL).1 (by decide) hSL.2.1 rfl hSL.2.2.2.2.2.2.1 fl_X6_13 rfl ?_
    refine S_n g 2 (pc' := 28) (lv' := [(0, .ref (ad i))]) (st' := [.ref (ad i), .int (nI 0), .ref (ad (i + 1)), .int (nI 1), .ref (ad (i + 1))]) rfl ?_
    refine S_getI g (i := i) (c := 6) (k := 3) (slf hSL).1 (by decide) hSL.2.1 rfl fl_X6_21 rfl ?_
    rw [up2_same]
    refine S_copyl g (i := i + 1) (j := i + 1) (slf hSL).2.1 hSL.2.2.1 (slf hSL).2.1 hSL.2.2.1 lc_X6_24 ac_nat ac_stat ac_ini (nI_pos (by omega)) (nI_pos (by omega)) (nI_pos (by omega)) (by rw [nI_clamp (n := 1) (by omega), nI_clamp (n := n - 1) (by omega)]; exact (by rw [hSL.2.2.2.2.1]; omega)) (by rw [nI_clamp (n := 0) (by omega), nI_clamp (n := n - 1) (by omega)]; exact (by rw [hSL.2.2.2.2.1]; omega)) (Nat.le_of_ble_eq_true rfl) (Nat.le_of_ble_eq_true rfl) rfl ?_
    rw [nI_clamp (n := 1) (by omega), nI_clamp (n := 0) (by omega), nI_clamp (n := n - 1) (by omega)]
    show Sim X (YC ad z0 z1) 34 [(0, .ref (ad i))] [] (up2 I i 3 (nI (n - 1))) J A (va_up B (i + 1) (va_cpy (B (i + 1)) (B (i + 1)) 1 0 (n - 1))) 0 0
    refine S_n g 1 (pc' := 35) (lv' := [(0, .ref (ad i))]) (st' := [.ref (ad i)]) rfl ?_
    refine S_getR g (i := i) (c := 6) (k := 1) (j := i + 2) (slf hSL).1 (by decide) hSL.2.1 rfl hSL.2.2.2.2.2.2.2 fl_X6_17 rfl ?_
    refine S_n g 2 (pc' := 40) (lv' := [(0, .ref (ad i))]) (st' := [.ref (ad i), .int (nI 1), .ref (ad (i + 2))]) rfl ?_
    refine S_getR g (i := i) (c := 6) (k := 1) (j := i + 2) (slf hSL).1 (by decide) hSL.2.1 rfl hSL.2.2.2.2.2.2.2 fl_X6_17 rfl ?_
    refine S_n g 2 (pc' := 45) (lv' := [(0, .ref (ad i))]) (st' := [.ref (ad i), .int (nI 0), .ref (ad (i + 2)), .int (nI 1), .ref (ad (i + 2))]) rfl ?_
    refine S_getI g (i := i) (c := 6) (k := 3) (slf hSL).1 (by decide) hSL.2.1 rfl fl_X6_21 rfl ?_
    rw [up2_same]
    refine S_copyi g (i := i + 2) (j := i + 2) (slf hSL).2.2 hSL.2.2.2.1 (slf hSL).2.2 hSL.2.2.2.1 lc_X6_24 ac_nat ac_stat ac_ini (nI_pos (by omega)) (nI_pos (by omega)) (nI_pos (by omega)) (by rw [nI_clamp (n := 1) (by omega), nI_clamp (n := n - 1) (by omega)]; exact (by rw [hSL.2.2.2.2.2.1]; omega)) (by rw [nI_clamp (n := 0) (by omega), nI_clamp (n := n - 1) (by omega)]; exact (by rw [hSL.2.2.2.2.2.1]; omega)) (Nat.le_of_ble_eq_true rfl) (Nat.le_of_ble_eq_true rfl) rfl ?_
    rw [nI_clamp (n := 1) (by omega), nI_clamp (n := 0) (by omega), nI_clamp (n := n - 1) (by omega)]
    show Sim X (YC ad z0 z1) 51 [(0, .ref (ad i))] [] (up2 I i 3 (nI (n - 1))) J (va_up A (i + 2) (va_cpy (A (i + 2)) (A (i + 2)) 1 0 (n - 1))) (va_up B (i + 1) (va_cpy (B (i + 1)) (B (i + 1)) 1 0 (n - 1))) 0 0
    exact rtV rt rfl rfl eqP_rf
