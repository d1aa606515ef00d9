/-! the lists that schedule makes: how long they are, and of what -/
def sm (f : Nat → Nat) : Nat → Nat
  | 0 => 0
  | n + 1 => sm f n + f n
theorem sm_le {f g : Nat → Nat} : ∀ n, (∀ i, i < n → f i ≤ g i) → sm f n ≤ sm g n
  | 0, _ => Nat.le_refl 0
  | n + 1, h => by
    have h1 := sm_le n (fun i hi => h i (by omega))
    have h2 := h n (by omega)
    unfold sm
    omega
theorem sm_eq {f g : Nat → Nat} : ∀ n, (∀ i, i < n → f i = g i) → sm f n = sm g n
  | 0, _ => rfl
  | n + 1, h => by
    have h1 := sm_eq n (fun i hi => h i (by omega))
    have h2 := h n (by omega)
    unfold sm
    omega
theorem sm_add (f g : Nat → Nat) : ∀ n, sm (fun i => f i + g i) n = sm f n + sm g n
  | 0 => rfl
  | n + 1 => by
    have h1 := sm_add f g n
    unfold sm
    omega
theorem sm_zero : ∀ n, sm (fun _ => 0) n = 0
  | 0 => rfl
  | n + 1 => by rw [sm, sm_zero n]
theorem sm_mono {f : Nat → Nat} {k : Nat} : ∀ n, k ≤ n → sm f k ≤ sm f n
  | 0, h => by rw [Nat.le_zero.mp h]; exact Nat.le_refl _
  | n + 1, h => by
    by_cases e : k = n + 1
    · rw [e]; exact Nat.le_refl _
    · have := sm_mono (f := f) n (show k ≤ n by omega)
      show sm f k ≤ sm f n + f n
      omega
theorem sm_mem {f : Nat → Nat} {k : Nat} : ∀ n, k < n → f k ≤ sm f n
  | 0, h => absurd h (Nat.not_lt_zero k)
  | n + 1, h => by
    by_cases e : k = n
    · subst e; unfold sm; omega
    · have := sm_mem (f := f) n (show k < n by omega)
      unfold sm
      omega
theorem sm_const {f : Nat → Nat} {c : Nat} : ∀ n, (∀ i, i < n → f i ≤ c) → sm f n ≤ c * n
  | 0, _ => Nat.zero_le _
  | n + 1, h => by
    have h1 := sm_const n (fun i hi => h i (by omega))
    have h2 := h n (by omega)
    rw [sm, Nat.mul_succ]
    omega
theorem sm_swap (f : Nat → Nat → Nat) (n : Nat) : ∀ k, sm (fun i => sm (fun j => f i j) n) k = sm (fun j => sm (fun i => f i j) k) n
  | 0 => (sm_zero n).symm
  | k + 1 => by
    rw [sm, sm_swap f n k, ← sm_add]
    rfl
theorem sm_one {q : Nat → Bool} (h : ∀ i j, q i = true → q j = true → i = j) : ∀ n, sm (fun i => (q i).toNat) n ≤ 1
  | 0 => Nat.zero_le _
  | n + 1 => by
    have ih := sm_one h n
    rw [sm]
    cases hq : q n with
    | false => rw [Bool.toNat_false]; omega
    | true =>
      have : sm (fun i => (q i).toNat) n = sm (fun _ => 0) n := sm_eq n (fun i hi => by
        cases hi2 : q i with
        | false => rfl
        | true => exact absurd (h i n hi2 hq) (by omega))
      rw [this, sm_zero, Bool.toNat_true]
      omega
/-- bits of a row of 12 are few -/
theorem win_ct {s : Int64} {lo : Nat} (h : ∀ p, tb s p = true → lo ≤ p ∧ p < lo + 12) : ∀ n, sm (fun p => (tb s p).toNat) n ≤ min n (lo + 12) - lo
  | 0 => by rw [sm]; omega
  | n + 1 => by
    have ih := win_ct h n
    rw [sm]
    cases hb : tb s n with
    | false => rw [Bool.toNat_false]; omega
    | true =>
      have := h n hb
      rw [Bool.toNat_true]
      omega
theorem msE_win (E : EE) {f : Nat} (hf : f < 5) : ∀ j, j ≤ 12 → ∀ p, tb (msE E f j) p = true → 12 * f ≤ p ∧ p < 12 * f + j
  | 0, _, p, h => by rw [msE, tb_0] at h; exact absurd h (by decide)
  | j + 1, hj, p, h => by
    rw [msE, tb_or, Bool.or_eq_true] at h
    rcases h with h | h
    · have := msE_win E hf j (by omega) p h; omega
    · split at h
      · rw [tb_0] at h; exact absurd h (by decide)
      · by_cases hp : p < 64
        · rw [tb_b1 (by omega) hp] at h
          have := of_decide_eq_true h
          omega
        · rw [tb_big (by omega)] at h; exact absurd h (by decide)
theorem lkF_win {m : Nat → Int64} {nf u : Nat} (hf : nf ≤ 5) (hW : okW m u nf) (ln : Nat → Nat) : ∃ lo, lo ≤ 12 * (nf - 1) ∧ ∀ p, tb (lkF m ln u) p = true → lo ≤ p ∧ p < lo + 12 := by
  unfold lkF msF
  rcases hW with hW | ⟨f, hf2, hW⟩
  · rw [if_pos hW]
    exact ⟨0, Nat.zero_le _, fun p h => by rw [tb_0] at h; exact absurd h (by decide)⟩
  · rw [if_neg (by rw [hW]; exact lN_m1 (by omega)), hW, lN_nat' (by omega)]
    exact ⟨12 * f, by omega, fun p h => msE_win _ (by omega) 12 (Nat.le_refl _) p h⟩
theorem lk_ct {m : Nat → Int64} {nf u : Nat} (hf : nf ≤ 5) (hW : okW m u nf) (ln : Nat → Nat) (n : Nat) : sm (fun p => (tb (lkF m ln u) p).toNat) n ≤ 12 := by
  obtain ⟨lo, _, h⟩ := lkF_win hf hW ln
  have := win_ct h n
  omega
theorem lk_in {m : Nat → Int64} {nf u : Nat} (h1 : 1 ≤ nf) (hf : nf ≤ 5) (hW : okW m u nf) (ln : Nat → Nat) : inP nf (lkF m ln u) := by
  obtain ⟨lo, hlo, h⟩ := lkF_win hf hW ln
  intro b hb
  cases hq : tb (lkF m ln u) b with
  | false => rfl
  | true => have := h b hq; omega
theorem pgP_ct (lk : Nat → Int64) (u : Nat) : ∀ n, (pgP lk u n).length = sm (fun p => (tb (lk u) p).toNat) n
  | 0 => rfl
  | n + 1 => by
    rw [pgP, sm, ← pgP_ct lk u n]
    cases hb : tb (lk u) n with
    | false => rw [if_neg (by decide), Bool.toNat_false]; rfl
    | true => rw [if_pos rfl, Bool.toNat_true, List.length_append]; rfl
theorem lct_sm (m lk : Nat → Int64) (all nu u T : Nat) : ∀ n, lct m lk all nu u T n = sm (fun p => (lmt m lk all nu u T p).toNat) n
  | 0 => rfl
  | n + 1 => by rw [lct, sm, lct_sm m lk all nu u T n]
/-- the pieces that a set's lists have, all in all -/
def wgt (m lk : Nat → Int64) (all nf nu T : Nat) : Nat := sm (fun u => if T.testBit u = true then lct m lk all nu u T (12 * nf) else 0) nu
theorem lsF_ct {m lk : Nat → Int64} {all nu u T i : Nat} : ∀ n, lsF m lk all nu u T i n ≠ 0 → i < lct m lk all nu u T n
  | 0, h => absurd rfl h
  | n + 1, h => by
    unfold lsF at h
    split at h
    · next q => rw [lct, q.1, q.2, Bool.toNat_true]; omega
    · have := lsF_ct n h
      unfold lct
      omega
theorem smT_nz {m lk : Nat → Int64} {all nf nu T i : Nat} : ∀ u, smT m lk all nf nu T i u ≠ lN 0 → ∃ v, v < u ∧ T.testBit v = true ∧ lsF m lk all nu v T i (12 * nf) ≠ 0
  | 0, h => absurd rfl h
  | u + 1, h => by
    by_cases q : smT m lk all nf nu T i u = lN 0
    · rw [smT, q] at h
      by_cases hb : T.testBit u = true
      · refine ⟨u, by omega, hb, fun e => h ?_⟩
        rw [if_pos hb, pbit, if_pos e]
        decide
      · rw [if_neg hb] at h
        exact absurd (by decide) h
    · obtain ⟨v, h1, h2⟩ := smT_nz u q
      exact ⟨v, by omega, h2⟩
theorem sbL_wgt (m lk : Nat → Int64) (all nf nu T : Nat) : ∀ i, (sbL m lk all nf nu T i).length ≤ wgt m lk all nf nu T
  | 0 => Nat.zero_le _
  | i + 1 => by
    unfold sbL
    split
    · next h =>
      rw [mrT, Bool.and_eq_true] at h
      obtain ⟨v, h1, h2, h3⟩ := smT_nz nu (of_decide_eq_true h.2)
      have h4 := lsF_ct _ h3
      have h5 := sm_mem (f := fun u => if T.testBit u = true then lct m lk all nu u T (12 * nf) else 0) nu h1
      simp only [if_pos h2] at h5
      have h6 := sbL_len m lk all nf nu T i
      rw [List.length_append, List.length_singleton]
      unfold wgt
      omega
    · exact sbL_wgt m lk all nf nu T i
theorem siL_wgt (m lk : Nat → Int64) (all ld nf nu z : Nat) : ∀ s, (siL m lk all ld nf nu z s).length ≤ sm (fun t => if ctb (lN t) 60 = z then wgt m lk all nf nu t else 0) s
  | 0 => Nat.zero_le _
  | s + 1 => by
    have ih := siL_wgt m lk all ld nf nu z s
    unfold siL sm
    split
    · next h =>
      rw [if_pos h.2.1, List.length_append]
      have := sbL_wgt m lk all nf nu s 12
      omega
    · omega
theorem soL_wgt (m lk : Nat → Int64) (all ld nf nu : Nat) : ∀ k, k ≤ nu → (soL m lk all ld nf nu k).length ≤ sm (fun t => if nu < ctb (lN t) 60 + k ∧ ctb (lN t) 60 ≤ nu then wgt m lk all nf nu t else 0) (2 ^ nu)
  | 0, _ => Nat.zero_le _
  | k + 1, hk => by
    have ih := soL_wgt m lk all ld nf nu k (by omega)
    have h2 := siL_wgt m lk all ld nf nu (nu - k) (2 ^ nu)
    rw [soL, List.length_append]
    refine Nat.le_trans (Nat.add_le_add ih h2) ?_
    rw [← sm_add]
    refine sm_le _ (fun t _ => ?_)
    by_cases a : ctb (lN t) 60 = nu - k
    · rw [if_pos a, if_neg (by omega), if_pos (by omega)]; omega
    · rw [if_neg a]
      by_cases b : nu < ctb (lN t) 60 + k ∧ ctb (lN t) 60 ≤ nu
      · rw [if_pos b, if_pos (by omega)]; omega
      · rw [if_neg b]; omega
theorem tb_inj {u s t : Nat} (hs : s < 64) (ht : t < 64) (h1 : s.testBit u = true) (h2 : t.testBit u = true) (h : sdf s (2 ^ u) = sdf t (2 ^ u)) : s = t := by
  apply Nat.eq_of_testBit_eq
  intro i
  by_cases e : i = u
  · subst e; rw [h1, h2]
  · have h3 : (sdf s (2 ^ u)).testBit i = (sdf t (2 ^ u)).testBit i := by rw [h]
    rw [sdf_bit hs, sdf_bit ht, Nat.testBit_two_pow] at h3
    simp [show ¬ u = i from fun q => e q.symm] at h3
    exact h3
theorem wgt_all {m : Nat → Int64} {all nf nu : Nat} (hf : nf ≤ 5) (hnu : nu ≤ 6) (ln : Nat → Nat) (hW : ∀ u, u < 6 → okW m u nf) : sm (fun t => wgt m (lkF m ln) all nf nu t) (2 ^ nu) ≤ 12 * nu := by
  unfold wgt
  rw [sm_swap (fun t u => if t.testBit u = true then lct m (lkF m ln) all nu u t (12 * nf) else 0) nu (2 ^ nu)]
  refine sm_const nu (fun u hu => ?_)
  have hpw : 2 ^ nu ≤ 64 := Nat.pow_le_pow_right (by decide) hnu
  have e1 : sm (fun t => if t.testBit u = true then lct m (lkF m ln) all nu u t (12 * nf) else 0) (2 ^ nu) = sm (fun t => sm (fun p => (decide (t < 64) && (t.testBit u && lmt m (lkF m ln) all nu u t p)).toNat) (12 * nf)) (2 ^ nu) := by
    refine sm_eq _ (fun t ht => ?_)
    rw [decide_eq_true (show t < 64 by omega), lct_sm]
    cases hb : t.testBit u with
    | false => rw [if_neg (by decide)]; simp only [Bool.false_and, Bool.and_false, Bool.toNat_false]; exact (sm_zero _).symm
    | true => rw [if_pos rfl]; simp only [Bool.true_and]
  show sm (fun t => if t.testBit u = true then lct m (lkF m ln) all nu u t (12 * nf) else 0) (2 ^ nu) ≤ 12
  rw [e1, sm_swap (fun t p => (decide (t < 64) && (t.testBit u && lmt m (lkF m ln) all nu u t p)).toNat) (12 * nf) (2 ^ nu)]
  refine Nat.le_trans ?_ (lk_ct hf (hW u (by omega)) ln (12 * nf))
  refine sm_le _ (fun p _ => ?_)
  cases hb : tb (lkF m ln u) p with
  | false =>
    have : sm (fun t => (decide (t < 64) && (t.testBit u && lmt m (lkF m ln) all nu u t p)).toNat) (2 ^ nu) = sm (fun _ => 0) (2 ^ nu) := sm_eq _ (fun t _ => by unfold lmt; rw [hb, Bool.false_and, Bool.and_false, Bool.and_false]; rfl)
    rw [this, sm_zero]
    exact Nat.zero_le _
  | true =>
    refine sm_one (q := fun t => decide (t < 64) && (t.testBit u && lmt m (lkF m ln) all nu u t p)) (fun s t h1 h2 => ?_) _
    simp only [lmt, Bool.and_eq_true, decide_eq_true_eq] at h1 h2
    exact tb_inj h1.1 h2.1 h1.2.1 h2.2.1 (h1.2.2.2.symm.trans h2.2.2.2)
theorem sch_bd {m : Nat → Int64} {all nf nu : Nat} (hf : nf ≤ 5) (hnu : nu ≤ 6) (ln : Nat → Nat) (hW : ∀ u, u < 6 → okW m u nf) (ld k s : Nat) (hk : k < nu) (hs : s ≤ 2 ^ nu) : (soL m (lkF m ln) all ld nf nu k ++ siL m (lkF m ln) all ld nf nu (nu - k) s).length ≤ 72 := by
  rw [List.length_append]
  have h1 := soL_wgt m (lkF m ln) all ld nf nu k (by omega)
  have h2 := Nat.le_trans (siL_wgt m (lkF m ln) all ld nf nu (nu - k) s) (sm_mono _ hs)
  refine Nat.le_trans (Nat.add_le_add h1 h2) ?_
  rw [← sm_add]
  refine Nat.le_trans (sm_le _ (fun t _ => ?_)) (Nat.le_trans (wgt_all (all := all) hf hnu ln hW) (by omega))
  by_cases a : ctb (lN t) 60 = nu - k
  · rw [if_pos a, if_neg (by omega)]; omega
  · rw [if_neg a]
    split <;> omega
theorem sch_hc {m : Nat → Int64} {nf : Nat} (hf : nf ≤ 5) (ln : Nat → Nat) (hW : ∀ u, u < 6 → okW m u nf) {u : Nat} (hu : u < 6) : (pgP (lkF m ln) u (12 * nf)).length ≤ 12 := by
  rw [pgP_ct]
  exact lk_ct hf (hW u hu) ln _
theorem lsF_le' (m lk : Nat → Int64) (all nu u T i n : Nat) : lsF m lk all nu u T i n ≤ n := lsF_le m lk all nu u T i n
theorem smT_in {m lk : Nat → Int64} {all nf nu T i : Nat} (hf : nf ≤ 5) : ∀ u, inP nf (smT m lk all nf nu T i u)
  | 0 => inP_0 nf
  | u + 1 => by
    rw [smT]
    refine inP_or (smT_in hf u) ?_
    split
    · unfold pbit
      split
      · exact inP_0 nf
      · have := lsF_le m lk all nu u T i (12 * nf)
        exact inP_b1 (by omega) hf
    · exact inP_0 nf
theorem sbL_ok {m lk : Nat → Int64} {all nf nu T : Nat} (hf : nf ≤ 5) : ∀ i, ∀ s, s ∈ sbL m lk all nf nu T i → okS nf s
  | 0, s, h => absurd h (by simp [sbL])
  | i + 1, s, h => by
    unfold sbL at h
    split at h
    · next q =>
      rw [List.mem_append] at h
      rcases h with h | h
      · exact sbL_ok hf i s h
      · rw [mrT, Bool.and_eq_true] at q
        rw [List.mem_singleton.mp h]
        exact ⟨of_decide_eq_true q.2, smT_in hf nu⟩
    · exact sbL_ok hf i s h
theorem siL_ok {m lk : Nat → Int64} {all ld nf nu z : Nat} (hf : nf ≤ 5) : ∀ n, ∀ s, s ∈ siL m lk all ld nf nu z n → okS nf s
  | 0, s, h => absurd h (by simp [siL])
  | n + 1, s, h => by
    unfold siL at h
    split at h
    · rw [List.mem_append] at h
      rcases h with h | h
      · exact siL_ok hf n s h
      · exact sbL_ok hf 12 s h
    · exact siL_ok hf n s h
theorem soL_ok {m lk : Nat → Int64} {all ld nf nu : Nat} (hf : nf ≤ 5) : ∀ n, ∀ s, s ∈ soL m lk all ld nf nu n → okS nf s
  | 0, s, h => absurd h (by simp [soL])
  | n + 1, s, h => by
    unfold soL at h
    rw [List.mem_append] at h
    rcases h with h | h
    · exact soL_ok hf n s h
    · exact siL_ok hf _ s h
theorem plL_ok {lk : Nat → Int64} {all nf nu : Nat} (hf : nf ≤ 5) : ∀ n, n ≤ 12 * nf → ∀ s, s ∈ plL lk all nu n → okS nf s
  | 0, _, s, h => absurd h (by simp [plL])
  | n + 1, hn, s, h => by
    unfold plL at h
    split at h
    · rw [List.mem_append] at h
      rcases h with h | h
      · exact plL_ok hf n (by omega) s h
      · rw [List.mem_singleton.mp h]
        exact ⟨b1_nz (by omega), inP_b1 (by omega) hf⟩
    · exact plL_ok hf n (by omega) s h
/-- pairs of a user and a piece -/
def prs (nf : Nat) (L : List Nat) : Prop := ∀ x, x ∈ L → x % 60 < 12 * nf
theorem pgP_prs {lk : Nat → Int64} {nf u : Nat} (hf : nf ≤ 5) : ∀ n, n ≤ 12 * nf → prs nf (pgP lk u n)
  | 0, _, x, h => absurd h (by simp [pgP])
  | n + 1, hn, x, h => by
    unfold pgP at h
    split at h
    · rw [List.mem_append] at h
      rcases h with h | h
      · exact pgP_prs hf n (by omega) x h
      · rw [List.mem_singleton.mp h]; omega
    · exact pgP_prs hf n (by omega) x h
theorem pgU_prs {lk : Nat → Int64} {nf : Nat} (hf : nf ≤ 5) : ∀ u, prs nf (pgU lk (12 * nf) u)
  | 0, x, h => absurd h (by simp [pgU])
  | u + 1, x, h => by
    unfold pgU at h
    rw [List.mem_append] at h
    rcases h with h | h
    · exact pgU_prs hf u x h
    · exact pgP_prs hf _ (Nat.le_refl _) x h
theorem prP_lt {nf : Nat} {L : List Nat} (h : prs nf L) {k : Nat} (hk : k < L.length) : prP L k < 12 * nf := by
  unfold prP
  rw [List.getD_eq_getElem?_getD, List.getElem?_eq_getElem hk]
  exact h _ (List.getElem_mem hk)
theorem gpS_ok {m : Nat → Int64} {nf nu : Nat} {L : List Nat} {sv : Nat → Bool} {fi : Nat} (hf : nf ≤ 5) (hL : prs nf L) (hs : sv fi = false) : ∀ n, fi + n < L.length → okS nf (gpS m nu L sv fi (n + 1)).1
  | 0, hn => by
    rw [gpS_s]
    have e : (gpS m nu L sv fi 0) = (lN 0, fun _ => 0, sv) := rfl
    rw [e]
    simp only [Nat.add_zero, hs, Bool.not_false, decide_true, Bool.true_or, Bool.and_self, if_true]
    have := prP_lt hL (show fi < L.length by omega)
    have h1 : tb (lN 0 ||| b1 (prP L fi)) (prP L fi) = true := by rw [tb_or, tb_b1 (by omega) (by omega)]; simp
    exact ⟨nz_bit h1, inP_or (inP_0 nf) (inP_b1 this hf)⟩
  | n + 1, hn => by
    have ih := gpS_ok (m := m) (nu := nu) hf hL hs n (by omega)
    rw [gpS_s]
    split
    · have := prP_lt hL (show fi + (n + 1) < L.length by omega)
      have h1 : tb ((gpS m nu L sv fi (n + 1)).1 ||| b1 (prP L (fi + (n + 1)))) (prP L (fi + (n + 1))) = true := by rw [tb_or, tb_b1 (by omega) (by omega)]; simp
      exact ⟨nz_bit h1, inP_or ih.2 (inP_b1 this hf)⟩
    · exact ih
theorem gdS_ok {m : Nat → Int64} {nf nu : Nat} {L : List Nat} (hf : nf ≤ 5) (hL : prs nf L) : ∀ k, k ≤ L.length → ∀ s, s ∈ (gdS m nu L k).1 → okS nf s
  | 0, _, s, h => absurd h (by simp [gdS])
  | k + 1, hk, s, h => by
    rw [gdS_s] at h
    split at h
    · exact gdS_ok hf hL k (by omega) s h
    · next q =>
      simp only [List.mem_append, List.mem_singleton] at h
      rcases h with h | h
      · exact gdS_ok hf hL k (by omega) s h
      · rw [h, show L.length - k = (L.length - k - 1) + 1 from by omega]
        exact gpS_ok hf hL (by cases hb : (gdS m nu L k).2 k with | false => rfl | true => exact absurd hb q) _ (by omega)
theorem Wf_qL {m : Nat → Int64} {nf nu nc qn hn pn : Nat} {ln : Nat → Nat} (h : Wf m nf nu nc qn hn pn ln) : ∀ n (L : List Int64), L.length = n → n ≤ 100 → (∀ s, s ∈ L → okS nf s) → Wf (qL m L) nf nu nc n hn pn ln
  | 0, L, hL, _, _ => by
    rw [List.length_eq_zero_iff.mp hL, qL_nil]
    exact Wf_clear h
  | n + 1, L, hL, hn, hs => by
    rcases List.eq_nil_or_concat L with rfl | ⟨L', s, rfl⟩
    · exact absurd hL (by simp)
    · rw [List.concat_eq_append] at hL hs ⊢
      rw [List.length_append, List.length_singleton] at hL
      have h1 := Wf_qL h n L' (by omega) (by omega) (fun t ht => hs t (List.mem_append_left _ ht))
      have h2 := Wf_push h1 (by omega) (hs s (List.mem_append_right _ (List.mem_singleton.mpr rfl)))
      rw [qL_snoc, show L'.length = n from by omega]
      exact h2
theorem sch_ok {m : Nat → Int64} {nf nu nc qn hn pn : Nat} {ln : Nat → Nat} (h : Wf m nf nu nc qn hn pn ln) (k : Nat) : (schL nf nu ln m k).length ≤ 72 ∧ ∀ s, s ∈ schL nf nu ln m k → okS nf s := by
  obtain ⟨c0, c1, c2, c3, c4, c5, c6, c7, c8, c9, c10, c11, c12⟩ := h
  obtain ⟨hF, hU, hC, h1, h2, h3, h4, h5⟩ := c0
  have hW : ∀ u, u < 6 → okW m u nf := fun u hu => (c5 u hu).1
  have so : ∀ ld, (soL m (lkF m ln) (dmN m nu) ld nf nu nu).length ≤ 72 := fun ld => by
    have := sch_bd (all := dmN m nu) h2 h4 ln hW ld (nu - 1) (2 ^ nu) (by omega) (Nat.le_refl _)
    rw [show soL m (lkF m ln) (dmN m nu) ld nf nu nu = soL m (lkF m ln) (dmN m nu) ld nf nu (nu - 1 + 1) from by rw [Nat.sub_add_cancel h3], soL]
    exact this
  unfold schL
  split
  · exact ⟨Nat.le_trans (plL_len _ _ _ _) (by omega), plL_ok h2 _ (Nat.le_refl _)⟩
  · exact ⟨so _, soL_ok h2 _⟩
  · exact ⟨so _, soL_ok h2 _⟩
  · have hl := pgU_len (lkF m ln) (12 * nf) nu (fun u hu => sch_hc h2 ln hW (by omega)) nu (Nat.le_refl _)
    have hg := gdS_len m nu (pgU (lkF m ln) (12 * nf) nu) (pgU (lkF m ln) (12 * nf) nu).length
    exact ⟨by omega, gdS_ok h2 (pgU_prs h2 nu) _ (Nat.le_refl _)⟩
theorem Wf_schedule {m : Nat → Int64} {nf nu nc qn hn pn : Nat} {ln : Nat → Nat} (h : Wf m nf nu nc qn hn pn ln) (k : Nat) : Wf (qL m (schL nf nu ln m k)) nf nu nc (schL nf nu ln m k).length hn pn ln := by
  have := sch_ok h k
  exact Wf_qL h _ _ rfl (by omega) this.2
theorem WF_schedule {m : Nat → Int64} {nf nu nc qn hn pn : Nat} {ln : Nat → Nat} (h : Wf m nf nu nc qn hn pn ln) (x : Int32) : WF (o_schedule nf nu ln m x).2 := by
  unfold o_schedule
  split
  · exact Wf_WF (Wf_schedule h _)
  · exact Wf_WF h
