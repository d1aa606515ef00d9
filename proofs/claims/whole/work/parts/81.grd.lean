/-! the greedy schedule: pairs by their places in the list, and by user and piece -/
theorem getD_m {A R : List Nat} {x : Nat} : (A ++ x :: R).getD A.length 0 = x := by
  rw [List.getD_eq_getElem?_getD, List.getElem?_append_right (Nat.le_refl _), Nat.sub_self]
  rfl
def pix (lk : Nat → Int64) (np u p : Nat) : Nat := (pgU lk np u).length + (pgP lk u p).length
theorem pgP_pre {lk : Nat → Int64} {u p : Nat} : ∀ n, p ≤ n → ∃ R, pgP lk u n = pgP lk u p ++ R
  | 0, h => ⟨[], by rw [show p = 0 by omega, List.append_nil]⟩
  | n + 1, h => by
    by_cases e : p = n + 1
    · exact ⟨[], by rw [e, List.append_nil]⟩
    · obtain ⟨R, hR⟩ := pgP_pre (lk := lk) (u := u) n (show p ≤ n by omega)
      rw [pgP]
      split
      · exact ⟨R ++ [60 * u + n], by rw [hR, List.append_assoc]⟩
      · exact ⟨R, hR⟩
theorem pgU_pre {lk : Nat → Int64} {np u : Nat} : ∀ n, u ≤ n → ∃ R, pgU lk np n = pgU lk np u ++ R
  | 0, h => ⟨[], by rw [show u = 0 by omega, List.append_nil]⟩
  | n + 1, h => by
    by_cases e : u = n + 1
    · exact ⟨[], by rw [e, List.append_nil]⟩
    · obtain ⟨R, hR⟩ := pgU_pre (lk := lk) (np := np) n (show u ≤ n by omega)
      rw [pgU, hR]
      exact ⟨R ++ pgP lk n np, by rw [List.append_assoc]⟩
theorem L_at {lk : Nat → Int64} {np nu u p : Nat} (hu : u < nu) (hp : p < np) (hb : tb (lk u) p = true) : (pgU lk np nu).getD (pix lk np u p) 0 = 60 * u + p ∧ pix lk np u p < (pgU lk np nu).length := by
  obtain ⟨R1, h1⟩ := pgP_pre (lk := lk) (u := u) np (show p + 1 ≤ np by omega)
  obtain ⟨R2, h2⟩ := pgU_pre (lk := lk) (np := np) nu (show u + 1 ≤ nu by omega)
  have h3 : pgP lk u (p + 1) = pgP lk u p ++ [60 * u + p] := by rw [pgP, if_pos hb]
  have h4 : pgU lk np nu = (pgU lk np u ++ pgP lk u p) ++ (60 * u + p) :: (R1 ++ R2) := by
    rw [h2, pgU, h1, h3]
    simp only [List.append_assoc, List.cons_append, List.nil_append]
  have h5 : pix lk np u p = (pgU lk np u ++ pgP lk u p).length := by rw [List.length_append]; rfl
  rw [h4, h5]
  refine ⟨getD_m, ?_⟩
  simp only [List.length_append, List.length_cons]
  omega
theorem pix_t {lk : Nat → Int64} {np u p : Nat} (h : tb (lk u) p = true) : pix lk np u (p + 1) = pix lk np u p + 1 := by
  unfold pix
  rw [pgP, if_pos h, List.length_append, List.length_singleton]
  omega
theorem pix_f {lk : Nat → Int64} {np u p : Nat} (h : tb (lk u) p = false) : pix lk np u (p + 1) = pix lk np u p := by
  unfold pix
  rw [pgP, if_neg (by rw [h]; decide)]
theorem pgP_hi {lk : Nat → Int64} {u N : Nat} (h : ∀ p, N ≤ p → tb (lk u) p = false) : ∀ n, N ≤ n → pgP lk u n = pgP lk u N
  | 0, hn => by rw [show N = 0 by omega]
  | n + 1, hn => by
    by_cases e : N = n + 1
    · rw [e]
    · rw [pgP, if_neg (by rw [h n (by omega)]; decide), pgP_hi h n (by omega)]
theorem pix_u {lk : Nat → Int64} {np u : Nat} (hnp : np ≤ 60) (h : ∀ p, np ≤ p → tb (lk u) p = false) : pix lk np u 60 = pix lk np (u + 1) 0 := by
  unfold pix
  rw [pgP_hi h 60 hnp, pgU, List.length_append]
  rfl
theorem pix_0 {lk : Nat → Int64} {np : Nat} : pix lk np 0 0 = 0 := rfl
theorem pix_nu {lk : Nat → Int64} {np nu : Nat} : pix lk np nu 0 = (pgU lk np nu).length := rfl
theorem pix_inj {lk : Nat → Int64} {np nu u p v q : Nat} (hnp : np ≤ 60) (hu : u < nu) (hp : p < np) (hb : tb (lk u) p = true) (hv : v < nu) (hq : q < np) (hc : tb (lk v) q = true) (e : pix lk np v q = pix lk np u p) : v = u ∧ q = p := by
  have h1 := (L_at hu hp hb).1
  have h2 := (L_at hv hq hc).1
  rw [e] at h2
  rw [h1] at h2
  omega
/-- a group while it grows: the reference's and the class' -/
def GI (m lk : Nat → Int64) (np nu : Nat) (G : GS) (s be : Int64) (mi : Nat → Int64) (fi : Nat) : Prop :=
  s = G.1 ∧ (∀ q, q < 60 → (tb be q = true ↔ ∀ v, v < nu → G.2.1 v = 0 ∨ G.2.1 v = q + 1 ∨ tb (m (63 + v)) q = true)) ∧ (∀ v, v < nu → ∀ q, q < 60 → tb (mi v) q = (tb (lk v) q && !G.2.2 (pix lk np v q))) ∧ (∀ v, v < nu → ∀ q, G.2.1 v = q + 1 → q < 60 ∧ tb s q = true ∧ tb (m (63 + v)) q = false ∧ tb (mi v) q = false) ∧ ∀ k, k ≤ fi → G.2.2 k = true
theorem jnV_iff {m : Nat → Int64} {g : Nat → Nat} {u p : Nat} {s : Int64} : ∀ k, jnV m g u p s k = true ↔ (s &&& (b1 p ^^^ -lN 1)) &&& (m (63 + u) ^^^ -lN 1) = lN 0 ∧ ∀ v, v < k → g v = 0 ∨ g v = p + 1 ∨ tb (m (63 + v)) p = true
  | 0 => by rw [jnV, decide_eq_true_iff]; exact ⟨fun h => ⟨h, fun v hv => absurd hv (Nat.not_lt_zero v)⟩, fun h => h.1⟩
  | k + 1 => by
    rw [jnV, Bool.and_eq_true, jnV_iff k, Bool.or_eq_true, Bool.or_eq_true, decide_eq_true_iff, decide_eq_true_iff]
    constructor
    · rintro ⟨⟨h1, h2⟩, h3⟩
      refine ⟨h1, fun v hv => ?_⟩
      by_cases e : v = k
      · subst e; exact h3
      · exact h2 v (by omega)
    · rintro ⟨h1, h2⟩
      exact ⟨⟨h1, fun v hv => h2 v (by omega)⟩, h2 k (by omega)⟩
section
variable {m lk : Nat → Int64} {nf nu : Nat}
theorem gp_same {sv : Nat → Bool} {fi u p : Nat} {s be : Int64} {mi : Nat → Int64} (hu : u < nu) (hp : p < 60) (h : GI m lk (12 * nf) nu (gpS m nu (pgU lk (12 * nf) nu) sv fi (max 1 (pix lk (12 * nf) u p - fi))) s be mi fi) (hb : tb (mi u) p = false) : gpS m nu (pgU lk (12 * nf) nu) sv fi (max 1 (pix lk (12 * nf) u (p + 1) - fi)) = gpS m nu (pgU lk (12 * nf) nu) sv fi (max 1 (pix lk (12 * nf) u p - fi)) := by
  cases hl : tb (lk u) p
  · rw [pix_f hl]
  · rw [pix_t hl]
    by_cases q : pix lk (12 * nf) u p ≤ fi
    · rw [show max 1 (pix lk (12 * nf) u p + 1 - fi) = max 1 (pix lk (12 * nf) u p - fi) by omega]
    · have h3 := h.2.2.1 u hu p hp
      rw [hb, hl, Bool.true_and] at h3
      obtain ⟨n, hn⟩ : ∃ n, n = pix lk (12 * nf) u p - fi := ⟨_, rfl⟩
      have e1 : max 1 (pix lk (12 * nf) u p - fi) = n := by omega
      have e2 : max 1 (pix lk (12 * nf) u p + 1 - fi) = n + 1 := by omega
      rw [e1] at h3
      rw [e1, e2, gpS_s, show fi + n = pix lk (12 * nf) u p by omega, ← h3]
      rfl
/-- whether the pair joins -/
theorem gp_not {sv : Nat → Bool} {fi u p : Nat} {s be : Int64} {mi : Nat → Int64} (hf : nf ≤ 5) (hlk : okL lk m nf nu) (hu : u < nu) (hp : p < 60) (h : GI m lk (12 * nf) nu (gpS m nu (pgU lk (12 * nf) nu) sv fi (max 1 (pix lk (12 * nf) u p - fi))) s be mi fi) (hb : tb (mi u) p = true) (hj : ¬ (tb be p = true ∧ (s &&& (m (63 + u) ^^^ -lN 1)) &&& (b1 p ^^^ -lN 1) = lN 0)) : gpS m nu (pgU lk (12 * nf) nu) sv fi (max 1 (pix lk (12 * nf) u (p + 1) - fi)) = gpS m nu (pgU lk (12 * nf) nu) sv fi (max 1 (pix lk (12 * nf) u p - fi)) := by
  have h3 := h.2.2.1 u hu p hp
  rw [hb] at h3
  have hl : tb (lk u) p = true := by
    cases hl : tb (lk u) p
    · rw [hl, Bool.false_and] at h3; exact absurd h3 (by decide)
    · rfl
  rw [hl, Bool.true_and] at h3
  have hgt : fi < pix lk (12 * nf) u p := Classical.byContradiction (fun q => by
    rw [h.2.2.2.2 _ (by omega)] at h3
    exact absurd h3 (by decide))
  have hpn := (okL_d hf hlk hu hl).2
  obtain ⟨eg, _⟩ := L_at hu hpn hl
  obtain ⟨n, hn⟩ : ∃ n, n = pix lk (12 * nf) u p - fi := ⟨_, rfl⟩
  have e1 : max 1 (pix lk (12 * nf) u p - fi) = n := by omega
  rw [pix_t hl]
  have e2 : max 1 (pix lk (12 * nf) u p + 1 - fi) = n + 1 := by omega
  rw [e1] at h h3
  have hU : prU (pgU lk (12 * nf) nu) (fi + n) = u := by unfold prU; rw [show fi + n = pix lk (12 * nf) u p by omega, eg]; omega
  have hP : prP (pgU lk (12 * nf) nu) (fi + n) = p := by unfold prP; rw [show fi + n = pix lk (12 * nf) u p by omega, eg]; omega
  have hcond : jnV m (gpS m nu (pgU lk (12 * nf) nu) sv fi n).2.1 u p (gpS m nu (pgU lk (12 * nf) nu) sv fi n).1 nu = false := by
    cases hq : jnV m (gpS m nu (pgU lk (12 * nf) nu) sv fi n).2.1 u p (gpS m nu (pgU lk (12 * nf) nu) sv fi n).1 nu
    · rfl
    · rw [jnV_iff] at hq
      refine absurd ⟨(h.2.1 p hp).mpr hq.2, ?_⟩ hj
      rw [h.1, ← hq.1]
      apply tb_ext; intro i hi
      rw [off_c hi, off_c hi, off_c hi, off_c hi]
      cases tb (gpS m nu (pgU lk (12 * nf) nu) sv fi n).1 i <;> cases tb (b1 p) i <;> cases tb (m (63 + u)) i <;> rfl
  rw [e1, e2, gpS_s, hU, hP, hcond, decide_eq_false (show ¬ n = 0 by omega)]
  rw [if_neg (by simp)]
theorem gp_join {sv : Nat → Bool} {fi u p : Nat} {s be : Int64} {mi : Nat → Int64} (hf : nf ≤ 5) (hlk : okL lk m nf nu) (hcl : ∀ v, v < nu → ∀ q, tb (lk v) q = true → tb (m (63 + v)) q = false) (hu : u < nu) (hp : p < 60) (h : GI m lk (12 * nf) nu (gpS m nu (pgU lk (12 * nf) nu) sv fi (max 1 (pix lk (12 * nf) u p - fi))) s be mi fi) (hb : tb (mi u) p = true) (hbe : tb be p = true) (hj : (s &&& (m (63 + u) ^^^ -lN 1)) &&& (b1 p ^^^ -lN 1) = lN 0) : GI m lk (12 * nf) nu (gpS m nu (pgU lk (12 * nf) nu) sv fi (max 1 (pix lk (12 * nf) u (p + 1) - fi))) (s ||| b1 p) (be &&& (m (63 + u) ||| b1 p)) (va_up mi u (mi u &&& (b1 p ^^^ -lN 1))) fi := by
  have h3 := h.2.2.1 u hu p hp
  rw [hb] at h3
  have hl : tb (lk u) p = true := by
    cases hl : tb (lk u) p
    · rw [hl, Bool.false_and] at h3; exact absurd h3 (by decide)
    · rfl
  rw [hl, Bool.true_and] at h3
  have hgt : fi < pix lk (12 * nf) u p := Classical.byContradiction (fun q => by
    rw [h.2.2.2.2 _ (by omega)] at h3
    exact absurd h3 (by decide))
  have hpn := (okL_d hf hlk hu hl).2
  obtain ⟨eg, _⟩ := L_at hu hpn hl
  obtain ⟨n, hn⟩ : ∃ n, n = pix lk (12 * nf) u p - fi := ⟨_, rfl⟩
  have e1 : max 1 (pix lk (12 * nf) u p - fi) = n := by omega
  rw [pix_t hl]
  have e2 : max 1 (pix lk (12 * nf) u p + 1 - fi) = n + 1 := by omega
  rw [e1] at h h3
  have efn : fi + n = pix lk (12 * nf) u p := by omega
  have hU : prU (pgU lk (12 * nf) nu) (fi + n) = u := by unfold prU; rw [efn, eg]; omega
  have hP : prP (pgU lk (12 * nf) nu) (fi + n) = p := by unfold prP; rw [efn, eg]; omega
  obtain ⟨i1, i2, i3, i4, i5⟩ := h
  have hcond : jnV m (gpS m nu (pgU lk (12 * nf) nu) sv fi n).2.1 u p (gpS m nu (pgU lk (12 * nf) nu) sv fi n).1 nu = true := by
    rw [jnV_iff]
    refine ⟨?_, (i2 p hp).mp hbe⟩
    rw [← hj, i1]
    apply tb_ext; intro i hi
    rw [off_c hi, off_c hi, off_c hi, off_c hi]
    cases tb (gpS m nu (pgU lk (12 * nf) nu) sv fi n).1 i <;> cases tb (b1 p) i <;> cases tb (m (63 + u)) i <;> rfl
  have gu0 : (gpS m nu (pgU lk (12 * nf) nu) sv fi n).2.1 u = 0 := Classical.byContradiction (fun q => by
    obtain ⟨r, hr⟩ : ∃ r, (gpS m nu (pgU lk (12 * nf) nu) sv fi n).2.1 u = r + 1 := ⟨(gpS m nu (pgU lk (12 * nf) nu) sv fi n).2.1 u - 1, by omega⟩
    obtain ⟨a1, a2, a3, a4⟩ := i4 u hu r hr
    have hrp : r ≠ p := fun e => by rw [e, hb] at a4; exact absurd a4 (by decide)
    have := congrArg (fun x => tb x r) hj
    simp only [tb_0] at this
    rw [off_c (by omega), off_c (by omega), a2, a3, tb_b1 (by omega) (by omega), decide_eq_false hrp] at this
    exact absurd this (by decide))
  have hG : gpS m nu (pgU lk (12 * nf) nu) sv fi (n + 1) = ((gpS m nu (pgU lk (12 * nf) nu) sv fi n).1 ||| b1 p, va_up (gpS m nu (pgU lk (12 * nf) nu) sv fi n).2.1 u (p + 1), va_up (gpS m nu (pgU lk (12 * nf) nu) sv fi n).2.2 (pix lk (12 * nf) u p) true) := by
    rw [gpS_s, hU, hP, hcond, efn, ← h3, if_pos (by simp)]
  rw [e2, hG]
  generalize gpS m nu (pgU lk (12 * nf) nu) sv fi n = G at i1 i2 i3 i4 i5 gu0 h3 ⊢
  refine ⟨by rw [i1], fun q hq => ?_, fun v hv q hq => ?_, fun v hv q e => ?_, fun k hk => ?_⟩
  · dsimp only
    rw [tb_and, tb_or, Bool.and_eq_true, Bool.or_eq_true, i2 q hq]
    constructor
    · rintro ⟨a, b⟩ v hv
      by_cases e : v = u
      · subst e
        rw [va_up_self]
        rcases b with b | b
        · exact Or.inr (Or.inr b)
        · exact Or.inr (Or.inl (by rw [b1_bit (by omega) b]))
      · rw [va_up_ne _ _ e]; exact a v hv
    · intro a
      refine ⟨fun v hv => ?_, ?_⟩
      · by_cases e : v = u
        · subst e; exact Or.inl gu0
        · have := a v hv; rw [va_up_ne _ _ e] at this; exact this
      · have := a u hu
        rw [va_up_self] at this
        rcases this with c | c | c
        · omega
        · right
          rw [show q = p by omega, tb_b1 (by omega) (by omega)]
          exact decide_eq_true rfl
        · exact Or.inl c
  · dsimp only
    by_cases e : v = u
    · subst e
      rw [va_up_self, off_c (by omega), i3 v hv q hq, tb_b1 (by omega) (by omega)]
      by_cases z : q = p
      · subst z; rw [va_up_self, decide_eq_true rfl]; simp
      · rw [decide_eq_false z]
        cases hq2 : tb (lk v) q
        · rfl
        · rw [va_up_ne _ _ (fun x => z (pix_inj (by omega) hu hpn hl hv (okL_d hf hlk hv hq2).2 hq2 x).2)]
          simp
    · rw [va_up_ne _ _ e, i3 v hv q hq]
      cases hq2 : tb (lk v) q
      · rfl
      · rw [va_up_ne _ _ (fun x => e (pix_inj (by omega) hu hpn hl hv (okL_d hf hlk hv hq2).2 hq2 x).1)]
  · dsimp only at e
    by_cases z : v = u
    · subst z
      rw [va_up_self] at e
      rw [show q = p by omega]
      refine ⟨hp, ?_, hcl v hv p hl, ?_⟩
      · rw [tb_or, tb_b1 (by omega) (by omega), decide_eq_true rfl, Bool.or_true]
      · rw [va_up_self, off_c (by omega), tb_b1 (by omega) (by omega), decide_eq_true rfl]; simp
    · rw [va_up_ne _ _ z] at e
      obtain ⟨a1, a2, a3, a4⟩ := i4 v hv q e
      exact ⟨a1, by rw [tb_or, a2, Bool.true_or], a3, by rw [va_up_ne _ _ z]; exact a4⟩
  · dsimp only
    by_cases z : k = pix lk (12 * nf) u p
    · rw [z, va_up_self]
    · rw [va_up_ne _ _ z]; exact i5 k hk
/-- a group begins -/
theorem gp_beg {sv : Nat → Bool} {u p : Nat} {mi : Nat → Int64} (hf : nf ≤ 5) (hlk : okL lk m nf nu) (hcl : ∀ v, v < nu → ∀ q, tb (lk v) q = true → tb (m (63 + v)) q = false) (hu : u < nu) (hp : p < 60) (hm : ∀ v, v < nu → ∀ q, q < 60 → tb (mi v) q = (tb (lk v) q && !sv (pix lk (12 * nf) v q))) (hs : ∀ k, k < pix lk (12 * nf) u p → sv k = true) (hb : tb (mi u) p = true) : sv (pix lk (12 * nf) u p) = false ∧ tb (lk u) p = true ∧ ∀ p2, p2 ≤ p → GI m lk (12 * nf) nu (gpS m nu (pgU lk (12 * nf) nu) sv (pix lk (12 * nf) u p) (max 1 (pix lk (12 * nf) u p2 - pix lk (12 * nf) u p))) (b1 p) (m (63 + u) ||| b1 p) (va_up mi u (mi u &&& (b1 p ^^^ -lN 1))) (pix lk (12 * nf) u p) := by
  have h3 := hm u hu p hp
  rw [hb] at h3
  have hl : tb (lk u) p = true := by
    cases hl : tb (lk u) p
    · rw [hl, Bool.false_and] at h3; exact absurd h3 (by decide)
    · rfl
  rw [hl, Bool.true_and] at h3
  have hsv : sv (pix lk (12 * nf) u p) = false := by simpa using h3.symm
  have hpn := (okL_d hf hlk hu hl).2
  obtain ⟨eg, _⟩ := L_at hu hpn hl
  have hU : prU (pgU lk (12 * nf) nu) (pix lk (12 * nf) u p + 0) = u := by unfold prU; rw [Nat.add_zero, eg]; omega
  have hP : prP (pgU lk (12 * nf) nu) (pix lk (12 * nf) u p + 0) = p := by unfold prP; rw [Nat.add_zero, eg]; omega
  refine ⟨hsv, hl, fun p2 hp2 => ?_⟩
  have hle : pix lk (12 * nf) u p2 ≤ pix lk (12 * nf) u p := by
    unfold pix
    have := pgP_mono lk u (p := p2) p hp2
    omega
  have e1 : max 1 (pix lk (12 * nf) u p2 - pix lk (12 * nf) u p) = 0 + 1 := by omega
  rw [e1, gpS_s, hU, hP]
  have hG : gpS m nu (pgU lk (12 * nf) nu) sv (pix lk (12 * nf) u p) 0 = (lN 0, fun _ => 0, sv) := rfl
  rw [hG, if_pos (by dsimp only; rw [Nat.add_zero, hsv]; rfl)]
  dsimp only
  simp only [Nat.add_zero]
  have z0 : lN 0 ||| b1 p = b1 p := by apply tb_ext; intro i hi; rw [tb_or, tb_0, Bool.false_or]
  refine ⟨z0.symm, fun q hq => ?_, fun v hv q hq => ?_, fun v hv q e => ?_, fun k hk => ?_⟩
  · rw [tb_or, Bool.or_eq_true]
    constructor
    · intro b v hv
      by_cases e : v = u
      · subst e
        dsimp only
        rw [va_up_self]
        rcases b with b | b
        · exact Or.inr (Or.inr b)
        · exact Or.inr (Or.inl (by rw [b1_bit (by omega) b]))
      · dsimp only; rw [va_up_ne _ _ e]; exact Or.inl rfl
    · intro a
      have := a u hu
      dsimp only at this
      rw [va_up_self] at this
      rcases this with c | c | c
      · omega
      · right
        rw [show q = p by omega, tb_b1 (by omega) (by omega)]
        exact decide_eq_true rfl
      · exact Or.inl c
  · dsimp only
    by_cases e : v = u
    · subst e
      rw [va_up_self, off_c (by omega), hm v hv q hq, tb_b1 (by omega) (by omega)]
      by_cases z : q = p
      · subst z; rw [va_up_self, decide_eq_true rfl]; simp
      · rw [decide_eq_false z]
        cases hq2 : tb (lk v) q
        · rfl
        · rw [va_up_ne _ _ (fun x => z (pix_inj (by omega) hu hpn hl hv (okL_d hf hlk hv hq2).2 hq2 x).2)]
          simp
    · rw [va_up_ne _ _ e, hm v hv q hq]
      cases hq2 : tb (lk v) q
      · rfl
      · rw [va_up_ne _ _ (fun x => e (pix_inj (by omega) hu hpn hl hv (okL_d hf hlk hv hq2).2 hq2 x).1)]
  · dsimp only at e
    by_cases z : v = u
    · subst z
      rw [va_up_self] at e
      rw [show q = p by omega]
      refine ⟨hp, ?_, hcl v hv p hl, ?_⟩
      · rw [tb_b1 (by omega) (by omega)]; exact decide_eq_true rfl
      · rw [va_up_self, off_c (by omega), tb_b1 (by omega) (by omega), decide_eq_true rfl]; simp
    · rw [va_up_ne _ _ z] at e
      omega
  · dsimp only
    by_cases z : k = pix lk (12 * nf) u p
    · rw [z, va_up_self]
    · rw [va_up_ne _ _ z]; exact hs k (by omega)
end
/-- what is missing is in no cache -/
theorem lk_cl {m : Nat → Int64} {nf nu : Nat} {ln : Nat → Nat} (hf : nf ≤ 5) (h4 : nu ≤ 6) (hW : ∀ u, u < 6 → okW m u nf) (hc : ∀ u, u < 6 → ∀ i, 60 ≤ i → tb (m (63 + u)) i = false) (hl : ∀ u, u < 6 → ∀ k, k < ln u → ∀ i, 60 ≤ i → tb (m (87 + 40 * u + k)) i = false) : ∀ v, v < nu → ∀ q, tb (lkF m ln v) q = true → tb (m (63 + v)) q = false := fun v hv q hb => by
  unfold lkF msF at hb
  rcases hW v (by omega) with h | ⟨f, h1, h⟩
  · rw [if_pos h, tb_0] at hb; exact absurd hb (by decide)
  · rw [if_neg (by rw [h]; exact lN_m1 (by omega)), h, pk_lT (by omega), Int.toNat_natCast, msE_bit (by omega) 12 (Nat.le_refl _), Bool.and_eq_true] at hb
    have hq := of_decide_eq_true hb.1
    cases hx : tb (m (63 + v)) q
    · rfl
    · have hk : knE (rowE m v (ln v)) q = true := (knE_iff (elL_E (hc v (by omega)) _ (hl v (by omega))) (by omega)).mpr ⟨lN 0, PL_0 (fun i hi => by
        cases w : tb (b1 q) i
        · rfl
        · rw [b1_bit (by omega) w, hx] at hi; exact absurd hi (by decide)) _⟩
      rw [hk] at hb
      exact absurd hb.2 (by decide)
