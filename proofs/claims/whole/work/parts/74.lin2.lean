/-! the class' rows: reduced, each with a lead of its own -/
theorem tb_neg {x : Int64} {i : Nat} (hi : i < 64) : tb (-x) i = (tb x i ^^ decide (∃ j, j < i ∧ tb x j = true)) := by
  unfold tb
  rw [Int64.toBitVec_neg, BitVec.getLsbD_neg, decide_eq_true hi, Bool.true_and]
theorem lowp {x : Int64} : ∀ i, tb x i = true → ∃ p, p ≤ i ∧ tb x p = true ∧ ∀ j, j < p → tb x j = false := by
  intro i
  induction i using Nat.strongRecOn with
  | ind i ih =>
    intro h
    by_cases q : ∃ j, j < i ∧ tb x j = true
    · obtain ⟨j, hj, hx⟩ := q
      obtain ⟨p, h1, h2⟩ := ih j hj hx
      exact ⟨p, by omega, h2⟩
    · exact ⟨i, Nat.le_refl _, h, fun j hj => by
        cases hb : tb x j
        · rfl
        · exact absurd ⟨j, hj, hb⟩ q⟩
theorem low_b1 {x : Int64} (hx : x ≠ lN 0) (hh : ∀ i, 60 ≤ i → tb x i = false) : ∃ p, p < 60 ∧ x &&& -x = b1 p ∧ tb x p = true := by
  have : ∃ i, tb x i = true := Classical.byContradiction (fun q => hx (tb_ext (fun i _ => by
    rw [tb_0]
    cases hb : tb x i
    · rfl
    · exact absurd ⟨i, hb⟩ q)))
  obtain ⟨i, hi⟩ := this
  obtain ⟨p, h1, h2, h3⟩ := lowp i hi
  have p6 : p < 60 := by
    apply Classical.byContradiction
    intro q
    rw [hh p (by omega)] at h2
    exact absurd h2 (by decide)
  refine ⟨p, p6, ?_, h2⟩
  apply tb_ext
  intro k hk
  rw [tb_and, tb_neg hk, tb_b1 (by omega) hk]
  by_cases e : k = p
  · subst e
    rw [h2, decide_eq_false (fun q => by obtain ⟨j, a, b⟩ := q; rw [h3 j a] at b; exact absurd b (by decide))]
    simp
  · rw [decide_eq_false e]
    by_cases l : k < p
    · rw [h3 k l]; rfl
    · rw [decide_eq_true (show ∃ j, j < k ∧ tb x j = true from ⟨p, by omega, h2⟩)]
      cases tb x k <;> rfl
def cRd (R L O : Nat → Int64) (s q : Int64) : Nat → Int64 × Int64
  | 0 => (s, q)
  | j + 1 => if (cRd R L O s q j).1 &&& L j ≠ lN 0 then ((cRd R L O s q j).1 ^^^ R j, (cRd R L O s q j).2 ^^^ O j) else cRd R L O s q j
def md (R R0 : Nat → Int64) (ld x : Int64) (k : Nat) : Nat → Int64 := fun i => if i < k ∧ R0 i &&& ld ≠ lN 0 then R i ^^^ x else R i
def knL (R L : Nat → Int64) (c : Int64) : Nat → Int64
  | 0 => c
  | j + 1 => if R j = L j then knL R L c j ||| R j else knL R L c j
def CIv (c : Int64) (li : Nat → Int64) (n z : Nat) (R L O : Nat → Int64) (pv : Nat → Nat) : Prop :=
  (z ≤ n ∧ z + ctb c 60 = (elL c li n).1) ∧ (∀ j, j < z → PL c li n (R j) (O j) ∧ ∀ i, tb c i = true → tb (R j) i = false) ∧ (∀ j, j < z → L j = b1 (pv j) ∧ pv j < 60 ∧ tb (R j) (pv j) = true ∧ ∀ k, k < z → k ≠ j → tb (R k) (pv j) = false) ∧ (∀ a b, PL c li n a b → (∀ i, tb c i = true → tb a i = false) → a ≠ lN 0 → ∃ j, j < z ∧ tb a (pv j) = true)
theorem cRd_P {c : Int64} {li : Nat → Int64} {n z : Nat} {R L O : Nat → Int64} {pv : Nat → Nat} (hC : Cl (PL c li n)) (h : CIv c li n z R L O pv) (s q : Int64) : ∀ j, j ≤ z → ∃ a b, PL c li n a b ∧ (∀ i, tb c i = true → tb a i = false) ∧ cRd R L O s q j = (s ^^^ a, q ^^^ b)
  | 0, _ => ⟨lN 0, lN 0, hC.1, fun i _ => tb_0 i, by rw [xz, xz]; rfl⟩
  | j + 1, hj => by
    obtain ⟨a, b, h1, h2, e⟩ := cRd_P hC h s q j (by omega)
    rw [cRd]
    split
    · refine ⟨a ^^^ R j, b ^^^ O j, hC.2.1 _ _ _ _ h1 (h.2.1 j (by omega)).1, fun i hi => by rw [tb_xor, h2 i hi, (h.2.1 j (by omega)).2 i hi]; rfl, ?_⟩
      rw [e, ← xa, ← xa]
    · exact ⟨a, b, h1, h2, e⟩
theorem cRd_no {c : Int64} {li : Nat → Int64} {n z : Nat} {R L O : Nat → Int64} {pv : Nat → Nat} (h : CIv c li n z R L O pv) (s q : Int64) : ∀ j, j ≤ z → ∀ k, k < j → tb (cRd R L O s q j).1 (pv k) = false
  | 0, _, k, hk => absurd hk (Nat.not_lt_zero k)
  | j + 1, hj, k, hk => by
    have ih := cRd_no h s q j (by omega)
    obtain ⟨e1, e2, e3, e4⟩ := h.2.2.1 j (by omega)
    rw [cRd]
    by_cases q1 : (cRd R L O s q j).1 &&& L j ≠ lN 0
    · rw [if_pos q1]
      dsimp only
      rw [tb_xor]
      by_cases e : k = j
      · subst e
        rw [e3]
        rw [e1] at q1
        cases hb : tb (cRd R L O s q k).1 (pv k)
        · exact absurd ((and_b1 (by omega)).mpr hb) q1
        · rfl
      · obtain ⟨f1, f2, f3, f4⟩ := h.2.2.1 k (by omega)
        rw [ih k (by omega), f4 j (by omega) (fun q => e q.symm)]
        rfl
    · rw [if_neg q1]
      by_cases e : k = j
      · subst e
        rw [e1] at q1
        exact (and_b1 (by omega)).mp (Classical.byContradiction q1)
      · exact ih k (by omega)
theorem off_c {c x : Int64} {i : Nat} (hi : i < 64) : tb (x &&& (c ^^^ -lN 1)) i = (tb x i && !tb c i) := by
  rw [tb_and, tb_xor, tb_m1 hi, Bool.xor_true]
theorem off_n {c x : Int64} {i : Nat} (h : tb c i = true) : tb (x &&& (c ^^^ -lN 1)) i = false := by
  by_cases hi : i < 64
  · rw [off_c hi, h]; simp
  · exact tb_big (by omega)
theorem off_x {c x : Int64} {i : Nat} (h : tb c i = false) : tb (x ^^^ (x &&& (c ^^^ -lN 1))) i = false := by
  by_cases hi : i < 64
  · rw [tb_xor, off_c hi, h]; simp
  · exact tb_big (by omega)
/-- what a new row is, and whether there is one -/
theorem row_iff {c : Int64} {li : Nat → Int64} {n z : Nat} {R L O : Nat → Int64} {pv : Nat → Nat} (hC : Cl (PL c li n)) (h : CIv c li n z R L O pv) : (cRd R L O (li n &&& (c ^^^ -lN 1)) (b1 n) z).1 = lN 0 ↔ ∃ d, PL c li n (li n) d := by
  obtain ⟨a, b, h1, h2, e⟩ := cRd_P hC h (li n &&& (c ^^^ -lN 1)) (b1 n) z (Nat.le_refl _)
  have hno := cRd_no h (li n &&& (c ^^^ -lN 1)) (b1 n) z (Nat.le_refl _)
  have hg : PL c li n (li n ^^^ (li n &&& (c ^^^ -lN 1))) (lN 0) := PL_0 (fun i hi => off_x hi) n
  rw [e] at hno ⊢
  dsimp only at hno ⊢
  constructor
  · intro q
    rw [x_eq q] at hg
    have := hC.2.1 _ _ _ _ hg h1
    rw [xk] at this
    exact ⟨_, this⟩
  · rintro ⟨d, hd⟩
    apply Classical.byContradiction
    intro rz
    have h3 := hC.2.1 _ _ _ _ (hC.2.1 _ _ _ _ hd hg) h1
    rw [kx] at h3
    obtain ⟨j, hj, ht⟩ := h.2.2.2 _ _ h3 (fun i hi => by rw [tb_xor, off_n hi, h2 i hi]; rfl) rz
    rw [hno j hj] at ht
    exact absurd ht (by decide)
theorem CIv_0 (c : Int64) (li : Nat → Int64) (R L O : Nat → Int64) (pv : Nat → Nat) : CIv c li 0 0 R L O pv := by
  refine ⟨⟨Nat.le_refl _, by rw [Nat.zero_add]; exact (elC_E (c := c) 60 (Nat.le_refl _)).2.symm⟩, fun j hj => absurd hj (Nat.not_lt_zero j), fun j hj => absurd hj (Nat.not_lt_zero j), fun a b h1 h2 h3 => ?_⟩
  refine absurd (tb_ext (fun i _ => ?_)) h3
  rw [tb_0]
  cases hb : tb c i
  · exact h1.2 i hb
  · exact h2 i hb
theorem CIv_no {c : Int64} {li : Nat → Int64} {n z : Nat} {R L O : Nat → Int64} {pv : Nat → Nat} (hc : ∀ i, 60 ≤ i → tb c i = false) (hl : ∀ k, k < n + 1 → ∀ i, 60 ≤ i → tb (li k) i = false) (h : CIv c li n z R L O pv) (hz : (cRd R L O (li n &&& (c ^^^ -lN 1)) (b1 n) z).1 = lN 0) : CIv c li (n + 1) z R L O pv := by
  have hC : Cl (PL c li n) := PL_Cl hc n (fun k hk => hl k (by omega))
  have hd := (row_iff hC h).mp hz
  have e : PL c li (n + 1) = PL c li n := by
    funext a b
    apply propext
    constructor
    · rintro (h | ⟨g, h⟩)
      · exact h
      · exact absurd hd g
    · exact Or.inl
  obtain ⟨⟨h0, h1⟩, h2, h3, h4⟩ := h
  refine ⟨⟨by omega, ?_⟩, ?_, h3, ?_⟩
  · rw [(elL_n hc hl).1 hd]; exact h1
  · rw [e]; exact h2
  · rw [e]; exact h4
theorem CIv_add {c : Int64} {li : Nat → Int64} {n z : Nat} {R L O : Nat → Int64} {pv : Nat → Nat} (hc : ∀ i, 60 ≤ i → tb c i = false) (hl : ∀ k, k < n + 1 → ∀ i, 60 ≤ i → tb (li k) i = false) (h : CIv c li n z R L O pv) {r bh : Int64} (hr : cRd R L O (li n &&& (c ^^^ -lN 1)) (b1 n) z = (r, bh)) (hz : r ≠ lN 0) {p : Nat} (hp : p < 60) (htp : tb r p = true) : CIv c li (n + 1) (z + 1) (va_up (md R R (b1 p) r z) z r) (va_up L z (b1 p)) (va_up (md O R (b1 p) bh z) z bh) (va_up pv z p) := by
  have hC : Cl (PL c li n) := PL_Cl hc n (fun k hk => hl k (by omega))
  have hC1 : Cl (PL c li (n + 1)) := PL_Cl hc (n + 1) hl
  have hd : ¬ ∃ d, PL c li n (li n) d := fun q => hz (by have := (row_iff hC h).mpr q; rw [hr] at this; exact this)
  obtain ⟨a0, b0, k1, k2, ke⟩ := cRd_P hC h (li n &&& (c ^^^ -lN 1)) (b1 n) z (Nat.le_refl _)
  have hno := cRd_no h (li n &&& (c ^^^ -lN 1)) (b1 n) z (Nat.le_refl _)
  have hg : PL c li n (li n ^^^ (li n &&& (c ^^^ -lN 1))) (lN 0) := PL_0 (fun i hi => off_x hi) n
  rw [hr] at hno ke
  dsimp only at hno
  have er : r = (li n &&& (c ^^^ -lN 1)) ^^^ a0 := congrArg Prod.fst ke
  have eb : bh = b1 n ^^^ b0 := congrArg Prod.snd ke
  have rc : ∀ i, tb c i = true → tb r i = false := fun i hi => by rw [er, tb_xor, off_n hi, k2 i hi]; rfl
  -- r differs from the list's sum by something spanned before
  have hlr : PL c li n (li n ^^^ r) b0 := by
    have := hC.2.1 _ _ _ _ hg k1
    rw [xa, ← er, zx] at this
    exact this
  have hPr : PL c li (n + 1) r bh := by
    refine Or.inr ⟨hd, ?_⟩
    rw [xc r, eb, xc (b1 n), xk]
    exact hlr
  obtain ⟨⟨h0, h1⟩, h2, h3, h4⟩ := h
  have bit : ∀ k, (R k &&& b1 p ≠ lN 0) ↔ tb (R k) p = true := fun k => by
    constructor
    · intro q
      cases hb : tb (R k) p
      · exact absurd ((and_b1 (by omega)).mpr hb) q
      · rfl
    · intro q e
      rw [(and_b1 (by omega)).mp e] at q
      exact absurd q (by decide)
  have mR : ∀ k, k < z → va_up (md R R (b1 p) r z) z r k = if tb (R k) p = true then R k ^^^ r else R k := fun k hk => by
    rw [va_up_ne _ _ (by omega)]
    unfold md
    by_cases q : tb (R k) p = true
    · rw [if_pos ⟨hk, (bit k).mpr q⟩, if_pos q]
    · rw [if_neg (fun x => q ((bit k).mp x.2)), if_neg q]
  have mO : ∀ k, k < z → va_up (md O R (b1 p) bh z) z bh k = if tb (R k) p = true then O k ^^^ bh else O k := fun k hk => by
    rw [va_up_ne _ _ (by omega)]
    unfold md
    by_cases q : tb (R k) p = true
    · rw [if_pos ⟨hk, (bit k).mpr q⟩, if_pos q]
    · rw [if_neg (fun x => q ((bit k).mp x.2)), if_neg q]
  refine ⟨⟨by omega, ?_⟩, fun j hj => ?_, fun j hj => ?_, fun a b ha hac haz => ?_⟩
  · rw [(elL_n hc hl).2 hd]; omega
  · by_cases e : j = z
    · subst e
      rw [va_up_self, va_up_self]
      exact ⟨hPr, rc⟩
    · rw [mR j (by omega), mO j (by omega)]
      obtain ⟨g1, g2⟩ := h2 j (by omega)
      split
      · exact ⟨hC1.2.1 _ _ _ _ (Or.inl g1) hPr, fun i hi => by rw [tb_xor, g2 i hi, rc i hi]; rfl⟩
      · exact ⟨Or.inl g1, g2⟩
  · by_cases e : j = z
    · subst e
      rw [va_up_self, va_up_self, va_up_self]
      refine ⟨rfl, hp, htp, fun k hk hkj => ?_⟩
      rw [mR k (by omega)]
      split
      · next q => rw [tb_xor, q, htp]; rfl
      · next q => simpa using q
    · obtain ⟨g1, g2, g3, g4⟩ := h3 j (by omega)
      rw [va_up_ne _ _ e, va_up_ne _ _ e]
      refine ⟨g1, g2, ?_, fun k hk hkj => ?_⟩
      · rw [mR j (by omega)]
        split
        · rw [tb_xor, g3, hno j (by omega)]; rfl
        · exact g3
      · by_cases ek : k = z
        · subst ek; rw [va_up_self]; exact hno j (by omega)
        · rw [mR k (by omega)]
          split
          · rw [tb_xor, g4 k (by omega) hkj, hno j (by omega)]; rfl
          · exact g4 k (by omega) hkj
  · rcases ha with ha | ⟨_, ha⟩
    · obtain ⟨j, hj, ht⟩ := h4 a b ha hac haz
      exact ⟨j, by omega, by rw [va_up_ne _ _ (by omega)]; exact ht⟩
    · have ho := hC.2.1 _ _ _ _ ha hlr
      rw [xa, kx] at ho
      by_cases oz : a ^^^ r = lN 0
      · exact ⟨z, by omega, by rw [va_up_self, x_eq oz]; exact htp⟩
      · obtain ⟨j, hj, ht⟩ := h4 _ _ ho (fun i hi => by rw [tb_xor, hac i hi, rc i hi]; rfl) oz
        refine ⟨j, by omega, ?_⟩
        rw [va_up_ne _ _ (by omega)]
        rw [tb_xor, hno j hj, Bool.xor_false] at ht
        exact ht
theorem knL_bit {R L : Nat → Int64} {c : Int64} {p : Nat} : ∀ z, tb (knL R L c z) p = true ↔ tb c p = true ∨ ∃ j, j < z ∧ R j = L j ∧ tb (R j) p = true
  | 0 => by
    constructor
    · exact fun h => Or.inl h
    · rintro (h | ⟨j, hj, _⟩)
      · exact h
      · omega
  | z + 1 => by
    have ih := knL_bit (R := R) (L := L) (c := c) (p := p) z
    rw [knL]
    by_cases q : R z = L z
    · rw [if_pos q, tb_or, Bool.or_eq_true, ih]
      constructor
      · rintro ((h | ⟨j, hj, h⟩) | h)
        · exact Or.inl h
        · exact Or.inr ⟨j, by omega, h⟩
        · exact Or.inr ⟨z, by omega, q, h⟩
      · rintro (h | ⟨j, hj, h⟩)
        · exact Or.inl (Or.inl h)
        · by_cases e : j = z
          · subst e; exact Or.inr h.2
          · exact Or.inl (Or.inr ⟨j, by omega, h⟩)
    · rw [if_neg q, ih]
      constructor
      · rintro (h | ⟨j, hj, h⟩)
        · exact Or.inl h
        · exact Or.inr ⟨j, by omega, h⟩
      · rintro (h | ⟨j, hj, h⟩)
        · exact Or.inl h
        · by_cases e : j = z
          · subst e; exact absurd h.1 q
          · exact Or.inr ⟨j, by omega, h⟩
theorem b1_bit {p i : Nat} (hp : p < 64) (h : tb (b1 p) i = true) : i = p := by
  by_cases hi : i < 64
  · rw [tb_b1 hp hi] at h
    exact of_decide_eq_true h
  · rw [tb_big (by omega)] at h
    exact absurd h (by decide)
/-- a single piece that is spanned and not given is a row -/
theorem row_of {c : Int64} {li : Nat → Int64} {n z : Nat} {R L O : Nat → Int64} {pv : Nat → Nat} (hC : Cl (PL c li n)) (h : CIv c li n z R L O pv) {p : Nat} (hp : p < 60) {b : Int64} (hb : PL c li n (b1 p) b) (hc : tb c p = false) : ∃ j, j < z ∧ R j = b1 p ∧ L j = b1 p := by
  obtain ⟨_, h2, h3, h4⟩ := h
  have hcb : ∀ i, tb c i = true → tb (b1 p) i = false := fun i hi => by
    cases q : tb (b1 p) i
    · rfl
    · rw [b1_bit (by omega) q, hc] at hi
      exact absurd hi (by decide)
  obtain ⟨j, hj, ht⟩ := h4 _ _ hb hcb (b1_nz (by omega))
  have ep := b1_bit (by omega) ht
  obtain ⟨g1, g2, g3, g4⟩ := h3 j hj
  refine ⟨j, hj, ?_, by rw [g1, ep]⟩
  apply Classical.byContradiction
  intro ne
  have nz : b1 p ^^^ R j ≠ lN 0 := fun q => ne (x_eq q).symm
  obtain ⟨k, hk, hkt⟩ := h4 _ _ (hC.2.1 _ _ _ _ hb (h2 j hj).1) (fun i hi => by rw [tb_xor, hcb i hi, (h2 j hj).2 i hi]; rfl) nz
  rw [tb_xor] at hkt
  by_cases e : k = j
  · subst e
    rw [g3, ep, tb_b1 (by omega) (by omega), decide_eq_true rfl] at hkt
    exact absurd hkt (by decide)
  · obtain ⟨f1, f2, f3, f4⟩ := h3 k hk
    rw [f4 j hj (fun q => e q.symm), Bool.xor_false] at hkt
    have e2 := b1_bit (by omega) hkt
    have f5 := g4 k hk e
    rw [ep, ← e2, f3] at f5
    exact absurd f5 (by decide)
theorem kn_bit {c : Int64} {li : Nat → Int64} {n z : Nat} {R L O : Nat → Int64} {pv : Nat → Nat} (hc : ∀ i, 60 ≤ i → tb c i = false) (hl : ∀ k, k < n → ∀ i, 60 ≤ i → tb (li k) i = false) (h : CIv c li n z R L O pv) {p : Nat} (hp : p < 60) : tb (knL R L c z) p = knE (elL c li n) p := by
  have hC : Cl (PL c li n) := PL_Cl hc n hl
  have hE := elL_E hc n hl
  have : tb (knL R L c z) p = true ↔ knE (elL c li n) p = true := by
    rw [knL_bit, knE_iff hE hp]
    constructor
    · rintro (q | ⟨j, hj, e, q⟩)
      · refine ⟨lN 0, PL_0 (fun i hi => ?_) n⟩
        cases w : tb (b1 p) i
        · rfl
        · rw [b1_bit (by omega) w, q] at hi
          exact absurd hi (by decide)
      · obtain ⟨g1, g2, g3, g4⟩ := h.2.2.1 j hj
        have g5 := (h.2.1 j hj).1
        rw [e, g1] at g5 q
        rw [b1_bit (by omega) q]
        exact ⟨_, g5⟩
    · rintro ⟨b, hb⟩
      cases w : tb c p
      · obtain ⟨j, hj, e1, e2⟩ := row_of hC h hp hb w
        exact Or.inr ⟨j, hj, by rw [e1, e2], by rw [e1, tb_b1 (by omega) (by omega)]; exact decide_eq_true rfl⟩
      · exact Or.inl rfl
  cases w : tb (knL R L c z) p
  · cases v : knE (elL c li n) p
    · rfl
    · rw [w, v] at this; exact absurd (this.mpr rfl) (by decide)
  · cases v : knE (elL c li n) p
    · rw [w, v] at this; exact absurd (this.mp rfl) (by decide)
    · rfl
/-- the proof of a known piece -/
theorem q_row {c : Int64} {li : Nat → Int64} {n z : Nat} {R L O : Nat → Int64} {pv : Nat → Nat} (hc : ∀ i, 60 ≤ i → tb c i = false) (hl : ∀ k, k < n → ∀ i, 60 ≤ i → tb (li k) i = false) (h : CIv c li n z R L O pv) {p : Nat} (hp : p < 60) (hk : knE (elL c li n) p = true) : (∀ j, j < z → R j = b1 p → O j = knQ (elL c li n) p) ∧ ((∀ j, j < z → R j ≠ b1 p) → knQ (elL c li n) p = lN 0) := by
  have hC : Cl (PL c li n) := PL_Cl hc n hl
  have hE := elL_E hc n hl
  have hq := knQ_P hE hk
  constructor
  · intro j hj e
    have g := (h.2.1 j hj).1
    rw [e] at g
    exact PL_un hC g hq
  · intro hn
    cases w : tb c p
    · obtain ⟨j, hj, e1, e2⟩ := row_of hC h hp hq w
      exact absurd e1 (hn j hj)
    · refine PL_un hC hq (PL_0 (fun i hi => ?_) n)
      cases v : tb (b1 p) i
      · rfl
      · rw [b1_bit (by omega) v, w] at hi
        exact absurd hi (by decide)
theorem PL_in {c : Int64} {li : Nat → Int64} {N : Nat} (hc : ∀ i, N ≤ i → tb c i = false) : ∀ n, (∀ k, k < n → ∀ i, N ≤ i → tb (li k) i = false) → ∀ a b, PL c li n a b → ∀ i, N ≤ i → tb a i = false
  | 0, _, a, b, h, i, hi => h.2 i (hc i hi)
  | n + 1, hl, a, b, h, i, hi => by
    rcases h with h | ⟨g, h⟩
    · exact PL_in hc n (fun k hk => hl k (by omega)) a b h i hi
    · have := PL_in hc n (fun k hk => hl k (by omega)) _ _ h i hi
      rw [tb_xor, hl n (by omega) i hi, Bool.xor_false] at this
      exact this
theorem kn_in {c : Int64} {li : Nat → Int64} {n z : Nat} {R L O : Nat → Int64} {pv : Nat → Nat} {N : Nat} (hc : ∀ i, N ≤ i → tb c i = false) (hl : ∀ k, k < n → ∀ i, N ≤ i → tb (li k) i = false) (h : CIv c li n z R L O pv) {i : Nat} (hi : N ≤ i) : tb (knL R L c z) i = false := by
  cases w : tb (knL R L c z) i
  · rfl
  · rcases (knL_bit z).mp w with q | ⟨j, hj, _, q⟩
    · rw [hc i hi] at q; exact absurd q (by decide)
    · rw [PL_in hc n hl _ _ (h.2.1 j hj).1 i hi] at q; exact absurd q (by decide)
theorem ctb_cut {s : Int64} {N : Nat} (h : ∀ i, N ≤ i → tb s i = false) : ∀ k, N ≤ k → ctb s k = ctb s N
  | 0, hk => by rw [show N = 0 by omega]
  | k + 1, hk => by
    by_cases e : N = k + 1
    · rw [e]
    · rw [ctb, ctb_cut h k (by omega), h k (by omega)]; rfl
theorem kct_eq {s : Int64} {E : EE} : ∀ n, (∀ p, p < n → tb s p = knE E p) → kct E n = ctb s n
  | 0, _ => rfl
  | n + 1, h => by rw [kct, ctb, kct_eq n (fun p hp => h p (by omega)), h n (by omega)]
/-- the wanted file's pieces given too -/
def flP (f : Nat) : Int64 := lN 4095 <<< ((nI (12 * f)).toInt64 &&& 63)
theorem flP_bit {f : Nat} (hf : f < 5) {i : Nat} : tb (flP f) i = decide (12 * f ≤ i ∧ i < 12 * f + 12) := by
  by_cases hi : i < 64
  · unfold flP
    rw [tb_shl _ (by omega) _ hi, tb_lN, show (4095 : Nat) = 2 ^ 12 - 1 from rfl, Nat.testBit_two_pow_sub_one, decide_eq_true (show i - 12 * f < 64 by omega), Bool.true_and, ← Bool.decide_and]
    exact decide_eq_decide.mpr ⟨fun ⟨a, b⟩ => ⟨a, by omega⟩, fun ⟨a, b⟩ => ⟨a, by omega⟩⟩
  · rw [tb_big (by omega), decide_eq_false (by omega)]
theorem pj_or {c w0 : Int64} {li : Nat → Int64} (hc : ∀ i, 60 ≤ i → tb c i = false) (hw : ∀ i, 60 ≤ i → tb w0 i = false) : ∀ n, (∀ k, k < n → ∀ i, 60 ≤ i → tb (li k) i = false) → ∀ a, (∃ b, PL (c ||| w0) li n a b) ↔ ∃ w, (∀ i, tb w0 i = false → tb w i = false) ∧ ∃ b, PL c li n (a ^^^ w) b
  | 0, _, a => by
    constructor
    · rintro ⟨b, _, h⟩
      refine ⟨a &&& w0, fun i hi => by rw [tb_and, hi, Bool.and_false], lN 0, rfl, fun i hi => ?_⟩
      rw [tb_xor, tb_and]
      cases hq : tb w0 i
      · have := h i (by rw [tb_or, hi, hq]; rfl)
        rw [this]; rfl
      · rw [Bool.and_true, Bool.xor_self]
    · rintro ⟨w, h1, b, _, h⟩
      refine ⟨lN 0, rfl, fun i hi => ?_⟩
      rw [tb_or, Bool.or_eq_false_iff] at hi
      have := h i hi.1
      rw [tb_xor, h1 i hi.2, Bool.xor_false] at this
      exact this
  | n + 1, hl, a => by
    have ih := pj_or hc hw n (fun k hk => hl k (by omega))
    have hC : Cl (PL c li n) := PL_Cl hc n (fun k hk => hl k (by omega))
    have hC' : Cl (PL (c ||| w0) li n) := PL_Cl (fun i hi => by rw [tb_or, hc i hi, hw i hi]; rfl) n (fun k hk => hl k (by omega))
    rw [PL_pj hC', ih, ih]
    constructor
    · rintro (⟨w, h1, h2⟩ | ⟨w, h1, h2⟩)
      · exact ⟨w, h1, (PL_pj hC _).mpr (Or.inl h2)⟩
      · refine ⟨w, h1, (PL_pj hC _).mpr (Or.inr ?_)⟩
        rw [xa, xc w, ← xa]
        exact h2
    · rintro ⟨w, h1, h2⟩
      rcases (PL_pj hC _).mp h2 with q | q
      · exact Or.inl ⟨w, h1, q⟩
      · refine Or.inr ⟨w, h1, ?_⟩
        rw [xa, xc (li n), ← xa]
        exact q
theorem nd_E {c : Int64} {li : Nat → Int64} {n f : Nat} (hf : f < 5) (hc : ∀ i, 60 ≤ i → tb c i = false) (hl : ∀ k, k < n → ∀ i, 60 ≤ i → tb (li k) i = false) : ∀ j, j ≤ 12 → ∃ Q, Ech (ndE (elL c li n) f j) Q ∧ ∀ a, (∃ b, Q a b) ↔ ∃ w, (∀ i, tb w i = true → 12 * f ≤ i ∧ i < 12 * f + j) ∧ ∃ b, PL c li n (a ^^^ w) b
  | 0, _ => by
    refine ⟨PL c li n, elL_E hc n hl, fun a => ⟨fun h => ⟨lN 0, fun i hi => ?_, by rw [xz]; exact h⟩, fun ⟨w, h1, h2⟩ => ?_⟩⟩
    · rw [tb_0] at hi; exact absurd hi (by decide)
    · have : w = lN 0 := tb_ext (fun i _ => by
        rw [tb_0]
        cases hb : tb w i
        · rfl
        · have := h1 i hb; omega)
      rw [this, xz] at h2
      exact h2
  | j + 1, hj => by
    obtain ⟨Q, hQ, hq⟩ := nd_E (n := n) hf hc hl j (by omega)
    have bb : ∀ i, 60 ≤ i → tb (b1 (12 * f + j)) i = false := fun i hi => by
      cases hb : tb (b1 (12 * f + j)) i
      · rfl
      · have := b1_bit (by omega) hb; omega
    have key : ∀ a, (∃ w, (∀ i, tb w i = true → 12 * f ≤ i ∧ i < 12 * f + (j + 1)) ∧ ∃ b, PL c li n (a ^^^ w) b) ↔ (∃ b, Q a b) ∨ ∃ b, Q (a ^^^ b1 (12 * f + j)) b := fun a => by
      rw [hq, hq]
      constructor
      · rintro ⟨w, h1, h2⟩
        cases hb : tb w (12 * f + j)
        · refine Or.inl ⟨w, fun i hi => ?_, h2⟩
          have := h1 i hi
          have : i ≠ 12 * f + j := fun e => by rw [e, hb] at hi; exact absurd hi (by decide)
          omega
        · refine Or.inr ⟨w ^^^ b1 (12 * f + j), fun i hi => ?_, ?_⟩
          · rw [tb_xor] at hi
            by_cases e : i = 12 * f + j
            · subst e
              rw [hb, tb_b1 (by omega) (by omega), decide_eq_true rfl] at hi
              exact absurd hi (by decide)
            · have e2 : tb (b1 (12 * f + j)) i = false := by
                cases hb2 : tb (b1 (12 * f + j)) i
                · rfl
                · exact absurd (b1_bit (by omega) hb2) e
              rw [e2, Bool.xor_false] at hi
              have := h1 i hi
              omega
          · rw [x4, xx, xz]; exact h2
      · rintro (⟨w, h1, h2⟩ | ⟨w, h1, h2⟩)
        · exact ⟨w, fun i hi => by have := h1 i hi; omega, h2⟩
        · refine ⟨b1 (12 * f + j) ^^^ w, fun i hi => ?_, by rw [← xa]; exact h2⟩
          rw [tb_xor] at hi
          cases hb : tb (b1 (12 * f + j)) i
          · rw [hb, Bool.false_xor] at hi
            have := h1 i hi; omega
          · have := b1_bit (by omega) hb; omega
    rw [ndE]
    rcases addE_st hQ (s := b1 (12 * f + j)) (lN 0) bb with ⟨e1, d, hd⟩ | ⟨_, _, h3⟩
    · refine ⟨Q, by rw [e1]; exact hQ, fun a => ?_⟩
      rw [key]
      constructor
      · exact Or.inl
      · rintro (h | ⟨b, h⟩)
        · exact h
        · have := hQ.1.2.1 _ _ _ _ h hd
          rw [xk] at this
          exact ⟨_, this⟩
    · refine ⟨_, h3, fun a => ?_⟩
      rw [key]
      constructor
      · rintro ⟨b, h | h⟩
        · exact Or.inl ⟨b, h⟩
        · exact Or.inr ⟨_, h⟩
      · rintro (⟨b, h⟩ | ⟨b, h⟩)
        · exact ⟨b, Or.inl h⟩
        · exact ⟨b, Or.inr (by rw [xz]; exact h)⟩
theorem nd_num {c : Int64} {li : Nat → Int64} {n f : Nat} (hf : f < 5) (hc : ∀ i, 60 ≤ i → tb c i = false) (hl : ∀ k, k < n → ∀ i, 60 ≤ i → tb (li k) i = false) : (ndE (elL c li n) f 12).1 = (elL (c ||| flP f) li n).1 := by
  obtain ⟨Q, hQ, hq⟩ := nd_E (n := n) hf hc hl 12 (Nat.le_refl _)
  have hw : ∀ i, 60 ≤ i → tb (flP f) i = false := fun i hi => by rw [flP_bit hf, decide_eq_false (by omega)]
  refine Ech_num hQ (elL_E (fun i hi => by rw [tb_or, hc i hi, hw i hi]; rfl) n hl) (fun a => ?_)
  rw [hq, pj_or hc hw n hl]
  constructor
  · rintro ⟨w, h1, h2⟩
    refine ⟨w, fun i hi => ?_, h2⟩
    cases hb : tb w i
    · rfl
    · rw [flP_bit hf, decide_eq_true (h1 i hb)] at hi
      exact absurd hi (by decide)
  · rintro ⟨w, h1, h2⟩
    refine ⟨w, fun i hi => ?_, h2⟩
    apply Classical.byContradiction
    intro q
    rw [h1 i (by rw [flP_bit hf, decide_eq_false q])] at hi
    exact absurd hi (by decide)
