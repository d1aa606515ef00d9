/-! sets of pieces as a space over the field of two: rows in echelon form -/
theorem xx (a : Int64) : a ^^^ a = lN 0 := by apply tb_ext; intro i hi; rw [tb_xor, tb_0, Bool.xor_self]
theorem xz (a : Int64) : a ^^^ lN 0 = a := by apply tb_ext; intro i hi; rw [tb_xor, tb_0, Bool.xor_false]
theorem zx (a : Int64) : lN 0 ^^^ a = a := by apply tb_ext; intro i hi; rw [tb_xor, tb_0, Bool.false_xor]
theorem xc (a b : Int64) : a ^^^ b = b ^^^ a := by apply tb_ext; intro i hi; rw [tb_xor, tb_xor, Bool.xor_comm]
theorem xa (a b c : Int64) : (a ^^^ b) ^^^ c = a ^^^ (b ^^^ c) := by apply tb_ext; intro i hi; rw [tb_xor, tb_xor, tb_xor, tb_xor, Bool.xor_assoc]
theorem xk (a b : Int64) : (a ^^^ b) ^^^ b = a := by rw [xa, xx, xz]
theorem kx (a b : Int64) : a ^^^ (a ^^^ b) = b := by rw [← xa, xx, zx]
theorem x4 (a b c d : Int64) : (a ^^^ b) ^^^ (c ^^^ d) = (a ^^^ c) ^^^ (b ^^^ d) := by
  apply tb_ext
  intro i hi
  simp only [tb_xor]
  cases tb a i <;> cases tb b i <;> cases tb c i <;> cases tb d i <;> rfl
theorem x_eq {a b : Int64} (h : a ^^^ b = lN 0) : a = b := by rw [← xk a b, h, zx]
/-- closed under sums, within sixty pieces -/
def Cl (P : Int64 → Int64 → Prop) : Prop := P (lN 0) (lN 0) ∧ (∀ a b c d, P a b → P c d → P (a ^^^ c) (b ^^^ d)) ∧ (∀ a b, P a b → ∀ i, 60 ≤ i → tb a i = false)
/-- the highest piece -/
def Tp (s : Int64) (h : Nat) : Prop := tb s h = true ∧ ∀ b, h < b → tb s b = false
theorem Tp_un {s : Int64} {h k : Nat} (p : Tp s h) (q : Tp s k) : h = k := by
  rcases Nat.lt_trichotomy h k with l | l | l
  · have := p.2 k l; rw [q.1] at this; exact absurd this (by decide)
  · exact l
  · have := q.2 h l; rw [p.1] at this; exact absurd this (by decide)
def cnz (t : Nat → Int64) : Nat → Nat
  | 0 => 0
  | j + 1 => cnz t j + (decide (t j ≠ lN 0)).toNat
theorem cnz_cong {t t' : Nat → Int64} : ∀ n, (∀ j, j < n → (t j ≠ lN 0 ↔ t' j ≠ lN 0)) → cnz t n = cnz t' n
  | 0, _ => rfl
  | n + 1, h => by
    rw [cnz, cnz, cnz_cong n (fun j hj => h j (by omega))]
    congr 2
    exact decide_eq_decide.mpr (h n (by omega))
theorem cnz_up {t : Nat → Int64} {h : Nat} {v : Int64} (h0 : t h = lN 0) (hv : v ≠ lN 0) : ∀ n, cnz (va_up t h v) n = cnz t n + if h < n then 1 else 0
  | 0 => rfl
  | n + 1 => by
    rw [cnz, cnz, cnz_up h0 hv n]
    by_cases e : n = h
    · subst e
      rw [va_up_self, h0, if_neg (Nat.lt_irrefl _), if_pos (Nat.lt_succ_self _), decide_eq_true hv, decide_eq_false (fun q => q rfl)]
      rfl
    · rw [va_up_ne _ _ e]
      by_cases q : h < n
      · rw [if_pos q, if_pos (by omega)]; omega
      · rw [if_neg q, if_neg (by omega)]; omega
def Ech (E : EE) (P : Int64 → Int64 → Prop) : Prop := Cl P ∧ (∀ j, j < 60 → E.2.1 j ≠ lN 0 → Tp (E.2.1 j) j ∧ P (E.2.1 j) (E.2.2 j)) ∧ (∀ a b, P a b → a ≠ lN 0 → ∃ h, h < 60 ∧ Tp a h ∧ E.2.1 h ≠ lN 0) ∧ E.1 = cnz E.2.1 60
theorem Ech_num {E E' : EE} {P P' : Int64 → Int64 → Prop} (h : Ech E P) (h' : Ech E' P') (e : ∀ a, (∃ b, P a b) ↔ ∃ b, P' a b) : E.1 = E'.1 := by
  rw [h.2.2.2, h'.2.2.2]
  apply cnz_cong
  intro j hj
  constructor
  · intro q
    obtain ⟨a1, a2⟩ := h.2.1 j hj q
    obtain ⟨b, hb⟩ := (e _).mp ⟨_, a2⟩
    obtain ⟨k, hk, tk, zk⟩ := h'.2.2.1 _ b hb q
    rw [Tp_un a1 tk]
    exact zk
  · intro q
    obtain ⟨a1, a2⟩ := h'.2.1 j hj q
    obtain ⟨b, hb⟩ := (e _).mpr ⟨_, a2⟩
    obtain ⟨k, hk, tk, zk⟩ := h.2.2.1 _ b hb q
    rw [Tp_un a1 tk]
    exact zk
theorem rd_P {t f : Nat → Int64} {P : Int64 → Int64 → Prop} (hP : Cl P) (hr : ∀ j, j < 60 → t j ≠ lN 0 → Tp (t j) j ∧ P (t j) (f j)) (s q : Int64) : ∀ n, n ≤ 60 → ∃ a b, P a b ∧ rd t f s q n = (s ^^^ a, q ^^^ b)
  | 0, _ => ⟨lN 0, lN 0, hP.1, by rw [xz, xz]; rfl⟩
  | n + 1, hn => by
    obtain ⟨a, b, hab, e⟩ := rd_P hP hr s q n (by omega)
    rw [rd]
    split
    · next c =>
      refine ⟨a ^^^ t (59 - n), b ^^^ f (59 - n), hP.2.1 _ _ _ _ hab (hr _ (by omega) c.2).2, ?_⟩
      rw [e, ← xa, ← xa]
    · exact ⟨a, b, hab, e⟩
theorem rd_no {t f : Nat → Int64} (hr : ∀ j, j < 60 → t j ≠ lN 0 → Tp (t j) j) (s q : Int64) : ∀ n, n ≤ 60 → ∀ j, 60 - n ≤ j → j < 60 → t j ≠ lN 0 → tb (rd t f s q n).1 j = false
  | 0, _, j, h1, h2, _ => by omega
  | n + 1, hn, j, h1, h2, h3 => by
    have ih := rd_no (f := f) hr s q n (by omega)
    rw [rd]
    by_cases e : j = 59 - n
    · subst e
      split
      · next c => rw [tb_xor, c.1, (hr _ (by omega) c.2).1]; rfl
      · next c =>
        cases hb : tb (rd t f s q n).1 (59 - n)
        · rfl
        · exact absurd ⟨hb, h3⟩ c
    · split
      · next c => rw [tb_xor, ih j (by omega) h2 h3, (hr _ (by omega) c.2).2 j (by omega)]; rfl
      · exact ih j (by omega) h2 h3
theorem hb_0 {l : Int64} : ∀ n, hb l n = 0 → ∀ j, j < n → tb l j = false
  | 0, _, j, hj => by omega
  | n + 1, h, j, hj => by
    rw [hb] at h
    split at h
    · omega
    · next c =>
      by_cases e : j = n
      · subst e; simpa using c
      · exact hb_0 n h j (by omega)
theorem hb_p {l : Int64} : ∀ n, hb l n ≠ 0 → hb l n - 1 < n ∧ tb l (hb l n - 1) = true ∧ ∀ j, hb l n - 1 < j → j < n → tb l j = false
  | 0, h => absurd rfl h
  | n + 1, h => by
    rw [hb] at h ⊢
    split
    · next c => exact ⟨by omega, by simpa using c, fun j a b => by omega⟩
    · next c =>
      rw [if_neg c] at h
      obtain ⟨a, b, d⟩ := hb_p n h
      refine ⟨by omega, b, fun j x y => ?_⟩
      by_cases e : j = n
      · subst e; simpa using c
      · exact d j x (by omega)
/-- one more row -/
theorem addE_st {E : EE} {P : Int64 → Int64 → Prop} (h : Ech E P) {s : Int64} (q : Int64) (hs : ∀ i, 60 ≤ i → tb s i = false) : (addE E s q = E ∧ ∃ b, P s b) ∨ ((¬ ∃ b, P s b) ∧ (addE E s q).1 = E.1 + 1 ∧ Ech (addE E s q) (fun a b => P a b ∨ P (a ^^^ s) (b ^^^ q))) := by
  obtain ⟨hC, hr, ht, hc⟩ := h
  obtain ⟨a0, b0, hab, er⟩ := rd_P hC hr s q 60 (Nat.le_refl _)
  have hno := rd_no (f := E.2.2) (fun j a b => (hr j a b).1) s q 60 (Nat.le_refl _)
  obtain ⟨r, hrr⟩ : ∃ r, r = (rd E.2.1 E.2.2 s q 60).1 := ⟨_, rfl⟩
  have er1 : r = s ^^^ a0 := by rw [hrr, er]
  have er2 : (rd E.2.1 E.2.2 s q 60).2 = q ^^^ b0 := by rw [er]
  rw [← hrr] at hno
  have hhi : ∀ i, 60 ≤ i → tb r i = false := fun i hi => by rw [er1, tb_xor, hs i hi, hC.2.2 _ _ hab i hi]; rfl
  unfold addE
  rw [← hrr, er2]
  by_cases z : hb r 60 = 0
  · rw [if_pos z]
    have r0 : r = lN 0 := by
      apply tb_ext
      intro i hi
      rw [tb_0]
      by_cases q : i < 60
      · exact hb_0 60 z i q
      · exact hhi i (by omega)
    exact Or.inl ⟨rfl, b0, by rw [x_eq (er1.symm.trans r0)]; exact hab⟩
  · rw [if_neg z]
    obtain ⟨z1, z2, z3⟩ := hb_p 60 z
    obtain ⟨k, hk⟩ : ∃ k, k = hb r 60 - 1 := ⟨_, rfl⟩
    rw [← hk] at z1 z2 z3 ⊢
    have rT : Tp r k := ⟨z2, fun b hb => by
      by_cases q : b < 60
      · exact z3 b hb q
      · exact hhi b (by omega)⟩
    have rz : r ≠ lN 0 := nz_bit z2
    have tk : E.2.1 k = lN 0 := Classical.byContradiction (fun q => by
      have := hno k (by omega) z1 q
      rw [z2] at this
      exact absurd this (by decide))
    have hns : ¬ ∃ b, P s b := by
      rintro ⟨b, hb⟩
      have h1 : P r (b ^^^ b0) := by rw [er1]; exact hC.2.1 _ _ _ _ hb hab
      obtain ⟨h, h6, hT, hz⟩ := ht _ _ h1 rz
      have := hno h (by omega) h6 hz
      rw [hT.1] at this
      exact absurd this (by decide)
    refine Or.inr ⟨hns, rfl, ⟨Or.inl hC.1, ?_, ?_⟩, ?_, ?_, ?_⟩
    · intro a b c d h1 h2
      rcases h1 with h1 | h1
      · rcases h2 with h2 | h2
        · exact Or.inl (hC.2.1 _ _ _ _ h1 h2)
        · refine Or.inr ?_
          rw [xa, xa]
          exact hC.2.1 _ _ _ _ h1 h2
      · rcases h2 with h2 | h2
        · refine Or.inr ?_
          have := hC.2.1 _ _ _ _ h1 h2
          rw [xa, xc s c, ← xa, xa b, xc q d, ← xa b] at this
          exact this
        · refine Or.inl ?_
          have := hC.2.1 _ _ _ _ h1 h2
          rw [x4, xx, xz, x4, xx, xz] at this
          exact this
    · intro a b h1 i hi
      rcases h1 with h1 | h1
      · exact hC.2.2 _ _ h1 i hi
      · have := hC.2.2 _ _ h1 i hi
        rw [tb_xor, hs i hi, Bool.xor_false] at this
        exact this
    · intro j hj hz
      dsimp only at hz ⊢
      by_cases e : j = k
      · subst e
        rw [va_up_self, va_up_self]
        refine ⟨rT, Or.inr ?_⟩
        rw [er1, xc s a0, xk, xc q b0, xk]
        exact hab
      · rw [va_up_ne _ _ e] at hz
        rw [va_up_ne _ _ e, va_up_ne _ _ e]
        exact ⟨(hr j hj hz).1, Or.inl (hr j hj hz).2⟩
    · intro a b h1 ha
      dsimp only
      rcases h1 with h1 | h1
      · obtain ⟨h, h6, hT, hz⟩ := ht _ _ h1 ha
        refine ⟨h, h6, hT, ?_⟩
        rw [va_up_ne _ _ (fun e => hz (by rw [e]; exact tk))]
        exact hz
      · have ho : P (a ^^^ r) (b ^^^ (q ^^^ b0)) := by
          have := hC.2.1 _ _ _ _ h1 hab
          rw [xa, ← er1, xa] at this
          exact this
        by_cases oz : a ^^^ r = lN 0
        · rw [x_eq oz]
          exact ⟨k, z1, rT, by rw [va_up_self]; exact rz⟩
        · obtain ⟨h, h6, hT, hz⟩ := ht _ _ ho oz
          have hrn := hno h (by omega) h6 hz
          have hne : h ≠ k := fun e => hz (by rw [e]; exact tk)
          have ea : a = (a ^^^ r) ^^^ r := (xk a r).symm
          rcases Nat.lt_or_gt_of_ne hne with l | l
          · refine ⟨k, z1, ?_, by rw [va_up_self]; exact rz⟩
            rw [ea]
            exact ⟨by rw [tb_xor, hT.2 k l, z2]; rfl, fun b hb => by rw [tb_xor, hT.2 b (by omega), rT.2 b hb]; rfl⟩
          · refine ⟨h, h6, ?_, by rw [va_up_ne _ _ hne]; exact hz⟩
            rw [ea]
            exact ⟨by rw [tb_xor, hT.1, hrn]; rfl, fun b hb => by rw [tb_xor, hT.2 b hb, rT.2 b (by omega)]; rfl⟩
    · dsimp only
      rw [cnz_up tk rz, if_pos z1, hc]
/-- what is known of a single piece -/
theorem knE_iff {E : EE} {P : Int64 → Int64 → Prop} (h : Ech E P) {p : Nat} (hp : p < 60) : knE E p = true ↔ ∃ b, P (b1 p) b := by
  obtain ⟨hC, hr, ht, hc⟩ := h
  obtain ⟨a0, b0, hab, er⟩ := rd_P hC hr (b1 p) (lN 0) 60 (Nat.le_refl _)
  have hno := rd_no (f := E.2.2) (fun j a b => (hr j a b).1) (b1 p) (lN 0) 60 (Nat.le_refl _)
  unfold knE
  rw [decide_eq_true_iff, er]
  rw [er] at hno
  constructor
  · intro z
    exact ⟨b0, by rw [x_eq z]; exact hab⟩
  · rintro ⟨b, hb⟩
    apply Classical.byContradiction
    intro rz
    obtain ⟨h, h6, hT, hz⟩ := ht _ _ (hC.2.1 _ _ _ _ hb hab) rz
    have := hno h (by omega) h6 hz
    dsimp only at this
    rw [hT.1] at this
    exact absurd this (by decide)
theorem knQ_P {E : EE} {P : Int64 → Int64 → Prop} (h : Ech E P) {p : Nat} (hk : knE E p = true) : P (b1 p) (knQ E p) := by
  obtain ⟨hC, hr, ht, hc⟩ := h
  obtain ⟨a0, b0, hab, er⟩ := rd_P hC hr (b1 p) (lN 0) 60 (Nat.le_refl _)
  unfold knE at hk
  have hk := of_decide_eq_true hk
  unfold knQ
  rw [er] at hk ⊢
  dsimp only at hk ⊢
  rw [zx, x_eq hk]
  exact hab
/-- what the sums of a list and a cache span; a sum counts if it is not spanned by those before it -/
def PL (c : Int64) (li : Nat → Int64) : Nat → Int64 → Int64 → Prop
  | 0 => fun a b => b = lN 0 ∧ ∀ i, tb c i = false → tb a i = false
  | n + 1 => fun a b => PL c li n a b ∨ ((¬ ∃ d, PL c li n (li n) d) ∧ PL c li n (a ^^^ li n) (b ^^^ b1 n))
theorem PL_0 {c : Int64} {li : Nat → Int64} {a : Int64} (h : ∀ i, tb c i = false → tb a i = false) : ∀ n, PL c li n a (lN 0)
  | 0 => ⟨rfl, h⟩
  | n + 1 => Or.inl (PL_0 h n)
theorem PL_Cl {c : Int64} {li : Nat → Int64} (hc : ∀ i, 60 ≤ i → tb c i = false) : ∀ n, (∀ k, k < n → ∀ i, 60 ≤ i → tb (li k) i = false) → Cl (PL c li n)
  | 0, _ => by
    refine ⟨⟨rfl, fun i _ => tb_0 i⟩, fun a b x y h1 h2 => ⟨by rw [h1.1, h2.1, xx], fun i hi => by rw [tb_xor, h1.2 i hi, h2.2 i hi]; rfl⟩, fun a b h i hi => h.2 i (hc i hi)⟩
  | n + 1, hl => by
    obtain ⟨k0, k1, k2⟩ := PL_Cl (li := li) hc n (fun k hk => hl k (by omega))
    refine ⟨Or.inl k0, fun a b x y h1 h2 => ?_, fun a b h i hi => ?_⟩
    · rcases h1 with h1 | ⟨g1, h1⟩
      · rcases h2 with h2 | ⟨g2, h2⟩
        · exact Or.inl (k1 _ _ _ _ h1 h2)
        · refine Or.inr ⟨g2, ?_⟩
          rw [xa, xa]
          exact k1 _ _ _ _ h1 h2
      · rcases h2 with h2 | ⟨g2, h2⟩
        · refine Or.inr ⟨g1, ?_⟩
          have := k1 _ _ _ _ h1 h2
          rw [xa, xc (li n) x, ← xa, xa b, xc (b1 n) y, ← xa b] at this
          exact this
        · refine Or.inl ?_
          have := k1 _ _ _ _ h1 h2
          rw [x4, xx, xz, x4, xx, xz] at this
          exact this
    · rcases h with h | ⟨g, h⟩
      · exact k2 _ _ h i hi
      · have := k2 _ _ h i hi
        rw [tb_xor, hl n (by omega) i hi, Bool.xor_false] at this
        exact this
theorem PL_z {c : Int64} {li : Nat → Int64} : ∀ n b, PL c li n (lN 0) b → b = lN 0
  | 0, _, h => h.1
  | n + 1, b, h => by
    rcases h with h | ⟨g, h⟩
    · exact PL_z n b h
    · rw [zx] at h
      exact absurd ⟨_, h⟩ g
theorem PL_un {c : Int64} {li : Nat → Int64} {n : Nat} (hC : Cl (PL c li n)) {a b d : Int64} (h1 : PL c li n a b) (h2 : PL c li n a d) : b = d := by
  have := hC.2.1 _ _ _ _ h1 h2
  rw [xx] at this
  exact x_eq (PL_z n _ this)
theorem PL_pj {c : Int64} {li : Nat → Int64} {n : Nat} (hC : Cl (PL c li n)) (a : Int64) : (∃ b, PL c li (n + 1) a b) ↔ (∃ b, PL c li n a b) ∨ ∃ b, PL c li n (a ^^^ li n) b := by
  constructor
  · rintro ⟨b, h | ⟨g, h⟩⟩
    · exact Or.inl ⟨b, h⟩
    · exact Or.inr ⟨_, h⟩
  · rintro (⟨b, h⟩ | ⟨b, h⟩)
    · exact ⟨b, Or.inl h⟩
    · by_cases q : ∃ d, PL c li n (li n) d
      · obtain ⟨d, hd⟩ := q
        have := hC.2.1 _ _ _ _ h hd
        rw [xk] at this
        exact ⟨_, Or.inl this⟩
      · exact ⟨b ^^^ b1 n, Or.inr ⟨q, by rw [xk]; exact h⟩⟩
theorem elC_E {c : Int64} : ∀ p, p ≤ 60 → Ech (elC c p) (fun a b => b = lN 0 ∧ ∀ i, tb c i = false ∨ p ≤ i → tb a i = false) ∧ (elC c p).1 = ctb c p
  | 0, _ => by
    refine ⟨⟨⟨⟨rfl, fun i _ => tb_0 i⟩, fun a b x y h1 h2 => ⟨by rw [h1.1, h2.1, xx], fun i hi => by rw [tb_xor, h1.2 i hi, h2.2 i hi]; rfl⟩, fun a b h i hi => h.2 i (Or.inr (by omega))⟩, fun j _ hz => absurd rfl hz, fun a b h ha => absurd (tb_ext (fun i _ => by rw [h.2 i (Or.inr (by omega)), tb_0])) ha, ?_⟩, rfl⟩
    have : ∀ n, cnz (fun _ => lN 0) n = 0 := fun n => by
      induction n with
      | zero => rfl
      | succ n ih => rw [cnz, ih, decide_eq_false (fun q => q rfl)]; rfl
    exact (this 60).symm
  | p + 1, hp => by
    obtain ⟨ih, ihn⟩ := elC_E (c := c) p (by omega)
    rw [elC, ctb]
    by_cases q : tb c p = true
    · rw [if_pos q, q]
      rcases addE_st ih (s := b1 p) (lN 0) (fun i hi => by
        by_cases q6 : i < 64
        · rw [tb_b1 (by omega) q6, decide_eq_false (by omega)]
        · exact tb_big (by omega)) with ⟨_, b, hb⟩ | ⟨_, h2, h3⟩
      · have := hb.2 p (Or.inr (Nat.le_refl _))
        rw [tb_b1 (by omega) (by omega)] at this
        simp at this
      · refine ⟨?_, by rw [h2, ihn]; rfl⟩
        have e : (fun a b => b = lN 0 ∧ ∀ i, tb c i = false ∨ p + 1 ≤ i → tb a i = false) = (fun a b => (fun a b => b = lN 0 ∧ ∀ i, tb c i = false ∨ p ≤ i → tb a i = false) a b ∨ (fun a b => b = lN 0 ∧ ∀ i, tb c i = false ∨ p ≤ i → tb a i = false) (a ^^^ b1 p) (b ^^^ lN 0)) := by
          funext a b
          apply propext
          constructor
          · rintro ⟨e1, e2⟩
            cases hb : tb a p
            · refine Or.inl ⟨e1, fun i hi => ?_⟩
              by_cases z : i = p
              · subst z; exact hb
              · exact e2 i (by rcases hi with hi | hi; (· exact Or.inl hi); (· exact Or.inr (by omega)))
            · refine Or.inr ⟨by rw [e1, xz], fun i hi => ?_⟩
              by_cases i6 : i < 64
              · rw [tb_xor, tb_b1 (by omega) i6]
                by_cases z : i = p
                · subst z; rw [hb]; simp
                · rw [decide_eq_false z, Bool.xor_false]
                  exact e2 i (by rcases hi with hi | hi; (· exact Or.inl hi); (· exact Or.inr (by omega)))
              · exact tb_big (by omega)
          · rintro (⟨e1, e2⟩ | ⟨e1, e2⟩)
            · exact ⟨e1, fun i hi => e2 i (by rcases hi with hi | hi; (· exact Or.inl hi); (· exact Or.inr (by omega)))⟩
            · refine ⟨by rw [xz] at e1; exact e1, fun i hi => ?_⟩
              by_cases i6 : i < 64
              · have := e2 i (by rcases hi with hi | hi; (· exact Or.inl hi); (· exact Or.inr (by omega)))
                rw [tb_xor, tb_b1 (by omega) i6, decide_eq_false (show ¬ i = p from fun z => by subst z; rcases hi with hi | hi; (· rw [hi] at q; exact absurd q (by decide)); (· omega)), Bool.xor_false] at this
                exact this
              · exact tb_big (by omega)
        rw [e]
        exact h3
    · rw [if_neg q]
      have q0 : tb c p = false := by simpa using q
      refine ⟨?_, by rw [ihn, q0]; rfl⟩
      have e : (fun a b => b = lN 0 ∧ ∀ i, tb c i = false ∨ p + 1 ≤ i → tb a i = false) = (fun a b => b = lN 0 ∧ ∀ i, tb c i = false ∨ p ≤ i → tb a i = false) := by
        funext a b
        apply propext
        constructor
        · rintro ⟨e1, e2⟩
          refine ⟨e1, fun i hi => ?_⟩
          by_cases z : i = p
          · subst z; exact e2 i (Or.inl q0)
          · exact e2 i (by rcases hi with hi | hi; (· exact Or.inl hi); (· exact Or.inr (by omega)))
        · rintro ⟨e1, e2⟩
          exact ⟨e1, fun i hi => e2 i (by rcases hi with hi | hi; (· exact Or.inl hi); (· exact Or.inr (by omega)))⟩
      rw [e]
      exact ih
theorem elL_E {c : Int64} {li : Nat → Int64} (hc : ∀ i, 60 ≤ i → tb c i = false) : ∀ n, (∀ k, k < n → ∀ i, 60 ≤ i → tb (li k) i = false) → Ech (elL c li n) (PL c li n)
  | 0, _ => by
    have h := (elC_E (c := c) 60 (Nat.le_refl _)).1
    have e : (fun a b => b = lN 0 ∧ ∀ i, tb c i = false ∨ 60 ≤ i → tb a i = false) = PL c li 0 := by
      funext a b
      apply propext
      constructor
      · rintro ⟨e1, e2⟩; exact ⟨e1, fun i hi => e2 i (Or.inl hi)⟩
      · rintro ⟨e1, e2⟩; exact ⟨e1, fun i hi => by rcases hi with hi | hi; (· exact e2 i hi); (· exact e2 i (hc i hi))⟩
    rw [← e]
    exact h
  | n + 1, hl => by
    have ih := elL_E (li := li) hc n (fun k hk => hl k (by omega))
    rw [elL]
    rcases addE_st ih (s := li n) (b1 n) (hl n (by omega)) with ⟨h1, h2⟩ | ⟨h1, _, h3⟩
    · rw [h1]
      have e : PL c li (n + 1) = PL c li n := by
        funext a b
        apply propext
        constructor
        · rintro (h | ⟨g, h⟩)
          · exact h
          · exact absurd h2 g
        · exact Or.inl
      rw [e]
      exact ih
    · have e : PL c li (n + 1) = (fun a b => PL c li n a b ∨ PL c li n (a ^^^ li n) (b ^^^ b1 n)) := by
        funext a b
        apply propext
        constructor
        · rintro (h | ⟨g, h⟩)
          · exact Or.inl h
          · exact Or.inr h
        · rintro (h | h)
          · exact Or.inl h
          · exact Or.inr ⟨h1, h⟩
      rw [e]
      exact h3
theorem elL_n {c : Int64} {li : Nat → Int64} (hc : ∀ i, 60 ≤ i → tb c i = false) {n : Nat} (hl : ∀ k, k < n + 1 → ∀ i, 60 ≤ i → tb (li k) i = false) : ((∃ d, PL c li n (li n) d) → (elL c li (n + 1)).1 = (elL c li n).1) ∧ ((¬ ∃ d, PL c li n (li n) d) → (elL c li (n + 1)).1 = (elL c li n).1 + 1) := by
  have ih := elL_E (li := li) hc n (fun k hk => hl k (by omega))
  rw [elL]
  rcases addE_st ih (s := li n) (b1 n) (hl n (by omega)) with ⟨h1, h2⟩ | ⟨h1, h2, h3⟩
  · exact ⟨fun _ => by rw [h1], fun q => absurd h2 q⟩
  · exact ⟨fun q => absurd q h1, fun _ => h2⟩
