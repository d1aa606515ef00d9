/-! what holds of the row m at all times -/
/-- a set of pieces of the first nf files -/
def inP (nf : Nat) (s : Int64) : Prop := ∀ b, 12 * nf ≤ b → tb s b = false
def okS (nf : Nat) (s : Int64) : Prop := s ≠ lN 0 ∧ inP nf s
def gN (x : Int64) : Nat := x.toInt.toNat
theorem gN_lN {k : Nat} (h : k < 2 ^ 63) : gN (lN k) = k := by unfold gN; rw [pk_lT h]; omega

def wc0 (m : Nat → Int64) (nf nu nc : Nat) : Prop := Dm m nf nu nc

def wc1 (m : Nat → Int64) (qn : Nat) : Prop := m 327 = lN qn ∧ qn ≤ 100

def wc2 (m : Nat → Int64) (hn : Nat) : Prop := m 428 = lN hn ∧ hn ≤ 100

def wc3 (m : Nat → Int64) (pn : Nat) : Prop := m 529 = lN pn ∧ pn ≤ 30

def wc4 (m : Nat → Int64) (ln : Nat → Nat) : Prop := ∀ u, u < 6 → m (81 + u) = lN (ln u) ∧ ln u ≤ 40

def wc5 (m : Nat → Int64) (nf nu : Nat) : Prop := ∀ u, u < 6 → okW m u nf ∧ (nu ≤ u → m (69 + u) = -lN 1)

def wc6 (m : Nat → Int64) (nu : Nat) : Prop := ∀ u, u < 6 → (m (75 + u) = lN 0 ∨ m (75 + u) = lN 1) ∧ (nu ≤ u → m (75 + u) = lN 0)

def wc7 (m : Nat → Int64) (nf nu : Nat) : Prop := ∀ u, u < 6 → inP nf (m (63 + u)) ∧ (nu ≤ u → m (63 + u) = lN 0)

def wc8 (m : Nat → Int64) (nf : Nat) (ln : Nat → Nat) : Prop := ∀ u, u < 6 → ∀ i, i < ln u → okS nf (m (87 + 40 * u + i))

def wc9 (m : Nat → Int64) (nf qn : Nat) : Prop := ∀ i, i < qn → okS nf (m (328 + i))

def wc10 (m : Nat → Int64) (nf hn : Nat) : Prop := ∀ i, i < hn → okS nf (m (429 + i))

def wc11 (m : Nat → Int64)  : Prop := ∀ p, p < 60 → ∃ c, c < 256 ∧ m (3 + p) = lN c

def wc12 (m : Nat → Int64) (nf nu pn : Nat) : Prop := ∀ k, k < pn → (∃ a, a < nu ∧ m (530 + 3 * k) = lN a) ∧ (∃ b, b < 12 * nf ∧ m (530 + 3 * k + 1) = lN b) ∧ (∃ c, c < 10 ∧ m (530 + 3 * k + 2) = lN c)

theorem wc0_k {m m' : Nat → Int64} {nf nu nc : Nat} (h : wc0 m nf nu nc) (e : ∀ j, 0 ≤ j → j < 3 → m' j = m j) : wc0 m' nf nu nc := ⟨(e 0 (by decide) (by decide)).trans h.1, (e 1 (by decide) (by decide)).trans h.2.1, (e 2 (by decide) (by decide)).trans h.2.2.1, h.2.2.2⟩

theorem wc1_k {m m' : Nat → Int64} {qn : Nat} (h : wc1 m qn) (e : ∀ j, 327 ≤ j → j < 328 → m' j = m j) : wc1 m' qn := ⟨(e 327 (by decide) (by decide)).trans h.1, h.2⟩

theorem wc2_k {m m' : Nat → Int64} {hn : Nat} (h : wc2 m hn) (e : ∀ j, 428 ≤ j → j < 429 → m' j = m j) : wc2 m' hn := ⟨(e 428 (by decide) (by decide)).trans h.1, h.2⟩

theorem wc3_k {m m' : Nat → Int64} {pn : Nat} (h : wc3 m pn) (e : ∀ j, 529 ≤ j → j < 530 → m' j = m j) : wc3 m' pn := ⟨(e 529 (by decide) (by decide)).trans h.1, h.2⟩

theorem wc4_k {m m' : Nat → Int64} {ln : Nat → Nat} (h : wc4 m ln) (e : ∀ j, 81 ≤ j → j < 87 → m' j = m j) : wc4 m' ln := fun u hu => ⟨(e _ (by omega) (by omega)).trans (h u hu).1, (h u hu).2⟩

theorem wc5_k {m m' : Nat → Int64} {nf nu : Nat} (h : wc5 m nf nu) (e : ∀ j, 69 ≤ j → j < 75 → m' j = m j) : wc5 m' nf nu := fun u hu => by have := h u hu; unfold okW at this ⊢; rw [e _ (by omega) (by omega)]; exact this

theorem wc6_k {m m' : Nat → Int64} {nu : Nat} (h : wc6 m nu) (e : ∀ j, 75 ≤ j → j < 81 → m' j = m j) : wc6 m' nu := fun u hu => by rw [e _ (by omega) (by omega)]; exact h u hu

theorem wc7_k {m m' : Nat → Int64} {nf nu : Nat} (h : wc7 m nf nu) (e : ∀ j, 63 ≤ j → j < 69 → m' j = m j) : wc7 m' nf nu := fun u hu => by rw [e _ (by omega) (by omega)]; exact h u hu

theorem wc8_k {m m' : Nat → Int64} {nf : Nat} {ln : Nat → Nat} (hb : ∀ u, u < 6 → ln u ≤ 40) (h : wc8 m nf ln) (e : ∀ j, 87 ≤ j → j < 327 → m' j = m j) : wc8 m' nf ln := fun u hu i hi => by have := hb u hu; rw [e _ (by omega) (by omega)]; exact h u hu i hi

theorem wc9_k {m m' : Nat → Int64} {nf qn : Nat} (hb : qn ≤ 100) (h : wc9 m nf qn) (e : ∀ j, 328 ≤ j → j < 428 → m' j = m j) : wc9 m' nf qn := fun i hi => by rw [e _ (by omega) (by omega)]; exact h i hi

theorem wc10_k {m m' : Nat → Int64} {nf hn : Nat} (hb : hn ≤ 100) (h : wc10 m nf hn) (e : ∀ j, 429 ≤ j → j < 529 → m' j = m j) : wc10 m' nf hn := fun i hi => by rw [e _ (by omega) (by omega)]; exact h i hi

theorem wc11_k {m m' : Nat → Int64}  (h : wc11 m ) (e : ∀ j, 3 ≤ j → j < 63 → m' j = m j) : wc11 m'  := fun p hp => by rw [e _ (by omega) (by omega)]; exact h p hp

theorem wc12_k {m m' : Nat → Int64} {nf nu pn : Nat} (hb : pn ≤ 30) (h : wc12 m nf nu pn) (e : ∀ j, 530 ≤ j → j < 620 → m' j = m j) : wc12 m' nf nu pn := fun k hk => by rw [e _ (by omega) (by omega), e _ (by omega) (by omega), e _ (by omega) (by omega)]; exact h k hk

def Wf (m : Nat → Int64) (nf nu nc qn hn pn : Nat) (ln : Nat → Nat) : Prop := wc0 m nf nu nc ∧ wc1 m qn ∧ wc2 m hn ∧ wc3 m pn ∧ wc4 m ln ∧ wc5 m nf nu ∧ wc6 m nu ∧ wc7 m nf nu ∧ wc8 m nf ln ∧ wc9 m nf qn ∧ wc10 m nf hn ∧ wc11 m ∧ wc12 m nf nu pn

theorem ne1 {m : Nat → Int64} {i j : Nat} {v : Int64} (h : j ≠ i) : va_up m i v j = m j := va_up_ne _ _ h
/-- one cell of a run of cells was written -/
theorem cell {m : Nat → Int64} {o u : Nat} {v : Int64} {P : Nat → Int64 → Prop} (h : ∀ w, w < 6 → P w (m (o + w))) (hv : P u v) : ∀ w, w < 6 → P w (va_up m (o + u) v (o + w)) := by
  intro w hw
  by_cases e : w = u
  · subst e; rw [va_up_self]; exact hv
  · rw [va_up_ne _ _ (by omega)]; exact h w hw

theorem Wf_cache {m : Nat → Int64} {nf nu nc qn hn pn : Nat} {ln : Nat → Nat} (h : Wf m nf nu nc qn hn pn ln) {u : Nat} (hu : u < nu) {v : Int64} (hv : inP nf v) : Wf (va_up m (63 + u) v) nf nu nc qn hn pn ln := by
  obtain ⟨c0, c1, c2, c3, c4, c5, c6, c7, c8, c9, c10, c11, c12⟩ := h
  have h6 := c0.2.2.2.2.2.2.1
  exact ⟨wc0_k c0 (fun j h1 h2 => ne1 (by omega)), wc1_k c1 (fun j h1 h2 => ne1 (by omega)), wc2_k c2 (fun j h1 h2 => ne1 (by omega)), wc3_k c3 (fun j h1 h2 => ne1 (by omega)), wc4_k c4 (fun j h1 h2 => ne1 (by omega)), wc5_k c5 (fun j h1 h2 => ne1 (by omega)), wc6_k c6 (fun j h1 h2 => ne1 (by omega)), cell (P := fun w x => inP nf x ∧ (nu ≤ w → x = lN 0)) c7 ⟨hv, fun q => absurd q (by omega)⟩, wc8_k (fun u hu => (c4 u hu).2) c8 (fun j h1 h2 => ne1 (by omega)), wc9_k c1.2 c9 (fun j h1 h2 => ne1 (by omega)), wc10_k c2.2 c10 (fun j h1 h2 => ne1 (by omega)), wc11_k c11 (fun j h1 h2 => ne1 (by omega)), wc12_k c3.2 c12 (fun j h1 h2 => ne1 (by omega))⟩

theorem Wf_want {m : Nat → Int64} {nf nu nc qn hn pn : Nat} {ln : Nat → Nat} (h : Wf m nf nu nc qn hn pn ln) {u : Nat} (hu : u < nu) {v : Int64} (hv : v = -lN 1 ∨ ∃ f, f < nf ∧ v = lN f) : Wf (va_up m (69 + u) v) nf nu nc qn hn pn ln := by
  obtain ⟨c0, c1, c2, c3, c4, c5, c6, c7, c8, c9, c10, c11, c12⟩ := h
  have h6 := c0.2.2.2.2.2.2.1
  exact ⟨wc0_k c0 (fun j h1 h2 => ne1 (by omega)), wc1_k c1 (fun j h1 h2 => ne1 (by omega)), wc2_k c2 (fun j h1 h2 => ne1 (by omega)), wc3_k c3 (fun j h1 h2 => ne1 (by omega)), wc4_k c4 (fun j h1 h2 => ne1 (by omega)), cell (P := fun w x => (x = -lN 1 ∨ ∃ f, f < nf ∧ x = lN f) ∧ (nu ≤ w → x = -lN 1)) c5 ⟨hv, fun q => absurd q (by omega)⟩, wc6_k c6 (fun j h1 h2 => ne1 (by omega)), wc7_k c7 (fun j h1 h2 => ne1 (by omega)), wc8_k (fun u hu => (c4 u hu).2) c8 (fun j h1 h2 => ne1 (by omega)), wc9_k c1.2 c9 (fun j h1 h2 => ne1 (by omega)), wc10_k c2.2 c10 (fun j h1 h2 => ne1 (by omega)), wc11_k c11 (fun j h1 h2 => ne1 (by omega)), wc12_k c3.2 c12 (fun j h1 h2 => ne1 (by omega))⟩

theorem Wf_here {m : Nat → Int64} {nf nu nc qn hn pn : Nat} {ln : Nat → Nat} (h : Wf m nf nu nc qn hn pn ln) {u : Nat} (hu : u < nu) {v : Int64} (hv : v = lN 0 ∨ v = lN 1) : Wf (va_up m (75 + u) v) nf nu nc qn hn pn ln := by
  obtain ⟨c0, c1, c2, c3, c4, c5, c6, c7, c8, c9, c10, c11, c12⟩ := h
  have h6 := c0.2.2.2.2.2.2.1
  exact ⟨wc0_k c0 (fun j h1 h2 => ne1 (by omega)), wc1_k c1 (fun j h1 h2 => ne1 (by omega)), wc2_k c2 (fun j h1 h2 => ne1 (by omega)), wc3_k c3 (fun j h1 h2 => ne1 (by omega)), wc4_k c4 (fun j h1 h2 => ne1 (by omega)), wc5_k c5 (fun j h1 h2 => ne1 (by omega)), cell (P := fun w x => (x = lN 0 ∨ x = lN 1) ∧ (nu ≤ w → x = lN 0)) c6 ⟨hv, fun q => absurd q (by omega)⟩, wc7_k c7 (fun j h1 h2 => ne1 (by omega)), wc8_k (fun u hu => (c4 u hu).2) c8 (fun j h1 h2 => ne1 (by omega)), wc9_k c1.2 c9 (fun j h1 h2 => ne1 (by omega)), wc10_k c2.2 c10 (fun j h1 h2 => ne1 (by omega)), wc11_k c11 (fun j h1 h2 => ne1 (by omega)), wc12_k c3.2 c12 (fun j h1 h2 => ne1 (by omega))⟩

theorem Wf_content {m : Nat → Int64} {nf nu nc qn hn pn : Nat} {ln : Nat → Nat} (h : Wf m nf nu nc qn hn pn ln) {p : Nat} (hp : p < 60) {c : Nat} (hc : c < 256) : Wf (va_up m (3 + p) (lN c)) nf nu nc qn hn pn ln := by
  obtain ⟨c0, c1, c2, c3, c4, c5, c6, c7, c8, c9, c10, c11, c12⟩ := h
  have h6 := c0.2.2.2.2.2.2.1
  exact ⟨wc0_k c0 (fun j h1 h2 => ne1 (by omega)), wc1_k c1 (fun j h1 h2 => ne1 (by omega)), wc2_k c2 (fun j h1 h2 => ne1 (by omega)), wc3_k c3 (fun j h1 h2 => ne1 (by omega)), wc4_k c4 (fun j h1 h2 => ne1 (by omega)), wc5_k c5 (fun j h1 h2 => ne1 (by omega)), wc6_k c6 (fun j h1 h2 => ne1 (by omega)), wc7_k c7 (fun j h1 h2 => ne1 (by omega)), wc8_k (fun u hu => (c4 u hu).2) c8 (fun j h1 h2 => ne1 (by omega)), wc9_k c1.2 c9 (fun j h1 h2 => ne1 (by omega)), wc10_k c2.2 c10 (fun j h1 h2 => ne1 (by omega)), (fun q hq => by by_cases e : q = p; (· subst e; rw [va_up_self]; exact ⟨c, hc, rfl⟩); (· rw [ne1 (by omega)]; exact c11 q hq)), wc12_k c3.2 c12 (fun j h1 h2 => ne1 (by omega))⟩

theorem Wf_vain {m : Nat → Int64} {nf nu nc qn hn pn : Nat} {ln : Nat → Nat} (h : Wf m nf nu nc qn hn pn ln) {v : Int64} : Wf (va_up m 620 v) nf nu nc qn hn pn ln := by
  obtain ⟨c0, c1, c2, c3, c4, c5, c6, c7, c8, c9, c10, c11, c12⟩ := h
  exact ⟨wc0_k c0 (fun j h1 h2 => ne1 (by omega)), wc1_k c1 (fun j h1 h2 => ne1 (by omega)), wc2_k c2 (fun j h1 h2 => ne1 (by omega)), wc3_k c3 (fun j h1 h2 => ne1 (by omega)), wc4_k c4 (fun j h1 h2 => ne1 (by omega)), wc5_k c5 (fun j h1 h2 => ne1 (by omega)), wc6_k c6 (fun j h1 h2 => ne1 (by omega)), wc7_k c7 (fun j h1 h2 => ne1 (by omega)), wc8_k (fun u hu => (c4 u hu).2) c8 (fun j h1 h2 => ne1 (by omega)), wc9_k c1.2 c9 (fun j h1 h2 => ne1 (by omega)), wc10_k c2.2 c10 (fun j h1 h2 => ne1 (by omega)), wc11_k c11 (fun j h1 h2 => ne1 (by omega)), wc12_k c3.2 c12 (fun j h1 h2 => ne1 (by omega))⟩

theorem Wf_push {m : Nat → Int64} {nf nu nc qn hn pn : Nat} {ln : Nat → Nat} (h : Wf m nf nu nc qn hn pn ln) (hq : qn < 100) {s : Int64} (hs : okS nf s) : Wf (o_queues qn m s).2 nf nu nc (qn + 1) hn pn ln := by
  obtain ⟨c0, c1, c2, c3, c4, c5, c6, c7, c8, c9, c10, c11, c12⟩ := h
  show Wf (va_up (va_up m (328 + qn) s) 327 (lN (qn + 1))) nf nu nc (qn + 1) hn pn ln
  exact ⟨wc0_k c0 (fun j h1 h2 => (ne1 (by omega)).trans (ne1 (by omega))), ⟨va_up_self _ _ _, hq⟩, wc2_k c2 (fun j h1 h2 => (ne1 (by omega)).trans (ne1 (by omega))), wc3_k c3 (fun j h1 h2 => (ne1 (by omega)).trans (ne1 (by omega))), wc4_k c4 (fun j h1 h2 => (ne1 (by omega)).trans (ne1 (by omega))), wc5_k c5 (fun j h1 h2 => (ne1 (by omega)).trans (ne1 (by omega))), wc6_k c6 (fun j h1 h2 => (ne1 (by omega)).trans (ne1 (by omega))), wc7_k c7 (fun j h1 h2 => (ne1 (by omega)).trans (ne1 (by omega))), wc8_k (fun u hu => (c4 u hu).2) c8 (fun j h1 h2 => (ne1 (by omega)).trans (ne1 (by omega))), (fun i hi => by rw [ne1 (by omega)]; by_cases e : i = qn; (· subst e; rw [va_up_self]; exact hs); (· rw [ne1 (by omega)]; exact c9 i (by omega))), wc10_k c2.2 c10 (fun j h1 h2 => (ne1 (by omega)).trans (ne1 (by omega))), wc11_k c11 (fun j h1 h2 => (ne1 (by omega)).trans (ne1 (by omega))), wc12_k c3.2 c12 (fun j h1 h2 => (ne1 (by omega)).trans (ne1 (by omega)))⟩

theorem Wf_clear {m : Nat → Int64} {nf nu nc qn hn pn : Nat} {ln : Nat → Nat} (h : Wf m nf nu nc qn hn pn ln) : Wf (va_up m 327 (lN 0)) nf nu nc 0 hn pn ln := by
  obtain ⟨c0, c1, c2, c3, c4, c5, c6, c7, c8, c9, c10, c11, c12⟩ := h
  exact ⟨wc0_k c0 (fun j h1 h2 => ne1 (by omega)), ⟨va_up_self _ _ _, Nat.zero_le _⟩, wc2_k c2 (fun j h1 h2 => ne1 (by omega)), wc3_k c3 (fun j h1 h2 => ne1 (by omega)), wc4_k c4 (fun j h1 h2 => ne1 (by omega)), wc5_k c5 (fun j h1 h2 => ne1 (by omega)), wc6_k c6 (fun j h1 h2 => ne1 (by omega)), wc7_k c7 (fun j h1 h2 => ne1 (by omega)), wc8_k (fun u hu => (c4 u hu).2) c8 (fun j h1 h2 => ne1 (by omega)), (fun i hi => absurd hi (Nat.not_lt_zero i)), wc10_k c2.2 c10 (fun j h1 h2 => ne1 (by omega)), wc11_k c11 (fun j h1 h2 => ne1 (by omega)), wc12_k c3.2 c12 (fun j h1 h2 => ne1 (by omega))⟩

theorem Wf_plan {m : Nat → Int64} {nf nu nc qn hn pn : Nat} {ln : Nat → Nat} (h : Wf m nf nu nc qn hn pn ln) (hp : pn < 30) {a b c : Nat} (ha : a < nu) (hb : b < 12 * nf) (hc : c < 10) : Wf (va_up (va_up (va_up (va_up m (530 + 3 * pn) (lN a)) (530 + 3 * pn + 1) (lN b)) (530 + 3 * pn + 2) (lN c)) 529 (lN (pn + 1))) nf nu nc qn hn (pn + 1) ln := by
  obtain ⟨c0, c1, c2, c3, c4, c5, c6, c7, c8, c9, c10, c11, c12⟩ := h
  exact ⟨wc0_k c0 (fun j h1 h2 => (ne1 (by omega)).trans ((ne1 (by omega)).trans ((ne1 (by omega)).trans (ne1 (by omega))))), wc1_k c1 (fun j h1 h2 => (ne1 (by omega)).trans ((ne1 (by omega)).trans ((ne1 (by omega)).trans (ne1 (by omega))))), wc2_k c2 (fun j h1 h2 => (ne1 (by omega)).trans ((ne1 (by omega)).trans ((ne1 (by omega)).trans (ne1 (by omega))))), ⟨va_up_self _ _ _, hp⟩, wc4_k c4 (fun j h1 h2 => (ne1 (by omega)).trans ((ne1 (by omega)).trans ((ne1 (by omega)).trans (ne1 (by omega))))), wc5_k c5 (fun j h1 h2 => (ne1 (by omega)).trans ((ne1 (by omega)).trans ((ne1 (by omega)).trans (ne1 (by omega))))), wc6_k c6 (fun j h1 h2 => (ne1 (by omega)).trans ((ne1 (by omega)).trans ((ne1 (by omega)).trans (ne1 (by omega))))), wc7_k c7 (fun j h1 h2 => (ne1 (by omega)).trans ((ne1 (by omega)).trans ((ne1 (by omega)).trans (ne1 (by omega))))), wc8_k (fun u hu => (c4 u hu).2) c8 (fun j h1 h2 => (ne1 (by omega)).trans ((ne1 (by omega)).trans ((ne1 (by omega)).trans (ne1 (by omega))))), wc9_k c1.2 c9 (fun j h1 h2 => (ne1 (by omega)).trans ((ne1 (by omega)).trans ((ne1 (by omega)).trans (ne1 (by omega))))), wc10_k c2.2 c10 (fun j h1 h2 => (ne1 (by omega)).trans ((ne1 (by omega)).trans ((ne1 (by omega)).trans (ne1 (by omega))))), wc11_k c11 (fun j h1 h2 => (ne1 (by omega)).trans ((ne1 (by omega)).trans ((ne1 (by omega)).trans (ne1 (by omega))))), (fun k hk => by
    by_cases e : k = pn
    · subst e
      rw [ne1 (by omega), ne1 (by omega), ne1 (by omega), va_up_self, ne1 (by omega), ne1 (by omega), va_up_self, ne1 (by omega), va_up_self]
      exact ⟨⟨a, ha, rfl⟩, ⟨b, hb, rfl⟩, ⟨c, hc, rfl⟩⟩
    · rw [ne1 (by omega), ne1 (by omega), ne1 (by omega), ne1 (by omega), ne1 (by omega), ne1 (by omega), ne1 (by omega), ne1 (by omega), ne1 (by omega), ne1 (by omega), ne1 (by omega), ne1 (by omega)]
      exact c12 k (by omega))⟩

theorem Wf_rm {m : Nat → Int64} {nf nu nc qn hn pn : Nat} {ln : Nat → Nat} (h : Wf m nf nu nc qn hn pn ln) {b : Nat} (hb : b < pn) : Wf (rmP m pn b (3 * (pn - 1))) nf nu nc qn hn (pn - 1) ln := by
  obtain ⟨c0, c1, c2, c3, c4, c5, c6, c7, c8, c9, c10, c11, c12⟩ := h
  have hp30 := c3.2
  exact ⟨wc0_k c0 (fun j h1 h2 => by unfold rmP; rw [if_neg (by omega), if_neg (by omega)]), wc1_k c1 (fun j h1 h2 => by unfold rmP; rw [if_neg (by omega), if_neg (by omega)]), wc2_k c2 (fun j h1 h2 => by unfold rmP; rw [if_neg (by omega), if_neg (by omega)]), ⟨rmP_529, by omega⟩, wc4_k c4 (fun j h1 h2 => by unfold rmP; rw [if_neg (by omega), if_neg (by omega)]), wc5_k c5 (fun j h1 h2 => by unfold rmP; rw [if_neg (by omega), if_neg (by omega)]), wc6_k c6 (fun j h1 h2 => by unfold rmP; rw [if_neg (by omega), if_neg (by omega)]), wc7_k c7 (fun j h1 h2 => by unfold rmP; rw [if_neg (by omega), if_neg (by omega)]), wc8_k (fun u hu => (c4 u hu).2) c8 (fun j h1 h2 => by unfold rmP; rw [if_neg (by omega), if_neg (by omega)]), wc9_k c1.2 c9 (fun j h1 h2 => by unfold rmP; rw [if_neg (by omega), if_neg (by omega)]), wc10_k c2.2 c10 (fun j h1 h2 => by unfold rmP; rw [if_neg (by omega), if_neg (by omega)]), wc11_k c11 (fun j h1 h2 => by unfold rmP; rw [if_neg (by omega), if_neg (by omega)]), (fun k hk => by
    by_cases e : k < b
    · rw [show rmP m pn b (3 * (pn - 1)) (530 + 3 * k) = m (530 + 3 * k) from by unfold rmP; rw [if_neg (by omega), if_neg (by omega)], show rmP m pn b (3 * (pn - 1)) (530 + 3 * k + 1) = m (530 + 3 * k + 1) from by unfold rmP; rw [if_neg (by omega), if_neg (by omega)], show rmP m pn b (3 * (pn - 1)) (530 + 3 * k + 2) = m (530 + 3 * k + 2) from by unfold rmP; rw [if_neg (by omega), if_neg (by omega)]]
      exact c12 k (by omega)
    · rw [show rmP m pn b (3 * (pn - 1)) (530 + 3 * k) = m (530 + 3 * (k + 1)) from by unfold rmP; rw [if_neg (by omega), if_pos (by omega)]; rfl, show rmP m pn b (3 * (pn - 1)) (530 + 3 * k + 1) = m (530 + 3 * (k + 1) + 1) from by unfold rmP; rw [if_neg (by omega), if_pos (by omega)]; rfl, show rmP m pn b (3 * (pn - 1)) (530 + 3 * k + 2) = m (530 + 3 * (k + 1) + 2) from by unfold rmP; rw [if_neg (by omega), if_pos (by omega)]; rfl]
      exact c12 (k + 1) (by omega))⟩

theorem Wf_mov {m : Nat → Int64} {nf nu nc qn hn pn : Nat} {ln : Nat → Nat} (h : Wf m nf nu nc qn hn pn ln) (hq : 0 < qn) (hh : hn < 100) : Wf (mov qn hn m) nf nu nc (qn - 1) (hn + 1) pn ln := by
  obtain ⟨c0, c1, c2, c3, c4, c5, c6, c7, c8, c9, c10, c11, c12⟩ := h
  have hq100 := c1.2
  have hs := c9 0 hq
  unfold mov
  exact ⟨wc0_k c0 (fun j h1 h2 => (ne1 (by omega)).trans ((ne1 (by omega)).trans (deq_ne (by omega) (by omega)))), ⟨(ne1 (by omega)).trans ((ne1 (by omega)).trans deq_327), by omega⟩, ⟨va_up_self _ _ _, hh⟩, wc3_k c3 (fun j h1 h2 => (ne1 (by omega)).trans ((ne1 (by omega)).trans (deq_ne (by omega) (by omega)))), wc4_k c4 (fun j h1 h2 => (ne1 (by omega)).trans ((ne1 (by omega)).trans (deq_ne (by omega) (by omega)))), wc5_k c5 (fun j h1 h2 => (ne1 (by omega)).trans ((ne1 (by omega)).trans (deq_ne (by omega) (by omega)))), wc6_k c6 (fun j h1 h2 => (ne1 (by omega)).trans ((ne1 (by omega)).trans (deq_ne (by omega) (by omega)))), wc7_k c7 (fun j h1 h2 => (ne1 (by omega)).trans ((ne1 (by omega)).trans (deq_ne (by omega) (by omega)))), wc8_k (fun u hu => (c4 u hu).2) c8 (fun j h1 h2 => (ne1 (by omega)).trans ((ne1 (by omega)).trans (deq_ne (by omega) (by omega)))), (fun i hi => by rw [ne1 (by omega), ne1 (by omega)]; unfold deq; rw [if_neg (by omega), if_pos (by omega)]; exact c9 (i + 1) (by omega)), (fun i hi => by rw [ne1 (by omega)]; by_cases e : i = hn; (· subst e; rw [va_up_self]; exact hs); (· rw [ne1 (by omega), deq_ne (by omega) (by omega)]; exact c10 i (by omega))), wc11_k c11 (fun j h1 h2 => (ne1 (by omega)).trans ((ne1 (by omega)).trans (deq_ne (by omega) (by omega)))), wc12_k c3.2 c12 (fun j h1 h2 => (ne1 (by omega)).trans ((ne1 (by omega)).trans (deq_ne (by omega) (by omega))))⟩

/-- the lengths of the lists after a sum came to user u -/
def lnR (ln : Nat → Nat) (u : Nat) : Nat → Nat := fun w => if w = u then (if ln u = 40 then 40 else ln u + 1) else ln w

theorem recv_at {m : Nat → Int64} {u n : Nat} {s : Int64} (hn : n ≤ 40) : recvF m u n s (81 + u) = lN (if n = 40 then 40 else n + 1) := by
  unfold recvF
  split
  · rw [va_up_self]
  · rw [va_up_self]
theorem recv_li {m : Nat → Int64} {u n : Nat} {s : Int64} (hu : u < 6) (hn : n ≤ 40) {i : Nat} (hi : i < if n = 40 then 40 else n + 1) : recvF m u n s (87 + 40 * u + i) = if n = 40 then (if i = 39 then s else m (87 + 40 * u + i + 1)) else (if i = n then s else m (87 + 40 * u + i)) := by
  unfold recvF
  split
  · next e =>
    rw [if_pos e] at hi
    rw [ne1 (by omega)]
    by_cases e2 : i = 39
    · subst e2; rw [va_up_self, if_pos rfl]
    · rw [ne1 (by omega), ne1 (by omega), if_neg e2]; unfold shf; rw [if_pos (by omega)]
  · next e =>
    rw [if_neg e] at hi
    rw [ne1 (by omega)]
    by_cases e2 : i = n
    · subst e2; rw [va_up_self, if_pos rfl]
    · rw [ne1 (by omega), if_neg e2]

theorem Wf_recv {m : Nat → Int64} {nf nu nc qn hn pn : Nat} {ln : Nat → Nat} (h : Wf m nf nu nc qn hn pn ln) {u : Nat} (hu : u < 6) {s : Int64} (hs : okS nf s) : Wf (recvF m u (ln u) s) nf nu nc qn hn pn (lnR ln u) := by
  obtain ⟨c0, c1, c2, c3, c4, c5, c6, c7, c8, c9, c10, c11, c12⟩ := h
  have hl := (c4 u hu).2
  have hk : ∀ j, j ≠ 81 + u → (j < 87 + 40 * u ∨ 87 + 40 * u + 40 ≤ j) → recvF m u (ln u) s j = m j := fun j a b => recvF_keep hl a b
  exact ⟨wc0_k c0 (fun j h1 h2 => hk j (by omega) (by omega)), wc1_k c1 (fun j h1 h2 => hk j (by omega) (by omega)), wc2_k c2 (fun j h1 h2 => hk j (by omega) (by omega)), wc3_k c3 (fun j h1 h2 => hk j (by omega) (by omega)), (fun w hw => by
    by_cases e : w = u
    · subst e
      rw [recv_at hl, lnR, if_pos rfl]
      exact ⟨rfl, by split <;> omega⟩
    · rw [hk _ (by omega) (by omega), lnR, if_neg e]
      exact c4 w hw), wc5_k c5 (fun j h1 h2 => hk j (by omega) (by omega)), wc6_k c6 (fun j h1 h2 => hk j (by omega) (by omega)), wc7_k c7 (fun j h1 h2 => hk j (by omega) (by omega)), (fun w hw i hi => by
    by_cases e : w = u
    · subst e
      rw [lnR, if_pos rfl] at hi
      rw [recv_li hw hl hi]
      split
      · split
        · exact hs
        · next e1 e2 => rw [if_pos e1] at hi; exact c8 w hw (i + 1) (by omega)
      · split
        · exact hs
        · next e1 e2 => rw [if_neg e1] at hi; exact c8 w hw i (by omega)
    · rw [lnR, if_neg e] at hi
      have := (c4 w hw).2
      rw [hk _ (by omega) (by omega)]
      exact c8 w hw i hi), wc9_k c1.2 c9 (fun j h1 h2 => hk j (by omega) (by omega)), wc10_k c2.2 c10 (fun j h1 h2 => hk j (by omega) (by omega)), wc11_k c11 (fun j h1 h2 => hk j (by omega) (by omega)), wc12_k c3.2 c12 (fun j h1 h2 => hk j (by omega) (by omega))⟩
