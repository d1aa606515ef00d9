theorem Spec_ofF {M : MI} {av : List Value} {Y : PS} {I : FI} {J : FJ} {A : FI} {B : FJ} {post : PO} (hy : plainFor M.1 = true) (htb : tbOk M.2.1 M.2.2.2.2.2) (hn : (lg_sl av).length ≤ M.2.2.1) (body : ∀ X, Good X M → RT X M post → Sim X Y 0 (lv_args 0 av) [] I J A B 0 0) : Spec M av Y I J A B post := by
  intro l D cy sz
  refine va_MetF (cc := M.2.1) (maxL := M.2.2.1) (ret := M.2.2.2.1) hy rfl ?_
  intro p e s m args below meth c s₁ BB hml hv
  obtain ⟨rfl, hsz, hP, hD0, hK, hns⟩ := hv
  have hx := BB.exec
  have hb := BB.bytes
  have hr := BB.returns
  have hts := atoms_spec (ws := Cond.code M.1 M.2.1 M.2.2.1 M.2.2.2.1 :: lw_all) BB.pre
  have hown : s.vm.findClass M.1.cls = some m.cls := findClass_of_methodNamed BB.named
  have hlocks := BB.notSynchronized
  subst hsz
  have hD := hD0.self (sz := s.heap.size)
  generalize hAe : va_A (pool cy Y I J A B) s.heap.size = A0 at hD ⊢
  have hA : ∀ q : Nat, s.heap.size ≤ q → A0 q := fun q h => by rw [← hAe]; exact Or.inr h
  have hS : va_S A0 s.heap s.heap [] := va_S.rf
  have hl := lv_entry av (n := M.2.2.1) hn
  rw [lg_entry_eq]
  have hg : Good (p, l, e, M.2.2.2.2.1, s, m, av.toArray, below, meth, c, MQ below (QcP D cy A0 post) av.toArray s M.2.2.2.2.1.cells M.2.2.2.2.1.slots A0, D, cy, A0, M.2.2.1) M :=
    ⟨hx, hb, hown, fun w hw => hts w (List.mem_cons_of_mem _ hw), hns, hK, hml, rfl, hA, htb, rfl⟩
  refine body _ hg ?_ s.heap [] _ hP hD hS hl
  intro pc lv v Y' I' J' A' B' k n hro hk hn' hpost H locs ls hP' hD' hS' hl'
  refine W.widen hk hn' ?_
  unfold RetOK at hro
  split at hro
  · rename_i x
    obtain ⟨h1, ty, h2, h3⟩ := hro
    exact W.zret hx hb (hr.trans h2) h3 (fun t ht hW => ⟨⟨_, Y', I', J', A', B', rfl, hpost, by rw [ht]; exact hP', hD'⟩, hS'.F ht⟩) hS'.2.2 (fnd_dec htb h1)
  · exact W.lret hx hb (hr.trans hro.2) (fun t ht hW => ⟨⟨_, Y', I', J', A', B', rfl, hpost, by rw [ht]; exact hP', hD'⟩, hS'.F ht⟩) hS'.2.2 (fnd_dec htb hro.1)
  · exact W.fret hx hb (hr.trans hro.2) (fun t ht hW => ⟨⟨_, Y', I', J', A', B', rfl, hpost, by rw [ht]; exact hP', hD'⟩, hS'.F ht⟩) hS'.2.2 (fnd_dec htb hro.1)
  · exact W.vret hx hb (hr.trans hro.2) (fun t ht hW => ⟨⟨_, Y', I', J', A', B', rfl, hpost, by rw [ht]; exact hP', hD'⟩, hS'.F ht⟩) hS'.2.2 (fnd_dec htb hro.1)
  · exact hro.elim
/-! bits counted as the JDK counts them; max, min -/
def pb (N k : Nat) : Nat := (decide (k < 64) && N.testBit k).toNat
def pc (N k : Nat) : Nat := pb N (2 * k) + pb N (2 * k + 1)
def pd (N k : Nat) : Nat := pc N (2 * k) + pc N (2 * k + 1)
def pe (N k : Nat) : Nat := pd N (2 * k) + pd N (2 * k + 1)
def pf (N k : Nat) : Nat := pe N k + pe N (k + 1)
def pg (N k : Nat) : Nat := pf N k + pf N (k + 2)
def ph (N k : Nat) : Nat := pg N k + pg N (k + 4)
theorem pb_le (N k : Nat) : pb N k ≤ 1 := Bool.toNat_le _
theorem pc_le (N k : Nat) : pc N k ≤ 2 := by have := pb_le N (2 * k); have := pb_le N (2 * k + 1); unfold pc; omega
theorem pd_le (N k : Nat) : pd N k ≤ 4 := by have := pc_le N (2 * k); have := pc_le N (2 * k + 1); unfold pd; omega
theorem pe_le (N k : Nat) : pe N k ≤ 8 := by have := pd_le N (2 * k); have := pd_le N (2 * k + 1); unfold pe; omega
theorem pf_le (N k : Nat) : pf N k ≤ 16 := by have := pe_le N k; have := pe_le N (k + 1); unfold pf; omega
theorem pg_le (N k : Nat) : pg N k ≤ 32 := by have := pf_le N k; have := pf_le N (k + 2); unfold pg; omega
theorem ph_le (N k : Nat) : ph N k ≤ 64 := by have := pg_le N k; have := pg_le N (k + 4); unfold ph; omega
theorem pb_0 {N k : Nat} (h : 64 ≤ k) : pb N k = 0 := by unfold pb; rw [decide_eq_false (by omega)]; rfl
theorem pc_0 {N k : Nat} (h : 32 ≤ k) : pc N k = 0 := by unfold pc; rw [pb_0 (by omega), pb_0 (by omega)]
theorem pd_0 {N k : Nat} (h : 16 ≤ k) : pd N k = 0 := by unfold pd; rw [pc_0 (by omega), pc_0 (by omega)]
theorem pe_0 {N k : Nat} (h : 8 ≤ k) : pe N k = 0 := by unfold pe; rw [pd_0 (by omega), pd_0 (by omega)]
theorem pf_0 {N k : Nat} (h : 8 ≤ k) : pf N k = 0 := by unfold pf; rw [pe_0 (by omega), pe_0 (by omega)]
theorem pg_0 {N k : Nat} (h : 8 ≤ k) : pg N k = 0 := by unfold pg; rw [pf_0 (by omega), pf_0 (by omega)]
theorem sm_pair (f : Nat → Nat) : ∀ n, sm f (2 * n) = sm (fun k => f (2 * k) + f (2 * k + 1)) n
  | 0 => rfl
  | n + 1 => by rw [show 2 * (n + 1) = 2 * n + 1 + 1 from by omega, sm, sm, sm_pair f n, sm]; omega
theorem pop_sum (N : Nat) : sm (pb N) 64 = ph N 0 := by
  have h1 : sm (pb N) 64 = sm (pc N) 32 := sm_pair (pb N) 32
  have h2 : sm (pc N) 32 = sm (pd N) 16 := sm_pair (pc N) 16
  have h3 : sm (pd N) 16 = sm (pe N) 8 := sm_pair (pd N) 8
  rw [h1, h2, h3]
  simp only [sm, ph, pg, pf, Nat.zero_add, Nat.reduceAdd]
  omega
def mk1 : Nat := 6148914691236517205
def mk2 : Nat := 3689348814741910323
def mk4 : Nat := 1085102592571150095
theorem mk1_e : mk1 = Lz 2 (fun _ => 2 ^ 1 - 1) 32 := by decide +kernel
theorem mk2_e : mk2 = Lz 4 (fun _ => 2 ^ 2 - 1) 16 := by decide +kernel
theorem mk4_e : mk4 = Lz 8 (fun _ => 2 ^ 4 - 1) 8 := by decide +kernel
theorem pop_N {N : Nat} (h : N < 2 ^ 64) : N = Lz 1 (pb N) 64 := by
  have := Lz_bits N 64
  rw [Nat.mod_eq_of_lt h] at this
  exact this.symm
theorem pop1 {N : Nat} (h : N < 2 ^ 64) : Lz 2 (pc N) 32 + ((N >>> 1) &&& mk1) = N := by
  have hb : ∀ k, pb N k < 2 ^ 1 := fun k => by have := pb_le N k; omega
  have e1 : (N >>> 1) &&& mk1 = Lz 2 (fun k => pb N (2 * k + 1)) 32 := by
    conv => lhs; rw [pop_N h]
    rw [show (1 : Nat) = 1 * 1 from rfl, Lz_shr (by decide) hb (fun k hk => pb_0 hk) 1, mk1_e]
    exact Lz_even (by decide) (fun k => hb (k + 1)) 32
  have e2 : N = Lz 2 (fun k => pb N (2 * k) + 2 ^ 1 * pb N (2 * k + 1)) 32 := by
    conv => lhs; rw [pop_N h]
    exact Lz_pair (pb N) 32
  rw [e1, Lz_add]
  conv => rhs; rw [e2]
  exact Lz_eq 32 (fun k _ => by unfold pc; omega)
theorem pop2 (N : Nat) : (Lz 2 (pc N) 32 &&& mk2) + ((Lz 2 (pc N) 32 >>> 2) &&& mk2) = Lz 4 (pd N) 16 := by
  have hb : ∀ k, pc N k < 2 ^ 2 := fun k => by have := pc_le N k; omega
  rw [show Lz 2 (pc N) 32 >>> 2 = Lz 2 (fun k => pc N (k + 1)) 32 from Lz_shr (by decide) hb (fun k hk => pc_0 hk) 1, mk2_e, show Lz 2 (pc N) 32 &&& Lz 4 (fun _ => 2 ^ 2 - 1) 16 = Lz 4 (fun k => pc N (2 * k)) 16 from Lz_even (by decide) hb 16, show Lz 2 (fun k => pc N (k + 1)) 32 &&& Lz 4 (fun _ => 2 ^ 2 - 1) 16 = Lz 4 (fun k => pc N (2 * k + 1)) 16 from Lz_even (by decide) (fun k => hb (k + 1)) 16, Lz_add]
  rfl
theorem pop3 (N : Nat) : (Lz 4 (pd N) 16 + Lz 4 (pd N) 16 >>> 4) &&& mk4 = Lz 8 (pe N) 8 := by
  have hb : ∀ k, pd N k < 2 ^ 4 := fun k => by have := pd_le N k; omega
  rw [show Lz 4 (pd N) 16 >>> 4 = Lz 4 (fun k => pd N (k + 1)) 16 from Lz_shr (by decide) hb (fun k hk => pd_0 hk) 1, Lz_add, mk4_e]
  exact Lz_even (f := fun k => pd N k + pd N (k + 1)) (by decide) (fun k => by have := pd_le N k; have := pd_le N (k + 1); show pd N k + pd N (k + 1) < 16; omega) 8
theorem pop4 (N : Nat) : Lz 8 (pe N) 8 + Lz 8 (pe N) 8 >>> 8 = Lz 8 (pf N) 8 := by
  rw [show Lz 8 (pe N) 8 >>> 8 = Lz 8 (fun k => pe N (k + 1)) 8 from Lz_shr (by decide) (fun k => by have := pe_le N k; omega) (fun k hk => pe_0 hk) 1, Lz_add]
  rfl
theorem pop5 (N : Nat) : Lz 8 (pf N) 8 + Lz 8 (pf N) 8 >>> 16 = Lz 8 (pg N) 8 := by
  rw [show Lz 8 (pf N) 8 >>> 16 = Lz 8 (fun k => pf N (k + 2)) 8 from Lz_shr (by decide) (fun k => by have := pf_le N k; omega) (fun k hk => pf_0 hk) 2, Lz_add]
  rfl
theorem pop6 (N : Nat) : Lz 8 (pg N) 8 + Lz 8 (pg N) 8 >>> 32 = Lz 8 (ph N) 8 := by
  rw [show Lz 8 (pg N) 8 >>> 32 = Lz 8 (fun k => pg N (k + 4)) 8 from Lz_shr (by decide) (fun k => by have := pg_le N k; omega) (fun k hk => pg_0 hk) 4, Lz_add]
  rfl
theorem pop7 (N : Nat) : Lz 8 (ph N) 8 &&& 127 = ph N 0 := by
  obtain ⟨r, hr⟩ := Lz_low (w := 8) (ph N) 8 (by decide)
  have := ph_le N 0
  rw [hr, show (127 : Nat) = 2 ^ 7 - 1 from rfl, Nat.and_two_pow_sub_one_eq_mod]
  omega
theorem lN_and (a b : Nat) : lN a &&& lN b = lN (a &&& b) := by
  apply tb_ext
  intro i hi
  rw [tb_and, tb_lN, tb_lN, tb_lN, Nat.testBit_and]
  cases decide (i < 64) <;> rfl
theorem lN_all (x : Int64) : ∃ N, N < 2 ^ 64 ∧ x = lN N := by
  refine ⟨x.toBitVec.toNat, x.toBitVec.isLt, ?_⟩
  apply tb_ext
  intro i hi
  rw [tb_lN, decide_eq_true hi]
  rfl
theorem us64 : ∀ k, k < 64 → ((nI k).toInt64.toUInt64 &&& Int64.toUInt64 63).toNat % 64 = k := by decide +kernel
theorem lN_ushr {n k : Nat} (hn : n < 2 ^ 64) (hk : k < 64) : ((lN n).toUInt64 >>> ((nI k).toInt64.toUInt64 &&& Int64.toUInt64 63)).toInt64 = lN (n >>> k) := by
  apply Int64.toBitVec_inj.mp
  apply BitVec.eq_of_toNat_eq
  have e1 : ((lN n).toUInt64 >>> ((nI k).toInt64.toUInt64 &&& Int64.toUInt64 63)).toInt64.toBitVec.toNat = ((lN n).toUInt64 >>> ((nI k).toInt64.toUInt64 &&& Int64.toUInt64 63)).toNat := rfl
  have e2 : ∀ a, a < 2 ^ 64 → (lN a).toBitVec.toNat = a := fun a ha => by
    show (Int64.ofNat a).toBitVec.toNat = a
    rw [Int64.toBitVec_ofNat', BitVec.toNat_ofNat, Nat.mod_eq_of_lt ha]
  rw [e1, UInt64.toNat_shiftRight, us64 k hk, e2 _ (Nat.lt_of_le_of_lt (Nat.shiftRight_le n k) hn)]
  congr 1
  exact e2 n hn
theorem ctb_sm {N : Nat} : ∀ n, n ≤ 64 → ctb (lN N) n = sm (pb N) n
  | 0, _ => rfl
  | n + 1, h => by
    rw [ctb, sm, ctb_sm n (by omega), tb_lN, pb]

set_option maxRecDepth 100000 in
set_option maxHeartbeats 4000000 in
theorem sp_bitLN (Y : PS) (I : FI) (J : FJ) (A : FI) (B : FJ) (N : Nat) (hN : N < 2 ^ 64) : Spec M_J13_bitCount_95d88 [.long (lN N)] Y I J A B (eqP (some (.int (nI (ctb (lN N) 64)))) Y I J A B) := by
  refine Spec_ofF (by decide +kernel) tk_J13_bitCount_95d88 (Nat.le_of_ble_eq_true rfl) (fun X g rt => ?_)
  show Sim X Y 0 [(0, .long (lN N))] [] I J A B 0 0
  have p1 := pop1 hN
  have l1 : Lz 2 (pc N) 32 < 2 ^ 64 := Nat.lt_of_le_of_lt (by omega) hN
  have l2 : Lz 4 (pd N) 16 < 2 ^ 64 := Lz_lt (w := 4) (fun k => by have := pd_le N k; omega) 16
  have l3 : Lz 8 (pe N) 8 < 2 ^ 64 := Lz_lt (w := 8) (fun k => by have := pe_le N k; omega) 8
  have l4 : Lz 8 (pf N) 8 < 2 ^ 64 := Lz_lt (w := 8) (fun k => by have := pf_le N k; omega) 8
  have l5 : Lz 8 (pg N) 8 < 2 ^ 64 := Lz_lt (w := 8) (fun k => by have := pg_le N k; omega) 8
  refine S_n g 4 (pc' := 4) (lv' := [(0, .long (lN N))]) (st' := [.long ((lN N).toUInt64 >>> ((nI 1).toInt64.toUInt64 &&& Int64.toUInt64 63)).toInt64, .long (lN N)]) rfl ?_
  refine S_steq (st' := [.long (lN (N >>> 1)), .long (lN N)]) (by rw [(show ((lN N).toUInt64 >>> ((nI 1).toInt64.toUInt64 &&& Int64.toUInt64 63)).toInt64 = lN (N >>> 1) from lN_ushr hN (by decide)).symm]) ?_
  refine S_ldc2 g kc_J13_314 rfl ?_
  refine S_n g 2 (pc' := 9) (lv' := [(0, .long (lN N))]) (st' := [.long ((lN N) - ((lN (N >>> 1)) &&& (lN 6148914691236517205)))]) rfl ?_
  refine S_steq (st' := [.long (lN (Lz 2 (pc N) 32))]) (by rw [(show (lN N) - ((lN (N >>> 1)) &&& (lN 6148914691236517205)) = lN (Lz 2 (pc N) 32) from by rw [show lN 6148914691236517205 = lN mk1 from rfl, lN_and, lN_sub (by omega)]; exact congrArg lN (by omega)).symm]) ?_
  refine S_n g 2 (pc' := 11) (lv' := [(0, .long (lN (Lz 2 (pc N) 32)))]) (st' := [.long (lN (Lz 2 (pc N) 32))]) rfl ?_
  refine S_ldc2 g kc_J13_316 rfl ?_
  refine S_n g 4 (pc' := 18) (lv' := [(0, .long (lN (Lz 2 (pc N) 32)))]) (st' := [.long ((lN (Lz 2 (pc N) 32)).toUInt64 >>> ((nI 2).toInt64.toUInt64 &&& Int64.toUInt64 63)).toInt64, .long ((lN (Lz 2 (pc N) 32)) &&& (lN 3689348814741910323))]) rfl ?_
  refine S_steq (st' := [.long (lN (Lz 2 (pc N) 32 >>> 2)), .long ((lN (Lz 2 (pc N) 32)) &&& (lN 3689348814741910323))]) (by rw [(show ((lN (Lz 2 (pc N) 32)).toUInt64 >>> ((nI 2).toInt64.toUInt64 &&& Int64.toUInt64 63)).toInt64 = lN (Lz 2 (pc N) 32 >>> 2) from lN_ushr l1 (by decide)).symm]) ?_
  refine S_ldc2 g kc_J13_316 rfl ?_
  refine S_n g 2 (pc' := 23) (lv' := [(0, .long (lN (Lz 2 (pc N) 32)))]) (st' := [.long (((lN (Lz 2 (pc N) 32)) &&& (lN 3689348814741910323)) + ((lN (Lz 2 (pc N) 32 >>> 2)) &&& (lN 3689348814741910323)))]) rfl ?_
  refine S_steq (st' := [.long (lN (Lz 4 (pd N) 16))]) (by rw [(show ((lN (Lz 2 (pc N) 32)) &&& (lN 3689348814741910323)) + ((lN (Lz 2 (pc N) 32 >>> 2)) &&& (lN 3689348814741910323)) = lN (Lz 4 (pd N) 16) from by rw [show lN 3689348814741910323 = lN mk2 from rfl, lN_and, lN_and, lN_add, pop2]).symm]) ?_
  refine S_n g 5 (pc' := 28) (lv' := [(0, .long (lN (Lz 4 (pd N) 16)))]) (st' := [.long ((lN (Lz 4 (pd N) 16)).toUInt64 >>> ((nI 4).toInt64.toUInt64 &&& Int64.toUInt64 63)).toInt64, .long (lN (Lz 4 (pd N) 16))]) rfl ?_
  refine S_steq (st' := [.long (lN (Lz 4 (pd N) 16 >>> 4)), .long (lN (Lz 4 (pd N) 16))]) (by rw [(show ((lN (Lz 4 (pd N) 16)).toUInt64 >>> ((nI 4).toInt64.toUInt64 &&& Int64.toUInt64 63)).toInt64 = lN (Lz 4 (pd N) 16 >>> 4) from lN_ushr l2 (by decide)).symm]) ?_
  refine S_n g 1 (pc' := 29) (lv' := [(0, .long (lN (Lz 4 (pd N) 16)))]) (st' := [.long ((lN (Lz 4 (pd N) 16)) + (lN (Lz 4 (pd N) 16 >>> 4)))]) rfl ?_
  refine S_ldc2 g kc_J13_318 rfl ?_
  refine S_n g 1 (pc' := 33) (lv' := [(0, .long (lN (Lz 4 (pd N) 16)))]) (st' := [.long (((lN (Lz 4 (pd N) 16)) + (lN (Lz 4 (pd N) 16 >>> 4))) &&& (lN 1085102592571150095))]) rfl ?_
  refine S_steq (st' := [.long (lN (Lz 8 (pe N) 8))]) (by rw [(show ((lN (Lz 4 (pd N) 16)) + (lN (Lz 4 (pd N) 16 >>> 4))) &&& (lN 1085102592571150095) = lN (Lz 8 (pe N) 8) from by rw [show lN 1085102592571150095 = lN mk4 from rfl, lN_add, lN_and, pop3]).symm]) ?_
  refine S_n g 5 (pc' := 39) (lv' := [(0, .long (lN (Lz 8 (pe N) 8)))]) (st' := [.long ((lN (Lz 8 (pe N) 8)).toUInt64 >>> ((nI 8).toInt64.toUInt64 &&& Int64.toUInt64 63)).toInt64, .long (lN (Lz 8 (pe N) 8))]) rfl ?_
  refine S_steq (st' := [.long (lN (Lz 8 (pe N) 8 >>> 8)), .long (lN (Lz 8 (pe N) 8))]) (by rw [(show ((lN (Lz 8 (pe N) 8)).toUInt64 >>> ((nI 8).toInt64.toUInt64 &&& Int64.toUInt64 63)).toInt64 = lN (Lz 8 (pe N) 8 >>> 8) from lN_ushr l3 (by decide)).symm]) ?_
  refine S_n g 1 (pc' := 40) (lv' := [(0, .long (lN (Lz 8 (pe N) 8)))]) (st' := [.long ((lN (Lz 8 (pe N) 8)) + (lN (Lz 8 (pe N) 8 >>> 8)))]) rfl ?_
  refine S_steq (st' := [.long (lN (Lz 8 (pf N) 8))]) (by rw [(show (lN (Lz 8 (pe N) 8)) + (lN (Lz 8 (pe N) 8 >>> 8)) = lN (Lz 8 (pf N) 8) from by rw [lN_add, pop4]).symm]) ?_
  refine S_n g 5 (pc' := 46) (lv' := [(0, .long (lN (Lz 8 (pf N) 8)))]) (st' := [.long ((lN (Lz 8 (pf N) 8)).toUInt64 >>> ((nI 16).toInt64.toUInt64 &&& Int64.toUInt64 63)).toInt64, .long (lN (Lz 8 (pf N) 8))]) rfl ?_
  refine S_steq (st' := [.long (lN (Lz 8 (pf N) 8 >>> 16)), .long (lN (Lz 8 (pf N) 8))]) (by rw [(show ((lN (Lz 8 (pf N) 8)).toUInt64 >>> ((nI 16).toInt64.toUInt64 &&& Int64.toUInt64 63)).toInt64 = lN (Lz 8 (pf N) 8 >>> 16) from lN_ushr l4 (by decide)).symm]) ?_
  refine S_n g 1 (pc' := 47) (lv' := [(0, .long (lN (Lz 8 (pf N) 8)))]) (st' := [.long ((lN (Lz 8 (pf N) 8)) + (lN (Lz 8 (pf N) 8 >>> 16)))]) rfl ?_
  refine S_steq (st' := [.long (lN (Lz 8 (pg N) 8))]) (by rw [(show (lN (Lz 8 (pf N) 8)) + (lN (Lz 8 (pf N) 8 >>> 16)) = lN (Lz 8 (pg N) 8) from by rw [lN_add, pop5]).symm]) ?_
  refine S_n g 5 (pc' := 53) (lv' := [(0, .long (lN (Lz 8 (pg N) 8)))]) (st' := [.long ((lN (Lz 8 (pg N) 8)).toUInt64 >>> ((nI 32).toInt64.toUInt64 &&& Int64.toUInt64 63)).toInt64, .long (lN (Lz 8 (pg N) 8))]) rfl ?_
  refine S_steq (st' := [.long (lN (Lz 8 (pg N) 8 >>> 32)), .long (lN (Lz 8 (pg N) 8))]) (by rw [(show ((lN (Lz 8 (pg N) 8)).toUInt64 >>> ((nI 32).toInt64.toUInt64 &&& Int64.toUInt64 63)).toInt64 = lN (Lz 8 (pg N) 8 >>> 32) from lN_ushr l5 (by decide)).symm]) ?_
  refine S_n g 1 (pc' := 54) (lv' := [(0, .long (lN (Lz 8 (pg N) 8)))]) (st' := [.long ((lN (Lz 8 (pg N) 8)) + (lN (Lz 8 (pg N) 8 >>> 32)))]) rfl ?_
  refine S_steq (st' := [.long (lN (Lz 8 (ph N) 8))]) (by rw [(show (lN (Lz 8 (pg N) 8)) + (lN (Lz 8 (pg N) 8 >>> 32)) = lN (Lz 8 (ph N) 8) from by rw [lN_add, pop6]).symm]) ?_
  refine S_n g 5 (pc' := 60) (lv' := [(0, .long (lN (Lz 8 (ph N) 8)))]) (st' := [.int ((lN (Lz 8 (ph N) 8)).toInt32 &&& (nI 127))]) rfl ?_
  refine S_steq (st' := [.int (nI (ctb (lN N) 64))]) (by rw [(show (lN (Lz 8 (ph N) 8)).toInt32 &&& (nI 127) = nI (ctb (lN N) 64) from by rw [lN_i, nI_and, pop7, ctb_sm 64 (by decide), pop_sum]).symm]) ?_
  exact rtI rt rfl rfl eqP_rf

theorem sp_bitL (Y : PS) (I : FI) (J : FJ) (A : FI) (B : FJ) (x : Int64) : Spec M_J13_bitCount_95d88 [.long x] Y I J A B (eqP (some (.int (nI (ctb x 64)))) Y I J A B) := by
  obtain ⟨N, hN, rfl⟩ := lN_all x
  exact sp_bitLN Y I J A B N hN

theorem bit_fin : ∀ s, s < 64 → ((((((((nI s) - (((nI s).toUInt32 >>> ((nI 1).toUInt32 &&& Int32.toUInt32 31)).toInt32 &&& (nI 1431655765))) &&& (nI 858993459)) + ((((nI s) - (((nI s).toUInt32 >>> ((nI 1).toUInt32 &&& Int32.toUInt32 31)).toInt32 &&& (nI 1431655765))).toUInt32 >>> ((nI 2).toUInt32 &&& Int32.toUInt32 31)).toInt32 &&& (nI 858993459))) + (((((nI s) - (((nI s).toUInt32 >>> ((nI 1).toUInt32 &&& Int32.toUInt32 31)).toInt32 &&& (nI 1431655765))) &&& (nI 858993459)) + ((((nI s) - (((nI s).toUInt32 >>> ((nI 1).toUInt32 &&& Int32.toUInt32 31)).toInt32 &&& (nI 1431655765))).toUInt32 >>> ((nI 2).toUInt32 &&& Int32.toUInt32 31)).toInt32 &&& (nI 858993459))).toUInt32 >>> ((nI 4).toUInt32 &&& Int32.toUInt32 31)).toInt32) &&& (nI 252645135)) + (((((((nI s) - (((nI s).toUInt32 >>> ((nI 1).toUInt32 &&& Int32.toUInt32 31)).toInt32 &&& (nI 1431655765))) &&& (nI 858993459)) + ((((nI s) - (((nI s).toUInt32 >>> ((nI 1).toUInt32 &&& Int32.toUInt32 31)).toInt32 &&& (nI 1431655765))).toUInt32 >>> ((nI 2).toUInt32 &&& Int32.toUInt32 31)).toInt32 &&& (nI 858993459))) + (((((nI s) - (((nI s).toUInt32 >>> ((nI 1).toUInt32 &&& Int32.toUInt32 31)).toInt32 &&& (nI 1431655765))) &&& (nI 858993459)) + ((((nI s) - (((nI s).toUInt32 >>> ((nI 1).toUInt32 &&& Int32.toUInt32 31)).toInt32 &&& (nI 1431655765))).toUInt32 >>> ((nI 2).toUInt32 &&& Int32.toUInt32 31)).toInt32 &&& (nI 858993459))).toUInt32 >>> ((nI 4).toUInt32 &&& Int32.toUInt32 31)).toInt32) &&& (nI 252645135)).toUInt32 >>> ((nI 8).toUInt32 &&& Int32.toUInt32 31)).toInt32) + ((((((((nI s) - (((nI s).toUInt32 >>> ((nI 1).toUInt32 &&& Int32.toUInt32 31)).toInt32 &&& (nI 1431655765))) &&& (nI 858993459)) + ((((nI s) - (((nI s).toUInt32 >>> ((nI 1).toUInt32 &&& Int32.toUInt32 31)).toInt32 &&& (nI 1431655765))).toUInt32 >>> ((nI 2).toUInt32 &&& Int32.toUInt32 31)).toInt32 &&& (nI 858993459))) + (((((nI s) - (((nI s).toUInt32 >>> ((nI 1).toUInt32 &&& Int32.toUInt32 31)).toInt32 &&& (nI 1431655765))) &&& (nI 858993459)) + ((((nI s) - (((nI s).toUInt32 >>> ((nI 1).toUInt32 &&& Int32.toUInt32 31)).toInt32 &&& (nI 1431655765))).toUInt32 >>> ((nI 2).toUInt32 &&& Int32.toUInt32 31)).toInt32 &&& (nI 858993459))).toUInt32 >>> ((nI 4).toUInt32 &&& Int32.toUInt32 31)).toInt32) &&& (nI 252645135)) + (((((((nI s) - (((nI s).toUInt32 >>> ((nI 1).toUInt32 &&& Int32.toUInt32 31)).toInt32 &&& (nI 1431655765))) &&& (nI 858993459)) + ((((nI s) - (((nI s).toUInt32 >>> ((nI 1).toUInt32 &&& Int32.toUInt32 31)).toInt32 &&& (nI 1431655765))).toUInt32 >>> ((nI 2).toUInt32 &&& Int32.toUInt32 31)).toInt32 &&& (nI 858993459))) + (((((nI s) - (((nI s).toUInt32 >>> ((nI 1).toUInt32 &&& Int32.toUInt32 31)).toInt32 &&& (nI 1431655765))) &&& (nI 858993459)) + ((((nI s) - (((nI s).toUInt32 >>> ((nI 1).toUInt32 &&& Int32.toUInt32 31)).toInt32 &&& (nI 1431655765))).toUInt32 >>> ((nI 2).toUInt32 &&& Int32.toUInt32 31)).toInt32 &&& (nI 858993459))).toUInt32 >>> ((nI 4).toUInt32 &&& Int32.toUInt32 31)).toInt32) &&& (nI 252645135)).toUInt32 >>> ((nI 8).toUInt32 &&& Int32.toUInt32 31)).toInt32).toUInt32 >>> ((nI 16).toUInt32 &&& Int32.toUInt32 31)).toInt32) &&& (nI 63) = nI (ctb (lN s) 60) := by decide +kernel
set_option maxRecDepth 100000 in
set_option maxHeartbeats 4000000 in
theorem sp_bitI (Y : PS) (I : FI) (J : FJ) (A : FI) (B : FJ) (s : Nat) (hs : s < 64) : Spec M_J6_bitCount_0f7a4 [.int (nI s)] Y I J A B (eqP (some (.int (nI (ctb (lN s) 60)))) Y I J A B) := by
  refine Spec_ofF (by decide +kernel) tk_J6_bitCount_0f7a4 (Nat.le_of_ble_eq_true rfl) (fun X g rt => ?_)
  show Sim X Y 0 [(0, .int (nI s))] [] I J A B 0 0
  refine S_n g 4 (pc' := 4) (lv' := [(0, .int (nI s))]) (st' := [.int ((nI s).toUInt32 >>> ((nI 1).toUInt32 &&& Int32.toUInt32 31)).toInt32, .int (nI s)]) rfl ?_
  refine S_ldcw g kc_J6_265 rfl ?_
  refine S_n g 4 (pc' := 11) (lv' := [(0, .int ((nI s) - (((nI s).toUInt32 >>> ((nI 1).toUInt32 &&& Int32.toUInt32 31)).toInt32 &&& (nI 1431655765))))]) (st' := [.int ((nI s) - (((nI s).toUInt32 >>> ((nI 1).toUInt32 &&& Int32.toUInt32 31)).toInt32 &&& (nI 1431655765)))]) rfl ?_
  refine S_ldcw g kc_J6_266 rfl ?_
  refine S_n g 4 (pc' := 18) (lv' := [(0, .int ((nI s) - (((nI s).toUInt32 >>> ((nI 1).toUInt32 &&& Int32.toUInt32 31)).toInt32 &&& (nI 1431655765))))]) (st' := [.int (((nI s) - (((nI s).toUInt32 >>> ((nI 1).toUInt32 &&& Int32.toUInt32 31)).toInt32 &&& (nI 1431655765))).toUInt32 >>> ((nI 2).toUInt32 &&& Int32.toUInt32 31)).toInt32, .int (((nI s) - (((nI s).toUInt32 >>> ((nI 1).toUInt32 &&& Int32.toUInt32 31)).toInt32 &&& (nI 1431655765))) &&& (nI 858993459))]) rfl ?_
  refine S_ldcw g kc_J6_266 rfl ?_
  refine S_n g 8 (pc' := 29) (lv' := [(0, .int ((((nI s) - (((nI s).toUInt32 >>> ((nI 1).toUInt32 &&& Int32.toUInt32 31)).toInt32 &&& (nI 1431655765))) &&& (nI 858993459)) + ((((nI s) - (((nI s).toUInt32 >>> ((nI 1).toUInt32 &&& Int32.toUInt32 31)).toInt32 &&& (nI 1431655765))).toUInt32 >>> ((nI 2).toUInt32 &&& Int32.toUInt32 31)).toInt32 &&& (nI 858993459))))]) (st' := [.int (((((nI s) - (((nI s).toUInt32 >>> ((nI 1).toUInt32 &&& Int32.toUInt32 31)).toInt32 &&& (nI 1431655765))) &&& (nI 858993459)) + ((((nI s) - (((nI s).toUInt32 >>> ((nI 1).toUInt32 &&& Int32.toUInt32 31)).toInt32 &&& (nI 1431655765))).toUInt32 >>> ((nI 2).toUInt32 &&& Int32.toUInt32 31)).toInt32 &&& (nI 858993459))) + (((((nI s) - (((nI s).toUInt32 >>> ((nI 1).toUInt32 &&& Int32.toUInt32 31)).toInt32 &&& (nI 1431655765))) &&& (nI 858993459)) + ((((nI s) - (((nI s).toUInt32 >>> ((nI 1).toUInt32 &&& Int32.toUInt32 31)).toInt32 &&& (nI 1431655765))).toUInt32 >>> ((nI 2).toUInt32 &&& Int32.toUInt32 31)).toInt32 &&& (nI 858993459))).toUInt32 >>> ((nI 4).toUInt32 &&& Int32.toUInt32 31)).toInt32)]) rfl ?_
  refine S_ldcw g kc_J6_267 rfl ?_
  refine S_n g 17 (pc' := 52) (lv' := [(0, .int ((((((((nI s) - (((nI s).toUInt32 >>> ((nI 1).toUInt32 &&& Int32.toUInt32 31)).toInt32 &&& (nI 1431655765))) &&& (nI 858993459)) + ((((nI s) - (((nI s).toUInt32 >>> ((nI 1).toUInt32 &&& Int32.toUInt32 31)).toInt32 &&& (nI 1431655765))).toUInt32 >>> ((nI 2).toUInt32 &&& Int32.toUInt32 31)).toInt32 &&& (nI 858993459))) + (((((nI s) - (((nI s).toUInt32 >>> ((nI 1).toUInt32 &&& Int32.toUInt32 31)).toInt32 &&& (nI 1431655765))) &&& (nI 858993459)) + ((((nI s) - (((nI s).toUInt32 >>> ((nI 1).toUInt32 &&& Int32.toUInt32 31)).toInt32 &&& (nI 1431655765))).toUInt32 >>> ((nI 2).toUInt32 &&& Int32.toUInt32 31)).toInt32 &&& (nI 858993459))).toUInt32 >>> ((nI 4).toUInt32 &&& Int32.toUInt32 31)).toInt32) &&& (nI 252645135)) + (((((((nI s) - (((nI s).toUInt32 >>> ((nI 1).toUInt32 &&& Int32.toUInt32 31)).toInt32 &&& (nI 1431655765))) &&& (nI 858993459)) + ((((nI s) - (((nI s).toUInt32 >>> ((nI 1).toUInt32 &&& Int32.toUInt32 31)).toInt32 &&& (nI 1431655765))).toUInt32 >>> ((nI 2).toUInt32 &&& Int32.toUInt32 31)).toInt32 &&& (nI 858993459))) + (((((nI s) - (((nI s).toUInt32 >>> ((nI 1).toUInt32 &&& Int32.toUInt32 31)).toInt32 &&& (nI 1431655765))) &&& (nI 858993459)) + ((((nI s) - (((nI s).toUInt32 >>> ((nI 1).toUInt32 &&& Int32.toUInt32 31)).toInt32 &&& (nI 1431655765))).toUInt32 >>> ((nI 2).toUInt32 &&& Int32.toUInt32 31)).toInt32 &&& (nI 858993459))).toUInt32 >>> ((nI 4).toUInt32 &&& Int32.toUInt32 31)).toInt32) &&& (nI 252645135)).toUInt32 >>> ((nI 8).toUInt32 &&& Int32.toUInt32 31)).toInt32) + ((((((((nI s) - (((nI s).toUInt32 >>> ((nI 1).toUInt32 &&& Int32.toUInt32 31)).toInt32 &&& (nI 1431655765))) &&& (nI 858993459)) + ((((nI s) - (((nI s).toUInt32 >>> ((nI 1).toUInt32 &&& Int32.toUInt32 31)).toInt32 &&& (nI 1431655765))).toUInt32 >>> ((nI 2).toUInt32 &&& Int32.toUInt32 31)).toInt32 &&& (nI 858993459))) + (((((nI s) - (((nI s).toUInt32 >>> ((nI 1).toUInt32 &&& Int32.toUInt32 31)).toInt32 &&& (nI 1431655765))) &&& (nI 858993459)) + ((((nI s) - (((nI s).toUInt32 >>> ((nI 1).toUInt32 &&& Int32.toUInt32 31)).toInt32 &&& (nI 1431655765))).toUInt32 >>> ((nI 2).toUInt32 &&& Int32.toUInt32 31)).toInt32 &&& (nI 858993459))).toUInt32 >>> ((nI 4).toUInt32 &&& Int32.toUInt32 31)).toInt32) &&& (nI 252645135)) + (((((((nI s) - (((nI s).toUInt32 >>> ((nI 1).toUInt32 &&& Int32.toUInt32 31)).toInt32 &&& (nI 1431655765))) &&& (nI 858993459)) + ((((nI s) - (((nI s).toUInt32 >>> ((nI 1).toUInt32 &&& Int32.toUInt32 31)).toInt32 &&& (nI 1431655765))).toUInt32 >>> ((nI 2).toUInt32 &&& Int32.toUInt32 31)).toInt32 &&& (nI 858993459))) + (((((nI s) - (((nI s).toUInt32 >>> ((nI 1).toUInt32 &&& Int32.toUInt32 31)).toInt32 &&& (nI 1431655765))) &&& (nI 858993459)) + ((((nI s) - (((nI s).toUInt32 >>> ((nI 1).toUInt32 &&& Int32.toUInt32 31)).toInt32 &&& (nI 1431655765))).toUInt32 >>> ((nI 2).toUInt32 &&& Int32.toUInt32 31)).toInt32 &&& (nI 858993459))).toUInt32 >>> ((nI 4).toUInt32 &&& Int32.toUInt32 31)).toInt32) &&& (nI 252645135)).toUInt32 >>> ((nI 8).toUInt32 &&& Int32.toUInt32 31)).toInt32).toUInt32 >>> ((nI 16).toUInt32 &&& Int32.toUInt32 31)).toInt32))]) (st' := [.int (((((((((nI s) - (((nI s).toUInt32 >>> ((nI 1).toUInt32 &&& Int32.toUInt32 31)).toInt32 &&& (nI 1431655765))) &&& (nI 858993459)) + ((((nI s) - (((nI s).toUInt32 >>> ((nI 1).toUInt32 &&& Int32.toUInt32 31)).toInt32 &&& (nI 1431655765))).toUInt32 >>> ((nI 2).toUInt32 &&& Int32.toUInt32 31)).toInt32 &&& (nI 858993459))) + (((((nI s) - (((nI s).toUInt32 >>> ((nI 1).toUInt32 &&& Int32.toUInt32 31)).toInt32 &&& (nI 1431655765))) &&& (nI 858993459)) + ((((nI s) - (((nI s).toUInt32 >>> ((nI 1).toUInt32 &&& Int32.toUInt32 31)).toInt32 &&& (nI 1431655765))).toUInt32 >>> ((nI 2).toUInt32 &&& Int32.toUInt32 31)).toInt32 &&& (nI 858993459))).toUInt32 >>> ((nI 4).toUInt32 &&& Int32.toUInt32 31)).toInt32) &&& (nI 252645135)) + (((((((nI s) - (((nI s).toUInt32 >>> ((nI 1).toUInt32 &&& Int32.toUInt32 31)).toInt32 &&& (nI 1431655765))) &&& (nI 858993459)) + ((((nI s) - (((nI s).toUInt32 >>> ((nI 1).toUInt32 &&& Int32.toUInt32 31)).toInt32 &&& (nI 1431655765))).toUInt32 >>> ((nI 2).toUInt32 &&& Int32.toUInt32 31)).toInt32 &&& (nI 858993459))) + (((((nI s) - (((nI s).toUInt32 >>> ((nI 1).toUInt32 &&& Int32.toUInt32 31)).toInt32 &&& (nI 1431655765))) &&& (nI 858993459)) + ((((nI s) - (((nI s).toUInt32 >>> ((nI 1).toUInt32 &&& Int32.toUInt32 31)).toInt32 &&& (nI 1431655765))).toUInt32 >>> ((nI 2).toUInt32 &&& Int32.toUInt32 31)).toInt32 &&& (nI 858993459))).toUInt32 >>> ((nI 4).toUInt32 &&& Int32.toUInt32 31)).toInt32) &&& (nI 252645135)).toUInt32 >>> ((nI 8).toUInt32 &&& Int32.toUInt32 31)).toInt32) + ((((((((nI s) - (((nI s).toUInt32 >>> ((nI 1).toUInt32 &&& Int32.toUInt32 31)).toInt32 &&& (nI 1431655765))) &&& (nI 858993459)) + ((((nI s) - (((nI s).toUInt32 >>> ((nI 1).toUInt32 &&& Int32.toUInt32 31)).toInt32 &&& (nI 1431655765))).toUInt32 >>> ((nI 2).toUInt32 &&& Int32.toUInt32 31)).toInt32 &&& (nI 858993459))) + (((((nI s) - (((nI s).toUInt32 >>> ((nI 1).toUInt32 &&& Int32.toUInt32 31)).toInt32 &&& (nI 1431655765))) &&& (nI 858993459)) + ((((nI s) - (((nI s).toUInt32 >>> ((nI 1).toUInt32 &&& Int32.toUInt32 31)).toInt32 &&& (nI 1431655765))).toUInt32 >>> ((nI 2).toUInt32 &&& Int32.toUInt32 31)).toInt32 &&& (nI 858993459))).toUInt32 >>> ((nI 4).toUInt32 &&& Int32.toUInt32 31)).toInt32) &&& (nI 252645135)) + (((((((nI s) - (((nI s).toUInt32 >>> ((nI 1).toUInt32 &&& Int32.toUInt32 31)).toInt32 &&& (nI 1431655765))) &&& (nI 858993459)) + ((((nI s) - (((nI s).toUInt32 >>> ((nI 1).toUInt32 &&& Int32.toUInt32 31)).toInt32 &&& (nI 1431655765))).toUInt32 >>> ((nI 2).toUInt32 &&& Int32.toUInt32 31)).toInt32 &&& (nI 858993459))) + (((((nI s) - (((nI s).toUInt32 >>> ((nI 1).toUInt32 &&& Int32.toUInt32 31)).toInt32 &&& (nI 1431655765))) &&& (nI 858993459)) + ((((nI s) - (((nI s).toUInt32 >>> ((nI 1).toUInt32 &&& Int32.toUInt32 31)).toInt32 &&& (nI 1431655765))).toUInt32 >>> ((nI 2).toUInt32 &&& Int32.toUInt32 31)).toInt32 &&& (nI 858993459))).toUInt32 >>> ((nI 4).toUInt32 &&& Int32.toUInt32 31)).toInt32) &&& (nI 252645135)).toUInt32 >>> ((nI 8).toUInt32 &&& Int32.toUInt32 31)).toInt32).toUInt32 >>> ((nI 16).toUInt32 &&& Int32.toUInt32 31)).toInt32) &&& (nI 63))]) rfl ?_
  refine S_steq (st' := [.int (nI (ctb (lN s) 60))]) (by rw [(show ((((((((nI s) - (((nI s).toUInt32 >>> ((nI 1).toUInt32 &&& Int32.toUInt32 31)).toInt32 &&& (nI 1431655765))) &&& (nI 858993459)) + ((((nI s) - (((nI s).toUInt32 >>> ((nI 1).toUInt32 &&& Int32.toUInt32 31)).toInt32 &&& (nI 1431655765))).toUInt32 >>> ((nI 2).toUInt32 &&& Int32.toUInt32 31)).toInt32 &&& (nI 858993459))) + (((((nI s) - (((nI s).toUInt32 >>> ((nI 1).toUInt32 &&& Int32.toUInt32 31)).toInt32 &&& (nI 1431655765))) &&& (nI 858993459)) + ((((nI s) - (((nI s).toUInt32 >>> ((nI 1).toUInt32 &&& Int32.toUInt32 31)).toInt32 &&& (nI 1431655765))).toUInt32 >>> ((nI 2).toUInt32 &&& Int32.toUInt32 31)).toInt32 &&& (nI 858993459))).toUInt32 >>> ((nI 4).toUInt32 &&& Int32.toUInt32 31)).toInt32) &&& (nI 252645135)) + (((((((nI s) - (((nI s).toUInt32 >>> ((nI 1).toUInt32 &&& Int32.toUInt32 31)).toInt32 &&& (nI 1431655765))) &&& (nI 858993459)) + ((((nI s) - (((nI s).toUInt32 >>> ((nI 1).toUInt32 &&& Int32.toUInt32 31)).toInt32 &&& (nI 1431655765))).toUInt32 >>> ((nI 2).toUInt32 &&& Int32.toUInt32 31)).toInt32 &&& (nI 858993459))) + (((((nI s) - (((nI s).toUInt32 >>> ((nI 1).toUInt32 &&& Int32.toUInt32 31)).toInt32 &&& (nI 1431655765))) &&& (nI 858993459)) + ((((nI s) - (((nI s).toUInt32 >>> ((nI 1).toUInt32 &&& Int32.toUInt32 31)).toInt32 &&& (nI 1431655765))).toUInt32 >>> ((nI 2).toUInt32 &&& Int32.toUInt32 31)).toInt32 &&& (nI 858993459))).toUInt32 >>> ((nI 4).toUInt32 &&& Int32.toUInt32 31)).toInt32) &&& (nI 252645135)).toUInt32 >>> ((nI 8).toUInt32 &&& Int32.toUInt32 31)).toInt32) + ((((((((nI s) - (((nI s).toUInt32 >>> ((nI 1).toUInt32 &&& Int32.toUInt32 31)).toInt32 &&& (nI 1431655765))) &&& (nI 858993459)) + ((((nI s) - (((nI s).toUInt32 >>> ((nI 1).toUInt32 &&& Int32.toUInt32 31)).toInt32 &&& (nI 1431655765))).toUInt32 >>> ((nI 2).toUInt32 &&& Int32.toUInt32 31)).toInt32 &&& (nI 858993459))) + (((((nI s) - (((nI s).toUInt32 >>> ((nI 1).toUInt32 &&& Int32.toUInt32 31)).toInt32 &&& (nI 1431655765))) &&& (nI 858993459)) + ((((nI s) - (((nI s).toUInt32 >>> ((nI 1).toUInt32 &&& Int32.toUInt32 31)).toInt32 &&& (nI 1431655765))).toUInt32 >>> ((nI 2).toUInt32 &&& Int32.toUInt32 31)).toInt32 &&& (nI 858993459))).toUInt32 >>> ((nI 4).toUInt32 &&& Int32.toUInt32 31)).toInt32) &&& (nI 252645135)) + (((((((nI s) - (((nI s).toUInt32 >>> ((nI 1).toUInt32 &&& Int32.toUInt32 31)).toInt32 &&& (nI 1431655765))) &&& (nI 858993459)) + ((((nI s) - (((nI s).toUInt32 >>> ((nI 1).toUInt32 &&& Int32.toUInt32 31)).toInt32 &&& (nI 1431655765))).toUInt32 >>> ((nI 2).toUInt32 &&& Int32.toUInt32 31)).toInt32 &&& (nI 858993459))) + (((((nI s) - (((nI s).toUInt32 >>> ((nI 1).toUInt32 &&& Int32.toUInt32 31)).toInt32 &&& (nI 1431655765))) &&& (nI 858993459)) + ((((nI s) - (((nI s).toUInt32 >>> ((nI 1).toUInt32 &&& Int32.toUInt32 31)).toInt32 &&& (nI 1431655765))).toUInt32 >>> ((nI 2).toUInt32 &&& Int32.toUInt32 31)).toInt32 &&& (nI 858993459))).toUInt32 >>> ((nI 4).toUInt32 &&& Int32.toUInt32 31)).toInt32) &&& (nI 252645135)).toUInt32 >>> ((nI 8).toUInt32 &&& Int32.toUInt32 31)).toInt32).toUInt32 >>> ((nI 16).toUInt32 &&& Int32.toUInt32 31)).toInt32) &&& (nI 63) = nI (ctb (lN s) 60) from bit_fin s hs).symm]) ?_
  exact rtI rt rfl rfl eqP_rf

set_option maxRecDepth 100000 in
set_option maxHeartbeats 4000000 in
theorem sp_max (Y : PS) (I : FI) (J : FJ) (A : FI) (B : FJ) (a b : Nat) (ha : a < 2 ^ 31) (hb : b < 2 ^ 31) : Spec M_J9_max_7cf53 [.int (nI a), .int (nI b)] Y I J A B (eqP (some (.int (nI (max a b)))) Y I J A B) := by
  refine Spec_ofF (by decide +kernel) tk_J9_max_7cf53 (Nat.le_of_ble_eq_true rfl) (fun X g rt => ?_)
  show Sim X Y 0 [(0, .int (nI a)), (1, .int (nI b))] [] I J A B 0 0
  refine S_n g 2 (pc' := 2) (lv' := [(0, .int (nI a)), (1, .int (nI b))]) (st' := [.int (nI b), .int (nI a)]) rfl ?_
  refine S_icN_lt g (tgt := 9) (by omega) (by omega) rfl (by decide) (fun qz2 => ?_) (fun qz2 => ?_)
  · skip
    refine S_n g 1 (pc' := 10) (lv' := [(0, .int (nI a)), (1, .int (nI b))]) (st' := [.int (nI b)]) rfl ?_
    exact rtI rt rfl rfl (by rw [show max a b = b from by omega]; exact eqP_rf)
  · skip
    refine S_n g 2 (pc' := 10) (lv' := [(0, .int (nI a)), (1, .int (nI b))]) (st' := [.int (nI a)]) rfl ?_
    exact rtI rt rfl rfl (by rw [show max a b = a from by omega]; exact eqP_rf)

set_option maxRecDepth 100000 in
set_option maxHeartbeats 4000000 in
theorem sp_min (Y : PS) (I : FI) (J : FJ) (A : FI) (B : FJ) (a b : Nat) (ha : a < 2 ^ 31) (hb : b < 2 ^ 31) : Spec M_J9_min_7cf53 [.int (nI a), .int (nI b)] Y I J A B (eqP (some (.int (nI (min a b)))) Y I J A B) := by
  refine Spec_ofF (by decide +kernel) tk_J9_min_7cf53 (Nat.le_of_ble_eq_true rfl) (fun X g rt => ?_)
  show Sim X Y 0 [(0, .int (nI a)), (1, .int (nI b))] [] I J A B 0 0
  refine S_n g 2 (pc' := 2) (lv' := [(0, .int (nI a)), (1, .int (nI b))]) (st' := [.int (nI b), .int (nI a)]) rfl ?_
  refine S_icN_gt g (tgt := 9) (by omega) (by omega) rfl (by decide) (fun qz2 => ?_) (fun qz2 => ?_)
  · skip
    refine S_n g 1 (pc' := 10) (lv' := [(0, .int (nI a)), (1, .int (nI b))]) (st' := [.int (nI b)]) rfl ?_
    exact rtI rt rfl rfl (by rw [show min a b = b from by omega]; exact eqP_rf)
  · skip
    refine S_n g 2 (pc' := 10) (lv' := [(0, .int (nI a)), (1, .int (nI b))]) (st' := [.int (nI a)]) rfl ?_
    exact rtI rt rfl rfl (by rw [show min a b = a from by omega]; exact eqP_rf)
