/-! the law: its 35 cases, each by its call of both sides -/
theorem Good_tb {X : MX} {M : MI} {tb : TB} (g : Good X M) (h : tbOk M.2.1 tb) : Good X (M.1, M.2.1, M.2.2.1, M.2.2.2.1, M.2.2.2.2.1, tb) := by
  obtain ⟨p, l, e, R, s, m, args, below, meth, c, Q, D, cy, A0, nL⟩ := X
  obtain ⟨hx, hb, hown, hts, hns, hK, hml, hnl, hA, hok, hR⟩ := g
  exact ⟨hx, hb, hown, hts, hns, hK, hml, hnl, hA, h, hR⟩
theorem G_arg {X : MX} {M : MI} {a b : HS} {pc : Nat} {lv : List (Nat × Value)} {st : List Value} {kc n : Nat} (g : Good X M) {sb L : Nat} {xs : Nat → Int32} (hX : Scr X sb L xs) (hL : L < 2 ^ 31) {j : Nat} (t : Nat) (hj : j + t < L) (h4 : stpN M.2.2.1 M.2.2.2.2.2 4 pc lv st = some (pc + 4, lv, .int (nI j + nI t) :: .ref sb :: st)) (hd : fnd M.2.2.2.2.2 (pc + 4) = some (.iaload, 1)) (kk : SimG X a b (pc + 5) lv (.int (xs (j + t)) :: st) kc n) : SimG X a b pc lv st kc n := by
  refine G_n g 4 h4 ?_
  rw [nI_add]
  refine G_sld g hX (vp_in_nI hj hL) hd ?_
  rw [nI_clamp (by omega)]
  exact kk
/-- both sides stand at s -/
def Hd (X : MX) (sb q1 q2 pc i k n : Nat) : Prop := ∀ (s : ST) (ad1 ad2 : Nat → Nat) (I1 : FI) (J1 : FJ) (A1 : FI) (B1 : FJ) (I2 : FI) (J2 : FJ) (A2 : FI) (B2 : FJ), InvM s → InvC s I1 J1 A1 B1 → InvR s I2 J2 A2 B2 → ad1 0 = q1 → ad2 500 = q2 → SimG X (YC ad1 s.2.1.1 s.2.1.2, I1, J1, A1, B1) (YR ad2, I2, J2, A2, B2) pc [(0, .ref sb), (1, .ref q1), (2, .ref q2), (3, .int (nI (4 * i)))] [] k n
section LC
variable {X : MX} {sb L : Nat} {xs : Nat → Int32} {i q1 q2 k n : Nat}
def tb_L_reset : TB := [(188, .aload_n 1, 1), (189, .aload_n 0, 1), (190, .iload_n 3, 1), (191, .iconst 1, 1), (192, .iadd, 1), (193, .iaload, 1), (194, .aload_n 0, 1), (195, .iload_n 3, 1), (196, .iconst 2, 1), (197, .iadd, 1), (198, .iaload, 1), (199, .aload_n 0, 1), (200, .iload_n 3, 1), (201, .iconst 3, 1), (202, .iadd, 1), (203, .iaload, 1), (204, .invokevirtual 13, 3), (207, .aload_n 2, 1), (208, .aload_n 0, 1), (209, .iload_n 3, 1), (210, .iconst 1, 1), (211, .iadd, 1), (212, .iaload, 1), (213, .aload_n 0, 1), (214, .iload_n 3, 1), (215, .iconst 2, 1), (216, .iadd, 1), (217, .iaload, 1), (218, .aload_n 0, 1), (219, .iload_n 3, 1), (220, .iconst 3, 1), (221, .iadd, 1), (222, .iaload, 1), (223, .invokevirtual 17, 3), (226, .if_icmp .eq 841, 3), (229, .iconst 0, 1), (230, .ireturn, 1)]
theorem tk_L_reset : tbOk cL_law tb_L_reset := tbOk_of (by decide +kernel)
theorem L_reset (g : Good X M_L) (hX : Scr X sb L xs) (hL : L < 2 ^ 31) (hi : 4 * i + 4 ≤ L) (hk : k + 37 ≤ 1200000) (hn : n + 1820 ≤ 5502250) (kk : Hd X sb q1 q2 1067 i (k + 37) (n + 1820)) : Hd X sb q1 q2 188 i k n := by
  intro s ad1 ad2 I1 J1 A1 B1 I2 J2 A2 B2 hM hC hR h1 h2
  obtain ⟨v, z, Rel, ⟨x, rfl⟩, oC, oR, hRel⟩ := op_reset hM (xs (4 * i + 1)) (xs (4 * i + 2)) (xs (4 * i + 3))
  subst h1 h2
  have g1 : Good X (yL_law, cL_law, 4, ret, room_1, tb_L_reset) := Good_tb g tk_L_reset
  refine G_n g1 1 (pc' := 189) (lv' := [(0, .ref sb), (1, .ref (ad1 0)), (2, .ref (ad2 500)), (3, .int (nI (4 * i)))]) (st' := [.ref (ad1 0)]) rfl ?_
  refine G_arg (pc := 189) g1 hX hL 1 (by omega) rfl rfl ?_
  refine G_arg (pc := 194) g1 hX hL 2 (by omega) rfl rfl ?_
  refine G_arg (pc := 199) g1 hX hL 3 (by omega) rfl rfl ?_
  refine G_callV (pc := 204) (i := 0) (c := 8) (As := [.int (xs (4 * i + 1)), .int (xs (4 * i + 2)), .int (xs (4 * i + 3))]) (st := []) g1 (oC ad1 I1 J1 A1 B1 hC) mw_X8_reset lk_L_13 ⟨Nat.le_of_ble_eq_true rfl, Nat.le_of_ble_eq_true rfl⟩ (by omega) (by omega) rfl rfl (Nat.le_of_ble_eq_true rfl) ⟨by show k + 0 ≤ 1200000; omega, by show n + 0 ≤ 5502250; omega⟩ rfl ?_
  rintro v' Y' I' J' A' B' ⟨rfl, ⟨ad', rfl, had⟩, hpo⟩
  refine G_sw ?_
  refine G_n g1 1 (pc' := 208) (lv' := [(0, .ref sb), (1, .ref (ad1 0)), (2, .ref (ad2 500)), (3, .int (nI (4 * i)))]) (st' := [.ref (ad2 500), .int x]) rfl ?_
  refine G_arg (pc := 208) g1 hX hL 1 (by omega) rfl rfl ?_
  refine G_arg (pc := 213) g1 hX hL 2 (by omega) rfl rfl ?_
  refine G_arg (pc := 218) g1 hX hL 3 (by omega) rfl rfl ?_
  refine G_callV (pc := 223) (i := 500) (c := 9) (As := [.int (xs (4 * i + 1)), .int (xs (4 * i + 2)), .int (xs (4 * i + 3))]) (st := [.int x]) g1 (oR ad2 I2 J2 A2 B2 hR) mw_X9_reset lk_L_17 ⟨Nat.le_of_ble_eq_true rfl, Nat.le_of_ble_eq_true rfl⟩ (by omega) (by omega) rfl rfl (Nat.le_of_ble_eq_true rfl) ⟨by show k + 0 + 0 ≤ 1200000; omega, by show n + 0 + 0 ≤ 5502250; omega⟩ rfl ?_
  rintro v2 Y2 I3 J3 A3 B3 ⟨rfl, rfl, s', hs, hin⟩
  refine G_sw ?_
  obtain ⟨hM', rfl⟩ := hRel s' hs
  refine G_ic_eq (pc := 226) (tgt := 1067) g1 rfl rfl rfl ?_
  refine G_wd (k' := k + 37) (n' := n + 1820) (by show k + 0 + 0 ≤ k + 37; omega) (by show n + 0 + 0 ≤ n + 1820; omega) ?_
  exact kk s' ad' ad2 _ _ _ _ _ _ _ _ hM' (hpo s' hs) hin had rfl
def tb_L_setContent : TB := [(231, .aload_n 1, 1), (232, .aload_n 0, 1), (233, .iload_n 3, 1), (234, .iconst 1, 1), (235, .iadd, 1), (236, .iaload, 1), (237, .aload_n 0, 1), (238, .iload_n 3, 1), (239, .iconst 2, 1), (240, .iadd, 1), (241, .iaload, 1), (242, .invokevirtual 18, 3), (245, .aload_n 2, 1), (246, .aload_n 0, 1), (247, .iload_n 3, 1), (248, .iconst 1, 1), (249, .iadd, 1), (250, .iaload, 1), (251, .aload_n 0, 1), (252, .iload_n 3, 1), (253, .iconst 2, 1), (254, .iadd, 1), (255, .iaload, 1), (256, .invokevirtual 22, 3), (259, .if_icmp .eq 808, 3), (262, .iconst 0, 1), (263, .ireturn, 1)]
theorem tk_L_setContent : tbOk cL_law tb_L_setContent := tbOk_of (by decide +kernel)
theorem L_setContent (g : Good X M_L) (hX : Scr X sb L xs) (hL : L < 2 ^ 31) (hi : 4 * i + 4 ≤ L) (hk : k + 37 ≤ 1200000) (hn : n + 1820 ≤ 5502250) (kk : Hd X sb q1 q2 1067 i (k + 37) (n + 1820)) : Hd X sb q1 q2 231 i k n := by
  intro s ad1 ad2 I1 J1 A1 B1 I2 J2 A2 B2 hM hC hR h1 h2
  obtain ⟨v, z, Rel, ⟨x, rfl⟩, oC, oR, hRel⟩ := op_setContent hM (xs (4 * i + 1)) (xs (4 * i + 2))
  subst h1 h2
  have g1 : Good X (yL_law, cL_law, 4, ret, room_1, tb_L_setContent) := Good_tb g tk_L_setContent
  refine G_n g1 1 (pc' := 232) (lv' := [(0, .ref sb), (1, .ref (ad1 0)), (2, .ref (ad2 500)), (3, .int (nI (4 * i)))]) (st' := [.ref (ad1 0)]) rfl ?_
  refine G_arg (pc := 232) g1 hX hL 1 (by omega) rfl rfl ?_
  refine G_arg (pc := 237) g1 hX hL 2 (by omega) rfl rfl ?_
  refine G_callV (pc := 242) (i := 0) (c := 8) (As := [.int (xs (4 * i + 1)), .int (xs (4 * i + 2))]) (st := []) g1 (oC ad1 I1 J1 A1 B1 hC) mw_X8_setContent lk_L_18 ⟨Nat.le_of_ble_eq_true rfl, Nat.le_of_ble_eq_true rfl⟩ (by omega) (by omega) rfl rfl (Nat.le_of_ble_eq_true rfl) ⟨by show k + 0 ≤ 1200000; omega, by show n + 0 ≤ 5502250; omega⟩ rfl ?_
  rintro v' Y' I' J' A' B' ⟨rfl, ⟨ad', rfl, had⟩, hpo⟩
  refine G_sw ?_
  refine G_n g1 1 (pc' := 246) (lv' := [(0, .ref sb), (1, .ref (ad1 0)), (2, .ref (ad2 500)), (3, .int (nI (4 * i)))]) (st' := [.ref (ad2 500), .int x]) rfl ?_
  refine G_arg (pc := 246) g1 hX hL 1 (by omega) rfl rfl ?_
  refine G_arg (pc := 251) g1 hX hL 2 (by omega) rfl rfl ?_
  refine G_callV (pc := 256) (i := 500) (c := 9) (As := [.int (xs (4 * i + 1)), .int (xs (4 * i + 2))]) (st := [.int x]) g1 (oR ad2 I2 J2 A2 B2 hR) mw_X9_setContent lk_L_22 ⟨Nat.le_of_ble_eq_true rfl, Nat.le_of_ble_eq_true rfl⟩ (by omega) (by omega) rfl rfl (Nat.le_of_ble_eq_true rfl) ⟨by show k + 0 + 0 ≤ 1200000; omega, by show n + 0 + 0 ≤ 5502250; omega⟩ rfl ?_
  rintro v2 Y2 I3 J3 A3 B3 ⟨rfl, rfl, s', hs, hin⟩
  refine G_sw ?_
  obtain ⟨hM', rfl⟩ := hRel s' hs
  refine G_ic_eq (pc := 259) (tgt := 1067) g1 rfl rfl rfl ?_
  refine G_wd (k' := k + 37) (n' := n + 1820) (by show k + 0 + 0 ≤ k + 37; omega) (by show n + 0 + 0 ≤ n + 1820; omega) ?_
  exact kk s' ad' ad2 _ _ _ _ _ _ _ _ hM' (hpo s' hs) hin had rfl
def tb_L_store : TB := [(264, .aload_n 1, 1), (265, .aload_n 0, 1), (266, .iload_n 3, 1), (267, .iconst 1, 1), (268, .iadd, 1), (269, .iaload, 1), (270, .aload_n 0, 1), (271, .iload_n 3, 1), (272, .iconst 2, 1), (273, .iadd, 1), (274, .iaload, 1), (275, .invokevirtual 23, 3), (278, .aload_n 2, 1), (279, .aload_n 0, 1), (280, .iload_n 3, 1), (281, .iconst 1, 1), (282, .iadd, 1), (283, .iaload, 1), (284, .aload_n 0, 1), (285, .iload_n 3, 1), (286, .iconst 2, 1), (287, .iadd, 1), (288, .iaload, 1), (289, .invokevirtual 26, 3), (292, .if_icmp .eq 775, 3), (295, .iconst 0, 1), (296, .ireturn, 1)]
theorem tk_L_store : tbOk cL_law tb_L_store := tbOk_of (by decide +kernel)
theorem L_store (g : Good X M_L) (hX : Scr X sb L xs) (hL : L < 2 ^ 31) (hi : 4 * i + 4 ≤ L) (hk : k + 37 ≤ 1200000) (hn : n + 1820 ≤ 5502250) (kk : Hd X sb q1 q2 1067 i (k + 37) (n + 1820)) : Hd X sb q1 q2 264 i k n := by
  intro s ad1 ad2 I1 J1 A1 B1 I2 J2 A2 B2 hM hC hR h1 h2
  obtain ⟨v, z, Rel, ⟨x, rfl⟩, oC, oR, hRel⟩ := op_store hM (xs (4 * i + 1)) (xs (4 * i + 2))
  subst h1 h2
  have g1 : Good X (yL_law, cL_law, 4, ret, room_1, tb_L_store) := Good_tb g tk_L_store
  refine G_n g1 1 (pc' := 265) (lv' := [(0, .ref sb), (1, .ref (ad1 0)), (2, .ref (ad2 500)), (3, .int (nI (4 * i)))]) (st' := [.ref (ad1 0)]) rfl ?_
  refine G_arg (pc := 265) g1 hX hL 1 (by omega) rfl rfl ?_
  refine G_arg (pc := 270) g1 hX hL 2 (by omega) rfl rfl ?_
  refine G_callV (pc := 275) (i := 0) (c := 8) (As := [.int (xs (4 * i + 1)), .int (xs (4 * i + 2))]) (st := []) g1 (oC ad1 I1 J1 A1 B1 hC) mw_X8_store lk_L_23 ⟨Nat.le_of_ble_eq_true rfl, Nat.le_of_ble_eq_true rfl⟩ (by omega) (by omega) rfl rfl (Nat.le_of_ble_eq_true rfl) ⟨by show k + 0 ≤ 1200000; omega, by show n + 0 ≤ 5502250; omega⟩ rfl ?_
  rintro v' Y' I' J' A' B' ⟨rfl, ⟨ad', rfl, had⟩, hpo⟩
  refine G_sw ?_
  refine G_n g1 1 (pc' := 279) (lv' := [(0, .ref sb), (1, .ref (ad1 0)), (2, .ref (ad2 500)), (3, .int (nI (4 * i)))]) (st' := [.ref (ad2 500), .int x]) rfl ?_
  refine G_arg (pc := 279) g1 hX hL 1 (by omega) rfl rfl ?_
  refine G_arg (pc := 284) g1 hX hL 2 (by omega) rfl rfl ?_
  refine G_callV (pc := 289) (i := 500) (c := 9) (As := [.int (xs (4 * i + 1)), .int (xs (4 * i + 2))]) (st := [.int x]) g1 (oR ad2 I2 J2 A2 B2 hR) mw_X9_store lk_L_26 ⟨Nat.le_of_ble_eq_true rfl, Nat.le_of_ble_eq_true rfl⟩ (by omega) (by omega) rfl rfl (Nat.le_of_ble_eq_true rfl) ⟨by show k + 0 + 0 ≤ 1200000; omega, by show n + 0 + 0 ≤ 5502250; omega⟩ rfl ?_
  rintro v2 Y2 I3 J3 A3 B3 ⟨rfl, rfl, s', hs, hin⟩
  refine G_sw ?_
  obtain ⟨hM', rfl⟩ := hRel s' hs
  refine G_ic_eq (pc := 292) (tgt := 1067) g1 rfl rfl rfl ?_
  refine G_wd (k' := k + 37) (n' := n + 1820) (by show k + 0 + 0 ≤ k + 37; omega) (by show n + 0 + 0 ≤ n + 1820; omega) ?_
  exact kk s' ad' ad2 _ _ _ _ _ _ _ _ hM' (hpo s' hs) hin had rfl
def tb_L_drop : TB := [(297, .aload_n 1, 1), (298, .aload_n 0, 1), (299, .iload_n 3, 1), (300, .iconst 1, 1), (301, .iadd, 1), (302, .iaload, 1), (303, .aload_n 0, 1), (304, .iload_n 3, 1), (305, .iconst 2, 1), (306, .iadd, 1), (307, .iaload, 1), (308, .invokevirtual 27, 3), (311, .aload_n 2, 1), (312, .aload_n 0, 1), (313, .iload_n 3, 1), (314, .iconst 1, 1), (315, .iadd, 1), (316, .iaload, 1), (317, .aload_n 0, 1), (318, .iload_n 3, 1), (319, .iconst 2, 1), (320, .iadd, 1), (321, .iaload, 1), (322, .invokevirtual 30, 3), (325, .if_icmp .eq 742, 3), (328, .iconst 0, 1), (329, .ireturn, 1)]
theorem tk_L_drop : tbOk cL_law tb_L_drop := tbOk_of (by decide +kernel)
theorem L_drop (g : Good X M_L) (hX : Scr X sb L xs) (hL : L < 2 ^ 31) (hi : 4 * i + 4 ≤ L) (hk : k + 37 ≤ 1200000) (hn : n + 1820 ≤ 5502250) (kk : Hd X sb q1 q2 1067 i (k + 37) (n + 1820)) : Hd X sb q1 q2 297 i k n := by
  intro s ad1 ad2 I1 J1 A1 B1 I2 J2 A2 B2 hM hC hR h1 h2
  obtain ⟨v, z, Rel, ⟨x, rfl⟩, oC, oR, hRel⟩ := op_drop hM (xs (4 * i + 1)) (xs (4 * i + 2))
  subst h1 h2
  have g1 : Good X (yL_law, cL_law, 4, ret, room_1, tb_L_drop) := Good_tb g tk_L_drop
  refine G_n g1 1 (pc' := 298) (lv' := [(0, .ref sb), (1, .ref (ad1 0)), (2, .ref (ad2 500)), (3, .int (nI (4 * i)))]) (st' := [.ref (ad1 0)]) rfl ?_
  refine G_arg (pc := 298) g1 hX hL 1 (by omega) rfl rfl ?_
  refine G_arg (pc := 303) g1 hX hL 2 (by omega) rfl rfl ?_
  refine G_callV (pc := 308) (i := 0) (c := 8) (As := [.int (xs (4 * i + 1)), .int (xs (4 * i + 2))]) (st := []) g1 (oC ad1 I1 J1 A1 B1 hC) mw_X8_drop lk_L_27 ⟨Nat.le_of_ble_eq_true rfl, Nat.le_of_ble_eq_true rfl⟩ (by omega) (by omega) rfl rfl (Nat.le_of_ble_eq_true rfl) ⟨by show k + 0 ≤ 1200000; omega, by show n + 0 ≤ 5502250; omega⟩ rfl ?_
  rintro v' Y' I' J' A' B' ⟨rfl, ⟨ad', rfl, had⟩, hpo⟩
  refine G_sw ?_
  refine G_n g1 1 (pc' := 312) (lv' := [(0, .ref sb), (1, .ref (ad1 0)), (2, .ref (ad2 500)), (3, .int (nI (4 * i)))]) (st' := [.ref (ad2 500), .int x]) rfl ?_
  refine G_arg (pc := 312) g1 hX hL 1 (by omega) rfl rfl ?_
  refine G_arg (pc := 317) g1 hX hL 2 (by omega) rfl rfl ?_
  refine G_callV (pc := 322) (i := 500) (c := 9) (As := [.int (xs (4 * i + 1)), .int (xs (4 * i + 2))]) (st := [.int x]) g1 (oR ad2 I2 J2 A2 B2 hR) mw_X9_drop lk_L_30 ⟨Nat.le_of_ble_eq_true rfl, Nat.le_of_ble_eq_true rfl⟩ (by omega) (by omega) rfl rfl (Nat.le_of_ble_eq_true rfl) ⟨by show k + 0 + 0 ≤ 1200000; omega, by show n + 0 + 0 ≤ 5502250; omega⟩ rfl ?_
  rintro v2 Y2 I3 J3 A3 B3 ⟨rfl, rfl, s', hs, hin⟩
  refine G_sw ?_
  obtain ⟨hM', rfl⟩ := hRel s' hs
  refine G_ic_eq (pc := 325) (tgt := 1067) g1 rfl rfl rfl ?_
  refine G_wd (k' := k + 37) (n' := n + 1820) (by show k + 0 + 0 ≤ k + 37; omega) (by show n + 0 + 0 ≤ n + 1820; omega) ?_
  exact kk s' ad' ad2 _ _ _ _ _ _ _ _ hM' (hpo s' hs) hin had rfl
def tb_L_storeSubsets : TB := [(330, .aload_n 1, 1), (331, .aload_n 0, 1), (332, .iload_n 3, 1), (333, .iconst 1, 1), (334, .iadd, 1), (335, .iaload, 1), (336, .invokevirtual 31, 3), (339, .aload_n 2, 1), (340, .aload_n 0, 1), (341, .iload_n 3, 1), (342, .iconst 1, 1), (343, .iadd, 1), (344, .iaload, 1), (345, .invokevirtual 35, 3), (348, .if_icmp .eq 719, 3), (351, .iconst 0, 1), (352, .ireturn, 1)]
theorem tk_L_storeSubsets : tbOk cL_law tb_L_storeSubsets := tbOk_of (by decide +kernel)
theorem L_storeSubsets (g : Good X M_L) (hX : Scr X sb L xs) (hL : L < 2 ^ 31) (hi : 4 * i + 4 ≤ L) (hk : k + 37 ≤ 1200000) (hn : n + 1820 ≤ 5502250) (kk : Hd X sb q1 q2 1067 i (k + 37) (n + 1820)) : Hd X sb q1 q2 330 i k n := by
  intro s ad1 ad2 I1 J1 A1 B1 I2 J2 A2 B2 hM hC hR h1 h2
  obtain ⟨v, z, Rel, ⟨x, rfl⟩, oC, oR, hRel⟩ := op_storeSubsets hM (xs (4 * i + 1))
  subst h1 h2
  have g1 : Good X (yL_law, cL_law, 4, ret, room_1, tb_L_storeSubsets) := Good_tb g tk_L_storeSubsets
  refine G_n g1 1 (pc' := 331) (lv' := [(0, .ref sb), (1, .ref (ad1 0)), (2, .ref (ad2 500)), (3, .int (nI (4 * i)))]) (st' := [.ref (ad1 0)]) rfl ?_
  refine G_arg (pc := 331) g1 hX hL 1 (by omega) rfl rfl ?_
  refine G_callV (pc := 336) (i := 0) (c := 8) (As := [.int (xs (4 * i + 1))]) (st := []) g1 (oC ad1 I1 J1 A1 B1 hC) mw_X8_storeSubsets lk_L_31 ⟨Nat.le_of_ble_eq_true rfl, Nat.le_of_ble_eq_true rfl⟩ (by omega) (by omega) rfl rfl (Nat.le_of_ble_eq_true rfl) ⟨by show k + 0 ≤ 1200000; omega, by show n + 0 ≤ 5502250; omega⟩ rfl ?_
  rintro v' Y' I' J' A' B' ⟨rfl, ⟨ad', rfl, had⟩, hpo⟩
  refine G_sw ?_
  refine G_n g1 1 (pc' := 340) (lv' := [(0, .ref sb), (1, .ref (ad1 0)), (2, .ref (ad2 500)), (3, .int (nI (4 * i)))]) (st' := [.ref (ad2 500), .int x]) rfl ?_
  refine G_arg (pc := 340) g1 hX hL 1 (by omega) rfl rfl ?_
  refine G_callV (pc := 345) (i := 500) (c := 9) (As := [.int (xs (4 * i + 1))]) (st := [.int x]) g1 (oR ad2 I2 J2 A2 B2 hR) mw_X9_storeSubsets lk_L_35 ⟨Nat.le_of_ble_eq_true rfl, Nat.le_of_ble_eq_true rfl⟩ (by omega) (by omega) rfl rfl (Nat.le_of_ble_eq_true rfl) ⟨by show k + 0 + 0 ≤ 1200000; omega, by show n + 0 + 0 ≤ 5502250; omega⟩ rfl ?_
  rintro v2 Y2 I3 J3 A3 B3 ⟨rfl, rfl, s', hs, hin⟩
  refine G_sw ?_
  obtain ⟨hM', rfl⟩ := hRel s' hs
  refine G_ic_eq (pc := 348) (tgt := 1067) g1 rfl rfl rfl ?_
  refine G_wd (k' := k + 37) (n' := n + 1820) (by show k + 0 + 0 ≤ k + 37; omega) (by show n + 0 + 0 ≤ n + 1820; omega) ?_
  exact kk s' ad' ad2 _ _ _ _ _ _ _ _ hM' (hpo s' hs) hin had rfl
def tb_L_storeRandom : TB := [(353, .aload_n 1, 1), (354, .aload_n 0, 1), (355, .iload_n 3, 1), (356, .iconst 1, 1), (357, .iadd, 1), (358, .iaload, 1), (359, .invokevirtual 36, 3), (362, .aload_n 2, 1), (363, .aload_n 0, 1), (364, .iload_n 3, 1), (365, .iconst 1, 1), (366, .iadd, 1), (367, .iaload, 1), (368, .invokevirtual 39, 3), (371, .if_icmp .eq 696, 3), (374, .iconst 0, 1), (375, .ireturn, 1)]
theorem tk_L_storeRandom : tbOk cL_law tb_L_storeRandom := tbOk_of (by decide +kernel)
theorem L_storeRandom (g : Good X M_L) (hX : Scr X sb L xs) (hL : L < 2 ^ 31) (hi : 4 * i + 4 ≤ L) (hk : k + 37 ≤ 1200000) (hn : n + 1820 ≤ 5502250) (kk : Hd X sb q1 q2 1067 i (k + 37) (n + 1820)) : Hd X sb q1 q2 353 i k n := by
  intro s ad1 ad2 I1 J1 A1 B1 I2 J2 A2 B2 hM hC hR h1 h2
  obtain ⟨v, z, Rel, ⟨x, rfl⟩, oC, oR, hRel⟩ := op_storeRandom hM (xs (4 * i + 1))
  subst h1 h2
  have g1 : Good X (yL_law, cL_law, 4, ret, room_1, tb_L_storeRandom) := Good_tb g tk_L_storeRandom
  refine G_n g1 1 (pc' := 354) (lv' := [(0, .ref sb), (1, .ref (ad1 0)), (2, .ref (ad2 500)), (3, .int (nI (4 * i)))]) (st' := [.ref (ad1 0)]) rfl ?_
  refine G_arg (pc := 354) g1 hX hL 1 (by omega) rfl rfl ?_
  refine G_callV (pc := 359) (i := 0) (c := 8) (As := [.int (xs (4 * i + 1))]) (st := []) g1 (oC ad1 I1 J1 A1 B1 hC) mw_X8_storeRandom lk_L_36 ⟨Nat.le_of_ble_eq_true rfl, Nat.le_of_ble_eq_true rfl⟩ (by omega) (by omega) rfl rfl (Nat.le_of_ble_eq_true rfl) ⟨by show k + 0 ≤ 1200000; omega, by show n + 0 ≤ 5502250; omega⟩ rfl ?_
  rintro v' Y' I' J' A' B' ⟨rfl, ⟨ad', rfl, had⟩, hpo⟩
  refine G_sw ?_
  refine G_n g1 1 (pc' := 363) (lv' := [(0, .ref sb), (1, .ref (ad1 0)), (2, .ref (ad2 500)), (3, .int (nI (4 * i)))]) (st' := [.ref (ad2 500), .int x]) rfl ?_
  refine G_arg (pc := 363) g1 hX hL 1 (by omega) rfl rfl ?_
  refine G_callV (pc := 368) (i := 500) (c := 9) (As := [.int (xs (4 * i + 1))]) (st := [.int x]) g1 (oR ad2 I2 J2 A2 B2 hR) mw_X9_storeRandom lk_L_39 ⟨Nat.le_of_ble_eq_true rfl, Nat.le_of_ble_eq_true rfl⟩ (by omega) (by omega) rfl rfl (Nat.le_of_ble_eq_true rfl) ⟨by show k + 0 + 0 ≤ 1200000; omega, by show n + 0 + 0 ≤ 5502250; omega⟩ rfl ?_
  rintro v2 Y2 I3 J3 A3 B3 ⟨rfl, rfl, s', hs, hin⟩
  refine G_sw ?_
  obtain ⟨hM', rfl⟩ := hRel s' hs
  refine G_ic_eq (pc := 371) (tgt := 1067) g1 rfl rfl rfl ?_
  refine G_wd (k' := k + 37) (n' := n + 1820) (by show k + 0 + 0 ≤ k + 37; omega) (by show n + 0 + 0 ≤ n + 1820; omega) ?_
  exact kk s' ad' ad2 _ _ _ _ _ _ _ _ hM' (hpo s' hs) hin had rfl
def tb_L_plan : TB := [(376, .aload_n 1, 1), (377, .aload_n 0, 1), (378, .iload_n 3, 1), (379, .iconst 1, 1), (380, .iadd, 1), (381, .iaload, 1), (382, .aload_n 0, 1), (383, .iload_n 3, 1), (384, .iconst 2, 1), (385, .iadd, 1), (386, .iaload, 1), (387, .aload_n 0, 1), (388, .iload_n 3, 1), (389, .iconst 3, 1), (390, .iadd, 1), (391, .iaload, 1), (392, .invokevirtual 40, 3), (395, .aload_n 2, 1), (396, .aload_n 0, 1), (397, .iload_n 3, 1), (398, .iconst 1, 1), (399, .iadd, 1), (400, .iaload, 1), (401, .aload_n 0, 1), (402, .iload_n 3, 1), (403, .iconst 2, 1), (404, .iadd, 1), (405, .iaload, 1), (406, .aload_n 0, 1), (407, .iload_n 3, 1), (408, .iconst 3, 1), (409, .iadd, 1), (410, .iaload, 1), (411, .invokevirtual 43, 3), (414, .if_icmp .eq 653, 3), (417, .iconst 0, 1), (418, .ireturn, 1)]
theorem tk_L_plan : tbOk cL_law tb_L_plan := tbOk_of (by decide +kernel)
theorem L_plan (g : Good X M_L) (hX : Scr X sb L xs) (hL : L < 2 ^ 31) (hi : 4 * i + 4 ≤ L) (hk : k + 37 ≤ 1200000) (hn : n + 1820 ≤ 5502250) (kk : Hd X sb q1 q2 1067 i (k + 37) (n + 1820)) : Hd X sb q1 q2 376 i k n := by
  intro s ad1 ad2 I1 J1 A1 B1 I2 J2 A2 B2 hM hC hR h1 h2
  obtain ⟨v, z, Rel, ⟨x, rfl⟩, oC, oR, hRel⟩ := op_plan hM (xs (4 * i + 1)) (xs (4 * i + 2)) (xs (4 * i + 3))
  subst h1 h2
  have g1 : Good X (yL_law, cL_law, 4, ret, room_1, tb_L_plan) := Good_tb g tk_L_plan
  refine G_n g1 1 (pc' := 377) (lv' := [(0, .ref sb), (1, .ref (ad1 0)), (2, .ref (ad2 500)), (3, .int (nI (4 * i)))]) (st' := [.ref (ad1 0)]) rfl ?_
  refine G_arg (pc := 377) g1 hX hL 1 (by omega) rfl rfl ?_
  refine G_arg (pc := 382) g1 hX hL 2 (by omega) rfl rfl ?_
  refine G_arg (pc := 387) g1 hX hL 3 (by omega) rfl rfl ?_
  refine G_callV (pc := 392) (i := 0) (c := 8) (As := [.int (xs (4 * i + 1)), .int (xs (4 * i + 2)), .int (xs (4 * i + 3))]) (st := []) g1 (oC ad1 I1 J1 A1 B1 hC) mw_X8_plan lk_L_40 ⟨Nat.le_of_ble_eq_true rfl, Nat.le_of_ble_eq_true rfl⟩ (by omega) (by omega) rfl rfl (Nat.le_of_ble_eq_true rfl) ⟨by show k + 0 ≤ 1200000; omega, by show n + 0 ≤ 5502250; omega⟩ rfl ?_
  rintro v' Y' I' J' A' B' ⟨rfl, ⟨ad', rfl, had⟩, hpo⟩
  refine G_sw ?_
  refine G_n g1 1 (pc' := 396) (lv' := [(0, .ref sb), (1, .ref (ad1 0)), (2, .ref (ad2 500)), (3, .int (nI (4 * i)))]) (st' := [.ref (ad2 500), .int x]) rfl ?_
  refine G_arg (pc := 396) g1 hX hL 1 (by omega) rfl rfl ?_
  refine G_arg (pc := 401) g1 hX hL 2 (by omega) rfl rfl ?_
  refine G_arg (pc := 406) g1 hX hL 3 (by omega) rfl rfl ?_
  refine G_callV (pc := 411) (i := 500) (c := 9) (As := [.int (xs (4 * i + 1)), .int (xs (4 * i + 2)), .int (xs (4 * i + 3))]) (st := [.int x]) g1 (oR ad2 I2 J2 A2 B2 hR) mw_X9_plan lk_L_43 ⟨Nat.le_of_ble_eq_true rfl, Nat.le_of_ble_eq_true rfl⟩ (by omega) (by omega) rfl rfl (Nat.le_of_ble_eq_true rfl) ⟨by show k + 0 + 0 ≤ 1200000; omega, by show n + 0 + 0 ≤ 5502250; omega⟩ rfl ?_
  rintro v2 Y2 I3 J3 A3 B3 ⟨rfl, rfl, s', hs, hin⟩
  refine G_sw ?_
  obtain ⟨hM', rfl⟩ := hRel s' hs
  refine G_ic_eq (pc := 414) (tgt := 1067) g1 rfl rfl rfl ?_
  refine G_wd (k' := k + 37) (n' := n + 1820) (by show k + 0 + 0 ≤ k + 37; omega) (by show n + 0 + 0 ≤ n + 1820; omega) ?_
  exact kk s' ad' ad2 _ _ _ _ _ _ _ _ hM' (hpo s' hs) hin had rfl
def tb_L_idle : TB := [(419, .aload_n 1, 1), (420, .aload_n 0, 1), (421, .iload_n 3, 1), (422, .iconst 1, 1), (423, .iadd, 1), (424, .iaload, 1), (425, .invokevirtual 44, 3), (428, .aload_n 2, 1), (429, .aload_n 0, 1), (430, .iload_n 3, 1), (431, .iconst 1, 1), (432, .iadd, 1), (433, .iaload, 1), (434, .invokevirtual 47, 3), (437, .if_icmp .eq 630, 3), (440, .iconst 0, 1), (441, .ireturn, 1)]
theorem tk_L_idle : tbOk cL_law tb_L_idle := tbOk_of (by decide +kernel)
theorem L_idle (g : Good X M_L) (hX : Scr X sb L xs) (hL : L < 2 ^ 31) (hi : 4 * i + 4 ≤ L) (hk : k + 37 ≤ 1200000) (hn : n + 1820 ≤ 5502250) (kk : Hd X sb q1 q2 1067 i (k + 37) (n + 1820)) : Hd X sb q1 q2 419 i k n := by
  intro s ad1 ad2 I1 J1 A1 B1 I2 J2 A2 B2 hM hC hR h1 h2
  obtain ⟨v, z, Rel, ⟨x, rfl⟩, oC, oR, hRel⟩ := op_idle hM (xs (4 * i + 1))
  subst h1 h2
  have g1 : Good X (yL_law, cL_law, 4, ret, room_1, tb_L_idle) := Good_tb g tk_L_idle
  refine G_n g1 1 (pc' := 420) (lv' := [(0, .ref sb), (1, .ref (ad1 0)), (2, .ref (ad2 500)), (3, .int (nI (4 * i)))]) (st' := [.ref (ad1 0)]) rfl ?_
  refine G_arg (pc := 420) g1 hX hL 1 (by omega) rfl rfl ?_
  refine G_callV (pc := 425) (i := 0) (c := 8) (As := [.int (xs (4 * i + 1))]) (st := []) g1 (oC ad1 I1 J1 A1 B1 hC) mw_X8_idle lk_L_44 ⟨Nat.le_of_ble_eq_true rfl, Nat.le_of_ble_eq_true rfl⟩ (by omega) (by omega) rfl rfl (Nat.le_of_ble_eq_true rfl) ⟨by show k + 0 ≤ 1200000; omega, by show n + 0 ≤ 5502250; omega⟩ rfl ?_
  rintro v' Y' I' J' A' B' ⟨rfl, ⟨ad', rfl, had⟩, hpo⟩
  refine G_sw ?_
  refine G_n g1 1 (pc' := 429) (lv' := [(0, .ref sb), (1, .ref (ad1 0)), (2, .ref (ad2 500)), (3, .int (nI (4 * i)))]) (st' := [.ref (ad2 500), .int x]) rfl ?_
  refine G_arg (pc := 429) g1 hX hL 1 (by omega) rfl rfl ?_
  refine G_callV (pc := 434) (i := 500) (c := 9) (As := [.int (xs (4 * i + 1))]) (st := [.int x]) g1 (oR ad2 I2 J2 A2 B2 hR) mw_X9_idle lk_L_47 ⟨Nat.le_of_ble_eq_true rfl, Nat.le_of_ble_eq_true rfl⟩ (by omega) (by omega) rfl rfl (Nat.le_of_ble_eq_true rfl) ⟨by show k + 0 + 0 ≤ 1200000; omega, by show n + 0 + 0 ≤ 5502250; omega⟩ rfl ?_
  rintro v2 Y2 I3 J3 A3 B3 ⟨rfl, rfl, s', hs, hin⟩
  refine G_sw ?_
  obtain ⟨hM', rfl⟩ := hRel s' hs
  refine G_ic_eq (pc := 437) (tgt := 1067) g1 rfl rfl rfl ?_
  refine G_wd (k' := k + 37) (n' := n + 1820) (by show k + 0 + 0 ≤ k + 37; omega) (by show n + 0 + 0 ≤ n + 1820; omega) ?_
  exact kk s' ad' ad2 _ _ _ _ _ _ _ _ hM' (hpo s' hs) hin had rfl
def tb_L_cached : TB := [(442, .aload_n 1, 1), (443, .aload_n 0, 1), (444, .iload_n 3, 1), (445, .iconst 1, 1), (446, .iadd, 1), (447, .iaload, 1), (448, .aload_n 0, 1), (449, .iload_n 3, 1), (450, .iconst 2, 1), (451, .iadd, 1), (452, .iaload, 1), (453, .invokevirtual 48, 3), (456, .aload_n 2, 1), (457, .aload_n 0, 1), (458, .iload_n 3, 1), (459, .iconst 1, 1), (460, .iadd, 1), (461, .iaload, 1), (462, .aload_n 0, 1), (463, .iload_n 3, 1), (464, .iconst 2, 1), (465, .iadd, 1), (466, .iaload, 1), (467, .invokevirtual 51, 3), (470, .if_icmp .eq 597, 3), (473, .iconst 0, 1), (474, .ireturn, 1)]
theorem tk_L_cached : tbOk cL_law tb_L_cached := tbOk_of (by decide +kernel)
theorem L_cached (g : Good X M_L) (hX : Scr X sb L xs) (hL : L < 2 ^ 31) (hi : 4 * i + 4 ≤ L) (hk : k + 37 ≤ 1200000) (hn : n + 1820 ≤ 5502250) (kk : Hd X sb q1 q2 1067 i (k + 37) (n + 1820)) : Hd X sb q1 q2 442 i k n := by
  intro s ad1 ad2 I1 J1 A1 B1 I2 J2 A2 B2 hM hC hR h1 h2
  obtain ⟨v, z, Rel, ⟨x, rfl⟩, oC, oR, hRel⟩ := op_cached hM (xs (4 * i + 1)) (xs (4 * i + 2))
  subst h1 h2
  have g1 : Good X (yL_law, cL_law, 4, ret, room_1, tb_L_cached) := Good_tb g tk_L_cached
  refine G_n g1 1 (pc' := 443) (lv' := [(0, .ref sb), (1, .ref (ad1 0)), (2, .ref (ad2 500)), (3, .int (nI (4 * i)))]) (st' := [.ref (ad1 0)]) rfl ?_
  refine G_arg (pc := 443) g1 hX hL 1 (by omega) rfl rfl ?_
  refine G_arg (pc := 448) g1 hX hL 2 (by omega) rfl rfl ?_
  refine G_callV (pc := 453) (i := 0) (c := 8) (As := [.int (xs (4 * i + 1)), .int (xs (4 * i + 2))]) (st := []) g1 (oC ad1 I1 J1 A1 B1 hC) mw_X8_cached lk_L_48 ⟨Nat.le_of_ble_eq_true rfl, Nat.le_of_ble_eq_true rfl⟩ (by omega) (by omega) rfl rfl (Nat.le_of_ble_eq_true rfl) ⟨by show k + 0 ≤ 1200000; omega, by show n + 0 ≤ 5502250; omega⟩ rfl ?_
  rintro v' Y' I' J' A' B' ⟨rfl, ⟨ad', rfl, had⟩, hpo⟩
  refine G_sw ?_
  refine G_n g1 1 (pc' := 457) (lv' := [(0, .ref sb), (1, .ref (ad1 0)), (2, .ref (ad2 500)), (3, .int (nI (4 * i)))]) (st' := [.ref (ad2 500), .int x]) rfl ?_
  refine G_arg (pc := 457) g1 hX hL 1 (by omega) rfl rfl ?_
  refine G_arg (pc := 462) g1 hX hL 2 (by omega) rfl rfl ?_
  refine G_callV (pc := 467) (i := 500) (c := 9) (As := [.int (xs (4 * i + 1)), .int (xs (4 * i + 2))]) (st := [.int x]) g1 (oR ad2 I2 J2 A2 B2 hR) mw_X9_cached lk_L_51 ⟨Nat.le_of_ble_eq_true rfl, Nat.le_of_ble_eq_true rfl⟩ (by omega) (by omega) rfl rfl (Nat.le_of_ble_eq_true rfl) ⟨by show k + 0 + 0 ≤ 1200000; omega, by show n + 0 + 0 ≤ 5502250; omega⟩ rfl ?_
  rintro v2 Y2 I3 J3 A3 B3 ⟨rfl, rfl, s', hs, hin⟩
  refine G_sw ?_
  obtain ⟨hM', rfl⟩ := hRel s' hs
  refine G_ic_eq (pc := 470) (tgt := 1067) g1 rfl rfl rfl ?_
  refine G_wd (k' := k + 37) (n' := n + 1820) (by show k + 0 + 0 ≤ k + 37; omega) (by show n + 0 + 0 ≤ n + 1820; omega) ?_
  exact kk s' ad' ad2 _ _ _ _ _ _ _ _ hM' (hpo s' hs) hin had rfl
def tb_L_want : TB := [(475, .aload_n 1, 1), (476, .aload_n 0, 1), (477, .iload_n 3, 1), (478, .iconst 1, 1), (479, .iadd, 1), (480, .iaload, 1), (481, .aload_n 0, 1), (482, .iload_n 3, 1), (483, .iconst 2, 1), (484, .iadd, 1), (485, .iaload, 1), (486, .invokevirtual 52, 3), (489, .aload_n 2, 1), (490, .aload_n 0, 1), (491, .iload_n 3, 1), (492, .iconst 1, 1), (493, .iadd, 1), (494, .iaload, 1), (495, .aload_n 0, 1), (496, .iload_n 3, 1), (497, .iconst 2, 1), (498, .iadd, 1), (499, .iaload, 1), (500, .invokevirtual 55, 3), (503, .if_icmp .eq 564, 3), (506, .iconst 0, 1), (507, .ireturn, 1)]
theorem tk_L_want : tbOk cL_law tb_L_want := tbOk_of (by decide +kernel)
theorem L_want (g : Good X M_L) (hX : Scr X sb L xs) (hL : L < 2 ^ 31) (hi : 4 * i + 4 ≤ L) (hk : k + 37 ≤ 1200000) (hn : n + 1820 ≤ 5502250) (kk : Hd X sb q1 q2 1067 i (k + 37) (n + 1820)) : Hd X sb q1 q2 475 i k n := by
  intro s ad1 ad2 I1 J1 A1 B1 I2 J2 A2 B2 hM hC hR h1 h2
  obtain ⟨v, z, Rel, ⟨x, rfl⟩, oC, oR, hRel⟩ := op_want hM (xs (4 * i + 1)) (xs (4 * i + 2))
  subst h1 h2
  have g1 : Good X (yL_law, cL_law, 4, ret, room_1, tb_L_want) := Good_tb g tk_L_want
  refine G_n g1 1 (pc' := 476) (lv' := [(0, .ref sb), (1, .ref (ad1 0)), (2, .ref (ad2 500)), (3, .int (nI (4 * i)))]) (st' := [.ref (ad1 0)]) rfl ?_
  refine G_arg (pc := 476) g1 hX hL 1 (by omega) rfl rfl ?_
  refine G_arg (pc := 481) g1 hX hL 2 (by omega) rfl rfl ?_
  refine G_callV (pc := 486) (i := 0) (c := 8) (As := [.int (xs (4 * i + 1)), .int (xs (4 * i + 2))]) (st := []) g1 (oC ad1 I1 J1 A1 B1 hC) mw_X8_want lk_L_52 ⟨Nat.le_of_ble_eq_true rfl, Nat.le_of_ble_eq_true rfl⟩ (by omega) (by omega) rfl rfl (Nat.le_of_ble_eq_true rfl) ⟨by show k + 0 ≤ 1200000; omega, by show n + 0 ≤ 5502250; omega⟩ rfl ?_
  rintro v' Y' I' J' A' B' ⟨rfl, ⟨ad', rfl, had⟩, hpo⟩
  refine G_sw ?_
  refine G_n g1 1 (pc' := 490) (lv' := [(0, .ref sb), (1, .ref (ad1 0)), (2, .ref (ad2 500)), (3, .int (nI (4 * i)))]) (st' := [.ref (ad2 500), .int x]) rfl ?_
  refine G_arg (pc := 490) g1 hX hL 1 (by omega) rfl rfl ?_
  refine G_arg (pc := 495) g1 hX hL 2 (by omega) rfl rfl ?_
  refine G_callV (pc := 500) (i := 500) (c := 9) (As := [.int (xs (4 * i + 1)), .int (xs (4 * i + 2))]) (st := [.int x]) g1 (oR ad2 I2 J2 A2 B2 hR) mw_X9_want lk_L_55 ⟨Nat.le_of_ble_eq_true rfl, Nat.le_of_ble_eq_true rfl⟩ (by omega) (by omega) rfl rfl (Nat.le_of_ble_eq_true rfl) ⟨by show k + 0 + 0 ≤ 1200000; omega, by show n + 0 + 0 ≤ 5502250; omega⟩ rfl ?_
  rintro v2 Y2 I3 J3 A3 B3 ⟨rfl, rfl, s', hs, hin⟩
  refine G_sw ?_
  obtain ⟨hM', rfl⟩ := hRel s' hs
  refine G_ic_eq (pc := 503) (tgt := 1067) g1 rfl rfl rfl ?_
  refine G_wd (k' := k + 37) (n' := n + 1820) (by show k + 0 + 0 ≤ k + 37; omega) (by show n + 0 + 0 ≤ n + 1820; omega) ?_
  exact kk s' ad' ad2 _ _ _ _ _ _ _ _ hM' (hpo s' hs) hin had rfl
def tb_L_leave : TB := [(508, .aload_n 1, 1), (509, .aload_n 0, 1), (510, .iload_n 3, 1), (511, .iconst 1, 1), (512, .iadd, 1), (513, .iaload, 1), (514, .invokevirtual 56, 3), (517, .aload_n 2, 1), (518, .aload_n 0, 1), (519, .iload_n 3, 1), (520, .iconst 1, 1), (521, .iadd, 1), (522, .iaload, 1), (523, .invokevirtual 59, 3), (526, .if_icmp .eq 541, 3), (529, .iconst 0, 1), (530, .ireturn, 1)]
theorem tk_L_leave : tbOk cL_law tb_L_leave := tbOk_of (by decide +kernel)
theorem L_leave (g : Good X M_L) (hX : Scr X sb L xs) (hL : L < 2 ^ 31) (hi : 4 * i + 4 ≤ L) (hk : k + 37 ≤ 1200000) (hn : n + 1820 ≤ 5502250) (kk : Hd X sb q1 q2 1067 i (k + 37) (n + 1820)) : Hd X sb q1 q2 508 i k n := by
  intro s ad1 ad2 I1 J1 A1 B1 I2 J2 A2 B2 hM hC hR h1 h2
  obtain ⟨v, z, Rel, ⟨x, rfl⟩, oC, oR, hRel⟩ := op_leave hM (xs (4 * i + 1))
  subst h1 h2
  have g1 : Good X (yL_law, cL_law, 4, ret, room_1, tb_L_leave) := Good_tb g tk_L_leave
  refine G_n g1 1 (pc' := 509) (lv' := [(0, .ref sb), (1, .ref (ad1 0)), (2, .ref (ad2 500)), (3, .int (nI (4 * i)))]) (st' := [.ref (ad1 0)]) rfl ?_
  refine G_arg (pc := 509) g1 hX hL 1 (by omega) rfl rfl ?_
  refine G_callV (pc := 514) (i := 0) (c := 8) (As := [.int (xs (4 * i + 1))]) (st := []) g1 (oC ad1 I1 J1 A1 B1 hC) mw_X8_leave lk_L_56 ⟨Nat.le_of_ble_eq_true rfl, Nat.le_of_ble_eq_true rfl⟩ (by omega) (by omega) rfl rfl (Nat.le_of_ble_eq_true rfl) ⟨by show k + 0 ≤ 1200000; omega, by show n + 0 ≤ 5502250; omega⟩ rfl ?_
  rintro v' Y' I' J' A' B' ⟨rfl, ⟨ad', rfl, had⟩, hpo⟩
  refine G_sw ?_
  refine G_n g1 1 (pc' := 518) (lv' := [(0, .ref sb), (1, .ref (ad1 0)), (2, .ref (ad2 500)), (3, .int (nI (4 * i)))]) (st' := [.ref (ad2 500), .int x]) rfl ?_
  refine G_arg (pc := 518) g1 hX hL 1 (by omega) rfl rfl ?_
  refine G_callV (pc := 523) (i := 500) (c := 9) (As := [.int (xs (4 * i + 1))]) (st := [.int x]) g1 (oR ad2 I2 J2 A2 B2 hR) mw_X9_leave lk_L_59 ⟨Nat.le_of_ble_eq_true rfl, Nat.le_of_ble_eq_true rfl⟩ (by omega) (by omega) rfl rfl (Nat.le_of_ble_eq_true rfl) ⟨by show k + 0 + 0 ≤ 1200000; omega, by show n + 0 + 0 ≤ 5502250; omega⟩ rfl ?_
  rintro v2 Y2 I3 J3 A3 B3 ⟨rfl, rfl, s', hs, hin⟩
  refine G_sw ?_
  obtain ⟨hM', rfl⟩ := hRel s' hs
  refine G_ic_eq (pc := 526) (tgt := 1067) g1 rfl rfl rfl ?_
  refine G_wd (k' := k + 37) (n' := n + 1820) (by show k + 0 + 0 ≤ k + 37; omega) (by show n + 0 + 0 ≤ n + 1820; omega) ?_
  exact kk s' ad' ad2 _ _ _ _ _ _ _ _ hM' (hpo s' hs) hin had rfl
def tb_L_join : TB := [(531, .aload_n 1, 1), (532, .aload_n 0, 1), (533, .iload_n 3, 1), (534, .iconst 1, 1), (535, .iadd, 1), (536, .iaload, 1), (537, .invokevirtual 60, 3), (540, .aload_n 2, 1), (541, .aload_n 0, 1), (542, .iload_n 3, 1), (543, .iconst 1, 1), (544, .iadd, 1), (545, .iaload, 1), (546, .invokevirtual 63, 3), (549, .if_icmp .eq 518, 3), (552, .iconst 0, 1), (553, .ireturn, 1)]
theorem tk_L_join : tbOk cL_law tb_L_join := tbOk_of (by decide +kernel)
theorem L_join (g : Good X M_L) (hX : Scr X sb L xs) (hL : L < 2 ^ 31) (hi : 4 * i + 4 ≤ L) (hk : k + 37 ≤ 1200000) (hn : n + 1820 ≤ 5502250) (kk : Hd X sb q1 q2 1067 i (k + 37) (n + 1820)) : Hd X sb q1 q2 531 i k n := by
  intro s ad1 ad2 I1 J1 A1 B1 I2 J2 A2 B2 hM hC hR h1 h2
  obtain ⟨v, z, Rel, ⟨x, rfl⟩, oC, oR, hRel⟩ := op_join hM (xs (4 * i + 1))
  subst h1 h2
  have g1 : Good X (yL_law, cL_law, 4, ret, room_1, tb_L_join) := Good_tb g tk_L_join
  refine G_n g1 1 (pc' := 532) (lv' := [(0, .ref sb), (1, .ref (ad1 0)), (2, .ref (ad2 500)), (3, .int (nI (4 * i)))]) (st' := [.ref (ad1 0)]) rfl ?_
  refine G_arg (pc := 532) g1 hX hL 1 (by omega) rfl rfl ?_
  refine G_callV (pc := 537) (i := 0) (c := 8) (As := [.int (xs (4 * i + 1))]) (st := []) g1 (oC ad1 I1 J1 A1 B1 hC) mw_X8_join lk_L_60 ⟨Nat.le_of_ble_eq_true rfl, Nat.le_of_ble_eq_true rfl⟩ (by omega) (by omega) rfl rfl (Nat.le_of_ble_eq_true rfl) ⟨by show k + 0 ≤ 1200000; omega, by show n + 0 ≤ 5502250; omega⟩ rfl ?_
  rintro v' Y' I' J' A' B' ⟨rfl, ⟨ad', rfl, had⟩, hpo⟩
  refine G_sw ?_
  refine G_n g1 1 (pc' := 541) (lv' := [(0, .ref sb), (1, .ref (ad1 0)), (2, .ref (ad2 500)), (3, .int (nI (4 * i)))]) (st' := [.ref (ad2 500), .int x]) rfl ?_
  refine G_arg (pc := 541) g1 hX hL 1 (by omega) rfl rfl ?_
  refine G_callV (pc := 546) (i := 500) (c := 9) (As := [.int (xs (4 * i + 1))]) (st := [.int x]) g1 (oR ad2 I2 J2 A2 B2 hR) mw_X9_join lk_L_63 ⟨Nat.le_of_ble_eq_true rfl, Nat.le_of_ble_eq_true rfl⟩ (by omega) (by omega) rfl rfl (Nat.le_of_ble_eq_true rfl) ⟨by show k + 0 + 0 ≤ 1200000; omega, by show n + 0 + 0 ≤ 5502250; omega⟩ rfl ?_
  rintro v2 Y2 I3 J3 A3 B3 ⟨rfl, rfl, s', hs, hin⟩
  refine G_sw ?_
  obtain ⟨hM', rfl⟩ := hRel s' hs
  refine G_ic_eq (pc := 549) (tgt := 1067) g1 rfl rfl rfl ?_
  refine G_wd (k' := k + 37) (n' := n + 1820) (by show k + 0 + 0 ≤ k + 37; omega) (by show n + 0 + 0 ≤ n + 1820; omega) ?_
  exact kk s' ad' ad2 _ _ _ _ _ _ _ _ hM' (hpo s' hs) hin had rfl
def tb_L_sum : TB := [(554, .aload_n 1, 1), (555, .aload_n 0, 1), (556, .iload_n 3, 1), (557, .iconst 1, 1), (558, .iadd, 1), (559, .iaload, 1), (560, .i2l, 1), (561, .bipush 32, 2), (563, .lshl, 1), (564, .aload_n 0, 1), (565, .iload_n 3, 1), (566, .iconst 2, 1), (567, .iadd, 1), (568, .iaload, 1), (569, .i2l, 1), (570, .ldc2_w 64, 3), (573, .land, 1), (574, .lor, 1), (575, .invokevirtual 66, 3), (578, .aload_n 2, 1), (579, .aload_n 0, 1), (580, .iload_n 3, 1), (581, .iconst 1, 1), (582, .iadd, 1), (583, .iaload, 1), (584, .i2l, 1), (585, .bipush 32, 2), (587, .lshl, 1), (588, .aload_n 0, 1), (589, .iload_n 3, 1), (590, .iconst 2, 1), (591, .iadd, 1), (592, .iaload, 1), (593, .i2l, 1), (594, .ldc2_w 64, 3), (597, .land, 1), (598, .lor, 1), (599, .invokevirtual 70, 3), (602, .if_icmp .eq 465, 3), (605, .iconst 0, 1), (606, .ireturn, 1)]
theorem tk_L_sum : tbOk cL_law tb_L_sum := tbOk_of (by decide +kernel)
theorem L_sum (g : Good X M_L) (hX : Scr X sb L xs) (hL : L < 2 ^ 31) (hi : 4 * i + 4 ≤ L) (hk : k + 37 ≤ 1200000) (hn : n + 1820 ≤ 5502250) (kk : Hd X sb q1 q2 1067 i (k + 37) (n + 1820)) : Hd X sb q1 q2 554 i k n := by
  intro s ad1 ad2 I1 J1 A1 B1 I2 J2 A2 B2 hM hC hR h1 h2
  obtain ⟨v, z, Rel, ⟨x, rfl⟩, oC, oR, hRel⟩ := op_sum hM ((xs (4 * i + 1)).toInt64 <<< ((nI 32).toInt64 &&& 63) ||| ((xs (4 * i + 2)).toInt64 &&& lN 4294967295))
  subst h1 h2
  have g1 : Good X (yL_law, cL_law, 4, ret, room_1, tb_L_sum) := Good_tb g tk_L_sum
  refine G_n g1 1 (pc' := 555) (lv' := [(0, .ref sb), (1, .ref (ad1 0)), (2, .ref (ad2 500)), (3, .int (nI (4 * i)))]) (st' := [.ref (ad1 0)]) rfl ?_
  refine G_arg (pc := 555) g1 hX hL 1 (by omega) rfl rfl ?_
  refine G_n g1 3 (pc' := 564) (lv' := [(0, .ref sb), (1, .ref (ad1 0)), (2, .ref (ad2 500)), (3, .int (nI (4 * i)))]) (st' := [.long ((xs (4 * i + 1)).toInt64 <<< ((nI 32).toInt64 &&& 63)), .ref (ad1 0)]) rfl ?_
  refine G_arg (pc := 564) g1 hX hL 2 (by omega) rfl rfl ?_
  refine G_n g1 1 (pc' := 570) (lv' := [(0, .ref sb), (1, .ref (ad1 0)), (2, .ref (ad2 500)), (3, .int (nI (4 * i)))]) (st' := [.long (xs (4 * i + 2)).toInt64, .long ((xs (4 * i + 1)).toInt64 <<< ((nI 32).toInt64 &&& 63)), .ref (ad1 0)]) rfl ?_
  refine G_ldc2 (pc := 570) g1 kc_L_64 rfl ?_
  refine G_n g1 2 (pc' := 575) (lv' := [(0, .ref sb), (1, .ref (ad1 0)), (2, .ref (ad2 500)), (3, .int (nI (4 * i)))]) (st' := [.long ((xs (4 * i + 1)).toInt64 <<< ((nI 32).toInt64 &&& 63) ||| ((xs (4 * i + 2)).toInt64 &&& lN 4294967295)), .ref (ad1 0)]) rfl ?_
  refine G_callV (pc := 575) (i := 0) (c := 8) (As := [.long ((xs (4 * i + 1)).toInt64 <<< ((nI 32).toInt64 &&& 63) ||| ((xs (4 * i + 2)).toInt64 &&& lN 4294967295))]) (st := []) g1 (oC ad1 I1 J1 A1 B1 hC) mw_X8_sum lk_L_66 ⟨Nat.le_of_ble_eq_true rfl, Nat.le_of_ble_eq_true rfl⟩ (by omega) (by omega) rfl rfl (Nat.le_of_ble_eq_true rfl) ⟨by show k + 0 ≤ 1200000; omega, by show n + 0 ≤ 5502250; omega⟩ rfl ?_
  rintro v' Y' I' J' A' B' ⟨rfl, ⟨ad', rfl, had⟩, hpo⟩
  refine G_sw ?_
  refine G_n g1 1 (pc' := 579) (lv' := [(0, .ref sb), (1, .ref (ad1 0)), (2, .ref (ad2 500)), (3, .int (nI (4 * i)))]) (st' := [.ref (ad2 500), .int x]) rfl ?_
  refine G_arg (pc := 579) g1 hX hL 1 (by omega) rfl rfl ?_
  refine G_n g1 3 (pc' := 588) (lv' := [(0, .ref sb), (1, .ref (ad1 0)), (2, .ref (ad2 500)), (3, .int (nI (4 * i)))]) (st' := [.long ((xs (4 * i + 1)).toInt64 <<< ((nI 32).toInt64 &&& 63)), .ref (ad2 500), .int x]) rfl ?_
  refine G_arg (pc := 588) g1 hX hL 2 (by omega) rfl rfl ?_
  refine G_n g1 1 (pc' := 594) (lv' := [(0, .ref sb), (1, .ref (ad1 0)), (2, .ref (ad2 500)), (3, .int (nI (4 * i)))]) (st' := [.long (xs (4 * i + 2)).toInt64, .long ((xs (4 * i + 1)).toInt64 <<< ((nI 32).toInt64 &&& 63)), .ref (ad2 500), .int x]) rfl ?_
  refine G_ldc2 (pc := 594) g1 kc_L_64 rfl ?_
  refine G_n g1 2 (pc' := 599) (lv' := [(0, .ref sb), (1, .ref (ad1 0)), (2, .ref (ad2 500)), (3, .int (nI (4 * i)))]) (st' := [.long ((xs (4 * i + 1)).toInt64 <<< ((nI 32).toInt64 &&& 63) ||| ((xs (4 * i + 2)).toInt64 &&& lN 4294967295)), .ref (ad2 500), .int x]) rfl ?_
  refine G_callV (pc := 599) (i := 500) (c := 9) (As := [.long ((xs (4 * i + 1)).toInt64 <<< ((nI 32).toInt64 &&& 63) ||| ((xs (4 * i + 2)).toInt64 &&& lN 4294967295))]) (st := [.int x]) g1 (oR ad2 I2 J2 A2 B2 hR) mw_X9_sum lk_L_70 ⟨Nat.le_of_ble_eq_true rfl, Nat.le_of_ble_eq_true rfl⟩ (by omega) (by omega) rfl rfl (Nat.le_of_ble_eq_true rfl) ⟨by show k + 0 + 0 ≤ 1200000; omega, by show n + 0 + 0 ≤ 5502250; omega⟩ rfl ?_
  rintro v2 Y2 I3 J3 A3 B3 ⟨rfl, rfl, s', hs, hin⟩
  refine G_sw ?_
  obtain ⟨hM', rfl⟩ := hRel s' hs
  refine G_ic_eq (pc := 602) (tgt := 1067) g1 rfl rfl rfl ?_
  refine G_wd (k' := k + 37) (n' := n + 1820) (by show k + 0 + 0 ≤ k + 37; omega) (by show n + 0 + 0 ≤ n + 1820; omega) ?_
  exact kk s' ad' ad2 _ _ _ _ _ _ _ _ hM' (hpo s' hs) hin had rfl
def tb_L_schedule : TB := [(607, .aload_n 1, 1), (608, .aload_n 0, 1), (609, .iload_n 3, 1), (610, .iconst 1, 1), (611, .iadd, 1), (612, .iaload, 1), (613, .invokevirtual 71, 3), (616, .aload_n 2, 1), (617, .aload_n 0, 1), (618, .iload_n 3, 1), (619, .iconst 1, 1), (620, .iadd, 1), (621, .iaload, 1), (622, .invokevirtual 74, 3), (625, .if_icmp .eq 442, 3), (628, .iconst 0, 1), (629, .ireturn, 1)]
theorem tk_L_schedule : tbOk cL_law tb_L_schedule := tbOk_of (by decide +kernel)
theorem L_schedule (g : Good X M_L) (hX : Scr X sb L xs) (hL : L < 2 ^ 31) (hi : 4 * i + 4 ≤ L) (hk : k + 37 ≤ 1200000) (hn : n + 1820 ≤ 5502250) (kk : Hd X sb q1 q2 1067 i (k + 37) (n + 1820)) : Hd X sb q1 q2 607 i k n := by
  intro s ad1 ad2 I1 J1 A1 B1 I2 J2 A2 B2 hM hC hR h1 h2
  obtain ⟨v, z, Rel, ⟨x, rfl⟩, oC, oR, hRel⟩ := op_schedule hM (xs (4 * i + 1))
  subst h1 h2
  have g1 : Good X (yL_law, cL_law, 4, ret, room_1, tb_L_schedule) := Good_tb g tk_L_schedule
  refine G_n g1 1 (pc' := 608) (lv' := [(0, .ref sb), (1, .ref (ad1 0)), (2, .ref (ad2 500)), (3, .int (nI (4 * i)))]) (st' := [.ref (ad1 0)]) rfl ?_
  refine G_arg (pc := 608) g1 hX hL 1 (by omega) rfl rfl ?_
  refine G_callV (pc := 613) (i := 0) (c := 8) (As := [.int (xs (4 * i + 1))]) (st := []) g1 (oC ad1 I1 J1 A1 B1 hC) mw_X8_schedule lk_L_71 ⟨Nat.le_of_ble_eq_true rfl, Nat.le_of_ble_eq_true rfl⟩ (by omega) (by omega) rfl rfl (Nat.le_of_ble_eq_true rfl) ⟨by show k + 0 ≤ 1200000; omega, by show n + 0 ≤ 5502250; omega⟩ rfl ?_
  rintro v' Y' I' J' A' B' ⟨rfl, ⟨ad', rfl, had⟩, hpo⟩
  refine G_sw ?_
  refine G_n g1 1 (pc' := 617) (lv' := [(0, .ref sb), (1, .ref (ad1 0)), (2, .ref (ad2 500)), (3, .int (nI (4 * i)))]) (st' := [.ref (ad2 500), .int x]) rfl ?_
  refine G_arg (pc := 617) g1 hX hL 1 (by omega) rfl rfl ?_
  refine G_callV (pc := 622) (i := 500) (c := 9) (As := [.int (xs (4 * i + 1))]) (st := [.int x]) g1 (oR ad2 I2 J2 A2 B2 hR) mw_X9_schedule lk_L_74 ⟨Nat.le_of_ble_eq_true rfl, Nat.le_of_ble_eq_true rfl⟩ (by omega) (by omega) rfl rfl (Nat.le_of_ble_eq_true rfl) ⟨by show k + 0 + 0 ≤ 1200000; omega, by show n + 0 + 0 ≤ 5502250; omega⟩ rfl ?_
  rintro v2 Y2 I3 J3 A3 B3 ⟨rfl, rfl, s', hs, hin⟩
  refine G_sw ?_
  obtain ⟨hM', rfl⟩ := hRel s' hs
  refine G_ic_eq (pc := 625) (tgt := 1067) g1 rfl rfl rfl ?_
  refine G_wd (k' := k + 37) (n' := n + 1820) (by show k + 0 + 0 ≤ k + 37; omega) (by show n + 0 + 0 ≤ n + 1820; omega) ?_
  exact kk s' ad' ad2 _ _ _ _ _ _ _ _ hM' (hpo s' hs) hin had rfl
def tb_L_send : TB := [(630, .aload_n 1, 1), (631, .aload_n 0, 1), (632, .iload_n 3, 1), (633, .iconst 1, 1), (634, .iadd, 1), (635, .iaload, 1), (636, .invokevirtual 75, 3), (639, .aload_n 2, 1), (640, .aload_n 0, 1), (641, .iload_n 3, 1), (642, .iconst 1, 1), (643, .iadd, 1), (644, .iaload, 1), (645, .invokevirtual 78, 3), (648, .if_icmp .eq 419, 3), (651, .iconst 0, 1), (652, .ireturn, 1)]
theorem tk_L_send : tbOk cL_law tb_L_send := tbOk_of (by decide +kernel)
theorem L_send (g : Good X M_L) (hX : Scr X sb L xs) (hL : L < 2 ^ 31) (hi : 4 * i + 4 ≤ L) (hk : k + 37 ≤ 1200000) (hn : n + 1820 ≤ 5502250) (kk : Hd X sb q1 q2 1067 i (k + 37) (n + 1820)) : Hd X sb q1 q2 630 i k n := by
  intro s ad1 ad2 I1 J1 A1 B1 I2 J2 A2 B2 hM hC hR h1 h2
  obtain ⟨v, z, Rel, ⟨x, rfl⟩, oC, oR, hRel⟩ := op_send hM (xs (4 * i + 1))
  subst h1 h2
  have g1 : Good X (yL_law, cL_law, 4, ret, room_1, tb_L_send) := Good_tb g tk_L_send
  refine G_n g1 1 (pc' := 631) (lv' := [(0, .ref sb), (1, .ref (ad1 0)), (2, .ref (ad2 500)), (3, .int (nI (4 * i)))]) (st' := [.ref (ad1 0)]) rfl ?_
  refine G_arg (pc := 631) g1 hX hL 1 (by omega) rfl rfl ?_
  refine G_callV (pc := 636) (i := 0) (c := 8) (As := [.int (xs (4 * i + 1))]) (st := []) g1 (oC ad1 I1 J1 A1 B1 hC) mw_X8_send lk_L_75 ⟨Nat.le_of_ble_eq_true rfl, Nat.le_of_ble_eq_true rfl⟩ (by omega) (by omega) rfl rfl (Nat.le_of_ble_eq_true rfl) ⟨by show k + 0 ≤ 1200000; omega, by show n + 0 ≤ 5502250; omega⟩ rfl ?_
  rintro v' Y' I' J' A' B' ⟨rfl, ⟨ad', rfl, had⟩, hpo⟩
  refine G_sw ?_
  refine G_n g1 1 (pc' := 640) (lv' := [(0, .ref sb), (1, .ref (ad1 0)), (2, .ref (ad2 500)), (3, .int (nI (4 * i)))]) (st' := [.ref (ad2 500), .int x]) rfl ?_
  refine G_arg (pc := 640) g1 hX hL 1 (by omega) rfl rfl ?_
  refine G_callV (pc := 645) (i := 500) (c := 9) (As := [.int (xs (4 * i + 1))]) (st := [.int x]) g1 (oR ad2 I2 J2 A2 B2 hR) mw_X9_send lk_L_78 ⟨Nat.le_of_ble_eq_true rfl, Nat.le_of_ble_eq_true rfl⟩ (by omega) (by omega) rfl rfl (Nat.le_of_ble_eq_true rfl) ⟨by show k + 0 + 0 ≤ 1200000; omega, by show n + 0 + 0 ≤ 5502250; omega⟩ rfl ?_
  rintro v2 Y2 I3 J3 A3 B3 ⟨rfl, rfl, s', hs, hin⟩
  refine G_sw ?_
  obtain ⟨hM', rfl⟩ := hRel s' hs
  refine G_ic_eq (pc := 648) (tgt := 1067) g1 rfl rfl rfl ?_
  refine G_wd (k' := k + 37) (n' := n + 1820) (by show k + 0 + 0 ≤ k + 37; omega) (by show n + 0 + 0 ≤ n + 1820; omega) ?_
  exact kk s' ad' ad2 _ _ _ _ _ _ _ _ hM' (hpo s' hs) hin had rfl
def tb_L_resend : TB := [(653, .aload_n 1, 1), (654, .aload_n 0, 1), (655, .iload_n 3, 1), (656, .iconst 1, 1), (657, .iadd, 1), (658, .iaload, 1), (659, .invokevirtual 79, 3), (662, .aload_n 2, 1), (663, .aload_n 0, 1), (664, .iload_n 3, 1), (665, .iconst 1, 1), (666, .iadd, 1), (667, .iaload, 1), (668, .invokevirtual 82, 3), (671, .if_icmp .eq 396, 3), (674, .iconst 0, 1), (675, .ireturn, 1)]
theorem tk_L_resend : tbOk cL_law tb_L_resend := tbOk_of (by decide +kernel)
theorem L_resend (g : Good X M_L) (hX : Scr X sb L xs) (hL : L < 2 ^ 31) (hi : 4 * i + 4 ≤ L) (hk : k + 37 ≤ 1200000) (hn : n + 1820 ≤ 5502250) (kk : Hd X sb q1 q2 1067 i (k + 37) (n + 1820)) : Hd X sb q1 q2 653 i k n := by
  intro s ad1 ad2 I1 J1 A1 B1 I2 J2 A2 B2 hM hC hR h1 h2
  obtain ⟨v, z, Rel, ⟨x, rfl⟩, oC, oR, hRel⟩ := op_resend hM (xs (4 * i + 1))
  subst h1 h2
  have g1 : Good X (yL_law, cL_law, 4, ret, room_1, tb_L_resend) := Good_tb g tk_L_resend
  refine G_n g1 1 (pc' := 654) (lv' := [(0, .ref sb), (1, .ref (ad1 0)), (2, .ref (ad2 500)), (3, .int (nI (4 * i)))]) (st' := [.ref (ad1 0)]) rfl ?_
  refine G_arg (pc := 654) g1 hX hL 1 (by omega) rfl rfl ?_
  refine G_callV (pc := 659) (i := 0) (c := 8) (As := [.int (xs (4 * i + 1))]) (st := []) g1 (oC ad1 I1 J1 A1 B1 hC) mw_X8_resend lk_L_79 ⟨Nat.le_of_ble_eq_true rfl, Nat.le_of_ble_eq_true rfl⟩ (by omega) (by omega) rfl rfl (Nat.le_of_ble_eq_true rfl) ⟨by show k + 0 ≤ 1200000; omega, by show n + 0 ≤ 5502250; omega⟩ rfl ?_
  rintro v' Y' I' J' A' B' ⟨rfl, ⟨ad', rfl, had⟩, hpo⟩
  refine G_sw ?_
  refine G_n g1 1 (pc' := 663) (lv' := [(0, .ref sb), (1, .ref (ad1 0)), (2, .ref (ad2 500)), (3, .int (nI (4 * i)))]) (st' := [.ref (ad2 500), .int x]) rfl ?_
  refine G_arg (pc := 663) g1 hX hL 1 (by omega) rfl rfl ?_
  refine G_callV (pc := 668) (i := 500) (c := 9) (As := [.int (xs (4 * i + 1))]) (st := [.int x]) g1 (oR ad2 I2 J2 A2 B2 hR) mw_X9_resend lk_L_82 ⟨Nat.le_of_ble_eq_true rfl, Nat.le_of_ble_eq_true rfl⟩ (by omega) (by omega) rfl rfl (Nat.le_of_ble_eq_true rfl) ⟨by show k + 0 + 0 ≤ 1200000; omega, by show n + 0 + 0 ≤ 5502250; omega⟩ rfl ?_
  rintro v2 Y2 I3 J3 A3 B3 ⟨rfl, rfl, s', hs, hin⟩
  refine G_sw ?_
  obtain ⟨hM', rfl⟩ := hRel s' hs
  refine G_ic_eq (pc := 671) (tgt := 1067) g1 rfl rfl rfl ?_
  refine G_wd (k' := k + 37) (n' := n + 1820) (by show k + 0 + 0 ≤ k + 37; omega) (by show n + 0 + 0 ≤ n + 1820; omega) ?_
  exact kk s' ad' ad2 _ _ _ _ _ _ _ _ hM' (hpo s' hs) hin had rfl
def tb_L_pending : TB := [(676, .aload_n 1, 1), (677, .aload_n 0, 1), (678, .iload_n 3, 1), (679, .iconst 1, 1), (680, .iadd, 1), (681, .iaload, 1), (682, .invokevirtual 83, 3), (685, .aload_n 2, 1), (686, .aload_n 0, 1), (687, .iload_n 3, 1), (688, .iconst 1, 1), (689, .iadd, 1), (690, .iaload, 1), (691, .invokevirtual 87, 3), (694, .lcmp, 1), (695, .ifCond .eq 372, 3), (698, .iconst 0, 1), (699, .ireturn, 1)]
theorem tk_L_pending : tbOk cL_law tb_L_pending := tbOk_of (by decide +kernel)
theorem L_pending (g : Good X M_L) (hX : Scr X sb L xs) (hL : L < 2 ^ 31) (hi : 4 * i + 4 ≤ L) (hk : k + 37 ≤ 1200000) (hn : n + 1820 ≤ 5502250) (kk : Hd X sb q1 q2 1067 i (k + 37) (n + 1820)) : Hd X sb q1 q2 676 i k n := by
  intro s ad1 ad2 I1 J1 A1 B1 I2 J2 A2 B2 hM hC hR h1 h2
  obtain ⟨v, z, Rel, ⟨x, rfl⟩, oC, oR, hRel⟩ := op_pending hM (xs (4 * i + 1))
  subst h1 h2
  have g1 : Good X (yL_law, cL_law, 4, ret, room_1, tb_L_pending) := Good_tb g tk_L_pending
  refine G_n g1 1 (pc' := 677) (lv' := [(0, .ref sb), (1, .ref (ad1 0)), (2, .ref (ad2 500)), (3, .int (nI (4 * i)))]) (st' := [.ref (ad1 0)]) rfl ?_
  refine G_arg (pc := 677) g1 hX hL 1 (by omega) rfl rfl ?_
  refine G_callV (pc := 682) (i := 0) (c := 8) (As := [.int (xs (4 * i + 1))]) (st := []) g1 (oC ad1 I1 J1 A1 B1 hC) mw_X8_pending lk_L_83 ⟨Nat.le_of_ble_eq_true rfl, Nat.le_of_ble_eq_true rfl⟩ (by omega) (by omega) rfl rfl (Nat.le_of_ble_eq_true rfl) ⟨by show k + 0 ≤ 1200000; omega, by show n + 0 ≤ 5502250; omega⟩ rfl ?_
  rintro v' Y' I' J' A' B' ⟨rfl, ⟨ad', rfl, had⟩, hpo⟩
  refine G_sw ?_
  refine G_n g1 1 (pc' := 686) (lv' := [(0, .ref sb), (1, .ref (ad1 0)), (2, .ref (ad2 500)), (3, .int (nI (4 * i)))]) (st' := [.ref (ad2 500), .long x]) rfl ?_
  refine G_arg (pc := 686) g1 hX hL 1 (by omega) rfl rfl ?_
  refine G_callV (pc := 691) (i := 500) (c := 9) (As := [.int (xs (4 * i + 1))]) (st := [.long x]) g1 (oR ad2 I2 J2 A2 B2 hR) mw_X9_pending lk_L_87 ⟨Nat.le_of_ble_eq_true rfl, Nat.le_of_ble_eq_true rfl⟩ (by omega) (by omega) rfl rfl (Nat.le_of_ble_eq_true rfl) ⟨by show k + 0 + 0 ≤ 1200000; omega, by show n + 0 + 0 ≤ 5502250; omega⟩ rfl ?_
  rintro v2 Y2 I3 J3 A3 B3 ⟨rfl, rfl, s', hs, hin⟩
  refine G_sw ?_
  obtain ⟨hM', rfl⟩ := hRel s' hs
  refine G_n g1 1 (pc' := 695) (lv' := [(0, .ref sb), (1, .ref (ad1 0)), (2, .ref (ad2 500)), (3, .int (nI (4 * i)))]) (st' := [.int (lg_cmp x x)]) rfl ?_
  refine G_if_eq (pc := 695) (tgt := 1067) g1 rfl rfl ((lc_eq x x).mpr rfl) ?_
  refine G_wd (k' := k + 37) (n' := n + 1820) (by show k + 0 + 0 ≤ k + 37; omega) (by show n + 0 + 0 ≤ n + 1820; omega) ?_
  exact kk s' ad' ad2 _ _ _ _ _ _ _ _ hM' (hpo s' hs) hin had rfl
def tb_L_sent : TB := [(700, .aload_n 1, 1), (701, .aload_n 0, 1), (702, .iload_n 3, 1), (703, .iconst 1, 1), (704, .iadd, 1), (705, .iaload, 1), (706, .invokevirtual 88, 3), (709, .aload_n 2, 1), (710, .aload_n 0, 1), (711, .iload_n 3, 1), (712, .iconst 1, 1), (713, .iadd, 1), (714, .iaload, 1), (715, .invokevirtual 91, 3), (718, .lcmp, 1), (719, .ifCond .eq 348, 3), (722, .iconst 0, 1), (723, .ireturn, 1)]
theorem tk_L_sent : tbOk cL_law tb_L_sent := tbOk_of (by decide +kernel)
theorem L_sent (g : Good X M_L) (hX : Scr X sb L xs) (hL : L < 2 ^ 31) (hi : 4 * i + 4 ≤ L) (hk : k + 37 ≤ 1200000) (hn : n + 1820 ≤ 5502250) (kk : Hd X sb q1 q2 1067 i (k + 37) (n + 1820)) : Hd X sb q1 q2 700 i k n := by
  intro s ad1 ad2 I1 J1 A1 B1 I2 J2 A2 B2 hM hC hR h1 h2
  obtain ⟨v, z, Rel, ⟨x, rfl⟩, oC, oR, hRel⟩ := op_sent hM (xs (4 * i + 1))
  subst h1 h2
  have g1 : Good X (yL_law, cL_law, 4, ret, room_1, tb_L_sent) := Good_tb g tk_L_sent
  refine G_n g1 1 (pc' := 701) (lv' := [(0, .ref sb), (1, .ref (ad1 0)), (2, .ref (ad2 500)), (3, .int (nI (4 * i)))]) (st' := [.ref (ad1 0)]) rfl ?_
  refine G_arg (pc := 701) g1 hX hL 1 (by omega) rfl rfl ?_
  refine G_callV (pc := 706) (i := 0) (c := 8) (As := [.int (xs (4 * i + 1))]) (st := []) g1 (oC ad1 I1 J1 A1 B1 hC) mw_X8_sent lk_L_88 ⟨Nat.le_of_ble_eq_true rfl, Nat.le_of_ble_eq_true rfl⟩ (by omega) (by omega) rfl rfl (Nat.le_of_ble_eq_true rfl) ⟨by show k + 0 ≤ 1200000; omega, by show n + 0 ≤ 5502250; omega⟩ rfl ?_
  rintro v' Y' I' J' A' B' ⟨rfl, ⟨ad', rfl, had⟩, hpo⟩
  refine G_sw ?_
  refine G_n g1 1 (pc' := 710) (lv' := [(0, .ref sb), (1, .ref (ad1 0)), (2, .ref (ad2 500)), (3, .int (nI (4 * i)))]) (st' := [.ref (ad2 500), .long x]) rfl ?_
  refine G_arg (pc := 710) g1 hX hL 1 (by omega) rfl rfl ?_
  refine G_callV (pc := 715) (i := 500) (c := 9) (As := [.int (xs (4 * i + 1))]) (st := [.long x]) g1 (oR ad2 I2 J2 A2 B2 hR) mw_X9_sent lk_L_91 ⟨Nat.le_of_ble_eq_true rfl, Nat.le_of_ble_eq_true rfl⟩ (by omega) (by omega) rfl rfl (Nat.le_of_ble_eq_true rfl) ⟨by show k + 0 + 0 ≤ 1200000; omega, by show n + 0 + 0 ≤ 5502250; omega⟩ rfl ?_
  rintro v2 Y2 I3 J3 A3 B3 ⟨rfl, rfl, s', hs, hin⟩
  refine G_sw ?_
  obtain ⟨hM', rfl⟩ := hRel s' hs
  refine G_n g1 1 (pc' := 719) (lv' := [(0, .ref sb), (1, .ref (ad1 0)), (2, .ref (ad2 500)), (3, .int (nI (4 * i)))]) (st' := [.int (lg_cmp x x)]) rfl ?_
  refine G_if_eq (pc := 719) (tgt := 1067) g1 rfl rfl ((lc_eq x x).mpr rfl) ?_
  refine G_wd (k' := k + 37) (n' := n + 1820) (by show k + 0 + 0 ≤ k + 37; omega) (by show n + 0 + 0 ≤ n + 1820; omega) ?_
  exact kk s' ad' ad2 _ _ _ _ _ _ _ _ hM' (hpo s' hs) hin had rfl
def tb_L_user : TB := [(724, .aload_n 1, 1), (725, .aload_n 0, 1), (726, .iload_n 3, 1), (727, .iconst 1, 1), (728, .iadd, 1), (729, .iaload, 1), (730, .aload_n 0, 1), (731, .iload_n 3, 1), (732, .iconst 2, 1), (733, .iadd, 1), (734, .iaload, 1), (735, .invokevirtual 92, 3), (738, .aload_n 2, 1), (739, .aload_n 0, 1), (740, .iload_n 3, 1), (741, .iconst 1, 1), (742, .iadd, 1), (743, .iaload, 1), (744, .aload_n 0, 1), (745, .iload_n 3, 1), (746, .iconst 2, 1), (747, .iadd, 1), (748, .iaload, 1), (749, .invokevirtual 95, 3), (752, .if_icmp .eq 315, 3), (755, .iconst 0, 1), (756, .ireturn, 1)]
theorem tk_L_user : tbOk cL_law tb_L_user := tbOk_of (by decide +kernel)
theorem L_user (g : Good X M_L) (hX : Scr X sb L xs) (hL : L < 2 ^ 31) (hi : 4 * i + 4 ≤ L) (hk : k + 37 ≤ 1200000) (hn : n + 1820 ≤ 5502250) (kk : Hd X sb q1 q2 1067 i (k + 37) (n + 1820)) : Hd X sb q1 q2 724 i k n := by
  intro s ad1 ad2 I1 J1 A1 B1 I2 J2 A2 B2 hM hC hR h1 h2
  obtain ⟨v, z, Rel, ⟨x, rfl⟩, oC, oR, hRel⟩ := op_user hM (xs (4 * i + 1)) (xs (4 * i + 2))
  subst h1 h2
  have g1 : Good X (yL_law, cL_law, 4, ret, room_1, tb_L_user) := Good_tb g tk_L_user
  refine G_n g1 1 (pc' := 725) (lv' := [(0, .ref sb), (1, .ref (ad1 0)), (2, .ref (ad2 500)), (3, .int (nI (4 * i)))]) (st' := [.ref (ad1 0)]) rfl ?_
  refine G_arg (pc := 725) g1 hX hL 1 (by omega) rfl rfl ?_
  refine G_arg (pc := 730) g1 hX hL 2 (by omega) rfl rfl ?_
  refine G_callV (pc := 735) (i := 0) (c := 8) (As := [.int (xs (4 * i + 1)), .int (xs (4 * i + 2))]) (st := []) g1 (oC ad1 I1 J1 A1 B1 hC) mw_X8_user lk_L_92 ⟨Nat.le_of_ble_eq_true rfl, Nat.le_of_ble_eq_true rfl⟩ (by omega) (by omega) rfl rfl (Nat.le_of_ble_eq_true rfl) ⟨by show k + 0 ≤ 1200000; omega, by show n + 0 ≤ 5502250; omega⟩ rfl ?_
  rintro v' Y' I' J' A' B' ⟨rfl, ⟨ad', rfl, had⟩, hpo⟩
  refine G_sw ?_
  refine G_n g1 1 (pc' := 739) (lv' := [(0, .ref sb), (1, .ref (ad1 0)), (2, .ref (ad2 500)), (3, .int (nI (4 * i)))]) (st' := [.ref (ad2 500), .int x]) rfl ?_
  refine G_arg (pc := 739) g1 hX hL 1 (by omega) rfl rfl ?_
  refine G_arg (pc := 744) g1 hX hL 2 (by omega) rfl rfl ?_
  refine G_callV (pc := 749) (i := 500) (c := 9) (As := [.int (xs (4 * i + 1)), .int (xs (4 * i + 2))]) (st := [.int x]) g1 (oR ad2 I2 J2 A2 B2 hR) mw_X9_user lk_L_95 ⟨Nat.le_of_ble_eq_true rfl, Nat.le_of_ble_eq_true rfl⟩ (by omega) (by omega) rfl rfl (Nat.le_of_ble_eq_true rfl) ⟨by show k + 0 + 0 ≤ 1200000; omega, by show n + 0 + 0 ≤ 5502250; omega⟩ rfl ?_
  rintro v2 Y2 I3 J3 A3 B3 ⟨rfl, rfl, s', hs, hin⟩
  refine G_sw ?_
  obtain ⟨hM', rfl⟩ := hRel s' hs
  refine G_ic_eq (pc := 752) (tgt := 1067) g1 rfl rfl rfl ?_
  refine G_wd (k' := k + 37) (n' := n + 1820) (by show k + 0 + 0 ≤ k + 37; omega) (by show n + 0 + 0 ≤ n + 1820; omega) ?_
  exact kk s' ad' ad2 _ _ _ _ _ _ _ _ hM' (hpo s' hs) hin had rfl
def tb_L_decode : TB := [(757, .aload_n 1, 1), (758, .aload_n 0, 1), (759, .iload_n 3, 1), (760, .iconst 1, 1), (761, .iadd, 1), (762, .iaload, 1), (763, .aload_n 0, 1), (764, .iload_n 3, 1), (765, .iconst 2, 1), (766, .iadd, 1), (767, .iaload, 1), (768, .invokevirtual 96, 3), (771, .aload_n 2, 1), (772, .aload_n 0, 1), (773, .iload_n 3, 1), (774, .iconst 1, 1), (775, .iadd, 1), (776, .iaload, 1), (777, .aload_n 0, 1), (778, .iload_n 3, 1), (779, .iconst 2, 1), (780, .iadd, 1), (781, .iaload, 1), (782, .invokevirtual 99, 3), (785, .if_icmp .eq 282, 3), (788, .iconst 0, 1), (789, .ireturn, 1)]
theorem tk_L_decode : tbOk cL_law tb_L_decode := tbOk_of (by decide +kernel)
theorem L_decode (g : Good X M_L) (hX : Scr X sb L xs) (hL : L < 2 ^ 31) (hi : 4 * i + 4 ≤ L) (hk : k + 37 ≤ 1200000) (hn : n + 1820 ≤ 5502250) (kk : Hd X sb q1 q2 1067 i (k + 37) (n + 1820)) : Hd X sb q1 q2 757 i k n := by
  intro s ad1 ad2 I1 J1 A1 B1 I2 J2 A2 B2 hM hC hR h1 h2
  obtain ⟨v, z, Rel, ⟨x, rfl⟩, oC, oR, hRel⟩ := op_decode hM (xs (4 * i + 1)) (xs (4 * i + 2))
  subst h1 h2
  have g1 : Good X (yL_law, cL_law, 4, ret, room_1, tb_L_decode) := Good_tb g tk_L_decode
  refine G_n g1 1 (pc' := 758) (lv' := [(0, .ref sb), (1, .ref (ad1 0)), (2, .ref (ad2 500)), (3, .int (nI (4 * i)))]) (st' := [.ref (ad1 0)]) rfl ?_
  refine G_arg (pc := 758) g1 hX hL 1 (by omega) rfl rfl ?_
  refine G_arg (pc := 763) g1 hX hL 2 (by omega) rfl rfl ?_
  refine G_callV (pc := 768) (i := 0) (c := 8) (As := [.int (xs (4 * i + 1)), .int (xs (4 * i + 2))]) (st := []) g1 (oC ad1 I1 J1 A1 B1 hC) mw_X8_decode lk_L_96 ⟨Nat.le_of_ble_eq_true rfl, Nat.le_of_ble_eq_true rfl⟩ (by omega) (by omega) rfl rfl (Nat.le_of_ble_eq_true rfl) ⟨by show k + 0 ≤ 1200000; omega, by show n + 0 ≤ 5502250; omega⟩ rfl ?_
  rintro v' Y' I' J' A' B' ⟨rfl, ⟨ad', rfl, had⟩, hpo⟩
  refine G_sw ?_
  refine G_n g1 1 (pc' := 772) (lv' := [(0, .ref sb), (1, .ref (ad1 0)), (2, .ref (ad2 500)), (3, .int (nI (4 * i)))]) (st' := [.ref (ad2 500), .int x]) rfl ?_
  refine G_arg (pc := 772) g1 hX hL 1 (by omega) rfl rfl ?_
  refine G_arg (pc := 777) g1 hX hL 2 (by omega) rfl rfl ?_
  refine G_callV (pc := 782) (i := 500) (c := 9) (As := [.int (xs (4 * i + 1)), .int (xs (4 * i + 2))]) (st := [.int x]) g1 (oR ad2 I2 J2 A2 B2 hR) mw_X9_decode lk_L_99 ⟨Nat.le_of_ble_eq_true rfl, Nat.le_of_ble_eq_true rfl⟩ (by omega) (by omega) rfl rfl (Nat.le_of_ble_eq_true rfl) ⟨by show k + 0 + 0 ≤ 1200000; omega, by show n + 0 + 0 ≤ 5502250; omega⟩ rfl ?_
  rintro v2 Y2 I3 J3 A3 B3 ⟨rfl, rfl, s', hs, hin⟩
  refine G_sw ?_
  obtain ⟨hM', rfl⟩ := hRel s' hs
  refine G_ic_eq (pc := 785) (tgt := 1067) g1 rfl rfl rfl ?_
  refine G_wd (k' := k + 37) (n' := n + 1820) (by show k + 0 + 0 ≤ k + 37; omega) (by show n + 0 + 0 ≤ n + 1820; omega) ?_
  exact kk s' ad' ad2 _ _ _ _ _ _ _ _ hM' (hpo s' hs) hin had rfl
def tb_L_proof : TB := [(790, .aload_n 1, 1), (791, .aload_n 0, 1), (792, .iload_n 3, 1), (793, .iconst 1, 1), (794, .iadd, 1), (795, .iaload, 1), (796, .aload_n 0, 1), (797, .iload_n 3, 1), (798, .iconst 2, 1), (799, .iadd, 1), (800, .iaload, 1), (801, .invokevirtual 100, 3), (804, .aload_n 2, 1), (805, .aload_n 0, 1), (806, .iload_n 3, 1), (807, .iconst 1, 1), (808, .iadd, 1), (809, .iaload, 1), (810, .aload_n 0, 1), (811, .iload_n 3, 1), (812, .iconst 2, 1), (813, .iadd, 1), (814, .iaload, 1), (815, .invokevirtual 104, 3), (818, .lcmp, 1), (819, .ifCond .eq 248, 3), (822, .iconst 0, 1), (823, .ireturn, 1)]
theorem tk_L_proof : tbOk cL_law tb_L_proof := tbOk_of (by decide +kernel)
theorem L_proof (g : Good X M_L) (hX : Scr X sb L xs) (hL : L < 2 ^ 31) (hi : 4 * i + 4 ≤ L) (hk : k + 37 ≤ 1200000) (hn : n + 1820 ≤ 5502250) (kk : Hd X sb q1 q2 1067 i (k + 37) (n + 1820)) : Hd X sb q1 q2 790 i k n := by
  intro s ad1 ad2 I1 J1 A1 B1 I2 J2 A2 B2 hM hC hR h1 h2
  obtain ⟨v, z, Rel, ⟨x, rfl⟩, oC, oR, hRel⟩ := op_proof hM (xs (4 * i + 1)) (xs (4 * i + 2))
  subst h1 h2
  have g1 : Good X (yL_law, cL_law, 4, ret, room_1, tb_L_proof) := Good_tb g tk_L_proof
  refine G_n g1 1 (pc' := 791) (lv' := [(0, .ref sb), (1, .ref (ad1 0)), (2, .ref (ad2 500)), (3, .int (nI (4 * i)))]) (st' := [.ref (ad1 0)]) rfl ?_
  refine G_arg (pc := 791) g1 hX hL 1 (by omega) rfl rfl ?_
  refine G_arg (pc := 796) g1 hX hL 2 (by omega) rfl rfl ?_
  refine G_callV (pc := 801) (i := 0) (c := 8) (As := [.int (xs (4 * i + 1)), .int (xs (4 * i + 2))]) (st := []) g1 (oC ad1 I1 J1 A1 B1 hC) mw_X8_proof lk_L_100 ⟨Nat.le_of_ble_eq_true rfl, Nat.le_of_ble_eq_true rfl⟩ (by omega) (by omega) rfl rfl (Nat.le_of_ble_eq_true rfl) ⟨by show k + 0 ≤ 1200000; omega, by show n + 0 ≤ 5502250; omega⟩ rfl ?_
  rintro v' Y' I' J' A' B' ⟨rfl, ⟨ad', rfl, had⟩, hpo⟩
  refine G_sw ?_
  refine G_n g1 1 (pc' := 805) (lv' := [(0, .ref sb), (1, .ref (ad1 0)), (2, .ref (ad2 500)), (3, .int (nI (4 * i)))]) (st' := [.ref (ad2 500), .long x]) rfl ?_
  refine G_arg (pc := 805) g1 hX hL 1 (by omega) rfl rfl ?_
  refine G_arg (pc := 810) g1 hX hL 2 (by omega) rfl rfl ?_
  refine G_callV (pc := 815) (i := 500) (c := 9) (As := [.int (xs (4 * i + 1)), .int (xs (4 * i + 2))]) (st := [.long x]) g1 (oR ad2 I2 J2 A2 B2 hR) mw_X9_proof lk_L_104 ⟨Nat.le_of_ble_eq_true rfl, Nat.le_of_ble_eq_true rfl⟩ (by omega) (by omega) rfl rfl (Nat.le_of_ble_eq_true rfl) ⟨by show k + 0 + 0 ≤ 1200000; omega, by show n + 0 + 0 ≤ 5502250; omega⟩ rfl ?_
  rintro v2 Y2 I3 J3 A3 B3 ⟨rfl, rfl, s', hs, hin⟩
  refine G_sw ?_
  obtain ⟨hM', rfl⟩ := hRel s' hs
  refine G_n g1 1 (pc' := 819) (lv' := [(0, .ref sb), (1, .ref (ad1 0)), (2, .ref (ad2 500)), (3, .int (nI (4 * i)))]) (st' := [.int (lg_cmp x x)]) rfl ?_
  refine G_if_eq (pc := 819) (tgt := 1067) g1 rfl rfl ((lc_eq x x).mpr rfl) ?_
  refine G_wd (k' := k + 37) (n' := n + 1820) (by show k + 0 + 0 ≤ k + 37; omega) (by show n + 0 + 0 ≤ n + 1820; omega) ?_
  exact kk s' ad' ad2 _ _ _ _ _ _ _ _ hM' (hpo s' hs) hin had rfl
def tb_L_need : TB := [(824, .aload_n 1, 1), (825, .aload_n 0, 1), (826, .iload_n 3, 1), (827, .iconst 1, 1), (828, .iadd, 1), (829, .iaload, 1), (830, .invokevirtual 105, 3), (833, .aload_n 2, 1), (834, .aload_n 0, 1), (835, .iload_n 3, 1), (836, .iconst 1, 1), (837, .iadd, 1), (838, .iaload, 1), (839, .invokevirtual 108, 3), (842, .if_icmp .eq 225, 3), (845, .iconst 0, 1), (846, .ireturn, 1)]
theorem tk_L_need : tbOk cL_law tb_L_need := tbOk_of (by decide +kernel)
theorem L_need (g : Good X M_L) (hX : Scr X sb L xs) (hL : L < 2 ^ 31) (hi : 4 * i + 4 ≤ L) (hk : k + 37 ≤ 1200000) (hn : n + 1820 ≤ 5502250) (kk : Hd X sb q1 q2 1067 i (k + 37) (n + 1820)) : Hd X sb q1 q2 824 i k n := by
  intro s ad1 ad2 I1 J1 A1 B1 I2 J2 A2 B2 hM hC hR h1 h2
  obtain ⟨v, z, Rel, ⟨x, rfl⟩, oC, oR, hRel⟩ := op_need hM (xs (4 * i + 1))
  subst h1 h2
  have g1 : Good X (yL_law, cL_law, 4, ret, room_1, tb_L_need) := Good_tb g tk_L_need
  refine G_n g1 1 (pc' := 825) (lv' := [(0, .ref sb), (1, .ref (ad1 0)), (2, .ref (ad2 500)), (3, .int (nI (4 * i)))]) (st' := [.ref (ad1 0)]) rfl ?_
  refine G_arg (pc := 825) g1 hX hL 1 (by omega) rfl rfl ?_
  refine G_callV (pc := 830) (i := 0) (c := 8) (As := [.int (xs (4 * i + 1))]) (st := []) g1 (oC ad1 I1 J1 A1 B1 hC) mw_X8_need lk_L_105 ⟨Nat.le_of_ble_eq_true rfl, Nat.le_of_ble_eq_true rfl⟩ (by omega) (by omega) rfl rfl (Nat.le_of_ble_eq_true rfl) ⟨by show k + 0 ≤ 1200000; omega, by show n + 0 ≤ 5502250; omega⟩ rfl ?_
  rintro v' Y' I' J' A' B' ⟨rfl, ⟨ad', rfl, had⟩, hpo⟩
  refine G_sw ?_
  refine G_n g1 1 (pc' := 834) (lv' := [(0, .ref sb), (1, .ref (ad1 0)), (2, .ref (ad2 500)), (3, .int (nI (4 * i)))]) (st' := [.ref (ad2 500), .int x]) rfl ?_
  refine G_arg (pc := 834) g1 hX hL 1 (by omega) rfl rfl ?_
  refine G_callV (pc := 839) (i := 500) (c := 9) (As := [.int (xs (4 * i + 1))]) (st := [.int x]) g1 (oR ad2 I2 J2 A2 B2 hR) mw_X9_need lk_L_108 ⟨Nat.le_of_ble_eq_true rfl, Nat.le_of_ble_eq_true rfl⟩ (by omega) (by omega) rfl rfl (Nat.le_of_ble_eq_true rfl) ⟨by show k + 0 + 0 ≤ 1200000; omega, by show n + 0 + 0 ≤ 5502250; omega⟩ rfl ?_
  rintro v2 Y2 I3 J3 A3 B3 ⟨rfl, rfl, s', hs, hin⟩
  refine G_sw ?_
  obtain ⟨hM', rfl⟩ := hRel s' hs
  refine G_ic_eq (pc := 842) (tgt := 1067) g1 rfl rfl rfl ?_
  refine G_wd (k' := k + 37) (n' := n + 1820) (by show k + 0 + 0 ≤ k + 37; omega) (by show n + 0 + 0 ≤ n + 1820; omega) ?_
  exact kk s' ad' ad2 _ _ _ _ _ _ _ _ hM' (hpo s' hs) hin had rfl
def tb_L_bound : TB := [(847, .aload_n 1, 1), (848, .invokevirtual 109, 3), (851, .aload_n 2, 1), (852, .invokevirtual 113, 3), (855, .if_icmp .eq 212, 3), (858, .iconst 0, 1), (859, .ireturn, 1)]
theorem tk_L_bound : tbOk cL_law tb_L_bound := tbOk_of (by decide +kernel)
theorem L_bound (g : Good X M_L) (hX : Scr X sb L xs) (hL : L < 2 ^ 31) (hi : 4 * i + 4 ≤ L) (hk : k + 37 ≤ 1200000) (hn : n + 1820 ≤ 5502250) (kk : Hd X sb q1 q2 1067 i (k + 37) (n + 1820)) : Hd X sb q1 q2 847 i k n := by
  intro s ad1 ad2 I1 J1 A1 B1 I2 J2 A2 B2 hM hC hR h1 h2
  obtain ⟨v, z, Rel, ⟨x, rfl⟩, oC, oR, hRel⟩ := op_bound hM 
  subst h1 h2
  have g1 : Good X (yL_law, cL_law, 4, ret, room_1, tb_L_bound) := Good_tb g tk_L_bound
  refine G_n g1 1 (pc' := 848) (lv' := [(0, .ref sb), (1, .ref (ad1 0)), (2, .ref (ad2 500)), (3, .int (nI (4 * i)))]) (st' := [.ref (ad1 0)]) rfl ?_
  refine G_callV (pc := 848) (i := 0) (c := 8) (As := []) (st := []) g1 (oC ad1 I1 J1 A1 B1 hC) mw_X8_bound lk_L_109 ⟨Nat.le_of_ble_eq_true rfl, Nat.le_of_ble_eq_true rfl⟩ (by omega) (by omega) rfl rfl (Nat.le_of_ble_eq_true rfl) ⟨by show k + 0 ≤ 1200000; omega, by show n + 0 ≤ 5502250; omega⟩ rfl ?_
  rintro v' Y' I' J' A' B' ⟨rfl, ⟨ad', rfl, had⟩, hpo⟩
  refine G_sw ?_
  refine G_n g1 1 (pc' := 852) (lv' := [(0, .ref sb), (1, .ref (ad1 0)), (2, .ref (ad2 500)), (3, .int (nI (4 * i)))]) (st' := [.ref (ad2 500), .int x]) rfl ?_
  refine G_callV (pc := 852) (i := 500) (c := 9) (As := []) (st := [.int x]) g1 (oR ad2 I2 J2 A2 B2 hR) mw_X9_bound lk_L_113 ⟨Nat.le_of_ble_eq_true rfl, Nat.le_of_ble_eq_true rfl⟩ (by omega) (by omega) rfl rfl (Nat.le_of_ble_eq_true rfl) ⟨by show k + 0 + 0 ≤ 1200000; omega, by show n + 0 + 0 ≤ 5502250; omega⟩ rfl ?_
  rintro v2 Y2 I3 J3 A3 B3 ⟨rfl, rfl, s', hs, hin⟩
  refine G_sw ?_
  obtain ⟨hM', rfl⟩ := hRel s' hs
  refine G_ic_eq (pc := 855) (tgt := 1067) g1 rfl rfl rfl ?_
  refine G_wd (k' := k + 37) (n' := n + 1820) (by show k + 0 + 0 ≤ k + 37; omega) (by show n + 0 + 0 ≤ n + 1820; omega) ?_
  exact kk s' ad' ad2 _ _ _ _ _ _ _ _ hM' (hpo s' hs) hin had rfl
def tb_L_rate : TB := [(860, .aload_n 1, 1), (861, .invokevirtual 114, 3), (864, .aload_n 2, 1), (865, .invokevirtual 117, 3), (868, .if_icmp .eq 199, 3), (871, .iconst 0, 1), (872, .ireturn, 1)]
theorem tk_L_rate : tbOk cL_law tb_L_rate := tbOk_of (by decide +kernel)
theorem L_rate (g : Good X M_L) (hX : Scr X sb L xs) (hL : L < 2 ^ 31) (hi : 4 * i + 4 ≤ L) (hk : k + 37 ≤ 1200000) (hn : n + 1820 ≤ 5502250) (kk : Hd X sb q1 q2 1067 i (k + 37) (n + 1820)) : Hd X sb q1 q2 860 i k n := by
  intro s ad1 ad2 I1 J1 A1 B1 I2 J2 A2 B2 hM hC hR h1 h2
  obtain ⟨v, z, Rel, ⟨x, rfl⟩, oC, oR, hRel⟩ := op_rate hM 
  subst h1 h2
  have g1 : Good X (yL_law, cL_law, 4, ret, room_1, tb_L_rate) := Good_tb g tk_L_rate
  refine G_n g1 1 (pc' := 861) (lv' := [(0, .ref sb), (1, .ref (ad1 0)), (2, .ref (ad2 500)), (3, .int (nI (4 * i)))]) (st' := [.ref (ad1 0)]) rfl ?_
  refine G_callV (pc := 861) (i := 0) (c := 8) (As := []) (st := []) g1 (oC ad1 I1 J1 A1 B1 hC) mw_X8_rate lk_L_114 ⟨Nat.le_of_ble_eq_true rfl, Nat.le_of_ble_eq_true rfl⟩ (by omega) (by omega) rfl rfl (Nat.le_of_ble_eq_true rfl) ⟨by show k + 0 ≤ 1200000; omega, by show n + 0 ≤ 5502250; omega⟩ rfl ?_
  rintro v' Y' I' J' A' B' ⟨rfl, ⟨ad', rfl, had⟩, hpo⟩
  refine G_sw ?_
  refine G_n g1 1 (pc' := 865) (lv' := [(0, .ref sb), (1, .ref (ad1 0)), (2, .ref (ad2 500)), (3, .int (nI (4 * i)))]) (st' := [.ref (ad2 500), .int x]) rfl ?_
  refine G_callV (pc := 865) (i := 500) (c := 9) (As := []) (st := [.int x]) g1 (oR ad2 I2 J2 A2 B2 hR) mw_X9_rate lk_L_117 ⟨Nat.le_of_ble_eq_true rfl, Nat.le_of_ble_eq_true rfl⟩ (by omega) (by omega) rfl rfl (Nat.le_of_ble_eq_true rfl) ⟨by show k + 0 + 0 ≤ 1200000; omega, by show n + 0 + 0 ≤ 5502250; omega⟩ rfl ?_
  rintro v2 Y2 I3 J3 A3 B3 ⟨rfl, rfl, s', hs, hin⟩
  refine G_sw ?_
  obtain ⟨hM', rfl⟩ := hRel s' hs
  refine G_ic_eq (pc := 868) (tgt := 1067) g1 rfl rfl rfl ?_
  refine G_wd (k' := k + 37) (n' := n + 1820) (by show k + 0 + 0 ≤ k + 37; omega) (by show n + 0 + 0 ≤ n + 1820; omega) ?_
  exact kk s' ad' ad2 _ _ _ _ _ _ _ _ hM' (hpo s' hs) hin had rfl
def tb_L_formula : TB := [(873, .aload_n 1, 1), (874, .aload_n 0, 1), (875, .iload_n 3, 1), (876, .iconst 1, 1), (877, .iadd, 1), (878, .iaload, 1), (879, .invokevirtual 118, 3), (882, .aload_n 2, 1), (883, .aload_n 0, 1), (884, .iload_n 3, 1), (885, .iconst 1, 1), (886, .iadd, 1), (887, .iaload, 1), (888, .invokevirtual 121, 3), (891, .if_icmp .eq 176, 3), (894, .iconst 0, 1), (895, .ireturn, 1)]
theorem tk_L_formula : tbOk cL_law tb_L_formula := tbOk_of (by decide +kernel)
theorem L_formula (g : Good X M_L) (hX : Scr X sb L xs) (hL : L < 2 ^ 31) (hi : 4 * i + 4 ≤ L) (hk : k + 37 ≤ 1200000) (hn : n + 1820 ≤ 5502250) (kk : Hd X sb q1 q2 1067 i (k + 37) (n + 1820)) : Hd X sb q1 q2 873 i k n := by
  intro s ad1 ad2 I1 J1 A1 B1 I2 J2 A2 B2 hM hC hR h1 h2
  obtain ⟨v, z, Rel, ⟨x, rfl⟩, oC, oR, hRel⟩ := op_formula hM (xs (4 * i + 1))
  subst h1 h2
  have g1 : Good X (yL_law, cL_law, 4, ret, room_1, tb_L_formula) := Good_tb g tk_L_formula
  refine G_n g1 1 (pc' := 874) (lv' := [(0, .ref sb), (1, .ref (ad1 0)), (2, .ref (ad2 500)), (3, .int (nI (4 * i)))]) (st' := [.ref (ad1 0)]) rfl ?_
  refine G_arg (pc := 874) g1 hX hL 1 (by omega) rfl rfl ?_
  refine G_callV (pc := 879) (i := 0) (c := 8) (As := [.int (xs (4 * i + 1))]) (st := []) g1 (oC ad1 I1 J1 A1 B1 hC) mw_X8_formula lk_L_118 ⟨Nat.le_of_ble_eq_true rfl, Nat.le_of_ble_eq_true rfl⟩ (by omega) (by omega) rfl rfl (Nat.le_of_ble_eq_true rfl) ⟨by show k + 0 ≤ 1200000; omega, by show n + 0 ≤ 5502250; omega⟩ rfl ?_
  rintro v' Y' I' J' A' B' ⟨rfl, ⟨ad', rfl, had⟩, hpo⟩
  refine G_sw ?_
  refine G_n g1 1 (pc' := 883) (lv' := [(0, .ref sb), (1, .ref (ad1 0)), (2, .ref (ad2 500)), (3, .int (nI (4 * i)))]) (st' := [.ref (ad2 500), .int x]) rfl ?_
  refine G_arg (pc := 883) g1 hX hL 1 (by omega) rfl rfl ?_
  refine G_callV (pc := 888) (i := 500) (c := 9) (As := [.int (xs (4 * i + 1))]) (st := [.int x]) g1 (oR ad2 I2 J2 A2 B2 hR) mw_X9_formula lk_L_121 ⟨Nat.le_of_ble_eq_true rfl, Nat.le_of_ble_eq_true rfl⟩ (by omega) (by omega) rfl rfl (Nat.le_of_ble_eq_true rfl) ⟨by show k + 0 + 0 ≤ 1200000; omega, by show n + 0 + 0 ≤ 5502250; omega⟩ rfl ?_
  rintro v2 Y2 I3 J3 A3 B3 ⟨rfl, rfl, s', hs, hin⟩
  refine G_sw ?_
  obtain ⟨hM', rfl⟩ := hRel s' hs
  refine G_ic_eq (pc := 891) (tgt := 1067) g1 rfl rfl rfl ?_
  refine G_wd (k' := k + 37) (n' := n + 1820) (by show k + 0 + 0 ≤ k + 37; omega) (by show n + 0 + 0 ≤ n + 1820; omega) ?_
  exact kk s' ad' ad2 _ _ _ _ _ _ _ _ hM' (hpo s' hs) hin had rfl
def tb_L_sharedRate : TB := [(896, .aload_n 1, 1), (897, .invokevirtual 122, 3), (900, .aload_n 2, 1), (901, .invokevirtual 125, 3), (904, .if_icmp .eq 163, 3), (907, .iconst 0, 1), (908, .ireturn, 1)]
theorem tk_L_sharedRate : tbOk cL_law tb_L_sharedRate := tbOk_of (by decide +kernel)
theorem L_sharedRate (g : Good X M_L) (hX : Scr X sb L xs) (hL : L < 2 ^ 31) (hi : 4 * i + 4 ≤ L) (hk : k + 37 ≤ 1200000) (hn : n + 1820 ≤ 5502250) (kk : Hd X sb q1 q2 1067 i (k + 37) (n + 1820)) : Hd X sb q1 q2 896 i k n := by
  intro s ad1 ad2 I1 J1 A1 B1 I2 J2 A2 B2 hM hC hR h1 h2
  obtain ⟨v, z, Rel, ⟨x, rfl⟩, oC, oR, hRel⟩ := op_sharedRate hM 
  subst h1 h2
  have g1 : Good X (yL_law, cL_law, 4, ret, room_1, tb_L_sharedRate) := Good_tb g tk_L_sharedRate
  refine G_n g1 1 (pc' := 897) (lv' := [(0, .ref sb), (1, .ref (ad1 0)), (2, .ref (ad2 500)), (3, .int (nI (4 * i)))]) (st' := [.ref (ad1 0)]) rfl ?_
  refine G_callV (pc := 897) (i := 0) (c := 8) (As := []) (st := []) g1 (oC ad1 I1 J1 A1 B1 hC) mw_X8_sharedRate lk_L_122 ⟨Nat.le_of_ble_eq_true rfl, Nat.le_of_ble_eq_true rfl⟩ (by omega) (by omega) rfl rfl (Nat.le_of_ble_eq_true rfl) ⟨by show k + 0 ≤ 1200000; omega, by show n + 0 ≤ 5502250; omega⟩ rfl ?_
  rintro v' Y' I' J' A' B' ⟨rfl, ⟨ad', rfl, had⟩, hpo⟩
  refine G_sw ?_
  refine G_n g1 1 (pc' := 901) (lv' := [(0, .ref sb), (1, .ref (ad1 0)), (2, .ref (ad2 500)), (3, .int (nI (4 * i)))]) (st' := [.ref (ad2 500), .int x]) rfl ?_
  refine G_callV (pc := 901) (i := 500) (c := 9) (As := []) (st := [.int x]) g1 (oR ad2 I2 J2 A2 B2 hR) mw_X9_sharedRate lk_L_125 ⟨Nat.le_of_ble_eq_true rfl, Nat.le_of_ble_eq_true rfl⟩ (by omega) (by omega) rfl rfl (Nat.le_of_ble_eq_true rfl) ⟨by show k + 0 + 0 ≤ 1200000; omega, by show n + 0 + 0 ≤ 5502250; omega⟩ rfl ?_
  rintro v2 Y2 I3 J3 A3 B3 ⟨rfl, rfl, s', hs, hin⟩
  refine G_sw ?_
  obtain ⟨hM', rfl⟩ := hRel s' hs
  refine G_ic_eq (pc := 904) (tgt := 1067) g1 rfl rfl rfl ?_
  refine G_wd (k' := k + 37) (n' := n + 1820) (by show k + 0 + 0 ≤ k + 37; omega) (by show n + 0 + 0 ≤ n + 1820; omega) ?_
  exact kk s' ad' ad2 _ _ _ _ _ _ _ _ hM' (hpo s' hs) hin had rfl
def tb_L_type : TB := [(909, .aload_n 1, 1), (910, .aload_n 0, 1), (911, .iload_n 3, 1), (912, .iconst 1, 1), (913, .iadd, 1), (914, .iaload, 1), (915, .invokevirtual 126, 3), (918, .aload_n 2, 1), (919, .aload_n 0, 1), (920, .iload_n 3, 1), (921, .iconst 1, 1), (922, .iadd, 1), (923, .iaload, 1), (924, .invokevirtual 129, 3), (927, .if_icmp .eq 140, 3), (930, .iconst 0, 1), (931, .ireturn, 1)]
theorem tk_L_type : tbOk cL_law tb_L_type := tbOk_of (by decide +kernel)
theorem L_type (g : Good X M_L) (hX : Scr X sb L xs) (hL : L < 2 ^ 31) (hi : 4 * i + 4 ≤ L) (hk : k + 37 ≤ 1200000) (hn : n + 1820 ≤ 5502250) (kk : Hd X sb q1 q2 1067 i (k + 37) (n + 1820)) : Hd X sb q1 q2 909 i k n := by
  intro s ad1 ad2 I1 J1 A1 B1 I2 J2 A2 B2 hM hC hR h1 h2
  obtain ⟨v, z, Rel, ⟨x, rfl⟩, oC, oR, hRel⟩ := op_type hM (xs (4 * i + 1))
  subst h1 h2
  have g1 : Good X (yL_law, cL_law, 4, ret, room_1, tb_L_type) := Good_tb g tk_L_type
  refine G_n g1 1 (pc' := 910) (lv' := [(0, .ref sb), (1, .ref (ad1 0)), (2, .ref (ad2 500)), (3, .int (nI (4 * i)))]) (st' := [.ref (ad1 0)]) rfl ?_
  refine G_arg (pc := 910) g1 hX hL 1 (by omega) rfl rfl ?_
  refine G_callV (pc := 915) (i := 0) (c := 8) (As := [.int (xs (4 * i + 1))]) (st := []) g1 (oC ad1 I1 J1 A1 B1 hC) mw_X8_type lk_L_126 ⟨Nat.le_of_ble_eq_true rfl, Nat.le_of_ble_eq_true rfl⟩ (by omega) (by omega) rfl rfl (Nat.le_of_ble_eq_true rfl) ⟨by show k + 0 ≤ 1200000; omega, by show n + 0 ≤ 5502250; omega⟩ rfl ?_
  rintro v' Y' I' J' A' B' ⟨rfl, ⟨ad', rfl, had⟩, hpo⟩
  refine G_sw ?_
  refine G_n g1 1 (pc' := 919) (lv' := [(0, .ref sb), (1, .ref (ad1 0)), (2, .ref (ad2 500)), (3, .int (nI (4 * i)))]) (st' := [.ref (ad2 500), .int x]) rfl ?_
  refine G_arg (pc := 919) g1 hX hL 1 (by omega) rfl rfl ?_
  refine G_callV (pc := 924) (i := 500) (c := 9) (As := [.int (xs (4 * i + 1))]) (st := [.int x]) g1 (oR ad2 I2 J2 A2 B2 hR) mw_X9_type lk_L_129 ⟨Nat.le_of_ble_eq_true rfl, Nat.le_of_ble_eq_true rfl⟩ (by omega) (by omega) rfl rfl (Nat.le_of_ble_eq_true rfl) ⟨by show k + 0 + 0 ≤ 1200000; omega, by show n + 0 + 0 ≤ 5502250; omega⟩ rfl ?_
  rintro v2 Y2 I3 J3 A3 B3 ⟨rfl, rfl, s', hs, hin⟩
  refine G_sw ?_
  obtain ⟨hM', rfl⟩ := hRel s' hs
  refine G_ic_eq (pc := 927) (tgt := 1067) g1 rfl rfl rfl ?_
  refine G_wd (k' := k + 37) (n' := n + 1820) (by show k + 0 + 0 ≤ k + 37; omega) (by show n + 0 + 0 ≤ n + 1820; omega) ?_
  exact kk s' ad' ad2 _ _ _ _ _ _ _ _ hM' (hpo s' hs) hin had rfl
def tb_L_clearText : TB := [(932, .aload_n 1, 1), (933, .invokevirtual 130, 3), (936, .aload_n 2, 1), (937, .invokevirtual 133, 3), (940, .if_icmp .eq 127, 3), (943, .iconst 0, 1), (944, .ireturn, 1)]
theorem tk_L_clearText : tbOk cL_law tb_L_clearText := tbOk_of (by decide +kernel)
theorem L_clearText (g : Good X M_L) (hX : Scr X sb L xs) (hL : L < 2 ^ 31) (hi : 4 * i + 4 ≤ L) (hk : k + 37 ≤ 1200000) (hn : n + 1820 ≤ 5502250) (kk : Hd X sb q1 q2 1067 i (k + 37) (n + 1820)) : Hd X sb q1 q2 932 i k n := by
  intro s ad1 ad2 I1 J1 A1 B1 I2 J2 A2 B2 hM hC hR h1 h2
  obtain ⟨v, z, Rel, ⟨x, rfl⟩, oC, oR, hRel⟩ := op_clearText hM 
  subst h1 h2
  have g1 : Good X (yL_law, cL_law, 4, ret, room_1, tb_L_clearText) := Good_tb g tk_L_clearText
  refine G_n g1 1 (pc' := 933) (lv' := [(0, .ref sb), (1, .ref (ad1 0)), (2, .ref (ad2 500)), (3, .int (nI (4 * i)))]) (st' := [.ref (ad1 0)]) rfl ?_
  refine G_callV (pc := 933) (i := 0) (c := 8) (As := []) (st := []) g1 (oC ad1 I1 J1 A1 B1 hC) mw_X8_clearText lk_L_130 ⟨Nat.le_of_ble_eq_true rfl, Nat.le_of_ble_eq_true rfl⟩ (by omega) (by omega) rfl rfl (Nat.le_of_ble_eq_true rfl) ⟨by show k + 0 ≤ 1200000; omega, by show n + 0 ≤ 5502250; omega⟩ rfl ?_
  rintro v' Y' I' J' A' B' ⟨rfl, ⟨ad', rfl, had⟩, hpo⟩
  refine G_sw ?_
  refine G_n g1 1 (pc' := 937) (lv' := [(0, .ref sb), (1, .ref (ad1 0)), (2, .ref (ad2 500)), (3, .int (nI (4 * i)))]) (st' := [.ref (ad2 500), .int x]) rfl ?_
  refine G_callV (pc := 937) (i := 500) (c := 9) (As := []) (st := [.int x]) g1 (oR ad2 I2 J2 A2 B2 hR) mw_X9_clearText lk_L_133 ⟨Nat.le_of_ble_eq_true rfl, Nat.le_of_ble_eq_true rfl⟩ (by omega) (by omega) rfl rfl (Nat.le_of_ble_eq_true rfl) ⟨by show k + 0 + 0 ≤ 1200000; omega, by show n + 0 + 0 ≤ 5502250; omega⟩ rfl ?_
  rintro v2 Y2 I3 J3 A3 B3 ⟨rfl, rfl, s', hs, hin⟩
  refine G_sw ?_
  obtain ⟨hM', rfl⟩ := hRel s' hs
  refine G_ic_eq (pc := 940) (tgt := 1067) g1 rfl rfl rfl ?_
  refine G_wd (k' := k + 37) (n' := n + 1820) (by show k + 0 + 0 ≤ k + 37; omega) (by show n + 0 + 0 ≤ n + 1820; omega) ?_
  exact kk s' ad' ad2 _ _ _ _ _ _ _ _ hM' (hpo s' hs) hin had rfl
def tb_L_fault : TB := [(945, .aload_n 1, 1), (946, .invokevirtual 134, 3), (949, .aload_n 2, 1), (950, .invokevirtual 137, 3), (953, .if_icmp .eq 114, 3), (956, .iconst 0, 1), (957, .ireturn, 1)]
theorem tk_L_fault : tbOk cL_law tb_L_fault := tbOk_of (by decide +kernel)
theorem L_fault (g : Good X M_L) (hX : Scr X sb L xs) (hL : L < 2 ^ 31) (hi : 4 * i + 4 ≤ L) (hk : k + 37 ≤ 1200000) (hn : n + 1820 ≤ 5502250) (kk : Hd X sb q1 q2 1067 i (k + 37) (n + 1820)) : Hd X sb q1 q2 945 i k n := by
  intro s ad1 ad2 I1 J1 A1 B1 I2 J2 A2 B2 hM hC hR h1 h2
  obtain ⟨v, z, Rel, ⟨x, rfl⟩, oC, oR, hRel⟩ := op_fault hM 
  subst h1 h2
  have g1 : Good X (yL_law, cL_law, 4, ret, room_1, tb_L_fault) := Good_tb g tk_L_fault
  refine G_n g1 1 (pc' := 946) (lv' := [(0, .ref sb), (1, .ref (ad1 0)), (2, .ref (ad2 500)), (3, .int (nI (4 * i)))]) (st' := [.ref (ad1 0)]) rfl ?_
  refine G_callV (pc := 946) (i := 0) (c := 8) (As := []) (st := []) g1 (oC ad1 I1 J1 A1 B1 hC) mw_X8_fault lk_L_134 ⟨Nat.le_of_ble_eq_true rfl, Nat.le_of_ble_eq_true rfl⟩ (by omega) (by omega) rfl rfl (Nat.le_of_ble_eq_true rfl) ⟨by show k + 0 ≤ 1200000; omega, by show n + 0 ≤ 5502250; omega⟩ rfl ?_
  rintro v' Y' I' J' A' B' ⟨rfl, ⟨ad', rfl, had⟩, hpo⟩
  refine G_sw ?_
  refine G_n g1 1 (pc' := 950) (lv' := [(0, .ref sb), (1, .ref (ad1 0)), (2, .ref (ad2 500)), (3, .int (nI (4 * i)))]) (st' := [.ref (ad2 500), .int x]) rfl ?_
  refine G_callV (pc := 950) (i := 500) (c := 9) (As := []) (st := [.int x]) g1 (oR ad2 I2 J2 A2 B2 hR) mw_X9_fault lk_L_137 ⟨Nat.le_of_ble_eq_true rfl, Nat.le_of_ble_eq_true rfl⟩ (by omega) (by omega) rfl rfl (Nat.le_of_ble_eq_true rfl) ⟨by show k + 0 + 0 ≤ 1200000; omega, by show n + 0 + 0 ≤ 5502250; omega⟩ rfl ?_
  rintro v2 Y2 I3 J3 A3 B3 ⟨rfl, rfl, s', hs, hin⟩
  refine G_sw ?_
  obtain ⟨hM', rfl⟩ := hRel s' hs
  refine G_ic_eq (pc := 953) (tgt := 1067) g1 rfl rfl rfl ?_
  refine G_wd (k' := k + 37) (n' := n + 1820) (by show k + 0 + 0 ≤ k + 37; omega) (by show n + 0 + 0 ≤ n + 1820; omega) ?_
  exact kk s' ad' ad2 _ _ _ _ _ _ _ _ hM' (hpo s' hs) hin had rfl
def tb_L_run : TB := [(958, .aload_n 1, 1), (959, .invokevirtual 138, 3), (962, .aload_n 2, 1), (963, .invokevirtual 141, 3), (966, .if_icmp .eq 101, 3), (969, .iconst 0, 1), (970, .ireturn, 1)]
theorem tk_L_run : tbOk cL_law tb_L_run := tbOk_of (by decide +kernel)
theorem L_run (g : Good X M_L) (hX : Scr X sb L xs) (hL : L < 2 ^ 31) (hi : 4 * i + 4 ≤ L) (hk : k + 37 ≤ 1200000) (hn : n + 1820 ≤ 5502250) (kk : Hd X sb q1 q2 1067 i (k + 37) (n + 1820)) : Hd X sb q1 q2 958 i k n := by
  intro s ad1 ad2 I1 J1 A1 B1 I2 J2 A2 B2 hM hC hR h1 h2
  obtain ⟨v, z, Rel, ⟨x, rfl⟩, oC, oR, hRel⟩ := op_run hM 
  subst h1 h2
  have g1 : Good X (yL_law, cL_law, 4, ret, room_1, tb_L_run) := Good_tb g tk_L_run
  refine G_n g1 1 (pc' := 959) (lv' := [(0, .ref sb), (1, .ref (ad1 0)), (2, .ref (ad2 500)), (3, .int (nI (4 * i)))]) (st' := [.ref (ad1 0)]) rfl ?_
  refine G_callV (pc := 959) (i := 0) (c := 8) (As := []) (st := []) g1 (oC ad1 I1 J1 A1 B1 hC) mw_X8_run lk_L_138 ⟨Nat.le_of_ble_eq_true rfl, Nat.le_of_ble_eq_true rfl⟩ (by omega) (by omega) rfl rfl (Nat.le_of_ble_eq_true rfl) ⟨by show k + 0 ≤ 1200000; omega, by show n + 0 ≤ 5502250; omega⟩ rfl ?_
  rintro v' Y' I' J' A' B' ⟨rfl, ⟨ad', rfl, had⟩, hpo⟩
  refine G_sw ?_
  refine G_n g1 1 (pc' := 963) (lv' := [(0, .ref sb), (1, .ref (ad1 0)), (2, .ref (ad2 500)), (3, .int (nI (4 * i)))]) (st' := [.ref (ad2 500), .int x]) rfl ?_
  refine G_callV (pc := 963) (i := 500) (c := 9) (As := []) (st := [.int x]) g1 (oR ad2 I2 J2 A2 B2 hR) mw_X9_run lk_L_141 ⟨Nat.le_of_ble_eq_true rfl, Nat.le_of_ble_eq_true rfl⟩ (by omega) (by omega) rfl rfl (Nat.le_of_ble_eq_true rfl) ⟨by show k + 0 + 0 ≤ 1200000; omega, by show n + 0 + 0 ≤ 5502250; omega⟩ rfl ?_
  rintro v2 Y2 I3 J3 A3 B3 ⟨rfl, rfl, s', hs, hin⟩
  refine G_sw ?_
  obtain ⟨hM', rfl⟩ := hRel s' hs
  refine G_ic_eq (pc := 966) (tgt := 1067) g1 rfl rfl rfl ?_
  refine G_wd (k' := k + 37) (n' := n + 1820) (by show k + 0 + 0 ≤ k + 37; omega) (by show n + 0 + 0 ≤ n + 1820; omega) ?_
  exact kk s' ad' ad2 _ _ _ _ _ _ _ _ hM' (hpo s' hs) hin had rfl
def tb_L_why : TB := [(971, .aload_n 1, 1), (972, .invokevirtual 142, 3), (975, .aload_n 2, 1), (976, .invokevirtual 145, 3), (979, .if_icmp .eq 88, 3), (982, .iconst 0, 1), (983, .ireturn, 1)]
theorem tk_L_why : tbOk cL_law tb_L_why := tbOk_of (by decide +kernel)
theorem L_why (g : Good X M_L) (hX : Scr X sb L xs) (hL : L < 2 ^ 31) (hi : 4 * i + 4 ≤ L) (hk : k + 37 ≤ 1200000) (hn : n + 1820 ≤ 5502250) (kk : Hd X sb q1 q2 1067 i (k + 37) (n + 1820)) : Hd X sb q1 q2 971 i k n := by
  intro s ad1 ad2 I1 J1 A1 B1 I2 J2 A2 B2 hM hC hR h1 h2
  obtain ⟨v, z, Rel, ⟨x, rfl⟩, oC, oR, hRel⟩ := op_why hM 
  subst h1 h2
  have g1 : Good X (yL_law, cL_law, 4, ret, room_1, tb_L_why) := Good_tb g tk_L_why
  refine G_n g1 1 (pc' := 972) (lv' := [(0, .ref sb), (1, .ref (ad1 0)), (2, .ref (ad2 500)), (3, .int (nI (4 * i)))]) (st' := [.ref (ad1 0)]) rfl ?_
  refine G_callV (pc := 972) (i := 0) (c := 8) (As := []) (st := []) g1 (oC ad1 I1 J1 A1 B1 hC) mw_X8_why lk_L_142 ⟨Nat.le_of_ble_eq_true rfl, Nat.le_of_ble_eq_true rfl⟩ (by omega) (by omega) rfl rfl (Nat.le_of_ble_eq_true rfl) ⟨by show k + 0 ≤ 1200000; omega, by show n + 0 ≤ 5502250; omega⟩ rfl ?_
  rintro v' Y' I' J' A' B' ⟨rfl, ⟨ad', rfl, had⟩, hpo⟩
  refine G_sw ?_
  refine G_n g1 1 (pc' := 976) (lv' := [(0, .ref sb), (1, .ref (ad1 0)), (2, .ref (ad2 500)), (3, .int (nI (4 * i)))]) (st' := [.ref (ad2 500), .int x]) rfl ?_
  refine G_callV (pc := 976) (i := 500) (c := 9) (As := []) (st := [.int x]) g1 (oR ad2 I2 J2 A2 B2 hR) mw_X9_why lk_L_145 ⟨Nat.le_of_ble_eq_true rfl, Nat.le_of_ble_eq_true rfl⟩ (by omega) (by omega) rfl rfl (Nat.le_of_ble_eq_true rfl) ⟨by show k + 0 + 0 ≤ 1200000; omega, by show n + 0 + 0 ≤ 5502250; omega⟩ rfl ?_
  rintro v2 Y2 I3 J3 A3 B3 ⟨rfl, rfl, s', hs, hin⟩
  refine G_sw ?_
  obtain ⟨hM', rfl⟩ := hRel s' hs
  refine G_ic_eq (pc := 979) (tgt := 1067) g1 rfl rfl rfl ?_
  refine G_wd (k' := k + 37) (n' := n + 1820) (by show k + 0 + 0 ≤ k + 37; omega) (by show n + 0 + 0 ≤ n + 1820; omega) ?_
  exact kk s' ad' ad2 _ _ _ _ _ _ _ _ hM' (hpo s' hs) hin had rfl
def tb_L_save : TB := [(984, .aload_n 1, 1), (985, .aload_n 0, 1), (986, .iload_n 3, 1), (987, .iconst 1, 1), (988, .iadd, 1), (989, .iaload, 1), (990, .invokevirtual 146, 3), (993, .aload_n 2, 1), (994, .aload_n 0, 1), (995, .iload_n 3, 1), (996, .iconst 1, 1), (997, .iadd, 1), (998, .iaload, 1), (999, .invokevirtual 149, 3), (1002, .if_icmp .eq 65, 3), (1005, .iconst 0, 1), (1006, .ireturn, 1)]
theorem tk_L_save : tbOk cL_law tb_L_save := tbOk_of (by decide +kernel)
theorem L_save (g : Good X M_L) (hX : Scr X sb L xs) (hL : L < 2 ^ 31) (hi : 4 * i + 4 ≤ L) (hk : k + 37 ≤ 1200000) (hn : n + 1820 ≤ 5502250) (kk : Hd X sb q1 q2 1067 i (k + 37) (n + 1820)) : Hd X sb q1 q2 984 i k n := by
  intro s ad1 ad2 I1 J1 A1 B1 I2 J2 A2 B2 hM hC hR h1 h2
  obtain ⟨v, z, Rel, ⟨x, rfl⟩, oC, oR, hRel⟩ := op_save hM (xs (4 * i + 1))
  subst h1 h2
  have g1 : Good X (yL_law, cL_law, 4, ret, room_1, tb_L_save) := Good_tb g tk_L_save
  refine G_n g1 1 (pc' := 985) (lv' := [(0, .ref sb), (1, .ref (ad1 0)), (2, .ref (ad2 500)), (3, .int (nI (4 * i)))]) (st' := [.ref (ad1 0)]) rfl ?_
  refine G_arg (pc := 985) g1 hX hL 1 (by omega) rfl rfl ?_
  refine G_callV (pc := 990) (i := 0) (c := 8) (As := [.int (xs (4 * i + 1))]) (st := []) g1 (oC ad1 I1 J1 A1 B1 hC) mw_X8_save lk_L_146 ⟨Nat.le_of_ble_eq_true rfl, Nat.le_of_ble_eq_true rfl⟩ (by omega) (by omega) rfl rfl (Nat.le_of_ble_eq_true rfl) ⟨by show k + 37 ≤ 1200000; omega, by show n + 1820 ≤ 5502250; omega⟩ rfl ?_
  rintro v' Y' I' J' A' B' ⟨rfl, ⟨ad', rfl, had⟩, hpo⟩
  refine G_sw ?_
  refine G_n g1 1 (pc' := 994) (lv' := [(0, .ref sb), (1, .ref (ad1 0)), (2, .ref (ad2 500)), (3, .int (nI (4 * i)))]) (st' := [.ref (ad2 500), .int x]) rfl ?_
  refine G_arg (pc := 994) g1 hX hL 1 (by omega) rfl rfl ?_
  refine G_callV (pc := 999) (i := 500) (c := 9) (As := [.int (xs (4 * i + 1))]) (st := [.int x]) g1 (oR ad2 I2 J2 A2 B2 hR) mw_X9_save lk_L_149 ⟨Nat.le_of_ble_eq_true rfl, Nat.le_of_ble_eq_true rfl⟩ (by omega) (by omega) rfl rfl (Nat.le_of_ble_eq_true rfl) ⟨by show k + 37 + 0 ≤ 1200000; omega, by show n + 1820 + 0 ≤ 5502250; omega⟩ rfl ?_
  rintro v2 Y2 I3 J3 A3 B3 ⟨rfl, rfl, s', hs, hin⟩
  refine G_sw ?_
  obtain ⟨hM', rfl⟩ := hRel s' hs
  refine G_ic_eq (pc := 1002) (tgt := 1067) g1 rfl rfl rfl ?_
  refine G_wd (k' := k + 37) (n' := n + 1820) (by show k + 37 + 0 ≤ k + 37; omega) (by show n + 1820 + 0 ≤ n + 1820; omega) ?_
  exact kk s' ad' ad2 _ _ _ _ _ _ _ _ hM' (hpo s' hs) hin had rfl
def tb_L_restore : TB := [(1007, .aload_n 1, 1), (1008, .aload_n 0, 1), (1009, .iload_n 3, 1), (1010, .iconst 1, 1), (1011, .iadd, 1), (1012, .iaload, 1), (1013, .invokevirtual 150, 3), (1016, .aload_n 2, 1), (1017, .aload_n 0, 1), (1018, .iload_n 3, 1), (1019, .iconst 1, 1), (1020, .iadd, 1), (1021, .iaload, 1), (1022, .invokevirtual 153, 3), (1025, .if_icmp .eq 42, 3), (1028, .iconst 0, 1), (1029, .ireturn, 1)]
theorem tk_L_restore : tbOk cL_law tb_L_restore := tbOk_of (by decide +kernel)
theorem L_restore (g : Good X M_L) (hX : Scr X sb L xs) (hL : L < 2 ^ 31) (hi : 4 * i + 4 ≤ L) (hk : k + 37 ≤ 1200000) (hn : n + 1820 ≤ 5502250) (kk : Hd X sb q1 q2 1067 i (k + 37) (n + 1820)) : Hd X sb q1 q2 1007 i k n := by
  intro s ad1 ad2 I1 J1 A1 B1 I2 J2 A2 B2 hM hC hR h1 h2
  obtain ⟨v, z, Rel, ⟨x, rfl⟩, oC, oR, hRel⟩ := op_restore hM (xs (4 * i + 1))
  subst h1 h2
  have g1 : Good X (yL_law, cL_law, 4, ret, room_1, tb_L_restore) := Good_tb g tk_L_restore
  refine G_n g1 1 (pc' := 1008) (lv' := [(0, .ref sb), (1, .ref (ad1 0)), (2, .ref (ad2 500)), (3, .int (nI (4 * i)))]) (st' := [.ref (ad1 0)]) rfl ?_
  refine G_arg (pc := 1008) g1 hX hL 1 (by omega) rfl rfl ?_
  refine G_callV (pc := 1013) (i := 0) (c := 8) (As := [.int (xs (4 * i + 1))]) (st := []) g1 (oC ad1 I1 J1 A1 B1 hC) mw_X8_restore lk_L_150 ⟨Nat.le_of_ble_eq_true rfl, Nat.le_of_ble_eq_true rfl⟩ (by omega) (by omega) rfl rfl (Nat.le_of_ble_eq_true rfl) ⟨by show k + 0 ≤ 1200000; omega, by show n + 0 ≤ 5502250; omega⟩ rfl ?_
  rintro v' Y' I' J' A' B' ⟨rfl, ⟨ad', rfl, had⟩, hpo⟩
  refine G_sw ?_
  refine G_n g1 1 (pc' := 1017) (lv' := [(0, .ref sb), (1, .ref (ad1 0)), (2, .ref (ad2 500)), (3, .int (nI (4 * i)))]) (st' := [.ref (ad2 500), .int x]) rfl ?_
  refine G_arg (pc := 1017) g1 hX hL 1 (by omega) rfl rfl ?_
  refine G_callV (pc := 1022) (i := 500) (c := 9) (As := [.int (xs (4 * i + 1))]) (st := [.int x]) g1 (oR ad2 I2 J2 A2 B2 hR) mw_X9_restore lk_L_153 ⟨Nat.le_of_ble_eq_true rfl, Nat.le_of_ble_eq_true rfl⟩ (by omega) (by omega) rfl rfl (Nat.le_of_ble_eq_true rfl) ⟨by show k + 0 + 0 ≤ 1200000; omega, by show n + 0 + 0 ≤ 5502250; omega⟩ rfl ?_
  rintro v2 Y2 I3 J3 A3 B3 ⟨rfl, rfl, s', hs, hin⟩
  refine G_sw ?_
  obtain ⟨hM', rfl⟩ := hRel s' hs
  refine G_ic_eq (pc := 1025) (tgt := 1067) g1 rfl rfl rfl ?_
  refine G_wd (k' := k + 37) (n' := n + 1820) (by show k + 0 + 0 ≤ k + 37; omega) (by show n + 0 + 0 ≤ n + 1820; omega) ?_
  exact kk s' ad' ad2 _ _ _ _ _ _ _ _ hM' (hpo s' hs) hin had rfl
def tb_L_count : TB := [(1030, .aload_n 1, 1), (1031, .aload_n 0, 1), (1032, .iload_n 3, 1), (1033, .iconst 1, 1), (1034, .iadd, 1), (1035, .iaload, 1), (1036, .invokevirtual 154, 3), (1039, .aload_n 2, 1), (1040, .aload_n 0, 1), (1041, .iload_n 3, 1), (1042, .iconst 1, 1), (1043, .iadd, 1), (1044, .iaload, 1), (1045, .invokevirtual 157, 3), (1048, .if_icmp .eq 19, 3), (1051, .iconst 0, 1), (1052, .ireturn, 1)]
theorem tk_L_count : tbOk cL_law tb_L_count := tbOk_of (by decide +kernel)
theorem L_count (g : Good X M_L) (hX : Scr X sb L xs) (hL : L < 2 ^ 31) (hi : 4 * i + 4 ≤ L) (hk : k + 37 ≤ 1200000) (hn : n + 1820 ≤ 5502250) (kk : Hd X sb q1 q2 1067 i (k + 37) (n + 1820)) : Hd X sb q1 q2 1030 i k n := by
  intro s ad1 ad2 I1 J1 A1 B1 I2 J2 A2 B2 hM hC hR h1 h2
  obtain ⟨v, z, Rel, ⟨x, rfl⟩, oC, oR, hRel⟩ := op_count hM (xs (4 * i + 1))
  subst h1 h2
  have g1 : Good X (yL_law, cL_law, 4, ret, room_1, tb_L_count) := Good_tb g tk_L_count
  refine G_n g1 1 (pc' := 1031) (lv' := [(0, .ref sb), (1, .ref (ad1 0)), (2, .ref (ad2 500)), (3, .int (nI (4 * i)))]) (st' := [.ref (ad1 0)]) rfl ?_
  refine G_arg (pc := 1031) g1 hX hL 1 (by omega) rfl rfl ?_
  refine G_callV (pc := 1036) (i := 0) (c := 8) (As := [.int (xs (4 * i + 1))]) (st := []) g1 (oC ad1 I1 J1 A1 B1 hC) mw_X8_count lk_L_154 ⟨Nat.le_of_ble_eq_true rfl, Nat.le_of_ble_eq_true rfl⟩ (by omega) (by omega) rfl rfl (Nat.le_of_ble_eq_true rfl) ⟨by show k + 0 ≤ 1200000; omega, by show n + 0 ≤ 5502250; omega⟩ rfl ?_
  rintro v' Y' I' J' A' B' ⟨rfl, ⟨ad', rfl, had⟩, hpo⟩
  refine G_sw ?_
  refine G_n g1 1 (pc' := 1040) (lv' := [(0, .ref sb), (1, .ref (ad1 0)), (2, .ref (ad2 500)), (3, .int (nI (4 * i)))]) (st' := [.ref (ad2 500), .int x]) rfl ?_
  refine G_arg (pc := 1040) g1 hX hL 1 (by omega) rfl rfl ?_
  refine G_callV (pc := 1045) (i := 500) (c := 9) (As := [.int (xs (4 * i + 1))]) (st := [.int x]) g1 (oR ad2 I2 J2 A2 B2 hR) mw_X9_count lk_L_157 ⟨Nat.le_of_ble_eq_true rfl, Nat.le_of_ble_eq_true rfl⟩ (by omega) (by omega) rfl rfl (Nat.le_of_ble_eq_true rfl) ⟨by show k + 0 + 0 ≤ 1200000; omega, by show n + 0 + 0 ≤ 5502250; omega⟩ rfl ?_
  rintro v2 Y2 I3 J3 A3 B3 ⟨rfl, rfl, s', hs, hin⟩
  refine G_sw ?_
  obtain ⟨hM', rfl⟩ := hRel s' hs
  refine G_ic_eq (pc := 1048) (tgt := 1067) g1 rfl rfl rfl ?_
  refine G_wd (k' := k + 37) (n' := n + 1820) (by show k + 0 + 0 ≤ k + 37; omega) (by show n + 0 + 0 ≤ n + 1820; omega) ?_
  exact kk s' ad' ad2 _ _ _ _ _ _ _ _ hM' (hpo s' hs) hin had rfl
def tb_L_digest : TB := [(1053, .aload_n 1, 1), (1054, .invokevirtual 158, 3), (1057, .aload_n 2, 1), (1058, .invokevirtual 162, 3), (1061, .lcmp, 1), (1062, .ifCond .eq 5, 3), (1065, .iconst 0, 1), (1066, .ireturn, 1)]
theorem tk_L_digest : tbOk cL_law tb_L_digest := tbOk_of (by decide +kernel)
theorem L_digest (g : Good X M_L) (hX : Scr X sb L xs) (hL : L < 2 ^ 31) (hi : 4 * i + 4 ≤ L) (hk : k + 37 ≤ 1200000) (hn : n + 1820 ≤ 5502250) (kk : Hd X sb q1 q2 1067 i (k + 37) (n + 1820)) : Hd X sb q1 q2 1053 i k n := by
  intro s ad1 ad2 I1 J1 A1 B1 I2 J2 A2 B2 hM hC hR h1 h2
  obtain ⟨v, z, Rel, ⟨x, rfl⟩, oC, oR, hRel⟩ := op_digest hM 
  subst h1 h2
  have g1 : Good X (yL_law, cL_law, 4, ret, room_1, tb_L_digest) := Good_tb g tk_L_digest
  refine G_n g1 1 (pc' := 1054) (lv' := [(0, .ref sb), (1, .ref (ad1 0)), (2, .ref (ad2 500)), (3, .int (nI (4 * i)))]) (st' := [.ref (ad1 0)]) rfl ?_
  refine G_callV (pc := 1054) (i := 0) (c := 8) (As := []) (st := []) g1 (oC ad1 I1 J1 A1 B1 hC) mw_X8_digest lk_L_158 ⟨Nat.le_of_ble_eq_true rfl, Nat.le_of_ble_eq_true rfl⟩ (by omega) (by omega) rfl rfl (Nat.le_of_ble_eq_true rfl) ⟨by show k + 0 ≤ 1200000; omega, by show n + 0 ≤ 5502250; omega⟩ rfl ?_
  rintro v' Y' I' J' A' B' ⟨rfl, ⟨ad', rfl, had⟩, hpo⟩
  refine G_sw ?_
  refine G_n g1 1 (pc' := 1058) (lv' := [(0, .ref sb), (1, .ref (ad1 0)), (2, .ref (ad2 500)), (3, .int (nI (4 * i)))]) (st' := [.ref (ad2 500), .long x]) rfl ?_
  refine G_callV (pc := 1058) (i := 500) (c := 9) (As := []) (st := [.long x]) g1 (oR ad2 I2 J2 A2 B2 hR) mw_X9_digest lk_L_162 ⟨Nat.le_of_ble_eq_true rfl, Nat.le_of_ble_eq_true rfl⟩ (by omega) (by omega) rfl rfl (Nat.le_of_ble_eq_true rfl) ⟨by show k + 0 + 0 ≤ 1200000; omega, by show n + 0 + 0 ≤ 5502250; omega⟩ rfl ?_
  rintro v2 Y2 I3 J3 A3 B3 ⟨rfl, rfl, s', hs, hin⟩
  refine G_sw ?_
  obtain ⟨hM', rfl⟩ := hRel s' hs
  refine G_n g1 1 (pc' := 1062) (lv' := [(0, .ref sb), (1, .ref (ad1 0)), (2, .ref (ad2 500)), (3, .int (nI (4 * i)))]) (st' := [.int (lg_cmp x x)]) rfl ?_
  refine G_if_eq (pc := 1062) (tgt := 1067) g1 rfl rfl ((lc_eq x x).mpr rfl) ?_
  refine G_wd (k' := k + 37) (n' := n + 1820) (by show k + 0 + 0 ≤ k + 37; omega) (by show n + 0 + 0 ≤ n + 1820; omega) ?_
  exact kk s' ad' ad2 _ _ _ _ _ _ _ _ hM' (hpo s' hs) hin had rfl
def tb_L_head : TB := [(18, .iload_n 3, 1), (19, .aload_n 0, 1), (20, .arraylength, 1), (21, .iconst 4, 1), (22, .isub, 1), (23, .if_icmp .gt 1050, 3), (26, .aload_n 0, 1), (27, .iload_n 3, 1), (28, .iaload, 1), (29, .bipush 63, 2), (31, .iand, 1), (32, .tableswitch 1035 0 34 #[156, 199, 232, 265, 298, 321, 344, 387, 410, 443, 476, 499, 522, 575, 598, 621, 644, 668, 692, 725, 758, 792, 815, 828, 841, 864, 877, 900, 913, 926, 939, 952, 975, 998, 1021], 156), (1067, .iinc 3 4, 3), (1070, .goto (-1052), 3), (1073, .iconst 1, 1), (1074, .ireturn, 1)]
theorem tk_L_head : tbOk cL_law tb_L_head := tbOk_of (by decide +kernel)
theorem L_case (g : Good X M_L) (hX : Scr X sb L xs) (hL : L < 2 ^ 31) (hi : 4 * i + 4 ≤ L) (hk : k + 37 ≤ 1200000) (hn : n + 1820 ≤ 5502250) (kk : Hd X sb q1 q2 1067 i (k + 37) (n + 1820)) {t tgt : Nat} (h : [188, 231, 264, 297, 330, 353, 376, 419, 442, 475, 508, 531, 554, 607, 630, 653, 676, 700, 724, 757, 790, 824, 847, 860, 873, 896, 909, 932, 945, 958, 971, 984, 1007, 1030, 1053][t]? = some tgt) : Hd X sb q1 q2 tgt i k n := by
  match t, h with
  | 0, h => cases h; exact L_reset g hX hL hi hk hn kk
  | 1, h => cases h; exact L_setContent g hX hL hi hk hn kk
  | 2, h => cases h; exact L_store g hX hL hi hk hn kk
  | 3, h => cases h; exact L_drop g hX hL hi hk hn kk
  | 4, h => cases h; exact L_storeSubsets g hX hL hi hk hn kk
  | 5, h => cases h; exact L_storeRandom g hX hL hi hk hn kk
  | 6, h => cases h; exact L_plan g hX hL hi hk hn kk
  | 7, h => cases h; exact L_idle g hX hL hi hk hn kk
  | 8, h => cases h; exact L_cached g hX hL hi hk hn kk
  | 9, h => cases h; exact L_want g hX hL hi hk hn kk
  | 10, h => cases h; exact L_leave g hX hL hi hk hn kk
  | 11, h => cases h; exact L_join g hX hL hi hk hn kk
  | 12, h => cases h; exact L_sum g hX hL hi hk hn kk
  | 13, h => cases h; exact L_schedule g hX hL hi hk hn kk
  | 14, h => cases h; exact L_send g hX hL hi hk hn kk
  | 15, h => cases h; exact L_resend g hX hL hi hk hn kk
  | 16, h => cases h; exact L_pending g hX hL hi hk hn kk
  | 17, h => cases h; exact L_sent g hX hL hi hk hn kk
  | 18, h => cases h; exact L_user g hX hL hi hk hn kk
  | 19, h => cases h; exact L_decode g hX hL hi hk hn kk
  | 20, h => cases h; exact L_proof g hX hL hi hk hn kk
  | 21, h => cases h; exact L_need g hX hL hi hk hn kk
  | 22, h => cases h; exact L_bound g hX hL hi hk hn kk
  | 23, h => cases h; exact L_rate g hX hL hi hk hn kk
  | 24, h => cases h; exact L_formula g hX hL hi hk hn kk
  | 25, h => cases h; exact L_sharedRate g hX hL hi hk hn kk
  | 26, h => cases h; exact L_type g hX hL hi hk hn kk
  | 27, h => cases h; exact L_clearText g hX hL hi hk hn kk
  | 28, h => cases h; exact L_fault g hX hL hi hk hn kk
  | 29, h => cases h; exact L_run g hX hL hi hk hn kk
  | 30, h => cases h; exact L_why g hX hL hi hk hn kk
  | 31, h => cases h; exact L_save g hX hL hi hk hn kk
  | 32, h => cases h; exact L_restore g hX hL hi hk hn kk
  | 33, h => cases h; exact L_count g hX hL hi hk hn kk
  | 34, h => cases h; exact L_digest g hX hL hi hk hn kk
  | t + 35, h =>
    have h1 : t + 35 < 35 := (List.getElem?_eq_some_iff.mp h).1
    omega
theorem L_next (g : Good X M_L) (kk : Hd X sb q1 q2 18 (i + 1) k n) : Hd X sb q1 q2 1067 i k n := by
  intro s ad1 ad2 I1 J1 A1 B1 I2 J2 A2 B2 hM hC hR h1 h2
  have g1 : Good X (yL_law, cL_law, 4, ret, room_1, tb_L_head) := Good_tb g tk_L_head
  refine G_n g1 2 (pc' := 18) (lv' := [(0, .ref sb), (1, .ref q1), (2, .ref q2), (3, .int (nI (4 * i) + nI 4))]) (st' := []) rfl ?_
  rw [nI_add]
  exact kk s ad1 ad2 _ _ _ _ _ _ _ _ hM hC hR h1 h2
theorem L_step (g : Good X M_L) (hX : Scr X sb L xs) (hL : L ≤ 2048) (hi : 4 * i ≤ L + 3) (hk : k + 37 ≤ 1200000) (hn : n + 1820 ≤ 5502250) (ke : ∀ (a b : HS) (lv : List (Nat × Value)), SimG X a b 1073 lv [] k n) (kk : 4 * i + 4 ≤ L → Hd X sb q1 q2 18 (i + 1) (k + 37) (n + 1820)) : Hd X sb q1 q2 18 i k n := by
  have hL2 : L < 2 ^ 31 := by omega
  intro s ad1 ad2 I1 J1 A1 B1 I2 J2 A2 B2 hM hC hR h1 h2
  have g1 : Good X (yL_law, cL_law, 4, ret, room_1, tb_L_head) := Good_tb g tk_L_head
  refine G_n g1 2 (pc' := 20) (lv' := [(0, .ref sb), (1, .ref q1), (2, .ref q2), (3, .int (nI (4 * i)))]) (st' := [.ref sb, .int (nI (4 * i))]) rfl ?_
  refine G_slen (pc := 20) g1 hX rfl ?_
  refine G_n g1 2 (pc' := 23) (lv' := [(0, .ref sb), (1, .ref q1), (2, .ref q2), (3, .int (nI (4 * i)))]) (st' := [.int (Int32.ofNat L - nI 4), .int (nI (4 * i))]) rfl ?_
  refine G_ic_gt (pc := 23) (tgt := 1073) g1 rfl rfl (fun _ => ke _ _ _) (fun h => ?_)
  have hi4 : 4 * i + 4 ≤ L := by
    have h3 : (nI L).toInt = (L : Int) := nI_toInt hL2
    have h4 : (nI 4).toInt = (4 : Int) := nI_toInt (by decide)
    have e1 : (Int32.ofNat L - nI 4).toInt = (L : Int) - 4 := by
      rw [Int32.toInt_sub, show Int32.ofNat L = nI L from rfl, h3, h4]
      exact Int.bmod_eq_of_le (by omega) (by omega)
    rw [Int32.lt_iff_toInt_lt, e1, nI_toInt (by omega)] at h
    omega
  have kk' := L_next g (kk hi4)
  refine G_n g1 2 (pc' := 28) (lv' := [(0, .ref sb), (1, .ref q1), (2, .ref q2), (3, .int (nI (4 * i)))]) (st' := [.int (nI (4 * i)), .ref sb]) rfl ?_
  refine G_sld (pc := 28) g1 hX (vp_in_nI (by omega) hL2) rfl ?_
  rw [nI_clamp (by omega)]
  refine G_n g1 2 (pc' := 32) (lv' := [(0, .ref sb), (1, .ref q1), (2, .ref q2), (3, .int (nI (4 * i)))]) (st' := [.int (xs (4 * i) &&& nI 63)]) rfl ?_
  obtain ⟨t, ht, e⟩ := vp_in_of (pk_andIn (xs (4 * i)) (m := nI 63) 6 (by decide) (by decide)) (by decide)
  rw [e]
  by_cases h35 : t < 35
  · obtain ⟨tgt, hx⟩ : ∃ tgt, [188, 231, 264, 297, 330, 353, 376, 419, 442, 475, 508, 531, 554, 607, 630, 653, 676, 700, 724, 757, 790, 824, 847, 860, 873, 896, 909, 932, 945, 958, 971, 984, 1007, 1030, 1053][t]? = some tgt := ⟨_, List.getElem?_eq_getElem (by simpa using h35)⟩
    refine G_swIn (pc := 32) (off := (tgt : Int) - 32) (tgt := tgt) g1 rfl (by rw [nI_toInt (by omega)]; omega) (by rw [nI_toInt (by omega)]; omega) ?_ (by omega) (L_case g hX hL2 hi4 hk hn kk' hx s ad1 ad2 _ _ _ _ _ _ _ _ hM hC hR h1 h2)
    rw [nI_toInt (by omega)]
    have key : ∀ (t : Nat), t < 35 → ∀ tgt : Nat, [188, 231, 264, 297, 330, 353, 376, 419, 442, 475, 508, 531, 554, 607, 630, 653, 676, 700, 724, 757, 790, 824, 847, 860, 873, 896, 909, 932, 945, 958, 971, 984, 1007, 1030, 1053][t]? = some tgt → (#[156, 199, 232, 265, 298, 321, 344, 387, 410, 443, 476, 499, 522, 575, 598, 621, 644, 668, 692, 725, 758, 792, 815, 828, 841, 864, 877, 900, 913, 926, 939, 952, 975, 998, 1021] : Array Int)[((t : Int) - 0).toNat]? = some ((tgt : Int) - 32) := by
      intro t ht tgt hx
      match t, ht with
      | 0, _ => cases hx; rfl
      | 1, _ => cases hx; rfl
      | 2, _ => cases hx; rfl
      | 3, _ => cases hx; rfl
      | 4, _ => cases hx; rfl
      | 5, _ => cases hx; rfl
      | 6, _ => cases hx; rfl
      | 7, _ => cases hx; rfl
      | 8, _ => cases hx; rfl
      | 9, _ => cases hx; rfl
      | 10, _ => cases hx; rfl
      | 11, _ => cases hx; rfl
      | 12, _ => cases hx; rfl
      | 13, _ => cases hx; rfl
      | 14, _ => cases hx; rfl
      | 15, _ => cases hx; rfl
      | 16, _ => cases hx; rfl
      | 17, _ => cases hx; rfl
      | 18, _ => cases hx; rfl
      | 19, _ => cases hx; rfl
      | 20, _ => cases hx; rfl
      | 21, _ => cases hx; rfl
      | 22, _ => cases hx; rfl
      | 23, _ => cases hx; rfl
      | 24, _ => cases hx; rfl
      | 25, _ => cases hx; rfl
      | 26, _ => cases hx; rfl
      | 27, _ => cases hx; rfl
      | 28, _ => cases hx; rfl
      | 29, _ => cases hx; rfl
      | 30, _ => cases hx; rfl
      | 31, _ => cases hx; rfl
      | 32, _ => cases hx; rfl
      | 33, _ => cases hx; rfl
      | 34, _ => cases hx; rfl
      | t + 35, ht => exact absurd ht (by omega)
    exact key t h35 tgt hx
  · refine G_swOut (pc := 32) (tgt := 1067) g1 rfl (Or.inr (by rw [nI_toInt (by omega)]; omega)) rfl ?_
    exact G_wd (Nat.le_add_right _ _) (Nat.le_add_right _ _) (kk' s ad1 ad2 _ _ _ _ _ _ _ _ hM hC hR h1 h2)
theorem L_loop (g : Good X M_L) (hX : Scr X sb L xs) (hL : L ≤ 2048) (ke : ∀ (a b : HS) (lv : List (Nat × Value)) (k n : Nat), k ≤ 1200000 → n ≤ 5502250 → SimG X a b 1073 lv [] k n) : ∀ (r i : Nat), 4 * i ≤ L + 3 → L < 4 * (i + r) → Hd X sb q1 q2 18 i (100 + 37 * i) (6000 + 1820 * i)
  | 0, i, h1, h2 => L_step g hX hL h1 (by omega) (by omega) (fun a b lv => ke a b lv _ _ (by omega) (by omega)) (fun h => absurd h (by omega))
  | r + 1, i, h1, h2 => L_step g hX hL h1 (by omega) (by omega) (fun a b lv => ke a b lv _ _ (by omega) (by omega)) (fun h => by
    have h3 := L_loop g hX hL ke r (i + 1) (by omega) (by omega)
    rw [show 100 + 37 * (i + 1) = 100 + 37 * i + 37 by omega, show 6000 + 1820 * (i + 1) = 6000 + 1820 * i + 1820 by omega] at h3
    exact h3)
end LC
