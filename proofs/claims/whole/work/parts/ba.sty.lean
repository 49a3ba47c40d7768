/-! steps: move -/
section STY
variable {vn vc vw : Nat} {K L : Nat → Nat} {R : Nat → Nat → Nat} {I : Nat → Nat → Int32} {J : Nat → Nat → Int64}
variable {S : Nat → Int32} {ls : Nat}
theorem BD_mov {m : Int → Int} {h x y : Int} (hB : BD m) (hh : 0 ≤ h ∧ h < m 3) (hv : (0 ≤ x ∧ x ≤ 59) ∧ 0 ≤ y ∧ y ≤ 39) : BD (setm (setm m (20 + 5 * h + 0) x) (20 + 5 * h + 1) y) := by
  obtain ⟨h3, h4, h5, h6, h7, h8, h9, h13, h14, hbk, hhp, hpp⟩ := id hB
  obtain ⟨M, hM⟩ : ∃ M, M = setm (setm m (20 + 5 * h + 0) x) (20 + 5 * h + 1) y := ⟨_, rfl⟩
  have o : ∀ z, z ≠ 20 + 5 * h + 0 → z ≠ 20 + 5 * h + 1 → M z = m z := fun z q r => by rw [MSH_e hM, setm_o _ r, setm_o _ q]
  rw [← hM]
  refine ⟨by rw [o _ (by omega) (by omega)]; exact h3, by rw [o _ (by omega) (by omega)]; exact h4, by rw [o _ (by omega) (by omega)]; exact h5, by rw [o _ (by omega) (by omega)]; exact h6, by rw [o _ (by omega) (by omega)]; exact h7, by rw [o _ (by omega) (by omega)]; exact h8, by rw [o _ (by omega) (by omega)]; exact h9, by rw [o _ (by omega) (by omega)]; exact h13, by rw [o _ (by omega) (by omega)]; exact h14, fun b b1 b2 => ?_, fun k k1 k2 => ?_, fun p p1 p2 => ?_⟩
  · rw [o _ (by omega) (by omega)] at b2
    have g := hbk b b1 b2
    have e : ∀ j, 2 ≤ j → j < 5 → bl M b j = bl m b j := fun j a c => o _ (by omega) (by omega)
    rw [e 2 (by omega) (by omega), e 3 (by omega) (by omega), e 4 (by omega) (by omega)]
    refine ⟨?_, ?_, g.2.2⟩
    · by_cases c : b = h
      · have e0 : bl M b 0 = x := by
          unfold bl
          rw [MSH_e hM, setm_o _ (by omega)]
          exact if_pos (by omega)
        rw [e0]; exact hv.1
      · have e0 : bl M b 0 = bl m b 0 := o _ (by omega) (by omega)
        rw [e0]; exact g.1
    · by_cases c : b = h
      · have e0 : bl M b 1 = y := by
          unfold bl
          rw [MSH_e hM]
          exact if_pos (by omega)
        rw [e0]; exact hv.2
      · have e0 : bl M b 1 = bl m b 1 := o _ (by omega) (by omega)
        rw [e0]; exact g.2.1
  · rw [o _ (by omega) (by omega)] at k2
    have e : ∀ j, 0 ≤ j → j < 3 → ho M k j = ho m k j := fun j a c => o _ (by omega) (by omega)
    rw [e 0 (by omega) (by omega), e 1 (by omega) (by omega), e 2 (by omega) (by omega)]
    exact hhp k k1 k2
  · rw [o _ (by omega) (by omega)] at p2
    have e : pe M p 0 = pe m p 0 := o _ (by omega) (by omega)
    rw [e]
    exact hpp p p1 p2
theorem st_346 {d : Nat} {N : Int} {s : HS} (z : INV S ls N s) (a0 a1 a2 : Int32) : StW S ls N s (ev PR (d + 40) 346 [.ref 79, .int a0, .int a1, .int a2, .ref 304]) (ev PR (d + 40) 287 [.ref 287, .int a0, .int a1, .int a2]) := by
  obtain ⟨vn, vc, vw, K, L, R, I, J, g, mk, nx, rfl, xg, xc, xm, xs⟩ := z
  obtain ⟨b, hb'⟩ : ∃ b, b = a0.toInt := ⟨_, rfl⟩
  obtain ⟨x, hx'⟩ : ∃ x, x = a1.toInt := ⟨_, rfl⟩
  obtain ⟨y, hy'⟩ : ∃ y, y = a2.toInt := ⟨_, rfl⟩
  have rb := i_rng a0
  have rx := i_rng a1
  have ry := i_rng a2
  rw [← w_of a0, ← w_of a1, ← w_of a2, ← hb', ← hx', ← hy']
  rw [← hb'] at rb
  rw [← hx'] at rx
  rw [← hy'] at ry
  clear hb' hx' hy'
  obtain ⟨z1', z2', z3, z4, z5, z6, z7, z8⟩ := id xc.1
  have hX := z1'
  have hS := z2'
  have hM := xm.1.1
  have hB : BD (gm g) := z5
  have h3 := hB.1
  have h5 := hB.2.2.1
  have v4 : vM I = gm g := xm.1.2.2.2.1
  have gj := xc.2.2.2.2.2.2.2.2.2.2
  obtain ⟨k1, k2⟩ := gj
  by_cases c1 : 0 ≤ b ∧ b < gm g 3
  · have s206 := x_206t (d := d + 36) (b := b) (I := I) (vn := vn) (vc := vc) (vw := vw) (J := J) hX hS (by rw [z4]; omega)
    have hbk := hB.2.2.2.2.2.2.2.2.2.1 b c1.1 c1.2
    by_cases c2 : (0 ≤ x ∧ x ≤ 59) ∧ 0 ≤ y ∧ y ≤ 39
    · have s211 := x_211t (d := d + 36) (a := x) (b := y) (I := I) (vn := vn) (vc := vc) (vw := vw) (J := J) hX c2
      have s134 := sp_134 (d := d + 35) (b := b) (x := x) (y := y) (I := I) (vn := vn) (vc := vc) (vw := vw) (J := J) hS z3 (by rw [z4]; exact hB) (by rw [z4]; exact c1) (by omega)
      rw [z4] at s134
      have m225 := fun (I' : Nat → Nat → Int32) (R' : Nat → Nat → Nat) (J' : Nat → Nat → Int64) (vc' vw' : Nat) (h1 : MSH K L R') (h : vM I' = gm g) => m_225t (d := d + 37) (b := b) (I := I') (R := R') (vn := vn) (vc := vc') (vw := vw') (J := J') h1 (by rw [h]; omega)
      have m1x := fun (σ : HS) => m_216t (d := d + 38) (σ := σ) (v := x) (lo := 0) (hi := 59) (by omega)
      have m1y := fun (σ : HS) => m_216t (d := d + 38) (σ := σ) (v := y) (lo := 0) (hi := 39) (by omega)
      have m286 := fun (I' : Nat → Nat → Int32) (R' : Nat → Nat → Nat) (J' : Nat → Nat → Int64) (vc' vw' : Nat) (h1 : MSH K L R') (h : vM I' = gm g) => sp_286 (d := d + 36) (b := b) (x := x) (y := y) (I := I') (R := R') (vn := vn) (vc := vc') (vw := vw') (J := J') h1 (by rw [h]; exact hB) (by rw [h]; exact c1) (by omega)
      cases hl : lapF (gm g) b x y with
      | false =>
        rw [hl] at s134
        obtain ⟨R1, Ia, e64, ca, fa, ra⟩ := IVc_past (d := d + 35) (vn := vn) (vc := vc) (vw := vw) (J := J) xc
        obtain ⟨y1, y2, y3, y4, y5, y6, y7, y8⟩ := id ca.1
        have hX' := y1
        have hS' := y2
        have y4' : vS Ia 91 = gm g := y4
        have s960 := sp_96b (d := d + 37) (b := b) (j := 0) (I := Ia) (vn := vn) (vc := vc) (vw := vw) (J := J) hS' y3 (by rw [y4']; omega)
        have s961 := sp_96b (d := d + 37) (b := b) (j := 1) (I := Ia) (vn := vn) (vc := vc) (vw := vw) (J := J) hS' y3 (by rw [y4']; omega)
        have s970 := sp_97b (d := d + 37) (b := b) (j := 0) (v := w x) (I := Ia) (vn := vn) (vc := vc) (vw := vw) (J := J) hS' y3 (by rw [y4']; omega)
        rw [y4'] at s960 s961
        obtain ⟨Ic, hIc⟩ : ∃ Ic, Ic = u2 Ia 93 (ix (b * 5 + 0)) (w x) := ⟨_, rfl⟩
        rw [← hIc] at s970
        have vc1 : vS Ic 91 = setm (gm g) (20 + 5 * b + 0) x := by
          rw [hIc, ← y4']
          exact put_b (q := 91) (by rw [y4']; omega)
        have wc1 : Wd Ic 91 := by rw [hIc]; exact Wd_cell (q := 91) (r := 2) (by omega) y3
        have s971 := sp_97b (d := d + 37) (b := b) (j := 1) (v := w y) (I := Ic) (vn := vn) (vc := vc) (vw := vw) (J := J) hS' wc1 (by rw [vc1, setm_o _ (by omega)]; omega)
        obtain ⟨I1, hI1⟩ : ∃ I1, I1 = u2 Ic 93 (ix (b * 5 + 1)) (w y) := ⟨_, rfl⟩
        rw [← hI1] at s971
        have f01 : Fst 91 Ia I1 := by rw [hI1, hIc]; exact Fst_tr (Fst_u (by omega)) (Fst_u (by omega))
        obtain ⟨m', hm'⟩ : ∃ m', m' = setm (setm (gm g) (20 + 5 * b + 0) x) (20 + 5 * b + 1) y := ⟨_, rfl⟩
        have v1 : vS I1 91 = m' := by
          rw [hI1, hm', ← vc1]
          exact put_b (q := 91) (by rw [vc1, setm_o _ (by omega)]; omega)
        have hw1 : Wd I1 91 := by rw [hI1]; exact Wd_cell (q := 91) (r := 2) (by omega) wc1
        have B1 : BD m' := by rw [hm']; exact BD_mov hB c1 c2
        have o' : ∀ z, z < 20 ∨ 70 ≤ z → m' z = gm g z := fun z q => by rw [hm', setm_o _ (by omega), setm_o _ (by omega)]
        have hp1 : ∀ q j, 0 ≤ q → q < gm g 5 → 0 ≤ j → j < 3 → pe m' q j = pe (gm g) q j := fun q j a b c e => o' _ (by omega)
        have hG : GD N m' := GD_c xg.1 B1 ⟨o' _ (by omega), o' _ (by omega), o' _ (by omega), o' _ (by omega)⟩ (Or.inl (o' _ (by omega))) (fun z a => o' _ (by omega)) (o' _ (by omega)) (fun z a => o' _ (by omega)) (fun q a b => ⟨hp1 q 1 a b (by omega) (by omega), hp1 q 2 a b (by omega) (by omega)⟩)
        have hA : allT m' = allT (gm g) := allT_c (o' _ (by omega)) (fun q a b => hp1 q 1 a b (by omega) (by omega))
        obtain ⟨res, hres⟩ : ∃ res : Int, res = max ((x - bl (gm g) b 0).natAbs : Int) ((y - bl (gm g) b 1).natAbs : Int) := ⟨_, rfl⟩
        obtain ⟨Ib, e275, mb, m1, hb⟩ := mut_r (d := d + 38) (J' := u2 J 304 0 (w res).toInt64) (vn := vn) (vc := vc) (vw := vw) xg xm fa ra f01
        have hM' := m1.1.1
        have vb' : vM Ib = gm g := mb.1.2.2.2.1
        have s0 := sp_221 (d := d + 38) (b := b) (j := 0) (I := Ib) (vn := vn) (vc := vc) (vw := vw) (J := u2 J 304 0 (w res).toInt64) hM' (by rw [vb']; omega)
        have s1' := sp_221 (d := d + 38) (b := b) (j := 1) (I := Ib) (vn := vn) (vc := vc) (vw := vw) (J := u2 J 304 0 (w res).toInt64) hM' (by rw [vb']; omega)
        rw [vb'] at s0 s1'
        have t0 := fun (σ : HS) => sp_219 (d := d + 38) (σ := σ) (a := x - bl (gm g) b 0) (by omega)
        have t1 := fun (σ : HS) => sp_219 (d := d + 38) (σ := σ) (a := y - bl (gm g) b 1) (by omega)
        have t2 := fun (σ : HS) => sp_218 (d := d + 38) (σ := σ) (a := ((x - bl (gm g) b 0).natAbs : Int)) (b := ((y - bl (gm g) b 1).natAbs : Int)) (by omega)
        obtain ⟨n3, n4, n5, n13, n14⟩ := BD_mI (I := Ib) (by rw [vb']; exact hB)
        have e3 : mI Ib 3 = gm g 3 := by rw [← vM_s (I := Ib) (z := 3) (by omega), vb']
        obtain ⟨I2, hI2⟩ : ∃ I2, I2 = u2 (u2 Ib 288 (ix (20 + 5 * b + 0)) (w x)) 288 (ix (20 + 5 * b + 1)) (w y) := ⟨_, rfl⟩
        have iv1 : inV (u2 Ib 288 (ix (20 + 5 * b + 0)) (w x)) (20 + 5 * b + 1) := by
          unfold inV
          rw [mI_k (by omega) (by omega) (by omega)]
          omega
        have v2 : vM I2 = m' := by rw [hI2, vM_in iv1 (by omega), vM_in (by unfold inV; omega) (by omega), vb', hm']
        refine mut_f (v := w res) xg xs xc.2.2.2.2.2.1.2.1.2.1 ca f01 v1 hw1 hG hA mb m1 hb (by rw [hI2]; exact FC_tr (FC_u (by unfold ix; omega)) (FC_u (by unfold ix; omega))) v2 (by rw [hI2, mI_k (by omega) (by omega) (by omega), mI_k (by omega) (by omega) (by omega)]) ?_ ?_
        · rw [eq_346, eq_174]
          simp (disch := first | assumption | omega | (simp (disch := omega) only [vM_u, vS_u]; first | assumption | omega)) only [hK, hL, hR, hI, hN, sI, hSp, hC, hW, li, lr, ↓cnd_a, ↓cnd_o, ↓cnd_n, ↓cnd_d, ↓z0, ↓z1, ↓z2, y0n, y1i, y2r, y0e, y1e, y2e, wl_0, wl_1, wl_2, wl_3, wl_4, wl_5, wl_6, wl_7, wl_8, wl_9, wl_10, wl_11, wl_12, wl_13, wl_14, wl_15, wl_16, wl_17, wl_18, wl_19, wl_20, wl_21, wl_22, wl_23, wl_24, wl_25, wl_26, wl_27, wl_28, wl_29, wl_30, wl_31, wl_32, wl_33, wl_34, wl_35, wl_36, wl_37, wl_38, wl_39, wl_40, wl_41, wl_42, wl_43, wl_44, wl_45, wl_46, wl_47, wl_48, wl_49, wl_50, wl_51, wl_52, wl_53, wl_54, wl_55, wl_56, wl_57, wl_58, wl_59, wl_60, wl_61, wl_62, wl_63, wl_64, wl_65, wl_66, wl_67, wl_68, wl_69, wl_70, wl_71, wl_72, wl_73, wl_74, wl_75, wl_76, wl_77, wl_78, wl_79, wl_80, wl_81, wl_82, wl_83, wl_84, wl_85, wl_86, wl_87, wl_88, wl_89, wl_90, wl_91, wl_92, wl_93, wl_94, wl_95, wl_96, wl_97, wl_98, wl_99, wl_100, wl_101, wl_102, wl_103, wl_104, wl_105, wl_106, wl_107, wl_108, wl_109, wl_110, wl_111, wl_112, wl_113, wl_114, wl_115, wl_116, wl_117, wl_118, wl_119, wl_120, wl_121, wl_122, wl_123, wl_124, wl_125, wl_126, wl_127, wl_128, wl_129, wl_130, wl_159, wl_160, wl_200, wl_232, wl_255, wl_256, wl_300, wl_359, wl_360, wl_400, wl_592, wl_992, wl_999, wl_1000, wl_1024, wl_3456, wl_6512, wl_7104, wl_10000, wl_11264, wl_12345, wl_32767, wl_1000000000, wl_1103515245, wl_2000000000, w_add, w_sub, w_mul, w_neg, w_lt, w_le, w_eq, w_cl, w_in, w_nat, w_max2, w_min2, w_abs2, iltT, iltF, ileT, ileF, ieqT, ieqF, bv_01, bft, bv_0, bv_1, bv_t, bv_f, cond_true, cond_false, Bool.not_true, Bool.not_false, if_true, if_false, true_or, or_true, true_and, and_true, ↓reduceIte, decide_true, decide_false, reduceCtorEq, u2_s, u2_o, u2_k, u2_u2, Bool.true_or, Bool.or_true, Bool.false_or, Bool.or_false, Bool.and_true, Bool.true_and, Bool.and_false, Bool.false_and, eq_self, not_true_eq_false, not_false_eq_true, and_self, and_true, true_and, false_and, and_false, w_dv, dvm, sJ, k1, k2, XSH_e hX, s206, s211, SHq_e hS, s134, e64, XSH_e hX', SHq_e hS', s960, s961, s970, s971]
          rw [hres]
          rfl
        · have q1 := m225 I1 R1 (u2 J 304 0 (w res).toInt64) vc vw hM' m1.1.2.2.2.1
          have q2 := m286 I1 R1 (u2 J 304 0 (w res).toInt64) vc vw hM' m1.1.2.2.2.1
          rw [m1.1.2.2.2.1, hl] at q2
          rw [eq_287, hI2]
          simp (disch := first | assumption | omega | (simp (disch := omega) only [vM_u, vS_u]; first | assumption | omega)) only [hK, hL, hR, hI, hN, sI, hSp, hC, hW, li, lr, ↓cnd_a, ↓cnd_o, ↓cnd_n, ↓cnd_d, ↓z0, ↓z1, ↓z2, y0n, y1i, y2r, y0e, y1e, y2e, wl_0, wl_1, wl_2, wl_3, wl_4, wl_5, wl_6, wl_7, wl_8, wl_9, wl_10, wl_11, wl_12, wl_13, wl_14, wl_15, wl_16, wl_17, wl_18, wl_19, wl_20, wl_21, wl_22, wl_23, wl_24, wl_25, wl_26, wl_27, wl_28, wl_29, wl_30, wl_31, wl_32, wl_33, wl_34, wl_35, wl_36, wl_37, wl_38, wl_39, wl_40, wl_41, wl_42, wl_43, wl_44, wl_45, wl_46, wl_47, wl_48, wl_49, wl_50, wl_51, wl_52, wl_53, wl_54, wl_55, wl_56, wl_57, wl_58, wl_59, wl_60, wl_61, wl_62, wl_63, wl_64, wl_65, wl_66, wl_67, wl_68, wl_69, wl_70, wl_71, wl_72, wl_73, wl_74, wl_75, wl_76, wl_77, wl_78, wl_79, wl_80, wl_81, wl_82, wl_83, wl_84, wl_85, wl_86, wl_87, wl_88, wl_89, wl_90, wl_91, wl_92, wl_93, wl_94, wl_95, wl_96, wl_97, wl_98, wl_99, wl_100, wl_101, wl_102, wl_103, wl_104, wl_105, wl_106, wl_107, wl_108, wl_109, wl_110, wl_111, wl_112, wl_113, wl_114, wl_115, wl_116, wl_117, wl_118, wl_119, wl_120, wl_121, wl_122, wl_123, wl_124, wl_125, wl_126, wl_127, wl_128, wl_129, wl_130, wl_159, wl_160, wl_200, wl_232, wl_255, wl_256, wl_300, wl_359, wl_360, wl_400, wl_592, wl_992, wl_999, wl_1000, wl_1024, wl_3456, wl_6512, wl_7104, wl_10000, wl_11264, wl_12345, wl_32767, wl_1000000000, wl_1103515245, wl_2000000000, w_add, w_sub, w_mul, w_neg, w_lt, w_le, w_eq, w_cl, w_in, w_nat, w_max2, w_min2, w_abs2, iltT, iltF, ileT, ileF, ieqT, ieqF, bv_01, bft, bv_0, bv_1, bv_t, bv_f, cond_true, cond_false, Bool.not_true, Bool.not_false, if_true, if_false, true_or, or_true, true_and, and_true, ↓reduceIte, decide_true, decide_false, reduceCtorEq, u2_s, u2_o, u2_k, u2_u2, Bool.true_or, Bool.or_true, Bool.false_or, Bool.or_false, Bool.and_true, Bool.true_and, Bool.and_false, Bool.false_and, eq_self, not_true_eq_false, not_false_eq_true, and_self, and_true, true_and, false_and, and_false, w_dv, dvm, MSH_e hM', q1, m1x, m1y, q2]
          rw [eq_287_28]
          simp (disch := first | assumption | omega | (simp (disch := omega) only [vM_u, vS_u]; first | assumption | omega)) only [hK, hL, hR, hI, hN, sI, hSp, hC, hW, li, lr, ↓cnd_a, ↓cnd_o, ↓cnd_n, ↓cnd_d, ↓z0, ↓z1, ↓z2, y0n, y1i, y2r, y0e, y1e, y2e, wl_0, wl_1, wl_2, wl_3, wl_4, wl_5, wl_6, wl_7, wl_8, wl_9, wl_10, wl_11, wl_12, wl_13, wl_14, wl_15, wl_16, wl_17, wl_18, wl_19, wl_20, wl_21, wl_22, wl_23, wl_24, wl_25, wl_26, wl_27, wl_28, wl_29, wl_30, wl_31, wl_32, wl_33, wl_34, wl_35, wl_36, wl_37, wl_38, wl_39, wl_40, wl_41, wl_42, wl_43, wl_44, wl_45, wl_46, wl_47, wl_48, wl_49, wl_50, wl_51, wl_52, wl_53, wl_54, wl_55, wl_56, wl_57, wl_58, wl_59, wl_60, wl_61, wl_62, wl_63, wl_64, wl_65, wl_66, wl_67, wl_68, wl_69, wl_70, wl_71, wl_72, wl_73, wl_74, wl_75, wl_76, wl_77, wl_78, wl_79, wl_80, wl_81, wl_82, wl_83, wl_84, wl_85, wl_86, wl_87, wl_88, wl_89, wl_90, wl_91, wl_92, wl_93, wl_94, wl_95, wl_96, wl_97, wl_98, wl_99, wl_100, wl_101, wl_102, wl_103, wl_104, wl_105, wl_106, wl_107, wl_108, wl_109, wl_110, wl_111, wl_112, wl_113, wl_114, wl_115, wl_116, wl_117, wl_118, wl_119, wl_120, wl_121, wl_122, wl_123, wl_124, wl_125, wl_126, wl_127, wl_128, wl_129, wl_130, wl_159, wl_160, wl_200, wl_232, wl_255, wl_256, wl_300, wl_359, wl_360, wl_400, wl_592, wl_992, wl_999, wl_1000, wl_1024, wl_3456, wl_6512, wl_7104, wl_10000, wl_11264, wl_12345, wl_32767, wl_1000000000, wl_1103515245, wl_2000000000, w_add, w_sub, w_mul, w_neg, w_lt, w_le, w_eq, w_cl, w_in, w_nat, w_max2, w_min2, w_abs2, iltT, iltF, ileT, ileF, ieqT, ieqF, bv_01, bft, bv_0, bv_1, bv_t, bv_f, cond_true, cond_false, Bool.not_true, Bool.not_false, if_true, if_false, true_or, or_true, true_and, and_true, ↓reduceIte, decide_true, decide_false, reduceCtorEq, u2_s, u2_o, u2_k, u2_u2, Bool.true_or, Bool.or_true, Bool.false_or, Bool.or_false, Bool.and_true, Bool.true_and, Bool.and_false, Bool.false_and, eq_self, not_true_eq_false, not_false_eq_true, and_self, and_true, true_and, false_and, and_false, w_dv, dvm, MSH_e hM', e275, s0, s1', t0, t1, t2]
          rw [hres]
      | true =>
        rw [hl] at s134
        have q1 := m225 I R J (vc + 1) (vw + 6) hM v4
        have q2 := m286 I R J (vc + 1) (vw + 6) hM v4
        rw [v4, hl] at q2
        refine StW_e (c := 3) (v' := w 0) xg xc xm xs (by omega) ?_ ?_
        · rw [eq_346, eq_174]
          simp (disch := first | assumption | omega | (simp (disch := omega) only [vM_u, vS_u]; first | assumption | omega)) only [hK, hL, hR, hI, hN, sI, hSp, hC, hW, li, lr, ↓cnd_a, ↓cnd_o, ↓cnd_n, ↓cnd_d, ↓z0, ↓z1, ↓z2, y0n, y1i, y2r, y0e, y1e, y2e, wl_0, wl_1, wl_2, wl_3, wl_4, wl_5, wl_6, wl_7, wl_8, wl_9, wl_10, wl_11, wl_12, wl_13, wl_14, wl_15, wl_16, wl_17, wl_18, wl_19, wl_20, wl_21, wl_22, wl_23, wl_24, wl_25, wl_26, wl_27, wl_28, wl_29, wl_30, wl_31, wl_32, wl_33, wl_34, wl_35, wl_36, wl_37, wl_38, wl_39, wl_40, wl_41, wl_42, wl_43, wl_44, wl_45, wl_46, wl_47, wl_48, wl_49, wl_50, wl_51, wl_52, wl_53, wl_54, wl_55, wl_56, wl_57, wl_58, wl_59, wl_60, wl_61, wl_62, wl_63, wl_64, wl_65, wl_66, wl_67, wl_68, wl_69, wl_70, wl_71, wl_72, wl_73, wl_74, wl_75, wl_76, wl_77, wl_78, wl_79, wl_80, wl_81, wl_82, wl_83, wl_84, wl_85, wl_86, wl_87, wl_88, wl_89, wl_90, wl_91, wl_92, wl_93, wl_94, wl_95, wl_96, wl_97, wl_98, wl_99, wl_100, wl_101, wl_102, wl_103, wl_104, wl_105, wl_106, wl_107, wl_108, wl_109, wl_110, wl_111, wl_112, wl_113, wl_114, wl_115, wl_116, wl_117, wl_118, wl_119, wl_120, wl_121, wl_122, wl_123, wl_124, wl_125, wl_126, wl_127, wl_128, wl_129, wl_130, wl_159, wl_160, wl_200, wl_232, wl_255, wl_256, wl_300, wl_359, wl_360, wl_400, wl_592, wl_992, wl_999, wl_1000, wl_1024, wl_3456, wl_6512, wl_7104, wl_10000, wl_11264, wl_12345, wl_32767, wl_1000000000, wl_1103515245, wl_2000000000, w_add, w_sub, w_mul, w_neg, w_lt, w_le, w_eq, w_cl, w_in, w_nat, w_max2, w_min2, w_abs2, iltT, iltF, ileT, ileF, ieqT, ieqF, bv_01, bft, bv_0, bv_1, bv_t, bv_f, cond_true, cond_false, Bool.not_true, Bool.not_false, if_true, if_false, true_or, or_true, true_and, and_true, ↓reduceIte, decide_true, decide_false, reduceCtorEq, u2_s, u2_o, u2_k, u2_u2, Bool.true_or, Bool.or_true, Bool.false_or, Bool.or_false, Bool.and_true, Bool.true_and, Bool.and_false, Bool.false_and, eq_self, not_true_eq_false, not_false_eq_true, and_self, and_true, true_and, false_and, and_false, w_dv, dvm, XSH_e hX, s206, s211, SHq_e hS, s134]
          all_goals rfl
        · rw [eq_287]
          simp (disch := first | assumption | omega | (simp (disch := omega) only [vM_u, vS_u]; first | assumption | omega)) only [hK, hL, hR, hI, hN, sI, hSp, hC, hW, li, lr, ↓cnd_a, ↓cnd_o, ↓cnd_n, ↓cnd_d, ↓z0, ↓z1, ↓z2, y0n, y1i, y2r, y0e, y1e, y2e, wl_0, wl_1, wl_2, wl_3, wl_4, wl_5, wl_6, wl_7, wl_8, wl_9, wl_10, wl_11, wl_12, wl_13, wl_14, wl_15, wl_16, wl_17, wl_18, wl_19, wl_20, wl_21, wl_22, wl_23, wl_24, wl_25, wl_26, wl_27, wl_28, wl_29, wl_30, wl_31, wl_32, wl_33, wl_34, wl_35, wl_36, wl_37, wl_38, wl_39, wl_40, wl_41, wl_42, wl_43, wl_44, wl_45, wl_46, wl_47, wl_48, wl_49, wl_50, wl_51, wl_52, wl_53, wl_54, wl_55, wl_56, wl_57, wl_58, wl_59, wl_60, wl_61, wl_62, wl_63, wl_64, wl_65, wl_66, wl_67, wl_68, wl_69, wl_70, wl_71, wl_72, wl_73, wl_74, wl_75, wl_76, wl_77, wl_78, wl_79, wl_80, wl_81, wl_82, wl_83, wl_84, wl_85, wl_86, wl_87, wl_88, wl_89, wl_90, wl_91, wl_92, wl_93, wl_94, wl_95, wl_96, wl_97, wl_98, wl_99, wl_100, wl_101, wl_102, wl_103, wl_104, wl_105, wl_106, wl_107, wl_108, wl_109, wl_110, wl_111, wl_112, wl_113, wl_114, wl_115, wl_116, wl_117, wl_118, wl_119, wl_120, wl_121, wl_122, wl_123, wl_124, wl_125, wl_126, wl_127, wl_128, wl_129, wl_130, wl_159, wl_160, wl_200, wl_232, wl_255, wl_256, wl_300, wl_359, wl_360, wl_400, wl_592, wl_992, wl_999, wl_1000, wl_1024, wl_3456, wl_6512, wl_7104, wl_10000, wl_11264, wl_12345, wl_32767, wl_1000000000, wl_1103515245, wl_2000000000, w_add, w_sub, w_mul, w_neg, w_lt, w_le, w_eq, w_cl, w_in, w_nat, w_max2, w_min2, w_abs2, iltT, iltF, ileT, ileF, ieqT, ieqF, bv_01, bft, bv_0, bv_1, bv_t, bv_f, cond_true, cond_false, Bool.not_true, Bool.not_false, if_true, if_false, true_or, or_true, true_and, and_true, ↓reduceIte, decide_true, decide_false, reduceCtorEq, u2_s, u2_o, u2_k, u2_u2, Bool.true_or, Bool.or_true, Bool.false_or, Bool.or_false, Bool.and_true, Bool.true_and, Bool.and_false, Bool.false_and, eq_self, not_true_eq_false, not_false_eq_true, and_self, and_true, true_and, false_and, and_false, w_dv, dvm, MSH_e hM, q1, m1x, m1y, q2]
          rw [eq_287_28]
          simp (disch := first | assumption | omega | (simp (disch := omega) only [vM_u, vS_u]; first | assumption | omega)) only [hK, hL, hR, hI, hN, sI, hSp, hC, hW, li, lr, ↓cnd_a, ↓cnd_o, ↓cnd_n, ↓cnd_d, ↓z0, ↓z1, ↓z2, y0n, y1i, y2r, y0e, y1e, y2e, wl_0, wl_1, wl_2, wl_3, wl_4, wl_5, wl_6, wl_7, wl_8, wl_9, wl_10, wl_11, wl_12, wl_13, wl_14, wl_15, wl_16, wl_17, wl_18, wl_19, wl_20, wl_21, wl_22, wl_23, wl_24, wl_25, wl_26, wl_27, wl_28, wl_29, wl_30, wl_31, wl_32, wl_33, wl_34, wl_35, wl_36, wl_37, wl_38, wl_39, wl_40, wl_41, wl_42, wl_43, wl_44, wl_45, wl_46, wl_47, wl_48, wl_49, wl_50, wl_51, wl_52, wl_53, wl_54, wl_55, wl_56, wl_57, wl_58, wl_59, wl_60, wl_61, wl_62, wl_63, wl_64, wl_65, wl_66, wl_67, wl_68, wl_69, wl_70, wl_71, wl_72, wl_73, wl_74, wl_75, wl_76, wl_77, wl_78, wl_79, wl_80, wl_81, wl_82, wl_83, wl_84, wl_85, wl_86, wl_87, wl_88, wl_89, wl_90, wl_91, wl_92, wl_93, wl_94, wl_95, wl_96, wl_97, wl_98, wl_99, wl_100, wl_101, wl_102, wl_103, wl_104, wl_105, wl_106, wl_107, wl_108, wl_109, wl_110, wl_111, wl_112, wl_113, wl_114, wl_115, wl_116, wl_117, wl_118, wl_119, wl_120, wl_121, wl_122, wl_123, wl_124, wl_125, wl_126, wl_127, wl_128, wl_129, wl_130, wl_159, wl_160, wl_200, wl_232, wl_255, wl_256, wl_300, wl_359, wl_360, wl_400, wl_592, wl_992, wl_999, wl_1000, wl_1024, wl_3456, wl_6512, wl_7104, wl_10000, wl_11264, wl_12345, wl_32767, wl_1000000000, wl_1103515245, wl_2000000000, w_add, w_sub, w_mul, w_neg, w_lt, w_le, w_eq, w_cl, w_in, w_nat, w_max2, w_min2, w_abs2, iltT, iltF, ileT, ileF, ieqT, ieqF, bv_01, bft, bv_0, bv_1, bv_t, bv_f, cond_true, cond_false, Bool.not_true, Bool.not_false, if_true, if_false, true_or, or_true, true_and, and_true, ↓reduceIte, decide_true, decide_false, reduceCtorEq, u2_s, u2_o, u2_k, u2_u2, Bool.true_or, Bool.or_true, Bool.false_or, Bool.or_false, Bool.and_true, Bool.true_and, Bool.and_false, Bool.false_and, eq_self, not_true_eq_false, not_false_eq_true, and_self, and_true, true_and, false_and, and_false, w_dv, dvm, MSH_e hM]
    · sorry
  · have s206 := x_206f (d := d + 36) (b := b) (I := I) (vn := vn) (vc := vc) (vw := vw) (J := J) hX hS (by rw [z4]; omega)
    have q1 := m_225f (d := d + 37) (b := b) (I := I) (vn := vn) (vc := vc + 1) (vw := vw + 6) (J := J) hM (by rw [v4]; omega)
    refine StW_e (c := 1) (v' := w 0) xg xc xm xs (by omega) ?_ ?_
    · rw [eq_346, eq_174]
      simp (disch := first | assumption | omega | (simp (disch := omega) only [vM_u, vS_u]; first | assumption | omega)) only [hK, hL, hR, hI, hN, sI, hSp, hC, hW, li, lr, ↓cnd_a, ↓cnd_o, ↓cnd_n, ↓cnd_d, ↓z0, ↓z1, ↓z2, y0n, y1i, y2r, y0e, y1e, y2e, wl_0, wl_1, wl_2, wl_3, wl_4, wl_5, wl_6, wl_7, wl_8, wl_9, wl_10, wl_11, wl_12, wl_13, wl_14, wl_15, wl_16, wl_17, wl_18, wl_19, wl_20, wl_21, wl_22, wl_23, wl_24, wl_25, wl_26, wl_27, wl_28, wl_29, wl_30, wl_31, wl_32, wl_33, wl_34, wl_35, wl_36, wl_37, wl_38, wl_39, wl_40, wl_41, wl_42, wl_43, wl_44, wl_45, wl_46, wl_47, wl_48, wl_49, wl_50, wl_51, wl_52, wl_53, wl_54, wl_55, wl_56, wl_57, wl_58, wl_59, wl_60, wl_61, wl_62, wl_63, wl_64, wl_65, wl_66, wl_67, wl_68, wl_69, wl_70, wl_71, wl_72, wl_73, wl_74, wl_75, wl_76, wl_77, wl_78, wl_79, wl_80, wl_81, wl_82, wl_83, wl_84, wl_85, wl_86, wl_87, wl_88, wl_89, wl_90, wl_91, wl_92, wl_93, wl_94, wl_95, wl_96, wl_97, wl_98, wl_99, wl_100, wl_101, wl_102, wl_103, wl_104, wl_105, wl_106, wl_107, wl_108, wl_109, wl_110, wl_111, wl_112, wl_113, wl_114, wl_115, wl_116, wl_117, wl_118, wl_119, wl_120, wl_121, wl_122, wl_123, wl_124, wl_125, wl_126, wl_127, wl_128, wl_129, wl_130, wl_159, wl_160, wl_200, wl_232, wl_255, wl_256, wl_300, wl_359, wl_360, wl_400, wl_592, wl_992, wl_999, wl_1000, wl_1024, wl_3456, wl_6512, wl_7104, wl_10000, wl_11264, wl_12345, wl_32767, wl_1000000000, wl_1103515245, wl_2000000000, w_add, w_sub, w_mul, w_neg, w_lt, w_le, w_eq, w_cl, w_in, w_nat, w_max2, w_min2, w_abs2, iltT, iltF, ileT, ileF, ieqT, ieqF, bv_01, bft, bv_0, bv_1, bv_t, bv_f, cond_true, cond_false, Bool.not_true, Bool.not_false, if_true, if_false, true_or, or_true, true_and, and_true, ↓reduceIte, decide_true, decide_false, reduceCtorEq, u2_s, u2_o, u2_k, u2_u2, Bool.true_or, Bool.or_true, Bool.false_or, Bool.or_false, Bool.and_true, Bool.true_and, Bool.and_false, Bool.false_and, eq_self, not_true_eq_false, not_false_eq_true, and_self, and_true, true_and, false_and, and_false, w_dv, dvm, XSH_e hX, s206]
      all_goals rfl
    · rw [eq_287]
      simp (disch := first | assumption | omega | (simp (disch := omega) only [vM_u, vS_u]; first | assumption | omega)) only [hK, hL, hR, hI, hN, sI, hSp, hC, hW, li, lr, ↓cnd_a, ↓cnd_o, ↓cnd_n, ↓cnd_d, ↓z0, ↓z1, ↓z2, y0n, y1i, y2r, y0e, y1e, y2e, wl_0, wl_1, wl_2, wl_3, wl_4, wl_5, wl_6, wl_7, wl_8, wl_9, wl_10, wl_11, wl_12, wl_13, wl_14, wl_15, wl_16, wl_17, wl_18, wl_19, wl_20, wl_21, wl_22, wl_23, wl_24, wl_25, wl_26, wl_27, wl_28, wl_29, wl_30, wl_31, wl_32, wl_33, wl_34, wl_35, wl_36, wl_37, wl_38, wl_39, wl_40, wl_41, wl_42, wl_43, wl_44, wl_45, wl_46, wl_47, wl_48, wl_49, wl_50, wl_51, wl_52, wl_53, wl_54, wl_55, wl_56, wl_57, wl_58, wl_59, wl_60, wl_61, wl_62, wl_63, wl_64, wl_65, wl_66, wl_67, wl_68, wl_69, wl_70, wl_71, wl_72, wl_73, wl_74, wl_75, wl_76, wl_77, wl_78, wl_79, wl_80, wl_81, wl_82, wl_83, wl_84, wl_85, wl_86, wl_87, wl_88, wl_89, wl_90, wl_91, wl_92, wl_93, wl_94, wl_95, wl_96, wl_97, wl_98, wl_99, wl_100, wl_101, wl_102, wl_103, wl_104, wl_105, wl_106, wl_107, wl_108, wl_109, wl_110, wl_111, wl_112, wl_113, wl_114, wl_115, wl_116, wl_117, wl_118, wl_119, wl_120, wl_121, wl_122, wl_123, wl_124, wl_125, wl_126, wl_127, wl_128, wl_129, wl_130, wl_159, wl_160, wl_200, wl_232, wl_255, wl_256, wl_300, wl_359, wl_360, wl_400, wl_592, wl_992, wl_999, wl_1000, wl_1024, wl_3456, wl_6512, wl_7104, wl_10000, wl_11264, wl_12345, wl_32767, wl_1000000000, wl_1103515245, wl_2000000000, w_add, w_sub, w_mul, w_neg, w_lt, w_le, w_eq, w_cl, w_in, w_nat, w_max2, w_min2, w_abs2, iltT, iltF, ileT, ileF, ieqT, ieqF, bv_01, bft, bv_0, bv_1, bv_t, bv_f, cond_true, cond_false, Bool.not_true, Bool.not_false, if_true, if_false, true_or, or_true, true_and, and_true, ↓reduceIte, decide_true, decide_false, reduceCtorEq, u2_s, u2_o, u2_k, u2_u2, Bool.true_or, Bool.or_true, Bool.false_or, Bool.or_false, Bool.and_true, Bool.true_and, Bool.and_false, Bool.false_and, eq_self, not_true_eq_false, not_false_eq_true, and_self, and_true, true_and, false_and, and_false, w_dv, dvm, MSH_e hM, q1]
      rw [eq_287_28]
      simp (disch := first | assumption | omega | (simp (disch := omega) only [vM_u, vS_u]; first | assumption | omega)) only [hK, hL, hR, hI, hN, sI, hSp, hC, hW, li, lr, ↓cnd_a, ↓cnd_o, ↓cnd_n, ↓cnd_d, ↓z0, ↓z1, ↓z2, y0n, y1i, y2r, y0e, y1e, y2e, wl_0, wl_1, wl_2, wl_3, wl_4, wl_5, wl_6, wl_7, wl_8, wl_9, wl_10, wl_11, wl_12, wl_13, wl_14, wl_15, wl_16, wl_17, wl_18, wl_19, wl_20, wl_21, wl_22, wl_23, wl_24, wl_25, wl_26, wl_27, wl_28, wl_29, wl_30, wl_31, wl_32, wl_33, wl_34, wl_35, wl_36, wl_37, wl_38, wl_39, wl_40, wl_41, wl_42, wl_43, wl_44, wl_45, wl_46, wl_47, wl_48, wl_49, wl_50, wl_51, wl_52, wl_53, wl_54, wl_55, wl_56, wl_57, wl_58, wl_59, wl_60, wl_61, wl_62, wl_63, wl_64, wl_65, wl_66, wl_67, wl_68, wl_69, wl_70, wl_71, wl_72, wl_73, wl_74, wl_75, wl_76, wl_77, wl_78, wl_79, wl_80, wl_81, wl_82, wl_83, wl_84, wl_85, wl_86, wl_87, wl_88, wl_89, wl_90, wl_91, wl_92, wl_93, wl_94, wl_95, wl_96, wl_97, wl_98, wl_99, wl_100, wl_101, wl_102, wl_103, wl_104, wl_105, wl_106, wl_107, wl_108, wl_109, wl_110, wl_111, wl_112, wl_113, wl_114, wl_115, wl_116, wl_117, wl_118, wl_119, wl_120, wl_121, wl_122, wl_123, wl_124, wl_125, wl_126, wl_127, wl_128, wl_129, wl_130, wl_159, wl_160, wl_200, wl_232, wl_255, wl_256, wl_300, wl_359, wl_360, wl_400, wl_592, wl_992, wl_999, wl_1000, wl_1024, wl_3456, wl_6512, wl_7104, wl_10000, wl_11264, wl_12345, wl_32767, wl_1000000000, wl_1103515245, wl_2000000000, w_add, w_sub, w_mul, w_neg, w_lt, w_le, w_eq, w_cl, w_in, w_nat, w_max2, w_min2, w_abs2, iltT, iltF, ileT, ileF, ieqT, ieqF, bv_01, bft, bv_0, bv_1, bv_t, bv_f, cond_true, cond_false, Bool.not_true, Bool.not_false, if_true, if_false, true_or, or_true, true_and, and_true, ↓reduceIte, decide_true, decide_false, reduceCtorEq, u2_s, u2_o, u2_k, u2_u2, Bool.true_or, Bool.or_true, Bool.false_or, Bool.or_false, Bool.and_true, Bool.true_and, Bool.and_false, Bool.false_and, eq_self, not_true_eq_false, not_false_eq_true, and_self, and_true, true_and, false_and, and_false, w_dv, dvm, MSH_e hM]
end STY
