/-! steps: toss -/
section STO
variable {vn vc vw : Nat} {K L : Nat → Nat} {R : Nat → Nat → Nat} {I : Nat → Nat → Int32} {J : Nat → Nat → Int64}
variable {S : Nat → Int32} {ls : Nat}
theorem allT_b {N : Int} {m : Int → Int} (g : GD N m) (hN : 0 ≤ N ∧ N ≤ 3000) : 0 ≤ allT m ∧ allT m ≤ 18000 := by
  obtain ⟨hB, hP, hG, hT, h0⟩ := g
  have h5 := hB.2.2.1
  have := sm_b (f := fun p => pe m p 1) (M := 3000) (m 5).toNat 0 (fun j a b => by have := hT j a (by omega); omega)
  unfold allT
  omega
theorem st_345 {d : Nat} {N : Int} {s : HS} (z : INV S ls N s) (hN : 0 ≤ N ∧ N ≤ 1000) (a0 a1 a2 a3 a4 : Int32) : StW S ls N s (ev PR (d + 40) 345 [.ref 79, .int a0, .int a1, .int a2, .int a3, .int a4, .ref 304]) (ev PR (d + 40) 283 [.ref 287, .int a0, .int a1, .int a2, .int a3, .int a4]) := by
  obtain ⟨vn, vc, vw, K, L, R, I, J, g, mk, nx, rfl, xg, xc, xm, xs⟩ := z
  obtain ⟨p, hp⟩ : ∃ p, p = a0.toInt := ⟨_, rfl⟩
  obtain ⟨h, hh⟩ : ∃ h, h = a1.toInt := ⟨_, rfl⟩
  obtain ⟨f, hf⟩ : ∃ f, f = a2.toInt := ⟨_, rfl⟩
  obtain ⟨hi, hhi⟩ : ∃ hi, hi = a3.toInt := ⟨_, rfl⟩
  obtain ⟨pa, hpa⟩ : ∃ pa, pa = a4.toInt := ⟨_, rfl⟩
  have rp := i_rng a0
  have rh := i_rng a1
  have rf := i_rng a2
  have rhi := i_rng a3
  have rpa := i_rng a4
  rw [← w_of a0, ← w_of a1, ← w_of a2, ← w_of a3, ← w_of a4, ← hp, ← hh, ← hf, ← hhi, ← hpa]
  rw [← hp] at rp
  rw [← hh] at rh
  rw [← hf] at rf
  rw [← hhi] at rhi
  rw [← hpa] at rpa
  clear hp hh hf hhi hpa
  obtain ⟨z1', z2', z3, z4, z5, z6, z7, z8⟩ := id xc.1
  have hX := z1'
  have hS := z2'
  have hM := xm.1.1
  have hB : BD (gm g) := z5
  have h4 := hB.2.1
  have h5 := hB.2.2.1
  have v4 : vM I = gm g := xm.1.2.2.2.1
  have gj := xc.2.2.2.2.2.2.2.2.2.2
  obtain ⟨k1, k2⟩ := gj
  by_cases c1 : vPH (gm g) p h
  · unfold vPH at c1
    have s208 := x_210t (d := d + 36) (b := p) (I := I) (vn := vn) (vc := vc) (vw := vw) (J := J) hX hS (by rw [z4]; omega)
    have s207 := x_209t (d := d + 36) (b := h) (I := I) (vn := vn) (vc := vc) (vw := vw) (J := J) hX hS (by rw [z4]; omega)
    by_cases c2 : vTH f hi pa
    · unfold vTH at c2
      have s212 := x_214t (d := d + 35) (a := f) (b := hi) (c := pa) (I := I) (vn := vn) (vc := vc) (vw := vw) (J := J) hX c2
      obtain ⟨R1, Ia, e64, ca, fa, ra⟩ := IVc_past (d := d + 35) (vn := vn) (vc := vc) (vw := vw) (J := J) xc
      have ca1 : CQ K L R1 Ia (gm g) (gss g) (gln g) mk := ca.1
      have hX1 := ca1.1
      obtain ⟨It, R2, e204, t1', t2', t3', t4', t5'⟩ := x_206 (d := d + 32) (p := p) (h := h) (f := f) (hi := hi) (pa := pa) (vn := vn) (vc := vc) (vw := vw) (J := J) ca1 c1.1 c1.2 (by have := xc.2.1; omega)
      have h115 : Wd It 115 := Wd_f' (fun a q => t4' _ _ (by omega) (by omega) (by omega)) ca.2.2.2.2.2.2.2.1.2
      have ct := IVc_x (g := gRem g) (mk := mk) (mk' := mk + 1) t3' (by omega) (FX_y t4') (RA_y t5') h115 ca
      have hX2 := t3'.1
      obtain ⟨hG0, hA0⟩ : GD N (gm g) ∧ True := ⟨xg.1, trivial⟩
      have hps := hB.2.2.2.2.2.2.2.2.2.2.2 p c1.1.1 c1.1.2
      obtain ⟨Ih, e119, v1, w1, f1⟩ := sp_119 (d := d + 32) (q := 91) (vn := vn) (vc := vc) (vw := vw) (J := J) t3'.1 t3'.2.1 (by omega) (by omega) t3'.2.2.1 t3'.2.2.2.1 hB (PL_mono (by omega) hG0.2.1) (PT_mono (by omega) hG0.2.2.2.1) t1' hps c1.1 c1.2 ⟨c2.1, c2.2.2⟩
      -- the reference
      have rA : ∀ a k, a < 91 ∨ 287 ≤ a → Ih a k = I a k := fun a k q => by
        rw [f1 a k (by omega), t4' a k (by omega) (by omega) (by omega), fa a k (by omega)]
      have rR : ∀ a k, 287 ≤ a → R2 a k = R a k := fun a k q => by rw [t5' a k (by omega), ra a k (by omega)]
      have m1 : IVm K L R2 Ih g := IVm_cls (fun a k q => rA a k (by omega)) rR xm
      obtain ⟨sy, hsy⟩ : ∃ sy, sy = syA (gss g) (gln g) p h f hi pa (pe (gm g) p 0) (pe (gm g) p 1) (ho (gm g) h 2) := ⟨_, rfl⟩
      have hb : ∀ k, 0 ≤ sy k ∧ sy k ≤ 758 := fun k => by rw [hsy]; exact RLaw_b xm.1.2.2.1 _ k
      obtain ⟨c, hc⟩ : ∃ c, c = thC (gm g) p h (aX sy f) (aY sy pa) (aS sy (pe (gm g) p 0)) (sy 5) := ⟨_, rfl⟩
      obtain ⟨m', hm'⟩ : ∃ m', m' = thM (gm g) p h (aX sy f) (aY sy pa) (aS sy (pe (gm g) p 0)) (sy 5) := ⟨_, rfl⟩
      have b0 := hb 0
      have b1 := hb 1
      have b2 := hb 2
      have b3 := hb 3
      have b4 := hb 4
      have b5 := hb 5
      have gth := GD_th (X := aX sy f) (Y := aY sy pa) (sp := aS sy (pe (gm g) p 0)) (st := sy 5) hG0 (by omega) c1.1 c1.2 ⟨by unfold aX; omega, by unfold aY; omega, aS_b b4.1 hps, by omega⟩
      rw [← hm'] at gth
      rw [← hsy, ← hc] at e119
      rw [← hsy, ← hm'] at v1
      have m0 : IVm K L R2 (u2 Ih 287 0 (w 0)) g := IVm_f f_u0.2 (by rw [u2_r, if_neg (by omega)]; exact m1.1.2.2.2.2.2) m1
      obtain ⟨Ib, e275, mb, fb⟩ := IVm_past (d := d + 38) (vn := vn) (vc := vc) (vw := vw) (J := u2 J 304 0 (w c).toInt64) xg m0
      have hT0 := allT_b hG0 (by omega)
      have mb1 : QR K L R2 Ib (gm g) (gss g) (gln g) := mb.1
      have e12 := mb.2.1
      have e12' : mI Ib 12 = allT (gm g) := e12
      obtain ⟨I2, e280, v2, t12, f2, i15⟩ := sp_282 (d := d + 4) (p := p) (h := h) (f := f) (hi := hi) (pa := pa) (sk := pe (gm g) p 0) (th := pe (gm g) p 1) (we := ho (gm g) h 2) (vn := vn) (vc := vc) (vw := vw) (J := u2 J 304 0 (w c).toInt64) mb1 (PL_mono (by omega) hG0.2.1) (PT_mono (by omega) hG0.2.2.2.1) (by omega) c1.1 c1.2 ⟨c2.1, c2.2.2⟩ rfl rfl rfl
      rw [← hsy, ← hm'] at v2
      rw [← hsy, ← hc] at e280
      have q273 := m_275t (d := d + 36) (I := Ih) (R := R2) (p := p) (h := h) (a := f) (b := hi) (c := pa) (vn := vn) (vc := vc) (vw := vw) (J := u2 J 304 0 (w c).toInt64) m1.1.1 (by rw [m1.1.2.2.2.1]; omega) ⟨by rw [m1.1.2.2.2.1]; exact c1, c2⟩
      have hM2 := m1.1.1
      refine StW_i (g := gMut (gRem g) m') (mk := mk + 1) (nx := (nx + 1) % 12) (v := w c) (I1 := Ih) (I2 := I2) (R1 := R2) xs ?_ ?_ ?_ (IVc_st f1 v1 gth.1.1 w1 ct) m1.1.1 (fun k => rA _ _ (by omega)) (fun a k q => ?_) ?_ (IVg_mut (IVg_rem xg xc.2.2.2.2.2.1.2.1.2.1) (by omega) gth.1)
      · rw [eq_345, eq_172]
        simp (disch := first | assumption | omega | (simp (disch := omega) only [vM_u, vS_u]; first | assumption | omega)) only [hK, hL, hR, hI, hN, sI, hSp, hC, hW, li, lr, ↓cnd_a, ↓cnd_o, ↓cnd_n, ↓cnd_d, ↓z0, ↓z1, ↓z2, y0n, y1i, y2r, y0e, y1e, y2e, wl_0, wl_1, wl_2, wl_3, wl_4, wl_5, wl_6, wl_7, wl_8, wl_9, wl_10, wl_11, wl_12, wl_13, wl_14, wl_15, wl_16, wl_17, wl_18, wl_19, wl_20, wl_21, wl_22, wl_23, wl_24, wl_25, wl_26, wl_27, wl_28, wl_29, wl_30, wl_31, wl_32, wl_33, wl_34, wl_35, wl_36, wl_37, wl_38, wl_39, wl_40, wl_41, wl_42, wl_43, wl_44, wl_45, wl_46, wl_47, wl_48, wl_49, wl_50, wl_51, wl_52, wl_53, wl_54, wl_55, wl_56, wl_57, wl_58, wl_59, wl_60, wl_61, wl_62, wl_63, wl_64, wl_65, wl_66, wl_67, wl_68, wl_69, wl_70, wl_71, wl_72, wl_73, wl_74, wl_75, wl_76, wl_77, wl_78, wl_79, wl_80, wl_81, wl_82, wl_83, wl_84, wl_85, wl_86, wl_87, wl_88, wl_89, wl_90, wl_91, wl_92, wl_93, wl_94, wl_95, wl_96, wl_97, wl_98, wl_99, wl_100, wl_101, wl_102, wl_103, wl_104, wl_105, wl_106, wl_107, wl_108, wl_109, wl_110, wl_111, wl_112, wl_113, wl_114, wl_115, wl_116, wl_117, wl_118, wl_119, wl_120, wl_121, wl_122, wl_123, wl_124, wl_125, wl_126, wl_127, wl_128, wl_129, wl_130, wl_159, wl_160, wl_200, wl_232, wl_255, wl_256, wl_300, wl_359, wl_360, wl_400, wl_592, wl_992, wl_999, wl_1000, wl_1024, wl_3456, wl_6512, wl_7104, wl_10000, wl_11264, wl_12345, wl_32767, wl_1000000000, wl_1103515245, wl_2000000000, w_add, w_sub, w_mul, w_neg, w_lt, w_le, w_eq, w_cl, w_in, w_nat, w_max2, w_min2, w_abs2, iltT, iltF, ileT, ileF, ieqT, ieqF, bv_01, bft, bv_0, bv_1, bv_t, bv_f, cond_true, cond_false, Bool.not_true, Bool.not_false, if_true, if_false, true_or, or_true, true_and, and_true, ↓reduceIte, decide_true, decide_false, reduceCtorEq, u2_s, u2_o, u2_k, u2_u2, Bool.true_or, Bool.or_true, Bool.false_or, Bool.or_false, Bool.and_true, Bool.true_and, Bool.and_false, Bool.false_and, eq_self, not_true_eq_false, not_false_eq_true, and_self, and_true, true_and, false_and, and_false, w_dv, dvm, sJ, k1, k2, XSH_e hX, s208, s207, s212, e64, XSH_e hX1, e204, XSH_e hX2, SHq_e hS, e119]
        all_goals rfl
      · rw [eq_283]
        simp (disch := first | assumption | omega | (simp (disch := omega) only [vM_u, vS_u]; first | assumption | omega)) only [hK, hL, hR, hI, hN, sI, hSp, hC, hW, li, lr, ↓cnd_a, ↓cnd_o, ↓cnd_n, ↓cnd_d, ↓z0, ↓z1, ↓z2, y0n, y1i, y2r, y0e, y1e, y2e, wl_0, wl_1, wl_2, wl_3, wl_4, wl_5, wl_6, wl_7, wl_8, wl_9, wl_10, wl_11, wl_12, wl_13, wl_14, wl_15, wl_16, wl_17, wl_18, wl_19, wl_20, wl_21, wl_22, wl_23, wl_24, wl_25, wl_26, wl_27, wl_28, wl_29, wl_30, wl_31, wl_32, wl_33, wl_34, wl_35, wl_36, wl_37, wl_38, wl_39, wl_40, wl_41, wl_42, wl_43, wl_44, wl_45, wl_46, wl_47, wl_48, wl_49, wl_50, wl_51, wl_52, wl_53, wl_54, wl_55, wl_56, wl_57, wl_58, wl_59, wl_60, wl_61, wl_62, wl_63, wl_64, wl_65, wl_66, wl_67, wl_68, wl_69, wl_70, wl_71, wl_72, wl_73, wl_74, wl_75, wl_76, wl_77, wl_78, wl_79, wl_80, wl_81, wl_82, wl_83, wl_84, wl_85, wl_86, wl_87, wl_88, wl_89, wl_90, wl_91, wl_92, wl_93, wl_94, wl_95, wl_96, wl_97, wl_98, wl_99, wl_100, wl_101, wl_102, wl_103, wl_104, wl_105, wl_106, wl_107, wl_108, wl_109, wl_110, wl_111, wl_112, wl_113, wl_114, wl_115, wl_116, wl_117, wl_118, wl_119, wl_120, wl_121, wl_122, wl_123, wl_124, wl_125, wl_126, wl_127, wl_128, wl_129, wl_130, wl_159, wl_160, wl_200, wl_232, wl_255, wl_256, wl_300, wl_359, wl_360, wl_400, wl_592, wl_992, wl_999, wl_1000, wl_1024, wl_3456, wl_6512, wl_7104, wl_10000, wl_11264, wl_12345, wl_32767, wl_1000000000, wl_1103515245, wl_2000000000, w_add, w_sub, w_mul, w_neg, w_lt, w_le, w_eq, w_cl, w_in, w_nat, w_max2, w_min2, w_abs2, iltT, iltF, ileT, ileF, ieqT, ieqF, bv_01, bft, bv_0, bv_1, bv_t, bv_f, cond_true, cond_false, Bool.not_true, Bool.not_false, if_true, if_false, true_or, or_true, true_and, and_true, ↓reduceIte, decide_true, decide_false, reduceCtorEq, u2_s, u2_o, u2_k, u2_u2, Bool.true_or, Bool.or_true, Bool.false_or, Bool.or_false, Bool.and_true, Bool.true_and, Bool.and_false, Bool.false_and, eq_self, not_true_eq_false, not_false_eq_true, and_self, and_true, true_and, false_and, and_false, w_dv, dvm, MSH_e hM2, q273, e275, e280]
      · rw [f2 _ _ (by omega) (by omega), fb _ _ (by decide) (by decide), u2_s]
      · rw [f2 _ _ (by omega) (by omega), fb _ _ (by omega) (by omega), u2_o _ _ _ _ (by omega)]
      · refine IVm_st f2 v2 gth.1.1 ?_ i15 mb
        rw [t12, e12', gth.2.1]
    · unfold vTH at c2
      have s212 := x_214f (d := d + 35) (a := f) (b := hi) (c := pa) (I := I) (vn := vn) (vc := vc) (vw := vw) (J := J) (K := K) (L := L) (R := R) hX (by omega)
      have q273 := m_275b (d := d + 36) (p := p) (h := h) (a := f) (b := hi) (c := pa) (I := I) (vn := vn) (vc := vc + 1) (vw := vw + 6) (J := J) hM (by rw [v4]; omega) ⟨by rw [v4]; exact c1, by omega⟩
      refine StW_e (c := 2) (v' := w 0) xg xc xm xs (by omega) ?_ ?_
      · rw [eq_345, eq_172]
        simp (disch := first | assumption | omega | (simp (disch := omega) only [vM_u, vS_u]; first | assumption | omega)) only [hK, hL, hR, hI, hN, sI, hSp, hC, hW, li, lr, ↓cnd_a, ↓cnd_o, ↓cnd_n, ↓cnd_d, ↓z0, ↓z1, ↓z2, y0n, y1i, y2r, y0e, y1e, y2e, wl_0, wl_1, wl_2, wl_3, wl_4, wl_5, wl_6, wl_7, wl_8, wl_9, wl_10, wl_11, wl_12, wl_13, wl_14, wl_15, wl_16, wl_17, wl_18, wl_19, wl_20, wl_21, wl_22, wl_23, wl_24, wl_25, wl_26, wl_27, wl_28, wl_29, wl_30, wl_31, wl_32, wl_33, wl_34, wl_35, wl_36, wl_37, wl_38, wl_39, wl_40, wl_41, wl_42, wl_43, wl_44, wl_45, wl_46, wl_47, wl_48, wl_49, wl_50, wl_51, wl_52, wl_53, wl_54, wl_55, wl_56, wl_57, wl_58, wl_59, wl_60, wl_61, wl_62, wl_63, wl_64, wl_65, wl_66, wl_67, wl_68, wl_69, wl_70, wl_71, wl_72, wl_73, wl_74, wl_75, wl_76, wl_77, wl_78, wl_79, wl_80, wl_81, wl_82, wl_83, wl_84, wl_85, wl_86, wl_87, wl_88, wl_89, wl_90, wl_91, wl_92, wl_93, wl_94, wl_95, wl_96, wl_97, wl_98, wl_99, wl_100, wl_101, wl_102, wl_103, wl_104, wl_105, wl_106, wl_107, wl_108, wl_109, wl_110, wl_111, wl_112, wl_113, wl_114, wl_115, wl_116, wl_117, wl_118, wl_119, wl_120, wl_121, wl_122, wl_123, wl_124, wl_125, wl_126, wl_127, wl_128, wl_129, wl_130, wl_159, wl_160, wl_200, wl_232, wl_255, wl_256, wl_300, wl_359, wl_360, wl_400, wl_592, wl_992, wl_999, wl_1000, wl_1024, wl_3456, wl_6512, wl_7104, wl_10000, wl_11264, wl_12345, wl_32767, wl_1000000000, wl_1103515245, wl_2000000000, w_add, w_sub, w_mul, w_neg, w_lt, w_le, w_eq, w_cl, w_in, w_nat, w_max2, w_min2, w_abs2, iltT, iltF, ileT, ileF, ieqT, ieqF, bv_01, bft, bv_0, bv_1, bv_t, bv_f, cond_true, cond_false, Bool.not_true, Bool.not_false, if_true, if_false, true_or, or_true, true_and, and_true, ↓reduceIte, decide_true, decide_false, reduceCtorEq, u2_s, u2_o, u2_k, u2_u2, Bool.true_or, Bool.or_true, Bool.false_or, Bool.or_false, Bool.and_true, Bool.true_and, Bool.and_false, Bool.false_and, eq_self, not_true_eq_false, not_false_eq_true, and_self, and_true, true_and, false_and, and_false, w_dv, dvm, XSH_e hX, s208, s207, s212]
        all_goals rfl
      · rw [eq_283]
        simp (disch := first | assumption | omega | (simp (disch := omega) only [vM_u, vS_u]; first | assumption | omega)) only [hK, hL, hR, hI, hN, sI, hSp, hC, hW, li, lr, ↓cnd_a, ↓cnd_o, ↓cnd_n, ↓cnd_d, ↓z0, ↓z1, ↓z2, y0n, y1i, y2r, y0e, y1e, y2e, wl_0, wl_1, wl_2, wl_3, wl_4, wl_5, wl_6, wl_7, wl_8, wl_9, wl_10, wl_11, wl_12, wl_13, wl_14, wl_15, wl_16, wl_17, wl_18, wl_19, wl_20, wl_21, wl_22, wl_23, wl_24, wl_25, wl_26, wl_27, wl_28, wl_29, wl_30, wl_31, wl_32, wl_33, wl_34, wl_35, wl_36, wl_37, wl_38, wl_39, wl_40, wl_41, wl_42, wl_43, wl_44, wl_45, wl_46, wl_47, wl_48, wl_49, wl_50, wl_51, wl_52, wl_53, wl_54, wl_55, wl_56, wl_57, wl_58, wl_59, wl_60, wl_61, wl_62, wl_63, wl_64, wl_65, wl_66, wl_67, wl_68, wl_69, wl_70, wl_71, wl_72, wl_73, wl_74, wl_75, wl_76, wl_77, wl_78, wl_79, wl_80, wl_81, wl_82, wl_83, wl_84, wl_85, wl_86, wl_87, wl_88, wl_89, wl_90, wl_91, wl_92, wl_93, wl_94, wl_95, wl_96, wl_97, wl_98, wl_99, wl_100, wl_101, wl_102, wl_103, wl_104, wl_105, wl_106, wl_107, wl_108, wl_109, wl_110, wl_111, wl_112, wl_113, wl_114, wl_115, wl_116, wl_117, wl_118, wl_119, wl_120, wl_121, wl_122, wl_123, wl_124, wl_125, wl_126, wl_127, wl_128, wl_129, wl_130, wl_159, wl_160, wl_200, wl_232, wl_255, wl_256, wl_300, wl_359, wl_360, wl_400, wl_592, wl_992, wl_999, wl_1000, wl_1024, wl_3456, wl_6512, wl_7104, wl_10000, wl_11264, wl_12345, wl_32767, wl_1000000000, wl_1103515245, wl_2000000000, w_add, w_sub, w_mul, w_neg, w_lt, w_le, w_eq, w_cl, w_in, w_nat, w_max2, w_min2, w_abs2, iltT, iltF, ileT, ileF, ieqT, ieqF, bv_01, bft, bv_0, bv_1, bv_t, bv_f, cond_true, cond_false, Bool.not_true, Bool.not_false, if_true, if_false, true_or, or_true, true_and, and_true, ↓reduceIte, decide_true, decide_false, reduceCtorEq, u2_s, u2_o, u2_k, u2_u2, Bool.true_or, Bool.or_true, Bool.false_or, Bool.or_false, Bool.and_true, Bool.true_and, Bool.and_false, Bool.false_and, eq_self, not_true_eq_false, not_false_eq_true, and_self, and_true, true_and, false_and, and_false, w_dv, dvm, MSH_e hM, q273]
  · unfold vPH at c1
    have q273 := m_275a (d := d + 36) (p := p) (h := h) (a := f) (b := hi) (c := pa) (I := I) (vn := vn) (vc := vc + 1) (vw := vw + 6) (J := J) hM (by rw [v4]; omega) (by rw [v4]; omega)
    refine StW_e (c := 1) (v' := w 0) xg xc xm xs (by omega) ?_ ?_
    · rw [eq_345, eq_172]
      by_cases c2 : 0 ≤ p ∧ p < gm g 5
      · have s208 := x_210t (d := d + 36) (b := p) (I := I) (vn := vn) (vc := vc) (vw := vw) (J := J) hX hS (by rw [z4]; omega)
        have s207 := x_209f (d := d + 36) (b := h) (I := I) (vn := vn) (vc := vc) (vw := vw) (J := J) hX hS (by rw [z4]; omega)
        simp (disch := first | assumption | omega | (simp (disch := omega) only [vM_u, vS_u]; first | assumption | omega)) only [hK, hL, hR, hI, hN, sI, hSp, hC, hW, li, lr, ↓cnd_a, ↓cnd_o, ↓cnd_n, ↓cnd_d, ↓z0, ↓z1, ↓z2, y0n, y1i, y2r, y0e, y1e, y2e, wl_0, wl_1, wl_2, wl_3, wl_4, wl_5, wl_6, wl_7, wl_8, wl_9, wl_10, wl_11, wl_12, wl_13, wl_14, wl_15, wl_16, wl_17, wl_18, wl_19, wl_20, wl_21, wl_22, wl_23, wl_24, wl_25, wl_26, wl_27, wl_28, wl_29, wl_30, wl_31, wl_32, wl_33, wl_34, wl_35, wl_36, wl_37, wl_38, wl_39, wl_40, wl_41, wl_42, wl_43, wl_44, wl_45, wl_46, wl_47, wl_48, wl_49, wl_50, wl_51, wl_52, wl_53, wl_54, wl_55, wl_56, wl_57, wl_58, wl_59, wl_60, wl_61, wl_62, wl_63, wl_64, wl_65, wl_66, wl_67, wl_68, wl_69, wl_70, wl_71, wl_72, wl_73, wl_74, wl_75, wl_76, wl_77, wl_78, wl_79, wl_80, wl_81, wl_82, wl_83, wl_84, wl_85, wl_86, wl_87, wl_88, wl_89, wl_90, wl_91, wl_92, wl_93, wl_94, wl_95, wl_96, wl_97, wl_98, wl_99, wl_100, wl_101, wl_102, wl_103, wl_104, wl_105, wl_106, wl_107, wl_108, wl_109, wl_110, wl_111, wl_112, wl_113, wl_114, wl_115, wl_116, wl_117, wl_118, wl_119, wl_120, wl_121, wl_122, wl_123, wl_124, wl_125, wl_126, wl_127, wl_128, wl_129, wl_130, wl_159, wl_160, wl_200, wl_232, wl_255, wl_256, wl_300, wl_359, wl_360, wl_400, wl_592, wl_992, wl_999, wl_1000, wl_1024, wl_3456, wl_6512, wl_7104, wl_10000, wl_11264, wl_12345, wl_32767, wl_1000000000, wl_1103515245, wl_2000000000, w_add, w_sub, w_mul, w_neg, w_lt, w_le, w_eq, w_cl, w_in, w_nat, w_max2, w_min2, w_abs2, iltT, iltF, ileT, ileF, ieqT, ieqF, bv_01, bft, bv_0, bv_1, bv_t, bv_f, cond_true, cond_false, Bool.not_true, Bool.not_false, if_true, if_false, true_or, or_true, true_and, and_true, ↓reduceIte, decide_true, decide_false, reduceCtorEq, u2_s, u2_o, u2_k, u2_u2, Bool.true_or, Bool.or_true, Bool.false_or, Bool.or_false, Bool.and_true, Bool.true_and, Bool.and_false, Bool.false_and, eq_self, not_true_eq_false, not_false_eq_true, and_self, and_true, true_and, false_and, and_false, w_dv, dvm, XSH_e hX, s208, s207]
        all_goals rfl
      · have s208 := x_210f (d := d + 36) (b := p) (I := I) (vn := vn) (vc := vc) (vw := vw) (J := J) hX hS (by rw [z4]; omega)
        simp (disch := first | assumption | omega | (simp (disch := omega) only [vM_u, vS_u]; first | assumption | omega)) only [hK, hL, hR, hI, hN, sI, hSp, hC, hW, li, lr, ↓cnd_a, ↓cnd_o, ↓cnd_n, ↓cnd_d, ↓z0, ↓z1, ↓z2, y0n, y1i, y2r, y0e, y1e, y2e, wl_0, wl_1, wl_2, wl_3, wl_4, wl_5, wl_6, wl_7, wl_8, wl_9, wl_10, wl_11, wl_12, wl_13, wl_14, wl_15, wl_16, wl_17, wl_18, wl_19, wl_20, wl_21, wl_22, wl_23, wl_24, wl_25, wl_26, wl_27, wl_28, wl_29, wl_30, wl_31, wl_32, wl_33, wl_34, wl_35, wl_36, wl_37, wl_38, wl_39, wl_40, wl_41, wl_42, wl_43, wl_44, wl_45, wl_46, wl_47, wl_48, wl_49, wl_50, wl_51, wl_52, wl_53, wl_54, wl_55, wl_56, wl_57, wl_58, wl_59, wl_60, wl_61, wl_62, wl_63, wl_64, wl_65, wl_66, wl_67, wl_68, wl_69, wl_70, wl_71, wl_72, wl_73, wl_74, wl_75, wl_76, wl_77, wl_78, wl_79, wl_80, wl_81, wl_82, wl_83, wl_84, wl_85, wl_86, wl_87, wl_88, wl_89, wl_90, wl_91, wl_92, wl_93, wl_94, wl_95, wl_96, wl_97, wl_98, wl_99, wl_100, wl_101, wl_102, wl_103, wl_104, wl_105, wl_106, wl_107, wl_108, wl_109, wl_110, wl_111, wl_112, wl_113, wl_114, wl_115, wl_116, wl_117, wl_118, wl_119, wl_120, wl_121, wl_122, wl_123, wl_124, wl_125, wl_126, wl_127, wl_128, wl_129, wl_130, wl_159, wl_160, wl_200, wl_232, wl_255, wl_256, wl_300, wl_359, wl_360, wl_400, wl_592, wl_992, wl_999, wl_1000, wl_1024, wl_3456, wl_6512, wl_7104, wl_10000, wl_11264, wl_12345, wl_32767, wl_1000000000, wl_1103515245, wl_2000000000, w_add, w_sub, w_mul, w_neg, w_lt, w_le, w_eq, w_cl, w_in, w_nat, w_max2, w_min2, w_abs2, iltT, iltF, ileT, ileF, ieqT, ieqF, bv_01, bft, bv_0, bv_1, bv_t, bv_f, cond_true, cond_false, Bool.not_true, Bool.not_false, if_true, if_false, true_or, or_true, true_and, and_true, ↓reduceIte, decide_true, decide_false, reduceCtorEq, u2_s, u2_o, u2_k, u2_u2, Bool.true_or, Bool.or_true, Bool.false_or, Bool.or_false, Bool.and_true, Bool.true_and, Bool.and_false, Bool.false_and, eq_self, not_true_eq_false, not_false_eq_true, and_self, and_true, true_and, false_and, and_false, w_dv, dvm, XSH_e hX, s208]
        all_goals rfl
    · rw [eq_283]
      simp (disch := first | assumption | omega | (simp (disch := omega) only [vM_u, vS_u]; first | assumption | omega)) only [hK, hL, hR, hI, hN, sI, hSp, hC, hW, li, lr, ↓cnd_a, ↓cnd_o, ↓cnd_n, ↓cnd_d, ↓z0, ↓z1, ↓z2, y0n, y1i, y2r, y0e, y1e, y2e, wl_0, wl_1, wl_2, wl_3, wl_4, wl_5, wl_6, wl_7, wl_8, wl_9, wl_10, wl_11, wl_12, wl_13, wl_14, wl_15, wl_16, wl_17, wl_18, wl_19, wl_20, wl_21, wl_22, wl_23, wl_24, wl_25, wl_26, wl_27, wl_28, wl_29, wl_30, wl_31, wl_32, wl_33, wl_34, wl_35, wl_36, wl_37, wl_38, wl_39, wl_40, wl_41, wl_42, wl_43, wl_44, wl_45, wl_46, wl_47, wl_48, wl_49, wl_50, wl_51, wl_52, wl_53, wl_54, wl_55, wl_56, wl_57, wl_58, wl_59, wl_60, wl_61, wl_62, wl_63, wl_64, wl_65, wl_66, wl_67, wl_68, wl_69, wl_70, wl_71, wl_72, wl_73, wl_74, wl_75, wl_76, wl_77, wl_78, wl_79, wl_80, wl_81, wl_82, wl_83, wl_84, wl_85, wl_86, wl_87, wl_88, wl_89, wl_90, wl_91, wl_92, wl_93, wl_94, wl_95, wl_96, wl_97, wl_98, wl_99, wl_100, wl_101, wl_102, wl_103, wl_104, wl_105, wl_106, wl_107, wl_108, wl_109, wl_110, wl_111, wl_112, wl_113, wl_114, wl_115, wl_116, wl_117, wl_118, wl_119, wl_120, wl_121, wl_122, wl_123, wl_124, wl_125, wl_126, wl_127, wl_128, wl_129, wl_130, wl_159, wl_160, wl_200, wl_232, wl_255, wl_256, wl_300, wl_359, wl_360, wl_400, wl_592, wl_992, wl_999, wl_1000, wl_1024, wl_3456, wl_6512, wl_7104, wl_10000, wl_11264, wl_12345, wl_32767, wl_1000000000, wl_1103515245, wl_2000000000, w_add, w_sub, w_mul, w_neg, w_lt, w_le, w_eq, w_cl, w_in, w_nat, w_max2, w_min2, w_abs2, iltT, iltF, ileT, ileF, ieqT, ieqF, bv_01, bft, bv_0, bv_1, bv_t, bv_f, cond_true, cond_false, Bool.not_true, Bool.not_false, if_true, if_false, true_or, or_true, true_and, and_true, ↓reduceIte, decide_true, decide_false, reduceCtorEq, u2_s, u2_o, u2_k, u2_u2, Bool.true_or, Bool.or_true, Bool.false_or, Bool.or_false, Bool.and_true, Bool.true_and, Bool.and_false, Bool.false_and, eq_self, not_true_eq_false, not_false_eq_true, and_self, and_true, true_and, false_and, and_false, w_dv, dvm, MSH_e hM, q273]
end STO
