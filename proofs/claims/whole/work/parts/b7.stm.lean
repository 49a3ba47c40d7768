/-! steps: seed, clear, skill, wets, move -/
theorem allT_c {m m' : Int → Int} (h5 : m' 5 = m 5) (h : ∀ p, 0 ≤ p → p < m 5 → pe m' p 1 = pe m p 1) : allT m' = allT m := by
  unfold allT
  rw [h5]
  exact sm_c _ _ (fun j a b => h j a (by omega))
/-- what of the fair stays sound -/
theorem GD_c {N : Int} {m m' : Int → Int} (g : GD N m) (hB : BD m') (h0 : m' 0 = m 0 ∧ m' 3 = m 3 ∧ m' 4 = m 4 ∧ m' 5 = m 5) (h13 : m' 13 = m 13 ∨ m' 13 = 0) (hl : ∀ z, 112 ≤ z ∧ z < 112 + 4 * m' 13 → m' z = m z) (h14 : m' 14 = m 14) (ht : ∀ z, 232 ≤ z ∧ z < 592 → m' z = m z) (hp : ∀ p, 0 ≤ p → p < m 5 → pe m' p 1 = pe m p 1 ∧ pe m' p 2 = pe m p 2) : GD N m' := by
  obtain ⟨g1, g2, g3, g4, g5⟩ := g
  have b13 := g1.2.2.2.2.2.2.2.1
  have b14 := g1.2.2.2.2.2.2.2.2.1
  refine ⟨hB, fun k k1 k2 => ?_, fun k k1 k2 => ?_, fun p p1 p2 => ?_, by omega⟩
  · have e : ∀ j, 0 ≤ j → j < 4 → ly m' k j = ly m k j := fun j a b => hl _ (by omega)
    rw [e 0 (by omega) (by omega), e 1 (by omega) (by omega), e 2 (by omega) (by omega), e 3 (by omega) (by omega), h0.2.2.1]
    exact g2 k k1 (by omega)
  · have e : ∀ j, 0 ≤ j → j < 6 → lg m' k j = lg m k j := fun j a b => ht _ (by omega)
    rw [e 0 (by omega) (by omega), e 1 (by omega) (by omega), e 2 (by omega) (by omega), e 3 (by omega) (by omega), e 4 (by omega) (by omega), e 5 (by omega) (by omega), h0.2.1, h0.2.2.1, h0.2.2.2]
    exact g3 k k1 (by omega)
  · obtain ⟨u1, u2'⟩ := hp p p1 (by omega)
    rw [u1, u2']
    exact g4 p p1 (by omega)
def clrM (m : Int → Int) : Int → Int := fun z => if z = 13 then 0 else if 112 ≤ z ∧ z < 232 then 0 else m z
theorem clrM_o {m : Int → Int} {z : Int} (h : z ≠ 13 ∧ ¬(112 ≤ z ∧ z < 232)) : clrM m z = m z := by
  unfold clrM
  rw [if_neg h.1, if_neg h.2]
section STM
variable {vn vc vw : Nat} {K L : Nat → Nat} {R : Nat → Nat → Nat} {I : Nat → Nat → Int32} {J : Nat → Nat → Int64}
variable {S : Nat → Int32} {ls : Nat}
/-- room for an answer of both sides -/
theorem StD_i {N : Int} {g : Gho} {mk nx : Int} {v : Int32} {vn' vc' vw' : Nat} {R1 : Nat → Nat → Nat} {I1 I2 : Nat → Nat → Int32} {a b : HS → Option Res} (xs : IVs vn vc vw K L I N S ls) (e1 : a (((vn, vc, vw, K, L, R), I, J) : HS) = some (.inl (some (.int v)), (((vn, vc, vw, K, L, R1), I1, J) : HS))) (e2 : b (((vn, vc, vw, K, L, R1), I1, J) : HS) = some (.inl (some (.int v)), (((vn, vc, vw, K, L, R1), I2, J) : HS)))
    (c1 : IVc K L R1 I1 N g mk nx) (m1 : MSH K L R1) (h78 : ∀ k, I1 78 k = I 78 k) (h2 : ∀ a k, a < 287 ∨ 305 ≤ a → I2 a k = I1 a k) (xm : IVm K L R1 I2 g) (xg : IVg (N + 1) g) : StD S ls N (((vn, vc, vw, K, L, R), I, J) : HS) a b := by
  refine ⟨v, _, _, e1, ?_, e2, ⟨vn, vc, vw, K, L, R1, I2, J, g, mk, nx, rfl, xg, IVc_mono (by omega) (IVc_f h2 c1), xm, IVs_mono xs ⟨rfl, by omega, by omega⟩ (fun k => by rw [h2 _ _ (by omega), h78])⟩⟩
  exact ⟨xs.2.1, xs.2.2.1, fun k => by show I1 78 k = S k; rw [h78]; exact xs.2.2.2 k, (XSH_e c1.1.1).1, (MSH_e m1).1, c1.2.2.2.2.2.2.2.2.2.2⟩
theorem st_202 {d : Nat} {N : Int} {s : HS} (z : INV S ls N s) (a0 : Int32) : StD S ls N s (ev PR (d + 40) 202 [.ref 79, .int a0]) (ev PR (d + 40) 330 [.ref 287, .int a0]) := by
  obtain ⟨vn, vc, vw, K, L, R, I, J, g, mk, nx, rfl, xg, xc, xm, xs⟩ := z
  obtain ⟨z1', z2', z3, z4, z5, z6, z7, z8⟩ := id xc.1
  have hX := z1'
  have hS := z2'
  have hM := xm.1.1
  have e18 := rS_18 I 91
  rw [z4] at e18
  have v4 := xm.1.2.2.2.1
  have hB := z5
  obtain ⟨I1, hI1⟩ : ∃ I1, I1 = u2 I 91 18 a0 := ⟨_, rfl⟩
  obtain ⟨I2, hI2⟩ : ∃ I2, I2 = u2 (u2 I1 287 0 (w 0)) 288 (ix 15) (w a0.toInt) := ⟨_, rfl⟩
  have v1 : vS I1 91 = setm (gm g) 15 a0.toInt := by rw [hI1, vS_fld (z := 15) (by omega), z4]
  have B1 : BD (setm (gm g) 15 a0.toInt) := BD_c (fun z a => setm_o _ (by omega)) hB (by rw [setm_o _ (by omega)]; exact hB.2.2.2.2.2.2.2.1) (by rw [setm_o _ (by omega)]; exact hB.2.2.2.2.2.2.2.2.1) (fun p a b => by
    have := hB.2.2.2.2.2.2.2.2.2.2.2 p a b
    unfold pe at this ⊢
    rw [setm_o _ (by omega)]
    exact this)
  have f01 : ∀ a k, a ≠ 91 → I1 a k = I a k := fun a k q => by rw [hI1, u2_o _ _ _ _ q]
  have c1 : IVc K L R I1 N (gMut g (setm (gm g) 15 a0.toInt)) mk nx := IVc_st (fun a k q => f01 a k (by omega)) v1 B1 (by rw [hI1]; exact Wd_fld z3) xc
  have m1 : IVm K L R I1 g := IVm_cls (fun a k q => f01 a k (by omega)) (fun _ _ _ => rfl) xm
  have v41 : vM I1 = gm g := m1.1.2.2.2.1
  have r15 := rV_s I1 (z := 15) (by omega)
  rw [v41] at r15
  have v2 : vM I2 = setm (gm g) 15 a0.toInt := by rw [hI2, vM_in (by unfold inV; omega) (i_rng _), vM_u (by decide), v41]
  have F0 : FH (u2 I1 287 0 (w 0)) I2 := by rw [hI2]; exact FH_u (by decide)
  have m0 : IVm K L R (u2 I1 287 0 (w 0)) g := IVm_f f_u0.2 (by rw [u2_r, if_neg (by omega)]; exact m1.1.2.2.2.2.2) m1
  have t12 : mI I2 12 = allT (setm (gm g) 15 a0.toInt) := by
    rw [hI2, mI_k (by omega) (by omega) (by omega), mI_u (by decide), m1.2.1]
    exact (allT_c (setm_o _ (by omega)) (fun p a b => by unfold pe; rw [setm_o _ (by omega)])).symm
  refine StD_i (g := gMut g (setm (gm g) 15 a0.toInt)) (v := w (gm g 15)) (vn' := vn) (vc' := vc) (vw' := vw) (R1 := R) (I1 := I1) (I2 := I2) xs ?_ ?_ c1 hM (fun k => f01 _ _ (by omega)) (fun a k q => by rw [hI2, u2_o _ _ _ _ (by omega), u2_o _ _ _ _ (by omega)]) (IVm_st F0 v2 B1 t12 (by rw [hI2, u2_o _ _ _ _ (by decide), u2_r, if_neg (by omega)]; exact m1.1.2.2.2.2.2) m0) (IVg_mut xg (by omega) (GD_mono (by omega) (GD_c xg.1 B1 ⟨setm_o _ (by omega), setm_o _ (by omega), setm_o _ (by omega), setm_o _ (by omega)⟩ (Or.inl (setm_o _ (by omega))) (fun z a => setm_o _ (by omega)) (setm_o _ (by omega)) (fun z a => setm_o _ (by omega)) (fun p a b => ⟨by unfold pe; rw [setm_o _ (by omega)], by unfold pe; rw [setm_o _ (by omega)]⟩))))
  · rw [eq_202, hI1]
    simp (disch := first | assumption | omega | (simp (disch := omega) only [vM_u, vS_u]; first | assumption | omega)) only [hK, hL, hR, hI, hN, sI, hSp, hC, hW, li, lr, ↓cnd_a, ↓cnd_o, ↓cnd_n, ↓cnd_d, ↓z0, ↓z1, ↓z2, y0n, y1i, y2r, y0e, y1e, y2e, wl_0, wl_1, wl_2, wl_3, wl_4, wl_5, wl_6, wl_7, wl_8, wl_9, wl_10, wl_11, wl_12, wl_13, wl_14, wl_15, wl_16, wl_17, wl_18, wl_19, wl_20, wl_21, wl_22, wl_23, wl_24, wl_25, wl_26, wl_27, wl_28, wl_29, wl_30, wl_31, wl_32, wl_33, wl_34, wl_35, wl_36, wl_37, wl_38, wl_39, wl_40, wl_41, wl_42, wl_43, wl_44, wl_45, wl_46, wl_47, wl_48, wl_49, wl_50, wl_51, wl_52, wl_53, wl_54, wl_55, wl_56, wl_57, wl_58, wl_59, wl_60, wl_61, wl_62, wl_63, wl_64, wl_65, wl_66, wl_67, wl_68, wl_69, wl_70, wl_71, wl_72, wl_73, wl_74, wl_75, wl_76, wl_77, wl_78, wl_79, wl_80, wl_81, wl_82, wl_83, wl_84, wl_85, wl_86, wl_87, wl_88, wl_89, wl_90, wl_91, wl_92, wl_93, wl_94, wl_95, wl_96, wl_97, wl_98, wl_99, wl_100, wl_101, wl_102, wl_103, wl_104, wl_105, wl_106, wl_107, wl_108, wl_109, wl_110, wl_111, wl_112, wl_113, wl_114, wl_115, wl_116, wl_117, wl_118, wl_119, wl_120, wl_121, wl_122, wl_123, wl_124, wl_125, wl_126, wl_127, wl_128, wl_129, wl_130, wl_159, wl_160, wl_200, wl_232, wl_255, wl_256, wl_300, wl_359, wl_360, wl_400, wl_592, wl_992, wl_999, wl_1000, wl_1024, wl_3456, wl_6512, wl_7104, wl_10000, wl_11264, wl_12345, wl_32767, wl_1000000000, wl_1103515245, wl_2000000000, w_add, w_sub, w_mul, w_neg, w_lt, w_le, w_eq, w_cl, w_in, w_nat, w_max2, w_min2, w_abs2, iltT, iltF, ileT, ileF, ieqT, ieqF, bv_01, bft, bv_0, bv_1, bv_t, bv_f, cond_true, cond_false, Bool.not_true, Bool.not_false, if_true, if_false, true_or, or_true, true_and, and_true, ↓reduceIte, decide_true, decide_false, reduceCtorEq, u2_s, u2_o, u2_k, u2_u2, Bool.true_or, Bool.or_true, Bool.false_or, Bool.or_false, Bool.and_true, Bool.true_and, Bool.and_false, Bool.false_and, eq_self, not_true_eq_false, not_false_eq_true, and_self, and_true, true_and, false_and, and_false, w_dv, dvm, XSH_e hX, SHq_e hS, e18]
  · rw [eq_330, hI2, w_of]
    simp (disch := first | assumption | omega | (simp (disch := omega) only [vM_u, vS_u]; first | assumption | omega)) only [hK, hL, hR, hI, hN, sI, hSp, hC, hW, li, lr, ↓cnd_a, ↓cnd_o, ↓cnd_n, ↓cnd_d, ↓z0, ↓z1, ↓z2, y0n, y1i, y2r, y0e, y1e, y2e, wl_0, wl_1, wl_2, wl_3, wl_4, wl_5, wl_6, wl_7, wl_8, wl_9, wl_10, wl_11, wl_12, wl_13, wl_14, wl_15, wl_16, wl_17, wl_18, wl_19, wl_20, wl_21, wl_22, wl_23, wl_24, wl_25, wl_26, wl_27, wl_28, wl_29, wl_30, wl_31, wl_32, wl_33, wl_34, wl_35, wl_36, wl_37, wl_38, wl_39, wl_40, wl_41, wl_42, wl_43, wl_44, wl_45, wl_46, wl_47, wl_48, wl_49, wl_50, wl_51, wl_52, wl_53, wl_54, wl_55, wl_56, wl_57, wl_58, wl_59, wl_60, wl_61, wl_62, wl_63, wl_64, wl_65, wl_66, wl_67, wl_68, wl_69, wl_70, wl_71, wl_72, wl_73, wl_74, wl_75, wl_76, wl_77, wl_78, wl_79, wl_80, wl_81, wl_82, wl_83, wl_84, wl_85, wl_86, wl_87, wl_88, wl_89, wl_90, wl_91, wl_92, wl_93, wl_94, wl_95, wl_96, wl_97, wl_98, wl_99, wl_100, wl_101, wl_102, wl_103, wl_104, wl_105, wl_106, wl_107, wl_108, wl_109, wl_110, wl_111, wl_112, wl_113, wl_114, wl_115, wl_116, wl_117, wl_118, wl_119, wl_120, wl_121, wl_122, wl_123, wl_124, wl_125, wl_126, wl_127, wl_128, wl_129, wl_130, wl_159, wl_160, wl_200, wl_232, wl_255, wl_256, wl_300, wl_359, wl_360, wl_400, wl_592, wl_992, wl_999, wl_1000, wl_1024, wl_3456, wl_6512, wl_7104, wl_10000, wl_11264, wl_12345, wl_32767, wl_1000000000, wl_1103515245, wl_2000000000, w_add, w_sub, w_mul, w_neg, w_lt, w_le, w_eq, w_cl, w_in, w_nat, w_max2, w_min2, w_abs2, iltT, iltF, ileT, ileF, ieqT, ieqF, bv_01, bft, bv_0, bv_1, bv_t, bv_f, cond_true, cond_false, Bool.not_true, Bool.not_false, if_true, if_false, true_or, or_true, true_and, and_true, ↓reduceIte, decide_true, decide_false, reduceCtorEq, u2_s, u2_o, u2_k, u2_u2, Bool.true_or, Bool.or_true, Bool.false_or, Bool.or_false, Bool.and_true, Bool.true_and, Bool.and_false, Bool.false_and, eq_self, not_true_eq_false, not_false_eq_true, and_self, and_true, true_and, false_and, and_false, w_dv, dvm, MSH_e hM, r15]
theorem vS_clr {f : Nat → Nat → Int32} {q : Nat} : vS (u2 f (q + 7) 2 (w 0)) q = clrM (vS f q) := by
  funext z
  unfold clrM
  have e13 : vS (u2 f (q + 7) 2 (w 0)) q 13 = 0 := by
    have := rN_13t (u2 f (q + 7) 2 (w 0)) q
    rw [u2_s] at this
    rw [← this]
    rfl
  by_cases c : z = 13
  · rw [if_pos c, c, e13]
  · rw [if_neg c]
    by_cases c2 : 112 ≤ z ∧ z < 232
    · rw [if_pos c2, vS_l c2, e13, if_neg (by omega)]
    · rw [if_neg c2]
      exact vS_but (r := 7) (by omega) (fun a k x y => u2_o _ _ _ _ (by omega)) (by omega)
theorem BD_clr {m : Int → Int} (hB : BD m) : BD (clrM m) := BD_c (fun z a => clrM_o (by omega)) hB (by
    have : clrM m 13 = 0 := rfl
    omega) (by rw [clrM_o (by omega)]; exact hB.2.2.2.2.2.2.2.2.1) (fun p a b => by
    have h5 := hB.2.2.1
    have := hB.2.2.2.2.2.2.2.2.2.2.2 p a b
    unfold pe at this ⊢
    rw [clrM_o (by omega)]
    exact this)
theorem GD_clr {N : Int} {m : Int → Int} (g : GD N m) : GD N (clrM m) := by
  have h5 := g.1.2.2.1
  have e13 : clrM m 13 = 0 := rfl
  exact GD_c g (BD_clr g.1) ⟨clrM_o (by omega), clrM_o (by omega), clrM_o (by omega), clrM_o (by omega)⟩ (Or.inr rfl) (fun z a => by omega) (clrM_o (by omega)) (fun z a => clrM_o (by omega)) (fun p a b => ⟨by unfold pe; rw [clrM_o (by omega)], by unfold pe; rw [clrM_o (by omega)]⟩)
theorem allT_clr {m : Int → Int} (hB : BD m) : allT (clrM m) = allT m := by
  have h5 := hB.2.2.1
  exact allT_c (clrM_o (by omega)) (fun p a b => by unfold pe; rw [clrM_o (by omega)])
theorem st_173 {d : Nat} {N : Int} {s : HS} (z : INV S ls N s) : StD S ls N s (ev PR (d + 40) 173 [.ref 79]) (ev PR (d + 40) 284 [.ref 287]) := by
  obtain ⟨vn, vc, vw, K, L, R, I, J, g, mk, nx, rfl, xg, xc, xm, xs⟩ := z
  obtain ⟨R1, Ia, e64, ca, fa, ra⟩ := IVc_past (d := d + 36) (vn := vn) (vc := vc) (vw := vw) (J := J) xc
  obtain ⟨z1', z2', z3, z4, z5, z6, z7, z8⟩ := id ca.1
  have hX := xc.1.1
  have hX' := z1'
  have hS := z2'
  have hS0 := xc.1.2.1
  have hM := xm.1.1
  have hB : BD (gm g) := z5
  have s92 := sp_92l (d := d + 38) (I := Ia) (vn := vn) (vc := vc) (vw := vw) (J := J) hS
  have z4' : vS Ia 91 = gm g := z4
  rw [z4'] at s92
  obtain ⟨I1, hI1⟩ : ∃ I1, I1 = u2 Ia 98 2 (w 0) := ⟨_, rfl⟩
  have v1 : vS I1 91 = clrM (gm g) := by rw [hI1, ← z4']; exact vS_clr
  have B1 : BD (clrM (gm g)) := BD_clr hB
  have f01 : ∀ a k, a ≠ 98 → I1 a k = Ia a k := fun a k q => by rw [hI1, u2_o _ _ _ _ q]
  have c1 : IVc K L R1 I1 N (gMut (gRem g) (clrM (gm g))) mk ((nx + 1) % 12) := IVc_st (fun a k q => f01 a k (by omega)) v1 B1 (by rw [hI1]; exact Wd_f' (fun a x => u2_k _ _ _ _ (by decide)) z3) ca
  have fa1 : ∀ a k, a < 91 ∨ 273 ≤ a → I1 a k = I a k := fun a k q => by rw [f01 a k (by omega), fa a k (by omega)]
  have m1 : IVm K L R1 I1 g := IVm_cls (fun a k q => fa1 a k (by omega)) (fun a k q => ra a k (by omega)) xm
  have hM' := m1.1.1
  have m0 : IVm K L R1 (u2 I1 287 0 (w 0)) g := IVm_f f_u0.2 (by rw [u2_r, if_neg (by omega)]; exact m1.1.2.2.2.2.2) m1
  obtain ⟨Ib, e275, mb, fb⟩ := IVm_past (d := d + 38) (vn := vn) (vc := vc) (vw := vw) (J := J) xg m0
  have vb : vM Ib = gm g := mb.1.2.2.2.1
  have r13 := rV_s Ib (z := 13) (by omega)
  rw [vb] at r13
  obtain ⟨I2, hI2⟩ : ∃ I2, I2 = u2 Ib 288 (ix 13) (w 0) := ⟨_, rfl⟩
  obtain ⟨n3, n4, n5, n13, n14⟩ := BD_mI (I := Ib) (by rw [vb]; exact hB)
  have v2 : vM I2 = clrM (gm g) := by
    funext z
    rw [hI2, vM_13 (by omega) (by omega), vb]
    unfold clrM
    by_cases c : z = 13
    · rw [if_pos c, if_pos c]
    · rw [if_neg c, if_neg c]
      by_cases c2 : 112 ≤ z ∧ z < 232
      · rw [if_pos c2, if_pos c2, if_neg (by omega)]
      · rw [if_neg c2, if_neg c2]
  have t12 : mI I2 12 = allT (clrM (gm g)) := by
    rw [hI2, mI_k (by omega) (by omega) (by omega), mb.2.1]
    exact (allT_clr hB).symm
  have gn0 : 0 ≤ gn g := xc.2.2.2.2.2.1.2.1.2.1
  refine StD_i (g := gMut (gRem g) (clrM (gm g))) (v := w (gm g 13)) (vn' := vn) (vc' := vc) (vw' := vw) (R1 := R1) (I1 := I1) (I2 := I2) xs ?_ ?_ c1 hM' (fun k => fa1 _ _ (by omega)) (fun a k q => by rw [hI2, u2_o _ _ _ _ (by omega), fb _ _ (by omega) (by omega), u2_o _ _ _ _ (by omega)]) (IVm_st (by rw [hI2]; exact FH_u (by decide)) v2 B1 t12 (by rw [hI2, u2_o _ _ _ _ (by decide)]; exact mb.1.2.2.2.2.2) mb) (IVg_mut (IVg_rem xg gn0) (by omega) (GD_mono (by omega) (GD_clr xg.1)))
  · rw [eq_173, hI1]
    simp (disch := first | assumption | omega | (simp (disch := omega) only [vM_u, vS_u]; first | assumption | omega)) only [hK, hL, hR, hI, hN, sI, hSp, hC, hW, li, lr, ↓cnd_a, ↓cnd_o, ↓cnd_n, ↓cnd_d, ↓z0, ↓z1, ↓z2, y0n, y1i, y2r, y0e, y1e, y2e, wl_0, wl_1, wl_2, wl_3, wl_4, wl_5, wl_6, wl_7, wl_8, wl_9, wl_10, wl_11, wl_12, wl_13, wl_14, wl_15, wl_16, wl_17, wl_18, wl_19, wl_20, wl_21, wl_22, wl_23, wl_24, wl_25, wl_26, wl_27, wl_28, wl_29, wl_30, wl_31, wl_32, wl_33, wl_34, wl_35, wl_36, wl_37, wl_38, wl_39, wl_40, wl_41, wl_42, wl_43, wl_44, wl_45, wl_46, wl_47, wl_48, wl_49, wl_50, wl_51, wl_52, wl_53, wl_54, wl_55, wl_56, wl_57, wl_58, wl_59, wl_60, wl_61, wl_62, wl_63, wl_64, wl_65, wl_66, wl_67, wl_68, wl_69, wl_70, wl_71, wl_72, wl_73, wl_74, wl_75, wl_76, wl_77, wl_78, wl_79, wl_80, wl_81, wl_82, wl_83, wl_84, wl_85, wl_86, wl_87, wl_88, wl_89, wl_90, wl_91, wl_92, wl_93, wl_94, wl_95, wl_96, wl_97, wl_98, wl_99, wl_100, wl_101, wl_102, wl_103, wl_104, wl_105, wl_106, wl_107, wl_108, wl_109, wl_110, wl_111, wl_112, wl_113, wl_114, wl_115, wl_116, wl_117, wl_118, wl_119, wl_120, wl_121, wl_122, wl_123, wl_124, wl_125, wl_126, wl_127, wl_128, wl_129, wl_130, wl_159, wl_160, wl_200, wl_232, wl_255, wl_256, wl_300, wl_359, wl_360, wl_400, wl_592, wl_992, wl_999, wl_1000, wl_1024, wl_3456, wl_6512, wl_7104, wl_10000, wl_11264, wl_12345, wl_32767, wl_1000000000, wl_1103515245, wl_2000000000, w_add, w_sub, w_mul, w_neg, w_lt, w_le, w_eq, w_cl, w_in, w_nat, w_max2, w_min2, w_abs2, iltT, iltF, ileT, ileF, ieqT, ieqF, bv_01, bft, bv_0, bv_1, bv_t, bv_f, cond_true, cond_false, Bool.not_true, Bool.not_false, if_true, if_false, true_or, or_true, true_and, and_true, ↓reduceIte, decide_true, decide_false, reduceCtorEq, u2_s, u2_o, u2_k, u2_u2, Bool.true_or, Bool.or_true, Bool.false_or, Bool.or_false, Bool.and_true, Bool.true_and, Bool.and_false, Bool.false_and, eq_self, not_true_eq_false, not_false_eq_true, and_self, and_true, true_and, false_and, and_false, w_dv, dvm, XSH_e hX, e64, XSH_e hX', SHq_e hS, s92, eq_101]
  · rw [eq_284, hI2]
    simp (disch := first | assumption | omega | (simp (disch := omega) only [vM_u, vS_u]; first | assumption | omega)) only [hK, hL, hR, hI, hN, sI, hSp, hC, hW, li, lr, ↓cnd_a, ↓cnd_o, ↓cnd_n, ↓cnd_d, ↓z0, ↓z1, ↓z2, y0n, y1i, y2r, y0e, y1e, y2e, wl_0, wl_1, wl_2, wl_3, wl_4, wl_5, wl_6, wl_7, wl_8, wl_9, wl_10, wl_11, wl_12, wl_13, wl_14, wl_15, wl_16, wl_17, wl_18, wl_19, wl_20, wl_21, wl_22, wl_23, wl_24, wl_25, wl_26, wl_27, wl_28, wl_29, wl_30, wl_31, wl_32, wl_33, wl_34, wl_35, wl_36, wl_37, wl_38, wl_39, wl_40, wl_41, wl_42, wl_43, wl_44, wl_45, wl_46, wl_47, wl_48, wl_49, wl_50, wl_51, wl_52, wl_53, wl_54, wl_55, wl_56, wl_57, wl_58, wl_59, wl_60, wl_61, wl_62, wl_63, wl_64, wl_65, wl_66, wl_67, wl_68, wl_69, wl_70, wl_71, wl_72, wl_73, wl_74, wl_75, wl_76, wl_77, wl_78, wl_79, wl_80, wl_81, wl_82, wl_83, wl_84, wl_85, wl_86, wl_87, wl_88, wl_89, wl_90, wl_91, wl_92, wl_93, wl_94, wl_95, wl_96, wl_97, wl_98, wl_99, wl_100, wl_101, wl_102, wl_103, wl_104, wl_105, wl_106, wl_107, wl_108, wl_109, wl_110, wl_111, wl_112, wl_113, wl_114, wl_115, wl_116, wl_117, wl_118, wl_119, wl_120, wl_121, wl_122, wl_123, wl_124, wl_125, wl_126, wl_127, wl_128, wl_129, wl_130, wl_159, wl_160, wl_200, wl_232, wl_255, wl_256, wl_300, wl_359, wl_360, wl_400, wl_592, wl_992, wl_999, wl_1000, wl_1024, wl_3456, wl_6512, wl_7104, wl_10000, wl_11264, wl_12345, wl_32767, wl_1000000000, wl_1103515245, wl_2000000000, w_add, w_sub, w_mul, w_neg, w_lt, w_le, w_eq, w_cl, w_in, w_nat, w_max2, w_min2, w_abs2, iltT, iltF, ileT, ileF, ieqT, ieqF, bv_01, bft, bv_0, bv_1, bv_t, bv_f, cond_true, cond_false, Bool.not_true, Bool.not_false, if_true, if_false, true_or, or_true, true_and, and_true, ↓reduceIte, decide_true, decide_false, reduceCtorEq, u2_s, u2_o, u2_k, u2_u2, Bool.true_or, Bool.or_true, Bool.false_or, Bool.or_false, Bool.and_true, Bool.true_and, Bool.and_false, Bool.false_and, eq_self, not_true_eq_false, not_false_eq_true, and_self, and_true, true_and, false_and, and_false, w_dv, dvm, MSH_e hM', e275, r13]
end STM
