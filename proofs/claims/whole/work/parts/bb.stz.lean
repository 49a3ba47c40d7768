/-! steps: undo, image, back -/
theorem RLaw_c {I I' : Nat → Nat → Int32} {ss : List Int} {ln : Int} (h : ∀ k, k < 992 → I' 288 k = I 288 k) (g : RLaw I ss ln) : RLaw I' ss ln := by
  obtain ⟨T, e, g1, g2, g3, g4, g5, g6, g7⟩ := g
  exact ⟨T, e, by rw [h _ (by omega)]; exact g1, by rw [h _ (by omega)]; exact g2, g3, g4, g5, fun k a b => by rw [h _ (by unfold ix; omega)]; exact g6 k a b, g7⟩
theorem GD_SzB {N : Int} {m : Int → Int} (g : GD N m) : SzB m := SzB_BD g.1
theorem ALaw_g {K L : Nat → Nat} {R R' : Nat → Nat → Nat} {I I' : Nat → Nat → Int32} {lid : Nat} {ss : List Int} {ln : Int} (h79 : K 79 = 11) (gL : ALaw K L R I lid ss ln) (h : ∀ a k, (a < 82 ∨ 305 ≤ a) → a ≠ 79 → I' a k = I a k) (hr : R' lid 1 = R lid 1) : ALaw K L R' I' lid ss ln := by
  obtain ⟨⟨l1, l2, l3⟩, ⟨l4, l4'⟩, ⟨l5, l6, l7⟩, l8, l9, l10⟩ := gL
  have n1 : lid ≠ 79 := fun q => by rw [q, h79] at l1; exact absurd l1 (by decide)
  have n2 : R lid 1 ≠ 79 := fun q => by rw [q, h79] at l2; exact absurd l2 (by decide)
  exact ⟨⟨l1, by rw [hr]; exact l2, by rw [hr]; exact l3⟩, ⟨l4, by rw [hr]; exact l4'⟩, ⟨l5, by rw [h _ _ l4 n1]; exact l6, l7⟩, fun j hj => by rw [hr, h _ _ l4' n2]; exact l8 j hj, fun s hs h1 => by rw [h _ _ l4 n1]; exact l9 s hs h1, l10⟩
section STZ
variable {vn vc vw : Nat} {K L : Nat → Nat} {R : Nat → Nat → Nat} {I : Nat → Nat → Int32} {J : Nat → Nat → Int64}
variable {S : Nat → Int32} {ls : Nat}
def gUnd (g : Gho) : Gho := ((gPs g 0, g.1.2), g.2.1, (gn g - 1, fun j => gPs g (j + 1)), g.2.2.2)
def gImg (g : Gho) : Gho := (g.1, g.2.1, g.2.2.1, 1, gm g, gss g, gln g)
def gBck (g : Gho) : Gho := ((gkm g, gks g, gkl g), g.2.1, (0, gPs g), g.2.2.2)
theorem st_203 {d : Nat} {N : Int} {s : HS} (z : INV S ls N s) : StD S ls N s (ev PR (d + 40) 203 [.ref 79]) (ev PR (d + 40) 331 [.ref 287]) := by
  obtain ⟨vn, vc, vw, K, L, R, I, J, g, mk, nx, rfl, xg, xc, xm, xs⟩ := z
  obtain ⟨x1, x2, x3, x4, x5, x6, ⟨x7, x8⟩, ⟨x9, y1⟩, y2, y3, y4⟩ := id xc
  obtain ⟨z1', z2', z3, z4, z5, z6, ⟨ss', ln', z7⟩, z8⟩ := id x1
  have hX := z1'
  have hM := xm.1.1
  have hn := x6.2.1.2
  by_cases c : gn g = 0
  · have x6' := x6
    rw [c] at x6'
    have xp := xm.2.2.2.2.1
    rw [c] at xp
    have s65 := sp_65z (d := d + 36) (vn := vn) (vc := vc) (vw := vw) (J := J) hX x6'
    have s329 := sp_331z (d := d + 39) (vn := vn) (vc := vc) (vw := vw) (J := J) hM xp
    refine ⟨w 0, (((vn, vc, vw, K, L, R), I, J) : HS), (((vn, vc, vw, K, L, R), u2 I 287 0 (w 0), J) : HS), ?_, Mid_i xc xm xs.2, s329, INV_u0 (v := w 0) xg xc xm xs⟩
    rw [eq_203]
    simp (disch := first | assumption | omega | (simp (disch := omega) only [vM_u, vS_u]; first | assumption | omega)) only [hK, hL, hR, hI, hN, sI, hSp, hC, hW, li, lr, ↓cnd_a, ↓cnd_o, ↓cnd_n, ↓cnd_d, ↓z0, ↓z1, ↓z2, y0n, y1i, y2r, y0e, y1e, y2e, wl_0, wl_1, wl_2, wl_3, wl_4, wl_5, wl_6, wl_7, wl_8, wl_9, wl_10, wl_11, wl_12, wl_13, wl_14, wl_15, wl_16, wl_17, wl_18, wl_19, wl_20, wl_21, wl_22, wl_23, wl_24, wl_25, wl_26, wl_27, wl_28, wl_29, wl_30, wl_31, wl_32, wl_33, wl_34, wl_35, wl_36, wl_37, wl_38, wl_39, wl_40, wl_41, wl_42, wl_43, wl_44, wl_45, wl_46, wl_47, wl_48, wl_49, wl_50, wl_51, wl_52, wl_53, wl_54, wl_55, wl_56, wl_57, wl_58, wl_59, wl_60, wl_61, wl_62, wl_63, wl_64, wl_65, wl_66, wl_67, wl_68, wl_69, wl_70, wl_71, wl_72, wl_73, wl_74, wl_75, wl_76, wl_77, wl_78, wl_79, wl_80, wl_81, wl_82, wl_83, wl_84, wl_85, wl_86, wl_87, wl_88, wl_89, wl_90, wl_91, wl_92, wl_93, wl_94, wl_95, wl_96, wl_97, wl_98, wl_99, wl_100, wl_101, wl_102, wl_103, wl_104, wl_105, wl_106, wl_107, wl_108, wl_109, wl_110, wl_111, wl_112, wl_113, wl_114, wl_115, wl_116, wl_117, wl_118, wl_119, wl_120, wl_121, wl_122, wl_123, wl_124, wl_125, wl_126, wl_127, wl_128, wl_129, wl_130, wl_159, wl_160, wl_200, wl_232, wl_255, wl_256, wl_300, wl_359, wl_360, wl_400, wl_592, wl_992, wl_999, wl_1000, wl_1024, wl_3456, wl_6512, wl_7104, wl_10000, wl_11264, wl_12345, wl_32767, wl_1000000000, wl_1103515245, wl_2000000000, w_add, w_sub, w_mul, w_neg, w_lt, w_le, w_eq, w_cl, w_in, w_nat, w_max2, w_min2, w_abs2, iltT, iltF, ileT, ileF, ieqT, ieqF, bv_01, bft, bv_0, bv_1, bv_t, bv_f, cond_true, cond_false, Bool.not_true, Bool.not_false, if_true, if_false, true_or, or_true, true_and, and_true, ↓reduceIte, decide_true, decide_false, reduceCtorEq, u2_s, u2_o, u2_k, u2_u2, Bool.true_or, Bool.or_true, Bool.false_or, Bool.or_false, Bool.and_true, Bool.true_and, Bool.and_false, Bool.false_and, eq_self, not_true_eq_false, not_false_eq_true, and_self, and_true, true_and, false_and, and_false, w_dv, dvm, XSH_e hX, s65]
  · have g0 := xg.2.1 0 (by omega) (by omega)
    obtain ⟨I1, R', e65, hp, v1, w1, f1, hRr⟩ := sp_65 (d := d + 36) (vn := vn) (vc := vc) (vw := vw) (J := J) hX z2' z3 (by omega) (GD_SzB g0) x6
    have eR : R' = R := by funext a k; exact hRr a k
    subst eR
    have fr : ∀ a k, a < 91 ∨ (102 ≤ a ∧ a < 127) ∨ 128 ≤ a → I1 a k = I a k := fun a k q => f1 a k (by omega) (by omega)
    have c1 : IVc K L R' I1 N (gUnd g) mk ((nx + 11) % 12) := by
      have hO : OddsI I1 mk := by
        obtain ⟨u1, u2', u3⟩ := z8
        exact ⟨by rw [fr _ _ (by omega)]; exact u1, u2', fun c hc => by rw [fr _ _ (by omega)]; exact u3 c hc⟩
      refine ⟨⟨z1', z2', w1, v1, g0.1, ALaw_f z6 (fun a k q => fr a k (by omega)) rfl, ⟨ss', ln', AimOK_f z7 (fun a k q => fr a k (by omega))⟩, hO⟩, x2, SWA_f (fun a k q => fr a k (by omega)) x3, Tp_f (fun a k q => fr a k (by omega)) x4, by rw [fr _ _ (by omega)]; exact x5, hp, ⟨x7, Wd_f' (fun a q => fr _ _ (by omega)) x8⟩, ⟨x9, Wd_f' (fun a q => fr _ _ (by omega)) y1⟩, by rw [fr _ _ (by omega)]; exact y2, fun q => ?_, y4⟩
      obtain ⟨q1, q2⟩ := y3 q
      refine ⟨?_, ALaw_f q2 (fun a k q => fr a k (by omega)) rfl⟩
      show vS I1 103 = gkm g
      rw [← q1]
      exact vS_f' (fun a k u1 u2 u3 => fr _ _ (by omega))
    have m1 : IVm K L R' I1 g := IVm_cls (fun a k q => fr a k (by omega)) (fun _ _ _ => rfl) xm
    obtain ⟨u1, w2, w3, w4, w5, w6, w7⟩ := id m1
    obtain ⟨I2, e329, hp2, vv2, t12, l1, l2, h0, f2⟩ := sp_331 (d := d + 39) (vn := vn) (vc := vc) (vw := vw) (J := J) u1.1 (by omega) w5 g0.1
    have m2 : IVm K L R' I2 (gUnd g) := by
      refine ⟨⟨u1.1, SWA_f (fun a k q => f2 a k (by omega) (by omega)) u1.2.1, RLaw_f (fun k q => ?_) u1.2.2.1, vv2, g0.1, by rw [f2 _ _ (by omega) (by omega)]; exact u1.2.2.2.2.2⟩, t12, ?_, by rw [f2 _ _ (by omega) (by omega)]; exact w4, hp2, by rw [f2 _ _ (by omega) (by omega)]; exact w6, fun q => ?_⟩
      · rcases q with q | q | q
        · rw [q]; exact l1
        · rw [q]; exact l2
        · exact f2 _ _ (by omega) (by omega)
      · obtain ⟨t1', t2', t3', t4'⟩ := w3
        exact ⟨by rw [f2 _ _ (by omega) (by omega)]; exact t1', t2', t3', fun k a b => by rw [f2 _ _ (by omega) (by omega)]; exact t4' k a b⟩
      · obtain ⟨q1, q2, q3⟩ := w7 q
        have ek : ∀ k, keptI I2 288 k = keptI I1 288 k := fun k => by
          show I2 289 k = I1 289 k
          exact f2 _ _ (by omega) (by omega)
        refine ⟨by rw [vM_f ek]; exact q1, ?_, RLaw_f (fun k _ => ek k) q3⟩
        show mI (keptI I2) 12 = allT (gkm g)
        rw [← q2]
        unfold mI
        rw [ek]
    have xg' : IVg (N + 1) (gUnd g) := by
      have y := IVg_mono (N' := N + 1) (by omega) xg
      refine ⟨GD_mono (by omega) g0, fun j a b => ?_, y.2.2⟩
      have b' : j < gn g - 1 := b
      exact y.2.1 (j + 1) (by omega) (by omega)
    refine StD_i (g := gUnd g) (v := w 1) (vn' := vn) (vc' := vc) (vw' := vw) (R1 := R') (I1 := I1) (I2 := I2) xs ?_ e329 c1 u1.1 (fun k => fr _ _ (by omega)) (fun a k q => f2 a k (by omega) (by omega)) m2 xg'
    rw [eq_203]
    simp (disch := first | assumption | omega | (simp (disch := omega) only [vM_u, vS_u]; first | assumption | omega)) only [hK, hL, hR, hI, hN, sI, hSp, hC, hW, li, lr, ↓cnd_a, ↓cnd_o, ↓cnd_n, ↓cnd_d, ↓z0, ↓z1, ↓z2, y0n, y1i, y2r, y0e, y1e, y2e, wl_0, wl_1, wl_2, wl_3, wl_4, wl_5, wl_6, wl_7, wl_8, wl_9, wl_10, wl_11, wl_12, wl_13, wl_14, wl_15, wl_16, wl_17, wl_18, wl_19, wl_20, wl_21, wl_22, wl_23, wl_24, wl_25, wl_26, wl_27, wl_28, wl_29, wl_30, wl_31, wl_32, wl_33, wl_34, wl_35, wl_36, wl_37, wl_38, wl_39, wl_40, wl_41, wl_42, wl_43, wl_44, wl_45, wl_46, wl_47, wl_48, wl_49, wl_50, wl_51, wl_52, wl_53, wl_54, wl_55, wl_56, wl_57, wl_58, wl_59, wl_60, wl_61, wl_62, wl_63, wl_64, wl_65, wl_66, wl_67, wl_68, wl_69, wl_70, wl_71, wl_72, wl_73, wl_74, wl_75, wl_76, wl_77, wl_78, wl_79, wl_80, wl_81, wl_82, wl_83, wl_84, wl_85, wl_86, wl_87, wl_88, wl_89, wl_90, wl_91, wl_92, wl_93, wl_94, wl_95, wl_96, wl_97, wl_98, wl_99, wl_100, wl_101, wl_102, wl_103, wl_104, wl_105, wl_106, wl_107, wl_108, wl_109, wl_110, wl_111, wl_112, wl_113, wl_114, wl_115, wl_116, wl_117, wl_118, wl_119, wl_120, wl_121, wl_122, wl_123, wl_124, wl_125, wl_126, wl_127, wl_128, wl_129, wl_130, wl_159, wl_160, wl_200, wl_232, wl_255, wl_256, wl_300, wl_359, wl_360, wl_400, wl_592, wl_992, wl_999, wl_1000, wl_1024, wl_3456, wl_6512, wl_7104, wl_10000, wl_11264, wl_12345, wl_32767, wl_1000000000, wl_1103515245, wl_2000000000, w_add, w_sub, w_mul, w_neg, w_lt, w_le, w_eq, w_cl, w_in, w_nat, w_max2, w_min2, w_abs2, iltT, iltF, ileT, ileF, ieqT, ieqF, bv_01, bft, bv_0, bv_1, bv_t, bv_f, cond_true, cond_false, Bool.not_true, Bool.not_false, if_true, if_false, true_or, or_true, true_and, and_true, ↓reduceIte, decide_true, decide_false, reduceCtorEq, u2_s, u2_o, u2_k, u2_u2, Bool.true_or, Bool.or_true, Bool.false_or, Bool.or_false, Bool.and_true, Bool.true_and, Bool.and_false, Bool.false_and, eq_self, not_true_eq_false, not_false_eq_true, and_self, and_true, true_and, false_and, and_false, w_dv, dvm, XSH_e hX, e65]
theorem st_204 {d : Nat} {N : Int} {s : HS} (z : INV S ls N s) : StV S ls N s (ev PR (d + 40) 204 [.ref 79]) (ev PR (d + 40) 332 [.ref 287]) := by
  obtain ⟨vn, vc, vw, K, L, R, I, J, g, mk, nx, rfl, xg, xc, xm, xs⟩ := z
  obtain ⟨x1, x2, x3, x4, x5, x6, ⟨x7, x8⟩, ⟨x9, y1⟩, y2, y3, y4⟩ := id xc
  obtain ⟨z1', z2', z3, z4, z5, z6, ⟨ss', ln', z7⟩, z8⟩ := id x1
  have hX := z1'
  obtain ⟨I1, e202, v1, w1, i11, f1⟩ := sp_204 (d := d + 37) (vn := vn) (vc := vc) (vw := vw) (J := J) hX z2' x7 z3 x8 (by rw [z4]; exact SzB_BD z5)
  obtain ⟨R', hR'⟩ : ∃ R', R' = u2 R 103 10 (R 91 10) := ⟨_, rfl⟩
  rw [← hR'] at e202
  have rs : RS R R' := by rw [hR']; exact RS_u (by omega)
  have rq := RQ_S rs
  have ro : ∀ a k, a ≠ 103 → R' a k = R a k := fun a k q => by rw [hR', u2_o _ _ _ _ q]
  have r103 : R' 103 10 = R 91 10 := by rw [hR', u2_s]
  have l1 := z6.2.1.1
  have fr : ∀ a k, ¬(103 ≤ a ∧ a ≤ 113) → a ≠ 79 → I1 a k = I a k := fun a k q r => f1 a k q (by omega)
  have c1 : IVc K L R' I1 N (gImg g) mk nx := by
    have hO : OddsI I1 mk := by
      obtain ⟨u1, u2', u3⟩ := z8
      exact ⟨by rw [fr _ _ (by omega) (by omega)]; exact u1, u2', fun c hc => by rw [fr _ _ (by omega) (by omega)]; exact u3 c hc⟩
    have h79 : K 79 = 11 := (XSH_e hX).1
    have hL : ALaw K L R' I1 (R 91 10) (gss g) (gln g) := ALaw_g h79 z6 (fun a k q r => fr a k (by omega) r) (ro _ _ (by omega))
    have hA : AimOK K L R' I1 ss' ln' := by
      obtain ⟨p1, p2, p3⟩ := z7
      have e274 : (fun n => I1 274 (ix n)) = (fun n => I 274 (ix n)) := funext fun n => fr _ _ (by omega) (by omega)
      refine ⟨?_, by rw [fr _ _ (by omega) (by omega)]; exact p2, fun q => ?_⟩
      · rw [ro _ _ (by omega)]
        exact ALaw_g h79 p1 (fun a k q r => fr a k (by omega) r) (ro _ _ (by have := p1.2.1.1; omega))
      · rw [fr _ _ (by omega) (by omega)] at q
        have := p3 q
        unfold SuR at this ⊢
        rw [e274]
        simp (disch := omega) only [fr]
        exact this
    have hv : vS I1 91 = gm g := by rw [vS_f' (fun a k u1 u2 u3 => fr _ _ (by omega) (by omega))]; exact z4
    refine ⟨⟨XSH_r rq z1', SHq_r rq z2', Wd_f' (fun a q => fr _ _ (by omega) (by omega)) z3, hv, z5, by rw [ro _ _ (by omega)]; exact hL, ⟨ss', ln', hA⟩, hO⟩, x2, SWA_f (fun a k q => fr a k (by omega) (by omega)) x3, Tp_f (fun a k q => fr a k (by omega) (by omega)) x4, by rw [f1 _ _ (by omega) (by omega)]; exact x5, PX_r (fun a k q => ro a k (by omega)) (PX_f (fun a k p q => fr a k (by omega) (by omega)) x6), ⟨SHq_r rq x7, w1⟩, ⟨SHq_r rq x9, Wd_f' (fun a q => fr _ _ (by omega) (by omega)) y1⟩, i11, fun _ => ⟨by rw [v1]; exact z4, by rw [r103]; exact hL⟩, y4⟩
  have m1 : IVm K L R' I1 g := IVm_cls (fun a k q => fr a k (by omega) (by omega)) (fun a k q => ro _ _ (by omega)) xm
  obtain ⟨u1, w2, w3, w4, w5, w6, w7⟩ := id m1
  obtain ⟨I2, e330, b1, h0, c2, f2⟩ := sp_332 (d := d + 39) (I := I1) (vn := vn) (vc := vc) (vw := vw) (J := J) u1.1
  have m2 : IVm K L R' I2 (gImg g) := by
    have e12 : mI I2 12 = mI I1 12 := by unfold mI; rw [f2 _ _ (by omega) (by omega)]
    have ek : ∀ k, k < 992 → keptI I2 288 k = I1 288 k := fun k hk => c2 k hk
    refine ⟨⟨u1.1, SWA_f (fun a k q => f2 a k (by omega) (by omega)) u1.2.1, RLaw_f (fun k q => f2 _ _ (by omega) (by omega)) u1.2.2.1, by rw [vM_f (fun k => f2 _ _ (by omega) (by omega))]; exact u1.2.2.2.1, u1.2.2.2.2.1, by rw [f2 _ _ (by omega) (by omega)]; exact u1.2.2.2.2.2⟩, by rw [e12]; exact w2, ?_, by rw [f2 _ _ (by omega) (by omega)]; exact w4, PM_f ⟨fun k => f2 _ _ (by omega) (by omega), f2 _ _ (by omega) (by omega), f2 _ _ (by omega) (by omega), f2 _ _ (by omega) (by omega)⟩ w5, b1, fun _ => ?_⟩
    · obtain ⟨t1', t2', t3', t4'⟩ := w3
      exact ⟨by rw [f2 _ _ (by omega) (by omega)]; exact t1', t2', t3', fun k a b => by rw [f2 _ _ (by omega) (by omega)]; exact t4' k a b⟩
    · obtain ⟨p1, p2, p3, p4⟩ := vM_c (F := I1) (G := keptI I2) (fun k hk => ek k (by omega)) u1.2.2.2.1 u1.2.2.2.2.1
      exact ⟨p1, by rw [p2]; exact w2, RLaw_c ek u1.2.2.1⟩
  have xg' : IVg (N + 1) (gImg g) := by
    have y := IVg_mono (N' := N + 1) (by omega) xg
    exact ⟨y.1, y.2.1, Or.inr rfl, fun _ => y.1, y.2.2.2.2⟩
  refine ⟨_, _, e202, ?_, e330, ⟨vn, vc, vw, K, L, R', I2, J, gImg g, mk, nx, rfl, xg', IVc_mono (by omega) (IVc_f (fun a k q => f2 a k (by omega) (by omega)) c1), m2, IVs_mono xs ⟨rfl, by omega, by omega⟩ (fun k => by rw [f2 _ _ (by omega) (by omega), fr _ _ (by omega) (by omega)])⟩⟩
  exact ⟨xs.2.1, xs.2.2.1, fun k => by show I1 78 k = S k; rw [fr _ _ (by omega) (by omega)]; exact xs.2.2.2 k, (XSH_e c1.1.1).1, (MSH_e u1.1).1, c1.2.2.2.2.2.2.2.2.2.2⟩
theorem st_205 {d : Nat} {N : Int} {s : HS} (z : INV S ls N s) : StD S ls N s (ev PR (d + 40) 205 [.ref 79]) (ev PR (d + 40) 333 [.ref 287]) := by
  obtain ⟨vn, vc, vw, K, L, R, I, J, g, mk, nx, rfl, xg, xc, xm, xs⟩ := z
  obtain ⟨x1, x2, x3, x4, x5, x6, ⟨x7, x8⟩, ⟨x9, y1⟩, y2, y3, y4⟩ := id xc
  obtain ⟨z1', z2', z3, z4, z5, z6, ⟨ss', ln', z7⟩, z8⟩ := id x1
  have hX := z1'
  have hM := xm.1.1
  have b3 := xm.2.2.2.2.2.1
  rcases xg.2.2.1 with hb | hb
  · rw [hb] at y2 b3
    have s331 := sp_333z (d := d + 39) (I := I) (vn := vn) (vc := vc) (vw := vw) (J := J) hM b3
    have s203 := sp_205z (d := d + 39) (I := I) (vn := vn) (vc := vc) (vw := vw) (J := J) hX y2
    exact ⟨w 0, (((vn, vc, vw, K, L, R), I, J) : HS), (((vn, vc, vw, K, L, R), u2 I 287 0 (w 0), J) : HS), s203, Mid_i xc xm xs.2, s331, INV_u0 (v := w 0) xg xc xm xs⟩
  · rw [hb] at b3
    have y2' := y2
    rw [hb] at y2'
    have gk := xg.2.2.2.1 hb
    obtain ⟨q1, q2⟩ := y3 hb
    obtain ⟨I1, e203, v1, w1, i127, f1⟩ := sp_205 (d := d + 37) (vn := vn) (vc := vc) (vw := vw) (J := J) hX z2' x7 z3 x8 (by rw [q1]; exact GD_SzB gk) y2'
    obtain ⟨R', hR'⟩ : ∃ R', R' = u2 R 91 10 (R 103 10) := ⟨_, rfl⟩
    rw [← hR'] at e203
    have rs : RS R R' := by rw [hR']; exact RS_u (by omega)
    have rq := RQ_S rs
    have ro : ∀ a k, a ≠ 91 → R' a k = R a k := fun a k q => by rw [hR', u2_o _ _ _ _ q]
    have r91 : R' 91 10 = R 103 10 := by rw [hR', u2_s]
    have fr : ∀ a k, a < 91 ∨ (102 ≤ a ∧ a ≠ 127) → I1 a k = I a k := fun a k q => f1 a k (by omega) (by omega)
    have c1 : IVc K L R' I1 N (gBck g) mk nx := by
      have hO : OddsI I1 mk := by
        obtain ⟨u1, u2', u3⟩ := z8
        exact ⟨by rw [fr _ _ (by omega)]; exact u1, u2', fun c hc => by rw [fr _ _ (by omega)]; exact u3 c hc⟩
      have hA : AimOK K L R' I1 ss' ln' := by
        have := AimOK_f (I' := I1) z7 (fun a k q => fr a k (by omega))
        obtain ⟨p1, p2⟩ := this
        refine ⟨?_, p2⟩
        rw [ro _ _ (by omega)]
        exact ALaw_f p1 (fun _ _ _ => rfl) (ro _ _ (by have := p1.2.1.1; omega))
      have hL : ALaw K L R' I1 (R 103 10) (gks g) (gkl g) := ALaw_f q2 (fun a k q => fr a k (by omega)) (ro _ _ (by have := q2.2.1.1; omega))
      refine ⟨⟨XSH_r rq z1', SHq_r rq z2', w1, by rw [v1]; exact q1, gk.1, by rw [r91]; exact hL, ⟨ss', ln', hA⟩, hO⟩, x2, SWA_f (fun a k q => fr a k (by omega)) x3, Tp_f (fun a k q => fr a k (by omega)) x4, by rw [fr _ _ (by omega)]; exact x5, ?_, ⟨SHq_r rq x7, Wd_f' (fun a q => fr _ _ (by omega)) x8⟩, ⟨SHq_r rq x9, Wd_f' (fun a q => fr _ _ (by omega)) y1⟩, by rw [fr _ _ (by omega)]; exact y2, fun q => ?_, y4⟩
      · obtain ⟨g1, g2, g3, g4⟩ := x6
        refine ⟨by rw [f1 _ _ (by omega) (by omega)]; exact g1, ⟨i127, by show (0 : Int) ≤ 0 ∧ (0 : Int) ≤ 12; omega⟩, fun i hi => ?_, fun j a b => ?_⟩
        · obtain ⟨p1, p2, p3⟩ := g3 i hi
          exact ⟨by rw [ro _ _ (by omega)]; exact p1, SHq_r rq p2, Wd_f' (fun a q => fr _ _ (by omega)) p3⟩
        · have b' : j < 0 := b
          omega
      · refine ⟨?_, ?_⟩
        · show vS I1 103 = gkm g
          rw [← q1]
          exact vS_f' (fun a k u1 u2 u3 => fr _ _ (by omega))
        · rw [ro _ _ (by omega)]
          exact hL
    have m1 : IVm K L R' I1 g := IVm_cls (fun a k q => fr a k (by omega)) (fun a k q => ro _ _ (by omega)) xm
    obtain ⟨u1, w2, w3, w4, w5, w6, w7⟩ := id m1
    obtain ⟨p1, p2, p3⟩ := w7 hb
    obtain ⟨I2, e331, n6, h0, c2, f2⟩ := sp_333 (d := d + 39) (I := I1) (vn := vn) (vc := vc) (vw := vw) (J := J) u1.1 (by rw [w6, hb])
    have m2 : IVm K L R' I2 (gBck g) := by
      have ek : ∀ k, k < 992 → I2 288 k = keptI I1 288 k := fun k hk => c2 k hk
      obtain ⟨o1, o2, o3, o4⟩ := vM_c (F := keptI I1) (G := I2) (fun k hk => ek k (by omega)) p1 gk.1
      have ekk : ∀ k, keptI I2 288 k = keptI I1 288 k := fun k => by
        show I2 289 k = I1 289 k
        exact f2 _ _ (by omega) (by omega)
      refine ⟨⟨u1.1, SWA_f (fun a k q => f2 a k (by omega) (by omega)) u1.2.1, RLaw_c ek p3, o1, gk.1, by rw [f2 _ _ (by omega) (by omega)]; exact u1.2.2.2.2.2⟩, by rw [o2]; exact p2, ?_, by rw [f2 _ _ (by omega) (by omega)]; exact w4, ⟨⟨n6, by show (0 : Int) ≤ 0 ∧ (0 : Int) ≤ 12; omega⟩, fun j a b => by have b' : j < 0 := b; omega⟩, by rw [f2 _ _ (by omega) (by omega)]; exact w6, fun _ => ?_⟩
      · obtain ⟨t1', t2', t3', t4'⟩ := w3
        exact ⟨by rw [f2 _ _ (by omega) (by omega)]; exact t1', t2', t3', fun k a b => by rw [f2 _ _ (by omega) (by omega)]; exact t4' k a b⟩
      · refine ⟨by rw [vM_f ekk]; exact p1, ?_, RLaw_f (fun k _ => ekk k) p3⟩
        show mI (keptI I2) 12 = allT (gkm g)
        rw [← p2]
        unfold mI
        rw [ekk]
    have xg' : IVg (N + 1) (gBck g) := by
      have y := IVg_mono (N' := N + 1) (by omega) xg
      refine ⟨GD_mono (by omega) gk, fun j a b => ?_, y.2.2⟩
      have b' : j < 0 := b
      omega
    exact StD_i (g := gBck g) (v := w 1) (vn' := vn) (vc' := vc) (vw' := vw) (R1 := R') (I1 := I1) (I2 := I2) xs e203 e331 c1 u1.1 (fun k => fr _ _ (by omega)) (fun a k q => f2 a k (by omega) (by omega)) m2 xg'
end STZ
