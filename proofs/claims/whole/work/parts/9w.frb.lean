/-! THE CLASS reads a fair: blocks, hoops, settings, a line -/
section FRBB
variable {vn vc vw : Nat} {K L : Nat → Nat} {R : Nat → Nat → Nat} {I : Nat → Nat → Int32} {J : Nat → Nat → Int64}
variable {T : Int → Int} {e n : Int} {tb : Int → Int}
theorem must_at {p j : Int} {ws : List Int} (h : sk T e p = tb j) : pMust T e ws p = if hasB T e (tb j) ws then .ok (lw T e (tb j)) else .error (tb j) := by
  unfold pMust
  rw [h]
theorem fig_at {p j lo hi : Int} (h : sk T e p = tb j) : pFig T e lo hi p = pFig T e lo hi (tb j) := by rw [← h, pFig_sk]
theorem has_nx {I : Nat → Nat → Int32} {j : Int} {ws : List Int} (hT : Tp I T e) (hG : TkI I T e n tb) (hj : 0 ≤ j ∧ j ≤ n) (hw : hasB T e (tb j) ws = true) (hne : ws ≠ []) : j < n ∧ sk T e (lw T e (tb j)) = tb (j + 1) := by
  have h1 := TkI_tb hG hj hT.2.1.1
  have h2 := has_lt hw hne
  have hl := has_L hw hne
  have hj2 : j < n := h1.2.2.2.mp (by omega)
  refine ⟨hj2, ?_⟩
  rw [TkI_st hG ⟨hj.1, hj2⟩, tend_L hl]
theorem fig_nx {I : Nat → Nat → Int32} {j : Int} {r : Int × Int} (hG : TkI I T e n tb) (hj : 0 ≤ j) (h : j < n ∧ r.1 = tend T e (tb j)) : sk T e r.1 = tb (j + 1) := by
  rw [TkI_st hG ⟨hj, h.1⟩, h.2]
theorem fig_er {I : Nat → Nat → Int32} {j f lo hi : Int} (hT : Tp I T e) (hG : TkI I T e n tb) (hj : 0 ≤ j ∧ j ≤ n) (h : pFig T e lo hi (tb j) = .error f) : tb j = f := by
  rw [pFig_e h]
  exact (TkI_tb hG hj hT.2.1.1).2.2.1.symm
def GoD (I : Nat → Nat → Int32) (σ : (Nat → Nat → Int32) → HS) (T : Int → Int) (e n : Int) (tb : Int → Int) (i : Int) (res : Option Res) (r : Except Int (Int × (Int → Int))) : Prop :=
  match r with
  | .ok t => ∃ I' j, res = some (.inl (some (.int (w 1))), σ (nx I' j)) ∧ FDr I I' ∧ (i < j ∧ j ≤ n) ∧ sk T e t.1 = tb j ∧ vS I' 115 = t.2
  | .error f => ∃ I' j, res = some (.inl (some (.int (w 0))), σ (nx I' j)) ∧ FDr I I' ∧ (0 ≤ j ∧ j ≤ n) ∧ tb j = f
def mpE {α β : Type} (g : α → β) (r : Except Int α) : Except Int β := match r with | .error f => .error f | .ok t => .ok (g t)
theorem mpE_e {α β : Type} {g : α → β} {r : Except Int α} {f : Int} (h : r = .error f) : mpE g r = .error f := by rw [h]; rfl
theorem mpE_o {α β : Type} {g : α → β} {r : Except Int α} {t : α} (h : r = .ok t) : mpE g r = .ok (g t) := by rw [h]; rfl
def fillB (m : Int → Int) (b : Int) (r : BkR) : Int → Int := setm (setm (setm (setm (setm m (20 + 5 * b + 0) r.2.1) (20 + 5 * b + 1) r.2.2.1) (20 + 5 * b + 2) r.2.2.2.1) (20 + 5 * b + 3) r.2.2.2.2.1) (20 + 5 * b + 4) (bI r.2.2.2.2.2)
def fillH (m : Int → Int) (b : Int) (r : HpR) : Int → Int := setm (setm (setm m (70 + 3 * b + 0) r.2.1) (70 + 3 * b + 1) r.2.2.1) (70 + 3 * b + 2) (bI r.2.2.2)
theorem setm_id {m : Int → Int} {z v : Int} (h : m z = v) : setm m z v = m := by
  funext y
  unfold setm
  by_cases c : y = z
  · rw [if_pos c, c, h]
  · rw [if_neg c]
theorem sp_22 {d : Nat} {i b : Int} (hX : XSH K L R) (hS : SHq K L R 115) (hD : DrA K L I T e n tb) (hi : 0 ≤ i ∧ i ≤ n) (hb : vS I 115 3 = b + 1 ∧ 0 ≤ b ∧ b < 10) (hz : vS I 115 (20 + 5 * b + 4) = 0) :
    GoD I (fun I' => (((vn, vc, vw, K, L, R), I', J) : HS)) T e n tb i (ev PR (d + 4) 22 [.ref 87, .ref 116] (((vn, vc, vw, K, L, R), nx I i, J) : HS)) (mpE (fun r => (r.1, fillB (vS I 115) b r)) (pBlk T e (tb i))) := by
  have g1 := sp_24b (d := d) (i := i) (lo := 0) (hi := 59) (b := b) (j := 0) (vn := vn) (vc := vc) (vw := vw) (J := J) hX hS hD hi (by omega) ⟨hb.1, hb.2, by omega⟩
  unfold pBlk
  cases c1 : pFig T e 0 59 (tb i) with
  | error f =>
    refine ⟨I, i, ?_, FDr_rf, hi, fig_er hD.1 hD.2.1 hi c1⟩
    rw [eq_22]
    simp (disch := first | assumption | omega | (simp (disch := omega) only [vM_u, vS_u]; first | assumption | omega)) only [hK, hL, hR, hI, hN, sI, hSp, hC, hW, li, lr, ↓cnd_a, ↓cnd_o, ↓cnd_n, ↓cnd_d, ↓z0, ↓z1, ↓z2, y0n, y1i, y2r, y0e, y1e, y2e, wl_0, wl_1, wl_2, wl_3, wl_4, wl_5, wl_6, wl_7, wl_8, wl_9, wl_10, wl_11, wl_12, wl_13, wl_14, wl_15, wl_16, wl_17, wl_18, wl_19, wl_20, wl_21, wl_22, wl_23, wl_24, wl_25, wl_26, wl_27, wl_28, wl_29, wl_30, wl_31, wl_32, wl_33, wl_34, wl_35, wl_36, wl_37, wl_38, wl_39, wl_40, wl_41, wl_42, wl_43, wl_44, wl_45, wl_46, wl_47, wl_48, wl_49, wl_50, wl_51, wl_52, wl_53, wl_54, wl_55, wl_56, wl_57, wl_58, wl_59, wl_60, wl_61, wl_62, wl_63, wl_64, wl_65, wl_66, wl_67, wl_68, wl_69, wl_70, wl_71, wl_72, wl_73, wl_74, wl_75, wl_76, wl_77, wl_78, wl_79, wl_80, wl_81, wl_82, wl_83, wl_84, wl_85, wl_86, wl_87, wl_88, wl_89, wl_90, wl_91, wl_92, wl_93, wl_94, wl_95, wl_96, wl_97, wl_98, wl_99, wl_100, wl_101, wl_102, wl_103, wl_104, wl_105, wl_106, wl_107, wl_108, wl_109, wl_110, wl_111, wl_112, wl_113, wl_114, wl_115, wl_116, wl_117, wl_118, wl_119, wl_120, wl_121, wl_122, wl_123, wl_124, wl_125, wl_126, wl_127, wl_128, wl_129, wl_130, wl_159, wl_160, wl_200, wl_232, wl_255, wl_256, wl_300, wl_359, wl_360, wl_400, wl_592, wl_992, wl_999, wl_1000, wl_1024, wl_3456, wl_6512, wl_7104, wl_10000, wl_11264, wl_12345, wl_32767, wl_1000000000, wl_1103515245, wl_2000000000, w_add, w_sub, w_mul, w_neg, w_lt, w_le, w_eq, w_cl, w_in, w_nat, w_max2, w_min2, w_abs2, iltT, iltF, ileT, ileF, ieqT, ieqF, bv_01, bft, bv_0, bv_1, bv_t, bv_f, cond_true, cond_false, Bool.not_true, Bool.not_false, if_true, if_false, true_or, or_true, true_and, and_true, ↓reduceIte, decide_true, decide_false, reduceCtorEq, u2_s, u2_o, u2_k, u2_u2, Bool.true_or, Bool.or_true, Bool.false_or, Bool.or_false, Bool.and_true, Bool.true_and, Bool.and_false, Bool.false_and, eq_self, not_true_eq_false, not_false_eq_true, and_self, and_true, true_and, false_and, and_false, w_dv, dvm, XSH_e hX, g1.2 f c1, eq_22_40]
  | ok a =>
  obtain ⟨u1, I1, x1, D1, F1, m1⟩ := g1.1 a c1
  have p1 := fig_nx hD.2.1 hi.1 u1
  dsimp only
  rw [fig_at p1]
  have hb1 : vS I1 115 3 = b + 1 := by rw [m1, setm_o _ (by omega)]; exact hb.1
  have i1 : 0 ≤ i + 1 ∧ i + 1 ≤ n := by omega
  have g2 := sp_24b (d := d) (i := i + 1) (lo := 0) (hi := 39) (b := b) (j := 1) (vn := vn) (vc := vc) (vw := vw) (J := J) hX hS D1 i1 (by omega) ⟨hb1, hb.2, by omega⟩
  cases c2 : pFig T e 0 39 (tb (i + 1)) with
  | error f =>
    refine ⟨I1, i + 1, ?_, F1, i1, fig_er D1.1 D1.2.1 i1 c2⟩
    rw [eq_22]
    simp (disch := first | assumption | omega | (simp (disch := omega) only [vM_u, vS_u]; first | assumption | omega)) only [hK, hL, hR, hI, hN, sI, hSp, hC, hW, li, lr, ↓cnd_a, ↓cnd_o, ↓cnd_n, ↓cnd_d, ↓z0, ↓z1, ↓z2, y0n, y1i, y2r, y0e, y1e, y2e, wl_0, wl_1, wl_2, wl_3, wl_4, wl_5, wl_6, wl_7, wl_8, wl_9, wl_10, wl_11, wl_12, wl_13, wl_14, wl_15, wl_16, wl_17, wl_18, wl_19, wl_20, wl_21, wl_22, wl_23, wl_24, wl_25, wl_26, wl_27, wl_28, wl_29, wl_30, wl_31, wl_32, wl_33, wl_34, wl_35, wl_36, wl_37, wl_38, wl_39, wl_40, wl_41, wl_42, wl_43, wl_44, wl_45, wl_46, wl_47, wl_48, wl_49, wl_50, wl_51, wl_52, wl_53, wl_54, wl_55, wl_56, wl_57, wl_58, wl_59, wl_60, wl_61, wl_62, wl_63, wl_64, wl_65, wl_66, wl_67, wl_68, wl_69, wl_70, wl_71, wl_72, wl_73, wl_74, wl_75, wl_76, wl_77, wl_78, wl_79, wl_80, wl_81, wl_82, wl_83, wl_84, wl_85, wl_86, wl_87, wl_88, wl_89, wl_90, wl_91, wl_92, wl_93, wl_94, wl_95, wl_96, wl_97, wl_98, wl_99, wl_100, wl_101, wl_102, wl_103, wl_104, wl_105, wl_106, wl_107, wl_108, wl_109, wl_110, wl_111, wl_112, wl_113, wl_114, wl_115, wl_116, wl_117, wl_118, wl_119, wl_120, wl_121, wl_122, wl_123, wl_124, wl_125, wl_126, wl_127, wl_128, wl_129, wl_130, wl_159, wl_160, wl_200, wl_232, wl_255, wl_256, wl_300, wl_359, wl_360, wl_400, wl_592, wl_992, wl_999, wl_1000, wl_1024, wl_3456, wl_6512, wl_7104, wl_10000, wl_11264, wl_12345, wl_32767, wl_1000000000, wl_1103515245, wl_2000000000, w_add, w_sub, w_mul, w_neg, w_lt, w_le, w_eq, w_cl, w_in, w_nat, w_max2, w_min2, w_abs2, iltT, iltF, ileT, ileF, ieqT, ieqF, bv_01, bft, bv_0, bv_1, bv_t, bv_f, cond_true, cond_false, Bool.not_true, Bool.not_false, if_true, if_false, true_or, or_true, true_and, and_true, ↓reduceIte, decide_true, decide_false, reduceCtorEq, u2_s, u2_o, u2_k, u2_u2, Bool.true_or, Bool.or_true, Bool.false_or, Bool.or_false, Bool.and_true, Bool.true_and, Bool.and_false, Bool.false_and, eq_self, not_true_eq_false, not_false_eq_true, and_self, and_true, true_and, false_and, and_false, w_dv, dvm, XSH_e hX, x1, g2.2 f c2, eq_22_40]
  | ok a2 =>
  obtain ⟨u2', I2, x2, D2, F2', m2⟩ := g2.1 a2 c2
  have p2 := fig_nx D1.2.1 i1.1 u2'
  dsimp only
  rw [must_at p2]
  have hb2 : vS I2 115 3 = b + 1 := by rw [m2, setm_o _ (by omega)]; exact hb1
  have i2 : 0 ≤ i + 1 + 1 ∧ i + 1 + 1 ≤ n := by omega
  have g3 := sp_v2 (d := d + 2) (i := i + 1 + 1) (vn := vn) (vc := vc) (vw := vw) (J := J) hX D2.1 D2.2.1 D2.2.2.1 i2
  cases c3 : hasB T e (tb (i + 1 + 1)) W_side with
  | false =>
    simp only [c3, cond_false] at g3
    refine ⟨I2, i + 1 + 1, ?_, FDr_tr F1 F2', i2, rfl⟩
    rw [eq_22]
    simp (disch := first | assumption | omega | (simp (disch := omega) only [vM_u, vS_u]; first | assumption | omega)) only [hK, hL, hR, hI, hN, sI, hSp, hC, hW, li, lr, ↓cnd_a, ↓cnd_o, ↓cnd_n, ↓cnd_d, ↓z0, ↓z1, ↓z2, y0n, y1i, y2r, y0e, y1e, y2e, wl_0, wl_1, wl_2, wl_3, wl_4, wl_5, wl_6, wl_7, wl_8, wl_9, wl_10, wl_11, wl_12, wl_13, wl_14, wl_15, wl_16, wl_17, wl_18, wl_19, wl_20, wl_21, wl_22, wl_23, wl_24, wl_25, wl_26, wl_27, wl_28, wl_29, wl_30, wl_31, wl_32, wl_33, wl_34, wl_35, wl_36, wl_37, wl_38, wl_39, wl_40, wl_41, wl_42, wl_43, wl_44, wl_45, wl_46, wl_47, wl_48, wl_49, wl_50, wl_51, wl_52, wl_53, wl_54, wl_55, wl_56, wl_57, wl_58, wl_59, wl_60, wl_61, wl_62, wl_63, wl_64, wl_65, wl_66, wl_67, wl_68, wl_69, wl_70, wl_71, wl_72, wl_73, wl_74, wl_75, wl_76, wl_77, wl_78, wl_79, wl_80, wl_81, wl_82, wl_83, wl_84, wl_85, wl_86, wl_87, wl_88, wl_89, wl_90, wl_91, wl_92, wl_93, wl_94, wl_95, wl_96, wl_97, wl_98, wl_99, wl_100, wl_101, wl_102, wl_103, wl_104, wl_105, wl_106, wl_107, wl_108, wl_109, wl_110, wl_111, wl_112, wl_113, wl_114, wl_115, wl_116, wl_117, wl_118, wl_119, wl_120, wl_121, wl_122, wl_123, wl_124, wl_125, wl_126, wl_127, wl_128, wl_129, wl_130, wl_159, wl_160, wl_200, wl_232, wl_255, wl_256, wl_300, wl_359, wl_360, wl_400, wl_592, wl_992, wl_999, wl_1000, wl_1024, wl_3456, wl_6512, wl_7104, wl_10000, wl_11264, wl_12345, wl_32767, wl_1000000000, wl_1103515245, wl_2000000000, w_add, w_sub, w_mul, w_neg, w_lt, w_le, w_eq, w_cl, w_in, w_nat, w_max2, w_min2, w_abs2, iltT, iltF, ileT, ileF, ieqT, ieqF, bv_01, bft, bv_0, bv_1, bv_t, bv_f, cond_true, cond_false, Bool.not_true, Bool.not_false, if_true, if_false, true_or, or_true, true_and, and_true, ↓reduceIte, decide_true, decide_false, reduceCtorEq, u2_s, u2_o, u2_k, u2_u2, Bool.true_or, Bool.or_true, Bool.false_or, Bool.or_false, Bool.and_true, Bool.true_and, Bool.and_false, Bool.false_and, eq_self, not_true_eq_false, not_false_eq_true, and_self, and_true, true_and, false_and, and_false, w_dv, dvm, XSH_e hX, x1, x2, g3, eq_22_40]
  | true =>
  simp only [c3, cond_true] at g3
  simp only [if_true]
  have u3 := has_nx D2.1 D2.2.1 i2 c3 (by decide)
  rw [fig_at u3.2]
  have i3 : 0 ≤ i + 1 + 1 + 1 ∧ i + 1 + 1 + 1 ≤ n := by omega
  have g4 := sp_24b (d := d) (i := i + 1 + 1 + 1) (lo := 1) (hi := 9) (b := b) (j := 2) (vn := vn) (vc := vc) (vw := vw) (J := J) hX hS D2 i3 (by omega) ⟨hb2, hb.2, by omega⟩
  cases c4 : pFig T e 1 9 (tb (i + 1 + 1 + 1)) with
  | error f =>
    refine ⟨I2, i + 1 + 1 + 1, ?_, FDr_tr F1 F2', i3, fig_er D2.1 D2.2.1 i3 c4⟩
    rw [eq_22]
    simp (disch := first | assumption | omega | (simp (disch := omega) only [vM_u, vS_u]; first | assumption | omega)) only [hK, hL, hR, hI, hN, sI, hSp, hC, hW, li, lr, ↓cnd_a, ↓cnd_o, ↓cnd_n, ↓cnd_d, ↓z0, ↓z1, ↓z2, y0n, y1i, y2r, y0e, y1e, y2e, wl_0, wl_1, wl_2, wl_3, wl_4, wl_5, wl_6, wl_7, wl_8, wl_9, wl_10, wl_11, wl_12, wl_13, wl_14, wl_15, wl_16, wl_17, wl_18, wl_19, wl_20, wl_21, wl_22, wl_23, wl_24, wl_25, wl_26, wl_27, wl_28, wl_29, wl_30, wl_31, wl_32, wl_33, wl_34, wl_35, wl_36, wl_37, wl_38, wl_39, wl_40, wl_41, wl_42, wl_43, wl_44, wl_45, wl_46, wl_47, wl_48, wl_49, wl_50, wl_51, wl_52, wl_53, wl_54, wl_55, wl_56, wl_57, wl_58, wl_59, wl_60, wl_61, wl_62, wl_63, wl_64, wl_65, wl_66, wl_67, wl_68, wl_69, wl_70, wl_71, wl_72, wl_73, wl_74, wl_75, wl_76, wl_77, wl_78, wl_79, wl_80, wl_81, wl_82, wl_83, wl_84, wl_85, wl_86, wl_87, wl_88, wl_89, wl_90, wl_91, wl_92, wl_93, wl_94, wl_95, wl_96, wl_97, wl_98, wl_99, wl_100, wl_101, wl_102, wl_103, wl_104, wl_105, wl_106, wl_107, wl_108, wl_109, wl_110, wl_111, wl_112, wl_113, wl_114, wl_115, wl_116, wl_117, wl_118, wl_119, wl_120, wl_121, wl_122, wl_123, wl_124, wl_125, wl_126, wl_127, wl_128, wl_129, wl_130, wl_159, wl_160, wl_200, wl_232, wl_255, wl_256, wl_300, wl_359, wl_360, wl_400, wl_592, wl_992, wl_999, wl_1000, wl_1024, wl_3456, wl_6512, wl_7104, wl_10000, wl_11264, wl_12345, wl_32767, wl_1000000000, wl_1103515245, wl_2000000000, w_add, w_sub, w_mul, w_neg, w_lt, w_le, w_eq, w_cl, w_in, w_nat, w_max2, w_min2, w_abs2, iltT, iltF, ileT, ileF, ieqT, ieqF, bv_01, bft, bv_0, bv_1, bv_t, bv_f, cond_true, cond_false, Bool.not_true, Bool.not_false, if_true, if_false, true_or, or_true, true_and, and_true, ↓reduceIte, decide_true, decide_false, reduceCtorEq, u2_s, u2_o, u2_k, u2_u2, Bool.true_or, Bool.or_true, Bool.false_or, Bool.or_false, Bool.and_true, Bool.true_and, Bool.and_false, Bool.false_and, eq_self, not_true_eq_false, not_false_eq_true, and_self, and_true, true_and, false_and, and_false, w_dv, dvm, XSH_e hX, x1, x2, g3, g4.2 f c4, eq_22_40]
  | ok a4 =>
  obtain ⟨u4, I4, x4, D4, F4, m4⟩ := g4.1 a4 c4
  have p4 := fig_nx D2.2.1 i3.1 u4
  dsimp only
  rw [must_at p4]
  have hb4 : vS I4 115 3 = b + 1 := by rw [m4, setm_o _ (by omega)]; exact hb2
  have i4 : 0 ≤ i + 1 + 1 + 1 + 1 ∧ i + 1 + 1 + 1 + 1 ≤ n := by omega
  have g5 := sp_v3 (d := d + 2) (i := i + 1 + 1 + 1 + 1) (vn := vn) (vc := vc) (vw := vw) (J := J) hX D4.1 D4.2.1 D4.2.2.1 i4
  cases c5 : hasB T e (tb (i + 1 + 1 + 1 + 1)) W_prize with
  | false =>
    simp only [c5, cond_false] at g5
    refine ⟨I4, i + 1 + 1 + 1 + 1, ?_, FDr_tr F1 (FDr_tr F2' F4), i4, rfl⟩
    rw [eq_22]
    simp (disch := first | assumption | omega | (simp (disch := omega) only [vM_u, vS_u]; first | assumption | omega)) only [hK, hL, hR, hI, hN, sI, hSp, hC, hW, li, lr, ↓cnd_a, ↓cnd_o, ↓cnd_n, ↓cnd_d, ↓z0, ↓z1, ↓z2, y0n, y1i, y2r, y0e, y1e, y2e, wl_0, wl_1, wl_2, wl_3, wl_4, wl_5, wl_6, wl_7, wl_8, wl_9, wl_10, wl_11, wl_12, wl_13, wl_14, wl_15, wl_16, wl_17, wl_18, wl_19, wl_20, wl_21, wl_22, wl_23, wl_24, wl_25, wl_26, wl_27, wl_28, wl_29, wl_30, wl_31, wl_32, wl_33, wl_34, wl_35, wl_36, wl_37, wl_38, wl_39, wl_40, wl_41, wl_42, wl_43, wl_44, wl_45, wl_46, wl_47, wl_48, wl_49, wl_50, wl_51, wl_52, wl_53, wl_54, wl_55, wl_56, wl_57, wl_58, wl_59, wl_60, wl_61, wl_62, wl_63, wl_64, wl_65, wl_66, wl_67, wl_68, wl_69, wl_70, wl_71, wl_72, wl_73, wl_74, wl_75, wl_76, wl_77, wl_78, wl_79, wl_80, wl_81, wl_82, wl_83, wl_84, wl_85, wl_86, wl_87, wl_88, wl_89, wl_90, wl_91, wl_92, wl_93, wl_94, wl_95, wl_96, wl_97, wl_98, wl_99, wl_100, wl_101, wl_102, wl_103, wl_104, wl_105, wl_106, wl_107, wl_108, wl_109, wl_110, wl_111, wl_112, wl_113, wl_114, wl_115, wl_116, wl_117, wl_118, wl_119, wl_120, wl_121, wl_122, wl_123, wl_124, wl_125, wl_126, wl_127, wl_128, wl_129, wl_130, wl_159, wl_160, wl_200, wl_232, wl_255, wl_256, wl_300, wl_359, wl_360, wl_400, wl_592, wl_992, wl_999, wl_1000, wl_1024, wl_3456, wl_6512, wl_7104, wl_10000, wl_11264, wl_12345, wl_32767, wl_1000000000, wl_1103515245, wl_2000000000, w_add, w_sub, w_mul, w_neg, w_lt, w_le, w_eq, w_cl, w_in, w_nat, w_max2, w_min2, w_abs2, iltT, iltF, ileT, ileF, ieqT, ieqF, bv_01, bft, bv_0, bv_1, bv_t, bv_f, cond_true, cond_false, Bool.not_true, Bool.not_false, if_true, if_false, true_or, or_true, true_and, and_true, ↓reduceIte, decide_true, decide_false, reduceCtorEq, u2_s, u2_o, u2_k, u2_u2, Bool.true_or, Bool.or_true, Bool.false_or, Bool.or_false, Bool.and_true, Bool.true_and, Bool.and_false, Bool.false_and, eq_self, not_true_eq_false, not_false_eq_true, and_self, and_true, true_and, false_and, and_false, w_dv, dvm, XSH_e hX, x1, x2, g3, x4, g5, eq_22_40]
  | true =>
  simp only [c5, cond_true] at g5
  simp only [if_true]
  have u5 := has_nx D4.1 D4.2.1 i4 c5 (by decide)
  rw [fig_at u5.2]
  have i5 : 0 ≤ i + 1 + 1 + 1 + 1 + 1 ∧ i + 1 + 1 + 1 + 1 + 1 ≤ n := by omega
  have g6 := sp_24b (d := d) (i := i + 1 + 1 + 1 + 1 + 1) (lo := 0) (hi := 999) (b := b) (j := 3) (vn := vn) (vc := vc) (vw := vw) (J := J) hX hS D4 i5 (by omega) ⟨hb4, hb.2, by omega⟩
  cases c6 : pFig T e 0 999 (tb (i + 1 + 1 + 1 + 1 + 1)) with
  | error f =>
    refine ⟨I4, i + 1 + 1 + 1 + 1 + 1, ?_, FDr_tr F1 (FDr_tr F2' F4), i5, fig_er D4.1 D4.2.1 i5 c6⟩
    rw [eq_22]
    simp (disch := first | assumption | omega | (simp (disch := omega) only [vM_u, vS_u]; first | assumption | omega)) only [hK, hL, hR, hI, hN, sI, hSp, hC, hW, li, lr, ↓cnd_a, ↓cnd_o, ↓cnd_n, ↓cnd_d, ↓z0, ↓z1, ↓z2, y0n, y1i, y2r, y0e, y1e, y2e, wl_0, wl_1, wl_2, wl_3, wl_4, wl_5, wl_6, wl_7, wl_8, wl_9, wl_10, wl_11, wl_12, wl_13, wl_14, wl_15, wl_16, wl_17, wl_18, wl_19, wl_20, wl_21, wl_22, wl_23, wl_24, wl_25, wl_26, wl_27, wl_28, wl_29, wl_30, wl_31, wl_32, wl_33, wl_34, wl_35, wl_36, wl_37, wl_38, wl_39, wl_40, wl_41, wl_42, wl_43, wl_44, wl_45, wl_46, wl_47, wl_48, wl_49, wl_50, wl_51, wl_52, wl_53, wl_54, wl_55, wl_56, wl_57, wl_58, wl_59, wl_60, wl_61, wl_62, wl_63, wl_64, wl_65, wl_66, wl_67, wl_68, wl_69, wl_70, wl_71, wl_72, wl_73, wl_74, wl_75, wl_76, wl_77, wl_78, wl_79, wl_80, wl_81, wl_82, wl_83, wl_84, wl_85, wl_86, wl_87, wl_88, wl_89, wl_90, wl_91, wl_92, wl_93, wl_94, wl_95, wl_96, wl_97, wl_98, wl_99, wl_100, wl_101, wl_102, wl_103, wl_104, wl_105, wl_106, wl_107, wl_108, wl_109, wl_110, wl_111, wl_112, wl_113, wl_114, wl_115, wl_116, wl_117, wl_118, wl_119, wl_120, wl_121, wl_122, wl_123, wl_124, wl_125, wl_126, wl_127, wl_128, wl_129, wl_130, wl_159, wl_160, wl_200, wl_232, wl_255, wl_256, wl_300, wl_359, wl_360, wl_400, wl_592, wl_992, wl_999, wl_1000, wl_1024, wl_3456, wl_6512, wl_7104, wl_10000, wl_11264, wl_12345, wl_32767, wl_1000000000, wl_1103515245, wl_2000000000, w_add, w_sub, w_mul, w_neg, w_lt, w_le, w_eq, w_cl, w_in, w_nat, w_max2, w_min2, w_abs2, iltT, iltF, ileT, ileF, ieqT, ieqF, bv_01, bft, bv_0, bv_1, bv_t, bv_f, cond_true, cond_false, Bool.not_true, Bool.not_false, if_true, if_false, true_or, or_true, true_and, and_true, ↓reduceIte, decide_true, decide_false, reduceCtorEq, u2_s, u2_o, u2_k, u2_u2, Bool.true_or, Bool.or_true, Bool.false_or, Bool.or_false, Bool.and_true, Bool.true_and, Bool.and_false, Bool.false_and, eq_self, not_true_eq_false, not_false_eq_true, and_self, and_true, true_and, false_and, and_false, w_dv, dvm, XSH_e hX, x1, x2, g3, x4, g5, g6.2 f c6, eq_22_40]
  | ok a6 =>
  obtain ⟨u6, I6, x6, D6, F6, m6⟩ := g6.1 a6 c6
  have p6 := fig_nx D4.2.1 i5.1 u6
  have hb6 : vS I6 115 3 = b + 1 := by rw [m6, setm_o _ (by omega)]; exact hb4
  have i6 : 0 ≤ i + 1 + 1 + 1 + 1 + 1 + 1 ∧ i + 1 + 1 + 1 + 1 + 1 + 1 ≤ n := by omega
  have g7 := sp_v4 (d := d + 2) (i := i + 1 + 1 + 1 + 1 + 1 + 1) (vn := vn) (vc := vc) (vw := vw) (J := J) hX D6.1 D6.2.1 D6.2.2.1 i6
  have FF : FDr I I6 := FDr_tr F1 (FDr_tr F2' (FDr_tr F4 F6))
  have mm : vS I6 115 = setm (setm (setm (setm (vS I 115) (20 + 5 * b + 0) a.2) (20 + 5 * b + 1) a2.2) (20 + 5 * b + 2) a4.2) (20 + 5 * b + 3) a6.2 := by rw [m6, m4, m2, m1]
  dsimp only
  rw [p6]
  cases c7 : hasB T e (tb (i + 1 + 1 + 1 + 1 + 1 + 1)) W_velvet with
  | false =>
    simp only [c7, cond_false] at g7
    refine ⟨I6, i + 1 + 1 + 1 + 1 + 1 + 1, ?_, FF, by omega, ?_, ?_⟩
    · rw [eq_22]
      simp (disch := first | assumption | omega | (simp (disch := omega) only [vM_u, vS_u]; first | assumption | omega)) only [hK, hL, hR, hI, hN, sI, hSp, hC, hW, li, lr, ↓cnd_a, ↓cnd_o, ↓cnd_n, ↓cnd_d, ↓z0, ↓z1, ↓z2, y0n, y1i, y2r, y0e, y1e, y2e, wl_0, wl_1, wl_2, wl_3, wl_4, wl_5, wl_6, wl_7, wl_8, wl_9, wl_10, wl_11, wl_12, wl_13, wl_14, wl_15, wl_16, wl_17, wl_18, wl_19, wl_20, wl_21, wl_22, wl_23, wl_24, wl_25, wl_26, wl_27, wl_28, wl_29, wl_30, wl_31, wl_32, wl_33, wl_34, wl_35, wl_36, wl_37, wl_38, wl_39, wl_40, wl_41, wl_42, wl_43, wl_44, wl_45, wl_46, wl_47, wl_48, wl_49, wl_50, wl_51, wl_52, wl_53, wl_54, wl_55, wl_56, wl_57, wl_58, wl_59, wl_60, wl_61, wl_62, wl_63, wl_64, wl_65, wl_66, wl_67, wl_68, wl_69, wl_70, wl_71, wl_72, wl_73, wl_74, wl_75, wl_76, wl_77, wl_78, wl_79, wl_80, wl_81, wl_82, wl_83, wl_84, wl_85, wl_86, wl_87, wl_88, wl_89, wl_90, wl_91, wl_92, wl_93, wl_94, wl_95, wl_96, wl_97, wl_98, wl_99, wl_100, wl_101, wl_102, wl_103, wl_104, wl_105, wl_106, wl_107, wl_108, wl_109, wl_110, wl_111, wl_112, wl_113, wl_114, wl_115, wl_116, wl_117, wl_118, wl_119, wl_120, wl_121, wl_122, wl_123, wl_124, wl_125, wl_126, wl_127, wl_128, wl_129, wl_130, wl_159, wl_160, wl_200, wl_232, wl_255, wl_256, wl_300, wl_359, wl_360, wl_400, wl_592, wl_992, wl_999, wl_1000, wl_1024, wl_3456, wl_6512, wl_7104, wl_10000, wl_11264, wl_12345, wl_32767, wl_1000000000, wl_1103515245, wl_2000000000, w_add, w_sub, w_mul, w_neg, w_lt, w_le, w_eq, w_cl, w_in, w_nat, w_max2, w_min2, w_abs2, iltT, iltF, ileT, ileF, ieqT, ieqF, bv_01, bft, bv_0, bv_1, bv_t, bv_f, cond_true, cond_false, Bool.not_true, Bool.not_false, if_true, if_false, true_or, or_true, true_and, and_true, ↓reduceIte, decide_true, decide_false, reduceCtorEq, u2_s, u2_o, u2_k, u2_u2, Bool.true_or, Bool.or_true, Bool.false_or, Bool.or_false, Bool.and_true, Bool.true_and, Bool.and_false, Bool.false_and, eq_self, not_true_eq_false, not_false_eq_true, and_self, and_true, true_and, false_and, and_false, w_dv, dvm, XSH_e hX, x1, x2, g3, x4, g5, x6, g7]
    · show sk T e (if false = true then lw T e (tb (i + 1 + 1 + 1 + 1 + 1 + 1)) else tb (i + 1 + 1 + 1 + 1 + 1 + 1)) = _
      rw [if_neg (by decide)]
      exact (TkI_tb D6.2.1 i6 D6.1.2.1.1).2.2.1
    · show _ = fillB _ _ (_, a.2, a2.2, a4.2, a6.2, false)
      unfold fillB
      dsimp only
      rw [mm]
      refine (setm_id ?_).symm
      rw [setm_o _ (by omega), setm_o _ (by omega), setm_o _ (by omega), setm_o _ (by omega)]
      exact hz
  | true =>
    simp only [c7, cond_true] at g7
    have u7 := has_nx D6.1 D6.2.1 i6 c7 (by decide)
    have s1 := sp_98b (d := d + 1) (q := 115) (b := b) (j := 4) (v := w 1) (I := nx I6 (i + 1 + 1 + 1 + 1 + 1 + 1 + 1)) (vn := vn) (vc := vc) (vw := vw) (J := J) hS (Wd_nx D6.2.2.2) (by rw [vS_nx]; omega)
    rw [nx_u (by omega)] at s1
    obtain ⟨kb, _⟩ := (SHq_e hS).2.2.2.2.2.2.2.1
    refine ⟨u2 I6 117 (ix (b * 5 + 4)) (w 1), i + 1 + 1 + 1 + 1 + 1 + 1 + 1, ?_, ?_, by omega, ?_, ?_⟩
    · rw [eq_22]
      simp (disch := first | assumption | omega | (simp (disch := omega) only [vM_u, vS_u]; first | assumption | omega)) only [hK, hL, hR, hI, hN, sI, hSp, hC, hW, li, lr, ↓cnd_a, ↓cnd_o, ↓cnd_n, ↓cnd_d, ↓z0, ↓z1, ↓z2, y0n, y1i, y2r, y0e, y1e, y2e, wl_0, wl_1, wl_2, wl_3, wl_4, wl_5, wl_6, wl_7, wl_8, wl_9, wl_10, wl_11, wl_12, wl_13, wl_14, wl_15, wl_16, wl_17, wl_18, wl_19, wl_20, wl_21, wl_22, wl_23, wl_24, wl_25, wl_26, wl_27, wl_28, wl_29, wl_30, wl_31, wl_32, wl_33, wl_34, wl_35, wl_36, wl_37, wl_38, wl_39, wl_40, wl_41, wl_42, wl_43, wl_44, wl_45, wl_46, wl_47, wl_48, wl_49, wl_50, wl_51, wl_52, wl_53, wl_54, wl_55, wl_56, wl_57, wl_58, wl_59, wl_60, wl_61, wl_62, wl_63, wl_64, wl_65, wl_66, wl_67, wl_68, wl_69, wl_70, wl_71, wl_72, wl_73, wl_74, wl_75, wl_76, wl_77, wl_78, wl_79, wl_80, wl_81, wl_82, wl_83, wl_84, wl_85, wl_86, wl_87, wl_88, wl_89, wl_90, wl_91, wl_92, wl_93, wl_94, wl_95, wl_96, wl_97, wl_98, wl_99, wl_100, wl_101, wl_102, wl_103, wl_104, wl_105, wl_106, wl_107, wl_108, wl_109, wl_110, wl_111, wl_112, wl_113, wl_114, wl_115, wl_116, wl_117, wl_118, wl_119, wl_120, wl_121, wl_122, wl_123, wl_124, wl_125, wl_126, wl_127, wl_128, wl_129, wl_130, wl_159, wl_160, wl_200, wl_232, wl_255, wl_256, wl_300, wl_359, wl_360, wl_400, wl_592, wl_992, wl_999, wl_1000, wl_1024, wl_3456, wl_6512, wl_7104, wl_10000, wl_11264, wl_12345, wl_32767, wl_1000000000, wl_1103515245, wl_2000000000, w_add, w_sub, w_mul, w_neg, w_lt, w_le, w_eq, w_cl, w_in, w_nat, w_max2, w_min2, w_abs2, iltT, iltF, ileT, ileF, ieqT, ieqF, bv_01, bft, bv_0, bv_1, bv_t, bv_f, cond_true, cond_false, Bool.not_true, Bool.not_false, if_true, if_false, true_or, or_true, true_and, and_true, ↓reduceIte, decide_true, decide_false, reduceCtorEq, u2_s, u2_o, u2_k, u2_u2, Bool.true_or, Bool.or_true, Bool.false_or, Bool.or_false, Bool.and_true, Bool.true_and, Bool.and_false, Bool.false_and, eq_self, not_true_eq_false, not_false_eq_true, and_self, and_true, true_and, false_and, and_false, w_dv, dvm, XSH_e hX, x1, x2, g3, x4, g5, x6, g7, kb, s1]
    · exact FDr_tr FF (fun a k x1 x2 x3 x4 => u2_o _ _ _ _ (by omega))
    · show sk T e (if true = true then lw T e (tb (i + 1 + 1 + 1 + 1 + 1 + 1)) else tb (i + 1 + 1 + 1 + 1 + 1 + 1)) = _
      rw [if_pos rfl]
      exact u7.2
    · show _ = fillB _ _ (_, a.2, a2.2, a4.2, a6.2, true)
      unfold fillB
      dsimp only
      rw [← mm]
      exact put_b (q := 115) (by omega)
theorem pBlk_sk (T : Int → Int) (e p : Int) : pBlk T e (sk T e p) = pBlk T e p := by
  unfold pBlk
  rw [pFig_sk]
theorem pHop_sk (T : Int → Int) (e p : Int) : pHop T e (sk T e p) = pHop T e p := by
  unfold pHop
  rw [pFig_sk]
theorem sp_23 {d : Nat} {i b : Int} (hX : XSH K L R) (hS : SHq K L R 115) (hD : DrA K L I T e n tb) (hi : 0 ≤ i ∧ i ≤ n) (hb : vS I 115 4 = b + 1 ∧ 0 ≤ b ∧ b < 8) (hz : vS I 115 (70 + 3 * b + 2) = 0) :
    GoD I (fun I' => (((vn, vc, vw, K, L, R), I', J) : HS)) T e n tb i (ev PR (d + 4) 23 [.ref 87, .ref 118] (((vn, vc, vw, K, L, R), nx I i, J) : HS)) (mpE (fun r => (r.1, fillH (vS I 115) b r)) (pHop T e (tb i))) := by
  have g1 := sp_24h (d := d) (i := i) (lo := 2) (hi := 15) (b := b) (j := 0) (vn := vn) (vc := vc) (vw := vw) (J := J) hX hS hD hi (by omega) ⟨hb.1, hb.2, by omega⟩
  obtain ⟨kb, _⟩ := (SHq_e hS).2.2.2.2.2.2.2.2.1
  unfold pHop
  cases c1 : pFig T e 2 15 (tb i) with
  | error f =>
    refine ⟨I, i, ?_, FDr_rf, hi, fig_er hD.1 hD.2.1 hi c1⟩
    rw [eq_23]
    simp (disch := first | assumption | omega | (simp (disch := omega) only [vM_u, vS_u]; first | assumption | omega)) only [hK, hL, hR, hI, hN, sI, hSp, hC, hW, li, lr, ↓cnd_a, ↓cnd_o, ↓cnd_n, ↓cnd_d, ↓z0, ↓z1, ↓z2, y0n, y1i, y2r, y0e, y1e, y2e, wl_0, wl_1, wl_2, wl_3, wl_4, wl_5, wl_6, wl_7, wl_8, wl_9, wl_10, wl_11, wl_12, wl_13, wl_14, wl_15, wl_16, wl_17, wl_18, wl_19, wl_20, wl_21, wl_22, wl_23, wl_24, wl_25, wl_26, wl_27, wl_28, wl_29, wl_30, wl_31, wl_32, wl_33, wl_34, wl_35, wl_36, wl_37, wl_38, wl_39, wl_40, wl_41, wl_42, wl_43, wl_44, wl_45, wl_46, wl_47, wl_48, wl_49, wl_50, wl_51, wl_52, wl_53, wl_54, wl_55, wl_56, wl_57, wl_58, wl_59, wl_60, wl_61, wl_62, wl_63, wl_64, wl_65, wl_66, wl_67, wl_68, wl_69, wl_70, wl_71, wl_72, wl_73, wl_74, wl_75, wl_76, wl_77, wl_78, wl_79, wl_80, wl_81, wl_82, wl_83, wl_84, wl_85, wl_86, wl_87, wl_88, wl_89, wl_90, wl_91, wl_92, wl_93, wl_94, wl_95, wl_96, wl_97, wl_98, wl_99, wl_100, wl_101, wl_102, wl_103, wl_104, wl_105, wl_106, wl_107, wl_108, wl_109, wl_110, wl_111, wl_112, wl_113, wl_114, wl_115, wl_116, wl_117, wl_118, wl_119, wl_120, wl_121, wl_122, wl_123, wl_124, wl_125, wl_126, wl_127, wl_128, wl_129, wl_130, wl_159, wl_160, wl_200, wl_232, wl_255, wl_256, wl_300, wl_359, wl_360, wl_400, wl_592, wl_992, wl_999, wl_1000, wl_1024, wl_3456, wl_6512, wl_7104, wl_10000, wl_11264, wl_12345, wl_32767, wl_1000000000, wl_1103515245, wl_2000000000, w_add, w_sub, w_mul, w_neg, w_lt, w_le, w_eq, w_cl, w_in, w_nat, w_max2, w_min2, w_abs2, iltT, iltF, ileT, ileF, ieqT, ieqF, bv_01, bft, bv_0, bv_1, bv_t, bv_f, cond_true, cond_false, Bool.not_true, Bool.not_false, if_true, if_false, true_or, or_true, true_and, and_true, ↓reduceIte, decide_true, decide_false, reduceCtorEq, u2_s, u2_o, u2_k, u2_u2, Bool.true_or, Bool.or_true, Bool.false_or, Bool.or_false, Bool.and_true, Bool.true_and, Bool.and_false, Bool.false_and, eq_self, not_true_eq_false, not_false_eq_true, and_self, and_true, true_and, false_and, and_false, w_dv, dvm, XSH_e hX, g1.2 f c1]
  | ok a =>
  have ha := dg_lt c1
  obtain ⟨u1, I1, x1, D1, F1, m1⟩ := g1.1 a c1
  have p1 := fig_nx hD.2.1 hi.1 u1
  dsimp only
  rw [must_at p1]
  have hb1 : vS I1 115 4 = b + 1 := by rw [m1, setm_o _ (by omega)]; exact hb.1
  have i1 : 0 ≤ i + 1 ∧ i + 1 ≤ n := by omega
  have g2 := sp_v6 (d := d + 2) (i := i + 1) (vn := vn) (vc := vc) (vw := vw) (J := J) hX D1.1 D1.2.1 D1.2.2.1 i1
  cases c2 : hasB T e (tb (i + 1)) W_oval with
  | false =>
    simp only [c2, cond_false] at g2
    refine ⟨I1, i + 1, ?_, F1, i1, rfl⟩
    rw [eq_23]
    simp (disch := first | assumption | omega | (simp (disch := omega) only [vM_u, vS_u]; first | assumption | omega)) only [hK, hL, hR, hI, hN, sI, hSp, hC, hW, li, lr, ↓cnd_a, ↓cnd_o, ↓cnd_n, ↓cnd_d, ↓z0, ↓z1, ↓z2, y0n, y1i, y2r, y0e, y1e, y2e, wl_0, wl_1, wl_2, wl_3, wl_4, wl_5, wl_6, wl_7, wl_8, wl_9, wl_10, wl_11, wl_12, wl_13, wl_14, wl_15, wl_16, wl_17, wl_18, wl_19, wl_20, wl_21, wl_22, wl_23, wl_24, wl_25, wl_26, wl_27, wl_28, wl_29, wl_30, wl_31, wl_32, wl_33, wl_34, wl_35, wl_36, wl_37, wl_38, wl_39, wl_40, wl_41, wl_42, wl_43, wl_44, wl_45, wl_46, wl_47, wl_48, wl_49, wl_50, wl_51, wl_52, wl_53, wl_54, wl_55, wl_56, wl_57, wl_58, wl_59, wl_60, wl_61, wl_62, wl_63, wl_64, wl_65, wl_66, wl_67, wl_68, wl_69, wl_70, wl_71, wl_72, wl_73, wl_74, wl_75, wl_76, wl_77, wl_78, wl_79, wl_80, wl_81, wl_82, wl_83, wl_84, wl_85, wl_86, wl_87, wl_88, wl_89, wl_90, wl_91, wl_92, wl_93, wl_94, wl_95, wl_96, wl_97, wl_98, wl_99, wl_100, wl_101, wl_102, wl_103, wl_104, wl_105, wl_106, wl_107, wl_108, wl_109, wl_110, wl_111, wl_112, wl_113, wl_114, wl_115, wl_116, wl_117, wl_118, wl_119, wl_120, wl_121, wl_122, wl_123, wl_124, wl_125, wl_126, wl_127, wl_128, wl_129, wl_130, wl_159, wl_160, wl_200, wl_232, wl_255, wl_256, wl_300, wl_359, wl_360, wl_400, wl_592, wl_992, wl_999, wl_1000, wl_1024, wl_3456, wl_6512, wl_7104, wl_10000, wl_11264, wl_12345, wl_32767, wl_1000000000, wl_1103515245, wl_2000000000, w_add, w_sub, w_mul, w_neg, w_lt, w_le, w_eq, w_cl, w_in, w_nat, w_max2, w_min2, w_abs2, iltT, iltF, ileT, ileF, ieqT, ieqF, bv_01, bft, bv_0, bv_1, bv_t, bv_f, cond_true, cond_false, Bool.not_true, Bool.not_false, if_true, if_false, true_or, or_true, true_and, and_true, ↓reduceIte, decide_true, decide_false, reduceCtorEq, u2_s, u2_o, u2_k, u2_u2, Bool.true_or, Bool.or_true, Bool.false_or, Bool.or_false, Bool.and_true, Bool.true_and, Bool.and_false, Bool.false_and, eq_self, not_true_eq_false, not_false_eq_true, and_self, and_true, true_and, false_and, and_false, w_dv, dvm, XSH_e hX, x1, g2]
  | true =>
  simp only [c2, cond_true] at g2
  simp only [if_true]
  have u2' := has_nx D1.1 D1.2.1 i1 c2 (by decide)
  rw [fig_at u2'.2]
  have i2 : 0 ≤ i + 1 + 1 ∧ i + 1 + 1 ≤ n := by omega
  have t1 := sp_92h (d := d + 2) (q := 115) (I := nx I1 (i + 1 + 1)) (vn := vn) (vc := vc) (vw := vw) (J := J) hS
  rw [vS_nx, hb1] at t1
  have t2 := sp_96h (d := d + 2) (q := 115) (b := b) (j := 0) (I := nx I1 (i + 1 + 1)) (vn := vn) (vc := vc) (vw := vw) (J := J) hS (Wd_nx D1.2.2.2) (by rw [vS_nx]; omega)
  have t3 : ho (vS (nx I1 (i + 1 + 1)) 115) b 0 = a.2 := by
    rw [vS_nx, m1]
    unfold ho
    exact setm_s _ _ _
  rw [t3] at t2
  have e1 : b + 1 - 1 = b := by omega
  have e2 : min (a.2 - 1) 9 = min 9 (a.2 - 1) := by omega
  have g3 := sp_24h (d := d) (i := i + 1 + 1) (lo := 0) (hi := min 9 (a.2 - 1)) (b := b) (j := 1) (vn := vn) (vc := vc) (vw := vw) (J := J) hX hS D1 i2 (by omega) ⟨hb1, hb.2, by omega⟩
  cases c3 : pFig T e 0 (min 9 (a.2 - 1)) (tb (i + 1 + 1)) with
  | error f =>
    refine ⟨I1, i + 1 + 1, ?_, F1, i2, fig_er D1.1 D1.2.1 i2 c3⟩
    rw [eq_23]
    simp (disch := first | assumption | omega | (simp (disch := omega) only [vM_u, vS_u]; first | assumption | omega)) only [hK, hL, hR, hI, hN, sI, hSp, hC, hW, li, lr, ↓cnd_a, ↓cnd_o, ↓cnd_n, ↓cnd_d, ↓z0, ↓z1, ↓z2, y0n, y1i, y2r, y0e, y1e, y2e, wl_0, wl_1, wl_2, wl_3, wl_4, wl_5, wl_6, wl_7, wl_8, wl_9, wl_10, wl_11, wl_12, wl_13, wl_14, wl_15, wl_16, wl_17, wl_18, wl_19, wl_20, wl_21, wl_22, wl_23, wl_24, wl_25, wl_26, wl_27, wl_28, wl_29, wl_30, wl_31, wl_32, wl_33, wl_34, wl_35, wl_36, wl_37, wl_38, wl_39, wl_40, wl_41, wl_42, wl_43, wl_44, wl_45, wl_46, wl_47, wl_48, wl_49, wl_50, wl_51, wl_52, wl_53, wl_54, wl_55, wl_56, wl_57, wl_58, wl_59, wl_60, wl_61, wl_62, wl_63, wl_64, wl_65, wl_66, wl_67, wl_68, wl_69, wl_70, wl_71, wl_72, wl_73, wl_74, wl_75, wl_76, wl_77, wl_78, wl_79, wl_80, wl_81, wl_82, wl_83, wl_84, wl_85, wl_86, wl_87, wl_88, wl_89, wl_90, wl_91, wl_92, wl_93, wl_94, wl_95, wl_96, wl_97, wl_98, wl_99, wl_100, wl_101, wl_102, wl_103, wl_104, wl_105, wl_106, wl_107, wl_108, wl_109, wl_110, wl_111, wl_112, wl_113, wl_114, wl_115, wl_116, wl_117, wl_118, wl_119, wl_120, wl_121, wl_122, wl_123, wl_124, wl_125, wl_126, wl_127, wl_128, wl_129, wl_130, wl_159, wl_160, wl_200, wl_232, wl_255, wl_256, wl_300, wl_359, wl_360, wl_400, wl_592, wl_992, wl_999, wl_1000, wl_1024, wl_3456, wl_6512, wl_7104, wl_10000, wl_11264, wl_12345, wl_32767, wl_1000000000, wl_1103515245, wl_2000000000, w_add, w_sub, w_mul, w_neg, w_lt, w_le, w_eq, w_cl, w_in, w_nat, w_max2, w_min2, w_abs2, iltT, iltF, ileT, ileF, ieqT, ieqF, bv_01, bft, bv_0, bv_1, bv_t, bv_f, cond_true, cond_false, Bool.not_true, Bool.not_false, if_true, if_false, true_or, or_true, true_and, and_true, ↓reduceIte, decide_true, decide_false, reduceCtorEq, u2_s, u2_o, u2_k, u2_u2, Bool.true_or, Bool.or_true, Bool.false_or, Bool.or_false, Bool.and_true, Bool.true_and, Bool.and_false, Bool.false_and, eq_self, not_true_eq_false, not_false_eq_true, and_self, and_true, true_and, false_and, and_false, w_dv, dvm, XSH_e hX, x1, g2, kb, t1, e1, t2, e2, g3.2 f c3]
  | ok a3 =>
  obtain ⟨u3, I3, x3, D3, F3, m3⟩ := g3.1 a3 c3
  have p3 := fig_nx D1.2.1 i2.1 u3
  have hb3 : vS I3 115 4 = b + 1 := by rw [m3, setm_o _ (by omega)]; exact hb1
  have i3 : 0 ≤ i + 1 + 1 + 1 ∧ i + 1 + 1 + 1 ≤ n := by omega
  have g7 := sp_v7 (d := d + 2) (i := i + 1 + 1 + 1) (vn := vn) (vc := vc) (vw := vw) (J := J) hX D3.1 D3.2.1 D3.2.2.1 i3
  have FF : FDr I I3 := FDr_tr F1 F3
  have mm : vS I3 115 = setm (setm (vS I 115) (70 + 3 * b + 0) a.2) (70 + 3 * b + 1) a3.2 := by rw [m3, m1]
  dsimp only
  rw [p3]
  cases c7 : hasB T e (tb (i + 1 + 1 + 1)) W_wet with
  | false =>
    simp only [c7, cond_false] at g7
    refine ⟨I3, i + 1 + 1 + 1, ?_, FF, by omega, ?_, ?_⟩
    · rw [eq_23]
      simp (disch := first | assumption | omega | (simp (disch := omega) only [vM_u, vS_u]; first | assumption | omega)) only [hK, hL, hR, hI, hN, sI, hSp, hC, hW, li, lr, ↓cnd_a, ↓cnd_o, ↓cnd_n, ↓cnd_d, ↓z0, ↓z1, ↓z2, y0n, y1i, y2r, y0e, y1e, y2e, wl_0, wl_1, wl_2, wl_3, wl_4, wl_5, wl_6, wl_7, wl_8, wl_9, wl_10, wl_11, wl_12, wl_13, wl_14, wl_15, wl_16, wl_17, wl_18, wl_19, wl_20, wl_21, wl_22, wl_23, wl_24, wl_25, wl_26, wl_27, wl_28, wl_29, wl_30, wl_31, wl_32, wl_33, wl_34, wl_35, wl_36, wl_37, wl_38, wl_39, wl_40, wl_41, wl_42, wl_43, wl_44, wl_45, wl_46, wl_47, wl_48, wl_49, wl_50, wl_51, wl_52, wl_53, wl_54, wl_55, wl_56, wl_57, wl_58, wl_59, wl_60, wl_61, wl_62, wl_63, wl_64, wl_65, wl_66, wl_67, wl_68, wl_69, wl_70, wl_71, wl_72, wl_73, wl_74, wl_75, wl_76, wl_77, wl_78, wl_79, wl_80, wl_81, wl_82, wl_83, wl_84, wl_85, wl_86, wl_87, wl_88, wl_89, wl_90, wl_91, wl_92, wl_93, wl_94, wl_95, wl_96, wl_97, wl_98, wl_99, wl_100, wl_101, wl_102, wl_103, wl_104, wl_105, wl_106, wl_107, wl_108, wl_109, wl_110, wl_111, wl_112, wl_113, wl_114, wl_115, wl_116, wl_117, wl_118, wl_119, wl_120, wl_121, wl_122, wl_123, wl_124, wl_125, wl_126, wl_127, wl_128, wl_129, wl_130, wl_159, wl_160, wl_200, wl_232, wl_255, wl_256, wl_300, wl_359, wl_360, wl_400, wl_592, wl_992, wl_999, wl_1000, wl_1024, wl_3456, wl_6512, wl_7104, wl_10000, wl_11264, wl_12345, wl_32767, wl_1000000000, wl_1103515245, wl_2000000000, w_add, w_sub, w_mul, w_neg, w_lt, w_le, w_eq, w_cl, w_in, w_nat, w_max2, w_min2, w_abs2, iltT, iltF, ileT, ileF, ieqT, ieqF, bv_01, bft, bv_0, bv_1, bv_t, bv_f, cond_true, cond_false, Bool.not_true, Bool.not_false, if_true, if_false, true_or, or_true, true_and, and_true, ↓reduceIte, decide_true, decide_false, reduceCtorEq, u2_s, u2_o, u2_k, u2_u2, Bool.true_or, Bool.or_true, Bool.false_or, Bool.or_false, Bool.and_true, Bool.true_and, Bool.and_false, Bool.false_and, eq_self, not_true_eq_false, not_false_eq_true, and_self, and_true, true_and, false_and, and_false, w_dv, dvm, XSH_e hX, x1, g2, kb, t1, e1, t2, e2, x3, g7]
    · show sk T e (if false = true then lw T e (tb (i + 1 + 1 + 1)) else tb (i + 1 + 1 + 1)) = _
      rw [if_neg (by decide)]
      exact (TkI_tb D3.2.1 i3 D3.1.2.1.1).2.2.1
    · show _ = fillH _ _ (_, a.2, a3.2, false)
      unfold fillH
      dsimp only
      rw [mm]
      refine (setm_id ?_).symm
      rw [setm_o _ (by omega), setm_o _ (by omega)]
      exact hz
  | true =>
    simp only [c7, cond_true] at g7
    have u7 := has_nx D3.1 D3.2.1 i3 c7 (by decide)
    have s1 := sp_98h (d := d + 1) (q := 115) (b := b) (j := 2) (v := w 1) (I := nx I3 (i + 1 + 1 + 1 + 1)) (vn := vn) (vc := vc) (vw := vw) (J := J) hS (Wd_nx D3.2.2.2) (by rw [vS_nx]; omega)
    rw [nx_u (by omega)] at s1
    refine ⟨u2 I3 119 (ix (b * 3 + 2)) (w 1), i + 1 + 1 + 1 + 1, ?_, ?_, by omega, ?_, ?_⟩
    · rw [eq_23]
      simp (disch := first | assumption | omega | (simp (disch := omega) only [vM_u, vS_u]; first | assumption | omega)) only [hK, hL, hR, hI, hN, sI, hSp, hC, hW, li, lr, ↓cnd_a, ↓cnd_o, ↓cnd_n, ↓cnd_d, ↓z0, ↓z1, ↓z2, y0n, y1i, y2r, y0e, y1e, y2e, wl_0, wl_1, wl_2, wl_3, wl_4, wl_5, wl_6, wl_7, wl_8, wl_9, wl_10, wl_11, wl_12, wl_13, wl_14, wl_15, wl_16, wl_17, wl_18, wl_19, wl_20, wl_21, wl_22, wl_23, wl_24, wl_25, wl_26, wl_27, wl_28, wl_29, wl_30, wl_31, wl_32, wl_33, wl_34, wl_35, wl_36, wl_37, wl_38, wl_39, wl_40, wl_41, wl_42, wl_43, wl_44, wl_45, wl_46, wl_47, wl_48, wl_49, wl_50, wl_51, wl_52, wl_53, wl_54, wl_55, wl_56, wl_57, wl_58, wl_59, wl_60, wl_61, wl_62, wl_63, wl_64, wl_65, wl_66, wl_67, wl_68, wl_69, wl_70, wl_71, wl_72, wl_73, wl_74, wl_75, wl_76, wl_77, wl_78, wl_79, wl_80, wl_81, wl_82, wl_83, wl_84, wl_85, wl_86, wl_87, wl_88, wl_89, wl_90, wl_91, wl_92, wl_93, wl_94, wl_95, wl_96, wl_97, wl_98, wl_99, wl_100, wl_101, wl_102, wl_103, wl_104, wl_105, wl_106, wl_107, wl_108, wl_109, wl_110, wl_111, wl_112, wl_113, wl_114, wl_115, wl_116, wl_117, wl_118, wl_119, wl_120, wl_121, wl_122, wl_123, wl_124, wl_125, wl_126, wl_127, wl_128, wl_129, wl_130, wl_159, wl_160, wl_200, wl_232, wl_255, wl_256, wl_300, wl_359, wl_360, wl_400, wl_592, wl_992, wl_999, wl_1000, wl_1024, wl_3456, wl_6512, wl_7104, wl_10000, wl_11264, wl_12345, wl_32767, wl_1000000000, wl_1103515245, wl_2000000000, w_add, w_sub, w_mul, w_neg, w_lt, w_le, w_eq, w_cl, w_in, w_nat, w_max2, w_min2, w_abs2, iltT, iltF, ileT, ileF, ieqT, ieqF, bv_01, bft, bv_0, bv_1, bv_t, bv_f, cond_true, cond_false, Bool.not_true, Bool.not_false, if_true, if_false, true_or, or_true, true_and, and_true, ↓reduceIte, decide_true, decide_false, reduceCtorEq, u2_s, u2_o, u2_k, u2_u2, Bool.true_or, Bool.or_true, Bool.false_or, Bool.or_false, Bool.and_true, Bool.true_and, Bool.and_false, Bool.false_and, eq_self, not_true_eq_false, not_false_eq_true, and_self, and_true, true_and, false_and, and_false, w_dv, dvm, XSH_e hX, x1, g2, kb, t1, e1, t2, e2, x3, g7, s1]
    · exact FDr_tr FF (fun a k x1 x2 x3 x4 => u2_o _ _ _ _ (by omega))
    · show sk T e (if true = true then lw T e (tb (i + 1 + 1 + 1)) else tb (i + 1 + 1 + 1)) = _
      rw [if_pos rfl]
      exact u7.2
    · show _ = fillH _ _ (_, a.2, a3.2, true)
      unfold fillH
      dsimp only
      rw [← mm]
      exact put_h (q := 115) (by omega)
end FRBB
