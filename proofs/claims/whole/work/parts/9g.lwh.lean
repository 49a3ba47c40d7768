/-! the class's law reader: lines, the whole law -/
section LWH
variable {vn vc vw : Nat} {K L : Nat → Nat} {R : Nat → Nat → Nat} {I : Nat → Nat → Int32} {J : Nat → Nat → Int64}
theorem tend_N {T : Int → Int} {e q : Int} {lo hi : Int} {r : Int × Int} (hs : sk T e q = q) (h : pFig T e lo hi q = .ok r) : isD T e q = true := by
  cases c : isD T e q with
  | true => rfl
  | false => rw [fig_nd hs c] at h; exact nomatch h
theorem pLine_len {T : Int → Int} {e : Int} : LN (pLine T e) := by
  intro p r h
  unfold pLine at h
  dsimp only at h
  split at h
  · exact nomatch h
  · split at h
    · exact nomatch h
    · split at h
      · exact nomatch h
      · injection h with h; subst h
        dsimp only
        rw [List.length_append, List.length_singleton]
        omega
theorem sp_40 {d : Nat} {T : Int → Int} {e n i : Int} {tb : Int → Int} {S : List Int} (hX : XSH K L R) (hT : Tp I T e) (hG : TkI I T e n tb) (hA : SWA K L I) (hi : 0 ≤ i ∧ i ≤ n) (gS : StpR I S) (hl : (S.length : Int) ≤ i) : GoC I (fun I' => (((vn, vc, vw, K, L, R), I', J) : HS)) T e n tb S i (ev PR (d + 21) 40 [.ref 88] (((vn, vc, vw, K, L, R), nx I i, J) : HS)) (pLine T e (tb i)) := by
  have g2 := hG.2.1
  have hbb := TkI_tb hG hi hT.2.1.1
  have hss := hbb.2.2.1
  have hkw := sp_41 (d := d + 18) (vn := vn) (vc := vc) (vw := vw) (J := J) hX hT hG hA hi
  unfold pLine
  dsimp only
  rw [hss]
  by_cases ck : kwI T e (tb i) SW 0 = -1
  · rw [if_pos ck]
    rw [ck] at hkw
    refine ⟨I, i, ?_, FLw_rf, hi, rfl⟩
    rw [eq_40]
    simp (disch := first | assumption | omega | (simp (disch := omega) only [vM_u, vS_u]; first | assumption | omega)) only [hK, hL, hR, hI, hN, sI, hSp, hC, hW, li, lr, ↓cnd_a, ↓cnd_o, ↓cnd_n, ↓cnd_d, ↓z0, ↓z1, ↓z2, y0n, y1i, y2r, y0e, y1e, y2e, wl_0, wl_1, wl_2, wl_3, wl_4, wl_5, wl_6, wl_7, wl_8, wl_9, wl_10, wl_11, wl_12, wl_13, wl_14, wl_15, wl_16, wl_17, wl_18, wl_19, wl_20, wl_21, wl_22, wl_23, wl_24, wl_25, wl_26, wl_27, wl_28, wl_29, wl_30, wl_31, wl_32, wl_33, wl_34, wl_35, wl_36, wl_37, wl_38, wl_39, wl_40, wl_41, wl_42, wl_43, wl_44, wl_45, wl_46, wl_47, wl_48, wl_49, wl_50, wl_51, wl_52, wl_53, wl_54, wl_55, wl_56, wl_57, wl_58, wl_59, wl_60, wl_61, wl_62, wl_63, wl_64, wl_65, wl_66, wl_67, wl_68, wl_69, wl_70, wl_71, wl_72, wl_73, wl_74, wl_75, wl_76, wl_77, wl_78, wl_79, wl_80, wl_81, wl_82, wl_83, wl_84, wl_85, wl_86, wl_87, wl_88, wl_89, wl_90, wl_91, wl_92, wl_93, wl_94, wl_95, wl_96, wl_97, wl_98, wl_99, wl_100, wl_101, wl_102, wl_103, wl_104, wl_105, wl_106, wl_107, wl_108, wl_109, wl_110, wl_111, wl_112, wl_113, wl_114, wl_115, wl_116, wl_117, wl_118, wl_119, wl_120, wl_121, wl_122, wl_123, wl_124, wl_125, wl_126, wl_127, wl_128, wl_129, wl_130, wl_159, wl_160, wl_200, wl_232, wl_255, wl_256, wl_300, wl_359, wl_360, wl_400, wl_592, wl_992, wl_999, wl_1000, wl_1024, wl_3456, wl_6512, wl_7104, wl_10000, wl_11264, wl_12345, wl_32767, wl_1000000000, wl_1103515245, wl_2000000000, w_add, w_sub, w_mul, w_neg, w_lt, w_le, w_eq, w_cl, w_in, w_nat, w_max2, w_min2, w_abs2, iltT, iltF, ileT, ileF, ieqT, ieqF, bv_01, bft, bv_0, bv_1, bv_t, bv_f, cond_true, cond_false, Bool.not_true, Bool.not_false, if_true, if_false, true_or, or_true, true_and, and_true, ↓reduceIte, decide_true, decide_false, reduceCtorEq, u2_s, u2_o, u2_k, u2_u2, Bool.true_or, Bool.or_true, Bool.false_or, Bool.or_false, Bool.and_true, Bool.true_and, Bool.and_false, Bool.false_and, eq_self, not_true_eq_false, not_false_eq_true, and_self, and_true, true_and, false_and, and_false, w_dv, dvm, XSH_e hX, hkw, kwJ]
  · rw [if_neg ck]
    have hk := kwI_r SW 0 (by omega) SW_ne ck
    have hkl := kwI_has SW 0 (by omega) SW_ne ck
    have hin : i < n := hbb.2.2.2.mp hk.1
    have hlen : (SW.length : Int) = 6 := rfl
    have hkJ : kwJ (kwI T e (tb i) SW 0) i = i + 1 := by unfold kwJ; rw [if_neg ck]
    rw [hkJ] at hkw
    obtain ⟨k, hkd⟩ : ∃ k, k = kwI T e (tb i) SW 0 := ⟨_, rfl⟩
    rw [← hkd] at hkw hk ⊢
    have ht1 : tb (i + 1) = sk T e (lw T e (tb i)) := by rw [TkI_st hG ⟨hi.1, hin⟩, tend_L hkl.2]
    have hb1 := TkI_tb hG (i := i + 1) (by omega) hT.2.1.1
    obtain ⟨h, hh⟩ : ∃ h : Int, h = if k < 4 then 60 else 9 := ⟨_, rfl⟩
    have hh2 : 0 ≤ h ∧ h ≤ 60 := by rw [hh]; split <;> omega
    have go : ev PR (d + 21) 40 [.ref 88] (((vn, vc, vw, K, L, R), nx I i, J) : HS) = atv PR (d + 20) cd_40 16 [.ref 88, .int (w k), .retAddr 0] [.int (w h), .int (w 0), .ref 82] (((vn, vc, vw, K, L, R), nx I (i + 1), J) : HS) := by
      rw [eq_40]
      by_cases c4 : k < 4
      · rw [if_pos c4] at hh
        simp (disch := first | assumption | omega | (simp (disch := omega) only [vM_u, vS_u]; first | assumption | omega)) only [hK, hL, hR, hI, hN, sI, hSp, hC, hW, li, lr, ↓cnd_a, ↓cnd_o, ↓cnd_n, ↓cnd_d, ↓z0, ↓z1, ↓z2, y0n, y1i, y2r, y0e, y1e, y2e, wl_0, wl_1, wl_2, wl_3, wl_4, wl_5, wl_6, wl_7, wl_8, wl_9, wl_10, wl_11, wl_12, wl_13, wl_14, wl_15, wl_16, wl_17, wl_18, wl_19, wl_20, wl_21, wl_22, wl_23, wl_24, wl_25, wl_26, wl_27, wl_28, wl_29, wl_30, wl_31, wl_32, wl_33, wl_34, wl_35, wl_36, wl_37, wl_38, wl_39, wl_40, wl_41, wl_42, wl_43, wl_44, wl_45, wl_46, wl_47, wl_48, wl_49, wl_50, wl_51, wl_52, wl_53, wl_54, wl_55, wl_56, wl_57, wl_58, wl_59, wl_60, wl_61, wl_62, wl_63, wl_64, wl_65, wl_66, wl_67, wl_68, wl_69, wl_70, wl_71, wl_72, wl_73, wl_74, wl_75, wl_76, wl_77, wl_78, wl_79, wl_80, wl_81, wl_82, wl_83, wl_84, wl_85, wl_86, wl_87, wl_88, wl_89, wl_90, wl_91, wl_92, wl_93, wl_94, wl_95, wl_96, wl_97, wl_98, wl_99, wl_100, wl_101, wl_102, wl_103, wl_104, wl_105, wl_106, wl_107, wl_108, wl_109, wl_110, wl_111, wl_112, wl_113, wl_114, wl_115, wl_116, wl_117, wl_118, wl_119, wl_120, wl_121, wl_122, wl_123, wl_124, wl_125, wl_126, wl_127, wl_128, wl_129, wl_130, wl_159, wl_160, wl_200, wl_232, wl_255, wl_256, wl_300, wl_359, wl_360, wl_400, wl_592, wl_992, wl_999, wl_1000, wl_1024, wl_3456, wl_6512, wl_7104, wl_10000, wl_11264, wl_12345, wl_32767, wl_1000000000, wl_1103515245, wl_2000000000, w_add, w_sub, w_mul, w_neg, w_lt, w_le, w_eq, w_cl, w_in, w_nat, w_max2, w_min2, w_abs2, iltT, iltF, ileT, ileF, ieqT, ieqF, bv_01, bft, bv_0, bv_1, bv_t, bv_f, cond_true, cond_false, Bool.not_true, Bool.not_false, if_true, if_false, true_or, or_true, true_and, and_true, ↓reduceIte, decide_true, decide_false, reduceCtorEq, u2_s, u2_o, u2_k, u2_u2, Bool.true_or, Bool.or_true, Bool.false_or, Bool.or_false, Bool.and_true, Bool.true_and, Bool.and_false, Bool.false_and, eq_self, not_true_eq_false, not_false_eq_true, and_self, and_true, true_and, false_and, and_false, w_dv, dvm, XSH_e hX, hkw, hh]
      · rw [if_neg c4] at hh
        simp (disch := first | assumption | omega | (simp (disch := omega) only [vM_u, vS_u]; first | assumption | omega)) only [hK, hL, hR, hI, hN, sI, hSp, hC, hW, li, lr, ↓cnd_a, ↓cnd_o, ↓cnd_n, ↓cnd_d, ↓z0, ↓z1, ↓z2, y0n, y1i, y2r, y0e, y1e, y2e, wl_0, wl_1, wl_2, wl_3, wl_4, wl_5, wl_6, wl_7, wl_8, wl_9, wl_10, wl_11, wl_12, wl_13, wl_14, wl_15, wl_16, wl_17, wl_18, wl_19, wl_20, wl_21, wl_22, wl_23, wl_24, wl_25, wl_26, wl_27, wl_28, wl_29, wl_30, wl_31, wl_32, wl_33, wl_34, wl_35, wl_36, wl_37, wl_38, wl_39, wl_40, wl_41, wl_42, wl_43, wl_44, wl_45, wl_46, wl_47, wl_48, wl_49, wl_50, wl_51, wl_52, wl_53, wl_54, wl_55, wl_56, wl_57, wl_58, wl_59, wl_60, wl_61, wl_62, wl_63, wl_64, wl_65, wl_66, wl_67, wl_68, wl_69, wl_70, wl_71, wl_72, wl_73, wl_74, wl_75, wl_76, wl_77, wl_78, wl_79, wl_80, wl_81, wl_82, wl_83, wl_84, wl_85, wl_86, wl_87, wl_88, wl_89, wl_90, wl_91, wl_92, wl_93, wl_94, wl_95, wl_96, wl_97, wl_98, wl_99, wl_100, wl_101, wl_102, wl_103, wl_104, wl_105, wl_106, wl_107, wl_108, wl_109, wl_110, wl_111, wl_112, wl_113, wl_114, wl_115, wl_116, wl_117, wl_118, wl_119, wl_120, wl_121, wl_122, wl_123, wl_124, wl_125, wl_126, wl_127, wl_128, wl_129, wl_130, wl_159, wl_160, wl_200, wl_232, wl_255, wl_256, wl_300, wl_359, wl_360, wl_400, wl_592, wl_992, wl_999, wl_1000, wl_1024, wl_3456, wl_6512, wl_7104, wl_10000, wl_11264, wl_12345, wl_32767, wl_1000000000, wl_1103515245, wl_2000000000, w_add, w_sub, w_mul, w_neg, w_lt, w_le, w_eq, w_cl, w_in, w_nat, w_max2, w_min2, w_abs2, iltT, iltF, ileT, ileF, ieqT, ieqF, bv_01, bft, bv_0, bv_1, bv_t, bv_f, cond_true, cond_false, Bool.not_true, Bool.not_false, if_true, if_false, true_or, or_true, true_and, and_true, ↓reduceIte, decide_true, decide_false, reduceCtorEq, u2_s, u2_o, u2_k, u2_u2, Bool.true_or, Bool.or_true, Bool.false_or, Bool.or_false, Bool.and_true, Bool.true_and, Bool.and_false, Bool.false_and, eq_self, not_true_eq_false, not_false_eq_true, and_self, and_true, true_and, false_and, and_false, w_dv, dvm, XSH_e hX, hkw, hh]
    rw [← hh]
    have hfs : ∀ p, pFig T e 0 h (sk T e p) = pFig T e 0 h p := fun p => by unfold pFig; rw [sk_sk]
    have hfig := sp_155 (d := d + 18) (i := i + 1) (lo := 0) (hi := h) (vn := vn) (vc := vc) (vw := vw) (J := J) hX hT hG (by omega) (by omega)
    rw [ht1, hfs] at hfig
    rw [go]
    cases cf : pFig T e 0 h (lw T e (tb i)) with
    | error f =>
      have h1 := hfig.2 f cf
      have h2 := pFig_e cf
      refine ⟨I, i + 1, ?_, FLw_rf, by omega, by rw [ht1, h2]⟩
      rw [eq_40_16]
      simp (disch := first | assumption | omega | (simp (disch := omega) only [vM_u, vS_u]; first | assumption | omega)) only [hK, hL, hR, hI, hN, sI, hSp, hC, hW, li, lr, ↓cnd_a, ↓cnd_o, ↓cnd_n, ↓cnd_d, ↓z0, ↓z1, ↓z2, y0n, y1i, y2r, y0e, y1e, y2e, wl_0, wl_1, wl_2, wl_3, wl_4, wl_5, wl_6, wl_7, wl_8, wl_9, wl_10, wl_11, wl_12, wl_13, wl_14, wl_15, wl_16, wl_17, wl_18, wl_19, wl_20, wl_21, wl_22, wl_23, wl_24, wl_25, wl_26, wl_27, wl_28, wl_29, wl_30, wl_31, wl_32, wl_33, wl_34, wl_35, wl_36, wl_37, wl_38, wl_39, wl_40, wl_41, wl_42, wl_43, wl_44, wl_45, wl_46, wl_47, wl_48, wl_49, wl_50, wl_51, wl_52, wl_53, wl_54, wl_55, wl_56, wl_57, wl_58, wl_59, wl_60, wl_61, wl_62, wl_63, wl_64, wl_65, wl_66, wl_67, wl_68, wl_69, wl_70, wl_71, wl_72, wl_73, wl_74, wl_75, wl_76, wl_77, wl_78, wl_79, wl_80, wl_81, wl_82, wl_83, wl_84, wl_85, wl_86, wl_87, wl_88, wl_89, wl_90, wl_91, wl_92, wl_93, wl_94, wl_95, wl_96, wl_97, wl_98, wl_99, wl_100, wl_101, wl_102, wl_103, wl_104, wl_105, wl_106, wl_107, wl_108, wl_109, wl_110, wl_111, wl_112, wl_113, wl_114, wl_115, wl_116, wl_117, wl_118, wl_119, wl_120, wl_121, wl_122, wl_123, wl_124, wl_125, wl_126, wl_127, wl_128, wl_129, wl_130, wl_159, wl_160, wl_200, wl_232, wl_255, wl_256, wl_300, wl_359, wl_360, wl_400, wl_592, wl_992, wl_999, wl_1000, wl_1024, wl_3456, wl_6512, wl_7104, wl_10000, wl_11264, wl_12345, wl_32767, wl_1000000000, wl_1103515245, wl_2000000000, w_add, w_sub, w_mul, w_neg, w_lt, w_le, w_eq, w_cl, w_in, w_nat, w_max2, w_min2, w_abs2, iltT, iltF, ileT, ileF, ieqT, ieqF, bv_01, bft, bv_0, bv_1, bv_t, bv_f, cond_true, cond_false, Bool.not_true, Bool.not_false, if_true, if_false, true_or, or_true, true_and, and_true, ↓reduceIte, decide_true, decide_false, reduceCtorEq, u2_s, u2_o, u2_k, u2_u2, Bool.true_or, Bool.or_true, Bool.false_or, Bool.or_false, Bool.and_true, Bool.true_and, Bool.and_false, Bool.false_and, eq_self, not_true_eq_false, not_false_eq_true, and_self, and_true, true_and, false_and, and_false, w_dv, dvm, XSH_e hX, h1]
    | ok r =>
      obtain ⟨⟨h1, h2⟩, h3⟩ := hfig.1 r cf
      have hr := dg_lt cf
      dsimp only
      have ht2 : tb (i + 2) = sk T e r.1 := by rw [show i + 2 = i + 1 + 1 by omega, TkI_st hG ⟨by omega, h1⟩, ht1, ← h2]
      have hw := sp_v21 (d := d + 19) (i := i + 1 + 1) (vn := vn) (vc := vc) (vw := vw) (J := J) hX hT hG hA (by omega)
      rw [show i + 1 + 1 = i + 2 by omega] at hw h3
      unfold pIf
      dsimp only
      rw [ht2] at hw
      have hb2 := TkI_tb hG (i := i + 2) (by omega) hT.2.1.1
      rw [ht2] at hb2
      have eL : 8 * 1024 + (k * 64 + r.2) = 8192 + 64 * k + r.2 := by omega
      cases ci : hasB T e (sk T e r.1) W_if with
      | false =>
        rw [if_neg (by simp)]
        rw [ci] at hw
        obtain ⟨I1, k1, k2, k3⟩ := em_nx (d := d + 19) (op := 0) (v := 1) (i := i + 2) (vn := vn) (vc := vc) (vw := vw) (J := J) hX gS (by omega) (by omega) (by omega)
        rw [show (0 : Int) * 1024 + 1 = 1 from rfl] at k3
        obtain ⟨I2, m1, m2, m3⟩ := em_nx (d := d + 19) (op := 8) (v := k * 64 + r.2) (i := i + 2) (vn := vn) (vc := vc) (vw := vw) (J := J) hX k3 (by rw [List.length_append, List.length_singleton]; omega) (by omega) (by omega)
        rw [eL, List.append_assoc] at m3
        refine ⟨I2, i + 2, ?_, FLw_tr k2 m2, by omega, by dsimp only; rw [ht2, sk_sk], m3, ?_⟩
        · rw [eq_40_16]
          simp (disch := first | assumption | omega | (simp (disch := omega) only [vM_u, vS_u]; first | assumption | omega)) only [hK, hL, hR, hI, hN, sI, hSp, hC, hW, li, lr, ↓cnd_a, ↓cnd_o, ↓cnd_n, ↓cnd_d, ↓z0, ↓z1, ↓z2, y0n, y1i, y2r, y0e, y1e, y2e, wl_0, wl_1, wl_2, wl_3, wl_4, wl_5, wl_6, wl_7, wl_8, wl_9, wl_10, wl_11, wl_12, wl_13, wl_14, wl_15, wl_16, wl_17, wl_18, wl_19, wl_20, wl_21, wl_22, wl_23, wl_24, wl_25, wl_26, wl_27, wl_28, wl_29, wl_30, wl_31, wl_32, wl_33, wl_34, wl_35, wl_36, wl_37, wl_38, wl_39, wl_40, wl_41, wl_42, wl_43, wl_44, wl_45, wl_46, wl_47, wl_48, wl_49, wl_50, wl_51, wl_52, wl_53, wl_54, wl_55, wl_56, wl_57, wl_58, wl_59, wl_60, wl_61, wl_62, wl_63, wl_64, wl_65, wl_66, wl_67, wl_68, wl_69, wl_70, wl_71, wl_72, wl_73, wl_74, wl_75, wl_76, wl_77, wl_78, wl_79, wl_80, wl_81, wl_82, wl_83, wl_84, wl_85, wl_86, wl_87, wl_88, wl_89, wl_90, wl_91, wl_92, wl_93, wl_94, wl_95, wl_96, wl_97, wl_98, wl_99, wl_100, wl_101, wl_102, wl_103, wl_104, wl_105, wl_106, wl_107, wl_108, wl_109, wl_110, wl_111, wl_112, wl_113, wl_114, wl_115, wl_116, wl_117, wl_118, wl_119, wl_120, wl_121, wl_122, wl_123, wl_124, wl_125, wl_126, wl_127, wl_128, wl_129, wl_130, wl_159, wl_160, wl_200, wl_232, wl_255, wl_256, wl_300, wl_359, wl_360, wl_400, wl_592, wl_992, wl_999, wl_1000, wl_1024, wl_3456, wl_6512, wl_7104, wl_10000, wl_11264, wl_12345, wl_32767, wl_1000000000, wl_1103515245, wl_2000000000, w_add, w_sub, w_mul, w_neg, w_lt, w_le, w_eq, w_cl, w_in, w_nat, w_max2, w_min2, w_abs2, iltT, iltF, ileT, ileF, ieqT, ieqF, bv_01, bft, bv_0, bv_1, bv_t, bv_f, cond_true, cond_false, Bool.not_true, Bool.not_false, if_true, if_false, true_or, or_true, true_and, and_true, ↓reduceIte, decide_true, decide_false, reduceCtorEq, u2_s, u2_o, u2_k, u2_u2, Bool.true_or, Bool.or_true, Bool.false_or, Bool.or_false, Bool.and_true, Bool.true_and, Bool.and_false, Bool.false_and, eq_self, not_true_eq_false, not_false_eq_true, and_self, and_true, true_and, false_and, and_false, w_dv, dvm, XSH_e hX, h3, hw, k1, m1]
        · dsimp only
          rw [List.length_append, List.length_singleton, List.length_singleton]
          omega
      | true =>
        rw [if_pos rfl]
        rw [ci] at hw
        have hc2 := has_lt ci (by decide)
        have hin2 : i + 2 < n := hb2.2.2.2.mp hc2.1
        have ht3 : tb (i + 3) = sk T e (lw T e (sk T e r.1)) := by rw [show i + 3 = i + 2 + 1 by omega, TkI_st hG ⟨by omega, hin2⟩, ht2, tend_L (has_L ci (by decide))]
        have h6 := sp_44 (vn := vn) (vc := vc) (vw := vw) (J := J) (T := T) (e := e) (n := n) (tb := tb) hX 6 (by omega) (d + 19) (by omega)
        rw [show (6 : Int) - ((6 : Nat) : Int) = 0 from rfl] at h6
        have g := sp_43 (d := d + 16) (i := i + 3) (dep := 0) hX (pAtom_r 6) (pAtom_len 6) (pAtom_sk T e 6) h6 hT hG hA (by omega) gS (by omega)
        rw [ht3, pSome_sk (pAtom_sk T e 6)] at g
        cases cs : pSome (pAtom T e 6) T e (lw T e (sk T e r.1)) with
        | error f =>
          rw [cs] at g
          obtain ⟨I1, j1, q1, q2, q3, q4⟩ := g
          refine ⟨I1, j1, ?_, q2, q3, q4⟩
          rw [eq_40_16]
          simp (disch := first | assumption | omega | (simp (disch := omega) only [vM_u, vS_u]; first | assumption | omega)) only [hK, hL, hR, hI, hN, sI, hSp, hC, hW, li, lr, ↓cnd_a, ↓cnd_o, ↓cnd_n, ↓cnd_d, ↓z0, ↓z1, ↓z2, y0n, y1i, y2r, y0e, y1e, y2e, wl_0, wl_1, wl_2, wl_3, wl_4, wl_5, wl_6, wl_7, wl_8, wl_9, wl_10, wl_11, wl_12, wl_13, wl_14, wl_15, wl_16, wl_17, wl_18, wl_19, wl_20, wl_21, wl_22, wl_23, wl_24, wl_25, wl_26, wl_27, wl_28, wl_29, wl_30, wl_31, wl_32, wl_33, wl_34, wl_35, wl_36, wl_37, wl_38, wl_39, wl_40, wl_41, wl_42, wl_43, wl_44, wl_45, wl_46, wl_47, wl_48, wl_49, wl_50, wl_51, wl_52, wl_53, wl_54, wl_55, wl_56, wl_57, wl_58, wl_59, wl_60, wl_61, wl_62, wl_63, wl_64, wl_65, wl_66, wl_67, wl_68, wl_69, wl_70, wl_71, wl_72, wl_73, wl_74, wl_75, wl_76, wl_77, wl_78, wl_79, wl_80, wl_81, wl_82, wl_83, wl_84, wl_85, wl_86, wl_87, wl_88, wl_89, wl_90, wl_91, wl_92, wl_93, wl_94, wl_95, wl_96, wl_97, wl_98, wl_99, wl_100, wl_101, wl_102, wl_103, wl_104, wl_105, wl_106, wl_107, wl_108, wl_109, wl_110, wl_111, wl_112, wl_113, wl_114, wl_115, wl_116, wl_117, wl_118, wl_119, wl_120, wl_121, wl_122, wl_123, wl_124, wl_125, wl_126, wl_127, wl_128, wl_129, wl_130, wl_159, wl_160, wl_200, wl_232, wl_255, wl_256, wl_300, wl_359, wl_360, wl_400, wl_592, wl_992, wl_999, wl_1000, wl_1024, wl_3456, wl_6512, wl_7104, wl_10000, wl_11264, wl_12345, wl_32767, wl_1000000000, wl_1103515245, wl_2000000000, w_add, w_sub, w_mul, w_neg, w_lt, w_le, w_eq, w_cl, w_in, w_nat, w_max2, w_min2, w_abs2, iltT, iltF, ileT, ileF, ieqT, ieqF, bv_01, bft, bv_0, bv_1, bv_t, bv_f, cond_true, cond_false, Bool.not_true, Bool.not_false, if_true, if_false, true_or, or_true, true_and, and_true, ↓reduceIte, decide_true, decide_false, reduceCtorEq, u2_s, u2_o, u2_k, u2_u2, Bool.true_or, Bool.or_true, Bool.false_or, Bool.or_false, Bool.and_true, Bool.true_and, Bool.and_false, Bool.false_and, eq_self, not_true_eq_false, not_false_eq_true, and_self, and_true, true_and, false_and, and_false, w_dv, dvm, XSH_e hX, h3, hw, show i + 2 + 1 = i + 3 by omega, q1]
        | ok t =>
          rw [cs] at g
          obtain ⟨I1, j1, q1, q2, q3, q4, q5, q6⟩ := g
          obtain ⟨I2, m1, m2, m3⟩ := em_nx (d := d + 19) (op := 8) (v := k * 64 + r.2) (i := j1) (vn := vn) (vc := vc) (vw := vw) (J := J) hX q5 (by rw [List.length_append]; omega) (by omega) (by omega)
          rw [eL, List.append_assoc] at m3
          refine ⟨I2, j1, ?_, FLw_tr q2 m2, q3, q4, m3, ?_⟩
          · rw [eq_40_16]
            simp (disch := first | assumption | omega | (simp (disch := omega) only [vM_u, vS_u]; first | assumption | omega)) only [hK, hL, hR, hI, hN, sI, hSp, hC, hW, li, lr, ↓cnd_a, ↓cnd_o, ↓cnd_n, ↓cnd_d, ↓z0, ↓z1, ↓z2, y0n, y1i, y2r, y0e, y1e, y2e, wl_0, wl_1, wl_2, wl_3, wl_4, wl_5, wl_6, wl_7, wl_8, wl_9, wl_10, wl_11, wl_12, wl_13, wl_14, wl_15, wl_16, wl_17, wl_18, wl_19, wl_20, wl_21, wl_22, wl_23, wl_24, wl_25, wl_26, wl_27, wl_28, wl_29, wl_30, wl_31, wl_32, wl_33, wl_34, wl_35, wl_36, wl_37, wl_38, wl_39, wl_40, wl_41, wl_42, wl_43, wl_44, wl_45, wl_46, wl_47, wl_48, wl_49, wl_50, wl_51, wl_52, wl_53, wl_54, wl_55, wl_56, wl_57, wl_58, wl_59, wl_60, wl_61, wl_62, wl_63, wl_64, wl_65, wl_66, wl_67, wl_68, wl_69, wl_70, wl_71, wl_72, wl_73, wl_74, wl_75, wl_76, wl_77, wl_78, wl_79, wl_80, wl_81, wl_82, wl_83, wl_84, wl_85, wl_86, wl_87, wl_88, wl_89, wl_90, wl_91, wl_92, wl_93, wl_94, wl_95, wl_96, wl_97, wl_98, wl_99, wl_100, wl_101, wl_102, wl_103, wl_104, wl_105, wl_106, wl_107, wl_108, wl_109, wl_110, wl_111, wl_112, wl_113, wl_114, wl_115, wl_116, wl_117, wl_118, wl_119, wl_120, wl_121, wl_122, wl_123, wl_124, wl_125, wl_126, wl_127, wl_128, wl_129, wl_130, wl_159, wl_160, wl_200, wl_232, wl_255, wl_256, wl_300, wl_359, wl_360, wl_400, wl_592, wl_992, wl_999, wl_1000, wl_1024, wl_3456, wl_6512, wl_7104, wl_10000, wl_11264, wl_12345, wl_32767, wl_1000000000, wl_1103515245, wl_2000000000, w_add, w_sub, w_mul, w_neg, w_lt, w_le, w_eq, w_cl, w_in, w_nat, w_max2, w_min2, w_abs2, iltT, iltF, ileT, ileF, ieqT, ieqF, bv_01, bft, bv_0, bv_1, bv_t, bv_f, cond_true, cond_false, Bool.not_true, Bool.not_false, if_true, if_false, true_or, or_true, true_and, and_true, ↓reduceIte, decide_true, decide_false, reduceCtorEq, u2_s, u2_o, u2_k, u2_u2, Bool.true_or, Bool.or_true, Bool.false_or, Bool.or_false, Bool.and_true, Bool.true_and, Bool.and_false, Bool.false_and, eq_self, not_true_eq_false, not_false_eq_true, and_self, and_true, true_and, false_and, and_false, w_dv, dvm, XSH_e hX, h3, hw, show i + 2 + 1 = i + 3 by omega, q1, m1]
          · dsimp only
            rw [List.length_append, List.length_singleton]
            omega
/-- what the reading of a law leaves -/
def FLr (I I' : Nat → Nat → Int32) : Prop := ∀ a k, ¬(84 ≤ a ∧ a ≤ 86) → a ≠ 89 → (a = 82 → k ≠ 5 ∧ k ≠ 6) → (a = 88 → ¬(2 ≤ k ∧ k ≤ 4)) → I' a k = I a k
theorem FLr_tr {I I' I'' : Nat → Nat → Int32} (h : FLr I I') (h2 : FLr I' I'') : FLr I I'' := fun a k x y z u => (h2 a k x y z u).trans (h a k x y z u)
theorem FLr_w {I I' : Nat → Nat → Int32} (h : FLw I I') : FLr I I' := fun a k x y z u => h a k y (fun e => (z e).2) (fun e => by have := u e; omega)
def FTk2 (I I' : Nat → Nat → Int32) : Prop := ∀ a k, a = 83 ∨ (84 ≤ a ∧ a ≤ 86) ∨ (a = 82 ∧ (k = 1 ∨ k = 5)) ∨ a ≤ 77 → I' a k = I a k
theorem FTk2_w {I I' I'' : Nat → Nat → Int32} (h : FTk2 I I') (h2 : FLw I' I'') : FTk2 I I'' := fun a k x => (h2 a k (by omega) (by omega) (by omega)).trans (h a k x)
def GoT (I : Nat → Nat → Int32) (σ : (Nat → Nat → Int32) → HS) (T : Int → Int) (e n : Int) (tb : Int → Int) (res : Option Res) (r : Except Int (Int × List Int)) : Prop :=
  match r with
  | .ok t => ∃ I' j, res = some (.inl (some (.int (w 1))), σ (nx I' j)) ∧ (FLr I I' ∧ FTk2 I I') ∧ (0 ≤ j ∧ j ≤ n) ∧ StpR I' t.2 ∧ I' 88 3 = w t.1 ∧ (t.2.length : Int) ≤ j
  | .error f => ∃ I' j, res = some (.inl (some (.int (w 0))), σ (nx I' j)) ∧ (FLr I I' ∧ FTk2 I I') ∧ (0 ≤ j ∧ j ≤ n) ∧ tb j = f
theorem lp_39 {d : Nat} {T : Int → Int} {e n : Int} {tb : Int → Int} (hX : XSH K L R) (hT : Tp I T e) (hG : TkI I T e n tb) (hA : SWA K L I) : ∀ (m : Nat) (c p i : Int) (ss : List Int) (I1 : Nat → Nat → Int32), (m : Int) + c = 12 → 0 ≤ c → FTk2 I I1 → FLr I I1 → (0 ≤ i ∧ i ≤ n) → tb i = sk T e p → p ≤ e → StpR I1 ss → (ss.length : Int) ≤ i → I1 88 3 = w c → GoT I (fun I' => (((vn, vc, vw, K, L, R), I', J) : HS)) T e n tb (atv PR (d + 22) cd_39 18 [.ref 88] [] (((vn, vc, vw, K, L, R), nx I1 i, J) : HS)) (linesN T e m c p ss) := by
  intro m
  induction m with
  | zero =>
    intro c p i ss I1 hmc hc gI f1 hi ht hpe gS hl h3
    have hc2 : c = 12 := by omega
    subst hc2
    have h3' : nx I1 i 88 3 = w 12 := (nx_o _ _ (by omega)).trans h3
    refine ⟨I1, i, ?_, ⟨f1, gI⟩, hi, ht⟩
    rw [eq_39_18]
    simp (disch := first | assumption | omega | (simp (disch := omega) only [vM_u, vS_u]; first | assumption | omega)) only [hK, hL, hR, hI, hN, sI, hSp, hC, hW, li, lr, ↓cnd_a, ↓cnd_o, ↓cnd_n, ↓cnd_d, ↓z0, ↓z1, ↓z2, y0n, y1i, y2r, y0e, y1e, y2e, wl_0, wl_1, wl_2, wl_3, wl_4, wl_5, wl_6, wl_7, wl_8, wl_9, wl_10, wl_11, wl_12, wl_13, wl_14, wl_15, wl_16, wl_17, wl_18, wl_19, wl_20, wl_21, wl_22, wl_23, wl_24, wl_25, wl_26, wl_27, wl_28, wl_29, wl_30, wl_31, wl_32, wl_33, wl_34, wl_35, wl_36, wl_37, wl_38, wl_39, wl_40, wl_41, wl_42, wl_43, wl_44, wl_45, wl_46, wl_47, wl_48, wl_49, wl_50, wl_51, wl_52, wl_53, wl_54, wl_55, wl_56, wl_57, wl_58, wl_59, wl_60, wl_61, wl_62, wl_63, wl_64, wl_65, wl_66, wl_67, wl_68, wl_69, wl_70, wl_71, wl_72, wl_73, wl_74, wl_75, wl_76, wl_77, wl_78, wl_79, wl_80, wl_81, wl_82, wl_83, wl_84, wl_85, wl_86, wl_87, wl_88, wl_89, wl_90, wl_91, wl_92, wl_93, wl_94, wl_95, wl_96, wl_97, wl_98, wl_99, wl_100, wl_101, wl_102, wl_103, wl_104, wl_105, wl_106, wl_107, wl_108, wl_109, wl_110, wl_111, wl_112, wl_113, wl_114, wl_115, wl_116, wl_117, wl_118, wl_119, wl_120, wl_121, wl_122, wl_123, wl_124, wl_125, wl_126, wl_127, wl_128, wl_129, wl_130, wl_159, wl_160, wl_200, wl_232, wl_255, wl_256, wl_300, wl_359, wl_360, wl_400, wl_592, wl_992, wl_999, wl_1000, wl_1024, wl_3456, wl_6512, wl_7104, wl_10000, wl_11264, wl_12345, wl_32767, wl_1000000000, wl_1103515245, wl_2000000000, w_add, w_sub, w_mul, w_neg, w_lt, w_le, w_eq, w_cl, w_in, w_nat, w_max2, w_min2, w_abs2, iltT, iltF, ileT, ileF, ieqT, ieqF, bv_01, bft, bv_0, bv_1, bv_t, bv_f, cond_true, cond_false, Bool.not_true, Bool.not_false, if_true, if_false, true_or, or_true, true_and, and_true, ↓reduceIte, decide_true, decide_false, reduceCtorEq, u2_s, u2_o, u2_k, u2_u2, Bool.true_or, Bool.or_true, Bool.false_or, Bool.or_false, Bool.and_true, Bool.true_and, Bool.and_false, Bool.false_and, eq_self, not_true_eq_false, not_false_eq_true, and_self, and_true, true_and, false_and, and_false, w_dv, dvm, XSH_e hX, h3']
  | succ m ih =>
    intro c p i ss I1 hmc hc gI f1 hi ht hpe gS hl h3
    have g2 := hG.2.1
    have hT1 : Tp I1 T e := Tp_f (fun a k x => gI a k (by omega)) hT
    have hG1 : TkI I1 T e n tb := TkI_f (fun a k x => gI a k (by omega)) hG
    have hA1 : SWA K L I1 := SWA_f (fun a k x => gI a k (by omega)) hA
    have h3' : nx I1 i 88 3 = w c := (nx_o _ _ (by omega)).trans h3
    have g := sp_40 (d := d + 1) (vn := vn) (vc := vc) (vw := vw) (J := J) hX hT1 hG1 hA1 hi gS hl
    rw [ht, pLine_sk] at g
    unfold linesN
    cases cl : pLine T e p with
    | error f =>
      rw [cl] at g
      obtain ⟨I2, j2, q1, q2, q3, q4⟩ := g
      refine ⟨I2, j2, ?_, ⟨FLr_tr f1 (FLr_w q2), FTk2_w gI q2⟩, q3, q4⟩
      rw [eq_39_18]
      simp (disch := first | assumption | omega | (simp (disch := omega) only [vM_u, vS_u]; first | assumption | omega)) only [hK, hL, hR, hI, hN, sI, hSp, hC, hW, li, lr, ↓cnd_a, ↓cnd_o, ↓cnd_n, ↓cnd_d, ↓z0, ↓z1, ↓z2, y0n, y1i, y2r, y0e, y1e, y2e, wl_0, wl_1, wl_2, wl_3, wl_4, wl_5, wl_6, wl_7, wl_8, wl_9, wl_10, wl_11, wl_12, wl_13, wl_14, wl_15, wl_16, wl_17, wl_18, wl_19, wl_20, wl_21, wl_22, wl_23, wl_24, wl_25, wl_26, wl_27, wl_28, wl_29, wl_30, wl_31, wl_32, wl_33, wl_34, wl_35, wl_36, wl_37, wl_38, wl_39, wl_40, wl_41, wl_42, wl_43, wl_44, wl_45, wl_46, wl_47, wl_48, wl_49, wl_50, wl_51, wl_52, wl_53, wl_54, wl_55, wl_56, wl_57, wl_58, wl_59, wl_60, wl_61, wl_62, wl_63, wl_64, wl_65, wl_66, wl_67, wl_68, wl_69, wl_70, wl_71, wl_72, wl_73, wl_74, wl_75, wl_76, wl_77, wl_78, wl_79, wl_80, wl_81, wl_82, wl_83, wl_84, wl_85, wl_86, wl_87, wl_88, wl_89, wl_90, wl_91, wl_92, wl_93, wl_94, wl_95, wl_96, wl_97, wl_98, wl_99, wl_100, wl_101, wl_102, wl_103, wl_104, wl_105, wl_106, wl_107, wl_108, wl_109, wl_110, wl_111, wl_112, wl_113, wl_114, wl_115, wl_116, wl_117, wl_118, wl_119, wl_120, wl_121, wl_122, wl_123, wl_124, wl_125, wl_126, wl_127, wl_128, wl_129, wl_130, wl_159, wl_160, wl_200, wl_232, wl_255, wl_256, wl_300, wl_359, wl_360, wl_400, wl_592, wl_992, wl_999, wl_1000, wl_1024, wl_3456, wl_6512, wl_7104, wl_10000, wl_11264, wl_12345, wl_32767, wl_1000000000, wl_1103515245, wl_2000000000, w_add, w_sub, w_mul, w_neg, w_lt, w_le, w_eq, w_cl, w_in, w_nat, w_max2, w_min2, w_abs2, iltT, iltF, ileT, ileF, ieqT, ieqF, bv_01, bft, bv_0, bv_1, bv_t, bv_f, cond_true, cond_false, Bool.not_true, Bool.not_false, if_true, if_false, true_or, or_true, true_and, and_true, ↓reduceIte, decide_true, decide_false, reduceCtorEq, u2_s, u2_o, u2_k, u2_u2, Bool.true_or, Bool.or_true, Bool.false_or, Bool.or_false, Bool.and_true, Bool.true_and, Bool.and_false, Bool.false_and, eq_self, not_true_eq_false, not_false_eq_true, and_self, and_true, true_and, false_and, and_false, w_dv, dvm, XSH_e hX, h3', q1]
    | ok r =>
      rw [cl] at g
      obtain ⟨I2, j2, q1, q2, q3, q4, q5, q6⟩ := g
      have hr := pLine_r _ r hpe cl
      dsimp only
      have hT2 := Tp_l q2 hT1
      have hG2 := TkI_l q2 hG1
      have hj := TkI_tb hG q3 hT.2.1.1
      have h4 : nx I2 j2 88 3 = w c := (nx_o _ _ (by omega)).trans ((q2 _ _ (by decide) (by decide) (by decide)).trans h3)
      obtain ⟨I3, hI3⟩ : ∃ I3, I3 = u2 (nx I2 j2) 88 3 (w (c + 1)) := ⟨_, rfl⟩
      have o3 : ∀ a k, (a = 88 → k ≠ 3) → I3 a k = nx I2 j2 a k := fun a k x => by rw [hI3, u2_r, if_neg (by omega)]
      have hn3 : nx I3 j2 = I3 := nx_self ((o3 _ _ (by decide)).trans (nx_6 _ _))
      have i3 : FTk2 I I3 := fun a k x => by
        rw [o3 _ _ (by omega), nx_o _ _ (by omega), q2 _ _ (by omega) (by omega) (by omega)]
        exact gI a k x
      have f3 : FLr I I3 := by
        refine FLr_tr f1 (FLr_tr (FLr_w q2) ?_)
        intro a k x y z u
        rw [o3 _ _ (by omega), nx_o _ _ (by omega)]
      have g3 : StpR I3 (ss ++ r.2) := by
        obtain ⟨z1, z2, z3⟩ := StpR_nx (i := j2) q5
        exact ⟨by rw [o3 _ _ (by decide)]; exact z1, fun k hk => by rw [o3 _ _ (by omega)]; exact z2 k hk, fun s a b => by rw [o3 _ _ (by decide)]; exact z3 s a b⟩
      have c3 : I3 88 3 = w (c + 1) := by rw [hI3, u2_s]
      have hT3 : Tp I3 T e := Tp_f (fun a k x => i3 a k (by omega)) hT
      have hG3 : TkI I3 T e n tb := TkI_f (fun a k x => i3 a k (by omega)) hG
      have h147 := sp_149 (d := d + 21) (vn := vn) (vc := vc) (vw := vw) (J := J) hX hG3 (i := j2) ((o3 _ _ (by decide)).trans (nx_6 _ _)) q3
      have h152 := sp_154 (d := d + 20) (c := 59) (vn := vn) (vc := vc) (vw := vw) (J := J) hX hT3 hG3 q3 (by omega)
      rw [hn3] at h152
      rw [← q4]
      have hll : ((ss ++ r.2).length : Int) ≤ j2 := by rw [List.length_append]; omega
      by_cases ce : tb j2 = e
      · rw [if_pos ce]
        have hjn : ¬ j2 < n := fun x => by have := hj.2.2.2.mpr x; omega
        rw [if_neg hjn] at h147
        refine ⟨I3, j2, ?_, ⟨f3, i3⟩, q3, g3, c3, hll⟩
        dsimp only
        rw [hn3, eq_39_18]
        simp (disch := first | assumption | omega | (simp (disch := omega) only [vM_u, vS_u]; first | assumption | omega)) only [hK, hL, hR, hI, hN, sI, hSp, hC, hW, li, lr, ↓cnd_a, ↓cnd_o, ↓cnd_n, ↓cnd_d, ↓z0, ↓z1, ↓z2, y0n, y1i, y2r, y0e, y1e, y2e, wl_0, wl_1, wl_2, wl_3, wl_4, wl_5, wl_6, wl_7, wl_8, wl_9, wl_10, wl_11, wl_12, wl_13, wl_14, wl_15, wl_16, wl_17, wl_18, wl_19, wl_20, wl_21, wl_22, wl_23, wl_24, wl_25, wl_26, wl_27, wl_28, wl_29, wl_30, wl_31, wl_32, wl_33, wl_34, wl_35, wl_36, wl_37, wl_38, wl_39, wl_40, wl_41, wl_42, wl_43, wl_44, wl_45, wl_46, wl_47, wl_48, wl_49, wl_50, wl_51, wl_52, wl_53, wl_54, wl_55, wl_56, wl_57, wl_58, wl_59, wl_60, wl_61, wl_62, wl_63, wl_64, wl_65, wl_66, wl_67, wl_68, wl_69, wl_70, wl_71, wl_72, wl_73, wl_74, wl_75, wl_76, wl_77, wl_78, wl_79, wl_80, wl_81, wl_82, wl_83, wl_84, wl_85, wl_86, wl_87, wl_88, wl_89, wl_90, wl_91, wl_92, wl_93, wl_94, wl_95, wl_96, wl_97, wl_98, wl_99, wl_100, wl_101, wl_102, wl_103, wl_104, wl_105, wl_106, wl_107, wl_108, wl_109, wl_110, wl_111, wl_112, wl_113, wl_114, wl_115, wl_116, wl_117, wl_118, wl_119, wl_120, wl_121, wl_122, wl_123, wl_124, wl_125, wl_126, wl_127, wl_128, wl_129, wl_130, wl_159, wl_160, wl_200, wl_232, wl_255, wl_256, wl_300, wl_359, wl_360, wl_400, wl_592, wl_992, wl_999, wl_1000, wl_1024, wl_3456, wl_6512, wl_7104, wl_10000, wl_11264, wl_12345, wl_32767, wl_1000000000, wl_1103515245, wl_2000000000, w_add, w_sub, w_mul, w_neg, w_lt, w_le, w_eq, w_cl, w_in, w_nat, w_max2, w_min2, w_abs2, iltT, iltF, ileT, ileF, ieqT, ieqF, bv_01, bft, bv_0, bv_1, bv_t, bv_f, cond_true, cond_false, Bool.not_true, Bool.not_false, if_true, if_false, true_or, or_true, true_and, and_true, ↓reduceIte, decide_true, decide_false, reduceCtorEq, u2_s, u2_o, u2_k, u2_u2, Bool.true_or, Bool.or_true, Bool.false_or, Bool.or_false, Bool.and_true, Bool.true_and, Bool.and_false, Bool.false_and, eq_self, not_true_eq_false, not_false_eq_true, and_self, and_true, true_and, false_and, and_false, w_dv, dvm, XSH_e hX, h3', q1, h4, ← hI3, h147]
      · rw [if_neg ce]
        have hjn : j2 < n := hj.2.2.2.mp (by omega)
        rw [if_pos hjn] at h147
        by_cases c59 : T (tb j2) = 59
        · rw [if_pos c59]
          have cs : sgB T e (tb j2) 59 = true := by
            unfold sgB
            rw [decide_eq_true (by omega), decide_eq_true c59]
            rfl
          rw [cs] at h152
          obtain ⟨h5, h6⟩ := tend_s cs (by omega)
          have ht1 : tb (j2 + 1) = sk T e (tb j2 + 1) := by rw [TkI_st hG ⟨q3.1, hjn⟩, h6]
          have key : atv PR (d + 22) cd_39 18 [.ref 88] [] (((vn, vc, vw, K, L, R), nx I1 i, J) : HS) = atv PR (d + 22) cd_39 18 [.ref 88] [] (((vn, vc, vw, K, L, R), nx I3 (j2 + 1), J) : HS) := by
            rw [eq_39_18]
            simp (disch := first | assumption | omega | (simp (disch := omega) only [vM_u, vS_u]; first | assumption | omega)) only [hK, hL, hR, hI, hN, sI, hSp, hC, hW, li, lr, ↓cnd_a, ↓cnd_o, ↓cnd_n, ↓cnd_d, ↓z0, ↓z1, ↓z2, y0n, y1i, y2r, y0e, y1e, y2e, wl_0, wl_1, wl_2, wl_3, wl_4, wl_5, wl_6, wl_7, wl_8, wl_9, wl_10, wl_11, wl_12, wl_13, wl_14, wl_15, wl_16, wl_17, wl_18, wl_19, wl_20, wl_21, wl_22, wl_23, wl_24, wl_25, wl_26, wl_27, wl_28, wl_29, wl_30, wl_31, wl_32, wl_33, wl_34, wl_35, wl_36, wl_37, wl_38, wl_39, wl_40, wl_41, wl_42, wl_43, wl_44, wl_45, wl_46, wl_47, wl_48, wl_49, wl_50, wl_51, wl_52, wl_53, wl_54, wl_55, wl_56, wl_57, wl_58, wl_59, wl_60, wl_61, wl_62, wl_63, wl_64, wl_65, wl_66, wl_67, wl_68, wl_69, wl_70, wl_71, wl_72, wl_73, wl_74, wl_75, wl_76, wl_77, wl_78, wl_79, wl_80, wl_81, wl_82, wl_83, wl_84, wl_85, wl_86, wl_87, wl_88, wl_89, wl_90, wl_91, wl_92, wl_93, wl_94, wl_95, wl_96, wl_97, wl_98, wl_99, wl_100, wl_101, wl_102, wl_103, wl_104, wl_105, wl_106, wl_107, wl_108, wl_109, wl_110, wl_111, wl_112, wl_113, wl_114, wl_115, wl_116, wl_117, wl_118, wl_119, wl_120, wl_121, wl_122, wl_123, wl_124, wl_125, wl_126, wl_127, wl_128, wl_129, wl_130, wl_159, wl_160, wl_200, wl_232, wl_255, wl_256, wl_300, wl_359, wl_360, wl_400, wl_592, wl_992, wl_999, wl_1000, wl_1024, wl_3456, wl_6512, wl_7104, wl_10000, wl_11264, wl_12345, wl_32767, wl_1000000000, wl_1103515245, wl_2000000000, w_add, w_sub, w_mul, w_neg, w_lt, w_le, w_eq, w_cl, w_in, w_nat, w_max2, w_min2, w_abs2, iltT, iltF, ileT, ileF, ieqT, ieqF, bv_01, bft, bv_0, bv_1, bv_t, bv_f, cond_true, cond_false, Bool.not_true, Bool.not_false, if_true, if_false, true_or, or_true, true_and, and_true, ↓reduceIte, decide_true, decide_false, reduceCtorEq, u2_s, u2_o, u2_k, u2_u2, Bool.true_or, Bool.or_true, Bool.false_or, Bool.or_false, Bool.and_true, Bool.true_and, Bool.and_false, Bool.false_and, eq_self, not_true_eq_false, not_false_eq_true, and_self, and_true, true_and, false_and, and_false, w_dv, dvm, XSH_e hX, h3', q1, h4, ← hI3, h147, h152]
          rw [key]
          exact ih (c + 1) (tb j2 + 1) (j2 + 1) (ss ++ r.2) I3 (by omega) (by omega) i3 f3 (by omega) ht1 (by omega) g3 (by omega) c3
        · rw [if_neg c59]
          have cs : sgB T e (tb j2) 59 = false := by
            unfold sgB
            rw [decide_eq_false c59, Bool.and_false]
          rw [cs] at h152
          refine ⟨I3, j2, ?_, ⟨f3, i3⟩, q3, rfl⟩
          dsimp only
          rw [hn3, eq_39_18]
          simp (disch := first | assumption | omega | (simp (disch := omega) only [vM_u, vS_u]; first | assumption | omega)) only [hK, hL, hR, hI, hN, sI, hSp, hC, hW, li, lr, ↓cnd_a, ↓cnd_o, ↓cnd_n, ↓cnd_d, ↓z0, ↓z1, ↓z2, y0n, y1i, y2r, y0e, y1e, y2e, wl_0, wl_1, wl_2, wl_3, wl_4, wl_5, wl_6, wl_7, wl_8, wl_9, wl_10, wl_11, wl_12, wl_13, wl_14, wl_15, wl_16, wl_17, wl_18, wl_19, wl_20, wl_21, wl_22, wl_23, wl_24, wl_25, wl_26, wl_27, wl_28, wl_29, wl_30, wl_31, wl_32, wl_33, wl_34, wl_35, wl_36, wl_37, wl_38, wl_39, wl_40, wl_41, wl_42, wl_43, wl_44, wl_45, wl_46, wl_47, wl_48, wl_49, wl_50, wl_51, wl_52, wl_53, wl_54, wl_55, wl_56, wl_57, wl_58, wl_59, wl_60, wl_61, wl_62, wl_63, wl_64, wl_65, wl_66, wl_67, wl_68, wl_69, wl_70, wl_71, wl_72, wl_73, wl_74, wl_75, wl_76, wl_77, wl_78, wl_79, wl_80, wl_81, wl_82, wl_83, wl_84, wl_85, wl_86, wl_87, wl_88, wl_89, wl_90, wl_91, wl_92, wl_93, wl_94, wl_95, wl_96, wl_97, wl_98, wl_99, wl_100, wl_101, wl_102, wl_103, wl_104, wl_105, wl_106, wl_107, wl_108, wl_109, wl_110, wl_111, wl_112, wl_113, wl_114, wl_115, wl_116, wl_117, wl_118, wl_119, wl_120, wl_121, wl_122, wl_123, wl_124, wl_125, wl_126, wl_127, wl_128, wl_129, wl_130, wl_159, wl_160, wl_200, wl_232, wl_255, wl_256, wl_300, wl_359, wl_360, wl_400, wl_592, wl_992, wl_999, wl_1000, wl_1024, wl_3456, wl_6512, wl_7104, wl_10000, wl_11264, wl_12345, wl_32767, wl_1000000000, wl_1103515245, wl_2000000000, w_add, w_sub, w_mul, w_neg, w_lt, w_le, w_eq, w_cl, w_in, w_nat, w_max2, w_min2, w_abs2, iltT, iltF, ileT, ileF, ieqT, ieqF, bv_01, bft, bv_0, bv_1, bv_t, bv_f, cond_true, cond_false, Bool.not_true, Bool.not_false, if_true, if_false, true_or, or_true, true_and, and_true, ↓reduceIte, decide_true, decide_false, reduceCtorEq, u2_s, u2_o, u2_k, u2_u2, Bool.true_or, Bool.or_true, Bool.false_or, Bool.or_false, Bool.and_true, Bool.true_and, Bool.and_false, Bool.false_and, eq_self, not_true_eq_false, not_false_eq_true, and_self, and_true, true_and, false_and, and_false, w_dv, dvm, XSH_e hX, h3', q1, h4, ← hI3, h147, h152, hn3]
/-- a law read by the class: its steps, or the fault's place -/
def GoW (I : Nat → Nat → Int32) (σ : (Nat → Nat → Int32) → HS) (T : Int → Int) (e : Int) (res : Option Res) (r : Except Int (Int × List Int)) : Prop :=
  ∃ I' n tb j, TkI I' T e n tb ∧ FLr I I' ∧ (0 ≤ j ∧ j ≤ n) ∧ I' 82 6 = w j ∧
  match r with
  | .ok t => res = some (.inl (some (.int (w 1))), σ I') ∧ StpR I' t.2 ∧ I' 88 3 = w t.1 ∧ (t.2.length : Int) ≤ j
  | .error f => res = some (.inl (some (.int (w 0))), σ I') ∧ tb j = f
theorem sp_39 {d : Nat} {T : Int → Int} {e : Int} (hX : XSH K L R) (hT : Tp I T e) (hA : SWA K L I) : GoW I (fun I' => (((vn, vc, vw, K, L, R), I', J) : HS)) T e (ev PR (d + 23) 39 [.ref 88] (((vn, vc, vw, K, L, R), I, J) : HS)) (pLaw T e) := by
  have t2 := hT.2.1
  obtain ⟨Ia, hIa⟩ : ∃ Ia, Ia = u2 (u2 (u2 I 88 2 (w 0)) 88 3 (w 0)) 88 4 (w 0) := ⟨_, rfl⟩
  have oa : ∀ a k, (a = 88 → ¬(2 ≤ k ∧ k ≤ 4)) → Ia a k = I a k := fun a k x => by
    rw [hIa, u2_r, if_neg (by omega), u2_r, if_neg (by omega), u2_r, if_neg (by omega)]
  have hTa : Tp Ia T e := Tp_f (fun a k x => oa a k (by omega)) hT
  obtain ⟨I1, n, tb, e1, hG, h6, f1⟩ := sp_141 (d := d + 17) (vn := vn) (vc := vc) (vw := vw) (J := J) hX hTa
  have o1 : ∀ k, I1 88 k = Ia 88 k := fun k => f1 88 k (by omega) (by omega)
  have f2 : FLr I I1 := fun a k x y z u => by
    rw [f1 a k x z, oa a k u]
  have hT1 : Tp I1 T e := Tp_f (fun a k x => (f1 a k (by omega) (by omega)).trans (oa a k (by omega))) hT
  have hA1 : SWA K L I1 := SWA_f (fun a k x => (f1 a k (by omega) (by omega)).trans (oa a k (by omega))) hA
  have gS : StpR I1 [] := ⟨by rw [o1, hIa]; rfl, fun k hk => by simp at hk, fun s hs => by simp at hs⟩
  have h3 : I1 88 3 = w 0 := by rw [o1, hIa]; rfl
  have hj := TkI_tb hG (i := 0) (by have := hG.2.1; omega) t2.1
  have h147 := sp_149 (d := d + 21) (vn := vn) (vc := vc) (vw := vw) (J := J) hX hG h6 (by have := hG.2.1; omega)
  have gn := hG.2.1
  rw [hIa] at e1
  unfold pLaw
  by_cases c : sk T e 0 = e
  · rw [if_pos c]
    have hn : ¬ (0 : Int) < n := fun x => by have := hj.2.2.2.mpr x; rw [hG.2.2.1] at this; omega
    rw [if_neg hn] at h147
    refine ⟨I1, n, tb, 0, hG, f2, by omega, h6, ?_, gS, h3, by simp⟩
    rw [eq_39]
    simp (disch := first | assumption | omega | (simp (disch := omega) only [vM_u, vS_u]; first | assumption | omega)) only [hK, hL, hR, hI, hN, sI, hSp, hC, hW, li, lr, ↓cnd_a, ↓cnd_o, ↓cnd_n, ↓cnd_d, ↓z0, ↓z1, ↓z2, y0n, y1i, y2r, y0e, y1e, y2e, wl_0, wl_1, wl_2, wl_3, wl_4, wl_5, wl_6, wl_7, wl_8, wl_9, wl_10, wl_11, wl_12, wl_13, wl_14, wl_15, wl_16, wl_17, wl_18, wl_19, wl_20, wl_21, wl_22, wl_23, wl_24, wl_25, wl_26, wl_27, wl_28, wl_29, wl_30, wl_31, wl_32, wl_33, wl_34, wl_35, wl_36, wl_37, wl_38, wl_39, wl_40, wl_41, wl_42, wl_43, wl_44, wl_45, wl_46, wl_47, wl_48, wl_49, wl_50, wl_51, wl_52, wl_53, wl_54, wl_55, wl_56, wl_57, wl_58, wl_59, wl_60, wl_61, wl_62, wl_63, wl_64, wl_65, wl_66, wl_67, wl_68, wl_69, wl_70, wl_71, wl_72, wl_73, wl_74, wl_75, wl_76, wl_77, wl_78, wl_79, wl_80, wl_81, wl_82, wl_83, wl_84, wl_85, wl_86, wl_87, wl_88, wl_89, wl_90, wl_91, wl_92, wl_93, wl_94, wl_95, wl_96, wl_97, wl_98, wl_99, wl_100, wl_101, wl_102, wl_103, wl_104, wl_105, wl_106, wl_107, wl_108, wl_109, wl_110, wl_111, wl_112, wl_113, wl_114, wl_115, wl_116, wl_117, wl_118, wl_119, wl_120, wl_121, wl_122, wl_123, wl_124, wl_125, wl_126, wl_127, wl_128, wl_129, wl_130, wl_159, wl_160, wl_200, wl_232, wl_255, wl_256, wl_300, wl_359, wl_360, wl_400, wl_592, wl_992, wl_999, wl_1000, wl_1024, wl_3456, wl_6512, wl_7104, wl_10000, wl_11264, wl_12345, wl_32767, wl_1000000000, wl_1103515245, wl_2000000000, w_add, w_sub, w_mul, w_neg, w_lt, w_le, w_eq, w_cl, w_in, w_nat, w_max2, w_min2, w_abs2, iltT, iltF, ileT, ileF, ieqT, ieqF, bv_01, bft, bv_0, bv_1, bv_t, bv_f, cond_true, cond_false, Bool.not_true, Bool.not_false, if_true, if_false, true_or, or_true, true_and, and_true, ↓reduceIte, decide_true, decide_false, reduceCtorEq, u2_s, u2_o, u2_k, u2_u2, Bool.true_or, Bool.or_true, Bool.false_or, Bool.or_false, Bool.and_true, Bool.true_and, Bool.and_false, Bool.false_and, eq_self, not_true_eq_false, not_false_eq_true, and_self, and_true, true_and, false_and, and_false, w_dv, dvm, XSH_e hX, e1, h147]
  · rw [if_neg c]
    have hn : (0 : Int) < n := hj.2.2.2.mp (by rw [hG.2.2.1]; have := sk_r T e 0; omega)
    rw [if_pos hn] at h147
    have g := lp_39 (d := d) (vn := vn) (vc := vc) (vw := vw) (J := J) hX hT1 hG hA1 12 0 0 0 [] I1 (by omega) (by omega) (fun a k x => rfl) (fun a k x y z u => rfl) (by omega) hG.2.2.1 t2.1 gS (by simp) h3
    have key : ev PR (d + 23) 39 [.ref 88] (((vn, vc, vw, K, L, R), I, J) : HS) = atv PR (d + 22) cd_39 18 [.ref 88] [] (((vn, vc, vw, K, L, R), nx I1 0, J) : HS) := by
      rw [nx_self h6, eq_39]
      simp (disch := first | assumption | omega | (simp (disch := omega) only [vM_u, vS_u]; first | assumption | omega)) only [hK, hL, hR, hI, hN, sI, hSp, hC, hW, li, lr, ↓cnd_a, ↓cnd_o, ↓cnd_n, ↓cnd_d, ↓z0, ↓z1, ↓z2, y0n, y1i, y2r, y0e, y1e, y2e, wl_0, wl_1, wl_2, wl_3, wl_4, wl_5, wl_6, wl_7, wl_8, wl_9, wl_10, wl_11, wl_12, wl_13, wl_14, wl_15, wl_16, wl_17, wl_18, wl_19, wl_20, wl_21, wl_22, wl_23, wl_24, wl_25, wl_26, wl_27, wl_28, wl_29, wl_30, wl_31, wl_32, wl_33, wl_34, wl_35, wl_36, wl_37, wl_38, wl_39, wl_40, wl_41, wl_42, wl_43, wl_44, wl_45, wl_46, wl_47, wl_48, wl_49, wl_50, wl_51, wl_52, wl_53, wl_54, wl_55, wl_56, wl_57, wl_58, wl_59, wl_60, wl_61, wl_62, wl_63, wl_64, wl_65, wl_66, wl_67, wl_68, wl_69, wl_70, wl_71, wl_72, wl_73, wl_74, wl_75, wl_76, wl_77, wl_78, wl_79, wl_80, wl_81, wl_82, wl_83, wl_84, wl_85, wl_86, wl_87, wl_88, wl_89, wl_90, wl_91, wl_92, wl_93, wl_94, wl_95, wl_96, wl_97, wl_98, wl_99, wl_100, wl_101, wl_102, wl_103, wl_104, wl_105, wl_106, wl_107, wl_108, wl_109, wl_110, wl_111, wl_112, wl_113, wl_114, wl_115, wl_116, wl_117, wl_118, wl_119, wl_120, wl_121, wl_122, wl_123, wl_124, wl_125, wl_126, wl_127, wl_128, wl_129, wl_130, wl_159, wl_160, wl_200, wl_232, wl_255, wl_256, wl_300, wl_359, wl_360, wl_400, wl_592, wl_992, wl_999, wl_1000, wl_1024, wl_3456, wl_6512, wl_7104, wl_10000, wl_11264, wl_12345, wl_32767, wl_1000000000, wl_1103515245, wl_2000000000, w_add, w_sub, w_mul, w_neg, w_lt, w_le, w_eq, w_cl, w_in, w_nat, w_max2, w_min2, w_abs2, iltT, iltF, ileT, ileF, ieqT, ieqF, bv_01, bft, bv_0, bv_1, bv_t, bv_f, cond_true, cond_false, Bool.not_true, Bool.not_false, if_true, if_false, true_or, or_true, true_and, and_true, ↓reduceIte, decide_true, decide_false, reduceCtorEq, u2_s, u2_o, u2_k, u2_u2, Bool.true_or, Bool.or_true, Bool.false_or, Bool.or_false, Bool.and_true, Bool.true_and, Bool.and_false, Bool.false_and, eq_self, not_true_eq_false, not_false_eq_true, and_self, and_true, true_and, false_and, and_false, w_dv, dvm, XSH_e hX, e1, h147]
    rw [← key] at g
    cases cl : linesN T e 12 0 0 [] with
    | error f =>
      rw [cl] at g
      obtain ⟨I2, j2, q1, q2, q3, q4⟩ := g
      refine ⟨nx I2 j2, n, tb, j2, ?_, FLr_tr f2 (FLr_tr q2.1 (FLr_w FLw_nx)), q3, nx_6 _ _, q1, q4⟩
      exact TkI_f (fun a k x => (nx_o _ _ (by omega)).trans (q2.2 a k (by omega))) hG
    | ok r =>
      rw [cl] at g
      obtain ⟨I2, j2, q1, q2, q3, q4, q5, q6⟩ := g
      refine ⟨nx I2 j2, n, tb, j2, ?_, FLr_tr f2 (FLr_tr q2.1 (FLr_w FLw_nx)), q3, nx_6 _ _, q1, StpR_nx q4, (nx_o _ _ (by omega)).trans q5, q6⟩
      exact TkI_f (fun a k x => (nx_o _ _ (by omega)).trans (q2.2 a k (by omega))) hG
end LWH
