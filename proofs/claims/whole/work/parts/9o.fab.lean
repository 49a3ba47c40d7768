/-! the reference reads blocks and hoops -/
section FAB
variable {vn vc vw : Nat} {K L : Nat → Nat} {R : Nat → Nat → Nat} {I : Nat → Nat → Int32} {J : Nat → Nat → Int64}
abbrev BkR : Type := Int × Int × Int × Int × Int × Bool
def pBlk (T : Int → Int) (e p : Int) : Except Int BkR :=
  match pFig T e 0 59 p with
  | .error f => .error f
  | .ok a => match pFig T e 0 39 a.1 with
    | .error f => .error f
    | .ok b => match pMust T e W_side b.1 with
      | .error f => .error f
      | .ok c => match pFig T e 1 9 c with
        | .error f => .error f
        | .ok g => match pMust T e W_prize g.1 with
          | .error f => .error f
          | .ok h => match pFig T e 0 999 h with
            | .error f => .error f
            | .ok k => .ok (if hasB T e (sk T e k.1) W_velvet then lw T e (sk T e k.1) else sk T e k.1, a.2, b.2, g.2, k.2, hasB T e (sk T e k.1) W_velvet)
def rowB (I : Nat → Nat → Int32) (n : Int) (r : BkR) : Nat → Nat → Int32 := u2 (u2 (u2 (u2 (u2 (u2 I 288 (ix (20 + 5 * n + 0)) (w r.2.1)) 288 (ix (20 + 5 * n + 1)) (w r.2.2.1)) 288 (ix (20 + 5 * n + 2)) (w r.2.2.2.1)) 288 (ix (20 + 5 * n + 3)) (w r.2.2.2.2.1)) 288 (ix (20 + 5 * n + 4)) (bv r.2.2.2.2.2)) 288 (ix 3) (w (n + 1))
theorem sp_240 {d : Nat} {T : Int → Int} {e p n q : Int} (hM : MSH K L R) (hT : TxR I T e) (hA : SWA K L I) (hp : 0 ≤ p ∧ p ≤ e) (hq : 0 ≤ q ∧ q ≤ e) (hn : I 288 (ix 3) = w n) (hn2 : 0 ≤ n ∧ n ≤ 10) :
    (n = 10 → ev PR (d + 6) 240 [.ref 287, .int (w q)] (((vn, vc, vw, K, L, R), ps I p (-1) 0, J) : HS) = some (.inl none, (((vn, vc, vw, K, L, R), ps I p q 0, J) : HS))) ∧
    (n ≠ 10 → ∀ f, pBlk T e p = .error f → ∃ a, ev PR (d + 6) 240 [.ref 287, .int (w q)] (((vn, vc, vw, K, L, R), ps I p (-1) 0, J) : HS) = some (.inl none, (((vn, vc, vw, K, L, R), ps I a f 0, J) : HS)) ∧ (0 ≤ f ∧ f ≤ 400) ∧ 0 ≤ a ∧ a ≤ 400) ∧
    (n ≠ 10 → ∀ r, pBlk T e p = .ok r → ev PR (d + 6) 240 [.ref 287, .int (w q)] (((vn, vc, vw, K, L, R), ps I p (-1) 0, J) : HS) = some (.inl none, (((vn, vc, vw, K, L, R), rowB (ps I r.1 (-1) 0) n r, J) : HS)) ∧ (p < r.1 ∧ r.1 ≤ e) ∧ (0 ≤ r.2.1 ∧ r.2.1 ≤ 59) ∧ (0 ≤ r.2.2.1 ∧ r.2.2.1 ≤ 39) ∧ (1 ≤ r.2.2.2.1 ∧ r.2.2.2.1 ≤ 9) ∧ (0 ≤ r.2.2.2.2.1 ∧ r.2.2.2.2.1 ≤ 999)) := by
  have t2 := hT.2.1
  by_cases h10 : n = 10
  · refine ⟨fun _ => ?_, fun h => (h h10).elim, fun h => (h h10).elim⟩
    rw [eq_240]
    simp (disch := first | assumption | omega | (simp (disch := omega) only [vM_u, vS_u]; first | assumption | omega)) only [hK, hL, hR, hI, hN, sI, hSp, hC, hW, li, lr, ↓cnd_a, ↓cnd_o, ↓cnd_n, ↓cnd_d, ↓z0, ↓z1, ↓z2, y0n, y1i, y2r, y0e, y1e, y2e, wl_0, wl_1, wl_2, wl_3, wl_4, wl_5, wl_6, wl_7, wl_8, wl_9, wl_10, wl_11, wl_12, wl_13, wl_14, wl_15, wl_16, wl_17, wl_18, wl_19, wl_20, wl_21, wl_22, wl_23, wl_24, wl_25, wl_26, wl_27, wl_28, wl_29, wl_30, wl_31, wl_32, wl_33, wl_34, wl_35, wl_36, wl_37, wl_38, wl_39, wl_40, wl_41, wl_42, wl_43, wl_44, wl_45, wl_46, wl_47, wl_48, wl_49, wl_50, wl_51, wl_52, wl_53, wl_54, wl_55, wl_56, wl_57, wl_58, wl_59, wl_60, wl_61, wl_62, wl_63, wl_64, wl_65, wl_66, wl_67, wl_68, wl_69, wl_70, wl_71, wl_72, wl_73, wl_74, wl_75, wl_76, wl_77, wl_78, wl_79, wl_80, wl_81, wl_82, wl_83, wl_84, wl_85, wl_86, wl_87, wl_88, wl_89, wl_90, wl_91, wl_92, wl_93, wl_94, wl_95, wl_96, wl_97, wl_98, wl_99, wl_100, wl_101, wl_102, wl_103, wl_104, wl_105, wl_106, wl_107, wl_108, wl_109, wl_110, wl_111, wl_112, wl_113, wl_114, wl_115, wl_116, wl_117, wl_118, wl_119, wl_120, wl_121, wl_122, wl_123, wl_124, wl_125, wl_126, wl_127, wl_128, wl_129, wl_130, wl_159, wl_160, wl_200, wl_232, wl_255, wl_256, wl_300, wl_359, wl_360, wl_400, wl_592, wl_992, wl_999, wl_1000, wl_1024, wl_3456, wl_6512, wl_7104, wl_10000, wl_11264, wl_12345, wl_32767, wl_1000000000, wl_1103515245, wl_2000000000, w_add, w_sub, w_mul, w_neg, w_lt, w_le, w_eq, w_cl, w_in, w_nat, w_max2, w_min2, w_abs2, iltT, iltF, ileT, ileF, ieqT, ieqF, bv_01, bft, bv_0, bv_1, bv_t, bv_f, cond_true, cond_false, Bool.not_true, Bool.not_false, if_true, if_false, true_or, or_true, true_and, and_true, ↓reduceIte, decide_true, decide_false, reduceCtorEq, u2_s, u2_o, u2_k, u2_u2, Bool.true_or, Bool.or_true, Bool.false_or, Bool.or_false, Bool.and_true, Bool.true_and, Bool.and_false, Bool.false_and, eq_self, not_true_eq_false, not_false_eq_true, and_self, and_true, true_and, false_and, and_false, w_dv, dvm, MSH_e hM, ps_o, hn, h10, sp_236 hM]
    rw [eq_240_9]
    simp (disch := first | assumption | omega | (simp (disch := omega) only [vM_u, vS_u]; first | assumption | omega)) only [hK, hL, hR, hI, hN, sI, hSp, hC, hW, li, lr, ↓cnd_a, ↓cnd_o, ↓cnd_n, ↓cnd_d, ↓z0, ↓z1, ↓z2, y0n, y1i, y2r, y0e, y1e, y2e, wl_0, wl_1, wl_2, wl_3, wl_4, wl_5, wl_6, wl_7, wl_8, wl_9, wl_10, wl_11, wl_12, wl_13, wl_14, wl_15, wl_16, wl_17, wl_18, wl_19, wl_20, wl_21, wl_22, wl_23, wl_24, wl_25, wl_26, wl_27, wl_28, wl_29, wl_30, wl_31, wl_32, wl_33, wl_34, wl_35, wl_36, wl_37, wl_38, wl_39, wl_40, wl_41, wl_42, wl_43, wl_44, wl_45, wl_46, wl_47, wl_48, wl_49, wl_50, wl_51, wl_52, wl_53, wl_54, wl_55, wl_56, wl_57, wl_58, wl_59, wl_60, wl_61, wl_62, wl_63, wl_64, wl_65, wl_66, wl_67, wl_68, wl_69, wl_70, wl_71, wl_72, wl_73, wl_74, wl_75, wl_76, wl_77, wl_78, wl_79, wl_80, wl_81, wl_82, wl_83, wl_84, wl_85, wl_86, wl_87, wl_88, wl_89, wl_90, wl_91, wl_92, wl_93, wl_94, wl_95, wl_96, wl_97, wl_98, wl_99, wl_100, wl_101, wl_102, wl_103, wl_104, wl_105, wl_106, wl_107, wl_108, wl_109, wl_110, wl_111, wl_112, wl_113, wl_114, wl_115, wl_116, wl_117, wl_118, wl_119, wl_120, wl_121, wl_122, wl_123, wl_124, wl_125, wl_126, wl_127, wl_128, wl_129, wl_130, wl_159, wl_160, wl_200, wl_232, wl_255, wl_256, wl_300, wl_359, wl_360, wl_400, wl_592, wl_992, wl_999, wl_1000, wl_1024, wl_3456, wl_6512, wl_7104, wl_10000, wl_11264, wl_12345, wl_32767, wl_1000000000, wl_1103515245, wl_2000000000, w_add, w_sub, w_mul, w_neg, w_lt, w_le, w_eq, w_cl, w_in, w_nat, w_max2, w_min2, w_abs2, iltT, iltF, ileT, ileF, ieqT, ieqF, bv_01, bft, bv_0, bv_1, bv_t, bv_f, cond_true, cond_false, Bool.not_true, Bool.not_false, if_true, if_false, true_or, or_true, true_and, and_true, ↓reduceIte, decide_true, decide_false, reduceCtorEq, u2_s, u2_o, u2_k, u2_u2, Bool.true_or, Bool.or_true, Bool.false_or, Bool.or_false, Bool.and_true, Bool.true_and, Bool.and_false, Bool.false_and, eq_self, not_true_eq_false, not_false_eq_true, and_self, and_true, true_and, false_and, and_false, w_dv, dvm, MSH_e hM, e_239 hM, e_237 hM, ps_12]
    rw [eq_240_46]
    simp (disch := first | assumption | omega | (simp (disch := omega) only [vM_u, vS_u]; first | assumption | omega)) only [hK, hL, hR, hI, hN, sI, hSp, hC, hW, li, lr, ↓cnd_a, ↓cnd_o, ↓cnd_n, ↓cnd_d, ↓z0, ↓z1, ↓z2, y0n, y1i, y2r, y0e, y1e, y2e, wl_0, wl_1, wl_2, wl_3, wl_4, wl_5, wl_6, wl_7, wl_8, wl_9, wl_10, wl_11, wl_12, wl_13, wl_14, wl_15, wl_16, wl_17, wl_18, wl_19, wl_20, wl_21, wl_22, wl_23, wl_24, wl_25, wl_26, wl_27, wl_28, wl_29, wl_30, wl_31, wl_32, wl_33, wl_34, wl_35, wl_36, wl_37, wl_38, wl_39, wl_40, wl_41, wl_42, wl_43, wl_44, wl_45, wl_46, wl_47, wl_48, wl_49, wl_50, wl_51, wl_52, wl_53, wl_54, wl_55, wl_56, wl_57, wl_58, wl_59, wl_60, wl_61, wl_62, wl_63, wl_64, wl_65, wl_66, wl_67, wl_68, wl_69, wl_70, wl_71, wl_72, wl_73, wl_74, wl_75, wl_76, wl_77, wl_78, wl_79, wl_80, wl_81, wl_82, wl_83, wl_84, wl_85, wl_86, wl_87, wl_88, wl_89, wl_90, wl_91, wl_92, wl_93, wl_94, wl_95, wl_96, wl_97, wl_98, wl_99, wl_100, wl_101, wl_102, wl_103, wl_104, wl_105, wl_106, wl_107, wl_108, wl_109, wl_110, wl_111, wl_112, wl_113, wl_114, wl_115, wl_116, wl_117, wl_118, wl_119, wl_120, wl_121, wl_122, wl_123, wl_124, wl_125, wl_126, wl_127, wl_128, wl_129, wl_130, wl_159, wl_160, wl_200, wl_232, wl_255, wl_256, wl_300, wl_359, wl_360, wl_400, wl_592, wl_992, wl_999, wl_1000, wl_1024, wl_3456, wl_6512, wl_7104, wl_10000, wl_11264, wl_12345, wl_32767, wl_1000000000, wl_1103515245, wl_2000000000, w_add, w_sub, w_mul, w_neg, w_lt, w_le, w_eq, w_cl, w_in, w_nat, w_max2, w_min2, w_abs2, iltT, iltF, ileT, ileF, ieqT, ieqF, bv_01, bft, bv_0, bv_1, bv_t, bv_f, cond_true, cond_false, Bool.not_true, Bool.not_false, if_true, if_false, true_or, or_true, true_and, and_true, ↓reduceIte, decide_true, decide_false, reduceCtorEq, u2_s, u2_o, u2_k, u2_u2, Bool.true_or, Bool.or_true, Bool.false_or, Bool.or_false, Bool.and_true, Bool.true_and, Bool.and_false, Bool.false_and, eq_self, not_true_eq_false, not_false_eq_true, and_self, and_true, true_and, false_and, and_false, w_dv, dvm, MSH_e hM, ps_12]
  · have go : ev PR (d + 6) 240 [.ref 287, .int (w q)] (((vn, vc, vw, K, L, R), ps I p (-1) 0, J) : HS) = atv PR (d + 5) cd_240 9 [.ref 287, .int (w q), .retAddr 0, .retAddr 0, .retAddr 0, .retAddr 0, .retAddr 0, .retAddr 0] [] (((vn, vc, vw, K, L, R), ps I p (-1) 0, J) : HS) := by
      rw [eq_240]
      simp (disch := first | assumption | omega | (simp (disch := omega) only [vM_u, vS_u]; first | assumption | omega)) only [hK, hL, hR, hI, hN, sI, hSp, hC, hW, li, lr, ↓cnd_a, ↓cnd_o, ↓cnd_n, ↓cnd_d, ↓z0, ↓z1, ↓z2, y0n, y1i, y2r, y0e, y1e, y2e, wl_0, wl_1, wl_2, wl_3, wl_4, wl_5, wl_6, wl_7, wl_8, wl_9, wl_10, wl_11, wl_12, wl_13, wl_14, wl_15, wl_16, wl_17, wl_18, wl_19, wl_20, wl_21, wl_22, wl_23, wl_24, wl_25, wl_26, wl_27, wl_28, wl_29, wl_30, wl_31, wl_32, wl_33, wl_34, wl_35, wl_36, wl_37, wl_38, wl_39, wl_40, wl_41, wl_42, wl_43, wl_44, wl_45, wl_46, wl_47, wl_48, wl_49, wl_50, wl_51, wl_52, wl_53, wl_54, wl_55, wl_56, wl_57, wl_58, wl_59, wl_60, wl_61, wl_62, wl_63, wl_64, wl_65, wl_66, wl_67, wl_68, wl_69, wl_70, wl_71, wl_72, wl_73, wl_74, wl_75, wl_76, wl_77, wl_78, wl_79, wl_80, wl_81, wl_82, wl_83, wl_84, wl_85, wl_86, wl_87, wl_88, wl_89, wl_90, wl_91, wl_92, wl_93, wl_94, wl_95, wl_96, wl_97, wl_98, wl_99, wl_100, wl_101, wl_102, wl_103, wl_104, wl_105, wl_106, wl_107, wl_108, wl_109, wl_110, wl_111, wl_112, wl_113, wl_114, wl_115, wl_116, wl_117, wl_118, wl_119, wl_120, wl_121, wl_122, wl_123, wl_124, wl_125, wl_126, wl_127, wl_128, wl_129, wl_130, wl_159, wl_160, wl_200, wl_232, wl_255, wl_256, wl_300, wl_359, wl_360, wl_400, wl_592, wl_992, wl_999, wl_1000, wl_1024, wl_3456, wl_6512, wl_7104, wl_10000, wl_11264, wl_12345, wl_32767, wl_1000000000, wl_1103515245, wl_2000000000, w_add, w_sub, w_mul, w_neg, w_lt, w_le, w_eq, w_cl, w_in, w_nat, w_max2, w_min2, w_abs2, iltT, iltF, ileT, ileF, ieqT, ieqF, bv_01, bft, bv_0, bv_1, bv_t, bv_f, cond_true, cond_false, Bool.not_true, Bool.not_false, if_true, if_false, true_or, or_true, true_and, and_true, ↓reduceIte, decide_true, decide_false, reduceCtorEq, u2_s, u2_o, u2_k, u2_u2, Bool.true_or, Bool.or_true, Bool.false_or, Bool.or_false, Bool.and_true, Bool.true_and, Bool.and_false, Bool.false_and, eq_self, not_true_eq_false, not_false_eq_true, and_self, and_true, true_and, false_and, and_false, w_dv, dvm, MSH_e hM, ps_o, hn, h10]
    refine ⟨fun h => (h10 h).elim, fun _ => ?_, fun _ => ?_⟩
    · rw [go]
      have fin : ∀ (x y s z : Int32) (a f : Int), 0 ≤ f ∧ f ≤ 400 → atv PR (d + 5) cd_240 46 [.ref 287, .int (w q), .int x, .int y, .int s, .int z, .retAddr 0, .retAddr 0] [.int (w 0)] (((vn, vc, vw, K, L, R), ps I a f 0, J) : HS) = some (.inl none, (((vn, vc, vw, K, L, R), ps I a f 0, J) : HS)) := by
        intro x y s z a f hf
        rw [eq_240_46]
        simp (disch := first | assumption | omega | (simp (disch := omega) only [vM_u, vS_u]; first | assumption | omega)) only [hK, hL, hR, hI, hN, sI, hSp, hC, hW, li, lr, ↓cnd_a, ↓cnd_o, ↓cnd_n, ↓cnd_d, ↓z0, ↓z1, ↓z2, y0n, y1i, y2r, y0e, y1e, y2e, wl_0, wl_1, wl_2, wl_3, wl_4, wl_5, wl_6, wl_7, wl_8, wl_9, wl_10, wl_11, wl_12, wl_13, wl_14, wl_15, wl_16, wl_17, wl_18, wl_19, wl_20, wl_21, wl_22, wl_23, wl_24, wl_25, wl_26, wl_27, wl_28, wl_29, wl_30, wl_31, wl_32, wl_33, wl_34, wl_35, wl_36, wl_37, wl_38, wl_39, wl_40, wl_41, wl_42, wl_43, wl_44, wl_45, wl_46, wl_47, wl_48, wl_49, wl_50, wl_51, wl_52, wl_53, wl_54, wl_55, wl_56, wl_57, wl_58, wl_59, wl_60, wl_61, wl_62, wl_63, wl_64, wl_65, wl_66, wl_67, wl_68, wl_69, wl_70, wl_71, wl_72, wl_73, wl_74, wl_75, wl_76, wl_77, wl_78, wl_79, wl_80, wl_81, wl_82, wl_83, wl_84, wl_85, wl_86, wl_87, wl_88, wl_89, wl_90, wl_91, wl_92, wl_93, wl_94, wl_95, wl_96, wl_97, wl_98, wl_99, wl_100, wl_101, wl_102, wl_103, wl_104, wl_105, wl_106, wl_107, wl_108, wl_109, wl_110, wl_111, wl_112, wl_113, wl_114, wl_115, wl_116, wl_117, wl_118, wl_119, wl_120, wl_121, wl_122, wl_123, wl_124, wl_125, wl_126, wl_127, wl_128, wl_129, wl_130, wl_159, wl_160, wl_200, wl_232, wl_255, wl_256, wl_300, wl_359, wl_360, wl_400, wl_592, wl_992, wl_999, wl_1000, wl_1024, wl_3456, wl_6512, wl_7104, wl_10000, wl_11264, wl_12345, wl_32767, wl_1000000000, wl_1103515245, wl_2000000000, w_add, w_sub, w_mul, w_neg, w_lt, w_le, w_eq, w_cl, w_in, w_nat, w_max2, w_min2, w_abs2, iltT, iltF, ileT, ileF, ieqT, ieqF, bv_01, bft, bv_0, bv_1, bv_t, bv_f, cond_true, cond_false, Bool.not_true, Bool.not_false, if_true, if_false, true_or, or_true, true_and, and_true, ↓reduceIte, decide_true, decide_false, reduceCtorEq, u2_s, u2_o, u2_k, u2_u2, Bool.true_or, Bool.or_true, Bool.false_or, Bool.or_false, Bool.and_true, Bool.true_and, Bool.and_false, Bool.false_and, eq_self, not_true_eq_false, not_false_eq_true, and_self, and_true, true_and, false_and, and_false, w_dv, dvm, MSH_e hM, ps_12]
      intro f h
      unfold pBlk at h
      have g1 := f_239 (d := d + 1) (lo := 0) (hi := 59) (vn := vn) (vc := vc) (vw := vw) (J := J) hM hT hp (by omega)
      cases h1 : pFig T e 0 59 p with
      | error f1 =>
        rw [h1] at h
        injection h with h
        subst h
        obtain ⟨v, a, k1, k2, k3, _⟩ := g1.1 f1 h1
        refine ⟨a, ?_, k2, k3⟩
        rw [eq_240_9]
        simp (disch := first | assumption | omega | (simp (disch := omega) only [vM_u, vS_u]; first | assumption | omega)) only [hK, hL, hR, hI, hN, sI, hSp, hC, hW, li, lr, ↓cnd_a, ↓cnd_o, ↓cnd_n, ↓cnd_d, ↓z0, ↓z1, ↓z2, y0n, y1i, y2r, y0e, y1e, y2e, wl_0, wl_1, wl_2, wl_3, wl_4, wl_5, wl_6, wl_7, wl_8, wl_9, wl_10, wl_11, wl_12, wl_13, wl_14, wl_15, wl_16, wl_17, wl_18, wl_19, wl_20, wl_21, wl_22, wl_23, wl_24, wl_25, wl_26, wl_27, wl_28, wl_29, wl_30, wl_31, wl_32, wl_33, wl_34, wl_35, wl_36, wl_37, wl_38, wl_39, wl_40, wl_41, wl_42, wl_43, wl_44, wl_45, wl_46, wl_47, wl_48, wl_49, wl_50, wl_51, wl_52, wl_53, wl_54, wl_55, wl_56, wl_57, wl_58, wl_59, wl_60, wl_61, wl_62, wl_63, wl_64, wl_65, wl_66, wl_67, wl_68, wl_69, wl_70, wl_71, wl_72, wl_73, wl_74, wl_75, wl_76, wl_77, wl_78, wl_79, wl_80, wl_81, wl_82, wl_83, wl_84, wl_85, wl_86, wl_87, wl_88, wl_89, wl_90, wl_91, wl_92, wl_93, wl_94, wl_95, wl_96, wl_97, wl_98, wl_99, wl_100, wl_101, wl_102, wl_103, wl_104, wl_105, wl_106, wl_107, wl_108, wl_109, wl_110, wl_111, wl_112, wl_113, wl_114, wl_115, wl_116, wl_117, wl_118, wl_119, wl_120, wl_121, wl_122, wl_123, wl_124, wl_125, wl_126, wl_127, wl_128, wl_129, wl_130, wl_159, wl_160, wl_200, wl_232, wl_255, wl_256, wl_300, wl_359, wl_360, wl_400, wl_592, wl_992, wl_999, wl_1000, wl_1024, wl_3456, wl_6512, wl_7104, wl_10000, wl_11264, wl_12345, wl_32767, wl_1000000000, wl_1103515245, wl_2000000000, w_add, w_sub, w_mul, w_neg, w_lt, w_le, w_eq, w_cl, w_in, w_nat, w_max2, w_min2, w_abs2, iltT, iltF, ileT, ileF, ieqT, ieqF, bv_01, bft, bv_0, bv_1, bv_t, bv_f, cond_true, cond_false, Bool.not_true, Bool.not_false, if_true, if_false, true_or, or_true, true_and, and_true, ↓reduceIte, decide_true, decide_false, reduceCtorEq, u2_s, u2_o, u2_k, u2_u2, Bool.true_or, Bool.or_true, Bool.false_or, Bool.or_false, Bool.and_true, Bool.true_and, Bool.and_false, Bool.false_and, eq_self, not_true_eq_false, not_false_eq_true, and_self, and_true, true_and, false_and, and_false, w_dv, dvm, MSH_e hM, k1, e_239 hM, e_237 hM, ps_12, fin]
      | ok a1 =>
        rw [h1] at h
        dsimp only at h
        obtain ⟨k1, l1, _⟩ := g1.2 a1 h1
        have g2 := f_239 (d := d + 1) (p := a1.1) (lo := 0) (hi := 39) (vn := vn) (vc := vc) (vw := vw) (J := J) hM hT (by omega) (by omega)
        cases h2 : pFig T e 0 39 a1.1 with
        | error f1 =>
          rw [h2] at h
          injection h with h
          subst h
          obtain ⟨v, a, k2, j2, j3, _⟩ := g2.1 f1 h2
          refine ⟨a, ?_, j2, j3⟩
          rw [eq_240_9]
          simp (disch := first | assumption | omega | (simp (disch := omega) only [vM_u, vS_u]; first | assumption | omega)) only [hK, hL, hR, hI, hN, sI, hSp, hC, hW, li, lr, ↓cnd_a, ↓cnd_o, ↓cnd_n, ↓cnd_d, ↓z0, ↓z1, ↓z2, y0n, y1i, y2r, y0e, y1e, y2e, wl_0, wl_1, wl_2, wl_3, wl_4, wl_5, wl_6, wl_7, wl_8, wl_9, wl_10, wl_11, wl_12, wl_13, wl_14, wl_15, wl_16, wl_17, wl_18, wl_19, wl_20, wl_21, wl_22, wl_23, wl_24, wl_25, wl_26, wl_27, wl_28, wl_29, wl_30, wl_31, wl_32, wl_33, wl_34, wl_35, wl_36, wl_37, wl_38, wl_39, wl_40, wl_41, wl_42, wl_43, wl_44, wl_45, wl_46, wl_47, wl_48, wl_49, wl_50, wl_51, wl_52, wl_53, wl_54, wl_55, wl_56, wl_57, wl_58, wl_59, wl_60, wl_61, wl_62, wl_63, wl_64, wl_65, wl_66, wl_67, wl_68, wl_69, wl_70, wl_71, wl_72, wl_73, wl_74, wl_75, wl_76, wl_77, wl_78, wl_79, wl_80, wl_81, wl_82, wl_83, wl_84, wl_85, wl_86, wl_87, wl_88, wl_89, wl_90, wl_91, wl_92, wl_93, wl_94, wl_95, wl_96, wl_97, wl_98, wl_99, wl_100, wl_101, wl_102, wl_103, wl_104, wl_105, wl_106, wl_107, wl_108, wl_109, wl_110, wl_111, wl_112, wl_113, wl_114, wl_115, wl_116, wl_117, wl_118, wl_119, wl_120, wl_121, wl_122, wl_123, wl_124, wl_125, wl_126, wl_127, wl_128, wl_129, wl_130, wl_159, wl_160, wl_200, wl_232, wl_255, wl_256, wl_300, wl_359, wl_360, wl_400, wl_592, wl_992, wl_999, wl_1000, wl_1024, wl_3456, wl_6512, wl_7104, wl_10000, wl_11264, wl_12345, wl_32767, wl_1000000000, wl_1103515245, wl_2000000000, w_add, w_sub, w_mul, w_neg, w_lt, w_le, w_eq, w_cl, w_in, w_nat, w_max2, w_min2, w_abs2, iltT, iltF, ileT, ileF, ieqT, ieqF, bv_01, bft, bv_0, bv_1, bv_t, bv_f, cond_true, cond_false, Bool.not_true, Bool.not_false, if_true, if_false, true_or, or_true, true_and, and_true, ↓reduceIte, decide_true, decide_false, reduceCtorEq, u2_s, u2_o, u2_k, u2_u2, Bool.true_or, Bool.or_true, Bool.false_or, Bool.or_false, Bool.and_true, Bool.true_and, Bool.and_false, Bool.false_and, eq_self, not_true_eq_false, not_false_eq_true, and_self, and_true, true_and, false_and, and_false, w_dv, dvm, MSH_e hM, k1, k2, e_239 hM, e_237 hM, ps_12, fin]
        | ok a2 =>
          rw [h2] at h
          dsimp only at h
          obtain ⟨k2, l2, _⟩ := g2.2 a2 h2
          have g3 := m_237 (d := d + 1) (p := a2.1) (r := 69) (ws := W_side) (vn := vn) (vc := vc) (vw := vw) (J := J) hM hT hA (by omega) rfl (by decide) (by decide) (by decide) (by decide)
          have z3 := sk_0 (T := T) (e := e) (p := a2.1) (by omega)
          cases h3 : pMust T e W_side a2.1 with
          | error f1 =>
            rw [h3] at h
            injection h with h
            subst h
            obtain ⟨c1, c2⟩ := pMust_e h3
            rw [c1] at g3
            refine ⟨sk T e a2.1, ?_, by omega, by omega⟩
            rw [eq_240_9]
            simp (disch := first | assumption | omega | (simp (disch := omega) only [vM_u, vS_u]; first | assumption | omega)) only [hK, hL, hR, hI, hN, sI, hSp, hC, hW, li, lr, ↓cnd_a, ↓cnd_o, ↓cnd_n, ↓cnd_d, ↓z0, ↓z1, ↓z2, y0n, y1i, y2r, y0e, y1e, y2e, wl_0, wl_1, wl_2, wl_3, wl_4, wl_5, wl_6, wl_7, wl_8, wl_9, wl_10, wl_11, wl_12, wl_13, wl_14, wl_15, wl_16, wl_17, wl_18, wl_19, wl_20, wl_21, wl_22, wl_23, wl_24, wl_25, wl_26, wl_27, wl_28, wl_29, wl_30, wl_31, wl_32, wl_33, wl_34, wl_35, wl_36, wl_37, wl_38, wl_39, wl_40, wl_41, wl_42, wl_43, wl_44, wl_45, wl_46, wl_47, wl_48, wl_49, wl_50, wl_51, wl_52, wl_53, wl_54, wl_55, wl_56, wl_57, wl_58, wl_59, wl_60, wl_61, wl_62, wl_63, wl_64, wl_65, wl_66, wl_67, wl_68, wl_69, wl_70, wl_71, wl_72, wl_73, wl_74, wl_75, wl_76, wl_77, wl_78, wl_79, wl_80, wl_81, wl_82, wl_83, wl_84, wl_85, wl_86, wl_87, wl_88, wl_89, wl_90, wl_91, wl_92, wl_93, wl_94, wl_95, wl_96, wl_97, wl_98, wl_99, wl_100, wl_101, wl_102, wl_103, wl_104, wl_105, wl_106, wl_107, wl_108, wl_109, wl_110, wl_111, wl_112, wl_113, wl_114, wl_115, wl_116, wl_117, wl_118, wl_119, wl_120, wl_121, wl_122, wl_123, wl_124, wl_125, wl_126, wl_127, wl_128, wl_129, wl_130, wl_159, wl_160, wl_200, wl_232, wl_255, wl_256, wl_300, wl_359, wl_360, wl_400, wl_592, wl_992, wl_999, wl_1000, wl_1024, wl_3456, wl_6512, wl_7104, wl_10000, wl_11264, wl_12345, wl_32767, wl_1000000000, wl_1103515245, wl_2000000000, w_add, w_sub, w_mul, w_neg, w_lt, w_le, w_eq, w_cl, w_in, w_nat, w_max2, w_min2, w_abs2, iltT, iltF, ileT, ileF, ieqT, ieqF, bv_01, bft, bv_0, bv_1, bv_t, bv_f, cond_true, cond_false, Bool.not_true, Bool.not_false, if_true, if_false, true_or, or_true, true_and, and_true, ↓reduceIte, decide_true, decide_false, reduceCtorEq, u2_s, u2_o, u2_k, u2_u2, Bool.true_or, Bool.or_true, Bool.false_or, Bool.or_false, Bool.and_true, Bool.true_and, Bool.and_false, Bool.false_and, eq_self, not_true_eq_false, not_false_eq_true, and_self, and_true, true_and, false_and, and_false, w_dv, dvm, MSH_e hM, k1, k2, g3, c2, e_239 hM, e_237 hM, ps_12, fin]
          | ok a3 =>
            rw [h3] at h
            dsimp only at h
            obtain ⟨c1, c2, c3, c4⟩ := pMust_r (by decide) h3
            rw [c1] at g3
            simp only [cond_true] at g3
            rw [← c2] at g3
            have g4 := f_239 (d := d + 1) (p := a3) (lo := 1) (hi := 9) (vn := vn) (vc := vc) (vw := vw) (J := J) hM hT (by omega) (by omega)
            cases h4 : pFig T e 1 9 a3 with
            | error f1 =>
              rw [h4] at h
              injection h with h
              subst h
              obtain ⟨v, a, k4, j2, j3, _⟩ := g4.1 f1 h4
              refine ⟨a, ?_, j2, j3⟩
              rw [eq_240_9]
              simp (disch := first | assumption | omega | (simp (disch := omega) only [vM_u, vS_u]; first | assumption | omega)) only [hK, hL, hR, hI, hN, sI, hSp, hC, hW, li, lr, ↓cnd_a, ↓cnd_o, ↓cnd_n, ↓cnd_d, ↓z0, ↓z1, ↓z2, y0n, y1i, y2r, y0e, y1e, y2e, wl_0, wl_1, wl_2, wl_3, wl_4, wl_5, wl_6, wl_7, wl_8, wl_9, wl_10, wl_11, wl_12, wl_13, wl_14, wl_15, wl_16, wl_17, wl_18, wl_19, wl_20, wl_21, wl_22, wl_23, wl_24, wl_25, wl_26, wl_27, wl_28, wl_29, wl_30, wl_31, wl_32, wl_33, wl_34, wl_35, wl_36, wl_37, wl_38, wl_39, wl_40, wl_41, wl_42, wl_43, wl_44, wl_45, wl_46, wl_47, wl_48, wl_49, wl_50, wl_51, wl_52, wl_53, wl_54, wl_55, wl_56, wl_57, wl_58, wl_59, wl_60, wl_61, wl_62, wl_63, wl_64, wl_65, wl_66, wl_67, wl_68, wl_69, wl_70, wl_71, wl_72, wl_73, wl_74, wl_75, wl_76, wl_77, wl_78, wl_79, wl_80, wl_81, wl_82, wl_83, wl_84, wl_85, wl_86, wl_87, wl_88, wl_89, wl_90, wl_91, wl_92, wl_93, wl_94, wl_95, wl_96, wl_97, wl_98, wl_99, wl_100, wl_101, wl_102, wl_103, wl_104, wl_105, wl_106, wl_107, wl_108, wl_109, wl_110, wl_111, wl_112, wl_113, wl_114, wl_115, wl_116, wl_117, wl_118, wl_119, wl_120, wl_121, wl_122, wl_123, wl_124, wl_125, wl_126, wl_127, wl_128, wl_129, wl_130, wl_159, wl_160, wl_200, wl_232, wl_255, wl_256, wl_300, wl_359, wl_360, wl_400, wl_592, wl_992, wl_999, wl_1000, wl_1024, wl_3456, wl_6512, wl_7104, wl_10000, wl_11264, wl_12345, wl_32767, wl_1000000000, wl_1103515245, wl_2000000000, w_add, w_sub, w_mul, w_neg, w_lt, w_le, w_eq, w_cl, w_in, w_nat, w_max2, w_min2, w_abs2, iltT, iltF, ileT, ileF, ieqT, ieqF, bv_01, bft, bv_0, bv_1, bv_t, bv_f, cond_true, cond_false, Bool.not_true, Bool.not_false, if_true, if_false, true_or, or_true, true_and, and_true, ↓reduceIte, decide_true, decide_false, reduceCtorEq, u2_s, u2_o, u2_k, u2_u2, Bool.true_or, Bool.or_true, Bool.false_or, Bool.or_false, Bool.and_true, Bool.true_and, Bool.and_false, Bool.false_and, eq_self, not_true_eq_false, not_false_eq_true, and_self, and_true, true_and, false_and, and_false, w_dv, dvm, MSH_e hM, k1, k2, g3, k4, e_239 hM, e_237 hM, ps_12, fin]
            | ok a4 =>
              rw [h4] at h
              dsimp only at h
              obtain ⟨k4, l4, _⟩ := g4.2 a4 h4
              have g5 := m_237 (d := d + 1) (p := a4.1) (r := 70) (ws := W_prize) (vn := vn) (vc := vc) (vw := vw) (J := J) hM hT hA (by omega) rfl (by decide) (by decide) (by decide) (by decide)
              have z5 := sk_0 (T := T) (e := e) (p := a4.1) (by omega)
              cases h5 : pMust T e W_prize a4.1 with
              | error f1 =>
                rw [h5] at h
                injection h with h
                subst h
                obtain ⟨c5, c6⟩ := pMust_e h5
                rw [c5] at g5
                refine ⟨sk T e a4.1, ?_, by omega, by omega⟩
                rw [eq_240_9]
                simp (disch := first | assumption | omega | (simp (disch := omega) only [vM_u, vS_u]; first | assumption | omega)) only [hK, hL, hR, hI, hN, sI, hSp, hC, hW, li, lr, ↓cnd_a, ↓cnd_o, ↓cnd_n, ↓cnd_d, ↓z0, ↓z1, ↓z2, y0n, y1i, y2r, y0e, y1e, y2e, wl_0, wl_1, wl_2, wl_3, wl_4, wl_5, wl_6, wl_7, wl_8, wl_9, wl_10, wl_11, wl_12, wl_13, wl_14, wl_15, wl_16, wl_17, wl_18, wl_19, wl_20, wl_21, wl_22, wl_23, wl_24, wl_25, wl_26, wl_27, wl_28, wl_29, wl_30, wl_31, wl_32, wl_33, wl_34, wl_35, wl_36, wl_37, wl_38, wl_39, wl_40, wl_41, wl_42, wl_43, wl_44, wl_45, wl_46, wl_47, wl_48, wl_49, wl_50, wl_51, wl_52, wl_53, wl_54, wl_55, wl_56, wl_57, wl_58, wl_59, wl_60, wl_61, wl_62, wl_63, wl_64, wl_65, wl_66, wl_67, wl_68, wl_69, wl_70, wl_71, wl_72, wl_73, wl_74, wl_75, wl_76, wl_77, wl_78, wl_79, wl_80, wl_81, wl_82, wl_83, wl_84, wl_85, wl_86, wl_87, wl_88, wl_89, wl_90, wl_91, wl_92, wl_93, wl_94, wl_95, wl_96, wl_97, wl_98, wl_99, wl_100, wl_101, wl_102, wl_103, wl_104, wl_105, wl_106, wl_107, wl_108, wl_109, wl_110, wl_111, wl_112, wl_113, wl_114, wl_115, wl_116, wl_117, wl_118, wl_119, wl_120, wl_121, wl_122, wl_123, wl_124, wl_125, wl_126, wl_127, wl_128, wl_129, wl_130, wl_159, wl_160, wl_200, wl_232, wl_255, wl_256, wl_300, wl_359, wl_360, wl_400, wl_592, wl_992, wl_999, wl_1000, wl_1024, wl_3456, wl_6512, wl_7104, wl_10000, wl_11264, wl_12345, wl_32767, wl_1000000000, wl_1103515245, wl_2000000000, w_add, w_sub, w_mul, w_neg, w_lt, w_le, w_eq, w_cl, w_in, w_nat, w_max2, w_min2, w_abs2, iltT, iltF, ileT, ileF, ieqT, ieqF, bv_01, bft, bv_0, bv_1, bv_t, bv_f, cond_true, cond_false, Bool.not_true, Bool.not_false, if_true, if_false, true_or, or_true, true_and, and_true, ↓reduceIte, decide_true, decide_false, reduceCtorEq, u2_s, u2_o, u2_k, u2_u2, Bool.true_or, Bool.or_true, Bool.false_or, Bool.or_false, Bool.and_true, Bool.true_and, Bool.and_false, Bool.false_and, eq_self, not_true_eq_false, not_false_eq_true, and_self, and_true, true_and, false_and, and_false, w_dv, dvm, MSH_e hM, k1, k2, g3, k4, g5, c6, e_239 hM, e_237 hM, ps_12, fin]
              | ok a5 =>
                rw [h5] at h
                dsimp only at h
                obtain ⟨c5, c6, c7, c8⟩ := pMust_r (by decide) h5
                rw [c5] at g5
                simp only [cond_true] at g5
                rw [← c6] at g5
                have g6 := f_239 (d := d + 1) (p := a5) (lo := 0) (hi := 999) (vn := vn) (vc := vc) (vw := vw) (J := J) hM hT (by omega) (by omega)
                cases h6 : pFig T e 0 999 a5 with
                | error f1 =>
                  rw [h6] at h
                  injection h with h
                  subst h
                  obtain ⟨v, a, k6, j2, j3, _⟩ := g6.1 f1 h6
                  refine ⟨a, ?_, j2, j3⟩
                  rw [eq_240_9]
                  simp (disch := first | assumption | omega | (simp (disch := omega) only [vM_u, vS_u]; first | assumption | omega)) only [hK, hL, hR, hI, hN, sI, hSp, hC, hW, li, lr, ↓cnd_a, ↓cnd_o, ↓cnd_n, ↓cnd_d, ↓z0, ↓z1, ↓z2, y0n, y1i, y2r, y0e, y1e, y2e, wl_0, wl_1, wl_2, wl_3, wl_4, wl_5, wl_6, wl_7, wl_8, wl_9, wl_10, wl_11, wl_12, wl_13, wl_14, wl_15, wl_16, wl_17, wl_18, wl_19, wl_20, wl_21, wl_22, wl_23, wl_24, wl_25, wl_26, wl_27, wl_28, wl_29, wl_30, wl_31, wl_32, wl_33, wl_34, wl_35, wl_36, wl_37, wl_38, wl_39, wl_40, wl_41, wl_42, wl_43, wl_44, wl_45, wl_46, wl_47, wl_48, wl_49, wl_50, wl_51, wl_52, wl_53, wl_54, wl_55, wl_56, wl_57, wl_58, wl_59, wl_60, wl_61, wl_62, wl_63, wl_64, wl_65, wl_66, wl_67, wl_68, wl_69, wl_70, wl_71, wl_72, wl_73, wl_74, wl_75, wl_76, wl_77, wl_78, wl_79, wl_80, wl_81, wl_82, wl_83, wl_84, wl_85, wl_86, wl_87, wl_88, wl_89, wl_90, wl_91, wl_92, wl_93, wl_94, wl_95, wl_96, wl_97, wl_98, wl_99, wl_100, wl_101, wl_102, wl_103, wl_104, wl_105, wl_106, wl_107, wl_108, wl_109, wl_110, wl_111, wl_112, wl_113, wl_114, wl_115, wl_116, wl_117, wl_118, wl_119, wl_120, wl_121, wl_122, wl_123, wl_124, wl_125, wl_126, wl_127, wl_128, wl_129, wl_130, wl_159, wl_160, wl_200, wl_232, wl_255, wl_256, wl_300, wl_359, wl_360, wl_400, wl_592, wl_992, wl_999, wl_1000, wl_1024, wl_3456, wl_6512, wl_7104, wl_10000, wl_11264, wl_12345, wl_32767, wl_1000000000, wl_1103515245, wl_2000000000, w_add, w_sub, w_mul, w_neg, w_lt, w_le, w_eq, w_cl, w_in, w_nat, w_max2, w_min2, w_abs2, iltT, iltF, ileT, ileF, ieqT, ieqF, bv_01, bft, bv_0, bv_1, bv_t, bv_f, cond_true, cond_false, Bool.not_true, Bool.not_false, if_true, if_false, true_or, or_true, true_and, and_true, ↓reduceIte, decide_true, decide_false, reduceCtorEq, u2_s, u2_o, u2_k, u2_u2, Bool.true_or, Bool.or_true, Bool.false_or, Bool.or_false, Bool.and_true, Bool.true_and, Bool.and_false, Bool.false_and, eq_self, not_true_eq_false, not_false_eq_true, and_self, and_true, true_and, false_and, and_false, w_dv, dvm, MSH_e hM, k1, k2, g3, k4, g5, k6, e_239 hM, e_237 hM, ps_12, fin]
                | ok a6 =>
                  rw [h6] at h
                  exact nomatch h
    · rw [go]
      intro r h
      unfold pBlk at h
      have g1 := f_239 (d := d + 1) (lo := 0) (hi := 59) (vn := vn) (vc := vc) (vw := vw) (J := J) hM hT hp (by omega)
      cases h1 : pFig T e 0 59 p with
      | error f1 => rw [h1] at h; exact nomatch h
      | ok a1 =>
      rw [h1] at h
      dsimp only at h
      obtain ⟨k1, l1, l1'⟩ := g1.2 a1 h1
      have g2 := f_239 (d := d + 1) (p := a1.1) (lo := 0) (hi := 39) (vn := vn) (vc := vc) (vw := vw) (J := J) hM hT (by omega) (by omega)
      cases h2 : pFig T e 0 39 a1.1 with
      | error f1 => rw [h2] at h; exact nomatch h
      | ok a2 =>
      rw [h2] at h
      dsimp only at h
      obtain ⟨k2, l2, l2'⟩ := g2.2 a2 h2
      have g3 := m_237 (d := d + 1) (p := a2.1) (r := 69) (ws := W_side) (vn := vn) (vc := vc) (vw := vw) (J := J) hM hT hA (by omega) rfl (by decide) (by decide) (by decide) (by decide)
      cases h3 : pMust T e W_side a2.1 with
      | error f1 => rw [h3] at h; exact nomatch h
      | ok a3 =>
      rw [h3] at h
      dsimp only at h
      obtain ⟨c1, c2, c3, c4⟩ := pMust_r (by decide) h3
      rw [c1] at g3
      simp only [cond_true] at g3
      rw [← c2] at g3
      have g4 := f_239 (d := d + 1) (p := a3) (lo := 1) (hi := 9) (vn := vn) (vc := vc) (vw := vw) (J := J) hM hT (by omega) (by omega)
      cases h4 : pFig T e 1 9 a3 with
      | error f1 => rw [h4] at h; exact nomatch h
      | ok a4 =>
      rw [h4] at h
      dsimp only at h
      obtain ⟨k4, l4, l4'⟩ := g4.2 a4 h4
      have g5 := m_237 (d := d + 1) (p := a4.1) (r := 70) (ws := W_prize) (vn := vn) (vc := vc) (vw := vw) (J := J) hM hT hA (by omega) rfl (by decide) (by decide) (by decide) (by decide)
      cases h5 : pMust T e W_prize a4.1 with
      | error f1 => rw [h5] at h; exact nomatch h
      | ok a5 =>
      rw [h5] at h
      dsimp only at h
      obtain ⟨c5, c6, c7, c8⟩ := pMust_r (by decide) h5
      rw [c5] at g5
      simp only [cond_true] at g5
      rw [← c6] at g5
      have g6 := f_239 (d := d + 1) (p := a5) (lo := 0) (hi := 999) (vn := vn) (vc := vc) (vw := vw) (J := J) hM hT (by omega) (by omega)
      cases h6 : pFig T e 0 999 a5 with
      | error f1 => rw [h6] at h; exact nomatch h
      | ok a6 =>
      rw [h6] at h
      injection h with h
      subst h
      obtain ⟨k6, l6, l6'⟩ := g6.2 a6 h6
      have z6 := sk_r T e a6.1
      have w7 := sp_w71 (d := d + 2) (p := a6.1) (fl := -1) (dp := 0) (vn := vn) (vc := vc) (vw := vw) (J := J) hM hT hA (by omega)
      have n1 : ix 3 ≠ ix (20 + 5 * n + 0) := by unfold ix; omega
      have n2 : ix 3 ≠ ix (20 + 5 * n + 1) := by unfold ix; omega
      have n3 : ix 3 ≠ ix (20 + 5 * n + 2) := by unfold ix; omega
      have n4 : ix 3 ≠ ix (20 + 5 * n + 3) := by unfold ix; omega
      have n5 : ix 3 ≠ ix (20 + 5 * n + 4) := by unfold ix; omega
      dsimp only
      cases c7 : hasB T e (sk T e a6.1) W_velvet with
      | true =>
        rw [c7] at w7
        have hl := has_lt c7 (by decide)
        refine ⟨?_, by rw [if_pos rfl]; omega, by omega, by omega, by omega, by omega⟩
        rw [eq_240_9]
        simp (disch := first | assumption | omega | (simp (disch := omega) only [vM_u, vS_u]; first | assumption | omega)) only [hK, hL, hR, hI, hN, sI, hSp, hC, hW, li, lr, ↓cnd_a, ↓cnd_o, ↓cnd_n, ↓cnd_d, ↓z0, ↓z1, ↓z2, y0n, y1i, y2r, y0e, y1e, y2e, wl_0, wl_1, wl_2, wl_3, wl_4, wl_5, wl_6, wl_7, wl_8, wl_9, wl_10, wl_11, wl_12, wl_13, wl_14, wl_15, wl_16, wl_17, wl_18, wl_19, wl_20, wl_21, wl_22, wl_23, wl_24, wl_25, wl_26, wl_27, wl_28, wl_29, wl_30, wl_31, wl_32, wl_33, wl_34, wl_35, wl_36, wl_37, wl_38, wl_39, wl_40, wl_41, wl_42, wl_43, wl_44, wl_45, wl_46, wl_47, wl_48, wl_49, wl_50, wl_51, wl_52, wl_53, wl_54, wl_55, wl_56, wl_57, wl_58, wl_59, wl_60, wl_61, wl_62, wl_63, wl_64, wl_65, wl_66, wl_67, wl_68, wl_69, wl_70, wl_71, wl_72, wl_73, wl_74, wl_75, wl_76, wl_77, wl_78, wl_79, wl_80, wl_81, wl_82, wl_83, wl_84, wl_85, wl_86, wl_87, wl_88, wl_89, wl_90, wl_91, wl_92, wl_93, wl_94, wl_95, wl_96, wl_97, wl_98, wl_99, wl_100, wl_101, wl_102, wl_103, wl_104, wl_105, wl_106, wl_107, wl_108, wl_109, wl_110, wl_111, wl_112, wl_113, wl_114, wl_115, wl_116, wl_117, wl_118, wl_119, wl_120, wl_121, wl_122, wl_123, wl_124, wl_125, wl_126, wl_127, wl_128, wl_129, wl_130, wl_159, wl_160, wl_200, wl_232, wl_255, wl_256, wl_300, wl_359, wl_360, wl_400, wl_592, wl_992, wl_999, wl_1000, wl_1024, wl_3456, wl_6512, wl_7104, wl_10000, wl_11264, wl_12345, wl_32767, wl_1000000000, wl_1103515245, wl_2000000000, w_add, w_sub, w_mul, w_neg, w_lt, w_le, w_eq, w_cl, w_in, w_nat, w_max2, w_min2, w_abs2, iltT, iltF, ileT, ileF, ieqT, ieqF, bv_01, bft, bv_0, bv_1, bv_t, bv_f, cond_true, cond_false, Bool.not_true, Bool.not_false, if_true, if_false, true_or, or_true, true_and, and_true, ↓reduceIte, decide_true, decide_false, reduceCtorEq, u2_s, u2_o, u2_k, u2_u2, Bool.true_or, Bool.or_true, Bool.false_or, Bool.or_false, Bool.and_true, Bool.true_and, Bool.and_false, Bool.false_and, eq_self, not_true_eq_false, not_false_eq_true, and_self, and_true, true_and, false_and, and_false, w_dv, dvm, MSH_e hM, k1, k2, g3, k4, g5, k6, ps_12, w7]
        rw [eq_240_46]
        simp (disch := first | assumption | omega | (simp (disch := omega) only [vM_u, vS_u]; first | assumption | omega)) only [hK, hL, hR, hI, hN, sI, hSp, hC, hW, li, lr, ↓cnd_a, ↓cnd_o, ↓cnd_n, ↓cnd_d, ↓z0, ↓z1, ↓z2, y0n, y1i, y2r, y0e, y1e, y2e, wl_0, wl_1, wl_2, wl_3, wl_4, wl_5, wl_6, wl_7, wl_8, wl_9, wl_10, wl_11, wl_12, wl_13, wl_14, wl_15, wl_16, wl_17, wl_18, wl_19, wl_20, wl_21, wl_22, wl_23, wl_24, wl_25, wl_26, wl_27, wl_28, wl_29, wl_30, wl_31, wl_32, wl_33, wl_34, wl_35, wl_36, wl_37, wl_38, wl_39, wl_40, wl_41, wl_42, wl_43, wl_44, wl_45, wl_46, wl_47, wl_48, wl_49, wl_50, wl_51, wl_52, wl_53, wl_54, wl_55, wl_56, wl_57, wl_58, wl_59, wl_60, wl_61, wl_62, wl_63, wl_64, wl_65, wl_66, wl_67, wl_68, wl_69, wl_70, wl_71, wl_72, wl_73, wl_74, wl_75, wl_76, wl_77, wl_78, wl_79, wl_80, wl_81, wl_82, wl_83, wl_84, wl_85, wl_86, wl_87, wl_88, wl_89, wl_90, wl_91, wl_92, wl_93, wl_94, wl_95, wl_96, wl_97, wl_98, wl_99, wl_100, wl_101, wl_102, wl_103, wl_104, wl_105, wl_106, wl_107, wl_108, wl_109, wl_110, wl_111, wl_112, wl_113, wl_114, wl_115, wl_116, wl_117, wl_118, wl_119, wl_120, wl_121, wl_122, wl_123, wl_124, wl_125, wl_126, wl_127, wl_128, wl_129, wl_130, wl_159, wl_160, wl_200, wl_232, wl_255, wl_256, wl_300, wl_359, wl_360, wl_400, wl_592, wl_992, wl_999, wl_1000, wl_1024, wl_3456, wl_6512, wl_7104, wl_10000, wl_11264, wl_12345, wl_32767, wl_1000000000, wl_1103515245, wl_2000000000, w_add, w_sub, w_mul, w_neg, w_lt, w_le, w_eq, w_cl, w_in, w_nat, w_max2, w_min2, w_abs2, iltT, iltF, ileT, ileF, ieqT, ieqF, bv_01, bft, bv_0, bv_1, bv_t, bv_f, cond_true, cond_false, Bool.not_true, Bool.not_false, if_true, if_false, true_or, or_true, true_and, and_true, ↓reduceIte, decide_true, decide_false, reduceCtorEq, u2_s, u2_o, u2_k, u2_u2, Bool.true_or, Bool.or_true, Bool.false_or, Bool.or_false, Bool.and_true, Bool.true_and, Bool.and_false, Bool.false_and, eq_self, not_true_eq_false, not_false_eq_true, and_self, and_true, true_and, false_and, and_false, w_dv, dvm, MSH_e hM, ps_12, ps_o, hn]
        rfl
      | false =>
        rw [c7] at w7
        refine ⟨?_, by rw [if_neg (by simp)]; omega, by omega, by omega, by omega, by omega⟩
        rw [eq_240_9]
        simp (disch := first | assumption | omega | (simp (disch := omega) only [vM_u, vS_u]; first | assumption | omega)) only [hK, hL, hR, hI, hN, sI, hSp, hC, hW, li, lr, ↓cnd_a, ↓cnd_o, ↓cnd_n, ↓cnd_d, ↓z0, ↓z1, ↓z2, y0n, y1i, y2r, y0e, y1e, y2e, wl_0, wl_1, wl_2, wl_3, wl_4, wl_5, wl_6, wl_7, wl_8, wl_9, wl_10, wl_11, wl_12, wl_13, wl_14, wl_15, wl_16, wl_17, wl_18, wl_19, wl_20, wl_21, wl_22, wl_23, wl_24, wl_25, wl_26, wl_27, wl_28, wl_29, wl_30, wl_31, wl_32, wl_33, wl_34, wl_35, wl_36, wl_37, wl_38, wl_39, wl_40, wl_41, wl_42, wl_43, wl_44, wl_45, wl_46, wl_47, wl_48, wl_49, wl_50, wl_51, wl_52, wl_53, wl_54, wl_55, wl_56, wl_57, wl_58, wl_59, wl_60, wl_61, wl_62, wl_63, wl_64, wl_65, wl_66, wl_67, wl_68, wl_69, wl_70, wl_71, wl_72, wl_73, wl_74, wl_75, wl_76, wl_77, wl_78, wl_79, wl_80, wl_81, wl_82, wl_83, wl_84, wl_85, wl_86, wl_87, wl_88, wl_89, wl_90, wl_91, wl_92, wl_93, wl_94, wl_95, wl_96, wl_97, wl_98, wl_99, wl_100, wl_101, wl_102, wl_103, wl_104, wl_105, wl_106, wl_107, wl_108, wl_109, wl_110, wl_111, wl_112, wl_113, wl_114, wl_115, wl_116, wl_117, wl_118, wl_119, wl_120, wl_121, wl_122, wl_123, wl_124, wl_125, wl_126, wl_127, wl_128, wl_129, wl_130, wl_159, wl_160, wl_200, wl_232, wl_255, wl_256, wl_300, wl_359, wl_360, wl_400, wl_592, wl_992, wl_999, wl_1000, wl_1024, wl_3456, wl_6512, wl_7104, wl_10000, wl_11264, wl_12345, wl_32767, wl_1000000000, wl_1103515245, wl_2000000000, w_add, w_sub, w_mul, w_neg, w_lt, w_le, w_eq, w_cl, w_in, w_nat, w_max2, w_min2, w_abs2, iltT, iltF, ileT, ileF, ieqT, ieqF, bv_01, bft, bv_0, bv_1, bv_t, bv_f, cond_true, cond_false, Bool.not_true, Bool.not_false, if_true, if_false, true_or, or_true, true_and, and_true, ↓reduceIte, decide_true, decide_false, reduceCtorEq, u2_s, u2_o, u2_k, u2_u2, Bool.true_or, Bool.or_true, Bool.false_or, Bool.or_false, Bool.and_true, Bool.true_and, Bool.and_false, Bool.false_and, eq_self, not_true_eq_false, not_false_eq_true, and_self, and_true, true_and, false_and, and_false, w_dv, dvm, MSH_e hM, k1, k2, g3, k4, g5, k6, ps_12, w7]
        rw [eq_240_46]
        simp (disch := first | assumption | omega | (simp (disch := omega) only [vM_u, vS_u]; first | assumption | omega)) only [hK, hL, hR, hI, hN, sI, hSp, hC, hW, li, lr, ↓cnd_a, ↓cnd_o, ↓cnd_n, ↓cnd_d, ↓z0, ↓z1, ↓z2, y0n, y1i, y2r, y0e, y1e, y2e, wl_0, wl_1, wl_2, wl_3, wl_4, wl_5, wl_6, wl_7, wl_8, wl_9, wl_10, wl_11, wl_12, wl_13, wl_14, wl_15, wl_16, wl_17, wl_18, wl_19, wl_20, wl_21, wl_22, wl_23, wl_24, wl_25, wl_26, wl_27, wl_28, wl_29, wl_30, wl_31, wl_32, wl_33, wl_34, wl_35, wl_36, wl_37, wl_38, wl_39, wl_40, wl_41, wl_42, wl_43, wl_44, wl_45, wl_46, wl_47, wl_48, wl_49, wl_50, wl_51, wl_52, wl_53, wl_54, wl_55, wl_56, wl_57, wl_58, wl_59, wl_60, wl_61, wl_62, wl_63, wl_64, wl_65, wl_66, wl_67, wl_68, wl_69, wl_70, wl_71, wl_72, wl_73, wl_74, wl_75, wl_76, wl_77, wl_78, wl_79, wl_80, wl_81, wl_82, wl_83, wl_84, wl_85, wl_86, wl_87, wl_88, wl_89, wl_90, wl_91, wl_92, wl_93, wl_94, wl_95, wl_96, wl_97, wl_98, wl_99, wl_100, wl_101, wl_102, wl_103, wl_104, wl_105, wl_106, wl_107, wl_108, wl_109, wl_110, wl_111, wl_112, wl_113, wl_114, wl_115, wl_116, wl_117, wl_118, wl_119, wl_120, wl_121, wl_122, wl_123, wl_124, wl_125, wl_126, wl_127, wl_128, wl_129, wl_130, wl_159, wl_160, wl_200, wl_232, wl_255, wl_256, wl_300, wl_359, wl_360, wl_400, wl_592, wl_992, wl_999, wl_1000, wl_1024, wl_3456, wl_6512, wl_7104, wl_10000, wl_11264, wl_12345, wl_32767, wl_1000000000, wl_1103515245, wl_2000000000, w_add, w_sub, w_mul, w_neg, w_lt, w_le, w_eq, w_cl, w_in, w_nat, w_max2, w_min2, w_abs2, iltT, iltF, ileT, ileF, ieqT, ieqF, bv_01, bft, bv_0, bv_1, bv_t, bv_f, cond_true, cond_false, Bool.not_true, Bool.not_false, if_true, if_false, true_or, or_true, true_and, and_true, ↓reduceIte, decide_true, decide_false, reduceCtorEq, u2_s, u2_o, u2_k, u2_u2, Bool.true_or, Bool.or_true, Bool.false_or, Bool.or_false, Bool.and_true, Bool.true_and, Bool.and_false, Bool.false_and, eq_self, not_true_eq_false, not_false_eq_true, and_self, and_true, true_and, false_and, and_false, w_dv, dvm, MSH_e hM, ps_12, ps_o, hn]
        rfl
end FAB
