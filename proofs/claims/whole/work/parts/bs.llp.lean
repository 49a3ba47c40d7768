/-! the law's loop -/
section LLP
variable {S : Nat → Int32} {ls : Nat}
theorem INV_S {N : Int} {s : HS} (z : INV S ls N s) : INV S ls (N + 1) s := by
  obtain ⟨vn, vc, vw, K, L, R, I, J, g, mk, nx, rfl, xg, xc, xm, xs⟩ := z
  exact ⟨vn, vc, vw, K, L, R, I, J, g, mk, nx, rfl, IVg_mono (by omega) xg, IVc_mono (by omega) xc, xm, IVs_mono xs ⟨rfl, by omega, by omega⟩ (fun _ => rfl)⟩
def Gd (S : Nat → Int32) (ls : Nat) (N i : Int) (D : Nat) (r : Option Res) : Prop := ∃ s' w5' w6', INV S ls (N + 1) s' ∧ r = atv PR D cd_374 2214 [.ref 78, .ref 79, .ref 287, .ref 304, .int (w i), w5', w6'] [] s'
theorem Gd_c {N i : Int} {D : Nat} {b : Bool} {x y : Option Res} (h : Gd S ls N i D x) (g : Gd S ls N i D y) : Gd S ls N i D (cond b x y) := by
  cases b
  · exact g
  · exact h
theorem Gd_r {N i : Int} {D : Nat} {s : HS} {w5 w6 : Value} (z : INV S ls (N + 1) s) : Gd S ls N i D (atv PR D cd_374 2214 [.ref 78, .ref 79, .ref 287, .ref 304, .int (w i), w5, w6] [] s) := ⟨s, w5, w6, z, rfl⟩
theorem lw_disp {d : Nat} {N i : Int} {s : HS} {w5 w6 : Value} (z : INV S ls N s) (hN : 0 ≤ N ∧ N ≤ 1000) (hi : (0 ≤ i ∧ i + 7 ≤ ls) ∧ ls ≤ 100000) : Gd S ls N i (d + 40) (atv PR (d + 40) cd_374 13 [.ref 78, .ref 79, .ref 287, .ref 304, .int (w i), w5, w6] [] s) := by
  obtain ⟨a1, a2, a3, a4, a5, a6, a7⟩ := Mid_of z
  have q1 : decide (hK s 78 = 25) = true := decide_eq_true a1
  have q2 : decide (((Int32.ofNat (hL s 78)) - 7 : Int32) < w i) = false := by
    simp (disch := first | assumption | omega | (simp (disch := omega) only [vM_u, vS_u]; first | assumption | omega)) only [hK, hL, hR, hI, hN, sI, hSp, hC, hW, li, lr, ↓cnd_a, ↓cnd_o, ↓cnd_n, ↓cnd_d, ↓z0, ↓z1, ↓z2, y0n, y1i, y2r, y0e, y1e, y2e, wl_0, wl_1, wl_2, wl_3, wl_4, wl_5, wl_6, wl_7, wl_8, wl_9, wl_10, wl_11, wl_12, wl_13, wl_14, wl_15, wl_16, wl_17, wl_18, wl_19, wl_20, wl_21, wl_22, wl_23, wl_24, wl_25, wl_26, wl_27, wl_28, wl_29, wl_30, wl_31, wl_32, wl_33, wl_34, wl_35, wl_36, wl_37, wl_38, wl_39, wl_40, wl_41, wl_42, wl_43, wl_44, wl_45, wl_46, wl_47, wl_48, wl_49, wl_50, wl_51, wl_52, wl_53, wl_54, wl_55, wl_56, wl_57, wl_58, wl_59, wl_60, wl_61, wl_62, wl_63, wl_64, wl_65, wl_66, wl_67, wl_68, wl_69, wl_70, wl_71, wl_72, wl_73, wl_74, wl_75, wl_76, wl_77, wl_78, wl_79, wl_80, wl_81, wl_82, wl_83, wl_84, wl_85, wl_86, wl_87, wl_88, wl_89, wl_90, wl_91, wl_92, wl_93, wl_94, wl_95, wl_96, wl_97, wl_98, wl_99, wl_100, wl_101, wl_102, wl_103, wl_104, wl_105, wl_106, wl_107, wl_108, wl_109, wl_110, wl_111, wl_112, wl_113, wl_114, wl_115, wl_116, wl_117, wl_118, wl_119, wl_120, wl_121, wl_122, wl_123, wl_124, wl_125, wl_126, wl_127, wl_128, wl_129, wl_130, wl_159, wl_160, wl_200, wl_232, wl_255, wl_256, wl_300, wl_359, wl_360, wl_400, wl_592, wl_992, wl_999, wl_1000, wl_1024, wl_3456, wl_6512, wl_7104, wl_10000, wl_11264, wl_12345, wl_32767, wl_1000000000, wl_1103515245, wl_2000000000, w_add, w_sub, w_mul, w_neg, w_lt, w_le, w_eq, w_cl, w_in, w_nat, w_max2, w_min2, w_abs2, iltT, iltF, ileT, ileF, ieqT, ieqF, bv_01, bft, bv_0, bv_1, bv_t, bv_f, cond_true, cond_false, Bool.not_true, Bool.not_false, if_true, if_false, true_or, or_true, true_and, and_true, ↓reduceIte, decide_true, decide_false, reduceCtorEq, u2_s, u2_o, u2_k, u2_u2, Bool.true_or, Bool.or_true, Bool.false_or, Bool.or_false, Bool.and_true, Bool.true_and, Bool.and_false, Bool.false_and, eq_self, not_true_eq_false, not_false_eq_true, and_self, and_true, true_and, false_and, and_false, w_dv, dvm, a2]
  have q3 : (decide (hK s 78 = 25) && inb (w i) (hL s 78)) = true := by
    simp (disch := first | assumption | omega | (simp (disch := omega) only [vM_u, vS_u]; first | assumption | omega)) only [hK, hL, hR, hI, hN, sI, hSp, hC, hW, li, lr, ↓cnd_a, ↓cnd_o, ↓cnd_n, ↓cnd_d, ↓z0, ↓z1, ↓z2, y0n, y1i, y2r, y0e, y1e, y2e, wl_0, wl_1, wl_2, wl_3, wl_4, wl_5, wl_6, wl_7, wl_8, wl_9, wl_10, wl_11, wl_12, wl_13, wl_14, wl_15, wl_16, wl_17, wl_18, wl_19, wl_20, wl_21, wl_22, wl_23, wl_24, wl_25, wl_26, wl_27, wl_28, wl_29, wl_30, wl_31, wl_32, wl_33, wl_34, wl_35, wl_36, wl_37, wl_38, wl_39, wl_40, wl_41, wl_42, wl_43, wl_44, wl_45, wl_46, wl_47, wl_48, wl_49, wl_50, wl_51, wl_52, wl_53, wl_54, wl_55, wl_56, wl_57, wl_58, wl_59, wl_60, wl_61, wl_62, wl_63, wl_64, wl_65, wl_66, wl_67, wl_68, wl_69, wl_70, wl_71, wl_72, wl_73, wl_74, wl_75, wl_76, wl_77, wl_78, wl_79, wl_80, wl_81, wl_82, wl_83, wl_84, wl_85, wl_86, wl_87, wl_88, wl_89, wl_90, wl_91, wl_92, wl_93, wl_94, wl_95, wl_96, wl_97, wl_98, wl_99, wl_100, wl_101, wl_102, wl_103, wl_104, wl_105, wl_106, wl_107, wl_108, wl_109, wl_110, wl_111, wl_112, wl_113, wl_114, wl_115, wl_116, wl_117, wl_118, wl_119, wl_120, wl_121, wl_122, wl_123, wl_124, wl_125, wl_126, wl_127, wl_128, wl_129, wl_130, wl_159, wl_160, wl_200, wl_232, wl_255, wl_256, wl_300, wl_359, wl_360, wl_400, wl_592, wl_992, wl_999, wl_1000, wl_1024, wl_3456, wl_6512, wl_7104, wl_10000, wl_11264, wl_12345, wl_32767, wl_1000000000, wl_1103515245, wl_2000000000, w_add, w_sub, w_mul, w_neg, w_lt, w_le, w_eq, w_cl, w_in, w_nat, w_max2, w_min2, w_abs2, iltT, iltF, ileT, ileF, ieqT, ieqF, bv_01, bft, bv_0, bv_1, bv_t, bv_f, cond_true, cond_false, Bool.not_true, Bool.not_false, if_true, if_false, true_or, or_true, true_and, and_true, ↓reduceIte, decide_true, decide_false, reduceCtorEq, u2_s, u2_o, u2_k, u2_u2, Bool.true_or, Bool.or_true, Bool.false_or, Bool.or_false, Bool.and_true, Bool.true_and, Bool.and_false, Bool.false_and, eq_self, not_true_eq_false, not_false_eq_true, and_self, and_true, true_and, false_and, and_false, w_dv, dvm, a1, a2]
  rw [eq_374_13, q3, q1, cond_true, q2, cond_false, cond_true]
  exact (Gd_c (br_25 z hN hi)
        (Gd_c (br_82 z hN hi)
        (Gd_c (br_99 z hN hi)
        (Gd_c (br_124 z hN hi)
        (Gd_c (br_149 z hN hi)
        (Gd_c (br_156 z hN hi)
        (Gd_c (br_201 z hN hi)
        (Gd_c (br_246 z hN hi)
        (Gd_c (br_291 z hN hi)
        (Gd_c (br_376 z hN hi)
        (Gd_c (br_451 z hN hi)
        (Gd_c (br_458 z hN hi)
        (Gd_c (br_514 z hN hi)
        (Gd_c (br_559 z hN hi)
        (Gd_c (br_614 z hN hi)
        (Gd_c (br_659 z hN hi)
        (Gd_c (br_727 z hN hi)
        (Gd_c (br_772 z hN hi)
        (Gd_c (br_817 z hN hi)
        (Gd_c (br_882 z hN hi)
        (Gd_c (br_967 z hN hi)
        (Gd_c (br_1042 z hN hi)
        (Gd_c (br_1117 z hN hi)
        (Gd_c (br_1172 z hN hi)
        (Gd_c (br_1227 z hN hi)
        (Gd_c (br_1282 z hN hi)
        (Gd_c (br_1337 z hN hi)
        (Gd_c (br_1402 z hN hi)
        (Gd_c (br_1467 z hN hi)
        (Gd_c (br_1552 z hN hi)
        (Gd_c (br_1645 z hN hi)
        (Gd_c (br_1710 z hN hi)
        (Gd_c (br_1753 z hN hi)
        (Gd_c (br_1760 z hN hi)
        (Gd_c (br_1815 z hN hi)
        (Gd_c (br_1860 z hN hi)
        (Gd_c (br_1935 z hN hi)
        (Gd_c (br_2028 z hN hi)
        (Gd_c (br_2063 z hN hi)
        (Gd_c (br_2116 z hN hi)
        (Gd_c (br_2161 z hN hi)
        (Gd_c (br_2178 z hN hi)
        (Gd_c (br_2185 z hN hi)
        (Gd_c (br_2190 z hN hi)
        (Gd_c (br_2197 z hN hi)
        (Gd_r (INV_S z)))))))))))))))))))))))))))))))))))))))))))))))
theorem lw_end {d : Nat} {N i : Int} {s : HS} {w5 w6 : Value} (z : INV S ls N s) (hi : (0 ≤ i ∧ i ≤ 200000 ∧ (ls : Int) < i + 7) ∧ ls ≤ 100000) : atv PR (d + 40) cd_374 13 [.ref 78, .ref 79, .ref 287, .ref 304, .int (w i), w5, w6] [] s = some (.inl (some (.int (w 1))), s) := by
  obtain ⟨a1, a2, a3, a4, a5, a6, a7⟩ := Mid_of z
  rw [eq_374_13]
  simp (disch := first | assumption | omega | (simp (disch := omega) only [vM_u, vS_u]; first | assumption | omega)) only [hK, hL, hR, hI, hN, sI, hSp, hC, hW, li, lr, ↓cnd_a, ↓cnd_o, ↓cnd_n, ↓cnd_d, ↓z0, ↓z1, ↓z2, y0n, y1i, y2r, y0e, y1e, y2e, wl_0, wl_1, wl_2, wl_3, wl_4, wl_5, wl_6, wl_7, wl_8, wl_9, wl_10, wl_11, wl_12, wl_13, wl_14, wl_15, wl_16, wl_17, wl_18, wl_19, wl_20, wl_21, wl_22, wl_23, wl_24, wl_25, wl_26, wl_27, wl_28, wl_29, wl_30, wl_31, wl_32, wl_33, wl_34, wl_35, wl_36, wl_37, wl_38, wl_39, wl_40, wl_41, wl_42, wl_43, wl_44, wl_45, wl_46, wl_47, wl_48, wl_49, wl_50, wl_51, wl_52, wl_53, wl_54, wl_55, wl_56, wl_57, wl_58, wl_59, wl_60, wl_61, wl_62, wl_63, wl_64, wl_65, wl_66, wl_67, wl_68, wl_69, wl_70, wl_71, wl_72, wl_73, wl_74, wl_75, wl_76, wl_77, wl_78, wl_79, wl_80, wl_81, wl_82, wl_83, wl_84, wl_85, wl_86, wl_87, wl_88, wl_89, wl_90, wl_91, wl_92, wl_93, wl_94, wl_95, wl_96, wl_97, wl_98, wl_99, wl_100, wl_101, wl_102, wl_103, wl_104, wl_105, wl_106, wl_107, wl_108, wl_109, wl_110, wl_111, wl_112, wl_113, wl_114, wl_115, wl_116, wl_117, wl_118, wl_119, wl_120, wl_121, wl_122, wl_123, wl_124, wl_125, wl_126, wl_127, wl_128, wl_129, wl_130, wl_159, wl_160, wl_200, wl_232, wl_255, wl_256, wl_300, wl_359, wl_360, wl_400, wl_592, wl_992, wl_999, wl_1000, wl_1024, wl_3456, wl_6512, wl_7104, wl_10000, wl_11264, wl_12345, wl_32767, wl_1000000000, wl_1103515245, wl_2000000000, w_add, w_sub, w_mul, w_neg, w_lt, w_le, w_eq, w_cl, w_in, w_nat, w_max2, w_min2, w_abs2, iltT, iltF, ileT, ileF, ieqT, ieqF, bv_01, bft, bv_0, bv_1, bv_t, bv_f, cond_true, cond_false, Bool.not_true, Bool.not_false, if_true, if_false, true_or, or_true, true_and, and_true, ↓reduceIte, decide_true, decide_false, reduceCtorEq, u2_s, u2_o, u2_k, u2_u2, Bool.true_or, Bool.or_true, Bool.false_or, Bool.or_false, Bool.and_true, Bool.true_and, Bool.and_false, Bool.false_and, eq_self, not_true_eq_false, not_false_eq_true, and_self, and_true, true_and, false_and, and_false, w_dv, dvm, a1, a2, a3]
/-- the whole script: both sides answer alike -/
theorem lw_loop {d : Nat} (h1 : ls ≤ 100000) : ∀ (n : Nat) (N i : Int) (s : HS) (w5 w6 : Value), INV S ls N s → 0 ≤ N → N + n ≤ 1001 → 0 ≤ i → i ≤ ls + 7 → (ls : Int) < i + 7 * n + 7 → ∃ s' N', atv PR (d + 40) cd_374 13 [.ref 78, .ref 79, .ref 287, .ref 304, .int (w i), w5, w6] [] s = some (.inl (some (.int (w 1))), s') ∧ INV S ls N' s' ∧ 0 ≤ N' ∧ N' ≤ 1001
  | 0, N, i, s, w5, w6, z, h0, hn, hi, h2, h3 => ⟨s, N, lw_end z ⟨⟨hi, by omega, by omega⟩, h1⟩, z, h0, by omega⟩
  | n + 1, N, i, s, w5, w6, z, h0, hn, hi, h2, h3 => by
    by_cases c : (ls : Int) < i + 7
    · exact ⟨s, N, lw_end z ⟨⟨hi, by omega, c⟩, h1⟩, z, h0, by omega⟩
    · obtain ⟨s1, w5', w6', z1, e⟩ := lw_disp (d := d) (w5 := w5) (w6 := w6) z ⟨h0, by omega⟩ ⟨⟨hi, by omega⟩, h1⟩
      obtain ⟨s2, N', e2, z2, z3, z4⟩ := lw_loop (d := d) h1 n (N + 1) (i + 7) s1 w5' w6' z1 (by omega) (by omega) (by omega) (by omega) (by omega)
      refine ⟨s2, N', ?_, z2, z3, z4⟩
      rw [e, eq_374_2214, ← e2]
      simp (disch := first | assumption | omega | (simp (disch := omega) only [vM_u, vS_u]; first | assumption | omega)) only [hK, hL, hR, hI, hN, sI, hSp, hC, hW, li, lr, ↓cnd_a, ↓cnd_o, ↓cnd_n, ↓cnd_d, ↓z0, ↓z1, ↓z2, y0n, y1i, y2r, y0e, y1e, y2e, wl_0, wl_1, wl_2, wl_3, wl_4, wl_5, wl_6, wl_7, wl_8, wl_9, wl_10, wl_11, wl_12, wl_13, wl_14, wl_15, wl_16, wl_17, wl_18, wl_19, wl_20, wl_21, wl_22, wl_23, wl_24, wl_25, wl_26, wl_27, wl_28, wl_29, wl_30, wl_31, wl_32, wl_33, wl_34, wl_35, wl_36, wl_37, wl_38, wl_39, wl_40, wl_41, wl_42, wl_43, wl_44, wl_45, wl_46, wl_47, wl_48, wl_49, wl_50, wl_51, wl_52, wl_53, wl_54, wl_55, wl_56, wl_57, wl_58, wl_59, wl_60, wl_61, wl_62, wl_63, wl_64, wl_65, wl_66, wl_67, wl_68, wl_69, wl_70, wl_71, wl_72, wl_73, wl_74, wl_75, wl_76, wl_77, wl_78, wl_79, wl_80, wl_81, wl_82, wl_83, wl_84, wl_85, wl_86, wl_87, wl_88, wl_89, wl_90, wl_91, wl_92, wl_93, wl_94, wl_95, wl_96, wl_97, wl_98, wl_99, wl_100, wl_101, wl_102, wl_103, wl_104, wl_105, wl_106, wl_107, wl_108, wl_109, wl_110, wl_111, wl_112, wl_113, wl_114, wl_115, wl_116, wl_117, wl_118, wl_119, wl_120, wl_121, wl_122, wl_123, wl_124, wl_125, wl_126, wl_127, wl_128, wl_129, wl_130, wl_159, wl_160, wl_200, wl_232, wl_255, wl_256, wl_300, wl_359, wl_360, wl_400, wl_592, wl_992, wl_999, wl_1000, wl_1024, wl_3456, wl_6512, wl_7104, wl_10000, wl_11264, wl_12345, wl_32767, wl_1000000000, wl_1103515245, wl_2000000000, w_add, w_sub, w_mul, w_neg, w_lt, w_le, w_eq, w_cl, w_in, w_nat, w_max2, w_min2, w_abs2, iltT, iltF, ileT, ileF, ieqT, ieqF, bv_01, bft, bv_0, bv_1, bv_t, bv_f, cond_true, cond_false, Bool.not_true, Bool.not_false, if_true, if_false, true_or, or_true, true_and, and_true, ↓reduceIte, decide_true, decide_false, reduceCtorEq, u2_s, u2_o, u2_k, u2_u2, Bool.true_or, Bool.or_true, Bool.false_or, Bool.or_false, Bool.and_true, Bool.true_and, Bool.and_false, Bool.false_and, eq_self, not_true_eq_false, not_false_eq_true, and_self, and_true, true_and, false_and, and_false, w_dv, dvm]
end LLP
