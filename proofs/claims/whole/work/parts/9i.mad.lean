/-! the class makes a law -/
section MAD
variable {vn vc vw : Nat} {K L : Nat → Nat} {R : Nat → Nat → Nat} {I : Nat → Nat → Int32} {J : Nat → Nat → Int64}
theorem u1_s {α : Type} (f : Nat → α) (o : Nat) (v : α) : u1 f o v o = v := by unfold u1; rw [if_pos rfl]
theorem u1_o {α : Type} (f : Nat → α) {o a : Nat} (v : α) (h : a ≠ o) : u1 f o v a = f a := by unfold u1; rw [if_neg h]
theorem sp_338 {d a m : Nat} (hKa : K a = 20) (hLa : L a = 400) (ha : a ≠ vn) (hm : m ≤ 400) : ∃ I' J', ev PR (d + 1) 338 [.ref a, .int (w m)] (((vn, vc, vw, K, L, R), I, J) : HS) = some (.inl (some (.ref vn)), (((vn + 1, vc + 1, vw + m, u1 K vn 20, u1 L vn m, u1 R vn (fun _ => 0)), I', J') : HS)) ∧ (∀ b k, b ≠ vn → I' b k = I b k) ∧ (∀ k, k < m → I' vn k = I a k) := by
  have ha' : ¬(a = vn) := ha
  have hm2 : (w (m : Int)).toNatClampNeg = m := by
    rw [w_cl (by omega)]
    unfold ix
    omega
  rw [eq_338]
  by_cases c : m = 400
  · subst c
    refine ⟨u1 I vn (I a), u1 J vn (fun _ => 0), ?_, fun b k hb => congrFun (u1_o _ _ hb) k, fun k hk => congrFun (u1_s _ _ _) k⟩
    simp (disch := first | assumption | omega | (simp (disch := omega) only [vM_u, vS_u]; first | assumption | omega)) only [hK, hL, hR, hI, hN, sI, hSp, hC, hW, li, lr, ↓cnd_a, ↓cnd_o, ↓cnd_n, ↓cnd_d, ↓z0, ↓z1, ↓z2, y0n, y1i, y2r, y0e, y1e, y2e, wl_0, wl_1, wl_2, wl_3, wl_4, wl_5, wl_6, wl_7, wl_8, wl_9, wl_10, wl_11, wl_12, wl_13, wl_14, wl_15, wl_16, wl_17, wl_18, wl_19, wl_20, wl_21, wl_22, wl_23, wl_24, wl_25, wl_26, wl_27, wl_28, wl_29, wl_30, wl_31, wl_32, wl_33, wl_34, wl_35, wl_36, wl_37, wl_38, wl_39, wl_40, wl_41, wl_42, wl_43, wl_44, wl_45, wl_46, wl_47, wl_48, wl_49, wl_50, wl_51, wl_52, wl_53, wl_54, wl_55, wl_56, wl_57, wl_58, wl_59, wl_60, wl_61, wl_62, wl_63, wl_64, wl_65, wl_66, wl_67, wl_68, wl_69, wl_70, wl_71, wl_72, wl_73, wl_74, wl_75, wl_76, wl_77, wl_78, wl_79, wl_80, wl_81, wl_82, wl_83, wl_84, wl_85, wl_86, wl_87, wl_88, wl_89, wl_90, wl_91, wl_92, wl_93, wl_94, wl_95, wl_96, wl_97, wl_98, wl_99, wl_100, wl_101, wl_102, wl_103, wl_104, wl_105, wl_106, wl_107, wl_108, wl_109, wl_110, wl_111, wl_112, wl_113, wl_114, wl_115, wl_116, wl_117, wl_118, wl_119, wl_120, wl_121, wl_122, wl_123, wl_124, wl_125, wl_126, wl_127, wl_128, wl_129, wl_130, wl_159, wl_160, wl_200, wl_232, wl_255, wl_256, wl_300, wl_359, wl_360, wl_400, wl_592, wl_992, wl_999, wl_1000, wl_1024, wl_3456, wl_6512, wl_7104, wl_10000, wl_11264, wl_12345, wl_32767, wl_1000000000, wl_1103515245, wl_2000000000, w_add, w_sub, w_mul, w_neg, w_lt, w_le, w_eq, w_cl, w_in, w_nat, w_max2, w_min2, w_abs2, iltT, iltF, ileT, ileF, ieqT, ieqF, bv_01, bft, bv_0, bv_1, bv_t, bv_f, cond_true, cond_false, Bool.not_true, Bool.not_false, if_true, if_false, true_or, or_true, true_and, and_true, ↓reduceIte, decide_true, decide_false, reduceCtorEq, u2_s, u2_o, u2_k, u2_u2, Bool.true_or, Bool.or_true, Bool.false_or, Bool.or_false, Bool.and_true, Bool.true_and, Bool.and_false, Bool.false_and, eq_self, not_true_eq_false, not_false_eq_true, and_self, and_true, true_and, false_and, and_false, w_dv, dvm, hKa, hLa, u1_s, w_nat]
    show some (Sum.inl (some (Value.ref vn)), (((vn + 1, vc + 1, vw + L a, u1 K vn 20, u1 L vn (L a), u1 R vn (fun _ => 0)), u1 I vn (I a), u1 J vn (fun _ => 0)) : HS)) = _
    rw [hLa]
  · refine ⟨acpy (u1 I vn (fun _ => 0)) a (ix 0) vn (ix 0) (ix (min (m : Int) 400)), u1 J vn (fun _ => 0), ?_, ?_, ?_⟩
    · have e0 : ix 0 = 0 := rfl
      have e1 : ix (m : Int) = m := by unfold ix; omega
      have e2 : min (m : Int) 400 = m := by omega
      simp (disch := first | assumption | omega | (simp (disch := omega) only [vM_u, vS_u]; first | assumption | omega)) only [hK, hL, hR, hI, hN, sI, hSp, hC, hW, li, lr, ↓cnd_a, ↓cnd_o, ↓cnd_n, ↓cnd_d, ↓z0, ↓z1, ↓z2, y0n, y1i, y2r, y0e, y1e, y2e, wl_0, wl_1, wl_2, wl_3, wl_4, wl_5, wl_6, wl_7, wl_8, wl_9, wl_10, wl_11, wl_12, wl_13, wl_14, wl_15, wl_16, wl_17, wl_18, wl_19, wl_20, wl_21, wl_22, wl_23, wl_24, wl_25, wl_26, wl_27, wl_28, wl_29, wl_30, wl_31, wl_32, wl_33, wl_34, wl_35, wl_36, wl_37, wl_38, wl_39, wl_40, wl_41, wl_42, wl_43, wl_44, wl_45, wl_46, wl_47, wl_48, wl_49, wl_50, wl_51, wl_52, wl_53, wl_54, wl_55, wl_56, wl_57, wl_58, wl_59, wl_60, wl_61, wl_62, wl_63, wl_64, wl_65, wl_66, wl_67, wl_68, wl_69, wl_70, wl_71, wl_72, wl_73, wl_74, wl_75, wl_76, wl_77, wl_78, wl_79, wl_80, wl_81, wl_82, wl_83, wl_84, wl_85, wl_86, wl_87, wl_88, wl_89, wl_90, wl_91, wl_92, wl_93, wl_94, wl_95, wl_96, wl_97, wl_98, wl_99, wl_100, wl_101, wl_102, wl_103, wl_104, wl_105, wl_106, wl_107, wl_108, wl_109, wl_110, wl_111, wl_112, wl_113, wl_114, wl_115, wl_116, wl_117, wl_118, wl_119, wl_120, wl_121, wl_122, wl_123, wl_124, wl_125, wl_126, wl_127, wl_128, wl_129, wl_130, wl_159, wl_160, wl_200, wl_232, wl_255, wl_256, wl_300, wl_359, wl_360, wl_400, wl_592, wl_992, wl_999, wl_1000, wl_1024, wl_3456, wl_6512, wl_7104, wl_10000, wl_11264, wl_12345, wl_32767, wl_1000000000, wl_1103515245, wl_2000000000, w_add, w_sub, w_mul, w_neg, w_lt, w_le, w_eq, w_cl, w_in, w_nat, w_max2, w_min2, w_abs2, iltT, iltF, ileT, ileF, ieqT, ieqF, bv_01, bft, bv_0, bv_1, bv_t, bv_f, cond_true, cond_false, Bool.not_true, Bool.not_false, if_true, if_false, true_or, or_true, true_and, and_true, ↓reduceIte, decide_true, decide_false, reduceCtorEq, u2_s, u2_o, u2_k, u2_u2, Bool.true_or, Bool.or_true, Bool.false_or, Bool.or_false, Bool.and_true, Bool.true_and, Bool.and_false, Bool.false_and, eq_self, not_true_eq_false, not_false_eq_true, and_self, and_true, true_and, false_and, and_false, w_dv, dvm, hKa, hLa, u1_s, u1_o, w_nat, ha']
      rw [e2, e1, e0, if_pos (by omega), if_pos (by omega), if_pos (by omega)]
    · intro b k hb
      unfold acpy
      rw [if_neg (fun x => hb x.1)]
      exact congrFun (u1_o _ _ hb) k
    · intro k hk
      have e0 : ix 0 = 0 := rfl
      have e1 : ix (min (m : Int) 400) = m := by unfold ix; omega
      unfold acpy
      rw [e0, e1, if_pos ⟨rfl, by omega, by omega⟩]
      show u1 I vn (fun _ => 0) a (0 + (k - 0)) = I a k
      rw [u1_o _ _ ha']
      congr 1
      omega
theorem sp_38 {d : Nat} {S : List Int} {ln : Int} (hX : XSH K L R) (gS : StpR I S) (h3 : I 88 3 = w ln) (hS : S.length ≤ 400) (hln : 0 ≤ ln ∧ ln ≤ 12) (hv : 305 ≤ vn) (hw : wfS S 0) (hc : cntL S ≤ 12) :
    ∃ K' L' R' I' J', ev PR (d + 2) 38 [.ref 88] (((vn, vc, vw, K, L, R), I, J) : HS) = some (.inl (some (.ref vn)), (((vn + 2, vc + 2, vw + 3 + S.length, K', L', R'), I', J') : HS)) ∧ (∀ a, a < vn → K' a = K a ∧ L' a = L a ∧ R' a = R a ∧ I' a = I a) ∧ ALaw K' L' R' I' vn S ln ∧ ∀ a, vn + 2 ≤ a → K' a = K a := by
  obtain ⟨g1, g2, g3⟩ := gS
  have n88 : ¬(88 = vn) := by omega
  have n89 : ¬(89 = vn) := by omega
  have hX1 := XSH_e hX
  have k88 : K 88 = 4 := by simp only [hX1]
  have k89 : R 88 1 = 89 ∧ K 89 = 20 ∧ L 89 = 400 := by refine ⟨?_, ?_, ?_⟩ <;> simp only [hX1]
  obtain ⟨Ia, Ja, k1, k2, k3⟩ := sp_338 (d := d) (vn := vn + 1) (vc := vc + 1) (vw := vw + 3) (K := u1 K vn 3) (L := u1 L vn 0) (R := u1 R vn (fun _ => 0)) (I := u1 I vn (fun _ => 0)) (J := u1 J vn (fun _ => 0)) (a := 89) (m := S.length) (by rw [u1_o _ _ n89]; exact k89.2.1) (by rw [u1_o _ _ n89]; exact k89.2.2) (by omega) hS
  have e2 : max 0 (S.length : Int) = S.length := by omega
  have k1' : ev PR (d + 1) 338 [.ref 89, .int (w S.length)] (hMk (((vn, vc, vw, K, L, R), I, J) : HS) 3 0 3) = some (.inl (some (.ref (vn + 1))), (((vn + 1 + 1, vc + 1 + 1, vw + 3 + S.length, u1 (u1 K vn 3) (vn + 1) 20, u1 (u1 L vn 0) (vn + 1) S.length, u1 (u1 R vn (fun _ => 0)) (vn + 1) (fun _ => 0)), Ia, Ja) : HS)) := k1
  have a2 : Ia 88 = I 88 := by
    funext k
    rw [k2 88 k (by omega), u1_o _ _ n88]
  have h4 : Ia 88 4 = I 88 4 := by rw [a2]
  have m1 : ¬(88 = vn + 1) := by omega
  have m2 : ¬(vn = vn + 1) := by omega
  refine ⟨u1 (u1 K vn 3) (vn + 1) 20, u1 (u1 L vn 0) (vn + 1) S.length, u2 (u1 (u1 R vn (fun _ => 0)) (vn + 1) (fun _ => 0)) vn 1 (vn + 1), u2 (u2 Ia vn 0 (w ln)) vn 2 (I 88 4), Ja, ?_, ?_, ?_, fun a ha => by rw [u1_o _ _ (by omega), u1_o _ _ (by omega)]⟩
  · rw [eq_38]
    simp (disch := first | assumption | omega | (simp (disch := omega) only [vM_u, vS_u]; first | assumption | omega)) only [hK, hL, hR, hI, hN, sI, hSp, hC, hW, li, lr, ↓cnd_a, ↓cnd_o, ↓cnd_n, ↓cnd_d, ↓z0, ↓z1, ↓z2, y0n, y1i, y2r, y0e, y1e, y2e, wl_0, wl_1, wl_2, wl_3, wl_4, wl_5, wl_6, wl_7, wl_8, wl_9, wl_10, wl_11, wl_12, wl_13, wl_14, wl_15, wl_16, wl_17, wl_18, wl_19, wl_20, wl_21, wl_22, wl_23, wl_24, wl_25, wl_26, wl_27, wl_28, wl_29, wl_30, wl_31, wl_32, wl_33, wl_34, wl_35, wl_36, wl_37, wl_38, wl_39, wl_40, wl_41, wl_42, wl_43, wl_44, wl_45, wl_46, wl_47, wl_48, wl_49, wl_50, wl_51, wl_52, wl_53, wl_54, wl_55, wl_56, wl_57, wl_58, wl_59, wl_60, wl_61, wl_62, wl_63, wl_64, wl_65, wl_66, wl_67, wl_68, wl_69, wl_70, wl_71, wl_72, wl_73, wl_74, wl_75, wl_76, wl_77, wl_78, wl_79, wl_80, wl_81, wl_82, wl_83, wl_84, wl_85, wl_86, wl_87, wl_88, wl_89, wl_90, wl_91, wl_92, wl_93, wl_94, wl_95, wl_96, wl_97, wl_98, wl_99, wl_100, wl_101, wl_102, wl_103, wl_104, wl_105, wl_106, wl_107, wl_108, wl_109, wl_110, wl_111, wl_112, wl_113, wl_114, wl_115, wl_116, wl_117, wl_118, wl_119, wl_120, wl_121, wl_122, wl_123, wl_124, wl_125, wl_126, wl_127, wl_128, wl_129, wl_130, wl_159, wl_160, wl_200, wl_232, wl_255, wl_256, wl_300, wl_359, wl_360, wl_400, wl_592, wl_992, wl_999, wl_1000, wl_1024, wl_3456, wl_6512, wl_7104, wl_10000, wl_11264, wl_12345, wl_32767, wl_1000000000, wl_1103515245, wl_2000000000, w_add, w_sub, w_mul, w_neg, w_lt, w_le, w_eq, w_cl, w_in, w_nat, w_max2, w_min2, w_abs2, iltT, iltF, ileT, ileF, ieqT, ieqF, bv_01, bft, bv_0, bv_1, bv_t, bv_f, cond_true, cond_false, Bool.not_true, Bool.not_false, if_true, if_false, true_or, or_true, true_and, and_true, ↓reduceIte, decide_true, decide_false, reduceCtorEq, u2_s, u2_o, u2_k, u2_u2, Bool.true_or, Bool.or_true, Bool.false_or, Bool.or_false, Bool.and_true, Bool.true_and, Bool.and_false, Bool.false_and, eq_self, not_true_eq_false, not_false_eq_true, and_self, and_true, true_and, false_and, and_false, w_dv, dvm, k88, k89, g1, h3, w_nat, u1_s, u1_o, e2, k1', a2]
    rw [eq_32]
    simp (disch := first | assumption | omega | (simp (disch := omega) only [vM_u, vS_u]; first | assumption | omega)) only [hK, hL, hR, hI, hN, sI, hSp, hC, hW, li, lr, ↓cnd_a, ↓cnd_o, ↓cnd_n, ↓cnd_d, ↓z0, ↓z1, ↓z2, y0n, y1i, y2r, y0e, y1e, y2e, wl_0, wl_1, wl_2, wl_3, wl_4, wl_5, wl_6, wl_7, wl_8, wl_9, wl_10, wl_11, wl_12, wl_13, wl_14, wl_15, wl_16, wl_17, wl_18, wl_19, wl_20, wl_21, wl_22, wl_23, wl_24, wl_25, wl_26, wl_27, wl_28, wl_29, wl_30, wl_31, wl_32, wl_33, wl_34, wl_35, wl_36, wl_37, wl_38, wl_39, wl_40, wl_41, wl_42, wl_43, wl_44, wl_45, wl_46, wl_47, wl_48, wl_49, wl_50, wl_51, wl_52, wl_53, wl_54, wl_55, wl_56, wl_57, wl_58, wl_59, wl_60, wl_61, wl_62, wl_63, wl_64, wl_65, wl_66, wl_67, wl_68, wl_69, wl_70, wl_71, wl_72, wl_73, wl_74, wl_75, wl_76, wl_77, wl_78, wl_79, wl_80, wl_81, wl_82, wl_83, wl_84, wl_85, wl_86, wl_87, wl_88, wl_89, wl_90, wl_91, wl_92, wl_93, wl_94, wl_95, wl_96, wl_97, wl_98, wl_99, wl_100, wl_101, wl_102, wl_103, wl_104, wl_105, wl_106, wl_107, wl_108, wl_109, wl_110, wl_111, wl_112, wl_113, wl_114, wl_115, wl_116, wl_117, wl_118, wl_119, wl_120, wl_121, wl_122, wl_123, wl_124, wl_125, wl_126, wl_127, wl_128, wl_129, wl_130, wl_159, wl_160, wl_200, wl_232, wl_255, wl_256, wl_300, wl_359, wl_360, wl_400, wl_592, wl_992, wl_999, wl_1000, wl_1024, wl_3456, wl_6512, wl_7104, wl_10000, wl_11264, wl_12345, wl_32767, wl_1000000000, wl_1103515245, wl_2000000000, w_add, w_sub, w_mul, w_neg, w_lt, w_le, w_eq, w_cl, w_in, w_nat, w_max2, w_min2, w_abs2, iltT, iltF, ileT, ileF, ieqT, ieqF, bv_01, bft, bv_0, bv_1, bv_t, bv_f, cond_true, cond_false, Bool.not_true, Bool.not_false, if_true, if_false, true_or, or_true, true_and, and_true, ↓reduceIte, decide_true, decide_false, reduceCtorEq, u2_s, u2_o, u2_k, u2_u2, Bool.true_or, Bool.or_true, Bool.false_or, Bool.or_false, Bool.and_true, Bool.true_and, Bool.and_false, Bool.false_and, eq_self, not_true_eq_false, not_false_eq_true, and_self, and_true, true_and, false_and, and_false, w_dv, dvm, u1_s, u1_o, m2, n88]
    rw [if_neg (by decide)]
    rfl
  · intro a ha
    have q1 : ¬(a = vn) := by omega
    have q2 : ¬(a = vn + 1) := by omega
    refine ⟨?_, ?_, ?_, ?_⟩
    · rw [u1_o _ _ q2, u1_o _ _ q1]
    · rw [u1_o _ _ q2, u1_o _ _ q1]
    · funext k
      rw [u2_r, if_neg (by omega), u1_o _ _ q2, u1_o _ _ q1]
    · funext k
      rw [u2_r, if_neg (by omega), u2_r, if_neg (by omega), k2 a k q2, u1_o _ _ q1]
  · have r1 : u2 (u1 (u1 R vn (fun _ => 0)) (vn + 1) (fun _ => 0)) vn 1 (vn + 1) vn 1 = vn + 1 := u2_s _ _ _ _
    refine ⟨⟨?_, ?_, ?_⟩, ⟨Or.inr hv, ?_⟩, ⟨hS, ?_, by omega, by omega⟩, ?_, ?_, hw, hc⟩
    · rw [u1_o _ _ m2, u1_s]
    · rw [r1, u1_s]
    · rw [r1, u1_s]
    · rw [r1]; omega
    · rw [u2_r, if_neg (by omega), u2_s]
    · intro k hk
      rw [r1, u2_r, if_neg (by omega), u2_r, if_neg (by omega), k3 k hk, u1_o _ _ n89]
      exact g2 k hk
    · intro s hs h1
      rw [u2_s]
      exact (g3 s hs h1).2
end MAD
