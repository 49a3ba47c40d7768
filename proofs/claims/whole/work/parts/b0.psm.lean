/-! the past of the reference -/
def actI (I : Nat → Nat → Int32) (i : Int) : Nat → Nat → Int32 := fun a k => if a = 288 then I 291 (592 * i.toNat + k) else I a k
def PM (I : Nat → Nat → Int32) (n : Int) (P : Int → Int → Int) : Prop :=
  (I 287 6 = w n ∧ 0 ≤ n ∧ n ≤ 12) ∧ ∀ j, 0 ≤ j → j < n → vM (actI I (n - 1 - j)) = P j ∧ mI (actI I (n - 1 - j)) 12 = allT (P j) ∧ actI I (n - 1 - j) 288 1 = I 288 1 ∧ actI I (n - 1 - j) 288 2 = I 288 2
theorem PM_f {I I' : Nat → Nat → Int32} {n : Int} {P : Int → Int → Int} (h : (∀ k, I' 291 k = I 291 k) ∧ I' 288 1 = I 288 1 ∧ I' 288 2 = I 288 2 ∧ I' 287 6 = I 287 6) (g : PM I n P) : PM I' n P := by
  obtain ⟨h1, h2, h3, h4⟩ := h
  obtain ⟨g1, g2⟩ := g
  refine ⟨by rw [h4]; exact g1, fun j a b => ?_⟩
  obtain ⟨y1, y2, y3, y4⟩ := g2 j a b
  have e : ∀ k, actI I' (n - 1 - j) 288 k = actI I (n - 1 - j) 288 k := fun k => by
    show I' 291 _ = I 291 _
    exact h1 _
  refine ⟨by rw [vM_f e]; exact y1, ?_, by rw [e, h2]; exact y3, by rw [e, h3]; exact y4⟩
  rw [← y2]
  unfold mI
  rw [e]
section PSM
variable {vn vc vw : Nat} {K L : Nat → Nat} {R : Nat → Nat → Nat} {I : Nat → Nat → Int32} {J : Nat → Nat → Int64}
theorem lp_277 {d : Nat} {n : Int} (hM : MSH K L R) (hn : 0 ≤ n ∧ n < 12) : ∀ (i : Nat) (k : Int) (I1 : Nat → Nat → Int32), 0 ≤ k → k + i = 592 → I1 287 6 = w n → (∀ a k, a ≠ 291 → I1 a k = I a k) → (∀ j, 0 ≤ j → j < k → I1 291 (ix (592 * n + j)) = I 288 (ix j)) → (∀ j : Nat, (j : Int) < 592 * n → I1 291 j = I 291 j) →
    ∃ I', atv PR d cd_277 29 [.ref 287, .int (w k)] [] (((vn, vc, vw, K, L, R), I1, J) : HS) = some (.inl none, (((vn, vc, vw, K, L, R), u2 I' 287 6 (w (n + 1)), J) : HS)) ∧ (∀ a k, a ≠ 291 → I' a k = I a k) ∧ (∀ j, 0 ≤ j → j < 592 → I' 291 (ix (592 * n + j)) = I 288 (ix j)) ∧ (∀ j : Nat, (j : Int) < 592 * n → I' 291 j = I 291 j) := by
  intro i
  induction i with
  | zero =>
    intro k I1 h0 hk h6 hf hc hl
    have ek : k = 592 := by omega
    subst ek
    refine ⟨I1, ?_, hf, hc, hl⟩
    rw [eq_277_29]
    simp (disch := first | assumption | omega | (simp (disch := omega) only [vM_u, vS_u]; first | assumption | omega)) only [hK, hL, hR, hI, hN, sI, hSp, hC, hW, li, lr, ↓cnd_a, ↓cnd_o, ↓cnd_n, ↓cnd_d, ↓z0, ↓z1, ↓z2, y0n, y1i, y2r, y0e, y1e, y2e, wl_0, wl_1, wl_2, wl_3, wl_4, wl_5, wl_6, wl_7, wl_8, wl_9, wl_10, wl_11, wl_12, wl_13, wl_14, wl_15, wl_16, wl_17, wl_18, wl_19, wl_20, wl_21, wl_22, wl_23, wl_24, wl_25, wl_26, wl_27, wl_28, wl_29, wl_30, wl_31, wl_32, wl_33, wl_34, wl_35, wl_36, wl_37, wl_38, wl_39, wl_40, wl_41, wl_42, wl_43, wl_44, wl_45, wl_46, wl_47, wl_48, wl_49, wl_50, wl_51, wl_52, wl_53, wl_54, wl_55, wl_56, wl_57, wl_58, wl_59, wl_60, wl_61, wl_62, wl_63, wl_64, wl_65, wl_66, wl_67, wl_68, wl_69, wl_70, wl_71, wl_72, wl_73, wl_74, wl_75, wl_76, wl_77, wl_78, wl_79, wl_80, wl_81, wl_82, wl_83, wl_84, wl_85, wl_86, wl_87, wl_88, wl_89, wl_90, wl_91, wl_92, wl_93, wl_94, wl_95, wl_96, wl_97, wl_98, wl_99, wl_100, wl_101, wl_102, wl_103, wl_104, wl_105, wl_106, wl_107, wl_108, wl_109, wl_110, wl_111, wl_112, wl_113, wl_114, wl_115, wl_116, wl_117, wl_118, wl_119, wl_120, wl_121, wl_122, wl_123, wl_124, wl_125, wl_126, wl_127, wl_128, wl_129, wl_130, wl_159, wl_160, wl_200, wl_232, wl_255, wl_256, wl_300, wl_359, wl_360, wl_400, wl_592, wl_992, wl_999, wl_1000, wl_1024, wl_3456, wl_6512, wl_7104, wl_10000, wl_11264, wl_12345, wl_32767, wl_1000000000, wl_1103515245, wl_2000000000, w_add, w_sub, w_mul, w_neg, w_lt, w_le, w_eq, w_cl, w_in, w_nat, w_max2, w_min2, w_abs2, iltT, iltF, ileT, ileF, ieqT, ieqF, bv_01, bft, bv_0, bv_1, bv_t, bv_f, cond_true, cond_false, Bool.not_true, Bool.not_false, if_true, if_false, true_or, or_true, true_and, and_true, ↓reduceIte, decide_true, decide_false, reduceCtorEq, u2_s, u2_o, u2_k, u2_u2, Bool.true_or, Bool.or_true, Bool.false_or, Bool.or_false, Bool.and_true, Bool.true_and, Bool.and_false, Bool.false_and, eq_self, not_true_eq_false, not_false_eq_true, and_self, and_true, true_and, false_and, and_false, w_dv, dvm, MSH_e hM, h6]
  | succ i ih =>
    intro k I1 h0 hk h6 hf hc hl
    obtain ⟨I2, hI2⟩ : ∃ I2, I2 = u2 I1 291 (ix (592 * n + k)) (I 288 (ix k)) := ⟨_, rfl⟩
    have r : I1 288 (ix k) = I 288 (ix k) := hf _ _ (by decide)
    obtain ⟨I', x1, x2, x3, x4⟩ := ih (k + 1) I2 (by omega) (by omega) (by rw [hI2, u2_o _ _ _ _ (by decide)]; exact h6) (fun a k z => by rw [hI2, u2_o _ _ _ _ z]; exact hf a k z) (fun j a b => by
      rw [hI2, u2_r]
      by_cases e : j = k
      · rw [if_pos ⟨rfl, by rw [e]⟩, e]
      · rw [if_neg (by unfold ix; omega)]
        exact hc j a (by omega)) (fun j a => by
      rw [hI2, u2_r, if_neg (by unfold ix; omega)]
      exact hl j a)
    refine ⟨I', ?_, x2, x3, x4⟩
    rw [← x1, hI2]
    conv => lhs; rw [eq_277_29]
    simp (disch := first | assumption | omega | (simp (disch := omega) only [vM_u, vS_u]; first | assumption | omega)) only [hK, hL, hR, hI, hN, sI, hSp, hC, hW, li, lr, ↓cnd_a, ↓cnd_o, ↓cnd_n, ↓cnd_d, ↓z0, ↓z1, ↓z2, y0n, y1i, y2r, y0e, y1e, y2e, wl_0, wl_1, wl_2, wl_3, wl_4, wl_5, wl_6, wl_7, wl_8, wl_9, wl_10, wl_11, wl_12, wl_13, wl_14, wl_15, wl_16, wl_17, wl_18, wl_19, wl_20, wl_21, wl_22, wl_23, wl_24, wl_25, wl_26, wl_27, wl_28, wl_29, wl_30, wl_31, wl_32, wl_33, wl_34, wl_35, wl_36, wl_37, wl_38, wl_39, wl_40, wl_41, wl_42, wl_43, wl_44, wl_45, wl_46, wl_47, wl_48, wl_49, wl_50, wl_51, wl_52, wl_53, wl_54, wl_55, wl_56, wl_57, wl_58, wl_59, wl_60, wl_61, wl_62, wl_63, wl_64, wl_65, wl_66, wl_67, wl_68, wl_69, wl_70, wl_71, wl_72, wl_73, wl_74, wl_75, wl_76, wl_77, wl_78, wl_79, wl_80, wl_81, wl_82, wl_83, wl_84, wl_85, wl_86, wl_87, wl_88, wl_89, wl_90, wl_91, wl_92, wl_93, wl_94, wl_95, wl_96, wl_97, wl_98, wl_99, wl_100, wl_101, wl_102, wl_103, wl_104, wl_105, wl_106, wl_107, wl_108, wl_109, wl_110, wl_111, wl_112, wl_113, wl_114, wl_115, wl_116, wl_117, wl_118, wl_119, wl_120, wl_121, wl_122, wl_123, wl_124, wl_125, wl_126, wl_127, wl_128, wl_129, wl_130, wl_159, wl_160, wl_200, wl_232, wl_255, wl_256, wl_300, wl_359, wl_360, wl_400, wl_592, wl_992, wl_999, wl_1000, wl_1024, wl_3456, wl_6512, wl_7104, wl_10000, wl_11264, wl_12345, wl_32767, wl_1000000000, wl_1103515245, wl_2000000000, w_add, w_sub, w_mul, w_neg, w_lt, w_le, w_eq, w_cl, w_in, w_nat, w_max2, w_min2, w_abs2, iltT, iltF, ileT, ileF, ieqT, ieqF, bv_01, bft, bv_0, bv_1, bv_t, bv_f, cond_true, cond_false, Bool.not_true, Bool.not_false, if_true, if_false, true_or, or_true, true_and, and_true, ↓reduceIte, decide_true, decide_false, reduceCtorEq, u2_s, u2_o, u2_k, u2_u2, Bool.true_or, Bool.or_true, Bool.false_or, Bool.or_false, Bool.and_true, Bool.true_and, Bool.and_false, Bool.false_and, eq_self, not_true_eq_false, not_false_eq_true, and_self, and_true, true_and, false_and, and_false, w_dv, dvm, MSH_e hM, h6, r]
theorem lp_277s {d : Nat} (hM : MSH K L R) (h6 : I 287 6 = w 12) : ∀ (i : Nat) (k : Int) (I1 : Nat → Nat → Int32), 0 ≤ k → k + i = 6512 → (∀ a k, a ≠ 291 → I1 a k = I a k) → (∀ j : Nat, (j : Int) < k → I1 291 j = I 291 (592 + j)) → (∀ j : Nat, k ≤ (j : Int) → I1 291 j = I 291 j) →
    ∃ I', atv PR d cd_277 6 [.ref 287, .int (w k)] [] (((vn, vc, vw, K, L, R), I1, J) : HS) = atv PR d cd_277 29 [.ref 287, .int (w 0)] [] (((vn, vc, vw, K, L, R), u2 I' 287 6 (w 11), J) : HS) ∧ (∀ a k, a ≠ 291 → I' a k = I a k) ∧ (∀ j : Nat, (j : Int) < 6512 → I' 291 j = I 291 (592 + j)) := by
  intro i
  induction i with
  | zero =>
    intro k I1 h0 hk hf hc hl
    have ek : k = 6512 := by omega
    subst ek
    refine ⟨I1, ?_, hf, hc⟩
    have h6' : I1 287 6 = w 12 := by rw [hf _ _ (by decide)]; exact h6
    rw [eq_277_6]
    simp (disch := first | assumption | omega | (simp (disch := omega) only [vM_u, vS_u]; first | assumption | omega)) only [hK, hL, hR, hI, hN, sI, hSp, hC, hW, li, lr, ↓cnd_a, ↓cnd_o, ↓cnd_n, ↓cnd_d, ↓z0, ↓z1, ↓z2, y0n, y1i, y2r, y0e, y1e, y2e, wl_0, wl_1, wl_2, wl_3, wl_4, wl_5, wl_6, wl_7, wl_8, wl_9, wl_10, wl_11, wl_12, wl_13, wl_14, wl_15, wl_16, wl_17, wl_18, wl_19, wl_20, wl_21, wl_22, wl_23, wl_24, wl_25, wl_26, wl_27, wl_28, wl_29, wl_30, wl_31, wl_32, wl_33, wl_34, wl_35, wl_36, wl_37, wl_38, wl_39, wl_40, wl_41, wl_42, wl_43, wl_44, wl_45, wl_46, wl_47, wl_48, wl_49, wl_50, wl_51, wl_52, wl_53, wl_54, wl_55, wl_56, wl_57, wl_58, wl_59, wl_60, wl_61, wl_62, wl_63, wl_64, wl_65, wl_66, wl_67, wl_68, wl_69, wl_70, wl_71, wl_72, wl_73, wl_74, wl_75, wl_76, wl_77, wl_78, wl_79, wl_80, wl_81, wl_82, wl_83, wl_84, wl_85, wl_86, wl_87, wl_88, wl_89, wl_90, wl_91, wl_92, wl_93, wl_94, wl_95, wl_96, wl_97, wl_98, wl_99, wl_100, wl_101, wl_102, wl_103, wl_104, wl_105, wl_106, wl_107, wl_108, wl_109, wl_110, wl_111, wl_112, wl_113, wl_114, wl_115, wl_116, wl_117, wl_118, wl_119, wl_120, wl_121, wl_122, wl_123, wl_124, wl_125, wl_126, wl_127, wl_128, wl_129, wl_130, wl_159, wl_160, wl_200, wl_232, wl_255, wl_256, wl_300, wl_359, wl_360, wl_400, wl_592, wl_992, wl_999, wl_1000, wl_1024, wl_3456, wl_6512, wl_7104, wl_10000, wl_11264, wl_12345, wl_32767, wl_1000000000, wl_1103515245, wl_2000000000, w_add, w_sub, w_mul, w_neg, w_lt, w_le, w_eq, w_cl, w_in, w_nat, w_max2, w_min2, w_abs2, iltT, iltF, ileT, ileF, ieqT, ieqF, bv_01, bft, bv_0, bv_1, bv_t, bv_f, cond_true, cond_false, Bool.not_true, Bool.not_false, if_true, if_false, true_or, or_true, true_and, and_true, ↓reduceIte, decide_true, decide_false, reduceCtorEq, u2_s, u2_o, u2_k, u2_u2, Bool.true_or, Bool.or_true, Bool.false_or, Bool.or_false, Bool.and_true, Bool.true_and, Bool.and_false, Bool.false_and, eq_self, not_true_eq_false, not_false_eq_true, and_self, and_true, true_and, false_and, and_false, w_dv, dvm, MSH_e hM, h6']
    rfl
  | succ i ih =>
    intro k I1 h0 hk hf hc hl
    have r : I1 291 (ix (k + 592)) = I 291 (ix (k + 592)) := hl _ (by unfold ix; omega)
    obtain ⟨I2, hI2⟩ : ∃ I2, I2 = u2 I1 291 (ix k) (I 291 (ix (k + 592))) := ⟨_, rfl⟩
    obtain ⟨I', x1, x2, x3⟩ := ih (k + 1) I2 (by omega) (by omega) (fun a k z => by rw [hI2, u2_o _ _ _ _ z]; exact hf a k z) (fun j a => by
      rw [hI2, u2_r]
      by_cases e : j = ix k
      · rw [if_pos ⟨rfl, e⟩, e]
        congr 1
        unfold ix
        omega
      · rw [if_neg (fun z => e z.2)]
        exact hc j (by unfold ix at e; omega)) (fun j a => by
      rw [hI2, u2_r, if_neg (by unfold ix; omega)]
      exact hl j (by omega))
    refine ⟨I', ?_, x2, x3⟩
    rw [← x1, hI2]
    conv => lhs; rw [eq_277_6]
    simp (disch := first | assumption | omega | (simp (disch := omega) only [vM_u, vS_u]; first | assumption | omega)) only [hK, hL, hR, hI, hN, sI, hSp, hC, hW, li, lr, ↓cnd_a, ↓cnd_o, ↓cnd_n, ↓cnd_d, ↓z0, ↓z1, ↓z2, y0n, y1i, y2r, y0e, y1e, y2e, wl_0, wl_1, wl_2, wl_3, wl_4, wl_5, wl_6, wl_7, wl_8, wl_9, wl_10, wl_11, wl_12, wl_13, wl_14, wl_15, wl_16, wl_17, wl_18, wl_19, wl_20, wl_21, wl_22, wl_23, wl_24, wl_25, wl_26, wl_27, wl_28, wl_29, wl_30, wl_31, wl_32, wl_33, wl_34, wl_35, wl_36, wl_37, wl_38, wl_39, wl_40, wl_41, wl_42, wl_43, wl_44, wl_45, wl_46, wl_47, wl_48, wl_49, wl_50, wl_51, wl_52, wl_53, wl_54, wl_55, wl_56, wl_57, wl_58, wl_59, wl_60, wl_61, wl_62, wl_63, wl_64, wl_65, wl_66, wl_67, wl_68, wl_69, wl_70, wl_71, wl_72, wl_73, wl_74, wl_75, wl_76, wl_77, wl_78, wl_79, wl_80, wl_81, wl_82, wl_83, wl_84, wl_85, wl_86, wl_87, wl_88, wl_89, wl_90, wl_91, wl_92, wl_93, wl_94, wl_95, wl_96, wl_97, wl_98, wl_99, wl_100, wl_101, wl_102, wl_103, wl_104, wl_105, wl_106, wl_107, wl_108, wl_109, wl_110, wl_111, wl_112, wl_113, wl_114, wl_115, wl_116, wl_117, wl_118, wl_119, wl_120, wl_121, wl_122, wl_123, wl_124, wl_125, wl_126, wl_127, wl_128, wl_129, wl_130, wl_159, wl_160, wl_200, wl_232, wl_255, wl_256, wl_300, wl_359, wl_360, wl_400, wl_592, wl_992, wl_999, wl_1000, wl_1024, wl_3456, wl_6512, wl_7104, wl_10000, wl_11264, wl_12345, wl_32767, wl_1000000000, wl_1103515245, wl_2000000000, w_add, w_sub, w_mul, w_neg, w_lt, w_le, w_eq, w_cl, w_in, w_nat, w_max2, w_min2, w_abs2, iltT, iltF, ileT, ileF, ieqT, ieqF, bv_01, bft, bv_0, bv_1, bv_t, bv_f, cond_true, cond_false, Bool.not_true, Bool.not_false, if_true, if_false, true_or, or_true, true_and, and_true, ↓reduceIte, decide_true, decide_false, reduceCtorEq, u2_s, u2_o, u2_k, u2_u2, Bool.true_or, Bool.or_true, Bool.false_or, Bool.or_false, Bool.and_true, Bool.true_and, Bool.and_false, Bool.false_and, eq_self, not_true_eq_false, not_false_eq_true, and_self, and_true, true_and, false_and, and_false, w_dv, dvm, MSH_e hM, r]
theorem vM_c {F G : Nat → Nat → Int32} {m : Int → Int} (h : ∀ k, k < 592 → G 288 k = F 288 k) (hv : vM F = m) (hB : BD m) : vM G = m ∧ mI G 12 = mI F 12 ∧ G 288 1 = F 288 1 ∧ G 288 2 = F 288 2 := by
  subst hv
  obtain ⟨c3, c4, c5, c13, c14⟩ := BD_mI hB
  refine ⟨vM_cp h ⟨⟨c3.2, c4.2, c5.2⟩, c13.2, c14.2⟩, ?_, h 1 (by decide), h 2 (by decide)⟩
  unfold mI
  rw [h _ (by decide)]
theorem sp_277 {d : Nat} {n : Int} {P : Int → Int → Int} (hM : MSH K L R) (hB : BD (vM I)) (h12 : mI I 12 = allT (vM I)) (hp : PM I n P) (hP : ∀ j, 0 ≤ j → j < n → BD (P j)) :
    ∃ I', ev PR (d + 1) 277 [.ref 287] (((vn, vc, vw, K, L, R), I, J) : HS) = some (.inl none, (((vn, vc, vw, K, L, R), I', J) : HS)) ∧ PM I' (min (n + 1) 12) (fun j => if j = 0 then vM I else P (j - 1)) ∧ ∀ a k, a ≠ 291 → (a = 287 → k ≠ 6) → I' a k = I a k := by
  obtain ⟨⟨g1, g1'⟩, g2⟩ := id hp
  by_cases cn : n = 12
  · subst cn
    obtain ⟨I1, x1, x2, x3⟩ := lp_277s (d := d) (vn := vn) (vc := vc) (vw := vw) (J := J) hM g1 6512 0 I (by omega) (by omega) (fun _ _ _ => rfl) (fun j a => by omega) (fun j a => rfl)
    obtain ⟨I2, hI2⟩ : ∃ I2, I2 = u2 I1 287 6 (w 11) := ⟨_, rfl⟩
    rw [← hI2] at x1
    have f2 : ∀ a k, a ≠ 291 → (a = 287 → k ≠ 6) → I2 a k = I a k := fun a k y z => by rw [hI2, u2_r, if_neg (by omega)]; exact x2 a k y
    obtain ⟨I3, y1, y2, y3, y4⟩ := lp_277 (d := d) (n := 11) (I := I2) (vn := vn) (vc := vc) (vw := vw) (J := J) hM (by omega) 592 0 I2 (by omega) (by omega) (by rw [hI2, u2_s]) (fun _ _ _ => rfl) (fun j a b => by omega) (fun j a => rfl)
    obtain ⟨I4, hI4⟩ : ∃ I4, I4 = u2 I3 287 6 (w (11 + 1)) := ⟨_, rfl⟩
    rw [← hI4] at y1
    have f4 : ∀ a k, a ≠ 291 → (a = 287 → k ≠ 6) → I4 a k = I a k := fun a k y z => by rw [hI4, u2_r, if_neg (by omega), y2 a k y, f2 a k y z]
    have c4 : ∀ k, I4 291 k = I3 291 k := fun k => by rw [hI4, u2_o _ _ _ _ (by decide)]
    refine ⟨I4, ?_, ⟨⟨?_, by omega, by omega⟩, fun j a b => ?_⟩, f4⟩
    · rw [eq_277, ← y1, ← x1]
      simp (disch := first | assumption | omega | (simp (disch := omega) only [vM_u, vS_u]; first | assumption | omega)) only [hK, hL, hR, hI, hN, sI, hSp, hC, hW, li, lr, ↓cnd_a, ↓cnd_o, ↓cnd_n, ↓cnd_d, ↓z0, ↓z1, ↓z2, y0n, y1i, y2r, y0e, y1e, y2e, wl_0, wl_1, wl_2, wl_3, wl_4, wl_5, wl_6, wl_7, wl_8, wl_9, wl_10, wl_11, wl_12, wl_13, wl_14, wl_15, wl_16, wl_17, wl_18, wl_19, wl_20, wl_21, wl_22, wl_23, wl_24, wl_25, wl_26, wl_27, wl_28, wl_29, wl_30, wl_31, wl_32, wl_33, wl_34, wl_35, wl_36, wl_37, wl_38, wl_39, wl_40, wl_41, wl_42, wl_43, wl_44, wl_45, wl_46, wl_47, wl_48, wl_49, wl_50, wl_51, wl_52, wl_53, wl_54, wl_55, wl_56, wl_57, wl_58, wl_59, wl_60, wl_61, wl_62, wl_63, wl_64, wl_65, wl_66, wl_67, wl_68, wl_69, wl_70, wl_71, wl_72, wl_73, wl_74, wl_75, wl_76, wl_77, wl_78, wl_79, wl_80, wl_81, wl_82, wl_83, wl_84, wl_85, wl_86, wl_87, wl_88, wl_89, wl_90, wl_91, wl_92, wl_93, wl_94, wl_95, wl_96, wl_97, wl_98, wl_99, wl_100, wl_101, wl_102, wl_103, wl_104, wl_105, wl_106, wl_107, wl_108, wl_109, wl_110, wl_111, wl_112, wl_113, wl_114, wl_115, wl_116, wl_117, wl_118, wl_119, wl_120, wl_121, wl_122, wl_123, wl_124, wl_125, wl_126, wl_127, wl_128, wl_129, wl_130, wl_159, wl_160, wl_200, wl_232, wl_255, wl_256, wl_300, wl_359, wl_360, wl_400, wl_592, wl_992, wl_999, wl_1000, wl_1024, wl_3456, wl_6512, wl_7104, wl_10000, wl_11264, wl_12345, wl_32767, wl_1000000000, wl_1103515245, wl_2000000000, w_add, w_sub, w_mul, w_neg, w_lt, w_le, w_eq, w_cl, w_in, w_nat, w_max2, w_min2, w_abs2, iltT, iltF, ileT, ileF, ieqT, ieqF, bv_01, bft, bv_0, bv_1, bv_t, bv_f, cond_true, cond_false, Bool.not_true, Bool.not_false, if_true, if_false, true_or, or_true, true_and, and_true, ↓reduceIte, decide_true, decide_false, reduceCtorEq, u2_s, u2_o, u2_k, u2_u2, Bool.true_or, Bool.or_true, Bool.false_or, Bool.or_false, Bool.and_true, Bool.true_and, Bool.and_false, Bool.false_and, eq_self, not_true_eq_false, not_false_eq_true, and_self, and_true, true_and, false_and, and_false, w_dv, dvm, MSH_e hM, g1]
    · rw [hI4, u2_s]; rfl
    · have b12 : j < 12 := by omega
      rw [show min ((12 : Int) + 1) 12 = 12 by omega]
      dsimp only
      by_cases ej : j = 0
      · subst ej
        rw [if_pos rfl]
        have h : ∀ k, k < 592 → actI I4 (12 - 1 - 0) 288 k = I 288 k := fun k hk => by
          show I4 291 _ = _
          have := y3 (k : Int) (by omega) (by omega)
          rw [c4, show 592 * ((12 : Int) - 1 - 0).toNat + k = ix (592 * 11 + (k : Int)) by unfold ix; omega, this, f2 _ _ (by decide) (fun z => absurd z (by decide))]
          congr 1
        obtain ⟨z1', z2', z3, z4⟩ := vM_c h rfl hB
        exact ⟨z1', by rw [z2']; exact h12, by rw [z3, f4 _ _ (by decide) (by decide)], by rw [z4, f4 _ _ (by decide) (by decide)]⟩
      · rw [if_neg ej]
        obtain ⟨u1, u2', u3, u4⟩ := g2 (j - 1) (by omega) (by omega)
        have h : ∀ k, k < 592 → actI I4 (12 - 1 - j) 288 k = actI I (12 - 1 - (j - 1)) 288 k := fun k hk => by
          show I4 291 _ = I 291 _
          rw [c4, y4 _ (by omega), hI2, u2_o _ _ _ _ (by decide), x3 _ (by omega)]
          congr 1
          omega
        obtain ⟨z1', z2', z3, z4⟩ := vM_c h u1 (hP (j - 1) (by omega) (by omega))
        exact ⟨z1', by rw [z2']; exact u2', by rw [z3, u3, f4 _ _ (by decide) (by decide)], by rw [z4, u4, f4 _ _ (by decide) (by decide)]⟩
  · obtain ⟨I3, y1, y2, y3, y4⟩ := lp_277 (d := d) (n := n) (I := I) (vn := vn) (vc := vc) (vw := vw) (J := J) hM (by omega) 592 0 I (by omega) (by omega) g1 (fun _ _ _ => rfl) (fun j a b => by omega) (fun j a => rfl)
    obtain ⟨I4, hI4⟩ : ∃ I4, I4 = u2 I3 287 6 (w (n + 1)) := ⟨_, rfl⟩
    rw [← hI4] at y1
    have f4 : ∀ a k, a ≠ 291 → (a = 287 → k ≠ 6) → I4 a k = I a k := fun a k y z => by rw [hI4, u2_r, if_neg (by omega), y2 a k y]
    have c4 : ∀ k, I4 291 k = I3 291 k := fun k => by rw [hI4, u2_o _ _ _ _ (by decide)]
    have em : min (n + 1) 12 = n + 1 := by omega
    rw [em]
    refine ⟨I4, ?_, ⟨⟨?_, by omega, by omega⟩, fun j a b => ?_⟩, f4⟩
    · rw [eq_277, ← y1]
      simp (disch := first | assumption | omega | (simp (disch := omega) only [vM_u, vS_u]; first | assumption | omega)) only [hK, hL, hR, hI, hN, sI, hSp, hC, hW, li, lr, ↓cnd_a, ↓cnd_o, ↓cnd_n, ↓cnd_d, ↓z0, ↓z1, ↓z2, y0n, y1i, y2r, y0e, y1e, y2e, wl_0, wl_1, wl_2, wl_3, wl_4, wl_5, wl_6, wl_7, wl_8, wl_9, wl_10, wl_11, wl_12, wl_13, wl_14, wl_15, wl_16, wl_17, wl_18, wl_19, wl_20, wl_21, wl_22, wl_23, wl_24, wl_25, wl_26, wl_27, wl_28, wl_29, wl_30, wl_31, wl_32, wl_33, wl_34, wl_35, wl_36, wl_37, wl_38, wl_39, wl_40, wl_41, wl_42, wl_43, wl_44, wl_45, wl_46, wl_47, wl_48, wl_49, wl_50, wl_51, wl_52, wl_53, wl_54, wl_55, wl_56, wl_57, wl_58, wl_59, wl_60, wl_61, wl_62, wl_63, wl_64, wl_65, wl_66, wl_67, wl_68, wl_69, wl_70, wl_71, wl_72, wl_73, wl_74, wl_75, wl_76, wl_77, wl_78, wl_79, wl_80, wl_81, wl_82, wl_83, wl_84, wl_85, wl_86, wl_87, wl_88, wl_89, wl_90, wl_91, wl_92, wl_93, wl_94, wl_95, wl_96, wl_97, wl_98, wl_99, wl_100, wl_101, wl_102, wl_103, wl_104, wl_105, wl_106, wl_107, wl_108, wl_109, wl_110, wl_111, wl_112, wl_113, wl_114, wl_115, wl_116, wl_117, wl_118, wl_119, wl_120, wl_121, wl_122, wl_123, wl_124, wl_125, wl_126, wl_127, wl_128, wl_129, wl_130, wl_159, wl_160, wl_200, wl_232, wl_255, wl_256, wl_300, wl_359, wl_360, wl_400, wl_592, wl_992, wl_999, wl_1000, wl_1024, wl_3456, wl_6512, wl_7104, wl_10000, wl_11264, wl_12345, wl_32767, wl_1000000000, wl_1103515245, wl_2000000000, w_add, w_sub, w_mul, w_neg, w_lt, w_le, w_eq, w_cl, w_in, w_nat, w_max2, w_min2, w_abs2, iltT, iltF, ileT, ileF, ieqT, ieqF, bv_01, bft, bv_0, bv_1, bv_t, bv_f, cond_true, cond_false, Bool.not_true, Bool.not_false, if_true, if_false, true_or, or_true, true_and, and_true, ↓reduceIte, decide_true, decide_false, reduceCtorEq, u2_s, u2_o, u2_k, u2_u2, Bool.true_or, Bool.or_true, Bool.false_or, Bool.or_false, Bool.and_true, Bool.true_and, Bool.and_false, Bool.false_and, eq_self, not_true_eq_false, not_false_eq_true, and_self, and_true, true_and, false_and, and_false, w_dv, dvm, MSH_e hM, g1]
    · rw [hI4, u2_s]
    · dsimp only
      by_cases ej : j = 0
      · subst ej
        rw [if_pos rfl]
        have h : ∀ k, k < 592 → actI I4 (n + 1 - 1 - 0) 288 k = I 288 k := fun k hk => by
          show I4 291 _ = _
          have := y3 (k : Int) (by omega) (by omega)
          rw [c4, show 592 * (n + 1 - 1 - 0).toNat + k = ix (592 * n + (k : Int)) by unfold ix; omega, this]
          congr 1
        obtain ⟨z1', z2', z3, z4⟩ := vM_c h rfl hB
        exact ⟨z1', by rw [z2']; exact h12, by rw [z3, f4 _ _ (by decide) (by decide)], by rw [z4, f4 _ _ (by decide) (by decide)]⟩
      · rw [if_neg ej]
        obtain ⟨u1, u2', u3, u4⟩ := g2 (j - 1) (by omega) (by omega)
        have h : ∀ k, k < 592 → actI I4 (n + 1 - 1 - j) 288 k = actI I (n - 1 - (j - 1)) 288 k := fun k hk => by
          show I4 291 _ = I 291 _
          rw [c4, y4 _ (by omega)]
          congr 1
          omega
        obtain ⟨z1', z2', z3, z4⟩ := vM_c h u1 (hP (j - 1) (by omega) (by omega))
        exact ⟨z1', by rw [z2']; exact u2', by rw [z3, u3, f4 _ _ (by decide) (by decide)], by rw [z4, u4, f4 _ _ (by decide) (by decide)]⟩
theorem sp_331z {d : Nat} {P : Int → Int → Int} (hM : MSH K L R) (hp : PM I 0 P) : ev PR (d + 1) 331 [.ref 287] (((vn, vc, vw, K, L, R), I, J) : HS) = some (.inl (some (.int (w 0))), (((vn, vc, vw, K, L, R), u2 I 287 0 (w 0), J) : HS)) := by
  have g := hp.1.1
  rw [eq_331]
  simp (disch := first | assumption | omega | (simp (disch := omega) only [vM_u, vS_u]; first | assumption | omega)) only [hK, hL, hR, hI, hN, sI, hSp, hC, hW, li, lr, ↓cnd_a, ↓cnd_o, ↓cnd_n, ↓cnd_d, ↓z0, ↓z1, ↓z2, y0n, y1i, y2r, y0e, y1e, y2e, wl_0, wl_1, wl_2, wl_3, wl_4, wl_5, wl_6, wl_7, wl_8, wl_9, wl_10, wl_11, wl_12, wl_13, wl_14, wl_15, wl_16, wl_17, wl_18, wl_19, wl_20, wl_21, wl_22, wl_23, wl_24, wl_25, wl_26, wl_27, wl_28, wl_29, wl_30, wl_31, wl_32, wl_33, wl_34, wl_35, wl_36, wl_37, wl_38, wl_39, wl_40, wl_41, wl_42, wl_43, wl_44, wl_45, wl_46, wl_47, wl_48, wl_49, wl_50, wl_51, wl_52, wl_53, wl_54, wl_55, wl_56, wl_57, wl_58, wl_59, wl_60, wl_61, wl_62, wl_63, wl_64, wl_65, wl_66, wl_67, wl_68, wl_69, wl_70, wl_71, wl_72, wl_73, wl_74, wl_75, wl_76, wl_77, wl_78, wl_79, wl_80, wl_81, wl_82, wl_83, wl_84, wl_85, wl_86, wl_87, wl_88, wl_89, wl_90, wl_91, wl_92, wl_93, wl_94, wl_95, wl_96, wl_97, wl_98, wl_99, wl_100, wl_101, wl_102, wl_103, wl_104, wl_105, wl_106, wl_107, wl_108, wl_109, wl_110, wl_111, wl_112, wl_113, wl_114, wl_115, wl_116, wl_117, wl_118, wl_119, wl_120, wl_121, wl_122, wl_123, wl_124, wl_125, wl_126, wl_127, wl_128, wl_129, wl_130, wl_159, wl_160, wl_200, wl_232, wl_255, wl_256, wl_300, wl_359, wl_360, wl_400, wl_592, wl_992, wl_999, wl_1000, wl_1024, wl_3456, wl_6512, wl_7104, wl_10000, wl_11264, wl_12345, wl_32767, wl_1000000000, wl_1103515245, wl_2000000000, w_add, w_sub, w_mul, w_neg, w_lt, w_le, w_eq, w_cl, w_in, w_nat, w_max2, w_min2, w_abs2, iltT, iltF, ileT, ileF, ieqT, ieqF, bv_01, bft, bv_0, bv_1, bv_t, bv_f, cond_true, cond_false, Bool.not_true, Bool.not_false, if_true, if_false, true_or, or_true, true_and, and_true, ↓reduceIte, decide_true, decide_false, reduceCtorEq, u2_s, u2_o, u2_k, u2_u2, Bool.true_or, Bool.or_true, Bool.false_or, Bool.or_false, Bool.and_true, Bool.true_and, Bool.and_false, Bool.false_and, eq_self, not_true_eq_false, not_false_eq_true, and_self, and_true, true_and, false_and, and_false, w_dv, dvm, MSH_e hM, g]
theorem sp_331 {d : Nat} {n : Int} {P : Int → Int → Int} (hM : MSH K L R) (hn : 0 < n) (hp : PM I n P) (hP : BD (P 0)) :
    ∃ I', ev PR (d + 1) 331 [.ref 287] (((vn, vc, vw, K, L, R), I, J) : HS) = some (.inl (some (.int (w 1))), (((vn, vc, vw, K, L, R), I', J) : HS)) ∧ PM I' (n - 1) (fun j => P (j + 1)) ∧ vM I' = P 0 ∧ mI I' 12 = allT (P 0) ∧ I' 288 1 = I 288 1 ∧ I' 288 2 = I 288 2 ∧ I' 287 0 = w 0 ∧ ∀ a k, (a = 288 → 592 ≤ k) → (a = 287 → k ≠ 6 ∧ k ≠ 0) → I' a k = I a k := by
  obtain ⟨⟨g1, g1'⟩, g2⟩ := id hp
  obtain ⟨I0, hI0⟩ : ∃ I0, I0 = u2 (u2 I 287 0 (w 0)) 287 6 (w (n - 1)) := ⟨_, rfl⟩
  have f0 : ∀ a k, (a = 287 → k ≠ 6 ∧ k ≠ 0) → I0 a k = I a k := fun a k z => by rw [hI0, u2_r, if_neg (by omega), u2_r, if_neg (by omega)]
  have i6 : I0 287 6 = w (n - 1) := by rw [hI0, u2_s]
  have lp : ∀ (i : Nat) (k : Int) (I1 : Nat → Nat → Int32), 0 ≤ k → k + i = 592 → (∀ a j, a ≠ 288 → I1 a j = I0 a j) → (∀ j : Nat, (j : Int) < k → I1 288 j = I 291 (592 * (n - 1).toNat + j)) → (∀ j : Nat, k ≤ (j : Int) → I1 288 j = I 288 j) →
      ∃ I', atv PR d cd_331 16 [.ref 287, .int (w k)] [] (((vn, vc, vw, K, L, R), I1, J) : HS) = some (.inl (some (.int (w 1))), (((vn, vc, vw, K, L, R), I', J) : HS)) ∧ (∀ a j, a ≠ 288 → I' a j = I0 a j) ∧ (∀ j : Nat, j < 592 → I' 288 j = I 291 (592 * (n - 1).toNat + j)) ∧ (∀ j : Nat, 592 ≤ j → I' 288 j = I 288 j) := by
    intro i
    induction i with
    | zero =>
      intro k I1 h0 hk hf hc hl
      have ek : k = 592 := by omega
      subst ek
      refine ⟨I1, ?_, hf, fun j a => hc j (by omega), fun j a => hl j (by omega)⟩
      rw [eq_331_16]
      simp (disch := first | assumption | omega | (simp (disch := omega) only [vM_u, vS_u]; first | assumption | omega)) only [hK, hL, hR, hI, hN, sI, hSp, hC, hW, li, lr, ↓cnd_a, ↓cnd_o, ↓cnd_n, ↓cnd_d, ↓z0, ↓z1, ↓z2, y0n, y1i, y2r, y0e, y1e, y2e, wl_0, wl_1, wl_2, wl_3, wl_4, wl_5, wl_6, wl_7, wl_8, wl_9, wl_10, wl_11, wl_12, wl_13, wl_14, wl_15, wl_16, wl_17, wl_18, wl_19, wl_20, wl_21, wl_22, wl_23, wl_24, wl_25, wl_26, wl_27, wl_28, wl_29, wl_30, wl_31, wl_32, wl_33, wl_34, wl_35, wl_36, wl_37, wl_38, wl_39, wl_40, wl_41, wl_42, wl_43, wl_44, wl_45, wl_46, wl_47, wl_48, wl_49, wl_50, wl_51, wl_52, wl_53, wl_54, wl_55, wl_56, wl_57, wl_58, wl_59, wl_60, wl_61, wl_62, wl_63, wl_64, wl_65, wl_66, wl_67, wl_68, wl_69, wl_70, wl_71, wl_72, wl_73, wl_74, wl_75, wl_76, wl_77, wl_78, wl_79, wl_80, wl_81, wl_82, wl_83, wl_84, wl_85, wl_86, wl_87, wl_88, wl_89, wl_90, wl_91, wl_92, wl_93, wl_94, wl_95, wl_96, wl_97, wl_98, wl_99, wl_100, wl_101, wl_102, wl_103, wl_104, wl_105, wl_106, wl_107, wl_108, wl_109, wl_110, wl_111, wl_112, wl_113, wl_114, wl_115, wl_116, wl_117, wl_118, wl_119, wl_120, wl_121, wl_122, wl_123, wl_124, wl_125, wl_126, wl_127, wl_128, wl_129, wl_130, wl_159, wl_160, wl_200, wl_232, wl_255, wl_256, wl_300, wl_359, wl_360, wl_400, wl_592, wl_992, wl_999, wl_1000, wl_1024, wl_3456, wl_6512, wl_7104, wl_10000, wl_11264, wl_12345, wl_32767, wl_1000000000, wl_1103515245, wl_2000000000, w_add, w_sub, w_mul, w_neg, w_lt, w_le, w_eq, w_cl, w_in, w_nat, w_max2, w_min2, w_abs2, iltT, iltF, ileT, ileF, ieqT, ieqF, bv_01, bft, bv_0, bv_1, bv_t, bv_f, cond_true, cond_false, Bool.not_true, Bool.not_false, if_true, if_false, true_or, or_true, true_and, and_true, ↓reduceIte, decide_true, decide_false, reduceCtorEq, u2_s, u2_o, u2_k, u2_u2, Bool.true_or, Bool.or_true, Bool.false_or, Bool.or_false, Bool.and_true, Bool.true_and, Bool.and_false, Bool.false_and, eq_self, not_true_eq_false, not_false_eq_true, and_self, and_true, true_and, false_and, and_false, w_dv, dvm]
    | succ i ih =>
      intro k I1 h0 hk hf hc hl
      have r6 : I1 287 6 = w (n - 1) := by rw [hf _ _ (by decide)]; exact i6
      have r : I1 291 (ix (592 * (n - 1) + k)) = I 291 (ix (592 * (n - 1) + k)) := by rw [hf _ _ (by decide), f0 _ _ (fun z => absurd z (by decide))]
      obtain ⟨I2, hI2⟩ : ∃ I2, I2 = u2 I1 288 (ix k) (I 291 (ix (592 * (n - 1) + k))) := ⟨_, rfl⟩
      obtain ⟨I', x1, x2, x3, x4⟩ := ih (k + 1) I2 (by omega) (by omega) (fun a j z => by rw [hI2, u2_o _ _ _ _ z]; exact hf a j z) (fun j a => by
        rw [hI2, u2_r]
        by_cases e : j = ix k
        · rw [if_pos ⟨rfl, e⟩, e]
          congr 1
          unfold ix
          omega
        · rw [if_neg (fun z => e z.2)]
          exact hc j (by unfold ix at e; omega)) (fun j a => by
        rw [hI2, u2_r, if_neg (by unfold ix; omega)]
        exact hl j (by omega))
      refine ⟨I', ?_, x2, x3, x4⟩
      rw [← x1, hI2]
      conv => lhs; rw [eq_331_16]
      simp (disch := first | assumption | omega | (simp (disch := omega) only [vM_u, vS_u]; first | assumption | omega)) only [hK, hL, hR, hI, hN, sI, hSp, hC, hW, li, lr, ↓cnd_a, ↓cnd_o, ↓cnd_n, ↓cnd_d, ↓z0, ↓z1, ↓z2, y0n, y1i, y2r, y0e, y1e, y2e, wl_0, wl_1, wl_2, wl_3, wl_4, wl_5, wl_6, wl_7, wl_8, wl_9, wl_10, wl_11, wl_12, wl_13, wl_14, wl_15, wl_16, wl_17, wl_18, wl_19, wl_20, wl_21, wl_22, wl_23, wl_24, wl_25, wl_26, wl_27, wl_28, wl_29, wl_30, wl_31, wl_32, wl_33, wl_34, wl_35, wl_36, wl_37, wl_38, wl_39, wl_40, wl_41, wl_42, wl_43, wl_44, wl_45, wl_46, wl_47, wl_48, wl_49, wl_50, wl_51, wl_52, wl_53, wl_54, wl_55, wl_56, wl_57, wl_58, wl_59, wl_60, wl_61, wl_62, wl_63, wl_64, wl_65, wl_66, wl_67, wl_68, wl_69, wl_70, wl_71, wl_72, wl_73, wl_74, wl_75, wl_76, wl_77, wl_78, wl_79, wl_80, wl_81, wl_82, wl_83, wl_84, wl_85, wl_86, wl_87, wl_88, wl_89, wl_90, wl_91, wl_92, wl_93, wl_94, wl_95, wl_96, wl_97, wl_98, wl_99, wl_100, wl_101, wl_102, wl_103, wl_104, wl_105, wl_106, wl_107, wl_108, wl_109, wl_110, wl_111, wl_112, wl_113, wl_114, wl_115, wl_116, wl_117, wl_118, wl_119, wl_120, wl_121, wl_122, wl_123, wl_124, wl_125, wl_126, wl_127, wl_128, wl_129, wl_130, wl_159, wl_160, wl_200, wl_232, wl_255, wl_256, wl_300, wl_359, wl_360, wl_400, wl_592, wl_992, wl_999, wl_1000, wl_1024, wl_3456, wl_6512, wl_7104, wl_10000, wl_11264, wl_12345, wl_32767, wl_1000000000, wl_1103515245, wl_2000000000, w_add, w_sub, w_mul, w_neg, w_lt, w_le, w_eq, w_cl, w_in, w_nat, w_max2, w_min2, w_abs2, iltT, iltF, ileT, ileF, ieqT, ieqF, bv_01, bft, bv_0, bv_1, bv_t, bv_f, cond_true, cond_false, Bool.not_true, Bool.not_false, if_true, if_false, true_or, or_true, true_and, and_true, ↓reduceIte, decide_true, decide_false, reduceCtorEq, u2_s, u2_o, u2_k, u2_u2, Bool.true_or, Bool.or_true, Bool.false_or, Bool.or_false, Bool.and_true, Bool.true_and, Bool.and_false, Bool.false_and, eq_self, not_true_eq_false, not_false_eq_true, and_self, and_true, true_and, false_and, and_false, w_dv, dvm, MSH_e hM, r6, r]
  obtain ⟨I', x1, x2, x3, x4⟩ := lp 592 0 I0 (by omega) (by omega) (fun _ _ _ => rfl) (fun j a => by omega) (fun j a => f0 _ _ (fun z => absurd z (by decide)))
  obtain ⟨u1, u2', u3, u4⟩ := g2 0 (by omega) hn
  have h : ∀ k, k < 592 → I' 288 k = actI I (n - 1 - 0) 288 k := fun k hk => by
    show _ = I 291 _
    rw [x3 k hk, show n - 1 - 0 = n - 1 by omega]
  obtain ⟨z1', z2', z3, z4⟩ := vM_c h u1 hP
  refine ⟨I', ?_, ⟨⟨?_, by omega, by omega⟩, fun j a b => ?_⟩, z1', by rw [z2']; exact u2', by rw [z3]; exact u3, by rw [z4]; exact u4, ?_, fun a k y z => ?_⟩
  · rw [eq_331, ← x1, hI0]
    simp (disch := first | assumption | omega | (simp (disch := omega) only [vM_u, vS_u]; first | assumption | omega)) only [hK, hL, hR, hI, hN, sI, hSp, hC, hW, li, lr, ↓cnd_a, ↓cnd_o, ↓cnd_n, ↓cnd_d, ↓z0, ↓z1, ↓z2, y0n, y1i, y2r, y0e, y1e, y2e, wl_0, wl_1, wl_2, wl_3, wl_4, wl_5, wl_6, wl_7, wl_8, wl_9, wl_10, wl_11, wl_12, wl_13, wl_14, wl_15, wl_16, wl_17, wl_18, wl_19, wl_20, wl_21, wl_22, wl_23, wl_24, wl_25, wl_26, wl_27, wl_28, wl_29, wl_30, wl_31, wl_32, wl_33, wl_34, wl_35, wl_36, wl_37, wl_38, wl_39, wl_40, wl_41, wl_42, wl_43, wl_44, wl_45, wl_46, wl_47, wl_48, wl_49, wl_50, wl_51, wl_52, wl_53, wl_54, wl_55, wl_56, wl_57, wl_58, wl_59, wl_60, wl_61, wl_62, wl_63, wl_64, wl_65, wl_66, wl_67, wl_68, wl_69, wl_70, wl_71, wl_72, wl_73, wl_74, wl_75, wl_76, wl_77, wl_78, wl_79, wl_80, wl_81, wl_82, wl_83, wl_84, wl_85, wl_86, wl_87, wl_88, wl_89, wl_90, wl_91, wl_92, wl_93, wl_94, wl_95, wl_96, wl_97, wl_98, wl_99, wl_100, wl_101, wl_102, wl_103, wl_104, wl_105, wl_106, wl_107, wl_108, wl_109, wl_110, wl_111, wl_112, wl_113, wl_114, wl_115, wl_116, wl_117, wl_118, wl_119, wl_120, wl_121, wl_122, wl_123, wl_124, wl_125, wl_126, wl_127, wl_128, wl_129, wl_130, wl_159, wl_160, wl_200, wl_232, wl_255, wl_256, wl_300, wl_359, wl_360, wl_400, wl_592, wl_992, wl_999, wl_1000, wl_1024, wl_3456, wl_6512, wl_7104, wl_10000, wl_11264, wl_12345, wl_32767, wl_1000000000, wl_1103515245, wl_2000000000, w_add, w_sub, w_mul, w_neg, w_lt, w_le, w_eq, w_cl, w_in, w_nat, w_max2, w_min2, w_abs2, iltT, iltF, ileT, ileF, ieqT, ieqF, bv_01, bft, bv_0, bv_1, bv_t, bv_f, cond_true, cond_false, Bool.not_true, Bool.not_false, if_true, if_false, true_or, or_true, true_and, and_true, ↓reduceIte, decide_true, decide_false, reduceCtorEq, u2_s, u2_o, u2_k, u2_u2, Bool.true_or, Bool.or_true, Bool.false_or, Bool.or_false, Bool.and_true, Bool.true_and, Bool.and_false, Bool.false_and, eq_self, not_true_eq_false, not_false_eq_true, and_self, and_true, true_and, false_and, and_false, w_dv, dvm, MSH_e hM, g1]
  · rw [x2 _ _ (by decide)]; exact i6
  · obtain ⟨v1, v2, v3, v4⟩ := g2 (j + 1) (by omega) (by omega)
    have e : ∀ k, actI I' (n - 1 - 1 - j) 288 k = actI I (n - 1 - (j + 1)) 288 k := fun k => by
      show I' 291 _ = I 291 _
      rw [x2 _ _ (by decide), f0 _ _ (fun z => absurd z (by decide))]
      congr 1
      omega
    refine ⟨by rw [vM_f e]; exact v1, ?_, by rw [e, v3, z3, u3], by rw [e, v4, z4, u4]⟩
    show mI (actI I' (n - 1 - 1 - j)) 12 = allT (P (j + 1))
    rw [← v2]
    unfold mI
    rw [e]
  · rw [x2 _ _ (by decide), hI0, u2_k _ _ _ _ (by decide), u2_s]
  · by_cases c : a = 288
    · rw [c, x4 k (y c)]
    · rw [x2 a k c, f0 a k z]
end PSM
