/-! the reference's aim: what the law says -/
section AMR
variable {vn vc vw : Nat} {K L : Nat → Nat} {R : Nat → Nat → Nat} {I : Nat → Nat → Int32} {J : Nat → Nat → Int64}
def RLaw (I : Nat → Nat → Int32) (ss : List Int) (ln : Int) : Prop := ∃ (T : Int → Int) (e : Int), I 288 1 = w ln ∧ I 288 2 = w e ∧ (0 ≤ e ∧ e ≤ 400) ∧ (-1 ≤ ln ∧ ln ≤ 12) ∧ (∀ k, 0 ≤ k → k < e → 0 ≤ T k ∧ T k ≤ 255) ∧ (∀ k, 0 ≤ k → k < e → I 288 (ix (592 + k)) = w (T k)) ∧ (ln ≤ 0 → ss = []) ∧ (0 < ln → pLaw T e = .ok (ln, ss))
theorem RLaw_f {I I' : Nat → Nat → Int32} {ss : List Int} {ln : Int} (h : ∀ k, k = 1 ∨ k = 2 ∨ 592 ≤ k → I' 288 k = I 288 k) (g : RLaw I ss ln) : RLaw I' ss ln := by
  obtain ⟨T, e, g1, g2, g3, g4, g5, g6, g7⟩ := g
  exact ⟨T, e, by rw [h _ (by omega)]; exact g1, by rw [h _ (by omega)]; exact g2, g3, g4, g5, fun k a b => by rw [h _ (by unfold ix; omega)]; exact g6 k a b, g7⟩
theorem ps_mk (X : Nat → Nat → Int32) (a b c p q : Int32) : u2 (u2 (u2 (u2 (u2 X 287 12 a) 287 9 b) 287 10 c) 287 11 p) 287 13 q = u2 (u2 (u2 (u2 (u2 X 287 9 b) 287 10 c) 287 11 p) 287 12 a) 287 13 q := by
  funext x y
  simp only [u2_r]
  by_cases hx : x = 287
  · by_cases h1 : y = 13
    · simp [hx, h1]
    · by_cases h2 : y = 12
      · simp [hx, h2]
      · by_cases h3 : y = 11
        · simp [hx, h3]
        · by_cases h4 : y = 10
          · simp [hx, h4]
          · by_cases h5 : y = 9
            · simp [hx, h5]
            · simp [hx, h1, h2, h3, h4, h5]
  · simp [hx]
theorem ps_mk' (X : Nat → Nat → Int32) (a b c p q : Int) : u2 (u2 (u2 (u2 (u2 X 287 12 (w a)) 287 9 (w b)) 287 10 (w c)) 287 11 (w p)) 287 13 (w q) = ps (u2 (u2 X 287 9 (w b)) 287 10 (w c)) p a q := ps_mk X (w a) (w b) (w c) (w p) (w q)
theorem vM_f {I I' : Nat → Nat → Int32} (h : ∀ k, I' 288 k = I 288 k) : vM I' = vM I := by
  funext z
  unfold vM mI
  simp only [h]
theorem lp_116 {d : Nat} {p h f hi pa t sk : Int} {i8 : Int32} {w9 : Value} {sy : Int → Int} (hM : MSH K L R) (hs : SaR I sy) (hb : 0 ≤ sy 4 ∧ sy 4 ≤ 758) (hk : 0 ≤ sk ∧ sk ≤ 99) : atv PR (d + 2) cd_259 116 [.ref 287, .int (w p), .int (w h), .int (w f), .int (w hi), .int (w pa), .int (w t), .int (w sk), .int i8, w9] [] (((vn, vc, vw, K, L, R), I, J) : HS) = some (.inl none, (((vn, vc, vw, K, L, R), u2 (u2 (u2 (u2 I 287 17 (w (aX sy f))) 287 18 (w (aY sy pa))) 287 19 (w (aS sy sk))) 287 20 (w (sy 5)), J) : HS)) := by
  have s0 : I 294 (ix 0) = w (sy 0) := hs 0 (by omega) (by omega)
  have s1 : I 294 (ix 1) = w (sy 1) := hs 1 (by omega) (by omega)
  have s2 : I 294 (ix 2) = w (sy 2) := hs 2 (by omega) (by omega)
  have s3 : I 294 (ix 3) = w (sy 3) := hs 3 (by omega) (by omega)
  have s4 : I 294 (ix 4) = w (sy 4) := hs 4 (by omega) (by omega)
  have s5 : I 294 (ix 5) = w (sy 5) := hs 5 (by omega) (by omega)
  rw [eq_259_116]
  unfold aX aY aS
  simp (disch := first | assumption | omega | (simp (disch := omega) only [vM_u, vS_u]; first | assumption | omega)) only [hK, hL, hR, hI, hN, sI, hSp, hC, hW, li, lr, ↓cnd_a, ↓cnd_o, ↓cnd_n, ↓cnd_d, ↓z0, ↓z1, ↓z2, y0n, y1i, y2r, y0e, y1e, y2e, wl_0, wl_1, wl_2, wl_3, wl_4, wl_5, wl_6, wl_7, wl_8, wl_9, wl_10, wl_11, wl_12, wl_13, wl_14, wl_15, wl_16, wl_17, wl_18, wl_19, wl_20, wl_21, wl_22, wl_23, wl_24, wl_25, wl_26, wl_27, wl_28, wl_29, wl_30, wl_31, wl_32, wl_33, wl_34, wl_35, wl_36, wl_37, wl_38, wl_39, wl_40, wl_41, wl_42, wl_43, wl_44, wl_45, wl_46, wl_47, wl_48, wl_49, wl_50, wl_51, wl_52, wl_53, wl_54, wl_55, wl_56, wl_57, wl_58, wl_59, wl_60, wl_61, wl_62, wl_63, wl_64, wl_65, wl_66, wl_67, wl_68, wl_69, wl_70, wl_71, wl_72, wl_73, wl_74, wl_75, wl_76, wl_77, wl_78, wl_79, wl_80, wl_81, wl_82, wl_83, wl_84, wl_85, wl_86, wl_87, wl_88, wl_89, wl_90, wl_91, wl_92, wl_93, wl_94, wl_95, wl_96, wl_97, wl_98, wl_99, wl_100, wl_101, wl_102, wl_103, wl_104, wl_105, wl_106, wl_107, wl_108, wl_109, wl_110, wl_111, wl_112, wl_113, wl_114, wl_115, wl_116, wl_117, wl_118, wl_119, wl_120, wl_121, wl_122, wl_123, wl_124, wl_125, wl_126, wl_127, wl_128, wl_129, wl_130, wl_159, wl_160, wl_200, wl_232, wl_255, wl_256, wl_300, wl_359, wl_360, wl_400, wl_592, wl_992, wl_999, wl_1000, wl_1024, wl_3456, wl_6512, wl_7104, wl_10000, wl_11264, wl_12345, wl_32767, wl_1000000000, wl_1103515245, wl_2000000000, w_add, w_sub, w_mul, w_neg, w_lt, w_le, w_eq, w_cl, w_in, w_nat, w_max2, w_min2, w_abs2, iltT, iltF, ileT, ileF, ieqT, ieqF, bv_01, bft, bv_0, bv_1, bv_t, bv_f, cond_true, cond_false, Bool.not_true, Bool.not_false, if_true, if_false, true_or, or_true, true_and, and_true, ↓reduceIte, decide_true, decide_false, reduceCtorEq, u2_s, u2_o, u2_k, u2_u2, Bool.true_or, Bool.or_true, Bool.false_or, Bool.or_false, Bool.and_true, Bool.true_and, Bool.and_false, Bool.false_and, eq_self, not_true_eq_false, not_false_eq_true, and_self, and_true, true_and, false_and, and_false, w_dv, dvm, MSH_e hM, s0, s1, s2, s3, s4, s5, sp_219, sp_220]
theorem lp_11 {d : Nat} {p h f hi pa t sk ln : Int} (hM : MSH K L R) (hl : I 288 1 = w ln) (hln : -1 ≤ ln ∧ ln ≤ 12) : ∃ I', atv PR (d + 2) cd_259 11 [.ref 287, .int (w p), .int (w h), .int (w f), .int (w hi), .int (w pa), .int (w t), .int (w sk), .int (w 0), .retAddr 0] [] (((vn, vc, vw, K, L, R), I, J) : HS) = atv PR (d + 2) cd_259 32 [.ref 287, .int (w p), .int (w h), .int (w f), .int (w hi), .int (w pa), .int (w t), .int (w sk), .int (w 6), .retAddr 0] [] (((vn, vc, vw, K, L, R), I', J) : HS) ∧ F294 I I' ∧ SaR I' (sy0 ln) := by
  have lp : ∀ (n : Nat) (k : Int) (I : Nat → Nat → Int32), 0 ≤ k → n + k = 6 → (∀ j, 0 ≤ j → j < k → I 294 (ix j) = w 0) → I 288 (ix 1) = w ln → ∃ I', atv PR (d + 2) cd_259 11 [.ref 287, .int (w p), .int (w h), .int (w f), .int (w hi), .int (w pa), .int (w t), .int (w sk), .int (w k), .retAddr 0] [] (((vn, vc, vw, K, L, R), I, J) : HS) = atv PR (d + 2) cd_259 32 [.ref 287, .int (w p), .int (w h), .int (w f), .int (w hi), .int (w pa), .int (w t), .int (w sk), .int (w 6), .retAddr 0] [] (((vn, vc, vw, K, L, R), I', J) : HS) ∧ F294 I I' ∧ SaR I' (sy0 ln) := by
    intro n
    induction n with
    | zero =>
      intro k I h0 hk hz hl
      have hk6 : k = 6 := by omega
      subst hk6
      by_cases c : ln = -1
      · refine ⟨u2 I 294 (ix 4) (w 2), ?_, F294_u, ?_⟩
        · rw [eq_259_11]
          simp (disch := first | assumption | omega | (simp (disch := omega) only [vM_u, vS_u]; first | assumption | omega)) only [hK, hL, hR, hI, hN, sI, hSp, hC, hW, li, lr, ↓cnd_a, ↓cnd_o, ↓cnd_n, ↓cnd_d, ↓z0, ↓z1, ↓z2, y0n, y1i, y2r, y0e, y1e, y2e, wl_0, wl_1, wl_2, wl_3, wl_4, wl_5, wl_6, wl_7, wl_8, wl_9, wl_10, wl_11, wl_12, wl_13, wl_14, wl_15, wl_16, wl_17, wl_18, wl_19, wl_20, wl_21, wl_22, wl_23, wl_24, wl_25, wl_26, wl_27, wl_28, wl_29, wl_30, wl_31, wl_32, wl_33, wl_34, wl_35, wl_36, wl_37, wl_38, wl_39, wl_40, wl_41, wl_42, wl_43, wl_44, wl_45, wl_46, wl_47, wl_48, wl_49, wl_50, wl_51, wl_52, wl_53, wl_54, wl_55, wl_56, wl_57, wl_58, wl_59, wl_60, wl_61, wl_62, wl_63, wl_64, wl_65, wl_66, wl_67, wl_68, wl_69, wl_70, wl_71, wl_72, wl_73, wl_74, wl_75, wl_76, wl_77, wl_78, wl_79, wl_80, wl_81, wl_82, wl_83, wl_84, wl_85, wl_86, wl_87, wl_88, wl_89, wl_90, wl_91, wl_92, wl_93, wl_94, wl_95, wl_96, wl_97, wl_98, wl_99, wl_100, wl_101, wl_102, wl_103, wl_104, wl_105, wl_106, wl_107, wl_108, wl_109, wl_110, wl_111, wl_112, wl_113, wl_114, wl_115, wl_116, wl_117, wl_118, wl_119, wl_120, wl_121, wl_122, wl_123, wl_124, wl_125, wl_126, wl_127, wl_128, wl_129, wl_130, wl_159, wl_160, wl_200, wl_232, wl_255, wl_256, wl_300, wl_359, wl_360, wl_400, wl_592, wl_992, wl_999, wl_1000, wl_1024, wl_3456, wl_6512, wl_7104, wl_10000, wl_11264, wl_12345, wl_32767, wl_1000000000, wl_1103515245, wl_2000000000, w_add, w_sub, w_mul, w_neg, w_lt, w_le, w_eq, w_cl, w_in, w_nat, w_max2, w_min2, w_abs2, iltT, iltF, ileT, ileF, ieqT, ieqF, bv_01, bft, bv_0, bv_1, bv_t, bv_f, cond_true, cond_false, Bool.not_true, Bool.not_false, if_true, if_false, true_or, or_true, true_and, and_true, ↓reduceIte, decide_true, decide_false, reduceCtorEq, u2_s, u2_o, u2_k, u2_u2, Bool.true_or, Bool.or_true, Bool.false_or, Bool.or_false, Bool.and_true, Bool.true_and, Bool.and_false, Bool.false_and, eq_self, not_true_eq_false, not_false_eq_true, and_self, and_true, true_and, false_and, and_false, w_dv, dvm, MSH_e hM, hl, c]
        · intro j h1 h2
          unfold sy0
          rw [u2_r]
          by_cases c4 : j = 4
          · rw [c4, if_pos ⟨rfl, rfl⟩, if_pos (by omega)]
          · have : ix j ≠ ix 4 := by unfold ix; omega
            rw [if_neg (fun x => this x.2), if_neg (by omega)]
            exact hz j h1 h2
      · refine ⟨I, ?_, F294_rf, ?_⟩
        · rw [eq_259_11]
          simp (disch := first | assumption | omega | (simp (disch := omega) only [vM_u, vS_u]; first | assumption | omega)) only [hK, hL, hR, hI, hN, sI, hSp, hC, hW, li, lr, ↓cnd_a, ↓cnd_o, ↓cnd_n, ↓cnd_d, ↓z0, ↓z1, ↓z2, y0n, y1i, y2r, y0e, y1e, y2e, wl_0, wl_1, wl_2, wl_3, wl_4, wl_5, wl_6, wl_7, wl_8, wl_9, wl_10, wl_11, wl_12, wl_13, wl_14, wl_15, wl_16, wl_17, wl_18, wl_19, wl_20, wl_21, wl_22, wl_23, wl_24, wl_25, wl_26, wl_27, wl_28, wl_29, wl_30, wl_31, wl_32, wl_33, wl_34, wl_35, wl_36, wl_37, wl_38, wl_39, wl_40, wl_41, wl_42, wl_43, wl_44, wl_45, wl_46, wl_47, wl_48, wl_49, wl_50, wl_51, wl_52, wl_53, wl_54, wl_55, wl_56, wl_57, wl_58, wl_59, wl_60, wl_61, wl_62, wl_63, wl_64, wl_65, wl_66, wl_67, wl_68, wl_69, wl_70, wl_71, wl_72, wl_73, wl_74, wl_75, wl_76, wl_77, wl_78, wl_79, wl_80, wl_81, wl_82, wl_83, wl_84, wl_85, wl_86, wl_87, wl_88, wl_89, wl_90, wl_91, wl_92, wl_93, wl_94, wl_95, wl_96, wl_97, wl_98, wl_99, wl_100, wl_101, wl_102, wl_103, wl_104, wl_105, wl_106, wl_107, wl_108, wl_109, wl_110, wl_111, wl_112, wl_113, wl_114, wl_115, wl_116, wl_117, wl_118, wl_119, wl_120, wl_121, wl_122, wl_123, wl_124, wl_125, wl_126, wl_127, wl_128, wl_129, wl_130, wl_159, wl_160, wl_200, wl_232, wl_255, wl_256, wl_300, wl_359, wl_360, wl_400, wl_592, wl_992, wl_999, wl_1000, wl_1024, wl_3456, wl_6512, wl_7104, wl_10000, wl_11264, wl_12345, wl_32767, wl_1000000000, wl_1103515245, wl_2000000000, w_add, w_sub, w_mul, w_neg, w_lt, w_le, w_eq, w_cl, w_in, w_nat, w_max2, w_min2, w_abs2, iltT, iltF, ileT, ileF, ieqT, ieqF, bv_01, bft, bv_0, bv_1, bv_t, bv_f, cond_true, cond_false, Bool.not_true, Bool.not_false, if_true, if_false, true_or, or_true, true_and, and_true, ↓reduceIte, decide_true, decide_false, reduceCtorEq, u2_s, u2_o, u2_k, u2_u2, Bool.true_or, Bool.or_true, Bool.false_or, Bool.or_false, Bool.and_true, Bool.true_and, Bool.and_false, Bool.false_and, eq_self, not_true_eq_false, not_false_eq_true, and_self, and_true, true_and, false_and, and_false, w_dv, dvm, MSH_e hM, hl, c]
        · intro j h1 h2
          unfold sy0
          rw [if_neg (by omega)]
          exact hz j h1 h2
    | succ n ih =>
      intro k I h0 hk hz hl
      have hz2 : ∀ j, 0 ≤ j → j < k + 1 → u2 I 294 (ix k) (w 0) 294 (ix j) = w 0 := by
        intro j h1 h2
        rw [u2_r]
        by_cases c : j = k
        · rw [c, if_pos ⟨rfl, rfl⟩]
        · have : ix j ≠ ix k := by unfold ix; omega
          rw [if_neg (fun x => this x.2)]
          exact hz j h1 (by omega)
      obtain ⟨I', e1, e2, e3⟩ := ih (k + 1) (u2 I 294 (ix k) (w 0)) (by omega) (by omega) hz2 (by rw [u2_r, if_neg (by omega)]; exact hl)
      refine ⟨I', ?_, F294_tr F294_u e2, e3⟩
      rw [eq_259_11]
      simp (disch := first | assumption | omega | (simp (disch := omega) only [vM_u, vS_u]; first | assumption | omega)) only [hK, hL, hR, hI, hN, sI, hSp, hC, hW, li, lr, ↓cnd_a, ↓cnd_o, ↓cnd_n, ↓cnd_d, ↓z0, ↓z1, ↓z2, y0n, y1i, y2r, y0e, y1e, y2e, wl_0, wl_1, wl_2, wl_3, wl_4, wl_5, wl_6, wl_7, wl_8, wl_9, wl_10, wl_11, wl_12, wl_13, wl_14, wl_15, wl_16, wl_17, wl_18, wl_19, wl_20, wl_21, wl_22, wl_23, wl_24, wl_25, wl_26, wl_27, wl_28, wl_29, wl_30, wl_31, wl_32, wl_33, wl_34, wl_35, wl_36, wl_37, wl_38, wl_39, wl_40, wl_41, wl_42, wl_43, wl_44, wl_45, wl_46, wl_47, wl_48, wl_49, wl_50, wl_51, wl_52, wl_53, wl_54, wl_55, wl_56, wl_57, wl_58, wl_59, wl_60, wl_61, wl_62, wl_63, wl_64, wl_65, wl_66, wl_67, wl_68, wl_69, wl_70, wl_71, wl_72, wl_73, wl_74, wl_75, wl_76, wl_77, wl_78, wl_79, wl_80, wl_81, wl_82, wl_83, wl_84, wl_85, wl_86, wl_87, wl_88, wl_89, wl_90, wl_91, wl_92, wl_93, wl_94, wl_95, wl_96, wl_97, wl_98, wl_99, wl_100, wl_101, wl_102, wl_103, wl_104, wl_105, wl_106, wl_107, wl_108, wl_109, wl_110, wl_111, wl_112, wl_113, wl_114, wl_115, wl_116, wl_117, wl_118, wl_119, wl_120, wl_121, wl_122, wl_123, wl_124, wl_125, wl_126, wl_127, wl_128, wl_129, wl_130, wl_159, wl_160, wl_200, wl_232, wl_255, wl_256, wl_300, wl_359, wl_360, wl_400, wl_592, wl_992, wl_999, wl_1000, wl_1024, wl_3456, wl_6512, wl_7104, wl_10000, wl_11264, wl_12345, wl_32767, wl_1000000000, wl_1103515245, wl_2000000000, w_add, w_sub, w_mul, w_neg, w_lt, w_le, w_eq, w_cl, w_in, w_nat, w_max2, w_min2, w_abs2, iltT, iltF, ileT, ileF, ieqT, ieqF, bv_01, bft, bv_0, bv_1, bv_t, bv_f, cond_true, cond_false, Bool.not_true, Bool.not_false, if_true, if_false, true_or, or_true, true_and, and_true, ↓reduceIte, decide_true, decide_false, reduceCtorEq, u2_s, u2_o, u2_k, u2_u2, Bool.true_or, Bool.or_true, Bool.false_or, Bool.or_false, Bool.and_true, Bool.true_and, Bool.and_false, Bool.false_and, eq_self, not_true_eq_false, not_false_eq_true, and_self, and_true, true_and, false_and, and_false, w_dv, dvm, MSH_e hM, e1]
  exact lp 6 0 I (by omega) (by omega) (fun j h1 h2 => by omega) hl
theorem F9_294 {I I' : Nat → Nat → Int32} (h : F294 I I') {q : Nat} : ∀ k, I' 287 k = I 287 k := fun k => h _ _ (by decide)
/-- what the reference's aim leaves -/
def FAr (I I' : Nat → Nat → Int32) : Prop := ∀ a k, a ≠ 293 → a ≠ 294 → (a = 287 → ¬(9 ≤ k ∧ k ≤ 20) ∨ k = 12 ∨ k = 14 ∨ k = 16) → I' a k = I a k
theorem sp_259 {d : Nat} {p h f hi pa t sk th we : Int} {ss : List Int} {ln fl : Int} (hM : MSH K L R) (hA : SWA K L I) (hL2 : RLaw I ss ln) (hB : BD (vM I)) (hp : 0 ≤ p ∧ p < vM I 5) (hh : 0 ≤ h ∧ h < vM I 4) (hfl : I 287 12 = w fl) (ht : 0 ≤ t ∧ t ≤ 1000) (hpe : 0 ≤ pe (vM I) p 0 ∧ pe (vM I) p 0 ≤ 99)
    (e1 : sk = min 99 (pe (vM I) p 0 + t)) (e2 : th = pe (vM I) p 1 + t) (e3 : we = if ho (vM I) h 2 = 1 then 1 else 0) (hho : 0 ≤ ho (vM I) h 2 ∧ ho (vM I) h 2 ≤ 1)
    (hb : ∀ k, 0 ≤ syA ss ln p h f hi pa sk th we k ∧ syA ss ln p h f hi pa sk th we k ≤ 758) :
    ∃ I', ev PR (d + 34) 259 [.ref 287, .int (w p), .int (w h), .int (w f), .int (w hi), .int (w pa), .int (w t)] (((vn, vc, vw, K, L, R), I, J) : HS) = some (.inl none, (((vn, vc, vw, K, L, R), I', J) : HS)) ∧ FAr I I' ∧
      I' 287 17 = w (aX (syA ss ln p h f hi pa sk th we) f) ∧ I' 287 18 = w (aY (syA ss ln p h f hi pa sk th we) pa) ∧
      I' 287 19 = w (aS (syA ss ln p h f hi pa sk th we) sk) ∧ I' 287 20 = w (syA ss ln p h f hi pa sk th we 5) ∧ ((I 287 15 = w 0 ∨ I 287 15 = w 1) → (I' 287 15 = w 0 ∨ I' 287 15 = w 1)) := by
  obtain ⟨T, e, g1, g2, g3, g4, g5, g6, g7, g8⟩ := hL2
  have hB4 : vM I 4 ≤ 8 := hB.2.1.2
  have hB5 : vM I 5 ≤ 6 := hB.2.2.1.2
  obtain ⟨I1, k1, k2, k3⟩ := lp_11 (d := d + 31) (p := p) (h := h) (f := f) (hi := hi) (pa := pa) (t := t) (sk := sk) (vn := vn) (vc := vc) (vw := vw) (J := J) hM g1 g4
  have hv1 : vM I1 = vM I := vM_f fun k => k2 _ _ (by decide)
  have go1 : ev PR (d + 34) 259 [.ref 287, .int (w p), .int (w h), .int (w f), .int (w hi), .int (w pa), .int (w t)] (((vn, vc, vw, K, L, R), I, J) : HS) = atv PR (d + 33) cd_259 32 [.ref 287, .int (w p), .int (w h), .int (w f), .int (w hi), .int (w pa), .int (w t), .int (w sk), .int (w 6), .retAddr 0] [] (((vn, vc, vw, K, L, R), I1, J) : HS) := by
    rw [← k1, eq_259]
    simp (disch := first | assumption | omega | (simp (disch := omega) only [vM_u, vS_u]; first | assumption | omega)) only [hK, hL, hR, hI, hN, sI, hSp, hC, hW, li, lr, ↓cnd_a, ↓cnd_o, ↓cnd_n, ↓cnd_d, ↓z0, ↓z1, ↓z2, y0n, y1i, y2r, y0e, y1e, y2e, wl_0, wl_1, wl_2, wl_3, wl_4, wl_5, wl_6, wl_7, wl_8, wl_9, wl_10, wl_11, wl_12, wl_13, wl_14, wl_15, wl_16, wl_17, wl_18, wl_19, wl_20, wl_21, wl_22, wl_23, wl_24, wl_25, wl_26, wl_27, wl_28, wl_29, wl_30, wl_31, wl_32, wl_33, wl_34, wl_35, wl_36, wl_37, wl_38, wl_39, wl_40, wl_41, wl_42, wl_43, wl_44, wl_45, wl_46, wl_47, wl_48, wl_49, wl_50, wl_51, wl_52, wl_53, wl_54, wl_55, wl_56, wl_57, wl_58, wl_59, wl_60, wl_61, wl_62, wl_63, wl_64, wl_65, wl_66, wl_67, wl_68, wl_69, wl_70, wl_71, wl_72, wl_73, wl_74, wl_75, wl_76, wl_77, wl_78, wl_79, wl_80, wl_81, wl_82, wl_83, wl_84, wl_85, wl_86, wl_87, wl_88, wl_89, wl_90, wl_91, wl_92, wl_93, wl_94, wl_95, wl_96, wl_97, wl_98, wl_99, wl_100, wl_101, wl_102, wl_103, wl_104, wl_105, wl_106, wl_107, wl_108, wl_109, wl_110, wl_111, wl_112, wl_113, wl_114, wl_115, wl_116, wl_117, wl_118, wl_119, wl_120, wl_121, wl_122, wl_123, wl_124, wl_125, wl_126, wl_127, wl_128, wl_129, wl_130, wl_159, wl_160, wl_200, wl_232, wl_255, wl_256, wl_300, wl_359, wl_360, wl_400, wl_592, wl_992, wl_999, wl_1000, wl_1024, wl_3456, wl_6512, wl_7104, wl_10000, wl_11264, wl_12345, wl_32767, wl_1000000000, wl_1103515245, wl_2000000000, w_add, w_sub, w_mul, w_neg, w_lt, w_le, w_eq, w_cl, w_in, w_nat, w_max2, w_min2, w_abs2, iltT, iltF, ileT, ileF, ieqT, ieqF, bv_01, bft, bv_0, bv_1, bv_t, bv_f, cond_true, cond_false, Bool.not_true, Bool.not_false, if_true, if_false, true_or, or_true, true_and, and_true, ↓reduceIte, decide_true, decide_false, reduceCtorEq, u2_s, u2_o, u2_k, u2_u2, Bool.true_or, Bool.or_true, Bool.false_or, Bool.or_false, Bool.and_true, Bool.true_and, Bool.and_false, Bool.false_and, eq_self, not_true_eq_false, not_false_eq_true, and_self, and_true, true_and, false_and, and_false, w_dv, dvm, MSH_e hM, sp_225 hM, sp_219, e1]
  have hsk : 0 ≤ sk ∧ sk ≤ 99 := by omega
  have h1 : I1 288 (ix 1) = w ln := (k2 _ _ (by decide)).trans g1
  have fin : ∀ (I2 : Nat → Nat → Int32) (i8 : Int32) (w9 : Value), FAr I I2 → ((I 287 15 = w 0 ∨ I 287 15 = w 1) → (I2 287 15 = w 0 ∨ I2 287 15 = w 1)) → SaR I2 (syA ss ln p h f hi pa sk th we) → ev PR (d + 34) 259 [.ref 287, .int (w p), .int (w h), .int (w f), .int (w hi), .int (w pa), .int (w t)] (((vn, vc, vw, K, L, R), I, J) : HS) = atv PR (d + 33) cd_259 116 [.ref 287, .int (w p), .int (w h), .int (w f), .int (w hi), .int (w pa), .int (w t), .int (w sk), .int i8, w9] [] (((vn, vc, vw, K, L, R), I2, J) : HS) → ∃ I', ev PR (d + 34) 259 [.ref 287, .int (w p), .int (w h), .int (w f), .int (w hi), .int (w pa), .int (w t)] (((vn, vc, vw, K, L, R), I, J) : HS) = some (.inl none, (((vn, vc, vw, K, L, R), I', J) : HS)) ∧ FAr I I' ∧
      I' 287 17 = w (aX (syA ss ln p h f hi pa sk th we) f) ∧ I' 287 18 = w (aY (syA ss ln p h f hi pa sk th we) pa) ∧
      I' 287 19 = w (aS (syA ss ln p h f hi pa sk th we) sk) ∧ I' 287 20 = w (syA ss ln p h f hi pa sk th we 5) ∧ ((I 287 15 = w 0 ∨ I 287 15 = w 1) → (I' 287 15 = w 0 ∨ I' 287 15 = w 1)) := by
    intro I2 i8 w9 hf h15 hs hgo
    refine ⟨_, hgo.trans (lp_116 (d := d + 31) hM hs (hb 4) hsk), ?_, rfl, rfl, rfl, rfl, fun x => by rw [u2_k _ _ _ _ (by decide), u2_k _ _ _ _ (by decide), u2_k _ _ _ _ (by decide), u2_k _ _ _ _ (by decide)]; exact h15 x⟩
    intro a k n1 n2 n3
    rw [u2_r, if_neg (by omega), u2_r, if_neg (by omega), u2_r, if_neg (by omega), u2_r, if_neg (by omega)]
    exact hf a k n1 n2 n3
  by_cases cl : ln ≤ 0
  · have hss : ss = [] := g7 cl
    refine fin I1 (w 6) (.retAddr 0) (fun a k n1 n2 n3 => k2 a k n2) (fun x => by rw [k2 _ _ (by decide)]; exact x) ?_ ?_
    · subst hss
      exact k3
    · rw [go1, eq_259_32]
      simp (disch := first | assumption | omega | (simp (disch := omega) only [vM_u, vS_u]; first | assumption | omega)) only [hK, hL, hR, hI, hN, sI, hSp, hC, hW, li, lr, ↓cnd_a, ↓cnd_o, ↓cnd_n, ↓cnd_d, ↓z0, ↓z1, ↓z2, y0n, y1i, y2r, y0e, y1e, y2e, wl_0, wl_1, wl_2, wl_3, wl_4, wl_5, wl_6, wl_7, wl_8, wl_9, wl_10, wl_11, wl_12, wl_13, wl_14, wl_15, wl_16, wl_17, wl_18, wl_19, wl_20, wl_21, wl_22, wl_23, wl_24, wl_25, wl_26, wl_27, wl_28, wl_29, wl_30, wl_31, wl_32, wl_33, wl_34, wl_35, wl_36, wl_37, wl_38, wl_39, wl_40, wl_41, wl_42, wl_43, wl_44, wl_45, wl_46, wl_47, wl_48, wl_49, wl_50, wl_51, wl_52, wl_53, wl_54, wl_55, wl_56, wl_57, wl_58, wl_59, wl_60, wl_61, wl_62, wl_63, wl_64, wl_65, wl_66, wl_67, wl_68, wl_69, wl_70, wl_71, wl_72, wl_73, wl_74, wl_75, wl_76, wl_77, wl_78, wl_79, wl_80, wl_81, wl_82, wl_83, wl_84, wl_85, wl_86, wl_87, wl_88, wl_89, wl_90, wl_91, wl_92, wl_93, wl_94, wl_95, wl_96, wl_97, wl_98, wl_99, wl_100, wl_101, wl_102, wl_103, wl_104, wl_105, wl_106, wl_107, wl_108, wl_109, wl_110, wl_111, wl_112, wl_113, wl_114, wl_115, wl_116, wl_117, wl_118, wl_119, wl_120, wl_121, wl_122, wl_123, wl_124, wl_125, wl_126, wl_127, wl_128, wl_129, wl_130, wl_159, wl_160, wl_200, wl_232, wl_255, wl_256, wl_300, wl_359, wl_360, wl_400, wl_592, wl_992, wl_999, wl_1000, wl_1024, wl_3456, wl_6512, wl_7104, wl_10000, wl_11264, wl_12345, wl_32767, wl_1000000000, wl_1103515245, wl_2000000000, w_add, w_sub, w_mul, w_neg, w_lt, w_le, w_eq, w_cl, w_in, w_nat, w_max2, w_min2, w_abs2, iltT, iltF, ileT, ileF, ieqT, ieqF, bv_01, bft, bv_0, bv_1, bv_t, bv_f, cond_true, cond_false, Bool.not_true, Bool.not_false, if_true, if_false, true_or, or_true, true_and, and_true, ↓reduceIte, decide_true, decide_false, reduceCtorEq, u2_s, u2_o, u2_k, u2_u2, Bool.true_or, Bool.or_true, Bool.false_or, Bool.or_false, Bool.and_true, Bool.true_and, Bool.and_false, Bool.false_and, eq_self, not_true_eq_false, not_false_eq_true, and_self, and_true, true_and, false_and, and_false, w_dv, dvm, MSH_e hM, h1]
  · obtain ⟨I2, hI2⟩ : ∃ I2, I2 = u2 (u2 (u2 (u2 (u2 (u2 (u2 I1 293 (ix 0) (w p)) 293 (ix 1) (w h)) 293 (ix 2) (w f)) 293 (ix 3) (w hi)) 293 (ix 4) (w pa)) 293 (ix 5) (w sk)) 293 (ix 6) (w th) := ⟨_, rfl⟩
    have hv2 : vM I2 = vM I := by
      rw [hI2, vM_u (by decide), vM_u (by decide), vM_u (by decide), vM_u (by decide), vM_u (by decide), vM_u (by decide), vM_u (by decide), hv1]
    have f2 : ∀ a k, a ≠ 293 → I2 a k = I1 a k := by
      intro a k ha
      rw [hI2]
      simp only [u2_r]
      rw [if_neg (by omega), if_neg (by omega), if_neg (by omega), if_neg (by omega), if_neg (by omega), if_neg (by omega), if_neg (by omega)]
    have go2 : ev PR (d + 34) 259 [.ref 287, .int (w p), .int (w h), .int (w f), .int (w hi), .int (w pa), .int (w t)] (((vn, vc, vw, K, L, R), I, J) : HS) = atv PR (d + 33) cd_259 87 [.ref 287, .int (w p), .int (w h), .int (w f), .int (w hi), .int (w pa), .int (w t), .int (w sk), .int (w 6), .retAddr 0] [.int (w we), .ref 287] (((vn, vc, vw, K, L, R), I2, J) : HS) := by
      have q1 : (0 ≤ p ∧ p < vM I1 5 ∧ vM I1 5 ≤ 6) ∧ (0 : Int) ≤ 1 ∧ (1 : Int) < 3 := by rw [hv1]; omega
      have q2 : (0 ≤ h ∧ h < vM I2 4 ∧ vM I2 4 ≤ 8) ∧ (0 : Int) ≤ 2 ∧ (2 : Int) < 3 := by rw [hv2]; omega
      rw [hv1] at q1
      have q3 : p < vM I1 5 ∧ vM I1 5 ≤ 6 := by rw [hv1]; omega
      have q4 : h < vM I1 4 ∧ vM I1 4 ≤ 8 := by rw [hv1]; omega
      rw [go1, eq_259_32]
      rw [e2] at hI2
      subst e3
      by_cases cw : ho (vM I) h 2 = 1
      · simp (disch := first | assumption | omega | (simp (disch := omega) only [vM_u, vS_u]; first | assumption | omega)) only [hK, hL, hR, hI, hN, sI, hSp, hC, hW, li, lr, ↓cnd_a, ↓cnd_o, ↓cnd_n, ↓cnd_d, ↓z0, ↓z1, ↓z2, y0n, y1i, y2r, y0e, y1e, y2e, wl_0, wl_1, wl_2, wl_3, wl_4, wl_5, wl_6, wl_7, wl_8, wl_9, wl_10, wl_11, wl_12, wl_13, wl_14, wl_15, wl_16, wl_17, wl_18, wl_19, wl_20, wl_21, wl_22, wl_23, wl_24, wl_25, wl_26, wl_27, wl_28, wl_29, wl_30, wl_31, wl_32, wl_33, wl_34, wl_35, wl_36, wl_37, wl_38, wl_39, wl_40, wl_41, wl_42, wl_43, wl_44, wl_45, wl_46, wl_47, wl_48, wl_49, wl_50, wl_51, wl_52, wl_53, wl_54, wl_55, wl_56, wl_57, wl_58, wl_59, wl_60, wl_61, wl_62, wl_63, wl_64, wl_65, wl_66, wl_67, wl_68, wl_69, wl_70, wl_71, wl_72, wl_73, wl_74, wl_75, wl_76, wl_77, wl_78, wl_79, wl_80, wl_81, wl_82, wl_83, wl_84, wl_85, wl_86, wl_87, wl_88, wl_89, wl_90, wl_91, wl_92, wl_93, wl_94, wl_95, wl_96, wl_97, wl_98, wl_99, wl_100, wl_101, wl_102, wl_103, wl_104, wl_105, wl_106, wl_107, wl_108, wl_109, wl_110, wl_111, wl_112, wl_113, wl_114, wl_115, wl_116, wl_117, wl_118, wl_119, wl_120, wl_121, wl_122, wl_123, wl_124, wl_125, wl_126, wl_127, wl_128, wl_129, wl_130, wl_159, wl_160, wl_200, wl_232, wl_255, wl_256, wl_300, wl_359, wl_360, wl_400, wl_592, wl_992, wl_999, wl_1000, wl_1024, wl_3456, wl_6512, wl_7104, wl_10000, wl_11264, wl_12345, wl_32767, wl_1000000000, wl_1103515245, wl_2000000000, w_add, w_sub, w_mul, w_neg, w_lt, w_le, w_eq, w_cl, w_in, w_nat, w_max2, w_min2, w_abs2, iltT, iltF, ileT, ileF, ieqT, ieqF, bv_01, bft, bv_0, bv_1, bv_t, bv_f, cond_true, cond_false, Bool.not_true, Bool.not_false, if_true, if_false, true_or, or_true, true_and, and_true, ↓reduceIte, decide_true, decide_false, reduceCtorEq, u2_s, u2_o, u2_k, u2_u2, Bool.true_or, Bool.or_true, Bool.false_or, Bool.or_false, Bool.and_true, Bool.true_and, Bool.and_false, Bool.false_and, eq_self, not_true_eq_false, not_false_eq_true, and_self, and_true, true_and, false_and, and_false, w_dv, dvm, MSH_e hM, h1, sp_225 hM, sp_224 hM, vM_u, hv1, cw, hI2]
      · simp (disch := first | assumption | omega | (simp (disch := omega) only [vM_u, vS_u]; first | assumption | omega)) only [hK, hL, hR, hI, hN, sI, hSp, hC, hW, li, lr, ↓cnd_a, ↓cnd_o, ↓cnd_n, ↓cnd_d, ↓z0, ↓z1, ↓z2, y0n, y1i, y2r, y0e, y1e, y2e, wl_0, wl_1, wl_2, wl_3, wl_4, wl_5, wl_6, wl_7, wl_8, wl_9, wl_10, wl_11, wl_12, wl_13, wl_14, wl_15, wl_16, wl_17, wl_18, wl_19, wl_20, wl_21, wl_22, wl_23, wl_24, wl_25, wl_26, wl_27, wl_28, wl_29, wl_30, wl_31, wl_32, wl_33, wl_34, wl_35, wl_36, wl_37, wl_38, wl_39, wl_40, wl_41, wl_42, wl_43, wl_44, wl_45, wl_46, wl_47, wl_48, wl_49, wl_50, wl_51, wl_52, wl_53, wl_54, wl_55, wl_56, wl_57, wl_58, wl_59, wl_60, wl_61, wl_62, wl_63, wl_64, wl_65, wl_66, wl_67, wl_68, wl_69, wl_70, wl_71, wl_72, wl_73, wl_74, wl_75, wl_76, wl_77, wl_78, wl_79, wl_80, wl_81, wl_82, wl_83, wl_84, wl_85, wl_86, wl_87, wl_88, wl_89, wl_90, wl_91, wl_92, wl_93, wl_94, wl_95, wl_96, wl_97, wl_98, wl_99, wl_100, wl_101, wl_102, wl_103, wl_104, wl_105, wl_106, wl_107, wl_108, wl_109, wl_110, wl_111, wl_112, wl_113, wl_114, wl_115, wl_116, wl_117, wl_118, wl_119, wl_120, wl_121, wl_122, wl_123, wl_124, wl_125, wl_126, wl_127, wl_128, wl_129, wl_130, wl_159, wl_160, wl_200, wl_232, wl_255, wl_256, wl_300, wl_359, wl_360, wl_400, wl_592, wl_992, wl_999, wl_1000, wl_1024, wl_3456, wl_6512, wl_7104, wl_10000, wl_11264, wl_12345, wl_32767, wl_1000000000, wl_1103515245, wl_2000000000, w_add, w_sub, w_mul, w_neg, w_lt, w_le, w_eq, w_cl, w_in, w_nat, w_max2, w_min2, w_abs2, iltT, iltF, ileT, ileF, ieqT, ieqF, bv_01, bft, bv_0, bv_1, bv_t, bv_f, cond_true, cond_false, Bool.not_true, Bool.not_false, if_true, if_false, true_or, or_true, true_and, and_true, ↓reduceIte, decide_true, decide_false, reduceCtorEq, u2_s, u2_o, u2_k, u2_u2, Bool.true_or, Bool.or_true, Bool.false_or, Bool.or_false, Bool.and_true, Bool.true_and, Bool.and_false, Bool.false_and, eq_self, not_true_eq_false, not_false_eq_true, and_self, and_true, true_and, false_and, and_false, w_dv, dvm, MSH_e hM, h1, sp_225 hM, sp_224 hM, vM_u, hv1, hI2]
    obtain ⟨I3, hI3⟩ : ∃ I3, I3 = u2 (u2 (u2 I2 287 15 (w we)) 287 9 (w 592)) 287 10 (w e) := ⟨_, rfl⟩
    have f3 : ∀ a k, a ≠ 287 → I3 a k = I2 a k := by
      intro a k ha
      rw [hI3]
      simp only [u2_r]
      rw [if_neg (by omega), if_neg (by omega), if_neg (by omega)]
    have hwe : we = 0 ∨ we = 1 := by
      rw [e3]
      by_cases cw : ho (vM I) h 2 = 1
      · rw [if_pos cw]; exact Or.inr rfl
      · rw [if_neg cw]; exact Or.inl rfl
    have hT : TxR I3 T e := by
      refine ⟨?_, g3, g5, Or.inr ⟨?_, ?_⟩⟩
      · rw [hI3, u2_s]
      · rw [hI3, u2_k _ _ _ _ (by decide), u2_s]
      · intro k a b
        rw [f3 _ _ (by decide), f2 _ _ (by decide), k2 _ _ (by decide)]
        exact g6 k a b
    have hA3 : SWA K L I3 := SWA_f (fun a k ha => by rw [f3 _ _ (by omega), f2 _ _ (by omega), k2 _ _ (by omega)]) hA
    have hF : FctR I3 (Fc p h f hi pa sk th we) := by
      refine ⟨?_, ?_, ?_⟩
      · intro k a b
        rw [f3 _ _ (by decide), hI2]
        unfold Fc
        rcases (by omega : k = 0 ∨ k = 1 ∨ k = 2 ∨ k = 3 ∨ k = 4 ∨ k = 5 ∨ k = 6) with rfl | rfl | rfl | rfl | rfl | rfl | rfl <;> rfl
      · rw [hI3, u2_k _ _ _ _ (by decide), u2_k _ _ _ _ (by decide), u2_s]
        rfl
      · rcases hwe with rfl | rfl
        · exact Or.inl rfl
        · exact Or.inr rfl
    have hS3 : SaR I3 (sy0 ln) := fun k a b => by
      rw [f3 _ _ (by decide), f2 _ _ (by decide)]
      exact k3 k a b
    have g := sp_246 (d := d + 2) (vn := vn) (vc := vc) (vw := vw) (J := J) hM hT hA3 hF hS3
    rw [g8 (by omega)] at g
    obtain ⟨I4, a4, j1, j2, j3, _⟩ := g
    have he2 : I2 288 (ix 2) = w e := by rw [f2 _ _ (by decide), k2 _ _ (by decide)]; exact g2
    have hf2 : I2 287 12 = w fl := by rw [f2 _ _ (by decide), k2 _ _ (by decide)]; exact hfl
    rw [hI3] at j1
    refine fin (u2 (ps I4 a4 (-1) 0) 287 12 (w fl)) (w fl) (.int (w ln)) ?_ (fun _ => ?_) ?_ ?_
    · intro a k n1 n2 n3
      rw [u2_r]
      by_cases c : a = 287 ∧ k = 12
      · rw [if_pos c, c.1, c.2, hfl]
      · rw [if_neg c, ps_x, if_neg (by omega), if_neg (by omega), if_neg (by omega), j2 _ _ n2, hI3]
        simp only [u2_r]
        rw [if_neg (by omega), if_neg (by omega), if_neg (by omega), f2 _ _ n1, k2 _ _ n2]
    · have q15 : u2 (ps I4 a4 (-1) 0) 287 12 (w fl) 287 15 = w we := by
        rw [u2_k _ _ _ _ (by decide), ps_o _ _ _ _ (by decide), j2 _ _ (by decide), hI3, u2_k _ _ _ _ (by decide), u2_k _ _ _ _ (by decide), u2_s]
      rw [q15]
      rcases hwe with rfl | rfl
      · exact Or.inl rfl
      · exact Or.inr rfl
    · intro k a b
      rw [u2_r, if_neg (by omega), ps_o _ _ _ _ (by omega)]
      exact j3 k a b
    · rw [go2, eq_259_87]
      have hbo : w we = w 0 ∨ w we = w 1 := by rcases hwe with rfl | rfl <;> simp
      rcases hwe with rfl | rfl
      · simp (disch := first | assumption | omega | (simp (disch := omega) only [vM_u, vS_u]; first | assumption | omega)) only [hK, hL, hR, hI, hN, sI, hSp, hC, hW, li, lr, ↓cnd_a, ↓cnd_o, ↓cnd_n, ↓cnd_d, ↓z0, ↓z1, ↓z2, y0n, y1i, y2r, y0e, y1e, y2e, wl_0, wl_1, wl_2, wl_3, wl_4, wl_5, wl_6, wl_7, wl_8, wl_9, wl_10, wl_11, wl_12, wl_13, wl_14, wl_15, wl_16, wl_17, wl_18, wl_19, wl_20, wl_21, wl_22, wl_23, wl_24, wl_25, wl_26, wl_27, wl_28, wl_29, wl_30, wl_31, wl_32, wl_33, wl_34, wl_35, wl_36, wl_37, wl_38, wl_39, wl_40, wl_41, wl_42, wl_43, wl_44, wl_45, wl_46, wl_47, wl_48, wl_49, wl_50, wl_51, wl_52, wl_53, wl_54, wl_55, wl_56, wl_57, wl_58, wl_59, wl_60, wl_61, wl_62, wl_63, wl_64, wl_65, wl_66, wl_67, wl_68, wl_69, wl_70, wl_71, wl_72, wl_73, wl_74, wl_75, wl_76, wl_77, wl_78, wl_79, wl_80, wl_81, wl_82, wl_83, wl_84, wl_85, wl_86, wl_87, wl_88, wl_89, wl_90, wl_91, wl_92, wl_93, wl_94, wl_95, wl_96, wl_97, wl_98, wl_99, wl_100, wl_101, wl_102, wl_103, wl_104, wl_105, wl_106, wl_107, wl_108, wl_109, wl_110, wl_111, wl_112, wl_113, wl_114, wl_115, wl_116, wl_117, wl_118, wl_119, wl_120, wl_121, wl_122, wl_123, wl_124, wl_125, wl_126, wl_127, wl_128, wl_129, wl_130, wl_159, wl_160, wl_200, wl_232, wl_255, wl_256, wl_300, wl_359, wl_360, wl_400, wl_592, wl_992, wl_999, wl_1000, wl_1024, wl_3456, wl_6512, wl_7104, wl_10000, wl_11264, wl_12345, wl_32767, wl_1000000000, wl_1103515245, wl_2000000000, w_add, w_sub, w_mul, w_neg, w_lt, w_le, w_eq, w_cl, w_in, w_nat, w_max2, w_min2, w_abs2, iltT, iltF, ileT, ileF, ieqT, ieqF, bv_01, bft, bv_0, bv_1, bv_t, bv_f, cond_true, cond_false, Bool.not_true, Bool.not_false, if_true, if_false, true_or, or_true, true_and, and_true, ↓reduceIte, decide_true, decide_false, reduceCtorEq, u2_s, u2_o, u2_k, u2_u2, Bool.true_or, Bool.or_true, Bool.false_or, Bool.or_false, Bool.and_true, Bool.true_and, Bool.and_false, Bool.false_and, eq_self, not_true_eq_false, not_false_eq_true, and_self, and_true, true_and, false_and, and_false, w_dv, dvm, MSH_e hM, he2, hf2, ps_mk']
        rw [j1]
        simp (disch := first | assumption | omega | (simp (disch := omega) only [vM_u, vS_u]; first | assumption | omega)) only [hK, hL, hR, hI, hN, sI, hSp, hC, hW, li, lr, ↓cnd_a, ↓cnd_o, ↓cnd_n, ↓cnd_d, ↓z0, ↓z1, ↓z2, y0n, y1i, y2r, y0e, y1e, y2e, wl_0, wl_1, wl_2, wl_3, wl_4, wl_5, wl_6, wl_7, wl_8, wl_9, wl_10, wl_11, wl_12, wl_13, wl_14, wl_15, wl_16, wl_17, wl_18, wl_19, wl_20, wl_21, wl_22, wl_23, wl_24, wl_25, wl_26, wl_27, wl_28, wl_29, wl_30, wl_31, wl_32, wl_33, wl_34, wl_35, wl_36, wl_37, wl_38, wl_39, wl_40, wl_41, wl_42, wl_43, wl_44, wl_45, wl_46, wl_47, wl_48, wl_49, wl_50, wl_51, wl_52, wl_53, wl_54, wl_55, wl_56, wl_57, wl_58, wl_59, wl_60, wl_61, wl_62, wl_63, wl_64, wl_65, wl_66, wl_67, wl_68, wl_69, wl_70, wl_71, wl_72, wl_73, wl_74, wl_75, wl_76, wl_77, wl_78, wl_79, wl_80, wl_81, wl_82, wl_83, wl_84, wl_85, wl_86, wl_87, wl_88, wl_89, wl_90, wl_91, wl_92, wl_93, wl_94, wl_95, wl_96, wl_97, wl_98, wl_99, wl_100, wl_101, wl_102, wl_103, wl_104, wl_105, wl_106, wl_107, wl_108, wl_109, wl_110, wl_111, wl_112, wl_113, wl_114, wl_115, wl_116, wl_117, wl_118, wl_119, wl_120, wl_121, wl_122, wl_123, wl_124, wl_125, wl_126, wl_127, wl_128, wl_129, wl_130, wl_159, wl_160, wl_200, wl_232, wl_255, wl_256, wl_300, wl_359, wl_360, wl_400, wl_592, wl_992, wl_999, wl_1000, wl_1024, wl_3456, wl_6512, wl_7104, wl_10000, wl_11264, wl_12345, wl_32767, wl_1000000000, wl_1103515245, wl_2000000000, w_add, w_sub, w_mul, w_neg, w_lt, w_le, w_eq, w_cl, w_in, w_nat, w_max2, w_min2, w_abs2, iltT, iltF, ileT, ileF, ieqT, ieqF, bv_01, bft, bv_0, bv_1, bv_t, bv_f, cond_true, cond_false, Bool.not_true, Bool.not_false, if_true, if_false, true_or, or_true, true_and, and_true, ↓reduceIte, decide_true, decide_false, reduceCtorEq, u2_s, u2_o, u2_k, u2_u2, Bool.true_or, Bool.or_true, Bool.false_or, Bool.or_false, Bool.and_true, Bool.true_and, Bool.and_false, Bool.false_and, eq_self, not_true_eq_false, not_false_eq_true, and_self, and_true, true_and, false_and, and_false, w_dv, dvm, MSH_e hM]
        rw [hf2]
      · simp (disch := first | assumption | omega | (simp (disch := omega) only [vM_u, vS_u]; first | assumption | omega)) only [hK, hL, hR, hI, hN, sI, hSp, hC, hW, li, lr, ↓cnd_a, ↓cnd_o, ↓cnd_n, ↓cnd_d, ↓z0, ↓z1, ↓z2, y0n, y1i, y2r, y0e, y1e, y2e, wl_0, wl_1, wl_2, wl_3, wl_4, wl_5, wl_6, wl_7, wl_8, wl_9, wl_10, wl_11, wl_12, wl_13, wl_14, wl_15, wl_16, wl_17, wl_18, wl_19, wl_20, wl_21, wl_22, wl_23, wl_24, wl_25, wl_26, wl_27, wl_28, wl_29, wl_30, wl_31, wl_32, wl_33, wl_34, wl_35, wl_36, wl_37, wl_38, wl_39, wl_40, wl_41, wl_42, wl_43, wl_44, wl_45, wl_46, wl_47, wl_48, wl_49, wl_50, wl_51, wl_52, wl_53, wl_54, wl_55, wl_56, wl_57, wl_58, wl_59, wl_60, wl_61, wl_62, wl_63, wl_64, wl_65, wl_66, wl_67, wl_68, wl_69, wl_70, wl_71, wl_72, wl_73, wl_74, wl_75, wl_76, wl_77, wl_78, wl_79, wl_80, wl_81, wl_82, wl_83, wl_84, wl_85, wl_86, wl_87, wl_88, wl_89, wl_90, wl_91, wl_92, wl_93, wl_94, wl_95, wl_96, wl_97, wl_98, wl_99, wl_100, wl_101, wl_102, wl_103, wl_104, wl_105, wl_106, wl_107, wl_108, wl_109, wl_110, wl_111, wl_112, wl_113, wl_114, wl_115, wl_116, wl_117, wl_118, wl_119, wl_120, wl_121, wl_122, wl_123, wl_124, wl_125, wl_126, wl_127, wl_128, wl_129, wl_130, wl_159, wl_160, wl_200, wl_232, wl_255, wl_256, wl_300, wl_359, wl_360, wl_400, wl_592, wl_992, wl_999, wl_1000, wl_1024, wl_3456, wl_6512, wl_7104, wl_10000, wl_11264, wl_12345, wl_32767, wl_1000000000, wl_1103515245, wl_2000000000, w_add, w_sub, w_mul, w_neg, w_lt, w_le, w_eq, w_cl, w_in, w_nat, w_max2, w_min2, w_abs2, iltT, iltF, ileT, ileF, ieqT, ieqF, bv_01, bft, bv_0, bv_1, bv_t, bv_f, cond_true, cond_false, Bool.not_true, Bool.not_false, if_true, if_false, true_or, or_true, true_and, and_true, ↓reduceIte, decide_true, decide_false, reduceCtorEq, u2_s, u2_o, u2_k, u2_u2, Bool.true_or, Bool.or_true, Bool.false_or, Bool.or_false, Bool.and_true, Bool.true_and, Bool.and_false, Bool.false_and, eq_self, not_true_eq_false, not_false_eq_true, and_self, and_true, true_and, false_and, and_false, w_dv, dvm, MSH_e hM, he2, hf2, ps_mk']
        rw [j1]
        simp (disch := first | assumption | omega | (simp (disch := omega) only [vM_u, vS_u]; first | assumption | omega)) only [hK, hL, hR, hI, hN, sI, hSp, hC, hW, li, lr, ↓cnd_a, ↓cnd_o, ↓cnd_n, ↓cnd_d, ↓z0, ↓z1, ↓z2, y0n, y1i, y2r, y0e, y1e, y2e, wl_0, wl_1, wl_2, wl_3, wl_4, wl_5, wl_6, wl_7, wl_8, wl_9, wl_10, wl_11, wl_12, wl_13, wl_14, wl_15, wl_16, wl_17, wl_18, wl_19, wl_20, wl_21, wl_22, wl_23, wl_24, wl_25, wl_26, wl_27, wl_28, wl_29, wl_30, wl_31, wl_32, wl_33, wl_34, wl_35, wl_36, wl_37, wl_38, wl_39, wl_40, wl_41, wl_42, wl_43, wl_44, wl_45, wl_46, wl_47, wl_48, wl_49, wl_50, wl_51, wl_52, wl_53, wl_54, wl_55, wl_56, wl_57, wl_58, wl_59, wl_60, wl_61, wl_62, wl_63, wl_64, wl_65, wl_66, wl_67, wl_68, wl_69, wl_70, wl_71, wl_72, wl_73, wl_74, wl_75, wl_76, wl_77, wl_78, wl_79, wl_80, wl_81, wl_82, wl_83, wl_84, wl_85, wl_86, wl_87, wl_88, wl_89, wl_90, wl_91, wl_92, wl_93, wl_94, wl_95, wl_96, wl_97, wl_98, wl_99, wl_100, wl_101, wl_102, wl_103, wl_104, wl_105, wl_106, wl_107, wl_108, wl_109, wl_110, wl_111, wl_112, wl_113, wl_114, wl_115, wl_116, wl_117, wl_118, wl_119, wl_120, wl_121, wl_122, wl_123, wl_124, wl_125, wl_126, wl_127, wl_128, wl_129, wl_130, wl_159, wl_160, wl_200, wl_232, wl_255, wl_256, wl_300, wl_359, wl_360, wl_400, wl_592, wl_992, wl_999, wl_1000, wl_1024, wl_3456, wl_6512, wl_7104, wl_10000, wl_11264, wl_12345, wl_32767, wl_1000000000, wl_1103515245, wl_2000000000, w_add, w_sub, w_mul, w_neg, w_lt, w_le, w_eq, w_cl, w_in, w_nat, w_max2, w_min2, w_abs2, iltT, iltF, ileT, ileF, ieqT, ieqF, bv_01, bft, bv_0, bv_1, bv_t, bv_f, cond_true, cond_false, Bool.not_true, Bool.not_false, if_true, if_false, true_or, or_true, true_and, and_true, ↓reduceIte, decide_true, decide_false, reduceCtorEq, u2_s, u2_o, u2_k, u2_u2, Bool.true_or, Bool.or_true, Bool.false_or, Bool.or_false, Bool.and_true, Bool.true_and, Bool.and_false, Bool.false_and, eq_self, not_true_eq_false, not_false_eq_true, and_self, and_true, true_and, false_and, and_false, w_dv, dvm, MSH_e hM]
        rw [hf2]
end AMR
