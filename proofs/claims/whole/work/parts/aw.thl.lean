/-! the reference's throw: the log -/
theorem logF_s {m : Int → Int} {p h x y c k a v : Int} (ha : a < 232 ∧ a ≠ 14) : logF (setm m a v) p h x y c k = setm (logF m p h x y c k) a v := by
  have e14 : setm m a v 14 = m 14 := setm_o m (by omega)
  have eo : openT (if setm m a v 14 = 60 then dropT (setm m a v) else setm m a v) = setm (openT (if m 14 = 60 then dropT m else m)) a v := by
    rw [e14]
    have ed : dropT (setm m a v) = setm (dropT m) a v := by
      funext z
      show (if z = 14 then setm m a v 14 - 1 else if 232 ≤ z ∧ z < 592 then (if z < 232 + 6 * (setm m a v 14 - 1) then setm m a v z else 0) else setm m a v z) = (if z = a then v else dropT m z)
      rw [e14]
      unfold dropT setm
      by_cases c1 : z = 14
      · rw [if_pos c1, if_neg (by omega), if_pos c1]
      · rw [if_neg c1, if_neg c1]
        by_cases c2 : 232 ≤ z ∧ z < 592
        · have hza : ¬z = a := by omega
          simp only [if_pos c2, if_neg hza]
        · simp only [if_neg c2]
    have eo : ∀ n : Int → Int, openT (setm n a v) = setm (openT n) a v := fun n => by
      have e14' : setm n a v 14 = n 14 := setm_o n (by omega)
      funext z
      show (if z = 14 then setm n a v 14 + 1 else if 232 ≤ z ∧ z < 592 then (if z < 238 then 0 else setm n a v (z - 6)) else setm n a v z) = (if z = a then v else openT n z)
      rw [e14']
      unfold openT setm
      by_cases c1 : z = 14
      · rw [if_pos c1, if_neg (by omega), if_pos c1]
      · rw [if_neg c1, if_neg c1]
        by_cases c2 : 232 ≤ z ∧ z < 592
        · have hza : ¬z = a := by omega
          by_cases c3 : z < 238
          · simp only [if_pos c2, if_pos c3, if_neg hza]
          · have hz6 : ¬z - 6 = a := by omega
            simp only [if_pos c2, if_neg c3, if_neg hza, if_neg hz6]
        · simp only [if_neg c2]
    by_cases c : m 14 = 60
    · rw [if_pos c, if_pos c, ed, eo]
    · rw [if_neg c, if_neg c, eo]
  have cm : ∀ (n : Int → Int) (b u : Int), 232 ≤ b → setm (setm n a v) b u = setm (setm n b u) a v := fun n b u hb => by
    funext z
    unfold setm
    by_cases c1 : z = b
    · rw [if_pos c1, if_neg (by omega), if_pos c1]
    · rw [if_neg c1, if_neg c1]
  unfold logF
  dsimp only
  rw [eo, cm _ 232 _ (by omega), cm _ 233 _ (by omega), cm _ 234 _ (by omega), cm _ 235 _ (by omega), cm _ 236 _ (by omega), cm _ 237 _ (by omega)]
theorem wl_233 : (233 : Int32) = w 233 := rfl
theorem wl_234 : (234 : Int32) = w 234 := rfl
theorem wl_235 : (235 : Int32) = w 235 := rfl
theorem wl_236 : (236 : Int32) = w 236 := rfl
theorem wl_237 : (237 : Int32) = w 237 := rfl
section THL
variable {vn vc vw : Nat} {K L : Nat → Nat} {R : Nat → Nat → Nat} {I : Nat → Nat → Int32} {J : Nat → Nat → Int64}
theorem lp_282d {d : Nat} {p h f hi pa st x y c k : Int} (hM : MSH K L R) (hB : BD (vM I)) (hr : (-2147483648 ≤ p ∧ p < 2147483648) ∧ (-2147483648 ≤ h ∧ h < 2147483648) ∧ (-2147483648 ≤ x ∧ x < 2147483648) ∧ (-2147483648 ≤ y ∧ y < 2147483648) ∧ (-2147483648 ≤ c ∧ c < 2147483648) ∧ (-2147483648 ≤ k ∧ k < 2147483648)) (wa : Value) :
    ∃ I', atv PR (d + 2) cd_282 188 [.ref 287, .int (w p), .int (w h), .int (w f), .int (w hi), .int (w pa), .int (w st), .int (w x), .int (w y), .int (w c), .int (w k), .int (w 359)] [] (((vn, vc, vw, K, L, R), I, J) : HS) = some (.inl (some (.int (w c))), (((vn, vc, vw, K, L, R), I', J) : HS)) ∧ vM I' = logF (vM I) p h x y c k ∧ mI I' 12 = mI I 12 ∧ FC I I' := by
  obtain ⟨c3, c4, c5, c13, c14⟩ := BD_mI hB
  have lp : ∀ (n : Nat) (i : Int) (I1 : Nat → Nat → Int32), i - n = 5 → i ≤ 359 → FC I I1 → (∀ z, 0 ≤ z → z < 592 → mI I1 z = if 232 + i < z then mI I (z - 6) else mI I z) →
      ∃ I', atv PR (d + 2) cd_282 188 [.ref 287, .int (w p), .int (w h), .int (w f), .int (w hi), .int (w pa), .int (w st), .int (w x), .int (w y), .int (w c), .int (w k), .int (w i)] [] (((vn, vc, vw, K, L, R), I1, J) : HS) = atv PR (d + 2) cd_282 188 [.ref 287, .int (w p), .int (w h), .int (w f), .int (w hi), .int (w pa), .int (w st), .int (w x), .int (w y), .int (w c), .int (w k), .int (w 5)] [] (((vn, vc, vw, K, L, R), I', J) : HS) ∧ FC I I' ∧ ∀ z, 0 ≤ z → z < 592 → mI I' z = if 237 < z then mI I (z - 6) else mI I z := by
    intro n
    induction n with
    | zero =>
      intro i I1 hn hi' hF hz
      have ei : i = 5 := by omega
      subst ei
      exact ⟨I1, rfl, hF, hz⟩
    | succ n ih =>
      intro i I1 hn hi' hF hz
      have r2 := mI_w I1 (232 + i - 6)
      rw [hz _ (by omega) (by omega), if_neg (by omega)] at r2
      have hrg := mI_r I (232 + i - 6)
      obtain ⟨I2, hI2⟩ : ∃ I2, I2 = u2 I1 288 (ix (232 + i)) (w (mI I (232 + i - 6))) := ⟨_, rfl⟩
      obtain ⟨I', x1, x2, x3⟩ := ih (i - 1) I2 (by omega) (by omega) (FC_tr hF (by rw [hI2]; exact FC_u (by unfold ix; omega))) (fun z a b => by
        rw [hI2, mI_s (by omega) hrg a]
        by_cases ez : z = 232 + i
        · rw [if_pos ez, if_pos (by omega), ez]
        · rw [if_neg ez, hz z a b]
          by_cases c1 : 232 + i < z
          · rw [if_pos c1, if_pos (by omega)]
          · rw [if_neg c1, if_neg (by omega)])
      refine ⟨I', ?_, x2, x3⟩
      rw [show i - 1 = i + -1 by omega] at x1
      rw [← x1, hI2]
      conv => lhs; rw [eq_282_188]
      simp (disch := first | assumption | omega | (simp (disch := omega) only [vM_u, vS_u]; first | assumption | omega)) only [hK, hL, hR, hI, hN, sI, hSp, hC, hW, li, lr, ↓cnd_a, ↓cnd_o, ↓cnd_n, ↓cnd_d, ↓z0, ↓z1, ↓z2, y0n, y1i, y2r, y0e, y1e, y2e, wl_0, wl_1, wl_2, wl_3, wl_4, wl_5, wl_6, wl_7, wl_8, wl_9, wl_10, wl_11, wl_12, wl_13, wl_14, wl_15, wl_16, wl_17, wl_18, wl_19, wl_20, wl_21, wl_22, wl_23, wl_24, wl_25, wl_26, wl_27, wl_28, wl_29, wl_30, wl_31, wl_32, wl_33, wl_34, wl_35, wl_36, wl_37, wl_38, wl_39, wl_40, wl_41, wl_42, wl_43, wl_44, wl_45, wl_46, wl_47, wl_48, wl_49, wl_50, wl_51, wl_52, wl_53, wl_54, wl_55, wl_56, wl_57, wl_58, wl_59, wl_60, wl_61, wl_62, wl_63, wl_64, wl_65, wl_66, wl_67, wl_68, wl_69, wl_70, wl_71, wl_72, wl_73, wl_74, wl_75, wl_76, wl_77, wl_78, wl_79, wl_80, wl_81, wl_82, wl_83, wl_84, wl_85, wl_86, wl_87, wl_88, wl_89, wl_90, wl_91, wl_92, wl_93, wl_94, wl_95, wl_96, wl_97, wl_98, wl_99, wl_100, wl_101, wl_102, wl_103, wl_104, wl_105, wl_106, wl_107, wl_108, wl_109, wl_110, wl_111, wl_112, wl_113, wl_114, wl_115, wl_116, wl_117, wl_118, wl_119, wl_120, wl_121, wl_122, wl_123, wl_124, wl_125, wl_126, wl_127, wl_128, wl_129, wl_130, wl_159, wl_160, wl_200, wl_232, wl_255, wl_256, wl_300, wl_359, wl_360, wl_400, wl_592, wl_992, wl_999, wl_1000, wl_1024, wl_3456, wl_6512, wl_7104, wl_10000, wl_11264, wl_12345, wl_32767, wl_1000000000, wl_1103515245, wl_2000000000, w_add, w_sub, w_mul, w_neg, w_lt, w_le, w_eq, w_cl, w_in, w_nat, w_max2, w_min2, w_abs2, iltT, iltF, ileT, ileF, ieqT, ieqF, bv_01, bft, bv_0, bv_1, bv_t, bv_f, cond_true, cond_false, Bool.not_true, Bool.not_false, if_true, if_false, true_or, or_true, true_and, and_true, ↓reduceIte, decide_true, decide_false, reduceCtorEq, u2_s, u2_o, u2_k, u2_u2, Bool.true_or, Bool.or_true, Bool.false_or, Bool.or_false, Bool.and_true, Bool.true_and, Bool.and_false, Bool.false_and, eq_self, not_true_eq_false, not_false_eq_true, and_self, and_true, true_and, false_and, and_false, w_dv, dvm, MSH_e hM, r2]
  obtain ⟨I1, x1, x2, x3⟩ := lp 354 359 I (by omega) (by omega) FC_rf (fun z a b => by rw [if_neg (by omega)])
  obtain ⟨I2, hI2⟩ : ∃ I2, I2 = u2 (u2 (u2 (u2 (u2 (u2 I1 288 (ix 232) (w p)) 288 (ix 233) (w h)) 288 (ix 234) (w x)) 288 (ix 235) (w y)) 288 (ix 236) (w c)) 288 (ix 237) (w k) := ⟨_, rfl⟩
  have m2 : ∀ z, 0 ≤ z → mI I2 z = if z = 237 then k else if z = 236 then c else if z = 235 then y else if z = 234 then x else if z = 233 then h else if z = 232 then p else mI I1 z := fun z hz => by
    rw [hI2, mI_s (by omega) (by omega) hz, mI_s (by omega) (by omega) hz, mI_s (by omega) (by omega) hz, mI_s (by omega) (by omega) hz, mI_s (by omega) (by omega) hz, mI_s (by omega) (by omega) hz]
  have m2o : ∀ z, 0 ≤ z → z < 232 → mI I2 z = mI I z := fun z a b => by
    rw [m2 z a, if_neg (by omega), if_neg (by omega), if_neg (by omega), if_neg (by omega), if_neg (by omega), if_neg (by omega), x3 z a (by omega), if_neg (by omega)]
  have F2 : FC I I2 := by
    rw [hI2]
    exact FC_tr x2 (FC_tr (FC_tr (FC_tr (FC_tr (FC_tr (FC_u (by decide)) (FC_u (by decide))) (FC_u (by decide))) (FC_u (by decide))) (FC_u (by decide))) (FC_u (by decide)))
  have r14 := mI_w I2 14
  rw [m2o _ (by omega) (by omega)] at r14
  have s217 := sp_219 (d := d + 1) (σ := (((vn, vc, vw, K, L, R), I2, J) : HS)) (a := 60) (b := mI I 14 + 1) (by omega)
  obtain ⟨I3, hI3⟩ : ∃ I3, I3 = u2 I2 288 (ix 14) (w (min 60 (mI I 14 + 1))) := ⟨_, rfl⟩
  refine ⟨I3, ?_, ?_, ?_, ?_⟩
  · rw [x1, eq_282_188, hI3]
    simp (disch := first | assumption | omega | (simp (disch := omega) only [vM_u, vS_u]; first | assumption | omega)) only [hK, hL, hR, hI, hN, sI, hSp, hC, hW, li, lr, ↓cnd_a, ↓cnd_o, ↓cnd_n, ↓cnd_d, ↓z0, ↓z1, ↓z2, y0n, y1i, y2r, y0e, y1e, y2e, wl_0, wl_1, wl_2, wl_3, wl_4, wl_5, wl_6, wl_7, wl_8, wl_9, wl_10, wl_11, wl_12, wl_13, wl_14, wl_15, wl_16, wl_17, wl_18, wl_19, wl_20, wl_21, wl_22, wl_23, wl_24, wl_25, wl_26, wl_27, wl_28, wl_29, wl_30, wl_31, wl_32, wl_33, wl_34, wl_35, wl_36, wl_37, wl_38, wl_39, wl_40, wl_41, wl_42, wl_43, wl_44, wl_45, wl_46, wl_47, wl_48, wl_49, wl_50, wl_51, wl_52, wl_53, wl_54, wl_55, wl_56, wl_57, wl_58, wl_59, wl_60, wl_61, wl_62, wl_63, wl_64, wl_65, wl_66, wl_67, wl_68, wl_69, wl_70, wl_71, wl_72, wl_73, wl_74, wl_75, wl_76, wl_77, wl_78, wl_79, wl_80, wl_81, wl_82, wl_83, wl_84, wl_85, wl_86, wl_87, wl_88, wl_89, wl_90, wl_91, wl_92, wl_93, wl_94, wl_95, wl_96, wl_97, wl_98, wl_99, wl_100, wl_101, wl_102, wl_103, wl_104, wl_105, wl_106, wl_107, wl_108, wl_109, wl_110, wl_111, wl_112, wl_113, wl_114, wl_115, wl_116, wl_117, wl_118, wl_119, wl_120, wl_121, wl_122, wl_123, wl_124, wl_125, wl_126, wl_127, wl_128, wl_129, wl_130, wl_159, wl_160, wl_200, wl_232, wl_255, wl_256, wl_300, wl_359, wl_360, wl_400, wl_592, wl_992, wl_999, wl_1000, wl_1024, wl_3456, wl_6512, wl_7104, wl_10000, wl_11264, wl_12345, wl_32767, wl_1000000000, wl_1103515245, wl_2000000000, w_add, w_sub, w_mul, w_neg, w_lt, w_le, w_eq, w_cl, w_in, w_nat, w_max2, w_min2, w_abs2, iltT, iltF, ileT, ileF, ieqT, ieqF, bv_01, bft, bv_0, bv_1, bv_t, bv_f, cond_true, cond_false, Bool.not_true, Bool.not_false, if_true, if_false, true_or, or_true, true_and, and_true, ↓reduceIte, decide_true, decide_false, reduceCtorEq, u2_s, u2_o, u2_k, u2_u2, Bool.true_or, Bool.or_true, Bool.false_or, Bool.or_false, Bool.and_true, Bool.true_and, Bool.and_false, Bool.false_and, eq_self, not_true_eq_false, not_false_eq_true, and_self, and_true, true_and, false_and, and_false, w_dv, dvm, wl_233, wl_234, wl_235, wl_236, wl_237, MSH_e hM]
    rw [← hI2]
    simp (disch := first | assumption | omega | (simp (disch := omega) only [vM_u, vS_u]; first | assumption | omega)) only [hK, hL, hR, hI, hN, sI, hSp, hC, hW, li, lr, ↓cnd_a, ↓cnd_o, ↓cnd_n, ↓cnd_d, ↓z0, ↓z1, ↓z2, y0n, y1i, y2r, y0e, y1e, y2e, wl_0, wl_1, wl_2, wl_3, wl_4, wl_5, wl_6, wl_7, wl_8, wl_9, wl_10, wl_11, wl_12, wl_13, wl_14, wl_15, wl_16, wl_17, wl_18, wl_19, wl_20, wl_21, wl_22, wl_23, wl_24, wl_25, wl_26, wl_27, wl_28, wl_29, wl_30, wl_31, wl_32, wl_33, wl_34, wl_35, wl_36, wl_37, wl_38, wl_39, wl_40, wl_41, wl_42, wl_43, wl_44, wl_45, wl_46, wl_47, wl_48, wl_49, wl_50, wl_51, wl_52, wl_53, wl_54, wl_55, wl_56, wl_57, wl_58, wl_59, wl_60, wl_61, wl_62, wl_63, wl_64, wl_65, wl_66, wl_67, wl_68, wl_69, wl_70, wl_71, wl_72, wl_73, wl_74, wl_75, wl_76, wl_77, wl_78, wl_79, wl_80, wl_81, wl_82, wl_83, wl_84, wl_85, wl_86, wl_87, wl_88, wl_89, wl_90, wl_91, wl_92, wl_93, wl_94, wl_95, wl_96, wl_97, wl_98, wl_99, wl_100, wl_101, wl_102, wl_103, wl_104, wl_105, wl_106, wl_107, wl_108, wl_109, wl_110, wl_111, wl_112, wl_113, wl_114, wl_115, wl_116, wl_117, wl_118, wl_119, wl_120, wl_121, wl_122, wl_123, wl_124, wl_125, wl_126, wl_127, wl_128, wl_129, wl_130, wl_159, wl_160, wl_200, wl_232, wl_255, wl_256, wl_300, wl_359, wl_360, wl_400, wl_592, wl_992, wl_999, wl_1000, wl_1024, wl_3456, wl_6512, wl_7104, wl_10000, wl_11264, wl_12345, wl_32767, wl_1000000000, wl_1103515245, wl_2000000000, w_add, w_sub, w_mul, w_neg, w_lt, w_le, w_eq, w_cl, w_in, w_nat, w_max2, w_min2, w_abs2, iltT, iltF, ileT, ileF, ieqT, ieqF, bv_01, bft, bv_0, bv_1, bv_t, bv_f, cond_true, cond_false, Bool.not_true, Bool.not_false, if_true, if_false, true_or, or_true, true_and, and_true, ↓reduceIte, decide_true, decide_false, reduceCtorEq, u2_s, u2_o, u2_k, u2_u2, Bool.true_or, Bool.or_true, Bool.false_or, Bool.or_false, Bool.and_true, Bool.true_and, Bool.and_false, Bool.false_and, eq_self, not_true_eq_false, not_false_eq_true, and_self, and_true, true_and, false_and, and_false, w_dv, dvm, MSH_e hM, r14, s217]
  · have e14 : vM I 14 = mI I 14 := vM_s (by omega)
    funext z
    rw [hI3, vM_14 (by omega) (by rw [m2o _ (by omega) (by omega), m2o _ (by omega) (by omega), m2o _ (by omega) (by omega), m2o _ (by omega) (by omega), m2o _ (by omega) (by omega)]; omega)]
    have hv2 : z ≠ 14 → ¬(232 ≤ z ∧ z < 592) → vM I2 z = vM I z := fun a b => by
      unfold vM
      rw [m2o _ (by omega) (by omega), m2o _ (by omega) (by omega), m2o _ (by omega) (by omega), m2o _ (by omega) (by omega), m2o _ (by omega) (by omega)]
      by_cases c4 : z = 0 ∨ (3 ≤ z ∧ z ≤ 11) ∨ (13 ≤ z ∧ z ≤ 15) ∨ (20 ≤ z ∧ z < 20 + 5 * mI I 3) ∨ (70 ≤ z ∧ z < 70 + 3 * mI I 4) ∨ (94 ≤ z ∧ z < 94 + 3 * mI I 5) ∨ (112 ≤ z ∧ z < 112 + 4 * mI I 13) ∨ (232 ≤ z ∧ z < 232 + 6 * mI I 14)
      · rw [if_pos c4, if_pos c4, m2o z (by omega) (by omega)]
      · rw [if_neg c4, if_neg c4]
    obtain ⟨N, hN⟩ : ∃ N, N = (if vM I 14 = 60 then dropT (vM I) else vM I) := ⟨_, rfl⟩
    have eL : logF (vM I) p h x y c k = setm (setm (setm (setm (setm (setm (openT N) 232 p) 233 h) 234 x) 235 y) 236 c) 237 k := by rw [hN]; rfl
    rw [eL]
    have n14 : N 14 + 1 = min 60 (mI I 14 + 1) := by
      rw [hN]
      by_cases q : vM I 14 = 60
      · rw [if_pos q]
        show vM I 14 - 1 + 1 = _
        omega
      · rw [if_neg q]; omega
    have no : z ≠ 14 → ¬(232 ≤ z ∧ z < 592) → N z = vM I z := fun a b => by
      rw [hN]
      by_cases q : vM I 14 = 60
      · rw [if_pos q]
        unfold dropT
        rw [if_neg a, if_neg b]
      · rw [if_neg q]
    have nr : 238 ≤ z ∧ z < 592 → N (z - 6) = if z < 232 + 6 * min 60 (mI I 14 + 1) then mI I (z - 6) else 0 := fun a => by
      rw [hN]
      by_cases q : vM I 14 = 60
      · rw [if_pos q, if_pos (by omega)]
        unfold dropT
        rw [if_neg (by omega), if_pos (by omega), if_pos (by omega), vM_t (by omega)]
      · rw [if_neg q]
        by_cases q2 : z < 232 + 6 * min 60 (mI I 14 + 1)
        · rw [if_pos q2, vM_t (by omega)]
        · rw [if_neg q2, vM_to (by omega)]
    by_cases z14 : z = 14
    · rw [if_pos z14, z14, setm_o _ (by omega), setm_o _ (by omega), setm_o _ (by omega), setm_o _ (by omega), setm_o _ (by omega), setm_o _ (by omega), ← n14]
      rfl
    · rw [if_neg z14]
      by_cases zr : 232 ≤ z ∧ z < 592
      · rw [if_pos zr]
        by_cases z6 : z < 238
        · rw [if_pos (by omega), m2 z (by omega)]
          have : z = 232 ∨ z = 233 ∨ z = 234 ∨ z = 235 ∨ z = 236 ∨ z = 237 := by omega
          rcases this with e | e | e | e | e | e <;> subst e <;> rfl
        · rw [setm_o _ (by omega), setm_o _ (by omega), setm_o _ (by omega), setm_o _ (by omega), setm_o _ (by omega), setm_o _ (by omega)]
          have eo : openT N z = N (z - 6) := by
            unfold openT
            rw [if_neg z14, if_pos zr, if_neg z6]
          rw [eo, nr (by omega)]
          by_cases q2 : z < 232 + 6 * min 60 (mI I 14 + 1)
          · rw [if_pos q2, if_pos q2, m2 z (by omega), if_neg (by omega), if_neg (by omega), if_neg (by omega), if_neg (by omega), if_neg (by omega), if_neg (by omega), x3 z (by omega) (by omega), if_pos (by omega)]
          · rw [if_neg q2, if_neg q2]
      · rw [if_neg zr, hv2 z14 zr, setm_o _ (by omega), setm_o _ (by omega), setm_o _ (by omega), setm_o _ (by omega), setm_o _ (by omega), setm_o _ (by omega)]
        unfold openT
        rw [if_neg z14, if_neg zr, no z14 zr]
  · rw [hI3, mI_k (by omega) (by omega) (by omega), m2o _ (by omega) (by omega)]
  · rw [hI3]; exact FC_tr F2 (FC_u (by decide))
end THL
