/-! the reference's knocks -/
theorem inV_f {I I' : Nat → Nat → Int32} (h : mI I' 3 = mI I 3 ∧ mI I' 4 = mI I 4 ∧ mI I' 5 = mI I 5 ∧ mI I' 13 = mI I 13 ∧ mI I' 14 = mI I 14) {z : Int} (g : inV I z) : inV I' z := by
  unfold inV at g ⊢
  rw [h.1, h.2.1, h.2.2.1, h.2.2.2.1, h.2.2.2.2]
  exact g
theorem mI_k {I : Nat → Nat → Int32} {a z : Int} {v : Int32} (ha : 0 ≤ a) (hz : 0 ≤ z) (h : z ≠ a) : mI (u2 I 288 (ix a) v) z = mI I z := by
  unfold mI
  rw [u2_r, if_neg (by unfold ix; omega)]
section THK
variable {vn vc vw : Nat} {K L : Nat → Nat} {R : Nat → Nat → Nat} {I : Nat → Nat → Int32} {J : Nat → Nat → Int64}
theorem sp_222 {d : Nat} {σ : HS} {z : Int} (h : -100000000 ≤ z ∧ z ≤ 100000000) : ev PR (d + 1) 222 [.int (w z)] σ = some (.inl (some (.int (w (sgn z)))), σ) := by
  rw [eq_222]
  unfold sgn
  by_cases c1 : z < 0
  · rw [if_pos c1]
    simp (disch := first | assumption | omega | (simp (disch := omega) only [vM_u, vS_u]; first | assumption | omega)) only [hK, hL, hR, hI, hN, sI, hSp, hC, hW, li, lr, ↓cnd_a, ↓cnd_o, ↓cnd_n, ↓cnd_d, ↓z0, ↓z1, ↓z2, y0n, y1i, y2r, y0e, y1e, y2e, wl_0, wl_1, wl_2, wl_3, wl_4, wl_5, wl_6, wl_7, wl_8, wl_9, wl_10, wl_11, wl_12, wl_13, wl_14, wl_15, wl_16, wl_17, wl_18, wl_19, wl_20, wl_21, wl_22, wl_23, wl_24, wl_25, wl_26, wl_27, wl_28, wl_29, wl_30, wl_31, wl_32, wl_33, wl_34, wl_35, wl_36, wl_37, wl_38, wl_39, wl_40, wl_41, wl_42, wl_43, wl_44, wl_45, wl_46, wl_47, wl_48, wl_49, wl_50, wl_51, wl_52, wl_53, wl_54, wl_55, wl_56, wl_57, wl_58, wl_59, wl_60, wl_61, wl_62, wl_63, wl_64, wl_65, wl_66, wl_67, wl_68, wl_69, wl_70, wl_71, wl_72, wl_73, wl_74, wl_75, wl_76, wl_77, wl_78, wl_79, wl_80, wl_81, wl_82, wl_83, wl_84, wl_85, wl_86, wl_87, wl_88, wl_89, wl_90, wl_91, wl_92, wl_93, wl_94, wl_95, wl_96, wl_97, wl_98, wl_99, wl_100, wl_101, wl_102, wl_103, wl_104, wl_105, wl_106, wl_107, wl_108, wl_109, wl_110, wl_111, wl_112, wl_113, wl_114, wl_115, wl_116, wl_117, wl_118, wl_119, wl_120, wl_121, wl_122, wl_123, wl_124, wl_125, wl_126, wl_127, wl_128, wl_129, wl_130, wl_159, wl_160, wl_200, wl_232, wl_255, wl_256, wl_300, wl_359, wl_360, wl_400, wl_592, wl_992, wl_999, wl_1000, wl_1024, wl_3456, wl_6512, wl_7104, wl_10000, wl_11264, wl_12345, wl_32767, wl_1000000000, wl_1103515245, wl_2000000000, w_add, w_sub, w_mul, w_neg, w_lt, w_le, w_eq, w_cl, w_in, w_nat, w_max2, w_min2, w_abs2, iltT, iltF, ileT, ileF, ieqT, ieqF, bv_01, bft, bv_0, bv_1, bv_t, bv_f, cond_true, cond_false, Bool.not_true, Bool.not_false, if_true, if_false, true_or, or_true, true_and, and_true, ↓reduceIte, decide_true, decide_false, reduceCtorEq, u2_s, u2_o, u2_k, u2_u2, Bool.true_or, Bool.or_true, Bool.false_or, Bool.or_false, Bool.and_true, Bool.true_and, Bool.and_false, Bool.false_and, eq_self, not_true_eq_false, not_false_eq_true, and_self, and_true, true_and, false_and, and_false, w_dv, dvm]
  · rw [if_neg c1]
    by_cases c2 : 0 < z
    · rw [if_pos c2]
      simp (disch := first | assumption | omega | (simp (disch := omega) only [vM_u, vS_u]; first | assumption | omega)) only [hK, hL, hR, hI, hN, sI, hSp, hC, hW, li, lr, ↓cnd_a, ↓cnd_o, ↓cnd_n, ↓cnd_d, ↓z0, ↓z1, ↓z2, y0n, y1i, y2r, y0e, y1e, y2e, wl_0, wl_1, wl_2, wl_3, wl_4, wl_5, wl_6, wl_7, wl_8, wl_9, wl_10, wl_11, wl_12, wl_13, wl_14, wl_15, wl_16, wl_17, wl_18, wl_19, wl_20, wl_21, wl_22, wl_23, wl_24, wl_25, wl_26, wl_27, wl_28, wl_29, wl_30, wl_31, wl_32, wl_33, wl_34, wl_35, wl_36, wl_37, wl_38, wl_39, wl_40, wl_41, wl_42, wl_43, wl_44, wl_45, wl_46, wl_47, wl_48, wl_49, wl_50, wl_51, wl_52, wl_53, wl_54, wl_55, wl_56, wl_57, wl_58, wl_59, wl_60, wl_61, wl_62, wl_63, wl_64, wl_65, wl_66, wl_67, wl_68, wl_69, wl_70, wl_71, wl_72, wl_73, wl_74, wl_75, wl_76, wl_77, wl_78, wl_79, wl_80, wl_81, wl_82, wl_83, wl_84, wl_85, wl_86, wl_87, wl_88, wl_89, wl_90, wl_91, wl_92, wl_93, wl_94, wl_95, wl_96, wl_97, wl_98, wl_99, wl_100, wl_101, wl_102, wl_103, wl_104, wl_105, wl_106, wl_107, wl_108, wl_109, wl_110, wl_111, wl_112, wl_113, wl_114, wl_115, wl_116, wl_117, wl_118, wl_119, wl_120, wl_121, wl_122, wl_123, wl_124, wl_125, wl_126, wl_127, wl_128, wl_129, wl_130, wl_159, wl_160, wl_200, wl_232, wl_255, wl_256, wl_300, wl_359, wl_360, wl_400, wl_592, wl_992, wl_999, wl_1000, wl_1024, wl_3456, wl_6512, wl_7104, wl_10000, wl_11264, wl_12345, wl_32767, wl_1000000000, wl_1103515245, wl_2000000000, w_add, w_sub, w_mul, w_neg, w_lt, w_le, w_eq, w_cl, w_in, w_nat, w_max2, w_min2, w_abs2, iltT, iltF, ileT, ileF, ieqT, ieqF, bv_01, bft, bv_0, bv_1, bv_t, bv_f, cond_true, cond_false, Bool.not_true, Bool.not_false, if_true, if_false, true_or, or_true, true_and, and_true, ↓reduceIte, decide_true, decide_false, reduceCtorEq, u2_s, u2_o, u2_k, u2_u2, Bool.true_or, Bool.or_true, Bool.false_or, Bool.or_false, Bool.and_true, Bool.true_and, Bool.and_false, Bool.false_and, eq_self, not_true_eq_false, not_false_eq_true, and_self, and_true, true_and, false_and, and_false, w_dv, dvm]
    · rw [if_neg c2]
      simp (disch := first | assumption | omega | (simp (disch := omega) only [vM_u, vS_u]; first | assumption | omega)) only [hK, hL, hR, hI, hN, sI, hSp, hC, hW, li, lr, ↓cnd_a, ↓cnd_o, ↓cnd_n, ↓cnd_d, ↓z0, ↓z1, ↓z2, y0n, y1i, y2r, y0e, y1e, y2e, wl_0, wl_1, wl_2, wl_3, wl_4, wl_5, wl_6, wl_7, wl_8, wl_9, wl_10, wl_11, wl_12, wl_13, wl_14, wl_15, wl_16, wl_17, wl_18, wl_19, wl_20, wl_21, wl_22, wl_23, wl_24, wl_25, wl_26, wl_27, wl_28, wl_29, wl_30, wl_31, wl_32, wl_33, wl_34, wl_35, wl_36, wl_37, wl_38, wl_39, wl_40, wl_41, wl_42, wl_43, wl_44, wl_45, wl_46, wl_47, wl_48, wl_49, wl_50, wl_51, wl_52, wl_53, wl_54, wl_55, wl_56, wl_57, wl_58, wl_59, wl_60, wl_61, wl_62, wl_63, wl_64, wl_65, wl_66, wl_67, wl_68, wl_69, wl_70, wl_71, wl_72, wl_73, wl_74, wl_75, wl_76, wl_77, wl_78, wl_79, wl_80, wl_81, wl_82, wl_83, wl_84, wl_85, wl_86, wl_87, wl_88, wl_89, wl_90, wl_91, wl_92, wl_93, wl_94, wl_95, wl_96, wl_97, wl_98, wl_99, wl_100, wl_101, wl_102, wl_103, wl_104, wl_105, wl_106, wl_107, wl_108, wl_109, wl_110, wl_111, wl_112, wl_113, wl_114, wl_115, wl_116, wl_117, wl_118, wl_119, wl_120, wl_121, wl_122, wl_123, wl_124, wl_125, wl_126, wl_127, wl_128, wl_129, wl_130, wl_159, wl_160, wl_200, wl_232, wl_255, wl_256, wl_300, wl_359, wl_360, wl_400, wl_592, wl_992, wl_999, wl_1000, wl_1024, wl_3456, wl_6512, wl_7104, wl_10000, wl_11264, wl_12345, wl_32767, wl_1000000000, wl_1103515245, wl_2000000000, w_add, w_sub, w_mul, w_neg, w_lt, w_le, w_eq, w_cl, w_in, w_nat, w_max2, w_min2, w_abs2, iltT, iltF, ileT, ileF, ieqT, ieqF, bv_01, bft, bv_0, bv_1, bv_t, bv_f, cond_true, cond_false, Bool.not_true, Bool.not_false, if_true, if_false, true_or, or_true, true_and, and_true, ↓reduceIte, decide_true, decide_false, reduceCtorEq, u2_s, u2_o, u2_k, u2_u2, Bool.true_or, Bool.or_true, Bool.false_or, Bool.or_false, Bool.and_true, Bool.true_and, Bool.and_false, Bool.false_and, eq_self, not_true_eq_false, not_false_eq_true, and_self, and_true, true_and, false_and, and_false, w_dv, dvm]
theorem vM_psh {k x y : Int} {e : Bool} (hB : BD (vM I)) (hk : 0 ≤ k ∧ k < vM I 13) (hx : (-100000 ≤ x ∧ x ≤ 100000) ∧ -100000 ≤ y ∧ y ≤ 100000) : vM (u2 (u2 (u2 (u2 I 288 (ix (112 + 4 * k)) (w (ly (vM I) k 0))) 288 (ix (112 + 4 * k + 1)) (w x)) 288 (ix (112 + 4 * k + 2)) (w y)) 288 (ix (112 + 4 * k + 3)) (w (cond e 1 0))) = setm (setm (setm (vM I) (112 + 4 * k + 1) x) (112 + 4 * k + 2) y) (112 + 4 * k + 3) (cond e 1 0) := by
  obtain ⟨c3, c4, c5, c13, c14⟩ := BD_mI hB
  have e13 : vM I 13 = mI I 13 := vM_s (by omega)
  rw [e13] at hk
  have el : ly (vM I) k 0 = vM I (112 + 4 * k) := by unfold ly; rw [Int.add_zero]
  have er : -2147483648 ≤ ly (vM I) k 0 ∧ ly (vM I) k 0 < 2147483648 := by rw [el, vM_l (by omega)]; exact mI_r _ _
  have ee : -2147483648 ≤ cond e (1 : Int) 0 ∧ cond e (1 : Int) 0 < 2147483648 := by cases e <;> simp only [cond_true, cond_false] <;> omega
  have iv : ∀ j, 0 ≤ j → j < 4 → inV I (112 + 4 * k + j) := fun j a b => by unfold inV; omega
  have mk : ∀ (F : Nat → Nat → Int32) (a : Int) (v : Int32), 112 ≤ a → (mI F 3 = mI I 3 ∧ mI F 4 = mI I 4 ∧ mI F 5 = mI I 5 ∧ mI F 13 = mI I 13 ∧ mI F 14 = mI I 14) → (mI (u2 F 288 (ix a) v) 3 = mI I 3 ∧ mI (u2 F 288 (ix a) v) 4 = mI I 4 ∧ mI (u2 F 288 (ix a) v) 5 = mI I 5 ∧ mI (u2 F 288 (ix a) v) 13 = mI I 13 ∧ mI (u2 F 288 (ix a) v) 14 = mI I 14) := fun F a v ha h => by
    rw [mI_k (by omega) (by omega) (by omega), mI_k (by omega) (by omega) (by omega), mI_k (by omega) (by omega) (by omega), mI_k (by omega) (by omega) (by omega), mI_k (by omega) (by omega) (by omega)]
    exact h
  have q0 := mk I (112 + 4 * k) (w (ly (vM I) k 0)) (by omega) ⟨rfl, rfl, rfl, rfl, rfl⟩
  have q1 := mk _ (112 + 4 * k + 1) (w x) (by omega) q0
  have q2 := mk _ (112 + 4 * k + 2) (w y) (by omega) q1
  have i0 := iv 0 (by omega) (by omega)
  rw [Int.add_zero] at i0
  rw [vM_in (inV_f q2 (iv 3 (by omega) (by omega))) ee, vM_in (inV_f q1 (iv 2 (by omega) (by omega))) (by omega), vM_in (inV_f q0 (iv 1 (by omega) (by omega))) (by omega), vM_in i0 er, setm_id el.symm]
theorem lp_281 {d : Nat} {k n x y st : Int} (hM : MSH K L R) (hB : BD (vM I)) (hk : (0 ≤ k ∧ k < n) ∧ n < vM I 13) (hl : (0 ≤ ly (vM I) k 0 ∧ ly (vM I) k 0 < vM I 4) ∧ (-8000 ≤ ly (vM I) k 1 ∧ ly (vM I) k 1 ≤ 8000) ∧ -8000 ≤ ly (vM I) k 2 ∧ ly (vM I) k 2 ≤ 8000) (hx : (-10000 ≤ x ∧ x ≤ 10000) ∧ -10000 ≤ y ∧ y ≤ 10000) (hs : 0 ≤ st ∧ st ≤ 1000) :
    ∃ I', atv PR (d + 5) cd_281 36 [.ref 287, .int (w n), .int (w x), .int (w y), .int (w st), .int (w k), (.retAddr 0), (.retAddr 0), (.retAddr 0), (.retAddr 0)] [] (((vn, vc, vw, K, L, R), I, J) : HS) = some (.inl (some (.int (w (pshV (vM I) k (sgn (ly (vM I) k 1 - x)) (sgn (ly (vM I) k 2 - y)) st)))), (((vn, vc, vw, K, L, R), I', J) : HS)) ∧ vM I' = pshM (vM I) k (sgn (ly (vM I) k 1 - x)) (sgn (ly (vM I) k 2 - y)) st ∧ mI I' 12 = mI I 12 ∧ FC I I' := by
  have hsg : ∀ z, -1 ≤ sgn z ∧ sgn z ≤ 1 := fun z => by unfold sgn; split; omega; split <;> omega
  have g1 := hsg (ly (vM I) k 1 - x)
  have g2 := hsg (ly (vM I) k 2 - y)
  have t1 := sp_222 (d := d + 4) (σ := (((vn, vc, vw, K, L, R), I, J) : HS)) (z := ly (vM I) k 1 - x) (by omega)
  have t2 := sp_222 (d := d + 4) (σ := (((vn, vc, vw, K, L, R), I, J) : HS)) (z := ly (vM I) k 2 - y) (by omega)
  obtain ⟨dx, hdx⟩ : ∃ dx, dx = sgn (ly (vM I) k 1 - x) := ⟨_, rfl⟩
  obtain ⟨dy, hdy⟩ : ∃ dy, dy = sgn (ly (vM I) k 2 - y) := ⟨_, rfl⟩
  rw [← hdx] at g1 t1 ⊢
  rw [← hdy] at g2 t2 ⊢
  obtain ⟨c3, c4, c5, c13, c14⟩ := BD_mI hB
  have e13 : vM I 13 = mI I 13 := vM_s (by omega)
  obtain ⟨h3, h4, h5, h6, h7, h8, h9, h13, h14, hbk, hhp, hpp⟩ := id hB
  have s261 := sp_263 (d := d + 1) (h := ly (vM I) k 0) (x := ly (vM I) k 1 + dx) (y := ly (vM I) k 2 + dy) (b := st) (vn := vn) (vc := vc) (vw := vw) (J := J) hM hB hl.1 (by omega) (by omega) (by omega) (by omega)
  have s224 : ∀ j, 0 ≤ j → j < 4 → ev PR (d + 5) 226 [.ref 287, .int (w k), .int (w j)] (((vn, vc, vw, K, L, R), I, J) : HS) = some (.inl (some (.int (w (ly (vM I) k j)))), (((vn, vc, vw, K, L, R), I, J) : HS)) := fun j a b => sp_226 (d := d + 4) (vn := vn) (vc := vc) (vw := vw) (J := J) hM (by omega)
  have a0 := s224 0 (by omega) (by omega)
  have a1 := s224 1 (by omega) (by omega)
  have a2 := s224 2 (by omega) (by omega)
  unfold pshV pshM
  by_cases c : ovF (vM I) (ly (vM I) k 0) (ly (vM I) k 1 + dx) (ly (vM I) k 2 + dy) st = -1
  · have s263 := sp_265f (d := d) (h := ly (vM I) k 0) (x := ly (vM I) k 1 + dx) (y := ly (vM I) k 2 + dy) (b := st) (vn := vn) (vc := vc) (vw := vw) (J := J) hM hB hl.1 (by omega) (by omega) (by omega)
    have s278 := sp_280 (d := d + 4) (k := k) (h := ly (vM I) k 0) (x := ly (vM I) k 1 + dx) (y := ly (vM I) k 2 + dy) (e := tsF (vM I) (ly (vM I) k 0) (ly (vM I) k 1 + dx) (ly (vM I) k 2 + dy) st false) (I := I) (vn := vn) (vc := vc) (vw := vw) (J := J) hM (by omega)
    obtain ⟨I4, hI4⟩ : ∃ I4, I4 = u2 (u2 (u2 (u2 I 288 (ix (112 + 4 * k)) (w (ly (vM I) k 0))) 288 (ix (112 + 4 * k + 1)) (w (ly (vM I) k 1 + dx))) 288 (ix (112 + 4 * k + 2)) (w (ly (vM I) k 2 + dy))) 288 (ix (112 + 4 * k + 3)) (w (cond (tsF (vM I) (ly (vM I) k 0) (ly (vM I) k 1 + dx) (ly (vM I) k 2 + dy) st false) 1 0)) := ⟨_, rfl⟩
    rw [← hI4] at s278
    refine ⟨I4, ?_, ?_, ?_, ?_⟩
    · rw [eq_281_36]
      rw [c] at s261
      simp (disch := first | assumption | omega | (simp (disch := omega) only [vM_u, vS_u]; first | assumption | omega)) only [hK, hL, hR, hI, hN, sI, hSp, hC, hW, li, lr, ↓cnd_a, ↓cnd_o, ↓cnd_n, ↓cnd_d, ↓z0, ↓z1, ↓z2, y0n, y1i, y2r, y0e, y1e, y2e, wl_0, wl_1, wl_2, wl_3, wl_4, wl_5, wl_6, wl_7, wl_8, wl_9, wl_10, wl_11, wl_12, wl_13, wl_14, wl_15, wl_16, wl_17, wl_18, wl_19, wl_20, wl_21, wl_22, wl_23, wl_24, wl_25, wl_26, wl_27, wl_28, wl_29, wl_30, wl_31, wl_32, wl_33, wl_34, wl_35, wl_36, wl_37, wl_38, wl_39, wl_40, wl_41, wl_42, wl_43, wl_44, wl_45, wl_46, wl_47, wl_48, wl_49, wl_50, wl_51, wl_52, wl_53, wl_54, wl_55, wl_56, wl_57, wl_58, wl_59, wl_60, wl_61, wl_62, wl_63, wl_64, wl_65, wl_66, wl_67, wl_68, wl_69, wl_70, wl_71, wl_72, wl_73, wl_74, wl_75, wl_76, wl_77, wl_78, wl_79, wl_80, wl_81, wl_82, wl_83, wl_84, wl_85, wl_86, wl_87, wl_88, wl_89, wl_90, wl_91, wl_92, wl_93, wl_94, wl_95, wl_96, wl_97, wl_98, wl_99, wl_100, wl_101, wl_102, wl_103, wl_104, wl_105, wl_106, wl_107, wl_108, wl_109, wl_110, wl_111, wl_112, wl_113, wl_114, wl_115, wl_116, wl_117, wl_118, wl_119, wl_120, wl_121, wl_122, wl_123, wl_124, wl_125, wl_126, wl_127, wl_128, wl_129, wl_130, wl_159, wl_160, wl_200, wl_232, wl_255, wl_256, wl_300, wl_359, wl_360, wl_400, wl_592, wl_992, wl_999, wl_1000, wl_1024, wl_3456, wl_6512, wl_7104, wl_10000, wl_11264, wl_12345, wl_32767, wl_1000000000, wl_1103515245, wl_2000000000, w_add, w_sub, w_mul, w_neg, w_lt, w_le, w_eq, w_cl, w_in, w_nat, w_max2, w_min2, w_abs2, iltT, iltF, ileT, ileF, ieqT, ieqF, bv_01, bft, bv_0, bv_1, bv_t, bv_f, cond_true, cond_false, Bool.not_true, Bool.not_false, if_true, if_false, true_or, or_true, true_and, and_true, ↓reduceIte, decide_true, decide_false, reduceCtorEq, u2_s, u2_o, u2_k, u2_u2, Bool.true_or, Bool.or_true, Bool.false_or, Bool.or_false, Bool.and_true, Bool.true_and, Bool.and_false, Bool.false_and, eq_self, not_true_eq_false, not_false_eq_true, and_self, and_true, true_and, false_and, and_false, w_dv, dvm, MSH_e hM, a0, a1, a2, t1, t2, s261, s263, s278]
      rw [c]
      split <;> rfl
    · rw [hI4, vM_psh hB (by omega) (by omega)]
      dsimp only
      rw [if_pos c]
    · rw [hI4, mI_k (by omega) (by omega) (by omega), mI_k (by omega) (by omega) (by omega), mI_k (by omega) (by omega) (by omega), mI_k (by omega) (by omega) (by omega)]
    · rw [hI4]
      exact FC_tr (FC_tr (FC_tr (FC_u (by unfold ix; omega)) (FC_u (by unfold ix; omega))) (FC_u (by unfold ix; omega))) (FC_u (by unfold ix; omega))
  · obtain ⟨I1, y1, y2, y3, y4⟩ := sp_279 (d := d + 3) (k := k) (vn := vn) (vc := vc) (vw := vw) (J := J) hM hB (by omega)
    have hov : 0 ≤ ovF (vM I) (ly (vM I) k 0) (ly (vM I) k 1 + dx) (ly (vM I) k 2 + dy) st ∧ ovF (vM I) (ly (vM I) k 0) (ly (vM I) k 1 + dx) (ly (vM I) k 2 + dy) st < vM I 3 := by
      have := ovF_r (m := vM I) (by omega) (ly (vM I) k 0) (ly (vM I) k 1 + dx) (ly (vM I) k 2 + dy) st
      omega
    obtain ⟨o, ho⟩ : ∃ o, o = ovF (vM I) (ly (vM I) k 0) (ly (vM I) k 1 + dx) (ly (vM I) k 2 + dy) st := ⟨_, rfl⟩
    dsimp only
    rw [← ho] at c hov s261 ⊢
    rw [if_neg c]
    have hB1 : 0 ≤ vM I1 11 ∨ True := Or.inr trivial
    have r9 := rV_s I1 (z := 9) (by omega)
    have r11 := rV_s I1 (z := 11) (by omega)
    have t9 : vM I1 9 = vM I 9 := by rw [y2]; exact if_neg (by omega)
    have t11 : vM I1 11 = vM I 11 := by rw [y2]; exact if_neg (by omega)
    rw [t9] at r9
    rw [t11] at r11
    by_cases c9 : vM I 9 = 1
    · have tb : bl (vM I1) o 3 = bl (vM I) o 3 := by
        unfold bl
        rw [y2]
        unfold takeL
        rw [if_neg (by omega), if_neg (by omega)]
      have t3 : vM I1 3 = vM I 3 := by rw [y2]; exact if_neg (by omega)
      have s221 := sp_223 (d := d + 4) (b := o) (j := 3) (I := I1) (vn := vn) (vc := vc) (vw := vw) (J := J) hM (by rw [t3]; omega)
      rw [tb] at s221
      obtain ⟨I2, hI2⟩ : ∃ I2, I2 = u2 I1 288 (ix 11) (w (vM I 11 + bl (vM I) o 3)) := ⟨_, rfl⟩
      refine ⟨I2, ?_, ?_, ?_, ?_⟩
      · rw [c9] at r9
        rw [if_pos c9, eq_281_36, hI2]
        simp (disch := first | assumption | omega | (simp (disch := omega) only [vM_u, vS_u]; first | assumption | omega)) only [hK, hL, hR, hI, hN, sI, hSp, hC, hW, li, lr, ↓cnd_a, ↓cnd_o, ↓cnd_n, ↓cnd_d, ↓z0, ↓z1, ↓z2, y0n, y1i, y2r, y0e, y1e, y2e, wl_0, wl_1, wl_2, wl_3, wl_4, wl_5, wl_6, wl_7, wl_8, wl_9, wl_10, wl_11, wl_12, wl_13, wl_14, wl_15, wl_16, wl_17, wl_18, wl_19, wl_20, wl_21, wl_22, wl_23, wl_24, wl_25, wl_26, wl_27, wl_28, wl_29, wl_30, wl_31, wl_32, wl_33, wl_34, wl_35, wl_36, wl_37, wl_38, wl_39, wl_40, wl_41, wl_42, wl_43, wl_44, wl_45, wl_46, wl_47, wl_48, wl_49, wl_50, wl_51, wl_52, wl_53, wl_54, wl_55, wl_56, wl_57, wl_58, wl_59, wl_60, wl_61, wl_62, wl_63, wl_64, wl_65, wl_66, wl_67, wl_68, wl_69, wl_70, wl_71, wl_72, wl_73, wl_74, wl_75, wl_76, wl_77, wl_78, wl_79, wl_80, wl_81, wl_82, wl_83, wl_84, wl_85, wl_86, wl_87, wl_88, wl_89, wl_90, wl_91, wl_92, wl_93, wl_94, wl_95, wl_96, wl_97, wl_98, wl_99, wl_100, wl_101, wl_102, wl_103, wl_104, wl_105, wl_106, wl_107, wl_108, wl_109, wl_110, wl_111, wl_112, wl_113, wl_114, wl_115, wl_116, wl_117, wl_118, wl_119, wl_120, wl_121, wl_122, wl_123, wl_124, wl_125, wl_126, wl_127, wl_128, wl_129, wl_130, wl_159, wl_160, wl_200, wl_232, wl_255, wl_256, wl_300, wl_359, wl_360, wl_400, wl_592, wl_992, wl_999, wl_1000, wl_1024, wl_3456, wl_6512, wl_7104, wl_10000, wl_11264, wl_12345, wl_32767, wl_1000000000, wl_1103515245, wl_2000000000, w_add, w_sub, w_mul, w_neg, w_lt, w_le, w_eq, w_cl, w_in, w_nat, w_max2, w_min2, w_abs2, iltT, iltF, ileT, ileF, ieqT, ieqF, bv_01, bft, bv_0, bv_1, bv_t, bv_f, cond_true, cond_false, Bool.not_true, Bool.not_false, if_true, if_false, true_or, or_true, true_and, and_true, ↓reduceIte, decide_true, decide_false, reduceCtorEq, u2_s, u2_o, u2_k, u2_u2, Bool.true_or, Bool.or_true, Bool.false_or, Bool.or_false, Bool.and_true, Bool.true_and, Bool.and_false, Bool.false_and, eq_self, not_true_eq_false, not_false_eq_true, and_self, and_true, true_and, false_and, and_false, w_dv, dvm, MSH_e hM, a0, a1, a2, t1, t2, s261, y1, r9, r11, s221]
      · have e : I2 = u2 I1 288 (ix 11) (w (w (vM I 11 + bl (vM I) o 3)).toInt) := by rw [hI2, w_of]
        rw [if_pos c9, e, vM_in (by unfold inV; omega) (i_rng _), y2]
      · rw [hI2, mI_k (by omega) (by omega) (by omega), y3]
      · rw [hI2]; exact FC_tr y4 (FC_u (by decide))
    · have c90 : vM I 9 = 0 := by omega
      refine ⟨I1, ?_, ?_, y3, y4⟩
      · rw [c90] at r9
        rw [if_neg c9, eq_281_36]
        simp (disch := first | assumption | omega | (simp (disch := omega) only [vM_u, vS_u]; first | assumption | omega)) only [hK, hL, hR, hI, hN, sI, hSp, hC, hW, li, lr, ↓cnd_a, ↓cnd_o, ↓cnd_n, ↓cnd_d, ↓z0, ↓z1, ↓z2, y0n, y1i, y2r, y0e, y1e, y2e, wl_0, wl_1, wl_2, wl_3, wl_4, wl_5, wl_6, wl_7, wl_8, wl_9, wl_10, wl_11, wl_12, wl_13, wl_14, wl_15, wl_16, wl_17, wl_18, wl_19, wl_20, wl_21, wl_22, wl_23, wl_24, wl_25, wl_26, wl_27, wl_28, wl_29, wl_30, wl_31, wl_32, wl_33, wl_34, wl_35, wl_36, wl_37, wl_38, wl_39, wl_40, wl_41, wl_42, wl_43, wl_44, wl_45, wl_46, wl_47, wl_48, wl_49, wl_50, wl_51, wl_52, wl_53, wl_54, wl_55, wl_56, wl_57, wl_58, wl_59, wl_60, wl_61, wl_62, wl_63, wl_64, wl_65, wl_66, wl_67, wl_68, wl_69, wl_70, wl_71, wl_72, wl_73, wl_74, wl_75, wl_76, wl_77, wl_78, wl_79, wl_80, wl_81, wl_82, wl_83, wl_84, wl_85, wl_86, wl_87, wl_88, wl_89, wl_90, wl_91, wl_92, wl_93, wl_94, wl_95, wl_96, wl_97, wl_98, wl_99, wl_100, wl_101, wl_102, wl_103, wl_104, wl_105, wl_106, wl_107, wl_108, wl_109, wl_110, wl_111, wl_112, wl_113, wl_114, wl_115, wl_116, wl_117, wl_118, wl_119, wl_120, wl_121, wl_122, wl_123, wl_124, wl_125, wl_126, wl_127, wl_128, wl_129, wl_130, wl_159, wl_160, wl_200, wl_232, wl_255, wl_256, wl_300, wl_359, wl_360, wl_400, wl_592, wl_992, wl_999, wl_1000, wl_1024, wl_3456, wl_6512, wl_7104, wl_10000, wl_11264, wl_12345, wl_32767, wl_1000000000, wl_1103515245, wl_2000000000, w_add, w_sub, w_mul, w_neg, w_lt, w_le, w_eq, w_cl, w_in, w_nat, w_max2, w_min2, w_abs2, iltT, iltF, ileT, ileF, ieqT, ieqF, bv_01, bft, bv_0, bv_1, bv_t, bv_f, cond_true, cond_false, Bool.not_true, Bool.not_false, if_true, if_false, true_or, or_true, true_and, and_true, ↓reduceIte, decide_true, decide_false, reduceCtorEq, u2_s, u2_o, u2_k, u2_u2, Bool.true_or, Bool.or_true, Bool.false_or, Bool.or_false, Bool.and_true, Bool.true_and, Bool.and_false, Bool.false_and, eq_self, not_true_eq_false, not_false_eq_true, and_self, and_true, true_and, false_and, and_false, w_dv, dvm, MSH_e hM, a0, a1, a2, t1, t2, s261, y1, r9]
      · rw [if_neg c9, y2]
theorem sp_281 {d : Nat} {st : Int} (hM : MSH K L R) (hB : BD (vM I)) (hP : PL 7000 (vM I)) (h1 : 1 ≤ vM I 13) (h8 : 0 < vM I 8) (hs : 0 ≤ st ∧ st ≤ 1000) :
    ∃ I', ev PR (d + 6) 281 [.ref 287, .int (w (vM I 13 - 1)), .int (w (ly (vM I) (vM I 13 - 1) 1)), .int (w (ly (vM I) (vM I 13 - 1) 2)), .int (w st)] (((vn, vc, vw, K, L, R), I, J) : HS) = some (.inl (some (.int (w (knkV (vM I) st)))), (((vn, vc, vw, K, L, R), I', J) : HS)) ∧ vM I' = knkM (vM I) st ∧ mI I' 12 = mI I 12 ∧ FC I I' := by
  obtain ⟨h3, h4, h5, h6, h7, h8', h9, h13, h14, hbk, hhp, hpp⟩ := id hB
  have hLt := hP (vM I 13 - 1) (by omega) (by omega)
  obtain ⟨n, hn⟩ : ∃ n, n = vM I 13 - 1 := ⟨_, rfl⟩
  obtain ⟨x, hx⟩ : ∃ x, x = ly (vM I) n 1 := ⟨_, rfl⟩
  obtain ⟨y, hy⟩ : ∃ y, y = ly (vM I) n 2 := ⟨_, rfl⟩
  rw [← hn] at hLt
  have eV : knkV (vM I) st = if knkK (vM I) = -1 then -1 else pshV (vM I) (knkK (vM I)) (sgn (ly (vM I) (knkK (vM I)) 1 - x)) (sgn (ly (vM I) (knkK (vM I)) 2 - y)) st := by
    unfold knkV
    rw [if_neg (by omega), ← hn, ← hx, ← hy]
  have eM : knkM (vM I) st = if knkK (vM I) = -1 then vM I else pshM (vM I) (knkK (vM I)) (sgn (ly (vM I) (knkK (vM I)) 1 - x)) (sgn (ly (vM I) (knkK (vM I)) 2 - y)) st := by
    unfold knkM
    rw [if_neg (by omega), ← hn, ← hx, ← hy]
  have eK : knkK (vM I) = fnd (knW (vM I) x y) 0 n.toNat := by
    unfold knkK
    rw [← hn, ← hx, ← hy]
  rw [eV, eM, eK, ← hn, ← hx, ← hy]
  rw [← hx, ← hy] at hLt
  have r8 := rV_s I (z := 8) (by omega)
  have s224 : ∀ k j, 0 ≤ k → k < n → 0 ≤ j → j < 4 → ev PR (d + 5) 226 [.ref 287, .int (w k), .int (w j)] (((vn, vc, vw, K, L, R), I, J) : HS) = some (.inl (some (.int (w (ly (vM I) k j)))), (((vn, vc, vw, K, L, R), I, J) : HS)) := fun k j a1 a2 a b => sp_226 (d := d + 4) (vn := vn) (vc := vc) (vw := vw) (J := J) hM (by omega)
  have lp : ∀ (i : Nat) (k : Int), 0 ≤ k → k + i = n → atv PR (d + 5) cd_281 2 [.ref 287, .int (w n), .int (w x), .int (w y), .int (w st), .int (w k), (.retAddr 0), (.retAddr 0), (.retAddr 0), (.retAddr 0)] [] (((vn, vc, vw, K, L, R), I, J) : HS) = atv PR (d + 5) cd_281 36 [.ref 287, .int (w n), .int (w x), .int (w y), .int (w st), .int (w (if fnd (knW (vM I) x y) k i = -1 then n else fnd (knW (vM I) x y) k i)), (.retAddr 0), (.retAddr 0), (.retAddr 0), (.retAddr 0)] [] (((vn, vc, vw, K, L, R), I, J) : HS) := by
    intro i
    induction i with
    | zero =>
      intro k h0 he
      have ek : k = n := by omega
      have ef : fnd (knW (vM I) x y) k 0 = -1 := rfl
      rw [ef, if_pos rfl, ek, eq_281_2]
      simp (disch := first | assumption | omega | (simp (disch := omega) only [vM_u, vS_u]; first | assumption | omega)) only [hK, hL, hR, hI, hN, sI, hSp, hC, hW, li, lr, ↓cnd_a, ↓cnd_o, ↓cnd_n, ↓cnd_d, ↓z0, ↓z1, ↓z2, y0n, y1i, y2r, y0e, y1e, y2e, wl_0, wl_1, wl_2, wl_3, wl_4, wl_5, wl_6, wl_7, wl_8, wl_9, wl_10, wl_11, wl_12, wl_13, wl_14, wl_15, wl_16, wl_17, wl_18, wl_19, wl_20, wl_21, wl_22, wl_23, wl_24, wl_25, wl_26, wl_27, wl_28, wl_29, wl_30, wl_31, wl_32, wl_33, wl_34, wl_35, wl_36, wl_37, wl_38, wl_39, wl_40, wl_41, wl_42, wl_43, wl_44, wl_45, wl_46, wl_47, wl_48, wl_49, wl_50, wl_51, wl_52, wl_53, wl_54, wl_55, wl_56, wl_57, wl_58, wl_59, wl_60, wl_61, wl_62, wl_63, wl_64, wl_65, wl_66, wl_67, wl_68, wl_69, wl_70, wl_71, wl_72, wl_73, wl_74, wl_75, wl_76, wl_77, wl_78, wl_79, wl_80, wl_81, wl_82, wl_83, wl_84, wl_85, wl_86, wl_87, wl_88, wl_89, wl_90, wl_91, wl_92, wl_93, wl_94, wl_95, wl_96, wl_97, wl_98, wl_99, wl_100, wl_101, wl_102, wl_103, wl_104, wl_105, wl_106, wl_107, wl_108, wl_109, wl_110, wl_111, wl_112, wl_113, wl_114, wl_115, wl_116, wl_117, wl_118, wl_119, wl_120, wl_121, wl_122, wl_123, wl_124, wl_125, wl_126, wl_127, wl_128, wl_129, wl_130, wl_159, wl_160, wl_200, wl_232, wl_255, wl_256, wl_300, wl_359, wl_360, wl_400, wl_592, wl_992, wl_999, wl_1000, wl_1024, wl_3456, wl_6512, wl_7104, wl_10000, wl_11264, wl_12345, wl_32767, wl_1000000000, wl_1103515245, wl_2000000000, w_add, w_sub, w_mul, w_neg, w_lt, w_le, w_eq, w_cl, w_in, w_nat, w_max2, w_min2, w_abs2, iltT, iltF, ileT, ileF, ieqT, ieqF, bv_01, bft, bv_0, bv_1, bv_t, bv_f, cond_true, cond_false, Bool.not_true, Bool.not_false, if_true, if_false, true_or, or_true, true_and, and_true, ↓reduceIte, decide_true, decide_false, reduceCtorEq, u2_s, u2_o, u2_k, u2_u2, Bool.true_or, Bool.or_true, Bool.false_or, Bool.or_false, Bool.and_true, Bool.true_and, Bool.and_false, Bool.false_and, eq_self, not_true_eq_false, not_false_eq_true, and_self, and_true, true_and, false_and, and_false, w_dv, dvm]
    | succ i ih =>
      intro k h0 he
      have hKk := hP k h0 (by omega)
      have b3 := s224 k 3 h0 (by omega) (by omega) (by omega)
      have b1 := s224 k 1 h0 (by omega) (by omega) (by omega)
      have b2 := s224 k 2 h0 (by omega) (by omega) (by omega)
      have t1 := sp_221 (d := d + 4) (σ := (((vn, vc, vw, K, L, R), I, J) : HS)) (a := ly (vM I) k 1 - x) (by omega)
      have t2 := sp_221 (d := d + 4) (σ := (((vn, vc, vw, K, L, R), I, J) : HS)) (a := ly (vM I) k 2 - y) (by omega)
      cases hc : knW (vM I) x y k with
      | false =>
        have hf : fnd (knW (vM I) x y) k (i + 1) = fnd (knW (vM I) x y) (k + 1) i := by
          conv => lhs; unfold fnd
          rw [hc, cond_false]
        rw [hf, ← ih (k + 1) (by omega) (by omega)]
        conv => lhs; rw [eq_281_2]
        unfold knW at hc
        by_cases c1 : ly (vM I) k 3 = 1
        · rw [c1] at b3
          by_cases c2 : ((ly (vM I) k 1 - x).natAbs : Int) ≤ vM I 8
          · by_cases c3 : ((ly (vM I) k 2 - y).natAbs : Int) ≤ vM I 8
            · rw [decide_eq_true c1, decide_eq_true c2, decide_eq_true c3] at hc; cases hc
            · simp (disch := first | assumption | omega | (simp (disch := omega) only [vM_u, vS_u]; first | assumption | omega)) only [hK, hL, hR, hI, hN, sI, hSp, hC, hW, li, lr, ↓cnd_a, ↓cnd_o, ↓cnd_n, ↓cnd_d, ↓z0, ↓z1, ↓z2, y0n, y1i, y2r, y0e, y1e, y2e, wl_0, wl_1, wl_2, wl_3, wl_4, wl_5, wl_6, wl_7, wl_8, wl_9, wl_10, wl_11, wl_12, wl_13, wl_14, wl_15, wl_16, wl_17, wl_18, wl_19, wl_20, wl_21, wl_22, wl_23, wl_24, wl_25, wl_26, wl_27, wl_28, wl_29, wl_30, wl_31, wl_32, wl_33, wl_34, wl_35, wl_36, wl_37, wl_38, wl_39, wl_40, wl_41, wl_42, wl_43, wl_44, wl_45, wl_46, wl_47, wl_48, wl_49, wl_50, wl_51, wl_52, wl_53, wl_54, wl_55, wl_56, wl_57, wl_58, wl_59, wl_60, wl_61, wl_62, wl_63, wl_64, wl_65, wl_66, wl_67, wl_68, wl_69, wl_70, wl_71, wl_72, wl_73, wl_74, wl_75, wl_76, wl_77, wl_78, wl_79, wl_80, wl_81, wl_82, wl_83, wl_84, wl_85, wl_86, wl_87, wl_88, wl_89, wl_90, wl_91, wl_92, wl_93, wl_94, wl_95, wl_96, wl_97, wl_98, wl_99, wl_100, wl_101, wl_102, wl_103, wl_104, wl_105, wl_106, wl_107, wl_108, wl_109, wl_110, wl_111, wl_112, wl_113, wl_114, wl_115, wl_116, wl_117, wl_118, wl_119, wl_120, wl_121, wl_122, wl_123, wl_124, wl_125, wl_126, wl_127, wl_128, wl_129, wl_130, wl_159, wl_160, wl_200, wl_232, wl_255, wl_256, wl_300, wl_359, wl_360, wl_400, wl_592, wl_992, wl_999, wl_1000, wl_1024, wl_3456, wl_6512, wl_7104, wl_10000, wl_11264, wl_12345, wl_32767, wl_1000000000, wl_1103515245, wl_2000000000, w_add, w_sub, w_mul, w_neg, w_lt, w_le, w_eq, w_cl, w_in, w_nat, w_max2, w_min2, w_abs2, iltT, iltF, ileT, ileF, ieqT, ieqF, bv_01, bft, bv_0, bv_1, bv_t, bv_f, cond_true, cond_false, Bool.not_true, Bool.not_false, if_true, if_false, true_or, or_true, true_and, and_true, ↓reduceIte, decide_true, decide_false, reduceCtorEq, u2_s, u2_o, u2_k, u2_u2, Bool.true_or, Bool.or_true, Bool.false_or, Bool.or_false, Bool.and_true, Bool.true_and, Bool.and_false, Bool.false_and, eq_self, not_true_eq_false, not_false_eq_true, and_self, and_true, true_and, false_and, and_false, w_dv, dvm, MSH_e hM, b3, b1, b2, t1, t2, r8]
          · simp (disch := first | assumption | omega | (simp (disch := omega) only [vM_u, vS_u]; first | assumption | omega)) only [hK, hL, hR, hI, hN, sI, hSp, hC, hW, li, lr, ↓cnd_a, ↓cnd_o, ↓cnd_n, ↓cnd_d, ↓z0, ↓z1, ↓z2, y0n, y1i, y2r, y0e, y1e, y2e, wl_0, wl_1, wl_2, wl_3, wl_4, wl_5, wl_6, wl_7, wl_8, wl_9, wl_10, wl_11, wl_12, wl_13, wl_14, wl_15, wl_16, wl_17, wl_18, wl_19, wl_20, wl_21, wl_22, wl_23, wl_24, wl_25, wl_26, wl_27, wl_28, wl_29, wl_30, wl_31, wl_32, wl_33, wl_34, wl_35, wl_36, wl_37, wl_38, wl_39, wl_40, wl_41, wl_42, wl_43, wl_44, wl_45, wl_46, wl_47, wl_48, wl_49, wl_50, wl_51, wl_52, wl_53, wl_54, wl_55, wl_56, wl_57, wl_58, wl_59, wl_60, wl_61, wl_62, wl_63, wl_64, wl_65, wl_66, wl_67, wl_68, wl_69, wl_70, wl_71, wl_72, wl_73, wl_74, wl_75, wl_76, wl_77, wl_78, wl_79, wl_80, wl_81, wl_82, wl_83, wl_84, wl_85, wl_86, wl_87, wl_88, wl_89, wl_90, wl_91, wl_92, wl_93, wl_94, wl_95, wl_96, wl_97, wl_98, wl_99, wl_100, wl_101, wl_102, wl_103, wl_104, wl_105, wl_106, wl_107, wl_108, wl_109, wl_110, wl_111, wl_112, wl_113, wl_114, wl_115, wl_116, wl_117, wl_118, wl_119, wl_120, wl_121, wl_122, wl_123, wl_124, wl_125, wl_126, wl_127, wl_128, wl_129, wl_130, wl_159, wl_160, wl_200, wl_232, wl_255, wl_256, wl_300, wl_359, wl_360, wl_400, wl_592, wl_992, wl_999, wl_1000, wl_1024, wl_3456, wl_6512, wl_7104, wl_10000, wl_11264, wl_12345, wl_32767, wl_1000000000, wl_1103515245, wl_2000000000, w_add, w_sub, w_mul, w_neg, w_lt, w_le, w_eq, w_cl, w_in, w_nat, w_max2, w_min2, w_abs2, iltT, iltF, ileT, ileF, ieqT, ieqF, bv_01, bft, bv_0, bv_1, bv_t, bv_f, cond_true, cond_false, Bool.not_true, Bool.not_false, if_true, if_false, true_or, or_true, true_and, and_true, ↓reduceIte, decide_true, decide_false, reduceCtorEq, u2_s, u2_o, u2_k, u2_u2, Bool.true_or, Bool.or_true, Bool.false_or, Bool.or_false, Bool.and_true, Bool.true_and, Bool.and_false, Bool.false_and, eq_self, not_true_eq_false, not_false_eq_true, and_self, and_true, true_and, false_and, and_false, w_dv, dvm, MSH_e hM, b3, b1, b2, t1, t2, r8]
        · have c10 : ly (vM I) k 3 = 0 := by omega
          rw [c10] at b3
          simp (disch := first | assumption | omega | (simp (disch := omega) only [vM_u, vS_u]; first | assumption | omega)) only [hK, hL, hR, hI, hN, sI, hSp, hC, hW, li, lr, ↓cnd_a, ↓cnd_o, ↓cnd_n, ↓cnd_d, ↓z0, ↓z1, ↓z2, y0n, y1i, y2r, y0e, y1e, y2e, wl_0, wl_1, wl_2, wl_3, wl_4, wl_5, wl_6, wl_7, wl_8, wl_9, wl_10, wl_11, wl_12, wl_13, wl_14, wl_15, wl_16, wl_17, wl_18, wl_19, wl_20, wl_21, wl_22, wl_23, wl_24, wl_25, wl_26, wl_27, wl_28, wl_29, wl_30, wl_31, wl_32, wl_33, wl_34, wl_35, wl_36, wl_37, wl_38, wl_39, wl_40, wl_41, wl_42, wl_43, wl_44, wl_45, wl_46, wl_47, wl_48, wl_49, wl_50, wl_51, wl_52, wl_53, wl_54, wl_55, wl_56, wl_57, wl_58, wl_59, wl_60, wl_61, wl_62, wl_63, wl_64, wl_65, wl_66, wl_67, wl_68, wl_69, wl_70, wl_71, wl_72, wl_73, wl_74, wl_75, wl_76, wl_77, wl_78, wl_79, wl_80, wl_81, wl_82, wl_83, wl_84, wl_85, wl_86, wl_87, wl_88, wl_89, wl_90, wl_91, wl_92, wl_93, wl_94, wl_95, wl_96, wl_97, wl_98, wl_99, wl_100, wl_101, wl_102, wl_103, wl_104, wl_105, wl_106, wl_107, wl_108, wl_109, wl_110, wl_111, wl_112, wl_113, wl_114, wl_115, wl_116, wl_117, wl_118, wl_119, wl_120, wl_121, wl_122, wl_123, wl_124, wl_125, wl_126, wl_127, wl_128, wl_129, wl_130, wl_159, wl_160, wl_200, wl_232, wl_255, wl_256, wl_300, wl_359, wl_360, wl_400, wl_592, wl_992, wl_999, wl_1000, wl_1024, wl_3456, wl_6512, wl_7104, wl_10000, wl_11264, wl_12345, wl_32767, wl_1000000000, wl_1103515245, wl_2000000000, w_add, w_sub, w_mul, w_neg, w_lt, w_le, w_eq, w_cl, w_in, w_nat, w_max2, w_min2, w_abs2, iltT, iltF, ileT, ileF, ieqT, ieqF, bv_01, bft, bv_0, bv_1, bv_t, bv_f, cond_true, cond_false, Bool.not_true, Bool.not_false, if_true, if_false, true_or, or_true, true_and, and_true, ↓reduceIte, decide_true, decide_false, reduceCtorEq, u2_s, u2_o, u2_k, u2_u2, Bool.true_or, Bool.or_true, Bool.false_or, Bool.or_false, Bool.and_true, Bool.true_and, Bool.and_false, Bool.false_and, eq_self, not_true_eq_false, not_false_eq_true, and_self, and_true, true_and, false_and, and_false, w_dv, dvm, MSH_e hM, b3]
      | true =>
        have hf : fnd (knW (vM I) x y) k (i + 1) = k := by
          conv => lhs; unfold fnd
          rw [hc, cond_true]
        rw [hf, if_neg (by omega)]
        unfold knW at hc
        rw [Bool.and_eq_true, Bool.and_eq_true] at hc
        have c1 := of_decide_eq_true hc.1
        have c2 := of_decide_eq_true hc.2.1
        have c3 := of_decide_eq_true hc.2.2
        rw [c1] at b3
        conv => lhs; rw [eq_281_2]
        simp (disch := first | assumption | omega | (simp (disch := omega) only [vM_u, vS_u]; first | assumption | omega)) only [hK, hL, hR, hI, hN, sI, hSp, hC, hW, li, lr, ↓cnd_a, ↓cnd_o, ↓cnd_n, ↓cnd_d, ↓z0, ↓z1, ↓z2, y0n, y1i, y2r, y0e, y1e, y2e, wl_0, wl_1, wl_2, wl_3, wl_4, wl_5, wl_6, wl_7, wl_8, wl_9, wl_10, wl_11, wl_12, wl_13, wl_14, wl_15, wl_16, wl_17, wl_18, wl_19, wl_20, wl_21, wl_22, wl_23, wl_24, wl_25, wl_26, wl_27, wl_28, wl_29, wl_30, wl_31, wl_32, wl_33, wl_34, wl_35, wl_36, wl_37, wl_38, wl_39, wl_40, wl_41, wl_42, wl_43, wl_44, wl_45, wl_46, wl_47, wl_48, wl_49, wl_50, wl_51, wl_52, wl_53, wl_54, wl_55, wl_56, wl_57, wl_58, wl_59, wl_60, wl_61, wl_62, wl_63, wl_64, wl_65, wl_66, wl_67, wl_68, wl_69, wl_70, wl_71, wl_72, wl_73, wl_74, wl_75, wl_76, wl_77, wl_78, wl_79, wl_80, wl_81, wl_82, wl_83, wl_84, wl_85, wl_86, wl_87, wl_88, wl_89, wl_90, wl_91, wl_92, wl_93, wl_94, wl_95, wl_96, wl_97, wl_98, wl_99, wl_100, wl_101, wl_102, wl_103, wl_104, wl_105, wl_106, wl_107, wl_108, wl_109, wl_110, wl_111, wl_112, wl_113, wl_114, wl_115, wl_116, wl_117, wl_118, wl_119, wl_120, wl_121, wl_122, wl_123, wl_124, wl_125, wl_126, wl_127, wl_128, wl_129, wl_130, wl_159, wl_160, wl_200, wl_232, wl_255, wl_256, wl_300, wl_359, wl_360, wl_400, wl_592, wl_992, wl_999, wl_1000, wl_1024, wl_3456, wl_6512, wl_7104, wl_10000, wl_11264, wl_12345, wl_32767, wl_1000000000, wl_1103515245, wl_2000000000, w_add, w_sub, w_mul, w_neg, w_lt, w_le, w_eq, w_cl, w_in, w_nat, w_max2, w_min2, w_abs2, iltT, iltF, ileT, ileF, ieqT, ieqF, bv_01, bft, bv_0, bv_1, bv_t, bv_f, cond_true, cond_false, Bool.not_true, Bool.not_false, if_true, if_false, true_or, or_true, true_and, and_true, ↓reduceIte, decide_true, decide_false, reduceCtorEq, u2_s, u2_o, u2_k, u2_u2, Bool.true_or, Bool.or_true, Bool.false_or, Bool.or_false, Bool.and_true, Bool.true_and, Bool.and_false, Bool.false_and, eq_self, not_true_eq_false, not_false_eq_true, and_self, and_true, true_and, false_and, and_false, w_dv, dvm, MSH_e hM, b3, b1, b2, t1, t2, r8]
  have g := lp n.toNat 0 (by omega) (by omega)
  have hfr := knkK_r (vM I)
  rw [eK, ← hn] at hfr
  obtain ⟨F, hF⟩ : ∃ F, F = fnd (knW (vM I) x y) 0 n.toNat := ⟨_, rfl⟩
  rw [← hF] at hfr g ⊢
  rcases hfr with hf | hf
  · rw [if_pos hf] at g ⊢
    rw [if_pos hf]
    refine ⟨I, ?_, rfl, rfl, FC_rf⟩
    rw [eq_281]
    simp (disch := first | assumption | omega | (simp (disch := omega) only [vM_u, vS_u]; first | assumption | omega)) only [hK, hL, hR, hI, hN, sI, hSp, hC, hW, li, lr, ↓cnd_a, ↓cnd_o, ↓cnd_n, ↓cnd_d, ↓z0, ↓z1, ↓z2, y0n, y1i, y2r, y0e, y1e, y2e, wl_0, wl_1, wl_2, wl_3, wl_4, wl_5, wl_6, wl_7, wl_8, wl_9, wl_10, wl_11, wl_12, wl_13, wl_14, wl_15, wl_16, wl_17, wl_18, wl_19, wl_20, wl_21, wl_22, wl_23, wl_24, wl_25, wl_26, wl_27, wl_28, wl_29, wl_30, wl_31, wl_32, wl_33, wl_34, wl_35, wl_36, wl_37, wl_38, wl_39, wl_40, wl_41, wl_42, wl_43, wl_44, wl_45, wl_46, wl_47, wl_48, wl_49, wl_50, wl_51, wl_52, wl_53, wl_54, wl_55, wl_56, wl_57, wl_58, wl_59, wl_60, wl_61, wl_62, wl_63, wl_64, wl_65, wl_66, wl_67, wl_68, wl_69, wl_70, wl_71, wl_72, wl_73, wl_74, wl_75, wl_76, wl_77, wl_78, wl_79, wl_80, wl_81, wl_82, wl_83, wl_84, wl_85, wl_86, wl_87, wl_88, wl_89, wl_90, wl_91, wl_92, wl_93, wl_94, wl_95, wl_96, wl_97, wl_98, wl_99, wl_100, wl_101, wl_102, wl_103, wl_104, wl_105, wl_106, wl_107, wl_108, wl_109, wl_110, wl_111, wl_112, wl_113, wl_114, wl_115, wl_116, wl_117, wl_118, wl_119, wl_120, wl_121, wl_122, wl_123, wl_124, wl_125, wl_126, wl_127, wl_128, wl_129, wl_130, wl_159, wl_160, wl_200, wl_232, wl_255, wl_256, wl_300, wl_359, wl_360, wl_400, wl_592, wl_992, wl_999, wl_1000, wl_1024, wl_3456, wl_6512, wl_7104, wl_10000, wl_11264, wl_12345, wl_32767, wl_1000000000, wl_1103515245, wl_2000000000, w_add, w_sub, w_mul, w_neg, w_lt, w_le, w_eq, w_cl, w_in, w_nat, w_max2, w_min2, w_abs2, iltT, iltF, ileT, ileF, ieqT, ieqF, bv_01, bft, bv_0, bv_1, bv_t, bv_f, cond_true, cond_false, Bool.not_true, Bool.not_false, if_true, if_false, true_or, or_true, true_and, and_true, ↓reduceIte, decide_true, decide_false, reduceCtorEq, u2_s, u2_o, u2_k, u2_u2, Bool.true_or, Bool.or_true, Bool.false_or, Bool.or_false, Bool.and_true, Bool.true_and, Bool.and_false, Bool.false_and, eq_self, not_true_eq_false, not_false_eq_true, and_self, and_true, true_and, false_and, and_false, w_dv, dvm, g]
    rw [eq_281_36]
    simp (disch := first | assumption | omega | (simp (disch := omega) only [vM_u, vS_u]; first | assumption | omega)) only [hK, hL, hR, hI, hN, sI, hSp, hC, hW, li, lr, ↓cnd_a, ↓cnd_o, ↓cnd_n, ↓cnd_d, ↓z0, ↓z1, ↓z2, y0n, y1i, y2r, y0e, y1e, y2e, wl_0, wl_1, wl_2, wl_3, wl_4, wl_5, wl_6, wl_7, wl_8, wl_9, wl_10, wl_11, wl_12, wl_13, wl_14, wl_15, wl_16, wl_17, wl_18, wl_19, wl_20, wl_21, wl_22, wl_23, wl_24, wl_25, wl_26, wl_27, wl_28, wl_29, wl_30, wl_31, wl_32, wl_33, wl_34, wl_35, wl_36, wl_37, wl_38, wl_39, wl_40, wl_41, wl_42, wl_43, wl_44, wl_45, wl_46, wl_47, wl_48, wl_49, wl_50, wl_51, wl_52, wl_53, wl_54, wl_55, wl_56, wl_57, wl_58, wl_59, wl_60, wl_61, wl_62, wl_63, wl_64, wl_65, wl_66, wl_67, wl_68, wl_69, wl_70, wl_71, wl_72, wl_73, wl_74, wl_75, wl_76, wl_77, wl_78, wl_79, wl_80, wl_81, wl_82, wl_83, wl_84, wl_85, wl_86, wl_87, wl_88, wl_89, wl_90, wl_91, wl_92, wl_93, wl_94, wl_95, wl_96, wl_97, wl_98, wl_99, wl_100, wl_101, wl_102, wl_103, wl_104, wl_105, wl_106, wl_107, wl_108, wl_109, wl_110, wl_111, wl_112, wl_113, wl_114, wl_115, wl_116, wl_117, wl_118, wl_119, wl_120, wl_121, wl_122, wl_123, wl_124, wl_125, wl_126, wl_127, wl_128, wl_129, wl_130, wl_159, wl_160, wl_200, wl_232, wl_255, wl_256, wl_300, wl_359, wl_360, wl_400, wl_592, wl_992, wl_999, wl_1000, wl_1024, wl_3456, wl_6512, wl_7104, wl_10000, wl_11264, wl_12345, wl_32767, wl_1000000000, wl_1103515245, wl_2000000000, w_add, w_sub, w_mul, w_neg, w_lt, w_le, w_eq, w_cl, w_in, w_nat, w_max2, w_min2, w_abs2, iltT, iltF, ileT, ileF, ieqT, ieqF, bv_01, bft, bv_0, bv_1, bv_t, bv_f, cond_true, cond_false, Bool.not_true, Bool.not_false, if_true, if_false, true_or, or_true, true_and, and_true, ↓reduceIte, decide_true, decide_false, reduceCtorEq, u2_s, u2_o, u2_k, u2_u2, Bool.true_or, Bool.or_true, Bool.false_or, Bool.or_false, Bool.and_true, Bool.true_and, Bool.and_false, Bool.false_and, eq_self, not_true_eq_false, not_false_eq_true, and_self, and_true, true_and, false_and, and_false, w_dv, dvm]
  · rw [if_neg (by omega)] at g ⊢
    rw [if_neg (by omega)]
    have hKF := hP F (by omega) (by omega)
    obtain ⟨I', y1, y2, y3, y4⟩ := lp_281 (d := d) (k := F) (n := n) (x := x) (y := y) (st := st) (vn := vn) (vc := vc) (vw := vw) (J := J) hM hB ⟨hf, by omega⟩ (by omega) (by omega) hs
    refine ⟨I', ?_, y2, y3, y4⟩
    rw [eq_281, ← y1, ← g]
    rfl
end THK
