/-! the reference's throw -/
section THW
variable {vn vc vw : Nat} {K L : Nat → Nat} {R : Nat → Nat → Nat} {I : Nat → Nat → Int32} {J : Nat → Nat → Int64}
theorem vM_lay {h x y n : Int} {e : Bool} (hB : BD (vM I)) (hn : vM I 13 = n ∧ n < 30) (hr : (-2147483648 ≤ h ∧ h < 2147483648) ∧ (-2147483648 ≤ x ∧ x < 2147483648) ∧ (-2147483648 ≤ y ∧ y < 2147483648)) : vM (u2 (u2 (u2 (u2 (u2 I 288 (ix (112 + 4 * n)) (w h)) 288 (ix (112 + 4 * n + 1)) (w x)) 288 (ix (112 + 4 * n + 2)) (w y)) 288 (ix (112 + 4 * n + 3)) (w (cond e 1 0))) 288 (ix 13) (w (n + 1))) = setm (setm (setm (setm (setm (vM I) 13 (n + 1)) (112 + 4 * n) h) (112 + 4 * n + 1) x) (112 + 4 * n + 2) y) (112 + 4 * n + 3) (cond e 1 0) := by
  obtain ⟨c3, c4, c5, c13, c14⟩ := BD_mI hB
  have e13 : vM I 13 = mI I 13 := vM_s (by omega)
  rw [e13] at hn
  have ee : -2147483648 ≤ cond e (1 : Int) 0 ∧ cond e (1 : Int) 0 < 2147483648 := by cases e <;> simp only [cond_true, cond_false] <;> omega
  obtain ⟨I4, hI4⟩ : ∃ I4, I4 = u2 (u2 (u2 (u2 I 288 (ix (112 + 4 * n)) (w h)) 288 (ix (112 + 4 * n + 1)) (w x)) 288 (ix (112 + 4 * n + 2)) (w y)) 288 (ix (112 + 4 * n + 3)) (w (cond e 1 0)) := ⟨_, rfl⟩
  have m4 : ∀ z, 0 ≤ z → mI I4 z = if z = 112 + 4 * n + 3 then cond e 1 0 else if z = 112 + 4 * n + 2 then y else if z = 112 + 4 * n + 1 then x else if z = 112 + 4 * n then h else mI I z := fun z hz => by
    rw [hI4, mI_s (by omega) ee hz, mI_s (by omega) (by omega) hz, mI_s (by omega) (by omega) hz, mI_s (by omega) (by omega) hz]
  have mo : ∀ z, 0 ≤ z → z < 112 + 4 * n ∨ 112 + 4 * n + 3 < z → mI I4 z = mI I z := fun z a b => by
    rw [m4 z a, if_neg (by omega), if_neg (by omega), if_neg (by omega), if_neg (by omega)]
  rw [← hI4]
  funext z
  rw [vM_13 (by omega) (by rw [mo _ (by omega) (by omega), mo _ (by omega) (by omega), mo _ (by omega) (by omega), mo _ (by omega) (by omega)]; omega)]
  by_cases z13 : z = 13
  · rw [if_pos z13, z13, setm_o _ (by omega), setm_o _ (by omega), setm_o _ (by omega), setm_o _ (by omega), setm_s]
  · rw [if_neg z13]
    by_cases zr : 112 ≤ z ∧ z < 232
    · rw [if_pos zr]
      by_cases zn : z < 112 + 4 * n
      · rw [if_pos (by omega), setm_o _ (by omega), setm_o _ (by omega), setm_o _ (by omega), setm_o _ (by omega), setm_o _ z13, mo z (by omega) (by omega), vM_l (by omega)]
      · by_cases zk : z < 112 + 4 * (n + 1)
        · rw [if_pos zk, m4 z (by omega)]
          have : z = 112 + 4 * n ∨ z = 112 + 4 * n + 1 ∨ z = 112 + 4 * n + 2 ∨ z = 112 + 4 * n + 3 := by omega
          rcases this with q | q | q | q
          · rw [if_neg (by omega), if_neg (by omega), if_neg (by omega), if_pos q, setm_o _ (by omega), setm_o _ (by omega), setm_o _ (by omega), q, setm_s]
          · rw [if_neg (by omega), if_neg (by omega), if_pos q, setm_o _ (by omega), setm_o _ (by omega), q, setm_s]
          · rw [if_neg (by omega), if_pos q, setm_o _ (by omega), q, setm_s]
          · rw [if_pos q, q, setm_s]
        · rw [if_neg zk, setm_o _ (by omega), setm_o _ (by omega), setm_o _ (by omega), setm_o _ (by omega), setm_o _ z13, vM_lo (by omega)]
    · rw [if_neg zr, setm_o _ (by omega), setm_o _ (by omega), setm_o _ (by omega), setm_o _ (by omega), setm_o _ z13]
      unfold vM
      rw [mo _ (by omega) (by omega), mo _ (by omega) (by omega), mo _ (by omega) (by omega), mo _ (by omega) (by omega), mo _ (by omega) (by omega)]
      by_cases c4 : z = 0 ∨ (3 ≤ z ∧ z ≤ 11) ∨ (13 ≤ z ∧ z ≤ 15) ∨ (20 ≤ z ∧ z < 20 + 5 * mI I 3) ∨ (70 ≤ z ∧ z < 70 + 3 * mI I 4) ∨ (94 ≤ z ∧ z < 94 + 3 * mI I 5) ∨ (112 ≤ z ∧ z < 112 + 4 * mI I 13) ∨ (232 ≤ z ∧ z < 232 + 6 * mI I 14)
      · rw [if_pos c4, if_pos c4, mo z (by omega) (by omega)]
      · rw [if_neg c4, if_neg c4]
theorem lp_282c {d : Nat} {m4 : Int → Int} {p h f hi pa st x y c k : Int} (hM : MSH K L R) (hB : BD (vM I)) (hv : vM I = m4) (hp : 0 ≤ p ∧ p < m4 5) (hq : (-1000000000 ≤ pe m4 p 1 ∧ pe m4 p 1 ≤ 1000000000) ∧ -1000000000 ≤ mI I 12 ∧ mI I 12 ≤ 1000000000) (hr : (-2147483648 ≤ p ∧ p < 2147483648) ∧ (-2147483648 ≤ h ∧ h < 2147483648) ∧ (-2147483648 ≤ x ∧ x < 2147483648) ∧ (-2147483648 ≤ y ∧ y < 2147483648) ∧ (-2147483648 ≤ c ∧ c < 2147483648) ∧ (-2147483648 ≤ k ∧ k < 2147483648)) (wa : Value) :
    ∃ I', atv PR (d + 2) cd_282 146 [.ref 287, .int (w p), .int (w h), .int (w f), .int (w hi), .int (w pa), .int (w st), .int (w x), .int (w y), .int (w c), .int (w k), wa] [] (((vn, vc, vw, K, L, R), I, J) : HS) = some (.inl (some (.int (w c))), (((vn, vc, vw, K, L, R), I', J) : HS)) ∧ vM I' = setm (setm (logF m4 p h x y c k) (94 + 3 * p + 1) (pe m4 p 1 + 1)) (94 + 3 * p) (min 99 (pe m4 p 0 + 1)) ∧ mI I' 12 = mI I 12 + 1 ∧ FC I I' := by
  obtain ⟨c3, c4, c5, c13, c14⟩ := BD_mI hB
  have e5 : vM I 5 = mI I 5 := vM_s (by omega)
  have hpp := hB.2.2.2.2.2.2.2.2.2.2.2 p hp.1 (by rw [hv]; exact hp.2)
  rw [hv] at hpp
  have hp5 : p < mI I 5 := by rw [← e5, hv]; exact hp.2
  have r12 := mI_w I 12
  obtain ⟨I1, hI1⟩ : ∃ I1, I1 = u2 I 288 (ix 12) (w (mI I 12 + 1)) := ⟨_, rfl⟩
  have v1 : vM I1 = m4 := by rw [hI1, vM_ot (by unfold inV; omega)]; exact hv
  have k1 : ∀ z, 0 ≤ z → z ≠ 12 → mI I1 z = mI I z := fun z a b => by rw [hI1, mI_k (by omega) a b]
  have s1' : mI I1 12 = mI I 12 + 1 := by rw [hI1, mI_s (by omega) (by omega) (by omega), if_pos rfl]
  have rp : I1 288 (ix (94 + 3 * p + 1)) = w (pe m4 p 1) := by
    rw [mI_w I1, ← v1]
    unfold pe
    rw [show vM I1 (94 + 3 * p + 1) = mI I1 (94 + 3 * p + 1) from if_pos (by rw [k1 5 (by omega) (by omega)]; omega)]
  obtain ⟨I2, hI2⟩ : ∃ I2, I2 = u2 I1 288 (ix (94 + 3 * p + 1)) (w (pe m4 p 1 + 1)) := ⟨_, rfl⟩
  have v2 : vM I2 = setm m4 (94 + 3 * p + 1) (pe m4 p 1 + 1) := by rw [hI2, vM_in (by unfold inV; rw [k1 5 (by omega) (by omega)]; omega) (by omega), v1]
  have k2 : ∀ z, 0 ≤ z → z ≠ 94 + 3 * p + 1 → mI I2 z = mI I1 z := fun z a b => by rw [hI2, mI_k (by omega) a b]
  have s223 := sp_225 (d := d + 1) (b := p) (j := 0) (I := I2) (vn := vn) (vc := vc) (vw := vw) (J := J) hM (by rw [v2, setm_o _ (by omega), ← hv, e5]; omega)
  have ep : pe (vM I2) p 0 = pe m4 p 0 := by rw [v2]; unfold pe; rw [setm_o _ (by omega)]
  rw [ep] at s223
  have s217 := sp_219 (d := d + 1) (σ := (((vn, vc, vw, K, L, R), I2, J) : HS)) (a := 99) (b := pe m4 p 0 + 1) (by omega)
  obtain ⟨I3, hI3⟩ : ∃ I3, I3 = u2 I2 288 (ix (94 + 3 * p)) (w (min 99 (pe m4 p 0 + 1))) := ⟨_, rfl⟩
  have v3 : vM I3 = setm (setm m4 (94 + 3 * p + 1) (pe m4 p 1 + 1)) (94 + 3 * p) (min 99 (pe m4 p 0 + 1)) := by rw [hI3, vM_in (by unfold inV; rw [k2 5 (by omega) (by omega), k1 5 (by omega) (by omega)]; omega) (by omega), v2]
  have B3 : BD (vM I3) := by
    rw [v3]
    rw [hv] at hB
    refine BD_c (fun z a => by rw [setm_o _ (by omega), setm_o _ (by omega)]) hB (by rw [setm_o _ (by omega), setm_o _ (by omega)]; exact hB.2.2.2.2.2.2.2.1) (by rw [setm_o _ (by omega), setm_o _ (by omega)]; exact hB.2.2.2.2.2.2.2.2.1) (fun q a b => ?_)
    have hqq := hB.2.2.2.2.2.2.2.2.2.2.2 q a b
    by_cases eq : q = p
    · have e : pe (setm (setm m4 (94 + 3 * p + 1) (pe m4 p 1 + 1)) (94 + 3 * p) (min 99 (pe m4 p 0 + 1))) q 0 = min 99 (pe m4 p 0 + 1) := if_pos (by omega)
      rw [e]
      omega
    · have e : pe (setm (setm m4 (94 + 3 * p + 1) (pe m4 p 1 + 1)) (94 + 3 * p) (min 99 (pe m4 p 0 + 1))) q 0 = pe m4 q 0 := by
        unfold pe
        rw [setm_o _ (by omega), setm_o _ (by omega)]
      rw [e]
      omega
  obtain ⟨I', x1, x2, x3, x4⟩ := lp_282d (d := d) (f := f) (hi := hi) (pa := pa) (st := st) (I := I3) (vn := vn) (vc := vc) (vw := vw) (J := J) hM B3 hr wa
  refine ⟨I', ?_, ?_, ?_, ?_⟩
  · rw [← x1, hI3, eq_282_146]
    simp (disch := first | assumption | omega | (simp (disch := omega) only [vM_u, vS_u]; first | assumption | omega)) only [hK, hL, hR, hI, hN, sI, hSp, hC, hW, li, lr, ↓cnd_a, ↓cnd_o, ↓cnd_n, ↓cnd_d, ↓z0, ↓z1, ↓z2, y0n, y1i, y2r, y0e, y1e, y2e, wl_0, wl_1, wl_2, wl_3, wl_4, wl_5, wl_6, wl_7, wl_8, wl_9, wl_10, wl_11, wl_12, wl_13, wl_14, wl_15, wl_16, wl_17, wl_18, wl_19, wl_20, wl_21, wl_22, wl_23, wl_24, wl_25, wl_26, wl_27, wl_28, wl_29, wl_30, wl_31, wl_32, wl_33, wl_34, wl_35, wl_36, wl_37, wl_38, wl_39, wl_40, wl_41, wl_42, wl_43, wl_44, wl_45, wl_46, wl_47, wl_48, wl_49, wl_50, wl_51, wl_52, wl_53, wl_54, wl_55, wl_56, wl_57, wl_58, wl_59, wl_60, wl_61, wl_62, wl_63, wl_64, wl_65, wl_66, wl_67, wl_68, wl_69, wl_70, wl_71, wl_72, wl_73, wl_74, wl_75, wl_76, wl_77, wl_78, wl_79, wl_80, wl_81, wl_82, wl_83, wl_84, wl_85, wl_86, wl_87, wl_88, wl_89, wl_90, wl_91, wl_92, wl_93, wl_94, wl_95, wl_96, wl_97, wl_98, wl_99, wl_100, wl_101, wl_102, wl_103, wl_104, wl_105, wl_106, wl_107, wl_108, wl_109, wl_110, wl_111, wl_112, wl_113, wl_114, wl_115, wl_116, wl_117, wl_118, wl_119, wl_120, wl_121, wl_122, wl_123, wl_124, wl_125, wl_126, wl_127, wl_128, wl_129, wl_130, wl_159, wl_160, wl_200, wl_232, wl_255, wl_256, wl_300, wl_359, wl_360, wl_400, wl_592, wl_992, wl_999, wl_1000, wl_1024, wl_3456, wl_6512, wl_7104, wl_10000, wl_11264, wl_12345, wl_32767, wl_1000000000, wl_1103515245, wl_2000000000, w_add, w_sub, w_mul, w_neg, w_lt, w_le, w_eq, w_cl, w_in, w_nat, w_max2, w_min2, w_abs2, iltT, iltF, ileT, ileF, ieqT, ieqF, bv_01, bft, bv_0, bv_1, bv_t, bv_f, cond_true, cond_false, Bool.not_true, Bool.not_false, if_true, if_false, true_or, or_true, true_and, and_true, ↓reduceIte, decide_true, decide_false, reduceCtorEq, u2_s, u2_o, u2_k, u2_u2, Bool.true_or, Bool.or_true, Bool.false_or, Bool.or_false, Bool.and_true, Bool.true_and, Bool.and_false, Bool.false_and, eq_self, not_true_eq_false, not_false_eq_true, and_self, and_true, true_and, false_and, and_false, w_dv, dvm, MSH_e hM, r12]
    rw [← hI1]
    simp (disch := first | assumption | omega | (simp (disch := omega) only [vM_u, vS_u]; first | assumption | omega)) only [hK, hL, hR, hI, hN, sI, hSp, hC, hW, li, lr, ↓cnd_a, ↓cnd_o, ↓cnd_n, ↓cnd_d, ↓z0, ↓z1, ↓z2, y0n, y1i, y2r, y0e, y1e, y2e, wl_0, wl_1, wl_2, wl_3, wl_4, wl_5, wl_6, wl_7, wl_8, wl_9, wl_10, wl_11, wl_12, wl_13, wl_14, wl_15, wl_16, wl_17, wl_18, wl_19, wl_20, wl_21, wl_22, wl_23, wl_24, wl_25, wl_26, wl_27, wl_28, wl_29, wl_30, wl_31, wl_32, wl_33, wl_34, wl_35, wl_36, wl_37, wl_38, wl_39, wl_40, wl_41, wl_42, wl_43, wl_44, wl_45, wl_46, wl_47, wl_48, wl_49, wl_50, wl_51, wl_52, wl_53, wl_54, wl_55, wl_56, wl_57, wl_58, wl_59, wl_60, wl_61, wl_62, wl_63, wl_64, wl_65, wl_66, wl_67, wl_68, wl_69, wl_70, wl_71, wl_72, wl_73, wl_74, wl_75, wl_76, wl_77, wl_78, wl_79, wl_80, wl_81, wl_82, wl_83, wl_84, wl_85, wl_86, wl_87, wl_88, wl_89, wl_90, wl_91, wl_92, wl_93, wl_94, wl_95, wl_96, wl_97, wl_98, wl_99, wl_100, wl_101, wl_102, wl_103, wl_104, wl_105, wl_106, wl_107, wl_108, wl_109, wl_110, wl_111, wl_112, wl_113, wl_114, wl_115, wl_116, wl_117, wl_118, wl_119, wl_120, wl_121, wl_122, wl_123, wl_124, wl_125, wl_126, wl_127, wl_128, wl_129, wl_130, wl_159, wl_160, wl_200, wl_232, wl_255, wl_256, wl_300, wl_359, wl_360, wl_400, wl_592, wl_992, wl_999, wl_1000, wl_1024, wl_3456, wl_6512, wl_7104, wl_10000, wl_11264, wl_12345, wl_32767, wl_1000000000, wl_1103515245, wl_2000000000, w_add, w_sub, w_mul, w_neg, w_lt, w_le, w_eq, w_cl, w_in, w_nat, w_max2, w_min2, w_abs2, iltT, iltF, ileT, ileF, ieqT, ieqF, bv_01, bft, bv_0, bv_1, bv_t, bv_f, cond_true, cond_false, Bool.not_true, Bool.not_false, if_true, if_false, true_or, or_true, true_and, and_true, ↓reduceIte, decide_true, decide_false, reduceCtorEq, u2_s, u2_o, u2_k, u2_u2, Bool.true_or, Bool.or_true, Bool.false_or, Bool.or_false, Bool.and_true, Bool.true_and, Bool.and_false, Bool.false_and, eq_self, not_true_eq_false, not_false_eq_true, and_self, and_true, true_and, false_and, and_false, w_dv, dvm, MSH_e hM, rp, Int.add_zero]
    rw [← hI2]
    simp (disch := first | assumption | omega | (simp (disch := omega) only [vM_u, vS_u]; first | assumption | omega)) only [hK, hL, hR, hI, hN, sI, hSp, hC, hW, li, lr, ↓cnd_a, ↓cnd_o, ↓cnd_n, ↓cnd_d, ↓z0, ↓z1, ↓z2, y0n, y1i, y2r, y0e, y1e, y2e, wl_0, wl_1, wl_2, wl_3, wl_4, wl_5, wl_6, wl_7, wl_8, wl_9, wl_10, wl_11, wl_12, wl_13, wl_14, wl_15, wl_16, wl_17, wl_18, wl_19, wl_20, wl_21, wl_22, wl_23, wl_24, wl_25, wl_26, wl_27, wl_28, wl_29, wl_30, wl_31, wl_32, wl_33, wl_34, wl_35, wl_36, wl_37, wl_38, wl_39, wl_40, wl_41, wl_42, wl_43, wl_44, wl_45, wl_46, wl_47, wl_48, wl_49, wl_50, wl_51, wl_52, wl_53, wl_54, wl_55, wl_56, wl_57, wl_58, wl_59, wl_60, wl_61, wl_62, wl_63, wl_64, wl_65, wl_66, wl_67, wl_68, wl_69, wl_70, wl_71, wl_72, wl_73, wl_74, wl_75, wl_76, wl_77, wl_78, wl_79, wl_80, wl_81, wl_82, wl_83, wl_84, wl_85, wl_86, wl_87, wl_88, wl_89, wl_90, wl_91, wl_92, wl_93, wl_94, wl_95, wl_96, wl_97, wl_98, wl_99, wl_100, wl_101, wl_102, wl_103, wl_104, wl_105, wl_106, wl_107, wl_108, wl_109, wl_110, wl_111, wl_112, wl_113, wl_114, wl_115, wl_116, wl_117, wl_118, wl_119, wl_120, wl_121, wl_122, wl_123, wl_124, wl_125, wl_126, wl_127, wl_128, wl_129, wl_130, wl_159, wl_160, wl_200, wl_232, wl_255, wl_256, wl_300, wl_359, wl_360, wl_400, wl_592, wl_992, wl_999, wl_1000, wl_1024, wl_3456, wl_6512, wl_7104, wl_10000, wl_11264, wl_12345, wl_32767, wl_1000000000, wl_1103515245, wl_2000000000, w_add, w_sub, w_mul, w_neg, w_lt, w_le, w_eq, w_cl, w_in, w_nat, w_max2, w_min2, w_abs2, iltT, iltF, ileT, ileF, ieqT, ieqF, bv_01, bft, bv_0, bv_1, bv_t, bv_f, cond_true, cond_false, Bool.not_true, Bool.not_false, if_true, if_false, true_or, or_true, true_and, and_true, ↓reduceIte, decide_true, decide_false, reduceCtorEq, u2_s, u2_o, u2_k, u2_u2, Bool.true_or, Bool.or_true, Bool.false_or, Bool.or_false, Bool.and_true, Bool.true_and, Bool.and_false, Bool.false_and, eq_self, not_true_eq_false, not_false_eq_true, and_self, and_true, true_and, false_and, and_false, w_dv, dvm, MSH_e hM, s223, s217, Int.add_zero]
  · rw [x2, v3, logF_s (by omega), logF_s (by omega)]
  · rw [x3, hI3, mI_k (by omega) (by omega) (by omega), k2 12 (by omega) (by omega), s1']
  · refine FC_tr ?_ x4
    rw [hI3, hI2, hI1]
    exact FC_tr (FC_tr (FC_u (by decide)) (FC_u (by unfold ix; omega))) (FC_u (by unfold ix; omega))
theorem lp_282b {d : Nat} {m : Int → Int} {p h f hi pa st x y y' c : Int} {e : Bool} (hM : MSH K L R) (hB : BD (vM I)) (hP : PL 6000 (vM I)) (hv : vM I = m) (h13 : m 13 < 30) (h22 : I 287 22 = w x ∧ I 287 23 = w y') (hc : (e = true ∧ c = -2) ∨ (e = false ∧ -1 ≤ c ∧ c ≤ 10)) (hh : 0 ≤ h ∧ h < m 4) (hx : (-6000 ≤ x ∧ x ≤ 6000) ∧ -6000 ≤ y' ∧ y' ≤ 6000) (hs : 0 ≤ st ∧ st ≤ 1000) (ra : Value) (hra : ra = .retAddr 0) :
    ∃ I' wb, atv PR (d + 7) cd_282 105 [.ref 287, .int (w p), .int (w h), .int (w f), .int (w hi), .int (w pa), .int (w st), .int (w x), .int (w y), .int (w c), .int (w (-1)), ra] [] (((vn, vc, vw, K, L, R), I, J) : HS) = atv PR (d + 7) cd_282 146 [.ref 287, .int (w p), .int (w h), .int (w f), .int (w hi), .int (w pa), .int (w st), .int (w x), .int (w y), .int (w c), .int (w (knkV (setm (setm (setm (setm (setm m 13 (m 13 + 1)) (112 + 4 * m 13) h) (112 + 4 * m 13 + 1) x) (112 + 4 * m 13 + 2) y') (112 + 4 * m 13 + 3) (cond e 1 0)) st)), wb] [] (((vn, vc, vw, K, L, R), I', J) : HS) ∧
      vM I' = knkM (setm (setm (setm (setm (setm m 13 (m 13 + 1)) (112 + 4 * m 13) h) (112 + 4 * m 13 + 1) x) (112 + 4 * m 13 + 2) y') (112 + 4 * m 13 + 3) (cond e 1 0)) st ∧ mI I' 12 = mI I 12 ∧ FC I I' := by
  subst hra
  have hB' := hB
  obtain ⟨c3, c4, c5, c13, c14⟩ := BD_mI hB
  have e13 : vM I 13 = mI I 13 := vM_s (by omega)
  have h4 : m 4 ≤ 8 := by rw [← hv]; exact hB.2.1.2
  have hr13 : 0 ≤ m 13 := by rw [← hv, e13]; exact c13.1
  have r13 := rV_s I (z := 13) (by omega)
  rw [hv] at r13
  obtain ⟨q22, q23⟩ := h22
  obtain ⟨I4, hI4⟩ : ∃ I4, I4 = u2 (u2 (u2 (u2 I 288 (ix (112 + 4 * m 13)) (w h)) 288 (ix (112 + 4 * m 13 + 1)) (w x)) 288 (ix (112 + 4 * m 13 + 2)) (w y')) 288 (ix (112 + 4 * m 13 + 3)) (w (cond e 1 0)) := ⟨_, rfl⟩
  have s278 := sp_280 (d := d + 6) (k := m 13) (h := h) (x := x) (y := y') (e := e) (I := I) (vn := vn) (vc := vc) (vw := vw) (J := J) hM (by omega)
  rw [← hI4] at s278
  have r13' : I4 288 (ix 13) = w (m 13) := by
    rw [hI4]
    simp only [u2_r]
    rw [if_neg (by unfold ix; omega), if_neg (by unfold ix; omega), if_neg (by unfold ix; omega), if_neg (by unfold ix; omega)]
    exact r13
  obtain ⟨I5, hI5⟩ : ∃ I5, I5 = u2 I4 288 (ix 13) (w (m 13 + 1)) := ⟨_, rfl⟩
  obtain ⟨M, hMM⟩ : ∃ M, M = setm (setm (setm (setm (setm m 13 (m 13 + 1)) (112 + 4 * m 13) h) (112 + 4 * m 13 + 1) x) (112 + 4 * m 13 + 2) y') (112 + 4 * m 13 + 3) (cond e 1 0) := ⟨_, rfl⟩
  have v5 : vM I5 = M := by
    rw [hI5, hI4, vM_lay hB ⟨by rw [hv], h13⟩ (by omega), hv, hMM]
  have M13 : M 13 = m 13 + 1 := by rw [hMM, setm_o _ (by omega), setm_o _ (by omega), setm_o _ (by omega), setm_o _ (by omega), setm_s]
  have Mo : ∀ z, z ≠ 13 → z < 112 ∨ 232 ≤ z → M z = m z := fun z a b => by rw [hMM, setm_o _ (by omega), setm_o _ (by omega), setm_o _ (by omega), setm_o _ (by omega), setm_o _ a]
  have kB : kp m M := fun z a => Mo z (by omega) (by omega)
  rw [← hMM]
  have B5 : BD M := by
    rw [hv] at hB
    exact BD_kp kB hB (by omega) (by rw [Mo 14 (by omega) (by omega)]; exact hB.2.2.2.2.2.2.2.2.1)
  have lay : M = layF m h x y' e := by
    rw [hMM]
    unfold layF
    rw [if_neg (by omega)]
  have P5 : PL 7000 M := by
    rw [lay]
    exact PL_mono (by omega) (PL_lay (hv ▸ hP) (by omega) hh (by omega))
  have l1 : ly M (M 13 - 1) 1 = x := by
    unfold ly
    rw [M13, show 112 + 4 * (m 13 + 1 - 1) + 1 = 112 + 4 * m 13 + 1 by omega, hMM, setm_o _ (by omega), setm_o _ (by omega), setm_s]
  have l2 : ly M (M 13 - 1) 2 = y' := by
    unfold ly
    rw [M13, show 112 + 4 * (m 13 + 1 - 1) + 2 = 112 + 4 * m 13 + 2 by omega, hMM, setm_o _ (by omega), setm_s]
  have F5 : FC I I5 := by
    rw [hI5, hI4]
    exact FC_tr (FC_tr (FC_tr (FC_tr (FC_u (by unfold ix; omega)) (FC_u (by unfold ix; omega))) (FC_u (by unfold ix; omega))) (FC_u (by unfold ix; omega))) (FC_u (by decide))
  have t12 : mI I5 12 = mI I 12 := by
    rw [hI5, hI4, mI_k (by omega) (by omega) (by omega), mI_k (by omega) (by omega) (by omega), mI_k (by omega) (by omega) (by omega), mI_k (by omega) (by omega) (by omega), mI_k (by omega) (by omega) (by omega)]
  have r8 := rV_s I5 (z := 8) (by omega)
  rw [v5] at r8
  have hB8 := B5.2.2.2.2.2.1
  have q22' : I5 287 22 = w x := by rw [F5 _ _ (by decide)]; exact q22
  have q23' : I5 287 23 = w y' := by rw [F5 _ _ (by decide)]; exact q23
  have F44 : FC I I4 := by
    rw [hI4]
    exact FC_tr (FC_tr (FC_tr (FC_u (by unfold ix; omega)) (FC_u (by unfold ix; omega))) (FC_u (by unfold ix; omega))) (FC_u (by unfold ix; omega))
  have p22 : I4 287 22 = w x := by rw [F44 _ _ (by decide)]; exact q22
  have p23 : I4 287 23 = w y' := by rw [F44 _ _ (by decide)]; exact q23
  have go : atv PR (d + 7) cd_282 105 [.ref 287, .int (w p), .int (w h), .int (w f), .int (w hi), .int (w pa), .int (w st), .int (w x), .int (w y), .int (w c), .int (w (-1)), .retAddr 0] [] (((vn, vc, vw, K, L, R), I, J) : HS) = atv PR (d + 7) cd_282 123 [.ref 287, .int (w p), .int (w h), .int (w f), .int (w hi), .int (w pa), .int (w st), .int (w x), .int (w y), .int (w c), .int (w (-1)), .int (w (m 13))] [.int (bv e), .int (w y'), .int (w x), .int (w h), .int (w (m 13)), .ref 287] (((vn, vc, vw, K, L, R), I, J) : HS) := by
    rw [eq_282_105]
    rcases hc with ⟨e1, e2⟩ | ⟨e1, e2⟩
    · rw [e1, e2]
      simp (disch := first | assumption | omega | (simp (disch := omega) only [vM_u, vS_u]; first | assumption | omega)) only [hK, hL, hR, hI, hN, sI, hSp, hC, hW, li, lr, ↓cnd_a, ↓cnd_o, ↓cnd_n, ↓cnd_d, ↓z0, ↓z1, ↓z2, y0n, y1i, y2r, y0e, y1e, y2e, wl_0, wl_1, wl_2, wl_3, wl_4, wl_5, wl_6, wl_7, wl_8, wl_9, wl_10, wl_11, wl_12, wl_13, wl_14, wl_15, wl_16, wl_17, wl_18, wl_19, wl_20, wl_21, wl_22, wl_23, wl_24, wl_25, wl_26, wl_27, wl_28, wl_29, wl_30, wl_31, wl_32, wl_33, wl_34, wl_35, wl_36, wl_37, wl_38, wl_39, wl_40, wl_41, wl_42, wl_43, wl_44, wl_45, wl_46, wl_47, wl_48, wl_49, wl_50, wl_51, wl_52, wl_53, wl_54, wl_55, wl_56, wl_57, wl_58, wl_59, wl_60, wl_61, wl_62, wl_63, wl_64, wl_65, wl_66, wl_67, wl_68, wl_69, wl_70, wl_71, wl_72, wl_73, wl_74, wl_75, wl_76, wl_77, wl_78, wl_79, wl_80, wl_81, wl_82, wl_83, wl_84, wl_85, wl_86, wl_87, wl_88, wl_89, wl_90, wl_91, wl_92, wl_93, wl_94, wl_95, wl_96, wl_97, wl_98, wl_99, wl_100, wl_101, wl_102, wl_103, wl_104, wl_105, wl_106, wl_107, wl_108, wl_109, wl_110, wl_111, wl_112, wl_113, wl_114, wl_115, wl_116, wl_117, wl_118, wl_119, wl_120, wl_121, wl_122, wl_123, wl_124, wl_125, wl_126, wl_127, wl_128, wl_129, wl_130, wl_159, wl_160, wl_200, wl_232, wl_255, wl_256, wl_300, wl_359, wl_360, wl_400, wl_592, wl_992, wl_999, wl_1000, wl_1024, wl_3456, wl_6512, wl_7104, wl_10000, wl_11264, wl_12345, wl_32767, wl_1000000000, wl_1103515245, wl_2000000000, w_add, w_sub, w_mul, w_neg, w_lt, w_le, w_eq, w_cl, w_in, w_nat, w_max2, w_min2, w_abs2, iltT, iltF, ileT, ileF, ieqT, ieqF, bv_01, bft, bv_0, bv_1, bv_t, bv_f, cond_true, cond_false, Bool.not_true, Bool.not_false, if_true, if_false, true_or, or_true, true_and, and_true, ↓reduceIte, decide_true, decide_false, reduceCtorEq, u2_s, u2_o, u2_k, u2_u2, Bool.true_or, Bool.or_true, Bool.false_or, Bool.or_false, Bool.and_true, Bool.true_and, Bool.and_false, Bool.false_and, eq_self, not_true_eq_false, not_false_eq_true, and_self, and_true, true_and, false_and, and_false, w_dv, dvm, MSH_e hM, r13, q22, q23]
    · rw [e1]
      simp (disch := first | assumption | omega | (simp (disch := omega) only [vM_u, vS_u]; first | assumption | omega)) only [hK, hL, hR, hI, hN, sI, hSp, hC, hW, li, lr, ↓cnd_a, ↓cnd_o, ↓cnd_n, ↓cnd_d, ↓z0, ↓z1, ↓z2, y0n, y1i, y2r, y0e, y1e, y2e, wl_0, wl_1, wl_2, wl_3, wl_4, wl_5, wl_6, wl_7, wl_8, wl_9, wl_10, wl_11, wl_12, wl_13, wl_14, wl_15, wl_16, wl_17, wl_18, wl_19, wl_20, wl_21, wl_22, wl_23, wl_24, wl_25, wl_26, wl_27, wl_28, wl_29, wl_30, wl_31, wl_32, wl_33, wl_34, wl_35, wl_36, wl_37, wl_38, wl_39, wl_40, wl_41, wl_42, wl_43, wl_44, wl_45, wl_46, wl_47, wl_48, wl_49, wl_50, wl_51, wl_52, wl_53, wl_54, wl_55, wl_56, wl_57, wl_58, wl_59, wl_60, wl_61, wl_62, wl_63, wl_64, wl_65, wl_66, wl_67, wl_68, wl_69, wl_70, wl_71, wl_72, wl_73, wl_74, wl_75, wl_76, wl_77, wl_78, wl_79, wl_80, wl_81, wl_82, wl_83, wl_84, wl_85, wl_86, wl_87, wl_88, wl_89, wl_90, wl_91, wl_92, wl_93, wl_94, wl_95, wl_96, wl_97, wl_98, wl_99, wl_100, wl_101, wl_102, wl_103, wl_104, wl_105, wl_106, wl_107, wl_108, wl_109, wl_110, wl_111, wl_112, wl_113, wl_114, wl_115, wl_116, wl_117, wl_118, wl_119, wl_120, wl_121, wl_122, wl_123, wl_124, wl_125, wl_126, wl_127, wl_128, wl_129, wl_130, wl_159, wl_160, wl_200, wl_232, wl_255, wl_256, wl_300, wl_359, wl_360, wl_400, wl_592, wl_992, wl_999, wl_1000, wl_1024, wl_3456, wl_6512, wl_7104, wl_10000, wl_11264, wl_12345, wl_32767, wl_1000000000, wl_1103515245, wl_2000000000, w_add, w_sub, w_mul, w_neg, w_lt, w_le, w_eq, w_cl, w_in, w_nat, w_max2, w_min2, w_abs2, iltT, iltF, ileT, ileF, ieqT, ieqF, bv_01, bft, bv_0, bv_1, bv_t, bv_f, cond_true, cond_false, Bool.not_true, Bool.not_false, if_true, if_false, true_or, or_true, true_and, and_true, ↓reduceIte, decide_true, decide_false, reduceCtorEq, u2_s, u2_o, u2_k, u2_u2, Bool.true_or, Bool.or_true, Bool.false_or, Bool.or_false, Bool.and_true, Bool.true_and, Bool.and_false, Bool.false_and, eq_self, not_true_eq_false, not_false_eq_true, and_self, and_true, true_and, false_and, and_false, w_dv, dvm, MSH_e hM, r13, q22, q23]
  by_cases c8 : M 8 ≤ 0
  · have eV : knkV M st = -1 := by unfold knkV; rw [if_pos c8]
    have eM : knkM M st = M := by unfold knkM; rw [if_pos c8]
    rw [eV, eM]
    refine ⟨I5, .int (w (m 13)), ?_, v5, t12, F5⟩
    rw [go, eq_282_123]
    simp (disch := first | assumption | omega | (simp (disch := omega) only [vM_u, vS_u]; first | assumption | omega)) only [hK, hL, hR, hI, hN, sI, hSp, hC, hW, li, lr, ↓cnd_a, ↓cnd_o, ↓cnd_n, ↓cnd_d, ↓z0, ↓z1, ↓z2, y0n, y1i, y2r, y0e, y1e, y2e, wl_0, wl_1, wl_2, wl_3, wl_4, wl_5, wl_6, wl_7, wl_8, wl_9, wl_10, wl_11, wl_12, wl_13, wl_14, wl_15, wl_16, wl_17, wl_18, wl_19, wl_20, wl_21, wl_22, wl_23, wl_24, wl_25, wl_26, wl_27, wl_28, wl_29, wl_30, wl_31, wl_32, wl_33, wl_34, wl_35, wl_36, wl_37, wl_38, wl_39, wl_40, wl_41, wl_42, wl_43, wl_44, wl_45, wl_46, wl_47, wl_48, wl_49, wl_50, wl_51, wl_52, wl_53, wl_54, wl_55, wl_56, wl_57, wl_58, wl_59, wl_60, wl_61, wl_62, wl_63, wl_64, wl_65, wl_66, wl_67, wl_68, wl_69, wl_70, wl_71, wl_72, wl_73, wl_74, wl_75, wl_76, wl_77, wl_78, wl_79, wl_80, wl_81, wl_82, wl_83, wl_84, wl_85, wl_86, wl_87, wl_88, wl_89, wl_90, wl_91, wl_92, wl_93, wl_94, wl_95, wl_96, wl_97, wl_98, wl_99, wl_100, wl_101, wl_102, wl_103, wl_104, wl_105, wl_106, wl_107, wl_108, wl_109, wl_110, wl_111, wl_112, wl_113, wl_114, wl_115, wl_116, wl_117, wl_118, wl_119, wl_120, wl_121, wl_122, wl_123, wl_124, wl_125, wl_126, wl_127, wl_128, wl_129, wl_130, wl_159, wl_160, wl_200, wl_232, wl_255, wl_256, wl_300, wl_359, wl_360, wl_400, wl_592, wl_992, wl_999, wl_1000, wl_1024, wl_3456, wl_6512, wl_7104, wl_10000, wl_11264, wl_12345, wl_32767, wl_1000000000, wl_1103515245, wl_2000000000, w_add, w_sub, w_mul, w_neg, w_lt, w_le, w_eq, w_cl, w_in, w_nat, w_max2, w_min2, w_abs2, iltT, iltF, ileT, ileF, ieqT, ieqF, bv_01, bft, bv_0, bv_1, bv_t, bv_f, cond_true, cond_false, Bool.not_true, Bool.not_false, if_true, if_false, true_or, or_true, true_and, and_true, ↓reduceIte, decide_true, decide_false, reduceCtorEq, u2_s, u2_o, u2_k, u2_u2, Bool.true_or, Bool.or_true, Bool.false_or, Bool.or_false, Bool.and_true, Bool.true_and, Bool.and_false, Bool.false_and, eq_self, not_true_eq_false, not_false_eq_true, and_self, and_true, true_and, false_and, and_false, w_dv, dvm, MSH_e hM, s278, r13']
    rw [← hI5]
    simp (disch := first | assumption | omega | (simp (disch := omega) only [vM_u, vS_u]; first | assumption | omega)) only [hK, hL, hR, hI, hN, sI, hSp, hC, hW, li, lr, ↓cnd_a, ↓cnd_o, ↓cnd_n, ↓cnd_d, ↓z0, ↓z1, ↓z2, y0n, y1i, y2r, y0e, y1e, y2e, wl_0, wl_1, wl_2, wl_3, wl_4, wl_5, wl_6, wl_7, wl_8, wl_9, wl_10, wl_11, wl_12, wl_13, wl_14, wl_15, wl_16, wl_17, wl_18, wl_19, wl_20, wl_21, wl_22, wl_23, wl_24, wl_25, wl_26, wl_27, wl_28, wl_29, wl_30, wl_31, wl_32, wl_33, wl_34, wl_35, wl_36, wl_37, wl_38, wl_39, wl_40, wl_41, wl_42, wl_43, wl_44, wl_45, wl_46, wl_47, wl_48, wl_49, wl_50, wl_51, wl_52, wl_53, wl_54, wl_55, wl_56, wl_57, wl_58, wl_59, wl_60, wl_61, wl_62, wl_63, wl_64, wl_65, wl_66, wl_67, wl_68, wl_69, wl_70, wl_71, wl_72, wl_73, wl_74, wl_75, wl_76, wl_77, wl_78, wl_79, wl_80, wl_81, wl_82, wl_83, wl_84, wl_85, wl_86, wl_87, wl_88, wl_89, wl_90, wl_91, wl_92, wl_93, wl_94, wl_95, wl_96, wl_97, wl_98, wl_99, wl_100, wl_101, wl_102, wl_103, wl_104, wl_105, wl_106, wl_107, wl_108, wl_109, wl_110, wl_111, wl_112, wl_113, wl_114, wl_115, wl_116, wl_117, wl_118, wl_119, wl_120, wl_121, wl_122, wl_123, wl_124, wl_125, wl_126, wl_127, wl_128, wl_129, wl_130, wl_159, wl_160, wl_200, wl_232, wl_255, wl_256, wl_300, wl_359, wl_360, wl_400, wl_592, wl_992, wl_999, wl_1000, wl_1024, wl_3456, wl_6512, wl_7104, wl_10000, wl_11264, wl_12345, wl_32767, wl_1000000000, wl_1103515245, wl_2000000000, w_add, w_sub, w_mul, w_neg, w_lt, w_le, w_eq, w_cl, w_in, w_nat, w_max2, w_min2, w_abs2, iltT, iltF, ileT, ileF, ieqT, ieqF, bv_01, bft, bv_0, bv_1, bv_t, bv_f, cond_true, cond_false, Bool.not_true, Bool.not_false, if_true, if_false, true_or, or_true, true_and, and_true, ↓reduceIte, decide_true, decide_false, reduceCtorEq, u2_s, u2_o, u2_k, u2_u2, Bool.true_or, Bool.or_true, Bool.false_or, Bool.or_false, Bool.and_true, Bool.true_and, Bool.and_false, Bool.false_and, eq_self, not_true_eq_false, not_false_eq_true, and_self, and_true, true_and, false_and, and_false, w_dv, dvm, MSH_e hM, r8]
  · obtain ⟨I6, y1, y2, y3, y4⟩ := sp_281 (d := d + 1) (st := st) (I := I5) (vn := vn) (vc := vc) (vw := vw) (J := J) hM (by rw [v5]; exact B5) (by rw [v5]; exact P5) (by rw [v5]; omega) (by rw [v5]; omega) hs
    rw [v5, l1, l2, M13, show m 13 + 1 - 1 = m 13 by omega] at y1
    rw [v5] at y2
    refine ⟨I6, .int (w (m 13)), ?_, y2, by rw [y3, t12], FC_tr F5 y4⟩
    rw [go, eq_282_123]
    simp (disch := first | assumption | omega | (simp (disch := omega) only [vM_u, vS_u]; first | assumption | omega)) only [hK, hL, hR, hI, hN, sI, hSp, hC, hW, li, lr, ↓cnd_a, ↓cnd_o, ↓cnd_n, ↓cnd_d, ↓z0, ↓z1, ↓z2, y0n, y1i, y2r, y0e, y1e, y2e, wl_0, wl_1, wl_2, wl_3, wl_4, wl_5, wl_6, wl_7, wl_8, wl_9, wl_10, wl_11, wl_12, wl_13, wl_14, wl_15, wl_16, wl_17, wl_18, wl_19, wl_20, wl_21, wl_22, wl_23, wl_24, wl_25, wl_26, wl_27, wl_28, wl_29, wl_30, wl_31, wl_32, wl_33, wl_34, wl_35, wl_36, wl_37, wl_38, wl_39, wl_40, wl_41, wl_42, wl_43, wl_44, wl_45, wl_46, wl_47, wl_48, wl_49, wl_50, wl_51, wl_52, wl_53, wl_54, wl_55, wl_56, wl_57, wl_58, wl_59, wl_60, wl_61, wl_62, wl_63, wl_64, wl_65, wl_66, wl_67, wl_68, wl_69, wl_70, wl_71, wl_72, wl_73, wl_74, wl_75, wl_76, wl_77, wl_78, wl_79, wl_80, wl_81, wl_82, wl_83, wl_84, wl_85, wl_86, wl_87, wl_88, wl_89, wl_90, wl_91, wl_92, wl_93, wl_94, wl_95, wl_96, wl_97, wl_98, wl_99, wl_100, wl_101, wl_102, wl_103, wl_104, wl_105, wl_106, wl_107, wl_108, wl_109, wl_110, wl_111, wl_112, wl_113, wl_114, wl_115, wl_116, wl_117, wl_118, wl_119, wl_120, wl_121, wl_122, wl_123, wl_124, wl_125, wl_126, wl_127, wl_128, wl_129, wl_130, wl_159, wl_160, wl_200, wl_232, wl_255, wl_256, wl_300, wl_359, wl_360, wl_400, wl_592, wl_992, wl_999, wl_1000, wl_1024, wl_3456, wl_6512, wl_7104, wl_10000, wl_11264, wl_12345, wl_32767, wl_1000000000, wl_1103515245, wl_2000000000, w_add, w_sub, w_mul, w_neg, w_lt, w_le, w_eq, w_cl, w_in, w_nat, w_max2, w_min2, w_abs2, iltT, iltF, ileT, ileF, ieqT, ieqF, bv_01, bft, bv_0, bv_1, bv_t, bv_f, cond_true, cond_false, Bool.not_true, Bool.not_false, if_true, if_false, true_or, or_true, true_and, and_true, ↓reduceIte, decide_true, decide_false, reduceCtorEq, u2_s, u2_o, u2_k, u2_u2, Bool.true_or, Bool.or_true, Bool.false_or, Bool.or_false, Bool.and_true, Bool.true_and, Bool.and_false, Bool.false_and, eq_self, not_true_eq_false, not_false_eq_true, and_self, and_true, true_and, false_and, and_false, w_dv, dvm, MSH_e hM, s278, r13']
    rw [← hI5]
    simp (disch := first | assumption | omega | (simp (disch := omega) only [vM_u, vS_u]; first | assumption | omega)) only [hK, hL, hR, hI, hN, sI, hSp, hC, hW, li, lr, ↓cnd_a, ↓cnd_o, ↓cnd_n, ↓cnd_d, ↓z0, ↓z1, ↓z2, y0n, y1i, y2r, y0e, y1e, y2e, wl_0, wl_1, wl_2, wl_3, wl_4, wl_5, wl_6, wl_7, wl_8, wl_9, wl_10, wl_11, wl_12, wl_13, wl_14, wl_15, wl_16, wl_17, wl_18, wl_19, wl_20, wl_21, wl_22, wl_23, wl_24, wl_25, wl_26, wl_27, wl_28, wl_29, wl_30, wl_31, wl_32, wl_33, wl_34, wl_35, wl_36, wl_37, wl_38, wl_39, wl_40, wl_41, wl_42, wl_43, wl_44, wl_45, wl_46, wl_47, wl_48, wl_49, wl_50, wl_51, wl_52, wl_53, wl_54, wl_55, wl_56, wl_57, wl_58, wl_59, wl_60, wl_61, wl_62, wl_63, wl_64, wl_65, wl_66, wl_67, wl_68, wl_69, wl_70, wl_71, wl_72, wl_73, wl_74, wl_75, wl_76, wl_77, wl_78, wl_79, wl_80, wl_81, wl_82, wl_83, wl_84, wl_85, wl_86, wl_87, wl_88, wl_89, wl_90, wl_91, wl_92, wl_93, wl_94, wl_95, wl_96, wl_97, wl_98, wl_99, wl_100, wl_101, wl_102, wl_103, wl_104, wl_105, wl_106, wl_107, wl_108, wl_109, wl_110, wl_111, wl_112, wl_113, wl_114, wl_115, wl_116, wl_117, wl_118, wl_119, wl_120, wl_121, wl_122, wl_123, wl_124, wl_125, wl_126, wl_127, wl_128, wl_129, wl_130, wl_159, wl_160, wl_200, wl_232, wl_255, wl_256, wl_300, wl_359, wl_360, wl_400, wl_592, wl_992, wl_999, wl_1000, wl_1024, wl_3456, wl_6512, wl_7104, wl_10000, wl_11264, wl_12345, wl_32767, wl_1000000000, wl_1103515245, wl_2000000000, w_add, w_sub, w_mul, w_neg, w_lt, w_le, w_eq, w_cl, w_in, w_nat, w_max2, w_min2, w_abs2, iltT, iltF, ileT, ileF, ieqT, ieqF, bv_01, bft, bv_0, bv_1, bv_t, bv_f, cond_true, cond_false, Bool.not_true, Bool.not_false, if_true, if_false, true_or, or_true, true_and, and_true, ↓reduceIte, decide_true, decide_false, reduceCtorEq, u2_s, u2_o, u2_k, u2_u2, Bool.true_or, Bool.or_true, Bool.false_or, Bool.or_false, Bool.and_true, Bool.true_and, Bool.and_false, Bool.false_and, eq_self, not_true_eq_false, not_false_eq_true, and_self, and_true, true_and, false_and, and_false, w_dv, dvm, MSH_e hM, r8, p22, p23, y1]
end THW
