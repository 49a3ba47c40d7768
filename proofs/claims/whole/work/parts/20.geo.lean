/-! THE REFERENCE: leaves and geometry -/
/-- where the reference's arrays lie -/
abbrev MSH (K L : Nat → Nat) (R : Nat → Nat → Nat) : Prop := K 287 = 12 ∧ (R 287 1 = 288 ∧ K 288 = 20 ∧ L 288 = 992) ∧ (R 287 2 = 289 ∧ K 289 = 20 ∧ L 289 = 992) ∧ (R 287 4 = 290 ∧ K 290 = 20 ∧ L 290 = 592) ∧ (R 287 5 = 291 ∧ K 291 = 20 ∧ L 291 = 7104) ∧ (R 287 7 = 292 ∧ K 292 = 20 ∧ L 292 = 400) ∧ (R 287 14 = 293 ∧ K 293 = 20 ∧ L 293 = 7) ∧ (R 287 16 = 294 ∧ K 294 = 20 ∧ L 294 = 6) ∧ (R 287 21 = 295 ∧ K 295 = 20 ∧ L 295 = 10) ∧ (R 287 24 = 296 ∧ K 296 = 20 ∧ L 296 = 10) ∧ (R 287 25 = 297 ∧ K 297 = 20 ∧ L 297 = 10) ∧ (R 287 26 = 298 ∧ K 298 = 20 ∧ L 298 = 10) ∧ (R 287 27 = 299 ∧ K 299 = 20 ∧ L 299 = 60) ∧ (R 287 28 = 300 ∧ K 300 = 20 ∧ L 300 = 6) ∧ (R 287 29 = 301 ∧ K 301 = 20 ∧ L 301 = 11264) ∧ (R 287 30 = 302 ∧ K 302 = 20 ∧ L 302 = 80) ∧ (R 287 31 = 303 ∧ K 303 = 22 ∧ L 303 = 160)
/-- the reference's cells -/
def mI (I : Nat → Nat → Int32) (z : Int) : Int := (I 288 (ix z)).toInt
theorem mI_w (I : Nat → Nat → Int32) (z : Int) : I 288 (ix z) = w (mI I z) := (w_of _).symm
theorem mI_r (I : Nat → Nat → Int32) (z : Int) : -2147483648 ≤ mI I z ∧ mI I z < 2147483648 := i_rng _
theorem mI_u {o : Nat} (h : o ≠ 288) (f : Nat → Nat → Int32) (k : Nat) (v : Int32) : mI (u2 f o k v) = mI f := by
  funext z
  unfold mI u2
  rw [if_neg (fun q => h q.1.symm)]
/-- what of it means something -/
def vM (I : Nat → Nat → Int32) (z : Int) : Int :=
  if z = 0 ∨ (3 ≤ z ∧ z ≤ 11) ∨ (13 ≤ z ∧ z ≤ 15) ∨ (20 ≤ z ∧ z < 20 + 5 * mI I 3) ∨ (70 ≤ z ∧ z < 70 + 3 * mI I 4) ∨ (94 ≤ z ∧ z < 94 + 3 * mI I 5) ∨ (112 ≤ z ∧ z < 112 + 4 * mI I 13) ∨ (232 ≤ z ∧ z < 232 + 6 * mI I 14) then mI I z else 0
theorem vM_s {I : Nat → Nat → Int32} {z : Int} (h : z = 0 ∨ (3 ≤ z ∧ z ≤ 11) ∨ (13 ≤ z ∧ z ≤ 15)) : vM I z = mI I z := if_pos (by omega)
theorem rV_s (I : Nat → Nat → Int32) {z : Int} (h : z = 0 ∨ (3 ≤ z ∧ z ≤ 11) ∨ (13 ≤ z ∧ z ≤ 15)) : I 288 (ix z) = w (vM I z) := by rw [vM_s h, mI_w I]
theorem vM_u {o : Nat} (h : o ≠ 288) (f : Nat → Nat → Int32) (k : Nat) (v : Int32) : vM (u2 f o k v) = vM f := by
  unfold vM
  rw [mI_u h]
def bl (m : Int → Int) (b j : Int) : Int := m (20 + 5 * b + j)
def ho (m : Int → Int) (h j : Int) : Int := m (70 + 3 * h + j)
def pe (m : Int → Int) (p j : Int) : Int := m (94 + 3 * p + j)
def ly (m : Int → Int) (k j : Int) : Int := m (112 + 4 * k + j)
def lg (m : Int → Int) (k j : Int) : Int := m (232 + 6 * k + j)
theorem bl_d (I : Nat → Nat → Int32) {b j : Int} (h : (0 ≤ b ∧ b < vM I 3) ∧ 0 ≤ j ∧ j < 5) : I 288 (ix (20 + 5 * b + j)) = w (bl (vM I) b j) := by
  rw [vM_s (by omega)] at h
  rw [mI_w I]
  unfold bl vM
  rw [if_pos (by omega)]
theorem ho_d (I : Nat → Nat → Int32) {b j : Int} (h : (0 ≤ b ∧ b < vM I 4) ∧ 0 ≤ j ∧ j < 3) : I 288 (ix (70 + 3 * b + j)) = w (ho (vM I) b j) := by
  rw [vM_s (by omega)] at h
  rw [mI_w I]
  unfold ho vM
  rw [if_pos (by omega)]
theorem pe_d (I : Nat → Nat → Int32) {b j : Int} (h : (0 ≤ b ∧ b < vM I 5) ∧ 0 ≤ j ∧ j < 3) : I 288 (ix (94 + 3 * b + j)) = w (pe (vM I) b j) := by
  rw [vM_s (by omega)] at h
  rw [mI_w I]
  unfold pe vM
  rw [if_pos (by omega)]
theorem ly_d (I : Nat → Nat → Int32) {b j : Int} (h : (0 ≤ b ∧ b < vM I 13) ∧ 0 ≤ j ∧ j < 4) : I 288 (ix (112 + 4 * b + j)) = w (ly (vM I) b j) := by
  rw [vM_s (by omega)] at h
  rw [mI_w I]
  unfold ly vM
  rw [if_pos (by omega)]
theorem lg_d (I : Nat → Nat → Int32) {b j : Int} (h : (0 ≤ b ∧ b < vM I 14) ∧ 0 ≤ j ∧ j < 6) : I 288 (ix (232 + 6 * b + j)) = w (lg (vM I) b j) := by
  rw [vM_s (by omega)] at h
  rw [mI_w I]
  unfold lg vM
  rw [if_pos (by omega)]
/-- what the stall holds is within its bounds -/
def BD (m : Int → Int) : Prop := (0 ≤ m 3 ∧ m 3 ≤ 10) ∧ (0 ≤ m 4 ∧ m 4 ≤ 8) ∧ (0 ≤ m 5 ∧ m 5 ≤ 6) ∧ (0 ≤ m 6 ∧ m 6 ≤ 99) ∧ (0 ≤ m 7 ∧ m 7 ≤ 3) ∧ (0 ≤ m 8 ∧ m 8 ≤ 9) ∧ (0 ≤ m 9 ∧ m 9 ≤ 1) ∧ (0 ≤ m 13 ∧ m 13 ≤ 30) ∧ (0 ≤ m 14 ∧ m 14 ≤ 60) ∧
  (∀ b, 0 ≤ b → b < m 3 → (0 ≤ bl m b 0 ∧ bl m b 0 ≤ 59) ∧ (0 ≤ bl m b 1 ∧ bl m b 1 ≤ 39) ∧ (1 ≤ bl m b 2 ∧ bl m b 2 ≤ 9) ∧ (0 ≤ bl m b 3 ∧ bl m b 3 ≤ 999) ∧ (0 ≤ bl m b 4 ∧ bl m b 4 ≤ 1)) ∧
  (∀ h, 0 ≤ h → h < m 4 → (2 ≤ ho m h 0 ∧ ho m h 0 ≤ 15) ∧ (0 ≤ ho m h 1 ∧ ho m h 1 ≤ 9 ∧ ho m h 1 < ho m h 0) ∧ (0 ≤ ho m h 2 ∧ ho m h 2 ≤ 1)) ∧
  (∀ p, 0 ≤ p → p < m 5 → 0 ≤ pe m p 0 ∧ pe m p 0 ≤ 99)
section GEO
variable {vn vc vw : Nat} {K L : Nat → Nat} {R : Nat → Nat → Nat} {I : Nat → Nat → Int32} {J : Nat → Nat → Int64}
theorem sp_216 {d : Nat} {σ : HS} {v lo hi : Int} (h : (-2147483648 ≤ v ∧ v < 2147483648) ∧ (-2147483648 ≤ lo ∧ lo < 2147483648) ∧ -2147483648 ≤ hi ∧ hi < 2147483648) : ev PR (d + 1) 216 [.int (w v), .int (w lo), .int (w hi)] σ = some (.inl (some (.int (bv (decide (lo ≤ v ∧ v ≤ hi))))), σ) := by
  rw [eq_216]
  simp (disch := first | assumption | omega | (simp (disch := omega) only [vM_u]; assumption)) only [hK, hL, hR, hI, hN, sI, li, lr, ↓cnd_a, ↓cnd_o, ↓cnd_n, ↓cnd_d, ↓z0, ↓z1, ↓z2, y0n, y1i, y2r, y0e, y1e, y2e, wl_0, wl_1, wl_2, wl_3, wl_4, wl_5, wl_6, wl_7, wl_8, wl_9, wl_10, wl_11, wl_12, wl_13, wl_14, wl_15, wl_16, wl_17, wl_18, wl_19, wl_20, wl_21, wl_22, wl_23, wl_24, wl_25, wl_26, wl_27, wl_28, wl_29, wl_30, wl_31, wl_32, wl_33, wl_34, wl_35, wl_36, wl_37, wl_38, wl_39, wl_40, wl_41, wl_42, wl_43, wl_44, wl_45, wl_46, wl_47, wl_48, wl_49, wl_50, wl_51, wl_52, wl_53, wl_54, wl_55, wl_56, wl_57, wl_58, wl_59, wl_60, wl_61, wl_62, wl_63, wl_64, wl_65, wl_66, wl_67, wl_68, wl_69, wl_70, wl_71, wl_72, wl_73, wl_74, wl_75, wl_76, wl_77, wl_78, wl_79, wl_80, wl_81, wl_82, wl_83, wl_84, wl_85, wl_86, wl_87, wl_88, wl_89, wl_90, wl_91, wl_92, wl_93, wl_94, wl_95, wl_96, wl_97, wl_98, wl_99, wl_100, wl_101, wl_102, wl_103, wl_104, wl_105, wl_106, wl_107, wl_108, wl_109, wl_110, wl_111, wl_112, wl_113, wl_114, wl_115, wl_116, wl_117, wl_118, wl_119, wl_120, wl_121, wl_122, wl_123, wl_124, wl_125, wl_126, wl_127, wl_128, wl_129, wl_130, wl_159, wl_160, wl_200, wl_232, wl_255, wl_256, wl_300, wl_359, wl_360, wl_400, wl_592, wl_992, wl_999, wl_1000, wl_1024, wl_3456, wl_6512, wl_7104, wl_10000, wl_11264, wl_12345, wl_32767, wl_1000000000, wl_1103515245, wl_2000000000, w_add, w_sub, w_mul, w_neg, w_lt, w_le, w_eq, w_cl, w_in, w_nat, w_max2, w_min2, w_abs2, iltT, iltF, ileT, ileF, ieqT, ieqF, bv_01, bft, bv_0, bv_1, bv_t, bv_f, cond_true, cond_false, if_true, if_false, true_or, or_true, true_and, and_true, ↓reduceIte, decide_true, decide_false, reduceCtorEq, u2_s, u2_o, u2_k, u2_u2]
  by_cases h1 : v < lo
  · rw [if_pos h1, decide_eq_false (by omega)]; rfl
  · rw [if_neg h1]
    by_cases h2 : hi < v
    · rw [if_pos h2, decide_eq_false (by omega)]; rfl
    · rw [if_neg h2, decide_eq_true (by omega)]; rfl
theorem sp_217 {d : Nat} {σ : HS} {a b : Int} (h : (-2147483648 ≤ a ∧ a < 2147483648) ∧ -2147483648 ≤ b ∧ b < 2147483648) : ev PR (d + 1) 217 [.int (w a), .int (w b)] σ = some (.inl (some (.int (w (min a b)))), σ) := by
  rw [eq_217]
  simp (disch := first | assumption | omega | (simp (disch := omega) only [vM_u]; assumption)) only [hK, hL, hR, hI, hN, sI, li, lr, ↓cnd_a, ↓cnd_o, ↓cnd_n, ↓cnd_d, ↓z0, ↓z1, ↓z2, y0n, y1i, y2r, y0e, y1e, y2e, wl_0, wl_1, wl_2, wl_3, wl_4, wl_5, wl_6, wl_7, wl_8, wl_9, wl_10, wl_11, wl_12, wl_13, wl_14, wl_15, wl_16, wl_17, wl_18, wl_19, wl_20, wl_21, wl_22, wl_23, wl_24, wl_25, wl_26, wl_27, wl_28, wl_29, wl_30, wl_31, wl_32, wl_33, wl_34, wl_35, wl_36, wl_37, wl_38, wl_39, wl_40, wl_41, wl_42, wl_43, wl_44, wl_45, wl_46, wl_47, wl_48, wl_49, wl_50, wl_51, wl_52, wl_53, wl_54, wl_55, wl_56, wl_57, wl_58, wl_59, wl_60, wl_61, wl_62, wl_63, wl_64, wl_65, wl_66, wl_67, wl_68, wl_69, wl_70, wl_71, wl_72, wl_73, wl_74, wl_75, wl_76, wl_77, wl_78, wl_79, wl_80, wl_81, wl_82, wl_83, wl_84, wl_85, wl_86, wl_87, wl_88, wl_89, wl_90, wl_91, wl_92, wl_93, wl_94, wl_95, wl_96, wl_97, wl_98, wl_99, wl_100, wl_101, wl_102, wl_103, wl_104, wl_105, wl_106, wl_107, wl_108, wl_109, wl_110, wl_111, wl_112, wl_113, wl_114, wl_115, wl_116, wl_117, wl_118, wl_119, wl_120, wl_121, wl_122, wl_123, wl_124, wl_125, wl_126, wl_127, wl_128, wl_129, wl_130, wl_159, wl_160, wl_200, wl_232, wl_255, wl_256, wl_300, wl_359, wl_360, wl_400, wl_592, wl_992, wl_999, wl_1000, wl_1024, wl_3456, wl_6512, wl_7104, wl_10000, wl_11264, wl_12345, wl_32767, wl_1000000000, wl_1103515245, wl_2000000000, w_add, w_sub, w_mul, w_neg, w_lt, w_le, w_eq, w_cl, w_in, w_nat, w_max2, w_min2, w_abs2, iltT, iltF, ileT, ileF, ieqT, ieqF, bv_01, bft, bv_0, bv_1, bv_t, bv_f, cond_true, cond_false, if_true, if_false, true_or, or_true, true_and, and_true, ↓reduceIte, decide_true, decide_false, reduceCtorEq, u2_s, u2_o, u2_k, u2_u2]
  split
  · rw [Int.min_eq_right (by omega)]
  · rw [Int.min_eq_left (by omega)]
theorem sp_218 {d : Nat} {σ : HS} {a b : Int} (h : (-2147483648 ≤ a ∧ a < 2147483648) ∧ -2147483648 ≤ b ∧ b < 2147483648) : ev PR (d + 1) 218 [.int (w a), .int (w b)] σ = some (.inl (some (.int (w (max a b)))), σ) := by
  rw [eq_218]
  simp (disch := first | assumption | omega | (simp (disch := omega) only [vM_u]; assumption)) only [hK, hL, hR, hI, hN, sI, li, lr, ↓cnd_a, ↓cnd_o, ↓cnd_n, ↓cnd_d, ↓z0, ↓z1, ↓z2, y0n, y1i, y2r, y0e, y1e, y2e, wl_0, wl_1, wl_2, wl_3, wl_4, wl_5, wl_6, wl_7, wl_8, wl_9, wl_10, wl_11, wl_12, wl_13, wl_14, wl_15, wl_16, wl_17, wl_18, wl_19, wl_20, wl_21, wl_22, wl_23, wl_24, wl_25, wl_26, wl_27, wl_28, wl_29, wl_30, wl_31, wl_32, wl_33, wl_34, wl_35, wl_36, wl_37, wl_38, wl_39, wl_40, wl_41, wl_42, wl_43, wl_44, wl_45, wl_46, wl_47, wl_48, wl_49, wl_50, wl_51, wl_52, wl_53, wl_54, wl_55, wl_56, wl_57, wl_58, wl_59, wl_60, wl_61, wl_62, wl_63, wl_64, wl_65, wl_66, wl_67, wl_68, wl_69, wl_70, wl_71, wl_72, wl_73, wl_74, wl_75, wl_76, wl_77, wl_78, wl_79, wl_80, wl_81, wl_82, wl_83, wl_84, wl_85, wl_86, wl_87, wl_88, wl_89, wl_90, wl_91, wl_92, wl_93, wl_94, wl_95, wl_96, wl_97, wl_98, wl_99, wl_100, wl_101, wl_102, wl_103, wl_104, wl_105, wl_106, wl_107, wl_108, wl_109, wl_110, wl_111, wl_112, wl_113, wl_114, wl_115, wl_116, wl_117, wl_118, wl_119, wl_120, wl_121, wl_122, wl_123, wl_124, wl_125, wl_126, wl_127, wl_128, wl_129, wl_130, wl_159, wl_160, wl_200, wl_232, wl_255, wl_256, wl_300, wl_359, wl_360, wl_400, wl_592, wl_992, wl_999, wl_1000, wl_1024, wl_3456, wl_6512, wl_7104, wl_10000, wl_11264, wl_12345, wl_32767, wl_1000000000, wl_1103515245, wl_2000000000, w_add, w_sub, w_mul, w_neg, w_lt, w_le, w_eq, w_cl, w_in, w_nat, w_max2, w_min2, w_abs2, iltT, iltF, ileT, ileF, ieqT, ieqF, bv_01, bft, bv_0, bv_1, bv_t, bv_f, cond_true, cond_false, if_true, if_false, true_or, or_true, true_and, and_true, ↓reduceIte, decide_true, decide_false, reduceCtorEq, u2_s, u2_o, u2_k, u2_u2]
  split
  · rw [Int.max_eq_right (by omega)]
  · rw [Int.max_eq_left (by omega)]
theorem sp_219 {d : Nat} {σ : HS} {a : Int} (h : -2147483648 < a ∧ a < 2147483648) : ev PR (d + 1) 219 [.int (w a)] σ = some (.inl (some (.int (w (a.natAbs : Int)))), σ) := by
  rw [eq_219]
  simp (disch := first | assumption | omega | (simp (disch := omega) only [vM_u]; assumption)) only [hK, hL, hR, hI, hN, sI, li, lr, ↓cnd_a, ↓cnd_o, ↓cnd_n, ↓cnd_d, ↓z0, ↓z1, ↓z2, y0n, y1i, y2r, y0e, y1e, y2e, wl_0, wl_1, wl_2, wl_3, wl_4, wl_5, wl_6, wl_7, wl_8, wl_9, wl_10, wl_11, wl_12, wl_13, wl_14, wl_15, wl_16, wl_17, wl_18, wl_19, wl_20, wl_21, wl_22, wl_23, wl_24, wl_25, wl_26, wl_27, wl_28, wl_29, wl_30, wl_31, wl_32, wl_33, wl_34, wl_35, wl_36, wl_37, wl_38, wl_39, wl_40, wl_41, wl_42, wl_43, wl_44, wl_45, wl_46, wl_47, wl_48, wl_49, wl_50, wl_51, wl_52, wl_53, wl_54, wl_55, wl_56, wl_57, wl_58, wl_59, wl_60, wl_61, wl_62, wl_63, wl_64, wl_65, wl_66, wl_67, wl_68, wl_69, wl_70, wl_71, wl_72, wl_73, wl_74, wl_75, wl_76, wl_77, wl_78, wl_79, wl_80, wl_81, wl_82, wl_83, wl_84, wl_85, wl_86, wl_87, wl_88, wl_89, wl_90, wl_91, wl_92, wl_93, wl_94, wl_95, wl_96, wl_97, wl_98, wl_99, wl_100, wl_101, wl_102, wl_103, wl_104, wl_105, wl_106, wl_107, wl_108, wl_109, wl_110, wl_111, wl_112, wl_113, wl_114, wl_115, wl_116, wl_117, wl_118, wl_119, wl_120, wl_121, wl_122, wl_123, wl_124, wl_125, wl_126, wl_127, wl_128, wl_129, wl_130, wl_159, wl_160, wl_200, wl_232, wl_255, wl_256, wl_300, wl_359, wl_360, wl_400, wl_592, wl_992, wl_999, wl_1000, wl_1024, wl_3456, wl_6512, wl_7104, wl_10000, wl_11264, wl_12345, wl_32767, wl_1000000000, wl_1103515245, wl_2000000000, w_add, w_sub, w_mul, w_neg, w_lt, w_le, w_eq, w_cl, w_in, w_nat, w_max2, w_min2, w_abs2, iltT, iltF, ileT, ileF, ieqT, ieqF, bv_01, bft, bv_0, bv_1, bv_t, bv_f, cond_true, cond_false, if_true, if_false, true_or, or_true, true_and, and_true, ↓reduceIte, decide_true, decide_false, reduceCtorEq, u2_s, u2_o, u2_k, u2_u2]
  split
  · rw [Int.natAbs_of_nonneg (by omega)]
  · rw [show (a.natAbs : Int) = -a by omega]
theorem sp_221 {d : Nat} {b j : Int} (hM : MSH K L R) (h : (0 ≤ b ∧ b < vM I 3 ∧ vM I 3 ≤ 10) ∧ 0 ≤ j ∧ j < 5) : ev PR (d + 1) 221 [.ref 287, .int (w b), .int (w j)] (((vn, vc, vw, K, L, R), I, J) : HS) = some (.inl (some (.int (w (bl (vM I) b j)))), (((vn, vc, vw, K, L, R), I, J) : HS)) := by
  rw [eq_221]
  simp (disch := first | assumption | omega | (simp (disch := omega) only [vM_u]; assumption)) only [hK, hL, hR, hI, hN, sI, li, lr, ↓cnd_a, ↓cnd_o, ↓cnd_n, ↓cnd_d, ↓z0, ↓z1, ↓z2, y0n, y1i, y2r, y0e, y1e, y2e, wl_0, wl_1, wl_2, wl_3, wl_4, wl_5, wl_6, wl_7, wl_8, wl_9, wl_10, wl_11, wl_12, wl_13, wl_14, wl_15, wl_16, wl_17, wl_18, wl_19, wl_20, wl_21, wl_22, wl_23, wl_24, wl_25, wl_26, wl_27, wl_28, wl_29, wl_30, wl_31, wl_32, wl_33, wl_34, wl_35, wl_36, wl_37, wl_38, wl_39, wl_40, wl_41, wl_42, wl_43, wl_44, wl_45, wl_46, wl_47, wl_48, wl_49, wl_50, wl_51, wl_52, wl_53, wl_54, wl_55, wl_56, wl_57, wl_58, wl_59, wl_60, wl_61, wl_62, wl_63, wl_64, wl_65, wl_66, wl_67, wl_68, wl_69, wl_70, wl_71, wl_72, wl_73, wl_74, wl_75, wl_76, wl_77, wl_78, wl_79, wl_80, wl_81, wl_82, wl_83, wl_84, wl_85, wl_86, wl_87, wl_88, wl_89, wl_90, wl_91, wl_92, wl_93, wl_94, wl_95, wl_96, wl_97, wl_98, wl_99, wl_100, wl_101, wl_102, wl_103, wl_104, wl_105, wl_106, wl_107, wl_108, wl_109, wl_110, wl_111, wl_112, wl_113, wl_114, wl_115, wl_116, wl_117, wl_118, wl_119, wl_120, wl_121, wl_122, wl_123, wl_124, wl_125, wl_126, wl_127, wl_128, wl_129, wl_130, wl_159, wl_160, wl_200, wl_232, wl_255, wl_256, wl_300, wl_359, wl_360, wl_400, wl_592, wl_992, wl_999, wl_1000, wl_1024, wl_3456, wl_6512, wl_7104, wl_10000, wl_11264, wl_12345, wl_32767, wl_1000000000, wl_1103515245, wl_2000000000, w_add, w_sub, w_mul, w_neg, w_lt, w_le, w_eq, w_cl, w_in, w_nat, w_max2, w_min2, w_abs2, iltT, iltF, ileT, ileF, ieqT, ieqF, bv_01, bft, bv_0, bv_1, bv_t, bv_f, cond_true, cond_false, if_true, if_false, true_or, or_true, true_and, and_true, ↓reduceIte, decide_true, decide_false, reduceCtorEq, u2_s, u2_o, u2_k, u2_u2, hM, bl_d I]
theorem sp_222 {d : Nat} {b j : Int} (hM : MSH K L R) (h : (0 ≤ b ∧ b < vM I 4 ∧ vM I 4 ≤ 8) ∧ 0 ≤ j ∧ j < 3) : ev PR (d + 1) 222 [.ref 287, .int (w b), .int (w j)] (((vn, vc, vw, K, L, R), I, J) : HS) = some (.inl (some (.int (w (ho (vM I) b j)))), (((vn, vc, vw, K, L, R), I, J) : HS)) := by
  rw [eq_222]
  simp (disch := first | assumption | omega | (simp (disch := omega) only [vM_u]; assumption)) only [hK, hL, hR, hI, hN, sI, li, lr, ↓cnd_a, ↓cnd_o, ↓cnd_n, ↓cnd_d, ↓z0, ↓z1, ↓z2, y0n, y1i, y2r, y0e, y1e, y2e, wl_0, wl_1, wl_2, wl_3, wl_4, wl_5, wl_6, wl_7, wl_8, wl_9, wl_10, wl_11, wl_12, wl_13, wl_14, wl_15, wl_16, wl_17, wl_18, wl_19, wl_20, wl_21, wl_22, wl_23, wl_24, wl_25, wl_26, wl_27, wl_28, wl_29, wl_30, wl_31, wl_32, wl_33, wl_34, wl_35, wl_36, wl_37, wl_38, wl_39, wl_40, wl_41, wl_42, wl_43, wl_44, wl_45, wl_46, wl_47, wl_48, wl_49, wl_50, wl_51, wl_52, wl_53, wl_54, wl_55, wl_56, wl_57, wl_58, wl_59, wl_60, wl_61, wl_62, wl_63, wl_64, wl_65, wl_66, wl_67, wl_68, wl_69, wl_70, wl_71, wl_72, wl_73, wl_74, wl_75, wl_76, wl_77, wl_78, wl_79, wl_80, wl_81, wl_82, wl_83, wl_84, wl_85, wl_86, wl_87, wl_88, wl_89, wl_90, wl_91, wl_92, wl_93, wl_94, wl_95, wl_96, wl_97, wl_98, wl_99, wl_100, wl_101, wl_102, wl_103, wl_104, wl_105, wl_106, wl_107, wl_108, wl_109, wl_110, wl_111, wl_112, wl_113, wl_114, wl_115, wl_116, wl_117, wl_118, wl_119, wl_120, wl_121, wl_122, wl_123, wl_124, wl_125, wl_126, wl_127, wl_128, wl_129, wl_130, wl_159, wl_160, wl_200, wl_232, wl_255, wl_256, wl_300, wl_359, wl_360, wl_400, wl_592, wl_992, wl_999, wl_1000, wl_1024, wl_3456, wl_6512, wl_7104, wl_10000, wl_11264, wl_12345, wl_32767, wl_1000000000, wl_1103515245, wl_2000000000, w_add, w_sub, w_mul, w_neg, w_lt, w_le, w_eq, w_cl, w_in, w_nat, w_max2, w_min2, w_abs2, iltT, iltF, ileT, ileF, ieqT, ieqF, bv_01, bft, bv_0, bv_1, bv_t, bv_f, cond_true, cond_false, if_true, if_false, true_or, or_true, true_and, and_true, ↓reduceIte, decide_true, decide_false, reduceCtorEq, u2_s, u2_o, u2_k, u2_u2, hM, ho_d I]
theorem sp_223 {d : Nat} {b j : Int} (hM : MSH K L R) (h : (0 ≤ b ∧ b < vM I 5 ∧ vM I 5 ≤ 6) ∧ 0 ≤ j ∧ j < 3) : ev PR (d + 1) 223 [.ref 287, .int (w b), .int (w j)] (((vn, vc, vw, K, L, R), I, J) : HS) = some (.inl (some (.int (w (pe (vM I) b j)))), (((vn, vc, vw, K, L, R), I, J) : HS)) := by
  rw [eq_223]
  simp (disch := first | assumption | omega | (simp (disch := omega) only [vM_u]; assumption)) only [hK, hL, hR, hI, hN, sI, li, lr, ↓cnd_a, ↓cnd_o, ↓cnd_n, ↓cnd_d, ↓z0, ↓z1, ↓z2, y0n, y1i, y2r, y0e, y1e, y2e, wl_0, wl_1, wl_2, wl_3, wl_4, wl_5, wl_6, wl_7, wl_8, wl_9, wl_10, wl_11, wl_12, wl_13, wl_14, wl_15, wl_16, wl_17, wl_18, wl_19, wl_20, wl_21, wl_22, wl_23, wl_24, wl_25, wl_26, wl_27, wl_28, wl_29, wl_30, wl_31, wl_32, wl_33, wl_34, wl_35, wl_36, wl_37, wl_38, wl_39, wl_40, wl_41, wl_42, wl_43, wl_44, wl_45, wl_46, wl_47, wl_48, wl_49, wl_50, wl_51, wl_52, wl_53, wl_54, wl_55, wl_56, wl_57, wl_58, wl_59, wl_60, wl_61, wl_62, wl_63, wl_64, wl_65, wl_66, wl_67, wl_68, wl_69, wl_70, wl_71, wl_72, wl_73, wl_74, wl_75, wl_76, wl_77, wl_78, wl_79, wl_80, wl_81, wl_82, wl_83, wl_84, wl_85, wl_86, wl_87, wl_88, wl_89, wl_90, wl_91, wl_92, wl_93, wl_94, wl_95, wl_96, wl_97, wl_98, wl_99, wl_100, wl_101, wl_102, wl_103, wl_104, wl_105, wl_106, wl_107, wl_108, wl_109, wl_110, wl_111, wl_112, wl_113, wl_114, wl_115, wl_116, wl_117, wl_118, wl_119, wl_120, wl_121, wl_122, wl_123, wl_124, wl_125, wl_126, wl_127, wl_128, wl_129, wl_130, wl_159, wl_160, wl_200, wl_232, wl_255, wl_256, wl_300, wl_359, wl_360, wl_400, wl_592, wl_992, wl_999, wl_1000, wl_1024, wl_3456, wl_6512, wl_7104, wl_10000, wl_11264, wl_12345, wl_32767, wl_1000000000, wl_1103515245, wl_2000000000, w_add, w_sub, w_mul, w_neg, w_lt, w_le, w_eq, w_cl, w_in, w_nat, w_max2, w_min2, w_abs2, iltT, iltF, ileT, ileF, ieqT, ieqF, bv_01, bft, bv_0, bv_1, bv_t, bv_f, cond_true, cond_false, if_true, if_false, true_or, or_true, true_and, and_true, ↓reduceIte, decide_true, decide_false, reduceCtorEq, u2_s, u2_o, u2_k, u2_u2, hM, pe_d I]
theorem sp_224 {d : Nat} {b j : Int} (hM : MSH K L R) (h : (0 ≤ b ∧ b < vM I 13 ∧ vM I 13 ≤ 30) ∧ 0 ≤ j ∧ j < 4) : ev PR (d + 1) 224 [.ref 287, .int (w b), .int (w j)] (((vn, vc, vw, K, L, R), I, J) : HS) = some (.inl (some (.int (w (ly (vM I) b j)))), (((vn, vc, vw, K, L, R), I, J) : HS)) := by
  rw [eq_224]
  simp (disch := first | assumption | omega | (simp (disch := omega) only [vM_u]; assumption)) only [hK, hL, hR, hI, hN, sI, li, lr, ↓cnd_a, ↓cnd_o, ↓cnd_n, ↓cnd_d, ↓z0, ↓z1, ↓z2, y0n, y1i, y2r, y0e, y1e, y2e, wl_0, wl_1, wl_2, wl_3, wl_4, wl_5, wl_6, wl_7, wl_8, wl_9, wl_10, wl_11, wl_12, wl_13, wl_14, wl_15, wl_16, wl_17, wl_18, wl_19, wl_20, wl_21, wl_22, wl_23, wl_24, wl_25, wl_26, wl_27, wl_28, wl_29, wl_30, wl_31, wl_32, wl_33, wl_34, wl_35, wl_36, wl_37, wl_38, wl_39, wl_40, wl_41, wl_42, wl_43, wl_44, wl_45, wl_46, wl_47, wl_48, wl_49, wl_50, wl_51, wl_52, wl_53, wl_54, wl_55, wl_56, wl_57, wl_58, wl_59, wl_60, wl_61, wl_62, wl_63, wl_64, wl_65, wl_66, wl_67, wl_68, wl_69, wl_70, wl_71, wl_72, wl_73, wl_74, wl_75, wl_76, wl_77, wl_78, wl_79, wl_80, wl_81, wl_82, wl_83, wl_84, wl_85, wl_86, wl_87, wl_88, wl_89, wl_90, wl_91, wl_92, wl_93, wl_94, wl_95, wl_96, wl_97, wl_98, wl_99, wl_100, wl_101, wl_102, wl_103, wl_104, wl_105, wl_106, wl_107, wl_108, wl_109, wl_110, wl_111, wl_112, wl_113, wl_114, wl_115, wl_116, wl_117, wl_118, wl_119, wl_120, wl_121, wl_122, wl_123, wl_124, wl_125, wl_126, wl_127, wl_128, wl_129, wl_130, wl_159, wl_160, wl_200, wl_232, wl_255, wl_256, wl_300, wl_359, wl_360, wl_400, wl_592, wl_992, wl_999, wl_1000, wl_1024, wl_3456, wl_6512, wl_7104, wl_10000, wl_11264, wl_12345, wl_32767, wl_1000000000, wl_1103515245, wl_2000000000, w_add, w_sub, w_mul, w_neg, w_lt, w_le, w_eq, w_cl, w_in, w_nat, w_max2, w_min2, w_abs2, iltT, iltF, ileT, ileF, ieqT, ieqF, bv_01, bft, bv_0, bv_1, bv_t, bv_f, cond_true, cond_false, if_true, if_false, true_or, or_true, true_and, and_true, ↓reduceIte, decide_true, decide_false, reduceCtorEq, u2_s, u2_o, u2_k, u2_u2, hM, ly_d I]
/-- a hoop of a along X, b along Y over a block of a side -/
def gOver (a b s dx dy : Int) : Bool := decide ((2 * dx.natAbs + s) * (2 * dx.natAbs + s) * (b * b) + (2 * dy.natAbs + s) * (2 * dy.natAbs + s) * (a * a) ≤ a * a * (b * b))
def alX (m : Int → Int) (h b : Int) : Int := max 1 (ho m h 0 - ho m h 1 - b)
def alY (m : Int → Int) (h b : Int) : Int := max 1 (ho m h 0 - b)
def gTch (a b s dx dy : Int) : Bool := decide (2 * (dx.natAbs : Int) < a + s) && decide (2 * (dy.natAbs : Int) < b + s)
def fnd (p : Int → Bool) (k : Int) : Nat → Int
  | 0 => -1
  | n + 1 => cond (p k) k (fnd p (k + 1) n)
def exs (p : Int → Bool) (k : Int) : Nat → Bool
  | 0 => false
  | n + 1 => cond (p k) true (exs p (k + 1) n)
def tcW (m : Int → Int) (a b x y : Int) (k : Int) : Bool := gTch a b (bl m k 2) (x - bl m k 0) (y - bl m k 1)
def tsW (m : Int → Int) (a b x y : Int) (bare : Bool) (k : Int) : Bool := tcW m a b x y k && (!bare || decide (bl m k 4 = 0))
def ovW (m : Int → Int) (a b x y : Int) (k : Int) : Bool := gOver a b (bl m k 2) (x - bl m k 0) (y - bl m k 1)
def ovF (m : Int → Int) (h x y b : Int) : Int := fnd (ovW m (alX m h b) (alY m h b) x y) 0 (m 3).toNat
def tsF (m : Int → Int) (h x y b : Int) (e : Bool) : Bool := exs (tsW m (alX m h b) (alY m h b) x y e) 0 (m 3).toNat
theorem sp_259 {d : Nat} {h b : Int} (hM : MSH K L R) (hB : BD (vM I)) (hh : 0 ≤ h ∧ h < vM I 4) (hb : -1000 ≤ b ∧ b ≤ 1000) : ev PR (d + 2) 259 [.ref 287, .int (w h), .int (w b)] (((vn, vc, vw, K, L, R), I, J) : HS) = some (.inl (some (.int (w (alX (vM I) h b)))), (((vn, vc, vw, K, L, R), I, J) : HS)) := by
  have h4 := hB.2.1
  have hq := hB.2.2.2.2.2.2.2.2.2.2.1 h hh.1 hh.2
  rw [eq_259]
  simp (disch := first | assumption | omega | (simp (disch := omega) only [vM_u]; assumption)) only [hK, hL, hR, hI, hN, sI, li, lr, ↓cnd_a, ↓cnd_o, ↓cnd_n, ↓cnd_d, ↓z0, ↓z1, ↓z2, y0n, y1i, y2r, y0e, y1e, y2e, wl_0, wl_1, wl_2, wl_3, wl_4, wl_5, wl_6, wl_7, wl_8, wl_9, wl_10, wl_11, wl_12, wl_13, wl_14, wl_15, wl_16, wl_17, wl_18, wl_19, wl_20, wl_21, wl_22, wl_23, wl_24, wl_25, wl_26, wl_27, wl_28, wl_29, wl_30, wl_31, wl_32, wl_33, wl_34, wl_35, wl_36, wl_37, wl_38, wl_39, wl_40, wl_41, wl_42, wl_43, wl_44, wl_45, wl_46, wl_47, wl_48, wl_49, wl_50, wl_51, wl_52, wl_53, wl_54, wl_55, wl_56, wl_57, wl_58, wl_59, wl_60, wl_61, wl_62, wl_63, wl_64, wl_65, wl_66, wl_67, wl_68, wl_69, wl_70, wl_71, wl_72, wl_73, wl_74, wl_75, wl_76, wl_77, wl_78, wl_79, wl_80, wl_81, wl_82, wl_83, wl_84, wl_85, wl_86, wl_87, wl_88, wl_89, wl_90, wl_91, wl_92, wl_93, wl_94, wl_95, wl_96, wl_97, wl_98, wl_99, wl_100, wl_101, wl_102, wl_103, wl_104, wl_105, wl_106, wl_107, wl_108, wl_109, wl_110, wl_111, wl_112, wl_113, wl_114, wl_115, wl_116, wl_117, wl_118, wl_119, wl_120, wl_121, wl_122, wl_123, wl_124, wl_125, wl_126, wl_127, wl_128, wl_129, wl_130, wl_159, wl_160, wl_200, wl_232, wl_255, wl_256, wl_300, wl_359, wl_360, wl_400, wl_592, wl_992, wl_999, wl_1000, wl_1024, wl_3456, wl_6512, wl_7104, wl_10000, wl_11264, wl_12345, wl_32767, wl_1000000000, wl_1103515245, wl_2000000000, w_add, w_sub, w_mul, w_neg, w_lt, w_le, w_eq, w_cl, w_in, w_nat, w_max2, w_min2, w_abs2, iltT, iltF, ileT, ileF, ieqT, ieqF, bv_01, bft, bv_0, bv_1, bv_t, bv_f, cond_true, cond_false, if_true, if_false, true_or, or_true, true_and, and_true, ↓reduceIte, decide_true, decide_false, reduceCtorEq, u2_s, u2_o, u2_k, u2_u2, hM, sp_222, sp_218]
  rfl
theorem sp_260 {d : Nat} {h b : Int} (hM : MSH K L R) (hB : BD (vM I)) (hh : 0 ≤ h ∧ h < vM I 4) (hb : -1000 ≤ b ∧ b ≤ 1000) : ev PR (d + 2) 260 [.ref 287, .int (w h), .int (w b)] (((vn, vc, vw, K, L, R), I, J) : HS) = some (.inl (some (.int (w (alY (vM I) h b)))), (((vn, vc, vw, K, L, R), I, J) : HS)) := by
  have h4 := hB.2.1
  have hq := hB.2.2.2.2.2.2.2.2.2.2.1 h hh.1 hh.2
  rw [eq_260]
  simp (disch := first | assumption | omega | (simp (disch := omega) only [vM_u]; assumption)) only [hK, hL, hR, hI, hN, sI, li, lr, ↓cnd_a, ↓cnd_o, ↓cnd_n, ↓cnd_d, ↓z0, ↓z1, ↓z2, y0n, y1i, y2r, y0e, y1e, y2e, wl_0, wl_1, wl_2, wl_3, wl_4, wl_5, wl_6, wl_7, wl_8, wl_9, wl_10, wl_11, wl_12, wl_13, wl_14, wl_15, wl_16, wl_17, wl_18, wl_19, wl_20, wl_21, wl_22, wl_23, wl_24, wl_25, wl_26, wl_27, wl_28, wl_29, wl_30, wl_31, wl_32, wl_33, wl_34, wl_35, wl_36, wl_37, wl_38, wl_39, wl_40, wl_41, wl_42, wl_43, wl_44, wl_45, wl_46, wl_47, wl_48, wl_49, wl_50, wl_51, wl_52, wl_53, wl_54, wl_55, wl_56, wl_57, wl_58, wl_59, wl_60, wl_61, wl_62, wl_63, wl_64, wl_65, wl_66, wl_67, wl_68, wl_69, wl_70, wl_71, wl_72, wl_73, wl_74, wl_75, wl_76, wl_77, wl_78, wl_79, wl_80, wl_81, wl_82, wl_83, wl_84, wl_85, wl_86, wl_87, wl_88, wl_89, wl_90, wl_91, wl_92, wl_93, wl_94, wl_95, wl_96, wl_97, wl_98, wl_99, wl_100, wl_101, wl_102, wl_103, wl_104, wl_105, wl_106, wl_107, wl_108, wl_109, wl_110, wl_111, wl_112, wl_113, wl_114, wl_115, wl_116, wl_117, wl_118, wl_119, wl_120, wl_121, wl_122, wl_123, wl_124, wl_125, wl_126, wl_127, wl_128, wl_129, wl_130, wl_159, wl_160, wl_200, wl_232, wl_255, wl_256, wl_300, wl_359, wl_360, wl_400, wl_592, wl_992, wl_999, wl_1000, wl_1024, wl_3456, wl_6512, wl_7104, wl_10000, wl_11264, wl_12345, wl_32767, wl_1000000000, wl_1103515245, wl_2000000000, w_add, w_sub, w_mul, w_neg, w_lt, w_le, w_eq, w_cl, w_in, w_nat, w_max2, w_min2, w_abs2, iltT, iltF, ileT, ileF, ieqT, ieqF, bv_01, bft, bv_0, bv_1, bv_t, bv_f, cond_true, cond_false, if_true, if_false, true_or, or_true, true_and, and_true, ↓reduceIte, decide_true, decide_false, reduceCtorEq, u2_s, u2_o, u2_k, u2_u2, hM, sp_222, sp_218]
  rfl
/-! ints as longs -/
def wj (z : Int) : Int64 := Int64.ofInt z
theorem wj_add (a b : Int) : wj a + wj b = wj (a + b) := (Int64.ofInt_add a b).symm
theorem wj_mul (a b : Int) : wj a * wj b = wj (a * b) := (Int64.ofInt_mul a b).symm
theorem wj_toInt {a : Int} (h : -9223372036854775808 ≤ a ∧ a < 9223372036854775808) : (wj a).toInt = a := Int64.toInt_ofInt_of_le (by omega) (by omega)
theorem wj_of {a : Int} (h : -2147483648 ≤ a ∧ a < 2147483648) : (w a).toInt64 = wj a := by
  refine Int64.toInt_inj.mp ?_
  rw [Int32.toInt_toInt64, w_toInt h, wj_toInt (by omega)]
theorem wj_cmp {a b : Int} (h : (-9223372036854775808 ≤ a ∧ a < 9223372036854775808) ∧ -9223372036854775808 ≤ b ∧ b < 9223372036854775808) : ((0 : Int32) < lg_cmp (wj a) (wj b)) = (b < a) := by
  rw [propext (lg_cmp_gt _ _), Int64.lt_iff_toInt_lt, wj_toInt h.1, wj_toInt h.2]
theorem mul_bd {x y X Y : Int} (hx : 0 ≤ x ∧ x ≤ X) (hy : 0 ≤ y ∧ y ≤ Y) : 0 ≤ x * y ∧ x * y ≤ X * Y := ⟨Int.mul_nonneg hx.1 hy.1, Int.mul_le_mul hx.2 hy.2 hy.1 (by omega)⟩
theorem sp_258 {d : Nat} {σ : HS} {a b s x y : Int} (h : (1 ≤ a ∧ a ≤ 15) ∧ (1 ≤ b ∧ b ≤ 15) ∧ (0 ≤ s ∧ s ≤ 9) ∧ (-100000 ≤ x ∧ x ≤ 100000) ∧ -100000 ≤ y ∧ y ≤ 100000) : ev PR (d + 2) 258 [.int (w a), .int (w b), .int (w s), .int (w x), .int (w y)] σ = some (.inl (some (.int (bv (gOver a b s x y)))), σ) := by
  have hx : max ((2 * x + s).natAbs : Int) ((2 * x - s).natAbs : Int) = 2 * x.natAbs + s := by omega
  have hy : max ((2 * y + s).natAbs : Int) ((2 * y - s).natAbs : Int) = 2 * y.natAbs + s := by omega
  have hu : 0 ≤ 2 * (x.natAbs : Int) + s ∧ 2 * (x.natAbs : Int) + s ≤ 200009 := by omega
  have hv : 0 ≤ 2 * (y.natAbs : Int) + s ∧ 2 * (y.natAbs : Int) + s ≤ 200009 := by omega
  have ha : 0 ≤ a ∧ a ≤ 15 := by omega
  have hb : 0 ≤ b ∧ b ≤ 15 := by omega
  have haa := mul_bd ha ha
  have hbb := mul_bd hb hb
  have h1 := mul_bd (mul_bd hu hu) hbb
  have h2 := mul_bd (mul_bd hv hv) haa
  have h3 := mul_bd haa hbb
  rw [eq_258]
  simp (disch := first | assumption | omega | (simp (disch := omega) only [vM_u]; assumption)) only [hK, hL, hR, hI, hN, sI, li, lr, ↓cnd_a, ↓cnd_o, ↓cnd_n, ↓cnd_d, ↓z0, ↓z1, ↓z2, y0n, y1i, y2r, y0e, y1e, y2e, wl_0, wl_1, wl_2, wl_3, wl_4, wl_5, wl_6, wl_7, wl_8, wl_9, wl_10, wl_11, wl_12, wl_13, wl_14, wl_15, wl_16, wl_17, wl_18, wl_19, wl_20, wl_21, wl_22, wl_23, wl_24, wl_25, wl_26, wl_27, wl_28, wl_29, wl_30, wl_31, wl_32, wl_33, wl_34, wl_35, wl_36, wl_37, wl_38, wl_39, wl_40, wl_41, wl_42, wl_43, wl_44, wl_45, wl_46, wl_47, wl_48, wl_49, wl_50, wl_51, wl_52, wl_53, wl_54, wl_55, wl_56, wl_57, wl_58, wl_59, wl_60, wl_61, wl_62, wl_63, wl_64, wl_65, wl_66, wl_67, wl_68, wl_69, wl_70, wl_71, wl_72, wl_73, wl_74, wl_75, wl_76, wl_77, wl_78, wl_79, wl_80, wl_81, wl_82, wl_83, wl_84, wl_85, wl_86, wl_87, wl_88, wl_89, wl_90, wl_91, wl_92, wl_93, wl_94, wl_95, wl_96, wl_97, wl_98, wl_99, wl_100, wl_101, wl_102, wl_103, wl_104, wl_105, wl_106, wl_107, wl_108, wl_109, wl_110, wl_111, wl_112, wl_113, wl_114, wl_115, wl_116, wl_117, wl_118, wl_119, wl_120, wl_121, wl_122, wl_123, wl_124, wl_125, wl_126, wl_127, wl_128, wl_129, wl_130, wl_159, wl_160, wl_200, wl_232, wl_255, wl_256, wl_300, wl_359, wl_360, wl_400, wl_592, wl_992, wl_999, wl_1000, wl_1024, wl_3456, wl_6512, wl_7104, wl_10000, wl_11264, wl_12345, wl_32767, wl_1000000000, wl_1103515245, wl_2000000000, w_add, w_sub, w_mul, w_neg, w_lt, w_le, w_eq, w_cl, w_in, w_nat, w_max2, w_min2, w_abs2, iltT, iltF, ileT, ileF, ieqT, ieqF, bv_01, bft, bv_0, bv_1, bv_t, bv_f, cond_true, cond_false, if_true, if_false, true_or, or_true, true_and, and_true, ↓reduceIte, decide_true, decide_false, reduceCtorEq, u2_s, u2_o, u2_k, u2_u2, sp_218, sp_219, eq_258_30, eq_258_40, hx, hy, wj_of, wj_mul, wj_add]
  rw [← wl_0]
  simp (disch := first | assumption | omega | (simp (disch := omega) only [vM_u]; assumption)) only [cnd_d, wj_cmp]
  unfold gOver
  split
  · rw [decide_eq_false (by omega)]; rfl
  · rw [decide_eq_true (by omega)]; rfl
theorem sp_261 {d : Nat} {h x y b : Int} (hM : MSH K L R) (hB : BD (vM I)) (hh : 0 ≤ h ∧ h < vM I 4) (hx : -10000 ≤ x ∧ x ≤ 10000) (hy : -10000 ≤ y ∧ y ≤ 10000) (hb : -1000 ≤ b ∧ b ≤ 1000) (hb0 : 0 ≤ b) : ev PR (d + 4) 261 [.ref 287, .int (w h), .int (w x), .int (w y), .int (w b)] (((vn, vc, vw, K, L, R), I, J) : HS) = some (.inl (some (.int (w (ovF (vM I) h x y b)))), (((vn, vc, vw, K, L, R), I, J) : HS)) := by
  obtain ⟨h3, h4, h5, h6, h7, h8, h9, h13, h14, hbk, hhp, hpp⟩ := id hB
  have hq := hhp h hh.1 hh.2
  have a1 : 1 ≤ alX (vM I) h b ∧ alX (vM I) h b ≤ 15 := by unfold alX; omega
  have a2 : 1 ≤ alY (vM I) h b ∧ alY (vM I) h b ≤ 15 := by unfold alY; omega
  have lp : ∀ (n : Nat) (k : Int), 0 ≤ k → k + n = vM I 3 → atv PR (d + 3) cd_261 12 [.ref 287, .int (w h), .int (w x), .int (w y), .int (w b), .int (w (alX (vM I) h b)), .int (w (alY (vM I) h b)), .int (w k)] [] (((vn, vc, vw, K, L, R), I, J) : HS) = some (.inl (some (.int (w (fnd (ovW (vM I) (alX (vM I) h b) (alY (vM I) h b) x y) k n)))), (((vn, vc, vw, K, L, R), I, J) : HS)) := by
    intro n
    induction n with
    | zero =>
      intro k hk he
      rw [eq_261_12]
      simp (disch := first | assumption | omega | (simp (disch := omega) only [vM_u]; assumption)) only [hK, hL, hR, hI, hN, sI, li, lr, ↓cnd_a, ↓cnd_o, ↓cnd_n, ↓cnd_d, ↓z0, ↓z1, ↓z2, y0n, y1i, y2r, y0e, y1e, y2e, wl_0, wl_1, wl_2, wl_3, wl_4, wl_5, wl_6, wl_7, wl_8, wl_9, wl_10, wl_11, wl_12, wl_13, wl_14, wl_15, wl_16, wl_17, wl_18, wl_19, wl_20, wl_21, wl_22, wl_23, wl_24, wl_25, wl_26, wl_27, wl_28, wl_29, wl_30, wl_31, wl_32, wl_33, wl_34, wl_35, wl_36, wl_37, wl_38, wl_39, wl_40, wl_41, wl_42, wl_43, wl_44, wl_45, wl_46, wl_47, wl_48, wl_49, wl_50, wl_51, wl_52, wl_53, wl_54, wl_55, wl_56, wl_57, wl_58, wl_59, wl_60, wl_61, wl_62, wl_63, wl_64, wl_65, wl_66, wl_67, wl_68, wl_69, wl_70, wl_71, wl_72, wl_73, wl_74, wl_75, wl_76, wl_77, wl_78, wl_79, wl_80, wl_81, wl_82, wl_83, wl_84, wl_85, wl_86, wl_87, wl_88, wl_89, wl_90, wl_91, wl_92, wl_93, wl_94, wl_95, wl_96, wl_97, wl_98, wl_99, wl_100, wl_101, wl_102, wl_103, wl_104, wl_105, wl_106, wl_107, wl_108, wl_109, wl_110, wl_111, wl_112, wl_113, wl_114, wl_115, wl_116, wl_117, wl_118, wl_119, wl_120, wl_121, wl_122, wl_123, wl_124, wl_125, wl_126, wl_127, wl_128, wl_129, wl_130, wl_159, wl_160, wl_200, wl_232, wl_255, wl_256, wl_300, wl_359, wl_360, wl_400, wl_592, wl_992, wl_999, wl_1000, wl_1024, wl_3456, wl_6512, wl_7104, wl_10000, wl_11264, wl_12345, wl_32767, wl_1000000000, wl_1103515245, wl_2000000000, w_add, w_sub, w_mul, w_neg, w_lt, w_le, w_eq, w_cl, w_in, w_nat, w_max2, w_min2, w_abs2, iltT, iltF, ileT, ileF, ieqT, ieqF, bv_01, bft, bv_0, bv_1, bv_t, bv_f, cond_true, cond_false, if_true, if_false, true_or, or_true, true_and, and_true, ↓reduceIte, decide_true, decide_false, reduceCtorEq, u2_s, u2_o, u2_k, u2_u2, hM, rV_s I, fnd]
    | succ n ih =>
      intro k hk he
      have hkb := hbk k hk (by omega)
      rw [eq_261_12]
      simp (disch := first | assumption | omega | (simp (disch := omega) only [vM_u]; assumption)) only [hK, hL, hR, hI, hN, sI, li, lr, ↓cnd_a, ↓cnd_o, ↓cnd_n, ↓cnd_d, ↓z0, ↓z1, ↓z2, y0n, y1i, y2r, y0e, y1e, y2e, wl_0, wl_1, wl_2, wl_3, wl_4, wl_5, wl_6, wl_7, wl_8, wl_9, wl_10, wl_11, wl_12, wl_13, wl_14, wl_15, wl_16, wl_17, wl_18, wl_19, wl_20, wl_21, wl_22, wl_23, wl_24, wl_25, wl_26, wl_27, wl_28, wl_29, wl_30, wl_31, wl_32, wl_33, wl_34, wl_35, wl_36, wl_37, wl_38, wl_39, wl_40, wl_41, wl_42, wl_43, wl_44, wl_45, wl_46, wl_47, wl_48, wl_49, wl_50, wl_51, wl_52, wl_53, wl_54, wl_55, wl_56, wl_57, wl_58, wl_59, wl_60, wl_61, wl_62, wl_63, wl_64, wl_65, wl_66, wl_67, wl_68, wl_69, wl_70, wl_71, wl_72, wl_73, wl_74, wl_75, wl_76, wl_77, wl_78, wl_79, wl_80, wl_81, wl_82, wl_83, wl_84, wl_85, wl_86, wl_87, wl_88, wl_89, wl_90, wl_91, wl_92, wl_93, wl_94, wl_95, wl_96, wl_97, wl_98, wl_99, wl_100, wl_101, wl_102, wl_103, wl_104, wl_105, wl_106, wl_107, wl_108, wl_109, wl_110, wl_111, wl_112, wl_113, wl_114, wl_115, wl_116, wl_117, wl_118, wl_119, wl_120, wl_121, wl_122, wl_123, wl_124, wl_125, wl_126, wl_127, wl_128, wl_129, wl_130, wl_159, wl_160, wl_200, wl_232, wl_255, wl_256, wl_300, wl_359, wl_360, wl_400, wl_592, wl_992, wl_999, wl_1000, wl_1024, wl_3456, wl_6512, wl_7104, wl_10000, wl_11264, wl_12345, wl_32767, wl_1000000000, wl_1103515245, wl_2000000000, w_add, w_sub, w_mul, w_neg, w_lt, w_le, w_eq, w_cl, w_in, w_nat, w_max2, w_min2, w_abs2, iltT, iltF, ileT, ileF, ieqT, ieqF, bv_01, bft, bv_0, bv_1, bv_t, bv_f, cond_true, cond_false, if_true, if_false, true_or, or_true, true_and, and_true, ↓reduceIte, decide_true, decide_false, reduceCtorEq, u2_s, u2_o, u2_k, u2_u2, hM, rV_s I, sp_221, sp_258, ih]
      simp only [fnd, ovW]
      cases gOver (alX (vM I) h b) (alY (vM I) h b) (bl (vM I) k 2) (x - bl (vM I) k 0) (y - bl (vM I) k 1) <;> rfl
  rw [eq_261]
  simp (disch := first | assumption | omega | (simp (disch := omega) only [vM_u]; assumption)) only [hK, hL, hR, hI, hN, sI, li, lr, ↓cnd_a, ↓cnd_o, ↓cnd_n, ↓cnd_d, ↓z0, ↓z1, ↓z2, y0n, y1i, y2r, y0e, y1e, y2e, wl_0, wl_1, wl_2, wl_3, wl_4, wl_5, wl_6, wl_7, wl_8, wl_9, wl_10, wl_11, wl_12, wl_13, wl_14, wl_15, wl_16, wl_17, wl_18, wl_19, wl_20, wl_21, wl_22, wl_23, wl_24, wl_25, wl_26, wl_27, wl_28, wl_29, wl_30, wl_31, wl_32, wl_33, wl_34, wl_35, wl_36, wl_37, wl_38, wl_39, wl_40, wl_41, wl_42, wl_43, wl_44, wl_45, wl_46, wl_47, wl_48, wl_49, wl_50, wl_51, wl_52, wl_53, wl_54, wl_55, wl_56, wl_57, wl_58, wl_59, wl_60, wl_61, wl_62, wl_63, wl_64, wl_65, wl_66, wl_67, wl_68, wl_69, wl_70, wl_71, wl_72, wl_73, wl_74, wl_75, wl_76, wl_77, wl_78, wl_79, wl_80, wl_81, wl_82, wl_83, wl_84, wl_85, wl_86, wl_87, wl_88, wl_89, wl_90, wl_91, wl_92, wl_93, wl_94, wl_95, wl_96, wl_97, wl_98, wl_99, wl_100, wl_101, wl_102, wl_103, wl_104, wl_105, wl_106, wl_107, wl_108, wl_109, wl_110, wl_111, wl_112, wl_113, wl_114, wl_115, wl_116, wl_117, wl_118, wl_119, wl_120, wl_121, wl_122, wl_123, wl_124, wl_125, wl_126, wl_127, wl_128, wl_129, wl_130, wl_159, wl_160, wl_200, wl_232, wl_255, wl_256, wl_300, wl_359, wl_360, wl_400, wl_592, wl_992, wl_999, wl_1000, wl_1024, wl_3456, wl_6512, wl_7104, wl_10000, wl_11264, wl_12345, wl_32767, wl_1000000000, wl_1103515245, wl_2000000000, w_add, w_sub, w_mul, w_neg, w_lt, w_le, w_eq, w_cl, w_in, w_nat, w_max2, w_min2, w_abs2, iltT, iltF, ileT, ileF, ieqT, ieqF, bv_01, bft, bv_0, bv_1, bv_t, bv_f, cond_true, cond_false, if_true, if_false, true_or, or_true, true_and, and_true, ↓reduceIte, decide_true, decide_false, reduceCtorEq, u2_s, u2_o, u2_k, u2_u2, hM, sp_259, sp_260]
  exact lp _ 0 (by omega) (by omega)
theorem sp_262 {d : Nat} {h x y b k : Int} (hM : MSH K L R) (hB : BD (vM I)) (hh : 0 ≤ h ∧ h < vM I 4) (hx : -10000 ≤ x ∧ x ≤ 10000) (hy : -10000 ≤ y ∧ y ≤ 10000) (hb : 0 ≤ b ∧ b ≤ 1000) (hk : 0 ≤ k ∧ k < vM I 3) : ev PR (d + 3) 262 [.ref 287, .int (w h), .int (w x), .int (w y), .int (w b), .int (w k)] (((vn, vc, vw, K, L, R), I, J) : HS) = some (.inl (some (.int (bv (tcW (vM I) (alX (vM I) h b) (alY (vM I) h b) x y k)))), (((vn, vc, vw, K, L, R), I, J) : HS)) := by
  obtain ⟨h3, h4, h5, h6, h7, h8, h9, h13, h14, hbk, hhp, hpp⟩ := id hB
  have hq := hhp h hh.1 hh.2
  have hkb := hbk k hk.1 hk.2
  have a1 : 1 ≤ alX (vM I) h b ∧ alX (vM I) h b ≤ 15 := by unfold alX; omega
  have a2 : 1 ≤ alY (vM I) h b ∧ alY (vM I) h b ≤ 15 := by unfold alY; omega
  rw [eq_262]
  simp (disch := first | assumption | omega | (simp (disch := omega) only [vM_u]; assumption)) only [hK, hL, hR, hI, hN, sI, li, lr, ↓cnd_a, ↓cnd_o, ↓cnd_n, ↓cnd_d, ↓z0, ↓z1, ↓z2, y0n, y1i, y2r, y0e, y1e, y2e, wl_0, wl_1, wl_2, wl_3, wl_4, wl_5, wl_6, wl_7, wl_8, wl_9, wl_10, wl_11, wl_12, wl_13, wl_14, wl_15, wl_16, wl_17, wl_18, wl_19, wl_20, wl_21, wl_22, wl_23, wl_24, wl_25, wl_26, wl_27, wl_28, wl_29, wl_30, wl_31, wl_32, wl_33, wl_34, wl_35, wl_36, wl_37, wl_38, wl_39, wl_40, wl_41, wl_42, wl_43, wl_44, wl_45, wl_46, wl_47, wl_48, wl_49, wl_50, wl_51, wl_52, wl_53, wl_54, wl_55, wl_56, wl_57, wl_58, wl_59, wl_60, wl_61, wl_62, wl_63, wl_64, wl_65, wl_66, wl_67, wl_68, wl_69, wl_70, wl_71, wl_72, wl_73, wl_74, wl_75, wl_76, wl_77, wl_78, wl_79, wl_80, wl_81, wl_82, wl_83, wl_84, wl_85, wl_86, wl_87, wl_88, wl_89, wl_90, wl_91, wl_92, wl_93, wl_94, wl_95, wl_96, wl_97, wl_98, wl_99, wl_100, wl_101, wl_102, wl_103, wl_104, wl_105, wl_106, wl_107, wl_108, wl_109, wl_110, wl_111, wl_112, wl_113, wl_114, wl_115, wl_116, wl_117, wl_118, wl_119, wl_120, wl_121, wl_122, wl_123, wl_124, wl_125, wl_126, wl_127, wl_128, wl_129, wl_130, wl_159, wl_160, wl_200, wl_232, wl_255, wl_256, wl_300, wl_359, wl_360, wl_400, wl_592, wl_992, wl_999, wl_1000, wl_1024, wl_3456, wl_6512, wl_7104, wl_10000, wl_11264, wl_12345, wl_32767, wl_1000000000, wl_1103515245, wl_2000000000, w_add, w_sub, w_mul, w_neg, w_lt, w_le, w_eq, w_cl, w_in, w_nat, w_max2, w_min2, w_abs2, iltT, iltF, ileT, ileF, ieqT, ieqF, bv_01, bft, bv_0, bv_1, bv_t, bv_f, cond_true, cond_false, if_true, if_false, true_or, or_true, true_and, and_true, ↓reduceIte, decide_true, decide_false, reduceCtorEq, u2_s, u2_o, u2_k, u2_u2, hM, sp_221, sp_219, sp_259, sp_260]
  unfold tcW gTch
  split
  · rw [decide_eq_false (by omega)]; rfl
  · rw [decide_eq_true (by omega)]
    split
    · rw [decide_eq_false (by omega)]; rfl
    · rw [decide_eq_true (by omega)]; rfl
theorem sp_263 {d : Nat} {h x y b : Int} {e : Bool} (hM : MSH K L R) (hB : BD (vM I)) (hh : 0 ≤ h ∧ h < vM I 4) (hx : -10000 ≤ x ∧ x ≤ 10000) (hy : -10000 ≤ y ∧ y ≤ 10000) (hb : 0 ≤ b ∧ b ≤ 1000) : ev PR (d + 5) 263 [.ref 287, .int (w h), .int (w x), .int (w y), .int (w b), .int (bv e)] (((vn, vc, vw, K, L, R), I, J) : HS) = some (.inl (some (.int (bv (tsF (vM I) h x y b e)))), (((vn, vc, vw, K, L, R), I, J) : HS)) := by
  obtain ⟨h3, h4, h5, h6, h7, h8, h9, h13, h14, hbk, hhp, hpp⟩ := id hB
  have lp : ∀ (n : Nat) (k : Int), 0 ≤ k → k + n = vM I 3 → atv PR (d + 4) cd_263 2 [.ref 287, .int (w h), .int (w x), .int (w y), .int (w b), .int (bv e), .int (w k)] [] (((vn, vc, vw, K, L, R), I, J) : HS) = some (.inl (some (.int (bv (exs (tsW (vM I) (alX (vM I) h b) (alY (vM I) h b) x y e) k n)))), (((vn, vc, vw, K, L, R), I, J) : HS)) := by
    intro n
    induction n with
    | zero =>
      intro k hk he
      rw [eq_263_2]
      simp (disch := first | assumption | omega | (simp (disch := omega) only [vM_u]; assumption)) only [hK, hL, hR, hI, hN, sI, li, lr, ↓cnd_a, ↓cnd_o, ↓cnd_n, ↓cnd_d, ↓z0, ↓z1, ↓z2, y0n, y1i, y2r, y0e, y1e, y2e, wl_0, wl_1, wl_2, wl_3, wl_4, wl_5, wl_6, wl_7, wl_8, wl_9, wl_10, wl_11, wl_12, wl_13, wl_14, wl_15, wl_16, wl_17, wl_18, wl_19, wl_20, wl_21, wl_22, wl_23, wl_24, wl_25, wl_26, wl_27, wl_28, wl_29, wl_30, wl_31, wl_32, wl_33, wl_34, wl_35, wl_36, wl_37, wl_38, wl_39, wl_40, wl_41, wl_42, wl_43, wl_44, wl_45, wl_46, wl_47, wl_48, wl_49, wl_50, wl_51, wl_52, wl_53, wl_54, wl_55, wl_56, wl_57, wl_58, wl_59, wl_60, wl_61, wl_62, wl_63, wl_64, wl_65, wl_66, wl_67, wl_68, wl_69, wl_70, wl_71, wl_72, wl_73, wl_74, wl_75, wl_76, wl_77, wl_78, wl_79, wl_80, wl_81, wl_82, wl_83, wl_84, wl_85, wl_86, wl_87, wl_88, wl_89, wl_90, wl_91, wl_92, wl_93, wl_94, wl_95, wl_96, wl_97, wl_98, wl_99, wl_100, wl_101, wl_102, wl_103, wl_104, wl_105, wl_106, wl_107, wl_108, wl_109, wl_110, wl_111, wl_112, wl_113, wl_114, wl_115, wl_116, wl_117, wl_118, wl_119, wl_120, wl_121, wl_122, wl_123, wl_124, wl_125, wl_126, wl_127, wl_128, wl_129, wl_130, wl_159, wl_160, wl_200, wl_232, wl_255, wl_256, wl_300, wl_359, wl_360, wl_400, wl_592, wl_992, wl_999, wl_1000, wl_1024, wl_3456, wl_6512, wl_7104, wl_10000, wl_11264, wl_12345, wl_32767, wl_1000000000, wl_1103515245, wl_2000000000, w_add, w_sub, w_mul, w_neg, w_lt, w_le, w_eq, w_cl, w_in, w_nat, w_max2, w_min2, w_abs2, iltT, iltF, ileT, ileF, ieqT, ieqF, bv_01, bft, bv_0, bv_1, bv_t, bv_f, cond_true, cond_false, if_true, if_false, true_or, or_true, true_and, and_true, ↓reduceIte, decide_true, decide_false, reduceCtorEq, u2_s, u2_o, u2_k, u2_u2, hM, rV_s I, exs]
    | succ n ih =>
      intro k hk he
      have hkb := hbk k hk (by omega)
      rw [eq_263_2]
      simp (disch := first | assumption | omega | (simp (disch := omega) only [vM_u]; assumption)) only [hK, hL, hR, hI, hN, sI, li, lr, ↓cnd_a, ↓cnd_o, ↓cnd_n, ↓cnd_d, ↓z0, ↓z1, ↓z2, y0n, y1i, y2r, y0e, y1e, y2e, wl_0, wl_1, wl_2, wl_3, wl_4, wl_5, wl_6, wl_7, wl_8, wl_9, wl_10, wl_11, wl_12, wl_13, wl_14, wl_15, wl_16, wl_17, wl_18, wl_19, wl_20, wl_21, wl_22, wl_23, wl_24, wl_25, wl_26, wl_27, wl_28, wl_29, wl_30, wl_31, wl_32, wl_33, wl_34, wl_35, wl_36, wl_37, wl_38, wl_39, wl_40, wl_41, wl_42, wl_43, wl_44, wl_45, wl_46, wl_47, wl_48, wl_49, wl_50, wl_51, wl_52, wl_53, wl_54, wl_55, wl_56, wl_57, wl_58, wl_59, wl_60, wl_61, wl_62, wl_63, wl_64, wl_65, wl_66, wl_67, wl_68, wl_69, wl_70, wl_71, wl_72, wl_73, wl_74, wl_75, wl_76, wl_77, wl_78, wl_79, wl_80, wl_81, wl_82, wl_83, wl_84, wl_85, wl_86, wl_87, wl_88, wl_89, wl_90, wl_91, wl_92, wl_93, wl_94, wl_95, wl_96, wl_97, wl_98, wl_99, wl_100, wl_101, wl_102, wl_103, wl_104, wl_105, wl_106, wl_107, wl_108, wl_109, wl_110, wl_111, wl_112, wl_113, wl_114, wl_115, wl_116, wl_117, wl_118, wl_119, wl_120, wl_121, wl_122, wl_123, wl_124, wl_125, wl_126, wl_127, wl_128, wl_129, wl_130, wl_159, wl_160, wl_200, wl_232, wl_255, wl_256, wl_300, wl_359, wl_360, wl_400, wl_592, wl_992, wl_999, wl_1000, wl_1024, wl_3456, wl_6512, wl_7104, wl_10000, wl_11264, wl_12345, wl_32767, wl_1000000000, wl_1103515245, wl_2000000000, w_add, w_sub, w_mul, w_neg, w_lt, w_le, w_eq, w_cl, w_in, w_nat, w_max2, w_min2, w_abs2, iltT, iltF, ileT, ileF, ieqT, ieqF, bv_01, bft, bv_0, bv_1, bv_t, bv_f, cond_true, cond_false, if_true, if_false, true_or, or_true, true_and, and_true, ↓reduceIte, decide_true, decide_false, reduceCtorEq, u2_s, u2_o, u2_k, u2_u2, hM, rV_s I, sp_221, sp_262, ih]
      simp only [exs, tsW]
      cases tcW (vM I) (alX (vM I) h b) (alY (vM I) h b) x y k
      · rfl
      · cases e
        · rfl
        · by_cases q : bl (vM I) k 4 = 0 <;> simp only [q, decide_true, decide_false] <;> rfl
  rw [eq_263]
  simp (disch := first | assumption | omega | (simp (disch := omega) only [vM_u]; assumption)) only [hK, hL, hR, hI, hN, sI, li, lr, ↓cnd_a, ↓cnd_o, ↓cnd_n, ↓cnd_d, ↓z0, ↓z1, ↓z2, y0n, y1i, y2r, y0e, y1e, y2e, wl_0, wl_1, wl_2, wl_3, wl_4, wl_5, wl_6, wl_7, wl_8, wl_9, wl_10, wl_11, wl_12, wl_13, wl_14, wl_15, wl_16, wl_17, wl_18, wl_19, wl_20, wl_21, wl_22, wl_23, wl_24, wl_25, wl_26, wl_27, wl_28, wl_29, wl_30, wl_31, wl_32, wl_33, wl_34, wl_35, wl_36, wl_37, wl_38, wl_39, wl_40, wl_41, wl_42, wl_43, wl_44, wl_45, wl_46, wl_47, wl_48, wl_49, wl_50, wl_51, wl_52, wl_53, wl_54, wl_55, wl_56, wl_57, wl_58, wl_59, wl_60, wl_61, wl_62, wl_63, wl_64, wl_65, wl_66, wl_67, wl_68, wl_69, wl_70, wl_71, wl_72, wl_73, wl_74, wl_75, wl_76, wl_77, wl_78, wl_79, wl_80, wl_81, wl_82, wl_83, wl_84, wl_85, wl_86, wl_87, wl_88, wl_89, wl_90, wl_91, wl_92, wl_93, wl_94, wl_95, wl_96, wl_97, wl_98, wl_99, wl_100, wl_101, wl_102, wl_103, wl_104, wl_105, wl_106, wl_107, wl_108, wl_109, wl_110, wl_111, wl_112, wl_113, wl_114, wl_115, wl_116, wl_117, wl_118, wl_119, wl_120, wl_121, wl_122, wl_123, wl_124, wl_125, wl_126, wl_127, wl_128, wl_129, wl_130, wl_159, wl_160, wl_200, wl_232, wl_255, wl_256, wl_300, wl_359, wl_360, wl_400, wl_592, wl_992, wl_999, wl_1000, wl_1024, wl_3456, wl_6512, wl_7104, wl_10000, wl_11264, wl_12345, wl_32767, wl_1000000000, wl_1103515245, wl_2000000000, w_add, w_sub, w_mul, w_neg, w_lt, w_le, w_eq, w_cl, w_in, w_nat, w_max2, w_min2, w_abs2, iltT, iltF, ileT, ileF, ieqT, ieqF, bv_01, bft, bv_0, bv_1, bv_t, bv_f, cond_true, cond_false, if_true, if_false, true_or, or_true, true_and, and_true, ↓reduceIte, decide_true, decide_false, reduceCtorEq, u2_s, u2_o, u2_k, u2_u2, hM]
  exact lp _ 0 (by omega) (by omega)
/-- what comes of a hoop, and how far it went -/
def rsY (m : Int → Int) (h x y b : Int) : Int := if ovF m h x y b = -1 ∧ tsF m h x y b true = true then y + m 7 else y
def cnF (m : Int → Int) (h x y b : Int) : Int := if ovF m h x y b = -1 ∧ tsF m h x y b true = true then ovF m h x (y + m 7) b else ovF m h x y b
def fal (m : Int → Int) (h x y b : Int) : Int := if cnF m h x y b = -1 then cond (tsF m h x (rsY m h x y b) b false) (-2) (-1) else cnF m h x y b
theorem fnd_r (p : Int → Bool) : ∀ (n : Nat) (k : Int), fnd p k n = -1 ∨ (k ≤ fnd p k n ∧ fnd p k n < k + n ∧ p (fnd p k n) = true)
  | 0, _ => Or.inl rfl
  | n + 1, k => by
    unfold fnd
    cases h : p k with
    | true => exact Or.inr ⟨Int.le_refl _, by simp only [cond_true]; omega, h⟩
    | false =>
      simp only [cond_false]
      rcases fnd_r p n (k + 1) with h | ⟨h1, h2, h3⟩
      · exact Or.inl h
      · exact Or.inr ⟨by omega, by omega, h3⟩
theorem ovF_r {m : Int → Int} (hm : 0 ≤ m 3) (h x y b : Int) : ovF m h x y b = -1 ∨ (0 ≤ ovF m h x y b ∧ ovF m h x y b < m 3) := by
  rcases fnd_r (ovW m (alX m h b) (alY m h b) x y) (m 3).toNat 0 with h1 | ⟨h1, h2, -⟩
  · exact Or.inl h1
  · exact Or.inr ⟨h1, by unfold ovF; omega⟩
theorem ovF_w {m : Int → Int} (hB : BD m) (h x y b : Int) : -1 ≤ ovF m h x y b ∧ ovF m h x y b < 10 := by
  have := hB.1
  rcases ovF_r this.1 h x y b with h | h <;> omega
theorem sp_263t {d : Nat} {h x y b : Int} (hM : MSH K L R) (hB : BD (vM I)) (hh : 0 ≤ h ∧ h < vM I 4) (hx : -10000 ≤ x ∧ x ≤ 10000) (hy : -10000 ≤ y ∧ y ≤ 10000) (hb : 0 ≤ b ∧ b ≤ 1000) : ev PR (d + 5) 263 [.ref 287, .int (w h), .int (w x), .int (w y), .int (w b), .int (w 1)] (((vn, vc, vw, K, L, R), I, J) : HS) = some (.inl (some (.int (bv (tsF (vM I) h x y b true)))), (((vn, vc, vw, K, L, R), I, J) : HS)) := sp_263 (e := true) hM hB hh hx hy hb
theorem sp_263f {d : Nat} {h x y b : Int} (hM : MSH K L R) (hB : BD (vM I)) (hh : 0 ≤ h ∧ h < vM I 4) (hx : -10000 ≤ x ∧ x ≤ 10000) (hy : -10000 ≤ y ∧ y ≤ 10000) (hb : 0 ≤ b ∧ b ≤ 1000) : ev PR (d + 5) 263 [.ref 287, .int (w h), .int (w x), .int (w y), .int (w b), .int (w 0)] (((vn, vc, vw, K, L, R), I, J) : HS) = some (.inl (some (.int (bv (tsF (vM I) h x y b false)))), (((vn, vc, vw, K, L, R), I, J) : HS)) := sp_263 (e := false) hM hB hh hx hy hb
theorem sp_264 {d : Nat} {h x y b : Int} (hM : MSH K L R) (hB : BD (vM I)) (hh : 0 ≤ h ∧ h < vM I 4) (hx : -9000 ≤ x ∧ x ≤ 9000) (hy : -9000 ≤ y ∧ y ≤ 9000) (hb : 0 ≤ b ∧ b ≤ 1000) : ev PR (d + 6) 264 [.ref 287, .int (w h), .int (w x), .int (w y), .int (w b)] (((vn, vc, vw, K, L, R), I, J) : HS) = some (.inl (some (.int (w (fal (vM I) h x y b)))), (((vn, vc, vw, K, L, R), u2 (u2 I 287 22 (w x)) 287 23 (w (rsY (vM I) h x y b)), J) : HS)) := by
  have h7 := hB.2.2.2.2.1
  have hr := ovF_w hB h x y b
  have hr2 := ovF_w hB h x (y + vM I 7) b
  rw [eq_264]
  simp (disch := first | assumption | omega | (simp (disch := omega) only [vM_u]; assumption)) only [hK, hL, hR, hI, hN, sI, li, lr, ↓cnd_a, ↓cnd_o, ↓cnd_n, ↓cnd_d, ↓z0, ↓z1, ↓z2, y0n, y1i, y2r, y0e, y1e, y2e, wl_0, wl_1, wl_2, wl_3, wl_4, wl_5, wl_6, wl_7, wl_8, wl_9, wl_10, wl_11, wl_12, wl_13, wl_14, wl_15, wl_16, wl_17, wl_18, wl_19, wl_20, wl_21, wl_22, wl_23, wl_24, wl_25, wl_26, wl_27, wl_28, wl_29, wl_30, wl_31, wl_32, wl_33, wl_34, wl_35, wl_36, wl_37, wl_38, wl_39, wl_40, wl_41, wl_42, wl_43, wl_44, wl_45, wl_46, wl_47, wl_48, wl_49, wl_50, wl_51, wl_52, wl_53, wl_54, wl_55, wl_56, wl_57, wl_58, wl_59, wl_60, wl_61, wl_62, wl_63, wl_64, wl_65, wl_66, wl_67, wl_68, wl_69, wl_70, wl_71, wl_72, wl_73, wl_74, wl_75, wl_76, wl_77, wl_78, wl_79, wl_80, wl_81, wl_82, wl_83, wl_84, wl_85, wl_86, wl_87, wl_88, wl_89, wl_90, wl_91, wl_92, wl_93, wl_94, wl_95, wl_96, wl_97, wl_98, wl_99, wl_100, wl_101, wl_102, wl_103, wl_104, wl_105, wl_106, wl_107, wl_108, wl_109, wl_110, wl_111, wl_112, wl_113, wl_114, wl_115, wl_116, wl_117, wl_118, wl_119, wl_120, wl_121, wl_122, wl_123, wl_124, wl_125, wl_126, wl_127, wl_128, wl_129, wl_130, wl_159, wl_160, wl_200, wl_232, wl_255, wl_256, wl_300, wl_359, wl_360, wl_400, wl_592, wl_992, wl_999, wl_1000, wl_1024, wl_3456, wl_6512, wl_7104, wl_10000, wl_11264, wl_12345, wl_32767, wl_1000000000, wl_1103515245, wl_2000000000, w_add, w_sub, w_mul, w_neg, w_lt, w_le, w_eq, w_cl, w_in, w_nat, w_max2, w_min2, w_abs2, iltT, iltF, ileT, ileF, ieqT, ieqF, bv_01, bft, bv_0, bv_1, bv_t, bv_f, cond_true, cond_false, if_true, if_false, true_or, or_true, true_and, and_true, ↓reduceIte, decide_true, decide_false, reduceCtorEq, u2_s, u2_o, u2_k, u2_u2, hM, vM_u, rV_s I, sp_261, sp_263t, sp_263f]
  unfold fal cnF rsY
  by_cases c1 : ovF (vM I) h x y b = -1
  · cases c2 : tsF (vM I) h x y b true
    · simp only [c1, c2, if_true, if_false, Bool.false_eq_true, and_false, reduceIte]
      cases tsF (vM I) h x y b false <;> rfl
    · simp only [c1, c2, if_true, if_false, Bool.false_eq_true, and_self, Bool.true_eq_false, reduceIte]
      by_cases c3 : ovF (vM I) h x (y + vM I 7) b = -1
      · simp only [c3, if_true]
        cases tsF (vM I) h x (y + vM I 7) b false <;> rfl
      · simp only [c3, if_false]
  · simp only [c1, if_false, false_and]
end GEO
