/-! THE CLASS: a hoop over a block -/
theorem sq_le {u a c : Int} (hu : 0 ≤ u) (ha : 0 ≤ a) (hc : 1 ≤ c) (h : u * u * (c * c) ≤ a * a * (c * c)) : u ≤ a := by
  refine Int.not_lt.mp fun q => ?_
  have h1 : a * a < u * u := Int.lt_of_le_of_lt (Int.mul_le_mul_of_nonneg_left (Int.le_of_lt q) ha) (Int.mul_lt_mul_of_pos_right q (by omega))
  have h2 : 0 < c * c := Int.mul_pos (by omega) (by omega)
  have h3 := Int.mul_lt_mul_of_pos_right h1 h2
  omega
theorem gOver_u {a b s dx dy : Int} (ha : 1 ≤ a) (hb : 1 ≤ b) (hs : 0 ≤ s) (h : gOver a b s dx dy = true) : 2 * (dx.natAbs : Int) + s ≤ a ∧ 2 * (dy.natAbs : Int) + s ≤ b := by
  have h := of_decide_eq_true h
  have n1 : 0 ≤ (2 * (dx.natAbs : Int) + s) * (2 * (dx.natAbs : Int) + s) * (b * b) := Int.mul_nonneg (Int.mul_nonneg (by omega) (by omega)) (Int.mul_nonneg (by omega) (by omega))
  have n2 : 0 ≤ (2 * (dy.natAbs : Int) + s) * (2 * (dy.natAbs : Int) + s) * (a * a) := Int.mul_nonneg (Int.mul_nonneg (by omega) (by omega)) (Int.mul_nonneg (by omega) (by omega))
  refine ⟨sq_le (by omega) (by omega) hb (by omega), sq_le (c := a) (by omega) (by omega) ha ?_⟩
  rw [Int.mul_comm (b * b)]
  omega
theorem gOver_t {a b s dx dy : Int} (ha : 1 ≤ a) (hb : 1 ≤ b) (hs : 1 ≤ s) (h : gOver a b s dx dy = true) : gTch a b s dx dy = true := by
  have := gOver_u ha hb (by omega) h
  unfold gTch
  rw [decide_eq_true (by omega), decide_eq_true (by omega)]
  rfl
/-- of a row those that hold, in order -/
def hls (P : Int → Bool) (k : Int) : Nat → List Int
  | 0 => []
  | n + 1 => cond (P k) (k :: hls P (k + 1) n) (hls P (k + 1) n)
def fndL (p : Int → Bool) : List Int → Int
  | [] => -1
  | b :: l => cond (p b) b (fndL p l)
def exsL (p : Int → Bool) : List Int → Bool
  | [] => false
  | b :: l => cond (p b) true (exsL p l)
theorem fndL_hls {P p : Int → Bool} : ∀ (n : Nat) (k : Int), (∀ j, k ≤ j → j < k + n → p j = true → P j = true) → fndL p (hls P k n) = fnd p k n
  | 0, _, _ => rfl
  | n + 1, k, h => by
    have ih := fndL_hls n (k + 1) (fun j h1 h2 h3 => h j (by omega) (by omega) h3)
    unfold hls fnd
    cases hP : P k with
    | true => rw [cond_true, fndL, ih]
    | false =>
      cases hp : p k with
      | true => rw [h k (Int.le_refl _) (by omega) hp] at hP; cases hP
      | false => rw [cond_false, cond_false, ih]
theorem exsL_hls {P p : Int → Bool} : ∀ (n : Nat) (k : Int), (∀ j, k ≤ j → j < k + n → p j = true → P j = true) → exsL p (hls P k n) = exs p k n
  | 0, _, _ => rfl
  | n + 1, k, h => by
    have ih := exsL_hls n (k + 1) (fun j h1 h2 h3 => h j (by omega) (by omega) h3)
    unfold hls exs
    cases hP : P k with
    | true => rw [cond_true, exsL, ih]
    | false =>
      cases hp : p k with
      | true => rw [h k (Int.le_refl _) (by omega) hp] at hP; cases hP
      | false => rw [cond_false, cond_false, ih]
theorem hls_r {P : Int → Bool} : ∀ (n : Nat) (k : Int) (b : Int), b ∈ hls P k n → k ≤ b ∧ b < k + n
  | 0, _, _, h => by cases h
  | n + 1, k, b, h => by
    unfold hls at h
    cases hP : P k with
    | true =>
      rw [hP, cond_true] at h
      rcases List.mem_cons.mp h with h | h
      · omega
      · have := hls_r n (k + 1) b h; omega
    | false =>
      rw [hP, cond_false] at h
      have := hls_r n (k + 1) b h; omega
theorem hls_len {P : Int → Bool} : ∀ (n : Nat) (k : Int), (hls P k n).length ≤ n
  | 0, _ => Nat.le_refl _
  | n + 1, k => by
    unfold hls
    have := hls_len (P := P) n (k + 1)
    cases P k
    · simp only [cond_false]; omega
    · simp only [cond_true, List.length_cons]; omega
section GX2
variable {vn vc vw : Nat} {K L : Nat → Nat} {R : Nat → Nat → Nat} {I : Nat → Nat → Int32} {J : Nat → Nat → Int64}
theorem sp_108 {d : Nat} {σ : HS} {a b s x y : Int} (h : (1 ≤ a ∧ a ≤ 15) ∧ (1 ≤ b ∧ b ≤ 15) ∧ (0 ≤ s ∧ s ≤ 9) ∧ (-100000 ≤ x ∧ x ≤ 100000) ∧ -100000 ≤ y ∧ y ≤ 100000) : ev PR (d + 1) 108 [.int (w a), .int (w b), .int (w s), .int (w x), .int (w y)] σ = some (.inl (some (.int (bv (gOver a b s x y)))), σ) := by
  rw [eq_108]
  have ha : 0 ≤ a ∧ a ≤ 15 := by omega
  have hb : 0 ≤ b ∧ b ≤ 15 := by omega
  by_cases c1 : a < 2 * (x.natAbs : Int) + s
  · simp (disch := first | assumption | omega | (simp (disch := omega) only [vM_u]; assumption)) only [hK, hL, hR, hI, hN, sI, hSp, hC, hW, li, lr, ↓cnd_a, ↓cnd_o, ↓cnd_n, ↓cnd_d, ↓z0, ↓z1, ↓z2, y0n, y1i, y2r, y0e, y1e, y2e, wl_0, wl_1, wl_2, wl_3, wl_4, wl_5, wl_6, wl_7, wl_8, wl_9, wl_10, wl_11, wl_12, wl_13, wl_14, wl_15, wl_16, wl_17, wl_18, wl_19, wl_20, wl_21, wl_22, wl_23, wl_24, wl_25, wl_26, wl_27, wl_28, wl_29, wl_30, wl_31, wl_32, wl_33, wl_34, wl_35, wl_36, wl_37, wl_38, wl_39, wl_40, wl_41, wl_42, wl_43, wl_44, wl_45, wl_46, wl_47, wl_48, wl_49, wl_50, wl_51, wl_52, wl_53, wl_54, wl_55, wl_56, wl_57, wl_58, wl_59, wl_60, wl_61, wl_62, wl_63, wl_64, wl_65, wl_66, wl_67, wl_68, wl_69, wl_70, wl_71, wl_72, wl_73, wl_74, wl_75, wl_76, wl_77, wl_78, wl_79, wl_80, wl_81, wl_82, wl_83, wl_84, wl_85, wl_86, wl_87, wl_88, wl_89, wl_90, wl_91, wl_92, wl_93, wl_94, wl_95, wl_96, wl_97, wl_98, wl_99, wl_100, wl_101, wl_102, wl_103, wl_104, wl_105, wl_106, wl_107, wl_108, wl_109, wl_110, wl_111, wl_112, wl_113, wl_114, wl_115, wl_116, wl_117, wl_118, wl_119, wl_120, wl_121, wl_122, wl_123, wl_124, wl_125, wl_126, wl_127, wl_128, wl_129, wl_130, wl_159, wl_160, wl_200, wl_232, wl_255, wl_256, wl_300, wl_359, wl_360, wl_400, wl_592, wl_992, wl_999, wl_1000, wl_1024, wl_3456, wl_6512, wl_7104, wl_10000, wl_11264, wl_12345, wl_32767, wl_1000000000, wl_1103515245, wl_2000000000, w_add, w_sub, w_mul, w_neg, w_lt, w_le, w_eq, w_cl, w_in, w_nat, w_max2, w_min2, w_abs2, iltT, iltF, ileT, ileF, ieqT, ieqF, bv_01, bft, bv_0, bv_1, bv_t, bv_f, cond_true, cond_false, Bool.not_true, Bool.not_false, if_true, if_false, true_or, or_true, true_and, and_true, ↓reduceIte, decide_true, decide_false, reduceCtorEq, u2_s, u2_o, u2_k, u2_u2]
    cases hg : gOver a b s x y with
    | false => rfl
    | true => have := gOver_u (by omega) (by omega) (by omega) hg; omega
  · by_cases c2 : b < 2 * (y.natAbs : Int) + s
    · simp (disch := first | assumption | omega | (simp (disch := omega) only [vM_u]; assumption)) only [hK, hL, hR, hI, hN, sI, hSp, hC, hW, li, lr, ↓cnd_a, ↓cnd_o, ↓cnd_n, ↓cnd_d, ↓z0, ↓z1, ↓z2, y0n, y1i, y2r, y0e, y1e, y2e, wl_0, wl_1, wl_2, wl_3, wl_4, wl_5, wl_6, wl_7, wl_8, wl_9, wl_10, wl_11, wl_12, wl_13, wl_14, wl_15, wl_16, wl_17, wl_18, wl_19, wl_20, wl_21, wl_22, wl_23, wl_24, wl_25, wl_26, wl_27, wl_28, wl_29, wl_30, wl_31, wl_32, wl_33, wl_34, wl_35, wl_36, wl_37, wl_38, wl_39, wl_40, wl_41, wl_42, wl_43, wl_44, wl_45, wl_46, wl_47, wl_48, wl_49, wl_50, wl_51, wl_52, wl_53, wl_54, wl_55, wl_56, wl_57, wl_58, wl_59, wl_60, wl_61, wl_62, wl_63, wl_64, wl_65, wl_66, wl_67, wl_68, wl_69, wl_70, wl_71, wl_72, wl_73, wl_74, wl_75, wl_76, wl_77, wl_78, wl_79, wl_80, wl_81, wl_82, wl_83, wl_84, wl_85, wl_86, wl_87, wl_88, wl_89, wl_90, wl_91, wl_92, wl_93, wl_94, wl_95, wl_96, wl_97, wl_98, wl_99, wl_100, wl_101, wl_102, wl_103, wl_104, wl_105, wl_106, wl_107, wl_108, wl_109, wl_110, wl_111, wl_112, wl_113, wl_114, wl_115, wl_116, wl_117, wl_118, wl_119, wl_120, wl_121, wl_122, wl_123, wl_124, wl_125, wl_126, wl_127, wl_128, wl_129, wl_130, wl_159, wl_160, wl_200, wl_232, wl_255, wl_256, wl_300, wl_359, wl_360, wl_400, wl_592, wl_992, wl_999, wl_1000, wl_1024, wl_3456, wl_6512, wl_7104, wl_10000, wl_11264, wl_12345, wl_32767, wl_1000000000, wl_1103515245, wl_2000000000, w_add, w_sub, w_mul, w_neg, w_lt, w_le, w_eq, w_cl, w_in, w_nat, w_max2, w_min2, w_abs2, iltT, iltF, ileT, ileF, ieqT, ieqF, bv_01, bft, bv_0, bv_1, bv_t, bv_f, cond_true, cond_false, Bool.not_true, Bool.not_false, if_true, if_false, true_or, or_true, true_and, and_true, ↓reduceIte, decide_true, decide_false, reduceCtorEq, u2_s, u2_o, u2_k, u2_u2]
      cases hg : gOver a b s x y with
      | false => rfl
      | true => have := gOver_u (by omega) (by omega) (by omega) hg; omega
    · have hu : 0 ≤ 2 * (x.natAbs : Int) + s ∧ 2 * (x.natAbs : Int) + s ≤ 15 := by omega
      have hv : 0 ≤ 2 * (y.natAbs : Int) + s ∧ 2 * (y.natAbs : Int) + s ≤ 15 := by omega
      have h1 := mul_bd (mul_bd (mul_bd hu hu) hb) hb
      have h2 := mul_bd (mul_bd (mul_bd hv hv) ha) ha
      have h3 := mul_bd (mul_bd (mul_bd ha ha) hb) hb
      simp (disch := first | assumption | omega | (simp (disch := omega) only [vM_u]; assumption)) only [hK, hL, hR, hI, hN, sI, hSp, hC, hW, li, lr, ↓cnd_a, ↓cnd_o, ↓cnd_n, ↓cnd_d, ↓z0, ↓z1, ↓z2, y0n, y1i, y2r, y0e, y1e, y2e, wl_0, wl_1, wl_2, wl_3, wl_4, wl_5, wl_6, wl_7, wl_8, wl_9, wl_10, wl_11, wl_12, wl_13, wl_14, wl_15, wl_16, wl_17, wl_18, wl_19, wl_20, wl_21, wl_22, wl_23, wl_24, wl_25, wl_26, wl_27, wl_28, wl_29, wl_30, wl_31, wl_32, wl_33, wl_34, wl_35, wl_36, wl_37, wl_38, wl_39, wl_40, wl_41, wl_42, wl_43, wl_44, wl_45, wl_46, wl_47, wl_48, wl_49, wl_50, wl_51, wl_52, wl_53, wl_54, wl_55, wl_56, wl_57, wl_58, wl_59, wl_60, wl_61, wl_62, wl_63, wl_64, wl_65, wl_66, wl_67, wl_68, wl_69, wl_70, wl_71, wl_72, wl_73, wl_74, wl_75, wl_76, wl_77, wl_78, wl_79, wl_80, wl_81, wl_82, wl_83, wl_84, wl_85, wl_86, wl_87, wl_88, wl_89, wl_90, wl_91, wl_92, wl_93, wl_94, wl_95, wl_96, wl_97, wl_98, wl_99, wl_100, wl_101, wl_102, wl_103, wl_104, wl_105, wl_106, wl_107, wl_108, wl_109, wl_110, wl_111, wl_112, wl_113, wl_114, wl_115, wl_116, wl_117, wl_118, wl_119, wl_120, wl_121, wl_122, wl_123, wl_124, wl_125, wl_126, wl_127, wl_128, wl_129, wl_130, wl_159, wl_160, wl_200, wl_232, wl_255, wl_256, wl_300, wl_359, wl_360, wl_400, wl_592, wl_992, wl_999, wl_1000, wl_1024, wl_3456, wl_6512, wl_7104, wl_10000, wl_11264, wl_12345, wl_32767, wl_1000000000, wl_1103515245, wl_2000000000, w_add, w_sub, w_mul, w_neg, w_lt, w_le, w_eq, w_cl, w_in, w_nat, w_max2, w_min2, w_abs2, iltT, iltF, ileT, ileF, ieqT, ieqF, bv_01, bft, bv_0, bv_1, bv_t, bv_f, cond_true, cond_false, Bool.not_true, Bool.not_false, if_true, if_false, true_or, or_true, true_and, and_true, ↓reduceIte, decide_true, decide_false, reduceCtorEq, u2_s, u2_o, u2_k, u2_u2]
      unfold gOver
      rw [← Int.mul_assoc, ← Int.mul_assoc, ← Int.mul_assoc (a * a)]
      split
      · rw [decide_eq_false (by omega)]; rfl
      · rw [decide_eq_true (by omega)]; rfl
theorem sp_109 {d : Nat} {σ : HS} {a b s x y : Int} (h : (1 ≤ a ∧ a ≤ 15) ∧ (1 ≤ b ∧ b ≤ 15) ∧ (0 ≤ s ∧ s ≤ 9) ∧ (-100000 ≤ x ∧ x ≤ 100000) ∧ -100000 ≤ y ∧ y ≤ 100000) : ev PR (d + 1) 109 [.int (w a), .int (w b), .int (w s), .int (w x), .int (w y)] σ = some (.inl (some (.int (bv (gTch a b s x y)))), σ) := by
  rw [eq_109]
  simp (disch := first | assumption | omega | (simp (disch := omega) only [vM_u]; assumption)) only [hK, hL, hR, hI, hN, sI, hSp, hC, hW, li, lr, ↓cnd_a, ↓cnd_o, ↓cnd_n, ↓cnd_d, ↓z0, ↓z1, ↓z2, y0n, y1i, y2r, y0e, y1e, y2e, wl_0, wl_1, wl_2, wl_3, wl_4, wl_5, wl_6, wl_7, wl_8, wl_9, wl_10, wl_11, wl_12, wl_13, wl_14, wl_15, wl_16, wl_17, wl_18, wl_19, wl_20, wl_21, wl_22, wl_23, wl_24, wl_25, wl_26, wl_27, wl_28, wl_29, wl_30, wl_31, wl_32, wl_33, wl_34, wl_35, wl_36, wl_37, wl_38, wl_39, wl_40, wl_41, wl_42, wl_43, wl_44, wl_45, wl_46, wl_47, wl_48, wl_49, wl_50, wl_51, wl_52, wl_53, wl_54, wl_55, wl_56, wl_57, wl_58, wl_59, wl_60, wl_61, wl_62, wl_63, wl_64, wl_65, wl_66, wl_67, wl_68, wl_69, wl_70, wl_71, wl_72, wl_73, wl_74, wl_75, wl_76, wl_77, wl_78, wl_79, wl_80, wl_81, wl_82, wl_83, wl_84, wl_85, wl_86, wl_87, wl_88, wl_89, wl_90, wl_91, wl_92, wl_93, wl_94, wl_95, wl_96, wl_97, wl_98, wl_99, wl_100, wl_101, wl_102, wl_103, wl_104, wl_105, wl_106, wl_107, wl_108, wl_109, wl_110, wl_111, wl_112, wl_113, wl_114, wl_115, wl_116, wl_117, wl_118, wl_119, wl_120, wl_121, wl_122, wl_123, wl_124, wl_125, wl_126, wl_127, wl_128, wl_129, wl_130, wl_159, wl_160, wl_200, wl_232, wl_255, wl_256, wl_300, wl_359, wl_360, wl_400, wl_592, wl_992, wl_999, wl_1000, wl_1024, wl_3456, wl_6512, wl_7104, wl_10000, wl_11264, wl_12345, wl_32767, wl_1000000000, wl_1103515245, wl_2000000000, w_add, w_sub, w_mul, w_neg, w_lt, w_le, w_eq, w_cl, w_in, w_nat, w_max2, w_min2, w_abs2, iltT, iltF, ileT, ileF, ieqT, ieqF, bv_01, bft, bv_0, bv_1, bv_t, bv_f, cond_true, cond_false, Bool.not_true, Bool.not_false, if_true, if_false, true_or, or_true, true_and, and_true, ↓reduceIte, decide_true, decide_false, reduceCtorEq, u2_s, u2_o, u2_k, u2_u2]
  unfold gTch
  split
  · rw [decide_eq_false (by omega)]; rfl
  · rw [decide_eq_true (by omega)]
    split
    · rw [decide_eq_false (by omega)]; rfl
    · rw [decide_eq_true (by omega)]; rfl
theorem al_r {m : Int → Int} (hB : BD m) {h b : Int} (hh : 0 ≤ h ∧ h < m 4) (hb : 0 ≤ b) : (1 ≤ alX m h b ∧ alX m h b ≤ 15) ∧ 1 ≤ alY m h b ∧ alY m h b ≤ 15 := by
  obtain ⟨h3, h4, h5, h6, h7, h8, h9, h13, h14, hbk, hhp, hpp⟩ := id hB
  have hq := hhp h hh.1 hh.2
  unfold alX alY
  omega
theorem sp_106 {d q : Nat} {h b : Int} (hS : SHq K L R q) (hW : Wd I q) (hB : BD (vS I q)) (hh : 0 ≤ h ∧ h < vS I q 4) (hb : 0 ≤ b ∧ b ≤ 1000) : ev PR (d + 2) 106 [.ref q, .int (w h), .int (w b)] (((vn, vc, vw, K, L, R), I, J) : HS) = some (.inl (some (.int (w (alX (vS I q) h b)))), (((vn, vc, vw, K, L, R), I, J) : HS)) := by
  have h4 := hB.2.1
  have hq := hB.2.2.2.2.2.2.2.2.2.2.1 h hh.1 hh.2
  rw [eq_106]
  simp (disch := first | assumption | omega | (simp (disch := omega) only [vM_u]; assumption)) only [hK, hL, hR, hI, hN, sI, hSp, hC, hW, li, lr, ↓cnd_a, ↓cnd_o, ↓cnd_n, ↓cnd_d, ↓z0, ↓z1, ↓z2, y0n, y1i, y2r, y0e, y1e, y2e, wl_0, wl_1, wl_2, wl_3, wl_4, wl_5, wl_6, wl_7, wl_8, wl_9, wl_10, wl_11, wl_12, wl_13, wl_14, wl_15, wl_16, wl_17, wl_18, wl_19, wl_20, wl_21, wl_22, wl_23, wl_24, wl_25, wl_26, wl_27, wl_28, wl_29, wl_30, wl_31, wl_32, wl_33, wl_34, wl_35, wl_36, wl_37, wl_38, wl_39, wl_40, wl_41, wl_42, wl_43, wl_44, wl_45, wl_46, wl_47, wl_48, wl_49, wl_50, wl_51, wl_52, wl_53, wl_54, wl_55, wl_56, wl_57, wl_58, wl_59, wl_60, wl_61, wl_62, wl_63, wl_64, wl_65, wl_66, wl_67, wl_68, wl_69, wl_70, wl_71, wl_72, wl_73, wl_74, wl_75, wl_76, wl_77, wl_78, wl_79, wl_80, wl_81, wl_82, wl_83, wl_84, wl_85, wl_86, wl_87, wl_88, wl_89, wl_90, wl_91, wl_92, wl_93, wl_94, wl_95, wl_96, wl_97, wl_98, wl_99, wl_100, wl_101, wl_102, wl_103, wl_104, wl_105, wl_106, wl_107, wl_108, wl_109, wl_110, wl_111, wl_112, wl_113, wl_114, wl_115, wl_116, wl_117, wl_118, wl_119, wl_120, wl_121, wl_122, wl_123, wl_124, wl_125, wl_126, wl_127, wl_128, wl_129, wl_130, wl_159, wl_160, wl_200, wl_232, wl_255, wl_256, wl_300, wl_359, wl_360, wl_400, wl_592, wl_992, wl_999, wl_1000, wl_1024, wl_3456, wl_6512, wl_7104, wl_10000, wl_11264, wl_12345, wl_32767, wl_1000000000, wl_1103515245, wl_2000000000, w_add, w_sub, w_mul, w_neg, w_lt, w_le, w_eq, w_cl, w_in, w_nat, w_max2, w_min2, w_abs2, iltT, iltF, ileT, ileF, ieqT, ieqF, bv_01, bft, bv_0, bv_1, bv_t, bv_f, cond_true, cond_false, Bool.not_true, Bool.not_false, if_true, if_false, true_or, or_true, true_and, and_true, ↓reduceIte, decide_true, decide_false, reduceCtorEq, u2_s, u2_o, u2_k, u2_u2, SHq_e hS, sp_96h]
  rfl
theorem sp_107 {d q : Nat} {h b : Int} (hS : SHq K L R q) (hW : Wd I q) (hB : BD (vS I q)) (hh : 0 ≤ h ∧ h < vS I q 4) (hb : 0 ≤ b ∧ b ≤ 1000) : ev PR (d + 2) 107 [.ref q, .int (w h), .int (w b)] (((vn, vc, vw, K, L, R), I, J) : HS) = some (.inl (some (.int (w (alY (vS I q) h b)))), (((vn, vc, vw, K, L, R), I, J) : HS)) := by
  have h4 := hB.2.1
  have hq := hB.2.2.2.2.2.2.2.2.2.2.1 h hh.1 hh.2
  rw [eq_107]
  simp (disch := first | assumption | omega | (simp (disch := omega) only [vM_u]; assumption)) only [hK, hL, hR, hI, hN, sI, hSp, hC, hW, li, lr, ↓cnd_a, ↓cnd_o, ↓cnd_n, ↓cnd_d, ↓z0, ↓z1, ↓z2, y0n, y1i, y2r, y0e, y1e, y2e, wl_0, wl_1, wl_2, wl_3, wl_4, wl_5, wl_6, wl_7, wl_8, wl_9, wl_10, wl_11, wl_12, wl_13, wl_14, wl_15, wl_16, wl_17, wl_18, wl_19, wl_20, wl_21, wl_22, wl_23, wl_24, wl_25, wl_26, wl_27, wl_28, wl_29, wl_30, wl_31, wl_32, wl_33, wl_34, wl_35, wl_36, wl_37, wl_38, wl_39, wl_40, wl_41, wl_42, wl_43, wl_44, wl_45, wl_46, wl_47, wl_48, wl_49, wl_50, wl_51, wl_52, wl_53, wl_54, wl_55, wl_56, wl_57, wl_58, wl_59, wl_60, wl_61, wl_62, wl_63, wl_64, wl_65, wl_66, wl_67, wl_68, wl_69, wl_70, wl_71, wl_72, wl_73, wl_74, wl_75, wl_76, wl_77, wl_78, wl_79, wl_80, wl_81, wl_82, wl_83, wl_84, wl_85, wl_86, wl_87, wl_88, wl_89, wl_90, wl_91, wl_92, wl_93, wl_94, wl_95, wl_96, wl_97, wl_98, wl_99, wl_100, wl_101, wl_102, wl_103, wl_104, wl_105, wl_106, wl_107, wl_108, wl_109, wl_110, wl_111, wl_112, wl_113, wl_114, wl_115, wl_116, wl_117, wl_118, wl_119, wl_120, wl_121, wl_122, wl_123, wl_124, wl_125, wl_126, wl_127, wl_128, wl_129, wl_130, wl_159, wl_160, wl_200, wl_232, wl_255, wl_256, wl_300, wl_359, wl_360, wl_400, wl_592, wl_992, wl_999, wl_1000, wl_1024, wl_3456, wl_6512, wl_7104, wl_10000, wl_11264, wl_12345, wl_32767, wl_1000000000, wl_1103515245, wl_2000000000, w_add, w_sub, w_mul, w_neg, w_lt, w_le, w_eq, w_cl, w_in, w_nat, w_max2, w_min2, w_abs2, iltT, iltF, ileT, ileF, ieqT, ieqF, bv_01, bft, bv_0, bv_1, bv_t, bv_f, cond_true, cond_false, Bool.not_true, Bool.not_false, if_true, if_false, true_or, or_true, true_and, and_true, ↓reduceIte, decide_true, decide_false, reduceCtorEq, u2_s, u2_o, u2_k, u2_u2, SHq_e hS, sp_96h]
  rfl
/-- the heeded blocks lie at q -/
def Hd (I : Nat → Nat → Int32) (q : Nat) (l : List Int) : Prop := I q 6 = w l.length ∧ ∀ i : Nat, i < l.length → I (q + 11) i = w (l.getD i 0)
/-- what a query on a stall may change there -/
def Fq (q : Nat) (I I' : Nat → Nat → Int32) : Prop := ∀ a k, a ≠ q + 11 → (a = q → k < 6 ∨ 9 < k) → I' a k = I a k
theorem Fq_vS {q : Nat} {I I' : Nat → Nat → Int32} (h : Fq q I I') : vS I' q = vS I q := by
  have e : ∀ a b, (q < a ∧ a ≤ q + 10) → I' a b = I a b := fun a b hab => h a b (by omega) (by omega)
  have e2 : ∀ b, 9 < b → I' q b = I q b := fun b hb => h q b (by omega) (by omega)
  funext z
  unfold vS
  rw [e (q + 1) 2 (by omega), e (q + 3) 2 (by omega), e (q + 5) 2 (by omega), e (q + 7) 2 (by omega), e (q + 9) 2 (by omega), e2 11 (by omega), e2 18 (by omega), e (q + 2) _ (by omega), e (q + 4) _ (by omega), e (q + 6) _ (by omega), e (q + 8) _ (by omega), e (q + 10) _ (by omega)]
  by_cases c : 6 ≤ z ∧ z ≤ 11
  · rw [e2 (ix (z + 6)) (by unfold ix; omega)]
  · simp only [if_neg c]
theorem Fq_Wd {q : Nat} {I I' : Nat → Nat → Int32} (h : Fq q I I') (hW : Wd I q) : Wd I' q := by
  obtain ⟨h1, h2, h3, h4, h5⟩ := hW
  exact ⟨(h _ _ (by omega) (by omega)).trans h1, (h _ _ (by omega) (by omega)).trans h2, (h _ _ (by omega) (by omega)).trans h3, (h _ _ (by omega) (by omega)).trans h4, (h _ _ (by omega) (by omega)).trans h5⟩
theorem Fq_rf {q : Nat} {I : Nat → Nat → Int32} : Fq q I I := fun _ _ _ _ => rfl
theorem Fq_tr {q : Nat} {I I' I'' : Nat → Nat → Int32} (h : Fq q I I') (h2 : Fq q I' I'') : Fq q I I'' := fun a k h3 h4 => (h2 a k h3 h4).trans (h a k h3 h4)
theorem sp_114 {d q : Nat} {l : List Int} {i : Int} (hS : SHq K L R q) (hH : Hd I q l) (hl : l.length ≤ 10) (hi : 0 ≤ i ∧ i < l.length) : ev PR (d + 1) 114 [.ref q, .int (w i)] (((vn, vc, vw, K, L, R), I, J) : HS) = some (.inl (some (.int (w (l.getD (ix i) 0)))), (((vn, vc, vw, K, L, R), I, J) : HS)) := by
  have h2 := hH.2 (ix i) (by unfold ix; omega)
  rw [eq_114]
  simp (disch := first | assumption | omega | (simp (disch := omega) only [vM_u]; assumption)) only [hK, hL, hR, hI, hN, sI, hSp, hC, hW, li, lr, ↓cnd_a, ↓cnd_o, ↓cnd_n, ↓cnd_d, ↓z0, ↓z1, ↓z2, y0n, y1i, y2r, y0e, y1e, y2e, wl_0, wl_1, wl_2, wl_3, wl_4, wl_5, wl_6, wl_7, wl_8, wl_9, wl_10, wl_11, wl_12, wl_13, wl_14, wl_15, wl_16, wl_17, wl_18, wl_19, wl_20, wl_21, wl_22, wl_23, wl_24, wl_25, wl_26, wl_27, wl_28, wl_29, wl_30, wl_31, wl_32, wl_33, wl_34, wl_35, wl_36, wl_37, wl_38, wl_39, wl_40, wl_41, wl_42, wl_43, wl_44, wl_45, wl_46, wl_47, wl_48, wl_49, wl_50, wl_51, wl_52, wl_53, wl_54, wl_55, wl_56, wl_57, wl_58, wl_59, wl_60, wl_61, wl_62, wl_63, wl_64, wl_65, wl_66, wl_67, wl_68, wl_69, wl_70, wl_71, wl_72, wl_73, wl_74, wl_75, wl_76, wl_77, wl_78, wl_79, wl_80, wl_81, wl_82, wl_83, wl_84, wl_85, wl_86, wl_87, wl_88, wl_89, wl_90, wl_91, wl_92, wl_93, wl_94, wl_95, wl_96, wl_97, wl_98, wl_99, wl_100, wl_101, wl_102, wl_103, wl_104, wl_105, wl_106, wl_107, wl_108, wl_109, wl_110, wl_111, wl_112, wl_113, wl_114, wl_115, wl_116, wl_117, wl_118, wl_119, wl_120, wl_121, wl_122, wl_123, wl_124, wl_125, wl_126, wl_127, wl_128, wl_129, wl_130, wl_159, wl_160, wl_200, wl_232, wl_255, wl_256, wl_300, wl_359, wl_360, wl_400, wl_592, wl_992, wl_999, wl_1000, wl_1024, wl_3456, wl_6512, wl_7104, wl_10000, wl_11264, wl_12345, wl_32767, wl_1000000000, wl_1103515245, wl_2000000000, w_add, w_sub, w_mul, w_neg, w_lt, w_le, w_eq, w_cl, w_in, w_nat, w_max2, w_min2, w_abs2, iltT, iltF, ileT, ileF, ieqT, ieqF, bv_01, bft, bv_0, bv_1, bv_t, bv_f, cond_true, cond_false, Bool.not_true, Bool.not_false, if_true, if_false, true_or, or_true, true_and, and_true, ↓reduceIte, decide_true, decide_false, reduceCtorEq, u2_s, u2_o, u2_k, u2_u2, SHq_e hS, hH.1, h2]
def P113 (m : Int → Int) (a b x y p : Int) (k : Int) : Bool := gTch a b (bl m k 2) (max 0 ((x - bl m k 0).natAbs - p)) (if 0 < y - p - bl m k 1 then y - p - bl m k 1 else if y + p + m 7 - bl m k 1 < 0 then -(y + p + m 7 - bl m k 1) else 0)
def C113 (m : Int → Int) (a b x y p : Int) (k : Int) : Bool := P113 m a b x y p k && (decide (2 * max 0 (((x - bl m k 0).natAbs : Int) - p) + bl m k 2 ≤ a) && decide (2 * (if 0 < y - p - bl m k 1 then y - p - bl m k 1 else if y + p + m 7 - bl m k 1 < 0 then -(y + p + m 7 - bl m k 1) else 0) + bl m k 2 ≤ b))
end GX2
