/-! the class's tape: its tokens -/
section TKS
variable {vn vc vw : Nat} {K L : Nat → Nat} {R : Nat → Nat → Nat} {I : Nat → Nat → Int32} {J : Nat → Nat → Int64}
def tkd (T : Int → Int) (q : Int) : Int := if isL (T q) = true then 1 else if isN (T q) = true then 2 else 3
def tvl (T : Int → Int) (e q : Int) : Int := if isL (T q) = true then lw T e q - q else if isN (T q) = true then (dv2 T e q).2 else T q
def tend (T : Int → Int) (e q : Int) : Int := if isL (T q) = true then lw T e q else if isN (T q) = true then dw T e q else q + 1
def TkE (I : Nat → Nat → Int32) (T : Int → Int) (e : Int) (tb : Int → Int) (i : Int) : Prop := (i ≤ tb i ∧ tb i < e) ∧ T (tb i) ≠ 32 ∧ tb (i + 1) = sk T e (tend T e (tb i)) ∧ I 84 (ix i) = w (tkd T (tb i)) ∧ I 85 (ix i) = w (tb i) ∧ I 86 (ix i) = w (tvl T e (tb i))
def TkI (I : Nat → Nat → Int32) (T : Int → Int) (e n : Int) (tb : Int → Int) : Prop := I 82 5 = w n ∧ (0 ≤ n ∧ n ≤ 400) ∧ tb 0 = sk T e 0 ∧ tb n = e ∧ ∀ i, 0 ≤ i → i < n → TkE I T e tb i
theorem lw_lt {T : Int → Int} {e q : Int} (hq : q < e) (hl : isL (T q) = true) : q < lw T e q := by
  have e3 : (e - q).toNat = (e - (q + 1)).toNat + 1 := by omega
  have := lwN_r T (e - (q + 1)).toNat (q + 1)
  show q < lwN T q (e - q).toNat
  rw [e3, lwN, if_pos (isL_d.mp hl)]
  omega
theorem dw_lt {T : Int → Int} {e q : Int} (hq : q < e) (hl : isN (T q) = true) : q < dw T e q := by
  have e3 : (e - q).toNat = (e - (q + 1)).toNat + 1 := by omega
  have := dwN_r T (e - (q + 1)).toNat (q + 1)
  show q < dwN T q (e - q).toNat
  rw [e3, dwN, if_pos hl]
  omega
theorem tend_r {T : Int → Int} {e q : Int} (hq : q < e) : q < tend T e q ∧ tend T e q ≤ e := by
  unfold tend
  by_cases c : isL (T q) = true
  · rw [if_pos c]
    have := lw_r T e q
    have := lw_lt hq c
    omega
  · rw [if_neg c]
    by_cases c2 : isN (T q) = true
    · rw [if_pos c2]
      have := dw_lt hq c2
      have h : dw T e q = dwN T q (e - q).toNat := rfl
      have := dwN_r T (e - q).toNat q
      omega
    · rw [if_neg c2]; omega
theorem sk_sp {T : Int → Int} {e p : Int} (hp : p < e) (h : T p = 32) : sk T e p = sk T e (p + 1) := by
  have e3 : (e - p).toNat = (e - (p + 1)).toNat + 1 := by omega
  show skN T p (e - p).toNat = skN T (p + 1) (e - (p + 1)).toNat
  rw [e3, skN, if_pos h]
theorem sk_ns {T : Int → Int} {e p : Int} (h : T p ≠ 32) : sk T e p = p := by
  show skN T p (e - p).toNat = p
  cases (e - p).toNat with
  | zero => rfl
  | succ n => rw [skN, if_neg h]
/-- what the splitting leaves -/
def FTk (I I' : Nat → Nat → Int32) : Prop := ∀ a k, ¬(84 ≤ a ∧ a ≤ 86) → (a = 82 → k ≠ 5 ∧ k ≠ 6) → I' a k = I a k
/-- at a place a thing begins: what stands before it is of another sort -/
def tNw (T : Int → Int) (p : Int) : Prop := (isL (T p) = true → isL (tPv T p) = false) ∧ (isN (T p) = true → isN (tPv T p) = false)
theorem isL_N {z : Int} (h : isL z = true) : isN z = false := by
  cases c : isN z with
  | false => rfl
  | true =>
    have h1 := isL_d.mp h
    have h2 := isN_d.mp c
    omega
theorem tPv_s (T : Int → Int) {p : Int} (h : 0 ≤ p) : tPv T (p + 1) = T p := by
  unfold tPv
  rw [if_neg (by omega), show p + 1 - 1 = p by omega]
theorem lp_141w {d : Nat} {T : Int → Int} {e q c : Int} (hX : XSH K L R) (hT : Tp I T e) (hc : 0 ≤ c ∧ c < 400) (hq : 0 ≤ q) : ∀ (n : Nat) (p : Int), q < p → p ≤ e → (e - p).toNat = n → isL (tPv T p) = true → atv PR (d + 4) cd_141 8 [.ref 82, .int (w p)] [] (((vn, vc, vw, K, L, R), putI I c 1 q (p - q), J) : HS) = atv PR (d + 4) cd_141 8 [.ref 82, .int (w (lwN T p n))] [] (((vn, vc, vw, K, L, R), putI I c 1 q (lwN T p n - q), J) : HS) := by
  intro n
  induction n with
  | zero => intro p h1 h2 h3 h4; rfl
  | succ n ih =>
    intro p h1 h2 h3 h4
    unfold lwN
    by_cases c1 : isL (T p) = true
    · have hT' := putI_T c 1 q (p - q) hT
      have t1 := hT'.1
      have t2 := hT'.2.1
      have hb := hT.2.2.1 p (by omega) (by omega)
      have ha : tAt T e p = T p := by unfold tAt; rw [if_pos (by omega)]
      have g := sp_142b (d := d + 2) (vn := vn) (vc := vc) (vw := vw) (J := J) (b := q) (v := p - q) hX hT hc (by omega : 0 ≤ p ∧ p < e) h4
      have ih1 := ih (p + 1) (by omega) (by omega) (by omega) (by rw [tPv_s T (by omega)]; exact c1)
      rw [if_pos (isL_d.mp c1), ← ih1, eq_141_8, show p + 1 - q = p - q + 1 by omega]
      simp (disch := first | assumption | omega | (simp (disch := omega) only [vM_u, vS_u]; first | assumption | omega)) only [hK, hL, hR, hI, hN, sI, hSp, hC, hW, li, lr, ↓cnd_a, ↓cnd_o, ↓cnd_n, ↓cnd_d, ↓z0, ↓z1, ↓z2, y0n, y1i, y2r, y0e, y1e, y2e, wl_0, wl_1, wl_2, wl_3, wl_4, wl_5, wl_6, wl_7, wl_8, wl_9, wl_10, wl_11, wl_12, wl_13, wl_14, wl_15, wl_16, wl_17, wl_18, wl_19, wl_20, wl_21, wl_22, wl_23, wl_24, wl_25, wl_26, wl_27, wl_28, wl_29, wl_30, wl_31, wl_32, wl_33, wl_34, wl_35, wl_36, wl_37, wl_38, wl_39, wl_40, wl_41, wl_42, wl_43, wl_44, wl_45, wl_46, wl_47, wl_48, wl_49, wl_50, wl_51, wl_52, wl_53, wl_54, wl_55, wl_56, wl_57, wl_58, wl_59, wl_60, wl_61, wl_62, wl_63, wl_64, wl_65, wl_66, wl_67, wl_68, wl_69, wl_70, wl_71, wl_72, wl_73, wl_74, wl_75, wl_76, wl_77, wl_78, wl_79, wl_80, wl_81, wl_82, wl_83, wl_84, wl_85, wl_86, wl_87, wl_88, wl_89, wl_90, wl_91, wl_92, wl_93, wl_94, wl_95, wl_96, wl_97, wl_98, wl_99, wl_100, wl_101, wl_102, wl_103, wl_104, wl_105, wl_106, wl_107, wl_108, wl_109, wl_110, wl_111, wl_112, wl_113, wl_114, wl_115, wl_116, wl_117, wl_118, wl_119, wl_120, wl_121, wl_122, wl_123, wl_124, wl_125, wl_126, wl_127, wl_128, wl_129, wl_130, wl_159, wl_160, wl_200, wl_232, wl_255, wl_256, wl_300, wl_359, wl_360, wl_400, wl_592, wl_992, wl_999, wl_1000, wl_1024, wl_3456, wl_6512, wl_7104, wl_10000, wl_11264, wl_12345, wl_32767, wl_1000000000, wl_1103515245, wl_2000000000, w_add, w_sub, w_mul, w_neg, w_lt, w_le, w_eq, w_cl, w_in, w_nat, w_max2, w_min2, w_abs2, iltT, iltF, ileT, ileF, ieqT, ieqF, bv_01, bft, bv_0, bv_1, bv_t, bv_f, cond_true, cond_false, Bool.not_true, Bool.not_false, if_true, if_false, true_or, or_true, true_and, and_true, ↓reduceIte, decide_true, decide_false, reduceCtorEq, u2_s, u2_o, u2_k, u2_u2, Bool.true_or, Bool.or_true, Bool.false_or, Bool.or_false, Bool.and_true, Bool.true_and, Bool.and_false, Bool.false_and, eq_self, not_true_eq_false, not_false_eq_true, and_self, and_true, true_and, false_and, and_false, w_dv, dvm, XSH_e hX, t1, sp_140 hX hT', ha, sp_147, c1, g]
    · rw [if_neg (fun x => c1 (isL_d.mpr x))]
theorem lp_141n {d : Nat} {T : Int → Int} {e q c : Int} (hX : XSH K L R) (hT : Tp I T e) (hc : 0 ≤ c ∧ c < 400) (hq : 0 ≤ q) : ∀ (n : Nat) (p v : Int), q < p → p ≤ e → (e - p).toNat = n → isN (tPv T p) = true → atv PR (d + 4) cd_141 8 [.ref 82, .int (w p)] [] (((vn, vc, vw, K, L, R), putI I c 2 q v, J) : HS) = atv PR (d + 4) cd_141 8 [.ref 82, .int (w (dwN T p n))] [] (((vn, vc, vw, K, L, R), putI I c 2 q (dvN T q p v n).2, J) : HS) := by
  intro n
  induction n with
  | zero => intro p v h1 h2 h3 h4; rfl
  | succ n ih =>
    intro p v h1 h2 h3 h4
    unfold dwN dvN
    by_cases c1 : isN (T p) = true
    · have hT' := putI_T c 2 q v hT
      have t1 := hT'.1
      have t2 := hT'.2.1
      have hb := hT.2.2.1 p (by omega) (by omega)
      have ha : tAt T e p = T p := by unfold tAt; rw [if_pos (by omega)]
      have hl : isL (T p) = false := by
        cases c2 : isL (T p) with
        | false => rfl
        | true => rw [isL_N c2] at c1; exact absurd c1 (by decide)
      have g := sp_143b (d := d + 2) (vn := vn) (vc := vc) (vw := vw) (J := J) (b := q) (v := v) hX hT hc (by omega : 0 ≤ p ∧ p < e) (by omega) h4
      have h4' : isN (tPv T (p + 1)) = true := by rw [tPv_s T (by omega)]; exact c1
      rw [if_pos c1, if_pos c1]
      by_cases c3 : 3 ≤ p - q
      · have ih1 := ih (p + 1) (-1) (by omega) (by omega) (by omega) h4'
        rw [if_pos c3] at g
        rw [if_pos c3, ← ih1, eq_141_8]
        simp (disch := first | assumption | omega | (simp (disch := omega) only [vM_u, vS_u]; first | assumption | omega)) only [hK, hL, hR, hI, hN, sI, hSp, hC, hW, li, lr, ↓cnd_a, ↓cnd_o, ↓cnd_n, ↓cnd_d, ↓z0, ↓z1, ↓z2, y0n, y1i, y2r, y0e, y1e, y2e, wl_0, wl_1, wl_2, wl_3, wl_4, wl_5, wl_6, wl_7, wl_8, wl_9, wl_10, wl_11, wl_12, wl_13, wl_14, wl_15, wl_16, wl_17, wl_18, wl_19, wl_20, wl_21, wl_22, wl_23, wl_24, wl_25, wl_26, wl_27, wl_28, wl_29, wl_30, wl_31, wl_32, wl_33, wl_34, wl_35, wl_36, wl_37, wl_38, wl_39, wl_40, wl_41, wl_42, wl_43, wl_44, wl_45, wl_46, wl_47, wl_48, wl_49, wl_50, wl_51, wl_52, wl_53, wl_54, wl_55, wl_56, wl_57, wl_58, wl_59, wl_60, wl_61, wl_62, wl_63, wl_64, wl_65, wl_66, wl_67, wl_68, wl_69, wl_70, wl_71, wl_72, wl_73, wl_74, wl_75, wl_76, wl_77, wl_78, wl_79, wl_80, wl_81, wl_82, wl_83, wl_84, wl_85, wl_86, wl_87, wl_88, wl_89, wl_90, wl_91, wl_92, wl_93, wl_94, wl_95, wl_96, wl_97, wl_98, wl_99, wl_100, wl_101, wl_102, wl_103, wl_104, wl_105, wl_106, wl_107, wl_108, wl_109, wl_110, wl_111, wl_112, wl_113, wl_114, wl_115, wl_116, wl_117, wl_118, wl_119, wl_120, wl_121, wl_122, wl_123, wl_124, wl_125, wl_126, wl_127, wl_128, wl_129, wl_130, wl_159, wl_160, wl_200, wl_232, wl_255, wl_256, wl_300, wl_359, wl_360, wl_400, wl_592, wl_992, wl_999, wl_1000, wl_1024, wl_3456, wl_6512, wl_7104, wl_10000, wl_11264, wl_12345, wl_32767, wl_1000000000, wl_1103515245, wl_2000000000, w_add, w_sub, w_mul, w_neg, w_lt, w_le, w_eq, w_cl, w_in, w_nat, w_max2, w_min2, w_abs2, iltT, iltF, ileT, ileF, ieqT, ieqF, bv_01, bft, bv_0, bv_1, bv_t, bv_f, cond_true, cond_false, Bool.not_true, Bool.not_false, if_true, if_false, true_or, or_true, true_and, and_true, ↓reduceIte, decide_true, decide_false, reduceCtorEq, u2_s, u2_o, u2_k, u2_u2, Bool.true_or, Bool.or_true, Bool.false_or, Bool.or_false, Bool.and_true, Bool.true_and, Bool.and_false, Bool.false_and, eq_self, not_true_eq_false, not_false_eq_true, and_self, and_true, true_and, false_and, and_false, w_dv, dvm, XSH_e hX, t1, sp_140 hX hT', ha, sp_147, sp_148, hl, c1, g]
      · have ih1 := ih (p + 1) (v * 10 + T p - 48) (by omega) (by omega) (by omega) h4'
        rw [if_neg c3] at g
        rw [if_neg c3, ← ih1, eq_141_8]
        simp (disch := first | assumption | omega | (simp (disch := omega) only [vM_u, vS_u]; first | assumption | omega)) only [hK, hL, hR, hI, hN, sI, hSp, hC, hW, li, lr, ↓cnd_a, ↓cnd_o, ↓cnd_n, ↓cnd_d, ↓z0, ↓z1, ↓z2, y0n, y1i, y2r, y0e, y1e, y2e, wl_0, wl_1, wl_2, wl_3, wl_4, wl_5, wl_6, wl_7, wl_8, wl_9, wl_10, wl_11, wl_12, wl_13, wl_14, wl_15, wl_16, wl_17, wl_18, wl_19, wl_20, wl_21, wl_22, wl_23, wl_24, wl_25, wl_26, wl_27, wl_28, wl_29, wl_30, wl_31, wl_32, wl_33, wl_34, wl_35, wl_36, wl_37, wl_38, wl_39, wl_40, wl_41, wl_42, wl_43, wl_44, wl_45, wl_46, wl_47, wl_48, wl_49, wl_50, wl_51, wl_52, wl_53, wl_54, wl_55, wl_56, wl_57, wl_58, wl_59, wl_60, wl_61, wl_62, wl_63, wl_64, wl_65, wl_66, wl_67, wl_68, wl_69, wl_70, wl_71, wl_72, wl_73, wl_74, wl_75, wl_76, wl_77, wl_78, wl_79, wl_80, wl_81, wl_82, wl_83, wl_84, wl_85, wl_86, wl_87, wl_88, wl_89, wl_90, wl_91, wl_92, wl_93, wl_94, wl_95, wl_96, wl_97, wl_98, wl_99, wl_100, wl_101, wl_102, wl_103, wl_104, wl_105, wl_106, wl_107, wl_108, wl_109, wl_110, wl_111, wl_112, wl_113, wl_114, wl_115, wl_116, wl_117, wl_118, wl_119, wl_120, wl_121, wl_122, wl_123, wl_124, wl_125, wl_126, wl_127, wl_128, wl_129, wl_130, wl_159, wl_160, wl_200, wl_232, wl_255, wl_256, wl_300, wl_359, wl_360, wl_400, wl_592, wl_992, wl_999, wl_1000, wl_1024, wl_3456, wl_6512, wl_7104, wl_10000, wl_11264, wl_12345, wl_32767, wl_1000000000, wl_1103515245, wl_2000000000, w_add, w_sub, w_mul, w_neg, w_lt, w_le, w_eq, w_cl, w_in, w_nat, w_max2, w_min2, w_abs2, iltT, iltF, ileT, ileF, ieqT, ieqF, bv_01, bft, bv_0, bv_1, bv_t, bv_f, cond_true, cond_false, Bool.not_true, Bool.not_false, if_true, if_false, true_or, or_true, true_and, and_true, ↓reduceIte, decide_true, decide_false, reduceCtorEq, u2_s, u2_o, u2_k, u2_u2, Bool.true_or, Bool.or_true, Bool.false_or, Bool.or_false, Bool.and_true, Bool.true_and, Bool.and_false, Bool.false_and, eq_self, not_true_eq_false, not_false_eq_true, and_self, and_true, true_and, false_and, and_false, w_dv, dvm, XSH_e hX, t1, sp_140 hX hT', ha, sp_147, sp_148, hl, c1, g]
    · rw [if_neg c1, if_neg c1]
theorem stp_141 {d : Nat} {T : Int → Int} {e p c : Int} (hX : XSH K L R) (hT : Tp I T e) (h5 : I 82 5 = w c) (hc : 0 ≤ c ∧ c < 400) (hp : 0 ≤ p ∧ p < e) (hn : T p ≠ 32) (hw : tNw T p) : atv PR (d + 4) cd_141 8 [.ref 82, .int (w p)] [] (((vn, vc, vw, K, L, R), I, J) : HS) = atv PR (d + 4) cd_141 8 [.ref 82, .int (w (tend T e p))] [] (((vn, vc, vw, K, L, R), putI I c (tkd T p) p (tvl T e p), J) : HS) := by
  have t1 := hT.1
  have t2 := hT.2.1
  have hb := hT.2.2.1 p hp.1 hp.2
  have ha : tAt T e p = T p := by unfold tAt; rw [if_pos hp.2]
  have e3 : (e - p).toNat = (e - (p + 1)).toNat + 1 := by omega
  have pv := tPv_s T hp.1
  unfold tend tkd tvl
  cases c1 : isL (T p) with
  | true =>
    have e2 : lw T e p = lwN T (p + 1) (e - (p + 1)).toNat := by
      show lwN T p (e - p).toNat = _
      rw [e3, lwN, if_pos (isL_d.mp c1)]
    have g := lp_141w (d := d) (vn := vn) (vc := vc) (vw := vw) (J := J) (q := p) hX hT hc hp.1 _ (p + 1) (by omega) (by omega) rfl (by rw [pv]; exact c1)
    rw [show p + 1 - p = 1 by omega] at g
    rw [if_pos rfl, if_pos rfl, if_pos rfl, e2, ← g, eq_141_8]
    simp (disch := first | assumption | omega | (simp (disch := omega) only [vM_u, vS_u]; first | assumption | omega)) only [hK, hL, hR, hI, hN, sI, hSp, hC, hW, li, lr, ↓cnd_a, ↓cnd_o, ↓cnd_n, ↓cnd_d, ↓z0, ↓z1, ↓z2, y0n, y1i, y2r, y0e, y1e, y2e, wl_0, wl_1, wl_2, wl_3, wl_4, wl_5, wl_6, wl_7, wl_8, wl_9, wl_10, wl_11, wl_12, wl_13, wl_14, wl_15, wl_16, wl_17, wl_18, wl_19, wl_20, wl_21, wl_22, wl_23, wl_24, wl_25, wl_26, wl_27, wl_28, wl_29, wl_30, wl_31, wl_32, wl_33, wl_34, wl_35, wl_36, wl_37, wl_38, wl_39, wl_40, wl_41, wl_42, wl_43, wl_44, wl_45, wl_46, wl_47, wl_48, wl_49, wl_50, wl_51, wl_52, wl_53, wl_54, wl_55, wl_56, wl_57, wl_58, wl_59, wl_60, wl_61, wl_62, wl_63, wl_64, wl_65, wl_66, wl_67, wl_68, wl_69, wl_70, wl_71, wl_72, wl_73, wl_74, wl_75, wl_76, wl_77, wl_78, wl_79, wl_80, wl_81, wl_82, wl_83, wl_84, wl_85, wl_86, wl_87, wl_88, wl_89, wl_90, wl_91, wl_92, wl_93, wl_94, wl_95, wl_96, wl_97, wl_98, wl_99, wl_100, wl_101, wl_102, wl_103, wl_104, wl_105, wl_106, wl_107, wl_108, wl_109, wl_110, wl_111, wl_112, wl_113, wl_114, wl_115, wl_116, wl_117, wl_118, wl_119, wl_120, wl_121, wl_122, wl_123, wl_124, wl_125, wl_126, wl_127, wl_128, wl_129, wl_130, wl_159, wl_160, wl_200, wl_232, wl_255, wl_256, wl_300, wl_359, wl_360, wl_400, wl_592, wl_992, wl_999, wl_1000, wl_1024, wl_3456, wl_6512, wl_7104, wl_10000, wl_11264, wl_12345, wl_32767, wl_1000000000, wl_1103515245, wl_2000000000, w_add, w_sub, w_mul, w_neg, w_lt, w_le, w_eq, w_cl, w_in, w_nat, w_max2, w_min2, w_abs2, iltT, iltF, ileT, ileF, ieqT, ieqF, bv_01, bft, bv_0, bv_1, bv_t, bv_f, cond_true, cond_false, Bool.not_true, Bool.not_false, if_true, if_false, true_or, or_true, true_and, and_true, ↓reduceIte, decide_true, decide_false, reduceCtorEq, u2_s, u2_o, u2_k, u2_u2, Bool.true_or, Bool.or_true, Bool.false_or, Bool.or_false, Bool.and_true, Bool.true_and, Bool.and_false, Bool.false_and, eq_self, not_true_eq_false, not_false_eq_true, and_self, and_true, true_and, false_and, and_false, w_dv, dvm, XSH_e hX, t1, sp_140 hX hT, ha, sp_147, c1, sp_142a hX hT h5 hc hp (hw.1 c1)]
  | false =>
    simp only [Bool.false_eq_true, if_false]
    cases c2 : isN (T p) with
    | true =>
      have e4 : dw T e p = dwN T (p + 1) (e - (p + 1)).toNat := by
        show dwN T p (e - p).toNat = _
        rw [e3, dwN, if_pos c2]
      have e5 : dv2 T e p = dvN T p (p + 1) (T p - 48) (e - (p + 1)).toNat := by
        show dvN T p p 0 (e - p).toNat = _
        rw [e3, dvN, if_pos c2, if_neg (by omega), show (0 : Int) * 10 + T p - 48 = T p - 48 by omega]
      have g := lp_141n (d := d) (vn := vn) (vc := vc) (vw := vw) (J := J) (q := p) hX hT hc hp.1 _ (p + 1) (T p - 48) (by omega) (by omega) rfl (by rw [pv]; exact c2)
      simp only [if_true]
      rw [e4, e5, ← g, eq_141_8]
      simp (disch := first | assumption | omega | (simp (disch := omega) only [vM_u, vS_u]; first | assumption | omega)) only [hK, hL, hR, hI, hN, sI, hSp, hC, hW, li, lr, ↓cnd_a, ↓cnd_o, ↓cnd_n, ↓cnd_d, ↓z0, ↓z1, ↓z2, y0n, y1i, y2r, y0e, y1e, y2e, wl_0, wl_1, wl_2, wl_3, wl_4, wl_5, wl_6, wl_7, wl_8, wl_9, wl_10, wl_11, wl_12, wl_13, wl_14, wl_15, wl_16, wl_17, wl_18, wl_19, wl_20, wl_21, wl_22, wl_23, wl_24, wl_25, wl_26, wl_27, wl_28, wl_29, wl_30, wl_31, wl_32, wl_33, wl_34, wl_35, wl_36, wl_37, wl_38, wl_39, wl_40, wl_41, wl_42, wl_43, wl_44, wl_45, wl_46, wl_47, wl_48, wl_49, wl_50, wl_51, wl_52, wl_53, wl_54, wl_55, wl_56, wl_57, wl_58, wl_59, wl_60, wl_61, wl_62, wl_63, wl_64, wl_65, wl_66, wl_67, wl_68, wl_69, wl_70, wl_71, wl_72, wl_73, wl_74, wl_75, wl_76, wl_77, wl_78, wl_79, wl_80, wl_81, wl_82, wl_83, wl_84, wl_85, wl_86, wl_87, wl_88, wl_89, wl_90, wl_91, wl_92, wl_93, wl_94, wl_95, wl_96, wl_97, wl_98, wl_99, wl_100, wl_101, wl_102, wl_103, wl_104, wl_105, wl_106, wl_107, wl_108, wl_109, wl_110, wl_111, wl_112, wl_113, wl_114, wl_115, wl_116, wl_117, wl_118, wl_119, wl_120, wl_121, wl_122, wl_123, wl_124, wl_125, wl_126, wl_127, wl_128, wl_129, wl_130, wl_159, wl_160, wl_200, wl_232, wl_255, wl_256, wl_300, wl_359, wl_360, wl_400, wl_592, wl_992, wl_999, wl_1000, wl_1024, wl_3456, wl_6512, wl_7104, wl_10000, wl_11264, wl_12345, wl_32767, wl_1000000000, wl_1103515245, wl_2000000000, w_add, w_sub, w_mul, w_neg, w_lt, w_le, w_eq, w_cl, w_in, w_nat, w_max2, w_min2, w_abs2, iltT, iltF, ileT, ileF, ieqT, ieqF, bv_01, bft, bv_0, bv_1, bv_t, bv_f, cond_true, cond_false, Bool.not_true, Bool.not_false, if_true, if_false, true_or, or_true, true_and, and_true, ↓reduceIte, decide_true, decide_false, reduceCtorEq, u2_s, u2_o, u2_k, u2_u2, Bool.true_or, Bool.or_true, Bool.false_or, Bool.or_false, Bool.and_true, Bool.true_and, Bool.and_false, Bool.false_and, eq_self, not_true_eq_false, not_false_eq_true, and_self, and_true, true_and, false_and, and_false, w_dv, dvm, XSH_e hX, t1, sp_140 hX hT, ha, sp_147, sp_148, c1, c2, sp_143a hX hT h5 hc hp (hw.2 c2)]
    | false =>
      simp only [Bool.false_eq_true, if_false]
      rw [eq_141_8]
      simp (disch := first | assumption | omega | (simp (disch := omega) only [vM_u, vS_u]; first | assumption | omega)) only [hK, hL, hR, hI, hN, sI, hSp, hC, hW, li, lr, ↓cnd_a, ↓cnd_o, ↓cnd_n, ↓cnd_d, ↓z0, ↓z1, ↓z2, y0n, y1i, y2r, y0e, y1e, y2e, wl_0, wl_1, wl_2, wl_3, wl_4, wl_5, wl_6, wl_7, wl_8, wl_9, wl_10, wl_11, wl_12, wl_13, wl_14, wl_15, wl_16, wl_17, wl_18, wl_19, wl_20, wl_21, wl_22, wl_23, wl_24, wl_25, wl_26, wl_27, wl_28, wl_29, wl_30, wl_31, wl_32, wl_33, wl_34, wl_35, wl_36, wl_37, wl_38, wl_39, wl_40, wl_41, wl_42, wl_43, wl_44, wl_45, wl_46, wl_47, wl_48, wl_49, wl_50, wl_51, wl_52, wl_53, wl_54, wl_55, wl_56, wl_57, wl_58, wl_59, wl_60, wl_61, wl_62, wl_63, wl_64, wl_65, wl_66, wl_67, wl_68, wl_69, wl_70, wl_71, wl_72, wl_73, wl_74, wl_75, wl_76, wl_77, wl_78, wl_79, wl_80, wl_81, wl_82, wl_83, wl_84, wl_85, wl_86, wl_87, wl_88, wl_89, wl_90, wl_91, wl_92, wl_93, wl_94, wl_95, wl_96, wl_97, wl_98, wl_99, wl_100, wl_101, wl_102, wl_103, wl_104, wl_105, wl_106, wl_107, wl_108, wl_109, wl_110, wl_111, wl_112, wl_113, wl_114, wl_115, wl_116, wl_117, wl_118, wl_119, wl_120, wl_121, wl_122, wl_123, wl_124, wl_125, wl_126, wl_127, wl_128, wl_129, wl_130, wl_159, wl_160, wl_200, wl_232, wl_255, wl_256, wl_300, wl_359, wl_360, wl_400, wl_592, wl_992, wl_999, wl_1000, wl_1024, wl_3456, wl_6512, wl_7104, wl_10000, wl_11264, wl_12345, wl_32767, wl_1000000000, wl_1103515245, wl_2000000000, w_add, w_sub, w_mul, w_neg, w_lt, w_le, w_eq, w_cl, w_in, w_nat, w_max2, w_min2, w_abs2, iltT, iltF, ileT, ileF, ieqT, ieqF, bv_01, bft, bv_0, bv_1, bv_t, bv_f, cond_true, cond_false, Bool.not_true, Bool.not_false, if_true, if_false, true_or, or_true, true_and, and_true, ↓reduceIte, decide_true, decide_false, reduceCtorEq, u2_s, u2_o, u2_k, u2_u2, Bool.true_or, Bool.or_true, Bool.false_or, Bool.or_false, Bool.and_true, Bool.true_and, Bool.and_false, Bool.false_and, eq_self, not_true_eq_false, not_false_eq_true, and_self, and_true, true_and, false_and, and_false, w_dv, dvm, XSH_e hX, t1, sp_140 hX hT, ha, sp_147, sp_148, c1, c2, sp_146 hX h5]
theorem lwN_e (T : Int → Int) : ∀ (n : Nat) (p : Int), lwN T p n < p + n → isL (T (lwN T p n)) = false
  | 0, p, h => by unfold lwN at h; omega
  | n + 1, p, h => by
    unfold lwN at h ⊢
    by_cases c : 97 ≤ T p ∧ T p ≤ 122
    · rw [if_pos c] at h ⊢
      exact lwN_e T n (p + 1) (by omega)
    · rw [if_neg c]
      cases c2 : isL (T p) with
      | false => rfl
      | true => exact absurd (isL_d.mp c2) c
theorem lwN_p (T : Int → Int) : ∀ (n : Nat) (p : Int), p < lwN T p n → isL (T (lwN T p n - 1)) = true
  | 0, p, h => by unfold lwN at h; omega
  | n + 1, p, h => by
    unfold lwN at h ⊢
    by_cases c : 97 ≤ T p ∧ T p ≤ 122
    · rw [if_pos c] at h ⊢
      by_cases h2 : p + 1 < lwN T (p + 1) n
      · exact lwN_p T n (p + 1) h2
      · rw [show lwN T (p + 1) n - 1 = p by omega]
        exact isL_d.mpr c
    · rw [if_neg c] at h; omega
theorem dwN_e (T : Int → Int) : ∀ (n : Nat) (p : Int), dwN T p n < p + n → isN (T (dwN T p n)) = false
  | 0, p, h => by unfold dwN at h; omega
  | n + 1, p, h => by
    unfold dwN at h ⊢
    by_cases c : isN (T p) = true
    · rw [if_pos c] at h ⊢
      exact dwN_e T n (p + 1) (by omega)
    · rw [if_neg c]
      cases c2 : isN (T p) with
      | false => rfl
      | true => exact absurd c2 c
theorem dwN_p (T : Int → Int) : ∀ (n : Nat) (p : Int), p < dwN T p n → isN (T (dwN T p n - 1)) = true
  | 0, p, h => by unfold dwN at h; omega
  | n + 1, p, h => by
    unfold dwN at h ⊢
    by_cases c : isN (T p) = true
    · rw [if_pos c] at h ⊢
      by_cases h2 : p + 1 < dwN T (p + 1) n
      · exact dwN_p T n (p + 1) h2
      · rw [show dwN T (p + 1) n - 1 = p by omega]
        exact c
    · rw [if_neg c] at h; omega
theorem tNw_o {T : Int → Int} {p : Int} (h1 : isL (T p) = false) (h2 : isN (T p) = false) (h0 : 0 ≤ p) : tNw T (p + 1) := by
  unfold tNw
  rw [tPv_s T h0]
  exact ⟨fun _ => h1, fun _ => h2⟩
theorem tNw_t {T : Int → Int} {e q : Int} (h0 : 0 ≤ q) (hq : q < e) (he : tend T e q < e) : tNw T (tend T e q) := by
  have hr := tend_r (T := T) (e := e) hq
  unfold tend at hr he ⊢
  by_cases c : isL (T q) = true
  · rw [if_pos c] at hr he ⊢
    have h1 : isL (T (lw T e q)) = false := lwN_e T (e - q).toNat q (by have h : lw T e q = lwN T q (e - q).toNat := rfl; omega)
    have h2 : isL (T (lw T e q - 1)) = true := lwN_p T (e - q).toNat q hr.1
    unfold tNw tPv
    rw [if_neg (by omega)]
    exact ⟨fun x => by rw [h1] at x; exact absurd x (by decide), fun _ => isL_N h2⟩
  · rw [if_neg c] at hr he ⊢
    have c' : isL (T q) = false := by revert c; cases isL (T q) <;> simp
    by_cases d : isN (T q) = true
    · rw [if_pos d] at hr he ⊢
      have h1 : isN (T (dw T e q)) = false := dwN_e T (e - q).toNat q (by have h : dw T e q = dwN T q (e - q).toNat := rfl; omega)
      have h2 : isN (T (dw T e q - 1)) = true := dwN_p T (e - q).toNat q hr.1
      unfold tNw tPv
      rw [if_neg (by omega)]
      refine ⟨fun _ => ?_, fun x => by rw [h1] at x; exact absurd x (by decide)⟩
      cases c2 : isL (T (dw T e q - 1)) with
      | false => rfl
      | true => rw [isL_N c2] at h2; exact absurd h2 (by decide)
    · rw [if_neg d]
      have d' : isN (T q) = false := by revert d; cases isN (T q) <;> simp
      exact tNw_o c' d' h0
theorem sp_141 {d : Nat} {T : Int → Int} {e : Int} (hX : XSH K L R) (hT : Tp I T e) : ∃ I' n tb, ev PR (d + 5) 141 [.ref 82] (((vn, vc, vw, K, L, R), I, J) : HS) = some (.inl none, (((vn, vc, vw, K, L, R), I', J) : HS)) ∧ TkI I' T e n tb ∧ I' 82 6 = w 0 ∧ FTk I I' := by
  have t2 := hT.2.1
  have lp : ∀ (m : Nat) (p c : Int) (tb : Int → Int) (I1 : Nat → Nat → Int32), (e - p).toNat ≤ m → 0 ≤ p → p ≤ e → 0 ≤ c → c ≤ p → I1 82 5 = w c → I1 82 6 = w 0 → FTk I I1 → tb 0 = sk T e 0 → tb c = sk T e p → (∀ i, 0 ≤ i → i < c → TkE I1 T e tb i) → (p < e → tNw T p) → ∃ I' n tb, atv PR (d + 4) cd_141 8 [.ref 82, .int (w p)] [] (((vn, vc, vw, K, L, R), I1, J) : HS) = some (.inl none, (((vn, vc, vw, K, L, R), I', J) : HS)) ∧ TkI I' T e n tb ∧ I' 82 6 = w 0 ∧ FTk I I' := by
    intro m
    induction m with
    | zero =>
      intro p c tb I1 hm h0 he c0 cp h5 h6 hf tb0 tbc hi hnw
      have hpe : p = e := by omega
      subst hpe
      have hT1 : Tp I1 T p := Tp_f (fun a k h => hf a k (by omega) (by omega)) hT
      have t1 := hT1.1
      refine ⟨I1, c, tb, ?_, ⟨h5, by omega, tb0, ?_, hi⟩, h6, hf⟩
      · rw [eq_141_8]
        simp (disch := first | assumption | omega | (simp (disch := omega) only [vM_u, vS_u]; first | assumption | omega)) only [hK, hL, hR, hI, hN, sI, hSp, hC, hW, li, lr, ↓cnd_a, ↓cnd_o, ↓cnd_n, ↓cnd_d, ↓z0, ↓z1, ↓z2, y0n, y1i, y2r, y0e, y1e, y2e, wl_0, wl_1, wl_2, wl_3, wl_4, wl_5, wl_6, wl_7, wl_8, wl_9, wl_10, wl_11, wl_12, wl_13, wl_14, wl_15, wl_16, wl_17, wl_18, wl_19, wl_20, wl_21, wl_22, wl_23, wl_24, wl_25, wl_26, wl_27, wl_28, wl_29, wl_30, wl_31, wl_32, wl_33, wl_34, wl_35, wl_36, wl_37, wl_38, wl_39, wl_40, wl_41, wl_42, wl_43, wl_44, wl_45, wl_46, wl_47, wl_48, wl_49, wl_50, wl_51, wl_52, wl_53, wl_54, wl_55, wl_56, wl_57, wl_58, wl_59, wl_60, wl_61, wl_62, wl_63, wl_64, wl_65, wl_66, wl_67, wl_68, wl_69, wl_70, wl_71, wl_72, wl_73, wl_74, wl_75, wl_76, wl_77, wl_78, wl_79, wl_80, wl_81, wl_82, wl_83, wl_84, wl_85, wl_86, wl_87, wl_88, wl_89, wl_90, wl_91, wl_92, wl_93, wl_94, wl_95, wl_96, wl_97, wl_98, wl_99, wl_100, wl_101, wl_102, wl_103, wl_104, wl_105, wl_106, wl_107, wl_108, wl_109, wl_110, wl_111, wl_112, wl_113, wl_114, wl_115, wl_116, wl_117, wl_118, wl_119, wl_120, wl_121, wl_122, wl_123, wl_124, wl_125, wl_126, wl_127, wl_128, wl_129, wl_130, wl_159, wl_160, wl_200, wl_232, wl_255, wl_256, wl_300, wl_359, wl_360, wl_400, wl_592, wl_992, wl_999, wl_1000, wl_1024, wl_3456, wl_6512, wl_7104, wl_10000, wl_11264, wl_12345, wl_32767, wl_1000000000, wl_1103515245, wl_2000000000, w_add, w_sub, w_mul, w_neg, w_lt, w_le, w_eq, w_cl, w_in, w_nat, w_max2, w_min2, w_abs2, iltT, iltF, ileT, ileF, ieqT, ieqF, bv_01, bft, bv_0, bv_1, bv_t, bv_f, cond_true, cond_false, Bool.not_true, Bool.not_false, if_true, if_false, true_or, or_true, true_and, and_true, ↓reduceIte, decide_true, decide_false, reduceCtorEq, u2_s, u2_o, u2_k, u2_u2, Bool.true_or, Bool.or_true, Bool.false_or, Bool.or_false, Bool.and_true, Bool.true_and, Bool.and_false, Bool.false_and, eq_self, not_true_eq_false, not_false_eq_true, and_self, and_true, true_and, false_and, and_false, w_dv, dvm, XSH_e hX, t1]
      · rw [tbc, sk_id _ (Int.le_refl _)]
    | succ m ih =>
      intro p c tb I1 hm h0 he c0 cp h5 h6 hf tb0 tbc hi hnw
      have hT1 : Tp I1 T e := Tp_f (fun a k h => hf a k (by omega) (by omega)) hT
      have t1 := hT1.1
      by_cases hpe : p = e
      · subst hpe
        refine ⟨I1, c, tb, ?_, ⟨h5, by omega, tb0, ?_, hi⟩, h6, hf⟩
        · rw [eq_141_8]
          simp (disch := first | assumption | omega | (simp (disch := omega) only [vM_u, vS_u]; first | assumption | omega)) only [hK, hL, hR, hI, hN, sI, hSp, hC, hW, li, lr, ↓cnd_a, ↓cnd_o, ↓cnd_n, ↓cnd_d, ↓z0, ↓z1, ↓z2, y0n, y1i, y2r, y0e, y1e, y2e, wl_0, wl_1, wl_2, wl_3, wl_4, wl_5, wl_6, wl_7, wl_8, wl_9, wl_10, wl_11, wl_12, wl_13, wl_14, wl_15, wl_16, wl_17, wl_18, wl_19, wl_20, wl_21, wl_22, wl_23, wl_24, wl_25, wl_26, wl_27, wl_28, wl_29, wl_30, wl_31, wl_32, wl_33, wl_34, wl_35, wl_36, wl_37, wl_38, wl_39, wl_40, wl_41, wl_42, wl_43, wl_44, wl_45, wl_46, wl_47, wl_48, wl_49, wl_50, wl_51, wl_52, wl_53, wl_54, wl_55, wl_56, wl_57, wl_58, wl_59, wl_60, wl_61, wl_62, wl_63, wl_64, wl_65, wl_66, wl_67, wl_68, wl_69, wl_70, wl_71, wl_72, wl_73, wl_74, wl_75, wl_76, wl_77, wl_78, wl_79, wl_80, wl_81, wl_82, wl_83, wl_84, wl_85, wl_86, wl_87, wl_88, wl_89, wl_90, wl_91, wl_92, wl_93, wl_94, wl_95, wl_96, wl_97, wl_98, wl_99, wl_100, wl_101, wl_102, wl_103, wl_104, wl_105, wl_106, wl_107, wl_108, wl_109, wl_110, wl_111, wl_112, wl_113, wl_114, wl_115, wl_116, wl_117, wl_118, wl_119, wl_120, wl_121, wl_122, wl_123, wl_124, wl_125, wl_126, wl_127, wl_128, wl_129, wl_130, wl_159, wl_160, wl_200, wl_232, wl_255, wl_256, wl_300, wl_359, wl_360, wl_400, wl_592, wl_992, wl_999, wl_1000, wl_1024, wl_3456, wl_6512, wl_7104, wl_10000, wl_11264, wl_12345, wl_32767, wl_1000000000, wl_1103515245, wl_2000000000, w_add, w_sub, w_mul, w_neg, w_lt, w_le, w_eq, w_cl, w_in, w_nat, w_max2, w_min2, w_abs2, iltT, iltF, ileT, ileF, ieqT, ieqF, bv_01, bft, bv_0, bv_1, bv_t, bv_f, cond_true, cond_false, Bool.not_true, Bool.not_false, if_true, if_false, true_or, or_true, true_and, and_true, ↓reduceIte, decide_true, decide_false, reduceCtorEq, u2_s, u2_o, u2_k, u2_u2, Bool.true_or, Bool.or_true, Bool.false_or, Bool.or_false, Bool.and_true, Bool.true_and, Bool.and_false, Bool.false_and, eq_self, not_true_eq_false, not_false_eq_true, and_self, and_true, true_and, false_and, and_false, w_dv, dvm, XSH_e hX, t1]
        · rw [tbc, sk_id _ (Int.le_refl _)]
      · by_cases c32 : T p = 32
        · obtain ⟨I', n, tb', k1, k2⟩ := ih (p + 1) c tb I1 (by omega) (by omega) (by omega) c0 (by omega) h5 h6 hf tb0 (by rw [tbc]; exact sk_sp (by omega) c32) hi (fun _ => tNw_o (by rw [c32]; decide) (by rw [c32]; decide) h0)
          refine ⟨I', n, tb', ?_, k2⟩
          have ha : tAt T e p = 32 := by unfold tAt; rw [if_pos (by omega)]; exact c32
          have s1 : isL 32 = false := by decide
          have s2 : isN 32 = false := by decide
          rw [← k1, eq_141_8]
          simp (disch := first | assumption | omega | (simp (disch := omega) only [vM_u, vS_u]; first | assumption | omega)) only [hK, hL, hR, hI, hN, sI, hSp, hC, hW, li, lr, ↓cnd_a, ↓cnd_o, ↓cnd_n, ↓cnd_d, ↓z0, ↓z1, ↓z2, y0n, y1i, y2r, y0e, y1e, y2e, wl_0, wl_1, wl_2, wl_3, wl_4, wl_5, wl_6, wl_7, wl_8, wl_9, wl_10, wl_11, wl_12, wl_13, wl_14, wl_15, wl_16, wl_17, wl_18, wl_19, wl_20, wl_21, wl_22, wl_23, wl_24, wl_25, wl_26, wl_27, wl_28, wl_29, wl_30, wl_31, wl_32, wl_33, wl_34, wl_35, wl_36, wl_37, wl_38, wl_39, wl_40, wl_41, wl_42, wl_43, wl_44, wl_45, wl_46, wl_47, wl_48, wl_49, wl_50, wl_51, wl_52, wl_53, wl_54, wl_55, wl_56, wl_57, wl_58, wl_59, wl_60, wl_61, wl_62, wl_63, wl_64, wl_65, wl_66, wl_67, wl_68, wl_69, wl_70, wl_71, wl_72, wl_73, wl_74, wl_75, wl_76, wl_77, wl_78, wl_79, wl_80, wl_81, wl_82, wl_83, wl_84, wl_85, wl_86, wl_87, wl_88, wl_89, wl_90, wl_91, wl_92, wl_93, wl_94, wl_95, wl_96, wl_97, wl_98, wl_99, wl_100, wl_101, wl_102, wl_103, wl_104, wl_105, wl_106, wl_107, wl_108, wl_109, wl_110, wl_111, wl_112, wl_113, wl_114, wl_115, wl_116, wl_117, wl_118, wl_119, wl_120, wl_121, wl_122, wl_123, wl_124, wl_125, wl_126, wl_127, wl_128, wl_129, wl_130, wl_159, wl_160, wl_200, wl_232, wl_255, wl_256, wl_300, wl_359, wl_360, wl_400, wl_592, wl_992, wl_999, wl_1000, wl_1024, wl_3456, wl_6512, wl_7104, wl_10000, wl_11264, wl_12345, wl_32767, wl_1000000000, wl_1103515245, wl_2000000000, w_add, w_sub, w_mul, w_neg, w_lt, w_le, w_eq, w_cl, w_in, w_nat, w_max2, w_min2, w_abs2, iltT, iltF, ileT, ileF, ieqT, ieqF, bv_01, bft, bv_0, bv_1, bv_t, bv_f, cond_true, cond_false, Bool.not_true, Bool.not_false, if_true, if_false, true_or, or_true, true_and, and_true, ↓reduceIte, decide_true, decide_false, reduceCtorEq, u2_s, u2_o, u2_k, u2_u2, Bool.true_or, Bool.or_true, Bool.false_or, Bool.or_false, Bool.and_true, Bool.true_and, Bool.and_false, Bool.false_and, eq_self, not_true_eq_false, not_false_eq_true, and_self, and_true, true_and, false_and, and_false, w_dv, dvm, XSH_e hX, t1, sp_140 hX hT1, ha, sp_147, sp_148, s1, s2]
        · have hte := tend_r (T := T) (e := e) (q := p) (by omega)
          have hsp : sk T e p = p := sk_ns c32
          rw [hsp] at tbc
          have hst := stp_141 (d := d) (vn := vn) (vc := vc) (vw := vw) (J := J) hX hT1 h5 (by omega) (by omega) c32 (hnw (by omega))
          rw [hst]
          refine ih (tend T e p) (c + 1) (fun i => if i = c + 1 then sk T e (tend T e p) else tb i) _ (by omega) (by omega) (by omega) (by omega) (by omega) (putI_5 _ _ _ _ _) ((putI_o _ _ _ _ _ (by omega)).trans h6) ?_ ?_ ?_ ?_ (fun hx => tNw_t h0 (by omega) hx)
          · intro a k g1 g2
            rw [putI_o _ _ _ _ _ (by omega)]
            exact hf a k g1 g2
          · show (if (0 : Int) = c + 1 then sk T e (tend T e p) else tb 0) = sk T e 0
            rw [if_neg (by omega)]
            exact tb0
          · show (if c + 1 = c + 1 then sk T e (tend T e p) else tb (c + 1)) = _
            rw [if_pos rfl]
          · intro i i0 i1
            unfold TkE
            dsimp only
            rw [if_neg (by omega : ¬i = c + 1)]
            by_cases ic : i = c
            · subst ic
              rw [if_pos rfl, tbc, putI_84, putI_85, putI_86]
              exact ⟨by omega, c32, rfl, rfl, rfl, rfl⟩
            · have hne : ix i ≠ ix c := by unfold ix; omega
              rw [if_neg (by omega), putI_k _ _ _ _ _ (by decide) hne, putI_k _ _ _ _ _ (by decide) hne, putI_k _ _ _ _ _ (by decide) hne]
              exact hi i i0 (by omega)
  obtain ⟨I', n, tb, k1, k2⟩ := lp (e - 0).toNat 0 0 (fun _ => sk T e 0) (u2 (u2 I 82 5 (w 0)) 82 6 (w 0)) (Nat.le_refl _) (by omega) t2.1 (by omega) (by omega) (by rw [u2_k _ _ _ _ (by decide), u2_s]) (by rw [u2_s]) (fun a k g1 g2 => by rw [u2_r, if_neg (by omega), u2_r, if_neg (by omega)]) rfl rfl (fun i h1 h2 => by omega) (fun _ => ⟨fun _ => by rw [show tPv T 0 = -1 from if_pos rfl]; decide, fun _ => by rw [show tPv T 0 = -1 from if_pos rfl]; decide⟩)
  refine ⟨I', n, tb, ?_, k2⟩
  rw [← k1, eq_141]
  simp (disch := first | assumption | omega | (simp (disch := omega) only [vM_u, vS_u]; first | assumption | omega)) only [hK, hL, hR, hI, hN, sI, hSp, hC, hW, li, lr, ↓cnd_a, ↓cnd_o, ↓cnd_n, ↓cnd_d, ↓z0, ↓z1, ↓z2, y0n, y1i, y2r, y0e, y1e, y2e, wl_0, wl_1, wl_2, wl_3, wl_4, wl_5, wl_6, wl_7, wl_8, wl_9, wl_10, wl_11, wl_12, wl_13, wl_14, wl_15, wl_16, wl_17, wl_18, wl_19, wl_20, wl_21, wl_22, wl_23, wl_24, wl_25, wl_26, wl_27, wl_28, wl_29, wl_30, wl_31, wl_32, wl_33, wl_34, wl_35, wl_36, wl_37, wl_38, wl_39, wl_40, wl_41, wl_42, wl_43, wl_44, wl_45, wl_46, wl_47, wl_48, wl_49, wl_50, wl_51, wl_52, wl_53, wl_54, wl_55, wl_56, wl_57, wl_58, wl_59, wl_60, wl_61, wl_62, wl_63, wl_64, wl_65, wl_66, wl_67, wl_68, wl_69, wl_70, wl_71, wl_72, wl_73, wl_74, wl_75, wl_76, wl_77, wl_78, wl_79, wl_80, wl_81, wl_82, wl_83, wl_84, wl_85, wl_86, wl_87, wl_88, wl_89, wl_90, wl_91, wl_92, wl_93, wl_94, wl_95, wl_96, wl_97, wl_98, wl_99, wl_100, wl_101, wl_102, wl_103, wl_104, wl_105, wl_106, wl_107, wl_108, wl_109, wl_110, wl_111, wl_112, wl_113, wl_114, wl_115, wl_116, wl_117, wl_118, wl_119, wl_120, wl_121, wl_122, wl_123, wl_124, wl_125, wl_126, wl_127, wl_128, wl_129, wl_130, wl_159, wl_160, wl_200, wl_232, wl_255, wl_256, wl_300, wl_359, wl_360, wl_400, wl_592, wl_992, wl_999, wl_1000, wl_1024, wl_3456, wl_6512, wl_7104, wl_10000, wl_11264, wl_12345, wl_32767, wl_1000000000, wl_1103515245, wl_2000000000, w_add, w_sub, w_mul, w_neg, w_lt, w_le, w_eq, w_cl, w_in, w_nat, w_max2, w_min2, w_abs2, iltT, iltF, ileT, ileF, ieqT, ieqF, bv_01, bft, bv_0, bv_1, bv_t, bv_f, cond_true, cond_false, Bool.not_true, Bool.not_false, if_true, if_false, true_or, or_true, true_and, and_true, ↓reduceIte, decide_true, decide_false, reduceCtorEq, u2_s, u2_o, u2_k, u2_u2, Bool.true_or, Bool.or_true, Bool.false_or, Bool.or_false, Bool.and_true, Bool.true_and, Bool.and_false, Bool.false_and, eq_self, not_true_eq_false, not_false_eq_true, and_self, and_true, true_and, false_and, and_false, w_dv, dvm, XSH_e hX]
end TKS
