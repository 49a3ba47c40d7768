/-! the class's tape: its tokens -/
section TKS
variable {vn vc vw : Nat} {K L : Nat → Nat} {R : Nat → Nat → Nat} {I : Nat → Nat → Int32} {J : Nat → Nat → Int64}
def tkd (T : Int → Int) (q : Int) : Int := if isL (T q) = true then 1 else if isN (T q) = true then 2 else 3
def tvl (T : Int → Int) (e q : Int) : Int := if isL (T q) = true then lw T e q - q else if isN (T q) = true then (dv2 T e q).2 else T q
def tend (T : Int → Int) (e q : Int) : Int := if isL (T q) = true then lw T e q else if isN (T q) = true then dw T e q else q + 1
def TkE (I : Nat → Nat → Int32) (T : Int → Int) (e : Int) (tb : Int → Int) (i : Int) : Prop := (i ≤ tb i ∧ tb i < e) ∧ T (tb i) ≠ 32 ∧ tb (i + 1) = sk T e (tend T e (tb i)) ∧ I 84 (ix i) = w (tkd T (tb i)) ∧ I 85 (ix i) = w (tb i) ∧ I 86 (ix i) = w (tvl T e (tb i))
def TkI (I : Nat → Nat → Int32) (T : Int → Int) (e n : Int) (tb : Int → Int) : Prop := I 82 5 = w n ∧ (0 ≤ n ∧ n ≤ 400) ∧ tb 0 = sk T e 0 ∧ tb n = e ∧ ∀ i, 0 ≤ i → i < n → TkE I T e tb i
theorem lw_lt {T : Int → Int} {e q : Int} (hq : q < e) (hl : isL (T q) = true) : q < lw T e q := by
  have e3 : (e - q).toNat = (e - (q + 1)).toNat + 1 := by omega
  have := lwN_r T (e - (q + 1)).toNat (q + 1)
  show q < lwN T q (e - q).toNat
  rw [e3, lwN, if_pos (isL_d.mp hl)]
  omega
theorem dw_lt {T : Int → Int} {e q : Int} (hq : q < e) (hl : isN (T q) = true) : q < dw T e q := by
  have e3 : (e - q).toNat = (e - (q + 1)).toNat + 1 := by omega
  have := dwN_r T (e - (q + 1)).toNat (q + 1)
  show q < dwN T q (e - q).toNat
  rw [e3, dwN, if_pos hl]
  omega
theorem tend_r {T : Int → Int} {e q : Int} (hq : q < e) : q < tend T e q ∧ tend T e q ≤ e := by
  unfold tend
  by_cases c : isL (T q) = true
  · rw [if_pos c]
    have := lw_r T e q
    have := lw_lt hq c
    omega
  · rw [if_neg c]
    by_cases c2 : isN (T q) = true
    · rw [if_pos c2]
      have := dw_lt hq c2
      have h : dw T e q = dwN T q (e - q).toNat := rfl
      have := dwN_r T (e - q).toNat q
      omega
    · rw [if_neg c2]; omega
theorem sk_sp {T : Int → Int} {e p : Int} (hp : p < e) (h : T p = 32) : sk T e p = sk T e (p + 1) := by
  have e3 : (e - p).toNat = (e - (p + 1)).toNat + 1 := by omega
  show skN T p (e - p).toNat = skN T (p + 1) (e - (p + 1)).toNat
  rw [e3, skN, if_pos h]
theorem sk_ns {T : Int → Int} {e p : Int} (h : T p ≠ 32) : sk T e p = p := by
  show skN T p (e - p).toNat = p
  cases (e - p).toNat with
  | zero => rfl
  | succ n => rw [skN, if_neg h]
theorem putI_o (I : Nat → Nat → Int32) (c kd b v : Int) {a k : Nat} (h : (a ≠ 84 ∧ a ≠ 85 ∧ a ≠ 86 ∧ a ≠ 82) ∨ (a = 82 ∧ k ≠ 5)) : putI I c kd b v a k = I a k := by
  unfold putI
  simp only [u2_r]
  rw [if_neg (by omega), if_neg (by omega), if_neg (by omega), if_neg (by omega)]
theorem putI_k (I : Nat → Nat → Int32) (c kd b v : Int) {a k : Nat} (h : a ≠ 82) (hk : k ≠ ix c) : putI I c kd b v a k = I a k := by
  unfold putI
  simp only [u2_r]
  rw [if_neg (by omega), if_neg (by omega), if_neg (by omega), if_neg (by omega)]
theorem putI_84 (I : Nat → Nat → Int32) (c kd b v : Int) : putI I c kd b v 84 (ix c) = w kd := by
  unfold putI
  simp only [u2_r]
  rw [if_neg (by omega), if_neg (by omega), if_neg (by omega), if_pos (by simp)]
theorem putI_85 (I : Nat → Nat → Int32) (c kd b v : Int) : putI I c kd b v 85 (ix c) = w b := by
  unfold putI
  simp only [u2_r]
  rw [if_neg (by omega), if_neg (by omega), if_pos (by simp)]
theorem putI_86 (I : Nat → Nat → Int32) (c kd b v : Int) : putI I c kd b v 86 (ix c) = w v := by
  unfold putI
  simp only [u2_r]
  rw [if_neg (by omega), if_pos (by simp)]
theorem putI_5 (I : Nat → Nat → Int32) (c kd b v : Int) : putI I c kd b v 82 5 = w (c + 1) := by
  unfold putI
  rw [u2_s]
/-- what the splitting leaves -/
def FTk (I I' : Nat → Nat → Int32) : Prop := ∀ a k, ¬(84 ≤ a ∧ a ≤ 86) → (a = 82 → k ≠ 5 ∧ k ≠ 6) → I' a k = I a k
theorem stp_141 {d : Nat} {T : Int → Int} {e p c : Int} (hX : XSH K L R) (hT : Tp I T e) (h5 : I 82 5 = w c) (hc : 0 ≤ c ∧ c < 400) (hp : 0 ≤ p ∧ p < e) (hn : T p ≠ 32) : atv PR (d + 4) cd_141 8 [.ref 82, .int (w p)] [] (((vn, vc, vw, K, L, R), I, J) : HS) = atv PR (d + 4) cd_141 8 [.ref 82, .int (w (tend T e p))] [] (((vn, vc, vw, K, L, R), putI I c (tkd T p) p (tvl T e p), J) : HS) := by
  have t1 := hT.1
  have t2 := hT.2.1
  have hb := hT.2.2.1 p hp.1 hp.2
  have ha : tAt T e p = T p := by unfold tAt; rw [if_pos hp.2]
  rw [eq_141_8]
  unfold tend tkd tvl
  cases c1 : isL (T p) with
  | true =>
    simp (disch := first | assumption | omega | (simp (disch := omega) only [vM_u, vS_u]; first | assumption | omega)) only [hK, hL, hR, hI, hN, sI, hSp, hC, hW, li, lr, ↓cnd_a, ↓cnd_o, ↓cnd_n, ↓cnd_d, ↓z0, ↓z1, ↓z2, y0n, y1i, y2r, y0e, y1e, y2e, wl_0, wl_1, wl_2, wl_3, wl_4, wl_5, wl_6, wl_7, wl_8, wl_9, wl_10, wl_11, wl_12, wl_13, wl_14, wl_15, wl_16, wl_17, wl_18, wl_19, wl_20, wl_21, wl_22, wl_23, wl_24, wl_25, wl_26, wl_27, wl_28, wl_29, wl_30, wl_31, wl_32, wl_33, wl_34, wl_35, wl_36, wl_37, wl_38, wl_39, wl_40, wl_41, wl_42, wl_43, wl_44, wl_45, wl_46, wl_47, wl_48, wl_49, wl_50, wl_51, wl_52, wl_53, wl_54, wl_55, wl_56, wl_57, wl_58, wl_59, wl_60, wl_61, wl_62, wl_63, wl_64, wl_65, wl_66, wl_67, wl_68, wl_69, wl_70, wl_71, wl_72, wl_73, wl_74, wl_75, wl_76, wl_77, wl_78, wl_79, wl_80, wl_81, wl_82, wl_83, wl_84, wl_85, wl_86, wl_87, wl_88, wl_89, wl_90, wl_91, wl_92, wl_93, wl_94, wl_95, wl_96, wl_97, wl_98, wl_99, wl_100, wl_101, wl_102, wl_103, wl_104, wl_105, wl_106, wl_107, wl_108, wl_109, wl_110, wl_111, wl_112, wl_113, wl_114, wl_115, wl_116, wl_117, wl_118, wl_119, wl_120, wl_121, wl_122, wl_123, wl_124, wl_125, wl_126, wl_127, wl_128, wl_129, wl_130, wl_159, wl_160, wl_200, wl_232, wl_255, wl_256, wl_300, wl_359, wl_360, wl_400, wl_592, wl_992, wl_999, wl_1000, wl_1024, wl_3456, wl_6512, wl_7104, wl_10000, wl_11264, wl_12345, wl_32767, wl_1000000000, wl_1103515245, wl_2000000000, w_add, w_sub, w_mul, w_neg, w_lt, w_le, w_eq, w_cl, w_in, w_nat, w_max2, w_min2, w_abs2, iltT, iltF, ileT, ileF, ieqT, ieqF, bv_01, bft, bv_0, bv_1, bv_t, bv_f, cond_true, cond_false, Bool.not_true, Bool.not_false, if_true, if_false, true_or, or_true, true_and, and_true, ↓reduceIte, decide_true, decide_false, reduceCtorEq, u2_s, u2_o, u2_k, u2_u2, Bool.true_or, Bool.or_true, Bool.false_or, Bool.or_false, Bool.and_true, Bool.true_and, Bool.and_false, Bool.false_and, eq_self, not_true_eq_false, not_false_eq_true, and_self, and_true, true_and, false_and, and_false, w_dv, dvm, XSH_e hX, t1, sp_140 hX hT, ha, sp_145, c1, sp_142 hX hT h5 hc hp c1]
    rw [show p + (lw T e p - p) = lw T e p by omega]
  | false =>
    cases c2 : isN (T p) with
    | true =>
      simp (disch := first | assumption | omega | (simp (disch := omega) only [vM_u, vS_u]; first | assumption | omega)) only [hK, hL, hR, hI, hN, sI, hSp, hC, hW, li, lr, ↓cnd_a, ↓cnd_o, ↓cnd_n, ↓cnd_d, ↓z0, ↓z1, ↓z2, y0n, y1i, y2r, y0e, y1e, y2e, wl_0, wl_1, wl_2, wl_3, wl_4, wl_5, wl_6, wl_7, wl_8, wl_9, wl_10, wl_11, wl_12, wl_13, wl_14, wl_15, wl_16, wl_17, wl_18, wl_19, wl_20, wl_21, wl_22, wl_23, wl_24, wl_25, wl_26, wl_27, wl_28, wl_29, wl_30, wl_31, wl_32, wl_33, wl_34, wl_35, wl_36, wl_37, wl_38, wl_39, wl_40, wl_41, wl_42, wl_43, wl_44, wl_45, wl_46, wl_47, wl_48, wl_49, wl_50, wl_51, wl_52, wl_53, wl_54, wl_55, wl_56, wl_57, wl_58, wl_59, wl_60, wl_61, wl_62, wl_63, wl_64, wl_65, wl_66, wl_67, wl_68, wl_69, wl_70, wl_71, wl_72, wl_73, wl_74, wl_75, wl_76, wl_77, wl_78, wl_79, wl_80, wl_81, wl_82, wl_83, wl_84, wl_85, wl_86, wl_87, wl_88, wl_89, wl_90, wl_91, wl_92, wl_93, wl_94, wl_95, wl_96, wl_97, wl_98, wl_99, wl_100, wl_101, wl_102, wl_103, wl_104, wl_105, wl_106, wl_107, wl_108, wl_109, wl_110, wl_111, wl_112, wl_113, wl_114, wl_115, wl_116, wl_117, wl_118, wl_119, wl_120, wl_121, wl_122, wl_123, wl_124, wl_125, wl_126, wl_127, wl_128, wl_129, wl_130, wl_159, wl_160, wl_200, wl_232, wl_255, wl_256, wl_300, wl_359, wl_360, wl_400, wl_592, wl_992, wl_999, wl_1000, wl_1024, wl_3456, wl_6512, wl_7104, wl_10000, wl_11264, wl_12345, wl_32767, wl_1000000000, wl_1103515245, wl_2000000000, w_add, w_sub, w_mul, w_neg, w_lt, w_le, w_eq, w_cl, w_in, w_nat, w_max2, w_min2, w_abs2, iltT, iltF, ileT, ileF, ieqT, ieqF, bv_01, bft, bv_0, bv_1, bv_t, bv_f, cond_true, cond_false, Bool.not_true, Bool.not_false, if_true, if_false, true_or, or_true, true_and, and_true, ↓reduceIte, decide_true, decide_false, reduceCtorEq, u2_s, u2_o, u2_k, u2_u2, Bool.true_or, Bool.or_true, Bool.false_or, Bool.or_false, Bool.and_true, Bool.true_and, Bool.and_false, Bool.false_and, eq_self, not_true_eq_false, not_false_eq_true, and_self, and_true, true_and, false_and, and_false, w_dv, dvm, XSH_e hX, t1, sp_140 hX hT, ha, sp_145, sp_146, c1, c2, sp_143 hX hT h5 hc hp]
      rw [show p + (dw T e p - p) = dw T e p by omega]
    | false =>
      simp (disch := first | assumption | omega | (simp (disch := omega) only [vM_u, vS_u]; first | assumption | omega)) only [hK, hL, hR, hI, hN, sI, hSp, hC, hW, li, lr, ↓cnd_a, ↓cnd_o, ↓cnd_n, ↓cnd_d, ↓z0, ↓z1, ↓z2, y0n, y1i, y2r, y0e, y1e, y2e, wl_0, wl_1, wl_2, wl_3, wl_4, wl_5, wl_6, wl_7, wl_8, wl_9, wl_10, wl_11, wl_12, wl_13, wl_14, wl_15, wl_16, wl_17, wl_18, wl_19, wl_20, wl_21, wl_22, wl_23, wl_24, wl_25, wl_26, wl_27, wl_28, wl_29, wl_30, wl_31, wl_32, wl_33, wl_34, wl_35, wl_36, wl_37, wl_38, wl_39, wl_40, wl_41, wl_42, wl_43, wl_44, wl_45, wl_46, wl_47, wl_48, wl_49, wl_50, wl_51, wl_52, wl_53, wl_54, wl_55, wl_56, wl_57, wl_58, wl_59, wl_60, wl_61, wl_62, wl_63, wl_64, wl_65, wl_66, wl_67, wl_68, wl_69, wl_70, wl_71, wl_72, wl_73, wl_74, wl_75, wl_76, wl_77, wl_78, wl_79, wl_80, wl_81, wl_82, wl_83, wl_84, wl_85, wl_86, wl_87, wl_88, wl_89, wl_90, wl_91, wl_92, wl_93, wl_94, wl_95, wl_96, wl_97, wl_98, wl_99, wl_100, wl_101, wl_102, wl_103, wl_104, wl_105, wl_106, wl_107, wl_108, wl_109, wl_110, wl_111, wl_112, wl_113, wl_114, wl_115, wl_116, wl_117, wl_118, wl_119, wl_120, wl_121, wl_122, wl_123, wl_124, wl_125, wl_126, wl_127, wl_128, wl_129, wl_130, wl_159, wl_160, wl_200, wl_232, wl_255, wl_256, wl_300, wl_359, wl_360, wl_400, wl_592, wl_992, wl_999, wl_1000, wl_1024, wl_3456, wl_6512, wl_7104, wl_10000, wl_11264, wl_12345, wl_32767, wl_1000000000, wl_1103515245, wl_2000000000, w_add, w_sub, w_mul, w_neg, w_lt, w_le, w_eq, w_cl, w_in, w_nat, w_max2, w_min2, w_abs2, iltT, iltF, ileT, ileF, ieqT, ieqF, bv_01, bft, bv_0, bv_1, bv_t, bv_f, cond_true, cond_false, Bool.not_true, Bool.not_false, if_true, if_false, true_or, or_true, true_and, and_true, ↓reduceIte, decide_true, decide_false, reduceCtorEq, u2_s, u2_o, u2_k, u2_u2, Bool.true_or, Bool.or_true, Bool.false_or, Bool.or_false, Bool.and_true, Bool.true_and, Bool.and_false, Bool.false_and, eq_self, not_true_eq_false, not_false_eq_true, and_self, and_true, true_and, false_and, and_false, w_dv, dvm, XSH_e hX, t1, sp_140 hX hT, ha, sp_145, sp_146, c1, c2, sp_144 hX h5]
theorem sp_141 {d : Nat} {T : Int → Int} {e : Int} (hX : XSH K L R) (hT : Tp I T e) : ∃ I' n tb, ev PR (d + 5) 141 [.ref 82] (((vn, vc, vw, K, L, R), I, J) : HS) = some (.inl none, (((vn, vc, vw, K, L, R), I', J) : HS)) ∧ TkI I' T e n tb ∧ I' 82 6 = w 0 ∧ FTk I I' := by
  have t2 := hT.2.1
  have lp : ∀ (m : Nat) (p c : Int) (tb : Int → Int) (I1 : Nat → Nat → Int32), (e - p).toNat ≤ m → 0 ≤ p → p ≤ e → 0 ≤ c → c ≤ p → I1 82 5 = w c → I1 82 6 = w 0 → FTk I I1 → tb 0 = sk T e 0 → tb c = sk T e p → (∀ i, 0 ≤ i → i < c → TkE I1 T e tb i) → ∃ I' n tb, atv PR (d + 4) cd_141 8 [.ref 82, .int (w p)] [] (((vn, vc, vw, K, L, R), I1, J) : HS) = some (.inl none, (((vn, vc, vw, K, L, R), I', J) : HS)) ∧ TkI I' T e n tb ∧ I' 82 6 = w 0 ∧ FTk I I' := by
    intro m
    induction m with
    | zero =>
      intro p c tb I1 hm h0 he c0 cp h5 h6 hf tb0 tbc hi
      have hpe : p = e := by omega
      subst hpe
      have hT1 : Tp I1 T p := Tp_f (fun a k h => hf a k (by omega) (by omega)) hT
      have t1 := hT1.1
      refine ⟨I1, c, tb, ?_, ⟨h5, by omega, tb0, ?_, hi⟩, h6, hf⟩
      · rw [eq_141_8]
        simp (disch := first | assumption | omega | (simp (disch := omega) only [vM_u, vS_u]; first | assumption | omega)) only [hK, hL, hR, hI, hN, sI, hSp, hC, hW, li, lr, ↓cnd_a, ↓cnd_o, ↓cnd_n, ↓cnd_d, ↓z0, ↓z1, ↓z2, y0n, y1i, y2r, y0e, y1e, y2e, wl_0, wl_1, wl_2, wl_3, wl_4, wl_5, wl_6, wl_7, wl_8, wl_9, wl_10, wl_11, wl_12, wl_13, wl_14, wl_15, wl_16, wl_17, wl_18, wl_19, wl_20, wl_21, wl_22, wl_23, wl_24, wl_25, wl_26, wl_27, wl_28, wl_29, wl_30, wl_31, wl_32, wl_33, wl_34, wl_35, wl_36, wl_37, wl_38, wl_39, wl_40, wl_41, wl_42, wl_43, wl_44, wl_45, wl_46, wl_47, wl_48, wl_49, wl_50, wl_51, wl_52, wl_53, wl_54, wl_55, wl_56, wl_57, wl_58, wl_59, wl_60, wl_61, wl_62, wl_63, wl_64, wl_65, wl_66, wl_67, wl_68, wl_69, wl_70, wl_71, wl_72, wl_73, wl_74, wl_75, wl_76, wl_77, wl_78, wl_79, wl_80, wl_81, wl_82, wl_83, wl_84, wl_85, wl_86, wl_87, wl_88, wl_89, wl_90, wl_91, wl_92, wl_93, wl_94, wl_95, wl_96, wl_97, wl_98, wl_99, wl_100, wl_101, wl_102, wl_103, wl_104, wl_105, wl_106, wl_107, wl_108, wl_109, wl_110, wl_111, wl_112, wl_113, wl_114, wl_115, wl_116, wl_117, wl_118, wl_119, wl_120, wl_121, wl_122, wl_123, wl_124, wl_125, wl_126, wl_127, wl_128, wl_129, wl_130, wl_159, wl_160, wl_200, wl_232, wl_255, wl_256, wl_300, wl_359, wl_360, wl_400, wl_592, wl_992, wl_999, wl_1000, wl_1024, wl_3456, wl_6512, wl_7104, wl_10000, wl_11264, wl_12345, wl_32767, wl_1000000000, wl_1103515245, wl_2000000000, w_add, w_sub, w_mul, w_neg, w_lt, w_le, w_eq, w_cl, w_in, w_nat, w_max2, w_min2, w_abs2, iltT, iltF, ileT, ileF, ieqT, ieqF, bv_01, bft, bv_0, bv_1, bv_t, bv_f, cond_true, cond_false, Bool.not_true, Bool.not_false, if_true, if_false, true_or, or_true, true_and, and_true, ↓reduceIte, decide_true, decide_false, reduceCtorEq, u2_s, u2_o, u2_k, u2_u2, Bool.true_or, Bool.or_true, Bool.false_or, Bool.or_false, Bool.and_true, Bool.true_and, Bool.and_false, Bool.false_and, eq_self, not_true_eq_false, not_false_eq_true, and_self, and_true, true_and, false_and, and_false, w_dv, dvm, XSH_e hX, t1]
      · rw [tbc, sk_id _ (Int.le_refl _)]
    | succ m ih =>
      intro p c tb I1 hm h0 he c0 cp h5 h6 hf tb0 tbc hi
      have hT1 : Tp I1 T e := Tp_f (fun a k h => hf a k (by omega) (by omega)) hT
      have t1 := hT1.1
      by_cases hpe : p = e
      · subst hpe
        refine ⟨I1, c, tb, ?_, ⟨h5, by omega, tb0, ?_, hi⟩, h6, hf⟩
        · rw [eq_141_8]
          simp (disch := first | assumption | omega | (simp (disch := omega) only [vM_u, vS_u]; first | assumption | omega)) only [hK, hL, hR, hI, hN, sI, hSp, hC, hW, li, lr, ↓cnd_a, ↓cnd_o, ↓cnd_n, ↓cnd_d, ↓z0, ↓z1, ↓z2, y0n, y1i, y2r, y0e, y1e, y2e, wl_0, wl_1, wl_2, wl_3, wl_4, wl_5, wl_6, wl_7, wl_8, wl_9, wl_10, wl_11, wl_12, wl_13, wl_14, wl_15, wl_16, wl_17, wl_18, wl_19, wl_20, wl_21, wl_22, wl_23, wl_24, wl_25, wl_26, wl_27, wl_28, wl_29, wl_30, wl_31, wl_32, wl_33, wl_34, wl_35, wl_36, wl_37, wl_38, wl_39, wl_40, wl_41, wl_42, wl_43, wl_44, wl_45, wl_46, wl_47, wl_48, wl_49, wl_50, wl_51, wl_52, wl_53, wl_54, wl_55, wl_56, wl_57, wl_58, wl_59, wl_60, wl_61, wl_62, wl_63, wl_64, wl_65, wl_66, wl_67, wl_68, wl_69, wl_70, wl_71, wl_72, wl_73, wl_74, wl_75, wl_76, wl_77, wl_78, wl_79, wl_80, wl_81, wl_82, wl_83, wl_84, wl_85, wl_86, wl_87, wl_88, wl_89, wl_90, wl_91, wl_92, wl_93, wl_94, wl_95, wl_96, wl_97, wl_98, wl_99, wl_100, wl_101, wl_102, wl_103, wl_104, wl_105, wl_106, wl_107, wl_108, wl_109, wl_110, wl_111, wl_112, wl_113, wl_114, wl_115, wl_116, wl_117, wl_118, wl_119, wl_120, wl_121, wl_122, wl_123, wl_124, wl_125, wl_126, wl_127, wl_128, wl_129, wl_130, wl_159, wl_160, wl_200, wl_232, wl_255, wl_256, wl_300, wl_359, wl_360, wl_400, wl_592, wl_992, wl_999, wl_1000, wl_1024, wl_3456, wl_6512, wl_7104, wl_10000, wl_11264, wl_12345, wl_32767, wl_1000000000, wl_1103515245, wl_2000000000, w_add, w_sub, w_mul, w_neg, w_lt, w_le, w_eq, w_cl, w_in, w_nat, w_max2, w_min2, w_abs2, iltT, iltF, ileT, ileF, ieqT, ieqF, bv_01, bft, bv_0, bv_1, bv_t, bv_f, cond_true, cond_false, Bool.not_true, Bool.not_false, if_true, if_false, true_or, or_true, true_and, and_true, ↓reduceIte, decide_true, decide_false, reduceCtorEq, u2_s, u2_o, u2_k, u2_u2, Bool.true_or, Bool.or_true, Bool.false_or, Bool.or_false, Bool.and_true, Bool.true_and, Bool.and_false, Bool.false_and, eq_self, not_true_eq_false, not_false_eq_true, and_self, and_true, true_and, false_and, and_false, w_dv, dvm, XSH_e hX, t1]
        · rw [tbc, sk_id _ (Int.le_refl _)]
      · by_cases c32 : T p = 32
        · obtain ⟨I', n, tb', k1, k2⟩ := ih (p + 1) c tb I1 (by omega) (by omega) (by omega) c0 (by omega) h5 h6 hf tb0 (by rw [tbc]; exact sk_sp (by omega) c32) hi
          refine ⟨I', n, tb', ?_, k2⟩
          have ha : tAt T e p = 32 := by unfold tAt; rw [if_pos (by omega)]; exact c32
          rw [← k1, eq_141_8]
          simp (disch := first | assumption | omega | (simp (disch := omega) only [vM_u, vS_u]; first | assumption | omega)) only [hK, hL, hR, hI, hN, sI, hSp, hC, hW, li, lr, ↓cnd_a, ↓cnd_o, ↓cnd_n, ↓cnd_d, ↓z0, ↓z1, ↓z2, y0n, y1i, y2r, y0e, y1e, y2e, wl_0, wl_1, wl_2, wl_3, wl_4, wl_5, wl_6, wl_7, wl_8, wl_9, wl_10, wl_11, wl_12, wl_13, wl_14, wl_15, wl_16, wl_17, wl_18, wl_19, wl_20, wl_21, wl_22, wl_23, wl_24, wl_25, wl_26, wl_27, wl_28, wl_29, wl_30, wl_31, wl_32, wl_33, wl_34, wl_35, wl_36, wl_37, wl_38, wl_39, wl_40, wl_41, wl_42, wl_43, wl_44, wl_45, wl_46, wl_47, wl_48, wl_49, wl_50, wl_51, wl_52, wl_53, wl_54, wl_55, wl_56, wl_57, wl_58, wl_59, wl_60, wl_61, wl_62, wl_63, wl_64, wl_65, wl_66, wl_67, wl_68, wl_69, wl_70, wl_71, wl_72, wl_73, wl_74, wl_75, wl_76, wl_77, wl_78, wl_79, wl_80, wl_81, wl_82, wl_83, wl_84, wl_85, wl_86, wl_87, wl_88, wl_89, wl_90, wl_91, wl_92, wl_93, wl_94, wl_95, wl_96, wl_97, wl_98, wl_99, wl_100, wl_101, wl_102, wl_103, wl_104, wl_105, wl_106, wl_107, wl_108, wl_109, wl_110, wl_111, wl_112, wl_113, wl_114, wl_115, wl_116, wl_117, wl_118, wl_119, wl_120, wl_121, wl_122, wl_123, wl_124, wl_125, wl_126, wl_127, wl_128, wl_129, wl_130, wl_159, wl_160, wl_200, wl_232, wl_255, wl_256, wl_300, wl_359, wl_360, wl_400, wl_592, wl_992, wl_999, wl_1000, wl_1024, wl_3456, wl_6512, wl_7104, wl_10000, wl_11264, wl_12345, wl_32767, wl_1000000000, wl_1103515245, wl_2000000000, w_add, w_sub, w_mul, w_neg, w_lt, w_le, w_eq, w_cl, w_in, w_nat, w_max2, w_min2, w_abs2, iltT, iltF, ileT, ileF, ieqT, ieqF, bv_01, bft, bv_0, bv_1, bv_t, bv_f, cond_true, cond_false, Bool.not_true, Bool.not_false, if_true, if_false, true_or, or_true, true_and, and_true, ↓reduceIte, decide_true, decide_false, reduceCtorEq, u2_s, u2_o, u2_k, u2_u2, Bool.true_or, Bool.or_true, Bool.false_or, Bool.or_false, Bool.and_true, Bool.true_and, Bool.and_false, Bool.false_and, eq_self, not_true_eq_false, not_false_eq_true, and_self, and_true, true_and, false_and, and_false, w_dv, dvm, XSH_e hX, t1, sp_140 hX hT1, ha]
        · have hte := tend_r (T := T) (e := e) (q := p) (by omega)
          have hsp : sk T e p = p := sk_ns c32
          rw [hsp] at tbc
          have hst := stp_141 (d := d) (vn := vn) (vc := vc) (vw := vw) (J := J) hX hT1 h5 (by omega) (by omega) c32
          rw [hst]
          refine ih (tend T e p) (c + 1) (fun i => if i = c + 1 then sk T e (tend T e p) else tb i) _ (by omega) (by omega) (by omega) (by omega) (by omega) (putI_5 _ _ _ _ _) ((putI_o _ _ _ _ _ (by omega)).trans h6) ?_ ?_ ?_ ?_
          · intro a k g1 g2
            rw [putI_o _ _ _ _ _ (by omega)]
            exact hf a k g1 g2
          · show (if (0 : Int) = c + 1 then sk T e (tend T e p) else tb 0) = sk T e 0
            rw [if_neg (by omega)]
            exact tb0
          · show (if c + 1 = c + 1 then sk T e (tend T e p) else tb (c + 1)) = _
            rw [if_pos rfl]
          · intro i i0 i1
            unfold TkE
            dsimp only
            rw [if_neg (by omega : ¬i = c + 1)]
            by_cases ic : i = c
            · subst ic
              rw [if_pos rfl, tbc, putI_84, putI_85, putI_86]
              exact ⟨by omega, c32, rfl, rfl, rfl, rfl⟩
            · have hne : ix i ≠ ix c := by unfold ix; omega
              rw [if_neg (by omega), putI_k _ _ _ _ _ (by decide) hne, putI_k _ _ _ _ _ (by decide) hne, putI_k _ _ _ _ _ (by decide) hne]
              exact hi i i0 (by omega)
  obtain ⟨I', n, tb, k1, k2⟩ := lp (e - 0).toNat 0 0 (fun _ => sk T e 0) (u2 (u2 I 82 5 (w 0)) 82 6 (w 0)) (Nat.le_refl _) (by omega) t2.1 (by omega) (by omega) (by rw [u2_k _ _ _ _ (by decide), u2_s]) (by rw [u2_s]) (fun a k g1 g2 => by rw [u2_r, if_neg (by omega), u2_r, if_neg (by omega)]) rfl rfl (fun i h1 h2 => by omega)
  refine ⟨I', n, tb, ?_, k2⟩
  rw [← k1, eq_141]
  simp (disch := first | assumption | omega | (simp (disch := omega) only [vM_u, vS_u]; first | assumption | omega)) only [hK, hL, hR, hI, hN, sI, hSp, hC, hW, li, lr, ↓cnd_a, ↓cnd_o, ↓cnd_n, ↓cnd_d, ↓z0, ↓z1, ↓z2, y0n, y1i, y2r, y0e, y1e, y2e, wl_0, wl_1, wl_2, wl_3, wl_4, wl_5, wl_6, wl_7, wl_8, wl_9, wl_10, wl_11, wl_12, wl_13, wl_14, wl_15, wl_16, wl_17, wl_18, wl_19, wl_20, wl_21, wl_22, wl_23, wl_24, wl_25, wl_26, wl_27, wl_28, wl_29, wl_30, wl_31, wl_32, wl_33, wl_34, wl_35, wl_36, wl_37, wl_38, wl_39, wl_40, wl_41, wl_42, wl_43, wl_44, wl_45, wl_46, wl_47, wl_48, wl_49, wl_50, wl_51, wl_52, wl_53, wl_54, wl_55, wl_56, wl_57, wl_58, wl_59, wl_60, wl_61, wl_62, wl_63, wl_64, wl_65, wl_66, wl_67, wl_68, wl_69, wl_70, wl_71, wl_72, wl_73, wl_74, wl_75, wl_76, wl_77, wl_78, wl_79, wl_80, wl_81, wl_82, wl_83, wl_84, wl_85, wl_86, wl_87, wl_88, wl_89, wl_90, wl_91, wl_92, wl_93, wl_94, wl_95, wl_96, wl_97, wl_98, wl_99, wl_100, wl_101, wl_102, wl_103, wl_104, wl_105, wl_106, wl_107, wl_108, wl_109, wl_110, wl_111, wl_112, wl_113, wl_114, wl_115, wl_116, wl_117, wl_118, wl_119, wl_120, wl_121, wl_122, wl_123, wl_124, wl_125, wl_126, wl_127, wl_128, wl_129, wl_130, wl_159, wl_160, wl_200, wl_232, wl_255, wl_256, wl_300, wl_359, wl_360, wl_400, wl_592, wl_992, wl_999, wl_1000, wl_1024, wl_3456, wl_6512, wl_7104, wl_10000, wl_11264, wl_12345, wl_32767, wl_1000000000, wl_1103515245, wl_2000000000, w_add, w_sub, w_mul, w_neg, w_lt, w_le, w_eq, w_cl, w_in, w_nat, w_max2, w_min2, w_abs2, iltT, iltF, ileT, ileF, ieqT, ieqF, bv_01, bft, bv_0, bv_1, bv_t, bv_f, cond_true, cond_false, Bool.not_true, Bool.not_false, if_true, if_false, true_or, or_true, true_and, and_true, ↓reduceIte, decide_true, decide_false, reduceCtorEq, u2_s, u2_o, u2_k, u2_u2, Bool.true_or, Bool.or_true, Bool.false_or, Bool.or_false, Bool.and_true, Bool.true_and, Bool.and_false, Bool.false_and, eq_self, not_true_eq_false, not_false_eq_true, and_self, and_true, true_and, false_and, and_false, w_dv, dvm, XSH_e hX]
end TKS
