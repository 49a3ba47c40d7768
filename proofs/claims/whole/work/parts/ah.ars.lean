/-! arranged: the class's call -/
section ARS
variable {vn vc vw : Nat} {K L : Nat → Nat} {R : Nat → Nat → Nat} {I : Nat → Nat → Int32} {J : Nat → Nat → Int64}
/-- the table, above g -/
def ArT (I : Nat → Nat → Int32) (O pr : Int → Int) (n : Nat) (lo : Int) : Prop := ∀ g : Nat, lo < (g : Int) → g < 2 ^ n → I 284 g = w (Lv O pr n (n - pop g) g)
theorem lp_76k {d n r g : Nat} {b : Int} {m O pr : Int → Int} (hA : ArI K L R I m O pr n) (hg : g < 2 ^ n) (hp : pop g + (r + 1) = n) (hT : ArT I O pr n g) :
    ∀ (q k : Nat) (a : Int), k + q = n → (0 ≤ a ∧ a ≤ 1000000000) → atv PR (d + 3) cd_76 22 [.ref 283, .ref 91, .int (w b), .int (w (n : Int)), .int (w ((2 ^ n - 1 : Nat) : Int)), .int (w (g : Int)), .int (w a), .int (w (k : Int))] [] (((vn, vc, vw, K, L, R), I, J) : HS) = atv PR (d + 3) cd_76 16 [.ref 283, .ref 91, .int (w b), .int (w (n : Int)), .int (w ((2 ^ n - 1 : Nat) : Int)), .int (w ((g : Int) - 1)), .int (w (fP (fun k a => if (!g.testBit k.toNat) = true then min (O (pop g) * pr k + Lv O pr n r (g + 2 ^ k.toNat)) a else a) (k : Int) q a)), .int (w (n : Int))] [] (((vn, vc, vw, K, L, R), u2 I 284 g (w (fP (fun k a => if (!g.testBit k.toNat) = true then min (O (pop g) * pr k + Lv O pr n r (g + 2 ^ k.toNat)) a else a) (k : Int) q a)), J) : HS) := by
  have hA' := hA
  obtain ⟨hX, h2, h3, h4, h5, h6, h7, h8, h9, h10⟩ := hA
  have g10 : 2 ^ n ≤ 2 ^ 10 := Nat.pow_le_pow_right (by omega) h6
  have e10 : (2 : Nat) ^ 10 = 1024 := rfl
  intro q
  induction q with
  | zero =>
    intro k a hk ha
    have ek : k = n := by omega
    subst ek
    have ef : fP (fun j a => if (!g.testBit j.toNat) = true then min (O (pop g) * pr j + Lv O pr k r (g + 2 ^ j.toNat)) a else a) (k : Int) 0 a = a := rfl
    have s69 := sp_69 (d := d + 2) (g := g) (v := w a) (vn := vn) (vc := vc) (vw := vw) (J := J) (I := I) hX (by omega)
    have e1 : (g : Int) + -1 = g - 1 := by omega
    rw [ef, eq_76_22]
    simp (disch := first | assumption | omega | (simp (disch := omega) only [vM_u, vS_u]; first | assumption | omega)) only [hK, hL, hR, hI, hN, sI, hSp, hC, hW, li, lr, ↓cnd_a, ↓cnd_o, ↓cnd_n, ↓cnd_d, ↓z0, ↓z1, ↓z2, y0n, y1i, y2r, y0e, y1e, y2e, wl_0, wl_1, wl_2, wl_3, wl_4, wl_5, wl_6, wl_7, wl_8, wl_9, wl_10, wl_11, wl_12, wl_13, wl_14, wl_15, wl_16, wl_17, wl_18, wl_19, wl_20, wl_21, wl_22, wl_23, wl_24, wl_25, wl_26, wl_27, wl_28, wl_29, wl_30, wl_31, wl_32, wl_33, wl_34, wl_35, wl_36, wl_37, wl_38, wl_39, wl_40, wl_41, wl_42, wl_43, wl_44, wl_45, wl_46, wl_47, wl_48, wl_49, wl_50, wl_51, wl_52, wl_53, wl_54, wl_55, wl_56, wl_57, wl_58, wl_59, wl_60, wl_61, wl_62, wl_63, wl_64, wl_65, wl_66, wl_67, wl_68, wl_69, wl_70, wl_71, wl_72, wl_73, wl_74, wl_75, wl_76, wl_77, wl_78, wl_79, wl_80, wl_81, wl_82, wl_83, wl_84, wl_85, wl_86, wl_87, wl_88, wl_89, wl_90, wl_91, wl_92, wl_93, wl_94, wl_95, wl_96, wl_97, wl_98, wl_99, wl_100, wl_101, wl_102, wl_103, wl_104, wl_105, wl_106, wl_107, wl_108, wl_109, wl_110, wl_111, wl_112, wl_113, wl_114, wl_115, wl_116, wl_117, wl_118, wl_119, wl_120, wl_121, wl_122, wl_123, wl_124, wl_125, wl_126, wl_127, wl_128, wl_129, wl_130, wl_159, wl_160, wl_200, wl_232, wl_255, wl_256, wl_300, wl_359, wl_360, wl_400, wl_592, wl_992, wl_999, wl_1000, wl_1024, wl_3456, wl_6512, wl_7104, wl_10000, wl_11264, wl_12345, wl_32767, wl_1000000000, wl_1103515245, wl_2000000000, w_add, w_sub, w_mul, w_neg, w_lt, w_le, w_eq, w_cl, w_in, w_nat, w_max2, w_min2, w_abs2, iltT, iltF, ileT, ileF, ieqT, ieqF, bv_01, bft, bv_0, bv_1, bv_t, bv_f, cond_true, cond_false, Bool.not_true, Bool.not_false, if_true, if_false, true_or, or_true, true_and, and_true, ↓reduceIte, decide_true, decide_false, reduceCtorEq, u2_s, u2_o, u2_k, u2_u2, Bool.true_or, Bool.or_true, Bool.false_or, Bool.or_false, Bool.and_true, Bool.true_and, Bool.and_false, Bool.false_and, eq_self, not_true_eq_false, not_false_eq_true, and_self, and_true, true_and, false_and, and_false, w_dv, dvm, XSH_e hX, s69, e1]
  | succ q ih =>
    intro k a hk ha
    have e1 : ((k : Int) + 1) = ((k + 1 : Nat) : Int) := by omega
    have ef : fP (fun j a => if (!g.testBit j.toNat) = true then min (O (pop g) * pr j + Lv O pr n r (g + 2 ^ j.toNat)) a else a) (k : Int) (q + 1) a = fP (fun j a => if (!g.testBit j.toNat) = true then min (O (pop g) * pr j + Lv O pr n r (g + 2 ^ j.toNat)) a else a) ((k + 1 : Nat) : Int) q (if (!g.testBit (k : Int).toNat) = true then min (O (pop g) * pr k + Lv O pr n r (g + 2 ^ (k : Int).toNat)) a else a) := by rw [← e1]; rfl
    have t := tb_ad (w (g : Int)) k (by omega)
    have wt : tb32 (w (g : Int)) k = g.testBit k := w_tst ⟨g, by omega⟩ ⟨k, by omega⟩
    rw [wt] at t
    rw [ef, Int.toNat_natCast, eq_76_22]
    cases c : g.testBit k with
    | true =>
      have tn : ¬((w (g : Int) &&& (w 1 <<< (w (k : Int) &&& w 31))) = w 0) := fun z => by have := t.mp z; rw [c] at this; exact nomatch this
      rw [Bool.not_true, if_neg (by decide), ← ih (k + 1) a (by omega) ha]
      simp (disch := first | assumption | omega | (simp (disch := omega) only [vM_u, vS_u]; first | assumption | omega)) only [hK, hL, hR, hI, hN, sI, hSp, hC, hW, li, lr, ↓cnd_a, ↓cnd_o, ↓cnd_n, ↓cnd_d, ↓z0, ↓z1, ↓z2, y0n, y1i, y2r, y0e, y1e, y2e, wl_0, wl_1, wl_2, wl_3, wl_4, wl_5, wl_6, wl_7, wl_8, wl_9, wl_10, wl_11, wl_12, wl_13, wl_14, wl_15, wl_16, wl_17, wl_18, wl_19, wl_20, wl_21, wl_22, wl_23, wl_24, wl_25, wl_26, wl_27, wl_28, wl_29, wl_30, wl_31, wl_32, wl_33, wl_34, wl_35, wl_36, wl_37, wl_38, wl_39, wl_40, wl_41, wl_42, wl_43, wl_44, wl_45, wl_46, wl_47, wl_48, wl_49, wl_50, wl_51, wl_52, wl_53, wl_54, wl_55, wl_56, wl_57, wl_58, wl_59, wl_60, wl_61, wl_62, wl_63, wl_64, wl_65, wl_66, wl_67, wl_68, wl_69, wl_70, wl_71, wl_72, wl_73, wl_74, wl_75, wl_76, wl_77, wl_78, wl_79, wl_80, wl_81, wl_82, wl_83, wl_84, wl_85, wl_86, wl_87, wl_88, wl_89, wl_90, wl_91, wl_92, wl_93, wl_94, wl_95, wl_96, wl_97, wl_98, wl_99, wl_100, wl_101, wl_102, wl_103, wl_104, wl_105, wl_106, wl_107, wl_108, wl_109, wl_110, wl_111, wl_112, wl_113, wl_114, wl_115, wl_116, wl_117, wl_118, wl_119, wl_120, wl_121, wl_122, wl_123, wl_124, wl_125, wl_126, wl_127, wl_128, wl_129, wl_130, wl_159, wl_160, wl_200, wl_232, wl_255, wl_256, wl_300, wl_359, wl_360, wl_400, wl_592, wl_992, wl_999, wl_1000, wl_1024, wl_3456, wl_6512, wl_7104, wl_10000, wl_11264, wl_12345, wl_32767, wl_1000000000, wl_1103515245, wl_2000000000, w_add, w_sub, w_mul, w_neg, w_lt, w_le, w_eq, w_cl, w_in, w_nat, w_max2, w_min2, w_abs2, iltT, iltF, ileT, ileF, ieqT, ieqF, bv_01, bft, bv_0, bv_1, bv_t, bv_f, cond_true, cond_false, Bool.not_true, Bool.not_false, if_true, if_false, true_or, or_true, true_and, and_true, ↓reduceIte, decide_true, decide_false, reduceCtorEq, u2_s, u2_o, u2_k, u2_u2, Bool.true_or, Bool.or_true, Bool.false_or, Bool.or_false, Bool.and_true, Bool.true_and, Bool.and_false, Bool.false_and, eq_self, not_true_eq_false, not_false_eq_true, and_self, and_true, true_and, false_and, and_false, w_dv, dvm, tn, e1]
    | false =>
      have ty := t.mpr c
      have hs := pop_s h6 hg (by omega) c
      have hv : I 284 (g + 2 ^ k) = w (Lv O pr n r (g + 2 ^ k)) := by
        have := hT (g + 2 ^ k) (by have := Nat.two_pow_pos k; omega) hs.1
        rw [show n - pop (g + 2 ^ k) = r by omega] at this
        exact this
      have s77 := sp_77 (d := d + 1) (k := k) (r := r) (vn := vn) (vc := vc) (vw := vw) (J := J) hA' hg (by omega) c hp hv
      have bl1 := Lv_b h6 h9 h10 r (g + 2 ^ k) hs.1 (by omega)
      have hr := h10 k (by omega) (by omega)
      have bo : 0 ≤ O (pop g) * pr k ∧ O (pop g) * pr k ≤ 10000 * 999 := ⟨Int.mul_nonneg (h9 _).1 hr.1, Int.mul_le_mul (h9 _).2 hr.2 hr.1 (by omega)⟩
      have br : (r : Int) * 9990000 ≤ 10 * 9990000 := Int.mul_le_mul_of_nonneg_right (by omega) (by omega)
      rw [Bool.not_false, if_pos rfl, ← ih (k + 1) (min (O (pop g) * pr k + Lv O pr n r (g + 2 ^ k)) a) (by omega) (by omega)]
      simp (disch := first | assumption | omega | (simp (disch := omega) only [vM_u, vS_u]; first | assumption | omega)) only [hK, hL, hR, hI, hN, sI, hSp, hC, hW, li, lr, ↓cnd_a, ↓cnd_o, ↓cnd_n, ↓cnd_d, ↓z0, ↓z1, ↓z2, y0n, y1i, y2r, y0e, y1e, y2e, wl_0, wl_1, wl_2, wl_3, wl_4, wl_5, wl_6, wl_7, wl_8, wl_9, wl_10, wl_11, wl_12, wl_13, wl_14, wl_15, wl_16, wl_17, wl_18, wl_19, wl_20, wl_21, wl_22, wl_23, wl_24, wl_25, wl_26, wl_27, wl_28, wl_29, wl_30, wl_31, wl_32, wl_33, wl_34, wl_35, wl_36, wl_37, wl_38, wl_39, wl_40, wl_41, wl_42, wl_43, wl_44, wl_45, wl_46, wl_47, wl_48, wl_49, wl_50, wl_51, wl_52, wl_53, wl_54, wl_55, wl_56, wl_57, wl_58, wl_59, wl_60, wl_61, wl_62, wl_63, wl_64, wl_65, wl_66, wl_67, wl_68, wl_69, wl_70, wl_71, wl_72, wl_73, wl_74, wl_75, wl_76, wl_77, wl_78, wl_79, wl_80, wl_81, wl_82, wl_83, wl_84, wl_85, wl_86, wl_87, wl_88, wl_89, wl_90, wl_91, wl_92, wl_93, wl_94, wl_95, wl_96, wl_97, wl_98, wl_99, wl_100, wl_101, wl_102, wl_103, wl_104, wl_105, wl_106, wl_107, wl_108, wl_109, wl_110, wl_111, wl_112, wl_113, wl_114, wl_115, wl_116, wl_117, wl_118, wl_119, wl_120, wl_121, wl_122, wl_123, wl_124, wl_125, wl_126, wl_127, wl_128, wl_129, wl_130, wl_159, wl_160, wl_200, wl_232, wl_255, wl_256, wl_300, wl_359, wl_360, wl_400, wl_592, wl_992, wl_999, wl_1000, wl_1024, wl_3456, wl_6512, wl_7104, wl_10000, wl_11264, wl_12345, wl_32767, wl_1000000000, wl_1103515245, wl_2000000000, w_add, w_sub, w_mul, w_neg, w_lt, w_le, w_eq, w_cl, w_in, w_nat, w_max2, w_min2, w_abs2, iltT, iltF, ileT, ileF, ieqT, ieqF, bv_01, bft, bv_0, bv_1, bv_t, bv_f, cond_true, cond_false, Bool.not_true, Bool.not_false, if_true, if_false, true_or, or_true, true_and, and_true, ↓reduceIte, decide_true, decide_false, reduceCtorEq, u2_s, u2_o, u2_k, u2_u2, Bool.true_or, Bool.or_true, Bool.false_or, Bool.or_false, Bool.and_true, Bool.true_and, Bool.and_false, Bool.false_and, eq_self, not_true_eq_false, not_false_eq_true, and_self, and_true, true_and, false_and, and_false, w_dv, dvm, XSH_e hX, ty, s77, e1]
theorem lp_76 {d n : Nat} {b : Int} {m O pr : Int → Int} : ∀ (q : Nat) (g : Int) (I : Nat → Nat → Int32) (w6 w7 : Value), g + 1 = q → q < 2 ^ n → ArI K L R I m O pr n → ArT I O pr n g → ∃ I' v6 v7, atv PR (d + 3) cd_76 16 [.ref 283, .ref 91, .int (w b), .int (w (n : Int)), .int (w ((2 ^ n - 1 : Nat) : Int)), .int (w g), w6, w7] [] (((vn, vc, vw, K, L, R), I, J) : HS) = atv PR (d + 3) cd_76 16 [.ref 283, .ref 91, .int (w b), .int (w (n : Int)), .int (w ((2 ^ n - 1 : Nat) : Int)), .int (w (-1)), v6, v7] [] (((vn, vc, vw, K, L, R), I', J) : HS) ∧ ArI K L R I' m O pr n ∧ ArT I' O pr n (-1) ∧ ∀ a k, a ≠ 284 → I' a k = I a k := by
  intro q
  induction q with
  | zero =>
    intro g I w6 w7 hq hq2 hA hT
    have eg : g = -1 := by omega
    subst eg
    exact ⟨I, w6, w7, rfl, hA, hT, fun _ _ _ => rfl⟩
  | succ q ih =>
    intro g I w6 w7 hq hq2 hA hT
    have eg : g = (q : Int) := by omega
    subst eg
    have h6 := hA.2.2.2.2.2.1
    have g10 : 2 ^ n ≤ 2 ^ 10 := Nat.pow_le_pow_right (by omega) h6
    have e10 : (2 : Nat) ^ 10 = 1024 := rfl
    have hpf := pop_f h6 (g := q) (by omega)
    have hr : pop q + ((n - pop q - 1) + 1) = n := by
      have : pop q ≠ n := fun z => by have := hpf.2.2 z; omega
      omega
    have l1 := lp_76k (d := d) (b := b) (r := n - pop q - 1) (g := q) (vn := vn) (vc := vc) (vw := vw) (J := J) hA (by omega) hr hT n 0 1000000000 (by omega) (by omega)
    have eL : fP (fun k a => if (!q.testBit k.toNat) = true then min (O (pop q) * pr k + Lv O pr n (n - pop q - 1) (q + 2 ^ k.toNat)) a else a) ((0 : Nat) : Int) n 1000000000 = Lv O pr n (n - pop q) q := by
      rw [show n - pop q = (n - pop q - 1) + 1 by omega]
      rfl
    rw [eL] at l1
    obtain ⟨I', v6, v7, e1, e2, e3, e4⟩ := ih ((q : Int) - 1) (u2 I 284 q (w (Lv O pr n (n - pop q) q))) (.int (w (Lv O pr n (n - pop q) q))) (.int (w (n : Int))) (by omega) (by omega) (ArI_u hA) (fun g' h1 h2 => by
      rw [u2_r]
      by_cases c : g' = q
      · rw [if_pos ⟨rfl, c⟩, c]
      · rw [if_neg (fun z => c z.2)]
        exact hT g' (by omega) h2)
    refine ⟨I', v6, v7, ?_, e2, e3, fun a k x => by rw [e4 a k x, u2_o _ _ _ _ x]⟩
    have e0 : ((0 : Nat) : Int) = 0 := rfl
    rw [e0] at l1
    rw [← e1, ← l1, eq_76_16]
    simp (disch := first | assumption | omega | (simp (disch := omega) only [vM_u, vS_u]; first | assumption | omega)) only [hK, hL, hR, hI, hN, sI, hSp, hC, hW, li, lr, ↓cnd_a, ↓cnd_o, ↓cnd_n, ↓cnd_d, ↓z0, ↓z1, ↓z2, y0n, y1i, y2r, y0e, y1e, y2e, wl_0, wl_1, wl_2, wl_3, wl_4, wl_5, wl_6, wl_7, wl_8, wl_9, wl_10, wl_11, wl_12, wl_13, wl_14, wl_15, wl_16, wl_17, wl_18, wl_19, wl_20, wl_21, wl_22, wl_23, wl_24, wl_25, wl_26, wl_27, wl_28, wl_29, wl_30, wl_31, wl_32, wl_33, wl_34, wl_35, wl_36, wl_37, wl_38, wl_39, wl_40, wl_41, wl_42, wl_43, wl_44, wl_45, wl_46, wl_47, wl_48, wl_49, wl_50, wl_51, wl_52, wl_53, wl_54, wl_55, wl_56, wl_57, wl_58, wl_59, wl_60, wl_61, wl_62, wl_63, wl_64, wl_65, wl_66, wl_67, wl_68, wl_69, wl_70, wl_71, wl_72, wl_73, wl_74, wl_75, wl_76, wl_77, wl_78, wl_79, wl_80, wl_81, wl_82, wl_83, wl_84, wl_85, wl_86, wl_87, wl_88, wl_89, wl_90, wl_91, wl_92, wl_93, wl_94, wl_95, wl_96, wl_97, wl_98, wl_99, wl_100, wl_101, wl_102, wl_103, wl_104, wl_105, wl_106, wl_107, wl_108, wl_109, wl_110, wl_111, wl_112, wl_113, wl_114, wl_115, wl_116, wl_117, wl_118, wl_119, wl_120, wl_121, wl_122, wl_123, wl_124, wl_125, wl_126, wl_127, wl_128, wl_129, wl_130, wl_159, wl_160, wl_200, wl_232, wl_255, wl_256, wl_300, wl_359, wl_360, wl_400, wl_592, wl_992, wl_999, wl_1000, wl_1024, wl_3456, wl_6512, wl_7104, wl_10000, wl_11264, wl_12345, wl_32767, wl_1000000000, wl_1103515245, wl_2000000000, w_add, w_sub, w_mul, w_neg, w_lt, w_le, w_eq, w_cl, w_in, w_nat, w_max2, w_min2, w_abs2, iltT, iltF, ileT, ileF, ieqT, ieqF, bv_01, bft, bv_0, bv_1, bv_t, bv_f, cond_true, cond_false, Bool.not_true, Bool.not_false, if_true, if_false, true_or, or_true, true_and, and_true, ↓reduceIte, decide_true, decide_false, reduceCtorEq, u2_s, u2_o, u2_k, u2_u2, Bool.true_or, Bool.or_true, Bool.false_or, Bool.or_false, Bool.and_true, Bool.true_and, Bool.and_false, Bool.false_and, eq_self, not_true_eq_false, not_false_eq_true, and_self, and_true, true_and, false_and, and_false, w_dv, dvm]
theorem Lv_x {O pr : Int → Int} {n g : Nat} (hn : n ≤ 10) (hg : g < 2 ^ n) (hp : pop g < n) (hO : ∀ j, 0 ≤ O j ∧ O j ≤ 10000) (hr : ∀ k, 0 ≤ k → k < (n : Int) → 0 ≤ pr k ∧ pr k ≤ 999) : ∃ j, (0 ≤ j ∧ j < n ∧ g.testBit j = false) ∧ O (pop g) * pr j + Lv O pr n (n - pop g - 1) (g + 2 ^ j) = Lv O pr n (n - pop g) g := by
  obtain ⟨_, k, ⟨k1, k2⟩, h⟩ := Lv_s (r := n - pop g - 1) hn hg (by omega) hO hr (fun g' a b => Lv_b hn hO hr _ g' a b)
  rw [show n - pop g - 1 + 1 = n - pop g by omega] at h
  exact ⟨k, ⟨by omega, k1, k2⟩, h.symm⟩
theorem sp_79 {d n g : Nat} {m O pr : Int → Int} (hA : ArI K L R I m O pr n) (hg : g < 2 ^ n) (hp : pop g < n) (hT : ArT I O pr n (-1)) : ev PR (d + 4) 79 [.ref 283, .ref 91, .int (w (g : Int))] (((vn, vc, vw, K, L, R), I, J) : HS) = some (.inl (some (.int (w ((fsF O pr n g 0 n : Nat) : Int)))), (((vn, vc, vw, K, L, R), I, J) : HS)) := by
  have hA' := hA
  obtain ⟨hX, h2, h3, h4, h5, h6, h7, h8, h9, h10⟩ := hA
  have g10 : 2 ^ n ≤ 2 ^ 10 := Nat.pow_le_pow_right (by omega) h6
  have e10 : (2 : Nat) ^ 10 = 1024 := rfl
  have kq := (SHq_e h2).1
  have rb := (SHq_e h2).2.1
  have kb := (SHq_e h2).2.2.2.2.2.2.2.1.1
  have s92 := sp_92b (d := d + 2) (q := 91) (I := I) (vn := vn) (vc := vc) (vw := vw) (J := J) h2
  rw [h4, h5] at s92
  have hvg := hT g (by omega) hg
  have s68 := sp_68 (d := d + 2) (vn := vn) (vc := vc) (vw := vw) (J := J) hX (by omega) hvg
  have bg := Lv_b h6 h9 h10 (n - pop g) g hg (by omega)
  have lp : ∀ (q k : Nat), k + q = n → atv PR (d + 3) cd_79 2 [.ref 283, .ref 91, .int (w (g : Int)), .int (w (k : Int))] [] (((vn, vc, vw, K, L, R), I, J) : HS) = some (.inl (some (.int (w ((fsF O pr n g k q : Nat) : Int)))), (((vn, vc, vw, K, L, R), I, J) : HS)) := by
    intro q
    induction q with
    | zero =>
      intro k hk
      have ek : k = n := by omega
      rw [eq_79_2]
      simp (disch := first | assumption | omega | (simp (disch := omega) only [vM_u, vS_u]; first | assumption | omega)) only [hK, hL, hR, hI, hN, sI, hSp, hC, hW, li, lr, ↓cnd_a, ↓cnd_o, ↓cnd_n, ↓cnd_d, ↓z0, ↓z1, ↓z2, y0n, y1i, y2r, y0e, y1e, y2e, wl_0, wl_1, wl_2, wl_3, wl_4, wl_5, wl_6, wl_7, wl_8, wl_9, wl_10, wl_11, wl_12, wl_13, wl_14, wl_15, wl_16, wl_17, wl_18, wl_19, wl_20, wl_21, wl_22, wl_23, wl_24, wl_25, wl_26, wl_27, wl_28, wl_29, wl_30, wl_31, wl_32, wl_33, wl_34, wl_35, wl_36, wl_37, wl_38, wl_39, wl_40, wl_41, wl_42, wl_43, wl_44, wl_45, wl_46, wl_47, wl_48, wl_49, wl_50, wl_51, wl_52, wl_53, wl_54, wl_55, wl_56, wl_57, wl_58, wl_59, wl_60, wl_61, wl_62, wl_63, wl_64, wl_65, wl_66, wl_67, wl_68, wl_69, wl_70, wl_71, wl_72, wl_73, wl_74, wl_75, wl_76, wl_77, wl_78, wl_79, wl_80, wl_81, wl_82, wl_83, wl_84, wl_85, wl_86, wl_87, wl_88, wl_89, wl_90, wl_91, wl_92, wl_93, wl_94, wl_95, wl_96, wl_97, wl_98, wl_99, wl_100, wl_101, wl_102, wl_103, wl_104, wl_105, wl_106, wl_107, wl_108, wl_109, wl_110, wl_111, wl_112, wl_113, wl_114, wl_115, wl_116, wl_117, wl_118, wl_119, wl_120, wl_121, wl_122, wl_123, wl_124, wl_125, wl_126, wl_127, wl_128, wl_129, wl_130, wl_159, wl_160, wl_200, wl_232, wl_255, wl_256, wl_300, wl_359, wl_360, wl_400, wl_592, wl_992, wl_999, wl_1000, wl_1024, wl_3456, wl_6512, wl_7104, wl_10000, wl_11264, wl_12345, wl_32767, wl_1000000000, wl_1103515245, wl_2000000000, w_add, w_sub, w_mul, w_neg, w_lt, w_le, w_eq, w_cl, w_in, w_nat, w_max2, w_min2, w_abs2, iltT, iltF, ileT, ileF, ieqT, ieqF, bv_01, bft, bv_0, bv_1, bv_t, bv_f, cond_true, cond_false, Bool.not_true, Bool.not_false, if_true, if_false, true_or, or_true, true_and, and_true, ↓reduceIte, decide_true, decide_false, reduceCtorEq, u2_s, u2_o, u2_k, u2_u2, Bool.true_or, Bool.or_true, Bool.false_or, Bool.or_false, Bool.and_true, Bool.true_and, Bool.and_false, Bool.false_and, eq_self, not_true_eq_false, not_false_eq_true, and_self, and_true, true_and, false_and, and_false, w_dv, dvm, XSH_e hX, kq, rb, kb, s92]
      all_goals rfl
    | succ q ih =>
      intro k hk
      have e1 : ((k : Int) + 1) = ((k + 1 : Nat) : Int) := by omega
      have t := tb_ad (w (g : Int)) k (by omega)
      have wt : tb32 (w (g : Int)) k = g.testBit k := w_tst ⟨g, by omega⟩ ⟨k, by omega⟩
      rw [wt] at t
      have g1 := ih (k + 1) (by omega)
      have ef : fsF O pr n g k (q + 1) = if g.testBit k = false ∧ O (pop g) * pr k + Lv O pr n (n - pop g - 1) (g + 2 ^ k) = Lv O pr n (n - pop g) g then k else fsF O pr n g (k + 1) q := rfl
      rw [ef, eq_79_2]
      cases c : g.testBit k with
      | true =>
        have tn : ¬((w (g : Int) &&& (w 1 <<< (w (k : Int) &&& w 31))) = w 0) := fun z => by have := t.mp z; rw [c] at this; exact nomatch this
        rw [if_neg (fun z => nomatch z.1)]
        simp (disch := first | assumption | omega | (simp (disch := omega) only [vM_u, vS_u]; first | assumption | omega)) only [hK, hL, hR, hI, hN, sI, hSp, hC, hW, li, lr, ↓cnd_a, ↓cnd_o, ↓cnd_n, ↓cnd_d, ↓z0, ↓z1, ↓z2, y0n, y1i, y2r, y0e, y1e, y2e, wl_0, wl_1, wl_2, wl_3, wl_4, wl_5, wl_6, wl_7, wl_8, wl_9, wl_10, wl_11, wl_12, wl_13, wl_14, wl_15, wl_16, wl_17, wl_18, wl_19, wl_20, wl_21, wl_22, wl_23, wl_24, wl_25, wl_26, wl_27, wl_28, wl_29, wl_30, wl_31, wl_32, wl_33, wl_34, wl_35, wl_36, wl_37, wl_38, wl_39, wl_40, wl_41, wl_42, wl_43, wl_44, wl_45, wl_46, wl_47, wl_48, wl_49, wl_50, wl_51, wl_52, wl_53, wl_54, wl_55, wl_56, wl_57, wl_58, wl_59, wl_60, wl_61, wl_62, wl_63, wl_64, wl_65, wl_66, wl_67, wl_68, wl_69, wl_70, wl_71, wl_72, wl_73, wl_74, wl_75, wl_76, wl_77, wl_78, wl_79, wl_80, wl_81, wl_82, wl_83, wl_84, wl_85, wl_86, wl_87, wl_88, wl_89, wl_90, wl_91, wl_92, wl_93, wl_94, wl_95, wl_96, wl_97, wl_98, wl_99, wl_100, wl_101, wl_102, wl_103, wl_104, wl_105, wl_106, wl_107, wl_108, wl_109, wl_110, wl_111, wl_112, wl_113, wl_114, wl_115, wl_116, wl_117, wl_118, wl_119, wl_120, wl_121, wl_122, wl_123, wl_124, wl_125, wl_126, wl_127, wl_128, wl_129, wl_130, wl_159, wl_160, wl_200, wl_232, wl_255, wl_256, wl_300, wl_359, wl_360, wl_400, wl_592, wl_992, wl_999, wl_1000, wl_1024, wl_3456, wl_6512, wl_7104, wl_10000, wl_11264, wl_12345, wl_32767, wl_1000000000, wl_1103515245, wl_2000000000, w_add, w_sub, w_mul, w_neg, w_lt, w_le, w_eq, w_cl, w_in, w_nat, w_max2, w_min2, w_abs2, iltT, iltF, ileT, ileF, ieqT, ieqF, bv_01, bft, bv_0, bv_1, bv_t, bv_f, cond_true, cond_false, Bool.not_true, Bool.not_false, if_true, if_false, true_or, or_true, true_and, and_true, ↓reduceIte, decide_true, decide_false, reduceCtorEq, u2_s, u2_o, u2_k, u2_u2, Bool.true_or, Bool.or_true, Bool.false_or, Bool.or_false, Bool.and_true, Bool.true_and, Bool.and_false, Bool.false_and, eq_self, not_true_eq_false, not_false_eq_true, and_self, and_true, true_and, false_and, and_false, w_dv, dvm, XSH_e hX, kq, rb, kb, s92, tn, e1, g1]
      | false =>
        have ty := t.mpr c
        have hs := pop_s h6 hg (by omega) c
        have hv : I 284 (g + 2 ^ k) = w (Lv O pr n (n - pop g - 1) (g + 2 ^ k)) := by
          have := hT (g + 2 ^ k) (by omega) hs.1
          rw [show n - pop (g + 2 ^ k) = n - pop g - 1 by omega] at this
          exact this
        have s77 := sp_77 (d := d + 1) (k := k) (r := n - pop g - 1) (vn := vn) (vc := vc) (vw := vw) (J := J) hA' hg (by omega) c (by omega) hv
        have bl1 := Lv_b h6 h9 h10 (n - pop g - 1) (g + 2 ^ k) hs.1 (by omega)
        have hr := h10 k (by omega) (by omega)
        have bo : 0 ≤ O (pop g) * pr k ∧ O (pop g) * pr k ≤ 10000 * 999 := ⟨Int.mul_nonneg (h9 _).1 hr.1, Int.mul_le_mul (h9 _).2 hr.2 hr.1 (by omega)⟩
        have br : ((n - pop g - 1 : Nat) : Int) * 9990000 ≤ 10 * 9990000 := Int.mul_le_mul_of_nonneg_right (by omega) (by omega)
        have br2 : ((n - pop g : Nat) : Int) * 9990000 ≤ 10 * 9990000 := Int.mul_le_mul_of_nonneg_right (by omega) (by omega)
        by_cases c2 : O (pop g) * pr k + Lv O pr n (n - pop g - 1) (g + 2 ^ k) = Lv O pr n (n - pop g) g
        · rw [if_pos ⟨rfl, c2⟩]
          rw [c2] at s77
          simp (disch := first | assumption | omega | (simp (disch := omega) only [vM_u, vS_u]; first | assumption | omega)) only [hK, hL, hR, hI, hN, sI, hSp, hC, hW, li, lr, ↓cnd_a, ↓cnd_o, ↓cnd_n, ↓cnd_d, ↓z0, ↓z1, ↓z2, y0n, y1i, y2r, y0e, y1e, y2e, wl_0, wl_1, wl_2, wl_3, wl_4, wl_5, wl_6, wl_7, wl_8, wl_9, wl_10, wl_11, wl_12, wl_13, wl_14, wl_15, wl_16, wl_17, wl_18, wl_19, wl_20, wl_21, wl_22, wl_23, wl_24, wl_25, wl_26, wl_27, wl_28, wl_29, wl_30, wl_31, wl_32, wl_33, wl_34, wl_35, wl_36, wl_37, wl_38, wl_39, wl_40, wl_41, wl_42, wl_43, wl_44, wl_45, wl_46, wl_47, wl_48, wl_49, wl_50, wl_51, wl_52, wl_53, wl_54, wl_55, wl_56, wl_57, wl_58, wl_59, wl_60, wl_61, wl_62, wl_63, wl_64, wl_65, wl_66, wl_67, wl_68, wl_69, wl_70, wl_71, wl_72, wl_73, wl_74, wl_75, wl_76, wl_77, wl_78, wl_79, wl_80, wl_81, wl_82, wl_83, wl_84, wl_85, wl_86, wl_87, wl_88, wl_89, wl_90, wl_91, wl_92, wl_93, wl_94, wl_95, wl_96, wl_97, wl_98, wl_99, wl_100, wl_101, wl_102, wl_103, wl_104, wl_105, wl_106, wl_107, wl_108, wl_109, wl_110, wl_111, wl_112, wl_113, wl_114, wl_115, wl_116, wl_117, wl_118, wl_119, wl_120, wl_121, wl_122, wl_123, wl_124, wl_125, wl_126, wl_127, wl_128, wl_129, wl_130, wl_159, wl_160, wl_200, wl_232, wl_255, wl_256, wl_300, wl_359, wl_360, wl_400, wl_592, wl_992, wl_999, wl_1000, wl_1024, wl_3456, wl_6512, wl_7104, wl_10000, wl_11264, wl_12345, wl_32767, wl_1000000000, wl_1103515245, wl_2000000000, w_add, w_sub, w_mul, w_neg, w_lt, w_le, w_eq, w_cl, w_in, w_nat, w_max2, w_min2, w_abs2, iltT, iltF, ileT, ileF, ieqT, ieqF, bv_01, bft, bv_0, bv_1, bv_t, bv_f, cond_true, cond_false, Bool.not_true, Bool.not_false, if_true, if_false, true_or, or_true, true_and, and_true, ↓reduceIte, decide_true, decide_false, reduceCtorEq, u2_s, u2_o, u2_k, u2_u2, Bool.true_or, Bool.or_true, Bool.false_or, Bool.or_false, Bool.and_true, Bool.true_and, Bool.and_false, Bool.false_and, eq_self, not_true_eq_false, not_false_eq_true, and_self, and_true, true_and, false_and, and_false, w_dv, dvm, XSH_e hX, kq, rb, kb, s92, ty, s77, s68]
        · rw [if_neg (fun z => c2 z.2)]
          simp (disch := first | assumption | omega | (simp (disch := omega) only [vM_u, vS_u]; first | assumption | omega)) only [hK, hL, hR, hI, hN, sI, hSp, hC, hW, li, lr, ↓cnd_a, ↓cnd_o, ↓cnd_n, ↓cnd_d, ↓z0, ↓z1, ↓z2, y0n, y1i, y2r, y0e, y1e, y2e, wl_0, wl_1, wl_2, wl_3, wl_4, wl_5, wl_6, wl_7, wl_8, wl_9, wl_10, wl_11, wl_12, wl_13, wl_14, wl_15, wl_16, wl_17, wl_18, wl_19, wl_20, wl_21, wl_22, wl_23, wl_24, wl_25, wl_26, wl_27, wl_28, wl_29, wl_30, wl_31, wl_32, wl_33, wl_34, wl_35, wl_36, wl_37, wl_38, wl_39, wl_40, wl_41, wl_42, wl_43, wl_44, wl_45, wl_46, wl_47, wl_48, wl_49, wl_50, wl_51, wl_52, wl_53, wl_54, wl_55, wl_56, wl_57, wl_58, wl_59, wl_60, wl_61, wl_62, wl_63, wl_64, wl_65, wl_66, wl_67, wl_68, wl_69, wl_70, wl_71, wl_72, wl_73, wl_74, wl_75, wl_76, wl_77, wl_78, wl_79, wl_80, wl_81, wl_82, wl_83, wl_84, wl_85, wl_86, wl_87, wl_88, wl_89, wl_90, wl_91, wl_92, wl_93, wl_94, wl_95, wl_96, wl_97, wl_98, wl_99, wl_100, wl_101, wl_102, wl_103, wl_104, wl_105, wl_106, wl_107, wl_108, wl_109, wl_110, wl_111, wl_112, wl_113, wl_114, wl_115, wl_116, wl_117, wl_118, wl_119, wl_120, wl_121, wl_122, wl_123, wl_124, wl_125, wl_126, wl_127, wl_128, wl_129, wl_130, wl_159, wl_160, wl_200, wl_232, wl_255, wl_256, wl_300, wl_359, wl_360, wl_400, wl_592, wl_992, wl_999, wl_1000, wl_1024, wl_3456, wl_6512, wl_7104, wl_10000, wl_11264, wl_12345, wl_32767, wl_1000000000, wl_1103515245, wl_2000000000, w_add, w_sub, w_mul, w_neg, w_lt, w_le, w_eq, w_cl, w_in, w_nat, w_max2, w_min2, w_abs2, iltT, iltF, ileT, ileF, ieqT, ieqF, bv_01, bft, bv_0, bv_1, bv_t, bv_f, cond_true, cond_false, Bool.not_true, Bool.not_false, if_true, if_false, true_or, or_true, true_and, and_true, ↓reduceIte, decide_true, decide_false, reduceCtorEq, u2_s, u2_o, u2_k, u2_u2, Bool.true_or, Bool.or_true, Bool.false_or, Bool.or_false, Bool.and_true, Bool.true_and, Bool.and_false, Bool.false_and, eq_self, not_true_eq_false, not_false_eq_true, and_self, and_true, true_and, false_and, and_false, w_dv, dvm, XSH_e hX, kq, rb, kb, s92, ty, s77, s68, e1, g1]
  rw [eq_79]
  simp (disch := first | assumption | omega | (simp (disch := omega) only [vM_u, vS_u]; first | assumption | omega)) only [hK, hL, hR, hI, hN, sI, hSp, hC, hW, li, lr, ↓cnd_a, ↓cnd_o, ↓cnd_n, ↓cnd_d, ↓z0, ↓z1, ↓z2, y0n, y1i, y2r, y0e, y1e, y2e, wl_0, wl_1, wl_2, wl_3, wl_4, wl_5, wl_6, wl_7, wl_8, wl_9, wl_10, wl_11, wl_12, wl_13, wl_14, wl_15, wl_16, wl_17, wl_18, wl_19, wl_20, wl_21, wl_22, wl_23, wl_24, wl_25, wl_26, wl_27, wl_28, wl_29, wl_30, wl_31, wl_32, wl_33, wl_34, wl_35, wl_36, wl_37, wl_38, wl_39, wl_40, wl_41, wl_42, wl_43, wl_44, wl_45, wl_46, wl_47, wl_48, wl_49, wl_50, wl_51, wl_52, wl_53, wl_54, wl_55, wl_56, wl_57, wl_58, wl_59, wl_60, wl_61, wl_62, wl_63, wl_64, wl_65, wl_66, wl_67, wl_68, wl_69, wl_70, wl_71, wl_72, wl_73, wl_74, wl_75, wl_76, wl_77, wl_78, wl_79, wl_80, wl_81, wl_82, wl_83, wl_84, wl_85, wl_86, wl_87, wl_88, wl_89, wl_90, wl_91, wl_92, wl_93, wl_94, wl_95, wl_96, wl_97, wl_98, wl_99, wl_100, wl_101, wl_102, wl_103, wl_104, wl_105, wl_106, wl_107, wl_108, wl_109, wl_110, wl_111, wl_112, wl_113, wl_114, wl_115, wl_116, wl_117, wl_118, wl_119, wl_120, wl_121, wl_122, wl_123, wl_124, wl_125, wl_126, wl_127, wl_128, wl_129, wl_130, wl_159, wl_160, wl_200, wl_232, wl_255, wl_256, wl_300, wl_359, wl_360, wl_400, wl_592, wl_992, wl_999, wl_1000, wl_1024, wl_3456, wl_6512, wl_7104, wl_10000, wl_11264, wl_12345, wl_32767, wl_1000000000, wl_1103515245, wl_2000000000, w_add, w_sub, w_mul, w_neg, w_lt, w_le, w_eq, w_cl, w_in, w_nat, w_max2, w_min2, w_abs2, iltT, iltF, ileT, ileF, ieqT, ieqF, bv_01, bft, bv_0, bv_1, bv_t, bv_f, cond_true, cond_false, Bool.not_true, Bool.not_false, if_true, if_false, true_or, or_true, true_and, and_true, ↓reduceIte, decide_true, decide_false, reduceCtorEq, u2_s, u2_o, u2_k, u2_u2, Bool.true_or, Bool.or_true, Bool.false_or, Bool.or_false, Bool.and_true, Bool.true_and, Bool.and_false, Bool.false_and, eq_self, not_true_eq_false, not_false_eq_true, and_self, and_true, true_and, false_and, and_false, w_dv, dvm]
  exact lp n 0 (by omega)
theorem sp_78 {d n b : Nat} {m O pr : Int → Int} (hA : ArI K L R I m O pr n) (hb : b < n) (hT : ArT I O pr n (-1)) : ev PR (d + 6) 78 [.ref 283, .ref 91, .int (w (b : Int))] (((vn, vc, vw, K, L, R), I, J) : HS) = some (.inl (some (.int (w ((arF O pr n b 0 : Nat) : Int)))), (((vn, vc, vw, K, L, R), I, J) : HS)) := by
  have hA' := hA
  obtain ⟨hX, h2, h3, h4, h5, h6, h7, h8, h9, h10⟩ := hA
  have g10 : 2 ^ n ≤ 2 ^ 10 := Nat.pow_le_pow_right (by omega) h6
  have e10 : (2 : Nat) ^ 10 = 1024 := rfl
  have lp : ∀ (q i g : Nat) (w5 : Value), i + q = b → g < 2 ^ n → pop g = i → atv PR (d + 5) cd_78 4 [.ref 283, .ref 91, .int (w (b : Int)), .int (w (g : Int)), .int (w (i : Int)), w5] [] (((vn, vc, vw, K, L, R), I, J) : HS) = some (.inl (some (.int (w ((arF O pr n q g : Nat) : Int)))), (((vn, vc, vw, K, L, R), I, J) : HS)) := by
    intro q
    induction q with
    | zero =>
      intro i g w5 hi hg hp
      have ei : i = b := by omega
      subst ei
      have s79 := sp_79 (d := d + 1) (vn := vn) (vc := vc) (vw := vw) (J := J) hA' hg (by omega) hT
      rw [eq_78_4]
      simp (disch := first | assumption | omega | (simp (disch := omega) only [vM_u, vS_u]; first | assumption | omega)) only [hK, hL, hR, hI, hN, sI, hSp, hC, hW, li, lr, ↓cnd_a, ↓cnd_o, ↓cnd_n, ↓cnd_d, ↓z0, ↓z1, ↓z2, y0n, y1i, y2r, y0e, y1e, y2e, wl_0, wl_1, wl_2, wl_3, wl_4, wl_5, wl_6, wl_7, wl_8, wl_9, wl_10, wl_11, wl_12, wl_13, wl_14, wl_15, wl_16, wl_17, wl_18, wl_19, wl_20, wl_21, wl_22, wl_23, wl_24, wl_25, wl_26, wl_27, wl_28, wl_29, wl_30, wl_31, wl_32, wl_33, wl_34, wl_35, wl_36, wl_37, wl_38, wl_39, wl_40, wl_41, wl_42, wl_43, wl_44, wl_45, wl_46, wl_47, wl_48, wl_49, wl_50, wl_51, wl_52, wl_53, wl_54, wl_55, wl_56, wl_57, wl_58, wl_59, wl_60, wl_61, wl_62, wl_63, wl_64, wl_65, wl_66, wl_67, wl_68, wl_69, wl_70, wl_71, wl_72, wl_73, wl_74, wl_75, wl_76, wl_77, wl_78, wl_79, wl_80, wl_81, wl_82, wl_83, wl_84, wl_85, wl_86, wl_87, wl_88, wl_89, wl_90, wl_91, wl_92, wl_93, wl_94, wl_95, wl_96, wl_97, wl_98, wl_99, wl_100, wl_101, wl_102, wl_103, wl_104, wl_105, wl_106, wl_107, wl_108, wl_109, wl_110, wl_111, wl_112, wl_113, wl_114, wl_115, wl_116, wl_117, wl_118, wl_119, wl_120, wl_121, wl_122, wl_123, wl_124, wl_125, wl_126, wl_127, wl_128, wl_129, wl_130, wl_159, wl_160, wl_200, wl_232, wl_255, wl_256, wl_300, wl_359, wl_360, wl_400, wl_592, wl_992, wl_999, wl_1000, wl_1024, wl_3456, wl_6512, wl_7104, wl_10000, wl_11264, wl_12345, wl_32767, wl_1000000000, wl_1103515245, wl_2000000000, w_add, w_sub, w_mul, w_neg, w_lt, w_le, w_eq, w_cl, w_in, w_nat, w_max2, w_min2, w_abs2, iltT, iltF, ileT, ileF, ieqT, ieqF, bv_01, bft, bv_0, bv_1, bv_t, bv_f, cond_true, cond_false, Bool.not_true, Bool.not_false, if_true, if_false, true_or, or_true, true_and, and_true, ↓reduceIte, decide_true, decide_false, reduceCtorEq, u2_s, u2_o, u2_k, u2_u2, Bool.true_or, Bool.or_true, Bool.false_or, Bool.or_false, Bool.and_true, Bool.true_and, Bool.and_false, Bool.false_and, eq_self, not_true_eq_false, not_false_eq_true, and_self, and_true, true_and, false_and, and_false, w_dv, dvm, XSH_e hX, s79]
      all_goals rfl
    | succ q ih =>
      intro i g w5 hi hg hp
      have s79 := sp_79 (d := d + 1) (vn := vn) (vc := vc) (vw := vw) (J := J) hA' hg (by omega) hT
      have fs := fsF_s (O := O) (pr := pr) (g := g) n 0 (by omega) (Lv_x h6 hg (by omega) h9 h10)
      obtain ⟨k, ek⟩ : ∃ k, k = fsF O pr n g 0 n := ⟨_, rfl⟩
      rw [← ek] at s79 fs
      have hs := pop_s h6 hg fs.2.1 fs.2.2
      have wo := w_or ⟨g, by omega⟩ ⟨k, by omega⟩
      dsimp only at wo
      rw [hs.2.2] at wo
      have wo' : (w (g : Int) ||| (w 1 <<< (w (k : Int) &&& w 31))) = w ((g + 2 ^ k : Nat) : Int) := wo
      have e1 : ((i : Int) + 1) = ((i + 1 : Nat) : Int) := by omega
      have g1 := ih (i + 1) (g + 2 ^ k) (.int (w (k : Int))) (by omega) hs.1 (by omega)
      have ea : arF O pr n (q + 1) g = arF O pr n q (g + 2 ^ k) := by rw [ek]; rfl
      rw [ea, eq_78_4]
      simp (disch := first | assumption | omega | (simp (disch := omega) only [vM_u, vS_u]; first | assumption | omega)) only [hK, hL, hR, hI, hN, sI, hSp, hC, hW, li, lr, ↓cnd_a, ↓cnd_o, ↓cnd_n, ↓cnd_d, ↓z0, ↓z1, ↓z2, y0n, y1i, y2r, y0e, y1e, y2e, wl_0, wl_1, wl_2, wl_3, wl_4, wl_5, wl_6, wl_7, wl_8, wl_9, wl_10, wl_11, wl_12, wl_13, wl_14, wl_15, wl_16, wl_17, wl_18, wl_19, wl_20, wl_21, wl_22, wl_23, wl_24, wl_25, wl_26, wl_27, wl_28, wl_29, wl_30, wl_31, wl_32, wl_33, wl_34, wl_35, wl_36, wl_37, wl_38, wl_39, wl_40, wl_41, wl_42, wl_43, wl_44, wl_45, wl_46, wl_47, wl_48, wl_49, wl_50, wl_51, wl_52, wl_53, wl_54, wl_55, wl_56, wl_57, wl_58, wl_59, wl_60, wl_61, wl_62, wl_63, wl_64, wl_65, wl_66, wl_67, wl_68, wl_69, wl_70, wl_71, wl_72, wl_73, wl_74, wl_75, wl_76, wl_77, wl_78, wl_79, wl_80, wl_81, wl_82, wl_83, wl_84, wl_85, wl_86, wl_87, wl_88, wl_89, wl_90, wl_91, wl_92, wl_93, wl_94, wl_95, wl_96, wl_97, wl_98, wl_99, wl_100, wl_101, wl_102, wl_103, wl_104, wl_105, wl_106, wl_107, wl_108, wl_109, wl_110, wl_111, wl_112, wl_113, wl_114, wl_115, wl_116, wl_117, wl_118, wl_119, wl_120, wl_121, wl_122, wl_123, wl_124, wl_125, wl_126, wl_127, wl_128, wl_129, wl_130, wl_159, wl_160, wl_200, wl_232, wl_255, wl_256, wl_300, wl_359, wl_360, wl_400, wl_592, wl_992, wl_999, wl_1000, wl_1024, wl_3456, wl_6512, wl_7104, wl_10000, wl_11264, wl_12345, wl_32767, wl_1000000000, wl_1103515245, wl_2000000000, w_add, w_sub, w_mul, w_neg, w_lt, w_le, w_eq, w_cl, w_in, w_nat, w_max2, w_min2, w_abs2, iltT, iltF, ileT, ileF, ieqT, ieqF, bv_01, bft, bv_0, bv_1, bv_t, bv_f, cond_true, cond_false, Bool.not_true, Bool.not_false, if_true, if_false, true_or, or_true, true_and, and_true, ↓reduceIte, decide_true, decide_false, reduceCtorEq, u2_s, u2_o, u2_k, u2_u2, Bool.true_or, Bool.or_true, Bool.false_or, Bool.or_false, Bool.and_true, Bool.true_and, Bool.and_false, Bool.false_and, eq_self, not_true_eq_false, not_false_eq_true, and_self, and_true, true_and, false_and, and_false, w_dv, dvm, XSH_e hX, s79, wo', e1, g1]
  have g := lp b 0 0 (.retAddr 0) (by omega) (Nat.two_pow_pos n) rfl
  rw [eq_78]
  exact g
end ARS
