/-! THE CLASS reads a fair: rows are opened and filled in the draft -/
section FRA
variable {vn vc vw : Nat} {K L : Nat → Nat} {R : Nat → Nat → Nat} {I : Nat → Nat → Int32} {J : Nat → Nat → Int64}
variable {T : Int → Int} {e n : Int} {tb : Int → Int}
theorem nx_u {I : Nat → Nat → Int32} {i : Int} {a k : Nat} {v : Int32} (h : a ≠ 82) : u2 (nx I i) a k v = nx (u2 I a k v) i := by
  unfold nx
  funext x y
  simp only [u2_r]
  by_cases c : x = a ∧ y = k
  · rw [if_pos c, if_neg (by omega), if_pos c]
  · rw [if_neg c, if_neg c]
theorem vS_nx {I : Nat → Nat → Int32} {i : Int} : vS (nx I i) 115 = vS I 115 := vS_u (by omega) _ _
theorem Wd_nx {I : Nat → Nat → Int32} {i : Int} (h : Wd I 115) : Wd (nx I i) 115 := by
  obtain ⟨h1, h2, h3, h4, h5⟩ := h
  exact ⟨(nx_o _ _ (by omega)).trans h1, (nx_o _ _ (by omega)).trans h2, (nx_o _ _ (by omega)).trans h3, (nx_o _ _ (by omega)).trans h4, (nx_o _ _ (by omega)).trans h5⟩
/-- what reading a fair leaves alone -/
def FDr (I I' : Nat → Nat → Int32) : Prop := ∀ a k, ¬(a = 117 ∨ a = 119 ∨ a = 121) → (a = 116 ∨ a = 118 ∨ a = 120 → k ≠ 2) → (a = 115 → ¬(12 ≤ k ∧ k ≤ 15)) → (a = 82 → k ≠ 6) → I' a k = I a k
theorem FDr_rf {I : Nat → Nat → Int32} : FDr I I := fun _ _ _ _ _ _ => rfl
theorem FDr_tr {I I1 I2 : Nat → Nat → Int32} (h : FDr I I1) (g : FDr I1 I2) : FDr I I2 := fun a k x1 x2 x3 x4 => (g a k x1 x2 x3 x4).trans (h a k x1 x2 x3 x4)
theorem FDr_nx {I : Nat → Nat → Int32} {i : Int} : FDr I (nx I i) := fun a k _ _ _ x4 => nx_o _ _ (by omega)
def DrA (K L : Nat → Nat) (I : Nat → Nat → Int32) (T : Int → Int) (e n : Int) (tb : Int → Int) : Prop := Tp I T e ∧ TkI I T e n tb ∧ SWA K L I ∧ Wd I 115
theorem DrA_f {I I' : Nat → Nat → Int32} (h : FDr I I') (g : DrA K L I T e n tb) : DrA K L I' T e n tb := by
  obtain ⟨g1, g2, g3, g4⟩ := g
  refine ⟨Tp_f (fun a k x => h a k (by omega) (by omega) (by omega) (by omega)) g1, TkI_f (fun a k x => h a k (by omega) (by omega) (by omega) (by omega)) g2, SWA_f (fun a k x => h a k (by omega) (by omega) (by omega) (by omega)) g3, ?_⟩
  obtain ⟨h1, h2, h3, h4, h5⟩ := g4
  exact ⟨(h _ _ (by omega) (by omega) (by omega) (by omega)).trans h1, (h _ _ (by omega) (by omega) (by omega) (by omega)).trans h2, (h _ _ (by omega) (by omega) (by omega) (by omega)).trans h3, (h _ _ (by omega) (by omega) (by omega) (by omega)).trans h4, (h _ _ (by omega) (by omega) (by omega) (by omega)).trans h5⟩
theorem sp_99b {d q : Nat} (hS : SHq K L R q) (hWd : Wd I q) (h : 0 ≤ vS I q 3 ∧ vS I q 3 < 10) : ∃ I', ev PR (d + 2) 99 [.ref (q + 1)] (((vn, vc, vw, K, L, R), I, J) : HS) = some (.inl (some (.int (w (vS I q 3)))), (((vn, vc, vw, K, L, R), I', J) : HS)) ∧ vS I' q = setm (vS I q) 3 (vS I q 3 + 1) ∧ Wd I' q ∧ (∀ a k, a ≠ q + 2 → ¬(a = q + 1 ∧ k = 2) → I' a k = I a k) := by
  obtain ⟨_, _, _, _, _, _, _, ⟨k1, k2, k3, k4⟩, _⟩ := SHq_e hS
  obtain ⟨I', e, g1, g2, g3⟩ := sp_99 (d := d) (J := J) (vn := vn) (vc := vc) (vw := vw) (I := I) (r := q + 1) (c := q + 2) (cap := 50) (wd := 5) (sz := vS I q 3) (P := 5 * vS I q 3) k1 k2 k3 k4 (by omega) hWd.1 (w_of _).symm (by omega) (by omega) (by omega)
  have F : F2 (q + 1) (q + 2) I I' := fun a b h1 h2 => g3 a b h2 (by omega)
  have hn : vS I' q 3 = vS I q 3 + 1 := by rw [← rN_3t, g1, w_toInt (by omega)]
  refine ⟨I', e, ?_, ?_, g3⟩
  · funext z
    unfold setm
    by_cases c13 : z = 3
    · rw [if_pos c13, c13]; exact hn
    · rw [if_neg c13]
      by_cases c : 20 ≤ z ∧ z < 70
      · rw [vS_b c, vS_b c, hn, g2]
        by_cases c2 : z < 20 + 5 * vS I q 3
        · rw [if_pos (by omega), if_neg (by unfold ix; omega), if_pos c2]
        · rw [if_neg c2]
          by_cases c3 : z < 20 + 5 * (vS I q 3 + 1)
          · rw [if_pos c3, if_pos (by unfold ix; omega)]; rfl
          · rw [if_neg c3]
      · exact vS_but (r := 1) (by omega) F (by omega)
  · obtain ⟨h1, h2, h3, h4, h5⟩ := hWd
    exact ⟨(g3 _ _ (by omega) (by omega)).trans h1, (g3 _ _ (by omega) (by omega)).trans h2, (g3 _ _ (by omega) (by omega)).trans h3, (g3 _ _ (by omega) (by omega)).trans h4, (g3 _ _ (by omega) (by omega)).trans h5⟩
theorem sp_99bf {d q : Nat} (hS : SHq K L R q) (hWd : Wd I q) (h : vS I q 3 = 10) : ev PR (d + 2) 99 [.ref (q + 1)] (((vn, vc, vw, K, L, R), I, J) : HS) = some (.inl (some (.int (w (-1)))), (((vn, vc, vw, K, L, R), I, J) : HS)) := by
  obtain ⟨_, _, _, _, _, _, _, ⟨k1, k2, k3, k4⟩, _⟩ := SHq_e hS
  have i1 := hWd.1
  have i2 := rN_3 I q
  rw [h] at i2
  rw [eq_99]
  simp (disch := first | assumption | omega | (simp (disch := omega) only [vM_u, vS_u]; first | assumption | omega)) only [hK, hL, hR, hI, hN, sI, hSp, hC, hW, li, lr, ↓cnd_a, ↓cnd_o, ↓cnd_n, ↓cnd_d, ↓z0, ↓z1, ↓z2, y0n, y1i, y2r, y0e, y1e, y2e, wl_0, wl_1, wl_2, wl_3, wl_4, wl_5, wl_6, wl_7, wl_8, wl_9, wl_10, wl_11, wl_12, wl_13, wl_14, wl_15, wl_16, wl_17, wl_18, wl_19, wl_20, wl_21, wl_22, wl_23, wl_24, wl_25, wl_26, wl_27, wl_28, wl_29, wl_30, wl_31, wl_32, wl_33, wl_34, wl_35, wl_36, wl_37, wl_38, wl_39, wl_40, wl_41, wl_42, wl_43, wl_44, wl_45, wl_46, wl_47, wl_48, wl_49, wl_50, wl_51, wl_52, wl_53, wl_54, wl_55, wl_56, wl_57, wl_58, wl_59, wl_60, wl_61, wl_62, wl_63, wl_64, wl_65, wl_66, wl_67, wl_68, wl_69, wl_70, wl_71, wl_72, wl_73, wl_74, wl_75, wl_76, wl_77, wl_78, wl_79, wl_80, wl_81, wl_82, wl_83, wl_84, wl_85, wl_86, wl_87, wl_88, wl_89, wl_90, wl_91, wl_92, wl_93, wl_94, wl_95, wl_96, wl_97, wl_98, wl_99, wl_100, wl_101, wl_102, wl_103, wl_104, wl_105, wl_106, wl_107, wl_108, wl_109, wl_110, wl_111, wl_112, wl_113, wl_114, wl_115, wl_116, wl_117, wl_118, wl_119, wl_120, wl_121, wl_122, wl_123, wl_124, wl_125, wl_126, wl_127, wl_128, wl_129, wl_130, wl_159, wl_160, wl_200, wl_232, wl_255, wl_256, wl_300, wl_359, wl_360, wl_400, wl_592, wl_992, wl_999, wl_1000, wl_1024, wl_3456, wl_6512, wl_7104, wl_10000, wl_11264, wl_12345, wl_32767, wl_1000000000, wl_1103515245, wl_2000000000, w_add, w_sub, w_mul, w_neg, w_lt, w_le, w_eq, w_cl, w_in, w_nat, w_max2, w_min2, w_abs2, iltT, iltF, ileT, ileF, ieqT, ieqF, bv_01, bft, bv_0, bv_1, bv_t, bv_f, cond_true, cond_false, Bool.not_true, Bool.not_false, if_true, if_false, true_or, or_true, true_and, and_true, ↓reduceIte, decide_true, decide_false, reduceCtorEq, u2_s, u2_o, u2_k, u2_u2, Bool.true_or, Bool.or_true, Bool.false_or, Bool.or_false, Bool.and_true, Bool.true_and, Bool.and_false, Bool.false_and, eq_self, not_true_eq_false, not_false_eq_true, and_self, and_true, true_and, false_and, and_false, w_dv, dvm, k1, k2, k3, k4, i1, i2, eq_94]
theorem sp_98b {d q : Nat} {b j : Int} {v : Int32} (hS : SHq K L R q) (hWd : Wd I q) (h : vS I q 3 = b + 1 ∧ (0 ≤ b ∧ b < 10) ∧ 0 ≤ j ∧ j < 5) : ev PR (d + 2) 98 [.ref (q + 1), .int (w j), .int v] (((vn, vc, vw, K, L, R), I, J) : HS) = some (.inl none, (((vn, vc, vw, K, L, R), u2 I (q + 2) (ix (b * 5 + j)) v, J) : HS)) := by
  obtain ⟨_, _, _, _, _, _, _, ⟨k1, k2, k3, k4⟩, _⟩ := SHq_e hS
  have i2 := rN_3 I q
  rw [h.1] at i2
  have s1 := sp_97b (d := d) (b := b) (j := j) (v := v) (vn := vn) (vc := vc) (vw := vw) (J := J) hS hWd (by omega)
  have e1 : b + 1 - 1 = b := by omega
  rw [eq_98]
  simp (disch := first | assumption | omega | (simp (disch := omega) only [vM_u, vS_u]; first | assumption | omega)) only [hK, hL, hR, hI, hN, sI, hSp, hC, hW, li, lr, ↓cnd_a, ↓cnd_o, ↓cnd_n, ↓cnd_d, ↓z0, ↓z1, ↓z2, y0n, y1i, y2r, y0e, y1e, y2e, wl_0, wl_1, wl_2, wl_3, wl_4, wl_5, wl_6, wl_7, wl_8, wl_9, wl_10, wl_11, wl_12, wl_13, wl_14, wl_15, wl_16, wl_17, wl_18, wl_19, wl_20, wl_21, wl_22, wl_23, wl_24, wl_25, wl_26, wl_27, wl_28, wl_29, wl_30, wl_31, wl_32, wl_33, wl_34, wl_35, wl_36, wl_37, wl_38, wl_39, wl_40, wl_41, wl_42, wl_43, wl_44, wl_45, wl_46, wl_47, wl_48, wl_49, wl_50, wl_51, wl_52, wl_53, wl_54, wl_55, wl_56, wl_57, wl_58, wl_59, wl_60, wl_61, wl_62, wl_63, wl_64, wl_65, wl_66, wl_67, wl_68, wl_69, wl_70, wl_71, wl_72, wl_73, wl_74, wl_75, wl_76, wl_77, wl_78, wl_79, wl_80, wl_81, wl_82, wl_83, wl_84, wl_85, wl_86, wl_87, wl_88, wl_89, wl_90, wl_91, wl_92, wl_93, wl_94, wl_95, wl_96, wl_97, wl_98, wl_99, wl_100, wl_101, wl_102, wl_103, wl_104, wl_105, wl_106, wl_107, wl_108, wl_109, wl_110, wl_111, wl_112, wl_113, wl_114, wl_115, wl_116, wl_117, wl_118, wl_119, wl_120, wl_121, wl_122, wl_123, wl_124, wl_125, wl_126, wl_127, wl_128, wl_129, wl_130, wl_159, wl_160, wl_200, wl_232, wl_255, wl_256, wl_300, wl_359, wl_360, wl_400, wl_592, wl_992, wl_999, wl_1000, wl_1024, wl_3456, wl_6512, wl_7104, wl_10000, wl_11264, wl_12345, wl_32767, wl_1000000000, wl_1103515245, wl_2000000000, w_add, w_sub, w_mul, w_neg, w_lt, w_le, w_eq, w_cl, w_in, w_nat, w_max2, w_min2, w_abs2, iltT, iltF, ileT, ileF, ieqT, ieqF, bv_01, bft, bv_0, bv_1, bv_t, bv_f, cond_true, cond_false, Bool.not_true, Bool.not_false, if_true, if_false, true_or, or_true, true_and, and_true, ↓reduceIte, decide_true, decide_false, reduceCtorEq, u2_s, u2_o, u2_k, u2_u2, Bool.true_or, Bool.or_true, Bool.false_or, Bool.or_false, Bool.and_true, Bool.true_and, Bool.and_false, Bool.false_and, eq_self, not_true_eq_false, not_false_eq_true, and_self, and_true, true_and, false_and, and_false, w_dv, dvm, k1, i2, e1, s1]
theorem sp_24b {d : Nat} {i lo hi b j : Int} (hX : XSH K L R) (hS : SHq K L R 115) (hD : DrA K L I T e n tb) (hij : 0 ≤ i ∧ i ≤ n) (hl : (0 ≤ lo ∧ lo ≤ 9999) ∧ 0 ≤ hi ∧ hi ≤ 9999) (h : vS I 115 3 = b + 1 ∧ (0 ≤ b ∧ b < 10) ∧ 0 ≤ j ∧ j < 5) :
    (∀ r, pFig T e lo hi (tb i) = .ok r → (i < n ∧ r.1 = tend T e (tb i)) ∧ ∃ I', ev PR (d + 3) 24 [.ref 87, .ref (115 + 1), .int (w j), .int (w lo), .int (w hi)] (((vn, vc, vw, K, L, R), nx I i, J) : HS) = some (.inl (some (.int (w 1))), (((vn, vc, vw, K, L, R), nx I' (i + 1), J) : HS)) ∧ DrA K L I' T e n tb ∧ FDr I I' ∧ vS I' 115 = setm (vS I 115) (20 + 5 * b + j) r.2) ∧
    (∀ f, pFig T e lo hi (tb i) = .error f → ev PR (d + 3) 24 [.ref 87, .ref (115 + 1), .int (w j), .int (w lo), .int (w hi)] (((vn, vc, vw, K, L, R), nx I i, J) : HS) = some (.inl (some (.int (w 0))), (((vn, vc, vw, K, L, R), nx I i, J) : HS))) := by
  have g := sp_155 (d := d) (lo := lo) (hi := hi) (vn := vn) (vc := vc) (vw := vw) (J := J) hX hD.1 hD.2.1 hij hl
  obtain ⟨_, _, _, _, _, _, _, ⟨k1, k2, k3, k4⟩, _⟩ := SHq_e hS
  constructor
  · intro r hr
    have hv := dg_lt hr
    obtain ⟨g1, g2⟩ := g.1 r hr
    have hn : vS (nx I (i + 1)) 115 = vS I 115 := vS_u (by omega) _ _
    have s1 := sp_98b (d := d) (b := b) (j := j) (v := w r.2) (I := nx I (i + 1)) (vn := vn) (vc := vc) (vw := vw) (J := J) hS (Wd_nx hD.2.2.2) (by rw [hn]; exact h)
    have hf : FDr I (u2 I (115 + 2) (ix (b * 5 + j)) (w r.2)) := fun a k x1 x2 x3 x4 => u2_o _ _ _ _ (by omega)
    refine ⟨g1, u2 I (115 + 2) (ix (b * 5 + j)) (w r.2), ?_, DrA_f hf hD, hf, put_b (by omega)⟩
    rw [nx_u (by omega)] at s1
    rw [eq_24]
    simp (disch := first | assumption | omega | (simp (disch := omega) only [vM_u, vS_u]; first | assumption | omega)) only [hK, hL, hR, hI, hN, sI, hSp, hC, hW, li, lr, ↓cnd_a, ↓cnd_o, ↓cnd_n, ↓cnd_d, ↓z0, ↓z1, ↓z2, y0n, y1i, y2r, y0e, y1e, y2e, wl_0, wl_1, wl_2, wl_3, wl_4, wl_5, wl_6, wl_7, wl_8, wl_9, wl_10, wl_11, wl_12, wl_13, wl_14, wl_15, wl_16, wl_17, wl_18, wl_19, wl_20, wl_21, wl_22, wl_23, wl_24, wl_25, wl_26, wl_27, wl_28, wl_29, wl_30, wl_31, wl_32, wl_33, wl_34, wl_35, wl_36, wl_37, wl_38, wl_39, wl_40, wl_41, wl_42, wl_43, wl_44, wl_45, wl_46, wl_47, wl_48, wl_49, wl_50, wl_51, wl_52, wl_53, wl_54, wl_55, wl_56, wl_57, wl_58, wl_59, wl_60, wl_61, wl_62, wl_63, wl_64, wl_65, wl_66, wl_67, wl_68, wl_69, wl_70, wl_71, wl_72, wl_73, wl_74, wl_75, wl_76, wl_77, wl_78, wl_79, wl_80, wl_81, wl_82, wl_83, wl_84, wl_85, wl_86, wl_87, wl_88, wl_89, wl_90, wl_91, wl_92, wl_93, wl_94, wl_95, wl_96, wl_97, wl_98, wl_99, wl_100, wl_101, wl_102, wl_103, wl_104, wl_105, wl_106, wl_107, wl_108, wl_109, wl_110, wl_111, wl_112, wl_113, wl_114, wl_115, wl_116, wl_117, wl_118, wl_119, wl_120, wl_121, wl_122, wl_123, wl_124, wl_125, wl_126, wl_127, wl_128, wl_129, wl_130, wl_159, wl_160, wl_200, wl_232, wl_255, wl_256, wl_300, wl_359, wl_360, wl_400, wl_592, wl_992, wl_999, wl_1000, wl_1024, wl_3456, wl_6512, wl_7104, wl_10000, wl_11264, wl_12345, wl_32767, wl_1000000000, wl_1103515245, wl_2000000000, w_add, w_sub, w_mul, w_neg, w_lt, w_le, w_eq, w_cl, w_in, w_nat, w_max2, w_min2, w_abs2, iltT, iltF, ileT, ileF, ieqT, ieqF, bv_01, bft, bv_0, bv_1, bv_t, bv_f, cond_true, cond_false, Bool.not_true, Bool.not_false, if_true, if_false, true_or, or_true, true_and, and_true, ↓reduceIte, decide_true, decide_false, reduceCtorEq, u2_s, u2_o, u2_k, u2_u2, Bool.true_or, Bool.or_true, Bool.false_or, Bool.or_false, Bool.and_true, Bool.true_and, Bool.and_false, Bool.false_and, eq_self, not_true_eq_false, not_false_eq_true, and_self, and_true, true_and, false_and, and_false, w_dv, dvm, XSH_e hX, g2, k1, s1]
  · intro f hf
    have g2 := g.2 f hf
    rw [eq_24]
    simp (disch := first | assumption | omega | (simp (disch := omega) only [vM_u, vS_u]; first | assumption | omega)) only [hK, hL, hR, hI, hN, sI, hSp, hC, hW, li, lr, ↓cnd_a, ↓cnd_o, ↓cnd_n, ↓cnd_d, ↓z0, ↓z1, ↓z2, y0n, y1i, y2r, y0e, y1e, y2e, wl_0, wl_1, wl_2, wl_3, wl_4, wl_5, wl_6, wl_7, wl_8, wl_9, wl_10, wl_11, wl_12, wl_13, wl_14, wl_15, wl_16, wl_17, wl_18, wl_19, wl_20, wl_21, wl_22, wl_23, wl_24, wl_25, wl_26, wl_27, wl_28, wl_29, wl_30, wl_31, wl_32, wl_33, wl_34, wl_35, wl_36, wl_37, wl_38, wl_39, wl_40, wl_41, wl_42, wl_43, wl_44, wl_45, wl_46, wl_47, wl_48, wl_49, wl_50, wl_51, wl_52, wl_53, wl_54, wl_55, wl_56, wl_57, wl_58, wl_59, wl_60, wl_61, wl_62, wl_63, wl_64, wl_65, wl_66, wl_67, wl_68, wl_69, wl_70, wl_71, wl_72, wl_73, wl_74, wl_75, wl_76, wl_77, wl_78, wl_79, wl_80, wl_81, wl_82, wl_83, wl_84, wl_85, wl_86, wl_87, wl_88, wl_89, wl_90, wl_91, wl_92, wl_93, wl_94, wl_95, wl_96, wl_97, wl_98, wl_99, wl_100, wl_101, wl_102, wl_103, wl_104, wl_105, wl_106, wl_107, wl_108, wl_109, wl_110, wl_111, wl_112, wl_113, wl_114, wl_115, wl_116, wl_117, wl_118, wl_119, wl_120, wl_121, wl_122, wl_123, wl_124, wl_125, wl_126, wl_127, wl_128, wl_129, wl_130, wl_159, wl_160, wl_200, wl_232, wl_255, wl_256, wl_300, wl_359, wl_360, wl_400, wl_592, wl_992, wl_999, wl_1000, wl_1024, wl_3456, wl_6512, wl_7104, wl_10000, wl_11264, wl_12345, wl_32767, wl_1000000000, wl_1103515245, wl_2000000000, w_add, w_sub, w_mul, w_neg, w_lt, w_le, w_eq, w_cl, w_in, w_nat, w_max2, w_min2, w_abs2, iltT, iltF, ileT, ileF, ieqT, ieqF, bv_01, bft, bv_0, bv_1, bv_t, bv_f, cond_true, cond_false, Bool.not_true, Bool.not_false, if_true, if_false, true_or, or_true, true_and, and_true, ↓reduceIte, decide_true, decide_false, reduceCtorEq, u2_s, u2_o, u2_k, u2_u2, Bool.true_or, Bool.or_true, Bool.false_or, Bool.or_false, Bool.and_true, Bool.true_and, Bool.and_false, Bool.false_and, eq_self, not_true_eq_false, not_false_eq_true, and_self, and_true, true_and, false_and, and_false, w_dv, dvm, XSH_e hX, g2]
theorem sp_99h {d q : Nat} (hS : SHq K L R q) (hWd : Wd I q) (h : 0 ≤ vS I q 4 ∧ vS I q 4 < 8) : ∃ I', ev PR (d + 2) 99 [.ref (q + 3)] (((vn, vc, vw, K, L, R), I, J) : HS) = some (.inl (some (.int (w (vS I q 4)))), (((vn, vc, vw, K, L, R), I', J) : HS)) ∧ vS I' q = setm (vS I q) 4 (vS I q 4 + 1) ∧ Wd I' q ∧ (∀ a k, a ≠ q + 4 → ¬(a = q + 3 ∧ k = 2) → I' a k = I a k) := by
  obtain ⟨_, _, _, _, _, _, _, _, ⟨k1, k2, k3, k4⟩, _⟩ := SHq_e hS
  obtain ⟨I', e, g1, g2, g3⟩ := sp_99 (d := d) (J := J) (vn := vn) (vc := vc) (vw := vw) (I := I) (r := q + 3) (c := q + 4) (cap := 24) (wd := 3) (sz := vS I q 4) (P := 3 * vS I q 4) k1 k2 k3 k4 (by omega) hWd.2.1 (w_of _).symm (by omega) (by omega) (by omega)
  have F : F2 (q + 3) (q + 4) I I' := fun a b h1 h2 => g3 a b h2 (by omega)
  have hn : vS I' q 4 = vS I q 4 + 1 := by rw [← rN_4t, g1, w_toInt (by omega)]
  refine ⟨I', e, ?_, ?_, g3⟩
  · funext z
    unfold setm
    by_cases c13 : z = 4
    · rw [if_pos c13, c13]; exact hn
    · rw [if_neg c13]
      by_cases c : 70 ≤ z ∧ z < 94
      · rw [vS_h c, vS_h c, hn, g2]
        by_cases c2 : z < 70 + 3 * vS I q 4
        · rw [if_pos (by omega), if_neg (by unfold ix; omega), if_pos c2]
        · rw [if_neg c2]
          by_cases c3 : z < 70 + 3 * (vS I q 4 + 1)
          · rw [if_pos c3, if_pos (by unfold ix; omega)]; rfl
          · rw [if_neg c3]
      · exact vS_but (r := 3) (by omega) F (by omega)
  · obtain ⟨h1, h2, h3, h4, h5⟩ := hWd
    exact ⟨(g3 _ _ (by omega) (by omega)).trans h1, (g3 _ _ (by omega) (by omega)).trans h2, (g3 _ _ (by omega) (by omega)).trans h3, (g3 _ _ (by omega) (by omega)).trans h4, (g3 _ _ (by omega) (by omega)).trans h5⟩
theorem sp_99hf {d q : Nat} (hS : SHq K L R q) (hWd : Wd I q) (h : vS I q 4 = 8) : ev PR (d + 2) 99 [.ref (q + 3)] (((vn, vc, vw, K, L, R), I, J) : HS) = some (.inl (some (.int (w (-1)))), (((vn, vc, vw, K, L, R), I, J) : HS)) := by
  obtain ⟨_, _, _, _, _, _, _, _, ⟨k1, k2, k3, k4⟩, _⟩ := SHq_e hS
  have i1 := hWd.2.1
  have i2 := rN_4 I q
  rw [h] at i2
  rw [eq_99]
  simp (disch := first | assumption | omega | (simp (disch := omega) only [vM_u, vS_u]; first | assumption | omega)) only [hK, hL, hR, hI, hN, sI, hSp, hC, hW, li, lr, ↓cnd_a, ↓cnd_o, ↓cnd_n, ↓cnd_d, ↓z0, ↓z1, ↓z2, y0n, y1i, y2r, y0e, y1e, y2e, wl_0, wl_1, wl_2, wl_3, wl_4, wl_5, wl_6, wl_7, wl_8, wl_9, wl_10, wl_11, wl_12, wl_13, wl_14, wl_15, wl_16, wl_17, wl_18, wl_19, wl_20, wl_21, wl_22, wl_23, wl_24, wl_25, wl_26, wl_27, wl_28, wl_29, wl_30, wl_31, wl_32, wl_33, wl_34, wl_35, wl_36, wl_37, wl_38, wl_39, wl_40, wl_41, wl_42, wl_43, wl_44, wl_45, wl_46, wl_47, wl_48, wl_49, wl_50, wl_51, wl_52, wl_53, wl_54, wl_55, wl_56, wl_57, wl_58, wl_59, wl_60, wl_61, wl_62, wl_63, wl_64, wl_65, wl_66, wl_67, wl_68, wl_69, wl_70, wl_71, wl_72, wl_73, wl_74, wl_75, wl_76, wl_77, wl_78, wl_79, wl_80, wl_81, wl_82, wl_83, wl_84, wl_85, wl_86, wl_87, wl_88, wl_89, wl_90, wl_91, wl_92, wl_93, wl_94, wl_95, wl_96, wl_97, wl_98, wl_99, wl_100, wl_101, wl_102, wl_103, wl_104, wl_105, wl_106, wl_107, wl_108, wl_109, wl_110, wl_111, wl_112, wl_113, wl_114, wl_115, wl_116, wl_117, wl_118, wl_119, wl_120, wl_121, wl_122, wl_123, wl_124, wl_125, wl_126, wl_127, wl_128, wl_129, wl_130, wl_159, wl_160, wl_200, wl_232, wl_255, wl_256, wl_300, wl_359, wl_360, wl_400, wl_592, wl_992, wl_999, wl_1000, wl_1024, wl_3456, wl_6512, wl_7104, wl_10000, wl_11264, wl_12345, wl_32767, wl_1000000000, wl_1103515245, wl_2000000000, w_add, w_sub, w_mul, w_neg, w_lt, w_le, w_eq, w_cl, w_in, w_nat, w_max2, w_min2, w_abs2, iltT, iltF, ileT, ileF, ieqT, ieqF, bv_01, bft, bv_0, bv_1, bv_t, bv_f, cond_true, cond_false, Bool.not_true, Bool.not_false, if_true, if_false, true_or, or_true, true_and, and_true, ↓reduceIte, decide_true, decide_false, reduceCtorEq, u2_s, u2_o, u2_k, u2_u2, Bool.true_or, Bool.or_true, Bool.false_or, Bool.or_false, Bool.and_true, Bool.true_and, Bool.and_false, Bool.false_and, eq_self, not_true_eq_false, not_false_eq_true, and_self, and_true, true_and, false_and, and_false, w_dv, dvm, k1, k2, k3, k4, i1, i2, eq_94]
theorem sp_98h {d q : Nat} {b j : Int} {v : Int32} (hS : SHq K L R q) (hWd : Wd I q) (h : vS I q 4 = b + 1 ∧ (0 ≤ b ∧ b < 8) ∧ 0 ≤ j ∧ j < 3) : ev PR (d + 2) 98 [.ref (q + 3), .int (w j), .int v] (((vn, vc, vw, K, L, R), I, J) : HS) = some (.inl none, (((vn, vc, vw, K, L, R), u2 I (q + 4) (ix (b * 3 + j)) v, J) : HS)) := by
  obtain ⟨_, _, _, _, _, _, _, _, ⟨k1, k2, k3, k4⟩, _⟩ := SHq_e hS
  have i2 := rN_4 I q
  rw [h.1] at i2
  have s1 := sp_97h (d := d) (b := b) (j := j) (v := v) (vn := vn) (vc := vc) (vw := vw) (J := J) hS hWd (by omega)
  have e1 : b + 1 - 1 = b := by omega
  rw [eq_98]
  simp (disch := first | assumption | omega | (simp (disch := omega) only [vM_u, vS_u]; first | assumption | omega)) only [hK, hL, hR, hI, hN, sI, hSp, hC, hW, li, lr, ↓cnd_a, ↓cnd_o, ↓cnd_n, ↓cnd_d, ↓z0, ↓z1, ↓z2, y0n, y1i, y2r, y0e, y1e, y2e, wl_0, wl_1, wl_2, wl_3, wl_4, wl_5, wl_6, wl_7, wl_8, wl_9, wl_10, wl_11, wl_12, wl_13, wl_14, wl_15, wl_16, wl_17, wl_18, wl_19, wl_20, wl_21, wl_22, wl_23, wl_24, wl_25, wl_26, wl_27, wl_28, wl_29, wl_30, wl_31, wl_32, wl_33, wl_34, wl_35, wl_36, wl_37, wl_38, wl_39, wl_40, wl_41, wl_42, wl_43, wl_44, wl_45, wl_46, wl_47, wl_48, wl_49, wl_50, wl_51, wl_52, wl_53, wl_54, wl_55, wl_56, wl_57, wl_58, wl_59, wl_60, wl_61, wl_62, wl_63, wl_64, wl_65, wl_66, wl_67, wl_68, wl_69, wl_70, wl_71, wl_72, wl_73, wl_74, wl_75, wl_76, wl_77, wl_78, wl_79, wl_80, wl_81, wl_82, wl_83, wl_84, wl_85, wl_86, wl_87, wl_88, wl_89, wl_90, wl_91, wl_92, wl_93, wl_94, wl_95, wl_96, wl_97, wl_98, wl_99, wl_100, wl_101, wl_102, wl_103, wl_104, wl_105, wl_106, wl_107, wl_108, wl_109, wl_110, wl_111, wl_112, wl_113, wl_114, wl_115, wl_116, wl_117, wl_118, wl_119, wl_120, wl_121, wl_122, wl_123, wl_124, wl_125, wl_126, wl_127, wl_128, wl_129, wl_130, wl_159, wl_160, wl_200, wl_232, wl_255, wl_256, wl_300, wl_359, wl_360, wl_400, wl_592, wl_992, wl_999, wl_1000, wl_1024, wl_3456, wl_6512, wl_7104, wl_10000, wl_11264, wl_12345, wl_32767, wl_1000000000, wl_1103515245, wl_2000000000, w_add, w_sub, w_mul, w_neg, w_lt, w_le, w_eq, w_cl, w_in, w_nat, w_max2, w_min2, w_abs2, iltT, iltF, ileT, ileF, ieqT, ieqF, bv_01, bft, bv_0, bv_1, bv_t, bv_f, cond_true, cond_false, Bool.not_true, Bool.not_false, if_true, if_false, true_or, or_true, true_and, and_true, ↓reduceIte, decide_true, decide_false, reduceCtorEq, u2_s, u2_o, u2_k, u2_u2, Bool.true_or, Bool.or_true, Bool.false_or, Bool.or_false, Bool.and_true, Bool.true_and, Bool.and_false, Bool.false_and, eq_self, not_true_eq_false, not_false_eq_true, and_self, and_true, true_and, false_and, and_false, w_dv, dvm, k1, i2, e1, s1]
theorem sp_24h {d : Nat} {i lo hi b j : Int} (hX : XSH K L R) (hS : SHq K L R 115) (hD : DrA K L I T e n tb) (hij : 0 ≤ i ∧ i ≤ n) (hl : (0 ≤ lo ∧ lo ≤ 9999) ∧ 0 ≤ hi ∧ hi ≤ 9999) (h : vS I 115 4 = b + 1 ∧ (0 ≤ b ∧ b < 8) ∧ 0 ≤ j ∧ j < 3) :
    (∀ r, pFig T e lo hi (tb i) = .ok r → (i < n ∧ r.1 = tend T e (tb i)) ∧ ∃ I', ev PR (d + 3) 24 [.ref 87, .ref (115 + 3), .int (w j), .int (w lo), .int (w hi)] (((vn, vc, vw, K, L, R), nx I i, J) : HS) = some (.inl (some (.int (w 1))), (((vn, vc, vw, K, L, R), nx I' (i + 1), J) : HS)) ∧ DrA K L I' T e n tb ∧ FDr I I' ∧ vS I' 115 = setm (vS I 115) (70 + 3 * b + j) r.2) ∧
    (∀ f, pFig T e lo hi (tb i) = .error f → ev PR (d + 3) 24 [.ref 87, .ref (115 + 3), .int (w j), .int (w lo), .int (w hi)] (((vn, vc, vw, K, L, R), nx I i, J) : HS) = some (.inl (some (.int (w 0))), (((vn, vc, vw, K, L, R), nx I i, J) : HS))) := by
  have g := sp_155 (d := d) (lo := lo) (hi := hi) (vn := vn) (vc := vc) (vw := vw) (J := J) hX hD.1 hD.2.1 hij hl
  obtain ⟨_, _, _, _, _, _, _, _, ⟨k1, k2, k3, k4⟩, _⟩ := SHq_e hS
  constructor
  · intro r hr
    have hv := dg_lt hr
    obtain ⟨g1, g2⟩ := g.1 r hr
    have hn : vS (nx I (i + 1)) 115 = vS I 115 := vS_u (by omega) _ _
    have s1 := sp_98h (d := d) (b := b) (j := j) (v := w r.2) (I := nx I (i + 1)) (vn := vn) (vc := vc) (vw := vw) (J := J) hS (Wd_nx hD.2.2.2) (by rw [hn]; exact h)
    have hf : FDr I (u2 I (115 + 4) (ix (b * 3 + j)) (w r.2)) := fun a k x1 x2 x3 x4 => u2_o _ _ _ _ (by omega)
    refine ⟨g1, u2 I (115 + 4) (ix (b * 3 + j)) (w r.2), ?_, DrA_f hf hD, hf, put_h (by omega)⟩
    rw [nx_u (by omega)] at s1
    rw [eq_24]
    simp (disch := first | assumption | omega | (simp (disch := omega) only [vM_u, vS_u]; first | assumption | omega)) only [hK, hL, hR, hI, hN, sI, hSp, hC, hW, li, lr, ↓cnd_a, ↓cnd_o, ↓cnd_n, ↓cnd_d, ↓z0, ↓z1, ↓z2, y0n, y1i, y2r, y0e, y1e, y2e, wl_0, wl_1, wl_2, wl_3, wl_4, wl_5, wl_6, wl_7, wl_8, wl_9, wl_10, wl_11, wl_12, wl_13, wl_14, wl_15, wl_16, wl_17, wl_18, wl_19, wl_20, wl_21, wl_22, wl_23, wl_24, wl_25, wl_26, wl_27, wl_28, wl_29, wl_30, wl_31, wl_32, wl_33, wl_34, wl_35, wl_36, wl_37, wl_38, wl_39, wl_40, wl_41, wl_42, wl_43, wl_44, wl_45, wl_46, wl_47, wl_48, wl_49, wl_50, wl_51, wl_52, wl_53, wl_54, wl_55, wl_56, wl_57, wl_58, wl_59, wl_60, wl_61, wl_62, wl_63, wl_64, wl_65, wl_66, wl_67, wl_68, wl_69, wl_70, wl_71, wl_72, wl_73, wl_74, wl_75, wl_76, wl_77, wl_78, wl_79, wl_80, wl_81, wl_82, wl_83, wl_84, wl_85, wl_86, wl_87, wl_88, wl_89, wl_90, wl_91, wl_92, wl_93, wl_94, wl_95, wl_96, wl_97, wl_98, wl_99, wl_100, wl_101, wl_102, wl_103, wl_104, wl_105, wl_106, wl_107, wl_108, wl_109, wl_110, wl_111, wl_112, wl_113, wl_114, wl_115, wl_116, wl_117, wl_118, wl_119, wl_120, wl_121, wl_122, wl_123, wl_124, wl_125, wl_126, wl_127, wl_128, wl_129, wl_130, wl_159, wl_160, wl_200, wl_232, wl_255, wl_256, wl_300, wl_359, wl_360, wl_400, wl_592, wl_992, wl_999, wl_1000, wl_1024, wl_3456, wl_6512, wl_7104, wl_10000, wl_11264, wl_12345, wl_32767, wl_1000000000, wl_1103515245, wl_2000000000, w_add, w_sub, w_mul, w_neg, w_lt, w_le, w_eq, w_cl, w_in, w_nat, w_max2, w_min2, w_abs2, iltT, iltF, ileT, ileF, ieqT, ieqF, bv_01, bft, bv_0, bv_1, bv_t, bv_f, cond_true, cond_false, Bool.not_true, Bool.not_false, if_true, if_false, true_or, or_true, true_and, and_true, ↓reduceIte, decide_true, decide_false, reduceCtorEq, u2_s, u2_o, u2_k, u2_u2, Bool.true_or, Bool.or_true, Bool.false_or, Bool.or_false, Bool.and_true, Bool.true_and, Bool.and_false, Bool.false_and, eq_self, not_true_eq_false, not_false_eq_true, and_self, and_true, true_and, false_and, and_false, w_dv, dvm, XSH_e hX, g2, k1, s1]
  · intro f hf
    have g2 := g.2 f hf
    rw [eq_24]
    simp (disch := first | assumption | omega | (simp (disch := omega) only [vM_u, vS_u]; first | assumption | omega)) only [hK, hL, hR, hI, hN, sI, hSp, hC, hW, li, lr, ↓cnd_a, ↓cnd_o, ↓cnd_n, ↓cnd_d, ↓z0, ↓z1, ↓z2, y0n, y1i, y2r, y0e, y1e, y2e, wl_0, wl_1, wl_2, wl_3, wl_4, wl_5, wl_6, wl_7, wl_8, wl_9, wl_10, wl_11, wl_12, wl_13, wl_14, wl_15, wl_16, wl_17, wl_18, wl_19, wl_20, wl_21, wl_22, wl_23, wl_24, wl_25, wl_26, wl_27, wl_28, wl_29, wl_30, wl_31, wl_32, wl_33, wl_34, wl_35, wl_36, wl_37, wl_38, wl_39, wl_40, wl_41, wl_42, wl_43, wl_44, wl_45, wl_46, wl_47, wl_48, wl_49, wl_50, wl_51, wl_52, wl_53, wl_54, wl_55, wl_56, wl_57, wl_58, wl_59, wl_60, wl_61, wl_62, wl_63, wl_64, wl_65, wl_66, wl_67, wl_68, wl_69, wl_70, wl_71, wl_72, wl_73, wl_74, wl_75, wl_76, wl_77, wl_78, wl_79, wl_80, wl_81, wl_82, wl_83, wl_84, wl_85, wl_86, wl_87, wl_88, wl_89, wl_90, wl_91, wl_92, wl_93, wl_94, wl_95, wl_96, wl_97, wl_98, wl_99, wl_100, wl_101, wl_102, wl_103, wl_104, wl_105, wl_106, wl_107, wl_108, wl_109, wl_110, wl_111, wl_112, wl_113, wl_114, wl_115, wl_116, wl_117, wl_118, wl_119, wl_120, wl_121, wl_122, wl_123, wl_124, wl_125, wl_126, wl_127, wl_128, wl_129, wl_130, wl_159, wl_160, wl_200, wl_232, wl_255, wl_256, wl_300, wl_359, wl_360, wl_400, wl_592, wl_992, wl_999, wl_1000, wl_1024, wl_3456, wl_6512, wl_7104, wl_10000, wl_11264, wl_12345, wl_32767, wl_1000000000, wl_1103515245, wl_2000000000, w_add, w_sub, w_mul, w_neg, w_lt, w_le, w_eq, w_cl, w_in, w_nat, w_max2, w_min2, w_abs2, iltT, iltF, ileT, ileF, ieqT, ieqF, bv_01, bft, bv_0, bv_1, bv_t, bv_f, cond_true, cond_false, Bool.not_true, Bool.not_false, if_true, if_false, true_or, or_true, true_and, and_true, ↓reduceIte, decide_true, decide_false, reduceCtorEq, u2_s, u2_o, u2_k, u2_u2, Bool.true_or, Bool.or_true, Bool.false_or, Bool.or_false, Bool.and_true, Bool.true_and, Bool.and_false, Bool.false_and, eq_self, not_true_eq_false, not_false_eq_true, and_self, and_true, true_and, false_and, and_false, w_dv, dvm, XSH_e hX, g2]
theorem sp_99p {d q : Nat} (hS : SHq K L R q) (hWd : Wd I q) (h : 0 ≤ vS I q 5 ∧ vS I q 5 < 6) : ∃ I', ev PR (d + 2) 99 [.ref (q + 5)] (((vn, vc, vw, K, L, R), I, J) : HS) = some (.inl (some (.int (w (vS I q 5)))), (((vn, vc, vw, K, L, R), I', J) : HS)) ∧ vS I' q = setm (vS I q) 5 (vS I q 5 + 1) ∧ Wd I' q ∧ (∀ a k, a ≠ q + 6 → ¬(a = q + 5 ∧ k = 2) → I' a k = I a k) := by
  obtain ⟨_, _, _, _, _, _, _, _, _, ⟨k1, k2, k3, k4⟩, _⟩ := SHq_e hS
  obtain ⟨I', e, g1, g2, g3⟩ := sp_99 (d := d) (J := J) (vn := vn) (vc := vc) (vw := vw) (I := I) (r := q + 5) (c := q + 6) (cap := 18) (wd := 3) (sz := vS I q 5) (P := 3 * vS I q 5) k1 k2 k3 k4 (by omega) hWd.2.2.1 (w_of _).symm (by omega) (by omega) (by omega)
  have F : F2 (q + 5) (q + 6) I I' := fun a b h1 h2 => g3 a b h2 (by omega)
  have hn : vS I' q 5 = vS I q 5 + 1 := by rw [← rN_5t, g1, w_toInt (by omega)]
  refine ⟨I', e, ?_, ?_, g3⟩
  · funext z
    unfold setm
    by_cases c13 : z = 5
    · rw [if_pos c13, c13]; exact hn
    · rw [if_neg c13]
      by_cases c : 94 ≤ z ∧ z < 112
      · rw [vS_p c, vS_p c, hn, g2]
        by_cases c2 : z < 94 + 3 * vS I q 5
        · rw [if_pos (by omega), if_neg (by unfold ix; omega), if_pos c2]
        · rw [if_neg c2]
          by_cases c3 : z < 94 + 3 * (vS I q 5 + 1)
          · rw [if_pos c3, if_pos (by unfold ix; omega)]; rfl
          · rw [if_neg c3]
      · exact vS_but (r := 5) (by omega) F (by omega)
  · obtain ⟨h1, h2, h3, h4, h5⟩ := hWd
    exact ⟨(g3 _ _ (by omega) (by omega)).trans h1, (g3 _ _ (by omega) (by omega)).trans h2, (g3 _ _ (by omega) (by omega)).trans h3, (g3 _ _ (by omega) (by omega)).trans h4, (g3 _ _ (by omega) (by omega)).trans h5⟩
theorem sp_99pf {d q : Nat} (hS : SHq K L R q) (hWd : Wd I q) (h : vS I q 5 = 6) : ev PR (d + 2) 99 [.ref (q + 5)] (((vn, vc, vw, K, L, R), I, J) : HS) = some (.inl (some (.int (w (-1)))), (((vn, vc, vw, K, L, R), I, J) : HS)) := by
  obtain ⟨_, _, _, _, _, _, _, _, _, ⟨k1, k2, k3, k4⟩, _⟩ := SHq_e hS
  have i1 := hWd.2.2.1
  have i2 := rN_5 I q
  rw [h] at i2
  rw [eq_99]
  simp (disch := first | assumption | omega | (simp (disch := omega) only [vM_u, vS_u]; first | assumption | omega)) only [hK, hL, hR, hI, hN, sI, hSp, hC, hW, li, lr, ↓cnd_a, ↓cnd_o, ↓cnd_n, ↓cnd_d, ↓z0, ↓z1, ↓z2, y0n, y1i, y2r, y0e, y1e, y2e, wl_0, wl_1, wl_2, wl_3, wl_4, wl_5, wl_6, wl_7, wl_8, wl_9, wl_10, wl_11, wl_12, wl_13, wl_14, wl_15, wl_16, wl_17, wl_18, wl_19, wl_20, wl_21, wl_22, wl_23, wl_24, wl_25, wl_26, wl_27, wl_28, wl_29, wl_30, wl_31, wl_32, wl_33, wl_34, wl_35, wl_36, wl_37, wl_38, wl_39, wl_40, wl_41, wl_42, wl_43, wl_44, wl_45, wl_46, wl_47, wl_48, wl_49, wl_50, wl_51, wl_52, wl_53, wl_54, wl_55, wl_56, wl_57, wl_58, wl_59, wl_60, wl_61, wl_62, wl_63, wl_64, wl_65, wl_66, wl_67, wl_68, wl_69, wl_70, wl_71, wl_72, wl_73, wl_74, wl_75, wl_76, wl_77, wl_78, wl_79, wl_80, wl_81, wl_82, wl_83, wl_84, wl_85, wl_86, wl_87, wl_88, wl_89, wl_90, wl_91, wl_92, wl_93, wl_94, wl_95, wl_96, wl_97, wl_98, wl_99, wl_100, wl_101, wl_102, wl_103, wl_104, wl_105, wl_106, wl_107, wl_108, wl_109, wl_110, wl_111, wl_112, wl_113, wl_114, wl_115, wl_116, wl_117, wl_118, wl_119, wl_120, wl_121, wl_122, wl_123, wl_124, wl_125, wl_126, wl_127, wl_128, wl_129, wl_130, wl_159, wl_160, wl_200, wl_232, wl_255, wl_256, wl_300, wl_359, wl_360, wl_400, wl_592, wl_992, wl_999, wl_1000, wl_1024, wl_3456, wl_6512, wl_7104, wl_10000, wl_11264, wl_12345, wl_32767, wl_1000000000, wl_1103515245, wl_2000000000, w_add, w_sub, w_mul, w_neg, w_lt, w_le, w_eq, w_cl, w_in, w_nat, w_max2, w_min2, w_abs2, iltT, iltF, ileT, ileF, ieqT, ieqF, bv_01, bft, bv_0, bv_1, bv_t, bv_f, cond_true, cond_false, Bool.not_true, Bool.not_false, if_true, if_false, true_or, or_true, true_and, and_true, ↓reduceIte, decide_true, decide_false, reduceCtorEq, u2_s, u2_o, u2_k, u2_u2, Bool.true_or, Bool.or_true, Bool.false_or, Bool.or_false, Bool.and_true, Bool.true_and, Bool.and_false, Bool.false_and, eq_self, not_true_eq_false, not_false_eq_true, and_self, and_true, true_and, false_and, and_false, w_dv, dvm, k1, k2, k3, k4, i1, i2, eq_94]
theorem sp_98p {d q : Nat} {b j : Int} {v : Int32} (hS : SHq K L R q) (hWd : Wd I q) (h : vS I q 5 = b + 1 ∧ (0 ≤ b ∧ b < 6) ∧ 0 ≤ j ∧ j < 3) : ev PR (d + 2) 98 [.ref (q + 5), .int (w j), .int v] (((vn, vc, vw, K, L, R), I, J) : HS) = some (.inl none, (((vn, vc, vw, K, L, R), u2 I (q + 6) (ix (b * 3 + j)) v, J) : HS)) := by
  obtain ⟨_, _, _, _, _, _, _, _, _, ⟨k1, k2, k3, k4⟩, _⟩ := SHq_e hS
  have i2 := rN_5 I q
  rw [h.1] at i2
  have s1 := sp_97p (d := d) (b := b) (j := j) (v := v) (vn := vn) (vc := vc) (vw := vw) (J := J) hS hWd (by omega)
  have e1 : b + 1 - 1 = b := by omega
  rw [eq_98]
  simp (disch := first | assumption | omega | (simp (disch := omega) only [vM_u, vS_u]; first | assumption | omega)) only [hK, hL, hR, hI, hN, sI, hSp, hC, hW, li, lr, ↓cnd_a, ↓cnd_o, ↓cnd_n, ↓cnd_d, ↓z0, ↓z1, ↓z2, y0n, y1i, y2r, y0e, y1e, y2e, wl_0, wl_1, wl_2, wl_3, wl_4, wl_5, wl_6, wl_7, wl_8, wl_9, wl_10, wl_11, wl_12, wl_13, wl_14, wl_15, wl_16, wl_17, wl_18, wl_19, wl_20, wl_21, wl_22, wl_23, wl_24, wl_25, wl_26, wl_27, wl_28, wl_29, wl_30, wl_31, wl_32, wl_33, wl_34, wl_35, wl_36, wl_37, wl_38, wl_39, wl_40, wl_41, wl_42, wl_43, wl_44, wl_45, wl_46, wl_47, wl_48, wl_49, wl_50, wl_51, wl_52, wl_53, wl_54, wl_55, wl_56, wl_57, wl_58, wl_59, wl_60, wl_61, wl_62, wl_63, wl_64, wl_65, wl_66, wl_67, wl_68, wl_69, wl_70, wl_71, wl_72, wl_73, wl_74, wl_75, wl_76, wl_77, wl_78, wl_79, wl_80, wl_81, wl_82, wl_83, wl_84, wl_85, wl_86, wl_87, wl_88, wl_89, wl_90, wl_91, wl_92, wl_93, wl_94, wl_95, wl_96, wl_97, wl_98, wl_99, wl_100, wl_101, wl_102, wl_103, wl_104, wl_105, wl_106, wl_107, wl_108, wl_109, wl_110, wl_111, wl_112, wl_113, wl_114, wl_115, wl_116, wl_117, wl_118, wl_119, wl_120, wl_121, wl_122, wl_123, wl_124, wl_125, wl_126, wl_127, wl_128, wl_129, wl_130, wl_159, wl_160, wl_200, wl_232, wl_255, wl_256, wl_300, wl_359, wl_360, wl_400, wl_592, wl_992, wl_999, wl_1000, wl_1024, wl_3456, wl_6512, wl_7104, wl_10000, wl_11264, wl_12345, wl_32767, wl_1000000000, wl_1103515245, wl_2000000000, w_add, w_sub, w_mul, w_neg, w_lt, w_le, w_eq, w_cl, w_in, w_nat, w_max2, w_min2, w_abs2, iltT, iltF, ileT, ileF, ieqT, ieqF, bv_01, bft, bv_0, bv_1, bv_t, bv_f, cond_true, cond_false, Bool.not_true, Bool.not_false, if_true, if_false, true_or, or_true, true_and, and_true, ↓reduceIte, decide_true, decide_false, reduceCtorEq, u2_s, u2_o, u2_k, u2_u2, Bool.true_or, Bool.or_true, Bool.false_or, Bool.or_false, Bool.and_true, Bool.true_and, Bool.and_false, Bool.false_and, eq_self, not_true_eq_false, not_false_eq_true, and_self, and_true, true_and, false_and, and_false, w_dv, dvm, k1, i2, e1, s1]
theorem sp_24p {d : Nat} {i lo hi b j : Int} (hX : XSH K L R) (hS : SHq K L R 115) (hD : DrA K L I T e n tb) (hij : 0 ≤ i ∧ i ≤ n) (hl : (0 ≤ lo ∧ lo ≤ 9999) ∧ 0 ≤ hi ∧ hi ≤ 9999) (h : vS I 115 5 = b + 1 ∧ (0 ≤ b ∧ b < 6) ∧ 0 ≤ j ∧ j < 3) :
    (∀ r, pFig T e lo hi (tb i) = .ok r → (i < n ∧ r.1 = tend T e (tb i)) ∧ ∃ I', ev PR (d + 3) 24 [.ref 87, .ref (115 + 5), .int (w j), .int (w lo), .int (w hi)] (((vn, vc, vw, K, L, R), nx I i, J) : HS) = some (.inl (some (.int (w 1))), (((vn, vc, vw, K, L, R), nx I' (i + 1), J) : HS)) ∧ DrA K L I' T e n tb ∧ FDr I I' ∧ vS I' 115 = setm (vS I 115) (94 + 3 * b + j) r.2) ∧
    (∀ f, pFig T e lo hi (tb i) = .error f → ev PR (d + 3) 24 [.ref 87, .ref (115 + 5), .int (w j), .int (w lo), .int (w hi)] (((vn, vc, vw, K, L, R), nx I i, J) : HS) = some (.inl (some (.int (w 0))), (((vn, vc, vw, K, L, R), nx I i, J) : HS))) := by
  have g := sp_155 (d := d) (lo := lo) (hi := hi) (vn := vn) (vc := vc) (vw := vw) (J := J) hX hD.1 hD.2.1 hij hl
  obtain ⟨_, _, _, _, _, _, _, _, _, ⟨k1, k2, k3, k4⟩, _⟩ := SHq_e hS
  constructor
  · intro r hr
    have hv := dg_lt hr
    obtain ⟨g1, g2⟩ := g.1 r hr
    have hn : vS (nx I (i + 1)) 115 = vS I 115 := vS_u (by omega) _ _
    have s1 := sp_98p (d := d) (b := b) (j := j) (v := w r.2) (I := nx I (i + 1)) (vn := vn) (vc := vc) (vw := vw) (J := J) hS (Wd_nx hD.2.2.2) (by rw [hn]; exact h)
    have hf : FDr I (u2 I (115 + 6) (ix (b * 3 + j)) (w r.2)) := fun a k x1 x2 x3 x4 => u2_o _ _ _ _ (by omega)
    refine ⟨g1, u2 I (115 + 6) (ix (b * 3 + j)) (w r.2), ?_, DrA_f hf hD, hf, put_p (by omega)⟩
    rw [nx_u (by omega)] at s1
    rw [eq_24]
    simp (disch := first | assumption | omega | (simp (disch := omega) only [vM_u, vS_u]; first | assumption | omega)) only [hK, hL, hR, hI, hN, sI, hSp, hC, hW, li, lr, ↓cnd_a, ↓cnd_o, ↓cnd_n, ↓cnd_d, ↓z0, ↓z1, ↓z2, y0n, y1i, y2r, y0e, y1e, y2e, wl_0, wl_1, wl_2, wl_3, wl_4, wl_5, wl_6, wl_7, wl_8, wl_9, wl_10, wl_11, wl_12, wl_13, wl_14, wl_15, wl_16, wl_17, wl_18, wl_19, wl_20, wl_21, wl_22, wl_23, wl_24, wl_25, wl_26, wl_27, wl_28, wl_29, wl_30, wl_31, wl_32, wl_33, wl_34, wl_35, wl_36, wl_37, wl_38, wl_39, wl_40, wl_41, wl_42, wl_43, wl_44, wl_45, wl_46, wl_47, wl_48, wl_49, wl_50, wl_51, wl_52, wl_53, wl_54, wl_55, wl_56, wl_57, wl_58, wl_59, wl_60, wl_61, wl_62, wl_63, wl_64, wl_65, wl_66, wl_67, wl_68, wl_69, wl_70, wl_71, wl_72, wl_73, wl_74, wl_75, wl_76, wl_77, wl_78, wl_79, wl_80, wl_81, wl_82, wl_83, wl_84, wl_85, wl_86, wl_87, wl_88, wl_89, wl_90, wl_91, wl_92, wl_93, wl_94, wl_95, wl_96, wl_97, wl_98, wl_99, wl_100, wl_101, wl_102, wl_103, wl_104, wl_105, wl_106, wl_107, wl_108, wl_109, wl_110, wl_111, wl_112, wl_113, wl_114, wl_115, wl_116, wl_117, wl_118, wl_119, wl_120, wl_121, wl_122, wl_123, wl_124, wl_125, wl_126, wl_127, wl_128, wl_129, wl_130, wl_159, wl_160, wl_200, wl_232, wl_255, wl_256, wl_300, wl_359, wl_360, wl_400, wl_592, wl_992, wl_999, wl_1000, wl_1024, wl_3456, wl_6512, wl_7104, wl_10000, wl_11264, wl_12345, wl_32767, wl_1000000000, wl_1103515245, wl_2000000000, w_add, w_sub, w_mul, w_neg, w_lt, w_le, w_eq, w_cl, w_in, w_nat, w_max2, w_min2, w_abs2, iltT, iltF, ileT, ileF, ieqT, ieqF, bv_01, bft, bv_0, bv_1, bv_t, bv_f, cond_true, cond_false, Bool.not_true, Bool.not_false, if_true, if_false, true_or, or_true, true_and, and_true, ↓reduceIte, decide_true, decide_false, reduceCtorEq, u2_s, u2_o, u2_k, u2_u2, Bool.true_or, Bool.or_true, Bool.false_or, Bool.or_false, Bool.and_true, Bool.true_and, Bool.and_false, Bool.false_and, eq_self, not_true_eq_false, not_false_eq_true, and_self, and_true, true_and, false_and, and_false, w_dv, dvm, XSH_e hX, g2, k1, s1]
  · intro f hf
    have g2 := g.2 f hf
    rw [eq_24]
    simp (disch := first | assumption | omega | (simp (disch := omega) only [vM_u, vS_u]; first | assumption | omega)) only [hK, hL, hR, hI, hN, sI, hSp, hC, hW, li, lr, ↓cnd_a, ↓cnd_o, ↓cnd_n, ↓cnd_d, ↓z0, ↓z1, ↓z2, y0n, y1i, y2r, y0e, y1e, y2e, wl_0, wl_1, wl_2, wl_3, wl_4, wl_5, wl_6, wl_7, wl_8, wl_9, wl_10, wl_11, wl_12, wl_13, wl_14, wl_15, wl_16, wl_17, wl_18, wl_19, wl_20, wl_21, wl_22, wl_23, wl_24, wl_25, wl_26, wl_27, wl_28, wl_29, wl_30, wl_31, wl_32, wl_33, wl_34, wl_35, wl_36, wl_37, wl_38, wl_39, wl_40, wl_41, wl_42, wl_43, wl_44, wl_45, wl_46, wl_47, wl_48, wl_49, wl_50, wl_51, wl_52, wl_53, wl_54, wl_55, wl_56, wl_57, wl_58, wl_59, wl_60, wl_61, wl_62, wl_63, wl_64, wl_65, wl_66, wl_67, wl_68, wl_69, wl_70, wl_71, wl_72, wl_73, wl_74, wl_75, wl_76, wl_77, wl_78, wl_79, wl_80, wl_81, wl_82, wl_83, wl_84, wl_85, wl_86, wl_87, wl_88, wl_89, wl_90, wl_91, wl_92, wl_93, wl_94, wl_95, wl_96, wl_97, wl_98, wl_99, wl_100, wl_101, wl_102, wl_103, wl_104, wl_105, wl_106, wl_107, wl_108, wl_109, wl_110, wl_111, wl_112, wl_113, wl_114, wl_115, wl_116, wl_117, wl_118, wl_119, wl_120, wl_121, wl_122, wl_123, wl_124, wl_125, wl_126, wl_127, wl_128, wl_129, wl_130, wl_159, wl_160, wl_200, wl_232, wl_255, wl_256, wl_300, wl_359, wl_360, wl_400, wl_592, wl_992, wl_999, wl_1000, wl_1024, wl_3456, wl_6512, wl_7104, wl_10000, wl_11264, wl_12345, wl_32767, wl_1000000000, wl_1103515245, wl_2000000000, w_add, w_sub, w_mul, w_neg, w_lt, w_le, w_eq, w_cl, w_in, w_nat, w_max2, w_min2, w_abs2, iltT, iltF, ileT, ileF, ieqT, ieqF, bv_01, bft, bv_0, bv_1, bv_t, bv_f, cond_true, cond_false, Bool.not_true, Bool.not_false, if_true, if_false, true_or, or_true, true_and, and_true, ↓reduceIte, decide_true, decide_false, reduceCtorEq, u2_s, u2_o, u2_k, u2_u2, Bool.true_or, Bool.or_true, Bool.false_or, Bool.or_false, Bool.and_true, Bool.true_and, Bool.and_false, Bool.false_and, eq_self, not_true_eq_false, not_false_eq_true, and_self, and_true, true_and, false_and, and_false, w_dv, dvm, XSH_e hX, g2]
theorem pFig_sk (T : Int → Int) (e lo hi p : Int) : pFig T e lo hi (sk T e p) = pFig T e lo hi p := by
  unfold pFig
  rw [sk_sk]
theorem pMust_sk (T : Int → Int) (e p : Int) (ws : List Int) : pMust T e ws (sk T e p) = pMust T e ws p := by
  unfold pMust
  rw [sk_sk]
end FRA
