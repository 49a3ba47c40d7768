/-! THE CLASS: rows and stalls copied -/
theorem vS_cp {f g : Nat → Nat → Int32} {q0 q1 : Nat} (h : g (q0 + 1) 2 = f (q1 + 1) 2 ∧ g (q0 + 3) 2 = f (q1 + 3) 2 ∧ g (q0 + 5) 2 = f (q1 + 5) 2 ∧ g (q0 + 7) 2 = f (q1 + 7) 2 ∧ g (q0 + 9) 2 = f (q1 + 9) 2) (hb : ∀ k : Nat, (k : Int) < 5 * vS f q1 3 → g (q0 + 2) k = f (q1 + 2) k) (hh : ∀ k : Nat, (k : Int) < 3 * vS f q1 4 → g (q0 + 4) k = f (q1 + 4) k) (hp : ∀ k : Nat, (k : Int) < 3 * vS f q1 5 → g (q0 + 6) k = f (q1 + 6) k) (hl : ∀ k : Nat, (k : Int) < 4 * vS f q1 13 → g (q0 + 8) k = f (q1 + 8) k) (ht : ∀ k : Nat, (k : Int) < 6 * vS f q1 14 → g (q0 + 10) k = f (q1 + 10) k) (hf : ∀ k, 11 ≤ k → k ≤ 18 → g q0 k = f q1 k) : vS g q0 = vS f q1 := by
  have e3 : vS g q0 3 = vS f q1 3 := by rw [← rN_3t, ← rN_3t, h.1]
  have e4 : vS g q0 4 = vS f q1 4 := by rw [← rN_4t, ← rN_4t, h.2.1]
  have e5 : vS g q0 5 = vS f q1 5 := by rw [← rN_5t, ← rN_5t, h.2.2.1]
  have e13 : vS g q0 13 = vS f q1 13 := by rw [← rN_13t, ← rN_13t, h.2.2.2.1]
  have e14 : vS g q0 14 = vS f q1 14 := by rw [← rN_14t, ← rN_14t, h.2.2.2.2]
  funext z
  by_cases c3 : z = 3
  · subst c3; exact e3
  · by_cases c4 : z = 4
    · subst c4; exact e4
    · by_cases c5 : z = 5
      · subst c5; exact e5
      · by_cases cb : 20 ≤ z ∧ z < 70
        · rw [vS_b cb, vS_b cb, e3]
          by_cases c : z < 20 + 5 * vS f q1 3
          · rw [if_pos c, if_pos c, hb _ (by unfold ix; omega)]
          · rw [if_neg c, if_neg c]
        · by_cases ch : 70 ≤ z ∧ z < 94
          · rw [vS_h ch, vS_h ch, e4]
            by_cases c : z < 70 + 3 * vS f q1 4
            · rw [if_pos c, if_pos c, hh _ (by unfold ix; omega)]
            · rw [if_neg c, if_neg c]
          · by_cases cp : 94 ≤ z ∧ z < 112
            · rw [vS_p cp, vS_p cp, e5]
              by_cases c : z < 94 + 3 * vS f q1 5
              · rw [if_pos c, if_pos c, hp _ (by unfold ix; omega)]
              · rw [if_neg c, if_neg c]
            · by_cases cl : 112 ≤ z ∧ z < 232
              · rw [vS_l cl, vS_l cl, e13]
                by_cases c : z < 112 + 4 * vS f q1 13
                · rw [if_pos c, if_pos c, hl _ (by unfold ix; omega)]
                · rw [if_neg c, if_neg c]
              · by_cases ct : 232 ≤ z ∧ z < 592
                · rw [vS_t ct, vS_t ct, e14]
                  by_cases c : z < 232 + 6 * vS f q1 14
                  · rw [if_pos c, if_pos c, ht _ (by unfold ix; omega)]
                  · rw [if_neg c, if_neg c]
                · by_cases c13 : z = 13
                  · subst c13; exact e13
                  · by_cases c14 : z = 14
                    · subst c14; exact e14
                    · rw [vS_o c3 c4 c5 c13 c14 cb ch cp cl ct, vS_o c3 c4 c5 c13 c14 cb ch cp cl ct, hf 11 (by omega) (by omega), hf 18 (by omega) (by omega)]
                      by_cases c6 : 6 ≤ z ∧ z ≤ 11
                      · rw [hf (ix (z + 6)) (by unfold ix; omega) (by unfold ix; omega)]
                      · rw [if_neg c6, if_neg c6]
section RWS
variable {vn vc vw : Nat} {K L : Nat → Nat} {R : Nat → Nat → Nat} {I : Nat → Nat → Int32} {J : Nat → Nat → Int64}
theorem sp_102 {d r0 c0 r1 c1 : Nat} {cap : Nat} {wd sz P : Int} (k1 : K r0 = 8) (k2 : R r0 0 = c0) (k3 : K c0 = 20) (k4 : L c0 = cap) (m1 : K r1 = 8) (m2 : R r1 0 = c1) (m3 : K c1 = 20) (m4 : L c1 = cap) (hne : c0 ≠ c1 ∧ r0 ≠ c0 ∧ r1 ≠ c0) (i1 : I r1 1 = w wd) (i2 : I r1 2 = w sz) (hP : sz * wd = P) (hb : (1 ≤ wd ∧ wd ≤ 6) ∧ (0 ≤ sz ∧ sz ≤ 100) ∧ 0 ≤ P ∧ P ≤ cap ∧ cap ≤ 1000) :
    ∃ I', ev PR (d + 1) 102 [.ref r0, .ref r1] (((vn, vc, vw, K, L, R), I, J) : HS) = some (.inl none, (((vn, vc, vw, K, L, R), I', J) : HS)) ∧ I' r0 2 = w sz ∧ (∀ k : Nat, (k : Int) < P → I' c0 k = I c1 k) ∧ ∀ a k, a ≠ c0 → ¬(a = r0 ∧ k = 2) → I' a k = I a k := by
  have e1 : min (cap : Int) (cap : Int) = cap := by omega
  have e2 : min P (cap : Int) = P := by omega
  have e3 : min (cap : Int) P = P := by omega
  have n1 : ¬(c1 = c0) := fun h => hne.1 h.symm
  by_cases c : P ≤ 0
  · refine ⟨u2 I r0 2 (w sz), ?_, u2_s _ _ _ _, fun k hk => by omega, fun a k h1 h2 => by rw [u2_r, if_neg h2]⟩
    rw [eq_102]
    simp (disch := first | assumption | omega | (simp (disch := omega) only [vM_u, vS_u]; first | assumption | omega)) only [hK, hL, hR, hI, hN, sI, hSp, hC, hW, li, lr, ↓cnd_a, ↓cnd_o, ↓cnd_n, ↓cnd_d, ↓z0, ↓z1, ↓z2, y0n, y1i, y2r, y0e, y1e, y2e, wl_0, wl_1, wl_2, wl_3, wl_4, wl_5, wl_6, wl_7, wl_8, wl_9, wl_10, wl_11, wl_12, wl_13, wl_14, wl_15, wl_16, wl_17, wl_18, wl_19, wl_20, wl_21, wl_22, wl_23, wl_24, wl_25, wl_26, wl_27, wl_28, wl_29, wl_30, wl_31, wl_32, wl_33, wl_34, wl_35, wl_36, wl_37, wl_38, wl_39, wl_40, wl_41, wl_42, wl_43, wl_44, wl_45, wl_46, wl_47, wl_48, wl_49, wl_50, wl_51, wl_52, wl_53, wl_54, wl_55, wl_56, wl_57, wl_58, wl_59, wl_60, wl_61, wl_62, wl_63, wl_64, wl_65, wl_66, wl_67, wl_68, wl_69, wl_70, wl_71, wl_72, wl_73, wl_74, wl_75, wl_76, wl_77, wl_78, wl_79, wl_80, wl_81, wl_82, wl_83, wl_84, wl_85, wl_86, wl_87, wl_88, wl_89, wl_90, wl_91, wl_92, wl_93, wl_94, wl_95, wl_96, wl_97, wl_98, wl_99, wl_100, wl_101, wl_102, wl_103, wl_104, wl_105, wl_106, wl_107, wl_108, wl_109, wl_110, wl_111, wl_112, wl_113, wl_114, wl_115, wl_116, wl_117, wl_118, wl_119, wl_120, wl_121, wl_122, wl_123, wl_124, wl_125, wl_126, wl_127, wl_128, wl_129, wl_130, wl_159, wl_160, wl_200, wl_232, wl_255, wl_256, wl_300, wl_359, wl_360, wl_400, wl_592, wl_992, wl_999, wl_1000, wl_1024, wl_3456, wl_6512, wl_7104, wl_10000, wl_11264, wl_12345, wl_32767, wl_1000000000, wl_1103515245, wl_2000000000, w_add, w_sub, w_mul, w_neg, w_lt, w_le, w_eq, w_cl, w_in, w_nat, w_max2, w_min2, w_abs2, iltT, iltF, ileT, ileF, ieqT, ieqF, bv_01, bft, bv_0, bv_1, bv_t, bv_f, cond_true, cond_false, Bool.not_true, Bool.not_false, if_true, if_false, true_or, or_true, true_and, and_true, ↓reduceIte, decide_true, decide_false, reduceCtorEq, u2_s, u2_o, u2_k, u2_u2, Bool.true_or, Bool.or_true, Bool.false_or, Bool.or_false, Bool.and_true, Bool.true_and, Bool.and_false, Bool.false_and, eq_self, not_true_eq_false, not_false_eq_true, and_self, and_true, true_and, false_and, and_false, w_dv, dvm, k1, k2, k3, k4, m1, m2, m3, m4, i1, i2, hP, e1, e2, e3]
  · refine ⟨u2 (acpy I c1 0 c0 0 (ix P)) r0 2 (w sz), ?_, u2_s _ _ _ _, fun k hk => ?_, fun a k h1 h2 => by rw [u2_r, if_neg h2]; unfold acpy; rw [if_neg (by omega)]⟩
    · have q1 : acpy I c1 0 c0 0 (ix P) r1 2 = w sz := by unfold acpy; rw [if_neg (by omega)]; exact i2
      have z0 : ix 0 = 0 := rfl
      have z1 : ix P ≤ cap := by unfold ix; omega
      rw [eq_102]
      simp (disch := first | assumption | omega | (simp (disch := omega) only [vM_u, vS_u]; first | assumption | omega)) only [hK, hL, hR, hI, hN, sI, hSp, hC, hW, li, lr, ↓cnd_a, ↓cnd_o, ↓cnd_n, ↓cnd_d, ↓z0, ↓z1, ↓z2, y0n, y1i, y2r, y0e, y1e, y2e, wl_0, wl_1, wl_2, wl_3, wl_4, wl_5, wl_6, wl_7, wl_8, wl_9, wl_10, wl_11, wl_12, wl_13, wl_14, wl_15, wl_16, wl_17, wl_18, wl_19, wl_20, wl_21, wl_22, wl_23, wl_24, wl_25, wl_26, wl_27, wl_28, wl_29, wl_30, wl_31, wl_32, wl_33, wl_34, wl_35, wl_36, wl_37, wl_38, wl_39, wl_40, wl_41, wl_42, wl_43, wl_44, wl_45, wl_46, wl_47, wl_48, wl_49, wl_50, wl_51, wl_52, wl_53, wl_54, wl_55, wl_56, wl_57, wl_58, wl_59, wl_60, wl_61, wl_62, wl_63, wl_64, wl_65, wl_66, wl_67, wl_68, wl_69, wl_70, wl_71, wl_72, wl_73, wl_74, wl_75, wl_76, wl_77, wl_78, wl_79, wl_80, wl_81, wl_82, wl_83, wl_84, wl_85, wl_86, wl_87, wl_88, wl_89, wl_90, wl_91, wl_92, wl_93, wl_94, wl_95, wl_96, wl_97, wl_98, wl_99, wl_100, wl_101, wl_102, wl_103, wl_104, wl_105, wl_106, wl_107, wl_108, wl_109, wl_110, wl_111, wl_112, wl_113, wl_114, wl_115, wl_116, wl_117, wl_118, wl_119, wl_120, wl_121, wl_122, wl_123, wl_124, wl_125, wl_126, wl_127, wl_128, wl_129, wl_130, wl_159, wl_160, wl_200, wl_232, wl_255, wl_256, wl_300, wl_359, wl_360, wl_400, wl_592, wl_992, wl_999, wl_1000, wl_1024, wl_3456, wl_6512, wl_7104, wl_10000, wl_11264, wl_12345, wl_32767, wl_1000000000, wl_1103515245, wl_2000000000, w_add, w_sub, w_mul, w_neg, w_lt, w_le, w_eq, w_cl, w_in, w_nat, w_max2, w_min2, w_abs2, iltT, iltF, ileT, ileF, ieqT, ieqF, bv_01, bft, bv_0, bv_1, bv_t, bv_f, cond_true, cond_false, Bool.not_true, Bool.not_false, if_true, if_false, true_or, or_true, true_and, and_true, ↓reduceIte, decide_true, decide_false, reduceCtorEq, u2_s, u2_o, u2_k, u2_u2, Bool.true_or, Bool.or_true, Bool.false_or, Bool.or_false, Bool.and_true, Bool.true_and, Bool.and_false, Bool.false_and, eq_self, not_true_eq_false, not_false_eq_true, and_self, and_true, true_and, false_and, and_false, w_dv, dvm, k1, k2, k3, k4, m1, m2, m3, m4, i1, i2, hP, e1, e2, e3, n1, z0, Nat.zero_add, z1, q1]
    · rw [u2_o _ _ _ _ (fun h => hne.2.1 h.symm)]
      unfold acpy
      rw [if_pos (by unfold ix; omega), show 0 + (k - 0) = k by omega]
def SzB (m : Int → Int) : Prop := (0 ≤ m 3 ∧ m 3 ≤ 10) ∧ (0 ≤ m 4 ∧ m 4 ≤ 8) ∧ (0 ≤ m 5 ∧ m 5 ≤ 6) ∧ (0 ≤ m 13 ∧ m 13 ≤ 30) ∧ (0 ≤ m 14 ∧ m 14 ≤ 60)
def fld8 (I I5 : Nat → Nat → Int32) (q0 q1 : Nat) : Nat → Nat → Int32 := u2 (u2 (u2 (u2 (u2 (u2 (u2 (u2 I5 q0 11 (I q1 11)) q0 12 (I q1 12)) q0 13 (I q1 13)) q0 14 (I q1 14)) q0 15 (I q1 15)) q0 16 (I q1 16)) q0 17 (I q1 17)) q0 18 (I q1 18)
theorem fld8_o {I I5 : Nat → Nat → Int32} {q0 q1 a k : Nat} (h : a = q0 → k < 11) : fld8 I I5 q0 q1 a k = I5 a k := by
  unfold fld8
  rw [u2_r, if_neg (by omega), u2_r, if_neg (by omega), u2_r, if_neg (by omega), u2_r, if_neg (by omega), u2_r, if_neg (by omega), u2_r, if_neg (by omega), u2_r, if_neg (by omega), u2_r, if_neg (by omega)]
theorem fld8_i {I I5 : Nat → Nat → Int32} {q0 q1 k : Nat} (h : 11 ≤ k ∧ k ≤ 18) : fld8 I I5 q0 q1 q0 k = I q1 k := by
  have hk : k = 11 ∨ k = 12 ∨ k = 13 ∨ k = 14 ∨ k = 15 ∨ k = 16 ∨ k = 17 ∨ k = 18 := by omega
  unfold fld8
  rcases hk with rfl | rfl | rfl | rfl | rfl | rfl | rfl | rfl <;> simp (disch := decide) only [u2_s, u2_k]
theorem sp_104a {d q0 q1 : Nat} {I1 I2 I3 I4 I5 : Nat → Nat → Int32} (hS0 : SHq K L R q0) (hS1 : SHq K L R q1) (nq : ¬(q1 = q0)) (r1 : ∀ k, I5 q1 k = I q1 k)
    (x1 : ev PR (d + 1) 102 [.ref (q0 + 1), .ref (q1 + 1)] (((vn, vc, vw, K, L, R), I, J) : HS) = some (.inl none, (((vn, vc, vw, K, L, R), I1, J) : HS)))
    (x2 : ev PR (d + 1) 102 [.ref (q0 + 3), .ref (q1 + 3)] (((vn, vc, vw, K, L, R), I1, J) : HS) = some (.inl none, (((vn, vc, vw, K, L, R), I2, J) : HS)))
    (x3 : ev PR (d + 1) 102 [.ref (q0 + 5), .ref (q1 + 5)] (((vn, vc, vw, K, L, R), I2, J) : HS) = some (.inl none, (((vn, vc, vw, K, L, R), I3, J) : HS)))
    (x4 : ev PR (d + 1) 102 [.ref (q0 + 7), .ref (q1 + 7)] (((vn, vc, vw, K, L, R), I3, J) : HS) = some (.inl none, (((vn, vc, vw, K, L, R), I4, J) : HS)))
    (x5 : ev PR (d + 1) 102 [.ref (q0 + 9), .ref (q1 + 9)] (((vn, vc, vw, K, L, R), I4, J) : HS) = some (.inl none, (((vn, vc, vw, K, L, R), I5, J) : HS))) : ev PR (d + 2) 104 [.ref q0, .ref q1] (((vn, vc, vw, K, L, R), I, J) : HS) = some (.inl none, (((vn, vc, vw, K, L, u2 R q0 10 (R q1 10)), fld8 I I5 q0 q1, J) : HS)) := by
  obtain ⟨f0, f1, f2, f3, f4, f5, f6, ⟨b1, _⟩, ⟨p1, _⟩, ⟨g1, _⟩, ⟨l1, _⟩, ⟨t1, _⟩, _⟩ := SHq_e hS0
  obtain ⟨F0, F1, F2, F3, F4, F5, _⟩ := SHq_e hS1
  have v : ∀ (A : Nat → Nat → Int32) (k : Nat) (z : Int32) (b : Nat), u2 A q0 k z q1 b = A q1 b := fun A k z b => u2_o A k b z nq
  have v' : ∀ (A : Nat → Nat → Nat) (k z : Nat) (b : Nat), u2 A q0 k z q1 b = A q1 b := fun A k z b => u2_o A k b z nq
  rw [eq_104]
  unfold fld8
  simp (disch := first | assumption | decide) only [hK, hR, hI, sI, sR, decide_true, cond_true, f0, f1, f2, f3, f4, f5, F0, F1, F2, F3, F4, F5, b1, p1, g1, l1, t1, x1, x2, x3, x4, x5, ↓z0, y0n, v, v', r1]
/-- a stall is copied from q1 into q0 -/
theorem sp_104 {d q0 q1 : Nat} (hS0 : SHq K L R q0) (hS1 : SHq K L R q1) (h1 : Wd I q1) (hne : q0 + 11 < q1 ∨ q1 + 11 < q0) (hz : SzB (vS I q1)) :
    ∃ I', ev PR (d + 2) 104 [.ref q0, .ref q1] (((vn, vc, vw, K, L, R), I, J) : HS) = some (.inl none, (((vn, vc, vw, K, L, u2 R q0 10 (R q1 10)), I', J) : HS)) ∧ vS I' q0 = vS I q1 ∧ (Wd I q0 → Wd I' q0) ∧ (∀ a k, (q0 ≤ a ∧ a ≤ q0 + 10 → (a = q0 ∧ k < 11) ∨ ((a = q0 + 1 ∨ a = q0 + 3 ∨ a = q0 + 5 ∨ a = q0 + 7 ∨ a = q0 + 9) ∧ k ≠ 2)) → I' a k = I a k) := by
  have cp : ∀ (I : Nat → Nat → Int32) (s cap : Nat) (wd sz : Int) (c0 c1 : Nat), (K (q0 + s) = 8 ∧ R (q0 + s) 0 = c0 ∧ K c0 = 20 ∧ L c0 = cap) → (K (q1 + s) = 8 ∧ R (q1 + s) 0 = c1 ∧ K c1 = 20 ∧ L c1 = cap) → c0 = q0 + s + 1 → c1 = q1 + s + 1 → s ≤ 9 → I (q1 + s) 1 = w wd → I (q1 + s) 2 = w sz → (1 ≤ wd ∧ wd ≤ 6) ∧ (0 ≤ sz ∧ sz ≤ 100) ∧ sz * wd ≤ cap ∧ cap ≤ 1000 → ∃ I', ev PR (d + 1) 102 [.ref (q0 + s), .ref (q1 + s)] (((vn, vc, vw, K, L, R), I, J) : HS) = some (.inl none, (((vn, vc, vw, K, L, R), I', J) : HS)) ∧ I' (q0 + s) 2 = w sz ∧ (∀ k : Nat, (k : Int) < sz * wd → I' c0 k = I c1 k) ∧ ∀ a k, a ≠ c0 → ¬(a = q0 + s ∧ k = 2) → I' a k = I a k := by
    intro I s cap wd sz c0 c1 a b e0 e1 hs i1 i2 hb
    have hP : 0 ≤ sz * wd := Int.mul_nonneg hb.2.1.1 (by omega)
    refine sp_102 (d := d) a.1 a.2.1 a.2.2.1 a.2.2.2 b.1 b.2.1 b.2.2.1 b.2.2.2 ?_ i1 i2 rfl ⟨hb.1, hb.2.1, hP, hb.2.2.1, hb.2.2.2⟩
    clear a b i1 i2 hb hP hz
    omega
  have hA := (SHq_e hS0).2.2.2.2.2.2.2
  have hB := (SHq_e hS1).2.2.2.2.2.2.2
  unfold SzB at hz
  obtain ⟨w1, w2, w3, w4, w5⟩ := h1
  obtain ⟨I1, x1, y1, z1, u1⟩ := cp I 1 50 5 (vS I q1 3) _ _ hA.1 hB.1 rfl rfl (by decide) w1 (rN_3 I q1) (by omega)
  have n1 : ∀ a k, a ≠ q0 + 2 → ¬(a = q0 + 1 ∧ k = 2) → I1 a k = I a k := u1
  obtain ⟨I2, x2, y2, z2, u2'⟩ := cp I1 3 24 3 (vS I q1 4) _ _ hA.2.1 hB.2.1 rfl rfl (by decide) ((u1 _ _ (by omega) (by omega)).trans w2) ((u1 _ _ (by omega) (by omega)).trans (rN_4 I q1)) (by omega)
  obtain ⟨I3, x3, y3, z3, u3⟩ := cp I2 5 18 3 (vS I q1 5) _ _ hA.2.2.1 hB.2.2.1 rfl rfl (by decide) ((u2' _ _ (by omega) (by omega)).trans ((u1 _ _ (by omega) (by omega)).trans w3)) ((u2' _ _ (by omega) (by omega)).trans ((u1 _ _ (by omega) (by omega)).trans (rN_5 I q1))) (by omega)
  have u12 : ∀ a k, ¬(q0 + 1 ≤ a ∧ a ≤ q0 + 6) → I3 a k = I a k := fun a k h => by rw [u3 _ _ (by omega) (by omega), u2' _ _ (by omega) (by omega), u1 _ _ (by omega) (by omega)]
  obtain ⟨I4, x4, y4, z4, u4⟩ := cp I3 7 120 4 (vS I q1 13) _ _ hA.2.2.2.1 hB.2.2.2.1 rfl rfl (by decide) ((u12 _ _ (by omega)).trans w4) ((u12 _ _ (by omega)).trans (rN_13 I q1)) (by omega)
  have u14 : ∀ a k, ¬(q0 + 1 ≤ a ∧ a ≤ q0 + 8) → I4 a k = I a k := fun a k h => by rw [u4 _ _ (by omega) (by omega), u12 _ _ (by omega)]
  obtain ⟨I5, x5, y5, z5, u5⟩ := cp I4 9 360 6 (vS I q1 14) _ _ hA.2.2.2.2.1 hB.2.2.2.2.1 rfl rfl (by decide) ((u14 _ _ (by omega)).trans w5) ((u14 _ _ (by omega)).trans (rN_14 I q1)) (by omega)
  have v5 : ∀ a k, ¬(q0 + 1 ≤ a ∧ a ≤ q0 + 10) → I5 a k = I a k := fun a k h => by rw [u5 _ _ (by omega) (by omega), u14 _ _ (by omega)]
  have v6 : ∀ a k, (q0 ≤ a ∧ a ≤ q0 + 10 → a = q0 ∨ ((a = q0 + 1 ∨ a = q0 + 3 ∨ a = q0 + 5 ∨ a = q0 + 7 ∨ a = q0 + 9) ∧ k ≠ 2)) → I5 a k = I a k := fun a k h => by
    rw [u5 _ _ (by omega) (by omega), u4 _ _ (by omega) (by omega), u3 _ _ (by omega) (by omega), u2' _ _ (by omega) (by omega), u1 _ _ (by omega) (by omega)]
  have nq : ¬(q1 = q0) := by omega
  have key := sp_104a hS0 hS1 nq (fun k => v5 q1 k (by omega)) x1 x2 x3 x4 x5
  clear hA hB hS0 hS1 x1 x2 x3 x4 x5 cp
  refine ⟨fld8 I I5 q0 q1, key, ?_, ?_, ?_⟩
  · refine vS_cp ⟨?_, ?_, ?_, ?_, ?_⟩ (fun k hk => ?_) (fun k hk => ?_) (fun k hk => ?_) (fun k hk => ?_) (fun k hk => ?_) (fun k h1 h2 => fld8_i ⟨h1, h2⟩)
    · rw [fld8_o (by omega), u5 _ _ (by omega) (by omega), u4 _ _ (by omega) (by omega), u3 _ _ (by omega) (by omega), u2' _ _ (by omega) (by omega), y1, ← rN_3]
    · rw [fld8_o (by omega), u5 _ _ (by omega) (by omega), u4 _ _ (by omega) (by omega), u3 _ _ (by omega) (by omega), y2, ← rN_4]
    · rw [fld8_o (by omega), u5 _ _ (by omega) (by omega), u4 _ _ (by omega) (by omega), y3, ← rN_5]
    · rw [fld8_o (by omega), u5 _ _ (by omega) (by omega), y4, ← rN_13]
    · rw [fld8_o (by omega), y5, ← rN_14]
    · rw [fld8_o (by omega), u5 _ _ (by omega) (by omega), u4 _ _ (by omega) (by omega), u3 _ _ (by omega) (by omega), u2' _ _ (by omega) (by omega), z1 k (by omega)]
    · rw [fld8_o (by omega), u5 _ _ (by omega) (by omega), u4 _ _ (by omega) (by omega), u3 _ _ (by omega) (by omega), z2 k (by omega), u1 _ _ (by omega) (by omega)]
    · rw [fld8_o (by omega), u5 _ _ (by omega) (by omega), u4 _ _ (by omega) (by omega), z3 k (by omega), u2' _ _ (by omega) (by omega), u1 _ _ (by omega) (by omega)]
    · rw [fld8_o (by omega), u5 _ _ (by omega) (by omega), z4 k (by omega), u12 _ _ (by omega)]
    · rw [fld8_o (by omega), z5 k (by omega), u14 _ _ (by omega)]
  · intro h
    obtain ⟨h1, h2, h3, h4, h5⟩ := h
    exact ⟨by rw [fld8_o (by omega), v6 _ _ (by omega)]; exact h1, by rw [fld8_o (by omega), v6 _ _ (by omega)]; exact h2, by rw [fld8_o (by omega), v6 _ _ (by omega)]; exact h3, by rw [fld8_o (by omega), v6 _ _ (by omega)]; exact h4, by rw [fld8_o (by omega), v6 _ _ (by omega)]; exact h5⟩
  · intro a k h
    rw [fld8_o (by omega), v6 _ _ (by omega)]
end RWS
