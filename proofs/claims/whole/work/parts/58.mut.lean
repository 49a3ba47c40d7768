/-! THE CLASS: rows changed, as the reference's cells see it -/
def setm (m : Int → Int) (z v : Int) : Int → Int := fun y => if y = z then v else m y
def takeL (m : Int → Int) (k : Int) : Int → Int := fun z => if z = 13 then m 13 - 1 else if 112 ≤ z ∧ z < 232 then (if z < 112 + 4 * (m 13 - 1) then (if z < 112 + 4 * k then m z else m (z + 4)) else 0) else m z
def dropT (m : Int → Int) : Int → Int := fun z => if z = 14 then m 14 - 1 else if 232 ≤ z ∧ z < 592 then (if z < 232 + 6 * (m 14 - 1) then m z else 0) else m z
def openT (m : Int → Int) : Int → Int := fun z => if z = 14 then m 14 + 1 else if 232 ≤ z ∧ z < 592 then (if z < 238 then 0 else m (z - 6)) else m z
/-- the view, piece by piece -/
theorem vS_l {f : Nat → Nat → Int32} {q : Nat} {z : Int} (h : 112 ≤ z ∧ z < 232) : vS f q z = if z < 112 + 4 * vS f q 13 then (f (q + 8) (ix (z - 112))).toInt else 0 := by
  conv => lhs; unfold vS
  rw [rN_3t, rN_4t, rN_5t, rN_13t, rN_14t]
  repeat rw [if_neg (by omega)]
  by_cases c : z < 112 + 4 * vS f q 13
  · rw [if_pos (by omega), if_pos c]
  · rw [if_neg (by omega), if_neg (by omega), if_neg c]
theorem vS_t {f : Nat → Nat → Int32} {q : Nat} {z : Int} (h : 232 ≤ z ∧ z < 592) : vS f q z = if z < 232 + 6 * vS f q 14 then (f (q + 10) (ix (6 * (vS f q 14 - 1 - (z - 232) / 6) + (z - 232) % 6))).toInt else 0 := by
  conv => lhs; unfold vS
  rw [rN_3t, rN_4t, rN_5t, rN_13t, rN_14t]
  repeat rw [if_neg (by omega)]
  by_cases c : z < 232 + 6 * vS f q 14
  · rw [if_pos (by omega), if_pos c]
  · rw [if_neg (by omega), if_neg c]
theorem vS_p {f : Nat → Nat → Int32} {q : Nat} {z : Int} (h : 94 ≤ z ∧ z < 112) : vS f q z = if z < 94 + 3 * vS f q 5 then (f (q + 6) (ix (z - 94))).toInt else 0 := by
  conv => lhs; unfold vS
  rw [rN_3t, rN_4t, rN_5t, rN_13t, rN_14t]
  repeat rw [if_neg (by omega)]
  by_cases c : z < 94 + 3 * vS f q 5
  · rw [if_pos (by omega), if_pos c]
  · rw [if_neg (by omega), if_neg (by omega), if_neg (by omega), if_neg c]
theorem vS_h {f : Nat → Nat → Int32} {q : Nat} {z : Int} (h : 70 ≤ z ∧ z < 94) : vS f q z = if z < 70 + 3 * vS f q 4 then (f (q + 4) (ix (z - 70))).toInt else 0 := by
  conv => lhs; unfold vS
  rw [rN_3t, rN_4t, rN_5t, rN_13t, rN_14t]
  repeat rw [if_neg (by omega)]
  by_cases c : z < 70 + 3 * vS f q 4
  · rw [if_pos (by omega), if_pos c]
  · rw [if_neg (by omega), if_neg (by omega), if_neg (by omega), if_neg (by omega), if_neg c]
theorem vS_b {f : Nat → Nat → Int32} {q : Nat} {z : Int} (h : 20 ≤ z ∧ z < 70) : vS f q z = if z < 20 + 5 * vS f q 3 then (f (q + 2) (ix (z - 20))).toInt else 0 := by
  conv => lhs; unfold vS
  rw [rN_3t, rN_4t, rN_5t, rN_13t, rN_14t]
  repeat rw [if_neg (by omega)]
  by_cases c : z < 20 + 5 * vS f q 3
  · rw [if_pos (by omega), if_pos c]
  · rw [if_neg (by omega), if_neg (by omega), if_neg (by omega), if_neg (by omega), if_neg (by omega), if_neg c]
theorem vS_o {F : Nat → Nat → Int32} {q : Nat} {z : Int} (c3 : ¬z = 3) (c4 : ¬z = 4) (c5 : ¬z = 5) (c13 : ¬z = 13) (c14 : ¬z = 14) (cb : ¬(20 ≤ z ∧ z < 70)) (ch : ¬(70 ≤ z ∧ z < 94)) (cp : ¬(94 ≤ z ∧ z < 112)) (cl : ¬(112 ≤ z ∧ z < 232)) (ct : ¬(232 ≤ z ∧ z < 592)) : vS F q z = if z = 0 then (F q 11).toInt else if 6 ≤ z ∧ z ≤ 11 then (F q (ix (z + 6))).toInt else if z = 15 then (F q 18).toInt else 0 := by
  unfold vS
  rw [if_neg c3, if_neg c4, if_neg c5, if_neg c13, if_neg c14, if_neg (show ¬(20 ≤ z ∧ z < 70 ∧ z < 20 + 5 * (F (q + 1) 2).toInt) from fun h => cb ⟨h.1, h.2.1⟩), if_neg (show ¬(70 ≤ z ∧ z < 94 ∧ z < 70 + 3 * (F (q + 3) 2).toInt) from fun h => ch ⟨h.1, h.2.1⟩), if_neg (show ¬(94 ≤ z ∧ z < 112 ∧ z < 94 + 3 * (F (q + 5) 2).toInt) from fun h => cp ⟨h.1, h.2.1⟩), if_neg (show ¬(112 ≤ z ∧ z < 232 ∧ z < 112 + 4 * (F (q + 7) 2).toInt) from fun h => cl ⟨h.1, h.2.1⟩), if_neg (show ¬(232 ≤ z ∧ z < 592 ∧ z < 232 + 6 * (F (q + 9) 2).toInt) from fun h => ct ⟨h.1, h.2.1⟩)]
/-- all of the view but one kind of rows -/
theorem vS_but {f g : Nat → Nat → Int32} {q : Nat} {r : Nat} (hr : r = 1 ∨ r = 3 ∨ r = 5 ∨ r = 7 ∨ r = 9) (h : ∀ a k, a ≠ q + r → a ≠ q + r + 1 → g a k = f a k) {z : Int} (hz : (r = 1 → z ≠ 3 ∧ ¬(20 ≤ z ∧ z < 70)) ∧ (r = 3 → z ≠ 4 ∧ ¬(70 ≤ z ∧ z < 94)) ∧ (r = 5 → z ≠ 5 ∧ ¬(94 ≤ z ∧ z < 112)) ∧ (r = 7 → z ≠ 13 ∧ ¬(112 ≤ z ∧ z < 232)) ∧ (r = 9 → z ≠ 14 ∧ ¬(232 ≤ z ∧ z < 592))) : vS g q z = vS f q z := by
  have e : ∀ a k, (a = q ∨ (r ≠ 1 ∧ (a = q + 1 ∨ a = q + 2)) ∨ (r ≠ 3 ∧ (a = q + 3 ∨ a = q + 4)) ∨ (r ≠ 5 ∧ (a = q + 5 ∨ a = q + 6)) ∨ (r ≠ 7 ∧ (a = q + 7 ∨ a = q + 8)) ∨ (r ≠ 9 ∧ (a = q + 9 ∨ a = q + 10))) → g a k = f a k := fun a k c => h a k (by omega) (by omega)
  by_cases c3 : z = 3
  · subst c3; rw [← rN_3t, ← rN_3t, e _ _ (by omega)]
  · by_cases c4 : z = 4
    · subst c4; rw [← rN_4t, ← rN_4t, e _ _ (by omega)]
    · by_cases c5 : z = 5
      · subst c5; rw [← rN_5t, ← rN_5t, e _ _ (by omega)]
      · by_cases cb : 20 ≤ z ∧ z < 70
        · rw [vS_b cb, vS_b cb, e _ _ (by omega)]
          have : vS g q 3 = vS f q 3 := by rw [← rN_3t, ← rN_3t, e _ _ (by omega)]
          rw [this]
        · by_cases ch : 70 ≤ z ∧ z < 94
          · rw [vS_h ch, vS_h ch, e _ _ (by omega)]
            have : vS g q 4 = vS f q 4 := by rw [← rN_4t, ← rN_4t, e _ _ (by omega)]
            rw [this]
          · by_cases cp : 94 ≤ z ∧ z < 112
            · rw [vS_p cp, vS_p cp, e _ _ (by omega)]
              have : vS g q 5 = vS f q 5 := by rw [← rN_5t, ← rN_5t, e _ _ (by omega)]
              rw [this]
            · by_cases cl : 112 ≤ z ∧ z < 232
              · rw [vS_l cl, vS_l cl, e _ _ (by omega)]
                have : vS g q 13 = vS f q 13 := by rw [← rN_13t, ← rN_13t, e _ _ (by omega)]
                rw [this]
              · by_cases ct : 232 ≤ z ∧ z < 592
                · have : vS g q 14 = vS f q 14 := by rw [← rN_14t, ← rN_14t, e _ _ (by omega)]
                  rw [vS_t ct, vS_t ct, this, e _ _ (by omega)]
                · by_cases c13 : z = 13
                  · subst c13; rw [← rN_13t, ← rN_13t, e _ _ (by omega)]
                  · by_cases c14 : z = 14
                    · subst c14; rw [← rN_14t, ← rN_14t, e _ _ (by omega)]
                    · rw [vS_o c3 c4 c5 c13 c14 cb ch cp cl ct, vS_o c3 c4 c5 c13 c14 cb ch cp cl ct, e q 11 (by omega), e q _ (by omega), e q 18 (by omega)]
theorem Wd_but {f g : Nat → Nat → Int32} {q r : Nat} (h : ∀ a k, (a = q + r → k ≠ 1) → a ≠ q + r + 1 → g a k = f a k) (hr : r = 1 ∨ r = 3 ∨ r = 5 ∨ r = 7 ∨ r = 9) (hW : Wd f q) : Wd g q ∨ g (q + r) 1 ≠ f (q + r) 1 := by
  by_cases c : g (q + r) 1 = f (q + r) 1
  · left
    obtain ⟨h1, h2, h3, h4, h5⟩ := hW
    have e : ∀ s, (s = 1 ∨ s = 3 ∨ s = 5 ∨ s = 7 ∨ s = 9) → g (q + s) 1 = f (q + s) 1 := fun s hs => by
      by_cases cs : s = r
      · subst cs; exact c
      · exact h _ _ (by omega) (by omega)
    exact ⟨(e 1 (by omega)).trans h1, (e 3 (by omega)).trans h2, (e 5 (by omega)).trans h3, (e 7 (by omega)).trans h4, (e 9 (by omega)).trans h5⟩
  · exact Or.inr c
section MUT
variable {vn vc vw : Nat} {K L : Nat → Nat} {R : Nat → Nat → Nat} {I : Nat → Nat → Int32} {J : Nat → Nat → Int64}
/-- a row is taken out -/
theorem sp_100 {d r c : Nat} {cap : Nat} {wd sz row P Q : Int} (k1 : K r = 8) (k2 : R r 0 = c) (k3 : K c = 20) (k4 : L c = cap) (hrc : r ≠ c) (i1 : I r 1 = w wd) (i2 : I r 2 = w sz) (hP : sz * wd = P) (hQ : row * wd = Q) (hb : (1 ≤ wd ∧ wd ≤ 6) ∧ (0 ≤ row ∧ row < sz) ∧ sz ≤ 100 ∧ 0 ≤ Q ∧ Q + wd ≤ P ∧ P ≤ cap ∧ cap ≤ 1000) :
    ∃ I', ev PR (d + 2) 100 [.ref r, .int (w row)] (((vn, vc, vw, K, L, R), I, J) : HS) = some (.inl none, (((vn, vc, vw, K, L, R), I', J) : HS)) ∧ I' r 2 = w (sz - 1) ∧ (∀ j : Nat, I' c j = if Q ≤ j ∧ j < P - wd then I c (j + ix wd) else I c j) ∧ ∀ a k, a ≠ c → ¬(a = r ∧ k = 2) → I' a k = I a k := by
  have lp : ∀ (n : Nat) (k : Int) (I : Nat → Nat → Int32), Q ≤ k → k + n = P - wd → I r 1 = w wd → I r 2 = w sz → ∃ I', atv PR (d + 1) cd_100 22 [.ref r, .int (w row), .int (w Q), .int (w P), .int (w k)] [] (((vn, vc, vw, K, L, R), I, J) : HS) = some (.inl none, (((vn, vc, vw, K, L, R), I', J) : HS)) ∧ I' r 2 = w (sz - 1) ∧ (∀ j : Nat, I' c j = if k ≤ j ∧ j < P - wd then I c (j + ix wd) else I c j) ∧ ∀ a k, a ≠ c → ¬(a = r ∧ k = 2) → I' a k = I a k := by
    intro n
    induction n with
    | zero =>
      intro k I hk he i1 i2
      refine ⟨u2 I r 2 (w (sz - 1)), ?_, u2_s _ _ _ _, fun j => by rw [u2_o _ _ _ _ (fun z => hrc z.symm), if_neg (by omega)], fun a k h1 h2 => by rw [u2_r, if_neg h2]⟩
      rw [eq_100_22]
      simp (disch := first | assumption | omega | (simp (disch := omega) only [vM_u, vS_u]; first | assumption | omega)) only [hK, hL, hR, hI, hN, sI, hSp, hC, hW, li, lr, ↓cnd_a, ↓cnd_o, ↓cnd_n, ↓cnd_d, ↓z0, ↓z1, ↓z2, y0n, y1i, y2r, y0e, y1e, y2e, wl_0, wl_1, wl_2, wl_3, wl_4, wl_5, wl_6, wl_7, wl_8, wl_9, wl_10, wl_11, wl_12, wl_13, wl_14, wl_15, wl_16, wl_17, wl_18, wl_19, wl_20, wl_21, wl_22, wl_23, wl_24, wl_25, wl_26, wl_27, wl_28, wl_29, wl_30, wl_31, wl_32, wl_33, wl_34, wl_35, wl_36, wl_37, wl_38, wl_39, wl_40, wl_41, wl_42, wl_43, wl_44, wl_45, wl_46, wl_47, wl_48, wl_49, wl_50, wl_51, wl_52, wl_53, wl_54, wl_55, wl_56, wl_57, wl_58, wl_59, wl_60, wl_61, wl_62, wl_63, wl_64, wl_65, wl_66, wl_67, wl_68, wl_69, wl_70, wl_71, wl_72, wl_73, wl_74, wl_75, wl_76, wl_77, wl_78, wl_79, wl_80, wl_81, wl_82, wl_83, wl_84, wl_85, wl_86, wl_87, wl_88, wl_89, wl_90, wl_91, wl_92, wl_93, wl_94, wl_95, wl_96, wl_97, wl_98, wl_99, wl_100, wl_101, wl_102, wl_103, wl_104, wl_105, wl_106, wl_107, wl_108, wl_109, wl_110, wl_111, wl_112, wl_113, wl_114, wl_115, wl_116, wl_117, wl_118, wl_119, wl_120, wl_121, wl_122, wl_123, wl_124, wl_125, wl_126, wl_127, wl_128, wl_129, wl_130, wl_159, wl_160, wl_200, wl_232, wl_255, wl_256, wl_300, wl_359, wl_360, wl_400, wl_592, wl_992, wl_999, wl_1000, wl_1024, wl_3456, wl_6512, wl_7104, wl_10000, wl_11264, wl_12345, wl_32767, wl_1000000000, wl_1103515245, wl_2000000000, w_add, w_sub, w_mul, w_neg, w_lt, w_le, w_eq, w_cl, w_in, w_nat, w_max2, w_min2, w_abs2, iltT, iltF, ileT, ileF, ieqT, ieqF, bv_01, bft, bv_0, bv_1, bv_t, bv_f, cond_true, cond_false, Bool.not_true, Bool.not_false, if_true, if_false, true_or, or_true, true_and, and_true, ↓reduceIte, decide_true, decide_false, reduceCtorEq, u2_s, u2_o, u2_k, u2_u2, Bool.true_or, Bool.or_true, Bool.false_or, Bool.or_false, Bool.and_true, Bool.true_and, Bool.and_false, Bool.false_and, eq_self, not_true_eq_false, not_false_eq_true, and_self, and_true, true_and, false_and, and_false, w_dv, dvm, k1, i1, i2]
    | succ n ih =>
      intro k I hk he i1 i2
      have e : ix (k + wd) = ix k + ix wd := by unfold ix; omega
      obtain ⟨I', e', g1, g2, g3⟩ := ih (k + 1) (u2 I c (ix k) (I c (ix (k + wd)))) (by omega) (by omega) (by rw [u2_o _ _ _ _ hrc]; exact i1) (by rw [u2_o _ _ _ _ hrc]; exact i2)
      refine ⟨I', ?_, g1, fun j => ?_, fun a b h1 h2 => by rw [g3 a b h1 h2, u2_o _ _ _ _ h1]⟩
      · rw [eq_100_22]
        simp (disch := first | assumption | omega | (simp (disch := omega) only [vM_u, vS_u]; first | assumption | omega)) only [hK, hL, hR, hI, hN, sI, hSp, hC, hW, li, lr, ↓cnd_a, ↓cnd_o, ↓cnd_n, ↓cnd_d, ↓z0, ↓z1, ↓z2, y0n, y1i, y2r, y0e, y1e, y2e, wl_0, wl_1, wl_2, wl_3, wl_4, wl_5, wl_6, wl_7, wl_8, wl_9, wl_10, wl_11, wl_12, wl_13, wl_14, wl_15, wl_16, wl_17, wl_18, wl_19, wl_20, wl_21, wl_22, wl_23, wl_24, wl_25, wl_26, wl_27, wl_28, wl_29, wl_30, wl_31, wl_32, wl_33, wl_34, wl_35, wl_36, wl_37, wl_38, wl_39, wl_40, wl_41, wl_42, wl_43, wl_44, wl_45, wl_46, wl_47, wl_48, wl_49, wl_50, wl_51, wl_52, wl_53, wl_54, wl_55, wl_56, wl_57, wl_58, wl_59, wl_60, wl_61, wl_62, wl_63, wl_64, wl_65, wl_66, wl_67, wl_68, wl_69, wl_70, wl_71, wl_72, wl_73, wl_74, wl_75, wl_76, wl_77, wl_78, wl_79, wl_80, wl_81, wl_82, wl_83, wl_84, wl_85, wl_86, wl_87, wl_88, wl_89, wl_90, wl_91, wl_92, wl_93, wl_94, wl_95, wl_96, wl_97, wl_98, wl_99, wl_100, wl_101, wl_102, wl_103, wl_104, wl_105, wl_106, wl_107, wl_108, wl_109, wl_110, wl_111, wl_112, wl_113, wl_114, wl_115, wl_116, wl_117, wl_118, wl_119, wl_120, wl_121, wl_122, wl_123, wl_124, wl_125, wl_126, wl_127, wl_128, wl_129, wl_130, wl_159, wl_160, wl_200, wl_232, wl_255, wl_256, wl_300, wl_359, wl_360, wl_400, wl_592, wl_992, wl_999, wl_1000, wl_1024, wl_3456, wl_6512, wl_7104, wl_10000, wl_11264, wl_12345, wl_32767, wl_1000000000, wl_1103515245, wl_2000000000, w_add, w_sub, w_mul, w_neg, w_lt, w_le, w_eq, w_cl, w_in, w_nat, w_max2, w_min2, w_abs2, iltT, iltF, ileT, ileF, ieqT, ieqF, bv_01, bft, bv_0, bv_1, bv_t, bv_f, cond_true, cond_false, Bool.not_true, Bool.not_false, if_true, if_false, true_or, or_true, true_and, and_true, ↓reduceIte, decide_true, decide_false, reduceCtorEq, u2_s, u2_o, u2_k, u2_u2, Bool.true_or, Bool.or_true, Bool.false_or, Bool.or_false, Bool.and_true, Bool.true_and, Bool.and_false, Bool.false_and, eq_self, not_true_eq_false, not_false_eq_true, and_self, and_true, true_and, false_and, and_false, w_dv, dvm, k1, k2, k3, k4, i1, i2]
        exact e'
      · rw [g2 j]
        by_cases c1 : k + 1 ≤ j ∧ j < P - wd
        · rw [if_pos c1, if_pos (by omega), u2_k _ _ _ _ (by unfold ix; omega)]
        · rw [if_neg c1]
          by_cases c2 : (j : Int) = k
          · rw [if_pos (by omega), show j = ix k by unfold ix; omega, u2_s, e]
          · rw [if_neg (by omega), u2_k _ _ _ _ (by unfold ix; omega)]
  obtain ⟨I', e, r1⟩ := lp (P - wd - Q).toNat Q I (by omega) (by omega) i1 i2
  refine ⟨I', ?_, r1⟩
  have hm : min P (cap : Int) = P := by omega
  rw [eq_100]
  simp (disch := first | assumption | omega | (simp (disch := omega) only [vM_u, vS_u]; first | assumption | omega)) only [hK, hL, hR, hI, hN, sI, hSp, hC, hW, li, lr, ↓cnd_a, ↓cnd_o, ↓cnd_n, ↓cnd_d, ↓z0, ↓z1, ↓z2, y0n, y1i, y2r, y0e, y1e, y2e, wl_0, wl_1, wl_2, wl_3, wl_4, wl_5, wl_6, wl_7, wl_8, wl_9, wl_10, wl_11, wl_12, wl_13, wl_14, wl_15, wl_16, wl_17, wl_18, wl_19, wl_20, wl_21, wl_22, wl_23, wl_24, wl_25, wl_26, wl_27, wl_28, wl_29, wl_30, wl_31, wl_32, wl_33, wl_34, wl_35, wl_36, wl_37, wl_38, wl_39, wl_40, wl_41, wl_42, wl_43, wl_44, wl_45, wl_46, wl_47, wl_48, wl_49, wl_50, wl_51, wl_52, wl_53, wl_54, wl_55, wl_56, wl_57, wl_58, wl_59, wl_60, wl_61, wl_62, wl_63, wl_64, wl_65, wl_66, wl_67, wl_68, wl_69, wl_70, wl_71, wl_72, wl_73, wl_74, wl_75, wl_76, wl_77, wl_78, wl_79, wl_80, wl_81, wl_82, wl_83, wl_84, wl_85, wl_86, wl_87, wl_88, wl_89, wl_90, wl_91, wl_92, wl_93, wl_94, wl_95, wl_96, wl_97, wl_98, wl_99, wl_100, wl_101, wl_102, wl_103, wl_104, wl_105, wl_106, wl_107, wl_108, wl_109, wl_110, wl_111, wl_112, wl_113, wl_114, wl_115, wl_116, wl_117, wl_118, wl_119, wl_120, wl_121, wl_122, wl_123, wl_124, wl_125, wl_126, wl_127, wl_128, wl_129, wl_130, wl_159, wl_160, wl_200, wl_232, wl_255, wl_256, wl_300, wl_359, wl_360, wl_400, wl_592, wl_992, wl_999, wl_1000, wl_1024, wl_3456, wl_6512, wl_7104, wl_10000, wl_11264, wl_12345, wl_32767, wl_1000000000, wl_1103515245, wl_2000000000, w_add, w_sub, w_mul, w_neg, w_lt, w_le, w_eq, w_cl, w_in, w_nat, w_max2, w_min2, w_abs2, iltT, iltF, ileT, ileF, ieqT, ieqF, bv_01, bft, bv_0, bv_1, bv_t, bv_f, cond_true, cond_false, Bool.not_true, Bool.not_false, if_true, if_false, true_or, or_true, true_and, and_true, ↓reduceIte, decide_true, decide_false, reduceCtorEq, u2_s, u2_o, u2_k, u2_u2, Bool.true_or, Bool.or_true, Bool.false_or, Bool.or_false, Bool.and_true, Bool.true_and, Bool.and_false, Bool.false_and, eq_self, not_true_eq_false, not_false_eq_true, and_self, and_true, true_and, false_and, and_false, w_dv, dvm, k1, k2, k3, k4, i1, i2, eq_93, hP, hQ, hm]
  exact e
/-- a row of zeros comes behind -/
theorem sp_99 {d r c : Nat} {cap : Nat} {wd sz P : Int} (k1 : K r = 8) (k2 : R r 0 = c) (k3 : K c = 20) (k4 : L c = cap) (hrc : r ≠ c) (i1 : I r 1 = w wd) (i2 : I r 2 = w sz) (hP : sz * wd = P) (hP1 : (sz + 1) * wd = P + wd) (hb : (1 ≤ wd ∧ wd ≤ 6) ∧ (0 ≤ sz ∧ sz ≤ 100) ∧ 0 ≤ P ∧ P + wd ≤ cap ∧ cap ≤ 1000) :
    ∃ I', ev PR (d + 2) 99 [.ref r] (((vn, vc, vw, K, L, R), I, J) : HS) = some (.inl (some (.int (w sz))), (((vn, vc, vw, K, L, R), I', J) : HS)) ∧ I' r 2 = w (sz + 1) ∧ (∀ j : Nat, I' c j = if P ≤ j ∧ j < P + wd then w 0 else I c j) ∧ ∀ a k, a ≠ c → ¬(a = r ∧ k = 2) → I' a k = I a k := by
  have lp : ∀ (n : Nat) (k : Int) (I : Nat → Nat → Int32), P ≤ k → k + n = P + wd → I r 1 = w wd → I r 2 = w sz → ∃ I', atv PR (d + 1) cd_99 13 [.ref r, .int (w P), .int (w k)] [] (((vn, vc, vw, K, L, R), I, J) : HS) = some (.inl (some (.int (w sz))), (((vn, vc, vw, K, L, R), I', J) : HS)) ∧ I' r 2 = w (sz + 1) ∧ (∀ j : Nat, I' c j = if k ≤ j ∧ j < P + wd then w 0 else I c j) ∧ ∀ a k, a ≠ c → ¬(a = r ∧ k = 2) → I' a k = I a k := by
    intro n
    induction n with
    | zero =>
      intro k I hk he i1 i2
      refine ⟨u2 I r 2 (w (sz + 1)), ?_, u2_s _ _ _ _, fun j => by rw [u2_o _ _ _ _ (fun z => hrc z.symm), if_neg (by omega)], fun a k h1 h2 => by rw [u2_r, if_neg h2]⟩
      rw [eq_99_13]
      simp (disch := first | assumption | omega | (simp (disch := omega) only [vM_u, vS_u]; first | assumption | omega)) only [hK, hL, hR, hI, hN, sI, hSp, hC, hW, li, lr, ↓cnd_a, ↓cnd_o, ↓cnd_n, ↓cnd_d, ↓z0, ↓z1, ↓z2, y0n, y1i, y2r, y0e, y1e, y2e, wl_0, wl_1, wl_2, wl_3, wl_4, wl_5, wl_6, wl_7, wl_8, wl_9, wl_10, wl_11, wl_12, wl_13, wl_14, wl_15, wl_16, wl_17, wl_18, wl_19, wl_20, wl_21, wl_22, wl_23, wl_24, wl_25, wl_26, wl_27, wl_28, wl_29, wl_30, wl_31, wl_32, wl_33, wl_34, wl_35, wl_36, wl_37, wl_38, wl_39, wl_40, wl_41, wl_42, wl_43, wl_44, wl_45, wl_46, wl_47, wl_48, wl_49, wl_50, wl_51, wl_52, wl_53, wl_54, wl_55, wl_56, wl_57, wl_58, wl_59, wl_60, wl_61, wl_62, wl_63, wl_64, wl_65, wl_66, wl_67, wl_68, wl_69, wl_70, wl_71, wl_72, wl_73, wl_74, wl_75, wl_76, wl_77, wl_78, wl_79, wl_80, wl_81, wl_82, wl_83, wl_84, wl_85, wl_86, wl_87, wl_88, wl_89, wl_90, wl_91, wl_92, wl_93, wl_94, wl_95, wl_96, wl_97, wl_98, wl_99, wl_100, wl_101, wl_102, wl_103, wl_104, wl_105, wl_106, wl_107, wl_108, wl_109, wl_110, wl_111, wl_112, wl_113, wl_114, wl_115, wl_116, wl_117, wl_118, wl_119, wl_120, wl_121, wl_122, wl_123, wl_124, wl_125, wl_126, wl_127, wl_128, wl_129, wl_130, wl_159, wl_160, wl_200, wl_232, wl_255, wl_256, wl_300, wl_359, wl_360, wl_400, wl_592, wl_992, wl_999, wl_1000, wl_1024, wl_3456, wl_6512, wl_7104, wl_10000, wl_11264, wl_12345, wl_32767, wl_1000000000, wl_1103515245, wl_2000000000, w_add, w_sub, w_mul, w_neg, w_lt, w_le, w_eq, w_cl, w_in, w_nat, w_max2, w_min2, w_abs2, iltT, iltF, ileT, ileF, ieqT, ieqF, bv_01, bft, bv_0, bv_1, bv_t, bv_f, cond_true, cond_false, Bool.not_true, Bool.not_false, if_true, if_false, true_or, or_true, true_and, and_true, ↓reduceIte, decide_true, decide_false, reduceCtorEq, u2_s, u2_o, u2_k, u2_u2, Bool.true_or, Bool.or_true, Bool.false_or, Bool.or_false, Bool.and_true, Bool.true_and, Bool.and_false, Bool.false_and, eq_self, not_true_eq_false, not_false_eq_true, and_self, and_true, true_and, false_and, and_false, w_dv, dvm, k1, i1, i2, show sz + 1 - 1 = sz by omega]
    | succ n ih =>
      intro k I hk he i1 i2
      obtain ⟨I', e', g1, g2, g3⟩ := ih (k + 1) (u2 I c (ix k) (w 0)) (by omega) (by omega) (by rw [u2_o _ _ _ _ hrc]; exact i1) (by rw [u2_o _ _ _ _ hrc]; exact i2)
      refine ⟨I', ?_, g1, fun j => ?_, fun a b h1 h2 => by rw [g3 a b h1 h2, u2_o _ _ _ _ h1]⟩
      · rw [eq_99_13]
        simp (disch := first | assumption | omega | (simp (disch := omega) only [vM_u, vS_u]; first | assumption | omega)) only [hK, hL, hR, hI, hN, sI, hSp, hC, hW, li, lr, ↓cnd_a, ↓cnd_o, ↓cnd_n, ↓cnd_d, ↓z0, ↓z1, ↓z2, y0n, y1i, y2r, y0e, y1e, y2e, wl_0, wl_1, wl_2, wl_3, wl_4, wl_5, wl_6, wl_7, wl_8, wl_9, wl_10, wl_11, wl_12, wl_13, wl_14, wl_15, wl_16, wl_17, wl_18, wl_19, wl_20, wl_21, wl_22, wl_23, wl_24, wl_25, wl_26, wl_27, wl_28, wl_29, wl_30, wl_31, wl_32, wl_33, wl_34, wl_35, wl_36, wl_37, wl_38, wl_39, wl_40, wl_41, wl_42, wl_43, wl_44, wl_45, wl_46, wl_47, wl_48, wl_49, wl_50, wl_51, wl_52, wl_53, wl_54, wl_55, wl_56, wl_57, wl_58, wl_59, wl_60, wl_61, wl_62, wl_63, wl_64, wl_65, wl_66, wl_67, wl_68, wl_69, wl_70, wl_71, wl_72, wl_73, wl_74, wl_75, wl_76, wl_77, wl_78, wl_79, wl_80, wl_81, wl_82, wl_83, wl_84, wl_85, wl_86, wl_87, wl_88, wl_89, wl_90, wl_91, wl_92, wl_93, wl_94, wl_95, wl_96, wl_97, wl_98, wl_99, wl_100, wl_101, wl_102, wl_103, wl_104, wl_105, wl_106, wl_107, wl_108, wl_109, wl_110, wl_111, wl_112, wl_113, wl_114, wl_115, wl_116, wl_117, wl_118, wl_119, wl_120, wl_121, wl_122, wl_123, wl_124, wl_125, wl_126, wl_127, wl_128, wl_129, wl_130, wl_159, wl_160, wl_200, wl_232, wl_255, wl_256, wl_300, wl_359, wl_360, wl_400, wl_592, wl_992, wl_999, wl_1000, wl_1024, wl_3456, wl_6512, wl_7104, wl_10000, wl_11264, wl_12345, wl_32767, wl_1000000000, wl_1103515245, wl_2000000000, w_add, w_sub, w_mul, w_neg, w_lt, w_le, w_eq, w_cl, w_in, w_nat, w_max2, w_min2, w_abs2, iltT, iltF, ileT, ileF, ieqT, ieqF, bv_01, bft, bv_0, bv_1, bv_t, bv_f, cond_true, cond_false, Bool.not_true, Bool.not_false, if_true, if_false, true_or, or_true, true_and, and_true, ↓reduceIte, decide_true, decide_false, reduceCtorEq, u2_s, u2_o, u2_k, u2_u2, Bool.true_or, Bool.or_true, Bool.false_or, Bool.or_false, Bool.and_true, Bool.true_and, Bool.and_false, Bool.false_and, eq_self, not_true_eq_false, not_false_eq_true, and_self, and_true, true_and, false_and, and_false, w_dv, dvm, k1, k2, k3, k4, i1, i2]
        exact e'
      · rw [g2 j]
        by_cases c1 : k + 1 ≤ j ∧ j < P + wd
        · rw [if_pos c1, if_pos (by omega)]
        · rw [if_neg c1]
          by_cases c2 : (j : Int) = k
          · rw [if_pos (by omega), show j = ix k by unfold ix; omega, u2_s]
          · rw [if_neg (by omega), u2_k _ _ _ _ (by unfold ix; omega)]
  obtain ⟨I', e, r1⟩ := lp wd.toNat P I (by omega) (by omega) i1 i2
  refine ⟨I', ?_, r1⟩
  rw [eq_99]
  simp (disch := first | assumption | omega | (simp (disch := omega) only [vM_u, vS_u]; first | assumption | omega)) only [hK, hL, hR, hI, hN, sI, hSp, hC, hW, li, lr, ↓cnd_a, ↓cnd_o, ↓cnd_n, ↓cnd_d, ↓z0, ↓z1, ↓z2, y0n, y1i, y2r, y0e, y1e, y2e, wl_0, wl_1, wl_2, wl_3, wl_4, wl_5, wl_6, wl_7, wl_8, wl_9, wl_10, wl_11, wl_12, wl_13, wl_14, wl_15, wl_16, wl_17, wl_18, wl_19, wl_20, wl_21, wl_22, wl_23, wl_24, wl_25, wl_26, wl_27, wl_28, wl_29, wl_30, wl_31, wl_32, wl_33, wl_34, wl_35, wl_36, wl_37, wl_38, wl_39, wl_40, wl_41, wl_42, wl_43, wl_44, wl_45, wl_46, wl_47, wl_48, wl_49, wl_50, wl_51, wl_52, wl_53, wl_54, wl_55, wl_56, wl_57, wl_58, wl_59, wl_60, wl_61, wl_62, wl_63, wl_64, wl_65, wl_66, wl_67, wl_68, wl_69, wl_70, wl_71, wl_72, wl_73, wl_74, wl_75, wl_76, wl_77, wl_78, wl_79, wl_80, wl_81, wl_82, wl_83, wl_84, wl_85, wl_86, wl_87, wl_88, wl_89, wl_90, wl_91, wl_92, wl_93, wl_94, wl_95, wl_96, wl_97, wl_98, wl_99, wl_100, wl_101, wl_102, wl_103, wl_104, wl_105, wl_106, wl_107, wl_108, wl_109, wl_110, wl_111, wl_112, wl_113, wl_114, wl_115, wl_116, wl_117, wl_118, wl_119, wl_120, wl_121, wl_122, wl_123, wl_124, wl_125, wl_126, wl_127, wl_128, wl_129, wl_130, wl_159, wl_160, wl_200, wl_232, wl_255, wl_256, wl_300, wl_359, wl_360, wl_400, wl_592, wl_992, wl_999, wl_1000, wl_1024, wl_3456, wl_6512, wl_7104, wl_10000, wl_11264, wl_12345, wl_32767, wl_1000000000, wl_1103515245, wl_2000000000, w_add, w_sub, w_mul, w_neg, w_lt, w_le, w_eq, w_cl, w_in, w_nat, w_max2, w_min2, w_abs2, iltT, iltF, ileT, ileF, ieqT, ieqF, bv_01, bft, bv_0, bv_1, bv_t, bv_f, cond_true, cond_false, Bool.not_true, Bool.not_false, if_true, if_false, true_or, or_true, true_and, and_true, ↓reduceIte, decide_true, decide_false, reduceCtorEq, u2_s, u2_o, u2_k, u2_u2, Bool.true_or, Bool.or_true, Bool.false_or, Bool.or_false, Bool.and_true, Bool.true_and, Bool.and_false, Bool.false_and, eq_self, not_true_eq_false, not_false_eq_true, and_self, and_true, true_and, false_and, and_false, w_dv, dvm, k1, k2, k3, k4, i1, i2, eq_94, hP, hP1]
  exact e
end MUT
