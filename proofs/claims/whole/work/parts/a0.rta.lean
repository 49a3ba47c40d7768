/-! the reference tallies a throw -/
section RTA
variable {vn vc vw : Nat} {K L : Nat → Nat} {R : Nat → Nat → Nat} {I : Nat → Nat → Int32} {J : Nat → Nat → Int64}
def FTl (I I' : Nat → Nat → Int32) : Prop := ∀ a k, a ≠ 295 → (a = 287 → k ≠ 22 ∧ k ≠ 23) → I' a k = I a k
theorem FTl_rf {I : Nat → Nat → Int32} : FTl I I := fun _ _ _ _ => rfl
theorem FTl_tr {I I1 I2 : Nat → Nat → Int32} (h : FTl I I1) (g : FTl I1 I2) : FTl I I2 := fun a k x y => (g a k x y).trans (h a k x y)
/-- a throw is aimed, in the reference -/
def RAm (I : Nat → Nat → Int32) (m : Int → Int) (X Y S b : Int) : Prop := vM I = m ∧ I 287 17 = w X ∧ I 287 18 = w Y ∧ I 287 19 = w S ∧ I 287 20 = w b
theorem RAm_f {I I' : Nat → Nat → Int32} {m : Int → Int} {X Y S b : Int} (h : FTl I I') (g : RAm I m X Y S b) : RAm I' m X Y S b := by
  obtain ⟨g1, g2, g3, g4, g5⟩ := g
  exact ⟨by rw [vM_f (fun k => h _ _ (by omega) (by omega))]; exact g1, (h _ _ (by omega) (by omega)).trans g2, (h _ _ (by omega) (by omega)).trans g3, (h _ _ (by omega) (by omega)).trans g4, (h _ _ (by omega) (by omega)).trans g5⟩
theorem cnF_r0 {m : Int → Int} {h x y b : Int} (hB : BD m) : -1 ≤ cnF m h x y b ∧ cnF m h x y b < 10 := by
  have h3 := hB.1
  have f : ∀ (p : Int → Bool) (n : Nat) (k : Int), fnd p k n = -1 ∨ (k ≤ fnd p k n ∧ fnd p k n < k + n) := by
    intro p n
    induction n with
    | zero => intro k; exact Or.inl rfl
    | succ n ih =>
      intro k
      unfold fnd
      cases p k with
      | true => right; simp only [cond_true]; omega
      | false => simp only [cond_false]; have := ih (k + 1); omega
  have g : ∀ y, -1 ≤ ovF m h x y b ∧ ovF m h x y b < 10 := fun y => by
    unfold ovF
    have := f (ovW m (alX m h b) (alY m h b) x y) (m 3).toNat 0
    omega
  unfold cnF
  split
  · exact g _
  · exact g _
theorem fal_lt {m : Int → Int} {h x y b : Int} (hB : BD m) : (fal m h x y b < 0 ↔ cnF m h x y b = -1) ∧ (cnF m h x y b ≠ -1 → fal m h x y b = cnF m h x y b) ∧ -2 ≤ fal m h x y b ∧ fal m h x y b < 10 := by
  have hr := cnF_r0 (h := h) (x := x) (y := y) (b := b) hB
  unfold fal
  by_cases c : cnF m h x y b = -1
  · rw [if_pos c]
    cases tsF m h x (rsY m h x y b) b false <;> simp only [cond_true, cond_false] <;> omega
  · rw [if_neg c]
    omega
theorem lp_267i {d : Nat} {m : Int → Int} {h b X Y S x : Int} (hM : MSH K L R) (hB : BD m) (hh : 0 ≤ h ∧ h < m 4) (hb : 0 ≤ b ∧ b ≤ 1000) (hp : 0 ≤ S ∧ S ≤ 4) (hXY : (-8000 ≤ X ∧ X ≤ 8000) ∧ -8000 ≤ Y ∧ Y ≤ 8000) (hx : X - S ≤ x ∧ x ≤ X + S) :
    ∀ (n : Nat) (k : Int) (I : Nat → Nat → Int32) (g : Int → Int) (w4 : Value), Y - S ≤ k → k + n = Y + S + 1 → RAm I m X Y S b → (∀ j : Nat, j < 10 → I 295 j = w (g j)) →
    ∃ I' v, atv PR (d + 6) cd_267 31 [.ref 287, .int (w h), .int (w x), .int (w k), w4] [] (((vn, vc, vw, K, L, R), I, J) : HS) = atv PR (d + 6) cd_267 18 [.ref 287, .int (w h), .int (w (x + 1)), .int (w (Y + S + 1)), v] [] (((vn, vc, vw, K, L, R), I', J) : HS) ∧ FTl I I' ∧ ∀ j : Nat, j < 10 → I' 295 j = w (g j + cnt (fun y => decide (cnF m h x y b = j)) k n) := by
  intro n
  induction n with
  | zero =>
    intro k I g w4 hk he hA hg
    have ek : k = Y + S + 1 := by omega
    subst ek
    refine ⟨I, w4, ?_, FTl_rf, fun j hj => by rw [hg j hj]; unfold cnt; rw [Int.add_zero]⟩
    rw [eq_267_31]
    simp (disch := first | assumption | omega | (simp (disch := omega) only [vM_u, vS_u]; first | assumption | omega)) only [hK, hL, hR, hI, hN, sI, hSp, hC, hW, li, lr, ↓cnd_a, ↓cnd_o, ↓cnd_n, ↓cnd_d, ↓z0, ↓z1, ↓z2, y0n, y1i, y2r, y0e, y1e, y2e, wl_0, wl_1, wl_2, wl_3, wl_4, wl_5, wl_6, wl_7, wl_8, wl_9, wl_10, wl_11, wl_12, wl_13, wl_14, wl_15, wl_16, wl_17, wl_18, wl_19, wl_20, wl_21, wl_22, wl_23, wl_24, wl_25, wl_26, wl_27, wl_28, wl_29, wl_30, wl_31, wl_32, wl_33, wl_34, wl_35, wl_36, wl_37, wl_38, wl_39, wl_40, wl_41, wl_42, wl_43, wl_44, wl_45, wl_46, wl_47, wl_48, wl_49, wl_50, wl_51, wl_52, wl_53, wl_54, wl_55, wl_56, wl_57, wl_58, wl_59, wl_60, wl_61, wl_62, wl_63, wl_64, wl_65, wl_66, wl_67, wl_68, wl_69, wl_70, wl_71, wl_72, wl_73, wl_74, wl_75, wl_76, wl_77, wl_78, wl_79, wl_80, wl_81, wl_82, wl_83, wl_84, wl_85, wl_86, wl_87, wl_88, wl_89, wl_90, wl_91, wl_92, wl_93, wl_94, wl_95, wl_96, wl_97, wl_98, wl_99, wl_100, wl_101, wl_102, wl_103, wl_104, wl_105, wl_106, wl_107, wl_108, wl_109, wl_110, wl_111, wl_112, wl_113, wl_114, wl_115, wl_116, wl_117, wl_118, wl_119, wl_120, wl_121, wl_122, wl_123, wl_124, wl_125, wl_126, wl_127, wl_128, wl_129, wl_130, wl_159, wl_160, wl_200, wl_232, wl_255, wl_256, wl_300, wl_359, wl_360, wl_400, wl_592, wl_992, wl_999, wl_1000, wl_1024, wl_3456, wl_6512, wl_7104, wl_10000, wl_11264, wl_12345, wl_32767, wl_1000000000, wl_1103515245, wl_2000000000, w_add, w_sub, w_mul, w_neg, w_lt, w_le, w_eq, w_cl, w_in, w_nat, w_max2, w_min2, w_abs2, iltT, iltF, ileT, ileF, ieqT, ieqF, bv_01, bft, bv_0, bv_1, bv_t, bv_f, cond_true, cond_false, Bool.not_true, Bool.not_false, if_true, if_false, true_or, or_true, true_and, and_true, ↓reduceIte, decide_true, decide_false, reduceCtorEq, u2_s, u2_o, u2_k, u2_u2, Bool.true_or, Bool.or_true, Bool.false_or, Bool.or_false, Bool.and_true, Bool.true_and, Bool.and_false, Bool.false_and, eq_self, not_true_eq_false, not_false_eq_true, and_self, and_true, true_and, false_and, and_false, w_dv, dvm, MSH_e hM, hA.2.2.1, hA.2.2.2.1]
  | succ n ih =>
    intro k I g w4 hk he hA hg
    obtain ⟨a1, a2, a3, a4, a5⟩ := id hA
    have hf := fal_lt (h := h) (x := x) (y := k) (b := b) hB
    have hcr := cnF_r0 (h := h) (x := x) (y := k) (b := b) hB
    have s := sp_266 (d := d) (h := h) (x := x) (y := k) (b := b) (I := I) (vn := vn) (vc := vc) (vw := vw) (J := J) hM (by rw [a1]; exact hB) (by rw [a1]; exact hh) (by omega) (by omega) hb
    rw [a1] at s
    obtain ⟨I1, hI1⟩ : ∃ I1, I1 = u2 (u2 I 287 22 (w x)) 287 23 (w (rsY m h x k b)) := ⟨_, rfl⟩
    rw [← hI1] at s
    have f1 : FTl I I1 := fun a z c1 c2 => by rw [hI1, u2_r, if_neg (by omega), u2_r, if_neg (by omega)]
    have g1 : ∀ z, I1 295 z = I 295 z := fun z => by rw [hI1, u2_o _ _ _ _ (by decide), u2_o _ _ _ _ (by decide)]
    have hA1 := RAm_f f1 hA
    by_cases c : cnF m h x k b = -1
    · have c1 := hf.1.mpr c
      obtain ⟨I', v, e1, e2, e3⟩ := ih (k + 1) I1 g (.int (w (fal m h x k b))) (by omega) (by omega) hA1 (fun j hj => by rw [g1]; exact hg j hj)
      refine ⟨I', v, ?_, FTl_tr f1 e2, fun j hj => ?_⟩
      · rw [eq_267_31]
        simp (disch := first | assumption | omega | (simp (disch := omega) only [vM_u, vS_u]; first | assumption | omega)) only [hK, hL, hR, hI, hN, sI, hSp, hC, hW, li, lr, ↓cnd_a, ↓cnd_o, ↓cnd_n, ↓cnd_d, ↓z0, ↓z1, ↓z2, y0n, y1i, y2r, y0e, y1e, y2e, wl_0, wl_1, wl_2, wl_3, wl_4, wl_5, wl_6, wl_7, wl_8, wl_9, wl_10, wl_11, wl_12, wl_13, wl_14, wl_15, wl_16, wl_17, wl_18, wl_19, wl_20, wl_21, wl_22, wl_23, wl_24, wl_25, wl_26, wl_27, wl_28, wl_29, wl_30, wl_31, wl_32, wl_33, wl_34, wl_35, wl_36, wl_37, wl_38, wl_39, wl_40, wl_41, wl_42, wl_43, wl_44, wl_45, wl_46, wl_47, wl_48, wl_49, wl_50, wl_51, wl_52, wl_53, wl_54, wl_55, wl_56, wl_57, wl_58, wl_59, wl_60, wl_61, wl_62, wl_63, wl_64, wl_65, wl_66, wl_67, wl_68, wl_69, wl_70, wl_71, wl_72, wl_73, wl_74, wl_75, wl_76, wl_77, wl_78, wl_79, wl_80, wl_81, wl_82, wl_83, wl_84, wl_85, wl_86, wl_87, wl_88, wl_89, wl_90, wl_91, wl_92, wl_93, wl_94, wl_95, wl_96, wl_97, wl_98, wl_99, wl_100, wl_101, wl_102, wl_103, wl_104, wl_105, wl_106, wl_107, wl_108, wl_109, wl_110, wl_111, wl_112, wl_113, wl_114, wl_115, wl_116, wl_117, wl_118, wl_119, wl_120, wl_121, wl_122, wl_123, wl_124, wl_125, wl_126, wl_127, wl_128, wl_129, wl_130, wl_159, wl_160, wl_200, wl_232, wl_255, wl_256, wl_300, wl_359, wl_360, wl_400, wl_592, wl_992, wl_999, wl_1000, wl_1024, wl_3456, wl_6512, wl_7104, wl_10000, wl_11264, wl_12345, wl_32767, wl_1000000000, wl_1103515245, wl_2000000000, w_add, w_sub, w_mul, w_neg, w_lt, w_le, w_eq, w_cl, w_in, w_nat, w_max2, w_min2, w_abs2, iltT, iltF, ileT, ileF, ieqT, ieqF, bv_01, bft, bv_0, bv_1, bv_t, bv_f, cond_true, cond_false, Bool.not_true, Bool.not_false, if_true, if_false, true_or, or_true, true_and, and_true, ↓reduceIte, decide_true, decide_false, reduceCtorEq, u2_s, u2_o, u2_k, u2_u2, Bool.true_or, Bool.or_true, Bool.false_or, Bool.or_false, Bool.and_true, Bool.true_and, Bool.and_false, Bool.false_and, eq_self, not_true_eq_false, not_false_eq_true, and_self, and_true, true_and, false_and, and_false, w_dv, dvm, MSH_e hM, a3, a4, a5, s, e1]
      · rw [e3 j hj]
        congr 2
        conv => rhs; unfold cnt
        rw [decide_eq_false (by omega)]
        rw [cond_false, Int.zero_add]
    · have c1 : ¬(fal m h x k b < 0) := fun z => c (hf.1.mp z)
      have c2 := hf.2.1 c
      obtain ⟨z, hz⟩ : ∃ z, z = cnF m h x k b := ⟨_, rfl⟩
      rw [c2, ← hz] at s
      rw [c2, ← hz] at c1
      rw [← hz] at hcr c
      have gz : I1 295 (ix z) = w (g z) := by
        rw [g1, hg _ (by unfold ix; omega)]
        congr 2
        unfold ix
        omega
      obtain ⟨I2, hI2⟩ : ∃ I2, I2 = u2 I1 295 (ix z) (w (g z + 1)) := ⟨_, rfl⟩
      have f2 : FTl I1 I2 := fun a y c3 c4 => by rw [hI2, u2_o _ _ _ _ c3]
      obtain ⟨I', v, e1, e2, e3⟩ := ih (k + 1) I2 (fun j => g j + cond (decide (z = j)) 1 0) (.int (w z)) (by omega) (by omega) (RAm_f f2 hA1) (fun j hj => by
        rw [hI2, u2_r]
        by_cases c5 : j = ix z
        · have c6 : z = (j : Int) := by rw [c5]; unfold ix; omega
          rw [if_pos ⟨rfl, c5⟩, decide_eq_true c6, cond_true, c6]
        · rw [if_neg (fun q => c5 q.2), g1, hg j hj, decide_eq_false (by unfold ix at c5; omega), cond_false, Int.add_zero])
      refine ⟨I', v, ?_, FTl_tr f1 (FTl_tr f2 e2), fun j hj => ?_⟩
      · rw [eq_267_31]
        simp (disch := first | assumption | omega | (simp (disch := omega) only [vM_u, vS_u]; first | assumption | omega)) only [hK, hL, hR, hI, hN, sI, hSp, hC, hW, li, lr, ↓cnd_a, ↓cnd_o, ↓cnd_n, ↓cnd_d, ↓z0, ↓z1, ↓z2, y0n, y1i, y2r, y0e, y1e, y2e, wl_0, wl_1, wl_2, wl_3, wl_4, wl_5, wl_6, wl_7, wl_8, wl_9, wl_10, wl_11, wl_12, wl_13, wl_14, wl_15, wl_16, wl_17, wl_18, wl_19, wl_20, wl_21, wl_22, wl_23, wl_24, wl_25, wl_26, wl_27, wl_28, wl_29, wl_30, wl_31, wl_32, wl_33, wl_34, wl_35, wl_36, wl_37, wl_38, wl_39, wl_40, wl_41, wl_42, wl_43, wl_44, wl_45, wl_46, wl_47, wl_48, wl_49, wl_50, wl_51, wl_52, wl_53, wl_54, wl_55, wl_56, wl_57, wl_58, wl_59, wl_60, wl_61, wl_62, wl_63, wl_64, wl_65, wl_66, wl_67, wl_68, wl_69, wl_70, wl_71, wl_72, wl_73, wl_74, wl_75, wl_76, wl_77, wl_78, wl_79, wl_80, wl_81, wl_82, wl_83, wl_84, wl_85, wl_86, wl_87, wl_88, wl_89, wl_90, wl_91, wl_92, wl_93, wl_94, wl_95, wl_96, wl_97, wl_98, wl_99, wl_100, wl_101, wl_102, wl_103, wl_104, wl_105, wl_106, wl_107, wl_108, wl_109, wl_110, wl_111, wl_112, wl_113, wl_114, wl_115, wl_116, wl_117, wl_118, wl_119, wl_120, wl_121, wl_122, wl_123, wl_124, wl_125, wl_126, wl_127, wl_128, wl_129, wl_130, wl_159, wl_160, wl_200, wl_232, wl_255, wl_256, wl_300, wl_359, wl_360, wl_400, wl_592, wl_992, wl_999, wl_1000, wl_1024, wl_3456, wl_6512, wl_7104, wl_10000, wl_11264, wl_12345, wl_32767, wl_1000000000, wl_1103515245, wl_2000000000, w_add, w_sub, w_mul, w_neg, w_lt, w_le, w_eq, w_cl, w_in, w_nat, w_max2, w_min2, w_abs2, iltT, iltF, ileT, ileF, ieqT, ieqF, bv_01, bft, bv_0, bv_1, bv_t, bv_f, cond_true, cond_false, Bool.not_true, Bool.not_false, if_true, if_false, true_or, or_true, true_and, and_true, ↓reduceIte, decide_true, decide_false, reduceCtorEq, u2_s, u2_o, u2_k, u2_u2, Bool.true_or, Bool.or_true, Bool.false_or, Bool.or_false, Bool.and_true, Bool.true_and, Bool.and_false, Bool.false_and, eq_self, not_true_eq_false, not_false_eq_true, and_self, and_true, true_and, false_and, and_false, w_dv, dvm, MSH_e hM, a3, a4, a5, s, gz]
        rw [← hI2]
        exact e1
      · rw [e3 j hj]
        congr 1
        conv => rhs; unfold cnt
        rw [← hz]
        omega
theorem lp_267o {d : Nat} {m : Int → Int} {h b X Y S : Int} (hM : MSH K L R) (hB : BD m) (hh : 0 ≤ h ∧ h < m 4) (hb : 0 ≤ b ∧ b ≤ 1000) (hp : 0 ≤ S ∧ S ≤ 4) (hXY : (-8000 ≤ X ∧ X ≤ 8000) ∧ -8000 ≤ Y ∧ Y ≤ 8000) :
    ∀ (n : Nat) (x : Int) (I : Nat → Nat → Int32) (g : Int → Int) (w3 w4 : Value), X - S ≤ x → x + n = X + S + 1 → RAm I m X Y S b → (∀ j : Nat, j < 10 → I 295 j = w (g j)) →
    ∃ I', atv PR (d + 6) cd_267 18 [.ref 287, .int (w h), .int (w x), w3, w4] [] (((vn, vc, vw, K, L, R), I, J) : HS) = some (.inl (some (.int (w ((2 * S + 1) * (2 * S + 1))))), (((vn, vc, vw, K, L, R), I', J) : HS)) ∧ FTl I I' ∧ ∀ j : Nat, j < 10 → I' 295 j = w (g j + sm (fun x => cnt (fun y => decide (cnF m h x y b = j)) (Y - S) (2 * S + 1).toNat) x n) := by
  intro n
  induction n with
  | zero =>
    intro x I g w3 w4 hk he hA hg
    have ek : x = X + S + 1 := by omega
    subst ek
    refine ⟨I, ?_, FTl_rf, fun j hj => by rw [hg j hj]; unfold sm; rw [Int.add_zero]⟩
    rw [eq_267_18]
    simp (disch := first | assumption | omega | (simp (disch := omega) only [vM_u, vS_u]; first | assumption | omega)) only [hK, hL, hR, hI, hN, sI, hSp, hC, hW, li, lr, ↓cnd_a, ↓cnd_o, ↓cnd_n, ↓cnd_d, ↓z0, ↓z1, ↓z2, y0n, y1i, y2r, y0e, y1e, y2e, wl_0, wl_1, wl_2, wl_3, wl_4, wl_5, wl_6, wl_7, wl_8, wl_9, wl_10, wl_11, wl_12, wl_13, wl_14, wl_15, wl_16, wl_17, wl_18, wl_19, wl_20, wl_21, wl_22, wl_23, wl_24, wl_25, wl_26, wl_27, wl_28, wl_29, wl_30, wl_31, wl_32, wl_33, wl_34, wl_35, wl_36, wl_37, wl_38, wl_39, wl_40, wl_41, wl_42, wl_43, wl_44, wl_45, wl_46, wl_47, wl_48, wl_49, wl_50, wl_51, wl_52, wl_53, wl_54, wl_55, wl_56, wl_57, wl_58, wl_59, wl_60, wl_61, wl_62, wl_63, wl_64, wl_65, wl_66, wl_67, wl_68, wl_69, wl_70, wl_71, wl_72, wl_73, wl_74, wl_75, wl_76, wl_77, wl_78, wl_79, wl_80, wl_81, wl_82, wl_83, wl_84, wl_85, wl_86, wl_87, wl_88, wl_89, wl_90, wl_91, wl_92, wl_93, wl_94, wl_95, wl_96, wl_97, wl_98, wl_99, wl_100, wl_101, wl_102, wl_103, wl_104, wl_105, wl_106, wl_107, wl_108, wl_109, wl_110, wl_111, wl_112, wl_113, wl_114, wl_115, wl_116, wl_117, wl_118, wl_119, wl_120, wl_121, wl_122, wl_123, wl_124, wl_125, wl_126, wl_127, wl_128, wl_129, wl_130, wl_159, wl_160, wl_200, wl_232, wl_255, wl_256, wl_300, wl_359, wl_360, wl_400, wl_592, wl_992, wl_999, wl_1000, wl_1024, wl_3456, wl_6512, wl_7104, wl_10000, wl_11264, wl_12345, wl_32767, wl_1000000000, wl_1103515245, wl_2000000000, w_add, w_sub, w_mul, w_neg, w_lt, w_le, w_eq, w_cl, w_in, w_nat, w_max2, w_min2, w_abs2, iltT, iltF, ileT, ileF, ieqT, ieqF, bv_01, bft, bv_0, bv_1, bv_t, bv_f, cond_true, cond_false, Bool.not_true, Bool.not_false, if_true, if_false, true_or, or_true, true_and, and_true, ↓reduceIte, decide_true, decide_false, reduceCtorEq, u2_s, u2_o, u2_k, u2_u2, Bool.true_or, Bool.or_true, Bool.false_or, Bool.or_false, Bool.and_true, Bool.true_and, Bool.and_false, Bool.false_and, eq_self, not_true_eq_false, not_false_eq_true, and_self, and_true, true_and, false_and, and_false, w_dv, dvm, MSH_e hM, hA.2.1, hA.2.2.2.1]
  | succ n ih =>
    intro x I g w3 w4 hk he hA hg
    obtain ⟨a1, a2, a3, a4, a5⟩ := id hA
    obtain ⟨I1, v, e1, e2, e3⟩ := lp_267i (d := d) (x := x) (vn := vn) (vc := vc) (vw := vw) (J := J) hM hB hh hb hp hXY (by omega) (2 * S + 1).toNat (Y - S) I g w4 (by omega) (by omega) hA hg
    obtain ⟨I', k1, k2, k3⟩ := ih (x + 1) I1 (fun j => g j + cnt (fun y => decide (cnF m h x y b = j)) (Y - S) (2 * S + 1).toNat) (.int (w (Y + S + 1))) v (by omega) (by omega) (RAm_f e2 hA) e3
    refine ⟨I', ?_, FTl_tr e2 k2, fun j hj => ?_⟩
    · rw [eq_267_18]
      simp (disch := first | assumption | omega | (simp (disch := omega) only [vM_u, vS_u]; first | assumption | omega)) only [hK, hL, hR, hI, hN, sI, hSp, hC, hW, li, lr, ↓cnd_a, ↓cnd_o, ↓cnd_n, ↓cnd_d, ↓z0, ↓z1, ↓z2, y0n, y1i, y2r, y0e, y1e, y2e, wl_0, wl_1, wl_2, wl_3, wl_4, wl_5, wl_6, wl_7, wl_8, wl_9, wl_10, wl_11, wl_12, wl_13, wl_14, wl_15, wl_16, wl_17, wl_18, wl_19, wl_20, wl_21, wl_22, wl_23, wl_24, wl_25, wl_26, wl_27, wl_28, wl_29, wl_30, wl_31, wl_32, wl_33, wl_34, wl_35, wl_36, wl_37, wl_38, wl_39, wl_40, wl_41, wl_42, wl_43, wl_44, wl_45, wl_46, wl_47, wl_48, wl_49, wl_50, wl_51, wl_52, wl_53, wl_54, wl_55, wl_56, wl_57, wl_58, wl_59, wl_60, wl_61, wl_62, wl_63, wl_64, wl_65, wl_66, wl_67, wl_68, wl_69, wl_70, wl_71, wl_72, wl_73, wl_74, wl_75, wl_76, wl_77, wl_78, wl_79, wl_80, wl_81, wl_82, wl_83, wl_84, wl_85, wl_86, wl_87, wl_88, wl_89, wl_90, wl_91, wl_92, wl_93, wl_94, wl_95, wl_96, wl_97, wl_98, wl_99, wl_100, wl_101, wl_102, wl_103, wl_104, wl_105, wl_106, wl_107, wl_108, wl_109, wl_110, wl_111, wl_112, wl_113, wl_114, wl_115, wl_116, wl_117, wl_118, wl_119, wl_120, wl_121, wl_122, wl_123, wl_124, wl_125, wl_126, wl_127, wl_128, wl_129, wl_130, wl_159, wl_160, wl_200, wl_232, wl_255, wl_256, wl_300, wl_359, wl_360, wl_400, wl_592, wl_992, wl_999, wl_1000, wl_1024, wl_3456, wl_6512, wl_7104, wl_10000, wl_11264, wl_12345, wl_32767, wl_1000000000, wl_1103515245, wl_2000000000, w_add, w_sub, w_mul, w_neg, w_lt, w_le, w_eq, w_cl, w_in, w_nat, w_max2, w_min2, w_abs2, iltT, iltF, ileT, ileF, ieqT, ieqF, bv_01, bft, bv_0, bv_1, bv_t, bv_f, cond_true, cond_false, Bool.not_true, Bool.not_false, if_true, if_false, true_or, or_true, true_and, and_true, ↓reduceIte, decide_true, decide_false, reduceCtorEq, u2_s, u2_o, u2_k, u2_u2, Bool.true_or, Bool.or_true, Bool.false_or, Bool.or_false, Bool.and_true, Bool.true_and, Bool.and_false, Bool.false_and, eq_self, not_true_eq_false, not_false_eq_true, and_self, and_true, true_and, false_and, and_false, w_dv, dvm, MSH_e hM, a2, a3, a4, e1, k1]
    · rw [k3 j hj]
      congr 1
      conv => rhs; unfold sm
      omega
theorem sp_267 {d : Nat} {m : Int → Int} {h b X Y S : Int} (hM : MSH K L R) (hB : BD m) (hh : 0 ≤ h ∧ h < m 4) (hb : 0 ≤ b ∧ b ≤ 1000) (hp : 0 ≤ S ∧ S ≤ 4) (hXY : (-8000 ≤ X ∧ X ≤ 8000) ∧ -8000 ≤ Y ∧ Y ≤ 8000) (hA : RAm I m X Y S b) :
    ∃ I', ev PR (d + 7) 267 [.ref 287, .int (w h)] (((vn, vc, vw, K, L, R), I, J) : HS) = some (.inl (some (.int (w ((2 * S + 1) * (2 * S + 1))))), (((vn, vc, vw, K, L, R), I', J) : HS)) ∧ FTl I I' ∧ ∀ j : Nat, j < 10 → I' 295 j = w (wyF m h b X Y S j) := by
  have lp : ∀ (n k : Nat) (I : Nat → Nat → Int32), n + k = 10 → RAm I m X Y S b → (∀ j : Nat, j < k → I 295 j = w 0) → ∃ I', atv PR (d + 6) cd_267 2 [.ref 287, .int (w h), .int (w (k : Int)), .retAddr 0, .retAddr 0] [] (((vn, vc, vw, K, L, R), I, J) : HS) = some (.inl (some (.int (w ((2 * S + 1) * (2 * S + 1))))), (((vn, vc, vw, K, L, R), I', J) : HS)) ∧ FTl I I' ∧ ∀ j : Nat, j < 10 → I' 295 j = w (wyF m h b X Y S j) := by
    intro n
    induction n with
    | zero =>
      intro k I hk hA hg
      have hk2 : k = 10 := by omega
      subst hk2
      obtain ⟨I', e1, e2, e3⟩ := lp_267o (d := d) (vn := vn) (vc := vc) (vw := vw) (J := J) hM hB hh hb hp hXY (2 * S + 1).toNat (X - S) I (fun _ => 0) (.retAddr 0) (.retAddr 0) (by omega) (by omega) hA hg
      refine ⟨I', ?_, e2, fun j hj => by rw [e3 j hj]; unfold wyF; rw [Int.zero_add]⟩
      rw [eq_267_2]
      simp (disch := first | assumption | omega | (simp (disch := omega) only [vM_u, vS_u]; first | assumption | omega)) only [hK, hL, hR, hI, hN, sI, hSp, hC, hW, li, lr, ↓cnd_a, ↓cnd_o, ↓cnd_n, ↓cnd_d, ↓z0, ↓z1, ↓z2, y0n, y1i, y2r, y0e, y1e, y2e, wl_0, wl_1, wl_2, wl_3, wl_4, wl_5, wl_6, wl_7, wl_8, wl_9, wl_10, wl_11, wl_12, wl_13, wl_14, wl_15, wl_16, wl_17, wl_18, wl_19, wl_20, wl_21, wl_22, wl_23, wl_24, wl_25, wl_26, wl_27, wl_28, wl_29, wl_30, wl_31, wl_32, wl_33, wl_34, wl_35, wl_36, wl_37, wl_38, wl_39, wl_40, wl_41, wl_42, wl_43, wl_44, wl_45, wl_46, wl_47, wl_48, wl_49, wl_50, wl_51, wl_52, wl_53, wl_54, wl_55, wl_56, wl_57, wl_58, wl_59, wl_60, wl_61, wl_62, wl_63, wl_64, wl_65, wl_66, wl_67, wl_68, wl_69, wl_70, wl_71, wl_72, wl_73, wl_74, wl_75, wl_76, wl_77, wl_78, wl_79, wl_80, wl_81, wl_82, wl_83, wl_84, wl_85, wl_86, wl_87, wl_88, wl_89, wl_90, wl_91, wl_92, wl_93, wl_94, wl_95, wl_96, wl_97, wl_98, wl_99, wl_100, wl_101, wl_102, wl_103, wl_104, wl_105, wl_106, wl_107, wl_108, wl_109, wl_110, wl_111, wl_112, wl_113, wl_114, wl_115, wl_116, wl_117, wl_118, wl_119, wl_120, wl_121, wl_122, wl_123, wl_124, wl_125, wl_126, wl_127, wl_128, wl_129, wl_130, wl_159, wl_160, wl_200, wl_232, wl_255, wl_256, wl_300, wl_359, wl_360, wl_400, wl_592, wl_992, wl_999, wl_1000, wl_1024, wl_3456, wl_6512, wl_7104, wl_10000, wl_11264, wl_12345, wl_32767, wl_1000000000, wl_1103515245, wl_2000000000, w_add, w_sub, w_mul, w_neg, w_lt, w_le, w_eq, w_cl, w_in, w_nat, w_max2, w_min2, w_abs2, iltT, iltF, ileT, ileF, ieqT, ieqF, bv_01, bft, bv_0, bv_1, bv_t, bv_f, cond_true, cond_false, Bool.not_true, Bool.not_false, if_true, if_false, true_or, or_true, true_and, and_true, ↓reduceIte, decide_true, decide_false, reduceCtorEq, u2_s, u2_o, u2_k, u2_u2, Bool.true_or, Bool.or_true, Bool.false_or, Bool.or_false, Bool.and_true, Bool.true_and, Bool.and_false, Bool.false_and, eq_self, not_true_eq_false, not_false_eq_true, and_self, and_true, true_and, false_and, and_false, w_dv, dvm, MSH_e hM, hA.2.1, hA.2.2.2.1, e1]
    | succ n ih =>
      intro k I hk hA hg
      have f1 : FTl I (u2 I 295 k (w 0)) := fun a y c3 c4 => by rw [u2_o _ _ _ _ c3]
      obtain ⟨I', e1, e2, e3⟩ := ih (k + 1) (u2 I 295 k (w 0)) (by omega) (RAm_f f1 hA) (fun j hj => by
        rw [u2_r]
        by_cases c : j = k
        · rw [if_pos ⟨rfl, c⟩]
        · rw [if_neg (fun q => c q.2), hg j (by omega)])
      refine ⟨I', ?_, FTl_tr f1 e2, e3⟩
      have n1 : ix (k : Int) = k := by unfold ix; omega
      have n2 : ((k + 1 : Nat) : Int) = (k : Int) + 1 := by omega
      rw [n2] at e1
      rw [eq_267_2]
      simp (disch := first | assumption | omega | (simp (disch := omega) only [vM_u, vS_u]; first | assumption | omega)) only [hK, hL, hR, hI, hN, sI, hSp, hC, hW, li, lr, ↓cnd_a, ↓cnd_o, ↓cnd_n, ↓cnd_d, ↓z0, ↓z1, ↓z2, y0n, y1i, y2r, y0e, y1e, y2e, wl_0, wl_1, wl_2, wl_3, wl_4, wl_5, wl_6, wl_7, wl_8, wl_9, wl_10, wl_11, wl_12, wl_13, wl_14, wl_15, wl_16, wl_17, wl_18, wl_19, wl_20, wl_21, wl_22, wl_23, wl_24, wl_25, wl_26, wl_27, wl_28, wl_29, wl_30, wl_31, wl_32, wl_33, wl_34, wl_35, wl_36, wl_37, wl_38, wl_39, wl_40, wl_41, wl_42, wl_43, wl_44, wl_45, wl_46, wl_47, wl_48, wl_49, wl_50, wl_51, wl_52, wl_53, wl_54, wl_55, wl_56, wl_57, wl_58, wl_59, wl_60, wl_61, wl_62, wl_63, wl_64, wl_65, wl_66, wl_67, wl_68, wl_69, wl_70, wl_71, wl_72, wl_73, wl_74, wl_75, wl_76, wl_77, wl_78, wl_79, wl_80, wl_81, wl_82, wl_83, wl_84, wl_85, wl_86, wl_87, wl_88, wl_89, wl_90, wl_91, wl_92, wl_93, wl_94, wl_95, wl_96, wl_97, wl_98, wl_99, wl_100, wl_101, wl_102, wl_103, wl_104, wl_105, wl_106, wl_107, wl_108, wl_109, wl_110, wl_111, wl_112, wl_113, wl_114, wl_115, wl_116, wl_117, wl_118, wl_119, wl_120, wl_121, wl_122, wl_123, wl_124, wl_125, wl_126, wl_127, wl_128, wl_129, wl_130, wl_159, wl_160, wl_200, wl_232, wl_255, wl_256, wl_300, wl_359, wl_360, wl_400, wl_592, wl_992, wl_999, wl_1000, wl_1024, wl_3456, wl_6512, wl_7104, wl_10000, wl_11264, wl_12345, wl_32767, wl_1000000000, wl_1103515245, wl_2000000000, w_add, w_sub, w_mul, w_neg, w_lt, w_le, w_eq, w_cl, w_in, w_nat, w_max2, w_min2, w_abs2, iltT, iltF, ileT, ileF, ieqT, ieqF, bv_01, bft, bv_0, bv_1, bv_t, bv_f, cond_true, cond_false, Bool.not_true, Bool.not_false, if_true, if_false, true_or, or_true, true_and, and_true, ↓reduceIte, decide_true, decide_false, reduceCtorEq, u2_s, u2_o, u2_k, u2_u2, Bool.true_or, Bool.or_true, Bool.false_or, Bool.or_false, Bool.and_true, Bool.true_and, Bool.and_false, Bool.false_and, eq_self, not_true_eq_false, not_false_eq_true, and_self, and_true, true_and, false_and, and_false, w_dv, dvm, MSH_e hM, n1, e1]
  obtain ⟨I', e1, e2, e3⟩ := lp 10 0 I (by omega) hA (fun j hj => by omega)
  refine ⟨I', ?_, e2, e3⟩
  rw [eq_267]
  exact e1
end RTA
