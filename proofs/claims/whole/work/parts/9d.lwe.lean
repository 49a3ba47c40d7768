/-! the class's law reader: and, or -/
section LWE
variable {vn vc vw : Nat} {K L : Nat → Nat} {R : Nat → Nat → Nat} {I : Nat → Nat → Int32} {J : Nat → Nat → Int64}
/-- the class's atoms read as A does -/
def AtC (K L : Nat → Nat) (R : Nat → Nat → Nat) (σ : (Nat → Nat → Int32) → HS) (T : Int → Int) (e n : Int) (tb : Int → Int) (A : Int → PRes) (D : Nat) (dep : Int) : Prop :=
  ∀ (I : Nat → Nat → Int32) (i : Int) (S : List Int), Tp I T e → TkI I T e n tb → SWA K L I → (0 ≤ i ∧ i ≤ n) → StpR I S → (S.length : Int) ≤ i → GoC I σ T e n tb S i (ev PR D 44 [.ref 88, .int (w dep)] (σ (nx I i))) (A (tb i))
theorem lpE {d : Nat} {T : Int → Int} {e n c dep : Int} {tb : Int → Int} {A : Int → PRes} {S : List Int} (hX : XSH K L R) (hPR : PR_ A e) (hA1 : ∀ p r, A p = .ok r → 1 ≤ r.2.length) (hAs : ∀ p, A (sk T e p) = A p) (hAt : AtC K L R (fun I' => (((vn, vc, vw, K, L, R), I', J) : HS)) T e n tb A (d + 3) dep) (hc : 0 ≤ c ∧ c < 400) :
    ∀ (m : Nat) (p : Int) (ss : List Int) (k j : Int) (I1 : Nat → Nat → Int32), Tp I1 T e → TkI I1 T e n tb → SWA K L I1 → 1 ≤ k → 2 * k ≤ j + 1 → (0 ≤ j ∧ j ≤ n) → tb j = sk T e p → StpR I1 (S ++ ss) → (S.length : Int) + ss.length + (if c = 0 then 0 else 1) ≤ j → p ≤ e → (e - p).toNat ≤ m →
    (∀ f, everyN A T e m p ss = .error f → ∃ I' j', atv PR (d + 3) cd_43 9 [.ref 88, .int (w dep), .int (w c), .int (w k)] [] (((vn, vc, vw, K, L, R), nx I1 j, J) : HS) = some (.inl (some (.int (w 0))), (((vn, vc, vw, K, L, R), nx I' j', J) : HS)) ∧ FLw I1 I' ∧ (0 ≤ j' ∧ j' ≤ n) ∧ tb j' = f) ∧
    (∀ r, everyN A T e m p ss = .ok r → ∃ I' j' v3, FLw I1 I' ∧ (j ≤ j' ∧ j' ≤ n) ∧ tb j' = sk T e r.1 ∧ StpR I' (S ++ (if c = 0 then r.2 else r.2 ++ [7168])) ∧ (S.length : Int) + r.2.length + (if c = 0 then 0 else 1) ≤ j' ∧ j + r.2.length ≤ j' + ss.length ∧ atv PR (d + 3) cd_43 9 [.ref 88, .int (w dep), .int (w c), .int (w k)] [] (((vn, vc, vw, K, L, R), nx I1 j, J) : HS) = if hasB T e (tb j') W_or = true then atv PR (d + 3) cd_43 2 [.ref 88, .int (w dep), .int (w (c + 1)), v3] [] (((vn, vc, vw, K, L, R), nx I' (j' + 1), J) : HS) else some (.inl (some (.int (w 1))), (((vn, vc, vw, K, L, R), nx I' j', J) : HS))) := by
  -- the way on where no `and` stands
  have out : ∀ (p : Int) (ss : List Int) (k j : Int) (I1 : Nat → Nat → Int32), Tp I1 T e → TkI I1 T e n tb → SWA K L I1 → 1 ≤ k → 2 * k ≤ j + 1 → (0 ≤ j ∧ j ≤ n) → tb j = sk T e p → StpR I1 (S ++ ss) → (S.length : Int) + ss.length + (if c = 0 then 0 else 1) ≤ j → hasB T e (tb j) W_and = false → ∃ I' j' v3, FLw I1 I' ∧ (j ≤ j' ∧ j' ≤ n) ∧ tb j' = sk T e (sk T e p) ∧ StpR I' (S ++ (if c = 0 then ss else ss ++ [7168])) ∧ (S.length : Int) + ss.length + (if c = 0 then 0 else 1) ≤ j' ∧ j + ss.length ≤ j' + ss.length ∧ atv PR (d + 3) cd_43 9 [.ref 88, .int (w dep), .int (w c), .int (w k)] [] (((vn, vc, vw, K, L, R), nx I1 j, J) : HS) = if hasB T e (tb j') W_or = true then atv PR (d + 3) cd_43 2 [.ref 88, .int (w dep), .int (w (c + 1)), v3] [] (((vn, vc, vw, K, L, R), nx I' (j' + 1), J) : HS) else some (.inl (some (.int (w 1))), (((vn, vc, vw, K, L, R), nx I' j', J) : HS)) := by
    intro p ss k j I1 hT hG hA k1 kj hj ht g1 hl hb
    have g2 := hG.2.1
    have hw := sp_v22 (d := d + 2) (vn := vn) (vc := vc) (vw := vw) (J := J) hX hT hG hA hj
    rw [hb] at hw
    obtain ⟨I2, e1, e2, e3⟩ := sp_47 (d := d + 1) (op := 7) (c := c) (i := j) (vn := vn) (vc := vc) (vw := vw) (J := J) hX g1 (fun h0 => by rw [List.length_append]; rw [if_neg (by omega)] at hl; omega) (by omega) (by omega)
    have hw2 := sp_v32 (d := d + 2) (vn := vn) (vc := vc) (vw := vw) (J := J) hX (Tp_l e2 hT) (TkI_l e2 hG) (SWA_l e2 hA) hj
    refine ⟨I2, j, .int (w k), e2, by omega, by rw [ht, sk_sk], ?_, hl, by omega, ?_⟩
    · by_cases c0 : c = 0
      · rw [if_pos c0] at e3 ⊢
        exact e3
      · rw [if_neg c0] at e3 ⊢
        rw [List.append_assoc] at e3
        exact e3
    · rw [eq_43_9]
      cases co : hasB T e (tb j) W_or with
      | true =>
        rw [co] at hw2
        simp (disch := first | assumption | omega | (simp (disch := omega) only [vM_u, vS_u]; first | assumption | omega)) only [hK, hL, hR, hI, hN, sI, hSp, hC, hW, li, lr, ↓cnd_a, ↓cnd_o, ↓cnd_n, ↓cnd_d, ↓z0, ↓z1, ↓z2, y0n, y1i, y2r, y0e, y1e, y2e, wl_0, wl_1, wl_2, wl_3, wl_4, wl_5, wl_6, wl_7, wl_8, wl_9, wl_10, wl_11, wl_12, wl_13, wl_14, wl_15, wl_16, wl_17, wl_18, wl_19, wl_20, wl_21, wl_22, wl_23, wl_24, wl_25, wl_26, wl_27, wl_28, wl_29, wl_30, wl_31, wl_32, wl_33, wl_34, wl_35, wl_36, wl_37, wl_38, wl_39, wl_40, wl_41, wl_42, wl_43, wl_44, wl_45, wl_46, wl_47, wl_48, wl_49, wl_50, wl_51, wl_52, wl_53, wl_54, wl_55, wl_56, wl_57, wl_58, wl_59, wl_60, wl_61, wl_62, wl_63, wl_64, wl_65, wl_66, wl_67, wl_68, wl_69, wl_70, wl_71, wl_72, wl_73, wl_74, wl_75, wl_76, wl_77, wl_78, wl_79, wl_80, wl_81, wl_82, wl_83, wl_84, wl_85, wl_86, wl_87, wl_88, wl_89, wl_90, wl_91, wl_92, wl_93, wl_94, wl_95, wl_96, wl_97, wl_98, wl_99, wl_100, wl_101, wl_102, wl_103, wl_104, wl_105, wl_106, wl_107, wl_108, wl_109, wl_110, wl_111, wl_112, wl_113, wl_114, wl_115, wl_116, wl_117, wl_118, wl_119, wl_120, wl_121, wl_122, wl_123, wl_124, wl_125, wl_126, wl_127, wl_128, wl_129, wl_130, wl_159, wl_160, wl_200, wl_232, wl_255, wl_256, wl_300, wl_359, wl_360, wl_400, wl_592, wl_992, wl_999, wl_1000, wl_1024, wl_3456, wl_6512, wl_7104, wl_10000, wl_11264, wl_12345, wl_32767, wl_1000000000, wl_1103515245, wl_2000000000, w_add, w_sub, w_mul, w_neg, w_lt, w_le, w_eq, w_cl, w_in, w_nat, w_max2, w_min2, w_abs2, iltT, iltF, ileT, ileF, ieqT, ieqF, bv_01, bft, bv_0, bv_1, bv_t, bv_f, cond_true, cond_false, Bool.not_true, Bool.not_false, if_true, if_false, true_or, or_true, true_and, and_true, ↓reduceIte, decide_true, decide_false, reduceCtorEq, u2_s, u2_o, u2_k, u2_u2, Bool.true_or, Bool.or_true, Bool.false_or, Bool.or_false, Bool.and_true, Bool.true_and, Bool.and_false, Bool.false_and, eq_self, not_true_eq_false, not_false_eq_true, and_self, and_true, true_and, false_and, and_false, w_dv, dvm, XSH_e hX, hw, e1, hw2]
      | false =>
        rw [co] at hw2
        simp (disch := first | assumption | omega | (simp (disch := omega) only [vM_u, vS_u]; first | assumption | omega)) only [hK, hL, hR, hI, hN, sI, hSp, hC, hW, li, lr, ↓cnd_a, ↓cnd_o, ↓cnd_n, ↓cnd_d, ↓z0, ↓z1, ↓z2, y0n, y1i, y2r, y0e, y1e, y2e, wl_0, wl_1, wl_2, wl_3, wl_4, wl_5, wl_6, wl_7, wl_8, wl_9, wl_10, wl_11, wl_12, wl_13, wl_14, wl_15, wl_16, wl_17, wl_18, wl_19, wl_20, wl_21, wl_22, wl_23, wl_24, wl_25, wl_26, wl_27, wl_28, wl_29, wl_30, wl_31, wl_32, wl_33, wl_34, wl_35, wl_36, wl_37, wl_38, wl_39, wl_40, wl_41, wl_42, wl_43, wl_44, wl_45, wl_46, wl_47, wl_48, wl_49, wl_50, wl_51, wl_52, wl_53, wl_54, wl_55, wl_56, wl_57, wl_58, wl_59, wl_60, wl_61, wl_62, wl_63, wl_64, wl_65, wl_66, wl_67, wl_68, wl_69, wl_70, wl_71, wl_72, wl_73, wl_74, wl_75, wl_76, wl_77, wl_78, wl_79, wl_80, wl_81, wl_82, wl_83, wl_84, wl_85, wl_86, wl_87, wl_88, wl_89, wl_90, wl_91, wl_92, wl_93, wl_94, wl_95, wl_96, wl_97, wl_98, wl_99, wl_100, wl_101, wl_102, wl_103, wl_104, wl_105, wl_106, wl_107, wl_108, wl_109, wl_110, wl_111, wl_112, wl_113, wl_114, wl_115, wl_116, wl_117, wl_118, wl_119, wl_120, wl_121, wl_122, wl_123, wl_124, wl_125, wl_126, wl_127, wl_128, wl_129, wl_130, wl_159, wl_160, wl_200, wl_232, wl_255, wl_256, wl_300, wl_359, wl_360, wl_400, wl_592, wl_992, wl_999, wl_1000, wl_1024, wl_3456, wl_6512, wl_7104, wl_10000, wl_11264, wl_12345, wl_32767, wl_1000000000, wl_1103515245, wl_2000000000, w_add, w_sub, w_mul, w_neg, w_lt, w_le, w_eq, w_cl, w_in, w_nat, w_max2, w_min2, w_abs2, iltT, iltF, ileT, ileF, ieqT, ieqF, bv_01, bft, bv_0, bv_1, bv_t, bv_f, cond_true, cond_false, Bool.not_true, Bool.not_false, if_true, if_false, true_or, or_true, true_and, and_true, ↓reduceIte, decide_true, decide_false, reduceCtorEq, u2_s, u2_o, u2_k, u2_u2, Bool.true_or, Bool.or_true, Bool.false_or, Bool.or_false, Bool.and_true, Bool.true_and, Bool.and_false, Bool.false_and, eq_self, not_true_eq_false, not_false_eq_true, and_self, and_true, true_and, false_and, and_false, w_dv, dvm, XSH_e hX, hw, e1, hw2]
  intro m
  induction m with
  | zero =>
    intro p ss k j I1 hT hG hA k1 kj hj ht g1 hl hpe hm
    have hsk := sk_r T e p
    unfold everyN
    refine ⟨fun f h => (nomatch h), fun r h => ?_⟩
    injection h with h
    subst h
    exact out p ss k j I1 hT hG hA k1 kj hj ht g1 hl (has_e (by omega) (by decide))
  | succ m ih =>
    intro p ss k j I1 hT hG hA k1 kj hj ht g1 hl hpe hm
    have hsk := sk_r T e p
    have g2 := hG.2.1
    unfold everyN
    cases ca : hasB T e (sk T e p) W_and with
    | false =>
      refine ⟨fun f h => (nomatch h), fun r h => ?_⟩
      rw [if_neg (by simp)] at h
      injection h with h
      subst h
      exact out p ss k j I1 hT hG hA k1 kj hj ht g1 hl (by rw [ht]; exact ca)
    | true =>
      rw [if_pos rfl]
      have hc2 := has_lt ca (by decide)
      have hjn : j < n := (TkI_tb hG hj hT.2.1.1).2.2.2.mp (by omega)
      have hkl : 97 ≤ T (sk T e p) ∧ T (sk T e p) ≤ 122 := by
        by_cases c : 97 ≤ T (sk T e p) ∧ T (sk T e p) ≤ 122
        · exact c
        · have := kw_nl (e := e) c [W_and] 0 (by decide)
          unfold kwI at this
          rw [ca] at this
          simp at this
      have ht1 : tb (j + 1) = sk T e (lw T e (sk T e p)) := by rw [TkI_st hG ⟨hj.1, hjn⟩, ht, tend_L hkl]
      have hw := sp_v22 (d := d + 2) (vn := vn) (vc := vc) (vw := vw) (J := J) hX hT hG hA hj
      rw [ht, ca] at hw
      have gA := hAt I1 (j + 1) (S ++ ss) hT hG hA (by omega) g1 (by rw [List.length_append]; omega)
      rw [ht1, hAs] at gA
      cases cA : A (lw T e (sk T e p)) with
      | error f =>
        rw [cA] at gA
        obtain ⟨I2, j2, q1, q2, q3, q4⟩ := gA
        refine ⟨fun f' h => ?_, fun r h => (nomatch h)⟩
        injection h with h
        subst h
        refine ⟨I2, j2, ?_, q2, q3, q4⟩
        rw [eq_43_9]
        simp (disch := first | assumption | omega | (simp (disch := omega) only [vM_u, vS_u]; first | assumption | omega)) only [hK, hL, hR, hI, hN, sI, hSp, hC, hW, li, lr, ↓cnd_a, ↓cnd_o, ↓cnd_n, ↓cnd_d, ↓z0, ↓z1, ↓z2, y0n, y1i, y2r, y0e, y1e, y2e, wl_0, wl_1, wl_2, wl_3, wl_4, wl_5, wl_6, wl_7, wl_8, wl_9, wl_10, wl_11, wl_12, wl_13, wl_14, wl_15, wl_16, wl_17, wl_18, wl_19, wl_20, wl_21, wl_22, wl_23, wl_24, wl_25, wl_26, wl_27, wl_28, wl_29, wl_30, wl_31, wl_32, wl_33, wl_34, wl_35, wl_36, wl_37, wl_38, wl_39, wl_40, wl_41, wl_42, wl_43, wl_44, wl_45, wl_46, wl_47, wl_48, wl_49, wl_50, wl_51, wl_52, wl_53, wl_54, wl_55, wl_56, wl_57, wl_58, wl_59, wl_60, wl_61, wl_62, wl_63, wl_64, wl_65, wl_66, wl_67, wl_68, wl_69, wl_70, wl_71, wl_72, wl_73, wl_74, wl_75, wl_76, wl_77, wl_78, wl_79, wl_80, wl_81, wl_82, wl_83, wl_84, wl_85, wl_86, wl_87, wl_88, wl_89, wl_90, wl_91, wl_92, wl_93, wl_94, wl_95, wl_96, wl_97, wl_98, wl_99, wl_100, wl_101, wl_102, wl_103, wl_104, wl_105, wl_106, wl_107, wl_108, wl_109, wl_110, wl_111, wl_112, wl_113, wl_114, wl_115, wl_116, wl_117, wl_118, wl_119, wl_120, wl_121, wl_122, wl_123, wl_124, wl_125, wl_126, wl_127, wl_128, wl_129, wl_130, wl_159, wl_160, wl_200, wl_232, wl_255, wl_256, wl_300, wl_359, wl_360, wl_400, wl_592, wl_992, wl_999, wl_1000, wl_1024, wl_3456, wl_6512, wl_7104, wl_10000, wl_11264, wl_12345, wl_32767, wl_1000000000, wl_1103515245, wl_2000000000, w_add, w_sub, w_mul, w_neg, w_lt, w_le, w_eq, w_cl, w_in, w_nat, w_max2, w_min2, w_abs2, iltT, iltF, ileT, ileF, ieqT, ieqF, bv_01, bft, bv_0, bv_1, bv_t, bv_f, cond_true, cond_false, Bool.not_true, Bool.not_false, if_true, if_false, true_or, or_true, true_and, and_true, ↓reduceIte, decide_true, decide_false, reduceCtorEq, u2_s, u2_o, u2_k, u2_u2, Bool.true_or, Bool.or_true, Bool.false_or, Bool.or_false, Bool.and_true, Bool.true_and, Bool.and_false, Bool.false_and, eq_self, not_true_eq_false, not_false_eq_true, and_self, and_true, true_and, false_and, and_false, w_dv, dvm, XSH_e hX, hw, q1]
      | ok r =>
        rw [cA] at gA
        obtain ⟨I2, j2, q1, q2, q3, q4, q5, q6⟩ := gA
        have hr := hPR _ r (by omega) cA
        obtain ⟨I3, e1, e2, e3⟩ := sp_47 (d := d + 1) (op := 6) (c := k) (i := j2) (vn := vn) (vc := vc) (vw := vw) (J := J) hX q5 (fun h0 => by rw [List.length_append, List.length_append]; omega) (by omega) (by omega)
        rw [if_neg (by omega)] at e3
        have f3 := FLw_tr q2 e2
        have hst : atv PR (d + 3) cd_43 9 [.ref 88, .int (w dep), .int (w c), .int (w k)] [] (((vn, vc, vw, K, L, R), nx I1 j, J) : HS) = atv PR (d + 3) cd_43 9 [.ref 88, .int (w dep), .int (w c), .int (w (k + 1))] [] (((vn, vc, vw, K, L, R), nx I3 j2, J) : HS) := by
          rw [eq_43_9]
          simp (disch := first | assumption | omega | (simp (disch := omega) only [vM_u, vS_u]; first | assumption | omega)) only [hK, hL, hR, hI, hN, sI, hSp, hC, hW, li, lr, ↓cnd_a, ↓cnd_o, ↓cnd_n, ↓cnd_d, ↓z0, ↓z1, ↓z2, y0n, y1i, y2r, y0e, y1e, y2e, wl_0, wl_1, wl_2, wl_3, wl_4, wl_5, wl_6, wl_7, wl_8, wl_9, wl_10, wl_11, wl_12, wl_13, wl_14, wl_15, wl_16, wl_17, wl_18, wl_19, wl_20, wl_21, wl_22, wl_23, wl_24, wl_25, wl_26, wl_27, wl_28, wl_29, wl_30, wl_31, wl_32, wl_33, wl_34, wl_35, wl_36, wl_37, wl_38, wl_39, wl_40, wl_41, wl_42, wl_43, wl_44, wl_45, wl_46, wl_47, wl_48, wl_49, wl_50, wl_51, wl_52, wl_53, wl_54, wl_55, wl_56, wl_57, wl_58, wl_59, wl_60, wl_61, wl_62, wl_63, wl_64, wl_65, wl_66, wl_67, wl_68, wl_69, wl_70, wl_71, wl_72, wl_73, wl_74, wl_75, wl_76, wl_77, wl_78, wl_79, wl_80, wl_81, wl_82, wl_83, wl_84, wl_85, wl_86, wl_87, wl_88, wl_89, wl_90, wl_91, wl_92, wl_93, wl_94, wl_95, wl_96, wl_97, wl_98, wl_99, wl_100, wl_101, wl_102, wl_103, wl_104, wl_105, wl_106, wl_107, wl_108, wl_109, wl_110, wl_111, wl_112, wl_113, wl_114, wl_115, wl_116, wl_117, wl_118, wl_119, wl_120, wl_121, wl_122, wl_123, wl_124, wl_125, wl_126, wl_127, wl_128, wl_129, wl_130, wl_159, wl_160, wl_200, wl_232, wl_255, wl_256, wl_300, wl_359, wl_360, wl_400, wl_592, wl_992, wl_999, wl_1000, wl_1024, wl_3456, wl_6512, wl_7104, wl_10000, wl_11264, wl_12345, wl_32767, wl_1000000000, wl_1103515245, wl_2000000000, w_add, w_sub, w_mul, w_neg, w_lt, w_le, w_eq, w_cl, w_in, w_nat, w_max2, w_min2, w_abs2, iltT, iltF, ileT, ileF, ieqT, ieqF, bv_01, bft, bv_0, bv_1, bv_t, bv_f, cond_true, cond_false, Bool.not_true, Bool.not_false, if_true, if_false, true_or, or_true, true_and, and_true, ↓reduceIte, decide_true, decide_false, reduceCtorEq, u2_s, u2_o, u2_k, u2_u2, Bool.true_or, Bool.or_true, Bool.false_or, Bool.or_false, Bool.and_true, Bool.true_and, Bool.and_false, Bool.false_and, eq_self, not_true_eq_false, not_false_eq_true, and_self, and_true, true_and, false_and, and_false, w_dv, dvm, XSH_e hX, hw, q1, e1]
        rw [hst]
        have hlen2 : ((ss ++ (r.2 ++ [6144])).length : Int) = ss.length + r.2.length + 1 := by
          rw [List.length_append, List.length_append, List.length_singleton]
          omega
        have IH := ih r.1 (ss ++ (r.2 ++ [6144])) (k + 1) j2 I3 (Tp_l f3 hT) (TkI_l f3 hG) (SWA_l f3 hA) (by omega) (by have := hA1 _ r cA; omega) q3 q4 (by simp only [List.append_assoc] at e3 ⊢; exact e3) (by omega) hr.2 (by omega)
        refine ⟨fun f h => ?_, fun r' h => ?_⟩
        · obtain ⟨I', j', z1, z2, z3, z4⟩ := IH.1 f h
          exact ⟨I', j', z1, FLw_tr f3 z2, z3, z4⟩
        · obtain ⟨I', j', v3, z1, z2, z3, z4, z5, z6, z7⟩ := IH.2 r' h
          exact ⟨I', j', v3, FLw_tr f3 z1, by omega, z3, z4, z5, by omega, z7⟩
end LWE
