/-! THE CLASS: a sweep over heights and paces -/
def FCm (I I' : Nat → Nat → Int32) : Prop := ∀ a k, (a < 280 ∨ 282 < a) → (a = 277 → k < 9 ∨ 10 < k) → I' a k = I a k
theorem FCm_tr {I I' I'' : Nat → Nat → Int32} (h : FCm I I') (h2 : FCm I' I'') : FCm I I'' := fun a k x y => (h2 a k x y).trans (h a k x y)
theorem TR_f {I I' : Nat → Nat → Int32} {wy : Int → Int} {al : Int} (h : TR I wy al) (hF : ∀ a k, (a = 279 ∨ (a = 277 ∧ k = 8)) → I' a k = I a k) : TR I' wy al := ⟨fun k hk => (hF _ _ (by omega)).trans (h.1 k hk), (hF _ _ (by omega)).trans h.2.1, h.2.2⟩
section SWEEP
variable {vn vc vw : Nat} {K L : Nat → Nat} {R : Nat → Nat → Nat} {I : Nat → Nat → Int32} {J : Nat → Nat → Int64}
theorem lp_58 {d q : Nat} {wy : Int → Int} {al hi pa : Int} (hX : XSH K L R) : ∀ (n : Nat) (k : Int) (I : Nat → Nat → Int32) (B : Int → Int × Int × Int) (bw : Int) (rc : Int32), 0 ≤ k → k + n = 10 → TR I wy al → Swp I B bw rc →
    ∃ I', atv PR (d + 2) cd_58 10 [.ref 277, .ref q, .int (w hi), .int (w pa), .int (w k)] [] (((vn, vc, vw, K, L, R), I, J) : HS) = some (.inl none, (((vn, vc, vw, K, L, R), I', J) : HS)) ∧ Swp I' (fun j => if k ≤ j ∧ j < 10 then stB (odF wy al j) hi pa (B j) else B j) bw (setB (fun j => decide (0 < wy j)) k n rc) ∧ FCm I I' := by
  intro n
  induction n with
  | zero =>
    intro k I B bw rc hk he hT hW
    refine ⟨I, ?_, ?_, fun _ _ _ _ => rfl⟩
    · rw [eq_58_10]
      simp (disch := first | assumption | omega | (simp (disch := omega) only [vM_u, vS_u]; first | assumption | omega)) only [hK, hL, hR, hI, hN, sI, hSp, hC, hW, li, lr, ↓cnd_a, ↓cnd_o, ↓cnd_n, ↓cnd_d, ↓z0, ↓z1, ↓z2, y0n, y1i, y2r, y0e, y1e, y2e, wl_0, wl_1, wl_2, wl_3, wl_4, wl_5, wl_6, wl_7, wl_8, wl_9, wl_10, wl_11, wl_12, wl_13, wl_14, wl_15, wl_16, wl_17, wl_18, wl_19, wl_20, wl_21, wl_22, wl_23, wl_24, wl_25, wl_26, wl_27, wl_28, wl_29, wl_30, wl_31, wl_32, wl_33, wl_34, wl_35, wl_36, wl_37, wl_38, wl_39, wl_40, wl_41, wl_42, wl_43, wl_44, wl_45, wl_46, wl_47, wl_48, wl_49, wl_50, wl_51, wl_52, wl_53, wl_54, wl_55, wl_56, wl_57, wl_58, wl_59, wl_60, wl_61, wl_62, wl_63, wl_64, wl_65, wl_66, wl_67, wl_68, wl_69, wl_70, wl_71, wl_72, wl_73, wl_74, wl_75, wl_76, wl_77, wl_78, wl_79, wl_80, wl_81, wl_82, wl_83, wl_84, wl_85, wl_86, wl_87, wl_88, wl_89, wl_90, wl_91, wl_92, wl_93, wl_94, wl_95, wl_96, wl_97, wl_98, wl_99, wl_100, wl_101, wl_102, wl_103, wl_104, wl_105, wl_106, wl_107, wl_108, wl_109, wl_110, wl_111, wl_112, wl_113, wl_114, wl_115, wl_116, wl_117, wl_118, wl_119, wl_120, wl_121, wl_122, wl_123, wl_124, wl_125, wl_126, wl_127, wl_128, wl_129, wl_130, wl_159, wl_160, wl_200, wl_232, wl_255, wl_256, wl_300, wl_359, wl_360, wl_400, wl_592, wl_992, wl_999, wl_1000, wl_1024, wl_3456, wl_6512, wl_7104, wl_10000, wl_11264, wl_12345, wl_32767, wl_1000000000, wl_1103515245, wl_2000000000, w_add, w_sub, w_mul, w_neg, w_lt, w_le, w_eq, w_cl, w_in, w_nat, w_max2, w_min2, w_abs2, iltT, iltF, ileT, ileF, ieqT, ieqF, bv_01, bft, bv_0, bv_1, bv_t, bv_f, cond_true, cond_false, Bool.not_true, Bool.not_false, if_true, if_false, true_or, or_true, true_and, and_true, ↓reduceIte, decide_true, decide_false, reduceCtorEq, u2_s, u2_o, u2_k, u2_u2, Bool.true_or, Bool.or_true, Bool.false_or, Bool.or_false, Bool.and_true, Bool.true_and, Bool.and_false, Bool.false_and, eq_self, not_true_eq_false, not_false_eq_true, and_self, and_true, true_and, false_and, and_false, w_dv, dvm, XSH_e hX]
    · have : (fun j => if k ≤ j ∧ j < 10 then stB (odF wy al j) hi pa (B j) else B j) = B := funext fun j => if_neg (by omega)
      rw [this]
      exact hW
  | succ n ih =>
    intro k I B bw rc hk he hT hW
    have hwk := hT.2.2.2 k
    have hod := odF_b hT.2.2.1.1 hwk
    obtain ⟨w1, w2, w3, w4, w5⟩ := hW
    -- the bits
    have hI1 : ∃ I1, (if 0 < wy k then u2 I 277 10 (rc ||| bit k) else I) = I1 := ⟨_, rfl⟩
    obtain ⟨I1, hI1⟩ := hI1
    have f1 : FCm I I1 := fun a b h1 h2 => by
      rw [← hI1]
      split
      · rw [u2_r, if_neg (by omega)]
      · rfl
    have T1 : TR I1 wy al := TR_f hT (fun a b z => f1 a b (by omega) (by omega))
    have W1 : Swp I1 B bw (cond (decide (0 < wy k)) (rc ||| bit k) rc) := by
      rw [← hI1]
      by_cases c : 0 < wy k
      · rw [if_pos c, decide_eq_true c]
        exact ⟨fun j hj => by rw [u2_o _ _ _ _ (by decide), u2_o _ _ _ _ (by decide), u2_o _ _ _ _ (by decide)]; exact w1 j hj, by rw [u2_k _ _ _ _ (by decide)]; exact w2, by rw [u2_s]; rfl, w4, w5⟩
      · rw [if_neg c, decide_eq_false c]
        exact ⟨w1, w2, w3, w4, w5⟩
    -- the best
    have st : ∃ I2, atv PR (d + 2) cd_58 27 [.ref 277, .ref q, .int (w hi), .int (w pa), .int (w k)] [] (((vn, vc, vw, K, L, R), I1, J) : HS) = atv PR (d + 2) cd_58 10 [.ref 277, .ref q, .int (w hi), .int (w pa), .int (w (k + 1))] [] (((vn, vc, vw, K, L, R), I2, J) : HS) ∧ Swp I2 (fun j => if j = k then stB (odF wy al j) hi pa (B j) else B j) bw (cond (decide (0 < wy k)) (rc ||| bit k) rc) ∧ FCm I1 I2 := by
      obtain ⟨x1, x2, x3, x4, x5⟩ := W1
      have y := x1 (ix k) (by unfold ix; omega)
      rw [show ((ix k : Nat) : Int) = k by unfold ix; omega] at y
      obtain ⟨y1, y2, y3⟩ := y
      have r4 := x4 k
      by_cases c : (B k).1 < odF wy al k
      · refine ⟨u2 (u2 (u2 I1 280 (ix k) (w (odF wy al k))) 281 (ix k) (w hi)) 282 (ix k) (w pa), ?_, ⟨fun j hj => ?_, by rw [u2_o _ _ _ _ (by decide), u2_o _ _ _ _ (by decide), u2_o _ _ _ _ (by decide)]; exact x2, by rw [u2_o _ _ _ _ (by decide), u2_o _ _ _ _ (by decide), u2_o _ _ _ _ (by decide)]; exact x3, fun j => ?_, x5⟩, fun a b h1 h2 => by rw [u2_o _ _ _ _ (by omega), u2_o _ _ _ _ (by omega), u2_o _ _ _ _ (by omega)]⟩
        · rw [eq_58_27]
          simp (disch := first | assumption | omega | (simp (disch := omega) only [vM_u, vS_u]; first | assumption | omega)) only [hK, hL, hR, hI, hN, sI, hSp, hC, hW, li, lr, ↓cnd_a, ↓cnd_o, ↓cnd_n, ↓cnd_d, ↓z0, ↓z1, ↓z2, y0n, y1i, y2r, y0e, y1e, y2e, wl_0, wl_1, wl_2, wl_3, wl_4, wl_5, wl_6, wl_7, wl_8, wl_9, wl_10, wl_11, wl_12, wl_13, wl_14, wl_15, wl_16, wl_17, wl_18, wl_19, wl_20, wl_21, wl_22, wl_23, wl_24, wl_25, wl_26, wl_27, wl_28, wl_29, wl_30, wl_31, wl_32, wl_33, wl_34, wl_35, wl_36, wl_37, wl_38, wl_39, wl_40, wl_41, wl_42, wl_43, wl_44, wl_45, wl_46, wl_47, wl_48, wl_49, wl_50, wl_51, wl_52, wl_53, wl_54, wl_55, wl_56, wl_57, wl_58, wl_59, wl_60, wl_61, wl_62, wl_63, wl_64, wl_65, wl_66, wl_67, wl_68, wl_69, wl_70, wl_71, wl_72, wl_73, wl_74, wl_75, wl_76, wl_77, wl_78, wl_79, wl_80, wl_81, wl_82, wl_83, wl_84, wl_85, wl_86, wl_87, wl_88, wl_89, wl_90, wl_91, wl_92, wl_93, wl_94, wl_95, wl_96, wl_97, wl_98, wl_99, wl_100, wl_101, wl_102, wl_103, wl_104, wl_105, wl_106, wl_107, wl_108, wl_109, wl_110, wl_111, wl_112, wl_113, wl_114, wl_115, wl_116, wl_117, wl_118, wl_119, wl_120, wl_121, wl_122, wl_123, wl_124, wl_125, wl_126, wl_127, wl_128, wl_129, wl_130, wl_159, wl_160, wl_200, wl_232, wl_255, wl_256, wl_300, wl_359, wl_360, wl_400, wl_592, wl_992, wl_999, wl_1000, wl_1024, wl_3456, wl_6512, wl_7104, wl_10000, wl_11264, wl_12345, wl_32767, wl_1000000000, wl_1103515245, wl_2000000000, w_add, w_sub, w_mul, w_neg, w_lt, w_le, w_eq, w_cl, w_in, w_nat, w_max2, w_min2, w_abs2, iltT, iltF, ileT, ileF, ieqT, ieqF, bv_01, bft, bv_0, bv_1, bv_t, bv_f, cond_true, cond_false, Bool.not_true, Bool.not_false, if_true, if_false, true_or, or_true, true_and, and_true, ↓reduceIte, decide_true, decide_false, reduceCtorEq, u2_s, u2_o, u2_k, u2_u2, Bool.true_or, Bool.or_true, Bool.false_or, Bool.or_false, Bool.and_true, Bool.true_and, Bool.and_false, Bool.false_and, eq_self, not_true_eq_false, not_false_eq_true, and_self, and_true, true_and, false_and, and_false, w_dv, dvm, XSH_e hX, sp_55 hX T1, y1]
        · by_cases e : j = ix k
          · subst e
            rw [show ((ix k : Nat) : Int) = k by unfold ix; omega]
            dsimp only
            rw [if_pos rfl]
            unfold stB
            rw [if_pos c]
            refine ⟨?_, ?_, ?_⟩
            · rw [u2_o _ _ _ _ (by decide), u2_o _ _ _ _ (by decide), u2_s]
            · rw [u2_o _ _ _ _ (by decide), u2_s]
            · rw [u2_s]
          · dsimp only
            rw [if_neg (by unfold ix at e; omega)]
            obtain ⟨z1, z2, z3⟩ := x1 j hj
            refine ⟨?_, ?_, ?_⟩
            · rw [u2_o _ _ _ _ (by decide), u2_o _ _ _ _ (by decide), u2_k _ _ _ _ e]; exact z1
            · rw [u2_o _ _ _ _ (by decide), u2_k _ _ _ _ e, u2_o _ _ _ _ (by decide)]; exact z2
            · rw [u2_k _ _ _ _ e, u2_o _ _ _ _ (by decide), u2_o _ _ _ _ (by decide)]; exact z3
        · dsimp only
          split
          · rename_i e
            subst e
            unfold stB
            rw [if_pos c]
            dsimp only
            omega
          · exact x4 j
      · refine ⟨I1, ?_, ⟨fun j hj => ?_, x2, x3, fun j => ?_, x5⟩, fun _ _ _ _ => rfl⟩
        · rw [eq_58_27]
          simp (disch := first | assumption | omega | (simp (disch := omega) only [vM_u, vS_u]; first | assumption | omega)) only [hK, hL, hR, hI, hN, sI, hSp, hC, hW, li, lr, ↓cnd_a, ↓cnd_o, ↓cnd_n, ↓cnd_d, ↓z0, ↓z1, ↓z2, y0n, y1i, y2r, y0e, y1e, y2e, wl_0, wl_1, wl_2, wl_3, wl_4, wl_5, wl_6, wl_7, wl_8, wl_9, wl_10, wl_11, wl_12, wl_13, wl_14, wl_15, wl_16, wl_17, wl_18, wl_19, wl_20, wl_21, wl_22, wl_23, wl_24, wl_25, wl_26, wl_27, wl_28, wl_29, wl_30, wl_31, wl_32, wl_33, wl_34, wl_35, wl_36, wl_37, wl_38, wl_39, wl_40, wl_41, wl_42, wl_43, wl_44, wl_45, wl_46, wl_47, wl_48, wl_49, wl_50, wl_51, wl_52, wl_53, wl_54, wl_55, wl_56, wl_57, wl_58, wl_59, wl_60, wl_61, wl_62, wl_63, wl_64, wl_65, wl_66, wl_67, wl_68, wl_69, wl_70, wl_71, wl_72, wl_73, wl_74, wl_75, wl_76, wl_77, wl_78, wl_79, wl_80, wl_81, wl_82, wl_83, wl_84, wl_85, wl_86, wl_87, wl_88, wl_89, wl_90, wl_91, wl_92, wl_93, wl_94, wl_95, wl_96, wl_97, wl_98, wl_99, wl_100, wl_101, wl_102, wl_103, wl_104, wl_105, wl_106, wl_107, wl_108, wl_109, wl_110, wl_111, wl_112, wl_113, wl_114, wl_115, wl_116, wl_117, wl_118, wl_119, wl_120, wl_121, wl_122, wl_123, wl_124, wl_125, wl_126, wl_127, wl_128, wl_129, wl_130, wl_159, wl_160, wl_200, wl_232, wl_255, wl_256, wl_300, wl_359, wl_360, wl_400, wl_592, wl_992, wl_999, wl_1000, wl_1024, wl_3456, wl_6512, wl_7104, wl_10000, wl_11264, wl_12345, wl_32767, wl_1000000000, wl_1103515245, wl_2000000000, w_add, w_sub, w_mul, w_neg, w_lt, w_le, w_eq, w_cl, w_in, w_nat, w_max2, w_min2, w_abs2, iltT, iltF, ileT, ileF, ieqT, ieqF, bv_01, bft, bv_0, bv_1, bv_t, bv_f, cond_true, cond_false, Bool.not_true, Bool.not_false, if_true, if_false, true_or, or_true, true_and, and_true, ↓reduceIte, decide_true, decide_false, reduceCtorEq, u2_s, u2_o, u2_k, u2_u2, Bool.true_or, Bool.or_true, Bool.false_or, Bool.or_false, Bool.and_true, Bool.true_and, Bool.and_false, Bool.false_and, eq_self, not_true_eq_false, not_false_eq_true, and_self, and_true, true_and, false_and, and_false, w_dv, dvm, XSH_e hX, sp_55 hX T1, y1]
        · dsimp only
          split
          · rename_i e
            unfold stB
            rw [e, if_neg c, ← e]
            exact x1 j hj
          · exact x1 j hj
        · dsimp only
          split
          · rename_i e
            unfold stB
            rw [e, if_neg c]
            exact x4 k
          · exact x4 j
    obtain ⟨I2, e2, W2, f2⟩ := st
    obtain ⟨I3, e3, W3, f3⟩ := ih (k + 1) I2 _ bw _ (by omega) (by omega) (TR_f T1 (fun a b z => f2 a b (by omega) (by omega))) W2
    refine ⟨I3, ?_, ?_, FCm_tr f1 (FCm_tr f2 f3)⟩
    · rw [eq_58_10]
      by_cases c : 0 < wy k
      · rw [if_pos c] at hI1
        simp (disch := first | assumption | omega | (simp (disch := omega) only [vM_u, vS_u]; first | assumption | omega)) only [hK, hL, hR, hI, hN, sI, hSp, hC, hW, li, lr, ↓cnd_a, ↓cnd_o, ↓cnd_n, ↓cnd_d, ↓z0, ↓z1, ↓z2, y0n, y1i, y2r, y0e, y1e, y2e, wl_0, wl_1, wl_2, wl_3, wl_4, wl_5, wl_6, wl_7, wl_8, wl_9, wl_10, wl_11, wl_12, wl_13, wl_14, wl_15, wl_16, wl_17, wl_18, wl_19, wl_20, wl_21, wl_22, wl_23, wl_24, wl_25, wl_26, wl_27, wl_28, wl_29, wl_30, wl_31, wl_32, wl_33, wl_34, wl_35, wl_36, wl_37, wl_38, wl_39, wl_40, wl_41, wl_42, wl_43, wl_44, wl_45, wl_46, wl_47, wl_48, wl_49, wl_50, wl_51, wl_52, wl_53, wl_54, wl_55, wl_56, wl_57, wl_58, wl_59, wl_60, wl_61, wl_62, wl_63, wl_64, wl_65, wl_66, wl_67, wl_68, wl_69, wl_70, wl_71, wl_72, wl_73, wl_74, wl_75, wl_76, wl_77, wl_78, wl_79, wl_80, wl_81, wl_82, wl_83, wl_84, wl_85, wl_86, wl_87, wl_88, wl_89, wl_90, wl_91, wl_92, wl_93, wl_94, wl_95, wl_96, wl_97, wl_98, wl_99, wl_100, wl_101, wl_102, wl_103, wl_104, wl_105, wl_106, wl_107, wl_108, wl_109, wl_110, wl_111, wl_112, wl_113, wl_114, wl_115, wl_116, wl_117, wl_118, wl_119, wl_120, wl_121, wl_122, wl_123, wl_124, wl_125, wl_126, wl_127, wl_128, wl_129, wl_130, wl_159, wl_160, wl_200, wl_232, wl_255, wl_256, wl_300, wl_359, wl_360, wl_400, wl_592, wl_992, wl_999, wl_1000, wl_1024, wl_3456, wl_6512, wl_7104, wl_10000, wl_11264, wl_12345, wl_32767, wl_1000000000, wl_1103515245, wl_2000000000, w_add, w_sub, w_mul, w_neg, w_lt, w_le, w_eq, w_cl, w_in, w_nat, w_max2, w_min2, w_abs2, iltT, iltF, ileT, ileF, ieqT, ieqF, bv_01, bft, bv_0, bv_1, bv_t, bv_f, cond_true, cond_false, Bool.not_true, Bool.not_false, if_true, if_false, true_or, or_true, true_and, and_true, ↓reduceIte, decide_true, decide_false, reduceCtorEq, u2_s, u2_o, u2_k, u2_u2, Bool.true_or, Bool.or_true, Bool.false_or, Bool.or_false, Bool.and_true, Bool.true_and, Bool.and_false, Bool.false_and, eq_self, not_true_eq_false, not_false_eq_true, and_self, and_true, true_and, false_and, and_false, w_dv, dvm, XSH_e hX, sp_53 hX hT, w3]
        rw [show rc ||| w 1 <<< (w k &&& w 31) = rc ||| bit k from rfl, hI1, e2]
        exact e3
      · rw [if_neg c] at hI1
        simp (disch := first | assumption | omega | (simp (disch := omega) only [vM_u, vS_u]; first | assumption | omega)) only [hK, hL, hR, hI, hN, sI, hSp, hC, hW, li, lr, ↓cnd_a, ↓cnd_o, ↓cnd_n, ↓cnd_d, ↓z0, ↓z1, ↓z2, y0n, y1i, y2r, y0e, y1e, y2e, wl_0, wl_1, wl_2, wl_3, wl_4, wl_5, wl_6, wl_7, wl_8, wl_9, wl_10, wl_11, wl_12, wl_13, wl_14, wl_15, wl_16, wl_17, wl_18, wl_19, wl_20, wl_21, wl_22, wl_23, wl_24, wl_25, wl_26, wl_27, wl_28, wl_29, wl_30, wl_31, wl_32, wl_33, wl_34, wl_35, wl_36, wl_37, wl_38, wl_39, wl_40, wl_41, wl_42, wl_43, wl_44, wl_45, wl_46, wl_47, wl_48, wl_49, wl_50, wl_51, wl_52, wl_53, wl_54, wl_55, wl_56, wl_57, wl_58, wl_59, wl_60, wl_61, wl_62, wl_63, wl_64, wl_65, wl_66, wl_67, wl_68, wl_69, wl_70, wl_71, wl_72, wl_73, wl_74, wl_75, wl_76, wl_77, wl_78, wl_79, wl_80, wl_81, wl_82, wl_83, wl_84, wl_85, wl_86, wl_87, wl_88, wl_89, wl_90, wl_91, wl_92, wl_93, wl_94, wl_95, wl_96, wl_97, wl_98, wl_99, wl_100, wl_101, wl_102, wl_103, wl_104, wl_105, wl_106, wl_107, wl_108, wl_109, wl_110, wl_111, wl_112, wl_113, wl_114, wl_115, wl_116, wl_117, wl_118, wl_119, wl_120, wl_121, wl_122, wl_123, wl_124, wl_125, wl_126, wl_127, wl_128, wl_129, wl_130, wl_159, wl_160, wl_200, wl_232, wl_255, wl_256, wl_300, wl_359, wl_360, wl_400, wl_592, wl_992, wl_999, wl_1000, wl_1024, wl_3456, wl_6512, wl_7104, wl_10000, wl_11264, wl_12345, wl_32767, wl_1000000000, wl_1103515245, wl_2000000000, w_add, w_sub, w_mul, w_neg, w_lt, w_le, w_eq, w_cl, w_in, w_nat, w_max2, w_min2, w_abs2, iltT, iltF, ileT, ileF, ieqT, ieqF, bv_01, bft, bv_0, bv_1, bv_t, bv_f, cond_true, cond_false, Bool.not_true, Bool.not_false, if_true, if_false, true_or, or_true, true_and, and_true, ↓reduceIte, decide_true, decide_false, reduceCtorEq, u2_s, u2_o, u2_k, u2_u2, Bool.true_or, Bool.or_true, Bool.false_or, Bool.or_false, Bool.and_true, Bool.true_and, Bool.and_false, Bool.false_and, eq_self, not_true_eq_false, not_false_eq_true, and_self, and_true, true_and, false_and, and_false, w_dv, dvm, XSH_e hX, sp_53 hX hT]
        rw [hI1, e2]
        exact e3
    · have : (fun j => if k + 1 ≤ j ∧ j < 10 then stB (odF wy al j) hi pa ((fun j => if j = k then stB (odF wy al j) hi pa (B j) else B j) j) else (fun j => if j = k then stB (odF wy al j) hi pa (B j) else B j) j) = (fun j => if k ≤ j ∧ j < 10 then stB (odF wy al j) hi pa (B j) else B j) := by
        funext j
        by_cases c : j = k
        · rw [if_neg (by omega), if_pos (by omega)]
          show (if j = k then _ else _) = _
          rw [if_pos c]
        · by_cases c2 : k + 1 ≤ j ∧ j < 10
          · rw [if_pos c2, if_pos (by omega)]
            show stB _ _ _ (if j = k then _ else _) = _
            rw [if_neg c]
          · rw [if_neg c2, if_neg (by omega)]
            show (if j = k then _ else _) = _
            rw [if_neg c]
      rw [this] at W3
      exact W3
theorem sp_58 {d q : Nat} {m wy : Int → Int} {al hi pa bw : Int} {B : Int → Int × Int × Int} {rc : Int32} (hX : XSH K L R) (hS : SHq K L R q) (hWd : Wd I q) (hv : vS I q = m) (hB : BD m) (hT : TR I wy al) (hW : Swp I B bw rc) :
    ∃ I', ev PR (d + 3) 58 [.ref 277, .ref q, .int (w hi), .int (w pa)] (((vn, vc, vw, K, L, R), I, J) : HS) = some (.inl none, (((vn, vc, vw, K, L, R), I', J) : HS)) ∧ Swp I' (fun j => if 0 ≤ j ∧ j < 10 then stB (odF wy al j) hi pa (B j) else B j) (max bw (woF m wy al)) (rbF wy 10 rc) ∧ FCm I I' := by
  have hw := woF_b hB hT.2.2.1.1 hT.2.2.2
  obtain ⟨w1, w2, w3, w4, w5⟩ := hW
  have T1 : TR (u2 I 277 9 (w (max bw (woF m wy al)))) wy al := TR_f hT (fun a b z => by rw [u2_r, if_neg (by omega)])
  have W1 : Swp (u2 I 277 9 (w (max bw (woF m wy al)))) B (max bw (woF m wy al)) rc := ⟨fun j hj => by rw [u2_o _ _ _ _ (by decide), u2_o _ _ _ _ (by decide), u2_o _ _ _ _ (by decide)]; exact w1 j hj, by rw [u2_s], by rw [u2_k _ _ _ _ (by decide)]; exact w3, w4, by omega⟩
  obtain ⟨I', e, W', f⟩ := lp_58 (d := d) (q := q) (J := J) (vn := vn) (vc := vc) (vw := vw) (hi := hi) (pa := pa) hX 10 0 _ B _ rc (by omega) (by omega) T1 W1
  refine ⟨I', ?_, W', fun a b h1 h2 => by rw [f a b h1 h2, u2_r, if_neg (by omega)]⟩
  rw [eq_58]
  simp (disch := first | assumption | omega | (simp (disch := omega) only [vM_u, vS_u]; first | assumption | omega)) only [hK, hL, hR, hI, hN, sI, hSp, hC, hW, li, lr, ↓cnd_a, ↓cnd_o, ↓cnd_n, ↓cnd_d, ↓z0, ↓z1, ↓z2, y0n, y1i, y2r, y0e, y1e, y2e, wl_0, wl_1, wl_2, wl_3, wl_4, wl_5, wl_6, wl_7, wl_8, wl_9, wl_10, wl_11, wl_12, wl_13, wl_14, wl_15, wl_16, wl_17, wl_18, wl_19, wl_20, wl_21, wl_22, wl_23, wl_24, wl_25, wl_26, wl_27, wl_28, wl_29, wl_30, wl_31, wl_32, wl_33, wl_34, wl_35, wl_36, wl_37, wl_38, wl_39, wl_40, wl_41, wl_42, wl_43, wl_44, wl_45, wl_46, wl_47, wl_48, wl_49, wl_50, wl_51, wl_52, wl_53, wl_54, wl_55, wl_56, wl_57, wl_58, wl_59, wl_60, wl_61, wl_62, wl_63, wl_64, wl_65, wl_66, wl_67, wl_68, wl_69, wl_70, wl_71, wl_72, wl_73, wl_74, wl_75, wl_76, wl_77, wl_78, wl_79, wl_80, wl_81, wl_82, wl_83, wl_84, wl_85, wl_86, wl_87, wl_88, wl_89, wl_90, wl_91, wl_92, wl_93, wl_94, wl_95, wl_96, wl_97, wl_98, wl_99, wl_100, wl_101, wl_102, wl_103, wl_104, wl_105, wl_106, wl_107, wl_108, wl_109, wl_110, wl_111, wl_112, wl_113, wl_114, wl_115, wl_116, wl_117, wl_118, wl_119, wl_120, wl_121, wl_122, wl_123, wl_124, wl_125, wl_126, wl_127, wl_128, wl_129, wl_130, wl_159, wl_160, wl_200, wl_232, wl_255, wl_256, wl_300, wl_359, wl_360, wl_400, wl_592, wl_992, wl_999, wl_1000, wl_1024, wl_3456, wl_6512, wl_7104, wl_10000, wl_11264, wl_12345, wl_32767, wl_1000000000, wl_1103515245, wl_2000000000, w_add, w_sub, w_mul, w_neg, w_lt, w_le, w_eq, w_cl, w_in, w_nat, w_max2, w_min2, w_abs2, iltT, iltF, ileT, ileF, ieqT, ieqF, bv_01, bft, bv_0, bv_1, bv_t, bv_f, cond_true, cond_false, Bool.not_true, Bool.not_false, if_true, if_false, true_or, or_true, true_and, and_true, ↓reduceIte, decide_true, decide_false, reduceCtorEq, u2_s, u2_o, u2_k, u2_u2, Bool.true_or, Bool.or_true, Bool.false_or, Bool.or_false, Bool.and_true, Bool.true_and, Bool.and_false, Bool.false_and, eq_self, not_true_eq_false, not_false_eq_true, and_self, and_true, true_and, false_and, and_false, w_dv, dvm, XSH_e hX, SHq_e hS, w2, sp_56 hX hS hWd hv hB hT]
  exact e
end SWEEP
