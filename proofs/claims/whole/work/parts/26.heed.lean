/-! THE CLASS: which blocks are heeded; what a hoop counts for -/
theorem Hd_snoc {I : Nat → Nat → Int32} {q : Nat} {l : List Int} {k : Int} (h : Hd I q l) : Hd (u2 (u2 I (q + 11) (ix l.length) (w k)) q 6 (w (l.length + 1))) q (l ++ [k]) := by
  refine ⟨by rw [u2_s, List.length_append, List.length_singleton]; rfl, fun i hi => ?_⟩
  rw [List.length_append, List.length_singleton] at hi
  rw [u2_o _ _ _ _ (by omega), ix_nat]
  by_cases c : i = l.length
  · subst c
    rw [u2_s]
    simp
  · rw [u2_k _ _ _ _ c, h.2 i (by omega)]
    simp only [List.getD_eq_getElem?_getD]
    rw [List.getElem?_append_left (by omega)]
theorem Fq_u {q o k : Nat} {I : Nat → Nat → Int32} {v : Int32} (h : o = q + 11 ∨ (o = q ∧ 6 ≤ k ∧ k ≤ 9)) : Fq q I (u2 I o k v) := fun a b h1 h2 => by
  rw [u2_r, if_neg (by omega)]
section HEED
variable {vn vc vw : Nat} {K L : Nat → Nat} {R : Nat → Nat → Nat} {I : Nat → Nat → Int32} {J : Nat → Nat → Int64}
theorem st_113 {d q : Nat} {h b x y p A B k s dx dy : Int} {cc : Bool} {l : List Int} {i10 i11 : Int32} {v12 : Value} (hS : SHq K L R q) (hA : (1 ≤ A ∧ A ≤ 15) ∧ 1 ≤ B ∧ B ≤ 15) (hs : 0 ≤ s ∧ s ≤ 9) (hx : (0 ≤ dx ∧ dx ≤ 90000) ∧ 0 ≤ dy ∧ dy ≤ 90000) (hl : l.length < 10) (hk : 0 ≤ k ∧ k ≤ 10) (hH : I q 6 = w l.length) (h7 : I q 7 = w A) (h8 : I q 8 = w B) :
    atv PR (d + 1) cd_113 76 [.ref q, .int (w h), .int (w b), .int (w x), .int (w y), .int (w p), .int (bv cc), .int (w k), .int (w s), .int (w dx), .int i10, .int i11, v12] [.int (w dy)] (((vn, vc, vw, K, L, R), I, J) : HS) = cond (gTch A B s dx dy) (atv PR (d + 1) cd_113 19 [.ref q, .int (w h), .int (w b), .int (w x), .int (w y), .int (w p), .int (bv (cc || (decide (2 * dx + s ≤ A) && decide (2 * dy + s ≤ B)))), .int (w (k + 1)), .int (w s), .int (w dx), .int i10, .int i11, .int (w dy)] [] (((vn, vc, vw, K, L, R), u2 (u2 I (q + 11) (ix l.length) (w k)) q 6 (w (l.length + 1)), J) : HS)) (atv PR (d + 1) cd_113 19 [.ref q, .int (w h), .int (w b), .int (w x), .int (w y), .int (w p), .int (bv cc), .int (w (k + 1)), .int (w s), .int (w dx), .int i10, .int i11, .int (w dy)] [] (((vn, vc, vw, K, L, R), I, J) : HS)) := by
  have e1 : q ≠ q + 11 := by omega
  have hdx : dx.natAbs = dx := by omega
  have hdy : dy.natAbs = dy := by omega
  rw [eq_113_76]
  simp (disch := first | assumption | omega | (simp (disch := omega) only [vM_u]; assumption)) only [hK, hL, hR, hI, hN, sI, hSp, hC, hW, li, lr, ↓cnd_a, ↓cnd_o, ↓cnd_n, ↓cnd_d, ↓z0, ↓z1, ↓z2, y0n, y1i, y2r, y0e, y1e, y2e, wl_0, wl_1, wl_2, wl_3, wl_4, wl_5, wl_6, wl_7, wl_8, wl_9, wl_10, wl_11, wl_12, wl_13, wl_14, wl_15, wl_16, wl_17, wl_18, wl_19, wl_20, wl_21, wl_22, wl_23, wl_24, wl_25, wl_26, wl_27, wl_28, wl_29, wl_30, wl_31, wl_32, wl_33, wl_34, wl_35, wl_36, wl_37, wl_38, wl_39, wl_40, wl_41, wl_42, wl_43, wl_44, wl_45, wl_46, wl_47, wl_48, wl_49, wl_50, wl_51, wl_52, wl_53, wl_54, wl_55, wl_56, wl_57, wl_58, wl_59, wl_60, wl_61, wl_62, wl_63, wl_64, wl_65, wl_66, wl_67, wl_68, wl_69, wl_70, wl_71, wl_72, wl_73, wl_74, wl_75, wl_76, wl_77, wl_78, wl_79, wl_80, wl_81, wl_82, wl_83, wl_84, wl_85, wl_86, wl_87, wl_88, wl_89, wl_90, wl_91, wl_92, wl_93, wl_94, wl_95, wl_96, wl_97, wl_98, wl_99, wl_100, wl_101, wl_102, wl_103, wl_104, wl_105, wl_106, wl_107, wl_108, wl_109, wl_110, wl_111, wl_112, wl_113, wl_114, wl_115, wl_116, wl_117, wl_118, wl_119, wl_120, wl_121, wl_122, wl_123, wl_124, wl_125, wl_126, wl_127, wl_128, wl_129, wl_130, wl_159, wl_160, wl_200, wl_232, wl_255, wl_256, wl_300, wl_359, wl_360, wl_400, wl_592, wl_992, wl_999, wl_1000, wl_1024, wl_3456, wl_6512, wl_7104, wl_10000, wl_11264, wl_12345, wl_32767, wl_1000000000, wl_1103515245, wl_2000000000, w_add, w_sub, w_mul, w_neg, w_lt, w_le, w_eq, w_cl, w_in, w_nat, w_max2, w_min2, w_abs2, iltT, iltF, ileT, ileF, ieqT, ieqF, bv_01, bft, bv_0, bv_1, bv_t, bv_f, cond_true, cond_false, Bool.not_true, Bool.not_false, if_true, if_false, true_or, or_true, true_and, and_true, ↓reduceIte, decide_true, decide_false, reduceCtorEq, u2_s, u2_o, u2_k, u2_u2, SHq_e hS, h7, h8, hH, sp_109]
  cases hg : gTch A B s dx dy with
  | false => rfl
  | true =>
    simp only [Bool.true_eq_false, if_false, cond_true]
    cases cc with
    | true => rfl
    | false =>
      simp only [if_true, Bool.false_or]
      by_cases c1 : A < 2 * dx + s
      · rw [if_pos c1, decide_eq_false (by omega)]; rfl
      · rw [if_neg c1, decide_eq_true (by omega)]
        by_cases c2 : B < 2 * dy + s
        · rw [if_pos c2, decide_eq_false (by omega)]; rfl
        · rw [if_neg c2, decide_eq_true (by omega)]; rfl
/-- the rows of a call of heed, from a block on -/
theorem lp_113 {d q : Nat} {h b x y p A B : Int} {m : Int → Int} (hS : SHq K L R q) (hB : BD m) (hA : (1 ≤ A ∧ A ≤ 15) ∧ 1 ≤ B ∧ B ≤ 15) (hx : (-10000 ≤ x ∧ x ≤ 10000) ∧ (-10000 ≤ y ∧ y ≤ 10000) ∧ 0 ≤ p ∧ p ≤ 10) :
    ∀ (n : Nat) (k : Int) (l : List Int) (cc : Bool) (I : Nat → Nat → Int32) (v8 v9 v10 v11 v12 : Value), 0 ≤ k → k + n = m 3 → (l.length : Int) ≤ k → Hd I q l → I q 7 = w A → I q 8 = w B → vS I q = m → Wd I q →
    ∃ I', atv PR (d + 1) cd_113 19 [.ref q, .int (w h), .int (w b), .int (w x), .int (w y), .int (w p), .int (bv cc), .int (w k), v8, v9, v10, v11, v12] [] (((vn, vc, vw, K, L, R), I, J) : HS) = some (.inl (some (.int (bv (cc || exs (C113 m A B x y p) k n)))), (((vn, vc, vw, K, L, R), I', J) : HS)) ∧ Hd I' q (l ++ hls (P113 m A B x y p) k n) ∧ I' q 7 = w A ∧ I' q 8 = w B ∧ Fq q I I' := by
  obtain ⟨h3, h4, h5, h6, h7, h8, h9, h13, h14, hbk, hhp, hpp⟩ := id hB
  intro n
  induction n with
  | zero =>
    intro k l cc I v8 v9 v10 v11 v12 hk he hl hH g7 g8 hv hW
    refine ⟨I, ?_, by rw [show hls (P113 m A B x y p) k 0 = [] from rfl, List.append_nil]; exact hH, g7, g8, Fq_rf⟩
    rw [eq_113_19]
    simp (disch := first | assumption | omega | (simp (disch := omega) only [vM_u]; assumption)) only [hK, hL, hR, hI, hN, sI, hSp, hC, hW, li, lr, ↓cnd_a, ↓cnd_o, ↓cnd_n, ↓cnd_d, ↓z0, ↓z1, ↓z2, y0n, y1i, y2r, y0e, y1e, y2e, wl_0, wl_1, wl_2, wl_3, wl_4, wl_5, wl_6, wl_7, wl_8, wl_9, wl_10, wl_11, wl_12, wl_13, wl_14, wl_15, wl_16, wl_17, wl_18, wl_19, wl_20, wl_21, wl_22, wl_23, wl_24, wl_25, wl_26, wl_27, wl_28, wl_29, wl_30, wl_31, wl_32, wl_33, wl_34, wl_35, wl_36, wl_37, wl_38, wl_39, wl_40, wl_41, wl_42, wl_43, wl_44, wl_45, wl_46, wl_47, wl_48, wl_49, wl_50, wl_51, wl_52, wl_53, wl_54, wl_55, wl_56, wl_57, wl_58, wl_59, wl_60, wl_61, wl_62, wl_63, wl_64, wl_65, wl_66, wl_67, wl_68, wl_69, wl_70, wl_71, wl_72, wl_73, wl_74, wl_75, wl_76, wl_77, wl_78, wl_79, wl_80, wl_81, wl_82, wl_83, wl_84, wl_85, wl_86, wl_87, wl_88, wl_89, wl_90, wl_91, wl_92, wl_93, wl_94, wl_95, wl_96, wl_97, wl_98, wl_99, wl_100, wl_101, wl_102, wl_103, wl_104, wl_105, wl_106, wl_107, wl_108, wl_109, wl_110, wl_111, wl_112, wl_113, wl_114, wl_115, wl_116, wl_117, wl_118, wl_119, wl_120, wl_121, wl_122, wl_123, wl_124, wl_125, wl_126, wl_127, wl_128, wl_129, wl_130, wl_159, wl_160, wl_200, wl_232, wl_255, wl_256, wl_300, wl_359, wl_360, wl_400, wl_592, wl_992, wl_999, wl_1000, wl_1024, wl_3456, wl_6512, wl_7104, wl_10000, wl_11264, wl_12345, wl_32767, wl_1000000000, wl_1103515245, wl_2000000000, w_add, w_sub, w_mul, w_neg, w_lt, w_le, w_eq, w_cl, w_in, w_nat, w_max2, w_min2, w_abs2, iltT, iltF, ileT, ileF, ieqT, ieqF, bv_01, bft, bv_0, bv_1, bv_t, bv_f, cond_true, cond_false, Bool.not_true, Bool.not_false, if_true, if_false, true_or, or_true, true_and, and_true, ↓reduceIte, decide_true, decide_false, reduceCtorEq, u2_s, u2_o, u2_k, u2_u2, SHq_e hS, sp_92b, hv, exs, Bool.or_false]
  | succ n ih =>
    intro k l cc I v8 v9 v10 v11 v12 hk he hl hH g7 g8 hv hW
    have hkb := hbk k hk (by omega)
    have hv3 : vS I q 3 = m 3 := by rw [hv]
    have key : ∀ (D : Int) (v12 : Value), (0 ≤ D ∧ D ≤ 50000) → (D = if 0 < y - p - bl m k 1 then y - p - bl m k 1 else if y + p + m 7 - bl m k 1 < 0 then -(y + p + m 7 - bl m k 1) else 0) →
        ∃ I', atv PR (d + 1) cd_113 76 [.ref q, .int (w h), .int (w b), .int (w x), .int (w y), .int (w p), .int (bv cc), .int (w k), .int (w (bl m k 2)), .int (w (max 0 (((x - bl m k 0).natAbs : Int) - p))), .int (w (y - p - bl m k 1)), .int (w (y + p + m 7 - bl m k 1)), v12] [.int (w D)] (((vn, vc, vw, K, L, R), I, J) : HS) = some (.inl (some (.int (bv (cc || exs (C113 m A B x y p) k (n + 1))))), (((vn, vc, vw, K, L, R), I', J) : HS)) ∧ Hd I' q (l ++ hls (P113 m A B x y p) k (n + 1)) ∧ I' q 7 = w A ∧ I' q 8 = w B ∧ Fq q I I' := by
      intro D v12 hD hDe
      rw [st_113 (l := l) hS hA (by omega) (by omega) (by omega) (by omega) hH.1 g7 g8]
      have hP : P113 m A B x y p k = gTch A B (bl m k 2) (max 0 (((x - bl m k 0).natAbs : Int) - p)) D := by unfold P113; rw [← hDe]
      have hC : C113 m A B x y p k = (P113 m A B x y p k && (decide (2 * max 0 (((x - bl m k 0).natAbs : Int) - p) + bl m k 2 ≤ A) && decide (2 * D + bl m k 2 ≤ B))) := by unfold C113; rw [← hDe]
      rw [← hP]
      unfold hls exs
      rw [hC]
      cases hg : P113 m A B x y p k with
      | false =>
        simp only [cond_false, Bool.false_and]
        exact ih (k + 1) l cc I _ _ _ _ _ (by omega) (by omega) (by omega) hH g7 g8 hv hW
      | true =>
        have f1 : Fq q I (u2 (u2 I (q + 11) (ix l.length) (w k)) q 6 (w (l.length + 1))) := Fq_tr (Fq_u (by omega)) (Fq_u (by omega))
        obtain ⟨I', e1, e2, e3, e4, e5⟩ := ih (k + 1) (l ++ [k]) (cc || (decide (2 * max 0 (((x - bl m k 0).natAbs : Int) - p) + bl m k 2 ≤ A) && decide (2 * D + bl m k 2 ≤ B))) (u2 (u2 I (q + 11) (ix l.length) (w k)) q 6 (w (l.length + 1))) (.int (w (bl m k 2))) (.int (w (max 0 (((x - bl m k 0).natAbs : Int) - p)))) (.int (w (y - p - bl m k 1))) (.int (w (y + p + m 7 - bl m k 1))) (.int (w D)) (by omega) (by omega) (by rw [List.length_append, List.length_singleton]; omega) (Hd_snoc hH) (by rw [u2_k _ _ _ _ (by omega), u2_o _ _ _ _ (by omega)]; exact g7) (by rw [u2_k _ _ _ _ (by omega), u2_o _ _ _ _ (by omega)]; exact g8) (by rw [Fq_vS f1]; exact hv) (Fq_Wd f1 hW)
        simp only [cond_true, Bool.true_and]
        refine ⟨I', ?_, ?_, e3, e4, Fq_tr f1 e5⟩
        · rw [e1, Bool.or_assoc]
          cases hq : (decide (2 * max 0 (((x - bl m k 0).natAbs : Int) - p) + bl m k 2 ≤ A) && decide (2 * D + bl m k 2 ≤ B)) <;> rfl
        · rw [List.append_assoc] at e2
          exact e2
    rw [eq_113_19]
    by_cases c1 : 0 < y - p - bl m k 1
    · simp (disch := first | assumption | omega | (simp (disch := omega) only [vM_u]; assumption)) only [hK, hL, hR, hI, hN, sI, hSp, hC, hW, li, lr, ↓cnd_a, ↓cnd_o, ↓cnd_n, ↓cnd_d, ↓z0, ↓z1, ↓z2, y0n, y1i, y2r, y0e, y1e, y2e, wl_0, wl_1, wl_2, wl_3, wl_4, wl_5, wl_6, wl_7, wl_8, wl_9, wl_10, wl_11, wl_12, wl_13, wl_14, wl_15, wl_16, wl_17, wl_18, wl_19, wl_20, wl_21, wl_22, wl_23, wl_24, wl_25, wl_26, wl_27, wl_28, wl_29, wl_30, wl_31, wl_32, wl_33, wl_34, wl_35, wl_36, wl_37, wl_38, wl_39, wl_40, wl_41, wl_42, wl_43, wl_44, wl_45, wl_46, wl_47, wl_48, wl_49, wl_50, wl_51, wl_52, wl_53, wl_54, wl_55, wl_56, wl_57, wl_58, wl_59, wl_60, wl_61, wl_62, wl_63, wl_64, wl_65, wl_66, wl_67, wl_68, wl_69, wl_70, wl_71, wl_72, wl_73, wl_74, wl_75, wl_76, wl_77, wl_78, wl_79, wl_80, wl_81, wl_82, wl_83, wl_84, wl_85, wl_86, wl_87, wl_88, wl_89, wl_90, wl_91, wl_92, wl_93, wl_94, wl_95, wl_96, wl_97, wl_98, wl_99, wl_100, wl_101, wl_102, wl_103, wl_104, wl_105, wl_106, wl_107, wl_108, wl_109, wl_110, wl_111, wl_112, wl_113, wl_114, wl_115, wl_116, wl_117, wl_118, wl_119, wl_120, wl_121, wl_122, wl_123, wl_124, wl_125, wl_126, wl_127, wl_128, wl_129, wl_130, wl_159, wl_160, wl_200, wl_232, wl_255, wl_256, wl_300, wl_359, wl_360, wl_400, wl_592, wl_992, wl_999, wl_1000, wl_1024, wl_3456, wl_6512, wl_7104, wl_10000, wl_11264, wl_12345, wl_32767, wl_1000000000, wl_1103515245, wl_2000000000, w_add, w_sub, w_mul, w_neg, w_lt, w_le, w_eq, w_cl, w_in, w_nat, w_max2, w_min2, w_abs2, iltT, iltF, ileT, ileF, ieqT, ieqF, bv_01, bft, bv_0, bv_1, bv_t, bv_f, cond_true, cond_false, Bool.not_true, Bool.not_false, if_true, if_false, true_or, or_true, true_and, and_true, ↓reduceIte, decide_true, decide_false, reduceCtorEq, u2_s, u2_o, u2_k, u2_u2, SHq_e hS, sp_92b, sp_96b, hv, rS_13 I q]
      exact key (y - p - bl m k 1) _ (by omega) (by rw [if_pos c1])
    · by_cases c2 : y + p + m 7 - bl m k 1 < 0
      · simp (disch := first | assumption | omega | (simp (disch := omega) only [vM_u]; assumption)) only [hK, hL, hR, hI, hN, sI, hSp, hC, hW, li, lr, ↓cnd_a, ↓cnd_o, ↓cnd_n, ↓cnd_d, ↓z0, ↓z1, ↓z2, y0n, y1i, y2r, y0e, y1e, y2e, wl_0, wl_1, wl_2, wl_3, wl_4, wl_5, wl_6, wl_7, wl_8, wl_9, wl_10, wl_11, wl_12, wl_13, wl_14, wl_15, wl_16, wl_17, wl_18, wl_19, wl_20, wl_21, wl_22, wl_23, wl_24, wl_25, wl_26, wl_27, wl_28, wl_29, wl_30, wl_31, wl_32, wl_33, wl_34, wl_35, wl_36, wl_37, wl_38, wl_39, wl_40, wl_41, wl_42, wl_43, wl_44, wl_45, wl_46, wl_47, wl_48, wl_49, wl_50, wl_51, wl_52, wl_53, wl_54, wl_55, wl_56, wl_57, wl_58, wl_59, wl_60, wl_61, wl_62, wl_63, wl_64, wl_65, wl_66, wl_67, wl_68, wl_69, wl_70, wl_71, wl_72, wl_73, wl_74, wl_75, wl_76, wl_77, wl_78, wl_79, wl_80, wl_81, wl_82, wl_83, wl_84, wl_85, wl_86, wl_87, wl_88, wl_89, wl_90, wl_91, wl_92, wl_93, wl_94, wl_95, wl_96, wl_97, wl_98, wl_99, wl_100, wl_101, wl_102, wl_103, wl_104, wl_105, wl_106, wl_107, wl_108, wl_109, wl_110, wl_111, wl_112, wl_113, wl_114, wl_115, wl_116, wl_117, wl_118, wl_119, wl_120, wl_121, wl_122, wl_123, wl_124, wl_125, wl_126, wl_127, wl_128, wl_129, wl_130, wl_159, wl_160, wl_200, wl_232, wl_255, wl_256, wl_300, wl_359, wl_360, wl_400, wl_592, wl_992, wl_999, wl_1000, wl_1024, wl_3456, wl_6512, wl_7104, wl_10000, wl_11264, wl_12345, wl_32767, wl_1000000000, wl_1103515245, wl_2000000000, w_add, w_sub, w_mul, w_neg, w_lt, w_le, w_eq, w_cl, w_in, w_nat, w_max2, w_min2, w_abs2, iltT, iltF, ileT, ileF, ieqT, ieqF, bv_01, bft, bv_0, bv_1, bv_t, bv_f, cond_true, cond_false, Bool.not_true, Bool.not_false, if_true, if_false, true_or, or_true, true_and, and_true, ↓reduceIte, decide_true, decide_false, reduceCtorEq, u2_s, u2_o, u2_k, u2_u2, SHq_e hS, sp_92b, sp_96b, hv, rS_13 I q]
        exact key (-(y + p + m 7 - bl m k 1)) _ (by omega) (by rw [if_neg c1, if_pos c2])
      · simp (disch := first | assumption | omega | (simp (disch := omega) only [vM_u]; assumption)) only [hK, hL, hR, hI, hN, sI, hSp, hC, hW, li, lr, ↓cnd_a, ↓cnd_o, ↓cnd_n, ↓cnd_d, ↓z0, ↓z1, ↓z2, y0n, y1i, y2r, y0e, y1e, y2e, wl_0, wl_1, wl_2, wl_3, wl_4, wl_5, wl_6, wl_7, wl_8, wl_9, wl_10, wl_11, wl_12, wl_13, wl_14, wl_15, wl_16, wl_17, wl_18, wl_19, wl_20, wl_21, wl_22, wl_23, wl_24, wl_25, wl_26, wl_27, wl_28, wl_29, wl_30, wl_31, wl_32, wl_33, wl_34, wl_35, wl_36, wl_37, wl_38, wl_39, wl_40, wl_41, wl_42, wl_43, wl_44, wl_45, wl_46, wl_47, wl_48, wl_49, wl_50, wl_51, wl_52, wl_53, wl_54, wl_55, wl_56, wl_57, wl_58, wl_59, wl_60, wl_61, wl_62, wl_63, wl_64, wl_65, wl_66, wl_67, wl_68, wl_69, wl_70, wl_71, wl_72, wl_73, wl_74, wl_75, wl_76, wl_77, wl_78, wl_79, wl_80, wl_81, wl_82, wl_83, wl_84, wl_85, wl_86, wl_87, wl_88, wl_89, wl_90, wl_91, wl_92, wl_93, wl_94, wl_95, wl_96, wl_97, wl_98, wl_99, wl_100, wl_101, wl_102, wl_103, wl_104, wl_105, wl_106, wl_107, wl_108, wl_109, wl_110, wl_111, wl_112, wl_113, wl_114, wl_115, wl_116, wl_117, wl_118, wl_119, wl_120, wl_121, wl_122, wl_123, wl_124, wl_125, wl_126, wl_127, wl_128, wl_129, wl_130, wl_159, wl_160, wl_200, wl_232, wl_255, wl_256, wl_300, wl_359, wl_360, wl_400, wl_592, wl_992, wl_999, wl_1000, wl_1024, wl_3456, wl_6512, wl_7104, wl_10000, wl_11264, wl_12345, wl_32767, wl_1000000000, wl_1103515245, wl_2000000000, w_add, w_sub, w_mul, w_neg, w_lt, w_le, w_eq, w_cl, w_in, w_nat, w_max2, w_min2, w_abs2, iltT, iltF, ileT, ileF, ieqT, ieqF, bv_01, bft, bv_0, bv_1, bv_t, bv_f, cond_true, cond_false, Bool.not_true, Bool.not_false, if_true, if_false, true_or, or_true, true_and, and_true, ↓reduceIte, decide_true, decide_false, reduceCtorEq, u2_s, u2_o, u2_k, u2_u2, SHq_e hS, sp_92b, sp_96b, hv, rS_13 I q]
        exact key 0 _ (by omega) (by rw [if_neg c1, if_neg c2])
/-- what heed leaves: the blocks that a hoop can touch that lands near a place -/
def HC (I : Nat → Nat → Int32) (q : Nat) (m : Int → Int) (h b x y p : Int) : Prop := Hd I q (hls (P113 m (alX m h b) (alY m h b) x y p) 0 (m 3).toNat) ∧ I q 7 = w (alX m h b) ∧ I q 8 = w (alY m h b)
def cnC (m : Int → Int) (h b x y p : Int) : Bool := exs (C113 m (alX m h b) (alY m h b) x y p) 0 (m 3).toNat
theorem sp_113 {d q : Nat} {h b x y p : Int} (hS : SHq K L R q) (hW : Wd I q) (hB : BD (vS I q)) (hh : 0 ≤ h ∧ h < vS I q 4) (hb : 0 ≤ b ∧ b ≤ 1000) (hx : (-10000 ≤ x ∧ x ≤ 10000) ∧ (-10000 ≤ y ∧ y ≤ 10000) ∧ 0 ≤ p ∧ p ≤ 10) :
    ∃ I', ev PR (d + 3) 113 [.ref q, .int (w h), .int (w b), .int (w x), .int (w y), .int (w p)] (((vn, vc, vw, K, L, R), I, J) : HS) = some (.inl (some (.int (bv (cnC (vS I q) h b x y p)))), (((vn, vc, vw, K, L, R), I', J) : HS)) ∧ HC I' q (vS I q) h b x y p ∧ Fq q I I' := by
  have hA := al_r hB hh hb.1
  have h3 := hB.1
  have f1 : Fq q I (u2 (u2 (u2 I q 7 (w (alX (vS I q) h b))) q 8 (w (alY (vS I q) h b))) q 6 (w 0)) := Fq_tr (Fq_u (by omega)) (Fq_tr (Fq_u (by omega)) (Fq_u (by omega)))
  obtain ⟨I', e1, e2, e3, e4, e5⟩ := lp_113 (d := d + 1) (h := h) (b := b) hS hB hA hx (vS I q 3).toNat 0 [] false (u2 (u2 (u2 I q 7 (w (alX (vS I q) h b))) q 8 (w (alY (vS I q) h b))) q 6 (w 0)) (.retAddr 0) (.retAddr 0) (.retAddr 0) (.retAddr 0) (.retAddr 0) (by omega) (by omega) (by simp) ⟨by rw [u2_s]; rfl, fun i hi => by cases hi⟩ (by rw [u2_k _ _ _ _ (by omega), u2_k _ _ _ _ (by omega), u2_s]) (by rw [u2_k _ _ _ _ (by omega), u2_s]) (Fq_vS f1) (Fq_Wd f1 hW)
  refine ⟨I', ?_, ⟨by rw [List.nil_append] at e2; exact e2, e3, e4⟩, Fq_tr f1 e5⟩
  have s1 := sp_107 (d := d) (I := u2 I q 7 (w (alX (vS I q) h b))) (J := J) (vn := vn) (vc := vc) (vw := vw) (h := h) (b := b) hS (Fq_Wd (Fq_u (by omega)) hW) (by rw [vS_u (by omega)]; exact hB) (by rw [vS_u (by omega)]; exact hh) hb
  rw [vS_u (by omega)] at s1
  rw [eq_113]
  simp (disch := first | assumption | omega | (simp (disch := omega) only [vM_u]; assumption)) only [hK, hL, hR, hI, hN, sI, hSp, hC, hW, li, lr, ↓cnd_a, ↓cnd_o, ↓cnd_n, ↓cnd_d, ↓z0, ↓z1, ↓z2, y0n, y1i, y2r, y0e, y1e, y2e, wl_0, wl_1, wl_2, wl_3, wl_4, wl_5, wl_6, wl_7, wl_8, wl_9, wl_10, wl_11, wl_12, wl_13, wl_14, wl_15, wl_16, wl_17, wl_18, wl_19, wl_20, wl_21, wl_22, wl_23, wl_24, wl_25, wl_26, wl_27, wl_28, wl_29, wl_30, wl_31, wl_32, wl_33, wl_34, wl_35, wl_36, wl_37, wl_38, wl_39, wl_40, wl_41, wl_42, wl_43, wl_44, wl_45, wl_46, wl_47, wl_48, wl_49, wl_50, wl_51, wl_52, wl_53, wl_54, wl_55, wl_56, wl_57, wl_58, wl_59, wl_60, wl_61, wl_62, wl_63, wl_64, wl_65, wl_66, wl_67, wl_68, wl_69, wl_70, wl_71, wl_72, wl_73, wl_74, wl_75, wl_76, wl_77, wl_78, wl_79, wl_80, wl_81, wl_82, wl_83, wl_84, wl_85, wl_86, wl_87, wl_88, wl_89, wl_90, wl_91, wl_92, wl_93, wl_94, wl_95, wl_96, wl_97, wl_98, wl_99, wl_100, wl_101, wl_102, wl_103, wl_104, wl_105, wl_106, wl_107, wl_108, wl_109, wl_110, wl_111, wl_112, wl_113, wl_114, wl_115, wl_116, wl_117, wl_118, wl_119, wl_120, wl_121, wl_122, wl_123, wl_124, wl_125, wl_126, wl_127, wl_128, wl_129, wl_130, wl_159, wl_160, wl_200, wl_232, wl_255, wl_256, wl_300, wl_359, wl_360, wl_400, wl_592, wl_992, wl_999, wl_1000, wl_1024, wl_3456, wl_6512, wl_7104, wl_10000, wl_11264, wl_12345, wl_32767, wl_1000000000, wl_1103515245, wl_2000000000, w_add, w_sub, w_mul, w_neg, w_lt, w_le, w_eq, w_cl, w_in, w_nat, w_max2, w_min2, w_abs2, iltT, iltF, ileT, ileF, ieqT, ieqF, bv_01, bft, bv_0, bv_1, bv_t, bv_f, cond_true, cond_false, Bool.not_true, Bool.not_false, if_true, if_false, true_or, or_true, true_and, and_true, ↓reduceIte, decide_true, decide_false, reduceCtorEq, u2_s, u2_o, u2_k, u2_u2, SHq_e hS, sp_106, s1]
  exact e1
end HEED
