/-! the game: the class's call, and the reference -/
section GAX
variable {vn vc vw : Nat} {K L : Nat → Nat} {R : Nat → Nat → Nat} {I : Nat → Nat → Int32} {J : Nat → Nat → Int64}
theorem gP_r {m : Int → Int} {ss : List Int} {ln p f h b : Int} (hB : BD m) (hb : 0 ≤ b ∧ b < m 3) (h0 : 0 ≤ (BsP m ss ln p h f b).1) (h1 : (BsP m ss ln p h f b).1 ≤ 10000) : 0 ≤ gP m ss ln p f h b ∧ gP m ss ln p f h b ≤ 9990000 := by
  have hbb := (hB.2.2.2.2.2.2.2.2.2.1 b hb.1 hb.2).2.2.2.1
  exact ⟨Int.mul_nonneg h0 hbb.1, Int.mul_le_mul h1 hbb.2 hbb.1 (by omega)⟩
/-- cells of a hoop's row are written -/
theorem sp_83 {d : Nat} {m : Int → Int} {ss : List Int} {ln mk p f h : Int} {bw : Int} {rc : Int32} (hQ : CQ K L R I m ss ln mk) (hW' : Swp I (BsP m ss ln p h f) bw rc) (hh : 0 ≤ h ∧ h < 8) (i6 : I 283 6 = w (m 3)) :
    ∃ I', ev PR (d + 2) 83 [.ref 283, .ref 91, .int (w h)] (((vn, vc, vw, K, L, R), I, J) : HS) = some (.inl none, (((vn, vc, vw, K, L, R), I', J) : HS)) ∧ (∀ b, 0 ≤ b → b < m 3 → I' 286 (ix (h * 10 + b)) = w (gP m ss ln p f h b)) ∧ ∀ a k, ¬(a = 286 ∧ ∃ b, 0 ≤ b ∧ b < m 3 ∧ k = ix (h * 10 + b)) → I' a k = I a k := by
  obtain ⟨g1, g2, g3, g4, g5, g6, g7, g8⟩ := id hQ
  have hX := g1
  have h3 := g5.1
  have kq := (SHq_e g2).1
  have rq := (SHq_e g2).2.1
  have kb := (SHq_e g2).2.2.2.2.2.2.2.1.1
  have lp : ∀ (n : Nat) (b : Int) (I1 : Nat → Nat → Int32) (w4 : Value), 0 ≤ b → b + n = m 3 → (∀ c, 0 ≤ c → c < b → I1 286 (ix (h * 10 + c)) = w (gP m ss ln p f h c)) → (∀ a k, ¬(a = 286 ∧ ∃ b, 0 ≤ b ∧ b < m 3 ∧ k = ix (h * 10 + b)) → I1 a k = I a k) → ∃ I', atv PR (d + 1) cd_83 2 [.ref 283, .ref 91, .int (w h), .int (w b), w4] [] (((vn, vc, vw, K, L, R), I1, J) : HS) = some (.inl none, (((vn, vc, vw, K, L, R), I', J) : HS)) ∧ (∀ b, 0 ≤ b → b < m 3 → I' 286 (ix (h * 10 + b)) = w (gP m ss ln p f h b)) ∧ ∀ a k, ¬(a = 286 ∧ ∃ b, 0 ≤ b ∧ b < m 3 ∧ k = ix (h * 10 + b)) → I' a k = I a k := by
    intro n
    induction n with
    | zero =>
      intro b I1 w4 h0 hn hc hf
      have eb : b = m 3 := by omega
      subst eb
      refine ⟨I1, ?_, hc, hf⟩
      have j6 : I1 283 6 = w (m 3) := by rw [hf _ _ (fun z => by have := z.1; omega)]; exact i6
      rw [eq_83_2]
      simp (disch := first | assumption | omega | (simp (disch := omega) only [vM_u, vS_u]; first | assumption | omega)) only [hK, hL, hR, hI, hN, sI, hSp, hC, hW, li, lr, ↓cnd_a, ↓cnd_o, ↓cnd_n, ↓cnd_d, ↓z0, ↓z1, ↓z2, y0n, y1i, y2r, y0e, y1e, y2e, wl_0, wl_1, wl_2, wl_3, wl_4, wl_5, wl_6, wl_7, wl_8, wl_9, wl_10, wl_11, wl_12, wl_13, wl_14, wl_15, wl_16, wl_17, wl_18, wl_19, wl_20, wl_21, wl_22, wl_23, wl_24, wl_25, wl_26, wl_27, wl_28, wl_29, wl_30, wl_31, wl_32, wl_33, wl_34, wl_35, wl_36, wl_37, wl_38, wl_39, wl_40, wl_41, wl_42, wl_43, wl_44, wl_45, wl_46, wl_47, wl_48, wl_49, wl_50, wl_51, wl_52, wl_53, wl_54, wl_55, wl_56, wl_57, wl_58, wl_59, wl_60, wl_61, wl_62, wl_63, wl_64, wl_65, wl_66, wl_67, wl_68, wl_69, wl_70, wl_71, wl_72, wl_73, wl_74, wl_75, wl_76, wl_77, wl_78, wl_79, wl_80, wl_81, wl_82, wl_83, wl_84, wl_85, wl_86, wl_87, wl_88, wl_89, wl_90, wl_91, wl_92, wl_93, wl_94, wl_95, wl_96, wl_97, wl_98, wl_99, wl_100, wl_101, wl_102, wl_103, wl_104, wl_105, wl_106, wl_107, wl_108, wl_109, wl_110, wl_111, wl_112, wl_113, wl_114, wl_115, wl_116, wl_117, wl_118, wl_119, wl_120, wl_121, wl_122, wl_123, wl_124, wl_125, wl_126, wl_127, wl_128, wl_129, wl_130, wl_159, wl_160, wl_200, wl_232, wl_255, wl_256, wl_300, wl_359, wl_360, wl_400, wl_592, wl_992, wl_999, wl_1000, wl_1024, wl_3456, wl_6512, wl_7104, wl_10000, wl_11264, wl_12345, wl_32767, wl_1000000000, wl_1103515245, wl_2000000000, w_add, w_sub, w_mul, w_neg, w_lt, w_le, w_eq, w_cl, w_in, w_nat, w_max2, w_min2, w_abs2, iltT, iltF, ileT, ileF, ieqT, ieqF, bv_01, bft, bv_0, bv_1, bv_t, bv_f, cond_true, cond_false, Bool.not_true, Bool.not_false, if_true, if_false, true_or, or_true, true_and, and_true, ↓reduceIte, decide_true, decide_false, reduceCtorEq, u2_s, u2_o, u2_k, u2_u2, Bool.true_or, Bool.or_true, Bool.false_or, Bool.or_false, Bool.and_true, Bool.true_and, Bool.and_false, Bool.false_and, eq_self, not_true_eq_false, not_false_eq_true, and_self, and_true, true_and, false_and, and_false, w_dv, dvm, XSH_e hX, j6]
    | succ n ih =>
      intro b I1 w4 h0 hn hc hf
      have nf : ∀ a k, a ≠ 286 → I1 a k = I a k := fun a k x => hf a k (fun z => x z.1)
      have j6 : I1 283 6 = w (m 3) := by rw [nf _ _ (by omega)]; exact i6
      have W1 : Swp I1 (BsP m ss ln p h f) bw rc := by
        obtain ⟨a1, a2, a3, a4⟩ := hW'
        exact ⟨fun k hk => by rw [nf _ _ (by omega), nf _ _ (by omega), nf _ _ (by omega)]; exact a1 k hk, by rw [nf _ _ (by omega)]; exact a2, by rw [nf _ _ (by omega)]; exact a3, a4⟩
      have s59 := sp_59 (d := d) (j := b) (k := 0) (vn := vn) (vc := vc) (vw := vw) (J := J) hX W1 (by omega) (by omega)
      rw [if_pos rfl] at s59
      have v1 : vS I1 91 = m := by rw [vS_f' (fun a k x1 x2 x3 => nf _ _ (by omega))]; exact g4
      have s96 := sp_96b (d := d) (q := 91) (b := b) (j := 3) (I := I1) (vn := vn) (vc := vc) (vw := vw) (J := J) g2 (Wd_f' (fun a x => nf _ _ (by omega)) g3) (by rw [v1]; omega)
      rw [v1] at s96
      obtain ⟨I2, hI2⟩ : ∃ I2, I2 = u2 I1 286 (ix (h * 10 + b)) (w ((BsP m ss ln p h f b).1 * bl m b 3)) := ⟨_, rfl⟩
      obtain ⟨I', e1, e2, e3⟩ := ih (b + 1) I2 (.int (w (h * 10 + b))) (by omega) (by omega) (fun c c0 c1 => by
        rw [hI2, u2_r]
        by_cases e : c = b
        · rw [e, if_pos ⟨rfl, rfl⟩]; rfl
        · rw [if_neg (by unfold ix; omega)]; exact hc c c0 (by omega)) (fun a k x => by
        rw [hI2, u2_r, if_neg (fun z => x ⟨z.1, b, h0, by omega, z.2⟩)]
        exact hf a k x)
      refine ⟨I', ?_, e2, e3⟩
      rw [← e1, hI2, eq_83_2]
      simp (disch := first | assumption | omega | (simp (disch := omega) only [vM_u, vS_u]; first | assumption | omega)) only [hK, hL, hR, hI, hN, sI, hSp, hC, hW, li, lr, ↓cnd_a, ↓cnd_o, ↓cnd_n, ↓cnd_d, ↓z0, ↓z1, ↓z2, y0n, y1i, y2r, y0e, y1e, y2e, wl_0, wl_1, wl_2, wl_3, wl_4, wl_5, wl_6, wl_7, wl_8, wl_9, wl_10, wl_11, wl_12, wl_13, wl_14, wl_15, wl_16, wl_17, wl_18, wl_19, wl_20, wl_21, wl_22, wl_23, wl_24, wl_25, wl_26, wl_27, wl_28, wl_29, wl_30, wl_31, wl_32, wl_33, wl_34, wl_35, wl_36, wl_37, wl_38, wl_39, wl_40, wl_41, wl_42, wl_43, wl_44, wl_45, wl_46, wl_47, wl_48, wl_49, wl_50, wl_51, wl_52, wl_53, wl_54, wl_55, wl_56, wl_57, wl_58, wl_59, wl_60, wl_61, wl_62, wl_63, wl_64, wl_65, wl_66, wl_67, wl_68, wl_69, wl_70, wl_71, wl_72, wl_73, wl_74, wl_75, wl_76, wl_77, wl_78, wl_79, wl_80, wl_81, wl_82, wl_83, wl_84, wl_85, wl_86, wl_87, wl_88, wl_89, wl_90, wl_91, wl_92, wl_93, wl_94, wl_95, wl_96, wl_97, wl_98, wl_99, wl_100, wl_101, wl_102, wl_103, wl_104, wl_105, wl_106, wl_107, wl_108, wl_109, wl_110, wl_111, wl_112, wl_113, wl_114, wl_115, wl_116, wl_117, wl_118, wl_119, wl_120, wl_121, wl_122, wl_123, wl_124, wl_125, wl_126, wl_127, wl_128, wl_129, wl_130, wl_159, wl_160, wl_200, wl_232, wl_255, wl_256, wl_300, wl_359, wl_360, wl_400, wl_592, wl_992, wl_999, wl_1000, wl_1024, wl_3456, wl_6512, wl_7104, wl_10000, wl_11264, wl_12345, wl_32767, wl_1000000000, wl_1103515245, wl_2000000000, w_add, w_sub, w_mul, w_neg, w_lt, w_le, w_eq, w_cl, w_in, w_nat, w_max2, w_min2, w_abs2, iltT, iltF, ileT, ileF, ieqT, ieqF, bv_01, bft, bv_0, bv_1, bv_t, bv_f, cond_true, cond_false, Bool.not_true, Bool.not_false, if_true, if_false, true_or, or_true, true_and, and_true, ↓reduceIte, decide_true, decide_false, reduceCtorEq, u2_s, u2_o, u2_k, u2_u2, Bool.true_or, Bool.or_true, Bool.false_or, Bool.or_false, Bool.and_true, Bool.true_and, Bool.and_false, Bool.false_and, eq_self, not_true_eq_false, not_false_eq_true, and_self, and_true, true_and, false_and, and_false, w_dv, dvm, XSH_e hX, j6, s59, kq, rq, kb, s96]
  obtain ⟨I', e1, e2⟩ := lp (m 3).toNat 0 I (.retAddr 0) (by omega) (by omega) (fun c a b => by omega) (fun _ _ _ => rfl)
  refine ⟨I', ?_, e2⟩
  rw [eq_83]
  exact e1
theorem sp_82 {d : Nat} {m : Int → Int} {ss : List Int} {ln mk p f : Int} {x : Int32} (hQ : CQ K L R I m ss ln mk) (hO : OddsM I mk m) (hp : 0 ≤ p ∧ p < m 5) (hf : 0 ≤ f ∧ f ≤ 59) (hmk : mk + 2000 < 100000000) :
    ∃ I' R' mk', ev PR (d + 9) 82 [.ref 283, .ref 91, .int (w p), .int (w f), .int x] (((vn, vc, vw, K, L, R), I, J) : HS) = some (.inl none, (((vn, vc, vw, K, L, R'), I', J) : HS)) ∧ CQ K L R' I' m ss ln mk' ∧ (mk ≤ mk' ∧ mk' ≤ mk + 600) ∧ FX I I' ∧ RA R R' ∧ I' 283 5 = setG m x ∧ I' 283 6 = w (m 3) ∧ ∀ h b, 0 ≤ h → h < 8 → setS (setG m x) h = true → 0 ≤ b → b < m 3 → I' 286 (ix (h * 10 + b)) = w (gP m ss ln p f h b) := by
  obtain ⟨g1, g2, g3, g4, g5, g6, g7, g8⟩ := id hQ
  have hX := g1
  have h3 := g5.1
  have h4 := g5.2.1
  have kq := (SHq_e g2).1
  have rb := (SHq_e g2).2.1
  have rh := (SHq_e g2).2.2.1
  have kb := (SHq_e g2).2.2.2.2.2.2.2.1.1
  have kh := (SHq_e g2).2.2.2.2.2.2.2.2.1.1
  have j2 := rN_4 I 91
  rw [g4] at j2
  obtain ⟨I1, hI1⟩ : ∃ I1, I1 = u2 (u2 I 283 5 (setG m x)) 283 6 (w (m 3)) := ⟨_, rfl⟩
  have o1 : ∀ a k, a ≠ 283 → I1 a k = I a k := fun a k z => by rw [hI1, u2_o _ _ _ _ z, u2_o _ _ _ _ z]
  have f1 : FX I I1 := fun a k z _ _ => o1 a k (by omega)
  obtain ⟨ss', ln', gA⟩ := g7
  have A1 : AimOK K L R I1 ss' ln' := AimOK_f gA (fun a k z => o1 a k (by omega))
  have O1 : OddsM I1 mk m := OddsM_f hO (fun a k z => o1 a k (by omega))
  have Q1 : CQ K L R I1 m ss ln mk := CQ_f f1 RA_rf ⟨_, _, A1⟩ O1.1 hQ
  have lp : ∀ (n : Nat) (h mk : Int) (I : Nat → Nat → Int32) (R : Nat → Nat → Nat), 0 ≤ h → h + n = 8 → CQ K L R I m ss ln mk → OddsM I mk m → mk + 72 * n + 200 < 100000000 → I 283 5 = setG m x → I 283 6 = w (m 3) → (∀ h' b, 0 ≤ h' → h' < h → setS (setG m x) h' = true → 0 ≤ b → b < m 3 → I 286 (ix (h' * 10 + b)) = w (gP m ss ln p f h' b)) → ∃ I' R' mk', atv PR (d + 8) cd_82 14 [.ref 283, .ref 91, .int (w p), .int (w f), .int x, .int (w h)] [] (((vn, vc, vw, K, L, R), I, J) : HS) = some (.inl none, (((vn, vc, vw, K, L, R'), I', J) : HS)) ∧ CQ K L R' I' m ss ln mk' ∧ (mk ≤ mk' ∧ mk' ≤ mk + 72 * n) ∧ FX I I' ∧ RA R R' ∧ I' 283 5 = setG m x ∧ I' 283 6 = w (m 3) ∧ ∀ h b, 0 ≤ h → h < 8 → setS (setG m x) h = true → 0 ≤ b → b < m 3 → I' 286 (ix (h * 10 + b)) = w (gP m ss ln p f h b) := by
    intro n
    induction n with
    | zero =>
      intro h mk I R h0 hn hQ hO hm i5 i6 hc
      have eh : h = 8 := by omega
      subst eh
      refine ⟨I, R, mk, ?_, hQ, by omega, FX_rf, RA_rf, i5, i6, hc⟩
      rw [eq_82_14]
      simp (disch := first | assumption | omega | (simp (disch := omega) only [vM_u, vS_u]; first | assumption | omega)) only [hK, hL, hR, hI, hN, sI, hSp, hC, hW, li, lr, ↓cnd_a, ↓cnd_o, ↓cnd_n, ↓cnd_d, ↓z0, ↓z1, ↓z2, y0n, y1i, y2r, y0e, y1e, y2e, wl_0, wl_1, wl_2, wl_3, wl_4, wl_5, wl_6, wl_7, wl_8, wl_9, wl_10, wl_11, wl_12, wl_13, wl_14, wl_15, wl_16, wl_17, wl_18, wl_19, wl_20, wl_21, wl_22, wl_23, wl_24, wl_25, wl_26, wl_27, wl_28, wl_29, wl_30, wl_31, wl_32, wl_33, wl_34, wl_35, wl_36, wl_37, wl_38, wl_39, wl_40, wl_41, wl_42, wl_43, wl_44, wl_45, wl_46, wl_47, wl_48, wl_49, wl_50, wl_51, wl_52, wl_53, wl_54, wl_55, wl_56, wl_57, wl_58, wl_59, wl_60, wl_61, wl_62, wl_63, wl_64, wl_65, wl_66, wl_67, wl_68, wl_69, wl_70, wl_71, wl_72, wl_73, wl_74, wl_75, wl_76, wl_77, wl_78, wl_79, wl_80, wl_81, wl_82, wl_83, wl_84, wl_85, wl_86, wl_87, wl_88, wl_89, wl_90, wl_91, wl_92, wl_93, wl_94, wl_95, wl_96, wl_97, wl_98, wl_99, wl_100, wl_101, wl_102, wl_103, wl_104, wl_105, wl_106, wl_107, wl_108, wl_109, wl_110, wl_111, wl_112, wl_113, wl_114, wl_115, wl_116, wl_117, wl_118, wl_119, wl_120, wl_121, wl_122, wl_123, wl_124, wl_125, wl_126, wl_127, wl_128, wl_129, wl_130, wl_159, wl_160, wl_200, wl_232, wl_255, wl_256, wl_300, wl_359, wl_360, wl_400, wl_592, wl_992, wl_999, wl_1000, wl_1024, wl_3456, wl_6512, wl_7104, wl_10000, wl_11264, wl_12345, wl_32767, wl_1000000000, wl_1103515245, wl_2000000000, w_add, w_sub, w_mul, w_neg, w_lt, w_le, w_eq, w_cl, w_in, w_nat, w_max2, w_min2, w_abs2, iltT, iltF, ileT, ileF, ieqT, ieqF, bv_01, bft, bv_0, bv_1, bv_t, bv_f, cond_true, cond_false, Bool.not_true, Bool.not_false, if_true, if_false, true_or, or_true, true_and, and_true, ↓reduceIte, decide_true, decide_false, reduceCtorEq, u2_s, u2_o, u2_k, u2_u2, Bool.true_or, Bool.or_true, Bool.false_or, Bool.or_false, Bool.and_true, Bool.true_and, Bool.and_false, Bool.false_and, eq_self, not_true_eq_false, not_false_eq_true, and_self, and_true, true_and, false_and, and_false, w_dv, dvm]
    | succ n ih =>
      intro h mk I R h0 hn hQ hO hm i5 i6 hc
      have hX := hQ.1
      have s84 := sp_84 (d := d + 7) (h := h) (vn := vn) (vc := vc) (vw := vw) (J := J) hX i5 (by omega)
      cases c : setS (setG m x) h with
      | false =>
        rw [c] at s84
        obtain ⟨I', R', mk', e1, e2, e3, e4⟩ := ih (h + 1) mk I R (by omega) (by omega) hQ hO (by omega) i5 i6 (fun h' b z1 z2 z3 z4 z5 => hc h' b z1 (by
          by_cases e : h' = h
          · rw [e, c] at z3; exact nomatch z3
          · omega) z3 z4 z5)
        refine ⟨I', R', mk', ?_, e2, by omega, e4⟩
        rw [← e1, eq_82_14]
        simp (disch := first | assumption | omega | (simp (disch := omega) only [vM_u, vS_u]; first | assumption | omega)) only [hK, hL, hR, hI, hN, sI, hSp, hC, hW, li, lr, ↓cnd_a, ↓cnd_o, ↓cnd_n, ↓cnd_d, ↓z0, ↓z1, ↓z2, y0n, y1i, y2r, y0e, y1e, y2e, wl_0, wl_1, wl_2, wl_3, wl_4, wl_5, wl_6, wl_7, wl_8, wl_9, wl_10, wl_11, wl_12, wl_13, wl_14, wl_15, wl_16, wl_17, wl_18, wl_19, wl_20, wl_21, wl_22, wl_23, wl_24, wl_25, wl_26, wl_27, wl_28, wl_29, wl_30, wl_31, wl_32, wl_33, wl_34, wl_35, wl_36, wl_37, wl_38, wl_39, wl_40, wl_41, wl_42, wl_43, wl_44, wl_45, wl_46, wl_47, wl_48, wl_49, wl_50, wl_51, wl_52, wl_53, wl_54, wl_55, wl_56, wl_57, wl_58, wl_59, wl_60, wl_61, wl_62, wl_63, wl_64, wl_65, wl_66, wl_67, wl_68, wl_69, wl_70, wl_71, wl_72, wl_73, wl_74, wl_75, wl_76, wl_77, wl_78, wl_79, wl_80, wl_81, wl_82, wl_83, wl_84, wl_85, wl_86, wl_87, wl_88, wl_89, wl_90, wl_91, wl_92, wl_93, wl_94, wl_95, wl_96, wl_97, wl_98, wl_99, wl_100, wl_101, wl_102, wl_103, wl_104, wl_105, wl_106, wl_107, wl_108, wl_109, wl_110, wl_111, wl_112, wl_113, wl_114, wl_115, wl_116, wl_117, wl_118, wl_119, wl_120, wl_121, wl_122, wl_123, wl_124, wl_125, wl_126, wl_127, wl_128, wl_129, wl_130, wl_159, wl_160, wl_200, wl_232, wl_255, wl_256, wl_300, wl_359, wl_360, wl_400, wl_592, wl_992, wl_999, wl_1000, wl_1024, wl_3456, wl_6512, wl_7104, wl_10000, wl_11264, wl_12345, wl_32767, wl_1000000000, wl_1103515245, wl_2000000000, w_add, w_sub, w_mul, w_neg, w_lt, w_le, w_eq, w_cl, w_in, w_nat, w_max2, w_min2, w_abs2, iltT, iltF, ileT, ileF, ieqT, ieqF, bv_01, bft, bv_0, bv_1, bv_t, bv_f, cond_true, cond_false, Bool.not_true, Bool.not_false, if_true, if_false, true_or, or_true, true_and, and_true, ↓reduceIte, decide_true, decide_false, reduceCtorEq, u2_s, u2_o, u2_k, u2_u2, Bool.true_or, Bool.or_true, Bool.false_or, Bool.or_false, Bool.and_true, Bool.true_and, Bool.and_false, Bool.false_and, eq_self, not_true_eq_false, not_false_eq_true, and_self, and_true, true_and, false_and, and_false, w_dv, dvm, XSH_e hX, s84]
      | true =>
        rw [c] at s84
        have hm4 := setS_b g5 ⟨h0, by omega⟩ c
        obtain ⟨I2, I3, R2, mk2, y1, y2, y3, y4, y5, y6, y7, y8, y9⟩ := xs_sw (d := d) (f := f) (h := h) (vn := vn) (vc := vc) (vw := vw) (J := J) hQ hO hp ⟨h0, hm4⟩ hf (by omega)
        obtain ⟨I4, u1, u2', u3⟩ := sp_83 (d := d + 6) (vn := vn) (vc := vc) (vw := vw) (J := J) y4 y3 ⟨h0, by omega⟩ (by rw [y9 _ _ (by omega)]; exact i6)
        have n4 : ∀ a k, a ≠ 286 → I4 a k = I3 a k := fun a k z => u3 a k (fun q => z q.1)
        have f4 : FX I3 I4 := fun a k z _ _ => n4 a k (by omega)
        obtain ⟨s2, l2, A3⟩ := y4.2.2.2.2.2.2.1
        have A4 : AimOK K L R2 I4 s2 l2 := AimOK_f A3 (fun a k z => n4 a k (by omega))
        have O4 : OddsM I4 mk2 m := OddsM_f y5 (fun a k z => n4 a k (by omega))
        have Q4 : CQ K L R2 I4 m ss ln mk2 := CQ_f f4 RA_rf ⟨_, _, A4⟩ O4.1 y4
        obtain ⟨I', R', mk', e1, e2, e3, e4, e5, e6⟩ := ih (h + 1) mk2 I4 R2 (by omega) (by omega) Q4 O4 (by omega) (by rw [n4 _ _ (by omega), y9 _ _ (by omega)]; exact i5) (by rw [n4 _ _ (by omega), y9 _ _ (by omega)]; exact i6) (fun h' b z1 z2 z3 z4 z5 => by
          by_cases e : h' = h
          · rw [e]; exact u2' b z4 z5
          · rw [u3 _ _ (fun q => by
              obtain ⟨c', q1, q2, q3⟩ := q.2
              unfold ix at q3
              omega), y9 _ _ (by omega)]
            exact hc h' b z1 (by omega) z3 z4 z5)
        refine ⟨I', R', mk', ?_, e2, by omega, FX_tr y7 (FX_tr f4 e4), RA_tr y8 e5, e6⟩
        have hX' := y4.1
        rw [← e1, eq_82_14]
        simp (disch := first | assumption | omega | (simp (disch := omega) only [vM_u, vS_u]; first | assumption | omega)) only [hK, hL, hR, hI, hN, sI, hSp, hC, hW, li, lr, ↓cnd_a, ↓cnd_o, ↓cnd_n, ↓cnd_d, ↓z0, ↓z1, ↓z2, y0n, y1i, y2r, y0e, y1e, y2e, wl_0, wl_1, wl_2, wl_3, wl_4, wl_5, wl_6, wl_7, wl_8, wl_9, wl_10, wl_11, wl_12, wl_13, wl_14, wl_15, wl_16, wl_17, wl_18, wl_19, wl_20, wl_21, wl_22, wl_23, wl_24, wl_25, wl_26, wl_27, wl_28, wl_29, wl_30, wl_31, wl_32, wl_33, wl_34, wl_35, wl_36, wl_37, wl_38, wl_39, wl_40, wl_41, wl_42, wl_43, wl_44, wl_45, wl_46, wl_47, wl_48, wl_49, wl_50, wl_51, wl_52, wl_53, wl_54, wl_55, wl_56, wl_57, wl_58, wl_59, wl_60, wl_61, wl_62, wl_63, wl_64, wl_65, wl_66, wl_67, wl_68, wl_69, wl_70, wl_71, wl_72, wl_73, wl_74, wl_75, wl_76, wl_77, wl_78, wl_79, wl_80, wl_81, wl_82, wl_83, wl_84, wl_85, wl_86, wl_87, wl_88, wl_89, wl_90, wl_91, wl_92, wl_93, wl_94, wl_95, wl_96, wl_97, wl_98, wl_99, wl_100, wl_101, wl_102, wl_103, wl_104, wl_105, wl_106, wl_107, wl_108, wl_109, wl_110, wl_111, wl_112, wl_113, wl_114, wl_115, wl_116, wl_117, wl_118, wl_119, wl_120, wl_121, wl_122, wl_123, wl_124, wl_125, wl_126, wl_127, wl_128, wl_129, wl_130, wl_159, wl_160, wl_200, wl_232, wl_255, wl_256, wl_300, wl_359, wl_360, wl_400, wl_592, wl_992, wl_999, wl_1000, wl_1024, wl_3456, wl_6512, wl_7104, wl_10000, wl_11264, wl_12345, wl_32767, wl_1000000000, wl_1103515245, wl_2000000000, w_add, w_sub, w_mul, w_neg, w_lt, w_le, w_eq, w_cl, w_in, w_nat, w_max2, w_min2, w_abs2, iltT, iltF, ileT, ileF, ieqT, ieqF, bv_01, bft, bv_0, bv_1, bv_t, bv_f, cond_true, cond_false, Bool.not_true, Bool.not_false, if_true, if_false, true_or, or_true, true_and, and_true, ↓reduceIte, decide_true, decide_false, reduceCtorEq, u2_s, u2_o, u2_k, u2_u2, Bool.true_or, Bool.or_true, Bool.false_or, Bool.or_false, Bool.and_true, Bool.true_and, Bool.and_false, Bool.false_and, eq_self, not_true_eq_false, not_false_eq_true, and_self, and_true, true_and, false_and, and_false, w_dv, dvm, XSH_e hX, s84, y1, XSH_e hX', y2, u1]
  obtain ⟨I', R', mk', e1, e2, e3, e4, e5⟩ := lp 8 0 mk I1 R (by omega) (by omega) Q1 O1 (by omega) (by rw [hI1, u2_k _ _ _ _ (by decide), u2_s]) (by rw [hI1, u2_s]) (fun h' b z1 z2 => by omega)
  refine ⟨I', R', mk', ?_, e2, by omega, FX_tr f1 e4, e5⟩
  have s92 := sp_92b (d := d + 7) (q := 91) (I := u2 I 283 5 (setG m x)) (vn := vn) (vc := vc) (vw := vw) (J := J) g2
  rw [vS_u (by omega), g4] at s92
  have eg : x &&& ((w 1 <<< (w (m 4) &&& w 31)) - w 1) = setG m x := rfl
  rw [← e1, hI1, eq_82]
  simp (disch := first | assumption | omega | (simp (disch := omega) only [vM_u, vS_u]; first | assumption | omega)) only [hK, hL, hR, hI, hN, sI, hSp, hC, hW, li, lr, ↓cnd_a, ↓cnd_o, ↓cnd_n, ↓cnd_d, ↓z0, ↓z1, ↓z2, y0n, y1i, y2r, y0e, y1e, y2e, wl_0, wl_1, wl_2, wl_3, wl_4, wl_5, wl_6, wl_7, wl_8, wl_9, wl_10, wl_11, wl_12, wl_13, wl_14, wl_15, wl_16, wl_17, wl_18, wl_19, wl_20, wl_21, wl_22, wl_23, wl_24, wl_25, wl_26, wl_27, wl_28, wl_29, wl_30, wl_31, wl_32, wl_33, wl_34, wl_35, wl_36, wl_37, wl_38, wl_39, wl_40, wl_41, wl_42, wl_43, wl_44, wl_45, wl_46, wl_47, wl_48, wl_49, wl_50, wl_51, wl_52, wl_53, wl_54, wl_55, wl_56, wl_57, wl_58, wl_59, wl_60, wl_61, wl_62, wl_63, wl_64, wl_65, wl_66, wl_67, wl_68, wl_69, wl_70, wl_71, wl_72, wl_73, wl_74, wl_75, wl_76, wl_77, wl_78, wl_79, wl_80, wl_81, wl_82, wl_83, wl_84, wl_85, wl_86, wl_87, wl_88, wl_89, wl_90, wl_91, wl_92, wl_93, wl_94, wl_95, wl_96, wl_97, wl_98, wl_99, wl_100, wl_101, wl_102, wl_103, wl_104, wl_105, wl_106, wl_107, wl_108, wl_109, wl_110, wl_111, wl_112, wl_113, wl_114, wl_115, wl_116, wl_117, wl_118, wl_119, wl_120, wl_121, wl_122, wl_123, wl_124, wl_125, wl_126, wl_127, wl_128, wl_129, wl_130, wl_159, wl_160, wl_200, wl_232, wl_255, wl_256, wl_300, wl_359, wl_360, wl_400, wl_592, wl_992, wl_999, wl_1000, wl_1024, wl_3456, wl_6512, wl_7104, wl_10000, wl_11264, wl_12345, wl_32767, wl_1000000000, wl_1103515245, wl_2000000000, w_add, w_sub, w_mul, w_neg, w_lt, w_le, w_eq, w_cl, w_in, w_nat, w_max2, w_min2, w_abs2, iltT, iltF, ileT, ileF, ieqT, ieqF, bv_01, bft, bv_0, bv_1, bv_t, bv_f, cond_true, cond_false, Bool.not_true, Bool.not_false, if_true, if_false, true_or, or_true, true_and, and_true, ↓reduceIte, decide_true, decide_false, reduceCtorEq, u2_s, u2_o, u2_k, u2_u2, Bool.true_or, Bool.or_true, Bool.false_or, Bool.or_false, Bool.and_true, Bool.true_and, Bool.and_false, Bool.false_and, eq_self, not_true_eq_false, not_false_eq_true, and_self, and_true, true_and, false_and, and_false, w_dv, dvm, XSH_e hX, kq, rb, rh, kb, kh, eq_95, j2, eg, s92]
theorem BsP_0 {m : Int → Int} {ss : List Int} {ln p h f : Int} {bw : Int} {rc : Int32} (hW' : Swp I (BsP m ss ln p h f) bw rc) (j : Int) : 0 ≤ (BsP m ss ln p h f j).1 := (hW'.2.2.2.1 j).1
end GAX
