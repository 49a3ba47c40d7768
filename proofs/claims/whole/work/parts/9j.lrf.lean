/-! the reference's law() -/
section LRF
variable {vn vc vw : Nat} {K L : Nat → Nat} {R : Nat → Nat → Nat} {I : Nat → Nat → Int32} {J : Nat → Nat → Int64}
/-- the reference's tape -/
def TpR (I : Nat → Nat → Int32) (T : Int → Int) (e : Int) : Prop := I 287 8 = w e ∧ (0 ≤ e ∧ e ≤ 400) ∧ (∀ k, 0 ≤ k → k < e → 0 ≤ T k ∧ T k ≤ 255) ∧ ∀ k, 0 ≤ k → k < e → I 292 (ix k) = w (T k)
def begI (I : Nat → Nat → Int32) (e : Int) : Nat → Nat → Int32 := u2 (u2 (u2 I 287 9 (w (-1))) 287 10 (w e)) 287 8 (w 0)
theorem begI_o (I : Nat → Nat → Int32) (e : Int) {a k : Nat} (h : a = 287 → k ≠ 8 ∧ k ≠ 9 ∧ k ≠ 10) : begI I e a k = I a k := by
  unfold begI
  rw [u2_r, if_neg (by omega), u2_r, if_neg (by omega), u2_r, if_neg (by omega)]
theorem sp_245 {d : Nat} {T : Int → Int} {e : Int} (hM : MSH K L R) (hT : TpR I T e) : ev PR (d + 1) 245 [.ref 287] (((vn, vc, vw, K, L, R), I, J) : HS) = some (.inl none, (((vn, vc, vw, K, L, R), ps (begI I e) 0 (-1) 0, J) : HS)) := by
  have t1 := hT.1
  have e1 : u2 (u2 (u2 (u2 (u2 (u2 I 287 12 (w (-1))) 287 9 (w (-1))) 287 10 (w e)) 287 8 (w 0)) 287 11 (w 0)) 287 13 (w 0) = ps (begI I e) 0 (-1) 0 := by
    funext a b
    unfold begI ps
    simp only [u2_r]
    by_cases ha : a = 287
    · by_cases h1 : b = 13
      · simp [ha, h1]
      · by_cases h2 : b = 12
        · simp [ha, h2]
        · by_cases h3 : b = 11
          · simp [ha, h3]
          · simp [ha, h1, h2, h3]
    · simp [ha]
  rw [eq_245]
  simp (disch := first | assumption | omega | (simp (disch := omega) only [vM_u, vS_u]; first | assumption | omega)) only [hK, hL, hR, hI, hN, sI, hSp, hC, hW, li, lr, ↓cnd_a, ↓cnd_o, ↓cnd_n, ↓cnd_d, ↓z0, ↓z1, ↓z2, y0n, y1i, y2r, y0e, y1e, y2e, wl_0, wl_1, wl_2, wl_3, wl_4, wl_5, wl_6, wl_7, wl_8, wl_9, wl_10, wl_11, wl_12, wl_13, wl_14, wl_15, wl_16, wl_17, wl_18, wl_19, wl_20, wl_21, wl_22, wl_23, wl_24, wl_25, wl_26, wl_27, wl_28, wl_29, wl_30, wl_31, wl_32, wl_33, wl_34, wl_35, wl_36, wl_37, wl_38, wl_39, wl_40, wl_41, wl_42, wl_43, wl_44, wl_45, wl_46, wl_47, wl_48, wl_49, wl_50, wl_51, wl_52, wl_53, wl_54, wl_55, wl_56, wl_57, wl_58, wl_59, wl_60, wl_61, wl_62, wl_63, wl_64, wl_65, wl_66, wl_67, wl_68, wl_69, wl_70, wl_71, wl_72, wl_73, wl_74, wl_75, wl_76, wl_77, wl_78, wl_79, wl_80, wl_81, wl_82, wl_83, wl_84, wl_85, wl_86, wl_87, wl_88, wl_89, wl_90, wl_91, wl_92, wl_93, wl_94, wl_95, wl_96, wl_97, wl_98, wl_99, wl_100, wl_101, wl_102, wl_103, wl_104, wl_105, wl_106, wl_107, wl_108, wl_109, wl_110, wl_111, wl_112, wl_113, wl_114, wl_115, wl_116, wl_117, wl_118, wl_119, wl_120, wl_121, wl_122, wl_123, wl_124, wl_125, wl_126, wl_127, wl_128, wl_129, wl_130, wl_159, wl_160, wl_200, wl_232, wl_255, wl_256, wl_300, wl_359, wl_360, wl_400, wl_592, wl_992, wl_999, wl_1000, wl_1024, wl_3456, wl_6512, wl_7104, wl_10000, wl_11264, wl_12345, wl_32767, wl_1000000000, wl_1103515245, wl_2000000000, w_add, w_sub, w_mul, w_neg, w_lt, w_le, w_eq, w_cl, w_in, w_nat, w_max2, w_min2, w_abs2, iltT, iltF, ileT, ileF, ieqT, ieqF, bv_01, bft, bv_0, bv_1, bv_t, bv_f, cond_true, cond_false, Bool.not_true, Bool.not_false, if_true, if_false, true_or, or_true, true_and, and_true, ↓reduceIte, decide_true, decide_false, reduceCtorEq, u2_s, u2_o, u2_k, u2_u2, Bool.true_or, Bool.or_true, Bool.false_or, Bool.or_false, Bool.and_true, Bool.true_and, Bool.and_false, Bool.false_and, eq_self, not_true_eq_false, not_false_eq_true, and_self, and_true, true_and, false_and, and_false, w_dv, dvm, MSH_e hM, t1]
  rw [e1]
theorem TxR_beg {T : Int → Int} {e : Int} (hT : TpR I T e) : TxR (begI I e) T e := by
  obtain ⟨t1, t2, t3, t4⟩ := hT
  refine ⟨?_, t2, t3, Or.inl ⟨?_, fun k a b => ?_⟩⟩
  · unfold begI
    rw [u2_k _ _ _ _ (by decide), u2_s]
  · unfold begI
    rw [u2_k _ _ _ _ (by decide), u2_k _ _ _ _ (by decide), u2_s]
  · rw [begI_o _ _ (by omega)]
    exact t4 k a b
def cpyI (I : Nat → Nat → Int32) (T : Int → Int) (e : Int) : Nat → Nat → Int32 := fun a k => if a = 288 ∧ 592 ≤ k ∧ (k : Int) < 592 + e then w (T ((k : Int) - 592)) else I a k
theorem lp_25533 {d : Nat} {T : Int → Int} {e c : Int} (hM : MSH K L R) (h10 : I 287 10 = w e) (he : 0 ≤ e ∧ e ≤ 400) (ht : ∀ k, 0 ≤ k → k < e → I 292 (ix k) = w (T k)) : ∀ (n : Nat) (k : Int) (I1 : Nat → Nat → Int32), n + k = e → 0 ≤ k → I1 = cpyI I T k → atv PR d cd_257 33 [.ref 287, .int (w c), .int (w k)] [] (((vn, vc, vw, K, L, R), I1, J) : HS) = some (.inl (some (.int (w c))), (((vn, vc, vw, K, L, R), u2 (cpyI I T e) 287 6 (w 0), J) : HS)) := by
  intro n
  induction n with
  | zero =>
    intro k I1 hn hk h1
    have hke : k = e := by omega
    subst hke
    have q1 : I1 287 10 = w k := by rw [h1]; unfold cpyI; rw [if_neg (by omega)]; exact h10
    rw [eq_257_33]
    simp (disch := first | assumption | omega | (simp (disch := omega) only [vM_u, vS_u]; first | assumption | omega)) only [hK, hL, hR, hI, hN, sI, hSp, hC, hW, li, lr, ↓cnd_a, ↓cnd_o, ↓cnd_n, ↓cnd_d, ↓z0, ↓z1, ↓z2, y0n, y1i, y2r, y0e, y1e, y2e, wl_0, wl_1, wl_2, wl_3, wl_4, wl_5, wl_6, wl_7, wl_8, wl_9, wl_10, wl_11, wl_12, wl_13, wl_14, wl_15, wl_16, wl_17, wl_18, wl_19, wl_20, wl_21, wl_22, wl_23, wl_24, wl_25, wl_26, wl_27, wl_28, wl_29, wl_30, wl_31, wl_32, wl_33, wl_34, wl_35, wl_36, wl_37, wl_38, wl_39, wl_40, wl_41, wl_42, wl_43, wl_44, wl_45, wl_46, wl_47, wl_48, wl_49, wl_50, wl_51, wl_52, wl_53, wl_54, wl_55, wl_56, wl_57, wl_58, wl_59, wl_60, wl_61, wl_62, wl_63, wl_64, wl_65, wl_66, wl_67, wl_68, wl_69, wl_70, wl_71, wl_72, wl_73, wl_74, wl_75, wl_76, wl_77, wl_78, wl_79, wl_80, wl_81, wl_82, wl_83, wl_84, wl_85, wl_86, wl_87, wl_88, wl_89, wl_90, wl_91, wl_92, wl_93, wl_94, wl_95, wl_96, wl_97, wl_98, wl_99, wl_100, wl_101, wl_102, wl_103, wl_104, wl_105, wl_106, wl_107, wl_108, wl_109, wl_110, wl_111, wl_112, wl_113, wl_114, wl_115, wl_116, wl_117, wl_118, wl_119, wl_120, wl_121, wl_122, wl_123, wl_124, wl_125, wl_126, wl_127, wl_128, wl_129, wl_130, wl_159, wl_160, wl_200, wl_232, wl_255, wl_256, wl_300, wl_359, wl_360, wl_400, wl_592, wl_992, wl_999, wl_1000, wl_1024, wl_3456, wl_6512, wl_7104, wl_10000, wl_11264, wl_12345, wl_32767, wl_1000000000, wl_1103515245, wl_2000000000, w_add, w_sub, w_mul, w_neg, w_lt, w_le, w_eq, w_cl, w_in, w_nat, w_max2, w_min2, w_abs2, iltT, iltF, ileT, ileF, ieqT, ieqF, bv_01, bft, bv_0, bv_1, bv_t, bv_f, cond_true, cond_false, Bool.not_true, Bool.not_false, if_true, if_false, true_or, or_true, true_and, and_true, ↓reduceIte, decide_true, decide_false, reduceCtorEq, u2_s, u2_o, u2_k, u2_u2, Bool.true_or, Bool.or_true, Bool.false_or, Bool.or_false, Bool.and_true, Bool.true_and, Bool.and_false, Bool.false_and, eq_self, not_true_eq_false, not_false_eq_true, and_self, and_true, true_and, false_and, and_false, w_dv, dvm, MSH_e hM, q1]
    rw [h1]
  | succ n ih =>
    intro k I1 hn hk h1
    have q1 : I1 287 10 = w e := by rw [h1]; unfold cpyI; rw [if_neg (by omega)]; exact h10
    have q2 : I1 292 (ix k) = w (T k) := by rw [h1]; unfold cpyI; rw [if_neg (by omega)]; exact ht k hk (by omega)
    have q3 := ih (k + 1) (u2 I1 288 (ix (592 + k)) (w (T k))) (by omega) (by omega) (by
      rw [h1]
      funext a b
      unfold cpyI
      rw [u2_r]
      by_cases c1 : a = 288 ∧ b = ix (592 + k)
      · have c2 : (b : Int) = 592 + k := by have := c1.2; unfold ix at this; omega
        rw [if_pos c1, if_pos (by omega), show (b : Int) - 592 = k by omega]
      · have c2 : a = 288 → (b : Int) ≠ 592 + k := fun x y => c1 ⟨x, by unfold ix; omega⟩
        rw [if_neg c1]
        by_cases c3 : a = 288 ∧ 592 ≤ b ∧ (b : Int) < 592 + k
        · rw [if_pos c3, if_pos (by omega)]
        · rw [if_neg c3, if_neg (by omega)])
    rw [eq_257_33]
    simp (disch := first | assumption | omega | (simp (disch := omega) only [vM_u, vS_u]; first | assumption | omega)) only [hK, hL, hR, hI, hN, sI, hSp, hC, hW, li, lr, ↓cnd_a, ↓cnd_o, ↓cnd_n, ↓cnd_d, ↓z0, ↓z1, ↓z2, y0n, y1i, y2r, y0e, y1e, y2e, wl_0, wl_1, wl_2, wl_3, wl_4, wl_5, wl_6, wl_7, wl_8, wl_9, wl_10, wl_11, wl_12, wl_13, wl_14, wl_15, wl_16, wl_17, wl_18, wl_19, wl_20, wl_21, wl_22, wl_23, wl_24, wl_25, wl_26, wl_27, wl_28, wl_29, wl_30, wl_31, wl_32, wl_33, wl_34, wl_35, wl_36, wl_37, wl_38, wl_39, wl_40, wl_41, wl_42, wl_43, wl_44, wl_45, wl_46, wl_47, wl_48, wl_49, wl_50, wl_51, wl_52, wl_53, wl_54, wl_55, wl_56, wl_57, wl_58, wl_59, wl_60, wl_61, wl_62, wl_63, wl_64, wl_65, wl_66, wl_67, wl_68, wl_69, wl_70, wl_71, wl_72, wl_73, wl_74, wl_75, wl_76, wl_77, wl_78, wl_79, wl_80, wl_81, wl_82, wl_83, wl_84, wl_85, wl_86, wl_87, wl_88, wl_89, wl_90, wl_91, wl_92, wl_93, wl_94, wl_95, wl_96, wl_97, wl_98, wl_99, wl_100, wl_101, wl_102, wl_103, wl_104, wl_105, wl_106, wl_107, wl_108, wl_109, wl_110, wl_111, wl_112, wl_113, wl_114, wl_115, wl_116, wl_117, wl_118, wl_119, wl_120, wl_121, wl_122, wl_123, wl_124, wl_125, wl_126, wl_127, wl_128, wl_129, wl_130, wl_159, wl_160, wl_200, wl_232, wl_255, wl_256, wl_300, wl_359, wl_360, wl_400, wl_592, wl_992, wl_999, wl_1000, wl_1024, wl_3456, wl_6512, wl_7104, wl_10000, wl_11264, wl_12345, wl_32767, wl_1000000000, wl_1103515245, wl_2000000000, w_add, w_sub, w_mul, w_neg, w_lt, w_le, w_eq, w_cl, w_in, w_nat, w_max2, w_min2, w_abs2, iltT, iltF, ileT, ileF, ieqT, ieqF, bv_01, bft, bv_0, bv_1, bv_t, bv_f, cond_true, cond_false, Bool.not_true, Bool.not_false, if_true, if_false, true_or, or_true, true_and, and_true, ↓reduceIte, decide_true, decide_false, reduceCtorEq, u2_s, u2_o, u2_k, u2_u2, Bool.true_or, Bool.or_true, Bool.false_or, Bool.or_false, Bool.and_true, Bool.true_and, Bool.and_false, Bool.false_and, eq_self, not_true_eq_false, not_false_eq_true, and_self, and_true, true_and, false_and, and_false, w_dv, dvm, MSH_e hM, q1, q2, q3]
/-- what law() leaves alone in the reference -/
def FRl (I I' : Nat → Nat → Int32) : Prop := ∀ a k, a ≠ 294 → (a = 288 → ¬(k = 1 ∨ k = 2 ∨ 592 ≤ k)) → (a = 287 → ¬(k = 0 ∨ k = 6 ∨ (8 ≤ k ∧ k ≤ 13))) → I' a k = I a k
theorem sp_257 {d : Nat} {T : Int → Int} {e : Int} (hM : MSH K L R) (hA : SWA K L I) (hT : TpR I T e) (hw : I 287 15 = w 0 ∨ I 287 15 = w 1) :
    (∀ f, pLaw T e = .error f → ∃ I', ev PR (d + 33) 257 [.ref 287] (((vn, vc, vw, K, L, R), I, J) : HS) = some (.inl (some (.int (w 0))), (((vn, vc, vw, K, L, R), I', J) : HS)) ∧ I' 287 0 = w 1 ∧ I' 287 12 = w f ∧ (0 ≤ f ∧ f ≤ 400) ∧ I' 287 8 = w 0 ∧ I' 287 6 = I 287 6 ∧ FRl I I' ∧ ∀ k, I' 288 k = I 288 k) ∧
    (∀ r, pLaw T e = .ok r → ∃ I', ev PR (d + 33) 257 [.ref 287] (((vn, vc, vw, K, L, R), I, J) : HS) = some (.inl (some (.int (w r.1))), (((vn, vc, vw, K, L, R), I', J) : HS)) ∧ I' 287 0 = w 0 ∧ I' 287 12 = w (-1) ∧ I' 287 8 = w 0 ∧ I' 287 6 = w 0 ∧ FRl I I' ∧ RLaw I' r.2 r.1) := by
  obtain ⟨Ib, hIb⟩ : ∃ Ib, Ib = begI I e := ⟨_, rfl⟩
  have ob : ∀ a k, (a = 287 → k ≠ 8 ∧ k ≠ 9 ∧ k ≠ 10) → Ib a k = I a k := fun a k x => by rw [hIb, begI_o _ _ x]
  have b8 : Ib 287 8 = w 0 := by rw [hIb]; exact u2_s _ _ _ _
  have b10 : Ib 287 10 = w e := by
    rw [hIb]
    unfold begI
    rw [u2_k _ _ _ _ (by decide), u2_s]
  have hTb : TxR Ib T e := by rw [hIb]; exact TxR_beg hT
  have hAb : SWA K L Ib := SWA_f (fun a k x => ob a k (by omega)) hA
  have hF : FctR Ib (fun k => if k = 7 then I 287 15 else I 293 (ix k)) := by
    refine ⟨fun k a b => ?_, ?_, ?_⟩
    · dsimp only
      rw [if_neg (by omega), ob _ _ (by omega)]
    · dsimp only
      rw [if_pos rfl, ob _ _ (by omega)]
    · dsimp only
      rw [if_pos rfl]
      exact hw
  have hS : SaR Ib (fun k => (I 294 (ix k)).toInt) := fun k a b => by
    rw [ob _ _ (by omega)]
    exact (Int32.ofInt_toInt _).symm
  have s1 := sp_245 (d := d + 31) (vn := vn) (vc := vc) (vw := vw) (J := J) hM hT
  rw [← hIb] at s1
  have g := sp_246 (d := d + 1) (vn := vn) (vc := vc) (vw := vw) (J := J) hM hTb hAb hF hS
  have t2 := hT.2.1
  constructor
  · intro f hf
    rw [hf] at g
    obtain ⟨v, I1, a, b, k1, k2, k3⟩ := g
    refine ⟨u2 (ps I1 a f b) 287 0 (w 1), ?_, u2_s _ _ _ _, ?_, k3, ?_, ?_, ?_, ?_⟩
    · rw [eq_257]
      simp (disch := first | assumption | omega | (simp (disch := omega) only [vM_u, vS_u]; first | assumption | omega)) only [hK, hL, hR, hI, hN, sI, hSp, hC, hW, li, lr, ↓cnd_a, ↓cnd_o, ↓cnd_n, ↓cnd_d, ↓z0, ↓z1, ↓z2, y0n, y1i, y2r, y0e, y1e, y2e, wl_0, wl_1, wl_2, wl_3, wl_4, wl_5, wl_6, wl_7, wl_8, wl_9, wl_10, wl_11, wl_12, wl_13, wl_14, wl_15, wl_16, wl_17, wl_18, wl_19, wl_20, wl_21, wl_22, wl_23, wl_24, wl_25, wl_26, wl_27, wl_28, wl_29, wl_30, wl_31, wl_32, wl_33, wl_34, wl_35, wl_36, wl_37, wl_38, wl_39, wl_40, wl_41, wl_42, wl_43, wl_44, wl_45, wl_46, wl_47, wl_48, wl_49, wl_50, wl_51, wl_52, wl_53, wl_54, wl_55, wl_56, wl_57, wl_58, wl_59, wl_60, wl_61, wl_62, wl_63, wl_64, wl_65, wl_66, wl_67, wl_68, wl_69, wl_70, wl_71, wl_72, wl_73, wl_74, wl_75, wl_76, wl_77, wl_78, wl_79, wl_80, wl_81, wl_82, wl_83, wl_84, wl_85, wl_86, wl_87, wl_88, wl_89, wl_90, wl_91, wl_92, wl_93, wl_94, wl_95, wl_96, wl_97, wl_98, wl_99, wl_100, wl_101, wl_102, wl_103, wl_104, wl_105, wl_106, wl_107, wl_108, wl_109, wl_110, wl_111, wl_112, wl_113, wl_114, wl_115, wl_116, wl_117, wl_118, wl_119, wl_120, wl_121, wl_122, wl_123, wl_124, wl_125, wl_126, wl_127, wl_128, wl_129, wl_130, wl_159, wl_160, wl_200, wl_232, wl_255, wl_256, wl_300, wl_359, wl_360, wl_400, wl_592, wl_992, wl_999, wl_1000, wl_1024, wl_3456, wl_6512, wl_7104, wl_10000, wl_11264, wl_12345, wl_32767, wl_1000000000, wl_1103515245, wl_2000000000, w_add, w_sub, w_mul, w_neg, w_lt, w_le, w_eq, w_cl, w_in, w_nat, w_max2, w_min2, w_abs2, iltT, iltF, ileT, ileF, ieqT, ieqF, bv_01, bft, bv_0, bv_1, bv_t, bv_f, cond_true, cond_false, Bool.not_true, Bool.not_false, if_true, if_false, true_or, or_true, true_and, and_true, ↓reduceIte, decide_true, decide_false, reduceCtorEq, u2_s, u2_o, u2_k, u2_u2, Bool.true_or, Bool.or_true, Bool.false_or, Bool.or_false, Bool.and_true, Bool.true_and, Bool.and_false, Bool.false_and, eq_self, not_true_eq_false, not_false_eq_true, and_self, and_true, true_and, false_and, and_false, w_dv, dvm, MSH_e hM, s1, k1, ps_12]
      rw [eq_257_14]
      simp (disch := first | assumption | omega | (simp (disch := omega) only [vM_u, vS_u]; first | assumption | omega)) only [hK, hL, hR, hI, hN, sI, hSp, hC, hW, li, lr, ↓cnd_a, ↓cnd_o, ↓cnd_n, ↓cnd_d, ↓z0, ↓z1, ↓z2, y0n, y1i, y2r, y0e, y1e, y2e, wl_0, wl_1, wl_2, wl_3, wl_4, wl_5, wl_6, wl_7, wl_8, wl_9, wl_10, wl_11, wl_12, wl_13, wl_14, wl_15, wl_16, wl_17, wl_18, wl_19, wl_20, wl_21, wl_22, wl_23, wl_24, wl_25, wl_26, wl_27, wl_28, wl_29, wl_30, wl_31, wl_32, wl_33, wl_34, wl_35, wl_36, wl_37, wl_38, wl_39, wl_40, wl_41, wl_42, wl_43, wl_44, wl_45, wl_46, wl_47, wl_48, wl_49, wl_50, wl_51, wl_52, wl_53, wl_54, wl_55, wl_56, wl_57, wl_58, wl_59, wl_60, wl_61, wl_62, wl_63, wl_64, wl_65, wl_66, wl_67, wl_68, wl_69, wl_70, wl_71, wl_72, wl_73, wl_74, wl_75, wl_76, wl_77, wl_78, wl_79, wl_80, wl_81, wl_82, wl_83, wl_84, wl_85, wl_86, wl_87, wl_88, wl_89, wl_90, wl_91, wl_92, wl_93, wl_94, wl_95, wl_96, wl_97, wl_98, wl_99, wl_100, wl_101, wl_102, wl_103, wl_104, wl_105, wl_106, wl_107, wl_108, wl_109, wl_110, wl_111, wl_112, wl_113, wl_114, wl_115, wl_116, wl_117, wl_118, wl_119, wl_120, wl_121, wl_122, wl_123, wl_124, wl_125, wl_126, wl_127, wl_128, wl_129, wl_130, wl_159, wl_160, wl_200, wl_232, wl_255, wl_256, wl_300, wl_359, wl_360, wl_400, wl_592, wl_992, wl_999, wl_1000, wl_1024, wl_3456, wl_6512, wl_7104, wl_10000, wl_11264, wl_12345, wl_32767, wl_1000000000, wl_1103515245, wl_2000000000, w_add, w_sub, w_mul, w_neg, w_lt, w_le, w_eq, w_cl, w_in, w_nat, w_max2, w_min2, w_abs2, iltT, iltF, ileT, ileF, ieqT, ieqF, bv_01, bft, bv_0, bv_1, bv_t, bv_f, cond_true, cond_false, Bool.not_true, Bool.not_false, if_true, if_false, true_or, or_true, true_and, and_true, ↓reduceIte, decide_true, decide_false, reduceCtorEq, u2_s, u2_o, u2_k, u2_u2, Bool.true_or, Bool.or_true, Bool.false_or, Bool.or_false, Bool.and_true, Bool.true_and, Bool.and_false, Bool.false_and, eq_self, not_true_eq_false, not_false_eq_true, and_self, and_true, true_and, false_and, and_false, w_dv, dvm, MSH_e hM]
    · rw [u2_k _ _ _ _ (by decide), ps_12]
    · rw [u2_k _ _ _ _ (by decide), ps_o _ _ _ _ (by decide), k2 _ _ (by decide)]
      exact b8
    · rw [u2_k _ _ _ _ (by decide), ps_o _ _ _ _ (by decide), k2 _ _ (by decide)]
      exact ob _ _ (by decide)
    · intro x y h1 h2 h3
      rw [u2_r, if_neg (by omega), ps_o _ _ _ _ (by omega), k2 _ _ h1]
      exact ob _ _ (by omega)
    · intro k
      rw [u2_o _ _ _ _ (by decide), ps_o _ _ _ _ (by omega), k2 _ _ (by decide)]
      exact ob _ _ (by omega)
  · intro r hr
    rw [hr] at g
    obtain ⟨I1, a, k1, k2, k3, k4⟩ := g
    have hx := pLaw_x hr
    obtain ⟨I2, hI2⟩ : ∃ I2, I2 = u2 (u2 (u2 (ps I1 a (-1) 0) 287 0 (w 0)) 288 (ix 1) (w r.1)) 288 (ix 2) (w e) := ⟨_, rfl⟩
    have o2 : ∀ x y, x ≠ 294 → (x = 288 → ¬(y = 1 ∨ y = 2)) → (x = 287 → ¬(y = 0 ∨ (8 ≤ y ∧ y ≤ 13))) → I2 x y = I x y := by
      intro x y h1 h2 h3
      have n1 : ix 1 = 1 := rfl
      have n2 : ix 2 = 2 := rfl
      rw [hI2, n1, n2, u2_r, if_neg (by omega), u2_r, if_neg (by omega), u2_r, if_neg (by omega), ps_o _ _ _ _ (by omega), k2 _ _ h1]
      exact ob _ _ (by omega)
    have q10 : I2 287 10 = w e := by
      rw [hI2, u2_o _ _ _ _ (by decide), u2_o _ _ _ _ (by decide), u2_k _ _ _ _ (by decide), ps_o _ _ _ _ (by decide), k2 _ _ (by decide)]
      exact b10
    have cp := lp_25533 (d := d + 32) (c := r.1) (vn := vn) (vc := vc) (vw := vw) (J := J) hM q10 t2 (T := T) (fun k a b => by rw [o2 _ _ (by decide) (by omega) (by omega)]; exact hT.2.2.2 k a b) e.toNat 0 I2 (by omega) (by omega) (by
      funext x y
      unfold cpyI
      rw [if_neg (by omega)])
    refine ⟨u2 (cpyI I2 T e) 287 6 (w 0), ?_, ?_, ?_, ?_, u2_s _ _ _ _, ?_, ?_⟩
    · rw [eq_257]
      have i10 : ps I1 a (-1) 0 287 10 = w e := by rw [ps_o _ _ _ _ (by decide), k2 _ _ (by decide)]; exact b10
      simp (disch := first | assumption | omega | (simp (disch := omega) only [vM_u, vS_u]; first | assumption | omega)) only [hK, hL, hR, hI, hN, sI, hSp, hC, hW, li, lr, ↓cnd_a, ↓cnd_o, ↓cnd_n, ↓cnd_d, ↓z0, ↓z1, ↓z2, y0n, y1i, y2r, y0e, y1e, y2e, wl_0, wl_1, wl_2, wl_3, wl_4, wl_5, wl_6, wl_7, wl_8, wl_9, wl_10, wl_11, wl_12, wl_13, wl_14, wl_15, wl_16, wl_17, wl_18, wl_19, wl_20, wl_21, wl_22, wl_23, wl_24, wl_25, wl_26, wl_27, wl_28, wl_29, wl_30, wl_31, wl_32, wl_33, wl_34, wl_35, wl_36, wl_37, wl_38, wl_39, wl_40, wl_41, wl_42, wl_43, wl_44, wl_45, wl_46, wl_47, wl_48, wl_49, wl_50, wl_51, wl_52, wl_53, wl_54, wl_55, wl_56, wl_57, wl_58, wl_59, wl_60, wl_61, wl_62, wl_63, wl_64, wl_65, wl_66, wl_67, wl_68, wl_69, wl_70, wl_71, wl_72, wl_73, wl_74, wl_75, wl_76, wl_77, wl_78, wl_79, wl_80, wl_81, wl_82, wl_83, wl_84, wl_85, wl_86, wl_87, wl_88, wl_89, wl_90, wl_91, wl_92, wl_93, wl_94, wl_95, wl_96, wl_97, wl_98, wl_99, wl_100, wl_101, wl_102, wl_103, wl_104, wl_105, wl_106, wl_107, wl_108, wl_109, wl_110, wl_111, wl_112, wl_113, wl_114, wl_115, wl_116, wl_117, wl_118, wl_119, wl_120, wl_121, wl_122, wl_123, wl_124, wl_125, wl_126, wl_127, wl_128, wl_129, wl_130, wl_159, wl_160, wl_200, wl_232, wl_255, wl_256, wl_300, wl_359, wl_360, wl_400, wl_592, wl_992, wl_999, wl_1000, wl_1024, wl_3456, wl_6512, wl_7104, wl_10000, wl_11264, wl_12345, wl_32767, wl_1000000000, wl_1103515245, wl_2000000000, w_add, w_sub, w_mul, w_neg, w_lt, w_le, w_eq, w_cl, w_in, w_nat, w_max2, w_min2, w_abs2, iltT, iltF, ileT, ileF, ieqT, ieqF, bv_01, bft, bv_0, bv_1, bv_t, bv_f, cond_true, cond_false, Bool.not_true, Bool.not_false, if_true, if_false, true_or, or_true, true_and, and_true, ↓reduceIte, decide_true, decide_false, reduceCtorEq, u2_s, u2_o, u2_k, u2_u2, Bool.true_or, Bool.or_true, Bool.false_or, Bool.or_false, Bool.and_true, Bool.true_and, Bool.and_false, Bool.false_and, eq_self, not_true_eq_false, not_false_eq_true, and_self, and_true, true_and, false_and, and_false, w_dv, dvm, MSH_e hM, s1, k1, ps_12]
      rw [eq_257_14]
      simp (disch := first | assumption | omega | (simp (disch := omega) only [vM_u, vS_u]; first | assumption | omega)) only [hK, hL, hR, hI, hN, sI, hSp, hC, hW, li, lr, ↓cnd_a, ↓cnd_o, ↓cnd_n, ↓cnd_d, ↓z0, ↓z1, ↓z2, y0n, y1i, y2r, y0e, y1e, y2e, wl_0, wl_1, wl_2, wl_3, wl_4, wl_5, wl_6, wl_7, wl_8, wl_9, wl_10, wl_11, wl_12, wl_13, wl_14, wl_15, wl_16, wl_17, wl_18, wl_19, wl_20, wl_21, wl_22, wl_23, wl_24, wl_25, wl_26, wl_27, wl_28, wl_29, wl_30, wl_31, wl_32, wl_33, wl_34, wl_35, wl_36, wl_37, wl_38, wl_39, wl_40, wl_41, wl_42, wl_43, wl_44, wl_45, wl_46, wl_47, wl_48, wl_49, wl_50, wl_51, wl_52, wl_53, wl_54, wl_55, wl_56, wl_57, wl_58, wl_59, wl_60, wl_61, wl_62, wl_63, wl_64, wl_65, wl_66, wl_67, wl_68, wl_69, wl_70, wl_71, wl_72, wl_73, wl_74, wl_75, wl_76, wl_77, wl_78, wl_79, wl_80, wl_81, wl_82, wl_83, wl_84, wl_85, wl_86, wl_87, wl_88, wl_89, wl_90, wl_91, wl_92, wl_93, wl_94, wl_95, wl_96, wl_97, wl_98, wl_99, wl_100, wl_101, wl_102, wl_103, wl_104, wl_105, wl_106, wl_107, wl_108, wl_109, wl_110, wl_111, wl_112, wl_113, wl_114, wl_115, wl_116, wl_117, wl_118, wl_119, wl_120, wl_121, wl_122, wl_123, wl_124, wl_125, wl_126, wl_127, wl_128, wl_129, wl_130, wl_159, wl_160, wl_200, wl_232, wl_255, wl_256, wl_300, wl_359, wl_360, wl_400, wl_592, wl_992, wl_999, wl_1000, wl_1024, wl_3456, wl_6512, wl_7104, wl_10000, wl_11264, wl_12345, wl_32767, wl_1000000000, wl_1103515245, wl_2000000000, w_add, w_sub, w_mul, w_neg, w_lt, w_le, w_eq, w_cl, w_in, w_nat, w_max2, w_min2, w_abs2, iltT, iltF, ileT, ileF, ieqT, ieqF, bv_01, bft, bv_0, bv_1, bv_t, bv_f, cond_true, cond_false, Bool.not_true, Bool.not_false, if_true, if_false, true_or, or_true, true_and, and_true, ↓reduceIte, decide_true, decide_false, reduceCtorEq, u2_s, u2_o, u2_k, u2_u2, Bool.true_or, Bool.or_true, Bool.false_or, Bool.or_false, Bool.and_true, Bool.true_and, Bool.and_false, Bool.false_and, eq_self, not_true_eq_false, not_false_eq_true, and_self, and_true, true_and, false_and, and_false, w_dv, dvm, MSH_e hM, i10]
      rw [← hI2]
      exact cp
    · rw [u2_k _ _ _ _ (by decide)]
      unfold cpyI
      rw [if_neg (by omega), hI2, u2_o _ _ _ _ (by decide), u2_o _ _ _ _ (by decide), u2_s]
    · rw [u2_k _ _ _ _ (by decide)]
      unfold cpyI
      rw [if_neg (by omega), hI2, u2_o _ _ _ _ (by decide), u2_o _ _ _ _ (by decide), u2_k _ _ _ _ (by decide), ps_12]
    · rw [u2_k _ _ _ _ (by decide)]
      unfold cpyI
      rw [if_neg (by omega), hI2, u2_o _ _ _ _ (by decide), u2_o _ _ _ _ (by decide), u2_k _ _ _ _ (by decide), ps_o _ _ _ _ (by decide), k2 _ _ (by decide)]
      exact b8
    · intro x y h1 h2 h3
      rw [u2_r, if_neg (by omega)]
      unfold cpyI
      rw [if_neg (by omega)]
      exact o2 x y h1 (by omega) (by omega)
    · refine ⟨T, e, ?_, ?_, t2, by omega, hT.2.2.1, ?_, ?_, fun _ => hr⟩
      · rw [u2_o _ _ _ _ (by decide)]
        unfold cpyI
        rw [if_neg (by omega), hI2, u2_r, if_neg (by decide), u2_r, if_pos (by decide)]
      · rw [u2_o _ _ _ _ (by decide)]
        unfold cpyI
        rw [if_neg (by omega), hI2, u2_r, if_pos (by decide)]
      · intro k h1 h2
        have n1 : (ix (592 + k) : Int) = 592 + k := by unfold ix; omega
        rw [u2_o _ _ _ _ (by decide)]
        unfold cpyI
        rw [if_pos (by omega), n1, show 592 + k - 592 = k by omega]
      · intro h
        exact hx.2.2.2 (by omega)
end LRF
