/-! THE CLASS: push and knock -/
theorem w_wrap (z : Int) : w (4294967296 + z) = w z := by
  rw [← w_add, show w 4294967296 = (0 : Int32) from rfl, Int32.zero_add]
theorem sg_a {z : Int} (h : -2147483648 ≤ z ∧ z < 2147483648) : w z >>> (w 31 &&& w 31) = w (if z < 0 then -1 else 0) := by
  refine Int32.toInt_inj.mp ?_
  rw [pk_shr _ _ 31 (by decide), w_toInt h, Int.shiftRight_eq_div_pow]
  split
  · rw [w_toInt (by omega)]; omega
  · rw [w_toInt (by omega)]; omega
theorem sg_u {n : Nat} (h : n < 4294967296) : ((nI n).toUInt32 >>> ((w 31).toUInt32 &&& Int32.toUInt32 (w 31))).toInt32 = w (n / 2147483648 : Nat) := by
  rw [show (w 31).toUInt32 &&& Int32.toUInt32 (w 31) = (w 31).toUInt32 &&& Int32.toUInt32 31 from rfl, pk_ushrN (by omega) (w 31) 31 (by decide), show ∀ n : Nat, nI n = w n from fun n => w_nat n]
theorem sp_336 {d : Nat} {σ : HS} {z : Int} (h : -100000000 ≤ z ∧ z ≤ 100000000) : ev PR (d + 1) 336 [.int (w z)] σ = some (.inl (some (.int (w (sgn z)))), σ) := by
  have hn : w (-z) = nI (if z ≤ 0 then (-z).toNat else (4294967296 - z).toNat) := by
    rw [show ∀ n : Nat, nI n = w n from fun n => w_nat n]
    split
    · congr 1; omega
    · rw [← w_wrap]; congr 1; omega
  have e : eq_336 d (w z) σ = eq_336 d (w z) σ := rfl
  rw [eq_336]
  simp (disch := first | assumption | omega | (simp (disch := omega) only [vM_u, vS_u]; first | assumption | omega)) only [hK, hL, hR, hI, hN, sI, hSp, hC, hW, li, lr, ↓cnd_a, ↓cnd_o, ↓cnd_n, ↓cnd_d, ↓z0, ↓z1, ↓z2, y0n, y1i, y2r, y0e, y1e, y2e, wl_0, wl_1, wl_2, wl_3, wl_4, wl_5, wl_6, wl_7, wl_8, wl_9, wl_10, wl_11, wl_12, wl_13, wl_14, wl_15, wl_16, wl_17, wl_18, wl_19, wl_20, wl_21, wl_22, wl_23, wl_24, wl_25, wl_26, wl_27, wl_28, wl_29, wl_30, wl_31, wl_32, wl_33, wl_34, wl_35, wl_36, wl_37, wl_38, wl_39, wl_40, wl_41, wl_42, wl_43, wl_44, wl_45, wl_46, wl_47, wl_48, wl_49, wl_50, wl_51, wl_52, wl_53, wl_54, wl_55, wl_56, wl_57, wl_58, wl_59, wl_60, wl_61, wl_62, wl_63, wl_64, wl_65, wl_66, wl_67, wl_68, wl_69, wl_70, wl_71, wl_72, wl_73, wl_74, wl_75, wl_76, wl_77, wl_78, wl_79, wl_80, wl_81, wl_82, wl_83, wl_84, wl_85, wl_86, wl_87, wl_88, wl_89, wl_90, wl_91, wl_92, wl_93, wl_94, wl_95, wl_96, wl_97, wl_98, wl_99, wl_100, wl_101, wl_102, wl_103, wl_104, wl_105, wl_106, wl_107, wl_108, wl_109, wl_110, wl_111, wl_112, wl_113, wl_114, wl_115, wl_116, wl_117, wl_118, wl_119, wl_120, wl_121, wl_122, wl_123, wl_124, wl_125, wl_126, wl_127, wl_128, wl_129, wl_130, wl_159, wl_160, wl_200, wl_232, wl_255, wl_256, wl_300, wl_359, wl_360, wl_400, wl_592, wl_992, wl_999, wl_1000, wl_1024, wl_3456, wl_6512, wl_7104, wl_10000, wl_11264, wl_12345, wl_32767, wl_1000000000, wl_1103515245, wl_2000000000, w_add, w_sub, w_mul, w_neg, w_lt, w_le, w_eq, w_cl, w_in, w_nat, w_max2, w_min2, w_abs2, iltT, iltF, ileT, ileF, ieqT, ieqF, bv_01, bft, bv_0, bv_1, bv_t, bv_f, cond_true, cond_false, Bool.not_true, Bool.not_false, if_true, if_false, true_or, or_true, true_and, and_true, ↓reduceIte, decide_true, decide_false, reduceCtorEq, u2_s, u2_o, u2_k, u2_u2, Bool.true_or, Bool.or_true, Bool.false_or, Bool.or_false, Bool.and_true, Bool.true_and, Bool.and_false, Bool.false_and, eq_self, not_true_eq_false, not_false_eq_true, and_self, and_true, true_and, false_and, and_false, w_dv, dvm, sg_a]
  rw [hn, sg_u (by split <;> omega)]
  unfold sgn
  by_cases c : z < 0
  · rw [if_pos c, if_pos c, if_pos (by omega), show ((-z).toNat / 2147483648 : Nat) = 0 by omega]; rfl
  · rw [if_neg c, if_neg c]
    by_cases c2 : 0 < z
    · rw [if_pos c2, if_neg (by omega), show ((4294967296 - z).toNat / 2147483648 : Nat) = 1 by omega]; rfl
    · rw [if_neg c2, if_pos (by omega), show ((-z).toNat / 2147483648 : Nat) = 0 by omega]; rfl
theorem HC_F2 {q : Nat} {I I' : Nat → Nat → Int32} {m : Int → Int} {h b x y p : Int} (hC : HC I q m h b x y p) (hF : F2 (q + 7) (q + 8) I I') : HC I' q m h b x y p := HC_f hC (fun a k h1 _ => hF a k (by omega) (by omega))
theorem HC_m {q : Nat} {I : Nat → Nat → Int32} {m m' : Int → Int} {h b x y p : Int} (g : geq m m') (hB : BD m) (hh : 0 ≤ h ∧ h < m 4) (hC : HC I q m h b x y p) : HC I q m' h b x y p := by
  have h3 := hB.1
  have h4 := hB.2.1
  have e : hls (P113 m' (alX m h b) (alY m h b) x y p) 0 (m 3).toNat = hls (P113 m (alX m h b) (alY m h b) x y p) 0 (m 3).toNat := by
    have key : ∀ (n : Nat) (k : Int), 0 ≤ k → k + n ≤ m 3 → hls (P113 m' (alX m h b) (alY m h b) x y p) k n = hls (P113 m (alX m h b) (alY m h b) x y p) k n := by
      intro n
      induction n with
      | zero => intro k _ _; rfl
      | succ n ih =>
        intro k hk he
        unfold hls
        rw [ih (k + 1) (by omega) (by omega)]
        have : P113 m' (alX m h b) (alY m h b) x y p k = P113 m (alX m h b) (alY m h b) x y p k := by
          unfold P113
          rw [bl_c g (by omega) (by omega), bl_c g (by omega) (by omega), bl_c g (by omega) (by omega), g 7 (by omega)]
        rw [this]
    exact key _ 0 (by omega) (by omega)
  unfold HC at *
  rw [(al_c g (by omega)).1, (al_c g (by omega)).2, g 3 (by omega), e]
  exact hC
section THR2
variable {vn vc vw : Nat} {K L : Nat → Nat} {R : Nat → Nat → Nat} {I : Nat → Nat → Int32} {J : Nat → Nat → Int64}
theorem sp_123 {d q : Nat} {m : Int → Int} {k dx dy st : Int} (hS : SHq K L R q) (hWd : Wd I q) (hv : vS I q = m) (hB : BD m) (hk : 0 ≤ k ∧ k < m 13) (hl : (0 ≤ ly m k 0 ∧ ly m k 0 < m 4) ∧ (-8000 ≤ ly m k 1 ∧ ly m k 1 ≤ 8000) ∧ -8000 ≤ ly m k 2 ∧ ly m k 2 ≤ 8000) (hd : (-1 ≤ dx ∧ dx ≤ 1) ∧ -1 ≤ dy ∧ dy ≤ 1) (hs : 0 ≤ st ∧ st ≤ 1000) :
    ∃ I', ev PR (d + 4) 123 [.ref q, .int (w k), .int (w dx), .int (w dy), .int (w st)] (((vn, vc, vw, K, L, R), I, J) : HS) = some (.inl (some (.int (w (pshV m k dx dy st)))), (((vn, vc, vw, K, L, R), I', J) : HS)) ∧ vS I' q = pshM m k dx dy st ∧ Wd I' q ∧ Fst q I I' := by
  subst hv
  have hhp := hl.1
  obtain ⟨h3, h4, h5, h6, h7, h8, h9, h13, h14, hbk, -, hpp⟩ := id hB
  obtain ⟨I1, e1, C1, F1⟩ := sp_113 (d := d) (J := J) (vn := vn) (vc := vc) (vw := vw) (h := ly (vS I q) k 0) (b := st) (x := ly (vS I q) k 1 + dx) (y := ly (vS I q) k 2 + dy) (p := 0) hS hWd hB hhp hs (by omega)
  have v1 := Fq_vS F1
  have w1 := Fq_Wd F1 hWd
  have s117 := sp_117 (d := d + 1) (J := J) (vn := vn) (vc := vc) (vw := vw) (x := ly (vS I q) k 1 + dx) (y := ly (vS I q) k 2 + dy) hS w1 v1 hB hhp hs (Int.le_refl 0) (by omega) ⟨by omega, by omega⟩ C1
  have hr := ovF_w hB (ly (vS I q) k 0) (ly (vS I q) k 1 + dx) (ly (vS I q) k 2 + dy) st
  have hr2 := ovF_r h3.1 (ly (vS I q) k 0) (ly (vS I q) k 1 + dx) (ly (vS I q) k 2 + dy) st
  unfold pshM pshV
  dsimp only
  by_cases c : ovF (vS I q) (ly (vS I q) k 0) (ly (vS I q) k 1 + dx) (ly (vS I q) k 2 + dy) st = -1
  · rw [if_pos c]
    obtain ⟨I2, e2, v2, w2, f2⟩ := pv_l (J := J) (vn := vn) (vc := vc) (vw := vw) (b := k) (j := 1) (v := ly (vS I q) k 1 + dx) hS w1 v1 (by omega)
    have q2 := setm_o (vS I q) (z := 112 + 4 * k + 1) (v := ly (vS I q) k 1 + dx) (y := 13) (by omega)
    obtain ⟨I3, e3, v3, w3, f3⟩ := pv_l (J := J) (vn := vn) (vc := vc) (vw := vw) (b := k) (j := 2) (v := ly (vS I q) k 2 + dy) hS w2 v2 (by rw [q2]; omega)
    have q3 := (setm_o (setm (vS I q) (112 + 4 * k + 1) (ly (vS I q) k 1 + dx)) (z := 112 + 4 * k + 2) (v := ly (vS I q) k 2 + dy) (y := 13) (by omega)).trans q2
    have g3 : geq (vS I q) (setm (setm (vS I q) (112 + 4 * k + 1) (ly (vS I q) k 1 + dx)) (112 + 4 * k + 2) (ly (vS I q) k 2 + dy)) := geq_tr (geq_setm (by omega)) (geq_setm (by omega))
    have B3 : BD (setm (setm (vS I q) (112 + 4 * k + 1) (ly (vS I q) k 1 + dx)) (112 + 4 * k + 2) (ly (vS I q) k 2 + dy)) := BD_c g3 hB (by rw [q3]; exact h13) (by rw [setm_o _ (by omega), setm_o _ (by omega)]; exact h14) (fun p p1 p2 => by
      have : pe (setm (setm (vS I q) (112 + 4 * k + 1) (ly (vS I q) k 1 + dx)) (112 + 4 * k + 2) (ly (vS I q) k 2 + dy)) p 0 = pe (vS I q) p 0 := by unfold pe; rw [setm_o _ (by omega), setm_o _ (by omega)]
      rw [this]; exact hpp p p1 p2)
    have C3 := HC_m g3 hB hhp (HC_F2 (HC_F2 C1 f2) f3)
    have hh3 : 0 ≤ ly (vS I q) k 0 ∧ ly (vS I q) k 0 < setm (setm (vS I q) (112 + 4 * k + 1) (ly (vS I q) k 1 + dx)) (112 + 4 * k + 2) (ly (vS I q) k 2 + dy) 4 := by rw [g3 4 (by omega)]; exact hhp
    have s118 := sp_118 (d := d + 1) (J := J) (vn := vn) (vc := vc) (vw := vw) (x := ly (vS I q) k 1 + dx) (y := ly (vS I q) k 2 + dy) (e := false) hS w3 v3 B3 hh3 hs (Int.le_refl 0) (by omega) ⟨by omega, by rw [g3 7 (by omega)]; omega⟩ C3
    rw [tsF_c g3 hB hhp, bv_f] at s118
    obtain ⟨I4, e4, v4, w4, f4⟩ := pv_l (J := J) (vn := vn) (vc := vc) (vw := vw) (b := k) (j := 3) (v := cond (tsF (vS I q) (ly (vS I q) k 0) (ly (vS I q) k 1 + dx) (ly (vS I q) k 2 + dy) st false) 1 0) hS w3 v3 (by rw [q3]; cases tsF (vS I q) (ly (vS I q) k 0) (ly (vS I q) k 1 + dx) (ly (vS I q) k 2 + dy) st false <;> simp only [cond_true, cond_false] <;> omega)
    refine ⟨I4, ?_, v4, w4, Fst_tr (Fq_st F1) (Fst_tr (F2_st f2 (by omega)) (Fst_tr (F2_st f3 (by omega)) (F2_st f4 (by omega))))⟩
    rw [c] at s117
    rw [eq_123, show (if vS I q 9 = 1 then ovF (vS I q) (ly (vS I q) k 0) (ly (vS I q) k 1 + dx) (ly (vS I q) k 2 + dy) st else -1) = -1 by rw [c]; split <;> rfl]
    cases ct : tsF (vS I q) (ly (vS I q) k 0) (ly (vS I q) k 1 + dx) (ly (vS I q) k 2 + dy) st false with
    | false =>
      rw [ct] at e4 s118
      simp only [cond_false] at e4
      simp (disch := first | assumption | omega | (simp (disch := omega) only [vM_u, vS_u]; first | assumption | omega)) only [hK, hL, hR, hI, hN, sI, hSp, hC, hW, li, lr, ↓cnd_a, ↓cnd_o, ↓cnd_n, ↓cnd_d, ↓z0, ↓z1, ↓z2, y0n, y1i, y2r, y0e, y1e, y2e, wl_0, wl_1, wl_2, wl_3, wl_4, wl_5, wl_6, wl_7, wl_8, wl_9, wl_10, wl_11, wl_12, wl_13, wl_14, wl_15, wl_16, wl_17, wl_18, wl_19, wl_20, wl_21, wl_22, wl_23, wl_24, wl_25, wl_26, wl_27, wl_28, wl_29, wl_30, wl_31, wl_32, wl_33, wl_34, wl_35, wl_36, wl_37, wl_38, wl_39, wl_40, wl_41, wl_42, wl_43, wl_44, wl_45, wl_46, wl_47, wl_48, wl_49, wl_50, wl_51, wl_52, wl_53, wl_54, wl_55, wl_56, wl_57, wl_58, wl_59, wl_60, wl_61, wl_62, wl_63, wl_64, wl_65, wl_66, wl_67, wl_68, wl_69, wl_70, wl_71, wl_72, wl_73, wl_74, wl_75, wl_76, wl_77, wl_78, wl_79, wl_80, wl_81, wl_82, wl_83, wl_84, wl_85, wl_86, wl_87, wl_88, wl_89, wl_90, wl_91, wl_92, wl_93, wl_94, wl_95, wl_96, wl_97, wl_98, wl_99, wl_100, wl_101, wl_102, wl_103, wl_104, wl_105, wl_106, wl_107, wl_108, wl_109, wl_110, wl_111, wl_112, wl_113, wl_114, wl_115, wl_116, wl_117, wl_118, wl_119, wl_120, wl_121, wl_122, wl_123, wl_124, wl_125, wl_126, wl_127, wl_128, wl_129, wl_130, wl_159, wl_160, wl_200, wl_232, wl_255, wl_256, wl_300, wl_359, wl_360, wl_400, wl_592, wl_992, wl_999, wl_1000, wl_1024, wl_3456, wl_6512, wl_7104, wl_10000, wl_11264, wl_12345, wl_32767, wl_1000000000, wl_1103515245, wl_2000000000, w_add, w_sub, w_mul, w_neg, w_lt, w_le, w_eq, w_cl, w_in, w_nat, w_max2, w_min2, w_abs2, iltT, iltF, ileT, ileF, ieqT, ieqF, bv_01, bft, bv_0, bv_1, bv_t, bv_f, cond_true, cond_false, Bool.not_true, Bool.not_false, if_true, if_false, true_or, or_true, true_and, and_true, ↓reduceIte, decide_true, decide_false, reduceCtorEq, u2_s, u2_o, u2_k, u2_u2, Bool.true_or, Bool.or_true, Bool.false_or, Bool.or_false, Bool.and_true, Bool.true_and, Bool.and_false, Bool.false_and, eq_self, not_true_eq_false, not_false_eq_true, and_self, and_true, true_and, false_and, and_false, w_dv, dvm, SHq_e hS, sp_96l, e1, s117, e2, e3, s118, e4]
    | true =>
      rw [ct] at e4 s118
      simp only [cond_true] at e4
      simp (disch := first | assumption | omega | (simp (disch := omega) only [vM_u, vS_u]; first | assumption | omega)) only [hK, hL, hR, hI, hN, sI, hSp, hC, hW, li, lr, ↓cnd_a, ↓cnd_o, ↓cnd_n, ↓cnd_d, ↓z0, ↓z1, ↓z2, y0n, y1i, y2r, y0e, y1e, y2e, wl_0, wl_1, wl_2, wl_3, wl_4, wl_5, wl_6, wl_7, wl_8, wl_9, wl_10, wl_11, wl_12, wl_13, wl_14, wl_15, wl_16, wl_17, wl_18, wl_19, wl_20, wl_21, wl_22, wl_23, wl_24, wl_25, wl_26, wl_27, wl_28, wl_29, wl_30, wl_31, wl_32, wl_33, wl_34, wl_35, wl_36, wl_37, wl_38, wl_39, wl_40, wl_41, wl_42, wl_43, wl_44, wl_45, wl_46, wl_47, wl_48, wl_49, wl_50, wl_51, wl_52, wl_53, wl_54, wl_55, wl_56, wl_57, wl_58, wl_59, wl_60, wl_61, wl_62, wl_63, wl_64, wl_65, wl_66, wl_67, wl_68, wl_69, wl_70, wl_71, wl_72, wl_73, wl_74, wl_75, wl_76, wl_77, wl_78, wl_79, wl_80, wl_81, wl_82, wl_83, wl_84, wl_85, wl_86, wl_87, wl_88, wl_89, wl_90, wl_91, wl_92, wl_93, wl_94, wl_95, wl_96, wl_97, wl_98, wl_99, wl_100, wl_101, wl_102, wl_103, wl_104, wl_105, wl_106, wl_107, wl_108, wl_109, wl_110, wl_111, wl_112, wl_113, wl_114, wl_115, wl_116, wl_117, wl_118, wl_119, wl_120, wl_121, wl_122, wl_123, wl_124, wl_125, wl_126, wl_127, wl_128, wl_129, wl_130, wl_159, wl_160, wl_200, wl_232, wl_255, wl_256, wl_300, wl_359, wl_360, wl_400, wl_592, wl_992, wl_999, wl_1000, wl_1024, wl_3456, wl_6512, wl_7104, wl_10000, wl_11264, wl_12345, wl_32767, wl_1000000000, wl_1103515245, wl_2000000000, w_add, w_sub, w_mul, w_neg, w_lt, w_le, w_eq, w_cl, w_in, w_nat, w_max2, w_min2, w_abs2, iltT, iltF, ileT, ileF, ieqT, ieqF, bv_01, bft, bv_0, bv_1, bv_t, bv_f, cond_true, cond_false, Bool.not_true, Bool.not_false, if_true, if_false, true_or, or_true, true_and, and_true, ↓reduceIte, decide_true, decide_false, reduceCtorEq, u2_s, u2_o, u2_k, u2_u2, Bool.true_or, Bool.or_true, Bool.false_or, Bool.or_false, Bool.and_true, Bool.true_and, Bool.and_false, Bool.false_and, eq_self, not_true_eq_false, not_false_eq_true, and_self, and_true, true_and, false_and, and_false, w_dv, dvm, SHq_e hS, sp_96l, e1, s117, e2, e3, s118, e4]
  · rw [if_neg c]
    have hw : 0 ≤ ovF (vS I q) (ly (vS I q) k 0) (ly (vS I q) k 1 + dx) (ly (vS I q) k 2 + dy) st ∧ ovF (vS I q) (ly (vS I q) k 0) (ly (vS I q) k 1 + dx) (ly (vS I q) k 2 + dy) st < vS I q 3 := by omega
    obtain ⟨I2, e2, v2, w2, f2⟩ := sp_100l (d := d + 1) (J := J) (vn := vn) (vc := vc) (vw := vw) (k := k) hS w1 (by rw [v1]; omega)
    rw [v1] at v2
    have g2 : geq (vS I q) (takeL (vS I q) k) := geq_take
    have r15 : I2 q 15 = w (vS I q 9) := by rw [rS_15 I2 q, v2, g2 9 (by omega)]
    have r17 : I2 q 17 = w (vS I q 11) := by
      rw [rS_17 I2 q, v2]
      unfold takeL
      rw [if_neg (by omega), if_neg (by omega)]
    by_cases c9 : vS I q 9 = 1
    · rw [if_pos c9, if_pos c9]
      have s96 := sp_96b (d := d + 2) (J := J) (vn := vn) (vc := vc) (vw := vw) (b := ovF (vS I q) (ly (vS I q) k 0) (ly (vS I q) k 1 + dx) (ly (vS I q) k 2 + dy) st) (j := 3) hS w2 (by rw [v2, g2 3 (by omega)]; omega)
      rw [v2, bl_c g2 (by omega) (by omega)] at s96
      refine ⟨u2 I2 q 17 (w (vS I q 11 + bl (vS I q) (ovF (vS I q) (ly (vS I q) k 0) (ly (vS I q) k 1 + dx) (ly (vS I q) k 2 + dy) st) 3)), ?_, ?_, Wd_fld w2, Fst_tr (Fq_st F1) (Fst_tr (F2_st f2 (by omega)) (Fst_u (by omega)))⟩
      · rw [c9] at r15
        rw [eq_123]
        simp (disch := first | assumption | omega | (simp (disch := omega) only [vM_u, vS_u]; first | assumption | omega)) only [hK, hL, hR, hI, hN, sI, hSp, hC, hW, li, lr, ↓cnd_a, ↓cnd_o, ↓cnd_n, ↓cnd_d, ↓z0, ↓z1, ↓z2, y0n, y1i, y2r, y0e, y1e, y2e, wl_0, wl_1, wl_2, wl_3, wl_4, wl_5, wl_6, wl_7, wl_8, wl_9, wl_10, wl_11, wl_12, wl_13, wl_14, wl_15, wl_16, wl_17, wl_18, wl_19, wl_20, wl_21, wl_22, wl_23, wl_24, wl_25, wl_26, wl_27, wl_28, wl_29, wl_30, wl_31, wl_32, wl_33, wl_34, wl_35, wl_36, wl_37, wl_38, wl_39, wl_40, wl_41, wl_42, wl_43, wl_44, wl_45, wl_46, wl_47, wl_48, wl_49, wl_50, wl_51, wl_52, wl_53, wl_54, wl_55, wl_56, wl_57, wl_58, wl_59, wl_60, wl_61, wl_62, wl_63, wl_64, wl_65, wl_66, wl_67, wl_68, wl_69, wl_70, wl_71, wl_72, wl_73, wl_74, wl_75, wl_76, wl_77, wl_78, wl_79, wl_80, wl_81, wl_82, wl_83, wl_84, wl_85, wl_86, wl_87, wl_88, wl_89, wl_90, wl_91, wl_92, wl_93, wl_94, wl_95, wl_96, wl_97, wl_98, wl_99, wl_100, wl_101, wl_102, wl_103, wl_104, wl_105, wl_106, wl_107, wl_108, wl_109, wl_110, wl_111, wl_112, wl_113, wl_114, wl_115, wl_116, wl_117, wl_118, wl_119, wl_120, wl_121, wl_122, wl_123, wl_124, wl_125, wl_126, wl_127, wl_128, wl_129, wl_130, wl_159, wl_160, wl_200, wl_232, wl_255, wl_256, wl_300, wl_359, wl_360, wl_400, wl_592, wl_992, wl_999, wl_1000, wl_1024, wl_3456, wl_6512, wl_7104, wl_10000, wl_11264, wl_12345, wl_32767, wl_1000000000, wl_1103515245, wl_2000000000, w_add, w_sub, w_mul, w_neg, w_lt, w_le, w_eq, w_cl, w_in, w_nat, w_max2, w_min2, w_abs2, iltT, iltF, ileT, ileF, ieqT, ieqF, bv_01, bft, bv_0, bv_1, bv_t, bv_f, cond_true, cond_false, Bool.not_true, Bool.not_false, if_true, if_false, true_or, or_true, true_and, and_true, ↓reduceIte, decide_true, decide_false, reduceCtorEq, u2_s, u2_o, u2_k, u2_u2, Bool.true_or, Bool.or_true, Bool.false_or, Bool.or_false, Bool.and_true, Bool.true_and, Bool.and_false, Bool.false_and, eq_self, not_true_eq_false, not_false_eq_true, and_self, and_true, true_and, false_and, and_false, w_dv, dvm, SHq_e hS, sp_96l, e1, s117, e2, r15, r17, s96]
      · rw [vS_fld (z := 11) (by omega), v2]
    · rw [if_neg c9, if_neg c9]
      refine ⟨I2, ?_, v2, w2, Fst_tr (Fq_st F1) (F2_st f2 (by omega))⟩
      have c90 : vS I q 9 = 0 := by omega
      rw [c90] at r15
      rw [eq_123]
      simp (disch := first | assumption | omega | (simp (disch := omega) only [vM_u, vS_u]; first | assumption | omega)) only [hK, hL, hR, hI, hN, sI, hSp, hC, hW, li, lr, ↓cnd_a, ↓cnd_o, ↓cnd_n, ↓cnd_d, ↓z0, ↓z1, ↓z2, y0n, y1i, y2r, y0e, y1e, y2e, wl_0, wl_1, wl_2, wl_3, wl_4, wl_5, wl_6, wl_7, wl_8, wl_9, wl_10, wl_11, wl_12, wl_13, wl_14, wl_15, wl_16, wl_17, wl_18, wl_19, wl_20, wl_21, wl_22, wl_23, wl_24, wl_25, wl_26, wl_27, wl_28, wl_29, wl_30, wl_31, wl_32, wl_33, wl_34, wl_35, wl_36, wl_37, wl_38, wl_39, wl_40, wl_41, wl_42, wl_43, wl_44, wl_45, wl_46, wl_47, wl_48, wl_49, wl_50, wl_51, wl_52, wl_53, wl_54, wl_55, wl_56, wl_57, wl_58, wl_59, wl_60, wl_61, wl_62, wl_63, wl_64, wl_65, wl_66, wl_67, wl_68, wl_69, wl_70, wl_71, wl_72, wl_73, wl_74, wl_75, wl_76, wl_77, wl_78, wl_79, wl_80, wl_81, wl_82, wl_83, wl_84, wl_85, wl_86, wl_87, wl_88, wl_89, wl_90, wl_91, wl_92, wl_93, wl_94, wl_95, wl_96, wl_97, wl_98, wl_99, wl_100, wl_101, wl_102, wl_103, wl_104, wl_105, wl_106, wl_107, wl_108, wl_109, wl_110, wl_111, wl_112, wl_113, wl_114, wl_115, wl_116, wl_117, wl_118, wl_119, wl_120, wl_121, wl_122, wl_123, wl_124, wl_125, wl_126, wl_127, wl_128, wl_129, wl_130, wl_159, wl_160, wl_200, wl_232, wl_255, wl_256, wl_300, wl_359, wl_360, wl_400, wl_592, wl_992, wl_999, wl_1000, wl_1024, wl_3456, wl_6512, wl_7104, wl_10000, wl_11264, wl_12345, wl_32767, wl_1000000000, wl_1103515245, wl_2000000000, w_add, w_sub, w_mul, w_neg, w_lt, w_le, w_eq, w_cl, w_in, w_nat, w_max2, w_min2, w_abs2, iltT, iltF, ileT, ileF, ieqT, ieqF, bv_01, bft, bv_0, bv_1, bv_t, bv_f, cond_true, cond_false, Bool.not_true, Bool.not_false, if_true, if_false, true_or, or_true, true_and, and_true, ↓reduceIte, decide_true, decide_false, reduceCtorEq, u2_s, u2_o, u2_k, u2_u2, Bool.true_or, Bool.or_true, Bool.false_or, Bool.or_false, Bool.and_true, Bool.true_and, Bool.and_false, Bool.false_and, eq_self, not_true_eq_false, not_false_eq_true, and_self, and_true, true_and, false_and, and_false, w_dv, dvm, SHq_e hS, sp_96l, e1, s117, e2, r15]
end THR2
