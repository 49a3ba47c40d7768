/-! the class's fair() -/
section CFR
variable {vn vc vw : Nat} {K L : Nat → Nat} {R : Nat → Nat → Nat} {I : Nat → Nat → Int32} {J : Nat → Nat → Int64}
/-- only laws of stalls change -/
def RQ (R R' : Nat → Nat → Nat) : Prop := ∀ a k, ((91 ≤ a ∧ a < 273) → k ≠ 10) → R' a k = R a k
theorem RQ_rf {R : Nat → Nat → Nat} : RQ R R := fun _ _ _ => rfl
theorem RQ_tr {R R1 R2 : Nat → Nat → Nat} (h : RQ R R1) (g : RQ R1 R2) : RQ R R2 := fun a k x => (g a k x).trans (h a k x)
theorem RQ_u {R : Nat → Nat → Nat} {q v : Nat} (h : 91 ≤ q ∧ q < 273) : RQ R (u2 R q 10 v) := fun a k x => by rw [u2_r, if_neg (by omega)]
theorem XSH_r {R' : Nat → Nat → Nat} (h : RQ R R') (hX : XSH K L R) : XSH K L R' := by
  have h' : ∀ a k, ((91 ≤ a ∧ a < 273) → k ≠ 10) → R' a k = R a k := h
  unfold XSH at hX ⊢
  simp (disch := omega) only [h']
  exact hX
theorem SHq_r {R' : Nat → Nat → Nat} {q : Nat} (h : RQ R R') (hS : SHq K L R q) : SHq K L R' q := by
  have h' : ∀ a k, ((91 ≤ a ∧ a < 273) → k ≠ 10) → R' a k = R a k := h
  unfold SHq at hS ⊢
  simp (disch := omega) only [h']
  exact hS
theorem MSH_r {R' : Nat → Nat → Nat} (h : RQ R R') (hM : MSH K L R) : MSH K L R' := by
  have h' : ∀ a k, ((91 ≤ a ∧ a < 273) → k ≠ 10) → R' a k = R a k := h
  unfold MSH at hM ⊢
  simp (disch := omega) only [h']
  exact hM
theorem SzB_BD {m : Int → Int} (h : BD m) : SzB m := ⟨h.1, h.2.1, h.2.2.1, h.2.2.2.2.2.2.2.1, h.2.2.2.2.2.2.2.2.1⟩
theorem Wd_f' {I I' : Nat → Nat → Int32} {q : Nat} (h : ∀ a, (a = q + 1 ∨ a = q + 3 ∨ a = q + 5 ∨ a = q + 7 ∨ a = q + 9) → I' a 1 = I a 1) (hWd : Wd I q) : Wd I' q := by
  obtain ⟨h1, h2, h3, h4, h5⟩ := hWd
  exact ⟨(h _ (by omega)).trans h1, (h _ (by omega)).trans h2, (h _ (by omega)).trans h3, (h _ (by omega)).trans h4, (h _ (by omega)).trans h5⟩
theorem vS_f' {I I' : Nat → Nat → Int32} {q : Nat} (h : ∀ a k, q ≤ a → a ≤ q + 10 → (a = q → 11 ≤ k ∧ k ≤ 18) → I' a k = I a k) : vS I' q = vS I q :=
  vS_cp ⟨h _ _ (by omega) (by omega) (by omega), h _ _ (by omega) (by omega) (by omega), h _ _ (by omega) (by omega) (by omega), h _ _ (by omega) (by omega) (by omega), h _ _ (by omega) (by omega) (by omega)⟩ (fun k _ => h _ _ (by omega) (by omega) (by omega)) (fun k _ => h _ _ (by omega) (by omega) (by omega)) (fun k _ => h _ _ (by omega) (by omega) (by omega)) (fun k _ => h _ _ (by omega) (by omega) (by omega)) (fun k _ => h _ _ (by omega) (by omega) (by omega)) (fun k _ _ => h _ _ (by omega) (by omega) (by omega))
/-- what fair() leaves alone in the class; b: it went through -/
def FCf (b : Bool) (I I' : Nat → Nat → Int32) : Prop := ∀ a k, ¬(84 ≤ a ∧ a ≤ 86) → (a = 82 → ¬(k = 1 ∨ k = 5 ∨ k = 6)) → (a = 79 → k ≠ 12) → ¬(115 ≤ a ∧ a ≤ 125) → (b = true → (91 ≤ a ∧ a ≤ 101 → (a = 91 ∧ k < 11) ∨ ((a = 92 ∨ a = 94 ∨ a = 96 ∨ a = 98 ∨ a = 100) ∧ k ≠ 2)) ∧ (a = 127 → k ≠ 2)) → I' a k = I a k
theorem sp_160 {d : Nat} {T : Int → Int} {e : Int} (hX : XSH K L R) (hS : SHq K L R 91) (hSd : SHq K L R 115) (hT : Tp I T e) (hA : SWA K L I) (hWd : Wd I 91) (hWe : Wd I 115) (hB : BD (vS I 91)) (h0 : 0 ≤ vS I 91 0 ∧ vS I 91 0 ≤ 12) :
    (∀ f, pFair T e (vS I 91) = .error f → ∃ I' R', ev PR (d + 9) 160 [.ref 79] (((vn, vc, vw, K, L, R), I, J) : HS) = some (.inr 2, (((vn, vc + 1, vw + 6, K, L, R'), I', J) : HS)) ∧ I' 79 12 = w f ∧ I' 82 1 = w 0 ∧ FCf false I I' ∧ Wd I' 115 ∧ RQ R R' ∧ (∀ a, a ≠ 115 → R' a 10 = R a 10)) ∧
    (∀ m, pFair T e (vS I 91) = .ok m → vS I 91 0 = 12 → ∃ I' R', ev PR (d + 9) 160 [.ref 79] (((vn, vc, vw, K, L, R), I, J) : HS) = some (.inr 5, (((vn, vc + 1, vw + 6, K, L, R'), I', J) : HS)) ∧ I' 79 12 = w (-1) ∧ I' 82 1 = w 0 ∧ FCf false I I' ∧ Wd I' 115 ∧ RQ R R' ∧ (∀ a, a ≠ 115 → R' a 10 = R a 10)) ∧
    (∀ m, pFair T e (vS I 91) = .ok m → vS I 91 0 ≠ 12 → ∃ I' R', ev PR (d + 9) 160 [.ref 79] (((vn, vc, vw, K, L, R), I, J) : HS) = some (.inl (some (.int (w (vS I 91 0 + 1)))), (((vn, vc, vw, K, L, R'), I', J) : HS)) ∧ I' 79 12 = w (-1) ∧ I' 82 1 = w 0 ∧ I' 127 2 = w 0 ∧ vS I' 91 = setm m 0 (vS I 91 0 + 1) ∧ BD (vS I' 91) ∧ (∀ z, z ≠ 0 → ¬(3 ≤ z ∧ z ≤ 9) → ¬(20 ≤ z ∧ z < 112) → vS I' 91 z = vS I 91 z) ∧ FCf true I I' ∧ Wd I' 91 ∧ Wd I' 115 ∧ RQ R R' ∧ (∀ a, a ≠ 115 → R' a 10 = R a 10)) := by
  obtain ⟨I1, x1, v1, w1, f1⟩ := sp_104 (d := d + 6) (q0 := 115) (q1 := 91) (vn := vn) (vc := vc) (vw := vw) (J := J) hSd hS hWd (by omega) (SzB_BD hB)
  have f1' : ∀ a k, ¬(115 ≤ a ∧ a ≤ 125) → I1 a k = I a k := fun a k h => f1 a k (by omega)
  obtain ⟨R1, hR1⟩ : ∃ R1, R1 = u2 R 115 10 (R 91 10) := ⟨_, rfl⟩
  have rq : RQ R R1 := by rw [hR1]; exact RQ_u (by omega)
  have r10 : ∀ a, a ≠ 115 → R1 a 10 = R a 10 := fun a h => by rw [hR1, u2_r, if_neg (by omega)]
  have r11 : R1 115 10 = R1 91 10 := by rw [hR1, u2_s, u2_o _ _ _ _ (by decide)]
  rw [← hR1] at x1
  have hX' := XSH_r rq hX
  have hS1 : SHq K L R1 91 := SHq_r rq hS
  have hSd1 : SHq K L R1 115 := SHq_r rq hSd
  have hT1 : Tp I1 T e := Tp_f (fun a k x => f1' a k (by omega)) hT
  have hA1 : SWA K L I1 := SWA_f (fun a k x => f1' a k (by omega)) hA
  have g := sp_19 (d := d + 1) (vn := vn) (vc := vc) (vw := vw) (J := J) hX' hSd1 hT1 hA1 (w1 hWe) (by rw [v1]; exact hB)
  rw [v1] at g
  obtain ⟨n, tb, j, I2, hG, h6, hj, hF, g⟩ := g
  have hT2 : Tp I2 T e := Tp_f (fun a k x => hF a k (by omega) (by omega) (by omega) (by omega) (by omega)) hT1
  have we2 : Wd I2 115 := Wd_f' (fun a h => hF _ _ (by omega) (by omega) (by omega) (by omega) (by omega)) (w1 hWe)
  have f2 : ∀ a k, ¬(84 ≤ a ∧ a ≤ 86) → (a = 82 → k ≠ 5 ∧ k ≠ 6) → ¬(115 ≤ a ∧ a ≤ 125) → I2 a k = I a k := fun a k h1 h2 h3 => by
    rw [hF a k h1 h2 (by omega) (by omega) (by omega), f1' a k h3]
  have k0 : K 91 = 9 := (SHq_e hS).1
  have k1 : K 115 = 9 := (SHq_e hSd).1
  have i11 : I 91 11 = w (vS I 91 0) := rS_11 I 91
  refine ⟨fun f hf => ?_, fun m hm c12 => ?_, fun m hm c12 => ?_⟩
  · rw [hf] at g
    obtain ⟨y, tf⟩ := g
    have s1 := sp_163f (d := d + 6) (vn := vn) (vc := vc) (vw := vw) (J := J) hX' hT2 hG h6 hj
    rw [tf] at s1
    refine ⟨u2 (u2 I2 79 12 (w f)) 82 1 (w 0), R1, ?_, ?_, u2_s _ _ _ _, ?_, ?_, rq, r10⟩
    · rw [eq_160]
      simp (disch := first | assumption | omega | (simp (disch := omega) only [vM_u, vS_u]; first | assumption | omega)) only [hK, hL, hR, hI, hN, sI, hSp, hC, hW, li, lr, ↓cnd_a, ↓cnd_o, ↓cnd_n, ↓cnd_d, ↓z0, ↓z1, ↓z2, y0n, y1i, y2r, y0e, y1e, y2e, wl_0, wl_1, wl_2, wl_3, wl_4, wl_5, wl_6, wl_7, wl_8, wl_9, wl_10, wl_11, wl_12, wl_13, wl_14, wl_15, wl_16, wl_17, wl_18, wl_19, wl_20, wl_21, wl_22, wl_23, wl_24, wl_25, wl_26, wl_27, wl_28, wl_29, wl_30, wl_31, wl_32, wl_33, wl_34, wl_35, wl_36, wl_37, wl_38, wl_39, wl_40, wl_41, wl_42, wl_43, wl_44, wl_45, wl_46, wl_47, wl_48, wl_49, wl_50, wl_51, wl_52, wl_53, wl_54, wl_55, wl_56, wl_57, wl_58, wl_59, wl_60, wl_61, wl_62, wl_63, wl_64, wl_65, wl_66, wl_67, wl_68, wl_69, wl_70, wl_71, wl_72, wl_73, wl_74, wl_75, wl_76, wl_77, wl_78, wl_79, wl_80, wl_81, wl_82, wl_83, wl_84, wl_85, wl_86, wl_87, wl_88, wl_89, wl_90, wl_91, wl_92, wl_93, wl_94, wl_95, wl_96, wl_97, wl_98, wl_99, wl_100, wl_101, wl_102, wl_103, wl_104, wl_105, wl_106, wl_107, wl_108, wl_109, wl_110, wl_111, wl_112, wl_113, wl_114, wl_115, wl_116, wl_117, wl_118, wl_119, wl_120, wl_121, wl_122, wl_123, wl_124, wl_125, wl_126, wl_127, wl_128, wl_129, wl_130, wl_159, wl_160, wl_200, wl_232, wl_255, wl_256, wl_300, wl_359, wl_360, wl_400, wl_592, wl_992, wl_999, wl_1000, wl_1024, wl_3456, wl_6512, wl_7104, wl_10000, wl_11264, wl_12345, wl_32767, wl_1000000000, wl_1103515245, wl_2000000000, w_add, w_sub, w_mul, w_neg, w_lt, w_le, w_eq, w_cl, w_in, w_nat, w_max2, w_min2, w_abs2, iltT, iltF, ileT, ileF, ieqT, ieqF, bv_01, bft, bv_0, bv_1, bv_t, bv_f, cond_true, cond_false, Bool.not_true, Bool.not_false, if_true, if_false, true_or, or_true, true_and, and_true, ↓reduceIte, decide_true, decide_false, reduceCtorEq, u2_s, u2_o, u2_k, u2_u2, Bool.true_or, Bool.or_true, Bool.false_or, Bool.or_false, Bool.and_true, Bool.true_and, Bool.and_false, Bool.false_and, eq_self, not_true_eq_false, not_false_eq_true, and_self, and_true, true_and, false_and, and_false, w_dv, dvm, XSH_e hX, k0, k1, x1, XSH_e hX', y, s1]
    · rw [u2_o _ _ _ _ (by decide), u2_s]
    · intro a k h1 h2 h3 h4 h5
      rw [u2_r, if_neg (by omega), u2_r, if_neg (by omega), f2 a k h1 (by omega) h4]
    · exact Wd_f' (fun a h => by rw [u2_o _ _ _ _ (by omega), u2_o _ _ _ _ (by omega)]) we2
  · rw [hm] at g
    obtain ⟨y, v2, hB2, hm2⟩ := g
    have s1 := sp_163t (d := d + 6) (vn := vn) (vc := vc) (vw := vw) (J := J) hX' hT2.1 hT2.2.1
    have q11 : I2 91 11 = w 12 := by rw [f2 _ _ (by omega) (by omega) (by omega), i11, c12]
    refine ⟨u2 (u2 I2 79 12 (w (-1))) 82 1 (w 0), R1, ?_, ?_, u2_s _ _ _ _, ?_, ?_, rq, r10⟩
    · rw [eq_160]
      simp (disch := first | assumption | omega | (simp (disch := omega) only [vM_u, vS_u]; first | assumption | omega)) only [hK, hL, hR, hI, hN, sI, hSp, hC, hW, li, lr, ↓cnd_a, ↓cnd_o, ↓cnd_n, ↓cnd_d, ↓z0, ↓z1, ↓z2, y0n, y1i, y2r, y0e, y1e, y2e, wl_0, wl_1, wl_2, wl_3, wl_4, wl_5, wl_6, wl_7, wl_8, wl_9, wl_10, wl_11, wl_12, wl_13, wl_14, wl_15, wl_16, wl_17, wl_18, wl_19, wl_20, wl_21, wl_22, wl_23, wl_24, wl_25, wl_26, wl_27, wl_28, wl_29, wl_30, wl_31, wl_32, wl_33, wl_34, wl_35, wl_36, wl_37, wl_38, wl_39, wl_40, wl_41, wl_42, wl_43, wl_44, wl_45, wl_46, wl_47, wl_48, wl_49, wl_50, wl_51, wl_52, wl_53, wl_54, wl_55, wl_56, wl_57, wl_58, wl_59, wl_60, wl_61, wl_62, wl_63, wl_64, wl_65, wl_66, wl_67, wl_68, wl_69, wl_70, wl_71, wl_72, wl_73, wl_74, wl_75, wl_76, wl_77, wl_78, wl_79, wl_80, wl_81, wl_82, wl_83, wl_84, wl_85, wl_86, wl_87, wl_88, wl_89, wl_90, wl_91, wl_92, wl_93, wl_94, wl_95, wl_96, wl_97, wl_98, wl_99, wl_100, wl_101, wl_102, wl_103, wl_104, wl_105, wl_106, wl_107, wl_108, wl_109, wl_110, wl_111, wl_112, wl_113, wl_114, wl_115, wl_116, wl_117, wl_118, wl_119, wl_120, wl_121, wl_122, wl_123, wl_124, wl_125, wl_126, wl_127, wl_128, wl_129, wl_130, wl_159, wl_160, wl_200, wl_232, wl_255, wl_256, wl_300, wl_359, wl_360, wl_400, wl_592, wl_992, wl_999, wl_1000, wl_1024, wl_3456, wl_6512, wl_7104, wl_10000, wl_11264, wl_12345, wl_32767, wl_1000000000, wl_1103515245, wl_2000000000, w_add, w_sub, w_mul, w_neg, w_lt, w_le, w_eq, w_cl, w_in, w_nat, w_max2, w_min2, w_abs2, iltT, iltF, ileT, ileF, ieqT, ieqF, bv_01, bft, bv_0, bv_1, bv_t, bv_f, cond_true, cond_false, Bool.not_true, Bool.not_false, if_true, if_false, true_or, or_true, true_and, and_true, ↓reduceIte, decide_true, decide_false, reduceCtorEq, u2_s, u2_o, u2_k, u2_u2, Bool.true_or, Bool.or_true, Bool.false_or, Bool.or_false, Bool.and_true, Bool.true_and, Bool.and_false, Bool.false_and, eq_self, not_true_eq_false, not_false_eq_true, and_self, and_true, true_and, false_and, and_false, w_dv, dvm, XSH_e hX, k0, k1, x1, XSH_e hX', y, s1, q11]
    · rw [u2_o _ _ _ _ (by decide), u2_s]
    · intro a k h1 h2 h3 h4 h5
      rw [u2_r, if_neg (by omega), u2_r, if_neg (by omega), f2 a k h1 (by omega) h4]
    · exact Wd_f' (fun a h => by rw [u2_o _ _ _ _ (by omega), u2_o _ _ _ _ (by omega)]) we2
  · rw [hm] at g
    obtain ⟨y, v2, hB2, hm2⟩ := g
    have s1 := sp_163t (d := d + 6) (vn := vn) (vc := vc) (vw := vw) (J := J) hX' hT2.1 hT2.2.1
    have q11 : I2 91 11 = w (vS I 91 0) := by rw [f2 _ _ (by omega) (by omega) (by omega), i11]
    obtain ⟨I3, hI3⟩ : ∃ I3, I3 = u2 (u2 I2 79 12 (w (-1))) 82 1 (w 0) := ⟨_, rfl⟩
    have o3 : ∀ a k, (a = 79 → k ≠ 12) → (a = 82 → k ≠ 1) → I3 a k = I2 a k := fun a k x y => by
      rw [hI3, u2_r, if_neg (by omega), u2_r, if_neg (by omega)]
    have v3 : vS I3 115 = m := by rw [vS_f' (fun a k h1 h2 h3 => o3 a k (by omega) (by omega)), v2]
    have we3 : Wd I3 115 := Wd_f' (fun a h => o3 _ _ (by omega) (by omega)) we2
    have wd3 : Wd I3 91 := Wd_f' (fun a h => by rw [o3 _ _ (by omega) (by omega), f2 _ _ (by omega) (by omega) (by omega)]) hWd
    obtain ⟨I4, x4, v4, w4, f4⟩ := sp_104 (d := d + 6) (q0 := 91) (q1 := 115) (I := I3) (vn := vn) (vc := vc) (vw := vw) (J := J) hS1 hSd1 we3 (by omega) (by rw [v3]; exact SzB_BD hB2)
    have e4 : u2 R1 91 10 (R1 115 10) = R1 := by
      funext a k
      rw [u2_r]
      by_cases c : a = 91 ∧ k = 10
      · rw [if_pos c, c.1, c.2, r11]
      · rw [if_neg c]
    rw [e4] at x4
    rw [v3] at v4
    have q4 : I4 91 11 = w (vS I 91 0) := (rS_11 I4 91).trans (by rw [v4, hm2 0 (by omega) (by omega)])
    rw [← hI3] at s1
    have q3 : I3 91 11 = w (vS I 91 0) := by rw [o3 _ _ (by omega) (by omega), q11]
    refine ⟨u2 (u2 I4 91 11 (w (vS I 91 0 + 1))) 127 2 (w 0), R1, ?_, ?_, ?_, u2_s _ _ _ _, ?_, ?_, ?_, ?_, ?_, ?_, rq, r10⟩
    · have s66 : ∀ (A : Nat → Nat → Int32), ev PR (d + 8) 66 [.ref 127] (((vn, vc, vw, K, L, R1), A, J) : HS) = some (.inl none, (((vn, vc, vw, K, L, R1), u2 A 127 2 (w 0), J) : HS)) := fun A => by
        rw [eq_66]
        simp (disch := first | assumption | omega | (simp (disch := omega) only [vM_u, vS_u]; first | assumption | omega)) only [hK, hL, hR, hI, hN, sI, hSp, hC, hW, li, lr, ↓cnd_a, ↓cnd_o, ↓cnd_n, ↓cnd_d, ↓z0, ↓z1, ↓z2, y0n, y1i, y2r, y0e, y1e, y2e, wl_0, wl_1, wl_2, wl_3, wl_4, wl_5, wl_6, wl_7, wl_8, wl_9, wl_10, wl_11, wl_12, wl_13, wl_14, wl_15, wl_16, wl_17, wl_18, wl_19, wl_20, wl_21, wl_22, wl_23, wl_24, wl_25, wl_26, wl_27, wl_28, wl_29, wl_30, wl_31, wl_32, wl_33, wl_34, wl_35, wl_36, wl_37, wl_38, wl_39, wl_40, wl_41, wl_42, wl_43, wl_44, wl_45, wl_46, wl_47, wl_48, wl_49, wl_50, wl_51, wl_52, wl_53, wl_54, wl_55, wl_56, wl_57, wl_58, wl_59, wl_60, wl_61, wl_62, wl_63, wl_64, wl_65, wl_66, wl_67, wl_68, wl_69, wl_70, wl_71, wl_72, wl_73, wl_74, wl_75, wl_76, wl_77, wl_78, wl_79, wl_80, wl_81, wl_82, wl_83, wl_84, wl_85, wl_86, wl_87, wl_88, wl_89, wl_90, wl_91, wl_92, wl_93, wl_94, wl_95, wl_96, wl_97, wl_98, wl_99, wl_100, wl_101, wl_102, wl_103, wl_104, wl_105, wl_106, wl_107, wl_108, wl_109, wl_110, wl_111, wl_112, wl_113, wl_114, wl_115, wl_116, wl_117, wl_118, wl_119, wl_120, wl_121, wl_122, wl_123, wl_124, wl_125, wl_126, wl_127, wl_128, wl_129, wl_130, wl_159, wl_160, wl_200, wl_232, wl_255, wl_256, wl_300, wl_359, wl_360, wl_400, wl_592, wl_992, wl_999, wl_1000, wl_1024, wl_3456, wl_6512, wl_7104, wl_10000, wl_11264, wl_12345, wl_32767, wl_1000000000, wl_1103515245, wl_2000000000, w_add, w_sub, w_mul, w_neg, w_lt, w_le, w_eq, w_cl, w_in, w_nat, w_max2, w_min2, w_abs2, iltT, iltF, ileT, ileF, ieqT, ieqF, bv_01, bft, bv_0, bv_1, bv_t, bv_f, cond_true, cond_false, Bool.not_true, Bool.not_false, if_true, if_false, true_or, or_true, true_and, and_true, ↓reduceIte, decide_true, decide_false, reduceCtorEq, u2_s, u2_o, u2_k, u2_u2, Bool.true_or, Bool.or_true, Bool.false_or, Bool.or_false, Bool.and_true, Bool.true_and, Bool.and_false, Bool.false_and, eq_self, not_true_eq_false, not_false_eq_true, and_self, and_true, true_and, false_and, and_false, w_dv, dvm, XSH_e hX']
      rw [eq_160]
      simp (disch := first | assumption | omega | (simp (disch := omega) only [vM_u, vS_u]; first | assumption | omega)) only [hK, hL, hR, hI, hN, sI, hSp, hC, hW, li, lr, ↓cnd_a, ↓cnd_o, ↓cnd_n, ↓cnd_d, ↓z0, ↓z1, ↓z2, y0n, y1i, y2r, y0e, y1e, y2e, wl_0, wl_1, wl_2, wl_3, wl_4, wl_5, wl_6, wl_7, wl_8, wl_9, wl_10, wl_11, wl_12, wl_13, wl_14, wl_15, wl_16, wl_17, wl_18, wl_19, wl_20, wl_21, wl_22, wl_23, wl_24, wl_25, wl_26, wl_27, wl_28, wl_29, wl_30, wl_31, wl_32, wl_33, wl_34, wl_35, wl_36, wl_37, wl_38, wl_39, wl_40, wl_41, wl_42, wl_43, wl_44, wl_45, wl_46, wl_47, wl_48, wl_49, wl_50, wl_51, wl_52, wl_53, wl_54, wl_55, wl_56, wl_57, wl_58, wl_59, wl_60, wl_61, wl_62, wl_63, wl_64, wl_65, wl_66, wl_67, wl_68, wl_69, wl_70, wl_71, wl_72, wl_73, wl_74, wl_75, wl_76, wl_77, wl_78, wl_79, wl_80, wl_81, wl_82, wl_83, wl_84, wl_85, wl_86, wl_87, wl_88, wl_89, wl_90, wl_91, wl_92, wl_93, wl_94, wl_95, wl_96, wl_97, wl_98, wl_99, wl_100, wl_101, wl_102, wl_103, wl_104, wl_105, wl_106, wl_107, wl_108, wl_109, wl_110, wl_111, wl_112, wl_113, wl_114, wl_115, wl_116, wl_117, wl_118, wl_119, wl_120, wl_121, wl_122, wl_123, wl_124, wl_125, wl_126, wl_127, wl_128, wl_129, wl_130, wl_159, wl_160, wl_200, wl_232, wl_255, wl_256, wl_300, wl_359, wl_360, wl_400, wl_592, wl_992, wl_999, wl_1000, wl_1024, wl_3456, wl_6512, wl_7104, wl_10000, wl_11264, wl_12345, wl_32767, wl_1000000000, wl_1103515245, wl_2000000000, w_add, w_sub, w_mul, w_neg, w_lt, w_le, w_eq, w_cl, w_in, w_nat, w_max2, w_min2, w_abs2, iltT, iltF, ileT, ileF, ieqT, ieqF, bv_01, bft, bv_0, bv_1, bv_t, bv_f, cond_true, cond_false, Bool.not_true, Bool.not_false, if_true, if_false, true_or, or_true, true_and, and_true, ↓reduceIte, decide_true, decide_false, reduceCtorEq, u2_s, u2_o, u2_k, u2_u2, Bool.true_or, Bool.or_true, Bool.false_or, Bool.or_false, Bool.and_true, Bool.true_and, Bool.and_false, Bool.false_and, eq_self, not_true_eq_false, not_false_eq_true, and_self, and_true, true_and, false_and, and_false, w_dv, dvm, XSH_e hX, k0, k1, x1, XSH_e hX', y, s1, q3, x4, q4, s66]
    · rw [u2_o _ _ _ _ (by decide), u2_o _ _ _ _ (by decide), f4 _ _ (by omega), hI3, u2_o _ _ _ _ (by decide), u2_s]
    · rw [u2_o _ _ _ _ (by decide), u2_o _ _ _ _ (by decide), f4 _ _ (by omega), hI3, u2_s]
    · rw [vS_u (by omega), vS_fld (q := 91) (Or.inl ⟨rfl, rfl⟩), v4, w_toInt (by omega)]
    · rw [vS_u (by omega), vS_fld (q := 91) (Or.inl ⟨rfl, rfl⟩), v4]
      obtain ⟨a3, a4, a5, a6, a7, a8, a9, a13, a14, ab, ah, ap⟩ := hB2
      have q : ∀ z : Int, 0 < z → setm m 0 (w (vS I 91 0 + 1)).toInt z = m z := fun z hz => setm_o _ (by omega)
      refine ⟨by rw [q _ (by omega)]; exact a3, by rw [q _ (by omega)]; exact a4, by rw [q _ (by omega)]; exact a5, by rw [q _ (by omega)]; exact a6, by rw [q _ (by omega)]; exact a7, by rw [q _ (by omega)]; exact a8, by rw [q _ (by omega)]; exact a9, by rw [q _ (by omega)]; exact a13, by rw [q _ (by omega)]; exact a14, ?_, ?_, ?_⟩
      · intro b b0 b1
        rw [q _ (by omega)] at b1
        unfold bl
        rw [q _ (by omega), q _ (by omega), q _ (by omega), q _ (by omega), q _ (by omega)]
        exact ab b b0 b1
      · intro b b0 b1
        rw [q _ (by omega)] at b1
        unfold ho
        rw [q _ (by omega), q _ (by omega), q _ (by omega)]
        exact ah b b0 b1
      · intro b b0 b1
        rw [q _ (by omega)] at b1
        unfold pe
        rw [q _ (by omega)]
        exact ap b b0 b1
    · intro z h1 h2 h3
      rw [vS_u (by omega), vS_fld (q := 91) (Or.inl ⟨rfl, rfl⟩), v4, setm_o _ h1]
      exact hm2 z h2 h3
    · intro a k h1 h2 h3 h4 h5
      have h5 := h5 rfl
      rw [u2_r, if_neg (by omega), u2_r, if_neg (by omega), f4 a k (by omega), o3 a k (by omega) (by omega), f2 a k h1 (by omega) h4]
    · exact Wd_f' (fun a h => by rw [u2_o _ _ _ _ (by omega), u2_o _ _ _ _ (by omega)]) (w4 wd3)
    · exact Wd_f' (fun a h => by rw [u2_o _ _ _ _ (by omega), u2_o _ _ _ _ (by omega), f4 _ _ (by omega)]) we3
end CFR
