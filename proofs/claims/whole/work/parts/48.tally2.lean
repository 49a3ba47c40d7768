/-! THE CLASS: a tally whole -/
theorem OddsI_f {I I' : Nat → Nat → Int32} {mk : Int} (h : OddsI I mk) (hF : ∀ a k, (a = 278 ∨ (a = 277 ∧ k = 1)) → I' a k = I a k) : OddsI I' mk :=
  ⟨(hF _ _ (by omega)).trans h.1, h.2.1, fun c hc => by rw [hF _ _ (by omega)]; exact h.2.2 c hc⟩
theorem OddsC_f {I I' : Nat → Nat → Int32} {mk : Int} {m : Int → Int} {h b : Int} (hC : OddsC I mk m h b) (hF : ∀ k, I' 278 k = I 278 k) : OddsC I' mk m h b := fun x y h1 h2 h3 => by rw [hF] at h3 ⊢; exact hC x y h1 h2 h3
theorem OddsM_f {I I' : Nat → Nat → Int32} {mk : Int} {m : Int → Int} (h : OddsM I mk m) (hF : ∀ a k, (a = 278 ∨ (a = 277 ∧ k ≤ 3)) → I' a k = I a k) : OddsM I' mk m := by
  refine ⟨OddsI_f h.1 (fun a k z => hF a k (by omega)), ?_⟩
  rw [hF 277 2 (by omega), hF 277 3 (by omega)]
  exact OddsC_f h.2 (fun k => hF _ _ (by omega))
/-- a new mark: nothing is kept -/
theorem OddsI_n {I I' : Nat → Nat → Int32} {mk : Int} (h : OddsI I mk) (hk : mk < 100000000) (h1 : I' 277 1 = w (mk + 1)) (hF : ∀ k, I' 278 k = I 278 k) (m : Int → Int) (x b : Int) : OddsI I' (mk + 1) ∧ OddsC I' (mk + 1) m x b := by
  have h2 := h.2.1
  refine ⟨⟨h1, by omega, fun c hc => by rw [hF]; have := h.2.2 c hc; omega⟩, fun x y g1 g2 g3 => ?_⟩
  rw [hF] at g3
  have := h.2.2 (ix (cel x y)) (by unfold ix cel; omega)
  omega
section TALLY2
variable {vn vc vw : Nat} {K L : Nat → Nat} {R : Nat → Nat → Nat} {I : Nat → Nat → Int32} {J : Nat → Nat → Int64}
theorem sp_50 {d : Nat} {mk : Int} (hX : XSH K L R) (h : I 277 1 = w mk) : ev PR (d + 1) 50 [.ref 277] (((vn, vc, vw, K, L, R), I, J) : HS) = some (.inl none, (((vn, vc, vw, K, L, R), u2 I 277 1 (w (mk + 1)), J) : HS)) := by
  rw [eq_50]
  simp (disch := first | assumption | omega | (simp (disch := omega) only [vM_u, vS_u]; first | assumption | omega)) only [hK, hL, hR, hI, hN, sI, hSp, hC, hW, li, lr, ↓cnd_a, ↓cnd_o, ↓cnd_n, ↓cnd_d, ↓z0, ↓z1, ↓z2, y0n, y1i, y2r, y0e, y1e, y2e, wl_0, wl_1, wl_2, wl_3, wl_4, wl_5, wl_6, wl_7, wl_8, wl_9, wl_10, wl_11, wl_12, wl_13, wl_14, wl_15, wl_16, wl_17, wl_18, wl_19, wl_20, wl_21, wl_22, wl_23, wl_24, wl_25, wl_26, wl_27, wl_28, wl_29, wl_30, wl_31, wl_32, wl_33, wl_34, wl_35, wl_36, wl_37, wl_38, wl_39, wl_40, wl_41, wl_42, wl_43, wl_44, wl_45, wl_46, wl_47, wl_48, wl_49, wl_50, wl_51, wl_52, wl_53, wl_54, wl_55, wl_56, wl_57, wl_58, wl_59, wl_60, wl_61, wl_62, wl_63, wl_64, wl_65, wl_66, wl_67, wl_68, wl_69, wl_70, wl_71, wl_72, wl_73, wl_74, wl_75, wl_76, wl_77, wl_78, wl_79, wl_80, wl_81, wl_82, wl_83, wl_84, wl_85, wl_86, wl_87, wl_88, wl_89, wl_90, wl_91, wl_92, wl_93, wl_94, wl_95, wl_96, wl_97, wl_98, wl_99, wl_100, wl_101, wl_102, wl_103, wl_104, wl_105, wl_106, wl_107, wl_108, wl_109, wl_110, wl_111, wl_112, wl_113, wl_114, wl_115, wl_116, wl_117, wl_118, wl_119, wl_120, wl_121, wl_122, wl_123, wl_124, wl_125, wl_126, wl_127, wl_128, wl_129, wl_130, wl_159, wl_160, wl_200, wl_232, wl_255, wl_256, wl_300, wl_359, wl_360, wl_400, wl_592, wl_992, wl_999, wl_1000, wl_1024, wl_3456, wl_6512, wl_7104, wl_10000, wl_11264, wl_12345, wl_32767, wl_1000000000, wl_1103515245, wl_2000000000, w_add, w_sub, w_mul, w_neg, w_lt, w_le, w_eq, w_cl, w_in, w_nat, w_max2, w_min2, w_abs2, iltT, iltF, ileT, ileF, ieqT, ieqF, bv_01, bft, bv_0, bv_1, bv_t, bv_f, cond_true, cond_false, Bool.not_true, Bool.not_false, if_true, if_false, true_or, or_true, true_and, and_true, ↓reduceIte, decide_true, decide_false, reduceCtorEq, u2_s, u2_o, u2_k, u2_u2, Bool.true_or, Bool.or_true, Bool.false_or, Bool.or_false, Bool.and_true, Bool.true_and, Bool.and_false, Bool.false_and, eq_self, not_true_eq_false, not_false_eq_true, and_self, and_true, true_and, false_and, and_false, w_dv, dvm, XSH_e hX, h]
theorem sp_51 {d q : Nat} {m : Int → Int} {mk : Int} {ss : List Int} {ln p h f hi pa sk th we : Int} (hX : XSH K L R) (hS : SHq K L R q) (hq : q + 11 < 273) (hq0 : 82 ≤ q) (hB : BD m) (hv : vS I q = m) (hWd : Wd I q) (hA : Amd K L R I ss ln p h f hi pa sk th we) (hs : 0 ≤ sk ∧ sk ≤ 99) (hh : 0 ≤ h ∧ h < m 4) (hf : (0 ≤ f ∧ f ≤ 59) ∧ 0 ≤ pa ∧ pa ≤ 11) (hO : OddsM I mk m) (hmk : mk < 100000000) :
    ∃ I' mk', ev PR (d + 6) 51 [.ref 277, .ref q, .ref 273] (((vn, vc, vw, K, L, R), I, J) : HS) = some (.inl (some (.int (bv (cnC m h (syA ss ln p h f hi pa sk th we 5) (aX (syA ss ln p h f hi pa sk th we) f) (aY (syA ss ln p h f hi pa sk th we) pa) (aS (syA ss ln p h f hi pa sk th we) sk))))), (((vn, vc, vw, K, L, R), I', J) : HS)) ∧
      (∀ k : Nat, k < 10 → I' 279 k = w (wyF m h (syA ss ln p h f hi pa sk th we 5) (aX (syA ss ln p h f hi pa sk th we) f) (aY (syA ss ln p h f hi pa sk th we) pa) (aS (syA ss ln p h f hi pa sk th we) sk) k)) ∧
      I' 277 8 = w ((2 * aS (syA ss ln p h f hi pa sk th we) sk + 1) * (2 * aS (syA ss ln p h f hi pa sk th we) sk + 1)) ∧ (mk ≤ mk' ∧ mk' ≤ mk + 1) ∧ OddsM I' mk' m ∧ FO q I I' := by
  have b0 := syA_b hA 0
  have b1 := syA_b hA 1
  have b2 := syA_b hA 2
  have b3 := syA_b hA 3
  have b4 := syA_b hA 4
  have b5 := syA_b hA 5
  have h4 := hB.2.1
  have h3 := hB.1
  have hAS := hA
  revert b0 b1 b2 b3 b4 b5
  generalize hsy : syA ss ln p h f hi pa sk th we = sy
  intro b0 b1 b2 b3 b4 b5
  have bX : -1000 ≤ aX sy f ∧ aX sy f ≤ 1000 := by unfold aX; omega
  have bY : -1000 ≤ aY sy pa ∧ aY sy pa ≤ 1000 := by unfold aY; omega
  have bS : 0 ≤ aS sy sk ∧ aS sy sk ≤ 4 := by unfold aS; omega
  have bM : 0 ≤ (2 * aS sy sk + 1) * (2 * aS sy sk + 1) ∧ (2 * aS sy sk + 1) * (2 * aS sy sk + 1) ≤ 9 * 9 := mul_bd (by omega) (by omega)
  obtain ⟨I1, e1, g1, f1⟩ := sp_337 (d := d + 4) (I := I) (J := J) (vn := vn) (vc := vc) (vw := vw) (R := R) (K := K) (L := L) (v := w 0) (a := 279) (n := 10) (by simp only [XSH_e hX]) (by simp only [XSH_e hX]) (by omega)
  have A1 : Amd K L R I1 ss ln p h f hi pa sk th we := Amd_f hA (fun a k z => f1 a k (by omega))
  have A2 : Amd K L R (u2 I1 277 8 (w ((2 * aS sy sk + 1) * (2 * aS sy sk + 1)))) ss ln p h f hi pa sk th we := Amd_f A1 (fun a k z => by rw [u2_o _ _ _ _ (by omega)])
  have q2 : ∀ a k, a ≠ 279 → ¬(a = 277 ∧ k = 8) → u2 I1 277 8 (w ((2 * aS sy sk + 1) * (2 * aS sy sk + 1))) a k = I a k := fun a k h1 h2 => by rw [u2_r, if_neg h2]; exact f1 a k h1
  have g2 : ∀ k : Nat, k < 10 → u2 I1 277 8 (w ((2 * aS sy sk + 1) * (2 * aS sy sk + 1))) 279 k = w 0 := fun k hk => by rw [u2_o _ _ _ _ (by decide)]; exact g1 k hk
  have k8 : u2 I1 277 8 (w ((2 * aS sy sk + 1) * (2 * aS sy sk + 1))) 277 8 = w ((2 * aS sy sk + 1) * (2 * aS sy sk + 1)) := u2_s _ _ _ _
  have v2 : vS (u2 I1 277 8 (w ((2 * aS sy sk + 1) * (2 * aS sy sk + 1)))) q = m := (vS_f (fun a k h1 h2 => q2 a k (by omega) (by omega))).trans hv
  have w2 : Wd (u2 I1 277 8 (w ((2 * aS sy sk + 1) * (2 * aS sy sk + 1)))) q := Wd_f (fun a k h1 h2 => q2 a k (by omega) (by omega)) hWd
  have s10 := sp_10 (d := d + 3) (J := J) (vn := vn) (vc := vc) (vw := vw) hX A1 hs
  rw [hsy] at s10
  obtain ⟨I2, hI2⟩ : ∃ I2, u2 I1 277 8 (w ((2 * aS sy sk + 1) * (2 * aS sy sk + 1))) = I2 := ⟨_, rfl⟩
  rw [hI2] at A2 k8 v2 w2
  simp only [hI2] at q2 g2
  have s5 : ev PR (d + 5) 5 [.ref 273, .int (w 1)] (((vn, vc, vw, K, L, R), I2, J) : HS) = some (.inl (some (.int (w h))), (((vn, vc, vw, K, L, R), I2, J) : HS)) := by
    rw [sp_5 (d := d + 4) hX (by omega)]
    have e : I2 274 (ix 1) = w h := A2.2.2.2.1
    rw [e]
  have s11 := sp_11 (d := d + 3) (J := J) (vn := vn) (vc := vc) (vw := vw) hX A2
  have s8 := sp_8 (d := d + 3) (J := J) (vn := vn) (vc := vc) (vw := vw) hX A2
  have s9 := sp_9 (d := d + 3) (J := J) (vn := vn) (vc := vc) (vw := vw) hX A2
  rw [hsy] at s11 s8 s9
  have hhv : 0 ≤ h ∧ h < vS I2 q 4 := by rw [v2]; exact hh
  obtain ⟨I3, e3, C3, F3⟩ := sp_113 (d := d + 2) (J := J) (vn := vn) (vc := vc) (vw := vw) (h := h) (b := sy 5) (x := aX sy f) (y := aY sy pa) (p := aS sy sk) hS w2 (by rw [v2]; exact hB) hhv (by omega) (by omega)
  rw [v2] at e3 C3
  have v3 := (Fq_vS F3).trans v2
  have w3 := Fq_Wd F3 w2
  have A3 : Amd K L R I3 ss ln p h f hi pa sk th we := Amd_f A2 (fun a k z => F3 a k (by omega) (by omega))
  have q3 : ∀ a k, 273 ≤ a → I3 a k = I2 a k := fun a k z => F3 a k (by omega) (by omega)
  have g3 : ∀ k : Nat, k < 10 → I3 279 k = w 0 := fun k hk => (q3 279 k (by omega)).trans (g2 k hk)
  have hO3 : OddsM I3 mk m := OddsM_f hO (fun a k z => (q3 a k (by omega)).trans (q2 a k (by omega) (by omega)))
  have k83 : I3 277 8 = w ((2 * aS sy sk + 1) * (2 * aS sy sk + 1)) := (q3 _ _ (by omega)).trans k8
  have FO3 : FO q I I3 := fun a k h1 h2 h3 => (F3 a k h2 h3).trans (q2 a k (by omega) (by omega))
  have s53 : ev PR (d + 5) 5 [.ref 273, .int (w 1)] (((vn, vc, vw, K, L, R), I3, J) : HS) = some (.inl (some (.int (w h))), (((vn, vc, vw, K, L, R), I3, J) : HS)) := by
    rw [sp_5 (d := d + 4) hX (by omega)]
    have e : I3 274 (ix 1) = w h := A3.2.2.2.1
    rw [e]
  -- the loops, from any state that keeps all
  have fin : ∀ (I4 : Nat → Nat → Int32) (mk' : Int), (mk ≤ mk' ∧ mk' ≤ mk + 1) → (∀ a k, ¬(a = 277 ∧ (k = 1 ∨ k = 2 ∨ k = 3)) → I4 a k = I3 a k) → OddsI I4 mk' → OddsC I4 mk' m h (sy 5) → I4 277 2 = w h → I4 277 3 = w (sy 5) →
      ∃ I', atv PR (d + 5) cd_51 57 [.ref 277, .ref q, .ref 273, .int (w (aS sy sk)), .retAddr 0, .retAddr 0, .retAddr 0, .retAddr 0, .retAddr 0] [] (((vn, vc, vw, K, L, R), I4, J) : HS) = some (.inl (some (.int (w 1))), (((vn, vc, vw, K, L, R), I', J) : HS)) ∧ (∀ k : Nat, k < 10 → I' 279 k = w (wyF m h (sy 5) (aX sy f) (aY sy pa) (aS sy sk) k)) ∧ I' 277 8 = w ((2 * aS sy sk + 1) * (2 * aS sy sk + 1)) ∧ OddsM I' mk' m ∧ FO q I I' := by
    intro I4 mk' hmk' q4 o4 c4 k2 k3
    have A4 : Amd K L R I4 ss ln p h f hi pa sk th we := Amd_f A3 (fun a k z => q4 a k (by omega))
    have s8' := sp_8 (d := d + 3) (J := J) (vn := vn) (vc := vc) (vw := vw) hX A4
    have s9' := sp_9 (d := d + 3) (J := J) (vn := vn) (vc := vc) (vw := vw) hX A4
    rw [hsy] at s8' s9'
    have T4 : TI I4 q m h (sy 5) (aX sy f) (aY sy pa) (aS sy sk) mk' := ⟨HC_f C3 (fun a k z _ => q4 a k (by omega)), o4, c4, (vS_f (fun a k h1 h2 => q4 a k (by omega))).trans v3, Wd_f (fun a k h1 h2 => q4 a k (by omega)) w3⟩
    obtain ⟨I5, e5, T5, g5, f5⟩ := lp_51o (d := d + 1) (J := J) (vn := vn) (vc := vc) (vw := vw) hX hS hq hB hh (by omega) bS (by omega) (2 * aS sy sk + 1).toNat (aX sy f - aS sy sk) I4 (fun _ => 0) (.retAddr 0) (.retAddr 0) (by omega) (by omega) T4 (fun j hj => (q4 279 j (by omega)).trans (g3 j hj))
    refine ⟨I5, ?_, fun k hk => by rw [g5 k hk, Int.zero_add]; rfl, ?_, ⟨T5.2.1, ?_⟩, fun a k h1 h2 h3 => ?_⟩
    · rw [eq_51_57]
      simp (disch := first | assumption | omega | (simp (disch := omega) only [vM_u, vS_u]; first | assumption | omega)) only [hK, hL, hR, hI, hN, sI, hSp, hC, hW, li, lr, ↓cnd_a, ↓cnd_o, ↓cnd_n, ↓cnd_d, ↓z0, ↓z1, ↓z2, y0n, y1i, y2r, y0e, y1e, y2e, wl_0, wl_1, wl_2, wl_3, wl_4, wl_5, wl_6, wl_7, wl_8, wl_9, wl_10, wl_11, wl_12, wl_13, wl_14, wl_15, wl_16, wl_17, wl_18, wl_19, wl_20, wl_21, wl_22, wl_23, wl_24, wl_25, wl_26, wl_27, wl_28, wl_29, wl_30, wl_31, wl_32, wl_33, wl_34, wl_35, wl_36, wl_37, wl_38, wl_39, wl_40, wl_41, wl_42, wl_43, wl_44, wl_45, wl_46, wl_47, wl_48, wl_49, wl_50, wl_51, wl_52, wl_53, wl_54, wl_55, wl_56, wl_57, wl_58, wl_59, wl_60, wl_61, wl_62, wl_63, wl_64, wl_65, wl_66, wl_67, wl_68, wl_69, wl_70, wl_71, wl_72, wl_73, wl_74, wl_75, wl_76, wl_77, wl_78, wl_79, wl_80, wl_81, wl_82, wl_83, wl_84, wl_85, wl_86, wl_87, wl_88, wl_89, wl_90, wl_91, wl_92, wl_93, wl_94, wl_95, wl_96, wl_97, wl_98, wl_99, wl_100, wl_101, wl_102, wl_103, wl_104, wl_105, wl_106, wl_107, wl_108, wl_109, wl_110, wl_111, wl_112, wl_113, wl_114, wl_115, wl_116, wl_117, wl_118, wl_119, wl_120, wl_121, wl_122, wl_123, wl_124, wl_125, wl_126, wl_127, wl_128, wl_129, wl_130, wl_159, wl_160, wl_200, wl_232, wl_255, wl_256, wl_300, wl_359, wl_360, wl_400, wl_592, wl_992, wl_999, wl_1000, wl_1024, wl_3456, wl_6512, wl_7104, wl_10000, wl_11264, wl_12345, wl_32767, wl_1000000000, wl_1103515245, wl_2000000000, w_add, w_sub, w_mul, w_neg, w_lt, w_le, w_eq, w_cl, w_in, w_nat, w_max2, w_min2, w_abs2, iltT, iltF, ileT, ileF, ieqT, ieqF, bv_01, bft, bv_0, bv_1, bv_t, bv_f, cond_true, cond_false, Bool.not_true, Bool.not_false, if_true, if_false, true_or, or_true, true_and, and_true, ↓reduceIte, decide_true, decide_false, reduceCtorEq, u2_s, u2_o, u2_k, u2_u2, Bool.true_or, Bool.or_true, Bool.false_or, Bool.or_false, Bool.and_true, Bool.true_and, Bool.and_false, Bool.false_and, eq_self, not_true_eq_false, not_false_eq_true, and_self, and_true, true_and, false_and, and_false, w_dv, dvm, XSH_e hX, s8', s9', show aX sy f + aS sy sk - 2 * aS sy sk = aX sy f - aS sy sk by omega]
      exact e5
    · rw [f5 _ _ (by decide) (by decide) (by omega), q4 _ _ (by omega)]; exact k83
    · rw [f5 277 2 (by decide) (by decide) (by omega), f5 277 3 (by decide) (by decide) (by omega), k2, k3, w_toInt (by omega), w_toInt (by omega)]
      exact T5.2.2.1
    · rw [f5 a k (by omega) (by omega) (by omega), q4 a k (by omega)]
      exact FO3 a k h1 h2 h3
  cases hc : cnC m h (sy 5) (aX sy f) (aY sy pa) (aS sy sk) with
  | false =>
    refine ⟨I3, mk, ?_, fun k hk => by rw [g3 k hk, wyF_0 hB hh (by omega) bS.1 hc (by omega)], k83, by omega, hO3, FO3⟩
    rw [hc] at e3
    rw [eq_51]
    simp (disch := first | assumption | omega | (simp (disch := omega) only [vM_u, vS_u]; first | assumption | omega)) only [hK, hL, hR, hI, hN, sI, hSp, hC, hW, li, lr, ↓cnd_a, ↓cnd_o, ↓cnd_n, ↓cnd_d, ↓z0, ↓z1, ↓z2, y0n, y1i, y2r, y0e, y1e, y2e, wl_0, wl_1, wl_2, wl_3, wl_4, wl_5, wl_6, wl_7, wl_8, wl_9, wl_10, wl_11, wl_12, wl_13, wl_14, wl_15, wl_16, wl_17, wl_18, wl_19, wl_20, wl_21, wl_22, wl_23, wl_24, wl_25, wl_26, wl_27, wl_28, wl_29, wl_30, wl_31, wl_32, wl_33, wl_34, wl_35, wl_36, wl_37, wl_38, wl_39, wl_40, wl_41, wl_42, wl_43, wl_44, wl_45, wl_46, wl_47, wl_48, wl_49, wl_50, wl_51, wl_52, wl_53, wl_54, wl_55, wl_56, wl_57, wl_58, wl_59, wl_60, wl_61, wl_62, wl_63, wl_64, wl_65, wl_66, wl_67, wl_68, wl_69, wl_70, wl_71, wl_72, wl_73, wl_74, wl_75, wl_76, wl_77, wl_78, wl_79, wl_80, wl_81, wl_82, wl_83, wl_84, wl_85, wl_86, wl_87, wl_88, wl_89, wl_90, wl_91, wl_92, wl_93, wl_94, wl_95, wl_96, wl_97, wl_98, wl_99, wl_100, wl_101, wl_102, wl_103, wl_104, wl_105, wl_106, wl_107, wl_108, wl_109, wl_110, wl_111, wl_112, wl_113, wl_114, wl_115, wl_116, wl_117, wl_118, wl_119, wl_120, wl_121, wl_122, wl_123, wl_124, wl_125, wl_126, wl_127, wl_128, wl_129, wl_130, wl_159, wl_160, wl_200, wl_232, wl_255, wl_256, wl_300, wl_359, wl_360, wl_400, wl_592, wl_992, wl_999, wl_1000, wl_1024, wl_3456, wl_6512, wl_7104, wl_10000, wl_11264, wl_12345, wl_32767, wl_1000000000, wl_1103515245, wl_2000000000, w_add, w_sub, w_mul, w_neg, w_lt, w_le, w_eq, w_cl, w_in, w_nat, w_max2, w_min2, w_abs2, iltT, iltF, ileT, ileF, ieqT, ieqF, bv_01, bft, bv_0, bv_1, bv_t, bv_f, cond_true, cond_false, Bool.not_true, Bool.not_false, if_true, if_false, true_or, or_true, true_and, and_true, ↓reduceIte, decide_true, decide_false, reduceCtorEq, u2_s, u2_o, u2_k, u2_u2, Bool.true_or, Bool.or_true, Bool.false_or, Bool.or_false, Bool.and_true, Bool.true_and, Bool.and_false, Bool.false_and, eq_self, not_true_eq_false, not_false_eq_true, and_self, and_true, true_and, false_and, and_false, w_dv, dvm, XSH_e hX, SHq_e hS, e1, s10, hI2, s5, s11, s8, s9, e3]
  | true =>
    rw [hc] at e3
    have new : ∀ I4, I4 = u2 (u2 (u2 I3 277 2 (w h)) 277 3 (w (sy 5))) 277 1 (w (mk + 1)) → _ := fun I4 (e : I4 = u2 (u2 (u2 I3 277 2 (w h)) 277 3 (w (sy 5))) 277 1 (w (mk + 1))) => fin I4 (mk + 1) (by omega) (fun a k z => by rw [e, u2_r, if_neg (by omega), u2_r, if_neg (by omega), u2_r, if_neg (by omega)]) (OddsI_n hO3.1 hmk (by rw [e, u2_s]) (fun k => by rw [e, u2_o _ _ _ _ (by decide), u2_o _ _ _ _ (by decide), u2_o _ _ _ _ (by decide)]) m h (sy 5)).1 (OddsI_n hO3.1 hmk (by rw [e, u2_s]) (fun k => by rw [e, u2_o _ _ _ _ (by decide), u2_o _ _ _ _ (by decide), u2_o _ _ _ _ (by decide)]) m h (sy 5)).2 (by rw [e, u2_k _ _ _ _ (by decide), u2_k _ _ _ _ (by decide), u2_s]) (by rw [e, u2_k _ _ _ _ (by decide), u2_s])
    obtain ⟨I', e', r1, r2, r3, r4⟩ := new _ rfl
    have A3' : ∀ v, Amd K L R (u2 I3 277 2 v) ss ln p h f hi pa sk th we := fun v => Amd_f A3 (fun a k z => by rw [u2_o _ _ _ _ (by omega)])
    have s112 := fun v => sp_11 (d := d + 3) (J := J) (vn := vn) (vc := vc) (vw := vw) hX (A3' v)
    have s113 := sp_11 (d := d + 3) (J := J) (vn := vn) (vc := vc) (vw := vw) hX A3
    rw [hsy] at s113
    simp only [hsy] at s112
    have k1 : I3 277 1 = w mk := hO3.1.1
    have s50 := fun v v' => sp_50 (d := d + 4) (I := u2 (u2 I3 277 2 v) 277 3 v') (J := J) (vn := vn) (vc := vc) (vw := vw) (mk := mk) hX (by rw [u2_k _ _ _ _ (by decide), u2_k _ _ _ _ (by decide)]; exact k1)
    by_cases c1 : I3 277 2 = w h
    · by_cases c2 : I3 277 3 = w (sy 5)
      · have oc := hO3.2
        rw [c1, c2, w_toInt (by omega), w_toInt (by omega)] at oc
        obtain ⟨I', e', r1, r2, r3, r4⟩ := fin I3 mk (by omega) (fun _ _ _ => rfl) hO3.1 oc c1 c2
        refine ⟨I', mk, ?_, r1, r2, by omega, r3, r4⟩
        rw [eq_51]
        simp (disch := first | assumption | omega | (simp (disch := omega) only [vM_u, vS_u]; first | assumption | omega)) only [hK, hL, hR, hI, hN, sI, hSp, hC, hW, li, lr, ↓cnd_a, ↓cnd_o, ↓cnd_n, ↓cnd_d, ↓z0, ↓z1, ↓z2, y0n, y1i, y2r, y0e, y1e, y2e, wl_0, wl_1, wl_2, wl_3, wl_4, wl_5, wl_6, wl_7, wl_8, wl_9, wl_10, wl_11, wl_12, wl_13, wl_14, wl_15, wl_16, wl_17, wl_18, wl_19, wl_20, wl_21, wl_22, wl_23, wl_24, wl_25, wl_26, wl_27, wl_28, wl_29, wl_30, wl_31, wl_32, wl_33, wl_34, wl_35, wl_36, wl_37, wl_38, wl_39, wl_40, wl_41, wl_42, wl_43, wl_44, wl_45, wl_46, wl_47, wl_48, wl_49, wl_50, wl_51, wl_52, wl_53, wl_54, wl_55, wl_56, wl_57, wl_58, wl_59, wl_60, wl_61, wl_62, wl_63, wl_64, wl_65, wl_66, wl_67, wl_68, wl_69, wl_70, wl_71, wl_72, wl_73, wl_74, wl_75, wl_76, wl_77, wl_78, wl_79, wl_80, wl_81, wl_82, wl_83, wl_84, wl_85, wl_86, wl_87, wl_88, wl_89, wl_90, wl_91, wl_92, wl_93, wl_94, wl_95, wl_96, wl_97, wl_98, wl_99, wl_100, wl_101, wl_102, wl_103, wl_104, wl_105, wl_106, wl_107, wl_108, wl_109, wl_110, wl_111, wl_112, wl_113, wl_114, wl_115, wl_116, wl_117, wl_118, wl_119, wl_120, wl_121, wl_122, wl_123, wl_124, wl_125, wl_126, wl_127, wl_128, wl_129, wl_130, wl_159, wl_160, wl_200, wl_232, wl_255, wl_256, wl_300, wl_359, wl_360, wl_400, wl_592, wl_992, wl_999, wl_1000, wl_1024, wl_3456, wl_6512, wl_7104, wl_10000, wl_11264, wl_12345, wl_32767, wl_1000000000, wl_1103515245, wl_2000000000, w_add, w_sub, w_mul, w_neg, w_lt, w_le, w_eq, w_cl, w_in, w_nat, w_max2, w_min2, w_abs2, iltT, iltF, ileT, ileF, ieqT, ieqF, bv_01, bft, bv_0, bv_1, bv_t, bv_f, cond_true, cond_false, Bool.not_true, Bool.not_false, if_true, if_false, true_or, or_true, true_and, and_true, ↓reduceIte, decide_true, decide_false, reduceCtorEq, u2_s, u2_o, u2_k, u2_u2, Bool.true_or, Bool.or_true, Bool.false_or, Bool.or_false, Bool.and_true, Bool.true_and, Bool.and_false, Bool.false_and, eq_self, not_true_eq_false, not_false_eq_true, and_self, and_true, true_and, false_and, and_false, w_dv, dvm, XSH_e hX, SHq_e hS, e1, s10, hI2, s5, s11, s8, s9, e3, s53, c1, s113, c2]
        exact e'
      · refine ⟨I', mk + 1, ?_, r1, r2, by omega, r3, r4⟩
        rw [eq_51]
        simp (disch := first | assumption | omega | (simp (disch := omega) only [vM_u, vS_u]; first | assumption | omega)) only [hK, hL, hR, hI, hN, sI, hSp, hC, hW, li, lr, ↓cnd_a, ↓cnd_o, ↓cnd_n, ↓cnd_d, ↓z0, ↓z1, ↓z2, y0n, y1i, y2r, y0e, y1e, y2e, wl_0, wl_1, wl_2, wl_3, wl_4, wl_5, wl_6, wl_7, wl_8, wl_9, wl_10, wl_11, wl_12, wl_13, wl_14, wl_15, wl_16, wl_17, wl_18, wl_19, wl_20, wl_21, wl_22, wl_23, wl_24, wl_25, wl_26, wl_27, wl_28, wl_29, wl_30, wl_31, wl_32, wl_33, wl_34, wl_35, wl_36, wl_37, wl_38, wl_39, wl_40, wl_41, wl_42, wl_43, wl_44, wl_45, wl_46, wl_47, wl_48, wl_49, wl_50, wl_51, wl_52, wl_53, wl_54, wl_55, wl_56, wl_57, wl_58, wl_59, wl_60, wl_61, wl_62, wl_63, wl_64, wl_65, wl_66, wl_67, wl_68, wl_69, wl_70, wl_71, wl_72, wl_73, wl_74, wl_75, wl_76, wl_77, wl_78, wl_79, wl_80, wl_81, wl_82, wl_83, wl_84, wl_85, wl_86, wl_87, wl_88, wl_89, wl_90, wl_91, wl_92, wl_93, wl_94, wl_95, wl_96, wl_97, wl_98, wl_99, wl_100, wl_101, wl_102, wl_103, wl_104, wl_105, wl_106, wl_107, wl_108, wl_109, wl_110, wl_111, wl_112, wl_113, wl_114, wl_115, wl_116, wl_117, wl_118, wl_119, wl_120, wl_121, wl_122, wl_123, wl_124, wl_125, wl_126, wl_127, wl_128, wl_129, wl_130, wl_159, wl_160, wl_200, wl_232, wl_255, wl_256, wl_300, wl_359, wl_360, wl_400, wl_592, wl_992, wl_999, wl_1000, wl_1024, wl_3456, wl_6512, wl_7104, wl_10000, wl_11264, wl_12345, wl_32767, wl_1000000000, wl_1103515245, wl_2000000000, w_add, w_sub, w_mul, w_neg, w_lt, w_le, w_eq, w_cl, w_in, w_nat, w_max2, w_min2, w_abs2, iltT, iltF, ileT, ileF, ieqT, ieqF, bv_01, bft, bv_0, bv_1, bv_t, bv_f, cond_true, cond_false, Bool.not_true, Bool.not_false, if_true, if_false, true_or, or_true, true_and, and_true, ↓reduceIte, decide_true, decide_false, reduceCtorEq, u2_s, u2_o, u2_k, u2_u2, Bool.true_or, Bool.or_true, Bool.false_or, Bool.or_false, Bool.and_true, Bool.true_and, Bool.and_false, Bool.false_and, eq_self, not_true_eq_false, not_false_eq_true, and_self, and_true, true_and, false_and, and_false, w_dv, dvm, XSH_e hX, SHq_e hS, e1, s10, hI2, s5, s11, s8, s9, e3, s53, c1, s113, c2, s112, s50]
        exact e'
    · refine ⟨I', mk + 1, ?_, r1, r2, by omega, r3, r4⟩
      rw [eq_51]
      simp (disch := first | assumption | omega | (simp (disch := omega) only [vM_u, vS_u]; first | assumption | omega)) only [hK, hL, hR, hI, hN, sI, hSp, hC, hW, li, lr, ↓cnd_a, ↓cnd_o, ↓cnd_n, ↓cnd_d, ↓z0, ↓z1, ↓z2, y0n, y1i, y2r, y0e, y1e, y2e, wl_0, wl_1, wl_2, wl_3, wl_4, wl_5, wl_6, wl_7, wl_8, wl_9, wl_10, wl_11, wl_12, wl_13, wl_14, wl_15, wl_16, wl_17, wl_18, wl_19, wl_20, wl_21, wl_22, wl_23, wl_24, wl_25, wl_26, wl_27, wl_28, wl_29, wl_30, wl_31, wl_32, wl_33, wl_34, wl_35, wl_36, wl_37, wl_38, wl_39, wl_40, wl_41, wl_42, wl_43, wl_44, wl_45, wl_46, wl_47, wl_48, wl_49, wl_50, wl_51, wl_52, wl_53, wl_54, wl_55, wl_56, wl_57, wl_58, wl_59, wl_60, wl_61, wl_62, wl_63, wl_64, wl_65, wl_66, wl_67, wl_68, wl_69, wl_70, wl_71, wl_72, wl_73, wl_74, wl_75, wl_76, wl_77, wl_78, wl_79, wl_80, wl_81, wl_82, wl_83, wl_84, wl_85, wl_86, wl_87, wl_88, wl_89, wl_90, wl_91, wl_92, wl_93, wl_94, wl_95, wl_96, wl_97, wl_98, wl_99, wl_100, wl_101, wl_102, wl_103, wl_104, wl_105, wl_106, wl_107, wl_108, wl_109, wl_110, wl_111, wl_112, wl_113, wl_114, wl_115, wl_116, wl_117, wl_118, wl_119, wl_120, wl_121, wl_122, wl_123, wl_124, wl_125, wl_126, wl_127, wl_128, wl_129, wl_130, wl_159, wl_160, wl_200, wl_232, wl_255, wl_256, wl_300, wl_359, wl_360, wl_400, wl_592, wl_992, wl_999, wl_1000, wl_1024, wl_3456, wl_6512, wl_7104, wl_10000, wl_11264, wl_12345, wl_32767, wl_1000000000, wl_1103515245, wl_2000000000, w_add, w_sub, w_mul, w_neg, w_lt, w_le, w_eq, w_cl, w_in, w_nat, w_max2, w_min2, w_abs2, iltT, iltF, ileT, ileF, ieqT, ieqF, bv_01, bft, bv_0, bv_1, bv_t, bv_f, cond_true, cond_false, Bool.not_true, Bool.not_false, if_true, if_false, true_or, or_true, true_and, and_true, ↓reduceIte, decide_true, decide_false, reduceCtorEq, u2_s, u2_o, u2_k, u2_u2, Bool.true_or, Bool.or_true, Bool.false_or, Bool.or_false, Bool.and_true, Bool.true_and, Bool.and_false, Bool.false_and, eq_self, not_true_eq_false, not_false_eq_true, and_self, and_true, true_and, false_and, and_false, w_dv, dvm, XSH_e hX, SHq_e hS, e1, s10, hI2, s5, s11, s8, s9, e3, s53, c1, s112, s50]
      exact e'
end TALLY2
