/-! the class's law reader: sums -/
section LWC
variable {vn vc vw : Nat} {K L : Nat → Nat} {R : Nat → Nat → Nat} {I : Nat → Nat → Int32} {J : Nat → Nat → Int64}
/-- what the class's reading gives -/
def GoC (I : Nat → Nat → Int32) (σ : (Nat → Nat → Int32) → HS) (T : Int → Int) (e n : Int) (tb : Int → Int) (S : List Int) (i : Int) (res : Option Res) (r : PRes) : Prop :=
  match r with
  | .ok t => ∃ I' j, res = some (.inl (some (.int (w 1))), σ (nx I' j)) ∧ FLw I I' ∧ (0 ≤ j ∧ j ≤ n) ∧ tb j = sk T e t.1 ∧ StpR I' (S ++ t.2) ∧ i + t.2.length ≤ j
  | .error f => ∃ I' j, res = some (.inl (some (.int (w 0))), σ (nx I' j)) ∧ FLw I I' ∧ (0 ≤ j ∧ j ≤ n) ∧ tb j = f
theorem fig_nd {T : Int → Int} {e q lo hi : Int} (hs : sk T e q = q) (h : isD T e q = false) : pFig T e lo hi q = .error q := by
  unfold pFig
  dsimp only
  rw [hs]
  have e4 : dg T e q = (q, 0) := by
    by_cases c : q < e
    · have e3 : (e - q).toNat = (e - (q + 1)).toNat + 1 := by omega
      have c' : ¬(48 ≤ T q ∧ T q ≤ 57) := fun x => by
        unfold isD at h
        rw [decide_eq_true c, decide_eq_true x.1, decide_eq_true x.2] at h
        exact nomatch h
      show dgN T q q 0 (e - q).toNat = _
      rw [e3, dgN, if_neg (fun x => c' x.1)]
    · have e3 : (e - q).toNat = 0 := by omega
      show dgN T q q 0 (e - q).toNat = _
      rw [e3, dgN]
  rw [e4, if_pos (Or.inl rfl)]
theorem kw_nl {T : Int → Int} {e q : Int} (h : ¬(97 ≤ T q ∧ T q ≤ 122)) : ∀ (ls : List (List Int)) (i : Int), (∀ l ∈ ls, l ≠ []) → kwI T e q ls i = -1
  | [], i, _ => rfl
  | l :: ls, i, hl => by
    have hb : hasB T e q l = false := by
      unfold hasB
      have e5 : lw T e q = q := by
        show lwN T q (e - q).toNat = q
        cases (e - q).toNat with
        | zero => rfl
        | succ m => rw [lwN, if_neg h]
      have := List.length_pos_iff.mpr (hl l List.mem_cons_self)
      rw [decide_eq_false (by omega)]
      rfl
    unfold kwI
    rw [hb]
    exact kw_nl h ls (i + 1) fun x hx => hl x (List.mem_cons_of_mem _ hx)
theorem isD_i {T : Int → Int} {e q : Int} (h : isD T e q = true) : q < e ∧ 48 ≤ T q ∧ T q ≤ 57 := by
  unfold isD at h
  rw [Bool.and_eq_true, Bool.and_eq_true] at h
  exact ⟨of_decide_eq_true h.1, of_decide_eq_true h.2.1, of_decide_eq_true h.2.2⟩
theorem kwI_has {T : Int → Int} {e q : Int} : ∀ (ls : List (List Int)) (i : Int), 0 ≤ i → (∀ l ∈ ls, l ≠ []) → kwI T e q ls i ≠ -1 → q < e ∧ 97 ≤ T q ∧ T q ≤ 122 := by
  intro ls i h0 hl h
  have h1 := kwI_r ls i h0 hl h
  refine ⟨h1.1, ?_⟩
  by_cases c : 97 ≤ T q ∧ T q ≤ 122
  · exact c
  · exact (h (kw_nl c ls i hl)).elim
theorem tend_L {T : Int → Int} {e q : Int} (h : 97 ≤ T q ∧ T q ≤ 122) : tend T e q = lw T e q := by unfold tend; rw [if_pos (isL_d.mpr h)]
theorem tend_s {T : Int → Int} {e q c : Int} (h : sgB T e q c = true) (hc : (33 ≤ c ∧ c ≤ 47) ∨ (58 ≤ c ∧ c ≤ 96)) : q < e ∧ tend T e q = q + 1 := by
  obtain ⟨h1, h2⟩ := sg_lt h
  refine ⟨h1, ?_⟩
  unfold tend
  rw [if_neg (fun x => by have := isL_d.mp x; omega), if_neg (fun x => by have := isN_d.mp x; omega)]
theorem pPart_sk (T : Int → Int) (e p : Int) : pPart T e (sk T e p) = pPart T e p := by
  unfold pPart
  rw [sk_sk]
theorem lpA {d : Nat} {T : Int → Int} {e n i c : Int} {tb : Int → Int} {S : List Int} {w2 w3 : Value} (hX : XSH K L R) (hT : Tp I T e) (hG : TkI I T e n tb) (hA : SWA K L I) (hi : 0 ≤ i ∧ i ≤ n) (hc : 0 ≤ c ∧ c ≤ i) (hc4 : c < 400) (gS : StpR I S) (hl : (S.length : Int) + (if c = 0 then 0 else 1) ≤ i) :
    (∀ f, pPart T e (tb i) = .error f → f = tb i ∧ ∃ I', atv PR (d + 2) cd_45 2 [.ref 88, .int (w c), w2, w3] [] (((vn, vc, vw, K, L, R), nx I i, J) : HS) = some (.inl (some (.int (w 0))), (((vn, vc, vw, K, L, R), nx I' i, J) : HS)) ∧ FLw I I') ∧
    (∀ r, pPart T e (tb i) = .ok r → ∃ I' v2 v3, FLw I I' ∧ i < n ∧ tb (i + 1) = sk T e r.1 ∧ r.2.length = 1 ∧ StpR I' (S ++ (if c = 0 then r.2 else r.2 ++ [2048])) ∧ atv PR (d + 2) cd_45 2 [.ref 88, .int (w c), w2, w3] [] (((vn, vc, vw, K, L, R), nx I i, J) : HS) = if sgB T e (tb (i + 1)) 43 = true then atv PR (d + 2) cd_45 2 [.ref 88, .int (w (c + 1)), v2, v3] [] (((vn, vc, vw, K, L, R), nx I' (i + 2), J) : HS) else some (.inl (some (.int (w 1))), (((vn, vc, vw, K, L, R), nx I' (i + 1), J) : HS))) := by
  have g2 := hG.2.1
  have hbb := TkI_tb hG hi hT.2.1.1
  have hss := hbb.2.2.1
  have hfig := sp_155 (d := d) (lo := 0) (hi := 999) (vn := vn) (vc := vc) (vw := vw) (J := J) hX hT hG hi (by omega)
  have hkw := sp_48 (d := d) (vn := vn) (vc := vc) (vw := vw) (J := J) hX hT hG hA hi
  unfold pPart
  dsimp only
  rw [hss]
  -- after the part's own step
  have aft : ∀ (I1 : Nat → Nat → Int32) (ss : List Int), FLw I I1 → i < n → StpR I1 (S ++ ss) → ss.length = 1 → ∃ I2, (∀ (i2 i3 : Int32), (∀ I3 : Nat → Nat → Int32, I3 = I2 → bnd0 (ev PR (d + 2) 47 [.ref 88, .int (w 2), .int (w c)] (((vn, vc, vw, K, L, R), nx I1 (i + 1), J) : HS)) (fun s2 => some (.inl none, s2)) thr = some (.inl none, (((vn, vc, vw, K, L, R), nx I3 (i + 1), J) : HS)))) ∧ ev PR (d + 2) 47 [.ref 88, .int (w 2), .int (w c)] (((vn, vc, vw, K, L, R), nx I1 (i + 1), J) : HS) = some (.inl none, (((vn, vc, vw, K, L, R), nx I2 (i + 1), J) : HS)) ∧ FLw I I2 ∧ StpR I2 (S ++ (if c = 0 then ss else ss ++ [2048])) := by
    intro I1 ss f1 hin g1 hs1
    obtain ⟨I2, e1, e2, e3⟩ := sp_47 (d := d) (op := 2) (c := c) (i := i + 1) (vn := vn) (vc := vc) (vw := vw) (J := J) hX g1 (fun h0 => by rw [List.length_append, hs1]; rw [if_neg (by omega)] at hl; omega) (by omega) (by omega)
    refine ⟨I2, ?_, e1, FLw_tr f1 e2, ?_⟩
    · intro i2 i3 I3 h3
      rw [h3, e1]
      rfl
    · by_cases c0 : c = 0
      · rw [if_pos c0] at e3 ⊢
        exact e3
      · rw [if_neg c0] at e3 ⊢
        rw [List.append_assoc] at e3
        exact e3
  have sgn2 : ∀ (I2 : Nat → Nat → Int32), FLw I I2 → i < n → ev PR (d + 2) 154 [.ref 82, .int (w 43)] (((vn, vc, vw, K, L, R), nx I2 (i + 1), J) : HS) = some (.inl (some (.int (bv (sgB T e (tb (i + 1)) 43)))), (((vn, vc, vw, K, L, R), nx I2 (cond (sgB T e (tb (i + 1)) 43) (i + 1 + 1) (i + 1)), J) : HS)) := fun I2 f2 hin => sp_154 hX (Tp_l f2 hT) (TkI_l f2 hG) (by omega) (by omega)
  have hlS : S.length < 400 ∨ ¬ i < n := by
    by_cases c0 : c = 0
    · rw [if_pos c0] at hl; omega
    · rw [if_neg c0] at hl; omega
  cases cd : isD T e (tb i) with
  | true =>
    have cdi := isD_i cd
    have ckw : kwI T e (tb i) FW 0 = -1 := kw_nl (by omega) FW 0 FW_ne
    rw [ckw] at hkw
    simp only [if_true]
    cases cf : pFig T e 0 999 (tb i) with
    | error f =>
      have h1 := hfig.2 f cf
      have h2 := pFig_e cf
      refine ⟨fun f' h => ?_, fun r h => (nomatch h)⟩
      injection h with h
      refine ⟨by omega, I, ?_, FLw_rf⟩
      rw [eq_45_2]
      simp (disch := first | assumption | omega | (simp (disch := omega) only [vM_u, vS_u]; first | assumption | omega)) only [hK, hL, hR, hI, hN, sI, hSp, hC, hW, li, lr, ↓cnd_a, ↓cnd_o, ↓cnd_n, ↓cnd_d, ↓z0, ↓z1, ↓z2, y0n, y1i, y2r, y0e, y1e, y2e, wl_0, wl_1, wl_2, wl_3, wl_4, wl_5, wl_6, wl_7, wl_8, wl_9, wl_10, wl_11, wl_12, wl_13, wl_14, wl_15, wl_16, wl_17, wl_18, wl_19, wl_20, wl_21, wl_22, wl_23, wl_24, wl_25, wl_26, wl_27, wl_28, wl_29, wl_30, wl_31, wl_32, wl_33, wl_34, wl_35, wl_36, wl_37, wl_38, wl_39, wl_40, wl_41, wl_42, wl_43, wl_44, wl_45, wl_46, wl_47, wl_48, wl_49, wl_50, wl_51, wl_52, wl_53, wl_54, wl_55, wl_56, wl_57, wl_58, wl_59, wl_60, wl_61, wl_62, wl_63, wl_64, wl_65, wl_66, wl_67, wl_68, wl_69, wl_70, wl_71, wl_72, wl_73, wl_74, wl_75, wl_76, wl_77, wl_78, wl_79, wl_80, wl_81, wl_82, wl_83, wl_84, wl_85, wl_86, wl_87, wl_88, wl_89, wl_90, wl_91, wl_92, wl_93, wl_94, wl_95, wl_96, wl_97, wl_98, wl_99, wl_100, wl_101, wl_102, wl_103, wl_104, wl_105, wl_106, wl_107, wl_108, wl_109, wl_110, wl_111, wl_112, wl_113, wl_114, wl_115, wl_116, wl_117, wl_118, wl_119, wl_120, wl_121, wl_122, wl_123, wl_124, wl_125, wl_126, wl_127, wl_128, wl_129, wl_130, wl_159, wl_160, wl_200, wl_232, wl_255, wl_256, wl_300, wl_359, wl_360, wl_400, wl_592, wl_992, wl_999, wl_1000, wl_1024, wl_3456, wl_6512, wl_7104, wl_10000, wl_11264, wl_12345, wl_32767, wl_1000000000, wl_1103515245, wl_2000000000, w_add, w_sub, w_mul, w_neg, w_lt, w_le, w_eq, w_cl, w_in, w_nat, w_max2, w_min2, w_abs2, iltT, iltF, ileT, ileF, ieqT, ieqF, bv_01, bft, bv_0, bv_1, bv_t, bv_f, cond_true, cond_false, Bool.not_true, Bool.not_false, if_true, if_false, true_or, or_true, true_and, and_true, ↓reduceIte, decide_true, decide_false, reduceCtorEq, u2_s, u2_o, u2_k, u2_u2, Bool.true_or, Bool.or_true, Bool.false_or, Bool.or_false, Bool.and_true, Bool.true_and, Bool.and_false, Bool.false_and, eq_self, not_true_eq_false, not_false_eq_true, and_self, and_true, true_and, false_and, and_false, w_dv, dvm, XSH_e hX, h1, hkw, kwJ]
    | ok r =>
      obtain ⟨⟨h1, h2⟩, h3⟩ := hfig.1 r cf
      have hr := dg_lt cf
      refine ⟨fun f' h => (nomatch h), fun r' h => ?_⟩
      injection h with h
      subst h
      dsimp only
      obtain ⟨I1, k1, k2, k3⟩ := em_nx (d := d + 1) (op := 0) (v := r.2) (i := i + 1) (vn := vn) (vc := vc) (vw := vw) (J := J) hX gS (by omega) (by omega) (by omega)
      rw [show (0 : Int) * 1024 + r.2 = r.2 by omega] at k3
      obtain ⟨I2, _, e1, e2, e3⟩ := aft I1 [r.2] k2 h1 k3 rfl
      have e4 := sgn2 I2 e2 h1
      refine ⟨I2, .int (w r.2), .int (w (-1)), e2, h1, by rw [TkI_st hG ⟨hi.1, h1⟩, ← h2], rfl, e3, ?_⟩
      rw [eq_45_2]
      simp (disch := first | assumption | omega | (simp (disch := omega) only [vM_u, vS_u]; first | assumption | omega)) only [hK, hL, hR, hI, hN, sI, hSp, hC, hW, li, lr, ↓cnd_a, ↓cnd_o, ↓cnd_n, ↓cnd_d, ↓z0, ↓z1, ↓z2, y0n, y1i, y2r, y0e, y1e, y2e, wl_0, wl_1, wl_2, wl_3, wl_4, wl_5, wl_6, wl_7, wl_8, wl_9, wl_10, wl_11, wl_12, wl_13, wl_14, wl_15, wl_16, wl_17, wl_18, wl_19, wl_20, wl_21, wl_22, wl_23, wl_24, wl_25, wl_26, wl_27, wl_28, wl_29, wl_30, wl_31, wl_32, wl_33, wl_34, wl_35, wl_36, wl_37, wl_38, wl_39, wl_40, wl_41, wl_42, wl_43, wl_44, wl_45, wl_46, wl_47, wl_48, wl_49, wl_50, wl_51, wl_52, wl_53, wl_54, wl_55, wl_56, wl_57, wl_58, wl_59, wl_60, wl_61, wl_62, wl_63, wl_64, wl_65, wl_66, wl_67, wl_68, wl_69, wl_70, wl_71, wl_72, wl_73, wl_74, wl_75, wl_76, wl_77, wl_78, wl_79, wl_80, wl_81, wl_82, wl_83, wl_84, wl_85, wl_86, wl_87, wl_88, wl_89, wl_90, wl_91, wl_92, wl_93, wl_94, wl_95, wl_96, wl_97, wl_98, wl_99, wl_100, wl_101, wl_102, wl_103, wl_104, wl_105, wl_106, wl_107, wl_108, wl_109, wl_110, wl_111, wl_112, wl_113, wl_114, wl_115, wl_116, wl_117, wl_118, wl_119, wl_120, wl_121, wl_122, wl_123, wl_124, wl_125, wl_126, wl_127, wl_128, wl_129, wl_130, wl_159, wl_160, wl_200, wl_232, wl_255, wl_256, wl_300, wl_359, wl_360, wl_400, wl_592, wl_992, wl_999, wl_1000, wl_1024, wl_3456, wl_6512, wl_7104, wl_10000, wl_11264, wl_12345, wl_32767, wl_1000000000, wl_1103515245, wl_2000000000, w_add, w_sub, w_mul, w_neg, w_lt, w_le, w_eq, w_cl, w_in, w_nat, w_max2, w_min2, w_abs2, iltT, iltF, ileT, ileF, ieqT, ieqF, bv_01, bft, bv_0, bv_1, bv_t, bv_f, cond_true, cond_false, Bool.not_true, Bool.not_false, if_true, if_false, true_or, or_true, true_and, and_true, ↓reduceIte, decide_true, decide_false, reduceCtorEq, u2_s, u2_o, u2_k, u2_u2, Bool.true_or, Bool.or_true, Bool.false_or, Bool.or_false, Bool.and_true, Bool.true_and, Bool.and_false, Bool.false_and, eq_self, not_true_eq_false, not_false_eq_true, and_self, and_true, true_and, false_and, and_false, w_dv, dvm, XSH_e hX, h3]
      rw [eq_45_26]
      cases cs : sgB T e (tb (i + 1)) 43 with
      | true =>
        rw [cs] at e4
        simp (disch := first | assumption | omega | (simp (disch := omega) only [vM_u, vS_u]; first | assumption | omega)) only [hK, hL, hR, hI, hN, sI, hSp, hC, hW, li, lr, ↓cnd_a, ↓cnd_o, ↓cnd_n, ↓cnd_d, ↓z0, ↓z1, ↓z2, y0n, y1i, y2r, y0e, y1e, y2e, wl_0, wl_1, wl_2, wl_3, wl_4, wl_5, wl_6, wl_7, wl_8, wl_9, wl_10, wl_11, wl_12, wl_13, wl_14, wl_15, wl_16, wl_17, wl_18, wl_19, wl_20, wl_21, wl_22, wl_23, wl_24, wl_25, wl_26, wl_27, wl_28, wl_29, wl_30, wl_31, wl_32, wl_33, wl_34, wl_35, wl_36, wl_37, wl_38, wl_39, wl_40, wl_41, wl_42, wl_43, wl_44, wl_45, wl_46, wl_47, wl_48, wl_49, wl_50, wl_51, wl_52, wl_53, wl_54, wl_55, wl_56, wl_57, wl_58, wl_59, wl_60, wl_61, wl_62, wl_63, wl_64, wl_65, wl_66, wl_67, wl_68, wl_69, wl_70, wl_71, wl_72, wl_73, wl_74, wl_75, wl_76, wl_77, wl_78, wl_79, wl_80, wl_81, wl_82, wl_83, wl_84, wl_85, wl_86, wl_87, wl_88, wl_89, wl_90, wl_91, wl_92, wl_93, wl_94, wl_95, wl_96, wl_97, wl_98, wl_99, wl_100, wl_101, wl_102, wl_103, wl_104, wl_105, wl_106, wl_107, wl_108, wl_109, wl_110, wl_111, wl_112, wl_113, wl_114, wl_115, wl_116, wl_117, wl_118, wl_119, wl_120, wl_121, wl_122, wl_123, wl_124, wl_125, wl_126, wl_127, wl_128, wl_129, wl_130, wl_159, wl_160, wl_200, wl_232, wl_255, wl_256, wl_300, wl_359, wl_360, wl_400, wl_592, wl_992, wl_999, wl_1000, wl_1024, wl_3456, wl_6512, wl_7104, wl_10000, wl_11264, wl_12345, wl_32767, wl_1000000000, wl_1103515245, wl_2000000000, w_add, w_sub, w_mul, w_neg, w_lt, w_le, w_eq, w_cl, w_in, w_nat, w_max2, w_min2, w_abs2, iltT, iltF, ileT, ileF, ieqT, ieqF, bv_01, bft, bv_0, bv_1, bv_t, bv_f, cond_true, cond_false, Bool.not_true, Bool.not_false, if_true, if_false, true_or, or_true, true_and, and_true, ↓reduceIte, decide_true, decide_false, reduceCtorEq, u2_s, u2_o, u2_k, u2_u2, Bool.true_or, Bool.or_true, Bool.false_or, Bool.or_false, Bool.and_true, Bool.true_and, Bool.and_false, Bool.false_and, eq_self, not_true_eq_false, not_false_eq_true, and_self, and_true, true_and, false_and, and_false, w_dv, dvm, XSH_e hX, k1, e1, e4, show i + 1 + 1 = i + 2 by omega]
      | false =>
        rw [cs] at e4
        simp (disch := first | assumption | omega | (simp (disch := omega) only [vM_u, vS_u]; first | assumption | omega)) only [hK, hL, hR, hI, hN, sI, hSp, hC, hW, li, lr, ↓cnd_a, ↓cnd_o, ↓cnd_n, ↓cnd_d, ↓z0, ↓z1, ↓z2, y0n, y1i, y2r, y0e, y1e, y2e, wl_0, wl_1, wl_2, wl_3, wl_4, wl_5, wl_6, wl_7, wl_8, wl_9, wl_10, wl_11, wl_12, wl_13, wl_14, wl_15, wl_16, wl_17, wl_18, wl_19, wl_20, wl_21, wl_22, wl_23, wl_24, wl_25, wl_26, wl_27, wl_28, wl_29, wl_30, wl_31, wl_32, wl_33, wl_34, wl_35, wl_36, wl_37, wl_38, wl_39, wl_40, wl_41, wl_42, wl_43, wl_44, wl_45, wl_46, wl_47, wl_48, wl_49, wl_50, wl_51, wl_52, wl_53, wl_54, wl_55, wl_56, wl_57, wl_58, wl_59, wl_60, wl_61, wl_62, wl_63, wl_64, wl_65, wl_66, wl_67, wl_68, wl_69, wl_70, wl_71, wl_72, wl_73, wl_74, wl_75, wl_76, wl_77, wl_78, wl_79, wl_80, wl_81, wl_82, wl_83, wl_84, wl_85, wl_86, wl_87, wl_88, wl_89, wl_90, wl_91, wl_92, wl_93, wl_94, wl_95, wl_96, wl_97, wl_98, wl_99, wl_100, wl_101, wl_102, wl_103, wl_104, wl_105, wl_106, wl_107, wl_108, wl_109, wl_110, wl_111, wl_112, wl_113, wl_114, wl_115, wl_116, wl_117, wl_118, wl_119, wl_120, wl_121, wl_122, wl_123, wl_124, wl_125, wl_126, wl_127, wl_128, wl_129, wl_130, wl_159, wl_160, wl_200, wl_232, wl_255, wl_256, wl_300, wl_359, wl_360, wl_400, wl_592, wl_992, wl_999, wl_1000, wl_1024, wl_3456, wl_6512, wl_7104, wl_10000, wl_11264, wl_12345, wl_32767, wl_1000000000, wl_1103515245, wl_2000000000, w_add, w_sub, w_mul, w_neg, w_lt, w_le, w_eq, w_cl, w_in, w_nat, w_max2, w_min2, w_abs2, iltT, iltF, ileT, ileF, ieqT, ieqF, bv_01, bft, bv_0, bv_1, bv_t, bv_f, cond_true, cond_false, Bool.not_true, Bool.not_false, if_true, if_false, true_or, or_true, true_and, and_true, ↓reduceIte, decide_true, decide_false, reduceCtorEq, u2_s, u2_o, u2_k, u2_u2, Bool.true_or, Bool.or_true, Bool.false_or, Bool.or_false, Bool.and_true, Bool.true_and, Bool.and_false, Bool.false_and, eq_self, not_true_eq_false, not_false_eq_true, and_self, and_true, true_and, false_and, and_false, w_dv, dvm, XSH_e hX, k1, e1, e4]
  | false =>
    have cf := fig_nd (lo := 0) (hi := 999) hss cd
    have h1 := hfig.2 _ cf
    simp only [if_false, Bool.false_eq_true]
    by_cases ck : kwI T e (tb i) FW 0 = -1
    · rw [if_pos ck]
      rw [ck] at hkw
      refine ⟨fun f' h => ?_, fun r h => (nomatch h)⟩
      injection h with h
      refine ⟨by omega, I, ?_, FLw_rf⟩
      rw [eq_45_2]
      simp (disch := first | assumption | omega | (simp (disch := omega) only [vM_u, vS_u]; first | assumption | omega)) only [hK, hL, hR, hI, hN, sI, hSp, hC, hW, li, lr, ↓cnd_a, ↓cnd_o, ↓cnd_n, ↓cnd_d, ↓z0, ↓z1, ↓z2, y0n, y1i, y2r, y0e, y1e, y2e, wl_0, wl_1, wl_2, wl_3, wl_4, wl_5, wl_6, wl_7, wl_8, wl_9, wl_10, wl_11, wl_12, wl_13, wl_14, wl_15, wl_16, wl_17, wl_18, wl_19, wl_20, wl_21, wl_22, wl_23, wl_24, wl_25, wl_26, wl_27, wl_28, wl_29, wl_30, wl_31, wl_32, wl_33, wl_34, wl_35, wl_36, wl_37, wl_38, wl_39, wl_40, wl_41, wl_42, wl_43, wl_44, wl_45, wl_46, wl_47, wl_48, wl_49, wl_50, wl_51, wl_52, wl_53, wl_54, wl_55, wl_56, wl_57, wl_58, wl_59, wl_60, wl_61, wl_62, wl_63, wl_64, wl_65, wl_66, wl_67, wl_68, wl_69, wl_70, wl_71, wl_72, wl_73, wl_74, wl_75, wl_76, wl_77, wl_78, wl_79, wl_80, wl_81, wl_82, wl_83, wl_84, wl_85, wl_86, wl_87, wl_88, wl_89, wl_90, wl_91, wl_92, wl_93, wl_94, wl_95, wl_96, wl_97, wl_98, wl_99, wl_100, wl_101, wl_102, wl_103, wl_104, wl_105, wl_106, wl_107, wl_108, wl_109, wl_110, wl_111, wl_112, wl_113, wl_114, wl_115, wl_116, wl_117, wl_118, wl_119, wl_120, wl_121, wl_122, wl_123, wl_124, wl_125, wl_126, wl_127, wl_128, wl_129, wl_130, wl_159, wl_160, wl_200, wl_232, wl_255, wl_256, wl_300, wl_359, wl_360, wl_400, wl_592, wl_992, wl_999, wl_1000, wl_1024, wl_3456, wl_6512, wl_7104, wl_10000, wl_11264, wl_12345, wl_32767, wl_1000000000, wl_1103515245, wl_2000000000, w_add, w_sub, w_mul, w_neg, w_lt, w_le, w_eq, w_cl, w_in, w_nat, w_max2, w_min2, w_abs2, iltT, iltF, ileT, ileF, ieqT, ieqF, bv_01, bft, bv_0, bv_1, bv_t, bv_f, cond_true, cond_false, Bool.not_true, Bool.not_false, if_true, if_false, true_or, or_true, true_and, and_true, ↓reduceIte, decide_true, decide_false, reduceCtorEq, u2_s, u2_o, u2_k, u2_u2, Bool.true_or, Bool.or_true, Bool.false_or, Bool.or_false, Bool.and_true, Bool.true_and, Bool.and_false, Bool.false_and, eq_self, not_true_eq_false, not_false_eq_true, and_self, and_true, true_and, false_and, and_false, w_dv, dvm, XSH_e hX, h1, hkw, kwJ]
    · rw [if_neg ck]
      have hk := kwI_r FW 0 (by omega) FW_ne ck
      have hkl := kwI_has FW 0 (by omega) FW_ne ck
      have hin : i < n := hbb.2.2.2.mp hk.1
      have hlen : (FW.length : Int) = 7 := rfl
      have hkJ : kwJ (kwI T e (tb i) FW 0) i = i + 1 := by unfold kwJ; rw [if_neg ck]
      rw [hkJ] at hkw
      obtain ⟨k, hkd⟩ : ∃ k, k = kwI T e (tb i) FW 0 := ⟨_, rfl⟩
      rw [← hkd] at hkw hk ⊢
      refine ⟨fun f' h => (nomatch h), fun r' h => ?_⟩
      injection h with h
      subst h
      dsimp only
      obtain ⟨I1, k1, k2, k3⟩ := sp_46 (d := d) (k := k) (i := i + 1) (vn := vn) (vc := vc) (vw := vw) (J := J) hX gS (by omega) (by omega)
      obtain ⟨I2, _, e1, e2, e3⟩ := aft I1 [1024 + k] k2 hin k3 rfl
      have e4 := sgn2 I2 e2 hin
      refine ⟨I2, .int (w (-1)), .int (w k), e2, hin, by rw [TkI_st hG ⟨hi.1, hin⟩, tend_L hkl.2], rfl, e3, ?_⟩
      rw [eq_45_2]
      simp (disch := first | assumption | omega | (simp (disch := omega) only [vM_u, vS_u]; first | assumption | omega)) only [hK, hL, hR, hI, hN, sI, hSp, hC, hW, li, lr, ↓cnd_a, ↓cnd_o, ↓cnd_n, ↓cnd_d, ↓z0, ↓z1, ↓z2, y0n, y1i, y2r, y0e, y1e, y2e, wl_0, wl_1, wl_2, wl_3, wl_4, wl_5, wl_6, wl_7, wl_8, wl_9, wl_10, wl_11, wl_12, wl_13, wl_14, wl_15, wl_16, wl_17, wl_18, wl_19, wl_20, wl_21, wl_22, wl_23, wl_24, wl_25, wl_26, wl_27, wl_28, wl_29, wl_30, wl_31, wl_32, wl_33, wl_34, wl_35, wl_36, wl_37, wl_38, wl_39, wl_40, wl_41, wl_42, wl_43, wl_44, wl_45, wl_46, wl_47, wl_48, wl_49, wl_50, wl_51, wl_52, wl_53, wl_54, wl_55, wl_56, wl_57, wl_58, wl_59, wl_60, wl_61, wl_62, wl_63, wl_64, wl_65, wl_66, wl_67, wl_68, wl_69, wl_70, wl_71, wl_72, wl_73, wl_74, wl_75, wl_76, wl_77, wl_78, wl_79, wl_80, wl_81, wl_82, wl_83, wl_84, wl_85, wl_86, wl_87, wl_88, wl_89, wl_90, wl_91, wl_92, wl_93, wl_94, wl_95, wl_96, wl_97, wl_98, wl_99, wl_100, wl_101, wl_102, wl_103, wl_104, wl_105, wl_106, wl_107, wl_108, wl_109, wl_110, wl_111, wl_112, wl_113, wl_114, wl_115, wl_116, wl_117, wl_118, wl_119, wl_120, wl_121, wl_122, wl_123, wl_124, wl_125, wl_126, wl_127, wl_128, wl_129, wl_130, wl_159, wl_160, wl_200, wl_232, wl_255, wl_256, wl_300, wl_359, wl_360, wl_400, wl_592, wl_992, wl_999, wl_1000, wl_1024, wl_3456, wl_6512, wl_7104, wl_10000, wl_11264, wl_12345, wl_32767, wl_1000000000, wl_1103515245, wl_2000000000, w_add, w_sub, w_mul, w_neg, w_lt, w_le, w_eq, w_cl, w_in, w_nat, w_max2, w_min2, w_abs2, iltT, iltF, ileT, ileF, ieqT, ieqF, bv_01, bft, bv_0, bv_1, bv_t, bv_f, cond_true, cond_false, Bool.not_true, Bool.not_false, if_true, if_false, true_or, or_true, true_and, and_true, ↓reduceIte, decide_true, decide_false, reduceCtorEq, u2_s, u2_o, u2_k, u2_u2, Bool.true_or, Bool.or_true, Bool.false_or, Bool.or_false, Bool.and_true, Bool.true_and, Bool.and_false, Bool.false_and, eq_self, not_true_eq_false, not_false_eq_true, and_self, and_true, true_and, false_and, and_false, w_dv, dvm, XSH_e hX, h1, hkw]
      rw [eq_45_26]
      cases cs : sgB T e (tb (i + 1)) 43 with
      | true =>
        rw [cs] at e4
        simp (disch := first | assumption | omega | (simp (disch := omega) only [vM_u, vS_u]; first | assumption | omega)) only [hK, hL, hR, hI, hN, sI, hSp, hC, hW, li, lr, ↓cnd_a, ↓cnd_o, ↓cnd_n, ↓cnd_d, ↓z0, ↓z1, ↓z2, y0n, y1i, y2r, y0e, y1e, y2e, wl_0, wl_1, wl_2, wl_3, wl_4, wl_5, wl_6, wl_7, wl_8, wl_9, wl_10, wl_11, wl_12, wl_13, wl_14, wl_15, wl_16, wl_17, wl_18, wl_19, wl_20, wl_21, wl_22, wl_23, wl_24, wl_25, wl_26, wl_27, wl_28, wl_29, wl_30, wl_31, wl_32, wl_33, wl_34, wl_35, wl_36, wl_37, wl_38, wl_39, wl_40, wl_41, wl_42, wl_43, wl_44, wl_45, wl_46, wl_47, wl_48, wl_49, wl_50, wl_51, wl_52, wl_53, wl_54, wl_55, wl_56, wl_57, wl_58, wl_59, wl_60, wl_61, wl_62, wl_63, wl_64, wl_65, wl_66, wl_67, wl_68, wl_69, wl_70, wl_71, wl_72, wl_73, wl_74, wl_75, wl_76, wl_77, wl_78, wl_79, wl_80, wl_81, wl_82, wl_83, wl_84, wl_85, wl_86, wl_87, wl_88, wl_89, wl_90, wl_91, wl_92, wl_93, wl_94, wl_95, wl_96, wl_97, wl_98, wl_99, wl_100, wl_101, wl_102, wl_103, wl_104, wl_105, wl_106, wl_107, wl_108, wl_109, wl_110, wl_111, wl_112, wl_113, wl_114, wl_115, wl_116, wl_117, wl_118, wl_119, wl_120, wl_121, wl_122, wl_123, wl_124, wl_125, wl_126, wl_127, wl_128, wl_129, wl_130, wl_159, wl_160, wl_200, wl_232, wl_255, wl_256, wl_300, wl_359, wl_360, wl_400, wl_592, wl_992, wl_999, wl_1000, wl_1024, wl_3456, wl_6512, wl_7104, wl_10000, wl_11264, wl_12345, wl_32767, wl_1000000000, wl_1103515245, wl_2000000000, w_add, w_sub, w_mul, w_neg, w_lt, w_le, w_eq, w_cl, w_in, w_nat, w_max2, w_min2, w_abs2, iltT, iltF, ileT, ileF, ieqT, ieqF, bv_01, bft, bv_0, bv_1, bv_t, bv_f, cond_true, cond_false, Bool.not_true, Bool.not_false, if_true, if_false, true_or, or_true, true_and, and_true, ↓reduceIte, decide_true, decide_false, reduceCtorEq, u2_s, u2_o, u2_k, u2_u2, Bool.true_or, Bool.or_true, Bool.false_or, Bool.or_false, Bool.and_true, Bool.true_and, Bool.and_false, Bool.false_and, eq_self, not_true_eq_false, not_false_eq_true, and_self, and_true, true_and, false_and, and_false, w_dv, dvm, XSH_e hX, k1, e1, e4, show i + 1 + 1 = i + 2 by omega]
      | false =>
        rw [cs] at e4
        simp (disch := first | assumption | omega | (simp (disch := omega) only [vM_u, vS_u]; first | assumption | omega)) only [hK, hL, hR, hI, hN, sI, hSp, hC, hW, li, lr, ↓cnd_a, ↓cnd_o, ↓cnd_n, ↓cnd_d, ↓z0, ↓z1, ↓z2, y0n, y1i, y2r, y0e, y1e, y2e, wl_0, wl_1, wl_2, wl_3, wl_4, wl_5, wl_6, wl_7, wl_8, wl_9, wl_10, wl_11, wl_12, wl_13, wl_14, wl_15, wl_16, wl_17, wl_18, wl_19, wl_20, wl_21, wl_22, wl_23, wl_24, wl_25, wl_26, wl_27, wl_28, wl_29, wl_30, wl_31, wl_32, wl_33, wl_34, wl_35, wl_36, wl_37, wl_38, wl_39, wl_40, wl_41, wl_42, wl_43, wl_44, wl_45, wl_46, wl_47, wl_48, wl_49, wl_50, wl_51, wl_52, wl_53, wl_54, wl_55, wl_56, wl_57, wl_58, wl_59, wl_60, wl_61, wl_62, wl_63, wl_64, wl_65, wl_66, wl_67, wl_68, wl_69, wl_70, wl_71, wl_72, wl_73, wl_74, wl_75, wl_76, wl_77, wl_78, wl_79, wl_80, wl_81, wl_82, wl_83, wl_84, wl_85, wl_86, wl_87, wl_88, wl_89, wl_90, wl_91, wl_92, wl_93, wl_94, wl_95, wl_96, wl_97, wl_98, wl_99, wl_100, wl_101, wl_102, wl_103, wl_104, wl_105, wl_106, wl_107, wl_108, wl_109, wl_110, wl_111, wl_112, wl_113, wl_114, wl_115, wl_116, wl_117, wl_118, wl_119, wl_120, wl_121, wl_122, wl_123, wl_124, wl_125, wl_126, wl_127, wl_128, wl_129, wl_130, wl_159, wl_160, wl_200, wl_232, wl_255, wl_256, wl_300, wl_359, wl_360, wl_400, wl_592, wl_992, wl_999, wl_1000, wl_1024, wl_3456, wl_6512, wl_7104, wl_10000, wl_11264, wl_12345, wl_32767, wl_1000000000, wl_1103515245, wl_2000000000, w_add, w_sub, w_mul, w_neg, w_lt, w_le, w_eq, w_cl, w_in, w_nat, w_max2, w_min2, w_abs2, iltT, iltF, ileT, ileF, ieqT, ieqF, bv_01, bft, bv_0, bv_1, bv_t, bv_f, cond_true, cond_false, Bool.not_true, Bool.not_false, if_true, if_false, true_or, or_true, true_and, and_true, ↓reduceIte, decide_true, decide_false, reduceCtorEq, u2_s, u2_o, u2_k, u2_u2, Bool.true_or, Bool.or_true, Bool.false_or, Bool.or_false, Bool.and_true, Bool.true_and, Bool.and_false, Bool.false_and, eq_self, not_true_eq_false, not_false_eq_true, and_self, and_true, true_and, false_and, and_false, w_dv, dvm, XSH_e hX, k1, e1, e4]
end LWC
