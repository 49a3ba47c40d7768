/-! the class's law reader: and, or, to the end -/
section LWF
variable {vn vc vw : Nat} {K L : Nat → Nat} {R : Nat → Nat → Nat} {I : Nat → Nat → Int32} {J : Nat → Nat → Int64}
theorem sumN_len {T : Int → Int} {e : Int} : ∀ (m : Nat) (p : Int) (ss : List Int) (r : Int × List Int), sumN T e m p ss = .ok r → ss.length ≤ r.2.length
  | 0, p, ss, r, h => by
    unfold sumN at h
    injection h with h
    subst h
    exact Nat.le_refl _
  | m + 1, p, ss, r, h => by
    unfold sumN at h
    cases c : sgB T e (sk T e p) 43 with
    | false =>
      rw [c, if_neg (by simp)] at h
      injection h with h
      subst h
      exact Nat.le_refl _
    | true =>
      rw [c, if_pos rfl] at h
      cases h2 : pPart T e (sk T e p + 1) with
      | error f => rw [h2] at h; exact nomatch h
      | ok t =>
        rw [h2] at h
        have := sumN_len m _ _ _ h
        rw [List.length_append] at this
        omega
theorem everyN_len {A : Int → PRes} {T : Int → Int} {e : Int} : ∀ (m : Nat) (p : Int) (ss : List Int) (r : Int × List Int), everyN A T e m p ss = .ok r → ss.length ≤ r.2.length
  | 0, p, ss, r, h => by
    unfold everyN at h
    injection h with h
    subst h
    exact Nat.le_refl _
  | m + 1, p, ss, r, h => by
    unfold everyN at h
    cases c : hasB T e (sk T e p) W_and with
    | false =>
      rw [c, if_neg (by simp)] at h
      injection h with h
      subst h
      exact Nat.le_refl _
    | true =>
      rw [c, if_pos rfl] at h
      cases h2 : A (lw T e (sk T e p)) with
      | error f => rw [h2] at h; exact nomatch h
      | ok t =>
        rw [h2] at h
        have := everyN_len m _ _ _ h
        rw [List.length_append] at this
        omega
theorem someN_len {A : Int → PRes} {T : Int → Int} {e : Int} : ∀ (m : Nat) (p : Int) (ss : List Int) (r : Int × List Int), someN A T e m p ss = .ok r → ss.length ≤ r.2.length
  | 0, p, ss, r, h => by
    unfold someN at h
    injection h with h
    subst h
    exact Nat.le_refl _
  | m + 1, p, ss, r, h => by
    unfold someN at h
    cases c : hasB T e (sk T e p) W_or with
    | false =>
      rw [c, if_neg (by simp)] at h
      injection h with h
      subst h
      exact Nat.le_refl _
    | true =>
      rw [c, if_pos rfl] at h
      cases h2 : pEvery A T e (lw T e (sk T e p)) with
      | error f => rw [h2] at h; exact nomatch h
      | ok t =>
        rw [h2] at h
        have := someN_len m _ _ _ h
        rw [List.length_append] at this
        omega
def LN (A : Int → PRes) : Prop := ∀ p r, A p = .ok r → 1 ≤ r.2.length
theorem pEvery_len {A : Int → PRes} {T : Int → Int} {e : Int} (hA : LN A) : LN (pEvery A T e) := by
  intro p r h
  unfold pEvery at h
  cases h2 : A p with
  | error f => rw [h2] at h; exact nomatch h
  | ok t =>
    rw [h2] at h
    have := everyN_len _ _ _ _ h
    have := hA _ _ h2
    omega
theorem pSome_len {A : Int → PRes} {T : Int → Int} {e : Int} (hA : LN A) : LN (pSome A T e) := by
  intro p r h
  unfold pSome at h
  cases h2 : pEvery A T e p with
  | error f => rw [h2] at h; exact nomatch h
  | ok t =>
    rw [h2] at h
    have := someN_len _ _ _ _ h
    have := pEvery_len hA _ _ h2
    omega
theorem pSum_len {T : Int → Int} {e : Int} : LN (pSum T e) := by
  intro p r h
  unfold pSum at h
  cases h2 : pPart T e p with
  | error f => rw [h2] at h; exact nomatch h
  | ok t =>
    rw [h2] at h
    have := sumN_len _ _ _ _ h
    have h3 : t.2.length = 1 := by
      unfold pPart at h2
      dsimp only at h2
      split at h2
      · cases h4 : pFig T e 0 999 (sk T e p) with
        | error f => rw [h4] at h2; exact nomatch h2
        | ok u => rw [h4] at h2; injection h2 with h2; subst h2; rfl
      · split at h2
        · exact nomatch h2
        · injection h2 with h2; subst h2; rfl
    omega
theorem pPlain_len {T : Int → Int} {e : Int} : LN (pPlain T e) := by
  intro p r h
  unfold pPlain at h
  dsimp only at h
  split at h
  · injection h with h; subst h; exact Nat.le_refl _
  · cases h2 : pSum T e (sk T e p) with
    | error f => rw [h2] at h; exact nomatch h
    | ok t =>
      rw [h2] at h
      dsimp only at h
      have := pSum_len _ _ h2
      split at h
      · cases h3 : pSum T e (sk T e t.1 + 1) with
        | error f => rw [h3] at h; exact nomatch h
        | ok u =>
          rw [h3] at h; injection h with h; subst h
          dsimp only
          rw [List.length_append]
          omega
      · split at h
        · cases h3 : pSum T e (sk T e t.1 + 1) with
          | error f => rw [h3] at h; exact nomatch h
          | ok u =>
            rw [h3] at h; injection h with h; subst h
            dsimp only
            rw [List.length_append]
            omega
        · exact nomatch h
theorem pAtom_len {T : Int → Int} {e : Int} : ∀ (b : Nat), LN (pAtom T e b)
  | 0 => by
    intro p r h
    unfold pAtom at h
    dsimp only at h
    split at h
    · exact nomatch h
    · exact pPlain_len _ _ h
  | b + 1 => by
    intro p r h
    unfold pAtom at h
    dsimp only at h
    split at h
    · cases h2 : pAtom T e b (lw T e (sk T e p)) with
      | error f => rw [h2] at h; exact nomatch h
      | ok t =>
        rw [h2] at h; injection h with h; subst h
        dsimp only
        rw [List.length_append]
        have := pAtom_len b _ _ h2
        omega
    · split at h
      · cases h2 : pSome (pAtom T e b) T e (sk T e p + 1) with
        | error f => rw [h2] at h; exact nomatch h
        | ok t =>
          rw [h2] at h
          dsimp only at h
          have := pSome_len (pAtom_len b) _ _ h2
          split at h
          · injection h with h; subst h; exact this
          · exact nomatch h
      · exact pPlain_len _ _ h
theorem pAtom_sk (T : Int → Int) (e : Int) (b : Nat) (p : Int) : pAtom T e b (sk T e p) = pAtom T e b p := by
  cases b with
  | zero => unfold pAtom; rw [sk_sk]
  | succ b => unfold pAtom; rw [sk_sk]
theorem pEvery_sk {A : Int → PRes} {T : Int → Int} {e : Int} (h : ∀ p, A (sk T e p) = A p) (p : Int) : pEvery A T e (sk T e p) = pEvery A T e p := by
  unfold pEvery
  rw [h]
theorem pSome_sk {A : Int → PRes} {T : Int → Int} {e : Int} (h : ∀ p, A (sk T e p) = A p) (p : Int) : pSome A T e (sk T e p) = pSome A T e p := by
  unfold pSome
  rw [pEvery_sk h]
theorem lpG {d : Nat} {T : Int → Int} {e n c i dep : Int} {tb : Int → Int} {A : Int → PRes} {S : List Int} {w3 : Value} (hX : XSH K L R) (hPR : PR_ A e) (hA1 : LN A) (hAs : ∀ p, A (sk T e p) = A p) (hAt : AtC K L R (fun I' => (((vn, vc, vw, K, L, R), I', J) : HS)) T e n tb A (d + 3) dep) (hc : 0 ≤ c ∧ c < 400) (hT : Tp I T e) (hG : TkI I T e n tb) (hA : SWA K L I) (hi : 0 ≤ i ∧ i ≤ n) (gS : StpR I S) (hl : (S.length : Int) + (if c = 0 then 0 else 1) ≤ i) :
    (∀ f, pEvery A T e (tb i) = .error f → ∃ I' j', atv PR (d + 3) cd_43 2 [.ref 88, .int (w dep), .int (w c), w3] [] (((vn, vc, vw, K, L, R), nx I i, J) : HS) = some (.inl (some (.int (w 0))), (((vn, vc, vw, K, L, R), nx I' j', J) : HS)) ∧ FLw I I' ∧ (0 ≤ j' ∧ j' ≤ n) ∧ tb j' = f) ∧
    (∀ r, pEvery A T e (tb i) = .ok r → ∃ I' j' v3, FLw I I' ∧ (i < j' ∧ j' ≤ n) ∧ tb j' = sk T e r.1 ∧ StpR I' (S ++ (if c = 0 then r.2 else r.2 ++ [7168])) ∧ i + r.2.length ≤ j' ∧ atv PR (d + 3) cd_43 2 [.ref 88, .int (w dep), .int (w c), w3] [] (((vn, vc, vw, K, L, R), nx I i, J) : HS) = if hasB T e (tb j') W_or = true then atv PR (d + 3) cd_43 2 [.ref 88, .int (w dep), .int (w (c + 1)), v3] [] (((vn, vc, vw, K, L, R), nx I' (j' + 1), J) : HS) else some (.inl (some (.int (w 1))), (((vn, vc, vw, K, L, R), nx I' j', J) : HS))) := by
  have g2 := hG.2.1
  have hbb := TkI_tb hG hi hT.2.1.1
  have hl0 : (S.length : Int) ≤ i := by
    by_cases c0 : c = 0
    · rw [if_pos c0] at hl; omega
    · rw [if_neg c0] at hl; omega
  have gA := hAt I i S hT hG hA hi gS hl0
  unfold pEvery
  cases cA : A (tb i) with
  | error f =>
    rw [cA] at gA
    obtain ⟨I2, j2, q1, q2, q3, q4⟩ := gA
    refine ⟨fun f' h => ?_, fun r h => (nomatch h)⟩
    injection h with h
    subst h
    refine ⟨I2, j2, ?_, q2, q3, q4⟩
    rw [eq_43_2]
    simp (disch := first | assumption | omega | (simp (disch := omega) only [vM_u, vS_u]; first | assumption | omega)) only [hK, hL, hR, hI, hN, sI, hSp, hC, hW, li, lr, ↓cnd_a, ↓cnd_o, ↓cnd_n, ↓cnd_d, ↓z0, ↓z1, ↓z2, y0n, y1i, y2r, y0e, y1e, y2e, wl_0, wl_1, wl_2, wl_3, wl_4, wl_5, wl_6, wl_7, wl_8, wl_9, wl_10, wl_11, wl_12, wl_13, wl_14, wl_15, wl_16, wl_17, wl_18, wl_19, wl_20, wl_21, wl_22, wl_23, wl_24, wl_25, wl_26, wl_27, wl_28, wl_29, wl_30, wl_31, wl_32, wl_33, wl_34, wl_35, wl_36, wl_37, wl_38, wl_39, wl_40, wl_41, wl_42, wl_43, wl_44, wl_45, wl_46, wl_47, wl_48, wl_49, wl_50, wl_51, wl_52, wl_53, wl_54, wl_55, wl_56, wl_57, wl_58, wl_59, wl_60, wl_61, wl_62, wl_63, wl_64, wl_65, wl_66, wl_67, wl_68, wl_69, wl_70, wl_71, wl_72, wl_73, wl_74, wl_75, wl_76, wl_77, wl_78, wl_79, wl_80, wl_81, wl_82, wl_83, wl_84, wl_85, wl_86, wl_87, wl_88, wl_89, wl_90, wl_91, wl_92, wl_93, wl_94, wl_95, wl_96, wl_97, wl_98, wl_99, wl_100, wl_101, wl_102, wl_103, wl_104, wl_105, wl_106, wl_107, wl_108, wl_109, wl_110, wl_111, wl_112, wl_113, wl_114, wl_115, wl_116, wl_117, wl_118, wl_119, wl_120, wl_121, wl_122, wl_123, wl_124, wl_125, wl_126, wl_127, wl_128, wl_129, wl_130, wl_159, wl_160, wl_200, wl_232, wl_255, wl_256, wl_300, wl_359, wl_360, wl_400, wl_592, wl_992, wl_999, wl_1000, wl_1024, wl_3456, wl_6512, wl_7104, wl_10000, wl_11264, wl_12345, wl_32767, wl_1000000000, wl_1103515245, wl_2000000000, w_add, w_sub, w_mul, w_neg, w_lt, w_le, w_eq, w_cl, w_in, w_nat, w_max2, w_min2, w_abs2, iltT, iltF, ileT, ileF, ieqT, ieqF, bv_01, bft, bv_0, bv_1, bv_t, bv_f, cond_true, cond_false, Bool.not_true, Bool.not_false, if_true, if_false, true_or, or_true, true_and, and_true, ↓reduceIte, decide_true, decide_false, reduceCtorEq, u2_s, u2_o, u2_k, u2_u2, Bool.true_or, Bool.or_true, Bool.false_or, Bool.or_false, Bool.and_true, Bool.true_and, Bool.and_false, Bool.false_and, eq_self, not_true_eq_false, not_false_eq_true, and_self, and_true, true_and, false_and, and_false, w_dv, dvm, XSH_e hX]
    rw [eq_43_9]
    simp (disch := first | assumption | omega | (simp (disch := omega) only [vM_u, vS_u]; first | assumption | omega)) only [hK, hL, hR, hI, hN, sI, hSp, hC, hW, li, lr, ↓cnd_a, ↓cnd_o, ↓cnd_n, ↓cnd_d, ↓z0, ↓z1, ↓z2, y0n, y1i, y2r, y0e, y1e, y2e, wl_0, wl_1, wl_2, wl_3, wl_4, wl_5, wl_6, wl_7, wl_8, wl_9, wl_10, wl_11, wl_12, wl_13, wl_14, wl_15, wl_16, wl_17, wl_18, wl_19, wl_20, wl_21, wl_22, wl_23, wl_24, wl_25, wl_26, wl_27, wl_28, wl_29, wl_30, wl_31, wl_32, wl_33, wl_34, wl_35, wl_36, wl_37, wl_38, wl_39, wl_40, wl_41, wl_42, wl_43, wl_44, wl_45, wl_46, wl_47, wl_48, wl_49, wl_50, wl_51, wl_52, wl_53, wl_54, wl_55, wl_56, wl_57, wl_58, wl_59, wl_60, wl_61, wl_62, wl_63, wl_64, wl_65, wl_66, wl_67, wl_68, wl_69, wl_70, wl_71, wl_72, wl_73, wl_74, wl_75, wl_76, wl_77, wl_78, wl_79, wl_80, wl_81, wl_82, wl_83, wl_84, wl_85, wl_86, wl_87, wl_88, wl_89, wl_90, wl_91, wl_92, wl_93, wl_94, wl_95, wl_96, wl_97, wl_98, wl_99, wl_100, wl_101, wl_102, wl_103, wl_104, wl_105, wl_106, wl_107, wl_108, wl_109, wl_110, wl_111, wl_112, wl_113, wl_114, wl_115, wl_116, wl_117, wl_118, wl_119, wl_120, wl_121, wl_122, wl_123, wl_124, wl_125, wl_126, wl_127, wl_128, wl_129, wl_130, wl_159, wl_160, wl_200, wl_232, wl_255, wl_256, wl_300, wl_359, wl_360, wl_400, wl_592, wl_992, wl_999, wl_1000, wl_1024, wl_3456, wl_6512, wl_7104, wl_10000, wl_11264, wl_12345, wl_32767, wl_1000000000, wl_1103515245, wl_2000000000, w_add, w_sub, w_mul, w_neg, w_lt, w_le, w_eq, w_cl, w_in, w_nat, w_max2, w_min2, w_abs2, iltT, iltF, ileT, ileF, ieqT, ieqF, bv_01, bft, bv_0, bv_1, bv_t, bv_f, cond_true, cond_false, Bool.not_true, Bool.not_false, if_true, if_false, true_or, or_true, true_and, and_true, ↓reduceIte, decide_true, decide_false, reduceCtorEq, u2_s, u2_o, u2_k, u2_u2, Bool.true_or, Bool.or_true, Bool.false_or, Bool.or_false, Bool.and_true, Bool.true_and, Bool.and_false, Bool.false_and, eq_self, not_true_eq_false, not_false_eq_true, and_self, and_true, true_and, false_and, and_false, w_dv, dvm, XSH_e hX, q1]
  | ok r =>
    rw [cA] at gA
    obtain ⟨I2, j2, q1, q2, q3, q4, q5, q6⟩ := gA
    have hr := hPR _ r (by omega) cA
    have hlen := hA1 _ r cA
    obtain ⟨I3, e1, e2, e3⟩ := sp_47 (d := d + 1) (op := 6) (c := 0) (i := j2) (vn := vn) (vc := vc) (vw := vw) (J := J) hX q5 (fun h0 => by omega) (by omega) (by omega)
    rw [if_pos rfl] at e3
    have f3 := FLw_tr q2 e2
    have hst : atv PR (d + 3) cd_43 2 [.ref 88, .int (w dep), .int (w c), w3] [] (((vn, vc, vw, K, L, R), nx I i, J) : HS) = atv PR (d + 3) cd_43 9 [.ref 88, .int (w dep), .int (w c), .int (w (0 + 1))] [] (((vn, vc, vw, K, L, R), nx I3 j2, J) : HS) := by
      rw [eq_43_2]
      simp (disch := first | assumption | omega | (simp (disch := omega) only [vM_u, vS_u]; first | assumption | omega)) only [hK, hL, hR, hI, hN, sI, hSp, hC, hW, li, lr, ↓cnd_a, ↓cnd_o, ↓cnd_n, ↓cnd_d, ↓z0, ↓z1, ↓z2, y0n, y1i, y2r, y0e, y1e, y2e, wl_0, wl_1, wl_2, wl_3, wl_4, wl_5, wl_6, wl_7, wl_8, wl_9, wl_10, wl_11, wl_12, wl_13, wl_14, wl_15, wl_16, wl_17, wl_18, wl_19, wl_20, wl_21, wl_22, wl_23, wl_24, wl_25, wl_26, wl_27, wl_28, wl_29, wl_30, wl_31, wl_32, wl_33, wl_34, wl_35, wl_36, wl_37, wl_38, wl_39, wl_40, wl_41, wl_42, wl_43, wl_44, wl_45, wl_46, wl_47, wl_48, wl_49, wl_50, wl_51, wl_52, wl_53, wl_54, wl_55, wl_56, wl_57, wl_58, wl_59, wl_60, wl_61, wl_62, wl_63, wl_64, wl_65, wl_66, wl_67, wl_68, wl_69, wl_70, wl_71, wl_72, wl_73, wl_74, wl_75, wl_76, wl_77, wl_78, wl_79, wl_80, wl_81, wl_82, wl_83, wl_84, wl_85, wl_86, wl_87, wl_88, wl_89, wl_90, wl_91, wl_92, wl_93, wl_94, wl_95, wl_96, wl_97, wl_98, wl_99, wl_100, wl_101, wl_102, wl_103, wl_104, wl_105, wl_106, wl_107, wl_108, wl_109, wl_110, wl_111, wl_112, wl_113, wl_114, wl_115, wl_116, wl_117, wl_118, wl_119, wl_120, wl_121, wl_122, wl_123, wl_124, wl_125, wl_126, wl_127, wl_128, wl_129, wl_130, wl_159, wl_160, wl_200, wl_232, wl_255, wl_256, wl_300, wl_359, wl_360, wl_400, wl_592, wl_992, wl_999, wl_1000, wl_1024, wl_3456, wl_6512, wl_7104, wl_10000, wl_11264, wl_12345, wl_32767, wl_1000000000, wl_1103515245, wl_2000000000, w_add, w_sub, w_mul, w_neg, w_lt, w_le, w_eq, w_cl, w_in, w_nat, w_max2, w_min2, w_abs2, iltT, iltF, ileT, ileF, ieqT, ieqF, bv_01, bft, bv_0, bv_1, bv_t, bv_f, cond_true, cond_false, Bool.not_true, Bool.not_false, if_true, if_false, true_or, or_true, true_and, and_true, ↓reduceIte, decide_true, decide_false, reduceCtorEq, u2_s, u2_o, u2_k, u2_u2, Bool.true_or, Bool.or_true, Bool.false_or, Bool.or_false, Bool.and_true, Bool.true_and, Bool.and_false, Bool.false_and, eq_self, not_true_eq_false, not_false_eq_true, and_self, and_true, true_and, false_and, and_false, w_dv, dvm, XSH_e hX]
      rw [eq_43_9]
      simp (disch := first | assumption | omega | (simp (disch := omega) only [vM_u, vS_u]; first | assumption | omega)) only [hK, hL, hR, hI, hN, sI, hSp, hC, hW, li, lr, ↓cnd_a, ↓cnd_o, ↓cnd_n, ↓cnd_d, ↓z0, ↓z1, ↓z2, y0n, y1i, y2r, y0e, y1e, y2e, wl_0, wl_1, wl_2, wl_3, wl_4, wl_5, wl_6, wl_7, wl_8, wl_9, wl_10, wl_11, wl_12, wl_13, wl_14, wl_15, wl_16, wl_17, wl_18, wl_19, wl_20, wl_21, wl_22, wl_23, wl_24, wl_25, wl_26, wl_27, wl_28, wl_29, wl_30, wl_31, wl_32, wl_33, wl_34, wl_35, wl_36, wl_37, wl_38, wl_39, wl_40, wl_41, wl_42, wl_43, wl_44, wl_45, wl_46, wl_47, wl_48, wl_49, wl_50, wl_51, wl_52, wl_53, wl_54, wl_55, wl_56, wl_57, wl_58, wl_59, wl_60, wl_61, wl_62, wl_63, wl_64, wl_65, wl_66, wl_67, wl_68, wl_69, wl_70, wl_71, wl_72, wl_73, wl_74, wl_75, wl_76, wl_77, wl_78, wl_79, wl_80, wl_81, wl_82, wl_83, wl_84, wl_85, wl_86, wl_87, wl_88, wl_89, wl_90, wl_91, wl_92, wl_93, wl_94, wl_95, wl_96, wl_97, wl_98, wl_99, wl_100, wl_101, wl_102, wl_103, wl_104, wl_105, wl_106, wl_107, wl_108, wl_109, wl_110, wl_111, wl_112, wl_113, wl_114, wl_115, wl_116, wl_117, wl_118, wl_119, wl_120, wl_121, wl_122, wl_123, wl_124, wl_125, wl_126, wl_127, wl_128, wl_129, wl_130, wl_159, wl_160, wl_200, wl_232, wl_255, wl_256, wl_300, wl_359, wl_360, wl_400, wl_592, wl_992, wl_999, wl_1000, wl_1024, wl_3456, wl_6512, wl_7104, wl_10000, wl_11264, wl_12345, wl_32767, wl_1000000000, wl_1103515245, wl_2000000000, w_add, w_sub, w_mul, w_neg, w_lt, w_le, w_eq, w_cl, w_in, w_nat, w_max2, w_min2, w_abs2, iltT, iltF, ileT, ileF, ieqT, ieqF, bv_01, bft, bv_0, bv_1, bv_t, bv_f, cond_true, cond_false, Bool.not_true, Bool.not_false, if_true, if_false, true_or, or_true, true_and, and_true, ↓reduceIte, decide_true, decide_false, reduceCtorEq, u2_s, u2_o, u2_k, u2_u2, Bool.true_or, Bool.or_true, Bool.false_or, Bool.or_false, Bool.and_true, Bool.true_and, Bool.and_false, Bool.false_and, eq_self, not_true_eq_false, not_false_eq_true, and_self, and_true, true_and, false_and, and_false, w_dv, dvm, XSH_e hX, q1, e1]
    have IH := lpE (S := S) hX hPR hA1 hAs hAt hc (e - r.1).toNat r.1 r.2 (0 + 1) j2 I3 (Tp_l f3 hT) (TkI_l f3 hG) (SWA_l f3 hA) (by omega) (by omega) q3 q4 e3 (by omega) hr.2 (Nat.le_refl _)
    rw [hst]
    refine ⟨fun f h => ?_, fun r' h => ?_⟩
    · obtain ⟨I', j', z1, z2, z3, z4⟩ := IH.1 f h
      exact ⟨I', j', z1, FLw_tr f3 z2, z3, z4⟩
    · obtain ⟨I', j', v3, z1, z2, z3, z4, z5, z6, z7⟩ := IH.2 r' h
      exact ⟨I', j', v3, FLw_tr f3 z1, by omega, z3, z4, by omega, z7⟩
theorem sp_43 {d : Nat} {T : Int → Int} {e n i dep : Int} {tb : Int → Int} {A : Int → PRes} {S : List Int} (hX : XSH K L R) (hPR : PR_ A e) (hA1 : LN A) (hAs : ∀ p, A (sk T e p) = A p) (hAt : AtC K L R (fun I' => (((vn, vc, vw, K, L, R), I', J) : HS)) T e n tb A (d + 3) dep) (hT : Tp I T e) (hG : TkI I T e n tb) (hA : SWA K L I) (hi : 0 ≤ i ∧ i ≤ n) (gS : StpR I S) (hl : (S.length : Int) ≤ i) : GoC I (fun I' => (((vn, vc, vw, K, L, R), I', J) : HS)) T e n tb S i (ev PR (d + 4) 43 [.ref 88, .int (w dep)] (((vn, vc, vw, K, L, R), nx I i, J) : HS)) (pSome A T e (tb i)) := by
  have g2 := hG.2.1
  have hbb := TkI_tb hG hi hT.2.1.1
  have lpB : ∀ (m : Nat) (p : Int) (ss : List Int) (c j : Int) (I1 : Nat → Nat → Int32) (v3 : Value), 1 ≤ c → c ≤ j → (0 ≤ j ∧ j ≤ n) → FLw I I1 → tb j = sk T e p → StpR I1 (S ++ ss) → i + ss.length ≤ j → p ≤ e → (e - p).toNat ≤ m → GoC I (fun I' => (((vn, vc, vw, K, L, R), I', J) : HS)) T e n tb S i (if hasB T e (tb j) W_or = true then atv PR (d + 3) cd_43 2 [.ref 88, .int (w dep), .int (w c), v3] [] (((vn, vc, vw, K, L, R), nx I1 (j + 1), J) : HS) else some (.inl (some (.int (w 1))), (((vn, vc, vw, K, L, R), nx I1 j, J) : HS))) (someN A T e m p ss) := by
    intro m
    induction m with
    | zero =>
      intro p ss c j I1 v3 c1 cj hj f1 ht g1 hlen hpe hm
      have hsk := sk_r T e p
      rw [has_e (by omega) (by decide), if_neg (by simp)]
      exact ⟨I1, j, rfl, f1, hj, by rw [ht, sk_sk], g1, hlen⟩
    | succ m ih =>
      intro p ss c j I1 v3 c1 cj hj f1 ht g1 hlen hpe hm
      have hsk := sk_r T e p
      unfold someN
      rw [ht]
      cases cs : hasB T e (sk T e p) W_or with
      | false =>
        rw [if_neg (by simp), if_neg (by simp)]
        exact ⟨I1, j, rfl, f1, hj, by dsimp only; rw [ht, sk_sk], g1, hlen⟩
      | true =>
        rw [if_pos rfl, if_pos rfl]
        have hc2 := has_lt cs (by decide)
        have hjn : j < n := (TkI_tb hG hj hT.2.1.1).2.2.2.mp (by omega)
        have hkl : 97 ≤ T (sk T e p) ∧ T (sk T e p) ≤ 122 := by
          by_cases c : 97 ≤ T (sk T e p) ∧ T (sk T e p) ≤ 122
          · exact c
          · have := kw_nl (e := e) c [W_or] 0 (by decide)
            unfold kwI at this
            rw [cs] at this
            simp at this
        have ht1 : tb (j + 1) = sk T e (lw T e (sk T e p)) := by rw [TkI_st hG ⟨hj.1, hjn⟩, ht, tend_L hkl]
        have B := lpG (d := d) (c := c) (dep := dep) (w3 := v3) (vn := vn) (vc := vc) (vw := vw) (J := J) hX hPR hA1 hAs hAt (by omega) (Tp_l f1 hT) (TkI_l f1 hG) (SWA_l f1 hA) (i := j + 1) (by omega) g1 (by rw [List.length_append, if_neg (by omega)]; omega)
        rw [ht1, pEvery_sk hAs] at B
        cases cp : pEvery A T e (lw T e (sk T e p)) with
        | error f =>
          obtain ⟨I', j', k1, k2, k3, k4⟩ := B.1 f cp
          rw [k1]
          exact ⟨I', j', rfl, FLw_tr f1 k2, k3, k4⟩
        | ok r =>
          obtain ⟨I', j', v3', k1, k2, k3, k4, k5, k6⟩ := B.2 r cp
          have hr := pEvery_r hPR _ r (by omega) cp
          rw [if_neg (by omega)] at k4
          rw [k6]
          refine ih r.1 (ss ++ (r.2 ++ [7168])) (c + 1) j' I' v3' (by omega) (by omega) (by omega) (FLw_tr f1 k1) k3 (by rw [← List.append_assoc]; exact k4) ?_ (by omega) (by omega)
          rw [List.length_append, List.length_append, List.length_singleton]
          omega
  have B := lpG (d := d) (c := 0) (dep := dep) (w3 := .retAddr 0) (vn := vn) (vc := vc) (vw := vw) (J := J) hX hPR hA1 hAs hAt (by omega) hT hG hA hi gS (by rw [if_pos rfl]; omega)
  rw [eq_43]
  unfold pSome
  cases cp : pEvery A T e (tb i) with
  | error f =>
    obtain ⟨I', j', k1, k2, k3, k4⟩ := B.1 f cp
    exact ⟨I', j', k1, k2, k3, k4⟩
  | ok r =>
    obtain ⟨I', j', v3', k1, k2, k3, k4, k5, k6⟩ := B.2 r cp
    have hr := pEvery_r hPR _ r (by omega) cp
    rw [if_pos rfl] at k4
    rw [show (0 : Int) + 1 = 1 from rfl] at k6
    have g := lpB (e - r.1).toNat r.1 r.2 1 j' I' v3' (by omega) (by omega) (by omega) k1 k3 k4 (by omega) (by omega) (Nat.le_refl _)
    rw [← k6] at g
    exact g
end LWF
