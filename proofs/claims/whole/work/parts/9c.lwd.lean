/-! the class's law reader: whole sums, single conditions -/
section LWD
variable {vn vc vw : Nat} {K L : Nat → Nat} {R : Nat → Nat → Nat} {I : Nat → Nat → Int32} {J : Nat → Nat → Int64}
theorem sp_45 {d : Nat} {T : Int → Int} {e n i : Int} {tb : Int → Int} {S : List Int} (hX : XSH K L R) (hT : Tp I T e) (hG : TkI I T e n tb) (hA : SWA K L I) (hi : 0 ≤ i ∧ i ≤ n) (gS : StpR I S) (hl : (S.length : Int) ≤ i) : GoC I (fun I' => (((vn, vc, vw, K, L, R), I', J) : HS)) T e n tb S i (ev PR (d + 3) 45 [.ref 88] (((vn, vc, vw, K, L, R), nx I i, J) : HS)) (pSum T e (tb i)) := by
  have g2 := hG.2.1
  have hbb := TkI_tb hG hi hT.2.1.1
  have lpB : ∀ (m : Nat) (p : Int) (ss : List Int) (c j : Int) (I1 : Nat → Nat → Int32) (v2 v3 : Value), 1 ≤ c → c ≤ j → (0 ≤ j ∧ j ≤ n) → FLw I I1 → tb j = sk T e p → StpR I1 (S ++ ss) → i + ss.length ≤ j → p ≤ e → (e - p).toNat ≤ m → GoC I (fun I' => (((vn, vc, vw, K, L, R), I', J) : HS)) T e n tb S i (if sgB T e (tb j) 43 = true then atv PR (d + 2) cd_45 2 [.ref 88, .int (w c), v2, v3] [] (((vn, vc, vw, K, L, R), nx I1 (j + 1), J) : HS) else some (.inl (some (.int (w 1))), (((vn, vc, vw, K, L, R), nx I1 j, J) : HS))) (sumN T e m p ss) := by
    intro m
    induction m with
    | zero =>
      intro p ss c j I1 v2 v3 c1 cj hj f1 ht g1 hlen hpe hm
      have hsk := sk_r T e p
      rw [sg_e (by omega), if_neg (by simp)]
      exact ⟨I1, j, rfl, f1, hj, by rw [ht, sk_sk], g1, hlen⟩
    | succ m ih =>
      intro p ss c j I1 v2 v3 c1 cj hj f1 ht g1 hlen hpe hm
      have hsk := sk_r T e p
      unfold sumN
      rw [ht]
      cases cs : sgB T e (sk T e p) 43 with
      | false =>
        rw [if_neg (by simp), if_neg (by simp)]
        exact ⟨I1, j, rfl, f1, hj, by dsimp only; rw [ht, sk_sk], g1, hlen⟩
      | true =>
        rw [if_pos rfl, if_pos rfl]
        obtain ⟨h1, h2⟩ := tend_s cs (by omega)
        have hjn : j < n := (TkI_tb hG hj hT.2.1.1).2.2.2.mp (by omega)
        have ht1 : tb (j + 1) = sk T e (sk T e p + 1) := by rw [TkI_st hG ⟨hj.1, hjn⟩, ht, h2]
        have A := lpA (d := d) (c := c) (w2 := v2) (w3 := v3) (vn := vn) (vc := vc) (vw := vw) (J := J) hX (Tp_l f1 hT) (TkI_l f1 hG) (SWA_l f1 hA) (i := j + 1) (by omega) (by omega) (by omega) g1 (by rw [List.length_append, if_neg (by omega)]; omega)
        rw [ht1, pPart_sk] at A
        cases cp : pPart T e (sk T e p + 1) with
        | error f =>
          obtain ⟨k1, I', k2, k3⟩ := A.1 f cp
          rw [k2]
          exact ⟨I', j + 1, rfl, FLw_tr f1 k3, by omega, by rw [k1, ht1]⟩
        | ok r =>
          obtain ⟨I', v2', v3', k1, k2, k3, k4, k5, k6⟩ := A.2 r cp
          have hr := pPart_r _ r (by omega) cp
          rw [k6]
          rw [if_neg (by omega)] at k5
          have e1 : j + 1 + 1 = j + 2 := by omega
          have e2 : j + 1 + 2 = j + 2 + 1 := by omega
          rw [e1] at k3
          rw [e1, e2]
          exact ih r.1 (ss ++ (r.2 ++ [2048])) (c + 1) (j + 2) I' v2' v3' (by omega) (by omega) (by omega) (FLw_tr f1 k1) k3 (by rw [← List.append_assoc]; exact k5) (by rw [List.length_append, List.length_append, k4, List.length_singleton]; omega) (by omega) (by omega)
  have A := lpA (d := d) (c := 0) (w2 := .retAddr 0) (w3 := .retAddr 0) (vn := vn) (vc := vc) (vw := vw) (J := J) hX hT hG hA hi (by omega) (by omega) gS (by rw [if_pos rfl]; omega)
  rw [eq_45]
  unfold pSum
  cases cp : pPart T e (tb i) with
  | error f =>
    obtain ⟨k1, I', k2, k3⟩ := A.1 f cp
    refine ⟨I', i, ?_, k3, by omega, by rw [k1]⟩
    exact k2
  | ok r =>
    obtain ⟨I', v2', v3', k1, k2, k3, k4, k5, k6⟩ := A.2 r cp
    have hr := pPart_r _ r (by omega) cp
    rw [if_pos rfl] at k5
    have e2 : i + 2 = i + 1 + 1 := by omega
    rw [e2] at k6
    have g := lpB (e - r.1).toNat r.1 r.2 1 (i + 1) I' v2' v3' (by omega) (by omega) (by omega) k1 k3 k5 (by omega) (by omega) (Nat.le_refl _)
    rw [show (0 : Int) + 1 = 1 from rfl] at k6
    rw [← k6] at g
    exact g
theorem pSum_sk (T : Int → Int) (e p : Int) : pSum T e (sk T e p) = pSum T e p := by
  unfold pSum
  rw [pPart_sk]
theorem GoC_e {I I1 : Nat → Nat → Int32} {σ : (Nat → Nat → Int32) → HS} {T : Int → Int} {e n i j : Int} {tb : Int → Int} {S : List Int} {f : Int} (f1 : FLw I I1) (hj : 0 ≤ j ∧ j ≤ n) (h : tb j = f) : GoC I σ T e n tb S i (some (.inl (some (.int (w 0))), σ (nx I1 j))) (.error f) := ⟨I1, j, rfl, f1, hj, h⟩
theorem lp_4443 {d : Nat} {T : Int → Int} {e n i : Int} {tb : Int → Int} {S : List Int} {x : Int32} (hX : XSH K L R) (hT : Tp I T e) (hG : TkI I T e n tb) (hA : SWA K L I) (hi : 0 ≤ i ∧ i ≤ n) (gS : StpR I S) (hl : (S.length : Int) ≤ i) : GoC I (fun I' => (((vn, vc, vw, K, L, R), I', J) : HS)) T e n tb S i (atv PR (d + 3) cd_44 43 [.ref 88, .int x, .retAddr 0] [] (((vn, vc, vw, K, L, R), nx I i, J) : HS)) (pPlain T e (tb i)) := by
  have g2 := hG.2.1
  have hbb := TkI_tb hG hi hT.2.1.1
  have hss := hbb.2.2.1
  unfold pPlain
  dsimp only
  rw [hss]
  have hw := sp_v24 (d := d + 2) (vn := vn) (vc := vc) (vw := vw) (J := J) hX hT hG hA hi
  cases cw : hasB T e (tb i) W_wet with
  | true =>
    have hc := has_lt cw (by decide)
    have hin : i < n := hbb.2.2.2.mp hc.1
    rw [if_pos rfl]
    rw [cw] at hw
    obtain ⟨I1, k1, k2, k3⟩ := sp_46 (d := d + 1) (k := 7) (i := i + 1) (vn := vn) (vc := vc) (vw := vw) (J := J) hX gS (by omega) (by omega)
    have hkl : 97 ≤ T (tb i) ∧ T (tb i) ≤ 122 := by
      by_cases c : 97 ≤ T (tb i) ∧ T (tb i) ≤ 122
      · exact c
      · have := kw_nl (e := e) c [W_wet] 0 (by decide)
        unfold kwI at this
        rw [cw] at this
        simp at this
    refine ⟨I1, i + 1, ?_, k2, by omega, ?_, k3, ?_⟩
    · rw [eq_44_43]
      simp (disch := first | assumption | omega | (simp (disch := omega) only [vM_u, vS_u]; first | assumption | omega)) only [hK, hL, hR, hI, hN, sI, hSp, hC, hW, li, lr, ↓cnd_a, ↓cnd_o, ↓cnd_n, ↓cnd_d, ↓z0, ↓z1, ↓z2, y0n, y1i, y2r, y0e, y1e, y2e, wl_0, wl_1, wl_2, wl_3, wl_4, wl_5, wl_6, wl_7, wl_8, wl_9, wl_10, wl_11, wl_12, wl_13, wl_14, wl_15, wl_16, wl_17, wl_18, wl_19, wl_20, wl_21, wl_22, wl_23, wl_24, wl_25, wl_26, wl_27, wl_28, wl_29, wl_30, wl_31, wl_32, wl_33, wl_34, wl_35, wl_36, wl_37, wl_38, wl_39, wl_40, wl_41, wl_42, wl_43, wl_44, wl_45, wl_46, wl_47, wl_48, wl_49, wl_50, wl_51, wl_52, wl_53, wl_54, wl_55, wl_56, wl_57, wl_58, wl_59, wl_60, wl_61, wl_62, wl_63, wl_64, wl_65, wl_66, wl_67, wl_68, wl_69, wl_70, wl_71, wl_72, wl_73, wl_74, wl_75, wl_76, wl_77, wl_78, wl_79, wl_80, wl_81, wl_82, wl_83, wl_84, wl_85, wl_86, wl_87, wl_88, wl_89, wl_90, wl_91, wl_92, wl_93, wl_94, wl_95, wl_96, wl_97, wl_98, wl_99, wl_100, wl_101, wl_102, wl_103, wl_104, wl_105, wl_106, wl_107, wl_108, wl_109, wl_110, wl_111, wl_112, wl_113, wl_114, wl_115, wl_116, wl_117, wl_118, wl_119, wl_120, wl_121, wl_122, wl_123, wl_124, wl_125, wl_126, wl_127, wl_128, wl_129, wl_130, wl_159, wl_160, wl_200, wl_232, wl_255, wl_256, wl_300, wl_359, wl_360, wl_400, wl_592, wl_992, wl_999, wl_1000, wl_1024, wl_3456, wl_6512, wl_7104, wl_10000, wl_11264, wl_12345, wl_32767, wl_1000000000, wl_1103515245, wl_2000000000, w_add, w_sub, w_mul, w_neg, w_lt, w_le, w_eq, w_cl, w_in, w_nat, w_max2, w_min2, w_abs2, iltT, iltF, ileT, ileF, ieqT, ieqF, bv_01, bft, bv_0, bv_1, bv_t, bv_f, cond_true, cond_false, Bool.not_true, Bool.not_false, if_true, if_false, true_or, or_true, true_and, and_true, ↓reduceIte, decide_true, decide_false, reduceCtorEq, u2_s, u2_o, u2_k, u2_u2, Bool.true_or, Bool.or_true, Bool.false_or, Bool.or_false, Bool.and_true, Bool.true_and, Bool.and_false, Bool.false_and, eq_self, not_true_eq_false, not_false_eq_true, and_self, and_true, true_and, false_and, and_false, w_dv, dvm, XSH_e hX, hw, k1]
    · rw [TkI_st hG ⟨hi.1, hin⟩, tend_L hkl]
    · simp
  | false =>
    rw [if_neg (by simp)]
    rw [cw] at hw
    have g := sp_45 (d := d) (vn := vn) (vc := vc) (vw := vw) (J := J) hX hT hG hA hi gS hl
    cases cp : pSum T e (tb i) with
    | error f =>
      rw [cp] at g
      obtain ⟨I1, j, k1, k2, k3, k4⟩ := g
      refine ⟨I1, j, ?_, k2, k3, k4⟩
      rw [eq_44_43]
      simp (disch := first | assumption | omega | (simp (disch := omega) only [vM_u, vS_u]; first | assumption | omega)) only [hK, hL, hR, hI, hN, sI, hSp, hC, hW, li, lr, ↓cnd_a, ↓cnd_o, ↓cnd_n, ↓cnd_d, ↓z0, ↓z1, ↓z2, y0n, y1i, y2r, y0e, y1e, y2e, wl_0, wl_1, wl_2, wl_3, wl_4, wl_5, wl_6, wl_7, wl_8, wl_9, wl_10, wl_11, wl_12, wl_13, wl_14, wl_15, wl_16, wl_17, wl_18, wl_19, wl_20, wl_21, wl_22, wl_23, wl_24, wl_25, wl_26, wl_27, wl_28, wl_29, wl_30, wl_31, wl_32, wl_33, wl_34, wl_35, wl_36, wl_37, wl_38, wl_39, wl_40, wl_41, wl_42, wl_43, wl_44, wl_45, wl_46, wl_47, wl_48, wl_49, wl_50, wl_51, wl_52, wl_53, wl_54, wl_55, wl_56, wl_57, wl_58, wl_59, wl_60, wl_61, wl_62, wl_63, wl_64, wl_65, wl_66, wl_67, wl_68, wl_69, wl_70, wl_71, wl_72, wl_73, wl_74, wl_75, wl_76, wl_77, wl_78, wl_79, wl_80, wl_81, wl_82, wl_83, wl_84, wl_85, wl_86, wl_87, wl_88, wl_89, wl_90, wl_91, wl_92, wl_93, wl_94, wl_95, wl_96, wl_97, wl_98, wl_99, wl_100, wl_101, wl_102, wl_103, wl_104, wl_105, wl_106, wl_107, wl_108, wl_109, wl_110, wl_111, wl_112, wl_113, wl_114, wl_115, wl_116, wl_117, wl_118, wl_119, wl_120, wl_121, wl_122, wl_123, wl_124, wl_125, wl_126, wl_127, wl_128, wl_129, wl_130, wl_159, wl_160, wl_200, wl_232, wl_255, wl_256, wl_300, wl_359, wl_360, wl_400, wl_592, wl_992, wl_999, wl_1000, wl_1024, wl_3456, wl_6512, wl_7104, wl_10000, wl_11264, wl_12345, wl_32767, wl_1000000000, wl_1103515245, wl_2000000000, w_add, w_sub, w_mul, w_neg, w_lt, w_le, w_eq, w_cl, w_in, w_nat, w_max2, w_min2, w_abs2, iltT, iltF, ileT, ileF, ieqT, ieqF, bv_01, bft, bv_0, bv_1, bv_t, bv_f, cond_true, cond_false, Bool.not_true, Bool.not_false, if_true, if_false, true_or, or_true, true_and, and_true, ↓reduceIte, decide_true, decide_false, reduceCtorEq, u2_s, u2_o, u2_k, u2_u2, Bool.true_or, Bool.or_true, Bool.false_or, Bool.or_false, Bool.and_true, Bool.true_and, Bool.and_false, Bool.false_and, eq_self, not_true_eq_false, not_false_eq_true, and_self, and_true, true_and, false_and, and_false, w_dv, dvm, XSH_e hX, hw, k1]
    | ok r =>
      rw [cp] at g
      obtain ⟨I1, j, k1, k2, k3, k4, k5, k6⟩ := g
      dsimp only
      have hr := pSum_r _ r (by omega) cp
      have hT1 := Tp_l k2 hT
      have hG1 := TkI_l k2 hG
      have hA1 := SWA_l k2 hA
      have hjb := TkI_tb hG k3 hT.2.1.1
      have s1 := sp_154 (d := d + 1) (c := 60) (vn := vn) (vc := vc) (vw := vw) (J := J) hX hT1 hG1 k3 (by omega)
      have s2 := sp_154 (d := d + 1) (c := 62) (vn := vn) (vc := vc) (vw := vw) (J := J) hX hT1 hG1 k3 (by omega)
      rw [← k4]
      rw [k4] at hjb
      have hSl : ((S ++ r.2).length : Int) ≤ j := by rw [List.length_append]; omega
      have fin : ∀ (c op : Int), sgB T e (tb j) c = true → c = 60 ∧ op = 3 ∨ c = 62 ∧ op = 4 → (∀ (I2 : Nat → Nat → Int32) (j2 : Int), ev PR (d + 3) 45 [.ref 88] (((vn, vc, vw, K, L, R), nx I1 (j + 1), J) : HS) = some (.inl (some (.int (w 0))), (((vn, vc, vw, K, L, R), nx I2 j2, J) : HS)) → atv PR (d + 3) cd_44 43 [.ref 88, .int x, .retAddr 0] [] (((vn, vc, vw, K, L, R), nx I i, J) : HS) = some (.inl (some (.int (w 0))), (((vn, vc, vw, K, L, R), nx I2 j2, J) : HS))) → (∀ (I2 I3 : Nat → Nat → Int32) (j2 : Int), ev PR (d + 3) 45 [.ref 88] (((vn, vc, vw, K, L, R), nx I1 (j + 1), J) : HS) = some (.inl (some (.int (w 1))), (((vn, vc, vw, K, L, R), nx I2 j2, J) : HS)) → ev PR (d + 3) 42 [.ref 88, .int (w op), .int (w 0)] (((vn, vc, vw, K, L, R), nx I2 j2, J) : HS) = some (.inl none, (((vn, vc, vw, K, L, R), nx I3 j2, J) : HS)) → atv PR (d + 3) cd_44 43 [.ref 88, .int x, .retAddr 0] [] (((vn, vc, vw, K, L, R), nx I i, J) : HS) = some (.inl (some (.int (w 1))), (((vn, vc, vw, K, L, R), nx I3 j2, J) : HS))) → GoC I (fun I' => (((vn, vc, vw, K, L, R), I', J) : HS)) T e n tb S i (atv PR (d + 3) cd_44 43 [.ref 88, .int x, .retAddr 0] [] (((vn, vc, vw, K, L, R), nx I i, J) : HS)) (match pSum T e (tb j + 1) with | .ok t => .ok (t.1, r.2 ++ (t.2 ++ [1024 * op])) | .error f => .error f) := by
        intro c op hs hcc he ho
        obtain ⟨h1, h2⟩ := tend_s hs (by omega)
        have hjn : j < n := (TkI_tb hG k3 hT.2.1.1).2.2.2.mp h1
        have ht1 : tb (j + 1) = sk T e (tb j + 1) := by rw [TkI_st hG ⟨k3.1, hjn⟩, h2]
        have gg := sp_45 (d := d) (i := j + 1) (vn := vn) (vc := vc) (vw := vw) (J := J) hX hT1 hG1 hA1 (by omega) k5 (by omega)
        rw [ht1, pSum_sk] at gg
        cases cq : pSum T e (tb j + 1) with
        | error f =>
          rw [cq] at gg
          obtain ⟨I2, j2, q1, q2, q3, q4⟩ := gg
          exact ⟨I2, j2, he I2 j2 q1, FLw_tr k2 q2, q3, q4⟩
        | ok t =>
          rw [cq] at gg
          obtain ⟨I2, j2, q1, q2, q3, q4, q5, q6⟩ := gg
          have hlen : (S ++ r.2 ++ t.2).length < 400 := by
            rw [List.length_append]
            omega
          obtain ⟨I3, m1, m2, m3⟩ := em_nx (d := d + 2) (op := op) (v := 0) (i := j2) (vn := vn) (vc := vc) (vw := vw) (J := J) hX q5 hlen (by omega) (by omega)
          refine ⟨I3, j2, ho I2 I3 j2 q1 m1, FLw_tr k2 (FLw_tr q2 m2), q3, q4, ?_, ?_⟩
          · rw [show op * 1024 + 0 = 1024 * op by omega] at m3
            simp only [List.append_assoc] at m3 ⊢
            exact m3
          · dsimp only
            rw [List.length_append, List.length_append, List.length_singleton]
            omega
      cases c1 : sgB T e (tb j) 60 with
      | true =>
        rw [if_pos rfl]
        rw [c1] at s1
        refine fin 60 3 c1 (Or.inl ⟨rfl, rfl⟩) (fun I2 j2 q1 => ?_) (fun I2 I3 j2 q1 q2 => ?_)
        · rw [eq_44_43]
          simp (disch := first | assumption | omega | (simp (disch := omega) only [vM_u, vS_u]; first | assumption | omega)) only [hK, hL, hR, hI, hN, sI, hSp, hC, hW, li, lr, ↓cnd_a, ↓cnd_o, ↓cnd_n, ↓cnd_d, ↓z0, ↓z1, ↓z2, y0n, y1i, y2r, y0e, y1e, y2e, wl_0, wl_1, wl_2, wl_3, wl_4, wl_5, wl_6, wl_7, wl_8, wl_9, wl_10, wl_11, wl_12, wl_13, wl_14, wl_15, wl_16, wl_17, wl_18, wl_19, wl_20, wl_21, wl_22, wl_23, wl_24, wl_25, wl_26, wl_27, wl_28, wl_29, wl_30, wl_31, wl_32, wl_33, wl_34, wl_35, wl_36, wl_37, wl_38, wl_39, wl_40, wl_41, wl_42, wl_43, wl_44, wl_45, wl_46, wl_47, wl_48, wl_49, wl_50, wl_51, wl_52, wl_53, wl_54, wl_55, wl_56, wl_57, wl_58, wl_59, wl_60, wl_61, wl_62, wl_63, wl_64, wl_65, wl_66, wl_67, wl_68, wl_69, wl_70, wl_71, wl_72, wl_73, wl_74, wl_75, wl_76, wl_77, wl_78, wl_79, wl_80, wl_81, wl_82, wl_83, wl_84, wl_85, wl_86, wl_87, wl_88, wl_89, wl_90, wl_91, wl_92, wl_93, wl_94, wl_95, wl_96, wl_97, wl_98, wl_99, wl_100, wl_101, wl_102, wl_103, wl_104, wl_105, wl_106, wl_107, wl_108, wl_109, wl_110, wl_111, wl_112, wl_113, wl_114, wl_115, wl_116, wl_117, wl_118, wl_119, wl_120, wl_121, wl_122, wl_123, wl_124, wl_125, wl_126, wl_127, wl_128, wl_129, wl_130, wl_159, wl_160, wl_200, wl_232, wl_255, wl_256, wl_300, wl_359, wl_360, wl_400, wl_592, wl_992, wl_999, wl_1000, wl_1024, wl_3456, wl_6512, wl_7104, wl_10000, wl_11264, wl_12345, wl_32767, wl_1000000000, wl_1103515245, wl_2000000000, w_add, w_sub, w_mul, w_neg, w_lt, w_le, w_eq, w_cl, w_in, w_nat, w_max2, w_min2, w_abs2, iltT, iltF, ileT, ileF, ieqT, ieqF, bv_01, bft, bv_0, bv_1, bv_t, bv_f, cond_true, cond_false, Bool.not_true, Bool.not_false, if_true, if_false, true_or, or_true, true_and, and_true, ↓reduceIte, decide_true, decide_false, reduceCtorEq, u2_s, u2_o, u2_k, u2_u2, Bool.true_or, Bool.or_true, Bool.false_or, Bool.or_false, Bool.and_true, Bool.true_and, Bool.and_false, Bool.false_and, eq_self, not_true_eq_false, not_false_eq_true, and_self, and_true, true_and, false_and, and_false, w_dv, dvm, XSH_e hX, hw, k1, s1, q1]
        · rw [eq_44_43]
          simp (disch := first | assumption | omega | (simp (disch := omega) only [vM_u, vS_u]; first | assumption | omega)) only [hK, hL, hR, hI, hN, sI, hSp, hC, hW, li, lr, ↓cnd_a, ↓cnd_o, ↓cnd_n, ↓cnd_d, ↓z0, ↓z1, ↓z2, y0n, y1i, y2r, y0e, y1e, y2e, wl_0, wl_1, wl_2, wl_3, wl_4, wl_5, wl_6, wl_7, wl_8, wl_9, wl_10, wl_11, wl_12, wl_13, wl_14, wl_15, wl_16, wl_17, wl_18, wl_19, wl_20, wl_21, wl_22, wl_23, wl_24, wl_25, wl_26, wl_27, wl_28, wl_29, wl_30, wl_31, wl_32, wl_33, wl_34, wl_35, wl_36, wl_37, wl_38, wl_39, wl_40, wl_41, wl_42, wl_43, wl_44, wl_45, wl_46, wl_47, wl_48, wl_49, wl_50, wl_51, wl_52, wl_53, wl_54, wl_55, wl_56, wl_57, wl_58, wl_59, wl_60, wl_61, wl_62, wl_63, wl_64, wl_65, wl_66, wl_67, wl_68, wl_69, wl_70, wl_71, wl_72, wl_73, wl_74, wl_75, wl_76, wl_77, wl_78, wl_79, wl_80, wl_81, wl_82, wl_83, wl_84, wl_85, wl_86, wl_87, wl_88, wl_89, wl_90, wl_91, wl_92, wl_93, wl_94, wl_95, wl_96, wl_97, wl_98, wl_99, wl_100, wl_101, wl_102, wl_103, wl_104, wl_105, wl_106, wl_107, wl_108, wl_109, wl_110, wl_111, wl_112, wl_113, wl_114, wl_115, wl_116, wl_117, wl_118, wl_119, wl_120, wl_121, wl_122, wl_123, wl_124, wl_125, wl_126, wl_127, wl_128, wl_129, wl_130, wl_159, wl_160, wl_200, wl_232, wl_255, wl_256, wl_300, wl_359, wl_360, wl_400, wl_592, wl_992, wl_999, wl_1000, wl_1024, wl_3456, wl_6512, wl_7104, wl_10000, wl_11264, wl_12345, wl_32767, wl_1000000000, wl_1103515245, wl_2000000000, w_add, w_sub, w_mul, w_neg, w_lt, w_le, w_eq, w_cl, w_in, w_nat, w_max2, w_min2, w_abs2, iltT, iltF, ileT, ileF, ieqT, ieqF, bv_01, bft, bv_0, bv_1, bv_t, bv_f, cond_true, cond_false, Bool.not_true, Bool.not_false, if_true, if_false, true_or, or_true, true_and, and_true, ↓reduceIte, decide_true, decide_false, reduceCtorEq, u2_s, u2_o, u2_k, u2_u2, Bool.true_or, Bool.or_true, Bool.false_or, Bool.or_false, Bool.and_true, Bool.true_and, Bool.and_false, Bool.false_and, eq_self, not_true_eq_false, not_false_eq_true, and_self, and_true, true_and, false_and, and_false, w_dv, dvm, XSH_e hX, hw, k1, s1, q1, q2]
      | false =>
        rw [if_neg (by simp)]
        rw [c1] at s1
        cases c2 : sgB T e (tb j) 62 with
        | true =>
          rw [if_pos rfl]
          rw [c2] at s2
          refine fin 62 4 c2 (Or.inr ⟨rfl, rfl⟩) (fun I2 j2 q1 => ?_) (fun I2 I3 j2 q1 q2 => ?_)
          · rw [eq_44_43]
            simp (disch := first | assumption | omega | (simp (disch := omega) only [vM_u, vS_u]; first | assumption | omega)) only [hK, hL, hR, hI, hN, sI, hSp, hC, hW, li, lr, ↓cnd_a, ↓cnd_o, ↓cnd_n, ↓cnd_d, ↓z0, ↓z1, ↓z2, y0n, y1i, y2r, y0e, y1e, y2e, wl_0, wl_1, wl_2, wl_3, wl_4, wl_5, wl_6, wl_7, wl_8, wl_9, wl_10, wl_11, wl_12, wl_13, wl_14, wl_15, wl_16, wl_17, wl_18, wl_19, wl_20, wl_21, wl_22, wl_23, wl_24, wl_25, wl_26, wl_27, wl_28, wl_29, wl_30, wl_31, wl_32, wl_33, wl_34, wl_35, wl_36, wl_37, wl_38, wl_39, wl_40, wl_41, wl_42, wl_43, wl_44, wl_45, wl_46, wl_47, wl_48, wl_49, wl_50, wl_51, wl_52, wl_53, wl_54, wl_55, wl_56, wl_57, wl_58, wl_59, wl_60, wl_61, wl_62, wl_63, wl_64, wl_65, wl_66, wl_67, wl_68, wl_69, wl_70, wl_71, wl_72, wl_73, wl_74, wl_75, wl_76, wl_77, wl_78, wl_79, wl_80, wl_81, wl_82, wl_83, wl_84, wl_85, wl_86, wl_87, wl_88, wl_89, wl_90, wl_91, wl_92, wl_93, wl_94, wl_95, wl_96, wl_97, wl_98, wl_99, wl_100, wl_101, wl_102, wl_103, wl_104, wl_105, wl_106, wl_107, wl_108, wl_109, wl_110, wl_111, wl_112, wl_113, wl_114, wl_115, wl_116, wl_117, wl_118, wl_119, wl_120, wl_121, wl_122, wl_123, wl_124, wl_125, wl_126, wl_127, wl_128, wl_129, wl_130, wl_159, wl_160, wl_200, wl_232, wl_255, wl_256, wl_300, wl_359, wl_360, wl_400, wl_592, wl_992, wl_999, wl_1000, wl_1024, wl_3456, wl_6512, wl_7104, wl_10000, wl_11264, wl_12345, wl_32767, wl_1000000000, wl_1103515245, wl_2000000000, w_add, w_sub, w_mul, w_neg, w_lt, w_le, w_eq, w_cl, w_in, w_nat, w_max2, w_min2, w_abs2, iltT, iltF, ileT, ileF, ieqT, ieqF, bv_01, bft, bv_0, bv_1, bv_t, bv_f, cond_true, cond_false, Bool.not_true, Bool.not_false, if_true, if_false, true_or, or_true, true_and, and_true, ↓reduceIte, decide_true, decide_false, reduceCtorEq, u2_s, u2_o, u2_k, u2_u2, Bool.true_or, Bool.or_true, Bool.false_or, Bool.or_false, Bool.and_true, Bool.true_and, Bool.and_false, Bool.false_and, eq_self, not_true_eq_false, not_false_eq_true, and_self, and_true, true_and, false_and, and_false, w_dv, dvm, XSH_e hX, hw, k1, s1, s2, q1]
          · rw [eq_44_43]
            simp (disch := first | assumption | omega | (simp (disch := omega) only [vM_u, vS_u]; first | assumption | omega)) only [hK, hL, hR, hI, hN, sI, hSp, hC, hW, li, lr, ↓cnd_a, ↓cnd_o, ↓cnd_n, ↓cnd_d, ↓z0, ↓z1, ↓z2, y0n, y1i, y2r, y0e, y1e, y2e, wl_0, wl_1, wl_2, wl_3, wl_4, wl_5, wl_6, wl_7, wl_8, wl_9, wl_10, wl_11, wl_12, wl_13, wl_14, wl_15, wl_16, wl_17, wl_18, wl_19, wl_20, wl_21, wl_22, wl_23, wl_24, wl_25, wl_26, wl_27, wl_28, wl_29, wl_30, wl_31, wl_32, wl_33, wl_34, wl_35, wl_36, wl_37, wl_38, wl_39, wl_40, wl_41, wl_42, wl_43, wl_44, wl_45, wl_46, wl_47, wl_48, wl_49, wl_50, wl_51, wl_52, wl_53, wl_54, wl_55, wl_56, wl_57, wl_58, wl_59, wl_60, wl_61, wl_62, wl_63, wl_64, wl_65, wl_66, wl_67, wl_68, wl_69, wl_70, wl_71, wl_72, wl_73, wl_74, wl_75, wl_76, wl_77, wl_78, wl_79, wl_80, wl_81, wl_82, wl_83, wl_84, wl_85, wl_86, wl_87, wl_88, wl_89, wl_90, wl_91, wl_92, wl_93, wl_94, wl_95, wl_96, wl_97, wl_98, wl_99, wl_100, wl_101, wl_102, wl_103, wl_104, wl_105, wl_106, wl_107, wl_108, wl_109, wl_110, wl_111, wl_112, wl_113, wl_114, wl_115, wl_116, wl_117, wl_118, wl_119, wl_120, wl_121, wl_122, wl_123, wl_124, wl_125, wl_126, wl_127, wl_128, wl_129, wl_130, wl_159, wl_160, wl_200, wl_232, wl_255, wl_256, wl_300, wl_359, wl_360, wl_400, wl_592, wl_992, wl_999, wl_1000, wl_1024, wl_3456, wl_6512, wl_7104, wl_10000, wl_11264, wl_12345, wl_32767, wl_1000000000, wl_1103515245, wl_2000000000, w_add, w_sub, w_mul, w_neg, w_lt, w_le, w_eq, w_cl, w_in, w_nat, w_max2, w_min2, w_abs2, iltT, iltF, ileT, ileF, ieqT, ieqF, bv_01, bft, bv_0, bv_1, bv_t, bv_f, cond_true, cond_false, Bool.not_true, Bool.not_false, if_true, if_false, true_or, or_true, true_and, and_true, ↓reduceIte, decide_true, decide_false, reduceCtorEq, u2_s, u2_o, u2_k, u2_u2, Bool.true_or, Bool.or_true, Bool.false_or, Bool.or_false, Bool.and_true, Bool.true_and, Bool.and_false, Bool.false_and, eq_self, not_true_eq_false, not_false_eq_true, and_self, and_true, true_and, false_and, and_false, w_dv, dvm, XSH_e hX, hw, k1, s1, s2, q1, q2]
        | false =>
          rw [if_neg (by simp)]
          rw [c2] at s2
          refine ⟨I1, j, ?_, k2, k3, rfl⟩
          rw [eq_44_43]
          simp (disch := first | assumption | omega | (simp (disch := omega) only [vM_u, vS_u]; first | assumption | omega)) only [hK, hL, hR, hI, hN, sI, hSp, hC, hW, li, lr, ↓cnd_a, ↓cnd_o, ↓cnd_n, ↓cnd_d, ↓z0, ↓z1, ↓z2, y0n, y1i, y2r, y0e, y1e, y2e, wl_0, wl_1, wl_2, wl_3, wl_4, wl_5, wl_6, wl_7, wl_8, wl_9, wl_10, wl_11, wl_12, wl_13, wl_14, wl_15, wl_16, wl_17, wl_18, wl_19, wl_20, wl_21, wl_22, wl_23, wl_24, wl_25, wl_26, wl_27, wl_28, wl_29, wl_30, wl_31, wl_32, wl_33, wl_34, wl_35, wl_36, wl_37, wl_38, wl_39, wl_40, wl_41, wl_42, wl_43, wl_44, wl_45, wl_46, wl_47, wl_48, wl_49, wl_50, wl_51, wl_52, wl_53, wl_54, wl_55, wl_56, wl_57, wl_58, wl_59, wl_60, wl_61, wl_62, wl_63, wl_64, wl_65, wl_66, wl_67, wl_68, wl_69, wl_70, wl_71, wl_72, wl_73, wl_74, wl_75, wl_76, wl_77, wl_78, wl_79, wl_80, wl_81, wl_82, wl_83, wl_84, wl_85, wl_86, wl_87, wl_88, wl_89, wl_90, wl_91, wl_92, wl_93, wl_94, wl_95, wl_96, wl_97, wl_98, wl_99, wl_100, wl_101, wl_102, wl_103, wl_104, wl_105, wl_106, wl_107, wl_108, wl_109, wl_110, wl_111, wl_112, wl_113, wl_114, wl_115, wl_116, wl_117, wl_118, wl_119, wl_120, wl_121, wl_122, wl_123, wl_124, wl_125, wl_126, wl_127, wl_128, wl_129, wl_130, wl_159, wl_160, wl_200, wl_232, wl_255, wl_256, wl_300, wl_359, wl_360, wl_400, wl_592, wl_992, wl_999, wl_1000, wl_1024, wl_3456, wl_6512, wl_7104, wl_10000, wl_11264, wl_12345, wl_32767, wl_1000000000, wl_1103515245, wl_2000000000, w_add, w_sub, w_mul, w_neg, w_lt, w_le, w_eq, w_cl, w_in, w_nat, w_max2, w_min2, w_abs2, iltT, iltF, ileT, ileF, ieqT, ieqF, bv_01, bft, bv_0, bv_1, bv_t, bv_f, cond_true, cond_false, Bool.not_true, Bool.not_false, if_true, if_false, true_or, or_true, true_and, and_true, ↓reduceIte, decide_true, decide_false, reduceCtorEq, u2_s, u2_o, u2_k, u2_u2, Bool.true_or, Bool.or_true, Bool.false_or, Bool.or_false, Bool.and_true, Bool.true_and, Bool.and_false, Bool.false_and, eq_self, not_true_eq_false, not_false_eq_true, and_self, and_true, true_and, false_and, and_false, w_dv, dvm, XSH_e hX, hw, k1, s1, s2]
end LWD
