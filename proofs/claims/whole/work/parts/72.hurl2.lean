/-! THE CLASS: a throw whole -/
theorem nsd_w (m : Int → Int) : (w (nsd m)).toInt = nsd m := congrArg Int32.toInt (w_of _)
/-- throws and counts of people -/
def PT (M : Int) (m : Int → Int) : Prop := ∀ p, 0 ≤ p → p < m 5 → (0 ≤ pe m p 1 ∧ pe m p 1 ≤ M) ∧ 0 ≤ pe m p 2 ∧ pe m p 2 ≤ M
theorem dv_r {m : Int → Int} {n : Int} (h : 1 ≤ n) : 0 ≤ dv m n ∧ dv m n < n := ⟨Int.emod_nonneg _ (by omega), Int.emod_lt_of_pos _ (by omega)⟩
theorem fal_r {m : Int → Int} (hB : BD m) (h x y b : Int) : fal m h x y b = -2 ∨ fal m h x y b = -1 ∨ (0 ≤ fal m h x y b ∧ fal m h x y b < m 3) := by
  have g1 := ovF_r hB.1.1 h x y b
  have g2 := ovF_r hB.1.1 h x (y + m 7) b
  have hc : cnF m h x y b = -1 ∨ (0 ≤ cnF m h x y b ∧ cnF m h x y b < m 3) := by unfold cnF; split <;> omega
  unfold fal
  split
  · cases tsF m h x (rsY m h x y b) b false
    · exact Or.inr (Or.inl rfl)
    · exact Or.inl rfl
  · omega
theorem pshV_r {m : Int → Int} (h3 : 0 ≤ m 3) (k dx dy st : Int) : pshV m k dx dy st = -1 ∨ (0 ≤ pshV m k dx dy st ∧ pshV m k dx dy st < m 3) := by
  unfold pshV
  split
  · exact ovF_r h3 _ _ _ _
  · exact Or.inl rfl
theorem knkV_r {m : Int → Int} (h3 : 0 ≤ m 3) (st : Int) : knkV m st = -1 ∨ (0 ≤ knkV m st ∧ knkV m st < m 3) := by
  unfold knkV
  split
  · exact Or.inl rfl
  · split
    · exact Or.inl rfl
    · exact pshV_r h3 _ _ _ _
section HURL2
variable {vn vc vw : Nat} {K L : Nat → Nat} {R : Nat → Nat → Nat} {I : Nat → Nat → Int32} {J : Nat → Nat → Int64}
theorem sp_119 {d q : Nat} {m : Int → Int} {ss : List Int} {ln p h f hi pa sk th we : Int} (hX : XSH K L R) (hS : SHq K L R q) (hq : q + 11 < 273) (hq0 : 82 ≤ q) (hWd : Wd I q) (hv : vS I q = m) (hB : BD m) (hP : PL 6000 m) (hT : PT 1000000 m) (hA : Amd K L R I ss ln p h f hi pa sk th we) (hs : 0 ≤ sk ∧ sk ≤ 99) (hp : 0 ≤ p ∧ p < m 5) (hh : 0 ≤ h ∧ h < m 4) (hf : (0 ≤ f ∧ f ≤ 59) ∧ 0 ≤ pa ∧ pa ≤ 11) :
    ∃ I', ev PR (d + 6) 119 [.ref q, .ref 273] (((vn, vc, vw, K, L, R), I, J) : HS) = some (.inl (some (.int (w (thC m p h (aX (syA ss ln p h f hi pa sk th we) f) (aY (syA ss ln p h f hi pa sk th we) pa) (aS (syA ss ln p h f hi pa sk th we) sk) (syA ss ln p h f hi pa sk th we 5))))), (((vn, vc, vw, K, L, R), I', J) : HS)) ∧
      vS I' q = thM m p h (aX (syA ss ln p h f hi pa sk th we) f) (aY (syA ss ln p h f hi pa sk th we) pa) (aS (syA ss ln p h f hi pa sk th we) sk) (syA ss ln p h f hi pa sk th we 5) ∧ Wd I' q ∧ Fst q I I' := by
  have b0 := syA_b hA 0
  have b1 := syA_b hA 1
  have b2 := syA_b hA 2
  have b3 := syA_b hA 3
  have b4 := syA_b hA 4
  have b5 := syA_b hA 5
  obtain ⟨h3, h4, h5, h6, h7, h8, h9, h13, h14, hbk, hhp, hpp⟩ := id hB
  have hpt := hT p hp.1 hp.2
  have hps := hpp p hp.1 hp.2
  -- the aim persists while the stall alone changes
  have am : ∀ I', Fst q I I' → Amd K L R I' ss ln p h f hi pa sk th we := fun I' F => Amd_f hA (fun a k z => F a k (by omega))
  have s8 : ∀ I', Fst q I I' → _ := fun I' F => sp_8 (I := I') (d := d + 3) (J := J) (vn := vn) (vc := vc) (vw := vw) hX (am I' F)
  have s9 : ∀ I', Fst q I I' → _ := fun I' F => sp_9 (I := I') (d := d + 3) (J := J) (vn := vn) (vc := vc) (vw := vw) hX (am I' F)
  have s10 : ∀ I', Fst q I I' → _ := fun I' F => sp_10 (I := I') (d := d + 3) (J := J) (vn := vn) (vc := vc) (vw := vw) hX (am I' F) hs
  have s11 : ∀ I', Fst q I I' → _ := fun I' F => sp_11 (I := I') (d := d + 3) (J := J) (vn := vn) (vc := vc) (vw := vw) hX (am I' F)
  have f0 : ∀ I', Fst q I I' → I' 274 (ix 0) = w p := fun I' F => (am I' F).2.2.1
  have f1 : ∀ I', Fst q I I' → I' 274 (ix 1) = w h := fun I' F => (am I' F).2.2.2.1
  generalize syA ss ln p h f hi pa sk th we = sy at b0 b1 b2 b3 b4 b5 s8 s9 s10 s11 ⊢
  have bX : -1000 ≤ aX sy f ∧ aX sy f ≤ 1000 := by unfold aX; omega
  have bY : -1000 ≤ aY sy pa ∧ aY sy pa ≤ 1000 := by unfold aY; omega
  have bS : 0 ≤ aS sy sk ∧ aS sy sk ≤ 4 := by unfold aS; omega
  generalize aX sy f = X at bX s8 ⊢
  generalize aY sy pa = Y at bY s9 ⊢
  generalize aS sy sk = sp at bS s10 ⊢
  generalize sy 5 = st at b5 s11 ⊢
  -- the price
  obtain ⟨I1, hI1⟩ : ∃ I1, (if pe m p 1 % 3 = 0 then u2 I q 16 (w (m 10 + m 6)) else I) = I1 := ⟨_, rfl⟩
  have v1 : vS I1 q = th1 m p := by
    rw [← hI1]
    unfold th1
    split
    · rw [vS_fld (z := 10) (by omega), hv]
    · exact hv
  have w1 : Wd I1 q := by
    rw [← hI1]
    split
    · exact Wd_fld hWd
    · exact hWd
  have F1 : Fst q I I1 := by
    rw [← hI1]
    split
    · exact Fst_u (by omega)
    · exact Fst_rf
  have e96 := sp_96p (d := d + 4) (J := J) (vn := vn) (vc := vc) (vw := vw) (I := I) (b := p) (j := 1) hS hWd (by rw [hv]; omega)
  rw [hv] at e96
  -- the draws
  have d1 := sp_120 (d := d + 4) (J := J) (vn := vn) (vc := vc) (vw := vw) (I := I1) (by' := 2 * sp + 1) hS (by omega)
  rw [v1] at d1
  have F2' : Fst q I (u2 I1 q 18 (w (nsd (th1 m p)))) := Fst_tr F1 (Fst_u (by omega))
  have v2 : vS (u2 I1 q 18 (w (nsd (th1 m p)))) q = th2 m p := by rw [vS_fld (z := 15) (by omega), v1, nsd_w]; rfl
  have d2 := sp_120 (d := d + 4) (J := J) (vn := vn) (vc := vc) (vw := vw) (I := u2 I1 q 18 (w (nsd (th1 m p)))) (by' := 2 * sp + 1) hS (by omega)
  rw [v2, u2_u2] at d2
  have F3' : Fst q I (u2 I1 q 18 (w (nsd (th2 m p)))) := Fst_tr F1 (Fst_u (by omega))
  have v3 : vS (u2 I1 q 18 (w (nsd (th2 m p)))) q = th3 m p := by rw [← u2_u2 I1 q 18 (w (nsd (th1 m p))), vS_fld (z := 15) (by omega), v2, nsd_w]; rfl
  have w3 : Wd (u2 I1 q 18 (w (nsd (th2 m p)))) q := Wd_fld w1
  have k3 : kp m (th3 m p) := kp_th3
  have m13 : th3 m p 13 = m 13 ∧ th3 m p 14 = m 14 := by
    unfold th3 th2 th1
    split
    · exact ⟨by rw [setm_o _ (by omega), setm_o _ (by omega), setm_o _ (by omega)], by rw [setm_o _ (by omega), setm_o _ (by omega), setm_o _ (by omega)]⟩
    · exact ⟨by rw [setm_o _ (by omega), setm_o _ (by omega)], by rw [setm_o _ (by omega), setm_o _ (by omega)]⟩
  have B3 : BD (th3 m p) := BD_kp k3 hB (by rw [m13.1]; exact h13) (by rw [m13.2]; exact h14)
  have dr1 := dv_r (m := th1 m p) (n := 2 * sp + 1) (by omega)
  have dr2 := dv_r (m := th2 m p) (n := 2 * sp + 1) (by omega)
  have hhv : 0 ≤ h ∧ h < th3 m p 4 := by rw [k3 4 (by omega)]; exact hh
  have xr : -1100 ≤ thX m p X sp ∧ thX m p X sp ≤ 1100 := by unfold thX; omega
  have yr : -1100 ≤ thY m p Y sp ∧ thY m p Y sp ≤ 1100 := by unfold thY; omega
  obtain ⟨I4, e4, G4, r4⟩ := sp_115 (d := d + 1) (J := J) (vn := vn) (vc := vc) (vw := vw) (I := u2 I1 q 18 (w (nsd (th2 m p)))) (h := h) (b := st) (x := thX m p X sp) (y := thY m p Y sp) hS w3 v3 B3 hhv (by omega) (by omega)
  rw [fal_c (kp_geq k3) hB hh] at e4
  rw [rsY_c (kp_geq k3) hB hh] at r4
  have F4 : Fst q I I4 := Fst_tr F3' (Fq_st G4)
  have v4 : vS I4 q = th3 m p := (Fq_vS G4).trans v3
  have w4 : Wd I4 q := Fq_Wd G4 w3
  have hcr := fal_r hB h (thX m p X sp) (thY m p Y sp) st
  -- behind the fall: the log, throws, skill
  have fin : ∀ (m4 : Int → Int) (kn : Int) (I5 : Nat → Nat → Int32), Fst q I I5 → Wd I5 q → vS I5 q = m4 → BD m4 → pe m4 p 1 = pe m p 1 → pe m4 p 0 = pe m p 0 → m4 5 = m 5 → (-1 ≤ kn ∧ kn < 10) → ∃ I', atv PR (d + 5) cd_119 100 [.ref q, .ref 273, .int (w p), .int (w h), .int (w (thX m p X sp)), .int (w (thY m p Y sp)), .int (w (thC m p h X Y sp st)), .int (w kn)] [] (((vn, vc, vw, K, L, R), I5, J) : HS) = some (.inl (some (.int (w (thC m p h X Y sp st)))), (((vn, vc, vw, K, L, R), I', J) : HS)) ∧ vS I' q = setm (setm (logF m4 p h (thX m p X sp) (thY m p Y sp) (thC m p h X Y sp st) kn) (94 + 3 * p + 1) (pe m p 1 + 1)) (94 + 3 * p) (min 99 (pe m p 0 + 1)) ∧ Wd I' q ∧ Fst q I I' := by
    intro m4 kn I5 F5 w5 v5 B5 p1 p0 m5 hk
    have b14 := B5.2.2.2.2.2.2.2.2.1
    obtain ⟨I6, e6, v6, w6, g6⟩ := sp_124 (d := d + 2) (J := J) (vn := vn) (vc := vc) (vw := vw) (I := I5) (p := p) (h := h) (x := thX m p X sp) (y := thY m p Y sp) (c := thC m p h X Y sp st) (k := kn) hX hS hq w5 v5 b14 (f0 I5 F5) (f1 I5 F5) (by unfold thC; omega)
    have kl : kp m4 (logF m4 p h (thX m p X sp) (thY m p Y sp) (thC m p h X Y sp st) kn) := kp_log
    have e1 := sp_96p (d := d + 4) (J := J) (vn := vn) (vc := vc) (vw := vw) (I := I6) (b := p) (j := 1) hS w6 (by rw [v6, kl 5 (by omega), m5]; omega)
    rw [v6, show pe (logF m4 p h (thX m p X sp) (thY m p Y sp) (thC m p h X Y sp st) kn) p 1 = pe m p 1 from (kl _ (by omega)).trans p1] at e1
    obtain ⟨I7, e7, v7, w7, g7⟩ := pv_p (J := J) (vn := vn) (vc := vc) (vw := vw) (b := p) (j := 1) (v := pe m p 1 + 1) hS w6 v6 (by rw [kl 5 (by omega), m5]; omega)
    have e0 := sp_96p (d := d + 4) (J := J) (vn := vn) (vc := vc) (vw := vw) (I := I7) (b := p) (j := 0) hS w7 (by rw [v7, setm_o _ (by omega), kl 5 (by omega), m5]; omega)
    rw [v7, show pe (setm (logF m4 p h (thX m p X sp) (thY m p Y sp) (thC m p h X Y sp st) kn) (94 + 3 * p + 1) (pe m p 1 + 1)) p 0 = pe m p 0 by unfold pe; rw [setm_o _ (by omega), kl _ (by omega)]; exact p0] at e0
    obtain ⟨I8, e8, v8, w8, g8⟩ := pv_p (J := J) (vn := vn) (vc := vc) (vw := vw) (b := p) (j := 0) (v := min (pe m p 0 + 1) 99) hS w7 v7 (by rw [setm_o _ (by omega), kl 5 (by omega), m5]; omega)
    refine ⟨I8, ?_, ?_, w8, Fst_tr F5 (Fst_tr (F2_st g6 (by omega)) (Fst_tr (F2_st g7 (by omega)) (F2_st g8 (by omega))))⟩
    · rw [eq_119_100]
      simp (disch := first | assumption | omega | (simp (disch := omega) only [vM_u, vS_u]; first | assumption | omega)) only [hK, hL, hR, hI, hN, sI, hSp, hC, hW, li, lr, ↓cnd_a, ↓cnd_o, ↓cnd_n, ↓cnd_d, ↓z0, ↓z1, ↓z2, y0n, y1i, y2r, y0e, y1e, y2e, wl_0, wl_1, wl_2, wl_3, wl_4, wl_5, wl_6, wl_7, wl_8, wl_9, wl_10, wl_11, wl_12, wl_13, wl_14, wl_15, wl_16, wl_17, wl_18, wl_19, wl_20, wl_21, wl_22, wl_23, wl_24, wl_25, wl_26, wl_27, wl_28, wl_29, wl_30, wl_31, wl_32, wl_33, wl_34, wl_35, wl_36, wl_37, wl_38, wl_39, wl_40, wl_41, wl_42, wl_43, wl_44, wl_45, wl_46, wl_47, wl_48, wl_49, wl_50, wl_51, wl_52, wl_53, wl_54, wl_55, wl_56, wl_57, wl_58, wl_59, wl_60, wl_61, wl_62, wl_63, wl_64, wl_65, wl_66, wl_67, wl_68, wl_69, wl_70, wl_71, wl_72, wl_73, wl_74, wl_75, wl_76, wl_77, wl_78, wl_79, wl_80, wl_81, wl_82, wl_83, wl_84, wl_85, wl_86, wl_87, wl_88, wl_89, wl_90, wl_91, wl_92, wl_93, wl_94, wl_95, wl_96, wl_97, wl_98, wl_99, wl_100, wl_101, wl_102, wl_103, wl_104, wl_105, wl_106, wl_107, wl_108, wl_109, wl_110, wl_111, wl_112, wl_113, wl_114, wl_115, wl_116, wl_117, wl_118, wl_119, wl_120, wl_121, wl_122, wl_123, wl_124, wl_125, wl_126, wl_127, wl_128, wl_129, wl_130, wl_159, wl_160, wl_200, wl_232, wl_255, wl_256, wl_300, wl_359, wl_360, wl_400, wl_592, wl_992, wl_999, wl_1000, wl_1024, wl_3456, wl_6512, wl_7104, wl_10000, wl_11264, wl_12345, wl_32767, wl_1000000000, wl_1103515245, wl_2000000000, w_add, w_sub, w_mul, w_neg, w_lt, w_le, w_eq, w_cl, w_in, w_nat, w_max2, w_min2, w_abs2, iltT, iltF, ileT, ileF, ieqT, ieqF, bv_01, bft, bv_0, bv_1, bv_t, bv_f, cond_true, cond_false, Bool.not_true, Bool.not_false, if_true, if_false, true_or, or_true, true_and, and_true, ↓reduceIte, decide_true, decide_false, reduceCtorEq, u2_s, u2_o, u2_k, u2_u2, Bool.true_or, Bool.or_true, Bool.false_or, Bool.or_false, Bool.and_true, Bool.true_and, Bool.and_false, Bool.false_and, eq_self, not_true_eq_false, not_false_eq_true, and_self, and_true, true_and, false_and, and_false, w_dv, dvm, XSH_e hX, SHq_e hS, e6, e1, e7, e0, e8]
    · rw [v8, Int.add_zero, show min 99 (pe m p 0 + 1) = min (pe m p 0 + 1) 99 by omega]
  -- the road to the fall
  have road : ∀ (r : Option Res), atv PR (d + 5) cd_119 23 [.ref q, .ref 273, .int (w p), .int (w h), .retAddr 0, .retAddr 0, .retAddr 0, .retAddr 0] [] (((vn, vc, vw, K, L, R), I1, J) : HS) = r → ev PR (d + 6) 119 [.ref q, .ref 273] (((vn, vc, vw, K, L, R), I, J) : HS) = r := fun r hr => by
    rw [eq_119, ← hr]
    by_cases c : pe m p 1 % 3 = 0
    · rw [if_pos c] at hI1
      simp (disch := first | assumption | omega | (simp (disch := omega) only [vM_u, vS_u]; first | assumption | omega)) only [hK, hL, hR, hI, hN, sI, hSp, hC, hW, li, lr, ↓cnd_a, ↓cnd_o, ↓cnd_n, ↓cnd_d, ↓z0, ↓z1, ↓z2, y0n, y1i, y2r, y0e, y1e, y2e, wl_0, wl_1, wl_2, wl_3, wl_4, wl_5, wl_6, wl_7, wl_8, wl_9, wl_10, wl_11, wl_12, wl_13, wl_14, wl_15, wl_16, wl_17, wl_18, wl_19, wl_20, wl_21, wl_22, wl_23, wl_24, wl_25, wl_26, wl_27, wl_28, wl_29, wl_30, wl_31, wl_32, wl_33, wl_34, wl_35, wl_36, wl_37, wl_38, wl_39, wl_40, wl_41, wl_42, wl_43, wl_44, wl_45, wl_46, wl_47, wl_48, wl_49, wl_50, wl_51, wl_52, wl_53, wl_54, wl_55, wl_56, wl_57, wl_58, wl_59, wl_60, wl_61, wl_62, wl_63, wl_64, wl_65, wl_66, wl_67, wl_68, wl_69, wl_70, wl_71, wl_72, wl_73, wl_74, wl_75, wl_76, wl_77, wl_78, wl_79, wl_80, wl_81, wl_82, wl_83, wl_84, wl_85, wl_86, wl_87, wl_88, wl_89, wl_90, wl_91, wl_92, wl_93, wl_94, wl_95, wl_96, wl_97, wl_98, wl_99, wl_100, wl_101, wl_102, wl_103, wl_104, wl_105, wl_106, wl_107, wl_108, wl_109, wl_110, wl_111, wl_112, wl_113, wl_114, wl_115, wl_116, wl_117, wl_118, wl_119, wl_120, wl_121, wl_122, wl_123, wl_124, wl_125, wl_126, wl_127, wl_128, wl_129, wl_130, wl_159, wl_160, wl_200, wl_232, wl_255, wl_256, wl_300, wl_359, wl_360, wl_400, wl_592, wl_992, wl_999, wl_1000, wl_1024, wl_3456, wl_6512, wl_7104, wl_10000, wl_11264, wl_12345, wl_32767, wl_1000000000, wl_1103515245, wl_2000000000, w_add, w_sub, w_mul, w_neg, w_lt, w_le, w_eq, w_cl, w_in, w_nat, w_max2, w_min2, w_abs2, iltT, iltF, ileT, ileF, ieqT, ieqF, bv_01, bft, bv_0, bv_1, bv_t, bv_f, cond_true, cond_false, Bool.not_true, Bool.not_false, if_true, if_false, true_or, or_true, true_and, and_true, ↓reduceIte, decide_true, decide_false, reduceCtorEq, u2_s, u2_o, u2_k, u2_u2, Bool.true_or, Bool.or_true, Bool.false_or, Bool.or_false, Bool.and_true, Bool.true_and, Bool.and_false, Bool.false_and, eq_self, not_true_eq_false, not_false_eq_true, and_self, and_true, true_and, false_and, and_false, w_dv, dvm, XSH_e hX, SHq_e hS, sp_5, f0 I Fst_rf, f1 I Fst_rf, e96, c, rS_16 I q, rS_12 I q, hv]
      rw [hI1]
    · rw [if_neg c] at hI1
      simp (disch := first | assumption | omega | (simp (disch := omega) only [vM_u, vS_u]; first | assumption | omega)) only [hK, hL, hR, hI, hN, sI, hSp, hC, hW, li, lr, ↓cnd_a, ↓cnd_o, ↓cnd_n, ↓cnd_d, ↓z0, ↓z1, ↓z2, y0n, y1i, y2r, y0e, y1e, y2e, wl_0, wl_1, wl_2, wl_3, wl_4, wl_5, wl_6, wl_7, wl_8, wl_9, wl_10, wl_11, wl_12, wl_13, wl_14, wl_15, wl_16, wl_17, wl_18, wl_19, wl_20, wl_21, wl_22, wl_23, wl_24, wl_25, wl_26, wl_27, wl_28, wl_29, wl_30, wl_31, wl_32, wl_33, wl_34, wl_35, wl_36, wl_37, wl_38, wl_39, wl_40, wl_41, wl_42, wl_43, wl_44, wl_45, wl_46, wl_47, wl_48, wl_49, wl_50, wl_51, wl_52, wl_53, wl_54, wl_55, wl_56, wl_57, wl_58, wl_59, wl_60, wl_61, wl_62, wl_63, wl_64, wl_65, wl_66, wl_67, wl_68, wl_69, wl_70, wl_71, wl_72, wl_73, wl_74, wl_75, wl_76, wl_77, wl_78, wl_79, wl_80, wl_81, wl_82, wl_83, wl_84, wl_85, wl_86, wl_87, wl_88, wl_89, wl_90, wl_91, wl_92, wl_93, wl_94, wl_95, wl_96, wl_97, wl_98, wl_99, wl_100, wl_101, wl_102, wl_103, wl_104, wl_105, wl_106, wl_107, wl_108, wl_109, wl_110, wl_111, wl_112, wl_113, wl_114, wl_115, wl_116, wl_117, wl_118, wl_119, wl_120, wl_121, wl_122, wl_123, wl_124, wl_125, wl_126, wl_127, wl_128, wl_129, wl_130, wl_159, wl_160, wl_200, wl_232, wl_255, wl_256, wl_300, wl_359, wl_360, wl_400, wl_592, wl_992, wl_999, wl_1000, wl_1024, wl_3456, wl_6512, wl_7104, wl_10000, wl_11264, wl_12345, wl_32767, wl_1000000000, wl_1103515245, wl_2000000000, w_add, w_sub, w_mul, w_neg, w_lt, w_le, w_eq, w_cl, w_in, w_nat, w_max2, w_min2, w_abs2, iltT, iltF, ileT, ileF, ieqT, ieqF, bv_01, bft, bv_0, bv_1, bv_t, bv_f, cond_true, cond_false, Bool.not_true, Bool.not_false, if_true, if_false, true_or, or_true, true_and, and_true, ↓reduceIte, decide_true, decide_false, reduceCtorEq, u2_s, u2_o, u2_k, u2_u2, Bool.true_or, Bool.or_true, Bool.false_or, Bool.or_false, Bool.and_true, Bool.true_and, Bool.and_false, Bool.false_and, eq_self, not_true_eq_false, not_false_eq_true, and_self, and_true, true_and, false_and, and_false, w_dv, dvm, XSH_e hX, SHq_e hS, sp_5, f0 I Fst_rf, f1 I Fst_rf, e96]
      rw [hI1]
  have hx : X - sp + dv (th1 m p) (2 * sp + 1) = thX m p X sp := rfl
  have hy : Y - sp + dv (th2 m p) (2 * sp + 1) = thY m p Y sp := rfl
  have hC : fal m h (thX m p X sp) (thY m p Y sp) st = thC m p h X Y sp st := rfl
  rw [hC] at e4 hcr
  by_cases c : 0 ≤ thC m p h X Y sp st
  · have v5 : vS (u2 I4 q 17 (w (th3 m p 11 + bl m (thC m p h X Y sp st) 3))) q = setm (th3 m p) 11 (w (th3 m p 11 + bl m (thC m p h X Y sp st) 3)).toInt := by rw [vS_fld (z := 11) (by omega), v4]
    have w5 : Wd (u2 I4 q 17 (w (th3 m p 11 + bl m (thC m p h X Y sp st) 3))) q := Wd_fld w4
    have s96 := sp_96b (d := d + 4) (J := J) (vn := vn) (vc := vc) (vw := vw) (I := I4) (b := thC m p h X Y sp st) (j := 3) hS w4 (by rw [v4, k3 3 (by omega)]; omega)
    rw [v4, bl_c (kp_geq k3) (by omega) (by omega)] at s96
    have r17 : I4 q 17 = w (th3 m p 11) := by rw [rS_17 I4 q, v4]
    have k5 : kp m (setm (th3 m p) 11 (w (th3 m p 11 + bl m (thC m p h X Y sp st) 3)).toInt) := kp_tr k3 (kp_setm (by omega))
    have s2 := sp_96p (d := d + 4) (J := J) (vn := vn) (vc := vc) (vw := vw) (I := u2 I4 q 17 (w (th3 m p 11 + bl m (thC m p h X Y sp st) 3))) (b := p) (j := 2) hS w5 (by rw [v5, k5 5 (by omega)]; omega)
    rw [v5, show pe (setm (th3 m p) 11 (w (th3 m p 11 + bl m (thC m p h X Y sp st) 3)).toInt) p 2 = pe m p 2 from k5 _ (by omega)] at s2
    obtain ⟨I6, e6, v6, w6, g6⟩ := pv_p (J := J) (vn := vn) (vc := vc) (vw := vw) (b := p) (j := 2) (v := pe m p 2 + 1) hS w5 v5 (by rw [k5 5 (by omega)]; omega)
    have F6 : Fst q I I6 := Fst_tr F4 (Fst_tr (Fst_u (by omega)) (F2_st g6 (by omega)))
    have B6 : BD (setm (setm (th3 m p) 11 (w (th3 m p 11 + bl m (thC m p h X Y sp st) 3)).toInt) (94 + 3 * p + 2) (pe m p 2 + 1)) := BD_c (geq_tr (kp_geq k5) (geq_setm (by omega))) hB (by rw [setm_o _ (by omega), setm_o _ (by omega), m13.1]; exact h13) (by rw [setm_o _ (by omega), setm_o _ (by omega), m13.2]; exact h14) (fun p' q1 q2 => by
      have : pe (setm (setm (th3 m p) 11 (w (th3 m p 11 + bl m (thC m p h X Y sp st) 3)).toInt) (94 + 3 * p + 2) (pe m p 2 + 1)) p' 0 = pe m p' 0 := by unfold pe; rw [setm_o _ (by omega)]; exact k5 _ (by omega)
      rw [this]; exact hpp p' q1 q2)
    obtain ⟨I7, e7, v7, w7, F7⟩ := fin _ (-1) I6 F6 w6 v6 B6 (by unfold pe; rw [setm_o _ (by omega)]; exact k5 _ (by omega)) (by unfold pe; rw [setm_o _ (by omega)]; exact k5 _ (by omega)) (by rw [setm_o _ (by omega)]; exact k5 5 (by omega)) (by omega)
    refine ⟨I7, road _ ?_, ?_, w7, F7⟩
    · rw [eq_119_23]
      simp (disch := first | assumption | omega | (simp (disch := omega) only [vM_u, vS_u]; first | assumption | omega)) only [hK, hL, hR, hI, hN, sI, hSp, hC, hW, li, lr, ↓cnd_a, ↓cnd_o, ↓cnd_n, ↓cnd_d, ↓z0, ↓z1, ↓z2, y0n, y1i, y2r, y0e, y1e, y2e, wl_0, wl_1, wl_2, wl_3, wl_4, wl_5, wl_6, wl_7, wl_8, wl_9, wl_10, wl_11, wl_12, wl_13, wl_14, wl_15, wl_16, wl_17, wl_18, wl_19, wl_20, wl_21, wl_22, wl_23, wl_24, wl_25, wl_26, wl_27, wl_28, wl_29, wl_30, wl_31, wl_32, wl_33, wl_34, wl_35, wl_36, wl_37, wl_38, wl_39, wl_40, wl_41, wl_42, wl_43, wl_44, wl_45, wl_46, wl_47, wl_48, wl_49, wl_50, wl_51, wl_52, wl_53, wl_54, wl_55, wl_56, wl_57, wl_58, wl_59, wl_60, wl_61, wl_62, wl_63, wl_64, wl_65, wl_66, wl_67, wl_68, wl_69, wl_70, wl_71, wl_72, wl_73, wl_74, wl_75, wl_76, wl_77, wl_78, wl_79, wl_80, wl_81, wl_82, wl_83, wl_84, wl_85, wl_86, wl_87, wl_88, wl_89, wl_90, wl_91, wl_92, wl_93, wl_94, wl_95, wl_96, wl_97, wl_98, wl_99, wl_100, wl_101, wl_102, wl_103, wl_104, wl_105, wl_106, wl_107, wl_108, wl_109, wl_110, wl_111, wl_112, wl_113, wl_114, wl_115, wl_116, wl_117, wl_118, wl_119, wl_120, wl_121, wl_122, wl_123, wl_124, wl_125, wl_126, wl_127, wl_128, wl_129, wl_130, wl_159, wl_160, wl_200, wl_232, wl_255, wl_256, wl_300, wl_359, wl_360, wl_400, wl_592, wl_992, wl_999, wl_1000, wl_1024, wl_3456, wl_6512, wl_7104, wl_10000, wl_11264, wl_12345, wl_32767, wl_1000000000, wl_1103515245, wl_2000000000, w_add, w_sub, w_mul, w_neg, w_lt, w_le, w_eq, w_cl, w_in, w_nat, w_max2, w_min2, w_abs2, iltT, iltF, ileT, ileF, ieqT, ieqF, bv_01, bft, bv_0, bv_1, bv_t, bv_f, cond_true, cond_false, Bool.not_true, Bool.not_false, if_true, if_false, true_or, or_true, true_and, and_true, ↓reduceIte, decide_true, decide_false, reduceCtorEq, u2_s, u2_o, u2_k, u2_u2, Bool.true_or, Bool.or_true, Bool.false_or, Bool.or_false, Bool.and_true, Bool.true_and, Bool.and_false, Bool.false_and, eq_self, not_true_eq_false, not_false_eq_true, and_self, and_true, true_and, false_and, and_false, w_dv, dvm, XSH_e hX, SHq_e hS, s8 I1 F1, s10 I1 F1, d1, s9 _ F2', s10 _ F2', d2, s11 _ F3', hx, hy, e4, r17, s96, s2, e6]
      exact e7
    · rw [v7]
      unfold thM th5 th4 thK
      rw [if_pos c, if_pos c]
  · have hP3 : PL 6000 (th3 m p) := PL_kp hP (k3 4 (by omega)) m13.1 (fun z hz => by
      unfold th3 th2 th1
      split
      · rw [setm_o _ (by omega), setm_o _ (by omega), setm_o _ (by omega)]
      · rw [setm_o _ (by omega), setm_o _ (by omega)]) h13.2
    have ec : thC m p h X Y sp st = cond (decide (thC m p h X Y sp st = -2)) (-2) (-1) := by
      by_cases z : thC m p h X Y sp st = -2
      · rw [decide_eq_true z]; exact z
      · rw [decide_eq_false z, cond_false]; omega
    have ry : rsY m h (thX m p X sp) (thY m p Y sp) st = thY m p Y sp ∨ rsY m h (thX m p X sp) (thY m p Y sp) st = thY m p Y sp + m 7 := by
      unfold rsY; split
      · exact Or.inr rfl
      · exact Or.inl rfl
    obtain ⟨I5, e5, v5, w5, g5⟩ := sp_121 (d := d + 2) (J := J) (vn := vn) (vc := vc) (vw := vw) (I := I4) (h := h) (x := thX m p X sp) (y := rsY m h (thX m p X sp) (thY m p Y sp) st) (a := decide (thC m p h X Y sp st = -2)) hS w4 v4 (by rw [m13.1]; exact h13) (by omega)
    rw [← ec] at e5
    have F5 : Fst q I I5 := Fst_tr F4 (F2_st g5 (by omega))
    have kL : kp (th3 m p) (thL m p h X Y sp st) := kp_lay (by rw [m13.1]; omega)
    have l13 := lay_13 (m := th3 m p) (h := h) (x := thX m p X sp) (y := rsY m h (thX m p X sp) (thY m p Y sp) st) (a := decide (thC m p h X Y sp st = -2)) (by rw [m13.1]; exact h13)
    have t13 : 1 ≤ thL m p h X Y sp st 13 ∧ thL m p h X Y sp st 13 ≤ 30 := by
      have := l13.1
      unfold thL
      rw [this]
      split <;> omega
    have t14 : thL m p h X Y sp st 14 = m 14 := (l13.2 14 (by omega)).trans m13.2
    have B5 : BD (thL m p h X Y sp st) := BD_kp (kp_tr k3 kL) hB (by omega) (by omega)
    have P5 : PL 6000 (thL m p h X Y sp st) := PL_lay hP3 (by rw [m13.1]; exact h13) (by rw [k3 4 (by omega)]; exact hh) (by omega)
    obtain ⟨I6, e6, v6, w6, G6⟩ := sp_122 (d := d) (J := J) (vn := vn) (vc := vc) (vw := vw) (I := I5) (st := st) hS w5 v5 B5 (PL_mono (by omega) P5) (by omega) (by omega)
    have kK : kp m (knkM (thL m p h X Y sp st) st) := kp_tr k3 (kp_tr kL kp_knk)
    have n13 := knk_13 (m := thL m p h X Y sp st) (st := st) t13
    have B6 : BD (knkM (thL m p h X Y sp st) st) := BD_kp kK hB (by omega) (by rw [n13.2.1, t14]; exact h14)
    have kr := knkV_r (m := thL m p h X Y sp st) B5.1.1 st
    have b3' := B5.1
    obtain ⟨I7, e7, v7, w7, F7⟩ := fin _ (knkV (thL m p h X Y sp st) st) I6 (Fst_tr F5 G6) w6 v6 B6 (kK _ (by omega)) (kK _ (by omega)) (kK 5 (by omega)) (by omega)
    refine ⟨I7, road _ ?_, ?_, w7, F7⟩
    · rw [eq_119_23]
      simp (disch := first | assumption | omega | (simp (disch := omega) only [vM_u, vS_u]; first | assumption | omega)) only [hK, hL, hR, hI, hN, sI, hSp, hC, hW, li, lr, ↓cnd_a, ↓cnd_o, ↓cnd_n, ↓cnd_d, ↓z0, ↓z1, ↓z2, y0n, y1i, y2r, y0e, y1e, y2e, wl_0, wl_1, wl_2, wl_3, wl_4, wl_5, wl_6, wl_7, wl_8, wl_9, wl_10, wl_11, wl_12, wl_13, wl_14, wl_15, wl_16, wl_17, wl_18, wl_19, wl_20, wl_21, wl_22, wl_23, wl_24, wl_25, wl_26, wl_27, wl_28, wl_29, wl_30, wl_31, wl_32, wl_33, wl_34, wl_35, wl_36, wl_37, wl_38, wl_39, wl_40, wl_41, wl_42, wl_43, wl_44, wl_45, wl_46, wl_47, wl_48, wl_49, wl_50, wl_51, wl_52, wl_53, wl_54, wl_55, wl_56, wl_57, wl_58, wl_59, wl_60, wl_61, wl_62, wl_63, wl_64, wl_65, wl_66, wl_67, wl_68, wl_69, wl_70, wl_71, wl_72, wl_73, wl_74, wl_75, wl_76, wl_77, wl_78, wl_79, wl_80, wl_81, wl_82, wl_83, wl_84, wl_85, wl_86, wl_87, wl_88, wl_89, wl_90, wl_91, wl_92, wl_93, wl_94, wl_95, wl_96, wl_97, wl_98, wl_99, wl_100, wl_101, wl_102, wl_103, wl_104, wl_105, wl_106, wl_107, wl_108, wl_109, wl_110, wl_111, wl_112, wl_113, wl_114, wl_115, wl_116, wl_117, wl_118, wl_119, wl_120, wl_121, wl_122, wl_123, wl_124, wl_125, wl_126, wl_127, wl_128, wl_129, wl_130, wl_159, wl_160, wl_200, wl_232, wl_255, wl_256, wl_300, wl_359, wl_360, wl_400, wl_592, wl_992, wl_999, wl_1000, wl_1024, wl_3456, wl_6512, wl_7104, wl_10000, wl_11264, wl_12345, wl_32767, wl_1000000000, wl_1103515245, wl_2000000000, w_add, w_sub, w_mul, w_neg, w_lt, w_le, w_eq, w_cl, w_in, w_nat, w_max2, w_min2, w_abs2, iltT, iltF, ileT, ileF, ieqT, ieqF, bv_01, bft, bv_0, bv_1, bv_t, bv_f, cond_true, cond_false, Bool.not_true, Bool.not_false, if_true, if_false, true_or, or_true, true_and, and_true, ↓reduceIte, decide_true, decide_false, reduceCtorEq, u2_s, u2_o, u2_k, u2_u2, Bool.true_or, Bool.or_true, Bool.false_or, Bool.or_false, Bool.and_true, Bool.true_and, Bool.and_false, Bool.false_and, eq_self, not_true_eq_false, not_false_eq_true, and_self, and_true, true_and, false_and, and_false, w_dv, dvm, XSH_e hX, SHq_e hS, s8 I1 F1, s10 I1 F1, d1, s9 _ F2', s10 _ F2', d2, s11 _ F3', hx, hy, e4, r4, e5, s11 _ F5, e6]
      exact e7
    · rw [v7]
      unfold thM th5 th4 thK
      rw [if_neg c, if_neg c]
      rfl
end HURL2
