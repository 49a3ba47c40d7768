/-! the reference's throw, whole -/
section THR
variable {vn vc vw : Nat} {K L : Nat → Nat} {R : Nat → Nat → Nat} {I : Nat → Nat → Int32} {J : Nat → Nat → Int64}
theorem sp_282 {d : Nat} {m : Int → Int} {ss : List Int} {ln p h f hi pa sk th we : Int} (hQ : QR K L R I m ss ln) (hP : PL 6000 m) (hT : PT 1000000 m) (h12 : -1000000000 < mI I 12 ∧ mI I 12 < 1000000000) (hp : 0 ≤ p ∧ p < m 5) (hh : 0 ≤ h ∧ h < m 4) (hf : (0 ≤ f ∧ f ≤ 59) ∧ 0 ≤ pa ∧ pa ≤ 11) (e1 : sk = pe m p 0) (e2 : th = pe m p 1) (e3 : we = ho m h 2) :
    ∃ I', ev PR (d + 35) 282 [.ref 287, .int (w p), .int (w h), .int (w f), .int (w hi), .int (w pa)] (((vn, vc, vw, K, L, R), I, J) : HS) = some (.inl (some (.int (w (thC m p h (aX (syA ss ln p h f hi pa sk th we) f) (aY (syA ss ln p h f hi pa sk th we) pa) (aS (syA ss ln p h f hi pa sk th we) sk) (syA ss ln p h f hi pa sk th we 5))))), (((vn, vc, vw, K, L, R), I', J) : HS)) ∧
      vM I' = thM m p h (aX (syA ss ln p h f hi pa sk th we) f) (aY (syA ss ln p h f hi pa sk th we) pa) (aS (syA ss ln p h f hi pa sk th we) sk) (syA ss ln p h f hi pa sk th we 5) ∧ mI I' 12 = mI I 12 + 1 ∧ FH I I' ∧ (I' 287 15 = w 0 ∨ I' 287 15 = w 1) := by
  obtain ⟨q1, q2, q3, q4, q5, q6⟩ := id hQ
  have hM := q1
  have hB := q5
  obtain ⟨h3, h4, h5, h6, h7, h8, h9, h13, h14, hbk, hhp, hpp⟩ := id hB
  have hps := hpp p hp.1 hp.2
  have hhh := hhp h hh.1 hh.2
  have hpt := hT p hp.1 hp.2
  have hb : ∀ k, 0 ≤ syA ss ln p h f hi pa sk th we k ∧ syA ss ln p h f hi pa sk th we k ≤ 758 := fun k => RLaw_b q3 _ k
  have hsk : 0 ≤ sk ∧ sk ≤ 99 := by omega
  obtain ⟨I1, k1, k2, k3', k4, k5', k6, k7⟩ := sp_259 (d := d) (p := p) (h := h) (f := f) (hi := hi) (pa := pa) (t := 0) (sk := sk) (th := th) (we := we) (fl := (I 287 12).toInt) (vn := vn) (vc := vc) (vw := vw) (J := J) q1 q2 q3 (by rw [q4]; exact q5) (by rw [q4]; exact hp) (by rw [q4]; exact hh) (w_of _).symm (by omega) (by rw [q4]; exact hps) (by rw [q4]; omega) (by rw [q4]; omega) (by rw [q4, e3]; split <;> omega) (by rw [q4]; exact hhh.2.2) hb
  have b0 := hb 0
  have b1 := hb 1
  have b2 := hb 2
  have b3 := hb 3
  have b4 := hb 4
  have b5 := hb 5
  generalize syA ss ln p h f hi pa sk th we = sy at b0 b1 b2 b3 b4 b5 k3' k4 k5' k6 ⊢
  have bX : -1000 ≤ aX sy f ∧ aX sy f ≤ 1000 := by unfold aX; omega
  have bY : -1000 ≤ aY sy pa ∧ aY sy pa ≤ 1000 := by unfold aY; omega
  have bS := aS_b b4.1 hsk
  generalize aX sy f = X at bX k3' ⊢
  generalize aY sy pa = Y at bY k4 ⊢
  generalize aS sy sk = sp at bS k5' ⊢
  generalize sy 5 = st at b5 k6 ⊢
  have v1 : vM I1 = m := by rw [vM_f (fun k => k2 _ _ (by omega) (by omega) (by omega))]; exact q4
  have g12 : mI I1 12 = mI I 12 := by unfold mI; rw [k2 _ _ (by omega) (by omega) (by omega)]
  have F1 : FH I I1 := fun a k x y => k2 a k (by omega) (by omega) (by omega)
  have h15 := k7 q6
  have hB1 : BD (vM I1) := by rw [v1]; exact hB
  obtain ⟨n3, n4, n5, n13, n14⟩ := BD_mI hB1
  have e5 : vM I1 5 = mI I1 5 := vM_s (by omega)
  -- the price
  have r10 := rV_s I1 (z := 10) (by omega)
  have r6 := rV_s I1 (z := 6) (by omega)
  rw [v1] at r10 r6
  obtain ⟨I2, hI2⟩ : ∃ I2, I2 = (if pe m p 1 % 3 = 0 then u2 I1 288 (ix 10) (w (m 10 + m 6)) else I1) := ⟨_, rfl⟩
  have v2 : vM I2 = th1 m p := by
    rw [hI2]
    unfold th1
    split
    · have e : u2 I1 288 (ix 10) (w (m 10 + m 6)) = u2 I1 288 (ix 10) (w (w (m 10 + m 6)).toInt) := by rw [w_of]
      rw [e, vM_in (by unfold inV; omega) (i_rng _), v1]
    · exact v1
  have F2 : FC I1 I2 := by
    rw [hI2]
    split
    · exact FC_u (by decide)
    · exact FC_rf
  have t2 : mI I2 12 = mI I1 12 := by
    rw [hI2]
    split
    · rw [mI_k (by omega) (by omega) (by omega)]
    · rfl
  have s223 := sp_225 (d := d + 33) (b := p) (j := 1) (I := I1) (vn := vn) (vc := vc) (vw := vw) (J := J) hM (by rw [v1]; omega)
  rw [v1] at s223
  have st0 : ev PR (d + 35) 282 [.ref 287, .int (w p), .int (w h), .int (w f), .int (w hi), .int (w pa)] (((vn, vc, vw, K, L, R), I, J) : HS) = atv PR (d + 34) cd_282 29 [.ref 287, .int (w p), .int (w h), .int (w f), .int (w hi), .int (w pa), .int (w st), .retAddr 0, .retAddr 0, .retAddr 0, .retAddr 0, .retAddr 0] [] (((vn, vc, vw, K, L, R), I2, J) : HS) := by
    rw [eq_282, hI2]
    by_cases c : pe m p 1 % 3 = 0
    · rw [if_pos c]
      simp (disch := first | assumption | omega | (simp (disch := omega) only [vM_u, vS_u]; first | assumption | omega)) only [hK, hL, hR, hI, hN, sI, hSp, hC, hW, li, lr, ↓cnd_a, ↓cnd_o, ↓cnd_n, ↓cnd_d, ↓z0, ↓z1, ↓z2, y0n, y1i, y2r, y0e, y1e, y2e, wl_0, wl_1, wl_2, wl_3, wl_4, wl_5, wl_6, wl_7, wl_8, wl_9, wl_10, wl_11, wl_12, wl_13, wl_14, wl_15, wl_16, wl_17, wl_18, wl_19, wl_20, wl_21, wl_22, wl_23, wl_24, wl_25, wl_26, wl_27, wl_28, wl_29, wl_30, wl_31, wl_32, wl_33, wl_34, wl_35, wl_36, wl_37, wl_38, wl_39, wl_40, wl_41, wl_42, wl_43, wl_44, wl_45, wl_46, wl_47, wl_48, wl_49, wl_50, wl_51, wl_52, wl_53, wl_54, wl_55, wl_56, wl_57, wl_58, wl_59, wl_60, wl_61, wl_62, wl_63, wl_64, wl_65, wl_66, wl_67, wl_68, wl_69, wl_70, wl_71, wl_72, wl_73, wl_74, wl_75, wl_76, wl_77, wl_78, wl_79, wl_80, wl_81, wl_82, wl_83, wl_84, wl_85, wl_86, wl_87, wl_88, wl_89, wl_90, wl_91, wl_92, wl_93, wl_94, wl_95, wl_96, wl_97, wl_98, wl_99, wl_100, wl_101, wl_102, wl_103, wl_104, wl_105, wl_106, wl_107, wl_108, wl_109, wl_110, wl_111, wl_112, wl_113, wl_114, wl_115, wl_116, wl_117, wl_118, wl_119, wl_120, wl_121, wl_122, wl_123, wl_124, wl_125, wl_126, wl_127, wl_128, wl_129, wl_130, wl_159, wl_160, wl_200, wl_232, wl_255, wl_256, wl_300, wl_359, wl_360, wl_400, wl_592, wl_992, wl_999, wl_1000, wl_1024, wl_3456, wl_6512, wl_7104, wl_10000, wl_11264, wl_12345, wl_32767, wl_1000000000, wl_1103515245, wl_2000000000, w_add, w_sub, w_mul, w_neg, w_lt, w_le, w_eq, w_cl, w_in, w_nat, w_max2, w_min2, w_abs2, iltT, iltF, ileT, ileF, ieqT, ieqF, bv_01, bft, bv_0, bv_1, bv_t, bv_f, cond_true, cond_false, Bool.not_true, Bool.not_false, if_true, if_false, true_or, or_true, true_and, and_true, ↓reduceIte, decide_true, decide_false, reduceCtorEq, u2_s, u2_o, u2_k, u2_u2, Bool.true_or, Bool.or_true, Bool.false_or, Bool.or_false, Bool.and_true, Bool.true_and, Bool.and_false, Bool.false_and, eq_self, not_true_eq_false, not_false_eq_true, and_self, and_true, true_and, false_and, and_false, w_dv, dvm, MSH_e hM, k1, k6, s223, r10, r6]
    · rw [if_neg c]
      simp (disch := first | assumption | omega | (simp (disch := omega) only [vM_u, vS_u]; first | assumption | omega)) only [hK, hL, hR, hI, hN, sI, hSp, hC, hW, li, lr, ↓cnd_a, ↓cnd_o, ↓cnd_n, ↓cnd_d, ↓z0, ↓z1, ↓z2, y0n, y1i, y2r, y0e, y1e, y2e, wl_0, wl_1, wl_2, wl_3, wl_4, wl_5, wl_6, wl_7, wl_8, wl_9, wl_10, wl_11, wl_12, wl_13, wl_14, wl_15, wl_16, wl_17, wl_18, wl_19, wl_20, wl_21, wl_22, wl_23, wl_24, wl_25, wl_26, wl_27, wl_28, wl_29, wl_30, wl_31, wl_32, wl_33, wl_34, wl_35, wl_36, wl_37, wl_38, wl_39, wl_40, wl_41, wl_42, wl_43, wl_44, wl_45, wl_46, wl_47, wl_48, wl_49, wl_50, wl_51, wl_52, wl_53, wl_54, wl_55, wl_56, wl_57, wl_58, wl_59, wl_60, wl_61, wl_62, wl_63, wl_64, wl_65, wl_66, wl_67, wl_68, wl_69, wl_70, wl_71, wl_72, wl_73, wl_74, wl_75, wl_76, wl_77, wl_78, wl_79, wl_80, wl_81, wl_82, wl_83, wl_84, wl_85, wl_86, wl_87, wl_88, wl_89, wl_90, wl_91, wl_92, wl_93, wl_94, wl_95, wl_96, wl_97, wl_98, wl_99, wl_100, wl_101, wl_102, wl_103, wl_104, wl_105, wl_106, wl_107, wl_108, wl_109, wl_110, wl_111, wl_112, wl_113, wl_114, wl_115, wl_116, wl_117, wl_118, wl_119, wl_120, wl_121, wl_122, wl_123, wl_124, wl_125, wl_126, wl_127, wl_128, wl_129, wl_130, wl_159, wl_160, wl_200, wl_232, wl_255, wl_256, wl_300, wl_359, wl_360, wl_400, wl_592, wl_992, wl_999, wl_1000, wl_1024, wl_3456, wl_6512, wl_7104, wl_10000, wl_11264, wl_12345, wl_32767, wl_1000000000, wl_1103515245, wl_2000000000, w_add, w_sub, w_mul, w_neg, w_lt, w_le, w_eq, w_cl, w_in, w_nat, w_max2, w_min2, w_abs2, iltT, iltF, ileT, ileF, ieqT, ieqF, bv_01, bft, bv_0, bv_1, bv_t, bv_f, cond_true, cond_false, Bool.not_true, Bool.not_false, if_true, if_false, true_or, or_true, true_and, and_true, ↓reduceIte, decide_true, decide_false, reduceCtorEq, u2_s, u2_o, u2_k, u2_u2, Bool.true_or, Bool.or_true, Bool.false_or, Bool.or_false, Bool.and_true, Bool.true_and, Bool.and_false, Bool.false_and, eq_self, not_true_eq_false, not_false_eq_true, and_self, and_true, true_and, false_and, and_false, w_dv, dvm, MSH_e hM, k1, k6, s223]
  -- the draws
  have d1 := sp_278 (d := d + 33) (I := I2) (by' := 2 * sp + 1) (vn := vn) (vc := vc) (vw := vw) (J := J) hM (by omega)
  rw [v2] at d1
  obtain ⟨I3, hI3⟩ : ∃ I3, I3 = u2 I2 288 (ix 15) (w (nsd (th1 m p))) := ⟨_, rfl⟩
  rw [← hI3] at d1
  have v3 : vM I3 = th2 m p := by
    have e : u2 I2 288 (ix 15) (w (nsd (th1 m p))) = u2 I2 288 (ix 15) (w (w (nsd (th1 m p))).toInt) := by rw [w_of]
    rw [hI3, e, vM_in (by unfold inV; omega) (i_rng _), v2, nsd_w]
    rfl
  have d2 := sp_278 (d := d + 33) (I := I3) (by' := 2 * sp + 1) (vn := vn) (vc := vc) (vw := vw) (J := J) hM (by omega)
  rw [v3] at d2
  obtain ⟨I4, hI4⟩ : ∃ I4, I4 = u2 I3 288 (ix 15) (w (nsd (th2 m p))) := ⟨_, rfl⟩
  rw [← hI4] at d2
  have v4 : vM I4 = th3 m p := by
    have e : u2 I3 288 (ix 15) (w (nsd (th2 m p))) = u2 I3 288 (ix 15) (w (w (nsd (th2 m p))).toInt) := by rw [w_of]
    rw [hI4, e, vM_in (by unfold inV; omega) (i_rng _), v3, nsd_w]
    rfl
  have F4 : FC I1 I4 := by
    rw [hI4, hI3]
    exact FC_tr F2 (FC_tr (FC_u (by decide)) (FC_u (by decide)))
  have t4 : mI I4 12 = mI I1 12 := by rw [hI4, hI3, mI_k (by omega) (by omega) (by omega), mI_k (by omega) (by omega) (by omega), t2]
  have F3 : FC I1 I3 := by
    rw [hI3]
    exact FC_tr F2 (FC_u (by decide))
  have k3 : kp m (th3 m p) := kp_th3
  have m13 : th3 m p 13 = m 13 ∧ th3 m p 14 = m 14 := by
    unfold th3 th2 th1
    split
    · exact ⟨by rw [setm_o _ (by omega), setm_o _ (by omega), setm_o _ (by omega)], by rw [setm_o _ (by omega), setm_o _ (by omega), setm_o _ (by omega)]⟩
    · exact ⟨by rw [setm_o _ (by omega), setm_o _ (by omega)], by rw [setm_o _ (by omega), setm_o _ (by omega)]⟩
  have B3 : BD (th3 m p) := BD_kp k3 hB (by rw [m13.1]; exact h13) (by rw [m13.2]; exact h14)
  have dr1 := dv_r (m := th1 m p) (n := 2 * sp + 1) (by omega)
  have dr2 := dv_r (m := th2 m p) (n := 2 * sp + 1) (by omega)
  have hhv : 0 ≤ h ∧ h < th3 m p 4 := by rw [k3 4 (by omega)]; exact hh
  have xr : -1100 ≤ thX m p X sp ∧ thX m p X sp ≤ 1100 := by unfold thX; omega
  have yr : -1100 ≤ thY m p Y sp ∧ thY m p Y sp ≤ 1100 := by unfold thY; omega
  have hx : X - sp + dv (th1 m p) (2 * sp + 1) = thX m p X sp := rfl
  have hy : Y - sp + dv (th2 m p) (2 * sp + 1) = thY m p Y sp := rfl
  have e4 := sp_266 (d := d + 28) (I := I4) (h := h) (b := st) (x := thX m p X sp) (y := thY m p Y sp) (vn := vn) (vc := vc) (vw := vw) (J := J) hM (by rw [v4]; exact B3) (by rw [v4]; exact hhv) (by omega) (by omega) (by omega)
  rw [v4, fal_c (kp_geq k3) hB hh, rsY_c (kp_geq k3) hB hh] at e4
  obtain ⟨I5, hI5⟩ : ∃ I5, I5 = u2 (u2 I4 287 22 (w (thX m p X sp))) 287 23 (w (rsY m h (thX m p X sp) (thY m p Y sp) st)) := ⟨_, rfl⟩
  rw [← hI5] at e4
  have v5 : vM I5 = th3 m p := by rw [hI5, vM_u (by decide), vM_u (by decide), v4]
  have t5 : mI I5 12 = mI I 12 := by rw [hI5, mI_u (by decide), mI_u (by decide), t4, g12]
  have F5 : FH I I5 := FH_tr F1 (FH_tr (FH_c F4) (fun a k x y => by rw [hI5, u2_r, if_neg (by omega), u2_r, if_neg (by omega)]))
  have s15 : I5 287 15 = w 0 ∨ I5 287 15 = w 1 := by
    rw [hI5, u2_r, if_neg (by omega), u2_r, if_neg (by omega), F4 _ _ (by omega)]
    exact h15
  have z17 : I2 287 17 = w X := by rw [F2 _ _ (by omega)]; exact k3'
  have z19 : I2 287 19 = w sp := by rw [F2 _ _ (by omega)]; exact k5'
  have z18 : I3 287 18 = w Y := by rw [F3 _ _ (by omega)]; exact k4
  have z19b : I3 287 19 = w sp := by rw [F3 _ _ (by omega)]; exact k5'
  have hcr := fal_r hB h (thX m p X sp) (thY m p Y sp) st
  have hC : fal m h (thX m p X sp) (thY m p Y sp) st = thC m p h X Y sp st := rfl
  rw [hC] at e4 hcr
  -- what follows the fall
  have fin : ∀ (m4 : Int → Int) (kn : Int) (I6 : Nat → Nat → Int32) (wb : Value), vM I6 = m4 → BD m4 → mI I6 12 = mI I 12 → FC I5 I6 → pe m4 p 1 = pe m p 1 → pe m4 p 0 = pe m p 0 → m4 5 = m 5 → (-1 ≤ kn ∧ kn < 10) → ∃ I', atv PR (d + 34) cd_282 146 [.ref 287, .int (w p), .int (w h), .int (w f), .int (w hi), .int (w pa), .int (w st), .int (w (thX m p X sp)), .int (w (thY m p Y sp)), .int (w (thC m p h X Y sp st)), .int (w kn), wb] [] (((vn, vc, vw, K, L, R), I6, J) : HS) = some (.inl (some (.int (w (thC m p h X Y sp st)))), (((vn, vc, vw, K, L, R), I', J) : HS)) ∧ vM I' = setm (setm (logF m4 p h (thX m p X sp) (thY m p Y sp) (thC m p h X Y sp st) kn) (94 + 3 * p + 1) (pe m p 1 + 1)) (94 + 3 * p) (min 99 (pe m p 0 + 1)) ∧ mI I' 12 = mI I 12 + 1 ∧ FH I I' ∧ (I' 287 15 = w 0 ∨ I' 287 15 = w 1) := by
    intro m4 kn I6 wb v6 B6 t6 F6 p1 p0 m5 hk
    obtain ⟨I', x1, x2, x3, x4⟩ := lp_282c (d := d + 32) (m4 := m4) (p := p) (h := h) (f := f) (hi := hi) (pa := pa) (st := st) (x := thX m p X sp) (y := thY m p Y sp) (c := thC m p h X Y sp st) (k := kn) (I := I6) (vn := vn) (vc := vc) (vw := vw) (J := J) hM (by rw [v6]; exact B6) v6 (by rw [m5]; exact hp) (by rw [p1, t6]; omega) (by omega) wb
    rw [p1, p0] at x2
    refine ⟨I', x1, x2, by rw [x3, t6], FH_tr F5 (FH_c (FC_tr F6 x4)), ?_⟩
    rw [x4 _ _ (by omega), F6 _ _ (by omega)]
    exact s15
  by_cases c : 0 ≤ thC m p h X Y sp st
  · have r11 := rV_s I5 (z := 11) (by omega)
    rw [v5] at r11
    have s221 := sp_223 (d := d + 33) (b := thC m p h X Y sp st) (j := 3) (I := I5) (vn := vn) (vc := vc) (vw := vw) (J := J) hM (by rw [v5, k3 3 (by omega)]; omega)
    rw [v5, bl_c (kp_geq k3) (by omega) (by omega)] at s221
    obtain ⟨I6, hI6⟩ : ∃ I6, I6 = u2 I5 288 (ix 11) (w (th3 m p 11 + bl m (thC m p h X Y sp st) 3)) := ⟨_, rfl⟩
    have v6 : vM I6 = setm (th3 m p) 11 (w (th3 m p 11 + bl m (thC m p h X Y sp st) 3)).toInt := by
      have e : u2 I5 288 (ix 11) (w (th3 m p 11 + bl m (thC m p h X Y sp st) 3)) = u2 I5 288 (ix 11) (w (w (th3 m p 11 + bl m (thC m p h X Y sp st) 3)).toInt) := by rw [w_of]
      rw [hI6, e, vM_in (by unfold inV; omega) (i_rng _), v5]
    have k5 : kp m (setm (th3 m p) 11 (w (th3 m p 11 + bl m (thC m p h X Y sp st) 3)).toInt) := kp_tr k3 (kp_setm (by omega))
    have e6 : mI I6 5 = m 5 := by rw [← vM_s (I := I6) (z := 5) (by omega), v6]; exact k5 5 (by omega)
    have r2 : I6 288 (ix (94 + 3 * p + 2)) = w (pe m p 2) := by
      have e : vM I6 (94 + 3 * p + 2) = mI I6 (94 + 3 * p + 2) := if_pos (by omega)
      rw [mI_w I6, ← e, v6, k5 _ (by omega)]
      rfl
    obtain ⟨I7, hI7⟩ : ∃ I7, I7 = u2 I6 288 (ix (94 + 3 * p + 2)) (w (pe m p 2 + 1)) := ⟨_, rfl⟩
    have v7 : vM I7 = setm (setm (th3 m p) 11 (w (th3 m p 11 + bl m (thC m p h X Y sp st) 3)).toInt) (94 + 3 * p + 2) (pe m p 2 + 1) := by
      rw [hI7, vM_in (by unfold inV; omega) (by omega), v6]
    have B7 : BD (setm (setm (th3 m p) 11 (w (th3 m p 11 + bl m (thC m p h X Y sp st) 3)).toInt) (94 + 3 * p + 2) (pe m p 2 + 1)) := BD_c (geq_tr (kp_geq k5) (geq_setm (by omega))) hB (by rw [setm_o _ (by omega), setm_o _ (by omega), m13.1]; exact h13) (by rw [setm_o _ (by omega), setm_o _ (by omega), m13.2]; exact h14) (fun p' q1 q2 => by
      have : pe (setm (setm (th3 m p) 11 (w (th3 m p 11 + bl m (thC m p h X Y sp st) 3)).toInt) (94 + 3 * p + 2) (pe m p 2 + 1)) p' 0 = pe m p' 0 := by unfold pe; rw [setm_o _ (by omega)]; exact k5 _ (by omega)
      rw [this]; exact hpp p' q1 q2)
    obtain ⟨I', x1, x2, x3, x4, x5⟩ := fin _ (-1) I7 (.retAddr 0) v7 B7 (by rw [hI7, hI6, mI_k (by omega) (by omega) (by omega), mI_k (by omega) (by omega) (by omega), t5]) (by rw [hI7, hI6]; exact FC_tr (FC_u (by decide)) (FC_u (by unfold ix; omega))) (by unfold pe; rw [setm_o _ (by omega)]; exact k5 _ (by omega)) (by unfold pe; rw [setm_o _ (by omega)]; exact k5 _ (by omega)) (by rw [setm_o _ (by omega)]; exact k5 5 (by omega)) (by omega)
    refine ⟨I', ?_, ?_, x3, x4, x5⟩
    · rw [st0, ← x1, hI7, eq_282_29]
      simp (disch := first | assumption | omega | (simp (disch := omega) only [vM_u, vS_u]; first | assumption | omega)) only [hK, hL, hR, hI, hN, sI, hSp, hC, hW, li, lr, ↓cnd_a, ↓cnd_o, ↓cnd_n, ↓cnd_d, ↓z0, ↓z1, ↓z2, y0n, y1i, y2r, y0e, y1e, y2e, wl_0, wl_1, wl_2, wl_3, wl_4, wl_5, wl_6, wl_7, wl_8, wl_9, wl_10, wl_11, wl_12, wl_13, wl_14, wl_15, wl_16, wl_17, wl_18, wl_19, wl_20, wl_21, wl_22, wl_23, wl_24, wl_25, wl_26, wl_27, wl_28, wl_29, wl_30, wl_31, wl_32, wl_33, wl_34, wl_35, wl_36, wl_37, wl_38, wl_39, wl_40, wl_41, wl_42, wl_43, wl_44, wl_45, wl_46, wl_47, wl_48, wl_49, wl_50, wl_51, wl_52, wl_53, wl_54, wl_55, wl_56, wl_57, wl_58, wl_59, wl_60, wl_61, wl_62, wl_63, wl_64, wl_65, wl_66, wl_67, wl_68, wl_69, wl_70, wl_71, wl_72, wl_73, wl_74, wl_75, wl_76, wl_77, wl_78, wl_79, wl_80, wl_81, wl_82, wl_83, wl_84, wl_85, wl_86, wl_87, wl_88, wl_89, wl_90, wl_91, wl_92, wl_93, wl_94, wl_95, wl_96, wl_97, wl_98, wl_99, wl_100, wl_101, wl_102, wl_103, wl_104, wl_105, wl_106, wl_107, wl_108, wl_109, wl_110, wl_111, wl_112, wl_113, wl_114, wl_115, wl_116, wl_117, wl_118, wl_119, wl_120, wl_121, wl_122, wl_123, wl_124, wl_125, wl_126, wl_127, wl_128, wl_129, wl_130, wl_159, wl_160, wl_200, wl_232, wl_255, wl_256, wl_300, wl_359, wl_360, wl_400, wl_592, wl_992, wl_999, wl_1000, wl_1024, wl_3456, wl_6512, wl_7104, wl_10000, wl_11264, wl_12345, wl_32767, wl_1000000000, wl_1103515245, wl_2000000000, w_add, w_sub, w_mul, w_neg, w_lt, w_le, w_eq, w_cl, w_in, w_nat, w_max2, w_min2, w_abs2, iltT, iltF, ileT, ileF, ieqT, ieqF, bv_01, bft, bv_0, bv_1, bv_t, bv_f, cond_true, cond_false, Bool.not_true, Bool.not_false, if_true, if_false, true_or, or_true, true_and, and_true, ↓reduceIte, decide_true, decide_false, reduceCtorEq, u2_s, u2_o, u2_k, u2_u2, Bool.true_or, Bool.or_true, Bool.false_or, Bool.or_false, Bool.and_true, Bool.true_and, Bool.and_false, Bool.false_and, eq_self, not_true_eq_false, not_false_eq_true, and_self, and_true, true_and, false_and, and_false, w_dv, dvm, MSH_e hM, z17, z19, d1, z18, z19b, d2, hx, hy, e4, r11, s221]
      rw [← hI6]
      simp (disch := first | assumption | omega | (simp (disch := omega) only [vM_u, vS_u]; first | assumption | omega)) only [hK, hL, hR, hI, hN, sI, hSp, hC, hW, li, lr, ↓cnd_a, ↓cnd_o, ↓cnd_n, ↓cnd_d, ↓z0, ↓z1, ↓z2, y0n, y1i, y2r, y0e, y1e, y2e, wl_0, wl_1, wl_2, wl_3, wl_4, wl_5, wl_6, wl_7, wl_8, wl_9, wl_10, wl_11, wl_12, wl_13, wl_14, wl_15, wl_16, wl_17, wl_18, wl_19, wl_20, wl_21, wl_22, wl_23, wl_24, wl_25, wl_26, wl_27, wl_28, wl_29, wl_30, wl_31, wl_32, wl_33, wl_34, wl_35, wl_36, wl_37, wl_38, wl_39, wl_40, wl_41, wl_42, wl_43, wl_44, wl_45, wl_46, wl_47, wl_48, wl_49, wl_50, wl_51, wl_52, wl_53, wl_54, wl_55, wl_56, wl_57, wl_58, wl_59, wl_60, wl_61, wl_62, wl_63, wl_64, wl_65, wl_66, wl_67, wl_68, wl_69, wl_70, wl_71, wl_72, wl_73, wl_74, wl_75, wl_76, wl_77, wl_78, wl_79, wl_80, wl_81, wl_82, wl_83, wl_84, wl_85, wl_86, wl_87, wl_88, wl_89, wl_90, wl_91, wl_92, wl_93, wl_94, wl_95, wl_96, wl_97, wl_98, wl_99, wl_100, wl_101, wl_102, wl_103, wl_104, wl_105, wl_106, wl_107, wl_108, wl_109, wl_110, wl_111, wl_112, wl_113, wl_114, wl_115, wl_116, wl_117, wl_118, wl_119, wl_120, wl_121, wl_122, wl_123, wl_124, wl_125, wl_126, wl_127, wl_128, wl_129, wl_130, wl_159, wl_160, wl_200, wl_232, wl_255, wl_256, wl_300, wl_359, wl_360, wl_400, wl_592, wl_992, wl_999, wl_1000, wl_1024, wl_3456, wl_6512, wl_7104, wl_10000, wl_11264, wl_12345, wl_32767, wl_1000000000, wl_1103515245, wl_2000000000, w_add, w_sub, w_mul, w_neg, w_lt, w_le, w_eq, w_cl, w_in, w_nat, w_max2, w_min2, w_abs2, iltT, iltF, ileT, ileF, ieqT, ieqF, bv_01, bft, bv_0, bv_1, bv_t, bv_f, cond_true, cond_false, Bool.not_true, Bool.not_false, if_true, if_false, true_or, or_true, true_and, and_true, ↓reduceIte, decide_true, decide_false, reduceCtorEq, u2_s, u2_o, u2_k, u2_u2, Bool.true_or, Bool.or_true, Bool.false_or, Bool.or_false, Bool.and_true, Bool.true_and, Bool.and_false, Bool.false_and, eq_self, not_true_eq_false, not_false_eq_true, and_self, and_true, true_and, false_and, and_false, w_dv, dvm, MSH_e hM, r2]
    · rw [x2]
      unfold thM th5 th4 thK
      rw [if_pos c, if_pos c]
  · have hP3 : PL 6000 (th3 m p) := PL_kp hP (k3 4 (by omega)) m13.1 (fun z hz => by
      unfold th3 th2 th1
      split
      · rw [setm_o _ (by omega), setm_o _ (by omega), setm_o _ (by omega)]
      · rw [setm_o _ (by omega), setm_o _ (by omega)]) h13.2
    obtain ⟨ee, hee⟩ : ∃ ee, ee = decide (thC m p h X Y sp st = -2) := ⟨_, rfl⟩
    have ec : (ee = true ∧ thC m p h X Y sp st = -2) ∨ (ee = false ∧ -1 ≤ thC m p h X Y sp st ∧ thC m p h X Y sp st ≤ 10) := by
      by_cases z : thC m p h X Y sp st = -2
      · exact Or.inl ⟨by rw [hee]; exact decide_eq_true z, z⟩
      · exact Or.inr ⟨by rw [hee]; exact decide_eq_false z, by omega⟩
    have ry : rsY m h (thX m p X sp) (thY m p Y sp) st = thY m p Y sp ∨ rsY m h (thX m p X sp) (thY m p Y sp) st = thY m p Y sp + m 7 := by
      unfold rsY; split
      · exact Or.inr rfl
      · exact Or.inl rfl
    have z22 : I5 287 22 = w (thX m p X sp) := by rw [hI5, u2_r, if_neg (by omega), u2_r, if_pos (by omega)]
    have z23 : I5 287 23 = w (rsY m h (thX m p X sp) (thY m p Y sp) st) := by rw [hI5, u2_s]
    have r13 := rV_s I5 (z := 13) (by omega)
    rw [v5, m13.1] at r13
    -- one is taken up before
    have drop : ∃ I6, ev PR (d + 35) 282 [.ref 287, .int (w p), .int (w h), .int (w f), .int (w hi), .int (w pa)] (((vn, vc, vw, K, L, R), I, J) : HS) = atv PR (d + 34) cd_282 105 [.ref 287, .int (w p), .int (w h), .int (w f), .int (w hi), .int (w pa), .int (w st), .int (w (thX m p X sp)), .int (w (thY m p Y sp)), .int (w (thC m p h X Y sp st)), .int (w (-1)), .retAddr 0] [] (((vn, vc, vw, K, L, R), I6, J) : HS) ∧ vM I6 = (if th3 m p 13 = 30 then takeL (th3 m p) 0 else th3 m p) ∧ mI I6 12 = mI I5 12 ∧ FC I5 I6 := by
      by_cases c30 : m 13 = 30
      · obtain ⟨I6, y1, y2, y3, y4⟩ := sp_279 (d := d + 32) (k := 0) (I := I5) (vn := vn) (vc := vc) (vw := vw) (J := J) hM (by rw [v5]; exact B3) (by rw [v5, m13.1]; omega)
        refine ⟨I6, ?_, by rw [y2, v5, if_pos (by rw [m13.1]; exact c30)], y3, y4⟩
        rw [c30] at r13
        rw [st0, eq_282_29]
        simp (disch := first | assumption | omega | (simp (disch := omega) only [vM_u, vS_u]; first | assumption | omega)) only [hK, hL, hR, hI, hN, sI, hSp, hC, hW, li, lr, ↓cnd_a, ↓cnd_o, ↓cnd_n, ↓cnd_d, ↓z0, ↓z1, ↓z2, y0n, y1i, y2r, y0e, y1e, y2e, wl_0, wl_1, wl_2, wl_3, wl_4, wl_5, wl_6, wl_7, wl_8, wl_9, wl_10, wl_11, wl_12, wl_13, wl_14, wl_15, wl_16, wl_17, wl_18, wl_19, wl_20, wl_21, wl_22, wl_23, wl_24, wl_25, wl_26, wl_27, wl_28, wl_29, wl_30, wl_31, wl_32, wl_33, wl_34, wl_35, wl_36, wl_37, wl_38, wl_39, wl_40, wl_41, wl_42, wl_43, wl_44, wl_45, wl_46, wl_47, wl_48, wl_49, wl_50, wl_51, wl_52, wl_53, wl_54, wl_55, wl_56, wl_57, wl_58, wl_59, wl_60, wl_61, wl_62, wl_63, wl_64, wl_65, wl_66, wl_67, wl_68, wl_69, wl_70, wl_71, wl_72, wl_73, wl_74, wl_75, wl_76, wl_77, wl_78, wl_79, wl_80, wl_81, wl_82, wl_83, wl_84, wl_85, wl_86, wl_87, wl_88, wl_89, wl_90, wl_91, wl_92, wl_93, wl_94, wl_95, wl_96, wl_97, wl_98, wl_99, wl_100, wl_101, wl_102, wl_103, wl_104, wl_105, wl_106, wl_107, wl_108, wl_109, wl_110, wl_111, wl_112, wl_113, wl_114, wl_115, wl_116, wl_117, wl_118, wl_119, wl_120, wl_121, wl_122, wl_123, wl_124, wl_125, wl_126, wl_127, wl_128, wl_129, wl_130, wl_159, wl_160, wl_200, wl_232, wl_255, wl_256, wl_300, wl_359, wl_360, wl_400, wl_592, wl_992, wl_999, wl_1000, wl_1024, wl_3456, wl_6512, wl_7104, wl_10000, wl_11264, wl_12345, wl_32767, wl_1000000000, wl_1103515245, wl_2000000000, w_add, w_sub, w_mul, w_neg, w_lt, w_le, w_eq, w_cl, w_in, w_nat, w_max2, w_min2, w_abs2, iltT, iltF, ileT, ileF, ieqT, ieqF, bv_01, bft, bv_0, bv_1, bv_t, bv_f, cond_true, cond_false, Bool.not_true, Bool.not_false, if_true, if_false, true_or, or_true, true_and, and_true, ↓reduceIte, decide_true, decide_false, reduceCtorEq, u2_s, u2_o, u2_k, u2_u2, Bool.true_or, Bool.or_true, Bool.false_or, Bool.or_false, Bool.and_true, Bool.true_and, Bool.and_false, Bool.false_and, eq_self, not_true_eq_false, not_false_eq_true, and_self, and_true, true_and, false_and, and_false, w_dv, dvm, MSH_e hM, z17, z19, d1, z18, z19b, d2, hx, hy, e4, r13, y1]
      · refine ⟨I5, ?_, by rw [v5, if_neg (by rw [m13.1]; exact c30)], rfl, FC_rf⟩
        rw [st0, eq_282_29]
        simp (disch := first | assumption | omega | (simp (disch := omega) only [vM_u, vS_u]; first | assumption | omega)) only [hK, hL, hR, hI, hN, sI, hSp, hC, hW, li, lr, ↓cnd_a, ↓cnd_o, ↓cnd_n, ↓cnd_d, ↓z0, ↓z1, ↓z2, y0n, y1i, y2r, y0e, y1e, y2e, wl_0, wl_1, wl_2, wl_3, wl_4, wl_5, wl_6, wl_7, wl_8, wl_9, wl_10, wl_11, wl_12, wl_13, wl_14, wl_15, wl_16, wl_17, wl_18, wl_19, wl_20, wl_21, wl_22, wl_23, wl_24, wl_25, wl_26, wl_27, wl_28, wl_29, wl_30, wl_31, wl_32, wl_33, wl_34, wl_35, wl_36, wl_37, wl_38, wl_39, wl_40, wl_41, wl_42, wl_43, wl_44, wl_45, wl_46, wl_47, wl_48, wl_49, wl_50, wl_51, wl_52, wl_53, wl_54, wl_55, wl_56, wl_57, wl_58, wl_59, wl_60, wl_61, wl_62, wl_63, wl_64, wl_65, wl_66, wl_67, wl_68, wl_69, wl_70, wl_71, wl_72, wl_73, wl_74, wl_75, wl_76, wl_77, wl_78, wl_79, wl_80, wl_81, wl_82, wl_83, wl_84, wl_85, wl_86, wl_87, wl_88, wl_89, wl_90, wl_91, wl_92, wl_93, wl_94, wl_95, wl_96, wl_97, wl_98, wl_99, wl_100, wl_101, wl_102, wl_103, wl_104, wl_105, wl_106, wl_107, wl_108, wl_109, wl_110, wl_111, wl_112, wl_113, wl_114, wl_115, wl_116, wl_117, wl_118, wl_119, wl_120, wl_121, wl_122, wl_123, wl_124, wl_125, wl_126, wl_127, wl_128, wl_129, wl_130, wl_159, wl_160, wl_200, wl_232, wl_255, wl_256, wl_300, wl_359, wl_360, wl_400, wl_592, wl_992, wl_999, wl_1000, wl_1024, wl_3456, wl_6512, wl_7104, wl_10000, wl_11264, wl_12345, wl_32767, wl_1000000000, wl_1103515245, wl_2000000000, w_add, w_sub, w_mul, w_neg, w_lt, w_le, w_eq, w_cl, w_in, w_nat, w_max2, w_min2, w_abs2, iltT, iltF, ileT, ileF, ieqT, ieqF, bv_01, bft, bv_0, bv_1, bv_t, bv_f, cond_true, cond_false, Bool.not_true, Bool.not_false, if_true, if_false, true_or, or_true, true_and, and_true, ↓reduceIte, decide_true, decide_false, reduceCtorEq, u2_s, u2_o, u2_k, u2_u2, Bool.true_or, Bool.or_true, Bool.false_or, Bool.or_false, Bool.and_true, Bool.true_and, Bool.and_false, Bool.false_and, eq_self, not_true_eq_false, not_false_eq_true, and_self, and_true, true_and, false_and, and_false, w_dv, dvm, MSH_e hM, z17, z19, d1, z18, z19b, d2, hx, hy, e4, r13]
    obtain ⟨I6, y1, y2, y3, y4⟩ := drop
    obtain ⟨N, hN⟩ : ∃ N, N = (if th3 m p 13 = 30 then takeL (th3 m p) 0 else th3 m p) := ⟨_, rfl⟩
    rw [← hN] at y2
    have kN : kp (th3 m p) N := by
      rw [hN]
      split
      · exact kp_take
      · exact kp_rf
    have N13 : 0 ≤ N 13 ∧ N 13 < 30 := by
      rw [hN]
      split
      · show 0 ≤ th3 m p 13 - 1 ∧ th3 m p 13 - 1 < 30
        omega
      · omega
    have N14 : N 14 = m 14 := by
      rw [hN]
      split
      · exact (if_neg (by omega)).trans ((if_neg (by omega)).trans m13.2)
      · exact m13.2
    have BN : BD N := BD_kp (kp_tr k3 kN) hB (by omega) (by omega)
    have PN : PL 6000 N := by
      rw [hN]
      split
      · exact PL_take hP3 (by omega) (by omega)
      · exact hP3
    have eL : setm (setm (setm (setm (setm N 13 (N 13 + 1)) (112 + 4 * N 13) h) (112 + 4 * N 13 + 1) (thX m p X sp)) (112 + 4 * N 13 + 2) (rsY m h (thX m p X sp) (thY m p Y sp) st)) (112 + 4 * N 13 + 3) (cond ee 1 0) = thL m p h X Y sp st := by
      rw [hN, hee]
      rfl
    obtain ⟨I7, wb, x1, x2, x3, x4⟩ := lp_282b (d := d + 27) (m := N) (p := p) (h := h) (f := f) (hi := hi) (pa := pa) (st := st) (x := thX m p X sp) (y := thY m p Y sp) (y' := rsY m h (thX m p X sp) (thY m p Y sp) st) (c := thC m p h X Y sp st) (e := ee) (I := I6) (vn := vn) (vc := vc) (vw := vw) (J := J) hM (by rw [y2]; exact BN) (by rw [y2]; exact PN) y2 N13.2 ⟨by rw [y4 _ _ (by omega)]; exact z22, by rw [y4 _ _ (by omega)]; exact z23⟩ ec (by rw [kN 4 (by omega)]; exact hhv) (by omega) (by omega) _ rfl
    rw [eL] at x1 x2
    have kL : kp (th3 m p) (thL m p h X Y sp st) := kp_lay (by rw [m13.1]; omega)
    have l13 := lay_13 (m := th3 m p) (h := h) (x := thX m p X sp) (y := rsY m h (thX m p X sp) (thY m p Y sp) st) (a := decide (thC m p h X Y sp st = -2)) (by rw [m13.1]; exact h13)
    have t13 : 1 ≤ thL m p h X Y sp st 13 ∧ thL m p h X Y sp st 13 ≤ 30 := by
      have := l13.1
      unfold thL
      rw [this]
      split <;> omega
    have t14 : thL m p h X Y sp st 14 = m 14 := (l13.2 14 (by omega)).trans m13.2
    have BL : BD (thL m p h X Y sp st) := BD_kp (kp_tr k3 kL) hB (by omega) (by omega)
    have kK : kp m (knkM (thL m p h X Y sp st) st) := kp_tr k3 (kp_tr kL kp_knk)
    have n13' := knk_13 (m := thL m p h X Y sp st) (st := st) t13
    have B6 : BD (knkM (thL m p h X Y sp st) st) := BD_kp kK hB (by omega) (by rw [n13'.2.1, t14]; exact h14)
    have kr := knkV_r (m := thL m p h X Y sp st) BL.1.1 st
    have b3' := BL.1
    obtain ⟨I', u1, u2', u3, u4, u5⟩ := fin _ (knkV (thL m p h X Y sp st) st) I7 wb x2 B6 (by rw [x3, y3, t5]) (FC_tr y4 x4) (kK _ (by omega)) (kK _ (by omega)) (kK 5 (by omega)) (by omega)
    refine ⟨I', ?_, ?_, u3, u4, u5⟩
    · rw [y1, ← u1, ← x1]
    · rw [u2']
      unfold thM th5 th4 thK
      rw [if_neg c, if_neg c]
end THR
