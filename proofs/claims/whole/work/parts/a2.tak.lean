/-! THE CLASS: one stands and throws; odds on the stall itself -/
section TAK
variable {vn vc vw : Nat} {K L : Nat → Nat} {R : Nat → Nat → Nat} {I : Nat → Nat → Int32} {J : Nat → Nat → Int64}
def CQ (K L : Nat → Nat) (R : Nat → Nat → Nat) (I : Nat → Nat → Int32) (m : Int → Int) (ss : List Int) (ln mk : Int) : Prop := XSH K L R ∧ SHq K L R 91 ∧ Wd I 91 ∧ vS I 91 = m ∧ BD m ∧ ALaw K L R I (R 91 10) ss ln ∧ (∃ ss' ln', AimOK K L R I ss' ln') ∧ OddsI I mk
/-- what a query leaves alone in the class -/
def FX (I I' : Nat → Nat → Int32) : Prop := ∀ a k, (a < 273 ∨ 286 < a) → a ≠ 102 → (a = 91 → k < 6 ∨ 9 < k) → I' a k = I a k
theorem FX_rf {I : Nat → Nat → Int32} : FX I I := fun _ _ _ _ _ => rfl
theorem FX_tr {I I1 I2 : Nat → Nat → Int32} (h : FX I I1) (g : FX I1 I2) : FX I I2 := fun a k x y z => (g a k x y z).trans (h a k x y z)
def RA (R R' : Nat → Nat → Nat) : Prop := ∀ a k, ¬(a = 273 ∧ k = 4) → R' a k = R a k
theorem RA_rf {R : Nat → Nat → Nat} : RA R R := fun _ _ _ => rfl
theorem RA_tr {R R1 R2 : Nat → Nat → Nat} (h : RA R R1) (g : RA R1 R2) : RA R R2 := fun a k x => (g a k x).trans (h a k x)
theorem XSH_a {R' : Nat → Nat → Nat} (h : RA R R') (hX : XSH K L R) : XSH K L R' := by
  have h' : ∀ a k, ¬(a = 273 ∧ k = 4) → R' a k = R a k := h
  unfold XSH at hX ⊢
  simp (disch := omega) only [h']
  exact hX
theorem SHq_a {R' : Nat → Nat → Nat} {q : Nat} (hq : q + 11 < 273) (h : RA R R') (hS : SHq K L R q) : SHq K L R' q := by
  have h' : ∀ a k, ¬(a = 273 ∧ k = 4) → R' a k = R a k := h
  unfold SHq at hS ⊢
  simp (disch := omega) only [h']
  exact hS
theorem MSH_a {R' : Nat → Nat → Nat} (h : RA R R') (hM : MSH K L R) : MSH K L R' := by
  have h' : ∀ a k, ¬(a = 273 ∧ k = 4) → R' a k = R a k := h
  unfold MSH at hM ⊢
  simp (disch := omega) only [h']
  exact hM
theorem CQ_f {I' : Nat → Nat → Int32} {R' : Nat → Nat → Nat} {m : Int → Int} {ss : List Int} {ln mk mk' : Int} (h : FX I I') (hr : RA R R') (hA : ∃ ss' ln', AimOK K L R' I' ss' ln') (hO : OddsI I' mk') (g : CQ K L R I m ss ln mk) : CQ K L R' I' m ss ln mk' := by
  obtain ⟨g1, g2, g3, g4, g5, g6, g7, g8⟩ := g
  have e : R' 91 10 = R 91 10 := hr _ _ (by omega)
  have h1 := g6.2.1.1
  refine ⟨XSH_a hr g1, SHq_a (by omega) hr g2, Wd_f' (fun a x => h _ _ (by omega) (by omega) (by omega)) g3, ?_, g5, ?_, hA, hO⟩
  · rw [vS_f' (fun a k x1 x2 x3 => h _ _ (by omega) (by omega) (by omega))]
    exact g4
  · rw [e]
    exact ALaw_f g6 (fun a b x => h _ _ (by omega) (by omega) (by omega)) (hr _ _ (by omega))
theorem x_206 {d : Nat} {m : Int → Int} {ss : List Int} {ln mk p h f hi pa : Int} (hQ : CQ K L R I m ss ln mk) (hp : 0 ≤ p ∧ p < m 5) (hh : 0 ≤ h ∧ h < m 4) (hmk : mk < 100000000) :
    ∃ I' R', ev PR (d + 6) 206 [.ref 79, .int (w p), .int (w h), .int (w f), .int (w hi), .int (w pa)] (((vn, vc, vw, K, L, R), I, J) : HS) = some (.inl none, (((vn, vc, vw, K, L, R'), I', J) : HS)) ∧ Amd K L R' I' ss ln p h f hi pa (pe m p 0) (pe m p 1) (ho m h 2) ∧ OddsM I' (mk + 1) m ∧ CQ K L R' I' m ss ln (mk + 1) ∧ FX I I' ∧ RA R R' := by
  obtain ⟨g1, g2, g3, g4, g5, g6, ⟨ss', ln', g7⟩, g8⟩ := id hQ
  have hX := g1
  have s50 := sp_50 (d := d + 4) (mk := mk) (vn := vn) (vc := vc) (vw := vw) (J := J) g1 g8.1
  obtain ⟨I1, hI1⟩ : ∃ I1, I1 = u2 I 277 1 (w (mk + 1)) := ⟨_, rfl⟩
  rw [← hI1] at s50
  have f1 : FX I I1 := fun a k x y z => by rw [hI1, u2_o _ _ _ _ (by omega)]
  have A1 : AimOK K L R I1 ss' ln' := AimOK_f g7 (fun a k x => by rw [hI1, u2_o _ _ _ _ (by omega)])
  have O1 : OddsM I1 (mk + 1) m := by
    have := OddsI_n (I' := I1) g8 hmk (by rw [hI1, u2_s]) (fun k => by rw [hI1, u2_o _ _ _ _ (by decide)]) m (I1 277 2).toInt (I1 277 3).toInt
    exact ⟨this.1, this.2⟩
  have Q1 : CQ K L R I1 m ss ln (mk + 1) := CQ_f f1 RA_rf ⟨_, _, A1⟩ O1.1 hQ
  have v1 := Q1.2.2.2.1
  obtain ⟨I2, k1, k2, k3, k4⟩ := sp_1 (d := d + 2) (q := 91) (f := f) (I := I1) (p := p) (h := h) (vn := vn) (vc := vc) (vw := vw) (J := J) g1 g2 (by omega) Q1.2.2.1 (by rw [v1]; exact g5) A1 Q1.2.2.2.2.2.1 (by rw [v1]; exact hp) (by rw [v1]; exact hh)
  rw [v1] at k3
  obtain ⟨R', hR'⟩ : ∃ R', R' = u2 R 273 4 (R 91 10) := ⟨_, rfl⟩
  rw [← hR'] at k1 k2
  have hr : RA R R' := fun a k x => by rw [hR', u2_r, if_neg x]
  have hX' := XSH_a hr g1
  obtain ⟨j0, j1, j2, j3, j4, j5, j6, j7⟩ := k3
  obtain ⟨I3, l1, l2, l3⟩ := sp_2 (d := d) (p := p) (h := h) (f := f) (hi := hi) (pa := pa) (vn := vn) (vc := vc) (vw := vw) (J := J) hX' k2 ⟨j0, j1, j2, j5, j6, j7⟩
  have f13 : FX I1 I3 := fun a k x y z => by rw [l3 a k (by omega), k4 a k (by omega)]
  have O3 : OddsM I3 (mk + 1) m := OddsM_f O1 (fun a k x => by rw [l3 a k (by omega), k4 a k (by omega)])
  refine ⟨I3, R', ?_, l2, O3, CQ_f f13 hr ⟨_, _, l2.1⟩ O3.1 Q1, FX_tr f1 f13, hr⟩
  rw [eq_206]
  simp (disch := first | assumption | omega | (simp (disch := omega) only [vM_u, vS_u]; first | assumption | omega)) only [hK, hL, hR, hI, hN, sI, hSp, hC, hW, li, lr, ↓cnd_a, ↓cnd_o, ↓cnd_n, ↓cnd_d, ↓z0, ↓z1, ↓z2, y0n, y1i, y2r, y0e, y1e, y2e, wl_0, wl_1, wl_2, wl_3, wl_4, wl_5, wl_6, wl_7, wl_8, wl_9, wl_10, wl_11, wl_12, wl_13, wl_14, wl_15, wl_16, wl_17, wl_18, wl_19, wl_20, wl_21, wl_22, wl_23, wl_24, wl_25, wl_26, wl_27, wl_28, wl_29, wl_30, wl_31, wl_32, wl_33, wl_34, wl_35, wl_36, wl_37, wl_38, wl_39, wl_40, wl_41, wl_42, wl_43, wl_44, wl_45, wl_46, wl_47, wl_48, wl_49, wl_50, wl_51, wl_52, wl_53, wl_54, wl_55, wl_56, wl_57, wl_58, wl_59, wl_60, wl_61, wl_62, wl_63, wl_64, wl_65, wl_66, wl_67, wl_68, wl_69, wl_70, wl_71, wl_72, wl_73, wl_74, wl_75, wl_76, wl_77, wl_78, wl_79, wl_80, wl_81, wl_82, wl_83, wl_84, wl_85, wl_86, wl_87, wl_88, wl_89, wl_90, wl_91, wl_92, wl_93, wl_94, wl_95, wl_96, wl_97, wl_98, wl_99, wl_100, wl_101, wl_102, wl_103, wl_104, wl_105, wl_106, wl_107, wl_108, wl_109, wl_110, wl_111, wl_112, wl_113, wl_114, wl_115, wl_116, wl_117, wl_118, wl_119, wl_120, wl_121, wl_122, wl_123, wl_124, wl_125, wl_126, wl_127, wl_128, wl_129, wl_130, wl_159, wl_160, wl_200, wl_232, wl_255, wl_256, wl_300, wl_359, wl_360, wl_400, wl_592, wl_992, wl_999, wl_1000, wl_1024, wl_3456, wl_6512, wl_7104, wl_10000, wl_11264, wl_12345, wl_32767, wl_1000000000, wl_1103515245, wl_2000000000, w_add, w_sub, w_mul, w_neg, w_lt, w_le, w_eq, w_cl, w_in, w_nat, w_max2, w_min2, w_abs2, iltT, iltF, ileT, ileF, ieqT, ieqF, bv_01, bft, bv_0, bv_1, bv_t, bv_f, cond_true, cond_false, Bool.not_true, Bool.not_false, if_true, if_false, true_or, or_true, true_and, and_true, ↓reduceIte, decide_true, decide_false, reduceCtorEq, u2_s, u2_o, u2_k, u2_u2, Bool.true_or, Bool.or_true, Bool.false_or, Bool.or_false, Bool.and_true, Bool.true_and, Bool.and_false, Bool.false_and, eq_self, not_true_eq_false, not_false_eq_true, and_self, and_true, true_and, false_and, and_false, w_dv, dvm, XSH_e hX, s50, k1, XSH_e hX', l1]
/-- a tally on the stall -/
theorem xt_51 {d : Nat} {m : Int → Int} {ss : List Int} {ln mk p h f hi pa sk th we : Int} (hQ : CQ K L R I m ss ln mk) (hA : Amd K L R I ss ln p h f hi pa sk th we) (hO : OddsM I mk m) (hs : 0 ≤ sk ∧ sk ≤ 99) (hh : 0 ≤ h ∧ h < m 4) (hf : (0 ≤ f ∧ f ≤ 59) ∧ 0 ≤ pa ∧ pa ≤ 11) (hmk : mk < 100000000) :
    ∃ I' mk' v, ev PR (d + 6) 51 [.ref 277, .ref 91, .ref 273] (((vn, vc, vw, K, L, R), I, J) : HS) = some (.inl (some (.int v)), (((vn, vc, vw, K, L, R), I', J) : HS)) ∧ TR I' (gW m ss ln p h f sk th we hi pa) (gA ss ln p h f sk th we hi pa) ∧ CQ K L R I' m ss ln mk' ∧ OddsM I' mk' m ∧ (mk ≤ mk' ∧ mk' ≤ mk + 1) ∧ FX I I' ∧ Amd K L R I' ss ln p h f hi pa sk th we := by
  obtain ⟨g1, g2, g3, g4, g5, g6, g7, g8⟩ := id hQ
  obtain ⟨I', mk', k1, k2, k3, k4, k5, k6⟩ := sp_51 (d := d) (q := 91) (m := m) (vn := vn) (vc := vc) (vw := vw) (J := J) g1 g2 (by omega) (by omega) g5 g4 g3 hA hs hh hf hO hmk
  have f1 : FX I I' := fun a k x y z => k6 a k (by omega) y z
  have A' := Amd_f hA (fun a k x => k6 a k (by omega) (by omega) (by omega))
  have hb := syA_b hA
  refine ⟨I', mk', _, k1, ⟨k2, k3, gA_b (fun k => (hb k).1) hs, fun j => wyF_b (aS_b (hb 4).1 hs)⟩, CQ_f f1 RA_rf ⟨_, _, A'.1⟩ k5.1 hQ, k5, k4, f1, A'⟩
theorem x_207 {d : Nat} {m : Int → Int} {ss : List Int} {ln mk p h f : Int} (hQ : CQ K L R I m ss ln mk) (hp : 0 ≤ p ∧ p < m 5) (hh : 0 ≤ h ∧ h < m 4) (hf : 0 ≤ f ∧ f ≤ 59) (hmk : mk + 200 < 100000000) :
    ∃ I' R' mk', ev PR (d + 9) 207 [.ref 79, .int (w p), .int (w h), .int (w f)] (((vn, vc, vw, K, L, R), I, J) : HS) = some (.inl none, (((vn, vc, vw, K, L, R'), I', J) : HS)) ∧ Swp I' (swBest (gW m ss ln p h f (pe m p 0) (pe m p 1) (ho m h 2)) (gA ss ln p h f (pe m p 0) (pe m p 1) (ho m h 2))) (swWo m (gW m ss ln p h f (pe m p 0) (pe m p 1) (ho m h 2)) (gA ss ln p h f (pe m p 0) (pe m p 1) (ho m h 2))) (swRc (gW m ss ln p h f (pe m p 0) (pe m p 1) (ho m h 2))) ∧ CQ K L R' I' m ss ln mk' ∧ (mk ≤ mk' ∧ mk' ≤ mk + 73) ∧ FX I I' ∧ RA R R' := by
  obtain ⟨g1, g2, g3, g4, g5, g6, ⟨ss', ln', g7⟩, g8⟩ := id hQ
  have hX := g1
  have hpp := g5.2.2.2.2.2.2.2.2.2.2.2 p hp.1 hp.2
  have s50 := sp_50 (d := d + 7) (mk := mk) (vn := vn) (vc := vc) (vw := vw) (J := J) g1 g8.1
  obtain ⟨I1, hI1⟩ : ∃ I1, I1 = u2 I 277 1 (w (mk + 1)) := ⟨_, rfl⟩
  rw [← hI1] at s50
  have f1 : FX I I1 := fun a k x y z => by rw [hI1, u2_o _ _ _ _ (by omega)]
  have A1 : AimOK K L R I1 ss' ln' := AimOK_f g7 (fun a k x => by rw [hI1, u2_o _ _ _ _ (by omega)])
  have O1 : OddsM I1 (mk + 1) m := by
    have := OddsI_n (I' := I1) g8 (by omega) (by rw [hI1, u2_s]) (fun k => by rw [hI1, u2_o _ _ _ _ (by decide)]) m (I1 277 2).toInt (I1 277 3).toInt
    exact ⟨this.1, this.2⟩
  have Q1 : CQ K L R I1 m ss ln (mk + 1) := CQ_f f1 RA_rf ⟨_, _, A1⟩ O1.1 hQ
  have v1 := Q1.2.2.2.1
  obtain ⟨I2, k1, k2, k3, k4⟩ := sp_1 (d := d + 5) (q := 91) (f := f) (I := I1) (p := p) (h := h) (vn := vn) (vc := vc) (vw := vw) (J := J) g1 g2 (by omega) Q1.2.2.1 (by rw [v1]; exact g5) A1 Q1.2.2.2.2.2.1 (by rw [v1]; exact hp) (by rw [v1]; exact hh)
  rw [v1] at k3
  obtain ⟨R', hR'⟩ : ∃ R', R' = u2 R 273 4 (R 91 10) := ⟨_, rfl⟩
  rw [← hR'] at k1 k2
  have hr : RA R R' := fun a k x => by rw [hR', u2_r, if_neg x]
  have hX' := XSH_a hr g1
  obtain ⟨j0, j1, j2, j3, j4, j5, j6, j7⟩ := k3
  have f12 : FX I1 I2 := fun a k x y z => k4 a k (by omega)
  have O2 : OddsM I2 (mk + 1) m := OddsM_f O1 (fun a k x => k4 a k (by omega))
  have Q2 := CQ_f f12 hr ⟨_, _, k2⟩ O2.1 Q1
  obtain ⟨I3, mk', l1, l2, l3, l4⟩ := sp_57 (d := d) (q := 91) (m := m) (p := p) (h := h) (f := f) (vn := vn) (vc := vc) (vw := vw) (J := J) hX' Q2.2.1 (by omega) (by omega) g5 hpp hh hf k2 ⟨j0, j1, j2, j5, j6, j7⟩ O2 Q2.2.2.2.1 Q2.2.2.1 (by omega)
  obtain ⟨t1, t2, t3, t4, t5, t6⟩ := l2
  have f23 : FX I2 I3 := fun a k x y z => l4 a k (by omega) (by omega) (by omega)
  refine ⟨I3, R', mk', ?_, t6, CQ_f f23 RA_rf ⟨_, _, t1⟩ t3.1 Q2, by omega, FX_tr f1 (FX_tr f12 f23), hr⟩
  rw [eq_207]
  simp (disch := first | assumption | omega | (simp (disch := omega) only [vM_u, vS_u]; first | assumption | omega)) only [hK, hL, hR, hI, hN, sI, hSp, hC, hW, li, lr, ↓cnd_a, ↓cnd_o, ↓cnd_n, ↓cnd_d, ↓z0, ↓z1, ↓z2, y0n, y1i, y2r, y0e, y1e, y2e, wl_0, wl_1, wl_2, wl_3, wl_4, wl_5, wl_6, wl_7, wl_8, wl_9, wl_10, wl_11, wl_12, wl_13, wl_14, wl_15, wl_16, wl_17, wl_18, wl_19, wl_20, wl_21, wl_22, wl_23, wl_24, wl_25, wl_26, wl_27, wl_28, wl_29, wl_30, wl_31, wl_32, wl_33, wl_34, wl_35, wl_36, wl_37, wl_38, wl_39, wl_40, wl_41, wl_42, wl_43, wl_44, wl_45, wl_46, wl_47, wl_48, wl_49, wl_50, wl_51, wl_52, wl_53, wl_54, wl_55, wl_56, wl_57, wl_58, wl_59, wl_60, wl_61, wl_62, wl_63, wl_64, wl_65, wl_66, wl_67, wl_68, wl_69, wl_70, wl_71, wl_72, wl_73, wl_74, wl_75, wl_76, wl_77, wl_78, wl_79, wl_80, wl_81, wl_82, wl_83, wl_84, wl_85, wl_86, wl_87, wl_88, wl_89, wl_90, wl_91, wl_92, wl_93, wl_94, wl_95, wl_96, wl_97, wl_98, wl_99, wl_100, wl_101, wl_102, wl_103, wl_104, wl_105, wl_106, wl_107, wl_108, wl_109, wl_110, wl_111, wl_112, wl_113, wl_114, wl_115, wl_116, wl_117, wl_118, wl_119, wl_120, wl_121, wl_122, wl_123, wl_124, wl_125, wl_126, wl_127, wl_128, wl_129, wl_130, wl_159, wl_160, wl_200, wl_232, wl_255, wl_256, wl_300, wl_359, wl_360, wl_400, wl_592, wl_992, wl_999, wl_1000, wl_1024, wl_3456, wl_6512, wl_7104, wl_10000, wl_11264, wl_12345, wl_32767, wl_1000000000, wl_1103515245, wl_2000000000, w_add, w_sub, w_mul, w_neg, w_lt, w_le, w_eq, w_cl, w_in, w_nat, w_max2, w_min2, w_abs2, iltT, iltF, ileT, ileF, ieqT, ieqF, bv_01, bft, bv_0, bv_1, bv_t, bv_f, cond_true, cond_false, Bool.not_true, Bool.not_false, if_true, if_false, true_or, or_true, true_and, and_true, ↓reduceIte, decide_true, decide_false, reduceCtorEq, u2_s, u2_o, u2_k, u2_u2, Bool.true_or, Bool.or_true, Bool.false_or, Bool.or_false, Bool.and_true, Bool.true_and, Bool.and_false, Bool.false_and, eq_self, not_true_eq_false, not_false_eq_true, and_self, and_true, true_and, false_and, and_false, w_dv, dvm, XSH_e hX, s50, k1, XSH_e hX', l1]
end TAK
