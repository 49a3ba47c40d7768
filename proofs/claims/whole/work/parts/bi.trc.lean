/-! trials: the class -/
def sy1 (ss : List Int) (ln p h f pa : Int) (m : Int → Int) : Int → Int := syA ss ln p h f 2 pa (pe m p 0) (pe m p 1) (ho m h 2)
def trC (ss : List Int) (ln p h f pa : Int) (m : Int → Int) : Int := thC m p h (aX (sy1 ss ln p h f pa m) f) (aY (sy1 ss ln p h f pa m) pa) (aS (sy1 ss ln p h f pa m) (pe m p 0)) (sy1 ss ln p h f pa m 5)
def trK (ss : List Int) (ln p h f pa : Int) (m : Int → Int) : Int := thK m p h (aX (sy1 ss ln p h f pa m) f) (aY (sy1 ss ln p h f pa m) pa) (aS (sy1 ss ln p h f pa m) (pe m p 0)) (sy1 ss ln p h f pa m 5)
def trM (ss : List Int) (ln p h f pa : Int) (m : Int → Int) : Int → Int := thM m p h (aX (sy1 ss ln p h f pa m) f) (aY (sy1 ss ln p h f pa m) pa) (aS (sy1 ss ln p h f pa m) (pe m p 0)) (sy1 ss ln p h f pa m 5)
def hit1 (c k : Int) : Int := if 0 ≤ c then 1 else if 0 ≤ k then 1 else 0
def trF (ss : List Int) (ln p h f pa : Int) : Nat → (Int → Int) → Int
  | 0, _ => 0
  | n + 1, m => hit1 (trC ss ln p h f pa m) (trK ss ln p h f pa m) + trF ss ln p h f pa n (trM ss ln p h f pa m)
theorem hit1_b (c k : Int) : 0 ≤ hit1 c k ∧ hit1 c k ≤ 1 := by
  unfold hit1
  split
  · omega
  · split <;> omega
theorem trF_b {ss : List Int} {ln p h f pa : Int} : ∀ (n : Nat) (m : Int → Int), 0 ≤ trF ss ln p h f pa n m ∧ trF ss ln p h f pa n m ≤ n
  | 0, _ => by unfold trF; omega
  | n + 1, m => by
    have a := trF_b (ss := ss) (ln := ln) (p := p) (h := h) (f := f) (pa := pa) n (trM ss ln p h f pa m)
    have b := hit1_b (trC ss ln p h f pa m) (trK ss ln p h f pa m)
    unfold trF
    omega
theorem tr_g {N : Int} {m : Int → Int} {ss : List Int} {ln p h f pa : Int} (g : GD N m) (hN : 0 ≤ N ∧ N ≤ 3000) (hp : 0 ≤ p ∧ p < m 5) (hh : 0 ≤ h ∧ h < m 4) (hf : (0 ≤ f ∧ f ≤ 59) ∧ 0 ≤ pa ∧ pa ≤ 11) (hb : ∀ F k, 0 ≤ evS ss ln F k ∧ evS ss ln F k ≤ 758) :
    GD (N + 1) (trM ss ln p h f pa m) ∧ allT (trM ss ln p h f pa m) = allT m + 1 ∧ (1 ≤ trM ss ln p h f pa m 14 ∧ trM ss ln p h f pa m 4 = m 4 ∧ trM ss ln p h f pa m 5 = m 5) ∧ lg (trM ss ln p h f pa m) 0 5 = trK ss ln p h f pa m := by
  have hb' : ∀ k, 0 ≤ sy1 ss ln p h f pa m k ∧ sy1 ss ln p h f pa m k ≤ 758 := fun k => hb _ k
  unfold trM trK
  generalize sy1 ss ln p h f pa m = sy at hb' ⊢
  have b0 := hb' 0
  have b1 := hb' 1
  have b2 := hb' 2
  have b3 := hb' 3
  have b4 := hb' 4
  have b5 := hb' 5
  have hps := g.1.2.2.2.2.2.2.2.2.2.2.2 p hp.1 hp.2
  exact GD_th (X := aX sy f) (Y := aY sy pa) (sp := aS sy (pe m p 0)) (st := sy 5) g hN hp hh ⟨by unfold aX; omega, by unfold aY; omega, aS_b b4.1 hps, by omega⟩
theorem GD_15 {N v : Int} {m : Int → Int} (g : GD N m) : GD N (setm m 15 v) ∧ allT (setm m 15 v) = allT m := by
  have hB := g.1
  have B1 : BD (setm m 15 v) := BD_c (fun z a => setm_o _ (by omega)) hB (by rw [setm_o _ (by omega)]; exact hB.2.2.2.2.2.2.2.1) (by rw [setm_o _ (by omega)]; exact hB.2.2.2.2.2.2.2.2.1) (fun p a b => by
    have := hB.2.2.2.2.2.2.2.2.2.2.2 p a b
    unfold pe at this ⊢
    rw [setm_o _ (by omega)]
    exact this)
  exact ⟨GD_c g B1 ⟨setm_o _ (by omega), setm_o _ (by omega), setm_o _ (by omega), setm_o _ (by omega)⟩ (Or.inl (setm_o _ (by omega))) (fun z a => setm_o _ (by omega)) (setm_o _ (by omega)) (fun z a => setm_o _ (by omega)) (fun p a b => ⟨by unfold pe; rw [setm_o _ (by omega)], by unfold pe; rw [setm_o _ (by omega)]⟩), allT_c (setm_o _ (by omega)) (fun p a b => by unfold pe; rw [setm_o _ (by omega)])⟩
section TRC
variable {vn vc vw : Nat} {K L : Nat → Nat} {R : Nat → Nat → Nat} {I : Nat → Nat → Int32} {J : Nat → Nat → Int64}
theorem sp_125 {d q : Nat} (hS : SHq K L R q) (hWd : Wd I q) (h : 1 ≤ vS I q 14 ∧ vS I q 14 ≤ 60) : ev PR (d + 2) 125 [.ref q] (((vn, vc, vw, K, L, R), I, J) : HS) = some (.inl (some (.int (w (lg (vS I q) 0 5)))), (((vn, vc, vw, K, L, R), I, J) : HS)) := by
  have s92 := sp_92t (d := d) (vn := vn) (vc := vc) (vw := vw) (J := J) (I := I) hS
  have s96 := sp_96t (d := d) (b := vS I q 14 - 1) (j := 5) (vn := vn) (vc := vc) (vw := vw) (J := J) hS hWd ⟨by omega, by omega⟩
  rw [show vS I q 14 - 1 - (vS I q 14 - 1) = 0 by omega] at s96
  rw [eq_125]
  simp (disch := first | assumption | omega | (simp (disch := omega) only [vM_u, vS_u]; first | assumption | omega)) only [hK, hL, hR, hI, hN, sI, hSp, hC, hW, li, lr, ↓cnd_a, ↓cnd_o, ↓cnd_n, ↓cnd_d, ↓z0, ↓z1, ↓z2, y0n, y1i, y2r, y0e, y1e, y2e, wl_0, wl_1, wl_2, wl_3, wl_4, wl_5, wl_6, wl_7, wl_8, wl_9, wl_10, wl_11, wl_12, wl_13, wl_14, wl_15, wl_16, wl_17, wl_18, wl_19, wl_20, wl_21, wl_22, wl_23, wl_24, wl_25, wl_26, wl_27, wl_28, wl_29, wl_30, wl_31, wl_32, wl_33, wl_34, wl_35, wl_36, wl_37, wl_38, wl_39, wl_40, wl_41, wl_42, wl_43, wl_44, wl_45, wl_46, wl_47, wl_48, wl_49, wl_50, wl_51, wl_52, wl_53, wl_54, wl_55, wl_56, wl_57, wl_58, wl_59, wl_60, wl_61, wl_62, wl_63, wl_64, wl_65, wl_66, wl_67, wl_68, wl_69, wl_70, wl_71, wl_72, wl_73, wl_74, wl_75, wl_76, wl_77, wl_78, wl_79, wl_80, wl_81, wl_82, wl_83, wl_84, wl_85, wl_86, wl_87, wl_88, wl_89, wl_90, wl_91, wl_92, wl_93, wl_94, wl_95, wl_96, wl_97, wl_98, wl_99, wl_100, wl_101, wl_102, wl_103, wl_104, wl_105, wl_106, wl_107, wl_108, wl_109, wl_110, wl_111, wl_112, wl_113, wl_114, wl_115, wl_116, wl_117, wl_118, wl_119, wl_120, wl_121, wl_122, wl_123, wl_124, wl_125, wl_126, wl_127, wl_128, wl_129, wl_130, wl_159, wl_160, wl_200, wl_232, wl_255, wl_256, wl_300, wl_359, wl_360, wl_400, wl_592, wl_992, wl_999, wl_1000, wl_1024, wl_3456, wl_6512, wl_7104, wl_10000, wl_11264, wl_12345, wl_32767, wl_1000000000, wl_1103515245, wl_2000000000, w_add, w_sub, w_mul, w_neg, w_lt, w_le, w_eq, w_cl, w_in, w_nat, w_max2, w_min2, w_abs2, iltT, iltF, ileT, ileF, ieqT, ieqF, bv_01, bft, bv_0, bv_1, bv_t, bv_f, cond_true, cond_false, Bool.not_true, Bool.not_false, if_true, if_false, true_or, or_true, true_and, and_true, ↓reduceIte, decide_true, decide_false, reduceCtorEq, u2_s, u2_o, u2_k, u2_u2, Bool.true_or, Bool.or_true, Bool.false_or, Bool.or_false, Bool.and_true, Bool.true_and, Bool.and_false, Bool.false_and, eq_self, not_true_eq_false, not_false_eq_true, and_self, and_true, true_and, false_and, and_false, w_dv, dvm, SHq_e hS, s92, s96]
/-- the draft, on which one throws -/
def DrT (K L : Nat → Nat) (R : Nat → Nat → Nat) (I : Nat → Nat → Int32) (m : Int → Int) (ss : List Int) (ln : Int) : Prop := XSH K L R ∧ SHq K L R 115 ∧ Wd I 115 ∧ vS I 115 = m ∧ (∃ ss' ln', AimOK K L R I ss' ln') ∧ ALaw K L R I (R 115 10) ss ln
def FTr (I I' : Nat → Nat → Int32) : Prop := ∀ a k, (a < 115 ∨ (126 < a ∧ a < 273) ∨ 276 < a) → I' a k = I a k
theorem FTr_rf {I : Nat → Nat → Int32} : FTr I I := fun _ _ _ => rfl
theorem FTr_tr {I I1 I2 : Nat → Nat → Int32} (h : FTr I I1) (g : FTr I1 I2) : FTr I I2 := fun a k x => (g a k x).trans (h a k x)
theorem lp_199 {d : Nat} {ss : List Int} {ln p h f pa nn sd : Int} (hf : (0 ≤ f ∧ f ≤ 59) ∧ 0 ≤ pa ∧ pa ≤ 11) (hb : ∀ F k, 0 ≤ evS ss ln F k ∧ evS ss ln F k ≤ 758) (hnn : 0 ≤ nn ∧ nn ≤ 40) : ∀ (n : Nat) (k c N : Int) (R : Nat → Nat → Nat) (I : Nat → Nat → Int32) (m : Int → Int) (w9 : Value), n + k = nn → 0 ≤ k → 0 ≤ c → c ≤ k → DrT K L R I m ss ln → GD N m → 0 ≤ N → N + n ≤ 1041 → (0 ≤ p ∧ p < m 5) → (0 ≤ h ∧ h < m 4) →
    ∃ I' R' m', atv PR (d + 6) cd_199 13 [.ref 79, .int (w p), .int (w h), .int (w f), .int (w pa), .int (w nn), .int (w sd), .int (w c), .int (w k), w9] [] (((vn, vc, vw, K, L, R), I, J) : HS) = some (.inl (some (.int (w (c + trF ss ln p h f pa n m)))), (((vn, vc, vw, K, L, R'), I', J) : HS)) ∧ DrT K L R' I' m' ss ln ∧ RY R R' ∧ FTr I I' := by
  intro n
  induction n with
  | zero =>
    intro k c N R I m w9 hk h0 c0 ck hD g n0 nN hp hh
    refine ⟨I, R, m, ?_, hD, fun _ _ _ _ => rfl, FTr_rf⟩
    have e : trF ss ln p h f pa 0 m = 0 := rfl
    rw [eq_199_13, e, Int.add_zero]
    simp (disch := first | assumption | omega | (simp (disch := omega) only [vM_u, vS_u]; first | assumption | omega)) only [hK, hL, hR, hI, hN, sI, hSp, hC, hW, li, lr, ↓cnd_a, ↓cnd_o, ↓cnd_n, ↓cnd_d, ↓z0, ↓z1, ↓z2, y0n, y1i, y2r, y0e, y1e, y2e, wl_0, wl_1, wl_2, wl_3, wl_4, wl_5, wl_6, wl_7, wl_8, wl_9, wl_10, wl_11, wl_12, wl_13, wl_14, wl_15, wl_16, wl_17, wl_18, wl_19, wl_20, wl_21, wl_22, wl_23, wl_24, wl_25, wl_26, wl_27, wl_28, wl_29, wl_30, wl_31, wl_32, wl_33, wl_34, wl_35, wl_36, wl_37, wl_38, wl_39, wl_40, wl_41, wl_42, wl_43, wl_44, wl_45, wl_46, wl_47, wl_48, wl_49, wl_50, wl_51, wl_52, wl_53, wl_54, wl_55, wl_56, wl_57, wl_58, wl_59, wl_60, wl_61, wl_62, wl_63, wl_64, wl_65, wl_66, wl_67, wl_68, wl_69, wl_70, wl_71, wl_72, wl_73, wl_74, wl_75, wl_76, wl_77, wl_78, wl_79, wl_80, wl_81, wl_82, wl_83, wl_84, wl_85, wl_86, wl_87, wl_88, wl_89, wl_90, wl_91, wl_92, wl_93, wl_94, wl_95, wl_96, wl_97, wl_98, wl_99, wl_100, wl_101, wl_102, wl_103, wl_104, wl_105, wl_106, wl_107, wl_108, wl_109, wl_110, wl_111, wl_112, wl_113, wl_114, wl_115, wl_116, wl_117, wl_118, wl_119, wl_120, wl_121, wl_122, wl_123, wl_124, wl_125, wl_126, wl_127, wl_128, wl_129, wl_130, wl_159, wl_160, wl_200, wl_232, wl_255, wl_256, wl_300, wl_359, wl_360, wl_400, wl_592, wl_992, wl_999, wl_1000, wl_1024, wl_3456, wl_6512, wl_7104, wl_10000, wl_11264, wl_12345, wl_32767, wl_1000000000, wl_1103515245, wl_2000000000, w_add, w_sub, w_mul, w_neg, w_lt, w_le, w_eq, w_cl, w_in, w_nat, w_max2, w_min2, w_abs2, iltT, iltF, ileT, ileF, ieqT, ieqF, bv_01, bft, bv_0, bv_1, bv_t, bv_f, cond_true, cond_false, Bool.not_true, Bool.not_false, if_true, if_false, true_or, or_true, true_and, and_true, ↓reduceIte, decide_true, decide_false, reduceCtorEq, u2_s, u2_o, u2_k, u2_u2, Bool.true_or, Bool.or_true, Bool.false_or, Bool.or_false, Bool.and_true, Bool.true_and, Bool.and_false, Bool.false_and, eq_self, not_true_eq_false, not_false_eq_true, and_self, and_true, true_and, false_and, and_false, w_dv, dvm]
  | succ n ih =>
    intro k c N R I m w9 hk h0 c0 ck hD g n0 nN hp hh
    obtain ⟨hX, d2, d3, d4, ⟨ss', ln', d5⟩, d6⟩ := hD
    have hB := g.1
    have hps := hB.2.2.2.2.2.2.2.2.2.2.2 p hp.1 hp.2
    obtain ⟨I1, y1, y2, y3, y4⟩ := sp_1 (d := d + 3) (q := 115) (f := f) (p := p) (h := h) (vn := vn) (vc := vc) (vw := vw) (J := J) hX d2 (by omega) d3 (by rw [d4]; exact hB) d5 d6 (by rw [d4]; exact hp) (by rw [d4]; exact hh)
    rw [d4] at y3
    obtain ⟨R1, hR1⟩ : ∃ R1, R1 = u2 R 273 4 (R 115 10) := ⟨_, rfl⟩
    rw [← hR1] at y1 y2
    have ra : RA R R1 := fun a k x => by rw [hR1, u2_r, if_neg x]
    have hX1 := XSH_a ra hX
    have d2' := SHq_a (by omega) ra d2
    obtain ⟨I2, l1, l2, l3⟩ := sp_2 (d := d + 1) (p := p) (h := h) (f := f) (hi := 2) (pa := pa) (vn := vn) (vc := vc) (vw := vw) (J := J) hX1 y2 ⟨y3.1, y3.2.1, y3.2.2.1, y3.2.2.2.2.2.1, y3.2.2.2.2.2.2.1, y3.2.2.2.2.2.2.2⟩
    have f12 : ∀ a k, a < 273 ∨ 276 < a → I2 a k = I a k := fun a k q => by rw [l3 a k q, y4 a k q]
    have W2 : Wd I2 115 := Wd_f' (fun a q => f12 _ _ (by omega)) d3
    have v2 : vS I2 115 = m := by rw [vS_f' (fun a k u1 u2 u3 => f12 _ _ (by omega))]; exact d4
    obtain ⟨I3, e119, v3, w3, f3⟩ := sp_119 (d := d) (q := 115) (vn := vn) (vc := vc) (vw := vw) (J := J) hX1 d2' (by omega) (by omega) W2 v2 hB (PL_mono (by omega) g.2.1) (PT_mono (by omega) g.2.2.2.1) l2 hps hp hh hf
    obtain ⟨g1, g2, g3, g4⟩ := tr_g (f := f) (pa := pa) g (by omega) hp hh hf hb
    have e119' : ev PR (d + 6) 119 [.ref 115, .ref 273] (((vn, vc, vw, K, L, R1), I2, J) : HS) = some (.inl (some (.int (w (trC ss ln p h f pa m)))), (((vn, vc, vw, K, L, R1), I3, J) : HS)) := e119
    have v3' : vS I3 115 = trM ss ln p h f pa m := v3
    have s125 := sp_125 (d := d + 4) (q := 115) (I := I3) (vn := vn) (vc := vc) (vw := vw) (J := J) d2' w3 (by rw [v3']; exact ⟨g3.1, g1.1.2.2.2.2.2.2.2.2.1.2⟩)
    rw [v3', g4] at s125
    have rK : -1 ≤ trK ss ln p h f pa m ∧ trK ss ln p h f pa m < 11 := by
      have u := g1.2.2.1 0 (by omega) (by omega)
      have t := g1.1.1
      rw [g4] at u
      omega
    have rC : -2 ≤ trC ss ln p h f pa m ∧ trC ss ln p h f pa m < 11 := by
      have u := fal_r hB h (thX m p (aX (sy1 ss ln p h f pa m) f) (aS (sy1 ss ln p h f pa m) (pe m p 0))) (thY m p (aY (sy1 ss ln p h f pa m) pa) (aS (sy1 ss ln p h f pa m) (pe m p 0))) (sy1 ss ln p h f pa m 5)
      have t := hB.1
      have e : trC ss ln p h f pa m = fal m h (thX m p (aX (sy1 ss ln p h f pa m) f) (aS (sy1 ss ln p h f pa m) (pe m p 0))) (thY m p (aY (sy1 ss ln p h f pa m) pa) (aS (sy1 ss ln p h f pa m) (pe m p 0))) (sy1 ss ln p h f pa m 5) := rfl
      rw [e]
      omega
    have dN : DrT K L R1 I3 (trM ss ln p h f pa m) ss ln := by
      refine ⟨hX1, d2', w3, v3', ⟨ss, ln, AimOK_f l2.1 (fun a k q => f3 a k (by omega))⟩, ?_⟩
      have er : R1 115 10 = R 115 10 := ra _ _ (by omega)
      have hl := d6.2.1.1
      rw [er]
      exact ALaw_f d6 (fun a k q => by rw [f3 a k (by omega), f12 a k (by omega)]) (ra _ _ (by omega))
    have fN : FTr I I3 := fun a k q => by rw [f3 a k (by omega), f12 a k (by omega)]
    have eF : trF ss ln p h f pa (n + 1) m = hit1 (trC ss ln p h f pa m) (trK ss ln p h f pa m) + trF ss ln p h f pa n (trM ss ln p h f pa m) := rfl
    have hh1 := hit1_b (trC ss ln p h f pa m) (trK ss ln p h f pa m)
    obtain ⟨I', R', m', i1, i2, i3, i4⟩ := ih (k + 1) (c + hit1 (trC ss ln p h f pa m) (trK ss ln p h f pa m)) (N + 1) R1 I3 (trM ss ln p h f pa m) (.int (w (trC ss ln p h f pa m))) (by omega) (by omega) (by omega) (by omega) dN g1 (by omega) (by omega) (by rw [g3.2.2]; exact hp) (by rw [g3.2.1]; exact hh)
    refine ⟨I', R', m', ?_, i2, RY_tr (RA_y ra) i3, FTr_tr fN i4⟩
    rw [eF, ← Int.add_assoc, ← i1, eq_199_13]
    have kq := (SHq_e d2').1
    by_cases cC : 0 ≤ trC ss ln p h f pa m
    · have e1 : hit1 (trC ss ln p h f pa m) (trK ss ln p h f pa m) = 1 := if_pos cC
      rw [e1]
      simp (disch := first | assumption | omega | (simp (disch := omega) only [vM_u, vS_u]; first | assumption | omega)) only [hK, hL, hR, hI, hN, sI, hSp, hC, hW, li, lr, ↓cnd_a, ↓cnd_o, ↓cnd_n, ↓cnd_d, ↓z0, ↓z1, ↓z2, y0n, y1i, y2r, y0e, y1e, y2e, wl_0, wl_1, wl_2, wl_3, wl_4, wl_5, wl_6, wl_7, wl_8, wl_9, wl_10, wl_11, wl_12, wl_13, wl_14, wl_15, wl_16, wl_17, wl_18, wl_19, wl_20, wl_21, wl_22, wl_23, wl_24, wl_25, wl_26, wl_27, wl_28, wl_29, wl_30, wl_31, wl_32, wl_33, wl_34, wl_35, wl_36, wl_37, wl_38, wl_39, wl_40, wl_41, wl_42, wl_43, wl_44, wl_45, wl_46, wl_47, wl_48, wl_49, wl_50, wl_51, wl_52, wl_53, wl_54, wl_55, wl_56, wl_57, wl_58, wl_59, wl_60, wl_61, wl_62, wl_63, wl_64, wl_65, wl_66, wl_67, wl_68, wl_69, wl_70, wl_71, wl_72, wl_73, wl_74, wl_75, wl_76, wl_77, wl_78, wl_79, wl_80, wl_81, wl_82, wl_83, wl_84, wl_85, wl_86, wl_87, wl_88, wl_89, wl_90, wl_91, wl_92, wl_93, wl_94, wl_95, wl_96, wl_97, wl_98, wl_99, wl_100, wl_101, wl_102, wl_103, wl_104, wl_105, wl_106, wl_107, wl_108, wl_109, wl_110, wl_111, wl_112, wl_113, wl_114, wl_115, wl_116, wl_117, wl_118, wl_119, wl_120, wl_121, wl_122, wl_123, wl_124, wl_125, wl_126, wl_127, wl_128, wl_129, wl_130, wl_159, wl_160, wl_200, wl_232, wl_255, wl_256, wl_300, wl_359, wl_360, wl_400, wl_592, wl_992, wl_999, wl_1000, wl_1024, wl_3456, wl_6512, wl_7104, wl_10000, wl_11264, wl_12345, wl_32767, wl_1000000000, wl_1103515245, wl_2000000000, w_add, w_sub, w_mul, w_neg, w_lt, w_le, w_eq, w_cl, w_in, w_nat, w_max2, w_min2, w_abs2, iltT, iltF, ileT, ileF, ieqT, ieqF, bv_01, bft, bv_0, bv_1, bv_t, bv_f, cond_true, cond_false, Bool.not_true, Bool.not_false, if_true, if_false, true_or, or_true, true_and, and_true, ↓reduceIte, decide_true, decide_false, reduceCtorEq, u2_s, u2_o, u2_k, u2_u2, Bool.true_or, Bool.or_true, Bool.false_or, Bool.or_false, Bool.and_true, Bool.true_and, Bool.and_false, Bool.false_and, eq_self, not_true_eq_false, not_false_eq_true, and_self, and_true, true_and, false_and, and_false, w_dv, dvm, XSH_e hX, XSH_e hX1, y1, l1, e119', kq]
    · by_cases cK : 0 ≤ trK ss ln p h f pa m
      · have e1 : hit1 (trC ss ln p h f pa m) (trK ss ln p h f pa m) = 1 := by unfold hit1; rw [if_neg cC, if_pos cK]
        rw [e1]
        simp (disch := first | assumption | omega | (simp (disch := omega) only [vM_u, vS_u]; first | assumption | omega)) only [hK, hL, hR, hI, hN, sI, hSp, hC, hW, li, lr, ↓cnd_a, ↓cnd_o, ↓cnd_n, ↓cnd_d, ↓z0, ↓z1, ↓z2, y0n, y1i, y2r, y0e, y1e, y2e, wl_0, wl_1, wl_2, wl_3, wl_4, wl_5, wl_6, wl_7, wl_8, wl_9, wl_10, wl_11, wl_12, wl_13, wl_14, wl_15, wl_16, wl_17, wl_18, wl_19, wl_20, wl_21, wl_22, wl_23, wl_24, wl_25, wl_26, wl_27, wl_28, wl_29, wl_30, wl_31, wl_32, wl_33, wl_34, wl_35, wl_36, wl_37, wl_38, wl_39, wl_40, wl_41, wl_42, wl_43, wl_44, wl_45, wl_46, wl_47, wl_48, wl_49, wl_50, wl_51, wl_52, wl_53, wl_54, wl_55, wl_56, wl_57, wl_58, wl_59, wl_60, wl_61, wl_62, wl_63, wl_64, wl_65, wl_66, wl_67, wl_68, wl_69, wl_70, wl_71, wl_72, wl_73, wl_74, wl_75, wl_76, wl_77, wl_78, wl_79, wl_80, wl_81, wl_82, wl_83, wl_84, wl_85, wl_86, wl_87, wl_88, wl_89, wl_90, wl_91, wl_92, wl_93, wl_94, wl_95, wl_96, wl_97, wl_98, wl_99, wl_100, wl_101, wl_102, wl_103, wl_104, wl_105, wl_106, wl_107, wl_108, wl_109, wl_110, wl_111, wl_112, wl_113, wl_114, wl_115, wl_116, wl_117, wl_118, wl_119, wl_120, wl_121, wl_122, wl_123, wl_124, wl_125, wl_126, wl_127, wl_128, wl_129, wl_130, wl_159, wl_160, wl_200, wl_232, wl_255, wl_256, wl_300, wl_359, wl_360, wl_400, wl_592, wl_992, wl_999, wl_1000, wl_1024, wl_3456, wl_6512, wl_7104, wl_10000, wl_11264, wl_12345, wl_32767, wl_1000000000, wl_1103515245, wl_2000000000, w_add, w_sub, w_mul, w_neg, w_lt, w_le, w_eq, w_cl, w_in, w_nat, w_max2, w_min2, w_abs2, iltT, iltF, ileT, ileF, ieqT, ieqF, bv_01, bft, bv_0, bv_1, bv_t, bv_f, cond_true, cond_false, Bool.not_true, Bool.not_false, if_true, if_false, true_or, or_true, true_and, and_true, ↓reduceIte, decide_true, decide_false, reduceCtorEq, u2_s, u2_o, u2_k, u2_u2, Bool.true_or, Bool.or_true, Bool.false_or, Bool.or_false, Bool.and_true, Bool.true_and, Bool.and_false, Bool.false_and, eq_self, not_true_eq_false, not_false_eq_true, and_self, and_true, true_and, false_and, and_false, w_dv, dvm, XSH_e hX, XSH_e hX1, y1, l1, e119', kq, s125]
      · have e1 : hit1 (trC ss ln p h f pa m) (trK ss ln p h f pa m) = 0 := by unfold hit1; rw [if_neg cC, if_neg cK]
        rw [e1, Int.add_zero]
        simp (disch := first | assumption | omega | (simp (disch := omega) only [vM_u, vS_u]; first | assumption | omega)) only [hK, hL, hR, hI, hN, sI, hSp, hC, hW, li, lr, ↓cnd_a, ↓cnd_o, ↓cnd_n, ↓cnd_d, ↓z0, ↓z1, ↓z2, y0n, y1i, y2r, y0e, y1e, y2e, wl_0, wl_1, wl_2, wl_3, wl_4, wl_5, wl_6, wl_7, wl_8, wl_9, wl_10, wl_11, wl_12, wl_13, wl_14, wl_15, wl_16, wl_17, wl_18, wl_19, wl_20, wl_21, wl_22, wl_23, wl_24, wl_25, wl_26, wl_27, wl_28, wl_29, wl_30, wl_31, wl_32, wl_33, wl_34, wl_35, wl_36, wl_37, wl_38, wl_39, wl_40, wl_41, wl_42, wl_43, wl_44, wl_45, wl_46, wl_47, wl_48, wl_49, wl_50, wl_51, wl_52, wl_53, wl_54, wl_55, wl_56, wl_57, wl_58, wl_59, wl_60, wl_61, wl_62, wl_63, wl_64, wl_65, wl_66, wl_67, wl_68, wl_69, wl_70, wl_71, wl_72, wl_73, wl_74, wl_75, wl_76, wl_77, wl_78, wl_79, wl_80, wl_81, wl_82, wl_83, wl_84, wl_85, wl_86, wl_87, wl_88, wl_89, wl_90, wl_91, wl_92, wl_93, wl_94, wl_95, wl_96, wl_97, wl_98, wl_99, wl_100, wl_101, wl_102, wl_103, wl_104, wl_105, wl_106, wl_107, wl_108, wl_109, wl_110, wl_111, wl_112, wl_113, wl_114, wl_115, wl_116, wl_117, wl_118, wl_119, wl_120, wl_121, wl_122, wl_123, wl_124, wl_125, wl_126, wl_127, wl_128, wl_129, wl_130, wl_159, wl_160, wl_200, wl_232, wl_255, wl_256, wl_300, wl_359, wl_360, wl_400, wl_592, wl_992, wl_999, wl_1000, wl_1024, wl_3456, wl_6512, wl_7104, wl_10000, wl_11264, wl_12345, wl_32767, wl_1000000000, wl_1103515245, wl_2000000000, w_add, w_sub, w_mul, w_neg, w_lt, w_le, w_eq, w_cl, w_in, w_nat, w_max2, w_min2, w_abs2, iltT, iltF, ileT, ileF, ieqT, ieqF, bv_01, bft, bv_0, bv_1, bv_t, bv_f, cond_true, cond_false, Bool.not_true, Bool.not_false, if_true, if_false, true_or, or_true, true_and, and_true, ↓reduceIte, decide_true, decide_false, reduceCtorEq, u2_s, u2_o, u2_k, u2_u2, Bool.true_or, Bool.or_true, Bool.false_or, Bool.or_false, Bool.and_true, Bool.true_and, Bool.and_false, Bool.false_and, eq_self, not_true_eq_false, not_false_eq_true, and_self, and_true, true_and, false_and, and_false, w_dv, dvm, XSH_e hX, XSH_e hX1, y1, l1, e119', kq, s125]
theorem sp_199 {d : Nat} {m : Int → Int} {ss : List Int} {ln mk p h f pa nn sd N : Int} (hQ : CQ K L R I m ss ln mk) (hSd : SHq K L R 115) (hWe : Wd I 115) (g : GD N m) (hN : 0 ≤ N ∧ N ≤ 1000) (hp : 0 ≤ p ∧ p < m 5) (hh : 0 ≤ h ∧ h < m 4) (hf : (0 ≤ f ∧ f ≤ 59) ∧ 0 ≤ pa ∧ pa ≤ 11) (hb : ∀ F k, 0 ≤ evS ss ln F k ∧ evS ss ln F k ≤ 758) (hnn : 0 ≤ nn ∧ nn ≤ 40) (hsd : (-2147483648 ≤ sd ∧ sd < 2147483648)) :
    ∃ I' R', ev PR (d + 7) 199 [.ref 79, .int (w p), .int (w h), .int (w f), .int (w pa), .int (w nn), .int (w sd)] (((vn, vc, vw, K, L, R), I, J) : HS) = some (.inl (some (.int (w (trF ss ln p h f pa nn.toNat (setm m 15 sd))))), (((vn, vc, vw, K, L, R'), I', J) : HS)) ∧ CQ K L R' I' m ss ln mk ∧ FY I I' ∧ RY R R' ∧ Wd I' 115 := by
  obtain ⟨hX, g2, g3, g4, g5, g6, ⟨ss', ln', g7⟩, g8⟩ := id hQ
  have hS := g2
  obtain ⟨I1, x1, v1, w1, f1⟩ := sp_104 (d := d + 4) (q0 := 115) (q1 := 91) (vn := vn) (vc := vc) (vw := vw) (J := J) hSd g2 g3 (by omega) (by rw [g4]; exact SzB_BD g5)
  rw [g4] at v1
  have f1' : ∀ a k, ¬(115 ≤ a ∧ a ≤ 125) → I1 a k = I a k := fun a k h => f1 a k (by omega)
  obtain ⟨R1, hR1⟩ : ∃ R1, R1 = u2 R 115 10 (R 91 10) := ⟨_, rfl⟩
  rw [← hR1] at x1
  have ry : RY R R1 := fun a k _ y => by rw [hR1, u2_r, if_neg y]
  have r10 : R1 115 10 = R 91 10 := by rw [hR1, u2_s]
  obtain ⟨I2, hI2⟩ : ∃ I2, I2 = u2 I1 115 18 (w sd) := ⟨_, rfl⟩
  have f2 : ∀ a k, ¬(115 ≤ a ∧ a ≤ 125) → I2 a k = I a k := fun a k q => by rw [hI2, u2_o _ _ _ _ (by omega), f1' a k q]
  have hX1 := XSH_y ry hX
  have hSd1 := SHq_y (by omega) ry hSd
  have v2 : vS I2 115 = setm m 15 sd := by rw [hI2, vS_fld (z := 15) (by omega), v1, w_toInt hsd]
  have W2 : Wd I2 115 := by rw [hI2]; exact Wd_fld (w1 hWe)
  have A2 : AimOK K L R1 I2 ss' ln' := by
    have z := AimOK_f (I' := I2) g7 (fun a k q => f2 _ _ (by omega))
    obtain ⟨a1, a2⟩ := z
    have e : R1 273 4 = R 273 4 := by rw [hR1, u2_o _ _ _ _ (by decide)]
    have hl := a1.2.1.1
    refine ⟨?_, a2⟩
    rw [e]
    exact ALaw_f a1 (fun _ _ _ => rfl) (by rw [hR1, u2_o _ _ _ _ (by omega)])
  have gL2 : ALaw K L R1 I2 (R1 115 10) ss ln := by
    have hl := g6.2.1.1
    rw [r10]
    exact ALaw_f g6 (fun a k x => f2 _ _ (by omega)) (by rw [hR1, u2_o _ _ _ _ (by omega)])
  obtain ⟨G1, G2⟩ := GD_15 (v := sd) g
  obtain ⟨I', R', m', e1, dT, r1, t1'⟩ := lp_199 (d := d) (p := p) (h := h) (f := f) (pa := pa) (nn := nn) (sd := sd) (vn := vn) (vc := vc) (vw := vw) (J := J) hf hb hnn nn.toNat 0 0 N R1 I2 (setm m 15 sd) (.retAddr 0) (by omega) (by omega) (by omega) (by omega) ⟨hX1, hSd1, W2, v2, ⟨_, _, A2⟩, gL2⟩ G1 hN.1 (by omega) (by rw [setm_o _ (by omega)]; exact hp) (by rw [setm_o _ (by omega)]; exact hh)
  rw [Int.zero_add] at e1
  obtain ⟨q1, q2, q3, q4, q5, q6⟩ := dT
  have ry2 : RY R R' := RY_tr ry r1
  have fy : FY I I' := fun a k x y z u => by rw [t1' a k (by omega), f2 a k (by omega)]
  have hO : OddsI I' mk := OddsI_f g8 (fun a k x => by rw [t1' a k (by omega), f2 a k (by omega)])
  refine ⟨I', R', ?_, CQ_y fy ry2 q5 hO hQ, fy, ry2, q3⟩
  rw [eq_199, ← e1]
  have kq := (SHq_e hSd1).1
  have kd := (SHq_e hSd).1
  simp (disch := first | assumption | omega | (simp (disch := omega) only [vM_u, vS_u]; first | assumption | omega)) only [hK, hL, hR, hI, hN, sI, hSp, hC, hW, li, lr, ↓cnd_a, ↓cnd_o, ↓cnd_n, ↓cnd_d, ↓z0, ↓z1, ↓z2, y0n, y1i, y2r, y0e, y1e, y2e, wl_0, wl_1, wl_2, wl_3, wl_4, wl_5, wl_6, wl_7, wl_8, wl_9, wl_10, wl_11, wl_12, wl_13, wl_14, wl_15, wl_16, wl_17, wl_18, wl_19, wl_20, wl_21, wl_22, wl_23, wl_24, wl_25, wl_26, wl_27, wl_28, wl_29, wl_30, wl_31, wl_32, wl_33, wl_34, wl_35, wl_36, wl_37, wl_38, wl_39, wl_40, wl_41, wl_42, wl_43, wl_44, wl_45, wl_46, wl_47, wl_48, wl_49, wl_50, wl_51, wl_52, wl_53, wl_54, wl_55, wl_56, wl_57, wl_58, wl_59, wl_60, wl_61, wl_62, wl_63, wl_64, wl_65, wl_66, wl_67, wl_68, wl_69, wl_70, wl_71, wl_72, wl_73, wl_74, wl_75, wl_76, wl_77, wl_78, wl_79, wl_80, wl_81, wl_82, wl_83, wl_84, wl_85, wl_86, wl_87, wl_88, wl_89, wl_90, wl_91, wl_92, wl_93, wl_94, wl_95, wl_96, wl_97, wl_98, wl_99, wl_100, wl_101, wl_102, wl_103, wl_104, wl_105, wl_106, wl_107, wl_108, wl_109, wl_110, wl_111, wl_112, wl_113, wl_114, wl_115, wl_116, wl_117, wl_118, wl_119, wl_120, wl_121, wl_122, wl_123, wl_124, wl_125, wl_126, wl_127, wl_128, wl_129, wl_130, wl_159, wl_160, wl_200, wl_232, wl_255, wl_256, wl_300, wl_359, wl_360, wl_400, wl_592, wl_992, wl_999, wl_1000, wl_1024, wl_3456, wl_6512, wl_7104, wl_10000, wl_11264, wl_12345, wl_32767, wl_1000000000, wl_1103515245, wl_2000000000, w_add, w_sub, w_mul, w_neg, w_lt, w_le, w_eq, w_cl, w_in, w_nat, w_max2, w_min2, w_abs2, iltT, iltF, ileT, ileF, ieqT, ieqF, bv_01, bft, bv_0, bv_1, bv_t, bv_f, cond_true, cond_false, Bool.not_true, Bool.not_false, if_true, if_false, true_or, or_true, true_and, and_true, ↓reduceIte, decide_true, decide_false, reduceCtorEq, u2_s, u2_o, u2_k, u2_u2, Bool.true_or, Bool.or_true, Bool.false_or, Bool.or_false, Bool.and_true, Bool.true_and, Bool.and_false, Bool.false_and, eq_self, not_true_eq_false, not_false_eq_true, and_self, and_true, true_and, false_and, and_false, w_dv, dvm, XSH_e hX, kd, x1, XSH_e hX1, kq]
  rw [hI2]
end TRC
